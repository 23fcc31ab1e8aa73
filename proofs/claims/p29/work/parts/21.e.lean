/-! calls that change nothing: what they answer -/
def qy (S : Nat → RD) (r d : Int) (f : RD → Int) : Int := if 0 ≤ r ∧ r ≤ 3 then f (S r.toNat) else d
theorem qy_in {S : Nat → RD} {r d : Int} {f : RD → Int} {i : Nat} (hi : i < 4) (hr : r = (i : Int)) : qy S r d f = f (S i) := by
  unfold qy
  rw [if_pos (by omega), show r.toNat = i by omega]
theorem qy_out {S : Nat → RD} {r d : Int} {f : RD → Int} (h : r < 0 ∨ 3 < r) : qy S r d f = d := by
  unfold qy
  rw [if_neg (by omega)]
section
variable {S : Nat → RD} {m m1 : Mm} {r d v : Int} {f : RD → Int} {i len : Nat} {Q : Option AV → Sx → Prop}
theorem fq_in (hS : CS S m1) (hi : i < 4) (hr : r = (i : Int)) (q : ∀ m1, CS S m1 → Mo m m1 → Q (some (aI (qy S r d f))) (m1, tl len)) (e : f (S i) = v) (hm : Mo m m1) : Q (some (aI v)) (m1, tl len) := by
  rw [qy_in hi hr, e] at q
  exact q m1 hS hm
theorem fq_out (hS : CS S m) (q : ∀ m1, CS S m1 → Mo m m1 → Q (some (aI (qy S r d f))) (m1, tl len)) (h : r < 0 ∨ 3 < r) : Q (some (aI d)) (m, tl len) := by
  rw [qy_out h] at q
  exact q m hS (fun _ _ _ => rfl)
theorem mq_in (hS : MS S m1) (hi : i < 4) (hr : r = (i : Int)) (q : ∀ m1, MS S m1 → Co1 m m1 → Q (some (aI (qy S r d f))) (m1, tl len)) (e : f (S i) = v) (hm : Co1 m m1) : Q (some (aI v)) (m1, tl len) := by
  rw [qy_in hi hr, e] at q
  exact q m1 hS hm
theorem mq_out (hS : MS S m) (q : ∀ m1, MS S m1 → Co1 m m1 → Q (some (aI (qy S r d f))) (m1, tl len)) (h : r < 0 ∨ 3 < r) : Q (some (aI d)) (m, tl len) := by
  rw [qy_out h] at q
  exact q m hS (fun _ _ _ => rfl)
theorem Mo.rf : Mo m m := fun _ _ _ => rfl
theorem Co1.rf : Co1 m m := fun _ _ _ => rfl
end
def sdR (R : RD) (c : Nat) : Bool := decide (Ct R c = 0) && decide (Rft R c = 0)
noncomputable def aAbout (c w : Int) (R : RD) : Int := cif (inC R c) (if w = 0 then Cg R c.toNat else if w = 1 then Co R c.toNat else if w = 2 then (Cc R c.toNat : Int) else if w = 3 then (Cl R c.toNat : Int) else if w = 4 then (Ck R c.toNat : Int) else if w = 5 then Ctz R c.toNat else if w = 6 then ((clsA R c.toNat).length : Int) else if w = 7 then (Rft R c.toNat : Int) else if w = 8 then (cntN (fun d => decide (Co R d = c)) (Cn R) : Int) else -1) (-1)
noncomputable def aKnotAt (c k w : Int) (R : RD) : Int := cif (inC R c ∧ 0 ≤ k ∧ k < (Ck R c.toNat : Int)) (if w = 0 then (ht (Cp R c.toNat k.toNat) : Int) else if w = 1 then (so (Cp R c.toNat k.toNat) : Int) else if w = 2 then (tu (Cp R c.toNat k.toNat) : Int) else -1) (-1)
def aLevels (R : RD) : Int := if RL R = 0 then -1 else (RL R : Int)
noncomputable def aLevel (l w : Int) (R : RD) : Int := cif (0 ≤ l ∧ l < (RL R : Int)) (if w = 0 then (RF R l.toNat : Int) else if w = 1 then (Rla R l.toNat : Int) else if w = 2 then (Rct R l.toNat : Int) else if w = 3 then (Rme R l.toNat : Int) else -1) (-1)
noncomputable def aNumber (c : Int) (R : RD) : Int := cif (inC R c) (Rtd R c.toNat) (-1)
def unB (R : RD) (c : Int) (n : Nat) : Nat := cntN (fun d => decide (Co R d = c) && !sdR R d) n
def unS (R : RD) (c : Int) (n : Nat) : Nat := sumN (fun d => bif decide (Co R d = c) then Rvl R d else 0) n
noncomputable def aUnder (c : Int) (R : RD) : Int := cif (inC R c ∧ unB R c (Cn R) = 0) (unS R c (Cn R) : Int) (-1)
def spB (R : RD) (s n : Nat) : Nat := cntN (fun p => !sdR R (Sq R s p)) n
def spS (R : RD) (s n : Nat) : Nat := sumN (fun p => Rvl R (Sq R s p)) n
noncomputable def kps (R : RD) (s : Nat) : Int := cif (2 ≤ Sp R s ∧ sdR R (Sw R s) = true ∧ spB R s (Sp R s) = 0) (if spS R s (Sp R s) = Rvl R (Sw R s) then 1 else 0) (-1)
noncomputable def aSumAt (s w : Int) (R : RD) : Int := cif (0 ≤ s ∧ s < (Sn R : Int)) (if w = 0 then (Sw R s.toNat : Int) else if w = 1 then (Sp R s.toNat : Int) else if w = 2 then kps R s.toNat else cif (10 ≤ w ∧ w - 10 < (Sp R s.toNat : Int)) (Sq R s.toNat (w - 10).toNat : Int) (-1)) (-1)
def aCount (w : Int) (R : RD) : Int := if w = 0 then (Cn R : Int) else if w = 1 then (sumN (Ck R) (Cn R) : Int) else if w = 2 then (Sn R : Int) else if w = 3 then (Cq R : Int) else if w = 4 then (cntN (fun d => decide (Ct R d ≠ 0)) (Cn R) : Int) else if w = 5 then (cntN (fun d => decide (Rft R d ≠ 0)) (Cn R) : Int) else if w = 6 then (cntN (fun d => decide (Co R d = -1)) (Cn R) : Int) else -1
theorem cntN_mono (p : Nat → Bool) (n : Nat) : ∀ d, cntN p n ≤ cntN p (n + d) := by
  intro d
  induction d with
  | zero => exact Nat.le_refl _
  | succ d ih => show _ ≤ cntN p (n + d) + bn (p (n + d)); omega
theorem cntN_pos {p : Nat → Bool} {i n : Nat} (h : i < n) (hp : p i = true) : cntN p n ≠ 0 := by
  have h1 := cntN_mono p (i + 1) (n - (i + 1))
  rw [show i + 1 + (n - (i + 1)) = n by omega] at h1
  have h2 : cntN p (i + 1) = cntN p i + 1 := by show cntN p i + bn (p i) = _; rw [hp]; rfl
  omega
theorem sdR_t {R : RD} {c : Nat} (h1 : Ct R c = 0) (h2 : Rft R c = 0) : sdR R c = true := by unfold sdR; rw [decide_eq_true h1, decide_eq_true h2]; rfl
theorem sdR_f {R : RD} {c : Nat} (h : Ct R c ≠ 0 ∨ Rft R c ≠ 0) : sdR R c = false := by
  unfold sdR
  rcases h with h | h
  · rw [decide_eq_false h]; rfl
  · rw [decide_eq_false h]; simp
section
variable {len : Nat} {m : Mm} {Q : Option AV → Sx → Prop} {S : Nat → RD} {r c k l s w : Int}
theorem C_about (hS : CS S m) (q : ∀ m1, CS S m1 → Mo m m1 → Q (some (aI (qy S r (-1) (aAbout c w)))) (m1, tl len)) : E 67 0 [some (aA 1), some (aI (r)), some (aI (c)), some (aI (w)), none, none] [] (m, tl len) Q := by
  refine E_s (p' := 1) (st' := aA 1 :: _) rfl rfl ?_
  refine E_s (p' := 2) (st' := aI (r) :: _) rfl rfl ?_
  refine E_callV (k' := 12) (a := 1) (r := []) (L0 := [some (aA 1), some (aI (r))]) rfl rfl rfl rfl rfl rfl rfl rfl rfl rfl ?_
  refine c_recordOf' (fun i a hi hr ha hR => ?_) (fun hr => ?_)
  · refine E_go (p' := 5) (L' := [some (aA 1), some (aI (r)), some (aI (c)), some (aI (w)), none, none]) (st' := [aA a]) rfl rfl rfl ?_
    obtain ⟨hV, hC, hrd⟩ := hS i hi
    rw [← ha] at hC hrd
    have hn60 := hV.1
    have hab := isR_b hR
    have hs40 := hV.2.2.2.2.1
    have hS1 := hS
    have hMo : Mo m m := Mo.rf
    refine E_s (p' := 7) (L' := [some (aA 1), some (aI (r)), some (aI (c)), some (aI (w)), some (aA a), none]) rfl rfl ?_
    refine E_s (p' := 9) (st' := aA a :: _) rfl rfl ?_
    refine E_s (p' := 12) rfl rfl ?_
    refine E_s (p' := 14) (st' := aA a :: _) rfl rfl ?_
    refine E_gA (b := a + 1) rfl rfl rfl (kR_0 hR) (hR_0_0 hR) rfl ?_
    refine E_s (p' := 18) (st' := aI (c) :: _) rfl rfl ?_
    refine E_callV (k' := 17) (a := a + 1) (r := []) (L0 := [some (aA (a + 1)), some (aI (c))]) rfl rfl rfl rfl rfl (kR_1 hR) rfl rfl rfl rfl ?_
    refine c_has hR hC (fun ci he_ci hc_ci => ?_) (fun hno => ?_)
    · refine E_go (p' := 21) (L' := [some (aA 1), some (aI (r)), some (aI (c)), some (aI (w)), some (aA a), none]) (st' := [aI 1]) rfl rfl rfl ?_
      subst he_ci
      refine E_s (p' := 26) rfl rfl ?_
      refine E_s (p' := 28) (st' := aA a :: _) rfl rfl ?_
      refine E_gA (b := a + 1) rfl rfl rfl (kR_0 hR) (hR_0_0 hR) rfl ?_
      refine E_s (p' := 33) (L' := [some (aA 1), some (aI (r)), some (aI ((ci : Nat) : Int)), some (aI (w)), some (aA a), some (aA (a + 1))]) rfl rfl ?_
      refine E_s (p' := 34) (st' := aI (w) :: _) rfl rfl ?_
      rcases (show (w) = 0 ∨ (w) = 1 ∨ (w) = 2 ∨ (w) = 3 ∨ (w) = 4 ∨ (w) = 5 ∨ (w) = 6 ∨ (w) = 7 ∨ (w) = 8 ∨ ((w) ≠ 0 ∧ (w) ≠ 1 ∧ (w) ≠ 2 ∧ (w) ≠ 3 ∧ (w) ≠ 4 ∧ (w) ≠ 5 ∧ (w) ≠ 6 ∧ (w) ≠ 7 ∧ (w) ≠ 8) by omega) with h_1 | h_2 | h_3 | h_4 | h_5 | h_6 | h_7 | h_8 | h_9 | h_10
      · refine E_valv h_1 ?_
        refine E_s (p' := 84) rfl rfl ?_
        refine E_s (p' := 86) (st' := aA (a + 1) :: _) rfl rfl ?_
        refine E_gA (b := a + 2) rfl rfl rfl (kR_1 hR) (hR_1_0 hR) rfl ?_
        refine E_s (p' := 90) (st' := aI ((ci : Nat) : Int) :: _) rfl rfl ?_
        refine E_ald (e := ci) (N := 60) (v := ((Cg (S i) ci))) rfl (kR_2 hR) (rfl) (by omega) (CR_2 hC (by omega)) ?_
        refine E_ret rfl rfl ?_
        exact fq_in hS1 hi hr q (by unfold aAbout; rw [cif_pos (by unfold inC; omega)]; (try simp only [Int.toNat_natCast]); rw [if_pos (by omega)]) hMo
      · refine E_valv h_2 ?_
        refine E_s (p' := 92) rfl rfl ?_
        refine E_s (p' := 94) (st' := aA (a + 1) :: _) rfl rfl ?_
        refine E_gA (b := a + 3) rfl rfl rfl (kR_1 hR) (hR_1_1 hR) rfl ?_
        refine E_s (p' := 98) (st' := aI ((ci : Nat) : Int) :: _) rfl rfl ?_
        refine E_ald (e := ci) (N := 60) (v := ((Co (S i) ci))) rfl (kR_3 hR) (rfl) (by omega) (CR_3 hC (by omega)) ?_
        refine E_ret rfl rfl ?_
        exact fq_in hS1 hi hr q (by unfold aAbout; rw [cif_pos (by unfold inC; omega)]; (try simp only [Int.toNat_natCast]); rw [if_neg (by omega), if_pos (by omega)]) hMo
      · refine E_valv h_3 ?_
        refine E_s (p' := 100) rfl rfl ?_
        refine E_s (p' := 102) (st' := aA (a + 1) :: _) rfl rfl ?_
        refine E_gA (b := a + 4) rfl rfl rfl (kR_1 hR) (hR_1_2 hR) rfl ?_
        refine E_s (p' := 106) (st' := aI ((ci : Nat) : Int) :: _) rfl rfl ?_
        refine E_ald (e := ci) (N := 60) (v := ((Cc (S i) ci : Nat) : Int)) rfl (kR_4 hR) (rfl) (by omega) (CR_4 hC (by omega)) ?_
        refine E_ret rfl rfl ?_
        exact fq_in hS1 hi hr q (by unfold aAbout; rw [cif_pos (by unfold inC; omega)]; (try simp only [Int.toNat_natCast]); rw [if_neg (by omega), if_neg (by omega), if_pos (by omega)]) hMo
      · refine E_valv h_4 ?_
        refine E_s (p' := 108) rfl rfl ?_
        refine E_s (p' := 110) (st' := aA (a + 1) :: _) rfl rfl ?_
        refine E_gA (b := a + 5) rfl rfl rfl (kR_1 hR) (hR_1_3 hR) rfl ?_
        refine E_s (p' := 114) (st' := aI ((ci : Nat) : Int) :: _) rfl rfl ?_
        refine E_ald (e := ci) (N := 60) (v := ((Cl (S i) ci : Nat) : Int)) rfl (kR_5 hR) (rfl) (by omega) (CR_5 hC (by omega)) ?_
        refine E_ret rfl rfl ?_
        exact fq_in hS1 hi hr q (by unfold aAbout; rw [cif_pos (by unfold inC; omega)]; (try simp only [Int.toNat_natCast]); rw [if_neg (by omega), if_neg (by omega), if_neg (by omega), if_pos (by omega)]) hMo
      · refine E_valv h_5 ?_
        refine E_s (p' := 116) rfl rfl ?_
        refine E_s (p' := 118) (st' := aA (a + 1) :: _) rfl rfl ?_
        refine E_gA (b := a + 7) rfl rfl rfl (kR_1 hR) (hR_1_5 hR) rfl ?_
        refine E_s (p' := 122) (st' := aI ((ci : Nat) : Int) :: _) rfl rfl ?_
        refine E_ald (e := ci) (N := 60) (v := ((Ck (S i) ci : Nat) : Int)) rfl (kR_7 hR) (rfl) (by omega) (CR_7 hC (by omega)) ?_
        refine E_ret rfl rfl ?_
        exact fq_in hS1 hi hr q (by unfold aAbout; rw [cif_pos (by unfold inC; omega)]; (try simp only [Int.toNat_natCast]); rw [if_neg (by omega), if_neg (by omega), if_neg (by omega), if_neg (by omega), if_pos (by omega)]) hMo
      · refine E_valv h_6 ?_
        refine E_s (p' := 124) rfl rfl ?_
        refine E_s (p' := 126) (st' := aA (a + 1) :: _) rfl rfl ?_
        refine E_gA (b := a + 6) rfl rfl rfl (kR_1 hR) (hR_1_4 hR) rfl ?_
        refine E_s (p' := 130) (st' := aI ((ci : Nat) : Int) :: _) rfl rfl ?_
        refine E_ald (e := ci) (N := 60) (v := ((Ct (S i) ci : Nat) : Int)) rfl (kR_6 hR) (rfl) (by omega) (CR_6 hC (by omega)) ?_
        refine E_if_ne (x := ((Ct (S i) ci : Nat) : Int)) rfl (by decide) (fun h_11 => ?_) (fun h_11 => ?_)
        · refine E_go (p' := 138) (L' := [some (aA 1), some (aI (r)), some (aI ((ci : Nat) : Int)), some (aI (w)), some (aA a), some (aA (a + 1))]) (st' := []) rfl rfl rfl ?_
          refine E_s (p' := 140) (st' := aA (a + 1) :: _) rfl rfl ?_
          refine E_gA (b := a + 6) rfl rfl rfl (kR_1 hR) (hR_1_4 hR) rfl ?_
          refine E_s (p' := 144) (st' := aI ((ci : Nat) : Int) :: _) rfl rfl ?_
          refine E_ald (e := ci) (N := 60) (v := ((Ct (S i) ci : Nat) : Int)) rfl (kR_6 hR) (rfl) (by omega) (CR_6 hC (by omega)) ?_
          refine E_ret rfl rfl ?_
          exact fq_in hS1 hi hr q (by unfold aAbout; rw [cif_pos (by unfold inC; omega)]; (try simp only [Int.toNat_natCast]); rw [if_neg (by omega), if_neg (by omega), if_neg (by omega), if_neg (by omega), if_neg (by omega), if_pos (by omega)]; unfold Ctz; rw [if_neg (by omega)]) hMo
        · refine E_go (p' := 134) (L' := [some (aA 1), some (aI (r)), some (aI ((ci : Nat) : Int)), some (aI (w)), some (aA a), some (aA (a + 1))]) (st' := []) rfl rfl rfl ?_
          refine E_s (p' := 135) (st' := aI (-1) :: _) rfl rfl ?_
          refine E_s (p' := 145) rfl rfl ?_
          refine E_ret rfl rfl ?_
          exact fq_in hS1 hi hr q (by unfold aAbout; rw [cif_pos (by unfold inC; omega)]; (try simp only [Int.toNat_natCast]); rw [if_neg (by omega), if_neg (by omega), if_neg (by omega), if_neg (by omega), if_neg (by omega), if_pos (by omega)]; unfold Ctz; rw [if_pos (by omega)]) hMo
      · refine E_valv h_7 ?_
        refine E_s (p' := 146) rfl rfl ?_
        refine E_s (p' := 148) (st' := aA a :: _) rfl rfl ?_
        refine E_callV (k' := 35) (a := a) (r := []) (L0 := [some (aA a)]) rfl rfl rfl rfl rfl (kR_0 hR) rfl rfl rfl rfl ?_
        refine c_readNow hR (ha ▸ hS i hi) (fun m1 h1 hd hF1 => ?_)
        refine E_go (p' := 151) (L' := [some (aA 1), some (aI (r)), some (aI ((ci : Nat) : Int)), some (aI (w)), some (aA a), some (aA (a + 1))]) (st' := [aA (a + 15)]) rfl rfl rfl ?_
        have hS1 : CS S m1 := by have := hS.set hi ha h1 (fun b j hb => hF1 b j (by omega)); rw [upf_self] at this; exact this
        have hMo : Mo m m1 := fun b j hb => hF1 b j (by omega)
        have hC := h1.2.1
        refine E_gA (b := a + 20) rfl rfl rfl (kR_15 hR) (hR_15_4 hR) rfl ?_
        refine E_s (p' := 155) (st' := aI ((ci : Nat) : Int) :: _) rfl rfl ?_
        refine E_ald (e := ci) (N := 60) (v := (((clsA (S i) ci).length : Nat) : Int)) rfl (kR_20 hR) (rfl) (by omega) (hd.2.2.2 _ (by omega)).1 ?_
        refine E_ret rfl rfl ?_
        exact fq_in hS1 hi hr q (by unfold aAbout; rw [cif_pos (by unfold inC; omega)]; (try simp only [Int.toNat_natCast]); rw [if_neg (by omega), if_neg (by omega), if_neg (by omega), if_neg (by omega), if_neg (by omega), if_neg (by omega), if_pos (by omega)]) hMo
      · refine E_valv h_8 ?_
        refine E_s (p' := 157) rfl rfl ?_
        refine E_s (p' := 159) (st' := aA a :: _) rfl rfl ?_
        refine E_callV (k' := 35) (a := a) (r := []) (L0 := [some (aA a)]) rfl rfl rfl rfl rfl (kR_0 hR) rfl rfl rfl rfl ?_
        refine c_readNow hR (ha ▸ hS i hi) (fun m1 h1 hd hF1 => ?_)
        refine E_go (p' := 162) (L' := [some (aA 1), some (aI (r)), some (aI ((ci : Nat) : Int)), some (aI (w)), some (aA a), some (aA (a + 1))]) (st' := [aA (a + 15)]) rfl rfl rfl ?_
        have hS1 : CS S m1 := by have := hS.set hi ha h1 (fun b j hb => hF1 b j (by omega)); rw [upf_self] at this; exact this
        have hMo : Mo m m1 := fun b j hb => hF1 b j (by omega)
        have hC := h1.2.1
        refine E_gA (b := a + 21) rfl rfl rfl (kR_15 hR) (hR_15_5 hR) rfl ?_
        refine E_s (p' := 166) (st' := aI ((ci : Nat) : Int) :: _) rfl rfl ?_
        refine E_ald (e := ci) (N := 60) (v := ((Rft (S i) ci : Nat) : Int)) rfl (kR_21 hR) (rfl) (by omega) (hd.2.2.2 _ (by omega)).2.1 ?_
        refine E_ret rfl rfl ?_
        exact fq_in hS1 hi hr q (by unfold aAbout; rw [cif_pos (by unfold inC; omega)]; (try simp only [Int.toNat_natCast]); rw [if_neg (by omega), if_neg (by omega), if_neg (by omega), if_neg (by omega), if_neg (by omega), if_neg (by omega), if_neg (by omega), if_pos (by omega)]) hMo
      · refine E_valv h_9 ?_
        refine E_s (p' := 168) rfl rfl ?_
        refine E_s (p' := 170) (st' := aA (a + 1) :: _) rfl rfl ?_
        refine E_s (p' := 171) (st' := aI ((ci : Nat) : Int) :: _) rfl rfl ?_
        refine E_callV (k' := 68) (a := a + 1) (r := []) (L0 := [some (aA (a + 1)), some (aI ((ci : Nat) : Int)), none, none]) rfl rfl rfl rfl rfl (kR_1 hR) rfl rfl rfl rfl ?_
        refine c_howManyOn hR hC hV ?_
        refine E_go (p' := 174) (L' := [some (aA 1), some (aI (r)), some (aI ((ci : Nat) : Int)), some (aI (w)), some (aA a), some (aA (a + 1))]) (st' := [aI ((cntN (fun d => decide (Co (S i) d = ((ci : Nat) : Int))) (Cn (S i)) : Nat) : Int)]) rfl rfl rfl ?_
        refine E_ret rfl rfl ?_
        exact fq_in hS1 hi hr q (by unfold aAbout; rw [cif_pos (by unfold inC; omega)]; (try simp only [Int.toNat_natCast]); rw [if_neg (by omega), if_neg (by omega), if_neg (by omega), if_neg (by omega), if_neg (by omega), if_neg (by omega), if_neg (by omega), if_neg (by omega), if_pos (by omega)]) hMo
      · refine E_tabO rfl (by omega) (by decide) ?_
        refine E_go (p' := 175) (L' := [some (aA 1), some (aI (r)), some (aI ((ci : Nat) : Int)), some (aI (w)), some (aA a), some (aA (a + 1))]) (st' := []) rfl rfl rfl ?_
        refine E_s (p' := 176) (st' := aI (-1) :: _) rfl rfl ?_
        refine E_ret rfl rfl ?_
        exact fq_in hS1 hi hr q (by unfold aAbout; rw [cif_pos (by unfold inC; omega)]; (try simp only [Int.toNat_natCast]); rw [if_neg (by omega), if_neg (by omega), if_neg (by omega), if_neg (by omega), if_neg (by omega), if_neg (by omega), if_neg (by omega), if_neg (by omega), if_neg (by omega)]) hMo
    · refine E_go (p' := 21) (L' := [some (aA 1), some (aI (r)), some (aI (c)), some (aI (w)), some (aA a), none]) (st' := [aI 0]) rfl rfl rfl ?_
      refine E_s (p' := 24) rfl rfl ?_
      refine E_s (p' := 25) (st' := aI (-1) :: _) rfl rfl ?_
      refine E_ret rfl rfl ?_
      exact fq_in hS1 hi hr q (by unfold aAbout; rw [cif_neg (by unfold inC; omega)]) hMo
  · refine E_go (p' := 5) (L' := [some (aA 1), some (aI (r)), some (aI (c)), some (aI (w)), none, none]) (st' := [aN]) rfl rfl rfl ?_
    refine E_s (p' := 7) (L' := [some (aA 1), some (aI (r)), some (aI (c)), some (aI (w)), some (aN), none]) rfl rfl ?_
    refine E_s (p' := 9) (st' := aN :: _) rfl rfl ?_
    refine E_s (p' := 24) rfl rfl ?_
    refine E_s (p' := 25) (st' := aI (-1) :: _) rfl rfl ?_
    refine E_ret rfl rfl ?_
    exact fq_out hS q hr
theorem C_knotAt (hS : CS S m) (q : ∀ m1, CS S m1 → Mo m m1 → Q (some (aI (qy S r (-1) (aKnotAt c k w)))) (m1, tl len)) : E 69 0 [some (aA 1), some (aI (r)), some (aI (c)), some (aI (k)), some (aI (w)), none, none] [] (m, tl len) Q := by
  refine E_s (p' := 1) (st' := aA 1 :: _) rfl rfl ?_
  refine E_s (p' := 2) (st' := aI (r) :: _) rfl rfl ?_
  refine E_callV (k' := 12) (a := 1) (r := []) (L0 := [some (aA 1), some (aI (r))]) rfl rfl rfl rfl rfl rfl rfl rfl rfl rfl ?_
  refine c_recordOf' (fun i a hi hr ha hR => ?_) (fun hr => ?_)
  · refine E_go (p' := 5) (L' := [some (aA 1), some (aI (r)), some (aI (c)), some (aI (k)), some (aI (w)), none, none]) (st' := [aA a]) rfl rfl rfl ?_
    obtain ⟨hV, hC, hrd⟩ := hS i hi
    rw [← ha] at hC hrd
    have hn60 := hV.1
    have hab := isR_b hR
    have hs40 := hV.2.2.2.2.1
    have hS1 := hS
    have hMo : Mo m m := Mo.rf
    refine E_s (p' := 7) (L' := [some (aA 1), some (aI (r)), some (aI (c)), some (aI (k)), some (aI (w)), some (aA a), none]) rfl rfl ?_
    refine E_s (p' := 9) (st' := aA a :: _) rfl rfl ?_
    refine E_s (p' := 12) rfl rfl ?_
    refine E_s (p' := 14) (st' := aA a :: _) rfl rfl ?_
    refine E_gA (b := a + 1) rfl rfl rfl (kR_0 hR) (hR_0_0 hR) rfl ?_
    refine E_s (p' := 18) (st' := aI (c) :: _) rfl rfl ?_
    refine E_callV (k' := 17) (a := a + 1) (r := []) (L0 := [some (aA (a + 1)), some (aI (c))]) rfl rfl rfl rfl rfl (kR_1 hR) rfl rfl rfl rfl ?_
    refine c_has hR hC (fun ci he_ci hc_ci => ?_) (fun hno => ?_)
    · refine E_go (p' := 21) (L' := [some (aA 1), some (aI (r)), some (aI (c)), some (aI (k)), some (aI (w)), some (aA a), none]) (st' := [aI 1]) rfl rfl rfl ?_
      subst he_ci
      refine E_s (p' := 24) rfl rfl ?_
      have hvk := (hV.2.2.1 ci hc_ci).2.2.2.2.2
      refine E_s (p' := 25) (st' := aI (k) :: _) rfl rfl ?_
      refine E_if_lt (x := (k)) rfl (by decide) (fun h_1 => ?_) (fun h_1 => ?_)
      · refine E_go (p' := 42) (L' := [some (aA 1), some (aI (r)), some (aI ((ci : Nat) : Int)), some (aI (k)), some (aI (w)), some (aA a), none]) (st' := []) rfl rfl rfl ?_
        refine E_s (p' := 43) (st' := aI (-1) :: _) rfl rfl ?_
        refine E_ret rfl rfl ?_
        exact fq_in hS1 hi hr q (by unfold aKnotAt; (try simp only [Int.toNat_natCast]); rw [cif_neg (by unfold inC; omega)]) hMo
      · refine E_go (p' := 28) (L' := [some (aA 1), some (aI (r)), some (aI ((ci : Nat) : Int)), some (aI (k)), some (aI (w)), some (aA a), none]) (st' := []) rfl rfl rfl ?_
        refine E_s (p' := 29) (st' := aI (k) :: _) rfl rfl ?_
        refine E_s (p' := 31) (st' := aA a :: _) rfl rfl ?_
        refine E_gA (b := a + 1) rfl rfl rfl (kR_0 hR) (hR_0_0 hR) rfl ?_
        refine E_gA (b := a + 7) rfl rfl rfl (kR_1 hR) (hR_1_5 hR) rfl ?_
        refine E_s (p' := 38) (st' := aI ((ci : Nat) : Int) :: _) rfl rfl ?_
        refine E_ald (e := ci) (N := 60) (v := ((Ck (S i) ci : Nat) : Int)) rfl (kR_7 hR) (rfl) (by omega) (CR_7 hC (by omega)) ?_
        refine E_icmp_lt (x := (k)) (y := ((Ck (S i) ci : Nat) : Int)) rfl (by decide) (fun h_2 => ?_) (fun h_2 => ?_)
        · refine E_go (p' := 44) (L' := [some (aA 1), some (aI (r)), some (aI ((ci : Nat) : Int)), some (aI (k)), some (aI (w)), some (aA a), none]) (st' := []) rfl rfl rfl ?_
          obtain ⟨kn, ek⟩ : ∃ x : Nat, k = (x : Int) := ⟨k.toNat, by omega⟩
          subst ek
          have pkl : Cp (S i) ci kn < 2147483648 := by have := kok_lt hV hc_ci (show kn < Ck (S i) ci by omega) rfl; omega
          refine E_s (p' := 46) (st' := aA a :: _) rfl rfl ?_
          refine E_gA (b := a + 1) rfl rfl rfl (kR_0 hR) (hR_0_0 hR) rfl ?_
          refine E_gA (b := a + 8) rfl rfl rfl (kR_1 hR) (hR_1_6 hR) rfl ?_
          refine E_s (p' := 53) (st' := aI ((ci : Nat) : Int) :: _) rfl rfl ?_
          refine E_s (p' := 55) (st' := aI 30 :: _) rfl rfl ?_
          refine E_mul (v := ((30 * ci : Nat) : Int)) rfl (by omega) (by omega) ?_
          refine E_s (p' := 57) (st' := aI ((kn : Nat) : Int) :: _) rfl rfl ?_
          refine E_add (v := ((30 * ci + kn : Nat) : Int)) rfl (by omega) (by omega) ?_
          refine E_ald (e := 30 * ci + kn) (N := 1800) (v := ((Cp (S i) ci kn : Nat) : Int)) rfl (kR_8 hR) (rfl) (by omega) (CR_8 hC (by omega) (by omega) (by omega)) ?_
          refine E_s (p' := 61) (L' := [some (aA 1), some (aI (r)), some (aI ((ci : Nat) : Int)), some (aI ((kn : Nat) : Int)), some (aI (w)), some (aA a), some (aI ((Cp (S i) ci kn : Nat) : Int))]) rfl rfl ?_
          refine E_s (p' := 63) (st' := aI (w) :: _) rfl rfl ?_
          rcases (show (w) = 0 ∨ (w) = 1 ∨ (w) = 2 ∨ ((w) ≠ 0 ∧ (w) ≠ 1 ∧ (w) ≠ 2) by omega) with h_3 | h_4 | h_5 | h_6
          · refine E_valv h_3 ?_
            refine E_s (p' := 88) rfl rfl ?_
            refine E_s (p' := 90) (st' := aI ((Cp (S i) ci kn : Nat) : Int) :: _) rfl rfl ?_
            refine E_callL (p' := 93) (L0 := [some (aI ((Cp (S i) ci kn : Nat) : Int))]) rfl rfl rfl ?_
            refine c_heightOf (p := Cp (S i) ci kn) (pkl) ?_
            refine E_go (p' := 93) (L' := [some (aA 1), some (aI (r)), some (aI ((ci : Nat) : Int)), some (aI ((kn : Nat) : Int)), some (aI (w)), some (aA a), some (aI ((Cp (S i) ci kn : Nat) : Int))]) (st' := [aI ((ht (Cp (S i) ci kn) : Nat) : Int)]) rfl rfl rfl ?_
            refine E_ret rfl rfl ?_
            exact fq_in hS1 hi hr q (by unfold aKnotAt; (try simp only [Int.toNat_natCast]); rw [cif_pos (by unfold inC; omega), if_pos (by omega)]) hMo
          · refine E_valv h_4 ?_
            refine E_s (p' := 94) rfl rfl ?_
            refine E_s (p' := 96) (st' := aI ((Cp (S i) ci kn : Nat) : Int) :: _) rfl rfl ?_
            refine E_callL (p' := 99) (L0 := [some (aI ((Cp (S i) ci kn : Nat) : Int))]) rfl rfl rfl ?_
            refine c_sortOf (p := Cp (S i) ci kn) (pkl) ?_
            refine E_go (p' := 99) (L' := [some (aA 1), some (aI (r)), some (aI ((ci : Nat) : Int)), some (aI ((kn : Nat) : Int)), some (aI (w)), some (aA a), some (aI ((Cp (S i) ci kn : Nat) : Int))]) (st' := [aI ((so (Cp (S i) ci kn) : Nat) : Int)]) rfl rfl rfl ?_
            refine E_ret rfl rfl ?_
            exact fq_in hS1 hi hr q (by unfold aKnotAt; (try simp only [Int.toNat_natCast]); rw [cif_pos (by unfold inC; omega), if_neg (by omega), if_pos (by omega)]) hMo
          · refine E_valv h_5 ?_
            refine E_s (p' := 100) rfl rfl ?_
            refine E_s (p' := 102) (st' := aI ((Cp (S i) ci kn : Nat) : Int) :: _) rfl rfl ?_
            refine E_callL (p' := 105) (L0 := [some (aI ((Cp (S i) ci kn : Nat) : Int))]) rfl rfl rfl ?_
            refine c_turnsOf (p := Cp (S i) ci kn) (pkl) ?_
            refine E_go (p' := 105) (L' := [some (aA 1), some (aI (r)), some (aI ((ci : Nat) : Int)), some (aI ((kn : Nat) : Int)), some (aI (w)), some (aA a), some (aI ((Cp (S i) ci kn : Nat) : Int))]) (st' := [aI ((tu (Cp (S i) ci kn) : Nat) : Int)]) rfl rfl rfl ?_
            refine E_ret rfl rfl ?_
            exact fq_in hS1 hi hr q (by unfold aKnotAt; (try simp only [Int.toNat_natCast]); rw [cif_pos (by unfold inC; omega), if_neg (by omega), if_neg (by omega), if_pos (by omega)]) hMo
          · refine E_tabO rfl (by omega) (by decide) ?_
            refine E_go (p' := 106) (L' := [some (aA 1), some (aI (r)), some (aI ((ci : Nat) : Int)), some (aI ((kn : Nat) : Int)), some (aI (w)), some (aA a), some (aI ((Cp (S i) ci kn : Nat) : Int))]) (st' := []) rfl rfl rfl ?_
            refine E_s (p' := 107) (st' := aI (-1) :: _) rfl rfl ?_
            refine E_ret rfl rfl ?_
            exact fq_in hS1 hi hr q (by unfold aKnotAt; (try simp only [Int.toNat_natCast]); rw [cif_pos (by unfold inC; omega), if_neg (by omega), if_neg (by omega), if_neg (by omega)]) hMo
        · refine E_go (p' := 42) (L' := [some (aA 1), some (aI (r)), some (aI ((ci : Nat) : Int)), some (aI (k)), some (aI (w)), some (aA a), none]) (st' := []) rfl rfl rfl ?_
          refine E_s (p' := 43) (st' := aI (-1) :: _) rfl rfl ?_
          refine E_ret rfl rfl ?_
          exact fq_in hS1 hi hr q (by unfold aKnotAt; (try simp only [Int.toNat_natCast]); rw [cif_neg (by unfold inC; omega)]) hMo
    · refine E_go (p' := 21) (L' := [some (aA 1), some (aI (r)), some (aI (c)), some (aI (k)), some (aI (w)), some (aA a), none]) (st' := [aI 0]) rfl rfl rfl ?_
      refine E_s (p' := 42) rfl rfl ?_
      refine E_s (p' := 43) (st' := aI (-1) :: _) rfl rfl ?_
      refine E_ret rfl rfl ?_
      exact fq_in hS1 hi hr q (by unfold aKnotAt; (try simp only [Int.toNat_natCast]); rw [cif_neg (by unfold inC; omega)]) hMo
  · refine E_go (p' := 5) (L' := [some (aA 1), some (aI (r)), some (aI (c)), some (aI (k)), some (aI (w)), none, none]) (st' := [aN]) rfl rfl rfl ?_
    refine E_s (p' := 7) (L' := [some (aA 1), some (aI (r)), some (aI (c)), some (aI (k)), some (aI (w)), some (aN), none]) rfl rfl ?_
    refine E_s (p' := 9) (st' := aN :: _) rfl rfl ?_
    refine E_s (p' := 42) rfl rfl ?_
    refine E_s (p' := 43) (st' := aI (-1) :: _) rfl rfl ?_
    refine E_ret rfl rfl ?_
    exact fq_out hS q hr
theorem C_levels (hS : CS S m) (q : ∀ m1, CS S m1 → Mo m m1 → Q (some (aI (qy S r (-2) (aLevels)))) (m1, tl len)) : E 70 0 [some (aA 1), some (aI (r)), none] [] (m, tl len) Q := by
  refine E_s (p' := 1) (st' := aA 1 :: _) rfl rfl ?_
  refine E_s (p' := 2) (st' := aI (r) :: _) rfl rfl ?_
  refine E_callV (k' := 34) (a := 1) (r := []) (L0 := [some (aA 1), some (aI (r)), none]) rfl rfl rfl rfl rfl rfl rfl rfl rfl rfl ?_
  refine c_readOf hS (fun i a m1 hi hr ha hR hS1 hCS hd hMo => ?_) (fun hr => ?_)
  · refine E_go (p' := 5) (L' := [some (aA 1), some (aI (r)), none]) (st' := [aA a]) rfl rfl rfl ?_
    obtain ⟨hV, hC, -⟩ := hCS
    have hn60 := hV.1
    have hab := isR_b hR
    have hs40 := hV.2.2.2.2.1
    refine E_s (p' := 6) (L' := [some (aA 1), some (aI (r)), some (aA a)]) rfl rfl ?_
    refine E_s (p' := 7) (st' := aA a :: _) rfl rfl ?_
    refine E_s (p' := 13) rfl rfl ?_
    refine E_s (p' := 14) (st' := aA a :: _) rfl rfl ?_
    refine E_gA (b := a + 15) rfl rfl rfl (kR_0 hR) (hR_0_4 hR) rfl ?_
    refine E_gI (v := ((RL (S i) : Nat) : Int)) rfl rfl rfl (kR_15 hR) hd.2.1 ?_
    refine E_if_ne (x := ((RL (S i) : Nat) : Int)) rfl (by decide) (fun h_1 => ?_) (fun h_1 => ?_)
    · refine E_go (p' := 27) (L' := [some (aA 1), some (aI (r)), some (aA a)]) (st' := []) rfl rfl rfl ?_
      refine E_s (p' := 28) (st' := aA a :: _) rfl rfl ?_
      refine E_gA (b := a + 15) rfl rfl rfl (kR_0 hR) (hR_0_4 hR) rfl ?_
      refine E_gI (v := ((RL (S i) : Nat) : Int)) rfl rfl rfl (kR_15 hR) hd.2.1 ?_
      refine E_ret rfl rfl ?_
      exact fq_in hS1 hi hr q (by unfold aLevels; rw [if_neg (by omega)]) hMo
    · refine E_go (p' := 23) (L' := [some (aA 1), some (aI (r)), some (aA a)]) (st' := []) rfl rfl rfl ?_
      refine E_s (p' := 24) (st' := aI (-1) :: _) rfl rfl ?_
      refine E_s (p' := 34) rfl rfl ?_
      refine E_ret rfl rfl ?_
      exact fq_in hS1 hi hr q (by unfold aLevels; rw [if_pos (by omega)]) hMo
  · refine E_go (p' := 5) (L' := [some (aA 1), some (aI (r)), none]) (st' := [aN]) rfl rfl rfl ?_
    refine E_s (p' := 6) (L' := [some (aA 1), some (aI (r)), some (aN)]) rfl rfl ?_
    refine E_s (p' := 7) (st' := aN :: _) rfl rfl ?_
    refine E_s (p' := 10) rfl rfl ?_
    refine E_s (p' := 12) (st' := aI (-2) :: _) rfl rfl ?_
    refine E_ret rfl rfl ?_
    exact fq_out hS q hr
theorem C_level (hS : CS S m) (q : ∀ m1, CS S m1 → Mo m m1 → Q (some (aI (qy S r (-1) (aLevel l w)))) (m1, tl len)) : E 71 0 [some (aA 1), some (aI (r)), some (aI (l)), some (aI (w)), none, none] [] (m, tl len) Q := by
  refine E_s (p' := 1) (st' := aA 1 :: _) rfl rfl ?_
  refine E_s (p' := 2) (st' := aI (r) :: _) rfl rfl ?_
  refine E_callV (k' := 34) (a := 1) (r := []) (L0 := [some (aA 1), some (aI (r)), none]) rfl rfl rfl rfl rfl rfl rfl rfl rfl rfl ?_
  refine c_readOf hS (fun i a m1 hi hr ha hR hS1 hCS hd hMo => ?_) (fun hr => ?_)
  · refine E_go (p' := 5) (L' := [some (aA 1), some (aI (r)), some (aI (l)), some (aI (w)), none, none]) (st' := [aA a]) rfl rfl rfl ?_
    obtain ⟨hV, hC, -⟩ := hCS
    have hn60 := hV.1
    have hab := isR_b hR
    have hs40 := hV.2.2.2.2.1
    refine E_s (p' := 7) (L' := [some (aA 1), some (aI (r)), some (aI (l)), some (aI (w)), some (aA a), none]) rfl rfl ?_
    refine E_s (p' := 9) (st' := aA a :: _) rfl rfl ?_
    refine E_s (p' := 12) rfl rfl ?_
    refine E_s (p' := 13) (st' := aI (l) :: _) rfl rfl ?_
    refine E_if_lt (x := (l)) rfl (by decide) (fun h_1 => ?_) (fun h_1 => ?_)
    · refine E_go (p' := 28) (L' := [some (aA 1), some (aI (r)), some (aI (l)), some (aI (w)), some (aA a), none]) (st' := []) rfl rfl rfl ?_
      refine E_s (p' := 29) (st' := aI (-1) :: _) rfl rfl ?_
      refine E_ret rfl rfl ?_
      exact fq_in hS1 hi hr q (by unfold aLevel; rw [cif_neg (by omega)]) hMo
    · refine E_go (p' := 16) (L' := [some (aA 1), some (aI (r)), some (aI (l)), some (aI (w)), some (aA a), none]) (st' := []) rfl rfl rfl ?_
      refine E_s (p' := 17) (st' := aI (l) :: _) rfl rfl ?_
      refine E_s (p' := 19) (st' := aA a :: _) rfl rfl ?_
      refine E_gA (b := a + 15) rfl rfl rfl (kR_0 hR) (hR_0_4 hR) rfl ?_
      refine E_gI (v := ((RL (S i) : Nat) : Int)) rfl rfl rfl (kR_15 hR) hd.2.1 ?_
      refine E_icmp_lt (x := (l)) (y := ((RL (S i) : Nat) : Int)) rfl (by decide) (fun h_2 => ?_) (fun h_2 => ?_)
      · refine E_go (p' := 30) (L' := [some (aA 1), some (aI (r)), some (aI (l)), some (aI (w)), some (aA a), none]) (st' := []) rfl rfl rfl ?_
        obtain ⟨ln, el⟩ : ∃ x : Nat, l = (x : Int) := ⟨l.toNat, by omega⟩
        subst el
        have hmx := RL_mx (S i)
        have hm6 : mxv (Run (S i)) ≤ 6 := by cases Run (S i) <;> decide
        refine E_s (p' := 32) (st' := aA a :: _) rfl rfl ?_
        refine E_gA (b := a + 15) rfl rfl rfl (kR_0 hR) (hR_0_4 hR) rfl ?_
        refine E_s (p' := 37) (L' := [some (aA 1), some (aI (r)), some (aI ((ln : Nat) : Int)), some (aI (w)), some (aA a), some (aA (a + 15))]) rfl rfl ?_
        refine E_s (p' := 38) (st' := aI (w) :: _) rfl rfl ?_
        rcases (show (w) = 0 ∨ (w) = 1 ∨ (w) = 2 ∨ (w) = 3 ∨ ((w) ≠ 0 ∧ (w) ≠ 1 ∧ (w) ≠ 2 ∧ (w) ≠ 3) by omega) with h_3 | h_4 | h_5 | h_6 | h_7
        · refine E_valv h_3 ?_
          refine E_s (p' := 68) rfl rfl ?_
          refine E_s (p' := 70) (st' := aA (a + 15) :: _) rfl rfl ?_
          refine E_gA (b := a + 16) rfl rfl rfl (kR_15 hR) (hR_15_0 hR) rfl ?_
          refine E_s (p' := 74) (st' := aI ((ln : Nat) : Int) :: _) rfl rfl ?_
          refine E_ald (e := ln) (N := 6) (v := ((RF (S i) ln : Nat) : Int)) rfl (kR_16 hR) (rfl) (by omega) (hd.2.2.1 _ (by omega)).1 ?_
          refine E_ret rfl rfl ?_
          exact fq_in hS1 hi hr q (by unfold aLevel; (try simp only [Int.toNat_natCast]); rw [cif_pos (by omega), if_pos (by omega)]) hMo
        · refine E_valv h_4 ?_
          refine E_s (p' := 76) rfl rfl ?_
          refine E_s (p' := 78) (st' := aA (a + 15) :: _) rfl rfl ?_
          refine E_gA (b := a + 17) rfl rfl rfl (kR_15 hR) (hR_15_1 hR) rfl ?_
          refine E_s (p' := 82) (st' := aI ((ln : Nat) : Int) :: _) rfl rfl ?_
          refine E_ald (e := ln) (N := 6) (v := ((Rla (S i) ln : Nat) : Int)) rfl (kR_17 hR) (rfl) (by omega) (hd.2.2.1 _ (by omega)).2.1 ?_
          refine E_ret rfl rfl ?_
          exact fq_in hS1 hi hr q (by unfold aLevel; (try simp only [Int.toNat_natCast]); rw [cif_pos (by omega), if_neg (by omega), if_pos (by omega)]) hMo
        · refine E_valv h_5 ?_
          refine E_s (p' := 84) rfl rfl ?_
          refine E_s (p' := 86) (st' := aA (a + 15) :: _) rfl rfl ?_
          refine E_gA (b := a + 18) rfl rfl rfl (kR_15 hR) (hR_15_2 hR) rfl ?_
          refine E_s (p' := 90) (st' := aI ((ln : Nat) : Int) :: _) rfl rfl ?_
          refine E_ald (e := ln) (N := 6) (v := ((Rct (S i) ln : Nat) : Int)) rfl (kR_18 hR) (rfl) (by omega) (hd.2.2.1 _ (by omega)).2.2.1 ?_
          refine E_ret rfl rfl ?_
          exact fq_in hS1 hi hr q (by unfold aLevel; (try simp only [Int.toNat_natCast]); rw [cif_pos (by omega), if_neg (by omega), if_neg (by omega), if_pos (by omega)]) hMo
        · refine E_valv h_6 ?_
          refine E_s (p' := 92) rfl rfl ?_
          refine E_s (p' := 94) (st' := aA (a + 15) :: _) rfl rfl ?_
          refine E_gA (b := a + 19) rfl rfl rfl (kR_15 hR) (hR_15_3 hR) rfl ?_
          refine E_s (p' := 98) (st' := aI ((ln : Nat) : Int) :: _) rfl rfl ?_
          refine E_ald (e := ln) (N := 6) (v := ((Rme (S i) ln : Nat) : Int)) rfl (kR_19 hR) (rfl) (by omega) (hd.2.2.1 _ (by omega)).2.2.2 ?_
          refine E_ret rfl rfl ?_
          exact fq_in hS1 hi hr q (by unfold aLevel; (try simp only [Int.toNat_natCast]); rw [cif_pos (by omega), if_neg (by omega), if_neg (by omega), if_neg (by omega), if_pos (by omega)]) hMo
        · refine E_tabO rfl (by omega) (by decide) ?_
          refine E_go (p' := 100) (L' := [some (aA 1), some (aI (r)), some (aI ((ln : Nat) : Int)), some (aI (w)), some (aA a), some (aA (a + 15))]) (st' := []) rfl rfl rfl ?_
          refine E_s (p' := 101) (st' := aI (-1) :: _) rfl rfl ?_
          refine E_ret rfl rfl ?_
          exact fq_in hS1 hi hr q (by unfold aLevel; (try simp only [Int.toNat_natCast]); rw [cif_pos (by omega), if_neg (by omega), if_neg (by omega), if_neg (by omega), if_neg (by omega)]) hMo
      · refine E_go (p' := 28) (L' := [some (aA 1), some (aI (r)), some (aI (l)), some (aI (w)), some (aA a), none]) (st' := []) rfl rfl rfl ?_
        refine E_s (p' := 29) (st' := aI (-1) :: _) rfl rfl ?_
        refine E_ret rfl rfl ?_
        exact fq_in hS1 hi hr q (by unfold aLevel; rw [cif_neg (by omega)]) hMo
  · refine E_go (p' := 5) (L' := [some (aA 1), some (aI (r)), some (aI (l)), some (aI (w)), none, none]) (st' := [aN]) rfl rfl rfl ?_
    refine E_s (p' := 7) (L' := [some (aA 1), some (aI (r)), some (aI (l)), some (aI (w)), some (aN), none]) rfl rfl ?_
    refine E_s (p' := 9) (st' := aN :: _) rfl rfl ?_
    refine E_s (p' := 28) rfl rfl ?_
    refine E_s (p' := 29) (st' := aI (-1) :: _) rfl rfl ?_
    refine E_ret rfl rfl ?_
    exact fq_out hS q hr
theorem C_number (hS : CS S m) (q : ∀ m1, CS S m1 → Mo m m1 → Q (some (aI (qy S r (-1) (aNumber c)))) (m1, tl len)) : E 72 0 [some (aA 1), some (aI (r)), some (aI (c)), none] [] (m, tl len) Q := by
  refine E_s (p' := 1) (st' := aA 1 :: _) rfl rfl ?_
  refine E_s (p' := 2) (st' := aI (r) :: _) rfl rfl ?_
  refine E_callV (k' := 34) (a := 1) (r := []) (L0 := [some (aA 1), some (aI (r)), none]) rfl rfl rfl rfl rfl rfl rfl rfl rfl rfl ?_
  refine c_readOf hS (fun i a m1 hi hr ha hR hS1 hCS hd hMo => ?_) (fun hr => ?_)
  · refine E_go (p' := 5) (L' := [some (aA 1), some (aI (r)), some (aI (c)), none]) (st' := [aA a]) rfl rfl rfl ?_
    obtain ⟨hV, hC, -⟩ := hCS
    have hn60 := hV.1
    have hab := isR_b hR
    have hs40 := hV.2.2.2.2.1
    refine E_s (p' := 6) (L' := [some (aA 1), some (aI (r)), some (aI (c)), some (aA a)]) rfl rfl ?_
    refine E_s (p' := 7) (st' := aA a :: _) rfl rfl ?_
    refine E_s (p' := 10) rfl rfl ?_
    refine E_s (p' := 11) (st' := aA a :: _) rfl rfl ?_
    refine E_gA (b := a + 1) rfl rfl rfl (kR_0 hR) (hR_0_0 hR) rfl ?_
    refine E_s (p' := 15) (st' := aI (c) :: _) rfl rfl ?_
    refine E_callV (k' := 17) (a := a + 1) (r := []) (L0 := [some (aA (a + 1)), some (aI (c))]) rfl rfl rfl rfl rfl (kR_1 hR) rfl rfl rfl rfl ?_
    refine c_has hR hC (fun ci he_ci hc_ci => ?_) (fun hno => ?_)
    · refine E_go (p' := 18) (L' := [some (aA 1), some (aI (r)), some (aI (c)), some (aA a)]) (st' := [aI 1]) rfl rfl rfl ?_
      subst he_ci
      refine E_s (p' := 25) rfl rfl ?_
      refine E_s (p' := 26) (st' := aA a :: _) rfl rfl ?_
      refine E_gA (b := a + 15) rfl rfl rfl (kR_0 hR) (hR_0_4 hR) rfl ?_
      refine E_s (p' := 30) (st' := aI ((ci : Nat) : Int) :: _) rfl rfl ?_
      refine E_callV (k' := 55) (a := a + 15) (r := []) (L0 := [some (aA (a + 15)), some (aI ((ci : Nat) : Int))]) rfl rfl rfl rfl rfl (kR_15 hR) rfl rfl rfl rfl ?_
      refine c_told hR hn60 hd hc_ci ?_
      refine E_go (p' := 33) (L' := [some (aA 1), some (aI (r)), some (aI ((ci : Nat) : Int)), some (aA a)]) (st' := [aI ((Rtd (S i) ci))]) rfl rfl rfl ?_
      refine E_ret rfl rfl ?_
      exact fq_in hS1 hi hr q (by unfold aNumber; (try simp only [Int.toNat_natCast]); rw [cif_pos (by unfold inC; omega)]) hMo
    · refine E_go (p' := 18) (L' := [some (aA 1), some (aI (r)), some (aI (c)), some (aA a)]) (st' := [aI 0]) rfl rfl rfl ?_
      refine E_s (p' := 21) rfl rfl ?_
      refine E_s (p' := 22) (st' := aI (-1) :: _) rfl rfl ?_
      refine E_s (p' := 33) rfl rfl ?_
      refine E_ret rfl rfl ?_
      exact fq_in hS1 hi hr q (by unfold aNumber; rw [cif_neg (by unfold inC; omega)]) hMo
  · refine E_go (p' := 5) (L' := [some (aA 1), some (aI (r)), some (aI (c)), none]) (st' := [aN]) rfl rfl rfl ?_
    refine E_s (p' := 6) (L' := [some (aA 1), some (aI (r)), some (aI (c)), some (aN)]) rfl rfl ?_
    refine E_s (p' := 7) (st' := aN :: _) rfl rfl ?_
    refine E_s (p' := 21) rfl rfl ?_
    refine E_s (p' := 22) (st' := aI (-1) :: _) rfl rfl ?_
    refine E_s (p' := 33) rfl rfl ?_
    refine E_ret rfl rfl ?_
    exact fq_out hS q hr
theorem yl_hmf {a : Nat} {R : RD} (hR : isR a) (hn : Cn R ≤ 60) (hd9 : RdC R a m) (q : Q (some (aI (cntN (fun d => decide (Rft R d ≠ 0)) (Cn R) : Int))) (m, tl len)) : ∀ (d : Nat) (i t : Nat), (Cn R < i + d) → (i ≤ Cn R) → (t = cntN (fun d => decide (Rft R d ≠ 0)) i) → E 126 4 [some (aA (a + 15)), some (aI ((Cn R : Nat) : Int)), some (aI ((t : Nat) : Int)), some (aI ((i : Nat) : Int))] [] (m, tl len) Q := by
  intro d
  induction d with
  | zero => intro i t hd hi hz; omega
  | succ d ih =>
    intro i t hd hi hz
    have ht9 := cntN_le (fun d => decide (Rft R d ≠ 0)) i
    refine E_s (p' := 5) (st' := aI ((i : Nat) : Int) :: _) rfl rfl ?_
    refine E_s (p' := 6) (st' := aI ((Cn R : Nat) : Int) :: _) rfl rfl ?_
    refine E_icmp_ge (x := ((i : Nat) : Int)) (y := ((Cn R : Nat) : Int)) rfl (by decide) (fun h_1 => ?_) (fun h_1 => ?_)
    · refine E_go (p' := 32) (L' := [some (aA (a + 15)), some (aI ((Cn R : Nat) : Int)), some (aI ((t : Nat) : Int)), some (aI ((i : Nat) : Int))]) (st' := []) rfl rfl rfl ?_
      refine E_s (p' := 33) (st' := aI ((t : Nat) : Int) :: _) rfl rfl ?_
      refine E_ret rfl rfl ?_
      have ei : i = Cn R := by omega
      rw [hz, ei]
      exact q
    · refine E_go (p' := 9) (L' := [some (aA (a + 15)), some (aI ((Cn R : Nat) : Int)), some (aI ((t : Nat) : Int)), some (aI ((i : Nat) : Int))]) (st' := []) rfl rfl rfl ?_
      refine E_s (p' := 10) (st' := aI ((t : Nat) : Int) :: _) rfl rfl ?_
      refine E_s (p' := 11) (st' := aA (a + 15) :: _) rfl rfl ?_
      refine E_gA (b := a + 21) rfl rfl rfl (kR_15 hR) (hR_15_5 hR) rfl ?_
      refine E_s (p' := 15) (st' := aI ((i : Nat) : Int) :: _) rfl rfl ?_
      refine E_ald (e := i) (N := 60) (v := ((Rft R i : Nat) : Int)) rfl (kR_21 hR) (rfl) (by omega) (hd9.2.2.2 _ (by omega)).2.1 ?_
      suffices h_2 : E 126 24 [some (aA (a + 15)), some (aI ((Cn R : Nat) : Int)), some (aI ((t : Nat) : Int)), some (aI ((i : Nat) : Int))] [aI (bi (!decide (((Rft R i : Nat) : Int) = 0))), aI ((t : Nat) : Int)] (m, tl len) Q by
        refine E_if_eq (x := ((Rft R i : Nat) : Int)) rfl (by decide) (fun h_3 => ?_) (fun h_3 => ?_)
        · refine E_go (p' := 23) (L' := [some (aA (a + 15)), some (aI ((Cn R : Nat) : Int)), some (aI ((t : Nat) : Int)), some (aI ((i : Nat) : Int))]) (st' := [aI ((t : Nat) : Int)]) rfl rfl rfl ?_
          refine E_s (p' := 24) (st' := aI 0 :: _) rfl rfl ?_
          rw [decide_eq_true (p := ((Rft R i : Nat) : Int) = 0) (by omega)] at h_2
          exact h_2
        · refine E_go (p' := 19) (L' := [some (aA (a + 15)), some (aI ((Cn R : Nat) : Int)), some (aI ((t : Nat) : Int)), some (aI ((i : Nat) : Int))]) (st' := [aI ((t : Nat) : Int)]) rfl rfl rfl ?_
          refine E_s (p' := 20) (st' := aI 1 :: _) rfl rfl ?_
          refine E_s (p' := 24) rfl rfl ?_
          rw [decide_eq_false (p := ((Rft R i : Nat) : Int) = 0) (by omega)] at h_2
          exact h_2
      refine E_add (v := ((t + bn (!decide (((Rft R i : Nat) : Int) = 0)) : Nat) : Int)) rfl add_bn (by have := bn_le (!decide (((Rft R i : Nat) : Int) = 0)); omega) ?_
      refine E_s (p' := 26) (L' := [some (aA (a + 15)), some (aI ((Cn R : Nat) : Int)), some (aI ((t + bn (!decide (((Rft R i : Nat) : Int) = 0)) : Nat) : Int)), some (aI ((i : Nat) : Int))]) rfl rfl ?_
      refine E_inc (x := ((i : Nat) : Int)) (w := ((i + 1 : Nat) : Int)) (L' := [some (aA (a + 15)), some (aI ((Cn R : Nat) : Int)), some (aI ((t + bn (!decide (((Rft R i : Nat) : Int) = 0)) : Nat) : Int)), some (aI ((i + 1 : Nat) : Int))]) rfl rfl rfl (by omega) (by omega) rfl ?_
      refine E_s (p' := 4) rfl rfl ?_
      exact ih (i + 1) _ (by omega) (by omega) (by rw [hz]; simp [cntN])
theorem c_hmf {a : Nat} {R : RD} (hR : isR a) (hn : Cn R ≤ 60) (hd9 : RdC R a m) (q : Q (some (aI (cntN (fun d => decide (Rft R d ≠ 0)) (Cn R) : Int))) (m, tl len)) : E 126 0 [some (aA (a + 15)), some (aI ((Cn R : Nat) : Int)), none, none] [] (m, tl len) Q := by
  refine E_s (p' := 1) (st' := aI 0 :: _) rfl rfl ?_
  refine E_s (p' := 2) (L' := [some (aA (a + 15)), some (aI ((Cn R : Nat) : Int)), some (aI 0), none]) rfl rfl ?_
  refine E_s (p' := 3) (st' := aI 0 :: _) rfl rfl ?_
  refine E_s (p' := 4) (L' := [some (aA (a + 15)), some (aI ((Cn R : Nat) : Int)), some (aI 0), some (aI 0)]) rfl rfl ?_
  exact yl_hmf hR hn hd9 q (Cn R + 1) 0 0 (by omega) (by omega) rfl
theorem C_count (hS : CS S m) (q : ∀ m1, CS S m1 → Mo m m1 → Q (some (aI (qy S r (-1) (aCount w)))) (m1, tl len)) : E 123 0 [some (aA 1), some (aI (r)), some (aI (w)), none] [] (m, tl len) Q := by
  refine E_s (p' := 1) (st' := aA 1 :: _) rfl rfl ?_
  refine E_s (p' := 2) (st' := aI (r) :: _) rfl rfl ?_
  refine E_callV (k' := 12) (a := 1) (r := []) (L0 := [some (aA 1), some (aI (r))]) rfl rfl rfl rfl rfl rfl rfl rfl rfl rfl ?_
  refine c_recordOf' (fun i a hi hr ha hR => ?_) (fun hr => ?_)
  · refine E_go (p' := 5) (L' := [some (aA 1), some (aI (r)), some (aI (w)), none]) (st' := [aA a]) rfl rfl rfl ?_
    obtain ⟨hV, hC, hrd⟩ := hS i hi
    rw [← ha] at hC hrd
    have hn60 := hV.1
    have hab := isR_b hR
    have hs40 := hV.2.2.2.2.1
    have hS1 := hS
    have hMo : Mo m m := Mo.rf
    refine E_s (p' := 6) (L' := [some (aA 1), some (aI (r)), some (aI (w)), some (aA a)]) rfl rfl ?_
    refine E_s (p' := 7) (st' := aA a :: _) rfl rfl ?_
    refine E_s (p' := 12) rfl rfl ?_
    refine E_s (p' := 13) (st' := aI (w) :: _) rfl rfl ?_
    rcases (show (w) = 0 ∨ (w) = 1 ∨ (w) = 2 ∨ (w) = 3 ∨ (w) = 4 ∨ (w) = 5 ∨ (w) = 6 ∨ ((w) ≠ 0 ∧ (w) ≠ 1 ∧ (w) ≠ 2 ∧ (w) ≠ 3 ∧ (w) ≠ 4 ∧ (w) ≠ 5 ∧ (w) ≠ 6) by omega) with h_1 | h_2 | h_3 | h_4 | h_5 | h_6 | h_7 | h_8
    · refine E_valv h_1 ?_
      refine E_s (p' := 56) rfl rfl ?_
      refine E_s (p' := 57) (st' := aA a :: _) rfl rfl ?_
      refine E_gA (b := a + 1) rfl rfl rfl (kR_0 hR) (hR_0_0 hR) rfl ?_
      refine E_gI (v := ((Cn (S i) : Nat) : Int)) rfl rfl rfl (kR_1 hR) hC.1 ?_
      refine E_ret rfl rfl ?_
      exact fq_in hS1 hi hr q (by unfold aCount; rw [if_pos (by omega)]) hMo
    · refine E_valv h_2 ?_
      refine E_s (p' := 64) rfl rfl ?_
      refine E_s (p' := 65) (st' := aA a :: _) rfl rfl ?_
      refine E_gA (b := a + 1) rfl rfl rfl (kR_0 hR) (hR_0_0 hR) rfl ?_
      refine E_callV (k' := 124) (a := a + 1) (r := []) (L0 := [some (aA (a + 1)), none, none]) rfl rfl rfl rfl rfl (kR_1 hR) rfl rfl rfl rfl ?_
      refine c_allKnots hR hC hV ?_
      refine E_go (p' := 71) (L' := [some (aA 1), some (aI (r)), some (aI (w)), some (aA a)]) (st' := [aI ((sumN (Ck (S i)) (Cn (S i)) : Nat) : Int)]) rfl rfl rfl ?_
      refine E_ret rfl rfl ?_
      exact fq_in hS1 hi hr q (by unfold aCount; rw [if_neg (by omega), if_pos (by omega)]) hMo
    · refine E_valv h_3 ?_
      refine E_s (p' := 72) rfl rfl ?_
      refine E_s (p' := 73) (st' := aA a :: _) rfl rfl ?_
      refine E_gA (b := a + 9) rfl rfl rfl (kR_0 hR) (hR_0_1 hR) rfl ?_
      refine E_gI (v := ((Sn (S i) : Nat) : Int)) rfl rfl rfl (kR_9 hR) (CRS hC) ?_
      refine E_ret rfl rfl ?_
      exact fq_in hS1 hi hr q (by unfold aCount; rw [if_neg (by omega), if_neg (by omega), if_pos (by omega)]) hMo
    · refine E_valv h_4 ?_
      refine E_s (p' := 80) rfl rfl ?_
      refine E_s (p' := 81) (st' := aA a :: _) rfl rfl ?_
      refine E_gI (v := ((Cq (S i) : Nat) : Int)) rfl rfl rfl (kR_0 hR) hC.2.1 ?_
      refine E_ret rfl rfl ?_
      exact fq_in hS1 hi hr q (by unfold aCount; rw [if_neg (by omega), if_neg (by omega), if_neg (by omega), if_pos (by omega)]) hMo
    · refine E_valv h_5 ?_
      refine E_s (p' := 85) rfl rfl ?_
      refine E_s (p' := 86) (st' := aA a :: _) rfl rfl ?_
      refine E_gA (b := a + 1) rfl rfl rfl (kR_0 hR) (hR_0_0 hR) rfl ?_
      refine E_callV (k' := 125) (a := a + 1) (r := []) (L0 := [some (aA (a + 1)), none, none]) rfl rfl rfl rfl rfl (kR_1 hR) rfl rfl rfl rfl ?_
      refine c_howManyTorn hR hC hV ?_
      refine E_go (p' := 92) (L' := [some (aA 1), some (aI (r)), some (aI (w)), some (aA a)]) (st' := [aI ((cntN (fun d => decide (Ct (S i) d ≠ 0)) (Cn (S i)) : Nat) : Int)]) rfl rfl rfl ?_
      refine E_ret rfl rfl ?_
      exact fq_in hS1 hi hr q (by unfold aCount; rw [if_neg (by omega), if_neg (by omega), if_neg (by omega), if_neg (by omega), if_pos (by omega)]) hMo
    · refine E_valv h_6 ?_
      refine E_s (p' := 93) rfl rfl ?_
      refine E_s (p' := 94) (st' := aA a :: _) rfl rfl ?_
      refine E_callV (k' := 35) (a := a) (r := []) (L0 := [some (aA a)]) rfl rfl rfl rfl rfl (kR_0 hR) rfl rfl rfl rfl ?_
      refine c_readNow hR (ha ▸ hS i hi) (fun m1 h1 hd hF1 => ?_)
      refine E_go (p' := 97) (L' := [some (aA 1), some (aI (r)), some (aI (w)), some (aA a)]) (st' := [aA (a + 15)]) rfl rfl rfl ?_
      have hS1 : CS S m1 := by have := hS.set hi ha h1 (fun b j hb => hF1 b j (by omega)); rw [upf_self] at this; exact this
      have hMo : Mo m m1 := fun b j hb => hF1 b j (by omega)
      have hC := h1.2.1
      refine E_s (p' := 98) (st' := aA a :: _) rfl rfl ?_
      refine E_gA (b := a + 1) rfl rfl rfl (kR_0 hR) (hR_0_0 hR) rfl ?_
      refine E_gI (v := ((Cn (S i) : Nat) : Int)) rfl rfl rfl (kR_1 hR) hC.1 ?_
      refine E_callV (k' := 126) (a := a + 15) (r := []) (L0 := [some (aA (a + 15)), some (aI ((Cn (S i) : Nat) : Int)), none, none]) rfl rfl rfl rfl rfl (kR_15 hR) rfl rfl rfl rfl ?_
      refine c_hmf hR hn60 hd ?_
      refine E_go (p' := 107) (L' := [some (aA 1), some (aI (r)), some (aI (w)), some (aA a)]) (st' := [aI ((cntN (fun d => decide (Rft (S i) d ≠ 0)) (Cn (S i)) : Nat) : Int)]) rfl rfl rfl ?_
      refine E_ret rfl rfl ?_
      exact fq_in hS1 hi hr q (by unfold aCount; rw [if_neg (by omega), if_neg (by omega), if_neg (by omega), if_neg (by omega), if_neg (by omega), if_pos (by omega)]) hMo
    · refine E_valv h_7 ?_
      refine E_s (p' := 108) rfl rfl ?_
      refine E_s (p' := 109) (st' := aA a :: _) rfl rfl ?_
      refine E_gA (b := a + 1) rfl rfl rfl (kR_0 hR) (hR_0_0 hR) rfl ?_
      refine E_s (p' := 113) (st' := aI (-1) :: _) rfl rfl ?_
      refine E_callV (k' := 68) (a := a + 1) (r := []) (L0 := [some (aA (a + 1)), some (aI (-1)), none, none]) rfl rfl rfl rfl rfl (kR_1 hR) rfl rfl rfl rfl ?_
      refine c_howManyOn hR hC hV (h := -1) ?_
      refine E_go (p' := 116) (L' := [some (aA 1), some (aI (r)), some (aI (w)), some (aA a)]) (st' := [aI ((cntN (fun d => decide (Co (S i) d = -1)) (Cn (S i)) : Nat) : Int)]) rfl rfl rfl ?_
      refine E_ret rfl rfl ?_
      exact fq_in hS1 hi hr q (by unfold aCount; rw [if_neg (by omega), if_neg (by omega), if_neg (by omega), if_neg (by omega), if_neg (by omega), if_neg (by omega), if_pos (by omega)]) hMo
    · refine E_tabO rfl (by omega) (by decide) ?_
      refine E_go (p' := 117) (L' := [some (aA 1), some (aI (r)), some (aI (w)), some (aA a)]) (st' := []) rfl rfl rfl ?_
      refine E_s (p' := 118) (st' := aI (-1) :: _) rfl rfl ?_
      refine E_ret rfl rfl ?_
      exact fq_in hS1 hi hr q (by unfold aCount; rw [if_neg (by omega), if_neg (by omega), if_neg (by omega), if_neg (by omega), if_neg (by omega), if_neg (by omega), if_neg (by omega)]) hMo
  · refine E_go (p' := 5) (L' := [some (aA 1), some (aI (r)), some (aI (w)), none]) (st' := [aN]) rfl rfl rfl ?_
    refine E_s (p' := 6) (L' := [some (aA 1), some (aI (r)), some (aI (w)), some (aN)]) rfl rfl ?_
    refine E_s (p' := 7) (st' := aN :: _) rfl rfl ?_
    refine E_s (p' := 10) rfl rfl ?_
    refine E_s (p' := 11) (st' := aI (-1) :: _) rfl rfl ?_
    refine E_ret rfl rfl ?_
    exact fq_out hS q hr
end
