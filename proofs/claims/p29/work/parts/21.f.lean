theorem Rct_l5 {R : RD} (h : 1 ≤ RL R) (l : Nat) : Rct R l ≤ 100000 := by
  have h1 := RL_mx R
  have h2 : 10 ^ (RL R - 1 - l) ≤ 10 ^ (mxv (Run R) - 1) := Nat.pow_le_pow_right (by decide) (by omega)
  unfold Rct
  cases hu : Run R
  · rw [hu] at h2; exact Nat.le_trans (Nat.mul_le_mul_right _ h2) (by decide)
  · rw [hu] at h2; exact Nat.le_trans (Nat.mul_le_mul_right _ h2) (by decide)
theorem cls_w9 {R : RD} (hV : VR R) {c : Nat} (hc : c < Cn R) : ∀ k, k ≤ Ck R c → ∀ q ∈ cls R c k, q.2.1 ≠ 0 → q.2.2 ≤ 9 := by
  intro k
  induction k with
  | zero => intro _ q hq; cases hq
  | succ k ih =>
    intro hk q hq
    cases he : ends R c k with
    | true =>
      rw [cls_t he] at hq
      rcases List.mem_append.mp hq with g | g
      · exact ih (by omega) q g
      · rw [List.mem_singleton.mp g]
        intro h0
        have h0' : so (Cp R c k) ≠ 0 := h0
        obtain ⟨a0, -⟩ := hV.2.2.2.1 c k hc (by omega)
        unfold kok at a0
        show clw R c k ≤ 9
        unfold clw
        rw [if_neg h0']
        split <;> omega
    | false => rw [cls_f he] at hq; exact ih (by omega) q hq
theorem rSum_l9 {R : RD} (h : 1 ≤ RL R) {c : Nat} : ∀ (l : List (Nat × (Nat × Nat))), (∀ q ∈ l, q.2.2 ≤ 9) → rSum R c l ≤ 900000 * l.length := by
  intro l
  induction l with
  | nil => intro _; exact Nat.le_refl _
  | cons q r ih =>
    intro hq
    have h1 := ih (fun p hp => hq p (List.mem_cons_of_mem _ hp))
    have h2 := hq q List.mem_cons_self
    have h3 := Rct_l5 h (Rlo R q.1)
    have h4 : q.2.2 * Rct R (Rlo R q.1) ≤ 9 * 100000 := Nat.mul_le_mul h2 h3
    show (bif lst R c (Rlo R q.1) then 0 else q.2.2 * Rct R (Rlo R q.1)) + rSum R c r ≤ 900000 * (r.length + 1)
    cases lst R c (Rlo R q.1)
    · show q.2.2 * Rct R (Rlo R q.1) + _ ≤ _; omega
    · show 0 + _ ≤ _; omega
theorem Rvl_c {R : RD} (hV : VR R) {c : Nat} (hc : c < Cn R) : Rvl R c ≤ 27000000 := by
  unfold Rvl
  split
  · omega
  · next h0 =>
    split
    · next hf =>
      have hm : rMany R (clsA R c) = false := by
        cases hm : rMany R (clsA R c) with
        | false => rfl
        | true => unfold Rft at hf; rw [if_neg h0, hm] at hf; cases hf
      have h9 : ∀ q ∈ clsA R c, q.2.2 ≤ 9 := fun q hq => by
        by_cases g : q.2.1 = 0
        · unfold rMany at hm
          rw [List.any_eq_false] at hm
          have := hm q hq
          simp [g] at this
          exact this
        · exact cls_w9 hV hc _ (Nat.le_refl _) q hq g
      have h1 := rSum_l9 (c := c) (show 1 ≤ RL R by omega) (clsA R c) h9
      have h2 := cls_len R c (Ck R c)
      have h3 := (hV.2.2.1 c hc).2.2.2.2.2
      have h4 : (clsA R c).length = (cls R c (Ck R c)).length := rfl
      omega
    · omega
theorem cntN_z {p : Nat → Bool} : ∀ {n : Nat}, (∀ d, d < n → p d = false) → cntN p n = 0 := by
  intro n
  induction n with
  | zero => intro _; rfl
  | succ n ih => intro h; show cntN p n + bn (p n) = 0; rw [ih (fun d hd => h d (by omega)), h n (by omega)]; rfl
theorem sumN_z {f : Nat → Nat} : ∀ {n : Nat}, (∀ d, d < n → f d = 0) → sumN f n = 0 := by
  intro n
  induction n with
  | zero => intro _; rfl
  | succ n ih => intro h; show sumN f n + f n = 0; rw [ih (fun d hd => h d (by omega)), h n (by omega)]
/-- from the first on that is so -/
def fstP (b : Nat → Bool) : Nat → Nat → Nat
  | 0, p => p
  | d + 1, p => if b p = true then p else fstP b d (p + 1)
theorem fstP_u {b : Nat → Bool} : ∀ {d p n : Nat}, p ≤ n → n ≤ p + d → (∀ j, p ≤ j → j < n → b j = false) → (n < p + d → b n = true) → fstP b d p = n := by
  intro d
  induction d with
  | zero => intro p n h1 h2 _ _; show p = n; omega
  | succ d ih =>
    intro p n h1 h2 h3 h4
    show (if b p = true then p else fstP b d (p + 1)) = n
    by_cases g : p = n
    · subst g; rw [if_pos (h4 (by omega))]
    · rw [if_neg (by rw [h3 p (Nat.le_refl _) (by omega)]; decide)]
      exact ih (by omega) (by omega) (fun j h5 h6 => h3 j (by omega) h6) (fun h5 => h4 (by omega))
def gcol (R : RD) (g : Int) (i : Nat) : Nat := Cc R ((gmem R g (Cn R)).getD i 0)
def glen (R : RD) (g : Int) : Nat := (gmem R g (Cn R)).length
/-- each has the colour of the p-th one ahead -/
def perB (R : RD) (g : Int) (p : Nat) : Bool := (List.range (glen R g)).all fun i => decide (i < p) || decide (gcol R g i = gcol R g (i - p))
noncomputable def aPeriod (g : Int) (R : RD) : Int := cif ((0 ≤ g ∧ g ≤ 11) ∧ glen R g ≠ 0) (fstP (perB R g) (glen R g) 1 : Int) (-1)
theorem perB_t {R : RD} {g : Int} {p : Nat} (h : ∀ i, p ≤ i → i < glen R g → gcol R g i = gcol R g (i - p)) : perB R g p = true := by
  unfold perB
  rw [List.all_eq_true]
  intro i hi
  have hi := List.mem_range.mp hi
  by_cases g9 : i < p
  · rw [decide_eq_true g9]; rfl
  · rw [decide_eq_true (h i (by omega) hi)]; simp
theorem perB_f {R : RD} {g : Int} {p i : Nat} (h1 : p ≤ i) (h2 : i < glen R g) (h3 : gcol R g i ≠ gcol R g (i - p)) : perB R g p = false := by
  cases h : perB R g p with
  | false => rfl
  | true =>
    unfold perB at h
    rw [List.all_eq_true] at h
    have := h i (List.mem_range.mpr h2)
    rw [decide_eq_false (by omega), decide_eq_false h3] at this
    cases this
theorem gmem_t {R : RD} {g : Int} {n : Nat} (h : Cg R n = g) : gmem R g (n + 1) = gmem R g n ++ [n] := by show (if Cg R n = g then _ else _) = _; rw [if_pos h]
theorem gmem_f {R : RD} {g : Int} {n : Nat} (h : Cg R n ≠ g) : gmem R g (n + 1) = gmem R g n := by show (if Cg R n = g then _ else _) = _; rw [if_neg h]
theorem getD_app_l {l : List Nat} {x i : Nat} (h : i < l.length) : (l ++ [x]).getD i 0 = l.getD i 0 := by
  rw [List.getD_eq_getElem?_getD, List.getD_eq_getElem?_getD, List.getElem?_append_left h]
theorem getD_app_r {l : List Nat} {x : Nat} : (l ++ [x]).getD l.length 0 = x := by
  rw [List.getD_eq_getElem?_getD, List.getElem?_append_right (Nat.le_refl _), Nat.sub_self]; rfl
section
variable {len : Nat} {m : Mm} {Q : Option AV → Sx → Prop} {R : RD} {a ci : Nat} {r : Int}
theorem yl_under (hR : isR a) (hC : CR R a m) (hV : VR R) (hd9 : RdC R a m) (hc : ci < Cn R) (q1 : unB R ci (Cn R) = 0 → Q (some (aI (unS R ci (Cn R) : Int))) (m, tl len)) (q0 : unB R ci (Cn R) ≠ 0 → Q (some (aI (-1))) (m, tl len)) : ∀ (d : Nat) (e w : Nat), (Cn R < e + d) → (e ≤ Cn R) → (w = unS R ci e) → (unB R ci e = 0) → E 73 31 [some (aA 1), some (aI (r)), some (aI ((ci : Nat) : Int)), some (aA a), some (aI ((w : Nat) : Int)), some (aI ((e : Nat) : Int))] [] (m, tl len) Q := by
  intro d
  induction d with
  | zero => intro e w hd he hw hb; omega
  | succ d ih =>
    intro e w hd he hw hb
    have hn60 := hV.1
    have hab := isR_b hR
    have hwb : w ≤ 27000000 * e := by
      rw [hw]
      have := sumN_le (f := fun d => bif decide (Co R d = (ci : Int)) then Rvl R d else 0) (b := 27000000) e (fun i hi => by have := Rvl_c hV (show i < Cn R by omega); show (bif decide (Co R i = (ci : Int)) then Rvl R i else 0) ≤ _; cases decide (Co R i = (ci : Int)) <;> simp <;> omega)
      unfold unS; omega
    refine E_s (p' := 33) (st' := aI ((e : Nat) : Int) :: _) rfl rfl ?_
    refine E_s (p' := 34) (st' := aA a :: _) rfl rfl ?_
    refine E_gA (b := a + 1) rfl rfl rfl (kR_0 hR) (hR_0_0 hR) rfl ?_
    refine E_gI (v := ((Cn R : Nat) : Int)) rfl rfl rfl (kR_1 hR) hC.1 ?_
    refine E_icmp_ge (x := ((e : Nat) : Int)) (y := ((Cn R : Nat) : Int)) rfl (by decide) (fun h_1 => ?_) (fun h_1 => ?_)
    · refine E_go (p' := 92) (L' := [some (aA 1), some (aI (r)), some (aI ((ci : Nat) : Int)), some (aA a), some (aI ((w : Nat) : Int)), some (aI ((e : Nat) : Int))]) (st' := []) rfl rfl rfl ?_
      refine E_s (p' := 94) (st' := aI ((w : Nat) : Int) :: _) rfl rfl ?_
      refine E_ret rfl rfl ?_
      have ee : e = Cn R := by omega
      rw [ee] at hw hb
      rw [← hw] at q1
      exact q1 hb
    · refine E_go (p' := 43) (L' := [some (aA 1), some (aI (r)), some (aI ((ci : Nat) : Int)), some (aA a), some (aI ((w : Nat) : Int)), some (aI ((e : Nat) : Int))]) (st' := []) rfl rfl rfl ?_
      refine E_s (p' := 44) (st' := aA a :: _) rfl rfl ?_
      refine E_gA (b := a + 1) rfl rfl rfl (kR_0 hR) (hR_0_0 hR) rfl ?_
      refine E_gA (b := a + 3) rfl rfl rfl (kR_1 hR) (hR_1_1 hR) rfl ?_
      refine E_s (p' := 52) (st' := aI ((e : Nat) : Int) :: _) rfl rfl ?_
      refine E_ald (e := e) (N := 60) (v := ((Co R e))) rfl (kR_3 hR) (rfl) (by omega) (CR_3 hC (by omega)) ?_
      refine E_s (p' := 54) (st' := aI ((ci : Nat) : Int) :: _) rfl rfl ?_
      refine E_icmp_eq (x := ((Co R e))) (y := ((ci : Nat) : Int)) rfl (by decide) (fun h_2 => ?_) (fun h_2 => ?_)
      · refine E_go (p' := 60) (L' := [some (aA 1), some (aI (r)), some (aI ((ci : Nat) : Int)), some (aA a), some (aI ((w : Nat) : Int)), some (aI ((e : Nat) : Int))]) (st' := []) rfl rfl rfl ?_
        refine E_s (p' := 61) (st' := aA a :: _) rfl rfl ?_
        refine E_s (p' := 63) (st' := aI ((e : Nat) : Int) :: _) rfl rfl ?_
        refine E_callV (k' := 74) (a := a) (r := []) (L0 := [some (aA a), some (aI ((e : Nat) : Int))]) rfl rfl rfl rfl rfl (kR_0 hR) rfl rfl rfl rfl ?_
        refine c_isSound hR hn60 hC hd9 (c := e) (by omega) (fun hs1 hs2 => ?_) (fun hs0 => ?_)
        · refine E_go (p' := 66) (L' := [some (aA 1), some (aI (r)), some (aI ((ci : Nat) : Int)), some (aA a), some (aI ((w : Nat) : Int)), some (aI ((e : Nat) : Int))]) (st' := [aI 1]) rfl rfl rfl ?_
          refine E_s (p' := 71) rfl rfl ?_
          have hve := Rvl_c hV (show e < Cn R by omega)
          refine E_s (p' := 73) (st' := aI ((w : Nat) : Int) :: _) rfl rfl ?_
          refine E_s (p' := 74) (st' := aA a :: _) rfl rfl ?_
          refine E_gA (b := a + 15) rfl rfl rfl (kR_0 hR) (hR_0_4 hR) rfl ?_
          refine E_gA (b := a + 22) rfl rfl rfl (kR_15 hR) (hR_15_6 hR) rfl ?_
          refine E_s (p' := 82) (st' := aI ((e : Nat) : Int) :: _) rfl rfl ?_
          refine E_ald (e := e) (N := 60) (v := ((Rvl R e : Nat) : Int)) rfl (kR_22 hR) (rfl) (by omega) (hd9.2.2.2 _ (by omega)).2.2.1 ?_
          refine E_add (v := ((w + Rvl R e : Nat) : Int)) rfl (by omega) (by omega) ?_
          refine E_s (p' := 86) (L' := [some (aA 1), some (aI (r)), some (aI ((ci : Nat) : Int)), some (aA a), some (aI ((w + Rvl R e : Nat) : Int)), some (aI ((e : Nat) : Int))]) rfl rfl ?_
          refine E_inc (x := ((e : Nat) : Int)) (w := ((e + 1 : Nat) : Int)) (L' := [some (aA 1), some (aI (r)), some (aI ((ci : Nat) : Int)), some (aA a), some (aI ((w + Rvl R e : Nat) : Int)), some (aI ((e + 1 : Nat) : Int))]) rfl rfl rfl (by omega) (by omega) rfl ?_
          refine E_s (p' := 31) rfl rfl ?_
          refine ih (e + 1) _ (by omega) (by omega) ?_ ?_
          · rw [hw]; show _ = sumN _ e + (bif decide (Co R e = (ci : Int)) then Rvl R e else 0); rw [decide_eq_true (p := Co R e = (ci : Int)) (by omega)]; rfl
          · show cntN _ e + bn (decide (Co R e = (ci : Int)) && !sdR R e) = 0; rw [decide_eq_true (p := Co R e = (ci : Int)) (by omega), sdR_t hs1 hs2]; exact hb
        · refine E_go (p' := 66) (L' := [some (aA 1), some (aI (r)), some (aI ((ci : Nat) : Int)), some (aA a), some (aI ((w : Nat) : Int)), some (aI ((e : Nat) : Int))]) (st' := [aI 0]) rfl rfl rfl ?_
          refine E_s (p' := 69) rfl rfl ?_
          refine E_s (p' := 70) (st' := aI (-1) :: _) rfl rfl ?_
          refine E_ret rfl rfl ?_
          exact q0 (cntN_pos (i := e) (by omega) (by show (decide (Co R e = (ci : Int)) && !sdR R e) = true; rw [decide_eq_true (p := Co R e = (ci : Int)) (by omega), sdR_f hs0]; rfl))
      · refine E_go (p' := 57) (L' := [some (aA 1), some (aI (r)), some (aI ((ci : Nat) : Int)), some (aA a), some (aI ((w : Nat) : Int)), some (aI ((e : Nat) : Int))]) (st' := []) rfl rfl rfl ?_
        refine E_s (p' := 86) rfl rfl ?_
        refine E_inc (x := ((e : Nat) : Int)) (w := ((e + 1 : Nat) : Int)) (L' := [some (aA 1), some (aI (r)), some (aI ((ci : Nat) : Int)), some (aA a), some (aI ((w : Nat) : Int)), some (aI ((e + 1 : Nat) : Int))]) rfl rfl rfl (by omega) (by omega) rfl ?_
        refine E_s (p' := 31) rfl rfl ?_
        refine ih (e + 1) _ (by omega) (by omega) ?_ ?_
        · rw [hw]; show _ = sumN _ e + (bif decide (Co R e = (ci : Int)) then Rvl R e else 0); rw [decide_eq_false (p := Co R e = (ci : Int)) (by omega)]; rfl
        · show cntN _ e + bn (decide (Co R e = (ci : Int)) && !sdR R e) = 0; rw [decide_eq_false (p := Co R e = (ci : Int)) (by omega)]; exact hb
theorem yl_ks (hR : isR a) (hC : CR R a m) (hV : VR R) (hd9 : RdC R a m) {s : Nat} (hs : s < Sn R) (h2 : 2 ≤ Sp R s) (hsd : sdR R (Sw R s) = true) {x5 : Option AV} (q : Q (some (aI (kps R s))) (m, tl len)) : ∀ (d : Nat) (p w : Nat) (x5 : Option AV), (Sp R s < p + d) → (p ≤ Sp R s) → (w = spS R s p) → (spB R s p = 0) → E 83 36 [some (aA a), some (aI ((s : Nat) : Int)), some (aI ((Sw R s : Nat) : Int)), some (aI ((w : Nat) : Int)), some (aI ((p : Nat) : Int)), x5] [] (m, tl len) Q := by
  intro d
  induction d with
  | zero => intro p w x5 hd hp hw hb; omega
  | succ d ih =>
    intro p w x5 hd hp hw hb
    have hn60 := hV.1
    have hab := isR_b hR
    have hs40 := hV.2.2.2.2.1
    have hp12 := (hV.2.2.2.2.2.1 s hs).2
    have hwn := (hV.2.2.2.2.2.1 s hs).1
    have hwb : w ≤ 27000000 * p := by
      rw [hw]
      have := sumN_le (f := fun k => Rvl R (Sq R s k)) (b := 27000000) p (fun i hi => Rvl_c hV (hV.2.2.2.2.2.2 s i hs (by omega)))
      unfold spS; omega
    refine E_s (p' := 38) (st' := aI ((p : Nat) : Int) :: _) rfl rfl ?_
    refine E_s (p' := 39) (st' := aA a :: _) rfl rfl ?_
    refine E_gA (b := a + 9) rfl rfl rfl (kR_0 hR) (hR_0_1 hR) rfl ?_
    refine E_gA (b := a + 11) rfl rfl rfl (kR_9 hR) (hR_9_1 hR) rfl ?_
    refine E_s (p' := 46) (st' := aI ((s : Nat) : Int) :: _) rfl rfl ?_
    refine E_ald (e := s) (N := 40) (v := ((Sp R s : Nat) : Int)) rfl (kR_11 hR) (rfl) (by omega) (CR_11 hC (by omega)) ?_
    refine E_icmp_ge (x := ((p : Nat) : Int)) (y := ((Sp R s : Nat) : Int)) rfl (by decide) (fun h_1 => ?_) (fun h_1 => ?_)
    · refine E_go (p' := 92) (L' := [some (aA a), some (aI ((s : Nat) : Int)), some (aI ((Sw R s : Nat) : Int)), some (aI ((w : Nat) : Int)), some (aI ((p : Nat) : Int)), x5]) (st' := []) rfl rfl rfl ?_
      refine E_s (p' := 93) (st' := aI ((w : Nat) : Int) :: _) rfl rfl ?_
      refine E_s (p' := 94) (st' := aA a :: _) rfl rfl ?_
      refine E_gA (b := a + 15) rfl rfl rfl (kR_0 hR) (hR_0_4 hR) rfl ?_
      refine E_gA (b := a + 22) rfl rfl rfl (kR_15 hR) (hR_15_6 hR) rfl ?_
      refine E_s (p' := 101) (st' := aI ((Sw R s : Nat) : Int) :: _) rfl rfl ?_
      refine E_ald (e := Sw R s) (N := 60) (v := ((Rvl R (Sw R s) : Nat) : Int)) rfl (kR_22 hR) (rfl) (by omega) (hd9.2.2.2 _ (by omega)).2.2.1 ?_
      refine E_icmp_ne (x := ((w : Nat) : Int)) (y := ((Rvl R (Sw R s) : Nat) : Int)) rfl (by decide) (fun h_2 => ?_) (fun h_2 => ?_)
      · refine E_go (p' := 109) (L' := [some (aA a), some (aI ((s : Nat) : Int)), some (aI ((Sw R s : Nat) : Int)), some (aI ((w : Nat) : Int)), some (aI ((p : Nat) : Int)), x5]) (st' := []) rfl rfl rfl ?_
        refine E_s (p' := 110) (st' := aI 0 :: _) rfl rfl ?_
        refine E_ret rfl rfl ?_
        have ep : p = Sp R s := by omega
        rw [ep] at hw hb
        rw [show kps R s = 0 by unfold kps; rw [cif_pos ⟨h2, hsd, hb⟩, ← hw, if_neg (by omega)]] at q
        exact q
      · refine E_go (p' := 105) (L' := [some (aA a), some (aI ((s : Nat) : Int)), some (aI ((Sw R s : Nat) : Int)), some (aI ((w : Nat) : Int)), some (aI ((p : Nat) : Int)), x5]) (st' := []) rfl rfl rfl ?_
        refine E_s (p' := 106) (st' := aI 1 :: _) rfl rfl ?_
        refine E_s (p' := 110) rfl rfl ?_
        refine E_ret rfl rfl ?_
        have ep : p = Sp R s := by omega
        rw [ep] at hw hb
        rw [show kps R s = 1 by unfold kps; rw [cif_pos ⟨h2, hsd, hb⟩, ← hw, if_pos (by omega)]] at q
        exact q
    · refine E_go (p' := 50) (L' := [some (aA a), some (aI ((s : Nat) : Int)), some (aI ((Sw R s : Nat) : Int)), some (aI ((w : Nat) : Int)), some (aI ((p : Nat) : Int)), x5]) (st' := []) rfl rfl rfl ?_
      have hsq := hV.2.2.2.2.2.2 s p hs (show p < Sp R s by omega)
      have hve := Rvl_c hV hsq
      refine E_s (p' := 51) (st' := aA a :: _) rfl rfl ?_
      refine E_gA (b := a + 9) rfl rfl rfl (kR_0 hR) (hR_0_1 hR) rfl ?_
      refine E_s (p' := 55) (st' := aI ((s : Nat) : Int) :: _) rfl rfl ?_
      refine E_s (p' := 57) (st' := aI ((p : Nat) : Int) :: _) rfl rfl ?_
      refine E_callV (k' := 79) (a := a + 9) (r := []) (L0 := [some (aA (a + 9)), some (aI ((s : Nat) : Int)), some (aI ((p : Nat) : Int))]) rfl rfl rfl rfl rfl (kR_9 hR) rfl rfl rfl rfl ?_
      refine c_partOf hR hC hV (s := s) (p := p) (by omega) (by omega) ?_
      refine E_go (p' := 60) (L' := [some (aA a), some (aI ((s : Nat) : Int)), some (aI ((Sw R s : Nat) : Int)), some (aI ((w : Nat) : Int)), some (aI ((p : Nat) : Int)), x5]) (st' := [aI ((Sq R s p : Nat) : Int)]) rfl rfl rfl ?_
      refine E_s (p' := 62) (L' := [some (aA a), some (aI ((s : Nat) : Int)), some (aI ((Sw R s : Nat) : Int)), some (aI ((w : Nat) : Int)), some (aI ((p : Nat) : Int)), some (aI ((Sq R s p : Nat) : Int))]) rfl rfl ?_
      refine E_s (p' := 63) (st' := aA a :: _) rfl rfl ?_
      refine E_s (p' := 65) (st' := aI ((Sq R s p : Nat) : Int) :: _) rfl rfl ?_
      refine E_callV (k' := 74) (a := a) (r := []) (L0 := [some (aA a), some (aI ((Sq R s p : Nat) : Int))]) rfl rfl rfl rfl rfl (kR_0 hR) rfl rfl rfl rfl ?_
      refine c_isSound hR hn60 hC hd9 (c := Sq R s p) (by omega) (fun hs1 hs2 => ?_) (fun hs0 => ?_)
      · refine E_go (p' := 68) (L' := [some (aA a), some (aI ((s : Nat) : Int)), some (aI ((Sw R s : Nat) : Int)), some (aI ((w : Nat) : Int)), some (aI ((p : Nat) : Int)), some (aI ((Sq R s p : Nat) : Int))]) (st' := [aI 1]) rfl rfl rfl ?_
        refine E_s (p' := 73) rfl rfl ?_
        refine E_s (p' := 74) (st' := aI ((w : Nat) : Int) :: _) rfl rfl ?_
        refine E_s (p' := 75) (st' := aA a :: _) rfl rfl ?_
        refine E_gA (b := a + 15) rfl rfl rfl (kR_0 hR) (hR_0_4 hR) rfl ?_
        refine E_gA (b := a + 22) rfl rfl rfl (kR_15 hR) (hR_15_6 hR) rfl ?_
        refine E_s (p' := 83) (st' := aI ((Sq R s p : Nat) : Int) :: _) rfl rfl ?_
        refine E_ald (e := Sq R s p) (N := 60) (v := ((Rvl R (Sq R s p) : Nat) : Int)) rfl (kR_22 hR) (rfl) (by omega) (hd9.2.2.2 _ (by omega)).2.2.1 ?_
        refine E_add (v := ((w + Rvl R (Sq R s p) : Nat) : Int)) rfl (by omega) (by omega) ?_
        refine E_s (p' := 86) (L' := [some (aA a), some (aI ((s : Nat) : Int)), some (aI ((Sw R s : Nat) : Int)), some (aI ((w + Rvl R (Sq R s p) : Nat) : Int)), some (aI ((p : Nat) : Int)), some (aI ((Sq R s p : Nat) : Int))]) rfl rfl ?_
        refine E_inc (x := ((p : Nat) : Int)) (w := ((p + 1 : Nat) : Int)) (L' := [some (aA a), some (aI ((s : Nat) : Int)), some (aI ((Sw R s : Nat) : Int)), some (aI ((w + Rvl R (Sq R s p) : Nat) : Int)), some (aI ((p + 1 : Nat) : Int)), some (aI ((Sq R s p : Nat) : Int))]) rfl rfl rfl (by omega) (by omega) rfl ?_
        refine E_s (p' := 36) rfl rfl ?_
        exact ih (p + 1) _ _ (by omega) (by omega) (by rw [hw]; rfl) (by show cntN _ p + bn (!sdR R (Sq R s p)) = 0; rw [sdR_t hs1 hs2]; exact hb)
      · refine E_go (p' := 68) (L' := [some (aA a), some (aI ((s : Nat) : Int)), some (aI ((Sw R s : Nat) : Int)), some (aI ((w : Nat) : Int)), some (aI ((p : Nat) : Int)), some (aI ((Sq R s p : Nat) : Int))]) (st' := [aI 0]) rfl rfl rfl ?_
        refine E_s (p' := 71) rfl rfl ?_
        refine E_s (p' := 72) (st' := aI (-1) :: _) rfl rfl ?_
        refine E_ret rfl rfl ?_
        rw [show kps R s = -1 by unfold kps; rw [cif_neg (fun g9 => absurd g9.2.2 (cntN_pos (i := p) (by omega) (by show (!sdR R (Sq R s p)) = true; rw [sdR_f hs0]; rfl)))]] at q
        exact q
theorem c_keepsSum (hR : isR a) (hC : CR R a m) (hV : VR R) (hd9 : RdC R a m) {s : Nat} (hs : s < Sn R) (q : Q (some (aI (kps R s))) (m, tl len)) : E 83 0 [some (aA a), some (aI ((s : Nat) : Int)), none, none, none, none] [] (m, tl len) Q := by
  have hn60 := hV.1
  have hab := isR_b hR
  have hs40 := hV.2.2.2.2.1
  have hwn := (hV.2.2.2.2.2.1 s hs).1
  refine E_s (p' := 1) (st' := aA a :: _) rfl rfl ?_
  refine E_gA (b := a + 9) rfl rfl rfl (kR_0 hR) (hR_0_1 hR) rfl ?_
  refine E_gA (b := a + 10) rfl rfl rfl (kR_9 hR) (hR_9_0 hR) rfl ?_
  refine E_s (p' := 8) (st' := aI ((s : Nat) : Int) :: _) rfl rfl ?_
  refine E_ald (e := s) (N := 40) (v := ((Sw R s : Nat) : Int)) rfl (kR_10 hR) (rfl) (by omega) (CR_10 hC (by omega)) ?_
  refine E_s (p' := 10) (L' := [some (aA a), some (aI ((s : Nat) : Int)), some (aI ((Sw R s : Nat) : Int)), none, none, none]) rfl rfl ?_
  refine E_s (p' := 11) (st' := aA a :: _) rfl rfl ?_
  refine E_gA (b := a + 9) rfl rfl rfl (kR_0 hR) (hR_0_1 hR) rfl ?_
  refine E_s (p' := 15) (st' := aI ((s : Nat) : Int) :: _) rfl rfl ?_
  refine E_callV (k' := 84) (a := a + 9) (r := []) (L0 := [some (aA (a + 9)), some (aI ((s : Nat) : Int))]) rfl rfl rfl rfl rfl (kR_9 hR) rfl rfl rfl rfl ?_
  refine c_counts hR hC hV hs (fun hc2 => ?_) (fun hc0 => ?_)
  · refine E_go (p' := 18) (L' := [some (aA a), some (aI ((s : Nat) : Int)), some (aI ((Sw R s : Nat) : Int)), none, none, none]) (st' := [aI 1]) rfl rfl rfl ?_
    refine E_s (p' := 21) rfl rfl ?_
    refine E_s (p' := 22) (st' := aA a :: _) rfl rfl ?_
    refine E_s (p' := 23) (st' := aI ((Sw R s : Nat) : Int) :: _) rfl rfl ?_
    refine E_callV (k' := 74) (a := a) (r := []) (L0 := [some (aA a), some (aI ((Sw R s : Nat) : Int))]) rfl rfl rfl rfl rfl (kR_0 hR) rfl rfl rfl rfl ?_
    refine c_isSound hR hn60 hC hd9 (c := Sw R s) (by omega) (fun hs1 hs2 => ?_) (fun hs0 => ?_)
    · refine E_go (p' := 26) (L' := [some (aA a), some (aI ((s : Nat) : Int)), some (aI ((Sw R s : Nat) : Int)), none, none, none]) (st' := [aI 1]) rfl rfl rfl ?_
      refine E_s (p' := 31) rfl rfl ?_
      refine E_s (p' := 32) (st' := aI 0 :: _) rfl rfl ?_
      refine E_s (p' := 33) (L' := [some (aA a), some (aI ((s : Nat) : Int)), some (aI ((Sw R s : Nat) : Int)), some (aI 0), none, none]) rfl rfl ?_
      refine E_s (p' := 34) (st' := aI 0 :: _) rfl rfl ?_
      refine E_s (p' := 36) (L' := [some (aA a), some (aI ((s : Nat) : Int)), some (aI ((Sw R s : Nat) : Int)), some (aI 0), some (aI 0), none]) rfl rfl ?_
      exact yl_ks hR hC hV hd9 hs hc2 (sdR_t hs1 hs2) (x5 := none) q (Sp R s + 1) 0 0 none (by omega) (by omega) rfl rfl
    · refine E_go (p' := 26) (L' := [some (aA a), some (aI ((s : Nat) : Int)), some (aI ((Sw R s : Nat) : Int)), none, none, none]) (st' := [aI 0]) rfl rfl rfl ?_
      refine E_s (p' := 29) rfl rfl ?_
      refine E_s (p' := 30) (st' := aI (-1) :: _) rfl rfl ?_
      refine E_ret rfl rfl ?_
      rw [show kps R s = -1 by unfold kps; rw [cif_neg (by first | (intro g9; omega) | (intro g9; rw [sdR_f hs0] at g9; exact absurd g9.2.1 (by decide)))]] at q
      exact q
  · refine E_go (p' := 18) (L' := [some (aA a), some (aI ((s : Nat) : Int)), some (aI ((Sw R s : Nat) : Int)), none, none, none]) (st' := [aI 0]) rfl rfl rfl ?_
    refine E_s (p' := 29) rfl rfl ?_
    refine E_s (p' := 30) (st' := aI (-1) :: _) rfl rfl ?_
    refine E_ret rfl rfl ?_
    rw [show kps R s = -1 by unfold kps; rw [cif_neg (by first | (intro g9; omega) | (intro g9; rw [sdR_f hs0] at g9; exact absurd g9.2.1 (by decide)))]] at q
    exact q
end
section
variable {len : Nat} {m : Mm} {Q : Option AV → Sx → Prop} {S : Nat → RD} {r c k l s w g : Int}
theorem C_under (hS : CS S m) (q : ∀ m1, CS S m1 → Mo m m1 → Q (some (aI (qy S r (-1) (aUnder c)))) (m1, tl len)) : E 73 0 [some (aA 1), some (aI (r)), some (aI (c)), none, none, none] [] (m, tl len) Q := by
  refine E_s (p' := 1) (st' := aA 1 :: _) rfl rfl ?_
  refine E_s (p' := 2) (st' := aI (r) :: _) rfl rfl ?_
  refine E_callV (k' := 34) (a := 1) (r := []) (L0 := [some (aA 1), some (aI (r)), none]) rfl rfl rfl rfl rfl rfl rfl rfl rfl rfl ?_
  refine c_readOf hS (fun i a m1 hi hr ha hR hS1 hCS hd hMo => ?_) (fun hr => ?_)
  · refine E_go (p' := 5) (L' := [some (aA 1), some (aI (r)), some (aI (c)), none, none, none]) (st' := [aA a]) rfl rfl rfl ?_
    obtain ⟨hV, hC, -⟩ := hCS
    have hn60 := hV.1
    have hab := isR_b hR
    have hs40 := hV.2.2.2.2.1
    refine E_s (p' := 6) (L' := [some (aA 1), some (aI (r)), some (aI (c)), some (aA a), none, none]) rfl rfl ?_
    refine E_s (p' := 7) (st' := aA a :: _) rfl rfl ?_
    refine E_s (p' := 10) rfl rfl ?_
    refine E_s (p' := 11) (st' := aA a :: _) rfl rfl ?_
    refine E_gA (b := a + 1) rfl rfl rfl (kR_0 hR) (hR_0_0 hR) rfl ?_
    refine E_s (p' := 15) (st' := aI (c) :: _) rfl rfl ?_
    refine E_callV (k' := 17) (a := a + 1) (r := []) (L0 := [some (aA (a + 1)), some (aI (c))]) rfl rfl rfl rfl rfl (kR_1 hR) rfl rfl rfl rfl ?_
    refine c_has hR hC (fun ci he_ci hc_ci => ?_) (fun hno => ?_)
    · refine E_go (p' := 18) (L' := [some (aA 1), some (aI (r)), some (aI (c)), some (aA a), none, none]) (st' := [aI 1]) rfl rfl rfl ?_
      subst he_ci
      refine E_s (p' := 23) rfl rfl ?_
      refine E_s (p' := 24) (st' := aI 0 :: _) rfl rfl ?_
      refine E_s (p' := 26) (L' := [some (aA 1), some (aI (r)), some (aI ((ci : Nat) : Int)), some (aA a), some (aI 0), none]) rfl rfl ?_
      refine E_s (p' := 27) (st' := aI ((ci : Nat) : Int) :: _) rfl rfl ?_
      refine E_s (p' := 28) (st' := aI 1 :: _) rfl rfl ?_
      refine E_add (v := ((ci + 1 : Nat) : Int)) rfl (by omega) (by omega) ?_
      refine E_s (p' := 31) (L' := [some (aA 1), some (aI (r)), some (aI ((ci : Nat) : Int)), some (aA a), some (aI 0), some (aI ((ci + 1 : Nat) : Int))]) rfl rfl ?_
      have hz : ∀ d, d < ci + 1 → decide (Co (S i) d = (ci : Int)) = false := fun d hd9 => decide_eq_false (by have := (hV.2.2.1 d (by omega)).2.1; omega)
      exact yl_under hR hC hV hd hc_ci (fun g9 => fq_in hS1 hi hr q (by unfold aUnder; rw [cif_pos ⟨by unfold inC; omega, g9⟩]) hMo) (fun g9 => fq_in hS1 hi hr q (by unfold aUnder; rw [cif_neg (fun h9 => g9 h9.2)]) hMo) (Cn (S i) + 1) (ci + 1) 0 (by omega) (by omega) (by unfold unS; rw [sumN_z (fun d hd9 => by show (bif decide (Co (S i) d = (ci : Int)) then Rvl (S i) d else 0) = 0; rw [hz d hd9]; rfl)]) (cntN_z (fun d hd9 => by show (decide (Co (S i) d = (ci : Int)) && !sdR (S i) d) = false; rw [hz d hd9]; rfl))
    · refine E_go (p' := 18) (L' := [some (aA 1), some (aI (r)), some (aI (c)), some (aA a), none, none]) (st' := [aI 0]) rfl rfl rfl ?_
      refine E_s (p' := 21) rfl rfl ?_
      refine E_s (p' := 22) (st' := aI (-1) :: _) rfl rfl ?_
      refine E_ret rfl rfl ?_
      exact fq_in hS1 hi hr q (by unfold aUnder; rw [cif_neg (by unfold inC; omega)]) hMo
  · refine E_go (p' := 5) (L' := [some (aA 1), some (aI (r)), some (aI (c)), none, none, none]) (st' := [aN]) rfl rfl rfl ?_
    refine E_s (p' := 6) (L' := [some (aA 1), some (aI (r)), some (aI (c)), some (aN), none, none]) rfl rfl ?_
    refine E_s (p' := 7) (st' := aN :: _) rfl rfl ?_
    refine E_s (p' := 21) rfl rfl ?_
    refine E_s (p' := 22) (st' := aI (-1) :: _) rfl rfl ?_
    refine E_ret rfl rfl ?_
    exact fq_out hS q hr
theorem C_sumAt (hw9 : w ≤ 2147483647) (hS : CS S m) (q : ∀ m1, CS S m1 → Mo m m1 → Q (some (aI (qy S r (-1) (aSumAt s w)))) (m1, tl len)) : E 82 0 [some (aA 1), some (aI (r)), some (aI (s)), some (aI (w)), none, none] [] (m, tl len) Q := by
  refine E_s (p' := 1) (st' := aA 1 :: _) rfl rfl ?_
  refine E_s (p' := 2) (st' := aI (r) :: _) rfl rfl ?_
  refine E_callV (k' := 34) (a := 1) (r := []) (L0 := [some (aA 1), some (aI (r)), none]) rfl rfl rfl rfl rfl rfl rfl rfl rfl rfl ?_
  refine c_readOf hS (fun i a m1 hi hr ha hR hS1 hCS hd hMo => ?_) (fun hr => ?_)
  · refine E_go (p' := 5) (L' := [some (aA 1), some (aI (r)), some (aI (s)), some (aI (w)), none, none]) (st' := [aA a]) rfl rfl rfl ?_
    obtain ⟨hV, hC, -⟩ := hCS
    have hn60 := hV.1
    have hab := isR_b hR
    have hs40 := hV.2.2.2.2.1
    refine E_s (p' := 7) (L' := [some (aA 1), some (aI (r)), some (aI (s)), some (aI (w)), some (aA a), none]) rfl rfl ?_
    refine E_s (p' := 9) (st' := aA a :: _) rfl rfl ?_
    refine E_s (p' := 12) rfl rfl ?_
    refine E_s (p' := 13) (st' := aI (s) :: _) rfl rfl ?_
    refine E_if_lt (x := (s)) rfl (by decide) (fun h_1 => ?_) (fun h_1 => ?_)
    · refine E_go (p' := 28) (L' := [some (aA 1), some (aI (r)), some (aI (s)), some (aI (w)), some (aA a), none]) (st' := []) rfl rfl rfl ?_
      refine E_s (p' := 29) (st' := aI (-1) :: _) rfl rfl ?_
      refine E_ret rfl rfl ?_
      exact fq_in hS1 hi hr q (by unfold aSumAt; rw [cif_neg (by omega)]) hMo
    · refine E_go (p' := 16) (L' := [some (aA 1), some (aI (r)), some (aI (s)), some (aI (w)), some (aA a), none]) (st' := []) rfl rfl rfl ?_
      refine E_s (p' := 17) (st' := aI (s) :: _) rfl rfl ?_
      refine E_s (p' := 19) (st' := aA a :: _) rfl rfl ?_
      refine E_gA (b := a + 9) rfl rfl rfl (kR_0 hR) (hR_0_1 hR) rfl ?_
      refine E_gI (v := ((Sn (S i) : Nat) : Int)) rfl rfl rfl (kR_9 hR) (CRS hC) ?_
      refine E_icmp_lt (x := (s)) (y := ((Sn (S i) : Nat) : Int)) rfl (by decide) (fun h_2 => ?_) (fun h_2 => ?_)
      · refine E_go (p' := 30) (L' := [some (aA 1), some (aI (r)), some (aI (s)), some (aI (w)), some (aA a), none]) (st' := []) rfl rfl rfl ?_
        obtain ⟨sn, es⟩ : ∃ x : Nat, s = (x : Int) := ⟨s.toNat, by omega⟩
        subst es
        have hp12 := (hV.2.2.2.2.2.1 sn (by omega)).2
        refine E_s (p' := 31) (st' := aI (w) :: _) rfl rfl ?_
        refine E_s (p' := 33) (st' := aI 10 :: _) rfl rfl ?_
        refine E_icmp_lt (x := (w)) (y := 10) rfl (by decide) (fun h_3 => ?_) (fun h_3 => ?_)
        · refine E_go (p' := 73) (L' := [some (aA 1), some (aI (r)), some (aI ((sn : Nat) : Int)), some (aI (w)), some (aA a), none]) (st' := []) rfl rfl rfl ?_
          refine E_s (p' := 74) (st' := aI (w) :: _) rfl rfl ?_
          rcases (show (w) = 0 ∨ (w) = 1 ∨ (w) = 2 ∨ ((w) ≠ 0 ∧ (w) ≠ 1 ∧ (w) ≠ 2) by omega) with h_4 | h_5 | h_6 | h_7
          · refine E_valv h_4 ?_
            refine E_s (p' := 100) rfl rfl ?_
            refine E_s (p' := 102) (st' := aA a :: _) rfl rfl ?_
            refine E_gA (b := a + 9) rfl rfl rfl (kR_0 hR) (hR_0_1 hR) rfl ?_
            refine E_gA (b := a + 10) rfl rfl rfl (kR_9 hR) (hR_9_0 hR) rfl ?_
            refine E_s (p' := 109) (st' := aI ((sn : Nat) : Int) :: _) rfl rfl ?_
            refine E_ald (e := sn) (N := 40) (v := ((Sw (S i) sn : Nat) : Int)) rfl (kR_10 hR) (rfl) (by omega) (CR_10 hC (by omega)) ?_
            refine E_ret rfl rfl ?_
            exact fq_in hS1 hi hr q (by unfold aSumAt; (try simp only [Int.toNat_natCast]); rw [cif_pos (by omega), if_pos (by omega)]) hMo
          · refine E_valv h_5 ?_
            refine E_s (p' := 111) rfl rfl ?_
            refine E_s (p' := 113) (st' := aA a :: _) rfl rfl ?_
            refine E_gA (b := a + 9) rfl rfl rfl (kR_0 hR) (hR_0_1 hR) rfl ?_
            refine E_gA (b := a + 11) rfl rfl rfl (kR_9 hR) (hR_9_1 hR) rfl ?_
            refine E_s (p' := 120) (st' := aI ((sn : Nat) : Int) :: _) rfl rfl ?_
            refine E_ald (e := sn) (N := 40) (v := ((Sp (S i) sn : Nat) : Int)) rfl (kR_11 hR) (rfl) (by omega) (CR_11 hC (by omega)) ?_
            refine E_ret rfl rfl ?_
            exact fq_in hS1 hi hr q (by unfold aSumAt; (try simp only [Int.toNat_natCast]); rw [cif_pos (by omega), if_neg (by omega), if_pos (by omega)]) hMo
          · refine E_valv h_6 ?_
            refine E_s (p' := 122) rfl rfl ?_
            refine E_s (p' := 124) (st' := aA a :: _) rfl rfl ?_
            refine E_s (p' := 125) (st' := aI ((sn : Nat) : Int) :: _) rfl rfl ?_
            refine E_callV (k' := 83) (a := a) (r := []) (L0 := [some (aA a), some (aI ((sn : Nat) : Int)), none, none, none, none]) rfl rfl rfl rfl rfl (kR_0 hR) rfl rfl rfl rfl ?_
            refine c_keepsSum hR hC hV hd (by omega) ?_
            refine E_go (p' := 128) (L' := [some (aA 1), some (aI (r)), some (aI ((sn : Nat) : Int)), some (aI (w)), some (aA a), none]) (st' := [aI ((kps (S i) sn))]) rfl rfl rfl ?_
            refine E_ret rfl rfl ?_
            exact fq_in hS1 hi hr q (by unfold aSumAt; (try simp only [Int.toNat_natCast]); rw [cif_pos (by omega), if_neg (by omega), if_neg (by omega), if_pos (by omega)]) hMo
          · refine E_tabO rfl (by omega) (by decide) ?_
            refine E_go (p' := 129) (L' := [some (aA 1), some (aI (r)), some (aI ((sn : Nat) : Int)), some (aI (w)), some (aA a), none]) (st' := []) rfl rfl rfl ?_
            refine E_s (p' := 130) (st' := aI (-1) :: _) rfl rfl ?_
            refine E_ret rfl rfl ?_
            exact fq_in hS1 hi hr q (by unfold aSumAt; (try simp only [Int.toNat_natCast]); rw [cif_pos (by omega), if_neg (by omega), if_neg (by omega), if_neg (by omega), cif_neg (by omega)]) hMo
        · refine E_go (p' := 36) (L' := [some (aA 1), some (aI (r)), some (aI ((sn : Nat) : Int)), some (aI (w)), some (aA a), none]) (st' := []) rfl rfl rfl ?_
          refine E_s (p' := 37) (st' := aI (w) :: _) rfl rfl ?_
          refine E_s (p' := 39) (st' := aI 10 :: _) rfl rfl ?_
          refine E_sub (v := (w - 10)) rfl (by omega) (by omega) ?_
          refine E_s (p' := 42) (L' := [some (aA 1), some (aI (r)), some (aI ((sn : Nat) : Int)), some (aI (w)), some (aA a), some (aI (w - 10))]) rfl rfl ?_
          refine E_s (p' := 44) (st' := aI (w - 10) :: _) rfl rfl ?_
          refine E_s (p' := 46) (st' := aA a :: _) rfl rfl ?_
          refine E_gA (b := a + 9) rfl rfl rfl (kR_0 hR) (hR_0_1 hR) rfl ?_
          refine E_gA (b := a + 11) rfl rfl rfl (kR_9 hR) (hR_9_1 hR) rfl ?_
          refine E_s (p' := 53) (st' := aI ((sn : Nat) : Int) :: _) rfl rfl ?_
          refine E_ald (e := sn) (N := 40) (v := ((Sp (S i) sn : Nat) : Int)) rfl (kR_11 hR) (rfl) (by omega) (CR_11 hC (by omega)) ?_
          refine E_icmp_ge (x := (w - 10)) (y := ((Sp (S i) sn : Nat) : Int)) rfl (by decide) (fun h_8 => ?_) (fun h_8 => ?_)
          · refine E_go (p' := 71) (L' := [some (aA 1), some (aI (r)), some (aI ((sn : Nat) : Int)), some (aI (w)), some (aA a), some (aI (w - 10))]) (st' := []) rfl rfl rfl ?_
            refine E_s (p' := 72) (st' := aI (-1) :: _) rfl rfl ?_
            refine E_ret rfl rfl ?_
            exact fq_in hS1 hi hr q (by unfold aSumAt; (try simp only [Int.toNat_natCast]); rw [cif_pos (by omega), if_neg (by omega), if_neg (by omega), if_neg (by omega), cif_neg (by omega)]) hMo
          · refine E_go (p' := 57) (L' := [some (aA 1), some (aI (r)), some (aI ((sn : Nat) : Int)), some (aI (w)), some (aA a), some (aI (w - 10))]) (st' := []) rfl rfl rfl ?_
            obtain ⟨pn, ep⟩ : ∃ x : Nat, w = (x : Int) + 10 := ⟨(w - 10).toNat, by omega⟩
            rw [show (w - 10) = ((pn : Nat) : Int) by omega]
            refine E_s (p' := 59) (st' := aA a :: _) rfl rfl ?_
            refine E_gA (b := a + 9) rfl rfl rfl (kR_0 hR) (hR_0_1 hR) rfl ?_
            refine E_s (p' := 63) (st' := aI ((sn : Nat) : Int) :: _) rfl rfl ?_
            refine E_s (p' := 65) (st' := aI ((pn : Nat) : Int) :: _) rfl rfl ?_
            refine E_callV (k' := 79) (a := a + 9) (r := []) (L0 := [some (aA (a + 9)), some (aI ((sn : Nat) : Int)), some (aI ((pn : Nat) : Int))]) rfl rfl rfl rfl rfl (kR_9 hR) rfl rfl rfl rfl ?_
            refine c_partOf hR hC hV (s := sn) (p := pn) (by omega) (by omega) ?_
            refine E_go (p' := 68) (L' := [some (aA 1), some (aI (r)), some (aI ((sn : Nat) : Int)), some (aI (w)), some (aA a), some (aI ((pn : Nat) : Int))]) (st' := [aI ((Sq (S i) sn pn : Nat) : Int)]) rfl rfl rfl ?_
            refine E_s (p' := 72) rfl rfl ?_
            refine E_ret rfl rfl ?_
            exact fq_in hS1 hi hr q (by unfold aSumAt; (try simp only [Int.toNat_natCast]); rw [cif_pos (by omega), if_neg (by omega), if_neg (by omega), if_neg (by omega), cif_pos (by omega), show (w - 10).toNat = pn by omega]) hMo
      · refine E_go (p' := 28) (L' := [some (aA 1), some (aI (r)), some (aI (s)), some (aI (w)), some (aA a), none]) (st' := []) rfl rfl rfl ?_
        refine E_s (p' := 29) (st' := aI (-1) :: _) rfl rfl ?_
        refine E_ret rfl rfl ?_
        exact fq_in hS1 hi hr q (by unfold aSumAt; rw [cif_neg (by omega)]) hMo
  · refine E_go (p' := 5) (L' := [some (aA 1), some (aI (r)), some (aI (s)), some (aI (w)), none, none]) (st' := [aN]) rfl rfl rfl ?_
    refine E_s (p' := 7) (L' := [some (aA 1), some (aI (r)), some (aI (s)), some (aI (w)), some (aN), none]) rfl rfl ?_
    refine E_s (p' := 9) (st' := aN :: _) rfl rfl ?_
    refine E_s (p' := 28) rfl rfl ?_
    refine E_s (p' := 29) (st' := aI (-1) :: _) rfl rfl ?_
    refine E_ret rfl rfl ?_
    exact fq_out hS q hr
theorem C_span (hS : CS S m) (q : ∀ v : Int, Q (some (aI v)) (m, tl len)) : E 95 0 [some (aA 1), some (aI (r)), some (aI (c)), some (aI (w)), none] [] (m, tl len) Q := by
  refine E_s (p' := 1) (st' := aA 1 :: _) rfl rfl ?_
  refine E_s (p' := 2) (st' := aI (r) :: _) rfl rfl ?_
  refine E_callV (k' := 12) (a := 1) (r := []) (L0 := [some (aA 1), some (aI (r))]) rfl rfl rfl rfl rfl rfl rfl rfl rfl rfl ?_
  refine c_recordOf' (fun i a hi hr ha hR => ?_) (fun hr => ?_)
  · refine E_go (p' := 5) (L' := [some (aA 1), some (aI (r)), some (aI (c)), some (aI (w)), none]) (st' := [aA a]) rfl rfl rfl ?_
    obtain ⟨hV, hC, hrd⟩ := hS i hi
    rw [← ha] at hC hrd
    have hn60 := hV.1
    have hab := isR_b hR
    have hs40 := hV.2.2.2.2.1
    have hS1 := hS
    have hMo : Mo m m := Mo.rf
    refine E_s (p' := 7) (L' := [some (aA 1), some (aI (r)), some (aI (c)), some (aI (w)), some (aA a)]) rfl rfl ?_
    refine E_s (p' := 9) (st' := aA a :: _) rfl rfl ?_
    refine E_s (p' := 12) rfl rfl ?_
    refine E_s (p' := 14) (st' := aA a :: _) rfl rfl ?_
    refine E_gA (b := a + 1) rfl rfl rfl (kR_0 hR) (hR_0_0 hR) rfl ?_
    refine E_s (p' := 18) (st' := aI (c) :: _) rfl rfl ?_
    refine E_callV (k' := 17) (a := a + 1) (r := []) (L0 := [some (aA (a + 1)), some (aI (c))]) rfl rfl rfl rfl rfl (kR_1 hR) rfl rfl rfl rfl ?_
    refine c_has hR hC (fun ci he_ci hc_ci => ?_) (fun hno => ?_)
    · refine E_go (p' := 21) (L' := [some (aA 1), some (aI (r)), some (aI (c)), some (aI (w)), some (aA a)]) (st' := [aI 1]) rfl rfl rfl ?_
      subst he_ci
      refine E_s (p' := 24) rfl rfl ?_
      refine E_s (p' := 26) (st' := aA a :: _) rfl rfl ?_
      refine E_gI (v := ((m a 6))) rfl rfl rfl (kR_0 hR) rfl ?_
      refine E_if_ne (x := ((m a 6))) rfl (by decide) (fun h_1 => ?_) (fun h_1 => ?_)
      · refine E_go (p' := 34) (L' := [some (aA 1), some (aI (r)), some (aI ((ci : Nat) : Int)), some (aI (w)), some (aA a)]) (st' := []) rfl rfl rfl ?_
        refine E_s (p' := 35) (st' := aI (w) :: _) rfl rfl ?_
        rcases (show (w) = 0 ∨ (w) = 1 ∨ ((w) ≠ 0 ∧ (w) ≠ 1) by omega) with h_2 | h_3 | h_4
        · refine E_valv h_2 ?_
          refine E_s (p' := 60) rfl rfl ?_
          refine E_s (p' := 62) (st' := aA a :: _) rfl rfl ?_
          refine E_gA (b := a + 13) rfl rfl rfl (kR_0 hR) (hR_0_2 hR) rfl ?_
          refine E_s (p' := 66) (st' := aI ((ci : Nat) : Int) :: _) rfl rfl ?_
          refine E_ald (e := ci) (N := 60) (v := ((m (a + 13) ci))) rfl (kR_13 hR) (rfl) (by omega) rfl ?_
          refine E_ret rfl rfl ?_
          exact q _
        · refine E_valv h_3 ?_
          refine E_s (p' := 68) rfl rfl ?_
          refine E_s (p' := 70) (st' := aA a :: _) rfl rfl ?_
          refine E_gA (b := a + 14) rfl rfl rfl (kR_0 hR) (hR_0_3 hR) rfl ?_
          refine E_s (p' := 74) (st' := aI ((ci : Nat) : Int) :: _) rfl rfl ?_
          refine E_ald (e := ci) (N := 60) (v := ((m (a + 14) ci))) rfl (kR_14 hR) (rfl) (by omega) rfl ?_
          refine E_ret rfl rfl ?_
          exact q _
        · refine E_lkO rfl rfl (by show (if (0 : Int) = (w) then _ else if (1 : Int) = (w) then _ else _) = _; rw [if_neg (by omega), if_neg (by omega)]; rfl) (by decide) ?_
          refine E_go (p' := 76) (L' := [some (aA 1), some (aI (r)), some (aI ((ci : Nat) : Int)), some (aI (w)), some (aA a)]) (st' := []) rfl rfl rfl ?_
          refine E_s (p' := 77) (st' := aI (-1) :: _) rfl rfl ?_
          refine E_ret rfl rfl ?_
          exact q _
      · refine E_go (p' := 32) (L' := [some (aA 1), some (aI (r)), some (aI ((ci : Nat) : Int)), some (aI (w)), some (aA a)]) (st' := []) rfl rfl rfl ?_
        refine E_s (p' := 33) (st' := aI (-1) :: _) rfl rfl ?_
        refine E_ret rfl rfl ?_
        exact q _
    · refine E_go (p' := 21) (L' := [some (aA 1), some (aI (r)), some (aI (c)), some (aI (w)), some (aA a)]) (st' := [aI 0]) rfl rfl rfl ?_
      refine E_s (p' := 32) rfl rfl ?_
      refine E_s (p' := 33) (st' := aI (-1) :: _) rfl rfl ?_
      refine E_ret rfl rfl ?_
      exact q _
  · refine E_go (p' := 5) (L' := [some (aA 1), some (aI (r)), some (aI (c)), some (aI (w)), none]) (st' := [aN]) rfl rfl rfl ?_
    refine E_s (p' := 7) (L' := [some (aA 1), some (aI (r)), some (aI (c)), some (aI (w)), some (aN)]) rfl rfl ?_
    refine E_s (p' := 9) (st' := aN :: _) rfl rfl ?_
    refine E_s (p' := 32) rfl rfl ?_
    refine E_s (p' := 33) (st' := aI (-1) :: _) rfl rfl ?_
    refine E_ret rfl rfl ?_
    exact q _
theorem C_grouping {n : Nat} (hn : n ≤ 300) (h10 : m 10 2 = (n : Int)) (q : ∀ v : Int, Q (some (aI v)) (m, tl len)) : E 115 0 [some (aA 1), some (aI (k)), some (aI (w))] [] (m, tl len) Q := by
  refine E_s (p' := 1) (st' := aI (k) :: _) rfl rfl ?_
  refine E_if_lt (x := (k)) rfl (by decide) (fun h_1 => ?_) (fun h_1 => ?_)
  · refine E_go (p' := 15) (L' := [some (aA 1), some (aI (k)), some (aI (w))]) (st' := []) rfl rfl rfl ?_
    refine E_s (p' := 16) (st' := aI (-1) :: _) rfl rfl ?_
    refine E_ret rfl rfl ?_
    exact q _
  · refine E_go (p' := 4) (L' := [some (aA 1), some (aI (k)), some (aI (w))]) (st' := []) rfl rfl rfl ?_
    refine E_s (p' := 5) (st' := aI (k) :: _) rfl rfl ?_
    refine E_s (p' := 6) (st' := aA 1 :: _) rfl rfl ?_
    refine E_gA (b := 10) rfl rfl rfl rfl rfl rfl ?_
    refine E_gI (v := ((n : Nat) : Int)) rfl rfl rfl rfl h10 ?_
    refine E_icmp_lt (x := (k)) (y := ((n : Nat) : Int)) rfl (by decide) (fun h_2 => ?_) (fun h_2 => ?_)
    · refine E_go (p' := 17) (L' := [some (aA 1), some (aI (k)), some (aI (w))]) (st' := []) rfl rfl rfl ?_
      refine E_s (p' := 18) (st' := aI (w) :: _) rfl rfl ?_
      rcases (show (w) = 0 ∨ (w) = 1 ∨ ((w) ≠ 0 ∧ (w) ≠ 1) by omega) with h_3 | h_4 | h_5
      · refine E_valv h_3 ?_
        refine E_s (p' := 44) rfl rfl ?_
        refine E_s (p' := 45) (st' := aA 1 :: _) rfl rfl ?_
        refine E_gA (b := 10) rfl rfl rfl rfl rfl rfl ?_
        refine E_gA (b := 11) rfl rfl rfl rfl rfl rfl ?_
        refine E_s (p' := 52) (st' := aI (k) :: _) rfl rfl ?_
        refine E_ald (e := (k).toNat) (N := 300) (v := ((m 11 (k).toNat))) rfl rfl (by omega) (by omega) rfl ?_
        refine E_ret rfl rfl ?_
        exact q _
      · refine E_valv h_4 ?_
        refine E_s (p' := 54) rfl rfl ?_
        refine E_s (p' := 55) (st' := aA 1 :: _) rfl rfl ?_
        refine E_gA (b := 10) rfl rfl rfl rfl rfl rfl ?_
        refine E_gA (b := 12) rfl rfl rfl rfl rfl rfl ?_
        refine E_s (p' := 62) (st' := aI (k) :: _) rfl rfl ?_
        refine E_ald (e := (k).toNat) (N := 300) (v := ((m 12 (k).toNat))) rfl rfl (by omega) (by omega) rfl ?_
        refine E_ret rfl rfl ?_
        exact q _
      · refine E_lkO rfl rfl (by show (if (0 : Int) = (w) then _ else if (1 : Int) = (w) then _ else _) = _; rw [if_neg (by omega), if_neg (by omega)]; rfl) (by decide) ?_
        refine E_go (p' := 64) (L' := [some (aA 1), some (aI (k)), some (aI (w))]) (st' := []) rfl rfl rfl ?_
        refine E_s (p' := 65) (st' := aI (-1) :: _) rfl rfl ?_
        refine E_ret rfl rfl ?_
        exact q _
    · refine E_go (p' := 15) (L' := [some (aA 1), some (aI (k)), some (aI (w))]) (st' := []) rfl rfl rfl ?_
      refine E_s (p' := 16) (st' := aI (-1) :: _) rfl rfl ?_
      refine E_ret rfl rfl ?_
      exact q _
theorem c_cordAt (q : ∀ v : Int, Q (some (aI v)) (m, tl len)) : E 105 0 [some (aA 8), some (aI (k))] [] (m, tl len) Q := by
  refine E_s (p' := 1) (st' := aI (k) :: _) rfl rfl ?_
  refine E_if_lt (x := (k)) rfl (by decide) (fun h_1 => ?_) (fun h_1 => ?_)
  · refine E_go (p' := 12) (L' := [some (aA 8), some (aI (k))]) (st' := []) rfl rfl rfl ?_
    refine E_s (p' := 13) (st' := aI (-1) :: _) rfl rfl ?_
    refine E_ret rfl rfl ?_
    exact q _
  · refine E_go (p' := 4) (L' := [some (aA 8), some (aI (k))]) (st' := []) rfl rfl rfl ?_
    refine E_s (p' := 5) (st' := aI (k) :: _) rfl rfl ?_
    refine E_s (p' := 6) (st' := aA 8 :: _) rfl rfl ?_
    refine E_gI (v := ((m 8 1))) rfl rfl rfl rfl rfl ?_
    refine E_icmp_lt (x := (k)) (y := ((m 8 1))) rfl (by decide) (fun h_2 => ?_) (fun h_2 => ?_)
    · refine E_go (p' := 14) (L' := [some (aA 8), some (aI (k))]) (st' := []) rfl rfl rfl ?_
      refine E_s (p' := 15) (st' := aI (k) :: _) rfl rfl ?_
      refine E_if_ne (x := (k)) rfl (by decide) (fun h_3 => ?_) (fun h_3 => ?_)
      · refine E_go (p' := 25) (L' := [some (aA 8), some (aI (k))]) (st' := []) rfl rfl rfl ?_
        refine E_s (p' := 26) (st' := aA 8 :: _) rfl rfl ?_
        refine E_gI (v := ((m 8 3))) rfl rfl rfl rfl rfl ?_
        refine E_ret rfl rfl ?_
        exact q _
      · refine E_go (p' := 18) (L' := [some (aA 8), some (aI (k))]) (st' := []) rfl rfl rfl ?_
        refine E_s (p' := 19) (st' := aA 8 :: _) rfl rfl ?_
        refine E_gI (v := ((m 8 2))) rfl rfl rfl rfl rfl ?_
        refine E_s (p' := 29) rfl rfl ?_
        refine E_ret rfl rfl ?_
        exact q _
    · refine E_go (p' := 12) (L' := [some (aA 8), some (aI (k))]) (st' := []) rfl rfl rfl ?_
      refine E_s (p' := 13) (st' := aI (-1) :: _) rfl rfl ?_
      refine E_ret rfl rfl ?_
      exact q _
theorem C_cured (q : ∀ v : Int, Q (some (aI v)) (m, tl len)) : E 104 0 [some (aA 1), some (aI (k))] [] (m, tl len) Q := by
  refine E_s (p' := 1) (st' := aA 1 :: _) rfl rfl ?_
  refine E_gA (b := 8) rfl rfl rfl rfl rfl rfl ?_
  refine E_s (p' := 5) (st' := aI (k) :: _) rfl rfl ?_
  refine E_callV (k' := 105) (a := 8) (r := []) (L0 := [some (aA 8), some (aI (k))]) rfl rfl rfl rfl rfl rfl rfl rfl rfl rfl ?_
  refine c_cordAt (fun v9 => ?_)
  refine E_go (p' := 8) (L' := [some (aA 1), some (aI (k))]) (st' := [aI (v9)]) rfl rfl rfl ?_
  refine E_ret rfl rfl ?_
  exact q _
end
section
variable {len : Nat} {m0 : Mm} {Q : Option AV → Sx → Prop} {R : RD} {a : Nat} {g : Int}
theorem yl_cg (hR : isR a) (hC : CR R a m0) (hV : VR R) (q : ∀ m1 : Mm, Fx 19 19 m0 m1 → (∀ i, i < glen R g → m1 19 i = (gcol R g i : Int)) → Q (some (aI (glen R g : Int))) (m1, tl len)) : ∀ (d : Nat) (c n : Nat) (m : Mm), (Cn R < c + d) → (c ≤ Cn R) → (n = (gmem R g c).length) → (Fx 19 19 m0 m) → (∀ i, i < n → m 19 i = (Cc R ((gmem R g c).getD i 0) : Int)) → E 117 5 [some (aA (a + 1)), some (aI (g)), some (aA 19), some (aI ((n : Nat) : Int)), some (aI ((c : Nat) : Int))] [] (m, tl len) Q := by
  intro d
  induction d with
  | zero => intro c n m hd hc hn I1 I2; omega
  | succ d ih =>
    intro c n m hd hc hn I1 I2
    have hab := isR_b hR
    have hn60 := hV.1
    have hCm : CR R a m := hC.of (fun b j g1 g2 _ => I1 b j (by omega))
    have hgl := gmem_le R g c
    refine E_s (p' := 7) (st' := aI ((c : Nat) : Int) :: _) rfl rfl ?_
    refine E_s (p' := 8) (st' := aA (a + 1) :: _) rfl rfl ?_
    refine E_gI (v := ((Cn R : Nat) : Int)) rfl rfl rfl (kR_1 hR) hCm.1 ?_
    refine E_icmp_ge (x := ((c : Nat) : Int)) (y := ((Cn R : Nat) : Int)) rfl (by decide) (fun h_1 => ?_) (fun h_1 => ?_)
    · refine E_go (p' := 44) (L' := [some (aA (a + 1)), some (aI (g)), some (aA 19), some (aI ((n : Nat) : Int)), some (aI ((c : Nat) : Int))]) (st' := []) rfl rfl rfl ?_
      refine E_s (p' := 45) (st' := aI ((n : Nat) : Int) :: _) rfl rfl ?_
      refine E_ret rfl rfl ?_
      have ec : c = Cn R := by omega
      subst ec
      subst hn
      exact q m I1 I2
    · refine E_go (p' := 14) (L' := [some (aA (a + 1)), some (aI (g)), some (aA 19), some (aI ((n : Nat) : Int)), some (aI ((c : Nat) : Int))]) (st' := []) rfl rfl rfl ?_
      refine E_s (p' := 15) (st' := aA (a + 1) :: _) rfl rfl ?_
      refine E_gA (b := a + 2) rfl rfl rfl (kR_1 hR) (hR_1_0 hR) rfl ?_
      refine E_s (p' := 20) (st' := aI ((c : Nat) : Int) :: _) rfl rfl ?_
      refine E_ald (e := c) (N := 60) (v := ((Cg R c))) rfl (kR_2 hR) (rfl) (by omega) (CR_2 hCm (by omega)) ?_
      refine E_s (p' := 22) (st' := aI (g) :: _) rfl rfl ?_
      refine E_icmp_ne (x := ((Cg R c))) (y := (g)) rfl (by decide) (fun h_2 => ?_) (fun h_2 => ?_)
      · refine E_go (p' := 38) (L' := [some (aA (a + 1)), some (aI (g)), some (aA 19), some (aI ((n : Nat) : Int)), some (aI ((c : Nat) : Int))]) (st' := []) rfl rfl rfl ?_
        refine E_inc (x := ((c : Nat) : Int)) (w := ((c + 1 : Nat) : Int)) (L' := [some (aA (a + 1)), some (aI (g)), some (aA 19), some (aI ((n : Nat) : Int)), some (aI ((c + 1 : Nat) : Int))]) rfl rfl rfl (by omega) (by omega) rfl ?_
        refine E_s (p' := 5) rfl rfl ?_
        exact ih (c + 1) n m (by omega) (by omega) (by rw [gmem_f (by omega)]; exact hn) I1 (by rw [gmem_f (by omega)]; exact I2)
      · refine E_go (p' := 25) (L' := [some (aA (a + 1)), some (aI (g)), some (aA 19), some (aI ((n : Nat) : Int)), some (aI ((c : Nat) : Int))]) (st' := []) rfl rfl rfl ?_
        refine E_s (p' := 26) (st' := aA 19 :: _) rfl rfl ?_
        refine E_s (p' := 27) (st' := aI ((n : Nat) : Int) :: _) rfl rfl ?_
        refine E_s (p' := 28) (st' := aA (a + 1) :: _) rfl rfl ?_
        refine E_gA (b := a + 4) rfl rfl rfl (kR_1 hR) (hR_1_2 hR) rfl ?_
        refine E_s (p' := 33) (st' := aI ((c : Nat) : Int) :: _) rfl rfl ?_
        refine E_ald (e := c) (N := 60) (v := ((Cc R c : Nat) : Int)) rfl (kR_4 hR) (rfl) (by omega) (CR_4 hCm (by omega)) ?_
        refine E_ast (e := n) (N := 61) rfl rfl (rfl) (by omega) ?_
        refine E_inc (x := ((n : Nat) : Int)) (w := ((n + 1 : Nat) : Int)) (L' := [some (aA (a + 1)), some (aI (g)), some (aA 19), some (aI ((n + 1 : Nat) : Int)), some (aI ((c : Nat) : Int))]) rfl rfl rfl (by omega) (by omega) rfl ?_
        refine E_inc (x := ((c : Nat) : Int)) (w := ((c + 1 : Nat) : Int)) (L' := [some (aA (a + 1)), some (aI (g)), some (aA 19), some (aI ((n + 1 : Nat) : Int)), some (aI ((c + 1 : Nat) : Int))]) rfl rfl rfl (by omega) (by omega) rfl ?_
        refine E_s (p' := 5) rfl rfl ?_
        refine ih (c + 1) _ _ (by omega) (by omega) (by rw [gmem_t (by omega), List.length_append, hn]; rfl) (I1.up (by omega) (by omega)) (fun i hi => ?_)
        rw [gmem_t (by omega)]
        by_cases g9 : i = n
        · rw [g9, hn, getD_app_r, ← hn]; exact up2_eq
        · rw [getD_app_l (by omega)]; exact (up2_sl g9).trans (I2 i (by omega))
theorem c_cog (hR : isR a) (hC : CR R a m0) (hV : VR R) (q : ∀ m1 : Mm, Fx 19 19 m0 m1 → (∀ i, i < glen R g → m1 19 i = (gcol R g i : Int)) → Q (some (aI (glen R g : Int))) (m1, tl len)) : E 117 0 [some (aA (a + 1)), some (aI (g)), some (aA 19), none, none] [] (m0, tl len) Q := by
  refine E_s (p' := 1) (st' := aI 0 :: _) rfl rfl ?_
  refine E_s (p' := 2) (L' := [some (aA (a + 1)), some (aI (g)), some (aA 19), some (aI 0), none]) rfl rfl ?_
  refine E_s (p' := 3) (st' := aI 0 :: _) rfl rfl ?_
  refine E_s (p' := 5) (L' := [some (aA (a + 1)), some (aI (g)), some (aA 19), some (aI 0), some (aI 0)]) rfl rfl ?_
  exact yl_cg hR hC hV q (Cn R + 1) 0 0 m0 (by omega) (by omega) rfl Fx.rf (fun i hi => absurd hi (by omega))
end
section
variable {len : Nat} {m : Mm} {Q : Option AV → Sx → Prop} {n p : Nat} {f : Nat → Nat}
theorem yl_rep (hn : n ≤ 60) (hp : p ≤ n) (hf : ∀ i, i < n → m 19 i = (f i : Int)) (q1 : (∀ i, p ≤ i → i < n → f i = f (i - p)) → Q (some (aI 1)) (m, tl len)) (q0 : ∀ i, p ≤ i → i < n → f i ≠ f (i - p) → Q (some (aI 0)) (m, tl len)) : ∀ (d : Nat) (i : Nat), (n < i + d) → (p ≤ i ∧ i ≤ n) → (∀ j, p ≤ j → j < i → f j = f (j - p)) → E 118 2 [some (aA 19), some (aI ((n : Nat) : Int)), some (aI ((p : Nat) : Int)), some (aI ((i : Nat) : Int))] [] (m, tl len) Q := by
  intro d
  induction d with
  | zero => intro i hd hi I1; omega
  | succ d ih =>
    intro i hd hi I1
    refine E_s (p' := 3) (st' := aI ((i : Nat) : Int) :: _) rfl rfl ?_
    refine E_s (p' := 4) (st' := aI ((n : Nat) : Int) :: _) rfl rfl ?_
    refine E_icmp_ge (x := ((i : Nat) : Int)) (y := ((n : Nat) : Int)) rfl (by decide) (fun h_1 => ?_) (fun h_1 => ?_)
    · refine E_go (p' := 26) (L' := [some (aA 19), some (aI ((n : Nat) : Int)), some (aI ((p : Nat) : Int)), some (aI ((i : Nat) : Int))]) (st' := []) rfl rfl rfl ?_
      refine E_s (p' := 27) (st' := aI 1 :: _) rfl rfl ?_
      refine E_ret rfl rfl ?_
      exact q1 (fun j h1 h2 => I1 j h1 (by omega))
    · refine E_go (p' := 7) (L' := [some (aA 19), some (aI ((n : Nat) : Int)), some (aI ((p : Nat) : Int)), some (aI ((i : Nat) : Int))]) (st' := []) rfl rfl rfl ?_
      refine E_s (p' := 8) (st' := aA 19 :: _) rfl rfl ?_
      refine E_s (p' := 9) (st' := aI ((i : Nat) : Int) :: _) rfl rfl ?_
      refine E_ald (e := i) (N := 61) (v := ((f i : Nat) : Int)) rfl rfl (rfl) (by omega) (hf _ (by omega)) ?_
      refine E_s (p' := 11) (st' := aA 19 :: _) rfl rfl ?_
      refine E_s (p' := 12) (st' := aI ((i : Nat) : Int) :: _) rfl rfl ?_
      refine E_s (p' := 13) (st' := aI ((p : Nat) : Int) :: _) rfl rfl ?_
      refine E_sub (v := ((i : Int) - (p : Int))) rfl (by omega) (by omega) ?_
      refine E_ald (e := ((i : Int) - (p : Int)).toNat) (N := 61) (v := ((f (i - p) : Nat) : Int)) rfl rfl (by omega) (by omega) (by rw [show ((i : Int) - (p : Int)).toNat = i - p by omega]; exact hf _ (by omega)) ?_
      refine E_icmp_eq (x := ((f i : Nat) : Int)) (y := ((f (i - p) : Nat) : Int)) rfl (by decide) (fun h_2 => ?_) (fun h_2 => ?_)
      · refine E_go (p' := 20) (L' := [some (aA 19), some (aI ((n : Nat) : Int)), some (aI ((p : Nat) : Int)), some (aI ((i : Nat) : Int))]) (st' := []) rfl rfl rfl ?_
        refine E_inc (x := ((i : Nat) : Int)) (w := ((i + 1 : Nat) : Int)) (L' := [some (aA 19), some (aI ((n : Nat) : Int)), some (aI ((p : Nat) : Int)), some (aI ((i + 1 : Nat) : Int))]) rfl rfl rfl (by omega) (by omega) rfl ?_
        refine E_s (p' := 2) rfl rfl ?_
        exact ih (i + 1) (by omega) (by omega) (fun j h1 h2 => by by_cases g9 : j = i; subst g9; omega; exact I1 j h1 (by omega))
      · refine E_go (p' := 18) (L' := [some (aA 19), some (aI ((n : Nat) : Int)), some (aI ((p : Nat) : Int)), some (aI ((i : Nat) : Int))]) (st' := []) rfl rfl rfl ?_
        refine E_s (p' := 19) (st' := aI 0 :: _) rfl rfl ?_
        refine E_ret rfl rfl ?_
        exact q0 i (by omega) (by omega) (by omega)
theorem c_rep (hn : n ≤ 60) (hp : p ≤ n) (hf : ∀ i, i < n → m 19 i = (f i : Int)) (q1 : (∀ i, p ≤ i → i < n → f i = f (i - p)) → Q (some (aI 1)) (m, tl len)) (q0 : ∀ i, p ≤ i → i < n → f i ≠ f (i - p) → Q (some (aI 0)) (m, tl len)) : E 118 0 [some (aA 19), some (aI ((n : Nat) : Int)), some (aI ((p : Nat) : Int)), none] [] (m, tl len) Q := by
  refine E_s (p' := 1) (st' := aI ((p : Nat) : Int) :: _) rfl rfl ?_
  refine E_s (p' := 2) (L' := [some (aA 19), some (aI ((n : Nat) : Int)), some (aI ((p : Nat) : Int)), some (aI ((p : Nat) : Int))]) rfl rfl ?_
  exact yl_rep hn hp hf q1 q0 (n + 1) p (by omega) (by omega) (fun j h1 h2 => absurd h1 (by omega))
end
section
variable {len : Nat} {m : Mm} {Q : Option AV → Sx → Prop} {S : Nat → RD} {r g : Int}
theorem yl_per {a : Nat} {R : RD} {gn : Nat} (hn : glen R (gn : Int) ≤ 60) (hf : ∀ i, i < glen R (gn : Int) → m 19 i = (gcol R (gn : Int) i : Int)) (q1 : ∀ p, 1 ≤ p → p ≤ glen R (gn : Int) → (∀ j, 1 ≤ j → j < p → perB R (gn : Int) j = false) → perB R (gn : Int) p = true → Q (some (aI (p : Int))) (m, tl len)) (q0 : glen R (gn : Int) = 0 → Q (some (aI (-1))) (m, tl len)) : ∀ (d : Nat) (p : Nat), (glen R (gn : Int) + 1 < p + d) → (1 ≤ p ∧ p ≤ glen R (gn : Int) + 1) → (∀ j, 1 ≤ j → j < p → perB R (gn : Int) j = false) → E 116 39 [some (aA 1), some (aI (r)), some (aI ((gn : Nat) : Int)), some (aA a), some (aI ((glen R (gn : Int) : Nat) : Int)), some (aI ((p : Nat) : Int))] [] (m, tl len) Q := by
  intro d
  induction d with
  | zero => intro p hd hp I1; omega
  | succ d ih =>
    intro p hd hp I1
    refine E_s (p' := 41) (st' := aI ((p : Nat) : Int) :: _) rfl rfl ?_
    refine E_s (p' := 43) (st' := aI ((glen R (gn : Int) : Nat) : Int) :: _) rfl rfl ?_
    refine E_icmp_gt (x := ((p : Nat) : Int)) (y := ((glen R (gn : Int) : Nat) : Int)) rfl (by decide) (fun h_1 => ?_) (fun h_1 => ?_)
    · refine E_go (p' := 69) (L' := [some (aA 1), some (aI (r)), some (aI ((gn : Nat) : Int)), some (aA a), some (aI ((glen R (gn : Int) : Nat) : Int)), some (aI ((p : Nat) : Int))]) (st' := []) rfl rfl rfl ?_
      refine E_s (p' := 70) (st' := aI (-1) :: _) rfl rfl ?_
      refine E_ret rfl rfl ?_
      by_cases g9 : glen R (gn : Int) = 0
      · exact q0 g9
      · have := I1 (glen R (gn : Int)) (by omega) (by omega)
        rw [perB_t (fun i h1 h2 => absurd h1 (by omega))] at this
        cases this
    · refine E_go (p' := 46) (L' := [some (aA 1), some (aI (r)), some (aI ((gn : Nat) : Int)), some (aA a), some (aI ((glen R (gn : Int) : Nat) : Int)), some (aI ((p : Nat) : Int))]) (st' := []) rfl rfl rfl ?_
      refine E_s (p' := 47) (st' := aA 1 :: _) rfl rfl ?_
      refine E_gA (b := 19) rfl rfl rfl rfl rfl rfl ?_
      refine E_s (p' := 52) (st' := aI ((glen R (gn : Int) : Nat) : Int) :: _) rfl rfl ?_
      refine E_s (p' := 54) (st' := aI ((p : Nat) : Int) :: _) rfl rfl ?_
      refine E_callL (p' := 57) (L0 := [some (aA 19), some (aI ((glen R (gn : Int) : Nat) : Int)), some (aI ((p : Nat) : Int)), none]) rfl rfl rfl ?_
      refine c_rep hn (by omega) hf (fun hr1 => ?_) (fun i9 hi1 hi2 hi3 => ?_)
      · refine E_go (p' := 57) (L' := [some (aA 1), some (aI (r)), some (aI ((gn : Nat) : Int)), some (aA a), some (aI ((glen R (gn : Int) : Nat) : Int)), some (aI ((p : Nat) : Int))]) (st' := [aI 1]) rfl rfl rfl ?_
        refine E_s (p' := 60) rfl rfl ?_
        refine E_s (p' := 62) (st' := aI ((p : Nat) : Int) :: _) rfl rfl ?_
        refine E_ret rfl rfl ?_
        exact q1 p (by omega) (by omega) I1 (perB_t hr1)
      · refine E_go (p' := 57) (L' := [some (aA 1), some (aI (r)), some (aI ((gn : Nat) : Int)), some (aA a), some (aI ((glen R (gn : Int) : Nat) : Int)), some (aI ((p : Nat) : Int))]) (st' := [aI 0]) rfl rfl rfl ?_
        refine E_s (p' := 63) rfl rfl ?_
        refine E_inc (x := ((p : Nat) : Int)) (w := ((p + 1 : Nat) : Int)) (L' := [some (aA 1), some (aI (r)), some (aI ((gn : Nat) : Int)), some (aA a), some (aI ((glen R (gn : Int) : Nat) : Int)), some (aI ((p + 1 : Nat) : Int))]) rfl rfl rfl (by omega) (by omega) rfl ?_
        refine E_s (p' := 39) rfl rfl ?_
        exact ih (p + 1) (by omega) (by omega) (fun j h1 h2 => by by_cases g9 : j = p; subst g9; exact perB_f hi1 hi2 hi3; exact I1 j h1 (by omega))
theorem C_period (hS : CS S m) (q : ∀ m1, CS S m1 → Mo m m1 → Q (some (aI (qy S r (-1) (aPeriod g)))) (m1, tl len)) : E 116 0 [some (aA 1), some (aI (r)), some (aI (g)), none, none, none] [] (m, tl len) Q := by
  refine E_s (p' := 1) (st' := aA 1 :: _) rfl rfl ?_
  refine E_s (p' := 2) (st' := aI (r) :: _) rfl rfl ?_
  refine E_callV (k' := 12) (a := 1) (r := []) (L0 := [some (aA 1), some (aI (r))]) rfl rfl rfl rfl rfl rfl rfl rfl rfl rfl ?_
  refine c_recordOf' (fun i a hi hr ha hR => ?_) (fun hr => ?_)
  · refine E_go (p' := 5) (L' := [some (aA 1), some (aI (r)), some (aI (g)), none, none, none]) (st' := [aA a]) rfl rfl rfl ?_
    obtain ⟨hV, hC, hrd⟩ := hS i hi
    rw [← ha] at hC hrd
    have hn60 := hV.1
    have hab := isR_b hR
    have hs40 := hV.2.2.2.2.1
    have hS1 := hS
    have hMo : Mo m m := Mo.rf
    refine E_s (p' := 6) (L' := [some (aA 1), some (aI (r)), some (aI (g)), some (aA a), none, none]) rfl rfl ?_
    refine E_s (p' := 7) (st' := aA a :: _) rfl rfl ?_
    refine E_s (p' := 10) rfl rfl ?_
    refine E_s (p' := 11) (st' := aI (g) :: _) rfl rfl ?_
    refine E_if_lt (x := (g)) rfl (by decide) (fun h_1 => ?_) (fun h_1 => ?_)
    · refine E_go (p' := 20) (L' := [some (aA 1), some (aI (r)), some (aI (g)), some (aA a), none, none]) (st' := []) rfl rfl rfl ?_
      refine E_s (p' := 21) (st' := aI (-1) :: _) rfl rfl ?_
      refine E_ret rfl rfl ?_
      exact fq_in hS1 hi hr q (by unfold aPeriod; rw [cif_neg (by omega)]) hMo
    · refine E_go (p' := 14) (L' := [some (aA 1), some (aI (r)), some (aI (g)), some (aA a), none, none]) (st' := []) rfl rfl rfl ?_
      refine E_s (p' := 15) (st' := aI (g) :: _) rfl rfl ?_
      refine E_s (p' := 17) (st' := aI 12 :: _) rfl rfl ?_
      refine E_icmp_lt (x := (g)) (y := 12) rfl (by decide) (fun h_2 => ?_) (fun h_2 => ?_)
      · refine E_go (p' := 22) (L' := [some (aA 1), some (aI (r)), some (aI (g)), some (aA a), none, none]) (st' := []) rfl rfl rfl ?_
        obtain ⟨gn, eg⟩ : ∃ x : Nat, g = (x : Int) := ⟨g.toNat, by omega⟩
        subst eg
        have hgl : glen (S i) (gn : Int) ≤ 60 := Nat.le_trans (gmem_le _ _ _) hn60
        refine E_s (p' := 23) (st' := aA a :: _) rfl rfl ?_
        refine E_gA (b := a + 1) rfl rfl rfl (kR_0 hR) (hR_0_0 hR) rfl ?_
        refine E_s (p' := 27) (st' := aI ((gn : Nat) : Int) :: _) rfl rfl ?_
        refine E_s (p' := 28) (st' := aA 1 :: _) rfl rfl ?_
        refine E_gA (b := 19) rfl rfl rfl rfl rfl rfl ?_
        refine E_callV (k' := 117) (a := a + 1) (r := []) (L0 := [some (aA (a + 1)), some (aI ((gn : Nat) : Int)), some (aA 19), none, none]) rfl rfl rfl rfl rfl (kR_1 hR) rfl rfl rfl rfl ?_
        refine c_cog hR hC hV (fun m1 F1 G1 => ?_)
        refine E_go (p' := 34) (L' := [some (aA 1), some (aI (r)), some (aI ((gn : Nat) : Int)), some (aA a), none, none]) (st' := [aI ((glen (S i) ((gn : Nat) : Int) : Nat) : Int)]) rfl rfl rfl ?_
        have hS1 : CS S m1 := fun k hk => (hS k hk).of (fun b j g1 g2 => F1 b j (by unfold tgA at g1; omega))
        have hMo : Mo m m1 := fun b j hb => F1 b j (by omega)
        refine E_s (p' := 36) (L' := [some (aA 1), some (aI (r)), some (aI ((gn : Nat) : Int)), some (aA a), some (aI ((glen (S i) ((gn : Nat) : Int) : Nat) : Int)), none]) rfl rfl ?_
        refine E_s (p' := 37) (st' := aI 1 :: _) rfl rfl ?_
        refine E_s (p' := 39) (L' := [some (aA 1), some (aI (r)), some (aI ((gn : Nat) : Int)), some (aA a), some (aI ((glen (S i) ((gn : Nat) : Int) : Nat) : Int)), some (aI 1)]) rfl rfl ?_
        exact yl_per hgl G1 (fun p h1 h2 h3 h4 => fq_in hS1 hi hr q (by unfold aPeriod; rw [cif_pos ⟨by omega, by omega⟩, fstP_u h1 (by omega) h3 (fun _ => h4)]) hMo) (fun g9 => fq_in hS1 hi hr q (by unfold aPeriod; rw [cif_neg (fun h9 => h9.2 g9)]) hMo) (glen (S i) (gn : Int) + 2) 1 (by omega) (by omega) (fun j h1 h2 => absurd h1 (by omega))
      · refine E_go (p' := 20) (L' := [some (aA 1), some (aI (r)), some (aI (g)), some (aA a), none, none]) (st' := []) rfl rfl rfl ?_
        refine E_s (p' := 21) (st' := aI (-1) :: _) rfl rfl ?_
        refine E_ret rfl rfl ?_
        exact fq_in hS1 hi hr q (by unfold aPeriod; rw [cif_neg (by omega)]) hMo
  · refine E_go (p' := 5) (L' := [some (aA 1), some (aI (r)), some (aI (g)), none, none, none]) (st' := [aN]) rfl rfl rfl ?_
    refine E_s (p' := 6) (L' := [some (aA 1), some (aI (r)), some (aI (g)), some (aN), none, none]) rfl rfl ?_
    refine E_s (p' := 7) (st' := aN :: _) rfl rfl ?_
    refine E_s (p' := 20) rfl rfl ?_
    refine E_s (p' := 21) (st' := aI (-1) :: _) rfl rfl ?_
    refine E_ret rfl rfl ?_
    exact fq_out hS q hr
end
