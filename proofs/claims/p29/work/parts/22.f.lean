/-- nothing but the model's reading and the row t has changed -/
def FrT (t : Nat) (m m' : Mm) : Prop := ∀ b z, ¬ (b = 124 ∧ 19 ≤ z ∧ z ≤ 29) → ¬ (141 ≤ b ∧ b ≤ 147) → b ≠ t → m' b z = m b z
theorem FrT.MS {t : Nat} {S : Nat → RD} {m m' : Mm} (h : FrT t m m') (ht9 : 139 < t) (hS : MS S m) : MS S m' := hS.of (fun b j g1 g2 => h b j (by omega) (by omega) (by omega))
theorem FrT.Co1 {t : Nat} {m m' : Mm} (h : FrT t m m') (ht9 : t = 148 ∨ t = 149) : Co1 m m' := fun b j hb => h b j (by omega) (by omega) (by omega)
theorem Rtd_n {R : RD} {c : Nat} : (Rft R c = 0 ∧ Rtd R c = (Rvl R c : Int)) ∨ (0 < Rft R c ∧ Rtd R c = -10 - (Rft R c : Int)) := by
  unfold Rtd
  by_cases h : Rft R c = 0
  · exact Or.inl ⟨h, if_pos h⟩
  · exact Or.inr ⟨by omega, if_neg h⟩
section
variable {len : Nat} {m0 : Mm} {Q : Option AV → Sx → Prop} {R : RD} {i t : Nat}
theorem yl_ra (hi : i < 4) (ht9 : t = 148 ∨ t = 149) (hM : MR R i m0) (hV : VR R) (q : ∀ m1 : Mm, FrT t m0 m1 → RdM R m1 → (∀ d, d < Cn R → m1 t d = Rtd R d) → Q none (m1, tl len)) : ∀ (d : Nat) (c : Nat) (m : Mm), (Cn R < c + d) → (c ≤ Cn R) → (FrT t m0 m) → (RdM R m) → (∀ d, d < c → m t d = Rtd R d) → E 157 8 [some (aA 124), some (aI ((i : Nat) : Int)), some (aA t), some (aI ((c : Nat) : Int))] [] (m, tl len) Q := by
  intro d
  induction d with
  | zero => intro c m hd hcn I1 I2 I3; omega
  | succ d ih =>
    intro c m hd hcn I1 I2 I3
    have hn60 := hV.1
    have hkt : kd t = (1, 60) := by rcases ht9 with g9 | g9 <;> (rw [g9]; rfl)
    have hMm : MR R i m := hM.of (fun b j g1 g2 => I1 b j (by omega) (by omega) (by omega))
    refine E_s (p' := 9) (st' := aI ((c : Nat) : Int) :: _) rfl rfl ?_
    refine E_s (p' := 10) (st' := aA 124 :: _) rfl rfl ?_
    refine E_gA (b := 125) rfl rfl rfl rfl rfl rfl ?_
    refine E_s (p' := 14) (st' := aI ((i : Nat) : Int) :: _) rfl rfl ?_
    refine E_ald (e := i) (N := 4) (v := ((Cn R : Nat) : Int)) rfl rfl (rfl) (by omega) (MR_125 hMm) ?_
    refine E_icmp_ge (x := ((c : Nat) : Int)) (y := ((Cn R : Nat) : Int)) rfl (by decide) (fun h_1 => ?_) (fun h_1 => ?_)
    · refine E_go (p' := 58) (L' := [some (aA 124), some (aI ((i : Nat) : Int)), some (aA t), some (aI ((c : Nat) : Int))]) (st' := []) rfl rfl rfl ?_
      refine E_ret rfl rfl ?_
      have ec : c = Cn R := by omega
      subst ec
      exact q m I1 I2 I3
    · refine E_go (p' := 18) (L' := [some (aA 124), some (aI ((i : Nat) : Int)), some (aA t), some (aI ((c : Nat) : Int))]) (st' := []) rfl rfl rfl ?_
      refine E_s (p' := 19) (st' := aA 124 :: _) rfl rfl ?_
      refine E_s (p' := 21) (st' := aI 60 :: _) rfl rfl ?_
      refine E_s (p' := 22) (st' := aI ((i : Nat) : Int) :: _) rfl rfl ?_
      refine E_mul (v := ((60 * i : Nat) : Int)) rfl (by omega) (by omega) ?_
      refine E_s (p' := 24) (st' := aI ((c : Nat) : Int) :: _) rfl rfl ?_
      refine E_add (v := ((60 * i + c : Nat) : Int)) rfl (by omega) (by omega) ?_
      refine E_callV (k' := 148) (a := 124) (r := []) (L0 := [some (aA 124), some (aI ((60 * i + c : Nat) : Int)), none, none]) rfl rfl rfl rfl rfl rfl rfl rfl rfl rfl ?_
      refine m_readCord hi hMm hV (c := c) (by omega) I2 (fun m1 K1 K2 K3 K4 K5 => ?_)
      refine E_go (p' := 28) (L' := [some (aA 124), some (aI ((i : Nat) : Int)), some (aA t), some (aI ((c : Nat) : Int))]) (st' := []) rfl rfl rfl ?_
      have hfb := Rft_b R c
      have hvb := Rvl_c hV (show c < Cn R by omega)
      have htd := Rtd_n (R := R) (c := c)
      refine E_s (p' := 29) (st' := aA t :: _) rfl rfl ?_
      refine E_s (p' := 30) (st' := aI ((c : Nat) : Int) :: _) rfl rfl ?_
      refine E_s (p' := 31) (st' := aA 124 :: _) rfl rfl ?_
      refine E_gI (v := ((Rft R c : Nat) : Int)) rfl rfl rfl rfl K3 ?_
      refine E_if_le (x := ((Rft R c : Nat) : Int)) rfl (by decide) (fun h_2 => ?_) (fun h_2 => ?_)
      · refine E_go (p' := 47) (L' := [some (aA 124), some (aI ((i : Nat) : Int)), some (aA t), some (aI ((c : Nat) : Int))]) (st' := [aI ((c : Nat) : Int), aA t]) rfl rfl rfl ?_
        refine E_s (p' := 48) (st' := aA 124 :: _) rfl rfl ?_
        refine E_gI (v := ((Rvl R c : Nat) : Int)) rfl rfl rfl rfl K4 ?_
        refine E_ast (e := c) (N := 60) rfl hkt (rfl) (by omega) ?_
        refine E_inc (x := ((c : Nat) : Int)) (w := ((c + 1 : Nat) : Int)) (L' := [some (aA 124), some (aI ((i : Nat) : Int)), some (aA t), some (aI ((c + 1 : Nat) : Int))]) rfl rfl rfl (by omega) (by omega) rfl ?_
        refine E_s (p' := 8) rfl rfl ?_
        refine ih (c + 1) _ (by omega) (by omega) (fun b z g1 g2 g3 => (up2_ne g3).trans ((K1 b z g1 g2).trans (I1 b z g1 g2 g3))) (K2.of (fun b j hb => up2_ne (by omega))) (fun d hd9 => ?_)
        by_cases g9 : d = c
        · rw [g9]; exact up2_eq.trans (by omega)
        · exact (up2_sl g9).trans ((K1 _ _ (by omega) (by omega)).trans (I3 d (by omega)))
      · refine E_go (p' := 37) (L' := [some (aA 124), some (aI ((i : Nat) : Int)), some (aA t), some (aI ((c : Nat) : Int))]) (st' := [aI ((c : Nat) : Int), aA t]) rfl rfl rfl ?_
        refine E_s (p' := 39) (st' := aI (-10) :: _) rfl rfl ?_
        refine E_s (p' := 40) (st' := aA 124 :: _) rfl rfl ?_
        refine E_gI (v := ((Rft R c : Nat) : Int)) rfl rfl rfl rfl K3 ?_
        refine E_sub (v := (-(Rft R c : Int) - 10)) rfl (by omega) (by omega) ?_
        refine E_s (p' := 51) rfl rfl ?_
        refine E_ast (e := c) (N := 60) rfl hkt (rfl) (by omega) ?_
        refine E_inc (x := ((c : Nat) : Int)) (w := ((c + 1 : Nat) : Int)) (L' := [some (aA 124), some (aI ((i : Nat) : Int)), some (aA t), some (aI ((c + 1 : Nat) : Int))]) rfl rfl rfl (by omega) (by omega) rfl ?_
        refine E_s (p' := 8) rfl rfl ?_
        refine ih (c + 1) _ (by omega) (by omega) (fun b z g1 g2 g3 => (up2_ne g3).trans ((K1 b z g1 g2).trans (I1 b z g1 g2 g3))) (K2.of (fun b j hb => up2_ne (by omega))) (fun d hd9 => ?_)
        by_cases g9 : d = c
        · rw [g9]; exact up2_eq.trans (by omega)
        · exact (up2_sl g9).trans ((K1 _ _ (by omega) (by omega)).trans (I3 d (by omega)))
theorem m_readAll (hi : i < 4) (ht9 : t = 148 ∨ t = 149) (hM : MR R i m0) (hV : VR R) (q : ∀ m1 : Mm, FrT t m0 m1 → RdM R m1 → (∀ d, d < Cn R → m1 t d = Rtd R d) → Q none (m1, tl len)) : E 157 0 [some (aA 124), some (aI ((i : Nat) : Int)), some (aA t), none] [] (m0, tl len) Q := by
  refine E_s (p' := 1) (st' := aA 124 :: _) rfl rfl ?_
  refine E_s (p' := 2) (st' := aI ((i : Nat) : Int) :: _) rfl rfl ?_
  refine E_callV (k' := 147) (a := 124) (r := []) (L0 := [some (aA 124), some (aI ((i : Nat) : Int)), none, none]) rfl rfl rfl rfl rfl rfl rfl rfl rfl rfl ?_
  refine m_read hi hM hV (fun m1 K1 K2 => ?_)
  refine E_go (p' := 5) (L' := [some (aA 124), some (aI ((i : Nat) : Int)), some (aA t), none]) (st' := [aI (bi (decide (0 < RL R)))]) rfl rfl rfl ?_
  refine E_s (p' := 6) rfl rfl ?_
  refine E_s (p' := 7) (st' := aI 0 :: _) rfl rfl ?_
  refine E_s (p' := 8) (L' := [some (aA 124), some (aI ((i : Nat) : Int)), some (aA t), some (aI 0)]) rfl rfl ?_
  exact yl_ra hi ht9 hM hV q (Cn R + 1) 0 m1 (by omega) (by omega) (fun b z g1 g2 _ => K1 b z g1 g2) K2 (fun d hd9 => absurd hd9 (by omega))
end
section
variable {len : Nat} {m : Mm} {Q : Option AV → Sx → Prop} {S : Nat → RD} {R : RD} {i c : Nat}
theorem m_isSure (hi : i < 4) (hM : MR R i m) (hV : VR R) (hc : c < Cn R) (hn : m 148 c = Rtd R c) (q1 : Ct R c = 0 → Rft R c = 0 → Q (some (aI 1)) (m, tl len)) (q0 : (Ct R c ≠ 0 ∨ Rft R c ≠ 0) → Q (some (aI 0)) (m, tl len)) : E 158 0 [some (aA 124), some (aI ((i : Nat) : Int)), some (aI ((c : Nat) : Int))] [] (m, tl len) Q := by
  have hn60 := hV.1
  have hctz := Ctz_c R c
  have htd := Rtd_n (R := R) (c := c)
  refine E_s (p' := 1) (st' := aA 124 :: _) rfl rfl ?_
  refine E_gA (b := 131) rfl rfl rfl rfl rfl rfl ?_
  refine E_s (p' := 6) (st' := aI 60 :: _) rfl rfl ?_
  refine E_s (p' := 7) (st' := aI ((i : Nat) : Int) :: _) rfl rfl ?_
  refine E_mul (v := ((60 * i : Nat) : Int)) rfl (by omega) (by omega) ?_
  refine E_s (p' := 9) (st' := aI ((c : Nat) : Int) :: _) rfl rfl ?_
  refine E_add (v := ((60 * i + c : Nat) : Int)) rfl (by omega) (by omega) ?_
  refine E_ald (e := 60 * i + c) (N := 240) (v := (((Ctz R c)))) rfl rfl (rfl) (by omega) (MR_131 hM (by omega) (by omega)) ?_
  refine E_s (p' := 12) (st' := aI (-1) :: _) rfl rfl ?_
  refine E_icmp_ne (x := (((Ctz R c)))) (y := (-1)) rfl (by decide) (fun h_1 => ?_) (fun h_1 => ?_)
  · refine E_go (p' := 28) (L' := [some (aA 124), some (aI ((i : Nat) : Int)), some (aI ((c : Nat) : Int))]) (st' := []) rfl rfl rfl ?_
    refine E_s (p' := 29) (st' := aI 0 :: _) rfl rfl ?_
    refine E_ret rfl rfl ?_
    exact q0 (by omega)
  · refine E_go (p' := 15) (L' := [some (aA 124), some (aI ((i : Nat) : Int)), some (aI ((c : Nat) : Int))]) (st' := []) rfl rfl rfl ?_
    refine E_s (p' := 16) (st' := aA 124 :: _) rfl rfl ?_
    refine E_gA (b := 148) rfl rfl rfl rfl rfl rfl ?_
    refine E_s (p' := 20) (st' := aI ((c : Nat) : Int) :: _) rfl rfl ?_
    refine E_ald (e := c) (N := 60) (v := (((Rtd R c)))) rfl rfl (rfl) (by omega) hn ?_
    refine E_if_lt (x := (((Rtd R c)))) rfl (by decide) (fun h_2 => ?_) (fun h_2 => ?_)
    · refine E_go (p' := 28) (L' := [some (aA 124), some (aI ((i : Nat) : Int)), some (aI ((c : Nat) : Int))]) (st' := []) rfl rfl rfl ?_
      refine E_s (p' := 29) (st' := aI 0 :: _) rfl rfl ?_
      refine E_ret rfl rfl ?_
      exact q0 (by omega)
    · refine E_go (p' := 24) (L' := [some (aA 124), some (aI ((i : Nat) : Int)), some (aI ((c : Nat) : Int))]) (st' := []) rfl rfl rfl ?_
      refine E_s (p' := 25) (st' := aI 1 :: _) rfl rfl ?_
      refine E_s (p' := 29) rfl rfl ?_
      refine E_ret rfl rfl ?_
      exact q1 (by omega) (by omega)
end
section
variable {len : Nat} {m : Mm} {Q : Option AV → Sx → Prop} {S : Nat → RD} {r c k l s w : Int}
theorem M_levels (hS : MS S m) (q : ∀ m1, MS S m1 → Co1 m m1 → Q (some (aI (qy S r (-2) (aLevels)))) (m1, tl len)) : E 153 0 [some (aA 124), some (aI (r))] [] (m, tl len) Q := by
  refine E_s (p' := 1) (st' := aI (r) :: _) rfl rfl ?_
  refine E_callL (p' := 4) (L0 := [some (aI (r))]) rfl rfl rfl ?_
  refine m_isRecord (fun i hi hr => ?_) (fun hr => ?_)
  · refine E_go (p' := 4) (L' := [some (aA 124), some (aI (r))]) (st' := [aI 1]) rfl rfl rfl ?_
    obtain ⟨hV, hM⟩ := hS i hi
    have hn60 := hV.1
    have hs40 := hV.2.2.2.2.1
    subst hr
    refine E_s (p' := 12) rfl rfl ?_
    refine E_s (p' := 13) (st' := aA 124 :: _) rfl rfl ?_
    refine E_s (p' := 14) (st' := aI ((i : Nat) : Int) :: _) rfl rfl ?_
    refine E_callV (k' := 147) (a := 124) (r := []) (L0 := [some (aA 124), some (aI ((i : Nat) : Int)), none, none]) rfl rfl rfl rfl rfl rfl rfl rfl rfl rfl ?_
    refine m_read hi hM hV (fun m1 K1 hd => ?_)
    refine E_go (p' := 17) (L' := [some (aA 124), some (aI ((i : Nat) : Int))]) (st' := [aI (bi (decide (0 < RL (S i))))]) rfl rfl rfl ?_
    have hS1 := K1.MS hS
    have hC1 := K1.Co1
    have hM1 := K1.MR hM
    refine E_b_eq0 (b := (decide (0 < RL (S i)))) rfl (by decide) (fun h_1 => ?_) (fun h_1 => ?_)
    · refine E_go (p' := 27) (L' := [some (aA 124), some (aI ((i : Nat) : Int))]) (st' := []) rfl rfl rfl ?_
      refine E_s (p' := 28) (st' := aI (-1) :: _) rfl rfl ?_
      refine E_ret rfl rfl ?_
      have hb9 := h_1
      simp only [decide_eq_true_eq, decide_eq_false_iff_not] at hb9
      exact mq_in hS1 hi rfl q (by unfold aLevels; rw [if_pos (by omega)]) hC1
    · refine E_go (p' := 20) (L' := [some (aA 124), some (aI ((i : Nat) : Int))]) (st' := []) rfl rfl rfl ?_
      refine E_s (p' := 21) (st' := aA 124 :: _) rfl rfl ?_
      refine E_gI (v := ((RL (S i) : Nat) : Int)) rfl rfl rfl rfl hd.1 ?_
      refine E_s (p' := 28) rfl rfl ?_
      refine E_ret rfl rfl ?_
      have hb9 := h_1
      simp only [decide_eq_true_eq, decide_eq_false_iff_not] at hb9
      exact mq_in hS1 hi rfl q (by unfold aLevels; rw [if_neg (by omega)]) hC1
  · refine E_go (p' := 4) (L' := [some (aA 124), some (aI (r))]) (st' := [aI 0]) rfl rfl rfl ?_
    refine E_s (p' := 7) rfl rfl ?_
    refine E_s (p' := 9) (st' := aI (-2) :: _) rfl rfl ?_
    refine E_s (p' := 28) rfl rfl ?_
    refine E_ret rfl rfl ?_
    exact mq_out hS q hr
theorem M_level (hS : MS S m) (q : ∀ m1, MS S m1 → Co1 m m1 → Q (some (aI (qy S r (-1) (aLevel l w)))) (m1, tl len)) : E 154 0 [some (aA 124), some (aI (r)), some (aI (l)), some (aI (w))] [] (m, tl len) Q := by
  refine E_s (p' := 1) (st' := aI (r) :: _) rfl rfl ?_
  refine E_callL (p' := 4) (L0 := [some (aI (r))]) rfl rfl rfl ?_
  refine m_isRecord (fun i hi hr => ?_) (fun hr => ?_)
  · refine E_go (p' := 4) (L' := [some (aA 124), some (aI (r)), some (aI (l)), some (aI (w))]) (st' := [aI 1]) rfl rfl rfl ?_
    obtain ⟨hV, hM⟩ := hS i hi
    have hn60 := hV.1
    have hs40 := hV.2.2.2.2.1
    subst hr
    refine E_s (p' := 7) rfl rfl ?_
    refine E_s (p' := 8) (st' := aA 124 :: _) rfl rfl ?_
    refine E_s (p' := 9) (st' := aI ((i : Nat) : Int) :: _) rfl rfl ?_
    refine E_callV (k' := 147) (a := 124) (r := []) (L0 := [some (aA 124), some (aI ((i : Nat) : Int)), none, none]) rfl rfl rfl rfl rfl rfl rfl rfl rfl rfl ?_
    refine m_read hi hM hV (fun m1 K1 hd => ?_)
    refine E_go (p' := 12) (L' := [some (aA 124), some (aI ((i : Nat) : Int)), some (aI (l)), some (aI (w))]) (st' := [aI (bi (decide (0 < RL (S i))))]) rfl rfl rfl ?_
    have hS1 := K1.MS hS
    have hC1 := K1.Co1
    have hM1 := K1.MR hM
    refine E_b_eq0 (b := (decide (0 < RL (S i)))) rfl (by decide) (fun h_1 => ?_) (fun h_1 => ?_)
    · refine E_go (p' := 29) (L' := [some (aA 124), some (aI ((i : Nat) : Int)), some (aI (l)), some (aI (w))]) (st' := []) rfl rfl rfl ?_
      refine E_s (p' := 30) (st' := aI (-1) :: _) rfl rfl ?_
      refine E_ret rfl rfl ?_
      exact mq_in hS1 hi rfl q (by
        unfold aLevel
        rw [cif_neg (by
          first
            | omega
            | (have hb9 := h_1
               simp only [decide_eq_false_iff_not] at hb9
               omega))]) hC1
    · refine E_go (p' := 15) (L' := [some (aA 124), some (aI ((i : Nat) : Int)), some (aI (l)), some (aI (w))]) (st' := []) rfl rfl rfl ?_
      have hrl9 : 0 < RL (S i) := by simpa using ‹decide (0 < RL (S i)) = true›
      have hmx9 := RL_mx (S i)
      have hm69 : mxv (Run (S i)) ≤ 6 := by cases Run (S i) <;> decide
      refine E_s (p' := 16) (st' := aI (l) :: _) rfl rfl ?_
      refine E_s (p' := 17) (st' := aI 0 :: _) rfl rfl ?_
      refine E_s (p' := 18) (st' := aA 124 :: _) rfl rfl ?_
      refine E_gI (v := ((RL (S i) : Nat) : Int)) rfl rfl rfl rfl hd.1 ?_
      refine E_s (p' := 22) (st' := aI 1 :: _) rfl rfl ?_
      refine E_sub (v := ((RL (S i) : Int) - 1)) rfl (by omega) (by omega) ?_
      refine E_callL (p' := 26) (L0 := [some (aI (l)), some (aI 0), some (aI ((RL (S i) : Int) - 1))]) rfl rfl rfl ?_
      refine m_in (fun h_2 h_3 => ?_) (fun h_4 => ?_)
      · refine E_go (p' := 26) (L' := [some (aA 124), some (aI ((i : Nat) : Int)), some (aI (l)), some (aI (w))]) (st' := [aI 1]) rfl rfl rfl ?_
        refine E_s (p' := 31) rfl rfl ?_
        obtain ⟨ln, el⟩ : ∃ x : Nat, l = (x : Int) := ⟨l.toNat, by omega⟩
        subst el
        have hmx := RL_mx (S i)
        have hm6 : mxv (Run (S i)) ≤ 6 := by cases Run (S i) <;> decide
        refine E_s (p' := 32) (st' := aI (w) :: _) rfl rfl ?_
        refine E_if_ne (x := (w)) rfl (by decide) (fun h_5 => ?_) (fun h_5 => ?_)
        · refine E_go (p' := 44) (L' := [some (aA 124), some (aI ((i : Nat) : Int)), some (aI ((ln : Nat) : Int)), some (aI (w))]) (st' := []) rfl rfl rfl ?_
          refine E_s (p' := 45) (st' := aI (w) :: _) rfl rfl ?_
          refine E_s (p' := 46) (st' := aI 1 :: _) rfl rfl ?_
          refine E_icmp_ne (x := (w)) (y := 1) rfl (by decide) (fun h_6 => ?_) (fun h_6 => ?_)
          · refine E_go (p' := 58) (L' := [some (aA 124), some (aI ((i : Nat) : Int)), some (aI ((ln : Nat) : Int)), some (aI (w))]) (st' := []) rfl rfl rfl ?_
            refine E_s (p' := 59) (st' := aI (w) :: _) rfl rfl ?_
            refine E_s (p' := 60) (st' := aI 2 :: _) rfl rfl ?_
            refine E_icmp_ne (x := (w)) (y := 2) rfl (by decide) (fun h_7 => ?_) (fun h_7 => ?_)
            · refine E_go (p' := 71) (L' := [some (aA 124), some (aI ((i : Nat) : Int)), some (aI ((ln : Nat) : Int)), some (aI (w))]) (st' := []) rfl rfl rfl ?_
              refine E_s (p' := 72) (st' := aI (w) :: _) rfl rfl ?_
              refine E_s (p' := 73) (st' := aI 3 :: _) rfl rfl ?_
              refine E_icmp_ne (x := (w)) (y := 3) rfl (by decide) (fun h_8 => ?_) (fun h_8 => ?_)
              · refine E_go (p' := 85) (L' := [some (aA 124), some (aI ((i : Nat) : Int)), some (aI ((ln : Nat) : Int)), some (aI (w))]) (st' := []) rfl rfl rfl ?_
                refine E_s (p' := 86) (st' := aI (-1) :: _) rfl rfl ?_
                refine E_ret rfl rfl ?_
                exact mq_in hS1 hi rfl q (by unfold aLevel; (try simp only [Int.toNat_natCast]); rw [cif_pos (by omega), if_neg (by omega), if_neg (by omega), if_neg (by omega), if_neg (by omega)]) hC1
              · refine E_go (p' := 76) (L' := [some (aA 124), some (aI ((i : Nat) : Int)), some (aI ((ln : Nat) : Int)), some (aI (w))]) (st' := []) rfl rfl rfl ?_
                refine E_s (p' := 77) (st' := aA 124 :: _) rfl rfl ?_
                refine E_gA (b := 147) rfl rfl rfl rfl rfl rfl ?_
                refine E_s (p' := 81) (st' := aI ((ln : Nat) : Int) :: _) rfl rfl ?_
                refine E_ald (e := ln) (N := 601) (v := ((Rme (S i) ln : Nat) : Int)) rfl rfl (rfl) (by omega) (hd.2.2.2 _ (by omega)).2.2 ?_
                refine E_s (p' := 86) rfl rfl ?_
                refine E_ret rfl rfl ?_
                exact mq_in hS1 hi rfl q (by unfold aLevel; (try simp only [Int.toNat_natCast]); rw [cif_pos (by omega), if_neg (by omega), if_neg (by omega), if_neg (by omega), if_pos (by omega)]) hC1
            · refine E_go (p' := 63) (L' := [some (aA 124), some (aI ((i : Nat) : Int)), some (aI ((ln : Nat) : Int)), some (aI (w))]) (st' := []) rfl rfl rfl ?_
              refine E_s (p' := 64) (st' := aA 124 :: _) rfl rfl ?_
              refine E_s (p' := 65) (st' := aI ((ln : Nat) : Int) :: _) rfl rfl ?_
              refine E_callV (k' := 151) (a := 124) (r := []) (L0 := [some (aA 124), some (aI ((ln : Nat) : Int)), none, none]) rfl rfl rfl rfl rfl rfl rfl rfl rfl rfl ?_
              refine m_counts hd (l := ln) (by omega) ?_
              refine E_go (p' := 68) (L' := [some (aA 124), some (aI ((i : Nat) : Int)), some (aI ((ln : Nat) : Int)), some (aI (w))]) (st' := [aI ((Rct (S i) ln : Nat) : Int)]) rfl rfl rfl ?_
              refine E_s (p' := 86) rfl rfl ?_
              refine E_ret rfl rfl ?_
              exact mq_in hS1 hi rfl q (by unfold aLevel; (try simp only [Int.toNat_natCast]); rw [cif_pos (by omega), if_neg (by omega), if_neg (by omega), if_pos (by omega)]) hC1
          · refine E_go (p' := 49) (L' := [some (aA 124), some (aI ((i : Nat) : Int)), some (aI ((ln : Nat) : Int)), some (aI (w))]) (st' := []) rfl rfl rfl ?_
            refine E_s (p' := 50) (st' := aA 124 :: _) rfl rfl ?_
            refine E_gA (b := 146) rfl rfl rfl rfl rfl rfl ?_
            refine E_s (p' := 54) (st' := aI ((ln : Nat) : Int) :: _) rfl rfl ?_
            refine E_ald (e := ln) (N := 601) (v := ((Rla (S i) ln : Nat) : Int)) rfl rfl (rfl) (by omega) (hd.2.2.2 _ (by omega)).2.1 ?_
            refine E_s (p' := 86) rfl rfl ?_
            refine E_ret rfl rfl ?_
            exact mq_in hS1 hi rfl q (by unfold aLevel; (try simp only [Int.toNat_natCast]); rw [cif_pos (by omega), if_neg (by omega), if_pos (by omega)]) hC1
        · refine E_go (p' := 35) (L' := [some (aA 124), some (aI ((i : Nat) : Int)), some (aI ((ln : Nat) : Int)), some (aI (w))]) (st' := []) rfl rfl rfl ?_
          refine E_s (p' := 36) (st' := aA 124 :: _) rfl rfl ?_
          refine E_gA (b := 145) rfl rfl rfl rfl rfl rfl ?_
          refine E_s (p' := 40) (st' := aI ((ln : Nat) : Int) :: _) rfl rfl ?_
          refine E_ald (e := ln) (N := 601) (v := ((RF (S i) ln : Nat) : Int)) rfl rfl (rfl) (by omega) (hd.2.2.2 _ (by omega)).1 ?_
          refine E_s (p' := 86) rfl rfl ?_
          refine E_ret rfl rfl ?_
          exact mq_in hS1 hi rfl q (by unfold aLevel; (try simp only [Int.toNat_natCast]); rw [cif_pos (by omega), if_pos (by omega)]) hC1
      · refine E_go (p' := 26) (L' := [some (aA 124), some (aI ((i : Nat) : Int)), some (aI (l)), some (aI (w))]) (st' := [aI 0]) rfl rfl rfl ?_
        refine E_s (p' := 29) rfl rfl ?_
        refine E_s (p' := 30) (st' := aI (-1) :: _) rfl rfl ?_
        refine E_ret rfl rfl ?_
        exact mq_in hS1 hi rfl q (by
          unfold aLevel
          rw [cif_neg (by
            first
              | omega
              | (have hb9 := h_8
                 simp only [decide_eq_false_iff_not] at hb9
                 omega))]) hC1
  · refine E_go (p' := 4) (L' := [some (aA 124), some (aI (r)), some (aI (l)), some (aI (w))]) (st' := [aI 0]) rfl rfl rfl ?_
    refine E_s (p' := 29) rfl rfl ?_
    refine E_s (p' := 30) (st' := aI (-1) :: _) rfl rfl ?_
    refine E_ret rfl rfl ?_
    exact mq_out hS q hr
theorem M_number (hS : MS S m) (q : ∀ m1, MS S m1 → Co1 m m1 → Q (some (aI (qy S r (-1) (aNumber c)))) (m1, tl len)) : E 155 0 [some (aA 124), some (aI (r)), some (aI (c))] [] (m, tl len) Q := by
  refine E_s (p' := 1) (st' := aA 124 :: _) rfl rfl ?_
  refine E_s (p' := 2) (st' := aI (r) :: _) rfl rfl ?_
  refine E_s (p' := 3) (st' := aI (c) :: _) rfl rfl ?_
  refine E_callV (k' := 135) (a := 124) (r := []) (L0 := [some (aA 124), some (aI (r)), some (aI (c))]) rfl rfl rfl rfl rfl rfl rfl rfl rfl rfl ?_
  refine m_isCord hS (fun i ci hi hr hc hcc => ?_) (fun hno => ?_)
  · refine E_go (p' := 6) (L' := [some (aA 124), some (aI (r)), some (aI (c))]) (st' := [aI 1]) rfl rfl rfl ?_
    obtain ⟨hV, hM⟩ := hS i hi
    have hn60 := hV.1
    have hs40 := hV.2.2.2.2.1
    subst hr hc
    refine E_s (p' := 11) rfl rfl ?_
    refine E_s (p' := 12) (st' := aA 124 :: _) rfl rfl ?_
    refine E_s (p' := 13) (st' := aI ((i : Nat) : Int) :: _) rfl rfl ?_
    refine E_callV (k' := 147) (a := 124) (r := []) (L0 := [some (aA 124), some (aI ((i : Nat) : Int)), none, none]) rfl rfl rfl rfl rfl rfl rfl rfl rfl rfl ?_
    refine m_read hi hM hV (fun m1 K1 hd => ?_)
    refine E_go (p' := 16) (L' := [some (aA 124), some (aI ((i : Nat) : Int)), some (aI ((ci : Nat) : Int))]) (st' := [aI (bi (decide (0 < RL (S i))))]) rfl rfl rfl ?_
    have hS1 := K1.MS hS
    have hC1 := K1.Co1
    have hM1 := K1.MR hM
    refine E_s (p' := 17) rfl rfl ?_
    refine E_s (p' := 18) (st' := aA 124 :: _) rfl rfl ?_
    refine E_s (p' := 20) (st' := aI 60 :: _) rfl rfl ?_
    refine E_s (p' := 21) (st' := aI ((i : Nat) : Int) :: _) rfl rfl ?_
    refine E_mul (v := ((60 * i : Nat) : Int)) rfl (by omega) (by omega) ?_
    refine E_s (p' := 23) (st' := aI ((ci : Nat) : Int) :: _) rfl rfl ?_
    refine E_add (v := ((60 * i + ci : Nat) : Int)) rfl (by omega) (by omega) ?_
    refine E_callV (k' := 148) (a := 124) (r := []) (L0 := [some (aA 124), some (aI ((60 * i + ci : Nat) : Int)), none, none]) rfl rfl rfl rfl rfl rfl rfl rfl rfl rfl ?_
    refine m_readCord hi hM1 hV (c := ci) hcc hd (fun m2 K2 hd2 K3 K4 K5 => ?_)
    refine E_go (p' := 27) (L' := [some (aA 124), some (aI ((i : Nat) : Int)), some (aI ((ci : Nat) : Int))]) (st' := []) rfl rfl rfl ?_
    have hS2 := K2.MS hS1
    have hC2 : Co1 m m2 := (K1.tr K2).Co1
    have hfb := Rft_b (S i) ci
    have hvb := Rvl_c hV hcc
    have htd := Rtd_n (R := S i) (c := ci)
    refine E_s (p' := 28) (st' := aA 124 :: _) rfl rfl ?_
    refine E_gI (v := ((Rft (S i) ci : Nat) : Int)) rfl rfl rfl rfl K3 ?_
    refine E_if_le (x := ((Rft (S i) ci : Nat) : Int)) rfl (by decide) (fun h_1 => ?_) (fun h_1 => ?_)
    · refine E_go (p' := 44) (L' := [some (aA 124), some (aI ((i : Nat) : Int)), some (aI ((ci : Nat) : Int))]) (st' := []) rfl rfl rfl ?_
      refine E_s (p' := 45) (st' := aA 124 :: _) rfl rfl ?_
      refine E_gI (v := ((Rvl (S i) ci : Nat) : Int)) rfl rfl rfl rfl K4 ?_
      refine E_ret rfl rfl ?_
      exact mq_in hS2 hi rfl q (by unfold aNumber; (try simp only [Int.toNat_natCast]); rw [cif_pos (by unfold inC; omega)]; omega) hC2
    · refine E_go (p' := 34) (L' := [some (aA 124), some (aI ((i : Nat) : Int)), some (aI ((ci : Nat) : Int))]) (st' := []) rfl rfl rfl ?_
      refine E_s (p' := 36) (st' := aI (-10) :: _) rfl rfl ?_
      refine E_s (p' := 37) (st' := aA 124 :: _) rfl rfl ?_
      refine E_gI (v := ((Rft (S i) ci : Nat) : Int)) rfl rfl rfl rfl K3 ?_
      refine E_sub (v := (-(Rft (S i) ci : Int) - 10)) rfl (by omega) (by omega) ?_
      refine E_s (p' := 48) rfl rfl ?_
      refine E_ret rfl rfl ?_
      exact mq_in hS2 hi rfl q (by unfold aNumber; (try simp only [Int.toNat_natCast]); rw [cif_pos (by unfold inC; omega)]; omega) hC2
  · refine E_go (p' := 6) (L' := [some (aA 124), some (aI (r)), some (aI (c))]) (st' := [aI 0]) rfl rfl rfl ?_
    refine E_s (p' := 9) rfl rfl ?_
    refine E_s (p' := 10) (st' := aI (-1) :: _) rfl rfl ?_
    refine E_ret rfl rfl ?_
    rcases hno with hr | ⟨i, hi, hr, hno⟩
    · exact mq_out hS q hr
    · exact mq_in hS hi hr q (by unfold aNumber; rw [cif_neg (hno)]) Co1.rf
theorem M_knotAt (hS : MS S m) (q : ∀ m1, MS S m1 → Co1 m m1 → Q (some (aI (qy S r (-1) (aKnotAt c k w)))) (m1, tl len)) : E 152 0 [some (aA 124), some (aI (r)), some (aI (c)), some (aI (k)), some (aI (w)), none] [] (m, tl len) Q := by
  refine E_s (p' := 1) (st' := aA 124 :: _) rfl rfl ?_
  refine E_s (p' := 2) (st' := aI (r) :: _) rfl rfl ?_
  refine E_s (p' := 3) (st' := aI (c) :: _) rfl rfl ?_
  refine E_callV (k' := 135) (a := 124) (r := []) (L0 := [some (aA 124), some (aI (r)), some (aI (c))]) rfl rfl rfl rfl rfl rfl rfl rfl rfl rfl ?_
  refine m_isCord hS (fun i ci hi hr hc hcc => ?_) (fun hno => ?_)
  · refine E_go (p' := 6) (L' := [some (aA 124), some (aI (r)), some (aI (c)), some (aI (k)), some (aI (w)), none]) (st' := [aI 1]) rfl rfl rfl ?_
    obtain ⟨hV, hM⟩ := hS i hi
    have hn60 := hV.1
    have hs40 := hV.2.2.2.2.1
    subst hr hc
    refine E_s (p' := 9) rfl rfl ?_
    have hk30 := (hV.2.2.1 ci hcc).2.2.2.2.2
    refine E_s (p' := 10) (st' := aI (k) :: _) rfl rfl ?_
    refine E_s (p' := 11) (st' := aI 0 :: _) rfl rfl ?_
    refine E_s (p' := 12) (st' := aA 124 :: _) rfl rfl ?_
    refine E_gA (b := 132) rfl rfl rfl rfl rfl rfl ?_
    refine E_s (p' := 17) (st' := aI 60 :: _) rfl rfl ?_
    refine E_s (p' := 18) (st' := aI ((i : Nat) : Int) :: _) rfl rfl ?_
    refine E_mul (v := ((60 * i : Nat) : Int)) rfl (by omega) (by omega) ?_
    refine E_s (p' := 20) (st' := aI ((ci : Nat) : Int) :: _) rfl rfl ?_
    refine E_add (v := ((60 * i + ci : Nat) : Int)) rfl (by omega) (by omega) ?_
    refine E_ald (e := 60 * i + ci) (N := 240) (v := ((Ck (S i) ci : Nat) : Int)) rfl rfl (rfl) (by omega) (MR_132 hM (by omega) (by omega)) ?_
    refine E_s (p' := 23) (st' := aI 1 :: _) rfl rfl ?_
    refine E_sub (v := ((Ck (S i) ci : Int) - 1)) rfl (by omega) (by omega) ?_
    refine E_callL (p' := 27) (L0 := [some (aI (k)), some (aI 0), some (aI ((Ck (S i) ci : Int) - 1))]) rfl rfl rfl ?_
    refine m_in (fun h_1 h_2 => ?_) (fun h_3 => ?_)
    · refine E_go (p' := 27) (L' := [some (aA 124), some (aI ((i : Nat) : Int)), some (aI ((ci : Nat) : Int)), some (aI (k)), some (aI (w)), none]) (st' := [aI 1]) rfl rfl rfl ?_
      refine E_s (p' := 32) rfl rfl ?_
      obtain ⟨kn, ek⟩ : ∃ x : Nat, k = (x : Int) := ⟨k.toNat, by omega⟩
      subst ek
      refine E_s (p' := 34) (st' := aI 30 :: _) rfl rfl ?_
      refine E_s (p' := 36) (st' := aI 60 :: _) rfl rfl ?_
      refine E_s (p' := 37) (st' := aI ((i : Nat) : Int) :: _) rfl rfl ?_
      refine E_mul (v := ((60 * i : Nat) : Int)) rfl (by omega) (by omega) ?_
      refine E_s (p' := 39) (st' := aI ((ci : Nat) : Int) :: _) rfl rfl ?_
      refine E_add (v := ((60 * i + ci : Nat) : Int)) rfl (by omega) (by omega) ?_
      refine E_mul (v := ((1800 * i + 30 * ci : Nat) : Int)) rfl (by omega) (by omega) ?_
      refine E_s (p' := 42) (st' := aI ((kn : Nat) : Int) :: _) rfl rfl ?_
      refine E_add (v := ((1800 * i + 30 * ci + kn : Nat) : Int)) rfl (by omega) (by omega) ?_
      refine E_s (p' := 45) (L' := [some (aA 124), some (aI ((i : Nat) : Int)), some (aI ((ci : Nat) : Int)), some (aI ((kn : Nat) : Int)), some (aI (w)), some (aI ((1800 * i + 30 * ci + kn : Nat) : Int))]) rfl rfl ?_
      refine E_s (p' := 47) (st' := aI (w) :: _) rfl rfl ?_
      refine E_if_ne (x := (w)) rfl (by decide) (fun h_4 => ?_) (fun h_4 => ?_)
      · refine E_go (p' := 60) (L' := [some (aA 124), some (aI ((i : Nat) : Int)), some (aI ((ci : Nat) : Int)), some (aI ((kn : Nat) : Int)), some (aI (w)), some (aI ((1800 * i + 30 * ci + kn : Nat) : Int))]) (st' := []) rfl rfl rfl ?_
        refine E_s (p' := 62) (st' := aI (w) :: _) rfl rfl ?_
        refine E_s (p' := 63) (st' := aI 1 :: _) rfl rfl ?_
        refine E_icmp_ne (x := (w)) (y := 1) rfl (by decide) (fun h_5 => ?_) (fun h_5 => ?_)
        · refine E_go (p' := 76) (L' := [some (aA 124), some (aI ((i : Nat) : Int)), some (aI ((ci : Nat) : Int)), some (aI ((kn : Nat) : Int)), some (aI (w)), some (aI ((1800 * i + 30 * ci + kn : Nat) : Int))]) (st' := []) rfl rfl rfl ?_
          refine E_s (p' := 78) (st' := aI (w) :: _) rfl rfl ?_
          refine E_s (p' := 79) (st' := aI 2 :: _) rfl rfl ?_
          refine E_icmp_ne (x := (w)) (y := 2) rfl (by decide) (fun h_6 => ?_) (fun h_6 => ?_)
          · refine E_go (p' := 92) (L' := [some (aA 124), some (aI ((i : Nat) : Int)), some (aI ((ci : Nat) : Int)), some (aI ((kn : Nat) : Int)), some (aI (w)), some (aI ((1800 * i + 30 * ci + kn : Nat) : Int))]) (st' := []) rfl rfl rfl ?_
            refine E_s (p' := 93) (st' := aI (-1) :: _) rfl rfl ?_
            refine E_ret rfl rfl ?_
            exact mq_in hS hi rfl q (by unfold aKnotAt; (try simp only [Int.toNat_natCast]); rw [cif_pos ⟨(by unfold inC; omega), (by omega), (by omega)⟩, if_neg (by omega), if_neg (by omega), if_neg (by omega)]) Co1.rf
          · refine E_go (p' := 82) (L' := [some (aA 124), some (aI ((i : Nat) : Int)), some (aI ((ci : Nat) : Int)), some (aI ((kn : Nat) : Int)), some (aI (w)), some (aI ((1800 * i + 30 * ci + kn : Nat) : Int))]) (st' := []) rfl rfl rfl ?_
            refine E_s (p' := 83) (st' := aA 124 :: _) rfl rfl ?_
            refine E_gA (b := 135) rfl rfl rfl rfl rfl rfl ?_
            refine E_s (p' := 88) (st' := aI ((1800 * i + 30 * ci + kn : Nat) : Int) :: _) rfl rfl ?_
            refine E_ald (e := 1800 * i + 30 * ci + kn) (N := 7200) (v := ((tu (Cp (S i) ci kn) : Nat) : Int)) rfl rfl (rfl) (by omega) (MR_135 hM (by omega) (by omega) (by omega)) ?_
            refine E_s (p' := 93) rfl rfl ?_
            refine E_ret rfl rfl ?_
            exact mq_in hS hi rfl q (by unfold aKnotAt; (try simp only [Int.toNat_natCast]); rw [cif_pos ⟨(by unfold inC; omega), (by omega), (by omega)⟩, if_neg (by omega), if_neg (by omega), if_pos (by omega)]) Co1.rf
        · refine E_go (p' := 66) (L' := [some (aA 124), some (aI ((i : Nat) : Int)), some (aI ((ci : Nat) : Int)), some (aI ((kn : Nat) : Int)), some (aI (w)), some (aI ((1800 * i + 30 * ci + kn : Nat) : Int))]) (st' := []) rfl rfl rfl ?_
          refine E_s (p' := 67) (st' := aA 124 :: _) rfl rfl ?_
          refine E_gA (b := 134) rfl rfl rfl rfl rfl rfl ?_
          refine E_s (p' := 72) (st' := aI ((1800 * i + 30 * ci + kn : Nat) : Int) :: _) rfl rfl ?_
          refine E_ald (e := 1800 * i + 30 * ci + kn) (N := 7200) (v := ((so (Cp (S i) ci kn) : Nat) : Int)) rfl rfl (rfl) (by omega) (MR_134 hM (by omega) (by omega) (by omega)) ?_
          refine E_s (p' := 93) rfl rfl ?_
          refine E_ret rfl rfl ?_
          exact mq_in hS hi rfl q (by unfold aKnotAt; (try simp only [Int.toNat_natCast]); rw [cif_pos ⟨(by unfold inC; omega), (by omega), (by omega)⟩, if_neg (by omega), if_pos (by omega)]) Co1.rf
      · refine E_go (p' := 50) (L' := [some (aA 124), some (aI ((i : Nat) : Int)), some (aI ((ci : Nat) : Int)), some (aI ((kn : Nat) : Int)), some (aI (w)), some (aI ((1800 * i + 30 * ci + kn : Nat) : Int))]) (st' := []) rfl rfl rfl ?_
        refine E_s (p' := 51) (st' := aA 124 :: _) rfl rfl ?_
        refine E_gA (b := 133) rfl rfl rfl rfl rfl rfl ?_
        refine E_s (p' := 56) (st' := aI ((1800 * i + 30 * ci + kn : Nat) : Int) :: _) rfl rfl ?_
        refine E_ald (e := 1800 * i + 30 * ci + kn) (N := 7200) (v := ((ht (Cp (S i) ci kn) : Nat) : Int)) rfl rfl (rfl) (by omega) (MR_133 hM (by omega) (by omega) (by omega)) ?_
        refine E_s (p' := 93) rfl rfl ?_
        refine E_ret rfl rfl ?_
        exact mq_in hS hi rfl q (by unfold aKnotAt; (try simp only [Int.toNat_natCast]); rw [cif_pos ⟨(by unfold inC; omega), (by omega), (by omega)⟩, if_pos (by omega)]) Co1.rf
    · refine E_go (p' := 27) (L' := [some (aA 124), some (aI ((i : Nat) : Int)), some (aI ((ci : Nat) : Int)), some (aI (k)), some (aI (w)), none]) (st' := [aI 0]) rfl rfl rfl ?_
      refine E_s (p' := 30) rfl rfl ?_
      refine E_s (p' := 31) (st' := aI (-1) :: _) rfl rfl ?_
      refine E_ret rfl rfl ?_
      exact mq_in hS hi rfl q (by unfold aKnotAt; (try simp only [Int.toNat_natCast]); rw [cif_neg (by omega)]) Co1.rf
  · refine E_go (p' := 6) (L' := [some (aA 124), some (aI (r)), some (aI (c)), some (aI (k)), some (aI (w)), none]) (st' := [aI 0]) rfl rfl rfl ?_
    refine E_s (p' := 30) rfl rfl ?_
    refine E_s (p' := 31) (st' := aI (-1) :: _) rfl rfl ?_
    refine E_ret rfl rfl ?_
    rcases hno with hr | ⟨i, hi, hr, hno⟩
    · exact mq_out hS q hr
    · exact mq_in hS hi hr q (by unfold aKnotAt; rw [cif_neg (fun g9 => hno g9.1)]) Co1.rf
end
