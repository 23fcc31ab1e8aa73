theorem Rct_pos (R : RD) (l : Nat) : 0 < Rct R l := by
  unfold Rct
  refine Nat.mul_pos (Nat.pow_pos (by decide)) ?_
  cases Run R <;> decide
theorem Rct_Ru (R : RD) (l : Nat) : Rct R l = 10 ^ (RL R - 1 - l) * Ru R := rfl
theorem Rct_step {R : RD} {l : Nat} (h : l + 1 < RL R) : Rct R l = Rct R (l + 1) * 10 := by
  rw [Rct_Ru, Rct_Ru, show RL R - 1 - l = (RL R - 1 - (l + 1)) + 1 by omega, Nat.pow_succ, Nat.mul_right_comm]
theorem Rct_one {R : RD} {l : Nat} (h : l < RL R) : (Run R && decide (l + 1 = RL R)) = decide (Rct R l = 1) := by
  rw [Rct_Ru]
  rcases Ru_10 R with ⟨h1, h2⟩ | ⟨h1, h2⟩
  · rw [h1, h2, Nat.mul_one]
    by_cases g : l + 1 = RL R
    · rw [decide_eq_true g, show RL R - 1 - l = 0 by omega]; rfl
    · rw [decide_eq_false g, decide_eq_false]
      · rfl
      · obtain ⟨n, hn⟩ : ∃ n, RL R - 1 - l = n + 1 := ⟨RL R - 1 - l - 1, by omega⟩
        rw [hn, Nat.pow_succ]
        omega
  · rw [h1, h2, decide_eq_false (p := 10 ^ (RL R - 1 - l) * 10 = 1) (by omega)]
    rfl
theorem top9 {R : RD} {X : Nat} (h : 0 < RL R) : X / Rct R 0 / 10 = X / Ru R / 10 ^ RL R := by
  rw [Nat.div_div_eq_div_mul, Nat.div_div_eq_div_mul, Rct_Ru]
  congr 1
  obtain ⟨n, hn⟩ : ∃ n, RL R = n + 1 := ⟨RL R - 1, by omega⟩
  rw [hn, Nat.add_sub_cancel, Nat.sub_zero, Nat.pow_succ, Nat.mul_right_comm, Nat.mul_comm]
/-- what is left of the number ahead of a LEVEL -/
def rstP (R : RD) (X l t : Nat) : Prop := (l = 0 ∧ t = X) ∨ (0 < l ∧ t = X % Rct R (l - 1) ∧ X / Rct R 0 ≤ 9)
theorem rst_d {R : RD} {X l t : Nat} (hl : l < RL R) (h : rstP R X l t) (hg : t / Rct R l ≤ 9) : t / Rct R l = X / Rct R l % 10 ∧ rstP R X (l + 1) (t % Rct R l) := by
  rcases h with ⟨h1, h2⟩ | ⟨h1, h2, h3⟩
  · subst h1 h2
    exact ⟨(Nat.mod_eq_of_lt (by omega)).symm, Or.inr ⟨by omega, rfl, hg⟩⟩
  · obtain ⟨k, hk⟩ : ∃ k, l = k + 1 := ⟨l - 1, by omega⟩
    subst hk
    rw [Nat.add_sub_cancel, Rct_step hl] at h2
    subst h2
    refine ⟨Nat.mod_mul_right_div_self .., Or.inr ⟨by omega, ?_, h3⟩⟩
    rw [Nat.add_sub_cancel]
    exact Nat.mod_mul_right_mod ..
theorem rst_9 {R : RD} {X l t : Nat} (hl : l < RL R) (h : rstP R X l t) (hg : ¬ t / Rct R l ≤ 9) : ¬ (X / Ru R / 10 ^ RL R = 0) := by
  rcases h with ⟨h1, h2⟩ | ⟨h1, h2, h3⟩
  · subst h1 h2
    rw [← top9 (by omega)]
    omega
  · obtain ⟨k, hk⟩ : ∃ k, l = k + 1 := ⟨l - 1, by omega⟩
    subst hk
    rw [Nat.add_sub_cancel, Rct_step hl] at h2
    subst h2
    rw [Nat.mod_mul_right_div_self] at hg
    have := Nat.mod_lt (X / Rct R (k + 1)) (show 0 < 10 by decide)
    omega
theorem rst_le {R : RD} {X l t : Nat} (h : rstP R X l t) : t ≤ X := by
  rcases h with ⟨h1, h2⟩ | ⟨h1, h2, h3⟩
  · omega
  · rw [h2]; exact Nat.mod_le _ _
theorem rst_e {R : RD} {X t : Nat} (h0 : 0 < RL R) (h : rstP R X (RL R) t) : t = X % Ru R ∧ X / Ru R / 10 ^ RL R = 0 := by
  rcases h with ⟨h1, h2⟩ | ⟨h1, h2, h3⟩
  · omega
  · rw [Rct_Ru, show RL R - 1 - (RL R - 1) = 0 by omega, Nat.pow_zero, Nat.one_mul] at h2
    rw [← top9 h0]
    exact ⟨h2, Nat.div_eq_of_lt (by omega)⟩
theorem upK_none {R : RD} {x n : Nat} {o : Option KR} {i : Nat} (h : fdK n o (upK R x i) = none) : ∀ j, i ≤ j → fdK n o (upK R x j) = none := by
  intro j
  induction j with
  | zero => intro hk; have e9 : i = 0 := by omega
            subst e9; exact h
  | succ j ih =>
    intro hk
    by_cases e9 : i = j + 1
    · subst e9; exact h
    · show fdK n o (upK R x j ++ _) = none
      rw [fdK_app, ih (by omega)]; exact fdK_none _
/-- the model's CORD bears this row -/
def MK9 (R : RD) (c i : Nat) (m0 : Mm) (y : KR) (m : Mm) : Prop := okK R c y ∧ MR (Rkn R c y.1 y.2) i m ∧ Mx i m0 m ∧ Fx 132 135 m0 m
theorem MK9.tr {R : RD} {c i : Nat} {m0 m m1 : Mm} {x y : KR} (h : MK9 R c i m0 x m) (h' : MK9 R c i m y m1) : MK9 R c i m0 y m1 := ⟨h'.1, h'.2.1, h.2.2.1.tr h'.2.2.1, h.2.2.2.tr h'.2.2.2⟩
theorem MK9.rf {R : RD} {c i : Nat} {m0 m : Mm} {x : KR} (h : MK9 R c i m0 x m) : MK9 R c i m x m := ⟨h.1, h.2.1, Mx.rf, Fx.rf⟩
section
variable {len : Nat} {m m0 : Mm} {Q : Option AV → Sx → Prop} {R : RD} {i c X f e l C t : Nat} {x : KR}
theorem yl_mg (hi : i < 4) (hV : VR R) (hc : c < Cn R) (ht0 : Ct R c = 0) (hf : f ≤ 600) (he : e ≤ 8) (q0 : ∀ (m1 : Mm) (y : KR), fdK (Cl R c) (some x) (smK f e (e + 1)) = none → MK9 R c i m0 y m1 → Q (some (aI 0)) (m1, tl len)) (hk : ∀ (m1 : Mm) (y : KR) (x11 : Option AV), fdK (Cl R c) (some x) (smK f e (e + 1)) = some y → MK9 R c i m0 y m1 → E 160 220 [some (aA 124), some (aI ((60 * i + c : Nat) : Int)), some (aI ((X : Nat) : Int)), some (aI ((t : Nat) : Int)), some (aI ((l : Nat) : Int)), some (aI ((C : Nat) : Int)), some (aI ((e + 1 : Nat) : Int)), some (aI 0), some (aI ((f : Int) - (3 * e / 2 : Int))), some (aI ((e + 1 : Nat) : Int)), some (aI ((e + 1 : Nat) : Int)), x11] [] (m1, tl len) Q) : ∀ (d : Nat) (j : Nat) (m : Mm) (y : KR) (x11 : Option AV), (e + 1 < j + d) → (j ≤ e + 1) → (fdK (Cl R c) (some x) (smK f e j) = some y) → (MK9 R c i m0 y m) → E 160 115 [some (aA 124), some (aI ((60 * i + c : Nat) : Int)), some (aI ((X : Nat) : Int)), some (aI ((t : Nat) : Int)), some (aI ((l : Nat) : Int)), some (aI ((C : Nat) : Int)), some (aI ((e + 1 : Nat) : Int)), some (aI 0), some (aI ((f : Int) - (3 * e / 2 : Int))), some (aI ((e + 1 : Nat) : Int)), some (aI ((j : Nat) : Int)), x11] [] (m, tl len) Q := by
  intro d
  induction d with
  | zero => intro j m y x11 hd hj I1 I2; omega
  | succ d ih =>
    intro j m y x11 hd hj I1 I2
    have hy30 := I2.1.n30 hc
    have hn60 := hV.1
    have hl600 := (hV.2.2.1 c hc).2.2.2.1
    refine E_s (p' := 117) (st' := aI ((j : Nat) : Int) :: _) rfl rfl ?_
    refine E_s (p' := 119) (st' := aI ((e + 1 : Nat) : Int) :: _) rfl rfl ?_
    refine E_icmp_ge (x := ((j : Nat) : Int)) (y := ((e + 1 : Nat) : Int)) rfl (by decide) (fun h_1 => ?_) (fun h_1 => ?_)
    · refine E_go (p' := 220) (L' := [some (aA 124), some (aI ((60 * i + c : Nat) : Int)), some (aI ((X : Nat) : Int)), some (aI ((t : Nat) : Int)), some (aI ((l : Nat) : Int)), some (aI ((C : Nat) : Int)), some (aI ((e + 1 : Nat) : Int)), some (aI 0), some (aI ((f : Int) - (3 * e / 2 : Int))), some (aI ((e + 1 : Nat) : Int)), some (aI ((j : Nat) : Int)), x11]) (st' := []) rfl rfl rfl ?_
      have ej : j = e + 1 := by omega
      subst ej
      exact hk m y x11 I1 I2
    · refine E_go (p' := 122) (L' := [some (aA 124), some (aI ((60 * i + c : Nat) : Int)), some (aI ((X : Nat) : Int)), some (aI ((t : Nat) : Int)), some (aI ((l : Nat) : Int)), some (aI ((C : Nat) : Int)), some (aI ((e + 1 : Nat) : Int)), some (aI 0), some (aI ((f : Int) - (3 * e / 2 : Int))), some (aI ((e + 1 : Nat) : Int)), some (aI ((j : Nat) : Int)), x11]) (st' := []) rfl rfl rfl ?_
      refine E_s (p' := 124) (st' := aI ((f : Int) - (3 * e / 2 : Int)) :: _) rfl rfl ?_
      refine E_s (p' := 125) (st' := aI 3 :: _) rfl rfl ?_
      refine E_s (p' := 127) (st' := aI ((j : Nat) : Int) :: _) rfl rfl ?_
      refine E_mul (v := ((3 * j : Nat) : Int)) rfl (by omega) (by omega) ?_
      refine E_add (v := ((f : Int) - (3 * e / 2 : Int) + 3 * (j : Int))) rfl (by omega) (by omega) ?_
      refine E_s (p' := 131) (L' := [some (aA 124), some (aI ((60 * i + c : Nat) : Int)), some (aI ((X : Nat) : Int)), some (aI ((t : Nat) : Int)), some (aI ((l : Nat) : Int)), some (aI ((C : Nat) : Int)), some (aI ((e + 1 : Nat) : Int)), some (aI 0), some (aI ((f : Int) - (3 * e / 2 : Int))), some (aI ((e + 1 : Nat) : Int)), some (aI ((j : Nat) : Int)), some (aI ((f : Int) - (3 * e / 2 : Int) + 3 * (j : Int)))]) rfl rfl ?_
      refine E_s (p' := 133) (st' := aI ((f : Int) - (3 * e / 2 : Int) + 3 * (j : Int)) :: _) rfl rfl ?_
      refine E_s (p' := 134) (st' := aI 1 :: _) rfl rfl ?_
      refine E_s (p' := 135) (st' := aA 124 :: _) rfl rfl ?_
      refine E_gA (b := 130) rfl rfl rfl rfl rfl rfl ?_
      refine E_s (p' := 139) (st' := aI ((60 * i + c : Nat) : Int) :: _) rfl rfl ?_
      refine E_ald (e := 60 * i + c) (N := 240) (v := ((Cl R c : Nat) : Int)) rfl rfl (rfl) (by omega) (MR_130 (R := Rkn R c y.1 y.2) I2.2.1 hc rfl) ?_
      refine E_callL (p' := 143) (L0 := [some (aI ((f : Int) - (3 * e / 2 : Int) + 3 * (j : Int))), some (aI 1), some (aI ((Cl R c : Nat) : Int))]) rfl rfl rfl ?_
      refine m_in (fun hr1 hr2 => ?_) (fun hr0 => ?_)
      · refine E_go (p' := 143) (L' := [some (aA 124), some (aI ((60 * i + c : Nat) : Int)), some (aI ((X : Nat) : Int)), some (aI ((t : Nat) : Int)), some (aI ((l : Nat) : Int)), some (aI ((C : Nat) : Int)), some (aI ((e + 1 : Nat) : Int)), some (aI 0), some (aI ((f : Int) - (3 * e / 2 : Int))), some (aI ((e + 1 : Nat) : Int)), some (aI ((j : Nat) : Int)), some (aI ((f : Int) - (3 * e / 2 : Int) + 3 * (j : Int)))]) (st' := [aI 1]) rfl rfl rfl ?_
        refine E_s (p' := 146) rfl rfl ?_
        refine E_s (p' := 147) (st' := aA 124 :: _) rfl rfl ?_
        refine E_s (p' := 148) (st' := aI ((60 * i + c : Nat) : Int) :: _) rfl rfl ?_
        refine E_s (p' := 150) (st' := aI ((f : Int) - (3 * e / 2 : Int) + 3 * (j : Int)) :: _) rfl rfl ?_
        refine E_callV (k' := 137) (a := 124) (r := []) (L0 := [some (aA 124), some (aI ((60 * i + c : Nat) : Int)), some (aI ((f : Int) - (3 * e / 2 : Int) + 3 * (j : Int))), none]) rfl rfl rfl rfl rfl rfl rfl rfl rfl rfl ?_
        refine m_find hi I2.2.1 I2.1 hc (fun k1 hk1 hk2 => ?_) (fun hnf => ?_)
        · refine E_go (p' := 153) (L' := [some (aA 124), some (aI ((60 * i + c : Nat) : Int)), some (aI ((X : Nat) : Int)), some (aI ((t : Nat) : Int)), some (aI ((l : Nat) : Int)), some (aI ((C : Nat) : Int)), some (aI ((e + 1 : Nat) : Int)), some (aI 0), some (aI ((f : Int) - (3 * e / 2 : Int))), some (aI ((e + 1 : Nat) : Int)), some (aI ((j : Nat) : Int)), some (aI ((f : Int) - (3 * e / 2 : Int) + 3 * (j : Int)))]) (st' := [aI ((k1 : Nat) : Int)]) rfl rfl rfl ?_
          rw [Ckn] at hk1
          rw [Cpn] at hk2
          refine E_s (p' := 154) (st' := aI (-1) :: _) rfl rfl ?_
          refine E_icmp_ne (x := ((k1 : Nat) : Int)) (y := (-1)) rfl (by decide) (fun h_2 => ?_) (fun q => absurd q (by omega))
          refine E_go (p' := 168) (L' := [some (aA 124), some (aI ((60 * i + c : Nat) : Int)), some (aI ((X : Nat) : Int)), some (aI ((t : Nat) : Int)), some (aI ((l : Nat) : Int)), some (aI ((C : Nat) : Int)), some (aI ((e + 1 : Nat) : Int)), some (aI 0), some (aI ((f : Int) - (3 * e / 2 : Int))), some (aI ((e + 1 : Nat) : Int)), some (aI ((j : Nat) : Int)), some (aI ((f : Int) - (3 * e / 2 : Int) + 3 * (j : Int)))]) (st' := []) rfl rfl rfl ?_
          refine E_s (p' := 169) (st' := aI 0 :: _) rfl rfl ?_
          refine E_ret rfl rfl ?_
          have nf : ¬ fitK (Cl R c) y.1 y.2 ((f : Int) - (3 * e / 2 : Int) + 3 * (j : Int)) := fun g => by first | exact absurd g.1 (by omega) | exact absurd g.2.1 (by omega) | exact absurd g.2.2.1 (by omega) | (have g8 := g.2.1; have g7 := g.2.2.1; omega) | exact g.2.2.2 _ hk1 hk2
          have e9 : fdK (Cl R c) (some x) (smK f e (j + 1)) = none := by
            show fdK (Cl R c) (some x) (smK f e j ++ [itS f e j]) = _
            rw [fdK_app, I1, fdK_one]
            unfold stK itS
            exact cif_neg nf
          exact q0 m y (smK_none e9 (e + 1) (by omega)) I2
        · refine E_go (p' := 153) (L' := [some (aA 124), some (aI ((60 * i + c : Nat) : Int)), some (aI ((X : Nat) : Int)), some (aI ((t : Nat) : Int)), some (aI ((l : Nat) : Int)), some (aI ((C : Nat) : Int)), some (aI ((e + 1 : Nat) : Int)), some (aI 0), some (aI ((f : Int) - (3 * e / 2 : Int))), some (aI ((e + 1 : Nat) : Int)), some (aI ((j : Nat) : Int)), some (aI ((f : Int) - (3 * e / 2 : Int) + 3 * (j : Int)))]) (st' := [aI (-1)]) rfl rfl rfl ?_
          rw [Ckn, Cpn] at hnf
          refine E_s (p' := 154) (st' := aI (-1) :: _) rfl rfl ?_
          refine E_s (p' := 157) rfl rfl ?_
          refine E_s (p' := 158) (st' := aA 124 :: _) rfl rfl ?_
          refine E_gA (b := 132) rfl rfl rfl rfl rfl rfl ?_
          refine E_s (p' := 162) (st' := aI ((60 * i + c : Nat) : Int) :: _) rfl rfl ?_
          refine E_ald (e := 60 * i + c) (N := 240) (v := ((y.1 : Nat) : Int)) rfl rfl (rfl) (by omega) ((MR_132 (R := Rkn R c y.1 y.2) I2.2.1 hc rfl).trans (by rw [Ckn])) ?_
          refine E_s (p' := 165) (st' := aI 30 :: _) rfl rfl ?_
          refine E_icmp_ne (x := ((y.1 : Nat) : Int)) (y := 30) rfl (by decide) (fun h_3 => ?_) (fun h_3 => ?_)
          · refine E_go (p' := 170) (L' := [some (aA 124), some (aI ((60 * i + c : Nat) : Int)), some (aI ((X : Nat) : Int)), some (aI ((t : Nat) : Int)), some (aI ((l : Nat) : Int)), some (aI ((C : Nat) : Int)), some (aI ((e + 1 : Nat) : Int)), some (aI 0), some (aI ((f : Int) - (3 * e / 2 : Int))), some (aI ((e + 1 : Nat) : Int)), some (aI ((j : Nat) : Int)), some (aI ((f : Int) - (3 * e / 2 : Int) + 3 * (j : Int)))]) (st' := []) rfl rfl rfl ?_
            obtain ⟨hn, eh⟩ : ∃ z : Nat, ((f : Int) - (3 * e / 2 : Int) + 3 * (j : Int)) = (z : Int) := ⟨(((f : Int) - (3 * e / 2 : Int) + 3 * (j : Int))).toNat, by omega⟩
            rw [eh]
            rw [eh] at hnf hr1 hr2
            refine E_s (p' := 171) (st' := aA 124 :: _) rfl rfl ?_
            refine E_s (p' := 172) (st' := aI ((60 * i + c : Nat) : Int) :: _) rfl rfl ?_
            refine E_s (p' := 174) (st' := aI ((hn : Nat) : Int) :: _) rfl rfl ?_
            refine E_s (p' := 176) (st' := aI 0 :: _) rfl rfl ?_
            refine E_s (p' := 193) rfl rfl ?_
            refine E_s (p' := 194) (st' := aI 0 :: _) rfl rfl ?_
            refine E_s (p' := 196) (st' := aI 0 :: _) rfl rfl ?_
            refine E_s (p' := 210) rfl rfl ?_
            refine E_s (p' := 211) (st' := aI 0 :: _) rfl rfl ?_
            refine E_callV (k' := 138) (a := 124) (r := []) (L0 := [some (aA 124), some (aI ((60 * i + c : Nat) : Int)), some (aI ((hn : Nat) : Int)), some (aI 0), some (aI 0), none]) rfl rfl rfl rfl rfl rfl rfl rfl rfl rfl ?_
            refine m_put hi I2.2.1 I2.1 hc (hn := hn) (sn := 0) (tn := 0) (by rw [Ckn]; omega) (by omega) (by omega) (by rw [Ckn, Cpn]; exact fun k hk g => hnf k hk (by omega)) (fun m1 hM1 hx1 hF1 => ?_)
            refine E_go (p' := 214) (L' := [some (aA 124), some (aI ((60 * i + c : Nat) : Int)), some (aI ((X : Nat) : Int)), some (aI ((t : Nat) : Int)), some (aI ((l : Nat) : Int)), some (aI ((C : Nat) : Int)), some (aI ((e + 1 : Nat) : Int)), some (aI 0), some (aI ((f : Int) - (3 * e / 2 : Int))), some (aI ((e + 1 : Nat) : Int)), some (aI ((j : Nat) : Int)), some (aI ((hn : Nat) : Int))]) (st' := []) rfl rfl rfl ?_
            rw [Rkn_kn, Ckn, Cpn] at hM1
            refine E_inc (x := ((j : Nat) : Int)) (w := ((j + 1 : Nat) : Int)) (L' := [some (aA 124), some (aI ((60 * i + c : Nat) : Int)), some (aI ((X : Nat) : Int)), some (aI ((t : Nat) : Int)), some (aI ((l : Nat) : Int)), some (aI ((C : Nat) : Int)), some (aI ((e + 1 : Nat) : Int)), some (aI 0), some (aI ((f : Int) - (3 * e / 2 : Int))), some (aI ((e + 1 : Nat) : Int)), some (aI ((j + 1 : Nat) : Int)), some (aI ((hn : Nat) : Int))]) rfl rfl rfl (by omega) (by omega) rfl ?_
            refine E_s (p' := 115) rfl rfl ?_
            have eit : itS f e j = ((hn : Int), (0, 0)) := by unfold itS; rw [eh]
            have ef : fitK (Cl R c) y.1 y.2 (itS f e j).1 := by rw [eit]; exact ⟨by have := I2.1.n30 hc; omega, hr1, hr2, hnf⟩
            have e9 : fdK (Cl R c) (some x) (smK f e (j + 1)) = some (y.1 + 1, inK y.1 y.2 (itS f e j)) := by
              show fdK (Cl R c) (some x) (smK f e j ++ [itS f e j]) = _
              rw [fdK_app, I1, fdK_one]
              unfold stK
              exact cif_pos ef
            refine ih (j + 1) m1 _ _ (by omega) (by omega) e9 (I2.tr ⟨I2.1.fit hc ht0 (q := itS f e j) ef itS_it kok0, ?_, hx1, hF1⟩)
            rw [eit]
            unfold inK
            exact hM1
          · refine E_go (p' := 168) (L' := [some (aA 124), some (aI ((60 * i + c : Nat) : Int)), some (aI ((X : Nat) : Int)), some (aI ((t : Nat) : Int)), some (aI ((l : Nat) : Int)), some (aI ((C : Nat) : Int)), some (aI ((e + 1 : Nat) : Int)), some (aI 0), some (aI ((f : Int) - (3 * e / 2 : Int))), some (aI ((e + 1 : Nat) : Int)), some (aI ((j : Nat) : Int)), some (aI ((f : Int) - (3 * e / 2 : Int) + 3 * (j : Int)))]) (st' := []) rfl rfl rfl ?_
            refine E_s (p' := 169) (st' := aI 0 :: _) rfl rfl ?_
            refine E_ret rfl rfl ?_
            have nf : ¬ fitK (Cl R c) y.1 y.2 ((f : Int) - (3 * e / 2 : Int) + 3 * (j : Int)) := fun g => by first | exact absurd g.1 (by omega) | exact absurd g.2.1 (by omega) | exact absurd g.2.2.1 (by omega) | (have g8 := g.2.1; have g7 := g.2.2.1; omega) | exact g.2.2.2 _ hk1 hk2
            have e9 : fdK (Cl R c) (some x) (smK f e (j + 1)) = none := by
              show fdK (Cl R c) (some x) (smK f e j ++ [itS f e j]) = _
              rw [fdK_app, I1, fdK_one]
              unfold stK itS
              exact cif_neg nf
            exact q0 m y (smK_none e9 (e + 1) (by omega)) I2
      · refine E_go (p' := 143) (L' := [some (aA 124), some (aI ((60 * i + c : Nat) : Int)), some (aI ((X : Nat) : Int)), some (aI ((t : Nat) : Int)), some (aI ((l : Nat) : Int)), some (aI ((C : Nat) : Int)), some (aI ((e + 1 : Nat) : Int)), some (aI 0), some (aI ((f : Int) - (3 * e / 2 : Int))), some (aI ((e + 1 : Nat) : Int)), some (aI ((j : Nat) : Int)), some (aI ((f : Int) - (3 * e / 2 : Int) + 3 * (j : Int)))]) (st' := [aI 0]) rfl rfl rfl ?_
        refine E_s (p' := 168) rfl rfl ?_
        refine E_s (p' := 169) (st' := aI 0 :: _) rfl rfl ?_
        refine E_ret rfl rfl ?_
        have nf : ¬ fitK (Cl R c) y.1 y.2 ((f : Int) - (3 * e / 2 : Int) + 3 * (j : Int)) := fun g => by first | exact absurd g.1 (by omega) | exact absurd g.2.1 (by omega) | exact absurd g.2.2.1 (by omega) | (have g8 := g.2.1; have g7 := g.2.2.1; omega) | exact g.2.2.2 _ hk1 hk2
        have e9 : fdK (Cl R c) (some x) (smK f e (j + 1)) = none := by
          show fdK (Cl R c) (some x) (smK f e j ++ [itS f e j]) = _
          rw [fdK_app, I1, fdK_one]
          unfold stK itS
          exact cif_neg nf
        exact q0 m y (smK_none e9 (e + 1) (by omega)) I2
end
