/-! the model reads a RECORD -/
abbrev Cl3 : Type := Nat × (Nat × Nat)
def clx (R : RD) (c k : Nat) : Cl3 := (clp R c k, (so (Cp R c k), clw R c k))
/-- the CLUSTERS begun among the first j KNOTS -/
def clm (R : RD) (c : Nat) : Nat → List Cl3
  | 0 => []
  | j + 1 => cls R c j ++ [clx R c j]
def CLm (l : List Cl3) (m : Mm) : Prop := m 124 19 = (l.length : Int) ∧ ∀ i, i < l.length → m 141 i = ((l.getD i (0, (0, 0))).1 : Int) ∧ m 142 i = ((l.getD i (0, (0, 0))).2.1 : Int) ∧ m 143 i = ((l.getD i (0, (0, 0))).2.2 : Int)
theorem g3_l {l : List Cl3} {x : Cl3} {i : Nat} (h : i < l.length) : (l ++ [x]).getD i (0, (0, 0)) = l.getD i (0, (0, 0)) := by
  rw [List.getD_eq_getElem?_getD, List.getD_eq_getElem?_getD, List.getElem?_append_left h]
theorem g3_r {l : List Cl3} {x : Cl3} : (l ++ [x]).getD l.length (0, (0, 0)) = x := by
  rw [List.getD_eq_getElem?_getD, List.getElem?_append_right (Nat.le_refl _), Nat.sub_self]; rfl
theorem CLm.of {l : List Cl3} {m m' : Mm} (h : CLm l m) (e : ∀ b j, (b = 124 ∧ j = 19) ∨ (141 ≤ b ∧ b ≤ 143) → m' b j = m b j) : CLm l m' := by
  refine ⟨(e _ _ (Or.inl ⟨rfl, rfl⟩)).trans h.1, fun i hi => ?_⟩
  obtain ⟨h1, h2, h3⟩ := h.2 i hi
  exact ⟨(e _ _ (by omega)).trans h1, (e _ _ (by omega)).trans h2, (e _ _ (by omega)).trans h3⟩
theorem clm_A {R : RD} {c : Nat} : clm R c (Ck R c) = clsA R c := by
  unfold clsA
  cases hk : Ck R c with
  | zero => rfl
  | succ j =>
    have he : ends R c j = true := by unfold ends; rw [decide_eq_false (p := j + 1 < Ck R c) (by omega)]; simp
    rw [cls_t he]; rfl
theorem ends_g {R : RD} {c j : Nat} (hj : j + 1 < Ck R c) (h1 : so (Cp R c (j + 1)) = 0) (h2 : so (Cp R c j) = 0) (h3 : ht (Cp R c (j + 1)) ≤ ht (Cp R c j) + 4) : ends R c j = false := by
  unfold ends
  rw [decide_eq_true h2, decide_eq_true hj, decide_eq_true h1, decide_eq_true h3]; rfl
theorem ends_n {R : RD} {c j : Nat} (h : so (Cp R c (j + 1)) ≠ 0 ∨ so (Cp R c j) ≠ 0 ∨ ht (Cp R c j) + 4 < ht (Cp R c (j + 1))) : ends R c j = true := by
  unfold ends
  simp only [Bool.not_eq_true', Bool.and_eq_false_iff, decide_eq_false_iff_not]
  omega
section
variable {len : Nat} {m0 : Mm} {Q : Option AV → Sx → Prop} {R : RD} {i c : Nat}
theorem yl_cl12 (hi : i < 4) (hM : MR R i m0) (hV : VR R) (hcc : c < Cn R) (q : ∀ m1 : Mm, CLm (clsA R c) m1 → (∀ b z, ¬ (b = 124 ∧ z = 19) → ¬ (141 ≤ b ∧ b ≤ 143) → m1 b z = m0 b z) → Q none (m1, tl len)) : ∀ (d : Nat) (j fst : Nat) (m : Mm) (x4 : Option AV), (Ck R c < j + d) → (j ≤ Ck R c) → (CLm (clm R c j) m) → (∀ x, j = x + 1 → fst = ht (Cp R c (beg R c x))) → (∀ b z, ¬ (b = 124 ∧ z = 19) → ¬ (141 ≤ b ∧ b ≤ 143) → m b z = m0 b z) → E 146 12 [some (aA 124), some (aI ((60 * i + c : Nat) : Int)), some (aI ((fst : Nat) : Int)), some (aI ((1800 * i + 30 * c + j : Nat) : Int)), x4] [] (m, tl len) Q := by
  intro d
  induction d with
  | zero => intro j fst m x4 hd hj hI hf I2; omega
  | succ d ih =>
    intro j fst m x4 hd hj hI hf I2
    have hn60 := hV.1
    have hk30 := (hV.2.2.1 c hcc).2.2.2.2.2
    have hlj : (clm R c j).length ≤ j := by cases j with | zero => exact Nat.le_refl _ | succ j => show (_ ++ [_]).length ≤ _; rw [List.length_append]; have := cls_len R c j; show _ + 1 ≤ _; omega
    have pk3 : ∀ j, j < Ck R c → ht (Cp R c j) ≤ 600 ∧ so (Cp R c j) < 4 ∧ tu (Cp R c j) < 16 := fun j hj => by have := kok_lt hV hcc hj rfl; unfold ht so tu; omega
    refine E_s (p' := 13) (st' := aI ((1800 * i + 30 * c + j : Nat) : Int) :: _) rfl rfl ?_
    refine E_s (p' := 15) (st' := aI 30 :: _) rfl rfl ?_
    refine E_s (p' := 16) (st' := aI ((60 * i + c : Nat) : Int) :: _) rfl rfl ?_
    refine E_mul (v := ((1800 * i + 30 * c : Nat) : Int)) rfl (by omega) (by omega) ?_
    refine E_s (p' := 18) (st' := aA 124 :: _) rfl rfl ?_
    refine E_gA (b := 132) rfl rfl rfl rfl rfl rfl ?_
    refine E_s (p' := 22) (st' := aI ((60 * i + c : Nat) : Int) :: _) rfl rfl ?_
    refine E_ald (e := 60 * i + c) (N := 240) (v := ((Ck R c : Nat) : Int)) rfl rfl (rfl) (by omega) ((I2 _ _ (by omega) (by omega)).trans (MR_132 hM hcc rfl)) ?_
    refine E_add (v := ((1800 * i + 30 * c + Ck R c : Nat) : Int)) rfl (by omega) (by omega) ?_
    refine E_icmp_ge (x := ((1800 * i + 30 * c + j : Nat) : Int)) (y := ((1800 * i + 30 * c + Ck R c : Nat) : Int)) rfl (by decide) (fun h_1 => ?_) (fun h_1 => ?_)
    · refine E_go (p' := 202) (L' := [some (aA 124), some (aI ((60 * i + c : Nat) : Int)), some (aI ((fst : Nat) : Int)), some (aI ((1800 * i + 30 * c + j : Nat) : Int)), x4]) (st' := []) rfl rfl rfl ?_
      refine E_ret rfl rfl ?_
      have ej : j = Ck R c := by omega
      rw [ej, clm_A] at hI
      exact q m hI I2
    · refine E_go (p' := 27) (L' := [some (aA 124), some (aI ((60 * i + c : Nat) : Int)), some (aI ((fst : Nat) : Int)), some (aI ((1800 * i + 30 * c + j : Nat) : Int)), x4]) (st' := []) rfl rfl rfl ?_
      have pkj := pk3 j (by omega)
      refine E_s (p' := 28) (st' := aI ((1800 * i + 30 * c + j : Nat) : Int) :: _) rfl rfl ?_
      refine E_s (p' := 30) (st' := aI 30 :: _) rfl rfl ?_
      refine E_s (p' := 31) (st' := aI ((60 * i + c : Nat) : Int) :: _) rfl rfl ?_
      refine E_mul (v := ((1800 * i + 30 * c : Nat) : Int)) rfl (by omega) (by omega) ?_
      refine E_icmp_le (x := ((1800 * i + 30 * c + j : Nat) : Int)) (y := ((1800 * i + 30 * c : Nat) : Int)) rfl (by decide) (fun h_2 => ?_) (fun h_2 => ?_)
      · refine E_go (p' := 78) (L' := [some (aA 124), some (aI ((60 * i + c : Nat) : Int)), some (aI ((fst : Nat) : Int)), some (aI ((1800 * i + 30 * c + j : Nat) : Int)), x4]) (st' := []) rfl rfl rfl ?_
        refine E_s (p' := 79) (st' := aI 0 :: _) rfl rfl ?_
        refine E_s (p' := 81) (L' := [some (aA 124), some (aI ((60 * i + c : Nat) : Int)), some (aI ((fst : Nat) : Int)), some (aI ((1800 * i + 30 * c + j : Nat) : Int)), some (aI 0)]) rfl rfl ?_
        refine E_s (p' := 83) (st' := aI 0 :: _) rfl rfl ?_
        refine E_s (p' := 125) rfl rfl ?_
        refine E_s (p' := 126) (st' := aA 124 :: _) rfl rfl ?_
        refine E_gA (b := 133) rfl rfl rfl rfl rfl rfl ?_
        refine E_s (p' := 130) (st' := aI ((1800 * i + 30 * c + j : Nat) : Int) :: _) rfl rfl ?_
        refine E_ald (e := 1800 * i + 30 * c + j) (N := 7200) (v := ((ht (Cp R c j) : Nat) : Int)) rfl rfl (rfl) (by omega) ((I2 _ _ (by omega) (by omega)).trans (MR_133 hM hcc (by omega) (by omega))) ?_
        refine E_s (p' := 132) (L' := [some (aA 124), some (aI ((60 * i + c : Nat) : Int)), some (aI ((ht (Cp R c j) : Nat) : Int)), some (aI ((1800 * i + 30 * c + j : Nat) : Int)), some (aI 0)]) rfl rfl ?_
        refine E_s (p' := 133) (st' := aA 124 :: _) rfl rfl ?_
        refine E_gA (b := 141) rfl rfl rfl rfl rfl rfl ?_
        refine E_s (p' := 137) (st' := aA 124 :: _) rfl rfl ?_
        refine E_gI (v := (((clm R c j).length : Nat) : Int)) rfl rfl rfl rfl hI.1 ?_
        refine E_s (p' := 141) (st' := aI ((ht (Cp R c j) : Nat) : Int) :: _) rfl rfl ?_
        refine E_ast (e := (clm R c j).length) (N := 30) rfl rfl (rfl) (by omega) ?_
        refine E_s (p' := 143) (st' := aA 124 :: _) rfl rfl ?_
        refine E_gA (b := 142) rfl rfl rfl rfl rfl rfl ?_
        refine E_s (p' := 147) (st' := aA 124 :: _) rfl rfl ?_
        refine E_gI (v := (((clm R c j).length : Nat) : Int)) rfl rfl rfl rfl ((up2_ne (by omega)).trans (hI.1)) ?_
        refine E_s (p' := 151) (st' := aA 124 :: _) rfl rfl ?_
        refine E_gA (b := 134) rfl rfl rfl rfl rfl rfl ?_
        refine E_s (p' := 155) (st' := aI ((1800 * i + 30 * c + j : Nat) : Int) :: _) rfl rfl ?_
        refine E_ald (e := 1800 * i + 30 * c + j) (N := 7200) (v := ((so (Cp R c j) : Nat) : Int)) rfl rfl (rfl) (by omega) ((up2_ne (by omega)).trans (((I2 _ _ (by omega) (by omega)).trans (MR_134 hM hcc (by omega) (by omega))))) ?_
        refine E_ast (e := (clm R c j).length) (N := 30) rfl rfl (rfl) (by omega) ?_
        refine E_s (p' := 158) (st' := aA 124 :: _) rfl rfl ?_
        refine E_gA (b := 143) rfl rfl rfl rfl rfl rfl ?_
        refine E_s (p' := 162) (st' := aA 124 :: _) rfl rfl ?_
        refine E_gI (v := (((clm R c j).length : Nat) : Int)) rfl rfl rfl rfl ((up2_ne (by omega)).trans ((up2_ne (by omega)).trans (hI.1))) ?_
        refine E_s (p' := 166) (st' := aA 124 :: _) rfl rfl ?_
        refine E_gA (b := 134) rfl rfl rfl rfl rfl rfl ?_
        refine E_s (p' := 170) (st' := aI ((1800 * i + 30 * c + j : Nat) : Int) :: _) rfl rfl ?_
        refine E_ald (e := 1800 * i + 30 * c + j) (N := 7200) (v := ((so (Cp R c j) : Nat) : Int)) rfl rfl (rfl) (by omega) ((up2_ne (by omega)).trans ((up2_ne (by omega)).trans (((I2 _ _ (by omega) (by omega)).trans (MR_134 hM hcc (by omega) (by omega)))))) ?_
        refine E_s (p' := 172) (st' := aI 1 :: _) rfl rfl ?_
        refine E_icmp_ne (x := ((so (Cp R c j) : Nat) : Int)) (y := 1) rfl (by decide) (fun h_3 => ?_) (fun h_3 => ?_)
        · refine E_go (p' := 184) (L' := [some (aA 124), some (aI ((60 * i + c : Nat) : Int)), some (aI ((ht (Cp R c j) : Nat) : Int)), some (aI ((1800 * i + 30 * c + j : Nat) : Int)), some (aI 0)]) (st' := [aI (((clm R c j).length : Nat) : Int), aA 143]) rfl rfl rfl ?_
          refine E_s (p' := 185) (st' := aI 1 :: _) rfl rfl ?_
          refine E_ast (e := (clm R c j).length) (N := 30) rfl rfl (rfl) (by omega) ?_
          refine E_s (p' := 187) (st' := aA 124 :: _) rfl rfl ?_
          refine E_s (p' := 188) (st' := aA 124 :: _) rfl rfl ?_
          refine E_gI (v := (((clm R c j).length : Nat) : Int)) rfl rfl rfl rfl ((up2_ne (by omega)).trans ((up2_ne (by omega)).trans ((up2_ne (by omega)).trans (hI.1)))) ?_
          refine E_s (p' := 192) (st' := aI 1 :: _) rfl rfl ?_
          refine E_add (v := (((clm R c j).length + 1 : Nat) : Int)) rfl (by omega) (by omega) ?_
          refine E_pI rfl rfl rfl rfl (Or.inl rfl) ?_
          refine E_inc (x := ((1800 * i + 30 * c + j : Nat) : Int)) (w := ((1800 * i + 30 * c + j + 1 : Nat) : Int)) (L' := [some (aA 124), some (aI ((60 * i + c : Nat) : Int)), some (aI ((ht (Cp R c j) : Nat) : Int)), some (aI ((1800 * i + 30 * c + j + 1 : Nat) : Int)), some (aI 0)]) rfl rfl rfl (by omega) (by omega) rfl ?_
          refine E_s (p' := 12) rfl rfl ?_
          have ej0 : j = 0 := by omega
          subst ej0
          have ecl : clm R c (0) = cls R c (0) := rfl
          have ebg : beg R c (0) = 0 := rfl
          have hlz : (cls R c (0) ++ [clx R c (0)]).length = (cls R c (0)).length + 1 := by rw [List.length_append]; rfl
          rw [ecl]
          rw [ecl] at hI
          refine ih (0 + 1) _ _ _ (by omega) (by omega) ?_ (fun x hx => ?_) (fun b z g1 g2 => ((up2_o (by omega)).trans ((up2_o (by omega)).trans ((up2_o (by omega)).trans (up2_o (by omega))))).trans (I2 b z g1 g2))
          · show CLm (cls R c (0) ++ [clx R c (0)]) _
            refine ⟨up2_eq.trans (by rw [hlz]), fun x hx => ?_⟩
            by_cases g : x = (cls R c (0)).length
            · subst g
              rw [g3_r]
              refine ⟨((up2_ne (by omega)).trans ((up2_ne (by omega)).trans ((up2_ne (by omega)).trans (up2_eq)))).trans ?_, ((up2_ne (by omega)).trans ((up2_ne (by omega)).trans (up2_eq))), ((up2_ne (by omega)).trans (up2_eq)).trans ?_⟩
              · show _ = (clp R c (0) : Int)
                unfold clp; rw [ebg]; omega
              · show _ = (clw R c (0) : Int)
                unfold clw; rw [ebg]
                split
                · omega
                · split <;> omega
            · rw [g3_l (by omega)]
              obtain ⟨k1, k2, k3⟩ := hI.2 x (by omega)
              exact ⟨((up2_o (by omega)).trans ((up2_o (by omega)).trans ((up2_o (by omega)).trans (up2_o (by omega))))).trans k1, ((up2_o (by omega)).trans ((up2_o (by omega)).trans ((up2_o (by omega)).trans (up2_o (by omega))))).trans k2, ((up2_o (by omega)).trans ((up2_o (by omega)).trans ((up2_o (by omega)).trans (up2_o (by omega))))).trans k3⟩
          · have ex : x = 0 := by omega
            rw [ex, ebg]
        · refine E_go (p' := 175) (L' := [some (aA 124), some (aI ((60 * i + c : Nat) : Int)), some (aI ((ht (Cp R c j) : Nat) : Int)), some (aI ((1800 * i + 30 * c + j : Nat) : Int)), some (aI 0)]) (st' := [aI (((clm R c j).length : Nat) : Int), aA 143]) rfl rfl rfl ?_
          refine E_s (p' := 176) (st' := aA 124 :: _) rfl rfl ?_
          refine E_gA (b := 135) rfl rfl rfl rfl rfl rfl ?_
          refine E_s (p' := 180) (st' := aI ((1800 * i + 30 * c + j : Nat) : Int) :: _) rfl rfl ?_
          refine E_ald (e := 1800 * i + 30 * c + j) (N := 7200) (v := ((tu (Cp R c j) : Nat) : Int)) rfl rfl (rfl) (by omega) ((up2_ne (by omega)).trans ((up2_ne (by omega)).trans (((I2 _ _ (by omega) (by omega)).trans (MR_135 hM hcc (by omega) (by omega)))))) ?_
          refine E_s (p' := 185) rfl rfl ?_
          refine E_ast (e := (clm R c j).length) (N := 30) rfl rfl (rfl) (by omega) ?_
          refine E_s (p' := 187) (st' := aA 124 :: _) rfl rfl ?_
          refine E_s (p' := 188) (st' := aA 124 :: _) rfl rfl ?_
          refine E_gI (v := (((clm R c j).length : Nat) : Int)) rfl rfl rfl rfl ((up2_ne (by omega)).trans ((up2_ne (by omega)).trans ((up2_ne (by omega)).trans (hI.1)))) ?_
          refine E_s (p' := 192) (st' := aI 1 :: _) rfl rfl ?_
          refine E_add (v := (((clm R c j).length + 1 : Nat) : Int)) rfl (by omega) (by omega) ?_
          refine E_pI rfl rfl rfl rfl (Or.inl rfl) ?_
          refine E_inc (x := ((1800 * i + 30 * c + j : Nat) : Int)) (w := ((1800 * i + 30 * c + j + 1 : Nat) : Int)) (L' := [some (aA 124), some (aI ((60 * i + c : Nat) : Int)), some (aI ((ht (Cp R c j) : Nat) : Int)), some (aI ((1800 * i + 30 * c + j + 1 : Nat) : Int)), some (aI 0)]) rfl rfl rfl (by omega) (by omega) rfl ?_
          refine E_s (p' := 12) rfl rfl ?_
          have ej0 : j = 0 := by omega
          subst ej0
          have ecl : clm R c (0) = cls R c (0) := rfl
          have ebg : beg R c (0) = 0 := rfl
          have hlz : (cls R c (0) ++ [clx R c (0)]).length = (cls R c (0)).length + 1 := by rw [List.length_append]; rfl
          rw [ecl]
          rw [ecl] at hI
          refine ih (0 + 1) _ _ _ (by omega) (by omega) ?_ (fun x hx => ?_) (fun b z g1 g2 => ((up2_o (by omega)).trans ((up2_o (by omega)).trans ((up2_o (by omega)).trans (up2_o (by omega))))).trans (I2 b z g1 g2))
          · show CLm (cls R c (0) ++ [clx R c (0)]) _
            refine ⟨up2_eq.trans (by rw [hlz]), fun x hx => ?_⟩
            by_cases g : x = (cls R c (0)).length
            · subst g
              rw [g3_r]
              refine ⟨((up2_ne (by omega)).trans ((up2_ne (by omega)).trans ((up2_ne (by omega)).trans (up2_eq)))).trans ?_, ((up2_ne (by omega)).trans ((up2_ne (by omega)).trans (up2_eq))), ((up2_ne (by omega)).trans (up2_eq)).trans ?_⟩
              · show _ = (clp R c (0) : Int)
                unfold clp; rw [ebg]; omega
              · show _ = (clw R c (0) : Int)
                unfold clw; rw [ebg]
                split
                · omega
                · split <;> omega
            · rw [g3_l (by omega)]
              obtain ⟨k1, k2, k3⟩ := hI.2 x (by omega)
              exact ⟨((up2_o (by omega)).trans ((up2_o (by omega)).trans ((up2_o (by omega)).trans (up2_o (by omega))))).trans k1, ((up2_o (by omega)).trans ((up2_o (by omega)).trans ((up2_o (by omega)).trans (up2_o (by omega))))).trans k2, ((up2_o (by omega)).trans ((up2_o (by omega)).trans ((up2_o (by omega)).trans (up2_o (by omega))))).trans k3⟩
          · have ex : x = 0 := by omega
            rw [ex, ebg]
      · refine E_go (p' := 35) (L' := [some (aA 124), some (aI ((60 * i + c : Nat) : Int)), some (aI ((fst : Nat) : Int)), some (aI ((1800 * i + 30 * c + j : Nat) : Int)), x4]) (st' := []) rfl rfl rfl ?_
        obtain ⟨jp, ej⟩ : ∃ x, j = x + 1 := ⟨j - 1, by omega⟩
        subst ej
        have hfs := hf jp rfl
        have hln : (clm R c (jp + 1)).length = (cls R c jp).length + 1 := by show (_ ++ [_]).length = _; rw [List.length_append]; rfl
        have hl3 := cls_len R c jp
        have hwj := clw_b hV hcc (show jp < Ck R c by omega)
        have pkn := pk3 (jp + 1) (by omega)
        have pkp := pk3 jp (by omega)
        have pkb := pk3 (beg R c jp) (by have := beg_le R c jp; omega)
        refine E_s (p' := 36) (st' := aA 124 :: _) rfl rfl ?_
        refine E_gA (b := 134) rfl rfl rfl rfl rfl rfl ?_
        refine E_s (p' := 40) (st' := aI ((1800 * i + 30 * c + jp + 1 : Nat) : Int) :: _) rfl rfl ?_
        refine E_ald (e := 1800 * i + 30 * c + jp + 1) (N := 7200) (v := ((so (Cp R c (jp + 1)) : Nat) : Int)) rfl rfl (rfl) (by omega) ((I2 _ _ (by omega) (by omega)).trans (MR_134 hM hcc (by omega) (by omega))) ?_
        refine E_if_ne (x := ((so (Cp R c (jp + 1)) : Nat) : Int)) rfl (by decide) (fun h_4 => ?_) (fun h_4 => ?_)
        · refine E_go (p' := 78) (L' := [some (aA 124), some (aI ((60 * i + c : Nat) : Int)), some (aI ((fst : Nat) : Int)), some (aI ((1800 * i + 30 * c + jp + 1 : Nat) : Int)), x4]) (st' := []) rfl rfl rfl ?_
          refine E_s (p' := 79) (st' := aI 0 :: _) rfl rfl ?_
          refine E_s (p' := 81) (L' := [some (aA 124), some (aI ((60 * i + c : Nat) : Int)), some (aI ((fst : Nat) : Int)), some (aI ((1800 * i + 30 * c + jp + 1 : Nat) : Int)), some (aI 0)]) rfl rfl ?_
          refine E_s (p' := 83) (st' := aI 0 :: _) rfl rfl ?_
          refine E_s (p' := 125) rfl rfl ?_
          refine E_s (p' := 126) (st' := aA 124 :: _) rfl rfl ?_
          refine E_gA (b := 133) rfl rfl rfl rfl rfl rfl ?_
          refine E_s (p' := 130) (st' := aI ((1800 * i + 30 * c + jp + 1 : Nat) : Int) :: _) rfl rfl ?_
          refine E_ald (e := 1800 * i + 30 * c + jp + 1) (N := 7200) (v := ((ht (Cp R c (jp + 1)) : Nat) : Int)) rfl rfl (rfl) (by omega) ((I2 _ _ (by omega) (by omega)).trans (MR_133 hM hcc (by omega) (by omega))) ?_
          refine E_s (p' := 132) (L' := [some (aA 124), some (aI ((60 * i + c : Nat) : Int)), some (aI ((ht (Cp R c (jp + 1)) : Nat) : Int)), some (aI ((1800 * i + 30 * c + jp + 1 : Nat) : Int)), some (aI 0)]) rfl rfl ?_
          refine E_s (p' := 133) (st' := aA 124 :: _) rfl rfl ?_
          refine E_gA (b := 141) rfl rfl rfl rfl rfl rfl ?_
          refine E_s (p' := 137) (st' := aA 124 :: _) rfl rfl ?_
          refine E_gI (v := (((clm R c (jp + 1)).length : Nat) : Int)) rfl rfl rfl rfl hI.1 ?_
          refine E_s (p' := 141) (st' := aI ((ht (Cp R c (jp + 1)) : Nat) : Int) :: _) rfl rfl ?_
          refine E_ast (e := (clm R c (jp + 1)).length) (N := 30) rfl rfl (rfl) (by omega) ?_
          refine E_s (p' := 143) (st' := aA 124 :: _) rfl rfl ?_
          refine E_gA (b := 142) rfl rfl rfl rfl rfl rfl ?_
          refine E_s (p' := 147) (st' := aA 124 :: _) rfl rfl ?_
          refine E_gI (v := (((clm R c (jp + 1)).length : Nat) : Int)) rfl rfl rfl rfl ((up2_ne (by omega)).trans (hI.1)) ?_
          refine E_s (p' := 151) (st' := aA 124 :: _) rfl rfl ?_
          refine E_gA (b := 134) rfl rfl rfl rfl rfl rfl ?_
          refine E_s (p' := 155) (st' := aI ((1800 * i + 30 * c + jp + 1 : Nat) : Int) :: _) rfl rfl ?_
          refine E_ald (e := 1800 * i + 30 * c + jp + 1) (N := 7200) (v := ((so (Cp R c (jp + 1)) : Nat) : Int)) rfl rfl (rfl) (by omega) ((up2_ne (by omega)).trans (((I2 _ _ (by omega) (by omega)).trans (MR_134 hM hcc (by omega) (by omega))))) ?_
          refine E_ast (e := (clm R c (jp + 1)).length) (N := 30) rfl rfl (rfl) (by omega) ?_
          refine E_s (p' := 158) (st' := aA 124 :: _) rfl rfl ?_
          refine E_gA (b := 143) rfl rfl rfl rfl rfl rfl ?_
          refine E_s (p' := 162) (st' := aA 124 :: _) rfl rfl ?_
          refine E_gI (v := (((clm R c (jp + 1)).length : Nat) : Int)) rfl rfl rfl rfl ((up2_ne (by omega)).trans ((up2_ne (by omega)).trans (hI.1))) ?_
          refine E_s (p' := 166) (st' := aA 124 :: _) rfl rfl ?_
          refine E_gA (b := 134) rfl rfl rfl rfl rfl rfl ?_
          refine E_s (p' := 170) (st' := aI ((1800 * i + 30 * c + jp + 1 : Nat) : Int) :: _) rfl rfl ?_
          refine E_ald (e := 1800 * i + 30 * c + jp + 1) (N := 7200) (v := ((so (Cp R c (jp + 1)) : Nat) : Int)) rfl rfl (rfl) (by omega) ((up2_ne (by omega)).trans ((up2_ne (by omega)).trans (((I2 _ _ (by omega) (by omega)).trans (MR_134 hM hcc (by omega) (by omega)))))) ?_
          refine E_s (p' := 172) (st' := aI 1 :: _) rfl rfl ?_
          refine E_icmp_ne (x := ((so (Cp R c (jp + 1)) : Nat) : Int)) (y := 1) rfl (by decide) (fun h_5 => ?_) (fun h_5 => ?_)
          · refine E_go (p' := 184) (L' := [some (aA 124), some (aI ((60 * i + c : Nat) : Int)), some (aI ((ht (Cp R c (jp + 1)) : Nat) : Int)), some (aI ((1800 * i + 30 * c + jp + 1 : Nat) : Int)), some (aI 0)]) (st' := [aI (((clm R c (jp + 1)).length : Nat) : Int), aA 143]) rfl rfl rfl ?_
            refine E_s (p' := 185) (st' := aI 1 :: _) rfl rfl ?_
            refine E_ast (e := (clm R c (jp + 1)).length) (N := 30) rfl rfl (rfl) (by omega) ?_
            refine E_s (p' := 187) (st' := aA 124 :: _) rfl rfl ?_
            refine E_s (p' := 188) (st' := aA 124 :: _) rfl rfl ?_
            refine E_gI (v := (((clm R c (jp + 1)).length : Nat) : Int)) rfl rfl rfl rfl ((up2_ne (by omega)).trans ((up2_ne (by omega)).trans ((up2_ne (by omega)).trans (hI.1)))) ?_
            refine E_s (p' := 192) (st' := aI 1 :: _) rfl rfl ?_
            refine E_add (v := (((clm R c (jp + 1)).length + 1 : Nat) : Int)) rfl (by omega) (by omega) ?_
            refine E_pI rfl rfl rfl rfl (Or.inl rfl) ?_
            refine E_inc (x := ((1800 * i + 30 * c + jp + 1 : Nat) : Int)) (w := ((1800 * i + 30 * c + jp + 2 : Nat) : Int)) (L' := [some (aA 124), some (aI ((60 * i + c : Nat) : Int)), some (aI ((ht (Cp R c (jp + 1)) : Nat) : Int)), some (aI ((1800 * i + 30 * c + jp + 2 : Nat) : Int)), some (aI 0)]) rfl rfl rfl (by omega) (by omega) rfl ?_
            refine E_s (p' := 12) rfl rfl ?_
            have he : ends R c jp = true := ends_n (by omega)
            have ecl : clm R c (jp + 1) = cls R c (jp + 1) := (by show cls R c jp ++ [clx R c jp] = cls R c (jp + 1); rw [cls_t he]; rfl)
            have ebg : beg R c (jp + 1) = jp + 1 := beg_t he
            have hlz : (cls R c (jp + 1) ++ [clx R c (jp + 1)]).length = (cls R c (jp + 1)).length + 1 := by rw [List.length_append]; rfl
            rw [ecl]
            rw [ecl] at hI
            refine ih (jp + 1 + 1) _ _ _ (by omega) (by omega) ?_ (fun x hx => ?_) (fun b z g1 g2 => ((up2_o (by omega)).trans ((up2_o (by omega)).trans ((up2_o (by omega)).trans (up2_o (by omega))))).trans (I2 b z g1 g2))
            · show CLm (cls R c (jp + 1) ++ [clx R c (jp + 1)]) _
              refine ⟨up2_eq.trans (by rw [hlz]), fun x hx => ?_⟩
              by_cases g : x = (cls R c (jp + 1)).length
              · subst g
                rw [g3_r]
                refine ⟨((up2_ne (by omega)).trans ((up2_ne (by omega)).trans ((up2_ne (by omega)).trans (up2_eq)))).trans ?_, ((up2_ne (by omega)).trans ((up2_ne (by omega)).trans (up2_eq))), ((up2_ne (by omega)).trans (up2_eq)).trans ?_⟩
                · show _ = (clp R c (jp + 1) : Int)
                  unfold clp; rw [ebg]; omega
                · show _ = (clw R c (jp + 1) : Int)
                  unfold clw; rw [ebg]
                  split
                  · omega
                  · split <;> omega
              · rw [g3_l (by omega)]
                obtain ⟨k1, k2, k3⟩ := hI.2 x (by omega)
                exact ⟨((up2_o (by omega)).trans ((up2_o (by omega)).trans ((up2_o (by omega)).trans (up2_o (by omega))))).trans k1, ((up2_o (by omega)).trans ((up2_o (by omega)).trans ((up2_o (by omega)).trans (up2_o (by omega))))).trans k2, ((up2_o (by omega)).trans ((up2_o (by omega)).trans ((up2_o (by omega)).trans (up2_o (by omega))))).trans k3⟩
            · have ex : x = jp + 1 := by omega
              rw [ex, ebg]
          · refine E_go (p' := 175) (L' := [some (aA 124), some (aI ((60 * i + c : Nat) : Int)), some (aI ((ht (Cp R c (jp + 1)) : Nat) : Int)), some (aI ((1800 * i + 30 * c + jp + 1 : Nat) : Int)), some (aI 0)]) (st' := [aI (((clm R c (jp + 1)).length : Nat) : Int), aA 143]) rfl rfl rfl ?_
            refine E_s (p' := 176) (st' := aA 124 :: _) rfl rfl ?_
            refine E_gA (b := 135) rfl rfl rfl rfl rfl rfl ?_
            refine E_s (p' := 180) (st' := aI ((1800 * i + 30 * c + jp + 1 : Nat) : Int) :: _) rfl rfl ?_
            refine E_ald (e := 1800 * i + 30 * c + jp + 1) (N := 7200) (v := ((tu (Cp R c (jp + 1)) : Nat) : Int)) rfl rfl (rfl) (by omega) ((up2_ne (by omega)).trans ((up2_ne (by omega)).trans (((I2 _ _ (by omega) (by omega)).trans (MR_135 hM hcc (by omega) (by omega)))))) ?_
            refine E_s (p' := 185) rfl rfl ?_
            refine E_ast (e := (clm R c (jp + 1)).length) (N := 30) rfl rfl (rfl) (by omega) ?_
            refine E_s (p' := 187) (st' := aA 124 :: _) rfl rfl ?_
            refine E_s (p' := 188) (st' := aA 124 :: _) rfl rfl ?_
            refine E_gI (v := (((clm R c (jp + 1)).length : Nat) : Int)) rfl rfl rfl rfl ((up2_ne (by omega)).trans ((up2_ne (by omega)).trans ((up2_ne (by omega)).trans (hI.1)))) ?_
            refine E_s (p' := 192) (st' := aI 1 :: _) rfl rfl ?_
            refine E_add (v := (((clm R c (jp + 1)).length + 1 : Nat) : Int)) rfl (by omega) (by omega) ?_
            refine E_pI rfl rfl rfl rfl (Or.inl rfl) ?_
            refine E_inc (x := ((1800 * i + 30 * c + jp + 1 : Nat) : Int)) (w := ((1800 * i + 30 * c + jp + 2 : Nat) : Int)) (L' := [some (aA 124), some (aI ((60 * i + c : Nat) : Int)), some (aI ((ht (Cp R c (jp + 1)) : Nat) : Int)), some (aI ((1800 * i + 30 * c + jp + 2 : Nat) : Int)), some (aI 0)]) rfl rfl rfl (by omega) (by omega) rfl ?_
            refine E_s (p' := 12) rfl rfl ?_
            have he : ends R c jp = true := ends_n (by omega)
            have ecl : clm R c (jp + 1) = cls R c (jp + 1) := (by show cls R c jp ++ [clx R c jp] = cls R c (jp + 1); rw [cls_t he]; rfl)
            have ebg : beg R c (jp + 1) = jp + 1 := beg_t he
            have hlz : (cls R c (jp + 1) ++ [clx R c (jp + 1)]).length = (cls R c (jp + 1)).length + 1 := by rw [List.length_append]; rfl
            rw [ecl]
            rw [ecl] at hI
            refine ih (jp + 1 + 1) _ _ _ (by omega) (by omega) ?_ (fun x hx => ?_) (fun b z g1 g2 => ((up2_o (by omega)).trans ((up2_o (by omega)).trans ((up2_o (by omega)).trans (up2_o (by omega))))).trans (I2 b z g1 g2))
            · show CLm (cls R c (jp + 1) ++ [clx R c (jp + 1)]) _
              refine ⟨up2_eq.trans (by rw [hlz]), fun x hx => ?_⟩
              by_cases g : x = (cls R c (jp + 1)).length
              · subst g
                rw [g3_r]
                refine ⟨((up2_ne (by omega)).trans ((up2_ne (by omega)).trans ((up2_ne (by omega)).trans (up2_eq)))).trans ?_, ((up2_ne (by omega)).trans ((up2_ne (by omega)).trans (up2_eq))), ((up2_ne (by omega)).trans (up2_eq)).trans ?_⟩
                · show _ = (clp R c (jp + 1) : Int)
                  unfold clp; rw [ebg]; omega
                · show _ = (clw R c (jp + 1) : Int)
                  unfold clw; rw [ebg]
                  split
                  · omega
                  · split <;> omega
              · rw [g3_l (by omega)]
                obtain ⟨k1, k2, k3⟩ := hI.2 x (by omega)
                exact ⟨((up2_o (by omega)).trans ((up2_o (by omega)).trans ((up2_o (by omega)).trans (up2_o (by omega))))).trans k1, ((up2_o (by omega)).trans ((up2_o (by omega)).trans ((up2_o (by omega)).trans (up2_o (by omega))))).trans k2, ((up2_o (by omega)).trans ((up2_o (by omega)).trans ((up2_o (by omega)).trans (up2_o (by omega))))).trans k3⟩
            · have ex : x = jp + 1 := by omega
              rw [ex, ebg]
        · refine E_go (p' := 44) (L' := [some (aA 124), some (aI ((60 * i + c : Nat) : Int)), some (aI ((fst : Nat) : Int)), some (aI ((1800 * i + 30 * c + jp + 1 : Nat) : Int)), x4]) (st' := []) rfl rfl rfl ?_
          refine E_s (p' := 45) (st' := aA 124 :: _) rfl rfl ?_
          refine E_gA (b := 134) rfl rfl rfl rfl rfl rfl ?_
          refine E_s (p' := 49) (st' := aI ((1800 * i + 30 * c + jp + 1 : Nat) : Int) :: _) rfl rfl ?_
          refine E_s (p' := 50) (st' := aI 1 :: _) rfl rfl ?_
          refine E_sub (v := ((1800 * i + 30 * c + jp : Nat) : Int)) rfl (by omega) (by omega) ?_
          refine E_ald (e := 1800 * i + 30 * c + jp) (N := 7200) (v := ((so (Cp R c jp) : Nat) : Int)) rfl rfl (rfl) (by omega) ((I2 _ _ (by omega) (by omega)).trans (MR_134 hM hcc (by omega) (by omega))) ?_
          refine E_if_ne (x := ((so (Cp R c jp) : Nat) : Int)) rfl (by decide) (fun h_6 => ?_) (fun h_6 => ?_)
          · refine E_go (p' := 78) (L' := [some (aA 124), some (aI ((60 * i + c : Nat) : Int)), some (aI ((fst : Nat) : Int)), some (aI ((1800 * i + 30 * c + jp + 1 : Nat) : Int)), x4]) (st' := []) rfl rfl rfl ?_
            refine E_s (p' := 79) (st' := aI 0 :: _) rfl rfl ?_
            refine E_s (p' := 81) (L' := [some (aA 124), some (aI ((60 * i + c : Nat) : Int)), some (aI ((fst : Nat) : Int)), some (aI ((1800 * i + 30 * c + jp + 1 : Nat) : Int)), some (aI 0)]) rfl rfl ?_
            refine E_s (p' := 83) (st' := aI 0 :: _) rfl rfl ?_
            refine E_s (p' := 125) rfl rfl ?_
            refine E_s (p' := 126) (st' := aA 124 :: _) rfl rfl ?_
            refine E_gA (b := 133) rfl rfl rfl rfl rfl rfl ?_
            refine E_s (p' := 130) (st' := aI ((1800 * i + 30 * c + jp + 1 : Nat) : Int) :: _) rfl rfl ?_
            refine E_ald (e := 1800 * i + 30 * c + jp + 1) (N := 7200) (v := ((ht (Cp R c (jp + 1)) : Nat) : Int)) rfl rfl (rfl) (by omega) ((I2 _ _ (by omega) (by omega)).trans (MR_133 hM hcc (by omega) (by omega))) ?_
            refine E_s (p' := 132) (L' := [some (aA 124), some (aI ((60 * i + c : Nat) : Int)), some (aI ((ht (Cp R c (jp + 1)) : Nat) : Int)), some (aI ((1800 * i + 30 * c + jp + 1 : Nat) : Int)), some (aI 0)]) rfl rfl ?_
            refine E_s (p' := 133) (st' := aA 124 :: _) rfl rfl ?_
            refine E_gA (b := 141) rfl rfl rfl rfl rfl rfl ?_
            refine E_s (p' := 137) (st' := aA 124 :: _) rfl rfl ?_
            refine E_gI (v := (((clm R c (jp + 1)).length : Nat) : Int)) rfl rfl rfl rfl hI.1 ?_
            refine E_s (p' := 141) (st' := aI ((ht (Cp R c (jp + 1)) : Nat) : Int) :: _) rfl rfl ?_
            refine E_ast (e := (clm R c (jp + 1)).length) (N := 30) rfl rfl (rfl) (by omega) ?_
            refine E_s (p' := 143) (st' := aA 124 :: _) rfl rfl ?_
            refine E_gA (b := 142) rfl rfl rfl rfl rfl rfl ?_
            refine E_s (p' := 147) (st' := aA 124 :: _) rfl rfl ?_
            refine E_gI (v := (((clm R c (jp + 1)).length : Nat) : Int)) rfl rfl rfl rfl ((up2_ne (by omega)).trans (hI.1)) ?_
            refine E_s (p' := 151) (st' := aA 124 :: _) rfl rfl ?_
            refine E_gA (b := 134) rfl rfl rfl rfl rfl rfl ?_
            refine E_s (p' := 155) (st' := aI ((1800 * i + 30 * c + jp + 1 : Nat) : Int) :: _) rfl rfl ?_
            refine E_ald (e := 1800 * i + 30 * c + jp + 1) (N := 7200) (v := ((so (Cp R c (jp + 1)) : Nat) : Int)) rfl rfl (rfl) (by omega) ((up2_ne (by omega)).trans (((I2 _ _ (by omega) (by omega)).trans (MR_134 hM hcc (by omega) (by omega))))) ?_
            refine E_ast (e := (clm R c (jp + 1)).length) (N := 30) rfl rfl (rfl) (by omega) ?_
            refine E_s (p' := 158) (st' := aA 124 :: _) rfl rfl ?_
            refine E_gA (b := 143) rfl rfl rfl rfl rfl rfl ?_
            refine E_s (p' := 162) (st' := aA 124 :: _) rfl rfl ?_
            refine E_gI (v := (((clm R c (jp + 1)).length : Nat) : Int)) rfl rfl rfl rfl ((up2_ne (by omega)).trans ((up2_ne (by omega)).trans (hI.1))) ?_
            refine E_s (p' := 166) (st' := aA 124 :: _) rfl rfl ?_
            refine E_gA (b := 134) rfl rfl rfl rfl rfl rfl ?_
            refine E_s (p' := 170) (st' := aI ((1800 * i + 30 * c + jp + 1 : Nat) : Int) :: _) rfl rfl ?_
            refine E_ald (e := 1800 * i + 30 * c + jp + 1) (N := 7200) (v := ((so (Cp R c (jp + 1)) : Nat) : Int)) rfl rfl (rfl) (by omega) ((up2_ne (by omega)).trans ((up2_ne (by omega)).trans (((I2 _ _ (by omega) (by omega)).trans (MR_134 hM hcc (by omega) (by omega)))))) ?_
            refine E_s (p' := 172) (st' := aI 1 :: _) rfl rfl ?_
            refine E_icmp_ne (x := ((so (Cp R c (jp + 1)) : Nat) : Int)) (y := 1) rfl (by decide) (fun h_7 => ?_) (fun h_7 => ?_)
            · refine E_go (p' := 184) (L' := [some (aA 124), some (aI ((60 * i + c : Nat) : Int)), some (aI ((ht (Cp R c (jp + 1)) : Nat) : Int)), some (aI ((1800 * i + 30 * c + jp + 1 : Nat) : Int)), some (aI 0)]) (st' := [aI (((clm R c (jp + 1)).length : Nat) : Int), aA 143]) rfl rfl rfl ?_
              refine E_s (p' := 185) (st' := aI 1 :: _) rfl rfl ?_
              refine E_ast (e := (clm R c (jp + 1)).length) (N := 30) rfl rfl (rfl) (by omega) ?_
              refine E_s (p' := 187) (st' := aA 124 :: _) rfl rfl ?_
              refine E_s (p' := 188) (st' := aA 124 :: _) rfl rfl ?_
              refine E_gI (v := (((clm R c (jp + 1)).length : Nat) : Int)) rfl rfl rfl rfl ((up2_ne (by omega)).trans ((up2_ne (by omega)).trans ((up2_ne (by omega)).trans (hI.1)))) ?_
              refine E_s (p' := 192) (st' := aI 1 :: _) rfl rfl ?_
              refine E_add (v := (((clm R c (jp + 1)).length + 1 : Nat) : Int)) rfl (by omega) (by omega) ?_
              refine E_pI rfl rfl rfl rfl (Or.inl rfl) ?_
              refine E_inc (x := ((1800 * i + 30 * c + jp + 1 : Nat) : Int)) (w := ((1800 * i + 30 * c + jp + 2 : Nat) : Int)) (L' := [some (aA 124), some (aI ((60 * i + c : Nat) : Int)), some (aI ((ht (Cp R c (jp + 1)) : Nat) : Int)), some (aI ((1800 * i + 30 * c + jp + 2 : Nat) : Int)), some (aI 0)]) rfl rfl rfl (by omega) (by omega) rfl ?_
              refine E_s (p' := 12) rfl rfl ?_
              have he : ends R c jp = true := ends_n (by omega)
              have ecl : clm R c (jp + 1) = cls R c (jp + 1) := (by show cls R c jp ++ [clx R c jp] = cls R c (jp + 1); rw [cls_t he]; rfl)
              have ebg : beg R c (jp + 1) = jp + 1 := beg_t he
              have hlz : (cls R c (jp + 1) ++ [clx R c (jp + 1)]).length = (cls R c (jp + 1)).length + 1 := by rw [List.length_append]; rfl
              rw [ecl]
              rw [ecl] at hI
              refine ih (jp + 1 + 1) _ _ _ (by omega) (by omega) ?_ (fun x hx => ?_) (fun b z g1 g2 => ((up2_o (by omega)).trans ((up2_o (by omega)).trans ((up2_o (by omega)).trans (up2_o (by omega))))).trans (I2 b z g1 g2))
              · show CLm (cls R c (jp + 1) ++ [clx R c (jp + 1)]) _
                refine ⟨up2_eq.trans (by rw [hlz]), fun x hx => ?_⟩
                by_cases g : x = (cls R c (jp + 1)).length
                · subst g
                  rw [g3_r]
                  refine ⟨((up2_ne (by omega)).trans ((up2_ne (by omega)).trans ((up2_ne (by omega)).trans (up2_eq)))).trans ?_, ((up2_ne (by omega)).trans ((up2_ne (by omega)).trans (up2_eq))), ((up2_ne (by omega)).trans (up2_eq)).trans ?_⟩
                  · show _ = (clp R c (jp + 1) : Int)
                    unfold clp; rw [ebg]; omega
                  · show _ = (clw R c (jp + 1) : Int)
                    unfold clw; rw [ebg]
                    split
                    · omega
                    · split <;> omega
                · rw [g3_l (by omega)]
                  obtain ⟨k1, k2, k3⟩ := hI.2 x (by omega)
                  exact ⟨((up2_o (by omega)).trans ((up2_o (by omega)).trans ((up2_o (by omega)).trans (up2_o (by omega))))).trans k1, ((up2_o (by omega)).trans ((up2_o (by omega)).trans ((up2_o (by omega)).trans (up2_o (by omega))))).trans k2, ((up2_o (by omega)).trans ((up2_o (by omega)).trans ((up2_o (by omega)).trans (up2_o (by omega))))).trans k3⟩
              · have ex : x = jp + 1 := by omega
                rw [ex, ebg]
            · refine E_go (p' := 175) (L' := [some (aA 124), some (aI ((60 * i + c : Nat) : Int)), some (aI ((ht (Cp R c (jp + 1)) : Nat) : Int)), some (aI ((1800 * i + 30 * c + jp + 1 : Nat) : Int)), some (aI 0)]) (st' := [aI (((clm R c (jp + 1)).length : Nat) : Int), aA 143]) rfl rfl rfl ?_
              refine E_s (p' := 176) (st' := aA 124 :: _) rfl rfl ?_
              refine E_gA (b := 135) rfl rfl rfl rfl rfl rfl ?_
              refine E_s (p' := 180) (st' := aI ((1800 * i + 30 * c + jp + 1 : Nat) : Int) :: _) rfl rfl ?_
              refine E_ald (e := 1800 * i + 30 * c + jp + 1) (N := 7200) (v := ((tu (Cp R c (jp + 1)) : Nat) : Int)) rfl rfl (rfl) (by omega) ((up2_ne (by omega)).trans ((up2_ne (by omega)).trans (((I2 _ _ (by omega) (by omega)).trans (MR_135 hM hcc (by omega) (by omega)))))) ?_
              refine E_s (p' := 185) rfl rfl ?_
              refine E_ast (e := (clm R c (jp + 1)).length) (N := 30) rfl rfl (rfl) (by omega) ?_
              refine E_s (p' := 187) (st' := aA 124 :: _) rfl rfl ?_
              refine E_s (p' := 188) (st' := aA 124 :: _) rfl rfl ?_
              refine E_gI (v := (((clm R c (jp + 1)).length : Nat) : Int)) rfl rfl rfl rfl ((up2_ne (by omega)).trans ((up2_ne (by omega)).trans ((up2_ne (by omega)).trans (hI.1)))) ?_
              refine E_s (p' := 192) (st' := aI 1 :: _) rfl rfl ?_
              refine E_add (v := (((clm R c (jp + 1)).length + 1 : Nat) : Int)) rfl (by omega) (by omega) ?_
              refine E_pI rfl rfl rfl rfl (Or.inl rfl) ?_
              refine E_inc (x := ((1800 * i + 30 * c + jp + 1 : Nat) : Int)) (w := ((1800 * i + 30 * c + jp + 2 : Nat) : Int)) (L' := [some (aA 124), some (aI ((60 * i + c : Nat) : Int)), some (aI ((ht (Cp R c (jp + 1)) : Nat) : Int)), some (aI ((1800 * i + 30 * c + jp + 2 : Nat) : Int)), some (aI 0)]) rfl rfl rfl (by omega) (by omega) rfl ?_
              refine E_s (p' := 12) rfl rfl ?_
              have he : ends R c jp = true := ends_n (by omega)
              have ecl : clm R c (jp + 1) = cls R c (jp + 1) := (by show cls R c jp ++ [clx R c jp] = cls R c (jp + 1); rw [cls_t he]; rfl)
              have ebg : beg R c (jp + 1) = jp + 1 := beg_t he
              have hlz : (cls R c (jp + 1) ++ [clx R c (jp + 1)]).length = (cls R c (jp + 1)).length + 1 := by rw [List.length_append]; rfl
              rw [ecl]
              rw [ecl] at hI
              refine ih (jp + 1 + 1) _ _ _ (by omega) (by omega) ?_ (fun x hx => ?_) (fun b z g1 g2 => ((up2_o (by omega)).trans ((up2_o (by omega)).trans ((up2_o (by omega)).trans (up2_o (by omega))))).trans (I2 b z g1 g2))
              · show CLm (cls R c (jp + 1) ++ [clx R c (jp + 1)]) _
                refine ⟨up2_eq.trans (by rw [hlz]), fun x hx => ?_⟩
                by_cases g : x = (cls R c (jp + 1)).length
                · subst g
                  rw [g3_r]
                  refine ⟨((up2_ne (by omega)).trans ((up2_ne (by omega)).trans ((up2_ne (by omega)).trans (up2_eq)))).trans ?_, ((up2_ne (by omega)).trans ((up2_ne (by omega)).trans (up2_eq))), ((up2_ne (by omega)).trans (up2_eq)).trans ?_⟩
                  · show _ = (clp R c (jp + 1) : Int)
                    unfold clp; rw [ebg]; omega
                  · show _ = (clw R c (jp + 1) : Int)
                    unfold clw; rw [ebg]
                    split
                    · omega
                    · split <;> omega
                · rw [g3_l (by omega)]
                  obtain ⟨k1, k2, k3⟩ := hI.2 x (by omega)
                  exact ⟨((up2_o (by omega)).trans ((up2_o (by omega)).trans ((up2_o (by omega)).trans (up2_o (by omega))))).trans k1, ((up2_o (by omega)).trans ((up2_o (by omega)).trans ((up2_o (by omega)).trans (up2_o (by omega))))).trans k2, ((up2_o (by omega)).trans ((up2_o (by omega)).trans ((up2_o (by omega)).trans (up2_o (by omega))))).trans k3⟩
              · have ex : x = jp + 1 := by omega
                rw [ex, ebg]
          · refine E_go (p' := 55) (L' := [some (aA 124), some (aI ((60 * i + c : Nat) : Int)), some (aI ((fst : Nat) : Int)), some (aI ((1800 * i + 30 * c + jp + 1 : Nat) : Int)), x4]) (st' := []) rfl rfl rfl ?_
            refine E_s (p' := 56) (st' := aA 124 :: _) rfl rfl ?_
            refine E_gA (b := 133) rfl rfl rfl rfl rfl rfl ?_
            refine E_s (p' := 60) (st' := aI ((1800 * i + 30 * c + jp + 1 : Nat) : Int) :: _) rfl rfl ?_
            refine E_ald (e := 1800 * i + 30 * c + jp + 1) (N := 7200) (v := ((ht (Cp R c (jp + 1)) : Nat) : Int)) rfl rfl (rfl) (by omega) ((I2 _ _ (by omega) (by omega)).trans (MR_133 hM hcc (by omega) (by omega))) ?_
            refine E_s (p' := 62) (st' := aA 124 :: _) rfl rfl ?_
            refine E_gA (b := 133) rfl rfl rfl rfl rfl rfl ?_
            refine E_s (p' := 66) (st' := aI ((1800 * i + 30 * c + jp + 1 : Nat) : Int) :: _) rfl rfl ?_
            refine E_s (p' := 67) (st' := aI 1 :: _) rfl rfl ?_
            refine E_sub (v := ((1800 * i + 30 * c + jp : Nat) : Int)) rfl (by omega) (by omega) ?_
            refine E_ald (e := 1800 * i + 30 * c + jp) (N := 7200) (v := ((ht (Cp R c jp) : Nat) : Int)) rfl rfl (rfl) (by omega) ((I2 _ _ (by omega) (by omega)).trans (MR_133 hM hcc (by omega) (by omega))) ?_
            refine E_sub (v := ((ht (Cp R c (jp + 1)) : Int) - (ht (Cp R c jp) : Int))) rfl (by omega) (by omega) ?_
            refine E_s (p' := 71) (st' := aI 4 :: _) rfl rfl ?_
            refine E_icmp_gt (x := ((ht (Cp R c (jp + 1)) : Int) - (ht (Cp R c jp) : Int))) (y := 4) rfl (by decide) (fun h_8 => ?_) (fun h_8 => ?_)
            · refine E_go (p' := 78) (L' := [some (aA 124), some (aI ((60 * i + c : Nat) : Int)), some (aI ((fst : Nat) : Int)), some (aI ((1800 * i + 30 * c + jp + 1 : Nat) : Int)), x4]) (st' := []) rfl rfl rfl ?_
              refine E_s (p' := 79) (st' := aI 0 :: _) rfl rfl ?_
              refine E_s (p' := 81) (L' := [some (aA 124), some (aI ((60 * i + c : Nat) : Int)), some (aI ((fst : Nat) : Int)), some (aI ((1800 * i + 30 * c + jp + 1 : Nat) : Int)), some (aI 0)]) rfl rfl ?_
              refine E_s (p' := 83) (st' := aI 0 :: _) rfl rfl ?_
              refine E_s (p' := 125) rfl rfl ?_
              refine E_s (p' := 126) (st' := aA 124 :: _) rfl rfl ?_
              refine E_gA (b := 133) rfl rfl rfl rfl rfl rfl ?_
              refine E_s (p' := 130) (st' := aI ((1800 * i + 30 * c + jp + 1 : Nat) : Int) :: _) rfl rfl ?_
              refine E_ald (e := 1800 * i + 30 * c + jp + 1) (N := 7200) (v := ((ht (Cp R c (jp + 1)) : Nat) : Int)) rfl rfl (rfl) (by omega) ((I2 _ _ (by omega) (by omega)).trans (MR_133 hM hcc (by omega) (by omega))) ?_
              refine E_s (p' := 132) (L' := [some (aA 124), some (aI ((60 * i + c : Nat) : Int)), some (aI ((ht (Cp R c (jp + 1)) : Nat) : Int)), some (aI ((1800 * i + 30 * c + jp + 1 : Nat) : Int)), some (aI 0)]) rfl rfl ?_
              refine E_s (p' := 133) (st' := aA 124 :: _) rfl rfl ?_
              refine E_gA (b := 141) rfl rfl rfl rfl rfl rfl ?_
              refine E_s (p' := 137) (st' := aA 124 :: _) rfl rfl ?_
              refine E_gI (v := (((clm R c (jp + 1)).length : Nat) : Int)) rfl rfl rfl rfl hI.1 ?_
              refine E_s (p' := 141) (st' := aI ((ht (Cp R c (jp + 1)) : Nat) : Int) :: _) rfl rfl ?_
              refine E_ast (e := (clm R c (jp + 1)).length) (N := 30) rfl rfl (rfl) (by omega) ?_
              refine E_s (p' := 143) (st' := aA 124 :: _) rfl rfl ?_
              refine E_gA (b := 142) rfl rfl rfl rfl rfl rfl ?_
              refine E_s (p' := 147) (st' := aA 124 :: _) rfl rfl ?_
              refine E_gI (v := (((clm R c (jp + 1)).length : Nat) : Int)) rfl rfl rfl rfl ((up2_ne (by omega)).trans (hI.1)) ?_
              refine E_s (p' := 151) (st' := aA 124 :: _) rfl rfl ?_
              refine E_gA (b := 134) rfl rfl rfl rfl rfl rfl ?_
              refine E_s (p' := 155) (st' := aI ((1800 * i + 30 * c + jp + 1 : Nat) : Int) :: _) rfl rfl ?_
              refine E_ald (e := 1800 * i + 30 * c + jp + 1) (N := 7200) (v := ((so (Cp R c (jp + 1)) : Nat) : Int)) rfl rfl (rfl) (by omega) ((up2_ne (by omega)).trans (((I2 _ _ (by omega) (by omega)).trans (MR_134 hM hcc (by omega) (by omega))))) ?_
              refine E_ast (e := (clm R c (jp + 1)).length) (N := 30) rfl rfl (rfl) (by omega) ?_
              refine E_s (p' := 158) (st' := aA 124 :: _) rfl rfl ?_
              refine E_gA (b := 143) rfl rfl rfl rfl rfl rfl ?_
              refine E_s (p' := 162) (st' := aA 124 :: _) rfl rfl ?_
              refine E_gI (v := (((clm R c (jp + 1)).length : Nat) : Int)) rfl rfl rfl rfl ((up2_ne (by omega)).trans ((up2_ne (by omega)).trans (hI.1))) ?_
              refine E_s (p' := 166) (st' := aA 124 :: _) rfl rfl ?_
              refine E_gA (b := 134) rfl rfl rfl rfl rfl rfl ?_
              refine E_s (p' := 170) (st' := aI ((1800 * i + 30 * c + jp + 1 : Nat) : Int) :: _) rfl rfl ?_
              refine E_ald (e := 1800 * i + 30 * c + jp + 1) (N := 7200) (v := ((so (Cp R c (jp + 1)) : Nat) : Int)) rfl rfl (rfl) (by omega) ((up2_ne (by omega)).trans ((up2_ne (by omega)).trans (((I2 _ _ (by omega) (by omega)).trans (MR_134 hM hcc (by omega) (by omega)))))) ?_
              refine E_s (p' := 172) (st' := aI 1 :: _) rfl rfl ?_
              refine E_icmp_ne (x := ((so (Cp R c (jp + 1)) : Nat) : Int)) (y := 1) rfl (by decide) (fun h_9 => ?_) (fun h_9 => ?_)
              · refine E_go (p' := 184) (L' := [some (aA 124), some (aI ((60 * i + c : Nat) : Int)), some (aI ((ht (Cp R c (jp + 1)) : Nat) : Int)), some (aI ((1800 * i + 30 * c + jp + 1 : Nat) : Int)), some (aI 0)]) (st' := [aI (((clm R c (jp + 1)).length : Nat) : Int), aA 143]) rfl rfl rfl ?_
                refine E_s (p' := 185) (st' := aI 1 :: _) rfl rfl ?_
                refine E_ast (e := (clm R c (jp + 1)).length) (N := 30) rfl rfl (rfl) (by omega) ?_
                refine E_s (p' := 187) (st' := aA 124 :: _) rfl rfl ?_
                refine E_s (p' := 188) (st' := aA 124 :: _) rfl rfl ?_
                refine E_gI (v := (((clm R c (jp + 1)).length : Nat) : Int)) rfl rfl rfl rfl ((up2_ne (by omega)).trans ((up2_ne (by omega)).trans ((up2_ne (by omega)).trans (hI.1)))) ?_
                refine E_s (p' := 192) (st' := aI 1 :: _) rfl rfl ?_
                refine E_add (v := (((clm R c (jp + 1)).length + 1 : Nat) : Int)) rfl (by omega) (by omega) ?_
                refine E_pI rfl rfl rfl rfl (Or.inl rfl) ?_
                refine E_inc (x := ((1800 * i + 30 * c + jp + 1 : Nat) : Int)) (w := ((1800 * i + 30 * c + jp + 2 : Nat) : Int)) (L' := [some (aA 124), some (aI ((60 * i + c : Nat) : Int)), some (aI ((ht (Cp R c (jp + 1)) : Nat) : Int)), some (aI ((1800 * i + 30 * c + jp + 2 : Nat) : Int)), some (aI 0)]) rfl rfl rfl (by omega) (by omega) rfl ?_
                refine E_s (p' := 12) rfl rfl ?_
                have he : ends R c jp = true := ends_n (by omega)
                have ecl : clm R c (jp + 1) = cls R c (jp + 1) := (by show cls R c jp ++ [clx R c jp] = cls R c (jp + 1); rw [cls_t he]; rfl)
                have ebg : beg R c (jp + 1) = jp + 1 := beg_t he
                have hlz : (cls R c (jp + 1) ++ [clx R c (jp + 1)]).length = (cls R c (jp + 1)).length + 1 := by rw [List.length_append]; rfl
                rw [ecl]
                rw [ecl] at hI
                refine ih (jp + 1 + 1) _ _ _ (by omega) (by omega) ?_ (fun x hx => ?_) (fun b z g1 g2 => ((up2_o (by omega)).trans ((up2_o (by omega)).trans ((up2_o (by omega)).trans (up2_o (by omega))))).trans (I2 b z g1 g2))
                · show CLm (cls R c (jp + 1) ++ [clx R c (jp + 1)]) _
                  refine ⟨up2_eq.trans (by rw [hlz]), fun x hx => ?_⟩
                  by_cases g : x = (cls R c (jp + 1)).length
                  · subst g
                    rw [g3_r]
                    refine ⟨((up2_ne (by omega)).trans ((up2_ne (by omega)).trans ((up2_ne (by omega)).trans (up2_eq)))).trans ?_, ((up2_ne (by omega)).trans ((up2_ne (by omega)).trans (up2_eq))), ((up2_ne (by omega)).trans (up2_eq)).trans ?_⟩
                    · show _ = (clp R c (jp + 1) : Int)
                      unfold clp; rw [ebg]; omega
                    · show _ = (clw R c (jp + 1) : Int)
                      unfold clw; rw [ebg]
                      split
                      · omega
                      · split <;> omega
                  · rw [g3_l (by omega)]
                    obtain ⟨k1, k2, k3⟩ := hI.2 x (by omega)
                    exact ⟨((up2_o (by omega)).trans ((up2_o (by omega)).trans ((up2_o (by omega)).trans (up2_o (by omega))))).trans k1, ((up2_o (by omega)).trans ((up2_o (by omega)).trans ((up2_o (by omega)).trans (up2_o (by omega))))).trans k2, ((up2_o (by omega)).trans ((up2_o (by omega)).trans ((up2_o (by omega)).trans (up2_o (by omega))))).trans k3⟩
                · have ex : x = jp + 1 := by omega
                  rw [ex, ebg]
              · refine E_go (p' := 175) (L' := [some (aA 124), some (aI ((60 * i + c : Nat) : Int)), some (aI ((ht (Cp R c (jp + 1)) : Nat) : Int)), some (aI ((1800 * i + 30 * c + jp + 1 : Nat) : Int)), some (aI 0)]) (st' := [aI (((clm R c (jp + 1)).length : Nat) : Int), aA 143]) rfl rfl rfl ?_
                refine E_s (p' := 176) (st' := aA 124 :: _) rfl rfl ?_
                refine E_gA (b := 135) rfl rfl rfl rfl rfl rfl ?_
                refine E_s (p' := 180) (st' := aI ((1800 * i + 30 * c + jp + 1 : Nat) : Int) :: _) rfl rfl ?_
                refine E_ald (e := 1800 * i + 30 * c + jp + 1) (N := 7200) (v := ((tu (Cp R c (jp + 1)) : Nat) : Int)) rfl rfl (rfl) (by omega) ((up2_ne (by omega)).trans ((up2_ne (by omega)).trans (((I2 _ _ (by omega) (by omega)).trans (MR_135 hM hcc (by omega) (by omega)))))) ?_
                refine E_s (p' := 185) rfl rfl ?_
                refine E_ast (e := (clm R c (jp + 1)).length) (N := 30) rfl rfl (rfl) (by omega) ?_
                refine E_s (p' := 187) (st' := aA 124 :: _) rfl rfl ?_
                refine E_s (p' := 188) (st' := aA 124 :: _) rfl rfl ?_
                refine E_gI (v := (((clm R c (jp + 1)).length : Nat) : Int)) rfl rfl rfl rfl ((up2_ne (by omega)).trans ((up2_ne (by omega)).trans ((up2_ne (by omega)).trans (hI.1)))) ?_
                refine E_s (p' := 192) (st' := aI 1 :: _) rfl rfl ?_
                refine E_add (v := (((clm R c (jp + 1)).length + 1 : Nat) : Int)) rfl (by omega) (by omega) ?_
                refine E_pI rfl rfl rfl rfl (Or.inl rfl) ?_
                refine E_inc (x := ((1800 * i + 30 * c + jp + 1 : Nat) : Int)) (w := ((1800 * i + 30 * c + jp + 2 : Nat) : Int)) (L' := [some (aA 124), some (aI ((60 * i + c : Nat) : Int)), some (aI ((ht (Cp R c (jp + 1)) : Nat) : Int)), some (aI ((1800 * i + 30 * c + jp + 2 : Nat) : Int)), some (aI 0)]) rfl rfl rfl (by omega) (by omega) rfl ?_
                refine E_s (p' := 12) rfl rfl ?_
                have he : ends R c jp = true := ends_n (by omega)
                have ecl : clm R c (jp + 1) = cls R c (jp + 1) := (by show cls R c jp ++ [clx R c jp] = cls R c (jp + 1); rw [cls_t he]; rfl)
                have ebg : beg R c (jp + 1) = jp + 1 := beg_t he
                have hlz : (cls R c (jp + 1) ++ [clx R c (jp + 1)]).length = (cls R c (jp + 1)).length + 1 := by rw [List.length_append]; rfl
                rw [ecl]
                rw [ecl] at hI
                refine ih (jp + 1 + 1) _ _ _ (by omega) (by omega) ?_ (fun x hx => ?_) (fun b z g1 g2 => ((up2_o (by omega)).trans ((up2_o (by omega)).trans ((up2_o (by omega)).trans (up2_o (by omega))))).trans (I2 b z g1 g2))
                · show CLm (cls R c (jp + 1) ++ [clx R c (jp + 1)]) _
                  refine ⟨up2_eq.trans (by rw [hlz]), fun x hx => ?_⟩
                  by_cases g : x = (cls R c (jp + 1)).length
                  · subst g
                    rw [g3_r]
                    refine ⟨((up2_ne (by omega)).trans ((up2_ne (by omega)).trans ((up2_ne (by omega)).trans (up2_eq)))).trans ?_, ((up2_ne (by omega)).trans ((up2_ne (by omega)).trans (up2_eq))), ((up2_ne (by omega)).trans (up2_eq)).trans ?_⟩
                    · show _ = (clp R c (jp + 1) : Int)
                      unfold clp; rw [ebg]; omega
                    · show _ = (clw R c (jp + 1) : Int)
                      unfold clw; rw [ebg]
                      split
                      · omega
                      · split <;> omega
                  · rw [g3_l (by omega)]
                    obtain ⟨k1, k2, k3⟩ := hI.2 x (by omega)
                    exact ⟨((up2_o (by omega)).trans ((up2_o (by omega)).trans ((up2_o (by omega)).trans (up2_o (by omega))))).trans k1, ((up2_o (by omega)).trans ((up2_o (by omega)).trans ((up2_o (by omega)).trans (up2_o (by omega))))).trans k2, ((up2_o (by omega)).trans ((up2_o (by omega)).trans ((up2_o (by omega)).trans (up2_o (by omega))))).trans k3⟩
                · have ex : x = jp + 1 := by omega
                  rw [ex, ebg]
            · refine E_go (p' := 74) (L' := [some (aA 124), some (aI ((60 * i + c : Nat) : Int)), some (aI ((fst : Nat) : Int)), some (aI ((1800 * i + 30 * c + jp + 1 : Nat) : Int)), x4]) (st' := []) rfl rfl rfl ?_
              refine E_s (p' := 75) (st' := aI 1 :: _) rfl rfl ?_
              refine E_s (p' := 79) rfl rfl ?_
              refine E_s (p' := 81) (L' := [some (aA 124), some (aI ((60 * i + c : Nat) : Int)), some (aI ((fst : Nat) : Int)), some (aI ((1800 * i + 30 * c + jp + 1 : Nat) : Int)), some (aI 1)]) rfl rfl ?_
              refine E_s (p' := 83) (st' := aI 1 :: _) rfl rfl ?_
              refine E_s (p' := 86) rfl rfl ?_
              refine E_s (p' := 87) (st' := aA 124 :: _) rfl rfl ?_
              refine E_gA (b := 143) rfl rfl rfl rfl rfl rfl ?_
              refine E_s (p' := 91) (st' := aA 124 :: _) rfl rfl ?_
              refine E_gI (v := (((clm R c (jp + 1)).length : Nat) : Int)) rfl rfl rfl rfl hI.1 ?_
              refine E_s (p' := 95) (st' := aI 1 :: _) rfl rfl ?_
              refine E_sub (v := (((clm R c (jp + 1)).length : Int) - 1)) rfl (by omega) (by omega) ?_
              refine E_s (p' := 97) rfl rfl ?_
              refine E_ald (e := (((clm R c (jp + 1)).length : Int) - 1).toNat) (N := 30) (v := ((clw R c jp : Nat) : Int)) rfl rfl (by omega) (by omega) (by rw [show (((clm R c (jp + 1)).length : Int) - 1).toNat = (cls R c jp).length by rw [show (clm R c (jp + 1)).length = (cls R c jp).length + 1 by show (_ ++ [_]).length = _; rw [List.length_append]; rfl]; omega, (hI.2 _ (by show _ < (_ ++ [_]).length; rw [List.length_append]; show _ < _ + 1; omega)).2.2]; show (((cls R c jp ++ [clx R c jp]).getD (cls R c jp).length (0, (0, 0))).2.2 : Int) = _; rw [g3_r]; rfl) ?_
              refine E_s (p' := 99) (st' := aI 1 :: _) rfl rfl ?_
              refine E_add (v := ((clw R c jp + 1 : Nat) : Int)) rfl (by omega) (by omega) ?_
              refine E_ast (e := (((clm R c (jp + 1)).length : Int) - 1).toNat) (N := 30) rfl rfl (by omega) (by omega) ?_
              refine E_s (p' := 102) (st' := aA 124 :: _) rfl rfl ?_
              refine E_gA (b := 141) rfl rfl rfl rfl rfl rfl ?_
              refine E_s (p' := 106) (st' := aA 124 :: _) rfl rfl ?_
              refine E_gI (v := (((clm R c (jp + 1)).length : Nat) : Int)) rfl rfl rfl rfl ((up2_ne (by omega)).trans (hI.1)) ?_
              refine E_s (p' := 110) (st' := aI 1 :: _) rfl rfl ?_
              refine E_sub (v := (((clm R c (jp + 1)).length : Int) - 1)) rfl (by omega) (by omega) ?_
              refine E_s (p' := 112) (st' := aI ((fst : Nat) : Int) :: _) rfl rfl ?_
              refine E_s (p' := 113) (st' := aA 124 :: _) rfl rfl ?_
              refine E_gA (b := 133) rfl rfl rfl rfl rfl rfl ?_
              refine E_s (p' := 117) (st' := aI ((1800 * i + 30 * c + jp + 1 : Nat) : Int) :: _) rfl rfl ?_
              refine E_ald (e := 1800 * i + 30 * c + jp + 1) (N := 7200) (v := ((ht (Cp R c (jp + 1)) : Nat) : Int)) rfl rfl (rfl) (by omega) ((up2_ne (by omega)).trans (((I2 _ _ (by omega) (by omega)).trans (MR_133 hM hcc (by omega) (by omega))))) ?_
              refine E_add (v := ((fst + ht (Cp R c (jp + 1)) : Nat) : Int)) rfl (by omega) (by omega) ?_
              refine E_s (p' := 120) (st' := aI 2 :: _) rfl rfl ?_
              refine E_div (v := (((fst + ht (Cp R c (jp + 1))) / 2 : Nat) : Int)) rfl (by omega) (by omega) (by omega) (by omega) ?_
              refine E_ast (e := (((clm R c (jp + 1)).length : Int) - 1).toNat) (N := 30) rfl rfl (by omega) (by omega) ?_
              refine E_s (p' := 196) rfl rfl ?_
              refine E_inc (x := ((1800 * i + 30 * c + jp + 1 : Nat) : Int)) (w := ((1800 * i + 30 * c + jp + 2 : Nat) : Int)) (L' := [some (aA 124), some (aI ((60 * i + c : Nat) : Int)), some (aI ((fst : Nat) : Int)), some (aI ((1800 * i + 30 * c + jp + 2 : Nat) : Int)), some (aI 1)]) rfl rfl rfl (by omega) (by omega) rfl ?_
              refine E_s (p' := 12) rfl rfl ?_
              have he := ends_g (R := R) (c := c) (j := jp) (by omega) (by omega) (by omega) (by omega)
              have eq9 : (((clm R c (jp + 1)).length : Int) - 1).toNat = (cls R c jp).length := by omega
              rw [eq9]
              refine ih (jp + 1 + 1) _ _ _ (by omega) (by omega) ?_ (fun x hx => ?_) (fun b z g1 g2 => ((up2_ne (by omega)).trans (up2_ne (by omega))).trans (I2 b z g1 g2))
              · have e2 : clm R c (jp + 1 + 1) = cls R c jp ++ [clx R c (jp + 1)] := by show cls R c (jp + 1) ++ _ = _; rw [cls_f he]
                have ew : clw R c (jp + 1) = clw R c jp + 1 := by
                  have := beg_le R c jp
                  unfold clw
                  rw [if_pos (by omega), if_pos (by omega), beg_f he]; omega
                have ep : clp R c (jp + 1) = (fst + ht (Cp R c (jp + 1))) / 2 := by unfold clp; rw [beg_f he, hfs]
                have hlz : (cls R c jp ++ [clx R c (jp + 1)]).length = (cls R c jp).length + 1 := by rw [List.length_append]; rfl
                rw [e2]
                refine ⟨((up2_ne (by omega)).trans ((up2_ne (by omega)).trans hI.1)).trans (by rw [hln, hlz]), fun x hx => ?_⟩
                by_cases g : x = (cls R c jp).length
                · subst g
                  rw [g3_r]
                  refine ⟨up2_eq.trans (by show _ = (clp R c (jp + 1) : Int); rw [ep]), ((up2_ne (by omega)).trans ((up2_ne (by omega)).trans (hI.2 _ (by omega)).2.1)).trans ?_, ((up2_ne (by omega)).trans up2_eq).trans (by show _ = (clw R c (jp + 1) : Int); rw [ew])⟩
                  show (((cls R c jp ++ [clx R c jp]).getD (cls R c jp).length (0, (0, 0))).2.1 : Int) = (so (Cp R c (jp + 1)) : Int)
                  rw [g3_r]
                  show (so (Cp R c jp) : Int) = _
                  omega
                · rw [g3_l (by omega)]
                  obtain ⟨k1, k2, k3⟩ := hI.2 x (by omega)
                  have e3 : (clm R c (jp + 1)).getD x (0, (0, 0)) = (cls R c jp).getD x (0, (0, 0)) := g3_l (by omega)
                  rw [e3] at k1 k2 k3
                  exact ⟨(up2_sl g).trans ((up2_ne (by omega)).trans k1), (up2_ne (by omega)).trans ((up2_ne (by omega)).trans k2), (up2_ne (by omega)).trans ((up2_sl g).trans k3)⟩
              · have ex : x = jp + 1 := by omega
                rw [ex, beg_f he]; exact hfs
theorem m_cluster (hi : i < 4) (hM : MR R i m0) (hV : VR R) (hcc : c < Cn R) (q : ∀ m1 : Mm, CLm (clsA R c) m1 → (∀ b z, ¬ (b = 124 ∧ z = 19) → ¬ (141 ≤ b ∧ b ≤ 143) → m1 b z = m0 b z) → Q none (m1, tl len)) : E 146 0 [some (aA 124), some (aI ((60 * i + c : Nat) : Int)), none, none, none] [] (m0, tl len) Q := by
  have hn60 := hV.1
  refine E_s (p' := 1) (st' := aA 124 :: _) rfl rfl ?_
  refine E_s (p' := 2) (st' := aI 0 :: _) rfl rfl ?_
  refine E_pI rfl rfl rfl rfl (Or.inl rfl) ?_
  refine E_s (p' := 6) (st' := aI 0 :: _) rfl rfl ?_
  refine E_s (p' := 7) (L' := [some (aA 124), some (aI ((60 * i + c : Nat) : Int)), some (aI 0), none, none]) rfl rfl ?_
  refine E_s (p' := 9) (st' := aI 30 :: _) rfl rfl ?_
  refine E_s (p' := 10) (st' := aI ((60 * i + c : Nat) : Int) :: _) rfl rfl ?_
  refine E_mul (v := ((1800 * i + 30 * c : Nat) : Int)) rfl (by omega) (by omega) ?_
  refine E_s (p' := 12) (L' := [some (aA 124), some (aI ((60 * i + c : Nat) : Int)), some (aI 0), some (aI ((1800 * i + 30 * c : Nat) : Int)), none]) rfl rfl ?_
  exact yl_cl12 hi hM hV hcc q (Ck R c + 1) 0 0 _ none (by omega) (by omega) ⟨up2_eq, fun x hx => absurd hx (Nat.not_lt_zero _)⟩ (fun x hx => absurd hx (by omega)) (fun b z g1 g2 => up2_o g1)
end
