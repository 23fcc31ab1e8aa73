/-! the model reads a RECORD -/
abbrev Cl3 : Type := Nat × (Nat × Nat)
def clx (R : RD) (c k : Nat) : Cl3 := (clp R c k, (so (Cp R c k), clw R c k))
/-- the CLUSTERS begun among the first j KNOTS -/
def clm (R : RD) (c : Nat) : Nat → List Cl3
  | 0 => []
  | j + 1 => cls R c j ++ [clx R c j]
def CLm (l : List Cl3) (m : Mm) : Prop := m 124 19 = (l.length : Int) ∧ ∀ i, i < l.length → m 141 i = ((l.getD i (0, (0, 0))).1 : Int) ∧ m 142 i = ((l.getD i (0, (0, 0))).2.1 : Int) ∧ m 143 i = ((l.getD i (0, (0, 0))).2.2 : Int)
theorem g3_l {l : List Cl3} {x : Cl3} {i : Nat} (h : i < l.length) : (l ++ [x]).getD i (0, (0, 0)) = l.getD i (0, (0, 0)) := by
  rw [List.getD_eq_getElem?_getD, List.getD_eq_getElem?_getD, List.getElem?_append_left h]
theorem g3_r {l : List Cl3} {x : Cl3} : (l ++ [x]).getD l.length (0, (0, 0)) = x := by
  rw [List.getD_eq_getElem?_getD, List.getElem?_append_right (Nat.le_refl _), Nat.sub_self]; rfl
theorem CLm.of {l : List Cl3} {m m' : Mm} (h : CLm l m) (e : ∀ b j, (b = 124 ∧ j = 19) ∨ (141 ≤ b ∧ b ≤ 143) → m' b j = m b j) : CLm l m' := by
  refine ⟨(e _ _ (Or.inl ⟨rfl, rfl⟩)).trans h.1, fun i hi => ?_⟩
  obtain ⟨h1, h2, h3⟩ := h.2 i hi
  exact ⟨(e _ _ (by omega)).trans h1, (e _ _ (by omega)).trans h2, (e _ _ (by omega)).trans h3⟩
theorem clm_A {R : RD} {c : Nat} : clm R c (Ck R c) = clsA R c := by
  unfold clsA
  cases hk : Ck R c with
  | zero => rfl
  | succ j =>
    have he : ends R c j = true := by unfold ends; rw [decide_eq_false (p := j + 1 < Ck R c) (by omega)]; simp
    rw [cls_t he]; rfl
theorem ends_g {R : RD} {c j : Nat} (hj : j + 1 < Ck R c) (h1 : so (Cp R c (j + 1)) = 0) (h2 : so (Cp R c j) = 0) (h3 : ht (Cp R c (j + 1)) ≤ ht (Cp R c j) + 4) : ends R c j = false := by
  unfold ends
  rw [decide_eq_true h2, decide_eq_true hj, decide_eq_true h1, decide_eq_true h3]; rfl
theorem ends_n {R : RD} {c j : Nat} (h : so (Cp R c (j + 1)) ≠ 0 ∨ so (Cp R c j) ≠ 0 ∨ ht (Cp R c j) + 4 < ht (Cp R c (j + 1))) : ends R c j = true := by
  unfold ends
  simp only [Bool.not_eq_true', Bool.and_eq_false_iff, decide_eq_false_iff_not]
  omega
section
variable {len : Nat} {m0 : Mm} {Q : Option AV → Sx → Prop} {R : RD} {i c : Nat}
theorem yl_cl12 (hi : i < 4) (hM : MR R i m0) (hV : VR R) (hcc : c < Cn R) (q : ∀ m1 : Mm, CLm (clsA R c) m1 → (∀ b z, ¬ (b = 124 ∧ z = 19) → ¬ (141 ≤ b ∧ b ≤ 143) → m1 b z = m0 b z) → Q none (m1, tl len)) : ∀ (d : Nat) (j fst : Nat) (m : Mm) (x4 : Option AV), (Ck R c < j + d) → (j ≤ Ck R c) → (CLm (clm R c j) m) → (∀ x, j = x + 1 → fst = ht (Cp R c (beg R c x))) → (∀ b z, ¬ (b = 124 ∧ z = 19) → ¬ (141 ≤ b ∧ b ≤ 143) → m b z = m0 b z) → E 146 12 [some (aA 124), some (aI ((60 * i + c : Nat) : Int)), some (aI ((fst : Nat) : Int)), some (aI ((1800 * i + 30 * c + j : Nat) : Int)), x4] [] (m, tl len) Q := by
  intro d
  induction d with
  | zero => intro j fst m x4 hd hj hI hf I2; omega
  | succ d ih =>
    intro j fst m x4 hd hj hI hf I2
    have hn60 := hV.1
    have hk30 := (hV.2.2.1 c hcc).2.2.2.2.2
    have hlj : (clm R c j).length ≤ j := by cases j with | zero => exact Nat.le_refl _ | succ j => show (_ ++ [_]).length ≤ _; rw [List.length_append]; have := cls_len R c j; show _ + 1 ≤ _; omega
    have pk3 : ∀ j, j < Ck R c → ht (Cp R c j) ≤ 600 ∧ so (Cp R c j) < 4 ∧ tu (Cp R c j) < 16 := fun j hj => by have := kok_lt hV hcc hj rfl; unfold ht so tu; omega
    refine E_s (p' := 13) (st' := aI ((1800 * i + 30 * c + j : Nat) : Int) :: _) rfl rfl ?_
    refine E_s (p' := 15) (st' := aI 30 :: _) rfl rfl ?_
    refine E_s (p' := 16) (st' := aI ((60 * i + c : Nat) : Int) :: _) rfl rfl ?_
    refine E_mul (v := ((1800 * i + 30 * c : Nat) : Int)) rfl (by omega) (by omega) ?_
    refine E_s (p' := 18) (st' := aA 124 :: _) rfl rfl ?_
    refine E_gA (b := 132) rfl rfl rfl rfl rfl rfl ?_
    refine E_s (p' := 22) (st' := aI ((60 * i + c : Nat) : Int) :: _) rfl rfl ?_
    refine E_ald (e := 60 * i + c) (N := 240) (v := ((Ck R c : Nat) : Int)) rfl rfl (rfl) (by omega) ((I2 _ _ (by omega) (by omega)).trans (MR_132 hM hcc rfl)) ?_
    refine E_add (v := ((1800 * i + 30 * c + Ck R c : Nat) : Int)) rfl (by omega) (by omega) ?_
    refine E_icmp_ge (x := ((1800 * i + 30 * c + j : Nat) : Int)) (y := ((1800 * i + 30 * c + Ck R c : Nat) : Int)) rfl (by decide) (fun h_1 => ?_) (fun h_1 => ?_)
    · refine E_go (p' := 202) (L' := [some (aA 124), some (aI ((60 * i + c : Nat) : Int)), some (aI ((fst : Nat) : Int)), some (aI ((1800 * i + 30 * c + j : Nat) : Int)), x4]) (st' := []) rfl rfl rfl ?_
      refine E_ret rfl rfl ?_
      have ej : j = Ck R c := by omega
      rw [ej, clm_A] at hI
      exact q m hI I2
    · refine E_go (p' := 27) (L' := [some (aA 124), some (aI ((60 * i + c : Nat) : Int)), some (aI ((fst : Nat) : Int)), some (aI ((1800 * i + 30 * c + j : Nat) : Int)), x4]) (st' := []) rfl rfl rfl ?_
      have pkj := pk3 j (by omega)
      refine E_s (p' := 28) (st' := aI ((1800 * i + 30 * c + j : Nat) : Int) :: _) rfl rfl ?_
      refine E_s (p' := 30) (st' := aI 30 :: _) rfl rfl ?_
      refine E_s (p' := 31) (st' := aI ((60 * i + c : Nat) : Int) :: _) rfl rfl ?_
      refine E_mul (v := ((1800 * i + 30 * c : Nat) : Int)) rfl (by omega) (by omega) ?_
      refine E_icmp_le (x := ((1800 * i + 30 * c + j : Nat) : Int)) (y := ((1800 * i + 30 * c : Nat) : Int)) rfl (by decide) (fun h_2 => ?_) (fun h_2 => ?_)
      · refine E_go (p' := 78) (L' := [some (aA 124), some (aI ((60 * i + c : Nat) : Int)), some (aI ((fst : Nat) : Int)), some (aI ((1800 * i + 30 * c + j : Nat) : Int)), x4]) (st' := []) rfl rfl rfl ?_
        refine E_s (p' := 79) (st' := aI 0 :: _) rfl rfl ?_
        refine E_s (p' := 81) (L' := [some (aA 124), some (aI ((60 * i + c : Nat) : Int)), some (aI ((fst : Nat) : Int)), some (aI ((1800 * i + 30 * c + j : Nat) : Int)), some (aI 0)]) rfl rfl ?_
        refine E_s (p' := 83) (st' := aI 0 :: _) rfl rfl ?_
        refine E_s (p' := 125) rfl rfl ?_
        refine E_s (p' := 126) (st' := aA 124 :: _) rfl rfl ?_
        refine E_gA (b := 133) rfl rfl rfl rfl rfl rfl ?_
        refine E_s (p' := 130) (st' := aI ((1800 * i + 30 * c + j : Nat) : Int) :: _) rfl rfl ?_
        refine E_ald (e := 1800 * i + 30 * c + j) (N := 7200) (v := ((ht (Cp R c j) : Nat) : Int)) rfl rfl (rfl) (by omega) ((I2 _ _ (by omega) (by omega)).trans (MR_133 hM hcc (by omega) (by omega))) ?_
        refine E_s (p' := 132) (L' := [some (aA 124), some (aI ((60 * i + c : Nat) : Int)), some (aI ((ht (Cp R c j) : Nat) : Int)), some (aI ((1800 * i + 30 * c + j : Nat) : Int)), some (aI 0)]) rfl rfl ?_
        refine E_s (p' := 133) (st' := aA 124 :: _) rfl rfl ?_
        refine E_gA (b := 141) rfl rfl rfl rfl rfl rfl ?_
        refine E_s (p' := 137) (st' := aA 124 :: _) rfl rfl ?_
        refine E_gI (v := (((clm R c j).length : Nat) : Int)) rfl rfl rfl rfl hI.1 ?_
        refine E_s (p' := 141) (st' := aI ((ht (Cp R c j) : Nat) : Int) :: _) rfl rfl ?_
        refine E_ast (e := (clm R c j).length) (N := 30) rfl rfl (rfl) (by omega) ?_
        refine E_s (p' := 143) (st' := aA 124 :: _) rfl rfl ?_
        refine E_gA (b := 142) rfl rfl rfl rfl rfl rfl ?_
        refine E_s (p' := 147) (st' := aA 124 :: _) rfl rfl ?_
        refine E_gI (v := (((clm R c j).length : Nat) : Int)) rfl rfl rfl rfl ((up2_ne (by omega)).trans (hI.1)) ?_
        refine E_s (p' := 151) (st' := aA 124 :: _) rfl rfl ?_
        refine E_gA (b := 134) rfl rfl rfl rfl rfl rfl ?_
        refine E_s (p' := 155) (st' := aI ((1800 * i + 30 * c + j : Nat) : Int) :: _) rfl rfl ?_
        refine E_ald (e := 1800 * i + 30 * c + j) (N := 7200) (v := ((so (Cp R c j) : Nat) : Int)) rfl rfl (rfl) (by omega) ((up2_ne (by omega)).trans (((I2 _ _ (by omega) (by omega)).trans (MR_134 hM hcc (by omega) (by omega))))) ?_
        refine E_ast (e := (clm R c j).length) (N := 30) rfl rfl (rfl) (by omega) ?_
        refine E_s (p' := 158) (st' := aA 124 :: _) rfl rfl ?_
        refine E_gA (b := 143) rfl rfl rfl rfl rfl rfl ?_
        refine E_s (p' := 162) (st' := aA 124 :: _) rfl rfl ?_
        refine E_gI (v := (((clm R c j).length : Nat) : Int)) rfl rfl rfl rfl ((up2_ne (by omega)).trans ((up2_ne (by omega)).trans (hI.1))) ?_
        refine E_s (p' := 166) (st' := aA 124 :: _) rfl rfl ?_
        refine E_gA (b := 134) rfl rfl rfl rfl rfl rfl ?_
        refine E_s (p' := 170) (st' := aI ((1800 * i + 30 * c + j : Nat) : Int) :: _) rfl rfl ?_
        refine E_ald (e := 1800 * i + 30 * c + j) (N := 7200) (v := ((so (Cp R c j) : Nat) : Int)) rfl rfl (rfl) (by omega) ((up2_ne (by omega)).trans ((up2_ne (by omega)).trans (((I2 _ _ (by omega) (by omega)).trans (MR_134 hM hcc (by omega) (by omega)))))) ?_
        refine E_s (p' := 172) (st' := aI 1 :: _) rfl rfl ?_
        refine E_icmp_ne (x := ((so (Cp R c j) : Nat) : Int)) (y := 1) rfl (by decide) (fun h_3 => ?_) (fun h_3 => ?_)
        · refine E_go (p' := 184) (L' := [some (aA 124), some (aI ((60 * i + c : Nat) : Int)), some (aI ((ht (Cp R c j) : Nat) : Int)), some (aI ((1800 * i + 30 * c + j : Nat) : Int)), some (aI 0)]) (st' := [aI (((clm R c j).length : Nat) : Int), aA 143]) rfl rfl rfl ?_
          refine E_s (p' := 185) (st' := aI 1 :: _) rfl rfl ?_
          refine E_ast (e := (clm R c j).length) (N := 30) rfl rfl (rfl) (by omega) ?_
          refine E_s (p' := 187) (st' := aA 124 :: _) rfl rfl ?_
          refine E_s (p' := 188) (st' := aA 124 :: _) rfl rfl ?_
          refine E_gI (v := (((clm R c j).length : Nat) : Int)) rfl rfl rfl rfl ((up2_ne (by omega)).trans ((up2_ne (by omega)).trans ((up2_ne (by omega)).trans (hI.1)))) ?_
          refine E_s (p' := 192) (st' := aI 1 :: _) rfl rfl ?_
          refine E_add (v := (((clm R c j).length + 1 : Nat) : Int)) rfl (by omega) (by omega) ?_
          refine E_pI rfl rfl rfl rfl (Or.inl rfl) ?_
          refine E_inc (x := ((1800 * i + 30 * c + j : Nat) : Int)) (w := ((1800 * i + 30 * c + j + 1 : Nat) : Int)) (L' := [some (aA 124), some (aI ((60 * i + c : Nat) : Int)), some (aI ((ht (Cp R c j) : Nat) : Int)), some (aI ((1800 * i + 30 * c + j + 1 : Nat) : Int)), some (aI 0)]) rfl rfl rfl (by omega) (by omega) rfl ?_
          refine E_s (p' := 12) rfl rfl ?_
          have ej0 : j = 0 := by omega
          subst ej0
          have ecl : clm R c (0) = cls R c (0) := rfl
          have ebg : beg R c (0) = 0 := rfl
          have hlz : (cls R c (0) ++ [clx R c (0)]).length = (cls R c (0)).length + 1 := by rw [List.length_append]; rfl
          rw [ecl]
          rw [ecl] at hI
          refine ih (0 + 1) _ _ _ (by omega) (by omega) ?_ (fun x hx => ?_) (fun b z g1 g2 => ((up2_o (by omega)).trans ((up2_o (by omega)).trans ((up2_o (by omega)).trans (up2_o (by omega))))).trans (I2 b z g1 g2))
          · show CLm (cls R c (0) ++ [clx R c (0)]) _
            refine ⟨up2_eq.trans (by rw [hlz]), fun x hx => ?_⟩
            by_cases g : x = (cls R c (0)).length
            · subst g
              rw [g3_r]
              refine ⟨((up2_ne (by omega)).trans ((up2_ne (by omega)).trans ((up2_ne (by omega)).trans (up2_eq)))).trans ?_, ((up2_ne (by omega)).trans ((up2_ne (by omega)).trans (up2_eq))), ((up2_ne (by omega)).trans (up2_eq)).trans ?_⟩
              · show _ = (clp R c (0) : Int)
                unfold clp; rw [ebg]; omega
              · show _ = (clw R c (0) : Int)
                unfold clw; rw [ebg]
                split
                · omega
                · split <;> omega
            · rw [g3_l (by omega)]
              obtain ⟨k1, k2, k3⟩ := hI.2 x (by omega)
              exact ⟨((up2_o (by omega)).trans ((up2_o (by omega)).trans ((up2_o (by omega)).trans (up2_o (by omega))))).trans k1, ((up2_o (by omega)).trans ((up2_o (by omega)).trans ((up2_o (by omega)).trans (up2_o (by omega))))).trans k2, ((up2_o (by omega)).trans ((up2_o (by omega)).trans ((up2_o (by omega)).trans (up2_o (by omega))))).trans k3⟩
          · have ex : x = 0 := by omega
            rw [ex, ebg]
        · refine E_go (p' := 175) (L' := [some (aA 124), some (aI ((60 * i + c : Nat) : Int)), some (aI ((ht (Cp R c j) : Nat) : Int)), some (aI ((1800 * i + 30 * c + j : Nat) : Int)), some (aI 0)]) (st' := [aI (((clm R c j).length : Nat) : Int), aA 143]) rfl rfl rfl ?_
          refine E_s (p' := 176) (st' := aA 124 :: _) rfl rfl ?_
          refine E_gA (b := 135) rfl rfl rfl rfl rfl rfl ?_
          refine E_s (p' := 180) (st' := aI ((1800 * i + 30 * c + j : Nat) : Int) :: _) rfl rfl ?_
          refine E_ald (e := 1800 * i + 30 * c + j) (N := 7200) (v := ((tu (Cp R c j) : Nat) : Int)) rfl rfl (rfl) (by omega) ((up2_ne (by omega)).trans ((up2_ne (by omega)).trans (((I2 _ _ (by omega) (by omega)).trans (MR_135 hM hcc (by omega) (by omega)))))) ?_
          refine E_s (p' := 185) rfl rfl ?_
          refine E_ast (e := (clm R c j).length) (N := 30) rfl rfl (rfl) (by omega) ?_
          refine E_s (p' := 187) (st' := aA 124 :: _) rfl rfl ?_
          refine E_s (p' := 188) (st' := aA 124 :: _) rfl rfl ?_
          refine E_gI (v := (((clm R c j).length : Nat) : Int)) rfl rfl rfl rfl ((up2_ne (by omega)).trans ((up2_ne (by omega)).trans ((up2_ne (by omega)).trans (hI.1)))) ?_
          refine E_s (p' := 192) (st' := aI 1 :: _) rfl rfl ?_
          refine E_add (v := (((clm R c j).length + 1 : Nat) : Int)) rfl (by omega) (by omega) ?_
          refine E_pI rfl rfl rfl rfl (Or.inl rfl) ?_
          refine E_inc (x := ((1800 * i + 30 * c + j : Nat) : Int)) (w := ((1800 * i + 30 * c + j + 1 : Nat) : Int)) (L' := [some (aA 124), some (aI ((60 * i + c : Nat) : Int)), some (aI ((ht (Cp R c j) : Nat) : Int)), some (aI ((1800 * i + 30 * c + j + 1 : Nat) : Int)), some (aI 0)]) rfl rfl rfl (by omega) (by omega) rfl ?_
          refine E_s (p' := 12) rfl rfl ?_
          have ej0 : j = 0 := by omega
          subst ej0
          have ecl : clm R c (0) = cls R c (0) := rfl
          have ebg : beg R c (0) = 0 := rfl
          have hlz : (cls R c (0) ++ [clx R c (0)]).length = (cls R c (0)).length + 1 := by rw [List.length_append]; rfl
          rw [ecl]
          rw [ecl] at hI
          refine ih (0 + 1) _ _ _ (by omega) (by omega) ?_ (fun x hx => ?_) (fun b z g1 g2 => ((up2_o (by omega)).trans ((up2_o (by omega)).trans ((up2_o (by omega)).trans (up2_o (by omega))))).trans (I2 b z g1 g2))
          · show CLm (cls R c (0) ++ [clx R c (0)]) _
            refine ⟨up2_eq.trans (by rw [hlz]), fun x hx => ?_⟩
            by_cases g : x = (cls R c (0)).length
            · subst g
              rw [g3_r]
              refine ⟨((up2_ne (by omega)).trans ((up2_ne (by omega)).trans ((up2_ne (by omega)).trans (up2_eq)))).trans ?_, ((up2_ne (by omega)).trans ((up2_ne (by omega)).trans (up2_eq))), ((up2_ne (by omega)).trans (up2_eq)).trans ?_⟩
              · show _ = (clp R c (0) : Int)
                unfold clp; rw [ebg]; omega
              · show _ = (clw R c (0) : Int)
                unfold clw; rw [ebg]
                split
                · omega
                · split <;> omega
            · rw [g3_l (by omega)]
              obtain ⟨k1, k2, k3⟩ := hI.2 x (by omega)
              exact ⟨((up2_o (by omega)).trans ((up2_o (by omega)).trans ((up2_o (by omega)).trans (up2_o (by omega))))).trans k1, ((up2_o (by omega)).trans ((up2_o (by omega)).trans ((up2_o (by omega)).trans (up2_o (by omega))))).trans k2, ((up2_o (by omega)).trans ((up2_o (by omega)).trans ((up2_o (by omega)).trans (up2_o (by omega))))).trans k3⟩
          · have ex : x = 0 := by omega
            rw [ex, ebg]
      · refine E_go (p' := 35) (L' := [some (aA 124), some (aI ((60 * i + c : Nat) : Int)), some (aI ((fst : Nat) : Int)), some (aI ((1800 * i + 30 * c + j : Nat) : Int)), x4]) (st' := []) rfl rfl rfl ?_
        obtain ⟨jp, ej⟩ : ∃ x, j = x + 1 := ⟨j - 1, by omega⟩
        subst ej
        have hfs := hf jp rfl
        have hln : (clm R c (jp + 1)).length = (cls R c jp).length + 1 := by show (_ ++ [_]).length = _; rw [List.length_append]; rfl
        have hl3 := cls_len R c jp
        have hwj := clw_b hV hcc (show jp < Ck R c by omega)
        have pkn := pk3 (jp + 1) (by omega)
        have pkp := pk3 jp (by omega)
        have pkb := pk3 (beg R c jp) (by have := beg_le R c jp; omega)
        refine E_s (p' := 36) (st' := aA 124 :: _) rfl rfl ?_
        refine E_gA (b := 134) rfl rfl rfl rfl rfl rfl ?_
        refine E_s (p' := 40) (st' := aI ((1800 * i + 30 * c + jp + 1 : Nat) : Int) :: _) rfl rfl ?_
        refine E_ald (e := 1800 * i + 30 * c + jp + 1) (N := 7200) (v := ((so (Cp R c (jp + 1)) : Nat) : Int)) rfl rfl (rfl) (by omega) ((I2 _ _ (by omega) (by omega)).trans (MR_134 hM hcc (by omega) (by omega))) ?_
        refine E_if_ne (x := ((so (Cp R c (jp + 1)) : Nat) : Int)) rfl (by decide) (fun h_4 => ?_) (fun h_4 => ?_)
        · refine E_go (p' := 78) (L' := [some (aA 124), some (aI ((60 * i + c : Nat) : Int)), some (aI ((fst : Nat) : Int)), some (aI ((1800 * i + 30 * c + jp + 1 : Nat) : Int)), x4]) (st' := []) rfl rfl rfl ?_
          refine E_s (p' := 79) (st' := aI 0 :: _) rfl rfl ?_
          refine E_s (p' := 81) (L' := [some (aA 124), some (aI ((60 * i + c : Nat) : Int)), some (aI ((fst : Nat) : Int)), some (aI ((1800 * i + 30 * c + jp + 1 : Nat) : Int)), some (aI 0)]) rfl rfl ?_
          refine E_s (p' := 83) (st' := aI 0 :: _) rfl rfl ?_
          refine E_s (p' := 125) rfl rfl ?_
          refine E_s (p' := 126) (st' := aA 124 :: _) rfl rfl ?_
          refine E_gA (b := 133) rfl rfl rfl rfl rfl rfl ?_
          refine E_s (p' := 130) (st' := aI ((1800 * i + 30 * c + jp + 1 : Nat) : Int) :: _) rfl rfl ?_
          refine E_ald (e := 1800 * i + 30 * c + jp + 1) (N := 7200) (v := ((ht (Cp R c (jp + 1)) : Nat) : Int)) rfl rfl (rfl) (by omega) ((I2 _ _ (by omega) (by omega)).trans (MR_133 hM hcc (by omega) (by omega))) ?_
          refine E_s (p' := 132) (L' := [some (aA 124), some (aI ((60 * i + c : Nat) : Int)), some (aI ((ht (Cp R c (jp + 1)) : Nat) : Int)), some (aI ((1800 * i + 30 * c + jp + 1 : Nat) : Int)), some (aI 0)]) rfl rfl ?_
          refine E_s (p' := 133) (st' := aA 124 :: _) rfl rfl ?_
          refine E_gA (b := 141) rfl rfl rfl rfl rfl rfl ?_
          refine E_s (p' := 137) (st' := aA 124 :: _) rfl rfl ?_
          refine E_gI (v := (((clm R c (jp + 1)).length : Nat) : Int)) rfl rfl rfl rfl hI.1 ?_
          refine E_s (p' := 141) (st' := aI ((ht (Cp R c (jp + 1)) : Nat) : Int) :: _) rfl rfl ?_
          refine E_ast (e := (clm R c (jp + 1)).length) (N := 30) rfl rfl (rfl) (by omega) ?_
          refine E_s (p' := 143) (st' := aA 124 :: _) rfl rfl ?_
          refine E_gA (b := 142) rfl rfl rfl rfl rfl rfl ?_
          refine E_s (p' := 147) (st' := aA 124 :: _) rfl rfl ?_
          refine E_gI (v := (((clm R c (jp + 1)).length : Nat) : Int)) rfl rfl rfl rfl ((up2_ne (by omega)).trans (hI.1)) ?_
          refine E_s (p' := 151) (st' := aA 124 :: _) rfl rfl ?_
          refine E_gA (b := 134) rfl rfl rfl rfl rfl rfl ?_
          refine E_s (p' := 155) (st' := aI ((1800 * i + 30 * c + jp + 1 : Nat) : Int) :: _) rfl rfl ?_
          refine E_ald (e := 1800 * i + 30 * c + jp + 1) (N := 7200) (v := ((so (Cp R c (jp + 1)) : Nat) : Int)) rfl rfl (rfl) (by omega) ((up2_ne (by omega)).trans (((I2 _ _ (by omega) (by omega)).trans (MR_134 hM hcc (by omega) (by omega))))) ?_
          refine E_ast (e := (clm R c (jp + 1)).length) (N := 30) rfl rfl (rfl) (by omega) ?_
          refine E_s (p' := 158) (st' := aA 124 :: _) rfl rfl ?_
          refine E_gA (b := 143) rfl rfl rfl rfl rfl rfl ?_
          refine E_s (p' := 162) (st' := aA 124 :: _) rfl rfl ?_
          refine E_gI (v := (((clm R c (jp + 1)).length : Nat) : Int)) rfl rfl rfl rfl ((up2_ne (by omega)).trans ((up2_ne (by omega)).trans (hI.1))) ?_
          refine E_s (p' := 166) (st' := aA 124 :: _) rfl rfl ?_
          refine E_gA (b := 134) rfl rfl rfl rfl rfl rfl ?_
          refine E_s (p' := 170) (st' := aI ((1800 * i + 30 * c + jp + 1 : Nat) : Int) :: _) rfl rfl ?_
          refine E_ald (e := 1800 * i + 30 * c + jp + 1) (N := 7200) (v := ((so (Cp R c (jp + 1)) : Nat) : Int)) rfl rfl (rfl) (by omega) ((up2_ne (by omega)).trans ((up2_ne (by omega)).trans (((I2 _ _ (by omega) (by omega)).trans (MR_134 hM hcc (by omega) (by omega)))))) ?_
          refine E_s (p' := 172) (st' := aI 1 :: _) rfl rfl ?_
          refine E_icmp_ne (x := ((so (Cp R c (jp + 1)) : Nat) : Int)) (y := 1) rfl (by decide) (fun h_5 => ?_) (fun h_5 => ?_)
          · refine E_go (p' := 184) (L' := [some (aA 124), some (aI ((60 * i + c : Nat) : Int)), some (aI ((ht (Cp R c (jp + 1)) : Nat) : Int)), some (aI ((1800 * i + 30 * c + jp + 1 : Nat) : Int)), some (aI 0)]) (st' := [aI (((clm R c (jp + 1)).length : Nat) : Int), aA 143]) rfl rfl rfl ?_
            refine E_s (p' := 185) (st' := aI 1 :: _) rfl rfl ?_
            refine E_ast (e := (clm R c (jp + 1)).length) (N := 30) rfl rfl (rfl) (by omega) ?_
            refine E_s (p' := 187) (st' := aA 124 :: _) rfl rfl ?_
            refine E_s (p' := 188) (st' := aA 124 :: _) rfl rfl ?_
            refine E_gI (v := (((clm R c (jp + 1)).length : Nat) : Int)) rfl rfl rfl rfl ((up2_ne (by omega)).trans ((up2_ne (by omega)).trans ((up2_ne (by omega)).trans (hI.1)))) ?_
            refine E_s (p' := 192) (st' := aI 1 :: _) rfl rfl ?_
            refine E_add (v := (((clm R c (jp + 1)).length + 1 : Nat) : Int)) rfl (by omega) (by omega) ?_
            refine E_pI rfl rfl rfl rfl (Or.inl rfl) ?_
            refine E_inc (x := ((1800 * i + 30 * c + jp + 1 : Nat) : Int)) (w := ((1800 * i + 30 * c + jp + 2 : Nat) : Int)) (L' := [some (aA 124), some (aI ((60 * i + c : Nat) : Int)), some (aI ((ht (Cp R c (jp + 1)) : Nat) : Int)), some (aI ((1800 * i + 30 * c + jp + 2 : Nat) : Int)), some (aI 0)]) rfl rfl rfl (by omega) (by omega) rfl ?_
            refine E_s (p' := 12) rfl rfl ?_
            have he : ends R c jp = true := ends_n (by omega)
            have ecl : clm R c (jp + 1) = cls R c (jp + 1) := (by show cls R c jp ++ [clx R c jp] = cls R c (jp + 1); rw [cls_t he]; rfl)
            have ebg : beg R c (jp + 1) = jp + 1 := beg_t he
            have hlz : (cls R c (jp + 1) ++ [clx R c (jp + 1)]).length = (cls R c (jp + 1)).length + 1 := by rw [List.length_append]; rfl
            rw [ecl]
            rw [ecl] at hI
            refine ih (jp + 1 + 1) _ _ _ (by omega) (by omega) ?_ (fun x hx => ?_) (fun b z g1 g2 => ((up2_o (by omega)).trans ((up2_o (by omega)).trans ((up2_o (by omega)).trans (up2_o (by omega))))).trans (I2 b z g1 g2))
            · show CLm (cls R c (jp + 1) ++ [clx R c (jp + 1)]) _
              refine ⟨up2_eq.trans (by rw [hlz]), fun x hx => ?_⟩
              by_cases g : x = (cls R c (jp + 1)).length
              · subst g
                rw [g3_r]
                refine ⟨((up2_ne (by omega)).trans ((up2_ne (by omega)).trans ((up2_ne (by omega)).trans (up2_eq)))).trans ?_, ((up2_ne (by omega)).trans ((up2_ne (by omega)).trans (up2_eq))), ((up2_ne (by omega)).trans (up2_eq)).trans ?_⟩
                · show _ = (clp R c (jp + 1) : Int)
                  unfold clp; rw [ebg]; omega
                · show _ = (clw R c (jp + 1) : Int)
                  unfold clw; rw [ebg]
                  split
                  · omega
                  · split <;> omega
              · rw [g3_l (by omega)]
                obtain ⟨k1, k2, k3⟩ := hI.2 x (by omega)
                exact ⟨((up2_o (by omega)).trans ((up2_o (by omega)).trans ((up2_o (by omega)).trans (up2_o (by omega))))).trans k1, ((up2_o (by omega)).trans ((up2_o (by omega)).trans ((up2_o (by omega)).trans (up2_o (by omega))))).trans k2, ((up2_o (by omega)).trans ((up2_o (by omega)).trans ((up2_o (by omega)).trans (up2_o (by omega))))).trans k3⟩
            · have ex : x = jp + 1 := by omega
              rw [ex, ebg]
          · refine E_go (p' := 175) (L' := [some (aA 124), some (aI ((60 * i + c : Nat) : Int)), some (aI ((ht (Cp R c (jp + 1)) : Nat) : Int)), some (aI ((1800 * i + 30 * c + jp + 1 : Nat) : Int)), some (aI 0)]) (st' := [aI (((clm R c (jp + 1)).length : Nat) : Int), aA 143]) rfl rfl rfl ?_
            refine E_s (p' := 176) (st' := aA 124 :: _) rfl rfl ?_
            refine E_gA (b := 135) rfl rfl rfl rfl rfl rfl ?_
            refine E_s (p' := 180) (st' := aI ((1800 * i + 30 * c + jp + 1 : Nat) : Int) :: _) rfl rfl ?_
            refine E_ald (e := 1800 * i + 30 * c + jp + 1) (N := 7200) (v := ((tu (Cp R c (jp + 1)) : Nat) : Int)) rfl rfl (rfl) (by omega) ((up2_ne (by omega)).trans ((up2_ne (by omega)).trans (((I2 _ _ (by omega) (by omega)).trans (MR_135 hM hcc (by omega) (by omega)))))) ?_
            refine E_s (p' := 185) rfl rfl ?_
            refine E_ast (e := (clm R c (jp + 1)).length) (N := 30) rfl rfl (rfl) (by omega) ?_
            refine E_s (p' := 187) (st' := aA 124 :: _) rfl rfl ?_
            refine E_s (p' := 188) (st' := aA 124 :: _) rfl rfl ?_
            refine E_gI (v := (((clm R c (jp + 1)).length : Nat) : Int)) rfl rfl rfl rfl ((up2_ne (by omega)).trans ((up2_ne (by omega)).trans ((up2_ne (by omega)).trans (hI.1)))) ?_
            refine E_s (p' := 192) (st' := aI 1 :: _) rfl rfl ?_
            refine E_add (v := (((clm R c (jp + 1)).length + 1 : Nat) : Int)) rfl (by omega) (by omega) ?_
            refine E_pI rfl rfl rfl rfl (Or.inl rfl) ?_
            refine E_inc (x := ((1800 * i + 30 * c + jp + 1 : Nat) : Int)) (w := ((1800 * i + 30 * c + jp + 2 : Nat) : Int)) (L' := [some (aA 124), some (aI ((60 * i + c : Nat) : Int)), some (aI ((ht (Cp R c (jp + 1)) : Nat) : Int)), some (aI ((1800 * i + 30 * c + jp + 2 : Nat) : Int)), some (aI 0)]) rfl rfl rfl (by omega) (by omega) rfl ?_
            refine E_s (p' := 12) rfl rfl ?_
            have he : ends R c jp = true := ends_n (by omega)
            have ecl : clm R c (jp + 1) = cls R c (jp + 1) := (by show cls R c jp ++ [clx R c jp] = cls R c (jp + 1); rw [cls_t he]; rfl)
            have ebg : beg R c (jp + 1) = jp + 1 := beg_t he
            have hlz : (cls R c (jp + 1) ++ [clx R c (jp + 1)]).length = (cls R c (jp + 1)).length + 1 := by rw [List.length_append]; rfl
            rw [ecl]
            rw [ecl] at hI
            refine ih (jp + 1 + 1) _ _ _ (by omega) (by omega) ?_ (fun x hx => ?_) (fun b z g1 g2 => ((up2_o (by omega)).trans ((up2_o (by omega)).trans ((up2_o (by omega)).trans (up2_o (by omega))))).trans (I2 b z g1 g2))
            · show CLm (cls R c (jp + 1) ++ [clx R c (jp + 1)]) _
              refine ⟨up2_eq.trans (by rw [hlz]), fun x hx => ?_⟩
              by_cases g : x = (cls R c (jp + 1)).length
              · subst g
                rw [g3_r]
                refine ⟨((up2_ne (by omega)).trans ((up2_ne (by omega)).trans ((up2_ne (by omega)).trans (up2_eq)))).trans ?_, ((up2_ne (by omega)).trans ((up2_ne (by omega)).trans (up2_eq))), ((up2_ne (by omega)).trans (up2_eq)).trans ?_⟩
                · show _ = (clp R c (jp + 1) : Int)
                  unfold clp; rw [ebg]; omega
                · show _ = (clw R c (jp + 1) : Int)
                  unfold clw; rw [ebg]
                  split
                  · omega
                  · split <;> omega
              · rw [g3_l (by omega)]
                obtain ⟨k1, k2, k3⟩ := hI.2 x (by omega)
                exact ⟨((up2_o (by omega)).trans ((up2_o (by omega)).trans ((up2_o (by omega)).trans (up2_o (by omega))))).trans k1, ((up2_o (by omega)).trans ((up2_o (by omega)).trans ((up2_o (by omega)).trans (up2_o (by omega))))).trans k2, ((up2_o (by omega)).trans ((up2_o (by omega)).trans ((up2_o (by omega)).trans (up2_o (by omega))))).trans k3⟩
            · have ex : x = jp + 1 := by omega
              rw [ex, ebg]
        · refine E_go (p' := 44) (L' := [some (aA 124), some (aI ((60 * i + c : Nat) : Int)), some (aI ((fst : Nat) : Int)), some (aI ((1800 * i + 30 * c + jp + 1 : Nat) : Int)), x4]) (st' := []) rfl rfl rfl ?_
          refine E_s (p' := 45) (st' := aA 124 :: _) rfl rfl ?_
          refine E_gA (b := 134) rfl rfl rfl rfl rfl rfl ?_
          refine E_s (p' := 49) (st' := aI ((1800 * i + 30 * c + jp + 1 : Nat) : Int) :: _) rfl rfl ?_
          refine E_s (p' := 50) (st' := aI 1 :: _) rfl rfl ?_
          refine E_sub (v := ((1800 * i + 30 * c + jp : Nat) : Int)) rfl (by omega) (by omega) ?_
          refine E_ald (e := 1800 * i + 30 * c + jp) (N := 7200) (v := ((so (Cp R c jp) : Nat) : Int)) rfl rfl (rfl) (by omega) ((I2 _ _ (by omega) (by omega)).trans (MR_134 hM hcc (by omega) (by omega))) ?_
          refine E_if_ne (x := ((so (Cp R c jp) : Nat) : Int)) rfl (by decide) (fun h_6 => ?_) (fun h_6 => ?_)
          · refine E_go (p' := 78) (L' := [some (aA 124), some (aI ((60 * i + c : Nat) : Int)), some (aI ((fst : Nat) : Int)), some (aI ((1800 * i + 30 * c + jp + 1 : Nat) : Int)), x4]) (st' := []) rfl rfl rfl ?_
            refine E_s (p' := 79) (st' := aI 0 :: _) rfl rfl ?_
            refine E_s (p' := 81) (L' := [some (aA 124), some (aI ((60 * i + c : Nat) : Int)), some (aI ((fst : Nat) : Int)), some (aI ((1800 * i + 30 * c + jp + 1 : Nat) : Int)), some (aI 0)]) rfl rfl ?_
            refine E_s (p' := 83) (st' := aI 0 :: _) rfl rfl ?_
            refine E_s (p' := 125) rfl rfl ?_
            refine E_s (p' := 126) (st' := aA 124 :: _) rfl rfl ?_
            refine E_gA (b := 133) rfl rfl rfl rfl rfl rfl ?_
            refine E_s (p' := 130) (st' := aI ((1800 * i + 30 * c + jp + 1 : Nat) : Int) :: _) rfl rfl ?_
            refine E_ald (e := 1800 * i + 30 * c + jp + 1) (N := 7200) (v := ((ht (Cp R c (jp + 1)) : Nat) : Int)) rfl rfl (rfl) (by omega) ((I2 _ _ (by omega) (by omega)).trans (MR_133 hM hcc (by omega) (by omega))) ?_
            refine E_s (p' := 132) (L' := [some (aA 124), some (aI ((60 * i + c : Nat) : Int)), some (aI ((ht (Cp R c (jp + 1)) : Nat) : Int)), some (aI ((1800 * i + 30 * c + jp + 1 : Nat) : Int)), some (aI 0)]) rfl rfl ?_
            refine E_s (p' := 133) (st' := aA 124 :: _) rfl rfl ?_
            refine E_gA (b := 141) rfl rfl rfl rfl rfl rfl ?_
            refine E_s (p' := 137) (st' := aA 124 :: _) rfl rfl ?_
            refine E_gI (v := (((clm R c (jp + 1)).length : Nat) : Int)) rfl rfl rfl rfl hI.1 ?_
            refine E_s (p' := 141) (st' := aI ((ht (Cp R c (jp + 1)) : Nat) : Int) :: _) rfl rfl ?_
            refine E_ast (e := (clm R c (jp + 1)).length) (N := 30) rfl rfl (rfl) (by omega) ?_
            refine E_s (p' := 143) (st' := aA 124 :: _) rfl rfl ?_
            refine E_gA (b := 142) rfl rfl rfl rfl rfl rfl ?_
            refine E_s (p' := 147) (st' := aA 124 :: _) rfl rfl ?_
            refine E_gI (v := (((clm R c (jp + 1)).length : Nat) : Int)) rfl rfl rfl rfl ((up2_ne (by omega)).trans (hI.1)) ?_
            refine E_s (p' := 151) (st' := aA 124 :: _) rfl rfl ?_
            refine E_gA (b := 134) rfl rfl rfl rfl rfl rfl ?_
            refine E_s (p' := 155) (st' := aI ((1800 * i + 30 * c + jp + 1 : Nat) : Int) :: _) rfl rfl ?_
            refine E_ald (e := 1800 * i + 30 * c + jp + 1) (N := 7200) (v := ((so (Cp R c (jp + 1)) : Nat) : Int)) rfl rfl (rfl) (by omega) ((up2_ne (by omega)).trans (((I2 _ _ (by omega) (by omega)).trans (MR_134 hM hcc (by omega) (by omega))))) ?_
            refine E_ast (e := (clm R c (jp + 1)).length) (N := 30) rfl rfl (rfl) (by omega) ?_
            refine E_s (p' := 158) (st' := aA 124 :: _) rfl rfl ?_
            refine E_gA (b := 143) rfl rfl rfl rfl rfl rfl ?_
            refine E_s (p' := 162) (st' := aA 124 :: _) rfl rfl ?_
            refine E_gI (v := (((clm R c (jp + 1)).length : Nat) : Int)) rfl rfl rfl rfl ((up2_ne (by omega)).trans ((up2_ne (by omega)).trans (hI.1))) ?_
            refine E_s (p' := 166) (st' := aA 124 :: _) rfl rfl ?_
            refine E_gA (b := 134) rfl rfl rfl rfl rfl rfl ?_
            refine E_s (p' := 170) (st' := aI ((1800 * i + 30 * c + jp + 1 : Nat) : Int) :: _) rfl rfl ?_
            refine E_ald (e := 1800 * i + 30 * c + jp + 1) (N := 7200) (v := ((so (Cp R c (jp + 1)) : Nat) : Int)) rfl rfl (rfl) (by omega) ((up2_ne (by omega)).trans ((up2_ne (by omega)).trans (((I2 _ _ (by omega) (by omega)).trans (MR_134 hM hcc (by omega) (by omega)))))) ?_
            refine E_s (p' := 172) (st' := aI 1 :: _) rfl rfl ?_
            refine E_icmp_ne (x := ((so (Cp R c (jp + 1)) : Nat) : Int)) (y := 1) rfl (by decide) (fun h_7 => ?_) (fun h_7 => ?_)
            · refine E_go (p' := 184) (L' := [some (aA 124), some (aI ((60 * i + c : Nat) : Int)), some (aI ((ht (Cp R c (jp + 1)) : Nat) : Int)), some (aI ((1800 * i + 30 * c + jp + 1 : Nat) : Int)), some (aI 0)]) (st' := [aI (((clm R c (jp + 1)).length : Nat) : Int), aA 143]) rfl rfl rfl ?_
              refine E_s (p' := 185) (st' := aI 1 :: _) rfl rfl ?_
              refine E_ast (e := (clm R c (jp + 1)).length) (N := 30) rfl rfl (rfl) (by omega) ?_
              refine E_s (p' := 187) (st' := aA 124 :: _) rfl rfl ?_
              refine E_s (p' := 188) (st' := aA 124 :: _) rfl rfl ?_
              refine E_gI (v := (((clm R c (jp + 1)).length : Nat) : Int)) rfl rfl rfl rfl ((up2_ne (by omega)).trans ((up2_ne (by omega)).trans ((up2_ne (by omega)).trans (hI.1)))) ?_
              refine E_s (p' := 192) (st' := aI 1 :: _) rfl rfl ?_
              refine E_add (v := (((clm R c (jp + 1)).length + 1 : Nat) : Int)) rfl (by omega) (by omega) ?_
              refine E_pI rfl rfl rfl rfl (Or.inl rfl) ?_
              refine E_inc (x := ((1800 * i + 30 * c + jp + 1 : Nat) : Int)) (w := ((1800 * i + 30 * c + jp + 2 : Nat) : Int)) (L' := [some (aA 124), some (aI ((60 * i + c : Nat) : Int)), some (aI ((ht (Cp R c (jp + 1)) : Nat) : Int)), some (aI ((1800 * i + 30 * c + jp + 2 : Nat) : Int)), some (aI 0)]) rfl rfl rfl (by omega) (by omega) rfl ?_
              refine E_s (p' := 12) rfl rfl ?_
              have he : ends R c jp = true := ends_n (by omega)
              have ecl : clm R c (jp + 1) = cls R c (jp + 1) := (by show cls R c jp ++ [clx R c jp] = cls R c (jp + 1); rw [cls_t he]; rfl)
              have ebg : beg R c (jp + 1) = jp + 1 := beg_t he
              have hlz : (cls R c (jp + 1) ++ [clx R c (jp + 1)]).length = (cls R c (jp + 1)).length + 1 := by rw [List.length_append]; rfl
              rw [ecl]
              rw [ecl] at hI
              refine ih (jp + 1 + 1) _ _ _ (by omega) (by omega) ?_ (fun x hx => ?_) (fun b z g1 g2 => ((up2_o (by omega)).trans ((up2_o (by omega)).trans ((up2_o (by omega)).trans (up2_o (by omega))))).trans (I2 b z g1 g2))
              · show CLm (cls R c (jp + 1) ++ [clx R c (jp + 1)]) _
                refine ⟨up2_eq.trans (by rw [hlz]), fun x hx => ?_⟩
                by_cases g : x = (cls R c (jp + 1)).length
                · subst g
                  rw [g3_r]
                  refine ⟨((up2_ne (by omega)).trans ((up2_ne (by omega)).trans ((up2_ne (by omega)).trans (up2_eq)))).trans ?_, ((up2_ne (by omega)).trans ((up2_ne (by omega)).trans (up2_eq))), ((up2_ne (by omega)).trans (up2_eq)).trans ?_⟩
                  · show _ = (clp R c (jp + 1) : Int)
                    unfold clp; rw [ebg]; omega
                  · show _ = (clw R c (jp + 1) : Int)
                    unfold clw; rw [ebg]
                    split
                    · omega
                    · split <;> omega
                · rw [g3_l (by omega)]
                  obtain ⟨k1, k2, k3⟩ := hI.2 x (by omega)
                  exact ⟨((up2_o (by omega)).trans ((up2_o (by omega)).trans ((up2_o (by omega)).trans (up2_o (by omega))))).trans k1, ((up2_o (by omega)).trans ((up2_o (by omega)).trans ((up2_o (by omega)).trans (up2_o (by omega))))).trans k2, ((up2_o (by omega)).trans ((up2_o (by omega)).trans ((up2_o (by omega)).trans (up2_o (by omega))))).trans k3⟩
              · have ex : x = jp + 1 := by omega
                rw [ex, ebg]
            · refine E_go (p' := 175) (L' := [some (aA 124), some (aI ((60 * i + c : Nat) : Int)), some (aI ((ht (Cp R c (jp + 1)) : Nat) : Int)), some (aI ((1800 * i + 30 * c + jp + 1 : Nat) : Int)), some (aI 0)]) (st' := [aI (((clm R c (jp + 1)).length : Nat) : Int), aA 143]) rfl rfl rfl ?_
              refine E_s (p' := 176) (st' := aA 124 :: _) rfl rfl ?_
              refine E_gA (b := 135) rfl rfl rfl rfl rfl rfl ?_
              refine E_s (p' := 180) (st' := aI ((1800 * i + 30 * c + jp + 1 : Nat) : Int) :: _) rfl rfl ?_
              refine E_ald (e := 1800 * i + 30 * c + jp + 1) (N := 7200) (v := ((tu (Cp R c (jp + 1)) : Nat) : Int)) rfl rfl (rfl) (by omega) ((up2_ne (by omega)).trans ((up2_ne (by omega)).trans (((I2 _ _ (by omega) (by omega)).trans (MR_135 hM hcc (by omega) (by omega)))))) ?_
              refine E_s (p' := 185) rfl rfl ?_
              refine E_ast (e := (clm R c (jp + 1)).length) (N := 30) rfl rfl (rfl) (by omega) ?_
              refine E_s (p' := 187) (st' := aA 124 :: _) rfl rfl ?_
              refine E_s (p' := 188) (st' := aA 124 :: _) rfl rfl ?_
              refine E_gI (v := (((clm R c (jp + 1)).length : Nat) : Int)) rfl rfl rfl rfl ((up2_ne (by omega)).trans ((up2_ne (by omega)).trans ((up2_ne (by omega)).trans (hI.1)))) ?_
              refine E_s (p' := 192) (st' := aI 1 :: _) rfl rfl ?_
              refine E_add (v := (((clm R c (jp + 1)).length + 1 : Nat) : Int)) rfl (by omega) (by omega) ?_
              refine E_pI rfl rfl rfl rfl (Or.inl rfl) ?_
              refine E_inc (x := ((1800 * i + 30 * c + jp + 1 : Nat) : Int)) (w := ((1800 * i + 30 * c + jp + 2 : Nat) : Int)) (L' := [some (aA 124), some (aI ((60 * i + c : Nat) : Int)), some (aI ((ht (Cp R c (jp + 1)) : Nat) : Int)), some (aI ((1800 * i + 30 * c + jp + 2 : Nat) : Int)), some (aI 0)]) rfl rfl rfl (by omega) (by omega) rfl ?_
              refine E_s (p' := 12) rfl rfl ?_
              have he : ends R c jp = true := ends_n (by omega)
              have ecl : clm R c (jp + 1) = cls R c (jp + 1) := (by show cls R c jp ++ [clx R c jp] = cls R c (jp + 1); rw [cls_t he]; rfl)
              have ebg : beg R c (jp + 1) = jp + 1 := beg_t he
              have hlz : (cls R c (jp + 1) ++ [clx R c (jp + 1)]).length = (cls R c (jp + 1)).length + 1 := by rw [List.length_append]; rfl
              rw [ecl]
              rw [ecl] at hI
              refine ih (jp + 1 + 1) _ _ _ (by omega) (by omega) ?_ (fun x hx => ?_) (fun b z g1 g2 => ((up2_o (by omega)).trans ((up2_o (by omega)).trans ((up2_o (by omega)).trans (up2_o (by omega))))).trans (I2 b z g1 g2))
              · show CLm (cls R c (jp + 1) ++ [clx R c (jp + 1)]) _
                refine ⟨up2_eq.trans (by rw [hlz]), fun x hx => ?_⟩
                by_cases g : x = (cls R c (jp + 1)).length
                · subst g
                  rw [g3_r]
                  refine ⟨((up2_ne (by omega)).trans ((up2_ne (by omega)).trans ((up2_ne (by omega)).trans (up2_eq)))).trans ?_, ((up2_ne (by omega)).trans ((up2_ne (by omega)).trans (up2_eq))), ((up2_ne (by omega)).trans (up2_eq)).trans ?_⟩
                  · show _ = (clp R c (jp + 1) : Int)
                    unfold clp; rw [ebg]; omega
                  · show _ = (clw R c (jp + 1) : Int)
                    unfold clw; rw [ebg]
                    split
                    · omega
                    · split <;> omega
                · rw [g3_l (by omega)]
                  obtain ⟨k1, k2, k3⟩ := hI.2 x (by omega)
                  exact ⟨((up2_o (by omega)).trans ((up2_o (by omega)).trans ((up2_o (by omega)).trans (up2_o (by omega))))).trans k1, ((up2_o (by omega)).trans ((up2_o (by omega)).trans ((up2_o (by omega)).trans (up2_o (by omega))))).trans k2, ((up2_o (by omega)).trans ((up2_o (by omega)).trans ((up2_o (by omega)).trans (up2_o (by omega))))).trans k3⟩
              · have ex : x = jp + 1 := by omega
                rw [ex, ebg]
          · refine E_go (p' := 55) (L' := [some (aA 124), some (aI ((60 * i + c : Nat) : Int)), some (aI ((fst : Nat) : Int)), some (aI ((1800 * i + 30 * c + jp + 1 : Nat) : Int)), x4]) (st' := []) rfl rfl rfl ?_
            refine E_s (p' := 56) (st' := aA 124 :: _) rfl rfl ?_
            refine E_gA (b := 133) rfl rfl rfl rfl rfl rfl ?_
            refine E_s (p' := 60) (st' := aI ((1800 * i + 30 * c + jp + 1 : Nat) : Int) :: _) rfl rfl ?_
            refine E_ald (e := 1800 * i + 30 * c + jp + 1) (N := 7200) (v := ((ht (Cp R c (jp + 1)) : Nat) : Int)) rfl rfl (rfl) (by omega) ((I2 _ _ (by omega) (by omega)).trans (MR_133 hM hcc (by omega) (by omega))) ?_
            refine E_s (p' := 62) (st' := aA 124 :: _) rfl rfl ?_
            refine E_gA (b := 133) rfl rfl rfl rfl rfl rfl ?_
            refine E_s (p' := 66) (st' := aI ((1800 * i + 30 * c + jp + 1 : Nat) : Int) :: _) rfl rfl ?_
            refine E_s (p' := 67) (st' := aI 1 :: _) rfl rfl ?_
            refine E_sub (v := ((1800 * i + 30 * c + jp : Nat) : Int)) rfl (by omega) (by omega) ?_
            refine E_ald (e := 1800 * i + 30 * c + jp) (N := 7200) (v := ((ht (Cp R c jp) : Nat) : Int)) rfl rfl (rfl) (by omega) ((I2 _ _ (by omega) (by omega)).trans (MR_133 hM hcc (by omega) (by omega))) ?_
            refine E_sub (v := ((ht (Cp R c (jp + 1)) : Int) - (ht (Cp R c jp) : Int))) rfl (by omega) (by omega) ?_
            refine E_s (p' := 71) (st' := aI 4 :: _) rfl rfl ?_
            refine E_icmp_gt (x := ((ht (Cp R c (jp + 1)) : Int) - (ht (Cp R c jp) : Int))) (y := 4) rfl (by decide) (fun h_8 => ?_) (fun h_8 => ?_)
            · refine E_go (p' := 78) (L' := [some (aA 124), some (aI ((60 * i + c : Nat) : Int)), some (aI ((fst : Nat) : Int)), some (aI ((1800 * i + 30 * c + jp + 1 : Nat) : Int)), x4]) (st' := []) rfl rfl rfl ?_
              refine E_s (p' := 79) (st' := aI 0 :: _) rfl rfl ?_
              refine E_s (p' := 81) (L' := [some (aA 124), some (aI ((60 * i + c : Nat) : Int)), some (aI ((fst : Nat) : Int)), some (aI ((1800 * i + 30 * c + jp + 1 : Nat) : Int)), some (aI 0)]) rfl rfl ?_
              refine E_s (p' := 83) (st' := aI 0 :: _) rfl rfl ?_
              refine E_s (p' := 125) rfl rfl ?_
              refine E_s (p' := 126) (st' := aA 124 :: _) rfl rfl ?_
              refine E_gA (b := 133) rfl rfl rfl rfl rfl rfl ?_
              refine E_s (p' := 130) (st' := aI ((1800 * i + 30 * c + jp + 1 : Nat) : Int) :: _) rfl rfl ?_
              refine E_ald (e := 1800 * i + 30 * c + jp + 1) (N := 7200) (v := ((ht (Cp R c (jp + 1)) : Nat) : Int)) rfl rfl (rfl) (by omega) ((I2 _ _ (by omega) (by omega)).trans (MR_133 hM hcc (by omega) (by omega))) ?_
              refine E_s (p' := 132) (L' := [some (aA 124), some (aI ((60 * i + c : Nat) : Int)), some (aI ((ht (Cp R c (jp + 1)) : Nat) : Int)), some (aI ((1800 * i + 30 * c + jp + 1 : Nat) : Int)), some (aI 0)]) rfl rfl ?_
              refine E_s (p' := 133) (st' := aA 124 :: _) rfl rfl ?_
              refine E_gA (b := 141) rfl rfl rfl rfl rfl rfl ?_
              refine E_s (p' := 137) (st' := aA 124 :: _) rfl rfl ?_
              refine E_gI (v := (((clm R c (jp + 1)).length : Nat) : Int)) rfl rfl rfl rfl hI.1 ?_
              refine E_s (p' := 141) (st' := aI ((ht (Cp R c (jp + 1)) : Nat) : Int) :: _) rfl rfl ?_
              refine E_ast (e := (clm R c (jp + 1)).length) (N := 30) rfl rfl (rfl) (by omega) ?_
              refine E_s (p' := 143) (st' := aA 124 :: _) rfl rfl ?_
              refine E_gA (b := 142) rfl rfl rfl rfl rfl rfl ?_
              refine E_s (p' := 147) (st' := aA 124 :: _) rfl rfl ?_
              refine E_gI (v := (((clm R c (jp + 1)).length : Nat) : Int)) rfl rfl rfl rfl ((up2_ne (by omega)).trans (hI.1)) ?_
              refine E_s (p' := 151) (st' := aA 124 :: _) rfl rfl ?_
              refine E_gA (b := 134) rfl rfl rfl rfl rfl rfl ?_
              refine E_s (p' := 155) (st' := aI ((1800 * i + 30 * c + jp + 1 : Nat) : Int) :: _) rfl rfl ?_
              refine E_ald (e := 1800 * i + 30 * c + jp + 1) (N := 7200) (v := ((so (Cp R c (jp + 1)) : Nat) : Int)) rfl rfl (rfl) (by omega) ((up2_ne (by omega)).trans (((I2 _ _ (by omega) (by omega)).trans (MR_134 hM hcc (by omega) (by omega))))) ?_
              refine E_ast (e := (clm R c (jp + 1)).length) (N := 30) rfl rfl (rfl) (by omega) ?_
              refine E_s (p' := 158) (st' := aA 124 :: _) rfl rfl ?_
              refine E_gA (b := 143) rfl rfl rfl rfl rfl rfl ?_
              refine E_s (p' := 162) (st' := aA 124 :: _) rfl rfl ?_
              refine E_gI (v := (((clm R c (jp + 1)).length : Nat) : Int)) rfl rfl rfl rfl ((up2_ne (by omega)).trans ((up2_ne (by omega)).trans (hI.1))) ?_
              refine E_s (p' := 166) (st' := aA 124 :: _) rfl rfl ?_
              refine E_gA (b := 134) rfl rfl rfl rfl rfl rfl ?_
              refine E_s (p' := 170) (st' := aI ((1800 * i + 30 * c + jp + 1 : Nat) : Int) :: _) rfl rfl ?_
              refine E_ald (e := 1800 * i + 30 * c + jp + 1) (N := 7200) (v := ((so (Cp R c (jp + 1)) : Nat) : Int)) rfl rfl (rfl) (by omega) ((up2_ne (by omega)).trans ((up2_ne (by omega)).trans (((I2 _ _ (by omega) (by omega)).trans (MR_134 hM hcc (by omega) (by omega)))))) ?_
              refine E_s (p' := 172) (st' := aI 1 :: _) rfl rfl ?_
              refine E_icmp_ne (x := ((so (Cp R c (jp + 1)) : Nat) : Int)) (y := 1) rfl (by decide) (fun h_9 => ?_) (fun h_9 => ?_)
              · refine E_go (p' := 184) (L' := [some (aA 124), some (aI ((60 * i + c : Nat) : Int)), some (aI ((ht (Cp R c (jp + 1)) : Nat) : Int)), some (aI ((1800 * i + 30 * c + jp + 1 : Nat) : Int)), some (aI 0)]) (st' := [aI (((clm R c (jp + 1)).length : Nat) : Int), aA 143]) rfl rfl rfl ?_
                refine E_s (p' := 185) (st' := aI 1 :: _) rfl rfl ?_
                refine E_ast (e := (clm R c (jp + 1)).length) (N := 30) rfl rfl (rfl) (by omega) ?_
                refine E_s (p' := 187) (st' := aA 124 :: _) rfl rfl ?_
                refine E_s (p' := 188) (st' := aA 124 :: _) rfl rfl ?_
                refine E_gI (v := (((clm R c (jp + 1)).length : Nat) : Int)) rfl rfl rfl rfl ((up2_ne (by omega)).trans ((up2_ne (by omega)).trans ((up2_ne (by omega)).trans (hI.1)))) ?_
                refine E_s (p' := 192) (st' := aI 1 :: _) rfl rfl ?_
                refine E_add (v := (((clm R c (jp + 1)).length + 1 : Nat) : Int)) rfl (by omega) (by omega) ?_
                refine E_pI rfl rfl rfl rfl (Or.inl rfl) ?_
                refine E_inc (x := ((1800 * i + 30 * c + jp + 1 : Nat) : Int)) (w := ((1800 * i + 30 * c + jp + 2 : Nat) : Int)) (L' := [some (aA 124), some (aI ((60 * i + c : Nat) : Int)), some (aI ((ht (Cp R c (jp + 1)) : Nat) : Int)), some (aI ((1800 * i + 30 * c + jp + 2 : Nat) : Int)), some (aI 0)]) rfl rfl rfl (by omega) (by omega) rfl ?_
                refine E_s (p' := 12) rfl rfl ?_
                have he : ends R c jp = true := ends_n (by omega)
                have ecl : clm R c (jp + 1) = cls R c (jp + 1) := (by show cls R c jp ++ [clx R c jp] = cls R c (jp + 1); rw [cls_t he]; rfl)
                have ebg : beg R c (jp + 1) = jp + 1 := beg_t he
                have hlz : (cls R c (jp + 1) ++ [clx R c (jp + 1)]).length = (cls R c (jp + 1)).length + 1 := by rw [List.length_append]; rfl
                rw [ecl]
                rw [ecl] at hI
                refine ih (jp + 1 + 1) _ _ _ (by omega) (by omega) ?_ (fun x hx => ?_) (fun b z g1 g2 => ((up2_o (by omega)).trans ((up2_o (by omega)).trans ((up2_o (by omega)).trans (up2_o (by omega))))).trans (I2 b z g1 g2))
                · show CLm (cls R c (jp + 1) ++ [clx R c (jp + 1)]) _
                  refine ⟨up2_eq.trans (by rw [hlz]), fun x hx => ?_⟩
                  by_cases g : x = (cls R c (jp + 1)).length
                  · subst g
                    rw [g3_r]
                    refine ⟨((up2_ne (by omega)).trans ((up2_ne (by omega)).trans ((up2_ne (by omega)).trans (up2_eq)))).trans ?_, ((up2_ne (by omega)).trans ((up2_ne (by omega)).trans (up2_eq))), ((up2_ne (by omega)).trans (up2_eq)).trans ?_⟩
                    · show _ = (clp R c (jp + 1) : Int)
                      unfold clp; rw [ebg]; omega
                    · show _ = (clw R c (jp + 1) : Int)
                      unfold clw; rw [ebg]
                      split
                      · omega
                      · split <;> omega
                  · rw [g3_l (by omega)]
                    obtain ⟨k1, k2, k3⟩ := hI.2 x (by omega)
                    exact ⟨((up2_o (by omega)).trans ((up2_o (by omega)).trans ((up2_o (by omega)).trans (up2_o (by omega))))).trans k1, ((up2_o (by omega)).trans ((up2_o (by omega)).trans ((up2_o (by omega)).trans (up2_o (by omega))))).trans k2, ((up2_o (by omega)).trans ((up2_o (by omega)).trans ((up2_o (by omega)).trans (up2_o (by omega))))).trans k3⟩
                · have ex : x = jp + 1 := by omega
                  rw [ex, ebg]
              · refine E_go (p' := 175) (L' := [some (aA 124), some (aI ((60 * i + c : Nat) : Int)), some (aI ((ht (Cp R c (jp + 1)) : Nat) : Int)), some (aI ((1800 * i + 30 * c + jp + 1 : Nat) : Int)), some (aI 0)]) (st' := [aI (((clm R c (jp + 1)).length : Nat) : Int), aA 143]) rfl rfl rfl ?_
                refine E_s (p' := 176) (st' := aA 124 :: _) rfl rfl ?_
                refine E_gA (b := 135) rfl rfl rfl rfl rfl rfl ?_
                refine E_s (p' := 180) (st' := aI ((1800 * i + 30 * c + jp + 1 : Nat) : Int) :: _) rfl rfl ?_
                refine E_ald (e := 1800 * i + 30 * c + jp + 1) (N := 7200) (v := ((tu (Cp R c (jp + 1)) : Nat) : Int)) rfl rfl (rfl) (by omega) ((up2_ne (by omega)).trans ((up2_ne (by omega)).trans (((I2 _ _ (by omega) (by omega)).trans (MR_135 hM hcc (by omega) (by omega)))))) ?_
                refine E_s (p' := 185) rfl rfl ?_
                refine E_ast (e := (clm R c (jp + 1)).length) (N := 30) rfl rfl (rfl) (by omega) ?_
                refine E_s (p' := 187) (st' := aA 124 :: _) rfl rfl ?_
                refine E_s (p' := 188) (st' := aA 124 :: _) rfl rfl ?_
                refine E_gI (v := (((clm R c (jp + 1)).length : Nat) : Int)) rfl rfl rfl rfl ((up2_ne (by omega)).trans ((up2_ne (by omega)).trans ((up2_ne (by omega)).trans (hI.1)))) ?_
                refine E_s (p' := 192) (st' := aI 1 :: _) rfl rfl ?_
                refine E_add (v := (((clm R c (jp + 1)).length + 1 : Nat) : Int)) rfl (by omega) (by omega) ?_
                refine E_pI rfl rfl rfl rfl (Or.inl rfl) ?_
                refine E_inc (x := ((1800 * i + 30 * c + jp + 1 : Nat) : Int)) (w := ((1800 * i + 30 * c + jp + 2 : Nat) : Int)) (L' := [some (aA 124), some (aI ((60 * i + c : Nat) : Int)), some (aI ((ht (Cp R c (jp + 1)) : Nat) : Int)), some (aI ((1800 * i + 30 * c + jp + 2 : Nat) : Int)), some (aI 0)]) rfl rfl rfl (by omega) (by omega) rfl ?_
                refine E_s (p' := 12) rfl rfl ?_
                have he : ends R c jp = true := ends_n (by omega)
                have ecl : clm R c (jp + 1) = cls R c (jp + 1) := (by show cls R c jp ++ [clx R c jp] = cls R c (jp + 1); rw [cls_t he]; rfl)
                have ebg : beg R c (jp + 1) = jp + 1 := beg_t he
                have hlz : (cls R c (jp + 1) ++ [clx R c (jp + 1)]).length = (cls R c (jp + 1)).length + 1 := by rw [List.length_append]; rfl
                rw [ecl]
                rw [ecl] at hI
                refine ih (jp + 1 + 1) _ _ _ (by omega) (by omega) ?_ (fun x hx => ?_) (fun b z g1 g2 => ((up2_o (by omega)).trans ((up2_o (by omega)).trans ((up2_o (by omega)).trans (up2_o (by omega))))).trans (I2 b z g1 g2))
                · show CLm (cls R c (jp + 1) ++ [clx R c (jp + 1)]) _
                  refine ⟨up2_eq.trans (by rw [hlz]), fun x hx => ?_⟩
                  by_cases g : x = (cls R c (jp + 1)).length
                  · subst g
                    rw [g3_r]
                    refine ⟨((up2_ne (by omega)).trans ((up2_ne (by omega)).trans ((up2_ne (by omega)).trans (up2_eq)))).trans ?_, ((up2_ne (by omega)).trans ((up2_ne (by omega)).trans (up2_eq))), ((up2_ne (by omega)).trans (up2_eq)).trans ?_⟩
                    · show _ = (clp R c (jp + 1) : Int)
                      unfold clp; rw [ebg]; omega
                    · show _ = (clw R c (jp + 1) : Int)
                      unfold clw; rw [ebg]
                      split
                      · omega
                      · split <;> omega
                  · rw [g3_l (by omega)]
                    obtain ⟨k1, k2, k3⟩ := hI.2 x (by omega)
                    exact ⟨((up2_o (by omega)).trans ((up2_o (by omega)).trans ((up2_o (by omega)).trans (up2_o (by omega))))).trans k1, ((up2_o (by omega)).trans ((up2_o (by omega)).trans ((up2_o (by omega)).trans (up2_o (by omega))))).trans k2, ((up2_o (by omega)).trans ((up2_o (by omega)).trans ((up2_o (by omega)).trans (up2_o (by omega))))).trans k3⟩
                · have ex : x = jp + 1 := by omega
                  rw [ex, ebg]
            · refine E_go (p' := 74) (L' := [some (aA 124), some (aI ((60 * i + c : Nat) : Int)), some (aI ((fst : Nat) : Int)), some (aI ((1800 * i + 30 * c + jp + 1 : Nat) : Int)), x4]) (st' := []) rfl rfl rfl ?_
              refine E_s (p' := 75) (st' := aI 1 :: _) rfl rfl ?_
              refine E_s (p' := 79) rfl rfl ?_
              refine E_s (p' := 81) (L' := [some (aA 124), some (aI ((60 * i + c : Nat) : Int)), some (aI ((fst : Nat) : Int)), some (aI ((1800 * i + 30 * c + jp + 1 : Nat) : Int)), some (aI 1)]) rfl rfl ?_
              refine E_s (p' := 83) (st' := aI 1 :: _) rfl rfl ?_
              refine E_s (p' := 86) rfl rfl ?_
              refine E_s (p' := 87) (st' := aA 124 :: _) rfl rfl ?_
              refine E_gA (b := 143) rfl rfl rfl rfl rfl rfl ?_
              refine E_s (p' := 91) (st' := aA 124 :: _) rfl rfl ?_
              refine E_gI (v := (((clm R c (jp + 1)).length : Nat) : Int)) rfl rfl rfl rfl hI.1 ?_
              refine E_s (p' := 95) (st' := aI 1 :: _) rfl rfl ?_
              refine E_sub (v := (((clm R c (jp + 1)).length : Int) - 1)) rfl (by omega) (by omega) ?_
              refine E_s (p' := 97) rfl rfl ?_
              refine E_ald (e := (((clm R c (jp + 1)).length : Int) - 1).toNat) (N := 30) (v := ((clw R c jp : Nat) : Int)) rfl rfl (by omega) (by omega) (by rw [show (((clm R c (jp + 1)).length : Int) - 1).toNat = (cls R c jp).length by rw [show (clm R c (jp + 1)).length = (cls R c jp).length + 1 by show (_ ++ [_]).length = _; rw [List.length_append]; rfl]; omega, (hI.2 _ (by show _ < (_ ++ [_]).length; rw [List.length_append]; show _ < _ + 1; omega)).2.2]; show (((cls R c jp ++ [clx R c jp]).getD (cls R c jp).length (0, (0, 0))).2.2 : Int) = _; rw [g3_r]; rfl) ?_
              refine E_s (p' := 99) (st' := aI 1 :: _) rfl rfl ?_
              refine E_add (v := ((clw R c jp + 1 : Nat) : Int)) rfl (by omega) (by omega) ?_
              refine E_ast (e := (((clm R c (jp + 1)).length : Int) - 1).toNat) (N := 30) rfl rfl (by omega) (by omega) ?_
              refine E_s (p' := 102) (st' := aA 124 :: _) rfl rfl ?_
              refine E_gA (b := 141) rfl rfl rfl rfl rfl rfl ?_
              refine E_s (p' := 106) (st' := aA 124 :: _) rfl rfl ?_
              refine E_gI (v := (((clm R c (jp + 1)).length : Nat) : Int)) rfl rfl rfl rfl ((up2_ne (by omega)).trans (hI.1)) ?_
              refine E_s (p' := 110) (st' := aI 1 :: _) rfl rfl ?_
              refine E_sub (v := (((clm R c (jp + 1)).length : Int) - 1)) rfl (by omega) (by omega) ?_
              refine E_s (p' := 112) (st' := aI ((fst : Nat) : Int) :: _) rfl rfl ?_
              refine E_s (p' := 113) (st' := aA 124 :: _) rfl rfl ?_
              refine E_gA (b := 133) rfl rfl rfl rfl rfl rfl ?_
              refine E_s (p' := 117) (st' := aI ((1800 * i + 30 * c + jp + 1 : Nat) : Int) :: _) rfl rfl ?_
              refine E_ald (e := 1800 * i + 30 * c + jp + 1) (N := 7200) (v := ((ht (Cp R c (jp + 1)) : Nat) : Int)) rfl rfl (rfl) (by omega) ((up2_ne (by omega)).trans (((I2 _ _ (by omega) (by omega)).trans (MR_133 hM hcc (by omega) (by omega))))) ?_
              refine E_add (v := ((fst + ht (Cp R c (jp + 1)) : Nat) : Int)) rfl (by omega) (by omega) ?_
              refine E_s (p' := 120) (st' := aI 2 :: _) rfl rfl ?_
              refine E_div (v := (((fst + ht (Cp R c (jp + 1))) / 2 : Nat) : Int)) rfl (by omega) (by omega) (by omega) (by omega) ?_
              refine E_ast (e := (((clm R c (jp + 1)).length : Int) - 1).toNat) (N := 30) rfl rfl (by omega) (by omega) ?_
              refine E_s (p' := 196) rfl rfl ?_
              refine E_inc (x := ((1800 * i + 30 * c + jp + 1 : Nat) : Int)) (w := ((1800 * i + 30 * c + jp + 2 : Nat) : Int)) (L' := [some (aA 124), some (aI ((60 * i + c : Nat) : Int)), some (aI ((fst : Nat) : Int)), some (aI ((1800 * i + 30 * c + jp + 2 : Nat) : Int)), some (aI 1)]) rfl rfl rfl (by omega) (by omega) rfl ?_
              refine E_s (p' := 12) rfl rfl ?_
              have he := ends_g (R := R) (c := c) (j := jp) (by omega) (by omega) (by omega) (by omega)
              have eq9 : (((clm R c (jp + 1)).length : Int) - 1).toNat = (cls R c jp).length := by omega
              rw [eq9]
              refine ih (jp + 1 + 1) _ _ _ (by omega) (by omega) ?_ (fun x hx => ?_) (fun b z g1 g2 => ((up2_ne (by omega)).trans (up2_ne (by omega))).trans (I2 b z g1 g2))
              · have e2 : clm R c (jp + 1 + 1) = cls R c jp ++ [clx R c (jp + 1)] := by show cls R c (jp + 1) ++ _ = _; rw [cls_f he]
                have ew : clw R c (jp + 1) = clw R c jp + 1 := by
                  have := beg_le R c jp
                  unfold clw
                  rw [if_pos (by omega), if_pos (by omega), beg_f he]; omega
                have ep : clp R c (jp + 1) = (fst + ht (Cp R c (jp + 1))) / 2 := by unfold clp; rw [beg_f he, hfs]
                have hlz : (cls R c jp ++ [clx R c (jp + 1)]).length = (cls R c jp).length + 1 := by rw [List.length_append]; rfl
                rw [e2]
                refine ⟨((up2_ne (by omega)).trans ((up2_ne (by omega)).trans hI.1)).trans (by rw [hln, hlz]), fun x hx => ?_⟩
                by_cases g : x = (cls R c jp).length
                · subst g
                  rw [g3_r]
                  refine ⟨up2_eq.trans (by show _ = (clp R c (jp + 1) : Int); rw [ep]), ((up2_ne (by omega)).trans ((up2_ne (by omega)).trans (hI.2 _ (by omega)).2.1)).trans ?_, ((up2_ne (by omega)).trans up2_eq).trans (by show _ = (clw R c (jp + 1) : Int); rw [ew])⟩
                  show (((cls R c jp ++ [clx R c jp]).getD (cls R c jp).length (0, (0, 0))).2.1 : Int) = (so (Cp R c (jp + 1)) : Int)
                  rw [g3_r]
                  show (so (Cp R c jp) : Int) = _
                  omega
                · rw [g3_l (by omega)]
                  obtain ⟨k1, k2, k3⟩ := hI.2 x (by omega)
                  have e3 : (clm R c (jp + 1)).getD x (0, (0, 0)) = (cls R c jp).getD x (0, (0, 0)) := g3_l (by omega)
                  rw [e3] at k1 k2 k3
                  exact ⟨(up2_sl g).trans ((up2_ne (by omega)).trans k1), (up2_ne (by omega)).trans ((up2_ne (by omega)).trans k2), (up2_ne (by omega)).trans ((up2_sl g).trans k3)⟩
              · have ex : x = jp + 1 := by omega
                rw [ex, beg_f he]; exact hfs
theorem m_cluster (hi : i < 4) (hM : MR R i m0) (hV : VR R) (hcc : c < Cn R) (q : ∀ m1 : Mm, CLm (clsA R c) m1 → (∀ b z, ¬ (b = 124 ∧ z = 19) → ¬ (141 ≤ b ∧ b ≤ 143) → m1 b z = m0 b z) → Q none (m1, tl len)) : E 146 0 [some (aA 124), some (aI ((60 * i + c : Nat) : Int)), none, none, none] [] (m0, tl len) Q := by
  have hn60 := hV.1
  refine E_s (p' := 1) (st' := aA 124 :: _) rfl rfl ?_
  refine E_s (p' := 2) (st' := aI 0 :: _) rfl rfl ?_
  refine E_pI rfl rfl rfl rfl (Or.inl rfl) ?_
  refine E_s (p' := 6) (st' := aI 0 :: _) rfl rfl ?_
  refine E_s (p' := 7) (L' := [some (aA 124), some (aI ((60 * i + c : Nat) : Int)), some (aI 0), none, none]) rfl rfl ?_
  refine E_s (p' := 9) (st' := aI 30 :: _) rfl rfl ?_
  refine E_s (p' := 10) (st' := aI ((60 * i + c : Nat) : Int) :: _) rfl rfl ?_
  refine E_mul (v := ((1800 * i + 30 * c : Nat) : Int)) rfl (by omega) (by omega) ?_
  refine E_s (p' := 12) (L' := [some (aA 124), some (aI ((60 * i + c : Nat) : Int)), some (aI 0), some (aI ((1800 * i + 30 * c : Nat) : Int)), none]) rfl rfl ?_
  exact yl_cl12 hi hM hV hcc q (Ck R c + 1) 0 0 _ none (by omega) (by omega) ⟨up2_eq, fun x hx => absurd hx (Nat.not_lt_zero _)⟩ (fun x hx => absurd hx (by omega)) (fun b z g1 g2 => up2_o g1)
end

/-- nothing but the model's reading has changed -/
def FrM (m m' : Mm) : Prop := ∀ b z, ¬ (b = 124 ∧ 19 ≤ z ∧ z ≤ 29) → ¬ (141 ≤ b ∧ b ≤ 147) → m' b z = m b z
theorem FrM.rf {m : Mm} : FrM m m := fun _ _ _ _ => rfl
theorem FrM.tr {m m' m'' : Mm} (h : FrM m m') (h' : FrM m' m'') : FrM m m'' := fun b z g1 g2 => (h' b z g1 g2).trans (h b z g1 g2)
theorem FrM.up {m m' : Mm} {a i : Nat} {x : Int} (h : FrM m m') (ha : (a = 124 ∧ 19 ≤ i ∧ i ≤ 29) ∨ (141 ≤ a ∧ a ≤ 147)) : FrM m (up2 m' a i x) := fun b z g1 g2 => (up2_o (by omega)).trans (h b z g1 g2)
theorem FrM.MR {R : RD} {i : Nat} {m m' : Mm} (h : FrM m m') (hM : MR R i m) : MR R i m' := hM.of (fun b j g1 g2 => h b j (by omega) (by omega))
theorem FrM.MS {S : Nat → RD} {m m' : Mm} (h : FrM m m') (hS : MS S m) : MS S m' := hS.of (fun b j g1 g2 => h b j (by omega) (by omega))
theorem FrM.Co1 {m m' : Mm} (h : FrM m m') : Co1 m m' := fun b j hb => h b j (by omega) (by omega)
def RdM (R : RD) (m : Mm) : Prop := m 124 24 = (RL R : Int) ∧ m 124 25 = bi (Run R) ∧ m 124 26 = bi (Rkt R) ∧ ∀ l, l < RL R → m 145 l = (RF R l : Int) ∧ m 146 l = (Rla R l : Int) ∧ m 147 l = (Rme R l : Int)
theorem RdM.of {R : RD} {m m' : Mm} (h : RdM R m) (e : ∀ b j, (b = 124 ∧ 24 ≤ j ∧ j ≤ 26) ∨ (145 ≤ b ∧ b ≤ 147) → m' b j = m b j) : RdM R m' := by
  obtain ⟨h1, h2, h3, h4⟩ := h
  refine ⟨(e _ _ (by omega)).trans h1, (e _ _ (by omega)).trans h2, (e _ _ (by omega)).trans h3, fun l hl => ?_⟩
  obtain ⟨g1, g2, g3⟩ := h4 l hl
  exact ⟨(e _ _ (by omega)).trans g1, (e _ _ (by omega)).trans g2, (e _ _ (by omega)).trans g3⟩
/-- what the model has counted: the CLUSTERS l -/
def PBm (m0 m : Mm) (l : List Cl3) : Prop := FrM m0 m ∧ (∀ h, h < 601 → m 144 h = (atp l h : Int)) ∧ m 124 25 = bi (aun l) ∧ m 124 26 = bi (!l.isEmpty)
theorem take_g {l : List Cl3} {k : Nat} (h : k < l.length) : l.take (k + 1) = l.take k ++ [l.getD k (0, (0, 0))] := by
  rw [List.take_succ, List.getD_eq_getElem?_getD, List.getElem?_eq_getElem h]; rfl
theorem get_mem {l : List Cl3} {k : Nat} (h : k < l.length) : l.getD k (0, (0, 0)) ∈ l := by
  rw [List.getD_eq_getElem?_getD, List.getElem?_eq_getElem h]; exact List.getElem_mem h
theorem lvS_n {f : Nat → Nat} {g : Nat} : ∀ h, (lvS f g h).1 ≤ h := by
  intro h
  induction h with
  | zero => exact Nat.le_refl _
  | succ h ih =>
    obtain ⟨n, F, Lx, M, hq⟩ : ∃ n F Lx M, lvS f g h = (n, (F, (Lx, M))) := ⟨_, _, _, _, rfl⟩
    rw [hq] at ih
    have ih : n ≤ h := ih
    by_cases h0 : f h = 0
    · rw [lvS_0 h0, hq]; show n ≤ _; omega
    · by_cases h1 : n = 0 ∨ Lx (n - 1) + g < h
      · rw [lvS_new hq h0 h1]; show n + 1 ≤ _; omega
      · rw [lvS_old hq h0 h1]; show n ≤ _; omega
section
variable {len : Nat} {m0 : Mm} {Q : Option AV → Sx → Prop} {R : RD} {i : Nat}
theorem yl_rA (hi : i < 4) (hk : ∀ (m1 : Mm) (x3 : Option AV), FrM m0 m1 → (∀ h, h < 601 → m1 144 h = 0) → E 147 22 [some (aA 124), some (aI (i : Int)), some (aI 601), x3] [] (m1, tl len) Q) : ∀ (d : Nat) (h : Nat) (m : Mm) (x3 : Option AV), (601 < h + d) → (h ≤ 601) → (FrM m0 m) → (∀ j, j < h → m 144 j = 0) → E 147 2 [some (aA 124), some (aI ((i : Nat) : Int)), some (aI ((h : Nat) : Int)), x3] [] (m, tl len) Q := by
  intro d
  induction d with
  | zero => intro h m x3 hd hh I1 I2; omega
  | succ d ih =>
    intro h m x3 hd hh I1 I2
    refine E_s (p' := 3) (st' := aI ((h : Nat) : Int) :: _) rfl rfl ?_
    refine E_s (p' := 6) (st' := aI 601 :: _) rfl rfl ?_
    refine E_icmp_ge (x := ((h : Nat) : Int)) (y := 601) rfl (by decide) (fun h_1 => ?_) (fun h_1 => ?_)
    · refine E_go (p' := 22) (L' := [some (aA 124), some (aI ((i : Nat) : Int)), some (aI ((h : Nat) : Int)), x3]) (st' := []) rfl rfl rfl ?_
      have e9 : h = 601 := by omega
      subst e9
      exact hk m x3 I1 I2
    · refine E_go (p' := 9) (L' := [some (aA 124), some (aI ((i : Nat) : Int)), some (aI ((h : Nat) : Int)), x3]) (st' := []) rfl rfl rfl ?_
      refine E_s (p' := 10) (st' := aA 124 :: _) rfl rfl ?_
      refine E_gA (b := 144) rfl rfl rfl rfl rfl rfl ?_
      refine E_s (p' := 14) (st' := aI ((h : Nat) : Int) :: _) rfl rfl ?_
      refine E_s (p' := 15) (st' := aI 0 :: _) rfl rfl ?_
      refine E_ast (e := h) (N := 601) rfl rfl (rfl) (by omega) ?_
      refine E_inc (x := ((h : Nat) : Int)) (w := ((h + 1 : Nat) : Int)) (L' := [some (aA 124), some (aI ((i : Nat) : Int)), some (aI ((h + 1 : Nat) : Int)), x3]) rfl rfl rfl (by omega) (by omega) rfl ?_
      refine E_s (p' := 2) rfl rfl ?_
      exact ih (h + 1) _ x3 (by omega) (by omega) (I1.up (by omega)) (fun j hj => by by_cases g9 : j = h; subst g9; exact up2_eq; exact (up2_sl g9).trans (I2 j (by omega)))
theorem yl_rC (hi : i < 4) (hM : MR R i m0) (hV : VR R) {c : Nat} (hc : c < Cn R) (hk : ∀ m1 : Mm, PBm m0 m1 (acl R (c + 1)) → E 147 115 [some (aA 124), some (aI (i : Int)), some (aI (c : Int)), some (aI ((clsA R c).length : Int))] [] (m1, tl len) Q) : ∀ (d : Nat) (k : Nat) (m : Mm), ((clsA R c).length < k + d) → (k ≤ (clsA R c).length) → (PBm m0 m (acl R c ++ (clsA R c).take k)) → (CLm (clsA R c) m) → E 147 56 [some (aA 124), some (aI ((i : Nat) : Int)), some (aI ((c : Nat) : Int)), some (aI ((k : Nat) : Int))] [] (m, tl len) Q := by
  intro d
  induction d with
  | zero => intro k m hd hkk hI hC9; omega
  | succ d ih =>
    intro k m hd hkk hI hC9
    obtain ⟨i1, i2, i3, i4⟩ := id hI
    have hn60 := hV.1
    have hl1 : (clsA R c).length ≤ 30 := Nat.le_trans (cls_len R c (Ck R c)) (hV.2.2.1 c hc).2.2.2.2.2
    have hl2 := acl_len hV c (by omega)
    refine E_s (p' := 57) (st' := aI ((k : Nat) : Int) :: _) rfl rfl ?_
    refine E_s (p' := 58) (st' := aA 124 :: _) rfl rfl ?_
    refine E_gI (v := (((clsA R c).length : Nat) : Int)) rfl rfl rfl rfl hC9.1 ?_
    refine E_icmp_ge (x := ((k : Nat) : Int)) (y := (((clsA R c).length : Nat) : Int)) rfl (by decide) (fun h_1 => ?_) (fun h_1 => ?_)
    · refine E_go (p' := 115) (L' := [some (aA 124), some (aI ((i : Nat) : Int)), some (aI ((c : Nat) : Int)), some (aI ((k : Nat) : Int))]) (st' := []) rfl rfl rfl ?_
      have ek : k = (clsA R c).length := by omega
      subst ek
      rw [List.take_length] at hI
      exact hk m hI
    · refine E_go (p' := 64) (L' := [some (aA 124), some (aI ((i : Nat) : Int)), some (aI ((c : Nat) : Int)), some (aI ((k : Nat) : Int))]) (st' := []) rfl rfl rfl ?_
      have hpl := cls_pl hV hc _ (Nat.le_refl _) _ (get_mem (l := clsA R c) (k := k) (by omega))
      have hat := atp_le (acl R c ++ (clsA R c).take k) ((clsA R c).getD k (0, (0, 0))).1
      rw [List.length_append, List.length_take] at hat
      refine E_s (p' := 65) (st' := aA 124 :: _) rfl rfl ?_
      refine E_gA (b := 144) rfl rfl rfl rfl rfl rfl ?_
      refine E_s (p' := 69) (st' := aA 124 :: _) rfl rfl ?_
      refine E_gA (b := 141) rfl rfl rfl rfl rfl rfl ?_
      refine E_s (p' := 73) (st' := aI ((k : Nat) : Int) :: _) rfl rfl ?_
      refine E_ald (e := k) (N := 30) (v := ((((clsA R c).getD k (0, (0, 0))).1 : Nat) : Int)) rfl rfl (rfl) (by omega) (hC9.2 _ (by omega)).1 ?_
      refine E_s (p' := 75) rfl rfl ?_
      refine E_ald (e := ((clsA R c).getD k (0, (0, 0))).1) (N := 601) (v := ((atp (acl R c ++ (clsA R c).take k) (((clsA R c).getD k (0, (0, 0))).1) : Nat) : Int)) rfl rfl (rfl) (by omega) (i2 _ (by omega)) ?_
      refine E_s (p' := 77) (st' := aI 1 :: _) rfl rfl ?_
      refine E_add (v := ((atp (acl R c ++ (clsA R c).take k) (((clsA R c).getD k (0, (0, 0))).1) + 1 : Nat) : Int)) rfl (by omega) (by omega) ?_
      refine E_ast (e := ((clsA R c).getD k (0, (0, 0))).1) (N := 601) rfl rfl (rfl) (by omega) ?_
      refine E_s (p' := 80) (st' := aA 124 :: _) rfl rfl ?_
      refine E_s (p' := 81) (st' := aA 124 :: _) rfl rfl ?_
      refine E_gI (v := (bi (aun (acl R c ++ (clsA R c).take k)))) rfl rfl rfl rfl ((up2_ne (by omega)).trans (i3)) ?_
      suffices h_2 : E 147 101 [some (aA 124), some (aI ((i : Nat) : Int)), some (aI ((c : Nat) : Int)), some (aI ((k : Nat) : Int))] [aI (bi ((aun (acl R c ++ (clsA R c).take k)) || (!decide (((((clsA R c).getD k (0, (0, 0))).2.1 : Nat) : Int) ≤ 0)))), aA 124] (up2 m 144 (((clsA R c).getD k (0, (0, 0))).1) ((atp (acl R c ++ (clsA R c).take k) (((clsA R c).getD k (0, (0, 0))).1) + 1 : Nat) : Int), tl len) Q by
        refine E_b_ne0 (b := (aun (acl R c ++ (clsA R c).take k))) rfl (by decide) (fun h_3 => ?_) (fun h_3 => ?_)
        · refine E_go (p' := 96) (L' := [some (aA 124), some (aI ((i : Nat) : Int)), some (aI ((c : Nat) : Int)), some (aI ((k : Nat) : Int))]) (st' := [aA 124]) rfl rfl rfl ?_
          refine E_s (p' := 97) (st' := aI 1 :: _) rfl rfl ?_
          refine E_s (p' := 101) rfl rfl ?_
          rw [h_3] at h_2
          exact h_2
        · refine E_go (p' := 87) (L' := [some (aA 124), some (aI ((i : Nat) : Int)), some (aI ((c : Nat) : Int)), some (aI ((k : Nat) : Int))]) (st' := [aA 124]) rfl rfl rfl ?_
          refine E_s (p' := 88) (st' := aA 124 :: _) rfl rfl ?_
          refine E_gA (b := 142) rfl rfl rfl rfl rfl rfl ?_
          refine E_s (p' := 92) (st' := aI ((k : Nat) : Int) :: _) rfl rfl ?_
          refine E_ald (e := k) (N := 30) (v := ((((clsA R c).getD k (0, (0, 0))).2.1 : Nat) : Int)) rfl rfl (rfl) (by omega) ((up2_ne (by omega)).trans ((hC9.2 _ (by omega)).2.1)) ?_
          refine E_if_le (x := ((((clsA R c).getD k (0, (0, 0))).2.1 : Nat) : Int)) rfl (by decide) (fun h_4 => ?_) (fun h_4 => ?_)
          · refine E_go (p' := 100) (L' := [some (aA 124), some (aI ((i : Nat) : Int)), some (aI ((c : Nat) : Int)), some (aI ((k : Nat) : Int))]) (st' := [aA 124]) rfl rfl rfl ?_
            refine E_s (p' := 101) (st' := aI 0 :: _) rfl rfl ?_
            rw [h_3] at h_2
            rw [decide_eq_true (p := ((((clsA R c).getD k (0, (0, 0))).2.1 : Nat) : Int) ≤ 0) (by omega)] at h_2
            exact h_2
          · refine E_go (p' := 96) (L' := [some (aA 124), some (aI ((i : Nat) : Int)), some (aI ((c : Nat) : Int)), some (aI ((k : Nat) : Int))]) (st' := [aA 124]) rfl rfl rfl ?_
            refine E_s (p' := 97) (st' := aI 1 :: _) rfl rfl ?_
            refine E_s (p' := 101) rfl rfl ?_
            rw [h_3] at h_2
            rw [decide_eq_false (p := ((((clsA R c).getD k (0, (0, 0))).2.1 : Nat) : Int) ≤ 0) (by omega)] at h_2
            exact h_2
      refine E_pI rfl rfl rfl rfl (Or.inr (bi01 _)) ?_
      refine E_s (p' := 105) (st' := aA 124 :: _) rfl rfl ?_
      refine E_s (p' := 106) (st' := aI 1 :: _) rfl rfl ?_
      refine E_pI rfl rfl rfl rfl (Or.inr (by decide)) ?_
      refine E_inc (x := ((k : Nat) : Int)) (w := ((k + 1 : Nat) : Int)) (L' := [some (aA 124), some (aI ((i : Nat) : Int)), some (aI ((c : Nat) : Int)), some (aI ((k + 1 : Nat) : Int))]) rfl rfl rfl (by omega) (by omega) rfl ?_
      refine E_s (p' := 56) rfl rfl ?_
      refine ih (k + 1) _ (by omega) (by omega) ?_ (hC9.of (fun b j hb => ((up2_o (by omega)).trans ((up2_o (by omega)).trans (up2_o (by omega))))))
      rw [take_g (by omega), ← List.append_assoc]
      refine ⟨((i1.up (by omega)).up (by omega)).up (by omega), fun h hh => ?_, ?_, ?_⟩
      · rw [atp_app]
        refine (up2_ne (by omega)).trans ((up2_ne (by omega)).trans ?_)
        by_cases g9 : h = ((clsA R c).getD k (0, (0, 0))).1
        · rw [if_pos g9, g9]; exact up2_eq
        · rw [if_neg g9]; exact (up2_sl g9).trans (i2 h hh)
      · rw [aun_app]
        refine ((up2_sl (by decide)).trans up2_eq).trans ?_
        congr 2
        by_cases g9 : ((clsA R c).getD k (0, (0, 0))).2.1 = 0
        · rw [g9]; rfl
        · rw [decide_eq_false (by omega), bne_iff_ne.mpr g9]; rfl
      · rw [isE_app]; exact up2_eq
theorem yl_rB (hi : i < 4) (hM : MR R i m0) (hV : VR R) (hk : ∀ (m1 : Mm) (x3 : Option AV), PBm m0 m1 (RA R) → E 147 121 [some (aA 124), some (aI (i : Int)), some (aI (Cn R : Int)), x3] [] (m1, tl len) Q) : ∀ (d : Nat) (c : Nat) (m : Mm) (x3 : Option AV), (Cn R < c + d) → (c ≤ Cn R) → (PBm m0 m (acl R c)) → E 147 34 [some (aA 124), some (aI ((i : Nat) : Int)), some (aI ((c : Nat) : Int)), x3] [] (m, tl len) Q := by
  intro d
  induction d with
  | zero => intro c m x3 hd hcn hI; omega
  | succ d ih =>
    intro c m x3 hd hcn hI
    obtain ⟨i1, i2, i3, i4⟩ := id hI
    have hn60 := hV.1
    have hMm : MR R i m := i1.MR hM
    refine E_s (p' := 35) (st' := aI ((c : Nat) : Int) :: _) rfl rfl ?_
    refine E_s (p' := 36) (st' := aA 124 :: _) rfl rfl ?_
    refine E_gA (b := 125) rfl rfl rfl rfl rfl rfl ?_
    refine E_s (p' := 40) (st' := aI ((i : Nat) : Int) :: _) rfl rfl ?_
    refine E_ald (e := i) (N := 4) (v := ((Cn R : Nat) : Int)) rfl rfl (rfl) (by omega) (MR_125 hMm) ?_
    refine E_icmp_ge (x := ((c : Nat) : Int)) (y := ((Cn R : Nat) : Int)) rfl (by decide) (fun h_1 => ?_) (fun h_1 => ?_)
    · refine E_go (p' := 121) (L' := [some (aA 124), some (aI ((i : Nat) : Int)), some (aI ((c : Nat) : Int)), x3]) (st' := []) rfl rfl rfl ?_
      have e9 : c = Cn R := by omega
      subst e9
      exact hk m x3 hI
    · refine E_go (p' := 44) (L' := [some (aA 124), some (aI ((i : Nat) : Int)), some (aI ((c : Nat) : Int)), x3]) (st' := []) rfl rfl rfl ?_
      refine E_s (p' := 45) (st' := aA 124 :: _) rfl rfl ?_
      refine E_s (p' := 47) (st' := aI 60 :: _) rfl rfl ?_
      refine E_s (p' := 48) (st' := aI ((i : Nat) : Int) :: _) rfl rfl ?_
      refine E_mul (v := ((60 * i : Nat) : Int)) rfl (by omega) (by omega) ?_
      refine E_s (p' := 50) (st' := aI ((c : Nat) : Int) :: _) rfl rfl ?_
      refine E_add (v := ((60 * i + c : Nat) : Int)) rfl (by omega) (by omega) ?_
      refine E_callV (k' := 146) (a := 124) (r := []) (L0 := [some (aA 124), some (aI ((60 * i + c : Nat) : Int)), none, none, none]) rfl rfl rfl rfl rfl rfl rfl rfl rfl rfl ?_
      refine m_cluster hi hMm hV (c := c) (by omega) (fun m1 J1 J2 => ?_)
      refine E_go (p' := 54) (L' := [some (aA 124), some (aI ((i : Nat) : Int)), some (aI ((c : Nat) : Int)), x3]) (st' := []) rfl rfl rfl ?_
      refine E_s (p' := 55) (st' := aI 0 :: _) rfl rfl ?_
      refine E_s (p' := 56) (L' := [some (aA 124), some (aI ((i : Nat) : Int)), some (aI ((c : Nat) : Int)), some (aI 0)]) rfl rfl ?_
      refine yl_rC hi hM hV (by omega) (fun m2 hJ => ?_) ((clsA R c).length + 1) 0 m1 (by omega) (by omega) ?_ J1
      rotate_left
      · rw [List.take_zero, List.append_nil]
        exact ⟨i1.tr (fun b z g1 g2 => J2 b z (by omega) (by omega)), fun h hh => (J2 _ _ (by omega) (by omega)).trans (i2 h hh), (J2 _ _ (by omega) (by omega)).trans i3, (J2 _ _ (by omega) (by omega)).trans i4⟩
      refine E_inc (x := ((c : Nat) : Int)) (w := ((c + 1 : Nat) : Int)) (L' := [some (aA 124), some (aI ((i : Nat) : Int)), some (aI ((c + 1 : Nat) : Int)), some (aI (((clsA R c).length : Nat) : Int))]) rfl rfl rfl (by omega) (by omega) rfl ?_
      refine E_s (p' := 34) rfl rfl ?_
      exact ih (c + 1) m2 _ (by omega) (by omega) hJ
end
section
variable {len : Nat} {m0 : Mm} {Q : Option AV → Sx → Prop} {g i : Nat} {f : Nat → Nat}
theorem yl_rD (hi : i < 4) (hf : ∀ h, h < 601 → m0 144 h = (f h : Int)) (hg : m0 126 i = (g : Int)) (hg1 : g ≤ 100) (fb : ∀ h, f h ≤ 1800) (hk : ∀ (m1 : Mm) (x3 : Option AV), m1 124 24 = ((lvS f g 601).1 : Int) → (∀ l, l < (lvS f g 601).1 → m1 145 l = ((lvS f g 601).2.1 l : Int) ∧ m1 146 l = ((lvS f g 601).2.2.1 l : Int) ∧ m1 147 l = ((lvS f g 601).2.2.2 l : Int)) → (∀ b z, ¬ (b = 124 ∧ z = 24) → ¬ (145 ≤ b ∧ b ≤ 147) → m1 b z = m0 b z) → E 147 244 [some (aA 124), some (aI (i : Int)), some (aI 601), x3] [] (m1, tl len) Q) {x3 : Option AV} : ∀ (d : Nat) (h n : Nat) (F Lx M : Nat → Nat) (m : Mm), (601 < h + d) → (h ≤ 601) → (lvS f g h = (n, (F, (Lx, M)))) → (m 124 24 = (n : Int)) → (∀ l, l < n → m 145 l = (F l : Int) ∧ m 146 l = (Lx l : Int) ∧ m 147 l = (M l : Int)) → (∀ b z, ¬ (b = 124 ∧ z = 24) → ¬ (145 ≤ b ∧ b ≤ 147) → m b z = m0 b z) → E 147 128 [some (aA 124), some (aI ((i : Nat) : Int)), some (aI ((h : Nat) : Int)), x3] [] (m, tl len) Q := by
  intro d
  induction d with
  | zero => intro h n F Lx M m hd hh hq I0 I1 I2; omega
  | succ d ih =>
    intro h n F Lx M m hd hh hq I0 I1 I2
    have hme : ∀ l, M l ≤ 1800 * h := fun l => by have := lvS_me (g := g) fb h l; rw [hq] at this; exact this
    have hmn := hme (n - 1)
    have hlm : Lx (n - 1) ≤ h := by have := lvS_la (f := f) (g := g) h (n - 1); rw [hq] at this; exact this
    have hnh : n ≤ h := by have := lvS_n (f := f) (g := g) h; rw [hq] at this; exact this
    refine E_s (p' := 129) (st' := aI ((h : Nat) : Int) :: _) rfl rfl ?_
    refine E_s (p' := 132) (st' := aI 601 :: _) rfl rfl ?_
    refine E_icmp_ge (x := ((h : Nat) : Int)) (y := 601) rfl (by decide) (fun h_1 => ?_) (fun h_1 => ?_)
    · refine E_go (p' := 244) (L' := [some (aA 124), some (aI ((i : Nat) : Int)), some (aI ((h : Nat) : Int)), x3]) (st' := []) rfl rfl rfl ?_
      have e9 : h = 601 := by omega
      subst e9
      rw [hq] at hk
      exact hk m x3 I0 I1 I2
    · refine E_go (p' := 135) (L' := [some (aA 124), some (aI ((i : Nat) : Int)), some (aI ((h : Nat) : Int)), x3]) (st' := []) rfl rfl rfl ?_
      have hfh := fb h
      refine E_s (p' := 136) (st' := aA 124 :: _) rfl rfl ?_
      refine E_gA (b := 144) rfl rfl rfl rfl rfl rfl ?_
      refine E_s (p' := 140) (st' := aI ((h : Nat) : Int) :: _) rfl rfl ?_
      refine E_ald (e := h) (N := 601) (v := ((f h : Nat) : Int)) rfl rfl (rfl) (by omega) ((I2 _ _ (by omega) (by omega)).trans (hf _ (by omega))) ?_
      refine E_if_ne (x := ((f h : Nat) : Int)) rfl (by decide) (fun h_2 => ?_) (fun h_2 => ?_)
      · refine E_go (p' := 147) (L' := [some (aA 124), some (aI ((i : Nat) : Int)), some (aI ((h : Nat) : Int)), x3]) (st' := []) rfl rfl rfl ?_
        refine E_s (p' := 148) (st' := aA 124 :: _) rfl rfl ?_
        refine E_gI (v := ((n : Nat) : Int)) rfl rfl rfl rfl I0 ?_
        refine E_if_eq (x := ((n : Nat) : Int)) rfl (by decide) (fun h_3 => ?_) (fun h_3 => ?_)
        · refine E_go (p' := 176) (L' := [some (aA 124), some (aI ((i : Nat) : Int)), some (aI ((h : Nat) : Int)), x3]) (st' := []) rfl rfl rfl ?_
          refine E_s (p' := 177) (st' := aA 124 :: _) rfl rfl ?_
          refine E_gA (b := 145) rfl rfl rfl rfl rfl rfl ?_
          refine E_s (p' := 181) (st' := aA 124 :: _) rfl rfl ?_
          refine E_gI (v := ((n : Nat) : Int)) rfl rfl rfl rfl I0 ?_
          refine E_s (p' := 185) (st' := aI ((h : Nat) : Int) :: _) rfl rfl ?_
          refine E_ast (e := n) (N := 601) rfl rfl (rfl) (by omega) ?_
          refine E_s (p' := 187) (st' := aA 124 :: _) rfl rfl ?_
          refine E_gA (b := 147) rfl rfl rfl rfl rfl rfl ?_
          refine E_s (p' := 191) (st' := aA 124 :: _) rfl rfl ?_
          refine E_gI (v := ((n : Nat) : Int)) rfl rfl rfl rfl ((up2_ne (by omega)).trans (I0)) ?_
          refine E_s (p' := 195) (st' := aI 0 :: _) rfl rfl ?_
          refine E_ast (e := n) (N := 601) rfl rfl (rfl) (by omega) ?_
          refine E_s (p' := 197) (st' := aA 124 :: _) rfl rfl ?_
          refine E_s (p' := 198) (st' := aA 124 :: _) rfl rfl ?_
          refine E_gI (v := ((n : Nat) : Int)) rfl rfl rfl rfl ((up2_ne (by omega)).trans ((up2_ne (by omega)).trans (I0))) ?_
          refine E_s (p' := 202) (st' := aI 1 :: _) rfl rfl ?_
          refine E_add (v := ((n + 1 : Nat) : Int)) rfl (by omega) (by omega) ?_
          refine E_pI rfl rfl rfl rfl (Or.inl rfl) ?_
          refine E_s (p' := 207) (st' := aA 124 :: _) rfl rfl ?_
          refine E_gA (b := 146) rfl rfl rfl rfl rfl rfl ?_
          refine E_s (p' := 211) (st' := aA 124 :: _) rfl rfl ?_
          refine E_gI (v := ((n + 1 : Nat) : Int)) rfl rfl rfl rfl up2_eq ?_
          refine E_s (p' := 215) (st' := aI 1 :: _) rfl rfl ?_
          refine E_sub (v := ((n : Nat) : Int)) rfl (by omega) (by omega) ?_
          refine E_s (p' := 217) (st' := aI ((h : Nat) : Int) :: _) rfl rfl ?_
          refine E_ast (e := n) (N := 601) rfl rfl (rfl) (by omega) ?_
          refine E_s (p' := 219) (st' := aA 124 :: _) rfl rfl ?_
          refine E_gA (b := 147) rfl rfl rfl rfl rfl rfl ?_
          refine E_s (p' := 223) (st' := aA 124 :: _) rfl rfl ?_
          refine E_gI (v := ((n + 1 : Nat) : Int)) rfl rfl rfl rfl ((up2_ne (by omega)).trans (up2_eq)) ?_
          refine E_s (p' := 227) (st' := aI 1 :: _) rfl rfl ?_
          refine E_sub (v := ((n : Nat) : Int)) rfl (by omega) (by omega) ?_
          refine E_s (p' := 229) rfl rfl ?_
          refine E_ald (e := n) (N := 601) (v := 0) rfl rfl (rfl) (by omega) ((up2_ne (by omega)).trans ((up2_ne (by omega)).trans (up2_eq))) ?_
          refine E_s (p' := 231) (st' := aA 124 :: _) rfl rfl ?_
          refine E_gA (b := 144) rfl rfl rfl rfl rfl rfl ?_
          refine E_s (p' := 235) (st' := aI ((h : Nat) : Int) :: _) rfl rfl ?_
          refine E_ald (e := h) (N := 601) (v := ((f h : Nat) : Int)) rfl rfl (rfl) (by omega) ((up2_ne (by omega)).trans ((up2_ne (by omega)).trans ((up2_ne (by omega)).trans ((up2_ne (by omega)).trans (((I2 _ _ (by omega) (by omega)).trans (hf _ (by omega)))))))) ?_
          refine E_add (v := ((f h : Nat) : Int)) rfl (by omega) (by omega) ?_
          refine E_ast (e := n) (N := 601) rfl rfl (rfl) (by omega) ?_
          refine E_inc (x := ((h : Nat) : Int)) (w := ((h + 1 : Nat) : Int)) (L' := [some (aA 124), some (aI ((i : Nat) : Int)), some (aI ((h + 1 : Nat) : Int)), x3]) rfl rfl rfl (by omega) (by omega) rfl ?_
          refine E_s (p' := 128) rfl rfl ?_
          refine ih (h + 1) (n + 1) (upf F n h) (upf Lx n h) (upf M n (f h)) _ (by omega) (by omega) (lvS_new hq (by omega) (by omega)) ((up2_ne (by omega)).trans ((up2_ne (by omega)).trans (up2_eq))) (fun l hl => ?_) (fun b z g1 g2 => ((up2_o (by omega)).trans ((up2_o (by omega)).trans ((up2_o (by omega)).trans ((up2_o (by omega)).trans (up2_o (by omega)))))).trans (I2 b z g1 g2))
          by_cases g9 : l = n
          · subst g9
            rw [upf_eq, upf_eq, upf_eq]
            exact ⟨((up2_ne (by omega)).trans ((up2_ne (by omega)).trans ((up2_ne (by omega)).trans ((up2_ne (by omega)).trans (up2_eq))))), ((up2_ne (by omega)).trans (up2_eq)), (up2_eq)⟩
          · rw [upf_ne g9, upf_ne g9, upf_ne g9]
            obtain ⟨g1, g2, g3⟩ := I1 l (by omega)
            exact ⟨((up2_o (by omega)).trans ((up2_o (by omega)).trans ((up2_o (by omega)).trans ((up2_o (by omega)).trans (up2_o (by omega)))))).trans g1, ((up2_o (by omega)).trans ((up2_o (by omega)).trans ((up2_o (by omega)).trans ((up2_o (by omega)).trans (up2_o (by omega)))))).trans g2, ((up2_o (by omega)).trans ((up2_o (by omega)).trans ((up2_o (by omega)).trans ((up2_o (by omega)).trans (up2_o (by omega)))))).trans g3⟩
        · refine E_go (p' := 154) (L' := [some (aA 124), some (aI ((i : Nat) : Int)), some (aI ((h : Nat) : Int)), x3]) (st' := []) rfl rfl rfl ?_
          refine E_s (p' := 155) (st' := aI ((h : Nat) : Int) :: _) rfl rfl ?_
          refine E_s (p' := 156) (st' := aA 124 :: _) rfl rfl ?_
          refine E_gA (b := 146) rfl rfl rfl rfl rfl rfl ?_
          refine E_s (p' := 160) (st' := aA 124 :: _) rfl rfl ?_
          refine E_gI (v := ((n : Nat) : Int)) rfl rfl rfl rfl I0 ?_
          refine E_s (p' := 164) (st' := aI 1 :: _) rfl rfl ?_
          refine E_sub (v := ((n : Int) - 1)) rfl (by omega) (by omega) ?_
          refine E_ald (e := ((n : Int) - 1).toNat) (N := 601) (v := ((Lx (n - 1) : Nat) : Int)) rfl rfl (by omega) (by omega) (by rw [show ((n : Int) - 1).toNat = n - 1 by omega]; exact (I1 (n - 1) (by omega)).2.1) ?_
          refine E_sub (v := ((h : Int) - (Lx (n - 1) : Int))) rfl (by omega) (by omega) ?_
          refine E_s (p' := 168) (st' := aA 124 :: _) rfl rfl ?_
          refine E_gA (b := 126) rfl rfl rfl rfl rfl rfl ?_
          refine E_s (p' := 172) (st' := aI ((i : Nat) : Int) :: _) rfl rfl ?_
          refine E_ald (e := i) (N := 4) (v := ((g : Nat) : Int)) rfl rfl (rfl) (by omega) ((I2 _ _ (by omega) (by omega)).trans hg) ?_
          refine E_icmp_le (x := ((h : Int) - (Lx (n - 1) : Int))) (y := ((g : Nat) : Int)) rfl (by decide) (fun h_4 => ?_) (fun h_4 => ?_)
          · refine E_go (p' := 206) (L' := [some (aA 124), some (aI ((i : Nat) : Int)), some (aI ((h : Nat) : Int)), x3]) (st' := []) rfl rfl rfl ?_
            refine E_s (p' := 207) (st' := aA 124 :: _) rfl rfl ?_
            refine E_gA (b := 146) rfl rfl rfl rfl rfl rfl ?_
            refine E_s (p' := 211) (st' := aA 124 :: _) rfl rfl ?_
            refine E_gI (v := ((n : Nat) : Int)) rfl rfl rfl rfl I0 ?_
            refine E_s (p' := 215) (st' := aI 1 :: _) rfl rfl ?_
            refine E_sub (v := ((n : Int) - 1)) rfl (by omega) (by omega) ?_
            refine E_s (p' := 217) (st' := aI ((h : Nat) : Int) :: _) rfl rfl ?_
            refine E_ast (e := ((n : Int) - 1).toNat) (N := 601) rfl rfl (by omega) (by omega) ?_
            refine E_s (p' := 219) (st' := aA 124 :: _) rfl rfl ?_
            refine E_gA (b := 147) rfl rfl rfl rfl rfl rfl ?_
            refine E_s (p' := 223) (st' := aA 124 :: _) rfl rfl ?_
            refine E_gI (v := ((n : Nat) : Int)) rfl rfl rfl rfl ((up2_ne (by omega)).trans (I0)) ?_
            refine E_s (p' := 227) (st' := aI 1 :: _) rfl rfl ?_
            refine E_sub (v := ((n : Int) - 1)) rfl (by omega) (by omega) ?_
            refine E_s (p' := 229) rfl rfl ?_
            refine E_ald (e := ((n : Int) - 1).toNat) (N := 601) (v := ((M (n - 1) : Nat) : Int)) rfl rfl (by omega) (by omega) ((up2_ne (by omega)).trans ((by rw [show ((n : Int) - 1).toNat = n - 1 by omega]; exact (I1 (n - 1) (by omega)).2.2))) ?_
            refine E_s (p' := 231) (st' := aA 124 :: _) rfl rfl ?_
            refine E_gA (b := 144) rfl rfl rfl rfl rfl rfl ?_
            refine E_s (p' := 235) (st' := aI ((h : Nat) : Int) :: _) rfl rfl ?_
            refine E_ald (e := h) (N := 601) (v := ((f h : Nat) : Int)) rfl rfl (rfl) (by omega) ((up2_ne (by omega)).trans (((I2 _ _ (by omega) (by omega)).trans (hf _ (by omega))))) ?_
            refine E_add (v := ((M (n - 1) + f h : Nat) : Int)) rfl (by omega) (by omega) ?_
            refine E_ast (e := ((n : Int) - 1).toNat) (N := 601) rfl rfl (by omega) (by omega) ?_
            refine E_inc (x := ((h : Nat) : Int)) (w := ((h + 1 : Nat) : Int)) (L' := [some (aA 124), some (aI ((i : Nat) : Int)), some (aI ((h + 1 : Nat) : Int)), x3]) rfl rfl rfl (by omega) (by omega) rfl ?_
            refine E_s (p' := 128) rfl rfl ?_
            have en : ((n : Int) - 1).toNat = n - 1 := by omega
            rw [en]
            refine ih (h + 1) n F (upf Lx (n - 1) h) (upf M (n - 1) (M (n - 1) + f h)) _ (by omega) (by omega) (lvS_old hq (by omega) (by omega)) (((up2_ne (by omega)).trans (up2_ne (by omega))).trans I0) (fun l hl => ⟨((up2_ne (by omega)).trans (up2_ne (by omega))).trans (I1 l hl).1, ?_, ?_⟩) (fun b z g1 g2 => ((up2_o (by omega)).trans (up2_o (by omega))).trans (I2 b z g1 g2))
            · refine (up2_ne (by omega)).trans ?_
              by_cases g9 : l = n - 1
              · rw [g9, upf_eq]; exact up2_eq
              · rw [upf_ne g9]; exact (up2_sl g9).trans (I1 l hl).2.1
            · by_cases g9 : l = n - 1
              · rw [g9, upf_eq]; exact up2_eq
              · rw [upf_ne g9]; exact (up2_sl g9).trans ((up2_ne (by omega)).trans (I1 l hl).2.2)
          · refine E_go (p' := 176) (L' := [some (aA 124), some (aI ((i : Nat) : Int)), some (aI ((h : Nat) : Int)), x3]) (st' := []) rfl rfl rfl ?_
            refine E_s (p' := 177) (st' := aA 124 :: _) rfl rfl ?_
            refine E_gA (b := 145) rfl rfl rfl rfl rfl rfl ?_
            refine E_s (p' := 181) (st' := aA 124 :: _) rfl rfl ?_
            refine E_gI (v := ((n : Nat) : Int)) rfl rfl rfl rfl I0 ?_
            refine E_s (p' := 185) (st' := aI ((h : Nat) : Int) :: _) rfl rfl ?_
            refine E_ast (e := n) (N := 601) rfl rfl (rfl) (by omega) ?_
            refine E_s (p' := 187) (st' := aA 124 :: _) rfl rfl ?_
            refine E_gA (b := 147) rfl rfl rfl rfl rfl rfl ?_
            refine E_s (p' := 191) (st' := aA 124 :: _) rfl rfl ?_
            refine E_gI (v := ((n : Nat) : Int)) rfl rfl rfl rfl ((up2_ne (by omega)).trans (I0)) ?_
            refine E_s (p' := 195) (st' := aI 0 :: _) rfl rfl ?_
            refine E_ast (e := n) (N := 601) rfl rfl (rfl) (by omega) ?_
            refine E_s (p' := 197) (st' := aA 124 :: _) rfl rfl ?_
            refine E_s (p' := 198) (st' := aA 124 :: _) rfl rfl ?_
            refine E_gI (v := ((n : Nat) : Int)) rfl rfl rfl rfl ((up2_ne (by omega)).trans ((up2_ne (by omega)).trans (I0))) ?_
            refine E_s (p' := 202) (st' := aI 1 :: _) rfl rfl ?_
            refine E_add (v := ((n + 1 : Nat) : Int)) rfl (by omega) (by omega) ?_
            refine E_pI rfl rfl rfl rfl (Or.inl rfl) ?_
            refine E_s (p' := 207) (st' := aA 124 :: _) rfl rfl ?_
            refine E_gA (b := 146) rfl rfl rfl rfl rfl rfl ?_
            refine E_s (p' := 211) (st' := aA 124 :: _) rfl rfl ?_
            refine E_gI (v := ((n + 1 : Nat) : Int)) rfl rfl rfl rfl up2_eq ?_
            refine E_s (p' := 215) (st' := aI 1 :: _) rfl rfl ?_
            refine E_sub (v := ((n : Nat) : Int)) rfl (by omega) (by omega) ?_
            refine E_s (p' := 217) (st' := aI ((h : Nat) : Int) :: _) rfl rfl ?_
            refine E_ast (e := n) (N := 601) rfl rfl (rfl) (by omega) ?_
            refine E_s (p' := 219) (st' := aA 124 :: _) rfl rfl ?_
            refine E_gA (b := 147) rfl rfl rfl rfl rfl rfl ?_
            refine E_s (p' := 223) (st' := aA 124 :: _) rfl rfl ?_
            refine E_gI (v := ((n + 1 : Nat) : Int)) rfl rfl rfl rfl ((up2_ne (by omega)).trans (up2_eq)) ?_
            refine E_s (p' := 227) (st' := aI 1 :: _) rfl rfl ?_
            refine E_sub (v := ((n : Nat) : Int)) rfl (by omega) (by omega) ?_
            refine E_s (p' := 229) rfl rfl ?_
            refine E_ald (e := n) (N := 601) (v := 0) rfl rfl (rfl) (by omega) ((up2_ne (by omega)).trans ((up2_ne (by omega)).trans (up2_eq))) ?_
            refine E_s (p' := 231) (st' := aA 124 :: _) rfl rfl ?_
            refine E_gA (b := 144) rfl rfl rfl rfl rfl rfl ?_
            refine E_s (p' := 235) (st' := aI ((h : Nat) : Int) :: _) rfl rfl ?_
            refine E_ald (e := h) (N := 601) (v := ((f h : Nat) : Int)) rfl rfl (rfl) (by omega) ((up2_ne (by omega)).trans ((up2_ne (by omega)).trans ((up2_ne (by omega)).trans ((up2_ne (by omega)).trans (((I2 _ _ (by omega) (by omega)).trans (hf _ (by omega)))))))) ?_
            refine E_add (v := ((f h : Nat) : Int)) rfl (by omega) (by omega) ?_
            refine E_ast (e := n) (N := 601) rfl rfl (rfl) (by omega) ?_
            refine E_inc (x := ((h : Nat) : Int)) (w := ((h + 1 : Nat) : Int)) (L' := [some (aA 124), some (aI ((i : Nat) : Int)), some (aI ((h + 1 : Nat) : Int)), x3]) rfl rfl rfl (by omega) (by omega) rfl ?_
            refine E_s (p' := 128) rfl rfl ?_
            refine ih (h + 1) (n + 1) (upf F n h) (upf Lx n h) (upf M n (f h)) _ (by omega) (by omega) (lvS_new hq (by omega) (by omega)) ((up2_ne (by omega)).trans ((up2_ne (by omega)).trans (up2_eq))) (fun l hl => ?_) (fun b z g1 g2 => ((up2_o (by omega)).trans ((up2_o (by omega)).trans ((up2_o (by omega)).trans ((up2_o (by omega)).trans (up2_o (by omega)))))).trans (I2 b z g1 g2))
            by_cases g9 : l = n
            · subst g9
              rw [upf_eq, upf_eq, upf_eq]
              exact ⟨((up2_ne (by omega)).trans ((up2_ne (by omega)).trans ((up2_ne (by omega)).trans ((up2_ne (by omega)).trans (up2_eq))))), ((up2_ne (by omega)).trans (up2_eq)), (up2_eq)⟩
            · rw [upf_ne g9, upf_ne g9, upf_ne g9]
              obtain ⟨g1, g2, g3⟩ := I1 l (by omega)
              exact ⟨((up2_o (by omega)).trans ((up2_o (by omega)).trans ((up2_o (by omega)).trans ((up2_o (by omega)).trans (up2_o (by omega)))))).trans g1, ((up2_o (by omega)).trans ((up2_o (by omega)).trans ((up2_o (by omega)).trans ((up2_o (by omega)).trans (up2_o (by omega)))))).trans g2, ((up2_o (by omega)).trans ((up2_o (by omega)).trans ((up2_o (by omega)).trans ((up2_o (by omega)).trans (up2_o (by omega)))))).trans g3⟩
      · refine E_go (p' := 144) (L' := [some (aA 124), some (aI ((i : Nat) : Int)), some (aI ((h : Nat) : Int)), x3]) (st' := []) rfl rfl rfl ?_
        refine E_s (p' := 238) rfl rfl ?_
        refine E_inc (x := ((h : Nat) : Int)) (w := ((h + 1 : Nat) : Int)) (L' := [some (aA 124), some (aI ((i : Nat) : Int)), some (aI ((h + 1 : Nat) : Int)), x3]) rfl rfl rfl (by omega) (by omega) rfl ?_
        refine E_s (p' := 128) rfl rfl ?_
        exact ih (h + 1) n F Lx M m (by omega) (by omega) (by rw [lvS_0 (by omega)]; exact hq) I0 I1 I2
end
section
variable {len : Nat} {m0 : Mm} {Q : Option AV → Sx → Prop} {R : RD} {i : Nat}
theorem m_read (hi : i < 4) (hM : MR R i m0) (hV : VR R) (q : ∀ m1 : Mm, FrM m0 m1 → RdM R m1 → Q (some (aI (bi (decide (0 < RL R))))) (m1, tl len)) : E 147 0 [some (aA 124), some (aI ((i : Nat) : Int)), none, none] [] (m0, tl len) Q := by
  have hgp := hV.2.1
  have hn60 := hV.1
  refine E_s (p' := 1) (st' := aI 0 :: _) rfl rfl ?_
  refine E_s (p' := 2) (L' := [some (aA 124), some (aI ((i : Nat) : Int)), some (aI 0), none]) rfl rfl ?_
  refine yl_rA hi (fun m1 y3 a1 a2 => ?_) 602 0 m0 none (by omega) (by omega) FrM.rf (fun j hj => absurd hj (by omega))
  refine E_s (p' := 23) (st' := aA 124 :: _) rfl rfl ?_
  refine E_s (p' := 24) (st' := aI 0 :: _) rfl rfl ?_
  refine E_pI rfl rfl rfl rfl (Or.inr (by decide)) ?_
  refine E_s (p' := 28) (st' := aA 124 :: _) rfl rfl ?_
  refine E_s (p' := 29) (st' := aI 0 :: _) rfl rfl ?_
  refine E_pI rfl rfl rfl rfl (Or.inr (by decide)) ?_
  refine E_s (p' := 33) (st' := aI 0 :: _) rfl rfl ?_
  refine E_s (p' := 34) (L' := [some (aA 124), some (aI ((i : Nat) : Int)), some (aI 0), y3]) rfl rfl ?_
  refine yl_rB hi hM hV (fun m2 z3 hJ => ?_) (Cn R + 1) 0 _ y3 (by omega) (by omega) ⟨(a1.up (by omega)).up (by omega), fun h hh => (up2_ne (by omega)).trans ((up2_ne (by omega)).trans (a2 h hh)), (up2_sl (by decide)).trans up2_eq, up2_eq⟩
  obtain ⟨j1, j2, j3, j4⟩ := hJ
  refine E_s (p' := 122) (st' := aA 124 :: _) rfl rfl ?_
  refine E_s (p' := 123) (st' := aI 0 :: _) rfl rfl ?_
  refine E_pI rfl rfl rfl rfl (Or.inl rfl) ?_
  refine E_s (p' := 127) (st' := aI 0 :: _) rfl rfl ?_
  refine E_s (p' := 128) (L' := [some (aA 124), some (aI ((i : Nat) : Int)), some (aI 0), z3]) rfl rfl ?_
  refine yl_rD (f := atp (RA R)) (g := Cq R) hi (fun h hh => (up2_ne (by omega)).trans (j2 h hh)) ((up2_ne (by omega)).trans ((j1 _ _ (by omega) (by omega)).trans (MR_126 hM))) (by omega) (atp_b hV) (fun m3 y9 k1 k2 k3 => ?_) 602 0 0 (fun _ => 0) (fun _ => 0) (fun _ => 0) _ (by omega) (by omega) rfl up2_eq (fun l hl => absurd hl (by omega)) (fun b z g1 g2 => rfl)
  have hRn : (RLV R).1 ≤ 601 := lvS_n 601
  rw [show (lvS (atp (RA R)) (Cq R) 601).1 = (RLV R).1 from rfl] at k1
  refine E_s (p' := 245) (st' := aA 124 :: _) rfl rfl ?_
  refine E_gI (v := (((RLV R).1 : Nat) : Int)) rfl rfl rfl rfl k1 ?_
  refine E_s (p' := 249) (st' := aA 124 :: _) rfl rfl ?_
  refine E_gI (v := (bi (Run R))) rfl rfl rfl rfl ((k3 _ _ (by omega) (by omega)).trans ((up2_sl (by decide)).trans j3)) ?_
  suffices h_1 : E 147 260 [some (aA 124), some (aI ((i : Nat) : Int)), some (aI 601), y9] [aI (bi (!(Run R))), aI (((RLV R).1 : Nat) : Int)] (m3, tl len) Q by
    refine E_b_eq0 (b := (Run R)) rfl (by decide) (fun h_2 => ?_) (fun h_2 => ?_)
    · refine E_go (p' := 259) (L' := [some (aA 124), some (aI ((i : Nat) : Int)), some (aI 601), y9]) (st' := [aI (((RLV R).1 : Nat) : Int)]) rfl rfl rfl ?_
      refine E_s (p' := 260) (st' := aI 1 :: _) rfl rfl ?_
      rw [h_2] at h_1
      exact h_1
    · refine E_go (p' := 255) (L' := [some (aA 124), some (aI ((i : Nat) : Int)), some (aI 601), y9]) (st' := [aI (((RLV R).1 : Nat) : Int)]) rfl rfl rfl ?_
      refine E_s (p' := 256) (st' := aI 0 :: _) rfl rfl ?_
      refine E_s (p' := 260) rfl rfl ?_
      rw [h_2] at h_1
      exact h_1
  refine E_add (v := (((RLV R).1 + bn (!(Run R)) : Nat) : Int)) rfl add_bn (by have := bn_le (!(Run R)); omega) ?_
  refine E_s (p' := 263) (st' := aI 6 :: _) rfl rfl ?_
  refine E_icmp_le (x := (((RLV R).1 + bn (!(Run R)) : Nat) : Int)) (y := 6) rfl (by decide) (fun h_3 => ?_) (fun h_3 => ?_)
  · refine E_go (p' := 271) (L' := [some (aA 124), some (aI ((i : Nat) : Int)), some (aI 601), y9]) (st' := []) rfl rfl rfl ?_
    refine E_s (p' := 272) (st' := aA 124 :: _) rfl rfl ?_
    refine E_gI (v := (((RLV R).1 : Nat) : Int)) rfl rfl rfl rfl k1 ?_
    refine E_if_le (x := (((RLV R).1 : Nat) : Int)) rfl (by decide) (fun h_4 => ?_) (fun h_4 => ?_)
    · refine E_go (p' := 282) (L' := [some (aA 124), some (aI ((i : Nat) : Int)), some (aI 601), y9]) (st' := []) rfl rfl rfl ?_
      refine E_s (p' := 283) (st' := aI 0 :: _) rfl rfl ?_
      refine E_ret rfl rfl ?_
      have hmx : mxv (Run R) + bn (!Run R) = 6 := by cases Run R <;> rfl
      have hrl : RL R = (RLV R).1 := if_neg (show ¬ mxv (Run R) < (RLV R).1 by omega)
      rw [show decide (0 < RL R) = false by rw [hrl]; simp; omega] at q
      exact q _ (j1.tr (FrM.rf.up (by omega)) |>.tr (fun b z g1 g2 => k3 b z (by omega) (by omega))) ⟨by rw [hrl]; exact k1, (k3 _ _ (by omega) (by omega)).trans ((up2_sl (by decide)).trans j3), (k3 _ _ (by omega) (by omega)).trans ((up2_sl (by decide)).trans j4), by rw [hrl]; exact k2⟩
    · refine E_go (p' := 278) (L' := [some (aA 124), some (aI ((i : Nat) : Int)), some (aI 601), y9]) (st' := []) rfl rfl rfl ?_
      refine E_s (p' := 279) (st' := aI 1 :: _) rfl rfl ?_
      refine E_s (p' := 283) rfl rfl ?_
      refine E_ret rfl rfl ?_
      have hmx : mxv (Run R) + bn (!Run R) = 6 := by cases Run R <;> rfl
      have hrl : RL R = (RLV R).1 := if_neg (show ¬ mxv (Run R) < (RLV R).1 by omega)
      rw [show decide (0 < RL R) = true by rw [hrl]; simp; omega] at q
      exact q _ (j1.tr (FrM.rf.up (by omega)) |>.tr (fun b z g1 g2 => k3 b z (by omega) (by omega))) ⟨by rw [hrl]; exact k1, (k3 _ _ (by omega) (by omega)).trans ((up2_sl (by decide)).trans j3), (k3 _ _ (by omega) (by omega)).trans ((up2_sl (by decide)).trans j4), by rw [hrl]; exact k2⟩
  · refine E_go (p' := 266) (L' := [some (aA 124), some (aI ((i : Nat) : Int)), some (aI 601), y9]) (st' := []) rfl rfl rfl ?_
    refine E_s (p' := 267) (st' := aA 124 :: _) rfl rfl ?_
    refine E_s (p' := 268) (st' := aI 0 :: _) rfl rfl ?_
    refine E_pI rfl rfl rfl rfl (Or.inl rfl) ?_
    refine E_s (p' := 272) (st' := aA 124 :: _) rfl rfl ?_
    refine E_gI (v := 0) rfl rfl rfl rfl up2_eq ?_
    refine E_s (p' := 282) rfl rfl ?_
    refine E_s (p' := 283) (st' := aI 0 :: _) rfl rfl ?_
    refine E_ret rfl rfl ?_
    have hmx : mxv (Run R) + bn (!Run R) = 6 := by cases Run R <;> rfl
    have hrl : RL R = 0 := if_pos (show mxv (Run R) < (RLV R).1 by omega)
    rw [hrl] at q
    exact q _ (j1.tr (FrM.rf.up (by omega)) |>.tr (fun b z g1 g2 => k3 b z (by omega) (by omega)) |>.up (by omega)) ⟨up2_eq.trans (by rw [hrl]; rfl), (up2_sl (by decide)).trans ((k3 _ _ (by omega) (by omega)).trans ((up2_sl (by decide)).trans j3)), (up2_sl (by decide)).trans ((k3 _ _ (by omega) (by omega)).trans ((up2_sl (by decide)).trans j4)), fun l hl => absurd hl (by omega)⟩
end

theorem lvS_str {f : Nat → Nat} {g : Nat} : ∀ h : Nat, (∀ l, l < (lvS f g h).1 → (lvS f g h).2.1 l ≤ (lvS f g h).2.2.1 l ∧ (lvS f g h).2.2.1 l < h) ∧ (∀ l, l + 1 < (lvS f g h).1 → (lvS f g h).2.2.1 l < (lvS f g h).2.1 (l + 1)) ∧ (∀ p, p < h → f p ≠ 0 → ∃ l, l < (lvS f g h).1 ∧ (lvS f g h).2.1 l ≤ p ∧ p ≤ (lvS f g h).2.2.1 l) := by
  intro h
  induction h with
  | zero => exact ⟨fun l hl => absurd hl (Nat.not_lt_zero _), fun l hl => absurd hl (Nat.not_lt_zero _), fun p hp => absurd hp (by omega)⟩
  | succ h ih =>
    obtain ⟨n, F, Lx, M, hq⟩ : ∃ n F Lx M, lvS f g h = (n, (F, (Lx, M))) := ⟨_, _, _, _, rfl⟩
    rw [hq] at ih
    have ih2 : (∀ l, l < n → F l ≤ Lx l ∧ Lx l < h) ∧ (∀ l, l + 1 < n → Lx l < F (l + 1)) ∧ (∀ p, p < h → f p ≠ 0 → ∃ l, l < n ∧ F l ≤ p ∧ p ≤ Lx l) := ih
    obtain ⟨i1, i2, i3⟩ := ih2
    by_cases h0 : f h = 0
    · rw [lvS_0 h0, hq]
      show (∀ l, l < n → F l ≤ Lx l ∧ Lx l < h + 1) ∧ (∀ l, l + 1 < n → Lx l < F (l + 1)) ∧ (∀ p, p < h + 1 → f p ≠ 0 → ∃ l, l < n ∧ F l ≤ p ∧ p ≤ Lx l)
      refine ⟨fun l hl => ⟨(i1 l hl).1, by have := (i1 l hl).2; omega⟩, i2, fun p hp hf => ?_⟩
      by_cases g9 : p = h
      · rw [g9] at hf; exact absurd h0 hf
      · exact i3 p (by omega) hf
    · by_cases h1 : n = 0 ∨ Lx (n - 1) + g < h
      · rw [lvS_new hq h0 h1]
        show (∀ l, l < n + 1 → upf F n h l ≤ upf Lx n h l ∧ upf Lx n h l < h + 1) ∧ (∀ l, l + 1 < n + 1 → upf Lx n h l < upf F n h (l + 1)) ∧ (∀ p, p < h + 1 → f p ≠ 0 → ∃ l, l < n + 1 ∧ upf F n h l ≤ p ∧ p ≤ upf Lx n h l)
        refine ⟨fun l hl => ?_, fun l hl => ?_, fun p hp hf => ?_⟩
        · by_cases g9 : l = n
          · rw [g9, upf_eq, upf_eq]; omega
          · rw [upf_ne g9, upf_ne g9]; have := i1 l (by omega); omega
        · rw [upf_ne (show l ≠ n by omega)]
          by_cases g9 : l + 1 = n
          · rw [g9, upf_eq]; have := (i1 l (by omega)).2; omega
          · rw [upf_ne g9]; exact i2 l (by omega)
        · by_cases g9 : p = h
          · rw [g9]; exact ⟨n, by omega, by rw [upf_eq]; omega, by rw [upf_eq]; omega⟩
          · obtain ⟨l, k1, k2, k3⟩ := i3 p (by omega) hf
            exact ⟨l, by omega, by rw [upf_ne (show l ≠ n by omega)]; exact k2, by rw [upf_ne (show l ≠ n by omega)]; exact k3⟩
      · rw [lvS_old hq h0 h1]
        show (∀ l, l < n → F l ≤ upf Lx (n - 1) h l ∧ upf Lx (n - 1) h l < h + 1) ∧ (∀ l, l + 1 < n → upf Lx (n - 1) h l < F (l + 1)) ∧ (∀ p, p < h + 1 → f p ≠ 0 → ∃ l, l < n ∧ F l ≤ p ∧ p ≤ upf Lx (n - 1) h l)
        have hn : 1 ≤ n := by omega
        refine ⟨fun l hl => ?_, fun l hl => ?_, fun p hp hf => ?_⟩
        · by_cases g9 : l = n - 1
          · rw [g9, upf_eq]; have := i1 (n - 1) (by omega); omega
          · rw [upf_ne g9]; have := i1 l (by omega); omega
        · rw [upf_ne (show l ≠ n - 1 by omega)]; exact i2 l hl
        · by_cases g9 : p = h
          · rw [g9]; exact ⟨n - 1, by omega, by have := i1 (n - 1) (by omega); omega, by rw [upf_eq]; omega⟩
          · obtain ⟨l, k1, k2, k3⟩ := i3 p (by omega) hf
            refine ⟨l, k1, k2, ?_⟩
            by_cases g8 : l = n - 1
            · rw [g8, upf_eq]; omega
            · rw [upf_ne g8]; exact k3
theorem lvo_sp (la : Nat → Nat) (p : Nat) : ∀ d l, l ≤ lvo la p d l ∧ (∀ j, l ≤ j → j < lvo la p d l → la j < p) ∧ (lvo la p d l < l + d → p ≤ la (lvo la p d l)) := by
  intro d
  induction d with
  | zero => intro l; exact ⟨Nat.le_refl _, fun j h1 h2 => absurd h2 (by show ¬ j < l; omega), fun h => absurd h (by show ¬ l < l + 0; omega)⟩
  | succ d ih =>
    intro l
    show l ≤ (if la l < p then lvo la p d (l + 1) else l) ∧ _
    by_cases g : la l < p
    · have e : lvo la p (d + 1) l = lvo la p d (l + 1) := if_pos g
      rw [e, if_pos g]
      obtain ⟨h1, h2, h3⟩ := ih (l + 1)
      refine ⟨by omega, fun j k1 k2 => ?_, fun h => h3 (by omega)⟩
      by_cases g9 : j = l
      · rw [g9]; exact g
      · exact h2 j (by omega) k2
    · have e : lvo la p (d + 1) l = l := if_neg g
      rw [e, if_neg g]
      exact ⟨Nat.le_refl _, fun j k1 k2 => absurd k2 (by omega), fun _ => by omega⟩
theorem RL_eq {R : RD} (h : 1 ≤ RL R) : RL R = (RLV R).1 := by
  by_cases g : Rmx R < (RLV R).1
  · have : RL R = 0 := if_pos g
    omega
  · exact if_neg g
theorem Rlo_oc {R : RD} (h : 1 ≤ RL R) {p : Nat} (hp : p < 601) (ho : atp (RA R) p ≠ 0) : RF R (Rlo R p) ≤ p ∧ p ≤ Rla R (Rlo R p) ∧ ∀ l, l < Rlo R p → Rla R l < p := by
  have hst : (∀ l, l < (RLV R).1 → RF R l ≤ Rla R l ∧ Rla R l < 601) ∧ (∀ l, l + 1 < (RLV R).1 → Rla R l < RF R (l + 1)) ∧ (∀ p, p < 601 → atp (RA R) p ≠ 0 → ∃ l, l < (RLV R).1 ∧ RF R l ≤ p ∧ p ≤ Rla R l) := lvS_str (f := atp (RA R)) (g := Cq R) 601
  obtain ⟨i1, i2, i3⟩ := hst
  have hn := RL_eq h
  obtain ⟨l0, k1, k2, k3⟩ := i3 p hp ho
  obtain ⟨s1, s2, s3⟩ := lvo_sp (Rla R) p (RL R - 1) 0
  have hlt := Rlo_lt h p
  have e0 : lvo (Rla R) p (RL R - 1) 0 = Rlo R p := rfl
  rw [e0] at s1 s2 s3
  have hmono : ∀ j l, j < l → l < (RLV R).1 → Rla R j < RF R l := by
    intro j l
    induction l with
    | zero => intro h; omega
    | succ l ih =>
      intro h1 h2
      by_cases g9 : j = l
      · subst g9; exact i2 j h2
      · have := ih (by omega) (by omega)
        have := i1 l (by omega)
        have := i2 l h2
        omega
  have hge : Rlo R p ≤ l0 := by
    rcases Nat.lt_or_ge l0 (Rlo R p) with g | g
    · have := s2 l0 (Nat.zero_le _) g; omega
    · exact g
  have hle : l0 ≤ Rlo R p := by
    rcases Nat.lt_or_ge (Rlo R p) l0 with g | g
    · have h1 := s3 (by omega)
      have h2 := hmono (Rlo R p) l0 g k1
      omega
    · exact g
  have e : l0 = Rlo R p := by omega
  subst e
  exact ⟨k2, k3, fun l hl => s2 l (Nat.zero_le _) hl⟩
theorem Rlo_mono {R : RD} {p q : Nat} (h : p ≤ q) : Rlo R p ≤ Rlo R q := by
  obtain ⟨s1, s2, s3⟩ := lvo_sp (Rla R) p (RL R - 1) 0
  obtain ⟨t1, t2, t3⟩ := lvo_sp (Rla R) q (RL R - 1) 0
  have b1 := lvo_le (Rla R) p (RL R - 1) 0
  unfold Rlo
  rcases Nat.lt_or_ge (lvo (Rla R) q (RL R - 1) 0) (lvo (Rla R) p (RL R - 1) 0) with g | g
  · have h1 := s2 _ (Nat.zero_le _) g
    have h2 := t3 (by omega)
    omega
  · exact g
theorem atp_mem {l : List Cl3} {x : Cl3} (h : x ∈ l) : atp l x.1 ≠ 0 := by
  unfold atp
  intro g
  rw [List.countP_eq_zero] at g
  exact g x h (by simp)
theorem acl_mem {R : RD} {x : Cl3} {c : Nat} : ∀ {n : Nat}, c < n → x ∈ clsA R c → x ∈ acl R n := by
  intro n
  induction n with
  | zero => intro h; omega
  | succ n ih =>
    intro h hx
    show x ∈ acl R n ++ clsA R n
    rw [List.mem_append]
    by_cases g : c = n
    · subst g; exact Or.inr hx
    · exact Or.inl (ih (by omega) hx)
/-- CLUSTERS rise: those that ended lie ahead of the next one's KNOTS -/
theorem cls_rise {R : RD} (hV : VR R) {c : Nat} (hc : c < Cn R) : ∀ k, k ≤ Ck R c → (∀ q ∈ cls R c k, k < Ck R c → q.1 < ht (Cp R c (beg R c k))) ∧ (cls R c k).Pairwise (fun p q => p.1 < q.1) := by
  intro k
  induction k with
  | zero => intro _; exact ⟨fun q hq => (by cases hq), List.Pairwise.nil⟩
  | succ k ih =>
    intro hk
    obtain ⟨i1, i2⟩ := ih (by omega)
    have hbk := beg_le R c k
    have hhb : ht (Cp R c (beg R c k)) ≤ ht (Cp R c k) := by
      rcases Nat.lt_or_ge (beg R c k) k with g | g
      · exact Nat.le_of_lt (hV.mono hc g (by omega))
      · rw [show beg R c k = k by omega]; exact Nat.le_refl _
    cases he : ends R c k with
    | true =>
      rw [cls_t he, beg_t he]
      refine ⟨fun q hq hk2 => ?_, ?_⟩
      · have hm := hV.mono hc (show k < k + 1 by omega) hk2
        rcases List.mem_append.mp hq with g | g
        · have := i1 q g (by omega); omega
        · rw [List.mem_singleton.mp g]; show clp R c k < _; unfold clp; omega
      · rw [List.pairwise_append]
        refine ⟨i2, List.pairwise_singleton _ _, fun p hp q hq => ?_⟩
        rw [List.mem_singleton.mp hq]
        have := i1 p hp (by omega)
        show p.1 < clp R c k
        unfold clp; omega
    | false =>
      rw [cls_f he, beg_f he]
      exact ⟨fun q hq hk2 => i1 q hq (by omega), i2⟩
/-- two of one LEVEL among rising CLUSTERS: two neighbours -/
def adjB (R : RD) : List Cl3 → Bool
  | [] => false
  | [_] => false
  | p :: q :: r => (Rlo R q.1 == Rlo R p.1) || adjB R (q :: r)
theorem any_adj {R : RD} : ∀ {l : List Cl3} {x : Cl3}, (x :: l).Pairwise (fun p q => p.1 < q.1) → (l.any fun p => Rlo R p.1 == Rlo R x.1) = true → adjB R (x :: l) = true := by
  intro l
  cases l with
  | nil => intro x _ h; cases h
  | cons y r =>
    intro x hp h
    show ((Rlo R y.1 == Rlo R x.1) || adjB R (y :: r)) = true
    rw [List.any_cons, Bool.or_eq_true] at h
    rw [Bool.or_eq_true]
    rcases h with h | h
    · exact Or.inl h
    · left
      rw [List.any_eq_true] at h
      obtain ⟨z, hz, e⟩ := h
      have e := beq_iff_eq.mp e
      have h1 := List.rel_of_pairwise_cons hp (a' := y) List.mem_cons_self
      have h2 := List.rel_of_pairwise_cons (List.Pairwise.of_cons hp) hz
      have m1 := Rlo_mono (R := R) (Nat.le_of_lt h1)
      have m2 := Rlo_mono (R := R) (Nat.le_of_lt h2)
      exact beq_iff_eq.mpr (by omega)
theorem rTw_snoc {R : RD} {l : List Cl3} {x : Cl3} : rTw R (l ++ [x]).reverse = (rTw R l.reverse || l.any fun p => Rlo R p.1 == Rlo R x.1) := rTw_app
/-- a pair of one LEVEL, from the front -/
def frB (R : RD) : List Cl3 → Bool
  | [] => false
  | p :: r => (r.any fun q => Rlo R q.1 == Rlo R p.1) || frB R r
theorem frB_app {R : RD} {x : Cl3} : ∀ {l : List Cl3}, frB R (l ++ [x]) = (frB R l || l.any fun p => Rlo R p.1 == Rlo R x.1) := by
  intro l
  induction l with
  | nil => rfl
  | cons y r ih =>
    show (((r ++ [x]).any fun q => Rlo R q.1 == Rlo R y.1) || frB R (r ++ [x])) = (((r.any fun q => Rlo R q.1 == Rlo R y.1) || frB R r) || (List.any (y :: r) fun p => Rlo R p.1 == Rlo R x.1))
    have e : ([x].any fun q => Rlo R q.1 == Rlo R y.1) = (Rlo R y.1 == Rlo R x.1) := by
      show ((Rlo R x.1 == Rlo R y.1) || false) = _
      rw [Bool.or_false]; exact Bool.beq_comm
    rw [ih, List.any_append, e, List.any_cons]
    cases (r.any fun q => Rlo R q.1 == Rlo R y.1) <;> cases (Rlo R y.1 == Rlo R x.1) <;> cases frB R r <;> cases (r.any fun p => Rlo R p.1 == Rlo R x.1) <;> rfl
theorem tw_fr {R : RD} {l : List Cl3} : rTw R l.reverse = frB R l := by
  have key : ∀ (l : List Cl3), rTw R l = frB R l.reverse := by
    intro l
    induction l with
    | nil => rfl
    | cons x r ih =>
      rw [List.reverse_cons, frB_app, ← ih, List.any_reverse]
      rfl
  rw [key, List.reverse_reverse]
theorem fr_adj {R : RD} : ∀ {l : List Cl3}, l.Pairwise (fun p q => p.1 < q.1) → frB R l = adjB R l := by
  intro l
  induction l with
  | nil => intro _; rfl
  | cons x r ih =>
    intro hp
    have ih := ih (List.Pairwise.of_cons hp)
    cases r with
    | nil => rfl
    | cons y r =>
      show (((y :: r).any fun q => Rlo R q.1 == Rlo R x.1) || frB R (y :: r)) = ((Rlo R y.1 == Rlo R x.1) || adjB R (y :: r))
      rw [ih, List.any_cons]
      cases h1 : (Rlo R y.1 == Rlo R x.1) with
      | true => rfl
      | false =>
        cases h2 : (r.any fun q => Rlo R q.1 == Rlo R x.1) with
        | false => rfl
        | true =>
          have := any_adj (R := R) (x := x) (l := y :: r) hp (by rw [List.any_cons, h2, Bool.or_true])
          have h3 : ((Rlo R y.1 == Rlo R x.1) || adjB R (y :: r)) = true := this
          rw [h1, Bool.false_or] at h3
          rw [h3]; rfl
/-- neighbours among the first n of one LEVEL -/
def adN (R : RD) (l : List Cl3) (n : Nat) : Bool := (List.range n).any fun k => decide (1 ≤ k) && (Rlo R (l.getD k (0, (0, 0))).1 == Rlo R (l.getD (k - 1) (0, (0, 0))).1)
theorem adj_N {R : RD} : ∀ {l : List Cl3}, adjB R l = adN R l l.length := by
  intro l
  have key : ∀ {l : List Cl3}, adjB R l = true ↔ ∃ k, k + 1 < l.length ∧ Rlo R (l.getD (k + 1) (0, (0, 0))).1 = Rlo R (l.getD k (0, (0, 0))).1 := by
    intro l
    induction l with
    | nil => exact ⟨fun h => (by cases h), fun ⟨k, hk, _⟩ => absurd hk (by simp)⟩
    | cons x r ih =>
      cases r with
      | nil => exact ⟨fun h => (by cases h), fun ⟨k, hk, _⟩ => absurd hk (by simp)⟩
      | cons y r =>
        show ((Rlo R y.1 == Rlo R x.1) || adjB R (y :: r)) = true ↔ _
        rw [Bool.or_eq_true, ih]
        constructor
        · rintro (h | ⟨k, hk, e⟩)
          · exact ⟨0, by simp, beq_iff_eq.mp h⟩
          · exact ⟨k + 1, by simp at hk ⊢; omega, e⟩
        · rintro ⟨k, hk, e⟩
          cases k with
          | zero => exact Or.inl (beq_iff_eq.mpr e)
          | succ k => exact Or.inr ⟨k, by simp at hk ⊢; omega, e⟩
  have e2 : adN R l l.length = true ↔ ∃ k, k + 1 < l.length ∧ Rlo R (l.getD (k + 1) (0, (0, 0))).1 = Rlo R (l.getD k (0, (0, 0))).1 := by
    unfold adN
    rw [List.any_eq_true]
    constructor
    · rintro ⟨k, hk, e⟩
      rw [Bool.and_eq_true, decide_eq_true_eq, beq_iff_eq] at e
      have hk := List.mem_range.mp hk
      refine ⟨k - 1, by omega, ?_⟩
      rw [show k - 1 + 1 = k by omega]; exact e.2
    · rintro ⟨k, hk, e⟩
      refine ⟨k + 1, List.mem_range.mpr hk, ?_⟩
      rw [Bool.and_eq_true, decide_eq_true_eq, beq_iff_eq]
      exact ⟨by omega, e⟩
  cases h1 : adjB R l with
  | true => exact (e2.mpr (key.mp h1)).symm
  | false =>
    cases h2 : adN R l l.length with
    | false => rfl
    | true => rw [key.mpr (e2.mp h2)] at h1; cases h1
theorem tw_N {R : RD} (hV : VR R) {c : Nat} (hc : c < Cn R) : rTw R (clsA R c).reverse = adN R (clsA R c) (clsA R c).length := by
  have hp : (clsA R c).Pairwise (fun p q => p.1 < q.1) := (cls_rise hV hc _ (Nat.le_refl _)).2
  rw [tw_fr, fr_adj hp, adj_N]

def RC0 (R : RD) (c : Nat) (m0 m : Mm) (f v w : Int) : Prop := FrM m0 m ∧ RdM R m ∧ CLm (clsA R c) m ∧ m 124 27 = f ∧ m 124 28 = v ∧ m 124 29 = w
section
variable {R : RD} {c : Nat} {m0 m : Mm} {f v w x : Int}
theorem RC0.s27 (h : RC0 R c m0 m f v w) : RC0 R c m0 (up2 m 124 27 x) x v w := ⟨h.1.up (by omega), h.2.1.of (fun b j hb => up2_o (by omega)), h.2.2.1.of (fun b j hb => up2_o (by omega)), up2_eq, (up2_sl (by decide)).trans h.2.2.2.2.1, (up2_sl (by decide)).trans h.2.2.2.2.2⟩
theorem RC0.s28 (h : RC0 R c m0 m f v w) : RC0 R c m0 (up2 m 124 28 x) f x w := ⟨h.1.up (by omega), h.2.1.of (fun b j hb => up2_o (by omega)), h.2.2.1.of (fun b j hb => up2_o (by omega)), (up2_sl (by decide)).trans h.2.2.2.1, up2_eq, (up2_sl (by decide)).trans h.2.2.2.2.2⟩
theorem RC0.s29 (h : RC0 R c m0 m f v w) : RC0 R c m0 (up2 m 124 29 x) f v x := ⟨h.1.up (by omega), h.2.1.of (fun b j hb => up2_o (by omega)), h.2.2.1.of (fun b j hb => up2_o (by omega)), (up2_sl (by decide)).trans h.2.2.2.1, (up2_sl (by decide)).trans h.2.2.2.2.1, up2_eq⟩
end
theorem adN_s {R : RD} {l : List Cl3} {k : Nat} : adN R l (k + 1) = (adN R l k || (decide (1 ≤ k) && (Rlo R (l.getD k (0, (0, 0))).1 == Rlo R (l.getD (k - 1) (0, (0, 0))).1))) := by
  unfold adN
  rw [List.range_succ, List.any_append]
  simp only [List.any_cons, List.any_nil, Bool.or_false]
theorem adN_up {R : RD} {l : List Cl3} {k : Nat} (h : adN R l k = true) : ∀ d, adN R l (k + d) = true := by
  intro d
  induction d with
  | zero => exact h
  | succ d ih => show adN R l (k + d + 1) = true; rw [adN_s, ih]; rfl
def ft2 (R : RD) (l : List Cl3) (k : Nat) : Nat := bif rMany R l then 2 else bif adN R l k then 3 else 0
def ft3 (R : RD) (l : List Cl3) (k : Nat) : Nat := if ft2 R l l.length = 0 then (bif rAs R (l.take k) then 4 else 0) else ft2 R l l.length
theorem ft3_b (R : RD) (l : List Cl3) (k : Nat) : ft3 R l k ≤ 4 := by
  unfold ft3
  split
  · cases rAs R (l.take k) <;> decide
  · unfold ft2; cases rMany R l <;> cases adN R l l.length <;> decide
theorem Rft_3 {R : RD} (hV : VR R) {c : Nat} (hc : c < Cn R) (h : 1 ≤ RL R) : Rft R c = ft3 R (clsA R c) (clsA R c).length := by
  unfold Rft ft3 ft2
  rw [if_neg (by omega), tw_N hV hc, List.take_length]
  cases rMany R (clsA R c) <;> cases adN R (clsA R c) (clsA R c).length <;> rfl
theorem rAs_up {R : RD} {l : List Cl3} {k : Nat} (h : rAs R (l.take k) = true) : rAs R (l.take l.length) = true := by
  rw [List.take_length]
  unfold rAs at h ⊢
  rw [List.any_eq_true] at h ⊢
  obtain ⟨x, hx, e⟩ := h
  exact ⟨x, List.mem_of_mem_take hx, e⟩
theorem bx_1 {a u v : Bool} (h : ((!a) == u) = v) : (a == (true && u)) = !v := by cases a <;> cases u <;> cases v <;> first | rfl | cases h
theorem bx_0 {a w v : Bool} (h : ((!a) == false) = v) : (a == (false && w)) = !v := by cases a <;> cases w <;> cases v <;> first | rfl | cases h
section
variable {len : Nat} {m : Mm} {Q : Option AV → Sx → Prop} {R : RD} {i c p l : Nat}
theorem yl_mlo (h1 : 1 ≤ RL R) (hd9 : RdM R m) (hp : p < 601) (ho : atp (RA R) p ≠ 0) (q : Q (some (aI (Rlo R p : Int))) (m, tl len)) : ∀ (d : Nat) (l : Nat), (Rlo R p < l + d) → (l ≤ Rlo R p) → E 149 2 [some (aA 124), some (aI ((p : Nat) : Int)), some (aI ((l : Nat) : Int))] [] (m, tl len) Q := by
  intro d
  induction d with
  | zero => intro l hd hl; omega
  | succ d ih =>
    intro l hd hl
    obtain ⟨o1, o2, o3⟩ := Rlo_oc h1 hp ho
    have hlt := Rlo_lt h1 p
    have hmx := RL_mx R
    have hm6 : mxv (Run R) ≤ 6 := by cases Run R <;> decide
    refine E_s (p' := 3) (st' := aI ((l : Nat) : Int) :: _) rfl rfl ?_
    refine E_s (p' := 4) (st' := aA 124 :: _) rfl rfl ?_
    refine E_gI (v := ((RL R : Nat) : Int)) rfl rfl rfl rfl hd9.1 ?_
    refine E_icmp_ge (x := ((l : Nat) : Int)) (y := ((RL R : Nat) : Int)) rfl (by decide) (fun h_1 => ?_) (fun h_1 => ?_)
    · refine E_go (p' := 38) (L' := [some (aA 124), some (aI ((p : Nat) : Int)), some (aI ((l : Nat) : Int))]) (st' := []) rfl rfl rfl ?_
      refine E_s (p' := 39) (st' := aI (-1) :: _) rfl rfl ?_
      refine E_ret rfl rfl ?_
      exfalso; omega
    · refine E_go (p' := 10) (L' := [some (aA 124), some (aI ((p : Nat) : Int)), some (aI ((l : Nat) : Int))]) (st' := []) rfl rfl rfl ?_
      refine E_s (p' := 11) (st' := aI ((p : Nat) : Int) :: _) rfl rfl ?_
      refine E_s (p' := 12) (st' := aA 124 :: _) rfl rfl ?_
      refine E_gA (b := 145) rfl rfl rfl rfl rfl rfl ?_
      refine E_s (p' := 16) (st' := aI ((l : Nat) : Int) :: _) rfl rfl ?_
      refine E_ald (e := l) (N := 601) (v := ((RF R l : Nat) : Int)) rfl rfl (rfl) (by omega) (hd9.2.2.2 _ (by omega)).1 ?_
      refine E_icmp_lt (x := ((p : Nat) : Int)) (y := ((RF R l : Nat) : Int)) rfl (by decide) (fun h_2 => ?_) (fun h_2 => ?_)
      · refine E_go (p' := 32) (L' := [some (aA 124), some (aI ((p : Nat) : Int)), some (aI ((l : Nat) : Int))]) (st' := []) rfl rfl rfl ?_
        refine E_inc (x := ((l : Nat) : Int)) (w := ((l + 1 : Nat) : Int)) (L' := [some (aA 124), some (aI ((p : Nat) : Int)), some (aI ((l + 1 : Nat) : Int))]) rfl rfl rfl (by omega) (by omega) rfl ?_
        refine E_s (p' := 2) rfl rfl ?_
        rcases Nat.lt_or_ge l (Rlo R p) with g9 | g9
        · exact ih (l + 1) (by omega) (by omega)
        · have e1 : RF R l = RF R (Rlo R p) := by rw [show l = Rlo R p by omega]
          have e2 : Rla R l = Rla R (Rlo R p) := by rw [show l = Rlo R p by omega]
          exfalso; omega
      · refine E_go (p' := 20) (L' := [some (aA 124), some (aI ((p : Nat) : Int)), some (aI ((l : Nat) : Int))]) (st' := []) rfl rfl rfl ?_
        refine E_s (p' := 21) (st' := aI ((p : Nat) : Int) :: _) rfl rfl ?_
        refine E_s (p' := 22) (st' := aA 124 :: _) rfl rfl ?_
        refine E_gA (b := 146) rfl rfl rfl rfl rfl rfl ?_
        refine E_s (p' := 26) (st' := aI ((l : Nat) : Int) :: _) rfl rfl ?_
        refine E_ald (e := l) (N := 601) (v := ((Rla R l : Nat) : Int)) rfl rfl (rfl) (by omega) (hd9.2.2.2 _ (by omega)).2.1 ?_
        refine E_icmp_gt (x := ((p : Nat) : Int)) (y := ((Rla R l : Nat) : Int)) rfl (by decide) (fun h_3 => ?_) (fun h_3 => ?_)
        · refine E_go (p' := 32) (L' := [some (aA 124), some (aI ((p : Nat) : Int)), some (aI ((l : Nat) : Int))]) (st' := []) rfl rfl rfl ?_
          refine E_inc (x := ((l : Nat) : Int)) (w := ((l + 1 : Nat) : Int)) (L' := [some (aA 124), some (aI ((p : Nat) : Int)), some (aI ((l + 1 : Nat) : Int))]) rfl rfl rfl (by omega) (by omega) rfl ?_
          refine E_s (p' := 2) rfl rfl ?_
          rcases Nat.lt_or_ge l (Rlo R p) with g9 | g9
          · exact ih (l + 1) (by omega) (by omega)
          · have e1 : RF R l = RF R (Rlo R p) := by rw [show l = Rlo R p by omega]
            have e2 : Rla R l = Rla R (Rlo R p) := by rw [show l = Rlo R p by omega]
            exfalso; omega
        · refine E_go (p' := 30) (L' := [some (aA 124), some (aI ((p : Nat) : Int)), some (aI ((l : Nat) : Int))]) (st' := []) rfl rfl rfl ?_
          refine E_s (p' := 31) (st' := aI ((l : Nat) : Int) :: _) rfl rfl ?_
          refine E_ret rfl rfl ?_
          have e9 : l = Rlo R p := by
            rcases Nat.lt_or_ge l (Rlo R p) with g9 | g9
            · have := o3 l g9; omega
            · omega
          rw [e9]
          exact q
theorem m_levelOf (h1 : 1 ≤ RL R) (hd9 : RdM R m) (hp : p < 601) (ho : atp (RA R) p ≠ 0) (q : Q (some (aI (Rlo R p : Int))) (m, tl len)) : E 149 0 [some (aA 124), some (aI ((p : Nat) : Int)), none] [] (m, tl len) Q := by
  refine E_s (p' := 1) (st' := aI 0 :: _) rfl rfl ?_
  refine E_s (p' := 2) (L' := [some (aA 124), some (aI ((p : Nat) : Int)), some (aI 0)]) rfl rfl ?_
  exact yl_mlo h1 hd9 hp ho q (Rlo R p + 1) 0 (by omega) (Nat.zero_le _)
theorem yl_mct (hd9 : RdM R m) (hl : l < RL R) (q : Q (some (aI (Rct R l : Int))) (m, tl len)) : ∀ (d : Nat) (k w : Nat), (k < d) → (l ≤ k ∧ k < RL R) → (w = 10 ^ (RL R - 1 - k) * wtv (Run R)) → E 151 21 [some (aA 124), some (aI ((l : Nat) : Int)), some (aI ((w : Nat) : Int)), some (aI ((k : Nat) : Int))] [] (m, tl len) Q := by
  intro d
  induction d with
  | zero => intro k w hd hk hw; omega
  | succ d ih =>
    intro k w hd hk hw
    have hmx := RL_mx R
    have hm6 : mxv (Run R) ≤ 6 := by cases Run R <;> decide
    have hwb := pw_le hmx (show RL R - 1 - k ≤ RL R by omega)
    rw [← hw] at hwb
    refine E_s (p' := 22) (st' := aI ((k : Nat) : Int) :: _) rfl rfl ?_
    refine E_s (p' := 23) (st' := aI ((l : Nat) : Int) :: _) rfl rfl ?_
    refine E_icmp_le (x := ((k : Nat) : Int)) (y := ((l : Nat) : Int)) rfl (by decide) (fun h_1 => ?_) (fun h_1 => ?_)
    · refine E_go (p' := 37) (L' := [some (aA 124), some (aI ((l : Nat) : Int)), some (aI ((w : Nat) : Int)), some (aI ((k : Nat) : Int))]) (st' := []) rfl rfl rfl ?_
      refine E_s (p' := 38) (st' := aI ((w : Nat) : Int) :: _) rfl rfl ?_
      refine E_ret rfl rfl ?_
      rw [show (w : Int) = (Rct R l : Int) by rw [hw, show k = l by omega]; rfl]
      exact q
    · refine E_go (p' := 26) (L' := [some (aA 124), some (aI ((l : Nat) : Int)), some (aI ((w : Nat) : Int)), some (aI ((k : Nat) : Int))]) (st' := []) rfl rfl rfl ?_
      obtain ⟨kp, ek⟩ : ∃ x, k = x + 1 := ⟨k - 1, by omega⟩
      subst ek
      refine E_s (p' := 27) (st' := aI ((w : Nat) : Int) :: _) rfl rfl ?_
      refine E_s (p' := 29) (st' := aI 10 :: _) rfl rfl ?_
      refine E_mul (v := ((10 * w : Nat) : Int)) rfl (by omega) (by omega) ?_
      refine E_s (p' := 31) (L' := [some (aA 124), some (aI ((l : Nat) : Int)), some (aI ((10 * w : Nat) : Int)), some (aI ((kp + 1 : Nat) : Int))]) rfl rfl ?_
      refine E_inc (x := ((kp + 1 : Nat) : Int)) (w := ((kp : Nat) : Int)) (L' := [some (aA 124), some (aI ((l : Nat) : Int)), some (aI ((10 * w : Nat) : Int)), some (aI ((kp : Nat) : Int))]) rfl rfl rfl (by omega) (by omega) rfl ?_
      refine E_s (p' := 21) rfl rfl ?_
      refine ih kp _ (by omega) (by omega) ?_
      rw [hw, show RL R - 1 - kp = RL R - 1 - (kp + 1) + 1 by omega, Nat.pow_succ, Nat.mul_right_comm, Nat.mul_comm]
theorem m_counts (hd9 : RdM R m) (hl : l < RL R) (q : Q (some (aI (Rct R l : Int))) (m, tl len)) : E 151 0 [some (aA 124), some (aI ((l : Nat) : Int)), none, none] [] (m, tl len) Q := by
  have hmx := RL_mx R
  have hm6 : mxv (Run R) ≤ 6 := by cases Run R <;> decide
  refine E_s (p' := 1) (st' := aA 124 :: _) rfl rfl ?_
  refine E_gI (v := (bi (Run R))) rfl rfl rfl rfl hd9.2.1 ?_
  refine E_b_eq0 (b := (Run R)) rfl (by decide) (fun h_1 => ?_) (fun h_1 => ?_)
  · refine E_go (p' := 11) (L' := [some (aA 124), some (aI ((l : Nat) : Int)), none, none]) (st' := []) rfl rfl rfl ?_
    refine E_s (p' := 13) (st' := aI 10 :: _) rfl rfl ?_
    refine E_s (p' := 14) (L' := [some (aA 124), some (aI ((l : Nat) : Int)), some (aI 10), none]) rfl rfl ?_
    refine E_s (p' := 15) (st' := aA 124 :: _) rfl rfl ?_
    refine E_gI (v := ((RL R : Nat) : Int)) rfl rfl rfl rfl hd9.1 ?_
    refine E_s (p' := 19) (st' := aI 1 :: _) rfl rfl ?_
    refine E_sub (v := ((RL R : Int) - 1)) rfl (by omega) (by omega) ?_
    refine E_s (p' := 21) (L' := [some (aA 124), some (aI ((l : Nat) : Int)), some (aI 10), some (aI ((RL R : Int) - 1))]) rfl rfl ?_
    rw [show ((RL R : Int) - 1) = ((RL R - 1 : Nat) : Int) by omega]
    exact yl_mct hd9 hl q (RL R) (RL R - 1) 10 (by omega) (by omega) (by rw [Nat.sub_self, h_1]; rfl)
  · refine E_go (p' := 7) (L' := [some (aA 124), some (aI ((l : Nat) : Int)), none, none]) (st' := []) rfl rfl rfl ?_
    refine E_s (p' := 8) (st' := aI 1 :: _) rfl rfl ?_
    refine E_s (p' := 13) rfl rfl ?_
    refine E_s (p' := 14) (L' := [some (aA 124), some (aI ((l : Nat) : Int)), some (aI 1), none]) rfl rfl ?_
    refine E_s (p' := 15) (st' := aA 124 :: _) rfl rfl ?_
    refine E_gI (v := ((RL R : Nat) : Int)) rfl rfl rfl rfl hd9.1 ?_
    refine E_s (p' := 19) (st' := aI 1 :: _) rfl rfl ?_
    refine E_sub (v := ((RL R : Int) - 1)) rfl (by omega) (by omega) ?_
    refine E_s (p' := 21) (L' := [some (aA 124), some (aI ((l : Nat) : Int)), some (aI 1), some (aI ((RL R : Int) - 1))]) rfl rfl ?_
    rw [show ((RL R : Int) - 1) = ((RL R - 1 : Nat) : Int) by omega]
    exact yl_mct hd9 hl q (RL R) (RL R - 1) 1 (by omega) (by omega) (by rw [Nat.sub_self, h_1]; rfl)
theorem m_isLost (hi : i < 4) (hM : MR R i m) (hV : VR R) (hcc : c < Cn R) (hd9 : RdM R m) (hl : l < RL R) (q : Q (some (aI (bi (lst R c l)))) (m, tl len)) : E 150 0 [some (aA 124), some (aI ((60 * i + c : Nat) : Int)), some (aI ((l : Nat) : Int))] [] (m, tl len) Q := by
  have hctz := Ctz_c R c
  have hn60 := hV.1
  have hmx := RL_mx R
  have hm6 : mxv (Run R) ≤ 6 := by cases Run R <;> decide
  refine E_s (p' := 1) (st' := aA 124 :: _) rfl rfl ?_
  refine E_gA (b := 131) rfl rfl rfl rfl rfl rfl ?_
  refine E_s (p' := 5) (st' := aI ((60 * i + c : Nat) : Int) :: _) rfl rfl ?_
  refine E_ald (e := 60 * i + c) (N := 240) (v := (((Ctz R c)))) rfl rfl (rfl) (by omega) (MR_131 hM (by omega) (by omega)) ?_
  refine E_s (p' := 7) (st' := aI (-1) :: _) rfl rfl ?_
  refine E_icmp_eq (x := (((Ctz R c)))) (y := (-1)) rfl (by decide) (fun h_1 => ?_) (fun h_1 => ?_)
  · refine E_go (p' := 29) (L' := [some (aA 124), some (aI ((60 * i + c : Nat) : Int)), some (aI ((l : Nat) : Int))]) (st' := []) rfl rfl rfl ?_
    refine E_s (p' := 30) (st' := aI 0 :: _) rfl rfl ?_
    refine E_ret rfl rfl ?_
    rw [show lst R c l = false by unfold lst; simp; omega] at q
    exact q
  · refine E_go (p' := 10) (L' := [some (aA 124), some (aI ((60 * i + c : Nat) : Int)), some (aI ((l : Nat) : Int))]) (st' := []) rfl rfl rfl ?_
    refine E_s (p' := 11) (st' := aA 124 :: _) rfl rfl ?_
    refine E_gA (b := 146) rfl rfl rfl rfl rfl rfl ?_
    refine E_s (p' := 15) (st' := aI ((l : Nat) : Int) :: _) rfl rfl ?_
    refine E_ald (e := l) (N := 601) (v := ((Rla R l : Nat) : Int)) rfl rfl (rfl) (by omega) (hd9.2.2.2 _ (by omega)).2.1 ?_
    refine E_s (p' := 17) (st' := aA 124 :: _) rfl rfl ?_
    refine E_gA (b := 131) rfl rfl rfl rfl rfl rfl ?_
    refine E_s (p' := 21) (st' := aI ((60 * i + c : Nat) : Int) :: _) rfl rfl ?_
    refine E_ald (e := 60 * i + c) (N := 240) (v := (((Ctz R c)))) rfl rfl (rfl) (by omega) (MR_131 hM (by omega) (by omega)) ?_
    refine E_icmp_lt (x := ((Rla R l : Nat) : Int)) (y := (((Ctz R c)))) rfl (by decide) (fun h_2 => ?_) (fun h_2 => ?_)
    · refine E_go (p' := 29) (L' := [some (aA 124), some (aI ((60 * i + c : Nat) : Int)), some (aI ((l : Nat) : Int))]) (st' := []) rfl rfl rfl ?_
      refine E_s (p' := 30) (st' := aI 0 :: _) rfl rfl ?_
      refine E_ret rfl rfl ?_
      rw [show lst R c l = false by unfold lst; simp; omega] at q
      exact q
    · refine E_go (p' := 25) (L' := [some (aA 124), some (aI ((60 * i + c : Nat) : Int)), some (aI ((l : Nat) : Int))]) (st' := []) rfl rfl rfl ?_
      refine E_s (p' := 26) (st' := aI 1 :: _) rfl rfl ?_
      refine E_s (p' := 30) rfl rfl ?_
      refine E_ret rfl rfl ?_
      rw [show lst R c l = true by unfold lst; simp; omega] at q
      exact q
end
section
variable {len : Nat} {m0 : Mm} {Q : Option AV → Sx → Prop} {R : RD} {i c : Nat}
theorem yl_r1 (hi : i < 4) (hM : MR R i m0) (hV : VR R) (hc : c < Cn R) (h1 : 1 ≤ RL R) (hk : ∀ m1 : Mm, RC0 R c m0 m1 ((bif rMany R (clsA R c) then 2 else 0 : Nat) : Int) 0 0 → E 148 85 [some (aA 124), some (aI ((60 * i + c : Nat) : Int)), some (aI ((clsA R c).length : Int)), none] [] (m1, tl len) Q) : ∀ (d : Nat) (k : Nat) (m : Mm), ((clsA R c).length < k + d) → (k ≤ (clsA R c).length) → (RC0 R c m0 m ((bif rMany R ((clsA R c).take k) then 2 else 0 : Nat) : Int) 0 0) → E 148 46 [some (aA 124), some (aI ((60 * i + c : Nat) : Int)), some (aI ((k : Nat) : Int)), none] [] (m, tl len) Q := by
  intro d
  induction d with
  | zero => intro k m hd hkk hI; omega
  | succ d ih =>
    intro k m hd hkk hI
    have hn60 := hV.1
    have hl1 : (clsA R c).length ≤ 30 := Nat.le_trans (cls_len R c (Ck R c)) (hV.2.2.1 c hc).2.2.2.2.2
    have hmx := RL_mx R
    have hm6 : mxv (Run R) ≤ 6 := by cases Run R <;> decide
    have hMm : MR R i m := hI.1.MR hM
    have hcp : ∀ q ∈ clsA R c, 1 ≤ q.1 ∧ q.1 ≤ 600 := cls_pl hV hc _ (Nat.le_refl _)
    have occ : ∀ k, k < (clsA R c).length → ((clsA R c).getD k (0, (0, 0))).1 < 601 ∧ atp (RA R) ((clsA R c).getD k (0, (0, 0))).1 ≠ 0 := fun k hk => ⟨by have := hcp _ (get_mem hk); omega, atp_mem (acl_mem hc (get_mem hk))⟩
    refine E_s (p' := 47) (st' := aI ((k : Nat) : Int) :: _) rfl rfl ?_
    refine E_s (p' := 48) (st' := aA 124 :: _) rfl rfl ?_
    refine E_gI (v := (((clsA R c).length : Nat) : Int)) rfl rfl rfl rfl hI.2.2.1.1 ?_
    refine E_icmp_ge (x := ((k : Nat) : Int)) (y := (((clsA R c).length : Nat) : Int)) rfl (by decide) (fun h_1 => ?_) (fun h_1 => ?_)
    · refine E_go (p' := 85) (L' := [some (aA 124), some (aI ((60 * i + c : Nat) : Int)), some (aI ((k : Nat) : Int)), none]) (st' := []) rfl rfl rfl ?_
      have ek : k = (clsA R c).length := by omega
      subst ek
      rw [List.take_length] at hI
      exact hk m hI
    · refine E_go (p' := 54) (L' := [some (aA 124), some (aI ((60 * i + c : Nat) : Int)), some (aI ((k : Nat) : Int)), none]) (st' := []) rfl rfl rfl ?_
      refine E_s (p' := 55) (st' := aA 124 :: _) rfl rfl ?_
      refine E_gA (b := 142) rfl rfl rfl rfl rfl rfl ?_
      refine E_s (p' := 59) (st' := aI ((k : Nat) : Int) :: _) rfl rfl ?_
      refine E_ald (e := k) (N := 30) (v := ((((clsA R c).getD k (0, (0, 0))).2.1 : Nat) : Int)) rfl rfl (rfl) (by omega) (hI.2.2.1.2 _ (by omega)).2.1 ?_
      refine E_if_ne (x := ((((clsA R c).getD k (0, (0, 0))).2.1 : Nat) : Int)) rfl (by decide) (fun h_2 => ?_) (fun h_2 => ?_)
      · refine E_go (p' := 79) (L' := [some (aA 124), some (aI ((60 * i + c : Nat) : Int)), some (aI ((k : Nat) : Int)), none]) (st' := []) rfl rfl rfl ?_
        refine E_inc (x := ((k : Nat) : Int)) (w := ((k + 1 : Nat) : Int)) (L' := [some (aA 124), some (aI ((60 * i + c : Nat) : Int)), some (aI ((k + 1 : Nat) : Int)), none]) rfl rfl rfl (by omega) (by omega) rfl ?_
        refine E_s (p' := 46) rfl rfl ?_
        have e9 : (decide (((clsA R c).getD k (0, (0, 0))).2.1 = 0) && decide (9 < ((clsA R c).getD k (0, (0, 0))).2.2)) = false := by rw [Bool.and_eq_false_iff, decide_eq_false_iff_not, decide_eq_false_iff_not]; omega
        exact ih (k + 1) _ (by omega) (by omega) (by rw [take_g (by omega), rMany_app, e9, Bool.or_false]; exact hI)
      · refine E_go (p' := 63) (L' := [some (aA 124), some (aI ((60 * i + c : Nat) : Int)), some (aI ((k : Nat) : Int)), none]) (st' := []) rfl rfl rfl ?_
        refine E_s (p' := 64) (st' := aA 124 :: _) rfl rfl ?_
        refine E_gA (b := 143) rfl rfl rfl rfl rfl rfl ?_
        refine E_s (p' := 68) (st' := aI ((k : Nat) : Int) :: _) rfl rfl ?_
        refine E_ald (e := k) (N := 30) (v := ((((clsA R c).getD k (0, (0, 0))).2.2 : Nat) : Int)) rfl rfl (rfl) (by omega) (hI.2.2.1.2 _ (by omega)).2.2 ?_
        refine E_s (p' := 71) (st' := aI 9 :: _) rfl rfl ?_
        refine E_icmp_le (x := ((((clsA R c).getD k (0, (0, 0))).2.2 : Nat) : Int)) (y := 9) rfl (by decide) (fun h_3 => ?_) (fun h_3 => ?_)
        · refine E_go (p' := 79) (L' := [some (aA 124), some (aI ((60 * i + c : Nat) : Int)), some (aI ((k : Nat) : Int)), none]) (st' := []) rfl rfl rfl ?_
          refine E_inc (x := ((k : Nat) : Int)) (w := ((k + 1 : Nat) : Int)) (L' := [some (aA 124), some (aI ((60 * i + c : Nat) : Int)), some (aI ((k + 1 : Nat) : Int)), none]) rfl rfl rfl (by omega) (by omega) rfl ?_
          refine E_s (p' := 46) rfl rfl ?_
          have e9 : (decide (((clsA R c).getD k (0, (0, 0))).2.1 = 0) && decide (9 < ((clsA R c).getD k (0, (0, 0))).2.2)) = false := by rw [Bool.and_eq_false_iff, decide_eq_false_iff_not, decide_eq_false_iff_not]; omega
          exact ih (k + 1) _ (by omega) (by omega) (by rw [take_g (by omega), rMany_app, e9, Bool.or_false]; exact hI)
        · refine E_go (p' := 74) (L' := [some (aA 124), some (aI ((60 * i + c : Nat) : Int)), some (aI ((k : Nat) : Int)), none]) (st' := []) rfl rfl rfl ?_
          refine E_s (p' := 75) (st' := aA 124 :: _) rfl rfl ?_
          refine E_s (p' := 76) (st' := aI 2 :: _) rfl rfl ?_
          refine E_pI rfl rfl rfl rfl (Or.inl rfl) ?_
          refine E_inc (x := ((k : Nat) : Int)) (w := ((k + 1 : Nat) : Int)) (L' := [some (aA 124), some (aI ((60 * i + c : Nat) : Int)), some (aI ((k + 1 : Nat) : Int)), none]) rfl rfl rfl (by omega) (by omega) rfl ?_
          refine E_s (p' := 46) rfl rfl ?_
          have e9 : (decide (((clsA R c).getD k (0, (0, 0))).2.1 = 0) && decide (9 < ((clsA R c).getD k (0, (0, 0))).2.2)) = true := by rw [decide_eq_true (by omega), decide_eq_true (by omega)]; rfl
          exact ih (k + 1) _ (by omega) (by omega) (by rw [take_g (by omega), rMany_app, e9, Bool.or_true]; exact hI.s27)
theorem yl_r2 (hi : i < 4) (hM : MR R i m0) (hV : VR R) (hc : c < Cn R) (h1 : 1 ≤ RL R) (hk : ∀ (k : Nat) (m1 : Mm), RC0 R c m0 m1 (ft2 R (clsA R c) (clsA R c).length : Int) 0 0 → E 148 138 [some (aA 124), some (aI ((60 * i + c : Nat) : Int)), some (aI (k : Int)), none] [] (m1, tl len) Q) : ∀ (d : Nat) (k : Nat) (m : Mm), ((clsA R c).length + 1 < k + d) → (1 ≤ k ∧ (k ≤ (clsA R c).length ∨ k = 1)) → (RC0 R c m0 m (ft2 R (clsA R c) k : Int) 0 0) → E 148 87 [some (aA 124), some (aI ((60 * i + c : Nat) : Int)), some (aI ((k : Nat) : Int)), none] [] (m, tl len) Q := by
  intro d
  induction d with
  | zero => intro k m hd hkk hI; omega
  | succ d ih =>
    intro k m hd hkk hI
    have hn60 := hV.1
    have hl1 : (clsA R c).length ≤ 30 := Nat.le_trans (cls_len R c (Ck R c)) (hV.2.2.1 c hc).2.2.2.2.2
    have hmx := RL_mx R
    have hm6 : mxv (Run R) ≤ 6 := by cases Run R <;> decide
    have hMm : MR R i m := hI.1.MR hM
    have hcp : ∀ q ∈ clsA R c, 1 ≤ q.1 ∧ q.1 ≤ 600 := cls_pl hV hc _ (Nat.le_refl _)
    have occ : ∀ k, k < (clsA R c).length → ((clsA R c).getD k (0, (0, 0))).1 < 601 ∧ atp (RA R) ((clsA R c).getD k (0, (0, 0))).1 ≠ 0 := fun k hk => ⟨by have := hcp _ (get_mem hk); omega, atp_mem (acl_mem hc (get_mem hk))⟩
    refine E_s (p' := 88) (st' := aI ((k : Nat) : Int) :: _) rfl rfl ?_
    refine E_s (p' := 89) (st' := aA 124 :: _) rfl rfl ?_
    refine E_gI (v := (((clsA R c).length : Nat) : Int)) rfl rfl rfl rfl hI.2.2.1.1 ?_
    refine E_icmp_ge (x := ((k : Nat) : Int)) (y := (((clsA R c).length : Nat) : Int)) rfl (by decide) (fun h_1 => ?_) (fun h_1 => ?_)
    · refine E_go (p' := 138) (L' := [some (aA 124), some (aI ((60 * i + c : Nat) : Int)), some (aI ((k : Nat) : Int)), none]) (st' := []) rfl rfl rfl ?_
      have e9 : ft2 R (clsA R c) k = ft2 R (clsA R c) (clsA R c).length := by
        rcases Nat.lt_or_ge k (clsA R c).length with g9 | g9
        · have g8 : ft2 R (clsA R c) k ≠ 0 := by omega
          unfold ft2 at g8 ⊢
          cases hm : rMany R (clsA R c) with
          | true => rfl
          | false =>
            rw [hm] at g8
            cases ha : adN R (clsA R c) k with
            | false => rw [ha] at g8; exact absurd rfl g8
            | true =>
              have := adN_up ha ((clsA R c).length - k)
              rw [show k + ((clsA R c).length - k) = (clsA R c).length by omega] at this
              rw [this]
        · rcases Nat.lt_or_ge (clsA R c).length k with g8 | g8
          · have e1 : k = 1 := by omega
            have e0 : (clsA R c).length = 0 := by omega
            rw [e1, e0]; rfl
          · rw [show k = (clsA R c).length by omega]
      rw [e9] at hI
      exact hk k m hI
    · refine E_go (p' := 95) (L' := [some (aA 124), some (aI ((60 * i + c : Nat) : Int)), some (aI ((k : Nat) : Int)), none]) (st' := []) rfl rfl rfl ?_
      refine E_s (p' := 96) (st' := aA 124 :: _) rfl rfl ?_
      refine E_gI (v := ((ft2 R (clsA R c) k : Nat) : Int)) rfl rfl rfl rfl hI.2.2.2.1 ?_
      refine E_if_ne (x := ((ft2 R (clsA R c) k : Nat) : Int)) rfl (by decide) (fun h_2 => ?_) (fun h_2 => ?_)
      · refine E_go (p' := 138) (L' := [some (aA 124), some (aI ((60 * i + c : Nat) : Int)), some (aI ((k : Nat) : Int)), none]) (st' := []) rfl rfl rfl ?_
        have e9 : ft2 R (clsA R c) k = ft2 R (clsA R c) (clsA R c).length := by
          rcases Nat.lt_or_ge k (clsA R c).length with g9 | g9
          · have g8 : ft2 R (clsA R c) k ≠ 0 := by omega
            unfold ft2 at g8 ⊢
            cases hm : rMany R (clsA R c) with
            | true => rfl
            | false =>
              rw [hm] at g8
              cases ha : adN R (clsA R c) k with
              | false => rw [ha] at g8; exact absurd rfl g8
              | true =>
                have := adN_up ha ((clsA R c).length - k)
                rw [show k + ((clsA R c).length - k) = (clsA R c).length by omega] at this
                rw [this]
          · rcases Nat.lt_or_ge (clsA R c).length k with g8 | g8
            · have e1 : k = 1 := by omega
              have e0 : (clsA R c).length = 0 := by omega
              rw [e1, e0]; rfl
            · rw [show k = (clsA R c).length by omega]
        rw [e9] at hI
        exact hk k m hI
      · refine E_go (p' := 102) (L' := [some (aA 124), some (aI ((60 * i + c : Nat) : Int)), some (aI ((k : Nat) : Int)), none]) (st' := []) rfl rfl rfl ?_
        obtain ⟨kp, ek⟩ : ∃ x, k = x + 1 := ⟨k - 1, by omega⟩
        subst ek
        refine E_s (p' := 103) (st' := aA 124 :: _) rfl rfl ?_
        refine E_s (p' := 104) (st' := aA 124 :: _) rfl rfl ?_
        refine E_gA (b := 141) rfl rfl rfl rfl rfl rfl ?_
        refine E_s (p' := 108) (st' := aI ((kp + 1 : Nat) : Int) :: _) rfl rfl ?_
        refine E_ald (e := kp + 1) (N := 30) (v := ((((clsA R c).getD (kp + 1) (0, (0, 0))).1 : Nat) : Int)) rfl rfl (rfl) (by omega) (hI.2.2.1.2 _ (by omega)).1 ?_
        refine E_callV (k' := 149) (a := 124) (r := []) (L0 := [some (aA 124), some (aI ((((clsA R c).getD (kp + 1) (0, (0, 0))).1 : Nat) : Int)), none]) rfl rfl rfl rfl rfl rfl rfl rfl rfl rfl ?_
        refine m_levelOf h1 hI.2.1 (occ _ (by omega)).1 (occ _ (by omega)).2 ?_
        refine E_go (p' := 112) (L' := [some (aA 124), some (aI ((60 * i + c : Nat) : Int)), some (aI ((kp + 1 : Nat) : Int)), none]) (st' := [aI ((Rlo R (((clsA R c).getD (kp + 1) (0, (0, 0))).1) : Nat) : Int)]) rfl rfl rfl ?_
        have hlo_2 := Rlo_lt h1 (((clsA R c).getD (kp + 1) (0, (0, 0))).1)
        refine E_s (p' := 113) (st' := aA 124 :: _) rfl rfl ?_
        refine E_s (p' := 114) (st' := aA 124 :: _) rfl rfl ?_
        refine E_gA (b := 141) rfl rfl rfl rfl rfl rfl ?_
        refine E_s (p' := 118) (st' := aI ((kp + 1 : Nat) : Int) :: _) rfl rfl ?_
        refine E_s (p' := 119) (st' := aI 1 :: _) rfl rfl ?_
        refine E_sub (v := ((kp : Nat) : Int)) rfl (by omega) (by omega) ?_
        refine E_ald (e := kp) (N := 30) (v := ((((clsA R c).getD kp (0, (0, 0))).1 : Nat) : Int)) rfl rfl (rfl) (by omega) (hI.2.2.1.2 _ (by omega)).1 ?_
        refine E_callV (k' := 149) (a := 124) (r := [aI ((Rlo R (((clsA R c).getD (kp + 1) (0, (0, 0))).1) : Nat) : Int)]) (L0 := [some (aA 124), some (aI ((((clsA R c).getD kp (0, (0, 0))).1 : Nat) : Int)), none]) rfl rfl rfl rfl rfl rfl rfl rfl rfl rfl ?_
        refine m_levelOf h1 hI.2.1 (occ _ (by omega)).1 (occ _ (by omega)).2 ?_
        refine E_go (p' := 124) (L' := [some (aA 124), some (aI ((60 * i + c : Nat) : Int)), some (aI ((kp + 1 : Nat) : Int)), none]) (st' := [aI ((Rlo R (((clsA R c).getD kp (0, (0, 0))).1) : Nat) : Int), aI ((Rlo R (((clsA R c).getD (kp + 1) (0, (0, 0))).1) : Nat) : Int)]) rfl rfl rfl ?_
        have hlo_2 := Rlo_lt h1 (((clsA R c).getD kp (0, (0, 0))).1)
        refine E_icmp_ne (x := ((Rlo R (((clsA R c).getD (kp + 1) (0, (0, 0))).1) : Nat) : Int)) (y := ((Rlo R (((clsA R c).getD kp (0, (0, 0))).1) : Nat) : Int)) rfl (by decide) (fun h_3 => ?_) (fun h_3 => ?_)
        · refine E_go (p' := 132) (L' := [some (aA 124), some (aI ((60 * i + c : Nat) : Int)), some (aI ((kp + 1 : Nat) : Int)), none]) (st' := []) rfl rfl rfl ?_
          refine E_inc (x := ((kp + 1 : Nat) : Int)) (w := ((kp + 2 : Nat) : Int)) (L' := [some (aA 124), some (aI ((60 * i + c : Nat) : Int)), some (aI ((kp + 2 : Nat) : Int)), none]) rfl rfl rfl (by omega) (by omega) rfl ?_
          refine E_s (p' := 87) rfl rfl ?_
          have e9 : (decide (1 ≤ kp + 1) && (Rlo R ((clsA R c).getD (kp + 1) (0, (0, 0))).1 == Rlo R ((clsA R c).getD (kp + 1 - 1) (0, (0, 0))).1)) = false := by rw [decide_eq_true (by omega), Nat.add_sub_cancel]; simp only [Bool.true_and]; exact beq_eq_false_iff_ne.mpr (by omega)
          refine ih (kp + 1 + 1) _ (by omega) (by omega) ?_
          have z9 : ft2 R (clsA R c) (kp + 1) = 0 := by omega
          have e8 : ft2 R (clsA R c) (kp + 1 + 1) = 0 := by
            unfold ft2 at z9 ⊢
            rw [adN_s, e9]
            cases hm : rMany R (clsA R c) with
            | true => rw [hm] at z9; cases z9
            | false =>
              rw [hm] at z9
              cases ha : adN R (clsA R c) (kp + 1) with
              | true => rw [ha] at z9; cases z9
              | false => rfl
          rw [e8]
          rw [z9] at hI; exact hI
        · refine E_go (p' := 127) (L' := [some (aA 124), some (aI ((60 * i + c : Nat) : Int)), some (aI ((kp + 1 : Nat) : Int)), none]) (st' := []) rfl rfl rfl ?_
          refine E_s (p' := 128) (st' := aA 124 :: _) rfl rfl ?_
          refine E_s (p' := 129) (st' := aI 3 :: _) rfl rfl ?_
          refine E_pI rfl rfl rfl rfl (Or.inl rfl) ?_
          refine E_inc (x := ((kp + 1 : Nat) : Int)) (w := ((kp + 2 : Nat) : Int)) (L' := [some (aA 124), some (aI ((60 * i + c : Nat) : Int)), some (aI ((kp + 2 : Nat) : Int)), none]) rfl rfl rfl (by omega) (by omega) rfl ?_
          refine E_s (p' := 87) rfl rfl ?_
          have e9 : (decide (1 ≤ kp + 1) && (Rlo R ((clsA R c).getD (kp + 1) (0, (0, 0))).1 == Rlo R ((clsA R c).getD (kp + 1 - 1) (0, (0, 0))).1)) = true := by rw [decide_eq_true (by omega), Nat.add_sub_cancel]; simp only [Bool.true_and]; exact beq_iff_eq.mpr (by omega)
          refine ih (kp + 1 + 1) _ (by omega) (by omega) ?_
          have z9 : ft2 R (clsA R c) (kp + 1) = 0 := by omega
          have e8 : ft2 R (clsA R c) (kp + 1 + 1) = 3 := by
            unfold ft2 at z9 ⊢
            rw [adN_s, e9]
            cases hm : rMany R (clsA R c) with
            | true => rw [hm] at z9; cases z9
            | false =>
              rw [hm] at z9
              cases ha : adN R (clsA R c) (kp + 1) with
              | true => rw [ha] at z9; cases z9
              | false => rfl
          rw [e8]
          exact hI.s27
theorem yl_r3 (hi : i < 4) (hM : MR R i m0) (hV : VR R) (hc : c < Cn R) (h1 : 1 ≤ RL R) (hk : ∀ (k : Nat) (x3 : Option AV) (m1 : Mm), RC0 R c m0 m1 (ft3 R (clsA R c) (clsA R c).length : Int) 0 0 → E 148 216 [some (aA 124), some (aI ((60 * i + c : Nat) : Int)), some (aI (k : Int)), x3] [] (m1, tl len) Q) : ∀ (d : Nat) (k : Nat) (m : Mm) (x3 : Option AV), ((clsA R c).length < k + d) → (k ≤ (clsA R c).length) → (RC0 R c m0 m (ft3 R (clsA R c) k : Int) 0 0) → E 148 140 [some (aA 124), some (aI ((60 * i + c : Nat) : Int)), some (aI ((k : Nat) : Int)), x3] [] (m, tl len) Q := by
  intro d
  induction d with
  | zero => intro k m x3 hd hkk hI; omega
  | succ d ih =>
    intro k m x3 hd hkk hI
    have hn60 := hV.1
    have hl1 : (clsA R c).length ≤ 30 := Nat.le_trans (cls_len R c (Ck R c)) (hV.2.2.1 c hc).2.2.2.2.2
    have hmx := RL_mx R
    have hm6 : mxv (Run R) ≤ 6 := by cases Run R <;> decide
    have hMm : MR R i m := hI.1.MR hM
    have hcp : ∀ q ∈ clsA R c, 1 ≤ q.1 ∧ q.1 ≤ 600 := cls_pl hV hc _ (Nat.le_refl _)
    have occ : ∀ k, k < (clsA R c).length → ((clsA R c).getD k (0, (0, 0))).1 < 601 ∧ atp (RA R) ((clsA R c).getD k (0, (0, 0))).1 ≠ 0 := fun k hk => ⟨by have := hcp _ (get_mem hk); omega, atp_mem (acl_mem hc (get_mem hk))⟩
    refine E_s (p' := 141) (st' := aI ((k : Nat) : Int) :: _) rfl rfl ?_
    refine E_s (p' := 142) (st' := aA 124 :: _) rfl rfl ?_
    refine E_gI (v := (((clsA R c).length : Nat) : Int)) rfl rfl rfl rfl hI.2.2.1.1 ?_
    refine E_icmp_ge (x := ((k : Nat) : Int)) (y := (((clsA R c).length : Nat) : Int)) rfl (by decide) (fun h_1 => ?_) (fun h_1 => ?_)
    · refine E_go (p' := 216) (L' := [some (aA 124), some (aI ((60 * i + c : Nat) : Int)), some (aI ((k : Nat) : Int)), x3]) (st' := []) rfl rfl rfl ?_
      have e9 : ft3 R (clsA R c) k = ft3 R (clsA R c) (clsA R c).length := by
        rcases Nat.lt_or_ge k (clsA R c).length with g9 | g9
        · have g8 : ft3 R (clsA R c) k ≠ 0 := by omega
          unfold ft3 at g8 ⊢
          by_cases h2 : ft2 R (clsA R c) (clsA R c).length = 0
          · rw [if_pos h2] at g8 ⊢
            rw [if_pos h2]
            cases ha : rAs R ((clsA R c).take k) with
            | false => rw [ha] at g8; exact absurd rfl g8
            | true => rw [rAs_up ha]
          · rw [if_neg h2, if_neg h2]
        · rw [show k = (clsA R c).length by omega]
      rw [e9] at hI
      exact hk k x3 m hI
    · refine E_go (p' := 148) (L' := [some (aA 124), some (aI ((60 * i + c : Nat) : Int)), some (aI ((k : Nat) : Int)), x3]) (st' := []) rfl rfl rfl ?_
      refine E_s (p' := 149) (st' := aA 124 :: _) rfl rfl ?_
      refine E_gI (v := ((ft3 R (clsA R c) k : Nat) : Int)) rfl rfl rfl rfl hI.2.2.2.1 ?_
      refine E_if_ne (x := ((ft3 R (clsA R c) k : Nat) : Int)) rfl (by decide) (fun h_2 => ?_) (fun h_2 => ?_)
      · refine E_go (p' := 216) (L' := [some (aA 124), some (aI ((60 * i + c : Nat) : Int)), some (aI ((k : Nat) : Int)), x3]) (st' := []) rfl rfl rfl ?_
        have e9 : ft3 R (clsA R c) k = ft3 R (clsA R c) (clsA R c).length := by
          rcases Nat.lt_or_ge k (clsA R c).length with g9 | g9
          · have g8 : ft3 R (clsA R c) k ≠ 0 := by omega
            unfold ft3 at g8 ⊢
            by_cases h2 : ft2 R (clsA R c) (clsA R c).length = 0
            · rw [if_pos h2] at g8 ⊢
              rw [if_pos h2]
              cases ha : rAs R ((clsA R c).take k) with
              | false => rw [ha] at g8; exact absurd rfl g8
              | true => rw [rAs_up ha]
            · rw [if_neg h2, if_neg h2]
          · rw [show k = (clsA R c).length by omega]
        rw [e9] at hI
        exact hk k x3 m hI
      · refine E_go (p' := 155) (L' := [some (aA 124), some (aI ((60 * i + c : Nat) : Int)), some (aI ((k : Nat) : Int)), x3]) (st' := []) rfl rfl rfl ?_
        refine E_s (p' := 156) (st' := aA 124 :: _) rfl rfl ?_
        refine E_gI (v := (bi (Run R))) rfl rfl rfl rfl hI.2.1.2.1 ?_
        refine E_b_eq0 (b := (Run R)) rfl (by decide) (fun h_3 => ?_) (fun h_3 => ?_)
        · refine E_go (p' := 185) (L' := [some (aA 124), some (aI ((60 * i + c : Nat) : Int)), some (aI ((k : Nat) : Int)), x3]) (st' := []) rfl rfl rfl ?_
          refine E_s (p' := 186) (st' := aI 0 :: _) rfl rfl ?_
          refine E_s (p' := 187) (L' := [some (aA 124), some (aI ((60 * i + c : Nat) : Int)), some (aI ((k : Nat) : Int)), some (aI 0)]) rfl rfl ?_
          refine E_s (p' := 188) (st' := aA 124 :: _) rfl rfl ?_
          refine E_gA (b := 142) rfl rfl rfl rfl rfl rfl ?_
          refine E_s (p' := 192) (st' := aI ((k : Nat) : Int) :: _) rfl rfl ?_
          refine E_ald (e := k) (N := 30) (v := ((((clsA R c).getD k (0, (0, 0))).2.1 : Nat) : Int)) rfl rfl (rfl) (by omega) (hI.2.2.1.2 _ (by omega)).2.1 ?_
          suffices h_4 : E 148 201 [some (aA 124), some (aI ((60 * i + c : Nat) : Int)), some (aI ((k : Nat) : Int)), some (aI 0)] [aI (bi (!decide (((((clsA R c).getD k (0, (0, 0))).2.1 : Nat) : Int) ≤ 0)))] (m, tl len) Q by
            refine E_if_le (x := ((((clsA R c).getD k (0, (0, 0))).2.1 : Nat) : Int)) rfl (by decide) (fun h_5 => ?_) (fun h_5 => ?_)
            · refine E_go (p' := 200) (L' := [some (aA 124), some (aI ((60 * i + c : Nat) : Int)), some (aI ((k : Nat) : Int)), some (aI 0)]) (st' := []) rfl rfl rfl ?_
              refine E_s (p' := 201) (st' := aI 0 :: _) rfl rfl ?_
              rw [decide_eq_true (p := ((((clsA R c).getD k (0, (0, 0))).2.1 : Nat) : Int) ≤ 0) (by omega)] at h_4
              exact h_4
            · refine E_go (p' := 196) (L' := [some (aA 124), some (aI ((60 * i + c : Nat) : Int)), some (aI ((k : Nat) : Int)), some (aI 0)]) (st' := []) rfl rfl rfl ?_
              refine E_s (p' := 197) (st' := aI 1 :: _) rfl rfl ?_
              refine E_s (p' := 201) rfl rfl ?_
              rw [decide_eq_false (p := ((((clsA R c).getD k (0, (0, 0))).2.1 : Nat) : Int) ≤ 0) (by omega)] at h_4
              exact h_4
          refine E_s (p' := 202) (st' := aI 0 :: _) rfl rfl ?_
          refine E_bb_eq (x := (!decide (((((clsA R c).getD k (0, (0, 0))).2.1 : Nat) : Int) ≤ 0))) (y := false) rfl (by decide) (fun h_6 => ?_) (fun h_6 => ?_)
          · refine E_go (p' := 210) (L' := [some (aA 124), some (aI ((60 * i + c : Nat) : Int)), some (aI ((k : Nat) : Int)), some (aI 0)]) (st' := []) rfl rfl rfl ?_
            refine E_inc (x := ((k : Nat) : Int)) (w := ((k + 1 : Nat) : Int)) (L' := [some (aA 124), some (aI ((60 * i + c : Nat) : Int)), some (aI ((k + 1 : Nat) : Int)), some (aI 0)]) rfl rfl rfl (by omega) (by omega) rfl ?_
            refine E_s (p' := 140) rfl rfl ?_
            have z9 : ft3 R (clsA R c) k = 0 := by omega
            have z8 : ft2 R (clsA R c) (clsA R c).length = 0 ∧ rAs R ((clsA R c).take k) = false := by
              unfold ft3 at z9
              by_cases h2 : ft2 R (clsA R c) (clsA R c).length = 0
              · refine ⟨h2, ?_⟩
                rw [if_pos h2] at z9
                cases ha : rAs R ((clsA R c).take k) with
                | false => rfl
                | true => rw [ha] at z9; cases z9
              · rw [if_neg h2] at z9; exact absurd z9 h2
            have e9 : (decide (((clsA R c).getD k (0, (0, 0))).2.1 = 0) == (Run R && decide (Rlo R ((clsA R c).getD k (0, (0, 0))).1 + 1 = RL R))) = false := by
              rw [show decide (((clsA R c).getD k (0, (0, 0))).2.1 = 0) = decide (((((clsA R c).getD k (0, (0, 0))).2.1 : Nat) : Int) ≤ 0) from decide_eq_decide.mpr (by omega)]
              rw [show Run R = false by assumption]
              exact bx_0 (by assumption)
            have e8 : ft3 R (clsA R c) (k + 1) = 0 := by unfold ft3; rw [if_pos z8.1, take_g (by omega), rAs_app, z8.2, e9]; rfl
            refine ih (k + 1) _ _ (by omega) (by omega) ?_
            rw [e8]
            rw [z9] at hI; exact hI
          · refine E_go (p' := 205) (L' := [some (aA 124), some (aI ((60 * i + c : Nat) : Int)), some (aI ((k : Nat) : Int)), some (aI 0)]) (st' := []) rfl rfl rfl ?_
            refine E_s (p' := 206) (st' := aA 124 :: _) rfl rfl ?_
            refine E_s (p' := 207) (st' := aI 4 :: _) rfl rfl ?_
            refine E_pI rfl rfl rfl rfl (Or.inl rfl) ?_
            refine E_inc (x := ((k : Nat) : Int)) (w := ((k + 1 : Nat) : Int)) (L' := [some (aA 124), some (aI ((60 * i + c : Nat) : Int)), some (aI ((k + 1 : Nat) : Int)), some (aI 0)]) rfl rfl rfl (by omega) (by omega) rfl ?_
            refine E_s (p' := 140) rfl rfl ?_
            have z9 : ft3 R (clsA R c) k = 0 := by omega
            have z8 : ft2 R (clsA R c) (clsA R c).length = 0 ∧ rAs R ((clsA R c).take k) = false := by
              unfold ft3 at z9
              by_cases h2 : ft2 R (clsA R c) (clsA R c).length = 0
              · refine ⟨h2, ?_⟩
                rw [if_pos h2] at z9
                cases ha : rAs R ((clsA R c).take k) with
                | false => rfl
                | true => rw [ha] at z9; cases z9
              · rw [if_neg h2] at z9; exact absurd z9 h2
            have e9 : (decide (((clsA R c).getD k (0, (0, 0))).2.1 = 0) == (Run R && decide (Rlo R ((clsA R c).getD k (0, (0, 0))).1 + 1 = RL R))) = true := by
              rw [show decide (((clsA R c).getD k (0, (0, 0))).2.1 = 0) = decide (((((clsA R c).getD k (0, (0, 0))).2.1 : Nat) : Int) ≤ 0) from decide_eq_decide.mpr (by omega)]
              rw [show Run R = false by assumption]
              exact bx_0 (by assumption)
            have e8 : ft3 R (clsA R c) (k + 1) = 4 := by unfold ft3; rw [if_pos z8.1, take_g (by omega), rAs_app, z8.2, e9]; rfl
            refine ih (k + 1) _ _ (by omega) (by omega) ?_
            rw [e8]
            exact hI.s27
        · refine E_go (p' := 162) (L' := [some (aA 124), some (aI ((60 * i + c : Nat) : Int)), some (aI ((k : Nat) : Int)), x3]) (st' := []) rfl rfl rfl ?_
          refine E_s (p' := 163) (st' := aA 124 :: _) rfl rfl ?_
          refine E_s (p' := 164) (st' := aA 124 :: _) rfl rfl ?_
          refine E_gA (b := 141) rfl rfl rfl rfl rfl rfl ?_
          refine E_s (p' := 168) (st' := aI ((k : Nat) : Int) :: _) rfl rfl ?_
          refine E_ald (e := k) (N := 30) (v := ((((clsA R c).getD k (0, (0, 0))).1 : Nat) : Int)) rfl rfl (rfl) (by omega) (hI.2.2.1.2 _ (by omega)).1 ?_
          refine E_callV (k' := 149) (a := 124) (r := []) (L0 := [some (aA 124), some (aI ((((clsA R c).getD k (0, (0, 0))).1 : Nat) : Int)), none]) rfl rfl rfl rfl rfl rfl rfl rfl rfl rfl ?_
          refine m_levelOf h1 hI.2.1 (occ _ (by omega)).1 (occ _ (by omega)).2 ?_
          refine E_go (p' := 172) (L' := [some (aA 124), some (aI ((60 * i + c : Nat) : Int)), some (aI ((k : Nat) : Int)), x3]) (st' := [aI ((Rlo R (((clsA R c).getD k (0, (0, 0))).1) : Nat) : Int)]) rfl rfl rfl ?_
          have hlo_6 := Rlo_lt h1 (((clsA R c).getD k (0, (0, 0))).1)
          refine E_s (p' := 173) (st' := aA 124 :: _) rfl rfl ?_
          refine E_gI (v := ((RL R : Nat) : Int)) rfl rfl rfl rfl hI.2.1.1 ?_
          refine E_s (p' := 177) (st' := aI 1 :: _) rfl rfl ?_
          refine E_sub (v := ((RL R : Int) - 1)) rfl (by omega) (by omega) ?_
          suffices h_7 : E 148 186 [some (aA 124), some (aI ((60 * i + c : Nat) : Int)), some (aI ((k : Nat) : Int)), x3] [aI (bi (!decide (((Rlo R (((clsA R c).getD k (0, (0, 0))).1) : Nat) : Int) ≠ ((RL R : Int) - 1))))] (m, tl len) Q by
            refine E_icmp_ne (x := ((Rlo R (((clsA R c).getD k (0, (0, 0))).1) : Nat) : Int)) (y := ((RL R : Int) - 1)) rfl (by decide) (fun h_8 => ?_) (fun h_8 => ?_)
            · refine E_go (p' := 185) (L' := [some (aA 124), some (aI ((60 * i + c : Nat) : Int)), some (aI ((k : Nat) : Int)), x3]) (st' := []) rfl rfl rfl ?_
              refine E_s (p' := 186) (st' := aI 0 :: _) rfl rfl ?_
              rw [decide_eq_true (p := ((Rlo R (((clsA R c).getD k (0, (0, 0))).1) : Nat) : Int) ≠ ((RL R : Int) - 1)) (by omega)] at h_7
              exact h_7
            · refine E_go (p' := 181) (L' := [some (aA 124), some (aI ((60 * i + c : Nat) : Int)), some (aI ((k : Nat) : Int)), x3]) (st' := []) rfl rfl rfl ?_
              refine E_s (p' := 182) (st' := aI 1 :: _) rfl rfl ?_
              refine E_s (p' := 186) rfl rfl ?_
              rw [decide_eq_false (p := ((Rlo R (((clsA R c).getD k (0, (0, 0))).1) : Nat) : Int) ≠ ((RL R : Int) - 1)) (by omega)] at h_7
              exact h_7
          refine E_s (p' := 187) (L' := [some (aA 124), some (aI ((60 * i + c : Nat) : Int)), some (aI ((k : Nat) : Int)), some (aI (bi (!decide (((Rlo R (((clsA R c).getD k (0, (0, 0))).1) : Nat) : Int) ≠ ((RL R : Int) - 1)))))]) rfl rfl ?_
          refine E_s (p' := 188) (st' := aA 124 :: _) rfl rfl ?_
          refine E_gA (b := 142) rfl rfl rfl rfl rfl rfl ?_
          refine E_s (p' := 192) (st' := aI ((k : Nat) : Int) :: _) rfl rfl ?_
          refine E_ald (e := k) (N := 30) (v := ((((clsA R c).getD k (0, (0, 0))).2.1 : Nat) : Int)) rfl rfl (rfl) (by omega) (hI.2.2.1.2 _ (by omega)).2.1 ?_
          suffices h_9 : E 148 201 [some (aA 124), some (aI ((60 * i + c : Nat) : Int)), some (aI ((k : Nat) : Int)), some (aI (bi (!decide (((Rlo R (((clsA R c).getD k (0, (0, 0))).1) : Nat) : Int) ≠ ((RL R : Int) - 1)))))] [aI (bi (!decide (((((clsA R c).getD k (0, (0, 0))).2.1 : Nat) : Int) ≤ 0)))] (m, tl len) Q by
            refine E_if_le (x := ((((clsA R c).getD k (0, (0, 0))).2.1 : Nat) : Int)) rfl (by decide) (fun h_10 => ?_) (fun h_10 => ?_)
            · refine E_go (p' := 200) (L' := [some (aA 124), some (aI ((60 * i + c : Nat) : Int)), some (aI ((k : Nat) : Int)), some (aI (bi (!decide (((Rlo R (((clsA R c).getD k (0, (0, 0))).1) : Nat) : Int) ≠ ((RL R : Int) - 1)))))]) (st' := []) rfl rfl rfl ?_
              refine E_s (p' := 201) (st' := aI 0 :: _) rfl rfl ?_
              rw [decide_eq_true (p := ((((clsA R c).getD k (0, (0, 0))).2.1 : Nat) : Int) ≤ 0) (by omega)] at h_9
              exact h_9
            · refine E_go (p' := 196) (L' := [some (aA 124), some (aI ((60 * i + c : Nat) : Int)), some (aI ((k : Nat) : Int)), some (aI (bi (!decide (((Rlo R (((clsA R c).getD k (0, (0, 0))).1) : Nat) : Int) ≠ ((RL R : Int) - 1)))))]) (st' := []) rfl rfl rfl ?_
              refine E_s (p' := 197) (st' := aI 1 :: _) rfl rfl ?_
              refine E_s (p' := 201) rfl rfl ?_
              rw [decide_eq_false (p := ((((clsA R c).getD k (0, (0, 0))).2.1 : Nat) : Int) ≤ 0) (by omega)] at h_9
              exact h_9
          refine E_s (p' := 202) (st' := aI (bi (!decide (((Rlo R (((clsA R c).getD k (0, (0, 0))).1) : Nat) : Int) ≠ ((RL R : Int) - 1)))) :: _) rfl rfl ?_
          refine E_bb_eq (x := (!decide (((((clsA R c).getD k (0, (0, 0))).2.1 : Nat) : Int) ≤ 0))) (y := (!decide (((Rlo R (((clsA R c).getD k (0, (0, 0))).1) : Nat) : Int) ≠ ((RL R : Int) - 1)))) rfl (by decide) (fun h_11 => ?_) (fun h_11 => ?_)
          · refine E_go (p' := 210) (L' := [some (aA 124), some (aI ((60 * i + c : Nat) : Int)), some (aI ((k : Nat) : Int)), some (aI (bi (!decide (((Rlo R (((clsA R c).getD k (0, (0, 0))).1) : Nat) : Int) ≠ ((RL R : Int) - 1)))))]) (st' := []) rfl rfl rfl ?_
            refine E_inc (x := ((k : Nat) : Int)) (w := ((k + 1 : Nat) : Int)) (L' := [some (aA 124), some (aI ((60 * i + c : Nat) : Int)), some (aI ((k + 1 : Nat) : Int)), some (aI (bi (!decide (((Rlo R (((clsA R c).getD k (0, (0, 0))).1) : Nat) : Int) ≠ ((RL R : Int) - 1)))))]) rfl rfl rfl (by omega) (by omega) rfl ?_
            refine E_s (p' := 140) rfl rfl ?_
            have z9 : ft3 R (clsA R c) k = 0 := by omega
            have z8 : ft2 R (clsA R c) (clsA R c).length = 0 ∧ rAs R ((clsA R c).take k) = false := by
              unfold ft3 at z9
              by_cases h2 : ft2 R (clsA R c) (clsA R c).length = 0
              · refine ⟨h2, ?_⟩
                rw [if_pos h2] at z9
                cases ha : rAs R ((clsA R c).take k) with
                | false => rfl
                | true => rw [ha] at z9; cases z9
              · rw [if_neg h2] at z9; exact absurd z9 h2
            have e9 : (decide (((clsA R c).getD k (0, (0, 0))).2.1 = 0) == (Run R && decide (Rlo R ((clsA R c).getD k (0, (0, 0))).1 + 1 = RL R))) = false := by
              rw [show decide (((clsA R c).getD k (0, (0, 0))).2.1 = 0) = decide (((((clsA R c).getD k (0, (0, 0))).2.1 : Nat) : Int) ≤ 0) from decide_eq_decide.mpr (by omega)]
              rw [show Run R = true by assumption, show decide (Rlo R ((clsA R c).getD k (0, (0, 0))).1 + 1 = RL R) = (!decide (((Rlo R (((clsA R c).getD k (0, (0, 0))).1) : Nat) : Int) ≠ ((RL R : Int) - 1))) by
                by_cases g2 : Rlo R ((clsA R c).getD k (0, (0, 0))).1 + 1 = RL R
                · rw [decide_eq_true g2, decide_eq_false (by omega)]; rfl
                · rw [decide_eq_false g2, decide_eq_true (by omega)]; rfl]
              exact bx_1 (by assumption)
            have e8 : ft3 R (clsA R c) (k + 1) = 0 := by unfold ft3; rw [if_pos z8.1, take_g (by omega), rAs_app, z8.2, e9]; rfl
            refine ih (k + 1) _ _ (by omega) (by omega) ?_
            rw [e8]
            rw [z9] at hI; exact hI
          · refine E_go (p' := 205) (L' := [some (aA 124), some (aI ((60 * i + c : Nat) : Int)), some (aI ((k : Nat) : Int)), some (aI (bi (!decide (((Rlo R (((clsA R c).getD k (0, (0, 0))).1) : Nat) : Int) ≠ ((RL R : Int) - 1)))))]) (st' := []) rfl rfl rfl ?_
            refine E_s (p' := 206) (st' := aA 124 :: _) rfl rfl ?_
            refine E_s (p' := 207) (st' := aI 4 :: _) rfl rfl ?_
            refine E_pI rfl rfl rfl rfl (Or.inl rfl) ?_
            refine E_inc (x := ((k : Nat) : Int)) (w := ((k + 1 : Nat) : Int)) (L' := [some (aA 124), some (aI ((60 * i + c : Nat) : Int)), some (aI ((k + 1 : Nat) : Int)), some (aI (bi (!decide (((Rlo R (((clsA R c).getD k (0, (0, 0))).1) : Nat) : Int) ≠ ((RL R : Int) - 1)))))]) rfl rfl rfl (by omega) (by omega) rfl ?_
            refine E_s (p' := 140) rfl rfl ?_
            have z9 : ft3 R (clsA R c) k = 0 := by omega
            have z8 : ft2 R (clsA R c) (clsA R c).length = 0 ∧ rAs R ((clsA R c).take k) = false := by
              unfold ft3 at z9
              by_cases h2 : ft2 R (clsA R c) (clsA R c).length = 0
              · refine ⟨h2, ?_⟩
                rw [if_pos h2] at z9
                cases ha : rAs R ((clsA R c).take k) with
                | false => rfl
                | true => rw [ha] at z9; cases z9
              · rw [if_neg h2] at z9; exact absurd z9 h2
            have e9 : (decide (((clsA R c).getD k (0, (0, 0))).2.1 = 0) == (Run R && decide (Rlo R ((clsA R c).getD k (0, (0, 0))).1 + 1 = RL R))) = true := by
              rw [show decide (((clsA R c).getD k (0, (0, 0))).2.1 = 0) = decide (((((clsA R c).getD k (0, (0, 0))).2.1 : Nat) : Int) ≤ 0) from decide_eq_decide.mpr (by omega)]
              rw [show Run R = true by assumption, show decide (Rlo R ((clsA R c).getD k (0, (0, 0))).1 + 1 = RL R) = (!decide (((Rlo R (((clsA R c).getD k (0, (0, 0))).1) : Nat) : Int) ≠ ((RL R : Int) - 1))) by
                by_cases g2 : Rlo R ((clsA R c).getD k (0, (0, 0))).1 + 1 = RL R
                · rw [decide_eq_true g2, decide_eq_false (by omega)]; rfl
                · rw [decide_eq_false g2, decide_eq_true (by omega)]; rfl]
              exact bx_1 (by assumption)
            have e8 : ft3 R (clsA R c) (k + 1) = 4 := by unfold ft3; rw [if_pos z8.1, take_g (by omega), rAs_app, z8.2, e9]; rfl
            refine ih (k + 1) _ _ (by omega) (by omega) ?_
            rw [e8]
            exact hI.s27
end

theorem ft3_0 {R : RD} {l : List Cl3} : ft3 R l 0 = ft2 R l l.length := by
  unfold ft3
  rw [List.take_zero]
  by_cases h : ft2 R l l.length = 0
  · rw [if_pos h, h]; rfl
  · rw [if_neg h]
theorem SL_b {R : RD} {c : Nat} (h1 : 1 ≤ RL R) (l : Nat) : sumN (fun l => bif lst R c l then 9 * Rct R l else 0) l ≤ 9000000 * l := by
  have := sumN_le (f := fun l => bif lst R c l then 9 * Rct R l else 0) (b := 9000000) l (fun i hi => by have := Rct_le h1 i; show (bif lst R c i then 9 * Rct R i else 0) ≤ _; cases lst R c i <;> simp <;> omega)
  omega
section
variable {len : Nat} {m0 : Mm} {Q : Option AV → Sx → Prop} {R : RD} {i c : Nat}
theorem yl_r4 (hi : i < 4) (hM : MR R i m0) (hV : VR R) (hc : c < Cn R) (h1 : 1 ≤ RL R) (hk : ∀ (x3 : Option AV) (m1 : Mm), RC0 R c m0 m1 0 (rSum R c (clsA R c) : Int) 0 → E 148 288 [some (aA 124), some (aI ((60 * i + c : Nat) : Int)), some (aI ((clsA R c).length : Int)), x3] [] (m1, tl len) Q) : ∀ (d : Nat) (k v : Nat) (m : Mm) (x3 : Option AV), ((clsA R c).length < k + d) → (k ≤ (clsA R c).length) → (v = rSum R c ((clsA R c).take k)) → (RC0 R c m0 m 0 (v : Int) 0) → E 148 226 [some (aA 124), some (aI ((60 * i + c : Nat) : Int)), some (aI ((k : Nat) : Int)), x3] [] (m, tl len) Q := by
  intro d
  induction d with
  | zero => intro k v m x3 hd hkk hv hI; omega
  | succ d ih =>
    intro k v m x3 hd hkk hv hI
    have hn60 := hV.1
    have hl1 : (clsA R c).length ≤ 30 := Nat.le_trans (cls_len R c (Ck R c)) (hV.2.2.1 c hc).2.2.2.2.2
    have hmx := RL_mx R
    have hm6 : mxv (Run R) ≤ 6 := by cases Run R <;> decide
    have hMm : MR R i m := hI.1.MR hM
    have hcp : ∀ q ∈ clsA R c, 1 ≤ q.1 ∧ q.1 ≤ 600 := cls_pl hV hc _ (Nat.le_refl _)
    have occ : ∀ k, k < (clsA R c).length → ((clsA R c).getD k (0, (0, 0))).1 < 601 ∧ atp (RA R) ((clsA R c).getD k (0, (0, 0))).1 ≠ 0 := fun k hk => ⟨by have := hcp _ (get_mem hk); omega, atp_mem (acl_mem hc (get_mem hk))⟩
    have hvb : v ≤ 30000000 * k := by
      rw [hv]
      have := rSum_le (c := c) h1 ((clsA R c).take k) (fun q hq => cls_wb hV hc _ (Nat.le_refl _) q (List.mem_of_mem_take hq))
      rw [List.length_take] at this; omega
    refine E_s (p' := 227) (st' := aI ((k : Nat) : Int) :: _) rfl rfl ?_
    refine E_s (p' := 228) (st' := aA 124 :: _) rfl rfl ?_
    refine E_gI (v := (((clsA R c).length : Nat) : Int)) rfl rfl rfl rfl hI.2.2.1.1 ?_
    refine E_icmp_ge (x := ((k : Nat) : Int)) (y := (((clsA R c).length : Nat) : Int)) rfl (by decide) (fun h_1 => ?_) (fun h_1 => ?_)
    · refine E_go (p' := 288) (L' := [some (aA 124), some (aI ((60 * i + c : Nat) : Int)), some (aI ((k : Nat) : Int)), x3]) (st' := []) rfl rfl rfl ?_
      have ek : k = (clsA R c).length := by omega
      subst ek
      rw [List.take_length] at hv
      rw [hv] at hI
      exact hk x3 m hI
    · refine E_go (p' := 234) (L' := [some (aA 124), some (aI ((60 * i + c : Nat) : Int)), some (aI ((k : Nat) : Int)), x3]) (st' := []) rfl rfl rfl ?_
      have hwb := cls_wb hV hc _ (Nat.le_refl _) _ (get_mem (l := clsA R c) (k := k) (by omega))
      have hrb := Rct_le h1 (Rlo R ((clsA R c).getD k (0, (0, 0))).1)
      have hpr : ((clsA R c).getD k (0, (0, 0))).2.2 * Rct R (Rlo R ((clsA R c).getD k (0, (0, 0))).1) ≤ 30 * 1000000 := Nat.mul_le_mul hwb hrb
      refine E_s (p' := 235) (st' := aA 124 :: _) rfl rfl ?_
      refine E_s (p' := 236) (st' := aI ((60 * i + c : Nat) : Int) :: _) rfl rfl ?_
      refine E_s (p' := 237) (st' := aA 124 :: _) rfl rfl ?_
      refine E_s (p' := 238) (st' := aA 124 :: _) rfl rfl ?_
      refine E_gA (b := 141) rfl rfl rfl rfl rfl rfl ?_
      refine E_s (p' := 242) (st' := aI ((k : Nat) : Int) :: _) rfl rfl ?_
      refine E_ald (e := k) (N := 30) (v := ((((clsA R c).getD k (0, (0, 0))).1 : Nat) : Int)) rfl rfl (rfl) (by omega) (hI.2.2.1.2 _ (by omega)).1 ?_
      refine E_callV (k' := 149) (a := 124) (r := [aI ((60 * i + c : Nat) : Int), aA 124]) (L0 := [some (aA 124), some (aI ((((clsA R c).getD k (0, (0, 0))).1 : Nat) : Int)), none]) rfl rfl rfl rfl rfl rfl rfl rfl rfl rfl ?_
      refine m_levelOf h1 hI.2.1 (occ _ (by omega)).1 (occ _ (by omega)).2 ?_
      refine E_go (p' := 246) (L' := [some (aA 124), some (aI ((60 * i + c : Nat) : Int)), some (aI ((k : Nat) : Int)), x3]) (st' := [aI ((Rlo R (((clsA R c).getD k (0, (0, 0))).1) : Nat) : Int), aI ((60 * i + c : Nat) : Int), aA 124]) rfl rfl rfl ?_
      have hlo_1 := Rlo_lt h1 (((clsA R c).getD k (0, (0, 0))).1)
      refine E_callV (k' := 150) (a := 124) (r := []) (L0 := [some (aA 124), some (aI ((60 * i + c : Nat) : Int)), some (aI ((Rlo R (((clsA R c).getD k (0, (0, 0))).1) : Nat) : Int))]) rfl rfl rfl rfl rfl rfl rfl rfl rfl rfl ?_
      refine m_isLost hi hMm hV hc hI.2.1 (l := Rlo R (((clsA R c).getD k (0, (0, 0))).1)) (by omega) ?_
      refine E_go (p' := 249) (L' := [some (aA 124), some (aI ((60 * i + c : Nat) : Int)), some (aI ((k : Nat) : Int)), x3]) (st' := [aI (bi (lst R c (Rlo R (((clsA R c).getD k (0, (0, 0))).1))))]) rfl rfl rfl ?_
      refine E_b_ne0 (b := (lst R c (Rlo R (((clsA R c).getD k (0, (0, 0))).1)))) rfl (by decide) (fun h_2 => ?_) (fun h_2 => ?_)
      · refine E_go (p' := 282) (L' := [some (aA 124), some (aI ((60 * i + c : Nat) : Int)), some (aI ((k : Nat) : Int)), x3]) (st' := []) rfl rfl rfl ?_
        refine E_inc (x := ((k : Nat) : Int)) (w := ((k + 1 : Nat) : Int)) (L' := [some (aA 124), some (aI ((60 * i + c : Nat) : Int)), some (aI ((k + 1 : Nat) : Int)), x3]) rfl rfl rfl (by omega) (by omega) rfl ?_
        refine E_s (p' := 226) rfl rfl ?_
        refine ih (k + 1) _ _ _ (by omega) (by omega) ?_ hI
        rw [take_g (by omega), rSum_app, ← hv, show lst R c (Rlo R ((clsA R c).getD k (0, (0, 0))).1) = true by assumption]
        rfl
      · refine E_go (p' := 252) (L' := [some (aA 124), some (aI ((60 * i + c : Nat) : Int)), some (aI ((k : Nat) : Int)), x3]) (st' := []) rfl rfl rfl ?_
        refine E_s (p' := 253) (st' := aA 124 :: _) rfl rfl ?_
        refine E_s (p' := 254) (st' := aA 124 :: _) rfl rfl ?_
        refine E_gI (v := ((v : Nat) : Int)) rfl rfl rfl rfl hI.2.2.2.2.1 ?_
        refine E_s (p' := 258) (st' := aA 124 :: _) rfl rfl ?_
        refine E_gA (b := 143) rfl rfl rfl rfl rfl rfl ?_
        refine E_s (p' := 262) (st' := aI ((k : Nat) : Int) :: _) rfl rfl ?_
        refine E_ald (e := k) (N := 30) (v := ((((clsA R c).getD k (0, (0, 0))).2.2 : Nat) : Int)) rfl rfl (rfl) (by omega) (hI.2.2.1.2 _ (by omega)).2.2 ?_
        refine E_s (p' := 264) (st' := aA 124 :: _) rfl rfl ?_
        refine E_s (p' := 265) (st' := aA 124 :: _) rfl rfl ?_
        refine E_s (p' := 266) (st' := aA 124 :: _) rfl rfl ?_
        refine E_gA (b := 141) rfl rfl rfl rfl rfl rfl ?_
        refine E_s (p' := 270) (st' := aI ((k : Nat) : Int) :: _) rfl rfl ?_
        refine E_ald (e := k) (N := 30) (v := ((((clsA R c).getD k (0, (0, 0))).1 : Nat) : Int)) rfl rfl (rfl) (by omega) (hI.2.2.1.2 _ (by omega)).1 ?_
        refine E_callV (k' := 149) (a := 124) (r := [aA 124, aI ((((clsA R c).getD k (0, (0, 0))).2.2 : Nat) : Int), aI ((v : Nat) : Int), aA 124]) (L0 := [some (aA 124), some (aI ((((clsA R c).getD k (0, (0, 0))).1 : Nat) : Int)), none]) rfl rfl rfl rfl rfl rfl rfl rfl rfl rfl ?_
        refine m_levelOf h1 hI.2.1 (occ _ (by omega)).1 (occ _ (by omega)).2 ?_
        refine E_go (p' := 274) (L' := [some (aA 124), some (aI ((60 * i + c : Nat) : Int)), some (aI ((k : Nat) : Int)), x3]) (st' := [aI ((Rlo R (((clsA R c).getD k (0, (0, 0))).1) : Nat) : Int), aA 124, aI ((((clsA R c).getD k (0, (0, 0))).2.2 : Nat) : Int), aI ((v : Nat) : Int), aA 124]) rfl rfl rfl ?_
        have hlo_2 := Rlo_lt h1 (((clsA R c).getD k (0, (0, 0))).1)
        refine E_callV (k' := 151) (a := 124) (r := [aI ((((clsA R c).getD k (0, (0, 0))).2.2 : Nat) : Int), aI ((v : Nat) : Int), aA 124]) (L0 := [some (aA 124), some (aI ((Rlo R (((clsA R c).getD k (0, (0, 0))).1) : Nat) : Int)), none, none]) rfl rfl rfl rfl rfl rfl rfl rfl rfl rfl ?_
        refine m_counts hI.2.1 (l := Rlo R (((clsA R c).getD k (0, (0, 0))).1)) (by omega) ?_
        refine E_go (p' := 277) (L' := [some (aA 124), some (aI ((60 * i + c : Nat) : Int)), some (aI ((k : Nat) : Int)), x3]) (st' := [aI ((Rct R (Rlo R (((clsA R c).getD k (0, (0, 0))).1)) : Nat) : Int), aI ((((clsA R c).getD k (0, (0, 0))).2.2 : Nat) : Int), aI ((v : Nat) : Int), aA 124]) rfl rfl rfl ?_
        refine E_mulN (x := ((clsA R c).getD k (0, (0, 0))).2.2) (y := Rct R (Rlo R (((clsA R c).getD k (0, (0, 0))).1))) rfl (by omega) ?_
        refine E_add (v := ((v + (((clsA R c).getD k (0, (0, 0))).2.2) * (Rct R (Rlo R (((clsA R c).getD k (0, (0, 0))).1))) : Nat) : Int)) rfl (by omega) (by omega) ?_
        refine E_pI rfl rfl rfl rfl (Or.inl rfl) ?_
        refine E_inc (x := ((k : Nat) : Int)) (w := ((k + 1 : Nat) : Int)) (L' := [some (aA 124), some (aI ((60 * i + c : Nat) : Int)), some (aI ((k + 1 : Nat) : Int)), x3]) rfl rfl rfl (by omega) (by omega) rfl ?_
        refine E_s (p' := 226) rfl rfl ?_
        refine ih (k + 1) _ _ _ (by omega) (by omega) ?_ hI.s28
        rw [take_g (by omega), rSum_app, ← hv, show lst R c (Rlo R ((clsA R c).getD k (0, (0, 0))).1) = false by assumption]
        rfl
theorem yl_r5 (hi : i < 4) (hM : MR R i m0) (hV : VR R) (hc : c < Cn R) (h1 : 1 ≤ RL R) {v : Int} (hk : ∀ (x3 : Option AV) (m1 : Mm), RC0 R c m0 m1 0 v (sumN (fun l => bif lst R c l then 9 * Rct R l else 0) (RL R) : Int) → E 148 330 [some (aA 124), some (aI ((60 * i + c : Nat) : Int)), some (aI (RL R : Int)), x3] [] (m1, tl len) Q) : ∀ (d : Nat) (l w : Nat) (m : Mm) (x3 : Option AV), (RL R < l + d) → (l ≤ RL R) → (w = sumN (fun l => bif lst R c l then 9 * Rct R l else 0) l) → (RC0 R c m0 m 0 v (w : Int)) → E 148 290 [some (aA 124), some (aI ((60 * i + c : Nat) : Int)), some (aI ((l : Nat) : Int)), x3] [] (m, tl len) Q := by
  intro d
  induction d with
  | zero => intro l w m x3 hd hll hw hI; omega
  | succ d ih =>
    intro l w m x3 hd hll hw hI
    have hn60 := hV.1
    have hl1 : (clsA R c).length ≤ 30 := Nat.le_trans (cls_len R c (Ck R c)) (hV.2.2.1 c hc).2.2.2.2.2
    have hmx := RL_mx R
    have hm6 : mxv (Run R) ≤ 6 := by cases Run R <;> decide
    have hMm : MR R i m := hI.1.MR hM
    have hcp : ∀ q ∈ clsA R c, 1 ≤ q.1 ∧ q.1 ≤ 600 := cls_pl hV hc _ (Nat.le_refl _)
    have occ : ∀ k, k < (clsA R c).length → ((clsA R c).getD k (0, (0, 0))).1 < 601 ∧ atp (RA R) ((clsA R c).getD k (0, (0, 0))).1 ≠ 0 := fun k hk => ⟨by have := hcp _ (get_mem hk); omega, atp_mem (acl_mem hc (get_mem hk))⟩
    have hwb : w ≤ 9000000 * l := by rw [hw]; exact SL_b h1 l
    refine E_s (p' := 291) (st' := aI ((l : Nat) : Int) :: _) rfl rfl ?_
    refine E_s (p' := 292) (st' := aA 124 :: _) rfl rfl ?_
    refine E_gI (v := ((RL R : Nat) : Int)) rfl rfl rfl rfl hI.2.1.1 ?_
    refine E_icmp_ge (x := ((l : Nat) : Int)) (y := ((RL R : Nat) : Int)) rfl (by decide) (fun h_1 => ?_) (fun h_1 => ?_)
    · refine E_go (p' := 330) (L' := [some (aA 124), some (aI ((60 * i + c : Nat) : Int)), some (aI ((l : Nat) : Int)), x3]) (st' := []) rfl rfl rfl ?_
      have el : l = RL R := by omega
      subst el
      rw [hw] at hI
      exact hk x3 m hI
    · refine E_go (p' := 298) (L' := [some (aA 124), some (aI ((60 * i + c : Nat) : Int)), some (aI ((l : Nat) : Int)), x3]) (st' := []) rfl rfl rfl ?_
      have hrb := Rct_le h1 l
      refine E_s (p' := 299) (st' := aA 124 :: _) rfl rfl ?_
      refine E_s (p' := 300) (st' := aI ((60 * i + c : Nat) : Int) :: _) rfl rfl ?_
      refine E_s (p' := 301) (st' := aI ((l : Nat) : Int) :: _) rfl rfl ?_
      refine E_callV (k' := 150) (a := 124) (r := []) (L0 := [some (aA 124), some (aI ((60 * i + c : Nat) : Int)), some (aI ((l : Nat) : Int))]) rfl rfl rfl rfl rfl rfl rfl rfl rfl rfl ?_
      refine m_isLost hi hMm hV hc hI.2.1 (l := l) (by omega) ?_
      refine E_go (p' := 304) (L' := [some (aA 124), some (aI ((60 * i + c : Nat) : Int)), some (aI ((l : Nat) : Int)), x3]) (st' := [aI (bi (lst R c l))]) rfl rfl rfl ?_
      refine E_b_eq0 (b := (lst R c l)) rfl (by decide) (fun h_2 => ?_) (fun h_2 => ?_)
      · refine E_go (p' := 324) (L' := [some (aA 124), some (aI ((60 * i + c : Nat) : Int)), some (aI ((l : Nat) : Int)), x3]) (st' := []) rfl rfl rfl ?_
        refine E_inc (x := ((l : Nat) : Int)) (w := ((l + 1 : Nat) : Int)) (L' := [some (aA 124), some (aI ((60 * i + c : Nat) : Int)), some (aI ((l + 1 : Nat) : Int)), x3]) rfl rfl rfl (by omega) (by omega) rfl ?_
        refine E_s (p' := 290) rfl rfl ?_
        refine ih (l + 1) _ _ _ (by omega) (by omega) ?_ hI
        show _ = sumN _ l + (bif lst R c l then 9 * Rct R l else 0)
        rw [← hw, show lst R c l = false by assumption]
        rfl
      · refine E_go (p' := 307) (L' := [some (aA 124), some (aI ((60 * i + c : Nat) : Int)), some (aI ((l : Nat) : Int)), x3]) (st' := []) rfl rfl rfl ?_
        refine E_s (p' := 308) (st' := aA 124 :: _) rfl rfl ?_
        refine E_s (p' := 309) (st' := aA 124 :: _) rfl rfl ?_
        refine E_gI (v := ((w : Nat) : Int)) rfl rfl rfl rfl hI.2.2.2.2.2 ?_
        refine E_s (p' := 314) (st' := aI 9 :: _) rfl rfl ?_
        refine E_s (p' := 315) (st' := aA 124 :: _) rfl rfl ?_
        refine E_s (p' := 316) (st' := aI ((l : Nat) : Int) :: _) rfl rfl ?_
        refine E_callV (k' := 151) (a := 124) (r := [aI 9, aI ((w : Nat) : Int), aA 124]) (L0 := [some (aA 124), some (aI ((l : Nat) : Int)), none, none]) rfl rfl rfl rfl rfl rfl rfl rfl rfl rfl ?_
        refine m_counts hI.2.1 (l := l) (by omega) ?_
        refine E_go (p' := 319) (L' := [some (aA 124), some (aI ((60 * i + c : Nat) : Int)), some (aI ((l : Nat) : Int)), x3]) (st' := [aI ((Rct R l : Nat) : Int), aI 9, aI ((w : Nat) : Int), aA 124]) rfl rfl rfl ?_
        refine E_mul (v := ((9 * (Rct R l) : Nat) : Int)) rfl (by omega) (by omega) ?_
        refine E_add (v := ((w + 9 * (Rct R l) : Nat) : Int)) rfl (by omega) (by omega) ?_
        refine E_pI rfl rfl rfl rfl (Or.inl rfl) ?_
        refine E_inc (x := ((l : Nat) : Int)) (w := ((l + 1 : Nat) : Int)) (L' := [some (aA 124), some (aI ((60 * i + c : Nat) : Int)), some (aI ((l + 1 : Nat) : Int)), x3]) rfl rfl rfl (by omega) (by omega) rfl ?_
        refine E_s (p' := 290) rfl rfl ?_
        refine ih (l + 1) _ _ _ (by omega) (by omega) ?_ hI.s29
        show _ = sumN _ l + (bif lst R c l then 9 * Rct R l else 0)
        rw [← hw, show lst R c l = true by assumption]
        rfl
theorem m_readCord (hi : i < 4) (hM : MR R i m0) (hV : VR R) (hc : c < Cn R) (hd9 : RdM R m0) (q : ∀ m1 : Mm, FrM m0 m1 → RdM R m1 → m1 124 27 = (Rft R c : Int) → m1 124 28 = (Rvl R c : Int) → m1 124 29 = (Rls R c : Int) → Q none (m1, tl len)) : E 148 0 [some (aA 124), some (aI ((60 * i + c : Nat) : Int)), none, none] [] (m0, tl len) Q := by
  refine E_s (p' := 1) (st' := aA 124 :: _) rfl rfl ?_
  refine E_s (p' := 2) (st' := aI ((60 * i + c : Nat) : Int) :: _) rfl rfl ?_
  refine E_callV (k' := 146) (a := 124) (r := []) (L0 := [some (aA 124), some (aI ((60 * i + c : Nat) : Int)), none, none, none]) rfl rfl rfl rfl rfl rfl rfl rfl rfl rfl ?_
  refine m_cluster hi hM hV (c := c) hc (fun m1 J1 J2 => ?_)
  refine E_go (p' := 5) (L' := [some (aA 124), some (aI ((60 * i + c : Nat) : Int)), none, none]) (st' := []) rfl rfl rfl ?_
  refine E_s (p' := 6) (st' := aA 124 :: _) rfl rfl ?_
  refine E_s (p' := 7) (st' := aI 0 :: _) rfl rfl ?_
  refine E_pI rfl rfl rfl rfl (Or.inl rfl) ?_
  refine E_s (p' := 11) (st' := aA 124 :: _) rfl rfl ?_
  refine E_s (p' := 12) (st' := aI 0 :: _) rfl rfl ?_
  refine E_pI rfl rfl rfl rfl (Or.inl rfl) ?_
  refine E_s (p' := 16) (st' := aA 124 :: _) rfl rfl ?_
  refine E_s (p' := 17) (st' := aI 0 :: _) rfl rfl ?_
  refine E_pI rfl rfl rfl rfl (Or.inl rfl) ?_
  refine E_s (p' := 21) (st' := aA 124 :: _) rfl rfl ?_
  refine E_gI (v := ((RL R : Nat) : Int)) rfl rfl rfl rfl ((up2_sl (by omega)).trans ((up2_sl (by omega)).trans ((up2_sl (by omega)).trans (((J2 _ _ (by omega) (by omega)).trans hd9.1))))) ?_
  refine E_if_ne (x := ((RL R : Nat) : Int)) rfl (by decide) (fun h_1 => ?_) (fun h_1 => ?_)
  · refine E_go (p' := 44) (L' := [some (aA 124), some (aI ((60 * i + c : Nat) : Int)), none, none]) (st' := []) rfl rfl rfl ?_
    refine E_s (p' := 45) (st' := aI 0 :: _) rfl rfl ?_
    refine E_s (p' := 46) (L' := [some (aA 124), some (aI ((60 * i + c : Nat) : Int)), some (aI 0), none]) rfl rfl ?_
    have h1 : 1 ≤ RL R := by omega
    refine yl_r1 hi hM hV hc h1 (fun m5 hI => ?_) ((clsA R c).length + 1) 0 _ (by omega) (by omega) ⟨((FrM.rf.tr (fun b z g1 g2 => J2 b z (by omega) (by omega))).up (by omega)).up (by omega) |>.up (by omega), hd9.of (fun b j hb => (up2_o (by omega)).trans ((up2_o (by omega)).trans ((up2_o (by omega)).trans (J2 b j (by omega) (by omega))))), J1.of (fun b j hb => (up2_o (by omega)).trans ((up2_o (by omega)).trans (up2_o (by omega)))), (up2_sl (by decide)).trans ((up2_sl (by decide)).trans up2_eq), (up2_sl (by decide)).trans up2_eq, up2_eq⟩
    refine E_s (p' := 86) (st' := aI 1 :: _) rfl rfl ?_
    refine E_s (p' := 87) (L' := [some (aA 124), some (aI ((60 * i + c : Nat) : Int)), some (aI 1), none]) rfl rfl ?_
    refine yl_r2 hi hM hV hc h1 (fun k6 m6 hI => ?_) ((clsA R c).length + 2) 1 _ (by omega) (by omega) (by unfold ft2; show RC0 R c m0 _ ((bif rMany R (clsA R c) then 2 else bif adN R (clsA R c) 1 then 3 else 0 : Nat) : Int) 0 0; rw [show adN R (clsA R c) 1 = false from rfl]; exact hI)
    refine E_s (p' := 139) (st' := aI 0 :: _) rfl rfl ?_
    refine E_s (p' := 140) (L' := [some (aA 124), some (aI ((60 * i + c : Nat) : Int)), some (aI 0), none]) rfl rfl ?_
    refine yl_r3 hi hM hV hc h1 (fun k7 y3 m7 hI => ?_) ((clsA R c).length + 1) 0 _ none (by omega) (by omega) (by rw [ft3_0]; exact hI)
    have hf4 := ft3_b R (clsA R c) (clsA R c).length
    refine E_s (p' := 217) (st' := aA 124 :: _) rfl rfl ?_
    refine E_gI (v := ((ft3 R (clsA R c) (clsA R c).length : Nat) : Int)) rfl rfl rfl rfl hI.2.2.2.1 ?_
    refine E_if_le (x := ((ft3 R (clsA R c) (clsA R c).length : Nat) : Int)) rfl (by decide) (fun h_2 => ?_) (fun h_2 => ?_)
    · refine E_go (p' := 224) (L' := [some (aA 124), some (aI ((60 * i + c : Nat) : Int)), some (aI ((k7 : Nat) : Int)), y3]) (st' := []) rfl rfl rfl ?_
      refine E_s (p' := 225) (st' := aI 0 :: _) rfl rfl ?_
      refine E_s (p' := 226) (L' := [some (aA 124), some (aI ((60 * i + c : Nat) : Int)), some (aI 0), y3]) rfl rfl ?_
      have hz0 : ft3 R (clsA R c) (clsA R c).length = 0 := by omega
      rw [hz0] at hI
      refine yl_r4 hi hM hV hc h1 (fun y4 m8 hI => ?_) ((clsA R c).length + 1) 0 0 _ _ (by omega) (by omega) (by rw [List.take_zero]; rfl) hI
      refine E_s (p' := 289) (st' := aI 0 :: _) rfl rfl ?_
      refine E_s (p' := 290) (L' := [some (aA 124), some (aI ((60 * i + c : Nat) : Int)), some (aI 0), y4]) rfl rfl ?_
      refine yl_r5 hi hM hV hc h1 (fun y5 m9 hI => ?_) (RL R + 1) 0 0 _ _ (by omega) (by omega) rfl hI
      have hwb := SL_b (c := c) h1 (RL R)
      have hmx := RL_mx R
      have hm6 : mxv (Run R) ≤ 6 := by cases Run R <;> decide
      have hMm : MR R i m9 := hI.1.MR hM
      refine E_s (p' := 331) (st' := aA 124 :: _) rfl rfl ?_
      refine E_gI (v := (bi (Run R))) rfl rfl rfl rfl hI.2.1.2.1 ?_
      refine E_b_ne0 (b := (Run R)) rfl (by decide) (fun h_3 => ?_) (fun h_3 => ?_)
      · refine E_go (p' := 362) (L' := [some (aA 124), some (aI ((60 * i + c : Nat) : Int)), some (aI ((RL R : Nat) : Int)), y5]) (st' := []) rfl rfl rfl ?_
        refine E_ret rfl rfl ?_
        have hf0 : Rft R c = 0 := by rw [Rft_3 hV hc h1]; omega
        have hb9 : (bif !Run R && lst R c (RL R - 1) then 9 else 0) = 0 := by simp [*]
        have hls : Rls R c = sumN (fun l => bif lst R c l then 9 * Rct R l else 0) (RL R) + 0 := by unfold Rls rLost; rw [if_neg (by omega), if_pos hf0, hb9]
        have hJ := hI
        exact q _ hJ.1 hJ.2.1 (by rw [hf0]; exact hJ.2.2.2.1) (hJ.2.2.2.2.1.trans (by unfold Rvl; rw [if_neg (by omega), if_pos hf0])) (hJ.2.2.2.2.2.trans (by rw [hls]; rfl))
      · refine E_go (p' := 337) (L' := [some (aA 124), some (aI ((60 * i + c : Nat) : Int)), some (aI ((RL R : Nat) : Int)), y5]) (st' := []) rfl rfl rfl ?_
        refine E_s (p' := 338) (st' := aA 124 :: _) rfl rfl ?_
        refine E_s (p' := 339) (st' := aI ((60 * i + c : Nat) : Int) :: _) rfl rfl ?_
        refine E_s (p' := 340) (st' := aA 124 :: _) rfl rfl ?_
        refine E_gI (v := ((RL R : Nat) : Int)) rfl rfl rfl rfl hI.2.1.1 ?_
        refine E_s (p' := 344) (st' := aI 1 :: _) rfl rfl ?_
        refine E_sub (v := ((RL R : Int) - 1)) rfl (by omega) (by omega) ?_
        refine E_valv (show ((RL R : Int) - 1) = (((RL R - 1) : Nat) : Int) by omega) ?_
        refine E_callV (k' := 150) (a := 124) (r := []) (L0 := [some (aA 124), some (aI ((60 * i + c : Nat) : Int)), some (aI (((RL R - 1) : Nat) : Int))]) rfl rfl rfl rfl rfl rfl rfl rfl rfl rfl ?_
        refine m_isLost hi hMm hV hc hI.2.1 (l := (RL R - 1)) (by omega) ?_
        refine E_go (p' := 348) (L' := [some (aA 124), some (aI ((60 * i + c : Nat) : Int)), some (aI ((RL R : Nat) : Int)), y5]) (st' := [aI (bi (lst R c (RL R - 1)))]) rfl rfl rfl ?_
        refine E_b_eq0 (b := (lst R c (RL R - 1))) rfl (by decide) (fun h_4 => ?_) (fun h_4 => ?_)
        · refine E_go (p' := 362) (L' := [some (aA 124), some (aI ((60 * i + c : Nat) : Int)), some (aI ((RL R : Nat) : Int)), y5]) (st' := []) rfl rfl rfl ?_
          refine E_ret rfl rfl ?_
          have hf0 : Rft R c = 0 := by rw [Rft_3 hV hc h1]; omega
          have hb9 : (bif !Run R && lst R c (RL R - 1) then 9 else 0) = 0 := by simp [*]
          have hls : Rls R c = sumN (fun l => bif lst R c l then 9 * Rct R l else 0) (RL R) + 0 := by unfold Rls rLost; rw [if_neg (by omega), if_pos hf0, hb9]
          have hJ := hI
          exact q _ hJ.1 hJ.2.1 (by rw [hf0]; exact hJ.2.2.2.1) (hJ.2.2.2.2.1.trans (by unfold Rvl; rw [if_neg (by omega), if_pos hf0])) (hJ.2.2.2.2.2.trans (by rw [hls]; rfl))
        · refine E_go (p' := 351) (L' := [some (aA 124), some (aI ((60 * i + c : Nat) : Int)), some (aI ((RL R : Nat) : Int)), y5]) (st' := []) rfl rfl rfl ?_
          refine E_s (p' := 352) (st' := aA 124 :: _) rfl rfl ?_
          refine E_s (p' := 353) (st' := aA 124 :: _) rfl rfl ?_
          refine E_gI (v := ((sumN (fun l => bif lst R c l then 9 * Rct R l else 0) (RL R) : Nat) : Int)) rfl rfl rfl rfl hI.2.2.2.2.2 ?_
          refine E_s (p' := 358) (st' := aI 9 :: _) rfl rfl ?_
          refine E_add (v := ((sumN (fun l => bif lst R c l then 9 * Rct R l else 0) (RL R) + 9 : Nat) : Int)) rfl (by omega) (by omega) ?_
          refine E_pI rfl rfl rfl rfl (Or.inl rfl) ?_
          refine E_ret rfl rfl ?_
          have hf0 : Rft R c = 0 := by rw [Rft_3 hV hc h1]; omega
          have hb9 : (bif !Run R && lst R c (RL R - 1) then 9 else 0) = 9 := by simp [*]
          have hls : Rls R c = sumN (fun l => bif lst R c l then 9 * Rct R l else 0) (RL R) + 9 := by unfold Rls rLost; rw [if_neg (by omega), if_pos hf0, hb9]
          have hJ := (hI.s29 (x := ((sumN (fun l => bif lst R c l then 9 * Rct R l else 0) (RL R) + 9 : Nat) : Int)))
          exact q _ hJ.1 hJ.2.1 (by rw [hf0]; exact hJ.2.2.2.1) (hJ.2.2.2.2.1.trans (by unfold Rvl; rw [if_neg (by omega), if_pos hf0])) (hJ.2.2.2.2.2.trans (by rw [hls]))
    · refine E_go (p' := 223) (L' := [some (aA 124), some (aI ((60 * i + c : Nat) : Int)), some (aI ((k7 : Nat) : Int)), y3]) (st' := []) rfl rfl rfl ?_
      refine E_ret rfl rfl ?_
      have hf0 := Rft_3 hV hc h1
      exact q _ hI.1 hI.2.1 (by rw [hf0]; exact hI.2.2.2.1) (hI.2.2.2.2.1.trans (by unfold Rvl; rw [if_neg (by omega), if_neg (by omega)]; rfl)) (hI.2.2.2.2.2.trans (by unfold Rls; rw [if_neg (by omega), if_neg (by omega)]; rfl))
  · refine E_go (p' := 27) (L' := [some (aA 124), some (aI ((60 * i + c : Nat) : Int)), none, none]) (st' := []) rfl rfl rfl ?_
    refine E_s (p' := 28) (st' := aA 124 :: _) rfl rfl ?_
    refine E_s (p' := 29) (st' := aA 124 :: _) rfl rfl ?_
    refine E_gI (v := (bi (Rkt R))) rfl rfl rfl rfl ((up2_sl (by omega)).trans ((up2_sl (by omega)).trans ((up2_sl (by omega)).trans (((J2 _ _ (by omega) (by omega)).trans hd9.2.2.1))))) ?_
    refine E_b_eq0 (b := (Rkt R)) rfl (by decide) (fun h_2 => ?_) (fun h_2 => ?_)
    · refine E_go (p' := 39) (L' := [some (aA 124), some (aI ((60 * i + c : Nat) : Int)), none, none]) (st' := [aA 124]) rfl rfl rfl ?_
      refine E_s (p' := 40) (st' := aI 0 :: _) rfl rfl ?_
      refine E_pI rfl rfl rfl rfl (Or.inl rfl) ?_
      refine E_ret rfl rfl ?_
      have h0 : RL R = 0 := by omega
      have hft : Rft R c = 0 := by unfold Rft; rw [if_pos h0, h_2]; rfl
      exact q _ (((((FrM.rf.tr (fun b z g1 g2 => J2 b z (by omega) (by omega))).up (by omega)).up (by omega)).up (by omega)).up (by omega)) (hd9.of (fun b j hb => ((up2_o (by omega)).trans ((up2_o (by omega)).trans ((up2_o (by omega)).trans (up2_o (by omega))))).trans (J2 b j (by omega) (by omega)))) ((up2_eq).trans (by rw [hft]; rfl)) (((up2_sl (by omega)).trans ((up2_sl (by omega)).trans (up2_eq))).trans (by unfold Rvl; rw [if_pos h0]; rfl)) (((up2_sl (by omega)).trans (up2_eq)).trans (by unfold Rls; rw [if_pos h0]; rfl))
    · refine E_go (p' := 35) (L' := [some (aA 124), some (aI ((60 * i + c : Nat) : Int)), none, none]) (st' := [aA 124]) rfl rfl rfl ?_
      refine E_s (p' := 36) (st' := aI 1 :: _) rfl rfl ?_
      refine E_s (p' := 40) rfl rfl ?_
      refine E_pI rfl rfl rfl rfl (Or.inl rfl) ?_
      refine E_ret rfl rfl ?_
      have h0 : RL R = 0 := by omega
      have hft : Rft R c = 1 := by unfold Rft; rw [if_pos h0, h_2]; rfl
      exact q _ (((((FrM.rf.tr (fun b z g1 g2 => J2 b z (by omega) (by omega))).up (by omega)).up (by omega)).up (by omega)).up (by omega)) (hd9.of (fun b j hb => ((up2_o (by omega)).trans ((up2_o (by omega)).trans ((up2_o (by omega)).trans (up2_o (by omega))))).trans (J2 b j (by omega) (by omega)))) ((up2_eq).trans (by rw [hft]; rfl)) (((up2_sl (by omega)).trans ((up2_sl (by omega)).trans (up2_eq))).trans (by unfold Rvl; rw [if_pos h0]; rfl)) (((up2_sl (by omega)).trans (up2_eq)).trans (by unfold Rls; rw [if_pos h0]; rfl))
end

/-- nothing but the model's reading and the row t has changed -/
def FrT (t : Nat) (m m' : Mm) : Prop := ∀ b z, ¬ (b = 124 ∧ 19 ≤ z ∧ z ≤ 29) → ¬ (141 ≤ b ∧ b ≤ 147) → b ≠ t → m' b z = m b z
theorem FrT.MS {t : Nat} {S : Nat → RD} {m m' : Mm} (h : FrT t m m') (ht9 : 139 < t) (hS : MS S m) : MS S m' := hS.of (fun b j g1 g2 => h b j (by omega) (by omega) (by omega))
theorem FrT.Co1 {t : Nat} {m m' : Mm} (h : FrT t m m') (ht9 : t = 148 ∨ t = 149) : Co1 m m' := fun b j hb => h b j (by omega) (by omega) (by omega)
theorem Rtd_n {R : RD} {c : Nat} : (Rft R c = 0 ∧ Rtd R c = (Rvl R c : Int)) ∨ (0 < Rft R c ∧ Rtd R c = -10 - (Rft R c : Int)) := by
  unfold Rtd
  by_cases h : Rft R c = 0
  · exact Or.inl ⟨h, if_pos h⟩
  · exact Or.inr ⟨by omega, if_neg h⟩
section
variable {len : Nat} {m0 : Mm} {Q : Option AV → Sx → Prop} {R : RD} {i t : Nat}
theorem yl_ra (hi : i < 4) (ht9 : t = 148 ∨ t = 149) (hM : MR R i m0) (hV : VR R) (q : ∀ m1 : Mm, FrT t m0 m1 → RdM R m1 → (∀ d, d < Cn R → m1 t d = Rtd R d) → Q none (m1, tl len)) : ∀ (d : Nat) (c : Nat) (m : Mm), (Cn R < c + d) → (c ≤ Cn R) → (FrT t m0 m) → (RdM R m) → (∀ d, d < c → m t d = Rtd R d) → E 157 8 [some (aA 124), some (aI ((i : Nat) : Int)), some (aA t), some (aI ((c : Nat) : Int))] [] (m, tl len) Q := by
  intro d
  induction d with
  | zero => intro c m hd hcn I1 I2 I3; omega
  | succ d ih =>
    intro c m hd hcn I1 I2 I3
    have hn60 := hV.1
    have hkt : kd t = (1, 60) := by rcases ht9 with g9 | g9 <;> (rw [g9]; rfl)
    have hMm : MR R i m := hM.of (fun b j g1 g2 => I1 b j (by omega) (by omega) (by omega))
    refine E_s (p' := 9) (st' := aI ((c : Nat) : Int) :: _) rfl rfl ?_
    refine E_s (p' := 10) (st' := aA 124 :: _) rfl rfl ?_
    refine E_gA (b := 125) rfl rfl rfl rfl rfl rfl ?_
    refine E_s (p' := 14) (st' := aI ((i : Nat) : Int) :: _) rfl rfl ?_
    refine E_ald (e := i) (N := 4) (v := ((Cn R : Nat) : Int)) rfl rfl (rfl) (by omega) (MR_125 hMm) ?_
    refine E_icmp_ge (x := ((c : Nat) : Int)) (y := ((Cn R : Nat) : Int)) rfl (by decide) (fun h_1 => ?_) (fun h_1 => ?_)
    · refine E_go (p' := 58) (L' := [some (aA 124), some (aI ((i : Nat) : Int)), some (aA t), some (aI ((c : Nat) : Int))]) (st' := []) rfl rfl rfl ?_
      refine E_ret rfl rfl ?_
      have ec : c = Cn R := by omega
      subst ec
      exact q m I1 I2 I3
    · refine E_go (p' := 18) (L' := [some (aA 124), some (aI ((i : Nat) : Int)), some (aA t), some (aI ((c : Nat) : Int))]) (st' := []) rfl rfl rfl ?_
      refine E_s (p' := 19) (st' := aA 124 :: _) rfl rfl ?_
      refine E_s (p' := 21) (st' := aI 60 :: _) rfl rfl ?_
      refine E_s (p' := 22) (st' := aI ((i : Nat) : Int) :: _) rfl rfl ?_
      refine E_mul (v := ((60 * i : Nat) : Int)) rfl (by omega) (by omega) ?_
      refine E_s (p' := 24) (st' := aI ((c : Nat) : Int) :: _) rfl rfl ?_
      refine E_add (v := ((60 * i + c : Nat) : Int)) rfl (by omega) (by omega) ?_
      refine E_callV (k' := 148) (a := 124) (r := []) (L0 := [some (aA 124), some (aI ((60 * i + c : Nat) : Int)), none, none]) rfl rfl rfl rfl rfl rfl rfl rfl rfl rfl ?_
      refine m_readCord hi hMm hV (c := c) (by omega) I2 (fun m1 K1 K2 K3 K4 K5 => ?_)
      refine E_go (p' := 28) (L' := [some (aA 124), some (aI ((i : Nat) : Int)), some (aA t), some (aI ((c : Nat) : Int))]) (st' := []) rfl rfl rfl ?_
      have hfb := Rft_b R c
      have hvb := Rvl_c hV (show c < Cn R by omega)
      have htd := Rtd_n (R := R) (c := c)
      refine E_s (p' := 29) (st' := aA t :: _) rfl rfl ?_
      refine E_s (p' := 30) (st' := aI ((c : Nat) : Int) :: _) rfl rfl ?_
      refine E_s (p' := 31) (st' := aA 124 :: _) rfl rfl ?_
      refine E_gI (v := ((Rft R c : Nat) : Int)) rfl rfl rfl rfl K3 ?_
      refine E_if_le (x := ((Rft R c : Nat) : Int)) rfl (by decide) (fun h_2 => ?_) (fun h_2 => ?_)
      · refine E_go (p' := 47) (L' := [some (aA 124), some (aI ((i : Nat) : Int)), some (aA t), some (aI ((c : Nat) : Int))]) (st' := [aI ((c : Nat) : Int), aA t]) rfl rfl rfl ?_
        refine E_s (p' := 48) (st' := aA 124 :: _) rfl rfl ?_
        refine E_gI (v := ((Rvl R c : Nat) : Int)) rfl rfl rfl rfl K4 ?_
        refine E_ast (e := c) (N := 60) rfl hkt (rfl) (by omega) ?_
        refine E_inc (x := ((c : Nat) : Int)) (w := ((c + 1 : Nat) : Int)) (L' := [some (aA 124), some (aI ((i : Nat) : Int)), some (aA t), some (aI ((c + 1 : Nat) : Int))]) rfl rfl rfl (by omega) (by omega) rfl ?_
        refine E_s (p' := 8) rfl rfl ?_
        refine ih (c + 1) _ (by omega) (by omega) (fun b z g1 g2 g3 => (up2_ne g3).trans ((K1 b z g1 g2).trans (I1 b z g1 g2 g3))) (K2.of (fun b j hb => up2_ne (by omega))) (fun d hd9 => ?_)
        by_cases g9 : d = c
        · rw [g9]; exact up2_eq.trans (by omega)
        · exact (up2_sl g9).trans ((K1 _ _ (by omega) (by omega)).trans (I3 d (by omega)))
      · refine E_go (p' := 37) (L' := [some (aA 124), some (aI ((i : Nat) : Int)), some (aA t), some (aI ((c : Nat) : Int))]) (st' := [aI ((c : Nat) : Int), aA t]) rfl rfl rfl ?_
        refine E_s (p' := 39) (st' := aI (-10) :: _) rfl rfl ?_
        refine E_s (p' := 40) (st' := aA 124 :: _) rfl rfl ?_
        refine E_gI (v := ((Rft R c : Nat) : Int)) rfl rfl rfl rfl K3 ?_
        refine E_sub (v := (-(Rft R c : Int) - 10)) rfl (by omega) (by omega) ?_
        refine E_s (p' := 51) rfl rfl ?_
        refine E_ast (e := c) (N := 60) rfl hkt (rfl) (by omega) ?_
        refine E_inc (x := ((c : Nat) : Int)) (w := ((c + 1 : Nat) : Int)) (L' := [some (aA 124), some (aI ((i : Nat) : Int)), some (aA t), some (aI ((c + 1 : Nat) : Int))]) rfl rfl rfl (by omega) (by omega) rfl ?_
        refine E_s (p' := 8) rfl rfl ?_
        refine ih (c + 1) _ (by omega) (by omega) (fun b z g1 g2 g3 => (up2_ne g3).trans ((K1 b z g1 g2).trans (I1 b z g1 g2 g3))) (K2.of (fun b j hb => up2_ne (by omega))) (fun d hd9 => ?_)
        by_cases g9 : d = c
        · rw [g9]; exact up2_eq.trans (by omega)
        · exact (up2_sl g9).trans ((K1 _ _ (by omega) (by omega)).trans (I3 d (by omega)))
theorem m_readAll (hi : i < 4) (ht9 : t = 148 ∨ t = 149) (hM : MR R i m0) (hV : VR R) (q : ∀ m1 : Mm, FrT t m0 m1 → RdM R m1 → (∀ d, d < Cn R → m1 t d = Rtd R d) → Q none (m1, tl len)) : E 157 0 [some (aA 124), some (aI ((i : Nat) : Int)), some (aA t), none] [] (m0, tl len) Q := by
  refine E_s (p' := 1) (st' := aA 124 :: _) rfl rfl ?_
  refine E_s (p' := 2) (st' := aI ((i : Nat) : Int) :: _) rfl rfl ?_
  refine E_callV (k' := 147) (a := 124) (r := []) (L0 := [some (aA 124), some (aI ((i : Nat) : Int)), none, none]) rfl rfl rfl rfl rfl rfl rfl rfl rfl rfl ?_
  refine m_read hi hM hV (fun m1 K1 K2 => ?_)
  refine E_go (p' := 5) (L' := [some (aA 124), some (aI ((i : Nat) : Int)), some (aA t), none]) (st' := [aI (bi (decide (0 < RL R)))]) rfl rfl rfl ?_
  refine E_s (p' := 6) rfl rfl ?_
  refine E_s (p' := 7) (st' := aI 0 :: _) rfl rfl ?_
  refine E_s (p' := 8) (L' := [some (aA 124), some (aI ((i : Nat) : Int)), some (aA t), some (aI 0)]) rfl rfl ?_
  exact yl_ra hi ht9 hM hV q (Cn R + 1) 0 m1 (by omega) (by omega) (fun b z g1 g2 _ => K1 b z g1 g2) K2 (fun d hd9 => absurd hd9 (by omega))
end
section
variable {len : Nat} {m : Mm} {Q : Option AV → Sx → Prop} {S : Nat → RD} {R : RD} {i c : Nat}
theorem m_isSure (hi : i < 4) (hM : MR R i m) (hV : VR R) (hc : c < Cn R) (hn : m 148 c = Rtd R c) (q1 : Ct R c = 0 → Rft R c = 0 → Q (some (aI 1)) (m, tl len)) (q0 : (Ct R c ≠ 0 ∨ Rft R c ≠ 0) → Q (some (aI 0)) (m, tl len)) : E 158 0 [some (aA 124), some (aI ((i : Nat) : Int)), some (aI ((c : Nat) : Int))] [] (m, tl len) Q := by
  have hn60 := hV.1
  have hctz := Ctz_c R c
  have htd := Rtd_n (R := R) (c := c)
  refine E_s (p' := 1) (st' := aA 124 :: _) rfl rfl ?_
  refine E_gA (b := 131) rfl rfl rfl rfl rfl rfl ?_
  refine E_s (p' := 6) (st' := aI 60 :: _) rfl rfl ?_
  refine E_s (p' := 7) (st' := aI ((i : Nat) : Int) :: _) rfl rfl ?_
  refine E_mul (v := ((60 * i : Nat) : Int)) rfl (by omega) (by omega) ?_
  refine E_s (p' := 9) (st' := aI ((c : Nat) : Int) :: _) rfl rfl ?_
  refine E_add (v := ((60 * i + c : Nat) : Int)) rfl (by omega) (by omega) ?_
  refine E_ald (e := 60 * i + c) (N := 240) (v := (((Ctz R c)))) rfl rfl (rfl) (by omega) (MR_131 hM (by omega) (by omega)) ?_
  refine E_s (p' := 12) (st' := aI (-1) :: _) rfl rfl ?_
  refine E_icmp_ne (x := (((Ctz R c)))) (y := (-1)) rfl (by decide) (fun h_1 => ?_) (fun h_1 => ?_)
  · refine E_go (p' := 28) (L' := [some (aA 124), some (aI ((i : Nat) : Int)), some (aI ((c : Nat) : Int))]) (st' := []) rfl rfl rfl ?_
    refine E_s (p' := 29) (st' := aI 0 :: _) rfl rfl ?_
    refine E_ret rfl rfl ?_
    exact q0 (by omega)
  · refine E_go (p' := 15) (L' := [some (aA 124), some (aI ((i : Nat) : Int)), some (aI ((c : Nat) : Int))]) (st' := []) rfl rfl rfl ?_
    refine E_s (p' := 16) (st' := aA 124 :: _) rfl rfl ?_
    refine E_gA (b := 148) rfl rfl rfl rfl rfl rfl ?_
    refine E_s (p' := 20) (st' := aI ((c : Nat) : Int) :: _) rfl rfl ?_
    refine E_ald (e := c) (N := 60) (v := (((Rtd R c)))) rfl rfl (rfl) (by omega) hn ?_
    refine E_if_lt (x := (((Rtd R c)))) rfl (by decide) (fun h_2 => ?_) (fun h_2 => ?_)
    · refine E_go (p' := 28) (L' := [some (aA 124), some (aI ((i : Nat) : Int)), some (aI ((c : Nat) : Int))]) (st' := []) rfl rfl rfl ?_
      refine E_s (p' := 29) (st' := aI 0 :: _) rfl rfl ?_
      refine E_ret rfl rfl ?_
      exact q0 (by omega)
    · refine E_go (p' := 24) (L' := [some (aA 124), some (aI ((i : Nat) : Int)), some (aI ((c : Nat) : Int))]) (st' := []) rfl rfl rfl ?_
      refine E_s (p' := 25) (st' := aI 1 :: _) rfl rfl ?_
      refine E_s (p' := 29) rfl rfl ?_
      refine E_ret rfl rfl ?_
      exact q1 (by omega) (by omega)
end
section
variable {len : Nat} {m : Mm} {Q : Option AV → Sx → Prop} {S : Nat → RD} {r c k l s w : Int}
theorem M_levels (hS : MS S m) (q : ∀ m1, MS S m1 → Co1 m m1 → Q (some (aI (qy S r (-2) (aLevels)))) (m1, tl len)) : E 153 0 [some (aA 124), some (aI (r))] [] (m, tl len) Q := by
  refine E_s (p' := 1) (st' := aI (r) :: _) rfl rfl ?_
  refine E_callL (p' := 4) (L0 := [some (aI (r))]) rfl rfl rfl ?_
  refine m_isRecord (fun i hi hr => ?_) (fun hr => ?_)
  · refine E_go (p' := 4) (L' := [some (aA 124), some (aI (r))]) (st' := [aI 1]) rfl rfl rfl ?_
    obtain ⟨hV, hM⟩ := hS i hi
    have hn60 := hV.1
    have hs40 := hV.2.2.2.2.1
    subst hr
    refine E_s (p' := 12) rfl rfl ?_
    refine E_s (p' := 13) (st' := aA 124 :: _) rfl rfl ?_
    refine E_s (p' := 14) (st' := aI ((i : Nat) : Int) :: _) rfl rfl ?_
    refine E_callV (k' := 147) (a := 124) (r := []) (L0 := [some (aA 124), some (aI ((i : Nat) : Int)), none, none]) rfl rfl rfl rfl rfl rfl rfl rfl rfl rfl ?_
    refine m_read hi hM hV (fun m1 K1 hd => ?_)
    refine E_go (p' := 17) (L' := [some (aA 124), some (aI ((i : Nat) : Int))]) (st' := [aI (bi (decide (0 < RL (S i))))]) rfl rfl rfl ?_
    have hS1 := K1.MS hS
    have hC1 := K1.Co1
    have hM1 := K1.MR hM
    refine E_b_eq0 (b := (decide (0 < RL (S i)))) rfl (by decide) (fun h_1 => ?_) (fun h_1 => ?_)
    · refine E_go (p' := 27) (L' := [some (aA 124), some (aI ((i : Nat) : Int))]) (st' := []) rfl rfl rfl ?_
      refine E_s (p' := 28) (st' := aI (-1) :: _) rfl rfl ?_
      refine E_ret rfl rfl ?_
      have hb9 := h_1
      simp only [decide_eq_true_eq, decide_eq_false_iff_not] at hb9
      exact mq_in hS1 hi rfl q (by unfold aLevels; rw [if_pos (by omega)]) hC1
    · refine E_go (p' := 20) (L' := [some (aA 124), some (aI ((i : Nat) : Int))]) (st' := []) rfl rfl rfl ?_
      refine E_s (p' := 21) (st' := aA 124 :: _) rfl rfl ?_
      refine E_gI (v := ((RL (S i) : Nat) : Int)) rfl rfl rfl rfl hd.1 ?_
      refine E_s (p' := 28) rfl rfl ?_
      refine E_ret rfl rfl ?_
      have hb9 := h_1
      simp only [decide_eq_true_eq, decide_eq_false_iff_not] at hb9
      exact mq_in hS1 hi rfl q (by unfold aLevels; rw [if_neg (by omega)]) hC1
  · refine E_go (p' := 4) (L' := [some (aA 124), some (aI (r))]) (st' := [aI 0]) rfl rfl rfl ?_
    refine E_s (p' := 7) rfl rfl ?_
    refine E_s (p' := 9) (st' := aI (-2) :: _) rfl rfl ?_
    refine E_s (p' := 28) rfl rfl ?_
    refine E_ret rfl rfl ?_
    exact mq_out hS q hr
theorem M_level (hS : MS S m) (q : ∀ m1, MS S m1 → Co1 m m1 → Q (some (aI (qy S r (-1) (aLevel l w)))) (m1, tl len)) : E 154 0 [some (aA 124), some (aI (r)), some (aI (l)), some (aI (w))] [] (m, tl len) Q := by
  refine E_s (p' := 1) (st' := aI (r) :: _) rfl rfl ?_
  refine E_callL (p' := 4) (L0 := [some (aI (r))]) rfl rfl rfl ?_
  refine m_isRecord (fun i hi hr => ?_) (fun hr => ?_)
  · refine E_go (p' := 4) (L' := [some (aA 124), some (aI (r)), some (aI (l)), some (aI (w))]) (st' := [aI 1]) rfl rfl rfl ?_
    obtain ⟨hV, hM⟩ := hS i hi
    have hn60 := hV.1
    have hs40 := hV.2.2.2.2.1
    subst hr
    refine E_s (p' := 7) rfl rfl ?_
    refine E_s (p' := 8) (st' := aA 124 :: _) rfl rfl ?_
    refine E_s (p' := 9) (st' := aI ((i : Nat) : Int) :: _) rfl rfl ?_
    refine E_callV (k' := 147) (a := 124) (r := []) (L0 := [some (aA 124), some (aI ((i : Nat) : Int)), none, none]) rfl rfl rfl rfl rfl rfl rfl rfl rfl rfl ?_
    refine m_read hi hM hV (fun m1 K1 hd => ?_)
    refine E_go (p' := 12) (L' := [some (aA 124), some (aI ((i : Nat) : Int)), some (aI (l)), some (aI (w))]) (st' := [aI (bi (decide (0 < RL (S i))))]) rfl rfl rfl ?_
    have hS1 := K1.MS hS
    have hC1 := K1.Co1
    have hM1 := K1.MR hM
    refine E_b_eq0 (b := (decide (0 < RL (S i)))) rfl (by decide) (fun h_1 => ?_) (fun h_1 => ?_)
    · refine E_go (p' := 29) (L' := [some (aA 124), some (aI ((i : Nat) : Int)), some (aI (l)), some (aI (w))]) (st' := []) rfl rfl rfl ?_
      refine E_s (p' := 30) (st' := aI (-1) :: _) rfl rfl ?_
      refine E_ret rfl rfl ?_
      exact mq_in hS1 hi rfl q (by
        unfold aLevel
        rw [cif_neg (by
          first
            | omega
            | (have hb9 := h_1
               simp only [decide_eq_false_iff_not] at hb9
               omega))]) hC1
    · refine E_go (p' := 15) (L' := [some (aA 124), some (aI ((i : Nat) : Int)), some (aI (l)), some (aI (w))]) (st' := []) rfl rfl rfl ?_
      have hrl9 : 0 < RL (S i) := by simpa using ‹decide (0 < RL (S i)) = true›
      have hmx9 := RL_mx (S i)
      have hm69 : mxv (Run (S i)) ≤ 6 := by cases Run (S i) <;> decide
      refine E_s (p' := 16) (st' := aI (l) :: _) rfl rfl ?_
      refine E_s (p' := 17) (st' := aI 0 :: _) rfl rfl ?_
      refine E_s (p' := 18) (st' := aA 124 :: _) rfl rfl ?_
      refine E_gI (v := ((RL (S i) : Nat) : Int)) rfl rfl rfl rfl hd.1 ?_
      refine E_s (p' := 22) (st' := aI 1 :: _) rfl rfl ?_
      refine E_sub (v := ((RL (S i) : Int) - 1)) rfl (by omega) (by omega) ?_
      refine E_callL (p' := 26) (L0 := [some (aI (l)), some (aI 0), some (aI ((RL (S i) : Int) - 1))]) rfl rfl rfl ?_
      refine m_in (fun h_2 h_3 => ?_) (fun h_4 => ?_)
      · refine E_go (p' := 26) (L' := [some (aA 124), some (aI ((i : Nat) : Int)), some (aI (l)), some (aI (w))]) (st' := [aI 1]) rfl rfl rfl ?_
        refine E_s (p' := 31) rfl rfl ?_
        obtain ⟨ln, el⟩ : ∃ x : Nat, l = (x : Int) := ⟨l.toNat, by omega⟩
        subst el
        have hmx := RL_mx (S i)
        have hm6 : mxv (Run (S i)) ≤ 6 := by cases Run (S i) <;> decide
        refine E_s (p' := 32) (st' := aI (w) :: _) rfl rfl ?_
        refine E_if_ne (x := (w)) rfl (by decide) (fun h_5 => ?_) (fun h_5 => ?_)
        · refine E_go (p' := 44) (L' := [some (aA 124), some (aI ((i : Nat) : Int)), some (aI ((ln : Nat) : Int)), some (aI (w))]) (st' := []) rfl rfl rfl ?_
          refine E_s (p' := 45) (st' := aI (w) :: _) rfl rfl ?_
          refine E_s (p' := 46) (st' := aI 1 :: _) rfl rfl ?_
          refine E_icmp_ne (x := (w)) (y := 1) rfl (by decide) (fun h_6 => ?_) (fun h_6 => ?_)
          · refine E_go (p' := 58) (L' := [some (aA 124), some (aI ((i : Nat) : Int)), some (aI ((ln : Nat) : Int)), some (aI (w))]) (st' := []) rfl rfl rfl ?_
            refine E_s (p' := 59) (st' := aI (w) :: _) rfl rfl ?_
            refine E_s (p' := 60) (st' := aI 2 :: _) rfl rfl ?_
            refine E_icmp_ne (x := (w)) (y := 2) rfl (by decide) (fun h_7 => ?_) (fun h_7 => ?_)
            · refine E_go (p' := 71) (L' := [some (aA 124), some (aI ((i : Nat) : Int)), some (aI ((ln : Nat) : Int)), some (aI (w))]) (st' := []) rfl rfl rfl ?_
              refine E_s (p' := 72) (st' := aI (w) :: _) rfl rfl ?_
              refine E_s (p' := 73) (st' := aI 3 :: _) rfl rfl ?_
              refine E_icmp_ne (x := (w)) (y := 3) rfl (by decide) (fun h_8 => ?_) (fun h_8 => ?_)
              · refine E_go (p' := 85) (L' := [some (aA 124), some (aI ((i : Nat) : Int)), some (aI ((ln : Nat) : Int)), some (aI (w))]) (st' := []) rfl rfl rfl ?_
                refine E_s (p' := 86) (st' := aI (-1) :: _) rfl rfl ?_
                refine E_ret rfl rfl ?_
                exact mq_in hS1 hi rfl q (by unfold aLevel; (try simp only [Int.toNat_natCast]); rw [cif_pos (by omega), if_neg (by omega), if_neg (by omega), if_neg (by omega), if_neg (by omega)]) hC1
              · refine E_go (p' := 76) (L' := [some (aA 124), some (aI ((i : Nat) : Int)), some (aI ((ln : Nat) : Int)), some (aI (w))]) (st' := []) rfl rfl rfl ?_
                refine E_s (p' := 77) (st' := aA 124 :: _) rfl rfl ?_
                refine E_gA (b := 147) rfl rfl rfl rfl rfl rfl ?_
                refine E_s (p' := 81) (st' := aI ((ln : Nat) : Int) :: _) rfl rfl ?_
                refine E_ald (e := ln) (N := 601) (v := ((Rme (S i) ln : Nat) : Int)) rfl rfl (rfl) (by omega) (hd.2.2.2 _ (by omega)).2.2 ?_
                refine E_s (p' := 86) rfl rfl ?_
                refine E_ret rfl rfl ?_
                exact mq_in hS1 hi rfl q (by unfold aLevel; (try simp only [Int.toNat_natCast]); rw [cif_pos (by omega), if_neg (by omega), if_neg (by omega), if_neg (by omega), if_pos (by omega)]) hC1
            · refine E_go (p' := 63) (L' := [some (aA 124), some (aI ((i : Nat) : Int)), some (aI ((ln : Nat) : Int)), some (aI (w))]) (st' := []) rfl rfl rfl ?_
              refine E_s (p' := 64) (st' := aA 124 :: _) rfl rfl ?_
              refine E_s (p' := 65) (st' := aI ((ln : Nat) : Int) :: _) rfl rfl ?_
              refine E_callV (k' := 151) (a := 124) (r := []) (L0 := [some (aA 124), some (aI ((ln : Nat) : Int)), none, none]) rfl rfl rfl rfl rfl rfl rfl rfl rfl rfl ?_
              refine m_counts hd (l := ln) (by omega) ?_
              refine E_go (p' := 68) (L' := [some (aA 124), some (aI ((i : Nat) : Int)), some (aI ((ln : Nat) : Int)), some (aI (w))]) (st' := [aI ((Rct (S i) ln : Nat) : Int)]) rfl rfl rfl ?_
              refine E_s (p' := 86) rfl rfl ?_
              refine E_ret rfl rfl ?_
              exact mq_in hS1 hi rfl q (by unfold aLevel; (try simp only [Int.toNat_natCast]); rw [cif_pos (by omega), if_neg (by omega), if_neg (by omega), if_pos (by omega)]) hC1
          · refine E_go (p' := 49) (L' := [some (aA 124), some (aI ((i : Nat) : Int)), some (aI ((ln : Nat) : Int)), some (aI (w))]) (st' := []) rfl rfl rfl ?_
            refine E_s (p' := 50) (st' := aA 124 :: _) rfl rfl ?_
            refine E_gA (b := 146) rfl rfl rfl rfl rfl rfl ?_
            refine E_s (p' := 54) (st' := aI ((ln : Nat) : Int) :: _) rfl rfl ?_
            refine E_ald (e := ln) (N := 601) (v := ((Rla (S i) ln : Nat) : Int)) rfl rfl (rfl) (by omega) (hd.2.2.2 _ (by omega)).2.1 ?_
            refine E_s (p' := 86) rfl rfl ?_
            refine E_ret rfl rfl ?_
            exact mq_in hS1 hi rfl q (by unfold aLevel; (try simp only [Int.toNat_natCast]); rw [cif_pos (by omega), if_neg (by omega), if_pos (by omega)]) hC1
        · refine E_go (p' := 35) (L' := [some (aA 124), some (aI ((i : Nat) : Int)), some (aI ((ln : Nat) : Int)), some (aI (w))]) (st' := []) rfl rfl rfl ?_
          refine E_s (p' := 36) (st' := aA 124 :: _) rfl rfl ?_
          refine E_gA (b := 145) rfl rfl rfl rfl rfl rfl ?_
          refine E_s (p' := 40) (st' := aI ((ln : Nat) : Int) :: _) rfl rfl ?_
          refine E_ald (e := ln) (N := 601) (v := ((RF (S i) ln : Nat) : Int)) rfl rfl (rfl) (by omega) (hd.2.2.2 _ (by omega)).1 ?_
          refine E_s (p' := 86) rfl rfl ?_
          refine E_ret rfl rfl ?_
          exact mq_in hS1 hi rfl q (by unfold aLevel; (try simp only [Int.toNat_natCast]); rw [cif_pos (by omega), if_pos (by omega)]) hC1
      · refine E_go (p' := 26) (L' := [some (aA 124), some (aI ((i : Nat) : Int)), some (aI (l)), some (aI (w))]) (st' := [aI 0]) rfl rfl rfl ?_
        refine E_s (p' := 29) rfl rfl ?_
        refine E_s (p' := 30) (st' := aI (-1) :: _) rfl rfl ?_
        refine E_ret rfl rfl ?_
        exact mq_in hS1 hi rfl q (by
          unfold aLevel
          rw [cif_neg (by
            first
              | omega
              | (have hb9 := h_8
                 simp only [decide_eq_false_iff_not] at hb9
                 omega))]) hC1
  · refine E_go (p' := 4) (L' := [some (aA 124), some (aI (r)), some (aI (l)), some (aI (w))]) (st' := [aI 0]) rfl rfl rfl ?_
    refine E_s (p' := 29) rfl rfl ?_
    refine E_s (p' := 30) (st' := aI (-1) :: _) rfl rfl ?_
    refine E_ret rfl rfl ?_
    exact mq_out hS q hr
theorem M_number (hS : MS S m) (q : ∀ m1, MS S m1 → Co1 m m1 → Q (some (aI (qy S r (-1) (aNumber c)))) (m1, tl len)) : E 155 0 [some (aA 124), some (aI (r)), some (aI (c))] [] (m, tl len) Q := by
  refine E_s (p' := 1) (st' := aA 124 :: _) rfl rfl ?_
  refine E_s (p' := 2) (st' := aI (r) :: _) rfl rfl ?_
  refine E_s (p' := 3) (st' := aI (c) :: _) rfl rfl ?_
  refine E_callV (k' := 135) (a := 124) (r := []) (L0 := [some (aA 124), some (aI (r)), some (aI (c))]) rfl rfl rfl rfl rfl rfl rfl rfl rfl rfl ?_
  refine m_isCord hS (fun i ci hi hr hc hcc => ?_) (fun hno => ?_)
  · refine E_go (p' := 6) (L' := [some (aA 124), some (aI (r)), some (aI (c))]) (st' := [aI 1]) rfl rfl rfl ?_
    obtain ⟨hV, hM⟩ := hS i hi
    have hn60 := hV.1
    have hs40 := hV.2.2.2.2.1
    subst hr hc
    refine E_s (p' := 11) rfl rfl ?_
    refine E_s (p' := 12) (st' := aA 124 :: _) rfl rfl ?_
    refine E_s (p' := 13) (st' := aI ((i : Nat) : Int) :: _) rfl rfl ?_
    refine E_callV (k' := 147) (a := 124) (r := []) (L0 := [some (aA 124), some (aI ((i : Nat) : Int)), none, none]) rfl rfl rfl rfl rfl rfl rfl rfl rfl rfl ?_
    refine m_read hi hM hV (fun m1 K1 hd => ?_)
    refine E_go (p' := 16) (L' := [some (aA 124), some (aI ((i : Nat) : Int)), some (aI ((ci : Nat) : Int))]) (st' := [aI (bi (decide (0 < RL (S i))))]) rfl rfl rfl ?_
    have hS1 := K1.MS hS
    have hC1 := K1.Co1
    have hM1 := K1.MR hM
    refine E_s (p' := 17) rfl rfl ?_
    refine E_s (p' := 18) (st' := aA 124 :: _) rfl rfl ?_
    refine E_s (p' := 20) (st' := aI 60 :: _) rfl rfl ?_
    refine E_s (p' := 21) (st' := aI ((i : Nat) : Int) :: _) rfl rfl ?_
    refine E_mul (v := ((60 * i : Nat) : Int)) rfl (by omega) (by omega) ?_
    refine E_s (p' := 23) (st' := aI ((ci : Nat) : Int) :: _) rfl rfl ?_
    refine E_add (v := ((60 * i + ci : Nat) : Int)) rfl (by omega) (by omega) ?_
    refine E_callV (k' := 148) (a := 124) (r := []) (L0 := [some (aA 124), some (aI ((60 * i + ci : Nat) : Int)), none, none]) rfl rfl rfl rfl rfl rfl rfl rfl rfl rfl ?_
    refine m_readCord hi hM1 hV (c := ci) hcc hd (fun m2 K2 hd2 K3 K4 K5 => ?_)
    refine E_go (p' := 27) (L' := [some (aA 124), some (aI ((i : Nat) : Int)), some (aI ((ci : Nat) : Int))]) (st' := []) rfl rfl rfl ?_
    have hS2 := K2.MS hS1
    have hC2 : Co1 m m2 := (K1.tr K2).Co1
    have hfb := Rft_b (S i) ci
    have hvb := Rvl_c hV hcc
    have htd := Rtd_n (R := S i) (c := ci)
    refine E_s (p' := 28) (st' := aA 124 :: _) rfl rfl ?_
    refine E_gI (v := ((Rft (S i) ci : Nat) : Int)) rfl rfl rfl rfl K3 ?_
    refine E_if_le (x := ((Rft (S i) ci : Nat) : Int)) rfl (by decide) (fun h_1 => ?_) (fun h_1 => ?_)
    · refine E_go (p' := 44) (L' := [some (aA 124), some (aI ((i : Nat) : Int)), some (aI ((ci : Nat) : Int))]) (st' := []) rfl rfl rfl ?_
      refine E_s (p' := 45) (st' := aA 124 :: _) rfl rfl ?_
      refine E_gI (v := ((Rvl (S i) ci : Nat) : Int)) rfl rfl rfl rfl K4 ?_
      refine E_ret rfl rfl ?_
      exact mq_in hS2 hi rfl q (by unfold aNumber; (try simp only [Int.toNat_natCast]); rw [cif_pos (by unfold inC; omega)]; omega) hC2
    · refine E_go (p' := 34) (L' := [some (aA 124), some (aI ((i : Nat) : Int)), some (aI ((ci : Nat) : Int))]) (st' := []) rfl rfl rfl ?_
      refine E_s (p' := 36) (st' := aI (-10) :: _) rfl rfl ?_
      refine E_s (p' := 37) (st' := aA 124 :: _) rfl rfl ?_
      refine E_gI (v := ((Rft (S i) ci : Nat) : Int)) rfl rfl rfl rfl K3 ?_
      refine E_sub (v := (-(Rft (S i) ci : Int) - 10)) rfl (by omega) (by omega) ?_
      refine E_s (p' := 48) rfl rfl ?_
      refine E_ret rfl rfl ?_
      exact mq_in hS2 hi rfl q (by unfold aNumber; (try simp only [Int.toNat_natCast]); rw [cif_pos (by unfold inC; omega)]; omega) hC2
  · refine E_go (p' := 6) (L' := [some (aA 124), some (aI (r)), some (aI (c))]) (st' := [aI 0]) rfl rfl rfl ?_
    refine E_s (p' := 9) rfl rfl ?_
    refine E_s (p' := 10) (st' := aI (-1) :: _) rfl rfl ?_
    refine E_ret rfl rfl ?_
    rcases hno with hr | ⟨i, hi, hr, hno⟩
    · exact mq_out hS q hr
    · exact mq_in hS hi hr q (by unfold aNumber; rw [cif_neg (hno)]) Co1.rf
theorem M_knotAt (hS : MS S m) (q : ∀ m1, MS S m1 → Co1 m m1 → Q (some (aI (qy S r (-1) (aKnotAt c k w)))) (m1, tl len)) : E 152 0 [some (aA 124), some (aI (r)), some (aI (c)), some (aI (k)), some (aI (w)), none] [] (m, tl len) Q := by
  refine E_s (p' := 1) (st' := aA 124 :: _) rfl rfl ?_
  refine E_s (p' := 2) (st' := aI (r) :: _) rfl rfl ?_
  refine E_s (p' := 3) (st' := aI (c) :: _) rfl rfl ?_
  refine E_callV (k' := 135) (a := 124) (r := []) (L0 := [some (aA 124), some (aI (r)), some (aI (c))]) rfl rfl rfl rfl rfl rfl rfl rfl rfl rfl ?_
  refine m_isCord hS (fun i ci hi hr hc hcc => ?_) (fun hno => ?_)
  · refine E_go (p' := 6) (L' := [some (aA 124), some (aI (r)), some (aI (c)), some (aI (k)), some (aI (w)), none]) (st' := [aI 1]) rfl rfl rfl ?_
    obtain ⟨hV, hM⟩ := hS i hi
    have hn60 := hV.1
    have hs40 := hV.2.2.2.2.1
    subst hr hc
    refine E_s (p' := 9) rfl rfl ?_
    have hk30 := (hV.2.2.1 ci hcc).2.2.2.2.2
    refine E_s (p' := 10) (st' := aI (k) :: _) rfl rfl ?_
    refine E_s (p' := 11) (st' := aI 0 :: _) rfl rfl ?_
    refine E_s (p' := 12) (st' := aA 124 :: _) rfl rfl ?_
    refine E_gA (b := 132) rfl rfl rfl rfl rfl rfl ?_
    refine E_s (p' := 17) (st' := aI 60 :: _) rfl rfl ?_
    refine E_s (p' := 18) (st' := aI ((i : Nat) : Int) :: _) rfl rfl ?_
    refine E_mul (v := ((60 * i : Nat) : Int)) rfl (by omega) (by omega) ?_
    refine E_s (p' := 20) (st' := aI ((ci : Nat) : Int) :: _) rfl rfl ?_
    refine E_add (v := ((60 * i + ci : Nat) : Int)) rfl (by omega) (by omega) ?_
    refine E_ald (e := 60 * i + ci) (N := 240) (v := ((Ck (S i) ci : Nat) : Int)) rfl rfl (rfl) (by omega) (MR_132 hM (by omega) (by omega)) ?_
    refine E_s (p' := 23) (st' := aI 1 :: _) rfl rfl ?_
    refine E_sub (v := ((Ck (S i) ci : Int) - 1)) rfl (by omega) (by omega) ?_
    refine E_callL (p' := 27) (L0 := [some (aI (k)), some (aI 0), some (aI ((Ck (S i) ci : Int) - 1))]) rfl rfl rfl ?_
    refine m_in (fun h_1 h_2 => ?_) (fun h_3 => ?_)
    · refine E_go (p' := 27) (L' := [some (aA 124), some (aI ((i : Nat) : Int)), some (aI ((ci : Nat) : Int)), some (aI (k)), some (aI (w)), none]) (st' := [aI 1]) rfl rfl rfl ?_
      refine E_s (p' := 32) rfl rfl ?_
      obtain ⟨kn, ek⟩ : ∃ x : Nat, k = (x : Int) := ⟨k.toNat, by omega⟩
      subst ek
      refine E_s (p' := 34) (st' := aI 30 :: _) rfl rfl ?_
      refine E_s (p' := 36) (st' := aI 60 :: _) rfl rfl ?_
      refine E_s (p' := 37) (st' := aI ((i : Nat) : Int) :: _) rfl rfl ?_
      refine E_mul (v := ((60 * i : Nat) : Int)) rfl (by omega) (by omega) ?_
      refine E_s (p' := 39) (st' := aI ((ci : Nat) : Int) :: _) rfl rfl ?_
      refine E_add (v := ((60 * i + ci : Nat) : Int)) rfl (by omega) (by omega) ?_
      refine E_mul (v := ((1800 * i + 30 * ci : Nat) : Int)) rfl (by omega) (by omega) ?_
      refine E_s (p' := 42) (st' := aI ((kn : Nat) : Int) :: _) rfl rfl ?_
      refine E_add (v := ((1800 * i + 30 * ci + kn : Nat) : Int)) rfl (by omega) (by omega) ?_
      refine E_s (p' := 45) (L' := [some (aA 124), some (aI ((i : Nat) : Int)), some (aI ((ci : Nat) : Int)), some (aI ((kn : Nat) : Int)), some (aI (w)), some (aI ((1800 * i + 30 * ci + kn : Nat) : Int))]) rfl rfl ?_
      refine E_s (p' := 47) (st' := aI (w) :: _) rfl rfl ?_
      refine E_if_ne (x := (w)) rfl (by decide) (fun h_4 => ?_) (fun h_4 => ?_)
      · refine E_go (p' := 60) (L' := [some (aA 124), some (aI ((i : Nat) : Int)), some (aI ((ci : Nat) : Int)), some (aI ((kn : Nat) : Int)), some (aI (w)), some (aI ((1800 * i + 30 * ci + kn : Nat) : Int))]) (st' := []) rfl rfl rfl ?_
        refine E_s (p' := 62) (st' := aI (w) :: _) rfl rfl ?_
        refine E_s (p' := 63) (st' := aI 1 :: _) rfl rfl ?_
        refine E_icmp_ne (x := (w)) (y := 1) rfl (by decide) (fun h_5 => ?_) (fun h_5 => ?_)
        · refine E_go (p' := 76) (L' := [some (aA 124), some (aI ((i : Nat) : Int)), some (aI ((ci : Nat) : Int)), some (aI ((kn : Nat) : Int)), some (aI (w)), some (aI ((1800 * i + 30 * ci + kn : Nat) : Int))]) (st' := []) rfl rfl rfl ?_
          refine E_s (p' := 78) (st' := aI (w) :: _) rfl rfl ?_
          refine E_s (p' := 79) (st' := aI 2 :: _) rfl rfl ?_
          refine E_icmp_ne (x := (w)) (y := 2) rfl (by decide) (fun h_6 => ?_) (fun h_6 => ?_)
          · refine E_go (p' := 92) (L' := [some (aA 124), some (aI ((i : Nat) : Int)), some (aI ((ci : Nat) : Int)), some (aI ((kn : Nat) : Int)), some (aI (w)), some (aI ((1800 * i + 30 * ci + kn : Nat) : Int))]) (st' := []) rfl rfl rfl ?_
            refine E_s (p' := 93) (st' := aI (-1) :: _) rfl rfl ?_
            refine E_ret rfl rfl ?_
            exact mq_in hS hi rfl q (by unfold aKnotAt; (try simp only [Int.toNat_natCast]); rw [cif_pos ⟨(by unfold inC; omega), (by omega), (by omega)⟩, if_neg (by omega), if_neg (by omega), if_neg (by omega)]) Co1.rf
          · refine E_go (p' := 82) (L' := [some (aA 124), some (aI ((i : Nat) : Int)), some (aI ((ci : Nat) : Int)), some (aI ((kn : Nat) : Int)), some (aI (w)), some (aI ((1800 * i + 30 * ci + kn : Nat) : Int))]) (st' := []) rfl rfl rfl ?_
            refine E_s (p' := 83) (st' := aA 124 :: _) rfl rfl ?_
            refine E_gA (b := 135) rfl rfl rfl rfl rfl rfl ?_
            refine E_s (p' := 88) (st' := aI ((1800 * i + 30 * ci + kn : Nat) : Int) :: _) rfl rfl ?_
            refine E_ald (e := 1800 * i + 30 * ci + kn) (N := 7200) (v := ((tu (Cp (S i) ci kn) : Nat) : Int)) rfl rfl (rfl) (by omega) (MR_135 hM (by omega) (by omega) (by omega)) ?_
            refine E_s (p' := 93) rfl rfl ?_
            refine E_ret rfl rfl ?_
            exact mq_in hS hi rfl q (by unfold aKnotAt; (try simp only [Int.toNat_natCast]); rw [cif_pos ⟨(by unfold inC; omega), (by omega), (by omega)⟩, if_neg (by omega), if_neg (by omega), if_pos (by omega)]) Co1.rf
        · refine E_go (p' := 66) (L' := [some (aA 124), some (aI ((i : Nat) : Int)), some (aI ((ci : Nat) : Int)), some (aI ((kn : Nat) : Int)), some (aI (w)), some (aI ((1800 * i + 30 * ci + kn : Nat) : Int))]) (st' := []) rfl rfl rfl ?_
          refine E_s (p' := 67) (st' := aA 124 :: _) rfl rfl ?_
          refine E_gA (b := 134) rfl rfl rfl rfl rfl rfl ?_
          refine E_s (p' := 72) (st' := aI ((1800 * i + 30 * ci + kn : Nat) : Int) :: _) rfl rfl ?_
          refine E_ald (e := 1800 * i + 30 * ci + kn) (N := 7200) (v := ((so (Cp (S i) ci kn) : Nat) : Int)) rfl rfl (rfl) (by omega) (MR_134 hM (by omega) (by omega) (by omega)) ?_
          refine E_s (p' := 93) rfl rfl ?_
          refine E_ret rfl rfl ?_
          exact mq_in hS hi rfl q (by unfold aKnotAt; (try simp only [Int.toNat_natCast]); rw [cif_pos ⟨(by unfold inC; omega), (by omega), (by omega)⟩, if_neg (by omega), if_pos (by omega)]) Co1.rf
      · refine E_go (p' := 50) (L' := [some (aA 124), some (aI ((i : Nat) : Int)), some (aI ((ci : Nat) : Int)), some (aI ((kn : Nat) : Int)), some (aI (w)), some (aI ((1800 * i + 30 * ci + kn : Nat) : Int))]) (st' := []) rfl rfl rfl ?_
        refine E_s (p' := 51) (st' := aA 124 :: _) rfl rfl ?_
        refine E_gA (b := 133) rfl rfl rfl rfl rfl rfl ?_
        refine E_s (p' := 56) (st' := aI ((1800 * i + 30 * ci + kn : Nat) : Int) :: _) rfl rfl ?_
        refine E_ald (e := 1800 * i + 30 * ci + kn) (N := 7200) (v := ((ht (Cp (S i) ci kn) : Nat) : Int)) rfl rfl (rfl) (by omega) (MR_133 hM (by omega) (by omega) (by omega)) ?_
        refine E_s (p' := 93) rfl rfl ?_
        refine E_ret rfl rfl ?_
        exact mq_in hS hi rfl q (by unfold aKnotAt; (try simp only [Int.toNat_natCast]); rw [cif_pos ⟨(by unfold inC; omega), (by omega), (by omega)⟩, if_pos (by omega)]) Co1.rf
    · refine E_go (p' := 27) (L' := [some (aA 124), some (aI ((i : Nat) : Int)), some (aI ((ci : Nat) : Int)), some (aI (k)), some (aI (w)), none]) (st' := [aI 0]) rfl rfl rfl ?_
      refine E_s (p' := 30) rfl rfl ?_
      refine E_s (p' := 31) (st' := aI (-1) :: _) rfl rfl ?_
      refine E_ret rfl rfl ?_
      exact mq_in hS hi rfl q (by unfold aKnotAt; (try simp only [Int.toNat_natCast]); rw [cif_neg (by omega)]) Co1.rf
  · refine E_go (p' := 6) (L' := [some (aA 124), some (aI (r)), some (aI (c)), some (aI (k)), some (aI (w)), none]) (st' := [aI 0]) rfl rfl rfl ?_
    refine E_s (p' := 30) rfl rfl ?_
    refine E_s (p' := 31) (st' := aI (-1) :: _) rfl rfl ?_
    refine E_ret rfl rfl ?_
    rcases hno with hr | ⟨i, hi, hr, hno⟩
    · exact mq_out hS q hr
    · exact mq_in hS hi hr q (by unfold aKnotAt; rw [cif_neg (fun g9 => hno g9.1)]) Co1.rf
end

theorem unS_b {R : RD} {ci e : Nat} (hV : VR R) (he : e ≤ Cn R) : unS R ci e ≤ 27000000 * e := by
  have := sumN_le (f := fun d => bif decide (Co R d = (ci : Int)) then Rvl R d else 0) (b := 27000000) e (fun i hi => by have := Rvl_c hV (show i < Cn R by omega); show (bif decide (Co R i = (ci : Int)) then Rvl R i else 0) ≤ _; cases decide (Co R i = (ci : Int)) <;> simp <;> omega)
  unfold unS; omega
theorem spS_b {R : RD} {s p : Nat} (hV : VR R) (hs : s < Sn R) (hp : p ≤ Sp R s) : spS R s p ≤ 27000000 * p := by
  have := sumN_le (f := fun k => Rvl R (Sq R s k)) (b := 27000000) p (fun i hi => Rvl_c hV (hV.2.2.2.2.2.2 s i hs (by omega)))
  unfold spS; omega
section
variable {len : Nat} {m : Mm} {Q : Option AV → Sx → Prop} {S : Nat → RD} {R : RD} {i ci : Nat} {r c k l s w : Int}
theorem yl_ab8 (hi : i < 4) (hM : MR R i m) (hV : VR R)  (q : Q (some (aI (cntN (fun d => decide (Co R d = (ci : Int))) (Cn R) : Int))) (m, tl len)) : ∀ (d : Nat) (t2 t : Nat), (Cn R < t2 + d) → (t2 ≤ Cn R) → (t = cntN (fun d => decide (Co R d = (ci : Int))) t2) → E 145 151 [some (aA 124), some (aI ((i : Nat) : Int)), some (aI ((ci : Nat) : Int)), some (aI (w)), some (aI ((60 * i + ci : Nat) : Int)), some (aI ((t : Nat) : Int)), some (aI ((t2 : Nat) : Int))] [] (m, tl len) Q := by
  intro d
  induction d with
  | zero => intro t2 t hd hi2 hz; omega
  | succ d ih =>
    intro t2 t hd hi2 hz
    have hn60 := hV.1
    have ht9 := cntN_le (fun d => decide (Co R d = (ci : Int))) t2
    refine E_s (p' := 153) (st' := aI ((t2 : Nat) : Int) :: _) rfl rfl ?_
    refine E_s (p' := 154) (st' := aA 124 :: _) rfl rfl ?_
    refine E_gA (b := 125) rfl rfl rfl rfl rfl rfl ?_
    refine E_s (p' := 158) (st' := aI ((i : Nat) : Int) :: _) rfl rfl ?_
    refine E_ald (e := i) (N := 4) (v := ((Cn R : Nat) : Int)) rfl rfl (rfl) (by omega) (MR_125 hM) ?_
    refine E_icmp_ge (x := ((t2 : Nat) : Int)) (y := ((Cn R : Nat) : Int)) rfl (by decide) (fun h_1 => ?_) (fun h_1 => ?_)
    · refine E_go (p' := 194) (L' := [some (aA 124), some (aI ((i : Nat) : Int)), some (aI ((ci : Nat) : Int)), some (aI (w)), some (aI ((60 * i + ci : Nat) : Int)), some (aI ((t : Nat) : Int)), some (aI ((t2 : Nat) : Int))]) (st' := []) rfl rfl rfl ?_
      refine E_s (p' := 196) (st' := aI ((t : Nat) : Int) :: _) rfl rfl ?_
      refine E_ret rfl rfl ?_
      have ei : t2 = Cn R := by omega
      rw [hz, ei]
      exact q
    · refine E_go (p' := 162) (L' := [some (aA 124), some (aI ((i : Nat) : Int)), some (aI ((ci : Nat) : Int)), some (aI (w)), some (aI ((60 * i + ci : Nat) : Int)), some (aI ((t : Nat) : Int)), some (aI ((t2 : Nat) : Int))]) (st' := []) rfl rfl rfl ?_
      refine E_s (p' := 164) (st' := aI ((t : Nat) : Int) :: _) rfl rfl ?_
      refine E_s (p' := 165) (st' := aA 124 :: _) rfl rfl ?_
      refine E_gA (b := 128) rfl rfl rfl rfl rfl rfl ?_
      refine E_s (p' := 170) (st' := aI 60 :: _) rfl rfl ?_
      refine E_s (p' := 171) (st' := aI ((i : Nat) : Int) :: _) rfl rfl ?_
      refine E_mul (v := ((60 * i : Nat) : Int)) rfl (by omega) (by omega) ?_
      refine E_s (p' := 174) (st' := aI ((t2 : Nat) : Int) :: _) rfl rfl ?_
      refine E_add (v := ((60 * i + t2 : Nat) : Int)) rfl (by omega) (by omega) ?_
      refine E_ald (e := 60 * i + t2) (N := 240) (v := ((Co R t2))) rfl rfl (rfl) (by omega) (MR_128 hM (by omega) (by omega)) ?_
      refine E_s (p' := 177) (st' := aI ((ci : Nat) : Int) :: _) rfl rfl ?_
      suffices h_2 : E 145 185 [some (aA 124), some (aI ((i : Nat) : Int)), some (aI ((ci : Nat) : Int)), some (aI (w)), some (aI ((60 * i + ci : Nat) : Int)), some (aI ((t : Nat) : Int)), some (aI ((t2 : Nat) : Int))] [aI (bi (!decide (((Co R t2)) ≠ ((ci : Nat) : Int)))), aI ((t : Nat) : Int)] (m, tl len) Q by
        refine E_icmp_ne (x := ((Co R t2))) (y := ((ci : Nat) : Int)) rfl (by decide) (fun h_3 => ?_) (fun h_3 => ?_)
        · refine E_go (p' := 184) (L' := [some (aA 124), some (aI ((i : Nat) : Int)), some (aI ((ci : Nat) : Int)), some (aI (w)), some (aI ((60 * i + ci : Nat) : Int)), some (aI ((t : Nat) : Int)), some (aI ((t2 : Nat) : Int))]) (st' := [aI ((t : Nat) : Int)]) rfl rfl rfl ?_
          refine E_s (p' := 185) (st' := aI 0 :: _) rfl rfl ?_
          rw [decide_eq_true (p := ((Co R t2)) ≠ ((ci : Nat) : Int)) (by omega)] at h_2
          exact h_2
        · refine E_go (p' := 180) (L' := [some (aA 124), some (aI ((i : Nat) : Int)), some (aI ((ci : Nat) : Int)), some (aI (w)), some (aI ((60 * i + ci : Nat) : Int)), some (aI ((t : Nat) : Int)), some (aI ((t2 : Nat) : Int))]) (st' := [aI ((t : Nat) : Int)]) rfl rfl rfl ?_
          refine E_s (p' := 181) (st' := aI 1 :: _) rfl rfl ?_
          refine E_s (p' := 185) rfl rfl ?_
          rw [decide_eq_false (p := ((Co R t2)) ≠ ((ci : Nat) : Int)) (by omega)] at h_2
          exact h_2
      refine E_add (v := ((t + bn (!decide (((Co R t2)) ≠ ((ci : Nat) : Int))) : Nat) : Int)) rfl add_bn (by have := bn_le (!decide (((Co R t2)) ≠ ((ci : Nat) : Int))); omega) ?_
      refine E_s (p' := 188) (L' := [some (aA 124), some (aI ((i : Nat) : Int)), some (aI ((ci : Nat) : Int)), some (aI (w)), some (aI ((60 * i + ci : Nat) : Int)), some (aI ((t + bn (!decide (((Co R t2)) ≠ ((ci : Nat) : Int))) : Nat) : Int)), some (aI ((t2 : Nat) : Int))]) rfl rfl ?_
      refine E_inc (x := ((t2 : Nat) : Int)) (w := ((t2 + 1 : Nat) : Int)) (L' := [some (aA 124), some (aI ((i : Nat) : Int)), some (aI ((ci : Nat) : Int)), some (aI (w)), some (aI ((60 * i + ci : Nat) : Int)), some (aI ((t + bn (!decide (((Co R t2)) ≠ ((ci : Nat) : Int))) : Nat) : Int)), some (aI ((t2 + 1 : Nat) : Int))]) rfl rfl rfl (by omega) (by omega) rfl ?_
      refine E_s (p' := 151) rfl rfl ?_
      exact ih (t2 + 1) _ (by omega) (by omega) (by rw [hz]; simp [cntN])
theorem yl_ct1 (hi : i < 4) (hM : MR R i m) (hV : VR R)  (q : Q (some (aI (sumN (Ck R) (Cn R) : Int))) (m, tl len)) : ∀ (d : Nat) (t2 t : Nat), (Cn R < t2 + d) → (t2 ≤ Cn R) → (t = sumN (Ck R) t2) → E 182 66 [some (aA 124), some (aI ((i : Nat) : Int)), some (aI (w)), some (aI ((t : Nat) : Int)), some (aI ((t2 : Nat) : Int))] [] (m, tl len) Q := by
  intro d
  induction d with
  | zero => intro t2 t hd hi2 hz; omega
  | succ d ih =>
    intro t2 t hd hi2 hz
    have hn60 := hV.1
    have ht9 := sumN_le (f := (Ck R)) (b := 30) t2 (fun j hj => (hV.2.2.1 j (by omega)).2.2.2.2.2)
    have hk30 : ∀ d, d < Cn R → Ck R d ≤ 30 := fun d hd9 => (hV.2.2.1 d hd9).2.2.2.2.2
    refine E_s (p' := 68) (st' := aI ((t2 : Nat) : Int) :: _) rfl rfl ?_
    refine E_s (p' := 69) (st' := aA 124 :: _) rfl rfl ?_
    refine E_gA (b := 125) rfl rfl rfl rfl rfl rfl ?_
    refine E_s (p' := 73) (st' := aI ((i : Nat) : Int) :: _) rfl rfl ?_
    refine E_ald (e := i) (N := 4) (v := ((Cn R : Nat) : Int)) rfl rfl (rfl) (by omega) (MR_125 hM) ?_
    refine E_icmp_ge (x := ((t2 : Nat) : Int)) (y := ((Cn R : Nat) : Int)) rfl (by decide) (fun h_1 => ?_) (fun h_1 => ?_)
    · refine E_go (p' := 98) (L' := [some (aA 124), some (aI ((i : Nat) : Int)), some (aI (w)), some (aI ((t : Nat) : Int)), some (aI ((t2 : Nat) : Int))]) (st' := []) rfl rfl rfl ?_
      refine E_s (p' := 99) (st' := aI ((t : Nat) : Int) :: _) rfl rfl ?_
      refine E_ret rfl rfl ?_
      have ei : t2 = Cn R := by omega
      rw [hz, ei]
      exact q
    · refine E_go (p' := 77) (L' := [some (aA 124), some (aI ((i : Nat) : Int)), some (aI (w)), some (aI ((t : Nat) : Int)), some (aI ((t2 : Nat) : Int))]) (st' := []) rfl rfl rfl ?_
      have hkd := hk30 t2 (by omega)
      refine E_s (p' := 78) (st' := aI ((t : Nat) : Int) :: _) rfl rfl ?_
      refine E_s (p' := 79) (st' := aA 124 :: _) rfl rfl ?_
      refine E_gA (b := 132) rfl rfl rfl rfl rfl rfl ?_
      refine E_s (p' := 84) (st' := aI 60 :: _) rfl rfl ?_
      refine E_s (p' := 85) (st' := aI ((i : Nat) : Int) :: _) rfl rfl ?_
      refine E_mul (v := ((60 * i : Nat) : Int)) rfl (by omega) (by omega) ?_
      refine E_s (p' := 88) (st' := aI ((t2 : Nat) : Int) :: _) rfl rfl ?_
      refine E_add (v := ((60 * i + t2 : Nat) : Int)) rfl (by omega) (by omega) ?_
      refine E_ald (e := 60 * i + t2) (N := 240) (v := ((Ck R t2 : Nat) : Int)) rfl rfl (rfl) (by omega) (MR_132 hM (by omega) (by omega)) ?_
      refine E_add (v := ((t + Ck R t2 : Nat) : Int)) rfl (by omega) (by omega) ?_
      refine E_s (p' := 92) (L' := [some (aA 124), some (aI ((i : Nat) : Int)), some (aI (w)), some (aI ((t + Ck R t2 : Nat) : Int)), some (aI ((t2 : Nat) : Int))]) rfl rfl ?_
      refine E_inc (x := ((t2 : Nat) : Int)) (w := ((t2 + 1 : Nat) : Int)) (L' := [some (aA 124), some (aI ((i : Nat) : Int)), some (aI (w)), some (aI ((t + Ck R t2 : Nat) : Int)), some (aI ((t2 + 1 : Nat) : Int))]) rfl rfl rfl (by omega) (by omega) rfl ?_
      refine E_s (p' := 66) rfl rfl ?_
      exact ih (t2 + 1) _ (by omega) (by omega) (by rw [hz]; rfl)
theorem yl_ct6 (hi : i < 4) (hM : MR R i m) (hV : VR R)  (q : Q (some (aI (cntN (fun d => decide (Co R d = -1)) (Cn R) : Int))) (m, tl len)) : ∀ (d : Nat) (t2 t : Nat), (Cn R < t2 + d) → (t2 ≤ Cn R) → (t = cntN (fun d => decide (Co R d = -1)) t2) → E 182 212 [some (aA 124), some (aI ((i : Nat) : Int)), some (aI (w)), some (aI ((t : Nat) : Int)), some (aI ((t2 : Nat) : Int))] [] (m, tl len) Q := by
  intro d
  induction d with
  | zero => intro t2 t hd hi2 hz; omega
  | succ d ih =>
    intro t2 t hd hi2 hz
    have hn60 := hV.1
    have ht9 := cntN_le (fun d => decide (Co R d = -1)) t2
    refine E_s (p' := 214) (st' := aI ((t2 : Nat) : Int) :: _) rfl rfl ?_
    refine E_s (p' := 215) (st' := aA 124 :: _) rfl rfl ?_
    refine E_gA (b := 125) rfl rfl rfl rfl rfl rfl ?_
    refine E_s (p' := 219) (st' := aI ((i : Nat) : Int) :: _) rfl rfl ?_
    refine E_ald (e := i) (N := 4) (v := ((Cn R : Nat) : Int)) rfl rfl (rfl) (by omega) (MR_125 hM) ?_
    refine E_icmp_ge (x := ((t2 : Nat) : Int)) (y := ((Cn R : Nat) : Int)) rfl (by decide) (fun h_1 => ?_) (fun h_1 => ?_)
    · refine E_go (p' := 253) (L' := [some (aA 124), some (aI ((i : Nat) : Int)), some (aI (w)), some (aI ((t : Nat) : Int)), some (aI ((t2 : Nat) : Int))]) (st' := []) rfl rfl rfl ?_
      refine E_s (p' := 254) (st' := aI ((t : Nat) : Int) :: _) rfl rfl ?_
      refine E_ret rfl rfl ?_
      have ei : t2 = Cn R := by omega
      rw [hz, ei]
      exact q
    · refine E_go (p' := 223) (L' := [some (aA 124), some (aI ((i : Nat) : Int)), some (aI (w)), some (aI ((t : Nat) : Int)), some (aI ((t2 : Nat) : Int))]) (st' := []) rfl rfl rfl ?_
      refine E_s (p' := 224) (st' := aI ((t : Nat) : Int) :: _) rfl rfl ?_
      refine E_s (p' := 225) (st' := aA 124 :: _) rfl rfl ?_
      refine E_gA (b := 128) rfl rfl rfl rfl rfl rfl ?_
      refine E_s (p' := 230) (st' := aI 60 :: _) rfl rfl ?_
      refine E_s (p' := 231) (st' := aI ((i : Nat) : Int) :: _) rfl rfl ?_
      refine E_mul (v := ((60 * i : Nat) : Int)) rfl (by omega) (by omega) ?_
      refine E_s (p' := 234) (st' := aI ((t2 : Nat) : Int) :: _) rfl rfl ?_
      refine E_add (v := ((60 * i + t2 : Nat) : Int)) rfl (by omega) (by omega) ?_
      refine E_ald (e := 60 * i + t2) (N := 240) (v := ((Co R t2))) rfl rfl (rfl) (by omega) (MR_128 hM (by omega) (by omega)) ?_
      refine E_s (p' := 237) (st' := aI (-1) :: _) rfl rfl ?_
      suffices h_2 : E 182 245 [some (aA 124), some (aI ((i : Nat) : Int)), some (aI (w)), some (aI ((t : Nat) : Int)), some (aI ((t2 : Nat) : Int))] [aI (bi (!decide (((Co R t2)) ≠ (-1)))), aI ((t : Nat) : Int)] (m, tl len) Q by
        refine E_icmp_ne (x := ((Co R t2))) (y := (-1)) rfl (by decide) (fun h_3 => ?_) (fun h_3 => ?_)
        · refine E_go (p' := 244) (L' := [some (aA 124), some (aI ((i : Nat) : Int)), some (aI (w)), some (aI ((t : Nat) : Int)), some (aI ((t2 : Nat) : Int))]) (st' := [aI ((t : Nat) : Int)]) rfl rfl rfl ?_
          refine E_s (p' := 245) (st' := aI 0 :: _) rfl rfl ?_
          rw [decide_eq_true (p := ((Co R t2)) ≠ (-1)) (by omega)] at h_2
          exact h_2
        · refine E_go (p' := 240) (L' := [some (aA 124), some (aI ((i : Nat) : Int)), some (aI (w)), some (aI ((t : Nat) : Int)), some (aI ((t2 : Nat) : Int))]) (st' := [aI ((t : Nat) : Int)]) rfl rfl rfl ?_
          refine E_s (p' := 241) (st' := aI 1 :: _) rfl rfl ?_
          refine E_s (p' := 245) rfl rfl ?_
          rw [decide_eq_false (p := ((Co R t2)) ≠ (-1)) (by omega)] at h_2
          exact h_2
      refine E_add (v := ((t + bn (!decide (((Co R t2)) ≠ (-1))) : Nat) : Int)) rfl add_bn (by have := bn_le (!decide (((Co R t2)) ≠ (-1))); omega) ?_
      refine E_s (p' := 247) (L' := [some (aA 124), some (aI ((i : Nat) : Int)), some (aI (w)), some (aI ((t + bn (!decide (((Co R t2)) ≠ (-1))) : Nat) : Int)), some (aI ((t2 : Nat) : Int))]) rfl rfl ?_
      refine E_inc (x := ((t2 : Nat) : Int)) (w := ((t2 + 1 : Nat) : Int)) (L' := [some (aA 124), some (aI ((i : Nat) : Int)), some (aI (w)), some (aI ((t + bn (!decide (((Co R t2)) ≠ (-1))) : Nat) : Int)), some (aI ((t2 + 1 : Nat) : Int))]) rfl rfl rfl (by omega) (by omega) rfl ?_
      refine E_s (p' := 212) rfl rfl ?_
      exact ih (t2 + 1) _ (by omega) (by omega) (by rw [hz]; simp [cntN])
theorem yl_ct4 (hi : i < 4) (hM : MR R i m) (hV : VR R) (q : Q (some (aI (cntN (fun d => decide (Ct R d ≠ 0)) (Cn R) : Int))) (m, tl len)) : ∀ (d : Nat) (t2 t : Nat), (Cn R < t2 + d) → (t2 ≤ Cn R) → (t = cntN (fun d => decide (Ct R d ≠ 0)) t2) → E 182 117 [some (aA 124), some (aI ((i : Nat) : Int)), some (aI (w)), some (aI ((t : Nat) : Int)), some (aI ((t2 : Nat) : Int))] [] (m, tl len) Q := by
  intro d
  induction d with
  | zero => intro t2 t hd hi2 hz; omega
  | succ d ih =>
    intro t2 t hd hi2 hz
    have hn60 := hV.1
    have ht9 := cntN_le (fun d => decide (Ct R d ≠ 0)) t2
    refine E_s (p' := 119) (st' := aI ((t2 : Nat) : Int) :: _) rfl rfl ?_
    refine E_s (p' := 120) (st' := aA 124 :: _) rfl rfl ?_
    refine E_gA (b := 125) rfl rfl rfl rfl rfl rfl ?_
    refine E_s (p' := 124) (st' := aI ((i : Nat) : Int) :: _) rfl rfl ?_
    refine E_ald (e := i) (N := 4) (v := ((Cn R : Nat) : Int)) rfl rfl (rfl) (by omega) (MR_125 hM) ?_
    refine E_icmp_ge (x := ((t2 : Nat) : Int)) (y := ((Cn R : Nat) : Int)) rfl (by decide) (fun h_1 => ?_) (fun h_1 => ?_)
    · refine E_go (p' := 158) (L' := [some (aA 124), some (aI ((i : Nat) : Int)), some (aI (w)), some (aI ((t : Nat) : Int)), some (aI ((t2 : Nat) : Int))]) (st' := []) rfl rfl rfl ?_
      refine E_s (p' := 159) (st' := aI ((t : Nat) : Int) :: _) rfl rfl ?_
      refine E_ret rfl rfl ?_
      have ei : t2 = Cn R := by omega
      rw [hz, ei]
      exact q
    · refine E_go (p' := 128) (L' := [some (aA 124), some (aI ((i : Nat) : Int)), some (aI (w)), some (aI ((t : Nat) : Int)), some (aI ((t2 : Nat) : Int))]) (st' := []) rfl rfl rfl ?_
      have hctz := Ctz_c R t2
      refine E_s (p' := 129) (st' := aI ((t : Nat) : Int) :: _) rfl rfl ?_
      refine E_s (p' := 130) (st' := aA 124 :: _) rfl rfl ?_
      refine E_gA (b := 131) rfl rfl rfl rfl rfl rfl ?_
      refine E_s (p' := 135) (st' := aI 60 :: _) rfl rfl ?_
      refine E_s (p' := 136) (st' := aI ((i : Nat) : Int) :: _) rfl rfl ?_
      refine E_mul (v := ((60 * i : Nat) : Int)) rfl (by omega) (by omega) ?_
      refine E_s (p' := 139) (st' := aI ((t2 : Nat) : Int) :: _) rfl rfl ?_
      refine E_add (v := ((60 * i + t2 : Nat) : Int)) rfl (by omega) (by omega) ?_
      refine E_ald (e := 60 * i + t2) (N := 240) (v := (((Ctz R t2)))) rfl rfl (rfl) (by omega) (MR_131 hM (by omega) (by omega)) ?_
      refine E_s (p' := 142) (st' := aI (-1) :: _) rfl rfl ?_
      suffices h_2 : E 182 150 [some (aA 124), some (aI ((i : Nat) : Int)), some (aI (w)), some (aI ((t : Nat) : Int)), some (aI ((t2 : Nat) : Int))] [aI (bi (!decide ((((Ctz R t2))) = (-1)))), aI ((t : Nat) : Int)] (m, tl len) Q by
        refine E_icmp_eq (x := (((Ctz R t2)))) (y := (-1)) rfl (by decide) (fun h_3 => ?_) (fun h_3 => ?_)
        · refine E_go (p' := 149) (L' := [some (aA 124), some (aI ((i : Nat) : Int)), some (aI (w)), some (aI ((t : Nat) : Int)), some (aI ((t2 : Nat) : Int))]) (st' := [aI ((t : Nat) : Int)]) rfl rfl rfl ?_
          refine E_s (p' := 150) (st' := aI 0 :: _) rfl rfl ?_
          rw [decide_eq_true (p := (((Ctz R t2))) = (-1)) (by omega)] at h_2
          exact h_2
        · refine E_go (p' := 145) (L' := [some (aA 124), some (aI ((i : Nat) : Int)), some (aI (w)), some (aI ((t : Nat) : Int)), some (aI ((t2 : Nat) : Int))]) (st' := [aI ((t : Nat) : Int)]) rfl rfl rfl ?_
          refine E_s (p' := 146) (st' := aI 1 :: _) rfl rfl ?_
          refine E_s (p' := 150) rfl rfl ?_
          rw [decide_eq_false (p := (((Ctz R t2))) = (-1)) (by omega)] at h_2
          exact h_2
      refine E_add (v := ((t + bn (!decide ((((Ctz R t2))) = (-1))) : Nat) : Int)) rfl add_bn (by have := bn_le (!decide ((((Ctz R t2))) = (-1))); omega) ?_
      refine E_s (p' := 152) (L' := [some (aA 124), some (aI ((i : Nat) : Int)), some (aI (w)), some (aI ((t + bn (!decide ((((Ctz R t2))) = (-1))) : Nat) : Int)), some (aI ((t2 : Nat) : Int))]) rfl rfl ?_
      refine E_inc (x := ((t2 : Nat) : Int)) (w := ((t2 + 1 : Nat) : Int)) (L' := [some (aA 124), some (aI ((i : Nat) : Int)), some (aI (w)), some (aI ((t + bn (!decide ((((Ctz R t2))) = (-1))) : Nat) : Int)), some (aI ((t2 + 1 : Nat) : Int))]) rfl rfl rfl (by omega) (by omega) rfl ?_
      refine E_s (p' := 117) rfl rfl ?_
      refine ih (t2 + 1) _ (by omega) (by omega) ?_
      show _ = cntN _ t2 + bn (decide (Ct R t2 ≠ 0))
      rw [hz]
      congr 2
      by_cases g9 : Ct R t2 = 0
      · rw [decide_eq_false (p := Ct R t2 ≠ 0) (by omega), decide_eq_true (by omega)]; rfl
      · rw [decide_eq_true (p := Ct R t2 ≠ 0) (by omega), decide_eq_false (by omega)]; rfl
theorem yl_ct5 (hi : i < 4) (hM : MR R i m) (hV : VR R) (hnm : ∀ d, d < Cn R → m 148 d = Rtd R d) (q : Q (some (aI (cntN (fun d => decide (Rft R d ≠ 0)) (Cn R) : Int))) (m, tl len)) : ∀ (d : Nat) (t2 t : Nat), (Cn R < t2 + d) → (t2 ≤ Cn R) → (t = cntN (fun d => decide (Rft R d ≠ 0)) t2) → E 182 172 [some (aA 124), some (aI ((i : Nat) : Int)), some (aI (w)), some (aI ((t : Nat) : Int)), some (aI ((t2 : Nat) : Int))] [] (m, tl len) Q := by
  intro d
  induction d with
  | zero => intro t2 t hd hi2 hz; omega
  | succ d ih =>
    intro t2 t hd hi2 hz
    have hn60 := hV.1
    have ht9 := cntN_le (fun d => decide (Rft R d ≠ 0)) t2
    have htd := Rtd_n (R := R) (c := t2)
    refine E_s (p' := 174) (st' := aI ((t2 : Nat) : Int) :: _) rfl rfl ?_
    refine E_s (p' := 175) (st' := aA 124 :: _) rfl rfl ?_
    refine E_gA (b := 125) rfl rfl rfl rfl rfl rfl ?_
    refine E_s (p' := 179) (st' := aI ((i : Nat) : Int) :: _) rfl rfl ?_
    refine E_ald (e := i) (N := 4) (v := ((Cn R : Nat) : Int)) rfl rfl (rfl) (by omega) (MR_125 hM) ?_
    refine E_icmp_ge (x := ((t2 : Nat) : Int)) (y := ((Cn R : Nat) : Int)) rfl (by decide) (fun h_1 => ?_) (fun h_1 => ?_)
    · refine E_go (p' := 207) (L' := [some (aA 124), some (aI ((i : Nat) : Int)), some (aI (w)), some (aI ((t : Nat) : Int)), some (aI ((t2 : Nat) : Int))]) (st' := []) rfl rfl rfl ?_
      refine E_s (p' := 208) (st' := aI ((t : Nat) : Int) :: _) rfl rfl ?_
      refine E_ret rfl rfl ?_
      have ei : t2 = Cn R := by omega
      rw [hz, ei]
      exact q
    · refine E_go (p' := 183) (L' := [some (aA 124), some (aI ((i : Nat) : Int)), some (aI (w)), some (aI ((t : Nat) : Int)), some (aI ((t2 : Nat) : Int))]) (st' := []) rfl rfl rfl ?_
      refine E_s (p' := 184) (st' := aI ((t : Nat) : Int) :: _) rfl rfl ?_
      refine E_s (p' := 185) (st' := aA 124 :: _) rfl rfl ?_
      refine E_gA (b := 148) rfl rfl rfl rfl rfl rfl ?_
      refine E_s (p' := 190) (st' := aI ((t2 : Nat) : Int) :: _) rfl rfl ?_
      refine E_ald (e := t2) (N := 60) (v := (((Rtd R t2)))) rfl rfl (rfl) (by omega) (hnm _ (by omega)) ?_
      suffices h_2 : E 182 199 [some (aA 124), some (aI ((i : Nat) : Int)), some (aI (w)), some (aI ((t : Nat) : Int)), some (aI ((t2 : Nat) : Int))] [aI (bi (!decide (0 ≤ (((Rtd R t2)))))), aI ((t : Nat) : Int)] (m, tl len) Q by
        refine E_if_ge (x := (((Rtd R t2)))) rfl (by decide) (fun h_3 => ?_) (fun h_3 => ?_)
        · refine E_go (p' := 198) (L' := [some (aA 124), some (aI ((i : Nat) : Int)), some (aI (w)), some (aI ((t : Nat) : Int)), some (aI ((t2 : Nat) : Int))]) (st' := [aI ((t : Nat) : Int)]) rfl rfl rfl ?_
          refine E_s (p' := 199) (st' := aI 0 :: _) rfl rfl ?_
          rw [decide_eq_true (p := 0 ≤ (((Rtd R t2)))) (by omega)] at h_2
          exact h_2
        · refine E_go (p' := 194) (L' := [some (aA 124), some (aI ((i : Nat) : Int)), some (aI (w)), some (aI ((t : Nat) : Int)), some (aI ((t2 : Nat) : Int))]) (st' := [aI ((t : Nat) : Int)]) rfl rfl rfl ?_
          refine E_s (p' := 195) (st' := aI 1 :: _) rfl rfl ?_
          refine E_s (p' := 199) rfl rfl ?_
          rw [decide_eq_false (p := 0 ≤ (((Rtd R t2)))) (by omega)] at h_2
          exact h_2
      refine E_add (v := ((t + bn (!decide (0 ≤ (((Rtd R t2))))) : Nat) : Int)) rfl add_bn (by have := bn_le (!decide (0 ≤ (((Rtd R t2))))); omega) ?_
      refine E_s (p' := 201) (L' := [some (aA 124), some (aI ((i : Nat) : Int)), some (aI (w)), some (aI ((t + bn (!decide (0 ≤ (((Rtd R t2))))) : Nat) : Int)), some (aI ((t2 : Nat) : Int))]) rfl rfl ?_
      refine E_inc (x := ((t2 : Nat) : Int)) (w := ((t2 + 1 : Nat) : Int)) (L' := [some (aA 124), some (aI ((i : Nat) : Int)), some (aI (w)), some (aI ((t + bn (!decide (0 ≤ (((Rtd R t2))))) : Nat) : Int)), some (aI ((t2 + 1 : Nat) : Int))]) rfl rfl rfl (by omega) (by omega) rfl ?_
      refine E_s (p' := 172) rfl rfl ?_
      refine ih (t2 + 1) _ (by omega) (by omega) ?_
      show _ = cntN _ t2 + bn (decide (Rft R t2 ≠ 0))
      rw [hz]
      congr 2
      by_cases g9 : Rft R t2 = 0
      · rw [decide_eq_false (p := Rft R t2 ≠ 0) (by omega), decide_eq_true (by omega)]; rfl
      · rw [decide_eq_true (p := Rft R t2 ≠ 0) (by omega), decide_eq_false (by omega)]; rfl
theorem M_about (hS : MS S m) (q : ∀ m1, MS S m1 → Co1 m m1 → Q (some (aI (qy S r (-1) (aAbout c w)))) (m1, tl len)) : E 145 0 [some (aA 124), some (aI (r)), some (aI (c)), some (aI (w)), none, none, none] [] (m, tl len) Q := by
  refine E_s (p' := 1) (st' := aA 124 :: _) rfl rfl ?_
  refine E_s (p' := 2) (st' := aI (r) :: _) rfl rfl ?_
  refine E_s (p' := 3) (st' := aI (c) :: _) rfl rfl ?_
  refine E_callV (k' := 135) (a := 124) (r := []) (L0 := [some (aA 124), some (aI (r)), some (aI (c))]) rfl rfl rfl rfl rfl rfl rfl rfl rfl rfl ?_
  refine m_isCord hS (fun i ci hi hr hc hcc => ?_) (fun hno => ?_)
  · refine E_go (p' := 6) (L' := [some (aA 124), some (aI (r)), some (aI (c)), some (aI (w)), none, none, none]) (st' := [aI 1]) rfl rfl rfl ?_
    obtain ⟨hV, hM⟩ := hS i hi
    have hn60 := hV.1
    have hs40 := hV.2.2.2.2.1
    subst hr hc
    refine E_s (p' := 11) rfl rfl ?_
    refine E_s (p' := 13) (st' := aI 60 :: _) rfl rfl ?_
    refine E_s (p' := 14) (st' := aI ((i : Nat) : Int) :: _) rfl rfl ?_
    refine E_mul (v := ((60 * i : Nat) : Int)) rfl (by omega) (by omega) ?_
    refine E_s (p' := 16) (st' := aI ((ci : Nat) : Int) :: _) rfl rfl ?_
    refine E_add (v := ((60 * i + ci : Nat) : Int)) rfl (by omega) (by omega) ?_
    refine E_s (p' := 19) (L' := [some (aA 124), some (aI ((i : Nat) : Int)), some (aI ((ci : Nat) : Int)), some (aI (w)), some (aI ((60 * i + ci : Nat) : Int)), none, none]) rfl rfl ?_
    refine E_s (p' := 20) (st' := aI 0 :: _) rfl rfl ?_
    refine E_s (p' := 22) (L' := [some (aA 124), some (aI ((i : Nat) : Int)), some (aI ((ci : Nat) : Int)), some (aI (w)), some (aI ((60 * i + ci : Nat) : Int)), some (aI 0), none]) rfl rfl ?_
    refine E_s (p' := 23) (st' := aI (w) :: _) rfl rfl ?_
    rcases (show (w) = 0 ∨ (w) = 1 ∨ (w) = 2 ∨ (w) = 3 ∨ (w) = 4 ∨ (w) = 5 ∨ (w) = 6 ∨ (w) = 7 ∨ (w) = 8 ∨ ((w) ≠ 0 ∧ (w) ≠ 1 ∧ (w) ≠ 2 ∧ (w) ≠ 3 ∧ (w) ≠ 4 ∧ (w) ≠ 5 ∧ (w) ≠ 6 ∧ (w) ≠ 7 ∧ (w) ≠ 8) by omega) with h_1 | h_2 | h_3 | h_4 | h_5 | h_6 | h_7 | h_8 | h_9 | h_10
    · refine E_valv h_1 ?_
      refine E_s (p' := 72) rfl rfl ?_
      refine E_s (p' := 73) (st' := aA 124 :: _) rfl rfl ?_
      refine E_gA (b := 127) rfl rfl rfl rfl rfl rfl ?_
      refine E_s (p' := 78) (st' := aI ((60 * i + ci : Nat) : Int) :: _) rfl rfl ?_
      refine E_ald (e := 60 * i + ci) (N := 240) (v := ((Cg (S i) ci))) rfl rfl (rfl) (by omega) (MR_127 hM (by omega) (by omega)) ?_
      refine E_ret rfl rfl ?_
      exact mq_in hS hi rfl q (by unfold aAbout; rw [cif_pos (by unfold inC; omega)]; (try simp only [Int.toNat_natCast]); rw [if_pos (by omega)]) Co1.rf
    · refine E_valv h_2 ?_
      refine E_s (p' := 80) rfl rfl ?_
      refine E_s (p' := 81) (st' := aA 124 :: _) rfl rfl ?_
      refine E_gA (b := 128) rfl rfl rfl rfl rfl rfl ?_
      refine E_s (p' := 86) (st' := aI ((60 * i + ci : Nat) : Int) :: _) rfl rfl ?_
      refine E_ald (e := 60 * i + ci) (N := 240) (v := ((Co (S i) ci))) rfl rfl (rfl) (by omega) (MR_128 hM (by omega) (by omega)) ?_
      refine E_ret rfl rfl ?_
      exact mq_in hS hi rfl q (by unfold aAbout; rw [cif_pos (by unfold inC; omega)]; (try simp only [Int.toNat_natCast]); rw [if_neg (by omega), if_pos (by omega)]) Co1.rf
    · refine E_valv h_3 ?_
      refine E_s (p' := 88) rfl rfl ?_
      refine E_s (p' := 89) (st' := aA 124 :: _) rfl rfl ?_
      refine E_gA (b := 129) rfl rfl rfl rfl rfl rfl ?_
      refine E_s (p' := 94) (st' := aI ((60 * i + ci : Nat) : Int) :: _) rfl rfl ?_
      refine E_ald (e := 60 * i + ci) (N := 240) (v := ((Cc (S i) ci : Nat) : Int)) rfl rfl (rfl) (by omega) (MR_129 hM (by omega) (by omega)) ?_
      refine E_ret rfl rfl ?_
      exact mq_in hS hi rfl q (by unfold aAbout; rw [cif_pos (by unfold inC; omega)]; (try simp only [Int.toNat_natCast]); rw [if_neg (by omega), if_neg (by omega), if_pos (by omega)]) Co1.rf
    · refine E_valv h_4 ?_
      refine E_s (p' := 96) rfl rfl ?_
      refine E_s (p' := 97) (st' := aA 124 :: _) rfl rfl ?_
      refine E_gA (b := 130) rfl rfl rfl rfl rfl rfl ?_
      refine E_s (p' := 102) (st' := aI ((60 * i + ci : Nat) : Int) :: _) rfl rfl ?_
      refine E_ald (e := 60 * i + ci) (N := 240) (v := ((Cl (S i) ci : Nat) : Int)) rfl rfl (rfl) (by omega) (MR_130 hM (by omega) (by omega)) ?_
      refine E_ret rfl rfl ?_
      exact mq_in hS hi rfl q (by unfold aAbout; rw [cif_pos (by unfold inC; omega)]; (try simp only [Int.toNat_natCast]); rw [if_neg (by omega), if_neg (by omega), if_neg (by omega), if_pos (by omega)]) Co1.rf
    · refine E_valv h_5 ?_
      refine E_s (p' := 104) rfl rfl ?_
      refine E_s (p' := 105) (st' := aA 124 :: _) rfl rfl ?_
      refine E_gA (b := 132) rfl rfl rfl rfl rfl rfl ?_
      refine E_s (p' := 110) (st' := aI ((60 * i + ci : Nat) : Int) :: _) rfl rfl ?_
      refine E_ald (e := 60 * i + ci) (N := 240) (v := ((Ck (S i) ci : Nat) : Int)) rfl rfl (rfl) (by omega) (MR_132 hM (by omega) (by omega)) ?_
      refine E_ret rfl rfl ?_
      exact mq_in hS hi rfl q (by unfold aAbout; rw [cif_pos (by unfold inC; omega)]; (try simp only [Int.toNat_natCast]); rw [if_neg (by omega), if_neg (by omega), if_neg (by omega), if_neg (by omega), if_pos (by omega)]) Co1.rf
    · refine E_valv h_6 ?_
      refine E_s (p' := 112) rfl rfl ?_
      refine E_s (p' := 113) (st' := aA 124 :: _) rfl rfl ?_
      refine E_gA (b := 131) rfl rfl rfl rfl rfl rfl ?_
      refine E_s (p' := 118) (st' := aI ((60 * i + ci : Nat) : Int) :: _) rfl rfl ?_
      refine E_ald (e := 60 * i + ci) (N := 240) (v := (((Ctz (S i) ci)))) rfl rfl (rfl) (by omega) (MR_131 hM (by omega) (by omega)) ?_
      refine E_ret rfl rfl ?_
      exact mq_in hS hi rfl q (by unfold aAbout; rw [cif_pos (by unfold inC; omega)]; (try simp only [Int.toNat_natCast]); rw [if_neg (by omega), if_neg (by omega), if_neg (by omega), if_neg (by omega), if_neg (by omega), if_pos (by omega)]) Co1.rf
    · refine E_valv h_7 ?_
      refine E_s (p' := 120) rfl rfl ?_
      refine E_s (p' := 121) (st' := aA 124 :: _) rfl rfl ?_
      refine E_s (p' := 123) (st' := aI ((60 * i + ci : Nat) : Int) :: _) rfl rfl ?_
      refine E_callV (k' := 146) (a := 124) (r := []) (L0 := [some (aA 124), some (aI ((60 * i + ci : Nat) : Int)), none, none, none]) rfl rfl rfl rfl rfl rfl rfl rfl rfl rfl ?_
      refine m_cluster hi hM hV (c := ci) hcc (fun m1 J1 J2 => ?_)
      refine E_go (p' := 126) (L' := [some (aA 124), some (aI ((i : Nat) : Int)), some (aI ((ci : Nat) : Int)), some (aI (w)), some (aI ((60 * i + ci : Nat) : Int)), some (aI 0), none]) (st' := []) rfl rfl rfl ?_
      have hF1 : FrM m m1 := fun b z g1 g2 => J2 b z (by omega) (by omega)
      have hS1 := hF1.MS hS
      have hC1 := hF1.Co1
      refine E_s (p' := 127) (st' := aA 124 :: _) rfl rfl ?_
      refine E_gI (v := (((clsA (S i) ci).length : Nat) : Int)) rfl rfl rfl rfl J1.1 ?_
      refine E_ret rfl rfl ?_
      exact mq_in hS1 hi rfl q (by unfold aAbout; rw [cif_pos (by unfold inC; omega)]; (try simp only [Int.toNat_natCast]); rw [if_neg (by omega), if_neg (by omega), if_neg (by omega), if_neg (by omega), if_neg (by omega), if_neg (by omega), if_pos (by omega)]) hC1
    · refine E_valv h_8 ?_
      refine E_s (p' := 131) rfl rfl ?_
      refine E_s (p' := 132) (st' := aA 124 :: _) rfl rfl ?_
      refine E_s (p' := 133) (st' := aI ((i : Nat) : Int) :: _) rfl rfl ?_
      refine E_callV (k' := 147) (a := 124) (r := []) (L0 := [some (aA 124), some (aI ((i : Nat) : Int)), none, none]) rfl rfl rfl rfl rfl rfl rfl rfl rfl rfl ?_
      refine m_read hi hM hV (fun m1 K1 hd => ?_)
      refine E_go (p' := 136) (L' := [some (aA 124), some (aI ((i : Nat) : Int)), some (aI ((ci : Nat) : Int)), some (aI (w)), some (aI ((60 * i + ci : Nat) : Int)), some (aI 0), none]) (st' := [aI (bi (decide (0 < RL (S i))))]) rfl rfl rfl ?_
      have hS1 := K1.MS hS
      have hC1 := K1.Co1
      have hM1 := K1.MR hM
      refine E_s (p' := 137) rfl rfl ?_
      refine E_s (p' := 138) (st' := aA 124 :: _) rfl rfl ?_
      refine E_s (p' := 140) (st' := aI ((60 * i + ci : Nat) : Int) :: _) rfl rfl ?_
      refine E_callV (k' := 148) (a := 124) (r := []) (L0 := [some (aA 124), some (aI ((60 * i + ci : Nat) : Int)), none, none]) rfl rfl rfl rfl rfl rfl rfl rfl rfl rfl ?_
      refine m_readCord hi hM1 hV (c := ci) hcc hd (fun m2 K2 hd2 K3 K4 K5 => ?_)
      refine E_go (p' := 143) (L' := [some (aA 124), some (aI ((i : Nat) : Int)), some (aI ((ci : Nat) : Int)), some (aI (w)), some (aI ((60 * i + ci : Nat) : Int)), some (aI 0), none]) (st' := []) rfl rfl rfl ?_
      have hS2 := K2.MS hS1
      have hC2 : Co1 m m2 := (K1.tr K2).Co1
      have hfb := Rft_b (S i) ci
      have hvb := Rvl_c hV hcc
      have htd := Rtd_n (R := S i) (c := ci)
      refine E_s (p' := 144) (st' := aA 124 :: _) rfl rfl ?_
      refine E_gI (v := ((Rft (S i) ci : Nat) : Int)) rfl rfl rfl rfl K3 ?_
      refine E_ret rfl rfl ?_
      exact mq_in hS2 hi rfl q (by unfold aAbout; rw [cif_pos (by unfold inC; omega)]; (try simp only [Int.toNat_natCast]); rw [if_neg (by omega), if_neg (by omega), if_neg (by omega), if_neg (by omega), if_neg (by omega), if_neg (by omega), if_neg (by omega), if_pos (by omega)]) hC2
    · refine E_valv h_9 ?_
      refine E_s (p' := 148) rfl rfl ?_
      refine E_s (p' := 149) (st' := aI 0 :: _) rfl rfl ?_
      refine E_s (p' := 151) (L' := [some (aA 124), some (aI ((i : Nat) : Int)), some (aI ((ci : Nat) : Int)), some (aI (w)), some (aI ((60 * i + ci : Nat) : Int)), some (aI 0), some (aI 0)]) rfl rfl ?_
      exact yl_ab8 hi hM hV (mq_in hS hi rfl q (by unfold aAbout; rw [cif_pos (by unfold inC; omega)]; (try simp only [Int.toNat_natCast]); rw [if_neg (by omega), if_neg (by omega), if_neg (by omega), if_neg (by omega), if_neg (by omega), if_neg (by omega), if_neg (by omega), if_neg (by omega), if_pos (by omega)]) Co1.rf) (Cn (S i) + 1) 0 0 (by omega) (by omega) rfl
    · refine E_tabO rfl (by omega) (by decide) ?_
      refine E_go (p' := 197) (L' := [some (aA 124), some (aI ((i : Nat) : Int)), some (aI ((ci : Nat) : Int)), some (aI (w)), some (aI ((60 * i + ci : Nat) : Int)), some (aI 0), none]) (st' := []) rfl rfl rfl ?_
      refine E_s (p' := 198) (st' := aI (-1) :: _) rfl rfl ?_
      refine E_ret rfl rfl ?_
      exact mq_in hS hi rfl q (by unfold aAbout; rw [cif_pos (by unfold inC; omega)]; (try simp only [Int.toNat_natCast]); rw [if_neg (by omega), if_neg (by omega), if_neg (by omega), if_neg (by omega), if_neg (by omega), if_neg (by omega), if_neg (by omega), if_neg (by omega), if_neg (by omega)]) Co1.rf
  · refine E_go (p' := 6) (L' := [some (aA 124), some (aI (r)), some (aI (c)), some (aI (w)), none, none, none]) (st' := [aI 0]) rfl rfl rfl ?_
    refine E_s (p' := 9) rfl rfl ?_
    refine E_s (p' := 10) (st' := aI (-1) :: _) rfl rfl ?_
    refine E_ret rfl rfl ?_
    rcases hno with hr | ⟨i, hi, hr, hno⟩
    · exact mq_out hS q hr
    · exact mq_in hS hi hr q (by unfold aAbout; rw [cif_neg (hno)]) Co1.rf
theorem M_count (hS : MS S m) (q : ∀ m1, MS S m1 → Co1 m m1 → Q (some (aI (qy S r (-1) (aCount w)))) (m1, tl len)) : E 182 0 [some (aA 124), some (aI (r)), some (aI (w)), none, none] [] (m, tl len) Q := by
  refine E_s (p' := 1) (st' := aI (r) :: _) rfl rfl ?_
  refine E_callL (p' := 4) (L0 := [some (aI (r))]) rfl rfl rfl ?_
  refine m_isRecord (fun i hi hr => ?_) (fun hr => ?_)
  · refine E_go (p' := 4) (L' := [some (aA 124), some (aI (r)), some (aI (w)), none, none]) (st' := [aI 1]) rfl rfl rfl ?_
    obtain ⟨hV, hM⟩ := hS i hi
    have hn60 := hV.1
    have hs40 := hV.2.2.2.2.1
    subst hr
    refine E_s (p' := 9) rfl rfl ?_
    refine E_s (p' := 10) (st' := aI 0 :: _) rfl rfl ?_
    refine E_s (p' := 11) (L' := [some (aA 124), some (aI ((i : Nat) : Int)), some (aI (w)), some (aI 0), none]) rfl rfl ?_
    refine E_s (p' := 12) (st' := aI (w) :: _) rfl rfl ?_
    rcases (show (w) = 0 ∨ (w) = 1 ∨ (w) = 2 ∨ (w) = 3 ∨ (w) = 4 ∨ (w) = 5 ∨ (w) = 6 ∨ ((w) ≠ 0 ∧ (w) ≠ 1 ∧ (w) ≠ 2 ∧ (w) ≠ 3 ∧ (w) ≠ 4 ∧ (w) ≠ 5 ∧ (w) ≠ 6) by omega) with h_1 | h_2 | h_3 | h_4 | h_5 | h_6 | h_7 | h_8
    · refine E_valv h_1 ?_
      refine E_s (p' := 56) rfl rfl ?_
      refine E_s (p' := 57) (st' := aA 124 :: _) rfl rfl ?_
      refine E_gA (b := 125) rfl rfl rfl rfl rfl rfl ?_
      refine E_s (p' := 61) (st' := aI ((i : Nat) : Int) :: _) rfl rfl ?_
      refine E_ald (e := i) (N := 4) (v := ((Cn (S i) : Nat) : Int)) rfl rfl (rfl) (by omega) (MR_125 hM) ?_
      refine E_ret rfl rfl ?_
      exact mq_in hS hi rfl q (by unfold aCount; rw [if_pos (by omega)]) Co1.rf
    · refine E_valv h_2 ?_
      refine E_s (p' := 63) rfl rfl ?_
      refine E_s (p' := 64) (st' := aI 0 :: _) rfl rfl ?_
      refine E_s (p' := 66) (L' := [some (aA 124), some (aI ((i : Nat) : Int)), some (aI (w)), some (aI 0), some (aI 0)]) rfl rfl ?_
      exact yl_ct1 hi hM hV (mq_in hS hi rfl q (by unfold aCount; rw [if_neg (by omega), if_pos (by omega)]) Co1.rf) (Cn (S i) + 1) 0 0 (by omega) (by omega) rfl
    · refine E_valv h_3 ?_
      refine E_s (p' := 100) rfl rfl ?_
      refine E_s (p' := 101) (st' := aA 124 :: _) rfl rfl ?_
      refine E_gA (b := 136) rfl rfl rfl rfl rfl rfl ?_
      refine E_s (p' := 105) (st' := aI ((i : Nat) : Int) :: _) rfl rfl ?_
      refine E_ald (e := i) (N := 4) (v := ((Sn (S i) : Nat) : Int)) rfl rfl (rfl) (by omega) (MR_136 hM) ?_
      refine E_ret rfl rfl ?_
      exact mq_in hS hi rfl q (by unfold aCount; rw [if_neg (by omega), if_neg (by omega), if_pos (by omega)]) Co1.rf
    · refine E_valv h_4 ?_
      refine E_s (p' := 107) rfl rfl ?_
      refine E_s (p' := 108) (st' := aA 124 :: _) rfl rfl ?_
      refine E_gA (b := 126) rfl rfl rfl rfl rfl rfl ?_
      refine E_s (p' := 112) (st' := aI ((i : Nat) : Int) :: _) rfl rfl ?_
      refine E_ald (e := i) (N := 4) (v := ((Cq (S i) : Nat) : Int)) rfl rfl (rfl) (by omega) (MR_126 hM) ?_
      refine E_ret rfl rfl ?_
      exact mq_in hS hi rfl q (by unfold aCount; rw [if_neg (by omega), if_neg (by omega), if_neg (by omega), if_pos (by omega)]) Co1.rf
    · refine E_valv h_5 ?_
      refine E_s (p' := 114) rfl rfl ?_
      refine E_s (p' := 115) (st' := aI 0 :: _) rfl rfl ?_
      refine E_s (p' := 117) (L' := [some (aA 124), some (aI ((i : Nat) : Int)), some (aI (w)), some (aI 0), some (aI 0)]) rfl rfl ?_
      exact yl_ct4 hi hM hV (mq_in hS hi rfl q (by unfold aCount; rw [if_neg (by omega), if_neg (by omega), if_neg (by omega), if_neg (by omega), if_pos (by omega)]) Co1.rf) (Cn (S i) + 1) 0 0 (by omega) (by omega) rfl
    · refine E_valv h_6 ?_
      refine E_s (p' := 160) rfl rfl ?_
      refine E_s (p' := 161) (st' := aA 124 :: _) rfl rfl ?_
      refine E_s (p' := 162) (st' := aI ((i : Nat) : Int) :: _) rfl rfl ?_
      refine E_s (p' := 163) (st' := aA 124 :: _) rfl rfl ?_
      refine E_gA (b := 148) rfl rfl rfl rfl rfl rfl ?_
      refine E_callV (k' := 157) (a := 124) (r := []) (L0 := [some (aA 124), some (aI ((i : Nat) : Int)), some (aA 148), none]) rfl rfl rfl rfl rfl rfl rfl rfl rfl rfl ?_
      refine m_readAll hi (Or.inl rfl) hM hV (fun m1 K1 K2 K3 => ?_)
      refine E_go (p' := 169) (L' := [some (aA 124), some (aI ((i : Nat) : Int)), some (aI (w)), some (aI 0), none]) (st' := []) rfl rfl rfl ?_
      have hS1 := K1.MS (by decide) hS
      have hC1 := K1.Co1 (Or.inl rfl)
      have hM1 := (hS1 i hi).2
      refine E_s (p' := 170) (st' := aI 0 :: _) rfl rfl ?_
      refine E_s (p' := 172) (L' := [some (aA 124), some (aI ((i : Nat) : Int)), some (aI (w)), some (aI 0), some (aI 0)]) rfl rfl ?_
      exact yl_ct5 hi hM1 hV K3 (mq_in hS1 hi rfl q (by unfold aCount; rw [if_neg (by omega), if_neg (by omega), if_neg (by omega), if_neg (by omega), if_neg (by omega), if_pos (by omega)]) hC1) (Cn (S i) + 1) 0 0 (by omega) (by omega) rfl
    · refine E_valv h_7 ?_
      refine E_s (p' := 209) rfl rfl ?_
      refine E_s (p' := 210) (st' := aI 0 :: _) rfl rfl ?_
      refine E_s (p' := 212) (L' := [some (aA 124), some (aI ((i : Nat) : Int)), some (aI (w)), some (aI 0), some (aI 0)]) rfl rfl ?_
      exact yl_ct6 hi hM hV (mq_in hS hi rfl q (by unfold aCount; rw [if_neg (by omega), if_neg (by omega), if_neg (by omega), if_neg (by omega), if_neg (by omega), if_neg (by omega), if_pos (by omega)]) Co1.rf) (Cn (S i) + 1) 0 0 (by omega) (by omega) rfl
    · refine E_tabO rfl (by omega) (by decide) ?_
      refine E_go (p' := 255) (L' := [some (aA 124), some (aI ((i : Nat) : Int)), some (aI (w)), some (aI 0), none]) (st' := []) rfl rfl rfl ?_
      refine E_s (p' := 256) (st' := aI (-1) :: _) rfl rfl ?_
      refine E_ret rfl rfl ?_
      exact mq_in hS hi rfl q (by unfold aCount; rw [if_neg (by omega), if_neg (by omega), if_neg (by omega), if_neg (by omega), if_neg (by omega), if_neg (by omega), if_neg (by omega)]) Co1.rf
  · refine E_go (p' := 4) (L' := [some (aA 124), some (aI (r)), some (aI (w)), none, none]) (st' := [aI 0]) rfl rfl rfl ?_
    refine E_s (p' := 7) rfl rfl ?_
    refine E_s (p' := 8) (st' := aI (-1) :: _) rfl rfl ?_
    refine E_ret rfl rfl ?_
    exact mq_out hS q hr
theorem yl_mun (hi : i < 4) (hM : MR R i m) (hV : VR R) (hcc : ci < Cn R) (hnm : ∀ d, d < Cn R → m 148 d = Rtd R d) (q1 : unB R ci (Cn R) = 0 → Q (some (aI (unS R ci (Cn R) : Int))) (m, tl len)) (q0 : unB R ci (Cn R) ≠ 0 → Q (some (aI (-1))) (m, tl len)) : ∀ (d : Nat) (e w : Nat), (Cn R < e + d) → (e ≤ Cn R) → (w = unS R ci e) → (unB R ci e = 0) → E 156 25 [some (aA 124), some (aI ((i : Nat) : Int)), some (aI ((ci : Nat) : Int)), some (aI ((w : Nat) : Int)), some (aI ((e : Nat) : Int))] [] (m, tl len) Q := by
  intro d
  induction d with
  | zero => intro e w hd he hw hb; omega
  | succ d ih =>
    intro e w hd he hw hb
    have hn60 := hV.1
    have hwb : w ≤ 27000000 * e := by rw [hw]; exact unS_b hV he
    refine E_s (p' := 27) (st' := aI ((e : Nat) : Int) :: _) rfl rfl ?_
    refine E_s (p' := 28) (st' := aA 124 :: _) rfl rfl ?_
    refine E_gA (b := 125) rfl rfl rfl rfl rfl rfl ?_
    refine E_s (p' := 32) (st' := aI ((i : Nat) : Int) :: _) rfl rfl ?_
    refine E_ald (e := i) (N := 4) (v := ((Cn R : Nat) : Int)) rfl rfl (rfl) (by omega) (MR_125 hM) ?_
    refine E_icmp_ge (x := ((e : Nat) : Int)) (y := ((Cn R : Nat) : Int)) rfl (by decide) (fun h_1 => ?_) (fun h_1 => ?_)
    · refine E_go (p' := 83) (L' := [some (aA 124), some (aI ((i : Nat) : Int)), some (aI ((ci : Nat) : Int)), some (aI ((w : Nat) : Int)), some (aI ((e : Nat) : Int))]) (st' := []) rfl rfl rfl ?_
      refine E_s (p' := 84) (st' := aI ((w : Nat) : Int) :: _) rfl rfl ?_
      refine E_ret rfl rfl ?_
      have ee : e = Cn R := by omega
      rw [ee] at hw hb
      rw [← hw] at q1
      exact q1 hb
    · refine E_go (p' := 36) (L' := [some (aA 124), some (aI ((i : Nat) : Int)), some (aI ((ci : Nat) : Int)), some (aI ((w : Nat) : Int)), some (aI ((e : Nat) : Int))]) (st' := []) rfl rfl rfl ?_
      refine E_s (p' := 37) (st' := aA 124 :: _) rfl rfl ?_
      refine E_gA (b := 128) rfl rfl rfl rfl rfl rfl ?_
      refine E_s (p' := 42) (st' := aI 60 :: _) rfl rfl ?_
      refine E_s (p' := 43) (st' := aI ((i : Nat) : Int) :: _) rfl rfl ?_
      refine E_mul (v := ((60 * i : Nat) : Int)) rfl (by omega) (by omega) ?_
      refine E_s (p' := 46) (st' := aI ((e : Nat) : Int) :: _) rfl rfl ?_
      refine E_add (v := ((60 * i + e : Nat) : Int)) rfl (by omega) (by omega) ?_
      refine E_ald (e := 60 * i + e) (N := 240) (v := ((Co R e))) rfl rfl (rfl) (by omega) (MR_128 hM (by omega) (by omega)) ?_
      refine E_s (p' := 49) (st' := aI ((ci : Nat) : Int) :: _) rfl rfl ?_
      refine E_icmp_eq (x := ((Co R e))) (y := ((ci : Nat) : Int)) rfl (by decide) (fun h_2 => ?_) (fun h_2 => ?_)
      · refine E_go (p' := 55) (L' := [some (aA 124), some (aI ((i : Nat) : Int)), some (aI ((ci : Nat) : Int)), some (aI ((w : Nat) : Int)), some (aI ((e : Nat) : Int))]) (st' := []) rfl rfl rfl ?_
        refine E_s (p' := 56) (st' := aA 124 :: _) rfl rfl ?_
        refine E_s (p' := 57) (st' := aI ((i : Nat) : Int) :: _) rfl rfl ?_
        refine E_s (p' := 59) (st' := aI ((e : Nat) : Int) :: _) rfl rfl ?_
        refine E_callV (k' := 158) (a := 124) (r := []) (L0 := [some (aA 124), some (aI ((i : Nat) : Int)), some (aI ((e : Nat) : Int))]) rfl rfl rfl rfl rfl rfl rfl rfl rfl rfl ?_
        refine m_isSure hi hM hV (c := e) (by omega) (hnm _ (by omega)) (fun hs1 hs2 => ?_) (fun hs0 => ?_)
        · refine E_go (p' := 62) (L' := [some (aA 124), some (aI ((i : Nat) : Int)), some (aI ((ci : Nat) : Int)), some (aI ((w : Nat) : Int)), some (aI ((e : Nat) : Int))]) (st' := [aI 1]) rfl rfl rfl ?_
          refine E_s (p' := 67) rfl rfl ?_
          have hve := Rvl_c hV (show e < Cn R by omega)
          refine E_s (p' := 68) (st' := aI ((w : Nat) : Int) :: _) rfl rfl ?_
          refine E_s (p' := 69) (st' := aA 124 :: _) rfl rfl ?_
          refine E_gA (b := 148) rfl rfl rfl rfl rfl rfl ?_
          refine E_s (p' := 74) (st' := aI ((e : Nat) : Int) :: _) rfl rfl ?_
          refine E_ald (e := e) (N := 60) (v := ((Rvl R e : Nat) : Int)) rfl rfl (rfl) (by omega) ((hnm _ (by omega)).trans (by have := Rtd_n (R := R) (c := e); omega)) ?_
          refine E_add (v := ((w + Rvl R e : Nat) : Int)) rfl (by omega) (by omega) ?_
          refine E_s (p' := 77) (L' := [some (aA 124), some (aI ((i : Nat) : Int)), some (aI ((ci : Nat) : Int)), some (aI ((w + Rvl R e : Nat) : Int)), some (aI ((e : Nat) : Int))]) rfl rfl ?_
          refine E_inc (x := ((e : Nat) : Int)) (w := ((e + 1 : Nat) : Int)) (L' := [some (aA 124), some (aI ((i : Nat) : Int)), some (aI ((ci : Nat) : Int)), some (aI ((w + Rvl R e : Nat) : Int)), some (aI ((e + 1 : Nat) : Int))]) rfl rfl rfl (by omega) (by omega) rfl ?_
          refine E_s (p' := 25) rfl rfl ?_
          refine ih (e + 1) _ (by omega) (by omega) ?_ ?_
          · rw [hw]; show _ = sumN _ e + (bif decide (Co R e = (ci : Int)) then Rvl R e else 0); rw [decide_eq_true (p := Co R e = (ci : Int)) (by omega)]; rfl
          · show cntN _ e + bn (decide (Co R e = (ci : Int)) && !sdR R e) = 0; rw [decide_eq_true (p := Co R e = (ci : Int)) (by omega), sdR_t hs1 hs2]; exact hb
        · refine E_go (p' := 62) (L' := [some (aA 124), some (aI ((i : Nat) : Int)), some (aI ((ci : Nat) : Int)), some (aI ((w : Nat) : Int)), some (aI ((e : Nat) : Int))]) (st' := [aI 0]) rfl rfl rfl ?_
          refine E_s (p' := 65) rfl rfl ?_
          refine E_s (p' := 66) (st' := aI (-1) :: _) rfl rfl ?_
          refine E_ret rfl rfl ?_
          exact q0 (cntN_pos (i := e) (by omega) (by show (decide (Co R e = (ci : Int)) && !sdR R e) = true; rw [decide_eq_true (p := Co R e = (ci : Int)) (by omega), sdR_f hs0]; rfl))
      · refine E_go (p' := 52) (L' := [some (aA 124), some (aI ((i : Nat) : Int)), some (aI ((ci : Nat) : Int)), some (aI ((w : Nat) : Int)), some (aI ((e : Nat) : Int))]) (st' := []) rfl rfl rfl ?_
        refine E_s (p' := 77) rfl rfl ?_
        refine E_inc (x := ((e : Nat) : Int)) (w := ((e + 1 : Nat) : Int)) (L' := [some (aA 124), some (aI ((i : Nat) : Int)), some (aI ((ci : Nat) : Int)), some (aI ((w : Nat) : Int)), some (aI ((e + 1 : Nat) : Int))]) rfl rfl rfl (by omega) (by omega) rfl ?_
        refine E_s (p' := 25) rfl rfl ?_
        refine ih (e + 1) _ (by omega) (by omega) ?_ ?_
        · rw [hw]; show _ = sumN _ e + (bif decide (Co R e = (ci : Int)) then Rvl R e else 0); rw [decide_eq_false (p := Co R e = (ci : Int)) (by omega)]; rfl
        · show cntN _ e + bn (decide (Co R e = (ci : Int)) && !sdR R e) = 0; rw [decide_eq_false (p := Co R e = (ci : Int)) (by omega)]; exact hb
theorem M_under (hS : MS S m) (q : ∀ m1, MS S m1 → Co1 m m1 → Q (some (aI (qy S r (-1) (aUnder c)))) (m1, tl len)) : E 156 0 [some (aA 124), some (aI (r)), some (aI (c)), none, none] [] (m, tl len) Q := by
  refine E_s (p' := 1) (st' := aA 124 :: _) rfl rfl ?_
  refine E_s (p' := 2) (st' := aI (r) :: _) rfl rfl ?_
  refine E_s (p' := 3) (st' := aI (c) :: _) rfl rfl ?_
  refine E_callV (k' := 135) (a := 124) (r := []) (L0 := [some (aA 124), some (aI (r)), some (aI (c))]) rfl rfl rfl rfl rfl rfl rfl rfl rfl rfl ?_
  refine m_isCord hS (fun i ci hi hr hc hcc => ?_) (fun hno => ?_)
  · refine E_go (p' := 6) (L' := [some (aA 124), some (aI (r)), some (aI (c)), none, none]) (st' := [aI 1]) rfl rfl rfl ?_
    obtain ⟨hV, hM⟩ := hS i hi
    have hn60 := hV.1
    have hs40 := hV.2.2.2.2.1
    subst hr hc
    refine E_s (p' := 11) rfl rfl ?_
    refine E_s (p' := 12) (st' := aA 124 :: _) rfl rfl ?_
    refine E_s (p' := 13) (st' := aI ((i : Nat) : Int) :: _) rfl rfl ?_
    refine E_s (p' := 14) (st' := aA 124 :: _) rfl rfl ?_
    refine E_gA (b := 148) rfl rfl rfl rfl rfl rfl ?_
    refine E_callV (k' := 157) (a := 124) (r := []) (L0 := [some (aA 124), some (aI ((i : Nat) : Int)), some (aA 148), none]) rfl rfl rfl rfl rfl rfl rfl rfl rfl rfl ?_
    refine m_readAll hi (Or.inl rfl) hM hV (fun m1 K1 K2 K3 => ?_)
    refine E_go (p' := 20) (L' := [some (aA 124), some (aI ((i : Nat) : Int)), some (aI ((ci : Nat) : Int)), none, none]) (st' := []) rfl rfl rfl ?_
    have hS1 := K1.MS (by decide) hS
    have hC1 := K1.Co1 (Or.inl rfl)
    have hM1 := (hS1 i hi).2
    refine E_s (p' := 21) (st' := aI 0 :: _) rfl rfl ?_
    refine E_s (p' := 22) (L' := [some (aA 124), some (aI ((i : Nat) : Int)), some (aI ((ci : Nat) : Int)), some (aI 0), none]) rfl rfl ?_
    refine E_s (p' := 23) (st' := aI 0 :: _) rfl rfl ?_
    refine E_s (p' := 25) (L' := [some (aA 124), some (aI ((i : Nat) : Int)), some (aI ((ci : Nat) : Int)), some (aI 0), some (aI 0)]) rfl rfl ?_
    exact yl_mun hi hM1 hV hcc K3 (fun g9 => mq_in hS1 hi rfl q (by unfold aUnder; rw [cif_pos ⟨by unfold inC; omega, g9⟩]) hC1) (fun g9 => mq_in hS1 hi rfl q (by unfold aUnder; rw [cif_neg (fun h9 => g9 h9.2)]) hC1) (Cn (S i) + 1) 0 0 (by omega) (by omega) rfl rfl
  · refine E_go (p' := 6) (L' := [some (aA 124), some (aI (r)), some (aI (c)), none, none]) (st' := [aI 0]) rfl rfl rfl ?_
    refine E_s (p' := 9) rfl rfl ?_
    refine E_s (p' := 10) (st' := aI (-1) :: _) rfl rfl ?_
    refine E_ret rfl rfl ?_
    rcases hno with hr | ⟨i, hi, hr, hno⟩
    · exact mq_out hS q hr
    · exact mq_in hS hi hr q (by unfold aUnder; rw [cif_neg (fun g9 => hno g9.1)]) Co1.rf
theorem yl_mks (hi : i < 4) (hM : MR R i m) (hV : VR R) {sn : Nat} (hs : sn < Sn R) (hnm : ∀ d, d < Cn R → m 148 d = Rtd R d) (h2 : 2 ≤ Sp R sn) (hsd : sdR R (Sw R sn) = true) (q : Q (some (aI (kps R sn))) (m, tl len)) : ∀ (d : Nat) (p v : Nat) (x7 : Option AV), (Sp R sn < p + d) → (p ≤ Sp R sn) → (v = spS R sn p) → (spB R sn p = 0) → E 164 147 [some (aA 124), some (aI ((i : Nat) : Int)), some (aI ((sn : Nat) : Int)), some (aI (w)), some (aI ((40 * i + sn : Nat) : Int)), some (aI ((v : Nat) : Int)), some (aI ((p : Nat) : Int)), x7] [] (m, tl len) Q := by
  intro d
  induction d with
  | zero => intro p v x7 hd hp hw hb; omega
  | succ d ih =>
    intro p v x7 hd hp hw hb
    have hn60 := hV.1
    have hs40 := hV.2.2.2.2.1
    have hp12 := (hV.2.2.2.2.2.1 sn hs).2
    have hwn := (hV.2.2.2.2.2.1 sn hs).1
    have hwb : v ≤ 27000000 * p := by rw [hw]; exact spS_b hV hs hp
    have hwf : Rft R (Sw R sn) = 0 := by unfold sdR at hsd; rw [Bool.and_eq_true] at hsd; exact of_decide_eq_true hsd.2
    refine E_s (p' := 149) (st' := aI ((p : Nat) : Int) :: _) rfl rfl ?_
    refine E_s (p' := 150) (st' := aA 124 :: _) rfl rfl ?_
    refine E_gA (b := 138) rfl rfl rfl rfl rfl rfl ?_
    refine E_s (p' := 155) (st' := aI ((40 * i + sn : Nat) : Int) :: _) rfl rfl ?_
    refine E_ald (e := 40 * i + sn) (N := 160) (v := ((Sp R sn : Nat) : Int)) rfl rfl (rfl) (by omega) (MR_138 hM (by omega) (by omega)) ?_
    refine E_icmp_ge (x := ((p : Nat) : Int)) (y := ((Sp R sn : Nat) : Int)) rfl (by decide) (fun h_1 => ?_) (fun h_1 => ?_)
    · refine E_go (p' := 204) (L' := [some (aA 124), some (aI ((i : Nat) : Int)), some (aI ((sn : Nat) : Int)), some (aI (w)), some (aI ((40 * i + sn : Nat) : Int)), some (aI ((v : Nat) : Int)), some (aI ((p : Nat) : Int)), x7]) (st' := []) rfl rfl rfl ?_
      refine E_s (p' := 206) (st' := aI ((v : Nat) : Int) :: _) rfl rfl ?_
      refine E_s (p' := 207) (st' := aA 124 :: _) rfl rfl ?_
      refine E_gA (b := 148) rfl rfl rfl rfl rfl rfl ?_
      refine E_s (p' := 211) (st' := aA 124 :: _) rfl rfl ?_
      refine E_gA (b := 137) rfl rfl rfl rfl rfl rfl ?_
      refine E_s (p' := 216) (st' := aI ((40 * i + sn : Nat) : Int) :: _) rfl rfl ?_
      refine E_ald (e := 40 * i + sn) (N := 160) (v := ((Sw R sn : Nat) : Int)) rfl rfl (rfl) (by omega) (MR_137 hM (by omega) (by omega)) ?_
      refine E_ald (e := Sw R sn) (N := 60) (v := ((Rvl R (Sw R sn) : Nat) : Int)) rfl rfl (rfl) (by omega) ((hnm _ (by omega)).trans (by have := Rtd_n (R := R) (c := Sw R sn); omega)) ?_
      refine E_icmp_ne (x := ((v : Nat) : Int)) (y := ((Rvl R (Sw R sn) : Nat) : Int)) rfl (by decide) (fun h_2 => ?_) (fun h_2 => ?_)
      · refine E_go (p' := 225) (L' := [some (aA 124), some (aI ((i : Nat) : Int)), some (aI ((sn : Nat) : Int)), some (aI (w)), some (aI ((40 * i + sn : Nat) : Int)), some (aI ((v : Nat) : Int)), some (aI ((p : Nat) : Int)), x7]) (st' := []) rfl rfl rfl ?_
        refine E_s (p' := 226) (st' := aI 0 :: _) rfl rfl ?_
        refine E_ret rfl rfl ?_
        have ep : p = Sp R sn := by omega
        rw [ep] at hw hb
        rw [show kps R sn = 0 by unfold kps; rw [cif_pos ⟨h2, hsd, hb⟩, ← hw, if_neg (by omega)]] at q
        exact q
      · refine E_go (p' := 221) (L' := [some (aA 124), some (aI ((i : Nat) : Int)), some (aI ((sn : Nat) : Int)), some (aI (w)), some (aI ((40 * i + sn : Nat) : Int)), some (aI ((v : Nat) : Int)), some (aI ((p : Nat) : Int)), x7]) (st' := []) rfl rfl rfl ?_
        refine E_s (p' := 222) (st' := aI 1 :: _) rfl rfl ?_
        refine E_s (p' := 226) rfl rfl ?_
        refine E_ret rfl rfl ?_
        have ep : p = Sp R sn := by omega
        rw [ep] at hw hb
        rw [show kps R sn = 1 by unfold kps; rw [cif_pos ⟨h2, hsd, hb⟩, ← hw, if_pos (by omega)]] at q
        exact q
    · refine E_go (p' := 159) (L' := [some (aA 124), some (aI ((i : Nat) : Int)), some (aI ((sn : Nat) : Int)), some (aI (w)), some (aI ((40 * i + sn : Nat) : Int)), some (aI ((v : Nat) : Int)), some (aI ((p : Nat) : Int)), x7]) (st' := []) rfl rfl rfl ?_
      have hsq := hV.2.2.2.2.2.2 sn p hs (show p < Sp R sn by omega)
      have hve := Rvl_c hV hsq
      refine E_s (p' := 160) (st' := aA 124 :: _) rfl rfl ?_
      refine E_gA (b := 139) rfl rfl rfl rfl rfl rfl ?_
      refine E_s (p' := 165) (st' := aI 12 :: _) rfl rfl ?_
      refine E_s (p' := 167) (st' := aI ((40 * i + sn : Nat) : Int) :: _) rfl rfl ?_
      refine E_mul (v := ((480 * i + 12 * sn : Nat) : Int)) rfl (by omega) (by omega) ?_
      refine E_s (p' := 170) (st' := aI ((p : Nat) : Int) :: _) rfl rfl ?_
      refine E_add (v := ((480 * i + 12 * sn + p : Nat) : Int)) rfl (by omega) (by omega) ?_
      refine E_ald (e := 480 * i + 12 * sn + p) (N := 1920) (v := ((Sq R sn p : Nat) : Int)) rfl rfl (rfl) (by omega) (MR_139 hM (by omega) (by omega) (by omega)) ?_
      refine E_s (p' := 174) (L' := [some (aA 124), some (aI ((i : Nat) : Int)), some (aI ((sn : Nat) : Int)), some (aI (w)), some (aI ((40 * i + sn : Nat) : Int)), some (aI ((v : Nat) : Int)), some (aI ((p : Nat) : Int)), some (aI ((Sq R sn p : Nat) : Int))]) rfl rfl ?_
      refine E_s (p' := 175) (st' := aA 124 :: _) rfl rfl ?_
      refine E_s (p' := 176) (st' := aI ((i : Nat) : Int) :: _) rfl rfl ?_
      refine E_s (p' := 178) (st' := aI ((Sq R sn p : Nat) : Int) :: _) rfl rfl ?_
      refine E_callV (k' := 158) (a := 124) (r := []) (L0 := [some (aA 124), some (aI ((i : Nat) : Int)), some (aI ((Sq R sn p : Nat) : Int))]) rfl rfl rfl rfl rfl rfl rfl rfl rfl rfl ?_
      refine m_isSure hi hM hV (c := Sq R sn p) (by omega) (hnm _ (by omega)) (fun hs1 hs2 => ?_) (fun hs0 => ?_)
      · refine E_go (p' := 181) (L' := [some (aA 124), some (aI ((i : Nat) : Int)), some (aI ((sn : Nat) : Int)), some (aI (w)), some (aI ((40 * i + sn : Nat) : Int)), some (aI ((v : Nat) : Int)), some (aI ((p : Nat) : Int)), some (aI ((Sq R sn p : Nat) : Int))]) (st' := [aI 1]) rfl rfl rfl ?_
        refine E_s (p' := 186) rfl rfl ?_
        refine E_s (p' := 188) (st' := aI ((v : Nat) : Int) :: _) rfl rfl ?_
        refine E_s (p' := 189) (st' := aA 124 :: _) rfl rfl ?_
        refine E_gA (b := 148) rfl rfl rfl rfl rfl rfl ?_
        refine E_s (p' := 194) (st' := aI ((Sq R sn p : Nat) : Int) :: _) rfl rfl ?_
        refine E_ald (e := Sq R sn p) (N := 60) (v := ((Rvl R (Sq R sn p) : Nat) : Int)) rfl rfl (rfl) (by omega) ((hnm _ (by omega)).trans (by have := Rtd_n (R := R) (c := Sq R sn p); omega)) ?_
        refine E_add (v := ((v + Rvl R (Sq R sn p) : Nat) : Int)) rfl (by omega) (by omega) ?_
        refine E_s (p' := 198) (L' := [some (aA 124), some (aI ((i : Nat) : Int)), some (aI ((sn : Nat) : Int)), some (aI (w)), some (aI ((40 * i + sn : Nat) : Int)), some (aI ((v + Rvl R (Sq R sn p) : Nat) : Int)), some (aI ((p : Nat) : Int)), some (aI ((Sq R sn p : Nat) : Int))]) rfl rfl ?_
        refine E_inc (x := ((p : Nat) : Int)) (w := ((p + 1 : Nat) : Int)) (L' := [some (aA 124), some (aI ((i : Nat) : Int)), some (aI ((sn : Nat) : Int)), some (aI (w)), some (aI ((40 * i + sn : Nat) : Int)), some (aI ((v + Rvl R (Sq R sn p) : Nat) : Int)), some (aI ((p + 1 : Nat) : Int)), some (aI ((Sq R sn p : Nat) : Int))]) rfl rfl rfl (by omega) (by omega) rfl ?_
        refine E_s (p' := 147) rfl rfl ?_
        exact ih (p + 1) _ _ (by omega) (by omega) (by rw [hw]; rfl) (by show cntN _ p + bn (!sdR R (Sq R sn p)) = 0; rw [sdR_t hs1 hs2]; exact hb)
      · refine E_go (p' := 181) (L' := [some (aA 124), some (aI ((i : Nat) : Int)), some (aI ((sn : Nat) : Int)), some (aI (w)), some (aI ((40 * i + sn : Nat) : Int)), some (aI ((v : Nat) : Int)), some (aI ((p : Nat) : Int)), some (aI ((Sq R sn p : Nat) : Int))]) (st' := [aI 0]) rfl rfl rfl ?_
        refine E_s (p' := 184) rfl rfl ?_
        refine E_s (p' := 185) (st' := aI (-1) :: _) rfl rfl ?_
        refine E_ret rfl rfl ?_
        rw [show kps R sn = -1 by unfold kps; rw [cif_neg (fun g9 => absurd g9.2.2 (cntN_pos (i := p) (by omega) (by show (!sdR R (Sq R sn p)) = true; rw [sdR_f hs0]; rfl)))]] at q
        exact q
theorem M_sumAt (hw9 : w ≤ 2147483647) (hS : MS S m) (q : ∀ m1, MS S m1 → Co1 m m1 → Q (some (aI (qy S r (-1) (aSumAt s w)))) (m1, tl len)) : E 164 0 [some (aA 124), some (aI (r)), some (aI (s)), some (aI (w)), none, none, none, none] [] (m, tl len) Q := by
  refine E_s (p' := 1) (st' := aI (r) :: _) rfl rfl ?_
  refine E_callL (p' := 4) (L0 := [some (aI (r))]) rfl rfl rfl ?_
  refine m_isRecord (fun i hi hr => ?_) (fun hr => ?_)
  · refine E_go (p' := 4) (L' := [some (aA 124), some (aI (r)), some (aI (s)), some (aI (w)), none, none, none, none]) (st' := [aI 1]) rfl rfl rfl ?_
    obtain ⟨hV, hM⟩ := hS i hi
    have hn60 := hV.1
    have hs40 := hV.2.2.2.2.1
    subst hr
    refine E_s (p' := 7) rfl rfl ?_
    refine E_s (p' := 8) (st' := aI (s) :: _) rfl rfl ?_
    refine E_s (p' := 9) (st' := aI 0 :: _) rfl rfl ?_
    refine E_s (p' := 10) (st' := aA 124 :: _) rfl rfl ?_
    refine E_gA (b := 136) rfl rfl rfl rfl rfl rfl ?_
    refine E_s (p' := 14) (st' := aI ((i : Nat) : Int) :: _) rfl rfl ?_
    refine E_ald (e := i) (N := 4) (v := ((Sn (S i) : Nat) : Int)) rfl rfl (rfl) (by omega) (MR_136 hM) ?_
    refine E_s (p' := 16) (st' := aI 1 :: _) rfl rfl ?_
    refine E_sub (v := ((Sn (S i) : Int) - 1)) rfl (by omega) (by omega) ?_
    refine E_callL (p' := 20) (L0 := [some (aI (s)), some (aI 0), some (aI ((Sn (S i) : Int) - 1))]) rfl rfl rfl ?_
    refine m_in (fun h_1 h_2 => ?_) (fun h_3 => ?_)
    · refine E_go (p' := 20) (L' := [some (aA 124), some (aI ((i : Nat) : Int)), some (aI (s)), some (aI (w)), none, none, none, none]) (st' := [aI 1]) rfl rfl rfl ?_
      refine E_s (p' := 25) rfl rfl ?_
      obtain ⟨sn, es⟩ : ∃ x : Nat, s = (x : Int) := ⟨s.toNat, by omega⟩
      subst es
      have hp12 := (hV.2.2.2.2.2.1 sn (by omega)).2
      have hwn := (hV.2.2.2.2.2.1 sn (by omega)).1
      refine E_s (p' := 27) (st' := aI 40 :: _) rfl rfl ?_
      refine E_s (p' := 28) (st' := aI ((i : Nat) : Int) :: _) rfl rfl ?_
      refine E_mul (v := ((40 * i : Nat) : Int)) rfl (by omega) (by omega) ?_
      refine E_s (p' := 30) (st' := aI ((sn : Nat) : Int) :: _) rfl rfl ?_
      refine E_add (v := ((40 * i + sn : Nat) : Int)) rfl (by omega) (by omega) ?_
      refine E_s (p' := 33) (L' := [some (aA 124), some (aI ((i : Nat) : Int)), some (aI ((sn : Nat) : Int)), some (aI (w)), some (aI ((40 * i + sn : Nat) : Int)), none, none, none]) rfl rfl ?_
      refine E_s (p' := 34) (st' := aI (w) :: _) rfl rfl ?_
      refine E_if_ne (x := (w)) rfl (by decide) (fun h_4 => ?_) (fun h_4 => ?_)
      · refine E_go (p' := 45) (L' := [some (aA 124), some (aI ((i : Nat) : Int)), some (aI ((sn : Nat) : Int)), some (aI (w)), some (aI ((40 * i + sn : Nat) : Int)), none, none, none]) (st' := []) rfl rfl rfl ?_
        refine E_s (p' := 46) (st' := aI (w) :: _) rfl rfl ?_
        refine E_s (p' := 47) (st' := aI 1 :: _) rfl rfl ?_
        refine E_icmp_ne (x := (w)) (y := 1) rfl (by decide) (fun h_5 => ?_) (fun h_5 => ?_)
        · refine E_go (p' := 58) (L' := [some (aA 124), some (aI ((i : Nat) : Int)), some (aI ((sn : Nat) : Int)), some (aI (w)), some (aI ((40 * i + sn : Nat) : Int)), none, none, none]) (st' := []) rfl rfl rfl ?_
          refine E_s (p' := 59) (st' := aI (w) :: _) rfl rfl ?_
          refine E_s (p' := 60) (st' := aI 2 :: _) rfl rfl ?_
          refine E_icmp_eq (x := (w)) (y := 2) rfl (by decide) (fun h_6 => ?_) (fun h_6 => ?_)
          · refine E_go (p' := 102) (L' := [some (aA 124), some (aI ((i : Nat) : Int)), some (aI ((sn : Nat) : Int)), some (aI (w)), some (aI ((40 * i + sn : Nat) : Int)), none, none, none]) (st' := []) rfl rfl rfl ?_
            refine E_s (p' := 103) (st' := aA 124 :: _) rfl rfl ?_
            refine E_gA (b := 138) rfl rfl rfl rfl rfl rfl ?_
            refine E_s (p' := 108) (st' := aI ((40 * i + sn : Nat) : Int) :: _) rfl rfl ?_
            refine E_ald (e := 40 * i + sn) (N := 160) (v := ((Sp (S i) sn : Nat) : Int)) rfl rfl (rfl) (by omega) (MR_138 hM (by omega) (by omega)) ?_
            refine E_s (p' := 110) (st' := aI 2 :: _) rfl rfl ?_
            refine E_icmp_ge (x := ((Sp (S i) sn : Nat) : Int)) (y := 2) rfl (by decide) (fun h_7 => ?_) (fun h_7 => ?_)
            · refine E_go (p' := 115) (L' := [some (aA 124), some (aI ((i : Nat) : Int)), some (aI ((sn : Nat) : Int)), some (aI (w)), some (aI ((40 * i + sn : Nat) : Int)), none, none, none]) (st' := []) rfl rfl rfl ?_
              refine E_s (p' := 116) (st' := aA 124 :: _) rfl rfl ?_
              refine E_s (p' := 117) (st' := aI ((i : Nat) : Int) :: _) rfl rfl ?_
              refine E_s (p' := 118) (st' := aA 124 :: _) rfl rfl ?_
              refine E_gA (b := 148) rfl rfl rfl rfl rfl rfl ?_
              refine E_callV (k' := 157) (a := 124) (r := []) (L0 := [some (aA 124), some (aI ((i : Nat) : Int)), some (aA 148), none]) rfl rfl rfl rfl rfl rfl rfl rfl rfl rfl ?_
              refine m_readAll hi (Or.inl rfl) hM hV (fun m1 K1 K2 K3 => ?_)
              refine E_go (p' := 124) (L' := [some (aA 124), some (aI ((i : Nat) : Int)), some (aI ((sn : Nat) : Int)), some (aI (w)), some (aI ((40 * i + sn : Nat) : Int)), none, none, none]) (st' := []) rfl rfl rfl ?_
              have hS1 := K1.MS (by decide) hS
              have hC1 := K1.Co1 (Or.inl rfl)
              have hM1 := (hS1 i hi).2
              refine E_s (p' := 125) (st' := aA 124 :: _) rfl rfl ?_
              refine E_s (p' := 126) (st' := aI ((i : Nat) : Int) :: _) rfl rfl ?_
              refine E_s (p' := 127) (st' := aA 124 :: _) rfl rfl ?_
              refine E_gA (b := 137) rfl rfl rfl rfl rfl rfl ?_
              refine E_s (p' := 132) (st' := aI ((40 * i + sn : Nat) : Int) :: _) rfl rfl ?_
              refine E_ald (e := 40 * i + sn) (N := 160) (v := ((Sw (S i) sn : Nat) : Int)) rfl rfl (rfl) (by omega) (MR_137 hM1 (by omega) (by omega)) ?_
              refine E_callV (k' := 158) (a := 124) (r := []) (L0 := [some (aA 124), some (aI ((i : Nat) : Int)), some (aI ((Sw (S i) sn : Nat) : Int))]) rfl rfl rfl rfl rfl rfl rfl rfl rfl rfl ?_
              refine m_isSure hi hM1 hV (c := Sw (S i) sn) (by omega) (K3 _ (by omega)) (fun hs1 hs2 => ?_) (fun hs0 => ?_)
              · refine E_go (p' := 136) (L' := [some (aA 124), some (aI ((i : Nat) : Int)), some (aI ((sn : Nat) : Int)), some (aI (w)), some (aI ((40 * i + sn : Nat) : Int)), none, none, none]) (st' := [aI 1]) rfl rfl rfl ?_
                refine E_s (p' := 141) rfl rfl ?_
                refine E_s (p' := 142) (st' := aI 0 :: _) rfl rfl ?_
                refine E_s (p' := 144) (L' := [some (aA 124), some (aI ((i : Nat) : Int)), some (aI ((sn : Nat) : Int)), some (aI (w)), some (aI ((40 * i + sn : Nat) : Int)), some (aI 0), none, none]) rfl rfl ?_
                refine E_s (p' := 145) (st' := aI 0 :: _) rfl rfl ?_
                refine E_s (p' := 147) (L' := [some (aA 124), some (aI ((i : Nat) : Int)), some (aI ((sn : Nat) : Int)), some (aI (w)), some (aI ((40 * i + sn : Nat) : Int)), some (aI 0), some (aI 0), none]) rfl rfl ?_
                exact yl_mks hi hM1 hV (by omega) K3 (by omega) (sdR_t hs1 hs2) (mq_in hS1 hi rfl q (by unfold aSumAt; (try simp only [Int.toNat_natCast]); rw [cif_pos (by omega), if_neg (by omega), if_neg (by omega), if_pos (by omega)]) hC1) (Sp (S i) sn + 1) 0 0 none (by omega) (by omega) rfl rfl
              · refine E_go (p' := 136) (L' := [some (aA 124), some (aI ((i : Nat) : Int)), some (aI ((sn : Nat) : Int)), some (aI (w)), some (aI ((40 * i + sn : Nat) : Int)), none, none, none]) (st' := [aI 0]) rfl rfl rfl ?_
                refine E_s (p' := 139) rfl rfl ?_
                refine E_s (p' := 140) (st' := aI (-1) :: _) rfl rfl ?_
                refine E_ret rfl rfl ?_
                exact mq_in hS1 hi rfl q (by unfold aSumAt; (try simp only [Int.toNat_natCast]); rw [cif_pos (by omega), if_neg (by omega), if_neg (by omega), if_pos (by omega)]; unfold kps; rw [cif_neg (fun g9 => by have := g9.2.1; rw [sdR_f hs0] at this; cases this)]) hC1
            · refine E_go (p' := 113) (L' := [some (aA 124), some (aI ((i : Nat) : Int)), some (aI ((sn : Nat) : Int)), some (aI (w)), some (aI ((40 * i + sn : Nat) : Int)), none, none, none]) (st' := []) rfl rfl rfl ?_
              refine E_s (p' := 114) (st' := aI (-1) :: _) rfl rfl ?_
              refine E_ret rfl rfl ?_
              exact mq_in hS hi rfl q (by unfold aSumAt; (try simp only [Int.toNat_natCast]); rw [cif_pos (by omega), if_neg (by omega), if_neg (by omega), if_pos (by omega)]; unfold kps; rw [cif_neg (by omega)]) Co1.rf
          · refine E_go (p' := 63) (L' := [some (aA 124), some (aI ((i : Nat) : Int)), some (aI ((sn : Nat) : Int)), some (aI (w)), some (aI ((40 * i + sn : Nat) : Int)), none, none, none]) (st' := []) rfl rfl rfl ?_
            refine E_s (p' := 64) (st' := aI (w) :: _) rfl rfl ?_
            refine E_s (p' := 66) (st' := aI 10 :: _) rfl rfl ?_
            refine E_s (p' := 68) (st' := aI 9 :: _) rfl rfl ?_
            refine E_s (p' := 69) (st' := aA 124 :: _) rfl rfl ?_
            refine E_gA (b := 138) rfl rfl rfl rfl rfl rfl ?_
            refine E_s (p' := 74) (st' := aI ((40 * i + sn : Nat) : Int) :: _) rfl rfl ?_
            refine E_ald (e := 40 * i + sn) (N := 160) (v := ((Sp (S i) sn : Nat) : Int)) rfl rfl (rfl) (by omega) (MR_138 hM (by omega) (by omega)) ?_
            refine E_add (v := ((Sp (S i) sn + 9 : Nat) : Int)) rfl (by omega) (by omega) ?_
            refine E_callL (p' := 79) (L0 := [some (aI (w)), some (aI 10), some (aI ((Sp (S i) sn + 9 : Nat) : Int))]) rfl rfl rfl ?_
            refine m_in (fun h_8 h_9 => ?_) (fun h_10 => ?_)
            · refine E_go (p' := 79) (L' := [some (aA 124), some (aI ((i : Nat) : Int)), some (aI ((sn : Nat) : Int)), some (aI (w)), some (aI ((40 * i + sn : Nat) : Int)), none, none, none]) (st' := [aI 1]) rfl rfl rfl ?_
              refine E_s (p' := 82) rfl rfl ?_
              obtain ⟨pn, ep⟩ : ∃ x : Nat, w = (x : Int) + 10 := ⟨(w - 10).toNat, by omega⟩
              rw [show (w : Int) = ((pn + 10 : Nat) : Int) by omega]
              refine E_s (p' := 83) (st' := aA 124 :: _) rfl rfl ?_
              refine E_gA (b := 139) rfl rfl rfl rfl rfl rfl ?_
              refine E_s (p' := 88) (st' := aI 12 :: _) rfl rfl ?_
              refine E_s (p' := 90) (st' := aI ((40 * i + sn : Nat) : Int) :: _) rfl rfl ?_
              refine E_mul (v := ((480 * i + 12 * sn : Nat) : Int)) rfl (by omega) (by omega) ?_
              refine E_s (p' := 92) (st' := aI ((pn + 10 : Nat) : Int) :: _) rfl rfl ?_
              refine E_add (v := ((480 * i + 12 * sn + pn + 10 : Nat) : Int)) rfl (by omega) (by omega) ?_
              refine E_s (p' := 95) (st' := aI 10 :: _) rfl rfl ?_
              refine E_sub (v := ((480 * i + 12 * sn + pn : Nat) : Int)) rfl (by omega) (by omega) ?_
              refine E_ald (e := 480 * i + 12 * sn + pn) (N := 1920) (v := ((Sq (S i) sn pn : Nat) : Int)) rfl rfl (rfl) (by omega) (MR_139 hM (by omega) (by omega) (by omega)) ?_
              refine E_s (p' := 101) rfl rfl ?_
              refine E_ret rfl rfl ?_
              exact mq_in hS hi rfl q (by unfold aSumAt; (try simp only [Int.toNat_natCast]); rw [cif_pos (by omega), if_neg (by omega), if_neg (by omega), if_neg (by omega), cif_pos (by omega), show (w - 10).toNat = pn by omega]) Co1.rf
            · refine E_go (p' := 79) (L' := [some (aA 124), some (aI ((i : Nat) : Int)), some (aI ((sn : Nat) : Int)), some (aI (w)), some (aI ((40 * i + sn : Nat) : Int)), none, none, none]) (st' := [aI 0]) rfl rfl rfl ?_
              refine E_s (p' := 100) rfl rfl ?_
              refine E_s (p' := 101) (st' := aI (-1) :: _) rfl rfl ?_
              refine E_ret rfl rfl ?_
              exact mq_in hS hi rfl q (by unfold aSumAt; (try simp only [Int.toNat_natCast]); rw [cif_pos (by omega), if_neg (by omega), if_neg (by omega), if_neg (by omega), cif_neg (by omega)]) Co1.rf
        · refine E_go (p' := 50) (L' := [some (aA 124), some (aI ((i : Nat) : Int)), some (aI ((sn : Nat) : Int)), some (aI (w)), some (aI ((40 * i + sn : Nat) : Int)), none, none, none]) (st' := []) rfl rfl rfl ?_
          refine E_s (p' := 51) (st' := aA 124 :: _) rfl rfl ?_
          refine E_gA (b := 138) rfl rfl rfl rfl rfl rfl ?_
          refine E_s (p' := 56) (st' := aI ((40 * i + sn : Nat) : Int) :: _) rfl rfl ?_
          refine E_ald (e := 40 * i + sn) (N := 160) (v := ((Sp (S i) sn : Nat) : Int)) rfl rfl (rfl) (by omega) (MR_138 hM (by omega) (by omega)) ?_
          refine E_ret rfl rfl ?_
          exact mq_in hS hi rfl q (by unfold aSumAt; (try simp only [Int.toNat_natCast]); rw [cif_pos (by omega), if_neg (by omega), if_pos (by omega)]) Co1.rf
      · refine E_go (p' := 37) (L' := [some (aA 124), some (aI ((i : Nat) : Int)), some (aI ((sn : Nat) : Int)), some (aI (w)), some (aI ((40 * i + sn : Nat) : Int)), none, none, none]) (st' := []) rfl rfl rfl ?_
        refine E_s (p' := 38) (st' := aA 124 :: _) rfl rfl ?_
        refine E_gA (b := 137) rfl rfl rfl rfl rfl rfl ?_
        refine E_s (p' := 43) (st' := aI ((40 * i + sn : Nat) : Int) :: _) rfl rfl ?_
        refine E_ald (e := 40 * i + sn) (N := 160) (v := ((Sw (S i) sn : Nat) : Int)) rfl rfl (rfl) (by omega) (MR_137 hM (by omega) (by omega)) ?_
        refine E_ret rfl rfl ?_
        exact mq_in hS hi rfl q (by unfold aSumAt; (try simp only [Int.toNat_natCast]); rw [cif_pos (by omega), if_pos (by omega)]) Co1.rf
    · refine E_go (p' := 20) (L' := [some (aA 124), some (aI ((i : Nat) : Int)), some (aI (s)), some (aI (w)), none, none, none, none]) (st' := [aI 0]) rfl rfl rfl ?_
      refine E_s (p' := 23) rfl rfl ?_
      refine E_s (p' := 24) (st' := aI (-1) :: _) rfl rfl ?_
      refine E_ret rfl rfl ?_
      exact mq_in hS hi rfl q (by unfold aSumAt; rw [cif_neg (by omega)]) Co1.rf
  · refine E_go (p' := 4) (L' := [some (aA 124), some (aI (r)), some (aI (s)), some (aI (w)), none, none, none, none]) (st' := [aI 0]) rfl rfl rfl ?_
    refine E_s (p' := 23) rfl rfl ?_
    refine E_s (p' := 24) (st' := aI (-1) :: _) rfl rfl ?_
    refine E_ret rfl rfl ?_
    exact mq_out hS q hr
theorem M_span (hS : MS S m) (q : ∀ v : Int, Q (some (aI v)) (m, tl len)) : E 172 0 [some (aA 124), some (aI (r)), some (aI (c)), some (aI (w))] [] (m, tl len) Q := by
  refine E_s (p' := 1) (st' := aA 124 :: _) rfl rfl ?_
  refine E_s (p' := 2) (st' := aI (r) :: _) rfl rfl ?_
  refine E_s (p' := 3) (st' := aI (c) :: _) rfl rfl ?_
  refine E_callV (k' := 135) (a := 124) (r := []) (L0 := [some (aA 124), some (aI (r)), some (aI (c))]) rfl rfl rfl rfl rfl rfl rfl rfl rfl rfl ?_
  refine m_isCord hS (fun i ci hi hr hc hcc => ?_) (fun hno => ?_)
  · refine E_go (p' := 6) (L' := [some (aA 124), some (aI (r)), some (aI (c)), some (aI (w))]) (st' := [aI 1]) rfl rfl rfl ?_
    obtain ⟨hV, hM⟩ := hS i hi
    have hn60 := hV.1
    have hs40 := hV.2.2.2.2.1
    subst hr hc
    refine E_s (p' := 9) rfl rfl ?_
    refine E_s (p' := 10) (st' := aA 124 :: _) rfl rfl ?_
    refine E_gA (b := 140) rfl rfl rfl rfl rfl rfl ?_
    refine E_s (p' := 14) (st' := aI ((i : Nat) : Int) :: _) rfl rfl ?_
    refine E_zld (e := i) (N := 4) (v := ((m 140 i))) rfl rfl (rfl) (by omega) rfl ?_
    refine E_if_eq (x := ((m 140 i))) rfl (by decide) (fun h_1 => ?_) (fun h_1 => ?_)
    · refine E_go (p' := 27) (L' := [some (aA 124), some (aI ((i : Nat) : Int)), some (aI ((ci : Nat) : Int)), some (aI (w))]) (st' := []) rfl rfl rfl ?_
      refine E_s (p' := 28) (st' := aI (-1) :: _) rfl rfl ?_
      refine E_ret rfl rfl ?_
      exact q _
    · refine E_go (p' := 18) (L' := [some (aA 124), some (aI ((i : Nat) : Int)), some (aI ((ci : Nat) : Int)), some (aI (w))]) (st' := []) rfl rfl rfl ?_
      refine E_s (p' := 19) (st' := aI (w) :: _) rfl rfl ?_
      refine E_s (p' := 20) (st' := aI 0 :: _) rfl rfl ?_
      refine E_s (p' := 21) (st' := aI 1 :: _) rfl rfl ?_
      refine E_callL (p' := 24) (L0 := [some (aI (w)), some (aI 0), some (aI 1)]) rfl rfl rfl ?_
      refine m_in (fun h_2 h_3 => ?_) (fun h_4 => ?_)
      · refine E_go (p' := 24) (L' := [some (aA 124), some (aI ((i : Nat) : Int)), some (aI ((ci : Nat) : Int)), some (aI (w))]) (st' := [aI 1]) rfl rfl rfl ?_
        refine E_s (p' := 29) rfl rfl ?_
        refine E_s (p' := 30) (st' := aI (w) :: _) rfl rfl ?_
        refine E_if_ne (x := (w)) rfl (by decide) (fun h_5 => ?_) (fun h_5 => ?_)
        · refine E_go (p' := 47) (L' := [some (aA 124), some (aI ((i : Nat) : Int)), some (aI ((ci : Nat) : Int)), some (aI (w))]) (st' := []) rfl rfl rfl ?_
          refine E_s (p' := 48) (st' := aA 124 :: _) rfl rfl ?_
          refine E_gA (b := 160) rfl rfl rfl rfl rfl rfl ?_
          refine E_s (p' := 53) (st' := aI 60 :: _) rfl rfl ?_
          refine E_s (p' := 54) (st' := aI ((i : Nat) : Int) :: _) rfl rfl ?_
          refine E_mul (v := ((60 * i : Nat) : Int)) rfl (by omega) (by omega) ?_
          refine E_s (p' := 56) (st' := aI ((ci : Nat) : Int) :: _) rfl rfl ?_
          refine E_add (v := ((60 * i + ci : Nat) : Int)) rfl (by omega) (by omega) ?_
          refine E_ald (e := 60 * i + ci) (N := 240) (v := ((m 160 (60 * i + ci)))) rfl rfl (rfl) (by omega) rfl ?_
          refine E_ret rfl rfl ?_
          exact q _
        · refine E_go (p' := 33) (L' := [some (aA 124), some (aI ((i : Nat) : Int)), some (aI ((ci : Nat) : Int)), some (aI (w))]) (st' := []) rfl rfl rfl ?_
          refine E_s (p' := 34) (st' := aA 124 :: _) rfl rfl ?_
          refine E_gA (b := 159) rfl rfl rfl rfl rfl rfl ?_
          refine E_s (p' := 39) (st' := aI 60 :: _) rfl rfl ?_
          refine E_s (p' := 40) (st' := aI ((i : Nat) : Int) :: _) rfl rfl ?_
          refine E_mul (v := ((60 * i : Nat) : Int)) rfl (by omega) (by omega) ?_
          refine E_s (p' := 42) (st' := aI ((ci : Nat) : Int) :: _) rfl rfl ?_
          refine E_add (v := ((60 * i + ci : Nat) : Int)) rfl (by omega) (by omega) ?_
          refine E_ald (e := 60 * i + ci) (N := 240) (v := ((m 159 (60 * i + ci)))) rfl rfl (rfl) (by omega) rfl ?_
          refine E_s (p' := 58) rfl rfl ?_
          refine E_ret rfl rfl ?_
          exact q _
      · refine E_go (p' := 24) (L' := [some (aA 124), some (aI ((i : Nat) : Int)), some (aI ((ci : Nat) : Int)), some (aI (w))]) (st' := [aI 0]) rfl rfl rfl ?_
        refine E_s (p' := 27) rfl rfl ?_
        refine E_s (p' := 28) (st' := aI (-1) :: _) rfl rfl ?_
        refine E_ret rfl rfl ?_
        exact q _
  · refine E_go (p' := 6) (L' := [some (aA 124), some (aI (r)), some (aI (c)), some (aI (w))]) (st' := [aI 0]) rfl rfl rfl ?_
    refine E_s (p' := 27) rfl rfl ?_
    refine E_s (p' := 28) (st' := aI (-1) :: _) rfl rfl ?_
    refine E_ret rfl rfl ?_
    exact q _
theorem M_cured {n : Nat} (hn : n ≤ 2) (h44 : m 124 44 = (n : Int)) (q : ∀ v : Int, Q (some (aI v)) (m, tl len)) : E 175 0 [some (aA 124), some (aI (k))] [] (m, tl len) Q := by
  refine E_s (p' := 1) (st' := aI (k) :: _) rfl rfl ?_
  refine E_s (p' := 2) (st' := aI 0 :: _) rfl rfl ?_
  refine E_s (p' := 3) (st' := aA 124 :: _) rfl rfl ?_
  refine E_gI (v := ((n : Nat) : Int)) rfl rfl rfl rfl h44 ?_
  refine E_s (p' := 7) (st' := aI 1 :: _) rfl rfl ?_
  refine E_sub (v := ((n : Int) - 1)) rfl (by omega) (by omega) ?_
  refine E_callL (p' := 11) (L0 := [some (aI (k)), some (aI 0), some (aI ((n : Int) - 1))]) rfl rfl rfl ?_
  refine m_in (fun h_1 h_2 => ?_) (fun h_3 => ?_)
  · refine E_go (p' := 11) (L' := [some (aA 124), some (aI (k))]) (st' := [aI 1]) rfl rfl rfl ?_
    refine E_s (p' := 14) rfl rfl ?_
    refine E_s (p' := 15) (st' := aA 124 :: _) rfl rfl ?_
    refine E_gA (b := 161) rfl rfl rfl rfl rfl rfl ?_
    refine E_s (p' := 19) (st' := aI (k) :: _) rfl rfl ?_
    refine E_ald (e := (k).toNat) (N := 2) (v := ((m 161 (k).toNat))) rfl rfl (by omega) (by omega) rfl ?_
    refine E_s (p' := 24) rfl rfl ?_
    refine E_ret rfl rfl ?_
    exact q _
  · refine E_go (p' := 11) (L' := [some (aA 124), some (aI (k))]) (st' := [aI 0]) rfl rfl rfl ?_
    refine E_s (p' := 23) rfl rfl ?_
    refine E_s (p' := 24) (st' := aI (-1) :: _) rfl rfl ?_
    refine E_ret rfl rfl ?_
    exact q _
theorem M_grouping {n : Nat} (hn : n ≤ 300) (h50 : m 124 50 = (n : Int)) (q : ∀ v : Int, Q (some (aI v)) (m, tl len)) : E 179 0 [some (aA 124), some (aI (k)), some (aI (w))] [] (m, tl len) Q := by
  refine E_s (p' := 1) (st' := aI (k) :: _) rfl rfl ?_
  refine E_s (p' := 2) (st' := aI 0 :: _) rfl rfl ?_
  refine E_s (p' := 3) (st' := aA 124 :: _) rfl rfl ?_
  refine E_gI (v := ((n : Nat) : Int)) rfl rfl rfl rfl h50 ?_
  refine E_s (p' := 7) (st' := aI 1 :: _) rfl rfl ?_
  refine E_sub (v := ((n : Int) - 1)) rfl (by omega) (by omega) ?_
  refine E_callL (p' := 11) (L0 := [some (aI (k)), some (aI 0), some (aI ((n : Int) - 1))]) rfl rfl rfl ?_
  refine m_in (fun h_1 h_2 => ?_) (fun h_3 => ?_)
  · refine E_go (p' := 11) (L' := [some (aA 124), some (aI (k)), some (aI (w))]) (st' := [aI 1]) rfl rfl rfl ?_
    refine E_s (p' := 16) rfl rfl ?_
    refine E_s (p' := 17) (st' := aI (w) :: _) rfl rfl ?_
    refine E_if_ne (x := (w)) rfl (by decide) (fun h_4 => ?_) (fun h_4 => ?_)
    · refine E_go (p' := 29) (L' := [some (aA 124), some (aI (k)), some (aI (w))]) (st' := []) rfl rfl rfl ?_
      refine E_s (p' := 30) (st' := aI (w) :: _) rfl rfl ?_
      refine E_s (p' := 31) (st' := aI 1 :: _) rfl rfl ?_
      refine E_icmp_ne (x := (w)) (y := 1) rfl (by decide) (fun h_5 => ?_) (fun h_5 => ?_)
      · refine E_go (p' := 43) (L' := [some (aA 124), some (aI (k)), some (aI (w))]) (st' := []) rfl rfl rfl ?_
        refine E_s (p' := 44) (st' := aI (-1) :: _) rfl rfl ?_
        refine E_ret rfl rfl ?_
        exact q _
      · refine E_go (p' := 34) (L' := [some (aA 124), some (aI (k)), some (aI (w))]) (st' := []) rfl rfl rfl ?_
        refine E_s (p' := 35) (st' := aA 124 :: _) rfl rfl ?_
        refine E_gA (b := 166) rfl rfl rfl rfl rfl rfl ?_
        refine E_s (p' := 39) (st' := aI (k) :: _) rfl rfl ?_
        refine E_ald (e := (k).toNat) (N := 300) (v := ((m 166 (k).toNat))) rfl rfl (by omega) (by omega) rfl ?_
        refine E_s (p' := 44) rfl rfl ?_
        refine E_ret rfl rfl ?_
        exact q _
    · refine E_go (p' := 20) (L' := [some (aA 124), some (aI (k)), some (aI (w))]) (st' := []) rfl rfl rfl ?_
      refine E_s (p' := 21) (st' := aA 124 :: _) rfl rfl ?_
      refine E_gA (b := 165) rfl rfl rfl rfl rfl rfl ?_
      refine E_s (p' := 25) (st' := aI (k) :: _) rfl rfl ?_
      refine E_ald (e := (k).toNat) (N := 300) (v := ((m 165 (k).toNat))) rfl rfl (by omega) (by omega) rfl ?_
      refine E_s (p' := 44) rfl rfl ?_
      refine E_ret rfl rfl ?_
      exact q _
  · refine E_go (p' := 11) (L' := [some (aA 124), some (aI (k)), some (aI (w))]) (st' := [aI 0]) rfl rfl rfl ?_
    refine E_s (p' := 14) rfl rfl ?_
    refine E_s (p' := 15) (st' := aI (-1) :: _) rfl rfl ?_
    refine E_ret rfl rfl ?_
    exact q _
end

