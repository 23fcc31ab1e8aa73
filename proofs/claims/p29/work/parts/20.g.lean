theorem isR_2 {a l : Nat} (h : isR a) (h' : isR l) : l = a ∨ l + 26 ≤ a ∨ a + 26 ≤ l := by
  rcases h with rfl | rfl | rfl | rfl <;> rcases h' with rfl | rfl | rfl | rfl <;> decide
/-- the CORDS' part of CR -/
theorem CR.mk3 {R0 R : RD} {a : Nat} {m m' : Mm} (h : CR R0 a m) (hq : m' a 5 = (Cq R : Int)) (h1 : m' (a + 1) 7 = (Cn R : Int)) (h2 : ∀ c, c < Cn R → CC R a m' c) (h3 : ∀ c k, c < Cn R → k < Ck R c → m' (a + 8) (30 * c + k) = (Cp R c k : Int)) (h4 : m' (a + 9) 3 = (Sn R : Int)) (h5 : ∀ s, s < Sn R → m' (a + 10) s = (Sw R s : Int) ∧ m' (a + 11) s = (Sp R s : Int)) (h6 : ∀ s p, s < Sn R → p < Sp R s → m' (a + 12) (12 * s + p) = (Sq R s p : Int)) : CR R a m' := ⟨h1, hq, h2, h3, h4, h5, h6⟩
section
variable {len : Nat} {m0 : Mm} {Q : Option AV → Sx → Prop} {R : RD} {a l : Nat}
theorem l_blc (hR : isR a) (hL : isR l) (hC : CR R l m0) (hV : VR R) (q : ∀ (b : Bool) (m1 : Mm), Fx (a + 1) (a + 8) m0 m1 → m1 (a + 1) 7 = (Cn R : Int) → (∀ c, c < Cn R → CC R a m1 c) → (∀ c k, c < Cn R → k < Ck R c → m1 (a + 8) (30 * c + k) = (Cp R c k : Int)) → (b = false → ∀ p j, a + 1 ≤ p → p ≤ a + 8 → m1 p j = m0 p j) → Q (some (aI (bi b))) (m1, tl len)) : ∀ (d : Nat) (i : Nat) (b : Bool) (m : Mm), (Cn R < i + d) → (i ≤ Cn R) → (Fx (a + 1) (a + 8) m0 m) → (m (a + 1) 7 = (Cn R : Int)) → (∀ c, c < Cn R → CC R a m c) → (∀ c k, c < i → k < Ck R c → m (a + 8) (30 * c + k) = (Cp R c k : Int)) → (∀ j, 30 * i ≤ j → m (a + 8) j = m0 (a + 8) j) → (b = false → ∀ p j, a + 1 ≤ p → p ≤ a + 8 → m p j = m0 p j) → E 64 141 [some (aA (a + 1)), some (aA (l + 1)), some (aI (bi b)), some (aI ((i : Nat) : Int))] [] (m, tl len) Q := by
  intro d
  induction d with
  | zero => intro i b m hd hi h1 h2 h3 h4 h5 h6; omega
  | succ d ih =>
    intro i b m hd hi h1 h2 h3 h4 h5 h6
    have hn60 := hV.1
    have hal := isR_2 hR hL
    have hab := isR_b hR
    refine E_s (p' := 142) (st' := aI ((i : Nat) : Int) :: _) rfl rfl ?_
    refine E_s (p' := 143) (st' := aA (a + 1) :: _) rfl rfl ?_
    refine E_gI (v := ((Cn R : Nat) : Int)) rfl rfl rfl (kR_1 hR) h2 ?_
    refine E_icmp_ge (x := ((i : Nat) : Int)) (y := ((Cn R : Nat) : Int)) rfl (by decide) (fun h_1 => ?_) (fun h_1 => ?_)
    · refine E_go (p' := 179) (L' := [some (aA (a + 1)), some (aA (l + 1)), some (aI (bi b)), some (aI ((i : Nat) : Int))]) (st' := []) rfl rfl rfl ?_
      refine E_s (p' := 180) (st' := aI (bi b) :: _) rfl rfl ?_
      refine E_retB rfl rfl (bi01 _) ?_
      have ei : i = Cn R := by omega
      subst ei
      exact q b m h1 h2 h3 h4 h6
    · refine E_go (p' := 149) (L' := [some (aA (a + 1)), some (aA (l + 1)), some (aI (bi b)), some (aI ((i : Nat) : Int))]) (st' := []) rfl rfl rfl ?_
      have hk30 := (hV.2.2.1 i (by omega)).2.2.2.2.2
      refine E_s (p' := 150) (st' := aI (bi b) :: _) rfl rfl ?_
      refine E_s (p' := 151) (st' := aA (a + 1) :: _) rfl rfl ?_
      refine E_gA (b := a + 8) rfl rfl rfl (kR_1 hR) (hR_1_6 hR) rfl ?_
      refine E_s (p' := 155) (st' := aA (l + 1) :: _) rfl rfl ?_
      refine E_gA (b := l + 8) rfl rfl rfl (kR_1 hL) (hR_1_6 hL) rfl ?_
      refine E_s (p' := 159) (st' := aI ((i : Nat) : Int) :: _) rfl rfl ?_
      refine E_s (p' := 161) (st' := aI 30 :: _) rfl rfl ?_
      refine E_mul (v := ((30 * i : Nat) : Int)) rfl (by omega) (by omega) ?_
      refine E_s (p' := 163) (st' := aA (a + 1) :: _) rfl rfl ?_
      refine E_gA (b := a + 7) rfl rfl rfl (kR_1 hR) (hR_1_5 hR) rfl ?_
      refine E_s (p' := 167) (st' := aI ((i : Nat) : Int) :: _) rfl rfl ?_
      refine E_ald (e := i) (N := 60) (v := ((Ck R i : Nat) : Int)) rfl (kR_7 hR) (rfl) (by omega) (h3 _ (by omega)).2.2.2.2.2 ?_
      refine E_callL (p' := 171) (L0 := [some (aA (a + 8)), some (aA (l + 8)), some (aI ((30 * i : Nat) : Int)), some (aI ((Ck R i : Nat) : Int)), none, none]) rfl rfl rfl ?_
      refine c_takeRow (f := 30 * i) (n := Ck R i) (N1 := 1800) (N2 := 1800) (kR_8 hR) (kR_8 hL) (by omega) (by omega) (by decide) (fun b1 m1 hF1 ho1 hw1 hb1 => ?_)
      refine E_go (p' := 171) (L' := [some (aA (a + 1)), some (aA (l + 1)), some (aI (bi b)), some (aI ((i : Nat) : Int))]) (st' := [aI (bi b1), aI (bi b)]) rfl rfl rfl ?_
      refine E_orb (x := b) (y := b1) rfl ?_
      refine E_s (p' := 173) (L' := [some (aA (a + 1)), some (aA (l + 1)), some (aI (bi (b || b1))), some (aI ((i : Nat) : Int))]) rfl rfl ?_
      refine E_inc (x := ((i : Nat) : Int)) (w := ((i + 1 : Nat) : Int)) (L' := [some (aA (a + 1)), some (aA (l + 1)), some (aI (bi (b || b1))), some (aI ((i + 1 : Nat) : Int))]) rfl rfl rfl (by omega) (by omega) rfl ?_
      refine E_s (p' := 141) rfl rfl ?_
      refine ih (i + 1) _ m1 (by omega) (by omega) (fun p j hp => (hF1 p j (by omega)).trans (h1 p j hp)) ((hF1 _ _ (by omega)).trans h2) (fun c hc => ?_) (fun c k hc hk => ?_) (fun j hj => ?_) (fun hb9 p j hp1 hp2 => ?_)
      · obtain ⟨g1, g2, g3, g4, g5, g6⟩ := h3 c hc
        exact ⟨(hF1 _ _ (by omega)).trans g1, (hF1 _ _ (by omega)).trans g2, (hF1 _ _ (by omega)).trans g3, (hF1 _ _ (by omega)).trans g4, (hF1 _ _ (by omega)).trans g5, (hF1 _ _ (by omega)).trans g6⟩
      · by_cases g : c = i
        · subst g
          refine (hw1 _ (by omega) (by omega)).trans (Eq.trans ?_ (CR_8 hC (by omega) hk rfl))
          rcases hal with e | e
          · subst e; exact h5 _ (by omega)
          · exact h1 _ _ (by omega)
        · have := (hV.2.2.1 c (by omega)).2.2.2.2.2
          exact (ho1 _ (by omega)).trans (h4 c k (by omega) hk)
      · exact (ho1 _ (by omega)).trans (h5 j (by omega))
      · have hb3 := Bool.or_eq_false_iff.mp hb9
        by_cases g : p = a + 8
        · subst g; exact (hb1 hb3.2 j).trans (h6 hb3.1 _ j hp1 hp2)
        · exact (hF1 _ _ (by omega)).trans (h6 hb3.1 p j hp1 hp2)
theorem c_becomeC (hR : isR a) (hL : isR l) (hC : CR R l m0) (hV : VR R) (q : ∀ (b : Bool) (m1 : Mm), Fx (a + 1) (a + 8) m0 m1 → m1 (a + 1) 7 = (Cn R : Int) → (∀ c, c < Cn R → CC R a m1 c) → (∀ c k, c < Cn R → k < Ck R c → m1 (a + 8) (30 * c + k) = (Cp R c k : Int)) → (b = false → ∀ p j, a + 1 ≤ p → p ≤ a + 8 → m1 p j = m0 p j) → Q (some (aI (bi b))) (m1, tl len)) : E 64 0 [some (aA (a + 1)), some (aA (l + 1)), none, none] [] (m0, tl len) Q := by
  have hn60 := hV.1
  have hal := isR_2 hR hL
  have hab := isR_b hR
  refine E_s (p' := 1) (st' := aA (a + 1) :: _) rfl rfl ?_
  refine E_gI (v := ((m0 (a + 1) 7))) rfl rfl rfl (kR_1 hR) rfl ?_
  refine E_s (p' := 5) (st' := aA (l + 1) :: _) rfl rfl ?_
  refine E_gI (v := ((Cn R : Nat) : Int)) rfl rfl rfl (kR_1 hL) hC.1 ?_
  suffices h_1 : E 64 16 [some (aA (a + 1)), some (aA (l + 1)), none, none] [aI (bi (!decide (((m0 (a + 1) 7)) = ((Cn R : Nat) : Int))))] (m0, tl len) Q by
    refine E_icmp_eq (x := ((m0 (a + 1) 7))) (y := ((Cn R : Nat) : Int)) rfl (by decide) (fun h_2 => ?_) (fun h_2 => ?_)
    · refine E_go (p' := 15) (L' := [some (aA (a + 1)), some (aA (l + 1)), none, none]) (st' := []) rfl rfl rfl ?_
      refine E_s (p' := 16) (st' := aI 0 :: _) rfl rfl ?_
      rw [decide_eq_true (p := ((m0 (a + 1) 7)) = ((Cn R : Nat) : Int)) (by omega)] at h_1
      exact h_1
    · refine E_go (p' := 11) (L' := [some (aA (a + 1)), some (aA (l + 1)), none, none]) (st' := []) rfl rfl rfl ?_
      refine E_s (p' := 12) (st' := aI 1 :: _) rfl rfl ?_
      refine E_s (p' := 16) rfl rfl ?_
      rw [decide_eq_false (p := ((m0 (a + 1) 7)) = ((Cn R : Nat) : Int)) (by omega)] at h_1
      exact h_1
  refine E_s (p' := 17) (L' := [some (aA (a + 1)), some (aA (l + 1)), some (aI (bi (!decide (((m0 (a + 1) 7)) = ((Cn R : Nat) : Int))))), none]) rfl rfl ?_
  refine E_s (p' := 18) (st' := aA (a + 1) :: _) rfl rfl ?_
  refine E_s (p' := 19) (st' := aA (l + 1) :: _) rfl rfl ?_
  refine E_gI (v := ((Cn R : Nat) : Int)) rfl rfl rfl (kR_1 hL) hC.1 ?_
  refine E_pI rfl rfl rfl (kR_1 hR) (Or.inl rfl) ?_
  refine E_s (p' := 26) (st' := aI (bi (!decide (((m0 (a + 1) 7)) = ((Cn R : Nat) : Int)))) :: _) rfl rfl ?_
  refine E_s (p' := 27) (st' := aA (a + 1) :: _) rfl rfl ?_
  refine E_gA (b := a + 2) rfl rfl rfl (kR_1 hR) (hR_1_0 hR) rfl ?_
  refine E_s (p' := 31) (st' := aA (l + 1) :: _) rfl rfl ?_
  refine E_gA (b := l + 2) rfl rfl rfl (kR_1 hL) (hR_1_0 hL) rfl ?_
  refine E_s (p' := 35) (st' := aI 0 :: _) rfl rfl ?_
  refine E_s (p' := 36) (st' := aA (a + 1) :: _) rfl rfl ?_
  refine E_gI (v := ((Cn R : Nat) : Int)) rfl rfl rfl (kR_1 hR) up2_eq ?_
  refine E_callL (p' := 42) (L0 := [some (aA (a + 2)), some (aA (l + 2)), some (aI 0), some (aI ((Cn R : Nat) : Int)), none, none]) rfl rfl rfl ?_
  refine c_takeRow (f := 0) (n := Cn R) (N1 := 60) (N2 := 60) (kR_2 hR) (kR_2 hL) (by omega) (by omega) (by decide) (fun b1 m1 hF1 ho1 hw1 hb1 => ?_)
  refine E_go (p' := 42) (L' := [some (aA (a + 1)), some (aA (l + 1)), some (aI (bi (!decide (((m0 (a + 1) 7)) = ((Cn R : Nat) : Int))))), none]) (st' := [aI (bi b1), aI (bi (!decide (((m0 (a + 1) 7)) = ((Cn R : Nat) : Int))))]) rfl rfl rfl ?_
  refine E_orb (x := (!decide (((m0 (a + 1) 7)) = ((Cn R : Nat) : Int)))) (y := b1) rfl ?_
  refine E_s (p' := 44) (L' := [some (aA (a + 1)), some (aA (l + 1)), some (aI (bi ((!decide (((m0 (a + 1) 7)) = ((Cn R : Nat) : Int))) || b1))), none]) rfl rfl ?_
  refine E_s (p' := 45) (st' := aI (bi ((!decide (((m0 (a + 1) 7)) = ((Cn R : Nat) : Int))) || b1)) :: _) rfl rfl ?_
  refine E_s (p' := 46) (st' := aA (a + 1) :: _) rfl rfl ?_
  refine E_gA (b := a + 3) rfl rfl rfl (kR_1 hR) (hR_1_1 hR) rfl ?_
  refine E_s (p' := 50) (st' := aA (l + 1) :: _) rfl rfl ?_
  refine E_gA (b := l + 3) rfl rfl rfl (kR_1 hL) (hR_1_1 hL) rfl ?_
  refine E_s (p' := 54) (st' := aI 0 :: _) rfl rfl ?_
  refine E_s (p' := 55) (st' := aA (a + 1) :: _) rfl rfl ?_
  refine E_gI (v := ((Cn R : Nat) : Int)) rfl rfl rfl (kR_1 hR) ((hF1 _ _ (by omega)).trans (up2_eq)) ?_
  refine E_callL (p' := 61) (L0 := [some (aA (a + 3)), some (aA (l + 3)), some (aI 0), some (aI ((Cn R : Nat) : Int)), none, none]) rfl rfl rfl ?_
  refine c_takeRow (f := 0) (n := Cn R) (N1 := 60) (N2 := 60) (kR_3 hR) (kR_3 hL) (by omega) (by omega) (by decide) (fun b2 m2 hF2 ho2 hw2 hb2 => ?_)
  refine E_go (p' := 61) (L' := [some (aA (a + 1)), some (aA (l + 1)), some (aI (bi ((!decide (((m0 (a + 1) 7)) = ((Cn R : Nat) : Int))) || b1))), none]) (st' := [aI (bi b2), aI (bi ((!decide (((m0 (a + 1) 7)) = ((Cn R : Nat) : Int))) || b1))]) rfl rfl rfl ?_
  refine E_orb (x := ((!decide (((m0 (a + 1) 7)) = ((Cn R : Nat) : Int))) || b1)) (y := b2) rfl ?_
  refine E_s (p' := 63) (L' := [some (aA (a + 1)), some (aA (l + 1)), some (aI (bi (((!decide (((m0 (a + 1) 7)) = ((Cn R : Nat) : Int))) || b1) || b2))), none]) rfl rfl ?_
  refine E_s (p' := 64) (st' := aI (bi (((!decide (((m0 (a + 1) 7)) = ((Cn R : Nat) : Int))) || b1) || b2)) :: _) rfl rfl ?_
  refine E_s (p' := 65) (st' := aA (a + 1) :: _) rfl rfl ?_
  refine E_gA (b := a + 4) rfl rfl rfl (kR_1 hR) (hR_1_2 hR) rfl ?_
  refine E_s (p' := 69) (st' := aA (l + 1) :: _) rfl rfl ?_
  refine E_gA (b := l + 4) rfl rfl rfl (kR_1 hL) (hR_1_2 hL) rfl ?_
  refine E_s (p' := 73) (st' := aI 0 :: _) rfl rfl ?_
  refine E_s (p' := 74) (st' := aA (a + 1) :: _) rfl rfl ?_
  refine E_gI (v := ((Cn R : Nat) : Int)) rfl rfl rfl (kR_1 hR) ((hF2 _ _ (by omega)).trans ((hF1 _ _ (by omega)).trans (up2_eq))) ?_
  refine E_callL (p' := 80) (L0 := [some (aA (a + 4)), some (aA (l + 4)), some (aI 0), some (aI ((Cn R : Nat) : Int)), none, none]) rfl rfl rfl ?_
  refine c_takeRow (f := 0) (n := Cn R) (N1 := 60) (N2 := 60) (kR_4 hR) (kR_4 hL) (by omega) (by omega) (by decide) (fun b3 m3 hF3 ho3 hw3 hb3 => ?_)
  refine E_go (p' := 80) (L' := [some (aA (a + 1)), some (aA (l + 1)), some (aI (bi (((!decide (((m0 (a + 1) 7)) = ((Cn R : Nat) : Int))) || b1) || b2))), none]) (st' := [aI (bi b3), aI (bi (((!decide (((m0 (a + 1) 7)) = ((Cn R : Nat) : Int))) || b1) || b2))]) rfl rfl rfl ?_
  refine E_orb (x := (((!decide (((m0 (a + 1) 7)) = ((Cn R : Nat) : Int))) || b1) || b2)) (y := b3) rfl ?_
  refine E_s (p' := 82) (L' := [some (aA (a + 1)), some (aA (l + 1)), some (aI (bi ((((!decide (((m0 (a + 1) 7)) = ((Cn R : Nat) : Int))) || b1) || b2) || b3))), none]) rfl rfl ?_
  refine E_s (p' := 83) (st' := aI (bi ((((!decide (((m0 (a + 1) 7)) = ((Cn R : Nat) : Int))) || b1) || b2) || b3)) :: _) rfl rfl ?_
  refine E_s (p' := 84) (st' := aA (a + 1) :: _) rfl rfl ?_
  refine E_gA (b := a + 5) rfl rfl rfl (kR_1 hR) (hR_1_3 hR) rfl ?_
  refine E_s (p' := 88) (st' := aA (l + 1) :: _) rfl rfl ?_
  refine E_gA (b := l + 5) rfl rfl rfl (kR_1 hL) (hR_1_3 hL) rfl ?_
  refine E_s (p' := 92) (st' := aI 0 :: _) rfl rfl ?_
  refine E_s (p' := 93) (st' := aA (a + 1) :: _) rfl rfl ?_
  refine E_gI (v := ((Cn R : Nat) : Int)) rfl rfl rfl (kR_1 hR) ((hF3 _ _ (by omega)).trans ((hF2 _ _ (by omega)).trans ((hF1 _ _ (by omega)).trans (up2_eq)))) ?_
  refine E_callL (p' := 99) (L0 := [some (aA (a + 5)), some (aA (l + 5)), some (aI 0), some (aI ((Cn R : Nat) : Int)), none, none]) rfl rfl rfl ?_
  refine c_takeRow (f := 0) (n := Cn R) (N1 := 60) (N2 := 60) (kR_5 hR) (kR_5 hL) (by omega) (by omega) (by decide) (fun b4 m4 hF4 ho4 hw4 hb4 => ?_)
  refine E_go (p' := 99) (L' := [some (aA (a + 1)), some (aA (l + 1)), some (aI (bi ((((!decide (((m0 (a + 1) 7)) = ((Cn R : Nat) : Int))) || b1) || b2) || b3))), none]) (st' := [aI (bi b4), aI (bi ((((!decide (((m0 (a + 1) 7)) = ((Cn R : Nat) : Int))) || b1) || b2) || b3))]) rfl rfl rfl ?_
  refine E_orb (x := ((((!decide (((m0 (a + 1) 7)) = ((Cn R : Nat) : Int))) || b1) || b2) || b3)) (y := b4) rfl ?_
  refine E_s (p' := 101) (L' := [some (aA (a + 1)), some (aA (l + 1)), some (aI (bi (((((!decide (((m0 (a + 1) 7)) = ((Cn R : Nat) : Int))) || b1) || b2) || b3) || b4))), none]) rfl rfl ?_
  refine E_s (p' := 102) (st' := aI (bi (((((!decide (((m0 (a + 1) 7)) = ((Cn R : Nat) : Int))) || b1) || b2) || b3) || b4)) :: _) rfl rfl ?_
  refine E_s (p' := 103) (st' := aA (a + 1) :: _) rfl rfl ?_
  refine E_gA (b := a + 6) rfl rfl rfl (kR_1 hR) (hR_1_4 hR) rfl ?_
  refine E_s (p' := 107) (st' := aA (l + 1) :: _) rfl rfl ?_
  refine E_gA (b := l + 6) rfl rfl rfl (kR_1 hL) (hR_1_4 hL) rfl ?_
  refine E_s (p' := 111) (st' := aI 0 :: _) rfl rfl ?_
  refine E_s (p' := 112) (st' := aA (a + 1) :: _) rfl rfl ?_
  refine E_gI (v := ((Cn R : Nat) : Int)) rfl rfl rfl (kR_1 hR) ((hF4 _ _ (by omega)).trans ((hF3 _ _ (by omega)).trans ((hF2 _ _ (by omega)).trans ((hF1 _ _ (by omega)).trans (up2_eq))))) ?_
  refine E_callL (p' := 118) (L0 := [some (aA (a + 6)), some (aA (l + 6)), some (aI 0), some (aI ((Cn R : Nat) : Int)), none, none]) rfl rfl rfl ?_
  refine c_takeRow (f := 0) (n := Cn R) (N1 := 60) (N2 := 60) (kR_6 hR) (kR_6 hL) (by omega) (by omega) (by decide) (fun b5 m5 hF5 ho5 hw5 hb5 => ?_)
  refine E_go (p' := 118) (L' := [some (aA (a + 1)), some (aA (l + 1)), some (aI (bi (((((!decide (((m0 (a + 1) 7)) = ((Cn R : Nat) : Int))) || b1) || b2) || b3) || b4))), none]) (st' := [aI (bi b5), aI (bi (((((!decide (((m0 (a + 1) 7)) = ((Cn R : Nat) : Int))) || b1) || b2) || b3) || b4))]) rfl rfl rfl ?_
  refine E_orb (x := (((((!decide (((m0 (a + 1) 7)) = ((Cn R : Nat) : Int))) || b1) || b2) || b3) || b4)) (y := b5) rfl ?_
  refine E_s (p' := 120) (L' := [some (aA (a + 1)), some (aA (l + 1)), some (aI (bi ((((((!decide (((m0 (a + 1) 7)) = ((Cn R : Nat) : Int))) || b1) || b2) || b3) || b4) || b5))), none]) rfl rfl ?_
  refine E_s (p' := 121) (st' := aI (bi ((((((!decide (((m0 (a + 1) 7)) = ((Cn R : Nat) : Int))) || b1) || b2) || b3) || b4) || b5)) :: _) rfl rfl ?_
  refine E_s (p' := 122) (st' := aA (a + 1) :: _) rfl rfl ?_
  refine E_gA (b := a + 7) rfl rfl rfl (kR_1 hR) (hR_1_5 hR) rfl ?_
  refine E_s (p' := 126) (st' := aA (l + 1) :: _) rfl rfl ?_
  refine E_gA (b := l + 7) rfl rfl rfl (kR_1 hL) (hR_1_5 hL) rfl ?_
  refine E_s (p' := 130) (st' := aI 0 :: _) rfl rfl ?_
  refine E_s (p' := 131) (st' := aA (a + 1) :: _) rfl rfl ?_
  refine E_gI (v := ((Cn R : Nat) : Int)) rfl rfl rfl (kR_1 hR) ((hF5 _ _ (by omega)).trans ((hF4 _ _ (by omega)).trans ((hF3 _ _ (by omega)).trans ((hF2 _ _ (by omega)).trans ((hF1 _ _ (by omega)).trans (up2_eq)))))) ?_
  refine E_callL (p' := 137) (L0 := [some (aA (a + 7)), some (aA (l + 7)), some (aI 0), some (aI ((Cn R : Nat) : Int)), none, none]) rfl rfl rfl ?_
  refine c_takeRow (f := 0) (n := Cn R) (N1 := 60) (N2 := 60) (kR_7 hR) (kR_7 hL) (by omega) (by omega) (by decide) (fun b6 m6 hF6 ho6 hw6 hb6 => ?_)
  refine E_go (p' := 137) (L' := [some (aA (a + 1)), some (aA (l + 1)), some (aI (bi ((((((!decide (((m0 (a + 1) 7)) = ((Cn R : Nat) : Int))) || b1) || b2) || b3) || b4) || b5))), none]) (st' := [aI (bi b6), aI (bi ((((((!decide (((m0 (a + 1) 7)) = ((Cn R : Nat) : Int))) || b1) || b2) || b3) || b4) || b5))]) rfl rfl rfl ?_
  refine E_orb (x := ((((((!decide (((m0 (a + 1) 7)) = ((Cn R : Nat) : Int))) || b1) || b2) || b3) || b4) || b5)) (y := b6) rfl ?_
  refine E_s (p' := 139) (L' := [some (aA (a + 1)), some (aA (l + 1)), some (aI (bi (((((((!decide (((m0 (a + 1) 7)) = ((Cn R : Nat) : Int))) || b1) || b2) || b3) || b4) || b5) || b6))), none]) rfl rfl ?_
  refine E_s (p' := 140) (st' := aI 0 :: _) rfl rfl ?_
  refine E_s (p' := 141) (L' := [some (aA (a + 1)), some (aA (l + 1)), some (aI (bi (((((((!decide (((m0 (a + 1) 7)) = ((Cn R : Nat) : Int))) || b1) || b2) || b3) || b4) || b5) || b6))), some (aI 0)]) rfl rfl ?_
  have hal := isR_2 hR hL
  have hab := isR_b hR
  have hr1 : ∀ c, c < Cn R → m6 (a + 2) c = m0 (l + 2) c := fun c hc => (hF6 _ _ (by omega)).trans ((hF5 _ _ (by omega)).trans ((hF4 _ _ (by omega)).trans ((hF3 _ _ (by omega)).trans ((hF2 _ _ (by omega)).trans ((hw1 c (by omega) (by omega)).trans (up2_ne (by omega)))))))
  have hr2 : ∀ c, c < Cn R → m6 (a + 3) c = m0 (l + 3) c := fun c hc => (hF6 _ _ (by omega)).trans ((hF5 _ _ (by omega)).trans ((hF4 _ _ (by omega)).trans ((hF3 _ _ (by omega)).trans ((hw2 c (by omega) (by omega)).trans ((hF1 _ _ (by omega)).trans (up2_ne (by omega)))))))
  have hr3 : ∀ c, c < Cn R → m6 (a + 4) c = m0 (l + 4) c := fun c hc => (hF6 _ _ (by omega)).trans ((hF5 _ _ (by omega)).trans ((hF4 _ _ (by omega)).trans ((hw3 c (by omega) (by omega)).trans ((hF2 _ _ (by omega)).trans ((hF1 _ _ (by omega)).trans (up2_ne (by omega)))))))
  have hr4 : ∀ c, c < Cn R → m6 (a + 5) c = m0 (l + 5) c := fun c hc => (hF6 _ _ (by omega)).trans ((hF5 _ _ (by omega)).trans ((hw4 c (by omega) (by omega)).trans ((hF3 _ _ (by omega)).trans ((hF2 _ _ (by omega)).trans ((hF1 _ _ (by omega)).trans (up2_ne (by omega)))))))
  have hr5 : ∀ c, c < Cn R → m6 (a + 6) c = m0 (l + 6) c := fun c hc => (hF6 _ _ (by omega)).trans ((hw5 c (by omega) (by omega)).trans ((hF4 _ _ (by omega)).trans ((hF3 _ _ (by omega)).trans ((hF2 _ _ (by omega)).trans ((hF1 _ _ (by omega)).trans (up2_ne (by omega)))))))
  have hr6 : ∀ c, c < Cn R → m6 (a + 7) c = m0 (l + 7) c := fun c hc => (hw6 c (by omega) (by omega)).trans ((hF5 _ _ (by omega)).trans ((hF4 _ _ (by omega)).trans ((hF3 _ _ (by omega)).trans ((hF2 _ _ (by omega)).trans ((hF1 _ _ (by omega)).trans (up2_ne (by omega)))))))
  have hFx : Fx (a + 1) (a + 8) m0 m6 := fun p j hp => (hF6 _ _ (by omega)).trans ((hF5 _ _ (by omega)).trans ((hF4 _ _ (by omega)).trans ((hF3 _ _ (by omega)).trans ((hF2 _ _ (by omega)).trans ((hF1 _ _ (by omega)).trans (up2_ne (by omega)))))))
  have h8 : ∀ j, m6 (a + 8) j = m0 (a + 8) j := fun j => (hF6 _ _ (by omega)).trans ((hF5 _ _ (by omega)).trans ((hF4 _ _ (by omega)).trans ((hF3 _ _ (by omega)).trans ((hF2 _ _ (by omega)).trans ((hF1 _ _ (by omega)).trans (up2_ne (by omega)))))))
  have h17 : m6 (a + 1) 7 = (Cn R : Int) := (hF6 _ _ (by omega)).trans ((hF5 _ _ (by omega)).trans ((hF4 _ _ (by omega)).trans ((hF3 _ _ (by omega)).trans ((hF2 _ _ (by omega)).trans ((hF1 _ _ (by omega)).trans (up2_eq))))))
  refine l_blc hR hL hC hV q (Cn R + 1) 0 _ m6 (by omega) (by omega) hFx h17 (fun c hc => ⟨(hr1 c hc).trans (CR_2 hC hc), (hr2 c hc).trans (CR_3 hC hc), (hr3 c hc).trans (CR_4 hC hc), (hr4 c hc).trans (CR_5 hC hc), (hr5 c hc).trans (CR_6 hC hc), (hr6 c hc).trans (CR_7 hC hc)⟩) (fun c k hc => absurd hc (by omega)) (fun j _ => h8 j) (fun hb9 p j hp1 hp2 => ?_)
  simp only [Bool.or_eq_false_iff] at hb9
  obtain ⟨⟨⟨⟨⟨⟨c0, c1⟩, c2⟩, c3⟩, c4⟩, c5⟩, c6⟩ := hb9
  have hs0 : m0 (a + 1) 7 = (Cn R : Int) := by simpa using c0
  rcases (show p = a + 1 ∨ p = a + 2 ∨ p = a + 3 ∨ p = a + 4 ∨ p = a + 5 ∨ p = a + 6 ∨ p = a + 7 ∨ p = a + 8 by omega) with e | e | e | e | e | e | e | e
  · subst e
    refine (hF6 _ _ (by omega)).trans ((hF5 _ _ (by omega)).trans ((hF4 _ _ (by omega)).trans ((hF3 _ _ (by omega)).trans ((hF2 _ _ (by omega)).trans ((hF1 _ _ (by omega)).trans (?_))))))
    by_cases g : j = 7
    · subst g; exact up2_eq.trans hs0.symm
    · exact up2_sl g
  · subst e
    exact (hF6 _ _ (by omega)).trans ((hF5 _ _ (by omega)).trans ((hF4 _ _ (by omega)).trans ((hF3 _ _ (by omega)).trans ((hF2 _ _ (by omega)).trans ((hb1 c1 j).trans (up2_ne (by omega)))))))
  · subst e
    exact (hF6 _ _ (by omega)).trans ((hF5 _ _ (by omega)).trans ((hF4 _ _ (by omega)).trans ((hF3 _ _ (by omega)).trans ((hb2 c2 j).trans ((hF1 _ _ (by omega)).trans (up2_ne (by omega)))))))
  · subst e
    exact (hF6 _ _ (by omega)).trans ((hF5 _ _ (by omega)).trans ((hF4 _ _ (by omega)).trans ((hb3 c3 j).trans ((hF2 _ _ (by omega)).trans ((hF1 _ _ (by omega)).trans (up2_ne (by omega)))))))
  · subst e
    exact (hF6 _ _ (by omega)).trans ((hF5 _ _ (by omega)).trans ((hb4 c4 j).trans ((hF3 _ _ (by omega)).trans ((hF2 _ _ (by omega)).trans ((hF1 _ _ (by omega)).trans (up2_ne (by omega)))))))
  · subst e
    exact (hF6 _ _ (by omega)).trans ((hb5 c5 j).trans ((hF4 _ _ (by omega)).trans ((hF3 _ _ (by omega)).trans ((hF2 _ _ (by omega)).trans ((hF1 _ _ (by omega)).trans (up2_ne (by omega)))))))
  · subst e
    exact (hb6 c6 j).trans ((hF5 _ _ (by omega)).trans ((hF4 _ _ (by omega)).trans ((hF3 _ _ (by omega)).trans ((hF2 _ _ (by omega)).trans ((hF1 _ _ (by omega)).trans (up2_ne (by omega)))))))
  · subst e; exact h8 j
theorem l_bls (hR : isR a) (hL : isR l) (hC : CR R l m0) (hV : VR R) (q : ∀ (b : Bool) (m1 : Mm), Fx (a + 9) (a + 12) m0 m1 → m1 (a + 9) 3 = (Sn R : Int) → (∀ s, s < Sn R → m1 (a + 10) s = (Sw R s : Int) ∧ m1 (a + 11) s = (Sp R s : Int)) → (∀ s k, s < Sn R → k < Sp R s → m1 (a + 12) (12 * s + k) = (Sq R s k : Int)) → (b = false → ∀ p j, a + 9 ≤ p → p ≤ a + 12 → m1 p j = m0 p j) → Q (some (aI (bi b))) (m1, tl len)) : ∀ (d : Nat) (i : Nat) (b : Bool) (m : Mm), (Sn R < i + d) → (i ≤ Sn R) → (Fx (a + 9) (a + 12) m0 m) → (m (a + 9) 3 = (Sn R : Int)) → (∀ s, s < Sn R → m (a + 10) s = (Sw R s : Int) ∧ m (a + 11) s = (Sp R s : Int)) → (∀ s k, s < i → k < Sp R s → m (a + 12) (12 * s + k) = (Sq R s k : Int)) → (∀ j, 12 * i ≤ j → m (a + 12) j = m0 (a + 12) j) → (b = false → ∀ p j, a + 9 ≤ p → p ≤ a + 12 → m p j = m0 p j) → E 66 65 [some (aA (a + 9)), some (aA (l + 9)), some (aI (bi b)), some (aI ((i : Nat) : Int))] [] (m, tl len) Q := by
  intro d
  induction d with
  | zero => intro i b m hd hi h1 h2 h3 h4 h5 h6; omega
  | succ d ih =>
    intro i b m hd hi h1 h2 h3 h4 h5 h6
    have hs40 := hV.2.2.2.2.1
    have hal := isR_2 hR hL
    have hab := isR_b hR
    refine E_s (p' := 66) (st' := aI ((i : Nat) : Int) :: _) rfl rfl ?_
    refine E_s (p' := 67) (st' := aA (a + 9) :: _) rfl rfl ?_
    refine E_gI (v := ((Sn R : Nat) : Int)) rfl rfl rfl (kR_9 hR) h2 ?_
    refine E_icmp_ge (x := ((i : Nat) : Int)) (y := ((Sn R : Nat) : Int)) rfl (by decide) (fun h_1 => ?_) (fun h_1 => ?_)
    · refine E_go (p' := 103) (L' := [some (aA (a + 9)), some (aA (l + 9)), some (aI (bi b)), some (aI ((i : Nat) : Int))]) (st' := []) rfl rfl rfl ?_
      refine E_s (p' := 104) (st' := aI (bi b) :: _) rfl rfl ?_
      refine E_retB rfl rfl (bi01 _) ?_
      have ei : i = Sn R := by omega
      subst ei
      exact q b m h1 h2 h3 h4 h6
    · refine E_go (p' := 73) (L' := [some (aA (a + 9)), some (aA (l + 9)), some (aI (bi b)), some (aI ((i : Nat) : Int))]) (st' := []) rfl rfl rfl ?_
      have hp12 := (hV.2.2.2.2.2.1 i (by omega)).2
      refine E_s (p' := 74) (st' := aI (bi b) :: _) rfl rfl ?_
      refine E_s (p' := 75) (st' := aA (a + 9) :: _) rfl rfl ?_
      refine E_gA (b := a + 12) rfl rfl rfl (kR_9 hR) (hR_9_2 hR) rfl ?_
      refine E_s (p' := 79) (st' := aA (l + 9) :: _) rfl rfl ?_
      refine E_gA (b := l + 12) rfl rfl rfl (kR_9 hL) (hR_9_2 hL) rfl ?_
      refine E_s (p' := 83) (st' := aI ((i : Nat) : Int) :: _) rfl rfl ?_
      refine E_s (p' := 85) (st' := aI 12 :: _) rfl rfl ?_
      refine E_mul (v := ((12 * i : Nat) : Int)) rfl (by omega) (by omega) ?_
      refine E_s (p' := 87) (st' := aA (a + 9) :: _) rfl rfl ?_
      refine E_gA (b := a + 11) rfl rfl rfl (kR_9 hR) (hR_9_1 hR) rfl ?_
      refine E_s (p' := 91) (st' := aI ((i : Nat) : Int) :: _) rfl rfl ?_
      refine E_ald (e := i) (N := 40) (v := ((Sp R i : Nat) : Int)) rfl (kR_11 hR) (rfl) (by omega) (h3 _ (by omega)).2 ?_
      refine E_callL (p' := 95) (L0 := [some (aA (a + 12)), some (aA (l + 12)), some (aI ((12 * i : Nat) : Int)), some (aI ((Sp R i : Nat) : Int)), none, none]) rfl rfl rfl ?_
      refine c_takeRow (f := 12 * i) (n := Sp R i) (N1 := 480) (N2 := 480) (kR_12 hR) (kR_12 hL) (by omega) (by omega) (by decide) (fun b1 m1 hF1 ho1 hw1 hb1 => ?_)
      refine E_go (p' := 95) (L' := [some (aA (a + 9)), some (aA (l + 9)), some (aI (bi b)), some (aI ((i : Nat) : Int))]) (st' := [aI (bi b1), aI (bi b)]) rfl rfl rfl ?_
      refine E_orb (x := b) (y := b1) rfl ?_
      refine E_s (p' := 97) (L' := [some (aA (a + 9)), some (aA (l + 9)), some (aI (bi (b || b1))), some (aI ((i : Nat) : Int))]) rfl rfl ?_
      refine E_inc (x := ((i : Nat) : Int)) (w := ((i + 1 : Nat) : Int)) (L' := [some (aA (a + 9)), some (aA (l + 9)), some (aI (bi (b || b1))), some (aI ((i + 1 : Nat) : Int))]) rfl rfl rfl (by omega) (by omega) rfl ?_
      refine E_s (p' := 65) rfl rfl ?_
      refine ih (i + 1) _ m1 (by omega) (by omega) (fun p j hp => (hF1 p j (by omega)).trans (h1 p j hp)) ((hF1 _ _ (by omega)).trans h2) (fun c hc => ⟨(hF1 _ _ (by omega)).trans (h3 c hc).1, (hF1 _ _ (by omega)).trans (h3 c hc).2⟩) (fun c k hc hk => ?_) (fun j hj => ?_) (fun hb9 p j hp1 hp2 => ?_)
      · by_cases g : c = i
        · subst g
          refine (hw1 _ (by omega) (by omega)).trans (Eq.trans ?_ (CR_12 hC (by omega) hk rfl))
          rcases hal with e | e
          · subst e; exact h5 _ (by omega)
          · exact h1 _ _ (by omega)
        · have := (hV.2.2.2.2.2.1 c (by omega)).2
          exact (ho1 _ (by omega)).trans (h4 c k (by omega) hk)
      · exact (ho1 _ (by omega)).trans (h5 j (by omega))
      · have hb3 := Bool.or_eq_false_iff.mp hb9
        by_cases g : p = a + 12
        · subst g; exact (hb1 hb3.2 j).trans (h6 hb3.1 _ j hp1 hp2)
        · exact (hF1 _ _ (by omega)).trans (h6 hb3.1 p j hp1 hp2)
theorem c_becomeS (hR : isR a) (hL : isR l) (hC : CR R l m0) (hV : VR R) (q : ∀ (b : Bool) (m1 : Mm), Fx (a + 9) (a + 12) m0 m1 → m1 (a + 9) 3 = (Sn R : Int) → (∀ s, s < Sn R → m1 (a + 10) s = (Sw R s : Int) ∧ m1 (a + 11) s = (Sp R s : Int)) → (∀ s k, s < Sn R → k < Sp R s → m1 (a + 12) (12 * s + k) = (Sq R s k : Int)) → (b = false → ∀ p j, a + 9 ≤ p → p ≤ a + 12 → m1 p j = m0 p j) → Q (some (aI (bi b))) (m1, tl len)) : E 66 0 [some (aA (a + 9)), some (aA (l + 9)), none, none] [] (m0, tl len) Q := by
  have hs40 := hV.2.2.2.2.1
  have hal := isR_2 hR hL
  have hab := isR_b hR
  refine E_s (p' := 1) (st' := aA (a + 9) :: _) rfl rfl ?_
  refine E_gI (v := ((m0 (a + 9) 3))) rfl rfl rfl (kR_9 hR) rfl ?_
  refine E_s (p' := 5) (st' := aA (l + 9) :: _) rfl rfl ?_
  refine E_gI (v := ((Sn R : Nat) : Int)) rfl rfl rfl (kR_9 hL) (CRS hC) ?_
  suffices h_1 : E 66 16 [some (aA (a + 9)), some (aA (l + 9)), none, none] [aI (bi (!decide (((m0 (a + 9) 3)) = ((Sn R : Nat) : Int))))] (m0, tl len) Q by
    refine E_icmp_eq (x := ((m0 (a + 9) 3))) (y := ((Sn R : Nat) : Int)) rfl (by decide) (fun h_2 => ?_) (fun h_2 => ?_)
    · refine E_go (p' := 15) (L' := [some (aA (a + 9)), some (aA (l + 9)), none, none]) (st' := []) rfl rfl rfl ?_
      refine E_s (p' := 16) (st' := aI 0 :: _) rfl rfl ?_
      rw [decide_eq_true (p := ((m0 (a + 9) 3)) = ((Sn R : Nat) : Int)) (by omega)] at h_1
      exact h_1
    · refine E_go (p' := 11) (L' := [some (aA (a + 9)), some (aA (l + 9)), none, none]) (st' := []) rfl rfl rfl ?_
      refine E_s (p' := 12) (st' := aI 1 :: _) rfl rfl ?_
      refine E_s (p' := 16) rfl rfl ?_
      rw [decide_eq_false (p := ((m0 (a + 9) 3)) = ((Sn R : Nat) : Int)) (by omega)] at h_1
      exact h_1
  refine E_s (p' := 17) (L' := [some (aA (a + 9)), some (aA (l + 9)), some (aI (bi (!decide (((m0 (a + 9) 3)) = ((Sn R : Nat) : Int))))), none]) rfl rfl ?_
  refine E_s (p' := 18) (st' := aA (a + 9) :: _) rfl rfl ?_
  refine E_s (p' := 19) (st' := aA (l + 9) :: _) rfl rfl ?_
  refine E_gI (v := ((Sn R : Nat) : Int)) rfl rfl rfl (kR_9 hL) (CRS hC) ?_
  refine E_pI rfl rfl rfl (kR_9 hR) (Or.inl rfl) ?_
  refine E_s (p' := 26) (st' := aI (bi (!decide (((m0 (a + 9) 3)) = ((Sn R : Nat) : Int)))) :: _) rfl rfl ?_
  refine E_s (p' := 27) (st' := aA (a + 9) :: _) rfl rfl ?_
  refine E_gA (b := a + 10) rfl rfl rfl (kR_9 hR) (hR_9_0 hR) rfl ?_
  refine E_s (p' := 31) (st' := aA (l + 9) :: _) rfl rfl ?_
  refine E_gA (b := l + 10) rfl rfl rfl (kR_9 hL) (hR_9_0 hL) rfl ?_
  refine E_s (p' := 35) (st' := aI 0 :: _) rfl rfl ?_
  refine E_s (p' := 36) (st' := aA (a + 9) :: _) rfl rfl ?_
  refine E_gI (v := ((Sn R : Nat) : Int)) rfl rfl rfl (kR_9 hR) up2_eq ?_
  refine E_callL (p' := 42) (L0 := [some (aA (a + 10)), some (aA (l + 10)), some (aI 0), some (aI ((Sn R : Nat) : Int)), none, none]) rfl rfl rfl ?_
  refine c_takeRow (f := 0) (n := Sn R) (N1 := 40) (N2 := 40) (kR_10 hR) (kR_10 hL) (by omega) (by omega) (by decide) (fun b1 m1 hF1 ho1 hw1 hb1 => ?_)
  refine E_go (p' := 42) (L' := [some (aA (a + 9)), some (aA (l + 9)), some (aI (bi (!decide (((m0 (a + 9) 3)) = ((Sn R : Nat) : Int))))), none]) (st' := [aI (bi b1), aI (bi (!decide (((m0 (a + 9) 3)) = ((Sn R : Nat) : Int))))]) rfl rfl rfl ?_
  refine E_orb (x := (!decide (((m0 (a + 9) 3)) = ((Sn R : Nat) : Int)))) (y := b1) rfl ?_
  refine E_s (p' := 44) (L' := [some (aA (a + 9)), some (aA (l + 9)), some (aI (bi ((!decide (((m0 (a + 9) 3)) = ((Sn R : Nat) : Int))) || b1))), none]) rfl rfl ?_
  refine E_s (p' := 45) (st' := aI (bi ((!decide (((m0 (a + 9) 3)) = ((Sn R : Nat) : Int))) || b1)) :: _) rfl rfl ?_
  refine E_s (p' := 46) (st' := aA (a + 9) :: _) rfl rfl ?_
  refine E_gA (b := a + 11) rfl rfl rfl (kR_9 hR) (hR_9_1 hR) rfl ?_
  refine E_s (p' := 50) (st' := aA (l + 9) :: _) rfl rfl ?_
  refine E_gA (b := l + 11) rfl rfl rfl (kR_9 hL) (hR_9_1 hL) rfl ?_
  refine E_s (p' := 54) (st' := aI 0 :: _) rfl rfl ?_
  refine E_s (p' := 55) (st' := aA (a + 9) :: _) rfl rfl ?_
  refine E_gI (v := ((Sn R : Nat) : Int)) rfl rfl rfl (kR_9 hR) ((hF1 _ _ (by omega)).trans (up2_eq)) ?_
  refine E_callL (p' := 61) (L0 := [some (aA (a + 11)), some (aA (l + 11)), some (aI 0), some (aI ((Sn R : Nat) : Int)), none, none]) rfl rfl rfl ?_
  refine c_takeRow (f := 0) (n := Sn R) (N1 := 40) (N2 := 40) (kR_11 hR) (kR_11 hL) (by omega) (by omega) (by decide) (fun b2 m2 hF2 ho2 hw2 hb2 => ?_)
  refine E_go (p' := 61) (L' := [some (aA (a + 9)), some (aA (l + 9)), some (aI (bi ((!decide (((m0 (a + 9) 3)) = ((Sn R : Nat) : Int))) || b1))), none]) (st' := [aI (bi b2), aI (bi ((!decide (((m0 (a + 9) 3)) = ((Sn R : Nat) : Int))) || b1))]) rfl rfl rfl ?_
  refine E_orb (x := ((!decide (((m0 (a + 9) 3)) = ((Sn R : Nat) : Int))) || b1)) (y := b2) rfl ?_
  refine E_s (p' := 63) (L' := [some (aA (a + 9)), some (aA (l + 9)), some (aI (bi (((!decide (((m0 (a + 9) 3)) = ((Sn R : Nat) : Int))) || b1) || b2))), none]) rfl rfl ?_
  refine E_s (p' := 64) (st' := aI 0 :: _) rfl rfl ?_
  refine E_s (p' := 65) (L' := [some (aA (a + 9)), some (aA (l + 9)), some (aI (bi (((!decide (((m0 (a + 9) 3)) = ((Sn R : Nat) : Int))) || b1) || b2))), some (aI 0)]) rfl rfl ?_
  have hal := isR_2 hR hL
  have hab := isR_b hR
  have hr1 : ∀ c, c < Sn R → m2 (a + 10) c = m0 (l + 10) c := fun c hc => (hF2 _ _ (by omega)).trans ((hw1 c (by omega) (by omega)).trans (up2_ne (by omega)))
  have hr2 : ∀ c, c < Sn R → m2 (a + 11) c = m0 (l + 11) c := fun c hc => (hw2 c (by omega) (by omega)).trans ((hF1 _ _ (by omega)).trans (up2_ne (by omega)))
  have hFx : Fx (a + 9) (a + 12) m0 m2 := fun p j hp => (hF2 _ _ (by omega)).trans ((hF1 _ _ (by omega)).trans (up2_ne (by omega)))
  have h8 : ∀ j, m2 (a + 12) j = m0 (a + 12) j := fun j => (hF2 _ _ (by omega)).trans ((hF1 _ _ (by omega)).trans (up2_ne (by omega)))
  have h17 : m2 (a + 9) 3 = (Sn R : Int) := (hF2 _ _ (by omega)).trans ((hF1 _ _ (by omega)).trans up2_eq)
  refine l_bls hR hL hC hV q (Sn R + 1) 0 _ m2 (by omega) (by omega) hFx h17 (fun c hc => ⟨(hr1 c hc).trans (CR_10 hC hc), (hr2 c hc).trans (CR_11 hC hc)⟩) (fun c k hc => absurd hc (by omega)) (fun j _ => h8 j) (fun hb9 p j hp1 hp2 => ?_)
  simp only [Bool.or_eq_false_iff] at hb9
  obtain ⟨⟨c0, c1⟩, c2⟩ := hb9
  have hs0 : m0 (a + 9) 3 = (Sn R : Int) := by simpa using c0
  rcases (show p = a + 9 ∨ p = a + 10 ∨ p = a + 11 ∨ p = a + 12 by omega) with e | e | e | e
  · subst e
    refine (hF2 _ _ (by omega)).trans ((hF1 _ _ (by omega)).trans ?_)
    by_cases g : j = 3
    · subst g; exact up2_eq.trans hs0.symm
    · exact up2_sl g
  · subst e
    exact (hF2 _ _ (by omega)).trans ((hb1 c1 j).trans (up2_ne (by omega)))
  · subst e
    exact (hb2 c2 j).trans ((hF1 _ _ (by omega)).trans (up2_ne (by omega)))
  · subst e; exact h8 j
theorem up2_g {m : Mm} {R : RD} {a l b j : Nat} (g3 : b = l → j = 5) (hal : l = a ∨ l + 26 ≤ a ∨ a + 26 ≤ l) (hq : m l 5 = (Cq R : Int)) (g1 : l ≤ b := by omega) (g2 : b ≤ l + 12 := by omega) : up2 m a 5 (Cq R : Int) b j = m b j := by
  by_cases g : b = a ∧ j = 5
  · obtain ⟨rfl, rfl⟩ := g
    have e : l = b := by omega
    subst e
    rw [up2_eq, hq]
  · exact up2_o g
theorem CR_like {R : RD} {a l : Nat} {m m1 mc : Mm} (hal : l = a ∨ l + 26 ≤ a ∨ a + 26 ≤ l) (hC : CR R l m) (hF : Fx (a + 1) (a + 8) m1 mc) (h1 : mc (a + 1) 7 = (Cn R : Int)) (h2 : ∀ c, c < Cn R → CC R a mc c) (h3 : ∀ c k, c < Cn R → k < Ck R c → mc (a + 8) (30 * c + k) = (Cp R c k : Int)) (e : ∀ b j, l ≤ b → b ≤ l + 12 → (b = l → j = 5) → m1 b j = m b j) : CR R l mc := by
  rcases hal with g | g
  · subst g
    obtain ⟨-, k2, -, -, k5, k6, k7⟩ := hC
    exact ⟨h1, (hF _ _ (by omega)).trans ((e _ _ (by omega) (by omega) (by omega)).trans k2), h2, h3, (hF _ _ (by omega)).trans ((e _ _ (by omega) (by omega) (by omega)).trans k5), fun s hs => ⟨(hF _ _ (by omega)).trans ((e _ _ (by omega) (by omega) (by omega)).trans (k6 s hs).1), (hF _ _ (by omega)).trans ((e _ _ (by omega) (by omega) (by omega)).trans (k6 s hs).2)⟩, fun s p hs hp => (hF _ _ (by omega)).trans ((e _ _ (by omega) (by omega) (by omega)).trans (k7 s p hs hp))⟩
  · exact hC.of (fun b j g1 g2 g3 => (hF _ _ (by omega)).trans (e b j g1 g2 g3))
theorem c_becomeLike (hR : isR a) (hL : isR l) (hC : CR R l m0) (hV : VR R) (qA : CR R a m0 → Q none (m0, tl len)) (qB : ∀ m1, CR R a m1 → m1 a 7 = 0 → Fx a (a + 12) m0 m1 → Q none (m1, tl len)) : E 63 0 [some (aA a), some (aA l), none] [] (m0, tl len) Q := by
  have hal := isR_2 hR hL
  have hab := isR_b hR
  have hq0 := hC.2.1
  refine E_s (p' := 1) (st' := aA a :: _) rfl rfl ?_
  refine E_gI (v := ((m0 a 5))) rfl rfl rfl (kR_0 hR) rfl ?_
  refine E_s (p' := 5) (st' := aA l :: _) rfl rfl ?_
  refine E_gI (v := ((Cq R : Nat) : Int)) rfl rfl rfl (kR_0 hL) hC.2.1 ?_
  suffices h_1 : E 63 16 [some (aA a), some (aA l), none] [aI (bi (!decide (((m0 a 5)) = ((Cq R : Nat) : Int))))] (m0, tl len) Q by
    refine E_icmp_eq (x := ((m0 a 5))) (y := ((Cq R : Nat) : Int)) rfl (by decide) (fun h_2 => ?_) (fun h_2 => ?_)
    · refine E_go (p' := 15) (L' := [some (aA a), some (aA l), none]) (st' := []) rfl rfl rfl ?_
      refine E_s (p' := 16) (st' := aI 0 :: _) rfl rfl ?_
      rw [decide_eq_true (p := ((m0 a 5)) = ((Cq R : Nat) : Int)) (by omega)] at h_1
      exact h_1
    · refine E_go (p' := 11) (L' := [some (aA a), some (aA l), none]) (st' := []) rfl rfl rfl ?_
      refine E_s (p' := 12) (st' := aI 1 :: _) rfl rfl ?_
      refine E_s (p' := 16) rfl rfl ?_
      rw [decide_eq_false (p := ((m0 a 5)) = ((Cq R : Nat) : Int)) (by omega)] at h_1
      exact h_1
  refine E_s (p' := 17) (L' := [some (aA a), some (aA l), some (aI (bi (!decide (((m0 a 5)) = ((Cq R : Nat) : Int)))))]) rfl rfl ?_
  refine E_s (p' := 18) (st' := aA a :: _) rfl rfl ?_
  refine E_s (p' := 19) (st' := aA l :: _) rfl rfl ?_
  refine E_gI (v := ((Cq R : Nat) : Int)) rfl rfl rfl (kR_0 hL) hC.2.1 ?_
  refine E_pI rfl rfl rfl (kR_0 hR) (Or.inl rfl) ?_
  refine E_s (p' := 26) (st' := aI (bi (!decide (((m0 a 5)) = ((Cq R : Nat) : Int)))) :: _) rfl rfl ?_
  refine E_s (p' := 27) (st' := aA a :: _) rfl rfl ?_
  refine E_gA (b := a + 1) rfl rfl rfl (kR_0 hR) (hR_0_0 hR) rfl ?_
  refine E_s (p' := 31) (st' := aA l :: _) rfl rfl ?_
  refine E_gA (b := l + 1) rfl rfl rfl (kR_0 hL) (hR_0_0 hL) rfl ?_
  refine E_callV (k' := 64) (a := a + 1) (r := [aI (bi (!decide (((m0 a 5)) = ((Cq R : Nat) : Int))))]) (L0 := [some (aA (a + 1)), some (aA (l + 1)), none, none]) rfl rfl rfl rfl rfl (kR_1 hR) rfl rfl rfl rfl ?_
  refine c_becomeC hR hL (hC.of (fun b j g1 g2 g3 => up2_g g3 hal hq0)) hV (fun bc mc hFc hc1 hc2 hc3 hc4 => ?_)
  refine E_go (p' := 37) (L' := [some (aA a), some (aA l), some (aI (bi (!decide (((m0 a 5)) = ((Cq R : Nat) : Int)))))]) (st' := [aI (bi bc), aI (bi (!decide (((m0 a 5)) = ((Cq R : Nat) : Int))))]) rfl rfl rfl ?_
  have hCl : CR R l mc := CR_like hal hC hFc hc1 hc2 hc3 (fun b j g1 g2 g3 => up2_g g3 hal hq0)
  refine E_orb (x := (!decide (((m0 a 5)) = ((Cq R : Nat) : Int)))) (y := bc) rfl ?_
  refine E_s (p' := 39) (L' := [some (aA a), some (aA l), some (aI (bi ((!decide (((m0 a 5)) = ((Cq R : Nat) : Int))) || bc)))]) rfl rfl ?_
  refine E_s (p' := 40) (st' := aI (bi ((!decide (((m0 a 5)) = ((Cq R : Nat) : Int))) || bc)) :: _) rfl rfl ?_
  refine E_s (p' := 41) (st' := aA a :: _) rfl rfl ?_
  refine E_gA (b := a + 9) rfl rfl rfl (kR_0 hR) (hR_0_1 hR) rfl ?_
  refine E_s (p' := 45) (st' := aA l :: _) rfl rfl ?_
  refine E_gA (b := l + 9) rfl rfl rfl (kR_0 hL) (hR_0_1 hL) rfl ?_
  refine E_callV (k' := 66) (a := a + 9) (r := [aI (bi ((!decide (((m0 a 5)) = ((Cq R : Nat) : Int))) || bc))]) (L0 := [some (aA (a + 9)), some (aA (l + 9)), none, none]) rfl rfl rfl rfl rfl (kR_9 hR) rfl rfl rfl rfl ?_
  refine c_becomeS hR hL hCl hV (fun bs ms hFs hs1 hs2 hs3 hs4 => ?_)
  refine E_go (p' := 51) (L' := [some (aA a), some (aA l), some (aI (bi ((!decide (((m0 a 5)) = ((Cq R : Nat) : Int))) || bc)))]) (st' := [aI (bi bs), aI (bi ((!decide (((m0 a 5)) = ((Cq R : Nat) : Int))) || bc))]) rfl rfl rfl ?_
  refine E_orb (x := ((!decide (((m0 a 5)) = ((Cq R : Nat) : Int))) || bc)) (y := bs) rfl ?_
  refine E_s (p' := 53) (L' := [some (aA a), some (aA l), some (aI (bi (((!decide (((m0 a 5)) = ((Cq R : Nat) : Int))) || bc) || bs)))]) rfl rfl ?_
  have hCa : CR R a ms := ⟨(hFs _ _ (by omega)).trans hc1, (hFs _ _ (by omega)).trans ((hFc _ _ (by omega)).trans up2_eq), fun c hc => by obtain ⟨g1, g2, g3, g4, g5, g6⟩ := hc2 c hc; exact ⟨(hFs _ _ (by omega)).trans g1, (hFs _ _ (by omega)).trans g2, (hFs _ _ (by omega)).trans g3, (hFs _ _ (by omega)).trans g4, (hFs _ _ (by omega)).trans g5, (hFs _ _ (by omega)).trans g6⟩, fun c k hc hk => (hFs _ _ (by omega)).trans (hc3 c k hc hk), hs1, hs2, hs3⟩
  refine E_s (p' := 54) (st' := aI (bi (((!decide (((m0 a 5)) = ((Cq R : Nat) : Int))) || bc) || bs)) :: _) rfl rfl ?_
  refine E_b_eq0 (b := (((!decide (((m0 a 5)) = ((Cq R : Nat) : Int))) || bc) || bs)) rfl (by decide) (fun h_3 => ?_) (fun h_3 => ?_)
  · refine E_go (p' := 61) (L' := [some (aA a), some (aA l), some (aI (bi (((!decide (((m0 a 5)) = ((Cq R : Nat) : Int))) || bc) || bs)))]) (st' := []) rfl rfl rfl ?_
    have h_b := h_3
    refine E_ret rfl rfl ?_
    simp only [Bool.or_eq_false_iff] at h_b
    obtain ⟨⟨c0, c1⟩, c2⟩ := h_b
    have hg0 : m0 a 5 = (Cq R : Int) := by simpa using c0
    have e : ms = m0 := by
      funext p j
      by_cases g9 : a + 9 ≤ p ∧ p ≤ a + 12
      · rw [hs4 c2 p j g9.1 g9.2, hFc _ _ (by omega)]; exact up2_ne (by omega)
      · rw [hFs _ _ (by omega)]
        by_cases g1 : a + 1 ≤ p ∧ p ≤ a + 8
        · rw [hc4 c1 p j g1.1 g1.2]; exact up2_ne (by omega)
        · rw [hFc _ _ (by omega)]
          by_cases g : p = a ∧ j = 5
          · obtain ⟨rfl, rfl⟩ := g; exact up2_eq.trans hg0.symm
          · exact up2_o g
    subst e
    exact qA hCa
  · refine E_go (p' := 57) (L' := [some (aA a), some (aA l), some (aI (bi (((!decide (((m0 a 5)) = ((Cq R : Nat) : Int))) || bc) || bs)))]) (st' := []) rfl rfl rfl ?_
    refine E_s (p' := 58) (st' := aA a :: _) rfl rfl ?_
    refine E_callV (k' := 15) (a := a) (r := []) (L0 := [some (aA a)]) rfl rfl rfl rfl rfl (kR_0 hR) rfl rfl rfl rfl ?_
    refine c_changed hR ?_
    refine E_go (p' := 61) (L' := [some (aA a), some (aA l), some (aI (bi (((!decide (((m0 a 5)) = ((Cq R : Nat) : Int))) || bc) || bs)))]) (st' := []) rfl rfl rfl ?_
    refine E_ret rfl rfl ?_
    exact qB _ (hCa.of (fun b j g1 g2 g3 => (up2_o (by omega)).trans (up2_o (by omega)))) ((up2_sl (by decide)).trans up2_eq) (fun b j hb => (up2_ne (by omega)).trans ((up2_ne (by omega)).trans ((hFs _ _ (by omega)).trans ((hFc _ _ (by omega)).trans (up2_ne (by omega))))))
end
