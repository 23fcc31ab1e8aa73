section
variable {len : Nat} {m m0 : Mm} {Q : Option AV → Sx → Prop} {R : RD} {a c : Nat} {x y : Int}
theorem c_ownLeast (hR : isR a) (hV : VR R) (hd9 : RdC R a m) (hc : c < Cn R) (q : Q (some (aI (oL R c))) (m, tl len)) : E 88 0 [some (aA (a + 15)), some (aI ((c : Nat) : Int))] [] (m, tl len) Q := by
  have hn60 := hV.1
  have hvb := Rvl_c hV hc
  have hlb := Rls_b (R := R) c
  refine E_s (p' := 1) (st' := aA (a + 15) :: _) rfl rfl ?_
  refine E_gA (b := a + 21) rfl rfl rfl (kR_15 hR) (hR_15_5 hR) rfl ?_
  refine E_s (p' := 5) (st' := aI ((c : Nat) : Int) :: _) rfl rfl ?_
  refine E_ald (e := c) (N := 60) (v := ((Rft R c : Nat) : Int)) rfl (kR_21 hR) (rfl) (by omega) (hd9.2.2.2 _ (by omega)).2.1 ?_
  refine E_if_ne (x := ((Rft R c : Nat) : Int)) rfl (by decide) (fun h_1 => ?_) (fun h_1 => ?_)
  · refine E_go (p' := 18) (L' := [some (aA (a + 15)), some (aI ((c : Nat) : Int))]) (st' := []) rfl rfl rfl ?_
    refine E_s (p' := 19) (st' := aI 0 :: _) rfl rfl ?_
    refine E_ret rfl rfl ?_
    rw [show oL R c = 0 by unfold oL; rw [if_neg (by omega)]] at q
    exact q
  · refine E_go (p' := 9) (L' := [some (aA (a + 15)), some (aI ((c : Nat) : Int))]) (st' := []) rfl rfl rfl ?_
    refine E_s (p' := 10) (st' := aA (a + 15) :: _) rfl rfl ?_
    refine E_gA (b := a + 22) rfl rfl rfl (kR_15 hR) (hR_15_6 hR) rfl ?_
    refine E_s (p' := 14) (st' := aI ((c : Nat) : Int) :: _) rfl rfl ?_
    refine E_ald (e := c) (N := 60) (v := ((Rvl R c : Nat) : Int)) rfl (kR_22 hR) (rfl) (by omega) (hd9.2.2.2 _ (by omega)).2.2.1 ?_
    refine E_s (p' := 19) rfl rfl ?_
    refine E_ret rfl rfl ?_
    rw [show oL R c = ((Rvl R c : Nat) : Int) by unfold oL; rw [if_pos (by omega)]] at q
    exact q
theorem c_ownGreatest (hR : isR a) (hV : VR R) (hd9 : RdC R a m) (hc : c < Cn R) (q : Q (some (aI (oH R c))) (m, tl len)) : E 89 0 [some (aA (a + 15)), some (aI ((c : Nat) : Int))] [] (m, tl len) Q := by
  have hn60 := hV.1
  have hvb := Rvl_c hV hc
  have hlb := Rls_b (R := R) c
  refine E_s (p' := 1) (st' := aA (a + 15) :: _) rfl rfl ?_
  refine E_gA (b := a + 21) rfl rfl rfl (kR_15 hR) (hR_15_5 hR) rfl ?_
  refine E_s (p' := 5) (st' := aI ((c : Nat) : Int) :: _) rfl rfl ?_
  refine E_ald (e := c) (N := 60) (v := ((Rft R c : Nat) : Int)) rfl (kR_21 hR) (rfl) (by omega) (hd9.2.2.2 _ (by omega)).2.1 ?_
  refine E_if_ne (x := ((Rft R c : Nat) : Int)) rfl (by decide) (fun h_1 => ?_) (fun h_1 => ?_)
  · refine E_go (p' := 25) (L' := [some (aA (a + 15)), some (aI ((c : Nat) : Int))]) (st' := []) rfl rfl rfl ?_
    refine E_s (p' := 27) (st' := aI 999999 :: _) rfl rfl ?_
    refine E_ret rfl rfl ?_
    rw [show oH R c = 999999 by unfold oH; rw [if_neg (by omega)]] at q
    exact q
  · refine E_go (p' := 9) (L' := [some (aA (a + 15)), some (aI ((c : Nat) : Int))]) (st' := []) rfl rfl rfl ?_
    refine E_s (p' := 10) (st' := aA (a + 15) :: _) rfl rfl ?_
    refine E_gA (b := a + 22) rfl rfl rfl (kR_15 hR) (hR_15_6 hR) rfl ?_
    refine E_s (p' := 14) (st' := aI ((c : Nat) : Int) :: _) rfl rfl ?_
    refine E_ald (e := c) (N := 60) (v := ((Rvl R c : Nat) : Int)) rfl (kR_22 hR) (rfl) (by omega) (hd9.2.2.2 _ (by omega)).2.2.1 ?_
    refine E_s (p' := 16) (st' := aA (a + 15) :: _) rfl rfl ?_
    refine E_gA (b := a + 23) rfl rfl rfl (kR_15 hR) (hR_15_7 hR) rfl ?_
    refine E_s (p' := 20) (st' := aI ((c : Nat) : Int) :: _) rfl rfl ?_
    refine E_ald (e := c) (N := 60) (v := ((Rls R c : Nat) : Int)) rfl (kR_23 hR) (rfl) (by omega) (hd9.2.2.2 _ (by omega)).2.2.2 ?_
    refine E_add (v := ((Rvl R c + Rls R c : Nat) : Int)) rfl (by omega) (by omega) ?_
    refine E_s (p' := 27) rfl rfl ?_
    refine E_ret rfl rfl ?_
    rw [show oH R c = ((Rvl R c + Rls R c : Nat) : Int) by unfold oH; rw [if_pos (by omega)]] at q
    exact q
theorem yl_ts (hR : isR a) (hC : CR R a m0) (hV : VR R) (hd : RdC R a m0) (q : ∀ m1 : Mm, Fx 3 5 m0 m1 → (∀ c, c < Cn R → m1 4 c = sL R x y c ∧ m1 5 c = sH R x y c) → Q none (m1, tl len)) : ∀ (d : Nat) (c : Nat) (m : Mm) (x6 : Option AV), (Cn R < c + d) → (c ≤ Cn R) → (Fx 3 5 m0 m) → (∀ d, d < c → m 4 d = sL R x y d ∧ m 5 d = sH R x y d) → E 87 14 [some (aA 3), some (aA a), some (aI (x)), some (aI (y)), some (aA (a + 15)), some (aI ((c : Nat) : Int)), x6] [] (m, tl len) Q := by
  intro d
  induction d with
  | zero => intro c m x6 hd9 hc I1 I2; omega
  | succ d ih =>
    intro c m x6 hd9 hc I1 I2
    have hab := isR_b hR
    have hn60 := hV.1
    have hCm : CR R a m := hC.of (fun b j g1 g2 _ => I1 b j (by omega))
    have hdm : RdC R a m := hd.of (fun b j g1 g2 => I1 b j (by omega))
    refine E_s (p' := 16) (st' := aI ((c : Nat) : Int) :: _) rfl rfl ?_
    refine E_s (p' := 17) (st' := aA a :: _) rfl rfl ?_
    refine E_gA (b := a + 1) rfl rfl rfl (kR_0 hR) (hR_0_0 hR) rfl ?_
    refine E_gI (v := ((Cn R : Nat) : Int)) rfl rfl rfl (kR_1 hR) hCm.1 ?_
    refine E_icmp_ge (x := ((c : Nat) : Int)) (y := ((Cn R : Nat) : Int)) rfl (by decide) (fun h_1 => ?_) (fun h_1 => ?_)
    · refine E_go (p' := 98) (L' := [some (aA 3), some (aA a), some (aI (x)), some (aI (y)), some (aA (a + 15)), some (aI ((c : Nat) : Int)), x6]) (st' := []) rfl rfl rfl ?_
      refine E_ret rfl rfl ?_
      have e9 : c = Cn R := by omega
      subst e9
      exact q m I1 I2
    · refine E_go (p' := 26) (L' := [some (aA 3), some (aA a), some (aI (x)), some (aI (y)), some (aA (a + 15)), some (aI ((c : Nat) : Int)), x6]) (st' := []) rfl rfl rfl ?_
      refine E_s (p' := 28) (st' := aI ((c : Nat) : Int) :: _) rfl rfl ?_
      refine E_s (p' := 29) (st' := aI (x) :: _) rfl rfl ?_
      refine E_icmp_eq (x := ((c : Nat) : Int)) (y := (x)) rfl (by decide) (fun h_2 => ?_) (fun h_2 => ?_)
      · refine E_go (p' := 38) (L' := [some (aA 3), some (aA a), some (aI (x)), some (aI (y)), some (aA (a + 15)), some (aI ((c : Nat) : Int)), x6]) (st' := []) rfl rfl rfl ?_
        refine E_s (p' := 39) (st' := aI 1 :: _) rfl rfl ?_
        refine E_s (p' := 43) rfl rfl ?_
        refine E_s (p' := 45) (L' := [some (aA 3), some (aA a), some (aI (x)), some (aI (y)), some (aA (a + 15)), some (aI ((c : Nat) : Int)), some (aI 1)]) rfl rfl ?_
        refine E_s (p' := 46) (st' := aA 3 :: _) rfl rfl ?_
        refine E_gA (b := 4) rfl rfl rfl rfl hm_3_0 rfl ?_
        refine E_s (p' := 51) (st' := aI ((c : Nat) : Int) :: _) rfl rfl ?_
        refine E_s (p' := 53) (st' := aI 1 :: _) rfl rfl ?_
        refine E_s (p' := 56) rfl rfl ?_
        refine E_s (p' := 57) (st' := aI 0 :: _) rfl rfl ?_
        refine E_s (p' := 67) rfl rfl ?_
        refine E_ast (e := c) (N := 60) rfl rfl (rfl) (by omega) ?_
        refine E_s (p' := 69) (st' := aA 3 :: _) rfl rfl ?_
        refine E_gA (b := 5) rfl rfl rfl rfl hm_3_1 rfl ?_
        refine E_s (p' := 74) (st' := aI ((c : Nat) : Int) :: _) rfl rfl ?_
        refine E_s (p' := 76) (st' := aI 1 :: _) rfl rfl ?_
        refine E_s (p' := 79) rfl rfl ?_
        refine E_s (p' := 81) (st' := aI 999999 :: _) rfl rfl ?_
        refine E_s (p' := 91) rfl rfl ?_
        refine E_ast (e := c) (N := 60) rfl rfl (rfl) (by omega) ?_
        refine E_inc (x := ((c : Nat) : Int)) (w := ((c + 1 : Nat) : Int)) (L' := [some (aA 3), some (aA a), some (aI (x)), some (aI (y)), some (aA (a + 15)), some (aI ((c + 1 : Nat) : Int)), some (aI 1)]) rfl rfl rfl (by omega) (by omega) rfl ?_
        refine E_s (p' := 14) rfl rfl ?_
        have ea : (((c : Nat) : Int) = x ∨ ((c : Nat) : Int) = y) = True := by simp only [eq_iff_iff, iff_true]; omega
        refine ih (c + 1) _ _ (by omega) (by omega) ((I1.up (by omega) (by omega)).up (by omega) (by omega)) (fun d hd8 => ?_)
        by_cases g9 : d = c
        · rw [g9]
          refine ⟨((up2_ne (by omega)).trans up2_eq).trans ?_, up2_eq.trans ?_⟩
          · unfold sL; simp only [ea, if_true, if_false]
          · unfold sH; simp only [ea, if_true, if_false]
        · exact ⟨(up2_ne (by omega)).trans ((up2_sl g9).trans (I2 d (by omega)).1), (up2_sl g9).trans ((up2_ne (by omega)).trans (I2 d (by omega)).2)⟩
      · refine E_go (p' := 32) (L' := [some (aA 3), some (aA a), some (aI (x)), some (aI (y)), some (aA (a + 15)), some (aI ((c : Nat) : Int)), x6]) (st' := []) rfl rfl rfl ?_
        refine E_s (p' := 34) (st' := aI ((c : Nat) : Int) :: _) rfl rfl ?_
        refine E_s (p' := 35) (st' := aI (y) :: _) rfl rfl ?_
        refine E_icmp_ne (x := ((c : Nat) : Int)) (y := (y)) rfl (by decide) (fun h_3 => ?_) (fun h_3 => ?_)
        · refine E_go (p' := 42) (L' := [some (aA 3), some (aA a), some (aI (x)), some (aI (y)), some (aA (a + 15)), some (aI ((c : Nat) : Int)), x6]) (st' := []) rfl rfl rfl ?_
          refine E_s (p' := 43) (st' := aI 0 :: _) rfl rfl ?_
          refine E_s (p' := 45) (L' := [some (aA 3), some (aA a), some (aI (x)), some (aI (y)), some (aA (a + 15)), some (aI ((c : Nat) : Int)), some (aI 0)]) rfl rfl ?_
          refine E_s (p' := 46) (st' := aA 3 :: _) rfl rfl ?_
          refine E_gA (b := 4) rfl rfl rfl rfl hm_3_0 rfl ?_
          refine E_s (p' := 51) (st' := aI ((c : Nat) : Int) :: _) rfl rfl ?_
          refine E_s (p' := 53) (st' := aI 0 :: _) rfl rfl ?_
          refine E_s (p' := 60) rfl rfl ?_
          refine E_s (p' := 62) (st' := aA (a + 15) :: _) rfl rfl ?_
          refine E_s (p' := 64) (st' := aI ((c : Nat) : Int) :: _) rfl rfl ?_
          refine E_callV (k' := 88) (a := a + 15) (r := [aI ((c : Nat) : Int), aA 4]) (L0 := [some (aA (a + 15)), some (aI ((c : Nat) : Int))]) rfl rfl rfl rfl rfl (kR_15 hR) rfl rfl rfl rfl ?_
          refine c_ownLeast hR hV (hdm.of (fun b j g1 g2 => rfl)) (c := c) (by omega) ?_
          refine E_go (p' := 67) (L' := [some (aA 3), some (aA a), some (aI (x)), some (aI (y)), some (aA (a + 15)), some (aI ((c : Nat) : Int)), some (aI 0)]) (st' := [aI ((oL R c)), aI ((c : Nat) : Int), aA 4]) rfl rfl rfl ?_
          refine E_ast (e := c) (N := 60) rfl rfl (rfl) (by omega) ?_
          refine E_s (p' := 69) (st' := aA 3 :: _) rfl rfl ?_
          refine E_gA (b := 5) rfl rfl rfl rfl hm_3_1 rfl ?_
          refine E_s (p' := 74) (st' := aI ((c : Nat) : Int) :: _) rfl rfl ?_
          refine E_s (p' := 76) (st' := aI 0 :: _) rfl rfl ?_
          refine E_s (p' := 84) rfl rfl ?_
          refine E_s (p' := 86) (st' := aA (a + 15) :: _) rfl rfl ?_
          refine E_s (p' := 88) (st' := aI ((c : Nat) : Int) :: _) rfl rfl ?_
          refine E_callV (k' := 89) (a := a + 15) (r := [aI ((c : Nat) : Int), aA 5]) (L0 := [some (aA (a + 15)), some (aI ((c : Nat) : Int))]) rfl rfl rfl rfl rfl (kR_15 hR) rfl rfl rfl rfl ?_
          refine c_ownGreatest hR hV (hdm.of (fun b j g1 g2 => (up2_ne (by omega)))) (c := c) (by omega) ?_
          refine E_go (p' := 91) (L' := [some (aA 3), some (aA a), some (aI (x)), some (aI (y)), some (aA (a + 15)), some (aI ((c : Nat) : Int)), some (aI 0)]) (st' := [aI ((oH R c)), aI ((c : Nat) : Int), aA 5]) rfl rfl rfl ?_
          refine E_ast (e := c) (N := 60) rfl rfl (rfl) (by omega) ?_
          refine E_inc (x := ((c : Nat) : Int)) (w := ((c + 1 : Nat) : Int)) (L' := [some (aA 3), some (aA a), some (aI (x)), some (aI (y)), some (aA (a + 15)), some (aI ((c + 1 : Nat) : Int)), some (aI 0)]) rfl rfl rfl (by omega) (by omega) rfl ?_
          refine E_s (p' := 14) rfl rfl ?_
          have ea : (((c : Nat) : Int) = x ∨ ((c : Nat) : Int) = y) = False := by simp only [eq_iff_iff, iff_false]; omega
          refine ih (c + 1) _ _ (by omega) (by omega) ((I1.up (by omega) (by omega)).up (by omega) (by omega)) (fun d hd8 => ?_)
          by_cases g9 : d = c
          · rw [g9]
            refine ⟨((up2_ne (by omega)).trans up2_eq).trans ?_, up2_eq.trans ?_⟩
            · unfold sL; simp only [ea, if_true, if_false]
            · unfold sH; simp only [ea, if_true, if_false]
          · exact ⟨(up2_ne (by omega)).trans ((up2_sl g9).trans (I2 d (by omega)).1), (up2_sl g9).trans ((up2_ne (by omega)).trans (I2 d (by omega)).2)⟩
        · refine E_go (p' := 38) (L' := [some (aA 3), some (aA a), some (aI (x)), some (aI (y)), some (aA (a + 15)), some (aI ((c : Nat) : Int)), x6]) (st' := []) rfl rfl rfl ?_
          refine E_s (p' := 39) (st' := aI 1 :: _) rfl rfl ?_
          refine E_s (p' := 43) rfl rfl ?_
          refine E_s (p' := 45) (L' := [some (aA 3), some (aA a), some (aI (x)), some (aI (y)), some (aA (a + 15)), some (aI ((c : Nat) : Int)), some (aI 1)]) rfl rfl ?_
          refine E_s (p' := 46) (st' := aA 3 :: _) rfl rfl ?_
          refine E_gA (b := 4) rfl rfl rfl rfl hm_3_0 rfl ?_
          refine E_s (p' := 51) (st' := aI ((c : Nat) : Int) :: _) rfl rfl ?_
          refine E_s (p' := 53) (st' := aI 1 :: _) rfl rfl ?_
          refine E_s (p' := 56) rfl rfl ?_
          refine E_s (p' := 57) (st' := aI 0 :: _) rfl rfl ?_
          refine E_s (p' := 67) rfl rfl ?_
          refine E_ast (e := c) (N := 60) rfl rfl (rfl) (by omega) ?_
          refine E_s (p' := 69) (st' := aA 3 :: _) rfl rfl ?_
          refine E_gA (b := 5) rfl rfl rfl rfl hm_3_1 rfl ?_
          refine E_s (p' := 74) (st' := aI ((c : Nat) : Int) :: _) rfl rfl ?_
          refine E_s (p' := 76) (st' := aI 1 :: _) rfl rfl ?_
          refine E_s (p' := 79) rfl rfl ?_
          refine E_s (p' := 81) (st' := aI 999999 :: _) rfl rfl ?_
          refine E_s (p' := 91) rfl rfl ?_
          refine E_ast (e := c) (N := 60) rfl rfl (rfl) (by omega) ?_
          refine E_inc (x := ((c : Nat) : Int)) (w := ((c + 1 : Nat) : Int)) (L' := [some (aA 3), some (aA a), some (aI (x)), some (aI (y)), some (aA (a + 15)), some (aI ((c + 1 : Nat) : Int)), some (aI 1)]) rfl rfl rfl (by omega) (by omega) rfl ?_
          refine E_s (p' := 14) rfl rfl ?_
          have ea : (((c : Nat) : Int) = x ∨ ((c : Nat) : Int) = y) = True := by simp only [eq_iff_iff, iff_true]; omega
          refine ih (c + 1) _ _ (by omega) (by omega) ((I1.up (by omega) (by omega)).up (by omega) (by omega)) (fun d hd8 => ?_)
          by_cases g9 : d = c
          · rw [g9]
            refine ⟨((up2_ne (by omega)).trans up2_eq).trans ?_, up2_eq.trans ?_⟩
            · unfold sL; simp only [ea, if_true, if_false]
            · unfold sH; simp only [ea, if_true, if_false]
          · exact ⟨(up2_ne (by omega)).trans ((up2_sl g9).trans (I2 d (by omega)).1), (up2_sl g9).trans ((up2_ne (by omega)).trans (I2 d (by omega)).2)⟩
theorem c_takeOwn (hR : isR a) (hC : CR R a m0) (hV : VR R) (hd : RdC R a m0) (q : ∀ m1 : Mm, Fx 3 5 m0 m1 → (∀ c, c < Cn R → m1 4 c = sL R x y c ∧ m1 5 c = sH R x y c) → Q none (m1, tl len)) : E 87 0 [some (aA 3), some (aA a), some (aI (x)), some (aI (y)), none, none, none] [] (m0, tl len) Q := by
  have hab := isR_b hR
  refine E_s (p' := 1) (st' := aA a :: _) rfl rfl ?_
  refine E_gA (b := a + 15) rfl rfl rfl (kR_0 hR) (hR_0_4 hR) rfl ?_
  refine E_s (p' := 6) (L' := [some (aA 3), some (aA a), some (aI (x)), some (aI (y)), some (aA (a + 15)), none, none]) rfl rfl ?_
  refine E_s (p' := 7) (st' := aA 3 :: _) rfl rfl ?_
  refine E_s (p' := 8) (st' := aI (-1) :: _) rfl rfl ?_
  refine E_pI rfl rfl rfl rfl (Or.inl rfl) ?_
  refine E_s (p' := 12) (st' := aI 0 :: _) rfl rfl ?_
  refine E_s (p' := 14) (L' := [some (aA 3), some (aA a), some (aI (x)), some (aI (y)), some (aA (a + 15)), some (aI 0), none]) rfl rfl ?_
  exact yl_ts hR (hC.of (fun b j g1 g2 _ => up2_ne (by omega))) hV (hd.of (fun b j g1 g2 => up2_ne (by omega))) (fun m1 F1 V1 => q m1 (fun b j hb => (F1 b j hb).trans (up2_ne (by omega))) V1) (Cn R + 1) 0 _ none (by omega) (by omega) Fx.rf (fun d hd8 => absurd hd8 (by omega))
theorem yl_rn (hR : isR a) (hC : CR R a m0) (hV : VR R) (hd : RdC R a m0) (q : ∀ m1 : Mm, Fx 3 7 m0 m1 → (∀ c, c < Cn R → m1 4 c = (rnd R 200 0 (sL R x y) (sH R x y)).2.1 c ∧ m1 5 c = (rnd R 200 0 (sL R x y) (sH R x y)).2.2 c) → Q (some (aI (rnd R 200 0 (sL R x y) (sH R x y)).1)) (m1, tl len)) : ∀ (d : Nat) (e i : Nat) (lo hi : Nat → Int) (m : Mm), (e < d) → (i + e = 200) → (rnd R 200 0 (sL R x y) (sH R x y) = rnd R e i lo hi) → (bnd (Cn R) lo hi) → (Fx 3 7 m0 m) → (∀ c, c < Cn R → m 4 c = lo c ∧ m 5 c = hi c) → E 86 10 [some (aA 3), some (aA a), some (aI (x)), some (aI (y)), some (aI ((i + 1 : Nat) : Int))] [] (m, tl len) Q := by
  intro d
  induction d with
  | zero => intro e i lo hi m hd9 hie hq hb I1 I2; omega
  | succ d ih =>
    intro e i lo hi m hd9 hie hq hb I1 I2
    have hab := isR_b hR
    have hn60 := hV.1
    refine E_s (p' := 12) (st' := aI ((i + 1 : Nat) : Int) :: _) rfl rfl ?_
    refine E_s (p' := 15) (st' := aI 200 :: _) rfl rfl ?_
    refine E_icmp_gt (x := ((i + 1 : Nat) : Int)) (y := 200) rfl (by decide) (fun h_1 => ?_) (fun h_1 => ?_)
    · refine E_go (p' := 68) (L' := [some (aA 3), some (aA a), some (aI (x)), some (aI (y)), some (aI ((i + 1 : Nat) : Int))]) (st' := []) rfl rfl rfl ?_
      refine E_s (p' := 70) (st' := aI (-4) :: _) rfl rfl ?_
      refine E_ret rfl rfl ?_
      have e9 : e = 0 := by omega
      subst e9
      rw [hq] at q
      exact q m I1 I2
    · refine E_go (p' := 18) (L' := [some (aA 3), some (aA a), some (aI (x)), some (aI (y)), some (aI ((i + 1 : Nat) : Int))]) (st' := []) rfl rfl rfl ?_
      refine E_s (p' := 19) (st' := aA 3 :: _) rfl rfl ?_
      refine E_s (p' := 21) (st' := aI ((i + 1 : Nat) : Int) :: _) rfl rfl ?_
      refine E_pI rfl rfl rfl rfl (Or.inl rfl) ?_
      refine E_s (p' := 25) (st' := aA 3 :: _) rfl rfl ?_
      refine E_s (p' := 26) (st' := aA a :: _) rfl rfl ?_
      refine E_callV (k' := 90) (a := 3) (r := []) (L0 := [some (aA 3), some (aA a), none, none]) rfl rfl rfl rfl rfl rfl rfl rfl rfl rfl ?_
      refine c_doRound hR (hC.of (fun b j g1 g2 _ => (up2_ne (by omega)).trans (I1 b j (by omega)))) hV hb (fun c hc => ⟨(up2_ne (by omega)).trans (I2 c hc).1, (up2_ne (by omega)).trans (I2 c hc).2⟩) (fun m1 F1 V1 => ?_)
      refine E_go (p' := 29) (L' := [some (aA 3), some (aA a), some (aI (x)), some (aI (y)), some (aI ((i + 1 : Nat) : Int))]) (st' := [aI (bi (rdC R lo hi (Cn R)))]) rfl rfl rfl ?_
      refine E_b_ne0 (b := (rdC R lo hi (Cn R))) rfl (by decide) (fun h_2 => ?_) (fun h_2 => ?_)
      · refine E_go (p' := 37) (L' := [some (aA 3), some (aA a), some (aI (x)), some (aI (y)), some (aI ((i + 1 : Nat) : Int))]) (st' := []) rfl rfl rfl ?_
        refine E_s (p' := 38) (st' := aA 3 :: _) rfl rfl ?_
        refine E_s (p' := 39) (st' := aA 3 :: _) rfl rfl ?_
        refine E_s (p' := 40) (st' := aA a :: _) rfl rfl ?_
        refine E_gA (b := a + 1) rfl rfl rfl (kR_0 hR) (hR_0_0 hR) rfl ?_
        refine E_gI (v := ((Cn R : Nat) : Int)) rfl rfl rfl (kR_1 hR) (hC.of (fun b j g1 g2 _ => (F1 b j (by omega)).trans ((up2_ne (by omega)).trans (I1 b j (by omega))))).1 ?_
        refine E_callV (k' := 93) (a := 3) (r := [aA 3]) (L0 := [some (aA 3), some (aI ((Cn R : Nat) : Int)), none]) rfl rfl rfl rfl rfl rfl rfl rfl rfl rfl ?_
        refine c_firstNone hn60 V1 (fun cb hc1 hc2 hc3 => ?_) (fun hno => ?_)
        · refine E_go (p' := 49) (L' := [some (aA 3), some (aA a), some (aI (x)), some (aI (y)), some (aI ((i + 1 : Nat) : Int))]) (st' := [aI ((cb : Nat) : Int), aA 3]) rfl rfl rfl ?_
          refine E_pI rfl rfl rfl rfl (Or.inl rfl) ?_
          refine E_s (p' := 53) (st' := aA 3 :: _) rfl rfl ?_
          refine E_gI (v := ((cb : Nat) : Int)) rfl rfl rfl rfl up2_eq ?_
          refine E_s (p' := 57) (st' := aI (-1) :: _) rfl rfl ?_
          refine E_icmp_eq (x := ((cb : Nat) : Int)) (y := (-1)) rfl (by decide) (fun q => absurd q (by omega)) (fun h_3 => ?_)
          refine E_go (p' := 60) (L' := [some (aA 3), some (aA a), some (aI (x)), some (aI (y)), some (aI ((i + 1 : Nat) : Int))]) (st' := []) rfl rfl rfl ?_
          refine E_s (p' := 61) (st' := aI (-1) :: _) rfl rfl ?_
          refine E_ret rfl rfl ?_
          have eb : brk (rdS R lo hi (Sn R)).1 (rdS R lo hi (Sn R)).2 (Cn R) = true := brk_t hc1 hc2
          obtain ⟨e1, ee⟩ : ∃ z, e = z + 1 := ⟨e - 1, by omega⟩
          rw [hq, ee] at q
          have er : rnd R (e1 + 1) i lo hi = (-1, rdS R lo hi (Sn R)) := by show (bif rdC R lo hi (Cn R) then _ else _) = _; rw [show rdC R lo hi (Cn R) = true by assumption, eb]; rfl
          rw [er] at q
          exact q _ ((I1.up (by omega) (by omega)).tr (F1.wide (by omega) (by omega)) |>.up (by omega) (by omega)) (fun c hc => ⟨(up2_ne (by omega)).trans (V1 c hc).1, (up2_ne (by omega)).trans (V1 c hc).2⟩)
        · refine E_go (p' := 49) (L' := [some (aA 3), some (aA a), some (aI (x)), some (aI (y)), some (aI ((i + 1 : Nat) : Int))]) (st' := [aI (-1), aA 3]) rfl rfl rfl ?_
          refine E_pI rfl rfl rfl rfl (Or.inl rfl) ?_
          refine E_s (p' := 53) (st' := aA 3 :: _) rfl rfl ?_
          refine E_gI (v := (-1)) rfl rfl rfl rfl up2_eq ?_
          refine E_s (p' := 57) (st' := aI (-1) :: _) rfl rfl ?_
          refine E_s (p' := 62) rfl rfl ?_
          refine E_inc (x := ((i + 1 : Nat) : Int)) (w := ((i + 2 : Nat) : Int)) (L' := [some (aA 3), some (aA a), some (aI (x)), some (aI (y)), some (aI ((i + 2 : Nat) : Int))]) rfl rfl rfl (by omega) (by omega) rfl ?_
          refine E_s (p' := 10) rfl rfl ?_
          obtain ⟨e1, ee⟩ : ∃ z, e = z + 1 := ⟨e - 1, by omega⟩
          refine ih e1 (i + 1) (rdS R lo hi (Sn R)).1 (rdS R lo hi (Sn R)).2 _ (by omega) (by omega) ?_ (fun c hc => ?_) ((I1.up (by omega) (by omega)).tr (F1.wide (by omega) (by omega)) |>.up (by omega) (by omega)) (fun c hc => ⟨(up2_ne (by omega)).trans (V1 c hc).1, (up2_ne (by omega)).trans (V1 c hc).2⟩)
          · rw [hq, ee]
            show (bif rdC R lo hi (Cn R) then _ else _) = _
            rw [show rdC R lo hi (Cn R) = true by assumption, brk_f.mpr hno]; rfl
          · have h1 := rdS_m (R := R) (lo := lo) (hi := hi) (Sn R) c
            have h2 := hb c hc
            have h3 := hno c hc
            omega
      · refine E_go (p' := 32) (L' := [some (aA 3), some (aA a), some (aI (x)), some (aI (y)), some (aI ((i + 1 : Nat) : Int))]) (st' := []) rfl rfl rfl ?_
        refine E_s (p' := 34) (st' := aI ((i + 1 : Nat) : Int) :: _) rfl rfl ?_
        refine E_s (p' := 35) (st' := aI 1 :: _) rfl rfl ?_
        refine E_sub (v := ((i : Nat) : Int)) rfl (by omega) (by omega) ?_
        refine E_ret rfl rfl ?_
        obtain ⟨e1, ee⟩ : ∃ z, e = z + 1 := ⟨e - 1, by omega⟩
        rw [hq, ee] at q
        have er : rnd R (e1 + 1) i lo hi = ((i : Int), rdS R lo hi (Sn R)) := by show (bif rdC R lo hi (Cn R) then _ else _) = _; rw [show rdC R lo hi (Cn R) = false by assumption]; rfl
        rw [er] at q
        exact q m1 ((I1.up (by omega) (by omega)).tr (F1.wide (by omega) (by omega))) V1
theorem c_run (hR : isR a) (hC : CR R a m0) (hV : VR R) (hd : RdC R a m0) (q : ∀ m1 : Mm, Fx 3 7 m0 m1 → (∀ c, c < Cn R → m1 4 c = (rnd R 200 0 (sL R x y) (sH R x y)).2.1 c ∧ m1 5 c = (rnd R 200 0 (sL R x y) (sH R x y)).2.2 c) → Q (some (aI (rnd R 200 0 (sL R x y) (sH R x y)).1)) (m1, tl len)) : E 86 0 [some (aA 3), some (aA a), some (aI (x)), some (aI (y)), none] [] (m0, tl len) Q := by
  have hab := isR_b hR
  refine E_s (p' := 1) (st' := aA 3 :: _) rfl rfl ?_
  refine E_s (p' := 2) (st' := aA a :: _) rfl rfl ?_
  refine E_s (p' := 3) (st' := aI (x) :: _) rfl rfl ?_
  refine E_s (p' := 4) (st' := aI (y) :: _) rfl rfl ?_
  refine E_callV (k' := 87) (a := 3) (r := []) (L0 := [some (aA 3), some (aA a), some (aI (x)), some (aI (y)), none, none, none]) rfl rfl rfl rfl rfl rfl rfl rfl rfl rfl ?_
  refine c_takeOwn hR hC hV hd (fun m1 F1 V1 => ?_)
  refine E_go (p' := 7) (L' := [some (aA 3), some (aA a), some (aI (x)), some (aI (y)), none]) (st' := []) rfl rfl rfl ?_
  refine E_s (p' := 8) (st' := aI 1 :: _) rfl rfl ?_
  refine E_s (p' := 10) (L' := [some (aA 3), some (aA a), some (aI (x)), some (aI (y)), some (aI 1)]) rfl rfl ?_
  exact yl_rn hR (hC.of (fun b j g1 g2 _ => F1 b j (by omega))) hV (hd.of (fun b j g1 g2 => F1 b j (by omega))) (fun m2 F2 V2 => q m2 ((F1.wide (by omega) (by omega)).tr F2) V2) 201 200 0 (sL R x y) (sH R x y) m1 (by omega) (by omega) rfl (own_b hV x y) Fx.rf V1
theorem c_keepSpans (hR : isR a) (hC : CR R a m0) (hn : Cn R ≤ 60) (q : ∀ m1 : Mm, (∀ b j, b ≠ a + 13 → b ≠ a + 14 → ¬ (b = a ∧ j = 6) → m1 b j = m0 b j) → Q none (m1, tl len)) : E 94 0 [some (aA a), some (aA 3)] [] (m0, tl len) Q := by
  have hab := isR_b hR
  refine E_s (p' := 1) (st' := aA 3 :: _) rfl rfl ?_
  refine E_gA (b := 4) rfl rfl rfl rfl hm_3_0 rfl ?_
  refine E_s (p' := 5) (st' := aI 0 :: _) rfl rfl ?_
  refine E_s (p' := 6) (st' := aA a :: _) rfl rfl ?_
  refine E_gA (b := a + 13) rfl rfl rfl (kR_0 hR) (hR_0_2 hR) rfl ?_
  refine E_s (p' := 10) (st' := aI 0 :: _) rfl rfl ?_
  refine E_s (p' := 11) (st' := aA a :: _) rfl rfl ?_
  refine E_gA (b := a + 1) rfl rfl rfl (kR_0 hR) (hR_0_0 hR) rfl ?_
  refine E_gI (v := ((Cn R : Nat) : Int)) rfl rfl rfl (kR_1 hR) hC.1 ?_
  refine E_acp (e1 := 0) (e2 := 0) (e3 := Cn R) rfl rfl rfl (kR_13 hR) (rfl) (rfl) (rfl) (by omega) (by omega) rfl ?_
  refine E_go (p' := 20) (L' := [some (aA a), some (aA 3)]) (st' := []) rfl rfl rfl ?_
  refine E_s (p' := 21) (st' := aA 3 :: _) rfl rfl ?_
  refine E_gA (b := 5) rfl rfl rfl rfl hm_3_1 rfl ?_
  refine E_s (p' := 25) (st' := aI 0 :: _) rfl rfl ?_
  refine E_s (p' := 26) (st' := aA a :: _) rfl rfl ?_
  refine E_gA (b := a + 14) rfl rfl rfl (kR_0 hR) (hR_0_3 hR) rfl ?_
  refine E_s (p' := 30) (st' := aI 0 :: _) rfl rfl ?_
  refine E_s (p' := 31) (st' := aA a :: _) rfl rfl ?_
  refine E_gA (b := a + 1) rfl rfl rfl (kR_0 hR) (hR_0_0 hR) rfl ?_
  refine E_gI (v := ((Cn R : Nat) : Int)) rfl rfl rfl (kR_1 hR) ((cpm_ne (by omega)).trans hC.1) ?_
  refine E_acp (e1 := 0) (e2 := 0) (e3 := Cn R) rfl rfl rfl (kR_14 hR) (rfl) (rfl) (rfl) (by omega) (by omega) rfl ?_
  refine E_go (p' := 40) (L' := [some (aA a), some (aA 3)]) (st' := []) rfl rfl rfl ?_
  refine E_s (p' := 41) (st' := aA a :: _) rfl rfl ?_
  refine E_s (p' := 42) (st' := aI 1 :: _) rfl rfl ?_
  refine E_pI rfl rfl rfl (kR_0 hR) (Or.inr (by decide)) ?_
  refine E_ret rfl rfl ?_
  exact q _ (fun b j g1 g2 g3 => (up2_o g3).trans ((cpm_ne g2).trans (cpm_ne g1)))
end
def aSettle (R : RD) : Int := (rnd R 200 0 (sL R (-1) (-1)) (sH R (-1) (-1))).1
section
variable {len : Nat} {m : Mm} {Q : Option AV → Sx → Prop} {S : Nat → RD} {r : Int}
theorem C_settle (hS : CS S m) (q : ∀ m1, CS S m1 → Mo m m1 → Q (some (aI (qy S r (-2) (aSettle)))) (m1, tl len)) : E 85 0 [some (aA 1), some (aI (r)), none, none] [] (m, tl len) Q := by
  refine E_s (p' := 1) (st' := aA 1 :: _) rfl rfl ?_
  refine E_s (p' := 2) (st' := aI (r) :: _) rfl rfl ?_
  refine E_callV (k' := 34) (a := 1) (r := []) (L0 := [some (aA 1), some (aI (r)), none]) rfl rfl rfl rfl rfl rfl rfl rfl rfl rfl ?_
  refine c_readOf hS (fun i a m1 hi hr ha hR hS1 hCS hd hMo => ?_) (fun hr => ?_)
  · refine E_go (p' := 5) (L' := [some (aA 1), some (aI (r)), none, none]) (st' := [aA a]) rfl rfl rfl ?_
    obtain ⟨hV, hC, -⟩ := hCS
    have hn60 := hV.1
    have hab := isR_b hR
    have hs40 := hV.2.2.2.2.1
    refine E_s (p' := 6) (L' := [some (aA 1), some (aI (r)), some (aA a), none]) rfl rfl ?_
    refine E_s (p' := 7) (st' := aA a :: _) rfl rfl ?_
    refine E_s (p' := 13) rfl rfl ?_
    refine E_s (p' := 14) (st' := aA 1 :: _) rfl rfl ?_
    refine E_gA (b := 3) rfl rfl rfl rfl rfl rfl ?_
    refine E_s (p' := 18) (st' := aA a :: _) rfl rfl ?_
    refine E_s (p' := 19) (st' := aI (-1) :: _) rfl rfl ?_
    refine E_s (p' := 20) (st' := aI (-1) :: _) rfl rfl ?_
    refine E_callV (k' := 86) (a := 3) (r := []) (L0 := [some (aA 3), some (aA a), some (aI (-1)), some (aI (-1)), none]) rfl rfl rfl rfl rfl rfl rfl rfl rfl rfl ?_
    refine c_run (x := -1) (y := -1) hR hC hV hd (fun m2 F2 V2 => ?_)
    refine E_go (p' := 23) (L' := [some (aA 1), some (aI (r)), some (aA a), none]) (st' := [aI ((aSettle (S i)))]) rfl rfl rfl ?_
    have hC2 : CR (S i) a m2 := hC.of (fun b j g1 g2 _ => F2 b j (by omega))
    refine E_s (p' := 24) (L' := [some (aA 1), some (aI (r)), some (aA a), some (aI ((aSettle (S i))))]) rfl rfl ?_
    refine E_s (p' := 25) (st' := aA a :: _) rfl rfl ?_
    refine E_s (p' := 26) (st' := aA 1 :: _) rfl rfl ?_
    refine E_gA (b := 3) rfl rfl rfl rfl rfl rfl ?_
    refine E_callV (k' := 94) (a := a) (r := []) (L0 := [some (aA a), some (aA 3)]) rfl rfl rfl rfl rfl (kR_0 hR) rfl rfl rfl rfl ?_
    refine c_keepSpans hR hC2 hn60 (fun m3 F3 => ?_)
    refine E_go (p' := 32) (L' := [some (aA 1), some (aI (r)), some (aA a), some (aI ((aSettle (S i))))]) (st' := []) rfl rfl rfl ?_
    refine E_s (p' := 33) (st' := aI ((aSettle (S i))) :: _) rfl rfl ?_
    refine E_ret rfl rfl ?_
    have hS3 : CS S m3 := by
      have h1 := hS1.set hi ha (R := S i) (m1 := m3) ⟨hV, hC.of (fun b j g1 g2 g3 => (F3 b j (by omega) (by omega) (by omega)).trans (F2 b j (by omega))), by
        have h7 : m3 a 7 = m1 a 7 := (F3 _ _ (by omega) (by omega) (by omega)).trans (F2 _ _ (by omega))
        rw [h7]
        rcases (hS1 i hi).2.2 with g9 | g9
        · rw [← ha] at g9; exact Or.inl g9
        · rw [← ha] at g9; exact Or.inr ⟨g9.1, g9.2.of (fun b j g1 g2 => (F3 b j (by omega) (by omega) (by omega)).trans (F2 b j (by omega)))⟩⟩ (fun b j hb => (F3 b j (by omega) (by omega) (by omega)).trans (F2 b j (by omega)))
      rw [upf_self] at h1
      exact h1
    exact fq_in hS3 hi hr q rfl (fun b j hb => (F3 b j (by omega) (by omega) (by omega)).trans ((F2 b j (by omega)).trans (hMo b j hb)))
  · refine E_go (p' := 5) (L' := [some (aA 1), some (aI (r)), none, none]) (st' := [aN]) rfl rfl rfl ?_
    refine E_s (p' := 6) (L' := [some (aA 1), some (aI (r)), some (aN), none]) rfl rfl ?_
    refine E_s (p' := 7) (st' := aN :: _) rfl rfl ?_
    refine E_s (p' := 10) rfl rfl ?_
    refine E_s (p' := 12) (st' := aI (-2) :: _) rfl rfl ?_
    refine E_ret rfl rfl ?_
    exact fq_out hS q hr
end
