/-- the CORDS of each GROUP among the first c, as the class keeps them for found -/
def GC (R : RD) (c : Nat) (m : Mm) : Prop := ∀ g : Nat, g < 12 → m 13 g = ((gmem R (g : Int) c).length : Int) ∧ (∀ j, j < (gmem R (g : Int) c).length → m 14 (60 * g + j) = (Rvl R ((gmem R (g : Int) c).getD j 0) : Int))
def UN (R : RD) (c : Nat) (u : Nat) : Prop := u < 4096 ∧ ∀ g : Nat, g < 12 → Nat.testBit u g = !((gmem R (g : Int) c).all (sdR R))
theorem UN_n {R : RD} {c u : Nat} (h : UN R c u) (hn : ∀ x : Nat, x < 12 → Cg R c ≠ (x : Int)) : UN R (c + 1) u := by
  refine ⟨h.1, fun g hg => ?_⟩
  rw [gmem_f (hn g hg)]
  exact h.2 g hg
theorem UN_s {R : RD} {c u gn : Nat} (h : UN R c u) (eg : Cg R c = (gn : Int)) (hs : sdR R c = true) : UN R (c + 1) u := by
  refine ⟨h.1, fun g hg => ?_⟩
  by_cases g9 : g = gn
  · rw [g9, gmem_t eg, List.all_append, List.all_cons, List.all_nil, hs, Bool.and_true, Bool.and_true, ← g9]
    exact h.2 g hg
  · rw [gmem_f (by omega)]
    exact h.2 g hg
theorem UN_u {R : RD} {c u gn : Nat} (h : UN R c u) (hg12 : gn < 12) (eg : Cg R c = (gn : Int)) (hs : sdR R c = false) : UN R (c + 1) (u ||| 1 * 2 ^ gn) := by
  have hp : 2 ^ gn < 2 ^ 12 := Nat.pow_lt_pow_right (by omega) hg12
  refine ⟨@Nat.or_lt_two_pow u (1 * 2 ^ gn) 12 h.1 (by omega), fun g hg => ?_⟩
  rw [Nat.testBit_or, Nat.one_mul, Nat.testBit_two_pow]
  by_cases g9 : g = gn
  · rw [g9, gmem_t eg, List.all_append, List.all_cons, List.all_nil, hs, decide_eq_true rfl, Bool.or_true]
    simp
  · rw [gmem_f (by omega), decide_eq_false (by omega), Bool.or_false]
    exact h.2 g hg
section
variable {len : Nat} {m m0 : Mm} {Q : Option AV → Sx → Prop} {R : RD} {a : Nat}
theorem yl_ga (hR : isR a) (hC : CR R a m0) (hV : VR R) (hd : RdC R a m0) (q : ∀ (m1 : Mm) (u : Nat), Fx 10 14 m0 m1 → (∀ j, j ≠ 5 → m1 10 j = m0 10 j) → (∀ j, m1 11 j = m0 11 j ∧ m1 12 j = m0 12 j) → GC R (Cn R) m1 → m1 10 5 = (u : Int) → UN R (Cn R) u → Q none (m1, tl len)) : ∀ (d : Nat) (c : Nat) (m : Mm) (u : Nat) (x3 : Option AV), (Cn R < c + d) → (c ≤ Cn R) → (Fx 10 14 m0 m) → (∀ j, j ≠ 5 → m 10 j = m0 10 j) → (∀ j, m 11 j = m0 11 j ∧ m 12 j = m0 12 j) → (GC R c m) → (m 10 5 = (u : Int)) → (UN R c u) → E 108 15 [some (aA 10), some (aA a), some (aI ((c : Nat) : Int)), x3] [] (m, tl len) Q := by
  intro d
  induction d with
  | zero => intro c m u x3 hd9 hc I1 I5 I6 I2 I3 I4; omega
  | succ d ih =>
    intro c m u x3 hd9 hc I1 I5 I6 I2 I3 I4
    have hab := isR_b hR
    have hn60 := hV.1
    have hCm : CR R a m := hC.of (fun b j g1 g2 _ => I1 b j (by omega))
    have hdm : RdC R a m := hd.of (fun b j g1 g2 => I1 b j (by omega))
    refine E_s (p' := 16) (st' := aI ((c : Nat) : Int) :: _) rfl rfl ?_
    refine E_s (p' := 17) (st' := aA a :: _) rfl rfl ?_
    refine E_gA (b := a + 1) rfl rfl rfl (kR_0 hR) (hR_0_0 hR) rfl ?_
    refine E_gI (v := ((Cn R : Nat) : Int)) rfl rfl rfl (kR_1 hR) hCm.1 ?_
    refine E_icmp_ge (x := ((c : Nat) : Int)) (y := ((Cn R : Nat) : Int)) rfl (by decide) (fun h_1 => ?_) (fun h_1 => ?_)
    · refine E_go (p' := 105) (L' := [some (aA 10), some (aA a), some (aI ((c : Nat) : Int)), x3]) (st' := []) rfl rfl rfl ?_
      refine E_ret rfl rfl ?_
      have ec : c = Cn R := by omega
      subst ec
      exact q m u I1 I5 I6 I2 I3 I4
    · refine E_go (p' := 26) (L' := [some (aA 10), some (aA a), some (aI ((c : Nat) : Int)), x3]) (st' := []) rfl rfl rfl ?_
      obtain ⟨⟨vg1, vg2⟩, -⟩ := hV.2.2.1 c (by omega)
      refine E_s (p' := 27) (st' := aA a :: _) rfl rfl ?_
      refine E_gA (b := a + 1) rfl rfl rfl (kR_0 hR) (hR_0_0 hR) rfl ?_
      refine E_gA (b := a + 2) rfl rfl rfl (kR_1 hR) (hR_1_0 hR) rfl ?_
      refine E_s (p' := 34) (st' := aI ((c : Nat) : Int) :: _) rfl rfl ?_
      refine E_ald (e := c) (N := 60) (v := ((Cg R c))) rfl (kR_2 hR) (rfl) (by omega) (CR_2 hCm (by omega)) ?_
      refine E_s (p' := 36) (L' := [some (aA 10), some (aA a), some (aI ((c : Nat) : Int)), some (aI ((Cg R c)))]) rfl rfl ?_
      refine E_s (p' := 37) (st' := aI ((Cg R c)) :: _) rfl rfl ?_
      refine E_s (p' := 38) (st' := aI (-1) :: _) rfl rfl ?_
      refine E_icmp_ne (x := ((Cg R c))) (y := (-1)) rfl (by decide) (fun h_2 => ?_) (fun h_2 => ?_)
      · refine E_go (p' := 44) (L' := [some (aA 10), some (aA a), some (aI ((c : Nat) : Int)), some (aI ((Cg R c)))]) (st' := []) rfl rfl rfl ?_
        obtain ⟨gn, eg⟩ : ∃ x : Nat, Cg R c = (x : Int) := ⟨(Cg R c).toNat, by omega⟩
        rw [eg]
        obtain ⟨j1, j2⟩ := I2 gn (by omega)
        have hgl := gmem_le R (gn : Int) c
        have hpw : 2 ^ gn < 2 ^ 12 := Nat.pow_lt_pow_right (by omega) (by omega)
        have hu12 := I4.1
        refine E_s (p' := 45) (st' := aA a :: _) rfl rfl ?_
        refine E_s (p' := 46) (st' := aI ((c : Nat) : Int) :: _) rfl rfl ?_
        refine E_callV (k' := 74) (a := a) (r := []) (L0 := [some (aA a), some (aI ((c : Nat) : Int))]) rfl rfl rfl rfl rfl (kR_0 hR) rfl rfl rfl rfl ?_
        refine c_isSound hR hn60 hCm hdm (c := c) (by omega) (fun hs1 hs2 => ?_) (fun hs0 => ?_)
        · refine E_go (p' := 49) (L' := [some (aA 10), some (aA a), some (aI ((c : Nat) : Int)), some (aI ((gn : Nat) : Int))]) (st' := [aI 1]) rfl rfl rfl ?_
          refine E_s (p' := 64) rfl rfl ?_
          refine E_s (p' := 65) (st' := aA 10 :: _) rfl rfl ?_
          refine E_gA (b := 14) rfl rfl rfl rfl rfl rfl ?_
          refine E_s (p' := 69) (st' := aI ((gn : Nat) : Int) :: _) rfl rfl ?_
          refine E_s (p' := 71) (st' := aI 60 :: _) rfl rfl ?_
          refine E_mul (v := ((60 * gn : Nat) : Int)) rfl (by omega) (by omega) ?_
          refine E_s (p' := 73) (st' := aA 10 :: _) rfl rfl ?_
          refine E_gA (b := 13) rfl rfl rfl rfl rfl rfl ?_
          refine E_s (p' := 77) (st' := aI ((gn : Nat) : Int) :: _) rfl rfl ?_
          refine E_ald (e := gn) (N := 12) (v := (((gmem R (gn : Int) c).length : Nat) : Int)) rfl rfl (rfl) (by omega) j1 ?_
          refine E_add (v := ((60 * gn + (gmem R (gn : Int) c).length : Nat) : Int)) rfl (by omega) (by omega) ?_
          refine E_s (p' := 80) (st' := aA a :: _) rfl rfl ?_
          refine E_gA (b := a + 15) rfl rfl rfl (kR_0 hR) (hR_0_4 hR) rfl ?_
          refine E_gA (b := a + 22) rfl rfl rfl (kR_15 hR) (hR_15_6 hR) rfl ?_
          refine E_s (p' := 87) (st' := aI ((c : Nat) : Int) :: _) rfl rfl ?_
          refine E_ald (e := c) (N := 60) (v := ((Rvl R c : Nat) : Int)) rfl (kR_22 hR) (rfl) (by omega) (hdm.2.2.2 _ (by omega)).2.2.1 ?_
          refine E_ast (e := 60 * gn + (gmem R (gn : Int) c).length) (N := 720) rfl rfl (rfl) (by omega) ?_
          refine E_s (p' := 90) (st' := aA 10 :: _) rfl rfl ?_
          refine E_gA (b := 13) rfl rfl rfl rfl rfl rfl ?_
          refine E_s (p' := 94) (st' := aI ((gn : Nat) : Int) :: _) rfl rfl ?_
          refine E_s (p' := 95) rfl rfl ?_
          refine E_ald (e := gn) (N := 12) (v := (((gmem R (gn : Int) c).length : Nat) : Int)) rfl rfl (rfl) (by omega) ((up2_ne (by omega)).trans (j1)) ?_
          refine E_s (p' := 97) (st' := aI 1 :: _) rfl rfl ?_
          refine E_add (v := (((gmem R (gn : Int) c).length + 1 : Nat) : Int)) rfl (by omega) (by omega) ?_
          refine E_ast (e := gn) (N := 12) rfl rfl (rfl) (by omega) ?_
          refine E_inc (x := ((c : Nat) : Int)) (w := ((c + 1 : Nat) : Int)) (L' := [some (aA 10), some (aA a), some (aI ((c + 1 : Nat) : Int)), some (aI ((gn : Nat) : Int))]) rfl rfl rfl (by omega) (by omega) rfl ?_
          refine E_s (p' := 15) rfl rfl ?_
          refine ih (c + 1) _ u _ (by omega) (by omega) (((I1.up (by omega) (by omega)).up (by omega) (by omega))) (fun j hj => (up2_ne (by omega)).trans ((up2_ne (by omega)).trans (I5 j hj))) (fun j => ⟨((up2_ne (by omega)).trans (up2_ne (by omega))).trans (I6 j).1, ((up2_ne (by omega)).trans (up2_ne (by omega))).trans (I6 j).2⟩) (fun x hx => ?_) ((up2_ne (by omega)).trans ((up2_ne (by omega)).trans I3)) (UN_s I4 eg (sdR_t hs1 hs2))
          by_cases g9 : x = gn
          · rw [g9, gmem_t eg]
            refine ⟨(up2_eq).trans (by rw [List.length_append]; rfl), fun j hj => ?_⟩
            rw [List.length_append] at hj
            have hj : j < (gmem R (gn : Int) c).length + 1 := hj
            by_cases g8 : j = (gmem R (gn : Int) c).length
            · rw [g8, getD_app_r]; exact ((up2_ne (by omega)).trans (up2_eq))
            · rw [getD_app_l (by omega)]; exact ((up2_o (by omega)).trans (up2_o (by omega))).trans (j2 j (by omega))
          · rw [gmem_f (by omega)]
            obtain ⟨k1, k2⟩ := I2 x hx
            have hgx := gmem_le R (x : Int) c
            exact ⟨((up2_o (by omega)).trans (up2_o (by omega))).trans k1, fun j hj => ((up2_o (by omega)).trans (up2_o (by omega))).trans (k2 j hj)⟩
        · refine E_go (p' := 49) (L' := [some (aA 10), some (aA a), some (aI ((c : Nat) : Int)), some (aI ((gn : Nat) : Int))]) (st' := [aI 0]) rfl rfl rfl ?_
          refine E_s (p' := 52) rfl rfl ?_
          refine E_s (p' := 53) (st' := aA 10 :: _) rfl rfl ?_
          refine E_s (p' := 54) (st' := aA 10 :: _) rfl rfl ?_
          refine E_gI (v := ((u : Nat) : Int)) rfl rfl rfl rfl I3 ?_
          refine E_s (p' := 58) (st' := aI 1 :: _) rfl rfl ?_
          refine E_s (p' := 59) (st' := aI ((gn : Nat) : Int) :: _) rfl rfl ?_
          refine E_shl (x := 1) (y := gn) (v := ((1) * 2 ^ gn)) rfl (by omega) (by omega) rfl ?_
          refine E_or (x := u) (y := ((1) * 2 ^ gn)) (v := ((u) ||| ((1) * 2 ^ gn))) rfl (by omega) (by omega) rfl ?_
          refine E_pI rfl rfl rfl rfl (Or.inl rfl) ?_
          refine E_s (p' := 65) (st' := aA 10 :: _) rfl rfl ?_
          refine E_gA (b := 14) rfl rfl rfl rfl rfl rfl ?_
          refine E_s (p' := 69) (st' := aI ((gn : Nat) : Int) :: _) rfl rfl ?_
          refine E_s (p' := 71) (st' := aI 60 :: _) rfl rfl ?_
          refine E_mul (v := ((60 * gn : Nat) : Int)) rfl (by omega) (by omega) ?_
          refine E_s (p' := 73) (st' := aA 10 :: _) rfl rfl ?_
          refine E_gA (b := 13) rfl rfl rfl rfl rfl rfl ?_
          refine E_s (p' := 77) (st' := aI ((gn : Nat) : Int) :: _) rfl rfl ?_
          refine E_ald (e := gn) (N := 12) (v := (((gmem R (gn : Int) c).length : Nat) : Int)) rfl rfl (rfl) (by omega) ((up2_ne (by omega)).trans (j1)) ?_
          refine E_add (v := ((60 * gn + (gmem R (gn : Int) c).length : Nat) : Int)) rfl (by omega) (by omega) ?_
          refine E_s (p' := 80) (st' := aA a :: _) rfl rfl ?_
          refine E_gA (b := a + 15) rfl rfl rfl (kR_0 hR) (hR_0_4 hR) rfl ?_
          refine E_gA (b := a + 22) rfl rfl rfl (kR_15 hR) (hR_15_6 hR) rfl ?_
          refine E_s (p' := 87) (st' := aI ((c : Nat) : Int) :: _) rfl rfl ?_
          refine E_ald (e := c) (N := 60) (v := ((Rvl R c : Nat) : Int)) rfl (kR_22 hR) (rfl) (by omega) ((up2_ne (by omega)).trans ((hdm.2.2.2 _ (by omega)).2.2.1)) ?_
          refine E_ast (e := 60 * gn + (gmem R (gn : Int) c).length) (N := 720) rfl rfl (rfl) (by omega) ?_
          refine E_s (p' := 90) (st' := aA 10 :: _) rfl rfl ?_
          refine E_gA (b := 13) rfl rfl rfl rfl rfl rfl ?_
          refine E_s (p' := 94) (st' := aI ((gn : Nat) : Int) :: _) rfl rfl ?_
          refine E_s (p' := 95) rfl rfl ?_
          refine E_ald (e := gn) (N := 12) (v := (((gmem R (gn : Int) c).length : Nat) : Int)) rfl rfl (rfl) (by omega) ((up2_ne (by omega)).trans ((up2_ne (by omega)).trans (j1))) ?_
          refine E_s (p' := 97) (st' := aI 1 :: _) rfl rfl ?_
          refine E_add (v := (((gmem R (gn : Int) c).length + 1 : Nat) : Int)) rfl (by omega) (by omega) ?_
          refine E_ast (e := gn) (N := 12) rfl rfl (rfl) (by omega) ?_
          refine E_inc (x := ((c : Nat) : Int)) (w := ((c + 1 : Nat) : Int)) (L' := [some (aA 10), some (aA a), some (aI ((c + 1 : Nat) : Int)), some (aI ((gn : Nat) : Int))]) rfl rfl rfl (by omega) (by omega) rfl ?_
          refine E_s (p' := 15) rfl rfl ?_
          refine ih (c + 1) _ (u ||| 1 * 2 ^ gn) _ (by omega) (by omega) ((((I1.up (by omega) (by omega)).up (by omega) (by omega)).up (by omega) (by omega))) (fun j hj => (up2_ne (by omega)).trans ((up2_ne (by omega)).trans ((up2_sl hj).trans (I5 j hj)))) (fun j => ⟨((up2_ne (by omega)).trans ((up2_ne (by omega)).trans (up2_ne (by omega)))).trans (I6 j).1, ((up2_ne (by omega)).trans ((up2_ne (by omega)).trans (up2_ne (by omega)))).trans (I6 j).2⟩) (fun x hx => ?_) ((up2_ne (by omega)).trans ((up2_ne (by omega)).trans up2_eq)) (UN_u I4 (by omega) eg (sdR_f hs0))
          by_cases g9 : x = gn
          · rw [g9, gmem_t eg]
            refine ⟨(up2_eq).trans (by rw [List.length_append]; rfl), fun j hj => ?_⟩
            rw [List.length_append] at hj
            have hj : j < (gmem R (gn : Int) c).length + 1 := hj
            by_cases g8 : j = (gmem R (gn : Int) c).length
            · rw [g8, getD_app_r]; exact ((up2_ne (by omega)).trans (up2_eq))
            · rw [getD_app_l (by omega)]; exact ((up2_o (by omega)).trans ((up2_o (by omega)).trans (up2_o (by omega)))).trans (j2 j (by omega))
          · rw [gmem_f (by omega)]
            obtain ⟨k1, k2⟩ := I2 x hx
            have hgx := gmem_le R (x : Int) c
            exact ⟨((up2_o (by omega)).trans ((up2_o (by omega)).trans (up2_o (by omega)))).trans k1, fun j hj => ((up2_o (by omega)).trans ((up2_o (by omega)).trans (up2_o (by omega)))).trans (k2 j hj)⟩
      · refine E_go (p' := 41) (L' := [some (aA 10), some (aA a), some (aI ((c : Nat) : Int)), some (aI ((Cg R c)))]) (st' := []) rfl rfl rfl ?_
        refine E_s (p' := 99) rfl rfl ?_
        refine E_inc (x := ((c : Nat) : Int)) (w := ((c + 1 : Nat) : Int)) (L' := [some (aA 10), some (aA a), some (aI ((c + 1 : Nat) : Int)), some (aI ((Cg R c)))]) rfl rfl rfl (by omega) (by omega) rfl ?_
        refine E_s (p' := 15) rfl rfl ?_
        refine ih (c + 1) m u _ (by omega) (by omega) I1 I5 I6 (fun x hx => ?_) I3 (UN_n I4 (fun x hx => by omega))
        rw [gmem_f (by omega)]
        exact I2 x hx
theorem c_gather (hR : isR a) (hC : CR R a m0) (hV : VR R) (hd : RdC R a m0) (q : ∀ (m1 : Mm) (u : Nat), Fx 10 14 m0 m1 → (∀ j, j ≠ 5 → m1 10 j = m0 10 j) → (∀ j, m1 11 j = m0 11 j ∧ m1 12 j = m0 12 j) → GC R (Cn R) m1 → m1 10 5 = (u : Int) → UN R (Cn R) u → Q none (m1, tl len)) : E 108 0 [some (aA 10), some (aA a), none, none] [] (m0, tl len) Q := by
  refine E_s (p' := 1) (st' := aA 10 :: _) rfl rfl ?_
  refine E_gA (b := 13) rfl rfl rfl rfl rfl rfl ?_
  refine E_s (p' := 5) (st' := aI 0 :: _) rfl rfl ?_
  refine E_callL (p' := 8) (L0 := [some (aA 13), some (aI 0), none, none]) rfl rfl rfl ?_
  refine c_fillL (N := 12) rfl ?_
  refine E_go (p' := 8) (L' := [some (aA 10), some (aA a), none, none]) (st' := []) rfl rfl rfl ?_
  refine E_s (p' := 9) (st' := aA 10 :: _) rfl rfl ?_
  refine E_s (p' := 10) (st' := aI 0 :: _) rfl rfl ?_
  refine E_pI rfl rfl rfl rfl (Or.inl rfl) ?_
  refine E_s (p' := 14) (st' := aI 0 :: _) rfl rfl ?_
  refine E_s (p' := 15) (L' := [some (aA 10), some (aA a), some (aI 0), none]) rfl rfl ?_
  exact yl_ga hR hC hV hd q (Cn R + 1) 0 _ 0 none (by omega) (by omega) ((Fx.rf.fill (by omega) (by omega)).up (by omega) (by omega)) (fun j hj => (up2_sl hj).trans (fillm_ne (by omega))) (fun j => ⟨(up2_ne (by omega)).trans (fillm_ne (by omega)), (up2_ne (by omega)).trans (fillm_ne (by omega))⟩) (fun x hx => ⟨(up2_ne (by omega)).trans (by unfold fillm; rw [if_pos rfl, if_pos (by omega)]; rfl), fun j hj => absurd hj (Nat.not_lt_zero _)⟩) up2_eq ⟨by omega, fun g _ => by rw [Nat.zero_testBit]; rfl⟩
end
