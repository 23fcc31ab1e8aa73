section
variable {len : Nat} {m m0 : Mm} {Q : Option AV → Sx → Prop} {R : RD} {i : Nat} {x y : Int}
theorem yl_rsA (hi9 : i < 4) (hM : MR R i m0) (hV : VR R) (how : ∀ d, d < Cn R → m0 153 d = oL R d ∧ m0 154 d = oH R d) (hk : ∀ (m1 : Mm) (x6 : Option AV), (∀ b z, ¬ (155 ≤ b ∧ b ≤ 156) → m1 b z = m0 b z) → (∀ c, c < Cn R → m1 155 c = sL R x y c ∧ m1 156 c = sH R x y c) → E 167 93 [some (aA 124), some (aI (i : Int)), some (aI x), some (aI y), some (aI (-1)), some (aI (Cn R : Int)), x6] [] (m1, tl len) Q) : ∀ (d : Nat) (c : Nat) (m : Mm) (x6 : Option AV), (Cn R < c + d) → (c ≤ Cn R) → (∀ b z, ¬ (155 ≤ b ∧ b ≤ 156) → m b z = m0 b z) → (∀ d, d < c → m 155 d = sL R x y d ∧ m 156 d = sH R x y d) → E 167 3 [some (aA 124), some (aI ((i : Nat) : Int)), some (aI (x)), some (aI (y)), some (aI (-1)), some (aI ((c : Nat) : Int)), x6] [] (m, tl len) Q := by
  intro d
  induction d with
  | zero => intro c m x6 hd hc I0 I2; omega
  | succ d ih =>
    intro c m x6 hd hc I0 I2
    have hn60 := hV.1
    have hMm : MR R i m := hM.of (fun b j g1 g2 => I0 b j (by omega))
    refine E_s (p' := 5) (st' := aI ((c : Nat) : Int) :: _) rfl rfl ?_
    refine E_s (p' := 6) (st' := aA 124 :: _) rfl rfl ?_
    refine E_gA (b := 125) rfl rfl rfl rfl rfl rfl ?_
    refine E_s (p' := 10) (st' := aI ((i : Nat) : Int) :: _) rfl rfl ?_
    refine E_ald (e := i) (N := 4) (v := ((Cn R : Nat) : Int)) rfl rfl (rfl) (by omega) (MR_125 hMm) ?_
    refine E_icmp_ge (x := ((c : Nat) : Int)) (y := ((Cn R : Nat) : Int)) rfl (by decide) (fun h_1 => ?_) (fun h_1 => ?_)
    · refine E_go (p' := 93) (L' := [some (aA 124), some (aI ((i : Nat) : Int)), some (aI (x)), some (aI (y)), some (aI (-1)), some (aI ((c : Nat) : Int)), x6]) (st' := []) rfl rfl rfl ?_
      have e9 : c = Cn R := by omega
      subst e9
      exact hk m x6 I0 I2
    · refine E_go (p' := 14) (L' := [some (aA 124), some (aI ((i : Nat) : Int)), some (aI (x)), some (aI (y)), some (aI (-1)), some (aI ((c : Nat) : Int)), x6]) (st' := []) rfl rfl rfl ?_
      refine E_s (p' := 16) (st' := aI ((c : Nat) : Int) :: _) rfl rfl ?_
      refine E_s (p' := 17) (st' := aI (x) :: _) rfl rfl ?_
      refine E_icmp_eq (x := ((c : Nat) : Int)) (y := (x)) rfl (by decide) (fun h_2 => ?_) (fun h_2 => ?_)
      · refine E_go (p' := 33) (L' := [some (aA 124), some (aI ((i : Nat) : Int)), some (aI (x)), some (aI (y)), some (aI (-1)), some (aI ((c : Nat) : Int)), x6]) (st' := []) rfl rfl rfl ?_
        refine E_s (p' := 34) (st' := aI 1 :: _) rfl rfl ?_
        refine E_s (p' := 38) rfl rfl ?_
        refine E_s (p' := 40) (L' := [some (aA 124), some (aI ((i : Nat) : Int)), some (aI (x)), some (aI (y)), some (aI (-1)), some (aI ((c : Nat) : Int)), some (aI 1)]) rfl rfl ?_
        refine E_s (p' := 41) (st' := aA 124 :: _) rfl rfl ?_
        refine E_gA (b := 155) rfl rfl rfl rfl rfl rfl ?_
        refine E_s (p' := 46) (st' := aI ((c : Nat) : Int) :: _) rfl rfl ?_
        refine E_s (p' := 48) (st' := aI 1 :: _) rfl rfl ?_
        refine E_s (p' := 51) rfl rfl ?_
        refine E_s (p' := 52) (st' := aI 0 :: _) rfl rfl ?_
        refine E_s (p' := 62) rfl rfl ?_
        refine E_ast (e := c) (N := 60) rfl rfl (rfl) (by omega) ?_
        refine E_s (p' := 64) (st' := aA 124 :: _) rfl rfl ?_
        refine E_gA (b := 156) rfl rfl rfl rfl rfl rfl ?_
        refine E_s (p' := 69) (st' := aI ((c : Nat) : Int) :: _) rfl rfl ?_
        refine E_s (p' := 71) (st' := aI 1 :: _) rfl rfl ?_
        refine E_s (p' := 74) rfl rfl ?_
        refine E_s (p' := 76) (st' := aI 999999 :: _) rfl rfl ?_
        refine E_s (p' := 86) rfl rfl ?_
        refine E_ast (e := c) (N := 60) rfl rfl (rfl) (by omega) ?_
        refine E_inc (x := ((c : Nat) : Int)) (w := ((c + 1 : Nat) : Int)) (L' := [some (aA 124), some (aI ((i : Nat) : Int)), some (aI (x)), some (aI (y)), some (aI (-1)), some (aI ((c + 1 : Nat) : Int)), some (aI 1)]) rfl rfl rfl (by omega) (by omega) rfl ?_
        refine E_s (p' := 3) rfl rfl ?_
        have ea : (((c : Nat) : Int) = x ∨ ((c : Nat) : Int) = y) = True := by simp only [eq_iff_iff, iff_true]; omega
        refine ih (c + 1) _ _ (by omega) (by omega) (fun b z g1 => (up2_ne (by omega)).trans ((up2_ne (by omega)).trans (I0 b z g1))) (fun d hd8 => ?_)
        by_cases g9 : d = c
        · rw [g9]
          refine ⟨((up2_ne (by omega)).trans up2_eq).trans ?_, up2_eq.trans ?_⟩
          · unfold sL; simp only [ea, if_true, if_false]
          · unfold sH; simp only [ea, if_true, if_false]
        · exact ⟨(up2_ne (by omega)).trans ((up2_sl g9).trans (I2 d (by omega)).1), (up2_sl g9).trans ((up2_ne (by omega)).trans (I2 d (by omega)).2)⟩
      · refine E_go (p' := 20) (L' := [some (aA 124), some (aI ((i : Nat) : Int)), some (aI (x)), some (aI (y)), some (aI (-1)), some (aI ((c : Nat) : Int)), x6]) (st' := []) rfl rfl rfl ?_
        refine E_s (p' := 22) (st' := aI ((c : Nat) : Int) :: _) rfl rfl ?_
        refine E_s (p' := 23) (st' := aI (y) :: _) rfl rfl ?_
        refine E_icmp_eq (x := ((c : Nat) : Int)) (y := (y)) rfl (by decide) (fun h_3 => ?_) (fun h_3 => ?_)
        · refine E_go (p' := 33) (L' := [some (aA 124), some (aI ((i : Nat) : Int)), some (aI (x)), some (aI (y)), some (aI (-1)), some (aI ((c : Nat) : Int)), x6]) (st' := []) rfl rfl rfl ?_
          refine E_s (p' := 34) (st' := aI 1 :: _) rfl rfl ?_
          refine E_s (p' := 38) rfl rfl ?_
          refine E_s (p' := 40) (L' := [some (aA 124), some (aI ((i : Nat) : Int)), some (aI (x)), some (aI (y)), some (aI (-1)), some (aI ((c : Nat) : Int)), some (aI 1)]) rfl rfl ?_
          refine E_s (p' := 41) (st' := aA 124 :: _) rfl rfl ?_
          refine E_gA (b := 155) rfl rfl rfl rfl rfl rfl ?_
          refine E_s (p' := 46) (st' := aI ((c : Nat) : Int) :: _) rfl rfl ?_
          refine E_s (p' := 48) (st' := aI 1 :: _) rfl rfl ?_
          refine E_s (p' := 51) rfl rfl ?_
          refine E_s (p' := 52) (st' := aI 0 :: _) rfl rfl ?_
          refine E_s (p' := 62) rfl rfl ?_
          refine E_ast (e := c) (N := 60) rfl rfl (rfl) (by omega) ?_
          refine E_s (p' := 64) (st' := aA 124 :: _) rfl rfl ?_
          refine E_gA (b := 156) rfl rfl rfl rfl rfl rfl ?_
          refine E_s (p' := 69) (st' := aI ((c : Nat) : Int) :: _) rfl rfl ?_
          refine E_s (p' := 71) (st' := aI 1 :: _) rfl rfl ?_
          refine E_s (p' := 74) rfl rfl ?_
          refine E_s (p' := 76) (st' := aI 999999 :: _) rfl rfl ?_
          refine E_s (p' := 86) rfl rfl ?_
          refine E_ast (e := c) (N := 60) rfl rfl (rfl) (by omega) ?_
          refine E_inc (x := ((c : Nat) : Int)) (w := ((c + 1 : Nat) : Int)) (L' := [some (aA 124), some (aI ((i : Nat) : Int)), some (aI (x)), some (aI (y)), some (aI (-1)), some (aI ((c + 1 : Nat) : Int)), some (aI 1)]) rfl rfl rfl (by omega) (by omega) rfl ?_
          refine E_s (p' := 3) rfl rfl ?_
          have ea : (((c : Nat) : Int) = x ∨ ((c : Nat) : Int) = y) = True := by simp only [eq_iff_iff, iff_true]; omega
          refine ih (c + 1) _ _ (by omega) (by omega) (fun b z g1 => (up2_ne (by omega)).trans ((up2_ne (by omega)).trans (I0 b z g1))) (fun d hd8 => ?_)
          by_cases g9 : d = c
          · rw [g9]
            refine ⟨((up2_ne (by omega)).trans up2_eq).trans ?_, up2_eq.trans ?_⟩
            · unfold sL; simp only [ea, if_true, if_false]
            · unfold sH; simp only [ea, if_true, if_false]
          · exact ⟨(up2_ne (by omega)).trans ((up2_sl g9).trans (I2 d (by omega)).1), (up2_sl g9).trans ((up2_ne (by omega)).trans (I2 d (by omega)).2)⟩
        · refine E_go (p' := 26) (L' := [some (aA 124), some (aI ((i : Nat) : Int)), some (aI (x)), some (aI (y)), some (aI (-1)), some (aI ((c : Nat) : Int)), x6]) (st' := []) rfl rfl rfl ?_
          refine E_s (p' := 28) (st' := aI ((c : Nat) : Int) :: _) rfl rfl ?_
          refine E_s (p' := 30) (st' := aI (-1) :: _) rfl rfl ?_
          refine E_icmp_ne (x := ((c : Nat) : Int)) (y := (-1)) rfl (by decide) (fun h_4 => ?_) (fun q => absurd q (by omega))
          refine E_go (p' := 37) (L' := [some (aA 124), some (aI ((i : Nat) : Int)), some (aI (x)), some (aI (y)), some (aI (-1)), some (aI ((c : Nat) : Int)), x6]) (st' := []) rfl rfl rfl ?_
          refine E_s (p' := 38) (st' := aI 0 :: _) rfl rfl ?_
          refine E_s (p' := 40) (L' := [some (aA 124), some (aI ((i : Nat) : Int)), some (aI (x)), some (aI (y)), some (aI (-1)), some (aI ((c : Nat) : Int)), some (aI 0)]) rfl rfl ?_
          refine E_s (p' := 41) (st' := aA 124 :: _) rfl rfl ?_
          refine E_gA (b := 155) rfl rfl rfl rfl rfl rfl ?_
          refine E_s (p' := 46) (st' := aI ((c : Nat) : Int) :: _) rfl rfl ?_
          refine E_s (p' := 48) (st' := aI 0 :: _) rfl rfl ?_
          refine E_s (p' := 55) rfl rfl ?_
          refine E_s (p' := 56) (st' := aA 124 :: _) rfl rfl ?_
          refine E_gA (b := 153) rfl rfl rfl rfl rfl rfl ?_
          refine E_s (p' := 61) (st' := aI ((c : Nat) : Int) :: _) rfl rfl ?_
          refine E_ald (e := c) (N := 60) (v := (((oL R c)))) rfl rfl (rfl) (by omega) ((I0 _ _ (by omega)).trans (how c (by omega)).1) ?_
          refine E_ast (e := c) (N := 60) rfl rfl (rfl) (by omega) ?_
          refine E_s (p' := 64) (st' := aA 124 :: _) rfl rfl ?_
          refine E_gA (b := 156) rfl rfl rfl rfl rfl rfl ?_
          refine E_s (p' := 69) (st' := aI ((c : Nat) : Int) :: _) rfl rfl ?_
          refine E_s (p' := 71) (st' := aI 0 :: _) rfl rfl ?_
          refine E_s (p' := 79) rfl rfl ?_
          refine E_s (p' := 80) (st' := aA 124 :: _) rfl rfl ?_
          refine E_gA (b := 154) rfl rfl rfl rfl rfl rfl ?_
          refine E_s (p' := 85) (st' := aI ((c : Nat) : Int) :: _) rfl rfl ?_
          refine E_ald (e := c) (N := 60) (v := (((oH R c)))) rfl rfl (rfl) (by omega) ((up2_ne (by omega)).trans (((I0 _ _ (by omega)).trans (how c (by omega)).2))) ?_
          refine E_ast (e := c) (N := 60) rfl rfl (rfl) (by omega) ?_
          refine E_inc (x := ((c : Nat) : Int)) (w := ((c + 1 : Nat) : Int)) (L' := [some (aA 124), some (aI ((i : Nat) : Int)), some (aI (x)), some (aI (y)), some (aI (-1)), some (aI ((c + 1 : Nat) : Int)), some (aI 0)]) rfl rfl rfl (by omega) (by omega) rfl ?_
          refine E_s (p' := 3) rfl rfl ?_
          have ea : (((c : Nat) : Int) = x ∨ ((c : Nat) : Int) = y) = False := by simp only [eq_iff_iff, iff_false]; omega
          refine ih (c + 1) _ _ (by omega) (by omega) (fun b z g1 => (up2_ne (by omega)).trans ((up2_ne (by omega)).trans (I0 b z g1))) (fun d hd8 => ?_)
          by_cases g9 : d = c
          · rw [g9]
            refine ⟨((up2_ne (by omega)).trans up2_eq).trans ?_, up2_eq.trans ?_⟩
            · unfold sL; simp only [ea, if_true, if_false]
            · unfold sH; simp only [ea, if_true, if_false]
          · exact ⟨(up2_ne (by omega)).trans ((up2_sl g9).trans (I2 d (by omega)).1), (up2_sl g9).trans ((up2_ne (by omega)).trans (I2 d (by omega)).2)⟩
theorem yl_rsB (hi9 : i < 4) (hM : MR R i m0) (hV : VR R) {x6 : Option AV} (q : ∀ m1 : Mm, (∀ b z, ¬ (155 ≤ b ∧ b ≤ 158) → m1 b z = m0 b z) → (∀ c, c < Cn R → m1 155 c = (rnd R 200 0 (sL R x y) (sH R x y)).2.1 c ∧ m1 156 c = (rnd R 200 0 (sL R x y) (sH R x y)).2.2 c) → Q (some (aI (rnd R 200 0 (sL R x y) (sH R x y)).1)) (m1, tl len)) : ∀ (d : Nat) (e n : Nat) (lo hi : Nat → Int) (m : Mm), (e < d) → (n + e = 200) → (rnd R 200 0 (sL R x y) (sH R x y) = rnd R e n lo hi) → (bnd (Cn R) lo hi) → (∀ b z, ¬ (155 ≤ b ∧ b ≤ 158) → m b z = m0 b z) → (∀ c, c < Cn R → m 155 c = lo c ∧ m 156 c = hi c) → E 167 96 [some (aA 124), some (aI ((i : Nat) : Int)), some (aI (x)), some (aI (y)), some (aI (-1)), some (aI ((n : Nat) : Int)), x6] [] (m, tl len) Q := by
  intro d
  induction d with
  | zero => intro e n lo hi m hd9 hie hq hb I1 I2; omega
  | succ d ih =>
    intro e n lo hi m hd9 hie hq hb I1 I2
    have hn60 := hV.1
    have hMm : MR R i m := hM.of (fun b j g1 g2 => I1 b j (by omega))
    refine E_s (p' := 98) (st' := aI ((n : Nat) : Int) :: _) rfl rfl ?_
    refine E_s (p' := 101) (st' := aI 200 :: _) rfl rfl ?_
    refine E_icmp_ge (x := ((n : Nat) : Int)) (y := 200) rfl (by decide) (fun h_1 => ?_) (fun h_1 => ?_)
    · refine E_go (p' := 131) (L' := [some (aA 124), some (aI ((i : Nat) : Int)), some (aI (x)), some (aI (y)), some (aI (-1)), some (aI ((n : Nat) : Int)), x6]) (st' := []) rfl rfl rfl ?_
      refine E_s (p' := 133) (st' := aI (-4) :: _) rfl rfl ?_
      refine E_ret rfl rfl ?_
      have e9 : e = 0 := by omega
      subst e9
      rw [hq] at q
      exact q m I1 I2
    · refine E_go (p' := 104) (L' := [some (aA 124), some (aI ((i : Nat) : Int)), some (aI (x)), some (aI (y)), some (aI (-1)), some (aI ((n : Nat) : Int)), x6]) (st' := []) rfl rfl rfl ?_
      refine E_s (p' := 105) (st' := aA 124 :: _) rfl rfl ?_
      refine E_s (p' := 106) (st' := aI ((i : Nat) : Int) :: _) rfl rfl ?_
      refine E_callV (k' := 168) (a := 124) (r := []) (L0 := [some (aA 124), some (aI ((i : Nat) : Int)), none, none, none, none, none, none]) rfl rfl rfl rfl rfl rfl rfl rfl rfl rfl ?_
      refine m_round hi9 hMm hV hb I2 (fun m1 F1 V1 => ?_)
      refine E_go (p' := 109) (L' := [some (aA 124), some (aI ((i : Nat) : Int)), some (aI (x)), some (aI (y)), some (aI (-1)), some (aI ((n : Nat) : Int)), x6]) (st' := [aI (bi (rdC R lo hi (Cn R)))]) rfl rfl rfl ?_
      have hM1 : MR R i m1 := hM.of (fun b j g1 g2 => (F1 b j (by omega)).trans (I1 b j (by omega)))
      refine E_b_ne0 (b := (rdC R lo hi (Cn R))) rfl (by decide) (fun h_2 => ?_) (fun h_2 => ?_)
      · refine E_go (p' := 115) (L' := [some (aA 124), some (aI ((i : Nat) : Int)), some (aI (x)), some (aI (y)), some (aI (-1)), some (aI ((n : Nat) : Int)), x6]) (st' := []) rfl rfl rfl ?_
        refine E_s (p' := 116) (st' := aA 124 :: _) rfl rfl ?_
        refine E_s (p' := 117) (st' := aI ((i : Nat) : Int) :: _) rfl rfl ?_
        refine E_callV (k' := 171) (a := 124) (r := []) (L0 := [some (aA 124), some (aI ((i : Nat) : Int)), none]) rfl rfl rfl rfl rfl rfl rfl rfl rfl rfl ?_
        refine m_isBroken hi9 hM1 hV V1 (fun cb hc1 hc2 => ?_) (fun hno => ?_)
        · refine E_go (p' := 120) (L' := [some (aA 124), some (aI ((i : Nat) : Int)), some (aI (x)), some (aI (y)), some (aI (-1)), some (aI ((n : Nat) : Int)), x6]) (st' := [aI 1]) rfl rfl rfl ?_
          refine E_s (p' := 123) rfl rfl ?_
          refine E_s (p' := 124) (st' := aI (-1) :: _) rfl rfl ?_
          refine E_ret rfl rfl ?_
          have eb : brk (rdS R lo hi (Sn R)).1 (rdS R lo hi (Sn R)).2 (Cn R) = true := brk_t hc1 hc2
          obtain ⟨e1, ee⟩ : ∃ z, e = z + 1 := ⟨e - 1, by omega⟩
          rw [hq, ee] at q
          have er : rnd R (e1 + 1) n lo hi = (-1, rdS R lo hi (Sn R)) := by show (bif rdC R lo hi (Cn R) then _ else _) = _; rw [show rdC R lo hi (Cn R) = true by assumption, eb]; rfl
          rw [er] at q
          exact q m1 (fun b z g1 => (F1 b z g1).trans (I1 b z g1)) V1
        · refine E_go (p' := 120) (L' := [some (aA 124), some (aI ((i : Nat) : Int)), some (aI (x)), some (aI (y)), some (aI (-1)), some (aI ((n : Nat) : Int)), x6]) (st' := [aI 0]) rfl rfl rfl ?_
          refine E_s (p' := 125) rfl rfl ?_
          refine E_inc (x := ((n : Nat) : Int)) (w := ((n + 1 : Nat) : Int)) (L' := [some (aA 124), some (aI ((i : Nat) : Int)), some (aI (x)), some (aI (y)), some (aI (-1)), some (aI ((n + 1 : Nat) : Int)), x6]) rfl rfl rfl (by omega) (by omega) rfl ?_
          refine E_s (p' := 96) rfl rfl ?_
          obtain ⟨e1, ee⟩ : ∃ z, e = z + 1 := ⟨e - 1, by omega⟩
          refine ih e1 (n + 1) (rdS R lo hi (Sn R)).1 (rdS R lo hi (Sn R)).2 m1 (by omega) (by omega) ?_ (fun c hc => ?_) (fun b z g1 => (F1 b z g1).trans (I1 b z g1)) V1
          · rw [hq, ee]
            show (bif rdC R lo hi (Cn R) then _ else _) = _
            rw [show rdC R lo hi (Cn R) = true by assumption, brk_f.mpr hno]; rfl
          · have h1 := rdS_m (R := R) (lo := lo) (hi := hi) (Sn R) c
            have h2 := hb c hc
            have h3 := hno c hc
            omega
      · refine E_go (p' := 112) (L' := [some (aA 124), some (aI ((i : Nat) : Int)), some (aI (x)), some (aI (y)), some (aI (-1)), some (aI ((n : Nat) : Int)), x6]) (st' := []) rfl rfl rfl ?_
        refine E_s (p' := 114) (st' := aI ((n : Nat) : Int) :: _) rfl rfl ?_
        refine E_ret rfl rfl ?_
        obtain ⟨e1, ee⟩ : ∃ z, e = z + 1 := ⟨e - 1, by omega⟩
        rw [hq, ee] at q
        have er : rnd R (e1 + 1) n lo hi = ((n : Int), rdS R lo hi (Sn R)) := by show (bif rdC R lo hi (Cn R) then _ else _) = _; rw [show rdC R lo hi (Cn R) = false by assumption]; rfl
        rw [er] at q
        exact q m1 (fun b z g1 => (F1 b z g1).trans (I1 b z g1)) V1
theorem m_rounds (hi9 : i < 4) (hM : MR R i m0) (hV : VR R) (how : ∀ d, d < Cn R → m0 153 d = oL R d ∧ m0 154 d = oH R d) (q : ∀ m1 : Mm, (∀ b z, ¬ (155 ≤ b ∧ b ≤ 158) → m1 b z = m0 b z) → (∀ c, c < Cn R → m1 155 c = (rnd R 200 0 (sL R x y) (sH R x y)).2.1 c ∧ m1 156 c = (rnd R 200 0 (sL R x y) (sH R x y)).2.2 c) → Q (some (aI (rnd R 200 0 (sL R x y) (sH R x y)).1)) (m1, tl len)) : E 167 0 [some (aA 124), some (aI ((i : Nat) : Int)), some (aI (x)), some (aI (y)), some (aI (-1)), none, none] [] (m0, tl len) Q := by
  refine E_s (p' := 1) (st' := aI 0 :: _) rfl rfl ?_
  refine E_s (p' := 3) (L' := [some (aA 124), some (aI ((i : Nat) : Int)), some (aI (x)), some (aI (y)), some (aI (-1)), some (aI 0), none]) rfl rfl ?_
  refine yl_rsA hi9 hM hV how (fun m1 y6 a1 a2 => ?_) (Cn R + 1) 0 m0 none (by omega) (by omega) (fun b z _ => rfl) (fun d hd8 => absurd hd8 (by omega))
  refine E_s (p' := 94) (st' := aI 0 :: _) rfl rfl ?_
  refine E_s (p' := 96) (L' := [some (aA 124), some (aI ((i : Nat) : Int)), some (aI (x)), some (aI (y)), some (aI (-1)), some (aI 0), y6]) rfl rfl ?_
  exact yl_rsB hi9 (hM.of (fun b j g1 g2 => a1 b j (by omega))) hV (fun m2 b1 b2 => q m2 (fun b z g1 => (b1 b z g1).trans (a1 b z (by omega))) b2) 201 200 0 (sL R x y) (sH R x y) m1 (by omega) (by omega) rfl (own_b hV x y) (fun b z _ => rfl) a2
theorem yl_ms (hi9 : i < 4) (hM : MR R i m0) (hV : VR R) {v : Int} (q : ∀ m1 : Mm, (∀ b z, ¬ (159 ≤ b ∧ b ≤ 160) → b ≠ 140 → m1 b z = m0 b z) → Q (some (aI v)) (m1, tl len)) : ∀ (d : Nat) (c : Nat) (m : Mm), (Cn R < c + d) → (c ≤ Cn R) → (∀ b z, ¬ (159 ≤ b ∧ b ≤ 160) → m b z = m0 b z) → E 165 26 [some (aA 124), some (aI ((i : Nat) : Int)), some (aI (v)), some (aI ((c : Nat) : Int))] [] (m, tl len) Q := by
  intro d
  induction d with
  | zero => intro c m hd hc I0; omega
  | succ d ih =>
    intro c m hd hc I0
    have hn60 := hV.1
    have hMm : MR R i m := hM.of (fun b j g1 g2 => I0 b j (by omega))
    refine E_s (p' := 27) (st' := aI ((c : Nat) : Int) :: _) rfl rfl ?_
    refine E_s (p' := 28) (st' := aA 124 :: _) rfl rfl ?_
    refine E_gA (b := 125) rfl rfl rfl rfl rfl rfl ?_
    refine E_s (p' := 32) (st' := aI ((i : Nat) : Int) :: _) rfl rfl ?_
    refine E_ald (e := i) (N := 4) (v := ((Cn R : Nat) : Int)) rfl rfl (rfl) (by omega) (MR_125 hMm) ?_
    refine E_icmp_ge (x := ((c : Nat) : Int)) (y := ((Cn R : Nat) : Int)) rfl (by decide) (fun h_1 => ?_) (fun h_1 => ?_)
    · refine E_go (p' := 76) (L' := [some (aA 124), some (aI ((i : Nat) : Int)), some (aI (v)), some (aI ((c : Nat) : Int))]) (st' := []) rfl rfl rfl ?_
      refine E_s (p' := 77) (st' := aA 124 :: _) rfl rfl ?_
      refine E_gA (b := 140) rfl rfl rfl rfl rfl rfl ?_
      refine E_s (p' := 81) (st' := aI ((i : Nat) : Int) :: _) rfl rfl ?_
      refine E_s (p' := 82) (st' := aI 1 :: _) rfl rfl ?_
      refine E_zst (e := i) (N := 4) rfl rfl (rfl) (by omega) (by decide) ?_
      refine E_s (p' := 84) (st' := aI (v) :: _) rfl rfl ?_
      refine E_ret rfl rfl ?_
      exact q _ (fun b z g1 g2 => (up2_ne g2).trans (I0 b z g1))
    · refine E_go (p' := 36) (L' := [some (aA 124), some (aI ((i : Nat) : Int)), some (aI (v)), some (aI ((c : Nat) : Int))]) (st' := []) rfl rfl rfl ?_
      refine E_s (p' := 37) (st' := aA 124 :: _) rfl rfl ?_
      refine E_gA (b := 159) rfl rfl rfl rfl rfl rfl ?_
      refine E_s (p' := 42) (st' := aI 60 :: _) rfl rfl ?_
      refine E_s (p' := 43) (st' := aI ((i : Nat) : Int) :: _) rfl rfl ?_
      refine E_mul (v := ((60 * i : Nat) : Int)) rfl (by omega) (by omega) ?_
      refine E_s (p' := 45) (st' := aI ((c : Nat) : Int) :: _) rfl rfl ?_
      refine E_add (v := ((60 * i + c : Nat) : Int)) rfl (by omega) (by omega) ?_
      refine E_s (p' := 47) (st' := aA 124 :: _) rfl rfl ?_
      refine E_gA (b := 155) rfl rfl rfl rfl rfl rfl ?_
      refine E_s (p' := 51) (st' := aI ((c : Nat) : Int) :: _) rfl rfl ?_
      refine E_ald (e := c) (N := 60) (v := ((m 155 c))) rfl rfl (rfl) (by omega) rfl ?_
      refine E_ast (e := 60 * i + c) (N := 240) rfl rfl (rfl) (by omega) ?_
      refine E_s (p' := 54) (st' := aA 124 :: _) rfl rfl ?_
      refine E_gA (b := 160) rfl rfl rfl rfl rfl rfl ?_
      refine E_s (p' := 59) (st' := aI 60 :: _) rfl rfl ?_
      refine E_s (p' := 60) (st' := aI ((i : Nat) : Int) :: _) rfl rfl ?_
      refine E_mul (v := ((60 * i : Nat) : Int)) rfl (by omega) (by omega) ?_
      refine E_s (p' := 62) (st' := aI ((c : Nat) : Int) :: _) rfl rfl ?_
      refine E_add (v := ((60 * i + c : Nat) : Int)) rfl (by omega) (by omega) ?_
      refine E_s (p' := 64) (st' := aA 124 :: _) rfl rfl ?_
      refine E_gA (b := 156) rfl rfl rfl rfl rfl rfl ?_
      refine E_s (p' := 68) (st' := aI ((c : Nat) : Int) :: _) rfl rfl ?_
      refine E_ald (e := c) (N := 60) (v := ((m 156 c))) rfl rfl (rfl) (by omega) (up2_ne (by omega)) ?_
      refine E_ast (e := 60 * i + c) (N := 240) rfl rfl (rfl) (by omega) ?_
      refine E_inc (x := ((c : Nat) : Int)) (w := ((c + 1 : Nat) : Int)) (L' := [some (aA 124), some (aI ((i : Nat) : Int)), some (aI (v)), some (aI ((c + 1 : Nat) : Int))]) rfl rfl rfl (by omega) (by omega) rfl ?_
      refine E_s (p' := 26) rfl rfl ?_
      exact ih (c + 1) _ (by omega) (by omega) (fun b z g1 => (up2_ne (by omega)).trans ((up2_ne (by omega)).trans (I0 b z g1)))
end
section
variable {len : Nat} {m : Mm} {Q : Option AV → Sx → Prop} {S : Nat → RD} {r : Int}
theorem M_settle (hS : MS S m) (q : ∀ m1, MS S m1 → Co1 m m1 → Q (some (aI (qy S r (-2) (aSettle)))) (m1, tl len)) : E 165 0 [some (aA 124), some (aI (r)), none, none] [] (m, tl len) Q := by
  refine E_s (p' := 1) (st' := aI (r) :: _) rfl rfl ?_
  refine E_callL (p' := 4) (L0 := [some (aI (r))]) rfl rfl rfl ?_
  refine m_isRecord (fun i hi hr => ?_) (fun hr => ?_)
  · refine E_go (p' := 4) (L' := [some (aA 124), some (aI (r)), none, none]) (st' := [aI 1]) rfl rfl rfl ?_
    obtain ⟨hV, hM⟩ := hS i hi
    have hn60 := hV.1
    have hs40 := hV.2.2.2.2.1
    subst hr
    refine E_s (p' := 10) rfl rfl ?_
    refine E_s (p' := 11) (st' := aA 124 :: _) rfl rfl ?_
    refine E_s (p' := 12) (st' := aI ((i : Nat) : Int) :: _) rfl rfl ?_
    refine E_callV (k' := 166) (a := 124) (r := []) (L0 := [some (aA 124), some (aI ((i : Nat) : Int)), none]) rfl rfl rfl rfl rfl rfl rfl rfl rfl rfl ?_
    refine m_own hi hM hV (fun m1 K1 K2 => ?_)
    refine E_go (p' := 15) (L' := [some (aA 124), some (aI ((i : Nat) : Int)), none, none]) (st' := []) rfl rfl rfl ?_
    have hM1 := K1.MR hM
    refine E_s (p' := 16) (st' := aA 124 :: _) rfl rfl ?_
    refine E_s (p' := 17) (st' := aI ((i : Nat) : Int) :: _) rfl rfl ?_
    refine E_s (p' := 18) (st' := aI (-1) :: _) rfl rfl ?_
    refine E_s (p' := 19) (st' := aI (-1) :: _) rfl rfl ?_
    refine E_s (p' := 20) (st' := aI (-1) :: _) rfl rfl ?_
    refine E_callV (k' := 167) (a := 124) (r := []) (L0 := [some (aA 124), some (aI ((i : Nat) : Int)), some (aI (-1)), some (aI (-1)), some (aI (-1)), none, none]) rfl rfl rfl rfl rfl rfl rfl rfl rfl rfl ?_
    refine m_rounds (x := -1) (y := -1) hi hM1 hV K2 (fun m2 F2 V2 => ?_)
    refine E_go (p' := 23) (L' := [some (aA 124), some (aI ((i : Nat) : Int)), none, none]) (st' := [aI ((aSettle (S i)))]) rfl rfl rfl ?_
    refine E_s (p' := 24) (L' := [some (aA 124), some (aI ((i : Nat) : Int)), some (aI ((aSettle (S i)))), none]) rfl rfl ?_
    refine E_s (p' := 25) (st' := aI 0 :: _) rfl rfl ?_
    refine E_s (p' := 26) (L' := [some (aA 124), some (aI ((i : Nat) : Int)), some (aI ((aSettle (S i)))), some (aI 0)]) rfl rfl ?_
    refine yl_ms hi (hM1.of (fun b j g1 g2 => F2 b j (by omega))) hV (fun m3 F3 => ?_) (Cn (S i) + 1) 0 m2 (by omega) (by omega) (fun b z _ => rfl)
    exact mq_in (hS.of (fun b j g1 g2 => (F3 b j (by omega) (by omega)).trans ((F2 b j (by omega)).trans (K1 b j (by omega) (by omega) (by omega))))) hi rfl q rfl (fun b j hb => (F3 b j (by omega) (by omega)).trans ((F2 b j (by omega)).trans (K1 b j (by omega) (by omega) (by omega))))
  · refine E_go (p' := 4) (L' := [some (aA 124), some (aI (r)), none, none]) (st' := [aI 0]) rfl rfl rfl ?_
    refine E_s (p' := 7) rfl rfl ?_
    refine E_s (p' := 9) (st' := aI (-2) :: _) rfl rfl ?_
    refine E_ret rfl rfl ?_
    exact mq_out hS q hr
end
