section
variable {len : Nat} {m m0 : Mm} {Q : Option AV → Sx → Prop} {R : RD} {i c X : Nat}
theorem yl_tl (hi : i < 4) (hV : VR R) (hc : c < Cn R) (ht0 : Ct R c = 0) (hd0 : RdM R m0) (h0 : 0 < RL R) (hx : X ≤ 999999) (q1 : ∀ (m1 : Mm) (y : KR), plN R c X = some y → MK9 R c i m0 y m1 → Q (some (aI 1)) (m1, tl len)) (q0 : ∀ (m1 : Mm) (y : KR), plN R c X = none → MK9 R c i m0 y m1 → Q (some (aI 0)) (m1, tl len))  : ∀ (d : Nat) (l t : Nat) (m : Mm) (y : KR) (x5 x6 x7 x8 x9 x10 x11 : Option AV), (RL R < l + d) → (l ≤ RL R) → (rstP R X l t) → (fdK (Cl R c) (some K0) (upK R X l) = some y) → (MK9 R c i m0 y m) → E 160 5 [some (aA 124), some (aI ((60 * i + c : Nat) : Int)), some (aI ((X : Nat) : Int)), some (aI ((t : Nat) : Int)), some (aI ((l : Nat) : Int)), x5, x6, x7, x8, x9, x10, x11] [] (m, tl len) Q := by
  intro d
  induction d with
  | zero => intro l t m y x5 x6 x7 x8 x9 x10 x11 hd hl hrs I1 I2; omega
  | succ d ih =>
    intro l t m y x5 x6 x7 x8 x9 x10 x11 hd hl hrs I1 I2
    have hy30 := I2.1.n30 hc
    have hn60 := hV.1
    have hl600 := (hV.2.2.1 c hc).2.2.2.1
    have hrl := RL_mx R
    have hm6 : mxv (Run R) ≤ 6 := by cases Run R <;> decide
    have htl := rst_le hrs
    have hdm : RdM R m := hd0.of (fun b j hb => I2.2.2.2 b j (by omega))
    refine E_s (p' := 7) (st' := aI ((l : Nat) : Int) :: _) rfl rfl ?_
    refine E_s (p' := 8) (st' := aA 124 :: _) rfl rfl ?_
    refine E_gI (v := ((RL R : Nat) : Int)) rfl rfl rfl rfl hdm.1 ?_
    refine E_icmp_ge (x := ((l : Nat) : Int)) (y := ((RL R : Nat) : Int)) rfl (by decide) (fun h_1 => ?_) (fun h_1 => ?_)
    · refine E_go (p' := 226) (L' := [some (aA 124), some (aI ((60 * i + c : Nat) : Int)), some (aI ((X : Nat) : Int)), some (aI ((t : Nat) : Int)), some (aI ((l : Nat) : Int)), x5, x6, x7, x8, x9, x10, x11]) (st' := []) rfl rfl rfl ?_
      refine E_s (p' := 227) (st' := aI ((t : Nat) : Int) :: _) rfl rfl ?_
      refine E_if_ne (x := ((t : Nat) : Int)) rfl (by decide) (fun h_2 => ?_) (fun h_2 => ?_)
      · refine E_go (p' := 234) (L' := [some (aA 124), some (aI ((60 * i + c : Nat) : Int)), some (aI ((X : Nat) : Int)), some (aI ((t : Nat) : Int)), some (aI ((l : Nat) : Int)), x5, x6, x7, x8, x9, x10, x11]) (st' := []) rfl rfl rfl ?_
        refine E_s (p' := 235) (st' := aI 0 :: _) rfl rfl ?_
        refine E_ret rfl rfl ?_
        have el : l = RL R := by omega
        subst el
        have hre := rst_e h0 hrs
        exact q0 m y (by unfold plN; exact cif_neg (fun g9 => by have := g9.2.1; omega)) I2
      · refine E_go (p' := 230) (L' := [some (aA 124), some (aI ((60 * i + c : Nat) : Int)), some (aI ((X : Nat) : Int)), some (aI ((t : Nat) : Int)), some (aI ((l : Nat) : Int)), x5, x6, x7, x8, x9, x10, x11]) (st' := []) rfl rfl rfl ?_
        refine E_s (p' := 231) (st' := aI 1 :: _) rfl rfl ?_
        refine E_s (p' := 235) rfl rfl ?_
        refine E_ret rfl rfl ?_
        have el : l = RL R := by omega
        subst el
        have hre := rst_e h0 hrs
        exact q1 m y (by unfold plN; rw [cif_pos ⟨h0, by omega, hre.2⟩]; exact I1) I2
    · refine E_go (p' := 14) (L' := [some (aA 124), some (aI ((60 * i + c : Nat) : Int)), some (aI ((X : Nat) : Int)), some (aI ((t : Nat) : Int)), some (aI ((l : Nat) : Int)), x5, x6, x7, x8, x9, x10, x11]) (st' := []) rfl rfl rfl ?_
      have hrf := RF_le (R := R) (l := l) (by omega)
      refine E_s (p' := 15) (st' := aA 124 :: _) rfl rfl ?_
      refine E_s (p' := 17) (st' := aI ((l : Nat) : Int) :: _) rfl rfl ?_
      refine E_callV (k' := 151) (a := 124) (r := []) (L0 := [some (aA 124), some (aI ((l : Nat) : Int)), none, none]) rfl rfl rfl rfl rfl rfl rfl rfl rfl rfl ?_
      refine m_counts hdm (l := l) (by omega) ?_
      refine E_go (p' := 20) (L' := [some (aA 124), some (aI ((60 * i + c : Nat) : Int)), some (aI ((X : Nat) : Int)), some (aI ((t : Nat) : Int)), some (aI ((l : Nat) : Int)), x5, x6, x7, x8, x9, x10, x11]) (st' := [aI ((Rct R l : Nat) : Int)]) rfl rfl rfl ?_
      refine E_s (p' := 22) (L' := [some (aA 124), some (aI ((60 * i + c : Nat) : Int)), some (aI ((X : Nat) : Int)), some (aI ((t : Nat) : Int)), some (aI ((l : Nat) : Int)), some (aI ((Rct R l : Nat) : Int)), x6, x7, x8, x9, x10, x11]) rfl rfl ?_
      obtain ⟨C, hC⟩ : ∃ C, C = Rct R l := ⟨_, rfl⟩
      rw [← hC]
      have hCp := Rct_pos R l
      have hC5 := Rct_le5 (R := R) (by omega) l
      rw [← hC] at hCp hC5
      have hdv := Nat.div_le_self t C
      have hdz := Int.natCast_nonneg (t / C)
      refine E_s (p' := 23) (st' := aI ((t : Nat) : Int) :: _) rfl rfl ?_
      refine E_s (p' := 25) (st' := aI ((C : Nat) : Int) :: _) rfl rfl ?_
      refine E_div (v := (((t) / C : Nat) : Int)) rfl (by omega) (by omega) (by omega) (by omega) ?_
      refine E_s (p' := 28) (L' := [some (aA 124), some (aI ((60 * i + c : Nat) : Int)), some (aI ((X : Nat) : Int)), some (aI ((t : Nat) : Int)), some (aI ((l : Nat) : Int)), some (aI ((C : Nat) : Int)), some (aI (((t) / C : Nat) : Int)), x7, x8, x9, x10, x11]) rfl rfl ?_
      obtain ⟨g, hg⟩ : ∃ g, g = t / C := ⟨_, rfl⟩
      rw [← hg]
      refine E_s (p' := 30) (st' := aI ((g : Nat) : Int) :: _) rfl rfl ?_
      refine E_s (p' := 32) (st' := aI 9 :: _) rfl rfl ?_
      refine E_icmp_le (x := ((g : Nat) : Int)) (y := 9) rfl (by decide) (fun h_3 => ?_) (fun h_3 => ?_)
      · refine E_go (p' := 37) (L' := [some (aA 124), some (aI ((60 * i + c : Nat) : Int)), some (aI ((X : Nat) : Int)), some (aI ((t : Nat) : Int)), some (aI ((l : Nat) : Int)), some (aI ((C : Nat) : Int)), some (aI ((g : Nat) : Int)), x7, x8, x9, x10, x11]) (st' := []) rfl rfl rfl ?_
        have hgd := rst_d (by omega) hrs (by rw [← hC, ← hg]; omega)
        rw [← hC, ← hg] at hgd
        have hgm := Nat.div_add_mod' t C
        rw [← hg] at hgm
        refine E_s (p' := 38) (st' := aI ((t : Nat) : Int) :: _) rfl rfl ?_
        refine E_s (p' := 40) (st' := aI ((g : Nat) : Int) :: _) rfl rfl ?_
        refine E_s (p' := 42) (st' := aI ((C : Nat) : Int) :: _) rfl rfl ?_
        refine E_mulN (x := g) (y := C) rfl (by omega) ?_
        refine E_sub (v := ((t : Int) - ((g) * (C) : Int))) rfl (by omega) (by omega) ?_
        refine E_valv (show ((t : Int) - ((g) * (C) : Int)) = ((t % C : Nat) : Int) by omega) ?_
        refine E_s (p' := 45) (L' := [some (aA 124), some (aI ((60 * i + c : Nat) : Int)), some (aI ((X : Nat) : Int)), some (aI ((t % C : Nat) : Int)), some (aI ((l : Nat) : Int)), some (aI ((C : Nat) : Int)), some (aI ((g : Nat) : Int)), x7, x8, x9, x10, x11]) rfl rfl ?_
        refine E_s (p' := 47) (st' := aI ((g : Nat) : Int) :: _) rfl rfl ?_
        refine E_if_ne (x := ((g : Nat) : Int)) rfl (by decide) (fun h_4 => ?_) (fun h_4 => ?_)
        · refine E_go (p' := 53) (L' := [some (aA 124), some (aI ((60 * i + c : Nat) : Int)), some (aI ((X : Nat) : Int)), some (aI ((t % C : Nat) : Int)), some (aI ((l : Nat) : Int)), some (aI ((C : Nat) : Int)), some (aI ((g : Nat) : Int)), x7, x8, x9, x10, x11]) (st' := []) rfl rfl rfl ?_
          refine E_s (p' := 55) (st' := aI ((C : Nat) : Int) :: _) rfl rfl ?_
          refine E_s (p' := 56) (st' := aI 1 :: _) rfl rfl ?_
          refine E_icmp_ne (x := ((C : Nat) : Int)) (y := 1) rfl (by decide) (fun h_5 => ?_) (fun h_5 => ?_)
          · refine E_go (p' := 63) (L' := [some (aA 124), some (aI ((60 * i + c : Nat) : Int)), some (aI ((X : Nat) : Int)), some (aI ((t % C : Nat) : Int)), some (aI ((l : Nat) : Int)), some (aI ((C : Nat) : Int)), some (aI ((g : Nat) : Int)), x7, x8, x9, x10, x11]) (st' := []) rfl rfl rfl ?_
            refine E_s (p' := 64) (st' := aI 0 :: _) rfl rfl ?_
            refine E_s (p' := 66) (L' := [some (aA 124), some (aI ((60 * i + c : Nat) : Int)), some (aI ((X : Nat) : Int)), some (aI ((t % C : Nat) : Int)), some (aI ((l : Nat) : Int)), some (aI ((C : Nat) : Int)), some (aI ((g : Nat) : Int)), some (aI 0), x8, x9, x10, x11]) rfl rfl ?_
            refine E_s (p' := 68) (st' := aI 0 :: _) rfl rfl ?_
            refine E_s (p' := 81) rfl rfl ?_
            obtain ⟨e, he⟩ : ∃ e, g = e + 1 := ⟨g - 1, by omega⟩
            subst he
            refine E_s (p' := 82) (st' := aA 124 :: _) rfl rfl ?_
            refine E_gA (b := 145) rfl rfl rfl rfl rfl rfl ?_
            refine E_s (p' := 87) (st' := aI ((l : Nat) : Int) :: _) rfl rfl ?_
            refine E_ald (e := l) (N := 601) (v := ((RF R l : Nat) : Int)) rfl rfl (rfl) (by omega) (hdm.2.2.2 _ (by omega)).1 ?_
            refine E_s (p' := 89) (st' := aI 3 :: _) rfl rfl ?_
            refine E_s (p' := 91) (st' := aI ((e + 1 : Nat) : Int) :: _) rfl rfl ?_
            refine E_s (p' := 92) (st' := aI 1 :: _) rfl rfl ?_
            refine E_sub (v := ((e : Nat) : Int)) rfl (by omega) (by omega) ?_
            refine E_mul (v := ((3 * e : Nat) : Int)) rfl (by omega) (by omega) ?_
            refine E_s (p' := 95) (st' := aI 2 :: _) rfl rfl ?_
            refine E_div (v := (((3 * e) / 2 : Nat) : Int)) rfl (by omega) (by omega) (by omega) (by omega) ?_
            refine E_sub (v := ((RF R l : Int) - ((3 * e) / 2 : Int))) rfl (by omega) (by omega) ?_
            refine E_s (p' := 99) (L' := [some (aA 124), some (aI ((60 * i + c : Nat) : Int)), some (aI ((X : Nat) : Int)), some (aI ((t % C : Nat) : Int)), some (aI ((l : Nat) : Int)), some (aI ((C : Nat) : Int)), some (aI ((e + 1 : Nat) : Int)), some (aI 0), some (aI ((RF R l : Int) - ((3 * e) / 2 : Int))), x9, x10, x11]) rfl rfl ?_
            refine E_s (p' := 101) (st' := aI 0 :: _) rfl rfl ?_
            refine E_s (p' := 108) rfl rfl ?_
            refine E_s (p' := 110) (st' := aI ((e + 1 : Nat) : Int) :: _) rfl rfl ?_
            refine E_s (p' := 112) (L' := [some (aA 124), some (aI ((60 * i + c : Nat) : Int)), some (aI ((X : Nat) : Int)), some (aI ((t % C : Nat) : Int)), some (aI ((l : Nat) : Int)), some (aI ((C : Nat) : Int)), some (aI ((e + 1 : Nat) : Int)), some (aI 0), some (aI ((RF R l : Int) - ((3 * e) / 2 : Int))), some (aI ((e + 1 : Nat) : Int)), x10, x11]) rfl rfl ?_
            refine E_s (p' := 113) (st' := aI 0 :: _) rfl rfl ?_
            refine E_s (p' := 115) (L' := [some (aA 124), some (aI ((60 * i + c : Nat) : Int)), some (aI ((X : Nat) : Int)), some (aI ((t % C : Nat) : Int)), some (aI ((l : Nat) : Int)), some (aI ((C : Nat) : Int)), some (aI ((e + 1 : Nat) : Int)), some (aI 0), some (aI ((RF R l : Int) - ((3 * e) / 2 : Int))), some (aI ((e + 1 : Nat) : Int)), some (aI 0), x11]) rfl rfl ?_
            have elv : lvK R X l = smK (RF R l) e (e + 1) := by unfold lvK; rw [Rct_one (by omega), ← hC, ← hgd.1]; rw [decide_eq_false (by omega)]; unfold dgK; rw [if_neg (by omega), Nat.add_sub_cancel]; rfl
            refine yl_mg (m0 := m) (x := y) hi hV hc ht0 (RF_le (R := R) (l := l) (by omega)) (by omega) (fun m1 y1 g1 g2 => q0 m1 y1 (by
              have e9 : fdK (Cl R c) (some K0) (upK R X (l + 1)) = none := by
                show fdK (Cl R c) (some K0) (upK R X l ++ lvK R X l) = _
                rw [fdK_app, I1, elv]
                exact g1
              unfold plN; rw [upK_none e9 (RL R) (by omega)]; exact cif_same) (I2.tr g2)) (fun m1 y1 x12 g1 g2 => ?_) (e + 2) 0 m y _ (by omega) (by omega) rfl I2.rf
            refine E_inc (x := ((l : Nat) : Int)) (w := ((l + 1 : Nat) : Int)) (L' := [some (aA 124), some (aI ((60 * i + c : Nat) : Int)), some (aI ((X : Nat) : Int)), some (aI ((t % C : Nat) : Int)), some (aI ((l + 1 : Nat) : Int)), some (aI ((C : Nat) : Int)), some (aI ((e + 1 : Nat) : Int)), some (aI 0), some (aI ((RF R l : Int) - ((3 * e) / 2 : Int))), some (aI ((e + 1 : Nat) : Int)), some (aI ((e + 1 : Nat) : Int)), x12]) rfl rfl rfl (by omega) (by omega) rfl ?_
            refine E_s (p' := 5) rfl rfl ?_
            have elv : lvK R X l = smK (RF R l) e (e + 1) := by unfold lvK; rw [Rct_one (by omega), ← hC, ← hgd.1]; rw [decide_eq_false (by omega)]; unfold dgK; rw [if_neg (by omega), Nat.add_sub_cancel]; rfl
            have e9 : fdK (Cl R c) (some K0) (upK R X (l + 1)) = some y1 := by
              show fdK (Cl R c) (some K0) (upK R X l ++ lvK R X l) = _
              rw [fdK_app, I1, elv]
              exact g1
            exact ih (l + 1) (t % C) m1 y1 _ _ _ _ _ _ _ (by omega) (by omega) hgd.2 e9 (I2.tr g2)
          · refine E_go (p' := 59) (L' := [some (aA 124), some (aI ((60 * i + c : Nat) : Int)), some (aI ((X : Nat) : Int)), some (aI ((t % C : Nat) : Int)), some (aI ((l : Nat) : Int)), some (aI ((C : Nat) : Int)), some (aI ((g : Nat) : Int)), x7, x8, x9, x10, x11]) (st' := []) rfl rfl rfl ?_
            refine E_s (p' := 60) (st' := aI 1 :: _) rfl rfl ?_
            refine E_s (p' := 64) rfl rfl ?_
            refine E_s (p' := 66) (L' := [some (aA 124), some (aI ((60 * i + c : Nat) : Int)), some (aI ((X : Nat) : Int)), some (aI ((t % C : Nat) : Int)), some (aI ((l : Nat) : Int)), some (aI ((C : Nat) : Int)), some (aI ((g : Nat) : Int)), some (aI 1), x8, x9, x10, x11]) rfl rfl ?_
            refine E_s (p' := 68) (st' := aI 1 :: _) rfl rfl ?_
            refine E_s (p' := 71) rfl rfl ?_
            refine E_s (p' := 72) (st' := aA 124 :: _) rfl rfl ?_
            refine E_gA (b := 145) rfl rfl rfl rfl rfl rfl ?_
            refine E_s (p' := 77) (st' := aI ((l : Nat) : Int) :: _) rfl rfl ?_
            refine E_ald (e := l) (N := 601) (v := ((RF R l : Nat) : Int)) rfl rfl (rfl) (by omega) (hdm.2.2.2 _ (by omega)).1 ?_
            refine E_s (p' := 97) rfl rfl ?_
            refine E_s (p' := 99) (L' := [some (aA 124), some (aI ((60 * i + c : Nat) : Int)), some (aI ((X : Nat) : Int)), some (aI ((t % C : Nat) : Int)), some (aI ((l : Nat) : Int)), some (aI ((C : Nat) : Int)), some (aI ((g : Nat) : Int)), some (aI 1), some (aI ((RF R l : Nat) : Int)), x9, x10, x11]) rfl rfl ?_
            refine E_s (p' := 101) (st' := aI 1 :: _) rfl rfl ?_
            refine E_s (p' := 104) rfl rfl ?_
            refine E_s (p' := 105) (st' := aI 1 :: _) rfl rfl ?_
            refine E_s (p' := 110) rfl rfl ?_
            refine E_s (p' := 112) (L' := [some (aA 124), some (aI ((60 * i + c : Nat) : Int)), some (aI ((X : Nat) : Int)), some (aI ((t % C : Nat) : Int)), some (aI ((l : Nat) : Int)), some (aI ((C : Nat) : Int)), some (aI ((g : Nat) : Int)), some (aI 1), some (aI ((RF R l : Nat) : Int)), some (aI 1), x10, x11]) rfl rfl ?_
            refine E_s (p' := 113) (st' := aI 0 :: _) rfl rfl ?_
            refine E_s (p' := 115) (L' := [some (aA 124), some (aI ((60 * i + c : Nat) : Int)), some (aI ((X : Nat) : Int)), some (aI ((t % C : Nat) : Int)), some (aI ((l : Nat) : Int)), some (aI ((C : Nat) : Int)), some (aI ((g : Nat) : Int)), some (aI 1), some (aI ((RF R l : Nat) : Int)), some (aI 1), some (aI 0), x11]) rfl rfl ?_
            refine E_s (p' := 117) (st' := aI 0 :: _) rfl rfl ?_
            refine E_s (p' := 119) (st' := aI 1 :: _) rfl rfl ?_
            refine E_s (p' := 122) rfl rfl ?_
            refine E_s (p' := 124) (st' := aI ((RF R l : Nat) : Int) :: _) rfl rfl ?_
            refine E_s (p' := 125) (st' := aI 3 :: _) rfl rfl ?_
            refine E_s (p' := 127) (st' := aI 0 :: _) rfl rfl ?_
            refine E_s (p' := 128) (st' := aI 0 :: _) rfl rfl ?_
            refine E_add (v := ((RF R l : Nat) : Int)) rfl (by omega) (by omega) ?_
            refine E_s (p' := 131) (L' := [some (aA 124), some (aI ((60 * i + c : Nat) : Int)), some (aI ((X : Nat) : Int)), some (aI ((t % C : Nat) : Int)), some (aI ((l : Nat) : Int)), some (aI ((C : Nat) : Int)), some (aI ((g : Nat) : Int)), some (aI 1), some (aI ((RF R l : Nat) : Int)), some (aI 1), some (aI 0), some (aI ((RF R l : Nat) : Int))]) rfl rfl ?_
            refine E_s (p' := 133) (st' := aI ((RF R l : Nat) : Int) :: _) rfl rfl ?_
            refine E_s (p' := 134) (st' := aI 1 :: _) rfl rfl ?_
            refine E_s (p' := 135) (st' := aA 124 :: _) rfl rfl ?_
            refine E_gA (b := 130) rfl rfl rfl rfl rfl rfl ?_
            refine E_s (p' := 139) (st' := aI ((60 * i + c : Nat) : Int) :: _) rfl rfl ?_
            refine E_ald (e := 60 * i + c) (N := 240) (v := ((Cl R c : Nat) : Int)) rfl rfl (rfl) (by omega) (MR_130 (R := Rkn R c y.1 y.2) I2.2.1 hc rfl) ?_
            refine E_callL (p' := 143) (L0 := [some (aI ((RF R l : Nat) : Int)), some (aI 1), some (aI ((Cl R c : Nat) : Int))]) rfl rfl rfl ?_
            refine m_in (fun hr1 hr2 => ?_) (fun hr0 => ?_)
            · refine E_go (p' := 143) (L' := [some (aA 124), some (aI ((60 * i + c : Nat) : Int)), some (aI ((X : Nat) : Int)), some (aI ((t % C : Nat) : Int)), some (aI ((l : Nat) : Int)), some (aI ((C : Nat) : Int)), some (aI ((g : Nat) : Int)), some (aI 1), some (aI ((RF R l : Nat) : Int)), some (aI 1), some (aI 0), some (aI ((RF R l : Nat) : Int))]) (st' := [aI 1]) rfl rfl rfl ?_
              refine E_s (p' := 146) rfl rfl ?_
              refine E_s (p' := 147) (st' := aA 124 :: _) rfl rfl ?_
              refine E_s (p' := 148) (st' := aI ((60 * i + c : Nat) : Int) :: _) rfl rfl ?_
              refine E_s (p' := 150) (st' := aI ((RF R l : Nat) : Int) :: _) rfl rfl ?_
              refine E_callV (k' := 137) (a := 124) (r := []) (L0 := [some (aA 124), some (aI ((60 * i + c : Nat) : Int)), some (aI ((RF R l : Nat) : Int)), none]) rfl rfl rfl rfl rfl rfl rfl rfl rfl rfl ?_
              refine m_find hi I2.2.1 I2.1 hc (fun k1 hk1 hk2 => ?_) (fun hnf => ?_)
              · refine E_go (p' := 153) (L' := [some (aA 124), some (aI ((60 * i + c : Nat) : Int)), some (aI ((X : Nat) : Int)), some (aI ((t % C : Nat) : Int)), some (aI ((l : Nat) : Int)), some (aI ((C : Nat) : Int)), some (aI ((g : Nat) : Int)), some (aI 1), some (aI ((RF R l : Nat) : Int)), some (aI 1), some (aI 0), some (aI ((RF R l : Nat) : Int))]) (st' := [aI ((k1 : Nat) : Int)]) rfl rfl rfl ?_
                rw [Ckn] at hk1
                rw [Cpn] at hk2
                refine E_s (p' := 154) (st' := aI (-1) :: _) rfl rfl ?_
                refine E_icmp_ne (x := ((k1 : Nat) : Int)) (y := (-1)) rfl (by decide) (fun h_6 => ?_) (fun q => absurd q (by omega))
                refine E_go (p' := 168) (L' := [some (aA 124), some (aI ((60 * i + c : Nat) : Int)), some (aI ((X : Nat) : Int)), some (aI ((t % C : Nat) : Int)), some (aI ((l : Nat) : Int)), some (aI ((C : Nat) : Int)), some (aI ((g : Nat) : Int)), some (aI 1), some (aI ((RF R l : Nat) : Int)), some (aI 1), some (aI 0), some (aI ((RF R l : Nat) : Int))]) (st' := []) rfl rfl rfl ?_
                refine E_s (p' := 169) (st' := aI 0 :: _) rfl rfl ?_
                refine E_ret rfl rfl ?_
                have elv : lvK R X l = [itU (RF R l) g] := by unfold lvK; rw [Rct_one (by omega), ← hC, ← hgd.1]; rw [decide_eq_true (by omega)]; unfold dgK; rw [if_neg (by omega)]; rfl
                have nf : ¬ fitK (Cl R c) y.1 y.2 (RF R l : Int) := fun g => by first | exact absurd g.1 (by omega) | exact absurd g.2.1 (by omega) | exact absurd g.2.2.1 (by omega) | (have g8 := g.2.1; have g7 := g.2.2.1; omega) | exact g.2.2.2 _ hk1 hk2
                have e9 : fdK (Cl R c) (some K0) (upK R X (l + 1)) = none := by
                  show fdK (Cl R c) (some K0) (upK R X l ++ lvK R X l) = _
                  rw [fdK_app, I1, elv]
                  rw [fdK_one]; unfold stK itU; exact cif_neg nf
                exact q0 m y (by unfold plN; rw [upK_none e9 (RL R) (by omega)]; exact cif_same) I2
              · refine E_go (p' := 153) (L' := [some (aA 124), some (aI ((60 * i + c : Nat) : Int)), some (aI ((X : Nat) : Int)), some (aI ((t % C : Nat) : Int)), some (aI ((l : Nat) : Int)), some (aI ((C : Nat) : Int)), some (aI ((g : Nat) : Int)), some (aI 1), some (aI ((RF R l : Nat) : Int)), some (aI 1), some (aI 0), some (aI ((RF R l : Nat) : Int))]) (st' := [aI (-1)]) rfl rfl rfl ?_
                rw [Ckn, Cpn] at hnf
                refine E_s (p' := 154) (st' := aI (-1) :: _) rfl rfl ?_
                refine E_s (p' := 157) rfl rfl ?_
                refine E_s (p' := 158) (st' := aA 124 :: _) rfl rfl ?_
                refine E_gA (b := 132) rfl rfl rfl rfl rfl rfl ?_
                refine E_s (p' := 162) (st' := aI ((60 * i + c : Nat) : Int) :: _) rfl rfl ?_
                refine E_ald (e := 60 * i + c) (N := 240) (v := ((y.1 : Nat) : Int)) rfl rfl (rfl) (by omega) ((MR_132 (R := Rkn R c y.1 y.2) I2.2.1 hc rfl).trans (by rw [Ckn])) ?_
                refine E_s (p' := 165) (st' := aI 30 :: _) rfl rfl ?_
                refine E_icmp_ne (x := ((y.1 : Nat) : Int)) (y := 30) rfl (by decide) (fun h_7 => ?_) (fun h_7 => ?_)
                · refine E_go (p' := 170) (L' := [some (aA 124), some (aI ((60 * i + c : Nat) : Int)), some (aI ((X : Nat) : Int)), some (aI ((t % C : Nat) : Int)), some (aI ((l : Nat) : Int)), some (aI ((C : Nat) : Int)), some (aI ((g : Nat) : Int)), some (aI 1), some (aI ((RF R l : Nat) : Int)), some (aI 1), some (aI 0), some (aI ((RF R l : Nat) : Int))]) (st' := []) rfl rfl rfl ?_
                  obtain ⟨hn, eh⟩ : ∃ z : Nat, RF R l = z := ⟨_, rfl⟩
                  rw [eh] at hnf hr1 hr2 ⊢
                  refine E_s (p' := 171) (st' := aA 124 :: _) rfl rfl ?_
                  refine E_s (p' := 172) (st' := aI ((60 * i + c : Nat) : Int) :: _) rfl rfl ?_
                  refine E_s (p' := 174) (st' := aI ((hn : Nat) : Int) :: _) rfl rfl ?_
                  refine E_s (p' := 176) (st' := aI 1 :: _) rfl rfl ?_
                  refine E_s (p' := 179) rfl rfl ?_
                  refine E_s (p' := 181) (st' := aI ((g : Nat) : Int) :: _) rfl rfl ?_
                  refine E_s (p' := 182) (st' := aI 1 :: _) rfl rfl ?_
                  refine E_icmp_ne (x := ((g : Nat) : Int)) (y := 1) rfl (by decide) (fun h_8 => ?_) (fun h_8 => ?_)
                  · refine E_go (p' := 189) (L' := [some (aA 124), some (aI ((60 * i + c : Nat) : Int)), some (aI ((X : Nat) : Int)), some (aI ((t % C : Nat) : Int)), some (aI ((l : Nat) : Int)), some (aI ((C : Nat) : Int)), some (aI ((g : Nat) : Int)), some (aI 1), some (aI ((hn : Nat) : Int)), some (aI 1), some (aI 0), some (aI ((hn : Nat) : Int))]) (st' := [aI ((hn : Nat) : Int), aI ((60 * i + c : Nat) : Int), aA 124]) rfl rfl rfl ?_
                    refine E_s (p' := 190) (st' := aI 1 :: _) rfl rfl ?_
                    refine E_s (p' := 194) rfl rfl ?_
                    refine E_s (p' := 196) (st' := aI 1 :: _) rfl rfl ?_
                    refine E_s (p' := 199) rfl rfl ?_
                    refine E_s (p' := 201) (st' := aI ((g : Nat) : Int) :: _) rfl rfl ?_
                    refine E_s (p' := 202) (st' := aI 1 :: _) rfl rfl ?_
                    refine E_icmp_le (x := ((g : Nat) : Int)) (y := 1) rfl (by decide) (fun q => absurd q (by omega)) (fun h_9 => ?_)
                    refine E_go (p' := 205) (L' := [some (aA 124), some (aI ((60 * i + c : Nat) : Int)), some (aI ((X : Nat) : Int)), some (aI ((t % C : Nat) : Int)), some (aI ((l : Nat) : Int)), some (aI ((C : Nat) : Int)), some (aI ((g : Nat) : Int)), some (aI 1), some (aI ((hn : Nat) : Int)), some (aI 1), some (aI 0), some (aI ((hn : Nat) : Int))]) (st' := [aI 1, aI ((hn : Nat) : Int), aI ((60 * i + c : Nat) : Int), aA 124]) rfl rfl rfl ?_
                    refine E_s (p' := 207) (st' := aI ((g : Nat) : Int) :: _) rfl rfl ?_
                    refine E_s (p' := 211) rfl rfl ?_
                    refine E_callV (k' := 138) (a := 124) (r := []) (L0 := [some (aA 124), some (aI ((60 * i + c : Nat) : Int)), some (aI ((hn : Nat) : Int)), some (aI 1), some (aI ((g : Nat) : Int)), none]) rfl rfl rfl rfl rfl rfl rfl rfl rfl rfl ?_
                    refine m_put hi I2.2.1 I2.1 hc (hn := hn) (sn := 1) (tn := g) (by rw [Ckn]; omega) (by omega) (by omega) (by rw [Ckn, Cpn]; exact fun k hk g => hnf k hk (by omega)) (fun m1 hM1 hx1 hF1 => ?_)
                    refine E_go (p' := 214) (L' := [some (aA 124), some (aI ((60 * i + c : Nat) : Int)), some (aI ((X : Nat) : Int)), some (aI ((t % C : Nat) : Int)), some (aI ((l : Nat) : Int)), some (aI ((C : Nat) : Int)), some (aI ((g : Nat) : Int)), some (aI 1), some (aI ((hn : Nat) : Int)), some (aI 1), some (aI 0), some (aI ((hn : Nat) : Int))]) (st' := []) rfl rfl rfl ?_
                    rw [Rkn_kn, Ckn, Cpn] at hM1
                    refine E_inc (x := 0) (w := 1) (L' := [some (aA 124), some (aI ((60 * i + c : Nat) : Int)), some (aI ((X : Nat) : Int)), some (aI ((t % C : Nat) : Int)), some (aI ((l : Nat) : Int)), some (aI ((C : Nat) : Int)), some (aI ((g : Nat) : Int)), some (aI 1), some (aI ((hn : Nat) : Int)), some (aI 1), some (aI 1), some (aI ((hn : Nat) : Int))]) rfl rfl rfl (by omega) (by omega) rfl ?_
                    refine E_s (p' := 115) rfl rfl ?_
                    refine E_s (p' := 117) (st' := aI 1 :: _) rfl rfl ?_
                    refine E_s (p' := 119) (st' := aI 1 :: _) rfl rfl ?_
                    refine E_s (p' := 220) rfl rfl ?_
                    refine E_inc (x := ((l : Nat) : Int)) (w := ((l + 1 : Nat) : Int)) (L' := [some (aA 124), some (aI ((60 * i + c : Nat) : Int)), some (aI ((X : Nat) : Int)), some (aI ((t % C : Nat) : Int)), some (aI ((l + 1 : Nat) : Int)), some (aI ((C : Nat) : Int)), some (aI ((g : Nat) : Int)), some (aI 1), some (aI ((hn : Nat) : Int)), some (aI 1), some (aI 1), some (aI ((hn : Nat) : Int))]) rfl rfl rfl (by omega) (by omega) rfl ?_
                    refine E_s (p' := 5) rfl rfl ?_
                    have elv : lvK R X l = [itU (RF R l) g] := by unfold lvK; rw [Rct_one (by omega), ← hC, ← hgd.1]; rw [decide_eq_true (by omega)]; unfold dgK; rw [if_neg (by omega)]; rfl
                    have e1 : itU (RF R l) g = ((hn : Int), (1, g)) := by unfold itU; rw [if_neg (by omega), eh]
                    have ef : fitK (Cl R c) y.1 y.2 (hn : Int) := ⟨by have := I2.1.n30 hc; omega, hr1, hr2, hnf⟩
                    have e9 : fdK (Cl R c) (some K0) (upK R X (l + 1)) = some (y.1 + 1, inK y.1 y.2 ((hn : Int), (1, g))) := by
                      show fdK (Cl R c) (some K0) (upK R X l ++ lvK R X l) = _
                      rw [fdK_app, I1, elv]
                      rw [fdK_one, e1]; unfold stK; exact cif_pos ef
                    exact ih (l + 1) (t % C) m1 _ _ _ _ _ _ _ _ (by omega) (by omega) hgd.2 e9 (I2.tr ⟨I2.1.fit hc ht0 (q := ((hn : Int), (1, g))) ef (by unfold itk; dsimp only; omega) (by unfold kok; rw [pck_so (by dsimp only; omega) (by dsimp only; omega), pck_tu (by dsimp only; omega)]; dsimp only; omega), by unfold inK; exact hM1, hx1, hF1⟩)
                  · refine E_go (p' := 185) (L' := [some (aA 124), some (aI ((60 * i + c : Nat) : Int)), some (aI ((X : Nat) : Int)), some (aI ((t % C : Nat) : Int)), some (aI ((l : Nat) : Int)), some (aI ((C : Nat) : Int)), some (aI ((g : Nat) : Int)), some (aI 1), some (aI ((hn : Nat) : Int)), some (aI 1), some (aI 0), some (aI ((hn : Nat) : Int))]) (st' := [aI ((hn : Nat) : Int), aI ((60 * i + c : Nat) : Int), aA 124]) rfl rfl rfl ?_
                    refine E_s (p' := 186) (st' := aI 2 :: _) rfl rfl ?_
                    refine E_s (p' := 194) rfl rfl ?_
                    refine E_s (p' := 196) (st' := aI 1 :: _) rfl rfl ?_
                    refine E_s (p' := 199) rfl rfl ?_
                    refine E_s (p' := 201) (st' := aI ((g : Nat) : Int) :: _) rfl rfl ?_
                    refine E_s (p' := 202) (st' := aI 1 :: _) rfl rfl ?_
                    refine E_icmp_le (x := ((g : Nat) : Int)) (y := 1) rfl (by decide) (fun h_10 => ?_) (fun q => absurd q (by omega))
                    refine E_go (p' := 210) (L' := [some (aA 124), some (aI ((60 * i + c : Nat) : Int)), some (aI ((X : Nat) : Int)), some (aI ((t % C : Nat) : Int)), some (aI ((l : Nat) : Int)), some (aI ((C : Nat) : Int)), some (aI ((g : Nat) : Int)), some (aI 1), some (aI ((hn : Nat) : Int)), some (aI 1), some (aI 0), some (aI ((hn : Nat) : Int))]) (st' := [aI 2, aI ((hn : Nat) : Int), aI ((60 * i + c : Nat) : Int), aA 124]) rfl rfl rfl ?_
                    refine E_s (p' := 211) (st' := aI 0 :: _) rfl rfl ?_
                    refine E_callV (k' := 138) (a := 124) (r := []) (L0 := [some (aA 124), some (aI ((60 * i + c : Nat) : Int)), some (aI ((hn : Nat) : Int)), some (aI 2), some (aI 0), none]) rfl rfl rfl rfl rfl rfl rfl rfl rfl rfl ?_
                    refine m_put hi I2.2.1 I2.1 hc (hn := hn) (sn := 2) (tn := 0) (by rw [Ckn]; omega) (by omega) (by omega) (by rw [Ckn, Cpn]; exact fun k hk g => hnf k hk (by omega)) (fun m1 hM1 hx1 hF1 => ?_)
                    refine E_go (p' := 214) (L' := [some (aA 124), some (aI ((60 * i + c : Nat) : Int)), some (aI ((X : Nat) : Int)), some (aI ((t % C : Nat) : Int)), some (aI ((l : Nat) : Int)), some (aI ((C : Nat) : Int)), some (aI ((g : Nat) : Int)), some (aI 1), some (aI ((hn : Nat) : Int)), some (aI 1), some (aI 0), some (aI ((hn : Nat) : Int))]) (st' := []) rfl rfl rfl ?_
                    rw [Rkn_kn, Ckn, Cpn] at hM1
                    refine E_inc (x := 0) (w := 1) (L' := [some (aA 124), some (aI ((60 * i + c : Nat) : Int)), some (aI ((X : Nat) : Int)), some (aI ((t % C : Nat) : Int)), some (aI ((l : Nat) : Int)), some (aI ((C : Nat) : Int)), some (aI ((g : Nat) : Int)), some (aI 1), some (aI ((hn : Nat) : Int)), some (aI 1), some (aI 1), some (aI ((hn : Nat) : Int))]) rfl rfl rfl (by omega) (by omega) rfl ?_
                    refine E_s (p' := 115) rfl rfl ?_
                    refine E_s (p' := 117) (st' := aI 1 :: _) rfl rfl ?_
                    refine E_s (p' := 119) (st' := aI 1 :: _) rfl rfl ?_
                    refine E_s (p' := 220) rfl rfl ?_
                    refine E_inc (x := ((l : Nat) : Int)) (w := ((l + 1 : Nat) : Int)) (L' := [some (aA 124), some (aI ((60 * i + c : Nat) : Int)), some (aI ((X : Nat) : Int)), some (aI ((t % C : Nat) : Int)), some (aI ((l + 1 : Nat) : Int)), some (aI ((C : Nat) : Int)), some (aI ((g : Nat) : Int)), some (aI 1), some (aI ((hn : Nat) : Int)), some (aI 1), some (aI 1), some (aI ((hn : Nat) : Int))]) rfl rfl rfl (by omega) (by omega) rfl ?_
                    refine E_s (p' := 5) rfl rfl ?_
                    have elv : lvK R X l = [itU (RF R l) g] := by unfold lvK; rw [Rct_one (by omega), ← hC, ← hgd.1]; rw [decide_eq_true (by omega)]; unfold dgK; rw [if_neg (by omega)]; rfl
                    have e1 : itU (RF R l) g = ((hn : Int), ((2, 0) : Nat × Nat)) := by unfold itU; rw [if_pos (by omega), eh]
                    have ef : fitK (Cl R c) y.1 y.2 (hn : Int) := ⟨by have := I2.1.n30 hc; omega, hr1, hr2, hnf⟩
                    have e9 : fdK (Cl R c) (some K0) (upK R X (l + 1)) = some (y.1 + 1, inK y.1 y.2 ((hn : Int), ((2, 0) : Nat × Nat))) := by
                      show fdK (Cl R c) (some K0) (upK R X l ++ lvK R X l) = _
                      rw [fdK_app, I1, elv]
                      rw [fdK_one, e1]; unfold stK; exact cif_pos ef
                    exact ih (l + 1) (t % C) m1 _ _ _ _ _ _ _ _ (by omega) (by omega) hgd.2 e9 (I2.tr ⟨I2.1.fit hc ht0 (q := ((hn : Int), ((2, 0) : Nat × Nat))) ef (by unfold itk; dsimp only; omega) (by unfold kok; rw [pck_so (by dsimp only; omega) (by dsimp only; omega), pck_tu (by dsimp only; omega)]; dsimp only; omega), by unfold inK; exact hM1, hx1, hF1⟩)
                · refine E_go (p' := 168) (L' := [some (aA 124), some (aI ((60 * i + c : Nat) : Int)), some (aI ((X : Nat) : Int)), some (aI ((t % C : Nat) : Int)), some (aI ((l : Nat) : Int)), some (aI ((C : Nat) : Int)), some (aI ((g : Nat) : Int)), some (aI 1), some (aI ((RF R l : Nat) : Int)), some (aI 1), some (aI 0), some (aI ((RF R l : Nat) : Int))]) (st' := []) rfl rfl rfl ?_
                  refine E_s (p' := 169) (st' := aI 0 :: _) rfl rfl ?_
                  refine E_ret rfl rfl ?_
                  have elv : lvK R X l = [itU (RF R l) g] := by unfold lvK; rw [Rct_one (by omega), ← hC, ← hgd.1]; rw [decide_eq_true (by omega)]; unfold dgK; rw [if_neg (by omega)]; rfl
                  have nf : ¬ fitK (Cl R c) y.1 y.2 (RF R l : Int) := fun g => by first | exact absurd g.1 (by omega) | exact absurd g.2.1 (by omega) | exact absurd g.2.2.1 (by omega) | (have g8 := g.2.1; have g7 := g.2.2.1; omega) | exact g.2.2.2 _ hk1 hk2
                  have e9 : fdK (Cl R c) (some K0) (upK R X (l + 1)) = none := by
                    show fdK (Cl R c) (some K0) (upK R X l ++ lvK R X l) = _
                    rw [fdK_app, I1, elv]
                    rw [fdK_one]; unfold stK itU; exact cif_neg nf
                  exact q0 m y (by unfold plN; rw [upK_none e9 (RL R) (by omega)]; exact cif_same) I2
            · refine E_go (p' := 143) (L' := [some (aA 124), some (aI ((60 * i + c : Nat) : Int)), some (aI ((X : Nat) : Int)), some (aI ((t % C : Nat) : Int)), some (aI ((l : Nat) : Int)), some (aI ((C : Nat) : Int)), some (aI ((g : Nat) : Int)), some (aI 1), some (aI ((RF R l : Nat) : Int)), some (aI 1), some (aI 0), some (aI ((RF R l : Nat) : Int))]) (st' := [aI 0]) rfl rfl rfl ?_
              refine E_s (p' := 168) rfl rfl ?_
              refine E_s (p' := 169) (st' := aI 0 :: _) rfl rfl ?_
              refine E_ret rfl rfl ?_
              have elv : lvK R X l = [itU (RF R l) g] := by unfold lvK; rw [Rct_one (by omega), ← hC, ← hgd.1]; rw [decide_eq_true (by omega)]; unfold dgK; rw [if_neg (by omega)]; rfl
              have nf : ¬ fitK (Cl R c) y.1 y.2 (RF R l : Int) := fun g => by first | exact absurd g.1 (by omega) | exact absurd g.2.1 (by omega) | exact absurd g.2.2.1 (by omega) | (have g8 := g.2.1; have g7 := g.2.2.1; omega) | exact g.2.2.2 _ hk1 hk2
              have e9 : fdK (Cl R c) (some K0) (upK R X (l + 1)) = none := by
                show fdK (Cl R c) (some K0) (upK R X l ++ lvK R X l) = _
                rw [fdK_app, I1, elv]
                rw [fdK_one]; unfold stK itU; exact cif_neg nf
              exact q0 m y (by unfold plN; rw [upK_none e9 (RL R) (by omega)]; exact cif_same) I2
        · refine E_go (p' := 50) (L' := [some (aA 124), some (aI ((60 * i + c : Nat) : Int)), some (aI ((X : Nat) : Int)), some (aI ((t % C : Nat) : Int)), some (aI ((l : Nat) : Int)), some (aI ((C : Nat) : Int)), some (aI ((g : Nat) : Int)), x7, x8, x9, x10, x11]) (st' := []) rfl rfl rfl ?_
          refine E_s (p' := 220) rfl rfl ?_
          refine E_inc (x := ((l : Nat) : Int)) (w := ((l + 1 : Nat) : Int)) (L' := [some (aA 124), some (aI ((60 * i + c : Nat) : Int)), some (aI ((X : Nat) : Int)), some (aI ((t % C : Nat) : Int)), some (aI ((l + 1 : Nat) : Int)), some (aI ((C : Nat) : Int)), some (aI ((g : Nat) : Int)), x7, x8, x9, x10, x11]) rfl rfl rfl (by omega) (by omega) rfl ?_
          refine E_s (p' := 5) rfl rfl ?_
          have elv : lvK R X l = [] := by unfold lvK; rw [Rct_one (by omega), ← hC, ← hgd.1]; unfold dgK; rw [if_pos (by omega)]
          have e9 : fdK (Cl R c) (some K0) (upK R X (l + 1)) = some y := by
            show fdK (Cl R c) (some K0) (upK R X l ++ lvK R X l) = _
            rw [fdK_app, I1, elv]
            rfl
          exact ih (l + 1) (t % C) m y _ _ _ _ _ _ _ (by omega) (by omega) hgd.2 e9 I2
      · refine E_go (p' := 35) (L' := [some (aA 124), some (aI ((60 * i + c : Nat) : Int)), some (aI ((X : Nat) : Int)), some (aI ((t : Nat) : Int)), some (aI ((l : Nat) : Int)), some (aI ((C : Nat) : Int)), some (aI ((g : Nat) : Int)), x7, x8, x9, x10, x11]) (st' := []) rfl rfl rfl ?_
        refine E_s (p' := 36) (st' := aI 0 :: _) rfl rfl ?_
        refine E_ret rfl rfl ?_
        exact q0 m y (by unfold plN; exact cif_neg (fun g9 => rst_9 (by omega) hrs (by rw [← hC, ← hg]; omega) g9.2.2)) I2
theorem m_ties (hi : i < 4) (hV : VR R) (hc : c < Cn R) (ht0 : Ct R c = 0) (hd0 : RdM R m0) (h0 : 0 < RL R) (hx : X ≤ 999999) (hM0 : MR (Rkn R c 0 (fun _ => 0)) i m0) (q1 : ∀ (m1 : Mm) (y : KR), plN R c X = some y → MK9 R c i m0 y m1 → Q (some (aI 1)) (m1, tl len)) (q0 : ∀ (m1 : Mm) (y : KR), plN R c X = none → MK9 R c i m0 y m1 → Q (some (aI 0)) (m1, tl len))  : E 160 0 [some (aA 124), some (aI ((60 * i + c : Nat) : Int)), some (aI ((X : Nat) : Int)), none, none, none, none, none, none, none, none, none] [] (m0, tl len) Q := by
  refine E_s (p' := 1) (st' := aI ((X : Nat) : Int) :: _) rfl rfl ?_
  refine E_s (p' := 2) (L' := [some (aA 124), some (aI ((60 * i + c : Nat) : Int)), some (aI ((X : Nat) : Int)), some (aI ((X : Nat) : Int)), none, none, none, none, none, none, none, none]) rfl rfl ?_
  refine E_s (p' := 3) (st' := aI 0 :: _) rfl rfl ?_
  refine E_s (p' := 5) (L' := [some (aA 124), some (aI ((60 * i + c : Nat) : Int)), some (aI ((X : Nat) : Int)), some (aI ((X : Nat) : Int)), some (aI 0), none, none, none, none, none, none, none]) rfl rfl ?_
  exact yl_tl hi hV hc ht0 hd0 h0 hx q1 q0 (RL R + 1) 0 X m0 K0 _ _ _ _ _ _ _ (by omega) (by omega) (Or.inl ⟨rfl, rfl⟩) rfl ⟨okK0 hV, hM0, Mx.rf, Fx.rf⟩
end
