def chN (R : RD) (lo hi : Nat → Int) (n : Nat) : Bool := (List.range n).any fun c => decide ((rdS R lo hi (Sn R)).1 c ≠ lo c) || decide ((rdS R lo hi (Sn R)).2 c ≠ hi c)
theorem chN_s {R : RD} {lo hi : Nat → Int} {n : Nat} : chN R lo hi (n + 1) = (chN R lo hi n || (decide ((rdS R lo hi (Sn R)).1 n ≠ lo n) || decide ((rdS R lo hi (Sn R)).2 n ≠ hi n))) := by
  unfold chN
  rw [List.range_succ, List.any_append]
  simp only [List.any_cons, List.any_nil, Bool.or_false]
section
variable {len : Nat} {m m0 : Mm} {Q : Option AV → Sx → Prop} {R : RD} {i : Nat} {lo hi : Nat → Int} {p : Sp2}
theorem yl_roB (hi9 : i < 4) (hM : MR R i m0) (hV : VR R) (hb : bnd (Cn R) lo hi) (hk : ∀ (m1 : Mm) (x3 x4 x5 x6 x7 : Option AV), (∀ b z, b ≠ 157 → b ≠ 158 → m1 b z = m0 b z) → RWm (Cn R) lo hi (rdS R lo hi (Sn R)) m1 → E 168 295 [some (aA 124), some (aI (i : Int)), some (aI ((40 * i + Sn R : Nat) : Int)), x3, x4, x5, x6, x7] [] (m1, tl len) Q) : ∀ (d : Nat) (s : Nat) (m : Mm) (x3 x4 x5 x6 x7 : Option AV), (Sn R < s + d) → (s ≤ Sn R) → (∀ b z, b ≠ 157 → b ≠ 158 → m b z = m0 b z) → (RWm (Cn R) lo hi (rdS R lo hi s) m) → E 168 47 [some (aA 124), some (aI ((i : Nat) : Int)), some (aI ((40 * i + s : Nat) : Int)), x3, x4, x5, x6, x7] [] (m, tl len) Q := by
  intro d
  induction d with
  | zero => intro s m x3 x4 x5 x6 x7 hd hsn I0 W1; omega
  | succ d ih =>
    intro s m x3 x4 x5 x6 x7 hd hsn I0 W1
    have hn60 := hV.1
    have hs40 := hV.2.2.2.2.1
    have hMm : MR R i m := hM.of (fun b j g1 g2 => I0 b j (by omega) (by omega))
    refine E_s (p' := 48) (st' := aI ((40 * i + s : Nat) : Int) :: _) rfl rfl ?_
    refine E_s (p' := 50) (st' := aI 40 :: _) rfl rfl ?_
    refine E_s (p' := 51) (st' := aI ((i : Nat) : Int) :: _) rfl rfl ?_
    refine E_mul (v := ((40 * i : Nat) : Int)) rfl (by omega) (by omega) ?_
    refine E_s (p' := 53) (st' := aA 124 :: _) rfl rfl ?_
    refine E_gA (b := 136) rfl rfl rfl rfl rfl rfl ?_
    refine E_s (p' := 57) (st' := aI ((i : Nat) : Int) :: _) rfl rfl ?_
    refine E_ald (e := i) (N := 4) (v := ((Sn R : Nat) : Int)) rfl rfl (rfl) (by omega) (MR_136 hMm) ?_
    refine E_add (v := ((40 * i + Sn R : Nat) : Int)) rfl (by omega) (by omega) ?_
    refine E_icmp_ge (x := ((40 * i + s : Nat) : Int)) (y := ((40 * i + Sn R : Nat) : Int)) rfl (by decide) (fun h_1 => ?_) (fun h_1 => ?_)
    · refine E_go (p' := 295) (L' := [some (aA 124), some (aI ((i : Nat) : Int)), some (aI ((40 * i + s : Nat) : Int)), x3, x4, x5, x6, x7]) (st' := []) rfl rfl rfl ?_
      have e9 : s = Sn R := by omega
      subst e9
      exact hk m x3 x4 x5 x6 x7 I0 W1
    · refine E_go (p' := 62) (L' := [some (aA 124), some (aI ((i : Nat) : Int)), some (aI ((40 * i + s : Nat) : Int)), x3, x4, x5, x6, x7]) (st' := []) rfl rfl rfl ?_
      have hs9 : s < Sn R := by omega
      have hp12 := (hV.2.2.2.2.2.1 s hs9).2
      have hwn := (hV.2.2.2.2.2.1 s hs9).1
      refine E_s (p' := 63) (st' := aA 124 :: _) rfl rfl ?_
      refine E_gA (b := 138) rfl rfl rfl rfl rfl rfl ?_
      refine E_s (p' := 67) (st' := aI ((40 * i + s : Nat) : Int) :: _) rfl rfl ?_
      refine E_ald (e := 40 * i + s) (N := 160) (v := ((Sp R s : Nat) : Int)) rfl rfl (rfl) (by omega) (MR_138 hMm (by omega) (by omega)) ?_
      refine E_s (p' := 69) (st' := aI 2 :: _) rfl rfl ?_
      refine E_icmp_ge (x := ((Sp R s : Nat) : Int)) (y := 2) rfl (by decide) (fun h_2 => ?_) (fun h_2 => ?_)
      · refine E_go (p' := 75) (L' := [some (aA 124), some (aI ((i : Nat) : Int)), some (aI ((40 * i + s : Nat) : Int)), x3, x4, x5, x6, x7]) (st' := []) rfl rfl rfl ?_
        refine E_s (p' := 76) (st' := aA 124 :: _) rfl rfl ?_
        refine E_gA (b := 137) rfl rfl rfl rfl rfl rfl ?_
        refine E_s (p' := 80) (st' := aI ((40 * i + s : Nat) : Int) :: _) rfl rfl ?_
        refine E_ald (e := 40 * i + s) (N := 160) (v := ((Sw R s : Nat) : Int)) rfl rfl (rfl) (by omega) (MR_137 hMm (by omega) (by omega)) ?_
        refine E_s (p' := 82) (L' := [some (aA 124), some (aI ((i : Nat) : Int)), some (aI ((40 * i + s : Nat) : Int)), some (aI ((Sw R s : Nat) : Int)), x4, x5, x6, x7]) rfl rfl ?_
        refine E_s (p' := 83) (st' := aI 0 :: _) rfl rfl ?_
        refine E_s (p' := 85) (L' := [some (aA 124), some (aI ((i : Nat) : Int)), some (aI ((40 * i + s : Nat) : Int)), some (aI ((Sw R s : Nat) : Int)), some (aI 0), x5, x6, x7]) rfl rfl ?_
        refine E_s (p' := 86) (st' := aI 0 :: _) rfl rfl ?_
        refine E_s (p' := 88) (L' := [some (aA 124), some (aI ((i : Nat) : Int)), some (aI ((40 * i + s : Nat) : Int)), some (aI ((Sw R s : Nat) : Int)), some (aI 0), some (aI 0), x6, x7]) rfl rfl ?_
        refine E_s (p' := 90) (st' := aI 12 :: _) rfl rfl ?_
        refine E_s (p' := 91) (st' := aI ((40 * i + s : Nat) : Int) :: _) rfl rfl ?_
        refine E_mul (v := ((480 * i + 12 * s : Nat) : Int)) rfl (by omega) (by omega) ?_
        refine E_s (p' := 94) (L' := [some (aA 124), some (aI ((i : Nat) : Int)), some (aI ((40 * i + s : Nat) : Int)), some (aI ((Sw R s : Nat) : Int)), some (aI 0), some (aI 0), some (aI ((480 * i + 12 * s : Nat) : Int)), x7]) rfl rfl ?_
        refine yl_roC hi9 hMm hV hb hs9 W1 ?_ (Sp R s + 1) 0 (by omega) (by omega)
        refine E_s (p' := 151) (st' := aA 124 :: _) rfl rfl ?_
        refine E_gA (b := 157) rfl rfl rfl rfl rfl rfl ?_
        refine E_s (p' := 155) (st' := aI ((Sw R s : Nat) : Int) :: _) rfl rfl ?_
        refine E_s (p' := 156) (st' := aA 124 :: _) rfl rfl ?_
        refine E_gA (b := 157) rfl rfl rfl rfl rfl rfl ?_
        refine E_s (p' := 160) (st' := aI ((Sw R s : Nat) : Int) :: _) rfl rfl ?_
        refine E_ald (e := Sw R s) (N := 60) (v := ((((rdS R lo hi s).1 (Sw R s))))) rfl rfl (rfl) (by omega) (W1 _ (by omega)).2.2.1 ?_
        refine E_s (p' := 163) (st' := aI (((lsS R lo s (Sp R s)))) :: _) rfl rfl ?_
        refine E_callL (p' := 166) (L0 := [some (aI ((((rdS R lo hi s).1 (Sw R s))))), some (aI (((lsS R lo s (Sp R s)))))]) rfl rfl rfl ?_
        refine m_greater (fun h_3 => ?_) (fun h_4 => ?_)
        · refine E_go (p' := 166) (L' := [some (aA 124), some (aI ((i : Nat) : Int)), some (aI ((40 * i + s : Nat) : Int)), some (aI ((Sw R s : Nat) : Int)), some (aI (((lsS R lo s (Sp R s))))), some (aI (((lsS R hi s (Sp R s))))), some (aI ((480 * i + 12 * s + Sp R s : Nat) : Int)), x7]) (st' := [aI ((((rdS R lo hi s).1 (Sw R s)))), aI ((Sw R s : Nat) : Int), aA 157]) rfl rfl rfl ?_
          refine E_ast (e := Sw R s) (N := 60) rfl rfl (rfl) (by omega) ?_
          refine E_s (p' := 168) (st' := aA 124 :: _) rfl rfl ?_
          refine E_gA (b := 158) rfl rfl rfl rfl rfl rfl ?_
          refine E_s (p' := 172) (st' := aI ((Sw R s : Nat) : Int) :: _) rfl rfl ?_
          refine E_s (p' := 173) (st' := aA 124 :: _) rfl rfl ?_
          refine E_gA (b := 158) rfl rfl rfl rfl rfl rfl ?_
          refine E_s (p' := 177) (st' := aI ((Sw R s : Nat) : Int) :: _) rfl rfl ?_
          refine E_ald (e := Sw R s) (N := 60) (v := ((((rdS R lo hi s).2 (Sw R s))))) rfl rfl (rfl) (by omega) ((up2_ne (by omega)).trans ((W1 _ (by omega)).2.2.2)) ?_
          refine E_s (p' := 180) (st' := aI (((lsS R hi s (Sp R s)))) :: _) rfl rfl ?_
          refine E_callL (p' := 183) (L0 := [some (aI ((((rdS R lo hi s).2 (Sw R s))))), some (aI (((lsS R hi s (Sp R s)))))]) rfl rfl rfl ?_
          refine m_less (fun h_5 => ?_) (fun h_6 => ?_)
          · refine E_go (p' := 183) (L' := [some (aA 124), some (aI ((i : Nat) : Int)), some (aI ((40 * i + s : Nat) : Int)), some (aI ((Sw R s : Nat) : Int)), some (aI (((lsS R lo s (Sp R s))))), some (aI (((lsS R hi s (Sp R s))))), some (aI ((480 * i + 12 * s + Sp R s : Nat) : Int)), x7]) (st' := [aI ((((rdS R lo hi s).2 (Sw R s)))), aI ((Sw R s : Nat) : Int), aA 158]) rfl rfl rfl ?_
            refine E_ast (e := Sw R s) (N := 60) rfl rfl (rfl) (by omega) ?_
            refine E_s (p' := 186) (st' := aI 12 :: _) rfl rfl ?_
            refine E_s (p' := 187) (st' := aI ((40 * i + s : Nat) : Int) :: _) rfl rfl ?_
            refine E_mul (v := ((480 * i + 12 * s : Nat) : Int)) rfl (by omega) (by omega) ?_
            refine E_s (p' := 190) (L' := [some (aA 124), some (aI ((i : Nat) : Int)), some (aI ((40 * i + s : Nat) : Int)), some (aI ((Sw R s : Nat) : Int)), some (aI (((lsS R lo s (Sp R s))))), some (aI (((lsS R hi s (Sp R s))))), some (aI ((480 * i + 12 * s : Nat) : Int)), x7]) rfl rfl ?_
            refine yl_roD hi9 (hMm.of (fun b j g1 g2 => (up2_ne (by omega)).trans (up2_ne (by omega)))) hV hb hs9 (p := rdS R lo hi s) (fun m1 y6 y7 D1 D2 => ?_) (Sp R s + 1) 0 _ _ (by omega) (by omega) (fun b z _ _ => rfl) (W1.kw (by omega) (by omega))
            refine E_inc (x := ((40 * i + s : Nat) : Int)) (w := ((40 * i + s + 1 : Nat) : Int)) (L' := [some (aA 124), some (aI ((i : Nat) : Int)), some (aI ((40 * i + s + 1 : Nat) : Int)), some (aI ((Sw R s : Nat) : Int)), some (aI (((lsS R lo s (Sp R s))))), some (aI (((lsS R hi s (Sp R s))))), y6, y7]) rfl rfl rfl (by omega) (by omega) rfl ?_
            refine E_s (p' := 47) rfl rfl ?_
            exact ih (s + 1) m1 _ _ _ _ _ (by omega) (by omega) (fun b z g1 g2 => (D1 b z g1 g2).trans ((up2_ne g2).trans ((up2_ne g1).trans (I0 b z g1 g2)))) (by show RWm _ _ _ (if 2 ≤ Sp R s then _ else _) _; rw [if_pos (by omega)]; exact D2)
          · refine E_go (p' := 183) (L' := [some (aA 124), some (aI ((i : Nat) : Int)), some (aI ((40 * i + s : Nat) : Int)), some (aI ((Sw R s : Nat) : Int)), some (aI (((lsS R lo s (Sp R s))))), some (aI (((lsS R hi s (Sp R s))))), some (aI ((480 * i + 12 * s + Sp R s : Nat) : Int)), x7]) (st' := [aI (((lsS R hi s (Sp R s)))), aI ((Sw R s : Nat) : Int), aA 158]) rfl rfl rfl ?_
            refine E_ast (e := Sw R s) (N := 60) rfl rfl (rfl) (by omega) ?_
            refine E_s (p' := 186) (st' := aI 12 :: _) rfl rfl ?_
            refine E_s (p' := 187) (st' := aI ((40 * i + s : Nat) : Int) :: _) rfl rfl ?_
            refine E_mul (v := ((480 * i + 12 * s : Nat) : Int)) rfl (by omega) (by omega) ?_
            refine E_s (p' := 190) (L' := [some (aA 124), some (aI ((i : Nat) : Int)), some (aI ((40 * i + s : Nat) : Int)), some (aI ((Sw R s : Nat) : Int)), some (aI (((lsS R lo s (Sp R s))))), some (aI (((lsS R hi s (Sp R s))))), some (aI ((480 * i + 12 * s : Nat) : Int)), x7]) rfl rfl ?_
            refine yl_roD hi9 (hMm.of (fun b j g1 g2 => (up2_ne (by omega)).trans (up2_ne (by omega)))) hV hb hs9 (p := rdS R lo hi s) (fun m1 y6 y7 D1 D2 => ?_) (Sp R s + 1) 0 _ _ (by omega) (by omega) (fun b z _ _ => rfl) (W1.kw (by omega) (by omega))
            refine E_inc (x := ((40 * i + s : Nat) : Int)) (w := ((40 * i + s + 1 : Nat) : Int)) (L' := [some (aA 124), some (aI ((i : Nat) : Int)), some (aI ((40 * i + s + 1 : Nat) : Int)), some (aI ((Sw R s : Nat) : Int)), some (aI (((lsS R lo s (Sp R s))))), some (aI (((lsS R hi s (Sp R s))))), y6, y7]) rfl rfl rfl (by omega) (by omega) rfl ?_
            refine E_s (p' := 47) rfl rfl ?_
            exact ih (s + 1) m1 _ _ _ _ _ (by omega) (by omega) (fun b z g1 g2 => (D1 b z g1 g2).trans ((up2_ne g2).trans ((up2_ne g1).trans (I0 b z g1 g2)))) (by show RWm _ _ _ (if 2 ≤ Sp R s then _ else _) _; rw [if_pos (by omega)]; exact D2)
        · refine E_go (p' := 166) (L' := [some (aA 124), some (aI ((i : Nat) : Int)), some (aI ((40 * i + s : Nat) : Int)), some (aI ((Sw R s : Nat) : Int)), some (aI (((lsS R lo s (Sp R s))))), some (aI (((lsS R hi s (Sp R s))))), some (aI ((480 * i + 12 * s + Sp R s : Nat) : Int)), x7]) (st' := [aI (((lsS R lo s (Sp R s)))), aI ((Sw R s : Nat) : Int), aA 157]) rfl rfl rfl ?_
          refine E_ast (e := Sw R s) (N := 60) rfl rfl (rfl) (by omega) ?_
          refine E_s (p' := 168) (st' := aA 124 :: _) rfl rfl ?_
          refine E_gA (b := 158) rfl rfl rfl rfl rfl rfl ?_
          refine E_s (p' := 172) (st' := aI ((Sw R s : Nat) : Int) :: _) rfl rfl ?_
          refine E_s (p' := 173) (st' := aA 124 :: _) rfl rfl ?_
          refine E_gA (b := 158) rfl rfl rfl rfl rfl rfl ?_
          refine E_s (p' := 177) (st' := aI ((Sw R s : Nat) : Int) :: _) rfl rfl ?_
          refine E_ald (e := Sw R s) (N := 60) (v := ((((rdS R lo hi s).2 (Sw R s))))) rfl rfl (rfl) (by omega) ((up2_ne (by omega)).trans ((W1 _ (by omega)).2.2.2)) ?_
          refine E_s (p' := 180) (st' := aI (((lsS R hi s (Sp R s)))) :: _) rfl rfl ?_
          refine E_callL (p' := 183) (L0 := [some (aI ((((rdS R lo hi s).2 (Sw R s))))), some (aI (((lsS R hi s (Sp R s)))))]) rfl rfl rfl ?_
          refine m_less (fun h_7 => ?_) (fun h_8 => ?_)
          · refine E_go (p' := 183) (L' := [some (aA 124), some (aI ((i : Nat) : Int)), some (aI ((40 * i + s : Nat) : Int)), some (aI ((Sw R s : Nat) : Int)), some (aI (((lsS R lo s (Sp R s))))), some (aI (((lsS R hi s (Sp R s))))), some (aI ((480 * i + 12 * s + Sp R s : Nat) : Int)), x7]) (st' := [aI ((((rdS R lo hi s).2 (Sw R s)))), aI ((Sw R s : Nat) : Int), aA 158]) rfl rfl rfl ?_
            refine E_ast (e := Sw R s) (N := 60) rfl rfl (rfl) (by omega) ?_
            refine E_s (p' := 186) (st' := aI 12 :: _) rfl rfl ?_
            refine E_s (p' := 187) (st' := aI ((40 * i + s : Nat) : Int) :: _) rfl rfl ?_
            refine E_mul (v := ((480 * i + 12 * s : Nat) : Int)) rfl (by omega) (by omega) ?_
            refine E_s (p' := 190) (L' := [some (aA 124), some (aI ((i : Nat) : Int)), some (aI ((40 * i + s : Nat) : Int)), some (aI ((Sw R s : Nat) : Int)), some (aI (((lsS R lo s (Sp R s))))), some (aI (((lsS R hi s (Sp R s))))), some (aI ((480 * i + 12 * s : Nat) : Int)), x7]) rfl rfl ?_
            refine yl_roD hi9 (hMm.of (fun b j g1 g2 => (up2_ne (by omega)).trans (up2_ne (by omega)))) hV hb hs9 (p := rdS R lo hi s) (fun m1 y6 y7 D1 D2 => ?_) (Sp R s + 1) 0 _ _ (by omega) (by omega) (fun b z _ _ => rfl) (W1.kw (by omega) (by omega))
            refine E_inc (x := ((40 * i + s : Nat) : Int)) (w := ((40 * i + s + 1 : Nat) : Int)) (L' := [some (aA 124), some (aI ((i : Nat) : Int)), some (aI ((40 * i + s + 1 : Nat) : Int)), some (aI ((Sw R s : Nat) : Int)), some (aI (((lsS R lo s (Sp R s))))), some (aI (((lsS R hi s (Sp R s))))), y6, y7]) rfl rfl rfl (by omega) (by omega) rfl ?_
            refine E_s (p' := 47) rfl rfl ?_
            exact ih (s + 1) m1 _ _ _ _ _ (by omega) (by omega) (fun b z g1 g2 => (D1 b z g1 g2).trans ((up2_ne g2).trans ((up2_ne g1).trans (I0 b z g1 g2)))) (by show RWm _ _ _ (if 2 ≤ Sp R s then _ else _) _; rw [if_pos (by omega)]; exact D2)
          · refine E_go (p' := 183) (L' := [some (aA 124), some (aI ((i : Nat) : Int)), some (aI ((40 * i + s : Nat) : Int)), some (aI ((Sw R s : Nat) : Int)), some (aI (((lsS R lo s (Sp R s))))), some (aI (((lsS R hi s (Sp R s))))), some (aI ((480 * i + 12 * s + Sp R s : Nat) : Int)), x7]) (st' := [aI (((lsS R hi s (Sp R s)))), aI ((Sw R s : Nat) : Int), aA 158]) rfl rfl rfl ?_
            refine E_ast (e := Sw R s) (N := 60) rfl rfl (rfl) (by omega) ?_
            refine E_s (p' := 186) (st' := aI 12 :: _) rfl rfl ?_
            refine E_s (p' := 187) (st' := aI ((40 * i + s : Nat) : Int) :: _) rfl rfl ?_
            refine E_mul (v := ((480 * i + 12 * s : Nat) : Int)) rfl (by omega) (by omega) ?_
            refine E_s (p' := 190) (L' := [some (aA 124), some (aI ((i : Nat) : Int)), some (aI ((40 * i + s : Nat) : Int)), some (aI ((Sw R s : Nat) : Int)), some (aI (((lsS R lo s (Sp R s))))), some (aI (((lsS R hi s (Sp R s))))), some (aI ((480 * i + 12 * s : Nat) : Int)), x7]) rfl rfl ?_
            refine yl_roD hi9 (hMm.of (fun b j g1 g2 => (up2_ne (by omega)).trans (up2_ne (by omega)))) hV hb hs9 (p := rdS R lo hi s) (fun m1 y6 y7 D1 D2 => ?_) (Sp R s + 1) 0 _ _ (by omega) (by omega) (fun b z _ _ => rfl) (W1.kw (by omega) (by omega))
            refine E_inc (x := ((40 * i + s : Nat) : Int)) (w := ((40 * i + s + 1 : Nat) : Int)) (L' := [some (aA 124), some (aI ((i : Nat) : Int)), some (aI ((40 * i + s + 1 : Nat) : Int)), some (aI ((Sw R s : Nat) : Int)), some (aI (((lsS R lo s (Sp R s))))), some (aI (((lsS R hi s (Sp R s))))), y6, y7]) rfl rfl rfl (by omega) (by omega) rfl ?_
            refine E_s (p' := 47) rfl rfl ?_
            exact ih (s + 1) m1 _ _ _ _ _ (by omega) (by omega) (fun b z g1 g2 => (D1 b z g1 g2).trans ((up2_ne g2).trans ((up2_ne g1).trans (I0 b z g1 g2)))) (by show RWm _ _ _ (if 2 ≤ Sp R s then _ else _) _; rw [if_pos (by omega)]; exact D2)
      · refine E_go (p' := 72) (L' := [some (aA 124), some (aI ((i : Nat) : Int)), some (aI ((40 * i + s : Nat) : Int)), x3, x4, x5, x6, x7]) (st' := []) rfl rfl rfl ?_
        refine E_s (p' := 289) rfl rfl ?_
        refine E_inc (x := ((40 * i + s : Nat) : Int)) (w := ((40 * i + s + 1 : Nat) : Int)) (L' := [some (aA 124), some (aI ((i : Nat) : Int)), some (aI ((40 * i + s + 1 : Nat) : Int)), x3, x4, x5, x6, x7]) rfl rfl rfl (by omega) (by omega) rfl ?_
        refine E_s (p' := 47) rfl rfl ?_
        exact ih (s + 1) m _ _ _ _ _ (by omega) (by omega) I0 (by show RWm _ _ _ (if 2 ≤ Sp R s then _ else _) _; rw [if_neg (by omega)]; exact W1)
theorem yl_roE (hi9 : i < 4) (hM : MR R i m0) (hV : VR R) (hW : RWm (Cn R) lo hi (rdS R lo hi (Sn R)) m0) {x4 x5 x6 x7 : Option AV} (q : ∀ m1 : Mm, (∀ b z, b ≠ 155 → b ≠ 156 → m1 b z = m0 b z) → (∀ c, c < Cn R → m1 155 c = (rdS R lo hi (Sn R)).1 c ∧ m1 156 c = (rdS R lo hi (Sn R)).2 c) → Q (some (aI (bi (rdC R lo hi (Cn R))))) (m1, tl len)) : ∀ (d : Nat) (c : Nat) (b : Bool) (m : Mm), (Cn R < c + d) → (c ≤ Cn R) → (b = chN R lo hi c) → (∀ b z, b ≠ 155 → b ≠ 156 → m b z = m0 b z) → (∀ x, x < c → m 155 x = (rdS R lo hi (Sn R)).1 x ∧ m 156 x = (rdS R lo hi (Sn R)).2 x) → (∀ x, c ≤ x → x < Cn R → m 155 x = lo x ∧ m 156 x = hi x) → E 168 299 [some (aA 124), some (aI ((i : Nat) : Int)), some (aI (bi b)), some (aI ((c : Nat) : Int)), x4, x5, x6, x7] [] (m, tl len) Q := by
  intro d
  induction d with
  | zero => intro c b m hd hc hbb I0 I1 I2; omega
  | succ d ih =>
    intro c b m hd hc hbb I0 I1 I2
    have hn60 := hV.1
    have hMm : MR R i m := hM.of (fun b j g1 g2 => I0 b j (by omega) (by omega))
    refine E_s (p' := 300) (st' := aI ((c : Nat) : Int) :: _) rfl rfl ?_
    refine E_s (p' := 301) (st' := aA 124 :: _) rfl rfl ?_
    refine E_gA (b := 125) rfl rfl rfl rfl rfl rfl ?_
    refine E_s (p' := 305) (st' := aI ((i : Nat) : Int) :: _) rfl rfl ?_
    refine E_ald (e := i) (N := 4) (v := ((Cn R : Nat) : Int)) rfl rfl (rfl) (by omega) (MR_125 hMm) ?_
    refine E_icmp_ge (x := ((c : Nat) : Int)) (y := ((Cn R : Nat) : Int)) rfl (by decide) (fun h_1 => ?_) (fun h_1 => ?_)
    · refine E_go (p' := 379) (L' := [some (aA 124), some (aI ((i : Nat) : Int)), some (aI (bi b)), some (aI ((c : Nat) : Int)), x4, x5, x6, x7]) (st' := []) rfl rfl rfl ?_
      refine E_s (p' := 380) (st' := aI (bi b) :: _) rfl rfl ?_
      refine E_retB rfl rfl (bi01 _) ?_
      have e9 : c = Cn R := by omega
      rw [hbb, e9]
      exact q m I0 (fun x hx => I1 x (by omega))
    · refine E_go (p' := 309) (L' := [some (aA 124), some (aI ((i : Nat) : Int)), some (aI (bi b)), some (aI ((c : Nat) : Int)), x4, x5, x6, x7]) (st' := []) rfl rfl rfl ?_
      refine E_s (p' := 310) (st' := aI (bi b) :: _) rfl rfl ?_
      suffices h_2 : E 168 348 [some (aA 124), some (aI ((i : Nat) : Int)), some (aI (bi b)), some (aI ((c : Nat) : Int)), x4, x5, x6, x7] [aI (bi (b || (decide (((((rdS R lo hi (Sn R)).1 c))) ≠ (((lo c)))) || (!decide (((((rdS R lo hi (Sn R)).2 c))) = (((hi c))))))))] (m, tl len) Q by
        refine E_b_ne0 (b := b) rfl (by decide) (fun h_3 => ?_) (fun h_3 => ?_)
        · refine E_go (p' := 343) (L' := [some (aA 124), some (aI ((i : Nat) : Int)), some (aI (bi b)), some (aI ((c : Nat) : Int)), x4, x5, x6, x7]) (st' := []) rfl rfl rfl ?_
          refine E_s (p' := 344) (st' := aI 1 :: _) rfl rfl ?_
          refine E_s (p' := 348) rfl rfl ?_
          rw [h_3] at h_2
          (try rw [h_3])
          exact h_2
        · refine E_go (p' := 313) (L' := [some (aA 124), some (aI ((i : Nat) : Int)), some (aI (bi b)), some (aI ((c : Nat) : Int)), x4, x5, x6, x7]) (st' := []) rfl rfl rfl ?_
          refine E_s (p' := 314) (st' := aA 124 :: _) rfl rfl ?_
          refine E_gA (b := 157) rfl rfl rfl rfl rfl rfl ?_
          refine E_s (p' := 318) (st' := aI ((c : Nat) : Int) :: _) rfl rfl ?_
          refine E_ald (e := c) (N := 60) (v := ((((rdS R lo hi (Sn R)).1 c)))) rfl rfl (rfl) (by omega) ((I0 _ _ (by omega) (by omega)).trans (hW c (by omega)).2.2.1) ?_
          refine E_s (p' := 320) (st' := aA 124 :: _) rfl rfl ?_
          refine E_gA (b := 155) rfl rfl rfl rfl rfl rfl ?_
          refine E_s (p' := 324) (st' := aI ((c : Nat) : Int) :: _) rfl rfl ?_
          refine E_ald (e := c) (N := 60) (v := (((lo c)))) rfl rfl (rfl) (by omega) ((I2 c (by omega) (by omega)).1) ?_
          refine E_icmp_ne (x := ((((rdS R lo hi (Sn R)).1 c)))) (y := (((lo c)))) rfl (by decide) (fun h_4 => ?_) (fun h_4 => ?_)
          · refine E_go (p' := 343) (L' := [some (aA 124), some (aI ((i : Nat) : Int)), some (aI (bi b)), some (aI ((c : Nat) : Int)), x4, x5, x6, x7]) (st' := []) rfl rfl rfl ?_
            refine E_s (p' := 344) (st' := aI 1 :: _) rfl rfl ?_
            refine E_s (p' := 348) rfl rfl ?_
            rw [h_3] at h_2
            (try rw [h_3])
            rw [decide_eq_true (p := ((((rdS R lo hi (Sn R)).1 c))) ≠ (((lo c)))) (by omega)] at h_2
            exact h_2
          · refine E_go (p' := 328) (L' := [some (aA 124), some (aI ((i : Nat) : Int)), some (aI (bi b)), some (aI ((c : Nat) : Int)), x4, x5, x6, x7]) (st' := []) rfl rfl rfl ?_
            refine E_s (p' := 329) (st' := aA 124 :: _) rfl rfl ?_
            refine E_gA (b := 158) rfl rfl rfl rfl rfl rfl ?_
            refine E_s (p' := 333) (st' := aI ((c : Nat) : Int) :: _) rfl rfl ?_
            refine E_ald (e := c) (N := 60) (v := ((((rdS R lo hi (Sn R)).2 c)))) rfl rfl (rfl) (by omega) ((I0 _ _ (by omega) (by omega)).trans (hW c (by omega)).2.2.2) ?_
            refine E_s (p' := 335) (st' := aA 124 :: _) rfl rfl ?_
            refine E_gA (b := 156) rfl rfl rfl rfl rfl rfl ?_
            refine E_s (p' := 339) (st' := aI ((c : Nat) : Int) :: _) rfl rfl ?_
            refine E_ald (e := c) (N := 60) (v := (((hi c)))) rfl rfl (rfl) (by omega) ((I2 c (by omega) (by omega)).2) ?_
            refine E_icmp_eq (x := ((((rdS R lo hi (Sn R)).2 c)))) (y := (((hi c)))) rfl (by decide) (fun h_5 => ?_) (fun h_5 => ?_)
            · refine E_go (p' := 347) (L' := [some (aA 124), some (aI ((i : Nat) : Int)), some (aI (bi b)), some (aI ((c : Nat) : Int)), x4, x5, x6, x7]) (st' := []) rfl rfl rfl ?_
              refine E_s (p' := 348) (st' := aI 0 :: _) rfl rfl ?_
              rw [h_3] at h_2
              (try rw [h_3])
              rw [decide_eq_false (p := ((((rdS R lo hi (Sn R)).1 c))) ≠ (((lo c)))) (by omega)] at h_2
              rw [decide_eq_true (p := ((((rdS R lo hi (Sn R)).2 c))) = (((hi c)))) (by omega)] at h_2
              exact h_2
            · refine E_go (p' := 343) (L' := [some (aA 124), some (aI ((i : Nat) : Int)), some (aI (bi b)), some (aI ((c : Nat) : Int)), x4, x5, x6, x7]) (st' := []) rfl rfl rfl ?_
              refine E_s (p' := 344) (st' := aI 1 :: _) rfl rfl ?_
              refine E_s (p' := 348) rfl rfl ?_
              rw [h_3] at h_2
              (try rw [h_3])
              rw [decide_eq_false (p := ((((rdS R lo hi (Sn R)).1 c))) ≠ (((lo c)))) (by omega)] at h_2
              rw [decide_eq_false (p := ((((rdS R lo hi (Sn R)).2 c))) = (((hi c)))) (by omega)] at h_2
              exact h_2
      refine E_s (p' := 349) (L' := [some (aA 124), some (aI ((i : Nat) : Int)), some (aI (bi (b || (decide (((((rdS R lo hi (Sn R)).1 c))) ≠ (((lo c)))) || (!decide (((((rdS R lo hi (Sn R)).2 c))) = (((hi c))))))))), some (aI ((c : Nat) : Int)), x4, x5, x6, x7]) rfl rfl ?_
      refine E_s (p' := 350) (st' := aA 124 :: _) rfl rfl ?_
      refine E_gA (b := 155) rfl rfl rfl rfl rfl rfl ?_
      refine E_s (p' := 354) (st' := aI ((c : Nat) : Int) :: _) rfl rfl ?_
      refine E_s (p' := 355) (st' := aA 124 :: _) rfl rfl ?_
      refine E_gA (b := 157) rfl rfl rfl rfl rfl rfl ?_
      refine E_s (p' := 359) (st' := aI ((c : Nat) : Int) :: _) rfl rfl ?_
      refine E_ald (e := c) (N := 60) (v := ((((rdS R lo hi (Sn R)).1 c)))) rfl rfl (rfl) (by omega) ((I0 _ _ (by omega) (by omega)).trans (hW c (by omega)).2.2.1) ?_
      refine E_ast (e := c) (N := 60) rfl rfl (rfl) (by omega) ?_
      refine E_s (p' := 362) (st' := aA 124 :: _) rfl rfl ?_
      refine E_gA (b := 156) rfl rfl rfl rfl rfl rfl ?_
      refine E_s (p' := 366) (st' := aI ((c : Nat) : Int) :: _) rfl rfl ?_
      refine E_s (p' := 367) (st' := aA 124 :: _) rfl rfl ?_
      refine E_gA (b := 158) rfl rfl rfl rfl rfl rfl ?_
      refine E_s (p' := 371) (st' := aI ((c : Nat) : Int) :: _) rfl rfl ?_
      refine E_ald (e := c) (N := 60) (v := ((((rdS R lo hi (Sn R)).2 c)))) rfl rfl (rfl) (by omega) ((up2_ne (by omega)).trans (((I0 _ _ (by omega) (by omega)).trans (hW c (by omega)).2.2.2))) ?_
      refine E_ast (e := c) (N := 60) rfl rfl (rfl) (by omega) ?_
      refine E_inc (x := ((c : Nat) : Int)) (w := ((c + 1 : Nat) : Int)) (L' := [some (aA 124), some (aI ((i : Nat) : Int)), some (aI (bi (b || (decide (((((rdS R lo hi (Sn R)).1 c))) ≠ (((lo c)))) || (!decide (((((rdS R lo hi (Sn R)).2 c))) = (((hi c))))))))), some (aI ((c + 1 : Nat) : Int)), x4, x5, x6, x7]) rfl rfl rfl (by omega) (by omega) rfl ?_
      refine E_s (p' := 299) rfl rfl ?_
      refine ih (c + 1) _ _ (by omega) (by omega) ?_ (fun b z g1 g2 => (up2_ne g2).trans ((up2_ne g1).trans (I0 b z g1 g2))) (fun x hx => ?_) (fun x h1 h2 => ⟨(up2_ne (by omega)).trans ((up2_sl (by omega)).trans (I2 x (by omega) h2).1), (up2_sl (by omega)).trans ((up2_ne (by omega)).trans (I2 x (by omega) h2).2)⟩)
      · rw [chN_s, ← hbb]
        congr 1
        congr 1
        by_cases g9 : (rdS R lo hi (Sn R)).2 c = hi c
        · rw [decide_eq_true g9, decide_eq_false (fun h => h g9)]; rfl
        · rw [decide_eq_false g9, decide_eq_true g9]; rfl
      · by_cases g9 : x = c
        · rw [g9]; exact ⟨(up2_ne (by omega)).trans up2_eq, up2_eq⟩
        · exact ⟨(up2_ne (by omega)).trans ((up2_sl g9).trans (I1 x (by omega)).1), (up2_sl g9).trans ((up2_ne (by omega)).trans (I1 x (by omega)).2)⟩
theorem m_round (hi9 : i < 4) (hM : MR R i m0) (hV : VR R) (hb : bnd (Cn R) lo hi) (hlo : ∀ c, c < Cn R → m0 155 c = lo c ∧ m0 156 c = hi c) (q : ∀ m1 : Mm, (∀ b z, ¬ (155 ≤ b ∧ b ≤ 158) → m1 b z = m0 b z) → (∀ c, c < Cn R → m1 155 c = (rdS R lo hi (Sn R)).1 c ∧ m1 156 c = (rdS R lo hi (Sn R)).2 c) → Q (some (aI (bi (rdC R lo hi (Cn R))))) (m1, tl len)) : E 168 0 [some (aA 124), some (aI ((i : Nat) : Int)), none, none, none, none, none, none] [] (m0, tl len) Q := by
  refine E_s (p' := 1) (st' := aI 0 :: _) rfl rfl ?_
  refine E_s (p' := 2) (L' := [some (aA 124), some (aI ((i : Nat) : Int)), some (aI 0), none, none, none, none, none]) rfl rfl ?_
  refine yl_roA hi9 hM hV hb hlo (fun m1 a1 a2 => ?_) (Cn R + 1) 0 m0 (by omega) (by omega) (fun b z _ _ => rfl) (fun x hx => absurd hx (by omega))
  refine E_s (p' := 44) (st' := aI 40 :: _) rfl rfl ?_
  refine E_s (p' := 45) (st' := aI ((i : Nat) : Int) :: _) rfl rfl ?_
  refine E_mul (v := ((40 * i : Nat) : Int)) rfl (by omega) (by omega) ?_
  refine E_s (p' := 47) (L' := [some (aA 124), some (aI ((i : Nat) : Int)), some (aI ((40 * i : Nat) : Int)), none, none, none, none, none]) rfl rfl ?_
  refine yl_roB hi9 (hM.of (fun b j g1 g2 => a1 b j (by omega) (by omega))) hV hb (fun m2 y3 y4 y5 y6 y7 b1 b2 => ?_) (Sn R + 1) 0 m1 none none none none none (by omega) (by omega) (fun b z _ _ => rfl) a2
  refine E_s (p' := 296) (st' := aI 0 :: _) rfl rfl ?_
  refine E_s (p' := 297) (L' := [some (aA 124), some (aI ((i : Nat) : Int)), some (aI 0), y3, y4, y5, y6, y7]) rfl rfl ?_
  refine E_s (p' := 298) (st' := aI 0 :: _) rfl rfl ?_
  refine E_s (p' := 299) (L' := [some (aA 124), some (aI ((i : Nat) : Int)), some (aI 0), some (aI 0), y4, y5, y6, y7]) rfl rfl ?_
  exact yl_roE hi9 (hM.of (fun b j g1 g2 => (b1 b j (by omega) (by omega)).trans (a1 b j (by omega) (by omega)))) hV b2 (fun m3 c1 c2 => q m3 (fun b z g1 => (c1 b z (by omega) (by omega)).trans ((b1 b z (by omega) (by omega)).trans (a1 b z (by omega) (by omega)))) c2) (Cn R + 1) 0 false m2 (by omega) (by omega) rfl (fun b z _ _ => rfl) (fun x hx => absurd hx (by omega)) (fun x _ hx => ⟨(b2 x hx).1, (b2 x hx).2.1⟩)
theorem yl_ib (hi9 : i < 4) (hM : MR R i m) (hV : VR R) (hlo : ∀ c, c < Cn R → m 155 c = lo c ∧ m 156 c = hi c) (q1 : ∀ c, c < Cn R → hi c < lo c → Q (some (aI 1)) (m, tl len)) (q0 : (∀ x, x < Cn R → lo x ≤ hi x) → Q (some (aI 0)) (m, tl len)) : ∀ (d : Nat) (c : Nat), (Cn R < c + d) → (c ≤ Cn R) → (∀ x, x < c → lo x ≤ hi x) → E 171 2 [some (aA 124), some (aI ((i : Nat) : Int)), some (aI ((c : Nat) : Int))] [] (m, tl len) Q := by
  intro d
  induction d with
  | zero => intro c hd hc I1; omega
  | succ d ih =>
    intro c hd hc I1
    have hn60 := hV.1
    refine E_s (p' := 3) (st' := aI ((c : Nat) : Int) :: _) rfl rfl ?_
    refine E_s (p' := 4) (st' := aA 124 :: _) rfl rfl ?_
    refine E_gA (b := 125) rfl rfl rfl rfl rfl rfl ?_
    refine E_s (p' := 8) (st' := aI ((i : Nat) : Int) :: _) rfl rfl ?_
    refine E_ald (e := i) (N := 4) (v := ((Cn R : Nat) : Int)) rfl rfl (rfl) (by omega) (MR_125 hM) ?_
    refine E_icmp_ge (x := ((c : Nat) : Int)) (y := ((Cn R : Nat) : Int)) rfl (by decide) (fun h_1 => ?_) (fun h_1 => ?_)
    · refine E_go (p' := 35) (L' := [some (aA 124), some (aI ((i : Nat) : Int)), some (aI ((c : Nat) : Int))]) (st' := []) rfl rfl rfl ?_
      refine E_s (p' := 36) (st' := aI 0 :: _) rfl rfl ?_
      refine E_ret rfl rfl ?_
      exact q0 (fun x hx => I1 x (by omega))
    · refine E_go (p' := 12) (L' := [some (aA 124), some (aI ((i : Nat) : Int)), some (aI ((c : Nat) : Int))]) (st' := []) rfl rfl rfl ?_
      refine E_s (p' := 13) (st' := aA 124 :: _) rfl rfl ?_
      refine E_gA (b := 155) rfl rfl rfl rfl rfl rfl ?_
      refine E_s (p' := 17) (st' := aI ((c : Nat) : Int) :: _) rfl rfl ?_
      refine E_ald (e := c) (N := 60) (v := (((lo c)))) rfl rfl (rfl) (by omega) (hlo c (by omega)).1 ?_
      refine E_s (p' := 19) (st' := aA 124 :: _) rfl rfl ?_
      refine E_gA (b := 156) rfl rfl rfl rfl rfl rfl ?_
      refine E_s (p' := 23) (st' := aI ((c : Nat) : Int) :: _) rfl rfl ?_
      refine E_ald (e := c) (N := 60) (v := (((hi c)))) rfl rfl (rfl) (by omega) (hlo c (by omega)).2 ?_
      refine E_icmp_le (x := (((lo c)))) (y := (((hi c)))) rfl (by decide) (fun h_2 => ?_) (fun h_2 => ?_)
      · refine E_go (p' := 29) (L' := [some (aA 124), some (aI ((i : Nat) : Int)), some (aI ((c : Nat) : Int))]) (st' := []) rfl rfl rfl ?_
        refine E_inc (x := ((c : Nat) : Int)) (w := ((c + 1 : Nat) : Int)) (L' := [some (aA 124), some (aI ((i : Nat) : Int)), some (aI ((c + 1 : Nat) : Int))]) rfl rfl rfl (by omega) (by omega) rfl ?_
        refine E_s (p' := 2) rfl rfl ?_
        exact ih (c + 1) (by omega) (by omega) (fun x hx => by by_cases g9 : x = c; subst g9; omega; exact I1 x (by omega))
      · refine E_go (p' := 27) (L' := [some (aA 124), some (aI ((i : Nat) : Int)), some (aI ((c : Nat) : Int))]) (st' := []) rfl rfl rfl ?_
        refine E_s (p' := 28) (st' := aI 1 :: _) rfl rfl ?_
        refine E_ret rfl rfl ?_
        exact q1 c (by omega) (by omega)
theorem m_isBroken (hi9 : i < 4) (hM : MR R i m) (hV : VR R) (hlo : ∀ c, c < Cn R → m 155 c = lo c ∧ m 156 c = hi c) (q1 : ∀ c, c < Cn R → hi c < lo c → Q (some (aI 1)) (m, tl len)) (q0 : (∀ x, x < Cn R → lo x ≤ hi x) → Q (some (aI 0)) (m, tl len)) : E 171 0 [some (aA 124), some (aI ((i : Nat) : Int)), none] [] (m, tl len) Q := by
  refine E_s (p' := 1) (st' := aI 0 :: _) rfl rfl ?_
  refine E_s (p' := 2) (L' := [some (aA 124), some (aI ((i : Nat) : Int)), some (aI 0)]) rfl rfl ?_
  exact yl_ib hi9 hM hV hlo q1 q0 (Cn R + 1) 0 (by omega) (by omega) (fun x hx => absurd hx (by omega))
end
