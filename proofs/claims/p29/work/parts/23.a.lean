/-- nothing but the model's reading, its numbers and its groups has changed -/
def FrG (m m' : Mm) : Prop := ∀ b z, ¬ (b = 124 ∧ 19 ≤ z ∧ z ≤ 29) → ¬ (141 ≤ b ∧ b ≤ 148) → ¬ (162 ≤ b ∧ b ≤ 164) → m' b z = m b z
theorem FrG.MS {S : Nat → RD} {m m' : Mm} (h : FrG m m') (hS : MS S m) : MS S m' := hS.of (fun b j g1 g2 => h b j (by omega) (by omega) (by omega))
theorem FrG.Co1 {m m' : Mm} (h : FrG m m') : Co1 m m' := fun b j hb => h b j (by omega) (by omega) (by omega)
/-- the CORDS of each GROUP among the first c -/
def GR (R : RD) (c : Nat) (m : Mm) : Prop := ∀ g : Nat, g < 12 → m 163 g = ((gmem R (g : Int) c).length : Int) ∧ (∀ j, j < (gmem R (g : Int) c).length → m 162 (60 * g + j) = ((gmem R (g : Int) c).getD j 0 : Int)) ∧ m 164 g = bi ((gmem R (g : Int) c).all (sdR R))
theorem gmem_lt {R : RD} {g : Int} : ∀ {n : Nat}, ∀ x ∈ gmem R g n, x < n := by
  intro n
  induction n with
  | zero => intro x hx; cases hx
  | succ n ih =>
    intro x hx
    by_cases h : Cg R n = g
    · rw [gmem_t h] at hx
      rcases List.mem_append.mp hx with k | k
      · have := ih x k; omega
      · rw [List.mem_singleton.mp k]; omega
    · rw [gmem_f h] at hx
      have := ih x hx; omega
theorem gN_mem {l : List Nat} {k : Nat} (h : k < l.length) : l.getD k 0 ∈ l := by
  rw [List.getD_eq_getElem?_getD, List.getElem?_eq_getElem h]; exact List.getElem_mem h
section
variable {len : Nat} {m0 : Mm} {Q : Option AV → Sx → Prop} {R : RD} {i : Nat}
theorem yl_gA (hk : ∀ m1 : Mm, (∀ b z, ¬ (163 ≤ b ∧ b ≤ 164) → m1 b z = m0 b z) → (∀ g : Nat, g < 12 → m1 163 g = 0 ∧ m1 164 g = 1) → E 177 37 [some (aA 124), some (aI (i : Int)), some (aI 12), none] [] (m1, tl len) Q) : ∀ (d : Nat) (g : Nat) (m : Mm), (12 < g + d) → (g ≤ 12) → (∀ b z, ¬ (163 ≤ b ∧ b ≤ 164) → m b z = m0 b z) → (∀ x : Nat, x < g → m 163 x = 0 ∧ m 164 x = 1) → E 177 11 [some (aA 124), some (aI ((i : Nat) : Int)), some (aI ((g : Nat) : Int)), none] [] (m, tl len) Q := by
  intro d
  induction d with
  | zero => intro g m hd hg I1 I2; omega
  | succ d ih =>
    intro g m hd hg I1 I2
    refine E_s (p' := 12) (st' := aI ((g : Nat) : Int) :: _) rfl rfl ?_
    refine E_s (p' := 14) (st' := aI 12 :: _) rfl rfl ?_
    refine E_icmp_ge (x := ((g : Nat) : Int)) (y := 12) rfl (by decide) (fun h_1 => ?_) (fun h_1 => ?_)
    · refine E_go (p' := 37) (L' := [some (aA 124), some (aI ((i : Nat) : Int)), some (aI ((g : Nat) : Int)), none]) (st' := []) rfl rfl rfl ?_
      have e9 : g = 12 := by omega
      subst e9
      exact hk m I1 I2
    · refine E_go (p' := 17) (L' := [some (aA 124), some (aI ((i : Nat) : Int)), some (aI ((g : Nat) : Int)), none]) (st' := []) rfl rfl rfl ?_
      refine E_s (p' := 18) (st' := aA 124 :: _) rfl rfl ?_
      refine E_gA (b := 163) rfl rfl rfl rfl rfl rfl ?_
      refine E_s (p' := 22) (st' := aI ((g : Nat) : Int) :: _) rfl rfl ?_
      refine E_s (p' := 23) (st' := aI 0 :: _) rfl rfl ?_
      refine E_ast (e := g) (N := 12) rfl rfl (rfl) (by omega) ?_
      refine E_s (p' := 25) (st' := aA 124 :: _) rfl rfl ?_
      refine E_gA (b := 164) rfl rfl rfl rfl rfl rfl ?_
      refine E_s (p' := 29) (st' := aI ((g : Nat) : Int) :: _) rfl rfl ?_
      refine E_s (p' := 30) (st' := aI 1 :: _) rfl rfl ?_
      refine E_zst (e := g) (N := 12) rfl rfl (rfl) (by omega) (by decide) ?_
      refine E_inc (x := ((g : Nat) : Int)) (w := ((g + 1 : Nat) : Int)) (L' := [some (aA 124), some (aI ((i : Nat) : Int)), some (aI ((g + 1 : Nat) : Int)), none]) rfl rfl rfl (by omega) (by omega) rfl ?_
      refine E_s (p' := 11) rfl rfl ?_
      refine ih (g + 1) _ (by omega) (by omega) (fun b z g1 => (up2_ne (by omega)).trans ((up2_ne (by omega)).trans (I1 b z g1))) (fun x hx => ?_)
      by_cases g9 : x = g
      · rw [g9]; exact ⟨(up2_ne (by omega)).trans up2_eq, up2_eq⟩
      · exact ⟨(up2_ne (by omega)).trans ((up2_sl g9).trans (I2 x (by omega)).1), (up2_sl g9).trans ((up2_ne (by omega)).trans (I2 x (by omega)).2)⟩
theorem yl_gB (hi : i < 4) (hM : MR R i m0) (hV : VR R) (q : ∀ m1 : Mm, FrG m0 m1 → (∀ d, d < Cn R → m1 148 d = Rtd R d) → GR R (Cn R) m1 → Q none (m1, tl len)) : ∀ (d : Nat) (c : Nat) (m : Mm) (x3 : Option AV), (Cn R < c + d) → (c ≤ Cn R) → (FrG m0 m) → (∀ d, d < Cn R → m 148 d = Rtd R d) → (GR R c m) → E 177 39 [some (aA 124), some (aI ((i : Nat) : Int)), some (aI ((c : Nat) : Int)), x3] [] (m, tl len) Q := by
  intro d
  induction d with
  | zero => intro c m x3 hd hc I1 I2 I3; omega
  | succ d ih =>
    intro c m x3 hd hc I1 I2 I3
    have hn60 := hV.1
    have hMm : MR R i m := hM.of (fun b j g1 g2 => I1 b j (by omega) (by omega) (by omega))
    refine E_s (p' := 40) (st' := aI ((c : Nat) : Int) :: _) rfl rfl ?_
    refine E_s (p' := 41) (st' := aA 124 :: _) rfl rfl ?_
    refine E_gA (b := 125) rfl rfl rfl rfl rfl rfl ?_
    refine E_s (p' := 45) (st' := aI ((i : Nat) : Int) :: _) rfl rfl ?_
    refine E_ald (e := i) (N := 4) (v := ((Cn R : Nat) : Int)) rfl rfl (rfl) (by omega) (MR_125 hMm) ?_
    refine E_icmp_ge (x := ((c : Nat) : Int)) (y := ((Cn R : Nat) : Int)) rfl (by decide) (fun h_1 => ?_) (fun h_1 => ?_)
    · refine E_go (p' := 131) (L' := [some (aA 124), some (aI ((i : Nat) : Int)), some (aI ((c : Nat) : Int)), x3]) (st' := []) rfl rfl rfl ?_
      refine E_ret rfl rfl ?_
      have ec : c = Cn R := by omega
      subst ec
      exact q m I1 I2 I3
    · refine E_go (p' := 49) (L' := [some (aA 124), some (aI ((i : Nat) : Int)), some (aI ((c : Nat) : Int)), x3]) (st' := []) rfl rfl rfl ?_
      obtain ⟨⟨vg1, vg2⟩, -⟩ := hV.2.2.1 c (by omega)
      refine E_s (p' := 50) (st' := aA 124 :: _) rfl rfl ?_
      refine E_gA (b := 127) rfl rfl rfl rfl rfl rfl ?_
      refine E_s (p' := 55) (st' := aI 60 :: _) rfl rfl ?_
      refine E_s (p' := 56) (st' := aI ((i : Nat) : Int) :: _) rfl rfl ?_
      refine E_mul (v := ((60 * i : Nat) : Int)) rfl (by omega) (by omega) ?_
      refine E_s (p' := 58) (st' := aI ((c : Nat) : Int) :: _) rfl rfl ?_
      refine E_add (v := ((60 * i + c : Nat) : Int)) rfl (by omega) (by omega) ?_
      refine E_ald (e := 60 * i + c) (N := 240) (v := ((Cg R c))) rfl rfl (rfl) (by omega) (MR_127 hMm (by omega) (by omega)) ?_
      refine E_s (p' := 61) (L' := [some (aA 124), some (aI ((i : Nat) : Int)), some (aI ((c : Nat) : Int)), some (aI ((Cg R c)))]) rfl rfl ?_
      refine E_s (p' := 62) (st' := aI ((Cg R c)) :: _) rfl rfl ?_
      refine E_s (p' := 63) (st' := aI (-1) :: _) rfl rfl ?_
      refine E_icmp_ne (x := ((Cg R c))) (y := (-1)) rfl (by decide) (fun h_2 => ?_) (fun h_2 => ?_)
      · refine E_go (p' := 69) (L' := [some (aA 124), some (aI ((i : Nat) : Int)), some (aI ((c : Nat) : Int)), some (aI ((Cg R c)))]) (st' := []) rfl rfl rfl ?_
        obtain ⟨gn, eg⟩ : ∃ x : Nat, Cg R c = (x : Int) := ⟨(Cg R c).toNat, by omega⟩
        rw [eg]
        obtain ⟨j1, j2, j3⟩ := I3 gn (by omega)
        have hgl := gmem_le R (gn : Int) c
        refine E_s (p' := 70) (st' := aA 124 :: _) rfl rfl ?_
        refine E_gA (b := 162) rfl rfl rfl rfl rfl rfl ?_
        refine E_s (p' := 75) (st' := aI 60 :: _) rfl rfl ?_
        refine E_s (p' := 76) (st' := aI ((gn : Nat) : Int) :: _) rfl rfl ?_
        refine E_mul (v := ((60 * gn : Nat) : Int)) rfl (by omega) (by omega) ?_
        refine E_s (p' := 78) (st' := aA 124 :: _) rfl rfl ?_
        refine E_gA (b := 163) rfl rfl rfl rfl rfl rfl ?_
        refine E_s (p' := 82) (st' := aI ((gn : Nat) : Int) :: _) rfl rfl ?_
        refine E_ald (e := gn) (N := 12) (v := (((gmem R (gn : Int) c).length : Nat) : Int)) rfl rfl (rfl) (by omega) j1 ?_
        refine E_add (v := ((60 * gn + (gmem R (gn : Int) c).length : Nat) : Int)) rfl (by omega) (by omega) ?_
        refine E_s (p' := 85) (st' := aI ((c : Nat) : Int) :: _) rfl rfl ?_
        refine E_ast (e := 60 * gn + (gmem R (gn : Int) c).length) (N := 720) rfl rfl (rfl) (by omega) ?_
        refine E_s (p' := 87) (st' := aA 124 :: _) rfl rfl ?_
        refine E_gA (b := 163) rfl rfl rfl rfl rfl rfl ?_
        refine E_s (p' := 91) (st' := aI ((gn : Nat) : Int) :: _) rfl rfl ?_
        refine E_s (p' := 92) rfl rfl ?_
        refine E_ald (e := gn) (N := 12) (v := (((gmem R (gn : Int) c).length : Nat) : Int)) rfl rfl (rfl) (by omega) ((up2_ne (by omega)).trans (j1)) ?_
        refine E_s (p' := 94) (st' := aI 1 :: _) rfl rfl ?_
        refine E_add (v := (((gmem R (gn : Int) c).length + 1 : Nat) : Int)) rfl (by omega) (by omega) ?_
        refine E_ast (e := gn) (N := 12) rfl rfl (rfl) (by omega) ?_
        refine E_s (p' := 97) (st' := aA 124 :: _) rfl rfl ?_
        refine E_gA (b := 164) rfl rfl rfl rfl rfl rfl ?_
        refine E_s (p' := 101) (st' := aI ((gn : Nat) : Int) :: _) rfl rfl ?_
        refine E_s (p' := 102) (st' := aA 124 :: _) rfl rfl ?_
        refine E_gA (b := 164) rfl rfl rfl rfl rfl rfl ?_
        refine E_s (p' := 106) (st' := aI ((gn : Nat) : Int) :: _) rfl rfl ?_
        refine E_zld (e := gn) (N := 12) (v := (bi ((gmem R (gn : Int) c).all (sdR R)))) rfl rfl (rfl) (by omega) ((up2_ne (by omega)).trans ((up2_ne (by omega)).trans (j3))) ?_
        refine E_b_eq0 (b := ((gmem R (gn : Int) c).all (sdR R))) rfl (by decide) (fun h_3 => ?_) (fun h_3 => ?_)
        · refine E_go (p' := 123) (L' := [some (aA 124), some (aI ((i : Nat) : Int)), some (aI ((c : Nat) : Int)), some (aI ((gn : Nat) : Int))]) (st' := [aI ((gn : Nat) : Int), aA 164]) rfl rfl rfl ?_
          refine E_s (p' := 124) (st' := aI 0 :: _) rfl rfl ?_
          refine E_zst (e := gn) (N := 12) rfl rfl (rfl) (by omega) (by decide) ?_
          refine E_inc (x := ((c : Nat) : Int)) (w := ((c + 1 : Nat) : Int)) (L' := [some (aA 124), some (aI ((i : Nat) : Int)), some (aI ((c + 1 : Nat) : Int)), some (aI ((gn : Nat) : Int))]) rfl rfl rfl (by omega) (by omega) rfl ?_
          refine E_s (p' := 39) rfl rfl ?_
          refine ih (c + 1) _ _ (by omega) (by omega) (fun b z g1 g2 g3 => ((up2_ne (by omega)).trans ((up2_ne (by omega)).trans (up2_ne (by omega)))).trans (I1 b z g1 g2 g3)) (fun d hd9 => ((up2_ne (by omega)).trans ((up2_ne (by omega)).trans (up2_ne (by omega)))).trans (I2 d hd9)) (fun x hx => ?_)
          by_cases g9 : x = gn
          · rw [g9, gmem_t eg]
            refine ⟨((up2_ne (by omega)).trans (up2_eq)).trans (by rw [List.length_append]; rfl), fun j hj => ?_, (up2_eq).trans (by rw [List.all_append]; rw [show (gmem R (gn : Int) c).all (sdR R) = false by assumption]; rfl)⟩
            rw [List.length_append] at hj
            have hj : j < (gmem R (gn : Int) c).length + 1 := hj
            by_cases g8 : j = (gmem R (gn : Int) c).length
            · rw [g8, getD_app_r]; exact ((up2_ne (by omega)).trans ((up2_ne (by omega)).trans (up2_eq)))
            · rw [getD_app_l (by omega)]; exact ((up2_o (by omega)).trans ((up2_o (by omega)).trans (up2_o (by omega)))).trans (j2 j (by omega))
          · rw [gmem_f (by omega)]
            obtain ⟨k1, k2, k3⟩ := I3 x hx
            have hgx := gmem_le R (x : Int) c
            exact ⟨((up2_o (by omega)).trans ((up2_o (by omega)).trans (up2_o (by omega)))).trans k1, fun j hj => ((up2_o (by omega)).trans ((up2_o (by omega)).trans (up2_o (by omega)))).trans (k2 j hj), ((up2_o (by omega)).trans ((up2_o (by omega)).trans (up2_o (by omega)))).trans k3⟩
        · refine E_go (p' := 110) (L' := [some (aA 124), some (aI ((i : Nat) : Int)), some (aI ((c : Nat) : Int)), some (aI ((gn : Nat) : Int))]) (st' := [aI ((gn : Nat) : Int), aA 164]) rfl rfl rfl ?_
          refine E_s (p' := 111) (st' := aA 124 :: _) rfl rfl ?_
          refine E_s (p' := 112) (st' := aI ((i : Nat) : Int) :: _) rfl rfl ?_
          refine E_s (p' := 113) (st' := aI ((c : Nat) : Int) :: _) rfl rfl ?_
          refine E_callV (k' := 158) (a := 124) (r := [aI ((gn : Nat) : Int), aA 164]) (L0 := [some (aA 124), some (aI ((i : Nat) : Int)), some (aI ((c : Nat) : Int))]) rfl rfl rfl rfl rfl rfl rfl rfl rfl rfl ?_
          refine m_isSure hi (hMm.of (fun b j g1 g2 => ((up2_ne (by omega)).trans (up2_ne (by omega))))) hV (c := c) (by omega) (((up2_ne (by omega)).trans (up2_ne (by omega))).trans (I2 _ (by omega))) (fun hs1 hs2 => ?_) (fun hs0 => ?_)
          · refine E_go (p' := 116) (L' := [some (aA 124), some (aI ((i : Nat) : Int)), some (aI ((c : Nat) : Int)), some (aI ((gn : Nat) : Int))]) (st' := [aI 1, aI ((gn : Nat) : Int), aA 164]) rfl rfl rfl ?_
            refine E_s (p' := 119) rfl rfl ?_
            refine E_s (p' := 120) (st' := aI 1 :: _) rfl rfl ?_
            refine E_s (p' := 124) rfl rfl ?_
            refine E_zst (e := gn) (N := 12) rfl rfl (rfl) (by omega) (by decide) ?_
            refine E_inc (x := ((c : Nat) : Int)) (w := ((c + 1 : Nat) : Int)) (L' := [some (aA 124), some (aI ((i : Nat) : Int)), some (aI ((c + 1 : Nat) : Int)), some (aI ((gn : Nat) : Int))]) rfl rfl rfl (by omega) (by omega) rfl ?_
            refine E_s (p' := 39) rfl rfl ?_
            refine ih (c + 1) _ _ (by omega) (by omega) (fun b z g1 g2 g3 => ((up2_ne (by omega)).trans ((up2_ne (by omega)).trans (up2_ne (by omega)))).trans (I1 b z g1 g2 g3)) (fun d hd9 => ((up2_ne (by omega)).trans ((up2_ne (by omega)).trans (up2_ne (by omega)))).trans (I2 d hd9)) (fun x hx => ?_)
            by_cases g9 : x = gn
            · rw [g9, gmem_t eg]
              refine ⟨((up2_ne (by omega)).trans (up2_eq)).trans (by rw [List.length_append]; rfl), fun j hj => ?_, (up2_eq).trans (by rw [List.all_append]; rw [List.all_cons, List.all_nil, sdR_t hs1 hs2, show (gmem R (gn : Int) c).all (sdR R) = true by assumption]; rfl)⟩
              rw [List.length_append] at hj
              have hj : j < (gmem R (gn : Int) c).length + 1 := hj
              by_cases g8 : j = (gmem R (gn : Int) c).length
              · rw [g8, getD_app_r]; exact ((up2_ne (by omega)).trans ((up2_ne (by omega)).trans (up2_eq)))
              · rw [getD_app_l (by omega)]; exact ((up2_o (by omega)).trans ((up2_o (by omega)).trans (up2_o (by omega)))).trans (j2 j (by omega))
            · rw [gmem_f (by omega)]
              obtain ⟨k1, k2, k3⟩ := I3 x hx
              have hgx := gmem_le R (x : Int) c
              exact ⟨((up2_o (by omega)).trans ((up2_o (by omega)).trans (up2_o (by omega)))).trans k1, fun j hj => ((up2_o (by omega)).trans ((up2_o (by omega)).trans (up2_o (by omega)))).trans (k2 j hj), ((up2_o (by omega)).trans ((up2_o (by omega)).trans (up2_o (by omega)))).trans k3⟩
          · refine E_go (p' := 116) (L' := [some (aA 124), some (aI ((i : Nat) : Int)), some (aI ((c : Nat) : Int)), some (aI ((gn : Nat) : Int))]) (st' := [aI 0, aI ((gn : Nat) : Int), aA 164]) rfl rfl rfl ?_
            refine E_s (p' := 123) rfl rfl ?_
            refine E_s (p' := 124) (st' := aI 0 :: _) rfl rfl ?_
            refine E_zst (e := gn) (N := 12) rfl rfl (rfl) (by omega) (by decide) ?_
            refine E_inc (x := ((c : Nat) : Int)) (w := ((c + 1 : Nat) : Int)) (L' := [some (aA 124), some (aI ((i : Nat) : Int)), some (aI ((c + 1 : Nat) : Int)), some (aI ((gn : Nat) : Int))]) rfl rfl rfl (by omega) (by omega) rfl ?_
            refine E_s (p' := 39) rfl rfl ?_
            refine ih (c + 1) _ _ (by omega) (by omega) (fun b z g1 g2 g3 => ((up2_ne (by omega)).trans ((up2_ne (by omega)).trans (up2_ne (by omega)))).trans (I1 b z g1 g2 g3)) (fun d hd9 => ((up2_ne (by omega)).trans ((up2_ne (by omega)).trans (up2_ne (by omega)))).trans (I2 d hd9)) (fun x hx => ?_)
            by_cases g9 : x = gn
            · rw [g9, gmem_t eg]
              refine ⟨((up2_ne (by omega)).trans (up2_eq)).trans (by rw [List.length_append]; rfl), fun j hj => ?_, (up2_eq).trans (by rw [List.all_append]; rw [List.all_cons, List.all_nil, sdR_f hs0]; simp [bi])⟩
              rw [List.length_append] at hj
              have hj : j < (gmem R (gn : Int) c).length + 1 := hj
              by_cases g8 : j = (gmem R (gn : Int) c).length
              · rw [g8, getD_app_r]; exact ((up2_ne (by omega)).trans ((up2_ne (by omega)).trans (up2_eq)))
              · rw [getD_app_l (by omega)]; exact ((up2_o (by omega)).trans ((up2_o (by omega)).trans (up2_o (by omega)))).trans (j2 j (by omega))
            · rw [gmem_f (by omega)]
              obtain ⟨k1, k2, k3⟩ := I3 x hx
              have hgx := gmem_le R (x : Int) c
              exact ⟨((up2_o (by omega)).trans ((up2_o (by omega)).trans (up2_o (by omega)))).trans k1, fun j hj => ((up2_o (by omega)).trans ((up2_o (by omega)).trans (up2_o (by omega)))).trans (k2 j hj), ((up2_o (by omega)).trans ((up2_o (by omega)).trans (up2_o (by omega)))).trans k3⟩
      · refine E_go (p' := 66) (L' := [some (aA 124), some (aI ((i : Nat) : Int)), some (aI ((c : Nat) : Int)), some (aI ((Cg R c)))]) (st' := []) rfl rfl rfl ?_
        refine E_s (p' := 125) rfl rfl ?_
        refine E_inc (x := ((c : Nat) : Int)) (w := ((c + 1 : Nat) : Int)) (L' := [some (aA 124), some (aI ((i : Nat) : Int)), some (aI ((c + 1 : Nat) : Int)), some (aI ((Cg R c)))]) rfl rfl rfl (by omega) (by omega) rfl ?_
        refine E_s (p' := 39) rfl rfl ?_
        refine ih (c + 1) m _ (by omega) (by omega) I1 I2 (fun x hx => ?_)
        rw [gmem_f (by omega)]
        exact I3 x hx
theorem m_groups (hi : i < 4) (hM : MR R i m0) (hV : VR R) (q : ∀ m1 : Mm, FrG m0 m1 → (∀ d, d < Cn R → m1 148 d = Rtd R d) → GR R (Cn R) m1 → Q none (m1, tl len)) : E 177 0 [some (aA 124), some (aI ((i : Nat) : Int)), none, none] [] (m0, tl len) Q := by
  refine E_s (p' := 1) (st' := aA 124 :: _) rfl rfl ?_
  refine E_s (p' := 2) (st' := aI ((i : Nat) : Int) :: _) rfl rfl ?_
  refine E_s (p' := 3) (st' := aA 124 :: _) rfl rfl ?_
  refine E_gA (b := 148) rfl rfl rfl rfl rfl rfl ?_
  refine E_callV (k' := 157) (a := 124) (r := []) (L0 := [some (aA 124), some (aI ((i : Nat) : Int)), some (aA 148), none]) rfl rfl rfl rfl rfl rfl rfl rfl rfl rfl ?_
  refine m_readAll hi (Or.inl rfl) hM hV (fun m1 K1 K2 K3 => ?_)
  refine E_go (p' := 9) (L' := [some (aA 124), some (aI ((i : Nat) : Int)), none, none]) (st' := []) rfl rfl rfl ?_
  refine E_s (p' := 10) (st' := aI 0 :: _) rfl rfl ?_
  refine E_s (p' := 11) (L' := [some (aA 124), some (aI ((i : Nat) : Int)), some (aI 0), none]) rfl rfl ?_
  refine yl_gA (fun m2 a1 a2 => ?_) 13 0 m1 (by omega) (by omega) (fun b z _ => rfl) (fun x hx => absurd hx (by omega))
  refine E_s (p' := 38) (st' := aI 0 :: _) rfl rfl ?_
  refine E_s (p' := 39) (L' := [some (aA 124), some (aI ((i : Nat) : Int)), some (aI 0), none]) rfl rfl ?_
  exact yl_gB hi hM hV q (Cn R + 1) 0 m2 none (by omega) (by omega) (fun b z g1 g2 g3 => (a1 b z (by omega)).trans (K1 b z g1 (by omega) (by omega))) (fun d hd9 => (a1 _ _ (by omega)).trans (K3 d hd9)) (fun x hx => ⟨(a2 x hx).1, fun j hj => absurd hj (Nat.not_lt_zero _), (a2 x hx).2⟩)
end
section
variable {len : Nat} {m : Mm} {Q : Option AV → Sx → Prop} {S : Nat → RD} {R : RD} {i gn : Nat} {r g : Int}
theorem yl_pI (hi : i < 4) (hM : MR R i m) (hV : VR R) (hg : gn < 12) (hG : GR R (Cn R) m) {p : Nat} (hp : 1 ≤ p ∧ p ≤ glen R (gn : Int)) (hk : ∀ (b : Bool), (b = true → perB R (gn : Int) p = true) → (b = false → perB R (gn : Int) p = false) → E 180 129 [some (aA 124), some (aI (i : Int)), some (aI (gn : Int)), some (aI (glen R (gn : Int) : Int)), some (aI (p : Int)), some (aI (bi b)), some (aI (glen R (gn : Int) : Int))] [] (m, tl len) Q) : ∀ (d : Nat) (e : Nat) (b : Bool), (glen R (gn : Int) < e + d) → (p ≤ e ∧ e ≤ glen R (gn : Int)) → (b = true → ∀ j, p ≤ j → j < e → gcol R (gn : Int) j = gcol R (gn : Int) (j - p)) → (b = false → perB R (gn : Int) p = false) → E 180 55 [some (aA 124), some (aI ((i : Nat) : Int)), some (aI ((gn : Nat) : Int)), some (aI ((glen R (gn : Int) : Nat) : Int)), some (aI ((p : Nat) : Int)), some (aI (bi b)), some (aI ((e : Nat) : Int))] [] (m, tl len) Q := by
  intro d
  induction d with
  | zero => intro e b hd he I1 I2; omega
  | succ d ih =>
    intro e b hd he I1 I2
    have hn60 := hV.1
    have hgl : glen R (gn : Int) ≤ Cn R := gmem_le _ _ _
    have hgm : ∀ x, x < glen R (gn : Int) → (gmem R (gn : Int) (Cn R)).getD x 0 < Cn R := fun x hx => gmem_lt _ (gN_mem hx)
    refine E_s (p' := 57) (st' := aI ((e : Nat) : Int) :: _) rfl rfl ?_
    refine E_s (p' := 58) (st' := aI ((glen R (gn : Int) : Nat) : Int) :: _) rfl rfl ?_
    refine E_icmp_ge (x := ((e : Nat) : Int)) (y := ((glen R (gn : Int) : Nat) : Int)) rfl (by decide) (fun h_1 => ?_) (fun h_1 => ?_)
    · refine E_go (p' := 129) (L' := [some (aA 124), some (aI ((i : Nat) : Int)), some (aI ((gn : Nat) : Int)), some (aI ((glen R (gn : Int) : Nat) : Int)), some (aI ((p : Nat) : Int)), some (aI (bi b)), some (aI ((e : Nat) : Int))]) (st' := []) rfl rfl rfl ?_
      have e9 : e = glen R (gn : Int) := by omega
      subst e9
      exact hk b (fun h9 => perB_t (fun j h1 h2 => I1 h9 j h1 h2)) I2
    · refine E_go (p' := 61) (L' := [some (aA 124), some (aI ((i : Nat) : Int)), some (aI ((gn : Nat) : Int)), some (aI ((glen R (gn : Int) : Nat) : Int)), some (aI ((p : Nat) : Int)), some (aI (bi b)), some (aI ((e : Nat) : Int))]) (st' := []) rfl rfl rfl ?_
      refine E_s (p' := 63) (st' := aI (bi b) :: _) rfl rfl ?_
      refine E_b_eq0 (b := b) rfl (by decide) (fun h_2 => ?_) (fun h_2 => ?_)
      · refine E_go (p' := 120) (L' := [some (aA 124), some (aI ((i : Nat) : Int)), some (aI ((gn : Nat) : Int)), some (aI ((glen R (gn : Int) : Nat) : Int)), some (aI ((p : Nat) : Int)), some (aI (bi b)), some (aI ((e : Nat) : Int))]) (st' := []) rfl rfl rfl ?_
        refine E_s (p' := 121) (st' := aI 0 :: _) rfl rfl ?_
        refine E_s (p' := 123) (L' := [some (aA 124), some (aI ((i : Nat) : Int)), some (aI ((gn : Nat) : Int)), some (aI ((glen R (gn : Int) : Nat) : Int)), some (aI ((p : Nat) : Int)), some (aI 0), some (aI ((e : Nat) : Int))]) rfl rfl ?_
        refine E_inc (x := ((e : Nat) : Int)) (w := ((e + 1 : Nat) : Int)) (L' := [some (aA 124), some (aI ((i : Nat) : Int)), some (aI ((gn : Nat) : Int)), some (aI ((glen R (gn : Int) : Nat) : Int)), some (aI ((p : Nat) : Int)), some (aI 0), some (aI ((e + 1 : Nat) : Int))]) rfl rfl rfl (by omega) (by omega) rfl ?_
        refine E_s (p' := 55) rfl rfl ?_
        refine ih (e + 1) false (by omega) (by omega) (fun h9 => by cases h9) (fun _ => ?_)
        first
          | exact I2 (by assumption)
          | exact perB_f (i := e) (by omega) (by omega) (show Cc R _ ≠ Cc R _ by omega)
      · refine E_go (p' := 66) (L' := [some (aA 124), some (aI ((i : Nat) : Int)), some (aI ((gn : Nat) : Int)), some (aI ((glen R (gn : Int) : Nat) : Int)), some (aI ((p : Nat) : Int)), some (aI (bi b)), some (aI ((e : Nat) : Int))]) (st' := []) rfl rfl rfl ?_
        have hg1 := hgm e (by omega)
        have hg2 := hgm (e - p) (by omega)
        refine E_s (p' := 67) (st' := aA 124 :: _) rfl rfl ?_
        refine E_gA (b := 129) rfl rfl rfl rfl rfl rfl ?_
        refine E_s (p' := 72) (st' := aI 60 :: _) rfl rfl ?_
        refine E_s (p' := 73) (st' := aI ((i : Nat) : Int) :: _) rfl rfl ?_
        refine E_mul (v := ((60 * i : Nat) : Int)) rfl (by omega) (by omega) ?_
        refine E_s (p' := 75) (st' := aA 124 :: _) rfl rfl ?_
        refine E_gA (b := 162) rfl rfl rfl rfl rfl rfl ?_
        refine E_s (p' := 80) (st' := aI 60 :: _) rfl rfl ?_
        refine E_s (p' := 81) (st' := aI ((gn : Nat) : Int) :: _) rfl rfl ?_
        refine E_mul (v := ((60 * gn : Nat) : Int)) rfl (by omega) (by omega) ?_
        refine E_s (p' := 84) (st' := aI ((e : Nat) : Int) :: _) rfl rfl ?_
        refine E_add (v := ((60 * gn + e : Nat) : Int)) rfl (by omega) (by omega) ?_
        refine E_ald (e := 60 * gn + e) (N := 720) (v := (((gmem R (gn : Int) (Cn R)).getD e 0 : Nat) : Int)) rfl rfl (rfl) (by omega) ((hG gn hg).2.1 _ (by unfold glen at *; omega)) ?_
        refine E_add (v := ((60 * i + (gmem R (gn : Int) (Cn R)).getD e 0 : Nat) : Int)) rfl (by omega) (by omega) ?_
        refine E_ald (e := 60 * i + (gmem R (gn : Int) (Cn R)).getD e 0) (N := 240) (v := ((Cc R ((gmem R (gn : Int) (Cn R)).getD e 0) : Nat) : Int)) rfl rfl (rfl) (by omega) (MR_129 hM (hgm _ (by omega)) (by omega)) ?_
        refine E_s (p' := 89) (st' := aA 124 :: _) rfl rfl ?_
        refine E_gA (b := 129) rfl rfl rfl rfl rfl rfl ?_
        refine E_s (p' := 94) (st' := aI 60 :: _) rfl rfl ?_
        refine E_s (p' := 95) (st' := aI ((i : Nat) : Int) :: _) rfl rfl ?_
        refine E_mul (v := ((60 * i : Nat) : Int)) rfl (by omega) (by omega) ?_
        refine E_s (p' := 97) (st' := aA 124 :: _) rfl rfl ?_
        refine E_gA (b := 162) rfl rfl rfl rfl rfl rfl ?_
        refine E_s (p' := 102) (st' := aI 60 :: _) rfl rfl ?_
        refine E_s (p' := 103) (st' := aI ((gn : Nat) : Int) :: _) rfl rfl ?_
        refine E_mul (v := ((60 * gn : Nat) : Int)) rfl (by omega) (by omega) ?_
        refine E_s (p' := 106) (st' := aI ((e : Nat) : Int) :: _) rfl rfl ?_
        refine E_add (v := ((60 * gn + e : Nat) : Int)) rfl (by omega) (by omega) ?_
        refine E_s (p' := 109) (st' := aI ((p : Nat) : Int) :: _) rfl rfl ?_
        refine E_sub (v := (60 * (gn : Int) + (e : Int) - (p : Int))) rfl (by omega) (by omega) ?_
        refine E_ald (e := (60 * (gn : Int) + (e : Int) - (p : Int)).toNat) (N := 720) (v := (((gmem R (gn : Int) (Cn R)).getD (e - p) 0 : Nat) : Int)) rfl rfl (by omega) (by omega) (by rw [show (60 * (gn : Int) + (e : Int) - (p : Int)).toNat = 60 * gn + (e - p) by omega]; exact (hG gn hg).2.1 _ (by unfold glen at *; omega)) ?_
        refine E_add (v := ((60 * i + (gmem R (gn : Int) (Cn R)).getD (e - p) 0 : Nat) : Int)) rfl (by omega) (by omega) ?_
        refine E_ald (e := 60 * i + (gmem R (gn : Int) (Cn R)).getD (e - p) 0) (N := 240) (v := ((Cc R ((gmem R (gn : Int) (Cn R)).getD (e - p) 0) : Nat) : Int)) rfl rfl (rfl) (by omega) (MR_129 hM (hgm _ (by omega)) (by omega)) ?_
        refine E_icmp_ne (x := ((Cc R ((gmem R (gn : Int) (Cn R)).getD e 0) : Nat) : Int)) (y := ((Cc R ((gmem R (gn : Int) (Cn R)).getD (e - p) 0) : Nat) : Int)) rfl (by decide) (fun h_3 => ?_) (fun h_3 => ?_)
        · refine E_go (p' := 120) (L' := [some (aA 124), some (aI ((i : Nat) : Int)), some (aI ((gn : Nat) : Int)), some (aI ((glen R (gn : Int) : Nat) : Int)), some (aI ((p : Nat) : Int)), some (aI (bi b)), some (aI ((e : Nat) : Int))]) (st' := []) rfl rfl rfl ?_
          refine E_s (p' := 121) (st' := aI 0 :: _) rfl rfl ?_
          refine E_s (p' := 123) (L' := [some (aA 124), some (aI ((i : Nat) : Int)), some (aI ((gn : Nat) : Int)), some (aI ((glen R (gn : Int) : Nat) : Int)), some (aI ((p : Nat) : Int)), some (aI 0), some (aI ((e : Nat) : Int))]) rfl rfl ?_
          refine E_inc (x := ((e : Nat) : Int)) (w := ((e + 1 : Nat) : Int)) (L' := [some (aA 124), some (aI ((i : Nat) : Int)), some (aI ((gn : Nat) : Int)), some (aI ((glen R (gn : Int) : Nat) : Int)), some (aI ((p : Nat) : Int)), some (aI 0), some (aI ((e + 1 : Nat) : Int))]) rfl rfl rfl (by omega) (by omega) rfl ?_
          refine E_s (p' := 55) rfl rfl ?_
          refine ih (e + 1) false (by omega) (by omega) (fun h9 => by cases h9) (fun _ => ?_)
          first
            | exact I2 (by assumption)
            | exact perB_f (i := e) (by omega) (by omega) (show Cc R _ ≠ Cc R _ by omega)
        · refine E_go (p' := 116) (L' := [some (aA 124), some (aI ((i : Nat) : Int)), some (aI ((gn : Nat) : Int)), some (aI ((glen R (gn : Int) : Nat) : Int)), some (aI ((p : Nat) : Int)), some (aI (bi b)), some (aI ((e : Nat) : Int))]) (st' := []) rfl rfl rfl ?_
          refine E_s (p' := 117) (st' := aI 1 :: _) rfl rfl ?_
          refine E_s (p' := 121) rfl rfl ?_
          refine E_s (p' := 123) (L' := [some (aA 124), some (aI ((i : Nat) : Int)), some (aI ((gn : Nat) : Int)), some (aI ((glen R (gn : Int) : Nat) : Int)), some (aI ((p : Nat) : Int)), some (aI 1), some (aI ((e : Nat) : Int))]) rfl rfl ?_
          refine E_inc (x := ((e : Nat) : Int)) (w := ((e + 1 : Nat) : Int)) (L' := [some (aA 124), some (aI ((i : Nat) : Int)), some (aI ((gn : Nat) : Int)), some (aI ((glen R (gn : Int) : Nat) : Int)), some (aI ((p : Nat) : Int)), some (aI 1), some (aI ((e + 1 : Nat) : Int))]) rfl rfl rfl (by omega) (by omega) rfl ?_
          refine E_s (p' := 55) rfl rfl ?_
          refine ih (e + 1) true (by omega) (by omega) (fun _ j h1 h2 => ?_) (fun h9 => by cases h9)
          by_cases g9 : j = e
          · subst g9; show Cc R _ = Cc R _; omega
          · exact I1 (by assumption) j h1 (by omega)
theorem yl_pO (hi : i < 4) (hM : MR R i m) (hV : VR R) (hg : gn < 12) (hG : GR R (Cn R) m) (q : ∀ p, 1 ≤ p → p ≤ glen R (gn : Int) → (∀ j, 1 ≤ j → j < p → perB R (gn : Int) j = false) → perB R (gn : Int) p = true → Q (some (aI (p : Int))) (m, tl len)) (hn1 : glen R (gn : Int) ≠ 0) : ∀ (d : Nat) (p : Nat) (x6 : Option AV), (glen R (gn : Int) < p + d) → (1 ≤ p ∧ p ≤ glen R (gn : Int)) → (∀ j, 1 ≤ j → j < p → perB R (gn : Int) j = false) → E 180 43 [some (aA 124), some (aI ((i : Nat) : Int)), some (aI ((gn : Nat) : Int)), some (aI ((glen R (gn : Int) : Nat) : Int)), some (aI ((p : Nat) : Int)), some (aI 0), x6] [] (m, tl len) Q := by
  intro d
  induction d with
  | zero => intro p x6 hd hp I1; omega
  | succ d ih =>
    intro p x6 hd hp I1
    have hn60 := hV.1
    have hgl : glen R (gn : Int) ≤ Cn R := gmem_le _ _ _
    have hgm : ∀ x, x < glen R (gn : Int) → (gmem R (gn : Int) (Cn R)).getD x 0 < Cn R := fun x hx => gmem_lt _ (gN_mem hx)
    refine E_s (p' := 45) (st' := aI 0 :: _) rfl rfl ?_
    refine E_s (p' := 48) rfl rfl ?_
    refine E_s (p' := 49) (st' := aI 1 :: _) rfl rfl ?_
    refine E_s (p' := 51) (L' := [some (aA 124), some (aI ((i : Nat) : Int)), some (aI ((gn : Nat) : Int)), some (aI ((glen R (gn : Int) : Nat) : Int)), some (aI ((p : Nat) : Int)), some (aI 1), x6]) rfl rfl ?_
    refine E_s (p' := 53) (st' := aI ((p : Nat) : Int) :: _) rfl rfl ?_
    refine E_s (p' := 55) (L' := [some (aA 124), some (aI ((i : Nat) : Int)), some (aI ((gn : Nat) : Int)), some (aI ((glen R (gn : Int) : Nat) : Int)), some (aI ((p : Nat) : Int)), some (aI 1), some (aI ((p : Nat) : Int))]) rfl rfl ?_
    refine yl_pI hi hM hV hg hG (by omega) (fun b hb1 hb0 => ?_) (glen R (gn : Int) + 1) p true (by omega) (by omega) (fun _ j h1 h2 => absurd h1 (by omega)) (fun h9 => by cases h9)
    cases b
    · have hbf := hb0 rfl
      have hpl : p < glen R (gn : Int) := by
        rcases Nat.lt_or_ge p (glen R (gn : Int)) with g9 | g9
        · exact g9
        · rw [perB_t (fun j h1 h2 => absurd h1 (by omega))] at hbf; cases hbf
      refine E_s (p' := 131) (st' := aI 0 :: _) rfl rfl ?_
      refine E_s (p' := 134) rfl rfl ?_
      refine E_inc (x := ((p : Nat) : Int)) (w := ((p + 1 : Nat) : Int)) (L' := [some (aA 124), some (aI ((i : Nat) : Int)), some (aI ((gn : Nat) : Int)), some (aI ((glen R (gn : Int) : Nat) : Int)), some (aI ((p + 1 : Nat) : Int)), some (aI 0), some (aI ((glen R (gn : Int) : Nat) : Int))]) rfl rfl rfl (by omega) (by omega) rfl ?_
      refine E_s (p' := 43) rfl rfl ?_
      exact ih (p + 1) _ (by omega) (by omega) (fun j h1 h2 => by by_cases g9 : j = p; rw [g9]; exact hbf; exact I1 j h1 (by omega))
    · have hbt := hb1 rfl
      refine E_s (p' := 131) (st' := aI 1 :: _) rfl rfl ?_
      refine E_s (p' := 43) rfl rfl ?_
      refine E_s (p' := 45) (st' := aI 1 :: _) rfl rfl ?_
      refine E_s (p' := 140) rfl rfl ?_
      refine E_s (p' := 142) (st' := aI ((p : Nat) : Int) :: _) rfl rfl ?_
      refine E_ret rfl rfl ?_
      exact q p (by omega) (by omega) I1 hbt
theorem M_period (hS : MS S m) (q : ∀ m1, MS S m1 → Co1 m m1 → Q (some (aI (qy S r (-1) (aPeriod g)))) (m1, tl len)) : E 180 0 [some (aA 124), some (aI (r)), some (aI (g)), none, none, none, none] [] (m, tl len) Q := by
  refine E_s (p' := 1) (st' := aI (r) :: _) rfl rfl ?_
  refine E_callL (p' := 4) (L0 := [some (aI (r))]) rfl rfl rfl ?_
  refine m_isRecord (fun i hi hr => ?_) (fun hr => ?_)
  · refine E_go (p' := 4) (L' := [some (aA 124), some (aI (r)), some (aI (g)), none, none, none, none]) (st' := [aI 1]) rfl rfl rfl ?_
    obtain ⟨hV, hM⟩ := hS i hi
    have hn60 := hV.1
    have hs40 := hV.2.2.2.2.1
    subst hr
    refine E_s (p' := 7) rfl rfl ?_
    refine E_s (p' := 8) (st' := aI (g) :: _) rfl rfl ?_
    refine E_s (p' := 9) (st' := aI 0 :: _) rfl rfl ?_
    refine E_s (p' := 11) (st' := aI 11 :: _) rfl rfl ?_
    refine E_callL (p' := 14) (L0 := [some (aI (g)), some (aI 0), some (aI 11)]) rfl rfl rfl ?_
    refine m_in (fun h_1 h_2 => ?_) (fun h_3 => ?_)
    · refine E_go (p' := 14) (L' := [some (aA 124), some (aI ((i : Nat) : Int)), some (aI (g)), none, none, none, none]) (st' := [aI 1]) rfl rfl rfl ?_
      refine E_s (p' := 19) rfl rfl ?_
      obtain ⟨gn, eg⟩ : ∃ x : Nat, g = (x : Int) := ⟨g.toNat, by omega⟩
      subst eg
      refine E_s (p' := 20) (st' := aA 124 :: _) rfl rfl ?_
      refine E_s (p' := 21) (st' := aI ((i : Nat) : Int) :: _) rfl rfl ?_
      refine E_callV (k' := 177) (a := 124) (r := []) (L0 := [some (aA 124), some (aI ((i : Nat) : Int)), none, none]) rfl rfl rfl rfl rfl rfl rfl rfl rfl rfl ?_
      refine m_groups hi hM hV (fun m1 K1 K2 K3 => ?_)
      refine E_go (p' := 24) (L' := [some (aA 124), some (aI ((i : Nat) : Int)), some (aI ((gn : Nat) : Int)), none, none, none, none]) (st' := []) rfl rfl rfl ?_
      have hS1 := K1.MS hS
      have hC1 := K1.Co1
      have hM1 := (hS1 i hi).2
      refine E_s (p' := 25) (st' := aA 124 :: _) rfl rfl ?_
      refine E_gA (b := 163) rfl rfl rfl rfl rfl rfl ?_
      refine E_s (p' := 29) (st' := aI ((gn : Nat) : Int) :: _) rfl rfl ?_
      refine E_ald (e := gn) (N := 12) (v := ((glen (S i) (gn : Int) : Nat) : Int)) rfl rfl (rfl) (by omega) (K3 gn (by omega)).1 ?_
      refine E_s (p' := 31) (L' := [some (aA 124), some (aI ((i : Nat) : Int)), some (aI ((gn : Nat) : Int)), some (aI ((glen (S i) (gn : Int) : Nat) : Int)), none, none, none]) rfl rfl ?_
      refine E_s (p' := 32) (st' := aI ((glen (S i) (gn : Int) : Nat) : Int) :: _) rfl rfl ?_
      refine E_if_ne (x := ((glen (S i) (gn : Int) : Nat) : Int)) rfl (by decide) (fun h_4 => ?_) (fun h_4 => ?_)
      · refine E_go (p' := 37) (L' := [some (aA 124), some (aI ((i : Nat) : Int)), some (aI ((gn : Nat) : Int)), some (aI ((glen (S i) (gn : Int) : Nat) : Int)), none, none, none]) (st' := []) rfl rfl rfl ?_
        refine E_s (p' := 38) (st' := aI 1 :: _) rfl rfl ?_
        refine E_s (p' := 40) (L' := [some (aA 124), some (aI ((i : Nat) : Int)), some (aI ((gn : Nat) : Int)), some (aI ((glen (S i) (gn : Int) : Nat) : Int)), some (aI 1), none, none]) rfl rfl ?_
        refine E_s (p' := 41) (st' := aI 0 :: _) rfl rfl ?_
        refine E_s (p' := 43) (L' := [some (aA 124), some (aI ((i : Nat) : Int)), some (aI ((gn : Nat) : Int)), some (aI ((glen (S i) (gn : Int) : Nat) : Int)), some (aI 1), some (aI 0), none]) rfl rfl ?_
        exact yl_pO hi hM1 hV (by omega) K3 (fun p h1 h2 h3 h4 => mq_in hS1 hi rfl q (by unfold aPeriod; rw [cif_pos ⟨by omega, by omega⟩, fstP_u h1 (by omega) h3 (fun _ => h4)]) hC1) (by omega) (glen (S i) (gn : Int) + 1) 1 none (by omega) (by omega) (fun j h1 h2 => absurd h1 (by omega))
      · refine E_go (p' := 35) (L' := [some (aA 124), some (aI ((i : Nat) : Int)), some (aI ((gn : Nat) : Int)), some (aI ((glen (S i) (gn : Int) : Nat) : Int)), none, none, none]) (st' := []) rfl rfl rfl ?_
        refine E_s (p' := 36) (st' := aI (-1) :: _) rfl rfl ?_
        refine E_ret rfl rfl ?_
        exact mq_in hS1 hi rfl q (by unfold aPeriod; rw [cif_neg (by omega)]) hC1
    · refine E_go (p' := 14) (L' := [some (aA 124), some (aI ((i : Nat) : Int)), some (aI (g)), none, none, none, none]) (st' := [aI 0]) rfl rfl rfl ?_
      refine E_s (p' := 17) rfl rfl ?_
      refine E_s (p' := 18) (st' := aI (-1) :: _) rfl rfl ?_
      refine E_ret rfl rfl ?_
      exact mq_in hS hi rfl q (by unfold aPeriod; rw [cif_neg (by omega)]) Co1.rf
  · refine E_go (p' := 4) (L' := [some (aA 124), some (aI (r)), some (aI (g)), none, none, none, none]) (st' := [aI 0]) rfl rfl rfl ?_
    refine E_s (p' := 17) rfl rfl ?_
    refine E_s (p' := 18) (st' := aI (-1) :: _) rfl rfl ?_
    refine E_ret rfl rfl ?_
    exact mq_out hS q hr
end
