/-- nothing but the model's reading, its numbers and its groups has changed -/
def FrG (m m' : Mm) : Prop := ∀ b z, ¬ (b = 124 ∧ 19 ≤ z ∧ z ≤ 29) → ¬ (141 ≤ b ∧ b ≤ 148) → ¬ (162 ≤ b ∧ b ≤ 164) → m' b z = m b z
theorem FrG.MS {S : Nat → RD} {m m' : Mm} (h : FrG m m') (hS : MS S m) : MS S m' := hS.of (fun b j g1 g2 => h b j (by omega) (by omega) (by omega))
theorem FrG.Co1 {m m' : Mm} (h : FrG m m') : Co1 m m' := fun b j hb => h b j (by omega) (by omega) (by omega)
/-- the CORDS of each GROUP among the first c -/
def GR (R : RD) (c : Nat) (m : Mm) : Prop := ∀ g : Nat, g < 12 → m 163 g = ((gmem R (g : Int) c).length : Int) ∧ (∀ j, j < (gmem R (g : Int) c).length → m 162 (60 * g + j) = ((gmem R (g : Int) c).getD j 0 : Int)) ∧ m 164 g = bi ((gmem R (g : Int) c).all (sdR R))
theorem gmem_lt {R : RD} {g : Int} : ∀ {n : Nat}, ∀ x ∈ gmem R g n, x < n := by
  intro n
  induction n with
  | zero => intro x hx; cases hx
  | succ n ih =>
    intro x hx
    by_cases h : Cg R n = g
    · rw [gmem_t h] at hx
      rcases List.mem_append.mp hx with k | k
      · have := ih x k; omega
      · rw [List.mem_singleton.mp k]; omega
    · rw [gmem_f h] at hx
      have := ih x hx; omega
theorem gN_mem {l : List Nat} {k : Nat} (h : k < l.length) : l.getD k 0 ∈ l := by
  rw [List.getD_eq_getElem?_getD, List.getElem?_eq_getElem h]; exact List.getElem_mem h
section
variable {len : Nat} {m0 : Mm} {Q : Option AV → Sx → Prop} {R : RD} {i : Nat}
theorem yl_gA (hk : ∀ m1 : Mm, (∀ b z, ¬ (163 ≤ b ∧ b ≤ 164) → m1 b z = m0 b z) → (∀ g : Nat, g < 12 → m1 163 g = 0 ∧ m1 164 g = 1) → E 177 37 [some (aA 124), some (aI (i : Int)), some (aI 12), none] [] (m1, tl len) Q) : ∀ (d : Nat) (g : Nat) (m : Mm), (12 < g + d) → (g ≤ 12) → (∀ b z, ¬ (163 ≤ b ∧ b ≤ 164) → m b z = m0 b z) → (∀ x : Nat, x < g → m 163 x = 0 ∧ m 164 x = 1) → E 177 11 [some (aA 124), some (aI ((i : Nat) : Int)), some (aI ((g : Nat) : Int)), none] [] (m, tl len) Q := by
  intro d
  induction d with
  | zero => intro g m hd hg I1 I2; omega
  | succ d ih =>
    intro g m hd hg I1 I2
    refine E_s (p' := 12) (st' := aI ((g : Nat) : Int) :: _) rfl rfl ?_
    refine E_s (p' := 14) (st' := aI 12 :: _) rfl rfl ?_
    refine E_icmp_ge (x := ((g : Nat) : Int)) (y := 12) rfl (by decide) (fun h_1 => ?_) (fun h_1 => ?_)
    · refine E_go (p' := 37) (L' := [some (aA 124), some (aI ((i : Nat) : Int)), some (aI ((g : Nat) : Int)), none]) (st' := []) rfl rfl rfl ?_
      have e9 : g = 12 := by omega
      subst e9
      exact hk m I1 I2
    · refine E_go (p' := 17) (L' := [some (aA 124), some (aI ((i : Nat) : Int)), some (aI ((g : Nat) : Int)), none]) (st' := []) rfl rfl rfl ?_
      refine E_s (p' := 18) (st' := aA 124 :: _) rfl rfl ?_
      refine E_gA (b := 163) rfl rfl rfl rfl rfl rfl ?_
      refine E_s (p' := 22) (st' := aI ((g : Nat) : Int) :: _) rfl rfl ?_
      refine E_s (p' := 23) (st' := aI 0 :: _) rfl rfl ?_
      refine E_ast (e := g) (N := 12) rfl rfl (rfl) (by omega) ?_
      refine E_s (p' := 25) (st' := aA 124 :: _) rfl rfl ?_
      refine E_gA (b := 164) rfl rfl rfl rfl rfl rfl ?_
      refine E_s (p' := 29) (st' := aI ((g : Nat) : Int) :: _) rfl rfl ?_
      refine E_s (p' := 30) (st' := aI 1 :: _) rfl rfl ?_
      refine E_zst (e := g) (N := 12) rfl rfl (rfl) (by omega) (by decide) ?_
      refine E_inc (x := ((g : Nat) : Int)) (w := ((g + 1 : Nat) : Int)) (L' := [some (aA 124), some (aI ((i : Nat) : Int)), some (aI ((g + 1 : Nat) : Int)), none]) rfl rfl rfl (by omega) (by omega) rfl ?_
      refine E_s (p' := 11) rfl rfl ?_
      refine ih (g + 1) _ (by omega) (by omega) (fun b z g1 => (up2_ne (by omega)).trans ((up2_ne (by omega)).trans (I1 b z g1))) (fun x hx => ?_)
      by_cases g9 : x = g
      · rw [g9]; exact ⟨(up2_ne (by omega)).trans up2_eq, up2_eq⟩
      · exact ⟨(up2_ne (by omega)).trans ((up2_sl g9).trans (I2 x (by omega)).1), (up2_sl g9).trans ((up2_ne (by omega)).trans (I2 x (by omega)).2)⟩
theorem yl_gB (hi : i < 4) (hM : MR R i m0) (hV : VR R) (q : ∀ m1 : Mm, FrG m0 m1 → (∀ d, d < Cn R → m1 148 d = Rtd R d) → GR R (Cn R) m1 → Q none (m1, tl len)) : ∀ (d : Nat) (c : Nat) (m : Mm) (x3 : Option AV), (Cn R < c + d) → (c ≤ Cn R) → (FrG m0 m) → (∀ d, d < Cn R → m 148 d = Rtd R d) → (GR R c m) → E 177 39 [some (aA 124), some (aI ((i : Nat) : Int)), some (aI ((c : Nat) : Int)), x3] [] (m, tl len) Q := by
  intro d
  induction d with
  | zero => intro c m x3 hd hc I1 I2 I3; omega
  | succ d ih =>
    intro c m x3 hd hc I1 I2 I3
    have hn60 := hV.1
    have hMm : MR R i m := hM.of (fun b j g1 g2 => I1 b j (by omega) (by omega) (by omega))
    refine E_s (p' := 40) (st' := aI ((c : Nat) : Int) :: _) rfl rfl ?_
    refine E_s (p' := 41) (st' := aA 124 :: _) rfl rfl ?_
    refine E_gA (b := 125) rfl rfl rfl rfl rfl rfl ?_
    refine E_s (p' := 45) (st' := aI ((i : Nat) : Int) :: _) rfl rfl ?_
    refine E_ald (e := i) (N := 4) (v := ((Cn R : Nat) : Int)) rfl rfl (rfl) (by omega) (MR_125 hMm) ?_
    refine E_icmp_ge (x := ((c : Nat) : Int)) (y := ((Cn R : Nat) : Int)) rfl (by decide) (fun h_1 => ?_) (fun h_1 => ?_)
    · refine E_go (p' := 131) (L' := [some (aA 124), some (aI ((i : Nat) : Int)), some (aI ((c : Nat) : Int)), x3]) (st' := []) rfl rfl rfl ?_
      refine E_ret rfl rfl ?_
      have ec : c = Cn R := by omega
      subst ec
      exact q m I1 I2 I3
    · refine E_go (p' := 49) (L' := [some (aA 124), some (aI ((i : Nat) : Int)), some (aI ((c : Nat) : Int)), x3]) (st' := []) rfl rfl rfl ?_
      obtain ⟨⟨vg1, vg2⟩, -⟩ := hV.2.2.1 c (by omega)
      refine E_s (p' := 50) (st' := aA 124 :: _) rfl rfl ?_
      refine E_gA (b := 127) rfl rfl rfl rfl rfl rfl ?_
      refine E_s (p' := 55) (st' := aI 60 :: _) rfl rfl ?_
      refine E_s (p' := 56) (st' := aI ((i : Nat) : Int) :: _) rfl rfl ?_
      refine E_mul (v := ((60 * i : Nat) : Int)) rfl (by omega) (by omega) ?_
      refine E_s (p' := 58) (st' := aI ((c : Nat) : Int) :: _) rfl rfl ?_
      refine E_add (v := ((60 * i + c : Nat) : Int)) rfl (by omega) (by omega) ?_
      refine E_ald (e := 60 * i + c) (N := 240) (v := ((Cg R c))) rfl rfl (rfl) (by omega) (MR_127 hMm (by omega) (by omega)) ?_
      refine E_s (p' := 61) (L' := [some (aA 124), some (aI ((i : Nat) : Int)), some (aI ((c : Nat) : Int)), some (aI ((Cg R c)))]) rfl rfl ?_
      refine E_s (p' := 62) (st' := aI ((Cg R c)) :: _) rfl rfl ?_
      refine E_s (p' := 63) (st' := aI (-1) :: _) rfl rfl ?_
      refine E_icmp_ne (x := ((Cg R c))) (y := (-1)) rfl (by decide) (fun h_2 => ?_) (fun h_2 => ?_)
      · refine E_go (p' := 69) (L' := [some (aA 124), some (aI ((i : Nat) : Int)), some (aI ((c : Nat) : Int)), some (aI ((Cg R c)))]) (st' := []) rfl rfl rfl ?_
        obtain ⟨gn, eg⟩ : ∃ x : Nat, Cg R c = (x : Int) := ⟨(Cg R c).toNat, by omega⟩
        rw [eg]
        obtain ⟨j1, j2, j3⟩ := I3 gn (by omega)
        have hgl := gmem_le R (gn : Int) c
        refine E_s (p' := 70) (st' := aA 124 :: _) rfl rfl ?_
        refine E_gA (b := 162) rfl rfl rfl rfl rfl rfl ?_
        refine E_s (p' := 75) (st' := aI 60 :: _) rfl rfl ?_
        refine E_s (p' := 76) (st' := aI ((gn : Nat) : Int) :: _) rfl rfl ?_
        refine E_mul (v := ((60 * gn : Nat) : Int)) rfl (by omega) (by omega) ?_
        refine E_s (p' := 78) (st' := aA 124 :: _) rfl rfl ?_
        refine E_gA (b := 163) rfl rfl rfl rfl rfl rfl ?_
        refine E_s (p' := 82) (st' := aI ((gn : Nat) : Int) :: _) rfl rfl ?_
        refine E_ald (e := gn) (N := 12) (v := (((gmem R (gn : Int) c).length : Nat) : Int)) rfl rfl (rfl) (by omega) j1 ?_
        refine E_add (v := ((60 * gn + (gmem R (gn : Int) c).length : Nat) : Int)) rfl (by omega) (by omega) ?_
        refine E_s (p' := 85) (st' := aI ((c : Nat) : Int) :: _) rfl rfl ?_
        refine E_ast (e := 60 * gn + (gmem R (gn : Int) c).length) (N := 720) rfl rfl (rfl) (by omega) ?_
        refine E_s (p' := 87) (st' := aA 124 :: _) rfl rfl ?_
        refine E_gA (b := 163) rfl rfl rfl rfl rfl rfl ?_
        refine E_s (p' := 91) (st' := aI ((gn : Nat) : Int) :: _) rfl rfl ?_
        refine E_s (p' := 92) rfl rfl ?_
        refine E_ald (e := gn) (N := 12) (v := (((gmem R (gn : Int) c).length : Nat) : Int)) rfl rfl (rfl) (by omega) ((up2_ne (by omega)).trans (j1)) ?_
        refine E_s (p' := 94) (st' := aI 1 :: _) rfl rfl ?_
        refine E_add (v := (((gmem R (gn : Int) c).length + 1 : Nat) : Int)) rfl (by omega) (by omega) ?_
        refine E_ast (e := gn) (N := 12) rfl rfl (rfl) (by omega) ?_
        refine E_s (p' := 97) (st' := aA 124 :: _) rfl rfl ?_
        refine E_gA (b := 164) rfl rfl rfl rfl rfl rfl ?_
        refine E_s (p' := 101) (st' := aI ((gn : Nat) : Int) :: _) rfl rfl ?_
        refine E_s (p' := 102) (st' := aA 124 :: _) rfl rfl ?_
        refine E_gA (b := 164) rfl rfl rfl rfl rfl rfl ?_
        refine E_s (p' := 106) (st' := aI ((gn : Nat) : Int) :: _) rfl rfl ?_
        refine E_zld (e := gn) (N := 12) (v := (bi ((gmem R (gn : Int) c).all (sdR R)))) rfl rfl (rfl) (by omega) ((up2_ne (by omega)).trans ((up2_ne (by omega)).trans (j3))) ?_
        refine E_b_eq0 (b := ((gmem R (gn : Int) c).all (sdR R))) rfl (by decide) (fun h_3 => ?_) (fun h_3 => ?_)
        · refine E_go (p' := 123) (L' := [some (aA 124), some (aI ((i : Nat) : Int)), some (aI ((c : Nat) : Int)), some (aI ((gn : Nat) : Int))]) (st' := [aI ((gn : Nat) : Int), aA 164]) rfl rfl rfl ?_
          refine E_s (p' := 124) (st' := aI 0 :: _) rfl rfl ?_
          refine E_zst (e := gn) (N := 12) rfl rfl (rfl) (by omega) (by decide) ?_
          refine E_inc (x := ((c : Nat) : Int)) (w := ((c + 1 : Nat) : Int)) (L' := [some (aA 124), some (aI ((i : Nat) : Int)), some (aI ((c + 1 : Nat) : Int)), some (aI ((gn : Nat) : Int))]) rfl rfl rfl (by omega) (by omega) rfl ?_
          refine E_s (p' := 39) rfl rfl ?_
          refine ih (c + 1) _ _ (by omega) (by omega) (fun b z g1 g2 g3 => ((up2_ne (by omega)).trans ((up2_ne (by omega)).trans (up2_ne (by omega)))).trans (I1 b z g1 g2 g3)) (fun d hd9 => ((up2_ne (by omega)).trans ((up2_ne (by omega)).trans (up2_ne (by omega)))).trans (I2 d hd9)) (fun x hx => ?_)
          by_cases g9 : x = gn
          · rw [g9, gmem_t eg]
            refine ⟨((up2_ne (by omega)).trans (up2_eq)).trans (by rw [List.length_append]; rfl), fun j hj => ?_, (up2_eq).trans (by rw [List.all_append]; rw [show (gmem R (gn : Int) c).all (sdR R) = false by assumption]; rfl)⟩
            rw [List.length_append] at hj
            have hj : j < (gmem R (gn : Int) c).length + 1 := hj
            by_cases g8 : j = (gmem R (gn : Int) c).length
            · rw [g8, getD_app_r]; exact ((up2_ne (by omega)).trans ((up2_ne (by omega)).trans (up2_eq)))
            · rw [getD_app_l (by omega)]; exact ((up2_o (by omega)).trans ((up2_o (by omega)).trans (up2_o (by omega)))).trans (j2 j (by omega))
          · rw [gmem_f (by omega)]
            obtain ⟨k1, k2, k3⟩ := I3 x hx
            have hgx := gmem_le R (x : Int) c
            exact ⟨((up2_o (by omega)).trans ((up2_o (by omega)).trans (up2_o (by omega)))).trans k1, fun j hj => ((up2_o (by omega)).trans ((up2_o (by omega)).trans (up2_o (by omega)))).trans (k2 j hj), ((up2_o (by omega)).trans ((up2_o (by omega)).trans (up2_o (by omega)))).trans k3⟩
        · refine E_go (p' := 110) (L' := [some (aA 124), some (aI ((i : Nat) : Int)), some (aI ((c : Nat) : Int)), some (aI ((gn : Nat) : Int))]) (st' := [aI ((gn : Nat) : Int), aA 164]) rfl rfl rfl ?_
          refine E_s (p' := 111) (st' := aA 124 :: _) rfl rfl ?_
          refine E_s (p' := 112) (st' := aI ((i : Nat) : Int) :: _) rfl rfl ?_
          refine E_s (p' := 113) (st' := aI ((c : Nat) : Int) :: _) rfl rfl ?_
          refine E_callV (k' := 158) (a := 124) (r := [aI ((gn : Nat) : Int), aA 164]) (L0 := [some (aA 124), some (aI ((i : Nat) : Int)), some (aI ((c : Nat) : Int))]) rfl rfl rfl rfl rfl rfl rfl rfl rfl rfl ?_
          refine m_isSure hi (hMm.of (fun b j g1 g2 => ((up2_ne (by omega)).trans (up2_ne (by omega))))) hV (c := c) (by omega) (((up2_ne (by omega)).trans (up2_ne (by omega))).trans (I2 _ (by omega))) (fun hs1 hs2 => ?_) (fun hs0 => ?_)
          · refine E_go (p' := 116) (L' := [some (aA 124), some (aI ((i : Nat) : Int)), some (aI ((c : Nat) : Int)), some (aI ((gn : Nat) : Int))]) (st' := [aI 1, aI ((gn : Nat) : Int), aA 164]) rfl rfl rfl ?_
            refine E_s (p' := 119) rfl rfl ?_
            refine E_s (p' := 120) (st' := aI 1 :: _) rfl rfl ?_
            refine E_s (p' := 124) rfl rfl ?_
            refine E_zst (e := gn) (N := 12) rfl rfl (rfl) (by omega) (by decide) ?_
            refine E_inc (x := ((c : Nat) : Int)) (w := ((c + 1 : Nat) : Int)) (L' := [some (aA 124), some (aI ((i : Nat) : Int)), some (aI ((c + 1 : Nat) : Int)), some (aI ((gn : Nat) : Int))]) rfl rfl rfl (by omega) (by omega) rfl ?_
            refine E_s (p' := 39) rfl rfl ?_
            refine ih (c + 1) _ _ (by omega) (by omega) (fun b z g1 g2 g3 => ((up2_ne (by omega)).trans ((up2_ne (by omega)).trans (up2_ne (by omega)))).trans (I1 b z g1 g2 g3)) (fun d hd9 => ((up2_ne (by omega)).trans ((up2_ne (by omega)).trans (up2_ne (by omega)))).trans (I2 d hd9)) (fun x hx => ?_)
            by_cases g9 : x = gn
            · rw [g9, gmem_t eg]
              refine ⟨((up2_ne (by omega)).trans (up2_eq)).trans (by rw [List.length_append]; rfl), fun j hj => ?_, (up2_eq).trans (by rw [List.all_append]; rw [List.all_cons, List.all_nil, sdR_t hs1 hs2, show (gmem R (gn : Int) c).all (sdR R) = true by assumption]; rfl)⟩
              rw [List.length_append] at hj
              have hj : j < (gmem R (gn : Int) c).length + 1 := hj
              by_cases g8 : j = (gmem R (gn : Int) c).length
              · rw [g8, getD_app_r]; exact ((up2_ne (by omega)).trans ((up2_ne (by omega)).trans (up2_eq)))
              · rw [getD_app_l (by omega)]; exact ((up2_o (by omega)).trans ((up2_o (by omega)).trans (up2_o (by omega)))).trans (j2 j (by omega))
            · rw [gmem_f (by omega)]
              obtain ⟨k1, k2, k3⟩ := I3 x hx
              have hgx := gmem_le R (x : Int) c
              exact ⟨((up2_o (by omega)).trans ((up2_o (by omega)).trans (up2_o (by omega)))).trans k1, fun j hj => ((up2_o (by omega)).trans ((up2_o (by omega)).trans (up2_o (by omega)))).trans (k2 j hj), ((up2_o (by omega)).trans ((up2_o (by omega)).trans (up2_o (by omega)))).trans k3⟩
          · refine E_go (p' := 116) (L' := [some (aA 124), some (aI ((i : Nat) : Int)), some (aI ((c : Nat) : Int)), some (aI ((gn : Nat) : Int))]) (st' := [aI 0, aI ((gn : Nat) : Int), aA 164]) rfl rfl rfl ?_
            refine E_s (p' := 123) rfl rfl ?_
            refine E_s (p' := 124) (st' := aI 0 :: _) rfl rfl ?_
            refine E_zst (e := gn) (N := 12) rfl rfl (rfl) (by omega) (by decide) ?_
            refine E_inc (x := ((c : Nat) : Int)) (w := ((c + 1 : Nat) : Int)) (L' := [some (aA 124), some (aI ((i : Nat) : Int)), some (aI ((c + 1 : Nat) : Int)), some (aI ((gn : Nat) : Int))]) rfl rfl rfl (by omega) (by omega) rfl ?_
            refine E_s (p' := 39) rfl rfl ?_
            refine ih (c + 1) _ _ (by omega) (by omega) (fun b z g1 g2 g3 => ((up2_ne (by omega)).trans ((up2_ne (by omega)).trans (up2_ne (by omega)))).trans (I1 b z g1 g2 g3)) (fun d hd9 => ((up2_ne (by omega)).trans ((up2_ne (by omega)).trans (up2_ne (by omega)))).trans (I2 d hd9)) (fun x hx => ?_)
            by_cases g9 : x = gn
            · rw [g9, gmem_t eg]
              refine ⟨((up2_ne (by omega)).trans (up2_eq)).trans (by rw [List.length_append]; rfl), fun j hj => ?_, (up2_eq).trans (by rw [List.all_append]; rw [List.all_cons, List.all_nil, sdR_f hs0]; simp [bi])⟩
              rw [List.length_append] at hj
              have hj : j < (gmem R (gn : Int) c).length + 1 := hj
              by_cases g8 : j = (gmem R (gn : Int) c).length
              · rw [g8, getD_app_r]; exact ((up2_ne (by omega)).trans ((up2_ne (by omega)).trans (up2_eq)))
              · rw [getD_app_l (by omega)]; exact ((up2_o (by omega)).trans ((up2_o (by omega)).trans (up2_o (by omega)))).trans (j2 j (by omega))
            · rw [gmem_f (by omega)]
              obtain ⟨k1, k2, k3⟩ := I3 x hx
              have hgx := gmem_le R (x : Int) c
              exact ⟨((up2_o (by omega)).trans ((up2_o (by omega)).trans (up2_o (by omega)))).trans k1, fun j hj => ((up2_o (by omega)).trans ((up2_o (by omega)).trans (up2_o (by omega)))).trans (k2 j hj), ((up2_o (by omega)).trans ((up2_o (by omega)).trans (up2_o (by omega)))).trans k3⟩
      · refine E_go (p' := 66) (L' := [some (aA 124), some (aI ((i : Nat) : Int)), some (aI ((c : Nat) : Int)), some (aI ((Cg R c)))]) (st' := []) rfl rfl rfl ?_
        refine E_s (p' := 125) rfl rfl ?_
        refine E_inc (x := ((c : Nat) : Int)) (w := ((c + 1 : Nat) : Int)) (L' := [some (aA 124), some (aI ((i : Nat) : Int)), some (aI ((c + 1 : Nat) : Int)), some (aI ((Cg R c)))]) rfl rfl rfl (by omega) (by omega) rfl ?_
        refine E_s (p' := 39) rfl rfl ?_
        refine ih (c + 1) m _ (by omega) (by omega) I1 I2 (fun x hx => ?_)
        rw [gmem_f (by omega)]
        exact I3 x hx
theorem m_groups (hi : i < 4) (hM : MR R i m0) (hV : VR R) (q : ∀ m1 : Mm, FrG m0 m1 → (∀ d, d < Cn R → m1 148 d = Rtd R d) → GR R (Cn R) m1 → Q none (m1, tl len)) : E 177 0 [some (aA 124), some (aI ((i : Nat) : Int)), none, none] [] (m0, tl len) Q := by
  refine E_s (p' := 1) (st' := aA 124 :: _) rfl rfl ?_
  refine E_s (p' := 2) (st' := aI ((i : Nat) : Int) :: _) rfl rfl ?_
  refine E_s (p' := 3) (st' := aA 124 :: _) rfl rfl ?_
  refine E_gA (b := 148) rfl rfl rfl rfl rfl rfl ?_
  refine E_callV (k' := 157) (a := 124) (r := []) (L0 := [some (aA 124), some (aI ((i : Nat) : Int)), some (aA 148), none]) rfl rfl rfl rfl rfl rfl rfl rfl rfl rfl ?_
  refine m_readAll hi (Or.inl rfl) hM hV (fun m1 K1 K2 K3 => ?_)
  refine E_go (p' := 9) (L' := [some (aA 124), some (aI ((i : Nat) : Int)), none, none]) (st' := []) rfl rfl rfl ?_
  refine E_s (p' := 10) (st' := aI 0 :: _) rfl rfl ?_
  refine E_s (p' := 11) (L' := [some (aA 124), some (aI ((i : Nat) : Int)), some (aI 0), none]) rfl rfl ?_
  refine yl_gA (fun m2 a1 a2 => ?_) 13 0 m1 (by omega) (by omega) (fun b z _ => rfl) (fun x hx => absurd hx (by omega))
  refine E_s (p' := 38) (st' := aI 0 :: _) rfl rfl ?_
  refine E_s (p' := 39) (L' := [some (aA 124), some (aI ((i : Nat) : Int)), some (aI 0), none]) rfl rfl ?_
  exact yl_gB hi hM hV q (Cn R + 1) 0 m2 none (by omega) (by omega) (fun b z g1 g2 g3 => (a1 b z (by omega)).trans (K1 b z g1 (by omega) (by omega))) (fun d hd9 => (a1 _ _ (by omega)).trans (K3 d hd9)) (fun x hx => ⟨(a2 x hx).1, fun j hj => absurd hj (Nat.not_lt_zero _), (a2 x hx).2⟩)
end
section
variable {len : Nat} {m : Mm} {Q : Option AV → Sx → Prop} {S : Nat → RD} {R : RD} {i gn : Nat} {r g : Int}
theorem yl_pI (hi : i < 4) (hM : MR R i m) (hV : VR R) (hg : gn < 12) (hG : GR R (Cn R) m) {p : Nat} (hp : 1 ≤ p ∧ p ≤ glen R (gn : Int)) (hk : ∀ (b : Bool), (b = true → perB R (gn : Int) p = true) → (b = false → perB R (gn : Int) p = false) → E 180 129 [some (aA 124), some (aI (i : Int)), some (aI (gn : Int)), some (aI (glen R (gn : Int) : Int)), some (aI (p : Int)), some (aI (bi b)), some (aI (glen R (gn : Int) : Int))] [] (m, tl len) Q) : ∀ (d : Nat) (e : Nat) (b : Bool), (glen R (gn : Int) < e + d) → (p ≤ e ∧ e ≤ glen R (gn : Int)) → (b = true → ∀ j, p ≤ j → j < e → gcol R (gn : Int) j = gcol R (gn : Int) (j - p)) → (b = false → perB R (gn : Int) p = false) → E 180 55 [some (aA 124), some (aI ((i : Nat) : Int)), some (aI ((gn : Nat) : Int)), some (aI ((glen R (gn : Int) : Nat) : Int)), some (aI ((p : Nat) : Int)), some (aI (bi b)), some (aI ((e : Nat) : Int))] [] (m, tl len) Q := by
  intro d
  induction d with
  | zero => intro e b hd he I1 I2; omega
  | succ d ih =>
    intro e b hd he I1 I2
    have hn60 := hV.1
    have hgl : glen R (gn : Int) ≤ Cn R := gmem_le _ _ _
    have hgm : ∀ x, x < glen R (gn : Int) → (gmem R (gn : Int) (Cn R)).getD x 0 < Cn R := fun x hx => gmem_lt _ (gN_mem hx)
    refine E_s (p' := 57) (st' := aI ((e : Nat) : Int) :: _) rfl rfl ?_
    refine E_s (p' := 58) (st' := aI ((glen R (gn : Int) : Nat) : Int) :: _) rfl rfl ?_
    refine E_icmp_ge (x := ((e : Nat) : Int)) (y := ((glen R (gn : Int) : Nat) : Int)) rfl (by decide) (fun h_1 => ?_) (fun h_1 => ?_)
    · refine E_go (p' := 129) (L' := [some (aA 124), some (aI ((i : Nat) : Int)), some (aI ((gn : Nat) : Int)), some (aI ((glen R (gn : Int) : Nat) : Int)), some (aI ((p : Nat) : Int)), some (aI (bi b)), some (aI ((e : Nat) : Int))]) (st' := []) rfl rfl rfl ?_
      have e9 : e = glen R (gn : Int) := by omega
      subst e9
      exact hk b (fun h9 => perB_t (fun j h1 h2 => I1 h9 j h1 h2)) I2
    · refine E_go (p' := 61) (L' := [some (aA 124), some (aI ((i : Nat) : Int)), some (aI ((gn : Nat) : Int)), some (aI ((glen R (gn : Int) : Nat) : Int)), some (aI ((p : Nat) : Int)), some (aI (bi b)), some (aI ((e : Nat) : Int))]) (st' := []) rfl rfl rfl ?_
      refine E_s (p' := 63) (st' := aI (bi b) :: _) rfl rfl ?_
      refine E_b_eq0 (b := b) rfl (by decide) (fun h_2 => ?_) (fun h_2 => ?_)
      · refine E_go (p' := 120) (L' := [some (aA 124), some (aI ((i : Nat) : Int)), some (aI ((gn : Nat) : Int)), some (aI ((glen R (gn : Int) : Nat) : Int)), some (aI ((p : Nat) : Int)), some (aI (bi b)), some (aI ((e : Nat) : Int))]) (st' := []) rfl rfl rfl ?_
        refine E_s (p' := 121) (st' := aI 0 :: _) rfl rfl ?_
        refine E_s (p' := 123) (L' := [some (aA 124), some (aI ((i : Nat) : Int)), some (aI ((gn : Nat) : Int)), some (aI ((glen R (gn : Int) : Nat) : Int)), some (aI ((p : Nat) : Int)), some (aI 0), some (aI ((e : Nat) : Int))]) rfl rfl ?_
        refine E_inc (x := ((e : Nat) : Int)) (w := ((e + 1 : Nat) : Int)) (L' := [some (aA 124), some (aI ((i : Nat) : Int)), some (aI ((gn : Nat) : Int)), some (aI ((glen R (gn : Int) : Nat) : Int)), some (aI ((p : Nat) : Int)), some (aI 0), some (aI ((e + 1 : Nat) : Int))]) rfl rfl rfl (by omega) (by omega) rfl ?_
        refine E_s (p' := 55) rfl rfl ?_
        refine ih (e + 1) false (by omega) (by omega) (fun h9 => by cases h9) (fun _ => ?_)
        first
          | exact I2 (by assumption)
          | exact perB_f (i := e) (by omega) (by omega) (show Cc R _ ≠ Cc R _ by omega)
      · refine E_go (p' := 66) (L' := [some (aA 124), some (aI ((i : Nat) : Int)), some (aI ((gn : Nat) : Int)), some (aI ((glen R (gn : Int) : Nat) : Int)), some (aI ((p : Nat) : Int)), some (aI (bi b)), some (aI ((e : Nat) : Int))]) (st' := []) rfl rfl rfl ?_
        have hg1 := hgm e (by omega)
        have hg2 := hgm (e - p) (by omega)
        refine E_s (p' := 67) (st' := aA 124 :: _) rfl rfl ?_
        refine E_gA (b := 129) rfl rfl rfl rfl rfl rfl ?_
        refine E_s (p' := 72) (st' := aI 60 :: _) rfl rfl ?_
        refine E_s (p' := 73) (st' := aI ((i : Nat) : Int) :: _) rfl rfl ?_
        refine E_mul (v := ((60 * i : Nat) : Int)) rfl (by omega) (by omega) ?_
        refine E_s (p' := 75) (st' := aA 124 :: _) rfl rfl ?_
        refine E_gA (b := 162) rfl rfl rfl rfl rfl rfl ?_
        refine E_s (p' := 80) (st' := aI 60 :: _) rfl rfl ?_
        refine E_s (p' := 81) (st' := aI ((gn : Nat) : Int) :: _) rfl rfl ?_
        refine E_mul (v := ((60 * gn : Nat) : Int)) rfl (by omega) (by omega) ?_
        refine E_s (p' := 84) (st' := aI ((e : Nat) : Int) :: _) rfl rfl ?_
        refine E_add (v := ((60 * gn + e : Nat) : Int)) rfl (by omega) (by omega) ?_
        refine E_ald (e := 60 * gn + e) (N := 720) (v := (((gmem R (gn : Int) (Cn R)).getD e 0 : Nat) : Int)) rfl rfl (rfl) (by omega) ((hG gn hg).2.1 _ (by unfold glen at *; omega)) ?_
        refine E_add (v := ((60 * i + (gmem R (gn : Int) (Cn R)).getD e 0 : Nat) : Int)) rfl (by omega) (by omega) ?_
        refine E_ald (e := 60 * i + (gmem R (gn : Int) (Cn R)).getD e 0) (N := 240) (v := ((Cc R ((gmem R (gn : Int) (Cn R)).getD e 0) : Nat) : Int)) rfl rfl (rfl) (by omega) (MR_129 hM (hgm _ (by omega)) (by omega)) ?_
        refine E_s (p' := 89) (st' := aA 124 :: _) rfl rfl ?_
        refine E_gA (b := 129) rfl rfl rfl rfl rfl rfl ?_
        refine E_s (p' := 94) (st' := aI 60 :: _) rfl rfl ?_
        refine E_s (p' := 95) (st' := aI ((i : Nat) : Int) :: _) rfl rfl ?_
        refine E_mul (v := ((60 * i : Nat) : Int)) rfl (by omega) (by omega) ?_
        refine E_s (p' := 97) (st' := aA 124 :: _) rfl rfl ?_
        refine E_gA (b := 162) rfl rfl rfl rfl rfl rfl ?_
        refine E_s (p' := 102) (st' := aI 60 :: _) rfl rfl ?_
        refine E_s (p' := 103) (st' := aI ((gn : Nat) : Int) :: _) rfl rfl ?_
        refine E_mul (v := ((60 * gn : Nat) : Int)) rfl (by omega) (by omega) ?_
        refine E_s (p' := 106) (st' := aI ((e : Nat) : Int) :: _) rfl rfl ?_
        refine E_add (v := ((60 * gn + e : Nat) : Int)) rfl (by omega) (by omega) ?_
        refine E_s (p' := 109) (st' := aI ((p : Nat) : Int) :: _) rfl rfl ?_
        refine E_sub (v := (60 * (gn : Int) + (e : Int) - (p : Int))) rfl (by omega) (by omega) ?_
        refine E_ald (e := (60 * (gn : Int) + (e : Int) - (p : Int)).toNat) (N := 720) (v := (((gmem R (gn : Int) (Cn R)).getD (e - p) 0 : Nat) : Int)) rfl rfl (by omega) (by omega) (by rw [show (60 * (gn : Int) + (e : Int) - (p : Int)).toNat = 60 * gn + (e - p) by omega]; exact (hG gn hg).2.1 _ (by unfold glen at *; omega)) ?_
        refine E_add (v := ((60 * i + (gmem R (gn : Int) (Cn R)).getD (e - p) 0 : Nat) : Int)) rfl (by omega) (by omega) ?_
        refine E_ald (e := 60 * i + (gmem R (gn : Int) (Cn R)).getD (e - p) 0) (N := 240) (v := ((Cc R ((gmem R (gn : Int) (Cn R)).getD (e - p) 0) : Nat) : Int)) rfl rfl (rfl) (by omega) (MR_129 hM (hgm _ (by omega)) (by omega)) ?_
        refine E_icmp_ne (x := ((Cc R ((gmem R (gn : Int) (Cn R)).getD e 0) : Nat) : Int)) (y := ((Cc R ((gmem R (gn : Int) (Cn R)).getD (e - p) 0) : Nat) : Int)) rfl (by decide) (fun h_3 => ?_) (fun h_3 => ?_)
        · refine E_go (p' := 120) (L' := [some (aA 124), some (aI ((i : Nat) : Int)), some (aI ((gn : Nat) : Int)), some (aI ((glen R (gn : Int) : Nat) : Int)), some (aI ((p : Nat) : Int)), some (aI (bi b)), some (aI ((e : Nat) : Int))]) (st' := []) rfl rfl rfl ?_
          refine E_s (p' := 121) (st' := aI 0 :: _) rfl rfl ?_
          refine E_s (p' := 123) (L' := [some (aA 124), some (aI ((i : Nat) : Int)), some (aI ((gn : Nat) : Int)), some (aI ((glen R (gn : Int) : Nat) : Int)), some (aI ((p : Nat) : Int)), some (aI 0), some (aI ((e : Nat) : Int))]) rfl rfl ?_
          refine E_inc (x := ((e : Nat) : Int)) (w := ((e + 1 : Nat) : Int)) (L' := [some (aA 124), some (aI ((i : Nat) : Int)), some (aI ((gn : Nat) : Int)), some (aI ((glen R (gn : Int) : Nat) : Int)), some (aI ((p : Nat) : Int)), some (aI 0), some (aI ((e + 1 : Nat) : Int))]) rfl rfl rfl (by omega) (by omega) rfl ?_
          refine E_s (p' := 55) rfl rfl ?_
          refine ih (e + 1) false (by omega) (by omega) (fun h9 => by cases h9) (fun _ => ?_)
          first
            | exact I2 (by assumption)
            | exact perB_f (i := e) (by omega) (by omega) (show Cc R _ ≠ Cc R _ by omega)
        · refine E_go (p' := 116) (L' := [some (aA 124), some (aI ((i : Nat) : Int)), some (aI ((gn : Nat) : Int)), some (aI ((glen R (gn : Int) : Nat) : Int)), some (aI ((p : Nat) : Int)), some (aI (bi b)), some (aI ((e : Nat) : Int))]) (st' := []) rfl rfl rfl ?_
          refine E_s (p' := 117) (st' := aI 1 :: _) rfl rfl ?_
          refine E_s (p' := 121) rfl rfl ?_
          refine E_s (p' := 123) (L' := [some (aA 124), some (aI ((i : Nat) : Int)), some (aI ((gn : Nat) : Int)), some (aI ((glen R (gn : Int) : Nat) : Int)), some (aI ((p : Nat) : Int)), some (aI 1), some (aI ((e : Nat) : Int))]) rfl rfl ?_
          refine E_inc (x := ((e : Nat) : Int)) (w := ((e + 1 : Nat) : Int)) (L' := [some (aA 124), some (aI ((i : Nat) : Int)), some (aI ((gn : Nat) : Int)), some (aI ((glen R (gn : Int) : Nat) : Int)), some (aI ((p : Nat) : Int)), some (aI 1), some (aI ((e + 1 : Nat) : Int))]) rfl rfl rfl (by omega) (by omega) rfl ?_
          refine E_s (p' := 55) rfl rfl ?_
          refine ih (e + 1) true (by omega) (by omega) (fun _ j h1 h2 => ?_) (fun h9 => by cases h9)
          by_cases g9 : j = e
          · subst g9; show Cc R _ = Cc R _; omega
          · exact I1 (by assumption) j h1 (by omega)
theorem yl_pO (hi : i < 4) (hM : MR R i m) (hV : VR R) (hg : gn < 12) (hG : GR R (Cn R) m) (q : ∀ p, 1 ≤ p → p ≤ glen R (gn : Int) → (∀ j, 1 ≤ j → j < p → perB R (gn : Int) j = false) → perB R (gn : Int) p = true → Q (some (aI (p : Int))) (m, tl len)) (hn1 : glen R (gn : Int) ≠ 0) : ∀ (d : Nat) (p : Nat) (x6 : Option AV), (glen R (gn : Int) < p + d) → (1 ≤ p ∧ p ≤ glen R (gn : Int)) → (∀ j, 1 ≤ j → j < p → perB R (gn : Int) j = false) → E 180 43 [some (aA 124), some (aI ((i : Nat) : Int)), some (aI ((gn : Nat) : Int)), some (aI ((glen R (gn : Int) : Nat) : Int)), some (aI ((p : Nat) : Int)), some (aI 0), x6] [] (m, tl len) Q := by
  intro d
  induction d with
  | zero => intro p x6 hd hp I1; omega
  | succ d ih =>
    intro p x6 hd hp I1
    have hn60 := hV.1
    have hgl : glen R (gn : Int) ≤ Cn R := gmem_le _ _ _
    have hgm : ∀ x, x < glen R (gn : Int) → (gmem R (gn : Int) (Cn R)).getD x 0 < Cn R := fun x hx => gmem_lt _ (gN_mem hx)
    refine E_s (p' := 45) (st' := aI 0 :: _) rfl rfl ?_
    refine E_s (p' := 48) rfl rfl ?_
    refine E_s (p' := 49) (st' := aI 1 :: _) rfl rfl ?_
    refine E_s (p' := 51) (L' := [some (aA 124), some (aI ((i : Nat) : Int)), some (aI ((gn : Nat) : Int)), some (aI ((glen R (gn : Int) : Nat) : Int)), some (aI ((p : Nat) : Int)), some (aI 1), x6]) rfl rfl ?_
    refine E_s (p' := 53) (st' := aI ((p : Nat) : Int) :: _) rfl rfl ?_
    refine E_s (p' := 55) (L' := [some (aA 124), some (aI ((i : Nat) : Int)), some (aI ((gn : Nat) : Int)), some (aI ((glen R (gn : Int) : Nat) : Int)), some (aI ((p : Nat) : Int)), some (aI 1), some (aI ((p : Nat) : Int))]) rfl rfl ?_
    refine yl_pI hi hM hV hg hG (by omega) (fun b hb1 hb0 => ?_) (glen R (gn : Int) + 1) p true (by omega) (by omega) (fun _ j h1 h2 => absurd h1 (by omega)) (fun h9 => by cases h9)
    cases b
    · have hbf := hb0 rfl
      have hpl : p < glen R (gn : Int) := by
        rcases Nat.lt_or_ge p (glen R (gn : Int)) with g9 | g9
        · exact g9
        · rw [perB_t (fun j h1 h2 => absurd h1 (by omega))] at hbf; cases hbf
      refine E_s (p' := 131) (st' := aI 0 :: _) rfl rfl ?_
      refine E_s (p' := 134) rfl rfl ?_
      refine E_inc (x := ((p : Nat) : Int)) (w := ((p + 1 : Nat) : Int)) (L' := [some (aA 124), some (aI ((i : Nat) : Int)), some (aI ((gn : Nat) : Int)), some (aI ((glen R (gn : Int) : Nat) : Int)), some (aI ((p + 1 : Nat) : Int)), some (aI 0), some (aI ((glen R (gn : Int) : Nat) : Int))]) rfl rfl rfl (by omega) (by omega) rfl ?_
      refine E_s (p' := 43) rfl rfl ?_
      exact ih (p + 1) _ (by omega) (by omega) (fun j h1 h2 => by by_cases g9 : j = p; rw [g9]; exact hbf; exact I1 j h1 (by omega))
    · have hbt := hb1 rfl
      refine E_s (p' := 131) (st' := aI 1 :: _) rfl rfl ?_
      refine E_s (p' := 43) rfl rfl ?_
      refine E_s (p' := 45) (st' := aI 1 :: _) rfl rfl ?_
      refine E_s (p' := 140) rfl rfl ?_
      refine E_s (p' := 142) (st' := aI ((p : Nat) : Int) :: _) rfl rfl ?_
      refine E_ret rfl rfl ?_
      exact q p (by omega) (by omega) I1 hbt
theorem M_period (hS : MS S m) (q : ∀ m1, MS S m1 → Co1 m m1 → Q (some (aI (qy S r (-1) (aPeriod g)))) (m1, tl len)) : E 180 0 [some (aA 124), some (aI (r)), some (aI (g)), none, none, none, none] [] (m, tl len) Q := by
  refine E_s (p' := 1) (st' := aI (r) :: _) rfl rfl ?_
  refine E_callL (p' := 4) (L0 := [some (aI (r))]) rfl rfl rfl ?_
  refine m_isRecord (fun i hi hr => ?_) (fun hr => ?_)
  · refine E_go (p' := 4) (L' := [some (aA 124), some (aI (r)), some (aI (g)), none, none, none, none]) (st' := [aI 1]) rfl rfl rfl ?_
    obtain ⟨hV, hM⟩ := hS i hi
    have hn60 := hV.1
    have hs40 := hV.2.2.2.2.1
    subst hr
    refine E_s (p' := 7) rfl rfl ?_
    refine E_s (p' := 8) (st' := aI (g) :: _) rfl rfl ?_
    refine E_s (p' := 9) (st' := aI 0 :: _) rfl rfl ?_
    refine E_s (p' := 11) (st' := aI 11 :: _) rfl rfl ?_
    refine E_callL (p' := 14) (L0 := [some (aI (g)), some (aI 0), some (aI 11)]) rfl rfl rfl ?_
    refine m_in (fun h_1 h_2 => ?_) (fun h_3 => ?_)
    · refine E_go (p' := 14) (L' := [some (aA 124), some (aI ((i : Nat) : Int)), some (aI (g)), none, none, none, none]) (st' := [aI 1]) rfl rfl rfl ?_
      refine E_s (p' := 19) rfl rfl ?_
      obtain ⟨gn, eg⟩ : ∃ x : Nat, g = (x : Int) := ⟨g.toNat, by omega⟩
      subst eg
      refine E_s (p' := 20) (st' := aA 124 :: _) rfl rfl ?_
      refine E_s (p' := 21) (st' := aI ((i : Nat) : Int) :: _) rfl rfl ?_
      refine E_callV (k' := 177) (a := 124) (r := []) (L0 := [some (aA 124), some (aI ((i : Nat) : Int)), none, none]) rfl rfl rfl rfl rfl rfl rfl rfl rfl rfl ?_
      refine m_groups hi hM hV (fun m1 K1 K2 K3 => ?_)
      refine E_go (p' := 24) (L' := [some (aA 124), some (aI ((i : Nat) : Int)), some (aI ((gn : Nat) : Int)), none, none, none, none]) (st' := []) rfl rfl rfl ?_
      have hS1 := K1.MS hS
      have hC1 := K1.Co1
      have hM1 := (hS1 i hi).2
      refine E_s (p' := 25) (st' := aA 124 :: _) rfl rfl ?_
      refine E_gA (b := 163) rfl rfl rfl rfl rfl rfl ?_
      refine E_s (p' := 29) (st' := aI ((gn : Nat) : Int) :: _) rfl rfl ?_
      refine E_ald (e := gn) (N := 12) (v := ((glen (S i) (gn : Int) : Nat) : Int)) rfl rfl (rfl) (by omega) (K3 gn (by omega)).1 ?_
      refine E_s (p' := 31) (L' := [some (aA 124), some (aI ((i : Nat) : Int)), some (aI ((gn : Nat) : Int)), some (aI ((glen (S i) (gn : Int) : Nat) : Int)), none, none, none]) rfl rfl ?_
      refine E_s (p' := 32) (st' := aI ((glen (S i) (gn : Int) : Nat) : Int) :: _) rfl rfl ?_
      refine E_if_ne (x := ((glen (S i) (gn : Int) : Nat) : Int)) rfl (by decide) (fun h_4 => ?_) (fun h_4 => ?_)
      · refine E_go (p' := 37) (L' := [some (aA 124), some (aI ((i : Nat) : Int)), some (aI ((gn : Nat) : Int)), some (aI ((glen (S i) (gn : Int) : Nat) : Int)), none, none, none]) (st' := []) rfl rfl rfl ?_
        refine E_s (p' := 38) (st' := aI 1 :: _) rfl rfl ?_
        refine E_s (p' := 40) (L' := [some (aA 124), some (aI ((i : Nat) : Int)), some (aI ((gn : Nat) : Int)), some (aI ((glen (S i) (gn : Int) : Nat) : Int)), some (aI 1), none, none]) rfl rfl ?_
        refine E_s (p' := 41) (st' := aI 0 :: _) rfl rfl ?_
        refine E_s (p' := 43) (L' := [some (aA 124), some (aI ((i : Nat) : Int)), some (aI ((gn : Nat) : Int)), some (aI ((glen (S i) (gn : Int) : Nat) : Int)), some (aI 1), some (aI 0), none]) rfl rfl ?_
        exact yl_pO hi hM1 hV (by omega) K3 (fun p h1 h2 h3 h4 => mq_in hS1 hi rfl q (by unfold aPeriod; rw [cif_pos ⟨by omega, by omega⟩, fstP_u h1 (by omega) h3 (fun _ => h4)]) hC1) (by omega) (glen (S i) (gn : Int) + 1) 1 none (by omega) (by omega) (fun j h1 h2 => absurd h1 (by omega))
      · refine E_go (p' := 35) (L' := [some (aA 124), some (aI ((i : Nat) : Int)), some (aI ((gn : Nat) : Int)), some (aI ((glen (S i) (gn : Int) : Nat) : Int)), none, none, none]) (st' := []) rfl rfl rfl ?_
        refine E_s (p' := 36) (st' := aI (-1) :: _) rfl rfl ?_
        refine E_ret rfl rfl ?_
        exact mq_in hS1 hi rfl q (by unfold aPeriod; rw [cif_neg (by omega)]) hC1
    · refine E_go (p' := 14) (L' := [some (aA 124), some (aI ((i : Nat) : Int)), some (aI (g)), none, none, none, none]) (st' := [aI 0]) rfl rfl rfl ?_
      refine E_s (p' := 17) rfl rfl ?_
      refine E_s (p' := 18) (st' := aI (-1) :: _) rfl rfl ?_
      refine E_ret rfl rfl ?_
      exact mq_in hS hi rfl q (by unfold aPeriod; rw [cif_neg (by omega)]) Co1.rf
  · refine E_go (p' := 4) (L' := [some (aA 124), some (aI (r)), some (aI (g)), none, none, none, none]) (st' := [aI 0]) rfl rfl rfl ?_
    refine E_s (p' := 17) rfl rfl ?_
    refine E_s (p' := 18) (st' := aI (-1) :: _) rfl rfl ?_
    refine E_ret rfl rfl ?_
    exact mq_out hS q hr
end

/-! likeness -/
def alk (R O : RD) (x y : Nat) : Bool := sdR R x && (sdR O y && (decide (Rvl R x = Rvl O y) && decide (Cc R x = Cc O y)))
def lkS (al : Nat → Bool) (old : Nat → Nat) : Nat → Nat
  | 0 => 0
  | j + 1 => bif al j then old j + 1 else max (old (j + 1)) (lkS al old j)
def lkR (R O : RD) : Nat → Nat → Nat
  | 0 => fun _ => 0
  | x + 1 => lkS (alk R O x) (lkR R O x)
theorem lkS_u {al : Nat → Bool} {old : Nat → Nat} (hm : ∀ j, old j ≤ old (j + 1)) : ∀ j, lkS al old j ≤ old j + 1 := by
  intro j
  induction j with
  | zero => exact Nat.zero_le _
  | succ j ih =>
    have := hm j
    show (bif al j then old j + 1 else max (old (j + 1)) (lkS al old j)) ≤ _
    cases al j
    · show max _ _ ≤ _; omega
    · show old j + 1 ≤ _; omega
theorem lkS_m {al : Nat → Bool} {old : Nat → Nat} (hm : ∀ j, old j ≤ old (j + 1)) : ∀ j, lkS al old j ≤ lkS al old (j + 1) := by
  intro j
  have := lkS_u (al := al) hm j
  show _ ≤ (bif al j then old j + 1 else max (old (j + 1)) (lkS al old j))
  cases al j
  · show _ ≤ max _ _; omega
  · show _ ≤ old j + 1; omega
theorem lkR_m (R O : RD) : ∀ x j, lkR R O x j ≤ lkR R O x (j + 1) := by
  intro x
  induction x with
  | zero => intro j; exact Nat.le_refl _
  | succ x ih => exact lkS_m ih
theorem lkR_b (R O : RD) : ∀ x j, lkR R O x j ≤ j := by
  intro x
  induction x with
  | zero => intro j; exact Nat.zero_le _
  | succ x ih =>
    intro j
    induction j with
    | zero => exact Nat.le_refl _
    | succ j ihj =>
      have h1 := ih j
      have h2 := ih (j + 1)
      have h3 : lkS (alk R O x) (lkR R O x) j ≤ j := ihj
      show (bif alk R O x j then lkR R O x j + 1 else max (lkR R O x (j + 1)) (lkS (alk R O x) (lkR R O x) j)) ≤ _
      cases alk R O x j
      · show max _ _ ≤ _; omega
      · show lkR R O x j + 1 ≤ _; omega
theorem lkR_z (R O : RD) (x : Nat) : lkR R O x 0 = 0 := Nat.le_zero.mp (lkR_b R O x 0)
/-- a CORD that is not sound leaves the row as it is -/
theorem lkR_s {R O : RD} {x : Nat} (h : sdR R x = false) : lkR R O (x + 1) = lkR R O x := by
  funext j
  induction j with
  | zero => rw [lkR_z, lkR_z]
  | succ j ih =>
    have hm := lkR_m R O x j
    have ih' : lkS (alk R O x) (lkR R O x) j = lkR R O x j := ih
    show (bif alk R O x j then lkR R O x j + 1 else max (lkR R O x (j + 1)) (lkS (alk R O x) (lkR R O x) j)) = _
    have ha : alk R O x j = false := by unfold alk; rw [h]; rfl
    rw [ha, ih']
    show max _ _ = _
    omega
def spLike (S : Nat → RD) (r o v : Int) : Prop := (∃ i k : Nat, i < 4 ∧ k < 4 ∧ r = i ∧ o = k ∧ v = (lkR (S i) (S k) (Cn (S i)) (Cn (S k)) : Int)) ∨ (((r < 0 ∨ 3 < r) ∨ (o < 0 ∨ 3 < o)) ∧ v = -2)
section
variable {len : Nat} {m : Mm} {Q : Option AV → Sx → Prop} {R O : RD} {a b c : Nat} {S : Nat → RD} {r o : Int}
theorem c_readNow2 (hR : isR a) (h : CS1 R a m) (q : ∀ m1 : Mm, CS1 R a m1 → RdC R a m1 → m1 a 7 = 1 → Fx a (a + 25) m m1 → Q (some (aA (a + 15))) (m1, tl len)) : E 35 0 [some (aA a)] [] (m, tl len) Q := by
  obtain ⟨hV, hC, hrd⟩ := id h
  have hab := isR_b hR
  refine E_s (p' := 1) (st' := aA a :: _) rfl rfl ?_
  refine E_gI (v := ((m a 7))) rfl rfl rfl (kR_0 hR) rfl ?_
  refine E_if_ne (x := ((m a 7))) rfl (by decide) (fun h_1 => ?_) (fun h_1 => ?_)
  · refine E_go (p' := 27) (L' := [some (aA a)]) (st' := []) rfl rfl rfl ?_
    refine E_s (p' := 28) (st' := aA a :: _) rfl rfl ?_
    refine E_gA (b := a + 15) rfl rfl rfl (kR_0 hR) (hR_0_4 hR) rfl ?_
    refine E_ret rfl rfl ?_
    rcases hrd with g | ⟨g, g2⟩
    · omega
    · exact q m h g2 g Fx.rf
  · refine E_go (p' := 7) (L' := [some (aA a)]) (st' := []) rfl rfl rfl ?_
    refine E_s (p' := 8) (st' := aA a :: _) rfl rfl ?_
    refine E_gA (b := a + 15) rfl rfl rfl (kR_0 hR) (hR_0_4 hR) rfl ?_
    refine E_s (p' := 12) (st' := aA a :: _) rfl rfl ?_
    refine E_gA (b := a + 1) rfl rfl rfl (kR_0 hR) (hR_0_0 hR) rfl ?_
    refine E_s (p' := 16) (st' := aA a :: _) rfl rfl ?_
    refine E_gI (v := ((Cq R : Nat) : Int)) rfl rfl rfl (kR_0 hR) hC.2.1 ?_
    refine E_callV (k' := 36) (a := a + 15) (r := []) (L0 := [some (aA (a + 15)), some (aA (a + 1)), some (aI ((Cq R : Nat) : Int)), none]) rfl rfl rfl rfl rfl (kR_15 hR) rfl rfl rfl rfl ?_
    refine c_read hR hC hV (fun m1 F1 D1 => ?_)
    refine E_go (p' := 22) (L' := [some (aA a)]) (st' := []) rfl rfl rfl ?_
    refine E_s (p' := 23) (st' := aA a :: _) rfl rfl ?_
    refine E_s (p' := 24) (st' := aI 1 :: _) rfl rfl ?_
    refine E_pI rfl rfl rfl (kR_0 hR) (Or.inr (by decide)) ?_
    refine E_s (p' := 28) (st' := aA a :: _) rfl rfl ?_
    refine E_gA (b := a + 15) rfl rfl rfl (kR_0 hR) (hR_0_4 hR) rfl ?_
    refine E_ret rfl rfl ?_
    exact q _ ⟨hV, hC.of (fun b j g1 g2 g3 => (up2_o (by omega)).trans (F1 b j (by omega))), Or.inr ⟨up2_eq, D1.of (fun b j g1 g2 => up2_ne (by omega))⟩⟩ (D1.of (fun b j g1 g2 => up2_ne (by omega))) up2_eq (fun b j hb => (up2_ne (by omega)).trans (F1 b j (by omega)))
theorem c_readOf2 (hS : CS S m) (q1 : ∀ (i a : Nat) (m1 : Mm), i < 4 → r = i → a = tgA i → isR a → CS S m1 → m1 a 7 = 1 → (∀ k, k < 4 → m (tgA k) 7 = 1 → m1 (tgA k) 7 = 1) → Mo m m1 → Q (some (aA a)) (m1, tl len)) (q0 : (r < 0 ∨ 3 < r) → Q (some aN) (m, tl len)) : E 34 0 [some (aA 1), some (aI (r)), none] [] (m, tl len) Q := by
  refine E_s (p' := 1) (st' := aA 1 :: _) rfl rfl ?_
  refine E_s (p' := 2) (st' := aI (r) :: _) rfl rfl ?_
  refine E_callV (k' := 12) (a := 1) (r := []) (L0 := [some (aA 1), some (aI (r))]) rfl rfl rfl rfl rfl rfl rfl rfl rfl rfl ?_
  refine c_recordOf' (fun i a hi hr ha hR => ?_) (fun hr => ?_)
  · refine E_go (p' := 5) (L' := [some (aA 1), some (aI (r)), none]) (st' := [aA a]) rfl rfl rfl ?_
    refine E_s (p' := 6) (L' := [some (aA 1), some (aI (r)), some (aA a)]) rfl rfl ?_
    refine E_s (p' := 7) (st' := aA a :: _) rfl rfl ?_
    refine E_s (p' := 10) rfl rfl ?_
    refine E_s (p' := 11) (st' := aA a :: _) rfl rfl ?_
    refine E_callV (k' := 35) (a := a) (r := []) (L0 := [some (aA a)]) rfl rfl rfl rfl rfl (kR_0 hR) rfl rfl rfl rfl ?_
    refine c_readNow2 hR (ha ▸ hS i hi) (fun m1 h1 hd1 h7 hF1 => ?_)
    refine E_go (p' := 14) (L' := [some (aA 1), some (aI (r)), some (aA a)]) (st' := [aA (a + 15)]) rfl rfl rfl ?_
    refine E_s (p' := 15) rfl rfl ?_
    refine E_s (p' := 16) (st' := aA a :: _) rfl rfl ?_
    refine E_ret rfl rfl ?_
    have hab := isR_b hR
    have e9 : upf S i (S i) = S := upf_self
    refine q1 i a m1 hi hr ha hR (e9 ▸ hS.set hi ha h1 (fun b j hb => hF1 b j (by omega))) h7 (fun k hk h9 => ?_) (fun b j hb => hF1 b j (by omega))
    by_cases g9 : k = i
    · rw [g9, ← ha]; exact h7
    · rw [hF1 _ _ (by rw [ha]; unfold tgA; omega)]; exact h9
  · refine E_go (p' := 5) (L' := [some (aA 1), some (aI (r)), none]) (st' := [aN]) rfl rfl rfl ?_
    refine E_s (p' := 6) (L' := [some (aA 1), some (aI (r)), some (aN)]) rfl rfl ?_
    refine E_s (p' := 7) (st' := aN :: _) rfl rfl ?_
    refine E_s (p' := 15) rfl rfl ?_
    refine E_s (p' := 16) (st' := aN :: _) rfl rfl ?_
    refine E_ret rfl rfl ?_
    exact q0 hr
theorem c_alike (hR : isR a) (hRb : isR b) (hC : CR R a m) (hCb : CR O b m) (hn : Cn R ≤ 60) (hnb : Cn O ≤ 60) (hda : RdC R a m) (hdb : RdC O b m) {d : Nat} (hc : c < Cn R) (hd : d < Cn O) (hsd : sdR R c = true) (q : Q (some (aI (bi (alk R O c d)))) (m, tl len)) : E 121 0 [some (aA a), some (aI ((c : Nat) : Int)), some (aA b), some (aI ((d : Nat) : Int))] [] (m, tl len) Q := by
  refine E_s (p' := 1) (st' := aA a :: _) rfl rfl ?_
  refine E_gA (b := a + 1) rfl rfl rfl (kR_0 hR) (hR_0_0 hR) rfl ?_
  refine E_gA (b := a + 4) rfl rfl rfl (kR_1 hR) (hR_1_2 hR) rfl ?_
  refine E_s (p' := 8) (st' := aI ((c : Nat) : Int) :: _) rfl rfl ?_
  refine E_ald (e := c) (N := 60) (v := ((Cc R c : Nat) : Int)) rfl (kR_4 hR) (rfl) (by omega) (CR_4 hC (by omega)) ?_
  refine E_s (p' := 10) (st' := aA b :: _) rfl rfl ?_
  refine E_gA (b := b + 1) rfl rfl rfl (kR_0 hRb) (hR_0_0 hRb) rfl ?_
  refine E_gA (b := b + 4) rfl rfl rfl (kR_1 hRb) (hR_1_2 hRb) rfl ?_
  refine E_s (p' := 17) (st' := aI ((d : Nat) : Int) :: _) rfl rfl ?_
  refine E_ald (e := d) (N := 60) (v := ((Cc O d : Nat) : Int)) rfl (kR_4 hRb) (rfl) (by omega) (CR_4 hCb (by omega)) ?_
  refine E_icmp_ne (x := ((Cc R c : Nat) : Int)) (y := ((Cc O d : Nat) : Int)) rfl (by decide) (fun h_1 => ?_) (fun h_1 => ?_)
  · refine E_go (p' := 54) (L' := [some (aA a), some (aI ((c : Nat) : Int)), some (aA b), some (aI ((d : Nat) : Int))]) (st' := []) rfl rfl rfl ?_
    refine E_s (p' := 55) (st' := aI 0 :: _) rfl rfl ?_
    refine E_ret rfl rfl ?_
    rw [show alk R O c d = false by unfold alk; rw [hsd]; first   | (rw [decide_eq_false (p := Cc R c = Cc O d) (by omega)]; simp)   | (rw [sdR_f hs0]; rfl)   | (rw [decide_eq_false (p := Rvl R c = Rvl O d) (by omega)]; simp)] at q
    exact q
  · refine E_go (p' := 21) (L' := [some (aA a), some (aI ((c : Nat) : Int)), some (aA b), some (aI ((d : Nat) : Int))]) (st' := []) rfl rfl rfl ?_
    refine E_s (p' := 22) (st' := aA b :: _) rfl rfl ?_
    refine E_s (p' := 23) (st' := aI ((d : Nat) : Int) :: _) rfl rfl ?_
    refine E_callV (k' := 74) (a := b) (r := []) (L0 := [some (aA b), some (aI ((d : Nat) : Int))]) rfl rfl rfl rfl rfl (kR_0 hRb) rfl rfl rfl rfl ?_
    refine c_isSound hRb hnb hCb hdb hd (fun hs1 hs2 => ?_) (fun hs0 => ?_)
    · refine E_go (p' := 26) (L' := [some (aA a), some (aI ((c : Nat) : Int)), some (aA b), some (aI ((d : Nat) : Int))]) (st' := [aI 1]) rfl rfl rfl ?_
      refine E_s (p' := 29) rfl rfl ?_
      refine E_s (p' := 30) (st' := aA a :: _) rfl rfl ?_
      refine E_gA (b := a + 15) rfl rfl rfl (kR_0 hR) (hR_0_4 hR) rfl ?_
      refine E_gA (b := a + 22) rfl rfl rfl (kR_15 hR) (hR_15_6 hR) rfl ?_
      refine E_s (p' := 37) (st' := aI ((c : Nat) : Int) :: _) rfl rfl ?_
      refine E_ald (e := c) (N := 60) (v := ((Rvl R c : Nat) : Int)) rfl (kR_22 hR) (rfl) (by omega) (hda.2.2.2 _ (by omega)).2.2.1 ?_
      refine E_s (p' := 39) (st' := aA b :: _) rfl rfl ?_
      refine E_gA (b := b + 15) rfl rfl rfl (kR_0 hRb) (hR_0_4 hRb) rfl ?_
      refine E_gA (b := b + 22) rfl rfl rfl (kR_15 hRb) (hR_15_6 hRb) rfl ?_
      refine E_s (p' := 46) (st' := aI ((d : Nat) : Int) :: _) rfl rfl ?_
      refine E_ald (e := d) (N := 60) (v := ((Rvl O d : Nat) : Int)) rfl (kR_22 hRb) (rfl) (by omega) (hdb.2.2.2 _ (by omega)).2.2.1 ?_
      refine E_icmp_ne (x := ((Rvl R c : Nat) : Int)) (y := ((Rvl O d : Nat) : Int)) rfl (by decide) (fun h_2 => ?_) (fun h_2 => ?_)
      · refine E_go (p' := 54) (L' := [some (aA a), some (aI ((c : Nat) : Int)), some (aA b), some (aI ((d : Nat) : Int))]) (st' := []) rfl rfl rfl ?_
        refine E_s (p' := 55) (st' := aI 0 :: _) rfl rfl ?_
        refine E_ret rfl rfl ?_
        rw [show alk R O c d = false by unfold alk; rw [hsd]; first   | (rw [decide_eq_false (p := Cc R c = Cc O d) (by omega)]; simp)   | (rw [sdR_f hs0]; rfl)   | (rw [decide_eq_false (p := Rvl R c = Rvl O d) (by omega)]; simp)] at q
        exact q
      · refine E_go (p' := 50) (L' := [some (aA a), some (aI ((c : Nat) : Int)), some (aA b), some (aI ((d : Nat) : Int))]) (st' := []) rfl rfl rfl ?_
        refine E_s (p' := 51) (st' := aI 1 :: _) rfl rfl ?_
        refine E_s (p' := 55) rfl rfl ?_
        refine E_ret rfl rfl ?_
        rw [show alk R O c d = true by unfold alk; rw [hsd]; rw [sdR_t hs1 hs2, decide_eq_true (by omega), decide_eq_true (by omega)]; rfl] at q
        exact q
    · refine E_go (p' := 26) (L' := [some (aA a), some (aI ((c : Nat) : Int)), some (aA b), some (aI ((d : Nat) : Int))]) (st' := [aI 0]) rfl rfl rfl ?_
      refine E_s (p' := 54) rfl rfl ?_
      refine E_s (p' := 55) (st' := aI 0 :: _) rfl rfl ?_
      refine E_ret rfl rfl ?_
      rw [show alk R O c d = false by unfold alk; rw [hsd]; first   | (rw [decide_eq_false (p := Cc R c = Cc O d) (by omega)]; simp)   | (rw [sdR_f hs0]; rfl)   | (rw [decide_eq_false (p := Rvl R c = Rvl O d) (by omega)]; simp)] at q
      exact q
end
section
variable {len : Nat} {m0 : Mm} {Q : Option AV → Sx → Prop} {R O : RD} {a b c : Nat} {S : Nat → RD} {r o : Int}
theorem yl_gl (hR : isR a) (hRb : isR b) (hC : CR R a m0) (hCb : CR O b m0) (hn : Cn R ≤ 60) (hnb : Cn O ≤ 60) (hda : RdC R a m0) (hdb : RdC O b m0) (hc : c < Cn R) (hsd : sdR R c = true) (q : ∀ m1 : Mm, Fx 19 19 m0 m1 → (∀ j, j ≤ Cn O → m1 19 j = (lkR R O (c + 1) j : Int)) → Q none (m1, tl len)) : ∀ (d : Nat) (jp : Nat) (m : Mm) (x6 : Option AV), (Cn O < jp + d) → (jp ≤ Cn O) → (Fx 19 19 m0 m) → (∀ t, t ≤ jp → m 19 t = (lkR R O (c + 1) t : Int)) → (∀ t, jp < t → t ≤ Cn O → m 19 t = (lkR R O c t : Int)) → E 120 6 [some (aA 1), some (aA a), some (aI ((c : Nat) : Int)), some (aA b), some (aI ((lkR R O c jp : Nat) : Int)), some (aI ((jp + 1 : Nat) : Int)), x6] [] (m, tl len) Q := by
  intro d
  induction d with
  | zero => intro jp m x6 hd hj I1 J1 J2; omega
  | succ d ih =>
    intro jp m x6 hd hj I1 J1 J2
    have hab := isR_b hR
    have hbb := isR_b hRb
    have hCm : CR R a m := hC.of (fun b j g1 g2 _ => I1 b j (by omega))
    have hCbm : CR O b m := hCb.of (fun b j g1 g2 _ => I1 b j (by omega))
    have hdam : RdC R a m := hda.of (fun b j g1 g2 => I1 b j (by omega))
    have hdbm : RdC O b m := hdb.of (fun b j g1 g2 => I1 b j (by omega))
    have hb1 := lkR_b R O c jp
    have hb2 := lkR_b R O c (jp + 1)
    have hb3 := lkR_b R O (c + 1) jp
    refine E_s (p' := 8) (st' := aI ((jp + 1 : Nat) : Int) :: _) rfl rfl ?_
    refine E_s (p' := 9) (st' := aA b :: _) rfl rfl ?_
    refine E_gA (b := b + 1) rfl rfl rfl (kR_0 hRb) (hR_0_0 hRb) rfl ?_
    refine E_gI (v := ((Cn O : Nat) : Int)) rfl rfl rfl (kR_1 hRb) hCbm.1 ?_
    refine E_icmp_gt (x := ((jp + 1 : Nat) : Int)) (y := ((Cn O : Nat) : Int)) rfl (by decide) (fun h_1 => ?_) (fun h_1 => ?_)
    · refine E_go (p' := 78) (L' := [some (aA 1), some (aA a), some (aI ((c : Nat) : Int)), some (aA b), some (aI ((lkR R O c jp : Nat) : Int)), some (aI ((jp + 1 : Nat) : Int)), x6]) (st' := []) rfl rfl rfl ?_
      refine E_ret rfl rfl ?_
      have e9 : jp = Cn O := by omega
      subst e9
      exact q m I1 J1
    · refine E_go (p' := 18) (L' := [some (aA 1), some (aA a), some (aI ((c : Nat) : Int)), some (aA b), some (aI ((lkR R O c jp : Nat) : Int)), some (aI ((jp + 1 : Nat) : Int)), x6]) (st' := []) rfl rfl rfl ?_
      refine E_s (p' := 19) (st' := aA 1 :: _) rfl rfl ?_
      refine E_gA (b := 19) rfl rfl rfl rfl rfl rfl ?_
      refine E_s (p' := 24) (st' := aI ((jp + 1 : Nat) : Int) :: _) rfl rfl ?_
      refine E_ald (e := jp + 1) (N := 61) (v := ((lkR R O c (jp + 1) : Nat) : Int)) rfl rfl (rfl) (by omega) (J2 _ (by omega) (by omega)) ?_
      refine E_s (p' := 27) (L' := [some (aA 1), some (aA a), some (aI ((c : Nat) : Int)), some (aA b), some (aI ((lkR R O c jp : Nat) : Int)), some (aI ((jp + 1 : Nat) : Int)), some (aI ((lkR R O c (jp + 1) : Nat) : Int))]) rfl rfl ?_
      refine E_s (p' := 28) (st' := aA 1 :: _) rfl rfl ?_
      refine E_gA (b := 19) rfl rfl rfl rfl rfl rfl ?_
      refine E_s (p' := 33) (st' := aI ((jp + 1 : Nat) : Int) :: _) rfl rfl ?_
      refine E_s (p' := 34) (st' := aA a :: _) rfl rfl ?_
      refine E_s (p' := 35) (st' := aI ((c : Nat) : Int) :: _) rfl rfl ?_
      refine E_s (p' := 36) (st' := aA b :: _) rfl rfl ?_
      refine E_s (p' := 38) (st' := aI ((jp + 1 : Nat) : Int) :: _) rfl rfl ?_
      refine E_s (p' := 39) (st' := aI 1 :: _) rfl rfl ?_
      refine E_sub (v := ((jp : Nat) : Int)) rfl (by omega) (by omega) ?_
      refine E_callL (p' := 43) (L0 := [some (aA a), some (aI ((c : Nat) : Int)), some (aA b), some (aI ((jp : Nat) : Int))]) rfl rfl rfl ?_
      refine c_alike hR hRb hCm hCbm hn hnb hdam hdbm (c := c) (d := jp) hc (by omega) hsd ?_
      refine E_go (p' := 43) (L' := [some (aA 1), some (aA a), some (aI ((c : Nat) : Int)), some (aA b), some (aI ((lkR R O c jp : Nat) : Int)), some (aI ((jp + 1 : Nat) : Int)), some (aI ((lkR R O c (jp + 1) : Nat) : Int))]) (st' := [aI (bi (alk R O c jp)), aI ((jp + 1 : Nat) : Int), aA 19]) rfl rfl rfl ?_
      refine E_b_eq0 (b := (alk R O c jp)) rfl (by decide) (fun h_2 => ?_) (fun h_2 => ?_)
      · refine E_go (p' := 53) (L' := [some (aA 1), some (aA a), some (aI ((c : Nat) : Int)), some (aA b), some (aI ((lkR R O c jp : Nat) : Int)), some (aI ((jp + 1 : Nat) : Int)), some (aI ((lkR R O c (jp + 1) : Nat) : Int))]) (st' := [aI ((jp + 1 : Nat) : Int), aA 19]) rfl rfl rfl ?_
        refine E_s (p' := 55) (st' := aI ((lkR R O c (jp + 1) : Nat) : Int) :: _) rfl rfl ?_
        refine E_s (p' := 56) (st' := aA 1 :: _) rfl rfl ?_
        refine E_gA (b := 19) rfl rfl rfl rfl rfl rfl ?_
        refine E_s (p' := 61) (st' := aI ((jp + 1 : Nat) : Int) :: _) rfl rfl ?_
        refine E_s (p' := 62) (st' := aI 1 :: _) rfl rfl ?_
        refine E_sub (v := ((jp : Nat) : Int)) rfl (by omega) (by omega) ?_
        refine E_ald (e := jp) (N := 61) (v := ((lkR R O (c + 1) jp : Nat) : Int)) rfl rfl (rfl) (by omega) (J1 _ (by omega)) ?_
        refine E_s (p' := 67) (st' := aI ((if ((lkR R O c (jp + 1) : Nat) : Int) < ((lkR R O (c + 1) jp : Nat) : Int) then ((lkR R O (c + 1) jp : Nat) : Int) else ((lkR R O c (jp + 1) : Nat) : Int))) :: _) rfl rfl ?_
        refine E_ast (e := jp + 1) (N := 61) rfl rfl (rfl) (by omega) ?_
        refine E_s (p' := 70) (st' := aI ((lkR R O c (jp + 1) : Nat) : Int) :: _) rfl rfl ?_
        refine E_s (p' := 72) (L' := [some (aA 1), some (aA a), some (aI ((c : Nat) : Int)), some (aA b), some (aI ((lkR R O c (jp + 1) : Nat) : Int)), some (aI ((jp + 1 : Nat) : Int)), some (aI ((lkR R O c (jp + 1) : Nat) : Int))]) rfl rfl ?_
        refine E_inc (x := ((jp + 1 : Nat) : Int)) (w := ((jp + 2 : Nat) : Int)) (L' := [some (aA 1), some (aA a), some (aI ((c : Nat) : Int)), some (aA b), some (aI ((lkR R O c (jp + 1) : Nat) : Int)), some (aI ((jp + 2 : Nat) : Int)), some (aI ((lkR R O c (jp + 1) : Nat) : Int))]) rfl rfl rfl (by omega) (by omega) rfl ?_
        refine E_s (p' := 6) rfl rfl ?_
        refine ih (jp + 1) _ _ (by omega) (by omega) (I1.up (by omega) (by omega)) (fun t ht9 => ?_) (fun t h1 h2 => (up2_sl (by omega)).trans (J2 t (by omega) h2))
        by_cases g9 : t = jp + 1
        · rw [g9]
          refine up2_eq.trans ?_
          show _ = ((bif alk R O c jp then lkR R O c jp + 1 else max (lkR R O c (jp + 1)) (lkR R O (c + 1) jp) : Nat) : Int)
          rw [show alk R O c jp = false by assumption]
          show _ = ((max (lkR R O c (jp + 1)) (lkR R O (c + 1) jp) : Nat) : Int)
          split <;> omega
        · exact (up2_sl g9).trans (J1 t (by omega))
      · refine E_go (p' := 46) (L' := [some (aA 1), some (aA a), some (aI ((c : Nat) : Int)), some (aA b), some (aI ((lkR R O c jp : Nat) : Int)), some (aI ((jp + 1 : Nat) : Int)), some (aI ((lkR R O c (jp + 1) : Nat) : Int))]) (st' := [aI ((jp + 1 : Nat) : Int), aA 19]) rfl rfl rfl ?_
        refine E_s (p' := 48) (st' := aI ((lkR R O c jp : Nat) : Int) :: _) rfl rfl ?_
        refine E_s (p' := 49) (st' := aI 1 :: _) rfl rfl ?_
        refine E_add (v := ((lkR R O c jp + 1 : Nat) : Int)) rfl (by omega) (by omega) ?_
        refine E_s (p' := 67) rfl rfl ?_
        refine E_ast (e := jp + 1) (N := 61) rfl rfl (rfl) (by omega) ?_
        refine E_s (p' := 70) (st' := aI ((lkR R O c (jp + 1) : Nat) : Int) :: _) rfl rfl ?_
        refine E_s (p' := 72) (L' := [some (aA 1), some (aA a), some (aI ((c : Nat) : Int)), some (aA b), some (aI ((lkR R O c (jp + 1) : Nat) : Int)), some (aI ((jp + 1 : Nat) : Int)), some (aI ((lkR R O c (jp + 1) : Nat) : Int))]) rfl rfl ?_
        refine E_inc (x := ((jp + 1 : Nat) : Int)) (w := ((jp + 2 : Nat) : Int)) (L' := [some (aA 1), some (aA a), some (aI ((c : Nat) : Int)), some (aA b), some (aI ((lkR R O c (jp + 1) : Nat) : Int)), some (aI ((jp + 2 : Nat) : Int)), some (aI ((lkR R O c (jp + 1) : Nat) : Int))]) rfl rfl rfl (by omega) (by omega) rfl ?_
        refine E_s (p' := 6) rfl rfl ?_
        refine ih (jp + 1) _ _ (by omega) (by omega) (I1.up (by omega) (by omega)) (fun t ht9 => ?_) (fun t h1 h2 => (up2_sl (by omega)).trans (J2 t (by omega) h2))
        by_cases g9 : t = jp + 1
        · rw [g9]
          refine up2_eq.trans ?_
          show _ = ((bif alk R O c jp then lkR R O c jp + 1 else max (lkR R O c (jp + 1)) (lkR R O (c + 1) jp) : Nat) : Int)
          rw [show alk R O c jp = true by assumption]
          rfl
        · exact (up2_sl g9).trans (J1 t (by omega))
end

section
variable {len : Nat} {m0 : Mm} {Q : Option AV → Sx → Prop} {R O : RD} {a b c : Nat} {r o : Int}
theorem c_growLikeness (hR : isR a) (hRb : isR b) (hC : CR R a m0) (hCb : CR O b m0) (hn : Cn R ≤ 60) (hnb : Cn O ≤ 60) (hda : RdC R a m0) (hdb : RdC O b m0) (hc : c < Cn R) (hsd : sdR R c = true) (hrow : ∀ j, j ≤ Cn O → m0 19 j = (lkR R O c j : Int)) (q : ∀ m1 : Mm, Fx 19 19 m0 m1 → (∀ j, j ≤ Cn O → m1 19 j = (lkR R O (c + 1) j : Int)) → Q none (m1, tl len)) : E 120 0 [some (aA 1), some (aA a), some (aI ((c : Nat) : Int)), some (aA b), none, none, none] [] (m0, tl len) Q := by
  refine E_s (p' := 1) (st' := aI 0 :: _) rfl rfl ?_
  refine E_s (p' := 3) (L' := [some (aA 1), some (aA a), some (aI ((c : Nat) : Int)), some (aA b), some (aI 0), none, none]) rfl rfl ?_
  refine E_s (p' := 4) (st' := aI 1 :: _) rfl rfl ?_
  refine E_s (p' := 6) (L' := [some (aA 1), some (aA a), some (aI ((c : Nat) : Int)), some (aA b), some (aI 0), some (aI 1), none]) rfl rfl ?_
  have e0 := lkR_z R O c
  have h := yl_gl hR hRb hC hCb hn hnb hda hdb hc hsd q (Cn O + 1) 0 m0 none (by omega) (by omega) Fx.rf (fun t ht9 => by rw [show t = 0 by omega, hrow 0 (by omega), lkR_z, lkR_z]) (fun t h1 h2 => hrow t h2)
  rw [e0] at h
  exact h
theorem yl_lk (hR : isR a) (hRb : isR b) (hC : CR R a m0) (hCb : CR O b m0) (hn : Cn R ≤ 60) (hnb : Cn O ≤ 60) (hda : RdC R a m0) (hdb : RdC O b m0) (q : ∀ m1 : Mm, Fx 19 19 m0 m1 → Q (some (aI (lkR R O (Cn R) (Cn O) : Int))) (m1, tl len)) : ∀ (d : Nat) (c : Nat) (m : Mm), (Cn R < c + d) → (c ≤ Cn R) → (Fx 19 19 m0 m) → (∀ j, j ≤ Cn O → m 19 j = (lkR R O c j : Int)) → E 119 36 [some (aA 1), some (aI (r)), some (aI (o)), some (aA a), some (aA b), some (aI ((c : Nat) : Int))] [] (m, tl len) Q := by
  intro d
  induction d with
  | zero => intro c m hd hc I1 J1; omega
  | succ d ih =>
    intro c m hd hc I1 J1
    have hab := isR_b hR
    have hbb := isR_b hRb
    have hCm : CR R a m := hC.of (fun b j g1 g2 _ => I1 b j (by omega))
    have hCbm : CR O b m := hCb.of (fun b j g1 g2 _ => I1 b j (by omega))
    have hdam : RdC R a m := hda.of (fun b j g1 g2 => I1 b j (by omega))
    have hdbm : RdC O b m := hdb.of (fun b j g1 g2 => I1 b j (by omega))
    refine E_s (p' := 38) (st' := aI ((c : Nat) : Int) :: _) rfl rfl ?_
    refine E_s (p' := 39) (st' := aA a :: _) rfl rfl ?_
    refine E_gA (b := a + 1) rfl rfl rfl (kR_0 hR) (hR_0_0 hR) rfl ?_
    refine E_gI (v := ((Cn R : Nat) : Int)) rfl rfl rfl (kR_1 hR) hCm.1 ?_
    refine E_icmp_ge (x := ((c : Nat) : Int)) (y := ((Cn R : Nat) : Int)) rfl (by decide) (fun h_1 => ?_) (fun h_1 => ?_)
    · refine E_go (p' := 72) (L' := [some (aA 1), some (aI (r)), some (aI (o)), some (aA a), some (aA b), some (aI ((c : Nat) : Int))]) (st' := []) rfl rfl rfl ?_
      refine E_s (p' := 73) (st' := aA 1 :: _) rfl rfl ?_
      refine E_gA (b := 19) rfl rfl rfl rfl rfl rfl ?_
      refine E_s (p' := 78) (st' := aA b :: _) rfl rfl ?_
      refine E_gA (b := b + 1) rfl rfl rfl (kR_0 hRb) (hR_0_0 hRb) rfl ?_
      refine E_gI (v := ((Cn O : Nat) : Int)) rfl rfl rfl (kR_1 hRb) hCbm.1 ?_
      refine E_ald (e := Cn O) (N := 61) (v := ((lkR R O (Cn R) (Cn O) : Nat) : Int)) rfl rfl (rfl) (by omega) (by rw [show Cn R = c by omega]; exact J1 _ (Nat.le_refl _)) ?_
      refine E_ret rfl rfl ?_
      exact q m I1
    · refine E_go (p' := 48) (L' := [some (aA 1), some (aI (r)), some (aI (o)), some (aA a), some (aA b), some (aI ((c : Nat) : Int))]) (st' := []) rfl rfl rfl ?_
      refine E_s (p' := 49) (st' := aA a :: _) rfl rfl ?_
      refine E_s (p' := 51) (st' := aI ((c : Nat) : Int) :: _) rfl rfl ?_
      refine E_callV (k' := 74) (a := a) (r := []) (L0 := [some (aA a), some (aI ((c : Nat) : Int))]) rfl rfl rfl rfl rfl (kR_0 hR) rfl rfl rfl rfl ?_
      refine c_isSound hR hn hCm hdam (c := c) (by omega) (fun hs1 hs2 => ?_) (fun hs0 => ?_)
      · refine E_go (p' := 54) (L' := [some (aA 1), some (aI (r)), some (aI (o)), some (aA a), some (aA b), some (aI ((c : Nat) : Int))]) (st' := [aI 1]) rfl rfl rfl ?_
        refine E_s (p' := 57) rfl rfl ?_
        refine E_s (p' := 58) (st' := aA 1 :: _) rfl rfl ?_
        refine E_s (p' := 59) (st' := aA a :: _) rfl rfl ?_
        refine E_s (p' := 61) (st' := aI ((c : Nat) : Int) :: _) rfl rfl ?_
        refine E_s (p' := 63) (st' := aA b :: _) rfl rfl ?_
        refine E_callV (k' := 120) (a := 1) (r := []) (L0 := [some (aA 1), some (aA a), some (aI ((c : Nat) : Int)), some (aA b), none, none, none]) rfl rfl rfl rfl rfl rfl rfl rfl rfl rfl ?_
        refine c_growLikeness hR hRb hCm hCbm hn hnb hdam hdbm (c := c) (by omega) (sdR_t hs1 hs2) J1 (fun m1 F1 K1 => ?_)
        refine E_go (p' := 66) (L' := [some (aA 1), some (aI (r)), some (aI (o)), some (aA a), some (aA b), some (aI ((c : Nat) : Int))]) (st' := []) rfl rfl rfl ?_
        refine E_inc (x := ((c : Nat) : Int)) (w := ((c + 1 : Nat) : Int)) (L' := [some (aA 1), some (aI (r)), some (aI (o)), some (aA a), some (aA b), some (aI ((c + 1 : Nat) : Int))]) rfl rfl rfl (by omega) (by omega) rfl ?_
        refine E_s (p' := 36) rfl rfl ?_
        exact ih (c + 1) m1 (by omega) (by omega) (I1.tr F1) K1
      · refine E_go (p' := 54) (L' := [some (aA 1), some (aI (r)), some (aI (o)), some (aA a), some (aA b), some (aI ((c : Nat) : Int))]) (st' := [aI 0]) rfl rfl rfl ?_
        refine E_s (p' := 66) rfl rfl ?_
        refine E_inc (x := ((c : Nat) : Int)) (w := ((c + 1 : Nat) : Int)) (L' := [some (aA 1), some (aI (r)), some (aI (o)), some (aA a), some (aA b), some (aI ((c + 1 : Nat) : Int))]) rfl rfl rfl (by omega) (by omega) rfl ?_
        refine E_s (p' := 36) rfl rfl ?_
        exact ih (c + 1) m (by omega) (by omega) I1 (fun j hj => by rw [lkR_s (sdR_f hs0)]; exact J1 j hj)
end
section
variable {len : Nat} {m : Mm} {Q : Option AV → Sx → Prop} {S : Nat → RD} {r o : Int}
theorem C_likeness (hS : CS S m) (q : ∀ (v : Int) (m1 : Mm), spLike S r o v → CS S m1 → Mo m m1 → Q (some (aI v)) (m1, tl len)) : E 119 0 [some (aA 1), some (aI (r)), some (aI (o)), none, none, none] [] (m, tl len) Q := by
  refine E_s (p' := 1) (st' := aA 1 :: _) rfl rfl ?_
  refine E_s (p' := 2) (st' := aI (r) :: _) rfl rfl ?_
  refine E_callV (k' := 34) (a := 1) (r := []) (L0 := [some (aA 1), some (aI (r)), none]) rfl rfl rfl rfl rfl rfl rfl rfl rfl rfl ?_
  refine c_readOf2 hS (fun i a m1 hi hr ha hR hS1 h7a hk1 hMo1 => ?_) (fun hr => ?_)
  · refine E_go (p' := 5) (L' := [some (aA 1), some (aI (r)), some (aI (o)), none, none, none]) (st' := [aA a]) rfl rfl rfl ?_
    refine E_s (p' := 6) (L' := [some (aA 1), some (aI (r)), some (aI (o)), some (aA a), none, none]) rfl rfl ?_
    refine E_s (p' := 7) (st' := aA 1 :: _) rfl rfl ?_
    refine E_s (p' := 8) (st' := aI (o) :: _) rfl rfl ?_
    refine E_callV (k' := 34) (a := 1) (r := []) (L0 := [some (aA 1), some (aI (o)), none]) rfl rfl rfl rfl rfl rfl rfl rfl rfl rfl ?_
    refine c_readOf2 hS1 (fun k b m2 hk ho hb hRb hS2 h7b hk2 hMo2 => ?_) (fun ho => ?_)
    · refine E_go (p' := 11) (L' := [some (aA 1), some (aI (r)), some (aI (o)), some (aA a), none, none]) (st' := [aA b]) rfl rfl rfl ?_
      refine E_s (p' := 13) (L' := [some (aA 1), some (aI (r)), some (aI (o)), some (aA a), some (aA b), none]) rfl rfl ?_
      refine E_s (p' := 14) (st' := aA a :: _) rfl rfl ?_
      refine E_s (p' := 17) rfl rfl ?_
      refine E_s (p' := 19) (st' := aA b :: _) rfl rfl ?_
      refine E_s (p' := 25) rfl rfl ?_
      refine E_s (p' := 26) (st' := aA 1 :: _) rfl rfl ?_
      refine E_gA (b := 19) rfl rfl rfl rfl rfl rfl ?_
      refine E_s (p' := 30) (st' := aI 0 :: _) rfl rfl ?_
      refine E_callL (p' := 33) (L0 := [some (aA 19), some (aI 0), none, none]) rfl rfl rfl ?_
      refine c_fillL (N := 61) rfl ?_
      refine E_go (p' := 33) (L' := [some (aA 1), some (aI (r)), some (aI (o)), some (aA a), some (aA b), none]) (st' := []) rfl rfl rfl ?_
      refine E_s (p' := 34) (st' := aI 0 :: _) rfl rfl ?_
      refine E_s (p' := 36) (L' := [some (aA 1), some (aI (r)), some (aI (o)), some (aA a), some (aA b), some (aI 0)]) rfl rfl ?_
      have hab := isR_b hR
      have hbb := isR_b hRb
      obtain ⟨hVa, hCa, hrda⟩ := hS2 i hi
      obtain ⟨hVb, hCb, hrdb⟩ := hS2 k hk
      rw [← ha] at hCa hrda
      rw [← hb] at hCb hrdb
      have h7a2 : m2 a 7 = 1 := by have := hk2 i hi (by rw [← ha]; exact h7a); rw [← ha] at this; exact this
      have hda : RdC (S i) a m2 := by rcases hrda with g9 | g9; omega; exact g9.2
      have hdb : RdC (S k) b m2 := by rcases hrdb with g9 | g9; omega; exact g9.2
      have hF : Fx 19 19 m2 (fillm m2 19 0 61 0) := Fx.rf.fill (by omega) (by omega)
      refine yl_lk hR hRb (hCa.of (fun b j g1 g2 _ => hF b j (by omega))) (hCb.of (fun b j g1 g2 _ => hF b j (by omega))) hVa.1 hVb.1 (hda.of (fun b j g1 g2 => hF b j (by omega))) (hdb.of (fun b j g1 g2 => hF b j (by omega))) (fun m9 F9 => ?_) (Cn (S i) + 1) 0 _ (by omega) (by omega) Fx.rf (fun j hj => (fillm_in (by have := hVb.1; omega)).trans rfl)
      exact q _ m9 (Or.inl ⟨i, k, hi, hk, hr, ho, rfl⟩) (fun x hx => (hS2 x hx).of (fun b j g1 g2 => (F9 b j (by unfold tgA at g1; omega)).trans (hF b j (by unfold tgA at g1; omega)))) (fun b j hb => (F9 b j (by omega)).trans ((hF b j (by omega)).trans ((hMo2 b j hb).trans (hMo1 b j hb))))
    · refine E_go (p' := 11) (L' := [some (aA 1), some (aI (r)), some (aI (o)), some (aA a), none, none]) (st' := [aN]) rfl rfl rfl ?_
      refine E_s (p' := 13) (L' := [some (aA 1), some (aI (r)), some (aI (o)), some (aA a), some (aN), none]) rfl rfl ?_
      refine E_s (p' := 14) (st' := aA a :: _) rfl rfl ?_
      refine E_s (p' := 17) rfl rfl ?_
      refine E_s (p' := 19) (st' := aN :: _) rfl rfl ?_
      refine E_s (p' := 22) rfl rfl ?_
      refine E_s (p' := 24) (st' := aI (-2) :: _) rfl rfl ?_
      refine E_ret rfl rfl ?_
      exact q _ m1 (Or.inr ⟨by omega, rfl⟩) hS1 hMo1
  · refine E_go (p' := 5) (L' := [some (aA 1), some (aI (r)), some (aI (o)), none, none, none]) (st' := [aN]) rfl rfl rfl ?_
    refine E_s (p' := 6) (L' := [some (aA 1), some (aI (r)), some (aI (o)), some (aN), none, none]) rfl rfl ?_
    refine E_s (p' := 7) (st' := aA 1 :: _) rfl rfl ?_
    refine E_s (p' := 8) (st' := aI (o) :: _) rfl rfl ?_
    refine E_callV (k' := 34) (a := 1) (r := []) (L0 := [some (aA 1), some (aI (o)), none]) rfl rfl rfl rfl rfl rfl rfl rfl rfl rfl ?_
    refine c_readOf2 hS (fun k b m2 hk ho hb hRb hS2 h7b hk2 hMo2 => ?_) (fun ho => ?_)
    · refine E_go (p' := 11) (L' := [some (aA 1), some (aI (r)), some (aI (o)), some (aN), none, none]) (st' := [aA b]) rfl rfl rfl ?_
      refine E_s (p' := 13) (L' := [some (aA 1), some (aI (r)), some (aI (o)), some (aN), some (aA b), none]) rfl rfl ?_
      refine E_s (p' := 14) (st' := aN :: _) rfl rfl ?_
      refine E_s (p' := 22) rfl rfl ?_
      refine E_s (p' := 24) (st' := aI (-2) :: _) rfl rfl ?_
      refine E_ret rfl rfl ?_
      exact q _ m2 (Or.inr ⟨by omega, rfl⟩) hS2 hMo2
    · refine E_go (p' := 11) (L' := [some (aA 1), some (aI (r)), some (aI (o)), some (aN), none, none]) (st' := [aN]) rfl rfl rfl ?_
      refine E_s (p' := 13) (L' := [some (aA 1), some (aI (r)), some (aI (o)), some (aN), some (aN), none]) rfl rfl ?_
      refine E_s (p' := 14) (st' := aN :: _) rfl rfl ?_
      refine E_s (p' := 22) rfl rfl ?_
      refine E_s (p' := 24) (st' := aI (-2) :: _) rfl rfl ?_
      refine E_ret rfl rfl ?_
      exact q _ m (Or.inr ⟨by omega, rfl⟩) hS Mo.rf
end

section
variable {len : Nat} {m : Mm} {Q : Option AV → Sx → Prop} {x y : Int}
theorem m_greater (q1 : y < x → Q (some (aI x)) (m, tl len)) (q0 : x ≤ y → Q (some (aI y)) (m, tl len)) : E 169 0 [some (aI (x)), some (aI (y))] [] (m, tl len) Q := by
  refine E_s (p' := 1) (st' := aI (x) :: _) rfl rfl ?_
  refine E_s (p' := 2) (st' := aI (y) :: _) rfl rfl ?_
  refine E_icmp_le (x := (x)) (y := (y)) rfl (by decide) (fun h_1 => ?_) (fun h_1 => ?_)
  · refine E_go (p' := 9) (L' := [some (aI (x)), some (aI (y))]) (st' := []) rfl rfl rfl ?_
    refine E_s (p' := 10) (st' := aI (y) :: _) rfl rfl ?_
    refine E_ret rfl rfl ?_
    first | exact q1 (by omega) | exact q0 (by omega)
  · refine E_go (p' := 5) (L' := [some (aI (x)), some (aI (y))]) (st' := []) rfl rfl rfl ?_
    refine E_s (p' := 6) (st' := aI (x) :: _) rfl rfl ?_
    refine E_s (p' := 10) rfl rfl ?_
    refine E_ret rfl rfl ?_
    first | exact q1 (by omega) | exact q0 (by omega)
theorem m_less (q1 : x < y → Q (some (aI x)) (m, tl len)) (q0 : y ≤ x → Q (some (aI y)) (m, tl len)) : E 170 0 [some (aI (x)), some (aI (y))] [] (m, tl len) Q := by
  refine E_s (p' := 1) (st' := aI (x) :: _) rfl rfl ?_
  refine E_s (p' := 2) (st' := aI (y) :: _) rfl rfl ?_
  refine E_icmp_ge (x := (x)) (y := (y)) rfl (by decide) (fun h_1 => ?_) (fun h_1 => ?_)
  · refine E_go (p' := 9) (L' := [some (aI (x)), some (aI (y))]) (st' := []) rfl rfl rfl ?_
    refine E_s (p' := 10) (st' := aI (y) :: _) rfl rfl ?_
    refine E_ret rfl rfl ?_
    first | exact q1 (by omega) | exact q0 (by omega)
  · refine E_go (p' := 5) (L' := [some (aI (x)), some (aI (y))]) (st' := []) rfl rfl rfl ?_
    refine E_s (p' := 6) (st' := aI (x) :: _) rfl rfl ?_
    refine E_s (p' := 10) rfl rfl ?_
    refine E_ret rfl rfl ?_
    first | exact q1 (by omega) | exact q0 (by omega)
end
theorem sdR_v {R : RD} {c : Nat} (h : sdR R c = true) : Rft R c = 0 ∧ Rtd R c = (Rvl R c : Int) := by
  unfold sdR at h
  rw [Bool.and_eq_true] at h
  have h2 := of_decide_eq_true h.2
  exact ⟨h2, by unfold Rtd; rw [if_pos h2]⟩
/-- nothing but the model's scratch has changed: reading, numbers, others, rows of likeness -/
def FrL (m m' : Mm) : Prop := ∀ b z, ¬ (b = 124 ∧ 19 ≤ z ∧ z ≤ 29) → ¬ (141 ≤ b ∧ b ≤ 149) → ¬ (167 ≤ b ∧ b ≤ 168) → m' b z = m b z
theorem FrL.rf {m : Mm} : FrL m m := fun _ _ _ _ _ => rfl
theorem FrL.tr {m m' m'' : Mm} (h : FrL m m') (h' : FrL m' m'') : FrL m m'' := fun b z g1 g2 g3 => (h' b z g1 g2 g3).trans (h b z g1 g2 g3)
theorem FrL.up {m m' : Mm} {a i : Nat} {x : Int} (h : FrL m m') (ha : (141 ≤ a ∧ a ≤ 149) ∨ (167 ≤ a ∧ a ≤ 168)) : FrL m (up2 m' a i x) := fun b z g1 g2 g3 => (up2_ne (by omega)).trans (h b z g1 g2 g3)
theorem FrL.MS {S : Nat → RD} {m m' : Mm} (h : FrL m m') (hS : MS S m) : MS S m' := hS.of (fun b j g1 g2 => h b j (by omega) (by omega) (by omega))
theorem FrL.MR {R : RD} {i : Nat} {m m' : Mm} (h : FrL m m') (hM : MR R i m) : MR R i m' := hM.of (fun b j g1 g2 => h b j (by omega) (by omega) (by omega))
theorem FrL.Co1 {m m' : Mm} (h : FrL m m') : Co1 m m' := fun b j hb => h b j (by omega) (by omega) (by omega)
section
variable {len : Nat} {m0 : Mm} {Q : Option AV → Sx → Prop} {R O : RD} {i k : Nat}
theorem yl_lA (hi : i < 4) (hM : MR R i m0) (hV : VR R) (hnm : ∀ d, d < Cn R → m0 148 d = Rtd R d) (hk : ∀ m1 : Mm, (∀ b z, b ≠ 168 → m1 b z = m0 b z) → (∀ d, d < Cn R → m1 168 d = bi (sdR R d)) → E 181 56 [some (aA 124), some (aI (i : Int)), some (aI (k : Int)), some (aI (Cn R : Int)), none, none, none, none] [] (m1, tl len) Q) : ∀ (d : Nat) (c : Nat) (m : Mm), (Cn R < c + d) → (c ≤ Cn R) → (∀ b z, b ≠ 168 → m b z = m0 b z) → (∀ d, d < c → m 168 d = bi (sdR R d)) → E 181 28 [some (aA 124), some (aI ((i : Nat) : Int)), some (aI ((k : Nat) : Int)), some (aI ((c : Nat) : Int)), none, none, none, none] [] (m, tl len) Q := by
  intro d
  induction d with
  | zero => intro c m hd hc I0 I1; omega
  | succ d ih =>
    intro c m hd hc I0 I1
    have hn60 := hV.1
    have hMm : MR R i m := hM.of (fun b j g1 g2 => I0 b j (by omega))
    refine E_s (p' := 29) (st' := aI ((c : Nat) : Int) :: _) rfl rfl ?_
    refine E_s (p' := 30) (st' := aA 124 :: _) rfl rfl ?_
    refine E_gA (b := 125) rfl rfl rfl rfl rfl rfl ?_
    refine E_s (p' := 34) (st' := aI ((i : Nat) : Int) :: _) rfl rfl ?_
    refine E_ald (e := i) (N := 4) (v := ((Cn R : Nat) : Int)) rfl rfl (rfl) (by omega) (MR_125 hMm) ?_
    refine E_icmp_ge (x := ((c : Nat) : Int)) (y := ((Cn R : Nat) : Int)) rfl (by decide) (fun h_1 => ?_) (fun h_1 => ?_)
    · refine E_go (p' := 56) (L' := [some (aA 124), some (aI ((i : Nat) : Int)), some (aI ((k : Nat) : Int)), some (aI ((c : Nat) : Int)), none, none, none, none]) (st' := []) rfl rfl rfl ?_
      have e9 : c = Cn R := by omega
      subst e9
      exact hk m I0 I1
    · refine E_go (p' := 38) (L' := [some (aA 124), some (aI ((i : Nat) : Int)), some (aI ((k : Nat) : Int)), some (aI ((c : Nat) : Int)), none, none, none, none]) (st' := []) rfl rfl rfl ?_
      refine E_s (p' := 39) (st' := aA 124 :: _) rfl rfl ?_
      refine E_gA (b := 168) rfl rfl rfl rfl rfl rfl ?_
      refine E_s (p' := 43) (st' := aI ((c : Nat) : Int) :: _) rfl rfl ?_
      refine E_s (p' := 44) (st' := aA 124 :: _) rfl rfl ?_
      refine E_s (p' := 45) (st' := aI ((i : Nat) : Int) :: _) rfl rfl ?_
      refine E_s (p' := 46) (st' := aI ((c : Nat) : Int) :: _) rfl rfl ?_
      refine E_callV (k' := 158) (a := 124) (r := [aI ((c : Nat) : Int), aA 168]) (L0 := [some (aA 124), some (aI ((i : Nat) : Int)), some (aI ((c : Nat) : Int))]) rfl rfl rfl rfl rfl rfl rfl rfl rfl rfl ?_
      refine m_isSure hi hMm hV (c := c) (by omega) ((I0 _ _ (by omega)).trans (hnm _ (by omega))) (fun hs1 hs2 => ?_) (fun hs0 => ?_)
      · refine E_go (p' := 49) (L' := [some (aA 124), some (aI ((i : Nat) : Int)), some (aI ((k : Nat) : Int)), some (aI ((c : Nat) : Int)), none, none, none, none]) (st' := [aI 1, aI ((c : Nat) : Int), aA 168]) rfl rfl rfl ?_
        refine E_zst (e := c) (N := 60) rfl rfl (rfl) (by omega) (by decide) ?_
        refine E_inc (x := ((c : Nat) : Int)) (w := ((c + 1 : Nat) : Int)) (L' := [some (aA 124), some (aI ((i : Nat) : Int)), some (aI ((k : Nat) : Int)), some (aI ((c + 1 : Nat) : Int)), none, none, none, none]) rfl rfl rfl (by omega) (by omega) rfl ?_
        refine E_s (p' := 28) rfl rfl ?_
        refine ih (c + 1) _ (by omega) (by omega) (fun b z g1 => (up2_ne g1).trans (I0 b z g1)) (fun d hd9 => ?_)
        by_cases g9 : d = c
        · rw [g9]; exact up2_eq.trans (by rw [sdR_t hs1 hs2]; rfl)
        · exact (up2_sl g9).trans (I1 d (by omega))
      · refine E_go (p' := 49) (L' := [some (aA 124), some (aI ((i : Nat) : Int)), some (aI ((k : Nat) : Int)), some (aI ((c : Nat) : Int)), none, none, none, none]) (st' := [aI 0, aI ((c : Nat) : Int), aA 168]) rfl rfl rfl ?_
        refine E_zst (e := c) (N := 60) rfl rfl (rfl) (by omega) (by decide) ?_
        refine E_inc (x := ((c : Nat) : Int)) (w := ((c + 1 : Nat) : Int)) (L' := [some (aA 124), some (aI ((i : Nat) : Int)), some (aI ((k : Nat) : Int)), some (aI ((c + 1 : Nat) : Int)), none, none, none, none]) rfl rfl rfl (by omega) (by omega) rfl ?_
        refine E_s (p' := 28) rfl rfl ?_
        refine ih (c + 1) _ (by omega) (by omega) (fun b z g1 => (up2_ne g1).trans (I0 b z g1)) (fun d hd9 => ?_)
        by_cases g9 : d = c
        · rw [g9]; exact up2_eq.trans (by rw [sdR_f hs0]; rfl)
        · exact (up2_sl g9).trans (I1 d (by omega))
theorem yl_lB (hi : i < 4) (hM : MR R i m0) (hV : VR R) (hnm : ∀ d, d < Cn R → m0 148 d = Rtd R d) (hk : ∀ m1 : Mm, (∀ b z, b ≠ 149 → m1 b z = m0 b z) → (∀ d, d < Cn R → m1 149 d = Rtd R d) → E 181 86 [some (aA 124), some (aI (i : Int)), some (aI (k : Int)), some (aI (Cn R : Int)), none, none, none, none] [] (m1, tl len) Q) : ∀ (d : Nat) (c : Nat) (m : Mm), (Cn R < c + d) → (c ≤ Cn R) → (∀ b z, b ≠ 149 → m b z = m0 b z) → (∀ d, d < c → m 149 d = Rtd R d) → E 181 58 [some (aA 124), some (aI ((i : Nat) : Int)), some (aI ((k : Nat) : Int)), some (aI ((c : Nat) : Int)), none, none, none, none] [] (m, tl len) Q := by
  intro d
  induction d with
  | zero => intro c m hd hc I0 I1; omega
  | succ d ih =>
    intro c m hd hc I0 I1
    have hn60 := hV.1
    have hMm : MR R i m := hM.of (fun b j g1 g2 => I0 b j (by omega))
    refine E_s (p' := 59) (st' := aI ((c : Nat) : Int) :: _) rfl rfl ?_
    refine E_s (p' := 60) (st' := aA 124 :: _) rfl rfl ?_
    refine E_gA (b := 125) rfl rfl rfl rfl rfl rfl ?_
    refine E_s (p' := 64) (st' := aI ((i : Nat) : Int) :: _) rfl rfl ?_
    refine E_ald (e := i) (N := 4) (v := ((Cn R : Nat) : Int)) rfl rfl (rfl) (by omega) (MR_125 hMm) ?_
    refine E_icmp_ge (x := ((c : Nat) : Int)) (y := ((Cn R : Nat) : Int)) rfl (by decide) (fun h_1 => ?_) (fun h_1 => ?_)
    · refine E_go (p' := 86) (L' := [some (aA 124), some (aI ((i : Nat) : Int)), some (aI ((k : Nat) : Int)), some (aI ((c : Nat) : Int)), none, none, none, none]) (st' := []) rfl rfl rfl ?_
      have e9 : c = Cn R := by omega
      subst e9
      exact hk m I0 I1
    · refine E_go (p' := 68) (L' := [some (aA 124), some (aI ((i : Nat) : Int)), some (aI ((k : Nat) : Int)), some (aI ((c : Nat) : Int)), none, none, none, none]) (st' := []) rfl rfl rfl ?_
      refine E_s (p' := 69) (st' := aA 124 :: _) rfl rfl ?_
      refine E_gA (b := 149) rfl rfl rfl rfl rfl rfl ?_
      refine E_s (p' := 73) (st' := aI ((c : Nat) : Int) :: _) rfl rfl ?_
      refine E_s (p' := 74) (st' := aA 124 :: _) rfl rfl ?_
      refine E_gA (b := 148) rfl rfl rfl rfl rfl rfl ?_
      refine E_s (p' := 78) (st' := aI ((c : Nat) : Int) :: _) rfl rfl ?_
      refine E_ald (e := c) (N := 60) (v := (((Rtd R c)))) rfl rfl (rfl) (by omega) ((I0 _ _ (by omega)).trans (hnm _ (by omega))) ?_
      refine E_ast (e := c) (N := 60) rfl rfl (rfl) (by omega) ?_
      refine E_inc (x := ((c : Nat) : Int)) (w := ((c + 1 : Nat) : Int)) (L' := [some (aA 124), some (aI ((i : Nat) : Int)), some (aI ((k : Nat) : Int)), some (aI ((c + 1 : Nat) : Int)), none, none, none, none]) rfl rfl rfl (by omega) (by omega) rfl ?_
      refine E_s (p' := 58) rfl rfl ?_
      refine ih (c + 1) _ (by omega) (by omega) (fun b z g1 => (up2_ne g1).trans (I0 b z g1)) (fun d hd9 => ?_)
      by_cases g9 : d = c
      · rw [g9]; exact up2_eq
      · exact (up2_sl g9).trans (I1 d (by omega))
theorem yl_lC (hk : ∀ m1 : Mm, (∀ b z, b ≠ 167 → m1 b z = m0 b z) → (∀ d, d < 61 → m1 167 d = 0) → E 181 116 [some (aA 124), some (aI (i : Int)), some (aI (k : Int)), some (aI 61), none, none, none, none] [] (m1, tl len) Q) : ∀ (d : Nat) (c : Nat) (m : Mm), (61 < c + d) → (c ≤ 61) → (∀ b z, b ≠ 167 → m b z = m0 b z) → (∀ d, d < c → m 167 d = 0) → E 181 97 [some (aA 124), some (aI ((i : Nat) : Int)), some (aI ((k : Nat) : Int)), some (aI ((c : Nat) : Int)), none, none, none, none] [] (m, tl len) Q := by
  intro d
  induction d with
  | zero => intro c m hd hc I0 I1; omega
  | succ d ih =>
    intro c m hd hc I0 I1
    refine E_s (p' := 98) (st' := aI ((c : Nat) : Int) :: _) rfl rfl ?_
    refine E_s (p' := 100) (st' := aI 61 :: _) rfl rfl ?_
    refine E_icmp_ge (x := ((c : Nat) : Int)) (y := 61) rfl (by decide) (fun h_1 => ?_) (fun h_1 => ?_)
    · refine E_go (p' := 116) (L' := [some (aA 124), some (aI ((i : Nat) : Int)), some (aI ((k : Nat) : Int)), some (aI ((c : Nat) : Int)), none, none, none, none]) (st' := []) rfl rfl rfl ?_
      have e9 : c = 61 := by omega
      subst e9
      exact hk m I0 I1
    · refine E_go (p' := 103) (L' := [some (aA 124), some (aI ((i : Nat) : Int)), some (aI ((k : Nat) : Int)), some (aI ((c : Nat) : Int)), none, none, none, none]) (st' := []) rfl rfl rfl ?_
      refine E_s (p' := 104) (st' := aA 124 :: _) rfl rfl ?_
      refine E_gA (b := 167) rfl rfl rfl rfl rfl rfl ?_
      refine E_s (p' := 108) (st' := aI ((c : Nat) : Int) :: _) rfl rfl ?_
      refine E_s (p' := 109) (st' := aI 0 :: _) rfl rfl ?_
      refine E_ast (e := c) (N := 61) rfl rfl (rfl) (by omega) ?_
      refine E_inc (x := ((c : Nat) : Int)) (w := ((c + 1 : Nat) : Int)) (L' := [some (aA 124), some (aI ((i : Nat) : Int)), some (aI ((k : Nat) : Int)), some (aI ((c + 1 : Nat) : Int)), none, none, none, none]) rfl rfl rfl (by omega) (by omega) rfl ?_
      refine E_s (p' := 97) rfl rfl ?_
      refine ih (c + 1) _ (by omega) (by omega) (fun b z g1 => (up2_ne g1).trans (I0 b z g1)) (fun d hd9 => ?_)
      by_cases g9 : d = c
      · rw [g9]; exact up2_eq
      · exact (up2_sl g9).trans (I1 d (by omega))
theorem yl_lE (hi : i < 4) (hk4 : k < 4) (hM : MR R i m0) (hMo : MR O k m0) (hV : VR R) (hVo : VR O) (hsu : ∀ d, d < Cn R → m0 168 d = bi (sdR R d)) (hot : ∀ d, d < Cn R → m0 149 d = Rtd R d) (hnm : ∀ d, d < Cn O → m0 148 d = Rtd O d) {x : Nat} (hx : x < Cn R) (hk : ∀ (m1 : Mm) (x4 x5 x6 x7 : Option AV), (∀ b z, b ≠ 167 → m1 b z = m0 b z) → (∀ t, t ≤ Cn O → m1 167 t = (lkR R O (x + 1) t : Int)) → E 181 283 [some (aA 124), some (aI (i : Int)), some (aI (k : Int)), some (aI (x : Int)), x4, x5, x6, x7] [] (m1, tl len) Q) : ∀ (d : Nat) (j : Nat) (m : Mm) (x6 x7 : Option AV), (Cn O < j + d) → (j ≤ Cn O) → (∀ b z, b ≠ 167 → m b z = m0 b z) → (∀ t, t ≤ j → m 167 t = (lkR R O (x + 1) t : Int)) → (∀ t, j < t → t ≤ Cn O → m 167 t = (lkR R O x t : Int)) → E 181 134 [some (aA 124), some (aI ((i : Nat) : Int)), some (aI ((k : Nat) : Int)), some (aI ((x : Nat) : Int)), some (aI ((lkR R O x j : Nat) : Int)), some (aI ((j : Nat) : Int)), x6, x7] [] (m, tl len) Q := by
  intro d
  induction d with
  | zero => intro j m x6 x7 hd hj I0 J1 J2; omega
  | succ d ih =>
    intro j m x6 x7 hd hj I0 J1 J2
    have hn60 := hV.1
    have hn6o := hVo.1
    have hb1 := lkR_b R O x j
    have hb2 := lkR_b R O x (j + 1)
    have hb3 := lkR_b R O (x + 1) j
    have htj := Rtd_n (R := O) (c := j)
    refine E_s (p' := 136) (st' := aI ((j : Nat) : Int) :: _) rfl rfl ?_
    refine E_s (p' := 137) (st' := aA 124 :: _) rfl rfl ?_
    refine E_gA (b := 125) rfl rfl rfl rfl rfl rfl ?_
    refine E_s (p' := 141) (st' := aI ((k : Nat) : Int) :: _) rfl rfl ?_
    refine E_ald (e := k) (N := 4) (v := ((Cn O : Nat) : Int)) rfl rfl (rfl) (by omega) ((I0 _ _ (by omega)).trans (MR_125 hMo)) ?_
    refine E_icmp_ge (x := ((j : Nat) : Int)) (y := ((Cn O : Nat) : Int)) rfl (by decide) (fun h_1 => ?_) (fun h_1 => ?_)
    · refine E_go (p' := 283) (L' := [some (aA 124), some (aI ((i : Nat) : Int)), some (aI ((k : Nat) : Int)), some (aI ((x : Nat) : Int)), some (aI ((lkR R O x j : Nat) : Int)), some (aI ((j : Nat) : Int)), x6, x7]) (st' := []) rfl rfl rfl ?_
      have e9 : j = Cn O := by omega
      subst e9
      exact hk m _ _ x6 x7 I0 J1
    · refine E_go (p' := 145) (L' := [some (aA 124), some (aI ((i : Nat) : Int)), some (aI ((k : Nat) : Int)), some (aI ((x : Nat) : Int)), some (aI ((lkR R O x j : Nat) : Int)), some (aI ((j : Nat) : Int)), x6, x7]) (st' := []) rfl rfl rfl ?_
      refine E_s (p' := 146) (st' := aA 124 :: _) rfl rfl ?_
      refine E_gA (b := 167) rfl rfl rfl rfl rfl rfl ?_
      refine E_s (p' := 151) (st' := aI ((j : Nat) : Int) :: _) rfl rfl ?_
      refine E_s (p' := 152) (st' := aI 1 :: _) rfl rfl ?_
      refine E_add (v := ((j + 1 : Nat) : Int)) rfl (by omega) (by omega) ?_
      refine E_ald (e := j + 1) (N := 61) (v := ((lkR R O x (j + 1) : Nat) : Int)) rfl rfl (rfl) (by omega) (J2 _ (by omega) (by omega)) ?_
      refine E_s (p' := 156) (L' := [some (aA 124), some (aI ((i : Nat) : Int)), some (aI ((k : Nat) : Int)), some (aI ((x : Nat) : Int)), some (aI ((lkR R O x j : Nat) : Int)), some (aI ((j : Nat) : Int)), some (aI ((lkR R O x (j + 1) : Nat) : Int)), x7]) rfl rfl ?_
      refine E_s (p' := 157) (st' := aA 124 :: _) rfl rfl ?_
      refine E_gA (b := 168) rfl rfl rfl rfl rfl rfl ?_
      refine E_s (p' := 161) (st' := aI ((x : Nat) : Int) :: _) rfl rfl ?_
      refine E_zld (e := x) (N := 60) (v := (bi (sdR R x))) rfl rfl (rfl) (by omega) ((I0 _ _ (by omega)).trans (hsu _ (by omega))) ?_
      refine E_b_eq0 (b := (sdR R x)) rfl (by decide) (fun h_2 => ?_) (fun h_2 => ?_)
      · refine E_go (p' := 221) (L' := [some (aA 124), some (aI ((i : Nat) : Int)), some (aI ((k : Nat) : Int)), some (aI ((x : Nat) : Int)), some (aI ((lkR R O x j : Nat) : Int)), some (aI ((j : Nat) : Int)), some (aI ((lkR R O x (j + 1) : Nat) : Int)), x7]) (st' := []) rfl rfl rfl ?_
        refine E_s (p' := 222) (st' := aI 0 :: _) rfl rfl ?_
        refine E_s (p' := 224) (L' := [some (aA 124), some (aI ((i : Nat) : Int)), some (aI ((k : Nat) : Int)), some (aI ((x : Nat) : Int)), some (aI ((lkR R O x j : Nat) : Int)), some (aI ((j : Nat) : Int)), some (aI ((lkR R O x (j + 1) : Nat) : Int)), some (aI 0)]) rfl rfl ?_
        refine E_s (p' := 226) (st' := aI 0 :: _) rfl rfl ?_
        refine E_s (p' := 245) rfl rfl ?_
        refine E_s (p' := 246) (st' := aA 124 :: _) rfl rfl ?_
        refine E_gA (b := 167) rfl rfl rfl rfl rfl rfl ?_
        refine E_s (p' := 251) (st' := aI ((j : Nat) : Int) :: _) rfl rfl ?_
        refine E_s (p' := 252) (st' := aI 1 :: _) rfl rfl ?_
        refine E_add (v := ((j + 1 : Nat) : Int)) rfl (by omega) (by omega) ?_
        refine E_s (p' := 254) (st' := aA 124 :: _) rfl rfl ?_
        refine E_gA (b := 167) rfl rfl rfl rfl rfl rfl ?_
        refine E_s (p' := 259) (st' := aI ((j : Nat) : Int) :: _) rfl rfl ?_
        refine E_s (p' := 260) (st' := aI 1 :: _) rfl rfl ?_
        refine E_add (v := ((j + 1 : Nat) : Int)) rfl (by omega) (by omega) ?_
        refine E_ald (e := j + 1) (N := 61) (v := ((lkR R O x (j + 1) : Nat) : Int)) rfl rfl (rfl) (by omega) (J2 _ (by omega) (by omega)) ?_
        refine E_s (p' := 263) (st' := aA 124 :: _) rfl rfl ?_
        refine E_gA (b := 167) rfl rfl rfl rfl rfl rfl ?_
        refine E_s (p' := 268) (st' := aI ((j : Nat) : Int) :: _) rfl rfl ?_
        refine E_ald (e := j) (N := 61) (v := ((lkR R O (x + 1) j : Nat) : Int)) rfl rfl (rfl) (by omega) (J1 _ (by omega)) ?_
        refine E_callL (p' := 272) (L0 := [some (aI ((lkR R O x (j + 1) : Nat) : Int)), some (aI ((lkR R O (x + 1) j : Nat) : Int))]) rfl rfl rfl ?_
        refine m_greater (fun h_3 => ?_) (fun h_4 => ?_)
        · refine E_go (p' := 272) (L' := [some (aA 124), some (aI ((i : Nat) : Int)), some (aI ((k : Nat) : Int)), some (aI ((x : Nat) : Int)), some (aI ((lkR R O x j : Nat) : Int)), some (aI ((j : Nat) : Int)), some (aI ((lkR R O x (j + 1) : Nat) : Int)), some (aI 0)]) (st' := [aI ((lkR R O x (j + 1) : Nat) : Int), aI ((j + 1 : Nat) : Int), aA 167]) rfl rfl rfl ?_
          refine E_ast (e := j + 1) (N := 61) rfl rfl (rfl) (by omega) ?_
          refine E_s (p' := 275) (st' := aI ((lkR R O x (j + 1) : Nat) : Int) :: _) rfl rfl ?_
          refine E_s (p' := 277) (L' := [some (aA 124), some (aI ((i : Nat) : Int)), some (aI ((k : Nat) : Int)), some (aI ((x : Nat) : Int)), some (aI ((lkR R O x (j + 1) : Nat) : Int)), some (aI ((j : Nat) : Int)), some (aI ((lkR R O x (j + 1) : Nat) : Int)), some (aI 0)]) rfl rfl ?_
          refine E_inc (x := ((j : Nat) : Int)) (w := ((j + 1 : Nat) : Int)) (L' := [some (aA 124), some (aI ((i : Nat) : Int)), some (aI ((k : Nat) : Int)), some (aI ((x : Nat) : Int)), some (aI ((lkR R O x (j + 1) : Nat) : Int)), some (aI ((j + 1 : Nat) : Int)), some (aI ((lkR R O x (j + 1) : Nat) : Int)), some (aI 0)]) rfl rfl rfl (by omega) (by omega) rfl ?_
          refine E_s (p' := 134) rfl rfl ?_
          have ha9 : alk R O x j = false := by
            unfold alk
            first
              | (rw [show sdR R x = false by assumption]; rfl)
              | (rw [sdR_f hs0]; simp)
              | (rw [decide_eq_false (p := Cc R x = Cc O j) (by omega)]; simp)
              | (rw [decide_eq_false (p := Rvl R x = Rvl O j) (by have := sdR_v (show sdR R x = true by assumption); omega)]; simp)
          refine ih (j + 1) _ _ _ (by omega) (by omega) (fun b z g1 => (up2_ne g1).trans (I0 b z g1)) (fun t ht9 => ?_) (fun t h1 h2 => (up2_sl (by omega)).trans (J2 t (by omega) h2))
          by_cases g9 : t = j + 1
          · rw [g9]
            refine up2_eq.trans ?_
            show _ = ((bif alk R O x j then lkR R O x j + 1 else max (lkR R O x (j + 1)) (lkR R O (x + 1) j) : Nat) : Int)
            rw [ha9]
            show _ = ((max (lkR R O x (j + 1)) (lkR R O (x + 1) j) : Nat) : Int)
            omega
          · exact (up2_sl g9).trans (J1 t (by omega))
        · refine E_go (p' := 272) (L' := [some (aA 124), some (aI ((i : Nat) : Int)), some (aI ((k : Nat) : Int)), some (aI ((x : Nat) : Int)), some (aI ((lkR R O x j : Nat) : Int)), some (aI ((j : Nat) : Int)), some (aI ((lkR R O x (j + 1) : Nat) : Int)), some (aI 0)]) (st' := [aI ((lkR R O (x + 1) j : Nat) : Int), aI ((j + 1 : Nat) : Int), aA 167]) rfl rfl rfl ?_
          refine E_ast (e := j + 1) (N := 61) rfl rfl (rfl) (by omega) ?_
          refine E_s (p' := 275) (st' := aI ((lkR R O x (j + 1) : Nat) : Int) :: _) rfl rfl ?_
          refine E_s (p' := 277) (L' := [some (aA 124), some (aI ((i : Nat) : Int)), some (aI ((k : Nat) : Int)), some (aI ((x : Nat) : Int)), some (aI ((lkR R O x (j + 1) : Nat) : Int)), some (aI ((j : Nat) : Int)), some (aI ((lkR R O x (j + 1) : Nat) : Int)), some (aI 0)]) rfl rfl ?_
          refine E_inc (x := ((j : Nat) : Int)) (w := ((j + 1 : Nat) : Int)) (L' := [some (aA 124), some (aI ((i : Nat) : Int)), some (aI ((k : Nat) : Int)), some (aI ((x : Nat) : Int)), some (aI ((lkR R O x (j + 1) : Nat) : Int)), some (aI ((j + 1 : Nat) : Int)), some (aI ((lkR R O x (j + 1) : Nat) : Int)), some (aI 0)]) rfl rfl rfl (by omega) (by omega) rfl ?_
          refine E_s (p' := 134) rfl rfl ?_
          have ha9 : alk R O x j = false := by
            unfold alk
            first
              | (rw [show sdR R x = false by assumption]; rfl)
              | (rw [sdR_f hs0]; simp)
              | (rw [decide_eq_false (p := Cc R x = Cc O j) (by omega)]; simp)
              | (rw [decide_eq_false (p := Rvl R x = Rvl O j) (by have := sdR_v (show sdR R x = true by assumption); omega)]; simp)
          refine ih (j + 1) _ _ _ (by omega) (by omega) (fun b z g1 => (up2_ne g1).trans (I0 b z g1)) (fun t ht9 => ?_) (fun t h1 h2 => (up2_sl (by omega)).trans (J2 t (by omega) h2))
          by_cases g9 : t = j + 1
          · rw [g9]
            refine up2_eq.trans ?_
            show _ = ((bif alk R O x j then lkR R O x j + 1 else max (lkR R O x (j + 1)) (lkR R O (x + 1) j) : Nat) : Int)
            rw [ha9]
            show _ = ((max (lkR R O x (j + 1)) (lkR R O (x + 1) j) : Nat) : Int)
            omega
          · exact (up2_sl g9).trans (J1 t (by omega))
      · refine E_go (p' := 165) (L' := [some (aA 124), some (aI ((i : Nat) : Int)), some (aI ((k : Nat) : Int)), some (aI ((x : Nat) : Int)), some (aI ((lkR R O x j : Nat) : Int)), some (aI ((j : Nat) : Int)), some (aI ((lkR R O x (j + 1) : Nat) : Int)), x7]) (st' := []) rfl rfl rfl ?_
        refine E_s (p' := 166) (st' := aA 124 :: _) rfl rfl ?_
        refine E_s (p' := 167) (st' := aI ((k : Nat) : Int) :: _) rfl rfl ?_
        refine E_s (p' := 169) (st' := aI ((j : Nat) : Int) :: _) rfl rfl ?_
        refine E_callV (k' := 158) (a := 124) (r := []) (L0 := [some (aA 124), some (aI ((k : Nat) : Int)), some (aI ((j : Nat) : Int))]) rfl rfl rfl rfl rfl rfl rfl rfl rfl rfl ?_
        refine m_isSure hk4 (hMo.of (fun b z g1 g2 => I0 b z (by omega))) hVo (c := j) (by omega) ((I0 _ _ (by omega)).trans (hnm _ (by omega))) (fun hs1 hs2 => ?_) (fun hs0 => ?_)
        · refine E_go (p' := 172) (L' := [some (aA 124), some (aI ((i : Nat) : Int)), some (aI ((k : Nat) : Int)), some (aI ((x : Nat) : Int)), some (aI ((lkR R O x j : Nat) : Int)), some (aI ((j : Nat) : Int)), some (aI ((lkR R O x (j + 1) : Nat) : Int)), x7]) (st' := [aI 1]) rfl rfl rfl ?_
          refine E_s (p' := 175) rfl rfl ?_
          refine E_s (p' := 176) (st' := aA 124 :: _) rfl rfl ?_
          refine E_gA (b := 149) rfl rfl rfl rfl rfl rfl ?_
          refine E_s (p' := 180) (st' := aI ((x : Nat) : Int) :: _) rfl rfl ?_
          refine E_ald (e := x) (N := 60) (v := (((Rtd R x)))) rfl rfl (rfl) (by omega) ((I0 _ _ (by omega)).trans (hot _ (by omega))) ?_
          refine E_s (p' := 182) (st' := aA 124 :: _) rfl rfl ?_
          refine E_gA (b := 148) rfl rfl rfl rfl rfl rfl ?_
          refine E_s (p' := 187) (st' := aI ((j : Nat) : Int) :: _) rfl rfl ?_
          refine E_ald (e := j) (N := 60) (v := (((Rtd O j)))) rfl rfl (rfl) (by omega) ((I0 _ _ (by omega)).trans (hnm _ (by omega))) ?_
          refine E_icmp_ne (x := (((Rtd R x)))) (y := (((Rtd O j)))) rfl (by decide) (fun h_5 => ?_) (fun h_5 => ?_)
          · refine E_go (p' := 221) (L' := [some (aA 124), some (aI ((i : Nat) : Int)), some (aI ((k : Nat) : Int)), some (aI ((x : Nat) : Int)), some (aI ((lkR R O x j : Nat) : Int)), some (aI ((j : Nat) : Int)), some (aI ((lkR R O x (j + 1) : Nat) : Int)), x7]) (st' := []) rfl rfl rfl ?_
            refine E_s (p' := 222) (st' := aI 0 :: _) rfl rfl ?_
            refine E_s (p' := 224) (L' := [some (aA 124), some (aI ((i : Nat) : Int)), some (aI ((k : Nat) : Int)), some (aI ((x : Nat) : Int)), some (aI ((lkR R O x j : Nat) : Int)), some (aI ((j : Nat) : Int)), some (aI ((lkR R O x (j + 1) : Nat) : Int)), some (aI 0)]) rfl rfl ?_
            refine E_s (p' := 226) (st' := aI 0 :: _) rfl rfl ?_
            refine E_s (p' := 245) rfl rfl ?_
            refine E_s (p' := 246) (st' := aA 124 :: _) rfl rfl ?_
            refine E_gA (b := 167) rfl rfl rfl rfl rfl rfl ?_
            refine E_s (p' := 251) (st' := aI ((j : Nat) : Int) :: _) rfl rfl ?_
            refine E_s (p' := 252) (st' := aI 1 :: _) rfl rfl ?_
            refine E_add (v := ((j + 1 : Nat) : Int)) rfl (by omega) (by omega) ?_
            refine E_s (p' := 254) (st' := aA 124 :: _) rfl rfl ?_
            refine E_gA (b := 167) rfl rfl rfl rfl rfl rfl ?_
            refine E_s (p' := 259) (st' := aI ((j : Nat) : Int) :: _) rfl rfl ?_
            refine E_s (p' := 260) (st' := aI 1 :: _) rfl rfl ?_
            refine E_add (v := ((j + 1 : Nat) : Int)) rfl (by omega) (by omega) ?_
            refine E_ald (e := j + 1) (N := 61) (v := ((lkR R O x (j + 1) : Nat) : Int)) rfl rfl (rfl) (by omega) (J2 _ (by omega) (by omega)) ?_
            refine E_s (p' := 263) (st' := aA 124 :: _) rfl rfl ?_
            refine E_gA (b := 167) rfl rfl rfl rfl rfl rfl ?_
            refine E_s (p' := 268) (st' := aI ((j : Nat) : Int) :: _) rfl rfl ?_
            refine E_ald (e := j) (N := 61) (v := ((lkR R O (x + 1) j : Nat) : Int)) rfl rfl (rfl) (by omega) (J1 _ (by omega)) ?_
            refine E_callL (p' := 272) (L0 := [some (aI ((lkR R O x (j + 1) : Nat) : Int)), some (aI ((lkR R O (x + 1) j : Nat) : Int))]) rfl rfl rfl ?_
            refine m_greater (fun h_6 => ?_) (fun h_7 => ?_)
            · refine E_go (p' := 272) (L' := [some (aA 124), some (aI ((i : Nat) : Int)), some (aI ((k : Nat) : Int)), some (aI ((x : Nat) : Int)), some (aI ((lkR R O x j : Nat) : Int)), some (aI ((j : Nat) : Int)), some (aI ((lkR R O x (j + 1) : Nat) : Int)), some (aI 0)]) (st' := [aI ((lkR R O x (j + 1) : Nat) : Int), aI ((j + 1 : Nat) : Int), aA 167]) rfl rfl rfl ?_
              refine E_ast (e := j + 1) (N := 61) rfl rfl (rfl) (by omega) ?_
              refine E_s (p' := 275) (st' := aI ((lkR R O x (j + 1) : Nat) : Int) :: _) rfl rfl ?_
              refine E_s (p' := 277) (L' := [some (aA 124), some (aI ((i : Nat) : Int)), some (aI ((k : Nat) : Int)), some (aI ((x : Nat) : Int)), some (aI ((lkR R O x (j + 1) : Nat) : Int)), some (aI ((j : Nat) : Int)), some (aI ((lkR R O x (j + 1) : Nat) : Int)), some (aI 0)]) rfl rfl ?_
              refine E_inc (x := ((j : Nat) : Int)) (w := ((j + 1 : Nat) : Int)) (L' := [some (aA 124), some (aI ((i : Nat) : Int)), some (aI ((k : Nat) : Int)), some (aI ((x : Nat) : Int)), some (aI ((lkR R O x (j + 1) : Nat) : Int)), some (aI ((j + 1 : Nat) : Int)), some (aI ((lkR R O x (j + 1) : Nat) : Int)), some (aI 0)]) rfl rfl rfl (by omega) (by omega) rfl ?_
              refine E_s (p' := 134) rfl rfl ?_
              have ha9 : alk R O x j = false := by
                unfold alk
                first
                  | (rw [show sdR R x = false by assumption]; rfl)
                  | (rw [sdR_f hs0]; simp)
                  | (rw [decide_eq_false (p := Cc R x = Cc O j) (by omega)]; simp)
                  | (rw [decide_eq_false (p := Rvl R x = Rvl O j) (by have := sdR_v (show sdR R x = true by assumption); omega)]; simp)
              refine ih (j + 1) _ _ _ (by omega) (by omega) (fun b z g1 => (up2_ne g1).trans (I0 b z g1)) (fun t ht9 => ?_) (fun t h1 h2 => (up2_sl (by omega)).trans (J2 t (by omega) h2))
              by_cases g9 : t = j + 1
              · rw [g9]
                refine up2_eq.trans ?_
                show _ = ((bif alk R O x j then lkR R O x j + 1 else max (lkR R O x (j + 1)) (lkR R O (x + 1) j) : Nat) : Int)
                rw [ha9]
                show _ = ((max (lkR R O x (j + 1)) (lkR R O (x + 1) j) : Nat) : Int)
                omega
              · exact (up2_sl g9).trans (J1 t (by omega))
            · refine E_go (p' := 272) (L' := [some (aA 124), some (aI ((i : Nat) : Int)), some (aI ((k : Nat) : Int)), some (aI ((x : Nat) : Int)), some (aI ((lkR R O x j : Nat) : Int)), some (aI ((j : Nat) : Int)), some (aI ((lkR R O x (j + 1) : Nat) : Int)), some (aI 0)]) (st' := [aI ((lkR R O (x + 1) j : Nat) : Int), aI ((j + 1 : Nat) : Int), aA 167]) rfl rfl rfl ?_
              refine E_ast (e := j + 1) (N := 61) rfl rfl (rfl) (by omega) ?_
              refine E_s (p' := 275) (st' := aI ((lkR R O x (j + 1) : Nat) : Int) :: _) rfl rfl ?_
              refine E_s (p' := 277) (L' := [some (aA 124), some (aI ((i : Nat) : Int)), some (aI ((k : Nat) : Int)), some (aI ((x : Nat) : Int)), some (aI ((lkR R O x (j + 1) : Nat) : Int)), some (aI ((j : Nat) : Int)), some (aI ((lkR R O x (j + 1) : Nat) : Int)), some (aI 0)]) rfl rfl ?_
              refine E_inc (x := ((j : Nat) : Int)) (w := ((j + 1 : Nat) : Int)) (L' := [some (aA 124), some (aI ((i : Nat) : Int)), some (aI ((k : Nat) : Int)), some (aI ((x : Nat) : Int)), some (aI ((lkR R O x (j + 1) : Nat) : Int)), some (aI ((j + 1 : Nat) : Int)), some (aI ((lkR R O x (j + 1) : Nat) : Int)), some (aI 0)]) rfl rfl rfl (by omega) (by omega) rfl ?_
              refine E_s (p' := 134) rfl rfl ?_
              have ha9 : alk R O x j = false := by
                unfold alk
                first
                  | (rw [show sdR R x = false by assumption]; rfl)
                  | (rw [sdR_f hs0]; simp)
                  | (rw [decide_eq_false (p := Cc R x = Cc O j) (by omega)]; simp)
                  | (rw [decide_eq_false (p := Rvl R x = Rvl O j) (by have := sdR_v (show sdR R x = true by assumption); omega)]; simp)
              refine ih (j + 1) _ _ _ (by omega) (by omega) (fun b z g1 => (up2_ne g1).trans (I0 b z g1)) (fun t ht9 => ?_) (fun t h1 h2 => (up2_sl (by omega)).trans (J2 t (by omega) h2))
              by_cases g9 : t = j + 1
              · rw [g9]
                refine up2_eq.trans ?_
                show _ = ((bif alk R O x j then lkR R O x j + 1 else max (lkR R O x (j + 1)) (lkR R O (x + 1) j) : Nat) : Int)
                rw [ha9]
                show _ = ((max (lkR R O x (j + 1)) (lkR R O (x + 1) j) : Nat) : Int)
                omega
              · exact (up2_sl g9).trans (J1 t (by omega))
          · refine E_go (p' := 191) (L' := [some (aA 124), some (aI ((i : Nat) : Int)), some (aI ((k : Nat) : Int)), some (aI ((x : Nat) : Int)), some (aI ((lkR R O x j : Nat) : Int)), some (aI ((j : Nat) : Int)), some (aI ((lkR R O x (j + 1) : Nat) : Int)), x7]) (st' := []) rfl rfl rfl ?_
            refine E_s (p' := 192) (st' := aA 124 :: _) rfl rfl ?_
            refine E_gA (b := 129) rfl rfl rfl rfl rfl rfl ?_
            refine E_s (p' := 197) (st' := aI 60 :: _) rfl rfl ?_
            refine E_s (p' := 198) (st' := aI ((i : Nat) : Int) :: _) rfl rfl ?_
            refine E_mul (v := ((60 * i : Nat) : Int)) rfl (by omega) (by omega) ?_
            refine E_s (p' := 200) (st' := aI ((x : Nat) : Int) :: _) rfl rfl ?_
            refine E_add (v := ((60 * i + x : Nat) : Int)) rfl (by omega) (by omega) ?_
            refine E_ald (e := 60 * i + x) (N := 240) (v := ((Cc R x : Nat) : Int)) rfl rfl (rfl) (by omega) ((I0 _ _ (by omega)).trans (MR_129 hM (by omega) rfl)) ?_
            refine E_s (p' := 203) (st' := aA 124 :: _) rfl rfl ?_
            refine E_gA (b := 129) rfl rfl rfl rfl rfl rfl ?_
            refine E_s (p' := 208) (st' := aI 60 :: _) rfl rfl ?_
            refine E_s (p' := 209) (st' := aI ((k : Nat) : Int) :: _) rfl rfl ?_
            refine E_mul (v := ((60 * k : Nat) : Int)) rfl (by omega) (by omega) ?_
            refine E_s (p' := 212) (st' := aI ((j : Nat) : Int) :: _) rfl rfl ?_
            refine E_add (v := ((60 * k + j : Nat) : Int)) rfl (by omega) (by omega) ?_
            refine E_ald (e := 60 * k + j) (N := 240) (v := ((Cc O j : Nat) : Int)) rfl rfl (rfl) (by omega) ((I0 _ _ (by omega)).trans (MR_129 hMo (by omega) rfl)) ?_
            refine E_icmp_ne (x := ((Cc R x : Nat) : Int)) (y := ((Cc O j : Nat) : Int)) rfl (by decide) (fun h_8 => ?_) (fun h_8 => ?_)
            · refine E_go (p' := 221) (L' := [some (aA 124), some (aI ((i : Nat) : Int)), some (aI ((k : Nat) : Int)), some (aI ((x : Nat) : Int)), some (aI ((lkR R O x j : Nat) : Int)), some (aI ((j : Nat) : Int)), some (aI ((lkR R O x (j + 1) : Nat) : Int)), x7]) (st' := []) rfl rfl rfl ?_
              refine E_s (p' := 222) (st' := aI 0 :: _) rfl rfl ?_
              refine E_s (p' := 224) (L' := [some (aA 124), some (aI ((i : Nat) : Int)), some (aI ((k : Nat) : Int)), some (aI ((x : Nat) : Int)), some (aI ((lkR R O x j : Nat) : Int)), some (aI ((j : Nat) : Int)), some (aI ((lkR R O x (j + 1) : Nat) : Int)), some (aI 0)]) rfl rfl ?_
              refine E_s (p' := 226) (st' := aI 0 :: _) rfl rfl ?_
              refine E_s (p' := 245) rfl rfl ?_
              refine E_s (p' := 246) (st' := aA 124 :: _) rfl rfl ?_
              refine E_gA (b := 167) rfl rfl rfl rfl rfl rfl ?_
              refine E_s (p' := 251) (st' := aI ((j : Nat) : Int) :: _) rfl rfl ?_
              refine E_s (p' := 252) (st' := aI 1 :: _) rfl rfl ?_
              refine E_add (v := ((j + 1 : Nat) : Int)) rfl (by omega) (by omega) ?_
              refine E_s (p' := 254) (st' := aA 124 :: _) rfl rfl ?_
              refine E_gA (b := 167) rfl rfl rfl rfl rfl rfl ?_
              refine E_s (p' := 259) (st' := aI ((j : Nat) : Int) :: _) rfl rfl ?_
              refine E_s (p' := 260) (st' := aI 1 :: _) rfl rfl ?_
              refine E_add (v := ((j + 1 : Nat) : Int)) rfl (by omega) (by omega) ?_
              refine E_ald (e := j + 1) (N := 61) (v := ((lkR R O x (j + 1) : Nat) : Int)) rfl rfl (rfl) (by omega) (J2 _ (by omega) (by omega)) ?_
              refine E_s (p' := 263) (st' := aA 124 :: _) rfl rfl ?_
              refine E_gA (b := 167) rfl rfl rfl rfl rfl rfl ?_
              refine E_s (p' := 268) (st' := aI ((j : Nat) : Int) :: _) rfl rfl ?_
              refine E_ald (e := j) (N := 61) (v := ((lkR R O (x + 1) j : Nat) : Int)) rfl rfl (rfl) (by omega) (J1 _ (by omega)) ?_
              refine E_callL (p' := 272) (L0 := [some (aI ((lkR R O x (j + 1) : Nat) : Int)), some (aI ((lkR R O (x + 1) j : Nat) : Int))]) rfl rfl rfl ?_
              refine m_greater (fun h_9 => ?_) (fun h_10 => ?_)
              · refine E_go (p' := 272) (L' := [some (aA 124), some (aI ((i : Nat) : Int)), some (aI ((k : Nat) : Int)), some (aI ((x : Nat) : Int)), some (aI ((lkR R O x j : Nat) : Int)), some (aI ((j : Nat) : Int)), some (aI ((lkR R O x (j + 1) : Nat) : Int)), some (aI 0)]) (st' := [aI ((lkR R O x (j + 1) : Nat) : Int), aI ((j + 1 : Nat) : Int), aA 167]) rfl rfl rfl ?_
                refine E_ast (e := j + 1) (N := 61) rfl rfl (rfl) (by omega) ?_
                refine E_s (p' := 275) (st' := aI ((lkR R O x (j + 1) : Nat) : Int) :: _) rfl rfl ?_
                refine E_s (p' := 277) (L' := [some (aA 124), some (aI ((i : Nat) : Int)), some (aI ((k : Nat) : Int)), some (aI ((x : Nat) : Int)), some (aI ((lkR R O x (j + 1) : Nat) : Int)), some (aI ((j : Nat) : Int)), some (aI ((lkR R O x (j + 1) : Nat) : Int)), some (aI 0)]) rfl rfl ?_
                refine E_inc (x := ((j : Nat) : Int)) (w := ((j + 1 : Nat) : Int)) (L' := [some (aA 124), some (aI ((i : Nat) : Int)), some (aI ((k : Nat) : Int)), some (aI ((x : Nat) : Int)), some (aI ((lkR R O x (j + 1) : Nat) : Int)), some (aI ((j + 1 : Nat) : Int)), some (aI ((lkR R O x (j + 1) : Nat) : Int)), some (aI 0)]) rfl rfl rfl (by omega) (by omega) rfl ?_
                refine E_s (p' := 134) rfl rfl ?_
                have ha9 : alk R O x j = false := by
                  unfold alk
                  first
                    | (rw [show sdR R x = false by assumption]; rfl)
                    | (rw [sdR_f hs0]; simp)
                    | (rw [decide_eq_false (p := Cc R x = Cc O j) (by omega)]; simp)
                    | (rw [decide_eq_false (p := Rvl R x = Rvl O j) (by have := sdR_v (show sdR R x = true by assumption); omega)]; simp)
                refine ih (j + 1) _ _ _ (by omega) (by omega) (fun b z g1 => (up2_ne g1).trans (I0 b z g1)) (fun t ht9 => ?_) (fun t h1 h2 => (up2_sl (by omega)).trans (J2 t (by omega) h2))
                by_cases g9 : t = j + 1
                · rw [g9]
                  refine up2_eq.trans ?_
                  show _ = ((bif alk R O x j then lkR R O x j + 1 else max (lkR R O x (j + 1)) (lkR R O (x + 1) j) : Nat) : Int)
                  rw [ha9]
                  show _ = ((max (lkR R O x (j + 1)) (lkR R O (x + 1) j) : Nat) : Int)
                  omega
                · exact (up2_sl g9).trans (J1 t (by omega))
              · refine E_go (p' := 272) (L' := [some (aA 124), some (aI ((i : Nat) : Int)), some (aI ((k : Nat) : Int)), some (aI ((x : Nat) : Int)), some (aI ((lkR R O x j : Nat) : Int)), some (aI ((j : Nat) : Int)), some (aI ((lkR R O x (j + 1) : Nat) : Int)), some (aI 0)]) (st' := [aI ((lkR R O (x + 1) j : Nat) : Int), aI ((j + 1 : Nat) : Int), aA 167]) rfl rfl rfl ?_
                refine E_ast (e := j + 1) (N := 61) rfl rfl (rfl) (by omega) ?_
                refine E_s (p' := 275) (st' := aI ((lkR R O x (j + 1) : Nat) : Int) :: _) rfl rfl ?_
                refine E_s (p' := 277) (L' := [some (aA 124), some (aI ((i : Nat) : Int)), some (aI ((k : Nat) : Int)), some (aI ((x : Nat) : Int)), some (aI ((lkR R O x (j + 1) : Nat) : Int)), some (aI ((j : Nat) : Int)), some (aI ((lkR R O x (j + 1) : Nat) : Int)), some (aI 0)]) rfl rfl ?_
                refine E_inc (x := ((j : Nat) : Int)) (w := ((j + 1 : Nat) : Int)) (L' := [some (aA 124), some (aI ((i : Nat) : Int)), some (aI ((k : Nat) : Int)), some (aI ((x : Nat) : Int)), some (aI ((lkR R O x (j + 1) : Nat) : Int)), some (aI ((j + 1 : Nat) : Int)), some (aI ((lkR R O x (j + 1) : Nat) : Int)), some (aI 0)]) rfl rfl rfl (by omega) (by omega) rfl ?_
                refine E_s (p' := 134) rfl rfl ?_
                have ha9 : alk R O x j = false := by
                  unfold alk
                  first
                    | (rw [show sdR R x = false by assumption]; rfl)
                    | (rw [sdR_f hs0]; simp)
                    | (rw [decide_eq_false (p := Cc R x = Cc O j) (by omega)]; simp)
                    | (rw [decide_eq_false (p := Rvl R x = Rvl O j) (by have := sdR_v (show sdR R x = true by assumption); omega)]; simp)
                refine ih (j + 1) _ _ _ (by omega) (by omega) (fun b z g1 => (up2_ne g1).trans (I0 b z g1)) (fun t ht9 => ?_) (fun t h1 h2 => (up2_sl (by omega)).trans (J2 t (by omega) h2))
                by_cases g9 : t = j + 1
                · rw [g9]
                  refine up2_eq.trans ?_
                  show _ = ((bif alk R O x j then lkR R O x j + 1 else max (lkR R O x (j + 1)) (lkR R O (x + 1) j) : Nat) : Int)
                  rw [ha9]
                  show _ = ((max (lkR R O x (j + 1)) (lkR R O (x + 1) j) : Nat) : Int)
                  omega
                · exact (up2_sl g9).trans (J1 t (by omega))
            · refine E_go (p' := 217) (L' := [some (aA 124), some (aI ((i : Nat) : Int)), some (aI ((k : Nat) : Int)), some (aI ((x : Nat) : Int)), some (aI ((lkR R O x j : Nat) : Int)), some (aI ((j : Nat) : Int)), some (aI ((lkR R O x (j + 1) : Nat) : Int)), x7]) (st' := []) rfl rfl rfl ?_
              refine E_s (p' := 218) (st' := aI 1 :: _) rfl rfl ?_
              refine E_s (p' := 222) rfl rfl ?_
              refine E_s (p' := 224) (L' := [some (aA 124), some (aI ((i : Nat) : Int)), some (aI ((k : Nat) : Int)), some (aI ((x : Nat) : Int)), some (aI ((lkR R O x j : Nat) : Int)), some (aI ((j : Nat) : Int)), some (aI ((lkR R O x (j + 1) : Nat) : Int)), some (aI 1)]) rfl rfl ?_
              refine E_s (p' := 226) (st' := aI 1 :: _) rfl rfl ?_
              refine E_s (p' := 229) rfl rfl ?_
              refine E_s (p' := 230) (st' := aA 124 :: _) rfl rfl ?_
              refine E_gA (b := 167) rfl rfl rfl rfl rfl rfl ?_
              refine E_s (p' := 235) (st' := aI ((j : Nat) : Int) :: _) rfl rfl ?_
              refine E_s (p' := 236) (st' := aI 1 :: _) rfl rfl ?_
              refine E_add (v := ((j + 1 : Nat) : Int)) rfl (by omega) (by omega) ?_
              refine E_s (p' := 239) (st' := aI ((lkR R O x j : Nat) : Int) :: _) rfl rfl ?_
              refine E_s (p' := 240) (st' := aI 1 :: _) rfl rfl ?_
              refine E_add (v := ((lkR R O x j + 1 : Nat) : Int)) rfl (by omega) (by omega) ?_
              refine E_ast (e := j + 1) (N := 61) rfl rfl (rfl) (by omega) ?_
              refine E_s (p' := 273) rfl rfl ?_
              refine E_s (p' := 275) (st' := aI ((lkR R O x (j + 1) : Nat) : Int) :: _) rfl rfl ?_
              refine E_s (p' := 277) (L' := [some (aA 124), some (aI ((i : Nat) : Int)), some (aI ((k : Nat) : Int)), some (aI ((x : Nat) : Int)), some (aI ((lkR R O x (j + 1) : Nat) : Int)), some (aI ((j : Nat) : Int)), some (aI ((lkR R O x (j + 1) : Nat) : Int)), some (aI 1)]) rfl rfl ?_
              refine E_inc (x := ((j : Nat) : Int)) (w := ((j + 1 : Nat) : Int)) (L' := [some (aA 124), some (aI ((i : Nat) : Int)), some (aI ((k : Nat) : Int)), some (aI ((x : Nat) : Int)), some (aI ((lkR R O x (j + 1) : Nat) : Int)), some (aI ((j + 1 : Nat) : Int)), some (aI ((lkR R O x (j + 1) : Nat) : Int)), some (aI 1)]) rfl rfl rfl (by omega) (by omega) rfl ?_
              refine E_s (p' := 134) rfl rfl ?_
              have ha9 : alk R O x j = true := by
                unfold alk
                rw [show sdR R x = true by assumption, sdR_t hs1 hs2, decide_eq_true (p := Rvl R x = Rvl O j) (by have := sdR_v (show sdR R x = true by assumption); omega), decide_eq_true (p := Cc R x = Cc O j) (by omega)]; rfl
              refine ih (j + 1) _ _ _ (by omega) (by omega) (fun b z g1 => (up2_ne g1).trans (I0 b z g1)) (fun t ht9 => ?_) (fun t h1 h2 => (up2_sl (by omega)).trans (J2 t (by omega) h2))
              by_cases g9 : t = j + 1
              · rw [g9]
                refine up2_eq.trans ?_
                show _ = ((bif alk R O x j then lkR R O x j + 1 else max (lkR R O x (j + 1)) (lkR R O (x + 1) j) : Nat) : Int)
                rw [ha9]
                rfl
              · exact (up2_sl g9).trans (J1 t (by omega))
        · refine E_go (p' := 172) (L' := [some (aA 124), some (aI ((i : Nat) : Int)), some (aI ((k : Nat) : Int)), some (aI ((x : Nat) : Int)), some (aI ((lkR R O x j : Nat) : Int)), some (aI ((j : Nat) : Int)), some (aI ((lkR R O x (j + 1) : Nat) : Int)), x7]) (st' := [aI 0]) rfl rfl rfl ?_
          refine E_s (p' := 221) rfl rfl ?_
          refine E_s (p' := 222) (st' := aI 0 :: _) rfl rfl ?_
          refine E_s (p' := 224) (L' := [some (aA 124), some (aI ((i : Nat) : Int)), some (aI ((k : Nat) : Int)), some (aI ((x : Nat) : Int)), some (aI ((lkR R O x j : Nat) : Int)), some (aI ((j : Nat) : Int)), some (aI ((lkR R O x (j + 1) : Nat) : Int)), some (aI 0)]) rfl rfl ?_
          refine E_s (p' := 226) (st' := aI 0 :: _) rfl rfl ?_
          refine E_s (p' := 245) rfl rfl ?_
          refine E_s (p' := 246) (st' := aA 124 :: _) rfl rfl ?_
          refine E_gA (b := 167) rfl rfl rfl rfl rfl rfl ?_
          refine E_s (p' := 251) (st' := aI ((j : Nat) : Int) :: _) rfl rfl ?_
          refine E_s (p' := 252) (st' := aI 1 :: _) rfl rfl ?_
          refine E_add (v := ((j + 1 : Nat) : Int)) rfl (by omega) (by omega) ?_
          refine E_s (p' := 254) (st' := aA 124 :: _) rfl rfl ?_
          refine E_gA (b := 167) rfl rfl rfl rfl rfl rfl ?_
          refine E_s (p' := 259) (st' := aI ((j : Nat) : Int) :: _) rfl rfl ?_
          refine E_s (p' := 260) (st' := aI 1 :: _) rfl rfl ?_
          refine E_add (v := ((j + 1 : Nat) : Int)) rfl (by omega) (by omega) ?_
          refine E_ald (e := j + 1) (N := 61) (v := ((lkR R O x (j + 1) : Nat) : Int)) rfl rfl (rfl) (by omega) (J2 _ (by omega) (by omega)) ?_
          refine E_s (p' := 263) (st' := aA 124 :: _) rfl rfl ?_
          refine E_gA (b := 167) rfl rfl rfl rfl rfl rfl ?_
          refine E_s (p' := 268) (st' := aI ((j : Nat) : Int) :: _) rfl rfl ?_
          refine E_ald (e := j) (N := 61) (v := ((lkR R O (x + 1) j : Nat) : Int)) rfl rfl (rfl) (by omega) (J1 _ (by omega)) ?_
          refine E_callL (p' := 272) (L0 := [some (aI ((lkR R O x (j + 1) : Nat) : Int)), some (aI ((lkR R O (x + 1) j : Nat) : Int))]) rfl rfl rfl ?_
          refine m_greater (fun h_11 => ?_) (fun h_12 => ?_)
          · refine E_go (p' := 272) (L' := [some (aA 124), some (aI ((i : Nat) : Int)), some (aI ((k : Nat) : Int)), some (aI ((x : Nat) : Int)), some (aI ((lkR R O x j : Nat) : Int)), some (aI ((j : Nat) : Int)), some (aI ((lkR R O x (j + 1) : Nat) : Int)), some (aI 0)]) (st' := [aI ((lkR R O x (j + 1) : Nat) : Int), aI ((j + 1 : Nat) : Int), aA 167]) rfl rfl rfl ?_
            refine E_ast (e := j + 1) (N := 61) rfl rfl (rfl) (by omega) ?_
            refine E_s (p' := 275) (st' := aI ((lkR R O x (j + 1) : Nat) : Int) :: _) rfl rfl ?_
            refine E_s (p' := 277) (L' := [some (aA 124), some (aI ((i : Nat) : Int)), some (aI ((k : Nat) : Int)), some (aI ((x : Nat) : Int)), some (aI ((lkR R O x (j + 1) : Nat) : Int)), some (aI ((j : Nat) : Int)), some (aI ((lkR R O x (j + 1) : Nat) : Int)), some (aI 0)]) rfl rfl ?_
            refine E_inc (x := ((j : Nat) : Int)) (w := ((j + 1 : Nat) : Int)) (L' := [some (aA 124), some (aI ((i : Nat) : Int)), some (aI ((k : Nat) : Int)), some (aI ((x : Nat) : Int)), some (aI ((lkR R O x (j + 1) : Nat) : Int)), some (aI ((j + 1 : Nat) : Int)), some (aI ((lkR R O x (j + 1) : Nat) : Int)), some (aI 0)]) rfl rfl rfl (by omega) (by omega) rfl ?_
            refine E_s (p' := 134) rfl rfl ?_
            have ha9 : alk R O x j = false := by
              unfold alk
              first
                | (rw [show sdR R x = false by assumption]; rfl)
                | (rw [sdR_f hs0]; simp)
                | (rw [decide_eq_false (p := Cc R x = Cc O j) (by omega)]; simp)
                | (rw [decide_eq_false (p := Rvl R x = Rvl O j) (by have := sdR_v (show sdR R x = true by assumption); omega)]; simp)
            refine ih (j + 1) _ _ _ (by omega) (by omega) (fun b z g1 => (up2_ne g1).trans (I0 b z g1)) (fun t ht9 => ?_) (fun t h1 h2 => (up2_sl (by omega)).trans (J2 t (by omega) h2))
            by_cases g9 : t = j + 1
            · rw [g9]
              refine up2_eq.trans ?_
              show _ = ((bif alk R O x j then lkR R O x j + 1 else max (lkR R O x (j + 1)) (lkR R O (x + 1) j) : Nat) : Int)
              rw [ha9]
              show _ = ((max (lkR R O x (j + 1)) (lkR R O (x + 1) j) : Nat) : Int)
              omega
            · exact (up2_sl g9).trans (J1 t (by omega))
          · refine E_go (p' := 272) (L' := [some (aA 124), some (aI ((i : Nat) : Int)), some (aI ((k : Nat) : Int)), some (aI ((x : Nat) : Int)), some (aI ((lkR R O x j : Nat) : Int)), some (aI ((j : Nat) : Int)), some (aI ((lkR R O x (j + 1) : Nat) : Int)), some (aI 0)]) (st' := [aI ((lkR R O (x + 1) j : Nat) : Int), aI ((j + 1 : Nat) : Int), aA 167]) rfl rfl rfl ?_
            refine E_ast (e := j + 1) (N := 61) rfl rfl (rfl) (by omega) ?_
            refine E_s (p' := 275) (st' := aI ((lkR R O x (j + 1) : Nat) : Int) :: _) rfl rfl ?_
            refine E_s (p' := 277) (L' := [some (aA 124), some (aI ((i : Nat) : Int)), some (aI ((k : Nat) : Int)), some (aI ((x : Nat) : Int)), some (aI ((lkR R O x (j + 1) : Nat) : Int)), some (aI ((j : Nat) : Int)), some (aI ((lkR R O x (j + 1) : Nat) : Int)), some (aI 0)]) rfl rfl ?_
            refine E_inc (x := ((j : Nat) : Int)) (w := ((j + 1 : Nat) : Int)) (L' := [some (aA 124), some (aI ((i : Nat) : Int)), some (aI ((k : Nat) : Int)), some (aI ((x : Nat) : Int)), some (aI ((lkR R O x (j + 1) : Nat) : Int)), some (aI ((j + 1 : Nat) : Int)), some (aI ((lkR R O x (j + 1) : Nat) : Int)), some (aI 0)]) rfl rfl rfl (by omega) (by omega) rfl ?_
            refine E_s (p' := 134) rfl rfl ?_
            have ha9 : alk R O x j = false := by
              unfold alk
              first
                | (rw [show sdR R x = false by assumption]; rfl)
                | (rw [sdR_f hs0]; simp)
                | (rw [decide_eq_false (p := Cc R x = Cc O j) (by omega)]; simp)
                | (rw [decide_eq_false (p := Rvl R x = Rvl O j) (by have := sdR_v (show sdR R x = true by assumption); omega)]; simp)
            refine ih (j + 1) _ _ _ (by omega) (by omega) (fun b z g1 => (up2_ne g1).trans (I0 b z g1)) (fun t ht9 => ?_) (fun t h1 h2 => (up2_sl (by omega)).trans (J2 t (by omega) h2))
            by_cases g9 : t = j + 1
            · rw [g9]
              refine up2_eq.trans ?_
              show _ = ((bif alk R O x j then lkR R O x j + 1 else max (lkR R O x (j + 1)) (lkR R O (x + 1) j) : Nat) : Int)
              rw [ha9]
              show _ = ((max (lkR R O x (j + 1)) (lkR R O (x + 1) j) : Nat) : Int)
              omega
            · exact (up2_sl g9).trans (J1 t (by omega))
theorem yl_lD (hi : i < 4) (hk4 : k < 4) (hM : MR R i m0) (hMo : MR O k m0) (hV : VR R) (hVo : VR O) (hsu : ∀ d, d < Cn R → m0 168 d = bi (sdR R d)) (hot : ∀ d, d < Cn R → m0 149 d = Rtd R d) (hnm : ∀ d, d < Cn O → m0 148 d = Rtd O d) (q : ∀ m1 : Mm, (∀ b z, b ≠ 167 → m1 b z = m0 b z) → Q (some (aI (lkR R O (Cn R) (Cn O) : Int))) (m1, tl len)) : ∀ (d : Nat) (x : Nat) (m : Mm) (x4 x5 x6 x7 : Option AV), (Cn R < x + d) → (x ≤ Cn R) → (∀ b z, b ≠ 167 → m b z = m0 b z) → (∀ t, t ≤ Cn O → m 167 t = (lkR R O x t : Int)) → E 181 118 [some (aA 124), some (aI ((i : Nat) : Int)), some (aI ((k : Nat) : Int)), some (aI ((x : Nat) : Int)), x4, x5, x6, x7] [] (m, tl len) Q := by
  intro d
  induction d with
  | zero => intro x m x4 x5 x6 x7 hd hx I0 J1; omega
  | succ d ih =>
    intro x m x4 x5 x6 x7 hd hx I0 J1
    have hn60 := hV.1
    have hn6o := hVo.1
    refine E_s (p' := 119) (st' := aI ((x : Nat) : Int) :: _) rfl rfl ?_
    refine E_s (p' := 120) (st' := aA 124 :: _) rfl rfl ?_
    refine E_gA (b := 125) rfl rfl rfl rfl rfl rfl ?_
    refine E_s (p' := 124) (st' := aI ((i : Nat) : Int) :: _) rfl rfl ?_
    refine E_ald (e := i) (N := 4) (v := ((Cn R : Nat) : Int)) rfl rfl (rfl) (by omega) ((I0 _ _ (by omega)).trans (MR_125 hM)) ?_
    refine E_icmp_ge (x := ((x : Nat) : Int)) (y := ((Cn R : Nat) : Int)) rfl (by decide) (fun h_1 => ?_) (fun h_1 => ?_)
    · refine E_go (p' := 289) (L' := [some (aA 124), some (aI ((i : Nat) : Int)), some (aI ((k : Nat) : Int)), some (aI ((x : Nat) : Int)), x4, x5, x6, x7]) (st' := []) rfl rfl rfl ?_
      refine E_s (p' := 290) (st' := aA 124 :: _) rfl rfl ?_
      refine E_gA (b := 167) rfl rfl rfl rfl rfl rfl ?_
      refine E_s (p' := 294) (st' := aA 124 :: _) rfl rfl ?_
      refine E_gA (b := 125) rfl rfl rfl rfl rfl rfl ?_
      refine E_s (p' := 298) (st' := aI ((k : Nat) : Int) :: _) rfl rfl ?_
      refine E_ald (e := k) (N := 4) (v := ((Cn O : Nat) : Int)) rfl rfl (rfl) (by omega) ((I0 _ _ (by omega)).trans (MR_125 hMo)) ?_
      refine E_ald (e := Cn O) (N := 61) (v := ((lkR R O (Cn R) (Cn O) : Nat) : Int)) rfl rfl (rfl) (by omega) (by rw [show Cn R = x by omega]; exact J1 _ (Nat.le_refl _)) ?_
      refine E_ret rfl rfl ?_
      exact q m I0
    · refine E_go (p' := 128) (L' := [some (aA 124), some (aI ((i : Nat) : Int)), some (aI ((k : Nat) : Int)), some (aI ((x : Nat) : Int)), x4, x5, x6, x7]) (st' := []) rfl rfl rfl ?_
      refine E_s (p' := 129) (st' := aI 0 :: _) rfl rfl ?_
      refine E_s (p' := 131) (L' := [some (aA 124), some (aI ((i : Nat) : Int)), some (aI ((k : Nat) : Int)), some (aI ((x : Nat) : Int)), some (aI 0), x5, x6, x7]) rfl rfl ?_
      refine E_s (p' := 132) (st' := aI 0 :: _) rfl rfl ?_
      refine E_s (p' := 134) (L' := [some (aA 124), some (aI ((i : Nat) : Int)), some (aI ((k : Nat) : Int)), some (aI ((x : Nat) : Int)), some (aI 0), some (aI 0), x6, x7]) rfl rfl ?_
      have e0 := lkR_z R O x
      have hE := yl_lE (Q := Q) (len := len) hi hk4 (hM.of (fun b z g1 g2 => I0 b z (by omega))) (hMo.of (fun b z g1 g2 => I0 b z (by omega))) hV hVo (fun d hd9 => (I0 _ _ (by omega)).trans (hsu d hd9)) (fun d hd9 => (I0 _ _ (by omega)).trans (hot d hd9)) (fun d hd9 => (I0 _ _ (by omega)).trans (hnm d hd9)) (x := x) (by omega) (fun m1 y4 y5 y6 y7 E1 E2 => ?_) (Cn O + 1) 0 m x6 x7 (by omega) (by omega) (fun b z _ => rfl) (fun t ht9 => by rw [show t = 0 by omega, J1 0 (by omega), lkR_z, lkR_z]) (fun t h1 h2 => J1 t h2)
      · rw [e0] at hE; exact hE
      refine E_inc (x := ((x : Nat) : Int)) (w := ((x + 1 : Nat) : Int)) (L' := [some (aA 124), some (aI ((i : Nat) : Int)), some (aI ((k : Nat) : Int)), some (aI ((x + 1 : Nat) : Int)), y4, y5, y6, y7]) rfl rfl rfl (by omega) (by omega) rfl ?_
      refine E_s (p' := 118) rfl rfl ?_
      exact ih (x + 1) m1 _ _ _ _ (by omega) (by omega) (fun b z g1 => (E1 b z g1).trans (I0 b z g1)) E2
end

section
variable {len : Nat} {m : Mm} {Q : Option AV → Sx → Prop} {S : Nat → RD} {r t : Int}
theorem M_likeness (hS : MS S m) (q : ∀ (v : Int) (m1 : Mm), spLike S r t v → MS S m1 → Co1 m m1 → Q (some (aI v)) (m1, tl len)) : E 181 0 [some (aA 124), some (aI (r)), some (aI (t)), none, none, none, none, none] [] (m, tl len) Q := by
  refine E_s (p' := 1) (st' := aI (r) :: _) rfl rfl ?_
  refine E_callL (p' := 4) (L0 := [some (aI (r))]) rfl rfl rfl ?_
  refine m_isRecord (fun i hi hr => ?_) (fun hr => ?_)
  · refine E_go (p' := 4) (L' := [some (aA 124), some (aI (r)), some (aI (t)), none, none, none, none, none]) (st' := [aI 1]) rfl rfl rfl ?_
    obtain ⟨hV, hM⟩ := hS i hi
    have hn60 := hV.1
    subst hr
    refine E_s (p' := 7) rfl rfl ?_
    refine E_s (p' := 8) (st' := aI (t) :: _) rfl rfl ?_
    refine E_callL (p' := 11) (L0 := [some (aI (t))]) rfl rfl rfl ?_
    refine m_isRecord (fun k hk ht9 => ?_) (fun hr => ?_)
    · refine E_go (p' := 11) (L' := [some (aA 124), some (aI ((i : Nat) : Int)), some (aI (t)), none, none, none, none, none]) (st' := [aI 1]) rfl rfl rfl ?_
      subst ht9
      obtain ⟨hVk, hMk⟩ := hS k hk
      have hn6k := hVk.1
      refine E_s (p' := 17) rfl rfl ?_
      refine E_s (p' := 18) (st' := aA 124 :: _) rfl rfl ?_
      refine E_s (p' := 19) (st' := aI ((i : Nat) : Int) :: _) rfl rfl ?_
      refine E_s (p' := 20) (st' := aA 124 :: _) rfl rfl ?_
      refine E_gA (b := 148) rfl rfl rfl rfl rfl rfl ?_
      refine E_callV (k' := 157) (a := 124) (r := []) (L0 := [some (aA 124), some (aI ((i : Nat) : Int)), some (aA 148), none]) rfl rfl rfl rfl rfl rfl rfl rfl rfl rfl ?_
      refine m_readAll hi (Or.inl rfl) hM hV (fun m1 K1 K2 K3 => ?_)
      refine E_go (p' := 26) (L' := [some (aA 124), some (aI ((i : Nat) : Int)), some (aI ((k : Nat) : Int)), none, none, none, none, none]) (st' := []) rfl rfl rfl ?_
      have F1 : FrL m m1 := fun b z g1 g2 g3 => K1 b z g1 (by omega) (by omega)
      have hM1 := F1.MR hM
      refine E_s (p' := 27) (st' := aI 0 :: _) rfl rfl ?_
      refine E_s (p' := 28) (L' := [some (aA 124), some (aI ((i : Nat) : Int)), some (aI ((k : Nat) : Int)), some (aI 0), none, none, none, none]) rfl rfl ?_
      refine yl_lA (k := k) hi hM1 hV K3 (fun m2 a1 a2 => ?_) (Cn (S i) + 1) 0 m1 (by omega) (by omega) (fun b z _ => rfl) (fun d hd9 => absurd hd9 (by omega))
      have F2 : FrL m m2 := F1.tr (fun b z g1 g2 g3 => a1 b z (by omega))
      refine E_s (p' := 57) (st' := aI 0 :: _) rfl rfl ?_
      refine E_s (p' := 58) (L' := [some (aA 124), some (aI ((i : Nat) : Int)), some (aI ((k : Nat) : Int)), some (aI 0), none, none, none, none]) rfl rfl ?_
      refine yl_lB (k := k) hi (F2.MR hM) hV (fun d hd9 => (a1 _ _ (by omega)).trans (K3 d hd9)) (fun m3 b1 b2 => ?_) (Cn (S i) + 1) 0 m2 (by omega) (by omega) (fun b z _ => rfl) (fun d hd9 => absurd hd9 (by omega))
      have F3 : FrL m m3 := F2.tr (fun b z g1 g2 g3 => b1 b z (by omega))
      refine E_s (p' := 87) (st' := aA 124 :: _) rfl rfl ?_
      refine E_s (p' := 88) (st' := aI ((k : Nat) : Int) :: _) rfl rfl ?_
      refine E_s (p' := 89) (st' := aA 124 :: _) rfl rfl ?_
      refine E_gA (b := 148) rfl rfl rfl rfl rfl rfl ?_
      refine E_callV (k' := 157) (a := 124) (r := []) (L0 := [some (aA 124), some (aI ((k : Nat) : Int)), some (aA 148), none]) rfl rfl rfl rfl rfl rfl rfl rfl rfl rfl ?_
      refine m_readAll hk (Or.inl rfl) (F3.MR hMk) hVk (fun m4 P1 P2 P3 => ?_)
      refine E_go (p' := 95) (L' := [some (aA 124), some (aI ((i : Nat) : Int)), some (aI ((k : Nat) : Int)), some (aI ((Cn (S i) : Nat) : Int)), none, none, none, none]) (st' := []) rfl rfl rfl ?_
      have F4 : FrL m m4 := F3.tr (fun b z g1 g2 g3 => P1 b z g1 (by omega) (by omega))
      refine E_s (p' := 96) (st' := aI 0 :: _) rfl rfl ?_
      refine E_s (p' := 97) (L' := [some (aA 124), some (aI ((i : Nat) : Int)), some (aI ((k : Nat) : Int)), some (aI 0), none, none, none, none]) rfl rfl ?_
      refine yl_lC (i := i) (k := k) (fun m5 c1 c2 => ?_) 62 0 m4 (by omega) (by omega) (fun b z _ => rfl) (fun d hd9 => absurd hd9 (by omega))
      have F5 : FrL m m5 := F4.tr (fun b z g1 g2 g3 => c1 b z (by omega))
      refine E_s (p' := 117) (st' := aI 0 :: _) rfl rfl ?_
      refine E_s (p' := 118) (L' := [some (aA 124), some (aI ((i : Nat) : Int)), some (aI ((k : Nat) : Int)), some (aI 0), none, none, none, none]) rfl rfl ?_
      refine yl_lD hi hk (F5.MR hM) (F5.MR hMk) hV hVk (fun d hd9 => (c1 _ _ (by omega)).trans ((P1 _ _ (by omega) (by omega) (by omega)).trans ((b1 _ _ (by omega)).trans (a2 d hd9)))) (fun d hd9 => (c1 _ _ (by omega)).trans ((P1 _ _ (by omega) (by omega) (by omega)).trans (b2 d hd9))) (fun d hd9 => (c1 _ _ (by omega)).trans (P3 d hd9)) (fun m9 z1 => ?_) (Cn (S i) + 1) 0 m5 none none none none (by omega) (by omega) (fun b z _ => rfl) (fun t h9 => (c2 t (by omega)).trans rfl)
      have F9 : FrL m m9 := F5.tr (fun b z g1 g2 g3 => z1 b z (by omega))
      exact q _ m9 (Or.inl ⟨i, k, hi, hk, rfl, rfl, rfl⟩) (F9.MS hS) F9.Co1
    · refine E_go (p' := 11) (L' := [some (aA 124), some (aI ((i : Nat) : Int)), some (aI (t)), none, none, none, none, none]) (st' := [aI 0]) rfl rfl rfl ?_
      refine E_s (p' := 14) rfl rfl ?_
      refine E_s (p' := 16) (st' := aI (-2) :: _) rfl rfl ?_
      refine E_ret rfl rfl ?_
      exact q _ m (Or.inr ⟨by omega, rfl⟩) hS Co1.rf
  · refine E_go (p' := 4) (L' := [some (aA 124), some (aI (r)), some (aI (t)), none, none, none, none, none]) (st' := [aI 0]) rfl rfl rfl ?_
    refine E_s (p' := 14) rfl rfl ?_
    refine E_s (p' := 16) (st' := aI (-2) :: _) rfl rfl ?_
    refine E_ret rfl rfl ?_
    exact q _ m (Or.inr ⟨by omega, rfl⟩) hS Co1.rf
end

