def qmB (R : RD) (g M b : Nat) : Bool := decide (b &&& (4095 - M) = 0) && (decide (2 ≤ pc12 b) && igB R g b)
/-- what a GROUP adds, as the model takes it: all sets, rising -/
def accM (R : RD) (g M : Nat) (l : List (Nat × Nat)) : Nat → Option (List (Nat × Nat))
  | 0 => some l
  | k + 1 => (accM R g M l k).bind fun t => bif qmB R g M (k + 1) then (if t.length = 300 then none else some (t ++ [(g, k + 1)])) else some t
theorem accM_none {R : RD} {g M : Nat} {l : List (Nat × Nat)} {k : Nat} (h : accM R g M l k = none) : ∀ n, k ≤ n → accM R g M l n = none := by
  intro n
  induction n with
  | zero => intro hk; have e9 : k = 0 := by omega
            subst e9; exact h
  | succ n ih =>
    intro hk
    by_cases e9 : k = n + 1
    · subst e9; exact h
    · show (accM R g M l n).bind _ = none
      rw [ih (by omega)]; rfl
/-- the model keeps these GROUPINGS -/
def FM (l : List (Nat × Nat)) (m : Mm) : Prop := l.length ≤ 300 ∧ m 124 50 = (l.length : Int) ∧ ∀ j, j < l.length → m 165 j = ((l.getD j (0, 0)).1 : Int) ∧ m 166 j = ((l.getD j (0, 0)).2 : Int)
def FrMF (m m' : Mm) : Prop := ∀ b j, ¬ (b = 124 ∧ j = 50) → b ≠ 165 → b ≠ 166 → m' b j = m b j
theorem FM.add {l : List (Nat × Nat)} {m m' : Mm} {g b : Nat} (h : FM l m) (hl : l.length ≠ 300) (h1 : m' 124 50 = ((l.length + 1 : Nat) : Int)) (h2 : ∀ j, j < l.length → m' 165 j = m 165 j ∧ m' 166 j = m 166 j) (h3 : m' 165 l.length = (g : Int) ∧ m' 166 l.length = (b : Int)) : FM (l ++ [(g, b)]) m' := by
  obtain ⟨k1, k2, k3⟩ := h
  have e1 : (l ++ [(g, b)]).length = l.length + 1 := by rw [List.length_append]; rfl
  refine ⟨by omega, by rw [e1]; exact h1, fun j hj => ?_⟩
  rw [List.getD_eq_getElem?_getD]
  by_cases g9 : j = l.length
  · subst g9
    rw [List.getElem?_append_right (Nat.le_refl _), Nat.sub_self]
    exact h3
  · rw [List.getElem?_append_left (by omega), ← List.getD_eq_getElem?_getD]
    obtain ⟨k4, k5⟩ := k3 j (by omega)
    exact ⟨(h2 j (by omega)).1.trans k4, (h2 j (by omega)).2.trans k5⟩
section
variable {len : Nat} {m m0 : Mm} {Q : Option AV → Sx → Prop} {R : RD} {g M : Nat} {l0 : List (Nat × Nat)} {x1 : Option AV}
theorem yl_mset (hV : VR R) (hN : ∀ d, d < Cn R → m0 148 d = Rtd R d) (hG : GR R (Cn R) m0) (hg : g < 12) (hsg : sdG R g = true) (hM : M < 4096) (hbm : ∀ k, k < 12 → Nat.testBit M k = true → glen R (k : Int) = glen R (g : Int)) (hbs : ∀ k, k < 12 → Nat.testBit M k = true → sdG R k = true) (hk9 : ∀ (m1 : Mm) (l1 : List (Nat × Nat)), accM R g M l0 4095 = some l1 → FM l1 m1 → FrMF m0 m1 → E 176 208 [some (aA 124), x1, some (aI ((g : Nat) : Int)), some (aI ((M : Nat) : Int)), some (aI 4096)] [] (m1, tl len) Q) (q0 : ∀ m1 : Mm, accM R g M l0 4095 = none → FM [] m1 → FrMF m0 m1 → Q (some (aI (-3))) (m1, tl len))  : ∀ (d : Nat) (k : Nat) (m : Mm) (t : List (Nat × Nat)), (4095 < k + d) → (k ≤ 4095) → (accM R g M l0 k = some t) → (FM t m) → (FrMF m0 m) → E 176 113 [some (aA 124), x1, some (aI ((g : Nat) : Int)), some (aI ((M : Nat) : Int)), some (aI ((k + 1 : Nat) : Int))] [] (m, tl len) Q := by
  intro d
  induction d with
  | zero => intro k m t hd hk I1 I2 I3; omega
  | succ d ih =>
    intro k m t hd hk I1 I2 I3
    have h300 := I2.1
    refine E_s (p' := 115) (st' := aI ((k + 1 : Nat) : Int) :: _) rfl rfl ?_
    refine E_s (p' := 118) (st' := aI 4096 :: _) rfl rfl ?_
    refine E_icmp_ge (x := ((k + 1 : Nat) : Int)) (y := 4096) rfl (by decide) (fun h_1 => ?_) (fun h_1 => ?_)
    · refine E_go (p' := 208) (L' := [some (aA 124), x1, some (aI ((g : Nat) : Int)), some (aI ((M : Nat) : Int)), some (aI ((k + 1 : Nat) : Int))]) (st' := []) rfl rfl rfl ?_
      have ek : k = 4095 := by omega
      subst ek
      exact hk9 m t I1 I2 I3
    · refine E_go (p' := 121) (L' := [some (aA 124), x1, some (aI ((g : Nat) : Int)), some (aI ((M : Nat) : Int)), some (aI ((k + 1 : Nat) : Int))]) (st' := []) rfl rfl rfl ?_
      refine E_s (p' := 123) (st' := aI ((k + 1 : Nat) : Int) :: _) rfl rfl ?_
      refine E_s (p' := 124) (st' := aI ((M : Nat) : Int) :: _) rfl rfl ?_
      refine E_s (p' := 125) (st' := aI (-1) :: _) rfl rfl ?_
      refine E_not (M := M) rfl (by omega) ?_
      refine E_nim (b := k + 1) (M := M) (v := (k + 1) &&& (4095 - M)) rfl (by omega) (by omega) rfl ?_
      refine E_if_ne (x := ((((k + 1) &&& (4095 - M)) : Nat) : Int)) rfl (by decide) (fun h_2 => ?_) (fun h_2 => ?_)
      · refine E_go (p' := 202) (L' := [some (aA 124), x1, some (aI ((g : Nat) : Int)), some (aI ((M : Nat) : Int)), some (aI ((k + 1 : Nat) : Int))]) (st' := []) rfl rfl rfl ?_
        refine E_inc (x := ((k + 1 : Nat) : Int)) (w := ((k + 2 : Nat) : Int)) (L' := [some (aA 124), x1, some (aI ((g : Nat) : Int)), some (aI ((M : Nat) : Int)), some (aI ((k + 2 : Nat) : Int))]) rfl rfl rfl (by omega) (by omega) rfl ?_
        refine E_s (p' := 113) rfl rfl ?_
        have e9 : accM R g M l0 (k + 1) = some t := by
          show (accM R g M l0 k).bind _ = _
          rw [I1]
          show (bif qmB R g M (k + 1) then _ else _) = _
          rw [show qmB R g M (k + 1) = false by unfold qmB; first | (rw [decide_eq_false (by omega)]; rfl) | (rw [decide_eq_false (p := 2 ≤ pc12 (k + 1)) (by have := pc_two (k := k) (by omega); omega)]; exact Bool.and_false _) | (rw [show igB R g (k + 1) = false by assumption, Bool.and_false]; exact Bool.and_false _)]; rfl
        exact ih (k + 1) m t (by omega) (by omega) e9 I2 I3
      · refine E_go (p' := 130) (L' := [some (aA 124), x1, some (aI ((g : Nat) : Int)), some (aI ((M : Nat) : Int)), some (aI ((k + 1 : Nat) : Int))]) (st' := []) rfl rfl rfl ?_
        refine E_s (p' := 132) (st' := aI ((k + 1 : Nat) : Int) :: _) rfl rfl ?_
        refine E_s (p' := 134) (st' := aI ((k + 1 : Nat) : Int) :: _) rfl rfl ?_
        refine E_s (p' := 135) (st' := aI 1 :: _) rfl rfl ?_
        refine E_sub (v := ((k : Nat) : Int)) rfl (by omega) (by omega) ?_
        refine E_and (x := k + 1) (y := k) (v := ((k + 1) &&& k)) rfl (by omega) (by omega) rfl ?_
        refine E_if_eq (x := ((((k + 1) &&& k) : Nat) : Int)) rfl (by decide) (fun h_3 => ?_) (fun h_3 => ?_)
        · refine E_go (p' := 202) (L' := [some (aA 124), x1, some (aI ((g : Nat) : Int)), some (aI ((M : Nat) : Int)), some (aI ((k + 1 : Nat) : Int))]) (st' := []) rfl rfl rfl ?_
          refine E_inc (x := ((k + 1 : Nat) : Int)) (w := ((k + 2 : Nat) : Int)) (L' := [some (aA 124), x1, some (aI ((g : Nat) : Int)), some (aI ((M : Nat) : Int)), some (aI ((k + 2 : Nat) : Int))]) rfl rfl rfl (by omega) (by omega) rfl ?_
          refine E_s (p' := 113) rfl rfl ?_
          have e9 : accM R g M l0 (k + 1) = some t := by
            show (accM R g M l0 k).bind _ = _
            rw [I1]
            show (bif qmB R g M (k + 1) then _ else _) = _
            rw [show qmB R g M (k + 1) = false by unfold qmB; first | (rw [decide_eq_false (by omega)]; rfl) | (rw [decide_eq_false (p := 2 ≤ pc12 (k + 1)) (by have := pc_two (k := k) (by omega); omega)]; exact Bool.and_false _) | (rw [show igB R g (k + 1) = false by assumption, Bool.and_false]; exact Bool.and_false _)]; rfl
          exact ih (k + 1) m t (by omega) (by omega) e9 I2 I3
        · refine E_go (p' := 140) (L' := [some (aA 124), x1, some (aI ((g : Nat) : Int)), some (aI ((M : Nat) : Int)), some (aI ((k + 1 : Nat) : Int))]) (st' := []) rfl rfl rfl ?_
          refine E_s (p' := 141) (st' := aA 124 :: _) rfl rfl ?_
          refine E_s (p' := 142) (st' := aI ((g : Nat) : Int) :: _) rfl rfl ?_
          refine E_s (p' := 144) (st' := aI ((k + 1 : Nat) : Int) :: _) rfl rfl ?_
          refine E_callV (k' := 178) (a := 124) (r := []) (L0 := [some (aA 124), some (aI ((g : Nat) : Int)), some (aI ((k + 1 : Nat) : Int)), none, none, none, none]) rfl rfl rfl rfl rfl rfl rfl rfl rfl rfl ?_
          refine m_isGrouping hV (fun d hd9 => (I3 _ _ (by omega) (by omega) (by omega)).trans (hN d hd9)) (fun x hx => ⟨(I3 _ _ (by omega) (by omega) (by omega)).trans (hG x hx).1, fun j hj => (I3 _ _ (by omega) (by omega) (by omega)).trans ((hG x hx).2.1 j hj), (I3 _ _ (by omega) (by omega) (by omega)).trans (hG x hx).2.2⟩) hg hsg (b := k + 1) (by omega) (fun x hx hx2 => hbm x hx (wthn hM (by omega) hx hx2)) (fun x hx hx2 => hbs x hx (wthn hM (by omega) hx hx2)) ?_
          refine E_go (p' := 147) (L' := [some (aA 124), x1, some (aI ((g : Nat) : Int)), some (aI ((M : Nat) : Int)), some (aI ((k + 1 : Nat) : Int))]) (st' := [aI (bi (igB R g (k + 1)))]) rfl rfl rfl ?_
          refine E_b_ne0 (b := (igB R g (k + 1))) rfl (by decide) (fun h_4 => ?_) (fun h_4 => ?_)
          · refine E_go (p' := 153) (L' := [some (aA 124), x1, some (aI ((g : Nat) : Int)), some (aI ((M : Nat) : Int)), some (aI ((k + 1 : Nat) : Int))]) (st' := []) rfl rfl rfl ?_
            refine E_s (p' := 154) (st' := aA 124 :: _) rfl rfl ?_
            refine E_gI (v := ((t.length : Nat) : Int)) rfl rfl rfl rfl I2.2.1 ?_
            refine E_s (p' := 160) (st' := aI 300 :: _) rfl rfl ?_
            refine E_icmp_ne (x := ((t.length : Nat) : Int)) (y := 300) rfl (by decide) (fun h_5 => ?_) (fun h_5 => ?_)
            · refine E_go (p' := 171) (L' := [some (aA 124), x1, some (aI ((g : Nat) : Int)), some (aI ((M : Nat) : Int)), some (aI ((k + 1 : Nat) : Int))]) (st' := []) rfl rfl rfl ?_
              refine E_s (p' := 172) (st' := aA 124 :: _) rfl rfl ?_
              refine E_gA (b := 165) rfl rfl rfl rfl rfl rfl ?_
              refine E_s (p' := 176) (st' := aA 124 :: _) rfl rfl ?_
              refine E_gI (v := ((t.length : Nat) : Int)) rfl rfl rfl rfl I2.2.1 ?_
              refine E_s (p' := 180) (st' := aI ((g : Nat) : Int) :: _) rfl rfl ?_
              refine E_ast (e := t.length) (N := 300) rfl rfl (rfl) (by omega) ?_
              refine E_s (p' := 182) (st' := aA 124 :: _) rfl rfl ?_
              refine E_gA (b := 166) rfl rfl rfl rfl rfl rfl ?_
              refine E_s (p' := 186) (st' := aA 124 :: _) rfl rfl ?_
              refine E_gI (v := ((t.length : Nat) : Int)) rfl rfl rfl rfl ((up2_ne (by omega)).trans (I2.2.1)) ?_
              refine E_s (p' := 191) (st' := aI ((k + 1 : Nat) : Int) :: _) rfl rfl ?_
              refine E_ast (e := t.length) (N := 300) rfl rfl (rfl) (by omega) ?_
              refine E_s (p' := 193) (st' := aA 124 :: _) rfl rfl ?_
              refine E_s (p' := 194) (st' := aA 124 :: _) rfl rfl ?_
              refine E_gI (v := ((t.length : Nat) : Int)) rfl rfl rfl rfl ((up2_ne (by omega)).trans ((up2_ne (by omega)).trans (I2.2.1))) ?_
              refine E_s (p' := 198) (st' := aI 1 :: _) rfl rfl ?_
              refine E_add (v := ((t.length + 1 : Nat) : Int)) rfl (by omega) (by omega) ?_
              refine E_pI rfl rfl rfl rfl (Or.inl rfl) ?_
              refine E_inc (x := ((k + 1 : Nat) : Int)) (w := ((k + 2 : Nat) : Int)) (L' := [some (aA 124), x1, some (aI ((g : Nat) : Int)), some (aI ((M : Nat) : Int)), some (aI ((k + 2 : Nat) : Int))]) rfl rfl rfl (by omega) (by omega) rfl ?_
              refine E_s (p' := 113) rfl rfl ?_
              have e9 : accM R g M l0 (k + 1) = some (t ++ [(g, k + 1)]) := by
                show (accM R g M l0 k).bind _ = _
                rw [I1]
                show (bif qmB R g M (k + 1) then _ else _) = _
                rw [show qmB R g M (k + 1) = true by unfold qmB; rw [decide_eq_true (by omega), decide_eq_true (by have := pc_two (k := k) (by omega); omega)]; simpa using (show igB R g (k + 1) = true by assumption)]
                show (if t.length = 300 then none else _) = _
                rw [if_neg (by omega)]
              refine ih (k + 1) _ _ (by omega) (by omega) e9 (I2.add (by omega) up2_eq (fun j hj => ⟨(up2_ne (by omega)).trans ((up2_ne (by omega)).trans (up2_sl (by omega))), (up2_ne (by omega)).trans ((up2_sl (by omega)).trans (up2_ne (by omega)))⟩) ⟨(up2_ne (by omega)).trans ((up2_ne (by omega)).trans up2_eq), (up2_ne (by omega)).trans up2_eq⟩) (fun b j g1 g2 g3 => (up2_o g1).trans ((up2_ne g3).trans ((up2_ne g2).trans (I3 b j g1 g2 g3))))
            · refine E_go (p' := 163) (L' := [some (aA 124), x1, some (aI ((g : Nat) : Int)), some (aI ((M : Nat) : Int)), some (aI ((k + 1 : Nat) : Int))]) (st' := []) rfl rfl rfl ?_
              refine E_s (p' := 164) (st' := aA 124 :: _) rfl rfl ?_
              refine E_s (p' := 165) (st' := aI 0 :: _) rfl rfl ?_
              refine E_pI rfl rfl rfl rfl (Or.inl rfl) ?_
              refine E_s (p' := 170) (st' := aI (-3) :: _) rfl rfl ?_
              refine E_ret rfl rfl ?_
              have e9 : accM R g M l0 (k + 1) = none := by
                show (accM R g M l0 k).bind _ = _
                rw [I1]
                show (bif qmB R g M (k + 1) then _ else _) = _
                rw [show qmB R g M (k + 1) = true by unfold qmB; rw [decide_eq_true (by omega), decide_eq_true (by have := pc_two (k := k) (by omega); omega)]; simpa using (show igB R g (k + 1) = true by assumption)]
                show (if t.length = 300 then none else _) = _
                rw [if_pos (by omega)]
              exact q0 _ (accM_none e9 4095 (by omega)) ⟨by decide, up2_eq, fun j hj => absurd hj (Nat.not_lt_zero _)⟩ (fun b j g1 g2 g3 => (up2_o g1).trans (I3 b j g1 g2 g3))
          · refine E_go (p' := 150) (L' := [some (aA 124), x1, some (aI ((g : Nat) : Int)), some (aI ((M : Nat) : Int)), some (aI ((k + 1 : Nat) : Int))]) (st' := []) rfl rfl rfl ?_
            refine E_s (p' := 202) rfl rfl ?_
            refine E_inc (x := ((k + 1 : Nat) : Int)) (w := ((k + 2 : Nat) : Int)) (L' := [some (aA 124), x1, some (aI ((g : Nat) : Int)), some (aI ((M : Nat) : Int)), some (aI ((k + 2 : Nat) : Int))]) rfl rfl rfl (by omega) (by omega) rfl ?_
            refine E_s (p' := 113) rfl rfl ?_
            have e9 : accM R g M l0 (k + 1) = some t := by
              show (accM R g M l0 k).bind _ = _
              rw [I1]
              show (bif qmB R g M (k + 1) then _ else _) = _
              rw [show qmB R g M (k + 1) = false by unfold qmB; first | (rw [decide_eq_false (by omega)]; rfl) | (rw [decide_eq_false (p := 2 ≤ pc12 (k + 1)) (by have := pc_two (k := k) (by omega); omega)]; exact Bool.and_false _) | (rw [show igB R g (k + 1) = false by assumption, Bool.and_false]; exact Bool.and_false _)]; rfl
            exact ih (k + 1) m t (by omega) (by omega) e9 I2 I3
end
