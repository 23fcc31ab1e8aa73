theorem accF_none {R : RD} {k : Nat} (h : accF R k = none) : ∀ n, k ≤ n → accF R n = none := by
  intro n
  induction n with
  | zero => intro hk; have e9 : k = 0 := by omega
            subst e9; exact h
  | succ n ih =>
    intro hk
    by_cases e9 : k = n + 1
    · subst e9; exact h
    · show (accF R n).bind _ = none
      rw [ih (by omega)]; rfl
def mfnL (R : RD) : List (Nat × Nat) := (accF R 12).getD []
def mfnV (R : RD) : Int := match accF R 12 with
  | none => -3
  | some l => (l.length : Int)
section
variable {len : Nat} {m m0 : Mm} {Q : Option AV → Sx → Prop} {R : RD} {i : Nat}
theorem yl_fo (hV : VR R) (hN : ∀ d, d < Cn R → m0 148 d = Rtd R d) (hG0 : GR R (Cn R) m0) (q : ∀ m1 : Mm, FrMF m0 m1 → FM (mfnL R) m1 → Q (some (aI (mfnV R))) (m1, tl len))  : ∀ (d : Nat) (g : Nat) (m : Mm) (t : List (Nat × Nat)) (x3 x4 : Option AV), (12 < g + d) → (g ≤ 12) → (accF R g = some t) → (FM t m) → (FrMF m0 m) → E 176 22 [some (aA 124), some (aI ((i : Nat) : Int)), some (aI ((g : Nat) : Int)), x3, x4] [] (m, tl len) Q := by
  intro d
  induction d with
  | zero => intro g m t x3 x4 hd hk I1 I2 I3; omega
  | succ d ih =>
    intro g m t x3 x4 hd hk I1 I2 I3
    have hG : GR R (Cn R) m := fun x hx => ⟨(I3 _ _ (by omega) (by omega) (by omega)).trans (hG0 x hx).1, fun j hj => (I3 _ _ (by omega) (by omega) (by omega)).trans ((hG0 x hx).2.1 j hj), (I3 _ _ (by omega) (by omega) (by omega)).trans (hG0 x hx).2.2⟩
    refine E_s (p' := 23) (st' := aI ((g : Nat) : Int) :: _) rfl rfl ?_
    refine E_s (p' := 25) (st' := aI 12 :: _) rfl rfl ?_
    refine E_icmp_ge (x := ((g : Nat) : Int)) (y := 12) rfl (by decide) (fun h_1 => ?_) (fun h_1 => ?_)
    · refine E_go (p' := 214) (L' := [some (aA 124), some (aI ((i : Nat) : Int)), some (aI ((g : Nat) : Int)), x3, x4]) (st' := []) rfl rfl rfl ?_
      refine E_s (p' := 215) (st' := aA 124 :: _) rfl rfl ?_
      refine E_gI (v := ((t.length : Nat) : Int)) rfl rfl rfl rfl I2.2.1 ?_
      refine E_ret rfl rfl ?_
      have ek : g = 12 := by omega
      subst ek
      have e7 : mfnV R = (t.length : Int) := by unfold mfnV; rw [I1]
      have e6 : mfnL R = t := by unfold mfnL; rw [I1]; rfl
      rw [e7, e6] at q
      exact q m I3 I2
    · refine E_go (p' := 28) (L' := [some (aA 124), some (aI ((i : Nat) : Int)), some (aI ((g : Nat) : Int)), x3, x4]) (st' := []) rfl rfl rfl ?_
      have hk2 : g < 12 := by omega
      refine E_s (p' := 29) (st' := aA 124 :: _) rfl rfl ?_
      refine E_gA (b := 163) rfl rfl rfl rfl rfl rfl ?_
      refine E_s (p' := 33) (st' := aI ((g : Nat) : Int) :: _) rfl rfl ?_
      refine E_ald (e := g) (N := 12) (v := ((glen R (g : Int) : Nat) : Int)) rfl rfl (rfl) (by omega) (hG g (by omega)).1 ?_
      refine E_if_eq (x := ((glen R (g : Int) : Nat) : Int)) rfl (by decide) (fun h_2 => ?_) (fun h_2 => ?_)
      · refine E_go (p' := 208) (L' := [some (aA 124), some (aI ((i : Nat) : Int)), some (aI ((g : Nat) : Int)), x3, x4]) (st' := []) rfl rfl rfl ?_
        refine E_inc (x := ((g : Nat) : Int)) (w := ((g + 1 : Nat) : Int)) (L' := [some (aA 124), some (aI ((i : Nat) : Int)), some (aI ((g + 1 : Nat) : Int)), x3, x4]) rfl rfl rfl (by omega) (by omega) rfl ?_
        refine E_s (p' := 22) rfl rfl ?_
        have e9 : accF R (g + 1) = some t := by
          show (accF R g).bind _ = _
          rw [I1]
          show (bif usb R g then _ else _) = _
          rw [show usb R g = false by unfold usb; first | (rw [decide_eq_false (by omega)]; rfl) | (rw [show (gmem R (g : Int) (Cn R)).all (sdR R) = false by assumption]; exact Bool.and_false _)]; rfl
        exact ih (g + 1) m t _ _ (by omega) (by omega) e9 I2 I3
      · refine E_go (p' := 37) (L' := [some (aA 124), some (aI ((i : Nat) : Int)), some (aI ((g : Nat) : Int)), x3, x4]) (st' := []) rfl rfl rfl ?_
        refine E_s (p' := 38) (st' := aA 124 :: _) rfl rfl ?_
        refine E_gA (b := 164) rfl rfl rfl rfl rfl rfl ?_
        refine E_s (p' := 42) (st' := aI ((g : Nat) : Int) :: _) rfl rfl ?_
        refine E_zld (e := g) (N := 12) (v := (bi ((gmem R (g : Int) (Cn R)).all (sdR R)))) rfl rfl (rfl) (by omega) (hG g (by omega)).2.2 ?_
        refine E_b_ne0 (b := ((gmem R (g : Int) (Cn R)).all (sdR R))) rfl (by decide) (fun h_3 => ?_) (fun h_3 => ?_)
        · refine E_go (p' := 49) (L' := [some (aA 124), some (aI ((i : Nat) : Int)), some (aI ((g : Nat) : Int)), x3, x4]) (st' := []) rfl rfl rfl ?_
          refine E_s (p' := 50) (st' := aI 0 :: _) rfl rfl ?_
          refine E_s (p' := 51) (L' := [some (aA 124), some (aI ((i : Nat) : Int)), some (aI ((g : Nat) : Int)), some (aI 0), x4]) rfl rfl ?_
          refine E_s (p' := 52) (st' := aI 0 :: _) rfl rfl ?_
          refine E_s (p' := 54) (L' := [some (aA 124), some (aI ((i : Nat) : Int)), some (aI ((g : Nat) : Int)), some (aI 0), some (aI 0)]) rfl rfl ?_
          have hall : (gmem R (g : Int) (Cn R)).all (sdR R) = true := by assumption
          have hu9 : usb R g = true := by unfold usb; rw [decide_eq_true (by omega), hall]; rfl
          refine yl_may hG hk2 (by omega) ?_ 13 0 (by omega) (by omega)
          refine E_s (p' := 111) (st' := aI 1 :: _) rfl rfl ?_
          refine E_s (p' := 113) (L' := [some (aA 124), some (aI ((i : Nat) : Int)), some (aI ((g : Nat) : Int)), some (aI ((mateN R g 12 : Nat) : Int)), some (aI 1)]) rfl rfl ?_
          refine yl_mset hV (fun d hd9 => (I3 _ _ (by omega) (by omega) (by omega)).trans (hN d hd9)) hG hk2 hall (mateN_lt R g 12 (by omega)) (fun x hx hx2 => mate_len hx2) (fun x hx hx2 => mate_sd hx2) (fun m1 l1 hs1 hs2 hs3 => ?_) (fun m1 hs1 hs2 hs3 => ?_) 4096 0 m t (by omega) (by omega) rfl I2 (fun b j _ _ _ => rfl)
          · refine E_inc (x := ((g : Nat) : Int)) (w := ((g + 1 : Nat) : Int)) (L' := [some (aA 124), some (aI ((i : Nat) : Int)), some (aI ((g + 1 : Nat) : Int)), some (aI ((mateN R g 12 : Nat) : Int)), some (aI 4096)]) rfl rfl rfl (by omega) (by omega) rfl ?_
            refine E_s (p' := 22) rfl rfl ?_
            have e9 : accF R (g + 1) = some l1 := by
              show (accF R g).bind _ = _
              rw [I1]
              show (bif usb R g then _ else _) = _
              rw [hu9, cond_true, hs1]
            exact ih (g + 1) m1 l1 _ _ (by omega) (by omega) e9 hs2 (fun b j g1 g2 g3 => (hs3 b j g1 g2 g3).trans (I3 b j g1 g2 g3))
          · have e9 : accF R (g + 1) = none := by
              show (accF R g).bind _ = _
              rw [I1]
              show (bif usb R g then _ else _) = _
              rw [hu9, cond_true, hs1]
            have e8 := accF_none e9 12 (by omega)
            have e7 : mfnV R = -3 := by unfold mfnV; rw [e8]
            have e6 : mfnL R = [] := by unfold mfnL; rw [e8]; rfl
            rw [e7, e6] at q
            exact q m1 (fun b j g1 g2 g3 => (hs3 b j g1 g2 g3).trans (I3 b j g1 g2 g3)) hs2
        · refine E_go (p' := 46) (L' := [some (aA 124), some (aI ((i : Nat) : Int)), some (aI ((g : Nat) : Int)), x3, x4]) (st' := []) rfl rfl rfl ?_
          refine E_s (p' := 208) rfl rfl ?_
          refine E_inc (x := ((g : Nat) : Int)) (w := ((g + 1 : Nat) : Int)) (L' := [some (aA 124), some (aI ((i : Nat) : Int)), some (aI ((g + 1 : Nat) : Int)), x3, x4]) rfl rfl rfl (by omega) (by omega) rfl ?_
          refine E_s (p' := 22) rfl rfl ?_
          have e9 : accF R (g + 1) = some t := by
            show (accF R g).bind _ = _
            rw [I1]
            show (bif usb R g then _ else _) = _
            rw [show usb R g = false by unfold usb; first | (rw [decide_eq_false (by omega)]; rfl) | (rw [show (gmem R (g : Int) (Cn R)).all (sdR R) = false by assumption]; exact Bool.and_false _)]; rfl
          exact ih (g + 1) m t _ _ (by omega) (by omega) e9 I2 I3
end
