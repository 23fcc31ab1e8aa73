def mfL (S : Nat → RD) (r : Int) (l : List (Nat × Nat)) : List (Nat × Nat) := if 0 ≤ r ∧ r ≤ 3 then mfnL (S r.toNat) else l
def mfV (S : Nat → RD) (r : Int) : Int := if 0 ≤ r ∧ r ≤ 3 then mfnV (S r.toNat) else -2
section
variable {len : Nat} {m : Mm} {Q : Option AV → Sx → Prop} {S : Nat → RD} {r : Int} {l : List (Nat × Nat)}
theorem M_found (hS : MS S m) (hF : FM l m) (q : ∀ m1 : Mm, MS S m1 → (∀ b j, b < 124 ∨ (b = 124 ∧ j = 44) ∨ b = 161 → m1 b j = m b j) → FM (mfL S r l) m1 → Q (some (aI (mfV S r))) (m1, tl len)) : E 176 0 [some (aA 124), some (aI (r)), none, none, none] [] (m, tl len) Q := by
  refine E_s (p' := 1) (st' := aI (r) :: _) rfl rfl ?_
  refine E_callL (p' := 4) (L0 := [some (aI (r))]) rfl rfl rfl ?_
  refine m_isRecord (fun i hi hr => ?_) (fun hr => ?_)
  · refine E_go (p' := 4) (L' := [some (aA 124), some (aI (r)), none, none, none]) (st' := [aI 1]) rfl rfl rfl ?_
    obtain ⟨hV, hM⟩ := hS i hi
    have hn60 := hV.1
    have hs40 := hV.2.2.2.2.1
    subst hr
    refine E_s (p' := 10) rfl rfl ?_
    refine E_s (p' := 11) (st' := aA 124 :: _) rfl rfl ?_
    refine E_s (p' := 12) (st' := aI ((i : Nat) : Int) :: _) rfl rfl ?_
    refine E_callV (k' := 177) (a := 124) (r := []) (L0 := [some (aA 124), some (aI ((i : Nat) : Int)), none, none]) rfl rfl rfl rfl rfl rfl rfl rfl rfl rfl ?_
    refine m_groups hi hM hV (fun m1 K1 K2 K3 => ?_)
    refine E_go (p' := 15) (L' := [some (aA 124), some (aI ((i : Nat) : Int)), none, none, none]) (st' := []) rfl rfl rfl ?_
    refine E_s (p' := 16) (st' := aA 124 :: _) rfl rfl ?_
    refine E_s (p' := 17) (st' := aI 0 :: _) rfl rfl ?_
    refine E_pI rfl rfl rfl rfl (Or.inl rfl) ?_
    refine E_s (p' := 21) (st' := aI 0 :: _) rfl rfl ?_
    refine E_s (p' := 22) (L' := [some (aA 124), some (aI ((i : Nat) : Int)), some (aI 0), none, none]) rfl rfl ?_
    have e1 : mfV S (i : Int) = mfnV (S i) := by unfold mfV; rw [if_pos (by omega), Int.toNat_natCast]
    have e2 : mfL S (i : Int) l = mfnL (S i) := by unfold mfL; rw [if_pos (by omega), Int.toNat_natCast]
    rw [e1, e2] at q
    refine yl_fo hV (fun d hd9 => (up2_ne (by omega)).trans (K2 d hd9)) (fun x hx => ⟨(up2_ne (by omega)).trans (K3 x hx).1, fun j hj => (up2_ne (by omega)).trans ((K3 x hx).2.1 j hj), (up2_ne (by omega)).trans (K3 x hx).2.2⟩) (fun m2 F2 L2 => q m2 ?_ ?_ L2) 13 0 _ [] _ _ (by omega) (by omega) rfl ⟨by decide, up2_eq, fun j hj => absurd hj (Nat.not_lt_zero _)⟩ (fun b j _ _ _ => rfl)
    · exact (K1.MS hS).of (fun b j g1 g2 => (F2 b j (by omega) (by omega) (by omega)).trans (up2_o (by omega)))
    · exact fun b j hb => (F2 b j (by omega) (by omega) (by omega)).trans ((up2_o (by omega)).trans (K1 b j (by omega) (by omega) (by omega)))
  · refine E_go (p' := 4) (L' := [some (aA 124), some (aI (r)), none, none, none]) (st' := [aI 0]) rfl rfl rfl ?_
    refine E_s (p' := 7) rfl rfl ?_
    refine E_s (p' := 9) (st' := aI (-2) :: _) rfl rfl ?_
    refine E_ret rfl rfl ?_
    have e1 : mfV S r = -2 := by unfold mfV; rw [if_neg (by omega)]
    have e2 : mfL S r l = l := by unfold mfL; rw [if_neg (by omega)]
    rw [e1, e2] at q
    exact q m hS (fun b j _ => rfl) hF
end
