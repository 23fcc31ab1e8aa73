section
variable {len : Nat} {m : Mm} {Q : Option AV → Sx → Prop} {S : Nat → RD} {r t : Int}
theorem M_likeness (hS : MS S m) (q : ∀ (v : Int) (m1 : Mm), spLike S r t v → MS S m1 → Co1 m m1 → Q (some (aI v)) (m1, tl len)) : E 181 0 [some (aA 124), some (aI (r)), some (aI (t)), none, none, none, none, none] [] (m, tl len) Q := by
  refine E_s (p' := 1) (st' := aI (r) :: _) rfl rfl ?_
  refine E_callL (p' := 4) (L0 := [some (aI (r))]) rfl rfl rfl ?_
  refine m_isRecord (fun i hi hr => ?_) (fun hr => ?_)
  · refine E_go (p' := 4) (L' := [some (aA 124), some (aI (r)), some (aI (t)), none, none, none, none, none]) (st' := [aI 1]) rfl rfl rfl ?_
    obtain ⟨hV, hM⟩ := hS i hi
    have hn60 := hV.1
    subst hr
    refine E_s (p' := 7) rfl rfl ?_
    refine E_s (p' := 8) (st' := aI (t) :: _) rfl rfl ?_
    refine E_callL (p' := 11) (L0 := [some (aI (t))]) rfl rfl rfl ?_
    refine m_isRecord (fun k hk ht9 => ?_) (fun hr => ?_)
    · refine E_go (p' := 11) (L' := [some (aA 124), some (aI ((i : Nat) : Int)), some (aI (t)), none, none, none, none, none]) (st' := [aI 1]) rfl rfl rfl ?_
      subst ht9
      obtain ⟨hVk, hMk⟩ := hS k hk
      have hn6k := hVk.1
      refine E_s (p' := 17) rfl rfl ?_
      refine E_s (p' := 18) (st' := aA 124 :: _) rfl rfl ?_
      refine E_s (p' := 19) (st' := aI ((i : Nat) : Int) :: _) rfl rfl ?_
      refine E_s (p' := 20) (st' := aA 124 :: _) rfl rfl ?_
      refine E_gA (b := 148) rfl rfl rfl rfl rfl rfl ?_
      refine E_callV (k' := 157) (a := 124) (r := []) (L0 := [some (aA 124), some (aI ((i : Nat) : Int)), some (aA 148), none]) rfl rfl rfl rfl rfl rfl rfl rfl rfl rfl ?_
      refine m_readAll hi (Or.inl rfl) hM hV (fun m1 K1 K2 K3 => ?_)
      refine E_go (p' := 26) (L' := [some (aA 124), some (aI ((i : Nat) : Int)), some (aI ((k : Nat) : Int)), none, none, none, none, none]) (st' := []) rfl rfl rfl ?_
      have F1 : FrL m m1 := fun b z g1 g2 g3 => K1 b z g1 (by omega) (by omega)
      have hM1 := F1.MR hM
      refine E_s (p' := 27) (st' := aI 0 :: _) rfl rfl ?_
      refine E_s (p' := 28) (L' := [some (aA 124), some (aI ((i : Nat) : Int)), some (aI ((k : Nat) : Int)), some (aI 0), none, none, none, none]) rfl rfl ?_
      refine yl_lA (k := k) hi hM1 hV K3 (fun m2 a1 a2 => ?_) (Cn (S i) + 1) 0 m1 (by omega) (by omega) (fun b z _ => rfl) (fun d hd9 => absurd hd9 (by omega))
      have F2 : FrL m m2 := F1.tr (fun b z g1 g2 g3 => a1 b z (by omega))
      refine E_s (p' := 57) (st' := aI 0 :: _) rfl rfl ?_
      refine E_s (p' := 58) (L' := [some (aA 124), some (aI ((i : Nat) : Int)), some (aI ((k : Nat) : Int)), some (aI 0), none, none, none, none]) rfl rfl ?_
      refine yl_lB (k := k) hi (F2.MR hM) hV (fun d hd9 => (a1 _ _ (by omega)).trans (K3 d hd9)) (fun m3 b1 b2 => ?_) (Cn (S i) + 1) 0 m2 (by omega) (by omega) (fun b z _ => rfl) (fun d hd9 => absurd hd9 (by omega))
      have F3 : FrL m m3 := F2.tr (fun b z g1 g2 g3 => b1 b z (by omega))
      refine E_s (p' := 87) (st' := aA 124 :: _) rfl rfl ?_
      refine E_s (p' := 88) (st' := aI ((k : Nat) : Int) :: _) rfl rfl ?_
      refine E_s (p' := 89) (st' := aA 124 :: _) rfl rfl ?_
      refine E_gA (b := 148) rfl rfl rfl rfl rfl rfl ?_
      refine E_callV (k' := 157) (a := 124) (r := []) (L0 := [some (aA 124), some (aI ((k : Nat) : Int)), some (aA 148), none]) rfl rfl rfl rfl rfl rfl rfl rfl rfl rfl ?_
      refine m_readAll hk (Or.inl rfl) (F3.MR hMk) hVk (fun m4 P1 P2 P3 => ?_)
      refine E_go (p' := 95) (L' := [some (aA 124), some (aI ((i : Nat) : Int)), some (aI ((k : Nat) : Int)), some (aI ((Cn (S i) : Nat) : Int)), none, none, none, none]) (st' := []) rfl rfl rfl ?_
      have F4 : FrL m m4 := F3.tr (fun b z g1 g2 g3 => P1 b z g1 (by omega) (by omega))
      refine E_s (p' := 96) (st' := aI 0 :: _) rfl rfl ?_
      refine E_s (p' := 97) (L' := [some (aA 124), some (aI ((i : Nat) : Int)), some (aI ((k : Nat) : Int)), some (aI 0), none, none, none, none]) rfl rfl ?_
      refine yl_lC (i := i) (k := k) (fun m5 c1 c2 => ?_) 62 0 m4 (by omega) (by omega) (fun b z _ => rfl) (fun d hd9 => absurd hd9 (by omega))
      have F5 : FrL m m5 := F4.tr (fun b z g1 g2 g3 => c1 b z (by omega))
      refine E_s (p' := 117) (st' := aI 0 :: _) rfl rfl ?_
      refine E_s (p' := 118) (L' := [some (aA 124), some (aI ((i : Nat) : Int)), some (aI ((k : Nat) : Int)), some (aI 0), none, none, none, none]) rfl rfl ?_
      refine yl_lD hi hk (F5.MR hM) (F5.MR hMk) hV hVk (fun d hd9 => (c1 _ _ (by omega)).trans ((P1 _ _ (by omega) (by omega) (by omega)).trans ((b1 _ _ (by omega)).trans (a2 d hd9)))) (fun d hd9 => (c1 _ _ (by omega)).trans ((P1 _ _ (by omega) (by omega) (by omega)).trans (b2 d hd9))) (fun d hd9 => (c1 _ _ (by omega)).trans (P3 d hd9)) (fun m9 z1 => ?_) (Cn (S i) + 1) 0 m5 none none none none (by omega) (by omega) (fun b z _ => rfl) (fun t h9 => (c2 t (by omega)).trans rfl)
      have F9 : FrL m m9 := F5.tr (fun b z g1 g2 g3 => z1 b z (by omega))
      exact q _ m9 (Or.inl ⟨i, k, hi, hk, rfl, rfl, rfl⟩) (F9.MS hS) F9.Co1
    · refine E_go (p' := 11) (L' := [some (aA 124), some (aI ((i : Nat) : Int)), some (aI (t)), none, none, none, none, none]) (st' := [aI 0]) rfl rfl rfl ?_
      refine E_s (p' := 14) rfl rfl ?_
      refine E_s (p' := 16) (st' := aI (-2) :: _) rfl rfl ?_
      refine E_ret rfl rfl ?_
      exact q _ m (Or.inr ⟨by omega, rfl⟩) hS Co1.rf
  · refine E_go (p' := 4) (L' := [some (aA 124), some (aI (r)), some (aI (t)), none, none, none, none, none]) (st' := [aI 0]) rfl rfl rfl ?_
    refine E_s (p' := 14) rfl rfl ?_
    refine E_s (p' := 16) (st' := aI (-2) :: _) rfl rfl ?_
    refine E_ret rfl rfl ?_
    exact q _ m (Or.inr ⟨by omega, rfl⟩) hS Co1.rf
end
