noncomputable def aGrp (l : List (Nat × Nat)) (k w : Int) : Int := cif (0 ≤ k ∧ k < (l.length : Int)) (if w = 0 then ((l.getD k.toNat (0, 0)).1 : Int) else if w = 1 then ((l.getD k.toNat (0, 0)).2 : Int) else -1) (-1)
section
variable {len : Nat} {m : Mm} {Q : Option AV → Sx → Prop} {l : List (Nat × Nat)} {k w : Int}
theorem C_grp (hF : FL l m) (q : Q (some (aI (aGrp l k w))) (m, tl len)) : E 115 0 [some (aA 1), some (aI (k)), some (aI (w))] [] (m, tl len) Q := by
  have h300 := hF.1
  refine E_s (p' := 1) (st' := aI (k) :: _) rfl rfl ?_
  refine E_if_lt (x := (k)) rfl (by decide) (fun h_1 => ?_) (fun h_1 => ?_)
  · refine E_go (p' := 15) (L' := [some (aA 1), some (aI (k)), some (aI (w))]) (st' := []) rfl rfl rfl ?_
    refine E_s (p' := 16) (st' := aI (-1) :: _) rfl rfl ?_
    refine E_ret rfl rfl ?_
    rw [show (-1 : Int) = aGrp l k w from (by unfold aGrp; (try simp only [Int.toNat_natCast]); rw [cif_neg (by omega)])]
    exact q
  · refine E_go (p' := 4) (L' := [some (aA 1), some (aI (k)), some (aI (w))]) (st' := []) rfl rfl rfl ?_
    refine E_s (p' := 5) (st' := aI (k) :: _) rfl rfl ?_
    refine E_s (p' := 6) (st' := aA 1 :: _) rfl rfl ?_
    refine E_gA (b := 10) rfl rfl rfl rfl rfl rfl ?_
    refine E_gI (v := ((l.length : Nat) : Int)) rfl rfl rfl rfl hF.2.1 ?_
    refine E_icmp_lt (x := (k)) (y := ((l.length : Nat) : Int)) rfl (by decide) (fun h_2 => ?_) (fun h_2 => ?_)
    · refine E_go (p' := 17) (L' := [some (aA 1), some (aI (k)), some (aI (w))]) (st' := []) rfl rfl rfl ?_
      obtain ⟨kn, ek⟩ : ∃ x : Nat, k = (x : Int) := ⟨k.toNat, by omega⟩
      subst ek
      refine E_s (p' := 18) (st' := aI (w) :: _) rfl rfl ?_
      rcases (show (w) = 0 ∨ (w) = 1 ∨ ((w) ≠ 0 ∧ (w) ≠ 1) by omega) with h_3 | h_4 | h_5
      · refine E_valv h_3 ?_
        refine E_s (p' := 44) rfl rfl ?_
        refine E_s (p' := 45) (st' := aA 1 :: _) rfl rfl ?_
        refine E_gA (b := 10) rfl rfl rfl rfl rfl rfl ?_
        refine E_gA (b := 11) rfl rfl rfl rfl rfl rfl ?_
        refine E_s (p' := 52) (st' := aI ((kn : Nat) : Int) :: _) rfl rfl ?_
        refine E_ald (e := kn) (N := 300) (v := (((l.getD kn (0, 0)).1 : Nat) : Int)) rfl rfl (rfl) (by omega) (hF.2.2 _ (by omega)).1 ?_
        refine E_ret rfl rfl ?_
        rw [show (((l.getD kn (0, 0)).1 : Nat) : Int) = aGrp l (kn : Int) w from (by unfold aGrp; (try simp only [Int.toNat_natCast]); rw [cif_pos (by omega), if_pos (by omega)])]
        exact q
      · refine E_valv h_4 ?_
        refine E_s (p' := 54) rfl rfl ?_
        refine E_s (p' := 55) (st' := aA 1 :: _) rfl rfl ?_
        refine E_gA (b := 10) rfl rfl rfl rfl rfl rfl ?_
        refine E_gA (b := 12) rfl rfl rfl rfl rfl rfl ?_
        refine E_s (p' := 62) (st' := aI ((kn : Nat) : Int) :: _) rfl rfl ?_
        refine E_ald (e := kn) (N := 300) (v := (((l.getD kn (0, 0)).2 : Nat) : Int)) rfl rfl (rfl) (by omega) (hF.2.2 _ (by omega)).2 ?_
        refine E_ret rfl rfl ?_
        rw [show (((l.getD kn (0, 0)).2 : Nat) : Int) = aGrp l (kn : Int) w from (by unfold aGrp; (try simp only [Int.toNat_natCast]); rw [cif_pos (by omega), if_neg (by omega), if_pos (by omega)])]
        exact q
      · refine E_lkO rfl rfl (by show (if (0 : Int) = (w) then _ else if (1 : Int) = (w) then _ else _) = _; rw [if_neg (by omega), if_neg (by omega)]; rfl) (by decide) ?_
        refine E_go (p' := 64) (L' := [some (aA 1), some (aI ((kn : Nat) : Int)), some (aI (w))]) (st' := []) rfl rfl rfl ?_
        refine E_s (p' := 65) (st' := aI (-1) :: _) rfl rfl ?_
        refine E_ret rfl rfl ?_
        rw [show (-1 : Int) = aGrp l (kn : Int) w from (by unfold aGrp; (try simp only [Int.toNat_natCast]); rw [cif_pos (by omega), if_neg (by omega), if_neg (by omega)])]
        exact q
    · refine E_go (p' := 15) (L' := [some (aA 1), some (aI (k)), some (aI (w))]) (st' := []) rfl rfl rfl ?_
      refine E_s (p' := 16) (st' := aI (-1) :: _) rfl rfl ?_
      refine E_ret rfl rfl ?_
      rw [show (-1 : Int) = aGrp l k w from (by unfold aGrp; (try simp only [Int.toNat_natCast]); rw [cif_neg (by omega)])]
      exact q
theorem M_grp (hF : FM l m) (q : Q (some (aI (aGrp l k w))) (m, tl len)) : E 179 0 [some (aA 124), some (aI (k)), some (aI (w))] [] (m, tl len) Q := by
  have h300 := hF.1
  refine E_s (p' := 1) (st' := aI (k) :: _) rfl rfl ?_
  refine E_s (p' := 2) (st' := aI 0 :: _) rfl rfl ?_
  refine E_s (p' := 3) (st' := aA 124 :: _) rfl rfl ?_
  refine E_gI (v := ((l.length : Nat) : Int)) rfl rfl rfl rfl hF.2.1 ?_
  refine E_s (p' := 7) (st' := aI 1 :: _) rfl rfl ?_
  refine E_sub (v := ((l.length : Int) - 1)) rfl (by omega) (by omega) ?_
  refine E_callL (p' := 11) (L0 := [some (aI (k)), some (aI 0), some (aI ((l.length : Int) - 1))]) rfl rfl rfl ?_
  refine m_in (fun hr1 hr2 => ?_) (fun hr0 => ?_)
  · refine E_go (p' := 11) (L' := [some (aA 124), some (aI (k)), some (aI (w))]) (st' := [aI 1]) rfl rfl rfl ?_
    refine E_s (p' := 16) rfl rfl ?_
    obtain ⟨kn, ek⟩ : ∃ x : Nat, k = (x : Int) := ⟨k.toNat, by omega⟩
    subst ek
    refine E_s (p' := 17) (st' := aI (w) :: _) rfl rfl ?_
    refine E_if_ne (x := (w)) rfl (by decide) (fun h_1 => ?_) (fun h_1 => ?_)
    · refine E_go (p' := 29) (L' := [some (aA 124), some (aI ((kn : Nat) : Int)), some (aI (w))]) (st' := []) rfl rfl rfl ?_
      refine E_s (p' := 30) (st' := aI (w) :: _) rfl rfl ?_
      refine E_s (p' := 31) (st' := aI 1 :: _) rfl rfl ?_
      refine E_icmp_ne (x := (w)) (y := 1) rfl (by decide) (fun h_2 => ?_) (fun h_2 => ?_)
      · refine E_go (p' := 43) (L' := [some (aA 124), some (aI ((kn : Nat) : Int)), some (aI (w))]) (st' := []) rfl rfl rfl ?_
        refine E_s (p' := 44) (st' := aI (-1) :: _) rfl rfl ?_
        refine E_ret rfl rfl ?_
        rw [show (-1 : Int) = aGrp l (kn : Int) w from (by unfold aGrp; (try simp only [Int.toNat_natCast]); rw [cif_pos (by omega), if_neg (by omega), if_neg (by omega)])]
        exact q
      · refine E_go (p' := 34) (L' := [some (aA 124), some (aI ((kn : Nat) : Int)), some (aI (w))]) (st' := []) rfl rfl rfl ?_
        refine E_s (p' := 35) (st' := aA 124 :: _) rfl rfl ?_
        refine E_gA (b := 166) rfl rfl rfl rfl rfl rfl ?_
        refine E_s (p' := 39) (st' := aI ((kn : Nat) : Int) :: _) rfl rfl ?_
        refine E_ald (e := kn) (N := 300) (v := (((l.getD kn (0, 0)).2 : Nat) : Int)) rfl rfl (rfl) (by omega) (hF.2.2 _ (by omega)).2 ?_
        refine E_s (p' := 44) rfl rfl ?_
        refine E_ret rfl rfl ?_
        rw [show (((l.getD kn (0, 0)).2 : Nat) : Int) = aGrp l (kn : Int) w from (by unfold aGrp; (try simp only [Int.toNat_natCast]); rw [cif_pos (by omega), if_neg (by omega), if_pos (by omega)])]
        exact q
    · refine E_go (p' := 20) (L' := [some (aA 124), some (aI ((kn : Nat) : Int)), some (aI (w))]) (st' := []) rfl rfl rfl ?_
      refine E_s (p' := 21) (st' := aA 124 :: _) rfl rfl ?_
      refine E_gA (b := 165) rfl rfl rfl rfl rfl rfl ?_
      refine E_s (p' := 25) (st' := aI ((kn : Nat) : Int) :: _) rfl rfl ?_
      refine E_ald (e := kn) (N := 300) (v := (((l.getD kn (0, 0)).1 : Nat) : Int)) rfl rfl (rfl) (by omega) (hF.2.2 _ (by omega)).1 ?_
      refine E_s (p' := 44) rfl rfl ?_
      refine E_ret rfl rfl ?_
      rw [show (((l.getD kn (0, 0)).1 : Nat) : Int) = aGrp l (kn : Int) w from (by unfold aGrp; (try simp only [Int.toNat_natCast]); rw [cif_pos (by omega), if_pos (by omega)])]
      exact q
  · refine E_go (p' := 11) (L' := [some (aA 124), some (aI (k)), some (aI (w))]) (st' := [aI 0]) rfl rfl rfl ?_
    refine E_s (p' := 14) rfl rfl ?_
    refine E_s (p' := 15) (st' := aI (-1) :: _) rfl rfl ?_
    refine E_ret rfl rfl ?_
    rw [show (-1 : Int) = aGrp l k w from (by unfold aGrp; (try simp only [Int.toNat_natCast]); rw [cif_neg (by omega)])]
    exact q
end
