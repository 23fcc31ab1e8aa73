def mxv (u : Bool) : Nat := bif u then 6 else 5
section
variable {f F Lx M : Nat → Nat} {g h n : Nat}
theorem lvS_0 (h0 : f h = 0) : lvS f g (h + 1) = lvS f g h := by show (if f h = 0 then _ else _) = _; rw [if_pos h0]
theorem lvS_new (hq : lvS f g h = (n, (F, (Lx, M)))) (h0 : f h ≠ 0) (h1 : n = 0 ∨ Lx (n - 1) + g < h) : lvS f g (h + 1) = (n + 1, (upf F n h, (upf Lx n h, upf M n (f h)))) := by
  show (if f h = 0 then _ else _) = _
  rw [if_neg h0, hq, if_pos h1]
theorem lvS_old (hq : lvS f g h = (n, (F, (Lx, M)))) (h0 : f h ≠ 0) (h1 : ¬ (n = 0 ∨ Lx (n - 1) + g < h)) : lvS f g (h + 1) = (n, (F, (upf Lx (n - 1) h, upf M (n - 1) (M (n - 1) + f h)))) := by
  show (if f h = 0 then _ else _) = _
  rw [if_neg h0, hq, if_neg h1]
theorem lvS_st (f : Nat → Nat) (g h : Nat) : (lvS f g h).1 ≤ (lvS f g (h + 1)).1 := by
  show _ ≤ (if f h = 0 then _ else _ : Lv).1
  split
  · exact Nat.le_refl _
  · split
    · show _ ≤ _ + 1; omega
    · exact Nat.le_refl _
theorem lvS_mono (f : Nat → Nat) (g h : Nat) : ∀ d, (lvS f g h).1 ≤ (lvS f g (h + d)).1 := by
  intro d
  induction d with
  | zero => exact Nat.le_refl _
  | succ d ih => exact Nat.le_trans ih (lvS_st f g (h + d))
theorem lvS_me (fb : ∀ h, f h ≤ 1800) : ∀ h l, (lvS f g h).2.2.2 l ≤ 1800 * h := by
  intro h
  induction h with
  | zero => intro l; exact Nat.le_refl _
  | succ h ih =>
    intro l
    have hf := fb h
    obtain ⟨n, F, Lx, M, hq⟩ : ∃ n F Lx M, lvS f g h = (n, (F, (Lx, M))) := ⟨_, _, _, _, rfl⟩
    have ih' : ∀ l, M l ≤ 1800 * h := fun l => by have := ih l; rw [hq] at this; exact this
    by_cases h0 : f h = 0
    · rw [lvS_0 h0, hq]; have := ih' l; show M l ≤ _; omega
    · by_cases h1 : n = 0 ∨ Lx (n - 1) + g < h
      · rw [lvS_new hq h0 h1]
        show upf M n (f h) l ≤ _
        unfold upf
        have := ih' l
        split <;> omega
      · rw [lvS_old hq h0 h1]
        show upf M (n - 1) (M (n - 1) + f h) l ≤ _
        unfold upf
        have := ih' l
        have := ih' (n - 1)
        split <;> omega
theorem lvS_la : ∀ h l, (lvS f g h).2.2.1 l ≤ h := by
  intro h
  induction h with
  | zero => intro l; exact Nat.le_refl _
  | succ h ih =>
    intro l
    obtain ⟨n, F, Lx, M, hq⟩ : ∃ n F Lx M, lvS f g h = (n, (F, (Lx, M))) := ⟨_, _, _, _, rfl⟩
    have ih' : ∀ l, Lx l ≤ h := fun l => by have := ih l; rw [hq] at this; exact this
    have := ih' l
    by_cases h0 : f h = 0
    · rw [lvS_0 h0, hq]; show Lx l ≤ _; omega
    · by_cases h1 : n = 0 ∨ Lx (n - 1) + g < h
      · rw [lvS_new hq h0 h1]
        show upf Lx n h l ≤ _
        unfold upf
        split <;> omega
      · rw [lvS_old hq h0 h1]
        show upf Lx (n - 1) h l ≤ _
        unfold upf
        split <;> omega
end
section
variable {len : Nat} {m : Mm} {Q : Option AV → Sx → Prop} {R : RD} {a : Nat} {u : Bool}
theorem c_mostLevels (hR : isR a) (hu : m (a + 15) 11 = bi u) (q : Q (some (aI (mxv u : Int))) (m, tl len)) : E 44 0 [some (aA (a + 15))] [] (m, tl len) Q := by
  refine E_s (p' := 1) (st' := aA (a + 15) :: _) rfl rfl ?_
  refine E_gI (v := (bi u)) rfl rfl rfl (kR_15 hR) hu ?_
  refine E_b_eq0 (b := u) rfl (by decide) (fun h_1 => ?_) (fun h_1 => ?_)
  · refine E_go (p' := 12) (L' := [some (aA (a + 15))]) (st' := []) rfl rfl rfl ?_
    refine E_s (p' := 13) (st' := aI 5 :: _) rfl rfl ?_
    refine E_ret rfl rfl ?_
    rw [h_1] at q
    exact q
  · refine E_go (p' := 7) (L' := [some (aA (a + 15))]) (st' := []) rfl rfl rfl ?_
    refine E_s (p' := 9) (st' := aI 6 :: _) rfl rfl ?_
    refine E_s (p' := 13) rfl rfl ?_
    refine E_ret rfl rfl ?_
    rw [h_1] at q
    exact q
end
section
variable {len : Nat} {m0 : Mm} {Q : Option AV → Sx → Prop} {a g : Nat} {u : Bool} {f : Nat → Nat}
theorem yl_fl (hR : isR a) (hf : ∀ h, h < 601 → m0 (a + 24) h = (f h : Int)) (hu : m0 (a + 15) 11 = bi u) (fb : ∀ h, f h ≤ 1800) (hg : g ≤ 100) (q : ∀ m1 : Mm, Fx (a + 15) (a + 19) m0 m1 → (∀ j, j ≠ 12 → m1 (a + 15) j = m0 (a + 15) j) → m1 (a + 15) 12 = ((if mxv u < (lvS f g 601).1 then 0 else (lvS f g 601).1 : Nat) : Int) → (¬ mxv u < (lvS f g 601).1 → ∀ l, l < (lvS f g 601).1 → m1 (a + 16) l = ((lvS f g 601).2.1 l : Int) ∧ m1 (a + 17) l = ((lvS f g 601).2.2.1 l : Int) ∧ m1 (a + 19) l = ((lvS f g 601).2.2.2 l : Int)) → Q none (m1, tl len)) : ∀ (d : Nat) (h n : Nat) (F Lx M : Nat → Nat) (m : Mm), (601 < h + d) → (1 ≤ h ∧ h ≤ 601) → (lvS f g h = (n, (F, (Lx, M)))) → (n ≤ mxv u) → (m (a + 15) 12 = (n : Int)) → (∀ l, l < n → m (a + 16) l = (F l : Int) ∧ m (a + 17) l = (Lx l : Int) ∧ m (a + 19) l = (M l : Int)) → (Fx (a + 15) (a + 19) m0 m) → (∀ j, j ≠ 12 → m (a + 15) j = m0 (a + 15) j) → E 43 7 [some (aA (a + 15)), some (aI ((g : Nat) : Int)), some (aI ((h : Nat) : Int))] [] (m, tl len) Q := by
  intro d
  induction d with
  | zero => intro h n F Lx M m hd hh hq hn I0 I1 I2 I3; omega
  | succ d ih =>
    intro h n F Lx M m hd hh hq hn I0 I1 I2 I3
    have hab := isR_b hR
    have hmx : mxv u = 5 ∨ mxv u = 6 := by cases u; exact Or.inl rfl; exact Or.inr rfl
    have hme : ∀ l, M l ≤ 1800 * h := fun l => by have := lvS_me (g := g) fb h l; rw [hq] at this; exact this
    have hmn := hme (n - 1)
    have hlm : Lx (n - 1) ≤ h := by have := lvS_la (f := f) (g := g) h (n - 1); rw [hq] at this; exact this
    refine E_s (p' := 8) (st' := aI ((h : Nat) : Int) :: _) rfl rfl ?_
    refine E_s (p' := 11) (st' := aI 600 :: _) rfl rfl ?_
    refine E_icmp_gt (x := ((h : Nat) : Int)) (y := 600) rfl (by decide) (fun h_1 => ?_) (fun h_1 => ?_)
    · refine E_go (p' := 135) (L' := [some (aA (a + 15)), some (aI ((g : Nat) : Int)), some (aI ((h : Nat) : Int))]) (st' := []) rfl rfl rfl ?_
      refine E_ret rfl rfl ?_
      have eh : h = 601 := by omega
      subst eh
      rw [hq] at q
      exact q m I2 I3 (I0.trans (by rw [if_neg (show ¬ mxv u < n by omega)])) (fun _ => I1)
    · refine E_go (p' := 14) (L' := [some (aA (a + 15)), some (aI ((g : Nat) : Int)), some (aI ((h : Nat) : Int))]) (st' := []) rfl rfl rfl ?_
      have hfh := fb h
      refine E_s (p' := 15) (st' := aA (a + 15) :: _) rfl rfl ?_
      refine E_gA (b := a + 24) rfl rfl rfl (kR_15 hR) (hR_15_8 hR) rfl ?_
      refine E_s (p' := 19) (st' := aI ((h : Nat) : Int) :: _) rfl rfl ?_
      refine E_ald (e := h) (N := 601) (v := ((f h : Nat) : Int)) rfl (kR_24 hR) (rfl) (by omega) ((I2 _ _ (by omega)).trans (hf _ (by omega))) ?_
      refine E_if_ne (x := ((f h : Nat) : Int)) rfl (by decide) (fun h_2 => ?_) (fun h_2 => ?_)
      · refine E_go (p' := 26) (L' := [some (aA (a + 15)), some (aI ((g : Nat) : Int)), some (aI ((h : Nat) : Int))]) (st' := []) rfl rfl rfl ?_
        refine E_s (p' := 27) (st' := aA (a + 15) :: _) rfl rfl ?_
        refine E_gI (v := ((n : Nat) : Int)) rfl rfl rfl (kR_15 hR) I0 ?_
        refine E_if_eq (x := ((n : Nat) : Int)) rfl (by decide) (fun h_3 => ?_) (fun h_3 => ?_)
        · refine E_go (p' := 50) (L' := [some (aA (a + 15)), some (aI ((g : Nat) : Int)), some (aI ((h : Nat) : Int))]) (st' := []) rfl rfl rfl ?_
          refine E_s (p' := 51) (st' := aA (a + 15) :: _) rfl rfl ?_
          refine E_gI (v := ((n : Nat) : Int)) rfl rfl rfl (kR_15 hR) I0 ?_
          refine E_s (p' := 55) (st' := aA (a + 15) :: _) rfl rfl ?_
          refine E_callV (k' := 44) (a := a + 15) (r := [aI ((n : Nat) : Int)]) (L0 := [some (aA (a + 15))]) rfl rfl rfl rfl rfl (kR_15 hR) rfl rfl rfl rfl ?_
          refine c_mostLevels hR ((I3 _ (by decide)).trans hu) ?_
          refine E_go (p' := 58) (L' := [some (aA (a + 15)), some (aI ((g : Nat) : Int)), some (aI ((h : Nat) : Int))]) (st' := [aI ((mxv u : Nat) : Int), aI ((n : Nat) : Int)]) rfl rfl rfl ?_
          refine E_icmp_ne (x := ((n : Nat) : Int)) (y := ((mxv u : Nat) : Int)) rfl (by decide) (fun h_4 => ?_) (fun h_4 => ?_)
          · refine E_go (p' := 67) (L' := [some (aA (a + 15)), some (aI ((g : Nat) : Int)), some (aI ((h : Nat) : Int))]) (st' := []) rfl rfl rfl ?_
            refine E_s (p' := 68) (st' := aA (a + 15) :: _) rfl rfl ?_
            refine E_gA (b := a + 16) rfl rfl rfl (kR_15 hR) (hR_15_0 hR) rfl ?_
            refine E_s (p' := 72) (st' := aA (a + 15) :: _) rfl rfl ?_
            refine E_gI (v := ((n : Nat) : Int)) rfl rfl rfl (kR_15 hR) I0 ?_
            refine E_s (p' := 76) (st' := aI ((h : Nat) : Int) :: _) rfl rfl ?_
            refine E_ast (e := n) (N := 6) rfl (kR_16 hR) (rfl) (by omega) ?_
            refine E_s (p' := 78) (st' := aA (a + 15) :: _) rfl rfl ?_
            refine E_gA (b := a + 19) rfl rfl rfl (kR_15 hR) (hR_15_3 hR) rfl ?_
            refine E_s (p' := 82) (st' := aA (a + 15) :: _) rfl rfl ?_
            refine E_gI (v := ((n : Nat) : Int)) rfl rfl rfl (kR_15 hR) ((up2_ne (by omega)).trans (I0)) ?_
            refine E_s (p' := 86) (st' := aI 0 :: _) rfl rfl ?_
            refine E_ast (e := n) (N := 6) rfl (kR_19 hR) (rfl) (by omega) ?_
            refine E_s (p' := 88) (st' := aA (a + 15) :: _) rfl rfl ?_
            refine E_s (p' := 89) (st' := aA (a + 15) :: _) rfl rfl ?_
            refine E_gI (v := ((n : Nat) : Int)) rfl rfl rfl (kR_15 hR) ((up2_ne (by omega)).trans ((up2_ne (by omega)).trans (I0))) ?_
            refine E_s (p' := 93) (st' := aI 1 :: _) rfl rfl ?_
            refine E_add (v := ((n + 1 : Nat) : Int)) rfl (by omega) (by omega) ?_
            refine E_pI rfl rfl rfl (kR_15 hR) (Or.inl rfl) ?_
            refine E_s (p' := 98) (st' := aA (a + 15) :: _) rfl rfl ?_
            refine E_gA (b := a + 17) rfl rfl rfl (kR_15 hR) (hR_15_1 hR) rfl ?_
            refine E_s (p' := 102) (st' := aA (a + 15) :: _) rfl rfl ?_
            refine E_gI (v := ((n + 1 : Nat) : Int)) rfl rfl rfl (kR_15 hR) up2_eq ?_
            refine E_s (p' := 106) (st' := aI 1 :: _) rfl rfl ?_
            refine E_sub (v := ((n : Nat) : Int)) rfl (by omega) (by omega) ?_
            refine E_s (p' := 108) (st' := aI ((h : Nat) : Int) :: _) rfl rfl ?_
            refine E_ast (e := n) (N := 6) rfl (kR_17 hR) (rfl) (by omega) ?_
            refine E_s (p' := 110) (st' := aA (a + 15) :: _) rfl rfl ?_
            refine E_gA (b := a + 19) rfl rfl rfl (kR_15 hR) (hR_15_3 hR) rfl ?_
            refine E_s (p' := 114) (st' := aA (a + 15) :: _) rfl rfl ?_
            refine E_gI (v := ((n + 1 : Nat) : Int)) rfl rfl rfl (kR_15 hR) ((up2_ne (by omega)).trans (up2_eq)) ?_
            refine E_s (p' := 118) (st' := aI 1 :: _) rfl rfl ?_
            refine E_sub (v := ((n : Nat) : Int)) rfl (by omega) (by omega) ?_
            refine E_s (p' := 120) rfl rfl ?_
            refine E_ald (e := n) (N := 6) (v := 0) rfl (kR_19 hR) (rfl) (by omega) ((up2_ne (by omega)).trans ((up2_ne (by omega)).trans (up2_eq))) ?_
            refine E_s (p' := 122) (st' := aA (a + 15) :: _) rfl rfl ?_
            refine E_gA (b := a + 24) rfl rfl rfl (kR_15 hR) (hR_15_8 hR) rfl ?_
            refine E_s (p' := 126) (st' := aI ((h : Nat) : Int) :: _) rfl rfl ?_
            refine E_ald (e := h) (N := 601) (v := ((f h : Nat) : Int)) rfl (kR_24 hR) (rfl) (by omega) ((up2_ne (by omega)).trans ((up2_ne (by omega)).trans ((up2_ne (by omega)).trans ((up2_ne (by omega)).trans (((I2 _ _ (by omega)).trans (hf _ (by omega)))))))) ?_
            refine E_add (v := ((f h : Nat) : Int)) rfl (by omega) (by omega) ?_
            refine E_ast (e := n) (N := 6) rfl (kR_19 hR) (rfl) (by omega) ?_
            refine E_inc (x := ((h : Nat) : Int)) (w := ((h + 1 : Nat) : Int)) (L' := [some (aA (a + 15)), some (aI ((g : Nat) : Int)), some (aI ((h + 1 : Nat) : Int))]) rfl rfl rfl (by omega) (by omega) rfl ?_
            refine E_s (p' := 7) rfl rfl ?_
            refine ih (h + 1) (n + 1) (upf F n h) (upf Lx n h) (upf M n (f h)) _ (by omega) (by omega) (lvS_new hq (by omega) (by omega)) (by omega) ((up2_ne (by omega)).trans ((up2_ne (by omega)).trans (up2_eq))) (fun l hl => ?_) (((((I2.up (by omega) (by omega)).up (by omega) (by omega)).up (by omega) (by omega)).up (by omega) (by omega)).up (by omega) (by omega)) (fun j hj => ((up2_o (by omega)).trans ((up2_o (by omega)).trans ((up2_o (by omega)).trans ((up2_o (by omega)).trans (up2_o (by omega)))))).trans (I3 j hj))
            by_cases g9 : l = n
            · subst g9
              rw [upf_eq, upf_eq, upf_eq]
              exact ⟨((up2_ne (by omega)).trans ((up2_ne (by omega)).trans ((up2_ne (by omega)).trans ((up2_ne (by omega)).trans (up2_eq))))), ((up2_ne (by omega)).trans (up2_eq)), (up2_eq)⟩
            · rw [upf_ne g9, upf_ne g9, upf_ne g9]
              obtain ⟨g1, g2, g3⟩ := I1 l (by omega)
              exact ⟨((up2_o (by omega)).trans ((up2_o (by omega)).trans ((up2_o (by omega)).trans ((up2_o (by omega)).trans (up2_o (by omega)))))).trans g1, ((up2_o (by omega)).trans ((up2_o (by omega)).trans ((up2_o (by omega)).trans ((up2_o (by omega)).trans (up2_o (by omega)))))).trans g2, ((up2_o (by omega)).trans ((up2_o (by omega)).trans ((up2_o (by omega)).trans ((up2_o (by omega)).trans (up2_o (by omega)))))).trans g3⟩
          · refine E_go (p' := 61) (L' := [some (aA (a + 15)), some (aI ((g : Nat) : Int)), some (aI ((h : Nat) : Int))]) (st' := []) rfl rfl rfl ?_
            refine E_s (p' := 62) (st' := aA (a + 15) :: _) rfl rfl ?_
            refine E_s (p' := 63) (st' := aI 0 :: _) rfl rfl ?_
            refine E_pI rfl rfl rfl (kR_15 hR) (Or.inl rfl) ?_
            refine E_ret rfl rfl ?_
            have hst : n + 1 ≤ (lvS f g 601).1 := by
              have h1 := lvS_mono f g (h + 1) (600 - h)
              rw [show h + 1 + (600 - h) = 601 by omega, lvS_new hq (by omega) (by omega)] at h1
              exact h1
            exact q _ ((I2.up (by omega) (by omega))) (fun j hj => (up2_sl hj).trans (I3 j hj)) (up2_eq.trans (by rw [if_pos (by omega)]; rfl)) (fun g9 => absurd g9 (by omega))
        · refine E_go (p' := 33) (L' := [some (aA (a + 15)), some (aI ((g : Nat) : Int)), some (aI ((h : Nat) : Int))]) (st' := []) rfl rfl rfl ?_
          refine E_s (p' := 34) (st' := aI ((h : Nat) : Int) :: _) rfl rfl ?_
          refine E_s (p' := 35) (st' := aA (a + 15) :: _) rfl rfl ?_
          refine E_gA (b := a + 17) rfl rfl rfl (kR_15 hR) (hR_15_1 hR) rfl ?_
          refine E_s (p' := 39) (st' := aA (a + 15) :: _) rfl rfl ?_
          refine E_gI (v := ((n : Nat) : Int)) rfl rfl rfl (kR_15 hR) I0 ?_
          refine E_s (p' := 43) (st' := aI 1 :: _) rfl rfl ?_
          refine E_sub (v := ((n : Int) - 1)) rfl (by omega) (by omega) ?_
          refine E_ald (e := ((n : Int) - 1).toNat) (N := 6) (v := ((Lx (n - 1) : Nat) : Int)) rfl (kR_17 hR) (by omega) (by omega) (by rw [show ((n : Int) - 1).toNat = n - 1 by omega]; exact (I1 (n - 1) (by omega)).2.1) ?_
          refine E_sub (v := ((h : Int) - (Lx (n - 1) : Int))) rfl (by omega) (by omega) ?_
          refine E_s (p' := 47) (st' := aI ((g : Nat) : Int) :: _) rfl rfl ?_
          refine E_icmp_le (x := ((h : Int) - (Lx (n - 1) : Int))) (y := ((g : Nat) : Int)) rfl (by decide) (fun h_5 => ?_) (fun h_5 => ?_)
          · refine E_go (p' := 97) (L' := [some (aA (a + 15)), some (aI ((g : Nat) : Int)), some (aI ((h : Nat) : Int))]) (st' := []) rfl rfl rfl ?_
            refine E_s (p' := 98) (st' := aA (a + 15) :: _) rfl rfl ?_
            refine E_gA (b := a + 17) rfl rfl rfl (kR_15 hR) (hR_15_1 hR) rfl ?_
            refine E_s (p' := 102) (st' := aA (a + 15) :: _) rfl rfl ?_
            refine E_gI (v := ((n : Nat) : Int)) rfl rfl rfl (kR_15 hR) I0 ?_
            refine E_s (p' := 106) (st' := aI 1 :: _) rfl rfl ?_
            refine E_sub (v := ((n : Int) - 1)) rfl (by omega) (by omega) ?_
            refine E_s (p' := 108) (st' := aI ((h : Nat) : Int) :: _) rfl rfl ?_
            refine E_ast (e := ((n : Int) - 1).toNat) (N := 6) rfl (kR_17 hR) (by omega) (by omega) ?_
            refine E_s (p' := 110) (st' := aA (a + 15) :: _) rfl rfl ?_
            refine E_gA (b := a + 19) rfl rfl rfl (kR_15 hR) (hR_15_3 hR) rfl ?_
            refine E_s (p' := 114) (st' := aA (a + 15) :: _) rfl rfl ?_
            refine E_gI (v := ((n : Nat) : Int)) rfl rfl rfl (kR_15 hR) ((up2_ne (by omega)).trans (I0)) ?_
            refine E_s (p' := 118) (st' := aI 1 :: _) rfl rfl ?_
            refine E_sub (v := ((n : Int) - 1)) rfl (by omega) (by omega) ?_
            refine E_s (p' := 120) rfl rfl ?_
            refine E_ald (e := ((n : Int) - 1).toNat) (N := 6) (v := ((M (n - 1) : Nat) : Int)) rfl (kR_19 hR) (by omega) (by omega) ((up2_ne (by omega)).trans ((by rw [show ((n : Int) - 1).toNat = n - 1 by omega]; exact (I1 (n - 1) (by omega)).2.2))) ?_
            refine E_s (p' := 122) (st' := aA (a + 15) :: _) rfl rfl ?_
            refine E_gA (b := a + 24) rfl rfl rfl (kR_15 hR) (hR_15_8 hR) rfl ?_
            refine E_s (p' := 126) (st' := aI ((h : Nat) : Int) :: _) rfl rfl ?_
            refine E_ald (e := h) (N := 601) (v := ((f h : Nat) : Int)) rfl (kR_24 hR) (rfl) (by omega) ((up2_ne (by omega)).trans (((I2 _ _ (by omega)).trans (hf _ (by omega))))) ?_
            refine E_add (v := ((M (n - 1) + f h : Nat) : Int)) rfl (by omega) (by omega) ?_
            refine E_ast (e := ((n : Int) - 1).toNat) (N := 6) rfl (kR_19 hR) (by omega) (by omega) ?_
            refine E_inc (x := ((h : Nat) : Int)) (w := ((h + 1 : Nat) : Int)) (L' := [some (aA (a + 15)), some (aI ((g : Nat) : Int)), some (aI ((h + 1 : Nat) : Int))]) rfl rfl rfl (by omega) (by omega) rfl ?_
            refine E_s (p' := 7) rfl rfl ?_
            have en : ((n : Int) - 1).toNat = n - 1 := by omega
            rw [en]
            refine ih (h + 1) n F (upf Lx (n - 1) h) (upf M (n - 1) (M (n - 1) + f h)) _ (by omega) (by omega) (lvS_old hq (by omega) (by omega)) hn (((up2_ne (by omega)).trans (up2_ne (by omega))).trans I0) (fun l hl => ⟨((up2_ne (by omega)).trans (up2_ne (by omega))).trans (I1 l hl).1, ?_, ?_⟩) ((I2.up (by omega) (by omega)).up (by omega) (by omega)) (fun j hj => ((up2_ne (by omega)).trans (up2_ne (by omega))).trans (I3 j hj))
            · refine (up2_ne (by omega)).trans ?_
              by_cases g9 : l = n - 1
              · rw [g9, upf_eq]; exact up2_eq
              · rw [upf_ne g9]; exact (up2_sl g9).trans (I1 l hl).2.1
            · by_cases g9 : l = n - 1
              · rw [g9, upf_eq]; exact up2_eq
              · rw [upf_ne g9]; exact (up2_sl g9).trans ((up2_ne (by omega)).trans (I1 l hl).2.2)
          · refine E_go (p' := 50) (L' := [some (aA (a + 15)), some (aI ((g : Nat) : Int)), some (aI ((h : Nat) : Int))]) (st' := []) rfl rfl rfl ?_
            refine E_s (p' := 51) (st' := aA (a + 15) :: _) rfl rfl ?_
            refine E_gI (v := ((n : Nat) : Int)) rfl rfl rfl (kR_15 hR) I0 ?_
            refine E_s (p' := 55) (st' := aA (a + 15) :: _) rfl rfl ?_
            refine E_callV (k' := 44) (a := a + 15) (r := [aI ((n : Nat) : Int)]) (L0 := [some (aA (a + 15))]) rfl rfl rfl rfl rfl (kR_15 hR) rfl rfl rfl rfl ?_
            refine c_mostLevels hR ((I3 _ (by decide)).trans hu) ?_
            refine E_go (p' := 58) (L' := [some (aA (a + 15)), some (aI ((g : Nat) : Int)), some (aI ((h : Nat) : Int))]) (st' := [aI ((mxv u : Nat) : Int), aI ((n : Nat) : Int)]) rfl rfl rfl ?_
            refine E_icmp_ne (x := ((n : Nat) : Int)) (y := ((mxv u : Nat) : Int)) rfl (by decide) (fun h_6 => ?_) (fun h_6 => ?_)
            · refine E_go (p' := 67) (L' := [some (aA (a + 15)), some (aI ((g : Nat) : Int)), some (aI ((h : Nat) : Int))]) (st' := []) rfl rfl rfl ?_
              refine E_s (p' := 68) (st' := aA (a + 15) :: _) rfl rfl ?_
              refine E_gA (b := a + 16) rfl rfl rfl (kR_15 hR) (hR_15_0 hR) rfl ?_
              refine E_s (p' := 72) (st' := aA (a + 15) :: _) rfl rfl ?_
              refine E_gI (v := ((n : Nat) : Int)) rfl rfl rfl (kR_15 hR) I0 ?_
              refine E_s (p' := 76) (st' := aI ((h : Nat) : Int) :: _) rfl rfl ?_
              refine E_ast (e := n) (N := 6) rfl (kR_16 hR) (rfl) (by omega) ?_
              refine E_s (p' := 78) (st' := aA (a + 15) :: _) rfl rfl ?_
              refine E_gA (b := a + 19) rfl rfl rfl (kR_15 hR) (hR_15_3 hR) rfl ?_
              refine E_s (p' := 82) (st' := aA (a + 15) :: _) rfl rfl ?_
              refine E_gI (v := ((n : Nat) : Int)) rfl rfl rfl (kR_15 hR) ((up2_ne (by omega)).trans (I0)) ?_
              refine E_s (p' := 86) (st' := aI 0 :: _) rfl rfl ?_
              refine E_ast (e := n) (N := 6) rfl (kR_19 hR) (rfl) (by omega) ?_
              refine E_s (p' := 88) (st' := aA (a + 15) :: _) rfl rfl ?_
              refine E_s (p' := 89) (st' := aA (a + 15) :: _) rfl rfl ?_
              refine E_gI (v := ((n : Nat) : Int)) rfl rfl rfl (kR_15 hR) ((up2_ne (by omega)).trans ((up2_ne (by omega)).trans (I0))) ?_
              refine E_s (p' := 93) (st' := aI 1 :: _) rfl rfl ?_
              refine E_add (v := ((n + 1 : Nat) : Int)) rfl (by omega) (by omega) ?_
              refine E_pI rfl rfl rfl (kR_15 hR) (Or.inl rfl) ?_
              refine E_s (p' := 98) (st' := aA (a + 15) :: _) rfl rfl ?_
              refine E_gA (b := a + 17) rfl rfl rfl (kR_15 hR) (hR_15_1 hR) rfl ?_
              refine E_s (p' := 102) (st' := aA (a + 15) :: _) rfl rfl ?_
              refine E_gI (v := ((n + 1 : Nat) : Int)) rfl rfl rfl (kR_15 hR) up2_eq ?_
              refine E_s (p' := 106) (st' := aI 1 :: _) rfl rfl ?_
              refine E_sub (v := ((n : Nat) : Int)) rfl (by omega) (by omega) ?_
              refine E_s (p' := 108) (st' := aI ((h : Nat) : Int) :: _) rfl rfl ?_
              refine E_ast (e := n) (N := 6) rfl (kR_17 hR) (rfl) (by omega) ?_
              refine E_s (p' := 110) (st' := aA (a + 15) :: _) rfl rfl ?_
              refine E_gA (b := a + 19) rfl rfl rfl (kR_15 hR) (hR_15_3 hR) rfl ?_
              refine E_s (p' := 114) (st' := aA (a + 15) :: _) rfl rfl ?_
              refine E_gI (v := ((n + 1 : Nat) : Int)) rfl rfl rfl (kR_15 hR) ((up2_ne (by omega)).trans (up2_eq)) ?_
              refine E_s (p' := 118) (st' := aI 1 :: _) rfl rfl ?_
              refine E_sub (v := ((n : Nat) : Int)) rfl (by omega) (by omega) ?_
              refine E_s (p' := 120) rfl rfl ?_
              refine E_ald (e := n) (N := 6) (v := 0) rfl (kR_19 hR) (rfl) (by omega) ((up2_ne (by omega)).trans ((up2_ne (by omega)).trans (up2_eq))) ?_
              refine E_s (p' := 122) (st' := aA (a + 15) :: _) rfl rfl ?_
              refine E_gA (b := a + 24) rfl rfl rfl (kR_15 hR) (hR_15_8 hR) rfl ?_
              refine E_s (p' := 126) (st' := aI ((h : Nat) : Int) :: _) rfl rfl ?_
              refine E_ald (e := h) (N := 601) (v := ((f h : Nat) : Int)) rfl (kR_24 hR) (rfl) (by omega) ((up2_ne (by omega)).trans ((up2_ne (by omega)).trans ((up2_ne (by omega)).trans ((up2_ne (by omega)).trans (((I2 _ _ (by omega)).trans (hf _ (by omega)))))))) ?_
              refine E_add (v := ((f h : Nat) : Int)) rfl (by omega) (by omega) ?_
              refine E_ast (e := n) (N := 6) rfl (kR_19 hR) (rfl) (by omega) ?_
              refine E_inc (x := ((h : Nat) : Int)) (w := ((h + 1 : Nat) : Int)) (L' := [some (aA (a + 15)), some (aI ((g : Nat) : Int)), some (aI ((h + 1 : Nat) : Int))]) rfl rfl rfl (by omega) (by omega) rfl ?_
              refine E_s (p' := 7) rfl rfl ?_
              refine ih (h + 1) (n + 1) (upf F n h) (upf Lx n h) (upf M n (f h)) _ (by omega) (by omega) (lvS_new hq (by omega) (by omega)) (by omega) ((up2_ne (by omega)).trans ((up2_ne (by omega)).trans (up2_eq))) (fun l hl => ?_) (((((I2.up (by omega) (by omega)).up (by omega) (by omega)).up (by omega) (by omega)).up (by omega) (by omega)).up (by omega) (by omega)) (fun j hj => ((up2_o (by omega)).trans ((up2_o (by omega)).trans ((up2_o (by omega)).trans ((up2_o (by omega)).trans (up2_o (by omega)))))).trans (I3 j hj))
              by_cases g9 : l = n
              · subst g9
                rw [upf_eq, upf_eq, upf_eq]
                exact ⟨((up2_ne (by omega)).trans ((up2_ne (by omega)).trans ((up2_ne (by omega)).trans ((up2_ne (by omega)).trans (up2_eq))))), ((up2_ne (by omega)).trans (up2_eq)), (up2_eq)⟩
              · rw [upf_ne g9, upf_ne g9, upf_ne g9]
                obtain ⟨g1, g2, g3⟩ := I1 l (by omega)
                exact ⟨((up2_o (by omega)).trans ((up2_o (by omega)).trans ((up2_o (by omega)).trans ((up2_o (by omega)).trans (up2_o (by omega)))))).trans g1, ((up2_o (by omega)).trans ((up2_o (by omega)).trans ((up2_o (by omega)).trans ((up2_o (by omega)).trans (up2_o (by omega)))))).trans g2, ((up2_o (by omega)).trans ((up2_o (by omega)).trans ((up2_o (by omega)).trans ((up2_o (by omega)).trans (up2_o (by omega)))))).trans g3⟩
            · refine E_go (p' := 61) (L' := [some (aA (a + 15)), some (aI ((g : Nat) : Int)), some (aI ((h : Nat) : Int))]) (st' := []) rfl rfl rfl ?_
              refine E_s (p' := 62) (st' := aA (a + 15) :: _) rfl rfl ?_
              refine E_s (p' := 63) (st' := aI 0 :: _) rfl rfl ?_
              refine E_pI rfl rfl rfl (kR_15 hR) (Or.inl rfl) ?_
              refine E_ret rfl rfl ?_
              have hst : n + 1 ≤ (lvS f g 601).1 := by
                have h1 := lvS_mono f g (h + 1) (600 - h)
                rw [show h + 1 + (600 - h) = 601 by omega, lvS_new hq (by omega) (by omega)] at h1
                exact h1
              exact q _ ((I2.up (by omega) (by omega))) (fun j hj => (up2_sl hj).trans (I3 j hj)) (up2_eq.trans (by rw [if_pos (by omega)]; rfl)) (fun g9 => absurd g9 (by omega))
      · refine E_go (p' := 23) (L' := [some (aA (a + 15)), some (aI ((g : Nat) : Int)), some (aI ((h : Nat) : Int))]) (st' := []) rfl rfl rfl ?_
        refine E_s (p' := 129) rfl rfl ?_
        refine E_inc (x := ((h : Nat) : Int)) (w := ((h + 1 : Nat) : Int)) (L' := [some (aA (a + 15)), some (aI ((g : Nat) : Int)), some (aI ((h + 1 : Nat) : Int))]) rfl rfl rfl (by omega) (by omega) rfl ?_
        refine E_s (p' := 7) rfl rfl ?_
        exact ih (h + 1) n F Lx M m (by omega) (by omega) (by rw [lvS_0 (by omega)]; exact hq) hn I0 I1 I2 I3
theorem c_findLevels (hR : isR a) (hf : ∀ h, h < 601 → m0 (a + 24) h = (f h : Int)) (hu : m0 (a + 15) 11 = bi u) (fb : ∀ h, f h ≤ 1800) (hg : g ≤ 100) (f0 : f 0 = 0) (q : ∀ m1 : Mm, Fx (a + 15) (a + 19) m0 m1 → (∀ j, j ≠ 12 → m1 (a + 15) j = m0 (a + 15) j) → m1 (a + 15) 12 = ((if mxv u < (lvS f g 601).1 then 0 else (lvS f g 601).1 : Nat) : Int) → (¬ mxv u < (lvS f g 601).1 → ∀ l, l < (lvS f g 601).1 → m1 (a + 16) l = ((lvS f g 601).2.1 l : Int) ∧ m1 (a + 17) l = ((lvS f g 601).2.2.1 l : Int) ∧ m1 (a + 19) l = ((lvS f g 601).2.2.2 l : Int)) → Q none (m1, tl len)) : E 43 0 [some (aA (a + 15)), some (aI ((g : Nat) : Int)), none] [] (m0, tl len) Q := by
  refine E_s (p' := 1) (st' := aA (a + 15) :: _) rfl rfl ?_
  refine E_s (p' := 2) (st' := aI 0 :: _) rfl rfl ?_
  refine E_pI rfl rfl rfl (kR_15 hR) (Or.inl rfl) ?_
  refine E_s (p' := 6) (st' := aI 1 :: _) rfl rfl ?_
  refine E_s (p' := 7) (L' := [some (aA (a + 15)), some (aI ((g : Nat) : Int)), some (aI 1)]) rfl rfl ?_
  exact yl_fl hR hf hu fb hg q 602 1 0 (fun _ => 0) (fun _ => 0) (fun _ => 0) _ (by omega) (by omega) (by rw [lvS_0 f0]; rfl) (Nat.zero_le _) up2_eq (fun l hl => absurd hl (by omega)) (Fx.rf.up (by omega) (by omega)) (fun j hj => up2_sl hj)
end
section
variable {len : Nat} {m0 : Mm} {Q : Option AV → Sx → Prop} {a n : Nat} {u : Bool}
def wtv (u : Bool) : Nat := bif u then 1 else 10
theorem pw_le {n l : Nat} {u : Bool} (hn : n ≤ mxv u) (hl : l ≤ n) : 10 ^ l * wtv u ≤ 1000000 := by
  have h1 : 10 ^ l ≤ 10 ^ (mxv u) := Nat.pow_le_pow_right (by decide) (by omega)
  cases u
  · exact Nat.le_trans (Nat.mul_le_mul_right _ h1) (by decide)
  · exact Nat.le_trans (Nat.mul_le_mul_right _ h1) (by decide)
theorem yl_cl (hR : isR a) (hn : n ≤ mxv u) (hl : m0 (a + 15) 12 = (n : Int)) (hu : m0 (a + 15) 11 = bi u) (q : ∀ m1 : Mm, Fx (a + 18) (a + 18) m0 m1 → (∀ l, l < n → m1 (a + 18) l = ((10 ^ (n - 1 - l) * wtv u : Nat) : Int)) → Q none (m1, tl len)) : ∀ (d : Nat) (j w : Nat) (m : Mm), (j < d) → (j ≤ n) → (w = 10 ^ (n - j) * wtv u) → (Fx (a + 18) (a + 18) m0 m) → (∀ l, j ≤ l → l < n → m (a + 18) l = ((10 ^ (n - 1 - l) * wtv u : Nat) : Int)) → E 46 21 [some (aA (a + 15)), some (aI ((w : Nat) : Int)), some (aI ((j : Int) - 1))] [] (m, tl len) Q := by
  intro d
  induction d with
  | zero => intro j w m hd hj hw I1 I2; omega
  | succ d ih =>
    intro j w m hd hj hw I1 I2
    have hab := isR_b hR
    have hwb := pw_le hn (show n - j ≤ n by omega)
    rw [← hw] at hwb
    have hm6 : mxv u ≤ 6 := by cases u <;> decide
    refine E_s (p' := 22) (st' := aI ((j : Int) - 1) :: _) rfl rfl ?_
    refine E_if_lt (x := ((j : Int) - 1)) rfl (by decide) (fun h_1 => ?_) (fun h_1 => ?_)
    · refine E_go (p' := 43) (L' := [some (aA (a + 15)), some (aI ((w : Nat) : Int)), some (aI ((j : Int) - 1))]) (st' := []) rfl rfl rfl ?_
      refine E_ret rfl rfl ?_
      exact q m I1 (fun l hl9 => I2 l (by omega) hl9)
    · refine E_go (p' := 25) (L' := [some (aA (a + 15)), some (aI ((w : Nat) : Int)), some (aI ((j : Int) - 1))]) (st' := []) rfl rfl rfl ?_
      refine E_s (p' := 26) (st' := aA (a + 15) :: _) rfl rfl ?_
      refine E_gA (b := a + 18) rfl rfl rfl (kR_15 hR) (hR_15_2 hR) rfl ?_
      refine E_s (p' := 30) (st' := aI ((j : Int) - 1) :: _) rfl rfl ?_
      refine E_s (p' := 31) (st' := aI ((w : Nat) : Int) :: _) rfl rfl ?_
      refine E_ast (e := ((j : Int) - 1).toNat) (N := 6) rfl (kR_18 hR) (by omega) (by omega) ?_
      refine E_s (p' := 33) (st' := aI ((w : Nat) : Int) :: _) rfl rfl ?_
      refine E_s (p' := 35) (st' := aI 10 :: _) rfl rfl ?_
      refine E_mul (v := ((10 * w : Nat) : Int)) rfl (by omega) (by omega) ?_
      refine E_s (p' := 37) (L' := [some (aA (a + 15)), some (aI ((10 * w : Nat) : Int)), some (aI ((j : Int) - 1))]) rfl rfl ?_
      refine E_inc (x := ((j : Int) - 1)) (w := ((j : Int) - 2)) (L' := [some (aA (a + 15)), some (aI ((10 * w : Nat) : Int)), some (aI ((j : Int) - 2))]) rfl rfl rfl (by omega) (by omega) rfl ?_
      refine E_s (p' := 21) rfl rfl ?_
      have ej : ((j : Int) - 1).toNat = j - 1 := by omega
      rw [ej, show ((j : Int) - 2) = (((j - 1 : Nat) : Int) - 1) by omega]
      refine ih (j - 1) _ _ (by omega) (by omega) ?_ (I1.up (by omega) (by omega)) (fun l g1 g2 => ?_)
      · rw [hw, show n - (j - 1) = n - j + 1 by omega, Nat.pow_succ, Nat.mul_right_comm, Nat.mul_comm]
      · by_cases g : l = j - 1
        · rw [g]; exact up2_eq.trans (by rw [hw, show n - 1 - (j - 1) = n - j by omega])
        · exact (up2_sl g).trans (I2 l (by omega) g2)
theorem c_countLevels (hR : isR a) (hn : n ≤ mxv u) (hl : m0 (a + 15) 12 = (n : Int)) (hu : m0 (a + 15) 11 = bi u) (q : ∀ m1 : Mm, Fx (a + 18) (a + 18) m0 m1 → (∀ l, l < n → m1 (a + 18) l = ((10 ^ (n - 1 - l) * wtv u : Nat) : Int)) → Q none (m1, tl len)) : E 46 0 [some (aA (a + 15)), none, none] [] (m0, tl len) Q := by
  have hm6 : mxv u ≤ 6 := by cases u <;> decide
  refine E_s (p' := 1) (st' := aA (a + 15) :: _) rfl rfl ?_
  refine E_gI (v := (bi u)) rfl rfl rfl (kR_15 hR) hu ?_
  refine E_b_eq0 (b := u) rfl (by decide) (fun h_1 => ?_) (fun h_1 => ?_)
  · refine E_go (p' := 11) (L' := [some (aA (a + 15)), none, none]) (st' := []) rfl rfl rfl ?_
    refine E_s (p' := 13) (st' := aI 10 :: _) rfl rfl ?_
    refine E_s (p' := 14) (L' := [some (aA (a + 15)), some (aI 10), none]) rfl rfl ?_
    refine E_s (p' := 15) (st' := aA (a + 15) :: _) rfl rfl ?_
    refine E_gI (v := ((n : Nat) : Int)) rfl rfl rfl (kR_15 hR) hl ?_
    refine E_s (p' := 19) (st' := aI 1 :: _) rfl rfl ?_
    refine E_sub (v := ((n : Int) - 1)) rfl (by omega) (by omega) ?_
    refine E_s (p' := 21) (L' := [some (aA (a + 15)), some (aI 10), some (aI ((n : Int) - 1))]) rfl rfl ?_
    exact yl_cl hR hn hl hu q (n + 1) n 10 m0 (by omega) (by omega) (by rw [Nat.sub_self]; show _ = 1 * wtv u; rw [h_1]; rfl) Fx.rf (fun l g1 g2 => absurd g1 (by omega))
  · refine E_go (p' := 7) (L' := [some (aA (a + 15)), none, none]) (st' := []) rfl rfl rfl ?_
    refine E_s (p' := 8) (st' := aI 1 :: _) rfl rfl ?_
    refine E_s (p' := 13) rfl rfl ?_
    refine E_s (p' := 14) (L' := [some (aA (a + 15)), some (aI 1), none]) rfl rfl ?_
    refine E_s (p' := 15) (st' := aA (a + 15) :: _) rfl rfl ?_
    refine E_gI (v := ((n : Nat) : Int)) rfl rfl rfl (kR_15 hR) hl ?_
    refine E_s (p' := 19) (st' := aI 1 :: _) rfl rfl ?_
    refine E_sub (v := ((n : Int) - 1)) rfl (by omega) (by omega) ?_
    refine E_s (p' := 21) (L' := [some (aA (a + 15)), some (aI 1), some (aI ((n : Int) - 1))]) rfl rfl ?_
    exact yl_cl hR hn hl hu q (n + 1) n 1 m0 (by omega) (by omega) (by rw [Nat.sub_self]; show _ = 1 * wtv u; rw [h_1]; rfl) Fx.rf (fun l g1 g2 => absurd g1 (by omega))
end
section
variable {len : Nat} {m : Mm} {Q : Option AV → Sx → Prop} {a n : Nat} {u : Bool} {La Co9 : Nat → Nat}
theorem yl_lo (hR : isR a) (hn : n ≤ 6) (hl : m (a + 15) 12 = (n : Int)) (hla : ∀ l, l < n → m (a + 17) l = (La l : Int)) {p : Nat} (h1 : 1 ≤ n) (q : Q (some (aI (lvo La p (n - 1) 0 : Int))) (m, tl len)) : ∀ (d : Nat) (l : Nat), (n ≤ l + d) → (l < n) → (lvo La p (n - 1) 0 = lvo La p (n - 1 - l) l) → E 48 2 [some (aA (a + 15)), some (aI ((p : Nat) : Int)), some (aI ((l : Nat) : Int))] [] (m, tl len) Q := by
  intro d
  induction d with
  | zero => intro l hd hll hv; omega
  | succ d ih =>
    intro l hd hll hv
    refine E_s (p' := 3) (st' := aI ((l : Nat) : Int) :: _) rfl rfl ?_
    refine E_s (p' := 4) (st' := aA (a + 15) :: _) rfl rfl ?_
    refine E_gI (v := ((n : Nat) : Int)) rfl rfl rfl (kR_15 hR) hl ?_
    refine E_s (p' := 8) (st' := aI 1 :: _) rfl rfl ?_
    refine E_sub (v := ((n : Int) - 1)) rfl (by omega) (by omega) ?_
    refine E_icmp_ge (x := ((l : Nat) : Int)) (y := ((n : Int) - 1)) rfl (by decide) (fun h_1 => ?_) (fun h_1 => ?_)
    · refine E_go (p' := 28) (L' := [some (aA (a + 15)), some (aI ((p : Nat) : Int)), some (aI ((l : Nat) : Int))]) (st' := []) rfl rfl rfl ?_
      refine E_s (p' := 29) (st' := aI ((l : Nat) : Int) :: _) rfl rfl ?_
      refine E_ret rfl rfl ?_
      have e9 : lvo La p (n - 1 - l) l = l := by
        first
          | (rw [show n - 1 - l = 0 by omega]; rfl)
          | (obtain ⟨x, hx⟩ : ∃ x, n - 1 - l = x + 1 := ⟨n - 1 - l - 1, by omega⟩
             rw [hx]
             show (if La l < p then _ else _) = _
             rw [if_neg (by omega)])
      rw [hv, e9] at q
      exact q
    · refine E_go (p' := 12) (L' := [some (aA (a + 15)), some (aI ((p : Nat) : Int)), some (aI ((l : Nat) : Int))]) (st' := []) rfl rfl rfl ?_
      refine E_s (p' := 13) (st' := aI ((p : Nat) : Int) :: _) rfl rfl ?_
      refine E_s (p' := 14) (st' := aA (a + 15) :: _) rfl rfl ?_
      refine E_gA (b := a + 17) rfl rfl rfl (kR_15 hR) (hR_15_1 hR) rfl ?_
      refine E_s (p' := 18) (st' := aI ((l : Nat) : Int) :: _) rfl rfl ?_
      refine E_ald (e := l) (N := 6) (v := ((La l : Nat) : Int)) rfl (kR_17 hR) (rfl) (by omega) (hla _ (by omega)) ?_
      refine E_icmp_le (x := ((p : Nat) : Int)) (y := ((La l : Nat) : Int)) rfl (by decide) (fun h_2 => ?_) (fun h_2 => ?_)
      · refine E_go (p' := 28) (L' := [some (aA (a + 15)), some (aI ((p : Nat) : Int)), some (aI ((l : Nat) : Int))]) (st' := []) rfl rfl rfl ?_
        refine E_s (p' := 29) (st' := aI ((l : Nat) : Int) :: _) rfl rfl ?_
        refine E_ret rfl rfl ?_
        have e9 : lvo La p (n - 1 - l) l = l := by
          first
            | (rw [show n - 1 - l = 0 by omega]; rfl)
            | (obtain ⟨x, hx⟩ : ∃ x, n - 1 - l = x + 1 := ⟨n - 1 - l - 1, by omega⟩
               rw [hx]
               show (if La l < p then _ else _) = _
               rw [if_neg (by omega)])
        rw [hv, e9] at q
        exact q
      · refine E_go (p' := 22) (L' := [some (aA (a + 15)), some (aI ((p : Nat) : Int)), some (aI ((l : Nat) : Int))]) (st' := []) rfl rfl rfl ?_
        refine E_inc (x := ((l : Nat) : Int)) (w := ((l + 1 : Nat) : Int)) (L' := [some (aA (a + 15)), some (aI ((p : Nat) : Int)), some (aI ((l + 1 : Nat) : Int))]) rfl rfl rfl (by omega) (by omega) rfl ?_
        refine E_s (p' := 2) rfl rfl ?_
        refine ih (l + 1) (by omega) (by omega) ?_
        rw [hv, show n - 1 - l = (n - 1 - (l + 1)) + 1 by omega]
        show (if La l < p then _ else _) = _
        rw [if_pos (by omega)]
theorem c_levelOf (hR : isR a) (hn : n ≤ 6) (hl : m (a + 15) 12 = (n : Int)) (hla : ∀ l, l < n → m (a + 17) l = (La l : Int)) {p : Nat} (h1 : 1 ≤ n) (q : Q (some (aI (lvo La p (n - 1) 0 : Int))) (m, tl len)) : E 48 0 [some (aA (a + 15)), some (aI ((p : Nat) : Int)), none] [] (m, tl len) Q := by
  refine E_s (p' := 1) (st' := aI 0 :: _) rfl rfl ?_
  refine E_s (p' := 2) (L' := [some (aA (a + 15)), some (aI ((p : Nat) : Int)), some (aI 0)]) rfl rfl ?_
  exact yl_lo hR hn hl hla h1 q (n + 1) 0 (by omega) (by omega) (by rw [Nat.sub_zero])
def lstv (La : Nat → Nat) (t l : Nat) : Bool := decide (t ≠ 0) && decide (t ≤ La l)
theorem c_isLost (hR : isR a) (hn : n ≤ 6) (hl : m (a + 15) 12 = (n : Int)) (hla : ∀ l, l < n → m (a + 17) l = (La l : Int)) {t l : Nat} (h1 : l < n) (q : Q (some (aI (bi (lstv La t l)))) (m, tl len)) : E 49 0 [some (aA (a + 15)), some (aI ((l : Nat) : Int)), some (aI ((t : Nat) : Int))] [] (m, tl len) Q := by
  refine E_s (p' := 1) (st' := aI ((t : Nat) : Int) :: _) rfl rfl ?_
  refine E_if_eq (x := ((t : Nat) : Int)) rfl (by decide) (fun h_1 => ?_) (fun h_1 => ?_)
  · refine E_go (p' := 18) (L' := [some (aA (a + 15)), some (aI ((l : Nat) : Int)), some (aI ((t : Nat) : Int))]) (st' := []) rfl rfl rfl ?_
    refine E_s (p' := 19) (st' := aI 0 :: _) rfl rfl ?_
    refine E_ret rfl rfl ?_
    rw [show lstv La t l = false by unfold lstv; simp; omega] at q
    exact q
  · refine E_go (p' := 4) (L' := [some (aA (a + 15)), some (aI ((l : Nat) : Int)), some (aI ((t : Nat) : Int))]) (st' := []) rfl rfl rfl ?_
    refine E_s (p' := 5) (st' := aA (a + 15) :: _) rfl rfl ?_
    refine E_gA (b := a + 17) rfl rfl rfl (kR_15 hR) (hR_15_1 hR) rfl ?_
    refine E_s (p' := 9) (st' := aI ((l : Nat) : Int) :: _) rfl rfl ?_
    refine E_ald (e := l) (N := 6) (v := ((La l : Nat) : Int)) rfl (kR_17 hR) (rfl) (by omega) (hla _ (by omega)) ?_
    refine E_s (p' := 11) (st' := aI ((t : Nat) : Int) :: _) rfl rfl ?_
    refine E_icmp_lt (x := ((La l : Nat) : Int)) (y := ((t : Nat) : Int)) rfl (by decide) (fun h_2 => ?_) (fun h_2 => ?_)
    · refine E_go (p' := 18) (L' := [some (aA (a + 15)), some (aI ((l : Nat) : Int)), some (aI ((t : Nat) : Int))]) (st' := []) rfl rfl rfl ?_
      refine E_s (p' := 19) (st' := aI 0 :: _) rfl rfl ?_
      refine E_ret rfl rfl ?_
      rw [show lstv La t l = false by unfold lstv; simp; omega] at q
      exact q
    · refine E_go (p' := 14) (L' := [some (aA (a + 15)), some (aI ((l : Nat) : Int)), some (aI ((t : Nat) : Int))]) (st' := []) rfl rfl rfl ?_
      refine E_s (p' := 15) (st' := aI 1 :: _) rfl rfl ?_
      refine E_s (p' := 19) rfl rfl ?_
      refine E_ret rfl rfl ?_
      rw [show lstv La t l = true by unfold lstv; simp; omega] at q
      exact q
theorem yl_lost (hR : isR a) (hn : n ≤ 6) (hl : m (a + 15) 12 = (n : Int)) (hla : ∀ l, l < n → m (a + 17) l = (La l : Int)) (hu : m (a + 15) 11 = bi u) (hco : ∀ l, l < n → m (a + 18) l = (Co9 l : Int)) (hcb : ∀ l, l < n → Co9 l ≤ 1000000) (h1 : 1 ≤ n) {t : Nat} (q : Q (some (aI ((sumN (fun l => bif lstv La t l then 9 * Co9 l else 0) n + (bif !u && lstv La t (n - 1) then 9 else 0) : Nat) : Int))) (m, tl len)) : ∀ (d : Nat) (l w : Nat), (n < l + d) → (l ≤ n) → (w = sumN (fun l => bif lstv La t l then 9 * Co9 l else 0) l) → E 50 4 [some (aA (a + 15)), some (aI ((t : Nat) : Int)), some (aI ((w : Nat) : Int)), some (aI ((l : Nat) : Int))] [] (m, tl len) Q := by
  intro d
  induction d with
  | zero => intro l w hd hll hw; omega
  | succ d ih =>
    intro l w hd hll hw
    have hwb : w ≤ 9000000 * l := by
      rw [hw]
      have := sumN_le (f := fun l => bif lstv La t l then 9 * Co9 l else 0) (b := 9000000) l (fun i hi => by have := hcb i (by omega); show (bif lstv La t i then 9 * Co9 i else 0) ≤ _; cases lstv La t i <;> simp <;> omega)
      omega
    refine E_s (p' := 5) (st' := aI ((l : Nat) : Int) :: _) rfl rfl ?_
    refine E_s (p' := 6) (st' := aA (a + 15) :: _) rfl rfl ?_
    refine E_gI (v := ((n : Nat) : Int)) rfl rfl rfl (kR_15 hR) hl ?_
    refine E_icmp_ge (x := ((l : Nat) : Int)) (y := ((n : Nat) : Int)) rfl (by decide) (fun h_1 => ?_) (fun h_1 => ?_)
    · refine E_go (p' := 39) (L' := [some (aA (a + 15)), some (aI ((t : Nat) : Int)), some (aI ((w : Nat) : Int)), some (aI ((l : Nat) : Int))]) (st' := []) rfl rfl rfl ?_
      refine E_s (p' := 40) (st' := aA (a + 15) :: _) rfl rfl ?_
      refine E_gI (v := (bi u)) rfl rfl rfl (kR_15 hR) hu ?_
      refine E_b_ne0 (b := u) rfl (by decide) (fun h_2 => ?_) (fun h_2 => ?_)
      · refine E_go (p' := 67) (L' := [some (aA (a + 15)), some (aI ((t : Nat) : Int)), some (aI ((w : Nat) : Int)), some (aI ((l : Nat) : Int))]) (st' := []) rfl rfl rfl ?_
        refine E_s (p' := 68) (st' := aI ((w : Nat) : Int) :: _) rfl rfl ?_
        refine E_ret rfl rfl ?_
        have el : l = n := by omega
        rw [el] at hw
        rw [← hw, show (bif !u && lstv La t (n - 1) then 9 else 0) = 0 by simp [*]] at q
        exact q
      · refine E_go (p' := 46) (L' := [some (aA (a + 15)), some (aI ((t : Nat) : Int)), some (aI ((w : Nat) : Int)), some (aI ((l : Nat) : Int))]) (st' := []) rfl rfl rfl ?_
        refine E_s (p' := 47) (st' := aA (a + 15) :: _) rfl rfl ?_
        refine E_s (p' := 48) (st' := aA (a + 15) :: _) rfl rfl ?_
        refine E_gI (v := ((n : Nat) : Int)) rfl rfl rfl (kR_15 hR) hl ?_
        refine E_s (p' := 52) (st' := aI 1 :: _) rfl rfl ?_
        refine E_sub (v := ((n : Int) - 1)) rfl (by omega) (by omega) ?_
        refine E_valv (show ((n : Int) - 1) = (((n - 1) : Nat) : Int) by omega) ?_
        refine E_s (p' := 54) (st' := aI ((t : Nat) : Int) :: _) rfl rfl ?_
        refine E_callV (k' := 49) (a := a + 15) (r := []) (L0 := [some (aA (a + 15)), some (aI (((n - 1) : Nat) : Int)), some (aI ((t : Nat) : Int))]) rfl rfl rfl rfl rfl (kR_15 hR) rfl rfl rfl rfl ?_
        refine c_isLost hR hn hl hla (l := (n - 1)) (t := t) (by omega) ?_
        refine E_go (p' := 57) (L' := [some (aA (a + 15)), some (aI ((t : Nat) : Int)), some (aI ((w : Nat) : Int)), some (aI ((l : Nat) : Int))]) (st' := [aI (bi (lstv La t (n - 1)))]) rfl rfl rfl ?_
        refine E_b_eq0 (b := (lstv La t (n - 1))) rfl (by decide) (fun h_3 => ?_) (fun h_3 => ?_)
        · refine E_go (p' := 67) (L' := [some (aA (a + 15)), some (aI ((t : Nat) : Int)), some (aI ((w : Nat) : Int)), some (aI ((l : Nat) : Int))]) (st' := []) rfl rfl rfl ?_
          refine E_s (p' := 68) (st' := aI ((w : Nat) : Int) :: _) rfl rfl ?_
          refine E_ret rfl rfl ?_
          have el : l = n := by omega
          rw [el] at hw
          rw [← hw, show (bif !u && lstv La t (n - 1) then 9 else 0) = 0 by simp [*]] at q
          exact q
        · refine E_go (p' := 60) (L' := [some (aA (a + 15)), some (aI ((t : Nat) : Int)), some (aI ((w : Nat) : Int)), some (aI ((l : Nat) : Int))]) (st' := []) rfl rfl rfl ?_
          refine E_s (p' := 61) (st' := aI ((w : Nat) : Int) :: _) rfl rfl ?_
          refine E_s (p' := 63) (st' := aI 9 :: _) rfl rfl ?_
          refine E_add (v := ((w + 9 : Nat) : Int)) rfl (by omega) (by omega) ?_
          refine E_s (p' := 68) rfl rfl ?_
          refine E_ret rfl rfl ?_
          have el : l = n := by omega
          rw [el] at hw
          rw [← hw, show (bif !u && lstv La t (n - 1) then 9 else 0) = 9 by simp [*]] at q
          exact q
    · refine E_go (p' := 12) (L' := [some (aA (a + 15)), some (aI ((t : Nat) : Int)), some (aI ((w : Nat) : Int)), some (aI ((l : Nat) : Int))]) (st' := []) rfl rfl rfl ?_
      refine E_s (p' := 13) (st' := aA (a + 15) :: _) rfl rfl ?_
      refine E_s (p' := 14) (st' := aI ((l : Nat) : Int) :: _) rfl rfl ?_
      refine E_s (p' := 15) (st' := aI ((t : Nat) : Int) :: _) rfl rfl ?_
      refine E_callV (k' := 49) (a := a + 15) (r := []) (L0 := [some (aA (a + 15)), some (aI ((l : Nat) : Int)), some (aI ((t : Nat) : Int))]) rfl rfl rfl rfl rfl (kR_15 hR) rfl rfl rfl rfl ?_
      refine c_isLost hR hn hl hla (l := l) (t := t) (by omega) ?_
      refine E_go (p' := 18) (L' := [some (aA (a + 15)), some (aI ((t : Nat) : Int)), some (aI ((w : Nat) : Int)), some (aI ((l : Nat) : Int))]) (st' := [aI (bi (lstv La t l))]) rfl rfl rfl ?_
      refine E_b_eq0 (b := (lstv La t l)) rfl (by decide) (fun h_4 => ?_) (fun h_4 => ?_)
      · refine E_go (p' := 33) (L' := [some (aA (a + 15)), some (aI ((t : Nat) : Int)), some (aI ((w : Nat) : Int)), some (aI ((l : Nat) : Int))]) (st' := []) rfl rfl rfl ?_
        refine E_inc (x := ((l : Nat) : Int)) (w := ((l + 1 : Nat) : Int)) (L' := [some (aA (a + 15)), some (aI ((t : Nat) : Int)), some (aI ((w : Nat) : Int)), some (aI ((l + 1 : Nat) : Int))]) rfl rfl rfl (by omega) (by omega) rfl ?_
        refine E_s (p' := 4) rfl rfl ?_
        exact ih (l + 1) _ (by omega) (by omega) (by rw [hw]; show _ = sumN _ l + (bif lstv La t l then 9 * Co9 l else 0); rw [h_4]; rfl)
      · refine E_go (p' := 21) (L' := [some (aA (a + 15)), some (aI ((t : Nat) : Int)), some (aI ((w : Nat) : Int)), some (aI ((l : Nat) : Int))]) (st' := []) rfl rfl rfl ?_
        have hcl := hcb l (by omega)
        refine E_s (p' := 22) (st' := aI ((w : Nat) : Int) :: _) rfl rfl ?_
        refine E_s (p' := 24) (st' := aI 9 :: _) rfl rfl ?_
        refine E_s (p' := 25) (st' := aA (a + 15) :: _) rfl rfl ?_
        refine E_gA (b := a + 18) rfl rfl rfl (kR_15 hR) (hR_15_2 hR) rfl ?_
        refine E_s (p' := 29) (st' := aI ((l : Nat) : Int) :: _) rfl rfl ?_
        refine E_ald (e := l) (N := 6) (v := ((Co9 l : Nat) : Int)) rfl (kR_18 hR) (rfl) (by omega) (hco _ (by omega)) ?_
        refine E_mul (v := ((9 * (Co9 l) : Nat) : Int)) rfl (by omega) (by omega) ?_
        refine E_add (v := ((w + 9 * (Co9 l) : Nat) : Int)) rfl (by omega) (by omega) ?_
        refine E_s (p' := 33) (L' := [some (aA (a + 15)), some (aI ((t : Nat) : Int)), some (aI ((w + 9 * (Co9 l) : Nat) : Int)), some (aI ((l : Nat) : Int))]) rfl rfl ?_
        refine E_inc (x := ((l : Nat) : Int)) (w := ((l + 1 : Nat) : Int)) (L' := [some (aA (a + 15)), some (aI ((t : Nat) : Int)), some (aI ((w + 9 * (Co9 l) : Nat) : Int)), some (aI ((l + 1 : Nat) : Int))]) rfl rfl rfl (by omega) (by omega) rfl ?_
        refine E_s (p' := 4) rfl rfl ?_
        exact ih (l + 1) _ (by omega) (by omega) (by rw [hw]; show _ = sumN _ l + (bif lstv La t l then 9 * Co9 l else 0); rw [h_4]; rfl)
theorem c_lostOf (hR : isR a) (hn : n ≤ 6) (hl : m (a + 15) 12 = (n : Int)) (hla : ∀ l, l < n → m (a + 17) l = (La l : Int)) (hu : m (a + 15) 11 = bi u) (hco : ∀ l, l < n → m (a + 18) l = (Co9 l : Int)) (hcb : ∀ l, l < n → Co9 l ≤ 1000000) (h1 : 1 ≤ n) {t : Nat} (q : Q (some (aI ((sumN (fun l => bif lstv La t l then 9 * Co9 l else 0) n + (bif !u && lstv La t (n - 1) then 9 else 0) : Nat) : Int))) (m, tl len)) : E 50 0 [some (aA (a + 15)), some (aI ((t : Nat) : Int)), none, none] [] (m, tl len) Q := by
  refine E_s (p' := 1) (st' := aI 0 :: _) rfl rfl ?_
  refine E_s (p' := 2) (L' := [some (aA (a + 15)), some (aI ((t : Nat) : Int)), some (aI 0), none]) rfl rfl ?_
  refine E_s (p' := 3) (st' := aI 0 :: _) rfl rfl ?_
  refine E_s (p' := 4) (L' := [some (aA (a + 15)), some (aI ((t : Nat) : Int)), some (aI 0), some (aI 0)]) rfl rfl ?_
  exact yl_lost hR hn hl hla hu hco hcb h1 q (n + 1) 0 0 (by omega) (by omega) rfl
end
