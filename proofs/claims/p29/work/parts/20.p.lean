section
variable {len : Nat} {m : Mm} {Q : Option AV → Sx → Prop} {S : Nat → RD} {r c l g o h s t : Int}
theorem C_part (hS : CS S m) (q : ∀ m1, CS (on1 S r (-2) (oPart c)).2 m1 → Mo m m1 → Q (some (aI (on1 S r (-2) (oPart c)).1)) (m1, tl len)) : E 77 0 [some (aA 1), some (aI (r)), some (aI (c)), none, none] [] (m, tl len) Q := by
  refine E_s (p' := 1) (st' := aA 1 :: _) rfl rfl ?_
  refine E_s (p' := 2) (st' := aI (r) :: _) rfl rfl ?_
  refine E_callV (k' := 12) (a := 1) (r := []) (L0 := [some (aA 1), some (aI (r))]) rfl rfl rfl rfl rfl rfl rfl rfl rfl rfl ?_
  refine c_recordOf' (fun i a hi hr ha hR => ?_) (fun hr => ?_)
  · refine E_go (p' := 5) (L' := [some (aA 1), some (aI (r)), some (aI (c)), none, none]) (st' := [aA a]) rfl rfl rfl ?_
    obtain ⟨hV, hC, hrd⟩ := hS i hi
    rw [← ha] at hC hrd
    have hn60 := hV.1
    have hab := isR_b hR
    have hs40 := hV.2.2.2.2.1
    refine E_s (p' := 6) (L' := [some (aA 1), some (aI (r)), some (aI (c)), some (aA a), none]) rfl rfl ?_
    refine E_s (p' := 7) (st' := aA a :: _) rfl rfl ?_
    refine E_s (p' := 10) rfl rfl ?_
    refine E_s (p' := 11) (st' := aA a :: _) rfl rfl ?_
    refine E_gA (b := a + 1) rfl rfl rfl (kR_0 hR) (hR_0_0 hR) rfl ?_
    refine E_s (p' := 15) (st' := aI (c) :: _) rfl rfl ?_
    refine E_callV (k' := 17) (a := a + 1) (r := []) (L0 := [some (aA (a + 1)), some (aI (c))]) rfl rfl rfl rfl rfl (kR_1 hR) rfl rfl rfl rfl ?_
    refine c_has hR hC (fun ci he_ci hc_ci => ?_) (fun hno => ?_)
    · refine E_go (p' := 18) (L' := [some (aA 1), some (aI (r)), some (aI (c)), some (aA a), none]) (st' := [aI 1]) rfl rfl rfl ?_
      subst he_ci
      refine E_s (p' := 21) rfl rfl ?_
      refine E_s (p' := 22) (st' := aA a :: _) rfl rfl ?_
      refine E_gA (b := a + 9) rfl rfl rfl (kR_0 hR) (hR_0_1 hR) rfl ?_
      refine E_gI (v := ((Sn (S i) : Nat) : Int)) rfl rfl rfl (kR_9 hR) (CRS hC) ?_
      refine E_if_ne (x := ((Sn (S i) : Nat) : Int)) rfl (by decide) (fun h_1 => ?_) (fun h_1 => ?_)
      · refine E_go (p' := 34) (L' := [some (aA 1), some (aI (r)), some (aI ((ci : Nat) : Int)), some (aA a), none]) (st' := []) rfl rfl rfl ?_
        refine E_s (p' := 35) (st' := aA a :: _) rfl rfl ?_
        refine E_gA (b := a + 9) rfl rfl rfl (kR_0 hR) (hR_0_1 hR) rfl ?_
        refine E_gI (v := ((Sn (S i) : Nat) : Int)) rfl rfl rfl (kR_9 hR) (CRS hC) ?_
        refine E_s (p' := 42) (st' := aI 1 :: _) rfl rfl ?_
        refine E_sub (v := ((Sn (S i) : Int) - 1)) rfl (by omega) (by omega) ?_
        refine E_s (p' := 45) (L' := [some (aA 1), some (aI (r)), some (aI ((ci : Nat) : Int)), some (aA a), some (aI ((Sn (S i) : Int) - 1))]) rfl rfl ?_
        obtain ⟨sn, es⟩ : ∃ x, Sn (S i) = x + 1 := ⟨Sn (S i) - 1, by omega⟩
        have hp12 := (hV.2.2.2.2.2.1 sn (by omega)).2
        rw [show ((Sn (S i) : Int) - 1) = ((sn : Nat) : Int) by omega]
        refine E_s (p' := 46) (st' := aA a :: _) rfl rfl ?_
        refine E_gA (b := a + 9) rfl rfl rfl (kR_0 hR) (hR_0_1 hR) rfl ?_
        refine E_s (p' := 51) (st' := aI ((sn : Nat) : Int) :: _) rfl rfl ?_
        refine E_s (p' := 52) (st' := aI ((ci : Nat) : Int) :: _) rfl rfl ?_
        refine E_callV (k' := 78) (a := a + 9) (r := []) (L0 := [some (aA (a + 9)), some (aI ((sn : Nat) : Int)), some (aI ((ci : Nat) : Int)), none, none]) rfl rfl rfl rfl rfl (kR_9 hR) rfl rfl rfl rfl ?_
        refine c_holds hR hC hV (s := sn) (by omega) ?_
        refine E_go (p' := 55) (L' := [some (aA 1), some (aI (r)), some (aI ((ci : Nat) : Int)), some (aA a), some (aI ((sn : Nat) : Int))]) (st' := [aI (bi (hld (S i) sn ((ci : Nat) : Int) (Sp (S i) sn)))]) rfl rfl rfl ?_
        refine E_b_eq0 (b := (hld (S i) sn ((ci : Nat) : Int) (Sp (S i) sn))) rfl (by decide) (fun h_2 => ?_) (fun h_2 => ?_)
        · refine E_go (p' := 61) (L' := [some (aA 1), some (aI (r)), some (aI ((ci : Nat) : Int)), some (aA a), some (aI ((sn : Nat) : Int))]) (st' := []) rfl rfl rfl ?_
          refine E_s (p' := 62) (st' := aA a :: _) rfl rfl ?_
          refine E_gA (b := a + 9) rfl rfl rfl (kR_0 hR) (hR_0_1 hR) rfl ?_
          refine E_gA (b := a + 11) rfl rfl rfl (kR_9 hR) (hR_9_1 hR) rfl ?_
          refine E_s (p' := 70) (st' := aI ((sn : Nat) : Int) :: _) rfl rfl ?_
          refine E_ald (e := sn) (N := 40) (v := ((Sp (S i) sn : Nat) : Int)) rfl (kR_11 hR) (rfl) (by omega) (CR_11 hC (by omega)) ?_
          refine E_s (p' := 73) (st' := aI 12 :: _) rfl rfl ?_
          refine E_icmp_lt (x := ((Sp (S i) sn : Nat) : Int)) (y := 12) rfl (by decide) (fun h_3 => ?_) (fun h_3 => ?_)
          · refine E_go (p' := 79) (L' := [some (aA 1), some (aI (r)), some (aI ((ci : Nat) : Int)), some (aA a), some (aI ((sn : Nat) : Int))]) (st' := []) rfl rfl rfl ?_
            refine E_s (p' := 80) (st' := aA a :: _) rfl rfl ?_
            refine E_gA (b := a + 9) rfl rfl rfl (kR_0 hR) (hR_0_1 hR) rfl ?_
            refine E_s (p' := 85) (st' := aI ((sn : Nat) : Int) :: _) rfl rfl ?_
            refine E_s (p' := 86) (st' := aI ((ci : Nat) : Int) :: _) rfl rfl ?_
            refine E_callV (k' := 80) (a := a + 9) (r := []) (L0 := [some (aA (a + 9)), some (aI ((sn : Nat) : Int)), some (aI ((ci : Nat) : Int))]) rfl rfl rfl rfl rfl (kR_9 hR) rfl rfl rfl rfl ?_
            refine c_addPart hR hC hV (s := sn) (by omega) (by omega) (fun m1 hC1 hF1 => ?_)
            refine E_go (p' := 89) (L' := [some (aA 1), some (aI (r)), some (aI ((ci : Nat) : Int)), some (aA a), some (aI ((sn : Nat) : Int))]) (st' := []) rfl rfl rfl ?_
            refine E_s (p' := 90) (st' := aA a :: _) rfl rfl ?_
            refine E_callV (k' := 15) (a := a) (r := []) (L0 := [some (aA a)]) rfl rfl rfl rfl rfl (kR_0 hR) rfl rfl rfl rfl ?_
            refine c_changed hR ?_
            refine E_go (p' := 93) (L' := [some (aA 1), some (aI (r)), some (aI ((ci : Nat) : Int)), some (aA a), some (aI ((sn : Nat) : Int))]) (st' := []) rfl rfl rfl ?_
            refine E_s (p' := 94) (st' := aA a :: _) rfl rfl ?_
            refine E_gA (b := a + 9) rfl rfl rfl (kR_0 hR) (hR_0_1 hR) rfl ?_
            refine E_gA (b := a + 11) rfl rfl rfl (kR_9 hR) (hR_9_1 hR) rfl ?_
            refine E_s (p' := 102) (st' := aI ((sn : Nat) : Int) :: _) rfl rfl ?_
            refine E_ald (e := sn) (N := 40) (v := ((Sp (S i) sn + 1 : Nat) : Int)) rfl (kR_11 hR) (rfl) (by omega) ((up2_ne (by omega)).trans ((up2_ne (by omega)).trans (((CR_11 hC1 (show sn < Sn (S i) by omega)).trans (by show ((upf (Sp (S i)) sn (Sp (S i) sn + 1) sn : Nat) : Int) = _; rw [upf_eq]))))) ?_
            refine E_ret rfl rfl ?_
            refine fin_in hS hi hr ha q (by unfold oPart; simp only [Int.toNat_natCast]; rw [show Sn (S i) - 1 = sn by omega, cif_pos ⟨by unfold inC; omega, by omega, by assumption⟩, cif_neg (by omega)]) ⟨V_sm hV (by omega) (fun t ht => ?_) (fun t k ht hk => ?_), hC1.of (fun b j g1 g2 g3 => (up2_o (by omega)).trans (up2_o (by omega))), Or.inl ((up2_sl (by decide)).trans up2_eq)⟩ (fun b j hb => (up2_ne (by omega)).trans ((up2_ne (by omega)).trans (hF1 _ _ (by omega))))
            · refine ⟨(hV.2.2.2.2.2.1 t ht).1, ?_⟩
              by_cases g : t = sn
              · subst g; rw [upf_eq]; omega
              · rw [upf_ne g]; exact (hV.2.2.2.2.2.1 t ht).2
            · by_cases g : t = sn
              · subst g
                rw [upf_eq] at hk
                rw [upf_eq]
                by_cases g2 : k = Sp (S i) t
                · subst g2; rw [upf_eq]; exact hc_ci
                · rw [upf_ne g2]; exact hV.2.2.2.2.2.2 t k ht (by omega)
              · rw [upf_ne g] at hk
                rw [upf_ne g]; exact hV.2.2.2.2.2.2 t k ht hk
          · refine E_go (p' := 76) (L' := [some (aA 1), some (aI (r)), some (aI ((ci : Nat) : Int)), some (aA a), some (aI ((sn : Nat) : Int))]) (st' := []) rfl rfl rfl ?_
            refine E_s (p' := 78) (st' := aI (-3) :: _) rfl rfl ?_
            refine E_ret rfl rfl ?_
            exact fin_same hS hi hr q (by unfold oPart; simp only [Int.toNat_natCast]; rw [show Sn (S i) - 1 = sn by omega, cif_pos ⟨by unfold inC; omega, by omega, by assumption⟩, cif_pos (by omega)])
        · refine E_go (p' := 58) (L' := [some (aA 1), some (aI (r)), some (aI ((ci : Nat) : Int)), some (aA a), some (aI ((sn : Nat) : Int))]) (st' := []) rfl rfl rfl ?_
          refine E_s (p' := 60) (st' := aI (-2) :: _) rfl rfl ?_
          refine E_ret rfl rfl ?_
          exact fin_same hS hi hr q (by unfold oPart; rw [show Sn (S i) - 1 = sn by omega, cif_neg (fun g9 => absurd g9.2.2 (by rw [show hld (S i) sn ((ci : Nat) : Int) (Sp (S i) sn) = true by assumption]; decide))])
      · refine E_go (p' := 31) (L' := [some (aA 1), some (aI (r)), some (aI ((ci : Nat) : Int)), some (aA a), none]) (st' := []) rfl rfl rfl ?_
        refine E_s (p' := 33) (st' := aI (-2) :: _) rfl rfl ?_
        refine E_ret rfl rfl ?_
        exact fin_same hS hi hr q (by unfold oPart; rw [cif_neg (by unfold inC; omega)])
    · refine E_go (p' := 18) (L' := [some (aA 1), some (aI (r)), some (aI (c)), some (aA a), none]) (st' := [aI 0]) rfl rfl rfl ?_
      refine E_s (p' := 31) rfl rfl ?_
      refine E_s (p' := 33) (st' := aI (-2) :: _) rfl rfl ?_
      refine E_ret rfl rfl ?_
      exact fin_same hS hi hr q (by unfold oPart; rw [cif_neg (by unfold inC; omega)])
  · refine E_go (p' := 5) (L' := [some (aA 1), some (aI (r)), some (aI (c)), none, none]) (st' := [aN]) rfl rfl rfl ?_
    refine E_s (p' := 6) (L' := [some (aA 1), some (aI (r)), some (aI (c)), some (aN), none]) rfl rfl ?_
    refine E_s (p' := 7) (st' := aN :: _) rfl rfl ?_
    refine E_s (p' := 31) rfl rfl ?_
    refine E_s (p' := 33) (st' := aI (-2) :: _) rfl rfl ?_
    refine E_ret rfl rfl ?_
    exact fin_out hS q hr
/-- what copy answers, and the RECORDS behind it; where nothing was unlike they may stand as they were -/
def spCopy (S : Nat → RD) (r t v : Int) (S' : Nat → RD) : Prop := (∃ i k : Nat, i < 4 ∧ k < 4 ∧ r = i ∧ t = k ∧ v = (Cn (S i) : Int) ∧ (S' = upf S k (S i) ∨ (S' = S ∧ agr (S i) (S k)))) ∨ (((r < 0 ∨ 3 < r) ∨ (t < 0 ∨ 3 < t)) ∧ v = -2 ∧ S' = S)
theorem C_copy (hS : CS S m) (q : ∀ (v : Int) (S9 : Nat → RD) (m1 : Mm), spCopy S r t v S9 → CS S9 m1 → Mo m m1 → Q (some (aI v)) (m1, tl len)) : E 62 0 [some (aA 1), some (aI (r)), some (aI (t)), none, none] [] (m, tl len) Q := by
  refine E_s (p' := 1) (st' := aA 1 :: _) rfl rfl ?_
  refine E_s (p' := 2) (st' := aI (r) :: _) rfl rfl ?_
  refine E_callV (k' := 12) (a := 1) (r := []) (L0 := [some (aA 1), some (aI (r))]) rfl rfl rfl rfl rfl rfl rfl rfl rfl rfl ?_
  refine c_recordOf' (fun i l9 hi hr hal hL => ?_) (fun hr => ?_)
  · refine E_go (p' := 5) (L' := [some (aA 1), some (aI (r)), some (aI (t)), none, none]) (st' := [aA l9]) rfl rfl rfl ?_
    obtain ⟨hV, hC, -⟩ := hS i hi
    rw [← hal] at hC
    have hn60 := hV.1
    refine E_s (p' := 6) (L' := [some (aA 1), some (aI (r)), some (aI (t)), some (aA l9), none]) rfl rfl ?_
    refine E_s (p' := 7) (st' := aA 1 :: _) rfl rfl ?_
    refine E_s (p' := 8) (st' := aI (t) :: _) rfl rfl ?_
    refine E_callV (k' := 12) (a := 1) (r := []) (L0 := [some (aA 1), some (aI (t))]) rfl rfl rfl rfl rfl rfl rfl rfl rfl rfl ?_
    refine c_recordOf' (fun k a hk ht ha hR => ?_) (fun ht => ?_)
    · refine E_go (p' := 11) (L' := [some (aA 1), some (aI (r)), some (aI (t)), some (aA l9), none]) (st' := [aA a]) rfl rfl rfl ?_
      obtain ⟨hV2, hC2, hrd2⟩ := hS k hk
      rw [← ha] at hC2 hrd2
      have hab := isR_b hR
      refine E_s (p' := 13) (L' := [some (aA 1), some (aI (r)), some (aI (t)), some (aA l9), some (aA a)]) rfl rfl ?_
      refine E_s (p' := 14) (st' := aA l9 :: _) rfl rfl ?_
      refine E_s (p' := 17) rfl rfl ?_
      refine E_s (p' := 19) (st' := aA a :: _) rfl rfl ?_
      refine E_s (p' := 25) rfl rfl ?_
      refine E_s (p' := 27) (st' := aA a :: _) rfl rfl ?_
      refine E_s (p' := 28) (st' := aA l9 :: _) rfl rfl ?_
      refine E_callV (k' := 63) (a := a) (r := []) (L0 := [some (aA a), some (aA l9), none]) rfl rfl rfl rfl rfl (kR_0 hR) rfl rfl rfl rfl ?_
      refine c_becomeLike hR hL hC hV (fun hCa => ?_) (fun m1 hCa h71 hF1 => ?_)
      · refine E_go (p' := 31) (L' := [some (aA 1), some (aI (r)), some (aI (t)), some (aA l9), some (aA a)]) (st' := []) rfl rfl rfl ?_
        refine E_s (p' := 33) (st' := aA a :: _) rfl rfl ?_
        refine E_gA (b := a + 1) rfl rfl rfl (kR_0 hR) (hR_0_0 hR) rfl ?_
        refine E_gI (v := ((Cn (S i) : Nat) : Int)) rfl rfl rfl (kR_1 hR) hCa.1 ?_
        refine E_ret rfl rfl ?_
        exact q _ S m (Or.inl ⟨i, k, hi, hk, hr, ht, rfl, Or.inr ⟨rfl, hCa.agr hC2⟩⟩) hS (fun _ _ _ => rfl)
      · refine E_go (p' := 31) (L' := [some (aA 1), some (aI (r)), some (aI (t)), some (aA l9), some (aA a)]) (st' := []) rfl rfl rfl ?_
        refine E_s (p' := 33) (st' := aA a :: _) rfl rfl ?_
        refine E_gA (b := a + 1) rfl rfl rfl (kR_0 hR) (hR_0_0 hR) rfl ?_
        refine E_gI (v := ((Cn (S i) : Nat) : Int)) rfl rfl rfl (kR_1 hR) hCa.1 ?_
        refine E_ret rfl rfl ?_
        exact q _ _ m1 (Or.inl ⟨i, k, hi, hk, hr, ht, rfl, Or.inl rfl⟩) (hS.set hk ha ⟨hV, hCa, Or.inl h71⟩ (fun b j hb => hF1 b j (by omega))) (fun b j hb => hF1 b j (by omega))
    · refine E_go (p' := 11) (L' := [some (aA 1), some (aI (r)), some (aI (t)), some (aA l9), none]) (st' := [aN]) rfl rfl rfl ?_
      refine E_s (p' := 13) (L' := [some (aA 1), some (aI (r)), some (aI (t)), some (aA l9), some (aN)]) rfl rfl ?_
      refine E_s (p' := 14) (st' := aA l9 :: _) rfl rfl ?_
      refine E_s (p' := 17) rfl rfl ?_
      refine E_s (p' := 19) (st' := aN :: _) rfl rfl ?_
      refine E_s (p' := 22) rfl rfl ?_
      refine E_s (p' := 24) (st' := aI (-2) :: _) rfl rfl ?_
      refine E_ret rfl rfl ?_
      exact q _ S m (Or.inr ⟨(by omega), rfl, rfl⟩) hS (fun _ _ _ => rfl)
  · refine E_go (p' := 5) (L' := [some (aA 1), some (aI (r)), some (aI (t)), none, none]) (st' := [aN]) rfl rfl rfl ?_
    refine E_s (p' := 6) (L' := [some (aA 1), some (aI (r)), some (aI (t)), some (aN), none]) rfl rfl ?_
    refine E_s (p' := 7) (st' := aA 1 :: _) rfl rfl ?_
    refine E_s (p' := 8) (st' := aI (t) :: _) rfl rfl ?_
    refine E_callV (k' := 12) (a := 1) (r := []) (L0 := [some (aA 1), some (aI (t))]) rfl rfl rfl rfl rfl rfl rfl rfl rfl rfl ?_
    refine c_recordOf' (fun k a hk ht ha hR => ?_) (fun ht => ?_)
    · refine E_go (p' := 11) (L' := [some (aA 1), some (aI (r)), some (aI (t)), some (aN), none]) (st' := [aA a]) rfl rfl rfl ?_
      obtain ⟨hV2, hC2, hrd2⟩ := hS k hk
      rw [← ha] at hC2 hrd2
      have hab := isR_b hR
      refine E_s (p' := 13) (L' := [some (aA 1), some (aI (r)), some (aI (t)), some (aN), some (aA a)]) rfl rfl ?_
      refine E_s (p' := 14) (st' := aN :: _) rfl rfl ?_
      refine E_s (p' := 22) rfl rfl ?_
      refine E_s (p' := 24) (st' := aI (-2) :: _) rfl rfl ?_
      refine E_ret rfl rfl ?_
      exact q _ S m (Or.inr ⟨(by omega), rfl, rfl⟩) hS (fun _ _ _ => rfl)
    · refine E_go (p' := 11) (L' := [some (aA 1), some (aI (r)), some (aI (t)), some (aN), none]) (st' := [aN]) rfl rfl rfl ?_
      refine E_s (p' := 13) (L' := [some (aA 1), some (aI (r)), some (aI (t)), some (aN), some (aN)]) rfl rfl ?_
      refine E_s (p' := 14) (st' := aN :: _) rfl rfl ?_
      refine E_s (p' := 22) rfl rfl ?_
      refine E_s (p' := 24) (st' := aI (-2) :: _) rfl rfl ?_
      refine E_ret rfl rfl ?_
      exact q _ S m (Or.inr ⟨(by omega), rfl, rfl⟩) hS (fun _ _ _ => rfl)
end
section
variable {len : Nat} {m0 : Mm} {Q : Option AV → Sx → Prop} {R : RD} {i t c : Nat}
theorem yl_ck (hi : i < 4) (htt : t < 4) (hit : i ≠ t) (hM : MR R i m0) (hV : VR R) (hcc : c < Cn R) (q : ∀ m1 : Mm, m1 132 (60 * t + c) = (Ck R c : Int) → (∀ k, k < Ck R c → MK R t m1 c k) → (∀ b z, ¬ (b = 132 ∧ z = 60 * t + c) → ¬ (133 ≤ b ∧ b ≤ 135 ∧ 1800 * t + 30 * c ≤ z ∧ z < 1800 * t + 30 * c + 30) → m1 b z = m0 b z) → Q none (m1, tl len)) : ∀ (d : Nat) (k : Nat) (m : Mm), (Ck R c < k + d) → (k ≤ Ck R c) → (m 132 (60 * t + c) = (Ck R c : Int)) → (∀ j, j < k → MK R t m c j) → (∀ b z, ¬ (b = 132 ∧ z = 60 * t + c) → ¬ (133 ≤ b ∧ b ≤ 135 ∧ 1800 * t + 30 * c ≤ z ∧ z < 1800 * t + 30 * c + 30) → m b z = m0 b z) → E 144 14 [some (aA 124), some (aI ((60 * i + c : Nat) : Int)), some (aI ((60 * t + c : Nat) : Int)), some (aI ((k : Nat) : Int))] [] (m, tl len) Q := by
  intro d
  induction d with
  | zero => intro k m hd hk I0 I1 I2; omega
  | succ d ih =>
    intro k m hd hk I0 I1 I2
    have hn60 := hV.1
    have hk30 := (hV.2.2.1 c hcc).2.2.2.2.2
    refine E_s (p' := 15) (st' := aI ((k : Nat) : Int) :: _) rfl rfl ?_
    refine E_s (p' := 16) (st' := aA 124 :: _) rfl rfl ?_
    refine E_gA (b := 132) rfl rfl rfl rfl rfl rfl ?_
    refine E_s (p' := 20) (st' := aI ((60 * i + c : Nat) : Int) :: _) rfl rfl ?_
    refine E_ald (e := 60 * i + c) (N := 240) (v := ((Ck R c : Nat) : Int)) rfl rfl (rfl) (by omega) ((I2 _ _ (by omega) (by omega)).trans (MR_132 hM hcc rfl)) ?_
    refine E_icmp_ge (x := ((k : Nat) : Int)) (y := ((Ck R c : Nat) : Int)) rfl (by decide) (fun h_1 => ?_) (fun h_1 => ?_)
    · refine E_go (p' := 96) (L' := [some (aA 124), some (aI ((60 * i + c : Nat) : Int)), some (aI ((60 * t + c : Nat) : Int)), some (aI ((k : Nat) : Int))]) (st' := []) rfl rfl rfl ?_
      refine E_ret rfl rfl ?_
      have ek : k = Ck R c := by omega
      subst ek
      exact q m I0 I1 I2
    · refine E_go (p' := 24) (L' := [some (aA 124), some (aI ((60 * i + c : Nat) : Int)), some (aI ((60 * t + c : Nat) : Int)), some (aI ((k : Nat) : Int))]) (st' := []) rfl rfl rfl ?_
      refine E_s (p' := 25) (st' := aA 124 :: _) rfl rfl ?_
      refine E_gA (b := 133) rfl rfl rfl rfl rfl rfl ?_
      refine E_s (p' := 30) (st' := aI 30 :: _) rfl rfl ?_
      refine E_s (p' := 31) (st' := aI ((60 * t + c : Nat) : Int) :: _) rfl rfl ?_
      refine E_mul (v := ((1800 * t + 30 * c : Nat) : Int)) rfl (by omega) (by omega) ?_
      refine E_s (p' := 33) (st' := aI ((k : Nat) : Int) :: _) rfl rfl ?_
      refine E_add (v := ((1800 * t + 30 * c + k : Nat) : Int)) rfl (by omega) (by omega) ?_
      refine E_s (p' := 35) (st' := aA 124 :: _) rfl rfl ?_
      refine E_gA (b := 133) rfl rfl rfl rfl rfl rfl ?_
      refine E_s (p' := 40) (st' := aI 30 :: _) rfl rfl ?_
      refine E_s (p' := 41) (st' := aI ((60 * i + c : Nat) : Int) :: _) rfl rfl ?_
      refine E_mul (v := ((1800 * i + 30 * c : Nat) : Int)) rfl (by omega) (by omega) ?_
      refine E_s (p' := 43) (st' := aI ((k : Nat) : Int) :: _) rfl rfl ?_
      refine E_add (v := ((1800 * i + 30 * c + k : Nat) : Int)) rfl (by omega) (by omega) ?_
      refine E_ald (e := 1800 * i + 30 * c + k) (N := 7200) (v := ((ht (Cp R c k) : Nat) : Int)) rfl rfl (rfl) (by omega) ((I2 _ _ (by omega) (by omega)).trans (MR_133 hM hcc (by omega) rfl)) ?_
      refine E_ast (e := 1800 * t + 30 * c + k) (N := 7200) rfl rfl (rfl) (by omega) ?_
      refine E_s (p' := 47) (st' := aA 124 :: _) rfl rfl ?_
      refine E_gA (b := 134) rfl rfl rfl rfl rfl rfl ?_
      refine E_s (p' := 52) (st' := aI 30 :: _) rfl rfl ?_
      refine E_s (p' := 53) (st' := aI ((60 * t + c : Nat) : Int) :: _) rfl rfl ?_
      refine E_mul (v := ((1800 * t + 30 * c : Nat) : Int)) rfl (by omega) (by omega) ?_
      refine E_s (p' := 55) (st' := aI ((k : Nat) : Int) :: _) rfl rfl ?_
      refine E_add (v := ((1800 * t + 30 * c + k : Nat) : Int)) rfl (by omega) (by omega) ?_
      refine E_s (p' := 57) (st' := aA 124 :: _) rfl rfl ?_
      refine E_gA (b := 134) rfl rfl rfl rfl rfl rfl ?_
      refine E_s (p' := 62) (st' := aI 30 :: _) rfl rfl ?_
      refine E_s (p' := 63) (st' := aI ((60 * i + c : Nat) : Int) :: _) rfl rfl ?_
      refine E_mul (v := ((1800 * i + 30 * c : Nat) : Int)) rfl (by omega) (by omega) ?_
      refine E_s (p' := 65) (st' := aI ((k : Nat) : Int) :: _) rfl rfl ?_
      refine E_add (v := ((1800 * i + 30 * c + k : Nat) : Int)) rfl (by omega) (by omega) ?_
      refine E_ald (e := 1800 * i + 30 * c + k) (N := 7200) (v := ((so (Cp R c k) : Nat) : Int)) rfl rfl (rfl) (by omega) ((up2_ne (by omega)).trans (((I2 _ _ (by omega) (by omega)).trans (MR_134 hM hcc (by omega) rfl)))) ?_
      refine E_ast (e := 1800 * t + 30 * c + k) (N := 7200) rfl rfl (rfl) (by omega) ?_
      refine E_s (p' := 69) (st' := aA 124 :: _) rfl rfl ?_
      refine E_gA (b := 135) rfl rfl rfl rfl rfl rfl ?_
      refine E_s (p' := 74) (st' := aI 30 :: _) rfl rfl ?_
      refine E_s (p' := 75) (st' := aI ((60 * t + c : Nat) : Int) :: _) rfl rfl ?_
      refine E_mul (v := ((1800 * t + 30 * c : Nat) : Int)) rfl (by omega) (by omega) ?_
      refine E_s (p' := 77) (st' := aI ((k : Nat) : Int) :: _) rfl rfl ?_
      refine E_add (v := ((1800 * t + 30 * c + k : Nat) : Int)) rfl (by omega) (by omega) ?_
      refine E_s (p' := 79) (st' := aA 124 :: _) rfl rfl ?_
      refine E_gA (b := 135) rfl rfl rfl rfl rfl rfl ?_
      refine E_s (p' := 84) (st' := aI 30 :: _) rfl rfl ?_
      refine E_s (p' := 85) (st' := aI ((60 * i + c : Nat) : Int) :: _) rfl rfl ?_
      refine E_mul (v := ((1800 * i + 30 * c : Nat) : Int)) rfl (by omega) (by omega) ?_
      refine E_s (p' := 87) (st' := aI ((k : Nat) : Int) :: _) rfl rfl ?_
      refine E_add (v := ((1800 * i + 30 * c + k : Nat) : Int)) rfl (by omega) (by omega) ?_
      refine E_ald (e := 1800 * i + 30 * c + k) (N := 7200) (v := ((tu (Cp R c k) : Nat) : Int)) rfl rfl (rfl) (by omega) ((up2_ne (by omega)).trans ((up2_ne (by omega)).trans (((I2 _ _ (by omega) (by omega)).trans (MR_135 hM hcc (by omega) rfl))))) ?_
      refine E_ast (e := 1800 * t + 30 * c + k) (N := 7200) rfl rfl (rfl) (by omega) ?_
      refine E_inc (x := ((k : Nat) : Int)) (w := ((k + 1 : Nat) : Int)) (L' := [some (aA 124), some (aI ((60 * i + c : Nat) : Int)), some (aI ((60 * t + c : Nat) : Int)), some (aI ((k + 1 : Nat) : Int))]) rfl rfl rfl (by omega) (by omega) rfl ?_
      refine E_s (p' := 14) rfl rfl ?_
      refine ih (k + 1) _ (by omega) (by omega) (((up2_ne (by omega)).trans ((up2_ne (by omega)).trans (up2_ne (by omega)))).trans I0) (fun j hj => ?_) (fun b z g1 g2 => ((up2_o (by omega)).trans ((up2_o (by omega)).trans (up2_o (by omega)))).trans (I2 b z g1 g2))
      by_cases g : j = k
      · subst g
        exact ⟨(up2_ne (by omega)).trans ((up2_ne (by omega)).trans up2_eq), (up2_ne (by omega)).trans up2_eq, up2_eq⟩
      · obtain ⟨g1, g2, g3⟩ := I1 j (by omega)
        exact ⟨((up2_ne (by omega)).trans ((up2_ne (by omega)).trans (up2_sl (by omega)))).trans g1, ((up2_ne (by omega)).trans ((up2_sl (by omega)).trans (up2_ne (by omega)))).trans g2, ((up2_sl (by omega)).trans ((up2_ne (by omega)).trans (up2_ne (by omega)))).trans g3⟩
theorem m_copyKnots (hi : i < 4) (htt : t < 4) (hit : i ≠ t) (hM : MR R i m0) (hV : VR R) (hcc : c < Cn R) (q : ∀ m1 : Mm, m1 132 (60 * t + c) = (Ck R c : Int) → (∀ k, k < Ck R c → MK R t m1 c k) → (∀ b z, ¬ (b = 132 ∧ z = 60 * t + c) → ¬ (133 ≤ b ∧ b ≤ 135 ∧ 1800 * t + 30 * c ≤ z ∧ z < 1800 * t + 30 * c + 30) → m1 b z = m0 b z) → Q none (m1, tl len)) : E 144 0 [some (aA 124), some (aI ((60 * i + c : Nat) : Int)), some (aI ((60 * t + c : Nat) : Int)), none] [] (m0, tl len) Q := by
  have hn60 := hV.1
  have hk30 := (hV.2.2.1 c hcc).2.2.2.2.2
  refine E_s (p' := 1) (st' := aA 124 :: _) rfl rfl ?_
  refine E_gA (b := 132) rfl rfl rfl rfl rfl rfl ?_
  refine E_s (p' := 5) (st' := aI ((60 * t + c : Nat) : Int) :: _) rfl rfl ?_
  refine E_s (p' := 6) (st' := aA 124 :: _) rfl rfl ?_
  refine E_gA (b := 132) rfl rfl rfl rfl rfl rfl ?_
  refine E_s (p' := 10) (st' := aI ((60 * i + c : Nat) : Int) :: _) rfl rfl ?_
  refine E_ald (e := 60 * i + c) (N := 240) (v := ((Ck R c : Nat) : Int)) rfl rfl (rfl) (by omega) (MR_132 hM (by omega) (by omega)) ?_
  refine E_ast (e := 60 * t + c) (N := 240) rfl rfl (rfl) (by omega) ?_
  refine E_s (p' := 13) (st' := aI 0 :: _) rfl rfl ?_
  refine E_s (p' := 14) (L' := [some (aA 124), some (aI ((60 * i + c : Nat) : Int)), some (aI ((60 * t + c : Nat) : Int)), some (aI 0)]) rfl rfl ?_
  exact yl_ck hi htt hit hM hV hcc q (Ck R c + 1) 0 _ (by omega) (by omega) up2_eq (fun j hj => absurd hj (by omega)) (fun b z g1 g2 => up2_o g1)
theorem yl_cp1 (hi : i < 4) (htt : t < 4) (hit : i ≠ t) (hM : MR R i m0) (hV : VR R) (hk : ∀ (m1 : Mm) (x4 x5 : Option AV), Mx t m0 m1 → Co1 m0 m1 → m1 125 t = (Cn R : Int) → m1 126 t = (Cq R : Int) → m1 136 t = (Sn R : Int) → (∀ d, d < Cn R → MC R t m1 d) → (∀ d k, d < Cn R → k < Ck R d → MK R t m1 d k) → E 143 182 [some (aA 124), some (aI (i : Int)), some (aI (t : Int)), some (aI (Cn R : Int)), x4, x5] [] (m1, tl len) Q) : ∀ (d : Nat) (c : Nat) (m : Mm) (x4 x5 : Option AV), (Cn R < c + d) → (c ≤ Cn R) → (Mx t m0 m) → (Co1 m0 m) → (m 125 t = (Cn R : Int)) → (m 126 t = (Cq R : Int)) → (m 136 t = (Sn R : Int)) → (∀ e, e < c → MC R t m e) → (∀ e k, e < c → k < Ck R e → MK R t m e k) → E 143 72 [some (aA 124), some (aI ((i : Nat) : Int)), some (aI ((t : Nat) : Int)), some (aI ((c : Nat) : Int)), x4, x5] [] (m, tl len) Q := by
  intro d
  induction d with
  | zero => intro c m x4 x5 hd hcn hx hc e125 e126 e136 h3 h4; omega
  | succ d ih =>
    intro c m x4 x5 hd hcn hx hc e125 e126 e136 h3 h4
    have hn60 := hV.1
    have hMi : MR R i m := hM.ot hV hit hx
    refine E_s (p' := 73) (st' := aI ((c : Nat) : Int) :: _) rfl rfl ?_
    refine E_s (p' := 74) (st' := aA 124 :: _) rfl rfl ?_
    refine E_gA (b := 125) rfl rfl rfl rfl rfl rfl ?_
    refine E_s (p' := 78) (st' := aI ((i : Nat) : Int) :: _) rfl rfl ?_
    refine E_ald (e := i) (N := 4) (v := ((Cn R : Nat) : Int)) rfl rfl (rfl) (by omega) (MR_125 hMi) ?_
    refine E_icmp_ge (x := ((c : Nat) : Int)) (y := ((Cn R : Nat) : Int)) rfl (by decide) (fun h_1 => ?_) (fun h_1 => ?_)
    · refine E_go (p' := 182) (L' := [some (aA 124), some (aI ((i : Nat) : Int)), some (aI ((t : Nat) : Int)), some (aI ((c : Nat) : Int)), x4, x5]) (st' := []) rfl rfl rfl ?_
      have ec : c = Cn R := by omega
      subst ec
      exact hk m x4 x5 hx hc e125 e126 e136 h3 h4
    · refine E_go (p' := 82) (L' := [some (aA 124), some (aI ((i : Nat) : Int)), some (aI ((t : Nat) : Int)), some (aI ((c : Nat) : Int)), x4, x5]) (st' := []) rfl rfl rfl ?_
      refine E_s (p' := 84) (st' := aI 60 :: _) rfl rfl ?_
      refine E_s (p' := 85) (st' := aI ((i : Nat) : Int) :: _) rfl rfl ?_
      refine E_mul (v := ((60 * i : Nat) : Int)) rfl (by omega) (by omega) ?_
      refine E_s (p' := 87) (st' := aI ((c : Nat) : Int) :: _) rfl rfl ?_
      refine E_add (v := ((60 * i + c : Nat) : Int)) rfl (by omega) (by omega) ?_
      refine E_s (p' := 90) (L' := [some (aA 124), some (aI ((i : Nat) : Int)), some (aI ((t : Nat) : Int)), some (aI ((c : Nat) : Int)), some (aI ((60 * i + c : Nat) : Int)), x5]) rfl rfl ?_
      refine E_s (p' := 92) (st' := aI 60 :: _) rfl rfl ?_
      refine E_s (p' := 93) (st' := aI ((t : Nat) : Int) :: _) rfl rfl ?_
      refine E_mul (v := ((60 * t : Nat) : Int)) rfl (by omega) (by omega) ?_
      refine E_s (p' := 95) (st' := aI ((c : Nat) : Int) :: _) rfl rfl ?_
      refine E_add (v := ((60 * t + c : Nat) : Int)) rfl (by omega) (by omega) ?_
      refine E_s (p' := 98) (L' := [some (aA 124), some (aI ((i : Nat) : Int)), some (aI ((t : Nat) : Int)), some (aI ((c : Nat) : Int)), some (aI ((60 * i + c : Nat) : Int)), some (aI ((60 * t + c : Nat) : Int))]) rfl rfl ?_
      refine E_s (p' := 99) (st' := aA 124 :: _) rfl rfl ?_
      refine E_gA (b := 127) rfl rfl rfl rfl rfl rfl ?_
      refine E_s (p' := 104) (st' := aI ((60 * t + c : Nat) : Int) :: _) rfl rfl ?_
      refine E_s (p' := 105) (st' := aA 124 :: _) rfl rfl ?_
      refine E_gA (b := 127) rfl rfl rfl rfl rfl rfl ?_
      refine E_s (p' := 110) (st' := aI ((60 * i + c : Nat) : Int) :: _) rfl rfl ?_
      refine E_ald (e := 60 * i + c) (N := 240) (v := ((Cg R c))) rfl rfl (rfl) (by omega) (MR_127 hMi (by omega) (by omega)) ?_
      refine E_ast (e := 60 * t + c) (N := 240) rfl rfl (rfl) (by omega) ?_
      refine E_s (p' := 113) (st' := aA 124 :: _) rfl rfl ?_
      refine E_gA (b := 128) rfl rfl rfl rfl rfl rfl ?_
      refine E_s (p' := 118) (st' := aI ((60 * t + c : Nat) : Int) :: _) rfl rfl ?_
      refine E_s (p' := 119) (st' := aA 124 :: _) rfl rfl ?_
      refine E_gA (b := 128) rfl rfl rfl rfl rfl rfl ?_
      refine E_s (p' := 124) (st' := aI ((60 * i + c : Nat) : Int) :: _) rfl rfl ?_
      refine E_ald (e := 60 * i + c) (N := 240) (v := ((Co R c))) rfl rfl (rfl) (by omega) ((up2_ne (by omega)).trans ((MR_128 hMi (by omega) (by omega)))) ?_
      refine E_ast (e := 60 * t + c) (N := 240) rfl rfl (rfl) (by omega) ?_
      refine E_s (p' := 127) (st' := aA 124 :: _) rfl rfl ?_
      refine E_gA (b := 129) rfl rfl rfl rfl rfl rfl ?_
      refine E_s (p' := 132) (st' := aI ((60 * t + c : Nat) : Int) :: _) rfl rfl ?_
      refine E_s (p' := 133) (st' := aA 124 :: _) rfl rfl ?_
      refine E_gA (b := 129) rfl rfl rfl rfl rfl rfl ?_
      refine E_s (p' := 138) (st' := aI ((60 * i + c : Nat) : Int) :: _) rfl rfl ?_
      refine E_ald (e := 60 * i + c) (N := 240) (v := ((Cc R c : Nat) : Int)) rfl rfl (rfl) (by omega) ((up2_ne (by omega)).trans ((up2_ne (by omega)).trans ((MR_129 hMi (by omega) (by omega))))) ?_
      refine E_ast (e := 60 * t + c) (N := 240) rfl rfl (rfl) (by omega) ?_
      refine E_s (p' := 141) (st' := aA 124 :: _) rfl rfl ?_
      refine E_gA (b := 130) rfl rfl rfl rfl rfl rfl ?_
      refine E_s (p' := 146) (st' := aI ((60 * t + c : Nat) : Int) :: _) rfl rfl ?_
      refine E_s (p' := 147) (st' := aA 124 :: _) rfl rfl ?_
      refine E_gA (b := 130) rfl rfl rfl rfl rfl rfl ?_
      refine E_s (p' := 152) (st' := aI ((60 * i + c : Nat) : Int) :: _) rfl rfl ?_
      refine E_ald (e := 60 * i + c) (N := 240) (v := ((Cl R c : Nat) : Int)) rfl rfl (rfl) (by omega) ((up2_ne (by omega)).trans ((up2_ne (by omega)).trans ((up2_ne (by omega)).trans ((MR_130 hMi (by omega) (by omega)))))) ?_
      refine E_ast (e := 60 * t + c) (N := 240) rfl rfl (rfl) (by omega) ?_
      refine E_s (p' := 155) (st' := aA 124 :: _) rfl rfl ?_
      refine E_gA (b := 131) rfl rfl rfl rfl rfl rfl ?_
      refine E_s (p' := 160) (st' := aI ((60 * t + c : Nat) : Int) :: _) rfl rfl ?_
      refine E_s (p' := 161) (st' := aA 124 :: _) rfl rfl ?_
      refine E_gA (b := 131) rfl rfl rfl rfl rfl rfl ?_
      refine E_s (p' := 166) (st' := aI ((60 * i + c : Nat) : Int) :: _) rfl rfl ?_
      refine E_ald (e := 60 * i + c) (N := 240) (v := (((Ctz R c)))) rfl rfl (rfl) (by omega) ((up2_ne (by omega)).trans ((up2_ne (by omega)).trans ((up2_ne (by omega)).trans ((up2_ne (by omega)).trans ((MR_131 hMi (by omega) (by omega))))))) ?_
      refine E_ast (e := 60 * t + c) (N := 240) rfl rfl (rfl) (by omega) ?_
      refine E_s (p' := 169) (st' := aA 124 :: _) rfl rfl ?_
      refine E_s (p' := 171) (st' := aI ((60 * i + c : Nat) : Int) :: _) rfl rfl ?_
      refine E_s (p' := 173) (st' := aI ((60 * t + c : Nat) : Int) :: _) rfl rfl ?_
      refine E_callV (k' := 144) (a := 124) (r := []) (L0 := [some (aA 124), some (aI ((60 * i + c : Nat) : Int)), some (aI ((60 * t + c : Nat) : Int)), none]) rfl rfl rfl rfl rfl rfl rfl rfl rfl rfl ?_
      refine m_copyKnots hi htt hit (hMi.ot hV hit (((((Mx.rf.up (by unfold blk; omega)).up (by unfold blk; omega)).up (by unfold blk; omega)).up (by unfold blk; omega)).up (by unfold blk; omega))) hV (c := c) (by omega) (fun m1 J0 J1 J2 => ?_)
      refine E_go (p' := 176) (L' := [some (aA 124), some (aI ((i : Nat) : Int)), some (aI ((t : Nat) : Int)), some (aI ((c : Nat) : Int)), some (aI ((60 * i + c : Nat) : Int)), some (aI ((60 * t + c : Nat) : Int))]) (st' := []) rfl rfl rfl ?_
      refine E_inc (x := ((c : Nat) : Int)) (w := ((c + 1 : Nat) : Int)) (L' := [some (aA 124), some (aI ((i : Nat) : Int)), some (aI ((t : Nat) : Int)), some (aI ((c + 1 : Nat) : Int)), some (aI ((60 * i + c : Nat) : Int)), some (aI ((60 * t + c : Nat) : Int))]) rfl rfl rfl (by omega) (by omega) rfl ?_
      refine E_s (p' := 72) rfl rfl ?_
      refine ih (c + 1) m1 _ _ (by omega) (by omega) (hx.tr (fun b z hb => ?_)) (fun b z hb => ?_) ?_ ?_ ?_ (fun e he => ?_) (fun e k he hk9 => ?_)
      · have hb2 : ¬ ((127 ≤ b ∧ b ≤ 132 ∧ 60 * t ≤ z ∧ z < 60 * t + 60) ∨ (133 ≤ b ∧ b ≤ 135 ∧ 1800 * t ≤ z ∧ z < 1800 * t + 1800)) := fun g => hb (by unfold blk; omega)
        exact (J2 b z (by omega) (by omega)).trans ((up2_o (by omega)).trans ((up2_o (by omega)).trans ((up2_o (by omega)).trans ((up2_o (by omega)).trans (up2_o (by omega))))))
      · exact (J2 b z (by omega) (by omega)).trans (((up2_ne (by omega)).trans ((up2_ne (by omega)).trans ((up2_ne (by omega)).trans ((up2_ne (by omega)).trans (up2_ne (by omega)))))).trans (hc b z hb))
      · exact (J2 _ _ (by omega) (by omega)).trans (((up2_ne (by omega)).trans ((up2_ne (by omega)).trans ((up2_ne (by omega)).trans ((up2_ne (by omega)).trans (up2_ne (by omega)))))).trans e125)
      · exact (J2 _ _ (by omega) (by omega)).trans (((up2_ne (by omega)).trans ((up2_ne (by omega)).trans ((up2_ne (by omega)).trans ((up2_ne (by omega)).trans (up2_ne (by omega)))))).trans e126)
      · exact (J2 _ _ (by omega) (by omega)).trans (((up2_ne (by omega)).trans ((up2_ne (by omega)).trans ((up2_ne (by omega)).trans ((up2_ne (by omega)).trans (up2_ne (by omega)))))).trans e136)
      · by_cases g : e = c
        · subst g
          exact ⟨(J2 _ _ (by omega) (by omega)).trans ((up2_ne (by omega)).trans ((up2_ne (by omega)).trans ((up2_ne (by omega)).trans ((up2_ne (by omega)).trans (up2_eq))))), (J2 _ _ (by omega) (by omega)).trans ((up2_ne (by omega)).trans ((up2_ne (by omega)).trans ((up2_ne (by omega)).trans (up2_eq)))), (J2 _ _ (by omega) (by omega)).trans ((up2_ne (by omega)).trans ((up2_ne (by omega)).trans (up2_eq))), (J2 _ _ (by omega) (by omega)).trans ((up2_ne (by omega)).trans (up2_eq)), (J2 _ _ (by omega) (by omega)).trans (up2_eq), J0⟩
        · obtain ⟨g1, g2, g3, g4, g5, g6⟩ := h3 e (by omega)
          exact ⟨(J2 _ _ (by omega) (by omega)).trans (((up2_o (by omega)).trans ((up2_o (by omega)).trans ((up2_o (by omega)).trans ((up2_o (by omega)).trans (up2_o (by omega)))))).trans g1), (J2 _ _ (by omega) (by omega)).trans (((up2_o (by omega)).trans ((up2_o (by omega)).trans ((up2_o (by omega)).trans ((up2_o (by omega)).trans (up2_o (by omega)))))).trans g2), (J2 _ _ (by omega) (by omega)).trans (((up2_o (by omega)).trans ((up2_o (by omega)).trans ((up2_o (by omega)).trans ((up2_o (by omega)).trans (up2_o (by omega)))))).trans g3), (J2 _ _ (by omega) (by omega)).trans (((up2_o (by omega)).trans ((up2_o (by omega)).trans ((up2_o (by omega)).trans ((up2_o (by omega)).trans (up2_o (by omega)))))).trans g4), (J2 _ _ (by omega) (by omega)).trans (((up2_o (by omega)).trans ((up2_o (by omega)).trans ((up2_o (by omega)).trans ((up2_o (by omega)).trans (up2_o (by omega)))))).trans g5), (J2 _ _ (by omega) (by omega)).trans (((up2_o (by omega)).trans ((up2_o (by omega)).trans ((up2_o (by omega)).trans ((up2_o (by omega)).trans (up2_o (by omega)))))).trans g6)⟩
      · by_cases g : e = c
        · subst g; exact J1 k hk9
        · obtain ⟨g1, g2, g3⟩ := h4 e k (by omega) hk9
          have := (hV.2.2.1 e (by omega)).2.2.2.2.2
          exact ⟨(J2 _ _ (by omega) (by omega)).trans (((up2_ne (by omega)).trans ((up2_ne (by omega)).trans ((up2_ne (by omega)).trans ((up2_ne (by omega)).trans (up2_ne (by omega)))))).trans g1), (J2 _ _ (by omega) (by omega)).trans (((up2_ne (by omega)).trans ((up2_ne (by omega)).trans ((up2_ne (by omega)).trans ((up2_ne (by omega)).trans (up2_ne (by omega)))))).trans g2), (J2 _ _ (by omega) (by omega)).trans (((up2_ne (by omega)).trans ((up2_ne (by omega)).trans ((up2_ne (by omega)).trans ((up2_ne (by omega)).trans (up2_ne (by omega)))))).trans g3)⟩
theorem yl_cp3 {s : Nat} (hi : i < 4) (htt : t < 4) (hit : i ≠ t) (hs : s < 40) (hk : ∀ (m1 : Mm) (x5 : Option AV), (∀ e, e < 12 → m1 139 (480 * t + 12 * s + e) = m0 139 (480 * i + 12 * s + e)) → (∀ b z, ¬ (b = 139 ∧ 480 * t + 12 * s ≤ z ∧ z < 480 * t + 12 * s + 12) → m1 b z = m0 b z) → E 143 288 [some (aA 124), some (aI (i : Int)), some (aI (t : Int)), some (aI (s : Int)), some (aI 12), x5] [] (m1, tl len) Q) : ∀ (d : Nat) (k : Nat) (m : Mm) (x5 : Option AV), (12 < k + d) → (k ≤ 12) → (∀ e, e < k → m 139 (480 * t + 12 * s + e) = m0 139 (480 * i + 12 * s + e)) → (∀ b z, ¬ (b = 139 ∧ 480 * t + 12 * s ≤ z ∧ z < 480 * t + 12 * s + k) → m b z = m0 b z) → E 143 241 [some (aA 124), some (aI ((i : Nat) : Int)), some (aI ((t : Nat) : Int)), some (aI ((s : Nat) : Int)), some (aI ((k : Nat) : Int)), x5] [] (m, tl len) Q := by
  intro d
  induction d with
  | zero => intro k m x5 hd hk12 I1 I2; omega
  | succ d ih =>
    intro k m x5 hd hk12 I1 I2
    refine E_s (p' := 243) (st' := aI ((k : Nat) : Int) :: _) rfl rfl ?_
    refine E_s (p' := 245) (st' := aI 12 :: _) rfl rfl ?_
    refine E_icmp_ge (x := ((k : Nat) : Int)) (y := 12) rfl (by decide) (fun h_1 => ?_) (fun h_1 => ?_)
    · refine E_go (p' := 288) (L' := [some (aA 124), some (aI ((i : Nat) : Int)), some (aI ((t : Nat) : Int)), some (aI ((s : Nat) : Int)), some (aI ((k : Nat) : Int)), x5]) (st' := []) rfl rfl rfl ?_
      have ek : k = 12 := by omega
      subst ek
      exact hk m x5 I1 I2
    · refine E_go (p' := 248) (L' := [some (aA 124), some (aI ((i : Nat) : Int)), some (aI ((t : Nat) : Int)), some (aI ((s : Nat) : Int)), some (aI ((k : Nat) : Int)), x5]) (st' := []) rfl rfl rfl ?_
      refine E_s (p' := 249) (st' := aA 124 :: _) rfl rfl ?_
      refine E_gA (b := 139) rfl rfl rfl rfl rfl rfl ?_
      refine E_s (p' := 254) (st' := aI 12 :: _) rfl rfl ?_
      refine E_s (p' := 256) (st' := aI 40 :: _) rfl rfl ?_
      refine E_s (p' := 257) (st' := aI ((t : Nat) : Int) :: _) rfl rfl ?_
      refine E_mul (v := ((40 * t : Nat) : Int)) rfl (by omega) (by omega) ?_
      refine E_s (p' := 259) (st' := aI ((s : Nat) : Int) :: _) rfl rfl ?_
      refine E_add (v := ((40 * t + s : Nat) : Int)) rfl (by omega) (by omega) ?_
      refine E_mul (v := ((480 * t + 12 * s : Nat) : Int)) rfl (by omega) (by omega) ?_
      refine E_s (p' := 263) (st' := aI ((k : Nat) : Int) :: _) rfl rfl ?_
      refine E_add (v := ((480 * t + 12 * s + k : Nat) : Int)) rfl (by omega) (by omega) ?_
      refine E_s (p' := 265) (st' := aA 124 :: _) rfl rfl ?_
      refine E_gA (b := 139) rfl rfl rfl rfl rfl rfl ?_
      refine E_s (p' := 270) (st' := aI 12 :: _) rfl rfl ?_
      refine E_s (p' := 272) (st' := aI 40 :: _) rfl rfl ?_
      refine E_s (p' := 273) (st' := aI ((i : Nat) : Int) :: _) rfl rfl ?_
      refine E_mul (v := ((40 * i : Nat) : Int)) rfl (by omega) (by omega) ?_
      refine E_s (p' := 275) (st' := aI ((s : Nat) : Int) :: _) rfl rfl ?_
      refine E_add (v := ((40 * i + s : Nat) : Int)) rfl (by omega) (by omega) ?_
      refine E_mul (v := ((480 * i + 12 * s : Nat) : Int)) rfl (by omega) (by omega) ?_
      refine E_s (p' := 279) (st' := aI ((k : Nat) : Int) :: _) rfl rfl ?_
      refine E_add (v := ((480 * i + 12 * s + k : Nat) : Int)) rfl (by omega) (by omega) ?_
      refine E_ald (e := 480 * i + 12 * s + k) (N := 1920) (v := ((m 139 (480 * i + 12 * s + k)))) rfl rfl (rfl) (by omega) rfl ?_
      refine E_ast (e := 480 * t + 12 * s + k) (N := 1920) rfl rfl (rfl) (by omega) ?_
      refine E_inc (x := ((k : Nat) : Int)) (w := ((k + 1 : Nat) : Int)) (L' := [some (aA 124), some (aI ((i : Nat) : Int)), some (aI ((t : Nat) : Int)), some (aI ((s : Nat) : Int)), some (aI ((k + 1 : Nat) : Int)), x5]) rfl rfl rfl (by omega) (by omega) rfl ?_
      refine E_s (p' := 241) rfl rfl ?_
      refine ih (k + 1) _ x5 (by omega) (by omega) (fun e he => ?_) (fun b z g1 => (up2_o (by omega)).trans (I2 b z (by omega)))
      by_cases g : e = k
      · subst g; exact up2_eq.trans (I2 _ _ (by omega))
      · exact (up2_sl (by omega)).trans (I1 e (by omega))
theorem yl_cp2 (hi : i < 4) (htt : t < 4) (hit : i ≠ t) (hM : MR R i m0) (hV : VR R) (hk : ∀ (m1 : Mm) (x4 x5 : Option AV), Mx t m0 m1 → Co1 m0 m1 → MR R t m1 → E 143 294 [some (aA 124), some (aI (i : Int)), some (aI (t : Int)), some (aI (Sn R : Int)), x4, x5] [] (m1, tl len) Q) : ∀ (d : Nat) (s : Nat) (m : Mm) (x4 x5 : Option AV), (Sn R < s + d) → (s ≤ Sn R) → (Mx t m0 m) → (Co1 m0 m) → (m 125 t = (Cn R : Int)) → (m 126 t = (Cq R : Int)) → (m 136 t = (Sn R : Int)) → (∀ e, e < Cn R → MC R t m e) → (∀ e k, e < Cn R → k < Ck R e → MK R t m e k) → (∀ e, e < s → m 137 (40 * t + e) = (Sw R e : Int) ∧ m 138 (40 * t + e) = (Sp R e : Int)) → (∀ e k, e < s → k < Sp R e → m 139 (480 * t + 12 * e + k) = (Sq R e k : Int)) → E 143 184 [some (aA 124), some (aI ((i : Nat) : Int)), some (aI ((t : Nat) : Int)), some (aI ((s : Nat) : Int)), x4, x5] [] (m, tl len) Q := by
  intro d
  induction d with
  | zero => intro s m x4 x5 hd hsn hx hc e125 e126 e136 h3 h4 h5 h6; omega
  | succ d ih =>
    intro s m x4 x5 hd hsn hx hc e125 e126 e136 h3 h4 h5 h6
    have hs40 := hV.2.2.2.2.1
    have hMi : MR R i m := hM.ot hV hit hx
    refine E_s (p' := 185) (st' := aI ((s : Nat) : Int) :: _) rfl rfl ?_
    refine E_s (p' := 186) (st' := aA 124 :: _) rfl rfl ?_
    refine E_gA (b := 136) rfl rfl rfl rfl rfl rfl ?_
    refine E_s (p' := 190) (st' := aI ((i : Nat) : Int) :: _) rfl rfl ?_
    refine E_ald (e := i) (N := 4) (v := ((Sn R : Nat) : Int)) rfl rfl (rfl) (by omega) (MR_136 hMi) ?_
    refine E_icmp_ge (x := ((s : Nat) : Int)) (y := ((Sn R : Nat) : Int)) rfl (by decide) (fun h_1 => ?_) (fun h_1 => ?_)
    · refine E_go (p' := 294) (L' := [some (aA 124), some (aI ((i : Nat) : Int)), some (aI ((t : Nat) : Int)), some (aI ((s : Nat) : Int)), x4, x5]) (st' := []) rfl rfl rfl ?_
      have ec : s = Sn R := by omega
      subst ec
      exact hk m x4 x5 hx hc ⟨e125, e126, h3, h4, e136, h5, h6⟩
    · refine E_go (p' := 194) (L' := [some (aA 124), some (aI ((i : Nat) : Int)), some (aI ((t : Nat) : Int)), some (aI ((s : Nat) : Int)), x4, x5]) (st' := []) rfl rfl rfl ?_
      refine E_s (p' := 195) (st' := aA 124 :: _) rfl rfl ?_
      refine E_gA (b := 137) rfl rfl rfl rfl rfl rfl ?_
      refine E_s (p' := 200) (st' := aI 40 :: _) rfl rfl ?_
      refine E_s (p' := 201) (st' := aI ((t : Nat) : Int) :: _) rfl rfl ?_
      refine E_mul (v := ((40 * t : Nat) : Int)) rfl (by omega) (by omega) ?_
      refine E_s (p' := 203) (st' := aI ((s : Nat) : Int) :: _) rfl rfl ?_
      refine E_add (v := ((40 * t + s : Nat) : Int)) rfl (by omega) (by omega) ?_
      refine E_s (p' := 205) (st' := aA 124 :: _) rfl rfl ?_
      refine E_gA (b := 137) rfl rfl rfl rfl rfl rfl ?_
      refine E_s (p' := 210) (st' := aI 40 :: _) rfl rfl ?_
      refine E_s (p' := 211) (st' := aI ((i : Nat) : Int) :: _) rfl rfl ?_
      refine E_mul (v := ((40 * i : Nat) : Int)) rfl (by omega) (by omega) ?_
      refine E_s (p' := 213) (st' := aI ((s : Nat) : Int) :: _) rfl rfl ?_
      refine E_add (v := ((40 * i + s : Nat) : Int)) rfl (by omega) (by omega) ?_
      refine E_ald (e := 40 * i + s) (N := 160) (v := ((Sw R s : Nat) : Int)) rfl rfl (rfl) (by omega) (MR_137 hMi (by omega) (by omega)) ?_
      refine E_ast (e := 40 * t + s) (N := 160) rfl rfl (rfl) (by omega) ?_
      refine E_s (p' := 217) (st' := aA 124 :: _) rfl rfl ?_
      refine E_gA (b := 138) rfl rfl rfl rfl rfl rfl ?_
      refine E_s (p' := 222) (st' := aI 40 :: _) rfl rfl ?_
      refine E_s (p' := 223) (st' := aI ((t : Nat) : Int) :: _) rfl rfl ?_
      refine E_mul (v := ((40 * t : Nat) : Int)) rfl (by omega) (by omega) ?_
      refine E_s (p' := 225) (st' := aI ((s : Nat) : Int) :: _) rfl rfl ?_
      refine E_add (v := ((40 * t + s : Nat) : Int)) rfl (by omega) (by omega) ?_
      refine E_s (p' := 227) (st' := aA 124 :: _) rfl rfl ?_
      refine E_gA (b := 138) rfl rfl rfl rfl rfl rfl ?_
      refine E_s (p' := 232) (st' := aI 40 :: _) rfl rfl ?_
      refine E_s (p' := 233) (st' := aI ((i : Nat) : Int) :: _) rfl rfl ?_
      refine E_mul (v := ((40 * i : Nat) : Int)) rfl (by omega) (by omega) ?_
      refine E_s (p' := 235) (st' := aI ((s : Nat) : Int) :: _) rfl rfl ?_
      refine E_add (v := ((40 * i + s : Nat) : Int)) rfl (by omega) (by omega) ?_
      refine E_ald (e := 40 * i + s) (N := 160) (v := ((Sp R s : Nat) : Int)) rfl rfl (rfl) (by omega) ((up2_ne (by omega)).trans ((MR_138 hMi (by omega) (by omega)))) ?_
      refine E_ast (e := 40 * t + s) (N := 160) rfl rfl (rfl) (by omega) ?_
      refine E_s (p' := 239) (st' := aI 0 :: _) rfl rfl ?_
      refine E_s (p' := 241) (L' := [some (aA 124), some (aI ((i : Nat) : Int)), some (aI ((t : Nat) : Int)), some (aI ((s : Nat) : Int)), some (aI 0), x5]) rfl rfl ?_
      refine yl_cp3 hi htt hit (by omega) (fun m1 y5 J1 J2 => ?_) 13 0 _ x5 (by omega) (by omega) (fun e he => absurd he (by omega)) (fun b z _ => rfl)
      refine E_inc (x := ((s : Nat) : Int)) (w := ((s + 1 : Nat) : Int)) (L' := [some (aA 124), some (aI ((i : Nat) : Int)), some (aI ((t : Nat) : Int)), some (aI ((s + 1 : Nat) : Int)), some (aI 12), y5]) rfl rfl rfl (by omega) (by omega) rfl ?_
      refine E_s (p' := 184) rfl rfl ?_
      refine ih (s + 1) m1 _ _ (by omega) (by omega) (hx.tr (fun b z hb => ?_)) (fun b z hb => ?_) ?_ ?_ ?_ (fun e he => ?_) (fun e k he hk9 => ?_) (fun e he => ?_) (fun e k he hk9 => ?_)
      · have hb2 : ¬ ((137 ≤ b ∧ b ≤ 138 ∧ 40 * t ≤ z ∧ z < 40 * t + 40) ∨ (b = 139 ∧ 480 * t ≤ z ∧ z < 480 * t + 480)) := fun g => hb (by unfold blk; omega)
        exact (J2 b z (by omega)).trans ((up2_o (by omega)).trans (up2_o (by omega)))
      · exact (J2 b z (by omega)).trans (((up2_ne (by omega)).trans (up2_ne (by omega))).trans (hc b z hb))
      · exact (J2 _ _ (by omega)).trans (((up2_ne (by omega)).trans (up2_ne (by omega))).trans e125)
      · exact (J2 _ _ (by omega)).trans (((up2_ne (by omega)).trans (up2_ne (by omega))).trans e126)
      · exact (J2 _ _ (by omega)).trans (((up2_ne (by omega)).trans (up2_ne (by omega))).trans e136)
      · obtain ⟨g1, g2, g3, g4, g5, g6⟩ := h3 e he
        exact ⟨(J2 _ _ (by omega)).trans (((up2_ne (by omega)).trans (up2_ne (by omega))).trans g1), (J2 _ _ (by omega)).trans (((up2_ne (by omega)).trans (up2_ne (by omega))).trans g2), (J2 _ _ (by omega)).trans (((up2_ne (by omega)).trans (up2_ne (by omega))).trans g3), (J2 _ _ (by omega)).trans (((up2_ne (by omega)).trans (up2_ne (by omega))).trans g4), (J2 _ _ (by omega)).trans (((up2_ne (by omega)).trans (up2_ne (by omega))).trans g5), (J2 _ _ (by omega)).trans (((up2_ne (by omega)).trans (up2_ne (by omega))).trans g6)⟩
      · obtain ⟨g1, g2, g3⟩ := h4 e k he hk9
        exact ⟨(J2 _ _ (by omega)).trans (((up2_ne (by omega)).trans (up2_ne (by omega))).trans g1), (J2 _ _ (by omega)).trans (((up2_ne (by omega)).trans (up2_ne (by omega))).trans g2), (J2 _ _ (by omega)).trans (((up2_ne (by omega)).trans (up2_ne (by omega))).trans g3)⟩
      · by_cases g : e = s
        · subst g; exact ⟨(J2 _ _ (by omega)).trans ((up2_ne (by omega)).trans (up2_eq)), (J2 _ _ (by omega)).trans (up2_eq)⟩
        · exact ⟨(J2 _ _ (by omega)).trans (((up2_o (by omega)).trans (up2_o (by omega))).trans (h5 e (by omega)).1), (J2 _ _ (by omega)).trans (((up2_o (by omega)).trans (up2_o (by omega))).trans (h5 e (by omega)).2)⟩
      · have hp12 := (hV.2.2.2.2.2.1 e (by omega)).2
        by_cases g : e = s
        · subst g; exact (J1 k (by omega)).trans (((up2_ne (by omega)).trans (up2_ne (by omega))).trans (MR_139 hMi (by omega) hk9 rfl))
        · exact (J2 _ _ (by omega)).trans (((up2_ne (by omega)).trans (up2_ne (by omega))).trans (h6 e k (by omega) hk9))
end
section
variable {len : Nat} {m : Mm} {Q : Option AV → Sx → Prop} {S : Nat → RD} {r t : Int}
theorem M_copy (hS : MS S m) (q : ∀ (v : Int) (m1 : Mm), ((∃ i k : Nat, i < 4 ∧ k < 4 ∧ r = i ∧ t = k ∧ v = (Cn (S i) : Int) ∧ MS (upf S k (S i)) m1) ∨ (((r < 0 ∨ 3 < r) ∨ (t < 0 ∨ 3 < t)) ∧ v = -2 ∧ MS S m1)) → Co1 m m1 → Q (some (aI v)) (m1, tl len)) : E 143 0 [some (aA 124), some (aI (r)), some (aI (t)), none, none, none] [] (m, tl len) Q := by
  refine E_s (p' := 1) (st' := aI (r) :: _) rfl rfl ?_
  refine E_callL (p' := 4) (L0 := [some (aI (r))]) rfl rfl rfl ?_
  refine m_isRecord (fun i hi hr => ?_) (fun hr => ?_)
  · refine E_go (p' := 4) (L' := [some (aA 124), some (aI (r)), some (aI (t)), none, none, none]) (st' := [aI 1]) rfl rfl rfl ?_
    obtain ⟨hV, hM⟩ := hS i hi
    have hn60 := hV.1
    subst hr
    refine E_s (p' := 7) rfl rfl ?_
    refine E_s (p' := 8) (st' := aI (t) :: _) rfl rfl ?_
    refine E_callL (p' := 11) (L0 := [some (aI (t))]) rfl rfl rfl ?_
    refine m_isRecord (fun tk htk ht9 => ?_) (fun hr => ?_)
    · refine E_go (p' := 11) (L' := [some (aA 124), some (aI ((i : Nat) : Int)), some (aI (t)), none, none, none]) (st' := [aI 1]) rfl rfl rfl ?_
      subst ht9
      refine E_s (p' := 17) rfl rfl ?_
      refine E_s (p' := 18) (st' := aA 124 :: _) rfl rfl ?_
      refine E_s (p' := 19) (st' := aI ((tk : Nat) : Int) :: _) rfl rfl ?_
      refine E_callV (k' := 133) (a := 124) (r := []) (L0 := [some (aA 124), some (aI ((tk : Nat) : Int))]) rfl rfl rfl rfl rfl rfl rfl rfl rfl rfl ?_
      refine m_changes (i := tk) (by omega) ?_
      refine E_go (p' := 22) (L' := [some (aA 124), some (aI ((i : Nat) : Int)), some (aI ((tk : Nat) : Int)), none, none, none]) (st' := []) rfl rfl rfl ?_
      refine E_s (p' := 23) (st' := aI ((i : Nat) : Int) :: _) rfl rfl ?_
      refine E_s (p' := 24) (st' := aI ((tk : Nat) : Int) :: _) rfl rfl ?_
      refine E_icmp_ne (x := ((i : Nat) : Int)) (y := ((tk : Nat) : Int)) rfl (by decide) (fun h_1 => ?_) (fun h_1 => ?_)
      · refine E_go (p' := 34) (L' := [some (aA 124), some (aI ((i : Nat) : Int)), some (aI ((tk : Nat) : Int)), none, none, none]) (st' := []) rfl rfl rfl ?_
        refine E_s (p' := 35) (st' := aA 124 :: _) rfl rfl ?_
        refine E_gA (b := 125) rfl rfl rfl rfl rfl rfl ?_
        refine E_s (p' := 39) (st' := aI ((tk : Nat) : Int) :: _) rfl rfl ?_
        refine E_s (p' := 40) (st' := aA 124 :: _) rfl rfl ?_
        refine E_gA (b := 125) rfl rfl rfl rfl rfl rfl ?_
        refine E_s (p' := 44) (st' := aI ((i : Nat) : Int) :: _) rfl rfl ?_
        refine E_ald (e := i) (N := 4) (v := ((Cn (S i) : Nat) : Int)) rfl rfl (rfl) (by omega) ((up2_ne (by omega)).trans ((MR_125 hM))) ?_
        refine E_ast (e := tk) (N := 4) rfl rfl (rfl) (by omega) ?_
        refine E_s (p' := 47) (st' := aA 124 :: _) rfl rfl ?_
        refine E_gA (b := 126) rfl rfl rfl rfl rfl rfl ?_
        refine E_s (p' := 51) (st' := aI ((tk : Nat) : Int) :: _) rfl rfl ?_
        refine E_s (p' := 52) (st' := aA 124 :: _) rfl rfl ?_
        refine E_gA (b := 126) rfl rfl rfl rfl rfl rfl ?_
        refine E_s (p' := 56) (st' := aI ((i : Nat) : Int) :: _) rfl rfl ?_
        refine E_ald (e := i) (N := 4) (v := ((Cq (S i) : Nat) : Int)) rfl rfl (rfl) (by omega) ((up2_ne (by omega)).trans ((up2_ne (by omega)).trans ((MR_126 hM)))) ?_
        refine E_ast (e := tk) (N := 4) rfl rfl (rfl) (by omega) ?_
        refine E_s (p' := 59) (st' := aA 124 :: _) rfl rfl ?_
        refine E_gA (b := 136) rfl rfl rfl rfl rfl rfl ?_
        refine E_s (p' := 63) (st' := aI ((tk : Nat) : Int) :: _) rfl rfl ?_
        refine E_s (p' := 64) (st' := aA 124 :: _) rfl rfl ?_
        refine E_gA (b := 136) rfl rfl rfl rfl rfl rfl ?_
        refine E_s (p' := 68) (st' := aI ((i : Nat) : Int) :: _) rfl rfl ?_
        refine E_ald (e := i) (N := 4) (v := ((Sn (S i) : Nat) : Int)) rfl rfl (rfl) (by omega) ((up2_ne (by omega)).trans ((up2_ne (by omega)).trans ((up2_ne (by omega)).trans ((MR_136 hM))))) ?_
        refine E_ast (e := tk) (N := 4) rfl rfl (rfl) (by omega) ?_
        refine E_s (p' := 71) (st' := aI 0 :: _) rfl rfl ?_
        refine E_s (p' := 72) (L' := [some (aA 124), some (aI ((i : Nat) : Int)), some (aI ((tk : Nat) : Int)), some (aI 0), none, none]) rfl rfl ?_
        have hit : i ≠ tk := by omega
        refine yl_cp1 hi htk hit hM hV (fun m1 y4 y5 hx1 hc1 k125 k126 k136 k3 k4 => ?_) (Cn (S i) + 1) 0 _ none none (by omega) (by omega) ((((Mx.rf.up (by unfold blk; omega)).up (by unfold blk; omega)).up (by unfold blk; omega)).up (by unfold blk; omega)) (fun b j hb => ((up2_ne (by omega)).trans ((up2_ne (by omega)).trans ((up2_ne (by omega)).trans (up2_ne (by omega)))))) ((up2_ne (by omega)).trans ((up2_ne (by omega)).trans (up2_eq))) ((up2_ne (by omega)).trans (up2_eq)) (up2_eq) (fun e he => absurd he (by omega)) (fun e k he => absurd he (by omega))
        refine E_s (p' := 183) (st' := aI 0 :: _) rfl rfl ?_
        refine E_s (p' := 184) (L' := [some (aA 124), some (aI ((i : Nat) : Int)), some (aI ((tk : Nat) : Int)), some (aI 0), y4, y5]) rfl rfl ?_
        refine yl_cp2 hi htk hit hM hV (fun m2 z4 z5 hx2 hc2 hM2 => ?_) (Sn (S i) + 1) 0 m1 y4 y5 (by omega) (by omega) hx1 hc1 k125 k126 k136 k3 k4 (fun e he => absurd he (by omega)) (fun e k he => absurd he (by omega))
        refine E_s (p' := 295) (st' := aA 124 :: _) rfl rfl ?_
        refine E_gA (b := 125) rfl rfl rfl rfl rfl rfl ?_
        refine E_s (p' := 299) (st' := aI ((tk : Nat) : Int) :: _) rfl rfl ?_
        refine E_ald (e := tk) (N := 4) (v := ((Cn (S i) : Nat) : Int)) rfl rfl (rfl) (by omega) hM2.1 ?_
        refine E_ret rfl rfl ?_
        exact q _ m2 (Or.inl ⟨i, tk, hi, htk, rfl, rfl, rfl, hS.set htk hV hM2 (fun k hk hne h => h.ot (hS k hk).1 hne hx2)⟩) hc2
      · refine E_go (p' := 27) (L' := [some (aA 124), some (aI ((i : Nat) : Int)), some (aI ((tk : Nat) : Int)), none, none, none]) (st' := []) rfl rfl rfl ?_
        refine E_s (p' := 28) (st' := aA 124 :: _) rfl rfl ?_
        refine E_gA (b := 125) rfl rfl rfl rfl rfl rfl ?_
        refine E_s (p' := 32) (st' := aI ((i : Nat) : Int) :: _) rfl rfl ?_
        refine E_ald (e := i) (N := 4) (v := ((Cn (S i) : Nat) : Int)) rfl rfl (rfl) (by omega) ((up2_ne (by omega)).trans ((MR_125 hM))) ?_
        refine E_ret rfl rfl ?_
        have e9 : tk = i := by omega
        subst e9
        exact q _ _ (Or.inl ⟨tk, tk, hi, hi, rfl, rfl, rfl, by rw [upf_self]; exact hS.of (fun b j h1 h2 => up2_ne (by omega))⟩) (fun b j hb => up2_ne (by omega))
    · refine E_go (p' := 11) (L' := [some (aA 124), some (aI ((i : Nat) : Int)), some (aI (t)), none, none, none]) (st' := [aI 0]) rfl rfl rfl ?_
      refine E_s (p' := 14) rfl rfl ?_
      refine E_s (p' := 16) (st' := aI (-2) :: _) rfl rfl ?_
      refine E_ret rfl rfl ?_
      exact q _ m (Or.inr ⟨(by omega), rfl, hS⟩) (fun _ _ _ => rfl)
  · refine E_go (p' := 4) (L' := [some (aA 124), some (aI (r)), some (aI (t)), none, none, none]) (st' := [aI 0]) rfl rfl rfl ?_
    refine E_s (p' := 14) rfl rfl ?_
    refine E_s (p' := 16) (st' := aI (-2) :: _) rfl rfl ?_
    refine E_ret rfl rfl ?_
    exact q _ m (Or.inr ⟨(by omega), rfl, hS⟩) (fun _ _ _ => rfl)
end
