section
variable {len : Nat} {m : Mm} {Q : Option AV → Sx → Prop} {r c g l o h s t : Int}
theorem C_cord {S : Nat → RD} (hS : CS S m) (q : ∀ m1, CS (on1 S r (-2) (oCord g c l)).2 m1 → Mo m m1 → Q (some (aI (on1 S r (-2) (oCord g c l)).1)) (m1, tl len)) : E 11 0 [some (aA 1), some (aI (r)), some (aI (g)), some (aI (c)), some (aI (l)), none] [] (m, tl len) Q := by
  refine E_s (p' := 1) (st' := aA 1 :: _) rfl rfl ?_
  refine E_s (p' := 2) (st' := aI (r) :: _) rfl rfl ?_
  refine E_callV (k' := 12) (a := 1) (r := []) (L0 := [some (aA 1), some (aI (r))]) rfl rfl rfl rfl rfl rfl rfl rfl rfl rfl ?_
  refine c_recordOf' (fun i a hi hr ha hR => ?_) (fun hr => ?_)
  · refine E_go (p' := 5) (L' := [some (aA 1), some (aI (r)), some (aI (g)), some (aI (c)), some (aI (l)), none]) (st' := [aA a]) rfl rfl rfl ?_
    obtain ⟨hV, hC, hrd⟩ := hS i hi
    rw [← ha] at hC hrd
    have hn60 := hV.1
    have hab := isR_b hR
    have hs40 := hV.2.2.2.2.1
    refine E_s (p' := 7) (L' := [some (aA 1), some (aI (r)), some (aI (g)), some (aI (c)), some (aI (l)), some (aA a)]) rfl rfl ?_
    refine E_s (p' := 9) (st' := aA a :: _) rfl rfl ?_
    refine E_s (p' := 12) rfl rfl ?_
    refine E_s (p' := 13) (st' := aI (g) :: _) rfl rfl ?_
    refine E_if_lt (x := (g)) rfl (by decide) (fun h_1 => ?_) (fun h_1 => ?_)
    · refine E_go (p' := 31) (L' := [some (aA 1), some (aI (r)), some (aI (g)), some (aI (c)), some (aI (l)), some (aA a)]) (st' := []) rfl rfl rfl ?_
      refine E_s (p' := 33) (st' := aI (-2) :: _) rfl rfl ?_
      refine E_ret rfl rfl ?_
      exact fin_same hS hi hr q (by unfold oCord; rw [cif_neg (by unfold okc; omega)])
    · refine E_go (p' := 16) (L' := [some (aA 1), some (aI (r)), some (aI (g)), some (aI (c)), some (aI (l)), some (aA a)]) (st' := []) rfl rfl rfl ?_
      refine E_s (p' := 17) (st' := aI (g) :: _) rfl rfl ?_
      refine E_s (p' := 19) (st' := aI 12 :: _) rfl rfl ?_
      refine E_icmp_ge (x := (g)) (y := 12) rfl (by decide) (fun h_2 => ?_) (fun h_2 => ?_)
      · refine E_go (p' := 31) (L' := [some (aA 1), some (aI (r)), some (aI (g)), some (aI (c)), some (aI (l)), some (aA a)]) (st' := []) rfl rfl rfl ?_
        refine E_s (p' := 33) (st' := aI (-2) :: _) rfl rfl ?_
        refine E_ret rfl rfl ?_
        exact fin_same hS hi hr q (by unfold oCord; rw [cif_neg (by unfold okc; omega)])
      · refine E_go (p' := 22) (L' := [some (aA 1), some (aI (r)), some (aI (g)), some (aI (c)), some (aI (l)), some (aA a)]) (st' := []) rfl rfl rfl ?_
        refine E_s (p' := 23) (st' := aI (c) :: _) rfl rfl ?_
        refine E_s (p' := 25) (st' := aI (l) :: _) rfl rfl ?_
        refine E_callL (p' := 28) (L0 := [some (aI (c)), some (aI (l))]) rfl rfl rfl ?_
        refine c_canBeCord (fun hk1 hk2 => ?_) (fun hk0 => ?_)
        · refine E_go (p' := 28) (L' := [some (aA 1), some (aI (r)), some (aI (g)), some (aI (c)), some (aI (l)), some (aA a)]) (st' := [aI 1]) rfl rfl rfl ?_
          refine E_s (p' := 34) rfl rfl ?_
          refine E_s (p' := 36) (st' := aA a :: _) rfl rfl ?_
          refine E_s (p' := 37) (st' := aI (g) :: _) rfl rfl ?_
          refine E_s (p' := 38) (st' := aI (-1) :: _) rfl rfl ?_
          refine E_s (p' := 39) (st' := aI (c) :: _) rfl rfl ?_
          refine E_s (p' := 41) (st' := aI (l) :: _) rfl rfl ?_
          refine E_callV (k' := 14) (a := a) (r := []) (L0 := [some (aA a), some (aI (g)), some (aI (-1)), some (aI (c)), some (aI (l)), none]) rfl rfl rfl rfl rfl (kR_0 hR) rfl rfl rfl rfl ?_
          refine c_addCord hR hC hV (by omega) (by omega) (fun m1 hl60 hC1 h71 hF1 => ?_) (fun hf60 => ?_)
          · refine E_go (p' := 44) (L' := [some (aA 1), some (aI (r)), some (aI (g)), some (aI (c)), some (aI (l)), some (aA a)]) (st' := [aI ((Cn (S i) : Nat) : Int)]) rfl rfl rfl ?_
            refine E_ret rfl rfl ?_
            exact fin_in hS hi hr ha q (by unfold oCord; rw [cif_pos (by unfold okc; omega), cif_neg (by omega)]) ⟨V_add hV hl60 (by omega) (by omega) (by omega) (by omega), hC1, Or.inl h71⟩ (hF1.wide (by omega) (by omega))
          · refine E_go (p' := 44) (L' := [some (aA 1), some (aI (r)), some (aI (g)), some (aI (c)), some (aI (l)), some (aA a)]) (st' := [aI (-3)]) rfl rfl rfl ?_
            refine E_ret rfl rfl ?_
            exact fin_same hS hi hr q (by unfold oCord; rw [cif_pos (by unfold okc; omega), cif_pos hf60])
        · refine E_go (p' := 28) (L' := [some (aA 1), some (aI (r)), some (aI (g)), some (aI (c)), some (aI (l)), some (aA a)]) (st' := [aI 0]) rfl rfl rfl ?_
          refine E_s (p' := 31) rfl rfl ?_
          refine E_s (p' := 33) (st' := aI (-2) :: _) rfl rfl ?_
          refine E_ret rfl rfl ?_
          exact fin_same hS hi hr q (by unfold oCord; rw [cif_neg (by unfold okc; omega)])
  · refine E_go (p' := 5) (L' := [some (aA 1), some (aI (r)), some (aI (g)), some (aI (c)), some (aI (l)), none]) (st' := [aN]) rfl rfl rfl ?_
    refine E_s (p' := 7) (L' := [some (aA 1), some (aI (r)), some (aI (g)), some (aI (c)), some (aI (l)), some (aN)]) rfl rfl ?_
    refine E_s (p' := 9) (st' := aN :: _) rfl rfl ?_
    refine E_s (p' := 31) rfl rfl ?_
    refine E_s (p' := 33) (st' := aI (-2) :: _) rfl rfl ?_
    refine E_ret rfl rfl ?_
    exact fin_out hS q hr
theorem C_hang {S : Nat → RD} (hS : CS S m) (q : ∀ m1, CS (on1 S r (-2) (oHang o c l)).2 m1 → Mo m m1 → Q (some (aI (on1 S r (-2) (oHang o c l)).1)) (m1, tl len)) : E 16 0 [some (aA 1), some (aI (r)), some (aI (o)), some (aI (c)), some (aI (l)), none] [] (m, tl len) Q := by
  refine E_s (p' := 1) (st' := aA 1 :: _) rfl rfl ?_
  refine E_s (p' := 2) (st' := aI (r) :: _) rfl rfl ?_
  refine E_callV (k' := 12) (a := 1) (r := []) (L0 := [some (aA 1), some (aI (r))]) rfl rfl rfl rfl rfl rfl rfl rfl rfl rfl ?_
  refine c_recordOf' (fun i a hi hr ha hR => ?_) (fun hr => ?_)
  · refine E_go (p' := 5) (L' := [some (aA 1), some (aI (r)), some (aI (o)), some (aI (c)), some (aI (l)), none]) (st' := [aA a]) rfl rfl rfl ?_
    obtain ⟨hV, hC, hrd⟩ := hS i hi
    rw [← ha] at hC hrd
    have hn60 := hV.1
    have hab := isR_b hR
    have hs40 := hV.2.2.2.2.1
    refine E_s (p' := 7) (L' := [some (aA 1), some (aI (r)), some (aI (o)), some (aI (c)), some (aI (l)), some (aA a)]) rfl rfl ?_
    refine E_s (p' := 9) (st' := aA a :: _) rfl rfl ?_
    refine E_s (p' := 12) rfl rfl ?_
    refine E_s (p' := 14) (st' := aA a :: _) rfl rfl ?_
    refine E_gA (b := a + 1) rfl rfl rfl (kR_0 hR) (hR_0_0 hR) rfl ?_
    refine E_s (p' := 18) (st' := aI (o) :: _) rfl rfl ?_
    refine E_callV (k' := 17) (a := a + 1) (r := []) (L0 := [some (aA (a + 1)), some (aI (o))]) rfl rfl rfl rfl rfl (kR_1 hR) rfl rfl rfl rfl ?_
    refine c_has hR hC (fun ci he_ci hc_ci => ?_) (fun hno => ?_)
    · refine E_go (p' := 21) (L' := [some (aA 1), some (aI (r)), some (aI (o)), some (aI (c)), some (aI (l)), some (aA a)]) (st' := [aI 1]) rfl rfl rfl ?_
      subst he_ci
      refine E_s (p' := 24) rfl rfl ?_
      refine E_s (p' := 25) (st' := aI (c) :: _) rfl rfl ?_
      refine E_s (p' := 27) (st' := aI (l) :: _) rfl rfl ?_
      refine E_callL (p' := 30) (L0 := [some (aI (c)), some (aI (l))]) rfl rfl rfl ?_
      refine c_canBeCord (fun hk1 hk2 => ?_) (fun hk0 => ?_)
      · refine E_go (p' := 30) (L' := [some (aA 1), some (aI (r)), some (aI ((ci : Nat) : Int)), some (aI (c)), some (aI (l)), some (aA a)]) (st' := [aI 1]) rfl rfl rfl ?_
        refine E_s (p' := 36) rfl rfl ?_
        refine E_s (p' := 38) (st' := aA a :: _) rfl rfl ?_
        refine E_gA (b := a + 1) rfl rfl rfl (kR_0 hR) (hR_0_0 hR) rfl ?_
        refine E_s (p' := 42) (st' := aI ((ci : Nat) : Int) :: _) rfl rfl ?_
        refine E_callV (k' := 18) (a := a + 1) (r := []) (L0 := [some (aA (a + 1)), some (aI ((ci : Nat) : Int)), none, none, none]) rfl rfl rfl rfl rfl (kR_1 hR) rfl rfl rfl rfl ?_
        refine c_above hR hC hV hc_ci ?_
        refine E_go (p' := 45) (L' := [some (aA 1), some (aI (r)), some (aI ((ci : Nat) : Int)), some (aI (c)), some (aI (l)), some (aA a)]) (st' := [aI ((min 4 (dep (S i) ci) : Nat) : Int)]) rfl rfl rfl ?_
        refine E_s (p' := 46) (st' := aI 3 :: _) rfl rfl ?_
        refine E_icmp_le (x := ((min 4 (dep (S i) ci) : Nat) : Int)) (y := 3) rfl (by decide) (fun h_1 => ?_) (fun h_1 => ?_)
        · refine E_go (p' := 52) (L' := [some (aA 1), some (aI (r)), some (aI ((ci : Nat) : Int)), some (aI (c)), some (aI (l)), some (aA a)]) (st' := []) rfl rfl rfl ?_
          refine E_s (p' := 54) (st' := aA a :: _) rfl rfl ?_
          refine E_s (p' := 55) (st' := aI (-1) :: _) rfl rfl ?_
          refine E_s (p' := 56) (st' := aI ((ci : Nat) : Int) :: _) rfl rfl ?_
          refine E_s (p' := 57) (st' := aI (c) :: _) rfl rfl ?_
          refine E_s (p' := 59) (st' := aI (l) :: _) rfl rfl ?_
          refine E_callV (k' := 14) (a := a) (r := []) (L0 := [some (aA a), some (aI (-1)), some (aI ((ci : Nat) : Int)), some (aI (c)), some (aI (l)), none]) rfl rfl rfl rfl rfl (kR_0 hR) rfl rfl rfl rfl ?_
          refine c_addCord hR hC hV (by omega) (by omega) (fun m1 hl60 hC1 h71 hF1 => ?_) (fun hf60 => ?_)
          · refine E_go (p' := 62) (L' := [some (aA 1), some (aI (r)), some (aI ((ci : Nat) : Int)), some (aI (c)), some (aI (l)), some (aA a)]) (st' := [aI ((Cn (S i) : Nat) : Int)]) rfl rfl rfl ?_
            refine E_ret rfl rfl ?_
            exact fin_in hS hi hr ha q (by unfold oHang; (try simp only [Int.toNat_natCast]); rw [cif_pos (by unfold okc inC; omega), cif_neg (show ¬ (3 < dep (S i) ci ∨ Cn (S i) = 60) by omega)]) ⟨V_add hV hl60 (by omega) (by omega) (by omega) (by omega), hC1, Or.inl h71⟩ (hF1.wide (by omega) (by omega))
          · refine E_go (p' := 62) (L' := [some (aA 1), some (aI (r)), some (aI ((ci : Nat) : Int)), some (aI (c)), some (aI (l)), some (aA a)]) (st' := [aI (-3)]) rfl rfl rfl ?_
            refine E_ret rfl rfl ?_
            exact fin_same hS hi hr q (by unfold oHang; (try simp only [Int.toNat_natCast]); rw [cif_pos (by unfold okc inC; omega), cif_pos (by first | exact Or.inr hf60 | exact Or.inl (show 3 < dep (S i) ci by omega))])
        · refine E_go (p' := 49) (L' := [some (aA 1), some (aI (r)), some (aI ((ci : Nat) : Int)), some (aI (c)), some (aI (l)), some (aA a)]) (st' := []) rfl rfl rfl ?_
          refine E_s (p' := 51) (st' := aI (-3) :: _) rfl rfl ?_
          refine E_ret rfl rfl ?_
          exact fin_same hS hi hr q (by unfold oHang; (try simp only [Int.toNat_natCast]); rw [cif_pos (by unfold okc inC; omega), cif_pos (by first | exact Or.inr hf60 | exact Or.inl (show 3 < dep (S i) ci by omega))])
      · refine E_go (p' := 30) (L' := [some (aA 1), some (aI (r)), some (aI ((ci : Nat) : Int)), some (aI (c)), some (aI (l)), some (aA a)]) (st' := [aI 0]) rfl rfl rfl ?_
        refine E_s (p' := 33) rfl rfl ?_
        refine E_s (p' := 35) (st' := aI (-2) :: _) rfl rfl ?_
        refine E_ret rfl rfl ?_
        exact fin_same hS hi hr q (by unfold oHang; (try simp only [Int.toNat_natCast]); rw [cif_neg (by unfold okc inC; omega)])
    · refine E_go (p' := 21) (L' := [some (aA 1), some (aI (r)), some (aI (o)), some (aI (c)), some (aI (l)), some (aA a)]) (st' := [aI 0]) rfl rfl rfl ?_
      refine E_s (p' := 33) rfl rfl ?_
      refine E_s (p' := 35) (st' := aI (-2) :: _) rfl rfl ?_
      refine E_ret rfl rfl ?_
      exact fin_same hS hi hr q (by unfold oHang; (try simp only [Int.toNat_natCast]); rw [cif_neg (by unfold okc inC; omega)])
  · refine E_go (p' := 5) (L' := [some (aA 1), some (aI (r)), some (aI (o)), some (aI (c)), some (aI (l)), none]) (st' := [aN]) rfl rfl rfl ?_
    refine E_s (p' := 7) (L' := [some (aA 1), some (aI (r)), some (aI (o)), some (aI (c)), some (aI (l)), some (aN)]) rfl rfl ?_
    refine E_s (p' := 9) (st' := aN :: _) rfl rfl ?_
    refine E_s (p' := 33) rfl rfl ?_
    refine E_s (p' := 35) (st' := aI (-2) :: _) rfl rfl ?_
    refine E_ret rfl rfl ?_
    exact fin_out hS q hr
theorem C_knot {S : Nat → RD} (hS : CS S m) (q : ∀ m1, CS (on1 S r (-2) (oKnot c h s t)).2 m1 → Mo m m1 → Q (some (aI (on1 S r (-2) (oKnot c h s t)).1)) (m1, tl len)) : E 19 0 [some (aA 1), some (aI (r)), some (aI (c)), some (aI (h)), some (aI (s)), some (aI (t)), none] [] (m, tl len) Q := by
  refine E_s (p' := 1) (st' := aA 1 :: _) rfl rfl ?_
  refine E_s (p' := 2) (st' := aI (r) :: _) rfl rfl ?_
  refine E_callV (k' := 12) (a := 1) (r := []) (L0 := [some (aA 1), some (aI (r))]) rfl rfl rfl rfl rfl rfl rfl rfl rfl rfl ?_
  refine c_recordOf' (fun i a hi hr ha hR => ?_) (fun hr => ?_)
  · refine E_go (p' := 5) (L' := [some (aA 1), some (aI (r)), some (aI (c)), some (aI (h)), some (aI (s)), some (aI (t)), none]) (st' := [aA a]) rfl rfl rfl ?_
    obtain ⟨hV, hC, hrd⟩ := hS i hi
    rw [← ha] at hC hrd
    have hn60 := hV.1
    have hab := isR_b hR
    have hs40 := hV.2.2.2.2.1
    refine E_s (p' := 7) (L' := [some (aA 1), some (aI (r)), some (aI (c)), some (aI (h)), some (aI (s)), some (aI (t)), some (aA a)]) rfl rfl ?_
    refine E_s (p' := 9) (st' := aA a :: _) rfl rfl ?_
    refine E_s (p' := 12) rfl rfl ?_
    refine E_s (p' := 14) (st' := aA a :: _) rfl rfl ?_
    refine E_gA (b := a + 1) rfl rfl rfl (kR_0 hR) (hR_0_0 hR) rfl ?_
    refine E_s (p' := 18) (st' := aI (c) :: _) rfl rfl ?_
    refine E_callV (k' := 17) (a := a + 1) (r := []) (L0 := [some (aA (a + 1)), some (aI (c))]) rfl rfl rfl rfl rfl (kR_1 hR) rfl rfl rfl rfl ?_
    refine c_has hR hC (fun ci he_ci hc_ci => ?_) (fun hno => ?_)
    · refine E_go (p' := 21) (L' := [some (aA 1), some (aI (r)), some (aI (c)), some (aI (h)), some (aI (s)), some (aI (t)), some (aA a)]) (st' := [aI 1]) rfl rfl rfl ?_
      subst he_ci
      refine E_s (p' := 24) rfl rfl ?_
      refine E_s (p' := 26) (st' := aI (s) :: _) rfl rfl ?_
      refine E_s (p' := 28) (st' := aI (t) :: _) rfl rfl ?_
      refine E_callL (p' := 31) (L0 := [some (aI (s)), some (aI (t))]) rfl rfl rfl ?_
      refine c_canBeKnot (fun hkd => ?_) (fun hkn => ?_)
      · refine E_go (p' := 31) (L' := [some (aA 1), some (aI (r)), some (aI ((ci : Nat) : Int)), some (aI (h)), some (aI (s)), some (aI (t)), some (aA a)]) (st' := [aI 1]) rfl rfl rfl ?_
        refine E_s (p' := 34) rfl rfl ?_
        refine E_s (p' := 36) (st' := aA a :: _) rfl rfl ?_
        refine E_gA (b := a + 1) rfl rfl rfl (kR_0 hR) (hR_0_0 hR) rfl ?_
        refine E_s (p' := 40) (st' := aI ((ci : Nat) : Int) :: _) rfl rfl ?_
        refine E_s (p' := 41) (st' := aI (h) :: _) rfl rfl ?_
        refine E_callV (k' := 21) (a := a + 1) (r := []) (L0 := [some (aA (a + 1)), some (aI ((ci : Nat) : Int)), some (aI (h))]) rfl rfl rfl rfl rfl (kR_1 hR) rfl rfl rfl rfl ?_
        refine c_isFree hR hC hV hc_ci (fun hw1 hnt => ?_) (fun hfr => ?_)
        · refine E_go (p' := 44) (L' := [some (aA 1), some (aI (r)), some (aI ((ci : Nat) : Int)), some (aI (h)), some (aI (s)), some (aI (t)), some (aA a)]) (st' := [aI 1]) rfl rfl rfl ?_
          refine E_s (p' := 50) rfl rfl ?_
          have hvc := hV.2.2.1 ci hc_ci
          have hk30 := hvc.2.2.2.2.2
          refine E_s (p' := 52) (st' := aA a :: _) rfl rfl ?_
          refine E_gA (b := a + 1) rfl rfl rfl (kR_0 hR) (hR_0_0 hR) rfl ?_
          refine E_gA (b := a + 7) rfl rfl rfl (kR_1 hR) (hR_1_5 hR) rfl ?_
          refine E_s (p' := 59) (st' := aI ((ci : Nat) : Int) :: _) rfl rfl ?_
          refine E_ald (e := ci) (N := 60) (v := ((Ck (S i) ci : Nat) : Int)) rfl (kR_7 hR) (rfl) (by omega) (CR_7 hC (by omega)) ?_
          refine E_s (p' := 62) (st' := aI 30 :: _) rfl rfl ?_
          refine E_icmp_lt (x := ((Ck (S i) ci : Nat) : Int)) (y := 30) rfl (by decide) (fun h_1 => ?_) (fun h_1 => ?_)
          · refine E_go (p' := 68) (L' := [some (aA 1), some (aI (r)), some (aI ((ci : Nat) : Int)), some (aI (h)), some (aI (s)), some (aI (t)), some (aA a)]) (st' := []) rfl rfl rfl ?_
            obtain ⟨hn, eh⟩ : ∃ x : Nat, h = (x : Int) := ⟨h.toNat, by unfold whl at hw1; omega⟩
            obtain ⟨sn, es⟩ : ∃ x : Nat, s = (x : Int) := ⟨s.toNat, by unfold kind at hkd; omega⟩
            obtain ⟨tn, et⟩ : ∃ x : Nat, t = (x : Int) := ⟨t.toNat, by unfold kind at hkd; omega⟩
            subst eh es et
            have hb3 : hn ≤ 600 ∧ sn < 4 ∧ tn < 16 ∧ 1 ≤ hn := by unfold whl at hw1; unfold kind at hkd; have := (hV.2.2.1 ci hc_ci).2.2.2.1; omega
            have hpl : pck hn sn tn < 2147483648 := by unfold pck; omega
            refine E_s (p' := 70) (st' := aA a :: _) rfl rfl ?_
            refine E_gA (b := a + 1) rfl rfl rfl (kR_0 hR) (hR_0_0 hR) rfl ?_
            refine E_s (p' := 74) (st' := aI ((ci : Nat) : Int) :: _) rfl rfl ?_
            refine E_s (p' := 75) (st' := aI ((hn : Nat) : Int) :: _) rfl rfl ?_
            refine E_s (p' := 77) (st' := aI ((sn : Nat) : Int) :: _) rfl rfl ?_
            refine E_s (p' := 79) (st' := aI ((tn : Nat) : Int) :: _) rfl rfl ?_
            refine E_callL (p' := 82) (L0 := [some (aI ((hn : Nat) : Int)), some (aI ((sn : Nat) : Int)), some (aI ((tn : Nat) : Int))]) rfl rfl rfl ?_
            refine c_pack (h := hn) (s := sn) (t := tn) (by omega) (by omega) (by omega) ?_
            refine E_go (p' := 82) (L' := [some (aA 1), some (aI (r)), some (aI ((ci : Nat) : Int)), some (aI ((hn : Nat) : Int)), some (aI ((sn : Nat) : Int)), some (aI ((tn : Nat) : Int)), some (aA a)]) (st' := [aI ((pck hn sn tn : Nat) : Int), aI ((ci : Nat) : Int), aA (a + 1)]) rfl rfl rfl ?_
            refine E_callV (k' := 27) (a := a + 1) (r := []) (L0 := [some (aA (a + 1)), some (aI ((ci : Nat) : Int)), some (aI ((pck hn sn tn : Nat) : Int))]) rfl rfl rfl rfl rfl (kR_1 hR) rfl rfl rfl rfl ?_
            refine c_insert hR hC hV hc_ci hpl (by omega) (fun m1 hC1 hF1 => ?_)
            refine E_go (p' := 85) (L' := [some (aA 1), some (aI (r)), some (aI ((ci : Nat) : Int)), some (aI ((hn : Nat) : Int)), some (aI ((sn : Nat) : Int)), some (aI ((tn : Nat) : Int)), some (aA a)]) (st' := []) rfl rfl rfl ?_
            refine E_s (p' := 87) (st' := aA a :: _) rfl rfl ?_
            refine E_callV (k' := 15) (a := a) (r := []) (L0 := [some (aA a)]) rfl rfl rfl rfl rfl (kR_0 hR) rfl rfl rfl rfl ?_
            refine c_changed hR ?_
            refine E_go (p' := 90) (L' := [some (aA 1), some (aI (r)), some (aI ((ci : Nat) : Int)), some (aI ((hn : Nat) : Int)), some (aI ((sn : Nat) : Int)), some (aI ((tn : Nat) : Int)), some (aA a)]) (st' := []) rfl rfl rfl ?_
            refine E_s (p' := 92) (st' := aA a :: _) rfl rfl ?_
            refine E_gA (b := a + 1) rfl rfl rfl (kR_0 hR) (hR_0_0 hR) rfl ?_
            refine E_gA (b := a + 7) rfl rfl rfl (kR_1 hR) (hR_1_5 hR) rfl ?_
            refine E_s (p' := 99) (st' := aI ((ci : Nat) : Int) :: _) rfl rfl ?_
            refine E_ald (e := ci) (N := 60) (v := ((Ck (S i) ci + 1 : Nat) : Int)) rfl (kR_7 hR) (rfl) (by omega) ((up2_ne (by omega)).trans ((up2_ne (by omega)).trans (((CR_7 hC1 hc_ci).trans (by show ((upf (Ck (S i)) ci (Ck (S i) ci + 1) ci : Nat) : Int) = _; rw [upf_eq]))))) ?_
            refine E_ret rfl rfl ?_
            have eht := pck_ht (h := hn) (s := sn) (t := tn) hb3.2.1 hb3.2.2.1
            have hps := posn_sp (Cp (S i) ci) hn (Ck (S i) ci)
            rw [eht] at hC1
            refine fin_in hS hi hr ha q (by unfold oKnot; (try simp only [Int.toNat_natCast]); rw [cif_pos ⟨(by unfold inC; omega), hkd, hw1, hnt⟩, cif_neg (show ¬ Ck (S i) ci = 30 by omega)]; try rfl) ⟨V_ins hV hc_ci (by omega) (by unfold kok; rw [pck_so hb3.2.1 hb3.2.2.1, pck_tu hb3.2.2.1]; unfold kind at hkd; omega) (by rw [eht]; unfold whl at hw1; omega) (fun k hk e => hnt ⟨k, hk, by rw [e, eht]⟩) (posn_le _ _ _) (by rw [eht]; exact hps.1) (by rw [eht]; exact hps.2), hC1.of (fun b j g1 g2 g3 => (up2_o (by omega)).trans (up2_o (by omega))), Or.inl ((up2_sl (by decide)).trans up2_eq)⟩ (fun b j hb => (up2_ne (by omega)).trans ((up2_ne (by omega)).trans (hF1 _ _ (by omega))))
          · refine E_go (p' := 65) (L' := [some (aA 1), some (aI (r)), some (aI ((ci : Nat) : Int)), some (aI (h)), some (aI (s)), some (aI (t)), some (aA a)]) (st' := []) rfl rfl rfl ?_
            refine E_s (p' := 67) (st' := aI (-3) :: _) rfl rfl ?_
            refine E_ret rfl rfl ?_
            exact fin_same hS hi hr q (by unfold oKnot; (try simp only [Int.toNat_natCast]); rw [cif_pos ⟨(by unfold inC; omega), hkd, hw1, hnt⟩, cif_pos (show Ck (S i) ci = 30 by omega)])
        · refine E_go (p' := 44) (L' := [some (aA 1), some (aI (r)), some (aI ((ci : Nat) : Int)), some (aI (h)), some (aI (s)), some (aI (t)), some (aA a)]) (st' := [aI 0]) rfl rfl rfl ?_
          refine E_s (p' := 47) rfl rfl ?_
          refine E_s (p' := 49) (st' := aI (-2) :: _) rfl rfl ?_
          refine E_ret rfl rfl ?_
          exact fin_same hS hi hr q (by unfold oKnot; (try simp only [Int.toNat_natCast]); rw [cif_neg (by first | (unfold inC; omega) | exact fun g => hkn g.2.1 | exact fun g => hfr.elim (fun z => z g.2.2.1) g.2.2.2)])
      · refine E_go (p' := 31) (L' := [some (aA 1), some (aI (r)), some (aI ((ci : Nat) : Int)), some (aI (h)), some (aI (s)), some (aI (t)), some (aA a)]) (st' := [aI 0]) rfl rfl rfl ?_
        refine E_s (p' := 47) rfl rfl ?_
        refine E_s (p' := 49) (st' := aI (-2) :: _) rfl rfl ?_
        refine E_ret rfl rfl ?_
        exact fin_same hS hi hr q (by unfold oKnot; (try simp only [Int.toNat_natCast]); rw [cif_neg (by first | (unfold inC; omega) | exact fun g => hkn g.2.1 | exact fun g => hfr.elim (fun z => z g.2.2.1) g.2.2.2)])
    · refine E_go (p' := 21) (L' := [some (aA 1), some (aI (r)), some (aI (c)), some (aI (h)), some (aI (s)), some (aI (t)), some (aA a)]) (st' := [aI 0]) rfl rfl rfl ?_
      refine E_s (p' := 47) rfl rfl ?_
      refine E_s (p' := 49) (st' := aI (-2) :: _) rfl rfl ?_
      refine E_ret rfl rfl ?_
      exact fin_same hS hi hr q (by unfold oKnot; (try simp only [Int.toNat_natCast]); rw [cif_neg (by first | (unfold inC; omega) | exact fun g => hkn g.2.1 | exact fun g => hfr.elim (fun z => z g.2.2.1) g.2.2.2)])
  · refine E_go (p' := 5) (L' := [some (aA 1), some (aI (r)), some (aI (c)), some (aI (h)), some (aI (s)), some (aI (t)), none]) (st' := [aN]) rfl rfl rfl ?_
    refine E_s (p' := 7) (L' := [some (aA 1), some (aI (r)), some (aI (c)), some (aI (h)), some (aI (s)), some (aI (t)), some (aN)]) rfl rfl ?_
    refine E_s (p' := 9) (st' := aN :: _) rfl rfl ?_
    refine E_s (p' := 47) rfl rfl ?_
    refine E_s (p' := 49) (st' := aI (-2) :: _) rfl rfl ?_
    refine E_ret rfl rfl ?_
    exact fin_out hS q hr
theorem C_untie {S : Nat → RD} (hS : CS S m) (q : ∀ m1, CS (on1 S r (-1) (oUntie c h)).2 m1 → Mo m m1 → Q (some (aI (on1 S r (-1) (oUntie c h)).1)) (m1, tl len)) : E 29 0 [some (aA 1), some (aI (r)), some (aI (c)), some (aI (h)), none] [] (m, tl len) Q := by
  refine E_s (p' := 1) (st' := aA 1 :: _) rfl rfl ?_
  refine E_s (p' := 2) (st' := aI (r) :: _) rfl rfl ?_
  refine E_callV (k' := 12) (a := 1) (r := []) (L0 := [some (aA 1), some (aI (r))]) rfl rfl rfl rfl rfl rfl rfl rfl rfl rfl ?_
  refine c_recordOf' (fun i a hi hr ha hR => ?_) (fun hr => ?_)
  · refine E_go (p' := 5) (L' := [some (aA 1), some (aI (r)), some (aI (c)), some (aI (h)), none]) (st' := [aA a]) rfl rfl rfl ?_
    obtain ⟨hV, hC, hrd⟩ := hS i hi
    rw [← ha] at hC hrd
    have hn60 := hV.1
    have hab := isR_b hR
    have hs40 := hV.2.2.2.2.1
    refine E_s (p' := 7) (L' := [some (aA 1), some (aI (r)), some (aI (c)), some (aI (h)), some (aA a)]) rfl rfl ?_
    refine E_s (p' := 9) (st' := aA a :: _) rfl rfl ?_
    refine E_s (p' := 12) rfl rfl ?_
    refine E_s (p' := 14) (st' := aA a :: _) rfl rfl ?_
    refine E_gA (b := a + 1) rfl rfl rfl (kR_0 hR) (hR_0_0 hR) rfl ?_
    refine E_s (p' := 18) (st' := aI (c) :: _) rfl rfl ?_
    refine E_callV (k' := 17) (a := a + 1) (r := []) (L0 := [some (aA (a + 1)), some (aI (c))]) rfl rfl rfl rfl rfl (kR_1 hR) rfl rfl rfl rfl ?_
    refine c_has hR hC (fun ci he_ci hc_ci => ?_) (fun hno => ?_)
    · refine E_go (p' := 21) (L' := [some (aA 1), some (aI (r)), some (aI (c)), some (aI (h)), some (aA a)]) (st' := [aI 1]) rfl rfl rfl ?_
      subst he_ci
      refine E_s (p' := 24) rfl rfl ?_
      refine E_s (p' := 26) (st' := aA a :: _) rfl rfl ?_
      refine E_gA (b := a + 1) rfl rfl rfl (kR_0 hR) (hR_0_0 hR) rfl ?_
      refine E_s (p' := 30) (st' := aI ((ci : Nat) : Int) :: _) rfl rfl ?_
      refine E_s (p' := 31) (st' := aI (h) :: _) rfl rfl ?_
      refine E_callV (k' := 30) (a := a + 1) (r := []) (L0 := [some (aA (a + 1)), some (aI ((ci : Nat) : Int)), some (aI (h)), none, none]) rfl rfl rfl rfl rfl (kR_1 hR) rfl rfl rfl rfl ?_
      refine c_remove hR hC hV hc_ci (fun k1 m1 hk1 hk2 hC1 hF1 => ?_) (fun hnt => ?_)
      · refine E_go (p' := 34) (L' := [some (aA 1), some (aI (r)), some (aI ((ci : Nat) : Int)), some (aI (h)), some (aA a)]) (st' := [aI 1]) rfl rfl rfl ?_
        refine E_s (p' := 39) rfl rfl ?_
        refine E_s (p' := 41) (st' := aA a :: _) rfl rfl ?_
        refine E_callV (k' := 15) (a := a) (r := []) (L0 := [some (aA a)]) rfl rfl rfl rfl rfl (kR_0 hR) rfl rfl rfl rfl ?_
        refine c_changed hR ?_
        refine E_go (p' := 44) (L' := [some (aA 1), some (aI (r)), some (aI ((ci : Nat) : Int)), some (aI (h)), some (aA a)]) (st' := []) rfl rfl rfl ?_
        refine E_s (p' := 46) (st' := aA a :: _) rfl rfl ?_
        refine E_gA (b := a + 1) rfl rfl rfl (kR_0 hR) (hR_0_0 hR) rfl ?_
        refine E_gA (b := a + 7) rfl rfl rfl (kR_1 hR) (hR_1_5 hR) rfl ?_
        refine E_s (p' := 53) (st' := aI ((ci : Nat) : Int) :: _) rfl rfl ?_
        refine E_ald (e := ci) (N := 60) (v := ((Ck (S i) ci - 1 : Nat) : Int)) rfl (kR_7 hR) (rfl) (by omega) ((up2_ne (by omega)).trans ((up2_ne (by omega)).trans (((CR_7 hC1 hc_ci).trans (by show ((upf (Ck (S i)) ci (Ck (S i) ci - 1) ci : Nat) : Int) = _; rw [upf_eq]))))) ?_
        refine E_ret rfl rfl ?_
        obtain ⟨hn, eh⟩ : ∃ x : Nat, h = (x : Int) := ⟨h.toNat, by omega⟩
        subst eh
        have ep := posn_u (P := Cp (S i) ci) (h := hn) (n := Ck (S i) ci) (k := k1) (by omega) (fun j hj => by have := hV.mono hc_ci hj hk1; omega) (fun _ => by omega)
        refine fin_in hS hi hr ha q (by unfold oUntie; (try simp only [Int.toNat_natCast]); rw [cif_pos ⟨(by unfold inC; omega), (⟨k1, hk1, hk2⟩ : tied (S i) ci hn)⟩]; show (_, Rkn (S i) ci _ (remP _ (posn (Cp (S i) ci) hn (Ck (S i) ci)))) = _; rw [← ep]; try rfl) ⟨V_rem hV hc_ci hk1, hC1.of (fun b j g1 g2 g3 => (up2_o (by omega)).trans (up2_o (by omega))), Or.inl ((up2_sl (by decide)).trans up2_eq)⟩ (fun b j hb => (up2_ne (by omega)).trans ((up2_ne (by omega)).trans (hF1 _ _ (by omega))))
      · refine E_go (p' := 34) (L' := [some (aA 1), some (aI (r)), some (aI ((ci : Nat) : Int)), some (aI (h)), some (aA a)]) (st' := [aI 0]) rfl rfl rfl ?_
        refine E_s (p' := 37) rfl rfl ?_
        refine E_s (p' := 38) (st' := aI (-1) :: _) rfl rfl ?_
        refine E_ret rfl rfl ?_
        exact fin_same hS hi hr q (by unfold oUntie; (try simp only [Int.toNat_natCast]); rw [cif_neg (by first | (unfold inC; omega) | exact fun g => hnt g.2)])
    · refine E_go (p' := 21) (L' := [some (aA 1), some (aI (r)), some (aI (c)), some (aI (h)), some (aA a)]) (st' := [aI 0]) rfl rfl rfl ?_
      refine E_s (p' := 37) rfl rfl ?_
      refine E_s (p' := 38) (st' := aI (-1) :: _) rfl rfl ?_
      refine E_ret rfl rfl ?_
      exact fin_same hS hi hr q (by unfold oUntie; (try simp only [Int.toNat_natCast]); rw [cif_neg (by first | (unfold inC; omega) | exact fun g => hnt g.2)])
  · refine E_go (p' := 5) (L' := [some (aA 1), some (aI (r)), some (aI (c)), some (aI (h)), none]) (st' := [aN]) rfl rfl rfl ?_
    refine E_s (p' := 7) (L' := [some (aA 1), some (aI (r)), some (aI (c)), some (aI (h)), some (aN)]) rfl rfl ?_
    refine E_s (p' := 9) (st' := aN :: _) rfl rfl ?_
    refine E_s (p' := 37) rfl rfl ?_
    refine E_s (p' := 38) (st' := aI (-1) :: _) rfl rfl ?_
    refine E_ret rfl rfl ?_
    exact fin_out hS q hr
theorem C_tear {S : Nat → RD} (hS : CS S m) (q : ∀ m1, CS (on1 S r (-2) (oTear c h)).2 m1 → Mo m m1 → Q (some (aI (on1 S r (-2) (oTear c h)).1)) (m1, tl len)) : E 31 0 [some (aA 1), some (aI (r)), some (aI (c)), some (aI (h)), none] [] (m, tl len) Q := by
  refine E_s (p' := 1) (st' := aA 1 :: _) rfl rfl ?_
  refine E_s (p' := 2) (st' := aI (r) :: _) rfl rfl ?_
  refine E_callV (k' := 12) (a := 1) (r := []) (L0 := [some (aA 1), some (aI (r))]) rfl rfl rfl rfl rfl rfl rfl rfl rfl rfl ?_
  refine c_recordOf' (fun i a hi hr ha hR => ?_) (fun hr => ?_)
  · refine E_go (p' := 5) (L' := [some (aA 1), some (aI (r)), some (aI (c)), some (aI (h)), none]) (st' := [aA a]) rfl rfl rfl ?_
    obtain ⟨hV, hC, hrd⟩ := hS i hi
    rw [← ha] at hC hrd
    have hn60 := hV.1
    have hab := isR_b hR
    have hs40 := hV.2.2.2.2.1
    refine E_s (p' := 7) (L' := [some (aA 1), some (aI (r)), some (aI (c)), some (aI (h)), some (aA a)]) rfl rfl ?_
    refine E_s (p' := 9) (st' := aA a :: _) rfl rfl ?_
    refine E_s (p' := 12) rfl rfl ?_
    refine E_s (p' := 14) (st' := aA a :: _) rfl rfl ?_
    refine E_gA (b := a + 1) rfl rfl rfl (kR_0 hR) (hR_0_0 hR) rfl ?_
    refine E_s (p' := 18) (st' := aI (c) :: _) rfl rfl ?_
    refine E_callV (k' := 17) (a := a + 1) (r := []) (L0 := [some (aA (a + 1)), some (aI (c))]) rfl rfl rfl rfl rfl (kR_1 hR) rfl rfl rfl rfl ?_
    refine c_has hR hC (fun ci he_ci hc_ci => ?_) (fun hno => ?_)
    · refine E_go (p' := 21) (L' := [some (aA 1), some (aI (r)), some (aI (c)), some (aI (h)), some (aA a)]) (st' := [aI 1]) rfl rfl rfl ?_
      subst he_ci
      refine E_s (p' := 24) rfl rfl ?_
      refine E_s (p' := 26) (st' := aA a :: _) rfl rfl ?_
      refine E_gA (b := a + 1) rfl rfl rfl (kR_0 hR) (hR_0_0 hR) rfl ?_
      refine E_s (p' := 30) (st' := aI ((ci : Nat) : Int) :: _) rfl rfl ?_
      refine E_s (p' := 31) (st' := aI (h) :: _) rfl rfl ?_
      refine E_callV (k' := 22) (a := a + 1) (r := []) (L0 := [some (aA (a + 1)), some (aI ((ci : Nat) : Int)), some (aI (h))]) rfl rfl rfl rfl rfl (kR_1 hR) rfl rfl rfl rfl ?_
      refine c_isWhole hR hC hV hc_ci (fun hw1 => ?_) (fun hw0 => ?_)
      · refine E_go (p' := 34) (L' := [some (aA 1), some (aI (r)), some (aI ((ci : Nat) : Int)), some (aI (h)), some (aA a)]) (st' := [aI 1]) rfl rfl rfl ?_
        refine E_s (p' := 40) rfl rfl ?_
        obtain ⟨hn, eh⟩ : ∃ x : Nat, h = (x : Int) := ⟨h.toNat, by unfold whl at hw1; omega⟩
        subst eh
        refine E_s (p' := 42) (st' := aA a :: _) rfl rfl ?_
        refine E_gA (b := a + 1) rfl rfl rfl (kR_0 hR) (hR_0_0 hR) rfl ?_
        refine E_s (p' := 46) (st' := aI ((ci : Nat) : Int) :: _) rfl rfl ?_
        refine E_s (p' := 47) (st' := aI ((hn : Nat) : Int) :: _) rfl rfl ?_
        refine E_callV (k' := 32) (a := a + 1) (r := []) (L0 := [some (aA (a + 1)), some (aI ((ci : Nat) : Int)), some (aI ((hn : Nat) : Int))]) rfl rfl rfl rfl rfl (kR_1 hR) rfl rfl rfl rfl ?_
        refine c_cutAt hR hC hV hc_ci (h9 := hn) (fun m1 hC1 hF1 => ?_)
        refine E_go (p' := 50) (L' := [some (aA 1), some (aI (r)), some (aI ((ci : Nat) : Int)), some (aI ((hn : Nat) : Int)), some (aA a)]) (st' := []) rfl rfl rfl ?_
        refine E_s (p' := 52) (st' := aA a :: _) rfl rfl ?_
        refine E_callV (k' := 15) (a := a) (r := []) (L0 := [some (aA a)]) rfl rfl rfl rfl rfl (kR_0 hR) rfl rfl rfl rfl ?_
        refine c_changed hR ?_
        refine E_go (p' := 55) (L' := [some (aA 1), some (aI (r)), some (aI ((ci : Nat) : Int)), some (aI ((hn : Nat) : Int)), some (aA a)]) (st' := []) rfl rfl rfl ?_
        refine E_s (p' := 57) (st' := aA a :: _) rfl rfl ?_
        refine E_gA (b := a + 1) rfl rfl rfl (kR_0 hR) (hR_0_0 hR) rfl ?_
        refine E_gA (b := a + 7) rfl rfl rfl (kR_1 hR) (hR_1_5 hR) rfl ?_
        refine E_s (p' := 64) (st' := aI ((ci : Nat) : Int) :: _) rfl rfl ?_
        refine E_ald (e := ci) (N := 60) (v := ((posn (Cp (S i) ci) hn (Ck (S i) ci) : Nat) : Int)) rfl (kR_7 hR) (rfl) (by omega) ((up2_ne (by omega)).trans ((up2_ne (by omega)).trans (((CR_7 hC1 hc_ci).trans (by show ((upf (Ck (S i)) ci _ ci : Nat) : Int) = _; rw [upf_eq]))))) ?_
        refine E_ret rfl rfl ?_
        have hps := posn_sp (Cp (S i) ci) hn (Ck (S i) ci)
        refine fin_in hS hi hr ha q (by unfold oTear; (try simp only [Int.toNat_natCast]); rw [cif_pos ⟨(by unfold inC; omega), hw1⟩]; try rfl) ⟨V_tr hV hc_ci (by unfold whl at hw1; omega) (posn_le _ _ _) hps.1, hC1.of (fun b j g1 g2 g3 => (up2_o (by omega)).trans (up2_o (by omega))), Or.inl ((up2_sl (by decide)).trans up2_eq)⟩ (fun b j hb => (up2_ne (by omega)).trans ((up2_ne (by omega)).trans (hF1 _ _ (by omega))))
      · refine E_go (p' := 34) (L' := [some (aA 1), some (aI (r)), some (aI ((ci : Nat) : Int)), some (aI (h)), some (aA a)]) (st' := [aI 0]) rfl rfl rfl ?_
        refine E_s (p' := 37) rfl rfl ?_
        refine E_s (p' := 39) (st' := aI (-2) :: _) rfl rfl ?_
        refine E_ret rfl rfl ?_
        exact fin_same hS hi hr q (by unfold oTear; (try simp only [Int.toNat_natCast]); rw [cif_neg (by first | (unfold inC; omega) | exact fun g => hw0 g.2)])
    · refine E_go (p' := 21) (L' := [some (aA 1), some (aI (r)), some (aI (c)), some (aI (h)), some (aA a)]) (st' := [aI 0]) rfl rfl rfl ?_
      refine E_s (p' := 37) rfl rfl ?_
      refine E_s (p' := 39) (st' := aI (-2) :: _) rfl rfl ?_
      refine E_ret rfl rfl ?_
      exact fin_same hS hi hr q (by unfold oTear; (try simp only [Int.toNat_natCast]); rw [cif_neg (by first | (unfold inC; omega) | exact fun g => hw0 g.2)])
  · refine E_go (p' := 5) (L' := [some (aA 1), some (aI (r)), some (aI (c)), some (aI (h)), none]) (st' := [aN]) rfl rfl rfl ?_
    refine E_s (p' := 7) (L' := [some (aA 1), some (aI (r)), some (aI (c)), some (aI (h)), some (aN)]) rfl rfl ?_
    refine E_s (p' := 9) (st' := aN :: _) rfl rfl ?_
    refine E_s (p' := 37) rfl rfl ?_
    refine E_s (p' := 39) (st' := aI (-2) :: _) rfl rfl ?_
    refine E_ret rfl rfl ?_
    exact fin_out hS q hr
theorem C_gap {S : Nat → RD} (hS : CS S m) (q : ∀ m1, CS (on1 S r (-2) (oGap c)).2 m1 → Mo m m1 → Q (some (aI (on1 S r (-2) (oGap c)).1)) (m1, tl len)) : E 59 0 [some (aA 1), some (aI (r)), some (aI (c)), none, none] [] (m, tl len) Q := by
  refine E_s (p' := 1) (st' := aA 1 :: _) rfl rfl ?_
  refine E_s (p' := 2) (st' := aI (r) :: _) rfl rfl ?_
  refine E_callV (k' := 12) (a := 1) (r := []) (L0 := [some (aA 1), some (aI (r))]) rfl rfl rfl rfl rfl rfl rfl rfl rfl rfl ?_
  refine c_recordOf' (fun i a hi hr ha hR => ?_) (fun hr => ?_)
  · refine E_go (p' := 5) (L' := [some (aA 1), some (aI (r)), some (aI (c)), none, none]) (st' := [aA a]) rfl rfl rfl ?_
    obtain ⟨hV, hC, hrd⟩ := hS i hi
    rw [← ha] at hC hrd
    have hn60 := hV.1
    have hab := isR_b hR
    have hs40 := hV.2.2.2.2.1
    refine E_s (p' := 6) (L' := [some (aA 1), some (aI (r)), some (aI (c)), some (aA a), none]) rfl rfl ?_
    refine E_s (p' := 7) (st' := aA a :: _) rfl rfl ?_
    refine E_s (p' := 10) rfl rfl ?_
    refine E_s (p' := 11) (st' := aI (c) :: _) rfl rfl ?_
    refine E_s (p' := 12) (st' := aI 1 :: _) rfl rfl ?_
    refine E_icmp_lt (x := (c)) (y := 1) rfl (by decide) (fun h_1 => ?_) (fun h_1 => ?_)
    · refine E_go (p' := 21) (L' := [some (aA 1), some (aI (r)), some (aI (c)), some (aA a), none]) (st' := []) rfl rfl rfl ?_
      refine E_s (p' := 23) (st' := aI (-2) :: _) rfl rfl ?_
      refine E_ret rfl rfl ?_
      exact fin_same hS hi hr q (by unfold oGap; rw [cif_neg (by omega)])
    · refine E_go (p' := 15) (L' := [some (aA 1), some (aI (r)), some (aI (c)), some (aA a), none]) (st' := []) rfl rfl rfl ?_
      refine E_s (p' := 16) (st' := aI (c) :: _) rfl rfl ?_
      refine E_s (p' := 18) (st' := aI 100 :: _) rfl rfl ?_
      refine E_icmp_le (x := (c)) (y := 100) rfl (by decide) (fun h_2 => ?_) (fun h_2 => ?_)
      · refine E_go (p' := 24) (L' := [some (aA 1), some (aI (r)), some (aI (c)), some (aA a), none]) (st' := []) rfl rfl rfl ?_
        refine E_s (p' := 25) (st' := aA a :: _) rfl rfl ?_
        refine E_gI (v := ((Cq (S i) : Nat) : Int)) rfl rfl rfl (kR_0 hR) hC.2.1 ?_
        refine E_s (p' := 30) (L' := [some (aA 1), some (aI (r)), some (aI (c)), some (aA a), some (aI ((Cq (S i) : Nat) : Int))]) rfl rfl ?_
        refine E_s (p' := 31) (st' := aI (c) :: _) rfl rfl ?_
        refine E_s (p' := 33) (st' := aI ((Cq (S i) : Nat) : Int) :: _) rfl rfl ?_
        refine E_icmp_eq (x := (c)) (y := ((Cq (S i) : Nat) : Int)) rfl (by decide) (fun h_3 => ?_) (fun h_3 => ?_)
        · refine E_go (p' := 45) (L' := [some (aA 1), some (aI (r)), some (aI (c)), some (aA a), some (aI ((Cq (S i) : Nat) : Int))]) (st' := []) rfl rfl rfl ?_
          refine E_s (p' := 47) (st' := aI ((Cq (S i) : Nat) : Int) :: _) rfl rfl ?_
          refine E_ret rfl rfl ?_
          exact fin_same hS hi hr q (by unfold oGap; rw [cif_pos (by omega), show c.toNat = Cq (S i) by omega]; rfl)
        · refine E_go (p' := 36) (L' := [some (aA 1), some (aI (r)), some (aI (c)), some (aA a), some (aI ((Cq (S i) : Nat) : Int))]) (st' := []) rfl rfl rfl ?_
          refine E_s (p' := 37) (st' := aA a :: _) rfl rfl ?_
          refine E_s (p' := 38) (st' := aI (c) :: _) rfl rfl ?_
          refine E_pI rfl rfl rfl (kR_0 hR) (Or.inl rfl) ?_
          refine E_s (p' := 42) (st' := aA a :: _) rfl rfl ?_
          refine E_callV (k' := 15) (a := a) (r := []) (L0 := [some (aA a)]) rfl rfl rfl rfl rfl (kR_0 hR) rfl rfl rfl rfl ?_
          refine c_changed hR ?_
          refine E_go (p' := 45) (L' := [some (aA 1), some (aI (r)), some (aI (c)), some (aA a), some (aI ((Cq (S i) : Nat) : Int))]) (st' := []) rfl rfl rfl ?_
          refine E_s (p' := 47) (st' := aI ((Cq (S i) : Nat) : Int) :: _) rfl rfl ?_
          refine E_ret rfl rfl ?_
          exact fin_in hS hi hr ha q (by unfold oGap; rw [cif_pos (by omega)]) ⟨V_gp hV (by omega), CR.gp hC (((up2_sl (by omega)).trans ((up2_sl (by omega)).trans (up2_eq))).trans (by omega)) (fun b j h1 h2 => ((up2_ne (by omega)).trans ((up2_ne (by omega)).trans (up2_ne (by omega))))), Or.inl ((up2_sl (by omega)).trans (up2_eq))⟩ (fun b j hb => ((up2_ne (by omega)).trans ((up2_ne (by omega)).trans (up2_ne (by omega)))))
      · refine E_go (p' := 21) (L' := [some (aA 1), some (aI (r)), some (aI (c)), some (aA a), none]) (st' := []) rfl rfl rfl ?_
        refine E_s (p' := 23) (st' := aI (-2) :: _) rfl rfl ?_
        refine E_ret rfl rfl ?_
        exact fin_same hS hi hr q (by unfold oGap; rw [cif_neg (by omega)])
  · refine E_go (p' := 5) (L' := [some (aA 1), some (aI (r)), some (aI (c)), none, none]) (st' := [aN]) rfl rfl rfl ?_
    refine E_s (p' := 6) (L' := [some (aA 1), some (aI (r)), some (aI (c)), some (aN), none]) rfl rfl ?_
    refine E_s (p' := 7) (st' := aN :: _) rfl rfl ?_
    refine E_s (p' := 21) rfl rfl ?_
    refine E_s (p' := 23) (st' := aI (-2) :: _) rfl rfl ?_
    refine E_ret rfl rfl ?_
    exact fin_out hS q hr
theorem C_clear {S : Nat → RD} (hS : CS S m) (q : ∀ m1, CS (on1 S r (-2) oClear).2 m1 → Mo m m1 → Q (some (aI (on1 S r (-2) oClear).1)) (m1, tl len)) : E 60 0 [some (aA 1), some (aI (r)), none, none] [] (m, tl len) Q := by
  refine E_s (p' := 1) (st' := aA 1 :: _) rfl rfl ?_
  refine E_s (p' := 2) (st' := aI (r) :: _) rfl rfl ?_
  refine E_callV (k' := 12) (a := 1) (r := []) (L0 := [some (aA 1), some (aI (r))]) rfl rfl rfl rfl rfl rfl rfl rfl rfl rfl ?_
  refine c_recordOf' (fun i a hi hr ha hR => ?_) (fun hr => ?_)
  · refine E_go (p' := 5) (L' := [some (aA 1), some (aI (r)), none, none]) (st' := [aA a]) rfl rfl rfl ?_
    obtain ⟨hV, hC, hrd⟩ := hS i hi
    rw [← ha] at hC hrd
    have hn60 := hV.1
    have hab := isR_b hR
    have hs40 := hV.2.2.2.2.1
    refine E_s (p' := 6) (L' := [some (aA 1), some (aI (r)), some (aA a), none]) rfl rfl ?_
    refine E_s (p' := 7) (st' := aA a :: _) rfl rfl ?_
    refine E_s (p' := 13) rfl rfl ?_
    refine E_s (p' := 14) (st' := aA a :: _) rfl rfl ?_
    refine E_gA (b := a + 1) rfl rfl rfl (kR_0 hR) (hR_0_0 hR) rfl ?_
    refine E_gI (v := ((Cn (S i) : Nat) : Int)) rfl rfl rfl (kR_1 hR) hC.1 ?_
    refine E_s (p' := 21) (L' := [some (aA 1), some (aI (r)), some (aA a), some (aI ((Cn (S i) : Nat) : Int))]) rfl rfl ?_
    refine E_s (p' := 22) (st' := aA a :: _) rfl rfl ?_
    refine E_callV (k' := 61) (a := a) (r := []) (L0 := [some (aA a)]) rfl rfl rfl rfl rfl (kR_0 hR) rfl rfl rfl rfl ?_
    refine c_makeEmpty (R := S i) hR (fun m1 hC1 h71 hF1 => ?_)
    refine E_go (p' := 25) (L' := [some (aA 1), some (aI (r)), some (aA a), some (aI ((Cn (S i) : Nat) : Int))]) (st' := []) rfl rfl rfl ?_
    refine E_s (p' := 26) (st' := aI ((Cn (S i) : Nat) : Int) :: _) rfl rfl ?_
    refine E_ret rfl rfl ?_
    exact fin_in hS hi hr ha q rfl ⟨V_clr, hC1, Or.inl h71⟩ (hF1.wide (by omega) (by omega))
  · refine E_go (p' := 5) (L' := [some (aA 1), some (aI (r)), none, none]) (st' := [aN]) rfl rfl rfl ?_
    refine E_s (p' := 6) (L' := [some (aA 1), some (aI (r)), some (aN), none]) rfl rfl ?_
    refine E_s (p' := 7) (st' := aN :: _) rfl rfl ?_
    refine E_s (p' := 10) rfl rfl ?_
    refine E_s (p' := 12) (st' := aI (-2) :: _) rfl rfl ?_
    refine E_ret rfl rfl ?_
    exact fin_out hS q hr
theorem C_sum {S : Nat → RD} (hS : CS S m) (q : ∀ m1, CS (on1 S r (-2) (oSum c)).2 m1 → Mo m m1 → Q (some (aI (on1 S r (-2) (oSum c)).1)) (m1, tl len)) : E 75 0 [some (aA 1), some (aI (r)), some (aI (c)), none] [] (m, tl len) Q := by
  refine E_s (p' := 1) (st' := aA 1 :: _) rfl rfl ?_
  refine E_s (p' := 2) (st' := aI (r) :: _) rfl rfl ?_
  refine E_callV (k' := 12) (a := 1) (r := []) (L0 := [some (aA 1), some (aI (r))]) rfl rfl rfl rfl rfl rfl rfl rfl rfl rfl ?_
  refine c_recordOf' (fun i a hi hr ha hR => ?_) (fun hr => ?_)
  · refine E_go (p' := 5) (L' := [some (aA 1), some (aI (r)), some (aI (c)), none]) (st' := [aA a]) rfl rfl rfl ?_
    obtain ⟨hV, hC, hrd⟩ := hS i hi
    rw [← ha] at hC hrd
    have hn60 := hV.1
    have hab := isR_b hR
    have hs40 := hV.2.2.2.2.1
    refine E_s (p' := 6) (L' := [some (aA 1), some (aI (r)), some (aI (c)), some (aA a)]) rfl rfl ?_
    refine E_s (p' := 7) (st' := aA a :: _) rfl rfl ?_
    refine E_s (p' := 10) rfl rfl ?_
    refine E_s (p' := 11) (st' := aA a :: _) rfl rfl ?_
    refine E_gA (b := a + 1) rfl rfl rfl (kR_0 hR) (hR_0_0 hR) rfl ?_
    refine E_s (p' := 15) (st' := aI (c) :: _) rfl rfl ?_
    refine E_callV (k' := 17) (a := a + 1) (r := []) (L0 := [some (aA (a + 1)), some (aI (c))]) rfl rfl rfl rfl rfl (kR_1 hR) rfl rfl rfl rfl ?_
    refine c_has hR hC (fun ci he_ci hc_ci => ?_) (fun hno => ?_)
    · refine E_go (p' := 18) (L' := [some (aA 1), some (aI (r)), some (aI (c)), some (aA a)]) (st' := [aI 1]) rfl rfl rfl ?_
      subst he_ci
      refine E_s (p' := 24) rfl rfl ?_
      refine E_s (p' := 25) (st' := aA a :: _) rfl rfl ?_
      refine E_gA (b := a + 9) rfl rfl rfl (kR_0 hR) (hR_0_1 hR) rfl ?_
      refine E_gI (v := ((Sn (S i) : Nat) : Int)) rfl rfl rfl (kR_9 hR) (CRS hC) ?_
      refine E_s (p' := 33) (st' := aI 40 :: _) rfl rfl ?_
      refine E_icmp_lt (x := ((Sn (S i) : Nat) : Int)) (y := 40) rfl (by decide) (fun h_1 => ?_) (fun h_1 => ?_)
      · refine E_go (p' := 39) (L' := [some (aA 1), some (aI (r)), some (aI ((ci : Nat) : Int)), some (aA a)]) (st' := []) rfl rfl rfl ?_
        refine E_s (p' := 40) (st' := aA a :: _) rfl rfl ?_
        refine E_gA (b := a + 9) rfl rfl rfl (kR_0 hR) (hR_0_1 hR) rfl ?_
        refine E_s (p' := 44) (st' := aI ((ci : Nat) : Int) :: _) rfl rfl ?_
        refine E_callV (k' := 76) (a := a + 9) (r := []) (L0 := [some (aA (a + 9)), some (aI ((ci : Nat) : Int))]) rfl rfl rfl rfl rfl (kR_9 hR) rfl rfl rfl rfl ?_
        refine c_begin hR hC hV (by omega) (fun m1 hC1 hF1 => ?_)
        refine E_go (p' := 47) (L' := [some (aA 1), some (aI (r)), some (aI ((ci : Nat) : Int)), some (aA a)]) (st' := []) rfl rfl rfl ?_
        refine E_s (p' := 48) (st' := aA a :: _) rfl rfl ?_
        refine E_callV (k' := 15) (a := a) (r := []) (L0 := [some (aA a)]) rfl rfl rfl rfl rfl (kR_0 hR) rfl rfl rfl rfl ?_
        refine c_changed hR ?_
        refine E_go (p' := 51) (L' := [some (aA 1), some (aI (r)), some (aI ((ci : Nat) : Int)), some (aA a)]) (st' := []) rfl rfl rfl ?_
        refine E_s (p' := 52) (st' := aA a :: _) rfl rfl ?_
        refine E_gA (b := a + 9) rfl rfl rfl (kR_0 hR) (hR_0_1 hR) rfl ?_
        refine E_gI (v := ((Sn (S i) + 1 : Nat) : Int)) rfl rfl rfl (kR_9 hR) ((up2_ne (by omega)).trans ((up2_ne (by omega)).trans ((CRS hC1)))) ?_
        refine E_s (p' := 59) (st' := aI 1 :: _) rfl rfl ?_
        refine E_sub (v := ((Sn (S i) : Nat) : Int)) rfl (by omega) (by omega) ?_
        refine E_ret rfl rfl ?_
        refine fin_in hS hi hr ha q (by unfold oSum; (try simp only [Int.toNat_natCast]); rw [cif_pos (by unfold inC; omega), cif_neg (by omega)]; try rfl) ⟨V_sm hV (by omega) (fun s hs => ?_) (fun s k hs hk => ?_), hC1.of (fun b j g1 g2 g3 => (up2_o (by omega)).trans (up2_o (by omega))), Or.inl ((up2_sl (by decide)).trans up2_eq)⟩ (fun b j hb => (up2_ne (by omega)).trans ((up2_ne (by omega)).trans (hF1 _ _ (by omega))))
        · by_cases g : s = Sn (S i)
          · subst g; rw [upf_eq, upf_eq]; exact ⟨hc_ci, by omega⟩
          · rw [upf_ne g, upf_ne g]; exact hV.2.2.2.2.2.1 s (by omega)
        · by_cases g : s = Sn (S i)
          · subst g; rw [upf_eq] at hk; omega
          · rw [upf_ne g] at hk; exact hV.2.2.2.2.2.2 s k (by omega) hk
      · refine E_go (p' := 36) (L' := [some (aA 1), some (aI (r)), some (aI ((ci : Nat) : Int)), some (aA a)]) (st' := []) rfl rfl rfl ?_
        refine E_s (p' := 38) (st' := aI (-3) :: _) rfl rfl ?_
        refine E_ret rfl rfl ?_
        exact fin_same hS hi hr q (by unfold oSum; (try simp only [Int.toNat_natCast]); rw [cif_pos (by unfold inC; omega), cif_pos (by omega)])
    · refine E_go (p' := 18) (L' := [some (aA 1), some (aI (r)), some (aI (c)), some (aA a)]) (st' := [aI 0]) rfl rfl rfl ?_
      refine E_s (p' := 21) rfl rfl ?_
      refine E_s (p' := 23) (st' := aI (-2) :: _) rfl rfl ?_
      refine E_ret rfl rfl ?_
      exact fin_same hS hi hr q (by unfold oSum; (try simp only [Int.toNat_natCast]); rw [cif_neg (by unfold inC; omega)])
  · refine E_go (p' := 5) (L' := [some (aA 1), some (aI (r)), some (aI (c)), none]) (st' := [aN]) rfl rfl rfl ?_
    refine E_s (p' := 6) (L' := [some (aA 1), some (aI (r)), some (aI (c)), some (aN)]) rfl rfl ?_
    refine E_s (p' := 7) (st' := aN :: _) rfl rfl ?_
    refine E_s (p' := 21) rfl rfl ?_
    refine E_s (p' := 23) (st' := aI (-2) :: _) rfl rfl ?_
    refine E_ret rfl rfl ?_
    exact fin_out hS q hr
theorem C_drop {S : Nat → RD} (hS : CS S m) (q : ∀ m1, CS (on1 S r (-2) oDrop).2 m1 → Mo m m1 → Q (some (aI (on1 S r (-2) oDrop).1)) (m1, tl len)) : E 81 0 [some (aA 1), some (aI (r)), none] [] (m, tl len) Q := by
  refine E_s (p' := 1) (st' := aA 1 :: _) rfl rfl ?_
  refine E_s (p' := 2) (st' := aI (r) :: _) rfl rfl ?_
  refine E_callV (k' := 12) (a := 1) (r := []) (L0 := [some (aA 1), some (aI (r))]) rfl rfl rfl rfl rfl rfl rfl rfl rfl rfl ?_
  refine c_recordOf' (fun i a hi hr ha hR => ?_) (fun hr => ?_)
  · refine E_go (p' := 5) (L' := [some (aA 1), some (aI (r)), none]) (st' := [aA a]) rfl rfl rfl ?_
    obtain ⟨hV, hC, hrd⟩ := hS i hi
    rw [← ha] at hC hrd
    have hn60 := hV.1
    have hab := isR_b hR
    have hs40 := hV.2.2.2.2.1
    refine E_s (p' := 6) (L' := [some (aA 1), some (aI (r)), some (aA a)]) rfl rfl ?_
    refine E_s (p' := 7) (st' := aA a :: _) rfl rfl ?_
    refine E_s (p' := 13) rfl rfl ?_
    refine E_s (p' := 14) (st' := aA a :: _) rfl rfl ?_
    refine E_gA (b := a + 9) rfl rfl rfl (kR_0 hR) (hR_0_1 hR) rfl ?_
    refine E_gI (v := ((Sn (S i) : Nat) : Int)) rfl rfl rfl (kR_9 hR) (CRS hC) ?_
    refine E_if_ne (x := ((Sn (S i) : Nat) : Int)) rfl (by decide) (fun h_1 => ?_) (fun h_1 => ?_)
    · refine E_go (p' := 25) (L' := [some (aA 1), some (aI (r)), some (aA a)]) (st' := []) rfl rfl rfl ?_
      refine E_s (p' := 26) (st' := aA a :: _) rfl rfl ?_
      refine E_gA (b := a + 9) rfl rfl rfl (kR_0 hR) (hR_0_1 hR) rfl ?_
      refine E_s (p' := 30) (st' := aA (a + 9) :: _) rfl rfl ?_
      refine E_gI (v := ((Sn (S i) : Nat) : Int)) rfl rfl rfl (kR_9 hR) (CRS hC) ?_
      refine E_s (p' := 34) (st' := aI 1 :: _) rfl rfl ?_
      refine E_sub (v := ((Sn (S i) : Int) - 1)) rfl (by omega) (by omega) ?_
      refine E_pI rfl rfl rfl (kR_9 hR) (Or.inl rfl) ?_
      refine E_s (p' := 39) (st' := aA a :: _) rfl rfl ?_
      refine E_callV (k' := 15) (a := a) (r := []) (L0 := [some (aA a)]) rfl rfl rfl rfl rfl (kR_0 hR) rfl rfl rfl rfl ?_
      refine c_changed hR ?_
      refine E_go (p' := 42) (L' := [some (aA 1), some (aI (r)), some (aA a)]) (st' := []) rfl rfl rfl ?_
      refine E_s (p' := 43) (st' := aA a :: _) rfl rfl ?_
      refine E_gA (b := a + 9) rfl rfl rfl (kR_0 hR) (hR_0_1 hR) rfl ?_
      refine E_gI (v := ((Sn (S i) : Int) - 1)) rfl rfl rfl (kR_9 hR) ((up2_ne (by omega)).trans ((up2_ne (by omega)).trans (up2_eq))) ?_
      refine E_ret rfl rfl ?_
      refine fin_in hS hi hr ha q (by unfold oDrop; rw [cif_neg (by omega)]; exact Prod.ext (show ((Sn (S i) - 1 : Nat) : Int) = _ by omega) rfl) ⟨V_sm hV (by have := hV.2.2.2.2.1; omega) (fun s hs => hV.2.2.2.2.2.1 s (by omega)) (fun s k hs hk => hV.2.2.2.2.2.2 s k (by omega) hk), CR.sm hC (((up2_ne (by omega)).trans ((up2_ne (by omega)).trans (up2_eq))).trans (by omega)) (fun s hs => ⟨((up2_ne (by omega)).trans ((up2_ne (by omega)).trans (up2_ne (by omega)))).trans (CR_10 hC (by omega)), ((up2_ne (by omega)).trans ((up2_ne (by omega)).trans (up2_ne (by omega)))).trans (CR_11 hC (by omega))⟩) (fun s k hs hk => ((up2_ne (by omega)).trans ((up2_ne (by omega)).trans (up2_ne (by omega)))).trans (CR_12 hC (by omega) hk rfl)) (fun b j h1 h2 h3 => (up2_o (by omega)).trans ((up2_o (by omega)).trans (up2_o (by omega)))), Or.inl ((up2_sl (by decide)).trans up2_eq)⟩ (fun b j hb => ((up2_ne (by omega)).trans ((up2_ne (by omega)).trans (up2_ne (by omega)))))
    · refine E_go (p' := 23) (L' := [some (aA 1), some (aI (r)), some (aA a)]) (st' := []) rfl rfl rfl ?_
      refine E_s (p' := 24) (st' := aI (-1) :: _) rfl rfl ?_
      refine E_ret rfl rfl ?_
      exact fin_same hS hi hr q (by unfold oDrop; rw [cif_pos (by omega)])
  · refine E_go (p' := 5) (L' := [some (aA 1), some (aI (r)), none]) (st' := [aN]) rfl rfl rfl ?_
    refine E_s (p' := 6) (L' := [some (aA 1), some (aI (r)), some (aN)]) rfl rfl ?_
    refine E_s (p' := 7) (st' := aN :: _) rfl rfl ?_
    refine E_s (p' := 10) rfl rfl ?_
    refine E_s (p' := 12) (st' := aI (-2) :: _) rfl rfl ?_
    refine E_ret rfl rfl ?_
    exact fin_out hS q hr
end
