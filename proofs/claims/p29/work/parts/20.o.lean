section
variable {len : Nat} {m0 : Mm} {Q : Option AV → Sx → Prop} {R : RD} {i c hn : Nat}
theorem yl_tear (hi : i < 4) (hM : MR R i m0) (hV : VR R) (hcc : c < Cn R) (hk : ∀ m1 : Mm, m1 131 (60 * i + c) = (hn : Int) → m1 132 (60 * i + c) = (posn (Cp R c) hn (Ck R c) : Int) → (∀ b z, ¬ (131 ≤ b ∧ b ≤ 132 ∧ z = 60 * i + c) → m1 b z = m0 b z) → E 140 116 [some (aA 124), some (aI (i : Int)), some (aI (c : Int)), some (aI (hn : Int)), some (aI ((60 * i + c : Nat) : Int))] [] (m1, tl len) Q) : ∀ (d : Nat) (n : Nat) (m : Mm), (n < d) → (n ≤ Ck R c) → (m 132 (60 * i + c) = (n : Int)) → (m 131 (60 * i + c) = (hn : Int)) → (∀ b z, ¬ (131 ≤ b ∧ b ≤ 132 ∧ z = 60 * i + c) → m b z = m0 b z) → (∀ e, n ≤ e → e < Ck R c → hn ≤ ht (Cp R c e)) → E 140 68 [some (aA 124), some (aI ((i : Nat) : Int)), some (aI ((c : Nat) : Int)), some (aI ((hn : Nat) : Int)), some (aI ((60 * i + c : Nat) : Int))] [] (m, tl len) Q := by
  intro d
  induction d with
  | zero => intro n m hd hj I0 I1 I2 I3; omega
  | succ d ih =>
    intro n m hd hj I0 I1 I2 I3
    have hn60 := hV.1
    have hk30 := (hV.2.2.1 c hcc).2.2.2.2.2
    refine E_s (p' := 69) (st' := aA 124 :: _) rfl rfl ?_
    refine E_gA (b := 132) rfl rfl rfl rfl rfl rfl ?_
    refine E_s (p' := 74) (st' := aI ((60 * i + c : Nat) : Int) :: _) rfl rfl ?_
    refine E_ald (e := 60 * i + c) (N := 240) (v := ((n : Nat) : Int)) rfl rfl (rfl) (by omega) I0 ?_
    refine E_if_le (x := ((n : Nat) : Int)) rfl (by decide) (fun h_1 => ?_) (fun h_1 => ?_)
    · refine E_go (p' := 116) (L' := [some (aA 124), some (aI ((i : Nat) : Int)), some (aI ((c : Nat) : Int)), some (aI ((hn : Nat) : Int)), some (aI ((60 * i + c : Nat) : Int))]) (st' := []) rfl rfl rfl ?_
      have ep := posn_u (P := Cp R c) (h := hn) (n := Ck R c) (k := n) hj (fun e he => by
        first
          | omega
          | (rcases Nat.lt_or_ge e np with g | g
             · have := hV.mono hcc g (by omega); omega
             · rw [show e = np by omega]; omega)) (fun g => I3 n (Nat.le_refl _) g)
      rw [ep] at I0
      exact hk m I1 I0 I2
    · refine E_go (p' := 78) (L' := [some (aA 124), some (aI ((i : Nat) : Int)), some (aI ((c : Nat) : Int)), some (aI ((hn : Nat) : Int)), some (aI ((60 * i + c : Nat) : Int))]) (st' := []) rfl rfl rfl ?_
      obtain ⟨np, en⟩ : ∃ x, n = x + 1 := ⟨n - 1, by omega⟩
      refine E_s (p' := 79) (st' := aA 124 :: _) rfl rfl ?_
      refine E_gA (b := 133) rfl rfl rfl rfl rfl rfl ?_
      refine E_s (p' := 84) (st' := aI 30 :: _) rfl rfl ?_
      refine E_s (p' := 86) (st' := aI ((60 * i + c : Nat) : Int) :: _) rfl rfl ?_
      refine E_mul (v := ((1800 * i + 30 * c : Nat) : Int)) rfl (by omega) (by omega) ?_
      refine E_s (p' := 88) (st' := aA 124 :: _) rfl rfl ?_
      refine E_gA (b := 132) rfl rfl rfl rfl rfl rfl ?_
      refine E_s (p' := 93) (st' := aI ((60 * i + c : Nat) : Int) :: _) rfl rfl ?_
      refine E_ald (e := 60 * i + c) (N := 240) (v := ((n : Nat) : Int)) rfl rfl (rfl) (by omega) I0 ?_
      refine E_add (v := ((1800 * i + 30 * c + n : Nat) : Int)) rfl (by omega) (by omega) ?_
      refine E_s (p' := 96) (st' := aI 1 :: _) rfl rfl ?_
      refine E_sub (v := (1800 * (i : Int) + 30 * (c : Int) + (n : Int) - 1)) rfl (by omega) (by omega) ?_
      refine E_ald (e := (1800 * (i : Int) + 30 * (c : Int) + (n : Int) - 1).toNat) (N := 7200) (v := ((ht (Cp R c np) : Nat) : Int)) rfl rfl (by omega) (by omega) ((I2 _ _ (by omega)).trans (MR_133 hM hcc (by omega) (by omega))) ?_
      refine E_s (p' := 99) (st' := aI ((hn : Nat) : Int) :: _) rfl rfl ?_
      refine E_icmp_lt (x := ((ht (Cp R c np) : Nat) : Int)) (y := ((hn : Nat) : Int)) rfl (by decide) (fun h_2 => ?_) (fun h_2 => ?_)
      · refine E_go (p' := 116) (L' := [some (aA 124), some (aI ((i : Nat) : Int)), some (aI ((c : Nat) : Int)), some (aI ((hn : Nat) : Int)), some (aI ((60 * i + c : Nat) : Int))]) (st' := []) rfl rfl rfl ?_
        have ep := posn_u (P := Cp R c) (h := hn) (n := Ck R c) (k := n) hj (fun e he => by
          first
            | omega
            | (rcases Nat.lt_or_ge e np with g | g
               · have := hV.mono hcc g (by omega); omega
               · rw [show e = np by omega]; omega)) (fun g => I3 n (Nat.le_refl _) g)
        rw [ep] at I0
        exact hk m I1 I0 I2
      · refine E_go (p' := 102) (L' := [some (aA 124), some (aI ((i : Nat) : Int)), some (aI ((c : Nat) : Int)), some (aI ((hn : Nat) : Int)), some (aI ((60 * i + c : Nat) : Int))]) (st' := []) rfl rfl rfl ?_
        refine E_s (p' := 103) (st' := aA 124 :: _) rfl rfl ?_
        refine E_gA (b := 132) rfl rfl rfl rfl rfl rfl ?_
        refine E_s (p' := 108) (st' := aI ((60 * i + c : Nat) : Int) :: _) rfl rfl ?_
        refine E_s (p' := 109) rfl rfl ?_
        refine E_ald (e := 60 * i + c) (N := 240) (v := ((n : Nat) : Int)) rfl rfl (rfl) (by omega) I0 ?_
        refine E_s (p' := 111) (st' := aI 1 :: _) rfl rfl ?_
        refine E_sub (v := ((n : Int) - 1)) rfl (by omega) (by omega) ?_
        refine E_ast (e := 60 * i + c) (N := 240) rfl rfl (rfl) (by omega) ?_
        refine E_s (p' := 68) rfl rfl ?_
        exact ih np _ (by omega) (by omega) (up2_eq.trans (by omega)) ((up2_ne (by omega)).trans I1) (fun b z g1 => (up2_o (by omega)).trans (I2 b z g1)) (fun e g1 g2 => by
          by_cases g : e = np
          · subst g; omega
          · exact I3 e (by omega) g2)
end
section
variable {len : Nat} {m : Mm} {Q : Option AV → Sx → Prop} {S : Nat → RD} {r c l g o h s t : Int}
theorem M_tear (hS : MS S m) (q : ∀ m1, MS (on1 S r (-2) (oTear c h)).2 m1 → Co1 m m1 → Q (some (aI (on1 S r (-2) (oTear c h)).1)) (m1, tl len)) : E 140 0 [some (aA 124), some (aI (r)), some (aI (c)), some (aI (h)), none] [] (m, tl len) Q := by
  refine E_s (p' := 1) (st' := aA 124 :: _) rfl rfl ?_
  refine E_s (p' := 2) (st' := aI (r) :: _) rfl rfl ?_
  refine E_s (p' := 3) (st' := aI (c) :: _) rfl rfl ?_
  refine E_callV (k' := 135) (a := 124) (r := []) (L0 := [some (aA 124), some (aI (r)), some (aI (c))]) rfl rfl rfl rfl rfl rfl rfl rfl rfl rfl ?_
  refine m_isCord hS (fun i ci hi hr hc hcc => ?_) (fun hno => ?_)
  · refine E_go (p' := 6) (L' := [some (aA 124), some (aI (r)), some (aI (c)), some (aI (h)), none]) (st' := [aI 1]) rfl rfl rfl ?_
    obtain ⟨hV, hM⟩ := hS i hi
    have hn60 := hV.1
    have hs40 := hV.2.2.2.2.1
    subst hr hc
    refine E_s (p' := 12) rfl rfl ?_
    have hctz := Ctz_c (S i) ci
    obtain ⟨⟨vg1, vg2⟩, ⟨vo1, vo2⟩, vc1, ⟨vl1, vl2⟩, vt1, vk1⟩ := hV.2.2.1 ci hcc
    refine E_s (p' := 14) (st' := aI 60 :: _) rfl rfl ?_
    refine E_s (p' := 15) (st' := aI ((i : Nat) : Int) :: _) rfl rfl ?_
    refine E_mul (v := ((60 * i : Nat) : Int)) rfl (by omega) (by omega) ?_
    refine E_s (p' := 17) (st' := aI ((ci : Nat) : Int) :: _) rfl rfl ?_
    refine E_add (v := ((60 * i + ci : Nat) : Int)) rfl (by omega) (by omega) ?_
    refine E_s (p' := 20) (L' := [some (aA 124), some (aI ((i : Nat) : Int)), some (aI ((ci : Nat) : Int)), some (aI (h)), some (aI ((60 * i + ci : Nat) : Int))]) rfl rfl ?_
    refine E_s (p' := 21) (st' := aI (h) :: _) rfl rfl ?_
    refine E_s (p' := 22) (st' := aI 1 :: _) rfl rfl ?_
    refine E_s (p' := 23) (st' := aA 124 :: _) rfl rfl ?_
    refine E_gA (b := 130) rfl rfl rfl rfl rfl rfl ?_
    refine E_s (p' := 28) (st' := aI ((60 * i + ci : Nat) : Int) :: _) rfl rfl ?_
    refine E_ald (e := 60 * i + ci) (N := 240) (v := ((Cl (S i) ci : Nat) : Int)) rfl rfl (rfl) (by omega) (MR_130 hM (by omega) (by omega)) ?_
    refine E_callL (p' := 32) (L0 := [some (aI (h)), some (aI 1), some (aI ((Cl (S i) ci : Nat) : Int))]) rfl rfl rfl ?_
    refine m_in (fun h_1 h_2 => ?_) (fun h_3 => ?_)
    · refine E_go (p' := 32) (L' := [some (aA 124), some (aI ((i : Nat) : Int)), some (aI ((ci : Nat) : Int)), some (aI (h)), some (aI ((60 * i + ci : Nat) : Int))]) (st' := [aI 1]) rfl rfl rfl ?_
      refine E_s (p' := 35) rfl rfl ?_
      refine E_s (p' := 36) (st' := aA 124 :: _) rfl rfl ?_
      refine E_gA (b := 131) rfl rfl rfl rfl rfl rfl ?_
      refine E_s (p' := 41) (st' := aI ((60 * i + ci : Nat) : Int) :: _) rfl rfl ?_
      refine E_ald (e := 60 * i + ci) (N := 240) (v := (((Ctz (S i) ci)))) rfl rfl (rfl) (by omega) (MR_131 hM (by omega) (by omega)) ?_
      refine E_s (p' := 43) (st' := aI (-1) :: _) rfl rfl ?_
      refine E_icmp_eq (x := (((Ctz (S i) ci)))) (y := (-1)) rfl (by decide) (fun h_4 => ?_) (fun h_4 => ?_)
      · refine E_go (p' := 60) (L' := [some (aA 124), some (aI ((i : Nat) : Int)), some (aI ((ci : Nat) : Int)), some (aI (h)), some (aI ((60 * i + ci : Nat) : Int))]) (st' := []) rfl rfl rfl ?_
        have hw1 : whl (S i) ci h := by unfold whl; omega
        obtain ⟨hn, eh⟩ : ∃ x : Nat, h = (x : Int) := ⟨h.toNat, by omega⟩
        subst eh
        refine E_s (p' := 61) (st' := aA 124 :: _) rfl rfl ?_
        refine E_gA (b := 131) rfl rfl rfl rfl rfl rfl ?_
        refine E_s (p' := 66) (st' := aI ((60 * i + ci : Nat) : Int) :: _) rfl rfl ?_
        refine E_s (p' := 67) (st' := aI ((hn : Nat) : Int) :: _) rfl rfl ?_
        refine E_ast (e := 60 * i + ci) (N := 240) rfl rfl (rfl) (by omega) ?_
        refine yl_tear hi hM hV hcc (fun m1 J0 J1 J2 => ?_) (Ck (S i) ci + 1) (Ck (S i) ci) _ (by omega) (by omega) ((up2_ne (by omega)).trans (MR_132 hM hcc rfl)) up2_eq (fun b z g1 => up2_o (by omega)) (fun e g1 g2 => absurd g1 (by omega))
        refine E_s (p' := 117) (st' := aA 124 :: _) rfl rfl ?_
        refine E_s (p' := 118) (st' := aI ((i : Nat) : Int) :: _) rfl rfl ?_
        refine E_callV (k' := 133) (a := 124) (r := []) (L0 := [some (aA 124), some (aI ((i : Nat) : Int))]) rfl rfl rfl rfl rfl rfl rfl rfl rfl rfl ?_
        refine m_changes (i := i) (by omega) ?_
        refine E_go (p' := 121) (L' := [some (aA 124), some (aI ((i : Nat) : Int)), some (aI ((ci : Nat) : Int)), some (aI ((hn : Nat) : Int)), some (aI ((60 * i + ci : Nat) : Int))]) (st' := []) rfl rfl rfl ?_
        refine E_s (p' := 122) (st' := aA 124 :: _) rfl rfl ?_
        refine E_gA (b := 132) rfl rfl rfl rfl rfl rfl ?_
        refine E_s (p' := 127) (st' := aI ((60 * i + ci : Nat) : Int) :: _) rfl rfl ?_
        refine E_ald (e := 60 * i + ci) (N := 240) (v := ((posn (Cp (S i) ci) hn (Ck (S i) ci) : Nat) : Int)) rfl rfl (rfl) (by omega) ((up2_ne (by omega)).trans (J1)) ?_
        refine E_ret rfl rfl ?_
        have hps := posn_sp (Cp (S i) ci) hn (Ck (S i) ci)
        refine finMx hS hi rfl q (by unfold oTear; simp only [Int.toNat_natCast]; rw [cif_pos ⟨(by unfold inC; omega), hw1⟩]) (V_tr hV hcc (by unfold whl at hw1; omega) (posn_le _ _ _) hps.1) (MR.trn hM (by unfold whl at hw1; omega) (posn_le _ _ _) ((up2_ne (by omega)).trans J0) ((up2_ne (by omega)).trans J1) (fun b z g1 g2 g3 => (up2_ne (by omega)).trans (J2 b z g3))) (fun b z hb => ?_) (fun b z hb => (up2_ne (by omega)).trans (J2 _ _ (by omega)))
        have hb2 : ¬ ((b < 125 ∨ 139 < b) ∨ (131 ≤ b ∧ b ≤ 132 ∧ 60 * i ≤ z ∧ z < 60 * i + 60)) := fun g => hb (by unfold blk; omega)
        exact (up2_ne (by omega)).trans (J2 _ _ (by omega))
      · refine E_go (p' := 46) (L' := [some (aA 124), some (aI ((i : Nat) : Int)), some (aI ((ci : Nat) : Int)), some (aI (h)), some (aI ((60 * i + ci : Nat) : Int))]) (st' := []) rfl rfl rfl ?_
        refine E_s (p' := 47) (st' := aI (h) :: _) rfl rfl ?_
        refine E_s (p' := 48) (st' := aA 124 :: _) rfl rfl ?_
        refine E_gA (b := 131) rfl rfl rfl rfl rfl rfl ?_
        refine E_s (p' := 53) (st' := aI ((60 * i + ci : Nat) : Int) :: _) rfl rfl ?_
        refine E_ald (e := 60 * i + ci) (N := 240) (v := (((Ctz (S i) ci)))) rfl rfl (rfl) (by omega) (MR_131 hM (by omega) (by omega)) ?_
        refine E_icmp_lt (x := (h)) (y := (((Ctz (S i) ci)))) rfl (by decide) (fun h_5 => ?_) (fun h_5 => ?_)
        · refine E_go (p' := 60) (L' := [some (aA 124), some (aI ((i : Nat) : Int)), some (aI ((ci : Nat) : Int)), some (aI (h)), some (aI ((60 * i + ci : Nat) : Int))]) (st' := []) rfl rfl rfl ?_
          have hw1 : whl (S i) ci h := by unfold whl; omega
          obtain ⟨hn, eh⟩ : ∃ x : Nat, h = (x : Int) := ⟨h.toNat, by omega⟩
          subst eh
          refine E_s (p' := 61) (st' := aA 124 :: _) rfl rfl ?_
          refine E_gA (b := 131) rfl rfl rfl rfl rfl rfl ?_
          refine E_s (p' := 66) (st' := aI ((60 * i + ci : Nat) : Int) :: _) rfl rfl ?_
          refine E_s (p' := 67) (st' := aI ((hn : Nat) : Int) :: _) rfl rfl ?_
          refine E_ast (e := 60 * i + ci) (N := 240) rfl rfl (rfl) (by omega) ?_
          refine yl_tear hi hM hV hcc (fun m1 J0 J1 J2 => ?_) (Ck (S i) ci + 1) (Ck (S i) ci) _ (by omega) (by omega) ((up2_ne (by omega)).trans (MR_132 hM hcc rfl)) up2_eq (fun b z g1 => up2_o (by omega)) (fun e g1 g2 => absurd g1 (by omega))
          refine E_s (p' := 117) (st' := aA 124 :: _) rfl rfl ?_
          refine E_s (p' := 118) (st' := aI ((i : Nat) : Int) :: _) rfl rfl ?_
          refine E_callV (k' := 133) (a := 124) (r := []) (L0 := [some (aA 124), some (aI ((i : Nat) : Int))]) rfl rfl rfl rfl rfl rfl rfl rfl rfl rfl ?_
          refine m_changes (i := i) (by omega) ?_
          refine E_go (p' := 121) (L' := [some (aA 124), some (aI ((i : Nat) : Int)), some (aI ((ci : Nat) : Int)), some (aI ((hn : Nat) : Int)), some (aI ((60 * i + ci : Nat) : Int))]) (st' := []) rfl rfl rfl ?_
          refine E_s (p' := 122) (st' := aA 124 :: _) rfl rfl ?_
          refine E_gA (b := 132) rfl rfl rfl rfl rfl rfl ?_
          refine E_s (p' := 127) (st' := aI ((60 * i + ci : Nat) : Int) :: _) rfl rfl ?_
          refine E_ald (e := 60 * i + ci) (N := 240) (v := ((posn (Cp (S i) ci) hn (Ck (S i) ci) : Nat) : Int)) rfl rfl (rfl) (by omega) ((up2_ne (by omega)).trans (J1)) ?_
          refine E_ret rfl rfl ?_
          have hps := posn_sp (Cp (S i) ci) hn (Ck (S i) ci)
          refine finMx hS hi rfl q (by unfold oTear; simp only [Int.toNat_natCast]; rw [cif_pos ⟨(by unfold inC; omega), hw1⟩]) (V_tr hV hcc (by unfold whl at hw1; omega) (posn_le _ _ _) hps.1) (MR.trn hM (by unfold whl at hw1; omega) (posn_le _ _ _) ((up2_ne (by omega)).trans J0) ((up2_ne (by omega)).trans J1) (fun b z g1 g2 g3 => (up2_ne (by omega)).trans (J2 b z g3))) (fun b z hb => ?_) (fun b z hb => (up2_ne (by omega)).trans (J2 _ _ (by omega)))
          have hb2 : ¬ ((b < 125 ∨ 139 < b) ∨ (131 ≤ b ∧ b ≤ 132 ∧ 60 * i ≤ z ∧ z < 60 * i + 60)) := fun g => hb (by unfold blk; omega)
          exact (up2_ne (by omega)).trans (J2 _ _ (by omega))
        · refine E_go (p' := 57) (L' := [some (aA 124), some (aI ((i : Nat) : Int)), some (aI ((ci : Nat) : Int)), some (aI (h)), some (aI ((60 * i + ci : Nat) : Int))]) (st' := []) rfl rfl rfl ?_
          refine E_s (p' := 59) (st' := aI (-2) :: _) rfl rfl ?_
          refine E_ret rfl rfl ?_
          exact finM_same hS hi rfl q (by unfold oTear; (try simp only [Int.toNat_natCast]); rw [cif_neg (fun g9 => absurd g9.2 (by unfold whl; omega))]) hS (fun _ _ _ => rfl)
    · refine E_go (p' := 32) (L' := [some (aA 124), some (aI ((i : Nat) : Int)), some (aI ((ci : Nat) : Int)), some (aI (h)), some (aI ((60 * i + ci : Nat) : Int))]) (st' := [aI 0]) rfl rfl rfl ?_
      refine E_s (p' := 57) rfl rfl ?_
      refine E_s (p' := 59) (st' := aI (-2) :: _) rfl rfl ?_
      refine E_ret rfl rfl ?_
      exact finM_same hS hi rfl q (by unfold oTear; (try simp only [Int.toNat_natCast]); rw [cif_neg (fun g9 => absurd g9.2 (by unfold whl; omega))]) hS (fun _ _ _ => rfl)
  · refine E_go (p' := 6) (L' := [some (aA 124), some (aI (r)), some (aI (c)), some (aI (h)), none]) (st' := [aI 0]) rfl rfl rfl ?_
    refine E_s (p' := 9) rfl rfl ?_
    refine E_s (p' := 11) (st' := aI (-2) :: _) rfl rfl ?_
    refine E_ret rfl rfl ?_
    rcases hno with hr | ⟨i, hi, hr, hno⟩
    · exact finM_out hS q hr
    · exact finM_same hS hi hr q (by unfold oTear; rw [cif_neg (fun g9 => hno g9.1)]) hS (fun _ _ _ => rfl)
theorem M_sum (hS : MS S m) (q : ∀ m1, MS (on1 S r (-2) (oSum c)).2 m1 → Co1 m m1 → Q (some (aI (on1 S r (-2) (oSum c)).1)) (m1, tl len)) : E 161 0 [some (aA 124), some (aI (r)), some (aI (c))] [] (m, tl len) Q := by
  refine E_s (p' := 1) (st' := aA 124 :: _) rfl rfl ?_
  refine E_s (p' := 2) (st' := aI (r) :: _) rfl rfl ?_
  refine E_s (p' := 3) (st' := aI (c) :: _) rfl rfl ?_
  refine E_callV (k' := 135) (a := 124) (r := []) (L0 := [some (aA 124), some (aI (r)), some (aI (c))]) rfl rfl rfl rfl rfl rfl rfl rfl rfl rfl ?_
  refine m_isCord hS (fun i ci hi hr hc hcc => ?_) (fun hno => ?_)
  · refine E_go (p' := 6) (L' := [some (aA 124), some (aI (r)), some (aI (c))]) (st' := [aI 1]) rfl rfl rfl ?_
    obtain ⟨hV, hM⟩ := hS i hi
    have hn60 := hV.1
    have hs40 := hV.2.2.2.2.1
    subst hr hc
    refine E_s (p' := 12) rfl rfl ?_
    refine E_s (p' := 13) (st' := aA 124 :: _) rfl rfl ?_
    refine E_gA (b := 136) rfl rfl rfl rfl rfl rfl ?_
    refine E_s (p' := 17) (st' := aI ((i : Nat) : Int) :: _) rfl rfl ?_
    refine E_ald (e := i) (N := 4) (v := ((Sn (S i) : Nat) : Int)) rfl rfl (rfl) (by omega) (MR_136 hM) ?_
    refine E_s (p' := 20) (st' := aI 40 :: _) rfl rfl ?_
    refine E_icmp_ne (x := ((Sn (S i) : Nat) : Int)) (y := 40) rfl (by decide) (fun h_1 => ?_) (fun h_1 => ?_)
    · refine E_go (p' := 26) (L' := [some (aA 124), some (aI ((i : Nat) : Int)), some (aI ((ci : Nat) : Int))]) (st' := []) rfl rfl rfl ?_
      refine E_s (p' := 27) (st' := aA 124 :: _) rfl rfl ?_
      refine E_gA (b := 137) rfl rfl rfl rfl rfl rfl ?_
      refine E_s (p' := 32) (st' := aI 40 :: _) rfl rfl ?_
      refine E_s (p' := 33) (st' := aI ((i : Nat) : Int) :: _) rfl rfl ?_
      refine E_mul (v := ((40 * i : Nat) : Int)) rfl (by omega) (by omega) ?_
      refine E_s (p' := 35) (st' := aA 124 :: _) rfl rfl ?_
      refine E_gA (b := 136) rfl rfl rfl rfl rfl rfl ?_
      refine E_s (p' := 39) (st' := aI ((i : Nat) : Int) :: _) rfl rfl ?_
      refine E_ald (e := i) (N := 4) (v := ((Sn (S i) : Nat) : Int)) rfl rfl (rfl) (by omega) (MR_136 hM) ?_
      refine E_add (v := ((40 * i + Sn (S i) : Nat) : Int)) rfl (by omega) (by omega) ?_
      refine E_s (p' := 42) (st' := aI ((ci : Nat) : Int) :: _) rfl rfl ?_
      refine E_ast (e := 40 * i + Sn (S i)) (N := 160) rfl rfl (rfl) (by omega) ?_
      refine E_s (p' := 44) (st' := aA 124 :: _) rfl rfl ?_
      refine E_gA (b := 138) rfl rfl rfl rfl rfl rfl ?_
      refine E_s (p' := 49) (st' := aI 40 :: _) rfl rfl ?_
      refine E_s (p' := 50) (st' := aI ((i : Nat) : Int) :: _) rfl rfl ?_
      refine E_mul (v := ((40 * i : Nat) : Int)) rfl (by omega) (by omega) ?_
      refine E_s (p' := 52) (st' := aA 124 :: _) rfl rfl ?_
      refine E_gA (b := 136) rfl rfl rfl rfl rfl rfl ?_
      refine E_s (p' := 56) (st' := aI ((i : Nat) : Int) :: _) rfl rfl ?_
      refine E_ald (e := i) (N := 4) (v := ((Sn (S i) : Nat) : Int)) rfl rfl (rfl) (by omega) ((up2_ne (by omega)).trans ((MR_136 hM))) ?_
      refine E_add (v := ((40 * i + Sn (S i) : Nat) : Int)) rfl (by omega) (by omega) ?_
      refine E_s (p' := 59) (st' := aI 0 :: _) rfl rfl ?_
      refine E_ast (e := 40 * i + Sn (S i)) (N := 160) rfl rfl (rfl) (by omega) ?_
      refine E_s (p' := 61) (st' := aA 124 :: _) rfl rfl ?_
      refine E_gA (b := 136) rfl rfl rfl rfl rfl rfl ?_
      refine E_s (p' := 65) (st' := aI ((i : Nat) : Int) :: _) rfl rfl ?_
      refine E_s (p' := 66) rfl rfl ?_
      refine E_ald (e := i) (N := 4) (v := ((Sn (S i) : Nat) : Int)) rfl rfl (rfl) (by omega) ((up2_ne (by omega)).trans ((up2_ne (by omega)).trans ((MR_136 hM)))) ?_
      refine E_s (p' := 68) (st' := aI 1 :: _) rfl rfl ?_
      refine E_add (v := ((Sn (S i) + 1 : Nat) : Int)) rfl (by omega) (by omega) ?_
      refine E_ast (e := i) (N := 4) rfl rfl (rfl) (by omega) ?_
      refine E_s (p' := 71) (st' := aA 124 :: _) rfl rfl ?_
      refine E_s (p' := 72) (st' := aI ((i : Nat) : Int) :: _) rfl rfl ?_
      refine E_callV (k' := 133) (a := 124) (r := []) (L0 := [some (aA 124), some (aI ((i : Nat) : Int))]) rfl rfl rfl rfl rfl rfl rfl rfl rfl rfl ?_
      refine m_changes (i := i) (by omega) ?_
      refine E_go (p' := 75) (L' := [some (aA 124), some (aI ((i : Nat) : Int)), some (aI ((ci : Nat) : Int))]) (st' := []) rfl rfl rfl ?_
      refine E_s (p' := 76) (st' := aA 124 :: _) rfl rfl ?_
      refine E_gA (b := 136) rfl rfl rfl rfl rfl rfl ?_
      refine E_s (p' := 80) (st' := aI ((i : Nat) : Int) :: _) rfl rfl ?_
      refine E_ald (e := i) (N := 4) (v := ((Sn (S i) + 1 : Nat) : Int)) rfl rfl (rfl) (by omega) ((up2_ne (by omega)).trans (up2_eq)) ?_
      refine E_s (p' := 82) (st' := aI 1 :: _) rfl rfl ?_
      refine E_sub (v := ((Sn (S i) : Nat) : Int)) rfl (by omega) (by omega) ?_
      refine E_ret rfl rfl ?_
      refine finMx hS hi rfl q (by unfold oSum; simp only [Int.toNat_natCast]; rw [cif_pos (by unfold inC; omega), cif_neg (by omega)]) (V_sm hV (by omega) (fun s hs => ?_) (fun s k hs hk => ?_)) (MR.sm hM ((up2_ne (by omega)).trans (up2_eq)) (fun s hs => ?_) (fun s k hs hk => ?_) (fun b j h1 h2 => ((up2_ne (by omega)).trans ((up2_ne (by omega)).trans ((up2_ne (by omega)).trans (up2_ne (by omega))))))) ((((Mx.rf.up (by unfold blk; omega)).up (by unfold blk; omega)).up (by unfold blk; omega)).up (by unfold blk; omega)) (fun b j hb => ((up2_ne (by omega)).trans ((up2_ne (by omega)).trans ((up2_ne (by omega)).trans (up2_ne (by omega))))))
      · by_cases g : s = Sn (S i)
        · subst g; rw [upf_eq, upf_eq]; exact ⟨hcc, by omega⟩
        · rw [upf_ne g, upf_ne g]; exact hV.2.2.2.2.2.1 s (by omega)
      · by_cases g : s = Sn (S i)
        · subst g; rw [upf_eq] at hk; omega
        · rw [upf_ne g] at hk; exact hV.2.2.2.2.2.2 s k (by omega) hk
      · by_cases g : s = Sn (S i)
        · subst g; rw [upf_eq, upf_eq]; exact ⟨((up2_ne (by omega)).trans ((up2_ne (by omega)).trans ((up2_ne (by omega)).trans (up2_eq)))), ((up2_ne (by omega)).trans ((up2_ne (by omega)).trans (up2_eq)))⟩
        · rw [upf_ne g, upf_ne g]
          exact ⟨((up2_o (by omega)).trans ((up2_o (by omega)).trans ((up2_o (by omega)).trans (up2_o (by omega))))).trans (MR_137 hM (by omega) rfl), ((up2_o (by omega)).trans ((up2_o (by omega)).trans ((up2_o (by omega)).trans (up2_o (by omega))))).trans (MR_138 hM (by omega) rfl)⟩
      · by_cases g : s = Sn (S i)
        · subst g; rw [upf_eq] at hk; omega
        · rw [upf_ne g] at hk
          exact ((up2_ne (by omega)).trans ((up2_ne (by omega)).trans ((up2_ne (by omega)).trans (up2_ne (by omega))))).trans (MR_139 hM (by omega) hk rfl)
    · refine E_go (p' := 23) (L' := [some (aA 124), some (aI ((i : Nat) : Int)), some (aI ((ci : Nat) : Int))]) (st' := []) rfl rfl rfl ?_
      refine E_s (p' := 25) (st' := aI (-3) :: _) rfl rfl ?_
      refine E_ret rfl rfl ?_
      exact finM_same hS hi rfl q (by unfold oSum; (try simp only [Int.toNat_natCast]); rw [cif_pos (by unfold inC; omega), cif_pos (by omega)]) hS (fun _ _ _ => rfl)
  · refine E_go (p' := 6) (L' := [some (aA 124), some (aI (r)), some (aI (c))]) (st' := [aI 0]) rfl rfl rfl ?_
    refine E_s (p' := 9) rfl rfl ?_
    refine E_s (p' := 11) (st' := aI (-2) :: _) rfl rfl ?_
    refine E_ret rfl rfl ?_
    rcases hno with hr | ⟨i, hi, hr, hno⟩
    · exact finM_out hS q hr
    · exact finM_same hS hi hr q (by unfold oSum; rw [cif_neg (hno)]) hS (fun _ _ _ => rfl)
theorem hld_up {R : RD} {s : Nat} {h : Int} : ∀ {n k : Nat}, k ≤ n → hld R s h k = true → hld R s h n = true := by
  intro n
  induction n with
  | zero => intro k hk e; rw [show k = 0 by omega] at e; exact e
  | succ n ih =>
    intro k hk e
    rcases Nat.lt_or_ge k (n + 1) with g | g
    · show (hld R s h n || _) = true
      rw [ih (by omega) e]; rfl
    · rw [show k = n + 1 by omega] at e; exact e
theorem yl_part {i sn ci : Nat} (hi : i < 4) {R : RD} (hM : MR R i m) (hV : VR R) (hs : sn < Sn R) (hk : hld R sn (ci : Int) (Sp R sn) = false → E 162 87 [some (aA 124), some (aI (i : Int)), some (aI (ci : Int)), some (aI ((40 * i + sn : Nat) : Int)), some (aI (Sp R sn : Int))] [] (m, tl len) Q) (q : hld R sn (ci : Int) (Sp R sn) = true → Q (some (aI (-2))) (m, tl len)) : ∀ (d : Nat) (k : Nat), (Sp R sn < k + d) → (k ≤ Sp R sn) → (hld R sn (ci : Int) k = false) → E 162 51 [some (aA 124), some (aI ((i : Nat) : Int)), some (aI ((ci : Nat) : Int)), some (aI ((40 * i + sn : Nat) : Int)), some (aI ((k : Nat) : Int))] [] (m, tl len) Q := by
  intro d
  induction d with
  | zero => intro k hd hj I0; omega
  | succ d ih =>
    intro k hd hj I0
    have hs40 := hV.2.2.2.2.1
    have hp12 := (hV.2.2.2.2.2.1 sn hs).2
    refine E_s (p' := 53) (st' := aI ((k : Nat) : Int) :: _) rfl rfl ?_
    refine E_s (p' := 54) (st' := aA 124 :: _) rfl rfl ?_
    refine E_gA (b := 138) rfl rfl rfl rfl rfl rfl ?_
    refine E_s (p' := 58) (st' := aI ((40 * i + sn : Nat) : Int) :: _) rfl rfl ?_
    refine E_ald (e := 40 * i + sn) (N := 160) (v := ((Sp R sn : Nat) : Int)) rfl rfl (rfl) (by omega) (MR_138 hM (by omega) (by omega)) ?_
    refine E_icmp_ge (x := ((k : Nat) : Int)) (y := ((Sp R sn : Nat) : Int)) rfl (by decide) (fun h_1 => ?_) (fun h_1 => ?_)
    · refine E_go (p' := 87) (L' := [some (aA 124), some (aI ((i : Nat) : Int)), some (aI ((ci : Nat) : Int)), some (aI ((40 * i + sn : Nat) : Int)), some (aI ((k : Nat) : Int))]) (st' := []) rfl rfl rfl ?_
      have ek : k = Sp R sn := by omega
      subst ek
      exact hk I0
    · refine E_go (p' := 62) (L' := [some (aA 124), some (aI ((i : Nat) : Int)), some (aI ((ci : Nat) : Int)), some (aI ((40 * i + sn : Nat) : Int)), some (aI ((k : Nat) : Int))]) (st' := []) rfl rfl rfl ?_
      refine E_s (p' := 63) (st' := aA 124 :: _) rfl rfl ?_
      refine E_gA (b := 139) rfl rfl rfl rfl rfl rfl ?_
      refine E_s (p' := 68) (st' := aI 12 :: _) rfl rfl ?_
      refine E_s (p' := 69) (st' := aI ((40 * i + sn : Nat) : Int) :: _) rfl rfl ?_
      refine E_mul (v := ((480 * i + 12 * sn : Nat) : Int)) rfl (by omega) (by omega) ?_
      refine E_s (p' := 72) (st' := aI ((k : Nat) : Int) :: _) rfl rfl ?_
      refine E_add (v := ((480 * i + 12 * sn + k : Nat) : Int)) rfl (by omega) (by omega) ?_
      refine E_ald (e := 480 * i + 12 * sn + k) (N := 1920) (v := ((Sq R sn k : Nat) : Int)) rfl rfl (rfl) (by omega) (MR_139 hM (by omega) (by omega) (by omega)) ?_
      refine E_s (p' := 75) (st' := aI ((ci : Nat) : Int) :: _) rfl rfl ?_
      refine E_icmp_ne (x := ((Sq R sn k : Nat) : Int)) (y := ((ci : Nat) : Int)) rfl (by decide) (fun h_2 => ?_) (fun h_2 => ?_)
      · refine E_go (p' := 81) (L' := [some (aA 124), some (aI ((i : Nat) : Int)), some (aI ((ci : Nat) : Int)), some (aI ((40 * i + sn : Nat) : Int)), some (aI ((k : Nat) : Int))]) (st' := []) rfl rfl rfl ?_
        refine E_inc (x := ((k : Nat) : Int)) (w := ((k + 1 : Nat) : Int)) (L' := [some (aA 124), some (aI ((i : Nat) : Int)), some (aI ((ci : Nat) : Int)), some (aI ((40 * i + sn : Nat) : Int)), some (aI ((k + 1 : Nat) : Int))]) rfl rfl rfl (by omega) (by omega) rfl ?_
        refine E_s (p' := 51) rfl rfl ?_
        exact ih (k + 1) (by omega) (by omega) (by show (hld R sn (ci : Int) k || _) = false; rw [I0]; simp; omega)
      · refine E_go (p' := 78) (L' := [some (aA 124), some (aI ((i : Nat) : Int)), some (aI ((ci : Nat) : Int)), some (aI ((40 * i + sn : Nat) : Int)), some (aI ((k : Nat) : Int))]) (st' := []) rfl rfl rfl ?_
        refine E_s (p' := 80) (st' := aI (-2) :: _) rfl rfl ?_
        refine E_ret rfl rfl ?_
        exact q (hld_up (k := k + 1) (by omega) (by simp [hld]; right; omega))
theorem M_part (hS : MS S m) (q : ∀ m1, MS (on1 S r (-2) (oPart c)).2 m1 → Co1 m m1 → Q (some (aI (on1 S r (-2) (oPart c)).1)) (m1, tl len)) : E 162 0 [some (aA 124), some (aI (r)), some (aI (c)), none, none] [] (m, tl len) Q := by
  refine E_s (p' := 1) (st' := aA 124 :: _) rfl rfl ?_
  refine E_s (p' := 2) (st' := aI (r) :: _) rfl rfl ?_
  refine E_s (p' := 3) (st' := aI (c) :: _) rfl rfl ?_
  refine E_callV (k' := 135) (a := 124) (r := []) (L0 := [some (aA 124), some (aI (r)), some (aI (c))]) rfl rfl rfl rfl rfl rfl rfl rfl rfl rfl ?_
  refine m_isCord hS (fun i ci hi hr hc hcc => ?_) (fun hno => ?_)
  · refine E_go (p' := 6) (L' := [some (aA 124), some (aI (r)), some (aI (c)), none, none]) (st' := [aI 1]) rfl rfl rfl ?_
    obtain ⟨hV, hM⟩ := hS i hi
    have hn60 := hV.1
    have hs40 := hV.2.2.2.2.1
    subst hr hc
    refine E_s (p' := 9) rfl rfl ?_
    refine E_s (p' := 10) (st' := aA 124 :: _) rfl rfl ?_
    refine E_gA (b := 136) rfl rfl rfl rfl rfl rfl ?_
    refine E_s (p' := 14) (st' := aI ((i : Nat) : Int) :: _) rfl rfl ?_
    refine E_ald (e := i) (N := 4) (v := ((Sn (S i) : Nat) : Int)) rfl rfl (rfl) (by omega) (MR_136 hM) ?_
    refine E_if_ne (x := ((Sn (S i) : Nat) : Int)) rfl (by decide) (fun h_1 => ?_) (fun h_1 => ?_)
    · refine E_go (p' := 21) (L' := [some (aA 124), some (aI ((i : Nat) : Int)), some (aI ((ci : Nat) : Int)), none, none]) (st' := []) rfl rfl rfl ?_
      refine E_s (p' := 23) (st' := aI 40 :: _) rfl rfl ?_
      refine E_s (p' := 24) (st' := aI ((i : Nat) : Int) :: _) rfl rfl ?_
      refine E_mul (v := ((40 * i : Nat) : Int)) rfl (by omega) (by omega) ?_
      refine E_s (p' := 26) (st' := aA 124 :: _) rfl rfl ?_
      refine E_gA (b := 136) rfl rfl rfl rfl rfl rfl ?_
      refine E_s (p' := 30) (st' := aI ((i : Nat) : Int) :: _) rfl rfl ?_
      refine E_ald (e := i) (N := 4) (v := ((Sn (S i) : Nat) : Int)) rfl rfl (rfl) (by omega) (MR_136 hM) ?_
      refine E_add (v := ((40 * i + Sn (S i) : Nat) : Int)) rfl (by omega) (by omega) ?_
      refine E_s (p' := 33) (st' := aI 1 :: _) rfl rfl ?_
      refine E_sub (v := (40 * (i : Int) + (Sn (S i) : Int) - 1)) rfl (by omega) (by omega) ?_
      refine E_s (p' := 35) (L' := [some (aA 124), some (aI ((i : Nat) : Int)), some (aI ((ci : Nat) : Int)), some (aI (40 * (i : Int) + (Sn (S i) : Int) - 1)), none]) rfl rfl ?_
      obtain ⟨sn, es⟩ : ∃ x, Sn (S i) = x + 1 := ⟨Sn (S i) - 1, by omega⟩
      have hp12 := (hV.2.2.2.2.2.1 sn (by omega)).2
      rw [show (40 * (i : Int) + (Sn (S i) : Int) - 1) = ((40 * i + sn : Nat) : Int) by omega]
      refine E_s (p' := 36) (st' := aA 124 :: _) rfl rfl ?_
      refine E_gA (b := 137) rfl rfl rfl rfl rfl rfl ?_
      refine E_s (p' := 40) (st' := aI ((40 * i + sn : Nat) : Int) :: _) rfl rfl ?_
      refine E_ald (e := 40 * i + sn) (N := 160) (v := ((Sw (S i) sn : Nat) : Int)) rfl rfl (rfl) (by omega) (MR_137 hM (by omega) (by omega)) ?_
      refine E_s (p' := 42) (st' := aI ((ci : Nat) : Int) :: _) rfl rfl ?_
      refine E_icmp_ne (x := ((Sw (S i) sn : Nat) : Int)) (y := ((ci : Nat) : Int)) rfl (by decide) (fun h_2 => ?_) (fun h_2 => ?_)
      · refine E_go (p' := 48) (L' := [some (aA 124), some (aI ((i : Nat) : Int)), some (aI ((ci : Nat) : Int)), some (aI ((40 * i + sn : Nat) : Int)), none]) (st' := []) rfl rfl rfl ?_
        refine E_s (p' := 49) (st' := aI 0 :: _) rfl rfl ?_
        refine E_s (p' := 51) (L' := [some (aA 124), some (aI ((i : Nat) : Int)), some (aI ((ci : Nat) : Int)), some (aI ((40 * i + sn : Nat) : Int)), some (aI 0)]) rfl rfl ?_
        refine yl_part hi hM hV (by omega) (fun hfl => ?_) (fun htr => ?_) (Sp (S i) sn + 1) 0 (by omega) (by omega) (by simp [hld]; omega)
        rotate_left
        · exact finM_same hS hi rfl q (by unfold oPart; rw [show Sn (S i) - 1 = sn by omega, cif_neg (fun g9 => absurd g9.2.2 (by rw [htr]; decide))]) hS (fun _ _ _ => rfl)
        refine E_s (p' := 88) (st' := aA 124 :: _) rfl rfl ?_
        refine E_gA (b := 138) rfl rfl rfl rfl rfl rfl ?_
        refine E_s (p' := 92) (st' := aI ((40 * i + sn : Nat) : Int) :: _) rfl rfl ?_
        refine E_ald (e := 40 * i + sn) (N := 160) (v := ((Sp (S i) sn : Nat) : Int)) rfl rfl (rfl) (by omega) (MR_138 hM (by omega) (by omega)) ?_
        refine E_s (p' := 95) (st' := aI 12 :: _) rfl rfl ?_
        refine E_icmp_ne (x := ((Sp (S i) sn : Nat) : Int)) (y := 12) rfl (by decide) (fun h_3 => ?_) (fun h_3 => ?_)
        · refine E_go (p' := 101) (L' := [some (aA 124), some (aI ((i : Nat) : Int)), some (aI ((ci : Nat) : Int)), some (aI ((40 * i + sn : Nat) : Int)), some (aI ((Sp (S i) sn : Nat) : Int))]) (st' := []) rfl rfl rfl ?_
          refine E_s (p' := 102) (st' := aA 124 :: _) rfl rfl ?_
          refine E_gA (b := 139) rfl rfl rfl rfl rfl rfl ?_
          refine E_s (p' := 107) (st' := aI 12 :: _) rfl rfl ?_
          refine E_s (p' := 108) (st' := aI ((40 * i + sn : Nat) : Int) :: _) rfl rfl ?_
          refine E_mul (v := ((480 * i + 12 * sn : Nat) : Int)) rfl (by omega) (by omega) ?_
          refine E_s (p' := 110) (st' := aA 124 :: _) rfl rfl ?_
          refine E_gA (b := 138) rfl rfl rfl rfl rfl rfl ?_
          refine E_s (p' := 114) (st' := aI ((40 * i + sn : Nat) : Int) :: _) rfl rfl ?_
          refine E_ald (e := 40 * i + sn) (N := 160) (v := ((Sp (S i) sn : Nat) : Int)) rfl rfl (rfl) (by omega) (MR_138 hM (by omega) (by omega)) ?_
          refine E_add (v := ((480 * i + 12 * sn + Sp (S i) sn : Nat) : Int)) rfl (by omega) (by omega) ?_
          refine E_s (p' := 117) (st' := aI ((ci : Nat) : Int) :: _) rfl rfl ?_
          refine E_ast (e := 480 * i + 12 * sn + Sp (S i) sn) (N := 1920) rfl rfl (rfl) (by omega) ?_
          refine E_s (p' := 119) (st' := aA 124 :: _) rfl rfl ?_
          refine E_gA (b := 138) rfl rfl rfl rfl rfl rfl ?_
          refine E_s (p' := 123) (st' := aI ((40 * i + sn : Nat) : Int) :: _) rfl rfl ?_
          refine E_s (p' := 124) rfl rfl ?_
          refine E_ald (e := 40 * i + sn) (N := 160) (v := ((Sp (S i) sn : Nat) : Int)) rfl rfl (rfl) (by omega) ((up2_ne (by omega)).trans ((MR_138 hM (by omega) (by omega)))) ?_
          refine E_s (p' := 126) (st' := aI 1 :: _) rfl rfl ?_
          refine E_add (v := ((Sp (S i) sn + 1 : Nat) : Int)) rfl (by omega) (by omega) ?_
          refine E_ast (e := 40 * i + sn) (N := 160) rfl rfl (rfl) (by omega) ?_
          refine E_s (p' := 129) (st' := aA 124 :: _) rfl rfl ?_
          refine E_s (p' := 130) (st' := aI ((i : Nat) : Int) :: _) rfl rfl ?_
          refine E_callV (k' := 133) (a := 124) (r := []) (L0 := [some (aA 124), some (aI ((i : Nat) : Int))]) rfl rfl rfl rfl rfl rfl rfl rfl rfl rfl ?_
          refine m_changes (i := i) (by omega) ?_
          refine E_go (p' := 133) (L' := [some (aA 124), some (aI ((i : Nat) : Int)), some (aI ((ci : Nat) : Int)), some (aI ((40 * i + sn : Nat) : Int)), some (aI ((Sp (S i) sn : Nat) : Int))]) (st' := []) rfl rfl rfl ?_
          refine E_s (p' := 134) (st' := aA 124 :: _) rfl rfl ?_
          refine E_gA (b := 138) rfl rfl rfl rfl rfl rfl ?_
          refine E_s (p' := 138) (st' := aI ((40 * i + sn : Nat) : Int) :: _) rfl rfl ?_
          refine E_ald (e := 40 * i + sn) (N := 160) (v := ((Sp (S i) sn + 1 : Nat) : Int)) rfl rfl (rfl) (by omega) ((up2_ne (by omega)).trans (up2_eq)) ?_
          refine E_ret rfl rfl ?_
          refine finMx hS hi rfl q (by unfold oPart; simp only [Int.toNat_natCast]; rw [show Sn (S i) - 1 = sn by omega, cif_pos ⟨by unfold inC; omega, by omega, hfl⟩, cif_neg (by omega)]) (V_sm hV (by omega) (fun t ht => ?_) (fun t k ht hk => ?_)) (MR.sm hM (((up2_ne (by omega)).trans ((up2_ne (by omega)).trans (up2_ne (by omega)))).trans (MR_136 hM)) (fun t ht => ?_) (fun t k ht hk => ?_) (fun b j h1 h2 => ((up2_ne (by omega)).trans ((up2_ne (by omega)).trans (up2_ne (by omega)))))) (((Mx.rf.up (by unfold blk; omega)).up (by unfold blk; omega)).up (by unfold blk; omega)) (fun b j hb => ((up2_ne (by omega)).trans ((up2_ne (by omega)).trans (up2_ne (by omega)))))
          · refine ⟨(hV.2.2.2.2.2.1 t ht).1, ?_⟩
            by_cases g : t = sn
            · subst g; rw [upf_eq]; omega
            · rw [upf_ne g]; exact (hV.2.2.2.2.2.1 t ht).2
          · by_cases g : t = sn
            · subst g
              rw [upf_eq] at hk
              rw [upf_eq]
              by_cases g2 : k = Sp (S i) t
              · subst g2; rw [upf_eq]; exact hcc
              · rw [upf_ne g2]; exact hV.2.2.2.2.2.2 t k ht (by omega)
            · rw [upf_ne g] at hk
              rw [upf_ne g]; exact hV.2.2.2.2.2.2 t k ht hk
          · refine ⟨((up2_ne (by omega)).trans ((up2_ne (by omega)).trans (up2_ne (by omega)))).trans (MR_137 hM ht rfl), ?_⟩
            by_cases g : t = sn
            · subst g; rw [upf_eq]; exact ((up2_ne (by omega)).trans (up2_eq))
            · rw [upf_ne g]; exact ((up2_o (by omega)).trans ((up2_o (by omega)).trans (up2_o (by omega)))).trans (MR_138 hM ht rfl)
          · by_cases g : t = sn
            · subst g
              rw [upf_eq] at hk
              rw [upf_eq]
              by_cases g2 : k = Sp (S i) t
              · subst g2; rw [upf_eq]; exact ((up2_ne (by omega)).trans ((up2_ne (by omega)).trans (up2_eq)))
              · rw [upf_ne g2]; exact ((up2_o (by omega)).trans ((up2_o (by omega)).trans (up2_o (by omega)))).trans (MR_139 hM ht (by omega) rfl)
            · rw [upf_ne g] at hk
              rw [upf_ne g]
              have := (hV.2.2.2.2.2.1 t ht).2
              exact ((up2_o (by omega)).trans ((up2_o (by omega)).trans (up2_o (by omega)))).trans (MR_139 hM ht hk rfl)
        · refine E_go (p' := 98) (L' := [some (aA 124), some (aI ((i : Nat) : Int)), some (aI ((ci : Nat) : Int)), some (aI ((40 * i + sn : Nat) : Int)), some (aI ((Sp (S i) sn : Nat) : Int))]) (st' := []) rfl rfl rfl ?_
          refine E_s (p' := 100) (st' := aI (-3) :: _) rfl rfl ?_
          refine E_ret rfl rfl ?_
          exact finM_same hS hi rfl q (by unfold oPart; simp only [Int.toNat_natCast]; rw [show Sn (S i) - 1 = sn by omega, cif_pos ⟨by unfold inC; omega, by omega, hfl⟩, cif_pos (by omega)]) hS (fun _ _ _ => rfl)
      · refine E_go (p' := 45) (L' := [some (aA 124), some (aI ((i : Nat) : Int)), some (aI ((ci : Nat) : Int)), some (aI ((40 * i + sn : Nat) : Int)), none]) (st' := []) rfl rfl rfl ?_
        refine E_s (p' := 47) (st' := aI (-2) :: _) rfl rfl ?_
        refine E_ret rfl rfl ?_
        exact finM_same hS hi rfl q (by unfold oPart; rw [show Sn (S i) - 1 = sn by omega, cif_neg (fun g9 => absurd g9.2.2 (by rw [hld_up (k := 0) (Nat.zero_le _) (by simp [hld]; omega)]; decide))]) hS (fun _ _ _ => rfl)
    · refine E_go (p' := 18) (L' := [some (aA 124), some (aI ((i : Nat) : Int)), some (aI ((ci : Nat) : Int)), none, none]) (st' := []) rfl rfl rfl ?_
      refine E_s (p' := 20) (st' := aI (-2) :: _) rfl rfl ?_
      refine E_ret rfl rfl ?_
      exact finM_same hS hi rfl q (by unfold oPart; rw [cif_neg (by omega)]) hS (fun _ _ _ => rfl)
  · refine E_go (p' := 6) (L' := [some (aA 124), some (aI (r)), some (aI (c)), none, none]) (st' := [aI 0]) rfl rfl rfl ?_
    refine E_s (p' := 18) rfl rfl ?_
    refine E_s (p' := 20) (st' := aI (-2) :: _) rfl rfl ?_
    refine E_ret rfl rfl ?_
    rcases hno with hr | ⟨i, hi, hr, hno⟩
    · exact finM_out hS q hr
    · exact finM_same hS hi hr q (by unfold oPart; rw [cif_neg (fun g9 => hno g9.1)]) hS (fun _ _ _ => rfl)
end
