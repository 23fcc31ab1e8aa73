section
variable {len : Nat} {m : Mm} {Q : Option AV → Sx → Prop} {R : RD} {i c : Nat} {h : Int}
theorem yl_find (hi : i < 4) (hM : MR R i m) (hV : VR R) (hcc : c < Cn R) (q1 : ∀ k, k < Ck R c → (ht (Cp R c k) : Int) = h → Q (some (aI (k : Int))) (m, tl len)) (q0 : (∀ k, k < Ck R c → (ht (Cp R c k) : Int) ≠ h) → Q (some (aI (-1))) (m, tl len)) : ∀ (d : Nat) (k : Nat), (Ck R c < k + d) → (k ≤ Ck R c) → (∀ j, j < k → (ht (Cp R c j) : Int) ≠ h) → E 137 2 [some (aA 124), some (aI ((60 * i + c : Nat) : Int)), some (aI (h)), some (aI ((k : Nat) : Int))] [] (m, tl len) Q := by
  intro d
  induction d with
  | zero => intro k hd hk hne; omega
  | succ d ih =>
    intro k hd hk hne
    have hn60 := hV.1
    have hk30 := (hV.2.2.1 c hcc).2.2.2.2.2
    refine E_s (p' := 3) (st' := aI ((k : Nat) : Int) :: _) rfl rfl ?_
    refine E_s (p' := 4) (st' := aA 124 :: _) rfl rfl ?_
    refine E_gA (b := 132) rfl rfl rfl rfl rfl rfl ?_
    refine E_s (p' := 8) (st' := aI ((60 * i + c : Nat) : Int) :: _) rfl rfl ?_
    refine E_ald (e := 60 * i + c) (N := 240) (v := ((Ck R c : Nat) : Int)) rfl rfl (rfl) (by omega) (MR_132 hM (by omega) (by omega)) ?_
    refine E_icmp_ge (x := ((k : Nat) : Int)) (y := ((Ck R c : Nat) : Int)) rfl (by decide) (fun h_1 => ?_) (fun h_1 => ?_)
    · refine E_go (p' := 35) (L' := [some (aA 124), some (aI ((60 * i + c : Nat) : Int)), some (aI (h)), some (aI ((k : Nat) : Int))]) (st' := []) rfl rfl rfl ?_
      refine E_s (p' := 36) (st' := aI (-1) :: _) rfl rfl ?_
      refine E_ret rfl rfl ?_
      exact q0 (fun j hj => hne j (by omega))
    · refine E_go (p' := 12) (L' := [some (aA 124), some (aI ((60 * i + c : Nat) : Int)), some (aI (h)), some (aI ((k : Nat) : Int))]) (st' := []) rfl rfl rfl ?_
      refine E_s (p' := 13) (st' := aA 124 :: _) rfl rfl ?_
      refine E_gA (b := 133) rfl rfl rfl rfl rfl rfl ?_
      refine E_s (p' := 18) (st' := aI 30 :: _) rfl rfl ?_
      refine E_s (p' := 19) (st' := aI ((60 * i + c : Nat) : Int) :: _) rfl rfl ?_
      refine E_mul (v := ((1800 * i + 30 * c : Nat) : Int)) rfl (by omega) (by omega) ?_
      refine E_s (p' := 21) (st' := aI ((k : Nat) : Int) :: _) rfl rfl ?_
      refine E_add (v := ((1800 * i + 30 * c + k : Nat) : Int)) rfl (by omega) (by omega) ?_
      refine E_ald (e := 1800 * i + 30 * c + k) (N := 7200) (v := ((ht (Cp R c k) : Nat) : Int)) rfl rfl (rfl) (by omega) (MR_133 hM (by omega) (by omega) (by omega)) ?_
      refine E_s (p' := 24) (st' := aI (h) :: _) rfl rfl ?_
      refine E_icmp_ne (x := ((ht (Cp R c k) : Nat) : Int)) (y := (h)) rfl (by decide) (fun h_2 => ?_) (fun h_2 => ?_)
      · refine E_go (p' := 29) (L' := [some (aA 124), some (aI ((60 * i + c : Nat) : Int)), some (aI (h)), some (aI ((k : Nat) : Int))]) (st' := []) rfl rfl rfl ?_
        refine E_inc (x := ((k : Nat) : Int)) (w := ((k + 1 : Nat) : Int)) (L' := [some (aA 124), some (aI ((60 * i + c : Nat) : Int)), some (aI (h)), some (aI ((k + 1 : Nat) : Int))]) rfl rfl rfl (by omega) (by omega) rfl ?_
        refine E_s (p' := 2) rfl rfl ?_
        exact ih (k + 1) (by omega) (by omega) (fun j hj => by rcases Nat.lt_succ_iff_lt_or_eq.mp hj with g | g; exact hne j g; subst g; assumption)
      · refine E_go (p' := 27) (L' := [some (aA 124), some (aI ((60 * i + c : Nat) : Int)), some (aI (h)), some (aI ((k : Nat) : Int))]) (st' := []) rfl rfl rfl ?_
        refine E_s (p' := 28) (st' := aI ((k : Nat) : Int) :: _) rfl rfl ?_
        refine E_ret rfl rfl ?_
        exact q1 k (by omega) (by omega)
theorem m_find (hi : i < 4) (hM : MR R i m) (hV : VR R) (hcc : c < Cn R) (q1 : ∀ k, k < Ck R c → (ht (Cp R c k) : Int) = h → Q (some (aI (k : Int))) (m, tl len)) (q0 : (∀ k, k < Ck R c → (ht (Cp R c k) : Int) ≠ h) → Q (some (aI (-1))) (m, tl len)) : E 137 0 [some (aA 124), some (aI ((60 * i + c : Nat) : Int)), some (aI (h)), none] [] (m, tl len) Q := by
  refine E_s (p' := 1) (st' := aI 0 :: _) rfl rfl ?_
  refine E_s (p' := 2) (L' := [some (aA 124), some (aI ((60 * i + c : Nat) : Int)), some (aI (h)), some (aI 0)]) rfl rfl ?_
  exact yl_find hi hM hV hcc q1 q0 (Ck R c + 1) 0 (by omega) (by omega) (fun j hj => absurd hj (by omega))
end
theorem ins_sh {m0 m : Mm} {b f K j w : Nat} {P g : Nat → Nat} (hj : j ≤ K) (hP : ∀ e, e < K → m0 b (f + e) = (g (P e) : Int)) (h1 : ∀ e, e < j → m b (f + e) = m0 b (f + e)) (h2 : ∀ e, j ≤ e → e < K → m b (f + e + 1) = m0 b (f + e)) (h3 : m b (f + j) = (g w : Int)) : ∀ e, e < K + 1 → m b (f + e) = (g (insP P j w e) : Int) := by
  intro e he
  unfold insP
  rcases Nat.lt_trichotomy e j with q | q | q
  · rw [if_pos q]; exact (h1 e q).trans (hP e (by omega))
  · subst q; rw [if_neg (by omega), if_pos rfl]; exact h3
  · rw [if_neg (by omega), if_neg (by omega)]
    have := h2 (e - 1) (by omega) (by omega)
    rw [show f + (e - 1) + 1 = f + e by omega] at this
    exact this.trans (hP (e - 1) (by omega))
section
variable {len : Nat} {m0 : Mm} {Q : Option AV → Sx → Prop} {R : RD} {i c hn sn tn : Nat}
theorem yl_put (hi : i < 4) (hM : MR R i m0) (hV : VR R) (hcc : c < Cn R) (hk9 : Ck R c < 30) (hs4 : sn < 4) (ht16 : tn < 16) (hno : ∀ k, k < Ck R c → ht (Cp R c k) ≠ hn) (q : ∀ m1, MR (Rkn R c (Ck R c + 1) (insP (Cp R c) (posn (Cp R c) hn (Ck R c)) (pck hn sn tn))) i m1 → Mx i m0 m1 → Fx 132 135 m0 m1 → Q none (m1, tl len)) : ∀ (d : Nat) (j : Nat) (m : Mm), (j < d) → (j ≤ Ck R c) → (∀ b e, 133 ≤ b ∧ b ≤ 135 → e < j → m b (1800 * i + 30 * c + e) = m0 b (1800 * i + 30 * c + e)) → (∀ b e, 133 ≤ b ∧ b ≤ 135 → j ≤ e → e < Ck R c → m b (1800 * i + 30 * c + e + 1) = m0 b (1800 * i + 30 * c + e)) → (∀ b z, ¬ (133 ≤ b ∧ b ≤ 135 ∧ 1800 * i + 30 * c ≤ z ∧ z ≤ 1800 * i + 30 * c + Ck R c) → m b z = m0 b z) → (∀ e, j ≤ e → e < Ck R c → hn < ht (Cp R c e)) → E 138 13 [some (aA 124), some (aI ((60 * i + c : Nat) : Int)), some (aI ((hn : Nat) : Int)), some (aI ((sn : Nat) : Int)), some (aI ((tn : Nat) : Int)), some (aI ((1800 * i + 30 * c + j : Nat) : Int))] [] (m, tl len) Q := by
  intro d
  induction d with
  | zero => intro j m hd hj I1 I2 I3 I4; omega
  | succ d ih =>
    intro j m hd hj I1 I2 I3 I4
    have hn60 := hV.1
    refine E_s (p' := 15) (st' := aI ((1800 * i + 30 * c + j : Nat) : Int) :: _) rfl rfl ?_
    refine E_s (p' := 17) (st' := aI 30 :: _) rfl rfl ?_
    refine E_s (p' := 18) (st' := aI ((60 * i + c : Nat) : Int) :: _) rfl rfl ?_
    refine E_mul (v := ((1800 * i + 30 * c : Nat) : Int)) rfl (by omega) (by omega) ?_
    refine E_icmp_le (x := ((1800 * i + 30 * c + j : Nat) : Int)) (y := ((1800 * i + 30 * c : Nat) : Int)) rfl (by decide) (fun h_1 => ?_) (fun h_1 => ?_)
    · refine E_go (p' := 89) (L' := [some (aA 124), some (aI ((60 * i + c : Nat) : Int)), some (aI ((hn : Nat) : Int)), some (aI ((sn : Nat) : Int)), some (aI ((tn : Nat) : Int)), some (aI ((1800 * i + 30 * c + j : Nat) : Int))]) (st' := []) rfl rfl rfl ?_
      refine E_s (p' := 90) (st' := aA 124 :: _) rfl rfl ?_
      refine E_gA (b := 133) rfl rfl rfl rfl rfl rfl ?_
      refine E_s (p' := 95) (st' := aI ((1800 * i + 30 * c + j : Nat) : Int) :: _) rfl rfl ?_
      refine E_s (p' := 96) (st' := aI ((hn : Nat) : Int) :: _) rfl rfl ?_
      refine E_ast (e := 1800 * i + 30 * c + j) (N := 7200) rfl rfl (rfl) (by omega) ?_
      refine E_s (p' := 98) (st' := aA 124 :: _) rfl rfl ?_
      refine E_gA (b := 134) rfl rfl rfl rfl rfl rfl ?_
      refine E_s (p' := 103) (st' := aI ((1800 * i + 30 * c + j : Nat) : Int) :: _) rfl rfl ?_
      refine E_s (p' := 104) (st' := aI ((sn : Nat) : Int) :: _) rfl rfl ?_
      refine E_ast (e := 1800 * i + 30 * c + j) (N := 7200) rfl rfl (rfl) (by omega) ?_
      refine E_s (p' := 106) (st' := aA 124 :: _) rfl rfl ?_
      refine E_gA (b := 135) rfl rfl rfl rfl rfl rfl ?_
      refine E_s (p' := 111) (st' := aI ((1800 * i + 30 * c + j : Nat) : Int) :: _) rfl rfl ?_
      refine E_s (p' := 113) (st' := aI ((tn : Nat) : Int) :: _) rfl rfl ?_
      refine E_ast (e := 1800 * i + 30 * c + j) (N := 7200) rfl rfl (rfl) (by omega) ?_
      refine E_s (p' := 115) (st' := aA 124 :: _) rfl rfl ?_
      refine E_gA (b := 132) rfl rfl rfl rfl rfl rfl ?_
      refine E_s (p' := 119) (st' := aI ((60 * i + c : Nat) : Int) :: _) rfl rfl ?_
      refine E_s (p' := 120) rfl rfl ?_
      refine E_ald (e := 60 * i + c) (N := 240) (v := ((Ck R c : Nat) : Int)) rfl rfl (rfl) (by omega) ((up2_ne (by omega)).trans ((up2_ne (by omega)).trans ((up2_ne (by omega)).trans (((I3 _ _ (by omega)).trans (MR_132 hM hcc rfl)))))) ?_
      refine E_s (p' := 122) (st' := aI 1 :: _) rfl rfl ?_
      refine E_add (v := ((Ck R c + 1 : Nat) : Int)) rfl (by omega) (by omega) ?_
      refine E_ast (e := 60 * i + c) (N := 240) rfl rfl (rfl) (by omega) ?_
      refine E_ret rfl rfl ?_
      have hsrt : ∀ e, e < j → ht (Cp R c e) < hn := fun e he => by
        have g1 : ht (Cp R c (j - 1)) < hn := by have := hno (j - 1) (by omega); (try simp only [Nat.add_sub_cancel] at *); omega
        rcases Nat.lt_or_ge e (j - 1) with g | g
        · have := hV.mono hcc g (by omega); omega
        · rw [show e = j - 1 by omega]; exact g1
      have ep := posn_u (P := Cp R c) (h := hn) (n := Ck R c) (k := j) (by omega) hsrt (fun g => by have := I4 _ (Nat.le_refl _) g; omega)
      rw [← ep] at q
      refine q _ (MR.kn hM hV (by omega) ?_ (fun e he => ⟨?_, ?_, ?_⟩) (fun b z g1 g2 g3 g4 => ?_)) (fun b z hb => ?_) (fun b z hb => ?_)
      · exact up2_eq
      · refine (up2_ne (by omega)).trans ?_
        exact ins_sh (f := 1800 * i + 30 * c) (j := j) (g := ht) (w := pck hn sn tn) (by omega) (fun e he => MR_133 hM hcc he rfl) (fun e he => ((up2_ne (by omega)).trans ((up2_ne (by omega)).trans (up2_sl (by omega)))).trans (I1 _ e (by omega) (by omega))) (fun e he he2 => ((up2_ne (by omega)).trans ((up2_ne (by omega)).trans (up2_sl (by omega)))).trans (I2 _ e (by omega) (by omega) he2)) ((up2_ne (by omega)).trans ((up2_ne (by omega)).trans (up2_eq.trans (by rw [pck_ht hs4 ht16])))) e he
      · refine (up2_ne (by omega)).trans ?_
        exact ins_sh (f := 1800 * i + 30 * c) (j := j) (g := so) (w := pck hn sn tn) (by omega) (fun e he => MR_134 hM hcc he rfl) (fun e he => ((up2_ne (by omega)).trans ((up2_sl (by omega)).trans (up2_ne (by omega)))).trans (I1 _ e (by omega) (by omega))) (fun e he he2 => ((up2_ne (by omega)).trans ((up2_sl (by omega)).trans (up2_ne (by omega)))).trans (I2 _ e (by omega) (by omega) he2)) ((up2_ne (by omega)).trans (up2_eq.trans (by rw [pck_so hs4 ht16]))) e he
      · refine (up2_ne (by omega)).trans ?_
        exact ins_sh (f := 1800 * i + 30 * c) (j := j) (g := tu) (w := pck hn sn tn) (by omega) (fun e he => MR_135 hM hcc he rfl) (fun e he => ((up2_sl (by omega)).trans ((up2_ne (by omega)).trans (up2_ne (by omega)))).trans (I1 _ e (by omega) (by omega))) (fun e he he2 => ((up2_sl (by omega)).trans ((up2_ne (by omega)).trans (up2_ne (by omega)))).trans (I2 _ e (by omega) (by omega) he2)) (up2_eq.trans (by rw [pck_tu ht16])) e he
      · exact ((up2_o (by omega)).trans ((up2_o (by omega)).trans ((up2_o (by omega)).trans (up2_o (by omega))))).trans (I3 b z (by omega))
      · have hb2 : ¬ (132 ≤ b ∧ b ≤ 135 ∧ (b = 132 → 60 * i ≤ z ∧ z < 60 * i + 60) ∧ (b ≠ 132 → 1800 * i ≤ z ∧ z < 1800 * i + 1800)) := fun g => hb (by unfold blk; omega)
        exact ((up2_o (by omega)).trans ((up2_o (by omega)).trans ((up2_o (by omega)).trans (up2_o (by omega))))).trans (I3 b z (by omega))
      · exact ((up2_ne (by omega)).trans ((up2_ne (by omega)).trans ((up2_ne (by omega)).trans (up2_ne (by omega))))).trans (I3 b z (by omega))
    · refine E_go (p' := 22) (L' := [some (aA 124), some (aI ((60 * i + c : Nat) : Int)), some (aI ((hn : Nat) : Int)), some (aI ((sn : Nat) : Int)), some (aI ((tn : Nat) : Int)), some (aI ((1800 * i + 30 * c + j : Nat) : Int))]) (st' := []) rfl rfl rfl ?_
      obtain ⟨jp, ej⟩ : ∃ x, j = x + 1 := ⟨j - 1, by omega⟩
      subst ej
      refine E_s (p' := 23) (st' := aA 124 :: _) rfl rfl ?_
      refine E_gA (b := 133) rfl rfl rfl rfl rfl rfl ?_
      refine E_s (p' := 28) (st' := aI ((1800 * i + 30 * c + jp + 1 : Nat) : Int) :: _) rfl rfl ?_
      refine E_s (p' := 29) (st' := aI 1 :: _) rfl rfl ?_
      refine E_sub (v := ((1800 * i + 30 * c + jp : Nat) : Int)) rfl (by omega) (by omega) ?_
      refine E_ald (e := 1800 * i + 30 * c + jp) (N := 7200) (v := ((ht (Cp R c jp) : Nat) : Int)) rfl rfl (rfl) (by omega) ((I1 _ jp (by omega) (by omega)).trans (MR_133 hM hcc (by omega) rfl)) ?_
      refine E_s (p' := 32) (st' := aI ((hn : Nat) : Int) :: _) rfl rfl ?_
      refine E_icmp_le (x := ((ht (Cp R c jp) : Nat) : Int)) (y := ((hn : Nat) : Int)) rfl (by decide) (fun h_2 => ?_) (fun h_2 => ?_)
      · refine E_go (p' := 89) (L' := [some (aA 124), some (aI ((60 * i + c : Nat) : Int)), some (aI ((hn : Nat) : Int)), some (aI ((sn : Nat) : Int)), some (aI ((tn : Nat) : Int)), some (aI ((1800 * i + 30 * c + jp + 1 : Nat) : Int))]) (st' := []) rfl rfl rfl ?_
        refine E_s (p' := 90) (st' := aA 124 :: _) rfl rfl ?_
        refine E_gA (b := 133) rfl rfl rfl rfl rfl rfl ?_
        refine E_s (p' := 95) (st' := aI ((1800 * i + 30 * c + jp + 1 : Nat) : Int) :: _) rfl rfl ?_
        refine E_s (p' := 96) (st' := aI ((hn : Nat) : Int) :: _) rfl rfl ?_
        refine E_ast (e := 1800 * i + 30 * c + jp + 1) (N := 7200) rfl rfl (rfl) (by omega) ?_
        refine E_s (p' := 98) (st' := aA 124 :: _) rfl rfl ?_
        refine E_gA (b := 134) rfl rfl rfl rfl rfl rfl ?_
        refine E_s (p' := 103) (st' := aI ((1800 * i + 30 * c + jp + 1 : Nat) : Int) :: _) rfl rfl ?_
        refine E_s (p' := 104) (st' := aI ((sn : Nat) : Int) :: _) rfl rfl ?_
        refine E_ast (e := 1800 * i + 30 * c + jp + 1) (N := 7200) rfl rfl (rfl) (by omega) ?_
        refine E_s (p' := 106) (st' := aA 124 :: _) rfl rfl ?_
        refine E_gA (b := 135) rfl rfl rfl rfl rfl rfl ?_
        refine E_s (p' := 111) (st' := aI ((1800 * i + 30 * c + jp + 1 : Nat) : Int) :: _) rfl rfl ?_
        refine E_s (p' := 113) (st' := aI ((tn : Nat) : Int) :: _) rfl rfl ?_
        refine E_ast (e := 1800 * i + 30 * c + jp + 1) (N := 7200) rfl rfl (rfl) (by omega) ?_
        refine E_s (p' := 115) (st' := aA 124 :: _) rfl rfl ?_
        refine E_gA (b := 132) rfl rfl rfl rfl rfl rfl ?_
        refine E_s (p' := 119) (st' := aI ((60 * i + c : Nat) : Int) :: _) rfl rfl ?_
        refine E_s (p' := 120) rfl rfl ?_
        refine E_ald (e := 60 * i + c) (N := 240) (v := ((Ck R c : Nat) : Int)) rfl rfl (rfl) (by omega) ((up2_ne (by omega)).trans ((up2_ne (by omega)).trans ((up2_ne (by omega)).trans (((I3 _ _ (by omega)).trans (MR_132 hM hcc rfl)))))) ?_
        refine E_s (p' := 122) (st' := aI 1 :: _) rfl rfl ?_
        refine E_add (v := ((Ck R c + 1 : Nat) : Int)) rfl (by omega) (by omega) ?_
        refine E_ast (e := 60 * i + c) (N := 240) rfl rfl (rfl) (by omega) ?_
        refine E_ret rfl rfl ?_
        have hsrt : ∀ e, e < jp + 1 → ht (Cp R c e) < hn := fun e he => by
          have g1 : ht (Cp R c (jp + 1 - 1)) < hn := by have := hno (jp + 1 - 1) (by omega); (try simp only [Nat.add_sub_cancel] at *); omega
          rcases Nat.lt_or_ge e (jp + 1 - 1) with g | g
          · have := hV.mono hcc g (by omega); omega
          · rw [show e = jp + 1 - 1 by omega]; exact g1
        have ep := posn_u (P := Cp R c) (h := hn) (n := Ck R c) (k := jp + 1) (by omega) hsrt (fun g => by have := I4 _ (Nat.le_refl _) g; omega)
        rw [← ep] at q
        refine q _ (MR.kn hM hV (by omega) ?_ (fun e he => ⟨?_, ?_, ?_⟩) (fun b z g1 g2 g3 g4 => ?_)) (fun b z hb => ?_) (fun b z hb => ?_)
        · exact up2_eq
        · refine (up2_ne (by omega)).trans ?_
          exact ins_sh (f := 1800 * i + 30 * c) (j := jp + 1) (g := ht) (w := pck hn sn tn) (by omega) (fun e he => MR_133 hM hcc he rfl) (fun e he => ((up2_ne (by omega)).trans ((up2_ne (by omega)).trans (up2_sl (by omega)))).trans (I1 _ e (by omega) (by omega))) (fun e he he2 => ((up2_ne (by omega)).trans ((up2_ne (by omega)).trans (up2_sl (by omega)))).trans (I2 _ e (by omega) (by omega) he2)) ((up2_ne (by omega)).trans ((up2_ne (by omega)).trans (up2_eq.trans (by rw [pck_ht hs4 ht16])))) e he
        · refine (up2_ne (by omega)).trans ?_
          exact ins_sh (f := 1800 * i + 30 * c) (j := jp + 1) (g := so) (w := pck hn sn tn) (by omega) (fun e he => MR_134 hM hcc he rfl) (fun e he => ((up2_ne (by omega)).trans ((up2_sl (by omega)).trans (up2_ne (by omega)))).trans (I1 _ e (by omega) (by omega))) (fun e he he2 => ((up2_ne (by omega)).trans ((up2_sl (by omega)).trans (up2_ne (by omega)))).trans (I2 _ e (by omega) (by omega) he2)) ((up2_ne (by omega)).trans (up2_eq.trans (by rw [pck_so hs4 ht16]))) e he
        · refine (up2_ne (by omega)).trans ?_
          exact ins_sh (f := 1800 * i + 30 * c) (j := jp + 1) (g := tu) (w := pck hn sn tn) (by omega) (fun e he => MR_135 hM hcc he rfl) (fun e he => ((up2_sl (by omega)).trans ((up2_ne (by omega)).trans (up2_ne (by omega)))).trans (I1 _ e (by omega) (by omega))) (fun e he he2 => ((up2_sl (by omega)).trans ((up2_ne (by omega)).trans (up2_ne (by omega)))).trans (I2 _ e (by omega) (by omega) he2)) (up2_eq.trans (by rw [pck_tu ht16])) e he
        · exact ((up2_o (by omega)).trans ((up2_o (by omega)).trans ((up2_o (by omega)).trans (up2_o (by omega))))).trans (I3 b z (by omega))
        · have hb2 : ¬ (132 ≤ b ∧ b ≤ 135 ∧ (b = 132 → 60 * i ≤ z ∧ z < 60 * i + 60) ∧ (b ≠ 132 → 1800 * i ≤ z ∧ z < 1800 * i + 1800)) := fun g => hb (by unfold blk; omega)
          exact ((up2_o (by omega)).trans ((up2_o (by omega)).trans ((up2_o (by omega)).trans (up2_o (by omega))))).trans (I3 b z (by omega))
        · exact ((up2_ne (by omega)).trans ((up2_ne (by omega)).trans ((up2_ne (by omega)).trans (up2_ne (by omega))))).trans (I3 b z (by omega))
      · refine E_go (p' := 35) (L' := [some (aA 124), some (aI ((60 * i + c : Nat) : Int)), some (aI ((hn : Nat) : Int)), some (aI ((sn : Nat) : Int)), some (aI ((tn : Nat) : Int)), some (aI ((1800 * i + 30 * c + jp + 1 : Nat) : Int))]) (st' := []) rfl rfl rfl ?_
        refine E_s (p' := 36) (st' := aA 124 :: _) rfl rfl ?_
        refine E_gA (b := 133) rfl rfl rfl rfl rfl rfl ?_
        refine E_s (p' := 41) (st' := aI ((1800 * i + 30 * c + jp + 1 : Nat) : Int) :: _) rfl rfl ?_
        refine E_s (p' := 42) (st' := aA 124 :: _) rfl rfl ?_
        refine E_gA (b := 133) rfl rfl rfl rfl rfl rfl ?_
        refine E_s (p' := 47) (st' := aI ((1800 * i + 30 * c + jp + 1 : Nat) : Int) :: _) rfl rfl ?_
        refine E_s (p' := 48) (st' := aI 1 :: _) rfl rfl ?_
        refine E_sub (v := ((1800 * i + 30 * c + jp : Nat) : Int)) rfl (by omega) (by omega) ?_
        refine E_ald (e := 1800 * i + 30 * c + jp) (N := 7200) (v := ((ht (Cp R c jp) : Nat) : Int)) rfl rfl (rfl) (by omega) ((I1 _ jp (by omega) (by omega)).trans (MR_133 hM hcc (by omega) rfl)) ?_
        refine E_ast (e := 1800 * i + 30 * c + jp + 1) (N := 7200) rfl rfl (rfl) (by omega) ?_
        refine E_s (p' := 52) (st' := aA 124 :: _) rfl rfl ?_
        refine E_gA (b := 134) rfl rfl rfl rfl rfl rfl ?_
        refine E_s (p' := 57) (st' := aI ((1800 * i + 30 * c + jp + 1 : Nat) : Int) :: _) rfl rfl ?_
        refine E_s (p' := 58) (st' := aA 124 :: _) rfl rfl ?_
        refine E_gA (b := 134) rfl rfl rfl rfl rfl rfl ?_
        refine E_s (p' := 63) (st' := aI ((1800 * i + 30 * c + jp + 1 : Nat) : Int) :: _) rfl rfl ?_
        refine E_s (p' := 64) (st' := aI 1 :: _) rfl rfl ?_
        refine E_sub (v := ((1800 * i + 30 * c + jp : Nat) : Int)) rfl (by omega) (by omega) ?_
        refine E_ald (e := 1800 * i + 30 * c + jp) (N := 7200) (v := ((so (Cp R c jp) : Nat) : Int)) rfl rfl (rfl) (by omega) ((up2_ne (by omega)).trans (((I1 _ jp (by omega) (by omega)).trans (MR_134 hM hcc (by omega) rfl)))) ?_
        refine E_ast (e := 1800 * i + 30 * c + jp + 1) (N := 7200) rfl rfl (rfl) (by omega) ?_
        refine E_s (p' := 68) (st' := aA 124 :: _) rfl rfl ?_
        refine E_gA (b := 135) rfl rfl rfl rfl rfl rfl ?_
        refine E_s (p' := 73) (st' := aI ((1800 * i + 30 * c + jp + 1 : Nat) : Int) :: _) rfl rfl ?_
        refine E_s (p' := 74) (st' := aA 124 :: _) rfl rfl ?_
        refine E_gA (b := 135) rfl rfl rfl rfl rfl rfl ?_
        refine E_s (p' := 79) (st' := aI ((1800 * i + 30 * c + jp + 1 : Nat) : Int) :: _) rfl rfl ?_
        refine E_s (p' := 80) (st' := aI 1 :: _) rfl rfl ?_
        refine E_sub (v := ((1800 * i + 30 * c + jp : Nat) : Int)) rfl (by omega) (by omega) ?_
        refine E_ald (e := 1800 * i + 30 * c + jp) (N := 7200) (v := ((tu (Cp R c jp) : Nat) : Int)) rfl rfl (rfl) (by omega) ((up2_ne (by omega)).trans ((up2_ne (by omega)).trans (((I1 _ jp (by omega) (by omega)).trans (MR_135 hM hcc (by omega) rfl))))) ?_
        refine E_ast (e := 1800 * i + 30 * c + jp + 1) (N := 7200) rfl rfl (rfl) (by omega) ?_
        refine E_inc (x := ((1800 * i + 30 * c + jp + 1 : Nat) : Int)) (w := ((1800 * i + 30 * c + jp : Nat) : Int)) (L' := [some (aA 124), some (aI ((60 * i + c : Nat) : Int)), some (aI ((hn : Nat) : Int)), some (aI ((sn : Nat) : Int)), some (aI ((tn : Nat) : Int)), some (aI ((1800 * i + 30 * c + jp : Nat) : Int))]) rfl rfl rfl (by omega) (by omega) rfl ?_
        refine E_s (p' := 13) rfl rfl ?_
        refine ih jp _ (by omega) (by omega) (fun b e g1 g2 => ?_) (fun b e g1 g2 g3 => ?_) (fun b z g1 => ?_) (fun e g1 g2 => ?_)
        · exact ((up2_sl (by omega)).trans ((up2_sl (by omega)).trans (up2_sl (by omega)))).trans (I1 b e g1 (by omega))
        · by_cases g : e = jp
          · subst g
            rcases (show b = 133 ∨ b = 134 ∨ b = 135 by omega) with g4 | g4 | g4
            · subst g4; exact ((up2_ne (by omega)).trans ((up2_ne (by omega)).trans up2_eq)).trans (MR_133 hM hcc g3 rfl).symm
            · subst g4; exact ((up2_ne (by omega)).trans up2_eq).trans (MR_134 hM hcc g3 rfl).symm
            · subst g4; exact up2_eq.trans (MR_135 hM hcc g3 rfl).symm
          · exact ((up2_sl (by omega)).trans ((up2_sl (by omega)).trans (up2_sl (by omega)))).trans (I2 b e g1 (by omega) g3)
        · exact ((up2_o (by omega)).trans ((up2_o (by omega)).trans (up2_o (by omega)))).trans (I3 b z g1)
        · by_cases g : e = jp
          · subst g; omega
          · exact I4 e (by omega) g2
theorem m_put (hi : i < 4) (hM : MR R i m0) (hV : VR R) (hcc : c < Cn R) (hk9 : Ck R c < 30) (hs4 : sn < 4) (ht16 : tn < 16) (hno : ∀ k, k < Ck R c → ht (Cp R c k) ≠ hn) (q : ∀ m1, MR (Rkn R c (Ck R c + 1) (insP (Cp R c) (posn (Cp R c) hn (Ck R c)) (pck hn sn tn))) i m1 → Mx i m0 m1 → Fx 132 135 m0 m1 → Q none (m1, tl len)) : E 138 0 [some (aA 124), some (aI ((60 * i + c : Nat) : Int)), some (aI ((hn : Nat) : Int)), some (aI ((sn : Nat) : Int)), some (aI ((tn : Nat) : Int)), none] [] (m0, tl len) Q := by
  have hn60 := hV.1
  refine E_s (p' := 2) (st' := aI 30 :: _) rfl rfl ?_
  refine E_s (p' := 3) (st' := aI ((60 * i + c : Nat) : Int) :: _) rfl rfl ?_
  refine E_mul (v := ((1800 * i + 30 * c : Nat) : Int)) rfl (by omega) (by omega) ?_
  refine E_s (p' := 5) (st' := aA 124 :: _) rfl rfl ?_
  refine E_gA (b := 132) rfl rfl rfl rfl rfl rfl ?_
  refine E_s (p' := 9) (st' := aI ((60 * i + c : Nat) : Int) :: _) rfl rfl ?_
  refine E_ald (e := 60 * i + c) (N := 240) (v := ((Ck R c : Nat) : Int)) rfl rfl (rfl) (by omega) (MR_132 hM (by omega) (by omega)) ?_
  refine E_add (v := ((1800 * i + 30 * c + Ck R c : Nat) : Int)) rfl (by omega) (by omega) ?_
  refine E_s (p' := 13) (L' := [some (aA 124), some (aI ((60 * i + c : Nat) : Int)), some (aI ((hn : Nat) : Int)), some (aI ((sn : Nat) : Int)), some (aI ((tn : Nat) : Int)), some (aI ((1800 * i + 30 * c + Ck R c : Nat) : Int))]) rfl rfl ?_
  exact yl_put hi hM hV hcc hk9 hs4 ht16 hno q (Ck R c + 1) (Ck R c) m0 (by omega) (by omega) (fun b e _ _ => rfl) (fun b e _ g1 g2 => absurd g1 (by omega)) (fun b z _ => rfl) (fun e g1 g2 => absurd g1 (by omega))
end
