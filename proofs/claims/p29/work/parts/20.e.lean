theorem CR.add {R : RD} {a col l : Nat} {g o : Int} {m m' : Mm} (h : CR R a m) (e0 : m' (a + 1) 7 = ((Cn R + 1 : Nat) : Int)) (e1 : m' (a + 2) (Cn R) = g) (e2 : m' (a + 3) (Cn R) = o) (e3 : m' (a + 4) (Cn R) = (col : Int)) (e4 : m' (a + 5) (Cn R) = (l : Int)) (e5 : m' (a + 6) (Cn R) = 0) (e6 : m' (a + 7) (Cn R) = 0) (e : ∀ b j, a ≤ b → b ≤ a + 12 → ¬ (a + 2 ≤ b ∧ b ≤ a + 7 ∧ j = Cn R) → (b = a → j = 5) → (b = a + 1 → j ≠ 7) → m' b j = m b j) : CR (Radd R g o col l) a m' := by
  obtain ⟨h1, h2, h3, h4, h5, h6, h7⟩ := h
  refine ⟨e0, (e _ _ (by omega) (by omega) (by omega) (by omega) (by omega)).trans h2, fun d hd => ?_, fun d k hd hk => ?_, (e _ _ (by omega) (by omega) (by omega) (by omega) (by omega)).trans h5, fun s hs => ?_, fun s p hs hp => ?_⟩
  · have hd' : d < Cn R + 1 := hd
    show m' (a + 2) d = upf (Cg R) (Cn R) g d ∧ m' (a + 3) d = upf (Co R) (Cn R) o d ∧ m' (a + 4) d = ((upf (Cc R) (Cn R) col d : Nat) : Int) ∧ m' (a + 5) d = ((upf (Cl R) (Cn R) l d : Nat) : Int) ∧ m' (a + 6) d = ((upf (Ct R) (Cn R) 0 d : Nat) : Int) ∧ m' (a + 7) d = ((upf (Ck R) (Cn R) 0 d : Nat) : Int)
    by_cases q : d = Cn R
    · subst q
      simp only [upf_eq]
      exact ⟨e1, e2, e3, e4, e5, e6⟩
    · obtain ⟨g1, g2, g3, g4, g5, g6⟩ := h3 d (by omega)
      simp only [upf_ne q]
      exact ⟨(e _ _ (by omega) (by omega) (by omega) (by omega) (by omega)).trans g1, (e _ _ (by omega) (by omega) (by omega) (by omega) (by omega)).trans g2, (e _ _ (by omega) (by omega) (by omega) (by omega) (by omega)).trans g3, (e _ _ (by omega) (by omega) (by omega) (by omega) (by omega)).trans g4, (e _ _ (by omega) (by omega) (by omega) (by omega) (by omega)).trans g5, (e _ _ (by omega) (by omega) (by omega) (by omega) (by omega)).trans g6⟩
  · have hd' : d < Cn R + 1 := hd
    have hk' : k < upf (Ck R) (Cn R) 0 d := hk
    by_cases q : d = Cn R
    · subst q; rw [upf_eq] at hk'; omega
    · rw [upf_ne q] at hk'
      exact (e _ _ (by omega) (by omega) (by omega) (by omega) (by omega)).trans (h4 d k (by omega) hk')
  · exact ⟨(e _ _ (by omega) (by omega) (by omega) (by omega) (by omega)).trans (h6 s hs).1, (e _ _ (by omega) (by omega) (by omega) (by omega) (by omega)).trans (h6 s hs).2⟩
  · exact (e _ _ (by omega) (by omega) (by omega) (by omega) (by omega)).trans (h7 s p hs hp)
theorem CR.clr {R : RD} {a : Nat} {m : Mm} (e1 : m (a + 1) 7 = 0) (e2 : m a 5 = 15) (e3 : m (a + 9) 3 = 0) : CR (Rclr R) a m :=
  ⟨e1, e2, fun c hc => absurd hc (Nat.not_lt_zero _), fun c k hc => absurd hc (Nat.not_lt_zero _), e3, fun s hs => absurd hs (Nat.not_lt_zero _), fun s p hs => absurd hs (Nat.not_lt_zero _)⟩
theorem CR.gp {R : RD} {a q : Nat} {m m' : Mm} (h : CR R a m) (e1 : m' a 5 = (q : Int)) (e : ∀ b j, a < b → b ≤ a + 12 → m' b j = m b j) : CR (Rgp R q) a m' := by
  obtain ⟨h1, h2, h3, h4, h5, h6, h7⟩ := h
  refine ⟨(e _ _ (by omega) (by omega)).trans h1, e1, fun d hd => ?_, fun d k hd hk => (e _ _ (by omega) (by omega)).trans (h4 d k hd hk), (e _ _ (by omega) (by omega)).trans h5, fun s hs => ⟨(e _ _ (by omega) (by omega)).trans (h6 s hs).1, (e _ _ (by omega) (by omega)).trans (h6 s hs).2⟩, fun s p hs hp => (e _ _ (by omega) (by omega)).trans (h7 s p hs hp)⟩
  obtain ⟨g1, g2, g3, g4, g5, g6⟩ := h3 d hd
  exact ⟨(e _ _ (by omega) (by omega)).trans g1, (e _ _ (by omega) (by omega)).trans g2, (e _ _ (by omega) (by omega)).trans g3, (e _ _ (by omega) (by omega)).trans g4, (e _ _ (by omega) (by omega)).trans g5, (e _ _ (by omega) (by omega)).trans g6⟩
theorem CR.sm {R : RD} {a n : Nat} {w p : Nat → Nat} {t : Nat → Nat → Nat} {m m' : Mm} (h : CR R a m) (e1 : m' (a + 9) 3 = (n : Int)) (e2 : ∀ s, s < n → m' (a + 10) s = (w s : Int) ∧ m' (a + 11) s = (p s : Int)) (e3 : ∀ s k, s < n → k < p s → m' (a + 12) (12 * s + k) = (t s k : Int)) (e : ∀ b j, a ≤ b → b ≤ a + 8 → (b = a → j = 5) → m' b j = m b j) : CR (Rsm R n w p t) a m' := by
  obtain ⟨h1, h2, h3, h4, -, -, -⟩ := h
  refine ⟨(e _ _ (by omega) (by omega) (by omega)).trans h1, (e _ _ (by omega) (by omega) (by omega)).trans h2, fun d hd => ?_, fun d k hd hk => (e _ _ (by omega) (by omega) (by omega)).trans (h4 d k hd hk), e1, e2, e3⟩
  obtain ⟨g1, g2, g3, g4, g5, g6⟩ := h3 d hd
  exact ⟨(e _ _ (by omega) (by omega) (by omega)).trans g1, (e _ _ (by omega) (by omega) (by omega)).trans g2, (e _ _ (by omega) (by omega) (by omega)).trans g3, (e _ _ (by omega) (by omega) (by omega)).trans g4, (e _ _ (by omega) (by omega) (by omega)).trans g5, (e _ _ (by omega) (by omega) (by omega)).trans g6⟩
/-- how many CORDS one would be below that hung on c -/
def depF (R : RD) : Nat → Nat → Nat
  | 0, _ => 0
  | f + 1, c => if Co R c < 0 then 1 else 1 + depF R f (Co R c).toNat
def dep (R : RD) (c : Nat) : Nat := depF R (c + 1) c
theorem depF_u {R : RD} (hV : VR R) : ∀ f c, c < Cn R → c < f → depF R f c = dep R c := by
  intro f
  induction f using Nat.strongRecOn with
  | ind f ih =>
    intro c hc hf
    obtain ⟨-, ⟨o1, o2⟩, -⟩ := hV.2.2.1 c hc
    obtain ⟨f, rfl⟩ : ∃ g, f = g + 1 := ⟨f - 1, by omega⟩
    unfold dep depF
    by_cases q : Co R c < 0
    · rw [if_pos q, if_pos q]
    · rw [if_neg q, if_neg q, ih f (by omega) _ (by omega) (by omega)]
      rcases Nat.lt_or_ge c f with g | g
      · rw [ih c (by omega) _ (by omega) (by omega)]
      · have e : c = f := by omega
        subst e
        rw [ih c (by omega) _ (by omega) (by omega)]
theorem dep_eq {R : RD} (hV : VR R) {c : Nat} (hc : c < Cn R) : dep R c = if Co R c < 0 then 1 else 1 + dep R (Co R c).toNat := by
  obtain ⟨-, ⟨o1, o2⟩, -⟩ := hV.2.2.1 c hc
  show depF R (c + 1) c = _
  unfold depF
  by_cases q : Co R c < 0
  · rw [if_pos q, if_pos q]
  · rw [if_neg q, if_neg q, depF_u hV c _ (by omega) (by omega)]
/-- how many of the first n are so -/
def cntN (p : Nat → Bool) : Nat → Nat
  | 0 => 0
  | n + 1 => cntN p n + bn (p n)
def sumN (f : Nat → Nat) : Nat → Nat
  | 0 => 0
  | n + 1 => sumN f n + f n
theorem cntN_le (p : Nat → Bool) : ∀ n, cntN p n ≤ n := by
  intro n
  induction n with
  | zero => exact Nat.le_refl _
  | succ n ih => unfold cntN; have := bn_le (p n); omega
theorem sumN_le {f : Nat → Nat} {b : Nat} : ∀ n, (∀ i, i < n → f i ≤ b) → sumN f n ≤ n * b := by
  intro n
  induction n with
  | zero => intro _; exact Nat.zero_le _
  | succ n ih => intro h; unfold sumN; have := ih (fun i hi => h i (by omega)); have := h n (by omega); rw [Nat.add_mul]; omega
/-- the CORDS of a GROUP among the first n -/
def gmem (R : RD) (g : Int) : Nat → List Nat
  | 0 => []
  | n + 1 => if Cg R n = g then gmem R g n ++ [n] else gmem R g n
theorem gmem_le (R : RD) (g : Int) : ∀ n, (gmem R g n).length ≤ n := by
  intro n
  induction n with
  | zero => exact Nat.le_refl _
  | succ n ih => unfold gmem; split; rw [List.length_append]; show _ + 1 ≤ _; omega; omega
section
variable {len : Nat} {m : Mm} {Q : Option AV → Sx → Prop} {R : RD} {a c : Nat} {h : Int}
theorem c_changed (hR : isR a) (q : Q none (up2 (up2 m a 7 0) a 6 0, tl len)) : E 15 0 [some (aA a)] [] (m, tl len) Q := by
  refine E_s (p' := 1) (st' := aA a :: _) rfl rfl ?_
  refine E_s (p' := 2) (st' := aI 0 :: _) rfl rfl ?_
  refine E_pI rfl rfl rfl (kR_0 hR) (Or.inr (by decide)) ?_
  refine E_s (p' := 6) (st' := aA a :: _) rfl rfl ?_
  refine E_s (p' := 7) (st' := aI 0 :: _) rfl rfl ?_
  refine E_pI rfl rfl rfl (kR_0 hR) (Or.inr (by decide)) ?_
  refine E_ret rfl rfl ?_
  exact q
theorem c_readAgain (hR : isR a) (q : Q none (up2 m a 7 0, tl len)) : E 57 0 [some (aA a)] [] (m, tl len) Q := by
  refine E_s (p' := 1) (st' := aA a :: _) rfl rfl ?_
  refine E_s (p' := 2) (st' := aI 0 :: _) rfl rfl ?_
  refine E_pI rfl rfl rfl (kR_0 hR) (Or.inr (by decide)) ?_
  refine E_ret rfl rfl ?_
  exact q
theorem c_addCord (hR : isR a) (hC : CR R a m) (hV : VR R) {g o col l : Int} (hcol : 0 ≤ col) (hl : 0 ≤ l) (q : ∀ m1, Cn R < 60 → CR (Radd R g o col.toNat l.toNat) a m1 → m1 a 7 = 0 → Fx a (a + 7) m m1 → Q (some (aI (Cn R : Int))) (m1, tl len)) (q0 : Cn R = 60 → Q (some (aI (-3))) (m, tl len)) : E 14 0 [some (aA a), some (aI (g)), some (aI (o)), some (aI (col)), some (aI (l)), none] [] (m, tl len) Q := by
  have hn60 := hV.1
  have hab := isR_b hR
  refine E_s (p' := 1) (st' := aA a :: _) rfl rfl ?_
  refine E_gA (b := a + 1) rfl rfl rfl (kR_0 hR) (hR_0_0 hR) rfl ?_
  refine E_gI (v := ((Cn R : Nat) : Int)) rfl rfl rfl (kR_1 hR) hC.1 ?_
  refine E_s (p' := 9) (L' := [some (aA a), some (aI (g)), some (aI (o)), some (aI (col)), some (aI (l)), some (aI ((Cn R : Nat) : Int))]) rfl rfl ?_
  refine E_s (p' := 11) (st' := aI ((Cn R : Nat) : Int) :: _) rfl rfl ?_
  refine E_s (p' := 13) (st' := aI 60 :: _) rfl rfl ?_
  refine E_icmp_lt (x := ((Cn R : Nat) : Int)) (y := 60) rfl (by decide) (fun h_1 => ?_) (fun h_1 => ?_)
  · refine E_go (p' := 19) (L' := [some (aA a), some (aI (g)), some (aI (o)), some (aI (col)), some (aI (l)), some (aI ((Cn R : Nat) : Int))]) (st' := []) rfl rfl rfl ?_
    refine E_s (p' := 20) (st' := aA a :: _) rfl rfl ?_
    refine E_gA (b := a + 1) rfl rfl rfl (kR_0 hR) (hR_0_0 hR) rfl ?_
    refine E_gA (b := a + 2) rfl rfl rfl (kR_1 hR) (hR_1_0 hR) rfl ?_
    refine E_s (p' := 28) (st' := aI ((Cn R : Nat) : Int) :: _) rfl rfl ?_
    refine E_s (p' := 29) (st' := aI (g) :: _) rfl rfl ?_
    refine E_ast (e := Cn R) (N := 60) rfl (kR_2 hR) (rfl) (by omega) ?_
    refine E_s (p' := 31) (st' := aA a :: _) rfl rfl ?_
    refine E_gA (b := a + 1) rfl rfl rfl (kR_0 hR) (hR_0_0 hR) rfl ?_
    refine E_gA (b := a + 3) rfl rfl rfl (kR_1 hR) (hR_1_1 hR) rfl ?_
    refine E_s (p' := 39) (st' := aI ((Cn R : Nat) : Int) :: _) rfl rfl ?_
    refine E_s (p' := 40) (st' := aI (o) :: _) rfl rfl ?_
    refine E_ast (e := Cn R) (N := 60) rfl (kR_3 hR) (rfl) (by omega) ?_
    refine E_s (p' := 42) (st' := aA a :: _) rfl rfl ?_
    refine E_gA (b := a + 1) rfl rfl rfl (kR_0 hR) (hR_0_0 hR) rfl ?_
    refine E_gA (b := a + 4) rfl rfl rfl (kR_1 hR) (hR_1_2 hR) rfl ?_
    refine E_s (p' := 50) (st' := aI ((Cn R : Nat) : Int) :: _) rfl rfl ?_
    refine E_s (p' := 51) (st' := aI (col) :: _) rfl rfl ?_
    refine E_ast (e := Cn R) (N := 60) rfl (kR_4 hR) (rfl) (by omega) ?_
    refine E_s (p' := 53) (st' := aA a :: _) rfl rfl ?_
    refine E_gA (b := a + 1) rfl rfl rfl (kR_0 hR) (hR_0_0 hR) rfl ?_
    refine E_gA (b := a + 5) rfl rfl rfl (kR_1 hR) (hR_1_3 hR) rfl ?_
    refine E_s (p' := 61) (st' := aI ((Cn R : Nat) : Int) :: _) rfl rfl ?_
    refine E_s (p' := 63) (st' := aI (l) :: _) rfl rfl ?_
    refine E_ast (e := Cn R) (N := 60) rfl (kR_5 hR) (rfl) (by omega) ?_
    refine E_s (p' := 65) (st' := aA a :: _) rfl rfl ?_
    refine E_gA (b := a + 1) rfl rfl rfl (kR_0 hR) (hR_0_0 hR) rfl ?_
    refine E_gA (b := a + 6) rfl rfl rfl (kR_1 hR) (hR_1_4 hR) rfl ?_
    refine E_s (p' := 73) (st' := aI ((Cn R : Nat) : Int) :: _) rfl rfl ?_
    refine E_s (p' := 74) (st' := aI 0 :: _) rfl rfl ?_
    refine E_ast (e := Cn R) (N := 60) rfl (kR_6 hR) (rfl) (by omega) ?_
    refine E_s (p' := 76) (st' := aA a :: _) rfl rfl ?_
    refine E_gA (b := a + 1) rfl rfl rfl (kR_0 hR) (hR_0_0 hR) rfl ?_
    refine E_gA (b := a + 7) rfl rfl rfl (kR_1 hR) (hR_1_5 hR) rfl ?_
    refine E_s (p' := 84) (st' := aI ((Cn R : Nat) : Int) :: _) rfl rfl ?_
    refine E_s (p' := 85) (st' := aI 0 :: _) rfl rfl ?_
    refine E_ast (e := Cn R) (N := 60) rfl (kR_7 hR) (rfl) (by omega) ?_
    refine E_s (p' := 87) (st' := aA a :: _) rfl rfl ?_
    refine E_gA (b := a + 1) rfl rfl rfl (kR_0 hR) (hR_0_0 hR) rfl ?_
    refine E_s (p' := 91) (st' := aA (a + 1) :: _) rfl rfl ?_
    refine E_gI (v := ((Cn R : Nat) : Int)) rfl rfl rfl (kR_1 hR) ((up2_ne (by omega)).trans ((up2_ne (by omega)).trans ((up2_ne (by omega)).trans ((up2_ne (by omega)).trans ((up2_ne (by omega)).trans ((up2_ne (by omega)).trans (hC.1))))))) ?_
    refine E_s (p' := 95) (st' := aI 1 :: _) rfl rfl ?_
    refine E_add (v := ((Cn R + 1 : Nat) : Int)) rfl (by omega) (by omega) ?_
    refine E_pI rfl rfl rfl (kR_1 hR) (Or.inl rfl) ?_
    refine E_s (p' := 100) (st' := aA a :: _) rfl rfl ?_
    refine E_callV (k' := 15) (a := a) (r := []) (L0 := [some (aA a)]) rfl rfl rfl rfl rfl (kR_0 hR) rfl rfl rfl rfl ?_
    refine c_changed hR ?_
    refine E_go (p' := 103) (L' := [some (aA a), some (aI (g)), some (aI (o)), some (aI (col)), some (aI (l)), some (aI ((Cn R : Nat) : Int))]) (st' := []) rfl rfl rfl ?_
    refine E_s (p' := 105) (st' := aI ((Cn R : Nat) : Int) :: _) rfl rfl ?_
    refine E_ret rfl rfl ?_
    exact q _ (by omega) (CR.add hC ((up2_ne (by omega)).trans ((up2_ne (by omega)).trans (up2_eq))) ((up2_ne (by omega)).trans ((up2_ne (by omega)).trans ((up2_ne (by omega)).trans ((up2_ne (by omega)).trans ((up2_ne (by omega)).trans ((up2_ne (by omega)).trans ((up2_ne (by omega)).trans ((up2_ne (by omega)).trans (up2_eq))))))))) ((up2_ne (by omega)).trans ((up2_ne (by omega)).trans ((up2_ne (by omega)).trans ((up2_ne (by omega)).trans ((up2_ne (by omega)).trans ((up2_ne (by omega)).trans ((up2_ne (by omega)).trans (up2_eq)))))))) (((up2_ne (by omega)).trans ((up2_ne (by omega)).trans ((up2_ne (by omega)).trans ((up2_ne (by omega)).trans ((up2_ne (by omega)).trans ((up2_ne (by omega)).trans (up2_eq))))))).trans (by omega)) (((up2_ne (by omega)).trans ((up2_ne (by omega)).trans ((up2_ne (by omega)).trans ((up2_ne (by omega)).trans ((up2_ne (by omega)).trans (up2_eq)))))).trans (by omega)) ((up2_ne (by omega)).trans ((up2_ne (by omega)).trans ((up2_ne (by omega)).trans ((up2_ne (by omega)).trans (up2_eq))))) ((up2_ne (by omega)).trans ((up2_ne (by omega)).trans ((up2_ne (by omega)).trans (up2_eq)))) (fun b j h1 h2 h3 h4 h5 => ((up2_o (by omega)).trans ((up2_o (by omega)).trans ((up2_o (by omega)).trans ((up2_o (by omega)).trans ((up2_o (by omega)).trans ((up2_o (by omega)).trans ((up2_o (by omega)).trans ((up2_o (by omega)).trans (up2_o (by omega)))))))))))) ((up2_sl (by omega)).trans (up2_eq)) (fun b j hb => ((up2_ne (by omega)).trans ((up2_ne (by omega)).trans ((up2_ne (by omega)).trans ((up2_ne (by omega)).trans ((up2_ne (by omega)).trans ((up2_ne (by omega)).trans ((up2_ne (by omega)).trans ((up2_ne (by omega)).trans (up2_ne (by omega)))))))))))
  · refine E_go (p' := 16) (L' := [some (aA a), some (aI (g)), some (aI (o)), some (aI (col)), some (aI (l)), some (aI ((Cn R : Nat) : Int))]) (st' := []) rfl rfl rfl ?_
    refine E_s (p' := 18) (st' := aI (-3) :: _) rfl rfl ?_
    refine E_ret rfl rfl ?_
    exact q0 (by omega)
theorem c_makeEmpty (hR : isR a) (q : ∀ m1, CR (Rclr R) a m1 → m1 a 7 = 0 → Fx a (a + 9) m m1 → Q none (m1, tl len)) : E 61 0 [some (aA a)] [] (m, tl len) Q := by
  refine E_s (p' := 1) (st' := aA a :: _) rfl rfl ?_
  refine E_gA (b := a + 1) rfl rfl rfl (kR_0 hR) (hR_0_0 hR) rfl ?_
  refine E_s (p' := 5) (st' := aI 0 :: _) rfl rfl ?_
  refine E_pI rfl rfl rfl (kR_1 hR) (Or.inl rfl) ?_
  refine E_s (p' := 9) (st' := aA a :: _) rfl rfl ?_
  refine E_gA (b := a + 9) rfl rfl rfl (kR_0 hR) (hR_0_1 hR) rfl ?_
  refine E_s (p' := 13) (st' := aI 0 :: _) rfl rfl ?_
  refine E_pI rfl rfl rfl (kR_9 hR) (Or.inl rfl) ?_
  refine E_s (p' := 17) (st' := aA a :: _) rfl rfl ?_
  refine E_s (p' := 19) (st' := aI 15 :: _) rfl rfl ?_
  refine E_pI rfl rfl rfl (kR_0 hR) (Or.inl rfl) ?_
  refine E_s (p' := 23) (st' := aA a :: _) rfl rfl ?_
  refine E_callV (k' := 15) (a := a) (r := []) (L0 := [some (aA a)]) rfl rfl rfl rfl rfl (kR_0 hR) rfl rfl rfl rfl ?_
  refine c_changed hR ?_
  refine E_go (p' := 26) (L' := [some (aA a)]) (st' := []) rfl rfl rfl ?_
  refine E_ret rfl rfl ?_
  exact q _ (CR.clr ((up2_ne (by omega)).trans ((up2_ne (by omega)).trans ((up2_ne (by omega)).trans ((up2_ne (by omega)).trans (up2_eq))))) ((up2_sl (by omega)).trans ((up2_sl (by omega)).trans (up2_eq))) ((up2_ne (by omega)).trans ((up2_ne (by omega)).trans ((up2_ne (by omega)).trans (up2_eq))))) ((up2_sl (by omega)).trans (up2_eq)) (fun b j hb => ((up2_ne (by omega)).trans ((up2_ne (by omega)).trans ((up2_ne (by omega)).trans ((up2_ne (by omega)).trans (up2_ne (by omega)))))))
theorem l_above (hR : isR a) (hC : CR R a m) (hV : VR R) (hc : c < Cn R) (q : Q (some (aI ((min 4 (dep R c) : Nat) : Int))) (m, tl len)) : ∀ (d : Nat) (i : Nat) (z : Int), (4 < i + d) → (i ≤ 4) → ((z = -1 ∧ dep R c = i) ∨ ∃ e : Nat, z = e ∧ e < Cn R ∧ dep R c = i + dep R e) → E 18 7 [some (aA (a + 1)), some (aI ((c : Nat) : Int)), some (aI ((i : Nat) : Int)), some (aI (z)), some (aI ((i : Nat) : Int))] [] (m, tl len) Q := by
  intro d
  induction d with
  | zero => intro i z hd hi hz; omega
  | succ d ih =>
    intro i z hd hi hz
    refine E_s (p' := 9) (st' := aI ((i : Nat) : Int) :: _) rfl rfl ?_
    refine E_s (p' := 10) (st' := aI 3 :: _) rfl rfl ?_
    refine E_icmp_gt (x := ((i : Nat) : Int)) (y := 3) rfl (by decide) (fun h_1 => ?_) (fun h_1 => ?_)
    · refine E_go (p' := 37) (L' := [some (aA (a + 1)), some (aI ((c : Nat) : Int)), some (aI ((i : Nat) : Int)), some (aI (z)), some (aI ((i : Nat) : Int))]) (st' := []) rfl rfl rfl ?_
      refine E_s (p' := 38) (st' := aI ((i : Nat) : Int) :: _) rfl rfl ?_
      refine E_ret rfl rfl ?_
      have e4 : i = min 4 (dep R c) := by
        rcases hz with ⟨z1, z2⟩ | ⟨e9, z1, z2, z3⟩
        · omega
        · have hd9 := dep_eq hV z2
          have : 1 ≤ dep R e9 := by rw [hd9]; split <;> omega
          omega
      rw [← e4] at q
      exact q
    · refine E_go (p' := 13) (L' := [some (aA (a + 1)), some (aI ((c : Nat) : Int)), some (aI ((i : Nat) : Int)), some (aI (z)), some (aI ((i : Nat) : Int))]) (st' := []) rfl rfl rfl ?_
      refine E_s (p' := 14) (st' := aA (a + 1) :: _) rfl rfl ?_
      refine E_s (p' := 15) (st' := aI (z) :: _) rfl rfl ?_
      refine E_callV (k' := 17) (a := a + 1) (r := []) (L0 := [some (aA (a + 1)), some (aI (z))]) rfl rfl rfl rfl rfl (kR_1 hR) rfl rfl rfl rfl ?_
      refine c_has hR hC (fun e he1 he2 => ?_) (fun hno => ?_)
      · refine E_go (p' := 18) (L' := [some (aA (a + 1)), some (aI ((c : Nat) : Int)), some (aI ((i : Nat) : Int)), some (aI (z)), some (aI ((i : Nat) : Int))]) (st' := [aI 1]) rfl rfl rfl ?_
        have hd2 := dep_eq hV he2
        obtain ⟨-, ⟨vo1, vo2⟩, -⟩ := hV.2.2.1 e he2
        have hn60 := hV.1
        refine E_s (p' := 21) rfl rfl ?_
        refine E_inc (x := ((i : Nat) : Int)) (w := ((i + 1 : Nat) : Int)) (L' := [some (aA (a + 1)), some (aI ((c : Nat) : Int)), some (aI ((i + 1 : Nat) : Int)), some (aI (z)), some (aI ((i : Nat) : Int))]) rfl rfl rfl (by omega) (by omega) rfl ?_
        refine E_s (p' := 25) (st' := aA (a + 1) :: _) rfl rfl ?_
        refine E_gA (b := a + 3) rfl rfl rfl (kR_1 hR) (hR_1_1 hR) rfl ?_
        refine E_s (p' := 29) (st' := aI (z) :: _) rfl rfl ?_
        refine E_ald (e := (z).toNat) (N := 60) (v := ((Co R e))) rfl (kR_3 hR) (by omega) (by omega) (by rw [show (z).toNat = e by omega]; exact CR_3 hC (by omega)) ?_
        refine E_s (p' := 31) (L' := [some (aA (a + 1)), some (aI ((c : Nat) : Int)), some (aI ((i + 1 : Nat) : Int)), some (aI ((Co R e))), some (aI ((i : Nat) : Int))]) rfl rfl ?_
        refine E_inc (x := ((i : Nat) : Int)) (w := ((i + 1 : Nat) : Int)) (L' := [some (aA (a + 1)), some (aI ((c : Nat) : Int)), some (aI ((i + 1 : Nat) : Int)), some (aI ((Co R e))), some (aI ((i + 1 : Nat) : Int))]) rfl rfl rfl (by omega) (by omega) rfl ?_
        refine E_s (p' := 7) rfl rfl ?_
        refine ih (i + 1) (Co R e) (by omega) (by omega) ?_
        rcases hz with ⟨z1, z2⟩ | ⟨e9, z1, z2, z3⟩
        · omega
        · have ee : e9 = e := by omega
          subst ee
          rcases (show Co R e9 < 0 ∨ 0 ≤ Co R e9 by omega) with g | g
          · rw [if_pos g] at hd2; exact Or.inl ⟨by omega, by omega⟩
          · rw [if_neg (by omega)] at hd2; exact Or.inr ⟨(Co R e9).toNat, by omega, by omega, by omega⟩
      · refine E_go (p' := 18) (L' := [some (aA (a + 1)), some (aI ((c : Nat) : Int)), some (aI ((i : Nat) : Int)), some (aI (z)), some (aI ((i : Nat) : Int))]) (st' := [aI 0]) rfl rfl rfl ?_
        refine E_s (p' := 37) rfl rfl ?_
        refine E_s (p' := 38) (st' := aI ((i : Nat) : Int) :: _) rfl rfl ?_
        refine E_ret rfl rfl ?_
        have e4 : i = min 4 (dep R c) := by
          rcases hz with ⟨z1, z2⟩ | ⟨e9, z1, z2, z3⟩
          · omega
          · have hd9 := dep_eq hV z2
            have : 1 ≤ dep R e9 := by rw [hd9]; split <;> omega
            omega
        rw [← e4] at q
        exact q
theorem c_above (hR : isR a) (hC : CR R a m) (hV : VR R) (hc : c < Cn R) (q : Q (some (aI ((min 4 (dep R c) : Nat) : Int))) (m, tl len)) : E 18 0 [some (aA (a + 1)), some (aI ((c : Nat) : Int)), none, none, none] [] (m, tl len) Q := by
  refine E_s (p' := 1) (st' := aI 0 :: _) rfl rfl ?_
  refine E_s (p' := 2) (L' := [some (aA (a + 1)), some (aI ((c : Nat) : Int)), some (aI 0), none, none]) rfl rfl ?_
  refine E_s (p' := 3) (st' := aI ((c : Nat) : Int) :: _) rfl rfl ?_
  refine E_s (p' := 4) (L' := [some (aA (a + 1)), some (aI ((c : Nat) : Int)), some (aI 0), some (aI ((c : Nat) : Int)), none]) rfl rfl ?_
  refine E_s (p' := 5) (st' := aI 0 :: _) rfl rfl ?_
  refine E_s (p' := 7) (L' := [some (aA (a + 1)), some (aI ((c : Nat) : Int)), some (aI 0), some (aI ((c : Nat) : Int)), some (aI 0)]) rfl rfl ?_
  exact l_above hR hC hV hc q 5 0 c (by omega) (by omega) (Or.inr ⟨c, rfl, hc, by omega⟩)
theorem l_howManyOn (hR : isR a) (hC : CR R a m) (hV : VR R) (q : Q (some (aI ((cntN (fun d => decide (Co R d = h)) (Cn R) : Nat) : Int))) (m, tl len)) : ∀ (d : Nat) (i : Nat) (t : Nat), (Cn R < i + d) → (i ≤ Cn R) → (t = cntN (fun d => decide (Co R d = h)) i) → E 68 4 [some (aA (a + 1)), some (aI (h)), some (aI ((t : Nat) : Int)), some (aI ((i : Nat) : Int))] [] (m, tl len) Q := by
  intro d
  induction d with
  | zero => intro i t hd hi hz; omega
  | succ d ih =>
    intro i t hd hi hz
    have hn60 := hV.1
    have ht9 := cntN_le (fun d => decide (Co R d = h)) i
    refine E_s (p' := 5) (st' := aI ((i : Nat) : Int) :: _) rfl rfl ?_
    refine E_s (p' := 6) (st' := aA (a + 1) :: _) rfl rfl ?_
    refine E_gI (v := ((Cn R : Nat) : Int)) rfl rfl rfl (kR_1 hR) hC.1 ?_
    refine E_icmp_ge (x := ((i : Nat) : Int)) (y := ((Cn R : Nat) : Int)) rfl (by decide) (fun h_1 => ?_) (fun h_1 => ?_)
    · refine E_go (p' := 36) (L' := [some (aA (a + 1)), some (aI (h)), some (aI ((t : Nat) : Int)), some (aI ((i : Nat) : Int))]) (st' := []) rfl rfl rfl ?_
      refine E_s (p' := 37) (st' := aI ((t : Nat) : Int) :: _) rfl rfl ?_
      refine E_ret rfl rfl ?_
      have ei : i = Cn R := by omega
      subst ei hz
      exact q
    · refine E_go (p' := 12) (L' := [some (aA (a + 1)), some (aI (h)), some (aI ((t : Nat) : Int)), some (aI ((i : Nat) : Int))]) (st' := []) rfl rfl rfl ?_
      refine E_s (p' := 13) (st' := aI ((t : Nat) : Int) :: _) rfl rfl ?_
      refine E_s (p' := 14) (st' := aA (a + 1) :: _) rfl rfl ?_
      refine E_gA (b := a + 3) rfl rfl rfl (kR_1 hR) (hR_1_1 hR) rfl ?_
      refine E_s (p' := 18) (st' := aI ((i : Nat) : Int) :: _) rfl rfl ?_
      refine E_ald (e := i) (N := 60) (v := ((Co R i))) rfl (kR_3 hR) (rfl) (by omega) (CR_3 hC (by omega)) ?_
      refine E_s (p' := 20) (st' := aI (h) :: _) rfl rfl ?_
      suffices h_2 : E 68 28 [some (aA (a + 1)), some (aI (h)), some (aI ((t : Nat) : Int)), some (aI ((i : Nat) : Int))] [aI (bi (!decide (((Co R i)) ≠ (h)))), aI ((t : Nat) : Int)] (m, tl len) Q by
        refine E_icmp_ne (x := ((Co R i))) (y := (h)) rfl (by decide) (fun h_3 => ?_) (fun h_3 => ?_)
        · refine E_go (p' := 27) (L' := [some (aA (a + 1)), some (aI (h)), some (aI ((t : Nat) : Int)), some (aI ((i : Nat) : Int))]) (st' := [aI ((t : Nat) : Int)]) rfl rfl rfl ?_
          refine E_s (p' := 28) (st' := aI 0 :: _) rfl rfl ?_
          rw [decide_eq_true (p := ((Co R i)) ≠ (h)) (by omega)] at h_2
          exact h_2
        · refine E_go (p' := 23) (L' := [some (aA (a + 1)), some (aI (h)), some (aI ((t : Nat) : Int)), some (aI ((i : Nat) : Int))]) (st' := [aI ((t : Nat) : Int)]) rfl rfl rfl ?_
          refine E_s (p' := 24) (st' := aI 1 :: _) rfl rfl ?_
          refine E_s (p' := 28) rfl rfl ?_
          rw [decide_eq_false (p := ((Co R i)) ≠ (h)) (by omega)] at h_2
          exact h_2
      refine E_add (v := ((t + bn (!decide (((Co R i)) ≠ (h))) : Nat) : Int)) rfl add_bn (by have := bn_le (!decide (((Co R i)) ≠ (h))); omega) ?_
      refine E_s (p' := 30) (L' := [some (aA (a + 1)), some (aI (h)), some (aI ((t + bn (!decide (((Co R i)) ≠ (h))) : Nat) : Int)), some (aI ((i : Nat) : Int))]) rfl rfl ?_
      refine E_inc (x := ((i : Nat) : Int)) (w := ((i + 1 : Nat) : Int)) (L' := [some (aA (a + 1)), some (aI (h)), some (aI ((t + bn (!decide (((Co R i)) ≠ (h))) : Nat) : Int)), some (aI ((i + 1 : Nat) : Int))]) rfl rfl rfl (by omega) (by omega) rfl ?_
      refine E_s (p' := 4) rfl rfl ?_
      exact ih (i + 1) _ (by omega) (by omega) (by rw [hz]; simp [cntN])
theorem c_howManyOn (hR : isR a) (hC : CR R a m) (hV : VR R) (q : Q (some (aI ((cntN (fun d => decide (Co R d = h)) (Cn R) : Nat) : Int))) (m, tl len)) : E 68 0 [some (aA (a + 1)), some (aI (h)), none, none] [] (m, tl len) Q := by
  refine E_s (p' := 1) (st' := aI 0 :: _) rfl rfl ?_
  refine E_s (p' := 2) (L' := [some (aA (a + 1)), some (aI (h)), some (aI 0), none]) rfl rfl ?_
  refine E_s (p' := 3) (st' := aI 0 :: _) rfl rfl ?_
  refine E_s (p' := 4) (L' := [some (aA (a + 1)), some (aI (h)), some (aI 0), some (aI 0)]) rfl rfl ?_
  exact l_howManyOn hR hC hV q (Cn R + 1) 0 0 (by omega) (by omega) rfl
theorem l_howManyTorn (hR : isR a) (hC : CR R a m) (hV : VR R) (q : Q (some (aI ((cntN (fun d => decide (Ct R d ≠ 0)) (Cn R) : Nat) : Int))) (m, tl len)) : ∀ (d : Nat) (i : Nat) (t : Nat), (Cn R < i + d) → (i ≤ Cn R) → (t = cntN (fun d => decide (Ct R d ≠ 0)) i) → E 125 4 [some (aA (a + 1)), some (aI ((t : Nat) : Int)), some (aI ((i : Nat) : Int))] [] (m, tl len) Q := by
  intro d
  induction d with
  | zero => intro i t hd hi hz; omega
  | succ d ih =>
    intro i t hd hi hz
    have hn60 := hV.1
    have ht9 := cntN_le (fun d => decide (Ct R d ≠ 0)) i
    refine E_s (p' := 5) (st' := aI ((i : Nat) : Int) :: _) rfl rfl ?_
    refine E_s (p' := 6) (st' := aA (a + 1) :: _) rfl rfl ?_
    refine E_gI (v := ((Cn R : Nat) : Int)) rfl rfl rfl (kR_1 hR) hC.1 ?_
    refine E_icmp_ge (x := ((i : Nat) : Int)) (y := ((Cn R : Nat) : Int)) rfl (by decide) (fun h_1 => ?_) (fun h_1 => ?_)
    · refine E_go (p' := 35) (L' := [some (aA (a + 1)), some (aI ((t : Nat) : Int)), some (aI ((i : Nat) : Int))]) (st' := []) rfl rfl rfl ?_
      refine E_s (p' := 36) (st' := aI ((t : Nat) : Int) :: _) rfl rfl ?_
      refine E_ret rfl rfl ?_
      have ei : i = Cn R := by omega
      subst ei hz
      exact q
    · refine E_go (p' := 12) (L' := [some (aA (a + 1)), some (aI ((t : Nat) : Int)), some (aI ((i : Nat) : Int))]) (st' := []) rfl rfl rfl ?_
      refine E_s (p' := 13) (st' := aI ((t : Nat) : Int) :: _) rfl rfl ?_
      refine E_s (p' := 14) (st' := aA (a + 1) :: _) rfl rfl ?_
      refine E_gA (b := a + 6) rfl rfl rfl (kR_1 hR) (hR_1_4 hR) rfl ?_
      refine E_s (p' := 18) (st' := aI ((i : Nat) : Int) :: _) rfl rfl ?_
      refine E_ald (e := i) (N := 60) (v := ((Ct R i : Nat) : Int)) rfl (kR_6 hR) (rfl) (by omega) (CR_6 hC (by omega)) ?_
      suffices h_2 : E 125 27 [some (aA (a + 1)), some (aI ((t : Nat) : Int)), some (aI ((i : Nat) : Int))] [aI (bi (!decide (((Ct R i : Nat) : Int) = 0))), aI ((t : Nat) : Int)] (m, tl len) Q by
        refine E_if_eq (x := ((Ct R i : Nat) : Int)) rfl (by decide) (fun h_3 => ?_) (fun h_3 => ?_)
        · refine E_go (p' := 26) (L' := [some (aA (a + 1)), some (aI ((t : Nat) : Int)), some (aI ((i : Nat) : Int))]) (st' := [aI ((t : Nat) : Int)]) rfl rfl rfl ?_
          refine E_s (p' := 27) (st' := aI 0 :: _) rfl rfl ?_
          rw [decide_eq_true (p := ((Ct R i : Nat) : Int) = 0) (by omega)] at h_2
          exact h_2
        · refine E_go (p' := 22) (L' := [some (aA (a + 1)), some (aI ((t : Nat) : Int)), some (aI ((i : Nat) : Int))]) (st' := [aI ((t : Nat) : Int)]) rfl rfl rfl ?_
          refine E_s (p' := 23) (st' := aI 1 :: _) rfl rfl ?_
          refine E_s (p' := 27) rfl rfl ?_
          rw [decide_eq_false (p := ((Ct R i : Nat) : Int) = 0) (by omega)] at h_2
          exact h_2
      refine E_add (v := ((t + bn (!decide (((Ct R i : Nat) : Int) = 0)) : Nat) : Int)) rfl add_bn (by have := bn_le (!decide (((Ct R i : Nat) : Int) = 0)); omega) ?_
      refine E_s (p' := 29) (L' := [some (aA (a + 1)), some (aI ((t + bn (!decide (((Ct R i : Nat) : Int) = 0)) : Nat) : Int)), some (aI ((i : Nat) : Int))]) rfl rfl ?_
      refine E_inc (x := ((i : Nat) : Int)) (w := ((i + 1 : Nat) : Int)) (L' := [some (aA (a + 1)), some (aI ((t + bn (!decide (((Ct R i : Nat) : Int) = 0)) : Nat) : Int)), some (aI ((i + 1 : Nat) : Int))]) rfl rfl rfl (by omega) (by omega) rfl ?_
      refine E_s (p' := 4) rfl rfl ?_
      exact ih (i + 1) _ (by omega) (by omega) (by rw [hz]; simp [cntN])
theorem c_howManyTorn (hR : isR a) (hC : CR R a m) (hV : VR R) (q : Q (some (aI ((cntN (fun d => decide (Ct R d ≠ 0)) (Cn R) : Nat) : Int))) (m, tl len)) : E 125 0 [some (aA (a + 1)), none, none] [] (m, tl len) Q := by
  refine E_s (p' := 1) (st' := aI 0 :: _) rfl rfl ?_
  refine E_s (p' := 2) (L' := [some (aA (a + 1)), some (aI 0), none]) rfl rfl ?_
  refine E_s (p' := 3) (st' := aI 0 :: _) rfl rfl ?_
  refine E_s (p' := 4) (L' := [some (aA (a + 1)), some (aI 0), some (aI 0)]) rfl rfl ?_
  exact l_howManyTorn hR hC hV q (Cn R + 1) 0 0 (by omega) (by omega) rfl
theorem l_allKnots (hR : isR a) (hC : CR R a m) (hV : VR R) (q : Q (some (aI ((sumN (Ck R) (Cn R) : Nat) : Int))) (m, tl len)) : ∀ (d : Nat) (i : Nat) (t : Nat), (Cn R < i + d) → (i ≤ Cn R) → (t = sumN (Ck R) i) → E 124 4 [some (aA (a + 1)), some (aI ((t : Nat) : Int)), some (aI ((i : Nat) : Int))] [] (m, tl len) Q := by
  intro d
  induction d with
  | zero => intro i t hd hi hz; omega
  | succ d ih =>
    intro i t hd hi hz
    have hn60 := hV.1
    have ht9 := sumN_le (f := Ck R) (b := 30) i (fun j hj => (hV.2.2.1 j (by omega)).2.2.2.2.2)
    refine E_s (p' := 5) (st' := aI ((i : Nat) : Int) :: _) rfl rfl ?_
    refine E_s (p' := 6) (st' := aA (a + 1) :: _) rfl rfl ?_
    refine E_gI (v := ((Cn R : Nat) : Int)) rfl rfl rfl (kR_1 hR) hC.1 ?_
    refine E_icmp_ge (x := ((i : Nat) : Int)) (y := ((Cn R : Nat) : Int)) rfl (by decide) (fun h_1 => ?_) (fun h_1 => ?_)
    · refine E_go (p' := 27) (L' := [some (aA (a + 1)), some (aI ((t : Nat) : Int)), some (aI ((i : Nat) : Int))]) (st' := []) rfl rfl rfl ?_
      refine E_s (p' := 28) (st' := aI ((t : Nat) : Int) :: _) rfl rfl ?_
      refine E_ret rfl rfl ?_
      have ei : i = Cn R := by omega
      subst ei hz
      exact q
    · refine E_go (p' := 12) (L' := [some (aA (a + 1)), some (aI ((t : Nat) : Int)), some (aI ((i : Nat) : Int))]) (st' := []) rfl rfl rfl ?_
      have hk30 := (hV.2.2.1 i (by omega)).2.2.2.2.2
      refine E_s (p' := 13) (st' := aI ((t : Nat) : Int) :: _) rfl rfl ?_
      refine E_s (p' := 14) (st' := aA (a + 1) :: _) rfl rfl ?_
      refine E_gA (b := a + 7) rfl rfl rfl (kR_1 hR) (hR_1_5 hR) rfl ?_
      refine E_s (p' := 18) (st' := aI ((i : Nat) : Int) :: _) rfl rfl ?_
      refine E_ald (e := i) (N := 60) (v := ((Ck R i : Nat) : Int)) rfl (kR_7 hR) (rfl) (by omega) (CR_7 hC (by omega)) ?_
      refine E_add (v := ((t + Ck R i : Nat) : Int)) rfl (by omega) (by omega) ?_
      refine E_s (p' := 21) (L' := [some (aA (a + 1)), some (aI ((t + Ck R i : Nat) : Int)), some (aI ((i : Nat) : Int))]) rfl rfl ?_
      refine E_inc (x := ((i : Nat) : Int)) (w := ((i + 1 : Nat) : Int)) (L' := [some (aA (a + 1)), some (aI ((t + Ck R i : Nat) : Int)), some (aI ((i + 1 : Nat) : Int))]) rfl rfl rfl (by omega) (by omega) rfl ?_
      refine E_s (p' := 4) rfl rfl ?_
      exact ih (i + 1) _ (by omega) (by omega) (by rw [hz]; rfl)
theorem c_allKnots (hR : isR a) (hC : CR R a m) (hV : VR R) (q : Q (some (aI ((sumN (Ck R) (Cn R) : Nat) : Int))) (m, tl len)) : E 124 0 [some (aA (a + 1)), none, none] [] (m, tl len) Q := by
  refine E_s (p' := 1) (st' := aI 0 :: _) rfl rfl ?_
  refine E_s (p' := 2) (L' := [some (aA (a + 1)), some (aI 0), none]) rfl rfl ?_
  refine E_s (p' := 3) (st' := aI 0 :: _) rfl rfl ?_
  refine E_s (p' := 4) (L' := [some (aA (a + 1)), some (aI 0), some (aI 0)]) rfl rfl ?_
  exact l_allKnots hR hC hV q (Cn R + 1) 0 0 (by omega) (by omega) rfl
end
