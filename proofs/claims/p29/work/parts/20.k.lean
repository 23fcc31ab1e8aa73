/-! the model: what changes of one record -/
/-- slot j of the model's place b is record i's (or b holds no record) -/
def blk (i b j : Nat) : Prop := (b < 125 ∨ 139 < b) ∨ ((b = 125 ∨ b = 126 ∨ b = 136) ∧ j = i) ∨ (127 ≤ b ∧ b ≤ 132 ∧ 60 * i ≤ j ∧ j < 60 * i + 60) ∨ (133 ≤ b ∧ b ≤ 135 ∧ 1800 * i ≤ j ∧ j < 1800 * i + 1800) ∨ (137 ≤ b ∧ b ≤ 138 ∧ 40 * i ≤ j ∧ j < 40 * i + 40) ∨ (b = 139 ∧ 480 * i ≤ j ∧ j < 480 * i + 480)
/-- nothing of another record has changed -/
def Mx (i : Nat) (m m' : Mm) : Prop := ∀ b j, ¬ blk i b j → m' b j = m b j
theorem Mx.rf {i : Nat} {m : Mm} : Mx i m m := fun _ _ _ => rfl
theorem Mx.tr {i : Nat} {m m' m'' : Mm} (h : Mx i m m') (h' : Mx i m' m'') : Mx i m m'' := fun b j hb => (h' b j hb).trans (h b j hb)
theorem Mx.up {i b j : Nat} {x : Int} {m m' : Mm} (h : Mx i m m') (hb : blk i b j) : Mx i m (up2 m' b j x) := fun b' j' hb' => (up2_o (fun g => hb' (by rw [g.1, g.2]; exact hb))).trans (h b' j' hb')
theorem MR.ot {R : RD} {k i : Nat} {m m' : Mm} (h : MR R k m) (hV : VR R) (hk : k ≠ i) (hx : Mx i m m') : MR R k m' := by
  obtain ⟨h1, h2, h3, h4, h5, h6, h7⟩ := h
  have v1 := hV.1
  have v5 := hV.2.2.2.2.1
  refine ⟨(hx _ _ (by unfold blk; omega)).trans h1, (hx _ _ (by unfold blk; omega)).trans h2, fun c hc => ?_, fun c k9 hc hk9 => ?_, (hx _ _ (by unfold blk; omega)).trans h5, fun s hs => ?_, fun s p hs hp => ?_⟩
  · obtain ⟨g1, g2, g3, g4, g5, g6⟩ := h3 c hc
    exact ⟨(hx _ _ (by unfold blk; omega)).trans g1, (hx _ _ (by unfold blk; omega)).trans g2, (hx _ _ (by unfold blk; omega)).trans g3, (hx _ _ (by unfold blk; omega)).trans g4, (hx _ _ (by unfold blk; omega)).trans g5, (hx _ _ (by unfold blk; omega)).trans g6⟩
  · obtain ⟨g1, g2, g3⟩ := h4 c k9 hc hk9
    have := (hV.2.2.1 c hc).2.2.2.2.2
    exact ⟨(hx _ _ (by unfold blk; omega)).trans g1, (hx _ _ (by unfold blk; omega)).trans g2, (hx _ _ (by unfold blk; omega)).trans g3⟩
  · exact ⟨(hx _ _ (by unfold blk; omega)).trans (h6 s hs).1, (hx _ _ (by unfold blk; omega)).trans (h6 s hs).2⟩
  · have := (hV.2.2.2.2.2.1 s hs).2
    exact (hx _ _ (by unfold blk; omega)).trans (h7 s p hs hp)
theorem finMx {S : Nat → RD} {m m1 : Mm} {r d v : Int} {f : RD → Int × RD} {i len : Nat} {R : RD} {Q : Option AV → Sx → Prop} (hS : MS S m) (hi : i < 4) (hr : r = (i : Int)) (q : ∀ m1, MS (on1 S r d f).2 m1 → Co1 m m1 → Q (some (aI (on1 S r d f).1)) (m1, tl len)) (e : f (S i) = (v, R)) (hV : VR R) (h : MR R i m1) (hx : Mx i m m1) (hc : Co1 m m1) : Q (some (aI v)) (m1, tl len) :=
  finM_in hS hi hr q e hV h (fun k hk hne h => h.ot (hS k hk).1 hne hx) hc
theorem MS.of {S : Nat → RD} {m m1 : Mm} (hS : MS S m) (e : ∀ b j, 125 ≤ b → b ≤ 139 → m1 b j = m b j) : MS S m1 := fun i hi => ⟨(hS i hi).1, (hS i hi).2.of e⟩
theorem MR.add {R : RD} {r col l : Nat} {g o : Int} {m m' : Mm} (h : MR R r m) (e0 : m' 125 r = ((Cn R + 1 : Nat) : Int)) (e1 : m' 127 (60 * r + Cn R) = g) (e2 : m' 128 (60 * r + Cn R) = o) (e3 : m' 129 (60 * r + Cn R) = (col : Int)) (e4 : m' 130 (60 * r + Cn R) = (l : Int)) (e5 : m' 131 (60 * r + Cn R) = -1) (e6 : m' 132 (60 * r + Cn R) = 0) (e : ∀ b j, 126 ≤ b → b ≤ 139 → ¬ (127 ≤ b ∧ b ≤ 132 ∧ j = 60 * r + Cn R) → m' b j = m b j) : MR (Radd R g o col l) r m' := by
  obtain ⟨h1, h2, h3, h4, h5, h6, h7⟩ := h
  refine ⟨e0, (e _ _ (by omega) (by omega) (by omega)).trans h2, fun d hd => ?_, fun d k hd hk => ?_, (e _ _ (by omega) (by omega) (by omega)).trans h5, fun s hs => ⟨(e _ _ (by omega) (by omega) (by omega)).trans (h6 s hs).1, (e _ _ (by omega) (by omega) (by omega)).trans (h6 s hs).2⟩, fun s p hs hp => (e _ _ (by omega) (by omega) (by omega)).trans (h7 s p hs hp)⟩
  · have hd' : d < Cn R + 1 := hd
    show m' 127 (60 * r + d) = upf (Cg R) (Cn R) g d ∧ m' 128 (60 * r + d) = upf (Co R) (Cn R) o d ∧ m' 129 (60 * r + d) = ((upf (Cc R) (Cn R) col d : Nat) : Int) ∧ m' 130 (60 * r + d) = ((upf (Cl R) (Cn R) l d : Nat) : Int) ∧ m' 131 (60 * r + d) = (if upf (Ct R) (Cn R) 0 d = 0 then -1 else ((upf (Ct R) (Cn R) 0 d : Nat) : Int)) ∧ m' 132 (60 * r + d) = ((upf (Ck R) (Cn R) 0 d : Nat) : Int)
    by_cases q : d = Cn R
    · subst q
      simp only [upf_eq]
      exact ⟨e1, e2, e3, e4, e5, e6⟩
    · obtain ⟨g1, g2, g3, g4, g5, g6⟩ := h3 d (by omega)
      simp only [upf_ne q]
      exact ⟨(e _ _ (by omega) (by omega) (by omega)).trans g1, (e _ _ (by omega) (by omega) (by omega)).trans g2, (e _ _ (by omega) (by omega) (by omega)).trans g3, (e _ _ (by omega) (by omega) (by omega)).trans g4, (e _ _ (by omega) (by omega) (by omega)).trans g5, (e _ _ (by omega) (by omega) (by omega)).trans g6⟩
  · have hd' : d < Cn R + 1 := hd
    have hk' : k < upf (Ck R) (Cn R) 0 d := hk
    by_cases q : d = Cn R
    · subst q; rw [upf_eq] at hk'; omega
    · rw [upf_ne q] at hk'
      obtain ⟨g1, g2, g3⟩ := h4 d k (by omega) hk'
      exact ⟨(e _ _ (by omega) (by omega) (by omega)).trans g1, (e _ _ (by omega) (by omega) (by omega)).trans g2, (e _ _ (by omega) (by omega) (by omega)).trans g3⟩
theorem MR.kn {R : RD} {r c n : Nat} {P : Nat → Nat} {m m' : Mm} (h : MR R r m) (hV : VR R) (hn : n ≤ 30) (e1 : m' 132 (60 * r + c) = (n : Int)) (e2 : ∀ i, i < n → m' 133 (1800 * r + 30 * c + i) = (ht (P i) : Int) ∧ m' 134 (1800 * r + 30 * c + i) = (so (P i) : Int) ∧ m' 135 (1800 * r + 30 * c + i) = (tu (P i) : Int)) (e : ∀ b j, 125 ≤ b → b ≤ 139 → ¬ (b = 132 ∧ j = 60 * r + c) → ¬ (133 ≤ b ∧ b ≤ 135 ∧ 1800 * r + 30 * c ≤ j ∧ j < 1800 * r + 30 * c + 30) → m' b j = m b j) : MR (Rkn R c n P) r m' := by
  obtain ⟨h1, h2, h3, h4, h5, h6, h7⟩ := h
  refine ⟨(e _ _ (by omega) (by omega) (by omega) (by omega)).trans h1, (e _ _ (by omega) (by omega) (by omega) (by omega)).trans h2, fun d hd => ?_, fun d k hd hk => ?_, (e _ _ (by omega) (by omega) (by omega) (by omega)).trans h5, fun s hs => ⟨(e _ _ (by omega) (by omega) (by omega) (by omega)).trans (h6 s hs).1, (e _ _ (by omega) (by omega) (by omega) (by omega)).trans (h6 s hs).2⟩, fun s p hs hp => (e _ _ (by omega) (by omega) (by omega) (by omega)).trans (h7 s p hs hp)⟩
  · obtain ⟨g1, g2, g3, g4, g5, g6⟩ := h3 d hd
    refine ⟨(e _ _ (by omega) (by omega) (by omega) (by omega)).trans g1, (e _ _ (by omega) (by omega) (by omega) (by omega)).trans g2, (e _ _ (by omega) (by omega) (by omega) (by omega)).trans g3, (e _ _ (by omega) (by omega) (by omega) (by omega)).trans g4, (e _ _ (by omega) (by omega) (by omega) (by omega)).trans g5, ?_⟩
    show m' 132 (60 * r + d) = ((upf (Ck R) c n d : Nat) : Int)
    by_cases q : d = c
    · subst q; rw [upf_eq]; exact e1
    · rw [upf_ne q]; exact (e _ _ (by omega) (by omega) (by omega) (by omega)).trans g6
  · have hk' : k < upf (Ck R) c n d := hk
    show m' 133 (1800 * r + 30 * d + k) = (ht (upf (Cp R) c P d k) : Int) ∧ m' 134 (1800 * r + 30 * d + k) = (so (upf (Cp R) c P d k) : Int) ∧ m' 135 (1800 * r + 30 * d + k) = (tu (upf (Cp R) c P d k) : Int)
    by_cases q : d = c
    · subst q
      rw [upf_eq] at hk'
      simp only [upf_eq]
      exact e2 k hk'
    · rw [upf_ne q] at hk'
      have := (hV.2.2.1 d hd).2.2.2.2.2
      simp only [upf_ne q]
      obtain ⟨g1, g2, g3⟩ := h4 d k hd hk'
      exact ⟨(e _ _ (by omega) (by omega) (by omega) (by omega)).trans g1, (e _ _ (by omega) (by omega) (by omega) (by omega)).trans g2, (e _ _ (by omega) (by omega) (by omega) (by omega)).trans g3⟩
theorem MR.trn {R : RD} {r c t n : Nat} {m m' : Mm} (h : MR R r m) (ht9 : 1 ≤ t) (hn : n ≤ Ck R c) (e0 : m' 131 (60 * r + c) = (t : Int)) (e1 : m' 132 (60 * r + c) = (n : Int)) (e : ∀ b j, 125 ≤ b → b ≤ 139 → ¬ (131 ≤ b ∧ b ≤ 132 ∧ j = 60 * r + c) → m' b j = m b j) : MR (Rtr R c t n) r m' := by
  obtain ⟨h1, h2, h3, h4, h5, h6, h7⟩ := h
  refine ⟨(e _ _ (by omega) (by omega) (by omega)).trans h1, (e _ _ (by omega) (by omega) (by omega)).trans h2, fun d hd => ?_, fun d k hd hk => ?_, (e _ _ (by omega) (by omega) (by omega)).trans h5, fun s hs => ⟨(e _ _ (by omega) (by omega) (by omega)).trans (h6 s hs).1, (e _ _ (by omega) (by omega) (by omega)).trans (h6 s hs).2⟩, fun s p hs hp => (e _ _ (by omega) (by omega) (by omega)).trans (h7 s p hs hp)⟩
  · obtain ⟨g1, g2, g3, g4, g5, g6⟩ := h3 d hd
    refine ⟨(e _ _ (by omega) (by omega) (by omega)).trans g1, (e _ _ (by omega) (by omega) (by omega)).trans g2, (e _ _ (by omega) (by omega) (by omega)).trans g3, (e _ _ (by omega) (by omega) (by omega)).trans g4, ?_, ?_⟩
    · show m' 131 (60 * r + d) = (if upf (Ct R) c t d = 0 then -1 else ((upf (Ct R) c t d : Nat) : Int))
      by_cases q : d = c
      · subst q; rw [upf_eq, if_neg (by omega)]; exact e0
      · rw [upf_ne q]; exact (e _ _ (by omega) (by omega) (by omega)).trans g5
    · show m' 132 (60 * r + d) = ((upf (Ck R) c n d : Nat) : Int)
      by_cases q : d = c
      · subst q; rw [upf_eq]; exact e1
      · rw [upf_ne q]; exact (e _ _ (by omega) (by omega) (by omega)).trans g6
  · have hk' : k < upf (Ck R) c n d := hk
    obtain ⟨g1, g2, g3⟩ := h4 d k hd (by
      by_cases q : d = c
      · subst q; rw [upf_eq] at hk'; omega
      · rw [upf_ne q] at hk'; exact hk')
    exact ⟨(e _ _ (by omega) (by omega) (by omega)).trans g1, (e _ _ (by omega) (by omega) (by omega)).trans g2, (e _ _ (by omega) (by omega) (by omega)).trans g3⟩
theorem MR.gp {R : RD} {r q : Nat} {m m' : Mm} (h : MR R r m) (e1 : m' 126 r = (q : Int)) (e : ∀ b j, 125 ≤ b → b ≤ 139 → b ≠ 126 → m' b j = m b j) : MR (Rgp R q) r m' := by
  obtain ⟨h1, h2, h3, h4, h5, h6, h7⟩ := h
  refine ⟨(e _ _ (by omega) (by omega) (by omega)).trans h1, e1, fun d hd => ?_, fun d k hd hk => ?_, (e _ _ (by omega) (by omega) (by omega)).trans h5, fun s hs => ⟨(e _ _ (by omega) (by omega) (by omega)).trans (h6 s hs).1, (e _ _ (by omega) (by omega) (by omega)).trans (h6 s hs).2⟩, fun s p hs hp => (e _ _ (by omega) (by omega) (by omega)).trans (h7 s p hs hp)⟩
  · obtain ⟨g1, g2, g3, g4, g5, g6⟩ := h3 d hd
    exact ⟨(e _ _ (by omega) (by omega) (by omega)).trans g1, (e _ _ (by omega) (by omega) (by omega)).trans g2, (e _ _ (by omega) (by omega) (by omega)).trans g3, (e _ _ (by omega) (by omega) (by omega)).trans g4, (e _ _ (by omega) (by omega) (by omega)).trans g5, (e _ _ (by omega) (by omega) (by omega)).trans g6⟩
  · obtain ⟨g1, g2, g3⟩ := h4 d k hd hk
    exact ⟨(e _ _ (by omega) (by omega) (by omega)).trans g1, (e _ _ (by omega) (by omega) (by omega)).trans g2, (e _ _ (by omega) (by omega) (by omega)).trans g3⟩
theorem MR.clr {R : RD} {r : Nat} {m : Mm} (e1 : m 125 r = 0) (e2 : m 126 r = 15) (e3 : m 136 r = 0) : MR (Rclr R) r m :=
  ⟨e1, e2, fun c hc => absurd hc (Nat.not_lt_zero _), fun c k hc => absurd hc (Nat.not_lt_zero _), e3, fun s hs => absurd hs (Nat.not_lt_zero _), fun s p hs => absurd hs (Nat.not_lt_zero _)⟩
theorem MR.sm {R : RD} {r n : Nat} {w p : Nat → Nat} {t : Nat → Nat → Nat} {m m' : Mm} (h : MR R r m) (e1 : m' 136 r = (n : Int)) (e2 : ∀ s, s < n → m' 137 (40 * r + s) = (w s : Int) ∧ m' 138 (40 * r + s) = (p s : Int)) (e3 : ∀ s k, s < n → k < p s → m' 139 (480 * r + 12 * s + k) = (t s k : Int)) (e : ∀ b j, 125 ≤ b → b ≤ 135 → m' b j = m b j) : MR (Rsm R n w p t) r m' := by
  obtain ⟨h1, h2, h3, h4, -, -, -⟩ := h
  refine ⟨(e _ _ (by omega) (by omega)).trans h1, (e _ _ (by omega) (by omega)).trans h2, fun d hd => ?_, fun d k hd hk => ?_, e1, e2, e3⟩
  · obtain ⟨g1, g2, g3, g4, g5, g6⟩ := h3 d hd
    exact ⟨(e _ _ (by omega) (by omega)).trans g1, (e _ _ (by omega) (by omega)).trans g2, (e _ _ (by omega) (by omega)).trans g3, (e _ _ (by omega) (by omega)).trans g4, (e _ _ (by omega) (by omega)).trans g5, (e _ _ (by omega) (by omega)).trans g6⟩
  · obtain ⟨g1, g2, g3⟩ := h4 d k hd hk
    exact ⟨(e _ _ (by omega) (by omega)).trans g1, (e _ _ (by omega) (by omega)).trans g2, (e _ _ (by omega) (by omega)).trans g3⟩
