/-! cure: a break comes of CORDS within its reach alone -/
def inS (R : RD) (s x : Nat) : Prop := x = Sw R s ∨ ∃ j, j < Sp R s ∧ x = Sq R s j
def tch (R : RD) (P : Nat → Prop) (x : Nat) : Prop := P x ∨ ∃ s, s < Sn R ∧ 2 ≤ Sp R s ∧ (∃ y, inS R s y ∧ P y) ∧ inS R s x
def Rch (R : RD) (c : Nat) : Nat → Nat → Prop
  | 0 => fun x => x = c
  | k + 1 => tch R (Rch R c k)
def itr (R : RD) (lo hi : Nat → Int) : Nat → Sp2
  | 0 => (lo, hi)
  | k + 1 => rdS R (itr R lo hi k).1 (itr R lo hi k).2 (Sn R)
theorem kw_at {p p' : Sp2} {c x : Nat} {l g : Int} (h : p.1 x = p'.1 x ∧ p.2 x = p'.2 x) : (kw p c l g).1 x = (kw p' c l g).1 x ∧ (kw p c l g).2 x = (kw p' c l g).2 x := by
  unfold kw
  show upf _ _ _ x = upf _ _ _ x ∧ upf _ _ _ x = upf _ _ _ x
  by_cases e : x = c
  · subst e
    simp only [upf_eq]
    rw [h.1, h.2]
    exact ⟨rfl, rfl⟩
  · simp only [upf_ne e]
    exact h
theorem kw_no {p : Sp2} {c x : Nat} {l g : Int} (h : x ≠ c) : (kw p c l g).1 x = p.1 x ∧ (kw p c l g).2 x = p.2 x := by
  unfold kw
  exact ⟨upf_ne h, upf_ne h⟩
theorem lsS_at {R : RD} {f g : Nat → Int} {s : Nat} (h : ∀ x, inS R s x → f x = g x) : ∀ k, k ≤ Sp R s → lsS R f s k = lsS R g s k := by
  intro k
  induction k with
  | zero => intro _; rfl
  | succ k ih =>
    intro hk
    show lsS R f s k + f (Sq R s k) = lsS R g s k + g (Sq R s k)
    rw [ih (by omega), h _ (Or.inr ⟨k, by omega, rfl⟩)]
theorem nrP_at {R : RD} {lo hi lo' hi' : Nat → Int} {s x : Nat} {p p' : Sp2} (h1 : ∀ x, inS R s x → lo x = lo' x) (h2 : ∀ x, inS R s x → hi x = hi' x) (h : p.1 x = p'.1 x ∧ p.2 x = p'.2 x) : ∀ k, k ≤ Sp R s → (nrP R lo hi s p k).1 x = (nrP R lo' hi' s p' k).1 x ∧ (nrP R lo hi s p k).2 x = (nrP R lo' hi' s p' k).2 x := by
  have a1 := lsS_at h1 (Sp R s) (Nat.le_refl _)
  have a2 := lsS_at h2 (Sp R s) (Nat.le_refl _)
  intro k
  induction k with
  | zero =>
    intro _
    show (kw p (Sw R s) (lsS R lo s (Sp R s)) (lsS R hi s (Sp R s))).1 x = (kw p' (Sw R s) (lsS R lo' s (Sp R s)) (lsS R hi' s (Sp R s))).1 x ∧ (kw p (Sw R s) (lsS R lo s (Sp R s)) (lsS R hi s (Sp R s))).2 x = (kw p' (Sw R s) (lsS R lo' s (Sp R s)) (lsS R hi' s (Sp R s))).2 x
    rw [a1, a2]
    exact kw_at h
  | succ k ih =>
    intro hk
    have e1 := h1 (Sw R s) (Or.inl rfl)
    have e2 := h2 (Sw R s) (Or.inl rfl)
    have e3 := h1 (Sq R s k) (Or.inr ⟨k, by omega, rfl⟩)
    have e4 := h2 (Sq R s k) (Or.inr ⟨k, by omega, rfl⟩)
    show (kw (nrP R lo hi s p k) (Sq R s k) (lo (Sw R s) - lsS R hi s (Sp R s) + hi (Sq R s k)) (hi (Sw R s) - lsS R lo s (Sp R s) + lo (Sq R s k))).1 x = (kw (nrP R lo' hi' s p' k) (Sq R s k) (lo' (Sw R s) - lsS R hi' s (Sp R s) + hi' (Sq R s k)) (hi' (Sw R s) - lsS R lo' s (Sp R s) + lo' (Sq R s k))).1 x ∧ (kw (nrP R lo hi s p k) (Sq R s k) (lo (Sw R s) - lsS R hi s (Sp R s) + hi (Sq R s k)) (hi (Sw R s) - lsS R lo s (Sp R s) + lo (Sq R s k))).2 x = (kw (nrP R lo' hi' s p' k) (Sq R s k) (lo' (Sw R s) - lsS R hi' s (Sp R s) + hi' (Sq R s k)) (hi' (Sw R s) - lsS R lo' s (Sp R s) + lo' (Sq R s k))).2 x
    rw [a1, a2, e1, e2, e3, e4]
    exact kw_at (ih (by omega))
theorem nrP_no {R : RD} {lo hi : Nat → Int} {s x : Nat} {p : Sp2} (h : ¬ inS R s x) : ∀ k, k ≤ Sp R s → (nrP R lo hi s p k).1 x = p.1 x ∧ (nrP R lo hi s p k).2 x = p.2 x := by
  intro k
  induction k with
  | zero => intro _; exact kw_no (fun e => h (Or.inl e))
  | succ k ih =>
    intro hk
    have h1 := ih (by omega)
    have h2 := kw_no (p := nrP R lo hi s p k) (c := Sq R s k) (x := x) (l := lo (Sw R s) - lsS R hi s (Sp R s) + hi (Sq R s k)) (g := hi (Sw R s) - lsS R lo s (Sp R s) + lo (Sq R s k)) (fun e => h (Or.inr ⟨k, by omega, e⟩))
    exact ⟨h2.1.trans h1.1, h2.2.trans h1.2⟩
/-- SPANS that agree within what P touches agree within P behind a round -/
theorem rdS_at {R : RD} {P : Nat → Prop} {lo hi lo' hi' : Nat → Int} (h : ∀ x, tch R P x → lo x = lo' x ∧ hi x = hi' x) : ∀ s, s ≤ Sn R → ∀ x, P x → (rdS R lo hi s).1 x = (rdS R lo' hi' s).1 x ∧ (rdS R lo hi s).2 x = (rdS R lo' hi' s).2 x := by
  intro s
  induction s with
  | zero => intro _ x hx; exact h x (Or.inl hx)
  | succ s ih =>
    intro hs x hx
    have h1 := ih (by omega) x hx
    show (if 2 ≤ Sp R s then nrP R lo hi s (rdS R lo hi s) (Sp R s) else rdS R lo hi s).1 x = (if 2 ≤ Sp R s then nrP R lo' hi' s (rdS R lo' hi' s) (Sp R s) else rdS R lo' hi' s).1 x ∧ (if 2 ≤ Sp R s then nrP R lo hi s (rdS R lo hi s) (Sp R s) else rdS R lo hi s).2 x = (if 2 ≤ Sp R s then nrP R lo' hi' s (rdS R lo' hi' s) (Sp R s) else rdS R lo' hi' s).2 x
    by_cases g : 2 ≤ Sp R s
    · simp only [if_pos g]
      by_cases t : ∃ y, inS R s y ∧ P y
      · exact nrP_at (fun z hz => (h z (Or.inr ⟨s, by omega, g, t, hz⟩)).1) (fun z hz => (h z (Or.inr ⟨s, by omega, g, t, hz⟩)).2) h1 (Sp R s) (Nat.le_refl _)
      · have n1 := nrP_no (R := R) (lo := lo) (hi := hi) (p := rdS R lo hi s) (fun hz : inS R s x => t ⟨x, hz, hx⟩) (Sp R s) (Nat.le_refl _)
        have n2 := nrP_no (R := R) (lo := lo') (hi := hi') (p := rdS R lo' hi' s) (fun hz : inS R s x => t ⟨x, hz, hx⟩) (Sp R s) (Nat.le_refl _)
        exact ⟨n1.1.trans (h1.1.trans n2.1.symm), n1.2.trans (h1.2.trans n2.2.symm)⟩
    · simp only [if_neg g]
      exact h1
theorem itr_at {R : RD} {c d : Nat} {lo hi lo' hi' : Nat → Int} (h : ∀ x, Rch R c d x → lo x = lo' x ∧ hi x = hi' x) : ∀ j, j ≤ d → ∀ x, Rch R c (d - j) x → (itr R lo hi j).1 x = (itr R lo' hi' j).1 x ∧ (itr R lo hi j).2 x = (itr R lo' hi' j).2 x := by
  intro j
  induction j with
  | zero => intro _ x hx; exact h x hx
  | succ j ih =>
    intro hj x hx
    refine rdS_at (P := Rch R c (d - (j + 1))) (fun z hz => ih (by omega) z ?_) (Sn R) (Nat.le_refl _) x hx
    rw [show d - j = (d - (j + 1)) + 1 by omega]
    exact hz
theorem inS_lt {R : RD} (hV : VR R) {s x : Nat} (hs : s < Sn R) (h : inS R s x) : x < Cn R := by
  rcases h with h | ⟨j, hj, h⟩
  · rw [h]; exact (hV.2.2.2.2.2.1 s hs).1
  · rw [h]; exact hV.2.2.2.2.2.2 s j hs hj
theorem rdS_n {R : RD} (hV : VR R) {lo hi lo' hi' : Nat → Int} (h : ∀ x, x < Cn R → lo x = lo' x ∧ hi x = hi' x) : ∀ x, x < Cn R → (rdS R lo hi (Sn R)).1 x = (rdS R lo' hi' (Sn R)).1 x ∧ (rdS R lo hi (Sn R)).2 x = (rdS R lo' hi' (Sn R)).2 x := by
  refine rdS_at (P := fun x => x < Cn R) (fun x hx => ?_) (Sn R) (Nat.le_refl _)
  rcases hx with hx | ⟨s, hs, _, _, hx⟩
  · exact h x hx
  · exact h x (inS_lt hV hs hx)
theorem itr_sh {R : RD} {lo hi : Nat → Int} : ∀ k, itr R lo hi (k + 1) = itr R (rdS R lo hi (Sn R)).1 (rdS R lo hi (Sn R)).2 k := by
  intro k
  induction k with
  | zero => rfl
  | succ k ih =>
    show rdS R (itr R lo hi (k + 1)).1 (itr R lo hi (k + 1)).2 (Sn R) = rdS R (itr R (rdS R lo hi (Sn R)).1 (rdS R lo hi (Sn R)).2 k).1 (itr R (rdS R lo hi (Sn R)).1 (rdS R lo hi (Sn R)).2 k).2 (Sn R)
    rw [ih]
theorem itr_fix {R : RD} (hV : VR R) {lo hi : Nat → Int} (h : rdC R lo hi (Cn R) = false) : ∀ k x, x < Cn R → (itr R lo hi k).1 x = lo x ∧ (itr R lo hi k).2 x = hi x := by
  intro k
  induction k with
  | zero => intro x _; exact ⟨rfl, rfl⟩
  | succ k ih =>
    intro x hx
    have h1 := rdS_n hV ih x hx
    have h2 := rdC_f.mp h x hx
    exact ⟨h1.1.trans h2.1, h1.2.trans h2.2⟩
theorem rnd_brk {R : RD} (hV : VR R) : ∀ (e i : Nat) (lo hi : Nat → Int), (∀ c, c < Cn R → lo c ≤ hi c) → (∃ d c, 0 < d ∧ d ≤ e ∧ c < Cn R ∧ (itr R lo hi d).2 c < (itr R lo hi d).1 c) → (rnd R e i lo hi).1 = -1 := by
  intro e
  induction e with
  | zero => intro i lo hi _ ⟨d, c, h1, h2, _⟩; omega
  | succ e ih =>
    intro i lo hi hl ⟨d, c, h1, h2, hc, h3⟩
    show (bif rdC R lo hi (Cn R) then (bif brk (rdS R lo hi (Sn R)).1 (rdS R lo hi (Sn R)).2 (Cn R) then (-1, rdS R lo hi (Sn R)) else rnd R e (i + 1) (rdS R lo hi (Sn R)).1 (rdS R lo hi (Sn R)).2) else ((i : Int), (rdS R lo hi (Sn R)))).1 = -1
    cases g : rdC R lo hi (Cn R)
    · exfalso
      have h4 := itr_fix hV g d c hc
      have h5 := hl c hc
      omega
    · cases g2 : brk (rdS R lo hi (Sn R)).1 (rdS R lo hi (Sn R)).2 (Cn R)
      · have h4 := brk_f.mp g2
        obtain ⟨k, hk⟩ : ∃ k, d = k + 1 := ⟨d - 1, by omega⟩
        subst hk
        rw [itr_sh] at h3
        refine ih (i + 1) _ _ h4 ⟨k, c, ?_, by omega, hc, h3⟩
        rcases Nat.eq_zero_or_pos k with g3 | g3
        · subst g3
          have h5 := h4 c hc
          have h3 : (rdS R lo hi (Sn R)).2 c < (rdS R lo hi (Sn R)).1 c := h3
          omega
        · exact g3
      · rfl
/-- broken behind d rounds at the CORD c, the CORDS x and y freed -/
def bkA (R : RD) (x y : Int) (d c : Nat) : Prop := 0 < d ∧ d ≤ 200 ∧ c < Cn R ∧ (itr R (sL R x y) (sH R x y) d).2 c < (itr R (sL R x y) (sH R x y) d).1 c
theorem prune {R : RD} (hV : VR R) {x y x' y' : Int} {d c : Nat} (h : bkA R x y d c) (ha : ∀ z : Nat, Rch R c d z → (((z : Int) = x ∨ (z : Int) = y) ↔ ((z : Int) = x' ∨ (z : Int) = y'))) : bk R x' y' := by
  obtain ⟨h1, h2, h3, h4⟩ := h
  have e1 := itr_at (R := R) (c := c) (d := d) (lo := sL R x y) (hi := sH R x y) (lo' := sL R x' y') (hi' := sH R x' y') (fun z hz => by
    have g := ha z hz
    unfold sL sH
    by_cases k : (z : Int) = x ∨ (z : Int) = y
    · rw [if_pos k, if_pos k, if_pos (g.mp k), if_pos (g.mp k)]; exact ⟨rfl, rfl⟩
    · rw [if_neg k, if_neg k, if_neg (fun q => k (g.mpr q)), if_neg (fun q => k (g.mpr q))]; exact ⟨rfl, rfl⟩) d (Nat.le_refl _) c (by rw [Nat.sub_self]; exact rfl)
  refine rnd_brk hV 200 0 _ _ (fun z hz => (own_b hV x' y' z hz).2.1) ⟨d, c, h1, h2, h3, ?_⟩
  rw [← e1.1, ← e1.2]
  exact h4
theorem bk_comm {R : RD} {x y : Int} (h : bk R x y) : bk R y x := by
  have e1 : sL R x y = sL R y x := by
    funext z
    unfold sL
    by_cases k : (z : Int) = x ∨ (z : Int) = y
    · rw [if_pos k, if_pos (Or.comm.mp k)]
    · rw [if_neg k, if_neg (fun q => k (Or.comm.mp q))]
  have e2 : sH R x y = sH R y x := by
    funext z
    unfold sH
    by_cases k : (z : Int) = x ∨ (z : Int) = y
    · rw [if_pos k, if_pos (Or.comm.mp k)]
    · rw [if_neg k, if_neg (fun q => k (Or.comm.mp q))]
  unfold bk at h ⊢
  rw [← e1, ← e2]
  exact h
