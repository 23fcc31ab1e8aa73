/-! the law's loop: what holds ahead of each call -/
theorem CS.of9 {S : Nat → RD} {m m1 : Mm} (hS : CS S m) (e : ∀ b j, 20 ≤ b → b < 124 → m1 b j = m b j) : CS S m1 := fun i hi => (hS i hi).of (fun b j g1 g2 => by unfold tgA at g1 g2; exact e b j (by omega) (by omega))
theorem FL.of9 {l : List (Nat × Nat)} {m m1 : Mm} (h : FL l m) (e : ∀ b j, 10 ≤ b → b ≤ 12 → m1 b j = m b j) : FL l m1 := by
  obtain ⟨h1, h2, h3⟩ := h
  exact ⟨h1, (e _ _ (by omega) (by omega)).trans h2, fun j hj => ⟨(e _ _ (by omega) (by omega)).trans (h3 j hj).1, (e _ _ (by omega) (by omega)).trans (h3 j hj).2⟩⟩
theorem FM.of9 {l : List (Nat × Nat)} {m m1 : Mm} (h : FM l m) (e : ∀ b j, (b = 124 ∧ j = 50) ∨ b = 165 ∨ b = 166 → m1 b j = m b j) : FM l m1 := by
  obtain ⟨h1, h2, h3⟩ := h
  exact ⟨h1, (e _ _ (by omega)).trans h2, fun j hj => ⟨(e _ _ (by omega)).trans (h3 j hj).1, (e _ _ (by omega)).trans (h3 j hj).2⟩⟩
def IV (xs : Nat → Int) (S : Nat → RD) (l1 l2 : List (Nat × Nat)) (n : Nat) (m : Mm) : Prop := CS S m ∧ MS S m ∧ FL l1 m ∧ FM l2 m ∧ (n ≤ 2 ∧ m 124 44 = (n : Int)) ∧ ∀ j, m 0 j = xs j
section
variable {xs : Nat → Int} {S S' : Nat → RD} {l1 l2 l1' l2' : List (Nat × Nat)} {n : Nat} {m m1 m2 : Mm} {r t v : Int}
theorem IV.mid (h : IV xs S l1 l2 n m) (hF : ∀ b j, b = 0 ∨ 124 ≤ b → m1 b j = m b j) : MS S m1 ∧ FM l2 m1 ∧ (n ≤ 2 ∧ m1 124 44 = (n : Int)) ∧ ∀ j, m1 0 j = xs j := ⟨h.2.1.of (fun b j g1 g2 => hF b j (by omega)), h.2.2.2.1.of9 (fun b j g => hF b j (by omega)), ⟨h.2.2.2.2.1.1, (hF _ _ (by omega)).trans h.2.2.2.2.1.2⟩, fun j => (hF 0 j (by omega)).trans (h.2.2.2.2.2 j)⟩
theorem IV.step (h : IV xs S l1 l2 n m) (hS1 : CS S' m1) (hF1 : Mo m m1) (hS2 : MS S' m2) (hF2 : Co1 m1 m2) : IV xs S' l1 l2 n m2 := ⟨hS1.of9 (fun b j g1 g2 => hF2 b j (by omega)), hS2, h.2.2.1.of9 (fun b j g1 g2 => (hF2 b j (by omega)).trans (hF1 b j (by omega))), h.2.2.2.1.of9 (fun b j g => (hF2 b j (by omega)).trans (hF1 b j (by omega))), ⟨h.2.2.2.2.1.1, (hF2 _ _ (by omega)).trans ((hF1 _ _ (by omega)).trans h.2.2.2.2.1.2)⟩, fun j => (hF2 _ _ (by omega)).trans ((hF1 _ _ (by omega)).trans (h.2.2.2.2.2 j))⟩
theorem copy_MS {i k : Nat} (hi : i < 4) (hk : k < 4) (hS : MS S m) (h : MS (upf S k (S i)) m1) (g : agr (S i) (S k)) : MS S m1 := by
  intro j hj
  have := h j hj
  by_cases e : j = k
  · subst e
    rw [upf_eq] at this
    exact ⟨(hS j hj).1, this.2.agr g⟩
  · rw [upf_ne e] at this
    exact this
theorem copy_eq {v9 : Int} (hS : MS S m) (h1 : spCopy S r t v S') (h2 : (∃ i k : Nat, i < 4 ∧ k < 4 ∧ r = i ∧ t = k ∧ v9 = (Cn (S i) : Int) ∧ MS (upf S k (S i)) m2) ∨ (((r < 0 ∨ 3 < r) ∨ (t < 0 ∨ 3 < t)) ∧ v9 = -2 ∧ MS S m2)) : v = v9 ∧ MS S' m2 := by
  rcases h1 with ⟨i, k, hi, hk, hr, ht, hv, h1⟩ | ⟨ho, hv, h1⟩
  · rcases h2 with ⟨i2, k2, hi2, hk2, hr2, ht2, hv2, h2⟩ | ⟨ho2, hv2, h2⟩
    · have e1 : i2 = i := by omega
      have e2 : k2 = k := by omega
      subst e1 e2
      refine ⟨hv.trans hv2.symm, ?_⟩
      rcases h1 with h1 | ⟨h1, g⟩
      · rw [h1]; exact h2
      · rw [h1]; exact copy_MS hi hk hS h2 g
    · exact absurd ho2 (by omega)
  · rcases h2 with ⟨i2, k2, hi2, hk2, hr2, ht2, hv2, h2⟩ | ⟨ho2, hv2, h2⟩
    · exact absurd ho (by omega)
    · exact ⟨hv.trans hv2.symm, by rw [h1]; exact h2⟩
theorem like_eq {v9 : Int} (h1 : spLike S r t v) (h2 : spLike S r t v9) : v = v9 := by
  rcases h1 with ⟨i, k, hi, hk, hr, ht, hv⟩ | ⟨ho, hv⟩
  · rcases h2 with ⟨i2, k2, hi2, hk2, hr2, ht2, hv2⟩ | ⟨ho2, hv2⟩
    · have e1 : i2 = i := by omega
      have e2 : k2 = k := by omega
      subst e1 e2
      exact hv.trans hv2.symm
    · exact absurd ho2 (by omega)
  · rcases h2 with ⟨i2, k2, hi2, hk2, hr2, ht2, hv2⟩ | ⟨ho2, hv2⟩
    · exact absurd ho (by omega)
    · exact hv.trans hv2.symm
theorem inbN {e len : Nat} (h : e < len) : inb ((e : Nat) : Int) len = true := by
  unfold inb
  rw [decide_eq_true (by omega), decide_eq_true (by omega)]
  rfl
end
def R00 : RD := mkR 0 15 (fun _ => 0) (fun _ => 0) (fun _ => 0) (fun _ => 0) (fun _ => 0) (fun _ => 0) (fun _ _ => 0) 0 (fun _ => 0) (fun _ => 0) (fun _ _ => 0)
theorem V_00 : VR R00 := ⟨Nat.zero_le _, (show 1 ≤ 15 ∧ 15 ≤ 100 by decide), fun c hc => absurd hc (Nat.not_lt_zero _), fun c k hc => absurd hc (Nat.not_lt_zero _), Nat.zero_le _, fun s hs => absurd hs (Nat.not_lt_zero _), fun s p hs => absurd hs (Nat.not_lt_zero _)⟩
theorem CR_00 {a : Nat} {m : Mm} (h1 : m (a + 1) 7 = 0) (h2 : m a 5 = 15) (h3 : m (a + 9) 3 = 0) : CR R00 a m := ⟨h1, h2, fun c hc => absurd hc (Nat.not_lt_zero _), fun c k hc => absurd hc (Nat.not_lt_zero _), h3, fun s hs => absurd hs (Nat.not_lt_zero _), fun s p hs => absurd hs (Nat.not_lt_zero _)⟩
theorem MR_00 {i : Nat} {m : Mm} (h1 : m 125 i = 0) (h2 : m 126 i = 15) (h3 : m 136 i = 0) : MR R00 i m := ⟨h1, h2, fun c hc => absurd hc (Nat.not_lt_zero _), fun c k hc => absurd hc (Nat.not_lt_zero _), h3, fun s hs => absurd hs (Nat.not_lt_zero _), fun s p hs => absurd hs (Nat.not_lt_zero _)⟩
theorem IV0 (xs : Nat → Int) (len : Nat) : IV xs (fun _ => R00) [] [] 0 (s0 xs len).1 := by
  refine ⟨fun i hi => ?_, fun i hi => ?_, ⟨by decide, rfl, fun j hj => absurd hj (Nat.not_lt_zero _)⟩, ⟨by decide, rfl, fun j hj => absurd hj (Nat.not_lt_zero _)⟩, ⟨by decide, rfl⟩, fun j => rfl⟩
  · rcases (show i = 0 ∨ i = 1 ∨ i = 2 ∨ i = 3 by omega) with e | e | e | e <;> subst e <;> exact ⟨V_00, CR_00 rfl rfl rfl, Or.inl rfl⟩
  · rcases (show i = 0 ∨ i = 1 ∨ i = 2 ∨ i = 3 by omega) with e | e | e | e <;> subst e <;> exact ⟨V_00, MR_00 rfl rfl rfl⟩
