theorem ssum_mono {a b : Nat} (h : a ≤ b) : ssum a ≤ ssum b := by
  induction b with
  | zero => rw [Nat.le_zero.mp h]; exact Nat.le_refl _
  | succ b ih =>
    rcases Nat.lt_or_ge a (b + 1) with q | q
    · exact Nat.le_trans (ih (by omega)) (by show ssum b ≤ ssum b + csz (b + 1); omega)
    · rw [show a = b + 1 by omega]; exact Nat.le_refl _
theorem rn_mono : ∀ (n k : Nat) (f : Fr) (s : Sx) (v : Option AV) (s2 : Sx), rn n k f s = some (v, s2) → s.2.1 ≤ s2.2.1 := by
  intro n
  induction n with
  | zero => intro k f s v s2 h; cases h
  | succ n ih =>
    intro k f s v s2 h
    unfold rn at h
    split at h
    · cases h
    · split at h
      · cases h
      · next f' s' _ =>
        cases hb : Nat.ble s.2.1 s'.2.1 with
        | true => rw [hb] at h; exact Nat.le_trans (Nat.le_of_ble_eq_true hb) (ih _ _ _ _ _ h)
        | false => rw [hb] at h; cases h
      · cases h; exact Nat.le_refl _
      · split at h
        · cases h
        · next v' s' h1 => exact Nat.le_trans (ih _ _ _ _ _ h1) (ih _ _ _ _ _ h)
/-- an instruction that returns: what lies on the stack is the answer -/
def RetOk (k pc : Nat) (v : Option AV) : Prop := (∃ z, v = some (aI z) ∧ ins k pc = some (.ireturn, 1) ∧ (rtc k = 1 ∨ (rtc k = 2 ∧ (z = 0 ∨ z = 1)))) ∨ (∃ z, v = some (aJ z) ∧ ins k pc = some (.lreturn, 1) ∧ rtc k = 3) ∨ (∃ a, v = some (.inr (.inr a)) ∧ ins k pc = some (.areturn, 1) ∧ rtc k = 4) ∨ (v = none ∧ ins k pc = some (.return_, 1) ∧ rtc k = 0)
theorem mcall_ret {k pc h k' : Nat} {L : Lc} {st : List AV} {s : Sx} (v : Option AV) : ¬ mcall k pc L st s h k' = some (.inr (.inl v)) := by
  intro e
  unfold mcall at e
  obtain ⟨-, e⟩ := ckP_ok e
  cases hb : Nat.beq h 1 with
  | true =>
    rw [hb] at e
    obtain ⟨-, e⟩ := ckP_ok e
    cases e
  | false =>
    rw [hb] at e
    simp only [cond_false] at e
    split at e
    · obtain ⟨-, e⟩ := ckP_ok e
      cases e
    · cases e
theorem nx_ret {pc : Nat} {L : Lc} {st : List AV} {s : Sx} {x : Option AV ⊕ (Nat × (List AV × Fr))} : ¬ nx pc L st s = some (.inr x) := fun h => by unfold nx at h; cases h
theorem jp_ret {pc : Nat} {d : Int} {L : Lc} {st : List AV} {s : Sx} {x : Option AV ⊕ (Nat × (List AV × Fr))} : ¬ jp pc d L st s = some (.inr x) := fun h => by
  unfold jp at h
  split at h
  · exact nx_ret h
  · cases h
