/-! runs as goals: from the next state to this one -/
def mkF : List (Nat × Nat) := [(124, 52), (124, 51), (124, 49), (124, 48), (124, 47), (124, 46), (124, 45), (124, 43), (124, 42), (124, 41), (124, 40), (124, 39), (124, 38), (124, 37), (124, 36), (124, 35), (124, 34), (124, 33), (124, 32), (124, 31), (124, 30), (124, 23), (124, 22), (124, 21), (124, 20), (124, 18), (124, 17), (124, 16), (124, 15), (124, 14), (124, 13), (124, 12), (124, 11), (124, 10), (124, 9), (124, 8), (124, 7), (124, 6), (124, 5), (124, 4), (124, 3), (124, 2), (124, 1), (124, 0), (2, 3), (98, 4), (113, 9), (113, 8), (113, 7), (113, 6), (113, 5), (113, 4), (113, 3), (113, 2), (113, 1), (113, 0), (98, 3), (98, 2), (98, 1), (107, 2), (107, 1), (107, 0), (98, 0), (99, 6), (99, 5), (99, 4), (99, 3), (99, 2), (99, 1), (99, 0), (2, 2), (72, 4), (87, 9), (87, 8), (87, 7), (87, 6), (87, 5), (87, 4), (87, 3), (87, 2), (87, 1), (87, 0), (72, 3), (72, 2), (72, 1), (81, 2), (81, 1), (81, 0), (72, 0), (73, 6), (73, 5), (73, 4), (73, 3), (73, 2), (73, 1), (73, 0), (2, 1), (46, 4), (61, 9), (61, 8), (61, 7), (61, 6), (61, 5), (61, 4), (61, 3), (61, 2), (61, 1), (61, 0), (46, 3), (46, 2), (46, 1), (55, 2), (55, 1), (55, 0), (46, 0), (47, 6), (47, 5), (47, 4), (47, 3), (47, 2), (47, 1), (47, 0), (2, 0), (20, 4), (35, 9), (35, 8), (35, 7), (35, 6), (35, 5), (35, 4), (35, 3), (35, 2), (35, 1), (35, 0), (20, 3), (20, 2), (20, 1), (29, 2), (29, 1), (29, 0), (20, 0), (21, 6), (21, 5), (21, 4), (21, 3), (21, 2), (21, 1), (21, 0), (1, 5), (1, 4), (15, 2), (15, 1), (15, 0), (1, 3), (10, 4), (10, 3), (10, 1), (10, 0), (1, 2), (8, 0), (1, 1), (3, 3), (3, 2), (3, 1), (3, 0), (1, 0)]
def E (k pc : Nat) (L : Lc) (st : List AV) (s : Sx) (Q : Option AV → Sx → Prop) : Prop := ∃ n v s2, rn n k (pc, (L, st)) s = some (v, s2) ∧ Q v s2
theorem rn_up : ∀ (n m k : Nat) (f : Fr) (s : Sx) (r : Option AV × Sx), rn n k f s = some r → n ≤ m → rn m k f s = some r := by
  intro n
  induction n with
  | zero => intro m k f s r h; cases h
  | succ n ih =>
    intro m k f s r h hm
    obtain ⟨m, rfl⟩ : ∃ m', m = m' + 1 := ⟨m - 1, by omega⟩
    have hm : n ≤ m := by omega
    unfold rn at h ⊢
    split at h
    · cases h
    · next i len hi =>
      split at h
      · cases h
      · next f' s' hst =>
        cases hb : Nat.ble s.2.1 s'.2.1 with
        | true => rw [hb] at h; exact ih m _ _ _ _ h hm
        | false => rw [hb] at h; cases h
      · exact h
      · next k' av f' hst =>
        split at h
        · cases h
        · next v' s' h1 =>
          rw [ih m _ _ _ _ h1 hm]
          exact ih m _ _ _ _ h hm
section RULES
variable {k pc n p' : Nat} {L L' : Lc} {st st' r : List AV} {s s' : Sx} {Q : Option AV → Sx → Prop} {i : Instr}
theorem E_st (hi : ins k pc = some (i, n)) (hs : stp k pc L st s i n = some (.inl ((p', (L', st')), s'))) (hb : Nat.ble s.2.1 s'.2.1 = true) (kk : E k p' L' st' s' Q) : E k pc L st s Q := by
  obtain ⟨m, v, s2, h, q⟩ := kk
  refine ⟨m + 1, v, s2, ?_, q⟩
  unfold rn
  simp only [hi, hs, hb, cond_true]
  exact h
theorem E_ret {v : Option AV} (hi : ins k pc = some (i, n)) (hs : stp k pc L st s i n = some (.inr (.inl v))) (q : Q v s) : E k pc L st s Q := by
  refine ⟨1, v, s, ?_, q⟩
  unfold rn
  simp only [hi, hs]
theorem E_call {k' : Nat} {av : List AV} (hi : ins k pc = some (i, n)) (hs : stp k pc L st s i n = some (.inr (.inr (k', (av, (p', (L', r))))))) (kk : E k' 0 (entL k' av) [] s (fun v s1 => E k p' L' (v.toList ++ r) s1 Q)) : E k pc L st s Q := by
  obtain ⟨m1, v1, s1, h1, m2, v2, s2, h2, q⟩ := kk
  refine ⟨m1 + m2 + 1, v2, s2, ?_, q⟩
  unfold rn
  simp only [hi, hs]
  rw [rn_up m1 (m1 + m2) _ _ _ _ h1 (by omega)]
  exact rn_up m2 (m1 + m2) _ _ _ _ h2 (by omega)
theorem E_mono {Q' : Option AV → Sx → Prop} (h : E k pc L st s Q) (hq : ∀ v s2, Q v s2 → Q' v s2) : E k pc L st s Q' := by
  obtain ⟨m, v, s2, h1, q⟩ := h
  exact ⟨m, v, s2, h1, hq v s2 q⟩
theorem E_if {c : Jvm.ClassFile.Cond} {d x : Int} (hi : ins k pc = some (.ifCond c d, n)) (h0 : 0 ≤ (pc : Int) + d) (kt : cmpb c x 0 = true → E k ((pc : Int) + d).toNat L r s Q) (kf : cmpb c x 0 = false → E k (pc + n) L r s Q) : E k pc L (aI x :: r) s Q := by
  cases hb : cmpb c x 0 with
  | true => exact E_st hi (by show ckP (decide _) (cond (cmpb c x 0) _ _) = _; rw [decide_eq_true h0, hb]; rfl) (Nat.ble_self_eq_true _) (kt hb)
  | false => exact E_st hi (by show ckP (decide _) (cond (cmpb c x 0) _ _) = _; rw [decide_eq_true h0, hb]; rfl) (Nat.ble_self_eq_true _) (kf hb)
theorem E_icmp {c : Jvm.ClassFile.Cond} {d x y : Int} (hi : ins k pc = some (.if_icmp c d, n)) (h0 : 0 ≤ (pc : Int) + d) (kt : cmpb c x y = true → E k ((pc : Int) + d).toNat L r s Q) (kf : cmpb c x y = false → E k (pc + n) L r s Q) : E k pc L (aI y :: aI x :: r) s Q := by
  cases hb : cmpb c x y with
  | true => exact E_st hi (by show ckP (decide _) (cond (cmpb c x y) _ _) = _; rw [decide_eq_true h0, hb]; rfl) (Nat.ble_self_eq_true _) (kt hb)
  | false => exact E_st hi (by show ckP (decide _) (cond (cmpb c x y) _ _) = _; rw [decide_eq_true h0, hb]; rfl) (Nat.ble_self_eq_true _) (kf hb)
end RULES
/-- the law's start: of anything behind the constructors -/
def s0 (xs : Nat → Int) (len : Nat) : Sx := (up2 (up2 (up2 (up2 (up2 (up2 (up2 (up2 (m0 xs) 20 5 15) 46 5 15) 72 5 15) 98 5 15) 126 0 15) 126 1 15) 126 2 15) 126 3 15, (168, (mkF, len)))
