/-! runs as goals: from the next state to this one -/
def mkF : List (Nat × Nat) := [(124, 52), (124, 51), (124, 49), (124, 48), (124, 47), (124, 46), (124, 45), (124, 43), (124, 42), (124, 41), (124, 40), (124, 39), (124, 38), (124, 37), (124, 36), (124, 35), (124, 34), (124, 33), (124, 32), (124, 31), (124, 30), (124, 23), (124, 22), (124, 21), (124, 20), (124, 18), (124, 17), (124, 16), (124, 15), (124, 14), (124, 13), (124, 12), (124, 11), (124, 10), (124, 9), (124, 8), (124, 7), (124, 6), (124, 5), (124, 4), (124, 3), (124, 2), (124, 1), (124, 0), (2, 3), (98, 4), (113, 9), (113, 8), (113, 7), (113, 6), (113, 5), (113, 4), (113, 3), (113, 2), (113, 1), (113, 0), (98, 3), (98, 2), (98, 1), (107, 2), (107, 1), (107, 0), (98, 0), (99, 6), (99, 5), (99, 4), (99, 3), (99, 2), (99, 1), (99, 0), (2, 2), (72, 4), (87, 9), (87, 8), (87, 7), (87, 6), (87, 5), (87, 4), (87, 3), (87, 2), (87, 1), (87, 0), (72, 3), (72, 2), (72, 1), (81, 2), (81, 1), (81, 0), (72, 0), (73, 6), (73, 5), (73, 4), (73, 3), (73, 2), (73, 1), (73, 0), (2, 1), (46, 4), (61, 9), (61, 8), (61, 7), (61, 6), (61, 5), (61, 4), (61, 3), (61, 2), (61, 1), (61, 0), (46, 3), (46, 2), (46, 1), (55, 2), (55, 1), (55, 0), (46, 0), (47, 6), (47, 5), (47, 4), (47, 3), (47, 2), (47, 1), (47, 0), (2, 0), (20, 4), (35, 9), (35, 8), (35, 7), (35, 6), (35, 5), (35, 4), (35, 3), (35, 2), (35, 1), (35, 0), (20, 3), (20, 2), (20, 1), (29, 2), (29, 1), (29, 0), (20, 0), (21, 6), (21, 5), (21, 4), (21, 3), (21, 2), (21, 1), (21, 0), (1, 5), (1, 4), (15, 2), (15, 1), (15, 0), (1, 3), (10, 4), (10, 3), (10, 1), (10, 0), (1, 2), (8, 0), (1, 1), (3, 3), (3, 2), (3, 1), (3, 0), (1, 0)]
def E (k pc : Nat) (L : Lc) (st : List AV) (s : Sx) (Q : Option AV → Sx → Prop) : Prop := ∃ n v s2, rn n k (pc, (L, st)) s = some (v, s2) ∧ Q v s2
theorem rn_up : ∀ (n m k : Nat) (f : Fr) (s : Sx) (r : Option AV × Sx), rn n k f s = some r → n ≤ m → rn m k f s = some r := by
  intro n
  induction n with
  | zero => intro m k f s r h; cases h
  | succ n ih =>
    intro m k f s r h hm
    obtain ⟨m, rfl⟩ : ∃ m', m = m' + 1 := ⟨m - 1, by omega⟩
    have hm : n ≤ m := by omega
    unfold rn at h ⊢
    split at h
    · cases h
    · next i len hi =>
      split at h
      · cases h
      · next f' s' hst =>
        cases hb : Nat.ble s.2.1 s'.2.1 with
        | true => rw [hb] at h; exact ih m _ _ _ _ h hm
        | false => rw [hb] at h; cases h
      · exact h
      · next k' av f' hst =>
        split at h
        · cases h
        · next v' s' h1 =>
          rw [ih m _ _ _ _ h1 hm]
          exact ih m _ _ _ _ h hm
section RULES
variable {k pc n p' : Nat} {L L' : Lc} {st st' r : List AV} {s s' : Sx} {Q : Option AV → Sx → Prop} {i : Instr}
theorem E_st (hi : ins k pc = some (i, n)) (hs : stp k pc L st s i n = some (.inl ((p', (L', st')), s'))) (hb : Nat.ble s.2.1 s'.2.1 = true) (kk : E k p' L' st' s' Q) : E k pc L st s Q := by
  obtain ⟨m, v, s2, h, q⟩ := kk
  refine ⟨m + 1, v, s2, ?_, q⟩
  unfold rn
  simp only [hi, hs, hb, cond_true]
  exact h
theorem E_ret {v : Option AV} (hi : ins k pc = some (i, n)) (hs : stp k pc L st s i n = some (.inr (.inl v))) (q : Q v s) : E k pc L st s Q := by
  refine ⟨1, v, s, ?_, q⟩
  unfold rn
  simp only [hi, hs]
theorem E_call {k' : Nat} {av : List AV} (hi : ins k pc = some (i, n)) (hs : stp k pc L st s i n = some (.inr (.inr (k', (av, (p', (L', r))))))) (kk : E k' 0 (entL k' av) [] s (fun v s1 => E k p' L' (v.toList ++ r) s1 Q)) : E k pc L st s Q := by
  obtain ⟨m1, v1, s1, h1, m2, v2, s2, h2, q⟩ := kk
  refine ⟨m1 + m2 + 1, v2, s2, ?_, q⟩
  unfold rn
  simp only [hi, hs]
  rw [rn_up m1 (m1 + m2) _ _ _ _ h1 (by omega)]
  exact rn_up m2 (m1 + m2) _ _ _ _ h2 (by omega)
theorem E_mono {Q' : Option AV → Sx → Prop} (h : E k pc L st s Q) (hq : ∀ v s2, Q v s2 → Q' v s2) : E k pc L st s Q' := by
  obtain ⟨m, v, s2, h1, q⟩ := h
  exact ⟨m, v, s2, h1, hq v s2 q⟩
theorem E_if {c : Jvm.ClassFile.Cond} {d x : Int} (hi : ins k pc = some (.ifCond c d, n)) (h0 : 0 ≤ (pc : Int) + d) (kt : cmpb c x 0 = true → E k ((pc : Int) + d).toNat L r s Q) (kf : cmpb c x 0 = false → E k (pc + n) L r s Q) : E k pc L (aI x :: r) s Q := by
  cases hb : cmpb c x 0 with
  | true => exact E_st hi (by show ckP (decide _) (cond (cmpb c x 0) _ _) = _; rw [decide_eq_true h0, hb]; rfl) (Nat.ble_self_eq_true _) (kt hb)
  | false => exact E_st hi (by show ckP (decide _) (cond (cmpb c x 0) _ _) = _; rw [decide_eq_true h0, hb]; rfl) (Nat.ble_self_eq_true _) (kf hb)
theorem E_icmp {c : Jvm.ClassFile.Cond} {d x y : Int} (hi : ins k pc = some (.if_icmp c d, n)) (h0 : 0 ≤ (pc : Int) + d) (kt : cmpb c x y = true → E k ((pc : Int) + d).toNat L r s Q) (kf : cmpb c x y = false → E k (pc + n) L r s Q) : E k pc L (aI y :: aI x :: r) s Q := by
  cases hb : cmpb c x y with
  | true => exact E_st hi (by show ckP (decide _) (cond (cmpb c x y) _ _) = _; rw [decide_eq_true h0, hb]; rfl) (Nat.ble_self_eq_true _) (kt hb)
  | false => exact E_st hi (by show ckP (decide _) (cond (cmpb c x y) _ _) = _; rw [decide_eq_true h0, hb]; rfl) (Nat.ble_self_eq_true _) (kf hb)
end RULES
/-- the law's start: of anything behind the constructors -/
def s0 (xs : Nat → Int) (len : Nat) : Sx := (up2 (up2 (up2 (up2 (up2 (up2 (up2 (up2 (m0 xs) 20 5 15) 46 5 15) 72 5 15) 98 5 15) 126 0 15) 126 1 15) 126 2 15) 126 3 15, (168, (mkF, len)))

section RULES
variable {k pc n p' : Nat} {L L' : Lc} {st st' r : List AV} {s s' : Sx} {Q : Option AV → Sx → Prop} {i : Instr}
theorem E_s (hi : ins k pc = some (i, n)) (hs : stp k pc L st s i n = some (.inl ((p', (L', st')), s))) (kk : E k p' L' st' s Q) : E k pc L st s Q := E_st hi hs (Nat.ble_self_eq_true _) kk
theorem E_jmp {t : Nat} (h : p' = t) (kk : E k t L st s Q) : E k p' L st s Q := h ▸ kk
theorem E_icmp_eq {d x y : Int} (hi : ins k pc = some (.if_icmp .eq d, n)) (h0 : 0 ≤ (pc : Int) + d) (kt : x = y → E k ((pc : Int) + d).toNat L r s Q) (kf : x ≠ y → E k (pc + n) L r s Q) : E k pc L (aI y :: aI x :: r) s Q := E_icmp hi h0 (fun h => kt (by simpa [cmpb] using h)) (fun h => kf (by simpa [cmpb] using h))
theorem E_icmp_ne {d x y : Int} (hi : ins k pc = some (.if_icmp .ne d, n)) (h0 : 0 ≤ (pc : Int) + d) (kt : x ≠ y → E k ((pc : Int) + d).toNat L r s Q) (kf : x = y → E k (pc + n) L r s Q) : E k pc L (aI y :: aI x :: r) s Q := E_icmp hi h0 (fun h => kt (by simpa [cmpb] using h)) (fun h => kf (by simpa [cmpb] using h))
theorem E_icmp_lt {d x y : Int} (hi : ins k pc = some (.if_icmp .lt d, n)) (h0 : 0 ≤ (pc : Int) + d) (kt : x < y → E k ((pc : Int) + d).toNat L r s Q) (kf : y ≤ x → E k (pc + n) L r s Q) : E k pc L (aI y :: aI x :: r) s Q := E_icmp hi h0 (fun h => kt (by simpa [cmpb] using h)) (fun h => kf (by simpa [cmpb] using h))
theorem E_icmp_ge {d x y : Int} (hi : ins k pc = some (.if_icmp .ge d, n)) (h0 : 0 ≤ (pc : Int) + d) (kt : y ≤ x → E k ((pc : Int) + d).toNat L r s Q) (kf : x < y → E k (pc + n) L r s Q) : E k pc L (aI y :: aI x :: r) s Q := E_icmp hi h0 (fun h => kt (by simpa [cmpb] using h)) (fun h => kf (by simpa [cmpb] using h))
theorem E_icmp_gt {d x y : Int} (hi : ins k pc = some (.if_icmp .gt d, n)) (h0 : 0 ≤ (pc : Int) + d) (kt : y < x → E k ((pc : Int) + d).toNat L r s Q) (kf : x ≤ y → E k (pc + n) L r s Q) : E k pc L (aI y :: aI x :: r) s Q := E_icmp hi h0 (fun h => kt (by simpa [cmpb] using h)) (fun h => kf (by simpa [cmpb] using h))
theorem E_icmp_le {d x y : Int} (hi : ins k pc = some (.if_icmp .le d, n)) (h0 : 0 ≤ (pc : Int) + d) (kt : x ≤ y → E k ((pc : Int) + d).toNat L r s Q) (kf : y < x → E k (pc + n) L r s Q) : E k pc L (aI y :: aI x :: r) s Q := E_icmp hi h0 (fun h => kt (by simpa [cmpb] using h)) (fun h => kf (by simpa [cmpb] using h))
theorem E_if_eq {d x : Int} (hi : ins k pc = some (.ifCond .eq d, n)) (h0 : 0 ≤ (pc : Int) + d) (kt : x = 0 → E k ((pc : Int) + d).toNat L r s Q) (kf : x ≠ 0 → E k (pc + n) L r s Q) : E k pc L (aI x :: r) s Q := E_if hi h0 (fun h => kt (by simpa [cmpb] using h)) (fun h => kf (by simpa [cmpb] using h))
theorem E_if_ne {d x : Int} (hi : ins k pc = some (.ifCond .ne d, n)) (h0 : 0 ≤ (pc : Int) + d) (kt : x ≠ 0 → E k ((pc : Int) + d).toNat L r s Q) (kf : x = 0 → E k (pc + n) L r s Q) : E k pc L (aI x :: r) s Q := E_if hi h0 (fun h => kt (by simpa [cmpb] using h)) (fun h => kf (by simpa [cmpb] using h))
theorem E_if_lt {d x : Int} (hi : ins k pc = some (.ifCond .lt d, n)) (h0 : 0 ≤ (pc : Int) + d) (kt : x < 0 → E k ((pc : Int) + d).toNat L r s Q) (kf : 0 ≤ x → E k (pc + n) L r s Q) : E k pc L (aI x :: r) s Q := E_if hi h0 (fun h => kt (by simpa [cmpb] using h)) (fun h => kf (by simpa [cmpb] using h))
theorem E_if_ge {d x : Int} (hi : ins k pc = some (.ifCond .ge d, n)) (h0 : 0 ≤ (pc : Int) + d) (kt : 0 ≤ x → E k ((pc : Int) + d).toNat L r s Q) (kf : x < 0 → E k (pc + n) L r s Q) : E k pc L (aI x :: r) s Q := E_if hi h0 (fun h => kt (by simpa [cmpb] using h)) (fun h => kf (by simpa [cmpb] using h))
theorem E_if_gt {d x : Int} (hi : ins k pc = some (.ifCond .gt d, n)) (h0 : 0 ≤ (pc : Int) + d) (kt : 0 < x → E k ((pc : Int) + d).toNat L r s Q) (kf : x ≤ 0 → E k (pc + n) L r s Q) : E k pc L (aI x :: r) s Q := E_if hi h0 (fun h => kt (by simpa [cmpb] using h)) (fun h => kf (by simpa [cmpb] using h))
theorem E_if_le {d x : Int} (hi : ins k pc = some (.ifCond .le d, n)) (h0 : 0 ≤ (pc : Int) + d) (kt : x ≤ 0 → E k ((pc : Int) + d).toNat L r s Q) (kf : 0 < x → E k (pc + n) L r s Q) : E k pc L (aI x :: r) s Q := E_if hi h0 (fun h => kt (by simpa [cmpb] using h)) (fun h => kf (by simpa [cmpb] using h))
theorem ckI_of {z : Int} {o : Option Rs} (h : -2147483648 ≤ z ∧ z ≤ 2147483647) : ckI z o = o := if_pos h
theorem ckP_of {b : Bool} {o : Option Rs} (h : b = true) : ckP b o = o := by rw [h]; rfl
theorem E_iinc {j : Nat} {x d : Int} (hi : ins k pc = some (.iinc j d, n)) (hl : Nat.blt j (mxl k) = true) (hv : L[j]? = some (some (aI x))) (hr : -2147483648 ≤ x + d ∧ x + d ≤ 2147483647) (kk : E k (pc + n) (st1 L j (aI (x + d))) st s Q) : E k pc L st s Q := by
  refine E_st hi ?_ (Nat.ble_self_eq_true _) kk
  unfold stp
  dsimp only
  rw [ckP_of hl, hv]
  dsimp only
  rw [ckI_of hr]
  rfl
theorem E_iadd {x y : Int} (hi : ins k pc = some (.iadd, n)) (hr : -2147483648 ≤ x + y ∧ x + y ≤ 2147483647) (kk : E k (pc + n) L (aI (x + y) :: r) s Q) : E k pc L (aI y :: aI x :: r) s Q := E_st hi (ckI_of hr) (Nat.ble_self_eq_true _) kk
theorem E_isub {x y : Int} (hi : ins k pc = some (.isub, n)) (hr : -2147483648 ≤ x - y ∧ x - y ≤ 2147483647) (kk : E k (pc + n) L (aI (x - y) :: r) s Q) : E k pc L (aI y :: aI x :: r) s Q := E_st hi (ckI_of hr) (Nat.ble_self_eq_true _) kk
theorem E_imul {x y : Int} (hi : ins k pc = some (.imul, n)) (hr : -2147483648 ≤ x * y ∧ x * y ≤ 2147483647) (kk : E k (pc + n) L (aI (x * y) :: r) s Q) : E k pc L (aI y :: aI x :: r) s Q := E_st hi (ckI_of hr) (Nat.ble_self_eq_true _) kk
theorem kd_pos {a t n : Nat} (h : kd a = (t, n)) (ht : t ≠ 5) : 1 ≤ a ∧ a ≤ 168 := by
  cases a with
  | zero => cases h; exact absurd rfl ht
  | succ a =>
    refine ⟨by omega, ?_⟩
    rcases Nat.lt_or_ge a 168 with q | q
    · omega
    · have : kd (a + 1) = (5, 0) := by
        show kdL.getD a (5, 0) = _
        rw [List.getD_eq_getElem?_getD, List.getElem?_eq_none (by show 168 ≤ a; omega)]
        rfl
      rw [this] at h
      cases h
      exact absurd rfl ht
theorem onA_of {a t n : Nat} {s : Sx} (h : kd a = (t, n)) (ht : t ≠ 5) (hs : s.2.1 = 168) : onA a s t n = true := by
  obtain ⟨h1, h2⟩ := kd_pos h ht
  simp only [onA, h, decide_true, Bool.true_and, Bool.and_eq_true, Nat.ble_eq, hs]
  exact ⟨h1, h2⟩
theorem inb_of {j : Int} {n : Nat} (h0 : 0 ≤ j) (h1 : j < n) : inb j n = true := by
  simp only [inb, Bool.and_eq_true, decide_eq_true_eq]; exact ⟨h0, h1⟩
theorem E_iald {j : Int} {a N : Nat} (hi : ins k pc = some (.iaload, n)) (hk : kd a = (1, N)) (hs : s.2.1 = 168) (h0 : 0 ≤ j) (h1 : j < N) (kk : E k (pc + n) L (aI (s.1 a j.toNat) :: r) s Q) : E k pc L (aI j :: aA a :: r) s Q := by
  refine E_st hi ?_ (Nat.ble_self_eq_true _) kk
  obtain ⟨b, rfl⟩ : ∃ b, a = b + 1 := ⟨a - 1, by have := (kd_pos hk (by decide)).1; omega⟩
  show ckP (onA (b + 1) s 1 (kd (b + 1)).2 && inb j (kd (b + 1)).2) _ = _
  rw [hk, ckP_of (by rw [onA_of hk (by decide) hs, inb_of h0 h1]; rfl)]
  rfl
theorem E_iast {j x : Int} {a N : Nat} (hi : ins k pc = some (.iastore, n)) (hk : kd a = (1, N)) (hs : s.2.1 = 168) (h0 : 0 ≤ j) (h1 : j < N) (kk : E k (pc + n) L r (sM s (up2 s.1 a j.toNat x)) Q) : E k pc L (aI x :: aI j :: aA a :: r) s Q := by
  refine E_st (s' := sM s (up2 s.1 a j.toNat x)) hi ?_ (Nat.ble_self_eq_true _) kk
  show ckP (onA a s 1 (kd a).2 && inb j (kd a).2) _ = _
  rw [hk, ckP_of (by rw [onA_of hk (by decide) hs, inb_of h0 h1]; rfl)]
  rfl
theorem E_alen {a N : Nat} (hi : ins k pc = some (.arraylength, n)) (hk : kd a = (1, N)) (hs : s.2.1 = 168) (kk : E k (pc + n) L (aI N :: r) s Q) : E k pc L (aA a :: r) s Q := by
  refine E_st hi ?_ (Nat.ble_self_eq_true _) kk
  obtain ⟨b, rfl⟩ : ∃ b, a = b + 1 := ⟨a - 1, by have := (kd_pos hk (by decide)).1; omega⟩
  show ckP (onA (b + 1) s 1 (kd (b + 1)).2) _ = _
  rw [hk, ckP_of (onA_of hk (by decide) hs)]
  rfl
end RULES
def fillm (m : Mm) (a i n : Nat) (v : Int) : Mm := fun a' j => if a' = a then (if i ≤ j ∧ j < n then v else m a' j) else m a' j
theorem fillm_up {m : Mm} {a i n : Nat} {v : Int} (h : i < n) : fillm (up2 m a i v) a (i + 1) n v = fillm m a i n v := by
  funext a' j
  unfold fillm up2
  by_cases ha : a' = a
  · simp only [ha, if_true]
    by_cases hj : i + 1 ≤ j ∧ j < n
    · rw [if_pos hj, if_pos (by omega)]
    · rw [if_neg hj]
      by_cases h2 : j = i
      · rw [if_pos h2, if_pos (by omega)]
      · rw [if_neg h2, if_neg (by omega)]
  · simp only [ha, if_false]
theorem fillm_0 {m : Mm} {a n : Nat} {v : Int} : fillm m a n n v = m := by
  funext a' j
  unfold fillm
  split
  · rw [if_neg (by omega)]
  · rfl
theorem fill_loop {a N : Nat} {v : Int} (hk : kd a = (1, N)) (hN : N < 100000) (t : Nat × (List (Nat × Nat) × Nat)) (ht : t.1 = 168) (Q : Option AV → Sx → Prop) : ∀ (d i : Nat) (m : Mm), i + d = N → Q none (fillm m a i N v, t) → E 38 5 [some (aA a), some (aI v), some (aI i), some (aI N)] [] (m, t) Q := by
  intro d
  induction d with
  | zero =>
    intro i m h hq
    have hi : i = N := by omega
    subst hi
    rw [fillm_0] at hq
    refine E_s rfl rfl ?_
    refine E_s rfl rfl ?_
    refine E_icmp_ge rfl (by decide) (fun _ => ?_) (fun h => absurd h (by omega))
    exact E_ret rfl rfl hq
  | succ d ih =>
    intro i m h hq
    refine E_s rfl rfl ?_
    refine E_s rfl rfl ?_
    refine E_icmp_ge rfl (by decide) (fun h => absurd h (by omega)) (fun _ => ?_)
    refine E_s rfl rfl ?_
    refine E_s rfl rfl ?_
    refine E_s rfl rfl ?_
    refine E_iast rfl hk ht (by omega) (by omega) ?_
    refine E_iinc rfl rfl rfl (by omega) ?_
    refine E_s rfl rfl ?_
    have := ih (i + 1) (up2 m a i v) (by omega) (by rw [fillm_up (by omega)]; exact hq)
    exact this
theorem c_fill {a N : Nat} {v : Int} (hk : kd a = (1, N)) {m : Mm} {t : Nat × (List (Nat × Nat) × Nat)} (ht : t.1 = 168) {Q : Option AV → Sx → Prop} (hq : Q none (fillm m a 0 N v, t)) : E 38 0 (entL 38 [aA a, aI v]) [] (m, t) Q := by
  have hN : N < 100000 := by have := kd_lt a; rw [hk] at this; exact this
  refine E_s rfl rfl ?_
  refine E_s rfl rfl ?_
  refine E_s rfl rfl ?_
  refine E_alen rfl hk ht ?_
  refine E_s rfl rfl ?_
  exact fill_loop hk hN t ht Q N 0 m (by omega) hq

section RULES
variable {k pc n p' : Nat} {L L' : Lc} {st st' r : List AV} {s s' : Sx} {Q : Option AV → Sx → Prop} {i : Instr}
theorem E_scr {j v : Int} (hi : ins 0 pc = some (.iaload, n)) (hl : inb j s.2.2.2 = true) (hv : s.1 0 j.toNat = v) (kk : E 0 (pc + n) L (aI v :: r) s Q) : E 0 pc L (aI j :: aA 0 :: r) s Q := by
  subst hv
  refine E_s hi ?_ kk
  show ckP (Nat.beq 0 0 && inb j s.2.2.2) _ = _
  rw [hl]
  rfl
theorem E_val {z j : Int} (h : z = j) (kk : E k pc L (aI j :: r) s Q) : E k pc L (aI z :: r) s Q := h ▸ kk
theorem E_ialdv {j v : Int} {a N : Nat} (hi : ins k pc = some (.iaload, n)) (hk : kd a = (1, N)) (hs : s.2.1 = 168) (h0 : 0 ≤ j) (h1 : j < N) (hv : s.1 a j.toNat = v) (kk : E k (pc + n) L (aI v :: r) s Q) : E k pc L (aI j :: aA a :: r) s Q := E_iald hi hk hs h0 h1 (hv ▸ kk)
end RULES
theorem and31 (x : Int) : ∃ j : Nat, j < 32 ∧ b32 (fun a b => a &&& b) x 31 = j := by
  obtain ⟨j, h1, h2⟩ := pk_andE (Int32.ofInt x) (m := 31) 5 (by decide)
  refine ⟨j, h1, ?_⟩
  show (Int32.ofInt x &&& 31).toInt = _
  rw [h2, nI_toInt (by omega)]
def PQ : Option AV → Sx → Prop := fun v s => v = some (aI 1) ∧ s.2.1 = 168
def LL : Lc := [some (aA 0), some (aA 1), some (aA 124), some (aI 0)]

theorem fillm_in {m : Mm} {a i n j : Nat} {v : Int} (h : i ≤ j ∧ j < n) : fillm m a i n v a j = v := by
  unfold fillm
  rw [if_pos rfl, if_pos h]
theorem E_tabO {k pc n : Nat} {L : Lc} {r : List AV} {s : Sx} {Q : Option AV → Sx → Prop} {d lo h9 x : Int} {os : Array Int} (hi : ins k pc = some (.tableswitch d lo h9 os, n)) (h : x < lo ∨ h9 < x) (h0 : 0 ≤ (pc : Int) + d) (kk : E k ((pc : Int) + d).toNat L r s Q) : E k pc L (aI x :: r) s Q := by
  refine E_s hi ?_ kk
  show cond (decide (x < lo) || decide (h9 < x)) _ _ = _
  rw [show (decide (x < lo) || decide (h9 < x)) = true by simpa using h]
  show jp pc d L r s = _
  unfold jp
  rw [if_pos h0]
  rfl
theorem E_isubv {k pc n : Nat} {L : Lc} {r : List AV} {s : Sx} {Q : Option AV → Sx → Prop} {x y v : Int} (hi : ins k pc = some (.isub, n)) (h : x - y = v) (hr : -2147483648 ≤ v ∧ v ≤ 2147483647) (kk : E k (pc + n) L (aI v :: r) s Q) : E k pc L (aI y :: aI x :: r) s Q := by
  subst h
  exact E_isub hi hr kk
theorem E_stM {k pc n p' : Nat} {L L' : Lc} {st st' : List AV} {m m' : Mm} {t : Nat × (List (Nat × Nat) × Nat)} {Q : Option AV → Sx → Prop} {i : Instr} (hi : ins k pc = some (i, n)) (hs : stp k pc L st (m, t) i n = some (.inl ((p', (L', st')), (m', t)))) (kk : E k p' L' st' (m', t) Q) : E k pc L st (m, t) Q := E_st hi hs (Nat.ble_self_eq_true _) kk
theorem E_callL {k pc n p' : Nat} {L L' L0 : Lc} {st r : List AV} {s : Sx} {Q : Option AV → Sx → Prop} {i : Instr} {k' : Nat} {av : List AV} (hi : ins k pc = some (i, n)) (hs : stp k pc L st s i n = some (.inr (.inr (k', (av, (p', (L', r))))))) (hL : entL k' av = L0) (kk : E k' 0 L0 [] s (fun v s1 => E k p' L' (v.toList ++ r) s1 Q)) : E k pc L st s Q := E_call hi hs (hL ▸ kk)

