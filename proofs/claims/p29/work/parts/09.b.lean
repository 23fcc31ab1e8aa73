section RULES
variable {k pc n p' : Nat} {L L' : Lc} {st st' r : List AV} {s s' : Sx} {Q : Option AV → Sx → Prop} {i : Instr}
theorem E_s (hi : ins k pc = some (i, n)) (hs : stp k pc L st s i n = some (.inl ((p', (L', st')), s))) (kk : E k p' L' st' s Q) : E k pc L st s Q := E_st hi hs (Nat.ble_self_eq_true _) kk
theorem E_jmp {t : Nat} (h : p' = t) (kk : E k t L st s Q) : E k p' L st s Q := h ▸ kk
theorem E_icmp_eq {d x y : Int} (hi : ins k pc = some (.if_icmp .eq d, n)) (h0 : 0 ≤ (pc : Int) + d) (kt : x = y → E k ((pc : Int) + d).toNat L r s Q) (kf : x ≠ y → E k (pc + n) L r s Q) : E k pc L (aI y :: aI x :: r) s Q := E_icmp hi h0 (fun h => kt (by simpa [cmpb] using h)) (fun h => kf (by simpa [cmpb] using h))
theorem E_icmp_ne {d x y : Int} (hi : ins k pc = some (.if_icmp .ne d, n)) (h0 : 0 ≤ (pc : Int) + d) (kt : x ≠ y → E k ((pc : Int) + d).toNat L r s Q) (kf : x = y → E k (pc + n) L r s Q) : E k pc L (aI y :: aI x :: r) s Q := E_icmp hi h0 (fun h => kt (by simpa [cmpb] using h)) (fun h => kf (by simpa [cmpb] using h))
theorem E_icmp_lt {d x y : Int} (hi : ins k pc = some (.if_icmp .lt d, n)) (h0 : 0 ≤ (pc : Int) + d) (kt : x < y → E k ((pc : Int) + d).toNat L r s Q) (kf : y ≤ x → E k (pc + n) L r s Q) : E k pc L (aI y :: aI x :: r) s Q := E_icmp hi h0 (fun h => kt (by simpa [cmpb] using h)) (fun h => kf (by simpa [cmpb] using h))
theorem E_icmp_ge {d x y : Int} (hi : ins k pc = some (.if_icmp .ge d, n)) (h0 : 0 ≤ (pc : Int) + d) (kt : y ≤ x → E k ((pc : Int) + d).toNat L r s Q) (kf : x < y → E k (pc + n) L r s Q) : E k pc L (aI y :: aI x :: r) s Q := E_icmp hi h0 (fun h => kt (by simpa [cmpb] using h)) (fun h => kf (by simpa [cmpb] using h))
theorem E_icmp_gt {d x y : Int} (hi : ins k pc = some (.if_icmp .gt d, n)) (h0 : 0 ≤ (pc : Int) + d) (kt : y < x → E k ((pc : Int) + d).toNat L r s Q) (kf : x ≤ y → E k (pc + n) L r s Q) : E k pc L (aI y :: aI x :: r) s Q := E_icmp hi h0 (fun h => kt (by simpa [cmpb] using h)) (fun h => kf (by simpa [cmpb] using h))
theorem E_icmp_le {d x y : Int} (hi : ins k pc = some (.if_icmp .le d, n)) (h0 : 0 ≤ (pc : Int) + d) (kt : x ≤ y → E k ((pc : Int) + d).toNat L r s Q) (kf : y < x → E k (pc + n) L r s Q) : E k pc L (aI y :: aI x :: r) s Q := E_icmp hi h0 (fun h => kt (by simpa [cmpb] using h)) (fun h => kf (by simpa [cmpb] using h))
theorem E_if_eq {d x : Int} (hi : ins k pc = some (.ifCond .eq d, n)) (h0 : 0 ≤ (pc : Int) + d) (kt : x = 0 → E k ((pc : Int) + d).toNat L r s Q) (kf : x ≠ 0 → E k (pc + n) L r s Q) : E k pc L (aI x :: r) s Q := E_if hi h0 (fun h => kt (by simpa [cmpb] using h)) (fun h => kf (by simpa [cmpb] using h))
theorem E_if_ne {d x : Int} (hi : ins k pc = some (.ifCond .ne d, n)) (h0 : 0 ≤ (pc : Int) + d) (kt : x ≠ 0 → E k ((pc : Int) + d).toNat L r s Q) (kf : x = 0 → E k (pc + n) L r s Q) : E k pc L (aI x :: r) s Q := E_if hi h0 (fun h => kt (by simpa [cmpb] using h)) (fun h => kf (by simpa [cmpb] using h))
theorem E_if_lt {d x : Int} (hi : ins k pc = some (.ifCond .lt d, n)) (h0 : 0 ≤ (pc : Int) + d) (kt : x < 0 → E k ((pc : Int) + d).toNat L r s Q) (kf : 0 ≤ x → E k (pc + n) L r s Q) : E k pc L (aI x :: r) s Q := E_if hi h0 (fun h => kt (by simpa [cmpb] using h)) (fun h => kf (by simpa [cmpb] using h))
theorem E_if_ge {d x : Int} (hi : ins k pc = some (.ifCond .ge d, n)) (h0 : 0 ≤ (pc : Int) + d) (kt : 0 ≤ x → E k ((pc : Int) + d).toNat L r s Q) (kf : x < 0 → E k (pc + n) L r s Q) : E k pc L (aI x :: r) s Q := E_if hi h0 (fun h => kt (by simpa [cmpb] using h)) (fun h => kf (by simpa [cmpb] using h))
theorem E_if_gt {d x : Int} (hi : ins k pc = some (.ifCond .gt d, n)) (h0 : 0 ≤ (pc : Int) + d) (kt : 0 < x → E k ((pc : Int) + d).toNat L r s Q) (kf : x ≤ 0 → E k (pc + n) L r s Q) : E k pc L (aI x :: r) s Q := E_if hi h0 (fun h => kt (by simpa [cmpb] using h)) (fun h => kf (by simpa [cmpb] using h))
theorem E_if_le {d x : Int} (hi : ins k pc = some (.ifCond .le d, n)) (h0 : 0 ≤ (pc : Int) + d) (kt : x ≤ 0 → E k ((pc : Int) + d).toNat L r s Q) (kf : 0 < x → E k (pc + n) L r s Q) : E k pc L (aI x :: r) s Q := E_if hi h0 (fun h => kt (by simpa [cmpb] using h)) (fun h => kf (by simpa [cmpb] using h))
theorem ckI_of {z : Int} {o : Option Rs} (h : -2147483648 ≤ z ∧ z ≤ 2147483647) : ckI z o = o := if_pos h
theorem ckP_of {b : Bool} {o : Option Rs} (h : b = true) : ckP b o = o := by rw [h]; rfl
theorem E_iinc {j : Nat} {x d : Int} (hi : ins k pc = some (.iinc j d, n)) (hl : Nat.blt j (mxl k) = true) (hv : L[j]? = some (some (aI x))) (hr : -2147483648 ≤ x + d ∧ x + d ≤ 2147483647) (kk : E k (pc + n) (st1 L j (aI (x + d))) st s Q) : E k pc L st s Q := by
  refine E_st hi ?_ (Nat.ble_self_eq_true _) kk
  unfold stp
  dsimp only
  rw [ckP_of hl, hv]
  dsimp only
  rw [ckI_of hr]
  rfl
theorem E_iadd {x y : Int} (hi : ins k pc = some (.iadd, n)) (hr : -2147483648 ≤ x + y ∧ x + y ≤ 2147483647) (kk : E k (pc + n) L (aI (x + y) :: r) s Q) : E k pc L (aI y :: aI x :: r) s Q := E_st hi (ckI_of hr) (Nat.ble_self_eq_true _) kk
theorem E_isub {x y : Int} (hi : ins k pc = some (.isub, n)) (hr : -2147483648 ≤ x - y ∧ x - y ≤ 2147483647) (kk : E k (pc + n) L (aI (x - y) :: r) s Q) : E k pc L (aI y :: aI x :: r) s Q := E_st hi (ckI_of hr) (Nat.ble_self_eq_true _) kk
theorem E_imul {x y : Int} (hi : ins k pc = some (.imul, n)) (hr : -2147483648 ≤ x * y ∧ x * y ≤ 2147483647) (kk : E k (pc + n) L (aI (x * y) :: r) s Q) : E k pc L (aI y :: aI x :: r) s Q := E_st hi (ckI_of hr) (Nat.ble_self_eq_true _) kk
theorem kd_pos {a t n : Nat} (h : kd a = (t, n)) (ht : t ≠ 5) : 1 ≤ a ∧ a ≤ 168 := by
  cases a with
  | zero => cases h; exact absurd rfl ht
  | succ a =>
    refine ⟨by omega, ?_⟩
    rcases Nat.lt_or_ge a 168 with q | q
    · omega
    · have : kd (a + 1) = (5, 0) := by
        show kdL.getD a (5, 0) = _
        rw [List.getD_eq_getElem?_getD, List.getElem?_eq_none (by show 168 ≤ a; omega)]
        rfl
      rw [this] at h
      cases h
      exact absurd rfl ht
theorem onA_of {a t n : Nat} {s : Sx} (h : kd a = (t, n)) (ht : t ≠ 5) (hs : s.2.1 = 168) : onA a s t n = true := by
  obtain ⟨h1, h2⟩ := kd_pos h ht
  simp only [onA, h, decide_true, Bool.true_and, Bool.and_eq_true, Nat.ble_eq, hs]
  exact ⟨h1, h2⟩
theorem inb_of {j : Int} {n : Nat} (h0 : 0 ≤ j) (h1 : j < n) : inb j n = true := by
  simp only [inb, Bool.and_eq_true, decide_eq_true_eq]; exact ⟨h0, h1⟩
theorem E_iald {j : Int} {a N : Nat} (hi : ins k pc = some (.iaload, n)) (hk : kd a = (1, N)) (hs : s.2.1 = 168) (h0 : 0 ≤ j) (h1 : j < N) (kk : E k (pc + n) L (aI (s.1 a j.toNat) :: r) s Q) : E k pc L (aI j :: aA a :: r) s Q := by
  refine E_st hi ?_ (Nat.ble_self_eq_true _) kk
  obtain ⟨b, rfl⟩ : ∃ b, a = b + 1 := ⟨a - 1, by have := (kd_pos hk (by decide)).1; omega⟩
  show ckP (onA (b + 1) s 1 (kd (b + 1)).2 && inb j (kd (b + 1)).2) _ = _
  rw [hk, ckP_of (by rw [onA_of hk (by decide) hs, inb_of h0 h1]; rfl)]
  rfl
theorem E_iast {j x : Int} {a N : Nat} (hi : ins k pc = some (.iastore, n)) (hk : kd a = (1, N)) (hs : s.2.1 = 168) (h0 : 0 ≤ j) (h1 : j < N) (kk : E k (pc + n) L r (sM s (up2 s.1 a j.toNat x)) Q) : E k pc L (aI x :: aI j :: aA a :: r) s Q := by
  refine E_st (s' := sM s (up2 s.1 a j.toNat x)) hi ?_ (Nat.ble_self_eq_true _) kk
  show ckP (onA a s 1 (kd a).2 && inb j (kd a).2) _ = _
  rw [hk, ckP_of (by rw [onA_of hk (by decide) hs, inb_of h0 h1]; rfl)]
  rfl
theorem E_alen {a N : Nat} (hi : ins k pc = some (.arraylength, n)) (hk : kd a = (1, N)) (hs : s.2.1 = 168) (kk : E k (pc + n) L (aI N :: r) s Q) : E k pc L (aA a :: r) s Q := by
  refine E_st hi ?_ (Nat.ble_self_eq_true _) kk
  obtain ⟨b, rfl⟩ : ∃ b, a = b + 1 := ⟨a - 1, by have := (kd_pos hk (by decide)).1; omega⟩
  show ckP (onA (b + 1) s 1 (kd (b + 1)).2) _ = _
  rw [hk, ckP_of (onA_of hk (by decide) hs)]
  rfl
end RULES
def fillm (m : Mm) (a i n : Nat) (v : Int) : Mm := fun a' j => if a' = a then (if i ≤ j ∧ j < n then v else m a' j) else m a' j
theorem fillm_up {m : Mm} {a i n : Nat} {v : Int} (h : i < n) : fillm (up2 m a i v) a (i + 1) n v = fillm m a i n v := by
  funext a' j
  unfold fillm up2
  by_cases ha : a' = a
  · simp only [ha, if_true]
    by_cases hj : i + 1 ≤ j ∧ j < n
    · rw [if_pos hj, if_pos (by omega)]
    · rw [if_neg hj]
      by_cases h2 : j = i
      · rw [if_pos h2, if_pos (by omega)]
      · rw [if_neg h2, if_neg (by omega)]
  · simp only [ha, if_false]
theorem fillm_0 {m : Mm} {a n : Nat} {v : Int} : fillm m a n n v = m := by
  funext a' j
  unfold fillm
  split
  · rw [if_neg (by omega)]
  · rfl
theorem fill_loop {a N : Nat} {v : Int} (hk : kd a = (1, N)) (hN : N < 100000) (t : Nat × (List (Nat × Nat) × Nat)) (ht : t.1 = 168) (Q : Option AV → Sx → Prop) : ∀ (d i : Nat) (m : Mm), i + d = N → Q none (fillm m a i N v, t) → E 38 5 [some (aA a), some (aI v), some (aI i), some (aI N)] [] (m, t) Q := by
  intro d
  induction d with
  | zero =>
    intro i m h hq
    have hi : i = N := by omega
    subst hi
    rw [fillm_0] at hq
    refine E_s rfl rfl ?_
    refine E_s rfl rfl ?_
    refine E_icmp_ge rfl (by decide) (fun _ => ?_) (fun h => absurd h (by omega))
    exact E_ret rfl rfl hq
  | succ d ih =>
    intro i m h hq
    refine E_s rfl rfl ?_
    refine E_s rfl rfl ?_
    refine E_icmp_ge rfl (by decide) (fun h => absurd h (by omega)) (fun _ => ?_)
    refine E_s rfl rfl ?_
    refine E_s rfl rfl ?_
    refine E_s rfl rfl ?_
    refine E_iast rfl hk ht (by omega) (by omega) ?_
    refine E_iinc rfl rfl rfl (by omega) ?_
    refine E_s rfl rfl ?_
    have := ih (i + 1) (up2 m a i v) (by omega) (by rw [fillm_up (by omega)]; exact hq)
    exact this
theorem c_fill {a N : Nat} {v : Int} (hk : kd a = (1, N)) {m : Mm} {t : Nat × (List (Nat × Nat) × Nat)} (ht : t.1 = 168) {Q : Option AV → Sx → Prop} (hq : Q none (fillm m a 0 N v, t)) : E 38 0 (entL 38 [aA a, aI v]) [] (m, t) Q := by
  have hN : N < 100000 := by have := kd_lt a; rw [hk] at this; exact this
  refine E_s rfl rfl ?_
  refine E_s rfl rfl ?_
  refine E_s rfl rfl ?_
  refine E_alen rfl hk ht ?_
  refine E_s rfl rfl ?_
  exact fill_loop hk hN t ht Q N 0 m (by omega) hq
