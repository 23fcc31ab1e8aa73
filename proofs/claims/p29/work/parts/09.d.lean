theorem fillm_in {m : Mm} {a i n j : Nat} {v : Int} (h : i ≤ j ∧ j < n) : fillm m a i n v a j = v := by
  unfold fillm
  rw [if_pos rfl, if_pos h]
theorem E_tabO {k pc n : Nat} {L : Lc} {r : List AV} {s : Sx} {Q : Option AV → Sx → Prop} {d lo h9 x : Int} {os : Array Int} (hi : ins k pc = some (.tableswitch d lo h9 os, n)) (h : x < lo ∨ h9 < x) (h0 : 0 ≤ (pc : Int) + d) (kk : E k ((pc : Int) + d).toNat L r s Q) : E k pc L (aI x :: r) s Q := by
  refine E_s hi ?_ kk
  show cond (decide (x < lo) || decide (h9 < x)) _ _ = _
  rw [show (decide (x < lo) || decide (h9 < x)) = true by simpa using h]
  show jp pc d L r s = _
  unfold jp
  rw [if_pos h0]
  rfl
theorem E_isubv {k pc n : Nat} {L : Lc} {r : List AV} {s : Sx} {Q : Option AV → Sx → Prop} {x y v : Int} (hi : ins k pc = some (.isub, n)) (h : x - y = v) (hr : -2147483648 ≤ v ∧ v ≤ 2147483647) (kk : E k (pc + n) L (aI v :: r) s Q) : E k pc L (aI y :: aI x :: r) s Q := by
  subst h
  exact E_isub hi hr kk
theorem E_stM {k pc n p' : Nat} {L L' : Lc} {st st' : List AV} {m m' : Mm} {t : Nat × (List (Nat × Nat) × Nat)} {Q : Option AV → Sx → Prop} {i : Instr} (hi : ins k pc = some (i, n)) (hs : stp k pc L st (m, t) i n = some (.inl ((p', (L', st')), (m', t)))) (kk : E k p' L' st' (m', t) Q) : E k pc L st (m, t) Q := E_st hi hs (Nat.ble_self_eq_true _) kk
theorem E_callL {k pc n p' : Nat} {L L' L0 : Lc} {st r : List AV} {s : Sx} {Q : Option AV → Sx → Prop} {i : Instr} {k' : Nat} {av : List AV} (hi : ins k pc = some (i, n)) (hs : stp k pc L st s i n = some (.inr (.inr (k', (av, (p', (L', r))))))) (hL : entL k' av = L0) (kk : E k' 0 L0 [] s (fun v s1 => E k p' L' (v.toList ++ r) s1 Q)) : E k pc L st s Q := E_call hi hs (hL ▸ kk)
