theorem fillm_in {m : Mm} {a i n j : Nat} {v : Int} (h : i ≤ j ∧ j < n) : fillm m a i n v a j = v := by
  unfold fillm
  rw [if_pos rfl, if_pos h]
theorem E_tabO {k pc n : Nat} {L : Lc} {r : List AV} {s : Sx} {Q : Option AV → Sx → Prop} {d lo h9 x : Int} {os : Array Int} (hi : ins k pc = some (.tableswitch d lo h9 os, n)) (h : x < lo ∨ h9 < x) (h0 : 0 ≤ (pc : Int) + d) (kk : E k ((pc : Int) + d).toNat L r s Q) : E k pc L (aI x :: r) s Q := by
  refine E_s hi ?_ kk
  show cond (decide (x < lo) || decide (h9 < x)) _ _ = _
  rw [show (decide (x < lo) || decide (h9 < x)) = true by simpa using h]
  show jp pc d L r s = _
  unfold jp
  rw [if_pos h0]
  rfl
