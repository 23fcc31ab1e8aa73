set_option maxRecDepth 100000 in
set_option maxHeartbeats 4000000 in
theorem tst_cord (xs : Nat → Int) (len : Nat) (Q : Option AV → Sx → Prop) (hq : ∀ s, Q (some (aI 0)) s) : E 11 0 (entL 11 [aA 1, aI 0, aI 3, aI 4, aI 100]) [] (s0 xs len) (fun v s => E 128 0 (entL 128 [aA 124, aI 0, aI 3, aI 4, aI 100]) [] s (fun v s => v = some (aI 0))) := by
  repeat (first | exact E_ret rfl rfl rfl | refine E_ret rfl rfl ?_ | refine E_st rfl rfl rfl ?_ | refine E_call rfl rfl ?_)
