set_option maxRecDepth 100000 in
set_option maxHeartbeats 40000000 in
theorem pc_8_2_0 (xs : Nat → Int) {z a3 a4 a5 : Int} (hz : b32 (fun a b => a &&& b) z 31 = 8) (h0 : xs 0 = z) (h1 : xs 1 = 2) (h2 : xs 2 = 0) (h3 : xs 3 = a3) (h4 : xs 4 = a4) (h5 : xs 5 = a5) : E 0 18 LL [] (s0 xs 6) PQ := by
  refine E_st rfl rfl rfl ?_
  refine E_st rfl rfl rfl ?_
  refine E_st rfl rfl rfl ?_
  refine E_st rfl rfl rfl ?_
  refine E_st rfl rfl rfl ?_
  refine E_st rfl rfl rfl ?_
  refine E_st rfl rfl rfl ?_
  refine E_st rfl rfl rfl ?_
  refine E_scr rfl rfl h0 ?_
  refine E_st rfl rfl rfl ?_
  refine E_st rfl rfl rfl ?_
  refine E_val hz ?_
  refine E_st rfl rfl rfl ?_
  refine E_st rfl rfl rfl ?_
  refine E_st rfl rfl rfl ?_
  refine E_st rfl rfl rfl ?_
  refine E_st rfl rfl rfl ?_
  refine E_st rfl rfl rfl ?_
  refine E_scr rfl rfl h1 ?_
  refine E_st rfl rfl rfl ?_
  refine E_st rfl rfl rfl ?_
  refine E_st rfl rfl rfl ?_
  refine E_st rfl rfl rfl ?_
  refine E_scr rfl rfl h2 ?_
  refine E_call rfl rfl ?_
  refine E_st rfl rfl rfl ?_
  refine E_st rfl rfl rfl ?_
  refine E_call rfl rfl ?_
  refine E_st rfl rfl rfl ?_
  refine E_st rfl rfl rfl ?_
  refine E_st rfl rfl rfl ?_
  refine E_st rfl rfl rfl ?_
  refine E_st rfl rfl rfl ?_
  refine E_st rfl rfl rfl ?_
  refine E_st rfl rfl rfl ?_
  refine E_st rfl rfl rfl ?_
  refine E_st rfl rfl rfl ?_
  refine E_st rfl rfl rfl ?_
  refine E_ret rfl rfl ?_
  refine E_st rfl rfl rfl ?_
  refine E_st rfl rfl rfl ?_
  refine E_st rfl rfl rfl ?_
  refine E_call rfl rfl ?_
  refine E_st rfl rfl rfl ?_
  refine E_st rfl rfl rfl ?_
  refine E_st rfl rfl rfl ?_
  refine E_st rfl rfl rfl ?_
  refine E_st rfl rfl rfl ?_
  refine E_st rfl rfl rfl ?_
  refine E_st rfl rfl rfl ?_
  refine E_st rfl rfl rfl ?_
  refine E_st rfl rfl rfl ?_
  refine E_st rfl rfl rfl ?_
  refine E_ret rfl rfl ?_
  refine E_st rfl rfl rfl ?_
  refine E_st rfl rfl rfl ?_
  refine E_st rfl rfl rfl ?_
  refine E_st rfl rfl rfl ?_
  refine E_st rfl rfl rfl ?_
  refine E_st rfl rfl rfl ?_
  refine E_st rfl rfl rfl ?_
  refine E_call rfl rfl ?_
  refine E_st rfl rfl rfl ?_
  refine E_st rfl rfl rfl ?_
  refine E_st rfl rfl rfl ?_
  refine E_st rfl rfl rfl ?_
  refine E_st rfl rfl rfl ?_
  refine E_st rfl rfl rfl ?_
  refine E_st rfl rfl rfl ?_
  refine E_st rfl rfl rfl ?_
  refine E_st rfl rfl rfl ?_
  refine E_st rfl rfl rfl ?_
  refine E_st rfl rfl rfl ?_
  refine E_st rfl rfl rfl ?_
  refine E_st rfl rfl rfl ?_
  refine E_st rfl rfl rfl ?_
  refine E_st rfl rfl rfl ?_
  refine E_st rfl rfl rfl ?_
  refine E_call rfl rfl ?_
  refine E_st rfl rfl rfl ?_
  refine E_st rfl rfl rfl ?_
  refine E_st rfl rfl rfl ?_
  refine E_st rfl rfl rfl ?_
  refine E_st rfl rfl rfl ?_
  refine E_st rfl rfl rfl ?_
  refine E_st rfl rfl rfl ?_
  refine E_st rfl rfl rfl ?_
  refine E_st rfl rfl rfl ?_
  refine E_st rfl rfl rfl ?_
  refine E_st rfl rfl rfl ?_
  refine E_st rfl rfl rfl ?_
  refine E_st rfl rfl rfl ?_
  refine E_st rfl rfl rfl ?_
  refine E_st rfl rfl rfl ?_
  refine E_st rfl rfl rfl ?_
  refine E_st rfl rfl rfl ?_
  refine E_st rfl rfl rfl ?_
  refine E_st rfl rfl rfl ?_
  refine E_call rfl rfl ?_
  refine E_st rfl rfl rfl ?_
  refine E_st rfl rfl rfl ?_
  refine E_st rfl rfl rfl ?_
  refine E_st rfl rfl rfl ?_
  refine E_st rfl rfl rfl ?_
  refine E_st rfl rfl rfl ?_
  refine E_st rfl rfl rfl ?_
  refine E_st rfl rfl rfl ?_
  refine E_st rfl rfl rfl ?_
  refine E_st rfl rfl rfl ?_
  refine E_ret rfl rfl ?_
  refine E_st rfl rfl rfl ?_
  refine E_st rfl rfl rfl ?_
  refine E_st rfl rfl rfl ?_
  refine E_st rfl rfl rfl ?_
  refine E_st rfl rfl rfl ?_
  refine E_st rfl rfl rfl ?_
  refine E_st rfl rfl rfl ?_
  refine E_st rfl rfl rfl ?_
  refine E_st rfl rfl rfl ?_
  refine E_st rfl rfl rfl ?_
  refine E_call rfl rfl ?_
  refine E_st rfl rfl rfl ?_
  refine E_st rfl rfl rfl ?_
  refine E_st rfl rfl rfl ?_
  refine E_st rfl rfl rfl ?_
  refine E_st rfl rfl rfl ?_
  refine E_st rfl rfl rfl ?_
  refine E_st rfl rfl rfl ?_
  refine E_st rfl rfl rfl ?_
  refine E_st rfl rfl rfl ?_
  refine E_st rfl rfl rfl ?_
  refine E_ret rfl rfl ?_
  refine E_st rfl rfl rfl ?_
  refine E_st rfl rfl rfl ?_
  refine E_st rfl rfl rfl ?_
  refine E_st rfl rfl rfl ?_
  refine E_st rfl rfl rfl ?_
  refine E_st rfl rfl rfl ?_
  refine E_st rfl rfl rfl ?_
  refine E_st rfl rfl rfl ?_
  refine E_st rfl rfl rfl ?_
  refine E_st rfl rfl rfl ?_
  refine E_call rfl rfl ?_
  refine E_st rfl rfl rfl ?_
  refine E_st rfl rfl rfl ?_
  refine E_st rfl rfl rfl ?_
  refine E_st rfl rfl rfl ?_
  refine E_st rfl rfl rfl ?_
  refine E_st rfl rfl rfl ?_
  refine E_st rfl rfl rfl ?_
  refine E_st rfl rfl rfl ?_
  refine E_st rfl rfl rfl ?_
  refine E_st rfl rfl rfl ?_
  refine E_ret rfl rfl ?_
  refine E_st rfl rfl rfl ?_
  refine E_st rfl rfl rfl ?_
  refine E_st rfl rfl rfl ?_
  refine E_st rfl rfl rfl ?_
  refine E_st rfl rfl rfl ?_
  refine E_st rfl rfl rfl ?_
  refine E_st rfl rfl rfl ?_
  refine E_st rfl rfl rfl ?_
  refine E_st rfl rfl rfl ?_
  refine E_st rfl rfl rfl ?_
  refine E_call rfl rfl ?_
  refine E_st rfl rfl rfl ?_
  refine E_st rfl rfl rfl ?_
  refine E_st rfl rfl rfl ?_
  refine E_st rfl rfl rfl ?_
  refine E_st rfl rfl rfl ?_
  refine E_st rfl rfl rfl ?_
  refine E_st rfl rfl rfl ?_
  refine E_st rfl rfl rfl ?_
  refine E_st rfl rfl rfl ?_
  refine E_st rfl rfl rfl ?_
  refine E_ret rfl rfl ?_
  refine E_st rfl rfl rfl ?_
  refine E_st rfl rfl rfl ?_
  refine E_st rfl rfl rfl ?_
  refine E_st rfl rfl rfl ?_
  refine E_st rfl rfl rfl ?_
  refine E_st rfl rfl rfl ?_
  refine E_st rfl rfl rfl ?_
  refine E_st rfl rfl rfl ?_
  refine E_st rfl rfl rfl ?_
  refine E_st rfl rfl rfl ?_
  refine E_call rfl rfl ?_
  refine E_st rfl rfl rfl ?_
  refine E_st rfl rfl rfl ?_
  refine E_st rfl rfl rfl ?_
  refine E_st rfl rfl rfl ?_
  refine E_st rfl rfl rfl ?_
  refine E_st rfl rfl rfl ?_
  refine E_st rfl rfl rfl ?_
  refine E_st rfl rfl rfl ?_
  refine E_st rfl rfl rfl ?_
  refine E_st rfl rfl rfl ?_
  refine E_ret rfl rfl ?_
  refine E_st rfl rfl rfl ?_
  refine E_st rfl rfl rfl ?_
  refine E_st rfl rfl rfl ?_
  refine E_st rfl rfl rfl ?_
  refine E_st rfl rfl rfl ?_
  refine E_st rfl rfl rfl ?_
  refine E_st rfl rfl rfl ?_
  refine E_st rfl rfl rfl ?_
  refine E_st rfl rfl rfl ?_
  refine E_st rfl rfl rfl ?_
  refine E_call rfl rfl ?_
  refine E_st rfl rfl rfl ?_
  refine E_st rfl rfl rfl ?_
  refine E_st rfl rfl rfl ?_
  refine E_st rfl rfl rfl ?_
  refine E_st rfl rfl rfl ?_
  refine E_st rfl rfl rfl ?_
  refine E_st rfl rfl rfl ?_
  refine E_st rfl rfl rfl ?_
  refine E_st rfl rfl rfl ?_
  refine E_st rfl rfl rfl ?_
  refine E_ret rfl rfl ?_
  refine E_st rfl rfl rfl ?_
  refine E_st rfl rfl rfl ?_
  refine E_st rfl rfl rfl ?_
  refine E_st rfl rfl rfl ?_
  refine E_st rfl rfl rfl ?_
  refine E_st rfl rfl rfl ?_
  refine E_st rfl rfl rfl ?_
  refine E_st rfl rfl rfl ?_
  refine E_st rfl rfl rfl ?_
  refine E_ret rfl rfl ?_
  refine E_st rfl rfl rfl ?_
  refine E_st rfl rfl rfl ?_
  refine E_st rfl rfl rfl ?_
  refine E_st rfl rfl rfl ?_
  refine E_st rfl rfl rfl ?_
  refine E_st rfl rfl rfl ?_
  refine E_st rfl rfl rfl ?_
  refine E_call rfl rfl ?_
  refine E_st rfl rfl rfl ?_
  refine E_st rfl rfl rfl ?_
  refine E_st rfl rfl rfl ?_
  refine E_st rfl rfl rfl ?_
  refine E_st rfl rfl rfl ?_
  refine E_st rfl rfl rfl ?_
  refine E_st rfl rfl rfl ?_
  refine E_st rfl rfl rfl ?_
  refine E_st rfl rfl rfl ?_
  refine E_st rfl rfl rfl ?_
  refine E_st rfl rfl rfl ?_
  refine E_st rfl rfl rfl ?_
  refine E_st rfl rfl rfl ?_
  refine E_st rfl rfl rfl ?_
  refine E_st rfl rfl rfl ?_
  refine E_st rfl rfl rfl ?_
  refine E_st rfl rfl rfl ?_
  refine E_st rfl rfl rfl ?_
  refine E_st rfl rfl rfl ?_
  refine E_call rfl rfl ?_
  refine E_st rfl rfl rfl ?_
  refine E_st rfl rfl rfl ?_
  refine E_st rfl rfl rfl ?_
  refine E_st rfl rfl rfl ?_
  refine E_st rfl rfl rfl ?_
  refine E_st rfl rfl rfl ?_
  refine E_st rfl rfl rfl ?_
  refine E_st rfl rfl rfl ?_
  refine E_st rfl rfl rfl ?_
  refine E_st rfl rfl rfl ?_
  refine E_ret rfl rfl ?_
  refine E_st rfl rfl rfl ?_
  refine E_st rfl rfl rfl ?_
  refine E_st rfl rfl rfl ?_
  refine E_st rfl rfl rfl ?_
  refine E_st rfl rfl rfl ?_
  refine E_st rfl rfl rfl ?_
  refine E_st rfl rfl rfl ?_
  refine E_st rfl rfl rfl ?_
  refine E_st rfl rfl rfl ?_
  refine E_st rfl rfl rfl ?_
  refine E_call rfl rfl ?_
  refine E_st rfl rfl rfl ?_
  refine E_st rfl rfl rfl ?_
  refine E_st rfl rfl rfl ?_
  refine E_st rfl rfl rfl ?_
  refine E_st rfl rfl rfl ?_
  refine E_st rfl rfl rfl ?_
  refine E_st rfl rfl rfl ?_
  refine E_st rfl rfl rfl ?_
  refine E_st rfl rfl rfl ?_
  refine E_st rfl rfl rfl ?_
  refine E_ret rfl rfl ?_
  refine E_st rfl rfl rfl ?_
  refine E_st rfl rfl rfl ?_
  refine E_st rfl rfl rfl ?_
  refine E_st rfl rfl rfl ?_
  refine E_st rfl rfl rfl ?_
  refine E_st rfl rfl rfl ?_
  refine E_st rfl rfl rfl ?_
  refine E_st rfl rfl rfl ?_
  refine E_st rfl rfl rfl ?_
  refine E_ret rfl rfl ?_
  refine E_st rfl rfl rfl ?_
  refine E_st rfl rfl rfl ?_
  refine E_st rfl rfl rfl ?_
  refine E_st rfl rfl rfl ?_
  refine E_ret rfl rfl ?_
  refine E_st rfl rfl rfl ?_
  refine E_st rfl rfl rfl ?_
  refine E_st rfl rfl rfl ?_
  refine E_ret rfl rfl ?_
  refine E_st rfl rfl rfl ?_
  refine E_st rfl rfl rfl ?_
  refine E_st rfl rfl rfl ?_
  refine E_st rfl rfl rfl ?_
  refine E_st rfl rfl rfl ?_
  refine E_scr rfl rfl h1 ?_
  refine E_st rfl rfl rfl ?_
  refine E_st rfl rfl rfl ?_
  refine E_st rfl rfl rfl ?_
  refine E_st rfl rfl rfl ?_
  refine E_scr rfl rfl h2 ?_
  refine E_call rfl rfl ?_
  refine E_st rfl rfl rfl ?_
  refine E_call rfl rfl ?_
  refine E_st rfl rfl rfl ?_
  refine E_st rfl rfl rfl ?_
  refine E_st rfl rfl rfl ?_
  refine E_call rfl rfl ?_
  refine E_st rfl rfl rfl ?_
  refine E_st rfl rfl rfl ?_
  refine E_st rfl rfl rfl ?_
  refine E_st rfl rfl rfl ?_
  refine E_st rfl rfl rfl ?_
  refine E_st rfl rfl rfl ?_
  refine E_st rfl rfl rfl ?_
  refine E_st rfl rfl rfl ?_
  refine E_ret rfl rfl ?_
  refine E_ret rfl rfl ?_
  refine E_st rfl rfl rfl ?_
  refine E_st rfl rfl rfl ?_
  refine E_call rfl rfl ?_
  refine E_st rfl rfl rfl ?_
  refine E_st rfl rfl rfl ?_
  refine E_st rfl rfl rfl ?_
  refine E_call rfl rfl ?_
  refine E_st rfl rfl rfl ?_
  refine E_st rfl rfl rfl ?_
  refine E_st rfl rfl rfl ?_
  refine E_st rfl rfl rfl ?_
  refine E_st rfl rfl rfl ?_
  refine E_st rfl rfl rfl ?_
  refine E_st rfl rfl rfl ?_
  refine E_st rfl rfl rfl ?_
  refine E_ret rfl rfl ?_
  refine E_ret rfl rfl ?_
  refine E_st rfl rfl rfl ?_
  refine E_st rfl rfl rfl ?_
  refine E_st rfl rfl rfl ?_
  refine E_call rfl rfl ?_
  refine E_st rfl rfl rfl ?_
  refine E_st rfl rfl rfl ?_
  refine E_st rfl rfl rfl ?_
  refine E_st rfl rfl rfl ?_
  refine E_st rfl rfl rfl ?_
  refine E_ret rfl rfl ?_
  refine E_st rfl rfl rfl ?_
  refine E_st rfl rfl rfl ?_
  refine E_st rfl rfl rfl ?_
  refine E_st rfl rfl rfl ?_
  refine E_st rfl rfl rfl ?_
  refine E_st rfl rfl rfl ?_
  refine E_st rfl rfl rfl ?_
  refine E_st rfl rfl rfl ?_
  refine E_st rfl rfl rfl ?_
  refine E_st rfl rfl rfl ?_
  refine E_st rfl rfl rfl ?_
  refine E_st rfl rfl rfl ?_
  refine E_st rfl rfl rfl ?_
  refine E_st rfl rfl rfl ?_
  refine E_st rfl rfl rfl ?_
  refine E_st rfl rfl rfl ?_
  refine E_st rfl rfl rfl ?_
  refine E_st rfl rfl rfl ?_
  refine E_st rfl rfl rfl ?_
  refine E_st rfl rfl rfl ?_
  refine E_st rfl rfl rfl ?_
  refine E_st rfl rfl rfl ?_
  refine E_st rfl rfl rfl ?_
  refine E_st rfl rfl rfl ?_
  refine E_st rfl rfl rfl ?_
  refine E_st rfl rfl rfl ?_
  refine E_st rfl rfl rfl ?_
  refine E_st rfl rfl rfl ?_
  refine E_st rfl rfl rfl ?_
  refine E_st rfl rfl rfl ?_
  refine E_st rfl rfl rfl ?_
  refine E_st rfl rfl rfl ?_
  refine E_st rfl rfl rfl ?_
  refine E_st rfl rfl rfl ?_
  refine E_st rfl rfl rfl ?_
  refine E_st rfl rfl rfl ?_
  refine E_st rfl rfl rfl ?_
  refine E_st rfl rfl rfl ?_
  refine E_st rfl rfl rfl ?_
  refine E_st rfl rfl rfl ?_
  refine E_st rfl rfl rfl ?_
  refine E_st rfl rfl rfl ?_
  refine E_st rfl rfl rfl ?_
  refine E_st rfl rfl rfl ?_
  refine E_st rfl rfl rfl ?_
  refine E_st rfl rfl rfl ?_
  refine E_st rfl rfl rfl ?_
  refine E_ret rfl rfl ?_
  refine E_st rfl rfl rfl ?_
  refine E_st rfl rfl rfl ?_
  refine E_st rfl rfl rfl ?_
  refine E_st rfl rfl rfl ?_
  refine E_st rfl rfl rfl ?_
  refine E_st rfl rfl rfl ?_
  refine E_st rfl rfl rfl ?_
  refine E_st rfl rfl rfl ?_
  refine E_st rfl rfl rfl ?_
  refine E_st rfl rfl rfl ?_
  exact E_ret rfl rfl ⟨rfl, rfl⟩
set_option maxRecDepth 100000 in
set_option maxHeartbeats 40000000 in
theorem pc_8_2_1 (xs : Nat → Int) {z a3 a4 a5 : Int} (hz : b32 (fun a b => a &&& b) z 31 = 8) (h0 : xs 0 = z) (h1 : xs 1 = 2) (h2 : xs 2 = 1) (h3 : xs 3 = a3) (h4 : xs 4 = a4) (h5 : xs 5 = a5) : E 0 18 LL [] (s0 xs 6) PQ := by
  refine E_st rfl rfl rfl ?_
  refine E_st rfl rfl rfl ?_
  refine E_st rfl rfl rfl ?_
  refine E_st rfl rfl rfl ?_
  refine E_st rfl rfl rfl ?_
  refine E_st rfl rfl rfl ?_
  refine E_st rfl rfl rfl ?_
  refine E_st rfl rfl rfl ?_
  refine E_scr rfl rfl h0 ?_
  refine E_st rfl rfl rfl ?_
  refine E_st rfl rfl rfl ?_
  refine E_val hz ?_
  refine E_st rfl rfl rfl ?_
  refine E_st rfl rfl rfl ?_
  refine E_st rfl rfl rfl ?_
  refine E_st rfl rfl rfl ?_
  refine E_st rfl rfl rfl ?_
  refine E_st rfl rfl rfl ?_
  refine E_scr rfl rfl h1 ?_
  refine E_st rfl rfl rfl ?_
  refine E_st rfl rfl rfl ?_
  refine E_st rfl rfl rfl ?_
  refine E_st rfl rfl rfl ?_
  refine E_scr rfl rfl h2 ?_
  refine E_call rfl rfl ?_
  refine E_st rfl rfl rfl ?_
  refine E_st rfl rfl rfl ?_
  refine E_call rfl rfl ?_
  refine E_st rfl rfl rfl ?_
  refine E_st rfl rfl rfl ?_
  refine E_st rfl rfl rfl ?_
  refine E_st rfl rfl rfl ?_
  refine E_st rfl rfl rfl ?_
  refine E_st rfl rfl rfl ?_
  refine E_st rfl rfl rfl ?_
  refine E_st rfl rfl rfl ?_
  refine E_st rfl rfl rfl ?_
  refine E_st rfl rfl rfl ?_
  refine E_ret rfl rfl ?_
  refine E_st rfl rfl rfl ?_
  refine E_st rfl rfl rfl ?_
  refine E_st rfl rfl rfl ?_
  refine E_call rfl rfl ?_
  refine E_st rfl rfl rfl ?_
  refine E_st rfl rfl rfl ?_
  refine E_st rfl rfl rfl ?_
  refine E_st rfl rfl rfl ?_
  refine E_st rfl rfl rfl ?_
  refine E_st rfl rfl rfl ?_
  refine E_st rfl rfl rfl ?_
  refine E_st rfl rfl rfl ?_
  refine E_st rfl rfl rfl ?_
  refine E_st rfl rfl rfl ?_
  refine E_ret rfl rfl ?_
  refine E_st rfl rfl rfl ?_
  refine E_st rfl rfl rfl ?_
  refine E_st rfl rfl rfl ?_
  refine E_st rfl rfl rfl ?_
  refine E_st rfl rfl rfl ?_
  refine E_st rfl rfl rfl ?_
  refine E_st rfl rfl rfl ?_
  refine E_call rfl rfl ?_
  refine E_st rfl rfl rfl ?_
  refine E_st rfl rfl rfl ?_
  refine E_st rfl rfl rfl ?_
  refine E_st rfl rfl rfl ?_
  refine E_st rfl rfl rfl ?_
  refine E_st rfl rfl rfl ?_
  refine E_st rfl rfl rfl ?_
  refine E_st rfl rfl rfl ?_
  refine E_st rfl rfl rfl ?_
  refine E_st rfl rfl rfl ?_
  refine E_st rfl rfl rfl ?_
  refine E_st rfl rfl rfl ?_
  refine E_st rfl rfl rfl ?_
  refine E_st rfl rfl rfl ?_
  refine E_st rfl rfl rfl ?_
  refine E_st rfl rfl rfl ?_
  refine E_call rfl rfl ?_
  refine E_st rfl rfl rfl ?_
  refine E_st rfl rfl rfl ?_
  refine E_st rfl rfl rfl ?_
  refine E_st rfl rfl rfl ?_
  refine E_st rfl rfl rfl ?_
  refine E_st rfl rfl rfl ?_
  refine E_st rfl rfl rfl ?_
  refine E_st rfl rfl rfl ?_
  refine E_st rfl rfl rfl ?_
  refine E_st rfl rfl rfl ?_
  refine E_st rfl rfl rfl ?_
  refine E_st rfl rfl rfl ?_
  refine E_st rfl rfl rfl ?_
  refine E_st rfl rfl rfl ?_
  refine E_st rfl rfl rfl ?_
  refine E_st rfl rfl rfl ?_
  refine E_st rfl rfl rfl ?_
  refine E_st rfl rfl rfl ?_
  refine E_st rfl rfl rfl ?_
  refine E_call rfl rfl ?_
  refine E_st rfl rfl rfl ?_
  refine E_st rfl rfl rfl ?_
  refine E_st rfl rfl rfl ?_
  refine E_st rfl rfl rfl ?_
  refine E_st rfl rfl rfl ?_
  refine E_st rfl rfl rfl ?_
  refine E_st rfl rfl rfl ?_
  refine E_st rfl rfl rfl ?_
  refine E_st rfl rfl rfl ?_
  refine E_st rfl rfl rfl ?_
  refine E_ret rfl rfl ?_
  refine E_st rfl rfl rfl ?_
  refine E_st rfl rfl rfl ?_
  refine E_st rfl rfl rfl ?_
  refine E_st rfl rfl rfl ?_
  refine E_st rfl rfl rfl ?_
  refine E_st rfl rfl rfl ?_
  refine E_st rfl rfl rfl ?_
  refine E_st rfl rfl rfl ?_
  refine E_st rfl rfl rfl ?_
  refine E_st rfl rfl rfl ?_
  refine E_call rfl rfl ?_
  refine E_st rfl rfl rfl ?_
  refine E_st rfl rfl rfl ?_
  refine E_st rfl rfl rfl ?_
  refine E_st rfl rfl rfl ?_
  refine E_st rfl rfl rfl ?_
  refine E_st rfl rfl rfl ?_
  refine E_st rfl rfl rfl ?_
  refine E_st rfl rfl rfl ?_
  refine E_st rfl rfl rfl ?_
  refine E_st rfl rfl rfl ?_
  refine E_ret rfl rfl ?_
  refine E_st rfl rfl rfl ?_
  refine E_st rfl rfl rfl ?_
  refine E_st rfl rfl rfl ?_
  refine E_st rfl rfl rfl ?_
  refine E_st rfl rfl rfl ?_
  refine E_st rfl rfl rfl ?_
  refine E_st rfl rfl rfl ?_
  refine E_st rfl rfl rfl ?_
  refine E_st rfl rfl rfl ?_
  refine E_st rfl rfl rfl ?_
  refine E_call rfl rfl ?_
  refine E_st rfl rfl rfl ?_
  refine E_st rfl rfl rfl ?_
  refine E_st rfl rfl rfl ?_
  refine E_st rfl rfl rfl ?_
  refine E_st rfl rfl rfl ?_
  refine E_st rfl rfl rfl ?_
  refine E_st rfl rfl rfl ?_
  refine E_st rfl rfl rfl ?_
  refine E_st rfl rfl rfl ?_
  refine E_st rfl rfl rfl ?_
  refine E_ret rfl rfl ?_
  refine E_st rfl rfl rfl ?_
  refine E_st rfl rfl rfl ?_
  refine E_st rfl rfl rfl ?_
  refine E_st rfl rfl rfl ?_
  refine E_st rfl rfl rfl ?_
  refine E_st rfl rfl rfl ?_
  refine E_st rfl rfl rfl ?_
  refine E_st rfl rfl rfl ?_
  refine E_st rfl rfl rfl ?_
  refine E_st rfl rfl rfl ?_
  refine E_call rfl rfl ?_
  refine E_st rfl rfl rfl ?_
  refine E_st rfl rfl rfl ?_
  refine E_st rfl rfl rfl ?_
  refine E_st rfl rfl rfl ?_
  refine E_st rfl rfl rfl ?_
  refine E_st rfl rfl rfl ?_
  refine E_st rfl rfl rfl ?_
  refine E_st rfl rfl rfl ?_
  refine E_st rfl rfl rfl ?_
  refine E_st rfl rfl rfl ?_
  refine E_ret rfl rfl ?_
  refine E_st rfl rfl rfl ?_
  refine E_st rfl rfl rfl ?_
  refine E_st rfl rfl rfl ?_
  refine E_st rfl rfl rfl ?_
  refine E_st rfl rfl rfl ?_
  refine E_st rfl rfl rfl ?_
  refine E_st rfl rfl rfl ?_
  refine E_st rfl rfl rfl ?_
  refine E_st rfl rfl rfl ?_
  refine E_st rfl rfl rfl ?_
  refine E_call rfl rfl ?_
  refine E_st rfl rfl rfl ?_
  refine E_st rfl rfl rfl ?_
  refine E_st rfl rfl rfl ?_
  refine E_st rfl rfl rfl ?_
  refine E_st rfl rfl rfl ?_
  refine E_st rfl rfl rfl ?_
  refine E_st rfl rfl rfl ?_
  refine E_st rfl rfl rfl ?_
  refine E_st rfl rfl rfl ?_
  refine E_st rfl rfl rfl ?_
  refine E_ret rfl rfl ?_
  refine E_st rfl rfl rfl ?_
  refine E_st rfl rfl rfl ?_
  refine E_st rfl rfl rfl ?_
  refine E_st rfl rfl rfl ?_
  refine E_st rfl rfl rfl ?_
  refine E_st rfl rfl rfl ?_
  refine E_st rfl rfl rfl ?_
  refine E_st rfl rfl rfl ?_
  refine E_st rfl rfl rfl ?_
  refine E_st rfl rfl rfl ?_
  refine E_call rfl rfl ?_
  refine E_st rfl rfl rfl ?_
  refine E_st rfl rfl rfl ?_
  refine E_st rfl rfl rfl ?_
  refine E_st rfl rfl rfl ?_
  refine E_st rfl rfl rfl ?_
  refine E_st rfl rfl rfl ?_
  refine E_st rfl rfl rfl ?_
  refine E_st rfl rfl rfl ?_
  refine E_st rfl rfl rfl ?_
  refine E_st rfl rfl rfl ?_
  refine E_ret rfl rfl ?_
  refine E_st rfl rfl rfl ?_
  refine E_st rfl rfl rfl ?_
  refine E_st rfl rfl rfl ?_
  refine E_st rfl rfl rfl ?_
  refine E_st rfl rfl rfl ?_
  refine E_st rfl rfl rfl ?_
  refine E_st rfl rfl rfl ?_
  refine E_st rfl rfl rfl ?_
  refine E_st rfl rfl rfl ?_
  refine E_ret rfl rfl ?_
  refine E_st rfl rfl rfl ?_
  refine E_st rfl rfl rfl ?_
  refine E_st rfl rfl rfl ?_
  refine E_st rfl rfl rfl ?_
  refine E_st rfl rfl rfl ?_
  refine E_st rfl rfl rfl ?_
  refine E_st rfl rfl rfl ?_
  refine E_call rfl rfl ?_
  refine E_st rfl rfl rfl ?_
  refine E_st rfl rfl rfl ?_
  refine E_st rfl rfl rfl ?_
  refine E_st rfl rfl rfl ?_
  refine E_st rfl rfl rfl ?_
  refine E_st rfl rfl rfl ?_
  refine E_st rfl rfl rfl ?_
  refine E_st rfl rfl rfl ?_
  refine E_st rfl rfl rfl ?_
  refine E_st rfl rfl rfl ?_
  refine E_st rfl rfl rfl ?_
  refine E_st rfl rfl rfl ?_
  refine E_st rfl rfl rfl ?_
  refine E_st rfl rfl rfl ?_
  refine E_st rfl rfl rfl ?_
  refine E_st rfl rfl rfl ?_
  refine E_st rfl rfl rfl ?_
  refine E_st rfl rfl rfl ?_
  refine E_st rfl rfl rfl ?_
  refine E_call rfl rfl ?_
  refine E_st rfl rfl rfl ?_
  refine E_st rfl rfl rfl ?_
  refine E_st rfl rfl rfl ?_
  refine E_st rfl rfl rfl ?_
  refine E_st rfl rfl rfl ?_
  refine E_st rfl rfl rfl ?_
  refine E_st rfl rfl rfl ?_
  refine E_st rfl rfl rfl ?_
  refine E_st rfl rfl rfl ?_
  refine E_st rfl rfl rfl ?_
  refine E_ret rfl rfl ?_
  refine E_st rfl rfl rfl ?_
  refine E_st rfl rfl rfl ?_
  refine E_st rfl rfl rfl ?_
  refine E_st rfl rfl rfl ?_
  refine E_st rfl rfl rfl ?_
  refine E_st rfl rfl rfl ?_
  refine E_st rfl rfl rfl ?_
  refine E_st rfl rfl rfl ?_
  refine E_st rfl rfl rfl ?_
  refine E_st rfl rfl rfl ?_
  refine E_call rfl rfl ?_
  refine E_st rfl rfl rfl ?_
  refine E_st rfl rfl rfl ?_
  refine E_st rfl rfl rfl ?_
  refine E_st rfl rfl rfl ?_
  refine E_st rfl rfl rfl ?_
  refine E_st rfl rfl rfl ?_
  refine E_st rfl rfl rfl ?_
  refine E_st rfl rfl rfl ?_
  refine E_st rfl rfl rfl ?_
  refine E_st rfl rfl rfl ?_
  refine E_ret rfl rfl ?_
  refine E_st rfl rfl rfl ?_
  refine E_st rfl rfl rfl ?_
  refine E_st rfl rfl rfl ?_
  refine E_st rfl rfl rfl ?_
  refine E_st rfl rfl rfl ?_
  refine E_st rfl rfl rfl ?_
  refine E_st rfl rfl rfl ?_
  refine E_st rfl rfl rfl ?_
  refine E_st rfl rfl rfl ?_
  refine E_ret rfl rfl ?_
  refine E_st rfl rfl rfl ?_
  refine E_st rfl rfl rfl ?_
  refine E_st rfl rfl rfl ?_
  refine E_st rfl rfl rfl ?_
  refine E_ret rfl rfl ?_
  refine E_st rfl rfl rfl ?_
  refine E_st rfl rfl rfl ?_
  refine E_st rfl rfl rfl ?_
  refine E_ret rfl rfl ?_
  refine E_st rfl rfl rfl ?_
  refine E_st rfl rfl rfl ?_
  refine E_st rfl rfl rfl ?_
  refine E_st rfl rfl rfl ?_
  refine E_st rfl rfl rfl ?_
  refine E_scr rfl rfl h1 ?_
  refine E_st rfl rfl rfl ?_
  refine E_st rfl rfl rfl ?_
  refine E_st rfl rfl rfl ?_
  refine E_st rfl rfl rfl ?_
  refine E_scr rfl rfl h2 ?_
  refine E_call rfl rfl ?_
  refine E_st rfl rfl rfl ?_
  refine E_call rfl rfl ?_
  refine E_st rfl rfl rfl ?_
  refine E_st rfl rfl rfl ?_
  refine E_st rfl rfl rfl ?_
  refine E_call rfl rfl ?_
  refine E_st rfl rfl rfl ?_
  refine E_st rfl rfl rfl ?_
  refine E_st rfl rfl rfl ?_
  refine E_st rfl rfl rfl ?_
  refine E_st rfl rfl rfl ?_
  refine E_st rfl rfl rfl ?_
  refine E_st rfl rfl rfl ?_
  refine E_st rfl rfl rfl ?_
  refine E_ret rfl rfl ?_
  refine E_ret rfl rfl ?_
  refine E_st rfl rfl rfl ?_
  refine E_st rfl rfl rfl ?_
  refine E_call rfl rfl ?_
  refine E_st rfl rfl rfl ?_
  refine E_st rfl rfl rfl ?_
  refine E_st rfl rfl rfl ?_
  refine E_call rfl rfl ?_
  refine E_st rfl rfl rfl ?_
  refine E_st rfl rfl rfl ?_
  refine E_st rfl rfl rfl ?_
  refine E_st rfl rfl rfl ?_
  refine E_st rfl rfl rfl ?_
  refine E_st rfl rfl rfl ?_
  refine E_st rfl rfl rfl ?_
  refine E_st rfl rfl rfl ?_
  refine E_ret rfl rfl ?_
  refine E_ret rfl rfl ?_
  refine E_st rfl rfl rfl ?_
  refine E_st rfl rfl rfl ?_
  refine E_st rfl rfl rfl ?_
  refine E_call rfl rfl ?_
  refine E_st rfl rfl rfl ?_
  refine E_st rfl rfl rfl ?_
  refine E_st rfl rfl rfl ?_
  refine E_st rfl rfl rfl ?_
  refine E_st rfl rfl rfl ?_
  refine E_ret rfl rfl ?_
  refine E_st rfl rfl rfl ?_
  refine E_st rfl rfl rfl ?_
  refine E_st rfl rfl rfl ?_
  refine E_st rfl rfl rfl ?_
  refine E_st rfl rfl rfl ?_
  refine E_st rfl rfl rfl ?_
  refine E_st rfl rfl rfl ?_
  refine E_st rfl rfl rfl ?_
  refine E_st rfl rfl rfl ?_
  refine E_st rfl rfl rfl ?_
  refine E_st rfl rfl rfl ?_
  refine E_st rfl rfl rfl ?_
  refine E_st rfl rfl rfl ?_
  refine E_st rfl rfl rfl ?_
  refine E_st rfl rfl rfl ?_
  refine E_st rfl rfl rfl ?_
  refine E_st rfl rfl rfl ?_
  refine E_st rfl rfl rfl ?_
  refine E_st rfl rfl rfl ?_
  refine E_st rfl rfl rfl ?_
  refine E_st rfl rfl rfl ?_
  refine E_st rfl rfl rfl ?_
  refine E_st rfl rfl rfl ?_
  refine E_st rfl rfl rfl ?_
  refine E_st rfl rfl rfl ?_
  refine E_st rfl rfl rfl ?_
  refine E_st rfl rfl rfl ?_
  refine E_st rfl rfl rfl ?_
  refine E_st rfl rfl rfl ?_
  refine E_st rfl rfl rfl ?_
  refine E_st rfl rfl rfl ?_
  refine E_st rfl rfl rfl ?_
  refine E_st rfl rfl rfl ?_
  refine E_st rfl rfl rfl ?_
  refine E_st rfl rfl rfl ?_
  refine E_st rfl rfl rfl ?_
  refine E_st rfl rfl rfl ?_
  refine E_st rfl rfl rfl ?_
  refine E_st rfl rfl rfl ?_
  refine E_st rfl rfl rfl ?_
  refine E_st rfl rfl rfl ?_
  refine E_st rfl rfl rfl ?_
  refine E_st rfl rfl rfl ?_
  refine E_st rfl rfl rfl ?_
  refine E_st rfl rfl rfl ?_
  refine E_st rfl rfl rfl ?_
  refine E_st rfl rfl rfl ?_
  refine E_ret rfl rfl ?_
  refine E_st rfl rfl rfl ?_
  refine E_st rfl rfl rfl ?_
  refine E_st rfl rfl rfl ?_
  refine E_st rfl rfl rfl ?_
  refine E_st rfl rfl rfl ?_
  refine E_st rfl rfl rfl ?_
  refine E_st rfl rfl rfl ?_
  refine E_st rfl rfl rfl ?_
  refine E_st rfl rfl rfl ?_
  refine E_st rfl rfl rfl ?_
  exact E_ret rfl rfl ⟨rfl, rfl⟩
set_option maxRecDepth 100000 in
set_option maxHeartbeats 40000000 in
theorem pc_8_2_2 (xs : Nat → Int) {z a3 a4 a5 : Int} (hz : b32 (fun a b => a &&& b) z 31 = 8) (h0 : xs 0 = z) (h1 : xs 1 = 2) (h2 : xs 2 = 2) (h3 : xs 3 = a3) (h4 : xs 4 = a4) (h5 : xs 5 = a5) : E 0 18 LL [] (s0 xs 6) PQ := by
  refine E_st rfl rfl rfl ?_
  refine E_st rfl rfl rfl ?_
  refine E_st rfl rfl rfl ?_
  refine E_st rfl rfl rfl ?_
  refine E_st rfl rfl rfl ?_
  refine E_st rfl rfl rfl ?_
  refine E_st rfl rfl rfl ?_
  refine E_st rfl rfl rfl ?_
  refine E_scr rfl rfl h0 ?_
  refine E_st rfl rfl rfl ?_
  refine E_st rfl rfl rfl ?_
  refine E_val hz ?_
  refine E_st rfl rfl rfl ?_
  refine E_st rfl rfl rfl ?_
  refine E_st rfl rfl rfl ?_
  refine E_st rfl rfl rfl ?_
  refine E_st rfl rfl rfl ?_
  refine E_st rfl rfl rfl ?_
  refine E_scr rfl rfl h1 ?_
  refine E_st rfl rfl rfl ?_
  refine E_st rfl rfl rfl ?_
  refine E_st rfl rfl rfl ?_
  refine E_st rfl rfl rfl ?_
  refine E_scr rfl rfl h2 ?_
  refine E_call rfl rfl ?_
  refine E_st rfl rfl rfl ?_
  refine E_st rfl rfl rfl ?_
  refine E_call rfl rfl ?_
  refine E_st rfl rfl rfl ?_
  refine E_st rfl rfl rfl ?_
  refine E_st rfl rfl rfl ?_
  refine E_st rfl rfl rfl ?_
  refine E_st rfl rfl rfl ?_
  refine E_st rfl rfl rfl ?_
  refine E_st rfl rfl rfl ?_
  refine E_st rfl rfl rfl ?_
  refine E_st rfl rfl rfl ?_
  refine E_st rfl rfl rfl ?_
  refine E_ret rfl rfl ?_
  refine E_st rfl rfl rfl ?_
  refine E_st rfl rfl rfl ?_
  refine E_st rfl rfl rfl ?_
  refine E_call rfl rfl ?_
  refine E_st rfl rfl rfl ?_
  refine E_st rfl rfl rfl ?_
  refine E_st rfl rfl rfl ?_
  refine E_st rfl rfl rfl ?_
  refine E_st rfl rfl rfl ?_
  refine E_st rfl rfl rfl ?_
  refine E_st rfl rfl rfl ?_
  refine E_st rfl rfl rfl ?_
  refine E_st rfl rfl rfl ?_
  refine E_st rfl rfl rfl ?_
  refine E_ret rfl rfl ?_
  refine E_st rfl rfl rfl ?_
  refine E_st rfl rfl rfl ?_
  refine E_st rfl rfl rfl ?_
  refine E_st rfl rfl rfl ?_
  refine E_st rfl rfl rfl ?_
  refine E_st rfl rfl rfl ?_
  refine E_st rfl rfl rfl ?_
  refine E_call rfl rfl ?_
  refine E_st rfl rfl rfl ?_
  refine E_st rfl rfl rfl ?_
  refine E_st rfl rfl rfl ?_
  refine E_st rfl rfl rfl ?_
  refine E_st rfl rfl rfl ?_
  refine E_st rfl rfl rfl ?_
  refine E_st rfl rfl rfl ?_
  refine E_st rfl rfl rfl ?_
  refine E_st rfl rfl rfl ?_
  refine E_st rfl rfl rfl ?_
  refine E_st rfl rfl rfl ?_
  refine E_st rfl rfl rfl ?_
  refine E_st rfl rfl rfl ?_
  refine E_st rfl rfl rfl ?_
  refine E_st rfl rfl rfl ?_
  refine E_st rfl rfl rfl ?_
  refine E_call rfl rfl ?_
  refine E_st rfl rfl rfl ?_
  refine E_st rfl rfl rfl ?_
  refine E_st rfl rfl rfl ?_
  refine E_st rfl rfl rfl ?_
  refine E_st rfl rfl rfl ?_
  refine E_st rfl rfl rfl ?_
  refine E_st rfl rfl rfl ?_
  refine E_st rfl rfl rfl ?_
  refine E_st rfl rfl rfl ?_
  refine E_st rfl rfl rfl ?_
  refine E_st rfl rfl rfl ?_
  refine E_st rfl rfl rfl ?_
  refine E_st rfl rfl rfl ?_
  refine E_st rfl rfl rfl ?_
  refine E_st rfl rfl rfl ?_
  refine E_st rfl rfl rfl ?_
  refine E_st rfl rfl rfl ?_
  refine E_st rfl rfl rfl ?_
  refine E_st rfl rfl rfl ?_
  refine E_call rfl rfl ?_
  refine E_st rfl rfl rfl ?_
  refine E_st rfl rfl rfl ?_
  refine E_st rfl rfl rfl ?_
  refine E_st rfl rfl rfl ?_
  refine E_st rfl rfl rfl ?_
  refine E_st rfl rfl rfl ?_
  refine E_st rfl rfl rfl ?_
  refine E_st rfl rfl rfl ?_
  refine E_st rfl rfl rfl ?_
  refine E_st rfl rfl rfl ?_
  refine E_ret rfl rfl ?_
  refine E_st rfl rfl rfl ?_
  refine E_st rfl rfl rfl ?_
  refine E_st rfl rfl rfl ?_
  refine E_st rfl rfl rfl ?_
  refine E_st rfl rfl rfl ?_
  refine E_st rfl rfl rfl ?_
  refine E_st rfl rfl rfl ?_
  refine E_st rfl rfl rfl ?_
  refine E_st rfl rfl rfl ?_
  refine E_st rfl rfl rfl ?_
  refine E_call rfl rfl ?_
  refine E_st rfl rfl rfl ?_
  refine E_st rfl rfl rfl ?_
  refine E_st rfl rfl rfl ?_
  refine E_st rfl rfl rfl ?_
  refine E_st rfl rfl rfl ?_
  refine E_st rfl rfl rfl ?_
  refine E_st rfl rfl rfl ?_
  refine E_st rfl rfl rfl ?_
  refine E_st rfl rfl rfl ?_
  refine E_st rfl rfl rfl ?_
  refine E_ret rfl rfl ?_
  refine E_st rfl rfl rfl ?_
  refine E_st rfl rfl rfl ?_
  refine E_st rfl rfl rfl ?_
  refine E_st rfl rfl rfl ?_
  refine E_st rfl rfl rfl ?_
  refine E_st rfl rfl rfl ?_
  refine E_st rfl rfl rfl ?_
  refine E_st rfl rfl rfl ?_
  refine E_st rfl rfl rfl ?_
  refine E_st rfl rfl rfl ?_
  refine E_call rfl rfl ?_
  refine E_st rfl rfl rfl ?_
  refine E_st rfl rfl rfl ?_
  refine E_st rfl rfl rfl ?_
  refine E_st rfl rfl rfl ?_
  refine E_st rfl rfl rfl ?_
  refine E_st rfl rfl rfl ?_
  refine E_st rfl rfl rfl ?_
  refine E_st rfl rfl rfl ?_
  refine E_st rfl rfl rfl ?_
  refine E_st rfl rfl rfl ?_
  refine E_ret rfl rfl ?_
  refine E_st rfl rfl rfl ?_
  refine E_st rfl rfl rfl ?_
  refine E_st rfl rfl rfl ?_
  refine E_st rfl rfl rfl ?_
  refine E_st rfl rfl rfl ?_
  refine E_st rfl rfl rfl ?_
  refine E_st rfl rfl rfl ?_
  refine E_st rfl rfl rfl ?_
  refine E_st rfl rfl rfl ?_
  refine E_st rfl rfl rfl ?_
  refine E_call rfl rfl ?_
  refine E_st rfl rfl rfl ?_
  refine E_st rfl rfl rfl ?_
  refine E_st rfl rfl rfl ?_
  refine E_st rfl rfl rfl ?_
  refine E_st rfl rfl rfl ?_
  refine E_st rfl rfl rfl ?_
  refine E_st rfl rfl rfl ?_
  refine E_st rfl rfl rfl ?_
  refine E_st rfl rfl rfl ?_
  refine E_st rfl rfl rfl ?_
  refine E_ret rfl rfl ?_
  refine E_st rfl rfl rfl ?_
  refine E_st rfl rfl rfl ?_
  refine E_st rfl rfl rfl ?_
  refine E_st rfl rfl rfl ?_
  refine E_st rfl rfl rfl ?_
  refine E_st rfl rfl rfl ?_
  refine E_st rfl rfl rfl ?_
  refine E_st rfl rfl rfl ?_
  refine E_st rfl rfl rfl ?_
  refine E_st rfl rfl rfl ?_
  refine E_call rfl rfl ?_
  refine E_st rfl rfl rfl ?_
  refine E_st rfl rfl rfl ?_
  refine E_st rfl rfl rfl ?_
  refine E_st rfl rfl rfl ?_
  refine E_st rfl rfl rfl ?_
  refine E_st rfl rfl rfl ?_
  refine E_st rfl rfl rfl ?_
  refine E_st rfl rfl rfl ?_
  refine E_st rfl rfl rfl ?_
  refine E_st rfl rfl rfl ?_
  refine E_ret rfl rfl ?_
  refine E_st rfl rfl rfl ?_
  refine E_st rfl rfl rfl ?_
  refine E_st rfl rfl rfl ?_
  refine E_st rfl rfl rfl ?_
  refine E_st rfl rfl rfl ?_
  refine E_st rfl rfl rfl ?_
  refine E_st rfl rfl rfl ?_
  refine E_st rfl rfl rfl ?_
  refine E_st rfl rfl rfl ?_
  refine E_st rfl rfl rfl ?_
  refine E_call rfl rfl ?_
  refine E_st rfl rfl rfl ?_
  refine E_st rfl rfl rfl ?_
  refine E_st rfl rfl rfl ?_
  refine E_st rfl rfl rfl ?_
  refine E_st rfl rfl rfl ?_
  refine E_st rfl rfl rfl ?_
  refine E_st rfl rfl rfl ?_
  refine E_st rfl rfl rfl ?_
  refine E_st rfl rfl rfl ?_
  refine E_st rfl rfl rfl ?_
  refine E_ret rfl rfl ?_
  refine E_st rfl rfl rfl ?_
  refine E_st rfl rfl rfl ?_
  refine E_st rfl rfl rfl ?_
  refine E_st rfl rfl rfl ?_
  refine E_st rfl rfl rfl ?_
  refine E_st rfl rfl rfl ?_
  refine E_st rfl rfl rfl ?_
  refine E_st rfl rfl rfl ?_
  refine E_st rfl rfl rfl ?_
  refine E_ret rfl rfl ?_
  refine E_st rfl rfl rfl ?_
  refine E_st rfl rfl rfl ?_
  refine E_st rfl rfl rfl ?_
  refine E_st rfl rfl rfl ?_
  refine E_st rfl rfl rfl ?_
  refine E_st rfl rfl rfl ?_
  refine E_st rfl rfl rfl ?_
  refine E_call rfl rfl ?_
  refine E_st rfl rfl rfl ?_
  refine E_st rfl rfl rfl ?_
  refine E_st rfl rfl rfl ?_
  refine E_st rfl rfl rfl ?_
  refine E_st rfl rfl rfl ?_
  refine E_st rfl rfl rfl ?_
  refine E_st rfl rfl rfl ?_
  refine E_st rfl rfl rfl ?_
  refine E_st rfl rfl rfl ?_
  refine E_st rfl rfl rfl ?_
  refine E_st rfl rfl rfl ?_
  refine E_st rfl rfl rfl ?_
  refine E_st rfl rfl rfl ?_
  refine E_st rfl rfl rfl ?_
  refine E_st rfl rfl rfl ?_
  refine E_st rfl rfl rfl ?_
  refine E_st rfl rfl rfl ?_
  refine E_st rfl rfl rfl ?_
  refine E_st rfl rfl rfl ?_
  refine E_call rfl rfl ?_
  refine E_st rfl rfl rfl ?_
  refine E_st rfl rfl rfl ?_
  refine E_st rfl rfl rfl ?_
  refine E_st rfl rfl rfl ?_
  refine E_st rfl rfl rfl ?_
  refine E_st rfl rfl rfl ?_
  refine E_st rfl rfl rfl ?_
  refine E_st rfl rfl rfl ?_
  refine E_st rfl rfl rfl ?_
  refine E_st rfl rfl rfl ?_
  refine E_ret rfl rfl ?_
  refine E_st rfl rfl rfl ?_
  refine E_st rfl rfl rfl ?_
  refine E_st rfl rfl rfl ?_
  refine E_st rfl rfl rfl ?_
  refine E_st rfl rfl rfl ?_
  refine E_st rfl rfl rfl ?_
  refine E_st rfl rfl rfl ?_
  refine E_st rfl rfl rfl ?_
  refine E_st rfl rfl rfl ?_
  refine E_st rfl rfl rfl ?_
  refine E_call rfl rfl ?_
  refine E_st rfl rfl rfl ?_
  refine E_st rfl rfl rfl ?_
  refine E_st rfl rfl rfl ?_
  refine E_st rfl rfl rfl ?_
  refine E_st rfl rfl rfl ?_
  refine E_st rfl rfl rfl ?_
  refine E_st rfl rfl rfl ?_
  refine E_st rfl rfl rfl ?_
  refine E_st rfl rfl rfl ?_
  refine E_st rfl rfl rfl ?_
  refine E_ret rfl rfl ?_
  refine E_st rfl rfl rfl ?_
  refine E_st rfl rfl rfl ?_
  refine E_st rfl rfl rfl ?_
  refine E_st rfl rfl rfl ?_
  refine E_st rfl rfl rfl ?_
  refine E_st rfl rfl rfl ?_
  refine E_st rfl rfl rfl ?_
  refine E_st rfl rfl rfl ?_
  refine E_st rfl rfl rfl ?_
  refine E_ret rfl rfl ?_
  refine E_st rfl rfl rfl ?_
  refine E_st rfl rfl rfl ?_
  refine E_st rfl rfl rfl ?_
  refine E_st rfl rfl rfl ?_
  refine E_ret rfl rfl ?_
  refine E_st rfl rfl rfl ?_
  refine E_st rfl rfl rfl ?_
  refine E_st rfl rfl rfl ?_
  refine E_ret rfl rfl ?_
  refine E_st rfl rfl rfl ?_
  refine E_st rfl rfl rfl ?_
  refine E_st rfl rfl rfl ?_
  refine E_st rfl rfl rfl ?_
  refine E_st rfl rfl rfl ?_
  refine E_scr rfl rfl h1 ?_
  refine E_st rfl rfl rfl ?_
  refine E_st rfl rfl rfl ?_
  refine E_st rfl rfl rfl ?_
  refine E_st rfl rfl rfl ?_
  refine E_scr rfl rfl h2 ?_
  refine E_call rfl rfl ?_
  refine E_st rfl rfl rfl ?_
  refine E_call rfl rfl ?_
  refine E_st rfl rfl rfl ?_
  refine E_st rfl rfl rfl ?_
  refine E_st rfl rfl rfl ?_
  refine E_call rfl rfl ?_
  refine E_st rfl rfl rfl ?_
  refine E_st rfl rfl rfl ?_
  refine E_st rfl rfl rfl ?_
  refine E_st rfl rfl rfl ?_
  refine E_st rfl rfl rfl ?_
  refine E_st rfl rfl rfl ?_
  refine E_st rfl rfl rfl ?_
  refine E_st rfl rfl rfl ?_
  refine E_ret rfl rfl ?_
  refine E_ret rfl rfl ?_
  refine E_st rfl rfl rfl ?_
  refine E_st rfl rfl rfl ?_
  refine E_call rfl rfl ?_
  refine E_st rfl rfl rfl ?_
  refine E_st rfl rfl rfl ?_
  refine E_st rfl rfl rfl ?_
  refine E_call rfl rfl ?_
  refine E_st rfl rfl rfl ?_
  refine E_st rfl rfl rfl ?_
  refine E_st rfl rfl rfl ?_
  refine E_st rfl rfl rfl ?_
  refine E_st rfl rfl rfl ?_
  refine E_st rfl rfl rfl ?_
  refine E_st rfl rfl rfl ?_
  refine E_st rfl rfl rfl ?_
  refine E_ret rfl rfl ?_
  refine E_ret rfl rfl ?_
  refine E_st rfl rfl rfl ?_
  refine E_st rfl rfl rfl ?_
  refine E_st rfl rfl rfl ?_
  refine E_call rfl rfl ?_
  refine E_st rfl rfl rfl ?_
  refine E_st rfl rfl rfl ?_
  refine E_st rfl rfl rfl ?_
  refine E_st rfl rfl rfl ?_
  refine E_st rfl rfl rfl ?_
  refine E_ret rfl rfl ?_
  refine E_st rfl rfl rfl ?_
  refine E_st rfl rfl rfl ?_
  refine E_st rfl rfl rfl ?_
  refine E_st rfl rfl rfl ?_
  refine E_st rfl rfl rfl ?_
  refine E_st rfl rfl rfl ?_
  refine E_st rfl rfl rfl ?_
  refine E_ret rfl rfl ?_
  refine E_st rfl rfl rfl ?_
  refine E_st rfl rfl rfl ?_
  refine E_st rfl rfl rfl ?_
  refine E_st rfl rfl rfl ?_
  refine E_st rfl rfl rfl ?_
  refine E_st rfl rfl rfl ?_
  refine E_st rfl rfl rfl ?_
  refine E_st rfl rfl rfl ?_
  refine E_st rfl rfl rfl ?_
  refine E_st rfl rfl rfl ?_
  exact E_ret rfl rfl ⟨rfl, rfl⟩
set_option maxRecDepth 100000 in
set_option maxHeartbeats 40000000 in
theorem pc_8_2_3 (xs : Nat → Int) {z a3 a4 a5 : Int} (hz : b32 (fun a b => a &&& b) z 31 = 8) (h0 : xs 0 = z) (h1 : xs 1 = 2) (h2 : xs 2 = 3) (h3 : xs 3 = a3) (h4 : xs 4 = a4) (h5 : xs 5 = a5) : E 0 18 LL [] (s0 xs 6) PQ := by
  refine E_st rfl rfl rfl ?_
  refine E_st rfl rfl rfl ?_
  refine E_st rfl rfl rfl ?_
  refine E_st rfl rfl rfl ?_
  refine E_st rfl rfl rfl ?_
  refine E_st rfl rfl rfl ?_
  refine E_st rfl rfl rfl ?_
  refine E_st rfl rfl rfl ?_
  refine E_scr rfl rfl h0 ?_
  refine E_st rfl rfl rfl ?_
  refine E_st rfl rfl rfl ?_
  refine E_val hz ?_
  refine E_st rfl rfl rfl ?_
  refine E_st rfl rfl rfl ?_
  refine E_st rfl rfl rfl ?_
  refine E_st rfl rfl rfl ?_
  refine E_st rfl rfl rfl ?_
  refine E_st rfl rfl rfl ?_
  refine E_scr rfl rfl h1 ?_
  refine E_st rfl rfl rfl ?_
  refine E_st rfl rfl rfl ?_
  refine E_st rfl rfl rfl ?_
  refine E_st rfl rfl rfl ?_
  refine E_scr rfl rfl h2 ?_
  refine E_call rfl rfl ?_
  refine E_st rfl rfl rfl ?_
  refine E_st rfl rfl rfl ?_
  refine E_call rfl rfl ?_
  refine E_st rfl rfl rfl ?_
  refine E_st rfl rfl rfl ?_
  refine E_st rfl rfl rfl ?_
  refine E_st rfl rfl rfl ?_
  refine E_st rfl rfl rfl ?_
  refine E_st rfl rfl rfl ?_
  refine E_st rfl rfl rfl ?_
  refine E_st rfl rfl rfl ?_
  refine E_st rfl rfl rfl ?_
  refine E_st rfl rfl rfl ?_
  refine E_ret rfl rfl ?_
  refine E_st rfl rfl rfl ?_
  refine E_st rfl rfl rfl ?_
  refine E_st rfl rfl rfl ?_
  refine E_call rfl rfl ?_
  refine E_st rfl rfl rfl ?_
  refine E_st rfl rfl rfl ?_
  refine E_st rfl rfl rfl ?_
  refine E_st rfl rfl rfl ?_
  refine E_st rfl rfl rfl ?_
  refine E_st rfl rfl rfl ?_
  refine E_st rfl rfl rfl ?_
  refine E_st rfl rfl rfl ?_
  refine E_st rfl rfl rfl ?_
  refine E_st rfl rfl rfl ?_
  refine E_ret rfl rfl ?_
  refine E_st rfl rfl rfl ?_
  refine E_st rfl rfl rfl ?_
  refine E_st rfl rfl rfl ?_
  refine E_st rfl rfl rfl ?_
  refine E_st rfl rfl rfl ?_
  refine E_st rfl rfl rfl ?_
  refine E_st rfl rfl rfl ?_
  refine E_call rfl rfl ?_
  refine E_st rfl rfl rfl ?_
  refine E_st rfl rfl rfl ?_
  refine E_st rfl rfl rfl ?_
  refine E_st rfl rfl rfl ?_
  refine E_st rfl rfl rfl ?_
  refine E_st rfl rfl rfl ?_
  refine E_st rfl rfl rfl ?_
  refine E_st rfl rfl rfl ?_
  refine E_st rfl rfl rfl ?_
  refine E_st rfl rfl rfl ?_
  refine E_st rfl rfl rfl ?_
  refine E_st rfl rfl rfl ?_
  refine E_st rfl rfl rfl ?_
  refine E_st rfl rfl rfl ?_
  refine E_st rfl rfl rfl ?_
  refine E_st rfl rfl rfl ?_
  refine E_call rfl rfl ?_
  refine E_st rfl rfl rfl ?_
  refine E_st rfl rfl rfl ?_
  refine E_st rfl rfl rfl ?_
  refine E_st rfl rfl rfl ?_
  refine E_st rfl rfl rfl ?_
  refine E_st rfl rfl rfl ?_
  refine E_st rfl rfl rfl ?_
  refine E_st rfl rfl rfl ?_
  refine E_st rfl rfl rfl ?_
  refine E_st rfl rfl rfl ?_
  refine E_st rfl rfl rfl ?_
  refine E_st rfl rfl rfl ?_
  refine E_st rfl rfl rfl ?_
  refine E_st rfl rfl rfl ?_
  refine E_st rfl rfl rfl ?_
  refine E_st rfl rfl rfl ?_
  refine E_st rfl rfl rfl ?_
  refine E_st rfl rfl rfl ?_
  refine E_st rfl rfl rfl ?_
  refine E_call rfl rfl ?_
  refine E_st rfl rfl rfl ?_
  refine E_st rfl rfl rfl ?_
  refine E_st rfl rfl rfl ?_
  refine E_st rfl rfl rfl ?_
  refine E_st rfl rfl rfl ?_
  refine E_st rfl rfl rfl ?_
  refine E_st rfl rfl rfl ?_
  refine E_st rfl rfl rfl ?_
  refine E_st rfl rfl rfl ?_
  refine E_st rfl rfl rfl ?_
  refine E_ret rfl rfl ?_
  refine E_st rfl rfl rfl ?_
  refine E_st rfl rfl rfl ?_
  refine E_st rfl rfl rfl ?_
  refine E_st rfl rfl rfl ?_
  refine E_st rfl rfl rfl ?_
  refine E_st rfl rfl rfl ?_
  refine E_st rfl rfl rfl ?_
  refine E_st rfl rfl rfl ?_
  refine E_st rfl rfl rfl ?_
  refine E_st rfl rfl rfl ?_
  refine E_call rfl rfl ?_
  refine E_st rfl rfl rfl ?_
  refine E_st rfl rfl rfl ?_
  refine E_st rfl rfl rfl ?_
  refine E_st rfl rfl rfl ?_
  refine E_st rfl rfl rfl ?_
  refine E_st rfl rfl rfl ?_
  refine E_st rfl rfl rfl ?_
  refine E_st rfl rfl rfl ?_
  refine E_st rfl rfl rfl ?_
  refine E_st rfl rfl rfl ?_
  refine E_ret rfl rfl ?_
  refine E_st rfl rfl rfl ?_
  refine E_st rfl rfl rfl ?_
  refine E_st rfl rfl rfl ?_
  refine E_st rfl rfl rfl ?_
  refine E_st rfl rfl rfl ?_
  refine E_st rfl rfl rfl ?_
  refine E_st rfl rfl rfl ?_
  refine E_st rfl rfl rfl ?_
  refine E_st rfl rfl rfl ?_
  refine E_st rfl rfl rfl ?_
  refine E_call rfl rfl ?_
  refine E_st rfl rfl rfl ?_
  refine E_st rfl rfl rfl ?_
  refine E_st rfl rfl rfl ?_
  refine E_st rfl rfl rfl ?_
  refine E_st rfl rfl rfl ?_
  refine E_st rfl rfl rfl ?_
  refine E_st rfl rfl rfl ?_
  refine E_st rfl rfl rfl ?_
  refine E_st rfl rfl rfl ?_
  refine E_st rfl rfl rfl ?_
  refine E_ret rfl rfl ?_
  refine E_st rfl rfl rfl ?_
  refine E_st rfl rfl rfl ?_
  refine E_st rfl rfl rfl ?_
  refine E_st rfl rfl rfl ?_
  refine E_st rfl rfl rfl ?_
  refine E_st rfl rfl rfl ?_
  refine E_st rfl rfl rfl ?_
  refine E_st rfl rfl rfl ?_
  refine E_st rfl rfl rfl ?_
  refine E_st rfl rfl rfl ?_
  refine E_call rfl rfl ?_
  refine E_st rfl rfl rfl ?_
  refine E_st rfl rfl rfl ?_
  refine E_st rfl rfl rfl ?_
  refine E_st rfl rfl rfl ?_
  refine E_st rfl rfl rfl ?_
  refine E_st rfl rfl rfl ?_
  refine E_st rfl rfl rfl ?_
  refine E_st rfl rfl rfl ?_
  refine E_st rfl rfl rfl ?_
  refine E_st rfl rfl rfl ?_
  refine E_ret rfl rfl ?_
  refine E_st rfl rfl rfl ?_
  refine E_st rfl rfl rfl ?_
  refine E_st rfl rfl rfl ?_
  refine E_st rfl rfl rfl ?_
  refine E_st rfl rfl rfl ?_
  refine E_st rfl rfl rfl ?_
  refine E_st rfl rfl rfl ?_
  refine E_st rfl rfl rfl ?_
  refine E_st rfl rfl rfl ?_
  refine E_st rfl rfl rfl ?_
  refine E_call rfl rfl ?_
  refine E_st rfl rfl rfl ?_
  refine E_st rfl rfl rfl ?_
  refine E_st rfl rfl rfl ?_
  refine E_st rfl rfl rfl ?_
  refine E_st rfl rfl rfl ?_
  refine E_st rfl rfl rfl ?_
  refine E_st rfl rfl rfl ?_
  refine E_st rfl rfl rfl ?_
  refine E_st rfl rfl rfl ?_
  refine E_st rfl rfl rfl ?_
  refine E_ret rfl rfl ?_
  refine E_st rfl rfl rfl ?_
  refine E_st rfl rfl rfl ?_
  refine E_st rfl rfl rfl ?_
  refine E_st rfl rfl rfl ?_
  refine E_st rfl rfl rfl ?_
  refine E_st rfl rfl rfl ?_
  refine E_st rfl rfl rfl ?_
  refine E_st rfl rfl rfl ?_
  refine E_st rfl rfl rfl ?_
  refine E_st rfl rfl rfl ?_
  refine E_call rfl rfl ?_
  refine E_st rfl rfl rfl ?_
  refine E_st rfl rfl rfl ?_
  refine E_st rfl rfl rfl ?_
  refine E_st rfl rfl rfl ?_
  refine E_st rfl rfl rfl ?_
  refine E_st rfl rfl rfl ?_
  refine E_st rfl rfl rfl ?_
  refine E_st rfl rfl rfl ?_
  refine E_st rfl rfl rfl ?_
  refine E_st rfl rfl rfl ?_
  refine E_ret rfl rfl ?_
  refine E_st rfl rfl rfl ?_
  refine E_st rfl rfl rfl ?_
  refine E_st rfl rfl rfl ?_
  refine E_st rfl rfl rfl ?_
  refine E_st rfl rfl rfl ?_
  refine E_st rfl rfl rfl ?_
  refine E_st rfl rfl rfl ?_
  refine E_st rfl rfl rfl ?_
  refine E_st rfl rfl rfl ?_
  refine E_ret rfl rfl ?_
  refine E_st rfl rfl rfl ?_
  refine E_st rfl rfl rfl ?_
  refine E_st rfl rfl rfl ?_
  refine E_st rfl rfl rfl ?_
  refine E_st rfl rfl rfl ?_
  refine E_st rfl rfl rfl ?_
  refine E_st rfl rfl rfl ?_
  refine E_call rfl rfl ?_
  refine E_st rfl rfl rfl ?_
  refine E_st rfl rfl rfl ?_
  refine E_st rfl rfl rfl ?_
  refine E_st rfl rfl rfl ?_
  refine E_st rfl rfl rfl ?_
  refine E_st rfl rfl rfl ?_
  refine E_st rfl rfl rfl ?_
  refine E_st rfl rfl rfl ?_
  refine E_st rfl rfl rfl ?_
  refine E_st rfl rfl rfl ?_
  refine E_st rfl rfl rfl ?_
  refine E_st rfl rfl rfl ?_
  refine E_st rfl rfl rfl ?_
  refine E_st rfl rfl rfl ?_
  refine E_st rfl rfl rfl ?_
  refine E_st rfl rfl rfl ?_
  refine E_st rfl rfl rfl ?_
  refine E_st rfl rfl rfl ?_
  refine E_st rfl rfl rfl ?_
  refine E_call rfl rfl ?_
  refine E_st rfl rfl rfl ?_
  refine E_st rfl rfl rfl ?_
  refine E_st rfl rfl rfl ?_
  refine E_st rfl rfl rfl ?_
  refine E_st rfl rfl rfl ?_
  refine E_st rfl rfl rfl ?_
  refine E_st rfl rfl rfl ?_
  refine E_st rfl rfl rfl ?_
  refine E_st rfl rfl rfl ?_
  refine E_st rfl rfl rfl ?_
  refine E_ret rfl rfl ?_
  refine E_st rfl rfl rfl ?_
  refine E_st rfl rfl rfl ?_
  refine E_st rfl rfl rfl ?_
  refine E_st rfl rfl rfl ?_
  refine E_st rfl rfl rfl ?_
  refine E_st rfl rfl rfl ?_
  refine E_st rfl rfl rfl ?_
  refine E_st rfl rfl rfl ?_
  refine E_st rfl rfl rfl ?_
  refine E_st rfl rfl rfl ?_
  refine E_call rfl rfl ?_
  refine E_st rfl rfl rfl ?_
  refine E_st rfl rfl rfl ?_
  refine E_st rfl rfl rfl ?_
  refine E_st rfl rfl rfl ?_
  refine E_st rfl rfl rfl ?_
  refine E_st rfl rfl rfl ?_
  refine E_st rfl rfl rfl ?_
  refine E_st rfl rfl rfl ?_
  refine E_st rfl rfl rfl ?_
  refine E_st rfl rfl rfl ?_
  refine E_ret rfl rfl ?_
  refine E_st rfl rfl rfl ?_
  refine E_st rfl rfl rfl ?_
  refine E_st rfl rfl rfl ?_
  refine E_st rfl rfl rfl ?_
  refine E_st rfl rfl rfl ?_
  refine E_st rfl rfl rfl ?_
  refine E_st rfl rfl rfl ?_
  refine E_st rfl rfl rfl ?_
  refine E_st rfl rfl rfl ?_
  refine E_ret rfl rfl ?_
  refine E_st rfl rfl rfl ?_
  refine E_st rfl rfl rfl ?_
  refine E_st rfl rfl rfl ?_
  refine E_st rfl rfl rfl ?_
  refine E_ret rfl rfl ?_
  refine E_st rfl rfl rfl ?_
  refine E_st rfl rfl rfl ?_
  refine E_st rfl rfl rfl ?_
  refine E_ret rfl rfl ?_
  refine E_st rfl rfl rfl ?_
  refine E_st rfl rfl rfl ?_
  refine E_st rfl rfl rfl ?_
  refine E_st rfl rfl rfl ?_
  refine E_st rfl rfl rfl ?_
  refine E_scr rfl rfl h1 ?_
  refine E_st rfl rfl rfl ?_
  refine E_st rfl rfl rfl ?_
  refine E_st rfl rfl rfl ?_
  refine E_st rfl rfl rfl ?_
  refine E_scr rfl rfl h2 ?_
  refine E_call rfl rfl ?_
  refine E_st rfl rfl rfl ?_
  refine E_call rfl rfl ?_
  refine E_st rfl rfl rfl ?_
  refine E_st rfl rfl rfl ?_
  refine E_st rfl rfl rfl ?_
  refine E_call rfl rfl ?_
  refine E_st rfl rfl rfl ?_
  refine E_st rfl rfl rfl ?_
  refine E_st rfl rfl rfl ?_
  refine E_st rfl rfl rfl ?_
  refine E_st rfl rfl rfl ?_
  refine E_st rfl rfl rfl ?_
  refine E_st rfl rfl rfl ?_
  refine E_st rfl rfl rfl ?_
  refine E_ret rfl rfl ?_
  refine E_ret rfl rfl ?_
  refine E_st rfl rfl rfl ?_
  refine E_st rfl rfl rfl ?_
  refine E_call rfl rfl ?_
  refine E_st rfl rfl rfl ?_
  refine E_st rfl rfl rfl ?_
  refine E_st rfl rfl rfl ?_
  refine E_call rfl rfl ?_
  refine E_st rfl rfl rfl ?_
  refine E_st rfl rfl rfl ?_
  refine E_st rfl rfl rfl ?_
  refine E_st rfl rfl rfl ?_
  refine E_st rfl rfl rfl ?_
  refine E_st rfl rfl rfl ?_
  refine E_st rfl rfl rfl ?_
  refine E_st rfl rfl rfl ?_
  refine E_ret rfl rfl ?_
  refine E_ret rfl rfl ?_
  refine E_st rfl rfl rfl ?_
  refine E_st rfl rfl rfl ?_
  refine E_st rfl rfl rfl ?_
  refine E_call rfl rfl ?_
  refine E_st rfl rfl rfl ?_
  refine E_st rfl rfl rfl ?_
  refine E_st rfl rfl rfl ?_
  refine E_st rfl rfl rfl ?_
  refine E_st rfl rfl rfl ?_
  refine E_ret rfl rfl ?_
  refine E_st rfl rfl rfl ?_
  refine E_st rfl rfl rfl ?_
  refine E_st rfl rfl rfl ?_
  refine E_st rfl rfl rfl ?_
  refine E_st rfl rfl rfl ?_
  refine E_st rfl rfl rfl ?_
  refine E_st rfl rfl rfl ?_
  refine E_st rfl rfl rfl ?_
  refine E_st rfl rfl rfl ?_
  refine E_st rfl rfl rfl ?_
  refine E_st rfl rfl rfl ?_
  refine E_st rfl rfl rfl ?_
  refine E_st rfl rfl rfl ?_
  refine E_st rfl rfl rfl ?_
  refine E_st rfl rfl rfl ?_
  refine E_st rfl rfl rfl ?_
  refine E_st rfl rfl rfl ?_
  refine E_st rfl rfl rfl ?_
  refine E_st rfl rfl rfl ?_
  refine E_st rfl rfl rfl ?_
  refine E_st rfl rfl rfl ?_
  refine E_st rfl rfl rfl ?_
  refine E_st rfl rfl rfl ?_
  refine E_st rfl rfl rfl ?_
  refine E_st rfl rfl rfl ?_
  refine E_st rfl rfl rfl ?_
  refine E_st rfl rfl rfl ?_
  refine E_st rfl rfl rfl ?_
  refine E_st rfl rfl rfl ?_
  refine E_st rfl rfl rfl ?_
  refine E_st rfl rfl rfl ?_
  refine E_st rfl rfl rfl ?_
  refine E_st rfl rfl rfl ?_
  refine E_st rfl rfl rfl ?_
  refine E_st rfl rfl rfl ?_
  refine E_st rfl rfl rfl ?_
  refine E_st rfl rfl rfl ?_
  refine E_st rfl rfl rfl ?_
  refine E_st rfl rfl rfl ?_
  refine E_st rfl rfl rfl ?_
  refine E_st rfl rfl rfl ?_
  refine E_st rfl rfl rfl ?_
  refine E_st rfl rfl rfl ?_
  refine E_st rfl rfl rfl ?_
  refine E_st rfl rfl rfl ?_
  refine E_st rfl rfl rfl ?_
  refine E_st rfl rfl rfl ?_
  refine E_ret rfl rfl ?_
  refine E_st rfl rfl rfl ?_
  refine E_st rfl rfl rfl ?_
  refine E_st rfl rfl rfl ?_
  refine E_st rfl rfl rfl ?_
  refine E_st rfl rfl rfl ?_
  refine E_st rfl rfl rfl ?_
  refine E_st rfl rfl rfl ?_
  refine E_st rfl rfl rfl ?_
  refine E_st rfl rfl rfl ?_
  refine E_st rfl rfl rfl ?_
  exact E_ret rfl rfl ⟨rfl, rfl⟩
set_option maxRecDepth 100000 in
set_option maxHeartbeats 40000000 in
theorem pc_8_2_o (xs : Nat → Int) {z a2 a3 a4 a5 : Int} (hz : b32 (fun a b => a &&& b) z 31 = 8) (h0 : xs 0 = z) (h1 : xs 1 = 2) (h2 : xs 2 = a2) (h3 : xs 3 = a3) (h4 : xs 4 = a4) (h5 : xs 5 = a5) (hr2 : a2 < 0 ∨ 3 < a2) : E 0 18 LL [] (s0 xs 6) PQ := by
  refine E_st rfl rfl rfl ?_
  refine E_st rfl rfl rfl ?_
  refine E_st rfl rfl rfl ?_
  refine E_st rfl rfl rfl ?_
  refine E_st rfl rfl rfl ?_
  refine E_st rfl rfl rfl ?_
  refine E_st rfl rfl rfl ?_
  refine E_st rfl rfl rfl ?_
  refine E_scr rfl rfl h0 ?_
  refine E_st rfl rfl rfl ?_
  refine E_st rfl rfl rfl ?_
  refine E_val hz ?_
  refine E_st rfl rfl rfl ?_
  refine E_st rfl rfl rfl ?_
  refine E_st rfl rfl rfl ?_
  refine E_st rfl rfl rfl ?_
  refine E_st rfl rfl rfl ?_
  refine E_st rfl rfl rfl ?_
  refine E_scr rfl rfl h1 ?_
  refine E_st rfl rfl rfl ?_
  refine E_st rfl rfl rfl ?_
  refine E_st rfl rfl rfl ?_
  refine E_st rfl rfl rfl ?_
  refine E_scr rfl rfl h2 ?_
  refine E_call rfl rfl ?_
  refine E_st rfl rfl rfl ?_
  refine E_st rfl rfl rfl ?_
  refine E_call rfl rfl ?_
  refine E_st rfl rfl rfl ?_
  refine E_st rfl rfl rfl ?_
  refine E_st rfl rfl rfl ?_
  refine E_st rfl rfl rfl ?_
  refine E_st rfl rfl rfl ?_
  refine E_st rfl rfl rfl ?_
  refine E_st rfl rfl rfl ?_
  refine E_st rfl rfl rfl ?_
  refine E_st rfl rfl rfl ?_
  refine E_st rfl rfl rfl ?_
  refine E_ret rfl rfl ?_
  refine E_st rfl rfl rfl ?_
  refine E_st rfl rfl rfl ?_
  refine E_st rfl rfl rfl ?_
  refine E_call rfl rfl ?_
  refine E_st rfl rfl rfl ?_
  refine E_if_lt rfl (by decide) (fun _ => ?_) (fun _ => ?_)
  · refine E_st rfl rfl rfl ?_
    refine E_ret rfl rfl ?_
    refine E_st rfl rfl rfl ?_
    refine E_st rfl rfl rfl ?_
    refine E_st rfl rfl rfl ?_
    refine E_st rfl rfl rfl ?_
    refine E_st rfl rfl rfl ?_
    refine E_st rfl rfl rfl ?_
    refine E_ret rfl rfl ?_
    refine E_st rfl rfl rfl ?_
    refine E_st rfl rfl rfl ?_
    refine E_st rfl rfl rfl ?_
    refine E_st rfl rfl rfl ?_
    refine E_st rfl rfl rfl ?_
    refine E_scr rfl rfl h1 ?_
    refine E_st rfl rfl rfl ?_
    refine E_st rfl rfl rfl ?_
    refine E_st rfl rfl rfl ?_
    refine E_st rfl rfl rfl ?_
    refine E_scr rfl rfl h2 ?_
    refine E_call rfl rfl ?_
    refine E_st rfl rfl rfl ?_
    refine E_call rfl rfl ?_
    refine E_st rfl rfl rfl ?_
    refine E_st rfl rfl rfl ?_
    refine E_st rfl rfl rfl ?_
    refine E_call rfl rfl ?_
    refine E_st rfl rfl rfl ?_
    refine E_st rfl rfl rfl ?_
    refine E_st rfl rfl rfl ?_
    refine E_st rfl rfl rfl ?_
    refine E_st rfl rfl rfl ?_
    refine E_st rfl rfl rfl ?_
    refine E_st rfl rfl rfl ?_
    refine E_st rfl rfl rfl ?_
    refine E_ret rfl rfl ?_
    refine E_ret rfl rfl ?_
    refine E_st rfl rfl rfl ?_
    refine E_st rfl rfl rfl ?_
    refine E_call rfl rfl ?_
    refine E_st rfl rfl rfl ?_
    refine E_st rfl rfl rfl ?_
    refine E_st rfl rfl rfl ?_
    refine E_call rfl rfl ?_
    refine E_st rfl rfl rfl ?_
    refine E_st rfl rfl rfl ?_
    refine E_icmp_lt (y := 0) rfl (by decide) (fun _ => ?_) (fun q => absurd q (by omega))
    refine E_st rfl rfl rfl ?_
    refine E_ret rfl rfl ?_
    refine E_ret rfl rfl ?_
    refine E_st rfl rfl rfl ?_
    refine E_st rfl rfl rfl ?_
    refine E_ret rfl rfl ?_
    refine E_st rfl rfl rfl ?_
    refine E_st rfl rfl rfl ?_
    refine E_st rfl rfl rfl ?_
    refine E_st rfl rfl rfl ?_
    refine E_st rfl rfl rfl ?_
    refine E_st rfl rfl rfl ?_
    refine E_st rfl rfl rfl ?_
    refine E_st rfl rfl rfl ?_
    refine E_st rfl rfl rfl ?_
    refine E_st rfl rfl rfl ?_
    exact E_ret rfl rfl ⟨rfl, rfl⟩
  · refine E_st rfl rfl rfl ?_
    refine E_st rfl rfl rfl ?_
    refine E_icmp_ge (y := 4) rfl (by decide) (fun _ => ?_) (fun q => absurd q (by omega))
    refine E_st rfl rfl rfl ?_
    refine E_ret rfl rfl ?_
    refine E_st rfl rfl rfl ?_
    refine E_st rfl rfl rfl ?_
    refine E_st rfl rfl rfl ?_
    refine E_st rfl rfl rfl ?_
    refine E_st rfl rfl rfl ?_
    refine E_st rfl rfl rfl ?_
    refine E_ret rfl rfl ?_
    refine E_st rfl rfl rfl ?_
    refine E_st rfl rfl rfl ?_
    refine E_st rfl rfl rfl ?_
    refine E_st rfl rfl rfl ?_
    refine E_st rfl rfl rfl ?_
    refine E_scr rfl rfl h1 ?_
    refine E_st rfl rfl rfl ?_
    refine E_st rfl rfl rfl ?_
    refine E_st rfl rfl rfl ?_
    refine E_st rfl rfl rfl ?_
    refine E_scr rfl rfl h2 ?_
    refine E_call rfl rfl ?_
    refine E_st rfl rfl rfl ?_
    refine E_call rfl rfl ?_
    refine E_st rfl rfl rfl ?_
    refine E_st rfl rfl rfl ?_
    refine E_st rfl rfl rfl ?_
    refine E_call rfl rfl ?_
    refine E_st rfl rfl rfl ?_
    refine E_st rfl rfl rfl ?_
    refine E_st rfl rfl rfl ?_
    refine E_st rfl rfl rfl ?_
    refine E_st rfl rfl rfl ?_
    refine E_st rfl rfl rfl ?_
    refine E_st rfl rfl rfl ?_
    refine E_st rfl rfl rfl ?_
    refine E_ret rfl rfl ?_
    refine E_ret rfl rfl ?_
    refine E_st rfl rfl rfl ?_
    refine E_st rfl rfl rfl ?_
    refine E_call rfl rfl ?_
    refine E_st rfl rfl rfl ?_
    refine E_st rfl rfl rfl ?_
    refine E_st rfl rfl rfl ?_
    refine E_call rfl rfl ?_
    refine E_st rfl rfl rfl ?_
    refine E_st rfl rfl rfl ?_
    refine E_icmp_lt (y := 0) rfl (by decide) (fun q => absurd q (by omega)) (fun _ => ?_)
    refine E_st rfl rfl rfl ?_
    refine E_st rfl rfl rfl ?_
    refine E_icmp_gt (y := 3) rfl (by decide) (fun _ => ?_) (fun q => absurd q (by omega))
    refine E_st rfl rfl rfl ?_
    refine E_ret rfl rfl ?_
    refine E_ret rfl rfl ?_
    refine E_st rfl rfl rfl ?_
    refine E_st rfl rfl rfl ?_
    refine E_ret rfl rfl ?_
    refine E_st rfl rfl rfl ?_
    refine E_st rfl rfl rfl ?_
    refine E_st rfl rfl rfl ?_
    refine E_st rfl rfl rfl ?_
    refine E_st rfl rfl rfl ?_
    refine E_st rfl rfl rfl ?_
    refine E_st rfl rfl rfl ?_
    refine E_st rfl rfl rfl ?_
    refine E_st rfl rfl rfl ?_
    refine E_st rfl rfl rfl ?_
    exact E_ret rfl rfl ⟨rfl, rfl⟩
set_option maxRecDepth 100000 in
set_option maxHeartbeats 40000000 in
theorem pc_8_3_0 (xs : Nat → Int) {z a3 a4 a5 : Int} (hz : b32 (fun a b => a &&& b) z 31 = 8) (h0 : xs 0 = z) (h1 : xs 1 = 3) (h2 : xs 2 = 0) (h3 : xs 3 = a3) (h4 : xs 4 = a4) (h5 : xs 5 = a5) : E 0 18 LL [] (s0 xs 6) PQ := by
  refine E_st rfl rfl rfl ?_
  refine E_st rfl rfl rfl ?_
  refine E_st rfl rfl rfl ?_
  refine E_st rfl rfl rfl ?_
  refine E_st rfl rfl rfl ?_
  refine E_st rfl rfl rfl ?_
  refine E_st rfl rfl rfl ?_
  refine E_st rfl rfl rfl ?_
  refine E_scr rfl rfl h0 ?_
  refine E_st rfl rfl rfl ?_
  refine E_st rfl rfl rfl ?_
  refine E_val hz ?_
  refine E_st rfl rfl rfl ?_
  refine E_st rfl rfl rfl ?_
  refine E_st rfl rfl rfl ?_
  refine E_st rfl rfl rfl ?_
  refine E_st rfl rfl rfl ?_
  refine E_st rfl rfl rfl ?_
  refine E_scr rfl rfl h1 ?_
  refine E_st rfl rfl rfl ?_
  refine E_st rfl rfl rfl ?_
  refine E_st rfl rfl rfl ?_
  refine E_st rfl rfl rfl ?_
  refine E_scr rfl rfl h2 ?_
  refine E_call rfl rfl ?_
  refine E_st rfl rfl rfl ?_
  refine E_st rfl rfl rfl ?_
  refine E_call rfl rfl ?_
  refine E_st rfl rfl rfl ?_
  refine E_st rfl rfl rfl ?_
  refine E_st rfl rfl rfl ?_
  refine E_st rfl rfl rfl ?_
  refine E_st rfl rfl rfl ?_
  refine E_st rfl rfl rfl ?_
  refine E_st rfl rfl rfl ?_
  refine E_st rfl rfl rfl ?_
  refine E_st rfl rfl rfl ?_
  refine E_st rfl rfl rfl ?_
  refine E_ret rfl rfl ?_
  refine E_st rfl rfl rfl ?_
  refine E_st rfl rfl rfl ?_
  refine E_st rfl rfl rfl ?_
  refine E_call rfl rfl ?_
  refine E_st rfl rfl rfl ?_
  refine E_st rfl rfl rfl ?_
  refine E_st rfl rfl rfl ?_
  refine E_st rfl rfl rfl ?_
  refine E_st rfl rfl rfl ?_
  refine E_st rfl rfl rfl ?_
  refine E_st rfl rfl rfl ?_
  refine E_st rfl rfl rfl ?_
  refine E_st rfl rfl rfl ?_
  refine E_st rfl rfl rfl ?_
  refine E_ret rfl rfl ?_
  refine E_st rfl rfl rfl ?_
  refine E_st rfl rfl rfl ?_
  refine E_st rfl rfl rfl ?_
  refine E_st rfl rfl rfl ?_
  refine E_st rfl rfl rfl ?_
  refine E_st rfl rfl rfl ?_
  refine E_st rfl rfl rfl ?_
  refine E_call rfl rfl ?_
  refine E_st rfl rfl rfl ?_
  refine E_st rfl rfl rfl ?_
  refine E_st rfl rfl rfl ?_
  refine E_st rfl rfl rfl ?_
  refine E_st rfl rfl rfl ?_
  refine E_st rfl rfl rfl ?_
  refine E_st rfl rfl rfl ?_
  refine E_st rfl rfl rfl ?_
  refine E_st rfl rfl rfl ?_
  refine E_st rfl rfl rfl ?_
  refine E_st rfl rfl rfl ?_
  refine E_st rfl rfl rfl ?_
  refine E_st rfl rfl rfl ?_
  refine E_st rfl rfl rfl ?_
  refine E_st rfl rfl rfl ?_
  refine E_st rfl rfl rfl ?_
  refine E_call rfl rfl ?_
  refine E_st rfl rfl rfl ?_
  refine E_st rfl rfl rfl ?_
  refine E_st rfl rfl rfl ?_
  refine E_st rfl rfl rfl ?_
  refine E_st rfl rfl rfl ?_
  refine E_st rfl rfl rfl ?_
  refine E_st rfl rfl rfl ?_
  refine E_st rfl rfl rfl ?_
  refine E_st rfl rfl rfl ?_
  refine E_st rfl rfl rfl ?_
  refine E_st rfl rfl rfl ?_
  refine E_st rfl rfl rfl ?_
  refine E_st rfl rfl rfl ?_
  refine E_st rfl rfl rfl ?_
  refine E_st rfl rfl rfl ?_
  refine E_st rfl rfl rfl ?_
  refine E_st rfl rfl rfl ?_
  refine E_st rfl rfl rfl ?_
  refine E_st rfl rfl rfl ?_
  refine E_call rfl rfl ?_
  refine E_st rfl rfl rfl ?_
  refine E_st rfl rfl rfl ?_
  refine E_st rfl rfl rfl ?_
  refine E_st rfl rfl rfl ?_
  refine E_st rfl rfl rfl ?_
  refine E_st rfl rfl rfl ?_
  refine E_st rfl rfl rfl ?_
  refine E_st rfl rfl rfl ?_
  refine E_st rfl rfl rfl ?_
  refine E_st rfl rfl rfl ?_
  refine E_ret rfl rfl ?_
  refine E_st rfl rfl rfl ?_
  refine E_st rfl rfl rfl ?_
  refine E_st rfl rfl rfl ?_
  refine E_st rfl rfl rfl ?_
  refine E_st rfl rfl rfl ?_
  refine E_st rfl rfl rfl ?_
  refine E_st rfl rfl rfl ?_
  refine E_st rfl rfl rfl ?_
  refine E_st rfl rfl rfl ?_
  refine E_st rfl rfl rfl ?_
  refine E_call rfl rfl ?_
  refine E_st rfl rfl rfl ?_
  refine E_st rfl rfl rfl ?_
  refine E_st rfl rfl rfl ?_
  refine E_st rfl rfl rfl ?_
  refine E_st rfl rfl rfl ?_
  refine E_st rfl rfl rfl ?_
  refine E_st rfl rfl rfl ?_
  refine E_st rfl rfl rfl ?_
  refine E_st rfl rfl rfl ?_
  refine E_st rfl rfl rfl ?_
  refine E_ret rfl rfl ?_
  refine E_st rfl rfl rfl ?_
  refine E_st rfl rfl rfl ?_
  refine E_st rfl rfl rfl ?_
  refine E_st rfl rfl rfl ?_
  refine E_st rfl rfl rfl ?_
  refine E_st rfl rfl rfl ?_
  refine E_st rfl rfl rfl ?_
  refine E_st rfl rfl rfl ?_
  refine E_st rfl rfl rfl ?_
  refine E_st rfl rfl rfl ?_
  refine E_call rfl rfl ?_
  refine E_st rfl rfl rfl ?_
  refine E_st rfl rfl rfl ?_
  refine E_st rfl rfl rfl ?_
  refine E_st rfl rfl rfl ?_
  refine E_st rfl rfl rfl ?_
  refine E_st rfl rfl rfl ?_
  refine E_st rfl rfl rfl ?_
  refine E_st rfl rfl rfl ?_
  refine E_st rfl rfl rfl ?_
  refine E_st rfl rfl rfl ?_
  refine E_ret rfl rfl ?_
  refine E_st rfl rfl rfl ?_
  refine E_st rfl rfl rfl ?_
  refine E_st rfl rfl rfl ?_
  refine E_st rfl rfl rfl ?_
  refine E_st rfl rfl rfl ?_
  refine E_st rfl rfl rfl ?_
  refine E_st rfl rfl rfl ?_
  refine E_st rfl rfl rfl ?_
  refine E_st rfl rfl rfl ?_
  refine E_st rfl rfl rfl ?_
  refine E_call rfl rfl ?_
  refine E_st rfl rfl rfl ?_
  refine E_st rfl rfl rfl ?_
  refine E_st rfl rfl rfl ?_
  refine E_st rfl rfl rfl ?_
  refine E_st rfl rfl rfl ?_
  refine E_st rfl rfl rfl ?_
  refine E_st rfl rfl rfl ?_
  refine E_st rfl rfl rfl ?_
  refine E_st rfl rfl rfl ?_
  refine E_st rfl rfl rfl ?_
  refine E_ret rfl rfl ?_
  refine E_st rfl rfl rfl ?_
  refine E_st rfl rfl rfl ?_
  refine E_st rfl rfl rfl ?_
  refine E_st rfl rfl rfl ?_
  refine E_st rfl rfl rfl ?_
  refine E_st rfl rfl rfl ?_
  refine E_st rfl rfl rfl ?_
  refine E_st rfl rfl rfl ?_
  refine E_st rfl rfl rfl ?_
  refine E_st rfl rfl rfl ?_
  refine E_call rfl rfl ?_
  refine E_st rfl rfl rfl ?_
  refine E_st rfl rfl rfl ?_
  refine E_st rfl rfl rfl ?_
  refine E_st rfl rfl rfl ?_
  refine E_st rfl rfl rfl ?_
  refine E_st rfl rfl rfl ?_
  refine E_st rfl rfl rfl ?_
  refine E_st rfl rfl rfl ?_
  refine E_st rfl rfl rfl ?_
  refine E_st rfl rfl rfl ?_
  refine E_ret rfl rfl ?_
  refine E_st rfl rfl rfl ?_
  refine E_st rfl rfl rfl ?_
  refine E_st rfl rfl rfl ?_
  refine E_st rfl rfl rfl ?_
  refine E_st rfl rfl rfl ?_
  refine E_st rfl rfl rfl ?_
  refine E_st rfl rfl rfl ?_
  refine E_st rfl rfl rfl ?_
  refine E_st rfl rfl rfl ?_
  refine E_st rfl rfl rfl ?_
  refine E_call rfl rfl ?_
  refine E_st rfl rfl rfl ?_
  refine E_st rfl rfl rfl ?_
  refine E_st rfl rfl rfl ?_
  refine E_st rfl rfl rfl ?_
  refine E_st rfl rfl rfl ?_
  refine E_st rfl rfl rfl ?_
  refine E_st rfl rfl rfl ?_
  refine E_st rfl rfl rfl ?_
  refine E_st rfl rfl rfl ?_
  refine E_st rfl rfl rfl ?_
  refine E_ret rfl rfl ?_
  refine E_st rfl rfl rfl ?_
  refine E_st rfl rfl rfl ?_
  refine E_st rfl rfl rfl ?_
  refine E_st rfl rfl rfl ?_
  refine E_st rfl rfl rfl ?_
  refine E_st rfl rfl rfl ?_
  refine E_st rfl rfl rfl ?_
  refine E_st rfl rfl rfl ?_
  refine E_st rfl rfl rfl ?_
  refine E_ret rfl rfl ?_
  refine E_st rfl rfl rfl ?_
  refine E_st rfl rfl rfl ?_
  refine E_st rfl rfl rfl ?_
  refine E_st rfl rfl rfl ?_
  refine E_st rfl rfl rfl ?_
  refine E_st rfl rfl rfl ?_
  refine E_st rfl rfl rfl ?_
  refine E_call rfl rfl ?_
  refine E_st rfl rfl rfl ?_
  refine E_st rfl rfl rfl ?_
  refine E_st rfl rfl rfl ?_
  refine E_st rfl rfl rfl ?_
  refine E_st rfl rfl rfl ?_
  refine E_st rfl rfl rfl ?_
  refine E_st rfl rfl rfl ?_
  refine E_st rfl rfl rfl ?_
  refine E_st rfl rfl rfl ?_
  refine E_st rfl rfl rfl ?_
  refine E_st rfl rfl rfl ?_
  refine E_st rfl rfl rfl ?_
  refine E_st rfl rfl rfl ?_
  refine E_st rfl rfl rfl ?_
  refine E_st rfl rfl rfl ?_
  refine E_st rfl rfl rfl ?_
  refine E_st rfl rfl rfl ?_
  refine E_st rfl rfl rfl ?_
  refine E_st rfl rfl rfl ?_
  refine E_call rfl rfl ?_
  refine E_st rfl rfl rfl ?_
  refine E_st rfl rfl rfl ?_
  refine E_st rfl rfl rfl ?_
  refine E_st rfl rfl rfl ?_
  refine E_st rfl rfl rfl ?_
  refine E_st rfl rfl rfl ?_
  refine E_st rfl rfl rfl ?_
  refine E_st rfl rfl rfl ?_
  refine E_st rfl rfl rfl ?_
  refine E_st rfl rfl rfl ?_
  refine E_ret rfl rfl ?_
  refine E_st rfl rfl rfl ?_
  refine E_st rfl rfl rfl ?_
  refine E_st rfl rfl rfl ?_
  refine E_st rfl rfl rfl ?_
  refine E_st rfl rfl rfl ?_
  refine E_st rfl rfl rfl ?_
  refine E_st rfl rfl rfl ?_
  refine E_st rfl rfl rfl ?_
  refine E_st rfl rfl rfl ?_
  refine E_st rfl rfl rfl ?_
  refine E_call rfl rfl ?_
  refine E_st rfl rfl rfl ?_
  refine E_st rfl rfl rfl ?_
  refine E_st rfl rfl rfl ?_
  refine E_st rfl rfl rfl ?_
  refine E_st rfl rfl rfl ?_
  refine E_st rfl rfl rfl ?_
  refine E_st rfl rfl rfl ?_
  refine E_st rfl rfl rfl ?_
  refine E_st rfl rfl rfl ?_
  refine E_st rfl rfl rfl ?_
  refine E_ret rfl rfl ?_
  refine E_st rfl rfl rfl ?_
  refine E_st rfl rfl rfl ?_
  refine E_st rfl rfl rfl ?_
  refine E_st rfl rfl rfl ?_
  refine E_st rfl rfl rfl ?_
  refine E_st rfl rfl rfl ?_
  refine E_st rfl rfl rfl ?_
  refine E_st rfl rfl rfl ?_
  refine E_st rfl rfl rfl ?_
  refine E_ret rfl rfl ?_
  refine E_st rfl rfl rfl ?_
  refine E_st rfl rfl rfl ?_
  refine E_st rfl rfl rfl ?_
  refine E_st rfl rfl rfl ?_
  refine E_ret rfl rfl ?_
  refine E_st rfl rfl rfl ?_
  refine E_st rfl rfl rfl ?_
  refine E_st rfl rfl rfl ?_
  refine E_ret rfl rfl ?_
  refine E_st rfl rfl rfl ?_
  refine E_st rfl rfl rfl ?_
  refine E_st rfl rfl rfl ?_
  refine E_st rfl rfl rfl ?_
  refine E_st rfl rfl rfl ?_
  refine E_scr rfl rfl h1 ?_
  refine E_st rfl rfl rfl ?_
  refine E_st rfl rfl rfl ?_
  refine E_st rfl rfl rfl ?_
  refine E_st rfl rfl rfl ?_
  refine E_scr rfl rfl h2 ?_
  refine E_call rfl rfl ?_
  refine E_st rfl rfl rfl ?_
  refine E_call rfl rfl ?_
  refine E_st rfl rfl rfl ?_
  refine E_st rfl rfl rfl ?_
  refine E_st rfl rfl rfl ?_
  refine E_call rfl rfl ?_
  refine E_st rfl rfl rfl ?_
  refine E_st rfl rfl rfl ?_
  refine E_st rfl rfl rfl ?_
  refine E_st rfl rfl rfl ?_
  refine E_st rfl rfl rfl ?_
  refine E_st rfl rfl rfl ?_
  refine E_st rfl rfl rfl ?_
  refine E_st rfl rfl rfl ?_
  refine E_ret rfl rfl ?_
  refine E_ret rfl rfl ?_
  refine E_st rfl rfl rfl ?_
  refine E_st rfl rfl rfl ?_
  refine E_call rfl rfl ?_
  refine E_st rfl rfl rfl ?_
  refine E_st rfl rfl rfl ?_
  refine E_st rfl rfl rfl ?_
  refine E_call rfl rfl ?_
  refine E_st rfl rfl rfl ?_
  refine E_st rfl rfl rfl ?_
  refine E_st rfl rfl rfl ?_
  refine E_st rfl rfl rfl ?_
  refine E_st rfl rfl rfl ?_
  refine E_st rfl rfl rfl ?_
  refine E_st rfl rfl rfl ?_
  refine E_st rfl rfl rfl ?_
  refine E_ret rfl rfl ?_
  refine E_ret rfl rfl ?_
  refine E_st rfl rfl rfl ?_
  refine E_st rfl rfl rfl ?_
  refine E_st rfl rfl rfl ?_
  refine E_call rfl rfl ?_
  refine E_st rfl rfl rfl ?_
  refine E_st rfl rfl rfl ?_
  refine E_st rfl rfl rfl ?_
  refine E_st rfl rfl rfl ?_
  refine E_st rfl rfl rfl ?_
  refine E_ret rfl rfl ?_
  refine E_st rfl rfl rfl ?_
  refine E_st rfl rfl rfl ?_
  refine E_st rfl rfl rfl ?_
  refine E_st rfl rfl rfl ?_
  refine E_st rfl rfl rfl ?_
  refine E_st rfl rfl rfl ?_
  refine E_st rfl rfl rfl ?_
  refine E_st rfl rfl rfl ?_
  refine E_st rfl rfl rfl ?_
  refine E_st rfl rfl rfl ?_
  refine E_st rfl rfl rfl ?_
  refine E_st rfl rfl rfl ?_
  refine E_st rfl rfl rfl ?_
  refine E_st rfl rfl rfl ?_
  refine E_st rfl rfl rfl ?_
  refine E_st rfl rfl rfl ?_
  refine E_st rfl rfl rfl ?_
  refine E_st rfl rfl rfl ?_
  refine E_st rfl rfl rfl ?_
  refine E_st rfl rfl rfl ?_
  refine E_st rfl rfl rfl ?_
  refine E_st rfl rfl rfl ?_
  refine E_st rfl rfl rfl ?_
  refine E_st rfl rfl rfl ?_
  refine E_st rfl rfl rfl ?_
  refine E_st rfl rfl rfl ?_
  refine E_st rfl rfl rfl ?_
  refine E_st rfl rfl rfl ?_
  refine E_st rfl rfl rfl ?_
  refine E_st rfl rfl rfl ?_
  refine E_st rfl rfl rfl ?_
  refine E_st rfl rfl rfl ?_
  refine E_st rfl rfl rfl ?_
  refine E_st rfl rfl rfl ?_
  refine E_st rfl rfl rfl ?_
  refine E_st rfl rfl rfl ?_
  refine E_st rfl rfl rfl ?_
  refine E_st rfl rfl rfl ?_
  refine E_st rfl rfl rfl ?_
  refine E_st rfl rfl rfl ?_
  refine E_st rfl rfl rfl ?_
  refine E_st rfl rfl rfl ?_
  refine E_st rfl rfl rfl ?_
  refine E_st rfl rfl rfl ?_
  refine E_st rfl rfl rfl ?_
  refine E_st rfl rfl rfl ?_
  refine E_st rfl rfl rfl ?_
  refine E_ret rfl rfl ?_
  refine E_st rfl rfl rfl ?_
  refine E_st rfl rfl rfl ?_
  refine E_st rfl rfl rfl ?_
  refine E_st rfl rfl rfl ?_
  refine E_st rfl rfl rfl ?_
  refine E_st rfl rfl rfl ?_
  refine E_st rfl rfl rfl ?_
  refine E_st rfl rfl rfl ?_
  refine E_st rfl rfl rfl ?_
  refine E_st rfl rfl rfl ?_
  exact E_ret rfl rfl ⟨rfl, rfl⟩
set_option maxRecDepth 100000 in
set_option maxHeartbeats 40000000 in
theorem pc_8_3_1 (xs : Nat → Int) {z a3 a4 a5 : Int} (hz : b32 (fun a b => a &&& b) z 31 = 8) (h0 : xs 0 = z) (h1 : xs 1 = 3) (h2 : xs 2 = 1) (h3 : xs 3 = a3) (h4 : xs 4 = a4) (h5 : xs 5 = a5) : E 0 18 LL [] (s0 xs 6) PQ := by
  refine E_st rfl rfl rfl ?_
  refine E_st rfl rfl rfl ?_
  refine E_st rfl rfl rfl ?_
  refine E_st rfl rfl rfl ?_
  refine E_st rfl rfl rfl ?_
  refine E_st rfl rfl rfl ?_
  refine E_st rfl rfl rfl ?_
  refine E_st rfl rfl rfl ?_
  refine E_scr rfl rfl h0 ?_
  refine E_st rfl rfl rfl ?_
  refine E_st rfl rfl rfl ?_
  refine E_val hz ?_
  refine E_st rfl rfl rfl ?_
  refine E_st rfl rfl rfl ?_
  refine E_st rfl rfl rfl ?_
  refine E_st rfl rfl rfl ?_
  refine E_st rfl rfl rfl ?_
  refine E_st rfl rfl rfl ?_
  refine E_scr rfl rfl h1 ?_
  refine E_st rfl rfl rfl ?_
  refine E_st rfl rfl rfl ?_
  refine E_st rfl rfl rfl ?_
  refine E_st rfl rfl rfl ?_
  refine E_scr rfl rfl h2 ?_
  refine E_call rfl rfl ?_
  refine E_st rfl rfl rfl ?_
  refine E_st rfl rfl rfl ?_
  refine E_call rfl rfl ?_
  refine E_st rfl rfl rfl ?_
  refine E_st rfl rfl rfl ?_
  refine E_st rfl rfl rfl ?_
  refine E_st rfl rfl rfl ?_
  refine E_st rfl rfl rfl ?_
  refine E_st rfl rfl rfl ?_
  refine E_st rfl rfl rfl ?_
  refine E_st rfl rfl rfl ?_
  refine E_st rfl rfl rfl ?_
  refine E_st rfl rfl rfl ?_
  refine E_ret rfl rfl ?_
  refine E_st rfl rfl rfl ?_
  refine E_st rfl rfl rfl ?_
  refine E_st rfl rfl rfl ?_
  refine E_call rfl rfl ?_
  refine E_st rfl rfl rfl ?_
  refine E_st rfl rfl rfl ?_
  refine E_st rfl rfl rfl ?_
  refine E_st rfl rfl rfl ?_
  refine E_st rfl rfl rfl ?_
  refine E_st rfl rfl rfl ?_
  refine E_st rfl rfl rfl ?_
  refine E_st rfl rfl rfl ?_
  refine E_st rfl rfl rfl ?_
  refine E_st rfl rfl rfl ?_
  refine E_ret rfl rfl ?_
  refine E_st rfl rfl rfl ?_
  refine E_st rfl rfl rfl ?_
  refine E_st rfl rfl rfl ?_
  refine E_st rfl rfl rfl ?_
  refine E_st rfl rfl rfl ?_
  refine E_st rfl rfl rfl ?_
  refine E_st rfl rfl rfl ?_
  refine E_call rfl rfl ?_
  refine E_st rfl rfl rfl ?_
  refine E_st rfl rfl rfl ?_
  refine E_st rfl rfl rfl ?_
  refine E_st rfl rfl rfl ?_
  refine E_st rfl rfl rfl ?_
  refine E_st rfl rfl rfl ?_
  refine E_st rfl rfl rfl ?_
  refine E_st rfl rfl rfl ?_
  refine E_st rfl rfl rfl ?_
  refine E_st rfl rfl rfl ?_
  refine E_st rfl rfl rfl ?_
  refine E_st rfl rfl rfl ?_
  refine E_st rfl rfl rfl ?_
  refine E_st rfl rfl rfl ?_
  refine E_st rfl rfl rfl ?_
  refine E_st rfl rfl rfl ?_
  refine E_call rfl rfl ?_
  refine E_st rfl rfl rfl ?_
  refine E_st rfl rfl rfl ?_
  refine E_st rfl rfl rfl ?_
  refine E_st rfl rfl rfl ?_
  refine E_st rfl rfl rfl ?_
  refine E_st rfl rfl rfl ?_
  refine E_st rfl rfl rfl ?_
  refine E_st rfl rfl rfl ?_
  refine E_st rfl rfl rfl ?_
  refine E_st rfl rfl rfl ?_
  refine E_st rfl rfl rfl ?_
  refine E_st rfl rfl rfl ?_
  refine E_st rfl rfl rfl ?_
  refine E_st rfl rfl rfl ?_
  refine E_st rfl rfl rfl ?_
  refine E_st rfl rfl rfl ?_
  refine E_st rfl rfl rfl ?_
  refine E_st rfl rfl rfl ?_
  refine E_st rfl rfl rfl ?_
  refine E_call rfl rfl ?_
  refine E_st rfl rfl rfl ?_
  refine E_st rfl rfl rfl ?_
  refine E_st rfl rfl rfl ?_
  refine E_st rfl rfl rfl ?_
  refine E_st rfl rfl rfl ?_
  refine E_st rfl rfl rfl ?_
  refine E_st rfl rfl rfl ?_
  refine E_st rfl rfl rfl ?_
  refine E_st rfl rfl rfl ?_
  refine E_st rfl rfl rfl ?_
  refine E_ret rfl rfl ?_
  refine E_st rfl rfl rfl ?_
  refine E_st rfl rfl rfl ?_
  refine E_st rfl rfl rfl ?_
  refine E_st rfl rfl rfl ?_
  refine E_st rfl rfl rfl ?_
  refine E_st rfl rfl rfl ?_
  refine E_st rfl rfl rfl ?_
  refine E_st rfl rfl rfl ?_
  refine E_st rfl rfl rfl ?_
  refine E_st rfl rfl rfl ?_
  refine E_call rfl rfl ?_
  refine E_st rfl rfl rfl ?_
  refine E_st rfl rfl rfl ?_
  refine E_st rfl rfl rfl ?_
  refine E_st rfl rfl rfl ?_
  refine E_st rfl rfl rfl ?_
  refine E_st rfl rfl rfl ?_
  refine E_st rfl rfl rfl ?_
  refine E_st rfl rfl rfl ?_
  refine E_st rfl rfl rfl ?_
  refine E_st rfl rfl rfl ?_
  refine E_ret rfl rfl ?_
  refine E_st rfl rfl rfl ?_
  refine E_st rfl rfl rfl ?_
  refine E_st rfl rfl rfl ?_
  refine E_st rfl rfl rfl ?_
  refine E_st rfl rfl rfl ?_
  refine E_st rfl rfl rfl ?_
  refine E_st rfl rfl rfl ?_
  refine E_st rfl rfl rfl ?_
  refine E_st rfl rfl rfl ?_
  refine E_st rfl rfl rfl ?_
  refine E_call rfl rfl ?_
  refine E_st rfl rfl rfl ?_
  refine E_st rfl rfl rfl ?_
  refine E_st rfl rfl rfl ?_
  refine E_st rfl rfl rfl ?_
  refine E_st rfl rfl rfl ?_
  refine E_st rfl rfl rfl ?_
  refine E_st rfl rfl rfl ?_
  refine E_st rfl rfl rfl ?_
  refine E_st rfl rfl rfl ?_
  refine E_st rfl rfl rfl ?_
  refine E_ret rfl rfl ?_
  refine E_st rfl rfl rfl ?_
  refine E_st rfl rfl rfl ?_
  refine E_st rfl rfl rfl ?_
  refine E_st rfl rfl rfl ?_
  refine E_st rfl rfl rfl ?_
  refine E_st rfl rfl rfl ?_
  refine E_st rfl rfl rfl ?_
  refine E_st rfl rfl rfl ?_
  refine E_st rfl rfl rfl ?_
  refine E_st rfl rfl rfl ?_
  refine E_call rfl rfl ?_
  refine E_st rfl rfl rfl ?_
  refine E_st rfl rfl rfl ?_
  refine E_st rfl rfl rfl ?_
  refine E_st rfl rfl rfl ?_
  refine E_st rfl rfl rfl ?_
  refine E_st rfl rfl rfl ?_
  refine E_st rfl rfl rfl ?_
  refine E_st rfl rfl rfl ?_
  refine E_st rfl rfl rfl ?_
  refine E_st rfl rfl rfl ?_
  refine E_ret rfl rfl ?_
  refine E_st rfl rfl rfl ?_
  refine E_st rfl rfl rfl ?_
  refine E_st rfl rfl rfl ?_
  refine E_st rfl rfl rfl ?_
  refine E_st rfl rfl rfl ?_
  refine E_st rfl rfl rfl ?_
  refine E_st rfl rfl rfl ?_
  refine E_st rfl rfl rfl ?_
  refine E_st rfl rfl rfl ?_
  refine E_st rfl rfl rfl ?_
  refine E_call rfl rfl ?_
  refine E_st rfl rfl rfl ?_
  refine E_st rfl rfl rfl ?_
  refine E_st rfl rfl rfl ?_
  refine E_st rfl rfl rfl ?_
  refine E_st rfl rfl rfl ?_
  refine E_st rfl rfl rfl ?_
  refine E_st rfl rfl rfl ?_
  refine E_st rfl rfl rfl ?_
  refine E_st rfl rfl rfl ?_
  refine E_st rfl rfl rfl ?_
  refine E_ret rfl rfl ?_
  refine E_st rfl rfl rfl ?_
  refine E_st rfl rfl rfl ?_
  refine E_st rfl rfl rfl ?_
  refine E_st rfl rfl rfl ?_
  refine E_st rfl rfl rfl ?_
  refine E_st rfl rfl rfl ?_
  refine E_st rfl rfl rfl ?_
  refine E_st rfl rfl rfl ?_
  refine E_st rfl rfl rfl ?_
  refine E_st rfl rfl rfl ?_
  refine E_call rfl rfl ?_
  refine E_st rfl rfl rfl ?_
  refine E_st rfl rfl rfl ?_
  refine E_st rfl rfl rfl ?_
  refine E_st rfl rfl rfl ?_
  refine E_st rfl rfl rfl ?_
  refine E_st rfl rfl rfl ?_
  refine E_st rfl rfl rfl ?_
  refine E_st rfl rfl rfl ?_
  refine E_st rfl rfl rfl ?_
  refine E_st rfl rfl rfl ?_
  refine E_ret rfl rfl ?_
  refine E_st rfl rfl rfl ?_
  refine E_st rfl rfl rfl ?_
  refine E_st rfl rfl rfl ?_
  refine E_st rfl rfl rfl ?_
  refine E_st rfl rfl rfl ?_
  refine E_st rfl rfl rfl ?_
  refine E_st rfl rfl rfl ?_
  refine E_st rfl rfl rfl ?_
  refine E_st rfl rfl rfl ?_
  refine E_ret rfl rfl ?_
  refine E_st rfl rfl rfl ?_
  refine E_st rfl rfl rfl ?_
  refine E_st rfl rfl rfl ?_
  refine E_st rfl rfl rfl ?_
  refine E_st rfl rfl rfl ?_
  refine E_st rfl rfl rfl ?_
  refine E_st rfl rfl rfl ?_
  refine E_call rfl rfl ?_
  refine E_st rfl rfl rfl ?_
  refine E_st rfl rfl rfl ?_
  refine E_st rfl rfl rfl ?_
  refine E_st rfl rfl rfl ?_
  refine E_st rfl rfl rfl ?_
  refine E_st rfl rfl rfl ?_
  refine E_st rfl rfl rfl ?_
  refine E_st rfl rfl rfl ?_
  refine E_st rfl rfl rfl ?_
  refine E_st rfl rfl rfl ?_
  refine E_st rfl rfl rfl ?_
  refine E_st rfl rfl rfl ?_
  refine E_st rfl rfl rfl ?_
  refine E_st rfl rfl rfl ?_
  refine E_st rfl rfl rfl ?_
  refine E_st rfl rfl rfl ?_
  refine E_st rfl rfl rfl ?_
  refine E_st rfl rfl rfl ?_
  refine E_st rfl rfl rfl ?_
  refine E_call rfl rfl ?_
  refine E_st rfl rfl rfl ?_
  refine E_st rfl rfl rfl ?_
  refine E_st rfl rfl rfl ?_
  refine E_st rfl rfl rfl ?_
  refine E_st rfl rfl rfl ?_
  refine E_st rfl rfl rfl ?_
  refine E_st rfl rfl rfl ?_
  refine E_st rfl rfl rfl ?_
  refine E_st rfl rfl rfl ?_
  refine E_st rfl rfl rfl ?_
  refine E_ret rfl rfl ?_
  refine E_st rfl rfl rfl ?_
  refine E_st rfl rfl rfl ?_
  refine E_st rfl rfl rfl ?_
  refine E_st rfl rfl rfl ?_
  refine E_st rfl rfl rfl ?_
  refine E_st rfl rfl rfl ?_
  refine E_st rfl rfl rfl ?_
  refine E_st rfl rfl rfl ?_
  refine E_st rfl rfl rfl ?_
  refine E_st rfl rfl rfl ?_
  refine E_call rfl rfl ?_
  refine E_st rfl rfl rfl ?_
  refine E_st rfl rfl rfl ?_
  refine E_st rfl rfl rfl ?_
  refine E_st rfl rfl rfl ?_
  refine E_st rfl rfl rfl ?_
  refine E_st rfl rfl rfl ?_
  refine E_st rfl rfl rfl ?_
  refine E_st rfl rfl rfl ?_
  refine E_st rfl rfl rfl ?_
  refine E_st rfl rfl rfl ?_
  refine E_ret rfl rfl ?_
  refine E_st rfl rfl rfl ?_
  refine E_st rfl rfl rfl ?_
  refine E_st rfl rfl rfl ?_
  refine E_st rfl rfl rfl ?_
  refine E_st rfl rfl rfl ?_
  refine E_st rfl rfl rfl ?_
  refine E_st rfl rfl rfl ?_
  refine E_st rfl rfl rfl ?_
  refine E_st rfl rfl rfl ?_
  refine E_ret rfl rfl ?_
  refine E_st rfl rfl rfl ?_
  refine E_st rfl rfl rfl ?_
  refine E_st rfl rfl rfl ?_
  refine E_st rfl rfl rfl ?_
  refine E_ret rfl rfl ?_
  refine E_st rfl rfl rfl ?_
  refine E_st rfl rfl rfl ?_
  refine E_st rfl rfl rfl ?_
  refine E_ret rfl rfl ?_
  refine E_st rfl rfl rfl ?_
  refine E_st rfl rfl rfl ?_
  refine E_st rfl rfl rfl ?_
  refine E_st rfl rfl rfl ?_
  refine E_st rfl rfl rfl ?_
  refine E_scr rfl rfl h1 ?_
  refine E_st rfl rfl rfl ?_
  refine E_st rfl rfl rfl ?_
  refine E_st rfl rfl rfl ?_
  refine E_st rfl rfl rfl ?_
  refine E_scr rfl rfl h2 ?_
  refine E_call rfl rfl ?_
  refine E_st rfl rfl rfl ?_
  refine E_call rfl rfl ?_
  refine E_st rfl rfl rfl ?_
  refine E_st rfl rfl rfl ?_
  refine E_st rfl rfl rfl ?_
  refine E_call rfl rfl ?_
  refine E_st rfl rfl rfl ?_
  refine E_st rfl rfl rfl ?_
  refine E_st rfl rfl rfl ?_
  refine E_st rfl rfl rfl ?_
  refine E_st rfl rfl rfl ?_
  refine E_st rfl rfl rfl ?_
  refine E_st rfl rfl rfl ?_
  refine E_st rfl rfl rfl ?_
  refine E_ret rfl rfl ?_
  refine E_ret rfl rfl ?_
  refine E_st rfl rfl rfl ?_
  refine E_st rfl rfl rfl ?_
  refine E_call rfl rfl ?_
  refine E_st rfl rfl rfl ?_
  refine E_st rfl rfl rfl ?_
  refine E_st rfl rfl rfl ?_
  refine E_call rfl rfl ?_
  refine E_st rfl rfl rfl ?_
  refine E_st rfl rfl rfl ?_
  refine E_st rfl rfl rfl ?_
  refine E_st rfl rfl rfl ?_
  refine E_st rfl rfl rfl ?_
  refine E_st rfl rfl rfl ?_
  refine E_st rfl rfl rfl ?_
  refine E_st rfl rfl rfl ?_
  refine E_ret rfl rfl ?_
  refine E_ret rfl rfl ?_
  refine E_st rfl rfl rfl ?_
  refine E_st rfl rfl rfl ?_
  refine E_st rfl rfl rfl ?_
  refine E_call rfl rfl ?_
  refine E_st rfl rfl rfl ?_
  refine E_st rfl rfl rfl ?_
  refine E_st rfl rfl rfl ?_
  refine E_st rfl rfl rfl ?_
  refine E_st rfl rfl rfl ?_
  refine E_ret rfl rfl ?_
  refine E_st rfl rfl rfl ?_
  refine E_st rfl rfl rfl ?_
  refine E_st rfl rfl rfl ?_
  refine E_st rfl rfl rfl ?_
  refine E_st rfl rfl rfl ?_
  refine E_st rfl rfl rfl ?_
  refine E_st rfl rfl rfl ?_
  refine E_st rfl rfl rfl ?_
  refine E_st rfl rfl rfl ?_
  refine E_st rfl rfl rfl ?_
  refine E_st rfl rfl rfl ?_
  refine E_st rfl rfl rfl ?_
  refine E_st rfl rfl rfl ?_
  refine E_st rfl rfl rfl ?_
  refine E_st rfl rfl rfl ?_
  refine E_st rfl rfl rfl ?_
  refine E_st rfl rfl rfl ?_
  refine E_st rfl rfl rfl ?_
  refine E_st rfl rfl rfl ?_
  refine E_st rfl rfl rfl ?_
  refine E_st rfl rfl rfl ?_
  refine E_st rfl rfl rfl ?_
  refine E_st rfl rfl rfl ?_
  refine E_st rfl rfl rfl ?_
  refine E_st rfl rfl rfl ?_
  refine E_st rfl rfl rfl ?_
  refine E_st rfl rfl rfl ?_
  refine E_st rfl rfl rfl ?_
  refine E_st rfl rfl rfl ?_
  refine E_st rfl rfl rfl ?_
  refine E_st rfl rfl rfl ?_
  refine E_st rfl rfl rfl ?_
  refine E_st rfl rfl rfl ?_
  refine E_st rfl rfl rfl ?_
  refine E_st rfl rfl rfl ?_
  refine E_st rfl rfl rfl ?_
  refine E_st rfl rfl rfl ?_
  refine E_st rfl rfl rfl ?_
  refine E_st rfl rfl rfl ?_
  refine E_st rfl rfl rfl ?_
  refine E_st rfl rfl rfl ?_
  refine E_st rfl rfl rfl ?_
  refine E_st rfl rfl rfl ?_
  refine E_st rfl rfl rfl ?_
  refine E_st rfl rfl rfl ?_
  refine E_st rfl rfl rfl ?_
  refine E_st rfl rfl rfl ?_
  refine E_ret rfl rfl ?_
  refine E_st rfl rfl rfl ?_
  refine E_st rfl rfl rfl ?_
  refine E_st rfl rfl rfl ?_
  refine E_st rfl rfl rfl ?_
  refine E_st rfl rfl rfl ?_
  refine E_st rfl rfl rfl ?_
  refine E_st rfl rfl rfl ?_
  refine E_st rfl rfl rfl ?_
  refine E_st rfl rfl rfl ?_
  refine E_st rfl rfl rfl ?_
  exact E_ret rfl rfl ⟨rfl, rfl⟩
set_option maxRecDepth 100000 in
set_option maxHeartbeats 40000000 in
theorem pc_8_3_2 (xs : Nat → Int) {z a3 a4 a5 : Int} (hz : b32 (fun a b => a &&& b) z 31 = 8) (h0 : xs 0 = z) (h1 : xs 1 = 3) (h2 : xs 2 = 2) (h3 : xs 3 = a3) (h4 : xs 4 = a4) (h5 : xs 5 = a5) : E 0 18 LL [] (s0 xs 6) PQ := by
  refine E_st rfl rfl rfl ?_
  refine E_st rfl rfl rfl ?_
  refine E_st rfl rfl rfl ?_
  refine E_st rfl rfl rfl ?_
  refine E_st rfl rfl rfl ?_
  refine E_st rfl rfl rfl ?_
  refine E_st rfl rfl rfl ?_
  refine E_st rfl rfl rfl ?_
  refine E_scr rfl rfl h0 ?_
  refine E_st rfl rfl rfl ?_
  refine E_st rfl rfl rfl ?_
  refine E_val hz ?_
  refine E_st rfl rfl rfl ?_
  refine E_st rfl rfl rfl ?_
  refine E_st rfl rfl rfl ?_
  refine E_st rfl rfl rfl ?_
  refine E_st rfl rfl rfl ?_
  refine E_st rfl rfl rfl ?_
  refine E_scr rfl rfl h1 ?_
  refine E_st rfl rfl rfl ?_
  refine E_st rfl rfl rfl ?_
  refine E_st rfl rfl rfl ?_
  refine E_st rfl rfl rfl ?_
  refine E_scr rfl rfl h2 ?_
  refine E_call rfl rfl ?_
  refine E_st rfl rfl rfl ?_
  refine E_st rfl rfl rfl ?_
  refine E_call rfl rfl ?_
  refine E_st rfl rfl rfl ?_
  refine E_st rfl rfl rfl ?_
  refine E_st rfl rfl rfl ?_
  refine E_st rfl rfl rfl ?_
  refine E_st rfl rfl rfl ?_
  refine E_st rfl rfl rfl ?_
  refine E_st rfl rfl rfl ?_
  refine E_st rfl rfl rfl ?_
  refine E_st rfl rfl rfl ?_
  refine E_st rfl rfl rfl ?_
  refine E_ret rfl rfl ?_
  refine E_st rfl rfl rfl ?_
  refine E_st rfl rfl rfl ?_
  refine E_st rfl rfl rfl ?_
  refine E_call rfl rfl ?_
  refine E_st rfl rfl rfl ?_
  refine E_st rfl rfl rfl ?_
  refine E_st rfl rfl rfl ?_
  refine E_st rfl rfl rfl ?_
  refine E_st rfl rfl rfl ?_
  refine E_st rfl rfl rfl ?_
  refine E_st rfl rfl rfl ?_
  refine E_st rfl rfl rfl ?_
  refine E_st rfl rfl rfl ?_
  refine E_st rfl rfl rfl ?_
  refine E_ret rfl rfl ?_
  refine E_st rfl rfl rfl ?_
  refine E_st rfl rfl rfl ?_
  refine E_st rfl rfl rfl ?_
  refine E_st rfl rfl rfl ?_
  refine E_st rfl rfl rfl ?_
  refine E_st rfl rfl rfl ?_
  refine E_st rfl rfl rfl ?_
  refine E_call rfl rfl ?_
  refine E_st rfl rfl rfl ?_
  refine E_st rfl rfl rfl ?_
  refine E_st rfl rfl rfl ?_
  refine E_st rfl rfl rfl ?_
  refine E_st rfl rfl rfl ?_
  refine E_st rfl rfl rfl ?_
  refine E_st rfl rfl rfl ?_
  refine E_st rfl rfl rfl ?_
  refine E_st rfl rfl rfl ?_
  refine E_st rfl rfl rfl ?_
  refine E_st rfl rfl rfl ?_
  refine E_st rfl rfl rfl ?_
  refine E_st rfl rfl rfl ?_
  refine E_st rfl rfl rfl ?_
  refine E_st rfl rfl rfl ?_
  refine E_st rfl rfl rfl ?_
  refine E_call rfl rfl ?_
  refine E_st rfl rfl rfl ?_
  refine E_st rfl rfl rfl ?_
  refine E_st rfl rfl rfl ?_
  refine E_st rfl rfl rfl ?_
  refine E_st rfl rfl rfl ?_
  refine E_st rfl rfl rfl ?_
  refine E_st rfl rfl rfl ?_
  refine E_st rfl rfl rfl ?_
  refine E_st rfl rfl rfl ?_
  refine E_st rfl rfl rfl ?_
  refine E_st rfl rfl rfl ?_
  refine E_st rfl rfl rfl ?_
  refine E_st rfl rfl rfl ?_
  refine E_st rfl rfl rfl ?_
  refine E_st rfl rfl rfl ?_
  refine E_st rfl rfl rfl ?_
  refine E_st rfl rfl rfl ?_
  refine E_st rfl rfl rfl ?_
  refine E_st rfl rfl rfl ?_
  refine E_call rfl rfl ?_
  refine E_st rfl rfl rfl ?_
  refine E_st rfl rfl rfl ?_
  refine E_st rfl rfl rfl ?_
  refine E_st rfl rfl rfl ?_
  refine E_st rfl rfl rfl ?_
  refine E_st rfl rfl rfl ?_
  refine E_st rfl rfl rfl ?_
  refine E_st rfl rfl rfl ?_
  refine E_st rfl rfl rfl ?_
  refine E_st rfl rfl rfl ?_
  refine E_ret rfl rfl ?_
  refine E_st rfl rfl rfl ?_
  refine E_st rfl rfl rfl ?_
  refine E_st rfl rfl rfl ?_
  refine E_st rfl rfl rfl ?_
  refine E_st rfl rfl rfl ?_
  refine E_st rfl rfl rfl ?_
  refine E_st rfl rfl rfl ?_
  refine E_st rfl rfl rfl ?_
  refine E_st rfl rfl rfl ?_
  refine E_st rfl rfl rfl ?_
  refine E_call rfl rfl ?_
  refine E_st rfl rfl rfl ?_
  refine E_st rfl rfl rfl ?_
  refine E_st rfl rfl rfl ?_
  refine E_st rfl rfl rfl ?_
  refine E_st rfl rfl rfl ?_
  refine E_st rfl rfl rfl ?_
  refine E_st rfl rfl rfl ?_
  refine E_st rfl rfl rfl ?_
  refine E_st rfl rfl rfl ?_
  refine E_st rfl rfl rfl ?_
  refine E_ret rfl rfl ?_
  refine E_st rfl rfl rfl ?_
  refine E_st rfl rfl rfl ?_
  refine E_st rfl rfl rfl ?_
  refine E_st rfl rfl rfl ?_
  refine E_st rfl rfl rfl ?_
  refine E_st rfl rfl rfl ?_
  refine E_st rfl rfl rfl ?_
  refine E_st rfl rfl rfl ?_
  refine E_st rfl rfl rfl ?_
  refine E_st rfl rfl rfl ?_
  refine E_call rfl rfl ?_
  refine E_st rfl rfl rfl ?_
  refine E_st rfl rfl rfl ?_
  refine E_st rfl rfl rfl ?_
  refine E_st rfl rfl rfl ?_
  refine E_st rfl rfl rfl ?_
  refine E_st rfl rfl rfl ?_
  refine E_st rfl rfl rfl ?_
  refine E_st rfl rfl rfl ?_
  refine E_st rfl rfl rfl ?_
  refine E_st rfl rfl rfl ?_
  refine E_ret rfl rfl ?_
  refine E_st rfl rfl rfl ?_
  refine E_st rfl rfl rfl ?_
  refine E_st rfl rfl rfl ?_
  refine E_st rfl rfl rfl ?_
  refine E_st rfl rfl rfl ?_
  refine E_st rfl rfl rfl ?_
  refine E_st rfl rfl rfl ?_
  refine E_st rfl rfl rfl ?_
  refine E_st rfl rfl rfl ?_
  refine E_st rfl rfl rfl ?_
  refine E_call rfl rfl ?_
  refine E_st rfl rfl rfl ?_
  refine E_st rfl rfl rfl ?_
  refine E_st rfl rfl rfl ?_
  refine E_st rfl rfl rfl ?_
  refine E_st rfl rfl rfl ?_
  refine E_st rfl rfl rfl ?_
  refine E_st rfl rfl rfl ?_
  refine E_st rfl rfl rfl ?_
  refine E_st rfl rfl rfl ?_
  refine E_st rfl rfl rfl ?_
  refine E_ret rfl rfl ?_
  refine E_st rfl rfl rfl ?_
  refine E_st rfl rfl rfl ?_
  refine E_st rfl rfl rfl ?_
  refine E_st rfl rfl rfl ?_
  refine E_st rfl rfl rfl ?_
  refine E_st rfl rfl rfl ?_
  refine E_st rfl rfl rfl ?_
  refine E_st rfl rfl rfl ?_
  refine E_st rfl rfl rfl ?_
  refine E_st rfl rfl rfl ?_
  refine E_call rfl rfl ?_
  refine E_st rfl rfl rfl ?_
  refine E_st rfl rfl rfl ?_
  refine E_st rfl rfl rfl ?_
  refine E_st rfl rfl rfl ?_
  refine E_st rfl rfl rfl ?_
  refine E_st rfl rfl rfl ?_
  refine E_st rfl rfl rfl ?_
  refine E_st rfl rfl rfl ?_
  refine E_st rfl rfl rfl ?_
  refine E_st rfl rfl rfl ?_
  refine E_ret rfl rfl ?_
  refine E_st rfl rfl rfl ?_
  refine E_st rfl rfl rfl ?_
  refine E_st rfl rfl rfl ?_
  refine E_st rfl rfl rfl ?_
  refine E_st rfl rfl rfl ?_
  refine E_st rfl rfl rfl ?_
  refine E_st rfl rfl rfl ?_
  refine E_st rfl rfl rfl ?_
  refine E_st rfl rfl rfl ?_
  refine E_st rfl rfl rfl ?_
  refine E_call rfl rfl ?_
  refine E_st rfl rfl rfl ?_
  refine E_st rfl rfl rfl ?_
  refine E_st rfl rfl rfl ?_
  refine E_st rfl rfl rfl ?_
  refine E_st rfl rfl rfl ?_
  refine E_st rfl rfl rfl ?_
  refine E_st rfl rfl rfl ?_
  refine E_st rfl rfl rfl ?_
  refine E_st rfl rfl rfl ?_
  refine E_st rfl rfl rfl ?_
  refine E_ret rfl rfl ?_
  refine E_st rfl rfl rfl ?_
  refine E_st rfl rfl rfl ?_
  refine E_st rfl rfl rfl ?_
  refine E_st rfl rfl rfl ?_
  refine E_st rfl rfl rfl ?_
  refine E_st rfl rfl rfl ?_
  refine E_st rfl rfl rfl ?_
  refine E_st rfl rfl rfl ?_
  refine E_st rfl rfl rfl ?_
  refine E_ret rfl rfl ?_
  refine E_st rfl rfl rfl ?_
  refine E_st rfl rfl rfl ?_
  refine E_st rfl rfl rfl ?_
  refine E_st rfl rfl rfl ?_
  refine E_st rfl rfl rfl ?_
  refine E_st rfl rfl rfl ?_
  refine E_st rfl rfl rfl ?_
  refine E_call rfl rfl ?_
  refine E_st rfl rfl rfl ?_
  refine E_st rfl rfl rfl ?_
  refine E_st rfl rfl rfl ?_
  refine E_st rfl rfl rfl ?_
  refine E_st rfl rfl rfl ?_
  refine E_st rfl rfl rfl ?_
  refine E_st rfl rfl rfl ?_
  refine E_st rfl rfl rfl ?_
  refine E_st rfl rfl rfl ?_
  refine E_st rfl rfl rfl ?_
  refine E_st rfl rfl rfl ?_
  refine E_st rfl rfl rfl ?_
  refine E_st rfl rfl rfl ?_
  refine E_st rfl rfl rfl ?_
  refine E_st rfl rfl rfl ?_
  refine E_st rfl rfl rfl ?_
  refine E_st rfl rfl rfl ?_
  refine E_st rfl rfl rfl ?_
  refine E_st rfl rfl rfl ?_
  refine E_call rfl rfl ?_
  refine E_st rfl rfl rfl ?_
  refine E_st rfl rfl rfl ?_
  refine E_st rfl rfl rfl ?_
  refine E_st rfl rfl rfl ?_
  refine E_st rfl rfl rfl ?_
  refine E_st rfl rfl rfl ?_
  refine E_st rfl rfl rfl ?_
  refine E_st rfl rfl rfl ?_
  refine E_st rfl rfl rfl ?_
  refine E_st rfl rfl rfl ?_
  refine E_ret rfl rfl ?_
  refine E_st rfl rfl rfl ?_
  refine E_st rfl rfl rfl ?_
  refine E_st rfl rfl rfl ?_
  refine E_st rfl rfl rfl ?_
  refine E_st rfl rfl rfl ?_
  refine E_st rfl rfl rfl ?_
  refine E_st rfl rfl rfl ?_
  refine E_st rfl rfl rfl ?_
  refine E_st rfl rfl rfl ?_
  refine E_st rfl rfl rfl ?_
  refine E_call rfl rfl ?_
  refine E_st rfl rfl rfl ?_
  refine E_st rfl rfl rfl ?_
  refine E_st rfl rfl rfl ?_
  refine E_st rfl rfl rfl ?_
  refine E_st rfl rfl rfl ?_
  refine E_st rfl rfl rfl ?_
  refine E_st rfl rfl rfl ?_
  refine E_st rfl rfl rfl ?_
  refine E_st rfl rfl rfl ?_
  refine E_st rfl rfl rfl ?_
  refine E_ret rfl rfl ?_
  refine E_st rfl rfl rfl ?_
  refine E_st rfl rfl rfl ?_
  refine E_st rfl rfl rfl ?_
  refine E_st rfl rfl rfl ?_
  refine E_st rfl rfl rfl ?_
  refine E_st rfl rfl rfl ?_
  refine E_st rfl rfl rfl ?_
  refine E_st rfl rfl rfl ?_
  refine E_st rfl rfl rfl ?_
  refine E_ret rfl rfl ?_
  refine E_st rfl rfl rfl ?_
  refine E_st rfl rfl rfl ?_
  refine E_st rfl rfl rfl ?_
  refine E_st rfl rfl rfl ?_
  refine E_ret rfl rfl ?_
  refine E_st rfl rfl rfl ?_
  refine E_st rfl rfl rfl ?_
  refine E_st rfl rfl rfl ?_
  refine E_ret rfl rfl ?_
  refine E_st rfl rfl rfl ?_
  refine E_st rfl rfl rfl ?_
  refine E_st rfl rfl rfl ?_
  refine E_st rfl rfl rfl ?_
  refine E_st rfl rfl rfl ?_
  refine E_scr rfl rfl h1 ?_
  refine E_st rfl rfl rfl ?_
  refine E_st rfl rfl rfl ?_
  refine E_st rfl rfl rfl ?_
  refine E_st rfl rfl rfl ?_
  refine E_scr rfl rfl h2 ?_
  refine E_call rfl rfl ?_
  refine E_st rfl rfl rfl ?_
  refine E_call rfl rfl ?_
  refine E_st rfl rfl rfl ?_
  refine E_st rfl rfl rfl ?_
  refine E_st rfl rfl rfl ?_
  refine E_call rfl rfl ?_
  refine E_st rfl rfl rfl ?_
  refine E_st rfl rfl rfl ?_
  refine E_st rfl rfl rfl ?_
  refine E_st rfl rfl rfl ?_
  refine E_st rfl rfl rfl ?_
  refine E_st rfl rfl rfl ?_
  refine E_st rfl rfl rfl ?_
  refine E_st rfl rfl rfl ?_
  refine E_ret rfl rfl ?_
  refine E_ret rfl rfl ?_
  refine E_st rfl rfl rfl ?_
  refine E_st rfl rfl rfl ?_
  refine E_call rfl rfl ?_
  refine E_st rfl rfl rfl ?_
  refine E_st rfl rfl rfl ?_
  refine E_st rfl rfl rfl ?_
  refine E_call rfl rfl ?_
  refine E_st rfl rfl rfl ?_
  refine E_st rfl rfl rfl ?_
  refine E_st rfl rfl rfl ?_
  refine E_st rfl rfl rfl ?_
  refine E_st rfl rfl rfl ?_
  refine E_st rfl rfl rfl ?_
  refine E_st rfl rfl rfl ?_
  refine E_st rfl rfl rfl ?_
  refine E_ret rfl rfl ?_
  refine E_ret rfl rfl ?_
  refine E_st rfl rfl rfl ?_
  refine E_st rfl rfl rfl ?_
  refine E_st rfl rfl rfl ?_
  refine E_call rfl rfl ?_
  refine E_st rfl rfl rfl ?_
  refine E_st rfl rfl rfl ?_
  refine E_st rfl rfl rfl ?_
  refine E_st rfl rfl rfl ?_
  refine E_st rfl rfl rfl ?_
  refine E_ret rfl rfl ?_
  refine E_st rfl rfl rfl ?_
  refine E_st rfl rfl rfl ?_
  refine E_st rfl rfl rfl ?_
  refine E_st rfl rfl rfl ?_
  refine E_st rfl rfl rfl ?_
  refine E_st rfl rfl rfl ?_
  refine E_st rfl rfl rfl ?_
  refine E_st rfl rfl rfl ?_
  refine E_st rfl rfl rfl ?_
  refine E_st rfl rfl rfl ?_
  refine E_st rfl rfl rfl ?_
  refine E_st rfl rfl rfl ?_
  refine E_st rfl rfl rfl ?_
  refine E_st rfl rfl rfl ?_
  refine E_st rfl rfl rfl ?_
  refine E_st rfl rfl rfl ?_
  refine E_st rfl rfl rfl ?_
  refine E_st rfl rfl rfl ?_
  refine E_st rfl rfl rfl ?_
  refine E_st rfl rfl rfl ?_
  refine E_st rfl rfl rfl ?_
  refine E_st rfl rfl rfl ?_
  refine E_st rfl rfl rfl ?_
  refine E_st rfl rfl rfl ?_
  refine E_st rfl rfl rfl ?_
  refine E_st rfl rfl rfl ?_
  refine E_st rfl rfl rfl ?_
  refine E_st rfl rfl rfl ?_
  refine E_st rfl rfl rfl ?_
  refine E_st rfl rfl rfl ?_
  refine E_st rfl rfl rfl ?_
  refine E_st rfl rfl rfl ?_
  refine E_st rfl rfl rfl ?_
  refine E_st rfl rfl rfl ?_
  refine E_st rfl rfl rfl ?_
  refine E_st rfl rfl rfl ?_
  refine E_st rfl rfl rfl ?_
  refine E_st rfl rfl rfl ?_
  refine E_st rfl rfl rfl ?_
  refine E_st rfl rfl rfl ?_
  refine E_st rfl rfl rfl ?_
  refine E_st rfl rfl rfl ?_
  refine E_st rfl rfl rfl ?_
  refine E_st rfl rfl rfl ?_
  refine E_st rfl rfl rfl ?_
  refine E_st rfl rfl rfl ?_
  refine E_st rfl rfl rfl ?_
  refine E_ret rfl rfl ?_
  refine E_st rfl rfl rfl ?_
  refine E_st rfl rfl rfl ?_
  refine E_st rfl rfl rfl ?_
  refine E_st rfl rfl rfl ?_
  refine E_st rfl rfl rfl ?_
  refine E_st rfl rfl rfl ?_
  refine E_st rfl rfl rfl ?_
  refine E_st rfl rfl rfl ?_
  refine E_st rfl rfl rfl ?_
  refine E_st rfl rfl rfl ?_
  exact E_ret rfl rfl ⟨rfl, rfl⟩
