set_option maxRecDepth 100000 in
set_option maxHeartbeats 40000000 in
theorem pc_10_3 (xs : Nat → Int) {z a2 a3 a4 a5 : Int} (hz : b32 (fun a b => a &&& b) z 31 = 10) (h0 : xs 0 = z) (h1 : xs 1 = 3) (h2 : xs 2 = a2) (h3 : xs 3 = a3) (h4 : xs 4 = a4) (h5 : xs 5 = a5) : E 0 18 LL [] (s0 xs 6) PQ := by
  refine E_st rfl rfl rfl ?_
  refine E_st rfl rfl rfl ?_
  refine E_st rfl rfl rfl ?_
  refine E_st rfl rfl rfl ?_
  refine E_st rfl rfl rfl ?_
  refine E_st rfl rfl rfl ?_
  refine E_st rfl rfl rfl ?_
  refine E_st rfl rfl rfl ?_
  refine E_scr rfl rfl h0 ?_
  refine E_st rfl rfl rfl ?_
  refine E_st rfl rfl rfl ?_
  refine E_val hz ?_
  refine E_st rfl rfl rfl ?_
  refine E_st rfl rfl rfl ?_
  refine E_st rfl rfl rfl ?_
  refine E_st rfl rfl rfl ?_
  refine E_st rfl rfl rfl ?_
  refine E_st rfl rfl rfl ?_
  refine E_scr rfl rfl h1 ?_
  refine E_st rfl rfl rfl ?_
  refine E_st rfl rfl rfl ?_
  refine E_st rfl rfl rfl ?_
  refine E_st rfl rfl rfl ?_
  refine E_scr rfl rfl h2 ?_
  refine E_st rfl rfl rfl ?_
  refine E_st rfl rfl rfl ?_
  refine E_st rfl rfl rfl ?_
  refine E_st rfl rfl rfl ?_
  refine E_scr rfl rfl h3 ?_
  refine E_st rfl rfl rfl ?_
  refine E_st rfl rfl rfl ?_
  refine E_st rfl rfl rfl ?_
  refine E_st rfl rfl rfl ?_
  refine E_scr rfl rfl h4 ?_
  refine E_call rfl rfl ?_
  refine E_st rfl rfl rfl ?_
  refine E_st rfl rfl rfl ?_
  refine E_call rfl rfl ?_
  refine E_st rfl rfl rfl ?_
  refine E_st rfl rfl rfl ?_
  refine E_st rfl rfl rfl ?_
  refine E_st rfl rfl rfl ?_
  refine E_st rfl rfl rfl ?_
  refine E_st rfl rfl rfl ?_
  refine E_st rfl rfl rfl ?_
  refine E_st rfl rfl rfl ?_
  refine E_st rfl rfl rfl ?_
  refine E_st rfl rfl rfl ?_
  refine E_ret rfl rfl ?_
  refine E_st rfl rfl rfl ?_
  refine E_st rfl rfl rfl ?_
  refine E_st rfl rfl rfl ?_
  refine E_st rfl rfl rfl ?_
  refine E_st rfl rfl rfl ?_
  refine E_st rfl rfl rfl ?_
  refine E_call rfl rfl ?_
  refine E_st rfl rfl rfl ?_
  refine E_if_lt rfl (by decide) (fun _ => ?_) (fun _ => ?_)
  · refine E_st rfl rfl rfl ?_
    refine E_ret rfl rfl ?_
    refine E_st rfl rfl rfl ?_
    refine E_st rfl rfl rfl ?_
    refine E_ret rfl rfl ?_
    refine E_st rfl rfl rfl ?_
    refine E_st rfl rfl rfl ?_
    refine E_st rfl rfl rfl ?_
    refine E_st rfl rfl rfl ?_
    refine E_st rfl rfl rfl ?_
    refine E_scr rfl rfl h1 ?_
    refine E_st rfl rfl rfl ?_
    refine E_st rfl rfl rfl ?_
    refine E_st rfl rfl rfl ?_
    refine E_st rfl rfl rfl ?_
    refine E_scr rfl rfl h2 ?_
    refine E_st rfl rfl rfl ?_
    refine E_st rfl rfl rfl ?_
    refine E_st rfl rfl rfl ?_
    refine E_st rfl rfl rfl ?_
    refine E_scr rfl rfl h3 ?_
    refine E_st rfl rfl rfl ?_
    refine E_st rfl rfl rfl ?_
    refine E_st rfl rfl rfl ?_
    refine E_st rfl rfl rfl ?_
    refine E_scr rfl rfl h4 ?_
    refine E_call rfl rfl ?_
    refine E_st rfl rfl rfl ?_
    refine E_st rfl rfl rfl ?_
    refine E_st rfl rfl rfl ?_
    refine E_call rfl rfl ?_
    refine E_st rfl rfl rfl ?_
    refine E_call rfl rfl ?_
    refine E_st rfl rfl rfl ?_
    refine E_st rfl rfl rfl ?_
    refine E_st rfl rfl rfl ?_
    refine E_call rfl rfl ?_
    refine E_st rfl rfl rfl ?_
    refine E_st rfl rfl rfl ?_
    refine E_st rfl rfl rfl ?_
    refine E_st rfl rfl rfl ?_
    refine E_st rfl rfl rfl ?_
    refine E_st rfl rfl rfl ?_
    refine E_st rfl rfl rfl ?_
    refine E_st rfl rfl rfl ?_
    refine E_ret rfl rfl ?_
    refine E_ret rfl rfl ?_
    refine E_st rfl rfl rfl ?_
    refine E_st rfl rfl rfl ?_
    refine E_st rfl rfl rfl ?_
    refine E_st rfl rfl rfl ?_
    refine E_st rfl rfl rfl ?_
    refine E_st rfl rfl rfl ?_
    refine E_st rfl rfl rfl ?_
    refine E_st rfl rfl rfl ?_
    refine E_isubv (v := -1) rfl (show (0 : Int) - 1 = -1 from rfl) (by decide) ?_
    refine E_call rfl rfl ?_
    refine E_st rfl rfl rfl ?_
    refine E_st rfl rfl rfl ?_
    refine E_icmp_lt (y := 0) rfl (by decide) (fun _ => ?_) (fun q => absurd q (by omega))
    refine E_st rfl rfl rfl ?_
    refine E_ret rfl rfl ?_
    refine E_st rfl rfl rfl ?_
    refine E_st rfl rfl rfl ?_
    refine E_ret rfl rfl ?_
    refine E_st rfl rfl rfl ?_
    refine E_st rfl rfl rfl ?_
    refine E_ret rfl rfl ?_
    refine E_st rfl rfl rfl ?_
    refine E_st rfl rfl rfl ?_
    refine E_st rfl rfl rfl ?_
    refine E_st rfl rfl rfl ?_
    refine E_st rfl rfl rfl ?_
    refine E_st rfl rfl rfl ?_
    refine E_st rfl rfl rfl ?_
    refine E_st rfl rfl rfl ?_
    refine E_st rfl rfl rfl ?_
    refine E_st rfl rfl rfl ?_
    exact E_ret rfl rfl ⟨rfl, rfl⟩
  · refine E_st rfl rfl rfl ?_
    refine E_st rfl rfl rfl ?_
    refine E_st rfl rfl rfl ?_
    refine E_icmp_ge (y := 0) rfl (by decide) (fun _ => ?_) (fun q => absurd q (by omega))
    refine E_st rfl rfl rfl ?_
    refine E_ret rfl rfl ?_
    refine E_st rfl rfl rfl ?_
    refine E_st rfl rfl rfl ?_
    refine E_ret rfl rfl ?_
    refine E_st rfl rfl rfl ?_
    refine E_st rfl rfl rfl ?_
    refine E_st rfl rfl rfl ?_
    refine E_st rfl rfl rfl ?_
    refine E_st rfl rfl rfl ?_
    refine E_scr rfl rfl h1 ?_
    refine E_st rfl rfl rfl ?_
    refine E_st rfl rfl rfl ?_
    refine E_st rfl rfl rfl ?_
    refine E_st rfl rfl rfl ?_
    refine E_scr rfl rfl h2 ?_
    refine E_st rfl rfl rfl ?_
    refine E_st rfl rfl rfl ?_
    refine E_st rfl rfl rfl ?_
    refine E_st rfl rfl rfl ?_
    refine E_scr rfl rfl h3 ?_
    refine E_st rfl rfl rfl ?_
    refine E_st rfl rfl rfl ?_
    refine E_st rfl rfl rfl ?_
    refine E_st rfl rfl rfl ?_
    refine E_scr rfl rfl h4 ?_
    refine E_call rfl rfl ?_
    refine E_st rfl rfl rfl ?_
    refine E_st rfl rfl rfl ?_
    refine E_st rfl rfl rfl ?_
    refine E_call rfl rfl ?_
    refine E_st rfl rfl rfl ?_
    refine E_call rfl rfl ?_
    refine E_st rfl rfl rfl ?_
    refine E_st rfl rfl rfl ?_
    refine E_st rfl rfl rfl ?_
    refine E_call rfl rfl ?_
    refine E_st rfl rfl rfl ?_
    refine E_st rfl rfl rfl ?_
    refine E_st rfl rfl rfl ?_
    refine E_st rfl rfl rfl ?_
    refine E_st rfl rfl rfl ?_
    refine E_st rfl rfl rfl ?_
    refine E_st rfl rfl rfl ?_
    refine E_st rfl rfl rfl ?_
    refine E_ret rfl rfl ?_
    refine E_ret rfl rfl ?_
    refine E_st rfl rfl rfl ?_
    refine E_st rfl rfl rfl ?_
    refine E_st rfl rfl rfl ?_
    refine E_st rfl rfl rfl ?_
    refine E_st rfl rfl rfl ?_
    refine E_st rfl rfl rfl ?_
    refine E_st rfl rfl rfl ?_
    refine E_st rfl rfl rfl ?_
    refine E_isubv (v := -1) rfl (show (0 : Int) - 1 = -1 from rfl) (by decide) ?_
    refine E_call rfl rfl ?_
    refine E_st rfl rfl rfl ?_
    refine E_st rfl rfl rfl ?_
    refine E_icmp_lt (y := 0) rfl (by decide) (fun q => absurd q (by omega)) (fun _ => ?_)
    refine E_st rfl rfl rfl ?_
    refine E_st rfl rfl rfl ?_
    refine E_icmp_gt (y := (-1)) rfl (by decide) (fun _ => ?_) (fun q => absurd q (by omega))
    refine E_st rfl rfl rfl ?_
    refine E_ret rfl rfl ?_
    refine E_st rfl rfl rfl ?_
    refine E_st rfl rfl rfl ?_
    refine E_ret rfl rfl ?_
    refine E_st rfl rfl rfl ?_
    refine E_st rfl rfl rfl ?_
    refine E_ret rfl rfl ?_
    refine E_st rfl rfl rfl ?_
    refine E_st rfl rfl rfl ?_
    refine E_st rfl rfl rfl ?_
    refine E_st rfl rfl rfl ?_
    refine E_st rfl rfl rfl ?_
    refine E_st rfl rfl rfl ?_
    refine E_st rfl rfl rfl ?_
    refine E_st rfl rfl rfl ?_
    refine E_st rfl rfl rfl ?_
    refine E_st rfl rfl rfl ?_
    exact E_ret rfl rfl ⟨rfl, rfl⟩
set_option maxRecDepth 100000 in
set_option maxHeartbeats 40000000 in
theorem pc_10_o (xs : Nat → Int) {z a1 a2 a3 a4 a5 : Int} (hz : b32 (fun a b => a &&& b) z 31 = 10) (h0 : xs 0 = z) (h1 : xs 1 = a1) (h2 : xs 2 = a2) (h3 : xs 3 = a3) (h4 : xs 4 = a4) (h5 : xs 5 = a5) (hr : a1 < 0 ∨ 3 < a1) : E 0 18 LL [] (s0 xs 6) PQ := by
  refine E_st rfl rfl rfl ?_
  refine E_st rfl rfl rfl ?_
  refine E_st rfl rfl rfl ?_
  refine E_st rfl rfl rfl ?_
  refine E_st rfl rfl rfl ?_
  refine E_st rfl rfl rfl ?_
  refine E_st rfl rfl rfl ?_
  refine E_st rfl rfl rfl ?_
  refine E_scr rfl rfl h0 ?_
  refine E_st rfl rfl rfl ?_
  refine E_st rfl rfl rfl ?_
  refine E_val hz ?_
  refine E_st rfl rfl rfl ?_
  refine E_st rfl rfl rfl ?_
  refine E_st rfl rfl rfl ?_
  refine E_st rfl rfl rfl ?_
  refine E_st rfl rfl rfl ?_
  refine E_st rfl rfl rfl ?_
  refine E_scr rfl rfl h1 ?_
  refine E_st rfl rfl rfl ?_
  refine E_st rfl rfl rfl ?_
  refine E_st rfl rfl rfl ?_
  refine E_st rfl rfl rfl ?_
  refine E_scr rfl rfl h2 ?_
  refine E_st rfl rfl rfl ?_
  refine E_st rfl rfl rfl ?_
  refine E_st rfl rfl rfl ?_
  refine E_st rfl rfl rfl ?_
  refine E_scr rfl rfl h3 ?_
  refine E_st rfl rfl rfl ?_
  refine E_st rfl rfl rfl ?_
  refine E_st rfl rfl rfl ?_
  refine E_st rfl rfl rfl ?_
  refine E_scr rfl rfl h4 ?_
  refine E_call rfl rfl ?_
  refine E_st rfl rfl rfl ?_
  refine E_st rfl rfl rfl ?_
  refine E_call rfl rfl ?_
  refine E_st rfl rfl rfl ?_
  refine E_if_lt rfl (by decide) (fun _ => ?_) (fun _ => ?_)
  · refine E_st rfl rfl rfl ?_
    refine E_ret rfl rfl ?_
    refine E_st rfl rfl rfl ?_
    refine E_st rfl rfl rfl ?_
    refine E_st rfl rfl rfl ?_
    refine E_st rfl rfl rfl ?_
    refine E_ret rfl rfl ?_
    refine E_st rfl rfl rfl ?_
    refine E_st rfl rfl rfl ?_
    refine E_st rfl rfl rfl ?_
    refine E_st rfl rfl rfl ?_
    refine E_st rfl rfl rfl ?_
    refine E_scr rfl rfl h1 ?_
    refine E_st rfl rfl rfl ?_
    refine E_st rfl rfl rfl ?_
    refine E_st rfl rfl rfl ?_
    refine E_st rfl rfl rfl ?_
    refine E_scr rfl rfl h2 ?_
    refine E_st rfl rfl rfl ?_
    refine E_st rfl rfl rfl ?_
    refine E_st rfl rfl rfl ?_
    refine E_st rfl rfl rfl ?_
    refine E_scr rfl rfl h3 ?_
    refine E_st rfl rfl rfl ?_
    refine E_st rfl rfl rfl ?_
    refine E_st rfl rfl rfl ?_
    refine E_st rfl rfl rfl ?_
    refine E_scr rfl rfl h4 ?_
    refine E_call rfl rfl ?_
    refine E_st rfl rfl rfl ?_
    refine E_st rfl rfl rfl ?_
    refine E_st rfl rfl rfl ?_
    refine E_call rfl rfl ?_
    refine E_st rfl rfl rfl ?_
    refine E_call rfl rfl ?_
    refine E_st rfl rfl rfl ?_
    refine E_st rfl rfl rfl ?_
    refine E_st rfl rfl rfl ?_
    refine E_call rfl rfl ?_
    refine E_st rfl rfl rfl ?_
    refine E_st rfl rfl rfl ?_
    refine E_icmp_lt (y := 0) rfl (by decide) (fun _ => ?_) (fun q => absurd q (by omega))
    refine E_st rfl rfl rfl ?_
    refine E_ret rfl rfl ?_
    refine E_ret rfl rfl ?_
    refine E_st rfl rfl rfl ?_
    refine E_st rfl rfl rfl ?_
    refine E_ret rfl rfl ?_
    refine E_st rfl rfl rfl ?_
    refine E_st rfl rfl rfl ?_
    refine E_ret rfl rfl ?_
    refine E_st rfl rfl rfl ?_
    refine E_st rfl rfl rfl ?_
    refine E_st rfl rfl rfl ?_
    refine E_st rfl rfl rfl ?_
    refine E_st rfl rfl rfl ?_
    refine E_st rfl rfl rfl ?_
    refine E_st rfl rfl rfl ?_
    refine E_st rfl rfl rfl ?_
    refine E_st rfl rfl rfl ?_
    refine E_st rfl rfl rfl ?_
    exact E_ret rfl rfl ⟨rfl, rfl⟩
  · refine E_st rfl rfl rfl ?_
    refine E_st rfl rfl rfl ?_
    refine E_icmp_ge (y := 4) rfl (by decide) (fun _ => ?_) (fun q => absurd q (by omega))
    refine E_st rfl rfl rfl ?_
    refine E_ret rfl rfl ?_
    refine E_st rfl rfl rfl ?_
    refine E_st rfl rfl rfl ?_
    refine E_st rfl rfl rfl ?_
    refine E_st rfl rfl rfl ?_
    refine E_ret rfl rfl ?_
    refine E_st rfl rfl rfl ?_
    refine E_st rfl rfl rfl ?_
    refine E_st rfl rfl rfl ?_
    refine E_st rfl rfl rfl ?_
    refine E_st rfl rfl rfl ?_
    refine E_scr rfl rfl h1 ?_
    refine E_st rfl rfl rfl ?_
    refine E_st rfl rfl rfl ?_
    refine E_st rfl rfl rfl ?_
    refine E_st rfl rfl rfl ?_
    refine E_scr rfl rfl h2 ?_
    refine E_st rfl rfl rfl ?_
    refine E_st rfl rfl rfl ?_
    refine E_st rfl rfl rfl ?_
    refine E_st rfl rfl rfl ?_
    refine E_scr rfl rfl h3 ?_
    refine E_st rfl rfl rfl ?_
    refine E_st rfl rfl rfl ?_
    refine E_st rfl rfl rfl ?_
    refine E_st rfl rfl rfl ?_
    refine E_scr rfl rfl h4 ?_
    refine E_call rfl rfl ?_
    refine E_st rfl rfl rfl ?_
    refine E_st rfl rfl rfl ?_
    refine E_st rfl rfl rfl ?_
    refine E_call rfl rfl ?_
    refine E_st rfl rfl rfl ?_
    refine E_call rfl rfl ?_
    refine E_st rfl rfl rfl ?_
    refine E_st rfl rfl rfl ?_
    refine E_st rfl rfl rfl ?_
    refine E_call rfl rfl ?_
    refine E_st rfl rfl rfl ?_
    refine E_st rfl rfl rfl ?_
    refine E_icmp_lt (y := 0) rfl (by decide) (fun q => absurd q (by omega)) (fun _ => ?_)
    refine E_st rfl rfl rfl ?_
    refine E_st rfl rfl rfl ?_
    refine E_icmp_gt (y := 3) rfl (by decide) (fun _ => ?_) (fun q => absurd q (by omega))
    refine E_st rfl rfl rfl ?_
    refine E_ret rfl rfl ?_
    refine E_ret rfl rfl ?_
    refine E_st rfl rfl rfl ?_
    refine E_st rfl rfl rfl ?_
    refine E_ret rfl rfl ?_
    refine E_st rfl rfl rfl ?_
    refine E_st rfl rfl rfl ?_
    refine E_ret rfl rfl ?_
    refine E_st rfl rfl rfl ?_
    refine E_st rfl rfl rfl ?_
    refine E_st rfl rfl rfl ?_
    refine E_st rfl rfl rfl ?_
    refine E_st rfl rfl rfl ?_
    refine E_st rfl rfl rfl ?_
    refine E_st rfl rfl rfl ?_
    refine E_st rfl rfl rfl ?_
    refine E_st rfl rfl rfl ?_
    refine E_st rfl rfl rfl ?_
    exact E_ret rfl rfl ⟨rfl, rfl⟩
set_option maxRecDepth 100000 in
set_option maxHeartbeats 40000000 in
theorem pc_11_0 (xs : Nat → Int) {z a2 a3 a4 a5 : Int} (hz : b32 (fun a b => a &&& b) z 31 = 11) (h0 : xs 0 = z) (h1 : xs 1 = 0) (h2 : xs 2 = a2) (h3 : xs 3 = a3) (h4 : xs 4 = a4) (h5 : xs 5 = a5) : E 0 18 LL [] (s0 xs 6) PQ := by
  refine E_st rfl rfl rfl ?_
  refine E_st rfl rfl rfl ?_
  refine E_st rfl rfl rfl ?_
  refine E_st rfl rfl rfl ?_
  refine E_st rfl rfl rfl ?_
  refine E_st rfl rfl rfl ?_
  refine E_st rfl rfl rfl ?_
  refine E_st rfl rfl rfl ?_
  refine E_scr rfl rfl h0 ?_
  refine E_st rfl rfl rfl ?_
  refine E_st rfl rfl rfl ?_
  refine E_val hz ?_
  refine E_st rfl rfl rfl ?_
  refine E_st rfl rfl rfl ?_
  refine E_st rfl rfl rfl ?_
  refine E_st rfl rfl rfl ?_
  refine E_st rfl rfl rfl ?_
  refine E_st rfl rfl rfl ?_
  refine E_scr rfl rfl h1 ?_
  refine E_call rfl rfl ?_
  refine E_st rfl rfl rfl ?_
  refine E_st rfl rfl rfl ?_
  refine E_call rfl rfl ?_
  refine E_st rfl rfl rfl ?_
  refine E_st rfl rfl rfl ?_
  refine E_call rfl rfl ?_
  refine E_st rfl rfl rfl ?_
  refine E_st rfl rfl rfl ?_
  refine E_st rfl rfl rfl ?_
  refine E_st rfl rfl rfl ?_
  refine E_st rfl rfl rfl ?_
  refine E_st rfl rfl rfl ?_
  refine E_st rfl rfl rfl ?_
  refine E_st rfl rfl rfl ?_
  refine E_st rfl rfl rfl ?_
  refine E_st rfl rfl rfl ?_
  refine E_ret rfl rfl ?_
  refine E_st rfl rfl rfl ?_
  refine E_st rfl rfl rfl ?_
  refine E_st rfl rfl rfl ?_
  refine E_st rfl rfl rfl ?_
  refine E_call rfl rfl ?_
  refine E_st rfl rfl rfl ?_
  refine E_st rfl rfl rfl ?_
  refine E_st rfl rfl rfl ?_
  refine E_st rfl rfl rfl ?_
  refine E_st rfl rfl rfl ?_
  refine E_st rfl rfl rfl ?_
  refine E_st rfl rfl rfl ?_
  refine E_st rfl rfl rfl ?_
  refine E_st rfl rfl rfl ?_
  refine E_call rfl rfl ?_
  refine E_st rfl rfl rfl ?_
  refine E_st rfl rfl rfl ?_
  refine E_call rfl rfl ?_
  refine E_st rfl rfl rfl ?_
  refine E_st rfl rfl rfl ?_
  refine E_st rfl rfl rfl ?_
  refine E_call rfl rfl ?_
  refine c_fill rfl rfl ?_
  refine E_st rfl rfl rfl ?_
  refine E_st rfl rfl rfl ?_
  refine E_st rfl rfl rfl ?_
  refine E_call rfl rfl ?_
  refine c_fill rfl rfl ?_
  refine E_st rfl rfl rfl ?_
  refine E_st rfl rfl rfl ?_
  refine E_st rfl rfl rfl ?_
  refine E_st rfl rfl rfl ?_
  refine E_st rfl rfl rfl ?_
  refine E_st rfl rfl rfl ?_
  refine E_st rfl rfl rfl ?_
  refine E_st rfl rfl rfl ?_
  refine E_st rfl rfl rfl ?_
  refine E_st rfl rfl rfl ?_
  refine E_st rfl rfl rfl ?_
  refine E_st rfl rfl rfl ?_
  refine E_ret rfl rfl ?_
  refine E_st rfl rfl rfl ?_
  refine E_st rfl rfl rfl ?_
  refine E_call rfl rfl ?_
  refine E_st rfl rfl rfl ?_
  refine E_st rfl rfl rfl ?_
  refine E_st rfl rfl rfl ?_
  refine E_st rfl rfl rfl ?_
  refine E_st rfl rfl rfl ?_
  refine fl_loop (gp := 0) (by decide) _ 600 1 _ rfl (fun j hj => show (if 0 ≤ j ∧ j < 601 then (0 : Int) else _) = 0 from if_pos ⟨Nat.zero_le _, hj⟩) ?_
  refine E_st rfl rfl rfl ?_
  refine E_st rfl rfl rfl ?_
  refine E_st rfl rfl rfl ?_
  refine E_st rfl rfl rfl ?_
  refine E_call rfl rfl ?_
  refine E_st rfl rfl rfl ?_
  refine E_st rfl rfl rfl ?_
  refine E_st rfl rfl rfl ?_
  refine E_st rfl rfl rfl ?_
  refine E_st rfl rfl rfl ?_
  refine E_st rfl rfl rfl ?_
  refine E_call rfl rfl ?_
  refine c_fill rfl rfl ?_
  refine E_st rfl rfl rfl ?_
  refine E_st rfl rfl rfl ?_
  refine E_st rfl rfl rfl ?_
  refine E_call rfl rfl ?_
  refine c_fill rfl rfl ?_
  refine E_st rfl rfl rfl ?_
  refine E_st rfl rfl rfl ?_
  refine E_st rfl rfl rfl ?_
  refine E_call rfl rfl ?_
  refine c_fill rfl rfl ?_
  refine E_ret rfl rfl ?_
  refine E_ret rfl rfl ?_
  refine E_st rfl rfl rfl ?_
  refine E_st rfl rfl rfl ?_
  refine E_st rfl rfl rfl ?_
  refine E_st rfl rfl rfl ?_
  refine E_st rfl rfl rfl ?_
  refine E_ret rfl rfl ?_
  refine E_st rfl rfl rfl ?_
  refine E_st rfl rfl rfl ?_
  refine E_ret rfl rfl ?_
  refine E_st rfl rfl rfl ?_
  refine E_st rfl rfl rfl ?_
  refine E_st rfl rfl rfl ?_
  refine E_st rfl rfl rfl ?_
  refine E_st rfl rfl rfl ?_
  refine E_st rfl rfl rfl ?_
  refine E_st rfl rfl rfl ?_
  refine E_st rfl rfl rfl ?_
  refine E_st rfl rfl rfl ?_
  refine E_ret rfl rfl ?_
  refine E_st rfl rfl rfl ?_
  refine E_st rfl rfl rfl ?_
  refine E_st rfl rfl rfl ?_
  refine E_st rfl rfl rfl ?_
  refine E_st rfl rfl rfl ?_
  refine E_scr rfl rfl h1 ?_
  refine E_call rfl rfl ?_
  refine E_st rfl rfl rfl ?_
  refine E_call rfl rfl ?_
  refine E_st rfl rfl rfl ?_
  refine E_st rfl rfl rfl ?_
  refine E_st rfl rfl rfl ?_
  refine E_call rfl rfl ?_
  refine E_st rfl rfl rfl ?_
  refine E_st rfl rfl rfl ?_
  refine E_st rfl rfl rfl ?_
  refine E_st rfl rfl rfl ?_
  refine E_st rfl rfl rfl ?_
  refine E_st rfl rfl rfl ?_
  refine E_st rfl rfl rfl ?_
  refine E_st rfl rfl rfl ?_
  refine E_ret rfl rfl ?_
  refine E_ret rfl rfl ?_
  refine E_st rfl rfl rfl ?_
  refine E_st rfl rfl rfl ?_
  refine E_st rfl rfl rfl ?_
  refine E_call rfl rfl ?_
  refine E_st rfl rfl rfl ?_
  refine E_st rfl rfl rfl ?_
  refine mr_loop1 _ 601 0 _ rfl ?_
  refine E_st rfl rfl rfl ?_
  refine E_st rfl rfl rfl ?_
  refine E_st rfl rfl rfl ?_
  refine E_st rfl rfl rfl ?_
  refine E_st rfl rfl rfl ?_
  refine E_st rfl rfl rfl ?_
  refine E_st rfl rfl rfl ?_
  refine E_st rfl rfl rfl ?_
  refine E_st rfl rfl rfl ?_
  refine E_st rfl rfl rfl ?_
  refine E_st rfl rfl rfl ?_
  refine E_st rfl rfl rfl ?_
  refine E_st rfl rfl rfl ?_
  refine E_st rfl rfl rfl ?_
  refine E_st rfl rfl rfl ?_
  refine E_st rfl rfl rfl ?_
  refine E_st rfl rfl rfl ?_
  refine E_st rfl rfl rfl ?_
  refine E_st rfl rfl rfl ?_
  refine mr_loop3 _ 601 0 _ rfl (fun j hj => show (if 0 ≤ j ∧ j < 601 then (0 : Int) else _) = 0 from if_pos ⟨Nat.zero_le _, hj⟩) ?_
  refine E_st rfl rfl rfl ?_
  refine E_st rfl rfl rfl ?_
  refine E_st rfl rfl rfl ?_
  refine E_st rfl rfl rfl ?_
  refine E_st rfl rfl rfl ?_
  refine E_st rfl rfl rfl ?_
  refine E_st rfl rfl rfl ?_
  refine E_st rfl rfl rfl ?_
  refine E_st rfl rfl rfl ?_
  refine E_st rfl rfl rfl ?_
  refine E_st rfl rfl rfl ?_
  refine E_st rfl rfl rfl ?_
  refine E_st rfl rfl rfl ?_
  refine E_ret rfl rfl ?_
  refine E_st rfl rfl rfl ?_
  refine E_st rfl rfl rfl ?_
  refine E_ret rfl rfl ?_
  refine E_st rfl rfl rfl ?_
  refine E_st rfl rfl rfl ?_
  refine E_st rfl rfl rfl ?_
  refine E_st rfl rfl rfl ?_
  refine E_st rfl rfl rfl ?_
  refine E_st rfl rfl rfl ?_
  refine E_st rfl rfl rfl ?_
  refine E_st rfl rfl rfl ?_
  refine E_st rfl rfl rfl ?_
  refine E_st rfl rfl rfl ?_
  exact E_ret rfl rfl ⟨rfl, rfl⟩
set_option maxRecDepth 100000 in
set_option maxHeartbeats 40000000 in
theorem pc_11_1 (xs : Nat → Int) {z a2 a3 a4 a5 : Int} (hz : b32 (fun a b => a &&& b) z 31 = 11) (h0 : xs 0 = z) (h1 : xs 1 = 1) (h2 : xs 2 = a2) (h3 : xs 3 = a3) (h4 : xs 4 = a4) (h5 : xs 5 = a5) : E 0 18 LL [] (s0 xs 6) PQ := by
  refine E_st rfl rfl rfl ?_
  refine E_st rfl rfl rfl ?_
  refine E_st rfl rfl rfl ?_
  refine E_st rfl rfl rfl ?_
  refine E_st rfl rfl rfl ?_
  refine E_st rfl rfl rfl ?_
  refine E_st rfl rfl rfl ?_
  refine E_st rfl rfl rfl ?_
  refine E_scr rfl rfl h0 ?_
  refine E_st rfl rfl rfl ?_
  refine E_st rfl rfl rfl ?_
  refine E_val hz ?_
  refine E_st rfl rfl rfl ?_
  refine E_st rfl rfl rfl ?_
  refine E_st rfl rfl rfl ?_
  refine E_st rfl rfl rfl ?_
  refine E_st rfl rfl rfl ?_
  refine E_st rfl rfl rfl ?_
  refine E_scr rfl rfl h1 ?_
  refine E_call rfl rfl ?_
  refine E_st rfl rfl rfl ?_
  refine E_st rfl rfl rfl ?_
  refine E_call rfl rfl ?_
  refine E_st rfl rfl rfl ?_
  refine E_st rfl rfl rfl ?_
  refine E_call rfl rfl ?_
  refine E_st rfl rfl rfl ?_
  refine E_st rfl rfl rfl ?_
  refine E_st rfl rfl rfl ?_
  refine E_st rfl rfl rfl ?_
  refine E_st rfl rfl rfl ?_
  refine E_st rfl rfl rfl ?_
  refine E_st rfl rfl rfl ?_
  refine E_st rfl rfl rfl ?_
  refine E_st rfl rfl rfl ?_
  refine E_st rfl rfl rfl ?_
  refine E_ret rfl rfl ?_
  refine E_st rfl rfl rfl ?_
  refine E_st rfl rfl rfl ?_
  refine E_st rfl rfl rfl ?_
  refine E_st rfl rfl rfl ?_
  refine E_call rfl rfl ?_
  refine E_st rfl rfl rfl ?_
  refine E_st rfl rfl rfl ?_
  refine E_st rfl rfl rfl ?_
  refine E_st rfl rfl rfl ?_
  refine E_st rfl rfl rfl ?_
  refine E_st rfl rfl rfl ?_
  refine E_st rfl rfl rfl ?_
  refine E_st rfl rfl rfl ?_
  refine E_st rfl rfl rfl ?_
  refine E_call rfl rfl ?_
  refine E_st rfl rfl rfl ?_
  refine E_st rfl rfl rfl ?_
  refine E_call rfl rfl ?_
  refine E_st rfl rfl rfl ?_
  refine E_st rfl rfl rfl ?_
  refine E_st rfl rfl rfl ?_
  refine E_call rfl rfl ?_
  refine c_fill rfl rfl ?_
  refine E_st rfl rfl rfl ?_
  refine E_st rfl rfl rfl ?_
  refine E_st rfl rfl rfl ?_
  refine E_call rfl rfl ?_
  refine c_fill rfl rfl ?_
  refine E_st rfl rfl rfl ?_
  refine E_st rfl rfl rfl ?_
  refine E_st rfl rfl rfl ?_
  refine E_st rfl rfl rfl ?_
  refine E_st rfl rfl rfl ?_
  refine E_st rfl rfl rfl ?_
  refine E_st rfl rfl rfl ?_
  refine E_st rfl rfl rfl ?_
  refine E_st rfl rfl rfl ?_
  refine E_st rfl rfl rfl ?_
  refine E_st rfl rfl rfl ?_
  refine E_st rfl rfl rfl ?_
  refine E_ret rfl rfl ?_
  refine E_st rfl rfl rfl ?_
  refine E_st rfl rfl rfl ?_
  refine E_call rfl rfl ?_
  refine E_st rfl rfl rfl ?_
  refine E_st rfl rfl rfl ?_
  refine E_st rfl rfl rfl ?_
  refine E_st rfl rfl rfl ?_
  refine E_st rfl rfl rfl ?_
  refine fl_loop (gp := 0) (by decide) _ 600 1 _ rfl (fun j hj => show (if 0 ≤ j ∧ j < 601 then (0 : Int) else _) = 0 from if_pos ⟨Nat.zero_le _, hj⟩) ?_
  refine E_st rfl rfl rfl ?_
  refine E_st rfl rfl rfl ?_
  refine E_st rfl rfl rfl ?_
  refine E_st rfl rfl rfl ?_
  refine E_call rfl rfl ?_
  refine E_st rfl rfl rfl ?_
  refine E_st rfl rfl rfl ?_
  refine E_st rfl rfl rfl ?_
  refine E_st rfl rfl rfl ?_
  refine E_st rfl rfl rfl ?_
  refine E_st rfl rfl rfl ?_
  refine E_call rfl rfl ?_
  refine c_fill rfl rfl ?_
  refine E_st rfl rfl rfl ?_
  refine E_st rfl rfl rfl ?_
  refine E_st rfl rfl rfl ?_
  refine E_call rfl rfl ?_
  refine c_fill rfl rfl ?_
  refine E_st rfl rfl rfl ?_
  refine E_st rfl rfl rfl ?_
  refine E_st rfl rfl rfl ?_
  refine E_call rfl rfl ?_
  refine c_fill rfl rfl ?_
  refine E_ret rfl rfl ?_
  refine E_ret rfl rfl ?_
  refine E_st rfl rfl rfl ?_
  refine E_st rfl rfl rfl ?_
  refine E_st rfl rfl rfl ?_
  refine E_st rfl rfl rfl ?_
  refine E_st rfl rfl rfl ?_
  refine E_ret rfl rfl ?_
  refine E_st rfl rfl rfl ?_
  refine E_st rfl rfl rfl ?_
  refine E_ret rfl rfl ?_
  refine E_st rfl rfl rfl ?_
  refine E_st rfl rfl rfl ?_
  refine E_st rfl rfl rfl ?_
  refine E_st rfl rfl rfl ?_
  refine E_st rfl rfl rfl ?_
  refine E_st rfl rfl rfl ?_
  refine E_st rfl rfl rfl ?_
  refine E_st rfl rfl rfl ?_
  refine E_st rfl rfl rfl ?_
  refine E_ret rfl rfl ?_
  refine E_st rfl rfl rfl ?_
  refine E_st rfl rfl rfl ?_
  refine E_st rfl rfl rfl ?_
  refine E_st rfl rfl rfl ?_
  refine E_st rfl rfl rfl ?_
  refine E_scr rfl rfl h1 ?_
  refine E_call rfl rfl ?_
  refine E_st rfl rfl rfl ?_
  refine E_call rfl rfl ?_
  refine E_st rfl rfl rfl ?_
  refine E_st rfl rfl rfl ?_
  refine E_st rfl rfl rfl ?_
  refine E_call rfl rfl ?_
  refine E_st rfl rfl rfl ?_
  refine E_st rfl rfl rfl ?_
  refine E_st rfl rfl rfl ?_
  refine E_st rfl rfl rfl ?_
  refine E_st rfl rfl rfl ?_
  refine E_st rfl rfl rfl ?_
  refine E_st rfl rfl rfl ?_
  refine E_st rfl rfl rfl ?_
  refine E_ret rfl rfl ?_
  refine E_ret rfl rfl ?_
  refine E_st rfl rfl rfl ?_
  refine E_st rfl rfl rfl ?_
  refine E_st rfl rfl rfl ?_
  refine E_call rfl rfl ?_
  refine E_st rfl rfl rfl ?_
  refine E_st rfl rfl rfl ?_
  refine mr_loop1 _ 601 0 _ rfl ?_
  refine E_st rfl rfl rfl ?_
  refine E_st rfl rfl rfl ?_
  refine E_st rfl rfl rfl ?_
  refine E_st rfl rfl rfl ?_
  refine E_st rfl rfl rfl ?_
  refine E_st rfl rfl rfl ?_
  refine E_st rfl rfl rfl ?_
  refine E_st rfl rfl rfl ?_
  refine E_st rfl rfl rfl ?_
  refine E_st rfl rfl rfl ?_
  refine E_st rfl rfl rfl ?_
  refine E_st rfl rfl rfl ?_
  refine E_st rfl rfl rfl ?_
  refine E_st rfl rfl rfl ?_
  refine E_st rfl rfl rfl ?_
  refine E_st rfl rfl rfl ?_
  refine E_st rfl rfl rfl ?_
  refine E_st rfl rfl rfl ?_
  refine E_st rfl rfl rfl ?_
  refine mr_loop3 _ 601 0 _ rfl (fun j hj => show (if 0 ≤ j ∧ j < 601 then (0 : Int) else _) = 0 from if_pos ⟨Nat.zero_le _, hj⟩) ?_
  refine E_st rfl rfl rfl ?_
  refine E_st rfl rfl rfl ?_
  refine E_st rfl rfl rfl ?_
  refine E_st rfl rfl rfl ?_
  refine E_st rfl rfl rfl ?_
  refine E_st rfl rfl rfl ?_
  refine E_st rfl rfl rfl ?_
  refine E_st rfl rfl rfl ?_
  refine E_st rfl rfl rfl ?_
  refine E_st rfl rfl rfl ?_
  refine E_st rfl rfl rfl ?_
  refine E_st rfl rfl rfl ?_
  refine E_st rfl rfl rfl ?_
  refine E_ret rfl rfl ?_
  refine E_st rfl rfl rfl ?_
  refine E_st rfl rfl rfl ?_
  refine E_ret rfl rfl ?_
  refine E_st rfl rfl rfl ?_
  refine E_st rfl rfl rfl ?_
  refine E_st rfl rfl rfl ?_
  refine E_st rfl rfl rfl ?_
  refine E_st rfl rfl rfl ?_
  refine E_st rfl rfl rfl ?_
  refine E_st rfl rfl rfl ?_
  refine E_st rfl rfl rfl ?_
  refine E_st rfl rfl rfl ?_
  refine E_st rfl rfl rfl ?_
  exact E_ret rfl rfl ⟨rfl, rfl⟩
set_option maxRecDepth 100000 in
set_option maxHeartbeats 40000000 in
theorem pc_11_2 (xs : Nat → Int) {z a2 a3 a4 a5 : Int} (hz : b32 (fun a b => a &&& b) z 31 = 11) (h0 : xs 0 = z) (h1 : xs 1 = 2) (h2 : xs 2 = a2) (h3 : xs 3 = a3) (h4 : xs 4 = a4) (h5 : xs 5 = a5) : E 0 18 LL [] (s0 xs 6) PQ := by
  refine E_st rfl rfl rfl ?_
  refine E_st rfl rfl rfl ?_
  refine E_st rfl rfl rfl ?_
  refine E_st rfl rfl rfl ?_
  refine E_st rfl rfl rfl ?_
  refine E_st rfl rfl rfl ?_
  refine E_st rfl rfl rfl ?_
  refine E_st rfl rfl rfl ?_
  refine E_scr rfl rfl h0 ?_
  refine E_st rfl rfl rfl ?_
  refine E_st rfl rfl rfl ?_
  refine E_val hz ?_
  refine E_st rfl rfl rfl ?_
  refine E_st rfl rfl rfl ?_
  refine E_st rfl rfl rfl ?_
  refine E_st rfl rfl rfl ?_
  refine E_st rfl rfl rfl ?_
  refine E_st rfl rfl rfl ?_
  refine E_scr rfl rfl h1 ?_
  refine E_call rfl rfl ?_
  refine E_st rfl rfl rfl ?_
  refine E_st rfl rfl rfl ?_
  refine E_call rfl rfl ?_
  refine E_st rfl rfl rfl ?_
  refine E_st rfl rfl rfl ?_
  refine E_call rfl rfl ?_
  refine E_st rfl rfl rfl ?_
  refine E_st rfl rfl rfl ?_
  refine E_st rfl rfl rfl ?_
  refine E_st rfl rfl rfl ?_
  refine E_st rfl rfl rfl ?_
  refine E_st rfl rfl rfl ?_
  refine E_st rfl rfl rfl ?_
  refine E_st rfl rfl rfl ?_
  refine E_st rfl rfl rfl ?_
  refine E_st rfl rfl rfl ?_
  refine E_ret rfl rfl ?_
  refine E_st rfl rfl rfl ?_
  refine E_st rfl rfl rfl ?_
  refine E_st rfl rfl rfl ?_
  refine E_st rfl rfl rfl ?_
  refine E_call rfl rfl ?_
  refine E_st rfl rfl rfl ?_
  refine E_st rfl rfl rfl ?_
  refine E_st rfl rfl rfl ?_
  refine E_st rfl rfl rfl ?_
  refine E_st rfl rfl rfl ?_
  refine E_st rfl rfl rfl ?_
  refine E_st rfl rfl rfl ?_
  refine E_st rfl rfl rfl ?_
  refine E_st rfl rfl rfl ?_
  refine E_call rfl rfl ?_
  refine E_st rfl rfl rfl ?_
  refine E_st rfl rfl rfl ?_
  refine E_call rfl rfl ?_
  refine E_st rfl rfl rfl ?_
  refine E_st rfl rfl rfl ?_
  refine E_st rfl rfl rfl ?_
  refine E_call rfl rfl ?_
  refine c_fill rfl rfl ?_
  refine E_st rfl rfl rfl ?_
  refine E_st rfl rfl rfl ?_
  refine E_st rfl rfl rfl ?_
  refine E_call rfl rfl ?_
  refine c_fill rfl rfl ?_
  refine E_st rfl rfl rfl ?_
  refine E_st rfl rfl rfl ?_
  refine E_st rfl rfl rfl ?_
  refine E_st rfl rfl rfl ?_
  refine E_st rfl rfl rfl ?_
  refine E_st rfl rfl rfl ?_
  refine E_st rfl rfl rfl ?_
  refine E_st rfl rfl rfl ?_
  refine E_st rfl rfl rfl ?_
  refine E_st rfl rfl rfl ?_
  refine E_st rfl rfl rfl ?_
  refine E_st rfl rfl rfl ?_
  refine E_ret rfl rfl ?_
  refine E_st rfl rfl rfl ?_
  refine E_st rfl rfl rfl ?_
  refine E_call rfl rfl ?_
  refine E_st rfl rfl rfl ?_
  refine E_st rfl rfl rfl ?_
  refine E_st rfl rfl rfl ?_
  refine E_st rfl rfl rfl ?_
  refine E_st rfl rfl rfl ?_
  refine fl_loop (gp := 0) (by decide) _ 600 1 _ rfl (fun j hj => show (if 0 ≤ j ∧ j < 601 then (0 : Int) else _) = 0 from if_pos ⟨Nat.zero_le _, hj⟩) ?_
  refine E_st rfl rfl rfl ?_
  refine E_st rfl rfl rfl ?_
  refine E_st rfl rfl rfl ?_
  refine E_st rfl rfl rfl ?_
  refine E_call rfl rfl ?_
  refine E_st rfl rfl rfl ?_
  refine E_st rfl rfl rfl ?_
  refine E_st rfl rfl rfl ?_
  refine E_st rfl rfl rfl ?_
  refine E_st rfl rfl rfl ?_
  refine E_st rfl rfl rfl ?_
  refine E_call rfl rfl ?_
  refine c_fill rfl rfl ?_
  refine E_st rfl rfl rfl ?_
  refine E_st rfl rfl rfl ?_
  refine E_st rfl rfl rfl ?_
  refine E_call rfl rfl ?_
  refine c_fill rfl rfl ?_
  refine E_st rfl rfl rfl ?_
  refine E_st rfl rfl rfl ?_
  refine E_st rfl rfl rfl ?_
  refine E_call rfl rfl ?_
  refine c_fill rfl rfl ?_
  refine E_ret rfl rfl ?_
  refine E_ret rfl rfl ?_
  refine E_st rfl rfl rfl ?_
  refine E_st rfl rfl rfl ?_
  refine E_st rfl rfl rfl ?_
  refine E_st rfl rfl rfl ?_
  refine E_st rfl rfl rfl ?_
  refine E_ret rfl rfl ?_
  refine E_st rfl rfl rfl ?_
  refine E_st rfl rfl rfl ?_
  refine E_ret rfl rfl ?_
  refine E_st rfl rfl rfl ?_
  refine E_st rfl rfl rfl ?_
  refine E_st rfl rfl rfl ?_
  refine E_st rfl rfl rfl ?_
  refine E_st rfl rfl rfl ?_
  refine E_st rfl rfl rfl ?_
  refine E_st rfl rfl rfl ?_
  refine E_st rfl rfl rfl ?_
  refine E_st rfl rfl rfl ?_
  refine E_ret rfl rfl ?_
  refine E_st rfl rfl rfl ?_
  refine E_st rfl rfl rfl ?_
  refine E_st rfl rfl rfl ?_
  refine E_st rfl rfl rfl ?_
  refine E_st rfl rfl rfl ?_
  refine E_scr rfl rfl h1 ?_
  refine E_call rfl rfl ?_
  refine E_st rfl rfl rfl ?_
  refine E_call rfl rfl ?_
  refine E_st rfl rfl rfl ?_
  refine E_st rfl rfl rfl ?_
  refine E_st rfl rfl rfl ?_
  refine E_call rfl rfl ?_
  refine E_st rfl rfl rfl ?_
  refine E_st rfl rfl rfl ?_
  refine E_st rfl rfl rfl ?_
  refine E_st rfl rfl rfl ?_
  refine E_st rfl rfl rfl ?_
  refine E_st rfl rfl rfl ?_
  refine E_st rfl rfl rfl ?_
  refine E_st rfl rfl rfl ?_
  refine E_ret rfl rfl ?_
  refine E_ret rfl rfl ?_
  refine E_st rfl rfl rfl ?_
  refine E_st rfl rfl rfl ?_
  refine E_st rfl rfl rfl ?_
  refine E_call rfl rfl ?_
  refine E_st rfl rfl rfl ?_
  refine E_st rfl rfl rfl ?_
  refine mr_loop1 _ 601 0 _ rfl ?_
  refine E_st rfl rfl rfl ?_
  refine E_st rfl rfl rfl ?_
  refine E_st rfl rfl rfl ?_
  refine E_st rfl rfl rfl ?_
  refine E_st rfl rfl rfl ?_
  refine E_st rfl rfl rfl ?_
  refine E_st rfl rfl rfl ?_
  refine E_st rfl rfl rfl ?_
  refine E_st rfl rfl rfl ?_
  refine E_st rfl rfl rfl ?_
  refine E_st rfl rfl rfl ?_
  refine E_st rfl rfl rfl ?_
  refine E_st rfl rfl rfl ?_
  refine E_st rfl rfl rfl ?_
  refine E_st rfl rfl rfl ?_
  refine E_st rfl rfl rfl ?_
  refine E_st rfl rfl rfl ?_
  refine E_st rfl rfl rfl ?_
  refine E_st rfl rfl rfl ?_
  refine mr_loop3 _ 601 0 _ rfl (fun j hj => show (if 0 ≤ j ∧ j < 601 then (0 : Int) else _) = 0 from if_pos ⟨Nat.zero_le _, hj⟩) ?_
  refine E_st rfl rfl rfl ?_
  refine E_st rfl rfl rfl ?_
  refine E_st rfl rfl rfl ?_
  refine E_st rfl rfl rfl ?_
  refine E_st rfl rfl rfl ?_
  refine E_st rfl rfl rfl ?_
  refine E_st rfl rfl rfl ?_
  refine E_st rfl rfl rfl ?_
  refine E_st rfl rfl rfl ?_
  refine E_st rfl rfl rfl ?_
  refine E_st rfl rfl rfl ?_
  refine E_st rfl rfl rfl ?_
  refine E_st rfl rfl rfl ?_
  refine E_ret rfl rfl ?_
  refine E_st rfl rfl rfl ?_
  refine E_st rfl rfl rfl ?_
  refine E_ret rfl rfl ?_
  refine E_st rfl rfl rfl ?_
  refine E_st rfl rfl rfl ?_
  refine E_st rfl rfl rfl ?_
  refine E_st rfl rfl rfl ?_
  refine E_st rfl rfl rfl ?_
  refine E_st rfl rfl rfl ?_
  refine E_st rfl rfl rfl ?_
  refine E_st rfl rfl rfl ?_
  refine E_st rfl rfl rfl ?_
  refine E_st rfl rfl rfl ?_
  exact E_ret rfl rfl ⟨rfl, rfl⟩
set_option maxRecDepth 100000 in
set_option maxHeartbeats 40000000 in
theorem pc_11_3 (xs : Nat → Int) {z a2 a3 a4 a5 : Int} (hz : b32 (fun a b => a &&& b) z 31 = 11) (h0 : xs 0 = z) (h1 : xs 1 = 3) (h2 : xs 2 = a2) (h3 : xs 3 = a3) (h4 : xs 4 = a4) (h5 : xs 5 = a5) : E 0 18 LL [] (s0 xs 6) PQ := by
  refine E_st rfl rfl rfl ?_
  refine E_st rfl rfl rfl ?_
  refine E_st rfl rfl rfl ?_
  refine E_st rfl rfl rfl ?_
  refine E_st rfl rfl rfl ?_
  refine E_st rfl rfl rfl ?_
  refine E_st rfl rfl rfl ?_
  refine E_st rfl rfl rfl ?_
  refine E_scr rfl rfl h0 ?_
  refine E_st rfl rfl rfl ?_
  refine E_st rfl rfl rfl ?_
  refine E_val hz ?_
  refine E_st rfl rfl rfl ?_
  refine E_st rfl rfl rfl ?_
  refine E_st rfl rfl rfl ?_
  refine E_st rfl rfl rfl ?_
  refine E_st rfl rfl rfl ?_
  refine E_st rfl rfl rfl ?_
  refine E_scr rfl rfl h1 ?_
  refine E_call rfl rfl ?_
  refine E_st rfl rfl rfl ?_
  refine E_st rfl rfl rfl ?_
  refine E_call rfl rfl ?_
  refine E_st rfl rfl rfl ?_
  refine E_st rfl rfl rfl ?_
  refine E_call rfl rfl ?_
  refine E_st rfl rfl rfl ?_
  refine E_st rfl rfl rfl ?_
  refine E_st rfl rfl rfl ?_
  refine E_st rfl rfl rfl ?_
  refine E_st rfl rfl rfl ?_
  refine E_st rfl rfl rfl ?_
  refine E_st rfl rfl rfl ?_
  refine E_st rfl rfl rfl ?_
  refine E_st rfl rfl rfl ?_
  refine E_st rfl rfl rfl ?_
  refine E_ret rfl rfl ?_
  refine E_st rfl rfl rfl ?_
  refine E_st rfl rfl rfl ?_
  refine E_st rfl rfl rfl ?_
  refine E_st rfl rfl rfl ?_
  refine E_call rfl rfl ?_
  refine E_st rfl rfl rfl ?_
  refine E_st rfl rfl rfl ?_
  refine E_st rfl rfl rfl ?_
  refine E_st rfl rfl rfl ?_
  refine E_st rfl rfl rfl ?_
  refine E_st rfl rfl rfl ?_
  refine E_st rfl rfl rfl ?_
  refine E_st rfl rfl rfl ?_
  refine E_st rfl rfl rfl ?_
  refine E_call rfl rfl ?_
  refine E_st rfl rfl rfl ?_
  refine E_st rfl rfl rfl ?_
  refine E_call rfl rfl ?_
  refine E_st rfl rfl rfl ?_
  refine E_st rfl rfl rfl ?_
  refine E_st rfl rfl rfl ?_
  refine E_call rfl rfl ?_
  refine c_fill rfl rfl ?_
  refine E_st rfl rfl rfl ?_
  refine E_st rfl rfl rfl ?_
  refine E_st rfl rfl rfl ?_
  refine E_call rfl rfl ?_
  refine c_fill rfl rfl ?_
  refine E_st rfl rfl rfl ?_
  refine E_st rfl rfl rfl ?_
  refine E_st rfl rfl rfl ?_
  refine E_st rfl rfl rfl ?_
  refine E_st rfl rfl rfl ?_
  refine E_st rfl rfl rfl ?_
  refine E_st rfl rfl rfl ?_
  refine E_st rfl rfl rfl ?_
  refine E_st rfl rfl rfl ?_
  refine E_st rfl rfl rfl ?_
  refine E_st rfl rfl rfl ?_
  refine E_st rfl rfl rfl ?_
  refine E_ret rfl rfl ?_
  refine E_st rfl rfl rfl ?_
  refine E_st rfl rfl rfl ?_
  refine E_call rfl rfl ?_
  refine E_st rfl rfl rfl ?_
  refine E_st rfl rfl rfl ?_
  refine E_st rfl rfl rfl ?_
  refine E_st rfl rfl rfl ?_
  refine E_st rfl rfl rfl ?_
  refine fl_loop (gp := 0) (by decide) _ 600 1 _ rfl (fun j hj => show (if 0 ≤ j ∧ j < 601 then (0 : Int) else _) = 0 from if_pos ⟨Nat.zero_le _, hj⟩) ?_
  refine E_st rfl rfl rfl ?_
  refine E_st rfl rfl rfl ?_
  refine E_st rfl rfl rfl ?_
  refine E_st rfl rfl rfl ?_
  refine E_call rfl rfl ?_
  refine E_st rfl rfl rfl ?_
  refine E_st rfl rfl rfl ?_
  refine E_st rfl rfl rfl ?_
  refine E_st rfl rfl rfl ?_
  refine E_st rfl rfl rfl ?_
  refine E_st rfl rfl rfl ?_
  refine E_call rfl rfl ?_
  refine c_fill rfl rfl ?_
  refine E_st rfl rfl rfl ?_
  refine E_st rfl rfl rfl ?_
  refine E_st rfl rfl rfl ?_
  refine E_call rfl rfl ?_
  refine c_fill rfl rfl ?_
  refine E_st rfl rfl rfl ?_
  refine E_st rfl rfl rfl ?_
  refine E_st rfl rfl rfl ?_
  refine E_call rfl rfl ?_
  refine c_fill rfl rfl ?_
  refine E_ret rfl rfl ?_
  refine E_ret rfl rfl ?_
  refine E_st rfl rfl rfl ?_
  refine E_st rfl rfl rfl ?_
  refine E_st rfl rfl rfl ?_
  refine E_st rfl rfl rfl ?_
  refine E_st rfl rfl rfl ?_
  refine E_ret rfl rfl ?_
  refine E_st rfl rfl rfl ?_
  refine E_st rfl rfl rfl ?_
  refine E_ret rfl rfl ?_
  refine E_st rfl rfl rfl ?_
  refine E_st rfl rfl rfl ?_
  refine E_st rfl rfl rfl ?_
  refine E_st rfl rfl rfl ?_
  refine E_st rfl rfl rfl ?_
  refine E_st rfl rfl rfl ?_
  refine E_st rfl rfl rfl ?_
  refine E_st rfl rfl rfl ?_
  refine E_st rfl rfl rfl ?_
  refine E_ret rfl rfl ?_
  refine E_st rfl rfl rfl ?_
  refine E_st rfl rfl rfl ?_
  refine E_st rfl rfl rfl ?_
  refine E_st rfl rfl rfl ?_
  refine E_st rfl rfl rfl ?_
  refine E_scr rfl rfl h1 ?_
  refine E_call rfl rfl ?_
  refine E_st rfl rfl rfl ?_
  refine E_call rfl rfl ?_
  refine E_st rfl rfl rfl ?_
  refine E_st rfl rfl rfl ?_
  refine E_st rfl rfl rfl ?_
  refine E_call rfl rfl ?_
  refine E_st rfl rfl rfl ?_
  refine E_st rfl rfl rfl ?_
  refine E_st rfl rfl rfl ?_
  refine E_st rfl rfl rfl ?_
  refine E_st rfl rfl rfl ?_
  refine E_st rfl rfl rfl ?_
  refine E_st rfl rfl rfl ?_
  refine E_st rfl rfl rfl ?_
  refine E_ret rfl rfl ?_
  refine E_ret rfl rfl ?_
  refine E_st rfl rfl rfl ?_
  refine E_st rfl rfl rfl ?_
  refine E_st rfl rfl rfl ?_
  refine E_call rfl rfl ?_
  refine E_st rfl rfl rfl ?_
  refine E_st rfl rfl rfl ?_
  refine mr_loop1 _ 601 0 _ rfl ?_
  refine E_st rfl rfl rfl ?_
  refine E_st rfl rfl rfl ?_
  refine E_st rfl rfl rfl ?_
  refine E_st rfl rfl rfl ?_
  refine E_st rfl rfl rfl ?_
  refine E_st rfl rfl rfl ?_
  refine E_st rfl rfl rfl ?_
  refine E_st rfl rfl rfl ?_
  refine E_st rfl rfl rfl ?_
  refine E_st rfl rfl rfl ?_
  refine E_st rfl rfl rfl ?_
  refine E_st rfl rfl rfl ?_
  refine E_st rfl rfl rfl ?_
  refine E_st rfl rfl rfl ?_
  refine E_st rfl rfl rfl ?_
  refine E_st rfl rfl rfl ?_
  refine E_st rfl rfl rfl ?_
  refine E_st rfl rfl rfl ?_
  refine E_st rfl rfl rfl ?_
  refine mr_loop3 _ 601 0 _ rfl (fun j hj => show (if 0 ≤ j ∧ j < 601 then (0 : Int) else _) = 0 from if_pos ⟨Nat.zero_le _, hj⟩) ?_
  refine E_st rfl rfl rfl ?_
  refine E_st rfl rfl rfl ?_
  refine E_st rfl rfl rfl ?_
  refine E_st rfl rfl rfl ?_
  refine E_st rfl rfl rfl ?_
  refine E_st rfl rfl rfl ?_
  refine E_st rfl rfl rfl ?_
  refine E_st rfl rfl rfl ?_
  refine E_st rfl rfl rfl ?_
  refine E_st rfl rfl rfl ?_
  refine E_st rfl rfl rfl ?_
  refine E_st rfl rfl rfl ?_
  refine E_st rfl rfl rfl ?_
  refine E_ret rfl rfl ?_
  refine E_st rfl rfl rfl ?_
  refine E_st rfl rfl rfl ?_
  refine E_ret rfl rfl ?_
  refine E_st rfl rfl rfl ?_
  refine E_st rfl rfl rfl ?_
  refine E_st rfl rfl rfl ?_
  refine E_st rfl rfl rfl ?_
  refine E_st rfl rfl rfl ?_
  refine E_st rfl rfl rfl ?_
  refine E_st rfl rfl rfl ?_
  refine E_st rfl rfl rfl ?_
  refine E_st rfl rfl rfl ?_
  refine E_st rfl rfl rfl ?_
  exact E_ret rfl rfl ⟨rfl, rfl⟩
set_option maxRecDepth 100000 in
set_option maxHeartbeats 40000000 in
theorem pc_11_o (xs : Nat → Int) {z a1 a2 a3 a4 a5 : Int} (hz : b32 (fun a b => a &&& b) z 31 = 11) (h0 : xs 0 = z) (h1 : xs 1 = a1) (h2 : xs 2 = a2) (h3 : xs 3 = a3) (h4 : xs 4 = a4) (h5 : xs 5 = a5) (hr : a1 < 0 ∨ 3 < a1) : E 0 18 LL [] (s0 xs 6) PQ := by
  refine E_st rfl rfl rfl ?_
  refine E_st rfl rfl rfl ?_
  refine E_st rfl rfl rfl ?_
  refine E_st rfl rfl rfl ?_
  refine E_st rfl rfl rfl ?_
  refine E_st rfl rfl rfl ?_
  refine E_st rfl rfl rfl ?_
  refine E_st rfl rfl rfl ?_
  refine E_scr rfl rfl h0 ?_
  refine E_st rfl rfl rfl ?_
  refine E_st rfl rfl rfl ?_
  refine E_val hz ?_
  refine E_st rfl rfl rfl ?_
  refine E_st rfl rfl rfl ?_
  refine E_st rfl rfl rfl ?_
  refine E_st rfl rfl rfl ?_
  refine E_st rfl rfl rfl ?_
  refine E_st rfl rfl rfl ?_
  refine E_scr rfl rfl h1 ?_
  refine E_call rfl rfl ?_
  refine E_st rfl rfl rfl ?_
  refine E_st rfl rfl rfl ?_
  refine E_call rfl rfl ?_
  refine E_st rfl rfl rfl ?_
  refine E_st rfl rfl rfl ?_
  refine E_call rfl rfl ?_
  refine E_st rfl rfl rfl ?_
  refine E_if_lt rfl (by decide) (fun _ => ?_) (fun _ => ?_)
  · refine E_st rfl rfl rfl ?_
    refine E_ret rfl rfl ?_
    refine E_st rfl rfl rfl ?_
    refine E_st rfl rfl rfl ?_
    refine E_st rfl rfl rfl ?_
    refine E_st rfl rfl rfl ?_
    refine E_ret rfl rfl ?_
    refine E_st rfl rfl rfl ?_
    refine E_st rfl rfl rfl ?_
    refine E_st rfl rfl rfl ?_
    refine E_st rfl rfl rfl ?_
    refine E_ret rfl rfl ?_
    refine E_st rfl rfl rfl ?_
    refine E_st rfl rfl rfl ?_
    refine E_st rfl rfl rfl ?_
    refine E_st rfl rfl rfl ?_
    refine E_st rfl rfl rfl ?_
    refine E_scr rfl rfl h1 ?_
    refine E_call rfl rfl ?_
    refine E_st rfl rfl rfl ?_
    refine E_call rfl rfl ?_
    refine E_st rfl rfl rfl ?_
    refine E_st rfl rfl rfl ?_
    refine E_st rfl rfl rfl ?_
    refine E_call rfl rfl ?_
    refine E_st rfl rfl rfl ?_
    refine E_st rfl rfl rfl ?_
    refine E_icmp_lt (y := 0) rfl (by decide) (fun _ => ?_) (fun q => absurd q (by omega))
    refine E_st rfl rfl rfl ?_
    refine E_ret rfl rfl ?_
    refine E_ret rfl rfl ?_
    refine E_st rfl rfl rfl ?_
    refine E_st rfl rfl rfl ?_
    refine E_st rfl rfl rfl ?_
    refine E_ret rfl rfl ?_
    refine E_st rfl rfl rfl ?_
    refine E_st rfl rfl rfl ?_
    refine E_st rfl rfl rfl ?_
    refine E_st rfl rfl rfl ?_
    refine E_st rfl rfl rfl ?_
    refine E_st rfl rfl rfl ?_
    refine E_st rfl rfl rfl ?_
    refine E_st rfl rfl rfl ?_
    refine E_st rfl rfl rfl ?_
    refine E_st rfl rfl rfl ?_
    exact E_ret rfl rfl ⟨rfl, rfl⟩
  · refine E_st rfl rfl rfl ?_
    refine E_st rfl rfl rfl ?_
    refine E_icmp_ge (y := 4) rfl (by decide) (fun _ => ?_) (fun q => absurd q (by omega))
    refine E_st rfl rfl rfl ?_
    refine E_ret rfl rfl ?_
    refine E_st rfl rfl rfl ?_
    refine E_st rfl rfl rfl ?_
    refine E_st rfl rfl rfl ?_
    refine E_st rfl rfl rfl ?_
    refine E_ret rfl rfl ?_
    refine E_st rfl rfl rfl ?_
    refine E_st rfl rfl rfl ?_
    refine E_st rfl rfl rfl ?_
    refine E_st rfl rfl rfl ?_
    refine E_ret rfl rfl ?_
    refine E_st rfl rfl rfl ?_
    refine E_st rfl rfl rfl ?_
    refine E_st rfl rfl rfl ?_
    refine E_st rfl rfl rfl ?_
    refine E_st rfl rfl rfl ?_
    refine E_scr rfl rfl h1 ?_
    refine E_call rfl rfl ?_
    refine E_st rfl rfl rfl ?_
    refine E_call rfl rfl ?_
    refine E_st rfl rfl rfl ?_
    refine E_st rfl rfl rfl ?_
    refine E_st rfl rfl rfl ?_
    refine E_call rfl rfl ?_
    refine E_st rfl rfl rfl ?_
    refine E_st rfl rfl rfl ?_
    refine E_icmp_lt (y := 0) rfl (by decide) (fun q => absurd q (by omega)) (fun _ => ?_)
    refine E_st rfl rfl rfl ?_
    refine E_st rfl rfl rfl ?_
    refine E_icmp_gt (y := 3) rfl (by decide) (fun _ => ?_) (fun q => absurd q (by omega))
    refine E_st rfl rfl rfl ?_
    refine E_ret rfl rfl ?_
    refine E_ret rfl rfl ?_
    refine E_st rfl rfl rfl ?_
    refine E_st rfl rfl rfl ?_
    refine E_st rfl rfl rfl ?_
    refine E_ret rfl rfl ?_
    refine E_st rfl rfl rfl ?_
    refine E_st rfl rfl rfl ?_
    refine E_st rfl rfl rfl ?_
    refine E_st rfl rfl rfl ?_
    refine E_st rfl rfl rfl ?_
    refine E_st rfl rfl rfl ?_
    refine E_st rfl rfl rfl ?_
    refine E_st rfl rfl rfl ?_
    refine E_st rfl rfl rfl ?_
    refine E_st rfl rfl rfl ?_
    exact E_ret rfl rfl ⟨rfl, rfl⟩
set_option maxRecDepth 100000 in
set_option maxHeartbeats 40000000 in
theorem pc_12_0 (xs : Nat → Int) {z a2 a3 a4 a5 : Int} (hz : b32 (fun a b => a &&& b) z 31 = 12) (h0 : xs 0 = z) (h1 : xs 1 = 0) (h2 : xs 2 = a2) (h3 : xs 3 = a3) (h4 : xs 4 = a4) (h5 : xs 5 = a5) : E 0 18 LL [] (s0 xs 6) PQ := by
  refine E_st rfl rfl rfl ?_
  refine E_st rfl rfl rfl ?_
  refine E_st rfl rfl rfl ?_
  refine E_st rfl rfl rfl ?_
  refine E_st rfl rfl rfl ?_
  refine E_st rfl rfl rfl ?_
  refine E_st rfl rfl rfl ?_
  refine E_st rfl rfl rfl ?_
  refine E_scr rfl rfl h0 ?_
  refine E_st rfl rfl rfl ?_
  refine E_st rfl rfl rfl ?_
  refine E_val hz ?_
  refine E_st rfl rfl rfl ?_
  refine E_st rfl rfl rfl ?_
  refine E_st rfl rfl rfl ?_
  refine E_st rfl rfl rfl ?_
  refine E_st rfl rfl rfl ?_
  refine E_st rfl rfl rfl ?_
  refine E_scr rfl rfl h1 ?_
  refine E_st rfl rfl rfl ?_
  refine E_st rfl rfl rfl ?_
  refine E_st rfl rfl rfl ?_
  refine E_st rfl rfl rfl ?_
  refine E_scr rfl rfl h2 ?_
  refine E_st rfl rfl rfl ?_
  refine E_st rfl rfl rfl ?_
  refine E_st rfl rfl rfl ?_
  refine E_st rfl rfl rfl ?_
  refine E_scr rfl rfl h3 ?_
  refine E_call rfl rfl ?_
  refine E_st rfl rfl rfl ?_
  refine E_st rfl rfl rfl ?_
  refine E_call rfl rfl ?_
  refine E_st rfl rfl rfl ?_
  refine E_st rfl rfl rfl ?_
  refine E_call rfl rfl ?_
  refine E_st rfl rfl rfl ?_
  refine E_st rfl rfl rfl ?_
  refine E_st rfl rfl rfl ?_
  refine E_st rfl rfl rfl ?_
  refine E_st rfl rfl rfl ?_
  refine E_st rfl rfl rfl ?_
  refine E_st rfl rfl rfl ?_
  refine E_st rfl rfl rfl ?_
  refine E_st rfl rfl rfl ?_
  refine E_st rfl rfl rfl ?_
  refine E_ret rfl rfl ?_
  refine E_st rfl rfl rfl ?_
  refine E_st rfl rfl rfl ?_
  refine E_st rfl rfl rfl ?_
  refine E_st rfl rfl rfl ?_
  refine E_call rfl rfl ?_
  refine E_st rfl rfl rfl ?_
  refine E_st rfl rfl rfl ?_
  refine E_st rfl rfl rfl ?_
  refine E_st rfl rfl rfl ?_
  refine E_st rfl rfl rfl ?_
  refine E_st rfl rfl rfl ?_
  refine E_st rfl rfl rfl ?_
  refine E_st rfl rfl rfl ?_
  refine E_st rfl rfl rfl ?_
  refine E_call rfl rfl ?_
  refine E_st rfl rfl rfl ?_
  refine E_st rfl rfl rfl ?_
  refine E_call rfl rfl ?_
  refine E_st rfl rfl rfl ?_
  refine E_st rfl rfl rfl ?_
  refine E_st rfl rfl rfl ?_
  refine E_call rfl rfl ?_
  refine c_fill rfl rfl ?_
  refine E_st rfl rfl rfl ?_
  refine E_st rfl rfl rfl ?_
  refine E_st rfl rfl rfl ?_
  refine E_call rfl rfl ?_
  refine c_fill rfl rfl ?_
  refine E_st rfl rfl rfl ?_
  refine E_st rfl rfl rfl ?_
  refine E_st rfl rfl rfl ?_
  refine E_st rfl rfl rfl ?_
  refine E_st rfl rfl rfl ?_
  refine E_st rfl rfl rfl ?_
  refine E_st rfl rfl rfl ?_
  refine E_st rfl rfl rfl ?_
  refine E_st rfl rfl rfl ?_
  refine E_st rfl rfl rfl ?_
  refine E_st rfl rfl rfl ?_
  refine E_st rfl rfl rfl ?_
  refine E_ret rfl rfl ?_
  refine E_st rfl rfl rfl ?_
  refine E_st rfl rfl rfl ?_
  refine E_call rfl rfl ?_
  refine E_st rfl rfl rfl ?_
  refine E_st rfl rfl rfl ?_
  refine E_st rfl rfl rfl ?_
  refine E_st rfl rfl rfl ?_
  refine E_st rfl rfl rfl ?_
  refine fl_loop (gp := 0) (by decide) _ 600 1 _ rfl (fun j hj => show (if 0 ≤ j ∧ j < 601 then (0 : Int) else _) = 0 from if_pos ⟨Nat.zero_le _, hj⟩) ?_
  refine E_st rfl rfl rfl ?_
  refine E_st rfl rfl rfl ?_
  refine E_st rfl rfl rfl ?_
  refine E_st rfl rfl rfl ?_
  refine E_call rfl rfl ?_
  refine E_st rfl rfl rfl ?_
  refine E_st rfl rfl rfl ?_
  refine E_st rfl rfl rfl ?_
  refine E_st rfl rfl rfl ?_
  refine E_st rfl rfl rfl ?_
  refine E_st rfl rfl rfl ?_
  refine E_call rfl rfl ?_
  refine c_fill rfl rfl ?_
  refine E_st rfl rfl rfl ?_
  refine E_st rfl rfl rfl ?_
  refine E_st rfl rfl rfl ?_
  refine E_call rfl rfl ?_
  refine c_fill rfl rfl ?_
  refine E_st rfl rfl rfl ?_
  refine E_st rfl rfl rfl ?_
  refine E_st rfl rfl rfl ?_
  refine E_call rfl rfl ?_
  refine c_fill rfl rfl ?_
  refine E_ret rfl rfl ?_
  refine E_ret rfl rfl ?_
  refine E_st rfl rfl rfl ?_
  refine E_st rfl rfl rfl ?_
  refine E_st rfl rfl rfl ?_
  refine E_st rfl rfl rfl ?_
  refine E_st rfl rfl rfl ?_
  refine E_ret rfl rfl ?_
  refine E_st rfl rfl rfl ?_
  refine E_st rfl rfl rfl ?_
  refine E_ret rfl rfl ?_
  refine E_st rfl rfl rfl ?_
  refine E_st rfl rfl rfl ?_
  refine E_st rfl rfl rfl ?_
  refine E_st rfl rfl rfl ?_
  refine E_if_lt rfl (by decide) (fun _ => ?_) (fun _ => ?_)
  · refine E_st rfl rfl rfl ?_
    refine E_ret rfl rfl ?_
    refine E_st rfl rfl rfl ?_
    refine E_st rfl rfl rfl ?_
    refine E_st rfl rfl rfl ?_
    refine E_st rfl rfl rfl ?_
    refine E_st rfl rfl rfl ?_
    refine E_scr rfl rfl h1 ?_
    refine E_st rfl rfl rfl ?_
    refine E_st rfl rfl rfl ?_
    refine E_st rfl rfl rfl ?_
    refine E_st rfl rfl rfl ?_
    refine E_scr rfl rfl h2 ?_
    refine E_st rfl rfl rfl ?_
    refine E_st rfl rfl rfl ?_
    refine E_st rfl rfl rfl ?_
    refine E_st rfl rfl rfl ?_
    refine E_scr rfl rfl h3 ?_
    refine E_call rfl rfl ?_
    refine E_st rfl rfl rfl ?_
    refine E_call rfl rfl ?_
    refine E_st rfl rfl rfl ?_
    refine E_st rfl rfl rfl ?_
    refine E_st rfl rfl rfl ?_
    refine E_call rfl rfl ?_
    refine E_st rfl rfl rfl ?_
    refine E_st rfl rfl rfl ?_
    refine E_st rfl rfl rfl ?_
    refine E_st rfl rfl rfl ?_
    refine E_st rfl rfl rfl ?_
    refine E_st rfl rfl rfl ?_
    refine E_st rfl rfl rfl ?_
    refine E_st rfl rfl rfl ?_
    refine E_ret rfl rfl ?_
    refine E_ret rfl rfl ?_
    refine E_st rfl rfl rfl ?_
    refine E_st rfl rfl rfl ?_
    refine E_st rfl rfl rfl ?_
    refine E_call rfl rfl ?_
    refine E_st rfl rfl rfl ?_
    refine E_st rfl rfl rfl ?_
    refine mr_loop1 _ 601 0 _ rfl ?_
    refine E_st rfl rfl rfl ?_
    refine E_st rfl rfl rfl ?_
    refine E_st rfl rfl rfl ?_
    refine E_st rfl rfl rfl ?_
    refine E_st rfl rfl rfl ?_
    refine E_st rfl rfl rfl ?_
    refine E_st rfl rfl rfl ?_
    refine E_st rfl rfl rfl ?_
    refine E_st rfl rfl rfl ?_
    refine E_st rfl rfl rfl ?_
    refine E_st rfl rfl rfl ?_
    refine E_st rfl rfl rfl ?_
    refine E_st rfl rfl rfl ?_
    refine E_st rfl rfl rfl ?_
    refine E_st rfl rfl rfl ?_
    refine E_st rfl rfl rfl ?_
    refine E_st rfl rfl rfl ?_
    refine E_st rfl rfl rfl ?_
    refine E_st rfl rfl rfl ?_
    refine mr_loop3 _ 601 0 _ rfl (fun j hj => show (if 0 ≤ j ∧ j < 601 then (0 : Int) else _) = 0 from if_pos ⟨Nat.zero_le _, hj⟩) ?_
    refine E_st rfl rfl rfl ?_
    refine E_st rfl rfl rfl ?_
    refine E_st rfl rfl rfl ?_
    refine E_st rfl rfl rfl ?_
    refine E_st rfl rfl rfl ?_
    refine E_st rfl rfl rfl ?_
    refine E_st rfl rfl rfl ?_
    refine E_st rfl rfl rfl ?_
    refine E_st rfl rfl rfl ?_
    refine E_st rfl rfl rfl ?_
    refine E_st rfl rfl rfl ?_
    refine E_st rfl rfl rfl ?_
    refine E_st rfl rfl rfl ?_
    refine E_ret rfl rfl ?_
    refine E_st rfl rfl rfl ?_
    refine E_st rfl rfl rfl ?_
    refine E_ret rfl rfl ?_
    refine E_st rfl rfl rfl ?_
    refine E_st rfl rfl rfl ?_
    refine E_st rfl rfl rfl ?_
    refine E_st rfl rfl rfl ?_
    refine E_st rfl rfl rfl ?_
    refine E_st rfl rfl rfl ?_
    refine E_st rfl rfl rfl ?_
    refine E_st rfl rfl rfl ?_
    refine E_st rfl rfl rfl ?_
    refine E_st rfl rfl rfl ?_
    exact E_ret rfl rfl ⟨rfl, rfl⟩
  · refine E_st rfl rfl rfl ?_
    refine E_st rfl rfl rfl ?_
    refine E_st rfl rfl rfl ?_
    refine E_st rfl rfl rfl ?_
    refine E_icmp_lt (y := 0) rfl (by decide) (fun q => absurd q (by omega)) (fun _ => ?_)
    refine E_st rfl rfl rfl ?_
    refine E_ret rfl rfl ?_
    refine E_st rfl rfl rfl ?_
    refine E_st rfl rfl rfl ?_
    refine E_st rfl rfl rfl ?_
    refine E_st rfl rfl rfl ?_
    refine E_st rfl rfl rfl ?_
    refine E_scr rfl rfl h1 ?_
    refine E_st rfl rfl rfl ?_
    refine E_st rfl rfl rfl ?_
    refine E_st rfl rfl rfl ?_
    refine E_st rfl rfl rfl ?_
    refine E_scr rfl rfl h2 ?_
    refine E_st rfl rfl rfl ?_
    refine E_st rfl rfl rfl ?_
    refine E_st rfl rfl rfl ?_
    refine E_st rfl rfl rfl ?_
    refine E_scr rfl rfl h3 ?_
    refine E_call rfl rfl ?_
    refine E_st rfl rfl rfl ?_
    refine E_call rfl rfl ?_
    refine E_st rfl rfl rfl ?_
    refine E_st rfl rfl rfl ?_
    refine E_st rfl rfl rfl ?_
    refine E_call rfl rfl ?_
    refine E_st rfl rfl rfl ?_
    refine E_st rfl rfl rfl ?_
    refine E_st rfl rfl rfl ?_
    refine E_st rfl rfl rfl ?_
    refine E_st rfl rfl rfl ?_
    refine E_st rfl rfl rfl ?_
    refine E_st rfl rfl rfl ?_
    refine E_st rfl rfl rfl ?_
    refine E_ret rfl rfl ?_
    refine E_ret rfl rfl ?_
    refine E_st rfl rfl rfl ?_
    refine E_st rfl rfl rfl ?_
    refine E_st rfl rfl rfl ?_
    refine E_call rfl rfl ?_
    refine E_st rfl rfl rfl ?_
    refine E_st rfl rfl rfl ?_
    refine mr_loop1 _ 601 0 _ rfl ?_
    refine E_st rfl rfl rfl ?_
    refine E_st rfl rfl rfl ?_
    refine E_st rfl rfl rfl ?_
    refine E_st rfl rfl rfl ?_
    refine E_st rfl rfl rfl ?_
    refine E_st rfl rfl rfl ?_
    refine E_st rfl rfl rfl ?_
    refine E_st rfl rfl rfl ?_
    refine E_st rfl rfl rfl ?_
    refine E_st rfl rfl rfl ?_
    refine E_st rfl rfl rfl ?_
    refine E_st rfl rfl rfl ?_
    refine E_st rfl rfl rfl ?_
    refine E_st rfl rfl rfl ?_
    refine E_st rfl rfl rfl ?_
    refine E_st rfl rfl rfl ?_
    refine E_st rfl rfl rfl ?_
    refine E_st rfl rfl rfl ?_
    refine E_st rfl rfl rfl ?_
    refine mr_loop3 _ 601 0 _ rfl (fun j hj => show (if 0 ≤ j ∧ j < 601 then (0 : Int) else _) = 0 from if_pos ⟨Nat.zero_le _, hj⟩) ?_
    refine E_st rfl rfl rfl ?_
    refine E_st rfl rfl rfl ?_
    refine E_st rfl rfl rfl ?_
    refine E_st rfl rfl rfl ?_
    refine E_st rfl rfl rfl ?_
    refine E_st rfl rfl rfl ?_
    refine E_st rfl rfl rfl ?_
    refine E_st rfl rfl rfl ?_
    refine E_st rfl rfl rfl ?_
    refine E_st rfl rfl rfl ?_
    refine E_st rfl rfl rfl ?_
    refine E_st rfl rfl rfl ?_
    refine E_st rfl rfl rfl ?_
    refine E_ret rfl rfl ?_
    refine E_st rfl rfl rfl ?_
    refine E_st rfl rfl rfl ?_
    refine E_ret rfl rfl ?_
    refine E_st rfl rfl rfl ?_
    refine E_st rfl rfl rfl ?_
    refine E_st rfl rfl rfl ?_
    refine E_st rfl rfl rfl ?_
    refine E_st rfl rfl rfl ?_
    refine E_st rfl rfl rfl ?_
    refine E_st rfl rfl rfl ?_
    refine E_st rfl rfl rfl ?_
    refine E_st rfl rfl rfl ?_
    refine E_st rfl rfl rfl ?_
    exact E_ret rfl rfl ⟨rfl, rfl⟩
set_option maxRecDepth 100000 in
set_option maxHeartbeats 40000000 in
theorem pc_12_1 (xs : Nat → Int) {z a2 a3 a4 a5 : Int} (hz : b32 (fun a b => a &&& b) z 31 = 12) (h0 : xs 0 = z) (h1 : xs 1 = 1) (h2 : xs 2 = a2) (h3 : xs 3 = a3) (h4 : xs 4 = a4) (h5 : xs 5 = a5) : E 0 18 LL [] (s0 xs 6) PQ := by
  refine E_st rfl rfl rfl ?_
  refine E_st rfl rfl rfl ?_
  refine E_st rfl rfl rfl ?_
  refine E_st rfl rfl rfl ?_
  refine E_st rfl rfl rfl ?_
  refine E_st rfl rfl rfl ?_
  refine E_st rfl rfl rfl ?_
  refine E_st rfl rfl rfl ?_
  refine E_scr rfl rfl h0 ?_
  refine E_st rfl rfl rfl ?_
  refine E_st rfl rfl rfl ?_
  refine E_val hz ?_
  refine E_st rfl rfl rfl ?_
  refine E_st rfl rfl rfl ?_
  refine E_st rfl rfl rfl ?_
  refine E_st rfl rfl rfl ?_
  refine E_st rfl rfl rfl ?_
  refine E_st rfl rfl rfl ?_
  refine E_scr rfl rfl h1 ?_
  refine E_st rfl rfl rfl ?_
  refine E_st rfl rfl rfl ?_
  refine E_st rfl rfl rfl ?_
  refine E_st rfl rfl rfl ?_
  refine E_scr rfl rfl h2 ?_
  refine E_st rfl rfl rfl ?_
  refine E_st rfl rfl rfl ?_
  refine E_st rfl rfl rfl ?_
  refine E_st rfl rfl rfl ?_
  refine E_scr rfl rfl h3 ?_
  refine E_call rfl rfl ?_
  refine E_st rfl rfl rfl ?_
  refine E_st rfl rfl rfl ?_
  refine E_call rfl rfl ?_
  refine E_st rfl rfl rfl ?_
  refine E_st rfl rfl rfl ?_
  refine E_call rfl rfl ?_
  refine E_st rfl rfl rfl ?_
  refine E_st rfl rfl rfl ?_
  refine E_st rfl rfl rfl ?_
  refine E_st rfl rfl rfl ?_
  refine E_st rfl rfl rfl ?_
  refine E_st rfl rfl rfl ?_
  refine E_st rfl rfl rfl ?_
  refine E_st rfl rfl rfl ?_
  refine E_st rfl rfl rfl ?_
  refine E_st rfl rfl rfl ?_
  refine E_ret rfl rfl ?_
  refine E_st rfl rfl rfl ?_
  refine E_st rfl rfl rfl ?_
  refine E_st rfl rfl rfl ?_
  refine E_st rfl rfl rfl ?_
  refine E_call rfl rfl ?_
  refine E_st rfl rfl rfl ?_
  refine E_st rfl rfl rfl ?_
  refine E_st rfl rfl rfl ?_
  refine E_st rfl rfl rfl ?_
  refine E_st rfl rfl rfl ?_
  refine E_st rfl rfl rfl ?_
  refine E_st rfl rfl rfl ?_
  refine E_st rfl rfl rfl ?_
  refine E_st rfl rfl rfl ?_
  refine E_call rfl rfl ?_
  refine E_st rfl rfl rfl ?_
  refine E_st rfl rfl rfl ?_
  refine E_call rfl rfl ?_
  refine E_st rfl rfl rfl ?_
  refine E_st rfl rfl rfl ?_
  refine E_st rfl rfl rfl ?_
  refine E_call rfl rfl ?_
  refine c_fill rfl rfl ?_
  refine E_st rfl rfl rfl ?_
  refine E_st rfl rfl rfl ?_
  refine E_st rfl rfl rfl ?_
  refine E_call rfl rfl ?_
  refine c_fill rfl rfl ?_
  refine E_st rfl rfl rfl ?_
  refine E_st rfl rfl rfl ?_
  refine E_st rfl rfl rfl ?_
  refine E_st rfl rfl rfl ?_
  refine E_st rfl rfl rfl ?_
  refine E_st rfl rfl rfl ?_
  refine E_st rfl rfl rfl ?_
  refine E_st rfl rfl rfl ?_
  refine E_st rfl rfl rfl ?_
  refine E_st rfl rfl rfl ?_
  refine E_st rfl rfl rfl ?_
  refine E_st rfl rfl rfl ?_
  refine E_ret rfl rfl ?_
  refine E_st rfl rfl rfl ?_
  refine E_st rfl rfl rfl ?_
  refine E_call rfl rfl ?_
  refine E_st rfl rfl rfl ?_
  refine E_st rfl rfl rfl ?_
  refine E_st rfl rfl rfl ?_
  refine E_st rfl rfl rfl ?_
  refine E_st rfl rfl rfl ?_
  refine fl_loop (gp := 0) (by decide) _ 600 1 _ rfl (fun j hj => show (if 0 ≤ j ∧ j < 601 then (0 : Int) else _) = 0 from if_pos ⟨Nat.zero_le _, hj⟩) ?_
  refine E_st rfl rfl rfl ?_
  refine E_st rfl rfl rfl ?_
  refine E_st rfl rfl rfl ?_
  refine E_st rfl rfl rfl ?_
  refine E_call rfl rfl ?_
  refine E_st rfl rfl rfl ?_
  refine E_st rfl rfl rfl ?_
  refine E_st rfl rfl rfl ?_
  refine E_st rfl rfl rfl ?_
  refine E_st rfl rfl rfl ?_
  refine E_st rfl rfl rfl ?_
  refine E_call rfl rfl ?_
  refine c_fill rfl rfl ?_
  refine E_st rfl rfl rfl ?_
  refine E_st rfl rfl rfl ?_
  refine E_st rfl rfl rfl ?_
  refine E_call rfl rfl ?_
  refine c_fill rfl rfl ?_
  refine E_st rfl rfl rfl ?_
  refine E_st rfl rfl rfl ?_
  refine E_st rfl rfl rfl ?_
  refine E_call rfl rfl ?_
  refine c_fill rfl rfl ?_
  refine E_ret rfl rfl ?_
  refine E_ret rfl rfl ?_
  refine E_st rfl rfl rfl ?_
  refine E_st rfl rfl rfl ?_
  refine E_st rfl rfl rfl ?_
  refine E_st rfl rfl rfl ?_
  refine E_st rfl rfl rfl ?_
  refine E_ret rfl rfl ?_
  refine E_st rfl rfl rfl ?_
  refine E_st rfl rfl rfl ?_
  refine E_ret rfl rfl ?_
  refine E_st rfl rfl rfl ?_
  refine E_st rfl rfl rfl ?_
  refine E_st rfl rfl rfl ?_
  refine E_st rfl rfl rfl ?_
  refine E_if_lt rfl (by decide) (fun _ => ?_) (fun _ => ?_)
  · refine E_st rfl rfl rfl ?_
    refine E_ret rfl rfl ?_
    refine E_st rfl rfl rfl ?_
    refine E_st rfl rfl rfl ?_
    refine E_st rfl rfl rfl ?_
    refine E_st rfl rfl rfl ?_
    refine E_st rfl rfl rfl ?_
    refine E_scr rfl rfl h1 ?_
    refine E_st rfl rfl rfl ?_
    refine E_st rfl rfl rfl ?_
    refine E_st rfl rfl rfl ?_
    refine E_st rfl rfl rfl ?_
    refine E_scr rfl rfl h2 ?_
    refine E_st rfl rfl rfl ?_
    refine E_st rfl rfl rfl ?_
    refine E_st rfl rfl rfl ?_
    refine E_st rfl rfl rfl ?_
    refine E_scr rfl rfl h3 ?_
    refine E_call rfl rfl ?_
    refine E_st rfl rfl rfl ?_
    refine E_call rfl rfl ?_
    refine E_st rfl rfl rfl ?_
    refine E_st rfl rfl rfl ?_
    refine E_st rfl rfl rfl ?_
    refine E_call rfl rfl ?_
    refine E_st rfl rfl rfl ?_
    refine E_st rfl rfl rfl ?_
    refine E_st rfl rfl rfl ?_
    refine E_st rfl rfl rfl ?_
    refine E_st rfl rfl rfl ?_
    refine E_st rfl rfl rfl ?_
    refine E_st rfl rfl rfl ?_
    refine E_st rfl rfl rfl ?_
    refine E_ret rfl rfl ?_
    refine E_ret rfl rfl ?_
    refine E_st rfl rfl rfl ?_
    refine E_st rfl rfl rfl ?_
    refine E_st rfl rfl rfl ?_
    refine E_call rfl rfl ?_
    refine E_st rfl rfl rfl ?_
    refine E_st rfl rfl rfl ?_
    refine mr_loop1 _ 601 0 _ rfl ?_
    refine E_st rfl rfl rfl ?_
    refine E_st rfl rfl rfl ?_
    refine E_st rfl rfl rfl ?_
    refine E_st rfl rfl rfl ?_
    refine E_st rfl rfl rfl ?_
    refine E_st rfl rfl rfl ?_
    refine E_st rfl rfl rfl ?_
    refine E_st rfl rfl rfl ?_
    refine E_st rfl rfl rfl ?_
    refine E_st rfl rfl rfl ?_
    refine E_st rfl rfl rfl ?_
    refine E_st rfl rfl rfl ?_
    refine E_st rfl rfl rfl ?_
    refine E_st rfl rfl rfl ?_
    refine E_st rfl rfl rfl ?_
    refine E_st rfl rfl rfl ?_
    refine E_st rfl rfl rfl ?_
    refine E_st rfl rfl rfl ?_
    refine E_st rfl rfl rfl ?_
    refine mr_loop3 _ 601 0 _ rfl (fun j hj => show (if 0 ≤ j ∧ j < 601 then (0 : Int) else _) = 0 from if_pos ⟨Nat.zero_le _, hj⟩) ?_
    refine E_st rfl rfl rfl ?_
    refine E_st rfl rfl rfl ?_
    refine E_st rfl rfl rfl ?_
    refine E_st rfl rfl rfl ?_
    refine E_st rfl rfl rfl ?_
    refine E_st rfl rfl rfl ?_
    refine E_st rfl rfl rfl ?_
    refine E_st rfl rfl rfl ?_
    refine E_st rfl rfl rfl ?_
    refine E_st rfl rfl rfl ?_
    refine E_st rfl rfl rfl ?_
    refine E_st rfl rfl rfl ?_
    refine E_st rfl rfl rfl ?_
    refine E_ret rfl rfl ?_
    refine E_st rfl rfl rfl ?_
    refine E_st rfl rfl rfl ?_
    refine E_ret rfl rfl ?_
    refine E_st rfl rfl rfl ?_
    refine E_st rfl rfl rfl ?_
    refine E_st rfl rfl rfl ?_
    refine E_st rfl rfl rfl ?_
    refine E_st rfl rfl rfl ?_
    refine E_st rfl rfl rfl ?_
    refine E_st rfl rfl rfl ?_
    refine E_st rfl rfl rfl ?_
    refine E_st rfl rfl rfl ?_
    refine E_st rfl rfl rfl ?_
    exact E_ret rfl rfl ⟨rfl, rfl⟩
  · refine E_st rfl rfl rfl ?_
    refine E_st rfl rfl rfl ?_
    refine E_st rfl rfl rfl ?_
    refine E_st rfl rfl rfl ?_
    refine E_icmp_lt (y := 0) rfl (by decide) (fun q => absurd q (by omega)) (fun _ => ?_)
    refine E_st rfl rfl rfl ?_
    refine E_ret rfl rfl ?_
    refine E_st rfl rfl rfl ?_
    refine E_st rfl rfl rfl ?_
    refine E_st rfl rfl rfl ?_
    refine E_st rfl rfl rfl ?_
    refine E_st rfl rfl rfl ?_
    refine E_scr rfl rfl h1 ?_
    refine E_st rfl rfl rfl ?_
    refine E_st rfl rfl rfl ?_
    refine E_st rfl rfl rfl ?_
    refine E_st rfl rfl rfl ?_
    refine E_scr rfl rfl h2 ?_
    refine E_st rfl rfl rfl ?_
    refine E_st rfl rfl rfl ?_
    refine E_st rfl rfl rfl ?_
    refine E_st rfl rfl rfl ?_
    refine E_scr rfl rfl h3 ?_
    refine E_call rfl rfl ?_
    refine E_st rfl rfl rfl ?_
    refine E_call rfl rfl ?_
    refine E_st rfl rfl rfl ?_
    refine E_st rfl rfl rfl ?_
    refine E_st rfl rfl rfl ?_
    refine E_call rfl rfl ?_
    refine E_st rfl rfl rfl ?_
    refine E_st rfl rfl rfl ?_
    refine E_st rfl rfl rfl ?_
    refine E_st rfl rfl rfl ?_
    refine E_st rfl rfl rfl ?_
    refine E_st rfl rfl rfl ?_
    refine E_st rfl rfl rfl ?_
    refine E_st rfl rfl rfl ?_
    refine E_ret rfl rfl ?_
    refine E_ret rfl rfl ?_
    refine E_st rfl rfl rfl ?_
    refine E_st rfl rfl rfl ?_
    refine E_st rfl rfl rfl ?_
    refine E_call rfl rfl ?_
    refine E_st rfl rfl rfl ?_
    refine E_st rfl rfl rfl ?_
    refine mr_loop1 _ 601 0 _ rfl ?_
    refine E_st rfl rfl rfl ?_
    refine E_st rfl rfl rfl ?_
    refine E_st rfl rfl rfl ?_
    refine E_st rfl rfl rfl ?_
    refine E_st rfl rfl rfl ?_
    refine E_st rfl rfl rfl ?_
    refine E_st rfl rfl rfl ?_
    refine E_st rfl rfl rfl ?_
    refine E_st rfl rfl rfl ?_
    refine E_st rfl rfl rfl ?_
    refine E_st rfl rfl rfl ?_
    refine E_st rfl rfl rfl ?_
    refine E_st rfl rfl rfl ?_
    refine E_st rfl rfl rfl ?_
    refine E_st rfl rfl rfl ?_
    refine E_st rfl rfl rfl ?_
    refine E_st rfl rfl rfl ?_
    refine E_st rfl rfl rfl ?_
    refine E_st rfl rfl rfl ?_
    refine mr_loop3 _ 601 0 _ rfl (fun j hj => show (if 0 ≤ j ∧ j < 601 then (0 : Int) else _) = 0 from if_pos ⟨Nat.zero_le _, hj⟩) ?_
    refine E_st rfl rfl rfl ?_
    refine E_st rfl rfl rfl ?_
    refine E_st rfl rfl rfl ?_
    refine E_st rfl rfl rfl ?_
    refine E_st rfl rfl rfl ?_
    refine E_st rfl rfl rfl ?_
    refine E_st rfl rfl rfl ?_
    refine E_st rfl rfl rfl ?_
    refine E_st rfl rfl rfl ?_
    refine E_st rfl rfl rfl ?_
    refine E_st rfl rfl rfl ?_
    refine E_st rfl rfl rfl ?_
    refine E_st rfl rfl rfl ?_
    refine E_ret rfl rfl ?_
    refine E_st rfl rfl rfl ?_
    refine E_st rfl rfl rfl ?_
    refine E_ret rfl rfl ?_
    refine E_st rfl rfl rfl ?_
    refine E_st rfl rfl rfl ?_
    refine E_st rfl rfl rfl ?_
    refine E_st rfl rfl rfl ?_
    refine E_st rfl rfl rfl ?_
    refine E_st rfl rfl rfl ?_
    refine E_st rfl rfl rfl ?_
    refine E_st rfl rfl rfl ?_
    refine E_st rfl rfl rfl ?_
    refine E_st rfl rfl rfl ?_
    exact E_ret rfl rfl ⟨rfl, rfl⟩
set_option maxRecDepth 100000 in
set_option maxHeartbeats 40000000 in
theorem pc_12_2 (xs : Nat → Int) {z a2 a3 a4 a5 : Int} (hz : b32 (fun a b => a &&& b) z 31 = 12) (h0 : xs 0 = z) (h1 : xs 1 = 2) (h2 : xs 2 = a2) (h3 : xs 3 = a3) (h4 : xs 4 = a4) (h5 : xs 5 = a5) : E 0 18 LL [] (s0 xs 6) PQ := by
  refine E_st rfl rfl rfl ?_
  refine E_st rfl rfl rfl ?_
  refine E_st rfl rfl rfl ?_
  refine E_st rfl rfl rfl ?_
  refine E_st rfl rfl rfl ?_
  refine E_st rfl rfl rfl ?_
  refine E_st rfl rfl rfl ?_
  refine E_st rfl rfl rfl ?_
  refine E_scr rfl rfl h0 ?_
  refine E_st rfl rfl rfl ?_
  refine E_st rfl rfl rfl ?_
  refine E_val hz ?_
  refine E_st rfl rfl rfl ?_
  refine E_st rfl rfl rfl ?_
  refine E_st rfl rfl rfl ?_
  refine E_st rfl rfl rfl ?_
  refine E_st rfl rfl rfl ?_
  refine E_st rfl rfl rfl ?_
  refine E_scr rfl rfl h1 ?_
  refine E_st rfl rfl rfl ?_
  refine E_st rfl rfl rfl ?_
  refine E_st rfl rfl rfl ?_
  refine E_st rfl rfl rfl ?_
  refine E_scr rfl rfl h2 ?_
  refine E_st rfl rfl rfl ?_
  refine E_st rfl rfl rfl ?_
  refine E_st rfl rfl rfl ?_
  refine E_st rfl rfl rfl ?_
  refine E_scr rfl rfl h3 ?_
  refine E_call rfl rfl ?_
  refine E_st rfl rfl rfl ?_
  refine E_st rfl rfl rfl ?_
  refine E_call rfl rfl ?_
  refine E_st rfl rfl rfl ?_
  refine E_st rfl rfl rfl ?_
  refine E_call rfl rfl ?_
  refine E_st rfl rfl rfl ?_
  refine E_st rfl rfl rfl ?_
  refine E_st rfl rfl rfl ?_
  refine E_st rfl rfl rfl ?_
  refine E_st rfl rfl rfl ?_
  refine E_st rfl rfl rfl ?_
  refine E_st rfl rfl rfl ?_
  refine E_st rfl rfl rfl ?_
  refine E_st rfl rfl rfl ?_
  refine E_st rfl rfl rfl ?_
  refine E_ret rfl rfl ?_
  refine E_st rfl rfl rfl ?_
  refine E_st rfl rfl rfl ?_
  refine E_st rfl rfl rfl ?_
  refine E_st rfl rfl rfl ?_
  refine E_call rfl rfl ?_
  refine E_st rfl rfl rfl ?_
  refine E_st rfl rfl rfl ?_
  refine E_st rfl rfl rfl ?_
  refine E_st rfl rfl rfl ?_
  refine E_st rfl rfl rfl ?_
  refine E_st rfl rfl rfl ?_
  refine E_st rfl rfl rfl ?_
  refine E_st rfl rfl rfl ?_
  refine E_st rfl rfl rfl ?_
  refine E_call rfl rfl ?_
  refine E_st rfl rfl rfl ?_
  refine E_st rfl rfl rfl ?_
  refine E_call rfl rfl ?_
  refine E_st rfl rfl rfl ?_
  refine E_st rfl rfl rfl ?_
  refine E_st rfl rfl rfl ?_
  refine E_call rfl rfl ?_
  refine c_fill rfl rfl ?_
  refine E_st rfl rfl rfl ?_
  refine E_st rfl rfl rfl ?_
  refine E_st rfl rfl rfl ?_
  refine E_call rfl rfl ?_
  refine c_fill rfl rfl ?_
  refine E_st rfl rfl rfl ?_
  refine E_st rfl rfl rfl ?_
  refine E_st rfl rfl rfl ?_
  refine E_st rfl rfl rfl ?_
  refine E_st rfl rfl rfl ?_
  refine E_st rfl rfl rfl ?_
  refine E_st rfl rfl rfl ?_
  refine E_st rfl rfl rfl ?_
  refine E_st rfl rfl rfl ?_
  refine E_st rfl rfl rfl ?_
  refine E_st rfl rfl rfl ?_
  refine E_st rfl rfl rfl ?_
  refine E_ret rfl rfl ?_
  refine E_st rfl rfl rfl ?_
  refine E_st rfl rfl rfl ?_
  refine E_call rfl rfl ?_
  refine E_st rfl rfl rfl ?_
  refine E_st rfl rfl rfl ?_
  refine E_st rfl rfl rfl ?_
  refine E_st rfl rfl rfl ?_
  refine E_st rfl rfl rfl ?_
  refine fl_loop (gp := 0) (by decide) _ 600 1 _ rfl (fun j hj => show (if 0 ≤ j ∧ j < 601 then (0 : Int) else _) = 0 from if_pos ⟨Nat.zero_le _, hj⟩) ?_
  refine E_st rfl rfl rfl ?_
  refine E_st rfl rfl rfl ?_
  refine E_st rfl rfl rfl ?_
  refine E_st rfl rfl rfl ?_
  refine E_call rfl rfl ?_
  refine E_st rfl rfl rfl ?_
  refine E_st rfl rfl rfl ?_
  refine E_st rfl rfl rfl ?_
  refine E_st rfl rfl rfl ?_
  refine E_st rfl rfl rfl ?_
  refine E_st rfl rfl rfl ?_
  refine E_call rfl rfl ?_
  refine c_fill rfl rfl ?_
  refine E_st rfl rfl rfl ?_
  refine E_st rfl rfl rfl ?_
  refine E_st rfl rfl rfl ?_
  refine E_call rfl rfl ?_
  refine c_fill rfl rfl ?_
  refine E_st rfl rfl rfl ?_
  refine E_st rfl rfl rfl ?_
  refine E_st rfl rfl rfl ?_
  refine E_call rfl rfl ?_
  refine c_fill rfl rfl ?_
  refine E_ret rfl rfl ?_
  refine E_ret rfl rfl ?_
  refine E_st rfl rfl rfl ?_
  refine E_st rfl rfl rfl ?_
  refine E_st rfl rfl rfl ?_
  refine E_st rfl rfl rfl ?_
  refine E_st rfl rfl rfl ?_
  refine E_ret rfl rfl ?_
  refine E_st rfl rfl rfl ?_
  refine E_st rfl rfl rfl ?_
  refine E_ret rfl rfl ?_
  refine E_st rfl rfl rfl ?_
  refine E_st rfl rfl rfl ?_
  refine E_st rfl rfl rfl ?_
  refine E_st rfl rfl rfl ?_
  refine E_if_lt rfl (by decide) (fun _ => ?_) (fun _ => ?_)
  · refine E_st rfl rfl rfl ?_
    refine E_ret rfl rfl ?_
    refine E_st rfl rfl rfl ?_
    refine E_st rfl rfl rfl ?_
    refine E_st rfl rfl rfl ?_
    refine E_st rfl rfl rfl ?_
    refine E_st rfl rfl rfl ?_
    refine E_scr rfl rfl h1 ?_
    refine E_st rfl rfl rfl ?_
    refine E_st rfl rfl rfl ?_
    refine E_st rfl rfl rfl ?_
    refine E_st rfl rfl rfl ?_
    refine E_scr rfl rfl h2 ?_
    refine E_st rfl rfl rfl ?_
    refine E_st rfl rfl rfl ?_
    refine E_st rfl rfl rfl ?_
    refine E_st rfl rfl rfl ?_
    refine E_scr rfl rfl h3 ?_
    refine E_call rfl rfl ?_
    refine E_st rfl rfl rfl ?_
    refine E_call rfl rfl ?_
    refine E_st rfl rfl rfl ?_
    refine E_st rfl rfl rfl ?_
    refine E_st rfl rfl rfl ?_
    refine E_call rfl rfl ?_
    refine E_st rfl rfl rfl ?_
    refine E_st rfl rfl rfl ?_
    refine E_st rfl rfl rfl ?_
    refine E_st rfl rfl rfl ?_
    refine E_st rfl rfl rfl ?_
    refine E_st rfl rfl rfl ?_
    refine E_st rfl rfl rfl ?_
    refine E_st rfl rfl rfl ?_
    refine E_ret rfl rfl ?_
    refine E_ret rfl rfl ?_
    refine E_st rfl rfl rfl ?_
    refine E_st rfl rfl rfl ?_
    refine E_st rfl rfl rfl ?_
    refine E_call rfl rfl ?_
    refine E_st rfl rfl rfl ?_
    refine E_st rfl rfl rfl ?_
    refine mr_loop1 _ 601 0 _ rfl ?_
    refine E_st rfl rfl rfl ?_
    refine E_st rfl rfl rfl ?_
    refine E_st rfl rfl rfl ?_
    refine E_st rfl rfl rfl ?_
    refine E_st rfl rfl rfl ?_
    refine E_st rfl rfl rfl ?_
    refine E_st rfl rfl rfl ?_
    refine E_st rfl rfl rfl ?_
    refine E_st rfl rfl rfl ?_
    refine E_st rfl rfl rfl ?_
    refine E_st rfl rfl rfl ?_
    refine E_st rfl rfl rfl ?_
    refine E_st rfl rfl rfl ?_
    refine E_st rfl rfl rfl ?_
    refine E_st rfl rfl rfl ?_
    refine E_st rfl rfl rfl ?_
    refine E_st rfl rfl rfl ?_
    refine E_st rfl rfl rfl ?_
    refine E_st rfl rfl rfl ?_
    refine mr_loop3 _ 601 0 _ rfl (fun j hj => show (if 0 ≤ j ∧ j < 601 then (0 : Int) else _) = 0 from if_pos ⟨Nat.zero_le _, hj⟩) ?_
    refine E_st rfl rfl rfl ?_
    refine E_st rfl rfl rfl ?_
    refine E_st rfl rfl rfl ?_
    refine E_st rfl rfl rfl ?_
    refine E_st rfl rfl rfl ?_
    refine E_st rfl rfl rfl ?_
    refine E_st rfl rfl rfl ?_
    refine E_st rfl rfl rfl ?_
    refine E_st rfl rfl rfl ?_
    refine E_st rfl rfl rfl ?_
    refine E_st rfl rfl rfl ?_
    refine E_st rfl rfl rfl ?_
    refine E_st rfl rfl rfl ?_
    refine E_ret rfl rfl ?_
    refine E_st rfl rfl rfl ?_
    refine E_st rfl rfl rfl ?_
    refine E_ret rfl rfl ?_
    refine E_st rfl rfl rfl ?_
    refine E_st rfl rfl rfl ?_
    refine E_st rfl rfl rfl ?_
    refine E_st rfl rfl rfl ?_
    refine E_st rfl rfl rfl ?_
    refine E_st rfl rfl rfl ?_
    refine E_st rfl rfl rfl ?_
    refine E_st rfl rfl rfl ?_
    refine E_st rfl rfl rfl ?_
    refine E_st rfl rfl rfl ?_
    exact E_ret rfl rfl ⟨rfl, rfl⟩
  · refine E_st rfl rfl rfl ?_
    refine E_st rfl rfl rfl ?_
    refine E_st rfl rfl rfl ?_
    refine E_st rfl rfl rfl ?_
    refine E_icmp_lt (y := 0) rfl (by decide) (fun q => absurd q (by omega)) (fun _ => ?_)
    refine E_st rfl rfl rfl ?_
    refine E_ret rfl rfl ?_
    refine E_st rfl rfl rfl ?_
    refine E_st rfl rfl rfl ?_
    refine E_st rfl rfl rfl ?_
    refine E_st rfl rfl rfl ?_
    refine E_st rfl rfl rfl ?_
    refine E_scr rfl rfl h1 ?_
    refine E_st rfl rfl rfl ?_
    refine E_st rfl rfl rfl ?_
    refine E_st rfl rfl rfl ?_
    refine E_st rfl rfl rfl ?_
    refine E_scr rfl rfl h2 ?_
    refine E_st rfl rfl rfl ?_
    refine E_st rfl rfl rfl ?_
    refine E_st rfl rfl rfl ?_
    refine E_st rfl rfl rfl ?_
    refine E_scr rfl rfl h3 ?_
    refine E_call rfl rfl ?_
    refine E_st rfl rfl rfl ?_
    refine E_call rfl rfl ?_
    refine E_st rfl rfl rfl ?_
    refine E_st rfl rfl rfl ?_
    refine E_st rfl rfl rfl ?_
    refine E_call rfl rfl ?_
    refine E_st rfl rfl rfl ?_
    refine E_st rfl rfl rfl ?_
    refine E_st rfl rfl rfl ?_
    refine E_st rfl rfl rfl ?_
    refine E_st rfl rfl rfl ?_
    refine E_st rfl rfl rfl ?_
    refine E_st rfl rfl rfl ?_
    refine E_st rfl rfl rfl ?_
    refine E_ret rfl rfl ?_
    refine E_ret rfl rfl ?_
    refine E_st rfl rfl rfl ?_
    refine E_st rfl rfl rfl ?_
    refine E_st rfl rfl rfl ?_
    refine E_call rfl rfl ?_
    refine E_st rfl rfl rfl ?_
    refine E_st rfl rfl rfl ?_
    refine mr_loop1 _ 601 0 _ rfl ?_
    refine E_st rfl rfl rfl ?_
    refine E_st rfl rfl rfl ?_
    refine E_st rfl rfl rfl ?_
    refine E_st rfl rfl rfl ?_
    refine E_st rfl rfl rfl ?_
    refine E_st rfl rfl rfl ?_
    refine E_st rfl rfl rfl ?_
    refine E_st rfl rfl rfl ?_
    refine E_st rfl rfl rfl ?_
    refine E_st rfl rfl rfl ?_
    refine E_st rfl rfl rfl ?_
    refine E_st rfl rfl rfl ?_
    refine E_st rfl rfl rfl ?_
    refine E_st rfl rfl rfl ?_
    refine E_st rfl rfl rfl ?_
    refine E_st rfl rfl rfl ?_
    refine E_st rfl rfl rfl ?_
    refine E_st rfl rfl rfl ?_
    refine E_st rfl rfl rfl ?_
    refine mr_loop3 _ 601 0 _ rfl (fun j hj => show (if 0 ≤ j ∧ j < 601 then (0 : Int) else _) = 0 from if_pos ⟨Nat.zero_le _, hj⟩) ?_
    refine E_st rfl rfl rfl ?_
    refine E_st rfl rfl rfl ?_
    refine E_st rfl rfl rfl ?_
    refine E_st rfl rfl rfl ?_
    refine E_st rfl rfl rfl ?_
    refine E_st rfl rfl rfl ?_
    refine E_st rfl rfl rfl ?_
    refine E_st rfl rfl rfl ?_
    refine E_st rfl rfl rfl ?_
    refine E_st rfl rfl rfl ?_
    refine E_st rfl rfl rfl ?_
    refine E_st rfl rfl rfl ?_
    refine E_st rfl rfl rfl ?_
    refine E_ret rfl rfl ?_
    refine E_st rfl rfl rfl ?_
    refine E_st rfl rfl rfl ?_
    refine E_ret rfl rfl ?_
    refine E_st rfl rfl rfl ?_
    refine E_st rfl rfl rfl ?_
    refine E_st rfl rfl rfl ?_
    refine E_st rfl rfl rfl ?_
    refine E_st rfl rfl rfl ?_
    refine E_st rfl rfl rfl ?_
    refine E_st rfl rfl rfl ?_
    refine E_st rfl rfl rfl ?_
    refine E_st rfl rfl rfl ?_
    refine E_st rfl rfl rfl ?_
    exact E_ret rfl rfl ⟨rfl, rfl⟩
set_option maxRecDepth 100000 in
set_option maxHeartbeats 40000000 in
theorem pc_12_3 (xs : Nat → Int) {z a2 a3 a4 a5 : Int} (hz : b32 (fun a b => a &&& b) z 31 = 12) (h0 : xs 0 = z) (h1 : xs 1 = 3) (h2 : xs 2 = a2) (h3 : xs 3 = a3) (h4 : xs 4 = a4) (h5 : xs 5 = a5) : E 0 18 LL [] (s0 xs 6) PQ := by
  refine E_st rfl rfl rfl ?_
  refine E_st rfl rfl rfl ?_
  refine E_st rfl rfl rfl ?_
  refine E_st rfl rfl rfl ?_
  refine E_st rfl rfl rfl ?_
  refine E_st rfl rfl rfl ?_
  refine E_st rfl rfl rfl ?_
  refine E_st rfl rfl rfl ?_
  refine E_scr rfl rfl h0 ?_
  refine E_st rfl rfl rfl ?_
  refine E_st rfl rfl rfl ?_
  refine E_val hz ?_
  refine E_st rfl rfl rfl ?_
  refine E_st rfl rfl rfl ?_
  refine E_st rfl rfl rfl ?_
  refine E_st rfl rfl rfl ?_
  refine E_st rfl rfl rfl ?_
  refine E_st rfl rfl rfl ?_
  refine E_scr rfl rfl h1 ?_
  refine E_st rfl rfl rfl ?_
  refine E_st rfl rfl rfl ?_
  refine E_st rfl rfl rfl ?_
  refine E_st rfl rfl rfl ?_
  refine E_scr rfl rfl h2 ?_
  refine E_st rfl rfl rfl ?_
  refine E_st rfl rfl rfl ?_
  refine E_st rfl rfl rfl ?_
  refine E_st rfl rfl rfl ?_
  refine E_scr rfl rfl h3 ?_
  refine E_call rfl rfl ?_
  refine E_st rfl rfl rfl ?_
  refine E_st rfl rfl rfl ?_
  refine E_call rfl rfl ?_
  refine E_st rfl rfl rfl ?_
  refine E_st rfl rfl rfl ?_
  refine E_call rfl rfl ?_
  refine E_st rfl rfl rfl ?_
  refine E_st rfl rfl rfl ?_
  refine E_st rfl rfl rfl ?_
  refine E_st rfl rfl rfl ?_
  refine E_st rfl rfl rfl ?_
  refine E_st rfl rfl rfl ?_
  refine E_st rfl rfl rfl ?_
  refine E_st rfl rfl rfl ?_
  refine E_st rfl rfl rfl ?_
  refine E_st rfl rfl rfl ?_
  refine E_ret rfl rfl ?_
  refine E_st rfl rfl rfl ?_
  refine E_st rfl rfl rfl ?_
  refine E_st rfl rfl rfl ?_
  refine E_st rfl rfl rfl ?_
  refine E_call rfl rfl ?_
  refine E_st rfl rfl rfl ?_
  refine E_st rfl rfl rfl ?_
  refine E_st rfl rfl rfl ?_
  refine E_st rfl rfl rfl ?_
  refine E_st rfl rfl rfl ?_
  refine E_st rfl rfl rfl ?_
  refine E_st rfl rfl rfl ?_
  refine E_st rfl rfl rfl ?_
  refine E_st rfl rfl rfl ?_
  refine E_call rfl rfl ?_
  refine E_st rfl rfl rfl ?_
  refine E_st rfl rfl rfl ?_
  refine E_call rfl rfl ?_
  refine E_st rfl rfl rfl ?_
  refine E_st rfl rfl rfl ?_
  refine E_st rfl rfl rfl ?_
  refine E_call rfl rfl ?_
  refine c_fill rfl rfl ?_
  refine E_st rfl rfl rfl ?_
  refine E_st rfl rfl rfl ?_
  refine E_st rfl rfl rfl ?_
  refine E_call rfl rfl ?_
  refine c_fill rfl rfl ?_
  refine E_st rfl rfl rfl ?_
  refine E_st rfl rfl rfl ?_
  refine E_st rfl rfl rfl ?_
  refine E_st rfl rfl rfl ?_
  refine E_st rfl rfl rfl ?_
  refine E_st rfl rfl rfl ?_
  refine E_st rfl rfl rfl ?_
  refine E_st rfl rfl rfl ?_
  refine E_st rfl rfl rfl ?_
  refine E_st rfl rfl rfl ?_
  refine E_st rfl rfl rfl ?_
  refine E_st rfl rfl rfl ?_
  refine E_ret rfl rfl ?_
  refine E_st rfl rfl rfl ?_
  refine E_st rfl rfl rfl ?_
  refine E_call rfl rfl ?_
  refine E_st rfl rfl rfl ?_
  refine E_st rfl rfl rfl ?_
  refine E_st rfl rfl rfl ?_
  refine E_st rfl rfl rfl ?_
  refine E_st rfl rfl rfl ?_
  refine fl_loop (gp := 0) (by decide) _ 600 1 _ rfl (fun j hj => show (if 0 ≤ j ∧ j < 601 then (0 : Int) else _) = 0 from if_pos ⟨Nat.zero_le _, hj⟩) ?_
  refine E_st rfl rfl rfl ?_
  refine E_st rfl rfl rfl ?_
  refine E_st rfl rfl rfl ?_
  refine E_st rfl rfl rfl ?_
  refine E_call rfl rfl ?_
  refine E_st rfl rfl rfl ?_
  refine E_st rfl rfl rfl ?_
  refine E_st rfl rfl rfl ?_
  refine E_st rfl rfl rfl ?_
  refine E_st rfl rfl rfl ?_
  refine E_st rfl rfl rfl ?_
  refine E_call rfl rfl ?_
  refine c_fill rfl rfl ?_
  refine E_st rfl rfl rfl ?_
  refine E_st rfl rfl rfl ?_
  refine E_st rfl rfl rfl ?_
  refine E_call rfl rfl ?_
  refine c_fill rfl rfl ?_
  refine E_st rfl rfl rfl ?_
  refine E_st rfl rfl rfl ?_
  refine E_st rfl rfl rfl ?_
  refine E_call rfl rfl ?_
  refine c_fill rfl rfl ?_
  refine E_ret rfl rfl ?_
  refine E_ret rfl rfl ?_
  refine E_st rfl rfl rfl ?_
  refine E_st rfl rfl rfl ?_
  refine E_st rfl rfl rfl ?_
  refine E_st rfl rfl rfl ?_
  refine E_st rfl rfl rfl ?_
  refine E_ret rfl rfl ?_
  refine E_st rfl rfl rfl ?_
  refine E_st rfl rfl rfl ?_
  refine E_ret rfl rfl ?_
  refine E_st rfl rfl rfl ?_
  refine E_st rfl rfl rfl ?_
  refine E_st rfl rfl rfl ?_
  refine E_st rfl rfl rfl ?_
  refine E_if_lt rfl (by decide) (fun _ => ?_) (fun _ => ?_)
  · refine E_st rfl rfl rfl ?_
    refine E_ret rfl rfl ?_
    refine E_st rfl rfl rfl ?_
    refine E_st rfl rfl rfl ?_
    refine E_st rfl rfl rfl ?_
    refine E_st rfl rfl rfl ?_
    refine E_st rfl rfl rfl ?_
    refine E_scr rfl rfl h1 ?_
    refine E_st rfl rfl rfl ?_
    refine E_st rfl rfl rfl ?_
    refine E_st rfl rfl rfl ?_
    refine E_st rfl rfl rfl ?_
    refine E_scr rfl rfl h2 ?_
    refine E_st rfl rfl rfl ?_
    refine E_st rfl rfl rfl ?_
    refine E_st rfl rfl rfl ?_
    refine E_st rfl rfl rfl ?_
    refine E_scr rfl rfl h3 ?_
    refine E_call rfl rfl ?_
    refine E_st rfl rfl rfl ?_
    refine E_call rfl rfl ?_
    refine E_st rfl rfl rfl ?_
    refine E_st rfl rfl rfl ?_
    refine E_st rfl rfl rfl ?_
    refine E_call rfl rfl ?_
    refine E_st rfl rfl rfl ?_
    refine E_st rfl rfl rfl ?_
    refine E_st rfl rfl rfl ?_
    refine E_st rfl rfl rfl ?_
    refine E_st rfl rfl rfl ?_
    refine E_st rfl rfl rfl ?_
    refine E_st rfl rfl rfl ?_
    refine E_st rfl rfl rfl ?_
    refine E_ret rfl rfl ?_
    refine E_ret rfl rfl ?_
    refine E_st rfl rfl rfl ?_
    refine E_st rfl rfl rfl ?_
    refine E_st rfl rfl rfl ?_
    refine E_call rfl rfl ?_
    refine E_st rfl rfl rfl ?_
    refine E_st rfl rfl rfl ?_
    refine mr_loop1 _ 601 0 _ rfl ?_
    refine E_st rfl rfl rfl ?_
    refine E_st rfl rfl rfl ?_
    refine E_st rfl rfl rfl ?_
    refine E_st rfl rfl rfl ?_
    refine E_st rfl rfl rfl ?_
    refine E_st rfl rfl rfl ?_
    refine E_st rfl rfl rfl ?_
    refine E_st rfl rfl rfl ?_
    refine E_st rfl rfl rfl ?_
    refine E_st rfl rfl rfl ?_
    refine E_st rfl rfl rfl ?_
    refine E_st rfl rfl rfl ?_
    refine E_st rfl rfl rfl ?_
    refine E_st rfl rfl rfl ?_
    refine E_st rfl rfl rfl ?_
    refine E_st rfl rfl rfl ?_
    refine E_st rfl rfl rfl ?_
    refine E_st rfl rfl rfl ?_
    refine E_st rfl rfl rfl ?_
    refine mr_loop3 _ 601 0 _ rfl (fun j hj => show (if 0 ≤ j ∧ j < 601 then (0 : Int) else _) = 0 from if_pos ⟨Nat.zero_le _, hj⟩) ?_
    refine E_st rfl rfl rfl ?_
    refine E_st rfl rfl rfl ?_
    refine E_st rfl rfl rfl ?_
    refine E_st rfl rfl rfl ?_
    refine E_st rfl rfl rfl ?_
    refine E_st rfl rfl rfl ?_
    refine E_st rfl rfl rfl ?_
    refine E_st rfl rfl rfl ?_
    refine E_st rfl rfl rfl ?_
    refine E_st rfl rfl rfl ?_
    refine E_st rfl rfl rfl ?_
    refine E_st rfl rfl rfl ?_
    refine E_st rfl rfl rfl ?_
    refine E_ret rfl rfl ?_
    refine E_st rfl rfl rfl ?_
    refine E_st rfl rfl rfl ?_
    refine E_ret rfl rfl ?_
    refine E_st rfl rfl rfl ?_
    refine E_st rfl rfl rfl ?_
    refine E_st rfl rfl rfl ?_
    refine E_st rfl rfl rfl ?_
    refine E_st rfl rfl rfl ?_
    refine E_st rfl rfl rfl ?_
    refine E_st rfl rfl rfl ?_
    refine E_st rfl rfl rfl ?_
    refine E_st rfl rfl rfl ?_
    refine E_st rfl rfl rfl ?_
    exact E_ret rfl rfl ⟨rfl, rfl⟩
  · refine E_st rfl rfl rfl ?_
    refine E_st rfl rfl rfl ?_
    refine E_st rfl rfl rfl ?_
    refine E_st rfl rfl rfl ?_
    refine E_icmp_lt (y := 0) rfl (by decide) (fun q => absurd q (by omega)) (fun _ => ?_)
    refine E_st rfl rfl rfl ?_
    refine E_ret rfl rfl ?_
    refine E_st rfl rfl rfl ?_
    refine E_st rfl rfl rfl ?_
    refine E_st rfl rfl rfl ?_
    refine E_st rfl rfl rfl ?_
    refine E_st rfl rfl rfl ?_
    refine E_scr rfl rfl h1 ?_
    refine E_st rfl rfl rfl ?_
    refine E_st rfl rfl rfl ?_
    refine E_st rfl rfl rfl ?_
    refine E_st rfl rfl rfl ?_
    refine E_scr rfl rfl h2 ?_
    refine E_st rfl rfl rfl ?_
    refine E_st rfl rfl rfl ?_
    refine E_st rfl rfl rfl ?_
    refine E_st rfl rfl rfl ?_
    refine E_scr rfl rfl h3 ?_
    refine E_call rfl rfl ?_
    refine E_st rfl rfl rfl ?_
    refine E_call rfl rfl ?_
    refine E_st rfl rfl rfl ?_
    refine E_st rfl rfl rfl ?_
    refine E_st rfl rfl rfl ?_
    refine E_call rfl rfl ?_
    refine E_st rfl rfl rfl ?_
    refine E_st rfl rfl rfl ?_
    refine E_st rfl rfl rfl ?_
    refine E_st rfl rfl rfl ?_
    refine E_st rfl rfl rfl ?_
    refine E_st rfl rfl rfl ?_
    refine E_st rfl rfl rfl ?_
    refine E_st rfl rfl rfl ?_
    refine E_ret rfl rfl ?_
    refine E_ret rfl rfl ?_
    refine E_st rfl rfl rfl ?_
    refine E_st rfl rfl rfl ?_
    refine E_st rfl rfl rfl ?_
    refine E_call rfl rfl ?_
    refine E_st rfl rfl rfl ?_
    refine E_st rfl rfl rfl ?_
    refine mr_loop1 _ 601 0 _ rfl ?_
    refine E_st rfl rfl rfl ?_
    refine E_st rfl rfl rfl ?_
    refine E_st rfl rfl rfl ?_
    refine E_st rfl rfl rfl ?_
    refine E_st rfl rfl rfl ?_
    refine E_st rfl rfl rfl ?_
    refine E_st rfl rfl rfl ?_
    refine E_st rfl rfl rfl ?_
    refine E_st rfl rfl rfl ?_
    refine E_st rfl rfl rfl ?_
    refine E_st rfl rfl rfl ?_
    refine E_st rfl rfl rfl ?_
    refine E_st rfl rfl rfl ?_
    refine E_st rfl rfl rfl ?_
    refine E_st rfl rfl rfl ?_
    refine E_st rfl rfl rfl ?_
    refine E_st rfl rfl rfl ?_
    refine E_st rfl rfl rfl ?_
    refine E_st rfl rfl rfl ?_
    refine mr_loop3 _ 601 0 _ rfl (fun j hj => show (if 0 ≤ j ∧ j < 601 then (0 : Int) else _) = 0 from if_pos ⟨Nat.zero_le _, hj⟩) ?_
    refine E_st rfl rfl rfl ?_
    refine E_st rfl rfl rfl ?_
    refine E_st rfl rfl rfl ?_
    refine E_st rfl rfl rfl ?_
    refine E_st rfl rfl rfl ?_
    refine E_st rfl rfl rfl ?_
    refine E_st rfl rfl rfl ?_
    refine E_st rfl rfl rfl ?_
    refine E_st rfl rfl rfl ?_
    refine E_st rfl rfl rfl ?_
    refine E_st rfl rfl rfl ?_
    refine E_st rfl rfl rfl ?_
    refine E_st rfl rfl rfl ?_
    refine E_ret rfl rfl ?_
    refine E_st rfl rfl rfl ?_
    refine E_st rfl rfl rfl ?_
    refine E_ret rfl rfl ?_
    refine E_st rfl rfl rfl ?_
    refine E_st rfl rfl rfl ?_
    refine E_st rfl rfl rfl ?_
    refine E_st rfl rfl rfl ?_
    refine E_st rfl rfl rfl ?_
    refine E_st rfl rfl rfl ?_
    refine E_st rfl rfl rfl ?_
    refine E_st rfl rfl rfl ?_
    refine E_st rfl rfl rfl ?_
    refine E_st rfl rfl rfl ?_
    exact E_ret rfl rfl ⟨rfl, rfl⟩
set_option maxRecDepth 100000 in
set_option maxHeartbeats 40000000 in
theorem pc_12_o (xs : Nat → Int) {z a1 a2 a3 a4 a5 : Int} (hz : b32 (fun a b => a &&& b) z 31 = 12) (h0 : xs 0 = z) (h1 : xs 1 = a1) (h2 : xs 2 = a2) (h3 : xs 3 = a3) (h4 : xs 4 = a4) (h5 : xs 5 = a5) (hr : a1 < 0 ∨ 3 < a1) : E 0 18 LL [] (s0 xs 6) PQ := by
  refine E_st rfl rfl rfl ?_
  refine E_st rfl rfl rfl ?_
  refine E_st rfl rfl rfl ?_
  refine E_st rfl rfl rfl ?_
  refine E_st rfl rfl rfl ?_
  refine E_st rfl rfl rfl ?_
  refine E_st rfl rfl rfl ?_
  refine E_st rfl rfl rfl ?_
  refine E_scr rfl rfl h0 ?_
  refine E_st rfl rfl rfl ?_
  refine E_st rfl rfl rfl ?_
  refine E_val hz ?_
  refine E_st rfl rfl rfl ?_
  refine E_st rfl rfl rfl ?_
  refine E_st rfl rfl rfl ?_
  refine E_st rfl rfl rfl ?_
  refine E_st rfl rfl rfl ?_
  refine E_st rfl rfl rfl ?_
  refine E_scr rfl rfl h1 ?_
  refine E_st rfl rfl rfl ?_
  refine E_st rfl rfl rfl ?_
  refine E_st rfl rfl rfl ?_
  refine E_st rfl rfl rfl ?_
  refine E_scr rfl rfl h2 ?_
  refine E_st rfl rfl rfl ?_
  refine E_st rfl rfl rfl ?_
  refine E_st rfl rfl rfl ?_
  refine E_st rfl rfl rfl ?_
  refine E_scr rfl rfl h3 ?_
  refine E_call rfl rfl ?_
  refine E_st rfl rfl rfl ?_
  refine E_st rfl rfl rfl ?_
  refine E_call rfl rfl ?_
  refine E_st rfl rfl rfl ?_
  refine E_st rfl rfl rfl ?_
  refine E_call rfl rfl ?_
  refine E_st rfl rfl rfl ?_
  refine E_if_lt rfl (by decide) (fun _ => ?_) (fun _ => ?_)
  · refine E_st rfl rfl rfl ?_
    refine E_ret rfl rfl ?_
    refine E_st rfl rfl rfl ?_
    refine E_st rfl rfl rfl ?_
    refine E_st rfl rfl rfl ?_
    refine E_st rfl rfl rfl ?_
    refine E_ret rfl rfl ?_
    refine E_st rfl rfl rfl ?_
    refine E_st rfl rfl rfl ?_
    refine E_st rfl rfl rfl ?_
    refine E_st rfl rfl rfl ?_
    refine E_ret rfl rfl ?_
    refine E_st rfl rfl rfl ?_
    refine E_st rfl rfl rfl ?_
    refine E_st rfl rfl rfl ?_
    refine E_st rfl rfl rfl ?_
    refine E_st rfl rfl rfl ?_
    refine E_scr rfl rfl h1 ?_
    refine E_st rfl rfl rfl ?_
    refine E_st rfl rfl rfl ?_
    refine E_st rfl rfl rfl ?_
    refine E_st rfl rfl rfl ?_
    refine E_scr rfl rfl h2 ?_
    refine E_st rfl rfl rfl ?_
    refine E_st rfl rfl rfl ?_
    refine E_st rfl rfl rfl ?_
    refine E_st rfl rfl rfl ?_
    refine E_scr rfl rfl h3 ?_
    refine E_call rfl rfl ?_
    refine E_st rfl rfl rfl ?_
    refine E_call rfl rfl ?_
    refine E_st rfl rfl rfl ?_
    refine E_st rfl rfl rfl ?_
    refine E_st rfl rfl rfl ?_
    refine E_call rfl rfl ?_
    refine E_st rfl rfl rfl ?_
    refine E_st rfl rfl rfl ?_
    refine E_icmp_lt (y := 0) rfl (by decide) (fun _ => ?_) (fun q => absurd q (by omega))
    refine E_st rfl rfl rfl ?_
    refine E_ret rfl rfl ?_
    refine E_ret rfl rfl ?_
    refine E_st rfl rfl rfl ?_
    refine E_st rfl rfl rfl ?_
    refine E_ret rfl rfl ?_
    refine E_st rfl rfl rfl ?_
    refine E_st rfl rfl rfl ?_
    refine E_st rfl rfl rfl ?_
    refine E_st rfl rfl rfl ?_
    refine E_st rfl rfl rfl ?_
    refine E_st rfl rfl rfl ?_
    refine E_st rfl rfl rfl ?_
    refine E_st rfl rfl rfl ?_
    refine E_st rfl rfl rfl ?_
    refine E_st rfl rfl rfl ?_
    exact E_ret rfl rfl ⟨rfl, rfl⟩
  · refine E_st rfl rfl rfl ?_
    refine E_st rfl rfl rfl ?_
    refine E_icmp_ge (y := 4) rfl (by decide) (fun _ => ?_) (fun q => absurd q (by omega))
    refine E_st rfl rfl rfl ?_
    refine E_ret rfl rfl ?_
    refine E_st rfl rfl rfl ?_
    refine E_st rfl rfl rfl ?_
    refine E_st rfl rfl rfl ?_
    refine E_st rfl rfl rfl ?_
    refine E_ret rfl rfl ?_
    refine E_st rfl rfl rfl ?_
    refine E_st rfl rfl rfl ?_
    refine E_st rfl rfl rfl ?_
    refine E_st rfl rfl rfl ?_
    refine E_ret rfl rfl ?_
    refine E_st rfl rfl rfl ?_
    refine E_st rfl rfl rfl ?_
    refine E_st rfl rfl rfl ?_
    refine E_st rfl rfl rfl ?_
    refine E_st rfl rfl rfl ?_
    refine E_scr rfl rfl h1 ?_
    refine E_st rfl rfl rfl ?_
    refine E_st rfl rfl rfl ?_
    refine E_st rfl rfl rfl ?_
    refine E_st rfl rfl rfl ?_
    refine E_scr rfl rfl h2 ?_
    refine E_st rfl rfl rfl ?_
    refine E_st rfl rfl rfl ?_
    refine E_st rfl rfl rfl ?_
    refine E_st rfl rfl rfl ?_
    refine E_scr rfl rfl h3 ?_
    refine E_call rfl rfl ?_
    refine E_st rfl rfl rfl ?_
    refine E_call rfl rfl ?_
    refine E_st rfl rfl rfl ?_
    refine E_st rfl rfl rfl ?_
    refine E_st rfl rfl rfl ?_
    refine E_call rfl rfl ?_
    refine E_st rfl rfl rfl ?_
    refine E_st rfl rfl rfl ?_
    refine E_icmp_lt (y := 0) rfl (by decide) (fun q => absurd q (by omega)) (fun _ => ?_)
    refine E_st rfl rfl rfl ?_
    refine E_st rfl rfl rfl ?_
    refine E_icmp_gt (y := 3) rfl (by decide) (fun _ => ?_) (fun q => absurd q (by omega))
    refine E_st rfl rfl rfl ?_
    refine E_ret rfl rfl ?_
    refine E_ret rfl rfl ?_
    refine E_st rfl rfl rfl ?_
    refine E_st rfl rfl rfl ?_
    refine E_ret rfl rfl ?_
    refine E_st rfl rfl rfl ?_
    refine E_st rfl rfl rfl ?_
    refine E_st rfl rfl rfl ?_
    refine E_st rfl rfl rfl ?_
    refine E_st rfl rfl rfl ?_
    refine E_st rfl rfl rfl ?_
    refine E_st rfl rfl rfl ?_
    refine E_st rfl rfl rfl ?_
    refine E_st rfl rfl rfl ?_
    refine E_st rfl rfl rfl ?_
    exact E_ret rfl rfl ⟨rfl, rfl⟩
set_option maxRecDepth 100000 in
set_option maxHeartbeats 40000000 in
theorem pc_13_0 (xs : Nat → Int) {z a2 a3 a4 a5 : Int} (hz : b32 (fun a b => a &&& b) z 31 = 13) (h0 : xs 0 = z) (h1 : xs 1 = 0) (h2 : xs 2 = a2) (h3 : xs 3 = a3) (h4 : xs 4 = a4) (h5 : xs 5 = a5) : E 0 18 LL [] (s0 xs 6) PQ := by
  refine E_st rfl rfl rfl ?_
  refine E_st rfl rfl rfl ?_
  refine E_st rfl rfl rfl ?_
  refine E_st rfl rfl rfl ?_
  refine E_st rfl rfl rfl ?_
  refine E_st rfl rfl rfl ?_
  refine E_st rfl rfl rfl ?_
  refine E_st rfl rfl rfl ?_
  refine E_scr rfl rfl h0 ?_
  refine E_st rfl rfl rfl ?_
  refine E_st rfl rfl rfl ?_
  refine E_val hz ?_
  refine E_st rfl rfl rfl ?_
  refine E_st rfl rfl rfl ?_
  refine E_st rfl rfl rfl ?_
  refine E_st rfl rfl rfl ?_
  refine E_st rfl rfl rfl ?_
  refine E_st rfl rfl rfl ?_
  refine E_scr rfl rfl h1 ?_
  refine E_st rfl rfl rfl ?_
  refine E_st rfl rfl rfl ?_
  refine E_st rfl rfl rfl ?_
  refine E_st rfl rfl rfl ?_
  refine E_scr rfl rfl h2 ?_
  refine E_call rfl rfl ?_
  refine E_st rfl rfl rfl ?_
  refine E_st rfl rfl rfl ?_
  refine E_call rfl rfl ?_
  refine E_st rfl rfl rfl ?_
  refine E_st rfl rfl rfl ?_
  refine E_call rfl rfl ?_
  refine E_st rfl rfl rfl ?_
  refine E_st rfl rfl rfl ?_
  refine E_st rfl rfl rfl ?_
  refine E_st rfl rfl rfl ?_
  refine E_st rfl rfl rfl ?_
  refine E_st rfl rfl rfl ?_
  refine E_st rfl rfl rfl ?_
  refine E_st rfl rfl rfl ?_
  refine E_st rfl rfl rfl ?_
  refine E_st rfl rfl rfl ?_
  refine E_ret rfl rfl ?_
  refine E_st rfl rfl rfl ?_
  refine E_st rfl rfl rfl ?_
  refine E_st rfl rfl rfl ?_
  refine E_st rfl rfl rfl ?_
  refine E_call rfl rfl ?_
  refine E_st rfl rfl rfl ?_
  refine E_st rfl rfl rfl ?_
  refine E_st rfl rfl rfl ?_
  refine E_st rfl rfl rfl ?_
  refine E_st rfl rfl rfl ?_
  refine E_st rfl rfl rfl ?_
  refine E_st rfl rfl rfl ?_
  refine E_st rfl rfl rfl ?_
  refine E_st rfl rfl rfl ?_
  refine E_call rfl rfl ?_
  refine E_st rfl rfl rfl ?_
  refine E_st rfl rfl rfl ?_
  refine E_call rfl rfl ?_
  refine E_st rfl rfl rfl ?_
  refine E_st rfl rfl rfl ?_
  refine E_st rfl rfl rfl ?_
  refine E_call rfl rfl ?_
  refine c_fill rfl rfl ?_
  refine E_st rfl rfl rfl ?_
  refine E_st rfl rfl rfl ?_
  refine E_st rfl rfl rfl ?_
  refine E_call rfl rfl ?_
  refine c_fill rfl rfl ?_
  refine E_st rfl rfl rfl ?_
  refine E_st rfl rfl rfl ?_
  refine E_st rfl rfl rfl ?_
  refine E_st rfl rfl rfl ?_
  refine E_st rfl rfl rfl ?_
  refine E_st rfl rfl rfl ?_
  refine E_st rfl rfl rfl ?_
  refine E_st rfl rfl rfl ?_
  refine E_st rfl rfl rfl ?_
  refine E_st rfl rfl rfl ?_
  refine E_st rfl rfl rfl ?_
  refine E_st rfl rfl rfl ?_
  refine E_ret rfl rfl ?_
  refine E_st rfl rfl rfl ?_
  refine E_st rfl rfl rfl ?_
  refine E_call rfl rfl ?_
  refine E_st rfl rfl rfl ?_
  refine E_st rfl rfl rfl ?_
  refine E_st rfl rfl rfl ?_
  refine E_st rfl rfl rfl ?_
  refine E_st rfl rfl rfl ?_
  refine fl_loop (gp := 0) (by decide) _ 600 1 _ rfl (fun j hj => show (if 0 ≤ j ∧ j < 601 then (0 : Int) else _) = 0 from if_pos ⟨Nat.zero_le _, hj⟩) ?_
  refine E_st rfl rfl rfl ?_
  refine E_st rfl rfl rfl ?_
  refine E_st rfl rfl rfl ?_
  refine E_st rfl rfl rfl ?_
  refine E_call rfl rfl ?_
  refine E_st rfl rfl rfl ?_
  refine E_st rfl rfl rfl ?_
  refine E_st rfl rfl rfl ?_
  refine E_st rfl rfl rfl ?_
  refine E_st rfl rfl rfl ?_
  refine E_st rfl rfl rfl ?_
  refine E_call rfl rfl ?_
  refine c_fill rfl rfl ?_
  refine E_st rfl rfl rfl ?_
  refine E_st rfl rfl rfl ?_
  refine E_st rfl rfl rfl ?_
  refine E_call rfl rfl ?_
  refine c_fill rfl rfl ?_
  refine E_st rfl rfl rfl ?_
  refine E_st rfl rfl rfl ?_
  refine E_st rfl rfl rfl ?_
  refine E_call rfl rfl ?_
  refine c_fill rfl rfl ?_
  refine E_ret rfl rfl ?_
  refine E_ret rfl rfl ?_
  refine E_st rfl rfl rfl ?_
  refine E_st rfl rfl rfl ?_
  refine E_st rfl rfl rfl ?_
  refine E_st rfl rfl rfl ?_
  refine E_st rfl rfl rfl ?_
  refine E_ret rfl rfl ?_
  refine E_st rfl rfl rfl ?_
  refine E_st rfl rfl rfl ?_
  refine E_ret rfl rfl ?_
  refine E_st rfl rfl rfl ?_
  refine E_st rfl rfl rfl ?_
  refine E_st rfl rfl rfl ?_
  refine E_st rfl rfl rfl ?_
  refine E_st rfl rfl rfl ?_
  refine E_st rfl rfl rfl ?_
  refine E_call rfl rfl ?_
  refine E_st rfl rfl rfl ?_
  refine E_if_lt rfl (by decide) (fun _ => ?_) (fun _ => ?_)
  · refine E_st rfl rfl rfl ?_
    refine E_ret rfl rfl ?_
    refine E_st rfl rfl rfl ?_
    refine E_st rfl rfl rfl ?_
    refine E_st rfl rfl rfl ?_
    refine E_ret rfl rfl ?_
    refine E_st rfl rfl rfl ?_
    refine E_st rfl rfl rfl ?_
    refine E_st rfl rfl rfl ?_
    refine E_st rfl rfl rfl ?_
    refine E_st rfl rfl rfl ?_
    refine E_scr rfl rfl h1 ?_
    refine E_st rfl rfl rfl ?_
    refine E_st rfl rfl rfl ?_
    refine E_st rfl rfl rfl ?_
    refine E_st rfl rfl rfl ?_
    refine E_scr rfl rfl h2 ?_
    refine E_call rfl rfl ?_
    refine E_st rfl rfl rfl ?_
    refine E_st rfl rfl rfl ?_
    refine E_st rfl rfl rfl ?_
    refine E_call rfl rfl ?_
    refine E_st rfl rfl rfl ?_
    refine E_call rfl rfl ?_
    refine E_st rfl rfl rfl ?_
    refine E_st rfl rfl rfl ?_
    refine E_st rfl rfl rfl ?_
    refine E_call rfl rfl ?_
    refine E_st rfl rfl rfl ?_
    refine E_st rfl rfl rfl ?_
    refine E_st rfl rfl rfl ?_
    refine E_st rfl rfl rfl ?_
    refine E_st rfl rfl rfl ?_
    refine E_st rfl rfl rfl ?_
    refine E_st rfl rfl rfl ?_
    refine E_st rfl rfl rfl ?_
    refine E_ret rfl rfl ?_
    refine E_ret rfl rfl ?_
    refine E_st rfl rfl rfl ?_
    refine E_st rfl rfl rfl ?_
    refine E_st rfl rfl rfl ?_
    refine E_st rfl rfl rfl ?_
    refine E_st rfl rfl rfl ?_
    refine E_st rfl rfl rfl ?_
    refine E_st rfl rfl rfl ?_
    refine E_st rfl rfl rfl ?_
    refine E_isubv (v := -1) rfl (show (0 : Int) - 1 = -1 from rfl) (by decide) ?_
    refine E_call rfl rfl ?_
    refine E_st rfl rfl rfl ?_
    refine E_st rfl rfl rfl ?_
    refine E_icmp_lt (y := 0) rfl (by decide) (fun _ => ?_) (fun q => absurd q (by omega))
    refine E_st rfl rfl rfl ?_
    refine E_ret rfl rfl ?_
    refine E_st rfl rfl rfl ?_
    refine E_st rfl rfl rfl ?_
    refine E_ret rfl rfl ?_
    refine E_st rfl rfl rfl ?_
    refine E_st rfl rfl rfl ?_
    refine E_ret rfl rfl ?_
    refine E_st rfl rfl rfl ?_
    refine E_st rfl rfl rfl ?_
    refine E_st rfl rfl rfl ?_
    refine E_st rfl rfl rfl ?_
    refine E_st rfl rfl rfl ?_
    refine E_st rfl rfl rfl ?_
    refine E_st rfl rfl rfl ?_
    refine E_st rfl rfl rfl ?_
    refine E_st rfl rfl rfl ?_
    refine E_st rfl rfl rfl ?_
    exact E_ret rfl rfl ⟨rfl, rfl⟩
  · refine E_st rfl rfl rfl ?_
    refine E_st rfl rfl rfl ?_
    refine E_st rfl rfl rfl ?_
    refine E_icmp_ge (y := 0) rfl (by decide) (fun _ => ?_) (fun q => absurd q (by omega))
    refine E_st rfl rfl rfl ?_
    refine E_ret rfl rfl ?_
    refine E_st rfl rfl rfl ?_
    refine E_st rfl rfl rfl ?_
    refine E_st rfl rfl rfl ?_
    refine E_ret rfl rfl ?_
    refine E_st rfl rfl rfl ?_
    refine E_st rfl rfl rfl ?_
    refine E_st rfl rfl rfl ?_
    refine E_st rfl rfl rfl ?_
    refine E_st rfl rfl rfl ?_
    refine E_scr rfl rfl h1 ?_
    refine E_st rfl rfl rfl ?_
    refine E_st rfl rfl rfl ?_
    refine E_st rfl rfl rfl ?_
    refine E_st rfl rfl rfl ?_
    refine E_scr rfl rfl h2 ?_
    refine E_call rfl rfl ?_
    refine E_st rfl rfl rfl ?_
    refine E_st rfl rfl rfl ?_
    refine E_st rfl rfl rfl ?_
    refine E_call rfl rfl ?_
    refine E_st rfl rfl rfl ?_
    refine E_call rfl rfl ?_
    refine E_st rfl rfl rfl ?_
    refine E_st rfl rfl rfl ?_
    refine E_st rfl rfl rfl ?_
    refine E_call rfl rfl ?_
    refine E_st rfl rfl rfl ?_
    refine E_st rfl rfl rfl ?_
    refine E_st rfl rfl rfl ?_
    refine E_st rfl rfl rfl ?_
    refine E_st rfl rfl rfl ?_
    refine E_st rfl rfl rfl ?_
    refine E_st rfl rfl rfl ?_
    refine E_st rfl rfl rfl ?_
    refine E_ret rfl rfl ?_
    refine E_ret rfl rfl ?_
    refine E_st rfl rfl rfl ?_
    refine E_st rfl rfl rfl ?_
    refine E_st rfl rfl rfl ?_
    refine E_st rfl rfl rfl ?_
    refine E_st rfl rfl rfl ?_
    refine E_st rfl rfl rfl ?_
    refine E_st rfl rfl rfl ?_
    refine E_st rfl rfl rfl ?_
    refine E_isubv (v := -1) rfl (show (0 : Int) - 1 = -1 from rfl) (by decide) ?_
    refine E_call rfl rfl ?_
    refine E_st rfl rfl rfl ?_
    refine E_st rfl rfl rfl ?_
    refine E_icmp_lt (y := 0) rfl (by decide) (fun q => absurd q (by omega)) (fun _ => ?_)
    refine E_st rfl rfl rfl ?_
    refine E_st rfl rfl rfl ?_
    refine E_icmp_gt (y := (-1)) rfl (by decide) (fun _ => ?_) (fun q => absurd q (by omega))
    refine E_st rfl rfl rfl ?_
    refine E_ret rfl rfl ?_
    refine E_st rfl rfl rfl ?_
    refine E_st rfl rfl rfl ?_
    refine E_ret rfl rfl ?_
    refine E_st rfl rfl rfl ?_
    refine E_st rfl rfl rfl ?_
    refine E_ret rfl rfl ?_
    refine E_st rfl rfl rfl ?_
    refine E_st rfl rfl rfl ?_
    refine E_st rfl rfl rfl ?_
    refine E_st rfl rfl rfl ?_
    refine E_st rfl rfl rfl ?_
    refine E_st rfl rfl rfl ?_
    refine E_st rfl rfl rfl ?_
    refine E_st rfl rfl rfl ?_
    refine E_st rfl rfl rfl ?_
    refine E_st rfl rfl rfl ?_
    exact E_ret rfl rfl ⟨rfl, rfl⟩
