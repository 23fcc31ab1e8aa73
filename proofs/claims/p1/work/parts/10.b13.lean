set_option maxRecDepth 100000 in
set_option maxHeartbeats 40000000 in
theorem pc_25_0 (xs : Nat → Int) {z a2 a3 a4 a5 : Int} (hz : b32 (fun a b => a &&& b) z 31 = 25) (h0 : xs 0 = z) (h1 : xs 1 = 0) (h2 : xs 2 = a2) (h3 : xs 3 = a3) (h4 : xs 4 = a4) (h5 : xs 5 = a5) : E 0 18 LL [] (s0 xs 6) PQ := by
  refine E_st rfl rfl rfl ?_
  refine E_st rfl rfl rfl ?_
  refine E_st rfl rfl rfl ?_
  refine E_st rfl rfl rfl ?_
  refine E_st rfl rfl rfl ?_
  refine E_st rfl rfl rfl ?_
  refine E_st rfl rfl rfl ?_
  refine E_st rfl rfl rfl ?_
  refine E_scr rfl rfl h0 ?_
  refine E_st rfl rfl rfl ?_
  refine E_st rfl rfl rfl ?_
  refine E_val hz ?_
  refine E_st rfl rfl rfl ?_
  refine E_st rfl rfl rfl ?_
  refine E_st rfl rfl rfl ?_
  refine E_st rfl rfl rfl ?_
  refine E_st rfl rfl rfl ?_
  refine E_st rfl rfl rfl ?_
  refine E_scr rfl rfl h1 ?_
  refine E_st rfl rfl rfl ?_
  refine E_st rfl rfl rfl ?_
  refine E_st rfl rfl rfl ?_
  refine E_st rfl rfl rfl ?_
  refine E_scr rfl rfl h2 ?_
  refine E_call rfl rfl ?_
  refine E_st rfl rfl rfl ?_
  refine E_st rfl rfl rfl ?_
  refine E_call rfl rfl ?_
  refine E_st rfl rfl rfl ?_
  refine E_st rfl rfl rfl ?_
  refine E_st rfl rfl rfl ?_
  refine E_st rfl rfl rfl ?_
  refine E_st rfl rfl rfl ?_
  refine E_st rfl rfl rfl ?_
  refine E_st rfl rfl rfl ?_
  refine E_st rfl rfl rfl ?_
  refine E_st rfl rfl rfl ?_
  refine E_st rfl rfl rfl ?_
  refine E_ret rfl rfl ?_
  refine E_st rfl rfl rfl ?_
  refine E_st rfl rfl rfl ?_
  refine E_st rfl rfl rfl ?_
  refine E_st rfl rfl rfl ?_
  refine E_if_lt rfl (by decide) (fun _ => ?_) (fun _ => ?_)
  · refine E_st rfl rfl rfl ?_
    refine E_ret rfl rfl ?_
    refine E_st rfl rfl rfl ?_
    refine E_st rfl rfl rfl ?_
    refine E_st rfl rfl rfl ?_
    refine E_st rfl rfl rfl ?_
    refine E_st rfl rfl rfl ?_
    refine E_scr rfl rfl h1 ?_
    refine E_st rfl rfl rfl ?_
    refine E_st rfl rfl rfl ?_
    refine E_st rfl rfl rfl ?_
    refine E_st rfl rfl rfl ?_
    refine E_scr rfl rfl h2 ?_
    refine E_call rfl rfl ?_
    refine E_st rfl rfl rfl ?_
    refine E_call rfl rfl ?_
    refine E_st rfl rfl rfl ?_
    refine E_st rfl rfl rfl ?_
    refine E_st rfl rfl rfl ?_
    refine E_call rfl rfl ?_
    refine E_st rfl rfl rfl ?_
    refine E_st rfl rfl rfl ?_
    refine E_st rfl rfl rfl ?_
    refine E_st rfl rfl rfl ?_
    refine E_st rfl rfl rfl ?_
    refine E_st rfl rfl rfl ?_
    refine E_st rfl rfl rfl ?_
    refine E_st rfl rfl rfl ?_
    refine E_ret rfl rfl ?_
    refine E_ret rfl rfl ?_
    refine E_st rfl rfl rfl ?_
    refine E_st rfl rfl rfl ?_
    refine E_st rfl rfl rfl ?_
    refine E_st rfl rfl rfl ?_
    refine E_call rfl rfl ?_
    refine E_st rfl rfl rfl ?_
    refine E_st rfl rfl rfl ?_
    refine E_icmp_lt (y := 0) rfl (by decide) (fun _ => ?_) (fun q => absurd q (by omega))
    refine E_st rfl rfl rfl ?_
    refine E_ret rfl rfl ?_
    refine E_st rfl rfl rfl ?_
    refine E_st rfl rfl rfl ?_
    refine E_ret rfl rfl ?_
    refine E_st rfl rfl rfl ?_
    refine E_st rfl rfl rfl ?_
    refine E_st rfl rfl rfl ?_
    refine E_st rfl rfl rfl ?_
    refine E_st rfl rfl rfl ?_
    refine E_st rfl rfl rfl ?_
    refine E_st rfl rfl rfl ?_
    refine E_st rfl rfl rfl ?_
    refine E_st rfl rfl rfl ?_
    refine E_st rfl rfl rfl ?_
    exact E_ret rfl rfl ⟨rfl, rfl⟩
  · refine E_st rfl rfl rfl ?_
    refine E_st rfl rfl rfl ?_
    refine E_icmp_lt (y := 12) rfl (by decide) (fun _ => ?_) (fun _ => ?_)
    · refine E_st rfl rfl rfl ?_
      refine E_st rfl rfl rfl ?_
      refine E_st rfl rfl rfl ?_
      refine E_st rfl rfl rfl ?_
      refine E_st rfl rfl rfl ?_
      refine E_call rfl rfl ?_
      refine E_st rfl rfl rfl ?_
      refine E_st rfl rfl rfl ?_
      refine E_st rfl rfl rfl ?_
      refine E_st rfl rfl rfl ?_
      refine E_st rfl rfl rfl ?_
      refine E_st rfl rfl rfl ?_
      refine E_st rfl rfl rfl ?_
      refine E_st rfl rfl rfl ?_
      refine E_st rfl rfl rfl ?_
      refine E_ret rfl rfl ?_
      refine E_st rfl rfl rfl ?_
      refine E_st rfl rfl rfl ?_
      refine E_st rfl rfl rfl ?_
      refine E_st rfl rfl rfl ?_
      refine E_st rfl rfl rfl ?_
      refine E_st rfl rfl rfl ?_
      refine E_st rfl rfl rfl ?_
      refine E_ret rfl rfl ?_
      refine E_st rfl rfl rfl ?_
      refine E_st rfl rfl rfl ?_
      refine E_st rfl rfl rfl ?_
      refine E_st rfl rfl rfl ?_
      refine E_st rfl rfl rfl ?_
      refine E_scr rfl rfl h1 ?_
      refine E_st rfl rfl rfl ?_
      refine E_st rfl rfl rfl ?_
      refine E_st rfl rfl rfl ?_
      refine E_st rfl rfl rfl ?_
      refine E_scr rfl rfl h2 ?_
      refine E_call rfl rfl ?_
      refine E_st rfl rfl rfl ?_
      refine E_call rfl rfl ?_
      refine E_st rfl rfl rfl ?_
      refine E_st rfl rfl rfl ?_
      refine E_st rfl rfl rfl ?_
      refine E_call rfl rfl ?_
      refine E_st rfl rfl rfl ?_
      refine E_st rfl rfl rfl ?_
      refine E_st rfl rfl rfl ?_
      refine E_st rfl rfl rfl ?_
      refine E_st rfl rfl rfl ?_
      refine E_st rfl rfl rfl ?_
      refine E_st rfl rfl rfl ?_
      refine E_st rfl rfl rfl ?_
      refine E_ret rfl rfl ?_
      refine E_ret rfl rfl ?_
      refine E_st rfl rfl rfl ?_
      refine E_st rfl rfl rfl ?_
      refine E_st rfl rfl rfl ?_
      refine E_st rfl rfl rfl ?_
      refine E_call rfl rfl ?_
      refine E_st rfl rfl rfl ?_
      refine E_st rfl rfl rfl ?_
      refine E_icmp_lt (y := 0) rfl (by decide) (fun q => absurd q (by omega)) (fun _ => ?_)
      refine E_st rfl rfl rfl ?_
      refine E_st rfl rfl rfl ?_
      refine E_icmp_gt (y := 11) rfl (by decide) (fun q => absurd q (by omega)) (fun _ => ?_)
      refine E_st rfl rfl rfl ?_
      refine E_st rfl rfl rfl ?_
      refine E_ret rfl rfl ?_
      refine E_st rfl rfl rfl ?_
      refine E_st rfl rfl rfl ?_
      refine E_st rfl rfl rfl ?_
      refine E_call rfl rfl ?_
      refine E_st rfl rfl rfl ?_
      refine E_st rfl rfl rfl ?_
      refine E_st rfl rfl rfl ?_
      refine E_st rfl rfl rfl ?_
      refine E_call rfl rfl ?_
      refine E_st rfl rfl rfl ?_
      refine E_st rfl rfl rfl ?_
      refine E_call rfl rfl ?_
      refine E_st rfl rfl rfl ?_
      refine E_st rfl rfl rfl ?_
      refine mr_loop1 _ 601 0 _ rfl ?_
      refine E_st rfl rfl rfl ?_
      refine E_st rfl rfl rfl ?_
      refine E_st rfl rfl rfl ?_
      refine E_st rfl rfl rfl ?_
      refine E_st rfl rfl rfl ?_
      refine E_st rfl rfl rfl ?_
      refine E_st rfl rfl rfl ?_
      refine E_st rfl rfl rfl ?_
      refine E_st rfl rfl rfl ?_
      refine E_st rfl rfl rfl ?_
      refine E_st rfl rfl rfl ?_
      refine E_st rfl rfl rfl ?_
      refine E_st rfl rfl rfl ?_
      refine E_st rfl rfl rfl ?_
      refine E_st rfl rfl rfl ?_
      refine E_st rfl rfl rfl ?_
      refine E_st rfl rfl rfl ?_
      refine E_st rfl rfl rfl ?_
      refine E_st rfl rfl rfl ?_
      refine mr_loop3 _ 601 0 _ rfl (fun j hj => show (if 0 ≤ j ∧ j < 601 then (0 : Int) else _) = 0 from if_pos ⟨Nat.zero_le _, hj⟩) ?_
      refine E_st rfl rfl rfl ?_
      refine E_st rfl rfl rfl ?_
      refine E_st rfl rfl rfl ?_
      refine E_st rfl rfl rfl ?_
      refine E_st rfl rfl rfl ?_
      refine E_st rfl rfl rfl ?_
      refine E_st rfl rfl rfl ?_
      refine E_st rfl rfl rfl ?_
      refine E_st rfl rfl rfl ?_
      refine E_st rfl rfl rfl ?_
      refine E_st rfl rfl rfl ?_
      refine E_st rfl rfl rfl ?_
      refine E_st rfl rfl rfl ?_
      refine E_ret rfl rfl ?_
      refine E_st rfl rfl rfl ?_
      refine E_st rfl rfl rfl ?_
      refine E_st rfl rfl rfl ?_
      refine E_st rfl rfl rfl ?_
      refine E_st rfl rfl rfl ?_
      refine E_st rfl rfl rfl ?_
      refine E_st rfl rfl rfl ?_
      refine E_st rfl rfl rfl ?_
      refine E_st rfl rfl rfl ?_
      refine E_ret rfl rfl ?_
      refine E_st rfl rfl rfl ?_
      refine E_st rfl rfl rfl ?_
      refine E_st rfl rfl rfl ?_
      refine E_st rfl rfl rfl ?_
      refine E_st rfl rfl rfl ?_
      refine E_st rfl rfl rfl ?_
      refine E_st rfl rfl rfl ?_
      refine E_st rfl rfl rfl ?_
      refine E_st rfl rfl rfl ?_
      refine E_st rfl rfl rfl ?_
      refine E_st rfl rfl rfl ?_
      refine E_st rfl rfl rfl ?_
      refine E_st rfl rfl rfl ?_
      refine E_st rfl rfl rfl ?_
      refine E_st rfl rfl rfl ?_
      refine E_st rfl rfl rfl ?_
      refine E_st rfl rfl rfl ?_
      refine E_st rfl rfl rfl ?_
      refine E_st rfl rfl rfl ?_
      refine E_st rfl rfl rfl ?_
      refine E_st rfl rfl rfl ?_
      refine E_st rfl rfl rfl ?_
      refine E_st rfl rfl rfl ?_
      refine E_st rfl rfl rfl ?_
      refine E_st rfl rfl rfl ?_
      refine E_st rfl rfl rfl ?_
      refine E_st rfl rfl rfl ?_
      refine E_st rfl rfl rfl ?_
      refine E_st rfl rfl rfl ?_
      refine E_st rfl rfl rfl ?_
      refine E_st rfl rfl rfl ?_
      refine E_st rfl rfl rfl ?_
      refine E_st rfl rfl rfl ?_
      refine E_st rfl rfl rfl ?_
      refine E_st rfl rfl rfl ?_
      refine E_st rfl rfl rfl ?_
      refine E_st rfl rfl rfl ?_
      refine E_st rfl rfl rfl ?_
      refine E_st rfl rfl rfl ?_
      refine E_st rfl rfl rfl ?_
      refine E_st rfl rfl rfl ?_
      refine E_st rfl rfl rfl ?_
      refine E_st rfl rfl rfl ?_
      refine E_st rfl rfl rfl ?_
      refine E_st rfl rfl rfl ?_
      refine E_st rfl rfl rfl ?_
      refine E_st rfl rfl rfl ?_
      refine E_st rfl rfl rfl ?_
      refine E_st rfl rfl rfl ?_
      refine E_st rfl rfl rfl ?_
      refine E_st rfl rfl rfl ?_
      refine E_st rfl rfl rfl ?_
      refine E_st rfl rfl rfl ?_
      refine E_st rfl rfl rfl ?_
      refine E_st rfl rfl rfl ?_
      refine E_st rfl rfl rfl ?_
      refine E_st rfl rfl rfl ?_
      refine E_st rfl rfl rfl ?_
      refine E_st rfl rfl rfl ?_
      refine E_st rfl rfl rfl ?_
      refine E_st rfl rfl rfl ?_
      refine E_st rfl rfl rfl ?_
      refine E_st rfl rfl rfl ?_
      refine E_st rfl rfl rfl ?_
      refine E_st rfl rfl rfl ?_
      refine E_st rfl rfl rfl ?_
      refine E_st rfl rfl rfl ?_
      refine E_st rfl rfl rfl ?_
      refine E_st rfl rfl rfl ?_
      refine E_st rfl rfl rfl ?_
      refine E_st rfl rfl rfl ?_
      refine E_st rfl rfl rfl ?_
      refine E_st rfl rfl rfl ?_
      refine E_st rfl rfl rfl ?_
      refine E_st rfl rfl rfl ?_
      refine E_st rfl rfl rfl ?_
      refine E_st rfl rfl rfl ?_
      refine E_st rfl rfl rfl ?_
      refine E_st rfl rfl rfl ?_
      refine E_st rfl rfl rfl ?_
      refine E_st rfl rfl rfl ?_
      refine E_st rfl rfl rfl ?_
      refine E_st rfl rfl rfl ?_
      refine E_st rfl rfl rfl ?_
      refine E_st rfl rfl rfl ?_
      refine E_st rfl rfl rfl ?_
      refine E_st rfl rfl rfl ?_
      refine E_st rfl rfl rfl ?_
      refine E_st rfl rfl rfl ?_
      refine E_st rfl rfl rfl ?_
      refine E_st rfl rfl rfl ?_
      refine E_st rfl rfl rfl ?_
      refine E_st rfl rfl rfl ?_
      refine E_st rfl rfl rfl ?_
      refine E_st rfl rfl rfl ?_
      refine E_st rfl rfl rfl ?_
      refine E_st rfl rfl rfl ?_
      refine E_st rfl rfl rfl ?_
      refine E_st rfl rfl rfl ?_
      refine E_st rfl rfl rfl ?_
      refine E_st rfl rfl rfl ?_
      refine E_st rfl rfl rfl ?_
      refine E_st rfl rfl rfl ?_
      refine E_st rfl rfl rfl ?_
      refine E_st rfl rfl rfl ?_
      refine E_st rfl rfl rfl ?_
      refine E_st rfl rfl rfl ?_
      refine E_st rfl rfl rfl ?_
      refine E_st rfl rfl rfl ?_
      refine E_st rfl rfl rfl ?_
      refine E_st rfl rfl rfl ?_
      refine E_st rfl rfl rfl ?_
      refine E_st rfl rfl rfl ?_
      refine E_st rfl rfl rfl ?_
      refine E_st rfl rfl rfl ?_
      refine E_st rfl rfl rfl ?_
      refine E_st rfl rfl rfl ?_
      refine E_st rfl rfl rfl ?_
      refine E_st rfl rfl rfl ?_
      refine E_st rfl rfl rfl ?_
      refine E_st rfl rfl rfl ?_
      refine E_st rfl rfl rfl ?_
      refine E_st rfl rfl rfl ?_
      refine E_st rfl rfl rfl ?_
      refine E_st rfl rfl rfl ?_
      refine E_st rfl rfl rfl ?_
      refine E_st rfl rfl rfl ?_
      refine E_st rfl rfl rfl ?_
      refine E_st rfl rfl rfl ?_
      refine E_st rfl rfl rfl ?_
      refine E_st rfl rfl rfl ?_
      refine E_st rfl rfl rfl ?_
      refine E_st rfl rfl rfl ?_
      refine E_st rfl rfl rfl ?_
      refine E_st rfl rfl rfl ?_
      refine E_st rfl rfl rfl ?_
      refine E_st rfl rfl rfl ?_
      refine E_st rfl rfl rfl ?_
      refine E_st rfl rfl rfl ?_
      refine E_st rfl rfl rfl ?_
      refine E_st rfl rfl rfl ?_
      refine E_st rfl rfl rfl ?_
      refine E_st rfl rfl rfl ?_
      refine E_st rfl rfl rfl ?_
      refine E_st rfl rfl rfl ?_
      refine E_st rfl rfl rfl ?_
      refine E_st rfl rfl rfl ?_
      refine E_st rfl rfl rfl ?_
      refine E_st rfl rfl rfl ?_
      refine E_st rfl rfl rfl ?_
      refine E_st rfl rfl rfl ?_
      refine E_st rfl rfl rfl ?_
      refine E_st rfl rfl rfl ?_
      refine E_st rfl rfl rfl ?_
      refine E_st rfl rfl rfl ?_
      refine E_st rfl rfl rfl ?_
      refine E_st rfl rfl rfl ?_
      refine E_st rfl rfl rfl ?_
      refine E_st rfl rfl rfl ?_
      refine E_st rfl rfl rfl ?_
      refine E_st rfl rfl rfl ?_
      refine E_st rfl rfl rfl ?_
      refine E_st rfl rfl rfl ?_
      refine E_st rfl rfl rfl ?_
      refine E_st rfl rfl rfl ?_
      refine E_st rfl rfl rfl ?_
      refine E_st rfl rfl rfl ?_
      refine E_st rfl rfl rfl ?_
      refine E_st rfl rfl rfl ?_
      refine E_st rfl rfl rfl ?_
      refine E_st rfl rfl rfl ?_
      refine E_st rfl rfl rfl ?_
      refine E_st rfl rfl rfl ?_
      refine E_st rfl rfl rfl ?_
      refine E_st rfl rfl rfl ?_
      refine E_st rfl rfl rfl ?_
      refine E_st rfl rfl rfl ?_
      refine E_st rfl rfl rfl ?_
      refine E_st rfl rfl rfl ?_
      refine E_st rfl rfl rfl ?_
      refine E_st rfl rfl rfl ?_
      refine E_st rfl rfl rfl ?_
      refine E_st rfl rfl rfl ?_
      refine E_st rfl rfl rfl ?_
      refine E_st rfl rfl rfl ?_
      refine E_st rfl rfl rfl ?_
      refine E_st rfl rfl rfl ?_
      refine E_st rfl rfl rfl ?_
      refine E_st rfl rfl rfl ?_
      refine E_st rfl rfl rfl ?_
      refine E_st rfl rfl rfl ?_
      refine E_st rfl rfl rfl ?_
      refine E_st rfl rfl rfl ?_
      refine E_ret rfl rfl ?_
      refine E_st rfl rfl rfl ?_
      refine E_st rfl rfl rfl ?_
      refine E_st rfl rfl rfl ?_
      refine E_ialdv (v := 0) (N := 12) rfl rfl rfl (by omega) (by omega) (by
        have hg : a2 = 0 ∨ a2 = 1 ∨ a2 = 2 ∨ a2 = 3 ∨ a2 = 4 ∨ a2 = 5 ∨ a2 = 6 ∨ a2 = 7 ∨ a2 = 8 ∨ a2 = 9 ∨ a2 = 10 ∨ a2 = 11 := by omega
        rcases hg with rfl | rfl | rfl | rfl | rfl | rfl | rfl | rfl | rfl | rfl | rfl | rfl <;> rfl) ?_
      refine E_st rfl rfl rfl ?_
      refine E_st rfl rfl rfl ?_
      refine E_st rfl rfl rfl ?_
      refine E_st rfl rfl rfl ?_
      refine E_ret rfl rfl ?_
      refine E_st rfl rfl rfl ?_
      refine E_st rfl rfl rfl ?_
      refine E_st rfl rfl rfl ?_
      refine E_st rfl rfl rfl ?_
      refine E_st rfl rfl rfl ?_
      refine E_st rfl rfl rfl ?_
      refine E_st rfl rfl rfl ?_
      refine E_st rfl rfl rfl ?_
      refine E_st rfl rfl rfl ?_
      refine E_st rfl rfl rfl ?_
      exact E_ret rfl rfl ⟨rfl, rfl⟩
    · refine E_st rfl rfl rfl ?_
      refine E_ret rfl rfl ?_
      refine E_st rfl rfl rfl ?_
      refine E_st rfl rfl rfl ?_
      refine E_st rfl rfl rfl ?_
      refine E_st rfl rfl rfl ?_
      refine E_st rfl rfl rfl ?_
      refine E_scr rfl rfl h1 ?_
      refine E_st rfl rfl rfl ?_
      refine E_st rfl rfl rfl ?_
      refine E_st rfl rfl rfl ?_
      refine E_st rfl rfl rfl ?_
      refine E_scr rfl rfl h2 ?_
      refine E_call rfl rfl ?_
      refine E_st rfl rfl rfl ?_
      refine E_call rfl rfl ?_
      refine E_st rfl rfl rfl ?_
      refine E_st rfl rfl rfl ?_
      refine E_st rfl rfl rfl ?_
      refine E_call rfl rfl ?_
      refine E_st rfl rfl rfl ?_
      refine E_st rfl rfl rfl ?_
      refine E_st rfl rfl rfl ?_
      refine E_st rfl rfl rfl ?_
      refine E_st rfl rfl rfl ?_
      refine E_st rfl rfl rfl ?_
      refine E_st rfl rfl rfl ?_
      refine E_st rfl rfl rfl ?_
      refine E_ret rfl rfl ?_
      refine E_ret rfl rfl ?_
      refine E_st rfl rfl rfl ?_
      refine E_st rfl rfl rfl ?_
      refine E_st rfl rfl rfl ?_
      refine E_st rfl rfl rfl ?_
      refine E_call rfl rfl ?_
      refine E_st rfl rfl rfl ?_
      refine E_st rfl rfl rfl ?_
      refine E_icmp_lt (y := 0) rfl (by decide) (fun q => absurd q (by omega)) (fun _ => ?_)
      refine E_st rfl rfl rfl ?_
      refine E_st rfl rfl rfl ?_
      refine E_icmp_gt (y := 11) rfl (by decide) (fun _ => ?_) (fun q => absurd q (by omega))
      refine E_st rfl rfl rfl ?_
      refine E_ret rfl rfl ?_
      refine E_st rfl rfl rfl ?_
      refine E_st rfl rfl rfl ?_
      refine E_ret rfl rfl ?_
      refine E_st rfl rfl rfl ?_
      refine E_st rfl rfl rfl ?_
      refine E_st rfl rfl rfl ?_
      refine E_st rfl rfl rfl ?_
      refine E_st rfl rfl rfl ?_
      refine E_st rfl rfl rfl ?_
      refine E_st rfl rfl rfl ?_
      refine E_st rfl rfl rfl ?_
      refine E_st rfl rfl rfl ?_
      refine E_st rfl rfl rfl ?_
      exact E_ret rfl rfl ⟨rfl, rfl⟩
set_option maxRecDepth 100000 in
set_option maxHeartbeats 40000000 in
theorem pc_25_1 (xs : Nat → Int) {z a2 a3 a4 a5 : Int} (hz : b32 (fun a b => a &&& b) z 31 = 25) (h0 : xs 0 = z) (h1 : xs 1 = 1) (h2 : xs 2 = a2) (h3 : xs 3 = a3) (h4 : xs 4 = a4) (h5 : xs 5 = a5) : E 0 18 LL [] (s0 xs 6) PQ := by
  refine E_st rfl rfl rfl ?_
  refine E_st rfl rfl rfl ?_
  refine E_st rfl rfl rfl ?_
  refine E_st rfl rfl rfl ?_
  refine E_st rfl rfl rfl ?_
  refine E_st rfl rfl rfl ?_
  refine E_st rfl rfl rfl ?_
  refine E_st rfl rfl rfl ?_
  refine E_scr rfl rfl h0 ?_
  refine E_st rfl rfl rfl ?_
  refine E_st rfl rfl rfl ?_
  refine E_val hz ?_
  refine E_st rfl rfl rfl ?_
  refine E_st rfl rfl rfl ?_
  refine E_st rfl rfl rfl ?_
  refine E_st rfl rfl rfl ?_
  refine E_st rfl rfl rfl ?_
  refine E_st rfl rfl rfl ?_
  refine E_scr rfl rfl h1 ?_
  refine E_st rfl rfl rfl ?_
  refine E_st rfl rfl rfl ?_
  refine E_st rfl rfl rfl ?_
  refine E_st rfl rfl rfl ?_
  refine E_scr rfl rfl h2 ?_
  refine E_call rfl rfl ?_
  refine E_st rfl rfl rfl ?_
  refine E_st rfl rfl rfl ?_
  refine E_call rfl rfl ?_
  refine E_st rfl rfl rfl ?_
  refine E_st rfl rfl rfl ?_
  refine E_st rfl rfl rfl ?_
  refine E_st rfl rfl rfl ?_
  refine E_st rfl rfl rfl ?_
  refine E_st rfl rfl rfl ?_
  refine E_st rfl rfl rfl ?_
  refine E_st rfl rfl rfl ?_
  refine E_st rfl rfl rfl ?_
  refine E_st rfl rfl rfl ?_
  refine E_ret rfl rfl ?_
  refine E_st rfl rfl rfl ?_
  refine E_st rfl rfl rfl ?_
  refine E_st rfl rfl rfl ?_
  refine E_st rfl rfl rfl ?_
  refine E_if_lt rfl (by decide) (fun _ => ?_) (fun _ => ?_)
  · refine E_st rfl rfl rfl ?_
    refine E_ret rfl rfl ?_
    refine E_st rfl rfl rfl ?_
    refine E_st rfl rfl rfl ?_
    refine E_st rfl rfl rfl ?_
    refine E_st rfl rfl rfl ?_
    refine E_st rfl rfl rfl ?_
    refine E_scr rfl rfl h1 ?_
    refine E_st rfl rfl rfl ?_
    refine E_st rfl rfl rfl ?_
    refine E_st rfl rfl rfl ?_
    refine E_st rfl rfl rfl ?_
    refine E_scr rfl rfl h2 ?_
    refine E_call rfl rfl ?_
    refine E_st rfl rfl rfl ?_
    refine E_call rfl rfl ?_
    refine E_st rfl rfl rfl ?_
    refine E_st rfl rfl rfl ?_
    refine E_st rfl rfl rfl ?_
    refine E_call rfl rfl ?_
    refine E_st rfl rfl rfl ?_
    refine E_st rfl rfl rfl ?_
    refine E_st rfl rfl rfl ?_
    refine E_st rfl rfl rfl ?_
    refine E_st rfl rfl rfl ?_
    refine E_st rfl rfl rfl ?_
    refine E_st rfl rfl rfl ?_
    refine E_st rfl rfl rfl ?_
    refine E_ret rfl rfl ?_
    refine E_ret rfl rfl ?_
    refine E_st rfl rfl rfl ?_
    refine E_st rfl rfl rfl ?_
    refine E_st rfl rfl rfl ?_
    refine E_st rfl rfl rfl ?_
    refine E_call rfl rfl ?_
    refine E_st rfl rfl rfl ?_
    refine E_st rfl rfl rfl ?_
    refine E_icmp_lt (y := 0) rfl (by decide) (fun _ => ?_) (fun q => absurd q (by omega))
    refine E_st rfl rfl rfl ?_
    refine E_ret rfl rfl ?_
    refine E_st rfl rfl rfl ?_
    refine E_st rfl rfl rfl ?_
    refine E_ret rfl rfl ?_
    refine E_st rfl rfl rfl ?_
    refine E_st rfl rfl rfl ?_
    refine E_st rfl rfl rfl ?_
    refine E_st rfl rfl rfl ?_
    refine E_st rfl rfl rfl ?_
    refine E_st rfl rfl rfl ?_
    refine E_st rfl rfl rfl ?_
    refine E_st rfl rfl rfl ?_
    refine E_st rfl rfl rfl ?_
    refine E_st rfl rfl rfl ?_
    exact E_ret rfl rfl ⟨rfl, rfl⟩
  · refine E_st rfl rfl rfl ?_
    refine E_st rfl rfl rfl ?_
    refine E_icmp_lt (y := 12) rfl (by decide) (fun _ => ?_) (fun _ => ?_)
    · refine E_st rfl rfl rfl ?_
      refine E_st rfl rfl rfl ?_
      refine E_st rfl rfl rfl ?_
      refine E_st rfl rfl rfl ?_
      refine E_st rfl rfl rfl ?_
      refine E_call rfl rfl ?_
      refine E_st rfl rfl rfl ?_
      refine E_st rfl rfl rfl ?_
      refine E_st rfl rfl rfl ?_
      refine E_st rfl rfl rfl ?_
      refine E_st rfl rfl rfl ?_
      refine E_st rfl rfl rfl ?_
      refine E_st rfl rfl rfl ?_
      refine E_st rfl rfl rfl ?_
      refine E_st rfl rfl rfl ?_
      refine E_ret rfl rfl ?_
      refine E_st rfl rfl rfl ?_
      refine E_st rfl rfl rfl ?_
      refine E_st rfl rfl rfl ?_
      refine E_st rfl rfl rfl ?_
      refine E_st rfl rfl rfl ?_
      refine E_st rfl rfl rfl ?_
      refine E_st rfl rfl rfl ?_
      refine E_ret rfl rfl ?_
      refine E_st rfl rfl rfl ?_
      refine E_st rfl rfl rfl ?_
      refine E_st rfl rfl rfl ?_
      refine E_st rfl rfl rfl ?_
      refine E_st rfl rfl rfl ?_
      refine E_scr rfl rfl h1 ?_
      refine E_st rfl rfl rfl ?_
      refine E_st rfl rfl rfl ?_
      refine E_st rfl rfl rfl ?_
      refine E_st rfl rfl rfl ?_
      refine E_scr rfl rfl h2 ?_
      refine E_call rfl rfl ?_
      refine E_st rfl rfl rfl ?_
      refine E_call rfl rfl ?_
      refine E_st rfl rfl rfl ?_
      refine E_st rfl rfl rfl ?_
      refine E_st rfl rfl rfl ?_
      refine E_call rfl rfl ?_
      refine E_st rfl rfl rfl ?_
      refine E_st rfl rfl rfl ?_
      refine E_st rfl rfl rfl ?_
      refine E_st rfl rfl rfl ?_
      refine E_st rfl rfl rfl ?_
      refine E_st rfl rfl rfl ?_
      refine E_st rfl rfl rfl ?_
      refine E_st rfl rfl rfl ?_
      refine E_ret rfl rfl ?_
      refine E_ret rfl rfl ?_
      refine E_st rfl rfl rfl ?_
      refine E_st rfl rfl rfl ?_
      refine E_st rfl rfl rfl ?_
      refine E_st rfl rfl rfl ?_
      refine E_call rfl rfl ?_
      refine E_st rfl rfl rfl ?_
      refine E_st rfl rfl rfl ?_
      refine E_icmp_lt (y := 0) rfl (by decide) (fun q => absurd q (by omega)) (fun _ => ?_)
      refine E_st rfl rfl rfl ?_
      refine E_st rfl rfl rfl ?_
      refine E_icmp_gt (y := 11) rfl (by decide) (fun q => absurd q (by omega)) (fun _ => ?_)
      refine E_st rfl rfl rfl ?_
      refine E_st rfl rfl rfl ?_
      refine E_ret rfl rfl ?_
      refine E_st rfl rfl rfl ?_
      refine E_st rfl rfl rfl ?_
      refine E_st rfl rfl rfl ?_
      refine E_call rfl rfl ?_
      refine E_st rfl rfl rfl ?_
      refine E_st rfl rfl rfl ?_
      refine E_st rfl rfl rfl ?_
      refine E_st rfl rfl rfl ?_
      refine E_call rfl rfl ?_
      refine E_st rfl rfl rfl ?_
      refine E_st rfl rfl rfl ?_
      refine E_call rfl rfl ?_
      refine E_st rfl rfl rfl ?_
      refine E_st rfl rfl rfl ?_
      refine mr_loop1 _ 601 0 _ rfl ?_
      refine E_st rfl rfl rfl ?_
      refine E_st rfl rfl rfl ?_
      refine E_st rfl rfl rfl ?_
      refine E_st rfl rfl rfl ?_
      refine E_st rfl rfl rfl ?_
      refine E_st rfl rfl rfl ?_
      refine E_st rfl rfl rfl ?_
      refine E_st rfl rfl rfl ?_
      refine E_st rfl rfl rfl ?_
      refine E_st rfl rfl rfl ?_
      refine E_st rfl rfl rfl ?_
      refine E_st rfl rfl rfl ?_
      refine E_st rfl rfl rfl ?_
      refine E_st rfl rfl rfl ?_
      refine E_st rfl rfl rfl ?_
      refine E_st rfl rfl rfl ?_
      refine E_st rfl rfl rfl ?_
      refine E_st rfl rfl rfl ?_
      refine E_st rfl rfl rfl ?_
      refine mr_loop3 _ 601 0 _ rfl (fun j hj => show (if 0 ≤ j ∧ j < 601 then (0 : Int) else _) = 0 from if_pos ⟨Nat.zero_le _, hj⟩) ?_
      refine E_st rfl rfl rfl ?_
      refine E_st rfl rfl rfl ?_
      refine E_st rfl rfl rfl ?_
      refine E_st rfl rfl rfl ?_
      refine E_st rfl rfl rfl ?_
      refine E_st rfl rfl rfl ?_
      refine E_st rfl rfl rfl ?_
      refine E_st rfl rfl rfl ?_
      refine E_st rfl rfl rfl ?_
      refine E_st rfl rfl rfl ?_
      refine E_st rfl rfl rfl ?_
      refine E_st rfl rfl rfl ?_
      refine E_st rfl rfl rfl ?_
      refine E_ret rfl rfl ?_
      refine E_st rfl rfl rfl ?_
      refine E_st rfl rfl rfl ?_
      refine E_st rfl rfl rfl ?_
      refine E_st rfl rfl rfl ?_
      refine E_st rfl rfl rfl ?_
      refine E_st rfl rfl rfl ?_
      refine E_st rfl rfl rfl ?_
      refine E_st rfl rfl rfl ?_
      refine E_st rfl rfl rfl ?_
      refine E_ret rfl rfl ?_
      refine E_st rfl rfl rfl ?_
      refine E_st rfl rfl rfl ?_
      refine E_st rfl rfl rfl ?_
      refine E_st rfl rfl rfl ?_
      refine E_st rfl rfl rfl ?_
      refine E_st rfl rfl rfl ?_
      refine E_st rfl rfl rfl ?_
      refine E_st rfl rfl rfl ?_
      refine E_st rfl rfl rfl ?_
      refine E_st rfl rfl rfl ?_
      refine E_st rfl rfl rfl ?_
      refine E_st rfl rfl rfl ?_
      refine E_st rfl rfl rfl ?_
      refine E_st rfl rfl rfl ?_
      refine E_st rfl rfl rfl ?_
      refine E_st rfl rfl rfl ?_
      refine E_st rfl rfl rfl ?_
      refine E_st rfl rfl rfl ?_
      refine E_st rfl rfl rfl ?_
      refine E_st rfl rfl rfl ?_
      refine E_st rfl rfl rfl ?_
      refine E_st rfl rfl rfl ?_
      refine E_st rfl rfl rfl ?_
      refine E_st rfl rfl rfl ?_
      refine E_st rfl rfl rfl ?_
      refine E_st rfl rfl rfl ?_
      refine E_st rfl rfl rfl ?_
      refine E_st rfl rfl rfl ?_
      refine E_st rfl rfl rfl ?_
      refine E_st rfl rfl rfl ?_
      refine E_st rfl rfl rfl ?_
      refine E_st rfl rfl rfl ?_
      refine E_st rfl rfl rfl ?_
      refine E_st rfl rfl rfl ?_
      refine E_st rfl rfl rfl ?_
      refine E_st rfl rfl rfl ?_
      refine E_st rfl rfl rfl ?_
      refine E_st rfl rfl rfl ?_
      refine E_st rfl rfl rfl ?_
      refine E_st rfl rfl rfl ?_
      refine E_st rfl rfl rfl ?_
      refine E_st rfl rfl rfl ?_
      refine E_st rfl rfl rfl ?_
      refine E_st rfl rfl rfl ?_
      refine E_st rfl rfl rfl ?_
      refine E_st rfl rfl rfl ?_
      refine E_st rfl rfl rfl ?_
      refine E_st rfl rfl rfl ?_
      refine E_st rfl rfl rfl ?_
      refine E_st rfl rfl rfl ?_
      refine E_st rfl rfl rfl ?_
      refine E_st rfl rfl rfl ?_
      refine E_st rfl rfl rfl ?_
      refine E_st rfl rfl rfl ?_
      refine E_st rfl rfl rfl ?_
      refine E_st rfl rfl rfl ?_
      refine E_st rfl rfl rfl ?_
      refine E_st rfl rfl rfl ?_
      refine E_st rfl rfl rfl ?_
      refine E_st rfl rfl rfl ?_
      refine E_st rfl rfl rfl ?_
      refine E_st rfl rfl rfl ?_
      refine E_st rfl rfl rfl ?_
      refine E_st rfl rfl rfl ?_
      refine E_st rfl rfl rfl ?_
      refine E_st rfl rfl rfl ?_
      refine E_st rfl rfl rfl ?_
      refine E_st rfl rfl rfl ?_
      refine E_st rfl rfl rfl ?_
      refine E_st rfl rfl rfl ?_
      refine E_st rfl rfl rfl ?_
      refine E_st rfl rfl rfl ?_
      refine E_st rfl rfl rfl ?_
      refine E_st rfl rfl rfl ?_
      refine E_st rfl rfl rfl ?_
      refine E_st rfl rfl rfl ?_
      refine E_st rfl rfl rfl ?_
      refine E_st rfl rfl rfl ?_
      refine E_st rfl rfl rfl ?_
      refine E_st rfl rfl rfl ?_
      refine E_st rfl rfl rfl ?_
      refine E_st rfl rfl rfl ?_
      refine E_st rfl rfl rfl ?_
      refine E_st rfl rfl rfl ?_
      refine E_st rfl rfl rfl ?_
      refine E_st rfl rfl rfl ?_
      refine E_st rfl rfl rfl ?_
      refine E_st rfl rfl rfl ?_
      refine E_st rfl rfl rfl ?_
      refine E_st rfl rfl rfl ?_
      refine E_st rfl rfl rfl ?_
      refine E_st rfl rfl rfl ?_
      refine E_st rfl rfl rfl ?_
      refine E_st rfl rfl rfl ?_
      refine E_st rfl rfl rfl ?_
      refine E_st rfl rfl rfl ?_
      refine E_st rfl rfl rfl ?_
      refine E_st rfl rfl rfl ?_
      refine E_st rfl rfl rfl ?_
      refine E_st rfl rfl rfl ?_
      refine E_st rfl rfl rfl ?_
      refine E_st rfl rfl rfl ?_
      refine E_st rfl rfl rfl ?_
      refine E_st rfl rfl rfl ?_
      refine E_st rfl rfl rfl ?_
      refine E_st rfl rfl rfl ?_
      refine E_st rfl rfl rfl ?_
      refine E_st rfl rfl rfl ?_
      refine E_st rfl rfl rfl ?_
      refine E_st rfl rfl rfl ?_
      refine E_st rfl rfl rfl ?_
      refine E_st rfl rfl rfl ?_
      refine E_st rfl rfl rfl ?_
      refine E_st rfl rfl rfl ?_
      refine E_st rfl rfl rfl ?_
      refine E_st rfl rfl rfl ?_
      refine E_st rfl rfl rfl ?_
      refine E_st rfl rfl rfl ?_
      refine E_st rfl rfl rfl ?_
      refine E_st rfl rfl rfl ?_
      refine E_st rfl rfl rfl ?_
      refine E_st rfl rfl rfl ?_
      refine E_st rfl rfl rfl ?_
      refine E_st rfl rfl rfl ?_
      refine E_st rfl rfl rfl ?_
      refine E_st rfl rfl rfl ?_
      refine E_st rfl rfl rfl ?_
      refine E_st rfl rfl rfl ?_
      refine E_st rfl rfl rfl ?_
      refine E_st rfl rfl rfl ?_
      refine E_st rfl rfl rfl ?_
      refine E_st rfl rfl rfl ?_
      refine E_st rfl rfl rfl ?_
      refine E_st rfl rfl rfl ?_
      refine E_st rfl rfl rfl ?_
      refine E_st rfl rfl rfl ?_
      refine E_st rfl rfl rfl ?_
      refine E_st rfl rfl rfl ?_
      refine E_st rfl rfl rfl ?_
      refine E_st rfl rfl rfl ?_
      refine E_st rfl rfl rfl ?_
      refine E_st rfl rfl rfl ?_
      refine E_st rfl rfl rfl ?_
      refine E_st rfl rfl rfl ?_
      refine E_st rfl rfl rfl ?_
      refine E_st rfl rfl rfl ?_
      refine E_st rfl rfl rfl ?_
      refine E_st rfl rfl rfl ?_
      refine E_st rfl rfl rfl ?_
      refine E_st rfl rfl rfl ?_
      refine E_st rfl rfl rfl ?_
      refine E_st rfl rfl rfl ?_
      refine E_st rfl rfl rfl ?_
      refine E_st rfl rfl rfl ?_
      refine E_st rfl rfl rfl ?_
      refine E_st rfl rfl rfl ?_
      refine E_st rfl rfl rfl ?_
      refine E_st rfl rfl rfl ?_
      refine E_st rfl rfl rfl ?_
      refine E_st rfl rfl rfl ?_
      refine E_st rfl rfl rfl ?_
      refine E_st rfl rfl rfl ?_
      refine E_st rfl rfl rfl ?_
      refine E_st rfl rfl rfl ?_
      refine E_st rfl rfl rfl ?_
      refine E_st rfl rfl rfl ?_
      refine E_st rfl rfl rfl ?_
      refine E_st rfl rfl rfl ?_
      refine E_st rfl rfl rfl ?_
      refine E_st rfl rfl rfl ?_
      refine E_st rfl rfl rfl ?_
      refine E_st rfl rfl rfl ?_
      refine E_st rfl rfl rfl ?_
      refine E_st rfl rfl rfl ?_
      refine E_st rfl rfl rfl ?_
      refine E_st rfl rfl rfl ?_
      refine E_st rfl rfl rfl ?_
      refine E_st rfl rfl rfl ?_
      refine E_st rfl rfl rfl ?_
      refine E_st rfl rfl rfl ?_
      refine E_st rfl rfl rfl ?_
      refine E_st rfl rfl rfl ?_
      refine E_st rfl rfl rfl ?_
      refine E_st rfl rfl rfl ?_
      refine E_st rfl rfl rfl ?_
      refine E_st rfl rfl rfl ?_
      refine E_st rfl rfl rfl ?_
      refine E_st rfl rfl rfl ?_
      refine E_st rfl rfl rfl ?_
      refine E_st rfl rfl rfl ?_
      refine E_st rfl rfl rfl ?_
      refine E_st rfl rfl rfl ?_
      refine E_st rfl rfl rfl ?_
      refine E_ret rfl rfl ?_
      refine E_st rfl rfl rfl ?_
      refine E_st rfl rfl rfl ?_
      refine E_st rfl rfl rfl ?_
      refine E_ialdv (v := 0) (N := 12) rfl rfl rfl (by omega) (by omega) (by
        have hg : a2 = 0 ∨ a2 = 1 ∨ a2 = 2 ∨ a2 = 3 ∨ a2 = 4 ∨ a2 = 5 ∨ a2 = 6 ∨ a2 = 7 ∨ a2 = 8 ∨ a2 = 9 ∨ a2 = 10 ∨ a2 = 11 := by omega
        rcases hg with rfl | rfl | rfl | rfl | rfl | rfl | rfl | rfl | rfl | rfl | rfl | rfl <;> rfl) ?_
      refine E_st rfl rfl rfl ?_
      refine E_st rfl rfl rfl ?_
      refine E_st rfl rfl rfl ?_
      refine E_st rfl rfl rfl ?_
      refine E_ret rfl rfl ?_
      refine E_st rfl rfl rfl ?_
      refine E_st rfl rfl rfl ?_
      refine E_st rfl rfl rfl ?_
      refine E_st rfl rfl rfl ?_
      refine E_st rfl rfl rfl ?_
      refine E_st rfl rfl rfl ?_
      refine E_st rfl rfl rfl ?_
      refine E_st rfl rfl rfl ?_
      refine E_st rfl rfl rfl ?_
      refine E_st rfl rfl rfl ?_
      exact E_ret rfl rfl ⟨rfl, rfl⟩
    · refine E_st rfl rfl rfl ?_
      refine E_ret rfl rfl ?_
      refine E_st rfl rfl rfl ?_
      refine E_st rfl rfl rfl ?_
      refine E_st rfl rfl rfl ?_
      refine E_st rfl rfl rfl ?_
      refine E_st rfl rfl rfl ?_
      refine E_scr rfl rfl h1 ?_
      refine E_st rfl rfl rfl ?_
      refine E_st rfl rfl rfl ?_
      refine E_st rfl rfl rfl ?_
      refine E_st rfl rfl rfl ?_
      refine E_scr rfl rfl h2 ?_
      refine E_call rfl rfl ?_
      refine E_st rfl rfl rfl ?_
      refine E_call rfl rfl ?_
      refine E_st rfl rfl rfl ?_
      refine E_st rfl rfl rfl ?_
      refine E_st rfl rfl rfl ?_
      refine E_call rfl rfl ?_
      refine E_st rfl rfl rfl ?_
      refine E_st rfl rfl rfl ?_
      refine E_st rfl rfl rfl ?_
      refine E_st rfl rfl rfl ?_
      refine E_st rfl rfl rfl ?_
      refine E_st rfl rfl rfl ?_
      refine E_st rfl rfl rfl ?_
      refine E_st rfl rfl rfl ?_
      refine E_ret rfl rfl ?_
      refine E_ret rfl rfl ?_
      refine E_st rfl rfl rfl ?_
      refine E_st rfl rfl rfl ?_
      refine E_st rfl rfl rfl ?_
      refine E_st rfl rfl rfl ?_
      refine E_call rfl rfl ?_
      refine E_st rfl rfl rfl ?_
      refine E_st rfl rfl rfl ?_
      refine E_icmp_lt (y := 0) rfl (by decide) (fun q => absurd q (by omega)) (fun _ => ?_)
      refine E_st rfl rfl rfl ?_
      refine E_st rfl rfl rfl ?_
      refine E_icmp_gt (y := 11) rfl (by decide) (fun _ => ?_) (fun q => absurd q (by omega))
      refine E_st rfl rfl rfl ?_
      refine E_ret rfl rfl ?_
      refine E_st rfl rfl rfl ?_
      refine E_st rfl rfl rfl ?_
      refine E_ret rfl rfl ?_
      refine E_st rfl rfl rfl ?_
      refine E_st rfl rfl rfl ?_
      refine E_st rfl rfl rfl ?_
      refine E_st rfl rfl rfl ?_
      refine E_st rfl rfl rfl ?_
      refine E_st rfl rfl rfl ?_
      refine E_st rfl rfl rfl ?_
      refine E_st rfl rfl rfl ?_
      refine E_st rfl rfl rfl ?_
      refine E_st rfl rfl rfl ?_
      exact E_ret rfl rfl ⟨rfl, rfl⟩
set_option maxRecDepth 100000 in
set_option maxHeartbeats 40000000 in
theorem pc_25_2 (xs : Nat → Int) {z a2 a3 a4 a5 : Int} (hz : b32 (fun a b => a &&& b) z 31 = 25) (h0 : xs 0 = z) (h1 : xs 1 = 2) (h2 : xs 2 = a2) (h3 : xs 3 = a3) (h4 : xs 4 = a4) (h5 : xs 5 = a5) : E 0 18 LL [] (s0 xs 6) PQ := by
  refine E_st rfl rfl rfl ?_
  refine E_st rfl rfl rfl ?_
  refine E_st rfl rfl rfl ?_
  refine E_st rfl rfl rfl ?_
  refine E_st rfl rfl rfl ?_
  refine E_st rfl rfl rfl ?_
  refine E_st rfl rfl rfl ?_
  refine E_st rfl rfl rfl ?_
  refine E_scr rfl rfl h0 ?_
  refine E_st rfl rfl rfl ?_
  refine E_st rfl rfl rfl ?_
  refine E_val hz ?_
  refine E_st rfl rfl rfl ?_
  refine E_st rfl rfl rfl ?_
  refine E_st rfl rfl rfl ?_
  refine E_st rfl rfl rfl ?_
  refine E_st rfl rfl rfl ?_
  refine E_st rfl rfl rfl ?_
  refine E_scr rfl rfl h1 ?_
  refine E_st rfl rfl rfl ?_
  refine E_st rfl rfl rfl ?_
  refine E_st rfl rfl rfl ?_
  refine E_st rfl rfl rfl ?_
  refine E_scr rfl rfl h2 ?_
  refine E_call rfl rfl ?_
  refine E_st rfl rfl rfl ?_
  refine E_st rfl rfl rfl ?_
  refine E_call rfl rfl ?_
  refine E_st rfl rfl rfl ?_
  refine E_st rfl rfl rfl ?_
  refine E_st rfl rfl rfl ?_
  refine E_st rfl rfl rfl ?_
  refine E_st rfl rfl rfl ?_
  refine E_st rfl rfl rfl ?_
  refine E_st rfl rfl rfl ?_
  refine E_st rfl rfl rfl ?_
  refine E_st rfl rfl rfl ?_
  refine E_st rfl rfl rfl ?_
  refine E_ret rfl rfl ?_
  refine E_st rfl rfl rfl ?_
  refine E_st rfl rfl rfl ?_
  refine E_st rfl rfl rfl ?_
  refine E_st rfl rfl rfl ?_
  refine E_if_lt rfl (by decide) (fun _ => ?_) (fun _ => ?_)
  · refine E_st rfl rfl rfl ?_
    refine E_ret rfl rfl ?_
    refine E_st rfl rfl rfl ?_
    refine E_st rfl rfl rfl ?_
    refine E_st rfl rfl rfl ?_
    refine E_st rfl rfl rfl ?_
    refine E_st rfl rfl rfl ?_
    refine E_scr rfl rfl h1 ?_
    refine E_st rfl rfl rfl ?_
    refine E_st rfl rfl rfl ?_
    refine E_st rfl rfl rfl ?_
    refine E_st rfl rfl rfl ?_
    refine E_scr rfl rfl h2 ?_
    refine E_call rfl rfl ?_
    refine E_st rfl rfl rfl ?_
    refine E_call rfl rfl ?_
    refine E_st rfl rfl rfl ?_
    refine E_st rfl rfl rfl ?_
    refine E_st rfl rfl rfl ?_
    refine E_call rfl rfl ?_
    refine E_st rfl rfl rfl ?_
    refine E_st rfl rfl rfl ?_
    refine E_st rfl rfl rfl ?_
    refine E_st rfl rfl rfl ?_
    refine E_st rfl rfl rfl ?_
    refine E_st rfl rfl rfl ?_
    refine E_st rfl rfl rfl ?_
    refine E_st rfl rfl rfl ?_
    refine E_ret rfl rfl ?_
    refine E_ret rfl rfl ?_
    refine E_st rfl rfl rfl ?_
    refine E_st rfl rfl rfl ?_
    refine E_st rfl rfl rfl ?_
    refine E_st rfl rfl rfl ?_
    refine E_call rfl rfl ?_
    refine E_st rfl rfl rfl ?_
    refine E_st rfl rfl rfl ?_
    refine E_icmp_lt (y := 0) rfl (by decide) (fun _ => ?_) (fun q => absurd q (by omega))
    refine E_st rfl rfl rfl ?_
    refine E_ret rfl rfl ?_
    refine E_st rfl rfl rfl ?_
    refine E_st rfl rfl rfl ?_
    refine E_ret rfl rfl ?_
    refine E_st rfl rfl rfl ?_
    refine E_st rfl rfl rfl ?_
    refine E_st rfl rfl rfl ?_
    refine E_st rfl rfl rfl ?_
    refine E_st rfl rfl rfl ?_
    refine E_st rfl rfl rfl ?_
    refine E_st rfl rfl rfl ?_
    refine E_st rfl rfl rfl ?_
    refine E_st rfl rfl rfl ?_
    refine E_st rfl rfl rfl ?_
    exact E_ret rfl rfl ⟨rfl, rfl⟩
  · refine E_st rfl rfl rfl ?_
    refine E_st rfl rfl rfl ?_
    refine E_icmp_lt (y := 12) rfl (by decide) (fun _ => ?_) (fun _ => ?_)
    · refine E_st rfl rfl rfl ?_
      refine E_st rfl rfl rfl ?_
      refine E_st rfl rfl rfl ?_
      refine E_st rfl rfl rfl ?_
      refine E_st rfl rfl rfl ?_
      refine E_call rfl rfl ?_
      refine E_st rfl rfl rfl ?_
      refine E_st rfl rfl rfl ?_
      refine E_st rfl rfl rfl ?_
      refine E_st rfl rfl rfl ?_
      refine E_st rfl rfl rfl ?_
      refine E_st rfl rfl rfl ?_
      refine E_st rfl rfl rfl ?_
      refine E_st rfl rfl rfl ?_
      refine E_st rfl rfl rfl ?_
      refine E_ret rfl rfl ?_
      refine E_st rfl rfl rfl ?_
      refine E_st rfl rfl rfl ?_
      refine E_st rfl rfl rfl ?_
      refine E_st rfl rfl rfl ?_
      refine E_st rfl rfl rfl ?_
      refine E_st rfl rfl rfl ?_
      refine E_st rfl rfl rfl ?_
      refine E_ret rfl rfl ?_
      refine E_st rfl rfl rfl ?_
      refine E_st rfl rfl rfl ?_
      refine E_st rfl rfl rfl ?_
      refine E_st rfl rfl rfl ?_
      refine E_st rfl rfl rfl ?_
      refine E_scr rfl rfl h1 ?_
      refine E_st rfl rfl rfl ?_
      refine E_st rfl rfl rfl ?_
      refine E_st rfl rfl rfl ?_
      refine E_st rfl rfl rfl ?_
      refine E_scr rfl rfl h2 ?_
      refine E_call rfl rfl ?_
      refine E_st rfl rfl rfl ?_
      refine E_call rfl rfl ?_
      refine E_st rfl rfl rfl ?_
      refine E_st rfl rfl rfl ?_
      refine E_st rfl rfl rfl ?_
      refine E_call rfl rfl ?_
      refine E_st rfl rfl rfl ?_
      refine E_st rfl rfl rfl ?_
      refine E_st rfl rfl rfl ?_
      refine E_st rfl rfl rfl ?_
      refine E_st rfl rfl rfl ?_
      refine E_st rfl rfl rfl ?_
      refine E_st rfl rfl rfl ?_
      refine E_st rfl rfl rfl ?_
      refine E_ret rfl rfl ?_
      refine E_ret rfl rfl ?_
      refine E_st rfl rfl rfl ?_
      refine E_st rfl rfl rfl ?_
      refine E_st rfl rfl rfl ?_
      refine E_st rfl rfl rfl ?_
      refine E_call rfl rfl ?_
      refine E_st rfl rfl rfl ?_
      refine E_st rfl rfl rfl ?_
      refine E_icmp_lt (y := 0) rfl (by decide) (fun q => absurd q (by omega)) (fun _ => ?_)
      refine E_st rfl rfl rfl ?_
      refine E_st rfl rfl rfl ?_
      refine E_icmp_gt (y := 11) rfl (by decide) (fun q => absurd q (by omega)) (fun _ => ?_)
      refine E_st rfl rfl rfl ?_
      refine E_st rfl rfl rfl ?_
      refine E_ret rfl rfl ?_
      refine E_st rfl rfl rfl ?_
      refine E_st rfl rfl rfl ?_
      refine E_st rfl rfl rfl ?_
      refine E_call rfl rfl ?_
      refine E_st rfl rfl rfl ?_
      refine E_st rfl rfl rfl ?_
      refine E_st rfl rfl rfl ?_
      refine E_st rfl rfl rfl ?_
      refine E_call rfl rfl ?_
      refine E_st rfl rfl rfl ?_
      refine E_st rfl rfl rfl ?_
      refine E_call rfl rfl ?_
      refine E_st rfl rfl rfl ?_
      refine E_st rfl rfl rfl ?_
      refine mr_loop1 _ 601 0 _ rfl ?_
      refine E_st rfl rfl rfl ?_
      refine E_st rfl rfl rfl ?_
      refine E_st rfl rfl rfl ?_
      refine E_st rfl rfl rfl ?_
      refine E_st rfl rfl rfl ?_
      refine E_st rfl rfl rfl ?_
      refine E_st rfl rfl rfl ?_
      refine E_st rfl rfl rfl ?_
      refine E_st rfl rfl rfl ?_
      refine E_st rfl rfl rfl ?_
      refine E_st rfl rfl rfl ?_
      refine E_st rfl rfl rfl ?_
      refine E_st rfl rfl rfl ?_
      refine E_st rfl rfl rfl ?_
      refine E_st rfl rfl rfl ?_
      refine E_st rfl rfl rfl ?_
      refine E_st rfl rfl rfl ?_
      refine E_st rfl rfl rfl ?_
      refine E_st rfl rfl rfl ?_
      refine mr_loop3 _ 601 0 _ rfl (fun j hj => show (if 0 ≤ j ∧ j < 601 then (0 : Int) else _) = 0 from if_pos ⟨Nat.zero_le _, hj⟩) ?_
      refine E_st rfl rfl rfl ?_
      refine E_st rfl rfl rfl ?_
      refine E_st rfl rfl rfl ?_
      refine E_st rfl rfl rfl ?_
      refine E_st rfl rfl rfl ?_
      refine E_st rfl rfl rfl ?_
      refine E_st rfl rfl rfl ?_
      refine E_st rfl rfl rfl ?_
      refine E_st rfl rfl rfl ?_
      refine E_st rfl rfl rfl ?_
      refine E_st rfl rfl rfl ?_
      refine E_st rfl rfl rfl ?_
      refine E_st rfl rfl rfl ?_
      refine E_ret rfl rfl ?_
      refine E_st rfl rfl rfl ?_
      refine E_st rfl rfl rfl ?_
      refine E_st rfl rfl rfl ?_
      refine E_st rfl rfl rfl ?_
      refine E_st rfl rfl rfl ?_
      refine E_st rfl rfl rfl ?_
      refine E_st rfl rfl rfl ?_
      refine E_st rfl rfl rfl ?_
      refine E_st rfl rfl rfl ?_
      refine E_ret rfl rfl ?_
      refine E_st rfl rfl rfl ?_
      refine E_st rfl rfl rfl ?_
      refine E_st rfl rfl rfl ?_
      refine E_st rfl rfl rfl ?_
      refine E_st rfl rfl rfl ?_
      refine E_st rfl rfl rfl ?_
      refine E_st rfl rfl rfl ?_
      refine E_st rfl rfl rfl ?_
      refine E_st rfl rfl rfl ?_
      refine E_st rfl rfl rfl ?_
      refine E_st rfl rfl rfl ?_
      refine E_st rfl rfl rfl ?_
      refine E_st rfl rfl rfl ?_
      refine E_st rfl rfl rfl ?_
      refine E_st rfl rfl rfl ?_
      refine E_st rfl rfl rfl ?_
      refine E_st rfl rfl rfl ?_
      refine E_st rfl rfl rfl ?_
      refine E_st rfl rfl rfl ?_
      refine E_st rfl rfl rfl ?_
      refine E_st rfl rfl rfl ?_
      refine E_st rfl rfl rfl ?_
      refine E_st rfl rfl rfl ?_
      refine E_st rfl rfl rfl ?_
      refine E_st rfl rfl rfl ?_
      refine E_st rfl rfl rfl ?_
      refine E_st rfl rfl rfl ?_
      refine E_st rfl rfl rfl ?_
      refine E_st rfl rfl rfl ?_
      refine E_st rfl rfl rfl ?_
      refine E_st rfl rfl rfl ?_
      refine E_st rfl rfl rfl ?_
      refine E_st rfl rfl rfl ?_
      refine E_st rfl rfl rfl ?_
      refine E_st rfl rfl rfl ?_
      refine E_st rfl rfl rfl ?_
      refine E_st rfl rfl rfl ?_
      refine E_st rfl rfl rfl ?_
      refine E_st rfl rfl rfl ?_
      refine E_st rfl rfl rfl ?_
      refine E_st rfl rfl rfl ?_
      refine E_st rfl rfl rfl ?_
      refine E_st rfl rfl rfl ?_
      refine E_st rfl rfl rfl ?_
      refine E_st rfl rfl rfl ?_
      refine E_st rfl rfl rfl ?_
      refine E_st rfl rfl rfl ?_
      refine E_st rfl rfl rfl ?_
      refine E_st rfl rfl rfl ?_
      refine E_st rfl rfl rfl ?_
      refine E_st rfl rfl rfl ?_
      refine E_st rfl rfl rfl ?_
      refine E_st rfl rfl rfl ?_
      refine E_st rfl rfl rfl ?_
      refine E_st rfl rfl rfl ?_
      refine E_st rfl rfl rfl ?_
      refine E_st rfl rfl rfl ?_
      refine E_st rfl rfl rfl ?_
      refine E_st rfl rfl rfl ?_
      refine E_st rfl rfl rfl ?_
      refine E_st rfl rfl rfl ?_
      refine E_st rfl rfl rfl ?_
      refine E_st rfl rfl rfl ?_
      refine E_st rfl rfl rfl ?_
      refine E_st rfl rfl rfl ?_
      refine E_st rfl rfl rfl ?_
      refine E_st rfl rfl rfl ?_
      refine E_st rfl rfl rfl ?_
      refine E_st rfl rfl rfl ?_
      refine E_st rfl rfl rfl ?_
      refine E_st rfl rfl rfl ?_
      refine E_st rfl rfl rfl ?_
      refine E_st rfl rfl rfl ?_
      refine E_st rfl rfl rfl ?_
      refine E_st rfl rfl rfl ?_
      refine E_st rfl rfl rfl ?_
      refine E_st rfl rfl rfl ?_
      refine E_st rfl rfl rfl ?_
      refine E_st rfl rfl rfl ?_
      refine E_st rfl rfl rfl ?_
      refine E_st rfl rfl rfl ?_
      refine E_st rfl rfl rfl ?_
      refine E_st rfl rfl rfl ?_
      refine E_st rfl rfl rfl ?_
      refine E_st rfl rfl rfl ?_
      refine E_st rfl rfl rfl ?_
      refine E_st rfl rfl rfl ?_
      refine E_st rfl rfl rfl ?_
      refine E_st rfl rfl rfl ?_
      refine E_st rfl rfl rfl ?_
      refine E_st rfl rfl rfl ?_
      refine E_st rfl rfl rfl ?_
      refine E_st rfl rfl rfl ?_
      refine E_st rfl rfl rfl ?_
      refine E_st rfl rfl rfl ?_
      refine E_st rfl rfl rfl ?_
      refine E_st rfl rfl rfl ?_
      refine E_st rfl rfl rfl ?_
      refine E_st rfl rfl rfl ?_
      refine E_st rfl rfl rfl ?_
      refine E_st rfl rfl rfl ?_
      refine E_st rfl rfl rfl ?_
      refine E_st rfl rfl rfl ?_
      refine E_st rfl rfl rfl ?_
      refine E_st rfl rfl rfl ?_
      refine E_st rfl rfl rfl ?_
      refine E_st rfl rfl rfl ?_
      refine E_st rfl rfl rfl ?_
      refine E_st rfl rfl rfl ?_
      refine E_st rfl rfl rfl ?_
      refine E_st rfl rfl rfl ?_
      refine E_st rfl rfl rfl ?_
      refine E_st rfl rfl rfl ?_
      refine E_st rfl rfl rfl ?_
      refine E_st rfl rfl rfl ?_
      refine E_st rfl rfl rfl ?_
      refine E_st rfl rfl rfl ?_
      refine E_st rfl rfl rfl ?_
      refine E_st rfl rfl rfl ?_
      refine E_st rfl rfl rfl ?_
      refine E_st rfl rfl rfl ?_
      refine E_st rfl rfl rfl ?_
      refine E_st rfl rfl rfl ?_
      refine E_st rfl rfl rfl ?_
      refine E_st rfl rfl rfl ?_
      refine E_st rfl rfl rfl ?_
      refine E_st rfl rfl rfl ?_
      refine E_st rfl rfl rfl ?_
      refine E_st rfl rfl rfl ?_
      refine E_st rfl rfl rfl ?_
      refine E_st rfl rfl rfl ?_
      refine E_st rfl rfl rfl ?_
      refine E_st rfl rfl rfl ?_
      refine E_st rfl rfl rfl ?_
      refine E_st rfl rfl rfl ?_
      refine E_st rfl rfl rfl ?_
      refine E_st rfl rfl rfl ?_
      refine E_st rfl rfl rfl ?_
      refine E_st rfl rfl rfl ?_
      refine E_st rfl rfl rfl ?_
      refine E_st rfl rfl rfl ?_
      refine E_st rfl rfl rfl ?_
      refine E_st rfl rfl rfl ?_
      refine E_st rfl rfl rfl ?_
      refine E_st rfl rfl rfl ?_
      refine E_st rfl rfl rfl ?_
      refine E_st rfl rfl rfl ?_
      refine E_st rfl rfl rfl ?_
      refine E_st rfl rfl rfl ?_
      refine E_st rfl rfl rfl ?_
      refine E_st rfl rfl rfl ?_
      refine E_st rfl rfl rfl ?_
      refine E_st rfl rfl rfl ?_
      refine E_st rfl rfl rfl ?_
      refine E_st rfl rfl rfl ?_
      refine E_st rfl rfl rfl ?_
      refine E_st rfl rfl rfl ?_
      refine E_st rfl rfl rfl ?_
      refine E_st rfl rfl rfl ?_
      refine E_st rfl rfl rfl ?_
      refine E_st rfl rfl rfl ?_
      refine E_st rfl rfl rfl ?_
      refine E_st rfl rfl rfl ?_
      refine E_st rfl rfl rfl ?_
      refine E_st rfl rfl rfl ?_
      refine E_st rfl rfl rfl ?_
      refine E_st rfl rfl rfl ?_
      refine E_st rfl rfl rfl ?_
      refine E_st rfl rfl rfl ?_
      refine E_st rfl rfl rfl ?_
      refine E_st rfl rfl rfl ?_
      refine E_st rfl rfl rfl ?_
      refine E_st rfl rfl rfl ?_
      refine E_st rfl rfl rfl ?_
      refine E_st rfl rfl rfl ?_
      refine E_st rfl rfl rfl ?_
      refine E_st rfl rfl rfl ?_
      refine E_st rfl rfl rfl ?_
      refine E_st rfl rfl rfl ?_
      refine E_st rfl rfl rfl ?_
      refine E_st rfl rfl rfl ?_
      refine E_st rfl rfl rfl ?_
      refine E_st rfl rfl rfl ?_
      refine E_st rfl rfl rfl ?_
      refine E_st rfl rfl rfl ?_
      refine E_st rfl rfl rfl ?_
      refine E_st rfl rfl rfl ?_
      refine E_st rfl rfl rfl ?_
      refine E_st rfl rfl rfl ?_
      refine E_st rfl rfl rfl ?_
      refine E_st rfl rfl rfl ?_
      refine E_st rfl rfl rfl ?_
      refine E_st rfl rfl rfl ?_
      refine E_ret rfl rfl ?_
      refine E_st rfl rfl rfl ?_
      refine E_st rfl rfl rfl ?_
      refine E_st rfl rfl rfl ?_
      refine E_ialdv (v := 0) (N := 12) rfl rfl rfl (by omega) (by omega) (by
        have hg : a2 = 0 ∨ a2 = 1 ∨ a2 = 2 ∨ a2 = 3 ∨ a2 = 4 ∨ a2 = 5 ∨ a2 = 6 ∨ a2 = 7 ∨ a2 = 8 ∨ a2 = 9 ∨ a2 = 10 ∨ a2 = 11 := by omega
        rcases hg with rfl | rfl | rfl | rfl | rfl | rfl | rfl | rfl | rfl | rfl | rfl | rfl <;> rfl) ?_
      refine E_st rfl rfl rfl ?_
      refine E_st rfl rfl rfl ?_
      refine E_st rfl rfl rfl ?_
      refine E_st rfl rfl rfl ?_
      refine E_ret rfl rfl ?_
      refine E_st rfl rfl rfl ?_
      refine E_st rfl rfl rfl ?_
      refine E_st rfl rfl rfl ?_
      refine E_st rfl rfl rfl ?_
      refine E_st rfl rfl rfl ?_
      refine E_st rfl rfl rfl ?_
      refine E_st rfl rfl rfl ?_
      refine E_st rfl rfl rfl ?_
      refine E_st rfl rfl rfl ?_
      refine E_st rfl rfl rfl ?_
      exact E_ret rfl rfl ⟨rfl, rfl⟩
    · refine E_st rfl rfl rfl ?_
      refine E_ret rfl rfl ?_
      refine E_st rfl rfl rfl ?_
      refine E_st rfl rfl rfl ?_
      refine E_st rfl rfl rfl ?_
      refine E_st rfl rfl rfl ?_
      refine E_st rfl rfl rfl ?_
      refine E_scr rfl rfl h1 ?_
      refine E_st rfl rfl rfl ?_
      refine E_st rfl rfl rfl ?_
      refine E_st rfl rfl rfl ?_
      refine E_st rfl rfl rfl ?_
      refine E_scr rfl rfl h2 ?_
      refine E_call rfl rfl ?_
      refine E_st rfl rfl rfl ?_
      refine E_call rfl rfl ?_
      refine E_st rfl rfl rfl ?_
      refine E_st rfl rfl rfl ?_
      refine E_st rfl rfl rfl ?_
      refine E_call rfl rfl ?_
      refine E_st rfl rfl rfl ?_
      refine E_st rfl rfl rfl ?_
      refine E_st rfl rfl rfl ?_
      refine E_st rfl rfl rfl ?_
      refine E_st rfl rfl rfl ?_
      refine E_st rfl rfl rfl ?_
      refine E_st rfl rfl rfl ?_
      refine E_st rfl rfl rfl ?_
      refine E_ret rfl rfl ?_
      refine E_ret rfl rfl ?_
      refine E_st rfl rfl rfl ?_
      refine E_st rfl rfl rfl ?_
      refine E_st rfl rfl rfl ?_
      refine E_st rfl rfl rfl ?_
      refine E_call rfl rfl ?_
      refine E_st rfl rfl rfl ?_
      refine E_st rfl rfl rfl ?_
      refine E_icmp_lt (y := 0) rfl (by decide) (fun q => absurd q (by omega)) (fun _ => ?_)
      refine E_st rfl rfl rfl ?_
      refine E_st rfl rfl rfl ?_
      refine E_icmp_gt (y := 11) rfl (by decide) (fun _ => ?_) (fun q => absurd q (by omega))
      refine E_st rfl rfl rfl ?_
      refine E_ret rfl rfl ?_
      refine E_st rfl rfl rfl ?_
      refine E_st rfl rfl rfl ?_
      refine E_ret rfl rfl ?_
      refine E_st rfl rfl rfl ?_
      refine E_st rfl rfl rfl ?_
      refine E_st rfl rfl rfl ?_
      refine E_st rfl rfl rfl ?_
      refine E_st rfl rfl rfl ?_
      refine E_st rfl rfl rfl ?_
      refine E_st rfl rfl rfl ?_
      refine E_st rfl rfl rfl ?_
      refine E_st rfl rfl rfl ?_
      refine E_st rfl rfl rfl ?_
      exact E_ret rfl rfl ⟨rfl, rfl⟩
set_option maxRecDepth 100000 in
set_option maxHeartbeats 40000000 in
theorem pc_25_3 (xs : Nat → Int) {z a2 a3 a4 a5 : Int} (hz : b32 (fun a b => a &&& b) z 31 = 25) (h0 : xs 0 = z) (h1 : xs 1 = 3) (h2 : xs 2 = a2) (h3 : xs 3 = a3) (h4 : xs 4 = a4) (h5 : xs 5 = a5) : E 0 18 LL [] (s0 xs 6) PQ := by
  refine E_st rfl rfl rfl ?_
  refine E_st rfl rfl rfl ?_
  refine E_st rfl rfl rfl ?_
  refine E_st rfl rfl rfl ?_
  refine E_st rfl rfl rfl ?_
  refine E_st rfl rfl rfl ?_
  refine E_st rfl rfl rfl ?_
  refine E_st rfl rfl rfl ?_
  refine E_scr rfl rfl h0 ?_
  refine E_st rfl rfl rfl ?_
  refine E_st rfl rfl rfl ?_
  refine E_val hz ?_
  refine E_st rfl rfl rfl ?_
  refine E_st rfl rfl rfl ?_
  refine E_st rfl rfl rfl ?_
  refine E_st rfl rfl rfl ?_
  refine E_st rfl rfl rfl ?_
  refine E_st rfl rfl rfl ?_
  refine E_scr rfl rfl h1 ?_
  refine E_st rfl rfl rfl ?_
  refine E_st rfl rfl rfl ?_
  refine E_st rfl rfl rfl ?_
  refine E_st rfl rfl rfl ?_
  refine E_scr rfl rfl h2 ?_
  refine E_call rfl rfl ?_
  refine E_st rfl rfl rfl ?_
  refine E_st rfl rfl rfl ?_
  refine E_call rfl rfl ?_
  refine E_st rfl rfl rfl ?_
  refine E_st rfl rfl rfl ?_
  refine E_st rfl rfl rfl ?_
  refine E_st rfl rfl rfl ?_
  refine E_st rfl rfl rfl ?_
  refine E_st rfl rfl rfl ?_
  refine E_st rfl rfl rfl ?_
  refine E_st rfl rfl rfl ?_
  refine E_st rfl rfl rfl ?_
  refine E_st rfl rfl rfl ?_
  refine E_ret rfl rfl ?_
  refine E_st rfl rfl rfl ?_
  refine E_st rfl rfl rfl ?_
  refine E_st rfl rfl rfl ?_
  refine E_st rfl rfl rfl ?_
  refine E_if_lt rfl (by decide) (fun _ => ?_) (fun _ => ?_)
  · refine E_st rfl rfl rfl ?_
    refine E_ret rfl rfl ?_
    refine E_st rfl rfl rfl ?_
    refine E_st rfl rfl rfl ?_
    refine E_st rfl rfl rfl ?_
    refine E_st rfl rfl rfl ?_
    refine E_st rfl rfl rfl ?_
    refine E_scr rfl rfl h1 ?_
    refine E_st rfl rfl rfl ?_
    refine E_st rfl rfl rfl ?_
    refine E_st rfl rfl rfl ?_
    refine E_st rfl rfl rfl ?_
    refine E_scr rfl rfl h2 ?_
    refine E_call rfl rfl ?_
    refine E_st rfl rfl rfl ?_
    refine E_call rfl rfl ?_
    refine E_st rfl rfl rfl ?_
    refine E_st rfl rfl rfl ?_
    refine E_st rfl rfl rfl ?_
    refine E_call rfl rfl ?_
    refine E_st rfl rfl rfl ?_
    refine E_st rfl rfl rfl ?_
    refine E_st rfl rfl rfl ?_
    refine E_st rfl rfl rfl ?_
    refine E_st rfl rfl rfl ?_
    refine E_st rfl rfl rfl ?_
    refine E_st rfl rfl rfl ?_
    refine E_st rfl rfl rfl ?_
    refine E_ret rfl rfl ?_
    refine E_ret rfl rfl ?_
    refine E_st rfl rfl rfl ?_
    refine E_st rfl rfl rfl ?_
    refine E_st rfl rfl rfl ?_
    refine E_st rfl rfl rfl ?_
    refine E_call rfl rfl ?_
    refine E_st rfl rfl rfl ?_
    refine E_st rfl rfl rfl ?_
    refine E_icmp_lt (y := 0) rfl (by decide) (fun _ => ?_) (fun q => absurd q (by omega))
    refine E_st rfl rfl rfl ?_
    refine E_ret rfl rfl ?_
    refine E_st rfl rfl rfl ?_
    refine E_st rfl rfl rfl ?_
    refine E_ret rfl rfl ?_
    refine E_st rfl rfl rfl ?_
    refine E_st rfl rfl rfl ?_
    refine E_st rfl rfl rfl ?_
    refine E_st rfl rfl rfl ?_
    refine E_st rfl rfl rfl ?_
    refine E_st rfl rfl rfl ?_
    refine E_st rfl rfl rfl ?_
    refine E_st rfl rfl rfl ?_
    refine E_st rfl rfl rfl ?_
    refine E_st rfl rfl rfl ?_
    exact E_ret rfl rfl ⟨rfl, rfl⟩
  · refine E_st rfl rfl rfl ?_
    refine E_st rfl rfl rfl ?_
    refine E_icmp_lt (y := 12) rfl (by decide) (fun _ => ?_) (fun _ => ?_)
    · refine E_st rfl rfl rfl ?_
      refine E_st rfl rfl rfl ?_
      refine E_st rfl rfl rfl ?_
      refine E_st rfl rfl rfl ?_
      refine E_st rfl rfl rfl ?_
      refine E_call rfl rfl ?_
      refine E_st rfl rfl rfl ?_
      refine E_st rfl rfl rfl ?_
      refine E_st rfl rfl rfl ?_
      refine E_st rfl rfl rfl ?_
      refine E_st rfl rfl rfl ?_
      refine E_st rfl rfl rfl ?_
      refine E_st rfl rfl rfl ?_
      refine E_st rfl rfl rfl ?_
      refine E_st rfl rfl rfl ?_
      refine E_ret rfl rfl ?_
      refine E_st rfl rfl rfl ?_
      refine E_st rfl rfl rfl ?_
      refine E_st rfl rfl rfl ?_
      refine E_st rfl rfl rfl ?_
      refine E_st rfl rfl rfl ?_
      refine E_st rfl rfl rfl ?_
      refine E_st rfl rfl rfl ?_
      refine E_ret rfl rfl ?_
      refine E_st rfl rfl rfl ?_
      refine E_st rfl rfl rfl ?_
      refine E_st rfl rfl rfl ?_
      refine E_st rfl rfl rfl ?_
      refine E_st rfl rfl rfl ?_
      refine E_scr rfl rfl h1 ?_
      refine E_st rfl rfl rfl ?_
      refine E_st rfl rfl rfl ?_
      refine E_st rfl rfl rfl ?_
      refine E_st rfl rfl rfl ?_
      refine E_scr rfl rfl h2 ?_
      refine E_call rfl rfl ?_
      refine E_st rfl rfl rfl ?_
      refine E_call rfl rfl ?_
      refine E_st rfl rfl rfl ?_
      refine E_st rfl rfl rfl ?_
      refine E_st rfl rfl rfl ?_
      refine E_call rfl rfl ?_
      refine E_st rfl rfl rfl ?_
      refine E_st rfl rfl rfl ?_
      refine E_st rfl rfl rfl ?_
      refine E_st rfl rfl rfl ?_
      refine E_st rfl rfl rfl ?_
      refine E_st rfl rfl rfl ?_
      refine E_st rfl rfl rfl ?_
      refine E_st rfl rfl rfl ?_
      refine E_ret rfl rfl ?_
      refine E_ret rfl rfl ?_
      refine E_st rfl rfl rfl ?_
      refine E_st rfl rfl rfl ?_
      refine E_st rfl rfl rfl ?_
      refine E_st rfl rfl rfl ?_
      refine E_call rfl rfl ?_
      refine E_st rfl rfl rfl ?_
      refine E_st rfl rfl rfl ?_
      refine E_icmp_lt (y := 0) rfl (by decide) (fun q => absurd q (by omega)) (fun _ => ?_)
      refine E_st rfl rfl rfl ?_
      refine E_st rfl rfl rfl ?_
      refine E_icmp_gt (y := 11) rfl (by decide) (fun q => absurd q (by omega)) (fun _ => ?_)
      refine E_st rfl rfl rfl ?_
      refine E_st rfl rfl rfl ?_
      refine E_ret rfl rfl ?_
      refine E_st rfl rfl rfl ?_
      refine E_st rfl rfl rfl ?_
      refine E_st rfl rfl rfl ?_
      refine E_call rfl rfl ?_
      refine E_st rfl rfl rfl ?_
      refine E_st rfl rfl rfl ?_
      refine E_st rfl rfl rfl ?_
      refine E_st rfl rfl rfl ?_
      refine E_call rfl rfl ?_
      refine E_st rfl rfl rfl ?_
      refine E_st rfl rfl rfl ?_
      refine E_call rfl rfl ?_
      refine E_st rfl rfl rfl ?_
      refine E_st rfl rfl rfl ?_
      refine mr_loop1 _ 601 0 _ rfl ?_
      refine E_st rfl rfl rfl ?_
      refine E_st rfl rfl rfl ?_
      refine E_st rfl rfl rfl ?_
      refine E_st rfl rfl rfl ?_
      refine E_st rfl rfl rfl ?_
      refine E_st rfl rfl rfl ?_
      refine E_st rfl rfl rfl ?_
      refine E_st rfl rfl rfl ?_
      refine E_st rfl rfl rfl ?_
      refine E_st rfl rfl rfl ?_
      refine E_st rfl rfl rfl ?_
      refine E_st rfl rfl rfl ?_
      refine E_st rfl rfl rfl ?_
      refine E_st rfl rfl rfl ?_
      refine E_st rfl rfl rfl ?_
      refine E_st rfl rfl rfl ?_
      refine E_st rfl rfl rfl ?_
      refine E_st rfl rfl rfl ?_
      refine E_st rfl rfl rfl ?_
      refine mr_loop3 _ 601 0 _ rfl (fun j hj => show (if 0 ≤ j ∧ j < 601 then (0 : Int) else _) = 0 from if_pos ⟨Nat.zero_le _, hj⟩) ?_
      refine E_st rfl rfl rfl ?_
      refine E_st rfl rfl rfl ?_
      refine E_st rfl rfl rfl ?_
      refine E_st rfl rfl rfl ?_
      refine E_st rfl rfl rfl ?_
      refine E_st rfl rfl rfl ?_
      refine E_st rfl rfl rfl ?_
      refine E_st rfl rfl rfl ?_
      refine E_st rfl rfl rfl ?_
      refine E_st rfl rfl rfl ?_
      refine E_st rfl rfl rfl ?_
      refine E_st rfl rfl rfl ?_
      refine E_st rfl rfl rfl ?_
      refine E_ret rfl rfl ?_
      refine E_st rfl rfl rfl ?_
      refine E_st rfl rfl rfl ?_
      refine E_st rfl rfl rfl ?_
      refine E_st rfl rfl rfl ?_
      refine E_st rfl rfl rfl ?_
      refine E_st rfl rfl rfl ?_
      refine E_st rfl rfl rfl ?_
      refine E_st rfl rfl rfl ?_
      refine E_st rfl rfl rfl ?_
      refine E_ret rfl rfl ?_
      refine E_st rfl rfl rfl ?_
      refine E_st rfl rfl rfl ?_
      refine E_st rfl rfl rfl ?_
      refine E_st rfl rfl rfl ?_
      refine E_st rfl rfl rfl ?_
      refine E_st rfl rfl rfl ?_
      refine E_st rfl rfl rfl ?_
      refine E_st rfl rfl rfl ?_
      refine E_st rfl rfl rfl ?_
      refine E_st rfl rfl rfl ?_
      refine E_st rfl rfl rfl ?_
      refine E_st rfl rfl rfl ?_
      refine E_st rfl rfl rfl ?_
      refine E_st rfl rfl rfl ?_
      refine E_st rfl rfl rfl ?_
      refine E_st rfl rfl rfl ?_
      refine E_st rfl rfl rfl ?_
      refine E_st rfl rfl rfl ?_
      refine E_st rfl rfl rfl ?_
      refine E_st rfl rfl rfl ?_
      refine E_st rfl rfl rfl ?_
      refine E_st rfl rfl rfl ?_
      refine E_st rfl rfl rfl ?_
      refine E_st rfl rfl rfl ?_
      refine E_st rfl rfl rfl ?_
      refine E_st rfl rfl rfl ?_
      refine E_st rfl rfl rfl ?_
      refine E_st rfl rfl rfl ?_
      refine E_st rfl rfl rfl ?_
      refine E_st rfl rfl rfl ?_
      refine E_st rfl rfl rfl ?_
      refine E_st rfl rfl rfl ?_
      refine E_st rfl rfl rfl ?_
      refine E_st rfl rfl rfl ?_
      refine E_st rfl rfl rfl ?_
      refine E_st rfl rfl rfl ?_
      refine E_st rfl rfl rfl ?_
      refine E_st rfl rfl rfl ?_
      refine E_st rfl rfl rfl ?_
      refine E_st rfl rfl rfl ?_
      refine E_st rfl rfl rfl ?_
      refine E_st rfl rfl rfl ?_
      refine E_st rfl rfl rfl ?_
      refine E_st rfl rfl rfl ?_
      refine E_st rfl rfl rfl ?_
      refine E_st rfl rfl rfl ?_
      refine E_st rfl rfl rfl ?_
      refine E_st rfl rfl rfl ?_
      refine E_st rfl rfl rfl ?_
      refine E_st rfl rfl rfl ?_
      refine E_st rfl rfl rfl ?_
      refine E_st rfl rfl rfl ?_
      refine E_st rfl rfl rfl ?_
      refine E_st rfl rfl rfl ?_
      refine E_st rfl rfl rfl ?_
      refine E_st rfl rfl rfl ?_
      refine E_st rfl rfl rfl ?_
      refine E_st rfl rfl rfl ?_
      refine E_st rfl rfl rfl ?_
      refine E_st rfl rfl rfl ?_
      refine E_st rfl rfl rfl ?_
      refine E_st rfl rfl rfl ?_
      refine E_st rfl rfl rfl ?_
      refine E_st rfl rfl rfl ?_
      refine E_st rfl rfl rfl ?_
      refine E_st rfl rfl rfl ?_
      refine E_st rfl rfl rfl ?_
      refine E_st rfl rfl rfl ?_
      refine E_st rfl rfl rfl ?_
      refine E_st rfl rfl rfl ?_
      refine E_st rfl rfl rfl ?_
      refine E_st rfl rfl rfl ?_
      refine E_st rfl rfl rfl ?_
      refine E_st rfl rfl rfl ?_
      refine E_st rfl rfl rfl ?_
      refine E_st rfl rfl rfl ?_
      refine E_st rfl rfl rfl ?_
      refine E_st rfl rfl rfl ?_
      refine E_st rfl rfl rfl ?_
      refine E_st rfl rfl rfl ?_
      refine E_st rfl rfl rfl ?_
      refine E_st rfl rfl rfl ?_
      refine E_st rfl rfl rfl ?_
      refine E_st rfl rfl rfl ?_
      refine E_st rfl rfl rfl ?_
      refine E_st rfl rfl rfl ?_
      refine E_st rfl rfl rfl ?_
      refine E_st rfl rfl rfl ?_
      refine E_st rfl rfl rfl ?_
      refine E_st rfl rfl rfl ?_
      refine E_st rfl rfl rfl ?_
      refine E_st rfl rfl rfl ?_
      refine E_st rfl rfl rfl ?_
      refine E_st rfl rfl rfl ?_
      refine E_st rfl rfl rfl ?_
      refine E_st rfl rfl rfl ?_
      refine E_st rfl rfl rfl ?_
      refine E_st rfl rfl rfl ?_
      refine E_st rfl rfl rfl ?_
      refine E_st rfl rfl rfl ?_
      refine E_st rfl rfl rfl ?_
      refine E_st rfl rfl rfl ?_
      refine E_st rfl rfl rfl ?_
      refine E_st rfl rfl rfl ?_
      refine E_st rfl rfl rfl ?_
      refine E_st rfl rfl rfl ?_
      refine E_st rfl rfl rfl ?_
      refine E_st rfl rfl rfl ?_
      refine E_st rfl rfl rfl ?_
      refine E_st rfl rfl rfl ?_
      refine E_st rfl rfl rfl ?_
      refine E_st rfl rfl rfl ?_
      refine E_st rfl rfl rfl ?_
      refine E_st rfl rfl rfl ?_
      refine E_st rfl rfl rfl ?_
      refine E_st rfl rfl rfl ?_
      refine E_st rfl rfl rfl ?_
      refine E_st rfl rfl rfl ?_
      refine E_st rfl rfl rfl ?_
      refine E_st rfl rfl rfl ?_
      refine E_st rfl rfl rfl ?_
      refine E_st rfl rfl rfl ?_
      refine E_st rfl rfl rfl ?_
      refine E_st rfl rfl rfl ?_
      refine E_st rfl rfl rfl ?_
      refine E_st rfl rfl rfl ?_
      refine E_st rfl rfl rfl ?_
      refine E_st rfl rfl rfl ?_
      refine E_st rfl rfl rfl ?_
      refine E_st rfl rfl rfl ?_
      refine E_st rfl rfl rfl ?_
      refine E_st rfl rfl rfl ?_
      refine E_st rfl rfl rfl ?_
      refine E_st rfl rfl rfl ?_
      refine E_st rfl rfl rfl ?_
      refine E_st rfl rfl rfl ?_
      refine E_st rfl rfl rfl ?_
      refine E_st rfl rfl rfl ?_
      refine E_st rfl rfl rfl ?_
      refine E_st rfl rfl rfl ?_
      refine E_st rfl rfl rfl ?_
      refine E_st rfl rfl rfl ?_
      refine E_st rfl rfl rfl ?_
      refine E_st rfl rfl rfl ?_
      refine E_st rfl rfl rfl ?_
      refine E_st rfl rfl rfl ?_
      refine E_st rfl rfl rfl ?_
      refine E_st rfl rfl rfl ?_
      refine E_st rfl rfl rfl ?_
      refine E_st rfl rfl rfl ?_
      refine E_st rfl rfl rfl ?_
      refine E_st rfl rfl rfl ?_
      refine E_st rfl rfl rfl ?_
      refine E_st rfl rfl rfl ?_
      refine E_st rfl rfl rfl ?_
      refine E_st rfl rfl rfl ?_
      refine E_st rfl rfl rfl ?_
      refine E_st rfl rfl rfl ?_
      refine E_st rfl rfl rfl ?_
      refine E_st rfl rfl rfl ?_
      refine E_st rfl rfl rfl ?_
      refine E_st rfl rfl rfl ?_
      refine E_st rfl rfl rfl ?_
      refine E_st rfl rfl rfl ?_
      refine E_st rfl rfl rfl ?_
      refine E_st rfl rfl rfl ?_
      refine E_st rfl rfl rfl ?_
      refine E_st rfl rfl rfl ?_
      refine E_st rfl rfl rfl ?_
      refine E_st rfl rfl rfl ?_
      refine E_st rfl rfl rfl ?_
      refine E_st rfl rfl rfl ?_
      refine E_st rfl rfl rfl ?_
      refine E_st rfl rfl rfl ?_
      refine E_st rfl rfl rfl ?_
      refine E_st rfl rfl rfl ?_
      refine E_st rfl rfl rfl ?_
      refine E_st rfl rfl rfl ?_
      refine E_st rfl rfl rfl ?_
      refine E_st rfl rfl rfl ?_
      refine E_st rfl rfl rfl ?_
      refine E_st rfl rfl rfl ?_
      refine E_st rfl rfl rfl ?_
      refine E_st rfl rfl rfl ?_
      refine E_st rfl rfl rfl ?_
      refine E_st rfl rfl rfl ?_
      refine E_st rfl rfl rfl ?_
      refine E_st rfl rfl rfl ?_
      refine E_st rfl rfl rfl ?_
      refine E_st rfl rfl rfl ?_
      refine E_st rfl rfl rfl ?_
      refine E_st rfl rfl rfl ?_
      refine E_st rfl rfl rfl ?_
      refine E_ret rfl rfl ?_
      refine E_st rfl rfl rfl ?_
      refine E_st rfl rfl rfl ?_
      refine E_st rfl rfl rfl ?_
      refine E_ialdv (v := 0) (N := 12) rfl rfl rfl (by omega) (by omega) (by
        have hg : a2 = 0 ∨ a2 = 1 ∨ a2 = 2 ∨ a2 = 3 ∨ a2 = 4 ∨ a2 = 5 ∨ a2 = 6 ∨ a2 = 7 ∨ a2 = 8 ∨ a2 = 9 ∨ a2 = 10 ∨ a2 = 11 := by omega
        rcases hg with rfl | rfl | rfl | rfl | rfl | rfl | rfl | rfl | rfl | rfl | rfl | rfl <;> rfl) ?_
      refine E_st rfl rfl rfl ?_
      refine E_st rfl rfl rfl ?_
      refine E_st rfl rfl rfl ?_
      refine E_st rfl rfl rfl ?_
      refine E_ret rfl rfl ?_
      refine E_st rfl rfl rfl ?_
      refine E_st rfl rfl rfl ?_
      refine E_st rfl rfl rfl ?_
      refine E_st rfl rfl rfl ?_
      refine E_st rfl rfl rfl ?_
      refine E_st rfl rfl rfl ?_
      refine E_st rfl rfl rfl ?_
      refine E_st rfl rfl rfl ?_
      refine E_st rfl rfl rfl ?_
      refine E_st rfl rfl rfl ?_
      exact E_ret rfl rfl ⟨rfl, rfl⟩
    · refine E_st rfl rfl rfl ?_
      refine E_ret rfl rfl ?_
      refine E_st rfl rfl rfl ?_
      refine E_st rfl rfl rfl ?_
      refine E_st rfl rfl rfl ?_
      refine E_st rfl rfl rfl ?_
      refine E_st rfl rfl rfl ?_
      refine E_scr rfl rfl h1 ?_
      refine E_st rfl rfl rfl ?_
      refine E_st rfl rfl rfl ?_
      refine E_st rfl rfl rfl ?_
      refine E_st rfl rfl rfl ?_
      refine E_scr rfl rfl h2 ?_
      refine E_call rfl rfl ?_
      refine E_st rfl rfl rfl ?_
      refine E_call rfl rfl ?_
      refine E_st rfl rfl rfl ?_
      refine E_st rfl rfl rfl ?_
      refine E_st rfl rfl rfl ?_
      refine E_call rfl rfl ?_
      refine E_st rfl rfl rfl ?_
      refine E_st rfl rfl rfl ?_
      refine E_st rfl rfl rfl ?_
      refine E_st rfl rfl rfl ?_
      refine E_st rfl rfl rfl ?_
      refine E_st rfl rfl rfl ?_
      refine E_st rfl rfl rfl ?_
      refine E_st rfl rfl rfl ?_
      refine E_ret rfl rfl ?_
      refine E_ret rfl rfl ?_
      refine E_st rfl rfl rfl ?_
      refine E_st rfl rfl rfl ?_
      refine E_st rfl rfl rfl ?_
      refine E_st rfl rfl rfl ?_
      refine E_call rfl rfl ?_
      refine E_st rfl rfl rfl ?_
      refine E_st rfl rfl rfl ?_
      refine E_icmp_lt (y := 0) rfl (by decide) (fun q => absurd q (by omega)) (fun _ => ?_)
      refine E_st rfl rfl rfl ?_
      refine E_st rfl rfl rfl ?_
      refine E_icmp_gt (y := 11) rfl (by decide) (fun _ => ?_) (fun q => absurd q (by omega))
      refine E_st rfl rfl rfl ?_
      refine E_ret rfl rfl ?_
      refine E_st rfl rfl rfl ?_
      refine E_st rfl rfl rfl ?_
      refine E_ret rfl rfl ?_
      refine E_st rfl rfl rfl ?_
      refine E_st rfl rfl rfl ?_
      refine E_st rfl rfl rfl ?_
      refine E_st rfl rfl rfl ?_
      refine E_st rfl rfl rfl ?_
      refine E_st rfl rfl rfl ?_
      refine E_st rfl rfl rfl ?_
      refine E_st rfl rfl rfl ?_
      refine E_st rfl rfl rfl ?_
      refine E_st rfl rfl rfl ?_
      exact E_ret rfl rfl ⟨rfl, rfl⟩
set_option maxRecDepth 100000 in
set_option maxHeartbeats 40000000 in
theorem pc_25_o (xs : Nat → Int) {z a1 a2 a3 a4 a5 : Int} (hz : b32 (fun a b => a &&& b) z 31 = 25) (h0 : xs 0 = z) (h1 : xs 1 = a1) (h2 : xs 2 = a2) (h3 : xs 3 = a3) (h4 : xs 4 = a4) (h5 : xs 5 = a5) (hr : a1 < 0 ∨ 3 < a1) : E 0 18 LL [] (s0 xs 6) PQ := by
  refine E_st rfl rfl rfl ?_
  refine E_st rfl rfl rfl ?_
  refine E_st rfl rfl rfl ?_
  refine E_st rfl rfl rfl ?_
  refine E_st rfl rfl rfl ?_
  refine E_st rfl rfl rfl ?_
  refine E_st rfl rfl rfl ?_
  refine E_st rfl rfl rfl ?_
  refine E_scr rfl rfl h0 ?_
  refine E_st rfl rfl rfl ?_
  refine E_st rfl rfl rfl ?_
  refine E_val hz ?_
  refine E_st rfl rfl rfl ?_
  refine E_st rfl rfl rfl ?_
  refine E_st rfl rfl rfl ?_
  refine E_st rfl rfl rfl ?_
  refine E_st rfl rfl rfl ?_
  refine E_st rfl rfl rfl ?_
  refine E_scr rfl rfl h1 ?_
  refine E_st rfl rfl rfl ?_
  refine E_st rfl rfl rfl ?_
  refine E_st rfl rfl rfl ?_
  refine E_st rfl rfl rfl ?_
  refine E_scr rfl rfl h2 ?_
  refine E_call rfl rfl ?_
  refine E_st rfl rfl rfl ?_
  refine E_st rfl rfl rfl ?_
  refine E_call rfl rfl ?_
  refine E_st rfl rfl rfl ?_
  refine E_if_lt rfl (by decide) (fun _ => ?_) (fun _ => ?_)
  · refine E_st rfl rfl rfl ?_
    refine E_ret rfl rfl ?_
    refine E_st rfl rfl rfl ?_
    refine E_st rfl rfl rfl ?_
    refine E_st rfl rfl rfl ?_
    refine E_st rfl rfl rfl ?_
    refine E_ret rfl rfl ?_
    refine E_st rfl rfl rfl ?_
    refine E_st rfl rfl rfl ?_
    refine E_st rfl rfl rfl ?_
    refine E_st rfl rfl rfl ?_
    refine E_st rfl rfl rfl ?_
    refine E_scr rfl rfl h1 ?_
    refine E_st rfl rfl rfl ?_
    refine E_st rfl rfl rfl ?_
    refine E_st rfl rfl rfl ?_
    refine E_st rfl rfl rfl ?_
    refine E_scr rfl rfl h2 ?_
    refine E_call rfl rfl ?_
    refine E_st rfl rfl rfl ?_
    refine E_call rfl rfl ?_
    refine E_st rfl rfl rfl ?_
    refine E_st rfl rfl rfl ?_
    refine E_st rfl rfl rfl ?_
    refine E_call rfl rfl ?_
    refine E_st rfl rfl rfl ?_
    refine E_st rfl rfl rfl ?_
    refine E_icmp_lt (y := 0) rfl (by decide) (fun _ => ?_) (fun q => absurd q (by omega))
    refine E_st rfl rfl rfl ?_
    refine E_ret rfl rfl ?_
    refine E_ret rfl rfl ?_
    refine E_st rfl rfl rfl ?_
    refine E_st rfl rfl rfl ?_
    refine E_ret rfl rfl ?_
    refine E_st rfl rfl rfl ?_
    refine E_st rfl rfl rfl ?_
    refine E_st rfl rfl rfl ?_
    refine E_st rfl rfl rfl ?_
    refine E_st rfl rfl rfl ?_
    refine E_st rfl rfl rfl ?_
    refine E_st rfl rfl rfl ?_
    refine E_st rfl rfl rfl ?_
    refine E_st rfl rfl rfl ?_
    refine E_st rfl rfl rfl ?_
    exact E_ret rfl rfl ⟨rfl, rfl⟩
  · refine E_st rfl rfl rfl ?_
    refine E_st rfl rfl rfl ?_
    refine E_icmp_ge (y := 4) rfl (by decide) (fun _ => ?_) (fun q => absurd q (by omega))
    refine E_st rfl rfl rfl ?_
    refine E_ret rfl rfl ?_
    refine E_st rfl rfl rfl ?_
    refine E_st rfl rfl rfl ?_
    refine E_st rfl rfl rfl ?_
    refine E_st rfl rfl rfl ?_
    refine E_ret rfl rfl ?_
    refine E_st rfl rfl rfl ?_
    refine E_st rfl rfl rfl ?_
    refine E_st rfl rfl rfl ?_
    refine E_st rfl rfl rfl ?_
    refine E_st rfl rfl rfl ?_
    refine E_scr rfl rfl h1 ?_
    refine E_st rfl rfl rfl ?_
    refine E_st rfl rfl rfl ?_
    refine E_st rfl rfl rfl ?_
    refine E_st rfl rfl rfl ?_
    refine E_scr rfl rfl h2 ?_
    refine E_call rfl rfl ?_
    refine E_st rfl rfl rfl ?_
    refine E_call rfl rfl ?_
    refine E_st rfl rfl rfl ?_
    refine E_st rfl rfl rfl ?_
    refine E_st rfl rfl rfl ?_
    refine E_call rfl rfl ?_
    refine E_st rfl rfl rfl ?_
    refine E_st rfl rfl rfl ?_
    refine E_icmp_lt (y := 0) rfl (by decide) (fun q => absurd q (by omega)) (fun _ => ?_)
    refine E_st rfl rfl rfl ?_
    refine E_st rfl rfl rfl ?_
    refine E_icmp_gt (y := 3) rfl (by decide) (fun _ => ?_) (fun q => absurd q (by omega))
    refine E_st rfl rfl rfl ?_
    refine E_ret rfl rfl ?_
    refine E_ret rfl rfl ?_
    refine E_st rfl rfl rfl ?_
    refine E_st rfl rfl rfl ?_
    refine E_ret rfl rfl ?_
    refine E_st rfl rfl rfl ?_
    refine E_st rfl rfl rfl ?_
    refine E_st rfl rfl rfl ?_
    refine E_st rfl rfl rfl ?_
    refine E_st rfl rfl rfl ?_
    refine E_st rfl rfl rfl ?_
    refine E_st rfl rfl rfl ?_
    refine E_st rfl rfl rfl ?_
    refine E_st rfl rfl rfl ?_
    refine E_st rfl rfl rfl ?_
    exact E_ret rfl rfl ⟨rfl, rfl⟩
set_option maxRecDepth 100000 in
set_option maxHeartbeats 40000000 in
theorem pc_26_0_0 (xs : Nat → Int) {z a3 a4 a5 : Int} (hz : b32 (fun a b => a &&& b) z 31 = 26) (h0 : xs 0 = z) (h1 : xs 1 = 0) (h2 : xs 2 = 0) (h3 : xs 3 = a3) (h4 : xs 4 = a4) (h5 : xs 5 = a5) : E 0 18 LL [] (s0 xs 6) PQ := by
  refine E_st rfl rfl rfl ?_
  refine E_st rfl rfl rfl ?_
  refine E_st rfl rfl rfl ?_
  refine E_st rfl rfl rfl ?_
  refine E_st rfl rfl rfl ?_
  refine E_st rfl rfl rfl ?_
  refine E_st rfl rfl rfl ?_
  refine E_st rfl rfl rfl ?_
  refine E_scr rfl rfl h0 ?_
  refine E_st rfl rfl rfl ?_
  refine E_st rfl rfl rfl ?_
  refine E_val hz ?_
  refine E_st rfl rfl rfl ?_
  refine E_st rfl rfl rfl ?_
  refine E_st rfl rfl rfl ?_
  refine E_st rfl rfl rfl ?_
  refine E_st rfl rfl rfl ?_
  refine E_st rfl rfl rfl ?_
  refine E_scr rfl rfl h1 ?_
  refine E_st rfl rfl rfl ?_
  refine E_st rfl rfl rfl ?_
  refine E_st rfl rfl rfl ?_
  refine E_st rfl rfl rfl ?_
  refine E_scr rfl rfl h2 ?_
  refine E_call rfl rfl ?_
  refine E_st rfl rfl rfl ?_
  refine E_st rfl rfl rfl ?_
  refine E_call rfl rfl ?_
  refine E_st rfl rfl rfl ?_
  refine E_st rfl rfl rfl ?_
  refine E_call rfl rfl ?_
  refine E_st rfl rfl rfl ?_
  refine E_st rfl rfl rfl ?_
  refine E_st rfl rfl rfl ?_
  refine E_st rfl rfl rfl ?_
  refine E_st rfl rfl rfl ?_
  refine E_st rfl rfl rfl ?_
  refine E_st rfl rfl rfl ?_
  refine E_st rfl rfl rfl ?_
  refine E_st rfl rfl rfl ?_
  refine E_st rfl rfl rfl ?_
  refine E_ret rfl rfl ?_
  refine E_st rfl rfl rfl ?_
  refine E_st rfl rfl rfl ?_
  refine E_st rfl rfl rfl ?_
  refine E_st rfl rfl rfl ?_
  refine E_call rfl rfl ?_
  refine E_st rfl rfl rfl ?_
  refine E_st rfl rfl rfl ?_
  refine E_st rfl rfl rfl ?_
  refine E_st rfl rfl rfl ?_
  refine E_st rfl rfl rfl ?_
  refine E_st rfl rfl rfl ?_
  refine E_st rfl rfl rfl ?_
  refine E_st rfl rfl rfl ?_
  refine E_st rfl rfl rfl ?_
  refine E_call rfl rfl ?_
  refine E_st rfl rfl rfl ?_
  refine E_st rfl rfl rfl ?_
  refine E_call rfl rfl ?_
  refine E_st rfl rfl rfl ?_
  refine E_st rfl rfl rfl ?_
  refine E_st rfl rfl rfl ?_
  refine E_call rfl rfl ?_
  refine c_fill rfl rfl ?_
  refine E_st rfl rfl rfl ?_
  refine E_st rfl rfl rfl ?_
  refine E_st rfl rfl rfl ?_
  refine E_call rfl rfl ?_
  refine c_fill rfl rfl ?_
  refine E_st rfl rfl rfl ?_
  refine E_st rfl rfl rfl ?_
  refine E_st rfl rfl rfl ?_
  refine E_st rfl rfl rfl ?_
  refine E_st rfl rfl rfl ?_
  refine E_st rfl rfl rfl ?_
  refine E_st rfl rfl rfl ?_
  refine E_st rfl rfl rfl ?_
  refine E_st rfl rfl rfl ?_
  refine E_st rfl rfl rfl ?_
  refine E_st rfl rfl rfl ?_
  refine E_st rfl rfl rfl ?_
  refine E_ret rfl rfl ?_
  refine E_st rfl rfl rfl ?_
  refine E_st rfl rfl rfl ?_
  refine E_call rfl rfl ?_
  refine E_st rfl rfl rfl ?_
  refine E_st rfl rfl rfl ?_
  refine E_st rfl rfl rfl ?_
  refine E_st rfl rfl rfl ?_
  refine E_st rfl rfl rfl ?_
  refine fl_loop (gp := 0) (by decide) _ 600 1 _ rfl (fun j hj => show (if 0 ≤ j ∧ j < 601 then (0 : Int) else _) = 0 from if_pos ⟨Nat.zero_le _, hj⟩) ?_
  refine E_st rfl rfl rfl ?_
  refine E_st rfl rfl rfl ?_
  refine E_st rfl rfl rfl ?_
  refine E_st rfl rfl rfl ?_
  refine E_call rfl rfl ?_
  refine E_st rfl rfl rfl ?_
  refine E_st rfl rfl rfl ?_
  refine E_st rfl rfl rfl ?_
  refine E_st rfl rfl rfl ?_
  refine E_st rfl rfl rfl ?_
  refine E_st rfl rfl rfl ?_
  refine E_call rfl rfl ?_
  refine c_fill rfl rfl ?_
  refine E_st rfl rfl rfl ?_
  refine E_st rfl rfl rfl ?_
  refine E_st rfl rfl rfl ?_
  refine E_call rfl rfl ?_
  refine c_fill rfl rfl ?_
  refine E_st rfl rfl rfl ?_
  refine E_st rfl rfl rfl ?_
  refine E_st rfl rfl rfl ?_
  refine E_call rfl rfl ?_
  refine c_fill rfl rfl ?_
  refine E_ret rfl rfl ?_
  refine E_ret rfl rfl ?_
  refine E_st rfl rfl rfl ?_
  refine E_st rfl rfl rfl ?_
  refine E_st rfl rfl rfl ?_
  refine E_st rfl rfl rfl ?_
  refine E_st rfl rfl rfl ?_
  refine E_ret rfl rfl ?_
  refine E_st rfl rfl rfl ?_
  refine E_st rfl rfl rfl ?_
  refine E_ret rfl rfl ?_
  refine E_st rfl rfl rfl ?_
  refine E_st rfl rfl rfl ?_
  refine E_st rfl rfl rfl ?_
  refine E_call rfl rfl ?_
  refine E_st rfl rfl rfl ?_
  refine E_st rfl rfl rfl ?_
  refine E_call rfl rfl ?_
  refine E_st rfl rfl rfl ?_
  refine E_st rfl rfl rfl ?_
  refine E_st rfl rfl rfl ?_
  refine E_st rfl rfl rfl ?_
  refine E_st rfl rfl rfl ?_
  refine E_st rfl rfl rfl ?_
  refine E_st rfl rfl rfl ?_
  refine E_st rfl rfl rfl ?_
  refine E_st rfl rfl rfl ?_
  refine E_st rfl rfl rfl ?_
  refine E_ret rfl rfl ?_
  refine E_st rfl rfl rfl ?_
  refine E_st rfl rfl rfl ?_
  refine E_st rfl rfl rfl ?_
  refine E_st rfl rfl rfl ?_
  refine E_call rfl rfl ?_
  refine E_st rfl rfl rfl ?_
  refine E_st rfl rfl rfl ?_
  refine E_st rfl rfl rfl ?_
  refine E_st rfl rfl rfl ?_
  refine E_st rfl rfl rfl ?_
  refine E_ret rfl rfl ?_
  refine E_st rfl rfl rfl ?_
  refine E_st rfl rfl rfl ?_
  refine E_ret rfl rfl ?_
  refine E_st rfl rfl rfl ?_
  refine E_st rfl rfl rfl ?_
  refine E_st rfl rfl rfl ?_
  refine E_st rfl rfl rfl ?_
  refine E_st rfl rfl rfl ?_
  refine E_st rfl rfl rfl ?_
  refine E_st rfl rfl rfl ?_
  refine E_st rfl rfl rfl ?_
  refine E_call rfl rfl ?_
  refine c_fill rfl rfl ?_
  refine E_st rfl rfl rfl ?_
  refine E_st rfl rfl rfl ?_
  refine E_st rfl rfl rfl ?_
  refine E_st rfl rfl rfl ?_
  refine E_st rfl rfl rfl ?_
  refine E_st rfl rfl rfl ?_
  refine E_st rfl rfl rfl ?_
  refine E_st rfl rfl rfl ?_
  refine E_st rfl rfl rfl ?_
  refine E_st rfl rfl rfl ?_
  refine E_st rfl rfl rfl ?_
  refine E_st rfl rfl rfl ?_
  refine E_st rfl rfl rfl ?_
  refine E_ret rfl rfl ?_
  refine E_st rfl rfl rfl ?_
  refine E_st rfl rfl rfl ?_
  refine E_st rfl rfl rfl ?_
  refine E_st rfl rfl rfl ?_
  refine E_st rfl rfl rfl ?_
  refine E_scr rfl rfl h1 ?_
  refine E_st rfl rfl rfl ?_
  refine E_st rfl rfl rfl ?_
  refine E_st rfl rfl rfl ?_
  refine E_st rfl rfl rfl ?_
  refine E_scr rfl rfl h2 ?_
  refine E_call rfl rfl ?_
  refine E_st rfl rfl rfl ?_
  refine E_call rfl rfl ?_
  refine E_st rfl rfl rfl ?_
  refine E_st rfl rfl rfl ?_
  refine E_st rfl rfl rfl ?_
  refine E_call rfl rfl ?_
  refine E_st rfl rfl rfl ?_
  refine E_st rfl rfl rfl ?_
  refine E_st rfl rfl rfl ?_
  refine E_st rfl rfl rfl ?_
  refine E_st rfl rfl rfl ?_
  refine E_st rfl rfl rfl ?_
  refine E_st rfl rfl rfl ?_
  refine E_st rfl rfl rfl ?_
  refine E_ret rfl rfl ?_
  refine E_ret rfl rfl ?_
  refine E_st rfl rfl rfl ?_
  refine E_st rfl rfl rfl ?_
  refine E_call rfl rfl ?_
  refine E_st rfl rfl rfl ?_
  refine E_st rfl rfl rfl ?_
  refine E_st rfl rfl rfl ?_
  refine E_call rfl rfl ?_
  refine E_st rfl rfl rfl ?_
  refine E_st rfl rfl rfl ?_
  refine E_st rfl rfl rfl ?_
  refine E_st rfl rfl rfl ?_
  refine E_st rfl rfl rfl ?_
  refine E_st rfl rfl rfl ?_
  refine E_st rfl rfl rfl ?_
  refine E_st rfl rfl rfl ?_
  refine E_ret rfl rfl ?_
  refine E_ret rfl rfl ?_
  refine E_st rfl rfl rfl ?_
  refine E_st rfl rfl rfl ?_
  refine E_st rfl rfl rfl ?_
  refine E_st rfl rfl rfl ?_
  refine E_st rfl rfl rfl ?_
  refine E_call rfl rfl ?_
  refine E_st rfl rfl rfl ?_
  refine E_st rfl rfl rfl ?_
  refine E_call rfl rfl ?_
  refine E_st rfl rfl rfl ?_
  refine E_st rfl rfl rfl ?_
  refine mr_loop1 _ 601 0 _ rfl ?_
  refine E_st rfl rfl rfl ?_
  refine E_st rfl rfl rfl ?_
  refine E_st rfl rfl rfl ?_
  refine E_st rfl rfl rfl ?_
  refine E_st rfl rfl rfl ?_
  refine E_st rfl rfl rfl ?_
  refine E_st rfl rfl rfl ?_
  refine E_st rfl rfl rfl ?_
  refine E_st rfl rfl rfl ?_
  refine E_st rfl rfl rfl ?_
  refine E_st rfl rfl rfl ?_
  refine E_st rfl rfl rfl ?_
  refine E_st rfl rfl rfl ?_
  refine E_st rfl rfl rfl ?_
  refine E_st rfl rfl rfl ?_
  refine E_st rfl rfl rfl ?_
  refine E_st rfl rfl rfl ?_
  refine E_st rfl rfl rfl ?_
  refine E_st rfl rfl rfl ?_
  refine mr_loop3 _ 601 0 _ rfl (fun j hj => show (if 0 ≤ j ∧ j < 601 then (0 : Int) else _) = 0 from if_pos ⟨Nat.zero_le _, hj⟩) ?_
  refine E_st rfl rfl rfl ?_
  refine E_st rfl rfl rfl ?_
  refine E_st rfl rfl rfl ?_
  refine E_st rfl rfl rfl ?_
  refine E_st rfl rfl rfl ?_
  refine E_st rfl rfl rfl ?_
  refine E_st rfl rfl rfl ?_
  refine E_st rfl rfl rfl ?_
  refine E_st rfl rfl rfl ?_
  refine E_st rfl rfl rfl ?_
  refine E_st rfl rfl rfl ?_
  refine E_st rfl rfl rfl ?_
  refine E_st rfl rfl rfl ?_
  refine E_ret rfl rfl ?_
  refine E_st rfl rfl rfl ?_
  refine E_st rfl rfl rfl ?_
  refine E_st rfl rfl rfl ?_
  refine E_st rfl rfl rfl ?_
  refine E_st rfl rfl rfl ?_
  refine E_st rfl rfl rfl ?_
  refine E_st rfl rfl rfl ?_
  refine E_st rfl rfl rfl ?_
  refine E_st rfl rfl rfl ?_
  refine E_ret rfl rfl ?_
  refine E_st rfl rfl rfl ?_
  refine E_st rfl rfl rfl ?_
  refine E_st rfl rfl rfl ?_
  refine E_st rfl rfl rfl ?_
  refine E_st rfl rfl rfl ?_
  refine E_st rfl rfl rfl ?_
  refine E_st rfl rfl rfl ?_
  refine E_st rfl rfl rfl ?_
  refine E_st rfl rfl rfl ?_
  refine E_st rfl rfl rfl ?_
  refine E_st rfl rfl rfl ?_
  refine E_st rfl rfl rfl ?_
  refine E_st rfl rfl rfl ?_
  refine E_st rfl rfl rfl ?_
  refine E_st rfl rfl rfl ?_
  refine E_st rfl rfl rfl ?_
  refine E_st rfl rfl rfl ?_
  refine E_st rfl rfl rfl ?_
  refine E_st rfl rfl rfl ?_
  refine E_st rfl rfl rfl ?_
  refine E_call rfl rfl ?_
  refine E_st rfl rfl rfl ?_
  refine E_st rfl rfl rfl ?_
  refine E_call rfl rfl ?_
  refine E_st rfl rfl rfl ?_
  refine E_st rfl rfl rfl ?_
  refine mr_loop1 _ 601 0 _ rfl ?_
  refine E_st rfl rfl rfl ?_
  refine E_st rfl rfl rfl ?_
  refine E_st rfl rfl rfl ?_
  refine E_st rfl rfl rfl ?_
  refine E_st rfl rfl rfl ?_
  refine E_st rfl rfl rfl ?_
  refine E_st rfl rfl rfl ?_
  refine E_st rfl rfl rfl ?_
  refine E_st rfl rfl rfl ?_
  refine E_st rfl rfl rfl ?_
  refine E_st rfl rfl rfl ?_
  refine E_st rfl rfl rfl ?_
  refine E_st rfl rfl rfl ?_
  refine E_st rfl rfl rfl ?_
  refine E_st rfl rfl rfl ?_
  refine E_st rfl rfl rfl ?_
  refine E_st rfl rfl rfl ?_
  refine E_st rfl rfl rfl ?_
  refine E_st rfl rfl rfl ?_
  refine mr_loop3 _ 601 0 _ rfl (fun j hj => show (if 0 ≤ j ∧ j < 601 then (0 : Int) else _) = 0 from if_pos ⟨Nat.zero_le _, hj⟩) ?_
  refine E_st rfl rfl rfl ?_
  refine E_st rfl rfl rfl ?_
  refine E_st rfl rfl rfl ?_
  refine E_st rfl rfl rfl ?_
  refine E_st rfl rfl rfl ?_
  refine E_st rfl rfl rfl ?_
  refine E_st rfl rfl rfl ?_
  refine E_st rfl rfl rfl ?_
  refine E_st rfl rfl rfl ?_
  refine E_st rfl rfl rfl ?_
  refine E_st rfl rfl rfl ?_
  refine E_st rfl rfl rfl ?_
  refine E_st rfl rfl rfl ?_
  refine E_ret rfl rfl ?_
  refine E_st rfl rfl rfl ?_
  refine E_st rfl rfl rfl ?_
  refine E_st rfl rfl rfl ?_
  refine E_st rfl rfl rfl ?_
  refine E_st rfl rfl rfl ?_
  refine E_st rfl rfl rfl ?_
  refine E_st rfl rfl rfl ?_
  refine E_st rfl rfl rfl ?_
  refine E_st rfl rfl rfl ?_
  refine E_ret rfl rfl ?_
  refine E_st rfl rfl rfl ?_
  refine E_st rfl rfl rfl ?_
  refine E_st rfl rfl rfl ?_
  refine E_st rfl rfl rfl ?_
  refine E_st rfl rfl rfl ?_
  refine E_st rfl rfl rfl ?_
  refine E_st rfl rfl rfl ?_
  refine E_st rfl rfl rfl ?_
  refine E_st rfl rfl rfl ?_
  refine E_st rfl rfl rfl ?_
  refine E_st rfl rfl rfl ?_
  refine E_st rfl rfl rfl ?_
  refine E_st rfl rfl rfl ?_
  refine E_st rfl rfl rfl ?_
  refine E_st rfl rfl rfl ?_
  refine E_st rfl rfl rfl ?_
  refine E_st rfl rfl rfl ?_
  refine E_st rfl rfl rfl ?_
  refine E_st rfl rfl rfl ?_
  refine E_st rfl rfl rfl ?_
  refine E_st rfl rfl rfl ?_
  refine E_st rfl rfl rfl ?_
  refine E_st rfl rfl rfl ?_
  refine E_st rfl rfl rfl ?_
  refine E_st rfl rfl rfl ?_
  refine E_st rfl rfl rfl ?_
  refine E_st rfl rfl rfl ?_
  refine E_st rfl rfl rfl ?_
  refine E_st rfl rfl rfl ?_
  refine E_st rfl rfl rfl ?_
  refine E_st rfl rfl rfl ?_
  refine E_st rfl rfl rfl ?_
  refine E_st rfl rfl rfl ?_
  refine E_st rfl rfl rfl ?_
  refine E_st rfl rfl rfl ?_
  refine E_st rfl rfl rfl ?_
  refine E_st rfl rfl rfl ?_
  refine E_st rfl rfl rfl ?_
  refine E_st rfl rfl rfl ?_
  refine E_st rfl rfl rfl ?_
  refine E_st rfl rfl rfl ?_
  refine E_st rfl rfl rfl ?_
  refine E_st rfl rfl rfl ?_
  refine E_st rfl rfl rfl ?_
  refine E_st rfl rfl rfl ?_
  refine E_st rfl rfl rfl ?_
  refine E_st rfl rfl rfl ?_
  refine E_st rfl rfl rfl ?_
  refine E_st rfl rfl rfl ?_
  refine E_st rfl rfl rfl ?_
  refine E_st rfl rfl rfl ?_
  refine E_st rfl rfl rfl ?_
  refine E_st rfl rfl rfl ?_
  refine E_st rfl rfl rfl ?_
  refine E_st rfl rfl rfl ?_
  refine E_st rfl rfl rfl ?_
  refine E_st rfl rfl rfl ?_
  refine E_st rfl rfl rfl ?_
  refine E_st rfl rfl rfl ?_
  refine E_st rfl rfl rfl ?_
  refine E_st rfl rfl rfl ?_
  refine E_st rfl rfl rfl ?_
  refine E_st rfl rfl rfl ?_
  refine E_st rfl rfl rfl ?_
  refine E_st rfl rfl rfl ?_
  refine E_st rfl rfl rfl ?_
  refine E_st rfl rfl rfl ?_
  refine E_st rfl rfl rfl ?_
  refine E_st rfl rfl rfl ?_
  refine E_st rfl rfl rfl ?_
  refine E_st rfl rfl rfl ?_
  refine E_st rfl rfl rfl ?_
  refine E_st rfl rfl rfl ?_
  refine E_st rfl rfl rfl ?_
  refine E_st rfl rfl rfl ?_
  refine E_st rfl rfl rfl ?_
  refine E_st rfl rfl rfl ?_
  refine E_st rfl rfl rfl ?_
  refine E_st rfl rfl rfl ?_
  refine E_st rfl rfl rfl ?_
  refine E_st rfl rfl rfl ?_
  refine E_st rfl rfl rfl ?_
  refine E_st rfl rfl rfl ?_
  refine E_st rfl rfl rfl ?_
  refine E_st rfl rfl rfl ?_
  refine E_st rfl rfl rfl ?_
  refine E_st rfl rfl rfl ?_
  refine E_st rfl rfl rfl ?_
  refine E_st rfl rfl rfl ?_
  refine E_st rfl rfl rfl ?_
  refine E_st rfl rfl rfl ?_
  refine E_st rfl rfl rfl ?_
  refine E_st rfl rfl rfl ?_
  refine E_st rfl rfl rfl ?_
  refine E_st rfl rfl rfl ?_
  refine E_st rfl rfl rfl ?_
  refine E_st rfl rfl rfl ?_
  refine E_st rfl rfl rfl ?_
  refine E_st rfl rfl rfl ?_
  refine E_st rfl rfl rfl ?_
  refine E_st rfl rfl rfl ?_
  refine E_st rfl rfl rfl ?_
  refine E_st rfl rfl rfl ?_
  refine E_st rfl rfl rfl ?_
  refine E_st rfl rfl rfl ?_
  refine E_st rfl rfl rfl ?_
  refine E_st rfl rfl rfl ?_
  refine E_st rfl rfl rfl ?_
  refine E_st rfl rfl rfl ?_
  refine E_st rfl rfl rfl ?_
  refine E_st rfl rfl rfl ?_
  refine E_st rfl rfl rfl ?_
  refine E_st rfl rfl rfl ?_
  refine E_st rfl rfl rfl ?_
  refine E_st rfl rfl rfl ?_
  refine E_st rfl rfl rfl ?_
  refine E_st rfl rfl rfl ?_
  refine E_st rfl rfl rfl ?_
  refine E_st rfl rfl rfl ?_
  refine E_st rfl rfl rfl ?_
  refine E_st rfl rfl rfl ?_
  refine E_st rfl rfl rfl ?_
  refine E_st rfl rfl rfl ?_
  refine E_st rfl rfl rfl ?_
  refine E_st rfl rfl rfl ?_
  refine E_st rfl rfl rfl ?_
  refine E_st rfl rfl rfl ?_
  refine E_st rfl rfl rfl ?_
  refine E_st rfl rfl rfl ?_
  refine E_st rfl rfl rfl ?_
  refine E_st rfl rfl rfl ?_
  refine E_st rfl rfl rfl ?_
  refine E_st rfl rfl rfl ?_
  refine E_st rfl rfl rfl ?_
  refine E_st rfl rfl rfl ?_
  refine E_st rfl rfl rfl ?_
  refine E_st rfl rfl rfl ?_
  refine E_st rfl rfl rfl ?_
  refine E_st rfl rfl rfl ?_
  refine E_st rfl rfl rfl ?_
  refine E_st rfl rfl rfl ?_
  refine E_st rfl rfl rfl ?_
  refine E_st rfl rfl rfl ?_
  refine E_st rfl rfl rfl ?_
  refine E_st rfl rfl rfl ?_
  refine E_st rfl rfl rfl ?_
  refine E_st rfl rfl rfl ?_
  refine E_st rfl rfl rfl ?_
  refine E_st rfl rfl rfl ?_
  refine E_st rfl rfl rfl ?_
  refine E_st rfl rfl rfl ?_
  refine E_st rfl rfl rfl ?_
  refine E_st rfl rfl rfl ?_
  refine E_st rfl rfl rfl ?_
  refine E_st rfl rfl rfl ?_
  refine E_st rfl rfl rfl ?_
  refine E_st rfl rfl rfl ?_
  refine E_st rfl rfl rfl ?_
  refine E_st rfl rfl rfl ?_
  refine E_st rfl rfl rfl ?_
  refine E_st rfl rfl rfl ?_
  refine E_st rfl rfl rfl ?_
  refine E_st rfl rfl rfl ?_
  refine E_st rfl rfl rfl ?_
  refine E_st rfl rfl rfl ?_
  refine E_st rfl rfl rfl ?_
  refine E_st rfl rfl rfl ?_
  refine E_st rfl rfl rfl ?_
  refine E_st rfl rfl rfl ?_
  refine E_st rfl rfl rfl ?_
  refine E_st rfl rfl rfl ?_
  refine E_st rfl rfl rfl ?_
  refine E_st rfl rfl rfl ?_
  refine E_st rfl rfl rfl ?_
  refine E_st rfl rfl rfl ?_
  refine E_st rfl rfl rfl ?_
  refine E_st rfl rfl rfl ?_
  refine E_st rfl rfl rfl ?_
  refine E_st rfl rfl rfl ?_
  refine E_st rfl rfl rfl ?_
  refine E_st rfl rfl rfl ?_
  refine E_st rfl rfl rfl ?_
  refine E_st rfl rfl rfl ?_
  refine E_st rfl rfl rfl ?_
  refine E_st rfl rfl rfl ?_
  refine E_st rfl rfl rfl ?_
  refine E_st rfl rfl rfl ?_
  refine E_st rfl rfl rfl ?_
  refine E_st rfl rfl rfl ?_
  refine E_st rfl rfl rfl ?_
  refine E_st rfl rfl rfl ?_
  refine E_st rfl rfl rfl ?_
  refine E_st rfl rfl rfl ?_
  refine E_st rfl rfl rfl ?_
  refine E_st rfl rfl rfl ?_
  refine E_st rfl rfl rfl ?_
  refine E_st rfl rfl rfl ?_
  refine E_st rfl rfl rfl ?_
  refine E_st rfl rfl rfl ?_
  refine E_st rfl rfl rfl ?_
  refine E_st rfl rfl rfl ?_
  refine E_st rfl rfl rfl ?_
  refine E_st rfl rfl rfl ?_
  refine E_st rfl rfl rfl ?_
  refine E_st rfl rfl rfl ?_
  refine E_st rfl rfl rfl ?_
  refine E_st rfl rfl rfl ?_
  refine E_st rfl rfl rfl ?_
  refine E_st rfl rfl rfl ?_
  refine E_st rfl rfl rfl ?_
  refine E_st rfl rfl rfl ?_
  refine E_st rfl rfl rfl ?_
  refine E_st rfl rfl rfl ?_
  refine E_st rfl rfl rfl ?_
  refine E_st rfl rfl rfl ?_
  refine E_st rfl rfl rfl ?_
  refine E_st rfl rfl rfl ?_
  refine E_st rfl rfl rfl ?_
  refine E_st rfl rfl rfl ?_
  refine E_st rfl rfl rfl ?_
  refine E_st rfl rfl rfl ?_
  refine E_st rfl rfl rfl ?_
  refine E_st rfl rfl rfl ?_
  refine E_st rfl rfl rfl ?_
  refine E_st rfl rfl rfl ?_
  refine E_st rfl rfl rfl ?_
  refine E_st rfl rfl rfl ?_
  refine E_st rfl rfl rfl ?_
  refine E_st rfl rfl rfl ?_
  refine E_st rfl rfl rfl ?_
  refine E_st rfl rfl rfl ?_
  refine E_st rfl rfl rfl ?_
  refine E_st rfl rfl rfl ?_
  refine E_st rfl rfl rfl ?_
  refine E_st rfl rfl rfl ?_
  refine E_st rfl rfl rfl ?_
  refine E_st rfl rfl rfl ?_
  refine E_st rfl rfl rfl ?_
  refine E_st rfl rfl rfl ?_
  refine E_st rfl rfl rfl ?_
  refine E_st rfl rfl rfl ?_
  refine E_st rfl rfl rfl ?_
  refine E_st rfl rfl rfl ?_
  refine E_st rfl rfl rfl ?_
  refine E_st rfl rfl rfl ?_
  refine E_st rfl rfl rfl ?_
  refine E_st rfl rfl rfl ?_
  refine E_st rfl rfl rfl ?_
  refine E_st rfl rfl rfl ?_
  refine E_st rfl rfl rfl ?_
  refine E_st rfl rfl rfl ?_
  refine E_st rfl rfl rfl ?_
  refine E_st rfl rfl rfl ?_
  refine E_st rfl rfl rfl ?_
  refine E_st rfl rfl rfl ?_
  refine E_st rfl rfl rfl ?_
  refine E_st rfl rfl rfl ?_
  refine E_st rfl rfl rfl ?_
  refine E_st rfl rfl rfl ?_
  refine E_st rfl rfl rfl ?_
  refine E_st rfl rfl rfl ?_
  refine E_st rfl rfl rfl ?_
  refine E_st rfl rfl rfl ?_
  refine E_st rfl rfl rfl ?_
  refine E_st rfl rfl rfl ?_
  refine E_st rfl rfl rfl ?_
  refine E_st rfl rfl rfl ?_
  refine E_st rfl rfl rfl ?_
  refine E_st rfl rfl rfl ?_
  refine E_st rfl rfl rfl ?_
  refine E_st rfl rfl rfl ?_
  refine E_st rfl rfl rfl ?_
  refine E_st rfl rfl rfl ?_
  refine E_st rfl rfl rfl ?_
  refine E_st rfl rfl rfl ?_
  refine E_st rfl rfl rfl ?_
  refine E_st rfl rfl rfl ?_
  refine E_st rfl rfl rfl ?_
  refine E_st rfl rfl rfl ?_
  refine E_st rfl rfl rfl ?_
  refine E_st rfl rfl rfl ?_
  refine E_st rfl rfl rfl ?_
  refine E_st rfl rfl rfl ?_
  refine E_st rfl rfl rfl ?_
  refine E_st rfl rfl rfl ?_
  refine E_st rfl rfl rfl ?_
  refine E_st rfl rfl rfl ?_
  refine E_st rfl rfl rfl ?_
  refine E_st rfl rfl rfl ?_
  refine E_st rfl rfl rfl ?_
  refine E_st rfl rfl rfl ?_
  refine E_st rfl rfl rfl ?_
  refine E_st rfl rfl rfl ?_
  refine E_st rfl rfl rfl ?_
  refine E_st rfl rfl rfl ?_
  refine E_st rfl rfl rfl ?_
  refine E_st rfl rfl rfl ?_
  refine E_st rfl rfl rfl ?_
  refine E_st rfl rfl rfl ?_
  refine E_st rfl rfl rfl ?_
  refine E_st rfl rfl rfl ?_
  refine E_st rfl rfl rfl ?_
  refine E_st rfl rfl rfl ?_
  refine E_st rfl rfl rfl ?_
  refine E_st rfl rfl rfl ?_
  refine E_st rfl rfl rfl ?_
  refine E_st rfl rfl rfl ?_
  refine E_st rfl rfl rfl ?_
  refine E_st rfl rfl rfl ?_
  refine E_st rfl rfl rfl ?_
  refine E_st rfl rfl rfl ?_
  refine E_st rfl rfl rfl ?_
  refine E_st rfl rfl rfl ?_
  refine E_st rfl rfl rfl ?_
  refine E_st rfl rfl rfl ?_
  refine E_st rfl rfl rfl ?_
  refine E_st rfl rfl rfl ?_
  refine E_st rfl rfl rfl ?_
  refine E_st rfl rfl rfl ?_
  refine E_st rfl rfl rfl ?_
  refine E_st rfl rfl rfl ?_
  refine E_st rfl rfl rfl ?_
  refine E_st rfl rfl rfl ?_
  refine E_st rfl rfl rfl ?_
  refine E_st rfl rfl rfl ?_
  refine E_st rfl rfl rfl ?_
  refine E_st rfl rfl rfl ?_
  refine E_st rfl rfl rfl ?_
  refine E_st rfl rfl rfl ?_
  refine E_st rfl rfl rfl ?_
  refine E_st rfl rfl rfl ?_
  refine E_st rfl rfl rfl ?_
  refine E_st rfl rfl rfl ?_
  refine E_st rfl rfl rfl ?_
  refine E_st rfl rfl rfl ?_
  refine E_st rfl rfl rfl ?_
  refine E_st rfl rfl rfl ?_
  refine E_st rfl rfl rfl ?_
  refine E_st rfl rfl rfl ?_
  refine E_st rfl rfl rfl ?_
  refine E_st rfl rfl rfl ?_
  refine E_st rfl rfl rfl ?_
  refine E_st rfl rfl rfl ?_
  refine E_st rfl rfl rfl ?_
  refine E_st rfl rfl rfl ?_
  refine E_st rfl rfl rfl ?_
  refine E_st rfl rfl rfl ?_
  refine E_st rfl rfl rfl ?_
  refine E_st rfl rfl rfl ?_
  refine E_st rfl rfl rfl ?_
  refine E_st rfl rfl rfl ?_
  refine E_st rfl rfl rfl ?_
  refine E_st rfl rfl rfl ?_
  refine E_st rfl rfl rfl ?_
  refine E_st rfl rfl rfl ?_
  refine E_st rfl rfl rfl ?_
  refine E_st rfl rfl rfl ?_
  refine E_st rfl rfl rfl ?_
  refine E_st rfl rfl rfl ?_
  refine E_st rfl rfl rfl ?_
  refine E_st rfl rfl rfl ?_
  refine E_st rfl rfl rfl ?_
  refine E_st rfl rfl rfl ?_
  refine E_st rfl rfl rfl ?_
  refine E_st rfl rfl rfl ?_
  refine E_st rfl rfl rfl ?_
  refine E_st rfl rfl rfl ?_
  refine E_st rfl rfl rfl ?_
  refine E_st rfl rfl rfl ?_
  refine E_st rfl rfl rfl ?_
  refine E_st rfl rfl rfl ?_
  refine E_st rfl rfl rfl ?_
  refine E_st rfl rfl rfl ?_
  refine E_st rfl rfl rfl ?_
  refine E_st rfl rfl rfl ?_
  refine E_st rfl rfl rfl ?_
  refine E_st rfl rfl rfl ?_
  refine E_st rfl rfl rfl ?_
  refine E_st rfl rfl rfl ?_
  refine E_st rfl rfl rfl ?_
  refine E_st rfl rfl rfl ?_
  refine E_st rfl rfl rfl ?_
  refine E_st rfl rfl rfl ?_
  refine E_st rfl rfl rfl ?_
  refine E_st rfl rfl rfl ?_
  refine E_st rfl rfl rfl ?_
  refine E_st rfl rfl rfl ?_
  refine E_st rfl rfl rfl ?_
  refine E_st rfl rfl rfl ?_
  refine E_st rfl rfl rfl ?_
  refine E_st rfl rfl rfl ?_
  refine E_st rfl rfl rfl ?_
  refine E_st rfl rfl rfl ?_
  refine E_st rfl rfl rfl ?_
  refine E_st rfl rfl rfl ?_
  refine E_st rfl rfl rfl ?_
  refine E_st rfl rfl rfl ?_
  refine E_st rfl rfl rfl ?_
  refine E_st rfl rfl rfl ?_
  refine E_st rfl rfl rfl ?_
  refine E_st rfl rfl rfl ?_
  refine E_st rfl rfl rfl ?_
  refine E_st rfl rfl rfl ?_
  refine E_st rfl rfl rfl ?_
  refine E_st rfl rfl rfl ?_
  refine E_st rfl rfl rfl ?_
  refine E_st rfl rfl rfl ?_
  refine E_st rfl rfl rfl ?_
  refine E_st rfl rfl rfl ?_
  refine E_st rfl rfl rfl ?_
  refine E_st rfl rfl rfl ?_
  refine E_st rfl rfl rfl ?_
  refine E_st rfl rfl rfl ?_
  refine E_st rfl rfl rfl ?_
  refine E_st rfl rfl rfl ?_
  refine E_st rfl rfl rfl ?_
  refine E_st rfl rfl rfl ?_
  refine E_st rfl rfl rfl ?_
  refine E_st rfl rfl rfl ?_
  refine E_st rfl rfl rfl ?_
  refine E_st rfl rfl rfl ?_
  refine E_st rfl rfl rfl ?_
  refine E_st rfl rfl rfl ?_
  refine E_st rfl rfl rfl ?_
  refine E_st rfl rfl rfl ?_
  refine E_st rfl rfl rfl ?_
  refine E_st rfl rfl rfl ?_
  refine E_st rfl rfl rfl ?_
  refine E_st rfl rfl rfl ?_
  refine E_st rfl rfl rfl ?_
  refine E_st rfl rfl rfl ?_
  refine E_st rfl rfl rfl ?_
  refine E_st rfl rfl rfl ?_
  refine E_st rfl rfl rfl ?_
  refine E_st rfl rfl rfl ?_
  refine E_st rfl rfl rfl ?_
  refine E_st rfl rfl rfl ?_
  refine E_st rfl rfl rfl ?_
  refine E_st rfl rfl rfl ?_
  refine E_st rfl rfl rfl ?_
  refine E_st rfl rfl rfl ?_
  refine E_st rfl rfl rfl ?_
  refine E_st rfl rfl rfl ?_
  refine E_st rfl rfl rfl ?_
  refine E_st rfl rfl rfl ?_
  refine E_st rfl rfl rfl ?_
  refine E_st rfl rfl rfl ?_
  refine E_st rfl rfl rfl ?_
  refine E_st rfl rfl rfl ?_
  refine E_st rfl rfl rfl ?_
  refine E_st rfl rfl rfl ?_
  refine E_st rfl rfl rfl ?_
  refine E_st rfl rfl rfl ?_
  refine E_st rfl rfl rfl ?_
  refine E_st rfl rfl rfl ?_
  refine E_st rfl rfl rfl ?_
  refine E_st rfl rfl rfl ?_
  refine E_st rfl rfl rfl ?_
  refine E_st rfl rfl rfl ?_
  refine E_st rfl rfl rfl ?_
  refine E_st rfl rfl rfl ?_
  refine E_st rfl rfl rfl ?_
  refine E_st rfl rfl rfl ?_
  refine E_st rfl rfl rfl ?_
  refine E_st rfl rfl rfl ?_
  refine E_st rfl rfl rfl ?_
  refine E_st rfl rfl rfl ?_
  refine E_st rfl rfl rfl ?_
  refine E_st rfl rfl rfl ?_
  refine E_st rfl rfl rfl ?_
  refine E_st rfl rfl rfl ?_
  refine E_st rfl rfl rfl ?_
  refine E_st rfl rfl rfl ?_
  refine E_st rfl rfl rfl ?_
  refine E_st rfl rfl rfl ?_
  refine E_st rfl rfl rfl ?_
  refine E_st rfl rfl rfl ?_
  refine E_st rfl rfl rfl ?_
  refine E_st rfl rfl rfl ?_
  refine E_st rfl rfl rfl ?_
  refine E_st rfl rfl rfl ?_
  refine E_st rfl rfl rfl ?_
  refine E_st rfl rfl rfl ?_
  refine E_st rfl rfl rfl ?_
  refine E_st rfl rfl rfl ?_
  refine E_st rfl rfl rfl ?_
  refine E_st rfl rfl rfl ?_
  refine E_st rfl rfl rfl ?_
  refine E_st rfl rfl rfl ?_
  refine E_st rfl rfl rfl ?_
  refine E_st rfl rfl rfl ?_
  refine E_st rfl rfl rfl ?_
  refine E_st rfl rfl rfl ?_
  refine E_st rfl rfl rfl ?_
  refine E_st rfl rfl rfl ?_
  refine E_st rfl rfl rfl ?_
  refine E_st rfl rfl rfl ?_
  refine E_st rfl rfl rfl ?_
  refine E_st rfl rfl rfl ?_
  refine E_st rfl rfl rfl ?_
  refine E_st rfl rfl rfl ?_
  refine E_st rfl rfl rfl ?_
  refine E_st rfl rfl rfl ?_
  refine E_st rfl rfl rfl ?_
  refine E_st rfl rfl rfl ?_
  refine E_st rfl rfl rfl ?_
  refine E_st rfl rfl rfl ?_
  refine E_st rfl rfl rfl ?_
  refine E_st rfl rfl rfl ?_
  refine E_st rfl rfl rfl ?_
  refine E_st rfl rfl rfl ?_
  refine E_st rfl rfl rfl ?_
  refine E_st rfl rfl rfl ?_
  refine E_st rfl rfl rfl ?_
  refine E_st rfl rfl rfl ?_
  refine E_st rfl rfl rfl ?_
  refine E_st rfl rfl rfl ?_
  refine E_st rfl rfl rfl ?_
  refine E_st rfl rfl rfl ?_
  refine E_st rfl rfl rfl ?_
  refine E_st rfl rfl rfl ?_
  refine E_st rfl rfl rfl ?_
  refine E_st rfl rfl rfl ?_
  refine E_st rfl rfl rfl ?_
  refine E_st rfl rfl rfl ?_
  refine E_st rfl rfl rfl ?_
  refine E_st rfl rfl rfl ?_
  refine E_st rfl rfl rfl ?_
  refine E_st rfl rfl rfl ?_
  refine E_st rfl rfl rfl ?_
  refine E_st rfl rfl rfl ?_
  refine E_st rfl rfl rfl ?_
  refine E_st rfl rfl rfl ?_
  refine E_st rfl rfl rfl ?_
  refine E_st rfl rfl rfl ?_
  refine E_st rfl rfl rfl ?_
  refine E_st rfl rfl rfl ?_
  refine E_st rfl rfl rfl ?_
  refine E_st rfl rfl rfl ?_
  refine E_st rfl rfl rfl ?_
  refine E_st rfl rfl rfl ?_
  refine E_st rfl rfl rfl ?_
  refine E_st rfl rfl rfl ?_
  refine E_st rfl rfl rfl ?_
  refine E_st rfl rfl rfl ?_
  refine E_st rfl rfl rfl ?_
  refine E_st rfl rfl rfl ?_
  refine E_st rfl rfl rfl ?_
  refine E_st rfl rfl rfl ?_
  refine E_st rfl rfl rfl ?_
  refine E_st rfl rfl rfl ?_
  refine E_st rfl rfl rfl ?_
  refine E_st rfl rfl rfl ?_
  refine E_st rfl rfl rfl ?_
  refine E_st rfl rfl rfl ?_
  refine E_st rfl rfl rfl ?_
  refine E_st rfl rfl rfl ?_
  refine E_st rfl rfl rfl ?_
  refine E_st rfl rfl rfl ?_
  refine E_st rfl rfl rfl ?_
  refine E_st rfl rfl rfl ?_
  refine E_st rfl rfl rfl ?_
  refine E_st rfl rfl rfl ?_
  refine E_st rfl rfl rfl ?_
  refine E_st rfl rfl rfl ?_
  refine E_st rfl rfl rfl ?_
  refine E_st rfl rfl rfl ?_
  refine E_st rfl rfl rfl ?_
  refine E_st rfl rfl rfl ?_
  refine E_st rfl rfl rfl ?_
  refine E_st rfl rfl rfl ?_
  refine E_st rfl rfl rfl ?_
  refine E_st rfl rfl rfl ?_
  refine E_st rfl rfl rfl ?_
  refine E_st rfl rfl rfl ?_
  refine E_st rfl rfl rfl ?_
  refine E_st rfl rfl rfl ?_
  refine E_st rfl rfl rfl ?_
  refine E_st rfl rfl rfl ?_
  refine E_st rfl rfl rfl ?_
  refine E_st rfl rfl rfl ?_
  refine E_st rfl rfl rfl ?_
  refine E_st rfl rfl rfl ?_
  refine E_st rfl rfl rfl ?_
  refine E_st rfl rfl rfl ?_
  refine E_st rfl rfl rfl ?_
  refine E_st rfl rfl rfl ?_
  refine E_st rfl rfl rfl ?_
  refine E_st rfl rfl rfl ?_
  refine E_st rfl rfl rfl ?_
  refine E_st rfl rfl rfl ?_
  refine E_st rfl rfl rfl ?_
  refine E_st rfl rfl rfl ?_
  refine E_st rfl rfl rfl ?_
  refine E_st rfl rfl rfl ?_
  refine E_st rfl rfl rfl ?_
  refine E_st rfl rfl rfl ?_
  refine E_st rfl rfl rfl ?_
  refine E_st rfl rfl rfl ?_
  refine E_st rfl rfl rfl ?_
  refine E_st rfl rfl rfl ?_
  refine E_st rfl rfl rfl ?_
  refine E_st rfl rfl rfl ?_
  refine E_st rfl rfl rfl ?_
  refine E_st rfl rfl rfl ?_
  refine E_st rfl rfl rfl ?_
  refine E_st rfl rfl rfl ?_
  refine E_st rfl rfl rfl ?_
  refine E_st rfl rfl rfl ?_
  refine E_st rfl rfl rfl ?_
  refine E_st rfl rfl rfl ?_
  refine E_st rfl rfl rfl ?_
  refine E_st rfl rfl rfl ?_
  refine E_st rfl rfl rfl ?_
  refine E_st rfl rfl rfl ?_
  refine E_st rfl rfl rfl ?_
  refine E_st rfl rfl rfl ?_
  refine E_st rfl rfl rfl ?_
  refine E_st rfl rfl rfl ?_
  refine E_st rfl rfl rfl ?_
  refine E_st rfl rfl rfl ?_
  refine E_st rfl rfl rfl ?_
  refine E_st rfl rfl rfl ?_
  refine E_st rfl rfl rfl ?_
  refine E_st rfl rfl rfl ?_
  refine E_st rfl rfl rfl ?_
  refine E_st rfl rfl rfl ?_
  refine E_st rfl rfl rfl ?_
  refine E_st rfl rfl rfl ?_
  refine E_st rfl rfl rfl ?_
  refine E_ret rfl rfl ?_
  refine E_st rfl rfl rfl ?_
  refine E_st rfl rfl rfl ?_
  refine E_st rfl rfl rfl ?_
  refine E_st rfl rfl rfl ?_
  refine E_st rfl rfl rfl ?_
  refine E_st rfl rfl rfl ?_
  refine E_st rfl rfl rfl ?_
  refine E_st rfl rfl rfl ?_
  refine E_st rfl rfl rfl ?_
  refine E_st rfl rfl rfl ?_
  exact E_ret rfl rfl ⟨rfl, rfl⟩
