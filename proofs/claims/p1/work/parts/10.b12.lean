set_option maxRecDepth 100000 in
set_option maxHeartbeats 40000000 in
theorem pc_23_1 (xs : Nat → Int) {z a2 a3 a4 a5 : Int} (hz : b32 (fun a b => a &&& b) z 31 = 23) (h0 : xs 0 = z) (h1 : xs 1 = 1) (h2 : xs 2 = a2) (h3 : xs 3 = a3) (h4 : xs 4 = a4) (h5 : xs 5 = a5) : E 0 18 LL [] (s0 xs 6) PQ := by
  refine E_s (p' := 19) (st' := aI 0 :: _) rfl rfl ?_
  refine E_s (p' := 20) (st' := aA 0 :: _) rfl rfl ?_
  refine E_s (p' := 21) (st' := aI 6 :: _) rfl rfl ?_
  refine E_s (p' := 23) (st' := aI 6 :: _) rfl rfl ?_
  refine E_s (p' := 24) (st' := aI 0 :: _) rfl rfl ?_
  refine E_s (p' := 27) rfl rfl ?_
  refine E_s (p' := 28) (st' := aA 0 :: _) rfl rfl ?_
  refine E_s (p' := 29) (st' := aI 0 :: _) rfl rfl ?_
  refine E_scr rfl rfl h0 ?_
  refine E_s (p' := 32) (st' := aI 31 :: _) rfl rfl ?_
  refine E_s (p' := 33) rfl rfl ?_
  refine E_val hz ?_
  refine E_s (p' := 1019) rfl rfl ?_
  refine E_s (p' := 1020) (st' := aA 1 :: _) rfl rfl ?_
  refine E_s (p' := 1021) (st' := aA 0 :: _) rfl rfl ?_
  refine E_s (p' := 1022) (st' := aI 0 :: _) rfl rfl ?_
  refine E_s (p' := 1023) (st' := aI 1 :: _) rfl rfl ?_
  refine E_s (p' := 1024) (st' := aI 1 :: _) rfl rfl ?_
  refine E_scr rfl rfl h1 ?_
  refine E_callL (p' := 1028) (L0 := [some (aA 1), some (aI 1), none]) rfl rfl rfl ?_
  refine E_s (p' := 1) (st' := aA 1 :: _) rfl rfl ?_
  refine E_s (p' := 2) (st' := aI 1 :: _) rfl rfl ?_
  refine E_callL (p' := 5) (L0 := [some (aA 1), some (aI 1), none]) rfl rfl rfl ?_
  refine E_s (p' := 1) (st' := aA 1 :: _) rfl rfl ?_
  refine E_s (p' := 2) (st' := aI 1 :: _) rfl rfl ?_
  refine E_callL (p' := 5) (L0 := [some (aA 1), some (aI 1)]) rfl rfl rfl ?_
  refine E_s (p' := 1) (st' := aI 1 :: _) rfl rfl ?_
  refine E_s (p' := 4) rfl rfl ?_
  refine E_s (p' := 5) (st' := aI 1 :: _) rfl rfl ?_
  refine E_s (p' := 6) (st' := aI 4 :: _) rfl rfl ?_
  refine E_s (p' := 9) rfl rfl ?_
  refine E_s (p' := 10) (st' := aA 1 :: _) rfl rfl ?_
  refine E_s (p' := 13) (st' := aA 2 :: _) rfl rfl ?_
  refine E_s (p' := 14) (st' := aI 1 :: _) rfl rfl ?_
  refine E_s (p' := 15) (st' := aA 46 :: _) rfl rfl ?_
  refine E_s (p' := 19) rfl rfl ?_
  refine E_ret rfl rfl ?_
  refine E_s (p' := 6) (L' := [some (aA 1), some (aI 1), some (aA 46)]) rfl rfl ?_
  refine E_s (p' := 7) (st' := aA 46 :: _) rfl rfl ?_
  refine E_s (p' := 10) rfl rfl ?_
  refine E_s (p' := 11) (st' := aA 46 :: _) rfl rfl ?_
  refine E_callL (p' := 14) (L0 := [some (aA 46)]) rfl rfl rfl ?_
  refine E_s (p' := 1) (st' := aA 46 :: _) rfl rfl ?_
  refine E_s (p' := 4) (st' := aI 0 :: _) rfl rfl ?_
  refine E_s (p' := 7) rfl rfl ?_
  refine E_s (p' := 8) (st' := aA 46 :: _) rfl rfl ?_
  refine E_s (p' := 11) (st' := aA 61 :: _) rfl rfl ?_
  refine E_s (p' := 12) (st' := aA 46 :: _) rfl rfl ?_
  refine E_s (p' := 15) (st' := aA 47 :: _) rfl rfl ?_
  refine E_s (p' := 16) (st' := aA 46 :: _) rfl rfl ?_
  refine E_s (p' := 19) (st' := aI 15 :: _) rfl rfl ?_
  refine E_callL (p' := 22) (L0 := [some (aA 61), some (aA 47), some (aI 15), none]) rfl rfl rfl ?_
  refine E_s (p' := 1) (st' := aA 61 :: _) rfl rfl ?_
  refine E_s (p' := 2) (st' := aA 47 :: _) rfl rfl ?_
  refine E_callL (p' := 5) (L0 := [some (aA 61), some (aA 47), none, none]) rfl rfl rfl ?_
  refine E_s (p' := 1) (st' := aA 61 :: _) rfl rfl ?_
  refine E_s (p' := 4) (st' := aA 70 :: _) rfl rfl ?_
  refine E_s (p' := 5) (st' := aI 0 :: _) rfl rfl ?_
  refine E_call rfl rfl ?_
  refine c_fill rfl rfl ?_
  refine E_s (p' := 9) (st' := aA 61 :: _) rfl rfl ?_
  refine E_s (p' := 12) (st' := aA 66 :: _) rfl rfl ?_
  refine E_s (p' := 13) (st' := aI 0 :: _) rfl rfl ?_
  refine E_call rfl rfl ?_
  refine c_fill rfl rfl ?_
  refine E_s (p' := 17) (st' := aA 61 :: _) rfl rfl ?_
  refine E_s (p' := 18) (st' := aI 0 :: _) rfl rfl ?_
  refine E_stM (p' := 21) (m' := up2 _ 61 10 0) rfl rfl ?_
  refine E_s (p' := 22) (st' := aA 61 :: _) rfl rfl ?_
  refine E_s (p' := 23) (st' := aI 0 :: _) rfl rfl ?_
  refine E_stM (p' := 26) (m' := up2 _ 61 11 0) rfl rfl ?_
  refine E_s (p' := 27) (st' := aI 0 :: _) rfl rfl ?_
  refine E_s (p' := 28) (L' := [some (aA 61), some (aA 47), some (aI 0), none]) rfl rfl ?_
  refine E_s (p' := 29) (st' := aI 0 :: _) rfl rfl ?_
  refine E_s (p' := 30) (st' := aA 47 :: _) rfl rfl ?_
  refine E_s (p' := 33) (st' := aI 0 :: _) rfl rfl ?_
  refine E_s (p' := 135) rfl rfl ?_
  refine E_ret rfl rfl ?_
  refine E_s (p' := 6) (st' := aA 61 :: _) rfl rfl ?_
  refine E_s (p' := 7) (st' := aI 15 :: _) rfl rfl ?_
  refine E_callL (p' := 10) (L0 := [some (aA 61), some (aI 15), none]) rfl rfl rfl ?_
  refine E_s (p' := 1) (st' := aA 61 :: _) rfl rfl ?_
  refine E_s (p' := 2) (st' := aI 0 :: _) rfl rfl ?_
  refine E_stM (p' := 5) (m' := up2 _ 61 12 0) rfl rfl ?_
  refine E_s (p' := 6) (st' := aI 1 :: _) rfl rfl ?_
  refine E_s (p' := 7) (L' := [some (aA 61), some (aI 15), some (aI 1)]) rfl rfl ?_
  refine fl_loop (gp := 0) (by decide) _ 600 1 _ rfl (fun j hj => show (if 0 ≤ j ∧ j < 601 then (0 : Int) else _) = 0 from if_pos ⟨Nat.zero_le _, hj⟩) ?_
  refine E_s (p' := 11) (st' := aA 61 :: _) rfl rfl ?_
  refine E_s (p' := 14) (st' := aI 0 :: _) rfl rfl ?_
  refine E_s (p' := 17) rfl rfl ?_
  refine E_s (p' := 18) (st' := aA 61 :: _) rfl rfl ?_
  refine E_callL (p' := 21) (L0 := [some (aA 61)]) rfl rfl rfl ?_
  refine E_s (p' := 1) (st' := aA 61 :: _) rfl rfl ?_
  refine E_s (p' := 4) (st' := aA 67 :: _) rfl rfl ?_
  refine E_s (p' := 5) (st' := aA 61 :: _) rfl rfl ?_
  refine E_s (p' := 8) (st' := aI 0 :: _) rfl rfl ?_
  refine E_s (p' := 15) rfl rfl ?_
  refine E_s (p' := 16) (st' := aI 0 :: _) rfl rfl ?_
  refine E_call rfl rfl ?_
  refine c_fill rfl rfl ?_
  refine E_s (p' := 20) (st' := aA 61 :: _) rfl rfl ?_
  refine E_s (p' := 23) (st' := aA 68 :: _) rfl rfl ?_
  refine E_s (p' := 24) (st' := aI 0 :: _) rfl rfl ?_
  refine E_call rfl rfl ?_
  refine c_fill rfl rfl ?_
  refine E_s (p' := 28) (st' := aA 61 :: _) rfl rfl ?_
  refine E_s (p' := 31) (st' := aA 69 :: _) rfl rfl ?_
  refine E_s (p' := 32) (st' := aI 0 :: _) rfl rfl ?_
  refine E_call rfl rfl ?_
  refine c_fill rfl rfl ?_
  refine E_ret rfl rfl ?_
  refine E_ret rfl rfl ?_
  refine E_s (p' := 23) (st' := aA 46 :: _) rfl rfl ?_
  refine E_s (p' := 24) (st' := aI 1 :: _) rfl rfl ?_
  refine E_stM (p' := 27) (m' := up2 _ 46 7 1) rfl rfl ?_
  refine E_s (p' := 28) (st' := aA 46 :: _) rfl rfl ?_
  refine E_s (p' := 31) (st' := aA 61 :: _) rfl rfl ?_
  refine E_ret rfl rfl ?_
  refine E_s (p' := 15) rfl rfl ?_
  refine E_s (p' := 16) (st' := aA 46 :: _) rfl rfl ?_
  refine E_ret rfl rfl ?_
  refine E_s (p' := 6) (L' := [some (aA 1), some (aI 1), some (aA 46)]) rfl rfl ?_
  refine E_s (p' := 7) (st' := aA 46 :: _) rfl rfl ?_
  refine E_s (p' := 15) rfl rfl ?_
  refine E_s (p' := 16) (st' := aA 1 :: _) rfl rfl ?_
  refine E_s (p' := 19) (st' := aA 10 :: _) rfl rfl ?_
  refine E_s (p' := 20) (st' := aA 46 :: _) rfl rfl ?_
  refine E_callL (p' := 23) (L0 := [some (aA 10), some (aA 46), none]) rfl rfl rfl ?_
  refine E_s (p' := 1) (st' := aA 10 :: _) rfl rfl ?_
  refine E_s (p' := 2) (st' := aI 0 :: _) rfl rfl ?_
  refine E_stM (p' := 5) (m' := up2 _ 10 2 0) rfl rfl ?_
  refine E_s (p' := 6) (st' := aA 10 :: _) rfl rfl ?_
  refine E_s (p' := 7) (st' := aA 46 :: _) rfl rfl ?_
  refine E_callL (p' := 10) (L0 := [some (aA 10), some (aA 46), none, none]) rfl rfl rfl ?_
  refine E_s (p' := 1) (st' := aA 10 :: _) rfl rfl ?_
  refine E_s (p' := 4) (st' := aA 13 :: _) rfl rfl ?_
  refine E_s (p' := 5) (st' := aI 0 :: _) rfl rfl ?_
  refine E_call rfl rfl ?_
  refine c_fill rfl rfl ?_
  refine E_s (p' := 9) (st' := aA 10 :: _) rfl rfl ?_
  refine E_s (p' := 10) (st' := aI 0 :: _) rfl rfl ?_
  refine E_stM (p' := 13) (m' := up2 _ 10 5 0) rfl rfl ?_
  refine E_s (p' := 14) (st' := aI 0 :: _) rfl rfl ?_
  refine E_s (p' := 15) (L' := [some (aA 10), some (aA 46), some (aI 0), none]) rfl rfl ?_
  refine E_s (p' := 16) (st' := aI 0 :: _) rfl rfl ?_
  refine E_s (p' := 17) (st' := aA 46 :: _) rfl rfl ?_
  refine E_s (p' := 20) (st' := aA 47 :: _) rfl rfl ?_
  refine E_s (p' := 23) (st' := aI 0 :: _) rfl rfl ?_
  refine E_s (p' := 105) rfl rfl ?_
  refine E_ret rfl rfl ?_
  refine E_s (p' := 11) (st' := aI 0 :: _) rfl rfl ?_
  refine E_s (p' := 12) (L' := [some (aA 10), some (aA 46), some (aI 0)]) rfl rfl ?_
  refine E_s (p' := 13) (st' := aI 0 :: _) rfl rfl ?_
  refine E_s (p' := 15) (st' := aI 12 :: _) rfl rfl ?_
  refine E_s (p' := 18) rfl rfl ?_
  refine E_s (p' := 19) (st' := aA 10 :: _) rfl rfl ?_
  refine E_s (p' := 20) (st' := aI 0 :: _) rfl rfl ?_
  refine E_callL (p' := 23) (L0 := [some (aA 10), some (aI 0), none, none]) rfl rfl rfl ?_
  refine E_s (p' := 1) (st' := aI 0 :: _) rfl rfl ?_
  refine E_s (p' := 2) (L' := [some (aA 10), some (aI 0), some (aI 0), none]) rfl rfl ?_
  refine E_s (p' := 3) (st' := aI 0 :: _) rfl rfl ?_
  refine E_s (p' := 4) (L' := [some (aA 10), some (aI 0), some (aI 0), some (aI 0)]) rfl rfl ?_
  refine E_s (p' := 5) (st' := aI 0 :: _) rfl rfl ?_
  refine E_s (p' := 6) (st' := aA 10 :: _) rfl rfl ?_
  refine E_s (p' := 9) (st' := aA 13 :: _) rfl rfl ?_
  refine E_s (p' := 10) (st' := aI 0 :: _) rfl rfl ?_
  refine E_s (p' := 11) (st' := aI 0 :: _) rfl rfl ?_
  refine E_s (p' := 34) rfl rfl ?_
  refine E_s (p' := 35) (st' := aA 10 :: _) rfl rfl ?_
  refine E_s (p' := 36) (st' := aI 0 :: _) rfl rfl ?_
  refine E_callL (p' := 39) (L0 := [some (aA 10), some (aI 0)]) rfl rfl rfl ?_
  refine E_s (p' := 1) (st' := aA 10 :: _) rfl rfl ?_
  refine E_s (p' := 4) (st' := aA 13 :: _) rfl rfl ?_
  refine E_s (p' := 5) (st' := aI 0 :: _) rfl rfl ?_
  refine E_s (p' := 6) (st' := aI 0 :: _) rfl rfl ?_
  refine E_s (p' := 24) rfl rfl ?_
  refine E_s (p' := 25) (st' := aI 0 :: _) rfl rfl ?_
  refine E_ret rfl rfl ?_
  refine E_s (p' := 50) rfl rfl ?_
  refine E_s (p' := 51) (st' := aI 0 :: _) rfl rfl ?_
  refine E_ret rfl rfl ?_
  refine E_s (p' := 42) rfl rfl ?_
  refine E_s (p' := 45) (L' := [some (aA 10), some (aA 46), some (aI 1)]) rfl rfl ?_
  refine E_s (p' := 12) rfl rfl ?_
  refine E_s (p' := 13) (st' := aI 1 :: _) rfl rfl ?_
  refine E_s (p' := 15) (st' := aI 12 :: _) rfl rfl ?_
  refine E_s (p' := 18) rfl rfl ?_
  refine E_s (p' := 19) (st' := aA 10 :: _) rfl rfl ?_
  refine E_s (p' := 20) (st' := aI 1 :: _) rfl rfl ?_
  refine E_callL (p' := 23) (L0 := [some (aA 10), some (aI 1), none, none]) rfl rfl rfl ?_
  refine E_s (p' := 1) (st' := aI 0 :: _) rfl rfl ?_
  refine E_s (p' := 2) (L' := [some (aA 10), some (aI 1), some (aI 0), none]) rfl rfl ?_
  refine E_s (p' := 3) (st' := aI 0 :: _) rfl rfl ?_
  refine E_s (p' := 4) (L' := [some (aA 10), some (aI 1), some (aI 0), some (aI 0)]) rfl rfl ?_
  refine E_s (p' := 5) (st' := aI 0 :: _) rfl rfl ?_
  refine E_s (p' := 6) (st' := aA 10 :: _) rfl rfl ?_
  refine E_s (p' := 9) (st' := aA 13 :: _) rfl rfl ?_
  refine E_s (p' := 10) (st' := aI 1 :: _) rfl rfl ?_
  refine E_s (p' := 11) (st' := aI 0 :: _) rfl rfl ?_
  refine E_s (p' := 34) rfl rfl ?_
  refine E_s (p' := 35) (st' := aA 10 :: _) rfl rfl ?_
  refine E_s (p' := 36) (st' := aI 1 :: _) rfl rfl ?_
  refine E_callL (p' := 39) (L0 := [some (aA 10), some (aI 1)]) rfl rfl rfl ?_
  refine E_s (p' := 1) (st' := aA 10 :: _) rfl rfl ?_
  refine E_s (p' := 4) (st' := aA 13 :: _) rfl rfl ?_
  refine E_s (p' := 5) (st' := aI 1 :: _) rfl rfl ?_
  refine E_s (p' := 6) (st' := aI 0 :: _) rfl rfl ?_
  refine E_s (p' := 24) rfl rfl ?_
  refine E_s (p' := 25) (st' := aI 0 :: _) rfl rfl ?_
  refine E_ret rfl rfl ?_
  refine E_s (p' := 50) rfl rfl ?_
  refine E_s (p' := 51) (st' := aI 0 :: _) rfl rfl ?_
  refine E_ret rfl rfl ?_
  refine E_s (p' := 42) rfl rfl ?_
  refine E_s (p' := 45) (L' := [some (aA 10), some (aA 46), some (aI 2)]) rfl rfl ?_
  refine E_s (p' := 12) rfl rfl ?_
  refine E_s (p' := 13) (st' := aI 2 :: _) rfl rfl ?_
  refine E_s (p' := 15) (st' := aI 12 :: _) rfl rfl ?_
  refine E_s (p' := 18) rfl rfl ?_
  refine E_s (p' := 19) (st' := aA 10 :: _) rfl rfl ?_
  refine E_s (p' := 20) (st' := aI 2 :: _) rfl rfl ?_
  refine E_callL (p' := 23) (L0 := [some (aA 10), some (aI 2), none, none]) rfl rfl rfl ?_
  refine E_s (p' := 1) (st' := aI 0 :: _) rfl rfl ?_
  refine E_s (p' := 2) (L' := [some (aA 10), some (aI 2), some (aI 0), none]) rfl rfl ?_
  refine E_s (p' := 3) (st' := aI 0 :: _) rfl rfl ?_
  refine E_s (p' := 4) (L' := [some (aA 10), some (aI 2), some (aI 0), some (aI 0)]) rfl rfl ?_
  refine E_s (p' := 5) (st' := aI 0 :: _) rfl rfl ?_
  refine E_s (p' := 6) (st' := aA 10 :: _) rfl rfl ?_
  refine E_s (p' := 9) (st' := aA 13 :: _) rfl rfl ?_
  refine E_s (p' := 10) (st' := aI 2 :: _) rfl rfl ?_
  refine E_s (p' := 11) (st' := aI 0 :: _) rfl rfl ?_
  refine E_s (p' := 34) rfl rfl ?_
  refine E_s (p' := 35) (st' := aA 10 :: _) rfl rfl ?_
  refine E_s (p' := 36) (st' := aI 2 :: _) rfl rfl ?_
  refine E_callL (p' := 39) (L0 := [some (aA 10), some (aI 2)]) rfl rfl rfl ?_
  refine E_s (p' := 1) (st' := aA 10 :: _) rfl rfl ?_
  refine E_s (p' := 4) (st' := aA 13 :: _) rfl rfl ?_
  refine E_s (p' := 5) (st' := aI 2 :: _) rfl rfl ?_
  refine E_s (p' := 6) (st' := aI 0 :: _) rfl rfl ?_
  refine E_s (p' := 24) rfl rfl ?_
  refine E_s (p' := 25) (st' := aI 0 :: _) rfl rfl ?_
  refine E_ret rfl rfl ?_
  refine E_s (p' := 50) rfl rfl ?_
  refine E_s (p' := 51) (st' := aI 0 :: _) rfl rfl ?_
  refine E_ret rfl rfl ?_
  refine E_s (p' := 42) rfl rfl ?_
  refine E_s (p' := 45) (L' := [some (aA 10), some (aA 46), some (aI 3)]) rfl rfl ?_
  refine E_s (p' := 12) rfl rfl ?_
  refine E_s (p' := 13) (st' := aI 3 :: _) rfl rfl ?_
  refine E_s (p' := 15) (st' := aI 12 :: _) rfl rfl ?_
  refine E_s (p' := 18) rfl rfl ?_
  refine E_s (p' := 19) (st' := aA 10 :: _) rfl rfl ?_
  refine E_s (p' := 20) (st' := aI 3 :: _) rfl rfl ?_
  refine E_callL (p' := 23) (L0 := [some (aA 10), some (aI 3), none, none]) rfl rfl rfl ?_
  refine E_s (p' := 1) (st' := aI 0 :: _) rfl rfl ?_
  refine E_s (p' := 2) (L' := [some (aA 10), some (aI 3), some (aI 0), none]) rfl rfl ?_
  refine E_s (p' := 3) (st' := aI 0 :: _) rfl rfl ?_
  refine E_s (p' := 4) (L' := [some (aA 10), some (aI 3), some (aI 0), some (aI 0)]) rfl rfl ?_
  refine E_s (p' := 5) (st' := aI 0 :: _) rfl rfl ?_
  refine E_s (p' := 6) (st' := aA 10 :: _) rfl rfl ?_
  refine E_s (p' := 9) (st' := aA 13 :: _) rfl rfl ?_
  refine E_s (p' := 10) (st' := aI 3 :: _) rfl rfl ?_
  refine E_s (p' := 11) (st' := aI 0 :: _) rfl rfl ?_
  refine E_s (p' := 34) rfl rfl ?_
  refine E_s (p' := 35) (st' := aA 10 :: _) rfl rfl ?_
  refine E_s (p' := 36) (st' := aI 3 :: _) rfl rfl ?_
  refine E_callL (p' := 39) (L0 := [some (aA 10), some (aI 3)]) rfl rfl rfl ?_
  refine E_s (p' := 1) (st' := aA 10 :: _) rfl rfl ?_
  refine E_s (p' := 4) (st' := aA 13 :: _) rfl rfl ?_
  refine E_s (p' := 5) (st' := aI 3 :: _) rfl rfl ?_
  refine E_s (p' := 6) (st' := aI 0 :: _) rfl rfl ?_
  refine E_s (p' := 24) rfl rfl ?_
  refine E_s (p' := 25) (st' := aI 0 :: _) rfl rfl ?_
  refine E_ret rfl rfl ?_
  refine E_s (p' := 50) rfl rfl ?_
  refine E_s (p' := 51) (st' := aI 0 :: _) rfl rfl ?_
  refine E_ret rfl rfl ?_
  refine E_s (p' := 42) rfl rfl ?_
  refine E_s (p' := 45) (L' := [some (aA 10), some (aA 46), some (aI 4)]) rfl rfl ?_
  refine E_s (p' := 12) rfl rfl ?_
  refine E_s (p' := 13) (st' := aI 4 :: _) rfl rfl ?_
  refine E_s (p' := 15) (st' := aI 12 :: _) rfl rfl ?_
  refine E_s (p' := 18) rfl rfl ?_
  refine E_s (p' := 19) (st' := aA 10 :: _) rfl rfl ?_
  refine E_s (p' := 20) (st' := aI 4 :: _) rfl rfl ?_
  refine E_callL (p' := 23) (L0 := [some (aA 10), some (aI 4), none, none]) rfl rfl rfl ?_
  refine E_s (p' := 1) (st' := aI 0 :: _) rfl rfl ?_
  refine E_s (p' := 2) (L' := [some (aA 10), some (aI 4), some (aI 0), none]) rfl rfl ?_
  refine E_s (p' := 3) (st' := aI 0 :: _) rfl rfl ?_
  refine E_s (p' := 4) (L' := [some (aA 10), some (aI 4), some (aI 0), some (aI 0)]) rfl rfl ?_
  refine E_s (p' := 5) (st' := aI 0 :: _) rfl rfl ?_
  refine E_s (p' := 6) (st' := aA 10 :: _) rfl rfl ?_
  refine E_s (p' := 9) (st' := aA 13 :: _) rfl rfl ?_
  refine E_s (p' := 10) (st' := aI 4 :: _) rfl rfl ?_
  refine E_s (p' := 11) (st' := aI 0 :: _) rfl rfl ?_
  refine E_s (p' := 34) rfl rfl ?_
  refine E_s (p' := 35) (st' := aA 10 :: _) rfl rfl ?_
  refine E_s (p' := 36) (st' := aI 4 :: _) rfl rfl ?_
  refine E_callL (p' := 39) (L0 := [some (aA 10), some (aI 4)]) rfl rfl rfl ?_
  refine E_s (p' := 1) (st' := aA 10 :: _) rfl rfl ?_
  refine E_s (p' := 4) (st' := aA 13 :: _) rfl rfl ?_
  refine E_s (p' := 5) (st' := aI 4 :: _) rfl rfl ?_
  refine E_s (p' := 6) (st' := aI 0 :: _) rfl rfl ?_
  refine E_s (p' := 24) rfl rfl ?_
  refine E_s (p' := 25) (st' := aI 0 :: _) rfl rfl ?_
  refine E_ret rfl rfl ?_
  refine E_s (p' := 50) rfl rfl ?_
  refine E_s (p' := 51) (st' := aI 0 :: _) rfl rfl ?_
  refine E_ret rfl rfl ?_
  refine E_s (p' := 42) rfl rfl ?_
  refine E_s (p' := 45) (L' := [some (aA 10), some (aA 46), some (aI 5)]) rfl rfl ?_
  refine E_s (p' := 12) rfl rfl ?_
  refine E_s (p' := 13) (st' := aI 5 :: _) rfl rfl ?_
  refine E_s (p' := 15) (st' := aI 12 :: _) rfl rfl ?_
  refine E_s (p' := 18) rfl rfl ?_
  refine E_s (p' := 19) (st' := aA 10 :: _) rfl rfl ?_
  refine E_s (p' := 20) (st' := aI 5 :: _) rfl rfl ?_
  refine E_callL (p' := 23) (L0 := [some (aA 10), some (aI 5), none, none]) rfl rfl rfl ?_
  refine E_s (p' := 1) (st' := aI 0 :: _) rfl rfl ?_
  refine E_s (p' := 2) (L' := [some (aA 10), some (aI 5), some (aI 0), none]) rfl rfl ?_
  refine E_s (p' := 3) (st' := aI 0 :: _) rfl rfl ?_
  refine E_s (p' := 4) (L' := [some (aA 10), some (aI 5), some (aI 0), some (aI 0)]) rfl rfl ?_
  refine E_s (p' := 5) (st' := aI 0 :: _) rfl rfl ?_
  refine E_s (p' := 6) (st' := aA 10 :: _) rfl rfl ?_
  refine E_s (p' := 9) (st' := aA 13 :: _) rfl rfl ?_
  refine E_s (p' := 10) (st' := aI 5 :: _) rfl rfl ?_
  refine E_s (p' := 11) (st' := aI 0 :: _) rfl rfl ?_
  refine E_s (p' := 34) rfl rfl ?_
  refine E_s (p' := 35) (st' := aA 10 :: _) rfl rfl ?_
  refine E_s (p' := 36) (st' := aI 5 :: _) rfl rfl ?_
  refine E_callL (p' := 39) (L0 := [some (aA 10), some (aI 5)]) rfl rfl rfl ?_
  refine E_s (p' := 1) (st' := aA 10 :: _) rfl rfl ?_
  refine E_s (p' := 4) (st' := aA 13 :: _) rfl rfl ?_
  refine E_s (p' := 5) (st' := aI 5 :: _) rfl rfl ?_
  refine E_s (p' := 6) (st' := aI 0 :: _) rfl rfl ?_
  refine E_s (p' := 24) rfl rfl ?_
  refine E_s (p' := 25) (st' := aI 0 :: _) rfl rfl ?_
  refine E_ret rfl rfl ?_
  refine E_s (p' := 50) rfl rfl ?_
  refine E_s (p' := 51) (st' := aI 0 :: _) rfl rfl ?_
  refine E_ret rfl rfl ?_
  refine E_s (p' := 42) rfl rfl ?_
  refine E_s (p' := 45) (L' := [some (aA 10), some (aA 46), some (aI 6)]) rfl rfl ?_
  refine E_s (p' := 12) rfl rfl ?_
  refine E_s (p' := 13) (st' := aI 6 :: _) rfl rfl ?_
  refine E_s (p' := 15) (st' := aI 12 :: _) rfl rfl ?_
  refine E_s (p' := 18) rfl rfl ?_
  refine E_s (p' := 19) (st' := aA 10 :: _) rfl rfl ?_
  refine E_s (p' := 20) (st' := aI 6 :: _) rfl rfl ?_
  refine E_callL (p' := 23) (L0 := [some (aA 10), some (aI 6), none, none]) rfl rfl rfl ?_
  refine E_s (p' := 1) (st' := aI 0 :: _) rfl rfl ?_
  refine E_s (p' := 2) (L' := [some (aA 10), some (aI 6), some (aI 0), none]) rfl rfl ?_
  refine E_s (p' := 3) (st' := aI 0 :: _) rfl rfl ?_
  refine E_s (p' := 4) (L' := [some (aA 10), some (aI 6), some (aI 0), some (aI 0)]) rfl rfl ?_
  refine E_s (p' := 5) (st' := aI 0 :: _) rfl rfl ?_
  refine E_s (p' := 6) (st' := aA 10 :: _) rfl rfl ?_
  refine E_s (p' := 9) (st' := aA 13 :: _) rfl rfl ?_
  refine E_s (p' := 10) (st' := aI 6 :: _) rfl rfl ?_
  refine E_s (p' := 11) (st' := aI 0 :: _) rfl rfl ?_
  refine E_s (p' := 34) rfl rfl ?_
  refine E_s (p' := 35) (st' := aA 10 :: _) rfl rfl ?_
  refine E_s (p' := 36) (st' := aI 6 :: _) rfl rfl ?_
  refine E_callL (p' := 39) (L0 := [some (aA 10), some (aI 6)]) rfl rfl rfl ?_
  refine E_s (p' := 1) (st' := aA 10 :: _) rfl rfl ?_
  refine E_s (p' := 4) (st' := aA 13 :: _) rfl rfl ?_
  refine E_s (p' := 5) (st' := aI 6 :: _) rfl rfl ?_
  refine E_s (p' := 6) (st' := aI 0 :: _) rfl rfl ?_
  refine E_s (p' := 24) rfl rfl ?_
  refine E_s (p' := 25) (st' := aI 0 :: _) rfl rfl ?_
  refine E_ret rfl rfl ?_
  refine E_s (p' := 50) rfl rfl ?_
  refine E_s (p' := 51) (st' := aI 0 :: _) rfl rfl ?_
  refine E_ret rfl rfl ?_
  refine E_s (p' := 42) rfl rfl ?_
  refine E_s (p' := 45) (L' := [some (aA 10), some (aA 46), some (aI 7)]) rfl rfl ?_
  refine E_s (p' := 12) rfl rfl ?_
  refine E_s (p' := 13) (st' := aI 7 :: _) rfl rfl ?_
  refine E_s (p' := 15) (st' := aI 12 :: _) rfl rfl ?_
  refine E_s (p' := 18) rfl rfl ?_
  refine E_s (p' := 19) (st' := aA 10 :: _) rfl rfl ?_
  refine E_s (p' := 20) (st' := aI 7 :: _) rfl rfl ?_
  refine E_callL (p' := 23) (L0 := [some (aA 10), some (aI 7), none, none]) rfl rfl rfl ?_
  refine E_s (p' := 1) (st' := aI 0 :: _) rfl rfl ?_
  refine E_s (p' := 2) (L' := [some (aA 10), some (aI 7), some (aI 0), none]) rfl rfl ?_
  refine E_s (p' := 3) (st' := aI 0 :: _) rfl rfl ?_
  refine E_s (p' := 4) (L' := [some (aA 10), some (aI 7), some (aI 0), some (aI 0)]) rfl rfl ?_
  refine E_s (p' := 5) (st' := aI 0 :: _) rfl rfl ?_
  refine E_s (p' := 6) (st' := aA 10 :: _) rfl rfl ?_
  refine E_s (p' := 9) (st' := aA 13 :: _) rfl rfl ?_
  refine E_s (p' := 10) (st' := aI 7 :: _) rfl rfl ?_
  refine E_s (p' := 11) (st' := aI 0 :: _) rfl rfl ?_
  refine E_s (p' := 34) rfl rfl ?_
  refine E_s (p' := 35) (st' := aA 10 :: _) rfl rfl ?_
  refine E_s (p' := 36) (st' := aI 7 :: _) rfl rfl ?_
  refine E_callL (p' := 39) (L0 := [some (aA 10), some (aI 7)]) rfl rfl rfl ?_
  refine E_s (p' := 1) (st' := aA 10 :: _) rfl rfl ?_
  refine E_s (p' := 4) (st' := aA 13 :: _) rfl rfl ?_
  refine E_s (p' := 5) (st' := aI 7 :: _) rfl rfl ?_
  refine E_s (p' := 6) (st' := aI 0 :: _) rfl rfl ?_
  refine E_s (p' := 24) rfl rfl ?_
  refine E_s (p' := 25) (st' := aI 0 :: _) rfl rfl ?_
  refine E_ret rfl rfl ?_
  refine E_s (p' := 50) rfl rfl ?_
  refine E_s (p' := 51) (st' := aI 0 :: _) rfl rfl ?_
  refine E_ret rfl rfl ?_
  refine E_s (p' := 42) rfl rfl ?_
  refine E_s (p' := 45) (L' := [some (aA 10), some (aA 46), some (aI 8)]) rfl rfl ?_
  refine E_s (p' := 12) rfl rfl ?_
  refine E_s (p' := 13) (st' := aI 8 :: _) rfl rfl ?_
  refine E_s (p' := 15) (st' := aI 12 :: _) rfl rfl ?_
  refine E_s (p' := 18) rfl rfl ?_
  refine E_s (p' := 19) (st' := aA 10 :: _) rfl rfl ?_
  refine E_s (p' := 20) (st' := aI 8 :: _) rfl rfl ?_
  refine E_callL (p' := 23) (L0 := [some (aA 10), some (aI 8), none, none]) rfl rfl rfl ?_
  refine E_s (p' := 1) (st' := aI 0 :: _) rfl rfl ?_
  refine E_s (p' := 2) (L' := [some (aA 10), some (aI 8), some (aI 0), none]) rfl rfl ?_
  refine E_s (p' := 3) (st' := aI 0 :: _) rfl rfl ?_
  refine E_s (p' := 4) (L' := [some (aA 10), some (aI 8), some (aI 0), some (aI 0)]) rfl rfl ?_
  refine E_s (p' := 5) (st' := aI 0 :: _) rfl rfl ?_
  refine E_s (p' := 6) (st' := aA 10 :: _) rfl rfl ?_
  refine E_s (p' := 9) (st' := aA 13 :: _) rfl rfl ?_
  refine E_s (p' := 10) (st' := aI 8 :: _) rfl rfl ?_
  refine E_s (p' := 11) (st' := aI 0 :: _) rfl rfl ?_
  refine E_s (p' := 34) rfl rfl ?_
  refine E_s (p' := 35) (st' := aA 10 :: _) rfl rfl ?_
  refine E_s (p' := 36) (st' := aI 8 :: _) rfl rfl ?_
  refine E_callL (p' := 39) (L0 := [some (aA 10), some (aI 8)]) rfl rfl rfl ?_
  refine E_s (p' := 1) (st' := aA 10 :: _) rfl rfl ?_
  refine E_s (p' := 4) (st' := aA 13 :: _) rfl rfl ?_
  refine E_s (p' := 5) (st' := aI 8 :: _) rfl rfl ?_
  refine E_s (p' := 6) (st' := aI 0 :: _) rfl rfl ?_
  refine E_s (p' := 24) rfl rfl ?_
  refine E_s (p' := 25) (st' := aI 0 :: _) rfl rfl ?_
  refine E_ret rfl rfl ?_
  refine E_s (p' := 50) rfl rfl ?_
  refine E_s (p' := 51) (st' := aI 0 :: _) rfl rfl ?_
  refine E_ret rfl rfl ?_
  refine E_s (p' := 42) rfl rfl ?_
  refine E_s (p' := 45) (L' := [some (aA 10), some (aA 46), some (aI 9)]) rfl rfl ?_
  refine E_s (p' := 12) rfl rfl ?_
  refine E_s (p' := 13) (st' := aI 9 :: _) rfl rfl ?_
  refine E_s (p' := 15) (st' := aI 12 :: _) rfl rfl ?_
  refine E_s (p' := 18) rfl rfl ?_
  refine E_s (p' := 19) (st' := aA 10 :: _) rfl rfl ?_
  refine E_s (p' := 20) (st' := aI 9 :: _) rfl rfl ?_
  refine E_callL (p' := 23) (L0 := [some (aA 10), some (aI 9), none, none]) rfl rfl rfl ?_
  refine E_s (p' := 1) (st' := aI 0 :: _) rfl rfl ?_
  refine E_s (p' := 2) (L' := [some (aA 10), some (aI 9), some (aI 0), none]) rfl rfl ?_
  refine E_s (p' := 3) (st' := aI 0 :: _) rfl rfl ?_
  refine E_s (p' := 4) (L' := [some (aA 10), some (aI 9), some (aI 0), some (aI 0)]) rfl rfl ?_
  refine E_s (p' := 5) (st' := aI 0 :: _) rfl rfl ?_
  refine E_s (p' := 6) (st' := aA 10 :: _) rfl rfl ?_
  refine E_s (p' := 9) (st' := aA 13 :: _) rfl rfl ?_
  refine E_s (p' := 10) (st' := aI 9 :: _) rfl rfl ?_
  refine E_s (p' := 11) (st' := aI 0 :: _) rfl rfl ?_
  refine E_s (p' := 34) rfl rfl ?_
  refine E_s (p' := 35) (st' := aA 10 :: _) rfl rfl ?_
  refine E_s (p' := 36) (st' := aI 9 :: _) rfl rfl ?_
  refine E_callL (p' := 39) (L0 := [some (aA 10), some (aI 9)]) rfl rfl rfl ?_
  refine E_s (p' := 1) (st' := aA 10 :: _) rfl rfl ?_
  refine E_s (p' := 4) (st' := aA 13 :: _) rfl rfl ?_
  refine E_s (p' := 5) (st' := aI 9 :: _) rfl rfl ?_
  refine E_s (p' := 6) (st' := aI 0 :: _) rfl rfl ?_
  refine E_s (p' := 24) rfl rfl ?_
  refine E_s (p' := 25) (st' := aI 0 :: _) rfl rfl ?_
  refine E_ret rfl rfl ?_
  refine E_s (p' := 50) rfl rfl ?_
  refine E_s (p' := 51) (st' := aI 0 :: _) rfl rfl ?_
  refine E_ret rfl rfl ?_
  refine E_s (p' := 42) rfl rfl ?_
  refine E_s (p' := 45) (L' := [some (aA 10), some (aA 46), some (aI 10)]) rfl rfl ?_
  refine E_s (p' := 12) rfl rfl ?_
  refine E_s (p' := 13) (st' := aI 10 :: _) rfl rfl ?_
  refine E_s (p' := 15) (st' := aI 12 :: _) rfl rfl ?_
  refine E_s (p' := 18) rfl rfl ?_
  refine E_s (p' := 19) (st' := aA 10 :: _) rfl rfl ?_
  refine E_s (p' := 20) (st' := aI 10 :: _) rfl rfl ?_
  refine E_callL (p' := 23) (L0 := [some (aA 10), some (aI 10), none, none]) rfl rfl rfl ?_
  refine E_s (p' := 1) (st' := aI 0 :: _) rfl rfl ?_
  refine E_s (p' := 2) (L' := [some (aA 10), some (aI 10), some (aI 0), none]) rfl rfl ?_
  refine E_s (p' := 3) (st' := aI 0 :: _) rfl rfl ?_
  refine E_s (p' := 4) (L' := [some (aA 10), some (aI 10), some (aI 0), some (aI 0)]) rfl rfl ?_
  refine E_s (p' := 5) (st' := aI 0 :: _) rfl rfl ?_
  refine E_s (p' := 6) (st' := aA 10 :: _) rfl rfl ?_
  refine E_s (p' := 9) (st' := aA 13 :: _) rfl rfl ?_
  refine E_s (p' := 10) (st' := aI 10 :: _) rfl rfl ?_
  refine E_s (p' := 11) (st' := aI 0 :: _) rfl rfl ?_
  refine E_s (p' := 34) rfl rfl ?_
  refine E_s (p' := 35) (st' := aA 10 :: _) rfl rfl ?_
  refine E_s (p' := 36) (st' := aI 10 :: _) rfl rfl ?_
  refine E_callL (p' := 39) (L0 := [some (aA 10), some (aI 10)]) rfl rfl rfl ?_
  refine E_s (p' := 1) (st' := aA 10 :: _) rfl rfl ?_
  refine E_s (p' := 4) (st' := aA 13 :: _) rfl rfl ?_
  refine E_s (p' := 5) (st' := aI 10 :: _) rfl rfl ?_
  refine E_s (p' := 6) (st' := aI 0 :: _) rfl rfl ?_
  refine E_s (p' := 24) rfl rfl ?_
  refine E_s (p' := 25) (st' := aI 0 :: _) rfl rfl ?_
  refine E_ret rfl rfl ?_
  refine E_s (p' := 50) rfl rfl ?_
  refine E_s (p' := 51) (st' := aI 0 :: _) rfl rfl ?_
  refine E_ret rfl rfl ?_
  refine E_s (p' := 42) rfl rfl ?_
  refine E_s (p' := 45) (L' := [some (aA 10), some (aA 46), some (aI 11)]) rfl rfl ?_
  refine E_s (p' := 12) rfl rfl ?_
  refine E_s (p' := 13) (st' := aI 11 :: _) rfl rfl ?_
  refine E_s (p' := 15) (st' := aI 12 :: _) rfl rfl ?_
  refine E_s (p' := 18) rfl rfl ?_
  refine E_s (p' := 19) (st' := aA 10 :: _) rfl rfl ?_
  refine E_s (p' := 20) (st' := aI 11 :: _) rfl rfl ?_
  refine E_callL (p' := 23) (L0 := [some (aA 10), some (aI 11), none, none]) rfl rfl rfl ?_
  refine E_s (p' := 1) (st' := aI 0 :: _) rfl rfl ?_
  refine E_s (p' := 2) (L' := [some (aA 10), some (aI 11), some (aI 0), none]) rfl rfl ?_
  refine E_s (p' := 3) (st' := aI 0 :: _) rfl rfl ?_
  refine E_s (p' := 4) (L' := [some (aA 10), some (aI 11), some (aI 0), some (aI 0)]) rfl rfl ?_
  refine E_s (p' := 5) (st' := aI 0 :: _) rfl rfl ?_
  refine E_s (p' := 6) (st' := aA 10 :: _) rfl rfl ?_
  refine E_s (p' := 9) (st' := aA 13 :: _) rfl rfl ?_
  refine E_s (p' := 10) (st' := aI 11 :: _) rfl rfl ?_
  refine E_s (p' := 11) (st' := aI 0 :: _) rfl rfl ?_
  refine E_s (p' := 34) rfl rfl ?_
  refine E_s (p' := 35) (st' := aA 10 :: _) rfl rfl ?_
  refine E_s (p' := 36) (st' := aI 11 :: _) rfl rfl ?_
  refine E_callL (p' := 39) (L0 := [some (aA 10), some (aI 11)]) rfl rfl rfl ?_
  refine E_s (p' := 1) (st' := aA 10 :: _) rfl rfl ?_
  refine E_s (p' := 4) (st' := aA 13 :: _) rfl rfl ?_
  refine E_s (p' := 5) (st' := aI 11 :: _) rfl rfl ?_
  refine E_s (p' := 6) (st' := aI 0 :: _) rfl rfl ?_
  refine E_s (p' := 24) rfl rfl ?_
  refine E_s (p' := 25) (st' := aI 0 :: _) rfl rfl ?_
  refine E_ret rfl rfl ?_
  refine E_s (p' := 50) rfl rfl ?_
  refine E_s (p' := 51) (st' := aI 0 :: _) rfl rfl ?_
  refine E_ret rfl rfl ?_
  refine E_s (p' := 42) rfl rfl ?_
  refine E_s (p' := 45) (L' := [some (aA 10), some (aA 46), some (aI 12)]) rfl rfl ?_
  refine E_s (p' := 12) rfl rfl ?_
  refine E_s (p' := 13) (st' := aI 12 :: _) rfl rfl ?_
  refine E_s (p' := 15) (st' := aI 12 :: _) rfl rfl ?_
  refine E_s (p' := 48) rfl rfl ?_
  refine E_s (p' := 49) (st' := aA 10 :: _) rfl rfl ?_
  refine E_s (p' := 52) (st' := aI 0 :: _) rfl rfl ?_
  refine E_ret rfl rfl ?_
  refine E_ret rfl rfl ?_
  refine E_s (p' := 1029) (st' := aA 124 :: _) rfl rfl ?_
  refine E_s (p' := 1030) (st' := aA 0 :: _) rfl rfl ?_
  refine E_s (p' := 1031) (st' := aI 0 :: _) rfl rfl ?_
  refine E_s (p' := 1032) (st' := aI 1 :: _) rfl rfl ?_
  refine E_s (p' := 1033) (st' := aI 1 :: _) rfl rfl ?_
  refine E_scr rfl rfl h1 ?_
  refine E_callL (p' := 1037) (L0 := [some (aA 124), some (aI 1), none, none, none]) rfl rfl rfl ?_
  refine E_s (p' := 1) (st' := aI 1 :: _) rfl rfl ?_
  refine E_callL (p' := 4) (L0 := [some (aI 1)]) rfl rfl rfl ?_
  refine E_s (p' := 1) (st' := aI 1 :: _) rfl rfl ?_
  refine E_s (p' := 2) (st' := aI 0 :: _) rfl rfl ?_
  refine E_s (p' := 3) (st' := aI 3 :: _) rfl rfl ?_
  refine E_callL (p' := 6) (L0 := [some (aI 1), some (aI 0), some (aI 3)]) rfl rfl rfl ?_
  refine E_s (p' := 1) (st' := aI 1 :: _) rfl rfl ?_
  refine E_s (p' := 2) (st' := aI 0 :: _) rfl rfl ?_
  refine E_s (p' := 5) rfl rfl ?_
  refine E_s (p' := 6) (st' := aI 1 :: _) rfl rfl ?_
  refine E_s (p' := 7) (st' := aI 3 :: _) rfl rfl ?_
  refine E_s (p' := 10) rfl rfl ?_
  refine E_s (p' := 11) (st' := aI 1 :: _) rfl rfl ?_
  refine E_s (p' := 15) rfl rfl ?_
  refine E_ret rfl rfl ?_
  refine E_ret rfl rfl ?_
  refine E_s (p' := 10) rfl rfl ?_
  refine E_s (p' := 11) (st' := aA 124 :: _) rfl rfl ?_
  refine E_s (p' := 12) (st' := aI 1 :: _) rfl rfl ?_
  refine E_callL (p' := 15) (L0 := [some (aA 124), some (aI 1), none, none]) rfl rfl rfl ?_
  refine E_s (p' := 1) (st' := aA 124 :: _) rfl rfl ?_
  refine E_s (p' := 2) (st' := aI 1 :: _) rfl rfl ?_
  refine E_s (p' := 3) (st' := aA 124 :: _) rfl rfl ?_
  refine E_s (p' := 6) (st' := aA 148 :: _) rfl rfl ?_
  refine E_callL (p' := 9) (L0 := [some (aA 124), some (aI 1), some (aA 148), none]) rfl rfl rfl ?_
  refine E_s (p' := 1) (st' := aA 124 :: _) rfl rfl ?_
  refine E_s (p' := 2) (st' := aI 1 :: _) rfl rfl ?_
  refine E_callL (p' := 5) (L0 := [some (aA 124), some (aI 1), none, none]) rfl rfl rfl ?_
  refine E_s (p' := 1) (st' := aI 0 :: _) rfl rfl ?_
  refine E_s (p' := 2) (L' := [some (aA 124), some (aI 1), some (aI 0), none]) rfl rfl ?_
  refine mr_loop1 _ 601 0 _ rfl ?_
  refine E_s (p' := 23) (st' := aA 124 :: _) rfl rfl ?_
  refine E_s (p' := 24) (st' := aI 0 :: _) rfl rfl ?_
  refine E_stM (p' := 27) (m' := up2 _ 124 25 0) rfl rfl ?_
  refine E_s (p' := 28) (st' := aA 124 :: _) rfl rfl ?_
  refine E_s (p' := 29) (st' := aI 0 :: _) rfl rfl ?_
  refine E_stM (p' := 32) (m' := up2 _ 124 26 0) rfl rfl ?_
  refine E_s (p' := 33) (st' := aI 0 :: _) rfl rfl ?_
  refine E_s (p' := 34) (L' := [some (aA 124), some (aI 1), some (aI 0), none]) rfl rfl ?_
  refine E_s (p' := 35) (st' := aI 0 :: _) rfl rfl ?_
  refine E_s (p' := 36) (st' := aA 124 :: _) rfl rfl ?_
  refine E_s (p' := 39) (st' := aA 125 :: _) rfl rfl ?_
  refine E_s (p' := 40) (st' := aI 1 :: _) rfl rfl ?_
  refine E_s (p' := 41) (st' := aI 0 :: _) rfl rfl ?_
  refine E_s (p' := 121) rfl rfl ?_
  refine E_s (p' := 122) (st' := aA 124 :: _) rfl rfl ?_
  refine E_s (p' := 123) (st' := aI 0 :: _) rfl rfl ?_
  refine E_stM (p' := 126) (m' := up2 _ 124 24 0) rfl rfl ?_
  refine E_s (p' := 127) (st' := aI 0 :: _) rfl rfl ?_
  refine E_s (p' := 128) (L' := [some (aA 124), some (aI 1), some (aI 0), none]) rfl rfl ?_
  refine mr_loop3 _ 601 0 _ rfl (fun j hj => show (if 0 ≤ j ∧ j < 601 then (0 : Int) else _) = 0 from if_pos ⟨Nat.zero_le _, hj⟩) ?_
  refine E_s (p' := 245) (st' := aA 124 :: _) rfl rfl ?_
  refine E_s (p' := 248) (st' := aI 0 :: _) rfl rfl ?_
  refine E_s (p' := 249) (st' := aA 124 :: _) rfl rfl ?_
  refine E_s (p' := 252) (st' := aI 0 :: _) rfl rfl ?_
  refine E_s (p' := 259) rfl rfl ?_
  refine E_s (p' := 260) (st' := aI 1 :: _) rfl rfl ?_
  refine E_s (p' := 261) (st' := aI 1 :: _) rfl rfl ?_
  refine E_s (p' := 263) (st' := aI 6 :: _) rfl rfl ?_
  refine E_s (p' := 271) rfl rfl ?_
  refine E_s (p' := 272) (st' := aA 124 :: _) rfl rfl ?_
  refine E_s (p' := 275) (st' := aI 0 :: _) rfl rfl ?_
  refine E_s (p' := 282) rfl rfl ?_
  refine E_s (p' := 283) (st' := aI 0 :: _) rfl rfl ?_
  refine E_ret rfl rfl ?_
  refine E_s (p' := 6) rfl rfl ?_
  refine E_s (p' := 7) (st' := aI 0 :: _) rfl rfl ?_
  refine E_s (p' := 8) (L' := [some (aA 124), some (aI 1), some (aA 148), some (aI 0)]) rfl rfl ?_
  refine E_s (p' := 9) (st' := aI 0 :: _) rfl rfl ?_
  refine E_s (p' := 10) (st' := aA 124 :: _) rfl rfl ?_
  refine E_s (p' := 13) (st' := aA 125 :: _) rfl rfl ?_
  refine E_s (p' := 14) (st' := aI 1 :: _) rfl rfl ?_
  refine E_s (p' := 15) (st' := aI 0 :: _) rfl rfl ?_
  refine E_s (p' := 58) rfl rfl ?_
  refine E_ret rfl rfl ?_
  refine E_s (p' := 10) (st' := aI 0 :: _) rfl rfl ?_
  refine E_s (p' := 11) (L' := [some (aA 124), some (aI 1), some (aI 0), none]) rfl rfl ?_
  refine E_s (p' := 12) (st' := aI 0 :: _) rfl rfl ?_
  refine E_s (p' := 14) (st' := aI 12 :: _) rfl rfl ?_
  refine E_s (p' := 17) rfl rfl ?_
  refine E_s (p' := 18) (st' := aA 124 :: _) rfl rfl ?_
  refine E_s (p' := 21) (st' := aA 163 :: _) rfl rfl ?_
  refine E_s (p' := 22) (st' := aI 0 :: _) rfl rfl ?_
  refine E_s (p' := 23) (st' := aI 0 :: _) rfl rfl ?_
  refine E_stM (p' := 24) (m' := up2 _ 163 0 0) rfl rfl ?_
  refine E_s (p' := 25) (st' := aA 124 :: _) rfl rfl ?_
  refine E_s (p' := 28) (st' := aA 164 :: _) rfl rfl ?_
  refine E_s (p' := 29) (st' := aI 0 :: _) rfl rfl ?_
  refine E_s (p' := 30) (st' := aI 1 :: _) rfl rfl ?_
  refine E_stM (p' := 31) (m' := up2 _ 164 0 1) rfl rfl ?_
  refine E_s (p' := 34) (L' := [some (aA 124), some (aI 1), some (aI 1), none]) rfl rfl ?_
  refine E_s (p' := 11) rfl rfl ?_
  refine E_s (p' := 12) (st' := aI 1 :: _) rfl rfl ?_
  refine E_s (p' := 14) (st' := aI 12 :: _) rfl rfl ?_
  refine E_s (p' := 17) rfl rfl ?_
  refine E_s (p' := 18) (st' := aA 124 :: _) rfl rfl ?_
  refine E_s (p' := 21) (st' := aA 163 :: _) rfl rfl ?_
  refine E_s (p' := 22) (st' := aI 1 :: _) rfl rfl ?_
  refine E_s (p' := 23) (st' := aI 0 :: _) rfl rfl ?_
  refine E_stM (p' := 24) (m' := up2 _ 163 1 0) rfl rfl ?_
  refine E_s (p' := 25) (st' := aA 124 :: _) rfl rfl ?_
  refine E_s (p' := 28) (st' := aA 164 :: _) rfl rfl ?_
  refine E_s (p' := 29) (st' := aI 1 :: _) rfl rfl ?_
  refine E_s (p' := 30) (st' := aI 1 :: _) rfl rfl ?_
  refine E_stM (p' := 31) (m' := up2 _ 164 1 1) rfl rfl ?_
  refine E_s (p' := 34) (L' := [some (aA 124), some (aI 1), some (aI 2), none]) rfl rfl ?_
  refine E_s (p' := 11) rfl rfl ?_
  refine E_s (p' := 12) (st' := aI 2 :: _) rfl rfl ?_
  refine E_s (p' := 14) (st' := aI 12 :: _) rfl rfl ?_
  refine E_s (p' := 17) rfl rfl ?_
  refine E_s (p' := 18) (st' := aA 124 :: _) rfl rfl ?_
  refine E_s (p' := 21) (st' := aA 163 :: _) rfl rfl ?_
  refine E_s (p' := 22) (st' := aI 2 :: _) rfl rfl ?_
  refine E_s (p' := 23) (st' := aI 0 :: _) rfl rfl ?_
  refine E_stM (p' := 24) (m' := up2 _ 163 2 0) rfl rfl ?_
  refine E_s (p' := 25) (st' := aA 124 :: _) rfl rfl ?_
  refine E_s (p' := 28) (st' := aA 164 :: _) rfl rfl ?_
  refine E_s (p' := 29) (st' := aI 2 :: _) rfl rfl ?_
  refine E_s (p' := 30) (st' := aI 1 :: _) rfl rfl ?_
  refine E_stM (p' := 31) (m' := up2 _ 164 2 1) rfl rfl ?_
  refine E_s (p' := 34) (L' := [some (aA 124), some (aI 1), some (aI 3), none]) rfl rfl ?_
  refine E_s (p' := 11) rfl rfl ?_
  refine E_s (p' := 12) (st' := aI 3 :: _) rfl rfl ?_
  refine E_s (p' := 14) (st' := aI 12 :: _) rfl rfl ?_
  refine E_s (p' := 17) rfl rfl ?_
  refine E_s (p' := 18) (st' := aA 124 :: _) rfl rfl ?_
  refine E_s (p' := 21) (st' := aA 163 :: _) rfl rfl ?_
  refine E_s (p' := 22) (st' := aI 3 :: _) rfl rfl ?_
  refine E_s (p' := 23) (st' := aI 0 :: _) rfl rfl ?_
  refine E_stM (p' := 24) (m' := up2 _ 163 3 0) rfl rfl ?_
  refine E_s (p' := 25) (st' := aA 124 :: _) rfl rfl ?_
  refine E_s (p' := 28) (st' := aA 164 :: _) rfl rfl ?_
  refine E_s (p' := 29) (st' := aI 3 :: _) rfl rfl ?_
  refine E_s (p' := 30) (st' := aI 1 :: _) rfl rfl ?_
  refine E_stM (p' := 31) (m' := up2 _ 164 3 1) rfl rfl ?_
  refine E_s (p' := 34) (L' := [some (aA 124), some (aI 1), some (aI 4), none]) rfl rfl ?_
  refine E_s (p' := 11) rfl rfl ?_
  refine E_s (p' := 12) (st' := aI 4 :: _) rfl rfl ?_
  refine E_s (p' := 14) (st' := aI 12 :: _) rfl rfl ?_
  refine E_s (p' := 17) rfl rfl ?_
  refine E_s (p' := 18) (st' := aA 124 :: _) rfl rfl ?_
  refine E_s (p' := 21) (st' := aA 163 :: _) rfl rfl ?_
  refine E_s (p' := 22) (st' := aI 4 :: _) rfl rfl ?_
  refine E_s (p' := 23) (st' := aI 0 :: _) rfl rfl ?_
  refine E_stM (p' := 24) (m' := up2 _ 163 4 0) rfl rfl ?_
  refine E_s (p' := 25) (st' := aA 124 :: _) rfl rfl ?_
  refine E_s (p' := 28) (st' := aA 164 :: _) rfl rfl ?_
  refine E_s (p' := 29) (st' := aI 4 :: _) rfl rfl ?_
  refine E_s (p' := 30) (st' := aI 1 :: _) rfl rfl ?_
  refine E_stM (p' := 31) (m' := up2 _ 164 4 1) rfl rfl ?_
  refine E_s (p' := 34) (L' := [some (aA 124), some (aI 1), some (aI 5), none]) rfl rfl ?_
  refine E_s (p' := 11) rfl rfl ?_
  refine E_s (p' := 12) (st' := aI 5 :: _) rfl rfl ?_
  refine E_s (p' := 14) (st' := aI 12 :: _) rfl rfl ?_
  refine E_s (p' := 17) rfl rfl ?_
  refine E_s (p' := 18) (st' := aA 124 :: _) rfl rfl ?_
  refine E_s (p' := 21) (st' := aA 163 :: _) rfl rfl ?_
  refine E_s (p' := 22) (st' := aI 5 :: _) rfl rfl ?_
  refine E_s (p' := 23) (st' := aI 0 :: _) rfl rfl ?_
  refine E_stM (p' := 24) (m' := up2 _ 163 5 0) rfl rfl ?_
  refine E_s (p' := 25) (st' := aA 124 :: _) rfl rfl ?_
  refine E_s (p' := 28) (st' := aA 164 :: _) rfl rfl ?_
  refine E_s (p' := 29) (st' := aI 5 :: _) rfl rfl ?_
  refine E_s (p' := 30) (st' := aI 1 :: _) rfl rfl ?_
  refine E_stM (p' := 31) (m' := up2 _ 164 5 1) rfl rfl ?_
  refine E_s (p' := 34) (L' := [some (aA 124), some (aI 1), some (aI 6), none]) rfl rfl ?_
  refine E_s (p' := 11) rfl rfl ?_
  refine E_s (p' := 12) (st' := aI 6 :: _) rfl rfl ?_
  refine E_s (p' := 14) (st' := aI 12 :: _) rfl rfl ?_
  refine E_s (p' := 17) rfl rfl ?_
  refine E_s (p' := 18) (st' := aA 124 :: _) rfl rfl ?_
  refine E_s (p' := 21) (st' := aA 163 :: _) rfl rfl ?_
  refine E_s (p' := 22) (st' := aI 6 :: _) rfl rfl ?_
  refine E_s (p' := 23) (st' := aI 0 :: _) rfl rfl ?_
  refine E_stM (p' := 24) (m' := up2 _ 163 6 0) rfl rfl ?_
  refine E_s (p' := 25) (st' := aA 124 :: _) rfl rfl ?_
  refine E_s (p' := 28) (st' := aA 164 :: _) rfl rfl ?_
  refine E_s (p' := 29) (st' := aI 6 :: _) rfl rfl ?_
  refine E_s (p' := 30) (st' := aI 1 :: _) rfl rfl ?_
  refine E_stM (p' := 31) (m' := up2 _ 164 6 1) rfl rfl ?_
  refine E_s (p' := 34) (L' := [some (aA 124), some (aI 1), some (aI 7), none]) rfl rfl ?_
  refine E_s (p' := 11) rfl rfl ?_
  refine E_s (p' := 12) (st' := aI 7 :: _) rfl rfl ?_
  refine E_s (p' := 14) (st' := aI 12 :: _) rfl rfl ?_
  refine E_s (p' := 17) rfl rfl ?_
  refine E_s (p' := 18) (st' := aA 124 :: _) rfl rfl ?_
  refine E_s (p' := 21) (st' := aA 163 :: _) rfl rfl ?_
  refine E_s (p' := 22) (st' := aI 7 :: _) rfl rfl ?_
  refine E_s (p' := 23) (st' := aI 0 :: _) rfl rfl ?_
  refine E_stM (p' := 24) (m' := up2 _ 163 7 0) rfl rfl ?_
  refine E_s (p' := 25) (st' := aA 124 :: _) rfl rfl ?_
  refine E_s (p' := 28) (st' := aA 164 :: _) rfl rfl ?_
  refine E_s (p' := 29) (st' := aI 7 :: _) rfl rfl ?_
  refine E_s (p' := 30) (st' := aI 1 :: _) rfl rfl ?_
  refine E_stM (p' := 31) (m' := up2 _ 164 7 1) rfl rfl ?_
  refine E_s (p' := 34) (L' := [some (aA 124), some (aI 1), some (aI 8), none]) rfl rfl ?_
  refine E_s (p' := 11) rfl rfl ?_
  refine E_s (p' := 12) (st' := aI 8 :: _) rfl rfl ?_
  refine E_s (p' := 14) (st' := aI 12 :: _) rfl rfl ?_
  refine E_s (p' := 17) rfl rfl ?_
  refine E_s (p' := 18) (st' := aA 124 :: _) rfl rfl ?_
  refine E_s (p' := 21) (st' := aA 163 :: _) rfl rfl ?_
  refine E_s (p' := 22) (st' := aI 8 :: _) rfl rfl ?_
  refine E_s (p' := 23) (st' := aI 0 :: _) rfl rfl ?_
  refine E_stM (p' := 24) (m' := up2 _ 163 8 0) rfl rfl ?_
  refine E_s (p' := 25) (st' := aA 124 :: _) rfl rfl ?_
  refine E_s (p' := 28) (st' := aA 164 :: _) rfl rfl ?_
  refine E_s (p' := 29) (st' := aI 8 :: _) rfl rfl ?_
  refine E_s (p' := 30) (st' := aI 1 :: _) rfl rfl ?_
  refine E_stM (p' := 31) (m' := up2 _ 164 8 1) rfl rfl ?_
  refine E_s (p' := 34) (L' := [some (aA 124), some (aI 1), some (aI 9), none]) rfl rfl ?_
  refine E_s (p' := 11) rfl rfl ?_
  refine E_s (p' := 12) (st' := aI 9 :: _) rfl rfl ?_
  refine E_s (p' := 14) (st' := aI 12 :: _) rfl rfl ?_
  refine E_s (p' := 17) rfl rfl ?_
  refine E_s (p' := 18) (st' := aA 124 :: _) rfl rfl ?_
  refine E_s (p' := 21) (st' := aA 163 :: _) rfl rfl ?_
  refine E_s (p' := 22) (st' := aI 9 :: _) rfl rfl ?_
  refine E_s (p' := 23) (st' := aI 0 :: _) rfl rfl ?_
  refine E_stM (p' := 24) (m' := up2 _ 163 9 0) rfl rfl ?_
  refine E_s (p' := 25) (st' := aA 124 :: _) rfl rfl ?_
  refine E_s (p' := 28) (st' := aA 164 :: _) rfl rfl ?_
  refine E_s (p' := 29) (st' := aI 9 :: _) rfl rfl ?_
  refine E_s (p' := 30) (st' := aI 1 :: _) rfl rfl ?_
  refine E_stM (p' := 31) (m' := up2 _ 164 9 1) rfl rfl ?_
  refine E_s (p' := 34) (L' := [some (aA 124), some (aI 1), some (aI 10), none]) rfl rfl ?_
  refine E_s (p' := 11) rfl rfl ?_
  refine E_s (p' := 12) (st' := aI 10 :: _) rfl rfl ?_
  refine E_s (p' := 14) (st' := aI 12 :: _) rfl rfl ?_
  refine E_s (p' := 17) rfl rfl ?_
  refine E_s (p' := 18) (st' := aA 124 :: _) rfl rfl ?_
  refine E_s (p' := 21) (st' := aA 163 :: _) rfl rfl ?_
  refine E_s (p' := 22) (st' := aI 10 :: _) rfl rfl ?_
  refine E_s (p' := 23) (st' := aI 0 :: _) rfl rfl ?_
  refine E_stM (p' := 24) (m' := up2 _ 163 10 0) rfl rfl ?_
  refine E_s (p' := 25) (st' := aA 124 :: _) rfl rfl ?_
  refine E_s (p' := 28) (st' := aA 164 :: _) rfl rfl ?_
  refine E_s (p' := 29) (st' := aI 10 :: _) rfl rfl ?_
  refine E_s (p' := 30) (st' := aI 1 :: _) rfl rfl ?_
  refine E_stM (p' := 31) (m' := up2 _ 164 10 1) rfl rfl ?_
  refine E_s (p' := 34) (L' := [some (aA 124), some (aI 1), some (aI 11), none]) rfl rfl ?_
  refine E_s (p' := 11) rfl rfl ?_
  refine E_s (p' := 12) (st' := aI 11 :: _) rfl rfl ?_
  refine E_s (p' := 14) (st' := aI 12 :: _) rfl rfl ?_
  refine E_s (p' := 17) rfl rfl ?_
  refine E_s (p' := 18) (st' := aA 124 :: _) rfl rfl ?_
  refine E_s (p' := 21) (st' := aA 163 :: _) rfl rfl ?_
  refine E_s (p' := 22) (st' := aI 11 :: _) rfl rfl ?_
  refine E_s (p' := 23) (st' := aI 0 :: _) rfl rfl ?_
  refine E_stM (p' := 24) (m' := up2 _ 163 11 0) rfl rfl ?_
  refine E_s (p' := 25) (st' := aA 124 :: _) rfl rfl ?_
  refine E_s (p' := 28) (st' := aA 164 :: _) rfl rfl ?_
  refine E_s (p' := 29) (st' := aI 11 :: _) rfl rfl ?_
  refine E_s (p' := 30) (st' := aI 1 :: _) rfl rfl ?_
  refine E_stM (p' := 31) (m' := up2 _ 164 11 1) rfl rfl ?_
  refine E_s (p' := 34) (L' := [some (aA 124), some (aI 1), some (aI 12), none]) rfl rfl ?_
  refine E_s (p' := 11) rfl rfl ?_
  refine E_s (p' := 12) (st' := aI 12 :: _) rfl rfl ?_
  refine E_s (p' := 14) (st' := aI 12 :: _) rfl rfl ?_
  refine E_s (p' := 37) rfl rfl ?_
  refine E_s (p' := 38) (st' := aI 0 :: _) rfl rfl ?_
  refine E_s (p' := 39) (L' := [some (aA 124), some (aI 1), some (aI 0), none]) rfl rfl ?_
  refine E_s (p' := 40) (st' := aI 0 :: _) rfl rfl ?_
  refine E_s (p' := 41) (st' := aA 124 :: _) rfl rfl ?_
  refine E_s (p' := 44) (st' := aA 125 :: _) rfl rfl ?_
  refine E_s (p' := 45) (st' := aI 1 :: _) rfl rfl ?_
  refine E_s (p' := 46) (st' := aI 0 :: _) rfl rfl ?_
  refine E_s (p' := 131) rfl rfl ?_
  refine E_ret rfl rfl ?_
  refine E_s (p' := 16) (st' := aA 124 :: _) rfl rfl ?_
  refine E_s (p' := 17) (st' := aI 0 :: _) rfl rfl ?_
  refine E_stM (p' := 20) (m' := up2 _ 124 50 0) rfl rfl ?_
  refine E_s (p' := 21) (st' := aI 0 :: _) rfl rfl ?_
  refine E_s (p' := 22) (L' := [some (aA 124), some (aI 1), some (aI 0), none, none]) rfl rfl ?_
  refine E_s (p' := 23) (st' := aI 0 :: _) rfl rfl ?_
  refine E_s (p' := 25) (st' := aI 12 :: _) rfl rfl ?_
  refine E_s (p' := 28) rfl rfl ?_
  refine E_s (p' := 29) (st' := aA 124 :: _) rfl rfl ?_
  refine E_s (p' := 32) (st' := aA 163 :: _) rfl rfl ?_
  refine E_s (p' := 33) (st' := aI 0 :: _) rfl rfl ?_
  refine E_s (p' := 34) (st' := aI 0 :: _) rfl rfl ?_
  refine E_s (p' := 208) rfl rfl ?_
  refine E_s (p' := 211) (L' := [some (aA 124), some (aI 1), some (aI 1), none, none]) rfl rfl ?_
  refine E_s (p' := 22) rfl rfl ?_
  refine E_s (p' := 23) (st' := aI 1 :: _) rfl rfl ?_
  refine E_s (p' := 25) (st' := aI 12 :: _) rfl rfl ?_
  refine E_s (p' := 28) rfl rfl ?_
  refine E_s (p' := 29) (st' := aA 124 :: _) rfl rfl ?_
  refine E_s (p' := 32) (st' := aA 163 :: _) rfl rfl ?_
  refine E_s (p' := 33) (st' := aI 1 :: _) rfl rfl ?_
  refine E_s (p' := 34) (st' := aI 0 :: _) rfl rfl ?_
  refine E_s (p' := 208) rfl rfl ?_
  refine E_s (p' := 211) (L' := [some (aA 124), some (aI 1), some (aI 2), none, none]) rfl rfl ?_
  refine E_s (p' := 22) rfl rfl ?_
  refine E_s (p' := 23) (st' := aI 2 :: _) rfl rfl ?_
  refine E_s (p' := 25) (st' := aI 12 :: _) rfl rfl ?_
  refine E_s (p' := 28) rfl rfl ?_
  refine E_s (p' := 29) (st' := aA 124 :: _) rfl rfl ?_
  refine E_s (p' := 32) (st' := aA 163 :: _) rfl rfl ?_
  refine E_s (p' := 33) (st' := aI 2 :: _) rfl rfl ?_
  refine E_s (p' := 34) (st' := aI 0 :: _) rfl rfl ?_
  refine E_s (p' := 208) rfl rfl ?_
  refine E_s (p' := 211) (L' := [some (aA 124), some (aI 1), some (aI 3), none, none]) rfl rfl ?_
  refine E_s (p' := 22) rfl rfl ?_
  refine E_s (p' := 23) (st' := aI 3 :: _) rfl rfl ?_
  refine E_s (p' := 25) (st' := aI 12 :: _) rfl rfl ?_
  refine E_s (p' := 28) rfl rfl ?_
  refine E_s (p' := 29) (st' := aA 124 :: _) rfl rfl ?_
  refine E_s (p' := 32) (st' := aA 163 :: _) rfl rfl ?_
  refine E_s (p' := 33) (st' := aI 3 :: _) rfl rfl ?_
  refine E_s (p' := 34) (st' := aI 0 :: _) rfl rfl ?_
  refine E_s (p' := 208) rfl rfl ?_
  refine E_s (p' := 211) (L' := [some (aA 124), some (aI 1), some (aI 4), none, none]) rfl rfl ?_
  refine E_s (p' := 22) rfl rfl ?_
  refine E_s (p' := 23) (st' := aI 4 :: _) rfl rfl ?_
  refine E_s (p' := 25) (st' := aI 12 :: _) rfl rfl ?_
  refine E_s (p' := 28) rfl rfl ?_
  refine E_s (p' := 29) (st' := aA 124 :: _) rfl rfl ?_
  refine E_s (p' := 32) (st' := aA 163 :: _) rfl rfl ?_
  refine E_s (p' := 33) (st' := aI 4 :: _) rfl rfl ?_
  refine E_s (p' := 34) (st' := aI 0 :: _) rfl rfl ?_
  refine E_s (p' := 208) rfl rfl ?_
  refine E_s (p' := 211) (L' := [some (aA 124), some (aI 1), some (aI 5), none, none]) rfl rfl ?_
  refine E_s (p' := 22) rfl rfl ?_
  refine E_s (p' := 23) (st' := aI 5 :: _) rfl rfl ?_
  refine E_s (p' := 25) (st' := aI 12 :: _) rfl rfl ?_
  refine E_s (p' := 28) rfl rfl ?_
  refine E_s (p' := 29) (st' := aA 124 :: _) rfl rfl ?_
  refine E_s (p' := 32) (st' := aA 163 :: _) rfl rfl ?_
  refine E_s (p' := 33) (st' := aI 5 :: _) rfl rfl ?_
  refine E_s (p' := 34) (st' := aI 0 :: _) rfl rfl ?_
  refine E_s (p' := 208) rfl rfl ?_
  refine E_s (p' := 211) (L' := [some (aA 124), some (aI 1), some (aI 6), none, none]) rfl rfl ?_
  refine E_s (p' := 22) rfl rfl ?_
  refine E_s (p' := 23) (st' := aI 6 :: _) rfl rfl ?_
  refine E_s (p' := 25) (st' := aI 12 :: _) rfl rfl ?_
  refine E_s (p' := 28) rfl rfl ?_
  refine E_s (p' := 29) (st' := aA 124 :: _) rfl rfl ?_
  refine E_s (p' := 32) (st' := aA 163 :: _) rfl rfl ?_
  refine E_s (p' := 33) (st' := aI 6 :: _) rfl rfl ?_
  refine E_s (p' := 34) (st' := aI 0 :: _) rfl rfl ?_
  refine E_s (p' := 208) rfl rfl ?_
  refine E_s (p' := 211) (L' := [some (aA 124), some (aI 1), some (aI 7), none, none]) rfl rfl ?_
  refine E_s (p' := 22) rfl rfl ?_
  refine E_s (p' := 23) (st' := aI 7 :: _) rfl rfl ?_
  refine E_s (p' := 25) (st' := aI 12 :: _) rfl rfl ?_
  refine E_s (p' := 28) rfl rfl ?_
  refine E_s (p' := 29) (st' := aA 124 :: _) rfl rfl ?_
  refine E_s (p' := 32) (st' := aA 163 :: _) rfl rfl ?_
  refine E_s (p' := 33) (st' := aI 7 :: _) rfl rfl ?_
  refine E_s (p' := 34) (st' := aI 0 :: _) rfl rfl ?_
  refine E_s (p' := 208) rfl rfl ?_
  refine E_s (p' := 211) (L' := [some (aA 124), some (aI 1), some (aI 8), none, none]) rfl rfl ?_
  refine E_s (p' := 22) rfl rfl ?_
  refine E_s (p' := 23) (st' := aI 8 :: _) rfl rfl ?_
  refine E_s (p' := 25) (st' := aI 12 :: _) rfl rfl ?_
  refine E_s (p' := 28) rfl rfl ?_
  refine E_s (p' := 29) (st' := aA 124 :: _) rfl rfl ?_
  refine E_s (p' := 32) (st' := aA 163 :: _) rfl rfl ?_
  refine E_s (p' := 33) (st' := aI 8 :: _) rfl rfl ?_
  refine E_s (p' := 34) (st' := aI 0 :: _) rfl rfl ?_
  refine E_s (p' := 208) rfl rfl ?_
  refine E_s (p' := 211) (L' := [some (aA 124), some (aI 1), some (aI 9), none, none]) rfl rfl ?_
  refine E_s (p' := 22) rfl rfl ?_
  refine E_s (p' := 23) (st' := aI 9 :: _) rfl rfl ?_
  refine E_s (p' := 25) (st' := aI 12 :: _) rfl rfl ?_
  refine E_s (p' := 28) rfl rfl ?_
  refine E_s (p' := 29) (st' := aA 124 :: _) rfl rfl ?_
  refine E_s (p' := 32) (st' := aA 163 :: _) rfl rfl ?_
  refine E_s (p' := 33) (st' := aI 9 :: _) rfl rfl ?_
  refine E_s (p' := 34) (st' := aI 0 :: _) rfl rfl ?_
  refine E_s (p' := 208) rfl rfl ?_
  refine E_s (p' := 211) (L' := [some (aA 124), some (aI 1), some (aI 10), none, none]) rfl rfl ?_
  refine E_s (p' := 22) rfl rfl ?_
  refine E_s (p' := 23) (st' := aI 10 :: _) rfl rfl ?_
  refine E_s (p' := 25) (st' := aI 12 :: _) rfl rfl ?_
  refine E_s (p' := 28) rfl rfl ?_
  refine E_s (p' := 29) (st' := aA 124 :: _) rfl rfl ?_
  refine E_s (p' := 32) (st' := aA 163 :: _) rfl rfl ?_
  refine E_s (p' := 33) (st' := aI 10 :: _) rfl rfl ?_
  refine E_s (p' := 34) (st' := aI 0 :: _) rfl rfl ?_
  refine E_s (p' := 208) rfl rfl ?_
  refine E_s (p' := 211) (L' := [some (aA 124), some (aI 1), some (aI 11), none, none]) rfl rfl ?_
  refine E_s (p' := 22) rfl rfl ?_
  refine E_s (p' := 23) (st' := aI 11 :: _) rfl rfl ?_
  refine E_s (p' := 25) (st' := aI 12 :: _) rfl rfl ?_
  refine E_s (p' := 28) rfl rfl ?_
  refine E_s (p' := 29) (st' := aA 124 :: _) rfl rfl ?_
  refine E_s (p' := 32) (st' := aA 163 :: _) rfl rfl ?_
  refine E_s (p' := 33) (st' := aI 11 :: _) rfl rfl ?_
  refine E_s (p' := 34) (st' := aI 0 :: _) rfl rfl ?_
  refine E_s (p' := 208) rfl rfl ?_
  refine E_s (p' := 211) (L' := [some (aA 124), some (aI 1), some (aI 12), none, none]) rfl rfl ?_
  refine E_s (p' := 22) rfl rfl ?_
  refine E_s (p' := 23) (st' := aI 12 :: _) rfl rfl ?_
  refine E_s (p' := 25) (st' := aI 12 :: _) rfl rfl ?_
  refine E_s (p' := 214) rfl rfl ?_
  refine E_s (p' := 215) (st' := aA 124 :: _) rfl rfl ?_
  refine E_s (p' := 218) (st' := aI 0 :: _) rfl rfl ?_
  refine E_ret rfl rfl ?_
  refine E_s (p' := 1174) rfl rfl ?_
  refine E_s (p' := 1177) (L' := [some (aA 0), some (aA 1), some (aA 124), some (aI 6)]) rfl rfl ?_
  refine E_s (p' := 18) rfl rfl ?_
  refine E_s (p' := 19) (st' := aI 6 :: _) rfl rfl ?_
  refine E_s (p' := 20) (st' := aA 0 :: _) rfl rfl ?_
  refine E_s (p' := 21) (st' := aI 6 :: _) rfl rfl ?_
  refine E_s (p' := 23) (st' := aI 6 :: _) rfl rfl ?_
  refine E_s (p' := 24) (st' := aI 0 :: _) rfl rfl ?_
  refine E_s (p' := 1180) rfl rfl ?_
  refine E_s (p' := 1181) (st' := aI 1 :: _) rfl rfl ?_
  exact E_ret rfl rfl ⟨rfl, rfl⟩
set_option maxRecDepth 100000 in
set_option maxHeartbeats 40000000 in
theorem pc_23_2 (xs : Nat → Int) {z a2 a3 a4 a5 : Int} (hz : b32 (fun a b => a &&& b) z 31 = 23) (h0 : xs 0 = z) (h1 : xs 1 = 2) (h2 : xs 2 = a2) (h3 : xs 3 = a3) (h4 : xs 4 = a4) (h5 : xs 5 = a5) : E 0 18 LL [] (s0 xs 6) PQ := by
  refine E_s (p' := 19) (st' := aI 0 :: _) rfl rfl ?_
  refine E_s (p' := 20) (st' := aA 0 :: _) rfl rfl ?_
  refine E_s (p' := 21) (st' := aI 6 :: _) rfl rfl ?_
  refine E_s (p' := 23) (st' := aI 6 :: _) rfl rfl ?_
  refine E_s (p' := 24) (st' := aI 0 :: _) rfl rfl ?_
  refine E_s (p' := 27) rfl rfl ?_
  refine E_s (p' := 28) (st' := aA 0 :: _) rfl rfl ?_
  refine E_s (p' := 29) (st' := aI 0 :: _) rfl rfl ?_
  refine E_scr rfl rfl h0 ?_
  refine E_s (p' := 32) (st' := aI 31 :: _) rfl rfl ?_
  refine E_s (p' := 33) rfl rfl ?_
  refine E_val hz ?_
  refine E_s (p' := 1019) rfl rfl ?_
  refine E_s (p' := 1020) (st' := aA 1 :: _) rfl rfl ?_
  refine E_s (p' := 1021) (st' := aA 0 :: _) rfl rfl ?_
  refine E_s (p' := 1022) (st' := aI 0 :: _) rfl rfl ?_
  refine E_s (p' := 1023) (st' := aI 1 :: _) rfl rfl ?_
  refine E_s (p' := 1024) (st' := aI 1 :: _) rfl rfl ?_
  refine E_scr rfl rfl h1 ?_
  refine E_callL (p' := 1028) (L0 := [some (aA 1), some (aI 2), none]) rfl rfl rfl ?_
  refine E_s (p' := 1) (st' := aA 1 :: _) rfl rfl ?_
  refine E_s (p' := 2) (st' := aI 2 :: _) rfl rfl ?_
  refine E_callL (p' := 5) (L0 := [some (aA 1), some (aI 2), none]) rfl rfl rfl ?_
  refine E_s (p' := 1) (st' := aA 1 :: _) rfl rfl ?_
  refine E_s (p' := 2) (st' := aI 2 :: _) rfl rfl ?_
  refine E_callL (p' := 5) (L0 := [some (aA 1), some (aI 2)]) rfl rfl rfl ?_
  refine E_s (p' := 1) (st' := aI 2 :: _) rfl rfl ?_
  refine E_s (p' := 4) rfl rfl ?_
  refine E_s (p' := 5) (st' := aI 2 :: _) rfl rfl ?_
  refine E_s (p' := 6) (st' := aI 4 :: _) rfl rfl ?_
  refine E_s (p' := 9) rfl rfl ?_
  refine E_s (p' := 10) (st' := aA 1 :: _) rfl rfl ?_
  refine E_s (p' := 13) (st' := aA 2 :: _) rfl rfl ?_
  refine E_s (p' := 14) (st' := aI 2 :: _) rfl rfl ?_
  refine E_s (p' := 15) (st' := aA 72 :: _) rfl rfl ?_
  refine E_s (p' := 19) rfl rfl ?_
  refine E_ret rfl rfl ?_
  refine E_s (p' := 6) (L' := [some (aA 1), some (aI 2), some (aA 72)]) rfl rfl ?_
  refine E_s (p' := 7) (st' := aA 72 :: _) rfl rfl ?_
  refine E_s (p' := 10) rfl rfl ?_
  refine E_s (p' := 11) (st' := aA 72 :: _) rfl rfl ?_
  refine E_callL (p' := 14) (L0 := [some (aA 72)]) rfl rfl rfl ?_
  refine E_s (p' := 1) (st' := aA 72 :: _) rfl rfl ?_
  refine E_s (p' := 4) (st' := aI 0 :: _) rfl rfl ?_
  refine E_s (p' := 7) rfl rfl ?_
  refine E_s (p' := 8) (st' := aA 72 :: _) rfl rfl ?_
  refine E_s (p' := 11) (st' := aA 87 :: _) rfl rfl ?_
  refine E_s (p' := 12) (st' := aA 72 :: _) rfl rfl ?_
  refine E_s (p' := 15) (st' := aA 73 :: _) rfl rfl ?_
  refine E_s (p' := 16) (st' := aA 72 :: _) rfl rfl ?_
  refine E_s (p' := 19) (st' := aI 15 :: _) rfl rfl ?_
  refine E_callL (p' := 22) (L0 := [some (aA 87), some (aA 73), some (aI 15), none]) rfl rfl rfl ?_
  refine E_s (p' := 1) (st' := aA 87 :: _) rfl rfl ?_
  refine E_s (p' := 2) (st' := aA 73 :: _) rfl rfl ?_
  refine E_callL (p' := 5) (L0 := [some (aA 87), some (aA 73), none, none]) rfl rfl rfl ?_
  refine E_s (p' := 1) (st' := aA 87 :: _) rfl rfl ?_
  refine E_s (p' := 4) (st' := aA 96 :: _) rfl rfl ?_
  refine E_s (p' := 5) (st' := aI 0 :: _) rfl rfl ?_
  refine E_call rfl rfl ?_
  refine c_fill rfl rfl ?_
  refine E_s (p' := 9) (st' := aA 87 :: _) rfl rfl ?_
  refine E_s (p' := 12) (st' := aA 92 :: _) rfl rfl ?_
  refine E_s (p' := 13) (st' := aI 0 :: _) rfl rfl ?_
  refine E_call rfl rfl ?_
  refine c_fill rfl rfl ?_
  refine E_s (p' := 17) (st' := aA 87 :: _) rfl rfl ?_
  refine E_s (p' := 18) (st' := aI 0 :: _) rfl rfl ?_
  refine E_stM (p' := 21) (m' := up2 _ 87 10 0) rfl rfl ?_
  refine E_s (p' := 22) (st' := aA 87 :: _) rfl rfl ?_
  refine E_s (p' := 23) (st' := aI 0 :: _) rfl rfl ?_
  refine E_stM (p' := 26) (m' := up2 _ 87 11 0) rfl rfl ?_
  refine E_s (p' := 27) (st' := aI 0 :: _) rfl rfl ?_
  refine E_s (p' := 28) (L' := [some (aA 87), some (aA 73), some (aI 0), none]) rfl rfl ?_
  refine E_s (p' := 29) (st' := aI 0 :: _) rfl rfl ?_
  refine E_s (p' := 30) (st' := aA 73 :: _) rfl rfl ?_
  refine E_s (p' := 33) (st' := aI 0 :: _) rfl rfl ?_
  refine E_s (p' := 135) rfl rfl ?_
  refine E_ret rfl rfl ?_
  refine E_s (p' := 6) (st' := aA 87 :: _) rfl rfl ?_
  refine E_s (p' := 7) (st' := aI 15 :: _) rfl rfl ?_
  refine E_callL (p' := 10) (L0 := [some (aA 87), some (aI 15), none]) rfl rfl rfl ?_
  refine E_s (p' := 1) (st' := aA 87 :: _) rfl rfl ?_
  refine E_s (p' := 2) (st' := aI 0 :: _) rfl rfl ?_
  refine E_stM (p' := 5) (m' := up2 _ 87 12 0) rfl rfl ?_
  refine E_s (p' := 6) (st' := aI 1 :: _) rfl rfl ?_
  refine E_s (p' := 7) (L' := [some (aA 87), some (aI 15), some (aI 1)]) rfl rfl ?_
  refine fl_loop (gp := 0) (by decide) _ 600 1 _ rfl (fun j hj => show (if 0 ≤ j ∧ j < 601 then (0 : Int) else _) = 0 from if_pos ⟨Nat.zero_le _, hj⟩) ?_
  refine E_s (p' := 11) (st' := aA 87 :: _) rfl rfl ?_
  refine E_s (p' := 14) (st' := aI 0 :: _) rfl rfl ?_
  refine E_s (p' := 17) rfl rfl ?_
  refine E_s (p' := 18) (st' := aA 87 :: _) rfl rfl ?_
  refine E_callL (p' := 21) (L0 := [some (aA 87)]) rfl rfl rfl ?_
  refine E_s (p' := 1) (st' := aA 87 :: _) rfl rfl ?_
  refine E_s (p' := 4) (st' := aA 93 :: _) rfl rfl ?_
  refine E_s (p' := 5) (st' := aA 87 :: _) rfl rfl ?_
  refine E_s (p' := 8) (st' := aI 0 :: _) rfl rfl ?_
  refine E_s (p' := 15) rfl rfl ?_
  refine E_s (p' := 16) (st' := aI 0 :: _) rfl rfl ?_
  refine E_call rfl rfl ?_
  refine c_fill rfl rfl ?_
  refine E_s (p' := 20) (st' := aA 87 :: _) rfl rfl ?_
  refine E_s (p' := 23) (st' := aA 94 :: _) rfl rfl ?_
  refine E_s (p' := 24) (st' := aI 0 :: _) rfl rfl ?_
  refine E_call rfl rfl ?_
  refine c_fill rfl rfl ?_
  refine E_s (p' := 28) (st' := aA 87 :: _) rfl rfl ?_
  refine E_s (p' := 31) (st' := aA 95 :: _) rfl rfl ?_
  refine E_s (p' := 32) (st' := aI 0 :: _) rfl rfl ?_
  refine E_call rfl rfl ?_
  refine c_fill rfl rfl ?_
  refine E_ret rfl rfl ?_
  refine E_ret rfl rfl ?_
  refine E_s (p' := 23) (st' := aA 72 :: _) rfl rfl ?_
  refine E_s (p' := 24) (st' := aI 1 :: _) rfl rfl ?_
  refine E_stM (p' := 27) (m' := up2 _ 72 7 1) rfl rfl ?_
  refine E_s (p' := 28) (st' := aA 72 :: _) rfl rfl ?_
  refine E_s (p' := 31) (st' := aA 87 :: _) rfl rfl ?_
  refine E_ret rfl rfl ?_
  refine E_s (p' := 15) rfl rfl ?_
  refine E_s (p' := 16) (st' := aA 72 :: _) rfl rfl ?_
  refine E_ret rfl rfl ?_
  refine E_s (p' := 6) (L' := [some (aA 1), some (aI 2), some (aA 72)]) rfl rfl ?_
  refine E_s (p' := 7) (st' := aA 72 :: _) rfl rfl ?_
  refine E_s (p' := 15) rfl rfl ?_
  refine E_s (p' := 16) (st' := aA 1 :: _) rfl rfl ?_
  refine E_s (p' := 19) (st' := aA 10 :: _) rfl rfl ?_
  refine E_s (p' := 20) (st' := aA 72 :: _) rfl rfl ?_
  refine E_callL (p' := 23) (L0 := [some (aA 10), some (aA 72), none]) rfl rfl rfl ?_
  refine E_s (p' := 1) (st' := aA 10 :: _) rfl rfl ?_
  refine E_s (p' := 2) (st' := aI 0 :: _) rfl rfl ?_
  refine E_stM (p' := 5) (m' := up2 _ 10 2 0) rfl rfl ?_
  refine E_s (p' := 6) (st' := aA 10 :: _) rfl rfl ?_
  refine E_s (p' := 7) (st' := aA 72 :: _) rfl rfl ?_
  refine E_callL (p' := 10) (L0 := [some (aA 10), some (aA 72), none, none]) rfl rfl rfl ?_
  refine E_s (p' := 1) (st' := aA 10 :: _) rfl rfl ?_
  refine E_s (p' := 4) (st' := aA 13 :: _) rfl rfl ?_
  refine E_s (p' := 5) (st' := aI 0 :: _) rfl rfl ?_
  refine E_call rfl rfl ?_
  refine c_fill rfl rfl ?_
  refine E_s (p' := 9) (st' := aA 10 :: _) rfl rfl ?_
  refine E_s (p' := 10) (st' := aI 0 :: _) rfl rfl ?_
  refine E_stM (p' := 13) (m' := up2 _ 10 5 0) rfl rfl ?_
  refine E_s (p' := 14) (st' := aI 0 :: _) rfl rfl ?_
  refine E_s (p' := 15) (L' := [some (aA 10), some (aA 72), some (aI 0), none]) rfl rfl ?_
  refine E_s (p' := 16) (st' := aI 0 :: _) rfl rfl ?_
  refine E_s (p' := 17) (st' := aA 72 :: _) rfl rfl ?_
  refine E_s (p' := 20) (st' := aA 73 :: _) rfl rfl ?_
  refine E_s (p' := 23) (st' := aI 0 :: _) rfl rfl ?_
  refine E_s (p' := 105) rfl rfl ?_
  refine E_ret rfl rfl ?_
  refine E_s (p' := 11) (st' := aI 0 :: _) rfl rfl ?_
  refine E_s (p' := 12) (L' := [some (aA 10), some (aA 72), some (aI 0)]) rfl rfl ?_
  refine E_s (p' := 13) (st' := aI 0 :: _) rfl rfl ?_
  refine E_s (p' := 15) (st' := aI 12 :: _) rfl rfl ?_
  refine E_s (p' := 18) rfl rfl ?_
  refine E_s (p' := 19) (st' := aA 10 :: _) rfl rfl ?_
  refine E_s (p' := 20) (st' := aI 0 :: _) rfl rfl ?_
  refine E_callL (p' := 23) (L0 := [some (aA 10), some (aI 0), none, none]) rfl rfl rfl ?_
  refine E_s (p' := 1) (st' := aI 0 :: _) rfl rfl ?_
  refine E_s (p' := 2) (L' := [some (aA 10), some (aI 0), some (aI 0), none]) rfl rfl ?_
  refine E_s (p' := 3) (st' := aI 0 :: _) rfl rfl ?_
  refine E_s (p' := 4) (L' := [some (aA 10), some (aI 0), some (aI 0), some (aI 0)]) rfl rfl ?_
  refine E_s (p' := 5) (st' := aI 0 :: _) rfl rfl ?_
  refine E_s (p' := 6) (st' := aA 10 :: _) rfl rfl ?_
  refine E_s (p' := 9) (st' := aA 13 :: _) rfl rfl ?_
  refine E_s (p' := 10) (st' := aI 0 :: _) rfl rfl ?_
  refine E_s (p' := 11) (st' := aI 0 :: _) rfl rfl ?_
  refine E_s (p' := 34) rfl rfl ?_
  refine E_s (p' := 35) (st' := aA 10 :: _) rfl rfl ?_
  refine E_s (p' := 36) (st' := aI 0 :: _) rfl rfl ?_
  refine E_callL (p' := 39) (L0 := [some (aA 10), some (aI 0)]) rfl rfl rfl ?_
  refine E_s (p' := 1) (st' := aA 10 :: _) rfl rfl ?_
  refine E_s (p' := 4) (st' := aA 13 :: _) rfl rfl ?_
  refine E_s (p' := 5) (st' := aI 0 :: _) rfl rfl ?_
  refine E_s (p' := 6) (st' := aI 0 :: _) rfl rfl ?_
  refine E_s (p' := 24) rfl rfl ?_
  refine E_s (p' := 25) (st' := aI 0 :: _) rfl rfl ?_
  refine E_ret rfl rfl ?_
  refine E_s (p' := 50) rfl rfl ?_
  refine E_s (p' := 51) (st' := aI 0 :: _) rfl rfl ?_
  refine E_ret rfl rfl ?_
  refine E_s (p' := 42) rfl rfl ?_
  refine E_s (p' := 45) (L' := [some (aA 10), some (aA 72), some (aI 1)]) rfl rfl ?_
  refine E_s (p' := 12) rfl rfl ?_
  refine E_s (p' := 13) (st' := aI 1 :: _) rfl rfl ?_
  refine E_s (p' := 15) (st' := aI 12 :: _) rfl rfl ?_
  refine E_s (p' := 18) rfl rfl ?_
  refine E_s (p' := 19) (st' := aA 10 :: _) rfl rfl ?_
  refine E_s (p' := 20) (st' := aI 1 :: _) rfl rfl ?_
  refine E_callL (p' := 23) (L0 := [some (aA 10), some (aI 1), none, none]) rfl rfl rfl ?_
  refine E_s (p' := 1) (st' := aI 0 :: _) rfl rfl ?_
  refine E_s (p' := 2) (L' := [some (aA 10), some (aI 1), some (aI 0), none]) rfl rfl ?_
  refine E_s (p' := 3) (st' := aI 0 :: _) rfl rfl ?_
  refine E_s (p' := 4) (L' := [some (aA 10), some (aI 1), some (aI 0), some (aI 0)]) rfl rfl ?_
  refine E_s (p' := 5) (st' := aI 0 :: _) rfl rfl ?_
  refine E_s (p' := 6) (st' := aA 10 :: _) rfl rfl ?_
  refine E_s (p' := 9) (st' := aA 13 :: _) rfl rfl ?_
  refine E_s (p' := 10) (st' := aI 1 :: _) rfl rfl ?_
  refine E_s (p' := 11) (st' := aI 0 :: _) rfl rfl ?_
  refine E_s (p' := 34) rfl rfl ?_
  refine E_s (p' := 35) (st' := aA 10 :: _) rfl rfl ?_
  refine E_s (p' := 36) (st' := aI 1 :: _) rfl rfl ?_
  refine E_callL (p' := 39) (L0 := [some (aA 10), some (aI 1)]) rfl rfl rfl ?_
  refine E_s (p' := 1) (st' := aA 10 :: _) rfl rfl ?_
  refine E_s (p' := 4) (st' := aA 13 :: _) rfl rfl ?_
  refine E_s (p' := 5) (st' := aI 1 :: _) rfl rfl ?_
  refine E_s (p' := 6) (st' := aI 0 :: _) rfl rfl ?_
  refine E_s (p' := 24) rfl rfl ?_
  refine E_s (p' := 25) (st' := aI 0 :: _) rfl rfl ?_
  refine E_ret rfl rfl ?_
  refine E_s (p' := 50) rfl rfl ?_
  refine E_s (p' := 51) (st' := aI 0 :: _) rfl rfl ?_
  refine E_ret rfl rfl ?_
  refine E_s (p' := 42) rfl rfl ?_
  refine E_s (p' := 45) (L' := [some (aA 10), some (aA 72), some (aI 2)]) rfl rfl ?_
  refine E_s (p' := 12) rfl rfl ?_
  refine E_s (p' := 13) (st' := aI 2 :: _) rfl rfl ?_
  refine E_s (p' := 15) (st' := aI 12 :: _) rfl rfl ?_
  refine E_s (p' := 18) rfl rfl ?_
  refine E_s (p' := 19) (st' := aA 10 :: _) rfl rfl ?_
  refine E_s (p' := 20) (st' := aI 2 :: _) rfl rfl ?_
  refine E_callL (p' := 23) (L0 := [some (aA 10), some (aI 2), none, none]) rfl rfl rfl ?_
  refine E_s (p' := 1) (st' := aI 0 :: _) rfl rfl ?_
  refine E_s (p' := 2) (L' := [some (aA 10), some (aI 2), some (aI 0), none]) rfl rfl ?_
  refine E_s (p' := 3) (st' := aI 0 :: _) rfl rfl ?_
  refine E_s (p' := 4) (L' := [some (aA 10), some (aI 2), some (aI 0), some (aI 0)]) rfl rfl ?_
  refine E_s (p' := 5) (st' := aI 0 :: _) rfl rfl ?_
  refine E_s (p' := 6) (st' := aA 10 :: _) rfl rfl ?_
  refine E_s (p' := 9) (st' := aA 13 :: _) rfl rfl ?_
  refine E_s (p' := 10) (st' := aI 2 :: _) rfl rfl ?_
  refine E_s (p' := 11) (st' := aI 0 :: _) rfl rfl ?_
  refine E_s (p' := 34) rfl rfl ?_
  refine E_s (p' := 35) (st' := aA 10 :: _) rfl rfl ?_
  refine E_s (p' := 36) (st' := aI 2 :: _) rfl rfl ?_
  refine E_callL (p' := 39) (L0 := [some (aA 10), some (aI 2)]) rfl rfl rfl ?_
  refine E_s (p' := 1) (st' := aA 10 :: _) rfl rfl ?_
  refine E_s (p' := 4) (st' := aA 13 :: _) rfl rfl ?_
  refine E_s (p' := 5) (st' := aI 2 :: _) rfl rfl ?_
  refine E_s (p' := 6) (st' := aI 0 :: _) rfl rfl ?_
  refine E_s (p' := 24) rfl rfl ?_
  refine E_s (p' := 25) (st' := aI 0 :: _) rfl rfl ?_
  refine E_ret rfl rfl ?_
  refine E_s (p' := 50) rfl rfl ?_
  refine E_s (p' := 51) (st' := aI 0 :: _) rfl rfl ?_
  refine E_ret rfl rfl ?_
  refine E_s (p' := 42) rfl rfl ?_
  refine E_s (p' := 45) (L' := [some (aA 10), some (aA 72), some (aI 3)]) rfl rfl ?_
  refine E_s (p' := 12) rfl rfl ?_
  refine E_s (p' := 13) (st' := aI 3 :: _) rfl rfl ?_
  refine E_s (p' := 15) (st' := aI 12 :: _) rfl rfl ?_
  refine E_s (p' := 18) rfl rfl ?_
  refine E_s (p' := 19) (st' := aA 10 :: _) rfl rfl ?_
  refine E_s (p' := 20) (st' := aI 3 :: _) rfl rfl ?_
  refine E_callL (p' := 23) (L0 := [some (aA 10), some (aI 3), none, none]) rfl rfl rfl ?_
  refine E_s (p' := 1) (st' := aI 0 :: _) rfl rfl ?_
  refine E_s (p' := 2) (L' := [some (aA 10), some (aI 3), some (aI 0), none]) rfl rfl ?_
  refine E_s (p' := 3) (st' := aI 0 :: _) rfl rfl ?_
  refine E_s (p' := 4) (L' := [some (aA 10), some (aI 3), some (aI 0), some (aI 0)]) rfl rfl ?_
  refine E_s (p' := 5) (st' := aI 0 :: _) rfl rfl ?_
  refine E_s (p' := 6) (st' := aA 10 :: _) rfl rfl ?_
  refine E_s (p' := 9) (st' := aA 13 :: _) rfl rfl ?_
  refine E_s (p' := 10) (st' := aI 3 :: _) rfl rfl ?_
  refine E_s (p' := 11) (st' := aI 0 :: _) rfl rfl ?_
  refine E_s (p' := 34) rfl rfl ?_
  refine E_s (p' := 35) (st' := aA 10 :: _) rfl rfl ?_
  refine E_s (p' := 36) (st' := aI 3 :: _) rfl rfl ?_
  refine E_callL (p' := 39) (L0 := [some (aA 10), some (aI 3)]) rfl rfl rfl ?_
  refine E_s (p' := 1) (st' := aA 10 :: _) rfl rfl ?_
  refine E_s (p' := 4) (st' := aA 13 :: _) rfl rfl ?_
  refine E_s (p' := 5) (st' := aI 3 :: _) rfl rfl ?_
  refine E_s (p' := 6) (st' := aI 0 :: _) rfl rfl ?_
  refine E_s (p' := 24) rfl rfl ?_
  refine E_s (p' := 25) (st' := aI 0 :: _) rfl rfl ?_
  refine E_ret rfl rfl ?_
  refine E_s (p' := 50) rfl rfl ?_
  refine E_s (p' := 51) (st' := aI 0 :: _) rfl rfl ?_
  refine E_ret rfl rfl ?_
  refine E_s (p' := 42) rfl rfl ?_
  refine E_s (p' := 45) (L' := [some (aA 10), some (aA 72), some (aI 4)]) rfl rfl ?_
  refine E_s (p' := 12) rfl rfl ?_
  refine E_s (p' := 13) (st' := aI 4 :: _) rfl rfl ?_
  refine E_s (p' := 15) (st' := aI 12 :: _) rfl rfl ?_
  refine E_s (p' := 18) rfl rfl ?_
  refine E_s (p' := 19) (st' := aA 10 :: _) rfl rfl ?_
  refine E_s (p' := 20) (st' := aI 4 :: _) rfl rfl ?_
  refine E_callL (p' := 23) (L0 := [some (aA 10), some (aI 4), none, none]) rfl rfl rfl ?_
  refine E_s (p' := 1) (st' := aI 0 :: _) rfl rfl ?_
  refine E_s (p' := 2) (L' := [some (aA 10), some (aI 4), some (aI 0), none]) rfl rfl ?_
  refine E_s (p' := 3) (st' := aI 0 :: _) rfl rfl ?_
  refine E_s (p' := 4) (L' := [some (aA 10), some (aI 4), some (aI 0), some (aI 0)]) rfl rfl ?_
  refine E_s (p' := 5) (st' := aI 0 :: _) rfl rfl ?_
  refine E_s (p' := 6) (st' := aA 10 :: _) rfl rfl ?_
  refine E_s (p' := 9) (st' := aA 13 :: _) rfl rfl ?_
  refine E_s (p' := 10) (st' := aI 4 :: _) rfl rfl ?_
  refine E_s (p' := 11) (st' := aI 0 :: _) rfl rfl ?_
  refine E_s (p' := 34) rfl rfl ?_
  refine E_s (p' := 35) (st' := aA 10 :: _) rfl rfl ?_
  refine E_s (p' := 36) (st' := aI 4 :: _) rfl rfl ?_
  refine E_callL (p' := 39) (L0 := [some (aA 10), some (aI 4)]) rfl rfl rfl ?_
  refine E_s (p' := 1) (st' := aA 10 :: _) rfl rfl ?_
  refine E_s (p' := 4) (st' := aA 13 :: _) rfl rfl ?_
  refine E_s (p' := 5) (st' := aI 4 :: _) rfl rfl ?_
  refine E_s (p' := 6) (st' := aI 0 :: _) rfl rfl ?_
  refine E_s (p' := 24) rfl rfl ?_
  refine E_s (p' := 25) (st' := aI 0 :: _) rfl rfl ?_
  refine E_ret rfl rfl ?_
  refine E_s (p' := 50) rfl rfl ?_
  refine E_s (p' := 51) (st' := aI 0 :: _) rfl rfl ?_
  refine E_ret rfl rfl ?_
  refine E_s (p' := 42) rfl rfl ?_
  refine E_s (p' := 45) (L' := [some (aA 10), some (aA 72), some (aI 5)]) rfl rfl ?_
  refine E_s (p' := 12) rfl rfl ?_
  refine E_s (p' := 13) (st' := aI 5 :: _) rfl rfl ?_
  refine E_s (p' := 15) (st' := aI 12 :: _) rfl rfl ?_
  refine E_s (p' := 18) rfl rfl ?_
  refine E_s (p' := 19) (st' := aA 10 :: _) rfl rfl ?_
  refine E_s (p' := 20) (st' := aI 5 :: _) rfl rfl ?_
  refine E_callL (p' := 23) (L0 := [some (aA 10), some (aI 5), none, none]) rfl rfl rfl ?_
  refine E_s (p' := 1) (st' := aI 0 :: _) rfl rfl ?_
  refine E_s (p' := 2) (L' := [some (aA 10), some (aI 5), some (aI 0), none]) rfl rfl ?_
  refine E_s (p' := 3) (st' := aI 0 :: _) rfl rfl ?_
  refine E_s (p' := 4) (L' := [some (aA 10), some (aI 5), some (aI 0), some (aI 0)]) rfl rfl ?_
  refine E_s (p' := 5) (st' := aI 0 :: _) rfl rfl ?_
  refine E_s (p' := 6) (st' := aA 10 :: _) rfl rfl ?_
  refine E_s (p' := 9) (st' := aA 13 :: _) rfl rfl ?_
  refine E_s (p' := 10) (st' := aI 5 :: _) rfl rfl ?_
  refine E_s (p' := 11) (st' := aI 0 :: _) rfl rfl ?_
  refine E_s (p' := 34) rfl rfl ?_
  refine E_s (p' := 35) (st' := aA 10 :: _) rfl rfl ?_
  refine E_s (p' := 36) (st' := aI 5 :: _) rfl rfl ?_
  refine E_callL (p' := 39) (L0 := [some (aA 10), some (aI 5)]) rfl rfl rfl ?_
  refine E_s (p' := 1) (st' := aA 10 :: _) rfl rfl ?_
  refine E_s (p' := 4) (st' := aA 13 :: _) rfl rfl ?_
  refine E_s (p' := 5) (st' := aI 5 :: _) rfl rfl ?_
  refine E_s (p' := 6) (st' := aI 0 :: _) rfl rfl ?_
  refine E_s (p' := 24) rfl rfl ?_
  refine E_s (p' := 25) (st' := aI 0 :: _) rfl rfl ?_
  refine E_ret rfl rfl ?_
  refine E_s (p' := 50) rfl rfl ?_
  refine E_s (p' := 51) (st' := aI 0 :: _) rfl rfl ?_
  refine E_ret rfl rfl ?_
  refine E_s (p' := 42) rfl rfl ?_
  refine E_s (p' := 45) (L' := [some (aA 10), some (aA 72), some (aI 6)]) rfl rfl ?_
  refine E_s (p' := 12) rfl rfl ?_
  refine E_s (p' := 13) (st' := aI 6 :: _) rfl rfl ?_
  refine E_s (p' := 15) (st' := aI 12 :: _) rfl rfl ?_
  refine E_s (p' := 18) rfl rfl ?_
  refine E_s (p' := 19) (st' := aA 10 :: _) rfl rfl ?_
  refine E_s (p' := 20) (st' := aI 6 :: _) rfl rfl ?_
  refine E_callL (p' := 23) (L0 := [some (aA 10), some (aI 6), none, none]) rfl rfl rfl ?_
  refine E_s (p' := 1) (st' := aI 0 :: _) rfl rfl ?_
  refine E_s (p' := 2) (L' := [some (aA 10), some (aI 6), some (aI 0), none]) rfl rfl ?_
  refine E_s (p' := 3) (st' := aI 0 :: _) rfl rfl ?_
  refine E_s (p' := 4) (L' := [some (aA 10), some (aI 6), some (aI 0), some (aI 0)]) rfl rfl ?_
  refine E_s (p' := 5) (st' := aI 0 :: _) rfl rfl ?_
  refine E_s (p' := 6) (st' := aA 10 :: _) rfl rfl ?_
  refine E_s (p' := 9) (st' := aA 13 :: _) rfl rfl ?_
  refine E_s (p' := 10) (st' := aI 6 :: _) rfl rfl ?_
  refine E_s (p' := 11) (st' := aI 0 :: _) rfl rfl ?_
  refine E_s (p' := 34) rfl rfl ?_
  refine E_s (p' := 35) (st' := aA 10 :: _) rfl rfl ?_
  refine E_s (p' := 36) (st' := aI 6 :: _) rfl rfl ?_
  refine E_callL (p' := 39) (L0 := [some (aA 10), some (aI 6)]) rfl rfl rfl ?_
  refine E_s (p' := 1) (st' := aA 10 :: _) rfl rfl ?_
  refine E_s (p' := 4) (st' := aA 13 :: _) rfl rfl ?_
  refine E_s (p' := 5) (st' := aI 6 :: _) rfl rfl ?_
  refine E_s (p' := 6) (st' := aI 0 :: _) rfl rfl ?_
  refine E_s (p' := 24) rfl rfl ?_
  refine E_s (p' := 25) (st' := aI 0 :: _) rfl rfl ?_
  refine E_ret rfl rfl ?_
  refine E_s (p' := 50) rfl rfl ?_
  refine E_s (p' := 51) (st' := aI 0 :: _) rfl rfl ?_
  refine E_ret rfl rfl ?_
  refine E_s (p' := 42) rfl rfl ?_
  refine E_s (p' := 45) (L' := [some (aA 10), some (aA 72), some (aI 7)]) rfl rfl ?_
  refine E_s (p' := 12) rfl rfl ?_
  refine E_s (p' := 13) (st' := aI 7 :: _) rfl rfl ?_
  refine E_s (p' := 15) (st' := aI 12 :: _) rfl rfl ?_
  refine E_s (p' := 18) rfl rfl ?_
  refine E_s (p' := 19) (st' := aA 10 :: _) rfl rfl ?_
  refine E_s (p' := 20) (st' := aI 7 :: _) rfl rfl ?_
  refine E_callL (p' := 23) (L0 := [some (aA 10), some (aI 7), none, none]) rfl rfl rfl ?_
  refine E_s (p' := 1) (st' := aI 0 :: _) rfl rfl ?_
  refine E_s (p' := 2) (L' := [some (aA 10), some (aI 7), some (aI 0), none]) rfl rfl ?_
  refine E_s (p' := 3) (st' := aI 0 :: _) rfl rfl ?_
  refine E_s (p' := 4) (L' := [some (aA 10), some (aI 7), some (aI 0), some (aI 0)]) rfl rfl ?_
  refine E_s (p' := 5) (st' := aI 0 :: _) rfl rfl ?_
  refine E_s (p' := 6) (st' := aA 10 :: _) rfl rfl ?_
  refine E_s (p' := 9) (st' := aA 13 :: _) rfl rfl ?_
  refine E_s (p' := 10) (st' := aI 7 :: _) rfl rfl ?_
  refine E_s (p' := 11) (st' := aI 0 :: _) rfl rfl ?_
  refine E_s (p' := 34) rfl rfl ?_
  refine E_s (p' := 35) (st' := aA 10 :: _) rfl rfl ?_
  refine E_s (p' := 36) (st' := aI 7 :: _) rfl rfl ?_
  refine E_callL (p' := 39) (L0 := [some (aA 10), some (aI 7)]) rfl rfl rfl ?_
  refine E_s (p' := 1) (st' := aA 10 :: _) rfl rfl ?_
  refine E_s (p' := 4) (st' := aA 13 :: _) rfl rfl ?_
  refine E_s (p' := 5) (st' := aI 7 :: _) rfl rfl ?_
  refine E_s (p' := 6) (st' := aI 0 :: _) rfl rfl ?_
  refine E_s (p' := 24) rfl rfl ?_
  refine E_s (p' := 25) (st' := aI 0 :: _) rfl rfl ?_
  refine E_ret rfl rfl ?_
  refine E_s (p' := 50) rfl rfl ?_
  refine E_s (p' := 51) (st' := aI 0 :: _) rfl rfl ?_
  refine E_ret rfl rfl ?_
  refine E_s (p' := 42) rfl rfl ?_
  refine E_s (p' := 45) (L' := [some (aA 10), some (aA 72), some (aI 8)]) rfl rfl ?_
  refine E_s (p' := 12) rfl rfl ?_
  refine E_s (p' := 13) (st' := aI 8 :: _) rfl rfl ?_
  refine E_s (p' := 15) (st' := aI 12 :: _) rfl rfl ?_
  refine E_s (p' := 18) rfl rfl ?_
  refine E_s (p' := 19) (st' := aA 10 :: _) rfl rfl ?_
  refine E_s (p' := 20) (st' := aI 8 :: _) rfl rfl ?_
  refine E_callL (p' := 23) (L0 := [some (aA 10), some (aI 8), none, none]) rfl rfl rfl ?_
  refine E_s (p' := 1) (st' := aI 0 :: _) rfl rfl ?_
  refine E_s (p' := 2) (L' := [some (aA 10), some (aI 8), some (aI 0), none]) rfl rfl ?_
  refine E_s (p' := 3) (st' := aI 0 :: _) rfl rfl ?_
  refine E_s (p' := 4) (L' := [some (aA 10), some (aI 8), some (aI 0), some (aI 0)]) rfl rfl ?_
  refine E_s (p' := 5) (st' := aI 0 :: _) rfl rfl ?_
  refine E_s (p' := 6) (st' := aA 10 :: _) rfl rfl ?_
  refine E_s (p' := 9) (st' := aA 13 :: _) rfl rfl ?_
  refine E_s (p' := 10) (st' := aI 8 :: _) rfl rfl ?_
  refine E_s (p' := 11) (st' := aI 0 :: _) rfl rfl ?_
  refine E_s (p' := 34) rfl rfl ?_
  refine E_s (p' := 35) (st' := aA 10 :: _) rfl rfl ?_
  refine E_s (p' := 36) (st' := aI 8 :: _) rfl rfl ?_
  refine E_callL (p' := 39) (L0 := [some (aA 10), some (aI 8)]) rfl rfl rfl ?_
  refine E_s (p' := 1) (st' := aA 10 :: _) rfl rfl ?_
  refine E_s (p' := 4) (st' := aA 13 :: _) rfl rfl ?_
  refine E_s (p' := 5) (st' := aI 8 :: _) rfl rfl ?_
  refine E_s (p' := 6) (st' := aI 0 :: _) rfl rfl ?_
  refine E_s (p' := 24) rfl rfl ?_
  refine E_s (p' := 25) (st' := aI 0 :: _) rfl rfl ?_
  refine E_ret rfl rfl ?_
  refine E_s (p' := 50) rfl rfl ?_
  refine E_s (p' := 51) (st' := aI 0 :: _) rfl rfl ?_
  refine E_ret rfl rfl ?_
  refine E_s (p' := 42) rfl rfl ?_
  refine E_s (p' := 45) (L' := [some (aA 10), some (aA 72), some (aI 9)]) rfl rfl ?_
  refine E_s (p' := 12) rfl rfl ?_
  refine E_s (p' := 13) (st' := aI 9 :: _) rfl rfl ?_
  refine E_s (p' := 15) (st' := aI 12 :: _) rfl rfl ?_
  refine E_s (p' := 18) rfl rfl ?_
  refine E_s (p' := 19) (st' := aA 10 :: _) rfl rfl ?_
  refine E_s (p' := 20) (st' := aI 9 :: _) rfl rfl ?_
  refine E_callL (p' := 23) (L0 := [some (aA 10), some (aI 9), none, none]) rfl rfl rfl ?_
  refine E_s (p' := 1) (st' := aI 0 :: _) rfl rfl ?_
  refine E_s (p' := 2) (L' := [some (aA 10), some (aI 9), some (aI 0), none]) rfl rfl ?_
  refine E_s (p' := 3) (st' := aI 0 :: _) rfl rfl ?_
  refine E_s (p' := 4) (L' := [some (aA 10), some (aI 9), some (aI 0), some (aI 0)]) rfl rfl ?_
  refine E_s (p' := 5) (st' := aI 0 :: _) rfl rfl ?_
  refine E_s (p' := 6) (st' := aA 10 :: _) rfl rfl ?_
  refine E_s (p' := 9) (st' := aA 13 :: _) rfl rfl ?_
  refine E_s (p' := 10) (st' := aI 9 :: _) rfl rfl ?_
  refine E_s (p' := 11) (st' := aI 0 :: _) rfl rfl ?_
  refine E_s (p' := 34) rfl rfl ?_
  refine E_s (p' := 35) (st' := aA 10 :: _) rfl rfl ?_
  refine E_s (p' := 36) (st' := aI 9 :: _) rfl rfl ?_
  refine E_callL (p' := 39) (L0 := [some (aA 10), some (aI 9)]) rfl rfl rfl ?_
  refine E_s (p' := 1) (st' := aA 10 :: _) rfl rfl ?_
  refine E_s (p' := 4) (st' := aA 13 :: _) rfl rfl ?_
  refine E_s (p' := 5) (st' := aI 9 :: _) rfl rfl ?_
  refine E_s (p' := 6) (st' := aI 0 :: _) rfl rfl ?_
  refine E_s (p' := 24) rfl rfl ?_
  refine E_s (p' := 25) (st' := aI 0 :: _) rfl rfl ?_
  refine E_ret rfl rfl ?_
  refine E_s (p' := 50) rfl rfl ?_
  refine E_s (p' := 51) (st' := aI 0 :: _) rfl rfl ?_
  refine E_ret rfl rfl ?_
  refine E_s (p' := 42) rfl rfl ?_
  refine E_s (p' := 45) (L' := [some (aA 10), some (aA 72), some (aI 10)]) rfl rfl ?_
  refine E_s (p' := 12) rfl rfl ?_
  refine E_s (p' := 13) (st' := aI 10 :: _) rfl rfl ?_
  refine E_s (p' := 15) (st' := aI 12 :: _) rfl rfl ?_
  refine E_s (p' := 18) rfl rfl ?_
  refine E_s (p' := 19) (st' := aA 10 :: _) rfl rfl ?_
  refine E_s (p' := 20) (st' := aI 10 :: _) rfl rfl ?_
  refine E_callL (p' := 23) (L0 := [some (aA 10), some (aI 10), none, none]) rfl rfl rfl ?_
  refine E_s (p' := 1) (st' := aI 0 :: _) rfl rfl ?_
  refine E_s (p' := 2) (L' := [some (aA 10), some (aI 10), some (aI 0), none]) rfl rfl ?_
  refine E_s (p' := 3) (st' := aI 0 :: _) rfl rfl ?_
  refine E_s (p' := 4) (L' := [some (aA 10), some (aI 10), some (aI 0), some (aI 0)]) rfl rfl ?_
  refine E_s (p' := 5) (st' := aI 0 :: _) rfl rfl ?_
  refine E_s (p' := 6) (st' := aA 10 :: _) rfl rfl ?_
  refine E_s (p' := 9) (st' := aA 13 :: _) rfl rfl ?_
  refine E_s (p' := 10) (st' := aI 10 :: _) rfl rfl ?_
  refine E_s (p' := 11) (st' := aI 0 :: _) rfl rfl ?_
  refine E_s (p' := 34) rfl rfl ?_
  refine E_s (p' := 35) (st' := aA 10 :: _) rfl rfl ?_
  refine E_s (p' := 36) (st' := aI 10 :: _) rfl rfl ?_
  refine E_callL (p' := 39) (L0 := [some (aA 10), some (aI 10)]) rfl rfl rfl ?_
  refine E_s (p' := 1) (st' := aA 10 :: _) rfl rfl ?_
  refine E_s (p' := 4) (st' := aA 13 :: _) rfl rfl ?_
  refine E_s (p' := 5) (st' := aI 10 :: _) rfl rfl ?_
  refine E_s (p' := 6) (st' := aI 0 :: _) rfl rfl ?_
  refine E_s (p' := 24) rfl rfl ?_
  refine E_s (p' := 25) (st' := aI 0 :: _) rfl rfl ?_
  refine E_ret rfl rfl ?_
  refine E_s (p' := 50) rfl rfl ?_
  refine E_s (p' := 51) (st' := aI 0 :: _) rfl rfl ?_
  refine E_ret rfl rfl ?_
  refine E_s (p' := 42) rfl rfl ?_
  refine E_s (p' := 45) (L' := [some (aA 10), some (aA 72), some (aI 11)]) rfl rfl ?_
  refine E_s (p' := 12) rfl rfl ?_
  refine E_s (p' := 13) (st' := aI 11 :: _) rfl rfl ?_
  refine E_s (p' := 15) (st' := aI 12 :: _) rfl rfl ?_
  refine E_s (p' := 18) rfl rfl ?_
  refine E_s (p' := 19) (st' := aA 10 :: _) rfl rfl ?_
  refine E_s (p' := 20) (st' := aI 11 :: _) rfl rfl ?_
  refine E_callL (p' := 23) (L0 := [some (aA 10), some (aI 11), none, none]) rfl rfl rfl ?_
  refine E_s (p' := 1) (st' := aI 0 :: _) rfl rfl ?_
  refine E_s (p' := 2) (L' := [some (aA 10), some (aI 11), some (aI 0), none]) rfl rfl ?_
  refine E_s (p' := 3) (st' := aI 0 :: _) rfl rfl ?_
  refine E_s (p' := 4) (L' := [some (aA 10), some (aI 11), some (aI 0), some (aI 0)]) rfl rfl ?_
  refine E_s (p' := 5) (st' := aI 0 :: _) rfl rfl ?_
  refine E_s (p' := 6) (st' := aA 10 :: _) rfl rfl ?_
  refine E_s (p' := 9) (st' := aA 13 :: _) rfl rfl ?_
  refine E_s (p' := 10) (st' := aI 11 :: _) rfl rfl ?_
  refine E_s (p' := 11) (st' := aI 0 :: _) rfl rfl ?_
  refine E_s (p' := 34) rfl rfl ?_
  refine E_s (p' := 35) (st' := aA 10 :: _) rfl rfl ?_
  refine E_s (p' := 36) (st' := aI 11 :: _) rfl rfl ?_
  refine E_callL (p' := 39) (L0 := [some (aA 10), some (aI 11)]) rfl rfl rfl ?_
  refine E_s (p' := 1) (st' := aA 10 :: _) rfl rfl ?_
  refine E_s (p' := 4) (st' := aA 13 :: _) rfl rfl ?_
  refine E_s (p' := 5) (st' := aI 11 :: _) rfl rfl ?_
  refine E_s (p' := 6) (st' := aI 0 :: _) rfl rfl ?_
  refine E_s (p' := 24) rfl rfl ?_
  refine E_s (p' := 25) (st' := aI 0 :: _) rfl rfl ?_
  refine E_ret rfl rfl ?_
  refine E_s (p' := 50) rfl rfl ?_
  refine E_s (p' := 51) (st' := aI 0 :: _) rfl rfl ?_
  refine E_ret rfl rfl ?_
  refine E_s (p' := 42) rfl rfl ?_
  refine E_s (p' := 45) (L' := [some (aA 10), some (aA 72), some (aI 12)]) rfl rfl ?_
  refine E_s (p' := 12) rfl rfl ?_
  refine E_s (p' := 13) (st' := aI 12 :: _) rfl rfl ?_
  refine E_s (p' := 15) (st' := aI 12 :: _) rfl rfl ?_
  refine E_s (p' := 48) rfl rfl ?_
  refine E_s (p' := 49) (st' := aA 10 :: _) rfl rfl ?_
  refine E_s (p' := 52) (st' := aI 0 :: _) rfl rfl ?_
  refine E_ret rfl rfl ?_
  refine E_ret rfl rfl ?_
  refine E_s (p' := 1029) (st' := aA 124 :: _) rfl rfl ?_
  refine E_s (p' := 1030) (st' := aA 0 :: _) rfl rfl ?_
  refine E_s (p' := 1031) (st' := aI 0 :: _) rfl rfl ?_
  refine E_s (p' := 1032) (st' := aI 1 :: _) rfl rfl ?_
  refine E_s (p' := 1033) (st' := aI 1 :: _) rfl rfl ?_
  refine E_scr rfl rfl h1 ?_
  refine E_callL (p' := 1037) (L0 := [some (aA 124), some (aI 2), none, none, none]) rfl rfl rfl ?_
  refine E_s (p' := 1) (st' := aI 2 :: _) rfl rfl ?_
  refine E_callL (p' := 4) (L0 := [some (aI 2)]) rfl rfl rfl ?_
  refine E_s (p' := 1) (st' := aI 2 :: _) rfl rfl ?_
  refine E_s (p' := 2) (st' := aI 0 :: _) rfl rfl ?_
  refine E_s (p' := 3) (st' := aI 3 :: _) rfl rfl ?_
  refine E_callL (p' := 6) (L0 := [some (aI 2), some (aI 0), some (aI 3)]) rfl rfl rfl ?_
  refine E_s (p' := 1) (st' := aI 2 :: _) rfl rfl ?_
  refine E_s (p' := 2) (st' := aI 0 :: _) rfl rfl ?_
  refine E_s (p' := 5) rfl rfl ?_
  refine E_s (p' := 6) (st' := aI 2 :: _) rfl rfl ?_
  refine E_s (p' := 7) (st' := aI 3 :: _) rfl rfl ?_
  refine E_s (p' := 10) rfl rfl ?_
  refine E_s (p' := 11) (st' := aI 1 :: _) rfl rfl ?_
  refine E_s (p' := 15) rfl rfl ?_
  refine E_ret rfl rfl ?_
  refine E_ret rfl rfl ?_
  refine E_s (p' := 10) rfl rfl ?_
  refine E_s (p' := 11) (st' := aA 124 :: _) rfl rfl ?_
  refine E_s (p' := 12) (st' := aI 2 :: _) rfl rfl ?_
  refine E_callL (p' := 15) (L0 := [some (aA 124), some (aI 2), none, none]) rfl rfl rfl ?_
  refine E_s (p' := 1) (st' := aA 124 :: _) rfl rfl ?_
  refine E_s (p' := 2) (st' := aI 2 :: _) rfl rfl ?_
  refine E_s (p' := 3) (st' := aA 124 :: _) rfl rfl ?_
  refine E_s (p' := 6) (st' := aA 148 :: _) rfl rfl ?_
  refine E_callL (p' := 9) (L0 := [some (aA 124), some (aI 2), some (aA 148), none]) rfl rfl rfl ?_
  refine E_s (p' := 1) (st' := aA 124 :: _) rfl rfl ?_
  refine E_s (p' := 2) (st' := aI 2 :: _) rfl rfl ?_
  refine E_callL (p' := 5) (L0 := [some (aA 124), some (aI 2), none, none]) rfl rfl rfl ?_
  refine E_s (p' := 1) (st' := aI 0 :: _) rfl rfl ?_
  refine E_s (p' := 2) (L' := [some (aA 124), some (aI 2), some (aI 0), none]) rfl rfl ?_
  refine mr_loop1 _ 601 0 _ rfl ?_
  refine E_s (p' := 23) (st' := aA 124 :: _) rfl rfl ?_
  refine E_s (p' := 24) (st' := aI 0 :: _) rfl rfl ?_
  refine E_stM (p' := 27) (m' := up2 _ 124 25 0) rfl rfl ?_
  refine E_s (p' := 28) (st' := aA 124 :: _) rfl rfl ?_
  refine E_s (p' := 29) (st' := aI 0 :: _) rfl rfl ?_
  refine E_stM (p' := 32) (m' := up2 _ 124 26 0) rfl rfl ?_
  refine E_s (p' := 33) (st' := aI 0 :: _) rfl rfl ?_
  refine E_s (p' := 34) (L' := [some (aA 124), some (aI 2), some (aI 0), none]) rfl rfl ?_
  refine E_s (p' := 35) (st' := aI 0 :: _) rfl rfl ?_
  refine E_s (p' := 36) (st' := aA 124 :: _) rfl rfl ?_
  refine E_s (p' := 39) (st' := aA 125 :: _) rfl rfl ?_
  refine E_s (p' := 40) (st' := aI 2 :: _) rfl rfl ?_
  refine E_s (p' := 41) (st' := aI 0 :: _) rfl rfl ?_
  refine E_s (p' := 121) rfl rfl ?_
  refine E_s (p' := 122) (st' := aA 124 :: _) rfl rfl ?_
  refine E_s (p' := 123) (st' := aI 0 :: _) rfl rfl ?_
  refine E_stM (p' := 126) (m' := up2 _ 124 24 0) rfl rfl ?_
  refine E_s (p' := 127) (st' := aI 0 :: _) rfl rfl ?_
  refine E_s (p' := 128) (L' := [some (aA 124), some (aI 2), some (aI 0), none]) rfl rfl ?_
  refine mr_loop3 _ 601 0 _ rfl (fun j hj => show (if 0 ≤ j ∧ j < 601 then (0 : Int) else _) = 0 from if_pos ⟨Nat.zero_le _, hj⟩) ?_
  refine E_s (p' := 245) (st' := aA 124 :: _) rfl rfl ?_
  refine E_s (p' := 248) (st' := aI 0 :: _) rfl rfl ?_
  refine E_s (p' := 249) (st' := aA 124 :: _) rfl rfl ?_
  refine E_s (p' := 252) (st' := aI 0 :: _) rfl rfl ?_
  refine E_s (p' := 259) rfl rfl ?_
  refine E_s (p' := 260) (st' := aI 1 :: _) rfl rfl ?_
  refine E_s (p' := 261) (st' := aI 1 :: _) rfl rfl ?_
  refine E_s (p' := 263) (st' := aI 6 :: _) rfl rfl ?_
  refine E_s (p' := 271) rfl rfl ?_
  refine E_s (p' := 272) (st' := aA 124 :: _) rfl rfl ?_
  refine E_s (p' := 275) (st' := aI 0 :: _) rfl rfl ?_
  refine E_s (p' := 282) rfl rfl ?_
  refine E_s (p' := 283) (st' := aI 0 :: _) rfl rfl ?_
  refine E_ret rfl rfl ?_
  refine E_s (p' := 6) rfl rfl ?_
  refine E_s (p' := 7) (st' := aI 0 :: _) rfl rfl ?_
  refine E_s (p' := 8) (L' := [some (aA 124), some (aI 2), some (aA 148), some (aI 0)]) rfl rfl ?_
  refine E_s (p' := 9) (st' := aI 0 :: _) rfl rfl ?_
  refine E_s (p' := 10) (st' := aA 124 :: _) rfl rfl ?_
  refine E_s (p' := 13) (st' := aA 125 :: _) rfl rfl ?_
  refine E_s (p' := 14) (st' := aI 2 :: _) rfl rfl ?_
  refine E_s (p' := 15) (st' := aI 0 :: _) rfl rfl ?_
  refine E_s (p' := 58) rfl rfl ?_
  refine E_ret rfl rfl ?_
  refine E_s (p' := 10) (st' := aI 0 :: _) rfl rfl ?_
  refine E_s (p' := 11) (L' := [some (aA 124), some (aI 2), some (aI 0), none]) rfl rfl ?_
  refine E_s (p' := 12) (st' := aI 0 :: _) rfl rfl ?_
  refine E_s (p' := 14) (st' := aI 12 :: _) rfl rfl ?_
  refine E_s (p' := 17) rfl rfl ?_
  refine E_s (p' := 18) (st' := aA 124 :: _) rfl rfl ?_
  refine E_s (p' := 21) (st' := aA 163 :: _) rfl rfl ?_
  refine E_s (p' := 22) (st' := aI 0 :: _) rfl rfl ?_
  refine E_s (p' := 23) (st' := aI 0 :: _) rfl rfl ?_
  refine E_stM (p' := 24) (m' := up2 _ 163 0 0) rfl rfl ?_
  refine E_s (p' := 25) (st' := aA 124 :: _) rfl rfl ?_
  refine E_s (p' := 28) (st' := aA 164 :: _) rfl rfl ?_
  refine E_s (p' := 29) (st' := aI 0 :: _) rfl rfl ?_
  refine E_s (p' := 30) (st' := aI 1 :: _) rfl rfl ?_
  refine E_stM (p' := 31) (m' := up2 _ 164 0 1) rfl rfl ?_
  refine E_s (p' := 34) (L' := [some (aA 124), some (aI 2), some (aI 1), none]) rfl rfl ?_
  refine E_s (p' := 11) rfl rfl ?_
  refine E_s (p' := 12) (st' := aI 1 :: _) rfl rfl ?_
  refine E_s (p' := 14) (st' := aI 12 :: _) rfl rfl ?_
  refine E_s (p' := 17) rfl rfl ?_
  refine E_s (p' := 18) (st' := aA 124 :: _) rfl rfl ?_
  refine E_s (p' := 21) (st' := aA 163 :: _) rfl rfl ?_
  refine E_s (p' := 22) (st' := aI 1 :: _) rfl rfl ?_
  refine E_s (p' := 23) (st' := aI 0 :: _) rfl rfl ?_
  refine E_stM (p' := 24) (m' := up2 _ 163 1 0) rfl rfl ?_
  refine E_s (p' := 25) (st' := aA 124 :: _) rfl rfl ?_
  refine E_s (p' := 28) (st' := aA 164 :: _) rfl rfl ?_
  refine E_s (p' := 29) (st' := aI 1 :: _) rfl rfl ?_
  refine E_s (p' := 30) (st' := aI 1 :: _) rfl rfl ?_
  refine E_stM (p' := 31) (m' := up2 _ 164 1 1) rfl rfl ?_
  refine E_s (p' := 34) (L' := [some (aA 124), some (aI 2), some (aI 2), none]) rfl rfl ?_
  refine E_s (p' := 11) rfl rfl ?_
  refine E_s (p' := 12) (st' := aI 2 :: _) rfl rfl ?_
  refine E_s (p' := 14) (st' := aI 12 :: _) rfl rfl ?_
  refine E_s (p' := 17) rfl rfl ?_
  refine E_s (p' := 18) (st' := aA 124 :: _) rfl rfl ?_
  refine E_s (p' := 21) (st' := aA 163 :: _) rfl rfl ?_
  refine E_s (p' := 22) (st' := aI 2 :: _) rfl rfl ?_
  refine E_s (p' := 23) (st' := aI 0 :: _) rfl rfl ?_
  refine E_stM (p' := 24) (m' := up2 _ 163 2 0) rfl rfl ?_
  refine E_s (p' := 25) (st' := aA 124 :: _) rfl rfl ?_
  refine E_s (p' := 28) (st' := aA 164 :: _) rfl rfl ?_
  refine E_s (p' := 29) (st' := aI 2 :: _) rfl rfl ?_
  refine E_s (p' := 30) (st' := aI 1 :: _) rfl rfl ?_
  refine E_stM (p' := 31) (m' := up2 _ 164 2 1) rfl rfl ?_
  refine E_s (p' := 34) (L' := [some (aA 124), some (aI 2), some (aI 3), none]) rfl rfl ?_
  refine E_s (p' := 11) rfl rfl ?_
  refine E_s (p' := 12) (st' := aI 3 :: _) rfl rfl ?_
  refine E_s (p' := 14) (st' := aI 12 :: _) rfl rfl ?_
  refine E_s (p' := 17) rfl rfl ?_
  refine E_s (p' := 18) (st' := aA 124 :: _) rfl rfl ?_
  refine E_s (p' := 21) (st' := aA 163 :: _) rfl rfl ?_
  refine E_s (p' := 22) (st' := aI 3 :: _) rfl rfl ?_
  refine E_s (p' := 23) (st' := aI 0 :: _) rfl rfl ?_
  refine E_stM (p' := 24) (m' := up2 _ 163 3 0) rfl rfl ?_
  refine E_s (p' := 25) (st' := aA 124 :: _) rfl rfl ?_
  refine E_s (p' := 28) (st' := aA 164 :: _) rfl rfl ?_
  refine E_s (p' := 29) (st' := aI 3 :: _) rfl rfl ?_
  refine E_s (p' := 30) (st' := aI 1 :: _) rfl rfl ?_
  refine E_stM (p' := 31) (m' := up2 _ 164 3 1) rfl rfl ?_
  refine E_s (p' := 34) (L' := [some (aA 124), some (aI 2), some (aI 4), none]) rfl rfl ?_
  refine E_s (p' := 11) rfl rfl ?_
  refine E_s (p' := 12) (st' := aI 4 :: _) rfl rfl ?_
  refine E_s (p' := 14) (st' := aI 12 :: _) rfl rfl ?_
  refine E_s (p' := 17) rfl rfl ?_
  refine E_s (p' := 18) (st' := aA 124 :: _) rfl rfl ?_
  refine E_s (p' := 21) (st' := aA 163 :: _) rfl rfl ?_
  refine E_s (p' := 22) (st' := aI 4 :: _) rfl rfl ?_
  refine E_s (p' := 23) (st' := aI 0 :: _) rfl rfl ?_
  refine E_stM (p' := 24) (m' := up2 _ 163 4 0) rfl rfl ?_
  refine E_s (p' := 25) (st' := aA 124 :: _) rfl rfl ?_
  refine E_s (p' := 28) (st' := aA 164 :: _) rfl rfl ?_
  refine E_s (p' := 29) (st' := aI 4 :: _) rfl rfl ?_
  refine E_s (p' := 30) (st' := aI 1 :: _) rfl rfl ?_
  refine E_stM (p' := 31) (m' := up2 _ 164 4 1) rfl rfl ?_
  refine E_s (p' := 34) (L' := [some (aA 124), some (aI 2), some (aI 5), none]) rfl rfl ?_
  refine E_s (p' := 11) rfl rfl ?_
  refine E_s (p' := 12) (st' := aI 5 :: _) rfl rfl ?_
  refine E_s (p' := 14) (st' := aI 12 :: _) rfl rfl ?_
  refine E_s (p' := 17) rfl rfl ?_
  refine E_s (p' := 18) (st' := aA 124 :: _) rfl rfl ?_
  refine E_s (p' := 21) (st' := aA 163 :: _) rfl rfl ?_
  refine E_s (p' := 22) (st' := aI 5 :: _) rfl rfl ?_
  refine E_s (p' := 23) (st' := aI 0 :: _) rfl rfl ?_
  refine E_stM (p' := 24) (m' := up2 _ 163 5 0) rfl rfl ?_
  refine E_s (p' := 25) (st' := aA 124 :: _) rfl rfl ?_
  refine E_s (p' := 28) (st' := aA 164 :: _) rfl rfl ?_
  refine E_s (p' := 29) (st' := aI 5 :: _) rfl rfl ?_
  refine E_s (p' := 30) (st' := aI 1 :: _) rfl rfl ?_
  refine E_stM (p' := 31) (m' := up2 _ 164 5 1) rfl rfl ?_
  refine E_s (p' := 34) (L' := [some (aA 124), some (aI 2), some (aI 6), none]) rfl rfl ?_
  refine E_s (p' := 11) rfl rfl ?_
  refine E_s (p' := 12) (st' := aI 6 :: _) rfl rfl ?_
  refine E_s (p' := 14) (st' := aI 12 :: _) rfl rfl ?_
  refine E_s (p' := 17) rfl rfl ?_
  refine E_s (p' := 18) (st' := aA 124 :: _) rfl rfl ?_
  refine E_s (p' := 21) (st' := aA 163 :: _) rfl rfl ?_
  refine E_s (p' := 22) (st' := aI 6 :: _) rfl rfl ?_
  refine E_s (p' := 23) (st' := aI 0 :: _) rfl rfl ?_
  refine E_stM (p' := 24) (m' := up2 _ 163 6 0) rfl rfl ?_
  refine E_s (p' := 25) (st' := aA 124 :: _) rfl rfl ?_
  refine E_s (p' := 28) (st' := aA 164 :: _) rfl rfl ?_
  refine E_s (p' := 29) (st' := aI 6 :: _) rfl rfl ?_
  refine E_s (p' := 30) (st' := aI 1 :: _) rfl rfl ?_
  refine E_stM (p' := 31) (m' := up2 _ 164 6 1) rfl rfl ?_
  refine E_s (p' := 34) (L' := [some (aA 124), some (aI 2), some (aI 7), none]) rfl rfl ?_
  refine E_s (p' := 11) rfl rfl ?_
  refine E_s (p' := 12) (st' := aI 7 :: _) rfl rfl ?_
  refine E_s (p' := 14) (st' := aI 12 :: _) rfl rfl ?_
  refine E_s (p' := 17) rfl rfl ?_
  refine E_s (p' := 18) (st' := aA 124 :: _) rfl rfl ?_
  refine E_s (p' := 21) (st' := aA 163 :: _) rfl rfl ?_
  refine E_s (p' := 22) (st' := aI 7 :: _) rfl rfl ?_
  refine E_s (p' := 23) (st' := aI 0 :: _) rfl rfl ?_
  refine E_stM (p' := 24) (m' := up2 _ 163 7 0) rfl rfl ?_
  refine E_s (p' := 25) (st' := aA 124 :: _) rfl rfl ?_
  refine E_s (p' := 28) (st' := aA 164 :: _) rfl rfl ?_
  refine E_s (p' := 29) (st' := aI 7 :: _) rfl rfl ?_
  refine E_s (p' := 30) (st' := aI 1 :: _) rfl rfl ?_
  refine E_stM (p' := 31) (m' := up2 _ 164 7 1) rfl rfl ?_
  refine E_s (p' := 34) (L' := [some (aA 124), some (aI 2), some (aI 8), none]) rfl rfl ?_
  refine E_s (p' := 11) rfl rfl ?_
  refine E_s (p' := 12) (st' := aI 8 :: _) rfl rfl ?_
  refine E_s (p' := 14) (st' := aI 12 :: _) rfl rfl ?_
  refine E_s (p' := 17) rfl rfl ?_
  refine E_s (p' := 18) (st' := aA 124 :: _) rfl rfl ?_
  refine E_s (p' := 21) (st' := aA 163 :: _) rfl rfl ?_
  refine E_s (p' := 22) (st' := aI 8 :: _) rfl rfl ?_
  refine E_s (p' := 23) (st' := aI 0 :: _) rfl rfl ?_
  refine E_stM (p' := 24) (m' := up2 _ 163 8 0) rfl rfl ?_
  refine E_s (p' := 25) (st' := aA 124 :: _) rfl rfl ?_
  refine E_s (p' := 28) (st' := aA 164 :: _) rfl rfl ?_
  refine E_s (p' := 29) (st' := aI 8 :: _) rfl rfl ?_
  refine E_s (p' := 30) (st' := aI 1 :: _) rfl rfl ?_
  refine E_stM (p' := 31) (m' := up2 _ 164 8 1) rfl rfl ?_
  refine E_s (p' := 34) (L' := [some (aA 124), some (aI 2), some (aI 9), none]) rfl rfl ?_
  refine E_s (p' := 11) rfl rfl ?_
  refine E_s (p' := 12) (st' := aI 9 :: _) rfl rfl ?_
  refine E_s (p' := 14) (st' := aI 12 :: _) rfl rfl ?_
  refine E_s (p' := 17) rfl rfl ?_
  refine E_s (p' := 18) (st' := aA 124 :: _) rfl rfl ?_
  refine E_s (p' := 21) (st' := aA 163 :: _) rfl rfl ?_
  refine E_s (p' := 22) (st' := aI 9 :: _) rfl rfl ?_
  refine E_s (p' := 23) (st' := aI 0 :: _) rfl rfl ?_
  refine E_stM (p' := 24) (m' := up2 _ 163 9 0) rfl rfl ?_
  refine E_s (p' := 25) (st' := aA 124 :: _) rfl rfl ?_
  refine E_s (p' := 28) (st' := aA 164 :: _) rfl rfl ?_
  refine E_s (p' := 29) (st' := aI 9 :: _) rfl rfl ?_
  refine E_s (p' := 30) (st' := aI 1 :: _) rfl rfl ?_
  refine E_stM (p' := 31) (m' := up2 _ 164 9 1) rfl rfl ?_
  refine E_s (p' := 34) (L' := [some (aA 124), some (aI 2), some (aI 10), none]) rfl rfl ?_
  refine E_s (p' := 11) rfl rfl ?_
  refine E_s (p' := 12) (st' := aI 10 :: _) rfl rfl ?_
  refine E_s (p' := 14) (st' := aI 12 :: _) rfl rfl ?_
  refine E_s (p' := 17) rfl rfl ?_
  refine E_s (p' := 18) (st' := aA 124 :: _) rfl rfl ?_
  refine E_s (p' := 21) (st' := aA 163 :: _) rfl rfl ?_
  refine E_s (p' := 22) (st' := aI 10 :: _) rfl rfl ?_
  refine E_s (p' := 23) (st' := aI 0 :: _) rfl rfl ?_
  refine E_stM (p' := 24) (m' := up2 _ 163 10 0) rfl rfl ?_
  refine E_s (p' := 25) (st' := aA 124 :: _) rfl rfl ?_
  refine E_s (p' := 28) (st' := aA 164 :: _) rfl rfl ?_
  refine E_s (p' := 29) (st' := aI 10 :: _) rfl rfl ?_
  refine E_s (p' := 30) (st' := aI 1 :: _) rfl rfl ?_
  refine E_stM (p' := 31) (m' := up2 _ 164 10 1) rfl rfl ?_
  refine E_s (p' := 34) (L' := [some (aA 124), some (aI 2), some (aI 11), none]) rfl rfl ?_
  refine E_s (p' := 11) rfl rfl ?_
  refine E_s (p' := 12) (st' := aI 11 :: _) rfl rfl ?_
  refine E_s (p' := 14) (st' := aI 12 :: _) rfl rfl ?_
  refine E_s (p' := 17) rfl rfl ?_
  refine E_s (p' := 18) (st' := aA 124 :: _) rfl rfl ?_
  refine E_s (p' := 21) (st' := aA 163 :: _) rfl rfl ?_
  refine E_s (p' := 22) (st' := aI 11 :: _) rfl rfl ?_
  refine E_s (p' := 23) (st' := aI 0 :: _) rfl rfl ?_
  refine E_stM (p' := 24) (m' := up2 _ 163 11 0) rfl rfl ?_
  refine E_s (p' := 25) (st' := aA 124 :: _) rfl rfl ?_
  refine E_s (p' := 28) (st' := aA 164 :: _) rfl rfl ?_
  refine E_s (p' := 29) (st' := aI 11 :: _) rfl rfl ?_
  refine E_s (p' := 30) (st' := aI 1 :: _) rfl rfl ?_
  refine E_stM (p' := 31) (m' := up2 _ 164 11 1) rfl rfl ?_
  refine E_s (p' := 34) (L' := [some (aA 124), some (aI 2), some (aI 12), none]) rfl rfl ?_
  refine E_s (p' := 11) rfl rfl ?_
  refine E_s (p' := 12) (st' := aI 12 :: _) rfl rfl ?_
  refine E_s (p' := 14) (st' := aI 12 :: _) rfl rfl ?_
  refine E_s (p' := 37) rfl rfl ?_
  refine E_s (p' := 38) (st' := aI 0 :: _) rfl rfl ?_
  refine E_s (p' := 39) (L' := [some (aA 124), some (aI 2), some (aI 0), none]) rfl rfl ?_
  refine E_s (p' := 40) (st' := aI 0 :: _) rfl rfl ?_
  refine E_s (p' := 41) (st' := aA 124 :: _) rfl rfl ?_
  refine E_s (p' := 44) (st' := aA 125 :: _) rfl rfl ?_
  refine E_s (p' := 45) (st' := aI 2 :: _) rfl rfl ?_
  refine E_s (p' := 46) (st' := aI 0 :: _) rfl rfl ?_
  refine E_s (p' := 131) rfl rfl ?_
  refine E_ret rfl rfl ?_
  refine E_s (p' := 16) (st' := aA 124 :: _) rfl rfl ?_
  refine E_s (p' := 17) (st' := aI 0 :: _) rfl rfl ?_
  refine E_stM (p' := 20) (m' := up2 _ 124 50 0) rfl rfl ?_
  refine E_s (p' := 21) (st' := aI 0 :: _) rfl rfl ?_
  refine E_s (p' := 22) (L' := [some (aA 124), some (aI 2), some (aI 0), none, none]) rfl rfl ?_
  refine E_s (p' := 23) (st' := aI 0 :: _) rfl rfl ?_
  refine E_s (p' := 25) (st' := aI 12 :: _) rfl rfl ?_
  refine E_s (p' := 28) rfl rfl ?_
  refine E_s (p' := 29) (st' := aA 124 :: _) rfl rfl ?_
  refine E_s (p' := 32) (st' := aA 163 :: _) rfl rfl ?_
  refine E_s (p' := 33) (st' := aI 0 :: _) rfl rfl ?_
  refine E_s (p' := 34) (st' := aI 0 :: _) rfl rfl ?_
  refine E_s (p' := 208) rfl rfl ?_
  refine E_s (p' := 211) (L' := [some (aA 124), some (aI 2), some (aI 1), none, none]) rfl rfl ?_
  refine E_s (p' := 22) rfl rfl ?_
  refine E_s (p' := 23) (st' := aI 1 :: _) rfl rfl ?_
  refine E_s (p' := 25) (st' := aI 12 :: _) rfl rfl ?_
  refine E_s (p' := 28) rfl rfl ?_
  refine E_s (p' := 29) (st' := aA 124 :: _) rfl rfl ?_
  refine E_s (p' := 32) (st' := aA 163 :: _) rfl rfl ?_
  refine E_s (p' := 33) (st' := aI 1 :: _) rfl rfl ?_
  refine E_s (p' := 34) (st' := aI 0 :: _) rfl rfl ?_
  refine E_s (p' := 208) rfl rfl ?_
  refine E_s (p' := 211) (L' := [some (aA 124), some (aI 2), some (aI 2), none, none]) rfl rfl ?_
  refine E_s (p' := 22) rfl rfl ?_
  refine E_s (p' := 23) (st' := aI 2 :: _) rfl rfl ?_
  refine E_s (p' := 25) (st' := aI 12 :: _) rfl rfl ?_
  refine E_s (p' := 28) rfl rfl ?_
  refine E_s (p' := 29) (st' := aA 124 :: _) rfl rfl ?_
  refine E_s (p' := 32) (st' := aA 163 :: _) rfl rfl ?_
  refine E_s (p' := 33) (st' := aI 2 :: _) rfl rfl ?_
  refine E_s (p' := 34) (st' := aI 0 :: _) rfl rfl ?_
  refine E_s (p' := 208) rfl rfl ?_
  refine E_s (p' := 211) (L' := [some (aA 124), some (aI 2), some (aI 3), none, none]) rfl rfl ?_
  refine E_s (p' := 22) rfl rfl ?_
  refine E_s (p' := 23) (st' := aI 3 :: _) rfl rfl ?_
  refine E_s (p' := 25) (st' := aI 12 :: _) rfl rfl ?_
  refine E_s (p' := 28) rfl rfl ?_
  refine E_s (p' := 29) (st' := aA 124 :: _) rfl rfl ?_
  refine E_s (p' := 32) (st' := aA 163 :: _) rfl rfl ?_
  refine E_s (p' := 33) (st' := aI 3 :: _) rfl rfl ?_
  refine E_s (p' := 34) (st' := aI 0 :: _) rfl rfl ?_
  refine E_s (p' := 208) rfl rfl ?_
  refine E_s (p' := 211) (L' := [some (aA 124), some (aI 2), some (aI 4), none, none]) rfl rfl ?_
  refine E_s (p' := 22) rfl rfl ?_
  refine E_s (p' := 23) (st' := aI 4 :: _) rfl rfl ?_
  refine E_s (p' := 25) (st' := aI 12 :: _) rfl rfl ?_
  refine E_s (p' := 28) rfl rfl ?_
  refine E_s (p' := 29) (st' := aA 124 :: _) rfl rfl ?_
  refine E_s (p' := 32) (st' := aA 163 :: _) rfl rfl ?_
  refine E_s (p' := 33) (st' := aI 4 :: _) rfl rfl ?_
  refine E_s (p' := 34) (st' := aI 0 :: _) rfl rfl ?_
  refine E_s (p' := 208) rfl rfl ?_
  refine E_s (p' := 211) (L' := [some (aA 124), some (aI 2), some (aI 5), none, none]) rfl rfl ?_
  refine E_s (p' := 22) rfl rfl ?_
  refine E_s (p' := 23) (st' := aI 5 :: _) rfl rfl ?_
  refine E_s (p' := 25) (st' := aI 12 :: _) rfl rfl ?_
  refine E_s (p' := 28) rfl rfl ?_
  refine E_s (p' := 29) (st' := aA 124 :: _) rfl rfl ?_
  refine E_s (p' := 32) (st' := aA 163 :: _) rfl rfl ?_
  refine E_s (p' := 33) (st' := aI 5 :: _) rfl rfl ?_
  refine E_s (p' := 34) (st' := aI 0 :: _) rfl rfl ?_
  refine E_s (p' := 208) rfl rfl ?_
  refine E_s (p' := 211) (L' := [some (aA 124), some (aI 2), some (aI 6), none, none]) rfl rfl ?_
  refine E_s (p' := 22) rfl rfl ?_
  refine E_s (p' := 23) (st' := aI 6 :: _) rfl rfl ?_
  refine E_s (p' := 25) (st' := aI 12 :: _) rfl rfl ?_
  refine E_s (p' := 28) rfl rfl ?_
  refine E_s (p' := 29) (st' := aA 124 :: _) rfl rfl ?_
  refine E_s (p' := 32) (st' := aA 163 :: _) rfl rfl ?_
  refine E_s (p' := 33) (st' := aI 6 :: _) rfl rfl ?_
  refine E_s (p' := 34) (st' := aI 0 :: _) rfl rfl ?_
  refine E_s (p' := 208) rfl rfl ?_
  refine E_s (p' := 211) (L' := [some (aA 124), some (aI 2), some (aI 7), none, none]) rfl rfl ?_
  refine E_s (p' := 22) rfl rfl ?_
  refine E_s (p' := 23) (st' := aI 7 :: _) rfl rfl ?_
  refine E_s (p' := 25) (st' := aI 12 :: _) rfl rfl ?_
  refine E_s (p' := 28) rfl rfl ?_
  refine E_s (p' := 29) (st' := aA 124 :: _) rfl rfl ?_
  refine E_s (p' := 32) (st' := aA 163 :: _) rfl rfl ?_
  refine E_s (p' := 33) (st' := aI 7 :: _) rfl rfl ?_
  refine E_s (p' := 34) (st' := aI 0 :: _) rfl rfl ?_
  refine E_s (p' := 208) rfl rfl ?_
  refine E_s (p' := 211) (L' := [some (aA 124), some (aI 2), some (aI 8), none, none]) rfl rfl ?_
  refine E_s (p' := 22) rfl rfl ?_
  refine E_s (p' := 23) (st' := aI 8 :: _) rfl rfl ?_
  refine E_s (p' := 25) (st' := aI 12 :: _) rfl rfl ?_
  refine E_s (p' := 28) rfl rfl ?_
  refine E_s (p' := 29) (st' := aA 124 :: _) rfl rfl ?_
  refine E_s (p' := 32) (st' := aA 163 :: _) rfl rfl ?_
  refine E_s (p' := 33) (st' := aI 8 :: _) rfl rfl ?_
  refine E_s (p' := 34) (st' := aI 0 :: _) rfl rfl ?_
  refine E_s (p' := 208) rfl rfl ?_
  refine E_s (p' := 211) (L' := [some (aA 124), some (aI 2), some (aI 9), none, none]) rfl rfl ?_
  refine E_s (p' := 22) rfl rfl ?_
  refine E_s (p' := 23) (st' := aI 9 :: _) rfl rfl ?_
  refine E_s (p' := 25) (st' := aI 12 :: _) rfl rfl ?_
  refine E_s (p' := 28) rfl rfl ?_
  refine E_s (p' := 29) (st' := aA 124 :: _) rfl rfl ?_
  refine E_s (p' := 32) (st' := aA 163 :: _) rfl rfl ?_
  refine E_s (p' := 33) (st' := aI 9 :: _) rfl rfl ?_
  refine E_s (p' := 34) (st' := aI 0 :: _) rfl rfl ?_
  refine E_s (p' := 208) rfl rfl ?_
  refine E_s (p' := 211) (L' := [some (aA 124), some (aI 2), some (aI 10), none, none]) rfl rfl ?_
  refine E_s (p' := 22) rfl rfl ?_
  refine E_s (p' := 23) (st' := aI 10 :: _) rfl rfl ?_
  refine E_s (p' := 25) (st' := aI 12 :: _) rfl rfl ?_
  refine E_s (p' := 28) rfl rfl ?_
  refine E_s (p' := 29) (st' := aA 124 :: _) rfl rfl ?_
  refine E_s (p' := 32) (st' := aA 163 :: _) rfl rfl ?_
  refine E_s (p' := 33) (st' := aI 10 :: _) rfl rfl ?_
  refine E_s (p' := 34) (st' := aI 0 :: _) rfl rfl ?_
  refine E_s (p' := 208) rfl rfl ?_
  refine E_s (p' := 211) (L' := [some (aA 124), some (aI 2), some (aI 11), none, none]) rfl rfl ?_
  refine E_s (p' := 22) rfl rfl ?_
  refine E_s (p' := 23) (st' := aI 11 :: _) rfl rfl ?_
  refine E_s (p' := 25) (st' := aI 12 :: _) rfl rfl ?_
  refine E_s (p' := 28) rfl rfl ?_
  refine E_s (p' := 29) (st' := aA 124 :: _) rfl rfl ?_
  refine E_s (p' := 32) (st' := aA 163 :: _) rfl rfl ?_
  refine E_s (p' := 33) (st' := aI 11 :: _) rfl rfl ?_
  refine E_s (p' := 34) (st' := aI 0 :: _) rfl rfl ?_
  refine E_s (p' := 208) rfl rfl ?_
  refine E_s (p' := 211) (L' := [some (aA 124), some (aI 2), some (aI 12), none, none]) rfl rfl ?_
  refine E_s (p' := 22) rfl rfl ?_
  refine E_s (p' := 23) (st' := aI 12 :: _) rfl rfl ?_
  refine E_s (p' := 25) (st' := aI 12 :: _) rfl rfl ?_
  refine E_s (p' := 214) rfl rfl ?_
  refine E_s (p' := 215) (st' := aA 124 :: _) rfl rfl ?_
  refine E_s (p' := 218) (st' := aI 0 :: _) rfl rfl ?_
  refine E_ret rfl rfl ?_
  refine E_s (p' := 1174) rfl rfl ?_
  refine E_s (p' := 1177) (L' := [some (aA 0), some (aA 1), some (aA 124), some (aI 6)]) rfl rfl ?_
  refine E_s (p' := 18) rfl rfl ?_
  refine E_s (p' := 19) (st' := aI 6 :: _) rfl rfl ?_
  refine E_s (p' := 20) (st' := aA 0 :: _) rfl rfl ?_
  refine E_s (p' := 21) (st' := aI 6 :: _) rfl rfl ?_
  refine E_s (p' := 23) (st' := aI 6 :: _) rfl rfl ?_
  refine E_s (p' := 24) (st' := aI 0 :: _) rfl rfl ?_
  refine E_s (p' := 1180) rfl rfl ?_
  refine E_s (p' := 1181) (st' := aI 1 :: _) rfl rfl ?_
  exact E_ret rfl rfl ⟨rfl, rfl⟩
set_option maxRecDepth 100000 in
set_option maxHeartbeats 40000000 in
theorem pc_23_3 (xs : Nat → Int) {z a2 a3 a4 a5 : Int} (hz : b32 (fun a b => a &&& b) z 31 = 23) (h0 : xs 0 = z) (h1 : xs 1 = 3) (h2 : xs 2 = a2) (h3 : xs 3 = a3) (h4 : xs 4 = a4) (h5 : xs 5 = a5) : E 0 18 LL [] (s0 xs 6) PQ := by
  refine E_s (p' := 19) (st' := aI 0 :: _) rfl rfl ?_
  refine E_s (p' := 20) (st' := aA 0 :: _) rfl rfl ?_
  refine E_s (p' := 21) (st' := aI 6 :: _) rfl rfl ?_
  refine E_s (p' := 23) (st' := aI 6 :: _) rfl rfl ?_
  refine E_s (p' := 24) (st' := aI 0 :: _) rfl rfl ?_
  refine E_s (p' := 27) rfl rfl ?_
  refine E_s (p' := 28) (st' := aA 0 :: _) rfl rfl ?_
  refine E_s (p' := 29) (st' := aI 0 :: _) rfl rfl ?_
  refine E_scr rfl rfl h0 ?_
  refine E_s (p' := 32) (st' := aI 31 :: _) rfl rfl ?_
  refine E_s (p' := 33) rfl rfl ?_
  refine E_val hz ?_
  refine E_s (p' := 1019) rfl rfl ?_
  refine E_s (p' := 1020) (st' := aA 1 :: _) rfl rfl ?_
  refine E_s (p' := 1021) (st' := aA 0 :: _) rfl rfl ?_
  refine E_s (p' := 1022) (st' := aI 0 :: _) rfl rfl ?_
  refine E_s (p' := 1023) (st' := aI 1 :: _) rfl rfl ?_
  refine E_s (p' := 1024) (st' := aI 1 :: _) rfl rfl ?_
  refine E_scr rfl rfl h1 ?_
  refine E_callL (p' := 1028) (L0 := [some (aA 1), some (aI 3), none]) rfl rfl rfl ?_
  refine E_s (p' := 1) (st' := aA 1 :: _) rfl rfl ?_
  refine E_s (p' := 2) (st' := aI 3 :: _) rfl rfl ?_
  refine E_callL (p' := 5) (L0 := [some (aA 1), some (aI 3), none]) rfl rfl rfl ?_
  refine E_s (p' := 1) (st' := aA 1 :: _) rfl rfl ?_
  refine E_s (p' := 2) (st' := aI 3 :: _) rfl rfl ?_
  refine E_callL (p' := 5) (L0 := [some (aA 1), some (aI 3)]) rfl rfl rfl ?_
  refine E_s (p' := 1) (st' := aI 3 :: _) rfl rfl ?_
  refine E_s (p' := 4) rfl rfl ?_
  refine E_s (p' := 5) (st' := aI 3 :: _) rfl rfl ?_
  refine E_s (p' := 6) (st' := aI 4 :: _) rfl rfl ?_
  refine E_s (p' := 9) rfl rfl ?_
  refine E_s (p' := 10) (st' := aA 1 :: _) rfl rfl ?_
  refine E_s (p' := 13) (st' := aA 2 :: _) rfl rfl ?_
  refine E_s (p' := 14) (st' := aI 3 :: _) rfl rfl ?_
  refine E_s (p' := 15) (st' := aA 98 :: _) rfl rfl ?_
  refine E_s (p' := 19) rfl rfl ?_
  refine E_ret rfl rfl ?_
  refine E_s (p' := 6) (L' := [some (aA 1), some (aI 3), some (aA 98)]) rfl rfl ?_
  refine E_s (p' := 7) (st' := aA 98 :: _) rfl rfl ?_
  refine E_s (p' := 10) rfl rfl ?_
  refine E_s (p' := 11) (st' := aA 98 :: _) rfl rfl ?_
  refine E_callL (p' := 14) (L0 := [some (aA 98)]) rfl rfl rfl ?_
  refine E_s (p' := 1) (st' := aA 98 :: _) rfl rfl ?_
  refine E_s (p' := 4) (st' := aI 0 :: _) rfl rfl ?_
  refine E_s (p' := 7) rfl rfl ?_
  refine E_s (p' := 8) (st' := aA 98 :: _) rfl rfl ?_
  refine E_s (p' := 11) (st' := aA 113 :: _) rfl rfl ?_
  refine E_s (p' := 12) (st' := aA 98 :: _) rfl rfl ?_
  refine E_s (p' := 15) (st' := aA 99 :: _) rfl rfl ?_
  refine E_s (p' := 16) (st' := aA 98 :: _) rfl rfl ?_
  refine E_s (p' := 19) (st' := aI 15 :: _) rfl rfl ?_
  refine E_callL (p' := 22) (L0 := [some (aA 113), some (aA 99), some (aI 15), none]) rfl rfl rfl ?_
  refine E_s (p' := 1) (st' := aA 113 :: _) rfl rfl ?_
  refine E_s (p' := 2) (st' := aA 99 :: _) rfl rfl ?_
  refine E_callL (p' := 5) (L0 := [some (aA 113), some (aA 99), none, none]) rfl rfl rfl ?_
  refine E_s (p' := 1) (st' := aA 113 :: _) rfl rfl ?_
  refine E_s (p' := 4) (st' := aA 122 :: _) rfl rfl ?_
  refine E_s (p' := 5) (st' := aI 0 :: _) rfl rfl ?_
  refine E_call rfl rfl ?_
  refine c_fill rfl rfl ?_
  refine E_s (p' := 9) (st' := aA 113 :: _) rfl rfl ?_
  refine E_s (p' := 12) (st' := aA 118 :: _) rfl rfl ?_
  refine E_s (p' := 13) (st' := aI 0 :: _) rfl rfl ?_
  refine E_call rfl rfl ?_
  refine c_fill rfl rfl ?_
  refine E_s (p' := 17) (st' := aA 113 :: _) rfl rfl ?_
  refine E_s (p' := 18) (st' := aI 0 :: _) rfl rfl ?_
  refine E_stM (p' := 21) (m' := up2 _ 113 10 0) rfl rfl ?_
  refine E_s (p' := 22) (st' := aA 113 :: _) rfl rfl ?_
  refine E_s (p' := 23) (st' := aI 0 :: _) rfl rfl ?_
  refine E_stM (p' := 26) (m' := up2 _ 113 11 0) rfl rfl ?_
  refine E_s (p' := 27) (st' := aI 0 :: _) rfl rfl ?_
  refine E_s (p' := 28) (L' := [some (aA 113), some (aA 99), some (aI 0), none]) rfl rfl ?_
  refine E_s (p' := 29) (st' := aI 0 :: _) rfl rfl ?_
  refine E_s (p' := 30) (st' := aA 99 :: _) rfl rfl ?_
  refine E_s (p' := 33) (st' := aI 0 :: _) rfl rfl ?_
  refine E_s (p' := 135) rfl rfl ?_
  refine E_ret rfl rfl ?_
  refine E_s (p' := 6) (st' := aA 113 :: _) rfl rfl ?_
  refine E_s (p' := 7) (st' := aI 15 :: _) rfl rfl ?_
  refine E_callL (p' := 10) (L0 := [some (aA 113), some (aI 15), none]) rfl rfl rfl ?_
  refine E_s (p' := 1) (st' := aA 113 :: _) rfl rfl ?_
  refine E_s (p' := 2) (st' := aI 0 :: _) rfl rfl ?_
  refine E_stM (p' := 5) (m' := up2 _ 113 12 0) rfl rfl ?_
  refine E_s (p' := 6) (st' := aI 1 :: _) rfl rfl ?_
  refine E_s (p' := 7) (L' := [some (aA 113), some (aI 15), some (aI 1)]) rfl rfl ?_
  refine fl_loop (gp := 0) (by decide) _ 600 1 _ rfl (fun j hj => show (if 0 ≤ j ∧ j < 601 then (0 : Int) else _) = 0 from if_pos ⟨Nat.zero_le _, hj⟩) ?_
  refine E_s (p' := 11) (st' := aA 113 :: _) rfl rfl ?_
  refine E_s (p' := 14) (st' := aI 0 :: _) rfl rfl ?_
  refine E_s (p' := 17) rfl rfl ?_
  refine E_s (p' := 18) (st' := aA 113 :: _) rfl rfl ?_
  refine E_callL (p' := 21) (L0 := [some (aA 113)]) rfl rfl rfl ?_
  refine E_s (p' := 1) (st' := aA 113 :: _) rfl rfl ?_
  refine E_s (p' := 4) (st' := aA 119 :: _) rfl rfl ?_
  refine E_s (p' := 5) (st' := aA 113 :: _) rfl rfl ?_
  refine E_s (p' := 8) (st' := aI 0 :: _) rfl rfl ?_
  refine E_s (p' := 15) rfl rfl ?_
  refine E_s (p' := 16) (st' := aI 0 :: _) rfl rfl ?_
  refine E_call rfl rfl ?_
  refine c_fill rfl rfl ?_
  refine E_s (p' := 20) (st' := aA 113 :: _) rfl rfl ?_
  refine E_s (p' := 23) (st' := aA 120 :: _) rfl rfl ?_
  refine E_s (p' := 24) (st' := aI 0 :: _) rfl rfl ?_
  refine E_call rfl rfl ?_
  refine c_fill rfl rfl ?_
  refine E_s (p' := 28) (st' := aA 113 :: _) rfl rfl ?_
  refine E_s (p' := 31) (st' := aA 121 :: _) rfl rfl ?_
  refine E_s (p' := 32) (st' := aI 0 :: _) rfl rfl ?_
  refine E_call rfl rfl ?_
  refine c_fill rfl rfl ?_
  refine E_ret rfl rfl ?_
  refine E_ret rfl rfl ?_
  refine E_s (p' := 23) (st' := aA 98 :: _) rfl rfl ?_
  refine E_s (p' := 24) (st' := aI 1 :: _) rfl rfl ?_
  refine E_stM (p' := 27) (m' := up2 _ 98 7 1) rfl rfl ?_
  refine E_s (p' := 28) (st' := aA 98 :: _) rfl rfl ?_
  refine E_s (p' := 31) (st' := aA 113 :: _) rfl rfl ?_
  refine E_ret rfl rfl ?_
  refine E_s (p' := 15) rfl rfl ?_
  refine E_s (p' := 16) (st' := aA 98 :: _) rfl rfl ?_
  refine E_ret rfl rfl ?_
  refine E_s (p' := 6) (L' := [some (aA 1), some (aI 3), some (aA 98)]) rfl rfl ?_
  refine E_s (p' := 7) (st' := aA 98 :: _) rfl rfl ?_
  refine E_s (p' := 15) rfl rfl ?_
  refine E_s (p' := 16) (st' := aA 1 :: _) rfl rfl ?_
  refine E_s (p' := 19) (st' := aA 10 :: _) rfl rfl ?_
  refine E_s (p' := 20) (st' := aA 98 :: _) rfl rfl ?_
  refine E_callL (p' := 23) (L0 := [some (aA 10), some (aA 98), none]) rfl rfl rfl ?_
  refine E_s (p' := 1) (st' := aA 10 :: _) rfl rfl ?_
  refine E_s (p' := 2) (st' := aI 0 :: _) rfl rfl ?_
  refine E_stM (p' := 5) (m' := up2 _ 10 2 0) rfl rfl ?_
  refine E_s (p' := 6) (st' := aA 10 :: _) rfl rfl ?_
  refine E_s (p' := 7) (st' := aA 98 :: _) rfl rfl ?_
  refine E_callL (p' := 10) (L0 := [some (aA 10), some (aA 98), none, none]) rfl rfl rfl ?_
  refine E_s (p' := 1) (st' := aA 10 :: _) rfl rfl ?_
  refine E_s (p' := 4) (st' := aA 13 :: _) rfl rfl ?_
  refine E_s (p' := 5) (st' := aI 0 :: _) rfl rfl ?_
  refine E_call rfl rfl ?_
  refine c_fill rfl rfl ?_
  refine E_s (p' := 9) (st' := aA 10 :: _) rfl rfl ?_
  refine E_s (p' := 10) (st' := aI 0 :: _) rfl rfl ?_
  refine E_stM (p' := 13) (m' := up2 _ 10 5 0) rfl rfl ?_
  refine E_s (p' := 14) (st' := aI 0 :: _) rfl rfl ?_
  refine E_s (p' := 15) (L' := [some (aA 10), some (aA 98), some (aI 0), none]) rfl rfl ?_
  refine E_s (p' := 16) (st' := aI 0 :: _) rfl rfl ?_
  refine E_s (p' := 17) (st' := aA 98 :: _) rfl rfl ?_
  refine E_s (p' := 20) (st' := aA 99 :: _) rfl rfl ?_
  refine E_s (p' := 23) (st' := aI 0 :: _) rfl rfl ?_
  refine E_s (p' := 105) rfl rfl ?_
  refine E_ret rfl rfl ?_
  refine E_s (p' := 11) (st' := aI 0 :: _) rfl rfl ?_
  refine E_s (p' := 12) (L' := [some (aA 10), some (aA 98), some (aI 0)]) rfl rfl ?_
  refine E_s (p' := 13) (st' := aI 0 :: _) rfl rfl ?_
  refine E_s (p' := 15) (st' := aI 12 :: _) rfl rfl ?_
  refine E_s (p' := 18) rfl rfl ?_
  refine E_s (p' := 19) (st' := aA 10 :: _) rfl rfl ?_
  refine E_s (p' := 20) (st' := aI 0 :: _) rfl rfl ?_
  refine E_callL (p' := 23) (L0 := [some (aA 10), some (aI 0), none, none]) rfl rfl rfl ?_
  refine E_s (p' := 1) (st' := aI 0 :: _) rfl rfl ?_
  refine E_s (p' := 2) (L' := [some (aA 10), some (aI 0), some (aI 0), none]) rfl rfl ?_
  refine E_s (p' := 3) (st' := aI 0 :: _) rfl rfl ?_
  refine E_s (p' := 4) (L' := [some (aA 10), some (aI 0), some (aI 0), some (aI 0)]) rfl rfl ?_
  refine E_s (p' := 5) (st' := aI 0 :: _) rfl rfl ?_
  refine E_s (p' := 6) (st' := aA 10 :: _) rfl rfl ?_
  refine E_s (p' := 9) (st' := aA 13 :: _) rfl rfl ?_
  refine E_s (p' := 10) (st' := aI 0 :: _) rfl rfl ?_
  refine E_s (p' := 11) (st' := aI 0 :: _) rfl rfl ?_
  refine E_s (p' := 34) rfl rfl ?_
  refine E_s (p' := 35) (st' := aA 10 :: _) rfl rfl ?_
  refine E_s (p' := 36) (st' := aI 0 :: _) rfl rfl ?_
  refine E_callL (p' := 39) (L0 := [some (aA 10), some (aI 0)]) rfl rfl rfl ?_
  refine E_s (p' := 1) (st' := aA 10 :: _) rfl rfl ?_
  refine E_s (p' := 4) (st' := aA 13 :: _) rfl rfl ?_
  refine E_s (p' := 5) (st' := aI 0 :: _) rfl rfl ?_
  refine E_s (p' := 6) (st' := aI 0 :: _) rfl rfl ?_
  refine E_s (p' := 24) rfl rfl ?_
  refine E_s (p' := 25) (st' := aI 0 :: _) rfl rfl ?_
  refine E_ret rfl rfl ?_
  refine E_s (p' := 50) rfl rfl ?_
  refine E_s (p' := 51) (st' := aI 0 :: _) rfl rfl ?_
  refine E_ret rfl rfl ?_
  refine E_s (p' := 42) rfl rfl ?_
  refine E_s (p' := 45) (L' := [some (aA 10), some (aA 98), some (aI 1)]) rfl rfl ?_
  refine E_s (p' := 12) rfl rfl ?_
  refine E_s (p' := 13) (st' := aI 1 :: _) rfl rfl ?_
  refine E_s (p' := 15) (st' := aI 12 :: _) rfl rfl ?_
  refine E_s (p' := 18) rfl rfl ?_
  refine E_s (p' := 19) (st' := aA 10 :: _) rfl rfl ?_
  refine E_s (p' := 20) (st' := aI 1 :: _) rfl rfl ?_
  refine E_callL (p' := 23) (L0 := [some (aA 10), some (aI 1), none, none]) rfl rfl rfl ?_
  refine E_s (p' := 1) (st' := aI 0 :: _) rfl rfl ?_
  refine E_s (p' := 2) (L' := [some (aA 10), some (aI 1), some (aI 0), none]) rfl rfl ?_
  refine E_s (p' := 3) (st' := aI 0 :: _) rfl rfl ?_
  refine E_s (p' := 4) (L' := [some (aA 10), some (aI 1), some (aI 0), some (aI 0)]) rfl rfl ?_
  refine E_s (p' := 5) (st' := aI 0 :: _) rfl rfl ?_
  refine E_s (p' := 6) (st' := aA 10 :: _) rfl rfl ?_
  refine E_s (p' := 9) (st' := aA 13 :: _) rfl rfl ?_
  refine E_s (p' := 10) (st' := aI 1 :: _) rfl rfl ?_
  refine E_s (p' := 11) (st' := aI 0 :: _) rfl rfl ?_
  refine E_s (p' := 34) rfl rfl ?_
  refine E_s (p' := 35) (st' := aA 10 :: _) rfl rfl ?_
  refine E_s (p' := 36) (st' := aI 1 :: _) rfl rfl ?_
  refine E_callL (p' := 39) (L0 := [some (aA 10), some (aI 1)]) rfl rfl rfl ?_
  refine E_s (p' := 1) (st' := aA 10 :: _) rfl rfl ?_
  refine E_s (p' := 4) (st' := aA 13 :: _) rfl rfl ?_
  refine E_s (p' := 5) (st' := aI 1 :: _) rfl rfl ?_
  refine E_s (p' := 6) (st' := aI 0 :: _) rfl rfl ?_
  refine E_s (p' := 24) rfl rfl ?_
  refine E_s (p' := 25) (st' := aI 0 :: _) rfl rfl ?_
  refine E_ret rfl rfl ?_
  refine E_s (p' := 50) rfl rfl ?_
  refine E_s (p' := 51) (st' := aI 0 :: _) rfl rfl ?_
  refine E_ret rfl rfl ?_
  refine E_s (p' := 42) rfl rfl ?_
  refine E_s (p' := 45) (L' := [some (aA 10), some (aA 98), some (aI 2)]) rfl rfl ?_
  refine E_s (p' := 12) rfl rfl ?_
  refine E_s (p' := 13) (st' := aI 2 :: _) rfl rfl ?_
  refine E_s (p' := 15) (st' := aI 12 :: _) rfl rfl ?_
  refine E_s (p' := 18) rfl rfl ?_
  refine E_s (p' := 19) (st' := aA 10 :: _) rfl rfl ?_
  refine E_s (p' := 20) (st' := aI 2 :: _) rfl rfl ?_
  refine E_callL (p' := 23) (L0 := [some (aA 10), some (aI 2), none, none]) rfl rfl rfl ?_
  refine E_s (p' := 1) (st' := aI 0 :: _) rfl rfl ?_
  refine E_s (p' := 2) (L' := [some (aA 10), some (aI 2), some (aI 0), none]) rfl rfl ?_
  refine E_s (p' := 3) (st' := aI 0 :: _) rfl rfl ?_
  refine E_s (p' := 4) (L' := [some (aA 10), some (aI 2), some (aI 0), some (aI 0)]) rfl rfl ?_
  refine E_s (p' := 5) (st' := aI 0 :: _) rfl rfl ?_
  refine E_s (p' := 6) (st' := aA 10 :: _) rfl rfl ?_
  refine E_s (p' := 9) (st' := aA 13 :: _) rfl rfl ?_
  refine E_s (p' := 10) (st' := aI 2 :: _) rfl rfl ?_
  refine E_s (p' := 11) (st' := aI 0 :: _) rfl rfl ?_
  refine E_s (p' := 34) rfl rfl ?_
  refine E_s (p' := 35) (st' := aA 10 :: _) rfl rfl ?_
  refine E_s (p' := 36) (st' := aI 2 :: _) rfl rfl ?_
  refine E_callL (p' := 39) (L0 := [some (aA 10), some (aI 2)]) rfl rfl rfl ?_
  refine E_s (p' := 1) (st' := aA 10 :: _) rfl rfl ?_
  refine E_s (p' := 4) (st' := aA 13 :: _) rfl rfl ?_
  refine E_s (p' := 5) (st' := aI 2 :: _) rfl rfl ?_
  refine E_s (p' := 6) (st' := aI 0 :: _) rfl rfl ?_
  refine E_s (p' := 24) rfl rfl ?_
  refine E_s (p' := 25) (st' := aI 0 :: _) rfl rfl ?_
  refine E_ret rfl rfl ?_
  refine E_s (p' := 50) rfl rfl ?_
  refine E_s (p' := 51) (st' := aI 0 :: _) rfl rfl ?_
  refine E_ret rfl rfl ?_
  refine E_s (p' := 42) rfl rfl ?_
  refine E_s (p' := 45) (L' := [some (aA 10), some (aA 98), some (aI 3)]) rfl rfl ?_
  refine E_s (p' := 12) rfl rfl ?_
  refine E_s (p' := 13) (st' := aI 3 :: _) rfl rfl ?_
  refine E_s (p' := 15) (st' := aI 12 :: _) rfl rfl ?_
  refine E_s (p' := 18) rfl rfl ?_
  refine E_s (p' := 19) (st' := aA 10 :: _) rfl rfl ?_
  refine E_s (p' := 20) (st' := aI 3 :: _) rfl rfl ?_
  refine E_callL (p' := 23) (L0 := [some (aA 10), some (aI 3), none, none]) rfl rfl rfl ?_
  refine E_s (p' := 1) (st' := aI 0 :: _) rfl rfl ?_
  refine E_s (p' := 2) (L' := [some (aA 10), some (aI 3), some (aI 0), none]) rfl rfl ?_
  refine E_s (p' := 3) (st' := aI 0 :: _) rfl rfl ?_
  refine E_s (p' := 4) (L' := [some (aA 10), some (aI 3), some (aI 0), some (aI 0)]) rfl rfl ?_
  refine E_s (p' := 5) (st' := aI 0 :: _) rfl rfl ?_
  refine E_s (p' := 6) (st' := aA 10 :: _) rfl rfl ?_
  refine E_s (p' := 9) (st' := aA 13 :: _) rfl rfl ?_
  refine E_s (p' := 10) (st' := aI 3 :: _) rfl rfl ?_
  refine E_s (p' := 11) (st' := aI 0 :: _) rfl rfl ?_
  refine E_s (p' := 34) rfl rfl ?_
  refine E_s (p' := 35) (st' := aA 10 :: _) rfl rfl ?_
  refine E_s (p' := 36) (st' := aI 3 :: _) rfl rfl ?_
  refine E_callL (p' := 39) (L0 := [some (aA 10), some (aI 3)]) rfl rfl rfl ?_
  refine E_s (p' := 1) (st' := aA 10 :: _) rfl rfl ?_
  refine E_s (p' := 4) (st' := aA 13 :: _) rfl rfl ?_
  refine E_s (p' := 5) (st' := aI 3 :: _) rfl rfl ?_
  refine E_s (p' := 6) (st' := aI 0 :: _) rfl rfl ?_
  refine E_s (p' := 24) rfl rfl ?_
  refine E_s (p' := 25) (st' := aI 0 :: _) rfl rfl ?_
  refine E_ret rfl rfl ?_
  refine E_s (p' := 50) rfl rfl ?_
  refine E_s (p' := 51) (st' := aI 0 :: _) rfl rfl ?_
  refine E_ret rfl rfl ?_
  refine E_s (p' := 42) rfl rfl ?_
  refine E_s (p' := 45) (L' := [some (aA 10), some (aA 98), some (aI 4)]) rfl rfl ?_
  refine E_s (p' := 12) rfl rfl ?_
  refine E_s (p' := 13) (st' := aI 4 :: _) rfl rfl ?_
  refine E_s (p' := 15) (st' := aI 12 :: _) rfl rfl ?_
  refine E_s (p' := 18) rfl rfl ?_
  refine E_s (p' := 19) (st' := aA 10 :: _) rfl rfl ?_
  refine E_s (p' := 20) (st' := aI 4 :: _) rfl rfl ?_
  refine E_callL (p' := 23) (L0 := [some (aA 10), some (aI 4), none, none]) rfl rfl rfl ?_
  refine E_s (p' := 1) (st' := aI 0 :: _) rfl rfl ?_
  refine E_s (p' := 2) (L' := [some (aA 10), some (aI 4), some (aI 0), none]) rfl rfl ?_
  refine E_s (p' := 3) (st' := aI 0 :: _) rfl rfl ?_
  refine E_s (p' := 4) (L' := [some (aA 10), some (aI 4), some (aI 0), some (aI 0)]) rfl rfl ?_
  refine E_s (p' := 5) (st' := aI 0 :: _) rfl rfl ?_
  refine E_s (p' := 6) (st' := aA 10 :: _) rfl rfl ?_
  refine E_s (p' := 9) (st' := aA 13 :: _) rfl rfl ?_
  refine E_s (p' := 10) (st' := aI 4 :: _) rfl rfl ?_
  refine E_s (p' := 11) (st' := aI 0 :: _) rfl rfl ?_
  refine E_s (p' := 34) rfl rfl ?_
  refine E_s (p' := 35) (st' := aA 10 :: _) rfl rfl ?_
  refine E_s (p' := 36) (st' := aI 4 :: _) rfl rfl ?_
  refine E_callL (p' := 39) (L0 := [some (aA 10), some (aI 4)]) rfl rfl rfl ?_
  refine E_s (p' := 1) (st' := aA 10 :: _) rfl rfl ?_
  refine E_s (p' := 4) (st' := aA 13 :: _) rfl rfl ?_
  refine E_s (p' := 5) (st' := aI 4 :: _) rfl rfl ?_
  refine E_s (p' := 6) (st' := aI 0 :: _) rfl rfl ?_
  refine E_s (p' := 24) rfl rfl ?_
  refine E_s (p' := 25) (st' := aI 0 :: _) rfl rfl ?_
  refine E_ret rfl rfl ?_
  refine E_s (p' := 50) rfl rfl ?_
  refine E_s (p' := 51) (st' := aI 0 :: _) rfl rfl ?_
  refine E_ret rfl rfl ?_
  refine E_s (p' := 42) rfl rfl ?_
  refine E_s (p' := 45) (L' := [some (aA 10), some (aA 98), some (aI 5)]) rfl rfl ?_
  refine E_s (p' := 12) rfl rfl ?_
  refine E_s (p' := 13) (st' := aI 5 :: _) rfl rfl ?_
  refine E_s (p' := 15) (st' := aI 12 :: _) rfl rfl ?_
  refine E_s (p' := 18) rfl rfl ?_
  refine E_s (p' := 19) (st' := aA 10 :: _) rfl rfl ?_
  refine E_s (p' := 20) (st' := aI 5 :: _) rfl rfl ?_
  refine E_callL (p' := 23) (L0 := [some (aA 10), some (aI 5), none, none]) rfl rfl rfl ?_
  refine E_s (p' := 1) (st' := aI 0 :: _) rfl rfl ?_
  refine E_s (p' := 2) (L' := [some (aA 10), some (aI 5), some (aI 0), none]) rfl rfl ?_
  refine E_s (p' := 3) (st' := aI 0 :: _) rfl rfl ?_
  refine E_s (p' := 4) (L' := [some (aA 10), some (aI 5), some (aI 0), some (aI 0)]) rfl rfl ?_
  refine E_s (p' := 5) (st' := aI 0 :: _) rfl rfl ?_
  refine E_s (p' := 6) (st' := aA 10 :: _) rfl rfl ?_
  refine E_s (p' := 9) (st' := aA 13 :: _) rfl rfl ?_
  refine E_s (p' := 10) (st' := aI 5 :: _) rfl rfl ?_
  refine E_s (p' := 11) (st' := aI 0 :: _) rfl rfl ?_
  refine E_s (p' := 34) rfl rfl ?_
  refine E_s (p' := 35) (st' := aA 10 :: _) rfl rfl ?_
  refine E_s (p' := 36) (st' := aI 5 :: _) rfl rfl ?_
  refine E_callL (p' := 39) (L0 := [some (aA 10), some (aI 5)]) rfl rfl rfl ?_
  refine E_s (p' := 1) (st' := aA 10 :: _) rfl rfl ?_
  refine E_s (p' := 4) (st' := aA 13 :: _) rfl rfl ?_
  refine E_s (p' := 5) (st' := aI 5 :: _) rfl rfl ?_
  refine E_s (p' := 6) (st' := aI 0 :: _) rfl rfl ?_
  refine E_s (p' := 24) rfl rfl ?_
  refine E_s (p' := 25) (st' := aI 0 :: _) rfl rfl ?_
  refine E_ret rfl rfl ?_
  refine E_s (p' := 50) rfl rfl ?_
  refine E_s (p' := 51) (st' := aI 0 :: _) rfl rfl ?_
  refine E_ret rfl rfl ?_
  refine E_s (p' := 42) rfl rfl ?_
  refine E_s (p' := 45) (L' := [some (aA 10), some (aA 98), some (aI 6)]) rfl rfl ?_
  refine E_s (p' := 12) rfl rfl ?_
  refine E_s (p' := 13) (st' := aI 6 :: _) rfl rfl ?_
  refine E_s (p' := 15) (st' := aI 12 :: _) rfl rfl ?_
  refine E_s (p' := 18) rfl rfl ?_
  refine E_s (p' := 19) (st' := aA 10 :: _) rfl rfl ?_
  refine E_s (p' := 20) (st' := aI 6 :: _) rfl rfl ?_
  refine E_callL (p' := 23) (L0 := [some (aA 10), some (aI 6), none, none]) rfl rfl rfl ?_
  refine E_s (p' := 1) (st' := aI 0 :: _) rfl rfl ?_
  refine E_s (p' := 2) (L' := [some (aA 10), some (aI 6), some (aI 0), none]) rfl rfl ?_
  refine E_s (p' := 3) (st' := aI 0 :: _) rfl rfl ?_
  refine E_s (p' := 4) (L' := [some (aA 10), some (aI 6), some (aI 0), some (aI 0)]) rfl rfl ?_
  refine E_s (p' := 5) (st' := aI 0 :: _) rfl rfl ?_
  refine E_s (p' := 6) (st' := aA 10 :: _) rfl rfl ?_
  refine E_s (p' := 9) (st' := aA 13 :: _) rfl rfl ?_
  refine E_s (p' := 10) (st' := aI 6 :: _) rfl rfl ?_
  refine E_s (p' := 11) (st' := aI 0 :: _) rfl rfl ?_
  refine E_s (p' := 34) rfl rfl ?_
  refine E_s (p' := 35) (st' := aA 10 :: _) rfl rfl ?_
  refine E_s (p' := 36) (st' := aI 6 :: _) rfl rfl ?_
  refine E_callL (p' := 39) (L0 := [some (aA 10), some (aI 6)]) rfl rfl rfl ?_
  refine E_s (p' := 1) (st' := aA 10 :: _) rfl rfl ?_
  refine E_s (p' := 4) (st' := aA 13 :: _) rfl rfl ?_
  refine E_s (p' := 5) (st' := aI 6 :: _) rfl rfl ?_
  refine E_s (p' := 6) (st' := aI 0 :: _) rfl rfl ?_
  refine E_s (p' := 24) rfl rfl ?_
  refine E_s (p' := 25) (st' := aI 0 :: _) rfl rfl ?_
  refine E_ret rfl rfl ?_
  refine E_s (p' := 50) rfl rfl ?_
  refine E_s (p' := 51) (st' := aI 0 :: _) rfl rfl ?_
  refine E_ret rfl rfl ?_
  refine E_s (p' := 42) rfl rfl ?_
  refine E_s (p' := 45) (L' := [some (aA 10), some (aA 98), some (aI 7)]) rfl rfl ?_
  refine E_s (p' := 12) rfl rfl ?_
  refine E_s (p' := 13) (st' := aI 7 :: _) rfl rfl ?_
  refine E_s (p' := 15) (st' := aI 12 :: _) rfl rfl ?_
  refine E_s (p' := 18) rfl rfl ?_
  refine E_s (p' := 19) (st' := aA 10 :: _) rfl rfl ?_
  refine E_s (p' := 20) (st' := aI 7 :: _) rfl rfl ?_
  refine E_callL (p' := 23) (L0 := [some (aA 10), some (aI 7), none, none]) rfl rfl rfl ?_
  refine E_s (p' := 1) (st' := aI 0 :: _) rfl rfl ?_
  refine E_s (p' := 2) (L' := [some (aA 10), some (aI 7), some (aI 0), none]) rfl rfl ?_
  refine E_s (p' := 3) (st' := aI 0 :: _) rfl rfl ?_
  refine E_s (p' := 4) (L' := [some (aA 10), some (aI 7), some (aI 0), some (aI 0)]) rfl rfl ?_
  refine E_s (p' := 5) (st' := aI 0 :: _) rfl rfl ?_
  refine E_s (p' := 6) (st' := aA 10 :: _) rfl rfl ?_
  refine E_s (p' := 9) (st' := aA 13 :: _) rfl rfl ?_
  refine E_s (p' := 10) (st' := aI 7 :: _) rfl rfl ?_
  refine E_s (p' := 11) (st' := aI 0 :: _) rfl rfl ?_
  refine E_s (p' := 34) rfl rfl ?_
  refine E_s (p' := 35) (st' := aA 10 :: _) rfl rfl ?_
  refine E_s (p' := 36) (st' := aI 7 :: _) rfl rfl ?_
  refine E_callL (p' := 39) (L0 := [some (aA 10), some (aI 7)]) rfl rfl rfl ?_
  refine E_s (p' := 1) (st' := aA 10 :: _) rfl rfl ?_
  refine E_s (p' := 4) (st' := aA 13 :: _) rfl rfl ?_
  refine E_s (p' := 5) (st' := aI 7 :: _) rfl rfl ?_
  refine E_s (p' := 6) (st' := aI 0 :: _) rfl rfl ?_
  refine E_s (p' := 24) rfl rfl ?_
  refine E_s (p' := 25) (st' := aI 0 :: _) rfl rfl ?_
  refine E_ret rfl rfl ?_
  refine E_s (p' := 50) rfl rfl ?_
  refine E_s (p' := 51) (st' := aI 0 :: _) rfl rfl ?_
  refine E_ret rfl rfl ?_
  refine E_s (p' := 42) rfl rfl ?_
  refine E_s (p' := 45) (L' := [some (aA 10), some (aA 98), some (aI 8)]) rfl rfl ?_
  refine E_s (p' := 12) rfl rfl ?_
  refine E_s (p' := 13) (st' := aI 8 :: _) rfl rfl ?_
  refine E_s (p' := 15) (st' := aI 12 :: _) rfl rfl ?_
  refine E_s (p' := 18) rfl rfl ?_
  refine E_s (p' := 19) (st' := aA 10 :: _) rfl rfl ?_
  refine E_s (p' := 20) (st' := aI 8 :: _) rfl rfl ?_
  refine E_callL (p' := 23) (L0 := [some (aA 10), some (aI 8), none, none]) rfl rfl rfl ?_
  refine E_s (p' := 1) (st' := aI 0 :: _) rfl rfl ?_
  refine E_s (p' := 2) (L' := [some (aA 10), some (aI 8), some (aI 0), none]) rfl rfl ?_
  refine E_s (p' := 3) (st' := aI 0 :: _) rfl rfl ?_
  refine E_s (p' := 4) (L' := [some (aA 10), some (aI 8), some (aI 0), some (aI 0)]) rfl rfl ?_
  refine E_s (p' := 5) (st' := aI 0 :: _) rfl rfl ?_
  refine E_s (p' := 6) (st' := aA 10 :: _) rfl rfl ?_
  refine E_s (p' := 9) (st' := aA 13 :: _) rfl rfl ?_
  refine E_s (p' := 10) (st' := aI 8 :: _) rfl rfl ?_
  refine E_s (p' := 11) (st' := aI 0 :: _) rfl rfl ?_
  refine E_s (p' := 34) rfl rfl ?_
  refine E_s (p' := 35) (st' := aA 10 :: _) rfl rfl ?_
  refine E_s (p' := 36) (st' := aI 8 :: _) rfl rfl ?_
  refine E_callL (p' := 39) (L0 := [some (aA 10), some (aI 8)]) rfl rfl rfl ?_
  refine E_s (p' := 1) (st' := aA 10 :: _) rfl rfl ?_
  refine E_s (p' := 4) (st' := aA 13 :: _) rfl rfl ?_
  refine E_s (p' := 5) (st' := aI 8 :: _) rfl rfl ?_
  refine E_s (p' := 6) (st' := aI 0 :: _) rfl rfl ?_
  refine E_s (p' := 24) rfl rfl ?_
  refine E_s (p' := 25) (st' := aI 0 :: _) rfl rfl ?_
  refine E_ret rfl rfl ?_
  refine E_s (p' := 50) rfl rfl ?_
  refine E_s (p' := 51) (st' := aI 0 :: _) rfl rfl ?_
  refine E_ret rfl rfl ?_
  refine E_s (p' := 42) rfl rfl ?_
  refine E_s (p' := 45) (L' := [some (aA 10), some (aA 98), some (aI 9)]) rfl rfl ?_
  refine E_s (p' := 12) rfl rfl ?_
  refine E_s (p' := 13) (st' := aI 9 :: _) rfl rfl ?_
  refine E_s (p' := 15) (st' := aI 12 :: _) rfl rfl ?_
  refine E_s (p' := 18) rfl rfl ?_
  refine E_s (p' := 19) (st' := aA 10 :: _) rfl rfl ?_
  refine E_s (p' := 20) (st' := aI 9 :: _) rfl rfl ?_
  refine E_callL (p' := 23) (L0 := [some (aA 10), some (aI 9), none, none]) rfl rfl rfl ?_
  refine E_s (p' := 1) (st' := aI 0 :: _) rfl rfl ?_
  refine E_s (p' := 2) (L' := [some (aA 10), some (aI 9), some (aI 0), none]) rfl rfl ?_
  refine E_s (p' := 3) (st' := aI 0 :: _) rfl rfl ?_
  refine E_s (p' := 4) (L' := [some (aA 10), some (aI 9), some (aI 0), some (aI 0)]) rfl rfl ?_
  refine E_s (p' := 5) (st' := aI 0 :: _) rfl rfl ?_
  refine E_s (p' := 6) (st' := aA 10 :: _) rfl rfl ?_
  refine E_s (p' := 9) (st' := aA 13 :: _) rfl rfl ?_
  refine E_s (p' := 10) (st' := aI 9 :: _) rfl rfl ?_
  refine E_s (p' := 11) (st' := aI 0 :: _) rfl rfl ?_
  refine E_s (p' := 34) rfl rfl ?_
  refine E_s (p' := 35) (st' := aA 10 :: _) rfl rfl ?_
  refine E_s (p' := 36) (st' := aI 9 :: _) rfl rfl ?_
  refine E_callL (p' := 39) (L0 := [some (aA 10), some (aI 9)]) rfl rfl rfl ?_
  refine E_s (p' := 1) (st' := aA 10 :: _) rfl rfl ?_
  refine E_s (p' := 4) (st' := aA 13 :: _) rfl rfl ?_
  refine E_s (p' := 5) (st' := aI 9 :: _) rfl rfl ?_
  refine E_s (p' := 6) (st' := aI 0 :: _) rfl rfl ?_
  refine E_s (p' := 24) rfl rfl ?_
  refine E_s (p' := 25) (st' := aI 0 :: _) rfl rfl ?_
  refine E_ret rfl rfl ?_
  refine E_s (p' := 50) rfl rfl ?_
  refine E_s (p' := 51) (st' := aI 0 :: _) rfl rfl ?_
  refine E_ret rfl rfl ?_
  refine E_s (p' := 42) rfl rfl ?_
  refine E_s (p' := 45) (L' := [some (aA 10), some (aA 98), some (aI 10)]) rfl rfl ?_
  refine E_s (p' := 12) rfl rfl ?_
  refine E_s (p' := 13) (st' := aI 10 :: _) rfl rfl ?_
  refine E_s (p' := 15) (st' := aI 12 :: _) rfl rfl ?_
  refine E_s (p' := 18) rfl rfl ?_
  refine E_s (p' := 19) (st' := aA 10 :: _) rfl rfl ?_
  refine E_s (p' := 20) (st' := aI 10 :: _) rfl rfl ?_
  refine E_callL (p' := 23) (L0 := [some (aA 10), some (aI 10), none, none]) rfl rfl rfl ?_
  refine E_s (p' := 1) (st' := aI 0 :: _) rfl rfl ?_
  refine E_s (p' := 2) (L' := [some (aA 10), some (aI 10), some (aI 0), none]) rfl rfl ?_
  refine E_s (p' := 3) (st' := aI 0 :: _) rfl rfl ?_
  refine E_s (p' := 4) (L' := [some (aA 10), some (aI 10), some (aI 0), some (aI 0)]) rfl rfl ?_
  refine E_s (p' := 5) (st' := aI 0 :: _) rfl rfl ?_
  refine E_s (p' := 6) (st' := aA 10 :: _) rfl rfl ?_
  refine E_s (p' := 9) (st' := aA 13 :: _) rfl rfl ?_
  refine E_s (p' := 10) (st' := aI 10 :: _) rfl rfl ?_
  refine E_s (p' := 11) (st' := aI 0 :: _) rfl rfl ?_
  refine E_s (p' := 34) rfl rfl ?_
  refine E_s (p' := 35) (st' := aA 10 :: _) rfl rfl ?_
  refine E_s (p' := 36) (st' := aI 10 :: _) rfl rfl ?_
  refine E_callL (p' := 39) (L0 := [some (aA 10), some (aI 10)]) rfl rfl rfl ?_
  refine E_s (p' := 1) (st' := aA 10 :: _) rfl rfl ?_
  refine E_s (p' := 4) (st' := aA 13 :: _) rfl rfl ?_
  refine E_s (p' := 5) (st' := aI 10 :: _) rfl rfl ?_
  refine E_s (p' := 6) (st' := aI 0 :: _) rfl rfl ?_
  refine E_s (p' := 24) rfl rfl ?_
  refine E_s (p' := 25) (st' := aI 0 :: _) rfl rfl ?_
  refine E_ret rfl rfl ?_
  refine E_s (p' := 50) rfl rfl ?_
  refine E_s (p' := 51) (st' := aI 0 :: _) rfl rfl ?_
  refine E_ret rfl rfl ?_
  refine E_s (p' := 42) rfl rfl ?_
  refine E_s (p' := 45) (L' := [some (aA 10), some (aA 98), some (aI 11)]) rfl rfl ?_
  refine E_s (p' := 12) rfl rfl ?_
  refine E_s (p' := 13) (st' := aI 11 :: _) rfl rfl ?_
  refine E_s (p' := 15) (st' := aI 12 :: _) rfl rfl ?_
  refine E_s (p' := 18) rfl rfl ?_
  refine E_s (p' := 19) (st' := aA 10 :: _) rfl rfl ?_
  refine E_s (p' := 20) (st' := aI 11 :: _) rfl rfl ?_
  refine E_callL (p' := 23) (L0 := [some (aA 10), some (aI 11), none, none]) rfl rfl rfl ?_
  refine E_s (p' := 1) (st' := aI 0 :: _) rfl rfl ?_
  refine E_s (p' := 2) (L' := [some (aA 10), some (aI 11), some (aI 0), none]) rfl rfl ?_
  refine E_s (p' := 3) (st' := aI 0 :: _) rfl rfl ?_
  refine E_s (p' := 4) (L' := [some (aA 10), some (aI 11), some (aI 0), some (aI 0)]) rfl rfl ?_
  refine E_s (p' := 5) (st' := aI 0 :: _) rfl rfl ?_
  refine E_s (p' := 6) (st' := aA 10 :: _) rfl rfl ?_
  refine E_s (p' := 9) (st' := aA 13 :: _) rfl rfl ?_
  refine E_s (p' := 10) (st' := aI 11 :: _) rfl rfl ?_
  refine E_s (p' := 11) (st' := aI 0 :: _) rfl rfl ?_
  refine E_s (p' := 34) rfl rfl ?_
  refine E_s (p' := 35) (st' := aA 10 :: _) rfl rfl ?_
  refine E_s (p' := 36) (st' := aI 11 :: _) rfl rfl ?_
  refine E_callL (p' := 39) (L0 := [some (aA 10), some (aI 11)]) rfl rfl rfl ?_
  refine E_s (p' := 1) (st' := aA 10 :: _) rfl rfl ?_
  refine E_s (p' := 4) (st' := aA 13 :: _) rfl rfl ?_
  refine E_s (p' := 5) (st' := aI 11 :: _) rfl rfl ?_
  refine E_s (p' := 6) (st' := aI 0 :: _) rfl rfl ?_
  refine E_s (p' := 24) rfl rfl ?_
  refine E_s (p' := 25) (st' := aI 0 :: _) rfl rfl ?_
  refine E_ret rfl rfl ?_
  refine E_s (p' := 50) rfl rfl ?_
  refine E_s (p' := 51) (st' := aI 0 :: _) rfl rfl ?_
  refine E_ret rfl rfl ?_
  refine E_s (p' := 42) rfl rfl ?_
  refine E_s (p' := 45) (L' := [some (aA 10), some (aA 98), some (aI 12)]) rfl rfl ?_
  refine E_s (p' := 12) rfl rfl ?_
  refine E_s (p' := 13) (st' := aI 12 :: _) rfl rfl ?_
  refine E_s (p' := 15) (st' := aI 12 :: _) rfl rfl ?_
  refine E_s (p' := 48) rfl rfl ?_
  refine E_s (p' := 49) (st' := aA 10 :: _) rfl rfl ?_
  refine E_s (p' := 52) (st' := aI 0 :: _) rfl rfl ?_
  refine E_ret rfl rfl ?_
  refine E_ret rfl rfl ?_
  refine E_s (p' := 1029) (st' := aA 124 :: _) rfl rfl ?_
  refine E_s (p' := 1030) (st' := aA 0 :: _) rfl rfl ?_
  refine E_s (p' := 1031) (st' := aI 0 :: _) rfl rfl ?_
  refine E_s (p' := 1032) (st' := aI 1 :: _) rfl rfl ?_
  refine E_s (p' := 1033) (st' := aI 1 :: _) rfl rfl ?_
  refine E_scr rfl rfl h1 ?_
  refine E_callL (p' := 1037) (L0 := [some (aA 124), some (aI 3), none, none, none]) rfl rfl rfl ?_
  refine E_s (p' := 1) (st' := aI 3 :: _) rfl rfl ?_
  refine E_callL (p' := 4) (L0 := [some (aI 3)]) rfl rfl rfl ?_
  refine E_s (p' := 1) (st' := aI 3 :: _) rfl rfl ?_
  refine E_s (p' := 2) (st' := aI 0 :: _) rfl rfl ?_
  refine E_s (p' := 3) (st' := aI 3 :: _) rfl rfl ?_
  refine E_callL (p' := 6) (L0 := [some (aI 3), some (aI 0), some (aI 3)]) rfl rfl rfl ?_
  refine E_s (p' := 1) (st' := aI 3 :: _) rfl rfl ?_
  refine E_s (p' := 2) (st' := aI 0 :: _) rfl rfl ?_
  refine E_s (p' := 5) rfl rfl ?_
  refine E_s (p' := 6) (st' := aI 3 :: _) rfl rfl ?_
  refine E_s (p' := 7) (st' := aI 3 :: _) rfl rfl ?_
  refine E_s (p' := 10) rfl rfl ?_
  refine E_s (p' := 11) (st' := aI 1 :: _) rfl rfl ?_
  refine E_s (p' := 15) rfl rfl ?_
  refine E_ret rfl rfl ?_
  refine E_ret rfl rfl ?_
  refine E_s (p' := 10) rfl rfl ?_
  refine E_s (p' := 11) (st' := aA 124 :: _) rfl rfl ?_
  refine E_s (p' := 12) (st' := aI 3 :: _) rfl rfl ?_
  refine E_callL (p' := 15) (L0 := [some (aA 124), some (aI 3), none, none]) rfl rfl rfl ?_
  refine E_s (p' := 1) (st' := aA 124 :: _) rfl rfl ?_
  refine E_s (p' := 2) (st' := aI 3 :: _) rfl rfl ?_
  refine E_s (p' := 3) (st' := aA 124 :: _) rfl rfl ?_
  refine E_s (p' := 6) (st' := aA 148 :: _) rfl rfl ?_
  refine E_callL (p' := 9) (L0 := [some (aA 124), some (aI 3), some (aA 148), none]) rfl rfl rfl ?_
  refine E_s (p' := 1) (st' := aA 124 :: _) rfl rfl ?_
  refine E_s (p' := 2) (st' := aI 3 :: _) rfl rfl ?_
  refine E_callL (p' := 5) (L0 := [some (aA 124), some (aI 3), none, none]) rfl rfl rfl ?_
  refine E_s (p' := 1) (st' := aI 0 :: _) rfl rfl ?_
  refine E_s (p' := 2) (L' := [some (aA 124), some (aI 3), some (aI 0), none]) rfl rfl ?_
  refine mr_loop1 _ 601 0 _ rfl ?_
  refine E_s (p' := 23) (st' := aA 124 :: _) rfl rfl ?_
  refine E_s (p' := 24) (st' := aI 0 :: _) rfl rfl ?_
  refine E_stM (p' := 27) (m' := up2 _ 124 25 0) rfl rfl ?_
  refine E_s (p' := 28) (st' := aA 124 :: _) rfl rfl ?_
  refine E_s (p' := 29) (st' := aI 0 :: _) rfl rfl ?_
  refine E_stM (p' := 32) (m' := up2 _ 124 26 0) rfl rfl ?_
  refine E_s (p' := 33) (st' := aI 0 :: _) rfl rfl ?_
  refine E_s (p' := 34) (L' := [some (aA 124), some (aI 3), some (aI 0), none]) rfl rfl ?_
  refine E_s (p' := 35) (st' := aI 0 :: _) rfl rfl ?_
  refine E_s (p' := 36) (st' := aA 124 :: _) rfl rfl ?_
  refine E_s (p' := 39) (st' := aA 125 :: _) rfl rfl ?_
  refine E_s (p' := 40) (st' := aI 3 :: _) rfl rfl ?_
  refine E_s (p' := 41) (st' := aI 0 :: _) rfl rfl ?_
  refine E_s (p' := 121) rfl rfl ?_
  refine E_s (p' := 122) (st' := aA 124 :: _) rfl rfl ?_
  refine E_s (p' := 123) (st' := aI 0 :: _) rfl rfl ?_
  refine E_stM (p' := 126) (m' := up2 _ 124 24 0) rfl rfl ?_
  refine E_s (p' := 127) (st' := aI 0 :: _) rfl rfl ?_
  refine E_s (p' := 128) (L' := [some (aA 124), some (aI 3), some (aI 0), none]) rfl rfl ?_
  refine mr_loop3 _ 601 0 _ rfl (fun j hj => show (if 0 ≤ j ∧ j < 601 then (0 : Int) else _) = 0 from if_pos ⟨Nat.zero_le _, hj⟩) ?_
  refine E_s (p' := 245) (st' := aA 124 :: _) rfl rfl ?_
  refine E_s (p' := 248) (st' := aI 0 :: _) rfl rfl ?_
  refine E_s (p' := 249) (st' := aA 124 :: _) rfl rfl ?_
  refine E_s (p' := 252) (st' := aI 0 :: _) rfl rfl ?_
  refine E_s (p' := 259) rfl rfl ?_
  refine E_s (p' := 260) (st' := aI 1 :: _) rfl rfl ?_
  refine E_s (p' := 261) (st' := aI 1 :: _) rfl rfl ?_
  refine E_s (p' := 263) (st' := aI 6 :: _) rfl rfl ?_
  refine E_s (p' := 271) rfl rfl ?_
  refine E_s (p' := 272) (st' := aA 124 :: _) rfl rfl ?_
  refine E_s (p' := 275) (st' := aI 0 :: _) rfl rfl ?_
  refine E_s (p' := 282) rfl rfl ?_
  refine E_s (p' := 283) (st' := aI 0 :: _) rfl rfl ?_
  refine E_ret rfl rfl ?_
  refine E_s (p' := 6) rfl rfl ?_
  refine E_s (p' := 7) (st' := aI 0 :: _) rfl rfl ?_
  refine E_s (p' := 8) (L' := [some (aA 124), some (aI 3), some (aA 148), some (aI 0)]) rfl rfl ?_
  refine E_s (p' := 9) (st' := aI 0 :: _) rfl rfl ?_
  refine E_s (p' := 10) (st' := aA 124 :: _) rfl rfl ?_
  refine E_s (p' := 13) (st' := aA 125 :: _) rfl rfl ?_
  refine E_s (p' := 14) (st' := aI 3 :: _) rfl rfl ?_
  refine E_s (p' := 15) (st' := aI 0 :: _) rfl rfl ?_
  refine E_s (p' := 58) rfl rfl ?_
  refine E_ret rfl rfl ?_
  refine E_s (p' := 10) (st' := aI 0 :: _) rfl rfl ?_
  refine E_s (p' := 11) (L' := [some (aA 124), some (aI 3), some (aI 0), none]) rfl rfl ?_
  refine E_s (p' := 12) (st' := aI 0 :: _) rfl rfl ?_
  refine E_s (p' := 14) (st' := aI 12 :: _) rfl rfl ?_
  refine E_s (p' := 17) rfl rfl ?_
  refine E_s (p' := 18) (st' := aA 124 :: _) rfl rfl ?_
  refine E_s (p' := 21) (st' := aA 163 :: _) rfl rfl ?_
  refine E_s (p' := 22) (st' := aI 0 :: _) rfl rfl ?_
  refine E_s (p' := 23) (st' := aI 0 :: _) rfl rfl ?_
  refine E_stM (p' := 24) (m' := up2 _ 163 0 0) rfl rfl ?_
  refine E_s (p' := 25) (st' := aA 124 :: _) rfl rfl ?_
  refine E_s (p' := 28) (st' := aA 164 :: _) rfl rfl ?_
  refine E_s (p' := 29) (st' := aI 0 :: _) rfl rfl ?_
  refine E_s (p' := 30) (st' := aI 1 :: _) rfl rfl ?_
  refine E_stM (p' := 31) (m' := up2 _ 164 0 1) rfl rfl ?_
  refine E_s (p' := 34) (L' := [some (aA 124), some (aI 3), some (aI 1), none]) rfl rfl ?_
  refine E_s (p' := 11) rfl rfl ?_
  refine E_s (p' := 12) (st' := aI 1 :: _) rfl rfl ?_
  refine E_s (p' := 14) (st' := aI 12 :: _) rfl rfl ?_
  refine E_s (p' := 17) rfl rfl ?_
  refine E_s (p' := 18) (st' := aA 124 :: _) rfl rfl ?_
  refine E_s (p' := 21) (st' := aA 163 :: _) rfl rfl ?_
  refine E_s (p' := 22) (st' := aI 1 :: _) rfl rfl ?_
  refine E_s (p' := 23) (st' := aI 0 :: _) rfl rfl ?_
  refine E_stM (p' := 24) (m' := up2 _ 163 1 0) rfl rfl ?_
  refine E_s (p' := 25) (st' := aA 124 :: _) rfl rfl ?_
  refine E_s (p' := 28) (st' := aA 164 :: _) rfl rfl ?_
  refine E_s (p' := 29) (st' := aI 1 :: _) rfl rfl ?_
  refine E_s (p' := 30) (st' := aI 1 :: _) rfl rfl ?_
  refine E_stM (p' := 31) (m' := up2 _ 164 1 1) rfl rfl ?_
  refine E_s (p' := 34) (L' := [some (aA 124), some (aI 3), some (aI 2), none]) rfl rfl ?_
  refine E_s (p' := 11) rfl rfl ?_
  refine E_s (p' := 12) (st' := aI 2 :: _) rfl rfl ?_
  refine E_s (p' := 14) (st' := aI 12 :: _) rfl rfl ?_
  refine E_s (p' := 17) rfl rfl ?_
  refine E_s (p' := 18) (st' := aA 124 :: _) rfl rfl ?_
  refine E_s (p' := 21) (st' := aA 163 :: _) rfl rfl ?_
  refine E_s (p' := 22) (st' := aI 2 :: _) rfl rfl ?_
  refine E_s (p' := 23) (st' := aI 0 :: _) rfl rfl ?_
  refine E_stM (p' := 24) (m' := up2 _ 163 2 0) rfl rfl ?_
  refine E_s (p' := 25) (st' := aA 124 :: _) rfl rfl ?_
  refine E_s (p' := 28) (st' := aA 164 :: _) rfl rfl ?_
  refine E_s (p' := 29) (st' := aI 2 :: _) rfl rfl ?_
  refine E_s (p' := 30) (st' := aI 1 :: _) rfl rfl ?_
  refine E_stM (p' := 31) (m' := up2 _ 164 2 1) rfl rfl ?_
  refine E_s (p' := 34) (L' := [some (aA 124), some (aI 3), some (aI 3), none]) rfl rfl ?_
  refine E_s (p' := 11) rfl rfl ?_
  refine E_s (p' := 12) (st' := aI 3 :: _) rfl rfl ?_
  refine E_s (p' := 14) (st' := aI 12 :: _) rfl rfl ?_
  refine E_s (p' := 17) rfl rfl ?_
  refine E_s (p' := 18) (st' := aA 124 :: _) rfl rfl ?_
  refine E_s (p' := 21) (st' := aA 163 :: _) rfl rfl ?_
  refine E_s (p' := 22) (st' := aI 3 :: _) rfl rfl ?_
  refine E_s (p' := 23) (st' := aI 0 :: _) rfl rfl ?_
  refine E_stM (p' := 24) (m' := up2 _ 163 3 0) rfl rfl ?_
  refine E_s (p' := 25) (st' := aA 124 :: _) rfl rfl ?_
  refine E_s (p' := 28) (st' := aA 164 :: _) rfl rfl ?_
  refine E_s (p' := 29) (st' := aI 3 :: _) rfl rfl ?_
  refine E_s (p' := 30) (st' := aI 1 :: _) rfl rfl ?_
  refine E_stM (p' := 31) (m' := up2 _ 164 3 1) rfl rfl ?_
  refine E_s (p' := 34) (L' := [some (aA 124), some (aI 3), some (aI 4), none]) rfl rfl ?_
  refine E_s (p' := 11) rfl rfl ?_
  refine E_s (p' := 12) (st' := aI 4 :: _) rfl rfl ?_
  refine E_s (p' := 14) (st' := aI 12 :: _) rfl rfl ?_
  refine E_s (p' := 17) rfl rfl ?_
  refine E_s (p' := 18) (st' := aA 124 :: _) rfl rfl ?_
  refine E_s (p' := 21) (st' := aA 163 :: _) rfl rfl ?_
  refine E_s (p' := 22) (st' := aI 4 :: _) rfl rfl ?_
  refine E_s (p' := 23) (st' := aI 0 :: _) rfl rfl ?_
  refine E_stM (p' := 24) (m' := up2 _ 163 4 0) rfl rfl ?_
  refine E_s (p' := 25) (st' := aA 124 :: _) rfl rfl ?_
  refine E_s (p' := 28) (st' := aA 164 :: _) rfl rfl ?_
  refine E_s (p' := 29) (st' := aI 4 :: _) rfl rfl ?_
  refine E_s (p' := 30) (st' := aI 1 :: _) rfl rfl ?_
  refine E_stM (p' := 31) (m' := up2 _ 164 4 1) rfl rfl ?_
  refine E_s (p' := 34) (L' := [some (aA 124), some (aI 3), some (aI 5), none]) rfl rfl ?_
  refine E_s (p' := 11) rfl rfl ?_
  refine E_s (p' := 12) (st' := aI 5 :: _) rfl rfl ?_
  refine E_s (p' := 14) (st' := aI 12 :: _) rfl rfl ?_
  refine E_s (p' := 17) rfl rfl ?_
  refine E_s (p' := 18) (st' := aA 124 :: _) rfl rfl ?_
  refine E_s (p' := 21) (st' := aA 163 :: _) rfl rfl ?_
  refine E_s (p' := 22) (st' := aI 5 :: _) rfl rfl ?_
  refine E_s (p' := 23) (st' := aI 0 :: _) rfl rfl ?_
  refine E_stM (p' := 24) (m' := up2 _ 163 5 0) rfl rfl ?_
  refine E_s (p' := 25) (st' := aA 124 :: _) rfl rfl ?_
  refine E_s (p' := 28) (st' := aA 164 :: _) rfl rfl ?_
  refine E_s (p' := 29) (st' := aI 5 :: _) rfl rfl ?_
  refine E_s (p' := 30) (st' := aI 1 :: _) rfl rfl ?_
  refine E_stM (p' := 31) (m' := up2 _ 164 5 1) rfl rfl ?_
  refine E_s (p' := 34) (L' := [some (aA 124), some (aI 3), some (aI 6), none]) rfl rfl ?_
  refine E_s (p' := 11) rfl rfl ?_
  refine E_s (p' := 12) (st' := aI 6 :: _) rfl rfl ?_
  refine E_s (p' := 14) (st' := aI 12 :: _) rfl rfl ?_
  refine E_s (p' := 17) rfl rfl ?_
  refine E_s (p' := 18) (st' := aA 124 :: _) rfl rfl ?_
  refine E_s (p' := 21) (st' := aA 163 :: _) rfl rfl ?_
  refine E_s (p' := 22) (st' := aI 6 :: _) rfl rfl ?_
  refine E_s (p' := 23) (st' := aI 0 :: _) rfl rfl ?_
  refine E_stM (p' := 24) (m' := up2 _ 163 6 0) rfl rfl ?_
  refine E_s (p' := 25) (st' := aA 124 :: _) rfl rfl ?_
  refine E_s (p' := 28) (st' := aA 164 :: _) rfl rfl ?_
  refine E_s (p' := 29) (st' := aI 6 :: _) rfl rfl ?_
  refine E_s (p' := 30) (st' := aI 1 :: _) rfl rfl ?_
  refine E_stM (p' := 31) (m' := up2 _ 164 6 1) rfl rfl ?_
  refine E_s (p' := 34) (L' := [some (aA 124), some (aI 3), some (aI 7), none]) rfl rfl ?_
  refine E_s (p' := 11) rfl rfl ?_
  refine E_s (p' := 12) (st' := aI 7 :: _) rfl rfl ?_
  refine E_s (p' := 14) (st' := aI 12 :: _) rfl rfl ?_
  refine E_s (p' := 17) rfl rfl ?_
  refine E_s (p' := 18) (st' := aA 124 :: _) rfl rfl ?_
  refine E_s (p' := 21) (st' := aA 163 :: _) rfl rfl ?_
  refine E_s (p' := 22) (st' := aI 7 :: _) rfl rfl ?_
  refine E_s (p' := 23) (st' := aI 0 :: _) rfl rfl ?_
  refine E_stM (p' := 24) (m' := up2 _ 163 7 0) rfl rfl ?_
  refine E_s (p' := 25) (st' := aA 124 :: _) rfl rfl ?_
  refine E_s (p' := 28) (st' := aA 164 :: _) rfl rfl ?_
  refine E_s (p' := 29) (st' := aI 7 :: _) rfl rfl ?_
  refine E_s (p' := 30) (st' := aI 1 :: _) rfl rfl ?_
  refine E_stM (p' := 31) (m' := up2 _ 164 7 1) rfl rfl ?_
  refine E_s (p' := 34) (L' := [some (aA 124), some (aI 3), some (aI 8), none]) rfl rfl ?_
  refine E_s (p' := 11) rfl rfl ?_
  refine E_s (p' := 12) (st' := aI 8 :: _) rfl rfl ?_
  refine E_s (p' := 14) (st' := aI 12 :: _) rfl rfl ?_
  refine E_s (p' := 17) rfl rfl ?_
  refine E_s (p' := 18) (st' := aA 124 :: _) rfl rfl ?_
  refine E_s (p' := 21) (st' := aA 163 :: _) rfl rfl ?_
  refine E_s (p' := 22) (st' := aI 8 :: _) rfl rfl ?_
  refine E_s (p' := 23) (st' := aI 0 :: _) rfl rfl ?_
  refine E_stM (p' := 24) (m' := up2 _ 163 8 0) rfl rfl ?_
  refine E_s (p' := 25) (st' := aA 124 :: _) rfl rfl ?_
  refine E_s (p' := 28) (st' := aA 164 :: _) rfl rfl ?_
  refine E_s (p' := 29) (st' := aI 8 :: _) rfl rfl ?_
  refine E_s (p' := 30) (st' := aI 1 :: _) rfl rfl ?_
  refine E_stM (p' := 31) (m' := up2 _ 164 8 1) rfl rfl ?_
  refine E_s (p' := 34) (L' := [some (aA 124), some (aI 3), some (aI 9), none]) rfl rfl ?_
  refine E_s (p' := 11) rfl rfl ?_
  refine E_s (p' := 12) (st' := aI 9 :: _) rfl rfl ?_
  refine E_s (p' := 14) (st' := aI 12 :: _) rfl rfl ?_
  refine E_s (p' := 17) rfl rfl ?_
  refine E_s (p' := 18) (st' := aA 124 :: _) rfl rfl ?_
  refine E_s (p' := 21) (st' := aA 163 :: _) rfl rfl ?_
  refine E_s (p' := 22) (st' := aI 9 :: _) rfl rfl ?_
  refine E_s (p' := 23) (st' := aI 0 :: _) rfl rfl ?_
  refine E_stM (p' := 24) (m' := up2 _ 163 9 0) rfl rfl ?_
  refine E_s (p' := 25) (st' := aA 124 :: _) rfl rfl ?_
  refine E_s (p' := 28) (st' := aA 164 :: _) rfl rfl ?_
  refine E_s (p' := 29) (st' := aI 9 :: _) rfl rfl ?_
  refine E_s (p' := 30) (st' := aI 1 :: _) rfl rfl ?_
  refine E_stM (p' := 31) (m' := up2 _ 164 9 1) rfl rfl ?_
  refine E_s (p' := 34) (L' := [some (aA 124), some (aI 3), some (aI 10), none]) rfl rfl ?_
  refine E_s (p' := 11) rfl rfl ?_
  refine E_s (p' := 12) (st' := aI 10 :: _) rfl rfl ?_
  refine E_s (p' := 14) (st' := aI 12 :: _) rfl rfl ?_
  refine E_s (p' := 17) rfl rfl ?_
  refine E_s (p' := 18) (st' := aA 124 :: _) rfl rfl ?_
  refine E_s (p' := 21) (st' := aA 163 :: _) rfl rfl ?_
  refine E_s (p' := 22) (st' := aI 10 :: _) rfl rfl ?_
  refine E_s (p' := 23) (st' := aI 0 :: _) rfl rfl ?_
  refine E_stM (p' := 24) (m' := up2 _ 163 10 0) rfl rfl ?_
  refine E_s (p' := 25) (st' := aA 124 :: _) rfl rfl ?_
  refine E_s (p' := 28) (st' := aA 164 :: _) rfl rfl ?_
  refine E_s (p' := 29) (st' := aI 10 :: _) rfl rfl ?_
  refine E_s (p' := 30) (st' := aI 1 :: _) rfl rfl ?_
  refine E_stM (p' := 31) (m' := up2 _ 164 10 1) rfl rfl ?_
  refine E_s (p' := 34) (L' := [some (aA 124), some (aI 3), some (aI 11), none]) rfl rfl ?_
  refine E_s (p' := 11) rfl rfl ?_
  refine E_s (p' := 12) (st' := aI 11 :: _) rfl rfl ?_
  refine E_s (p' := 14) (st' := aI 12 :: _) rfl rfl ?_
  refine E_s (p' := 17) rfl rfl ?_
  refine E_s (p' := 18) (st' := aA 124 :: _) rfl rfl ?_
  refine E_s (p' := 21) (st' := aA 163 :: _) rfl rfl ?_
  refine E_s (p' := 22) (st' := aI 11 :: _) rfl rfl ?_
  refine E_s (p' := 23) (st' := aI 0 :: _) rfl rfl ?_
  refine E_stM (p' := 24) (m' := up2 _ 163 11 0) rfl rfl ?_
  refine E_s (p' := 25) (st' := aA 124 :: _) rfl rfl ?_
  refine E_s (p' := 28) (st' := aA 164 :: _) rfl rfl ?_
  refine E_s (p' := 29) (st' := aI 11 :: _) rfl rfl ?_
  refine E_s (p' := 30) (st' := aI 1 :: _) rfl rfl ?_
  refine E_stM (p' := 31) (m' := up2 _ 164 11 1) rfl rfl ?_
  refine E_s (p' := 34) (L' := [some (aA 124), some (aI 3), some (aI 12), none]) rfl rfl ?_
  refine E_s (p' := 11) rfl rfl ?_
  refine E_s (p' := 12) (st' := aI 12 :: _) rfl rfl ?_
  refine E_s (p' := 14) (st' := aI 12 :: _) rfl rfl ?_
  refine E_s (p' := 37) rfl rfl ?_
  refine E_s (p' := 38) (st' := aI 0 :: _) rfl rfl ?_
  refine E_s (p' := 39) (L' := [some (aA 124), some (aI 3), some (aI 0), none]) rfl rfl ?_
  refine E_s (p' := 40) (st' := aI 0 :: _) rfl rfl ?_
  refine E_s (p' := 41) (st' := aA 124 :: _) rfl rfl ?_
  refine E_s (p' := 44) (st' := aA 125 :: _) rfl rfl ?_
  refine E_s (p' := 45) (st' := aI 3 :: _) rfl rfl ?_
  refine E_s (p' := 46) (st' := aI 0 :: _) rfl rfl ?_
  refine E_s (p' := 131) rfl rfl ?_
  refine E_ret rfl rfl ?_
  refine E_s (p' := 16) (st' := aA 124 :: _) rfl rfl ?_
  refine E_s (p' := 17) (st' := aI 0 :: _) rfl rfl ?_
  refine E_stM (p' := 20) (m' := up2 _ 124 50 0) rfl rfl ?_
  refine E_s (p' := 21) (st' := aI 0 :: _) rfl rfl ?_
  refine E_s (p' := 22) (L' := [some (aA 124), some (aI 3), some (aI 0), none, none]) rfl rfl ?_
  refine E_s (p' := 23) (st' := aI 0 :: _) rfl rfl ?_
  refine E_s (p' := 25) (st' := aI 12 :: _) rfl rfl ?_
  refine E_s (p' := 28) rfl rfl ?_
  refine E_s (p' := 29) (st' := aA 124 :: _) rfl rfl ?_
  refine E_s (p' := 32) (st' := aA 163 :: _) rfl rfl ?_
  refine E_s (p' := 33) (st' := aI 0 :: _) rfl rfl ?_
  refine E_s (p' := 34) (st' := aI 0 :: _) rfl rfl ?_
  refine E_s (p' := 208) rfl rfl ?_
  refine E_s (p' := 211) (L' := [some (aA 124), some (aI 3), some (aI 1), none, none]) rfl rfl ?_
  refine E_s (p' := 22) rfl rfl ?_
  refine E_s (p' := 23) (st' := aI 1 :: _) rfl rfl ?_
  refine E_s (p' := 25) (st' := aI 12 :: _) rfl rfl ?_
  refine E_s (p' := 28) rfl rfl ?_
  refine E_s (p' := 29) (st' := aA 124 :: _) rfl rfl ?_
  refine E_s (p' := 32) (st' := aA 163 :: _) rfl rfl ?_
  refine E_s (p' := 33) (st' := aI 1 :: _) rfl rfl ?_
  refine E_s (p' := 34) (st' := aI 0 :: _) rfl rfl ?_
  refine E_s (p' := 208) rfl rfl ?_
  refine E_s (p' := 211) (L' := [some (aA 124), some (aI 3), some (aI 2), none, none]) rfl rfl ?_
  refine E_s (p' := 22) rfl rfl ?_
  refine E_s (p' := 23) (st' := aI 2 :: _) rfl rfl ?_
  refine E_s (p' := 25) (st' := aI 12 :: _) rfl rfl ?_
  refine E_s (p' := 28) rfl rfl ?_
  refine E_s (p' := 29) (st' := aA 124 :: _) rfl rfl ?_
  refine E_s (p' := 32) (st' := aA 163 :: _) rfl rfl ?_
  refine E_s (p' := 33) (st' := aI 2 :: _) rfl rfl ?_
  refine E_s (p' := 34) (st' := aI 0 :: _) rfl rfl ?_
  refine E_s (p' := 208) rfl rfl ?_
  refine E_s (p' := 211) (L' := [some (aA 124), some (aI 3), some (aI 3), none, none]) rfl rfl ?_
  refine E_s (p' := 22) rfl rfl ?_
  refine E_s (p' := 23) (st' := aI 3 :: _) rfl rfl ?_
  refine E_s (p' := 25) (st' := aI 12 :: _) rfl rfl ?_
  refine E_s (p' := 28) rfl rfl ?_
  refine E_s (p' := 29) (st' := aA 124 :: _) rfl rfl ?_
  refine E_s (p' := 32) (st' := aA 163 :: _) rfl rfl ?_
  refine E_s (p' := 33) (st' := aI 3 :: _) rfl rfl ?_
  refine E_s (p' := 34) (st' := aI 0 :: _) rfl rfl ?_
  refine E_s (p' := 208) rfl rfl ?_
  refine E_s (p' := 211) (L' := [some (aA 124), some (aI 3), some (aI 4), none, none]) rfl rfl ?_
  refine E_s (p' := 22) rfl rfl ?_
  refine E_s (p' := 23) (st' := aI 4 :: _) rfl rfl ?_
  refine E_s (p' := 25) (st' := aI 12 :: _) rfl rfl ?_
  refine E_s (p' := 28) rfl rfl ?_
  refine E_s (p' := 29) (st' := aA 124 :: _) rfl rfl ?_
  refine E_s (p' := 32) (st' := aA 163 :: _) rfl rfl ?_
  refine E_s (p' := 33) (st' := aI 4 :: _) rfl rfl ?_
  refine E_s (p' := 34) (st' := aI 0 :: _) rfl rfl ?_
  refine E_s (p' := 208) rfl rfl ?_
  refine E_s (p' := 211) (L' := [some (aA 124), some (aI 3), some (aI 5), none, none]) rfl rfl ?_
  refine E_s (p' := 22) rfl rfl ?_
  refine E_s (p' := 23) (st' := aI 5 :: _) rfl rfl ?_
  refine E_s (p' := 25) (st' := aI 12 :: _) rfl rfl ?_
  refine E_s (p' := 28) rfl rfl ?_
  refine E_s (p' := 29) (st' := aA 124 :: _) rfl rfl ?_
  refine E_s (p' := 32) (st' := aA 163 :: _) rfl rfl ?_
  refine E_s (p' := 33) (st' := aI 5 :: _) rfl rfl ?_
  refine E_s (p' := 34) (st' := aI 0 :: _) rfl rfl ?_
  refine E_s (p' := 208) rfl rfl ?_
  refine E_s (p' := 211) (L' := [some (aA 124), some (aI 3), some (aI 6), none, none]) rfl rfl ?_
  refine E_s (p' := 22) rfl rfl ?_
  refine E_s (p' := 23) (st' := aI 6 :: _) rfl rfl ?_
  refine E_s (p' := 25) (st' := aI 12 :: _) rfl rfl ?_
  refine E_s (p' := 28) rfl rfl ?_
  refine E_s (p' := 29) (st' := aA 124 :: _) rfl rfl ?_
  refine E_s (p' := 32) (st' := aA 163 :: _) rfl rfl ?_
  refine E_s (p' := 33) (st' := aI 6 :: _) rfl rfl ?_
  refine E_s (p' := 34) (st' := aI 0 :: _) rfl rfl ?_
  refine E_s (p' := 208) rfl rfl ?_
  refine E_s (p' := 211) (L' := [some (aA 124), some (aI 3), some (aI 7), none, none]) rfl rfl ?_
  refine E_s (p' := 22) rfl rfl ?_
  refine E_s (p' := 23) (st' := aI 7 :: _) rfl rfl ?_
  refine E_s (p' := 25) (st' := aI 12 :: _) rfl rfl ?_
  refine E_s (p' := 28) rfl rfl ?_
  refine E_s (p' := 29) (st' := aA 124 :: _) rfl rfl ?_
  refine E_s (p' := 32) (st' := aA 163 :: _) rfl rfl ?_
  refine E_s (p' := 33) (st' := aI 7 :: _) rfl rfl ?_
  refine E_s (p' := 34) (st' := aI 0 :: _) rfl rfl ?_
  refine E_s (p' := 208) rfl rfl ?_
  refine E_s (p' := 211) (L' := [some (aA 124), some (aI 3), some (aI 8), none, none]) rfl rfl ?_
  refine E_s (p' := 22) rfl rfl ?_
  refine E_s (p' := 23) (st' := aI 8 :: _) rfl rfl ?_
  refine E_s (p' := 25) (st' := aI 12 :: _) rfl rfl ?_
  refine E_s (p' := 28) rfl rfl ?_
  refine E_s (p' := 29) (st' := aA 124 :: _) rfl rfl ?_
  refine E_s (p' := 32) (st' := aA 163 :: _) rfl rfl ?_
  refine E_s (p' := 33) (st' := aI 8 :: _) rfl rfl ?_
  refine E_s (p' := 34) (st' := aI 0 :: _) rfl rfl ?_
  refine E_s (p' := 208) rfl rfl ?_
  refine E_s (p' := 211) (L' := [some (aA 124), some (aI 3), some (aI 9), none, none]) rfl rfl ?_
  refine E_s (p' := 22) rfl rfl ?_
  refine E_s (p' := 23) (st' := aI 9 :: _) rfl rfl ?_
  refine E_s (p' := 25) (st' := aI 12 :: _) rfl rfl ?_
  refine E_s (p' := 28) rfl rfl ?_
  refine E_s (p' := 29) (st' := aA 124 :: _) rfl rfl ?_
  refine E_s (p' := 32) (st' := aA 163 :: _) rfl rfl ?_
  refine E_s (p' := 33) (st' := aI 9 :: _) rfl rfl ?_
  refine E_s (p' := 34) (st' := aI 0 :: _) rfl rfl ?_
  refine E_s (p' := 208) rfl rfl ?_
  refine E_s (p' := 211) (L' := [some (aA 124), some (aI 3), some (aI 10), none, none]) rfl rfl ?_
  refine E_s (p' := 22) rfl rfl ?_
  refine E_s (p' := 23) (st' := aI 10 :: _) rfl rfl ?_
  refine E_s (p' := 25) (st' := aI 12 :: _) rfl rfl ?_
  refine E_s (p' := 28) rfl rfl ?_
  refine E_s (p' := 29) (st' := aA 124 :: _) rfl rfl ?_
  refine E_s (p' := 32) (st' := aA 163 :: _) rfl rfl ?_
  refine E_s (p' := 33) (st' := aI 10 :: _) rfl rfl ?_
  refine E_s (p' := 34) (st' := aI 0 :: _) rfl rfl ?_
  refine E_s (p' := 208) rfl rfl ?_
  refine E_s (p' := 211) (L' := [some (aA 124), some (aI 3), some (aI 11), none, none]) rfl rfl ?_
  refine E_s (p' := 22) rfl rfl ?_
  refine E_s (p' := 23) (st' := aI 11 :: _) rfl rfl ?_
  refine E_s (p' := 25) (st' := aI 12 :: _) rfl rfl ?_
  refine E_s (p' := 28) rfl rfl ?_
  refine E_s (p' := 29) (st' := aA 124 :: _) rfl rfl ?_
  refine E_s (p' := 32) (st' := aA 163 :: _) rfl rfl ?_
  refine E_s (p' := 33) (st' := aI 11 :: _) rfl rfl ?_
  refine E_s (p' := 34) (st' := aI 0 :: _) rfl rfl ?_
  refine E_s (p' := 208) rfl rfl ?_
  refine E_s (p' := 211) (L' := [some (aA 124), some (aI 3), some (aI 12), none, none]) rfl rfl ?_
  refine E_s (p' := 22) rfl rfl ?_
  refine E_s (p' := 23) (st' := aI 12 :: _) rfl rfl ?_
  refine E_s (p' := 25) (st' := aI 12 :: _) rfl rfl ?_
  refine E_s (p' := 214) rfl rfl ?_
  refine E_s (p' := 215) (st' := aA 124 :: _) rfl rfl ?_
  refine E_s (p' := 218) (st' := aI 0 :: _) rfl rfl ?_
  refine E_ret rfl rfl ?_
  refine E_s (p' := 1174) rfl rfl ?_
  refine E_s (p' := 1177) (L' := [some (aA 0), some (aA 1), some (aA 124), some (aI 6)]) rfl rfl ?_
  refine E_s (p' := 18) rfl rfl ?_
  refine E_s (p' := 19) (st' := aI 6 :: _) rfl rfl ?_
  refine E_s (p' := 20) (st' := aA 0 :: _) rfl rfl ?_
  refine E_s (p' := 21) (st' := aI 6 :: _) rfl rfl ?_
  refine E_s (p' := 23) (st' := aI 6 :: _) rfl rfl ?_
  refine E_s (p' := 24) (st' := aI 0 :: _) rfl rfl ?_
  refine E_s (p' := 1180) rfl rfl ?_
  refine E_s (p' := 1181) (st' := aI 1 :: _) rfl rfl ?_
  exact E_ret rfl rfl ⟨rfl, rfl⟩
set_option maxRecDepth 100000 in
set_option maxHeartbeats 40000000 in
theorem pc_23_o (xs : Nat → Int) {z a1 a2 a3 a4 a5 : Int} (hz : b32 (fun a b => a &&& b) z 31 = 23) (h0 : xs 0 = z) (h1 : xs 1 = a1) (h2 : xs 2 = a2) (h3 : xs 3 = a3) (h4 : xs 4 = a4) (h5 : xs 5 = a5) (hr : a1 < 0 ∨ 3 < a1) : E 0 18 LL [] (s0 xs 6) PQ := by
  refine E_s (p' := 19) (st' := aI 0 :: _) rfl rfl ?_
  refine E_s (p' := 20) (st' := aA 0 :: _) rfl rfl ?_
  refine E_s (p' := 21) (st' := aI 6 :: _) rfl rfl ?_
  refine E_s (p' := 23) (st' := aI 6 :: _) rfl rfl ?_
  refine E_s (p' := 24) (st' := aI 0 :: _) rfl rfl ?_
  refine E_s (p' := 27) rfl rfl ?_
  refine E_s (p' := 28) (st' := aA 0 :: _) rfl rfl ?_
  refine E_s (p' := 29) (st' := aI 0 :: _) rfl rfl ?_
  refine E_scr rfl rfl h0 ?_
  refine E_s (p' := 32) (st' := aI 31 :: _) rfl rfl ?_
  refine E_s (p' := 33) rfl rfl ?_
  refine E_val hz ?_
  refine E_s (p' := 1019) rfl rfl ?_
  refine E_s (p' := 1020) (st' := aA 1 :: _) rfl rfl ?_
  refine E_s (p' := 1021) (st' := aA 0 :: _) rfl rfl ?_
  refine E_s (p' := 1022) (st' := aI 0 :: _) rfl rfl ?_
  refine E_s (p' := 1023) (st' := aI 1 :: _) rfl rfl ?_
  refine E_s (p' := 1024) (st' := aI 1 :: _) rfl rfl ?_
  refine E_scr rfl rfl h1 ?_
  refine E_callL (p' := 1028) (L0 := [some (aA 1), some (aI a1), none]) rfl rfl rfl ?_
  refine E_s (p' := 1) (st' := aA 1 :: _) rfl rfl ?_
  refine E_s (p' := 2) rfl rfl ?_
  refine E_callL (p' := 5) (L0 := [some (aA 1), some (aI a1), none]) rfl rfl rfl ?_
  refine E_s (p' := 1) (st' := aA 1 :: _) rfl rfl ?_
  refine E_s (p' := 2) rfl rfl ?_
  refine E_callL (p' := 5) (L0 := [some (aA 1), some (aI a1)]) rfl rfl rfl ?_
  refine E_s (p' := 1) rfl rfl ?_
  refine E_if_lt rfl (by decide) (fun _ => ?_) (fun _ => ?_)
  · refine E_s (p' := 19) rfl rfl ?_
    refine E_ret rfl rfl ?_
    refine E_s (p' := 6) (L' := [some (aA 1), some (aI a1), some aN]) rfl rfl ?_
    refine E_s (p' := 7) rfl rfl ?_
    refine E_s (p' := 15) rfl rfl ?_
    refine E_s (p' := 16) rfl rfl ?_
    refine E_ret rfl rfl ?_
    refine E_s (p' := 6) (L' := [some (aA 1), some (aI a1), some aN]) rfl rfl ?_
    refine E_s (p' := 7) rfl rfl ?_
    refine E_s (p' := 10) rfl rfl ?_
    refine E_s (p' := 12) (st' := aI (-2) :: _) rfl rfl ?_
    refine E_s (p' := 23) rfl rfl ?_
    refine E_ret rfl rfl ?_
    refine E_s (p' := 1029) (st' := aA 124 :: _) rfl rfl ?_
    refine E_s (p' := 1030) (st' := aA 0 :: _) rfl rfl ?_
    refine E_s (p' := 1031) (st' := aI 0 :: _) rfl rfl ?_
    refine E_s (p' := 1032) (st' := aI 1 :: _) rfl rfl ?_
    refine E_s (p' := 1033) (st' := aI 1 :: _) rfl rfl ?_
    refine E_scr rfl rfl h1 ?_
    refine E_callL (p' := 1037) (L0 := [some (aA 124), some (aI a1), none, none, none]) rfl rfl rfl ?_
    refine E_s (p' := 1) rfl rfl ?_
    refine E_callL (p' := 4) (L0 := [some (aI a1)]) rfl rfl rfl ?_
    refine E_s (p' := 1) rfl rfl ?_
    refine E_s (p' := 2) (st' := aI 0 :: _) rfl rfl ?_
    refine E_s (p' := 3) (st' := aI 3 :: _) rfl rfl ?_
    refine E_callL (p' := 6) (L0 := [some (aI a1), some (aI 0), some (aI 3)]) rfl rfl rfl ?_
    refine E_s (p' := 1) rfl rfl ?_
    refine E_s (p' := 2) (st' := aI 0 :: _) rfl rfl ?_
    refine E_icmp_lt (y := 0) rfl (by decide) (fun _ => ?_) (fun q => absurd q (by omega))
    refine E_s (p' := 15) (st' := aI 0 :: _) rfl rfl ?_
    refine E_ret rfl rfl ?_
    refine E_ret rfl rfl ?_
    refine E_s (p' := 7) rfl rfl ?_
    refine E_s (p' := 9) (st' := aI (-2) :: _) rfl rfl ?_
    refine E_ret rfl rfl ?_
    refine E_s (p' := 1174) rfl rfl ?_
    refine E_s (p' := 1177) (L' := [some (aA 0), some (aA 1), some (aA 124), some (aI 6)]) rfl rfl ?_
    refine E_s (p' := 18) rfl rfl ?_
    refine E_s (p' := 19) (st' := aI 6 :: _) rfl rfl ?_
    refine E_s (p' := 20) (st' := aA 0 :: _) rfl rfl ?_
    refine E_s (p' := 21) (st' := aI 6 :: _) rfl rfl ?_
    refine E_s (p' := 23) (st' := aI 6 :: _) rfl rfl ?_
    refine E_s (p' := 24) (st' := aI 0 :: _) rfl rfl ?_
    refine E_s (p' := 1180) rfl rfl ?_
    refine E_s (p' := 1181) (st' := aI 1 :: _) rfl rfl ?_
    exact E_ret rfl rfl ⟨rfl, rfl⟩
  · refine E_s (p' := 5) rfl rfl ?_
    refine E_s (p' := 6) (st' := aI 4 :: _) rfl rfl ?_
    refine E_icmp_ge (y := 4) rfl (by decide) (fun _ => ?_) (fun q => absurd q (by omega))
    refine E_s (p' := 19) rfl rfl ?_
    refine E_ret rfl rfl ?_
    refine E_s (p' := 6) (L' := [some (aA 1), some (aI a1), some aN]) rfl rfl ?_
    refine E_s (p' := 7) rfl rfl ?_
    refine E_s (p' := 15) rfl rfl ?_
    refine E_s (p' := 16) rfl rfl ?_
    refine E_ret rfl rfl ?_
    refine E_s (p' := 6) (L' := [some (aA 1), some (aI a1), some aN]) rfl rfl ?_
    refine E_s (p' := 7) rfl rfl ?_
    refine E_s (p' := 10) rfl rfl ?_
    refine E_s (p' := 12) (st' := aI (-2) :: _) rfl rfl ?_
    refine E_s (p' := 23) rfl rfl ?_
    refine E_ret rfl rfl ?_
    refine E_s (p' := 1029) (st' := aA 124 :: _) rfl rfl ?_
    refine E_s (p' := 1030) (st' := aA 0 :: _) rfl rfl ?_
    refine E_s (p' := 1031) (st' := aI 0 :: _) rfl rfl ?_
    refine E_s (p' := 1032) (st' := aI 1 :: _) rfl rfl ?_
    refine E_s (p' := 1033) (st' := aI 1 :: _) rfl rfl ?_
    refine E_scr rfl rfl h1 ?_
    refine E_callL (p' := 1037) (L0 := [some (aA 124), some (aI a1), none, none, none]) rfl rfl rfl ?_
    refine E_s (p' := 1) rfl rfl ?_
    refine E_callL (p' := 4) (L0 := [some (aI a1)]) rfl rfl rfl ?_
    refine E_s (p' := 1) rfl rfl ?_
    refine E_s (p' := 2) (st' := aI 0 :: _) rfl rfl ?_
    refine E_s (p' := 3) (st' := aI 3 :: _) rfl rfl ?_
    refine E_callL (p' := 6) (L0 := [some (aI a1), some (aI 0), some (aI 3)]) rfl rfl rfl ?_
    refine E_s (p' := 1) rfl rfl ?_
    refine E_s (p' := 2) (st' := aI 0 :: _) rfl rfl ?_
    refine E_icmp_lt (y := 0) rfl (by decide) (fun q => absurd q (by omega)) (fun _ => ?_)
    refine E_s (p' := 6) rfl rfl ?_
    refine E_s (p' := 7) (st' := aI 3 :: _) rfl rfl ?_
    refine E_icmp_gt (y := 3) rfl (by decide) (fun _ => ?_) (fun q => absurd q (by omega))
    refine E_s (p' := 15) (st' := aI 0 :: _) rfl rfl ?_
    refine E_ret rfl rfl ?_
    refine E_ret rfl rfl ?_
    refine E_s (p' := 7) rfl rfl ?_
    refine E_s (p' := 9) (st' := aI (-2) :: _) rfl rfl ?_
    refine E_ret rfl rfl ?_
    refine E_s (p' := 1174) rfl rfl ?_
    refine E_s (p' := 1177) (L' := [some (aA 0), some (aA 1), some (aA 124), some (aI 6)]) rfl rfl ?_
    refine E_s (p' := 18) rfl rfl ?_
    refine E_s (p' := 19) (st' := aI 6 :: _) rfl rfl ?_
    refine E_s (p' := 20) (st' := aA 0 :: _) rfl rfl ?_
    refine E_s (p' := 21) (st' := aI 6 :: _) rfl rfl ?_
    refine E_s (p' := 23) (st' := aI 6 :: _) rfl rfl ?_
    refine E_s (p' := 24) (st' := aI 0 :: _) rfl rfl ?_
    refine E_s (p' := 1180) rfl rfl ?_
    refine E_s (p' := 1181) (st' := aI 1 :: _) rfl rfl ?_
    exact E_ret rfl rfl ⟨rfl, rfl⟩
set_option maxRecDepth 100000 in
set_option maxHeartbeats 40000000 in
theorem pc_24 (xs : Nat → Int) {z a1 a2 a3 a4 a5 : Int} (hz : b32 (fun a b => a &&& b) z 31 = 24) (h0 : xs 0 = z) (h1 : xs 1 = a1) (h2 : xs 2 = a2) (h3 : xs 3 = a3) (h4 : xs 4 = a4) (h5 : xs 5 = a5) : E 0 18 LL [] (s0 xs 6) PQ := by
  refine E_s (p' := 19) (st' := aI 0 :: _) rfl rfl ?_
  refine E_s (p' := 20) (st' := aA 0 :: _) rfl rfl ?_
  refine E_s (p' := 21) (st' := aI 6 :: _) rfl rfl ?_
  refine E_s (p' := 23) (st' := aI 6 :: _) rfl rfl ?_
  refine E_s (p' := 24) (st' := aI 0 :: _) rfl rfl ?_
  refine E_s (p' := 27) rfl rfl ?_
  refine E_s (p' := 28) (st' := aA 0 :: _) rfl rfl ?_
  refine E_s (p' := 29) (st' := aI 0 :: _) rfl rfl ?_
  refine E_scr rfl rfl h0 ?_
  refine E_s (p' := 32) (st' := aI 31 :: _) rfl rfl ?_
  refine E_s (p' := 33) rfl rfl ?_
  refine E_val hz ?_
  refine E_s (p' := 1042) rfl rfl ?_
  refine E_s (p' := 1043) (st' := aA 1 :: _) rfl rfl ?_
  refine E_s (p' := 1044) (st' := aA 0 :: _) rfl rfl ?_
  refine E_s (p' := 1045) (st' := aI 0 :: _) rfl rfl ?_
  refine E_s (p' := 1046) (st' := aI 1 :: _) rfl rfl ?_
  refine E_s (p' := 1047) (st' := aI 1 :: _) rfl rfl ?_
  refine E_scr rfl rfl h1 ?_
  refine E_s (p' := 1049) (st' := aA 0 :: _) rfl rfl ?_
  refine E_s (p' := 1050) (st' := aI 0 :: _) rfl rfl ?_
  refine E_s (p' := 1051) (st' := aI 2 :: _) rfl rfl ?_
  refine E_s (p' := 1052) (st' := aI 2 :: _) rfl rfl ?_
  refine E_scr rfl rfl h2 ?_
  refine E_callL (p' := 1056) (L0 := [some (aA 1), some (aI a1), some (aI a2)]) rfl rfl rfl ?_
  refine E_s (p' := 1) rfl rfl ?_
  refine E_if_lt rfl (by decide) (fun _ => ?_) (fun _ => ?_)
  · refine E_s (p' := 16) (st' := aI (-1) :: _) rfl rfl ?_
    refine E_ret rfl rfl ?_
    refine E_s (p' := 1057) (st' := aA 124 :: _) rfl rfl ?_
    refine E_s (p' := 1058) (st' := aA 0 :: _) rfl rfl ?_
    refine E_s (p' := 1059) (st' := aI 0 :: _) rfl rfl ?_
    refine E_s (p' := 1060) (st' := aI 1 :: _) rfl rfl ?_
    refine E_s (p' := 1061) (st' := aI 1 :: _) rfl rfl ?_
    refine E_scr rfl rfl h1 ?_
    refine E_s (p' := 1063) (st' := aA 0 :: _) rfl rfl ?_
    refine E_s (p' := 1064) (st' := aI 0 :: _) rfl rfl ?_
    refine E_s (p' := 1065) (st' := aI 2 :: _) rfl rfl ?_
    refine E_s (p' := 1066) (st' := aI 2 :: _) rfl rfl ?_
    refine E_scr rfl rfl h2 ?_
    refine E_callL (p' := 1070) (L0 := [some (aA 124), some (aI a1), some (aI a2)]) rfl rfl rfl ?_
    refine E_s (p' := 1) rfl rfl ?_
    refine E_s (p' := 2) (st' := aI 0 :: _) rfl rfl ?_
    refine E_s (p' := 3) (st' := aA 124 :: _) rfl rfl ?_
    refine E_s (p' := 6) (st' := aI 0 :: _) rfl rfl ?_
    refine E_s (p' := 7) (st' := aI 1 :: _) rfl rfl ?_
    refine E_isubv (v := -1) rfl (show (0 : Int) - 1 = -1 from rfl) (by decide) ?_
    refine E_callL (p' := 11) (L0 := [some (aI a1), some (aI 0), some (aI (-1))]) rfl rfl rfl ?_
    refine E_s (p' := 1) rfl rfl ?_
    refine E_s (p' := 2) (st' := aI 0 :: _) rfl rfl ?_
    refine E_icmp_lt (y := 0) rfl (by decide) (fun _ => ?_) (fun q => absurd q (by omega))
    refine E_s (p' := 15) (st' := aI 0 :: _) rfl rfl ?_
    refine E_ret rfl rfl ?_
    refine E_s (p' := 14) rfl rfl ?_
    refine E_s (p' := 15) (st' := aI (-1) :: _) rfl rfl ?_
    refine E_ret rfl rfl ?_
    refine E_s (p' := 1174) rfl rfl ?_
    refine E_s (p' := 1177) (L' := [some (aA 0), some (aA 1), some (aA 124), some (aI 6)]) rfl rfl ?_
    refine E_s (p' := 18) rfl rfl ?_
    refine E_s (p' := 19) (st' := aI 6 :: _) rfl rfl ?_
    refine E_s (p' := 20) (st' := aA 0 :: _) rfl rfl ?_
    refine E_s (p' := 21) (st' := aI 6 :: _) rfl rfl ?_
    refine E_s (p' := 23) (st' := aI 6 :: _) rfl rfl ?_
    refine E_s (p' := 24) (st' := aI 0 :: _) rfl rfl ?_
    refine E_s (p' := 1180) rfl rfl ?_
    refine E_s (p' := 1181) (st' := aI 1 :: _) rfl rfl ?_
    exact E_ret rfl rfl ⟨rfl, rfl⟩
  · refine E_s (p' := 5) rfl rfl ?_
    refine E_s (p' := 6) (st' := aA 1 :: _) rfl rfl ?_
    refine E_s (p' := 9) (st' := aA 10 :: _) rfl rfl ?_
    refine E_s (p' := 12) (st' := aI 0 :: _) rfl rfl ?_
    refine E_icmp_lt (y := 0) rfl (by decide) (fun q => absurd q (by omega)) (fun _ => ?_)
    refine E_s (p' := 16) (st' := aI (-1) :: _) rfl rfl ?_
    refine E_ret rfl rfl ?_
    refine E_s (p' := 1057) (st' := aA 124 :: _) rfl rfl ?_
    refine E_s (p' := 1058) (st' := aA 0 :: _) rfl rfl ?_
    refine E_s (p' := 1059) (st' := aI 0 :: _) rfl rfl ?_
    refine E_s (p' := 1060) (st' := aI 1 :: _) rfl rfl ?_
    refine E_s (p' := 1061) (st' := aI 1 :: _) rfl rfl ?_
    refine E_scr rfl rfl h1 ?_
    refine E_s (p' := 1063) (st' := aA 0 :: _) rfl rfl ?_
    refine E_s (p' := 1064) (st' := aI 0 :: _) rfl rfl ?_
    refine E_s (p' := 1065) (st' := aI 2 :: _) rfl rfl ?_
    refine E_s (p' := 1066) (st' := aI 2 :: _) rfl rfl ?_
    refine E_scr rfl rfl h2 ?_
    refine E_callL (p' := 1070) (L0 := [some (aA 124), some (aI a1), some (aI a2)]) rfl rfl rfl ?_
    refine E_s (p' := 1) rfl rfl ?_
    refine E_s (p' := 2) (st' := aI 0 :: _) rfl rfl ?_
    refine E_s (p' := 3) (st' := aA 124 :: _) rfl rfl ?_
    refine E_s (p' := 6) (st' := aI 0 :: _) rfl rfl ?_
    refine E_s (p' := 7) (st' := aI 1 :: _) rfl rfl ?_
    refine E_isubv (v := -1) rfl (show (0 : Int) - 1 = -1 from rfl) (by decide) ?_
    refine E_callL (p' := 11) (L0 := [some (aI a1), some (aI 0), some (aI (-1))]) rfl rfl rfl ?_
    refine E_s (p' := 1) rfl rfl ?_
    refine E_s (p' := 2) (st' := aI 0 :: _) rfl rfl ?_
    refine E_icmp_lt (y := 0) rfl (by decide) (fun q => absurd q (by omega)) (fun _ => ?_)
    refine E_s (p' := 6) rfl rfl ?_
    refine E_s (p' := 7) (st' := aI (-1) :: _) rfl rfl ?_
    refine E_icmp_gt (y := (-1)) rfl (by decide) (fun _ => ?_) (fun q => absurd q (by omega))
    refine E_s (p' := 15) (st' := aI 0 :: _) rfl rfl ?_
    refine E_ret rfl rfl ?_
    refine E_s (p' := 14) rfl rfl ?_
    refine E_s (p' := 15) (st' := aI (-1) :: _) rfl rfl ?_
    refine E_ret rfl rfl ?_
    refine E_s (p' := 1174) rfl rfl ?_
    refine E_s (p' := 1177) (L' := [some (aA 0), some (aA 1), some (aA 124), some (aI 6)]) rfl rfl ?_
    refine E_s (p' := 18) rfl rfl ?_
    refine E_s (p' := 19) (st' := aI 6 :: _) rfl rfl ?_
    refine E_s (p' := 20) (st' := aA 0 :: _) rfl rfl ?_
    refine E_s (p' := 21) (st' := aI 6 :: _) rfl rfl ?_
    refine E_s (p' := 23) (st' := aI 6 :: _) rfl rfl ?_
    refine E_s (p' := 24) (st' := aI 0 :: _) rfl rfl ?_
    refine E_s (p' := 1180) rfl rfl ?_
    refine E_s (p' := 1181) (st' := aI 1 :: _) rfl rfl ?_
    exact E_ret rfl rfl ⟨rfl, rfl⟩
