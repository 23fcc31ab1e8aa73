set_option maxRecDepth 100000 in
set_option maxHeartbeats 40000000 in
theorem pc_26_2_2 (xs : Nat → Int) {z a3 a4 a5 : Int} (hz : b32 (fun a b => a &&& b) z 31 = 26) (h0 : xs 0 = z) (h1 : xs 1 = 2) (h2 : xs 2 = 2) (h3 : xs 3 = a3) (h4 : xs 4 = a4) (h5 : xs 5 = a5) : E 0 18 LL [] (s0 xs 6) PQ := by
  refine E_s (p' := 19) (st' := aI 0 :: _) rfl rfl ?_
  refine E_s (p' := 20) (st' := aA 0 :: _) rfl rfl ?_
  refine E_s (p' := 21) (st' := aI 6 :: _) rfl rfl ?_
  refine E_s (p' := 23) (st' := aI 6 :: _) rfl rfl ?_
  refine E_s (p' := 24) (st' := aI 0 :: _) rfl rfl ?_
  refine E_s (p' := 27) rfl rfl ?_
  refine E_s (p' := 28) (st' := aA 0 :: _) rfl rfl ?_
  refine E_s (p' := 29) (st' := aI 0 :: _) rfl rfl ?_
  refine E_scr rfl rfl h0 ?_
  refine E_s (p' := 32) (st' := aI 31 :: _) rfl rfl ?_
  refine E_s (p' := 33) rfl rfl ?_
  refine E_val hz ?_
  refine E_s (p' := 1108) rfl rfl ?_
  refine E_s (p' := 1109) (st' := aA 1 :: _) rfl rfl ?_
  refine E_s (p' := 1110) (st' := aA 0 :: _) rfl rfl ?_
  refine E_s (p' := 1111) (st' := aI 0 :: _) rfl rfl ?_
  refine E_s (p' := 1112) (st' := aI 1 :: _) rfl rfl ?_
  refine E_s (p' := 1113) (st' := aI 1 :: _) rfl rfl ?_
  refine E_scr rfl rfl h1 ?_
  refine E_s (p' := 1115) (st' := aA 0 :: _) rfl rfl ?_
  refine E_s (p' := 1116) (st' := aI 0 :: _) rfl rfl ?_
  refine E_s (p' := 1117) (st' := aI 2 :: _) rfl rfl ?_
  refine E_s (p' := 1118) (st' := aI 2 :: _) rfl rfl ?_
  refine E_scr rfl rfl h2 ?_
  refine E_callL (p' := 1122) (L0 := [some (aA 1), some (aI 2), some (aI 2), none, none, none]) rfl rfl rfl ?_
  refine E_s (p' := 1) (st' := aA 1 :: _) rfl rfl ?_
  refine E_s (p' := 2) (st' := aI 2 :: _) rfl rfl ?_
  refine E_callL (p' := 5) (L0 := [some (aA 1), some (aI 2), none]) rfl rfl rfl ?_
  refine E_s (p' := 1) (st' := aA 1 :: _) rfl rfl ?_
  refine E_s (p' := 2) (st' := aI 2 :: _) rfl rfl ?_
  refine E_callL (p' := 5) (L0 := [some (aA 1), some (aI 2)]) rfl rfl rfl ?_
  refine E_s (p' := 1) (st' := aI 2 :: _) rfl rfl ?_
  refine E_s (p' := 4) rfl rfl ?_
  refine E_s (p' := 5) (st' := aI 2 :: _) rfl rfl ?_
  refine E_s (p' := 6) (st' := aI 4 :: _) rfl rfl ?_
  refine E_s (p' := 9) rfl rfl ?_
  refine E_s (p' := 10) (st' := aA 1 :: _) rfl rfl ?_
  refine E_s (p' := 13) (st' := aA 2 :: _) rfl rfl ?_
  refine E_s (p' := 14) (st' := aI 2 :: _) rfl rfl ?_
  refine E_s (p' := 15) (st' := aA 72 :: _) rfl rfl ?_
  refine E_s (p' := 19) rfl rfl ?_
  refine E_ret rfl rfl ?_
  refine E_s (p' := 6) (L' := [some (aA 1), some (aI 2), some (aA 72)]) rfl rfl ?_
  refine E_s (p' := 7) (st' := aA 72 :: _) rfl rfl ?_
  refine E_s (p' := 10) rfl rfl ?_
  refine E_s (p' := 11) (st' := aA 72 :: _) rfl rfl ?_
  refine E_callL (p' := 14) (L0 := [some (aA 72)]) rfl rfl rfl ?_
  refine E_s (p' := 1) (st' := aA 72 :: _) rfl rfl ?_
  refine E_s (p' := 4) (st' := aI 0 :: _) rfl rfl ?_
  refine E_s (p' := 7) rfl rfl ?_
  refine E_s (p' := 8) (st' := aA 72 :: _) rfl rfl ?_
  refine E_s (p' := 11) (st' := aA 87 :: _) rfl rfl ?_
  refine E_s (p' := 12) (st' := aA 72 :: _) rfl rfl ?_
  refine E_s (p' := 15) (st' := aA 73 :: _) rfl rfl ?_
  refine E_s (p' := 16) (st' := aA 72 :: _) rfl rfl ?_
  refine E_s (p' := 19) (st' := aI 15 :: _) rfl rfl ?_
  refine E_callL (p' := 22) (L0 := [some (aA 87), some (aA 73), some (aI 15), none]) rfl rfl rfl ?_
  refine E_s (p' := 1) (st' := aA 87 :: _) rfl rfl ?_
  refine E_s (p' := 2) (st' := aA 73 :: _) rfl rfl ?_
  refine E_callL (p' := 5) (L0 := [some (aA 87), some (aA 73), none, none]) rfl rfl rfl ?_
  refine E_s (p' := 1) (st' := aA 87 :: _) rfl rfl ?_
  refine E_s (p' := 4) (st' := aA 96 :: _) rfl rfl ?_
  refine E_s (p' := 5) (st' := aI 0 :: _) rfl rfl ?_
  refine E_call rfl rfl ?_
  refine c_fill rfl rfl ?_
  refine E_s (p' := 9) (st' := aA 87 :: _) rfl rfl ?_
  refine E_s (p' := 12) (st' := aA 92 :: _) rfl rfl ?_
  refine E_s (p' := 13) (st' := aI 0 :: _) rfl rfl ?_
  refine E_call rfl rfl ?_
  refine c_fill rfl rfl ?_
  refine E_s (p' := 17) (st' := aA 87 :: _) rfl rfl ?_
  refine E_s (p' := 18) (st' := aI 0 :: _) rfl rfl ?_
  refine E_stM (p' := 21) (m' := up2 _ 87 10 0) rfl rfl ?_
  refine E_s (p' := 22) (st' := aA 87 :: _) rfl rfl ?_
  refine E_s (p' := 23) (st' := aI 0 :: _) rfl rfl ?_
  refine E_stM (p' := 26) (m' := up2 _ 87 11 0) rfl rfl ?_
  refine E_s (p' := 27) (st' := aI 0 :: _) rfl rfl ?_
  refine E_s (p' := 28) (L' := [some (aA 87), some (aA 73), some (aI 0), none]) rfl rfl ?_
  refine E_s (p' := 29) (st' := aI 0 :: _) rfl rfl ?_
  refine E_s (p' := 30) (st' := aA 73 :: _) rfl rfl ?_
  refine E_s (p' := 33) (st' := aI 0 :: _) rfl rfl ?_
  refine E_s (p' := 135) rfl rfl ?_
  refine E_ret rfl rfl ?_
  refine E_s (p' := 6) (st' := aA 87 :: _) rfl rfl ?_
  refine E_s (p' := 7) (st' := aI 15 :: _) rfl rfl ?_
  refine E_callL (p' := 10) (L0 := [some (aA 87), some (aI 15), none]) rfl rfl rfl ?_
  refine E_s (p' := 1) (st' := aA 87 :: _) rfl rfl ?_
  refine E_s (p' := 2) (st' := aI 0 :: _) rfl rfl ?_
  refine E_stM (p' := 5) (m' := up2 _ 87 12 0) rfl rfl ?_
  refine E_s (p' := 6) (st' := aI 1 :: _) rfl rfl ?_
  refine E_s (p' := 7) (L' := [some (aA 87), some (aI 15), some (aI 1)]) rfl rfl ?_
  refine fl_loop (gp := 0) (by decide) _ 600 1 _ rfl (fun j hj => show (if 0 ≤ j ∧ j < 601 then (0 : Int) else _) = 0 from if_pos ⟨Nat.zero_le _, hj⟩) ?_
  refine E_s (p' := 11) (st' := aA 87 :: _) rfl rfl ?_
  refine E_s (p' := 14) (st' := aI 0 :: _) rfl rfl ?_
  refine E_s (p' := 17) rfl rfl ?_
  refine E_s (p' := 18) (st' := aA 87 :: _) rfl rfl ?_
  refine E_callL (p' := 21) (L0 := [some (aA 87)]) rfl rfl rfl ?_
  refine E_s (p' := 1) (st' := aA 87 :: _) rfl rfl ?_
  refine E_s (p' := 4) (st' := aA 93 :: _) rfl rfl ?_
  refine E_s (p' := 5) (st' := aA 87 :: _) rfl rfl ?_
  refine E_s (p' := 8) (st' := aI 0 :: _) rfl rfl ?_
  refine E_s (p' := 15) rfl rfl ?_
  refine E_s (p' := 16) (st' := aI 0 :: _) rfl rfl ?_
  refine E_call rfl rfl ?_
  refine c_fill rfl rfl ?_
  refine E_s (p' := 20) (st' := aA 87 :: _) rfl rfl ?_
  refine E_s (p' := 23) (st' := aA 94 :: _) rfl rfl ?_
  refine E_s (p' := 24) (st' := aI 0 :: _) rfl rfl ?_
  refine E_call rfl rfl ?_
  refine c_fill rfl rfl ?_
  refine E_s (p' := 28) (st' := aA 87 :: _) rfl rfl ?_
  refine E_s (p' := 31) (st' := aA 95 :: _) rfl rfl ?_
  refine E_s (p' := 32) (st' := aI 0 :: _) rfl rfl ?_
  refine E_call rfl rfl ?_
  refine c_fill rfl rfl ?_
  refine E_ret rfl rfl ?_
  refine E_ret rfl rfl ?_
  refine E_s (p' := 23) (st' := aA 72 :: _) rfl rfl ?_
  refine E_s (p' := 24) (st' := aI 1 :: _) rfl rfl ?_
  refine E_stM (p' := 27) (m' := up2 _ 72 7 1) rfl rfl ?_
  refine E_s (p' := 28) (st' := aA 72 :: _) rfl rfl ?_
  refine E_s (p' := 31) (st' := aA 87 :: _) rfl rfl ?_
  refine E_ret rfl rfl ?_
  refine E_s (p' := 15) rfl rfl ?_
  refine E_s (p' := 16) (st' := aA 72 :: _) rfl rfl ?_
  refine E_ret rfl rfl ?_
  refine E_s (p' := 6) (L' := [some (aA 1), some (aI 2), some (aI 2), some (aA 72), none, none]) rfl rfl ?_
  refine E_s (p' := 7) (st' := aA 1 :: _) rfl rfl ?_
  refine E_s (p' := 8) (st' := aI 2 :: _) rfl rfl ?_
  refine E_callL (p' := 11) (L0 := [some (aA 1), some (aI 2), none]) rfl rfl rfl ?_
  refine E_s (p' := 1) (st' := aA 1 :: _) rfl rfl ?_
  refine E_s (p' := 2) (st' := aI 2 :: _) rfl rfl ?_
  refine E_callL (p' := 5) (L0 := [some (aA 1), some (aI 2)]) rfl rfl rfl ?_
  refine E_s (p' := 1) (st' := aI 2 :: _) rfl rfl ?_
  refine E_s (p' := 4) rfl rfl ?_
  refine E_s (p' := 5) (st' := aI 2 :: _) rfl rfl ?_
  refine E_s (p' := 6) (st' := aI 4 :: _) rfl rfl ?_
  refine E_s (p' := 9) rfl rfl ?_
  refine E_s (p' := 10) (st' := aA 1 :: _) rfl rfl ?_
  refine E_s (p' := 13) (st' := aA 2 :: _) rfl rfl ?_
  refine E_s (p' := 14) (st' := aI 2 :: _) rfl rfl ?_
  refine E_s (p' := 15) (st' := aA 72 :: _) rfl rfl ?_
  refine E_s (p' := 19) rfl rfl ?_
  refine E_ret rfl rfl ?_
  refine E_s (p' := 6) (L' := [some (aA 1), some (aI 2), some (aA 72)]) rfl rfl ?_
  refine E_s (p' := 7) (st' := aA 72 :: _) rfl rfl ?_
  refine E_s (p' := 10) rfl rfl ?_
  refine E_s (p' := 11) (st' := aA 72 :: _) rfl rfl ?_
  refine E_callL (p' := 14) (L0 := [some (aA 72)]) rfl rfl rfl ?_
  refine E_s (p' := 1) (st' := aA 72 :: _) rfl rfl ?_
  refine E_s (p' := 4) (st' := aI 1 :: _) rfl rfl ?_
  refine E_s (p' := 27) rfl rfl ?_
  refine E_s (p' := 28) (st' := aA 72 :: _) rfl rfl ?_
  refine E_s (p' := 31) (st' := aA 87 :: _) rfl rfl ?_
  refine E_ret rfl rfl ?_
  refine E_s (p' := 15) rfl rfl ?_
  refine E_s (p' := 16) (st' := aA 72 :: _) rfl rfl ?_
  refine E_ret rfl rfl ?_
  refine E_s (p' := 13) (L' := [some (aA 1), some (aI 2), some (aI 2), some (aA 72), some (aA 72), none]) rfl rfl ?_
  refine E_s (p' := 14) (st' := aA 72 :: _) rfl rfl ?_
  refine E_s (p' := 17) rfl rfl ?_
  refine E_s (p' := 19) (st' := aA 72 :: _) rfl rfl ?_
  refine E_s (p' := 25) rfl rfl ?_
  refine E_s (p' := 26) (st' := aA 1 :: _) rfl rfl ?_
  refine E_s (p' := 29) (st' := aA 19 :: _) rfl rfl ?_
  refine E_s (p' := 30) (st' := aI 0 :: _) rfl rfl ?_
  refine E_call rfl rfl ?_
  refine c_fill rfl rfl ?_
  refine E_s (p' := 34) (st' := aI 0 :: _) rfl rfl ?_
  refine E_s (p' := 36) (L' := [some (aA 1), some (aI 2), some (aI 2), some (aA 72), some (aA 72), some (aI 0)]) rfl rfl ?_
  refine E_s (p' := 38) (st' := aI 0 :: _) rfl rfl ?_
  refine E_s (p' := 39) (st' := aA 72 :: _) rfl rfl ?_
  refine E_s (p' := 42) (st' := aA 73 :: _) rfl rfl ?_
  refine E_s (p' := 45) (st' := aI 0 :: _) rfl rfl ?_
  refine E_s (p' := 72) rfl rfl ?_
  refine E_s (p' := 73) (st' := aA 1 :: _) rfl rfl ?_
  refine E_s (p' := 76) (st' := aA 19 :: _) rfl rfl ?_
  refine E_s (p' := 78) (st' := aA 72 :: _) rfl rfl ?_
  refine E_s (p' := 81) (st' := aA 73 :: _) rfl rfl ?_
  refine E_s (p' := 84) (st' := aI 0 :: _) rfl rfl ?_
  refine E_s (p' := 85) (st' := aI 0 :: _) rfl rfl ?_
  refine E_ret rfl rfl ?_
  refine E_s (p' := 1123) (st' := aA 124 :: _) rfl rfl ?_
  refine E_s (p' := 1124) (st' := aA 0 :: _) rfl rfl ?_
  refine E_s (p' := 1125) (st' := aI 0 :: _) rfl rfl ?_
  refine E_s (p' := 1126) (st' := aI 1 :: _) rfl rfl ?_
  refine E_s (p' := 1127) (st' := aI 1 :: _) rfl rfl ?_
  refine E_scr rfl rfl h1 ?_
  refine E_s (p' := 1129) (st' := aA 0 :: _) rfl rfl ?_
  refine E_s (p' := 1130) (st' := aI 0 :: _) rfl rfl ?_
  refine E_s (p' := 1131) (st' := aI 2 :: _) rfl rfl ?_
  refine E_s (p' := 1132) (st' := aI 2 :: _) rfl rfl ?_
  refine E_scr rfl rfl h2 ?_
  refine E_callL (p' := 1136) (L0 := [some (aA 124), some (aI 2), some (aI 2), none, none, none, none, none]) rfl rfl rfl ?_
  refine E_s (p' := 1) (st' := aI 2 :: _) rfl rfl ?_
  refine E_callL (p' := 4) (L0 := [some (aI 2)]) rfl rfl rfl ?_
  refine E_s (p' := 1) (st' := aI 2 :: _) rfl rfl ?_
  refine E_s (p' := 2) (st' := aI 0 :: _) rfl rfl ?_
  refine E_s (p' := 3) (st' := aI 3 :: _) rfl rfl ?_
  refine E_callL (p' := 6) (L0 := [some (aI 2), some (aI 0), some (aI 3)]) rfl rfl rfl ?_
  refine E_s (p' := 1) (st' := aI 2 :: _) rfl rfl ?_
  refine E_s (p' := 2) (st' := aI 0 :: _) rfl rfl ?_
  refine E_s (p' := 5) rfl rfl ?_
  refine E_s (p' := 6) (st' := aI 2 :: _) rfl rfl ?_
  refine E_s (p' := 7) (st' := aI 3 :: _) rfl rfl ?_
  refine E_s (p' := 10) rfl rfl ?_
  refine E_s (p' := 11) (st' := aI 1 :: _) rfl rfl ?_
  refine E_s (p' := 15) rfl rfl ?_
  refine E_ret rfl rfl ?_
  refine E_ret rfl rfl ?_
  refine E_s (p' := 7) rfl rfl ?_
  refine E_s (p' := 8) (st' := aI 2 :: _) rfl rfl ?_
  refine E_callL (p' := 11) (L0 := [some (aI 2)]) rfl rfl rfl ?_
  refine E_s (p' := 1) (st' := aI 2 :: _) rfl rfl ?_
  refine E_s (p' := 2) (st' := aI 0 :: _) rfl rfl ?_
  refine E_s (p' := 3) (st' := aI 3 :: _) rfl rfl ?_
  refine E_callL (p' := 6) (L0 := [some (aI 2), some (aI 0), some (aI 3)]) rfl rfl rfl ?_
  refine E_s (p' := 1) (st' := aI 2 :: _) rfl rfl ?_
  refine E_s (p' := 2) (st' := aI 0 :: _) rfl rfl ?_
  refine E_s (p' := 5) rfl rfl ?_
  refine E_s (p' := 6) (st' := aI 2 :: _) rfl rfl ?_
  refine E_s (p' := 7) (st' := aI 3 :: _) rfl rfl ?_
  refine E_s (p' := 10) rfl rfl ?_
  refine E_s (p' := 11) (st' := aI 1 :: _) rfl rfl ?_
  refine E_s (p' := 15) rfl rfl ?_
  refine E_ret rfl rfl ?_
  refine E_ret rfl rfl ?_
  refine E_s (p' := 17) rfl rfl ?_
  refine E_s (p' := 18) (st' := aA 124 :: _) rfl rfl ?_
  refine E_s (p' := 19) (st' := aI 2 :: _) rfl rfl ?_
  refine E_s (p' := 20) (st' := aA 124 :: _) rfl rfl ?_
  refine E_s (p' := 23) (st' := aA 148 :: _) rfl rfl ?_
  refine E_callL (p' := 26) (L0 := [some (aA 124), some (aI 2), some (aA 148), none]) rfl rfl rfl ?_
  refine E_s (p' := 1) (st' := aA 124 :: _) rfl rfl ?_
  refine E_s (p' := 2) (st' := aI 2 :: _) rfl rfl ?_
  refine E_callL (p' := 5) (L0 := [some (aA 124), some (aI 2), none, none]) rfl rfl rfl ?_
  refine E_s (p' := 1) (st' := aI 0 :: _) rfl rfl ?_
  refine E_s (p' := 2) (L' := [some (aA 124), some (aI 2), some (aI 0), none]) rfl rfl ?_
  refine mr_loop1 _ 601 0 _ rfl ?_
  refine E_s (p' := 23) (st' := aA 124 :: _) rfl rfl ?_
  refine E_s (p' := 24) (st' := aI 0 :: _) rfl rfl ?_
  refine E_stM (p' := 27) (m' := up2 _ 124 25 0) rfl rfl ?_
  refine E_s (p' := 28) (st' := aA 124 :: _) rfl rfl ?_
  refine E_s (p' := 29) (st' := aI 0 :: _) rfl rfl ?_
  refine E_stM (p' := 32) (m' := up2 _ 124 26 0) rfl rfl ?_
  refine E_s (p' := 33) (st' := aI 0 :: _) rfl rfl ?_
  refine E_s (p' := 34) (L' := [some (aA 124), some (aI 2), some (aI 0), none]) rfl rfl ?_
  refine E_s (p' := 35) (st' := aI 0 :: _) rfl rfl ?_
  refine E_s (p' := 36) (st' := aA 124 :: _) rfl rfl ?_
  refine E_s (p' := 39) (st' := aA 125 :: _) rfl rfl ?_
  refine E_s (p' := 40) (st' := aI 2 :: _) rfl rfl ?_
  refine E_s (p' := 41) (st' := aI 0 :: _) rfl rfl ?_
  refine E_s (p' := 121) rfl rfl ?_
  refine E_s (p' := 122) (st' := aA 124 :: _) rfl rfl ?_
  refine E_s (p' := 123) (st' := aI 0 :: _) rfl rfl ?_
  refine E_stM (p' := 126) (m' := up2 _ 124 24 0) rfl rfl ?_
  refine E_s (p' := 127) (st' := aI 0 :: _) rfl rfl ?_
  refine E_s (p' := 128) (L' := [some (aA 124), some (aI 2), some (aI 0), none]) rfl rfl ?_
  refine mr_loop3 _ 601 0 _ rfl (fun j hj => show (if 0 ≤ j ∧ j < 601 then (0 : Int) else _) = 0 from if_pos ⟨Nat.zero_le _, hj⟩) ?_
  refine E_s (p' := 245) (st' := aA 124 :: _) rfl rfl ?_
  refine E_s (p' := 248) (st' := aI 0 :: _) rfl rfl ?_
  refine E_s (p' := 249) (st' := aA 124 :: _) rfl rfl ?_
  refine E_s (p' := 252) (st' := aI 0 :: _) rfl rfl ?_
  refine E_s (p' := 259) rfl rfl ?_
  refine E_s (p' := 260) (st' := aI 1 :: _) rfl rfl ?_
  refine E_s (p' := 261) (st' := aI 1 :: _) rfl rfl ?_
  refine E_s (p' := 263) (st' := aI 6 :: _) rfl rfl ?_
  refine E_s (p' := 271) rfl rfl ?_
  refine E_s (p' := 272) (st' := aA 124 :: _) rfl rfl ?_
  refine E_s (p' := 275) (st' := aI 0 :: _) rfl rfl ?_
  refine E_s (p' := 282) rfl rfl ?_
  refine E_s (p' := 283) (st' := aI 0 :: _) rfl rfl ?_
  refine E_ret rfl rfl ?_
  refine E_s (p' := 6) rfl rfl ?_
  refine E_s (p' := 7) (st' := aI 0 :: _) rfl rfl ?_
  refine E_s (p' := 8) (L' := [some (aA 124), some (aI 2), some (aA 148), some (aI 0)]) rfl rfl ?_
  refine E_s (p' := 9) (st' := aI 0 :: _) rfl rfl ?_
  refine E_s (p' := 10) (st' := aA 124 :: _) rfl rfl ?_
  refine E_s (p' := 13) (st' := aA 125 :: _) rfl rfl ?_
  refine E_s (p' := 14) (st' := aI 2 :: _) rfl rfl ?_
  refine E_s (p' := 15) (st' := aI 0 :: _) rfl rfl ?_
  refine E_s (p' := 58) rfl rfl ?_
  refine E_ret rfl rfl ?_
  refine E_s (p' := 27) (st' := aI 0 :: _) rfl rfl ?_
  refine E_s (p' := 28) (L' := [some (aA 124), some (aI 2), some (aI 2), some (aI 0), none, none, none, none]) rfl rfl ?_
  refine E_s (p' := 29) (st' := aI 0 :: _) rfl rfl ?_
  refine E_s (p' := 30) (st' := aA 124 :: _) rfl rfl ?_
  refine E_s (p' := 33) (st' := aA 125 :: _) rfl rfl ?_
  refine E_s (p' := 34) (st' := aI 2 :: _) rfl rfl ?_
  refine E_s (p' := 35) (st' := aI 0 :: _) rfl rfl ?_
  refine E_s (p' := 56) rfl rfl ?_
  refine E_s (p' := 57) (st' := aI 0 :: _) rfl rfl ?_
  refine E_s (p' := 58) (L' := [some (aA 124), some (aI 2), some (aI 2), some (aI 0), none, none, none, none]) rfl rfl ?_
  refine E_s (p' := 59) (st' := aI 0 :: _) rfl rfl ?_
  refine E_s (p' := 60) (st' := aA 124 :: _) rfl rfl ?_
  refine E_s (p' := 63) (st' := aA 125 :: _) rfl rfl ?_
  refine E_s (p' := 64) (st' := aI 2 :: _) rfl rfl ?_
  refine E_s (p' := 65) (st' := aI 0 :: _) rfl rfl ?_
  refine E_s (p' := 86) rfl rfl ?_
  refine E_s (p' := 87) (st' := aA 124 :: _) rfl rfl ?_
  refine E_s (p' := 88) (st' := aI 2 :: _) rfl rfl ?_
  refine E_s (p' := 89) (st' := aA 124 :: _) rfl rfl ?_
  refine E_s (p' := 92) (st' := aA 148 :: _) rfl rfl ?_
  refine E_callL (p' := 95) (L0 := [some (aA 124), some (aI 2), some (aA 148), none]) rfl rfl rfl ?_
  refine E_s (p' := 1) (st' := aA 124 :: _) rfl rfl ?_
  refine E_s (p' := 2) (st' := aI 2 :: _) rfl rfl ?_
  refine E_callL (p' := 5) (L0 := [some (aA 124), some (aI 2), none, none]) rfl rfl rfl ?_
  refine E_s (p' := 1) (st' := aI 0 :: _) rfl rfl ?_
  refine E_s (p' := 2) (L' := [some (aA 124), some (aI 2), some (aI 0), none]) rfl rfl ?_
  refine mr_loop1 _ 601 0 _ rfl ?_
  refine E_s (p' := 23) (st' := aA 124 :: _) rfl rfl ?_
  refine E_s (p' := 24) (st' := aI 0 :: _) rfl rfl ?_
  refine E_stM (p' := 27) (m' := up2 _ 124 25 0) rfl rfl ?_
  refine E_s (p' := 28) (st' := aA 124 :: _) rfl rfl ?_
  refine E_s (p' := 29) (st' := aI 0 :: _) rfl rfl ?_
  refine E_stM (p' := 32) (m' := up2 _ 124 26 0) rfl rfl ?_
  refine E_s (p' := 33) (st' := aI 0 :: _) rfl rfl ?_
  refine E_s (p' := 34) (L' := [some (aA 124), some (aI 2), some (aI 0), none]) rfl rfl ?_
  refine E_s (p' := 35) (st' := aI 0 :: _) rfl rfl ?_
  refine E_s (p' := 36) (st' := aA 124 :: _) rfl rfl ?_
  refine E_s (p' := 39) (st' := aA 125 :: _) rfl rfl ?_
  refine E_s (p' := 40) (st' := aI 2 :: _) rfl rfl ?_
  refine E_s (p' := 41) (st' := aI 0 :: _) rfl rfl ?_
  refine E_s (p' := 121) rfl rfl ?_
  refine E_s (p' := 122) (st' := aA 124 :: _) rfl rfl ?_
  refine E_s (p' := 123) (st' := aI 0 :: _) rfl rfl ?_
  refine E_stM (p' := 126) (m' := up2 _ 124 24 0) rfl rfl ?_
  refine E_s (p' := 127) (st' := aI 0 :: _) rfl rfl ?_
  refine E_s (p' := 128) (L' := [some (aA 124), some (aI 2), some (aI 0), none]) rfl rfl ?_
  refine mr_loop3 _ 601 0 _ rfl (fun j hj => show (if 0 ≤ j ∧ j < 601 then (0 : Int) else _) = 0 from if_pos ⟨Nat.zero_le _, hj⟩) ?_
  refine E_s (p' := 245) (st' := aA 124 :: _) rfl rfl ?_
  refine E_s (p' := 248) (st' := aI 0 :: _) rfl rfl ?_
  refine E_s (p' := 249) (st' := aA 124 :: _) rfl rfl ?_
  refine E_s (p' := 252) (st' := aI 0 :: _) rfl rfl ?_
  refine E_s (p' := 259) rfl rfl ?_
  refine E_s (p' := 260) (st' := aI 1 :: _) rfl rfl ?_
  refine E_s (p' := 261) (st' := aI 1 :: _) rfl rfl ?_
  refine E_s (p' := 263) (st' := aI 6 :: _) rfl rfl ?_
  refine E_s (p' := 271) rfl rfl ?_
  refine E_s (p' := 272) (st' := aA 124 :: _) rfl rfl ?_
  refine E_s (p' := 275) (st' := aI 0 :: _) rfl rfl ?_
  refine E_s (p' := 282) rfl rfl ?_
  refine E_s (p' := 283) (st' := aI 0 :: _) rfl rfl ?_
  refine E_ret rfl rfl ?_
  refine E_s (p' := 6) rfl rfl ?_
  refine E_s (p' := 7) (st' := aI 0 :: _) rfl rfl ?_
  refine E_s (p' := 8) (L' := [some (aA 124), some (aI 2), some (aA 148), some (aI 0)]) rfl rfl ?_
  refine E_s (p' := 9) (st' := aI 0 :: _) rfl rfl ?_
  refine E_s (p' := 10) (st' := aA 124 :: _) rfl rfl ?_
  refine E_s (p' := 13) (st' := aA 125 :: _) rfl rfl ?_
  refine E_s (p' := 14) (st' := aI 2 :: _) rfl rfl ?_
  refine E_s (p' := 15) (st' := aI 0 :: _) rfl rfl ?_
  refine E_s (p' := 58) rfl rfl ?_
  refine E_ret rfl rfl ?_
  refine E_s (p' := 96) (st' := aI 0 :: _) rfl rfl ?_
  refine E_s (p' := 97) (L' := [some (aA 124), some (aI 2), some (aI 2), some (aI 0), none, none, none, none]) rfl rfl ?_
  refine E_s (p' := 98) (st' := aI 0 :: _) rfl rfl ?_
  refine E_s (p' := 100) (st' := aI 61 :: _) rfl rfl ?_
  refine E_s (p' := 103) rfl rfl ?_
  refine E_s (p' := 104) (st' := aA 124 :: _) rfl rfl ?_
  refine E_s (p' := 107) (st' := aA 167 :: _) rfl rfl ?_
  refine E_s (p' := 108) (st' := aI 0 :: _) rfl rfl ?_
  refine E_s (p' := 109) (st' := aI 0 :: _) rfl rfl ?_
  refine E_stM (p' := 110) (m' := up2 _ 167 0 0) rfl rfl ?_
  refine E_s (p' := 113) (L' := [some (aA 124), some (aI 2), some (aI 2), some (aI 1), none, none, none, none]) rfl rfl ?_
  refine E_s (p' := 97) rfl rfl ?_
  refine E_s (p' := 98) (st' := aI 1 :: _) rfl rfl ?_
  refine E_s (p' := 100) (st' := aI 61 :: _) rfl rfl ?_
  refine E_s (p' := 103) rfl rfl ?_
  refine E_s (p' := 104) (st' := aA 124 :: _) rfl rfl ?_
  refine E_s (p' := 107) (st' := aA 167 :: _) rfl rfl ?_
  refine E_s (p' := 108) (st' := aI 1 :: _) rfl rfl ?_
  refine E_s (p' := 109) (st' := aI 0 :: _) rfl rfl ?_
  refine E_stM (p' := 110) (m' := up2 _ 167 1 0) rfl rfl ?_
  refine E_s (p' := 113) (L' := [some (aA 124), some (aI 2), some (aI 2), some (aI 2), none, none, none, none]) rfl rfl ?_
  refine E_s (p' := 97) rfl rfl ?_
  refine E_s (p' := 98) (st' := aI 2 :: _) rfl rfl ?_
  refine E_s (p' := 100) (st' := aI 61 :: _) rfl rfl ?_
  refine E_s (p' := 103) rfl rfl ?_
  refine E_s (p' := 104) (st' := aA 124 :: _) rfl rfl ?_
  refine E_s (p' := 107) (st' := aA 167 :: _) rfl rfl ?_
  refine E_s (p' := 108) (st' := aI 2 :: _) rfl rfl ?_
  refine E_s (p' := 109) (st' := aI 0 :: _) rfl rfl ?_
  refine E_stM (p' := 110) (m' := up2 _ 167 2 0) rfl rfl ?_
  refine E_s (p' := 113) (L' := [some (aA 124), some (aI 2), some (aI 2), some (aI 3), none, none, none, none]) rfl rfl ?_
  refine E_s (p' := 97) rfl rfl ?_
  refine E_s (p' := 98) (st' := aI 3 :: _) rfl rfl ?_
  refine E_s (p' := 100) (st' := aI 61 :: _) rfl rfl ?_
  refine E_s (p' := 103) rfl rfl ?_
  refine E_s (p' := 104) (st' := aA 124 :: _) rfl rfl ?_
  refine E_s (p' := 107) (st' := aA 167 :: _) rfl rfl ?_
  refine E_s (p' := 108) (st' := aI 3 :: _) rfl rfl ?_
  refine E_s (p' := 109) (st' := aI 0 :: _) rfl rfl ?_
  refine E_stM (p' := 110) (m' := up2 _ 167 3 0) rfl rfl ?_
  refine E_s (p' := 113) (L' := [some (aA 124), some (aI 2), some (aI 2), some (aI 4), none, none, none, none]) rfl rfl ?_
  refine E_s (p' := 97) rfl rfl ?_
  refine E_s (p' := 98) (st' := aI 4 :: _) rfl rfl ?_
  refine E_s (p' := 100) (st' := aI 61 :: _) rfl rfl ?_
  refine E_s (p' := 103) rfl rfl ?_
  refine E_s (p' := 104) (st' := aA 124 :: _) rfl rfl ?_
  refine E_s (p' := 107) (st' := aA 167 :: _) rfl rfl ?_
  refine E_s (p' := 108) (st' := aI 4 :: _) rfl rfl ?_
  refine E_s (p' := 109) (st' := aI 0 :: _) rfl rfl ?_
  refine E_stM (p' := 110) (m' := up2 _ 167 4 0) rfl rfl ?_
  refine E_s (p' := 113) (L' := [some (aA 124), some (aI 2), some (aI 2), some (aI 5), none, none, none, none]) rfl rfl ?_
  refine E_s (p' := 97) rfl rfl ?_
  refine E_s (p' := 98) (st' := aI 5 :: _) rfl rfl ?_
  refine E_s (p' := 100) (st' := aI 61 :: _) rfl rfl ?_
  refine E_s (p' := 103) rfl rfl ?_
  refine E_s (p' := 104) (st' := aA 124 :: _) rfl rfl ?_
  refine E_s (p' := 107) (st' := aA 167 :: _) rfl rfl ?_
  refine E_s (p' := 108) (st' := aI 5 :: _) rfl rfl ?_
  refine E_s (p' := 109) (st' := aI 0 :: _) rfl rfl ?_
  refine E_stM (p' := 110) (m' := up2 _ 167 5 0) rfl rfl ?_
  refine E_s (p' := 113) (L' := [some (aA 124), some (aI 2), some (aI 2), some (aI 6), none, none, none, none]) rfl rfl ?_
  refine E_s (p' := 97) rfl rfl ?_
  refine E_s (p' := 98) (st' := aI 6 :: _) rfl rfl ?_
  refine E_s (p' := 100) (st' := aI 61 :: _) rfl rfl ?_
  refine E_s (p' := 103) rfl rfl ?_
  refine E_s (p' := 104) (st' := aA 124 :: _) rfl rfl ?_
  refine E_s (p' := 107) (st' := aA 167 :: _) rfl rfl ?_
  refine E_s (p' := 108) (st' := aI 6 :: _) rfl rfl ?_
  refine E_s (p' := 109) (st' := aI 0 :: _) rfl rfl ?_
  refine E_stM (p' := 110) (m' := up2 _ 167 6 0) rfl rfl ?_
  refine E_s (p' := 113) (L' := [some (aA 124), some (aI 2), some (aI 2), some (aI 7), none, none, none, none]) rfl rfl ?_
  refine E_s (p' := 97) rfl rfl ?_
  refine E_s (p' := 98) (st' := aI 7 :: _) rfl rfl ?_
  refine E_s (p' := 100) (st' := aI 61 :: _) rfl rfl ?_
  refine E_s (p' := 103) rfl rfl ?_
  refine E_s (p' := 104) (st' := aA 124 :: _) rfl rfl ?_
  refine E_s (p' := 107) (st' := aA 167 :: _) rfl rfl ?_
  refine E_s (p' := 108) (st' := aI 7 :: _) rfl rfl ?_
  refine E_s (p' := 109) (st' := aI 0 :: _) rfl rfl ?_
  refine E_stM (p' := 110) (m' := up2 _ 167 7 0) rfl rfl ?_
  refine E_s (p' := 113) (L' := [some (aA 124), some (aI 2), some (aI 2), some (aI 8), none, none, none, none]) rfl rfl ?_
  refine E_s (p' := 97) rfl rfl ?_
  refine E_s (p' := 98) (st' := aI 8 :: _) rfl rfl ?_
  refine E_s (p' := 100) (st' := aI 61 :: _) rfl rfl ?_
  refine E_s (p' := 103) rfl rfl ?_
  refine E_s (p' := 104) (st' := aA 124 :: _) rfl rfl ?_
  refine E_s (p' := 107) (st' := aA 167 :: _) rfl rfl ?_
  refine E_s (p' := 108) (st' := aI 8 :: _) rfl rfl ?_
  refine E_s (p' := 109) (st' := aI 0 :: _) rfl rfl ?_
  refine E_stM (p' := 110) (m' := up2 _ 167 8 0) rfl rfl ?_
  refine E_s (p' := 113) (L' := [some (aA 124), some (aI 2), some (aI 2), some (aI 9), none, none, none, none]) rfl rfl ?_
  refine E_s (p' := 97) rfl rfl ?_
  refine E_s (p' := 98) (st' := aI 9 :: _) rfl rfl ?_
  refine E_s (p' := 100) (st' := aI 61 :: _) rfl rfl ?_
  refine E_s (p' := 103) rfl rfl ?_
  refine E_s (p' := 104) (st' := aA 124 :: _) rfl rfl ?_
  refine E_s (p' := 107) (st' := aA 167 :: _) rfl rfl ?_
  refine E_s (p' := 108) (st' := aI 9 :: _) rfl rfl ?_
  refine E_s (p' := 109) (st' := aI 0 :: _) rfl rfl ?_
  refine E_stM (p' := 110) (m' := up2 _ 167 9 0) rfl rfl ?_
  refine E_s (p' := 113) (L' := [some (aA 124), some (aI 2), some (aI 2), some (aI 10), none, none, none, none]) rfl rfl ?_
  refine E_s (p' := 97) rfl rfl ?_
  refine E_s (p' := 98) (st' := aI 10 :: _) rfl rfl ?_
  refine E_s (p' := 100) (st' := aI 61 :: _) rfl rfl ?_
  refine E_s (p' := 103) rfl rfl ?_
  refine E_s (p' := 104) (st' := aA 124 :: _) rfl rfl ?_
  refine E_s (p' := 107) (st' := aA 167 :: _) rfl rfl ?_
  refine E_s (p' := 108) (st' := aI 10 :: _) rfl rfl ?_
  refine E_s (p' := 109) (st' := aI 0 :: _) rfl rfl ?_
  refine E_stM (p' := 110) (m' := up2 _ 167 10 0) rfl rfl ?_
  refine E_s (p' := 113) (L' := [some (aA 124), some (aI 2), some (aI 2), some (aI 11), none, none, none, none]) rfl rfl ?_
  refine E_s (p' := 97) rfl rfl ?_
  refine E_s (p' := 98) (st' := aI 11 :: _) rfl rfl ?_
  refine E_s (p' := 100) (st' := aI 61 :: _) rfl rfl ?_
  refine E_s (p' := 103) rfl rfl ?_
  refine E_s (p' := 104) (st' := aA 124 :: _) rfl rfl ?_
  refine E_s (p' := 107) (st' := aA 167 :: _) rfl rfl ?_
  refine E_s (p' := 108) (st' := aI 11 :: _) rfl rfl ?_
  refine E_s (p' := 109) (st' := aI 0 :: _) rfl rfl ?_
  refine E_stM (p' := 110) (m' := up2 _ 167 11 0) rfl rfl ?_
  refine E_s (p' := 113) (L' := [some (aA 124), some (aI 2), some (aI 2), some (aI 12), none, none, none, none]) rfl rfl ?_
  refine E_s (p' := 97) rfl rfl ?_
  refine E_s (p' := 98) (st' := aI 12 :: _) rfl rfl ?_
  refine E_s (p' := 100) (st' := aI 61 :: _) rfl rfl ?_
  refine E_s (p' := 103) rfl rfl ?_
  refine E_s (p' := 104) (st' := aA 124 :: _) rfl rfl ?_
  refine E_s (p' := 107) (st' := aA 167 :: _) rfl rfl ?_
  refine E_s (p' := 108) (st' := aI 12 :: _) rfl rfl ?_
  refine E_s (p' := 109) (st' := aI 0 :: _) rfl rfl ?_
  refine E_stM (p' := 110) (m' := up2 _ 167 12 0) rfl rfl ?_
  refine E_s (p' := 113) (L' := [some (aA 124), some (aI 2), some (aI 2), some (aI 13), none, none, none, none]) rfl rfl ?_
  refine E_s (p' := 97) rfl rfl ?_
  refine E_s (p' := 98) (st' := aI 13 :: _) rfl rfl ?_
  refine E_s (p' := 100) (st' := aI 61 :: _) rfl rfl ?_
  refine E_s (p' := 103) rfl rfl ?_
  refine E_s (p' := 104) (st' := aA 124 :: _) rfl rfl ?_
  refine E_s (p' := 107) (st' := aA 167 :: _) rfl rfl ?_
  refine E_s (p' := 108) (st' := aI 13 :: _) rfl rfl ?_
  refine E_s (p' := 109) (st' := aI 0 :: _) rfl rfl ?_
  refine E_stM (p' := 110) (m' := up2 _ 167 13 0) rfl rfl ?_
  refine E_s (p' := 113) (L' := [some (aA 124), some (aI 2), some (aI 2), some (aI 14), none, none, none, none]) rfl rfl ?_
  refine E_s (p' := 97) rfl rfl ?_
  refine E_s (p' := 98) (st' := aI 14 :: _) rfl rfl ?_
  refine E_s (p' := 100) (st' := aI 61 :: _) rfl rfl ?_
  refine E_s (p' := 103) rfl rfl ?_
  refine E_s (p' := 104) (st' := aA 124 :: _) rfl rfl ?_
  refine E_s (p' := 107) (st' := aA 167 :: _) rfl rfl ?_
  refine E_s (p' := 108) (st' := aI 14 :: _) rfl rfl ?_
  refine E_s (p' := 109) (st' := aI 0 :: _) rfl rfl ?_
  refine E_stM (p' := 110) (m' := up2 _ 167 14 0) rfl rfl ?_
  refine E_s (p' := 113) (L' := [some (aA 124), some (aI 2), some (aI 2), some (aI 15), none, none, none, none]) rfl rfl ?_
  refine E_s (p' := 97) rfl rfl ?_
  refine E_s (p' := 98) (st' := aI 15 :: _) rfl rfl ?_
  refine E_s (p' := 100) (st' := aI 61 :: _) rfl rfl ?_
  refine E_s (p' := 103) rfl rfl ?_
  refine E_s (p' := 104) (st' := aA 124 :: _) rfl rfl ?_
  refine E_s (p' := 107) (st' := aA 167 :: _) rfl rfl ?_
  refine E_s (p' := 108) (st' := aI 15 :: _) rfl rfl ?_
  refine E_s (p' := 109) (st' := aI 0 :: _) rfl rfl ?_
  refine E_stM (p' := 110) (m' := up2 _ 167 15 0) rfl rfl ?_
  refine E_s (p' := 113) (L' := [some (aA 124), some (aI 2), some (aI 2), some (aI 16), none, none, none, none]) rfl rfl ?_
  refine E_s (p' := 97) rfl rfl ?_
  refine E_s (p' := 98) (st' := aI 16 :: _) rfl rfl ?_
  refine E_s (p' := 100) (st' := aI 61 :: _) rfl rfl ?_
  refine E_s (p' := 103) rfl rfl ?_
  refine E_s (p' := 104) (st' := aA 124 :: _) rfl rfl ?_
  refine E_s (p' := 107) (st' := aA 167 :: _) rfl rfl ?_
  refine E_s (p' := 108) (st' := aI 16 :: _) rfl rfl ?_
  refine E_s (p' := 109) (st' := aI 0 :: _) rfl rfl ?_
  refine E_stM (p' := 110) (m' := up2 _ 167 16 0) rfl rfl ?_
  refine E_s (p' := 113) (L' := [some (aA 124), some (aI 2), some (aI 2), some (aI 17), none, none, none, none]) rfl rfl ?_
  refine E_s (p' := 97) rfl rfl ?_
  refine E_s (p' := 98) (st' := aI 17 :: _) rfl rfl ?_
  refine E_s (p' := 100) (st' := aI 61 :: _) rfl rfl ?_
  refine E_s (p' := 103) rfl rfl ?_
  refine E_s (p' := 104) (st' := aA 124 :: _) rfl rfl ?_
  refine E_s (p' := 107) (st' := aA 167 :: _) rfl rfl ?_
  refine E_s (p' := 108) (st' := aI 17 :: _) rfl rfl ?_
  refine E_s (p' := 109) (st' := aI 0 :: _) rfl rfl ?_
  refine E_stM (p' := 110) (m' := up2 _ 167 17 0) rfl rfl ?_
  refine E_s (p' := 113) (L' := [some (aA 124), some (aI 2), some (aI 2), some (aI 18), none, none, none, none]) rfl rfl ?_
  refine E_s (p' := 97) rfl rfl ?_
  refine E_s (p' := 98) (st' := aI 18 :: _) rfl rfl ?_
  refine E_s (p' := 100) (st' := aI 61 :: _) rfl rfl ?_
  refine E_s (p' := 103) rfl rfl ?_
  refine E_s (p' := 104) (st' := aA 124 :: _) rfl rfl ?_
  refine E_s (p' := 107) (st' := aA 167 :: _) rfl rfl ?_
  refine E_s (p' := 108) (st' := aI 18 :: _) rfl rfl ?_
  refine E_s (p' := 109) (st' := aI 0 :: _) rfl rfl ?_
  refine E_stM (p' := 110) (m' := up2 _ 167 18 0) rfl rfl ?_
  refine E_s (p' := 113) (L' := [some (aA 124), some (aI 2), some (aI 2), some (aI 19), none, none, none, none]) rfl rfl ?_
  refine E_s (p' := 97) rfl rfl ?_
  refine E_s (p' := 98) (st' := aI 19 :: _) rfl rfl ?_
  refine E_s (p' := 100) (st' := aI 61 :: _) rfl rfl ?_
  refine E_s (p' := 103) rfl rfl ?_
  refine E_s (p' := 104) (st' := aA 124 :: _) rfl rfl ?_
  refine E_s (p' := 107) (st' := aA 167 :: _) rfl rfl ?_
  refine E_s (p' := 108) (st' := aI 19 :: _) rfl rfl ?_
  refine E_s (p' := 109) (st' := aI 0 :: _) rfl rfl ?_
  refine E_stM (p' := 110) (m' := up2 _ 167 19 0) rfl rfl ?_
  refine E_s (p' := 113) (L' := [some (aA 124), some (aI 2), some (aI 2), some (aI 20), none, none, none, none]) rfl rfl ?_
  refine E_s (p' := 97) rfl rfl ?_
  refine E_s (p' := 98) (st' := aI 20 :: _) rfl rfl ?_
  refine E_s (p' := 100) (st' := aI 61 :: _) rfl rfl ?_
  refine E_s (p' := 103) rfl rfl ?_
  refine E_s (p' := 104) (st' := aA 124 :: _) rfl rfl ?_
  refine E_s (p' := 107) (st' := aA 167 :: _) rfl rfl ?_
  refine E_s (p' := 108) (st' := aI 20 :: _) rfl rfl ?_
  refine E_s (p' := 109) (st' := aI 0 :: _) rfl rfl ?_
  refine E_stM (p' := 110) (m' := up2 _ 167 20 0) rfl rfl ?_
  refine E_s (p' := 113) (L' := [some (aA 124), some (aI 2), some (aI 2), some (aI 21), none, none, none, none]) rfl rfl ?_
  refine E_s (p' := 97) rfl rfl ?_
  refine E_s (p' := 98) (st' := aI 21 :: _) rfl rfl ?_
  refine E_s (p' := 100) (st' := aI 61 :: _) rfl rfl ?_
  refine E_s (p' := 103) rfl rfl ?_
  refine E_s (p' := 104) (st' := aA 124 :: _) rfl rfl ?_
  refine E_s (p' := 107) (st' := aA 167 :: _) rfl rfl ?_
  refine E_s (p' := 108) (st' := aI 21 :: _) rfl rfl ?_
  refine E_s (p' := 109) (st' := aI 0 :: _) rfl rfl ?_
  refine E_stM (p' := 110) (m' := up2 _ 167 21 0) rfl rfl ?_
  refine E_s (p' := 113) (L' := [some (aA 124), some (aI 2), some (aI 2), some (aI 22), none, none, none, none]) rfl rfl ?_
  refine E_s (p' := 97) rfl rfl ?_
  refine E_s (p' := 98) (st' := aI 22 :: _) rfl rfl ?_
  refine E_s (p' := 100) (st' := aI 61 :: _) rfl rfl ?_
  refine E_s (p' := 103) rfl rfl ?_
  refine E_s (p' := 104) (st' := aA 124 :: _) rfl rfl ?_
  refine E_s (p' := 107) (st' := aA 167 :: _) rfl rfl ?_
  refine E_s (p' := 108) (st' := aI 22 :: _) rfl rfl ?_
  refine E_s (p' := 109) (st' := aI 0 :: _) rfl rfl ?_
  refine E_stM (p' := 110) (m' := up2 _ 167 22 0) rfl rfl ?_
  refine E_s (p' := 113) (L' := [some (aA 124), some (aI 2), some (aI 2), some (aI 23), none, none, none, none]) rfl rfl ?_
  refine E_s (p' := 97) rfl rfl ?_
  refine E_s (p' := 98) (st' := aI 23 :: _) rfl rfl ?_
  refine E_s (p' := 100) (st' := aI 61 :: _) rfl rfl ?_
  refine E_s (p' := 103) rfl rfl ?_
  refine E_s (p' := 104) (st' := aA 124 :: _) rfl rfl ?_
  refine E_s (p' := 107) (st' := aA 167 :: _) rfl rfl ?_
  refine E_s (p' := 108) (st' := aI 23 :: _) rfl rfl ?_
  refine E_s (p' := 109) (st' := aI 0 :: _) rfl rfl ?_
  refine E_stM (p' := 110) (m' := up2 _ 167 23 0) rfl rfl ?_
  refine E_s (p' := 113) (L' := [some (aA 124), some (aI 2), some (aI 2), some (aI 24), none, none, none, none]) rfl rfl ?_
  refine E_s (p' := 97) rfl rfl ?_
  refine E_s (p' := 98) (st' := aI 24 :: _) rfl rfl ?_
  refine E_s (p' := 100) (st' := aI 61 :: _) rfl rfl ?_
  refine E_s (p' := 103) rfl rfl ?_
  refine E_s (p' := 104) (st' := aA 124 :: _) rfl rfl ?_
  refine E_s (p' := 107) (st' := aA 167 :: _) rfl rfl ?_
  refine E_s (p' := 108) (st' := aI 24 :: _) rfl rfl ?_
  refine E_s (p' := 109) (st' := aI 0 :: _) rfl rfl ?_
  refine E_stM (p' := 110) (m' := up2 _ 167 24 0) rfl rfl ?_
  refine E_s (p' := 113) (L' := [some (aA 124), some (aI 2), some (aI 2), some (aI 25), none, none, none, none]) rfl rfl ?_
  refine E_s (p' := 97) rfl rfl ?_
  refine E_s (p' := 98) (st' := aI 25 :: _) rfl rfl ?_
  refine E_s (p' := 100) (st' := aI 61 :: _) rfl rfl ?_
  refine E_s (p' := 103) rfl rfl ?_
  refine E_s (p' := 104) (st' := aA 124 :: _) rfl rfl ?_
  refine E_s (p' := 107) (st' := aA 167 :: _) rfl rfl ?_
  refine E_s (p' := 108) (st' := aI 25 :: _) rfl rfl ?_
  refine E_s (p' := 109) (st' := aI 0 :: _) rfl rfl ?_
  refine E_stM (p' := 110) (m' := up2 _ 167 25 0) rfl rfl ?_
  refine E_s (p' := 113) (L' := [some (aA 124), some (aI 2), some (aI 2), some (aI 26), none, none, none, none]) rfl rfl ?_
  refine E_s (p' := 97) rfl rfl ?_
  refine E_s (p' := 98) (st' := aI 26 :: _) rfl rfl ?_
  refine E_s (p' := 100) (st' := aI 61 :: _) rfl rfl ?_
  refine E_s (p' := 103) rfl rfl ?_
  refine E_s (p' := 104) (st' := aA 124 :: _) rfl rfl ?_
  refine E_s (p' := 107) (st' := aA 167 :: _) rfl rfl ?_
  refine E_s (p' := 108) (st' := aI 26 :: _) rfl rfl ?_
  refine E_s (p' := 109) (st' := aI 0 :: _) rfl rfl ?_
  refine E_stM (p' := 110) (m' := up2 _ 167 26 0) rfl rfl ?_
  refine E_s (p' := 113) (L' := [some (aA 124), some (aI 2), some (aI 2), some (aI 27), none, none, none, none]) rfl rfl ?_
  refine E_s (p' := 97) rfl rfl ?_
  refine E_s (p' := 98) (st' := aI 27 :: _) rfl rfl ?_
  refine E_s (p' := 100) (st' := aI 61 :: _) rfl rfl ?_
  refine E_s (p' := 103) rfl rfl ?_
  refine E_s (p' := 104) (st' := aA 124 :: _) rfl rfl ?_
  refine E_s (p' := 107) (st' := aA 167 :: _) rfl rfl ?_
  refine E_s (p' := 108) (st' := aI 27 :: _) rfl rfl ?_
  refine E_s (p' := 109) (st' := aI 0 :: _) rfl rfl ?_
  refine E_stM (p' := 110) (m' := up2 _ 167 27 0) rfl rfl ?_
  refine E_s (p' := 113) (L' := [some (aA 124), some (aI 2), some (aI 2), some (aI 28), none, none, none, none]) rfl rfl ?_
  refine E_s (p' := 97) rfl rfl ?_
  refine E_s (p' := 98) (st' := aI 28 :: _) rfl rfl ?_
  refine E_s (p' := 100) (st' := aI 61 :: _) rfl rfl ?_
  refine E_s (p' := 103) rfl rfl ?_
  refine E_s (p' := 104) (st' := aA 124 :: _) rfl rfl ?_
  refine E_s (p' := 107) (st' := aA 167 :: _) rfl rfl ?_
  refine E_s (p' := 108) (st' := aI 28 :: _) rfl rfl ?_
  refine E_s (p' := 109) (st' := aI 0 :: _) rfl rfl ?_
  refine E_stM (p' := 110) (m' := up2 _ 167 28 0) rfl rfl ?_
  refine E_s (p' := 113) (L' := [some (aA 124), some (aI 2), some (aI 2), some (aI 29), none, none, none, none]) rfl rfl ?_
  refine E_s (p' := 97) rfl rfl ?_
  refine E_s (p' := 98) (st' := aI 29 :: _) rfl rfl ?_
  refine E_s (p' := 100) (st' := aI 61 :: _) rfl rfl ?_
  refine E_s (p' := 103) rfl rfl ?_
  refine E_s (p' := 104) (st' := aA 124 :: _) rfl rfl ?_
  refine E_s (p' := 107) (st' := aA 167 :: _) rfl rfl ?_
  refine E_s (p' := 108) (st' := aI 29 :: _) rfl rfl ?_
  refine E_s (p' := 109) (st' := aI 0 :: _) rfl rfl ?_
  refine E_stM (p' := 110) (m' := up2 _ 167 29 0) rfl rfl ?_
  refine E_s (p' := 113) (L' := [some (aA 124), some (aI 2), some (aI 2), some (aI 30), none, none, none, none]) rfl rfl ?_
  refine E_s (p' := 97) rfl rfl ?_
  refine E_s (p' := 98) (st' := aI 30 :: _) rfl rfl ?_
  refine E_s (p' := 100) (st' := aI 61 :: _) rfl rfl ?_
  refine E_s (p' := 103) rfl rfl ?_
  refine E_s (p' := 104) (st' := aA 124 :: _) rfl rfl ?_
  refine E_s (p' := 107) (st' := aA 167 :: _) rfl rfl ?_
  refine E_s (p' := 108) (st' := aI 30 :: _) rfl rfl ?_
  refine E_s (p' := 109) (st' := aI 0 :: _) rfl rfl ?_
  refine E_stM (p' := 110) (m' := up2 _ 167 30 0) rfl rfl ?_
  refine E_s (p' := 113) (L' := [some (aA 124), some (aI 2), some (aI 2), some (aI 31), none, none, none, none]) rfl rfl ?_
  refine E_s (p' := 97) rfl rfl ?_
  refine E_s (p' := 98) (st' := aI 31 :: _) rfl rfl ?_
  refine E_s (p' := 100) (st' := aI 61 :: _) rfl rfl ?_
  refine E_s (p' := 103) rfl rfl ?_
  refine E_s (p' := 104) (st' := aA 124 :: _) rfl rfl ?_
  refine E_s (p' := 107) (st' := aA 167 :: _) rfl rfl ?_
  refine E_s (p' := 108) (st' := aI 31 :: _) rfl rfl ?_
  refine E_s (p' := 109) (st' := aI 0 :: _) rfl rfl ?_
  refine E_stM (p' := 110) (m' := up2 _ 167 31 0) rfl rfl ?_
  refine E_s (p' := 113) (L' := [some (aA 124), some (aI 2), some (aI 2), some (aI 32), none, none, none, none]) rfl rfl ?_
  refine E_s (p' := 97) rfl rfl ?_
  refine E_s (p' := 98) (st' := aI 32 :: _) rfl rfl ?_
  refine E_s (p' := 100) (st' := aI 61 :: _) rfl rfl ?_
  refine E_s (p' := 103) rfl rfl ?_
  refine E_s (p' := 104) (st' := aA 124 :: _) rfl rfl ?_
  refine E_s (p' := 107) (st' := aA 167 :: _) rfl rfl ?_
  refine E_s (p' := 108) (st' := aI 32 :: _) rfl rfl ?_
  refine E_s (p' := 109) (st' := aI 0 :: _) rfl rfl ?_
  refine E_stM (p' := 110) (m' := up2 _ 167 32 0) rfl rfl ?_
  refine E_s (p' := 113) (L' := [some (aA 124), some (aI 2), some (aI 2), some (aI 33), none, none, none, none]) rfl rfl ?_
  refine E_s (p' := 97) rfl rfl ?_
  refine E_s (p' := 98) (st' := aI 33 :: _) rfl rfl ?_
  refine E_s (p' := 100) (st' := aI 61 :: _) rfl rfl ?_
  refine E_s (p' := 103) rfl rfl ?_
  refine E_s (p' := 104) (st' := aA 124 :: _) rfl rfl ?_
  refine E_s (p' := 107) (st' := aA 167 :: _) rfl rfl ?_
  refine E_s (p' := 108) (st' := aI 33 :: _) rfl rfl ?_
  refine E_s (p' := 109) (st' := aI 0 :: _) rfl rfl ?_
  refine E_stM (p' := 110) (m' := up2 _ 167 33 0) rfl rfl ?_
  refine E_s (p' := 113) (L' := [some (aA 124), some (aI 2), some (aI 2), some (aI 34), none, none, none, none]) rfl rfl ?_
  refine E_s (p' := 97) rfl rfl ?_
  refine E_s (p' := 98) (st' := aI 34 :: _) rfl rfl ?_
  refine E_s (p' := 100) (st' := aI 61 :: _) rfl rfl ?_
  refine E_s (p' := 103) rfl rfl ?_
  refine E_s (p' := 104) (st' := aA 124 :: _) rfl rfl ?_
  refine E_s (p' := 107) (st' := aA 167 :: _) rfl rfl ?_
  refine E_s (p' := 108) (st' := aI 34 :: _) rfl rfl ?_
  refine E_s (p' := 109) (st' := aI 0 :: _) rfl rfl ?_
  refine E_stM (p' := 110) (m' := up2 _ 167 34 0) rfl rfl ?_
  refine E_s (p' := 113) (L' := [some (aA 124), some (aI 2), some (aI 2), some (aI 35), none, none, none, none]) rfl rfl ?_
  refine E_s (p' := 97) rfl rfl ?_
  refine E_s (p' := 98) (st' := aI 35 :: _) rfl rfl ?_
  refine E_s (p' := 100) (st' := aI 61 :: _) rfl rfl ?_
  refine E_s (p' := 103) rfl rfl ?_
  refine E_s (p' := 104) (st' := aA 124 :: _) rfl rfl ?_
  refine E_s (p' := 107) (st' := aA 167 :: _) rfl rfl ?_
  refine E_s (p' := 108) (st' := aI 35 :: _) rfl rfl ?_
  refine E_s (p' := 109) (st' := aI 0 :: _) rfl rfl ?_
  refine E_stM (p' := 110) (m' := up2 _ 167 35 0) rfl rfl ?_
  refine E_s (p' := 113) (L' := [some (aA 124), some (aI 2), some (aI 2), some (aI 36), none, none, none, none]) rfl rfl ?_
  refine E_s (p' := 97) rfl rfl ?_
  refine E_s (p' := 98) (st' := aI 36 :: _) rfl rfl ?_
  refine E_s (p' := 100) (st' := aI 61 :: _) rfl rfl ?_
  refine E_s (p' := 103) rfl rfl ?_
  refine E_s (p' := 104) (st' := aA 124 :: _) rfl rfl ?_
  refine E_s (p' := 107) (st' := aA 167 :: _) rfl rfl ?_
  refine E_s (p' := 108) (st' := aI 36 :: _) rfl rfl ?_
  refine E_s (p' := 109) (st' := aI 0 :: _) rfl rfl ?_
  refine E_stM (p' := 110) (m' := up2 _ 167 36 0) rfl rfl ?_
  refine E_s (p' := 113) (L' := [some (aA 124), some (aI 2), some (aI 2), some (aI 37), none, none, none, none]) rfl rfl ?_
  refine E_s (p' := 97) rfl rfl ?_
  refine E_s (p' := 98) (st' := aI 37 :: _) rfl rfl ?_
  refine E_s (p' := 100) (st' := aI 61 :: _) rfl rfl ?_
  refine E_s (p' := 103) rfl rfl ?_
  refine E_s (p' := 104) (st' := aA 124 :: _) rfl rfl ?_
  refine E_s (p' := 107) (st' := aA 167 :: _) rfl rfl ?_
  refine E_s (p' := 108) (st' := aI 37 :: _) rfl rfl ?_
  refine E_s (p' := 109) (st' := aI 0 :: _) rfl rfl ?_
  refine E_stM (p' := 110) (m' := up2 _ 167 37 0) rfl rfl ?_
  refine E_s (p' := 113) (L' := [some (aA 124), some (aI 2), some (aI 2), some (aI 38), none, none, none, none]) rfl rfl ?_
  refine E_s (p' := 97) rfl rfl ?_
  refine E_s (p' := 98) (st' := aI 38 :: _) rfl rfl ?_
  refine E_s (p' := 100) (st' := aI 61 :: _) rfl rfl ?_
  refine E_s (p' := 103) rfl rfl ?_
  refine E_s (p' := 104) (st' := aA 124 :: _) rfl rfl ?_
  refine E_s (p' := 107) (st' := aA 167 :: _) rfl rfl ?_
  refine E_s (p' := 108) (st' := aI 38 :: _) rfl rfl ?_
  refine E_s (p' := 109) (st' := aI 0 :: _) rfl rfl ?_
  refine E_stM (p' := 110) (m' := up2 _ 167 38 0) rfl rfl ?_
  refine E_s (p' := 113) (L' := [some (aA 124), some (aI 2), some (aI 2), some (aI 39), none, none, none, none]) rfl rfl ?_
  refine E_s (p' := 97) rfl rfl ?_
  refine E_s (p' := 98) (st' := aI 39 :: _) rfl rfl ?_
  refine E_s (p' := 100) (st' := aI 61 :: _) rfl rfl ?_
  refine E_s (p' := 103) rfl rfl ?_
  refine E_s (p' := 104) (st' := aA 124 :: _) rfl rfl ?_
  refine E_s (p' := 107) (st' := aA 167 :: _) rfl rfl ?_
  refine E_s (p' := 108) (st' := aI 39 :: _) rfl rfl ?_
  refine E_s (p' := 109) (st' := aI 0 :: _) rfl rfl ?_
  refine E_stM (p' := 110) (m' := up2 _ 167 39 0) rfl rfl ?_
  refine E_s (p' := 113) (L' := [some (aA 124), some (aI 2), some (aI 2), some (aI 40), none, none, none, none]) rfl rfl ?_
  refine E_s (p' := 97) rfl rfl ?_
  refine E_s (p' := 98) (st' := aI 40 :: _) rfl rfl ?_
  refine E_s (p' := 100) (st' := aI 61 :: _) rfl rfl ?_
  refine E_s (p' := 103) rfl rfl ?_
  refine E_s (p' := 104) (st' := aA 124 :: _) rfl rfl ?_
  refine E_s (p' := 107) (st' := aA 167 :: _) rfl rfl ?_
  refine E_s (p' := 108) (st' := aI 40 :: _) rfl rfl ?_
  refine E_s (p' := 109) (st' := aI 0 :: _) rfl rfl ?_
  refine E_stM (p' := 110) (m' := up2 _ 167 40 0) rfl rfl ?_
  refine E_s (p' := 113) (L' := [some (aA 124), some (aI 2), some (aI 2), some (aI 41), none, none, none, none]) rfl rfl ?_
  refine E_s (p' := 97) rfl rfl ?_
  refine E_s (p' := 98) (st' := aI 41 :: _) rfl rfl ?_
  refine E_s (p' := 100) (st' := aI 61 :: _) rfl rfl ?_
  refine E_s (p' := 103) rfl rfl ?_
  refine E_s (p' := 104) (st' := aA 124 :: _) rfl rfl ?_
  refine E_s (p' := 107) (st' := aA 167 :: _) rfl rfl ?_
  refine E_s (p' := 108) (st' := aI 41 :: _) rfl rfl ?_
  refine E_s (p' := 109) (st' := aI 0 :: _) rfl rfl ?_
  refine E_stM (p' := 110) (m' := up2 _ 167 41 0) rfl rfl ?_
  refine E_s (p' := 113) (L' := [some (aA 124), some (aI 2), some (aI 2), some (aI 42), none, none, none, none]) rfl rfl ?_
  refine E_s (p' := 97) rfl rfl ?_
  refine E_s (p' := 98) (st' := aI 42 :: _) rfl rfl ?_
  refine E_s (p' := 100) (st' := aI 61 :: _) rfl rfl ?_
  refine E_s (p' := 103) rfl rfl ?_
  refine E_s (p' := 104) (st' := aA 124 :: _) rfl rfl ?_
  refine E_s (p' := 107) (st' := aA 167 :: _) rfl rfl ?_
  refine E_s (p' := 108) (st' := aI 42 :: _) rfl rfl ?_
  refine E_s (p' := 109) (st' := aI 0 :: _) rfl rfl ?_
  refine E_stM (p' := 110) (m' := up2 _ 167 42 0) rfl rfl ?_
  refine E_s (p' := 113) (L' := [some (aA 124), some (aI 2), some (aI 2), some (aI 43), none, none, none, none]) rfl rfl ?_
  refine E_s (p' := 97) rfl rfl ?_
  refine E_s (p' := 98) (st' := aI 43 :: _) rfl rfl ?_
  refine E_s (p' := 100) (st' := aI 61 :: _) rfl rfl ?_
  refine E_s (p' := 103) rfl rfl ?_
  refine E_s (p' := 104) (st' := aA 124 :: _) rfl rfl ?_
  refine E_s (p' := 107) (st' := aA 167 :: _) rfl rfl ?_
  refine E_s (p' := 108) (st' := aI 43 :: _) rfl rfl ?_
  refine E_s (p' := 109) (st' := aI 0 :: _) rfl rfl ?_
  refine E_stM (p' := 110) (m' := up2 _ 167 43 0) rfl rfl ?_
  refine E_s (p' := 113) (L' := [some (aA 124), some (aI 2), some (aI 2), some (aI 44), none, none, none, none]) rfl rfl ?_
  refine E_s (p' := 97) rfl rfl ?_
  refine E_s (p' := 98) (st' := aI 44 :: _) rfl rfl ?_
  refine E_s (p' := 100) (st' := aI 61 :: _) rfl rfl ?_
  refine E_s (p' := 103) rfl rfl ?_
  refine E_s (p' := 104) (st' := aA 124 :: _) rfl rfl ?_
  refine E_s (p' := 107) (st' := aA 167 :: _) rfl rfl ?_
  refine E_s (p' := 108) (st' := aI 44 :: _) rfl rfl ?_
  refine E_s (p' := 109) (st' := aI 0 :: _) rfl rfl ?_
  refine E_stM (p' := 110) (m' := up2 _ 167 44 0) rfl rfl ?_
  refine E_s (p' := 113) (L' := [some (aA 124), some (aI 2), some (aI 2), some (aI 45), none, none, none, none]) rfl rfl ?_
  refine E_s (p' := 97) rfl rfl ?_
  refine E_s (p' := 98) (st' := aI 45 :: _) rfl rfl ?_
  refine E_s (p' := 100) (st' := aI 61 :: _) rfl rfl ?_
  refine E_s (p' := 103) rfl rfl ?_
  refine E_s (p' := 104) (st' := aA 124 :: _) rfl rfl ?_
  refine E_s (p' := 107) (st' := aA 167 :: _) rfl rfl ?_
  refine E_s (p' := 108) (st' := aI 45 :: _) rfl rfl ?_
  refine E_s (p' := 109) (st' := aI 0 :: _) rfl rfl ?_
  refine E_stM (p' := 110) (m' := up2 _ 167 45 0) rfl rfl ?_
  refine E_s (p' := 113) (L' := [some (aA 124), some (aI 2), some (aI 2), some (aI 46), none, none, none, none]) rfl rfl ?_
  refine E_s (p' := 97) rfl rfl ?_
  refine E_s (p' := 98) (st' := aI 46 :: _) rfl rfl ?_
  refine E_s (p' := 100) (st' := aI 61 :: _) rfl rfl ?_
  refine E_s (p' := 103) rfl rfl ?_
  refine E_s (p' := 104) (st' := aA 124 :: _) rfl rfl ?_
  refine E_s (p' := 107) (st' := aA 167 :: _) rfl rfl ?_
  refine E_s (p' := 108) (st' := aI 46 :: _) rfl rfl ?_
  refine E_s (p' := 109) (st' := aI 0 :: _) rfl rfl ?_
  refine E_stM (p' := 110) (m' := up2 _ 167 46 0) rfl rfl ?_
  refine E_s (p' := 113) (L' := [some (aA 124), some (aI 2), some (aI 2), some (aI 47), none, none, none, none]) rfl rfl ?_
  refine E_s (p' := 97) rfl rfl ?_
  refine E_s (p' := 98) (st' := aI 47 :: _) rfl rfl ?_
  refine E_s (p' := 100) (st' := aI 61 :: _) rfl rfl ?_
  refine E_s (p' := 103) rfl rfl ?_
  refine E_s (p' := 104) (st' := aA 124 :: _) rfl rfl ?_
  refine E_s (p' := 107) (st' := aA 167 :: _) rfl rfl ?_
  refine E_s (p' := 108) (st' := aI 47 :: _) rfl rfl ?_
  refine E_s (p' := 109) (st' := aI 0 :: _) rfl rfl ?_
  refine E_stM (p' := 110) (m' := up2 _ 167 47 0) rfl rfl ?_
  refine E_s (p' := 113) (L' := [some (aA 124), some (aI 2), some (aI 2), some (aI 48), none, none, none, none]) rfl rfl ?_
  refine E_s (p' := 97) rfl rfl ?_
  refine E_s (p' := 98) (st' := aI 48 :: _) rfl rfl ?_
  refine E_s (p' := 100) (st' := aI 61 :: _) rfl rfl ?_
  refine E_s (p' := 103) rfl rfl ?_
  refine E_s (p' := 104) (st' := aA 124 :: _) rfl rfl ?_
  refine E_s (p' := 107) (st' := aA 167 :: _) rfl rfl ?_
  refine E_s (p' := 108) (st' := aI 48 :: _) rfl rfl ?_
  refine E_s (p' := 109) (st' := aI 0 :: _) rfl rfl ?_
  refine E_stM (p' := 110) (m' := up2 _ 167 48 0) rfl rfl ?_
  refine E_s (p' := 113) (L' := [some (aA 124), some (aI 2), some (aI 2), some (aI 49), none, none, none, none]) rfl rfl ?_
  refine E_s (p' := 97) rfl rfl ?_
  refine E_s (p' := 98) (st' := aI 49 :: _) rfl rfl ?_
  refine E_s (p' := 100) (st' := aI 61 :: _) rfl rfl ?_
  refine E_s (p' := 103) rfl rfl ?_
  refine E_s (p' := 104) (st' := aA 124 :: _) rfl rfl ?_
  refine E_s (p' := 107) (st' := aA 167 :: _) rfl rfl ?_
  refine E_s (p' := 108) (st' := aI 49 :: _) rfl rfl ?_
  refine E_s (p' := 109) (st' := aI 0 :: _) rfl rfl ?_
  refine E_stM (p' := 110) (m' := up2 _ 167 49 0) rfl rfl ?_
  refine E_s (p' := 113) (L' := [some (aA 124), some (aI 2), some (aI 2), some (aI 50), none, none, none, none]) rfl rfl ?_
  refine E_s (p' := 97) rfl rfl ?_
  refine E_s (p' := 98) (st' := aI 50 :: _) rfl rfl ?_
  refine E_s (p' := 100) (st' := aI 61 :: _) rfl rfl ?_
  refine E_s (p' := 103) rfl rfl ?_
  refine E_s (p' := 104) (st' := aA 124 :: _) rfl rfl ?_
  refine E_s (p' := 107) (st' := aA 167 :: _) rfl rfl ?_
  refine E_s (p' := 108) (st' := aI 50 :: _) rfl rfl ?_
  refine E_s (p' := 109) (st' := aI 0 :: _) rfl rfl ?_
  refine E_stM (p' := 110) (m' := up2 _ 167 50 0) rfl rfl ?_
  refine E_s (p' := 113) (L' := [some (aA 124), some (aI 2), some (aI 2), some (aI 51), none, none, none, none]) rfl rfl ?_
  refine E_s (p' := 97) rfl rfl ?_
  refine E_s (p' := 98) (st' := aI 51 :: _) rfl rfl ?_
  refine E_s (p' := 100) (st' := aI 61 :: _) rfl rfl ?_
  refine E_s (p' := 103) rfl rfl ?_
  refine E_s (p' := 104) (st' := aA 124 :: _) rfl rfl ?_
  refine E_s (p' := 107) (st' := aA 167 :: _) rfl rfl ?_
  refine E_s (p' := 108) (st' := aI 51 :: _) rfl rfl ?_
  refine E_s (p' := 109) (st' := aI 0 :: _) rfl rfl ?_
  refine E_stM (p' := 110) (m' := up2 _ 167 51 0) rfl rfl ?_
  refine E_s (p' := 113) (L' := [some (aA 124), some (aI 2), some (aI 2), some (aI 52), none, none, none, none]) rfl rfl ?_
  refine E_s (p' := 97) rfl rfl ?_
  refine E_s (p' := 98) (st' := aI 52 :: _) rfl rfl ?_
  refine E_s (p' := 100) (st' := aI 61 :: _) rfl rfl ?_
  refine E_s (p' := 103) rfl rfl ?_
  refine E_s (p' := 104) (st' := aA 124 :: _) rfl rfl ?_
  refine E_s (p' := 107) (st' := aA 167 :: _) rfl rfl ?_
  refine E_s (p' := 108) (st' := aI 52 :: _) rfl rfl ?_
  refine E_s (p' := 109) (st' := aI 0 :: _) rfl rfl ?_
  refine E_stM (p' := 110) (m' := up2 _ 167 52 0) rfl rfl ?_
  refine E_s (p' := 113) (L' := [some (aA 124), some (aI 2), some (aI 2), some (aI 53), none, none, none, none]) rfl rfl ?_
  refine E_s (p' := 97) rfl rfl ?_
  refine E_s (p' := 98) (st' := aI 53 :: _) rfl rfl ?_
  refine E_s (p' := 100) (st' := aI 61 :: _) rfl rfl ?_
  refine E_s (p' := 103) rfl rfl ?_
  refine E_s (p' := 104) (st' := aA 124 :: _) rfl rfl ?_
  refine E_s (p' := 107) (st' := aA 167 :: _) rfl rfl ?_
  refine E_s (p' := 108) (st' := aI 53 :: _) rfl rfl ?_
  refine E_s (p' := 109) (st' := aI 0 :: _) rfl rfl ?_
  refine E_stM (p' := 110) (m' := up2 _ 167 53 0) rfl rfl ?_
  refine E_s (p' := 113) (L' := [some (aA 124), some (aI 2), some (aI 2), some (aI 54), none, none, none, none]) rfl rfl ?_
  refine E_s (p' := 97) rfl rfl ?_
  refine E_s (p' := 98) (st' := aI 54 :: _) rfl rfl ?_
  refine E_s (p' := 100) (st' := aI 61 :: _) rfl rfl ?_
  refine E_s (p' := 103) rfl rfl ?_
  refine E_s (p' := 104) (st' := aA 124 :: _) rfl rfl ?_
  refine E_s (p' := 107) (st' := aA 167 :: _) rfl rfl ?_
  refine E_s (p' := 108) (st' := aI 54 :: _) rfl rfl ?_
  refine E_s (p' := 109) (st' := aI 0 :: _) rfl rfl ?_
  refine E_stM (p' := 110) (m' := up2 _ 167 54 0) rfl rfl ?_
  refine E_s (p' := 113) (L' := [some (aA 124), some (aI 2), some (aI 2), some (aI 55), none, none, none, none]) rfl rfl ?_
  refine E_s (p' := 97) rfl rfl ?_
  refine E_s (p' := 98) (st' := aI 55 :: _) rfl rfl ?_
  refine E_s (p' := 100) (st' := aI 61 :: _) rfl rfl ?_
  refine E_s (p' := 103) rfl rfl ?_
  refine E_s (p' := 104) (st' := aA 124 :: _) rfl rfl ?_
  refine E_s (p' := 107) (st' := aA 167 :: _) rfl rfl ?_
  refine E_s (p' := 108) (st' := aI 55 :: _) rfl rfl ?_
  refine E_s (p' := 109) (st' := aI 0 :: _) rfl rfl ?_
  refine E_stM (p' := 110) (m' := up2 _ 167 55 0) rfl rfl ?_
  refine E_s (p' := 113) (L' := [some (aA 124), some (aI 2), some (aI 2), some (aI 56), none, none, none, none]) rfl rfl ?_
  refine E_s (p' := 97) rfl rfl ?_
  refine E_s (p' := 98) (st' := aI 56 :: _) rfl rfl ?_
  refine E_s (p' := 100) (st' := aI 61 :: _) rfl rfl ?_
  refine E_s (p' := 103) rfl rfl ?_
  refine E_s (p' := 104) (st' := aA 124 :: _) rfl rfl ?_
  refine E_s (p' := 107) (st' := aA 167 :: _) rfl rfl ?_
  refine E_s (p' := 108) (st' := aI 56 :: _) rfl rfl ?_
  refine E_s (p' := 109) (st' := aI 0 :: _) rfl rfl ?_
  refine E_stM (p' := 110) (m' := up2 _ 167 56 0) rfl rfl ?_
  refine E_s (p' := 113) (L' := [some (aA 124), some (aI 2), some (aI 2), some (aI 57), none, none, none, none]) rfl rfl ?_
  refine E_s (p' := 97) rfl rfl ?_
  refine E_s (p' := 98) (st' := aI 57 :: _) rfl rfl ?_
  refine E_s (p' := 100) (st' := aI 61 :: _) rfl rfl ?_
  refine E_s (p' := 103) rfl rfl ?_
  refine E_s (p' := 104) (st' := aA 124 :: _) rfl rfl ?_
  refine E_s (p' := 107) (st' := aA 167 :: _) rfl rfl ?_
  refine E_s (p' := 108) (st' := aI 57 :: _) rfl rfl ?_
  refine E_s (p' := 109) (st' := aI 0 :: _) rfl rfl ?_
  refine E_stM (p' := 110) (m' := up2 _ 167 57 0) rfl rfl ?_
  refine E_s (p' := 113) (L' := [some (aA 124), some (aI 2), some (aI 2), some (aI 58), none, none, none, none]) rfl rfl ?_
  refine E_s (p' := 97) rfl rfl ?_
  refine E_s (p' := 98) (st' := aI 58 :: _) rfl rfl ?_
  refine E_s (p' := 100) (st' := aI 61 :: _) rfl rfl ?_
  refine E_s (p' := 103) rfl rfl ?_
  refine E_s (p' := 104) (st' := aA 124 :: _) rfl rfl ?_
  refine E_s (p' := 107) (st' := aA 167 :: _) rfl rfl ?_
  refine E_s (p' := 108) (st' := aI 58 :: _) rfl rfl ?_
  refine E_s (p' := 109) (st' := aI 0 :: _) rfl rfl ?_
  refine E_stM (p' := 110) (m' := up2 _ 167 58 0) rfl rfl ?_
  refine E_s (p' := 113) (L' := [some (aA 124), some (aI 2), some (aI 2), some (aI 59), none, none, none, none]) rfl rfl ?_
  refine E_s (p' := 97) rfl rfl ?_
  refine E_s (p' := 98) (st' := aI 59 :: _) rfl rfl ?_
  refine E_s (p' := 100) (st' := aI 61 :: _) rfl rfl ?_
  refine E_s (p' := 103) rfl rfl ?_
  refine E_s (p' := 104) (st' := aA 124 :: _) rfl rfl ?_
  refine E_s (p' := 107) (st' := aA 167 :: _) rfl rfl ?_
  refine E_s (p' := 108) (st' := aI 59 :: _) rfl rfl ?_
  refine E_s (p' := 109) (st' := aI 0 :: _) rfl rfl ?_
  refine E_stM (p' := 110) (m' := up2 _ 167 59 0) rfl rfl ?_
  refine E_s (p' := 113) (L' := [some (aA 124), some (aI 2), some (aI 2), some (aI 60), none, none, none, none]) rfl rfl ?_
  refine E_s (p' := 97) rfl rfl ?_
  refine E_s (p' := 98) (st' := aI 60 :: _) rfl rfl ?_
  refine E_s (p' := 100) (st' := aI 61 :: _) rfl rfl ?_
  refine E_s (p' := 103) rfl rfl ?_
  refine E_s (p' := 104) (st' := aA 124 :: _) rfl rfl ?_
  refine E_s (p' := 107) (st' := aA 167 :: _) rfl rfl ?_
  refine E_s (p' := 108) (st' := aI 60 :: _) rfl rfl ?_
  refine E_s (p' := 109) (st' := aI 0 :: _) rfl rfl ?_
  refine E_stM (p' := 110) (m' := up2 _ 167 60 0) rfl rfl ?_
  refine E_s (p' := 113) (L' := [some (aA 124), some (aI 2), some (aI 2), some (aI 61), none, none, none, none]) rfl rfl ?_
  refine E_s (p' := 97) rfl rfl ?_
  refine E_s (p' := 98) (st' := aI 61 :: _) rfl rfl ?_
  refine E_s (p' := 100) (st' := aI 61 :: _) rfl rfl ?_
  refine E_s (p' := 116) rfl rfl ?_
  refine E_s (p' := 117) (st' := aI 0 :: _) rfl rfl ?_
  refine E_s (p' := 118) (L' := [some (aA 124), some (aI 2), some (aI 2), some (aI 0), none, none, none, none]) rfl rfl ?_
  refine E_s (p' := 119) (st' := aI 0 :: _) rfl rfl ?_
  refine E_s (p' := 120) (st' := aA 124 :: _) rfl rfl ?_
  refine E_s (p' := 123) (st' := aA 125 :: _) rfl rfl ?_
  refine E_s (p' := 124) (st' := aI 2 :: _) rfl rfl ?_
  refine E_s (p' := 125) (st' := aI 0 :: _) rfl rfl ?_
  refine E_s (p' := 289) rfl rfl ?_
  refine E_s (p' := 290) (st' := aA 124 :: _) rfl rfl ?_
  refine E_s (p' := 293) (st' := aA 167 :: _) rfl rfl ?_
  refine E_s (p' := 294) (st' := aA 124 :: _) rfl rfl ?_
  refine E_s (p' := 297) (st' := aA 125 :: _) rfl rfl ?_
  refine E_s (p' := 298) (st' := aI 2 :: _) rfl rfl ?_
  refine E_s (p' := 299) (st' := aI 0 :: _) rfl rfl ?_
  refine E_s (p' := 300) (st' := aI 0 :: _) rfl rfl ?_
  refine E_ret rfl rfl ?_
  refine E_s (p' := 1174) rfl rfl ?_
  refine E_s (p' := 1177) (L' := [some (aA 0), some (aA 1), some (aA 124), some (aI 6)]) rfl rfl ?_
  refine E_s (p' := 18) rfl rfl ?_
  refine E_s (p' := 19) (st' := aI 6 :: _) rfl rfl ?_
  refine E_s (p' := 20) (st' := aA 0 :: _) rfl rfl ?_
  refine E_s (p' := 21) (st' := aI 6 :: _) rfl rfl ?_
  refine E_s (p' := 23) (st' := aI 6 :: _) rfl rfl ?_
  refine E_s (p' := 24) (st' := aI 0 :: _) rfl rfl ?_
  refine E_s (p' := 1180) rfl rfl ?_
  refine E_s (p' := 1181) (st' := aI 1 :: _) rfl rfl ?_
  exact E_ret rfl rfl ⟨rfl, rfl⟩
set_option maxRecDepth 100000 in
set_option maxHeartbeats 40000000 in
theorem pc_26_2_3 (xs : Nat → Int) {z a3 a4 a5 : Int} (hz : b32 (fun a b => a &&& b) z 31 = 26) (h0 : xs 0 = z) (h1 : xs 1 = 2) (h2 : xs 2 = 3) (h3 : xs 3 = a3) (h4 : xs 4 = a4) (h5 : xs 5 = a5) : E 0 18 LL [] (s0 xs 6) PQ := by
  refine E_s (p' := 19) (st' := aI 0 :: _) rfl rfl ?_
  refine E_s (p' := 20) (st' := aA 0 :: _) rfl rfl ?_
  refine E_s (p' := 21) (st' := aI 6 :: _) rfl rfl ?_
  refine E_s (p' := 23) (st' := aI 6 :: _) rfl rfl ?_
  refine E_s (p' := 24) (st' := aI 0 :: _) rfl rfl ?_
  refine E_s (p' := 27) rfl rfl ?_
  refine E_s (p' := 28) (st' := aA 0 :: _) rfl rfl ?_
  refine E_s (p' := 29) (st' := aI 0 :: _) rfl rfl ?_
  refine E_scr rfl rfl h0 ?_
  refine E_s (p' := 32) (st' := aI 31 :: _) rfl rfl ?_
  refine E_s (p' := 33) rfl rfl ?_
  refine E_val hz ?_
  refine E_s (p' := 1108) rfl rfl ?_
  refine E_s (p' := 1109) (st' := aA 1 :: _) rfl rfl ?_
  refine E_s (p' := 1110) (st' := aA 0 :: _) rfl rfl ?_
  refine E_s (p' := 1111) (st' := aI 0 :: _) rfl rfl ?_
  refine E_s (p' := 1112) (st' := aI 1 :: _) rfl rfl ?_
  refine E_s (p' := 1113) (st' := aI 1 :: _) rfl rfl ?_
  refine E_scr rfl rfl h1 ?_
  refine E_s (p' := 1115) (st' := aA 0 :: _) rfl rfl ?_
  refine E_s (p' := 1116) (st' := aI 0 :: _) rfl rfl ?_
  refine E_s (p' := 1117) (st' := aI 2 :: _) rfl rfl ?_
  refine E_s (p' := 1118) (st' := aI 2 :: _) rfl rfl ?_
  refine E_scr rfl rfl h2 ?_
  refine E_callL (p' := 1122) (L0 := [some (aA 1), some (aI 2), some (aI 3), none, none, none]) rfl rfl rfl ?_
  refine E_s (p' := 1) (st' := aA 1 :: _) rfl rfl ?_
  refine E_s (p' := 2) (st' := aI 2 :: _) rfl rfl ?_
  refine E_callL (p' := 5) (L0 := [some (aA 1), some (aI 2), none]) rfl rfl rfl ?_
  refine E_s (p' := 1) (st' := aA 1 :: _) rfl rfl ?_
  refine E_s (p' := 2) (st' := aI 2 :: _) rfl rfl ?_
  refine E_callL (p' := 5) (L0 := [some (aA 1), some (aI 2)]) rfl rfl rfl ?_
  refine E_s (p' := 1) (st' := aI 2 :: _) rfl rfl ?_
  refine E_s (p' := 4) rfl rfl ?_
  refine E_s (p' := 5) (st' := aI 2 :: _) rfl rfl ?_
  refine E_s (p' := 6) (st' := aI 4 :: _) rfl rfl ?_
  refine E_s (p' := 9) rfl rfl ?_
  refine E_s (p' := 10) (st' := aA 1 :: _) rfl rfl ?_
  refine E_s (p' := 13) (st' := aA 2 :: _) rfl rfl ?_
  refine E_s (p' := 14) (st' := aI 2 :: _) rfl rfl ?_
  refine E_s (p' := 15) (st' := aA 72 :: _) rfl rfl ?_
  refine E_s (p' := 19) rfl rfl ?_
  refine E_ret rfl rfl ?_
  refine E_s (p' := 6) (L' := [some (aA 1), some (aI 2), some (aA 72)]) rfl rfl ?_
  refine E_s (p' := 7) (st' := aA 72 :: _) rfl rfl ?_
  refine E_s (p' := 10) rfl rfl ?_
  refine E_s (p' := 11) (st' := aA 72 :: _) rfl rfl ?_
  refine E_callL (p' := 14) (L0 := [some (aA 72)]) rfl rfl rfl ?_
  refine E_s (p' := 1) (st' := aA 72 :: _) rfl rfl ?_
  refine E_s (p' := 4) (st' := aI 0 :: _) rfl rfl ?_
  refine E_s (p' := 7) rfl rfl ?_
  refine E_s (p' := 8) (st' := aA 72 :: _) rfl rfl ?_
  refine E_s (p' := 11) (st' := aA 87 :: _) rfl rfl ?_
  refine E_s (p' := 12) (st' := aA 72 :: _) rfl rfl ?_
  refine E_s (p' := 15) (st' := aA 73 :: _) rfl rfl ?_
  refine E_s (p' := 16) (st' := aA 72 :: _) rfl rfl ?_
  refine E_s (p' := 19) (st' := aI 15 :: _) rfl rfl ?_
  refine E_callL (p' := 22) (L0 := [some (aA 87), some (aA 73), some (aI 15), none]) rfl rfl rfl ?_
  refine E_s (p' := 1) (st' := aA 87 :: _) rfl rfl ?_
  refine E_s (p' := 2) (st' := aA 73 :: _) rfl rfl ?_
  refine E_callL (p' := 5) (L0 := [some (aA 87), some (aA 73), none, none]) rfl rfl rfl ?_
  refine E_s (p' := 1) (st' := aA 87 :: _) rfl rfl ?_
  refine E_s (p' := 4) (st' := aA 96 :: _) rfl rfl ?_
  refine E_s (p' := 5) (st' := aI 0 :: _) rfl rfl ?_
  refine E_call rfl rfl ?_
  refine c_fill rfl rfl ?_
  refine E_s (p' := 9) (st' := aA 87 :: _) rfl rfl ?_
  refine E_s (p' := 12) (st' := aA 92 :: _) rfl rfl ?_
  refine E_s (p' := 13) (st' := aI 0 :: _) rfl rfl ?_
  refine E_call rfl rfl ?_
  refine c_fill rfl rfl ?_
  refine E_s (p' := 17) (st' := aA 87 :: _) rfl rfl ?_
  refine E_s (p' := 18) (st' := aI 0 :: _) rfl rfl ?_
  refine E_stM (p' := 21) (m' := up2 _ 87 10 0) rfl rfl ?_
  refine E_s (p' := 22) (st' := aA 87 :: _) rfl rfl ?_
  refine E_s (p' := 23) (st' := aI 0 :: _) rfl rfl ?_
  refine E_stM (p' := 26) (m' := up2 _ 87 11 0) rfl rfl ?_
  refine E_s (p' := 27) (st' := aI 0 :: _) rfl rfl ?_
  refine E_s (p' := 28) (L' := [some (aA 87), some (aA 73), some (aI 0), none]) rfl rfl ?_
  refine E_s (p' := 29) (st' := aI 0 :: _) rfl rfl ?_
  refine E_s (p' := 30) (st' := aA 73 :: _) rfl rfl ?_
  refine E_s (p' := 33) (st' := aI 0 :: _) rfl rfl ?_
  refine E_s (p' := 135) rfl rfl ?_
  refine E_ret rfl rfl ?_
  refine E_s (p' := 6) (st' := aA 87 :: _) rfl rfl ?_
  refine E_s (p' := 7) (st' := aI 15 :: _) rfl rfl ?_
  refine E_callL (p' := 10) (L0 := [some (aA 87), some (aI 15), none]) rfl rfl rfl ?_
  refine E_s (p' := 1) (st' := aA 87 :: _) rfl rfl ?_
  refine E_s (p' := 2) (st' := aI 0 :: _) rfl rfl ?_
  refine E_stM (p' := 5) (m' := up2 _ 87 12 0) rfl rfl ?_
  refine E_s (p' := 6) (st' := aI 1 :: _) rfl rfl ?_
  refine E_s (p' := 7) (L' := [some (aA 87), some (aI 15), some (aI 1)]) rfl rfl ?_
  refine fl_loop (gp := 0) (by decide) _ 600 1 _ rfl (fun j hj => show (if 0 ≤ j ∧ j < 601 then (0 : Int) else _) = 0 from if_pos ⟨Nat.zero_le _, hj⟩) ?_
  refine E_s (p' := 11) (st' := aA 87 :: _) rfl rfl ?_
  refine E_s (p' := 14) (st' := aI 0 :: _) rfl rfl ?_
  refine E_s (p' := 17) rfl rfl ?_
  refine E_s (p' := 18) (st' := aA 87 :: _) rfl rfl ?_
  refine E_callL (p' := 21) (L0 := [some (aA 87)]) rfl rfl rfl ?_
  refine E_s (p' := 1) (st' := aA 87 :: _) rfl rfl ?_
  refine E_s (p' := 4) (st' := aA 93 :: _) rfl rfl ?_
  refine E_s (p' := 5) (st' := aA 87 :: _) rfl rfl ?_
  refine E_s (p' := 8) (st' := aI 0 :: _) rfl rfl ?_
  refine E_s (p' := 15) rfl rfl ?_
  refine E_s (p' := 16) (st' := aI 0 :: _) rfl rfl ?_
  refine E_call rfl rfl ?_
  refine c_fill rfl rfl ?_
  refine E_s (p' := 20) (st' := aA 87 :: _) rfl rfl ?_
  refine E_s (p' := 23) (st' := aA 94 :: _) rfl rfl ?_
  refine E_s (p' := 24) (st' := aI 0 :: _) rfl rfl ?_
  refine E_call rfl rfl ?_
  refine c_fill rfl rfl ?_
  refine E_s (p' := 28) (st' := aA 87 :: _) rfl rfl ?_
  refine E_s (p' := 31) (st' := aA 95 :: _) rfl rfl ?_
  refine E_s (p' := 32) (st' := aI 0 :: _) rfl rfl ?_
  refine E_call rfl rfl ?_
  refine c_fill rfl rfl ?_
  refine E_ret rfl rfl ?_
  refine E_ret rfl rfl ?_
  refine E_s (p' := 23) (st' := aA 72 :: _) rfl rfl ?_
  refine E_s (p' := 24) (st' := aI 1 :: _) rfl rfl ?_
  refine E_stM (p' := 27) (m' := up2 _ 72 7 1) rfl rfl ?_
  refine E_s (p' := 28) (st' := aA 72 :: _) rfl rfl ?_
  refine E_s (p' := 31) (st' := aA 87 :: _) rfl rfl ?_
  refine E_ret rfl rfl ?_
  refine E_s (p' := 15) rfl rfl ?_
  refine E_s (p' := 16) (st' := aA 72 :: _) rfl rfl ?_
  refine E_ret rfl rfl ?_
  refine E_s (p' := 6) (L' := [some (aA 1), some (aI 2), some (aI 3), some (aA 72), none, none]) rfl rfl ?_
  refine E_s (p' := 7) (st' := aA 1 :: _) rfl rfl ?_
  refine E_s (p' := 8) (st' := aI 3 :: _) rfl rfl ?_
  refine E_callL (p' := 11) (L0 := [some (aA 1), some (aI 3), none]) rfl rfl rfl ?_
  refine E_s (p' := 1) (st' := aA 1 :: _) rfl rfl ?_
  refine E_s (p' := 2) (st' := aI 3 :: _) rfl rfl ?_
  refine E_callL (p' := 5) (L0 := [some (aA 1), some (aI 3)]) rfl rfl rfl ?_
  refine E_s (p' := 1) (st' := aI 3 :: _) rfl rfl ?_
  refine E_s (p' := 4) rfl rfl ?_
  refine E_s (p' := 5) (st' := aI 3 :: _) rfl rfl ?_
  refine E_s (p' := 6) (st' := aI 4 :: _) rfl rfl ?_
  refine E_s (p' := 9) rfl rfl ?_
  refine E_s (p' := 10) (st' := aA 1 :: _) rfl rfl ?_
  refine E_s (p' := 13) (st' := aA 2 :: _) rfl rfl ?_
  refine E_s (p' := 14) (st' := aI 3 :: _) rfl rfl ?_
  refine E_s (p' := 15) (st' := aA 98 :: _) rfl rfl ?_
  refine E_s (p' := 19) rfl rfl ?_
  refine E_ret rfl rfl ?_
  refine E_s (p' := 6) (L' := [some (aA 1), some (aI 3), some (aA 98)]) rfl rfl ?_
  refine E_s (p' := 7) (st' := aA 98 :: _) rfl rfl ?_
  refine E_s (p' := 10) rfl rfl ?_
  refine E_s (p' := 11) (st' := aA 98 :: _) rfl rfl ?_
  refine E_callL (p' := 14) (L0 := [some (aA 98)]) rfl rfl rfl ?_
  refine E_s (p' := 1) (st' := aA 98 :: _) rfl rfl ?_
  refine E_s (p' := 4) (st' := aI 0 :: _) rfl rfl ?_
  refine E_s (p' := 7) rfl rfl ?_
  refine E_s (p' := 8) (st' := aA 98 :: _) rfl rfl ?_
  refine E_s (p' := 11) (st' := aA 113 :: _) rfl rfl ?_
  refine E_s (p' := 12) (st' := aA 98 :: _) rfl rfl ?_
  refine E_s (p' := 15) (st' := aA 99 :: _) rfl rfl ?_
  refine E_s (p' := 16) (st' := aA 98 :: _) rfl rfl ?_
  refine E_s (p' := 19) (st' := aI 15 :: _) rfl rfl ?_
  refine E_callL (p' := 22) (L0 := [some (aA 113), some (aA 99), some (aI 15), none]) rfl rfl rfl ?_
  refine E_s (p' := 1) (st' := aA 113 :: _) rfl rfl ?_
  refine E_s (p' := 2) (st' := aA 99 :: _) rfl rfl ?_
  refine E_callL (p' := 5) (L0 := [some (aA 113), some (aA 99), none, none]) rfl rfl rfl ?_
  refine E_s (p' := 1) (st' := aA 113 :: _) rfl rfl ?_
  refine E_s (p' := 4) (st' := aA 122 :: _) rfl rfl ?_
  refine E_s (p' := 5) (st' := aI 0 :: _) rfl rfl ?_
  refine E_call rfl rfl ?_
  refine c_fill rfl rfl ?_
  refine E_s (p' := 9) (st' := aA 113 :: _) rfl rfl ?_
  refine E_s (p' := 12) (st' := aA 118 :: _) rfl rfl ?_
  refine E_s (p' := 13) (st' := aI 0 :: _) rfl rfl ?_
  refine E_call rfl rfl ?_
  refine c_fill rfl rfl ?_
  refine E_s (p' := 17) (st' := aA 113 :: _) rfl rfl ?_
  refine E_s (p' := 18) (st' := aI 0 :: _) rfl rfl ?_
  refine E_stM (p' := 21) (m' := up2 _ 113 10 0) rfl rfl ?_
  refine E_s (p' := 22) (st' := aA 113 :: _) rfl rfl ?_
  refine E_s (p' := 23) (st' := aI 0 :: _) rfl rfl ?_
  refine E_stM (p' := 26) (m' := up2 _ 113 11 0) rfl rfl ?_
  refine E_s (p' := 27) (st' := aI 0 :: _) rfl rfl ?_
  refine E_s (p' := 28) (L' := [some (aA 113), some (aA 99), some (aI 0), none]) rfl rfl ?_
  refine E_s (p' := 29) (st' := aI 0 :: _) rfl rfl ?_
  refine E_s (p' := 30) (st' := aA 99 :: _) rfl rfl ?_
  refine E_s (p' := 33) (st' := aI 0 :: _) rfl rfl ?_
  refine E_s (p' := 135) rfl rfl ?_
  refine E_ret rfl rfl ?_
  refine E_s (p' := 6) (st' := aA 113 :: _) rfl rfl ?_
  refine E_s (p' := 7) (st' := aI 15 :: _) rfl rfl ?_
  refine E_callL (p' := 10) (L0 := [some (aA 113), some (aI 15), none]) rfl rfl rfl ?_
  refine E_s (p' := 1) (st' := aA 113 :: _) rfl rfl ?_
  refine E_s (p' := 2) (st' := aI 0 :: _) rfl rfl ?_
  refine E_stM (p' := 5) (m' := up2 _ 113 12 0) rfl rfl ?_
  refine E_s (p' := 6) (st' := aI 1 :: _) rfl rfl ?_
  refine E_s (p' := 7) (L' := [some (aA 113), some (aI 15), some (aI 1)]) rfl rfl ?_
  refine fl_loop (gp := 0) (by decide) _ 600 1 _ rfl (fun j hj => show (if 0 ≤ j ∧ j < 601 then (0 : Int) else _) = 0 from if_pos ⟨Nat.zero_le _, hj⟩) ?_
  refine E_s (p' := 11) (st' := aA 113 :: _) rfl rfl ?_
  refine E_s (p' := 14) (st' := aI 0 :: _) rfl rfl ?_
  refine E_s (p' := 17) rfl rfl ?_
  refine E_s (p' := 18) (st' := aA 113 :: _) rfl rfl ?_
  refine E_callL (p' := 21) (L0 := [some (aA 113)]) rfl rfl rfl ?_
  refine E_s (p' := 1) (st' := aA 113 :: _) rfl rfl ?_
  refine E_s (p' := 4) (st' := aA 119 :: _) rfl rfl ?_
  refine E_s (p' := 5) (st' := aA 113 :: _) rfl rfl ?_
  refine E_s (p' := 8) (st' := aI 0 :: _) rfl rfl ?_
  refine E_s (p' := 15) rfl rfl ?_
  refine E_s (p' := 16) (st' := aI 0 :: _) rfl rfl ?_
  refine E_call rfl rfl ?_
  refine c_fill rfl rfl ?_
  refine E_s (p' := 20) (st' := aA 113 :: _) rfl rfl ?_
  refine E_s (p' := 23) (st' := aA 120 :: _) rfl rfl ?_
  refine E_s (p' := 24) (st' := aI 0 :: _) rfl rfl ?_
  refine E_call rfl rfl ?_
  refine c_fill rfl rfl ?_
  refine E_s (p' := 28) (st' := aA 113 :: _) rfl rfl ?_
  refine E_s (p' := 31) (st' := aA 121 :: _) rfl rfl ?_
  refine E_s (p' := 32) (st' := aI 0 :: _) rfl rfl ?_
  refine E_call rfl rfl ?_
  refine c_fill rfl rfl ?_
  refine E_ret rfl rfl ?_
  refine E_ret rfl rfl ?_
  refine E_s (p' := 23) (st' := aA 98 :: _) rfl rfl ?_
  refine E_s (p' := 24) (st' := aI 1 :: _) rfl rfl ?_
  refine E_stM (p' := 27) (m' := up2 _ 98 7 1) rfl rfl ?_
  refine E_s (p' := 28) (st' := aA 98 :: _) rfl rfl ?_
  refine E_s (p' := 31) (st' := aA 113 :: _) rfl rfl ?_
  refine E_ret rfl rfl ?_
  refine E_s (p' := 15) rfl rfl ?_
  refine E_s (p' := 16) (st' := aA 98 :: _) rfl rfl ?_
  refine E_ret rfl rfl ?_
  refine E_s (p' := 13) (L' := [some (aA 1), some (aI 2), some (aI 3), some (aA 72), some (aA 98), none]) rfl rfl ?_
  refine E_s (p' := 14) (st' := aA 72 :: _) rfl rfl ?_
  refine E_s (p' := 17) rfl rfl ?_
  refine E_s (p' := 19) (st' := aA 98 :: _) rfl rfl ?_
  refine E_s (p' := 25) rfl rfl ?_
  refine E_s (p' := 26) (st' := aA 1 :: _) rfl rfl ?_
  refine E_s (p' := 29) (st' := aA 19 :: _) rfl rfl ?_
  refine E_s (p' := 30) (st' := aI 0 :: _) rfl rfl ?_
  refine E_call rfl rfl ?_
  refine c_fill rfl rfl ?_
  refine E_s (p' := 34) (st' := aI 0 :: _) rfl rfl ?_
  refine E_s (p' := 36) (L' := [some (aA 1), some (aI 2), some (aI 3), some (aA 72), some (aA 98), some (aI 0)]) rfl rfl ?_
  refine E_s (p' := 38) (st' := aI 0 :: _) rfl rfl ?_
  refine E_s (p' := 39) (st' := aA 72 :: _) rfl rfl ?_
  refine E_s (p' := 42) (st' := aA 73 :: _) rfl rfl ?_
  refine E_s (p' := 45) (st' := aI 0 :: _) rfl rfl ?_
  refine E_s (p' := 72) rfl rfl ?_
  refine E_s (p' := 73) (st' := aA 1 :: _) rfl rfl ?_
  refine E_s (p' := 76) (st' := aA 19 :: _) rfl rfl ?_
  refine E_s (p' := 78) (st' := aA 98 :: _) rfl rfl ?_
  refine E_s (p' := 81) (st' := aA 99 :: _) rfl rfl ?_
  refine E_s (p' := 84) (st' := aI 0 :: _) rfl rfl ?_
  refine E_s (p' := 85) (st' := aI 0 :: _) rfl rfl ?_
  refine E_ret rfl rfl ?_
  refine E_s (p' := 1123) (st' := aA 124 :: _) rfl rfl ?_
  refine E_s (p' := 1124) (st' := aA 0 :: _) rfl rfl ?_
  refine E_s (p' := 1125) (st' := aI 0 :: _) rfl rfl ?_
  refine E_s (p' := 1126) (st' := aI 1 :: _) rfl rfl ?_
  refine E_s (p' := 1127) (st' := aI 1 :: _) rfl rfl ?_
  refine E_scr rfl rfl h1 ?_
  refine E_s (p' := 1129) (st' := aA 0 :: _) rfl rfl ?_
  refine E_s (p' := 1130) (st' := aI 0 :: _) rfl rfl ?_
  refine E_s (p' := 1131) (st' := aI 2 :: _) rfl rfl ?_
  refine E_s (p' := 1132) (st' := aI 2 :: _) rfl rfl ?_
  refine E_scr rfl rfl h2 ?_
  refine E_callL (p' := 1136) (L0 := [some (aA 124), some (aI 2), some (aI 3), none, none, none, none, none]) rfl rfl rfl ?_
  refine E_s (p' := 1) (st' := aI 2 :: _) rfl rfl ?_
  refine E_callL (p' := 4) (L0 := [some (aI 2)]) rfl rfl rfl ?_
  refine E_s (p' := 1) (st' := aI 2 :: _) rfl rfl ?_
  refine E_s (p' := 2) (st' := aI 0 :: _) rfl rfl ?_
  refine E_s (p' := 3) (st' := aI 3 :: _) rfl rfl ?_
  refine E_callL (p' := 6) (L0 := [some (aI 2), some (aI 0), some (aI 3)]) rfl rfl rfl ?_
  refine E_s (p' := 1) (st' := aI 2 :: _) rfl rfl ?_
  refine E_s (p' := 2) (st' := aI 0 :: _) rfl rfl ?_
  refine E_s (p' := 5) rfl rfl ?_
  refine E_s (p' := 6) (st' := aI 2 :: _) rfl rfl ?_
  refine E_s (p' := 7) (st' := aI 3 :: _) rfl rfl ?_
  refine E_s (p' := 10) rfl rfl ?_
  refine E_s (p' := 11) (st' := aI 1 :: _) rfl rfl ?_
  refine E_s (p' := 15) rfl rfl ?_
  refine E_ret rfl rfl ?_
  refine E_ret rfl rfl ?_
  refine E_s (p' := 7) rfl rfl ?_
  refine E_s (p' := 8) (st' := aI 3 :: _) rfl rfl ?_
  refine E_callL (p' := 11) (L0 := [some (aI 3)]) rfl rfl rfl ?_
  refine E_s (p' := 1) (st' := aI 3 :: _) rfl rfl ?_
  refine E_s (p' := 2) (st' := aI 0 :: _) rfl rfl ?_
  refine E_s (p' := 3) (st' := aI 3 :: _) rfl rfl ?_
  refine E_callL (p' := 6) (L0 := [some (aI 3), some (aI 0), some (aI 3)]) rfl rfl rfl ?_
  refine E_s (p' := 1) (st' := aI 3 :: _) rfl rfl ?_
  refine E_s (p' := 2) (st' := aI 0 :: _) rfl rfl ?_
  refine E_s (p' := 5) rfl rfl ?_
  refine E_s (p' := 6) (st' := aI 3 :: _) rfl rfl ?_
  refine E_s (p' := 7) (st' := aI 3 :: _) rfl rfl ?_
  refine E_s (p' := 10) rfl rfl ?_
  refine E_s (p' := 11) (st' := aI 1 :: _) rfl rfl ?_
  refine E_s (p' := 15) rfl rfl ?_
  refine E_ret rfl rfl ?_
  refine E_ret rfl rfl ?_
  refine E_s (p' := 17) rfl rfl ?_
  refine E_s (p' := 18) (st' := aA 124 :: _) rfl rfl ?_
  refine E_s (p' := 19) (st' := aI 2 :: _) rfl rfl ?_
  refine E_s (p' := 20) (st' := aA 124 :: _) rfl rfl ?_
  refine E_s (p' := 23) (st' := aA 148 :: _) rfl rfl ?_
  refine E_callL (p' := 26) (L0 := [some (aA 124), some (aI 2), some (aA 148), none]) rfl rfl rfl ?_
  refine E_s (p' := 1) (st' := aA 124 :: _) rfl rfl ?_
  refine E_s (p' := 2) (st' := aI 2 :: _) rfl rfl ?_
  refine E_callL (p' := 5) (L0 := [some (aA 124), some (aI 2), none, none]) rfl rfl rfl ?_
  refine E_s (p' := 1) (st' := aI 0 :: _) rfl rfl ?_
  refine E_s (p' := 2) (L' := [some (aA 124), some (aI 2), some (aI 0), none]) rfl rfl ?_
  refine mr_loop1 _ 601 0 _ rfl ?_
  refine E_s (p' := 23) (st' := aA 124 :: _) rfl rfl ?_
  refine E_s (p' := 24) (st' := aI 0 :: _) rfl rfl ?_
  refine E_stM (p' := 27) (m' := up2 _ 124 25 0) rfl rfl ?_
  refine E_s (p' := 28) (st' := aA 124 :: _) rfl rfl ?_
  refine E_s (p' := 29) (st' := aI 0 :: _) rfl rfl ?_
  refine E_stM (p' := 32) (m' := up2 _ 124 26 0) rfl rfl ?_
  refine E_s (p' := 33) (st' := aI 0 :: _) rfl rfl ?_
  refine E_s (p' := 34) (L' := [some (aA 124), some (aI 2), some (aI 0), none]) rfl rfl ?_
  refine E_s (p' := 35) (st' := aI 0 :: _) rfl rfl ?_
  refine E_s (p' := 36) (st' := aA 124 :: _) rfl rfl ?_
  refine E_s (p' := 39) (st' := aA 125 :: _) rfl rfl ?_
  refine E_s (p' := 40) (st' := aI 2 :: _) rfl rfl ?_
  refine E_s (p' := 41) (st' := aI 0 :: _) rfl rfl ?_
  refine E_s (p' := 121) rfl rfl ?_
  refine E_s (p' := 122) (st' := aA 124 :: _) rfl rfl ?_
  refine E_s (p' := 123) (st' := aI 0 :: _) rfl rfl ?_
  refine E_stM (p' := 126) (m' := up2 _ 124 24 0) rfl rfl ?_
  refine E_s (p' := 127) (st' := aI 0 :: _) rfl rfl ?_
  refine E_s (p' := 128) (L' := [some (aA 124), some (aI 2), some (aI 0), none]) rfl rfl ?_
  refine mr_loop3 _ 601 0 _ rfl (fun j hj => show (if 0 ≤ j ∧ j < 601 then (0 : Int) else _) = 0 from if_pos ⟨Nat.zero_le _, hj⟩) ?_
  refine E_s (p' := 245) (st' := aA 124 :: _) rfl rfl ?_
  refine E_s (p' := 248) (st' := aI 0 :: _) rfl rfl ?_
  refine E_s (p' := 249) (st' := aA 124 :: _) rfl rfl ?_
  refine E_s (p' := 252) (st' := aI 0 :: _) rfl rfl ?_
  refine E_s (p' := 259) rfl rfl ?_
  refine E_s (p' := 260) (st' := aI 1 :: _) rfl rfl ?_
  refine E_s (p' := 261) (st' := aI 1 :: _) rfl rfl ?_
  refine E_s (p' := 263) (st' := aI 6 :: _) rfl rfl ?_
  refine E_s (p' := 271) rfl rfl ?_
  refine E_s (p' := 272) (st' := aA 124 :: _) rfl rfl ?_
  refine E_s (p' := 275) (st' := aI 0 :: _) rfl rfl ?_
  refine E_s (p' := 282) rfl rfl ?_
  refine E_s (p' := 283) (st' := aI 0 :: _) rfl rfl ?_
  refine E_ret rfl rfl ?_
  refine E_s (p' := 6) rfl rfl ?_
  refine E_s (p' := 7) (st' := aI 0 :: _) rfl rfl ?_
  refine E_s (p' := 8) (L' := [some (aA 124), some (aI 2), some (aA 148), some (aI 0)]) rfl rfl ?_
  refine E_s (p' := 9) (st' := aI 0 :: _) rfl rfl ?_
  refine E_s (p' := 10) (st' := aA 124 :: _) rfl rfl ?_
  refine E_s (p' := 13) (st' := aA 125 :: _) rfl rfl ?_
  refine E_s (p' := 14) (st' := aI 2 :: _) rfl rfl ?_
  refine E_s (p' := 15) (st' := aI 0 :: _) rfl rfl ?_
  refine E_s (p' := 58) rfl rfl ?_
  refine E_ret rfl rfl ?_
  refine E_s (p' := 27) (st' := aI 0 :: _) rfl rfl ?_
  refine E_s (p' := 28) (L' := [some (aA 124), some (aI 2), some (aI 3), some (aI 0), none, none, none, none]) rfl rfl ?_
  refine E_s (p' := 29) (st' := aI 0 :: _) rfl rfl ?_
  refine E_s (p' := 30) (st' := aA 124 :: _) rfl rfl ?_
  refine E_s (p' := 33) (st' := aA 125 :: _) rfl rfl ?_
  refine E_s (p' := 34) (st' := aI 2 :: _) rfl rfl ?_
  refine E_s (p' := 35) (st' := aI 0 :: _) rfl rfl ?_
  refine E_s (p' := 56) rfl rfl ?_
  refine E_s (p' := 57) (st' := aI 0 :: _) rfl rfl ?_
  refine E_s (p' := 58) (L' := [some (aA 124), some (aI 2), some (aI 3), some (aI 0), none, none, none, none]) rfl rfl ?_
  refine E_s (p' := 59) (st' := aI 0 :: _) rfl rfl ?_
  refine E_s (p' := 60) (st' := aA 124 :: _) rfl rfl ?_
  refine E_s (p' := 63) (st' := aA 125 :: _) rfl rfl ?_
  refine E_s (p' := 64) (st' := aI 2 :: _) rfl rfl ?_
  refine E_s (p' := 65) (st' := aI 0 :: _) rfl rfl ?_
  refine E_s (p' := 86) rfl rfl ?_
  refine E_s (p' := 87) (st' := aA 124 :: _) rfl rfl ?_
  refine E_s (p' := 88) (st' := aI 3 :: _) rfl rfl ?_
  refine E_s (p' := 89) (st' := aA 124 :: _) rfl rfl ?_
  refine E_s (p' := 92) (st' := aA 148 :: _) rfl rfl ?_
  refine E_callL (p' := 95) (L0 := [some (aA 124), some (aI 3), some (aA 148), none]) rfl rfl rfl ?_
  refine E_s (p' := 1) (st' := aA 124 :: _) rfl rfl ?_
  refine E_s (p' := 2) (st' := aI 3 :: _) rfl rfl ?_
  refine E_callL (p' := 5) (L0 := [some (aA 124), some (aI 3), none, none]) rfl rfl rfl ?_
  refine E_s (p' := 1) (st' := aI 0 :: _) rfl rfl ?_
  refine E_s (p' := 2) (L' := [some (aA 124), some (aI 3), some (aI 0), none]) rfl rfl ?_
  refine mr_loop1 _ 601 0 _ rfl ?_
  refine E_s (p' := 23) (st' := aA 124 :: _) rfl rfl ?_
  refine E_s (p' := 24) (st' := aI 0 :: _) rfl rfl ?_
  refine E_stM (p' := 27) (m' := up2 _ 124 25 0) rfl rfl ?_
  refine E_s (p' := 28) (st' := aA 124 :: _) rfl rfl ?_
  refine E_s (p' := 29) (st' := aI 0 :: _) rfl rfl ?_
  refine E_stM (p' := 32) (m' := up2 _ 124 26 0) rfl rfl ?_
  refine E_s (p' := 33) (st' := aI 0 :: _) rfl rfl ?_
  refine E_s (p' := 34) (L' := [some (aA 124), some (aI 3), some (aI 0), none]) rfl rfl ?_
  refine E_s (p' := 35) (st' := aI 0 :: _) rfl rfl ?_
  refine E_s (p' := 36) (st' := aA 124 :: _) rfl rfl ?_
  refine E_s (p' := 39) (st' := aA 125 :: _) rfl rfl ?_
  refine E_s (p' := 40) (st' := aI 3 :: _) rfl rfl ?_
  refine E_s (p' := 41) (st' := aI 0 :: _) rfl rfl ?_
  refine E_s (p' := 121) rfl rfl ?_
  refine E_s (p' := 122) (st' := aA 124 :: _) rfl rfl ?_
  refine E_s (p' := 123) (st' := aI 0 :: _) rfl rfl ?_
  refine E_stM (p' := 126) (m' := up2 _ 124 24 0) rfl rfl ?_
  refine E_s (p' := 127) (st' := aI 0 :: _) rfl rfl ?_
  refine E_s (p' := 128) (L' := [some (aA 124), some (aI 3), some (aI 0), none]) rfl rfl ?_
  refine mr_loop3 _ 601 0 _ rfl (fun j hj => show (if 0 ≤ j ∧ j < 601 then (0 : Int) else _) = 0 from if_pos ⟨Nat.zero_le _, hj⟩) ?_
  refine E_s (p' := 245) (st' := aA 124 :: _) rfl rfl ?_
  refine E_s (p' := 248) (st' := aI 0 :: _) rfl rfl ?_
  refine E_s (p' := 249) (st' := aA 124 :: _) rfl rfl ?_
  refine E_s (p' := 252) (st' := aI 0 :: _) rfl rfl ?_
  refine E_s (p' := 259) rfl rfl ?_
  refine E_s (p' := 260) (st' := aI 1 :: _) rfl rfl ?_
  refine E_s (p' := 261) (st' := aI 1 :: _) rfl rfl ?_
  refine E_s (p' := 263) (st' := aI 6 :: _) rfl rfl ?_
  refine E_s (p' := 271) rfl rfl ?_
  refine E_s (p' := 272) (st' := aA 124 :: _) rfl rfl ?_
  refine E_s (p' := 275) (st' := aI 0 :: _) rfl rfl ?_
  refine E_s (p' := 282) rfl rfl ?_
  refine E_s (p' := 283) (st' := aI 0 :: _) rfl rfl ?_
  refine E_ret rfl rfl ?_
  refine E_s (p' := 6) rfl rfl ?_
  refine E_s (p' := 7) (st' := aI 0 :: _) rfl rfl ?_
  refine E_s (p' := 8) (L' := [some (aA 124), some (aI 3), some (aA 148), some (aI 0)]) rfl rfl ?_
  refine E_s (p' := 9) (st' := aI 0 :: _) rfl rfl ?_
  refine E_s (p' := 10) (st' := aA 124 :: _) rfl rfl ?_
  refine E_s (p' := 13) (st' := aA 125 :: _) rfl rfl ?_
  refine E_s (p' := 14) (st' := aI 3 :: _) rfl rfl ?_
  refine E_s (p' := 15) (st' := aI 0 :: _) rfl rfl ?_
  refine E_s (p' := 58) rfl rfl ?_
  refine E_ret rfl rfl ?_
  refine E_s (p' := 96) (st' := aI 0 :: _) rfl rfl ?_
  refine E_s (p' := 97) (L' := [some (aA 124), some (aI 2), some (aI 3), some (aI 0), none, none, none, none]) rfl rfl ?_
  refine E_s (p' := 98) (st' := aI 0 :: _) rfl rfl ?_
  refine E_s (p' := 100) (st' := aI 61 :: _) rfl rfl ?_
  refine E_s (p' := 103) rfl rfl ?_
  refine E_s (p' := 104) (st' := aA 124 :: _) rfl rfl ?_
  refine E_s (p' := 107) (st' := aA 167 :: _) rfl rfl ?_
  refine E_s (p' := 108) (st' := aI 0 :: _) rfl rfl ?_
  refine E_s (p' := 109) (st' := aI 0 :: _) rfl rfl ?_
  refine E_stM (p' := 110) (m' := up2 _ 167 0 0) rfl rfl ?_
  refine E_s (p' := 113) (L' := [some (aA 124), some (aI 2), some (aI 3), some (aI 1), none, none, none, none]) rfl rfl ?_
  refine E_s (p' := 97) rfl rfl ?_
  refine E_s (p' := 98) (st' := aI 1 :: _) rfl rfl ?_
  refine E_s (p' := 100) (st' := aI 61 :: _) rfl rfl ?_
  refine E_s (p' := 103) rfl rfl ?_
  refine E_s (p' := 104) (st' := aA 124 :: _) rfl rfl ?_
  refine E_s (p' := 107) (st' := aA 167 :: _) rfl rfl ?_
  refine E_s (p' := 108) (st' := aI 1 :: _) rfl rfl ?_
  refine E_s (p' := 109) (st' := aI 0 :: _) rfl rfl ?_
  refine E_stM (p' := 110) (m' := up2 _ 167 1 0) rfl rfl ?_
  refine E_s (p' := 113) (L' := [some (aA 124), some (aI 2), some (aI 3), some (aI 2), none, none, none, none]) rfl rfl ?_
  refine E_s (p' := 97) rfl rfl ?_
  refine E_s (p' := 98) (st' := aI 2 :: _) rfl rfl ?_
  refine E_s (p' := 100) (st' := aI 61 :: _) rfl rfl ?_
  refine E_s (p' := 103) rfl rfl ?_
  refine E_s (p' := 104) (st' := aA 124 :: _) rfl rfl ?_
  refine E_s (p' := 107) (st' := aA 167 :: _) rfl rfl ?_
  refine E_s (p' := 108) (st' := aI 2 :: _) rfl rfl ?_
  refine E_s (p' := 109) (st' := aI 0 :: _) rfl rfl ?_
  refine E_stM (p' := 110) (m' := up2 _ 167 2 0) rfl rfl ?_
  refine E_s (p' := 113) (L' := [some (aA 124), some (aI 2), some (aI 3), some (aI 3), none, none, none, none]) rfl rfl ?_
  refine E_s (p' := 97) rfl rfl ?_
  refine E_s (p' := 98) (st' := aI 3 :: _) rfl rfl ?_
  refine E_s (p' := 100) (st' := aI 61 :: _) rfl rfl ?_
  refine E_s (p' := 103) rfl rfl ?_
  refine E_s (p' := 104) (st' := aA 124 :: _) rfl rfl ?_
  refine E_s (p' := 107) (st' := aA 167 :: _) rfl rfl ?_
  refine E_s (p' := 108) (st' := aI 3 :: _) rfl rfl ?_
  refine E_s (p' := 109) (st' := aI 0 :: _) rfl rfl ?_
  refine E_stM (p' := 110) (m' := up2 _ 167 3 0) rfl rfl ?_
  refine E_s (p' := 113) (L' := [some (aA 124), some (aI 2), some (aI 3), some (aI 4), none, none, none, none]) rfl rfl ?_
  refine E_s (p' := 97) rfl rfl ?_
  refine E_s (p' := 98) (st' := aI 4 :: _) rfl rfl ?_
  refine E_s (p' := 100) (st' := aI 61 :: _) rfl rfl ?_
  refine E_s (p' := 103) rfl rfl ?_
  refine E_s (p' := 104) (st' := aA 124 :: _) rfl rfl ?_
  refine E_s (p' := 107) (st' := aA 167 :: _) rfl rfl ?_
  refine E_s (p' := 108) (st' := aI 4 :: _) rfl rfl ?_
  refine E_s (p' := 109) (st' := aI 0 :: _) rfl rfl ?_
  refine E_stM (p' := 110) (m' := up2 _ 167 4 0) rfl rfl ?_
  refine E_s (p' := 113) (L' := [some (aA 124), some (aI 2), some (aI 3), some (aI 5), none, none, none, none]) rfl rfl ?_
  refine E_s (p' := 97) rfl rfl ?_
  refine E_s (p' := 98) (st' := aI 5 :: _) rfl rfl ?_
  refine E_s (p' := 100) (st' := aI 61 :: _) rfl rfl ?_
  refine E_s (p' := 103) rfl rfl ?_
  refine E_s (p' := 104) (st' := aA 124 :: _) rfl rfl ?_
  refine E_s (p' := 107) (st' := aA 167 :: _) rfl rfl ?_
  refine E_s (p' := 108) (st' := aI 5 :: _) rfl rfl ?_
  refine E_s (p' := 109) (st' := aI 0 :: _) rfl rfl ?_
  refine E_stM (p' := 110) (m' := up2 _ 167 5 0) rfl rfl ?_
  refine E_s (p' := 113) (L' := [some (aA 124), some (aI 2), some (aI 3), some (aI 6), none, none, none, none]) rfl rfl ?_
  refine E_s (p' := 97) rfl rfl ?_
  refine E_s (p' := 98) (st' := aI 6 :: _) rfl rfl ?_
  refine E_s (p' := 100) (st' := aI 61 :: _) rfl rfl ?_
  refine E_s (p' := 103) rfl rfl ?_
  refine E_s (p' := 104) (st' := aA 124 :: _) rfl rfl ?_
  refine E_s (p' := 107) (st' := aA 167 :: _) rfl rfl ?_
  refine E_s (p' := 108) (st' := aI 6 :: _) rfl rfl ?_
  refine E_s (p' := 109) (st' := aI 0 :: _) rfl rfl ?_
  refine E_stM (p' := 110) (m' := up2 _ 167 6 0) rfl rfl ?_
  refine E_s (p' := 113) (L' := [some (aA 124), some (aI 2), some (aI 3), some (aI 7), none, none, none, none]) rfl rfl ?_
  refine E_s (p' := 97) rfl rfl ?_
  refine E_s (p' := 98) (st' := aI 7 :: _) rfl rfl ?_
  refine E_s (p' := 100) (st' := aI 61 :: _) rfl rfl ?_
  refine E_s (p' := 103) rfl rfl ?_
  refine E_s (p' := 104) (st' := aA 124 :: _) rfl rfl ?_
  refine E_s (p' := 107) (st' := aA 167 :: _) rfl rfl ?_
  refine E_s (p' := 108) (st' := aI 7 :: _) rfl rfl ?_
  refine E_s (p' := 109) (st' := aI 0 :: _) rfl rfl ?_
  refine E_stM (p' := 110) (m' := up2 _ 167 7 0) rfl rfl ?_
  refine E_s (p' := 113) (L' := [some (aA 124), some (aI 2), some (aI 3), some (aI 8), none, none, none, none]) rfl rfl ?_
  refine E_s (p' := 97) rfl rfl ?_
  refine E_s (p' := 98) (st' := aI 8 :: _) rfl rfl ?_
  refine E_s (p' := 100) (st' := aI 61 :: _) rfl rfl ?_
  refine E_s (p' := 103) rfl rfl ?_
  refine E_s (p' := 104) (st' := aA 124 :: _) rfl rfl ?_
  refine E_s (p' := 107) (st' := aA 167 :: _) rfl rfl ?_
  refine E_s (p' := 108) (st' := aI 8 :: _) rfl rfl ?_
  refine E_s (p' := 109) (st' := aI 0 :: _) rfl rfl ?_
  refine E_stM (p' := 110) (m' := up2 _ 167 8 0) rfl rfl ?_
  refine E_s (p' := 113) (L' := [some (aA 124), some (aI 2), some (aI 3), some (aI 9), none, none, none, none]) rfl rfl ?_
  refine E_s (p' := 97) rfl rfl ?_
  refine E_s (p' := 98) (st' := aI 9 :: _) rfl rfl ?_
  refine E_s (p' := 100) (st' := aI 61 :: _) rfl rfl ?_
  refine E_s (p' := 103) rfl rfl ?_
  refine E_s (p' := 104) (st' := aA 124 :: _) rfl rfl ?_
  refine E_s (p' := 107) (st' := aA 167 :: _) rfl rfl ?_
  refine E_s (p' := 108) (st' := aI 9 :: _) rfl rfl ?_
  refine E_s (p' := 109) (st' := aI 0 :: _) rfl rfl ?_
  refine E_stM (p' := 110) (m' := up2 _ 167 9 0) rfl rfl ?_
  refine E_s (p' := 113) (L' := [some (aA 124), some (aI 2), some (aI 3), some (aI 10), none, none, none, none]) rfl rfl ?_
  refine E_s (p' := 97) rfl rfl ?_
  refine E_s (p' := 98) (st' := aI 10 :: _) rfl rfl ?_
  refine E_s (p' := 100) (st' := aI 61 :: _) rfl rfl ?_
  refine E_s (p' := 103) rfl rfl ?_
  refine E_s (p' := 104) (st' := aA 124 :: _) rfl rfl ?_
  refine E_s (p' := 107) (st' := aA 167 :: _) rfl rfl ?_
  refine E_s (p' := 108) (st' := aI 10 :: _) rfl rfl ?_
  refine E_s (p' := 109) (st' := aI 0 :: _) rfl rfl ?_
  refine E_stM (p' := 110) (m' := up2 _ 167 10 0) rfl rfl ?_
  refine E_s (p' := 113) (L' := [some (aA 124), some (aI 2), some (aI 3), some (aI 11), none, none, none, none]) rfl rfl ?_
  refine E_s (p' := 97) rfl rfl ?_
  refine E_s (p' := 98) (st' := aI 11 :: _) rfl rfl ?_
  refine E_s (p' := 100) (st' := aI 61 :: _) rfl rfl ?_
  refine E_s (p' := 103) rfl rfl ?_
  refine E_s (p' := 104) (st' := aA 124 :: _) rfl rfl ?_
  refine E_s (p' := 107) (st' := aA 167 :: _) rfl rfl ?_
  refine E_s (p' := 108) (st' := aI 11 :: _) rfl rfl ?_
  refine E_s (p' := 109) (st' := aI 0 :: _) rfl rfl ?_
  refine E_stM (p' := 110) (m' := up2 _ 167 11 0) rfl rfl ?_
  refine E_s (p' := 113) (L' := [some (aA 124), some (aI 2), some (aI 3), some (aI 12), none, none, none, none]) rfl rfl ?_
  refine E_s (p' := 97) rfl rfl ?_
  refine E_s (p' := 98) (st' := aI 12 :: _) rfl rfl ?_
  refine E_s (p' := 100) (st' := aI 61 :: _) rfl rfl ?_
  refine E_s (p' := 103) rfl rfl ?_
  refine E_s (p' := 104) (st' := aA 124 :: _) rfl rfl ?_
  refine E_s (p' := 107) (st' := aA 167 :: _) rfl rfl ?_
  refine E_s (p' := 108) (st' := aI 12 :: _) rfl rfl ?_
  refine E_s (p' := 109) (st' := aI 0 :: _) rfl rfl ?_
  refine E_stM (p' := 110) (m' := up2 _ 167 12 0) rfl rfl ?_
  refine E_s (p' := 113) (L' := [some (aA 124), some (aI 2), some (aI 3), some (aI 13), none, none, none, none]) rfl rfl ?_
  refine E_s (p' := 97) rfl rfl ?_
  refine E_s (p' := 98) (st' := aI 13 :: _) rfl rfl ?_
  refine E_s (p' := 100) (st' := aI 61 :: _) rfl rfl ?_
  refine E_s (p' := 103) rfl rfl ?_
  refine E_s (p' := 104) (st' := aA 124 :: _) rfl rfl ?_
  refine E_s (p' := 107) (st' := aA 167 :: _) rfl rfl ?_
  refine E_s (p' := 108) (st' := aI 13 :: _) rfl rfl ?_
  refine E_s (p' := 109) (st' := aI 0 :: _) rfl rfl ?_
  refine E_stM (p' := 110) (m' := up2 _ 167 13 0) rfl rfl ?_
  refine E_s (p' := 113) (L' := [some (aA 124), some (aI 2), some (aI 3), some (aI 14), none, none, none, none]) rfl rfl ?_
  refine E_s (p' := 97) rfl rfl ?_
  refine E_s (p' := 98) (st' := aI 14 :: _) rfl rfl ?_
  refine E_s (p' := 100) (st' := aI 61 :: _) rfl rfl ?_
  refine E_s (p' := 103) rfl rfl ?_
  refine E_s (p' := 104) (st' := aA 124 :: _) rfl rfl ?_
  refine E_s (p' := 107) (st' := aA 167 :: _) rfl rfl ?_
  refine E_s (p' := 108) (st' := aI 14 :: _) rfl rfl ?_
  refine E_s (p' := 109) (st' := aI 0 :: _) rfl rfl ?_
  refine E_stM (p' := 110) (m' := up2 _ 167 14 0) rfl rfl ?_
  refine E_s (p' := 113) (L' := [some (aA 124), some (aI 2), some (aI 3), some (aI 15), none, none, none, none]) rfl rfl ?_
  refine E_s (p' := 97) rfl rfl ?_
  refine E_s (p' := 98) (st' := aI 15 :: _) rfl rfl ?_
  refine E_s (p' := 100) (st' := aI 61 :: _) rfl rfl ?_
  refine E_s (p' := 103) rfl rfl ?_
  refine E_s (p' := 104) (st' := aA 124 :: _) rfl rfl ?_
  refine E_s (p' := 107) (st' := aA 167 :: _) rfl rfl ?_
  refine E_s (p' := 108) (st' := aI 15 :: _) rfl rfl ?_
  refine E_s (p' := 109) (st' := aI 0 :: _) rfl rfl ?_
  refine E_stM (p' := 110) (m' := up2 _ 167 15 0) rfl rfl ?_
  refine E_s (p' := 113) (L' := [some (aA 124), some (aI 2), some (aI 3), some (aI 16), none, none, none, none]) rfl rfl ?_
  refine E_s (p' := 97) rfl rfl ?_
  refine E_s (p' := 98) (st' := aI 16 :: _) rfl rfl ?_
  refine E_s (p' := 100) (st' := aI 61 :: _) rfl rfl ?_
  refine E_s (p' := 103) rfl rfl ?_
  refine E_s (p' := 104) (st' := aA 124 :: _) rfl rfl ?_
  refine E_s (p' := 107) (st' := aA 167 :: _) rfl rfl ?_
  refine E_s (p' := 108) (st' := aI 16 :: _) rfl rfl ?_
  refine E_s (p' := 109) (st' := aI 0 :: _) rfl rfl ?_
  refine E_stM (p' := 110) (m' := up2 _ 167 16 0) rfl rfl ?_
  refine E_s (p' := 113) (L' := [some (aA 124), some (aI 2), some (aI 3), some (aI 17), none, none, none, none]) rfl rfl ?_
  refine E_s (p' := 97) rfl rfl ?_
  refine E_s (p' := 98) (st' := aI 17 :: _) rfl rfl ?_
  refine E_s (p' := 100) (st' := aI 61 :: _) rfl rfl ?_
  refine E_s (p' := 103) rfl rfl ?_
  refine E_s (p' := 104) (st' := aA 124 :: _) rfl rfl ?_
  refine E_s (p' := 107) (st' := aA 167 :: _) rfl rfl ?_
  refine E_s (p' := 108) (st' := aI 17 :: _) rfl rfl ?_
  refine E_s (p' := 109) (st' := aI 0 :: _) rfl rfl ?_
  refine E_stM (p' := 110) (m' := up2 _ 167 17 0) rfl rfl ?_
  refine E_s (p' := 113) (L' := [some (aA 124), some (aI 2), some (aI 3), some (aI 18), none, none, none, none]) rfl rfl ?_
  refine E_s (p' := 97) rfl rfl ?_
  refine E_s (p' := 98) (st' := aI 18 :: _) rfl rfl ?_
  refine E_s (p' := 100) (st' := aI 61 :: _) rfl rfl ?_
  refine E_s (p' := 103) rfl rfl ?_
  refine E_s (p' := 104) (st' := aA 124 :: _) rfl rfl ?_
  refine E_s (p' := 107) (st' := aA 167 :: _) rfl rfl ?_
  refine E_s (p' := 108) (st' := aI 18 :: _) rfl rfl ?_
  refine E_s (p' := 109) (st' := aI 0 :: _) rfl rfl ?_
  refine E_stM (p' := 110) (m' := up2 _ 167 18 0) rfl rfl ?_
  refine E_s (p' := 113) (L' := [some (aA 124), some (aI 2), some (aI 3), some (aI 19), none, none, none, none]) rfl rfl ?_
  refine E_s (p' := 97) rfl rfl ?_
  refine E_s (p' := 98) (st' := aI 19 :: _) rfl rfl ?_
  refine E_s (p' := 100) (st' := aI 61 :: _) rfl rfl ?_
  refine E_s (p' := 103) rfl rfl ?_
  refine E_s (p' := 104) (st' := aA 124 :: _) rfl rfl ?_
  refine E_s (p' := 107) (st' := aA 167 :: _) rfl rfl ?_
  refine E_s (p' := 108) (st' := aI 19 :: _) rfl rfl ?_
  refine E_s (p' := 109) (st' := aI 0 :: _) rfl rfl ?_
  refine E_stM (p' := 110) (m' := up2 _ 167 19 0) rfl rfl ?_
  refine E_s (p' := 113) (L' := [some (aA 124), some (aI 2), some (aI 3), some (aI 20), none, none, none, none]) rfl rfl ?_
  refine E_s (p' := 97) rfl rfl ?_
  refine E_s (p' := 98) (st' := aI 20 :: _) rfl rfl ?_
  refine E_s (p' := 100) (st' := aI 61 :: _) rfl rfl ?_
  refine E_s (p' := 103) rfl rfl ?_
  refine E_s (p' := 104) (st' := aA 124 :: _) rfl rfl ?_
  refine E_s (p' := 107) (st' := aA 167 :: _) rfl rfl ?_
  refine E_s (p' := 108) (st' := aI 20 :: _) rfl rfl ?_
  refine E_s (p' := 109) (st' := aI 0 :: _) rfl rfl ?_
  refine E_stM (p' := 110) (m' := up2 _ 167 20 0) rfl rfl ?_
  refine E_s (p' := 113) (L' := [some (aA 124), some (aI 2), some (aI 3), some (aI 21), none, none, none, none]) rfl rfl ?_
  refine E_s (p' := 97) rfl rfl ?_
  refine E_s (p' := 98) (st' := aI 21 :: _) rfl rfl ?_
  refine E_s (p' := 100) (st' := aI 61 :: _) rfl rfl ?_
  refine E_s (p' := 103) rfl rfl ?_
  refine E_s (p' := 104) (st' := aA 124 :: _) rfl rfl ?_
  refine E_s (p' := 107) (st' := aA 167 :: _) rfl rfl ?_
  refine E_s (p' := 108) (st' := aI 21 :: _) rfl rfl ?_
  refine E_s (p' := 109) (st' := aI 0 :: _) rfl rfl ?_
  refine E_stM (p' := 110) (m' := up2 _ 167 21 0) rfl rfl ?_
  refine E_s (p' := 113) (L' := [some (aA 124), some (aI 2), some (aI 3), some (aI 22), none, none, none, none]) rfl rfl ?_
  refine E_s (p' := 97) rfl rfl ?_
  refine E_s (p' := 98) (st' := aI 22 :: _) rfl rfl ?_
  refine E_s (p' := 100) (st' := aI 61 :: _) rfl rfl ?_
  refine E_s (p' := 103) rfl rfl ?_
  refine E_s (p' := 104) (st' := aA 124 :: _) rfl rfl ?_
  refine E_s (p' := 107) (st' := aA 167 :: _) rfl rfl ?_
  refine E_s (p' := 108) (st' := aI 22 :: _) rfl rfl ?_
  refine E_s (p' := 109) (st' := aI 0 :: _) rfl rfl ?_
  refine E_stM (p' := 110) (m' := up2 _ 167 22 0) rfl rfl ?_
  refine E_s (p' := 113) (L' := [some (aA 124), some (aI 2), some (aI 3), some (aI 23), none, none, none, none]) rfl rfl ?_
  refine E_s (p' := 97) rfl rfl ?_
  refine E_s (p' := 98) (st' := aI 23 :: _) rfl rfl ?_
  refine E_s (p' := 100) (st' := aI 61 :: _) rfl rfl ?_
  refine E_s (p' := 103) rfl rfl ?_
  refine E_s (p' := 104) (st' := aA 124 :: _) rfl rfl ?_
  refine E_s (p' := 107) (st' := aA 167 :: _) rfl rfl ?_
  refine E_s (p' := 108) (st' := aI 23 :: _) rfl rfl ?_
  refine E_s (p' := 109) (st' := aI 0 :: _) rfl rfl ?_
  refine E_stM (p' := 110) (m' := up2 _ 167 23 0) rfl rfl ?_
  refine E_s (p' := 113) (L' := [some (aA 124), some (aI 2), some (aI 3), some (aI 24), none, none, none, none]) rfl rfl ?_
  refine E_s (p' := 97) rfl rfl ?_
  refine E_s (p' := 98) (st' := aI 24 :: _) rfl rfl ?_
  refine E_s (p' := 100) (st' := aI 61 :: _) rfl rfl ?_
  refine E_s (p' := 103) rfl rfl ?_
  refine E_s (p' := 104) (st' := aA 124 :: _) rfl rfl ?_
  refine E_s (p' := 107) (st' := aA 167 :: _) rfl rfl ?_
  refine E_s (p' := 108) (st' := aI 24 :: _) rfl rfl ?_
  refine E_s (p' := 109) (st' := aI 0 :: _) rfl rfl ?_
  refine E_stM (p' := 110) (m' := up2 _ 167 24 0) rfl rfl ?_
  refine E_s (p' := 113) (L' := [some (aA 124), some (aI 2), some (aI 3), some (aI 25), none, none, none, none]) rfl rfl ?_
  refine E_s (p' := 97) rfl rfl ?_
  refine E_s (p' := 98) (st' := aI 25 :: _) rfl rfl ?_
  refine E_s (p' := 100) (st' := aI 61 :: _) rfl rfl ?_
  refine E_s (p' := 103) rfl rfl ?_
  refine E_s (p' := 104) (st' := aA 124 :: _) rfl rfl ?_
  refine E_s (p' := 107) (st' := aA 167 :: _) rfl rfl ?_
  refine E_s (p' := 108) (st' := aI 25 :: _) rfl rfl ?_
  refine E_s (p' := 109) (st' := aI 0 :: _) rfl rfl ?_
  refine E_stM (p' := 110) (m' := up2 _ 167 25 0) rfl rfl ?_
  refine E_s (p' := 113) (L' := [some (aA 124), some (aI 2), some (aI 3), some (aI 26), none, none, none, none]) rfl rfl ?_
  refine E_s (p' := 97) rfl rfl ?_
  refine E_s (p' := 98) (st' := aI 26 :: _) rfl rfl ?_
  refine E_s (p' := 100) (st' := aI 61 :: _) rfl rfl ?_
  refine E_s (p' := 103) rfl rfl ?_
  refine E_s (p' := 104) (st' := aA 124 :: _) rfl rfl ?_
  refine E_s (p' := 107) (st' := aA 167 :: _) rfl rfl ?_
  refine E_s (p' := 108) (st' := aI 26 :: _) rfl rfl ?_
  refine E_s (p' := 109) (st' := aI 0 :: _) rfl rfl ?_
  refine E_stM (p' := 110) (m' := up2 _ 167 26 0) rfl rfl ?_
  refine E_s (p' := 113) (L' := [some (aA 124), some (aI 2), some (aI 3), some (aI 27), none, none, none, none]) rfl rfl ?_
  refine E_s (p' := 97) rfl rfl ?_
  refine E_s (p' := 98) (st' := aI 27 :: _) rfl rfl ?_
  refine E_s (p' := 100) (st' := aI 61 :: _) rfl rfl ?_
  refine E_s (p' := 103) rfl rfl ?_
  refine E_s (p' := 104) (st' := aA 124 :: _) rfl rfl ?_
  refine E_s (p' := 107) (st' := aA 167 :: _) rfl rfl ?_
  refine E_s (p' := 108) (st' := aI 27 :: _) rfl rfl ?_
  refine E_s (p' := 109) (st' := aI 0 :: _) rfl rfl ?_
  refine E_stM (p' := 110) (m' := up2 _ 167 27 0) rfl rfl ?_
  refine E_s (p' := 113) (L' := [some (aA 124), some (aI 2), some (aI 3), some (aI 28), none, none, none, none]) rfl rfl ?_
  refine E_s (p' := 97) rfl rfl ?_
  refine E_s (p' := 98) (st' := aI 28 :: _) rfl rfl ?_
  refine E_s (p' := 100) (st' := aI 61 :: _) rfl rfl ?_
  refine E_s (p' := 103) rfl rfl ?_
  refine E_s (p' := 104) (st' := aA 124 :: _) rfl rfl ?_
  refine E_s (p' := 107) (st' := aA 167 :: _) rfl rfl ?_
  refine E_s (p' := 108) (st' := aI 28 :: _) rfl rfl ?_
  refine E_s (p' := 109) (st' := aI 0 :: _) rfl rfl ?_
  refine E_stM (p' := 110) (m' := up2 _ 167 28 0) rfl rfl ?_
  refine E_s (p' := 113) (L' := [some (aA 124), some (aI 2), some (aI 3), some (aI 29), none, none, none, none]) rfl rfl ?_
  refine E_s (p' := 97) rfl rfl ?_
  refine E_s (p' := 98) (st' := aI 29 :: _) rfl rfl ?_
  refine E_s (p' := 100) (st' := aI 61 :: _) rfl rfl ?_
  refine E_s (p' := 103) rfl rfl ?_
  refine E_s (p' := 104) (st' := aA 124 :: _) rfl rfl ?_
  refine E_s (p' := 107) (st' := aA 167 :: _) rfl rfl ?_
  refine E_s (p' := 108) (st' := aI 29 :: _) rfl rfl ?_
  refine E_s (p' := 109) (st' := aI 0 :: _) rfl rfl ?_
  refine E_stM (p' := 110) (m' := up2 _ 167 29 0) rfl rfl ?_
  refine E_s (p' := 113) (L' := [some (aA 124), some (aI 2), some (aI 3), some (aI 30), none, none, none, none]) rfl rfl ?_
  refine E_s (p' := 97) rfl rfl ?_
  refine E_s (p' := 98) (st' := aI 30 :: _) rfl rfl ?_
  refine E_s (p' := 100) (st' := aI 61 :: _) rfl rfl ?_
  refine E_s (p' := 103) rfl rfl ?_
  refine E_s (p' := 104) (st' := aA 124 :: _) rfl rfl ?_
  refine E_s (p' := 107) (st' := aA 167 :: _) rfl rfl ?_
  refine E_s (p' := 108) (st' := aI 30 :: _) rfl rfl ?_
  refine E_s (p' := 109) (st' := aI 0 :: _) rfl rfl ?_
  refine E_stM (p' := 110) (m' := up2 _ 167 30 0) rfl rfl ?_
  refine E_s (p' := 113) (L' := [some (aA 124), some (aI 2), some (aI 3), some (aI 31), none, none, none, none]) rfl rfl ?_
  refine E_s (p' := 97) rfl rfl ?_
  refine E_s (p' := 98) (st' := aI 31 :: _) rfl rfl ?_
  refine E_s (p' := 100) (st' := aI 61 :: _) rfl rfl ?_
  refine E_s (p' := 103) rfl rfl ?_
  refine E_s (p' := 104) (st' := aA 124 :: _) rfl rfl ?_
  refine E_s (p' := 107) (st' := aA 167 :: _) rfl rfl ?_
  refine E_s (p' := 108) (st' := aI 31 :: _) rfl rfl ?_
  refine E_s (p' := 109) (st' := aI 0 :: _) rfl rfl ?_
  refine E_stM (p' := 110) (m' := up2 _ 167 31 0) rfl rfl ?_
  refine E_s (p' := 113) (L' := [some (aA 124), some (aI 2), some (aI 3), some (aI 32), none, none, none, none]) rfl rfl ?_
  refine E_s (p' := 97) rfl rfl ?_
  refine E_s (p' := 98) (st' := aI 32 :: _) rfl rfl ?_
  refine E_s (p' := 100) (st' := aI 61 :: _) rfl rfl ?_
  refine E_s (p' := 103) rfl rfl ?_
  refine E_s (p' := 104) (st' := aA 124 :: _) rfl rfl ?_
  refine E_s (p' := 107) (st' := aA 167 :: _) rfl rfl ?_
  refine E_s (p' := 108) (st' := aI 32 :: _) rfl rfl ?_
  refine E_s (p' := 109) (st' := aI 0 :: _) rfl rfl ?_
  refine E_stM (p' := 110) (m' := up2 _ 167 32 0) rfl rfl ?_
  refine E_s (p' := 113) (L' := [some (aA 124), some (aI 2), some (aI 3), some (aI 33), none, none, none, none]) rfl rfl ?_
  refine E_s (p' := 97) rfl rfl ?_
  refine E_s (p' := 98) (st' := aI 33 :: _) rfl rfl ?_
  refine E_s (p' := 100) (st' := aI 61 :: _) rfl rfl ?_
  refine E_s (p' := 103) rfl rfl ?_
  refine E_s (p' := 104) (st' := aA 124 :: _) rfl rfl ?_
  refine E_s (p' := 107) (st' := aA 167 :: _) rfl rfl ?_
  refine E_s (p' := 108) (st' := aI 33 :: _) rfl rfl ?_
  refine E_s (p' := 109) (st' := aI 0 :: _) rfl rfl ?_
  refine E_stM (p' := 110) (m' := up2 _ 167 33 0) rfl rfl ?_
  refine E_s (p' := 113) (L' := [some (aA 124), some (aI 2), some (aI 3), some (aI 34), none, none, none, none]) rfl rfl ?_
  refine E_s (p' := 97) rfl rfl ?_
  refine E_s (p' := 98) (st' := aI 34 :: _) rfl rfl ?_
  refine E_s (p' := 100) (st' := aI 61 :: _) rfl rfl ?_
  refine E_s (p' := 103) rfl rfl ?_
  refine E_s (p' := 104) (st' := aA 124 :: _) rfl rfl ?_
  refine E_s (p' := 107) (st' := aA 167 :: _) rfl rfl ?_
  refine E_s (p' := 108) (st' := aI 34 :: _) rfl rfl ?_
  refine E_s (p' := 109) (st' := aI 0 :: _) rfl rfl ?_
  refine E_stM (p' := 110) (m' := up2 _ 167 34 0) rfl rfl ?_
  refine E_s (p' := 113) (L' := [some (aA 124), some (aI 2), some (aI 3), some (aI 35), none, none, none, none]) rfl rfl ?_
  refine E_s (p' := 97) rfl rfl ?_
  refine E_s (p' := 98) (st' := aI 35 :: _) rfl rfl ?_
  refine E_s (p' := 100) (st' := aI 61 :: _) rfl rfl ?_
  refine E_s (p' := 103) rfl rfl ?_
  refine E_s (p' := 104) (st' := aA 124 :: _) rfl rfl ?_
  refine E_s (p' := 107) (st' := aA 167 :: _) rfl rfl ?_
  refine E_s (p' := 108) (st' := aI 35 :: _) rfl rfl ?_
  refine E_s (p' := 109) (st' := aI 0 :: _) rfl rfl ?_
  refine E_stM (p' := 110) (m' := up2 _ 167 35 0) rfl rfl ?_
  refine E_s (p' := 113) (L' := [some (aA 124), some (aI 2), some (aI 3), some (aI 36), none, none, none, none]) rfl rfl ?_
  refine E_s (p' := 97) rfl rfl ?_
  refine E_s (p' := 98) (st' := aI 36 :: _) rfl rfl ?_
  refine E_s (p' := 100) (st' := aI 61 :: _) rfl rfl ?_
  refine E_s (p' := 103) rfl rfl ?_
  refine E_s (p' := 104) (st' := aA 124 :: _) rfl rfl ?_
  refine E_s (p' := 107) (st' := aA 167 :: _) rfl rfl ?_
  refine E_s (p' := 108) (st' := aI 36 :: _) rfl rfl ?_
  refine E_s (p' := 109) (st' := aI 0 :: _) rfl rfl ?_
  refine E_stM (p' := 110) (m' := up2 _ 167 36 0) rfl rfl ?_
  refine E_s (p' := 113) (L' := [some (aA 124), some (aI 2), some (aI 3), some (aI 37), none, none, none, none]) rfl rfl ?_
  refine E_s (p' := 97) rfl rfl ?_
  refine E_s (p' := 98) (st' := aI 37 :: _) rfl rfl ?_
  refine E_s (p' := 100) (st' := aI 61 :: _) rfl rfl ?_
  refine E_s (p' := 103) rfl rfl ?_
  refine E_s (p' := 104) (st' := aA 124 :: _) rfl rfl ?_
  refine E_s (p' := 107) (st' := aA 167 :: _) rfl rfl ?_
  refine E_s (p' := 108) (st' := aI 37 :: _) rfl rfl ?_
  refine E_s (p' := 109) (st' := aI 0 :: _) rfl rfl ?_
  refine E_stM (p' := 110) (m' := up2 _ 167 37 0) rfl rfl ?_
  refine E_s (p' := 113) (L' := [some (aA 124), some (aI 2), some (aI 3), some (aI 38), none, none, none, none]) rfl rfl ?_
  refine E_s (p' := 97) rfl rfl ?_
  refine E_s (p' := 98) (st' := aI 38 :: _) rfl rfl ?_
  refine E_s (p' := 100) (st' := aI 61 :: _) rfl rfl ?_
  refine E_s (p' := 103) rfl rfl ?_
  refine E_s (p' := 104) (st' := aA 124 :: _) rfl rfl ?_
  refine E_s (p' := 107) (st' := aA 167 :: _) rfl rfl ?_
  refine E_s (p' := 108) (st' := aI 38 :: _) rfl rfl ?_
  refine E_s (p' := 109) (st' := aI 0 :: _) rfl rfl ?_
  refine E_stM (p' := 110) (m' := up2 _ 167 38 0) rfl rfl ?_
  refine E_s (p' := 113) (L' := [some (aA 124), some (aI 2), some (aI 3), some (aI 39), none, none, none, none]) rfl rfl ?_
  refine E_s (p' := 97) rfl rfl ?_
  refine E_s (p' := 98) (st' := aI 39 :: _) rfl rfl ?_
  refine E_s (p' := 100) (st' := aI 61 :: _) rfl rfl ?_
  refine E_s (p' := 103) rfl rfl ?_
  refine E_s (p' := 104) (st' := aA 124 :: _) rfl rfl ?_
  refine E_s (p' := 107) (st' := aA 167 :: _) rfl rfl ?_
  refine E_s (p' := 108) (st' := aI 39 :: _) rfl rfl ?_
  refine E_s (p' := 109) (st' := aI 0 :: _) rfl rfl ?_
  refine E_stM (p' := 110) (m' := up2 _ 167 39 0) rfl rfl ?_
  refine E_s (p' := 113) (L' := [some (aA 124), some (aI 2), some (aI 3), some (aI 40), none, none, none, none]) rfl rfl ?_
  refine E_s (p' := 97) rfl rfl ?_
  refine E_s (p' := 98) (st' := aI 40 :: _) rfl rfl ?_
  refine E_s (p' := 100) (st' := aI 61 :: _) rfl rfl ?_
  refine E_s (p' := 103) rfl rfl ?_
  refine E_s (p' := 104) (st' := aA 124 :: _) rfl rfl ?_
  refine E_s (p' := 107) (st' := aA 167 :: _) rfl rfl ?_
  refine E_s (p' := 108) (st' := aI 40 :: _) rfl rfl ?_
  refine E_s (p' := 109) (st' := aI 0 :: _) rfl rfl ?_
  refine E_stM (p' := 110) (m' := up2 _ 167 40 0) rfl rfl ?_
  refine E_s (p' := 113) (L' := [some (aA 124), some (aI 2), some (aI 3), some (aI 41), none, none, none, none]) rfl rfl ?_
  refine E_s (p' := 97) rfl rfl ?_
  refine E_s (p' := 98) (st' := aI 41 :: _) rfl rfl ?_
  refine E_s (p' := 100) (st' := aI 61 :: _) rfl rfl ?_
  refine E_s (p' := 103) rfl rfl ?_
  refine E_s (p' := 104) (st' := aA 124 :: _) rfl rfl ?_
  refine E_s (p' := 107) (st' := aA 167 :: _) rfl rfl ?_
  refine E_s (p' := 108) (st' := aI 41 :: _) rfl rfl ?_
  refine E_s (p' := 109) (st' := aI 0 :: _) rfl rfl ?_
  refine E_stM (p' := 110) (m' := up2 _ 167 41 0) rfl rfl ?_
  refine E_s (p' := 113) (L' := [some (aA 124), some (aI 2), some (aI 3), some (aI 42), none, none, none, none]) rfl rfl ?_
  refine E_s (p' := 97) rfl rfl ?_
  refine E_s (p' := 98) (st' := aI 42 :: _) rfl rfl ?_
  refine E_s (p' := 100) (st' := aI 61 :: _) rfl rfl ?_
  refine E_s (p' := 103) rfl rfl ?_
  refine E_s (p' := 104) (st' := aA 124 :: _) rfl rfl ?_
  refine E_s (p' := 107) (st' := aA 167 :: _) rfl rfl ?_
  refine E_s (p' := 108) (st' := aI 42 :: _) rfl rfl ?_
  refine E_s (p' := 109) (st' := aI 0 :: _) rfl rfl ?_
  refine E_stM (p' := 110) (m' := up2 _ 167 42 0) rfl rfl ?_
  refine E_s (p' := 113) (L' := [some (aA 124), some (aI 2), some (aI 3), some (aI 43), none, none, none, none]) rfl rfl ?_
  refine E_s (p' := 97) rfl rfl ?_
  refine E_s (p' := 98) (st' := aI 43 :: _) rfl rfl ?_
  refine E_s (p' := 100) (st' := aI 61 :: _) rfl rfl ?_
  refine E_s (p' := 103) rfl rfl ?_
  refine E_s (p' := 104) (st' := aA 124 :: _) rfl rfl ?_
  refine E_s (p' := 107) (st' := aA 167 :: _) rfl rfl ?_
  refine E_s (p' := 108) (st' := aI 43 :: _) rfl rfl ?_
  refine E_s (p' := 109) (st' := aI 0 :: _) rfl rfl ?_
  refine E_stM (p' := 110) (m' := up2 _ 167 43 0) rfl rfl ?_
  refine E_s (p' := 113) (L' := [some (aA 124), some (aI 2), some (aI 3), some (aI 44), none, none, none, none]) rfl rfl ?_
  refine E_s (p' := 97) rfl rfl ?_
  refine E_s (p' := 98) (st' := aI 44 :: _) rfl rfl ?_
  refine E_s (p' := 100) (st' := aI 61 :: _) rfl rfl ?_
  refine E_s (p' := 103) rfl rfl ?_
  refine E_s (p' := 104) (st' := aA 124 :: _) rfl rfl ?_
  refine E_s (p' := 107) (st' := aA 167 :: _) rfl rfl ?_
  refine E_s (p' := 108) (st' := aI 44 :: _) rfl rfl ?_
  refine E_s (p' := 109) (st' := aI 0 :: _) rfl rfl ?_
  refine E_stM (p' := 110) (m' := up2 _ 167 44 0) rfl rfl ?_
  refine E_s (p' := 113) (L' := [some (aA 124), some (aI 2), some (aI 3), some (aI 45), none, none, none, none]) rfl rfl ?_
  refine E_s (p' := 97) rfl rfl ?_
  refine E_s (p' := 98) (st' := aI 45 :: _) rfl rfl ?_
  refine E_s (p' := 100) (st' := aI 61 :: _) rfl rfl ?_
  refine E_s (p' := 103) rfl rfl ?_
  refine E_s (p' := 104) (st' := aA 124 :: _) rfl rfl ?_
  refine E_s (p' := 107) (st' := aA 167 :: _) rfl rfl ?_
  refine E_s (p' := 108) (st' := aI 45 :: _) rfl rfl ?_
  refine E_s (p' := 109) (st' := aI 0 :: _) rfl rfl ?_
  refine E_stM (p' := 110) (m' := up2 _ 167 45 0) rfl rfl ?_
  refine E_s (p' := 113) (L' := [some (aA 124), some (aI 2), some (aI 3), some (aI 46), none, none, none, none]) rfl rfl ?_
  refine E_s (p' := 97) rfl rfl ?_
  refine E_s (p' := 98) (st' := aI 46 :: _) rfl rfl ?_
  refine E_s (p' := 100) (st' := aI 61 :: _) rfl rfl ?_
  refine E_s (p' := 103) rfl rfl ?_
  refine E_s (p' := 104) (st' := aA 124 :: _) rfl rfl ?_
  refine E_s (p' := 107) (st' := aA 167 :: _) rfl rfl ?_
  refine E_s (p' := 108) (st' := aI 46 :: _) rfl rfl ?_
  refine E_s (p' := 109) (st' := aI 0 :: _) rfl rfl ?_
  refine E_stM (p' := 110) (m' := up2 _ 167 46 0) rfl rfl ?_
  refine E_s (p' := 113) (L' := [some (aA 124), some (aI 2), some (aI 3), some (aI 47), none, none, none, none]) rfl rfl ?_
  refine E_s (p' := 97) rfl rfl ?_
  refine E_s (p' := 98) (st' := aI 47 :: _) rfl rfl ?_
  refine E_s (p' := 100) (st' := aI 61 :: _) rfl rfl ?_
  refine E_s (p' := 103) rfl rfl ?_
  refine E_s (p' := 104) (st' := aA 124 :: _) rfl rfl ?_
  refine E_s (p' := 107) (st' := aA 167 :: _) rfl rfl ?_
  refine E_s (p' := 108) (st' := aI 47 :: _) rfl rfl ?_
  refine E_s (p' := 109) (st' := aI 0 :: _) rfl rfl ?_
  refine E_stM (p' := 110) (m' := up2 _ 167 47 0) rfl rfl ?_
  refine E_s (p' := 113) (L' := [some (aA 124), some (aI 2), some (aI 3), some (aI 48), none, none, none, none]) rfl rfl ?_
  refine E_s (p' := 97) rfl rfl ?_
  refine E_s (p' := 98) (st' := aI 48 :: _) rfl rfl ?_
  refine E_s (p' := 100) (st' := aI 61 :: _) rfl rfl ?_
  refine E_s (p' := 103) rfl rfl ?_
  refine E_s (p' := 104) (st' := aA 124 :: _) rfl rfl ?_
  refine E_s (p' := 107) (st' := aA 167 :: _) rfl rfl ?_
  refine E_s (p' := 108) (st' := aI 48 :: _) rfl rfl ?_
  refine E_s (p' := 109) (st' := aI 0 :: _) rfl rfl ?_
  refine E_stM (p' := 110) (m' := up2 _ 167 48 0) rfl rfl ?_
  refine E_s (p' := 113) (L' := [some (aA 124), some (aI 2), some (aI 3), some (aI 49), none, none, none, none]) rfl rfl ?_
  refine E_s (p' := 97) rfl rfl ?_
  refine E_s (p' := 98) (st' := aI 49 :: _) rfl rfl ?_
  refine E_s (p' := 100) (st' := aI 61 :: _) rfl rfl ?_
  refine E_s (p' := 103) rfl rfl ?_
  refine E_s (p' := 104) (st' := aA 124 :: _) rfl rfl ?_
  refine E_s (p' := 107) (st' := aA 167 :: _) rfl rfl ?_
  refine E_s (p' := 108) (st' := aI 49 :: _) rfl rfl ?_
  refine E_s (p' := 109) (st' := aI 0 :: _) rfl rfl ?_
  refine E_stM (p' := 110) (m' := up2 _ 167 49 0) rfl rfl ?_
  refine E_s (p' := 113) (L' := [some (aA 124), some (aI 2), some (aI 3), some (aI 50), none, none, none, none]) rfl rfl ?_
  refine E_s (p' := 97) rfl rfl ?_
  refine E_s (p' := 98) (st' := aI 50 :: _) rfl rfl ?_
  refine E_s (p' := 100) (st' := aI 61 :: _) rfl rfl ?_
  refine E_s (p' := 103) rfl rfl ?_
  refine E_s (p' := 104) (st' := aA 124 :: _) rfl rfl ?_
  refine E_s (p' := 107) (st' := aA 167 :: _) rfl rfl ?_
  refine E_s (p' := 108) (st' := aI 50 :: _) rfl rfl ?_
  refine E_s (p' := 109) (st' := aI 0 :: _) rfl rfl ?_
  refine E_stM (p' := 110) (m' := up2 _ 167 50 0) rfl rfl ?_
  refine E_s (p' := 113) (L' := [some (aA 124), some (aI 2), some (aI 3), some (aI 51), none, none, none, none]) rfl rfl ?_
  refine E_s (p' := 97) rfl rfl ?_
  refine E_s (p' := 98) (st' := aI 51 :: _) rfl rfl ?_
  refine E_s (p' := 100) (st' := aI 61 :: _) rfl rfl ?_
  refine E_s (p' := 103) rfl rfl ?_
  refine E_s (p' := 104) (st' := aA 124 :: _) rfl rfl ?_
  refine E_s (p' := 107) (st' := aA 167 :: _) rfl rfl ?_
  refine E_s (p' := 108) (st' := aI 51 :: _) rfl rfl ?_
  refine E_s (p' := 109) (st' := aI 0 :: _) rfl rfl ?_
  refine E_stM (p' := 110) (m' := up2 _ 167 51 0) rfl rfl ?_
  refine E_s (p' := 113) (L' := [some (aA 124), some (aI 2), some (aI 3), some (aI 52), none, none, none, none]) rfl rfl ?_
  refine E_s (p' := 97) rfl rfl ?_
  refine E_s (p' := 98) (st' := aI 52 :: _) rfl rfl ?_
  refine E_s (p' := 100) (st' := aI 61 :: _) rfl rfl ?_
  refine E_s (p' := 103) rfl rfl ?_
  refine E_s (p' := 104) (st' := aA 124 :: _) rfl rfl ?_
  refine E_s (p' := 107) (st' := aA 167 :: _) rfl rfl ?_
  refine E_s (p' := 108) (st' := aI 52 :: _) rfl rfl ?_
  refine E_s (p' := 109) (st' := aI 0 :: _) rfl rfl ?_
  refine E_stM (p' := 110) (m' := up2 _ 167 52 0) rfl rfl ?_
  refine E_s (p' := 113) (L' := [some (aA 124), some (aI 2), some (aI 3), some (aI 53), none, none, none, none]) rfl rfl ?_
  refine E_s (p' := 97) rfl rfl ?_
  refine E_s (p' := 98) (st' := aI 53 :: _) rfl rfl ?_
  refine E_s (p' := 100) (st' := aI 61 :: _) rfl rfl ?_
  refine E_s (p' := 103) rfl rfl ?_
  refine E_s (p' := 104) (st' := aA 124 :: _) rfl rfl ?_
  refine E_s (p' := 107) (st' := aA 167 :: _) rfl rfl ?_
  refine E_s (p' := 108) (st' := aI 53 :: _) rfl rfl ?_
  refine E_s (p' := 109) (st' := aI 0 :: _) rfl rfl ?_
  refine E_stM (p' := 110) (m' := up2 _ 167 53 0) rfl rfl ?_
  refine E_s (p' := 113) (L' := [some (aA 124), some (aI 2), some (aI 3), some (aI 54), none, none, none, none]) rfl rfl ?_
  refine E_s (p' := 97) rfl rfl ?_
  refine E_s (p' := 98) (st' := aI 54 :: _) rfl rfl ?_
  refine E_s (p' := 100) (st' := aI 61 :: _) rfl rfl ?_
  refine E_s (p' := 103) rfl rfl ?_
  refine E_s (p' := 104) (st' := aA 124 :: _) rfl rfl ?_
  refine E_s (p' := 107) (st' := aA 167 :: _) rfl rfl ?_
  refine E_s (p' := 108) (st' := aI 54 :: _) rfl rfl ?_
  refine E_s (p' := 109) (st' := aI 0 :: _) rfl rfl ?_
  refine E_stM (p' := 110) (m' := up2 _ 167 54 0) rfl rfl ?_
  refine E_s (p' := 113) (L' := [some (aA 124), some (aI 2), some (aI 3), some (aI 55), none, none, none, none]) rfl rfl ?_
  refine E_s (p' := 97) rfl rfl ?_
  refine E_s (p' := 98) (st' := aI 55 :: _) rfl rfl ?_
  refine E_s (p' := 100) (st' := aI 61 :: _) rfl rfl ?_
  refine E_s (p' := 103) rfl rfl ?_
  refine E_s (p' := 104) (st' := aA 124 :: _) rfl rfl ?_
  refine E_s (p' := 107) (st' := aA 167 :: _) rfl rfl ?_
  refine E_s (p' := 108) (st' := aI 55 :: _) rfl rfl ?_
  refine E_s (p' := 109) (st' := aI 0 :: _) rfl rfl ?_
  refine E_stM (p' := 110) (m' := up2 _ 167 55 0) rfl rfl ?_
  refine E_s (p' := 113) (L' := [some (aA 124), some (aI 2), some (aI 3), some (aI 56), none, none, none, none]) rfl rfl ?_
  refine E_s (p' := 97) rfl rfl ?_
  refine E_s (p' := 98) (st' := aI 56 :: _) rfl rfl ?_
  refine E_s (p' := 100) (st' := aI 61 :: _) rfl rfl ?_
  refine E_s (p' := 103) rfl rfl ?_
  refine E_s (p' := 104) (st' := aA 124 :: _) rfl rfl ?_
  refine E_s (p' := 107) (st' := aA 167 :: _) rfl rfl ?_
  refine E_s (p' := 108) (st' := aI 56 :: _) rfl rfl ?_
  refine E_s (p' := 109) (st' := aI 0 :: _) rfl rfl ?_
  refine E_stM (p' := 110) (m' := up2 _ 167 56 0) rfl rfl ?_
  refine E_s (p' := 113) (L' := [some (aA 124), some (aI 2), some (aI 3), some (aI 57), none, none, none, none]) rfl rfl ?_
  refine E_s (p' := 97) rfl rfl ?_
  refine E_s (p' := 98) (st' := aI 57 :: _) rfl rfl ?_
  refine E_s (p' := 100) (st' := aI 61 :: _) rfl rfl ?_
  refine E_s (p' := 103) rfl rfl ?_
  refine E_s (p' := 104) (st' := aA 124 :: _) rfl rfl ?_
  refine E_s (p' := 107) (st' := aA 167 :: _) rfl rfl ?_
  refine E_s (p' := 108) (st' := aI 57 :: _) rfl rfl ?_
  refine E_s (p' := 109) (st' := aI 0 :: _) rfl rfl ?_
  refine E_stM (p' := 110) (m' := up2 _ 167 57 0) rfl rfl ?_
  refine E_s (p' := 113) (L' := [some (aA 124), some (aI 2), some (aI 3), some (aI 58), none, none, none, none]) rfl rfl ?_
  refine E_s (p' := 97) rfl rfl ?_
  refine E_s (p' := 98) (st' := aI 58 :: _) rfl rfl ?_
  refine E_s (p' := 100) (st' := aI 61 :: _) rfl rfl ?_
  refine E_s (p' := 103) rfl rfl ?_
  refine E_s (p' := 104) (st' := aA 124 :: _) rfl rfl ?_
  refine E_s (p' := 107) (st' := aA 167 :: _) rfl rfl ?_
  refine E_s (p' := 108) (st' := aI 58 :: _) rfl rfl ?_
  refine E_s (p' := 109) (st' := aI 0 :: _) rfl rfl ?_
  refine E_stM (p' := 110) (m' := up2 _ 167 58 0) rfl rfl ?_
  refine E_s (p' := 113) (L' := [some (aA 124), some (aI 2), some (aI 3), some (aI 59), none, none, none, none]) rfl rfl ?_
  refine E_s (p' := 97) rfl rfl ?_
  refine E_s (p' := 98) (st' := aI 59 :: _) rfl rfl ?_
  refine E_s (p' := 100) (st' := aI 61 :: _) rfl rfl ?_
  refine E_s (p' := 103) rfl rfl ?_
  refine E_s (p' := 104) (st' := aA 124 :: _) rfl rfl ?_
  refine E_s (p' := 107) (st' := aA 167 :: _) rfl rfl ?_
  refine E_s (p' := 108) (st' := aI 59 :: _) rfl rfl ?_
  refine E_s (p' := 109) (st' := aI 0 :: _) rfl rfl ?_
  refine E_stM (p' := 110) (m' := up2 _ 167 59 0) rfl rfl ?_
  refine E_s (p' := 113) (L' := [some (aA 124), some (aI 2), some (aI 3), some (aI 60), none, none, none, none]) rfl rfl ?_
  refine E_s (p' := 97) rfl rfl ?_
  refine E_s (p' := 98) (st' := aI 60 :: _) rfl rfl ?_
  refine E_s (p' := 100) (st' := aI 61 :: _) rfl rfl ?_
  refine E_s (p' := 103) rfl rfl ?_
  refine E_s (p' := 104) (st' := aA 124 :: _) rfl rfl ?_
  refine E_s (p' := 107) (st' := aA 167 :: _) rfl rfl ?_
  refine E_s (p' := 108) (st' := aI 60 :: _) rfl rfl ?_
  refine E_s (p' := 109) (st' := aI 0 :: _) rfl rfl ?_
  refine E_stM (p' := 110) (m' := up2 _ 167 60 0) rfl rfl ?_
  refine E_s (p' := 113) (L' := [some (aA 124), some (aI 2), some (aI 3), some (aI 61), none, none, none, none]) rfl rfl ?_
  refine E_s (p' := 97) rfl rfl ?_
  refine E_s (p' := 98) (st' := aI 61 :: _) rfl rfl ?_
  refine E_s (p' := 100) (st' := aI 61 :: _) rfl rfl ?_
  refine E_s (p' := 116) rfl rfl ?_
  refine E_s (p' := 117) (st' := aI 0 :: _) rfl rfl ?_
  refine E_s (p' := 118) (L' := [some (aA 124), some (aI 2), some (aI 3), some (aI 0), none, none, none, none]) rfl rfl ?_
  refine E_s (p' := 119) (st' := aI 0 :: _) rfl rfl ?_
  refine E_s (p' := 120) (st' := aA 124 :: _) rfl rfl ?_
  refine E_s (p' := 123) (st' := aA 125 :: _) rfl rfl ?_
  refine E_s (p' := 124) (st' := aI 2 :: _) rfl rfl ?_
  refine E_s (p' := 125) (st' := aI 0 :: _) rfl rfl ?_
  refine E_s (p' := 289) rfl rfl ?_
  refine E_s (p' := 290) (st' := aA 124 :: _) rfl rfl ?_
  refine E_s (p' := 293) (st' := aA 167 :: _) rfl rfl ?_
  refine E_s (p' := 294) (st' := aA 124 :: _) rfl rfl ?_
  refine E_s (p' := 297) (st' := aA 125 :: _) rfl rfl ?_
  refine E_s (p' := 298) (st' := aI 3 :: _) rfl rfl ?_
  refine E_s (p' := 299) (st' := aI 0 :: _) rfl rfl ?_
  refine E_s (p' := 300) (st' := aI 0 :: _) rfl rfl ?_
  refine E_ret rfl rfl ?_
  refine E_s (p' := 1174) rfl rfl ?_
  refine E_s (p' := 1177) (L' := [some (aA 0), some (aA 1), some (aA 124), some (aI 6)]) rfl rfl ?_
  refine E_s (p' := 18) rfl rfl ?_
  refine E_s (p' := 19) (st' := aI 6 :: _) rfl rfl ?_
  refine E_s (p' := 20) (st' := aA 0 :: _) rfl rfl ?_
  refine E_s (p' := 21) (st' := aI 6 :: _) rfl rfl ?_
  refine E_s (p' := 23) (st' := aI 6 :: _) rfl rfl ?_
  refine E_s (p' := 24) (st' := aI 0 :: _) rfl rfl ?_
  refine E_s (p' := 1180) rfl rfl ?_
  refine E_s (p' := 1181) (st' := aI 1 :: _) rfl rfl ?_
  exact E_ret rfl rfl ⟨rfl, rfl⟩
set_option maxRecDepth 100000 in
set_option maxHeartbeats 40000000 in
theorem pc_26_2_o (xs : Nat → Int) {z a2 a3 a4 a5 : Int} (hz : b32 (fun a b => a &&& b) z 31 = 26) (h0 : xs 0 = z) (h1 : xs 1 = 2) (h2 : xs 2 = a2) (h3 : xs 3 = a3) (h4 : xs 4 = a4) (h5 : xs 5 = a5) (hr2 : a2 < 0 ∨ 3 < a2) : E 0 18 LL [] (s0 xs 6) PQ := by
  refine E_s (p' := 19) (st' := aI 0 :: _) rfl rfl ?_
  refine E_s (p' := 20) (st' := aA 0 :: _) rfl rfl ?_
  refine E_s (p' := 21) (st' := aI 6 :: _) rfl rfl ?_
  refine E_s (p' := 23) (st' := aI 6 :: _) rfl rfl ?_
  refine E_s (p' := 24) (st' := aI 0 :: _) rfl rfl ?_
  refine E_s (p' := 27) rfl rfl ?_
  refine E_s (p' := 28) (st' := aA 0 :: _) rfl rfl ?_
  refine E_s (p' := 29) (st' := aI 0 :: _) rfl rfl ?_
  refine E_scr rfl rfl h0 ?_
  refine E_s (p' := 32) (st' := aI 31 :: _) rfl rfl ?_
  refine E_s (p' := 33) rfl rfl ?_
  refine E_val hz ?_
  refine E_s (p' := 1108) rfl rfl ?_
  refine E_s (p' := 1109) (st' := aA 1 :: _) rfl rfl ?_
  refine E_s (p' := 1110) (st' := aA 0 :: _) rfl rfl ?_
  refine E_s (p' := 1111) (st' := aI 0 :: _) rfl rfl ?_
  refine E_s (p' := 1112) (st' := aI 1 :: _) rfl rfl ?_
  refine E_s (p' := 1113) (st' := aI 1 :: _) rfl rfl ?_
  refine E_scr rfl rfl h1 ?_
  refine E_s (p' := 1115) (st' := aA 0 :: _) rfl rfl ?_
  refine E_s (p' := 1116) (st' := aI 0 :: _) rfl rfl ?_
  refine E_s (p' := 1117) (st' := aI 2 :: _) rfl rfl ?_
  refine E_s (p' := 1118) (st' := aI 2 :: _) rfl rfl ?_
  refine E_scr rfl rfl h2 ?_
  refine E_callL (p' := 1122) (L0 := [some (aA 1), some (aI 2), some (aI a2), none, none, none]) rfl rfl rfl ?_
  refine E_s (p' := 1) (st' := aA 1 :: _) rfl rfl ?_
  refine E_s (p' := 2) (st' := aI 2 :: _) rfl rfl ?_
  refine E_callL (p' := 5) (L0 := [some (aA 1), some (aI 2), none]) rfl rfl rfl ?_
  refine E_s (p' := 1) (st' := aA 1 :: _) rfl rfl ?_
  refine E_s (p' := 2) (st' := aI 2 :: _) rfl rfl ?_
  refine E_callL (p' := 5) (L0 := [some (aA 1), some (aI 2)]) rfl rfl rfl ?_
  refine E_s (p' := 1) (st' := aI 2 :: _) rfl rfl ?_
  refine E_s (p' := 4) rfl rfl ?_
  refine E_s (p' := 5) (st' := aI 2 :: _) rfl rfl ?_
  refine E_s (p' := 6) (st' := aI 4 :: _) rfl rfl ?_
  refine E_s (p' := 9) rfl rfl ?_
  refine E_s (p' := 10) (st' := aA 1 :: _) rfl rfl ?_
  refine E_s (p' := 13) (st' := aA 2 :: _) rfl rfl ?_
  refine E_s (p' := 14) (st' := aI 2 :: _) rfl rfl ?_
  refine E_s (p' := 15) (st' := aA 72 :: _) rfl rfl ?_
  refine E_s (p' := 19) rfl rfl ?_
  refine E_ret rfl rfl ?_
  refine E_s (p' := 6) (L' := [some (aA 1), some (aI 2), some (aA 72)]) rfl rfl ?_
  refine E_s (p' := 7) (st' := aA 72 :: _) rfl rfl ?_
  refine E_s (p' := 10) rfl rfl ?_
  refine E_s (p' := 11) (st' := aA 72 :: _) rfl rfl ?_
  refine E_callL (p' := 14) (L0 := [some (aA 72)]) rfl rfl rfl ?_
  refine E_s (p' := 1) (st' := aA 72 :: _) rfl rfl ?_
  refine E_s (p' := 4) (st' := aI 0 :: _) rfl rfl ?_
  refine E_s (p' := 7) rfl rfl ?_
  refine E_s (p' := 8) (st' := aA 72 :: _) rfl rfl ?_
  refine E_s (p' := 11) (st' := aA 87 :: _) rfl rfl ?_
  refine E_s (p' := 12) (st' := aA 72 :: _) rfl rfl ?_
  refine E_s (p' := 15) (st' := aA 73 :: _) rfl rfl ?_
  refine E_s (p' := 16) (st' := aA 72 :: _) rfl rfl ?_
  refine E_s (p' := 19) (st' := aI 15 :: _) rfl rfl ?_
  refine E_callL (p' := 22) (L0 := [some (aA 87), some (aA 73), some (aI 15), none]) rfl rfl rfl ?_
  refine E_s (p' := 1) (st' := aA 87 :: _) rfl rfl ?_
  refine E_s (p' := 2) (st' := aA 73 :: _) rfl rfl ?_
  refine E_callL (p' := 5) (L0 := [some (aA 87), some (aA 73), none, none]) rfl rfl rfl ?_
  refine E_s (p' := 1) (st' := aA 87 :: _) rfl rfl ?_
  refine E_s (p' := 4) (st' := aA 96 :: _) rfl rfl ?_
  refine E_s (p' := 5) (st' := aI 0 :: _) rfl rfl ?_
  refine E_call rfl rfl ?_
  refine c_fill rfl rfl ?_
  refine E_s (p' := 9) (st' := aA 87 :: _) rfl rfl ?_
  refine E_s (p' := 12) (st' := aA 92 :: _) rfl rfl ?_
  refine E_s (p' := 13) (st' := aI 0 :: _) rfl rfl ?_
  refine E_call rfl rfl ?_
  refine c_fill rfl rfl ?_
  refine E_s (p' := 17) (st' := aA 87 :: _) rfl rfl ?_
  refine E_s (p' := 18) (st' := aI 0 :: _) rfl rfl ?_
  refine E_stM (p' := 21) (m' := up2 _ 87 10 0) rfl rfl ?_
  refine E_s (p' := 22) (st' := aA 87 :: _) rfl rfl ?_
  refine E_s (p' := 23) (st' := aI 0 :: _) rfl rfl ?_
  refine E_stM (p' := 26) (m' := up2 _ 87 11 0) rfl rfl ?_
  refine E_s (p' := 27) (st' := aI 0 :: _) rfl rfl ?_
  refine E_s (p' := 28) (L' := [some (aA 87), some (aA 73), some (aI 0), none]) rfl rfl ?_
  refine E_s (p' := 29) (st' := aI 0 :: _) rfl rfl ?_
  refine E_s (p' := 30) (st' := aA 73 :: _) rfl rfl ?_
  refine E_s (p' := 33) (st' := aI 0 :: _) rfl rfl ?_
  refine E_s (p' := 135) rfl rfl ?_
  refine E_ret rfl rfl ?_
  refine E_s (p' := 6) (st' := aA 87 :: _) rfl rfl ?_
  refine E_s (p' := 7) (st' := aI 15 :: _) rfl rfl ?_
  refine E_callL (p' := 10) (L0 := [some (aA 87), some (aI 15), none]) rfl rfl rfl ?_
  refine E_s (p' := 1) (st' := aA 87 :: _) rfl rfl ?_
  refine E_s (p' := 2) (st' := aI 0 :: _) rfl rfl ?_
  refine E_stM (p' := 5) (m' := up2 _ 87 12 0) rfl rfl ?_
  refine E_s (p' := 6) (st' := aI 1 :: _) rfl rfl ?_
  refine E_s (p' := 7) (L' := [some (aA 87), some (aI 15), some (aI 1)]) rfl rfl ?_
  refine fl_loop (gp := 0) (by decide) _ 600 1 _ rfl (fun j hj => show (if 0 ≤ j ∧ j < 601 then (0 : Int) else _) = 0 from if_pos ⟨Nat.zero_le _, hj⟩) ?_
  refine E_s (p' := 11) (st' := aA 87 :: _) rfl rfl ?_
  refine E_s (p' := 14) (st' := aI 0 :: _) rfl rfl ?_
  refine E_s (p' := 17) rfl rfl ?_
  refine E_s (p' := 18) (st' := aA 87 :: _) rfl rfl ?_
  refine E_callL (p' := 21) (L0 := [some (aA 87)]) rfl rfl rfl ?_
  refine E_s (p' := 1) (st' := aA 87 :: _) rfl rfl ?_
  refine E_s (p' := 4) (st' := aA 93 :: _) rfl rfl ?_
  refine E_s (p' := 5) (st' := aA 87 :: _) rfl rfl ?_
  refine E_s (p' := 8) (st' := aI 0 :: _) rfl rfl ?_
  refine E_s (p' := 15) rfl rfl ?_
  refine E_s (p' := 16) (st' := aI 0 :: _) rfl rfl ?_
  refine E_call rfl rfl ?_
  refine c_fill rfl rfl ?_
  refine E_s (p' := 20) (st' := aA 87 :: _) rfl rfl ?_
  refine E_s (p' := 23) (st' := aA 94 :: _) rfl rfl ?_
  refine E_s (p' := 24) (st' := aI 0 :: _) rfl rfl ?_
  refine E_call rfl rfl ?_
  refine c_fill rfl rfl ?_
  refine E_s (p' := 28) (st' := aA 87 :: _) rfl rfl ?_
  refine E_s (p' := 31) (st' := aA 95 :: _) rfl rfl ?_
  refine E_s (p' := 32) (st' := aI 0 :: _) rfl rfl ?_
  refine E_call rfl rfl ?_
  refine c_fill rfl rfl ?_
  refine E_ret rfl rfl ?_
  refine E_ret rfl rfl ?_
  refine E_s (p' := 23) (st' := aA 72 :: _) rfl rfl ?_
  refine E_s (p' := 24) (st' := aI 1 :: _) rfl rfl ?_
  refine E_stM (p' := 27) (m' := up2 _ 72 7 1) rfl rfl ?_
  refine E_s (p' := 28) (st' := aA 72 :: _) rfl rfl ?_
  refine E_s (p' := 31) (st' := aA 87 :: _) rfl rfl ?_
  refine E_ret rfl rfl ?_
  refine E_s (p' := 15) rfl rfl ?_
  refine E_s (p' := 16) (st' := aA 72 :: _) rfl rfl ?_
  refine E_ret rfl rfl ?_
  refine E_s (p' := 6) (L' := [some (aA 1), some (aI 2), some (aI a2), some (aA 72), none, none]) rfl rfl ?_
  refine E_s (p' := 7) (st' := aA 1 :: _) rfl rfl ?_
  refine E_s (p' := 8) rfl rfl ?_
  refine E_callL (p' := 11) (L0 := [some (aA 1), some (aI a2), none]) rfl rfl rfl ?_
  refine E_s (p' := 1) (st' := aA 1 :: _) rfl rfl ?_
  refine E_s (p' := 2) rfl rfl ?_
  refine E_callL (p' := 5) (L0 := [some (aA 1), some (aI a2)]) rfl rfl rfl ?_
  refine E_s (p' := 1) rfl rfl ?_
  refine E_if_lt rfl (by decide) (fun _ => ?_) (fun _ => ?_)
  · refine E_s (p' := 19) rfl rfl ?_
    refine E_ret rfl rfl ?_
    refine E_s (p' := 6) (L' := [some (aA 1), some (aI a2), some aN]) rfl rfl ?_
    refine E_s (p' := 7) rfl rfl ?_
    refine E_s (p' := 15) rfl rfl ?_
    refine E_s (p' := 16) rfl rfl ?_
    refine E_ret rfl rfl ?_
    refine E_s (p' := 13) (L' := [some (aA 1), some (aI 2), some (aI a2), some (aA 72), some aN, none]) rfl rfl ?_
    refine E_s (p' := 14) (st' := aA 72 :: _) rfl rfl ?_
    refine E_s (p' := 17) rfl rfl ?_
    refine E_s (p' := 19) rfl rfl ?_
    refine E_s (p' := 22) rfl rfl ?_
    refine E_s (p' := 24) (st' := aI (-2) :: _) rfl rfl ?_
    refine E_ret rfl rfl ?_
    refine E_s (p' := 1123) (st' := aA 124 :: _) rfl rfl ?_
    refine E_s (p' := 1124) (st' := aA 0 :: _) rfl rfl ?_
    refine E_s (p' := 1125) (st' := aI 0 :: _) rfl rfl ?_
    refine E_s (p' := 1126) (st' := aI 1 :: _) rfl rfl ?_
    refine E_s (p' := 1127) (st' := aI 1 :: _) rfl rfl ?_
    refine E_scr rfl rfl h1 ?_
    refine E_s (p' := 1129) (st' := aA 0 :: _) rfl rfl ?_
    refine E_s (p' := 1130) (st' := aI 0 :: _) rfl rfl ?_
    refine E_s (p' := 1131) (st' := aI 2 :: _) rfl rfl ?_
    refine E_s (p' := 1132) (st' := aI 2 :: _) rfl rfl ?_
    refine E_scr rfl rfl h2 ?_
    refine E_callL (p' := 1136) (L0 := [some (aA 124), some (aI 2), some (aI a2), none, none, none, none, none]) rfl rfl rfl ?_
    refine E_s (p' := 1) (st' := aI 2 :: _) rfl rfl ?_
    refine E_callL (p' := 4) (L0 := [some (aI 2)]) rfl rfl rfl ?_
    refine E_s (p' := 1) (st' := aI 2 :: _) rfl rfl ?_
    refine E_s (p' := 2) (st' := aI 0 :: _) rfl rfl ?_
    refine E_s (p' := 3) (st' := aI 3 :: _) rfl rfl ?_
    refine E_callL (p' := 6) (L0 := [some (aI 2), some (aI 0), some (aI 3)]) rfl rfl rfl ?_
    refine E_s (p' := 1) (st' := aI 2 :: _) rfl rfl ?_
    refine E_s (p' := 2) (st' := aI 0 :: _) rfl rfl ?_
    refine E_s (p' := 5) rfl rfl ?_
    refine E_s (p' := 6) (st' := aI 2 :: _) rfl rfl ?_
    refine E_s (p' := 7) (st' := aI 3 :: _) rfl rfl ?_
    refine E_s (p' := 10) rfl rfl ?_
    refine E_s (p' := 11) (st' := aI 1 :: _) rfl rfl ?_
    refine E_s (p' := 15) rfl rfl ?_
    refine E_ret rfl rfl ?_
    refine E_ret rfl rfl ?_
    refine E_s (p' := 7) rfl rfl ?_
    refine E_s (p' := 8) rfl rfl ?_
    refine E_callL (p' := 11) (L0 := [some (aI a2)]) rfl rfl rfl ?_
    refine E_s (p' := 1) rfl rfl ?_
    refine E_s (p' := 2) (st' := aI 0 :: _) rfl rfl ?_
    refine E_s (p' := 3) (st' := aI 3 :: _) rfl rfl ?_
    refine E_callL (p' := 6) (L0 := [some (aI a2), some (aI 0), some (aI 3)]) rfl rfl rfl ?_
    refine E_s (p' := 1) rfl rfl ?_
    refine E_s (p' := 2) (st' := aI 0 :: _) rfl rfl ?_
    refine E_icmp_lt (y := 0) rfl (by decide) (fun _ => ?_) (fun q => absurd q (by omega))
    refine E_s (p' := 15) (st' := aI 0 :: _) rfl rfl ?_
    refine E_ret rfl rfl ?_
    refine E_ret rfl rfl ?_
    refine E_s (p' := 14) rfl rfl ?_
    refine E_s (p' := 16) (st' := aI (-2) :: _) rfl rfl ?_
    refine E_ret rfl rfl ?_
    refine E_s (p' := 1174) rfl rfl ?_
    refine E_s (p' := 1177) (L' := [some (aA 0), some (aA 1), some (aA 124), some (aI 6)]) rfl rfl ?_
    refine E_s (p' := 18) rfl rfl ?_
    refine E_s (p' := 19) (st' := aI 6 :: _) rfl rfl ?_
    refine E_s (p' := 20) (st' := aA 0 :: _) rfl rfl ?_
    refine E_s (p' := 21) (st' := aI 6 :: _) rfl rfl ?_
    refine E_s (p' := 23) (st' := aI 6 :: _) rfl rfl ?_
    refine E_s (p' := 24) (st' := aI 0 :: _) rfl rfl ?_
    refine E_s (p' := 1180) rfl rfl ?_
    refine E_s (p' := 1181) (st' := aI 1 :: _) rfl rfl ?_
    exact E_ret rfl rfl ⟨rfl, rfl⟩
  · refine E_s (p' := 5) rfl rfl ?_
    refine E_s (p' := 6) (st' := aI 4 :: _) rfl rfl ?_
    refine E_icmp_ge (y := 4) rfl (by decide) (fun _ => ?_) (fun q => absurd q (by omega))
    refine E_s (p' := 19) rfl rfl ?_
    refine E_ret rfl rfl ?_
    refine E_s (p' := 6) (L' := [some (aA 1), some (aI a2), some aN]) rfl rfl ?_
    refine E_s (p' := 7) rfl rfl ?_
    refine E_s (p' := 15) rfl rfl ?_
    refine E_s (p' := 16) rfl rfl ?_
    refine E_ret rfl rfl ?_
    refine E_s (p' := 13) (L' := [some (aA 1), some (aI 2), some (aI a2), some (aA 72), some aN, none]) rfl rfl ?_
    refine E_s (p' := 14) (st' := aA 72 :: _) rfl rfl ?_
    refine E_s (p' := 17) rfl rfl ?_
    refine E_s (p' := 19) rfl rfl ?_
    refine E_s (p' := 22) rfl rfl ?_
    refine E_s (p' := 24) (st' := aI (-2) :: _) rfl rfl ?_
    refine E_ret rfl rfl ?_
    refine E_s (p' := 1123) (st' := aA 124 :: _) rfl rfl ?_
    refine E_s (p' := 1124) (st' := aA 0 :: _) rfl rfl ?_
    refine E_s (p' := 1125) (st' := aI 0 :: _) rfl rfl ?_
    refine E_s (p' := 1126) (st' := aI 1 :: _) rfl rfl ?_
    refine E_s (p' := 1127) (st' := aI 1 :: _) rfl rfl ?_
    refine E_scr rfl rfl h1 ?_
    refine E_s (p' := 1129) (st' := aA 0 :: _) rfl rfl ?_
    refine E_s (p' := 1130) (st' := aI 0 :: _) rfl rfl ?_
    refine E_s (p' := 1131) (st' := aI 2 :: _) rfl rfl ?_
    refine E_s (p' := 1132) (st' := aI 2 :: _) rfl rfl ?_
    refine E_scr rfl rfl h2 ?_
    refine E_callL (p' := 1136) (L0 := [some (aA 124), some (aI 2), some (aI a2), none, none, none, none, none]) rfl rfl rfl ?_
    refine E_s (p' := 1) (st' := aI 2 :: _) rfl rfl ?_
    refine E_callL (p' := 4) (L0 := [some (aI 2)]) rfl rfl rfl ?_
    refine E_s (p' := 1) (st' := aI 2 :: _) rfl rfl ?_
    refine E_s (p' := 2) (st' := aI 0 :: _) rfl rfl ?_
    refine E_s (p' := 3) (st' := aI 3 :: _) rfl rfl ?_
    refine E_callL (p' := 6) (L0 := [some (aI 2), some (aI 0), some (aI 3)]) rfl rfl rfl ?_
    refine E_s (p' := 1) (st' := aI 2 :: _) rfl rfl ?_
    refine E_s (p' := 2) (st' := aI 0 :: _) rfl rfl ?_
    refine E_s (p' := 5) rfl rfl ?_
    refine E_s (p' := 6) (st' := aI 2 :: _) rfl rfl ?_
    refine E_s (p' := 7) (st' := aI 3 :: _) rfl rfl ?_
    refine E_s (p' := 10) rfl rfl ?_
    refine E_s (p' := 11) (st' := aI 1 :: _) rfl rfl ?_
    refine E_s (p' := 15) rfl rfl ?_
    refine E_ret rfl rfl ?_
    refine E_ret rfl rfl ?_
    refine E_s (p' := 7) rfl rfl ?_
    refine E_s (p' := 8) rfl rfl ?_
    refine E_callL (p' := 11) (L0 := [some (aI a2)]) rfl rfl rfl ?_
    refine E_s (p' := 1) rfl rfl ?_
    refine E_s (p' := 2) (st' := aI 0 :: _) rfl rfl ?_
    refine E_s (p' := 3) (st' := aI 3 :: _) rfl rfl ?_
    refine E_callL (p' := 6) (L0 := [some (aI a2), some (aI 0), some (aI 3)]) rfl rfl rfl ?_
    refine E_s (p' := 1) rfl rfl ?_
    refine E_s (p' := 2) (st' := aI 0 :: _) rfl rfl ?_
    refine E_icmp_lt (y := 0) rfl (by decide) (fun q => absurd q (by omega)) (fun _ => ?_)
    refine E_s (p' := 6) rfl rfl ?_
    refine E_s (p' := 7) (st' := aI 3 :: _) rfl rfl ?_
    refine E_icmp_gt (y := 3) rfl (by decide) (fun _ => ?_) (fun q => absurd q (by omega))
    refine E_s (p' := 15) (st' := aI 0 :: _) rfl rfl ?_
    refine E_ret rfl rfl ?_
    refine E_ret rfl rfl ?_
    refine E_s (p' := 14) rfl rfl ?_
    refine E_s (p' := 16) (st' := aI (-2) :: _) rfl rfl ?_
    refine E_ret rfl rfl ?_
    refine E_s (p' := 1174) rfl rfl ?_
    refine E_s (p' := 1177) (L' := [some (aA 0), some (aA 1), some (aA 124), some (aI 6)]) rfl rfl ?_
    refine E_s (p' := 18) rfl rfl ?_
    refine E_s (p' := 19) (st' := aI 6 :: _) rfl rfl ?_
    refine E_s (p' := 20) (st' := aA 0 :: _) rfl rfl ?_
    refine E_s (p' := 21) (st' := aI 6 :: _) rfl rfl ?_
    refine E_s (p' := 23) (st' := aI 6 :: _) rfl rfl ?_
    refine E_s (p' := 24) (st' := aI 0 :: _) rfl rfl ?_
    refine E_s (p' := 1180) rfl rfl ?_
    refine E_s (p' := 1181) (st' := aI 1 :: _) rfl rfl ?_
    exact E_ret rfl rfl ⟨rfl, rfl⟩
