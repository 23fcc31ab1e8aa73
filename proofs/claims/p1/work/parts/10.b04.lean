set_option maxRecDepth 100000 in
set_option maxHeartbeats 40000000 in
theorem pc_8_0_2 (xs : Nat → Int) {z a3 a4 a5 : Int} (hz : b32 (fun a b => a &&& b) z 31 = 8) (h0 : xs 0 = z) (h1 : xs 1 = 0) (h2 : xs 2 = 2) (h3 : xs 3 = a3) (h4 : xs 4 = a4) (h5 : xs 5 = a5) : E 0 18 LL [] (s0 xs 6) PQ := by
  refine E_s (p' := 19) (st' := aI 0 :: _) rfl rfl ?_
  refine E_s (p' := 20) (st' := aA 0 :: _) rfl rfl ?_
  refine E_s (p' := 21) (st' := aI 6 :: _) rfl rfl ?_
  refine E_s (p' := 23) (st' := aI 6 :: _) rfl rfl ?_
  refine E_s (p' := 24) (st' := aI 0 :: _) rfl rfl ?_
  refine E_s (p' := 27) rfl rfl ?_
  refine E_s (p' := 28) (st' := aA 0 :: _) rfl rfl ?_
  refine E_s (p' := 29) (st' := aI 0 :: _) rfl rfl ?_
  refine E_scr rfl rfl h0 ?_
  refine E_s (p' := 32) (st' := aI 31 :: _) rfl rfl ?_
  refine E_s (p' := 33) rfl rfl ?_
  refine E_val hz ?_
  refine E_s (p' := 514) rfl rfl ?_
  refine E_s (p' := 515) (st' := aA 1 :: _) rfl rfl ?_
  refine E_s (p' := 516) (st' := aA 0 :: _) rfl rfl ?_
  refine E_s (p' := 517) (st' := aI 0 :: _) rfl rfl ?_
  refine E_s (p' := 518) (st' := aI 1 :: _) rfl rfl ?_
  refine E_s (p' := 519) (st' := aI 1 :: _) rfl rfl ?_
  refine E_scr rfl rfl h1 ?_
  refine E_s (p' := 521) (st' := aA 0 :: _) rfl rfl ?_
  refine E_s (p' := 522) (st' := aI 0 :: _) rfl rfl ?_
  refine E_s (p' := 523) (st' := aI 2 :: _) rfl rfl ?_
  refine E_s (p' := 524) (st' := aI 2 :: _) rfl rfl ?_
  refine E_scr rfl rfl h2 ?_
  refine E_callL (p' := 528) (L0 := [some (aA 1), some (aI 0), some (aI 2), none, none]) rfl rfl rfl ?_
  refine E_s (p' := 1) (st' := aA 1 :: _) rfl rfl ?_
  refine E_s (p' := 2) (st' := aI 0 :: _) rfl rfl ?_
  refine E_callL (p' := 5) (L0 := [some (aA 1), some (aI 0)]) rfl rfl rfl ?_
  refine E_s (p' := 1) (st' := aI 0 :: _) rfl rfl ?_
  refine E_s (p' := 4) rfl rfl ?_
  refine E_s (p' := 5) (st' := aI 0 :: _) rfl rfl ?_
  refine E_s (p' := 6) (st' := aI 4 :: _) rfl rfl ?_
  refine E_s (p' := 9) rfl rfl ?_
  refine E_s (p' := 10) (st' := aA 1 :: _) rfl rfl ?_
  refine E_s (p' := 13) (st' := aA 2 :: _) rfl rfl ?_
  refine E_s (p' := 14) (st' := aI 0 :: _) rfl rfl ?_
  refine E_s (p' := 15) (st' := aA 20 :: _) rfl rfl ?_
  refine E_s (p' := 19) rfl rfl ?_
  refine E_ret rfl rfl ?_
  refine E_s (p' := 6) (L' := [some (aA 1), some (aI 0), some (aI 2), some (aA 20), none]) rfl rfl ?_
  refine E_s (p' := 7) (st' := aA 1 :: _) rfl rfl ?_
  refine E_s (p' := 8) (st' := aI 2 :: _) rfl rfl ?_
  refine E_callL (p' := 11) (L0 := [some (aA 1), some (aI 2)]) rfl rfl rfl ?_
  refine E_s (p' := 1) (st' := aI 2 :: _) rfl rfl ?_
  refine E_s (p' := 4) rfl rfl ?_
  refine E_s (p' := 5) (st' := aI 2 :: _) rfl rfl ?_
  refine E_s (p' := 6) (st' := aI 4 :: _) rfl rfl ?_
  refine E_s (p' := 9) rfl rfl ?_
  refine E_s (p' := 10) (st' := aA 1 :: _) rfl rfl ?_
  refine E_s (p' := 13) (st' := aA 2 :: _) rfl rfl ?_
  refine E_s (p' := 14) (st' := aI 2 :: _) rfl rfl ?_
  refine E_s (p' := 15) (st' := aA 72 :: _) rfl rfl ?_
  refine E_s (p' := 19) rfl rfl ?_
  refine E_ret rfl rfl ?_
  refine E_s (p' := 13) (L' := [some (aA 1), some (aI 0), some (aI 2), some (aA 20), some (aA 72)]) rfl rfl ?_
  refine E_s (p' := 14) (st' := aA 20 :: _) rfl rfl ?_
  refine E_s (p' := 17) rfl rfl ?_
  refine E_s (p' := 19) (st' := aA 72 :: _) rfl rfl ?_
  refine E_s (p' := 25) rfl rfl ?_
  refine E_s (p' := 27) (st' := aA 72 :: _) rfl rfl ?_
  refine E_s (p' := 28) (st' := aA 20 :: _) rfl rfl ?_
  refine E_callL (p' := 31) (L0 := [some (aA 72), some (aA 20), none]) rfl rfl rfl ?_
  refine E_s (p' := 1) (st' := aA 72 :: _) rfl rfl ?_
  refine E_s (p' := 4) (st' := aI 15 :: _) rfl rfl ?_
  refine E_s (p' := 5) (st' := aA 20 :: _) rfl rfl ?_
  refine E_s (p' := 8) (st' := aI 15 :: _) rfl rfl ?_
  refine E_s (p' := 15) rfl rfl ?_
  refine E_s (p' := 16) (st' := aI 0 :: _) rfl rfl ?_
  refine E_s (p' := 17) (L' := [some (aA 72), some (aA 20), some (aI 0)]) rfl rfl ?_
  refine E_s (p' := 18) (st' := aA 72 :: _) rfl rfl ?_
  refine E_s (p' := 19) (st' := aA 20 :: _) rfl rfl ?_
  refine E_s (p' := 22) (st' := aI 15 :: _) rfl rfl ?_
  refine E_stM (p' := 25) (m' := up2 _ 72 5 15) rfl rfl ?_
  refine E_s (p' := 26) (st' := aI 0 :: _) rfl rfl ?_
  refine E_s (p' := 27) (st' := aA 72 :: _) rfl rfl ?_
  refine E_s (p' := 30) (st' := aA 73 :: _) rfl rfl ?_
  refine E_s (p' := 31) (st' := aA 20 :: _) rfl rfl ?_
  refine E_s (p' := 34) (st' := aA 21 :: _) rfl rfl ?_
  refine E_callL (p' := 37) (L0 := [some (aA 73), some (aA 21), none, none]) rfl rfl rfl ?_
  refine E_s (p' := 1) (st' := aA 73 :: _) rfl rfl ?_
  refine E_s (p' := 4) (st' := aI 0 :: _) rfl rfl ?_
  refine E_s (p' := 5) (st' := aA 21 :: _) rfl rfl ?_
  refine E_s (p' := 8) (st' := aI 0 :: _) rfl rfl ?_
  refine E_s (p' := 15) rfl rfl ?_
  refine E_s (p' := 16) (st' := aI 0 :: _) rfl rfl ?_
  refine E_s (p' := 17) (L' := [some (aA 73), some (aA 21), some (aI 0), none]) rfl rfl ?_
  refine E_s (p' := 18) (st' := aA 73 :: _) rfl rfl ?_
  refine E_s (p' := 19) (st' := aA 21 :: _) rfl rfl ?_
  refine E_s (p' := 22) (st' := aI 0 :: _) rfl rfl ?_
  refine E_stM (p' := 25) (m' := up2 _ 73 7 0) rfl rfl ?_
  refine E_s (p' := 26) (st' := aI 0 :: _) rfl rfl ?_
  refine E_s (p' := 27) (st' := aA 73 :: _) rfl rfl ?_
  refine E_s (p' := 30) (st' := aA 74 :: _) rfl rfl ?_
  refine E_s (p' := 31) (st' := aA 21 :: _) rfl rfl ?_
  refine E_s (p' := 34) (st' := aA 22 :: _) rfl rfl ?_
  refine E_s (p' := 35) (st' := aI 0 :: _) rfl rfl ?_
  refine E_s (p' := 36) (st' := aA 73 :: _) rfl rfl ?_
  refine E_s (p' := 39) (st' := aI 0 :: _) rfl rfl ?_
  refine E_callL (p' := 42) (L0 := [some (aA 74), some (aA 22), some (aI 0), some (aI 0), none, none]) rfl rfl rfl ?_
  refine E_s (p' := 1) (st' := aI 0 :: _) rfl rfl ?_
  refine E_s (p' := 3) (L' := [some (aA 74), some (aA 22), some (aI 0), some (aI 0), some (aI 0), none]) rfl rfl ?_
  refine E_s (p' := 4) (st' := aI 0 :: _) rfl rfl ?_
  refine E_s (p' := 6) (L' := [some (aA 74), some (aA 22), some (aI 0), some (aI 0), some (aI 0), some (aI 0)]) rfl rfl ?_
  refine E_s (p' := 8) (st' := aI 0 :: _) rfl rfl ?_
  refine E_s (p' := 9) (st' := aI 0 :: _) rfl rfl ?_
  refine E_s (p' := 10) (st' := aI 0 :: _) rfl rfl ?_
  refine E_s (p' := 11) (st' := aI 0 :: _) rfl rfl ?_
  refine E_s (p' := 49) rfl rfl ?_
  refine E_s (p' := 51) (st' := aI 0 :: _) rfl rfl ?_
  refine E_ret rfl rfl ?_
  refine E_s (p' := 43) (st' := aI 0 :: _) rfl rfl ?_
  refine E_s (p' := 44) (L' := [some (aA 73), some (aA 21), some (aI 0), none]) rfl rfl ?_
  refine E_s (p' := 45) (st' := aI 0 :: _) rfl rfl ?_
  refine E_s (p' := 46) (st' := aA 73 :: _) rfl rfl ?_
  refine E_s (p' := 49) (st' := aA 75 :: _) rfl rfl ?_
  refine E_s (p' := 50) (st' := aA 21 :: _) rfl rfl ?_
  refine E_s (p' := 53) (st' := aA 23 :: _) rfl rfl ?_
  refine E_s (p' := 54) (st' := aI 0 :: _) rfl rfl ?_
  refine E_s (p' := 55) (st' := aA 73 :: _) rfl rfl ?_
  refine E_s (p' := 58) (st' := aI 0 :: _) rfl rfl ?_
  refine E_callL (p' := 61) (L0 := [some (aA 75), some (aA 23), some (aI 0), some (aI 0), none, none]) rfl rfl rfl ?_
  refine E_s (p' := 1) (st' := aI 0 :: _) rfl rfl ?_
  refine E_s (p' := 3) (L' := [some (aA 75), some (aA 23), some (aI 0), some (aI 0), some (aI 0), none]) rfl rfl ?_
  refine E_s (p' := 4) (st' := aI 0 :: _) rfl rfl ?_
  refine E_s (p' := 6) (L' := [some (aA 75), some (aA 23), some (aI 0), some (aI 0), some (aI 0), some (aI 0)]) rfl rfl ?_
  refine E_s (p' := 8) (st' := aI 0 :: _) rfl rfl ?_
  refine E_s (p' := 9) (st' := aI 0 :: _) rfl rfl ?_
  refine E_s (p' := 10) (st' := aI 0 :: _) rfl rfl ?_
  refine E_s (p' := 11) (st' := aI 0 :: _) rfl rfl ?_
  refine E_s (p' := 49) rfl rfl ?_
  refine E_s (p' := 51) (st' := aI 0 :: _) rfl rfl ?_
  refine E_ret rfl rfl ?_
  refine E_s (p' := 62) (st' := aI 0 :: _) rfl rfl ?_
  refine E_s (p' := 63) (L' := [some (aA 73), some (aA 21), some (aI 0), none]) rfl rfl ?_
  refine E_s (p' := 64) (st' := aI 0 :: _) rfl rfl ?_
  refine E_s (p' := 65) (st' := aA 73 :: _) rfl rfl ?_
  refine E_s (p' := 68) (st' := aA 76 :: _) rfl rfl ?_
  refine E_s (p' := 69) (st' := aA 21 :: _) rfl rfl ?_
  refine E_s (p' := 72) (st' := aA 24 :: _) rfl rfl ?_
  refine E_s (p' := 73) (st' := aI 0 :: _) rfl rfl ?_
  refine E_s (p' := 74) (st' := aA 73 :: _) rfl rfl ?_
  refine E_s (p' := 77) (st' := aI 0 :: _) rfl rfl ?_
  refine E_callL (p' := 80) (L0 := [some (aA 76), some (aA 24), some (aI 0), some (aI 0), none, none]) rfl rfl rfl ?_
  refine E_s (p' := 1) (st' := aI 0 :: _) rfl rfl ?_
  refine E_s (p' := 3) (L' := [some (aA 76), some (aA 24), some (aI 0), some (aI 0), some (aI 0), none]) rfl rfl ?_
  refine E_s (p' := 4) (st' := aI 0 :: _) rfl rfl ?_
  refine E_s (p' := 6) (L' := [some (aA 76), some (aA 24), some (aI 0), some (aI 0), some (aI 0), some (aI 0)]) rfl rfl ?_
  refine E_s (p' := 8) (st' := aI 0 :: _) rfl rfl ?_
  refine E_s (p' := 9) (st' := aI 0 :: _) rfl rfl ?_
  refine E_s (p' := 10) (st' := aI 0 :: _) rfl rfl ?_
  refine E_s (p' := 11) (st' := aI 0 :: _) rfl rfl ?_
  refine E_s (p' := 49) rfl rfl ?_
  refine E_s (p' := 51) (st' := aI 0 :: _) rfl rfl ?_
  refine E_ret rfl rfl ?_
  refine E_s (p' := 81) (st' := aI 0 :: _) rfl rfl ?_
  refine E_s (p' := 82) (L' := [some (aA 73), some (aA 21), some (aI 0), none]) rfl rfl ?_
  refine E_s (p' := 83) (st' := aI 0 :: _) rfl rfl ?_
  refine E_s (p' := 84) (st' := aA 73 :: _) rfl rfl ?_
  refine E_s (p' := 87) (st' := aA 77 :: _) rfl rfl ?_
  refine E_s (p' := 88) (st' := aA 21 :: _) rfl rfl ?_
  refine E_s (p' := 91) (st' := aA 25 :: _) rfl rfl ?_
  refine E_s (p' := 92) (st' := aI 0 :: _) rfl rfl ?_
  refine E_s (p' := 93) (st' := aA 73 :: _) rfl rfl ?_
  refine E_s (p' := 96) (st' := aI 0 :: _) rfl rfl ?_
  refine E_callL (p' := 99) (L0 := [some (aA 77), some (aA 25), some (aI 0), some (aI 0), none, none]) rfl rfl rfl ?_
  refine E_s (p' := 1) (st' := aI 0 :: _) rfl rfl ?_
  refine E_s (p' := 3) (L' := [some (aA 77), some (aA 25), some (aI 0), some (aI 0), some (aI 0), none]) rfl rfl ?_
  refine E_s (p' := 4) (st' := aI 0 :: _) rfl rfl ?_
  refine E_s (p' := 6) (L' := [some (aA 77), some (aA 25), some (aI 0), some (aI 0), some (aI 0), some (aI 0)]) rfl rfl ?_
  refine E_s (p' := 8) (st' := aI 0 :: _) rfl rfl ?_
  refine E_s (p' := 9) (st' := aI 0 :: _) rfl rfl ?_
  refine E_s (p' := 10) (st' := aI 0 :: _) rfl rfl ?_
  refine E_s (p' := 11) (st' := aI 0 :: _) rfl rfl ?_
  refine E_s (p' := 49) rfl rfl ?_
  refine E_s (p' := 51) (st' := aI 0 :: _) rfl rfl ?_
  refine E_ret rfl rfl ?_
  refine E_s (p' := 100) (st' := aI 0 :: _) rfl rfl ?_
  refine E_s (p' := 101) (L' := [some (aA 73), some (aA 21), some (aI 0), none]) rfl rfl ?_
  refine E_s (p' := 102) (st' := aI 0 :: _) rfl rfl ?_
  refine E_s (p' := 103) (st' := aA 73 :: _) rfl rfl ?_
  refine E_s (p' := 106) (st' := aA 78 :: _) rfl rfl ?_
  refine E_s (p' := 107) (st' := aA 21 :: _) rfl rfl ?_
  refine E_s (p' := 110) (st' := aA 26 :: _) rfl rfl ?_
  refine E_s (p' := 111) (st' := aI 0 :: _) rfl rfl ?_
  refine E_s (p' := 112) (st' := aA 73 :: _) rfl rfl ?_
  refine E_s (p' := 115) (st' := aI 0 :: _) rfl rfl ?_
  refine E_callL (p' := 118) (L0 := [some (aA 78), some (aA 26), some (aI 0), some (aI 0), none, none]) rfl rfl rfl ?_
  refine E_s (p' := 1) (st' := aI 0 :: _) rfl rfl ?_
  refine E_s (p' := 3) (L' := [some (aA 78), some (aA 26), some (aI 0), some (aI 0), some (aI 0), none]) rfl rfl ?_
  refine E_s (p' := 4) (st' := aI 0 :: _) rfl rfl ?_
  refine E_s (p' := 6) (L' := [some (aA 78), some (aA 26), some (aI 0), some (aI 0), some (aI 0), some (aI 0)]) rfl rfl ?_
  refine E_s (p' := 8) (st' := aI 0 :: _) rfl rfl ?_
  refine E_s (p' := 9) (st' := aI 0 :: _) rfl rfl ?_
  refine E_s (p' := 10) (st' := aI 0 :: _) rfl rfl ?_
  refine E_s (p' := 11) (st' := aI 0 :: _) rfl rfl ?_
  refine E_s (p' := 49) rfl rfl ?_
  refine E_s (p' := 51) (st' := aI 0 :: _) rfl rfl ?_
  refine E_ret rfl rfl ?_
  refine E_s (p' := 119) (st' := aI 0 :: _) rfl rfl ?_
  refine E_s (p' := 120) (L' := [some (aA 73), some (aA 21), some (aI 0), none]) rfl rfl ?_
  refine E_s (p' := 121) (st' := aI 0 :: _) rfl rfl ?_
  refine E_s (p' := 122) (st' := aA 73 :: _) rfl rfl ?_
  refine E_s (p' := 125) (st' := aA 79 :: _) rfl rfl ?_
  refine E_s (p' := 126) (st' := aA 21 :: _) rfl rfl ?_
  refine E_s (p' := 129) (st' := aA 27 :: _) rfl rfl ?_
  refine E_s (p' := 130) (st' := aI 0 :: _) rfl rfl ?_
  refine E_s (p' := 131) (st' := aA 73 :: _) rfl rfl ?_
  refine E_s (p' := 134) (st' := aI 0 :: _) rfl rfl ?_
  refine E_callL (p' := 137) (L0 := [some (aA 79), some (aA 27), some (aI 0), some (aI 0), none, none]) rfl rfl rfl ?_
  refine E_s (p' := 1) (st' := aI 0 :: _) rfl rfl ?_
  refine E_s (p' := 3) (L' := [some (aA 79), some (aA 27), some (aI 0), some (aI 0), some (aI 0), none]) rfl rfl ?_
  refine E_s (p' := 4) (st' := aI 0 :: _) rfl rfl ?_
  refine E_s (p' := 6) (L' := [some (aA 79), some (aA 27), some (aI 0), some (aI 0), some (aI 0), some (aI 0)]) rfl rfl ?_
  refine E_s (p' := 8) (st' := aI 0 :: _) rfl rfl ?_
  refine E_s (p' := 9) (st' := aI 0 :: _) rfl rfl ?_
  refine E_s (p' := 10) (st' := aI 0 :: _) rfl rfl ?_
  refine E_s (p' := 11) (st' := aI 0 :: _) rfl rfl ?_
  refine E_s (p' := 49) rfl rfl ?_
  refine E_s (p' := 51) (st' := aI 0 :: _) rfl rfl ?_
  refine E_ret rfl rfl ?_
  refine E_s (p' := 138) (st' := aI 0 :: _) rfl rfl ?_
  refine E_s (p' := 139) (L' := [some (aA 73), some (aA 21), some (aI 0), none]) rfl rfl ?_
  refine E_s (p' := 140) (st' := aI 0 :: _) rfl rfl ?_
  refine E_s (p' := 141) (L' := [some (aA 73), some (aA 21), some (aI 0), some (aI 0)]) rfl rfl ?_
  refine E_s (p' := 142) (st' := aI 0 :: _) rfl rfl ?_
  refine E_s (p' := 143) (st' := aA 73 :: _) rfl rfl ?_
  refine E_s (p' := 146) (st' := aI 0 :: _) rfl rfl ?_
  refine E_s (p' := 179) rfl rfl ?_
  refine E_s (p' := 180) (st' := aI 0 :: _) rfl rfl ?_
  refine E_ret rfl rfl ?_
  refine E_s (p' := 38) (st' := aI 0 :: _) rfl rfl ?_
  refine E_s (p' := 39) (L' := [some (aA 72), some (aA 20), some (aI 0)]) rfl rfl ?_
  refine E_s (p' := 40) (st' := aI 0 :: _) rfl rfl ?_
  refine E_s (p' := 41) (st' := aA 72 :: _) rfl rfl ?_
  refine E_s (p' := 44) (st' := aA 81 :: _) rfl rfl ?_
  refine E_s (p' := 45) (st' := aA 20 :: _) rfl rfl ?_
  refine E_s (p' := 48) (st' := aA 29 :: _) rfl rfl ?_
  refine E_callL (p' := 51) (L0 := [some (aA 81), some (aA 29), none, none]) rfl rfl rfl ?_
  refine E_s (p' := 1) (st' := aA 81 :: _) rfl rfl ?_
  refine E_s (p' := 4) (st' := aI 0 :: _) rfl rfl ?_
  refine E_s (p' := 5) (st' := aA 29 :: _) rfl rfl ?_
  refine E_s (p' := 8) (st' := aI 0 :: _) rfl rfl ?_
  refine E_s (p' := 15) rfl rfl ?_
  refine E_s (p' := 16) (st' := aI 0 :: _) rfl rfl ?_
  refine E_s (p' := 17) (L' := [some (aA 81), some (aA 29), some (aI 0), none]) rfl rfl ?_
  refine E_s (p' := 18) (st' := aA 81 :: _) rfl rfl ?_
  refine E_s (p' := 19) (st' := aA 29 :: _) rfl rfl ?_
  refine E_s (p' := 22) (st' := aI 0 :: _) rfl rfl ?_
  refine E_stM (p' := 25) (m' := up2 _ 81 3 0) rfl rfl ?_
  refine E_s (p' := 26) (st' := aI 0 :: _) rfl rfl ?_
  refine E_s (p' := 27) (st' := aA 81 :: _) rfl rfl ?_
  refine E_s (p' := 30) (st' := aA 82 :: _) rfl rfl ?_
  refine E_s (p' := 31) (st' := aA 29 :: _) rfl rfl ?_
  refine E_s (p' := 34) (st' := aA 30 :: _) rfl rfl ?_
  refine E_s (p' := 35) (st' := aI 0 :: _) rfl rfl ?_
  refine E_s (p' := 36) (st' := aA 81 :: _) rfl rfl ?_
  refine E_s (p' := 39) (st' := aI 0 :: _) rfl rfl ?_
  refine E_callL (p' := 42) (L0 := [some (aA 82), some (aA 30), some (aI 0), some (aI 0), none, none]) rfl rfl rfl ?_
  refine E_s (p' := 1) (st' := aI 0 :: _) rfl rfl ?_
  refine E_s (p' := 3) (L' := [some (aA 82), some (aA 30), some (aI 0), some (aI 0), some (aI 0), none]) rfl rfl ?_
  refine E_s (p' := 4) (st' := aI 0 :: _) rfl rfl ?_
  refine E_s (p' := 6) (L' := [some (aA 82), some (aA 30), some (aI 0), some (aI 0), some (aI 0), some (aI 0)]) rfl rfl ?_
  refine E_s (p' := 8) (st' := aI 0 :: _) rfl rfl ?_
  refine E_s (p' := 9) (st' := aI 0 :: _) rfl rfl ?_
  refine E_s (p' := 10) (st' := aI 0 :: _) rfl rfl ?_
  refine E_s (p' := 11) (st' := aI 0 :: _) rfl rfl ?_
  refine E_s (p' := 49) rfl rfl ?_
  refine E_s (p' := 51) (st' := aI 0 :: _) rfl rfl ?_
  refine E_ret rfl rfl ?_
  refine E_s (p' := 43) (st' := aI 0 :: _) rfl rfl ?_
  refine E_s (p' := 44) (L' := [some (aA 81), some (aA 29), some (aI 0), none]) rfl rfl ?_
  refine E_s (p' := 45) (st' := aI 0 :: _) rfl rfl ?_
  refine E_s (p' := 46) (st' := aA 81 :: _) rfl rfl ?_
  refine E_s (p' := 49) (st' := aA 83 :: _) rfl rfl ?_
  refine E_s (p' := 50) (st' := aA 29 :: _) rfl rfl ?_
  refine E_s (p' := 53) (st' := aA 31 :: _) rfl rfl ?_
  refine E_s (p' := 54) (st' := aI 0 :: _) rfl rfl ?_
  refine E_s (p' := 55) (st' := aA 81 :: _) rfl rfl ?_
  refine E_s (p' := 58) (st' := aI 0 :: _) rfl rfl ?_
  refine E_callL (p' := 61) (L0 := [some (aA 83), some (aA 31), some (aI 0), some (aI 0), none, none]) rfl rfl rfl ?_
  refine E_s (p' := 1) (st' := aI 0 :: _) rfl rfl ?_
  refine E_s (p' := 3) (L' := [some (aA 83), some (aA 31), some (aI 0), some (aI 0), some (aI 0), none]) rfl rfl ?_
  refine E_s (p' := 4) (st' := aI 0 :: _) rfl rfl ?_
  refine E_s (p' := 6) (L' := [some (aA 83), some (aA 31), some (aI 0), some (aI 0), some (aI 0), some (aI 0)]) rfl rfl ?_
  refine E_s (p' := 8) (st' := aI 0 :: _) rfl rfl ?_
  refine E_s (p' := 9) (st' := aI 0 :: _) rfl rfl ?_
  refine E_s (p' := 10) (st' := aI 0 :: _) rfl rfl ?_
  refine E_s (p' := 11) (st' := aI 0 :: _) rfl rfl ?_
  refine E_s (p' := 49) rfl rfl ?_
  refine E_s (p' := 51) (st' := aI 0 :: _) rfl rfl ?_
  refine E_ret rfl rfl ?_
  refine E_s (p' := 62) (st' := aI 0 :: _) rfl rfl ?_
  refine E_s (p' := 63) (L' := [some (aA 81), some (aA 29), some (aI 0), none]) rfl rfl ?_
  refine E_s (p' := 64) (st' := aI 0 :: _) rfl rfl ?_
  refine E_s (p' := 65) (L' := [some (aA 81), some (aA 29), some (aI 0), some (aI 0)]) rfl rfl ?_
  refine E_s (p' := 66) (st' := aI 0 :: _) rfl rfl ?_
  refine E_s (p' := 67) (st' := aA 81 :: _) rfl rfl ?_
  refine E_s (p' := 70) (st' := aI 0 :: _) rfl rfl ?_
  refine E_s (p' := 103) rfl rfl ?_
  refine E_s (p' := 104) (st' := aI 0 :: _) rfl rfl ?_
  refine E_ret rfl rfl ?_
  refine E_s (p' := 52) (st' := aI 0 :: _) rfl rfl ?_
  refine E_s (p' := 53) (L' := [some (aA 72), some (aA 20), some (aI 0)]) rfl rfl ?_
  refine E_s (p' := 54) (st' := aI 0 :: _) rfl rfl ?_
  refine E_s (p' := 61) rfl rfl ?_
  refine E_ret rfl rfl ?_
  refine E_s (p' := 33) (st' := aA 72 :: _) rfl rfl ?_
  refine E_s (p' := 36) (st' := aA 73 :: _) rfl rfl ?_
  refine E_s (p' := 39) (st' := aI 0 :: _) rfl rfl ?_
  refine E_ret rfl rfl ?_
  refine E_s (p' := 529) (st' := aA 124 :: _) rfl rfl ?_
  refine E_s (p' := 530) (st' := aA 0 :: _) rfl rfl ?_
  refine E_s (p' := 531) (st' := aI 0 :: _) rfl rfl ?_
  refine E_s (p' := 532) (st' := aI 1 :: _) rfl rfl ?_
  refine E_s (p' := 533) (st' := aI 1 :: _) rfl rfl ?_
  refine E_scr rfl rfl h1 ?_
  refine E_s (p' := 535) (st' := aA 0 :: _) rfl rfl ?_
  refine E_s (p' := 536) (st' := aI 0 :: _) rfl rfl ?_
  refine E_s (p' := 537) (st' := aI 2 :: _) rfl rfl ?_
  refine E_s (p' := 538) (st' := aI 2 :: _) rfl rfl ?_
  refine E_scr rfl rfl h2 ?_
  refine E_callL (p' := 542) (L0 := [some (aA 124), some (aI 0), some (aI 2), none, none, none]) rfl rfl rfl ?_
  refine E_s (p' := 1) (st' := aI 0 :: _) rfl rfl ?_
  refine E_callL (p' := 4) (L0 := [some (aI 0)]) rfl rfl rfl ?_
  refine E_s (p' := 1) (st' := aI 0 :: _) rfl rfl ?_
  refine E_s (p' := 2) (st' := aI 0 :: _) rfl rfl ?_
  refine E_s (p' := 3) (st' := aI 3 :: _) rfl rfl ?_
  refine E_callL (p' := 6) (L0 := [some (aI 0), some (aI 0), some (aI 3)]) rfl rfl rfl ?_
  refine E_s (p' := 1) (st' := aI 0 :: _) rfl rfl ?_
  refine E_s (p' := 2) (st' := aI 0 :: _) rfl rfl ?_
  refine E_s (p' := 5) rfl rfl ?_
  refine E_s (p' := 6) (st' := aI 0 :: _) rfl rfl ?_
  refine E_s (p' := 7) (st' := aI 3 :: _) rfl rfl ?_
  refine E_s (p' := 10) rfl rfl ?_
  refine E_s (p' := 11) (st' := aI 1 :: _) rfl rfl ?_
  refine E_s (p' := 15) rfl rfl ?_
  refine E_ret rfl rfl ?_
  refine E_ret rfl rfl ?_
  refine E_s (p' := 7) rfl rfl ?_
  refine E_s (p' := 8) (st' := aI 2 :: _) rfl rfl ?_
  refine E_callL (p' := 11) (L0 := [some (aI 2)]) rfl rfl rfl ?_
  refine E_s (p' := 1) (st' := aI 2 :: _) rfl rfl ?_
  refine E_s (p' := 2) (st' := aI 0 :: _) rfl rfl ?_
  refine E_s (p' := 3) (st' := aI 3 :: _) rfl rfl ?_
  refine E_callL (p' := 6) (L0 := [some (aI 2), some (aI 0), some (aI 3)]) rfl rfl rfl ?_
  refine E_s (p' := 1) (st' := aI 2 :: _) rfl rfl ?_
  refine E_s (p' := 2) (st' := aI 0 :: _) rfl rfl ?_
  refine E_s (p' := 5) rfl rfl ?_
  refine E_s (p' := 6) (st' := aI 2 :: _) rfl rfl ?_
  refine E_s (p' := 7) (st' := aI 3 :: _) rfl rfl ?_
  refine E_s (p' := 10) rfl rfl ?_
  refine E_s (p' := 11) (st' := aI 1 :: _) rfl rfl ?_
  refine E_s (p' := 15) rfl rfl ?_
  refine E_ret rfl rfl ?_
  refine E_ret rfl rfl ?_
  refine E_s (p' := 17) rfl rfl ?_
  refine E_s (p' := 18) (st' := aA 124 :: _) rfl rfl ?_
  refine E_s (p' := 19) (st' := aI 2 :: _) rfl rfl ?_
  refine E_callL (p' := 22) (L0 := [some (aA 124), some (aI 2)]) rfl rfl rfl ?_
  refine E_s (p' := 1) (st' := aA 124 :: _) rfl rfl ?_
  refine E_s (p' := 4) (st' := aA 140 :: _) rfl rfl ?_
  refine E_s (p' := 5) (st' := aI 2 :: _) rfl rfl ?_
  refine E_s (p' := 6) (st' := aI 0 :: _) rfl rfl ?_
  refine E_stM (p' := 7) (m' := up2 _ 140 2 0) rfl rfl ?_
  refine E_ret rfl rfl ?_
  refine E_s (p' := 23) (st' := aI 0 :: _) rfl rfl ?_
  refine E_s (p' := 24) (st' := aI 2 :: _) rfl rfl ?_
  refine E_s (p' := 34) rfl rfl ?_
  refine E_s (p' := 35) (st' := aA 124 :: _) rfl rfl ?_
  refine E_s (p' := 38) (st' := aA 125 :: _) rfl rfl ?_
  refine E_s (p' := 39) (st' := aI 2 :: _) rfl rfl ?_
  refine E_s (p' := 40) (st' := aA 124 :: _) rfl rfl ?_
  refine E_s (p' := 43) (st' := aA 125 :: _) rfl rfl ?_
  refine E_s (p' := 44) (st' := aI 0 :: _) rfl rfl ?_
  refine E_s (p' := 45) (st' := aI 0 :: _) rfl rfl ?_
  refine E_stM (p' := 46) (m' := up2 _ 125 2 0) rfl rfl ?_
  refine E_s (p' := 47) (st' := aA 124 :: _) rfl rfl ?_
  refine E_s (p' := 50) (st' := aA 126 :: _) rfl rfl ?_
  refine E_s (p' := 51) (st' := aI 2 :: _) rfl rfl ?_
  refine E_s (p' := 52) (st' := aA 124 :: _) rfl rfl ?_
  refine E_s (p' := 55) (st' := aA 126 :: _) rfl rfl ?_
  refine E_s (p' := 56) (st' := aI 0 :: _) rfl rfl ?_
  refine E_s (p' := 57) (st' := aI 15 :: _) rfl rfl ?_
  refine E_stM (p' := 58) (m' := up2 _ 126 2 15) rfl rfl ?_
  refine E_s (p' := 59) (st' := aA 124 :: _) rfl rfl ?_
  refine E_s (p' := 62) (st' := aA 136 :: _) rfl rfl ?_
  refine E_s (p' := 63) (st' := aI 2 :: _) rfl rfl ?_
  refine E_s (p' := 64) (st' := aA 124 :: _) rfl rfl ?_
  refine E_s (p' := 67) (st' := aA 136 :: _) rfl rfl ?_
  refine E_s (p' := 68) (st' := aI 0 :: _) rfl rfl ?_
  refine E_s (p' := 69) (st' := aI 0 :: _) rfl rfl ?_
  refine E_stM (p' := 70) (m' := up2 _ 136 2 0) rfl rfl ?_
  refine E_s (p' := 71) (st' := aI 0 :: _) rfl rfl ?_
  refine E_s (p' := 72) (L' := [some (aA 124), some (aI 0), some (aI 2), some (aI 0), none, none]) rfl rfl ?_
  refine E_s (p' := 73) (st' := aI 0 :: _) rfl rfl ?_
  refine E_s (p' := 74) (st' := aA 124 :: _) rfl rfl ?_
  refine E_s (p' := 77) (st' := aA 125 :: _) rfl rfl ?_
  refine E_s (p' := 78) (st' := aI 0 :: _) rfl rfl ?_
  refine E_s (p' := 79) (st' := aI 0 :: _) rfl rfl ?_
  refine E_s (p' := 182) rfl rfl ?_
  refine E_s (p' := 183) (st' := aI 0 :: _) rfl rfl ?_
  refine E_s (p' := 184) (L' := [some (aA 124), some (aI 0), some (aI 2), some (aI 0), none, none]) rfl rfl ?_
  refine E_s (p' := 185) (st' := aI 0 :: _) rfl rfl ?_
  refine E_s (p' := 186) (st' := aA 124 :: _) rfl rfl ?_
  refine E_s (p' := 189) (st' := aA 136 :: _) rfl rfl ?_
  refine E_s (p' := 190) (st' := aI 0 :: _) rfl rfl ?_
  refine E_s (p' := 191) (st' := aI 0 :: _) rfl rfl ?_
  refine E_s (p' := 294) rfl rfl ?_
  refine E_s (p' := 295) (st' := aA 124 :: _) rfl rfl ?_
  refine E_s (p' := 298) (st' := aA 125 :: _) rfl rfl ?_
  refine E_s (p' := 299) (st' := aI 2 :: _) rfl rfl ?_
  refine E_s (p' := 300) (st' := aI 0 :: _) rfl rfl ?_
  refine E_ret rfl rfl ?_
  refine E_s (p' := 1174) rfl rfl ?_
  refine E_s (p' := 1177) (L' := [some (aA 0), some (aA 1), some (aA 124), some (aI 6)]) rfl rfl ?_
  refine E_s (p' := 18) rfl rfl ?_
  refine E_s (p' := 19) (st' := aI 6 :: _) rfl rfl ?_
  refine E_s (p' := 20) (st' := aA 0 :: _) rfl rfl ?_
  refine E_s (p' := 21) (st' := aI 6 :: _) rfl rfl ?_
  refine E_s (p' := 23) (st' := aI 6 :: _) rfl rfl ?_
  refine E_s (p' := 24) (st' := aI 0 :: _) rfl rfl ?_
  refine E_s (p' := 1180) rfl rfl ?_
  refine E_s (p' := 1181) (st' := aI 1 :: _) rfl rfl ?_
  exact E_ret rfl rfl ⟨rfl, rfl⟩
set_option maxRecDepth 100000 in
set_option maxHeartbeats 40000000 in
theorem pc_8_0_3 (xs : Nat → Int) {z a3 a4 a5 : Int} (hz : b32 (fun a b => a &&& b) z 31 = 8) (h0 : xs 0 = z) (h1 : xs 1 = 0) (h2 : xs 2 = 3) (h3 : xs 3 = a3) (h4 : xs 4 = a4) (h5 : xs 5 = a5) : E 0 18 LL [] (s0 xs 6) PQ := by
  refine E_s (p' := 19) (st' := aI 0 :: _) rfl rfl ?_
  refine E_s (p' := 20) (st' := aA 0 :: _) rfl rfl ?_
  refine E_s (p' := 21) (st' := aI 6 :: _) rfl rfl ?_
  refine E_s (p' := 23) (st' := aI 6 :: _) rfl rfl ?_
  refine E_s (p' := 24) (st' := aI 0 :: _) rfl rfl ?_
  refine E_s (p' := 27) rfl rfl ?_
  refine E_s (p' := 28) (st' := aA 0 :: _) rfl rfl ?_
  refine E_s (p' := 29) (st' := aI 0 :: _) rfl rfl ?_
  refine E_scr rfl rfl h0 ?_
  refine E_s (p' := 32) (st' := aI 31 :: _) rfl rfl ?_
  refine E_s (p' := 33) rfl rfl ?_
  refine E_val hz ?_
  refine E_s (p' := 514) rfl rfl ?_
  refine E_s (p' := 515) (st' := aA 1 :: _) rfl rfl ?_
  refine E_s (p' := 516) (st' := aA 0 :: _) rfl rfl ?_
  refine E_s (p' := 517) (st' := aI 0 :: _) rfl rfl ?_
  refine E_s (p' := 518) (st' := aI 1 :: _) rfl rfl ?_
  refine E_s (p' := 519) (st' := aI 1 :: _) rfl rfl ?_
  refine E_scr rfl rfl h1 ?_
  refine E_s (p' := 521) (st' := aA 0 :: _) rfl rfl ?_
  refine E_s (p' := 522) (st' := aI 0 :: _) rfl rfl ?_
  refine E_s (p' := 523) (st' := aI 2 :: _) rfl rfl ?_
  refine E_s (p' := 524) (st' := aI 2 :: _) rfl rfl ?_
  refine E_scr rfl rfl h2 ?_
  refine E_callL (p' := 528) (L0 := [some (aA 1), some (aI 0), some (aI 3), none, none]) rfl rfl rfl ?_
  refine E_s (p' := 1) (st' := aA 1 :: _) rfl rfl ?_
  refine E_s (p' := 2) (st' := aI 0 :: _) rfl rfl ?_
  refine E_callL (p' := 5) (L0 := [some (aA 1), some (aI 0)]) rfl rfl rfl ?_
  refine E_s (p' := 1) (st' := aI 0 :: _) rfl rfl ?_
  refine E_s (p' := 4) rfl rfl ?_
  refine E_s (p' := 5) (st' := aI 0 :: _) rfl rfl ?_
  refine E_s (p' := 6) (st' := aI 4 :: _) rfl rfl ?_
  refine E_s (p' := 9) rfl rfl ?_
  refine E_s (p' := 10) (st' := aA 1 :: _) rfl rfl ?_
  refine E_s (p' := 13) (st' := aA 2 :: _) rfl rfl ?_
  refine E_s (p' := 14) (st' := aI 0 :: _) rfl rfl ?_
  refine E_s (p' := 15) (st' := aA 20 :: _) rfl rfl ?_
  refine E_s (p' := 19) rfl rfl ?_
  refine E_ret rfl rfl ?_
  refine E_s (p' := 6) (L' := [some (aA 1), some (aI 0), some (aI 3), some (aA 20), none]) rfl rfl ?_
  refine E_s (p' := 7) (st' := aA 1 :: _) rfl rfl ?_
  refine E_s (p' := 8) (st' := aI 3 :: _) rfl rfl ?_
  refine E_callL (p' := 11) (L0 := [some (aA 1), some (aI 3)]) rfl rfl rfl ?_
  refine E_s (p' := 1) (st' := aI 3 :: _) rfl rfl ?_
  refine E_s (p' := 4) rfl rfl ?_
  refine E_s (p' := 5) (st' := aI 3 :: _) rfl rfl ?_
  refine E_s (p' := 6) (st' := aI 4 :: _) rfl rfl ?_
  refine E_s (p' := 9) rfl rfl ?_
  refine E_s (p' := 10) (st' := aA 1 :: _) rfl rfl ?_
  refine E_s (p' := 13) (st' := aA 2 :: _) rfl rfl ?_
  refine E_s (p' := 14) (st' := aI 3 :: _) rfl rfl ?_
  refine E_s (p' := 15) (st' := aA 98 :: _) rfl rfl ?_
  refine E_s (p' := 19) rfl rfl ?_
  refine E_ret rfl rfl ?_
  refine E_s (p' := 13) (L' := [some (aA 1), some (aI 0), some (aI 3), some (aA 20), some (aA 98)]) rfl rfl ?_
  refine E_s (p' := 14) (st' := aA 20 :: _) rfl rfl ?_
  refine E_s (p' := 17) rfl rfl ?_
  refine E_s (p' := 19) (st' := aA 98 :: _) rfl rfl ?_
  refine E_s (p' := 25) rfl rfl ?_
  refine E_s (p' := 27) (st' := aA 98 :: _) rfl rfl ?_
  refine E_s (p' := 28) (st' := aA 20 :: _) rfl rfl ?_
  refine E_callL (p' := 31) (L0 := [some (aA 98), some (aA 20), none]) rfl rfl rfl ?_
  refine E_s (p' := 1) (st' := aA 98 :: _) rfl rfl ?_
  refine E_s (p' := 4) (st' := aI 15 :: _) rfl rfl ?_
  refine E_s (p' := 5) (st' := aA 20 :: _) rfl rfl ?_
  refine E_s (p' := 8) (st' := aI 15 :: _) rfl rfl ?_
  refine E_s (p' := 15) rfl rfl ?_
  refine E_s (p' := 16) (st' := aI 0 :: _) rfl rfl ?_
  refine E_s (p' := 17) (L' := [some (aA 98), some (aA 20), some (aI 0)]) rfl rfl ?_
  refine E_s (p' := 18) (st' := aA 98 :: _) rfl rfl ?_
  refine E_s (p' := 19) (st' := aA 20 :: _) rfl rfl ?_
  refine E_s (p' := 22) (st' := aI 15 :: _) rfl rfl ?_
  refine E_stM (p' := 25) (m' := up2 _ 98 5 15) rfl rfl ?_
  refine E_s (p' := 26) (st' := aI 0 :: _) rfl rfl ?_
  refine E_s (p' := 27) (st' := aA 98 :: _) rfl rfl ?_
  refine E_s (p' := 30) (st' := aA 99 :: _) rfl rfl ?_
  refine E_s (p' := 31) (st' := aA 20 :: _) rfl rfl ?_
  refine E_s (p' := 34) (st' := aA 21 :: _) rfl rfl ?_
  refine E_callL (p' := 37) (L0 := [some (aA 99), some (aA 21), none, none]) rfl rfl rfl ?_
  refine E_s (p' := 1) (st' := aA 99 :: _) rfl rfl ?_
  refine E_s (p' := 4) (st' := aI 0 :: _) rfl rfl ?_
  refine E_s (p' := 5) (st' := aA 21 :: _) rfl rfl ?_
  refine E_s (p' := 8) (st' := aI 0 :: _) rfl rfl ?_
  refine E_s (p' := 15) rfl rfl ?_
  refine E_s (p' := 16) (st' := aI 0 :: _) rfl rfl ?_
  refine E_s (p' := 17) (L' := [some (aA 99), some (aA 21), some (aI 0), none]) rfl rfl ?_
  refine E_s (p' := 18) (st' := aA 99 :: _) rfl rfl ?_
  refine E_s (p' := 19) (st' := aA 21 :: _) rfl rfl ?_
  refine E_s (p' := 22) (st' := aI 0 :: _) rfl rfl ?_
  refine E_stM (p' := 25) (m' := up2 _ 99 7 0) rfl rfl ?_
  refine E_s (p' := 26) (st' := aI 0 :: _) rfl rfl ?_
  refine E_s (p' := 27) (st' := aA 99 :: _) rfl rfl ?_
  refine E_s (p' := 30) (st' := aA 100 :: _) rfl rfl ?_
  refine E_s (p' := 31) (st' := aA 21 :: _) rfl rfl ?_
  refine E_s (p' := 34) (st' := aA 22 :: _) rfl rfl ?_
  refine E_s (p' := 35) (st' := aI 0 :: _) rfl rfl ?_
  refine E_s (p' := 36) (st' := aA 99 :: _) rfl rfl ?_
  refine E_s (p' := 39) (st' := aI 0 :: _) rfl rfl ?_
  refine E_callL (p' := 42) (L0 := [some (aA 100), some (aA 22), some (aI 0), some (aI 0), none, none]) rfl rfl rfl ?_
  refine E_s (p' := 1) (st' := aI 0 :: _) rfl rfl ?_
  refine E_s (p' := 3) (L' := [some (aA 100), some (aA 22), some (aI 0), some (aI 0), some (aI 0), none]) rfl rfl ?_
  refine E_s (p' := 4) (st' := aI 0 :: _) rfl rfl ?_
  refine E_s (p' := 6) (L' := [some (aA 100), some (aA 22), some (aI 0), some (aI 0), some (aI 0), some (aI 0)]) rfl rfl ?_
  refine E_s (p' := 8) (st' := aI 0 :: _) rfl rfl ?_
  refine E_s (p' := 9) (st' := aI 0 :: _) rfl rfl ?_
  refine E_s (p' := 10) (st' := aI 0 :: _) rfl rfl ?_
  refine E_s (p' := 11) (st' := aI 0 :: _) rfl rfl ?_
  refine E_s (p' := 49) rfl rfl ?_
  refine E_s (p' := 51) (st' := aI 0 :: _) rfl rfl ?_
  refine E_ret rfl rfl ?_
  refine E_s (p' := 43) (st' := aI 0 :: _) rfl rfl ?_
  refine E_s (p' := 44) (L' := [some (aA 99), some (aA 21), some (aI 0), none]) rfl rfl ?_
  refine E_s (p' := 45) (st' := aI 0 :: _) rfl rfl ?_
  refine E_s (p' := 46) (st' := aA 99 :: _) rfl rfl ?_
  refine E_s (p' := 49) (st' := aA 101 :: _) rfl rfl ?_
  refine E_s (p' := 50) (st' := aA 21 :: _) rfl rfl ?_
  refine E_s (p' := 53) (st' := aA 23 :: _) rfl rfl ?_
  refine E_s (p' := 54) (st' := aI 0 :: _) rfl rfl ?_
  refine E_s (p' := 55) (st' := aA 99 :: _) rfl rfl ?_
  refine E_s (p' := 58) (st' := aI 0 :: _) rfl rfl ?_
  refine E_callL (p' := 61) (L0 := [some (aA 101), some (aA 23), some (aI 0), some (aI 0), none, none]) rfl rfl rfl ?_
  refine E_s (p' := 1) (st' := aI 0 :: _) rfl rfl ?_
  refine E_s (p' := 3) (L' := [some (aA 101), some (aA 23), some (aI 0), some (aI 0), some (aI 0), none]) rfl rfl ?_
  refine E_s (p' := 4) (st' := aI 0 :: _) rfl rfl ?_
  refine E_s (p' := 6) (L' := [some (aA 101), some (aA 23), some (aI 0), some (aI 0), some (aI 0), some (aI 0)]) rfl rfl ?_
  refine E_s (p' := 8) (st' := aI 0 :: _) rfl rfl ?_
  refine E_s (p' := 9) (st' := aI 0 :: _) rfl rfl ?_
  refine E_s (p' := 10) (st' := aI 0 :: _) rfl rfl ?_
  refine E_s (p' := 11) (st' := aI 0 :: _) rfl rfl ?_
  refine E_s (p' := 49) rfl rfl ?_
  refine E_s (p' := 51) (st' := aI 0 :: _) rfl rfl ?_
  refine E_ret rfl rfl ?_
  refine E_s (p' := 62) (st' := aI 0 :: _) rfl rfl ?_
  refine E_s (p' := 63) (L' := [some (aA 99), some (aA 21), some (aI 0), none]) rfl rfl ?_
  refine E_s (p' := 64) (st' := aI 0 :: _) rfl rfl ?_
  refine E_s (p' := 65) (st' := aA 99 :: _) rfl rfl ?_
  refine E_s (p' := 68) (st' := aA 102 :: _) rfl rfl ?_
  refine E_s (p' := 69) (st' := aA 21 :: _) rfl rfl ?_
  refine E_s (p' := 72) (st' := aA 24 :: _) rfl rfl ?_
  refine E_s (p' := 73) (st' := aI 0 :: _) rfl rfl ?_
  refine E_s (p' := 74) (st' := aA 99 :: _) rfl rfl ?_
  refine E_s (p' := 77) (st' := aI 0 :: _) rfl rfl ?_
  refine E_callL (p' := 80) (L0 := [some (aA 102), some (aA 24), some (aI 0), some (aI 0), none, none]) rfl rfl rfl ?_
  refine E_s (p' := 1) (st' := aI 0 :: _) rfl rfl ?_
  refine E_s (p' := 3) (L' := [some (aA 102), some (aA 24), some (aI 0), some (aI 0), some (aI 0), none]) rfl rfl ?_
  refine E_s (p' := 4) (st' := aI 0 :: _) rfl rfl ?_
  refine E_s (p' := 6) (L' := [some (aA 102), some (aA 24), some (aI 0), some (aI 0), some (aI 0), some (aI 0)]) rfl rfl ?_
  refine E_s (p' := 8) (st' := aI 0 :: _) rfl rfl ?_
  refine E_s (p' := 9) (st' := aI 0 :: _) rfl rfl ?_
  refine E_s (p' := 10) (st' := aI 0 :: _) rfl rfl ?_
  refine E_s (p' := 11) (st' := aI 0 :: _) rfl rfl ?_
  refine E_s (p' := 49) rfl rfl ?_
  refine E_s (p' := 51) (st' := aI 0 :: _) rfl rfl ?_
  refine E_ret rfl rfl ?_
  refine E_s (p' := 81) (st' := aI 0 :: _) rfl rfl ?_
  refine E_s (p' := 82) (L' := [some (aA 99), some (aA 21), some (aI 0), none]) rfl rfl ?_
  refine E_s (p' := 83) (st' := aI 0 :: _) rfl rfl ?_
  refine E_s (p' := 84) (st' := aA 99 :: _) rfl rfl ?_
  refine E_s (p' := 87) (st' := aA 103 :: _) rfl rfl ?_
  refine E_s (p' := 88) (st' := aA 21 :: _) rfl rfl ?_
  refine E_s (p' := 91) (st' := aA 25 :: _) rfl rfl ?_
  refine E_s (p' := 92) (st' := aI 0 :: _) rfl rfl ?_
  refine E_s (p' := 93) (st' := aA 99 :: _) rfl rfl ?_
  refine E_s (p' := 96) (st' := aI 0 :: _) rfl rfl ?_
  refine E_callL (p' := 99) (L0 := [some (aA 103), some (aA 25), some (aI 0), some (aI 0), none, none]) rfl rfl rfl ?_
  refine E_s (p' := 1) (st' := aI 0 :: _) rfl rfl ?_
  refine E_s (p' := 3) (L' := [some (aA 103), some (aA 25), some (aI 0), some (aI 0), some (aI 0), none]) rfl rfl ?_
  refine E_s (p' := 4) (st' := aI 0 :: _) rfl rfl ?_
  refine E_s (p' := 6) (L' := [some (aA 103), some (aA 25), some (aI 0), some (aI 0), some (aI 0), some (aI 0)]) rfl rfl ?_
  refine E_s (p' := 8) (st' := aI 0 :: _) rfl rfl ?_
  refine E_s (p' := 9) (st' := aI 0 :: _) rfl rfl ?_
  refine E_s (p' := 10) (st' := aI 0 :: _) rfl rfl ?_
  refine E_s (p' := 11) (st' := aI 0 :: _) rfl rfl ?_
  refine E_s (p' := 49) rfl rfl ?_
  refine E_s (p' := 51) (st' := aI 0 :: _) rfl rfl ?_
  refine E_ret rfl rfl ?_
  refine E_s (p' := 100) (st' := aI 0 :: _) rfl rfl ?_
  refine E_s (p' := 101) (L' := [some (aA 99), some (aA 21), some (aI 0), none]) rfl rfl ?_
  refine E_s (p' := 102) (st' := aI 0 :: _) rfl rfl ?_
  refine E_s (p' := 103) (st' := aA 99 :: _) rfl rfl ?_
  refine E_s (p' := 106) (st' := aA 104 :: _) rfl rfl ?_
  refine E_s (p' := 107) (st' := aA 21 :: _) rfl rfl ?_
  refine E_s (p' := 110) (st' := aA 26 :: _) rfl rfl ?_
  refine E_s (p' := 111) (st' := aI 0 :: _) rfl rfl ?_
  refine E_s (p' := 112) (st' := aA 99 :: _) rfl rfl ?_
  refine E_s (p' := 115) (st' := aI 0 :: _) rfl rfl ?_
  refine E_callL (p' := 118) (L0 := [some (aA 104), some (aA 26), some (aI 0), some (aI 0), none, none]) rfl rfl rfl ?_
  refine E_s (p' := 1) (st' := aI 0 :: _) rfl rfl ?_
  refine E_s (p' := 3) (L' := [some (aA 104), some (aA 26), some (aI 0), some (aI 0), some (aI 0), none]) rfl rfl ?_
  refine E_s (p' := 4) (st' := aI 0 :: _) rfl rfl ?_
  refine E_s (p' := 6) (L' := [some (aA 104), some (aA 26), some (aI 0), some (aI 0), some (aI 0), some (aI 0)]) rfl rfl ?_
  refine E_s (p' := 8) (st' := aI 0 :: _) rfl rfl ?_
  refine E_s (p' := 9) (st' := aI 0 :: _) rfl rfl ?_
  refine E_s (p' := 10) (st' := aI 0 :: _) rfl rfl ?_
  refine E_s (p' := 11) (st' := aI 0 :: _) rfl rfl ?_
  refine E_s (p' := 49) rfl rfl ?_
  refine E_s (p' := 51) (st' := aI 0 :: _) rfl rfl ?_
  refine E_ret rfl rfl ?_
  refine E_s (p' := 119) (st' := aI 0 :: _) rfl rfl ?_
  refine E_s (p' := 120) (L' := [some (aA 99), some (aA 21), some (aI 0), none]) rfl rfl ?_
  refine E_s (p' := 121) (st' := aI 0 :: _) rfl rfl ?_
  refine E_s (p' := 122) (st' := aA 99 :: _) rfl rfl ?_
  refine E_s (p' := 125) (st' := aA 105 :: _) rfl rfl ?_
  refine E_s (p' := 126) (st' := aA 21 :: _) rfl rfl ?_
  refine E_s (p' := 129) (st' := aA 27 :: _) rfl rfl ?_
  refine E_s (p' := 130) (st' := aI 0 :: _) rfl rfl ?_
  refine E_s (p' := 131) (st' := aA 99 :: _) rfl rfl ?_
  refine E_s (p' := 134) (st' := aI 0 :: _) rfl rfl ?_
  refine E_callL (p' := 137) (L0 := [some (aA 105), some (aA 27), some (aI 0), some (aI 0), none, none]) rfl rfl rfl ?_
  refine E_s (p' := 1) (st' := aI 0 :: _) rfl rfl ?_
  refine E_s (p' := 3) (L' := [some (aA 105), some (aA 27), some (aI 0), some (aI 0), some (aI 0), none]) rfl rfl ?_
  refine E_s (p' := 4) (st' := aI 0 :: _) rfl rfl ?_
  refine E_s (p' := 6) (L' := [some (aA 105), some (aA 27), some (aI 0), some (aI 0), some (aI 0), some (aI 0)]) rfl rfl ?_
  refine E_s (p' := 8) (st' := aI 0 :: _) rfl rfl ?_
  refine E_s (p' := 9) (st' := aI 0 :: _) rfl rfl ?_
  refine E_s (p' := 10) (st' := aI 0 :: _) rfl rfl ?_
  refine E_s (p' := 11) (st' := aI 0 :: _) rfl rfl ?_
  refine E_s (p' := 49) rfl rfl ?_
  refine E_s (p' := 51) (st' := aI 0 :: _) rfl rfl ?_
  refine E_ret rfl rfl ?_
  refine E_s (p' := 138) (st' := aI 0 :: _) rfl rfl ?_
  refine E_s (p' := 139) (L' := [some (aA 99), some (aA 21), some (aI 0), none]) rfl rfl ?_
  refine E_s (p' := 140) (st' := aI 0 :: _) rfl rfl ?_
  refine E_s (p' := 141) (L' := [some (aA 99), some (aA 21), some (aI 0), some (aI 0)]) rfl rfl ?_
  refine E_s (p' := 142) (st' := aI 0 :: _) rfl rfl ?_
  refine E_s (p' := 143) (st' := aA 99 :: _) rfl rfl ?_
  refine E_s (p' := 146) (st' := aI 0 :: _) rfl rfl ?_
  refine E_s (p' := 179) rfl rfl ?_
  refine E_s (p' := 180) (st' := aI 0 :: _) rfl rfl ?_
  refine E_ret rfl rfl ?_
  refine E_s (p' := 38) (st' := aI 0 :: _) rfl rfl ?_
  refine E_s (p' := 39) (L' := [some (aA 98), some (aA 20), some (aI 0)]) rfl rfl ?_
  refine E_s (p' := 40) (st' := aI 0 :: _) rfl rfl ?_
  refine E_s (p' := 41) (st' := aA 98 :: _) rfl rfl ?_
  refine E_s (p' := 44) (st' := aA 107 :: _) rfl rfl ?_
  refine E_s (p' := 45) (st' := aA 20 :: _) rfl rfl ?_
  refine E_s (p' := 48) (st' := aA 29 :: _) rfl rfl ?_
  refine E_callL (p' := 51) (L0 := [some (aA 107), some (aA 29), none, none]) rfl rfl rfl ?_
  refine E_s (p' := 1) (st' := aA 107 :: _) rfl rfl ?_
  refine E_s (p' := 4) (st' := aI 0 :: _) rfl rfl ?_
  refine E_s (p' := 5) (st' := aA 29 :: _) rfl rfl ?_
  refine E_s (p' := 8) (st' := aI 0 :: _) rfl rfl ?_
  refine E_s (p' := 15) rfl rfl ?_
  refine E_s (p' := 16) (st' := aI 0 :: _) rfl rfl ?_
  refine E_s (p' := 17) (L' := [some (aA 107), some (aA 29), some (aI 0), none]) rfl rfl ?_
  refine E_s (p' := 18) (st' := aA 107 :: _) rfl rfl ?_
  refine E_s (p' := 19) (st' := aA 29 :: _) rfl rfl ?_
  refine E_s (p' := 22) (st' := aI 0 :: _) rfl rfl ?_
  refine E_stM (p' := 25) (m' := up2 _ 107 3 0) rfl rfl ?_
  refine E_s (p' := 26) (st' := aI 0 :: _) rfl rfl ?_
  refine E_s (p' := 27) (st' := aA 107 :: _) rfl rfl ?_
  refine E_s (p' := 30) (st' := aA 108 :: _) rfl rfl ?_
  refine E_s (p' := 31) (st' := aA 29 :: _) rfl rfl ?_
  refine E_s (p' := 34) (st' := aA 30 :: _) rfl rfl ?_
  refine E_s (p' := 35) (st' := aI 0 :: _) rfl rfl ?_
  refine E_s (p' := 36) (st' := aA 107 :: _) rfl rfl ?_
  refine E_s (p' := 39) (st' := aI 0 :: _) rfl rfl ?_
  refine E_callL (p' := 42) (L0 := [some (aA 108), some (aA 30), some (aI 0), some (aI 0), none, none]) rfl rfl rfl ?_
  refine E_s (p' := 1) (st' := aI 0 :: _) rfl rfl ?_
  refine E_s (p' := 3) (L' := [some (aA 108), some (aA 30), some (aI 0), some (aI 0), some (aI 0), none]) rfl rfl ?_
  refine E_s (p' := 4) (st' := aI 0 :: _) rfl rfl ?_
  refine E_s (p' := 6) (L' := [some (aA 108), some (aA 30), some (aI 0), some (aI 0), some (aI 0), some (aI 0)]) rfl rfl ?_
  refine E_s (p' := 8) (st' := aI 0 :: _) rfl rfl ?_
  refine E_s (p' := 9) (st' := aI 0 :: _) rfl rfl ?_
  refine E_s (p' := 10) (st' := aI 0 :: _) rfl rfl ?_
  refine E_s (p' := 11) (st' := aI 0 :: _) rfl rfl ?_
  refine E_s (p' := 49) rfl rfl ?_
  refine E_s (p' := 51) (st' := aI 0 :: _) rfl rfl ?_
  refine E_ret rfl rfl ?_
  refine E_s (p' := 43) (st' := aI 0 :: _) rfl rfl ?_
  refine E_s (p' := 44) (L' := [some (aA 107), some (aA 29), some (aI 0), none]) rfl rfl ?_
  refine E_s (p' := 45) (st' := aI 0 :: _) rfl rfl ?_
  refine E_s (p' := 46) (st' := aA 107 :: _) rfl rfl ?_
  refine E_s (p' := 49) (st' := aA 109 :: _) rfl rfl ?_
  refine E_s (p' := 50) (st' := aA 29 :: _) rfl rfl ?_
  refine E_s (p' := 53) (st' := aA 31 :: _) rfl rfl ?_
  refine E_s (p' := 54) (st' := aI 0 :: _) rfl rfl ?_
  refine E_s (p' := 55) (st' := aA 107 :: _) rfl rfl ?_
  refine E_s (p' := 58) (st' := aI 0 :: _) rfl rfl ?_
  refine E_callL (p' := 61) (L0 := [some (aA 109), some (aA 31), some (aI 0), some (aI 0), none, none]) rfl rfl rfl ?_
  refine E_s (p' := 1) (st' := aI 0 :: _) rfl rfl ?_
  refine E_s (p' := 3) (L' := [some (aA 109), some (aA 31), some (aI 0), some (aI 0), some (aI 0), none]) rfl rfl ?_
  refine E_s (p' := 4) (st' := aI 0 :: _) rfl rfl ?_
  refine E_s (p' := 6) (L' := [some (aA 109), some (aA 31), some (aI 0), some (aI 0), some (aI 0), some (aI 0)]) rfl rfl ?_
  refine E_s (p' := 8) (st' := aI 0 :: _) rfl rfl ?_
  refine E_s (p' := 9) (st' := aI 0 :: _) rfl rfl ?_
  refine E_s (p' := 10) (st' := aI 0 :: _) rfl rfl ?_
  refine E_s (p' := 11) (st' := aI 0 :: _) rfl rfl ?_
  refine E_s (p' := 49) rfl rfl ?_
  refine E_s (p' := 51) (st' := aI 0 :: _) rfl rfl ?_
  refine E_ret rfl rfl ?_
  refine E_s (p' := 62) (st' := aI 0 :: _) rfl rfl ?_
  refine E_s (p' := 63) (L' := [some (aA 107), some (aA 29), some (aI 0), none]) rfl rfl ?_
  refine E_s (p' := 64) (st' := aI 0 :: _) rfl rfl ?_
  refine E_s (p' := 65) (L' := [some (aA 107), some (aA 29), some (aI 0), some (aI 0)]) rfl rfl ?_
  refine E_s (p' := 66) (st' := aI 0 :: _) rfl rfl ?_
  refine E_s (p' := 67) (st' := aA 107 :: _) rfl rfl ?_
  refine E_s (p' := 70) (st' := aI 0 :: _) rfl rfl ?_
  refine E_s (p' := 103) rfl rfl ?_
  refine E_s (p' := 104) (st' := aI 0 :: _) rfl rfl ?_
  refine E_ret rfl rfl ?_
  refine E_s (p' := 52) (st' := aI 0 :: _) rfl rfl ?_
  refine E_s (p' := 53) (L' := [some (aA 98), some (aA 20), some (aI 0)]) rfl rfl ?_
  refine E_s (p' := 54) (st' := aI 0 :: _) rfl rfl ?_
  refine E_s (p' := 61) rfl rfl ?_
  refine E_ret rfl rfl ?_
  refine E_s (p' := 33) (st' := aA 98 :: _) rfl rfl ?_
  refine E_s (p' := 36) (st' := aA 99 :: _) rfl rfl ?_
  refine E_s (p' := 39) (st' := aI 0 :: _) rfl rfl ?_
  refine E_ret rfl rfl ?_
  refine E_s (p' := 529) (st' := aA 124 :: _) rfl rfl ?_
  refine E_s (p' := 530) (st' := aA 0 :: _) rfl rfl ?_
  refine E_s (p' := 531) (st' := aI 0 :: _) rfl rfl ?_
  refine E_s (p' := 532) (st' := aI 1 :: _) rfl rfl ?_
  refine E_s (p' := 533) (st' := aI 1 :: _) rfl rfl ?_
  refine E_scr rfl rfl h1 ?_
  refine E_s (p' := 535) (st' := aA 0 :: _) rfl rfl ?_
  refine E_s (p' := 536) (st' := aI 0 :: _) rfl rfl ?_
  refine E_s (p' := 537) (st' := aI 2 :: _) rfl rfl ?_
  refine E_s (p' := 538) (st' := aI 2 :: _) rfl rfl ?_
  refine E_scr rfl rfl h2 ?_
  refine E_callL (p' := 542) (L0 := [some (aA 124), some (aI 0), some (aI 3), none, none, none]) rfl rfl rfl ?_
  refine E_s (p' := 1) (st' := aI 0 :: _) rfl rfl ?_
  refine E_callL (p' := 4) (L0 := [some (aI 0)]) rfl rfl rfl ?_
  refine E_s (p' := 1) (st' := aI 0 :: _) rfl rfl ?_
  refine E_s (p' := 2) (st' := aI 0 :: _) rfl rfl ?_
  refine E_s (p' := 3) (st' := aI 3 :: _) rfl rfl ?_
  refine E_callL (p' := 6) (L0 := [some (aI 0), some (aI 0), some (aI 3)]) rfl rfl rfl ?_
  refine E_s (p' := 1) (st' := aI 0 :: _) rfl rfl ?_
  refine E_s (p' := 2) (st' := aI 0 :: _) rfl rfl ?_
  refine E_s (p' := 5) rfl rfl ?_
  refine E_s (p' := 6) (st' := aI 0 :: _) rfl rfl ?_
  refine E_s (p' := 7) (st' := aI 3 :: _) rfl rfl ?_
  refine E_s (p' := 10) rfl rfl ?_
  refine E_s (p' := 11) (st' := aI 1 :: _) rfl rfl ?_
  refine E_s (p' := 15) rfl rfl ?_
  refine E_ret rfl rfl ?_
  refine E_ret rfl rfl ?_
  refine E_s (p' := 7) rfl rfl ?_
  refine E_s (p' := 8) (st' := aI 3 :: _) rfl rfl ?_
  refine E_callL (p' := 11) (L0 := [some (aI 3)]) rfl rfl rfl ?_
  refine E_s (p' := 1) (st' := aI 3 :: _) rfl rfl ?_
  refine E_s (p' := 2) (st' := aI 0 :: _) rfl rfl ?_
  refine E_s (p' := 3) (st' := aI 3 :: _) rfl rfl ?_
  refine E_callL (p' := 6) (L0 := [some (aI 3), some (aI 0), some (aI 3)]) rfl rfl rfl ?_
  refine E_s (p' := 1) (st' := aI 3 :: _) rfl rfl ?_
  refine E_s (p' := 2) (st' := aI 0 :: _) rfl rfl ?_
  refine E_s (p' := 5) rfl rfl ?_
  refine E_s (p' := 6) (st' := aI 3 :: _) rfl rfl ?_
  refine E_s (p' := 7) (st' := aI 3 :: _) rfl rfl ?_
  refine E_s (p' := 10) rfl rfl ?_
  refine E_s (p' := 11) (st' := aI 1 :: _) rfl rfl ?_
  refine E_s (p' := 15) rfl rfl ?_
  refine E_ret rfl rfl ?_
  refine E_ret rfl rfl ?_
  refine E_s (p' := 17) rfl rfl ?_
  refine E_s (p' := 18) (st' := aA 124 :: _) rfl rfl ?_
  refine E_s (p' := 19) (st' := aI 3 :: _) rfl rfl ?_
  refine E_callL (p' := 22) (L0 := [some (aA 124), some (aI 3)]) rfl rfl rfl ?_
  refine E_s (p' := 1) (st' := aA 124 :: _) rfl rfl ?_
  refine E_s (p' := 4) (st' := aA 140 :: _) rfl rfl ?_
  refine E_s (p' := 5) (st' := aI 3 :: _) rfl rfl ?_
  refine E_s (p' := 6) (st' := aI 0 :: _) rfl rfl ?_
  refine E_stM (p' := 7) (m' := up2 _ 140 3 0) rfl rfl ?_
  refine E_ret rfl rfl ?_
  refine E_s (p' := 23) (st' := aI 0 :: _) rfl rfl ?_
  refine E_s (p' := 24) (st' := aI 3 :: _) rfl rfl ?_
  refine E_s (p' := 34) rfl rfl ?_
  refine E_s (p' := 35) (st' := aA 124 :: _) rfl rfl ?_
  refine E_s (p' := 38) (st' := aA 125 :: _) rfl rfl ?_
  refine E_s (p' := 39) (st' := aI 3 :: _) rfl rfl ?_
  refine E_s (p' := 40) (st' := aA 124 :: _) rfl rfl ?_
  refine E_s (p' := 43) (st' := aA 125 :: _) rfl rfl ?_
  refine E_s (p' := 44) (st' := aI 0 :: _) rfl rfl ?_
  refine E_s (p' := 45) (st' := aI 0 :: _) rfl rfl ?_
  refine E_stM (p' := 46) (m' := up2 _ 125 3 0) rfl rfl ?_
  refine E_s (p' := 47) (st' := aA 124 :: _) rfl rfl ?_
  refine E_s (p' := 50) (st' := aA 126 :: _) rfl rfl ?_
  refine E_s (p' := 51) (st' := aI 3 :: _) rfl rfl ?_
  refine E_s (p' := 52) (st' := aA 124 :: _) rfl rfl ?_
  refine E_s (p' := 55) (st' := aA 126 :: _) rfl rfl ?_
  refine E_s (p' := 56) (st' := aI 0 :: _) rfl rfl ?_
  refine E_s (p' := 57) (st' := aI 15 :: _) rfl rfl ?_
  refine E_stM (p' := 58) (m' := up2 _ 126 3 15) rfl rfl ?_
  refine E_s (p' := 59) (st' := aA 124 :: _) rfl rfl ?_
  refine E_s (p' := 62) (st' := aA 136 :: _) rfl rfl ?_
  refine E_s (p' := 63) (st' := aI 3 :: _) rfl rfl ?_
  refine E_s (p' := 64) (st' := aA 124 :: _) rfl rfl ?_
  refine E_s (p' := 67) (st' := aA 136 :: _) rfl rfl ?_
  refine E_s (p' := 68) (st' := aI 0 :: _) rfl rfl ?_
  refine E_s (p' := 69) (st' := aI 0 :: _) rfl rfl ?_
  refine E_stM (p' := 70) (m' := up2 _ 136 3 0) rfl rfl ?_
  refine E_s (p' := 71) (st' := aI 0 :: _) rfl rfl ?_
  refine E_s (p' := 72) (L' := [some (aA 124), some (aI 0), some (aI 3), some (aI 0), none, none]) rfl rfl ?_
  refine E_s (p' := 73) (st' := aI 0 :: _) rfl rfl ?_
  refine E_s (p' := 74) (st' := aA 124 :: _) rfl rfl ?_
  refine E_s (p' := 77) (st' := aA 125 :: _) rfl rfl ?_
  refine E_s (p' := 78) (st' := aI 0 :: _) rfl rfl ?_
  refine E_s (p' := 79) (st' := aI 0 :: _) rfl rfl ?_
  refine E_s (p' := 182) rfl rfl ?_
  refine E_s (p' := 183) (st' := aI 0 :: _) rfl rfl ?_
  refine E_s (p' := 184) (L' := [some (aA 124), some (aI 0), some (aI 3), some (aI 0), none, none]) rfl rfl ?_
  refine E_s (p' := 185) (st' := aI 0 :: _) rfl rfl ?_
  refine E_s (p' := 186) (st' := aA 124 :: _) rfl rfl ?_
  refine E_s (p' := 189) (st' := aA 136 :: _) rfl rfl ?_
  refine E_s (p' := 190) (st' := aI 0 :: _) rfl rfl ?_
  refine E_s (p' := 191) (st' := aI 0 :: _) rfl rfl ?_
  refine E_s (p' := 294) rfl rfl ?_
  refine E_s (p' := 295) (st' := aA 124 :: _) rfl rfl ?_
  refine E_s (p' := 298) (st' := aA 125 :: _) rfl rfl ?_
  refine E_s (p' := 299) (st' := aI 3 :: _) rfl rfl ?_
  refine E_s (p' := 300) (st' := aI 0 :: _) rfl rfl ?_
  refine E_ret rfl rfl ?_
  refine E_s (p' := 1174) rfl rfl ?_
  refine E_s (p' := 1177) (L' := [some (aA 0), some (aA 1), some (aA 124), some (aI 6)]) rfl rfl ?_
  refine E_s (p' := 18) rfl rfl ?_
  refine E_s (p' := 19) (st' := aI 6 :: _) rfl rfl ?_
  refine E_s (p' := 20) (st' := aA 0 :: _) rfl rfl ?_
  refine E_s (p' := 21) (st' := aI 6 :: _) rfl rfl ?_
  refine E_s (p' := 23) (st' := aI 6 :: _) rfl rfl ?_
  refine E_s (p' := 24) (st' := aI 0 :: _) rfl rfl ?_
  refine E_s (p' := 1180) rfl rfl ?_
  refine E_s (p' := 1181) (st' := aI 1 :: _) rfl rfl ?_
  exact E_ret rfl rfl ⟨rfl, rfl⟩
set_option maxRecDepth 100000 in
set_option maxHeartbeats 40000000 in
theorem pc_8_0_o (xs : Nat → Int) {z a2 a3 a4 a5 : Int} (hz : b32 (fun a b => a &&& b) z 31 = 8) (h0 : xs 0 = z) (h1 : xs 1 = 0) (h2 : xs 2 = a2) (h3 : xs 3 = a3) (h4 : xs 4 = a4) (h5 : xs 5 = a5) (hr2 : a2 < 0 ∨ 3 < a2) : E 0 18 LL [] (s0 xs 6) PQ := by
  refine E_s (p' := 19) (st' := aI 0 :: _) rfl rfl ?_
  refine E_s (p' := 20) (st' := aA 0 :: _) rfl rfl ?_
  refine E_s (p' := 21) (st' := aI 6 :: _) rfl rfl ?_
  refine E_s (p' := 23) (st' := aI 6 :: _) rfl rfl ?_
  refine E_s (p' := 24) (st' := aI 0 :: _) rfl rfl ?_
  refine E_s (p' := 27) rfl rfl ?_
  refine E_s (p' := 28) (st' := aA 0 :: _) rfl rfl ?_
  refine E_s (p' := 29) (st' := aI 0 :: _) rfl rfl ?_
  refine E_scr rfl rfl h0 ?_
  refine E_s (p' := 32) (st' := aI 31 :: _) rfl rfl ?_
  refine E_s (p' := 33) rfl rfl ?_
  refine E_val hz ?_
  refine E_s (p' := 514) rfl rfl ?_
  refine E_s (p' := 515) (st' := aA 1 :: _) rfl rfl ?_
  refine E_s (p' := 516) (st' := aA 0 :: _) rfl rfl ?_
  refine E_s (p' := 517) (st' := aI 0 :: _) rfl rfl ?_
  refine E_s (p' := 518) (st' := aI 1 :: _) rfl rfl ?_
  refine E_s (p' := 519) (st' := aI 1 :: _) rfl rfl ?_
  refine E_scr rfl rfl h1 ?_
  refine E_s (p' := 521) (st' := aA 0 :: _) rfl rfl ?_
  refine E_s (p' := 522) (st' := aI 0 :: _) rfl rfl ?_
  refine E_s (p' := 523) (st' := aI 2 :: _) rfl rfl ?_
  refine E_s (p' := 524) (st' := aI 2 :: _) rfl rfl ?_
  refine E_scr rfl rfl h2 ?_
  refine E_callL (p' := 528) (L0 := [some (aA 1), some (aI 0), some (aI a2), none, none]) rfl rfl rfl ?_
  refine E_s (p' := 1) (st' := aA 1 :: _) rfl rfl ?_
  refine E_s (p' := 2) (st' := aI 0 :: _) rfl rfl ?_
  refine E_callL (p' := 5) (L0 := [some (aA 1), some (aI 0)]) rfl rfl rfl ?_
  refine E_s (p' := 1) (st' := aI 0 :: _) rfl rfl ?_
  refine E_s (p' := 4) rfl rfl ?_
  refine E_s (p' := 5) (st' := aI 0 :: _) rfl rfl ?_
  refine E_s (p' := 6) (st' := aI 4 :: _) rfl rfl ?_
  refine E_s (p' := 9) rfl rfl ?_
  refine E_s (p' := 10) (st' := aA 1 :: _) rfl rfl ?_
  refine E_s (p' := 13) (st' := aA 2 :: _) rfl rfl ?_
  refine E_s (p' := 14) (st' := aI 0 :: _) rfl rfl ?_
  refine E_s (p' := 15) (st' := aA 20 :: _) rfl rfl ?_
  refine E_s (p' := 19) rfl rfl ?_
  refine E_ret rfl rfl ?_
  refine E_s (p' := 6) (L' := [some (aA 1), some (aI 0), some (aI a2), some (aA 20), none]) rfl rfl ?_
  refine E_s (p' := 7) (st' := aA 1 :: _) rfl rfl ?_
  refine E_s (p' := 8) rfl rfl ?_
  refine E_callL (p' := 11) (L0 := [some (aA 1), some (aI a2)]) rfl rfl rfl ?_
  refine E_s (p' := 1) rfl rfl ?_
  refine E_if_lt rfl (by decide) (fun _ => ?_) (fun _ => ?_)
  · refine E_s (p' := 19) rfl rfl ?_
    refine E_ret rfl rfl ?_
    refine E_s (p' := 13) (L' := [some (aA 1), some (aI 0), some (aI a2), some (aA 20), some aN]) rfl rfl ?_
    refine E_s (p' := 14) (st' := aA 20 :: _) rfl rfl ?_
    refine E_s (p' := 17) rfl rfl ?_
    refine E_s (p' := 19) rfl rfl ?_
    refine E_s (p' := 22) rfl rfl ?_
    refine E_s (p' := 24) (st' := aI (-2) :: _) rfl rfl ?_
    refine E_ret rfl rfl ?_
    refine E_s (p' := 529) (st' := aA 124 :: _) rfl rfl ?_
    refine E_s (p' := 530) (st' := aA 0 :: _) rfl rfl ?_
    refine E_s (p' := 531) (st' := aI 0 :: _) rfl rfl ?_
    refine E_s (p' := 532) (st' := aI 1 :: _) rfl rfl ?_
    refine E_s (p' := 533) (st' := aI 1 :: _) rfl rfl ?_
    refine E_scr rfl rfl h1 ?_
    refine E_s (p' := 535) (st' := aA 0 :: _) rfl rfl ?_
    refine E_s (p' := 536) (st' := aI 0 :: _) rfl rfl ?_
    refine E_s (p' := 537) (st' := aI 2 :: _) rfl rfl ?_
    refine E_s (p' := 538) (st' := aI 2 :: _) rfl rfl ?_
    refine E_scr rfl rfl h2 ?_
    refine E_callL (p' := 542) (L0 := [some (aA 124), some (aI 0), some (aI a2), none, none, none]) rfl rfl rfl ?_
    refine E_s (p' := 1) (st' := aI 0 :: _) rfl rfl ?_
    refine E_callL (p' := 4) (L0 := [some (aI 0)]) rfl rfl rfl ?_
    refine E_s (p' := 1) (st' := aI 0 :: _) rfl rfl ?_
    refine E_s (p' := 2) (st' := aI 0 :: _) rfl rfl ?_
    refine E_s (p' := 3) (st' := aI 3 :: _) rfl rfl ?_
    refine E_callL (p' := 6) (L0 := [some (aI 0), some (aI 0), some (aI 3)]) rfl rfl rfl ?_
    refine E_s (p' := 1) (st' := aI 0 :: _) rfl rfl ?_
    refine E_s (p' := 2) (st' := aI 0 :: _) rfl rfl ?_
    refine E_s (p' := 5) rfl rfl ?_
    refine E_s (p' := 6) (st' := aI 0 :: _) rfl rfl ?_
    refine E_s (p' := 7) (st' := aI 3 :: _) rfl rfl ?_
    refine E_s (p' := 10) rfl rfl ?_
    refine E_s (p' := 11) (st' := aI 1 :: _) rfl rfl ?_
    refine E_s (p' := 15) rfl rfl ?_
    refine E_ret rfl rfl ?_
    refine E_ret rfl rfl ?_
    refine E_s (p' := 7) rfl rfl ?_
    refine E_s (p' := 8) rfl rfl ?_
    refine E_callL (p' := 11) (L0 := [some (aI a2)]) rfl rfl rfl ?_
    refine E_s (p' := 1) rfl rfl ?_
    refine E_s (p' := 2) (st' := aI 0 :: _) rfl rfl ?_
    refine E_s (p' := 3) (st' := aI 3 :: _) rfl rfl ?_
    refine E_callL (p' := 6) (L0 := [some (aI a2), some (aI 0), some (aI 3)]) rfl rfl rfl ?_
    refine E_s (p' := 1) rfl rfl ?_
    refine E_s (p' := 2) (st' := aI 0 :: _) rfl rfl ?_
    refine E_icmp_lt (y := 0) rfl (by decide) (fun _ => ?_) (fun q => absurd q (by omega))
    refine E_s (p' := 15) (st' := aI 0 :: _) rfl rfl ?_
    refine E_ret rfl rfl ?_
    refine E_ret rfl rfl ?_
    refine E_s (p' := 14) rfl rfl ?_
    refine E_s (p' := 16) (st' := aI (-2) :: _) rfl rfl ?_
    refine E_ret rfl rfl ?_
    refine E_s (p' := 1174) rfl rfl ?_
    refine E_s (p' := 1177) (L' := [some (aA 0), some (aA 1), some (aA 124), some (aI 6)]) rfl rfl ?_
    refine E_s (p' := 18) rfl rfl ?_
    refine E_s (p' := 19) (st' := aI 6 :: _) rfl rfl ?_
    refine E_s (p' := 20) (st' := aA 0 :: _) rfl rfl ?_
    refine E_s (p' := 21) (st' := aI 6 :: _) rfl rfl ?_
    refine E_s (p' := 23) (st' := aI 6 :: _) rfl rfl ?_
    refine E_s (p' := 24) (st' := aI 0 :: _) rfl rfl ?_
    refine E_s (p' := 1180) rfl rfl ?_
    refine E_s (p' := 1181) (st' := aI 1 :: _) rfl rfl ?_
    exact E_ret rfl rfl ⟨rfl, rfl⟩
  · refine E_s (p' := 5) rfl rfl ?_
    refine E_s (p' := 6) (st' := aI 4 :: _) rfl rfl ?_
    refine E_icmp_ge (y := 4) rfl (by decide) (fun _ => ?_) (fun q => absurd q (by omega))
    refine E_s (p' := 19) rfl rfl ?_
    refine E_ret rfl rfl ?_
    refine E_s (p' := 13) (L' := [some (aA 1), some (aI 0), some (aI a2), some (aA 20), some aN]) rfl rfl ?_
    refine E_s (p' := 14) (st' := aA 20 :: _) rfl rfl ?_
    refine E_s (p' := 17) rfl rfl ?_
    refine E_s (p' := 19) rfl rfl ?_
    refine E_s (p' := 22) rfl rfl ?_
    refine E_s (p' := 24) (st' := aI (-2) :: _) rfl rfl ?_
    refine E_ret rfl rfl ?_
    refine E_s (p' := 529) (st' := aA 124 :: _) rfl rfl ?_
    refine E_s (p' := 530) (st' := aA 0 :: _) rfl rfl ?_
    refine E_s (p' := 531) (st' := aI 0 :: _) rfl rfl ?_
    refine E_s (p' := 532) (st' := aI 1 :: _) rfl rfl ?_
    refine E_s (p' := 533) (st' := aI 1 :: _) rfl rfl ?_
    refine E_scr rfl rfl h1 ?_
    refine E_s (p' := 535) (st' := aA 0 :: _) rfl rfl ?_
    refine E_s (p' := 536) (st' := aI 0 :: _) rfl rfl ?_
    refine E_s (p' := 537) (st' := aI 2 :: _) rfl rfl ?_
    refine E_s (p' := 538) (st' := aI 2 :: _) rfl rfl ?_
    refine E_scr rfl rfl h2 ?_
    refine E_callL (p' := 542) (L0 := [some (aA 124), some (aI 0), some (aI a2), none, none, none]) rfl rfl rfl ?_
    refine E_s (p' := 1) (st' := aI 0 :: _) rfl rfl ?_
    refine E_callL (p' := 4) (L0 := [some (aI 0)]) rfl rfl rfl ?_
    refine E_s (p' := 1) (st' := aI 0 :: _) rfl rfl ?_
    refine E_s (p' := 2) (st' := aI 0 :: _) rfl rfl ?_
    refine E_s (p' := 3) (st' := aI 3 :: _) rfl rfl ?_
    refine E_callL (p' := 6) (L0 := [some (aI 0), some (aI 0), some (aI 3)]) rfl rfl rfl ?_
    refine E_s (p' := 1) (st' := aI 0 :: _) rfl rfl ?_
    refine E_s (p' := 2) (st' := aI 0 :: _) rfl rfl ?_
    refine E_s (p' := 5) rfl rfl ?_
    refine E_s (p' := 6) (st' := aI 0 :: _) rfl rfl ?_
    refine E_s (p' := 7) (st' := aI 3 :: _) rfl rfl ?_
    refine E_s (p' := 10) rfl rfl ?_
    refine E_s (p' := 11) (st' := aI 1 :: _) rfl rfl ?_
    refine E_s (p' := 15) rfl rfl ?_
    refine E_ret rfl rfl ?_
    refine E_ret rfl rfl ?_
    refine E_s (p' := 7) rfl rfl ?_
    refine E_s (p' := 8) rfl rfl ?_
    refine E_callL (p' := 11) (L0 := [some (aI a2)]) rfl rfl rfl ?_
    refine E_s (p' := 1) rfl rfl ?_
    refine E_s (p' := 2) (st' := aI 0 :: _) rfl rfl ?_
    refine E_s (p' := 3) (st' := aI 3 :: _) rfl rfl ?_
    refine E_callL (p' := 6) (L0 := [some (aI a2), some (aI 0), some (aI 3)]) rfl rfl rfl ?_
    refine E_s (p' := 1) rfl rfl ?_
    refine E_s (p' := 2) (st' := aI 0 :: _) rfl rfl ?_
    refine E_icmp_lt (y := 0) rfl (by decide) (fun q => absurd q (by omega)) (fun _ => ?_)
    refine E_s (p' := 6) rfl rfl ?_
    refine E_s (p' := 7) (st' := aI 3 :: _) rfl rfl ?_
    refine E_icmp_gt (y := 3) rfl (by decide) (fun _ => ?_) (fun q => absurd q (by omega))
    refine E_s (p' := 15) (st' := aI 0 :: _) rfl rfl ?_
    refine E_ret rfl rfl ?_
    refine E_ret rfl rfl ?_
    refine E_s (p' := 14) rfl rfl ?_
    refine E_s (p' := 16) (st' := aI (-2) :: _) rfl rfl ?_
    refine E_ret rfl rfl ?_
    refine E_s (p' := 1174) rfl rfl ?_
    refine E_s (p' := 1177) (L' := [some (aA 0), some (aA 1), some (aA 124), some (aI 6)]) rfl rfl ?_
    refine E_s (p' := 18) rfl rfl ?_
    refine E_s (p' := 19) (st' := aI 6 :: _) rfl rfl ?_
    refine E_s (p' := 20) (st' := aA 0 :: _) rfl rfl ?_
    refine E_s (p' := 21) (st' := aI 6 :: _) rfl rfl ?_
    refine E_s (p' := 23) (st' := aI 6 :: _) rfl rfl ?_
    refine E_s (p' := 24) (st' := aI 0 :: _) rfl rfl ?_
    refine E_s (p' := 1180) rfl rfl ?_
    refine E_s (p' := 1181) (st' := aI 1 :: _) rfl rfl ?_
    exact E_ret rfl rfl ⟨rfl, rfl⟩
set_option maxRecDepth 100000 in
set_option maxHeartbeats 40000000 in
theorem pc_8_1_0 (xs : Nat → Int) {z a3 a4 a5 : Int} (hz : b32 (fun a b => a &&& b) z 31 = 8) (h0 : xs 0 = z) (h1 : xs 1 = 1) (h2 : xs 2 = 0) (h3 : xs 3 = a3) (h4 : xs 4 = a4) (h5 : xs 5 = a5) : E 0 18 LL [] (s0 xs 6) PQ := by
  refine E_s (p' := 19) (st' := aI 0 :: _) rfl rfl ?_
  refine E_s (p' := 20) (st' := aA 0 :: _) rfl rfl ?_
  refine E_s (p' := 21) (st' := aI 6 :: _) rfl rfl ?_
  refine E_s (p' := 23) (st' := aI 6 :: _) rfl rfl ?_
  refine E_s (p' := 24) (st' := aI 0 :: _) rfl rfl ?_
  refine E_s (p' := 27) rfl rfl ?_
  refine E_s (p' := 28) (st' := aA 0 :: _) rfl rfl ?_
  refine E_s (p' := 29) (st' := aI 0 :: _) rfl rfl ?_
  refine E_scr rfl rfl h0 ?_
  refine E_s (p' := 32) (st' := aI 31 :: _) rfl rfl ?_
  refine E_s (p' := 33) rfl rfl ?_
  refine E_val hz ?_
  refine E_s (p' := 514) rfl rfl ?_
  refine E_s (p' := 515) (st' := aA 1 :: _) rfl rfl ?_
  refine E_s (p' := 516) (st' := aA 0 :: _) rfl rfl ?_
  refine E_s (p' := 517) (st' := aI 0 :: _) rfl rfl ?_
  refine E_s (p' := 518) (st' := aI 1 :: _) rfl rfl ?_
  refine E_s (p' := 519) (st' := aI 1 :: _) rfl rfl ?_
  refine E_scr rfl rfl h1 ?_
  refine E_s (p' := 521) (st' := aA 0 :: _) rfl rfl ?_
  refine E_s (p' := 522) (st' := aI 0 :: _) rfl rfl ?_
  refine E_s (p' := 523) (st' := aI 2 :: _) rfl rfl ?_
  refine E_s (p' := 524) (st' := aI 2 :: _) rfl rfl ?_
  refine E_scr rfl rfl h2 ?_
  refine E_callL (p' := 528) (L0 := [some (aA 1), some (aI 1), some (aI 0), none, none]) rfl rfl rfl ?_
  refine E_s (p' := 1) (st' := aA 1 :: _) rfl rfl ?_
  refine E_s (p' := 2) (st' := aI 1 :: _) rfl rfl ?_
  refine E_callL (p' := 5) (L0 := [some (aA 1), some (aI 1)]) rfl rfl rfl ?_
  refine E_s (p' := 1) (st' := aI 1 :: _) rfl rfl ?_
  refine E_s (p' := 4) rfl rfl ?_
  refine E_s (p' := 5) (st' := aI 1 :: _) rfl rfl ?_
  refine E_s (p' := 6) (st' := aI 4 :: _) rfl rfl ?_
  refine E_s (p' := 9) rfl rfl ?_
  refine E_s (p' := 10) (st' := aA 1 :: _) rfl rfl ?_
  refine E_s (p' := 13) (st' := aA 2 :: _) rfl rfl ?_
  refine E_s (p' := 14) (st' := aI 1 :: _) rfl rfl ?_
  refine E_s (p' := 15) (st' := aA 46 :: _) rfl rfl ?_
  refine E_s (p' := 19) rfl rfl ?_
  refine E_ret rfl rfl ?_
  refine E_s (p' := 6) (L' := [some (aA 1), some (aI 1), some (aI 0), some (aA 46), none]) rfl rfl ?_
  refine E_s (p' := 7) (st' := aA 1 :: _) rfl rfl ?_
  refine E_s (p' := 8) (st' := aI 0 :: _) rfl rfl ?_
  refine E_callL (p' := 11) (L0 := [some (aA 1), some (aI 0)]) rfl rfl rfl ?_
  refine E_s (p' := 1) (st' := aI 0 :: _) rfl rfl ?_
  refine E_s (p' := 4) rfl rfl ?_
  refine E_s (p' := 5) (st' := aI 0 :: _) rfl rfl ?_
  refine E_s (p' := 6) (st' := aI 4 :: _) rfl rfl ?_
  refine E_s (p' := 9) rfl rfl ?_
  refine E_s (p' := 10) (st' := aA 1 :: _) rfl rfl ?_
  refine E_s (p' := 13) (st' := aA 2 :: _) rfl rfl ?_
  refine E_s (p' := 14) (st' := aI 0 :: _) rfl rfl ?_
  refine E_s (p' := 15) (st' := aA 20 :: _) rfl rfl ?_
  refine E_s (p' := 19) rfl rfl ?_
  refine E_ret rfl rfl ?_
  refine E_s (p' := 13) (L' := [some (aA 1), some (aI 1), some (aI 0), some (aA 46), some (aA 20)]) rfl rfl ?_
  refine E_s (p' := 14) (st' := aA 46 :: _) rfl rfl ?_
  refine E_s (p' := 17) rfl rfl ?_
  refine E_s (p' := 19) (st' := aA 20 :: _) rfl rfl ?_
  refine E_s (p' := 25) rfl rfl ?_
  refine E_s (p' := 27) (st' := aA 20 :: _) rfl rfl ?_
  refine E_s (p' := 28) (st' := aA 46 :: _) rfl rfl ?_
  refine E_callL (p' := 31) (L0 := [some (aA 20), some (aA 46), none]) rfl rfl rfl ?_
  refine E_s (p' := 1) (st' := aA 20 :: _) rfl rfl ?_
  refine E_s (p' := 4) (st' := aI 15 :: _) rfl rfl ?_
  refine E_s (p' := 5) (st' := aA 46 :: _) rfl rfl ?_
  refine E_s (p' := 8) (st' := aI 15 :: _) rfl rfl ?_
  refine E_s (p' := 15) rfl rfl ?_
  refine E_s (p' := 16) (st' := aI 0 :: _) rfl rfl ?_
  refine E_s (p' := 17) (L' := [some (aA 20), some (aA 46), some (aI 0)]) rfl rfl ?_
  refine E_s (p' := 18) (st' := aA 20 :: _) rfl rfl ?_
  refine E_s (p' := 19) (st' := aA 46 :: _) rfl rfl ?_
  refine E_s (p' := 22) (st' := aI 15 :: _) rfl rfl ?_
  refine E_stM (p' := 25) (m' := up2 _ 20 5 15) rfl rfl ?_
  refine E_s (p' := 26) (st' := aI 0 :: _) rfl rfl ?_
  refine E_s (p' := 27) (st' := aA 20 :: _) rfl rfl ?_
  refine E_s (p' := 30) (st' := aA 21 :: _) rfl rfl ?_
  refine E_s (p' := 31) (st' := aA 46 :: _) rfl rfl ?_
  refine E_s (p' := 34) (st' := aA 47 :: _) rfl rfl ?_
  refine E_callL (p' := 37) (L0 := [some (aA 21), some (aA 47), none, none]) rfl rfl rfl ?_
  refine E_s (p' := 1) (st' := aA 21 :: _) rfl rfl ?_
  refine E_s (p' := 4) (st' := aI 0 :: _) rfl rfl ?_
  refine E_s (p' := 5) (st' := aA 47 :: _) rfl rfl ?_
  refine E_s (p' := 8) (st' := aI 0 :: _) rfl rfl ?_
  refine E_s (p' := 15) rfl rfl ?_
  refine E_s (p' := 16) (st' := aI 0 :: _) rfl rfl ?_
  refine E_s (p' := 17) (L' := [some (aA 21), some (aA 47), some (aI 0), none]) rfl rfl ?_
  refine E_s (p' := 18) (st' := aA 21 :: _) rfl rfl ?_
  refine E_s (p' := 19) (st' := aA 47 :: _) rfl rfl ?_
  refine E_s (p' := 22) (st' := aI 0 :: _) rfl rfl ?_
  refine E_stM (p' := 25) (m' := up2 _ 21 7 0) rfl rfl ?_
  refine E_s (p' := 26) (st' := aI 0 :: _) rfl rfl ?_
  refine E_s (p' := 27) (st' := aA 21 :: _) rfl rfl ?_
  refine E_s (p' := 30) (st' := aA 22 :: _) rfl rfl ?_
  refine E_s (p' := 31) (st' := aA 47 :: _) rfl rfl ?_
  refine E_s (p' := 34) (st' := aA 48 :: _) rfl rfl ?_
  refine E_s (p' := 35) (st' := aI 0 :: _) rfl rfl ?_
  refine E_s (p' := 36) (st' := aA 21 :: _) rfl rfl ?_
  refine E_s (p' := 39) (st' := aI 0 :: _) rfl rfl ?_
  refine E_callL (p' := 42) (L0 := [some (aA 22), some (aA 48), some (aI 0), some (aI 0), none, none]) rfl rfl rfl ?_
  refine E_s (p' := 1) (st' := aI 0 :: _) rfl rfl ?_
  refine E_s (p' := 3) (L' := [some (aA 22), some (aA 48), some (aI 0), some (aI 0), some (aI 0), none]) rfl rfl ?_
  refine E_s (p' := 4) (st' := aI 0 :: _) rfl rfl ?_
  refine E_s (p' := 6) (L' := [some (aA 22), some (aA 48), some (aI 0), some (aI 0), some (aI 0), some (aI 0)]) rfl rfl ?_
  refine E_s (p' := 8) (st' := aI 0 :: _) rfl rfl ?_
  refine E_s (p' := 9) (st' := aI 0 :: _) rfl rfl ?_
  refine E_s (p' := 10) (st' := aI 0 :: _) rfl rfl ?_
  refine E_s (p' := 11) (st' := aI 0 :: _) rfl rfl ?_
  refine E_s (p' := 49) rfl rfl ?_
  refine E_s (p' := 51) (st' := aI 0 :: _) rfl rfl ?_
  refine E_ret rfl rfl ?_
  refine E_s (p' := 43) (st' := aI 0 :: _) rfl rfl ?_
  refine E_s (p' := 44) (L' := [some (aA 21), some (aA 47), some (aI 0), none]) rfl rfl ?_
  refine E_s (p' := 45) (st' := aI 0 :: _) rfl rfl ?_
  refine E_s (p' := 46) (st' := aA 21 :: _) rfl rfl ?_
  refine E_s (p' := 49) (st' := aA 23 :: _) rfl rfl ?_
  refine E_s (p' := 50) (st' := aA 47 :: _) rfl rfl ?_
  refine E_s (p' := 53) (st' := aA 49 :: _) rfl rfl ?_
  refine E_s (p' := 54) (st' := aI 0 :: _) rfl rfl ?_
  refine E_s (p' := 55) (st' := aA 21 :: _) rfl rfl ?_
  refine E_s (p' := 58) (st' := aI 0 :: _) rfl rfl ?_
  refine E_callL (p' := 61) (L0 := [some (aA 23), some (aA 49), some (aI 0), some (aI 0), none, none]) rfl rfl rfl ?_
  refine E_s (p' := 1) (st' := aI 0 :: _) rfl rfl ?_
  refine E_s (p' := 3) (L' := [some (aA 23), some (aA 49), some (aI 0), some (aI 0), some (aI 0), none]) rfl rfl ?_
  refine E_s (p' := 4) (st' := aI 0 :: _) rfl rfl ?_
  refine E_s (p' := 6) (L' := [some (aA 23), some (aA 49), some (aI 0), some (aI 0), some (aI 0), some (aI 0)]) rfl rfl ?_
  refine E_s (p' := 8) (st' := aI 0 :: _) rfl rfl ?_
  refine E_s (p' := 9) (st' := aI 0 :: _) rfl rfl ?_
  refine E_s (p' := 10) (st' := aI 0 :: _) rfl rfl ?_
  refine E_s (p' := 11) (st' := aI 0 :: _) rfl rfl ?_
  refine E_s (p' := 49) rfl rfl ?_
  refine E_s (p' := 51) (st' := aI 0 :: _) rfl rfl ?_
  refine E_ret rfl rfl ?_
  refine E_s (p' := 62) (st' := aI 0 :: _) rfl rfl ?_
  refine E_s (p' := 63) (L' := [some (aA 21), some (aA 47), some (aI 0), none]) rfl rfl ?_
  refine E_s (p' := 64) (st' := aI 0 :: _) rfl rfl ?_
  refine E_s (p' := 65) (st' := aA 21 :: _) rfl rfl ?_
  refine E_s (p' := 68) (st' := aA 24 :: _) rfl rfl ?_
  refine E_s (p' := 69) (st' := aA 47 :: _) rfl rfl ?_
  refine E_s (p' := 72) (st' := aA 50 :: _) rfl rfl ?_
  refine E_s (p' := 73) (st' := aI 0 :: _) rfl rfl ?_
  refine E_s (p' := 74) (st' := aA 21 :: _) rfl rfl ?_
  refine E_s (p' := 77) (st' := aI 0 :: _) rfl rfl ?_
  refine E_callL (p' := 80) (L0 := [some (aA 24), some (aA 50), some (aI 0), some (aI 0), none, none]) rfl rfl rfl ?_
  refine E_s (p' := 1) (st' := aI 0 :: _) rfl rfl ?_
  refine E_s (p' := 3) (L' := [some (aA 24), some (aA 50), some (aI 0), some (aI 0), some (aI 0), none]) rfl rfl ?_
  refine E_s (p' := 4) (st' := aI 0 :: _) rfl rfl ?_
  refine E_s (p' := 6) (L' := [some (aA 24), some (aA 50), some (aI 0), some (aI 0), some (aI 0), some (aI 0)]) rfl rfl ?_
  refine E_s (p' := 8) (st' := aI 0 :: _) rfl rfl ?_
  refine E_s (p' := 9) (st' := aI 0 :: _) rfl rfl ?_
  refine E_s (p' := 10) (st' := aI 0 :: _) rfl rfl ?_
  refine E_s (p' := 11) (st' := aI 0 :: _) rfl rfl ?_
  refine E_s (p' := 49) rfl rfl ?_
  refine E_s (p' := 51) (st' := aI 0 :: _) rfl rfl ?_
  refine E_ret rfl rfl ?_
  refine E_s (p' := 81) (st' := aI 0 :: _) rfl rfl ?_
  refine E_s (p' := 82) (L' := [some (aA 21), some (aA 47), some (aI 0), none]) rfl rfl ?_
  refine E_s (p' := 83) (st' := aI 0 :: _) rfl rfl ?_
  refine E_s (p' := 84) (st' := aA 21 :: _) rfl rfl ?_
  refine E_s (p' := 87) (st' := aA 25 :: _) rfl rfl ?_
  refine E_s (p' := 88) (st' := aA 47 :: _) rfl rfl ?_
  refine E_s (p' := 91) (st' := aA 51 :: _) rfl rfl ?_
  refine E_s (p' := 92) (st' := aI 0 :: _) rfl rfl ?_
  refine E_s (p' := 93) (st' := aA 21 :: _) rfl rfl ?_
  refine E_s (p' := 96) (st' := aI 0 :: _) rfl rfl ?_
  refine E_callL (p' := 99) (L0 := [some (aA 25), some (aA 51), some (aI 0), some (aI 0), none, none]) rfl rfl rfl ?_
  refine E_s (p' := 1) (st' := aI 0 :: _) rfl rfl ?_
  refine E_s (p' := 3) (L' := [some (aA 25), some (aA 51), some (aI 0), some (aI 0), some (aI 0), none]) rfl rfl ?_
  refine E_s (p' := 4) (st' := aI 0 :: _) rfl rfl ?_
  refine E_s (p' := 6) (L' := [some (aA 25), some (aA 51), some (aI 0), some (aI 0), some (aI 0), some (aI 0)]) rfl rfl ?_
  refine E_s (p' := 8) (st' := aI 0 :: _) rfl rfl ?_
  refine E_s (p' := 9) (st' := aI 0 :: _) rfl rfl ?_
  refine E_s (p' := 10) (st' := aI 0 :: _) rfl rfl ?_
  refine E_s (p' := 11) (st' := aI 0 :: _) rfl rfl ?_
  refine E_s (p' := 49) rfl rfl ?_
  refine E_s (p' := 51) (st' := aI 0 :: _) rfl rfl ?_
  refine E_ret rfl rfl ?_
  refine E_s (p' := 100) (st' := aI 0 :: _) rfl rfl ?_
  refine E_s (p' := 101) (L' := [some (aA 21), some (aA 47), some (aI 0), none]) rfl rfl ?_
  refine E_s (p' := 102) (st' := aI 0 :: _) rfl rfl ?_
  refine E_s (p' := 103) (st' := aA 21 :: _) rfl rfl ?_
  refine E_s (p' := 106) (st' := aA 26 :: _) rfl rfl ?_
  refine E_s (p' := 107) (st' := aA 47 :: _) rfl rfl ?_
  refine E_s (p' := 110) (st' := aA 52 :: _) rfl rfl ?_
  refine E_s (p' := 111) (st' := aI 0 :: _) rfl rfl ?_
  refine E_s (p' := 112) (st' := aA 21 :: _) rfl rfl ?_
  refine E_s (p' := 115) (st' := aI 0 :: _) rfl rfl ?_
  refine E_callL (p' := 118) (L0 := [some (aA 26), some (aA 52), some (aI 0), some (aI 0), none, none]) rfl rfl rfl ?_
  refine E_s (p' := 1) (st' := aI 0 :: _) rfl rfl ?_
  refine E_s (p' := 3) (L' := [some (aA 26), some (aA 52), some (aI 0), some (aI 0), some (aI 0), none]) rfl rfl ?_
  refine E_s (p' := 4) (st' := aI 0 :: _) rfl rfl ?_
  refine E_s (p' := 6) (L' := [some (aA 26), some (aA 52), some (aI 0), some (aI 0), some (aI 0), some (aI 0)]) rfl rfl ?_
  refine E_s (p' := 8) (st' := aI 0 :: _) rfl rfl ?_
  refine E_s (p' := 9) (st' := aI 0 :: _) rfl rfl ?_
  refine E_s (p' := 10) (st' := aI 0 :: _) rfl rfl ?_
  refine E_s (p' := 11) (st' := aI 0 :: _) rfl rfl ?_
  refine E_s (p' := 49) rfl rfl ?_
  refine E_s (p' := 51) (st' := aI 0 :: _) rfl rfl ?_
  refine E_ret rfl rfl ?_
  refine E_s (p' := 119) (st' := aI 0 :: _) rfl rfl ?_
  refine E_s (p' := 120) (L' := [some (aA 21), some (aA 47), some (aI 0), none]) rfl rfl ?_
  refine E_s (p' := 121) (st' := aI 0 :: _) rfl rfl ?_
  refine E_s (p' := 122) (st' := aA 21 :: _) rfl rfl ?_
  refine E_s (p' := 125) (st' := aA 27 :: _) rfl rfl ?_
  refine E_s (p' := 126) (st' := aA 47 :: _) rfl rfl ?_
  refine E_s (p' := 129) (st' := aA 53 :: _) rfl rfl ?_
  refine E_s (p' := 130) (st' := aI 0 :: _) rfl rfl ?_
  refine E_s (p' := 131) (st' := aA 21 :: _) rfl rfl ?_
  refine E_s (p' := 134) (st' := aI 0 :: _) rfl rfl ?_
  refine E_callL (p' := 137) (L0 := [some (aA 27), some (aA 53), some (aI 0), some (aI 0), none, none]) rfl rfl rfl ?_
  refine E_s (p' := 1) (st' := aI 0 :: _) rfl rfl ?_
  refine E_s (p' := 3) (L' := [some (aA 27), some (aA 53), some (aI 0), some (aI 0), some (aI 0), none]) rfl rfl ?_
  refine E_s (p' := 4) (st' := aI 0 :: _) rfl rfl ?_
  refine E_s (p' := 6) (L' := [some (aA 27), some (aA 53), some (aI 0), some (aI 0), some (aI 0), some (aI 0)]) rfl rfl ?_
  refine E_s (p' := 8) (st' := aI 0 :: _) rfl rfl ?_
  refine E_s (p' := 9) (st' := aI 0 :: _) rfl rfl ?_
  refine E_s (p' := 10) (st' := aI 0 :: _) rfl rfl ?_
  refine E_s (p' := 11) (st' := aI 0 :: _) rfl rfl ?_
  refine E_s (p' := 49) rfl rfl ?_
  refine E_s (p' := 51) (st' := aI 0 :: _) rfl rfl ?_
  refine E_ret rfl rfl ?_
  refine E_s (p' := 138) (st' := aI 0 :: _) rfl rfl ?_
  refine E_s (p' := 139) (L' := [some (aA 21), some (aA 47), some (aI 0), none]) rfl rfl ?_
  refine E_s (p' := 140) (st' := aI 0 :: _) rfl rfl ?_
  refine E_s (p' := 141) (L' := [some (aA 21), some (aA 47), some (aI 0), some (aI 0)]) rfl rfl ?_
  refine E_s (p' := 142) (st' := aI 0 :: _) rfl rfl ?_
  refine E_s (p' := 143) (st' := aA 21 :: _) rfl rfl ?_
  refine E_s (p' := 146) (st' := aI 0 :: _) rfl rfl ?_
  refine E_s (p' := 179) rfl rfl ?_
  refine E_s (p' := 180) (st' := aI 0 :: _) rfl rfl ?_
  refine E_ret rfl rfl ?_
  refine E_s (p' := 38) (st' := aI 0 :: _) rfl rfl ?_
  refine E_s (p' := 39) (L' := [some (aA 20), some (aA 46), some (aI 0)]) rfl rfl ?_
  refine E_s (p' := 40) (st' := aI 0 :: _) rfl rfl ?_
  refine E_s (p' := 41) (st' := aA 20 :: _) rfl rfl ?_
  refine E_s (p' := 44) (st' := aA 29 :: _) rfl rfl ?_
  refine E_s (p' := 45) (st' := aA 46 :: _) rfl rfl ?_
  refine E_s (p' := 48) (st' := aA 55 :: _) rfl rfl ?_
  refine E_callL (p' := 51) (L0 := [some (aA 29), some (aA 55), none, none]) rfl rfl rfl ?_
  refine E_s (p' := 1) (st' := aA 29 :: _) rfl rfl ?_
  refine E_s (p' := 4) (st' := aI 0 :: _) rfl rfl ?_
  refine E_s (p' := 5) (st' := aA 55 :: _) rfl rfl ?_
  refine E_s (p' := 8) (st' := aI 0 :: _) rfl rfl ?_
  refine E_s (p' := 15) rfl rfl ?_
  refine E_s (p' := 16) (st' := aI 0 :: _) rfl rfl ?_
  refine E_s (p' := 17) (L' := [some (aA 29), some (aA 55), some (aI 0), none]) rfl rfl ?_
  refine E_s (p' := 18) (st' := aA 29 :: _) rfl rfl ?_
  refine E_s (p' := 19) (st' := aA 55 :: _) rfl rfl ?_
  refine E_s (p' := 22) (st' := aI 0 :: _) rfl rfl ?_
  refine E_stM (p' := 25) (m' := up2 _ 29 3 0) rfl rfl ?_
  refine E_s (p' := 26) (st' := aI 0 :: _) rfl rfl ?_
  refine E_s (p' := 27) (st' := aA 29 :: _) rfl rfl ?_
  refine E_s (p' := 30) (st' := aA 30 :: _) rfl rfl ?_
  refine E_s (p' := 31) (st' := aA 55 :: _) rfl rfl ?_
  refine E_s (p' := 34) (st' := aA 56 :: _) rfl rfl ?_
  refine E_s (p' := 35) (st' := aI 0 :: _) rfl rfl ?_
  refine E_s (p' := 36) (st' := aA 29 :: _) rfl rfl ?_
  refine E_s (p' := 39) (st' := aI 0 :: _) rfl rfl ?_
  refine E_callL (p' := 42) (L0 := [some (aA 30), some (aA 56), some (aI 0), some (aI 0), none, none]) rfl rfl rfl ?_
  refine E_s (p' := 1) (st' := aI 0 :: _) rfl rfl ?_
  refine E_s (p' := 3) (L' := [some (aA 30), some (aA 56), some (aI 0), some (aI 0), some (aI 0), none]) rfl rfl ?_
  refine E_s (p' := 4) (st' := aI 0 :: _) rfl rfl ?_
  refine E_s (p' := 6) (L' := [some (aA 30), some (aA 56), some (aI 0), some (aI 0), some (aI 0), some (aI 0)]) rfl rfl ?_
  refine E_s (p' := 8) (st' := aI 0 :: _) rfl rfl ?_
  refine E_s (p' := 9) (st' := aI 0 :: _) rfl rfl ?_
  refine E_s (p' := 10) (st' := aI 0 :: _) rfl rfl ?_
  refine E_s (p' := 11) (st' := aI 0 :: _) rfl rfl ?_
  refine E_s (p' := 49) rfl rfl ?_
  refine E_s (p' := 51) (st' := aI 0 :: _) rfl rfl ?_
  refine E_ret rfl rfl ?_
  refine E_s (p' := 43) (st' := aI 0 :: _) rfl rfl ?_
  refine E_s (p' := 44) (L' := [some (aA 29), some (aA 55), some (aI 0), none]) rfl rfl ?_
  refine E_s (p' := 45) (st' := aI 0 :: _) rfl rfl ?_
  refine E_s (p' := 46) (st' := aA 29 :: _) rfl rfl ?_
  refine E_s (p' := 49) (st' := aA 31 :: _) rfl rfl ?_
  refine E_s (p' := 50) (st' := aA 55 :: _) rfl rfl ?_
  refine E_s (p' := 53) (st' := aA 57 :: _) rfl rfl ?_
  refine E_s (p' := 54) (st' := aI 0 :: _) rfl rfl ?_
  refine E_s (p' := 55) (st' := aA 29 :: _) rfl rfl ?_
  refine E_s (p' := 58) (st' := aI 0 :: _) rfl rfl ?_
  refine E_callL (p' := 61) (L0 := [some (aA 31), some (aA 57), some (aI 0), some (aI 0), none, none]) rfl rfl rfl ?_
  refine E_s (p' := 1) (st' := aI 0 :: _) rfl rfl ?_
  refine E_s (p' := 3) (L' := [some (aA 31), some (aA 57), some (aI 0), some (aI 0), some (aI 0), none]) rfl rfl ?_
  refine E_s (p' := 4) (st' := aI 0 :: _) rfl rfl ?_
  refine E_s (p' := 6) (L' := [some (aA 31), some (aA 57), some (aI 0), some (aI 0), some (aI 0), some (aI 0)]) rfl rfl ?_
  refine E_s (p' := 8) (st' := aI 0 :: _) rfl rfl ?_
  refine E_s (p' := 9) (st' := aI 0 :: _) rfl rfl ?_
  refine E_s (p' := 10) (st' := aI 0 :: _) rfl rfl ?_
  refine E_s (p' := 11) (st' := aI 0 :: _) rfl rfl ?_
  refine E_s (p' := 49) rfl rfl ?_
  refine E_s (p' := 51) (st' := aI 0 :: _) rfl rfl ?_
  refine E_ret rfl rfl ?_
  refine E_s (p' := 62) (st' := aI 0 :: _) rfl rfl ?_
  refine E_s (p' := 63) (L' := [some (aA 29), some (aA 55), some (aI 0), none]) rfl rfl ?_
  refine E_s (p' := 64) (st' := aI 0 :: _) rfl rfl ?_
  refine E_s (p' := 65) (L' := [some (aA 29), some (aA 55), some (aI 0), some (aI 0)]) rfl rfl ?_
  refine E_s (p' := 66) (st' := aI 0 :: _) rfl rfl ?_
  refine E_s (p' := 67) (st' := aA 29 :: _) rfl rfl ?_
  refine E_s (p' := 70) (st' := aI 0 :: _) rfl rfl ?_
  refine E_s (p' := 103) rfl rfl ?_
  refine E_s (p' := 104) (st' := aI 0 :: _) rfl rfl ?_
  refine E_ret rfl rfl ?_
  refine E_s (p' := 52) (st' := aI 0 :: _) rfl rfl ?_
  refine E_s (p' := 53) (L' := [some (aA 20), some (aA 46), some (aI 0)]) rfl rfl ?_
  refine E_s (p' := 54) (st' := aI 0 :: _) rfl rfl ?_
  refine E_s (p' := 61) rfl rfl ?_
  refine E_ret rfl rfl ?_
  refine E_s (p' := 33) (st' := aA 20 :: _) rfl rfl ?_
  refine E_s (p' := 36) (st' := aA 21 :: _) rfl rfl ?_
  refine E_s (p' := 39) (st' := aI 0 :: _) rfl rfl ?_
  refine E_ret rfl rfl ?_
  refine E_s (p' := 529) (st' := aA 124 :: _) rfl rfl ?_
  refine E_s (p' := 530) (st' := aA 0 :: _) rfl rfl ?_
  refine E_s (p' := 531) (st' := aI 0 :: _) rfl rfl ?_
  refine E_s (p' := 532) (st' := aI 1 :: _) rfl rfl ?_
  refine E_s (p' := 533) (st' := aI 1 :: _) rfl rfl ?_
  refine E_scr rfl rfl h1 ?_
  refine E_s (p' := 535) (st' := aA 0 :: _) rfl rfl ?_
  refine E_s (p' := 536) (st' := aI 0 :: _) rfl rfl ?_
  refine E_s (p' := 537) (st' := aI 2 :: _) rfl rfl ?_
  refine E_s (p' := 538) (st' := aI 2 :: _) rfl rfl ?_
  refine E_scr rfl rfl h2 ?_
  refine E_callL (p' := 542) (L0 := [some (aA 124), some (aI 1), some (aI 0), none, none, none]) rfl rfl rfl ?_
  refine E_s (p' := 1) (st' := aI 1 :: _) rfl rfl ?_
  refine E_callL (p' := 4) (L0 := [some (aI 1)]) rfl rfl rfl ?_
  refine E_s (p' := 1) (st' := aI 1 :: _) rfl rfl ?_
  refine E_s (p' := 2) (st' := aI 0 :: _) rfl rfl ?_
  refine E_s (p' := 3) (st' := aI 3 :: _) rfl rfl ?_
  refine E_callL (p' := 6) (L0 := [some (aI 1), some (aI 0), some (aI 3)]) rfl rfl rfl ?_
  refine E_s (p' := 1) (st' := aI 1 :: _) rfl rfl ?_
  refine E_s (p' := 2) (st' := aI 0 :: _) rfl rfl ?_
  refine E_s (p' := 5) rfl rfl ?_
  refine E_s (p' := 6) (st' := aI 1 :: _) rfl rfl ?_
  refine E_s (p' := 7) (st' := aI 3 :: _) rfl rfl ?_
  refine E_s (p' := 10) rfl rfl ?_
  refine E_s (p' := 11) (st' := aI 1 :: _) rfl rfl ?_
  refine E_s (p' := 15) rfl rfl ?_
  refine E_ret rfl rfl ?_
  refine E_ret rfl rfl ?_
  refine E_s (p' := 7) rfl rfl ?_
  refine E_s (p' := 8) (st' := aI 0 :: _) rfl rfl ?_
  refine E_callL (p' := 11) (L0 := [some (aI 0)]) rfl rfl rfl ?_
  refine E_s (p' := 1) (st' := aI 0 :: _) rfl rfl ?_
  refine E_s (p' := 2) (st' := aI 0 :: _) rfl rfl ?_
  refine E_s (p' := 3) (st' := aI 3 :: _) rfl rfl ?_
  refine E_callL (p' := 6) (L0 := [some (aI 0), some (aI 0), some (aI 3)]) rfl rfl rfl ?_
  refine E_s (p' := 1) (st' := aI 0 :: _) rfl rfl ?_
  refine E_s (p' := 2) (st' := aI 0 :: _) rfl rfl ?_
  refine E_s (p' := 5) rfl rfl ?_
  refine E_s (p' := 6) (st' := aI 0 :: _) rfl rfl ?_
  refine E_s (p' := 7) (st' := aI 3 :: _) rfl rfl ?_
  refine E_s (p' := 10) rfl rfl ?_
  refine E_s (p' := 11) (st' := aI 1 :: _) rfl rfl ?_
  refine E_s (p' := 15) rfl rfl ?_
  refine E_ret rfl rfl ?_
  refine E_ret rfl rfl ?_
  refine E_s (p' := 17) rfl rfl ?_
  refine E_s (p' := 18) (st' := aA 124 :: _) rfl rfl ?_
  refine E_s (p' := 19) (st' := aI 0 :: _) rfl rfl ?_
  refine E_callL (p' := 22) (L0 := [some (aA 124), some (aI 0)]) rfl rfl rfl ?_
  refine E_s (p' := 1) (st' := aA 124 :: _) rfl rfl ?_
  refine E_s (p' := 4) (st' := aA 140 :: _) rfl rfl ?_
  refine E_s (p' := 5) (st' := aI 0 :: _) rfl rfl ?_
  refine E_s (p' := 6) (st' := aI 0 :: _) rfl rfl ?_
  refine E_stM (p' := 7) (m' := up2 _ 140 0 0) rfl rfl ?_
  refine E_ret rfl rfl ?_
  refine E_s (p' := 23) (st' := aI 1 :: _) rfl rfl ?_
  refine E_s (p' := 24) (st' := aI 0 :: _) rfl rfl ?_
  refine E_s (p' := 34) rfl rfl ?_
  refine E_s (p' := 35) (st' := aA 124 :: _) rfl rfl ?_
  refine E_s (p' := 38) (st' := aA 125 :: _) rfl rfl ?_
  refine E_s (p' := 39) (st' := aI 0 :: _) rfl rfl ?_
  refine E_s (p' := 40) (st' := aA 124 :: _) rfl rfl ?_
  refine E_s (p' := 43) (st' := aA 125 :: _) rfl rfl ?_
  refine E_s (p' := 44) (st' := aI 1 :: _) rfl rfl ?_
  refine E_s (p' := 45) (st' := aI 0 :: _) rfl rfl ?_
  refine E_stM (p' := 46) (m' := up2 _ 125 0 0) rfl rfl ?_
  refine E_s (p' := 47) (st' := aA 124 :: _) rfl rfl ?_
  refine E_s (p' := 50) (st' := aA 126 :: _) rfl rfl ?_
  refine E_s (p' := 51) (st' := aI 0 :: _) rfl rfl ?_
  refine E_s (p' := 52) (st' := aA 124 :: _) rfl rfl ?_
  refine E_s (p' := 55) (st' := aA 126 :: _) rfl rfl ?_
  refine E_s (p' := 56) (st' := aI 1 :: _) rfl rfl ?_
  refine E_s (p' := 57) (st' := aI 15 :: _) rfl rfl ?_
  refine E_stM (p' := 58) (m' := up2 _ 126 0 15) rfl rfl ?_
  refine E_s (p' := 59) (st' := aA 124 :: _) rfl rfl ?_
  refine E_s (p' := 62) (st' := aA 136 :: _) rfl rfl ?_
  refine E_s (p' := 63) (st' := aI 0 :: _) rfl rfl ?_
  refine E_s (p' := 64) (st' := aA 124 :: _) rfl rfl ?_
  refine E_s (p' := 67) (st' := aA 136 :: _) rfl rfl ?_
  refine E_s (p' := 68) (st' := aI 1 :: _) rfl rfl ?_
  refine E_s (p' := 69) (st' := aI 0 :: _) rfl rfl ?_
  refine E_stM (p' := 70) (m' := up2 _ 136 0 0) rfl rfl ?_
  refine E_s (p' := 71) (st' := aI 0 :: _) rfl rfl ?_
  refine E_s (p' := 72) (L' := [some (aA 124), some (aI 1), some (aI 0), some (aI 0), none, none]) rfl rfl ?_
  refine E_s (p' := 73) (st' := aI 0 :: _) rfl rfl ?_
  refine E_s (p' := 74) (st' := aA 124 :: _) rfl rfl ?_
  refine E_s (p' := 77) (st' := aA 125 :: _) rfl rfl ?_
  refine E_s (p' := 78) (st' := aI 1 :: _) rfl rfl ?_
  refine E_s (p' := 79) (st' := aI 0 :: _) rfl rfl ?_
  refine E_s (p' := 182) rfl rfl ?_
  refine E_s (p' := 183) (st' := aI 0 :: _) rfl rfl ?_
  refine E_s (p' := 184) (L' := [some (aA 124), some (aI 1), some (aI 0), some (aI 0), none, none]) rfl rfl ?_
  refine E_s (p' := 185) (st' := aI 0 :: _) rfl rfl ?_
  refine E_s (p' := 186) (st' := aA 124 :: _) rfl rfl ?_
  refine E_s (p' := 189) (st' := aA 136 :: _) rfl rfl ?_
  refine E_s (p' := 190) (st' := aI 1 :: _) rfl rfl ?_
  refine E_s (p' := 191) (st' := aI 0 :: _) rfl rfl ?_
  refine E_s (p' := 294) rfl rfl ?_
  refine E_s (p' := 295) (st' := aA 124 :: _) rfl rfl ?_
  refine E_s (p' := 298) (st' := aA 125 :: _) rfl rfl ?_
  refine E_s (p' := 299) (st' := aI 0 :: _) rfl rfl ?_
  refine E_s (p' := 300) (st' := aI 0 :: _) rfl rfl ?_
  refine E_ret rfl rfl ?_
  refine E_s (p' := 1174) rfl rfl ?_
  refine E_s (p' := 1177) (L' := [some (aA 0), some (aA 1), some (aA 124), some (aI 6)]) rfl rfl ?_
  refine E_s (p' := 18) rfl rfl ?_
  refine E_s (p' := 19) (st' := aI 6 :: _) rfl rfl ?_
  refine E_s (p' := 20) (st' := aA 0 :: _) rfl rfl ?_
  refine E_s (p' := 21) (st' := aI 6 :: _) rfl rfl ?_
  refine E_s (p' := 23) (st' := aI 6 :: _) rfl rfl ?_
  refine E_s (p' := 24) (st' := aI 0 :: _) rfl rfl ?_
  refine E_s (p' := 1180) rfl rfl ?_
  refine E_s (p' := 1181) (st' := aI 1 :: _) rfl rfl ?_
  exact E_ret rfl rfl ⟨rfl, rfl⟩
set_option maxRecDepth 100000 in
set_option maxHeartbeats 40000000 in
theorem pc_8_1_1 (xs : Nat → Int) {z a3 a4 a5 : Int} (hz : b32 (fun a b => a &&& b) z 31 = 8) (h0 : xs 0 = z) (h1 : xs 1 = 1) (h2 : xs 2 = 1) (h3 : xs 3 = a3) (h4 : xs 4 = a4) (h5 : xs 5 = a5) : E 0 18 LL [] (s0 xs 6) PQ := by
  refine E_s (p' := 19) (st' := aI 0 :: _) rfl rfl ?_
  refine E_s (p' := 20) (st' := aA 0 :: _) rfl rfl ?_
  refine E_s (p' := 21) (st' := aI 6 :: _) rfl rfl ?_
  refine E_s (p' := 23) (st' := aI 6 :: _) rfl rfl ?_
  refine E_s (p' := 24) (st' := aI 0 :: _) rfl rfl ?_
  refine E_s (p' := 27) rfl rfl ?_
  refine E_s (p' := 28) (st' := aA 0 :: _) rfl rfl ?_
  refine E_s (p' := 29) (st' := aI 0 :: _) rfl rfl ?_
  refine E_scr rfl rfl h0 ?_
  refine E_s (p' := 32) (st' := aI 31 :: _) rfl rfl ?_
  refine E_s (p' := 33) rfl rfl ?_
  refine E_val hz ?_
  refine E_s (p' := 514) rfl rfl ?_
  refine E_s (p' := 515) (st' := aA 1 :: _) rfl rfl ?_
  refine E_s (p' := 516) (st' := aA 0 :: _) rfl rfl ?_
  refine E_s (p' := 517) (st' := aI 0 :: _) rfl rfl ?_
  refine E_s (p' := 518) (st' := aI 1 :: _) rfl rfl ?_
  refine E_s (p' := 519) (st' := aI 1 :: _) rfl rfl ?_
  refine E_scr rfl rfl h1 ?_
  refine E_s (p' := 521) (st' := aA 0 :: _) rfl rfl ?_
  refine E_s (p' := 522) (st' := aI 0 :: _) rfl rfl ?_
  refine E_s (p' := 523) (st' := aI 2 :: _) rfl rfl ?_
  refine E_s (p' := 524) (st' := aI 2 :: _) rfl rfl ?_
  refine E_scr rfl rfl h2 ?_
  refine E_callL (p' := 528) (L0 := [some (aA 1), some (aI 1), some (aI 1), none, none]) rfl rfl rfl ?_
  refine E_s (p' := 1) (st' := aA 1 :: _) rfl rfl ?_
  refine E_s (p' := 2) (st' := aI 1 :: _) rfl rfl ?_
  refine E_callL (p' := 5) (L0 := [some (aA 1), some (aI 1)]) rfl rfl rfl ?_
  refine E_s (p' := 1) (st' := aI 1 :: _) rfl rfl ?_
  refine E_s (p' := 4) rfl rfl ?_
  refine E_s (p' := 5) (st' := aI 1 :: _) rfl rfl ?_
  refine E_s (p' := 6) (st' := aI 4 :: _) rfl rfl ?_
  refine E_s (p' := 9) rfl rfl ?_
  refine E_s (p' := 10) (st' := aA 1 :: _) rfl rfl ?_
  refine E_s (p' := 13) (st' := aA 2 :: _) rfl rfl ?_
  refine E_s (p' := 14) (st' := aI 1 :: _) rfl rfl ?_
  refine E_s (p' := 15) (st' := aA 46 :: _) rfl rfl ?_
  refine E_s (p' := 19) rfl rfl ?_
  refine E_ret rfl rfl ?_
  refine E_s (p' := 6) (L' := [some (aA 1), some (aI 1), some (aI 1), some (aA 46), none]) rfl rfl ?_
  refine E_s (p' := 7) (st' := aA 1 :: _) rfl rfl ?_
  refine E_s (p' := 8) (st' := aI 1 :: _) rfl rfl ?_
  refine E_callL (p' := 11) (L0 := [some (aA 1), some (aI 1)]) rfl rfl rfl ?_
  refine E_s (p' := 1) (st' := aI 1 :: _) rfl rfl ?_
  refine E_s (p' := 4) rfl rfl ?_
  refine E_s (p' := 5) (st' := aI 1 :: _) rfl rfl ?_
  refine E_s (p' := 6) (st' := aI 4 :: _) rfl rfl ?_
  refine E_s (p' := 9) rfl rfl ?_
  refine E_s (p' := 10) (st' := aA 1 :: _) rfl rfl ?_
  refine E_s (p' := 13) (st' := aA 2 :: _) rfl rfl ?_
  refine E_s (p' := 14) (st' := aI 1 :: _) rfl rfl ?_
  refine E_s (p' := 15) (st' := aA 46 :: _) rfl rfl ?_
  refine E_s (p' := 19) rfl rfl ?_
  refine E_ret rfl rfl ?_
  refine E_s (p' := 13) (L' := [some (aA 1), some (aI 1), some (aI 1), some (aA 46), some (aA 46)]) rfl rfl ?_
  refine E_s (p' := 14) (st' := aA 46 :: _) rfl rfl ?_
  refine E_s (p' := 17) rfl rfl ?_
  refine E_s (p' := 19) (st' := aA 46 :: _) rfl rfl ?_
  refine E_s (p' := 25) rfl rfl ?_
  refine E_s (p' := 27) (st' := aA 46 :: _) rfl rfl ?_
  refine E_s (p' := 28) (st' := aA 46 :: _) rfl rfl ?_
  refine E_callL (p' := 31) (L0 := [some (aA 46), some (aA 46), none]) rfl rfl rfl ?_
  refine E_s (p' := 1) (st' := aA 46 :: _) rfl rfl ?_
  refine E_s (p' := 4) (st' := aI 15 :: _) rfl rfl ?_
  refine E_s (p' := 5) (st' := aA 46 :: _) rfl rfl ?_
  refine E_s (p' := 8) (st' := aI 15 :: _) rfl rfl ?_
  refine E_s (p' := 15) rfl rfl ?_
  refine E_s (p' := 16) (st' := aI 0 :: _) rfl rfl ?_
  refine E_s (p' := 17) (L' := [some (aA 46), some (aA 46), some (aI 0)]) rfl rfl ?_
  refine E_s (p' := 18) (st' := aA 46 :: _) rfl rfl ?_
  refine E_s (p' := 19) (st' := aA 46 :: _) rfl rfl ?_
  refine E_s (p' := 22) (st' := aI 15 :: _) rfl rfl ?_
  refine E_stM (p' := 25) (m' := up2 _ 46 5 15) rfl rfl ?_
  refine E_s (p' := 26) (st' := aI 0 :: _) rfl rfl ?_
  refine E_s (p' := 27) (st' := aA 46 :: _) rfl rfl ?_
  refine E_s (p' := 30) (st' := aA 47 :: _) rfl rfl ?_
  refine E_s (p' := 31) (st' := aA 46 :: _) rfl rfl ?_
  refine E_s (p' := 34) (st' := aA 47 :: _) rfl rfl ?_
  refine E_callL (p' := 37) (L0 := [some (aA 47), some (aA 47), none, none]) rfl rfl rfl ?_
  refine E_s (p' := 1) (st' := aA 47 :: _) rfl rfl ?_
  refine E_s (p' := 4) (st' := aI 0 :: _) rfl rfl ?_
  refine E_s (p' := 5) (st' := aA 47 :: _) rfl rfl ?_
  refine E_s (p' := 8) (st' := aI 0 :: _) rfl rfl ?_
  refine E_s (p' := 15) rfl rfl ?_
  refine E_s (p' := 16) (st' := aI 0 :: _) rfl rfl ?_
  refine E_s (p' := 17) (L' := [some (aA 47), some (aA 47), some (aI 0), none]) rfl rfl ?_
  refine E_s (p' := 18) (st' := aA 47 :: _) rfl rfl ?_
  refine E_s (p' := 19) (st' := aA 47 :: _) rfl rfl ?_
  refine E_s (p' := 22) (st' := aI 0 :: _) rfl rfl ?_
  refine E_stM (p' := 25) (m' := up2 _ 47 7 0) rfl rfl ?_
  refine E_s (p' := 26) (st' := aI 0 :: _) rfl rfl ?_
  refine E_s (p' := 27) (st' := aA 47 :: _) rfl rfl ?_
  refine E_s (p' := 30) (st' := aA 48 :: _) rfl rfl ?_
  refine E_s (p' := 31) (st' := aA 47 :: _) rfl rfl ?_
  refine E_s (p' := 34) (st' := aA 48 :: _) rfl rfl ?_
  refine E_s (p' := 35) (st' := aI 0 :: _) rfl rfl ?_
  refine E_s (p' := 36) (st' := aA 47 :: _) rfl rfl ?_
  refine E_s (p' := 39) (st' := aI 0 :: _) rfl rfl ?_
  refine E_callL (p' := 42) (L0 := [some (aA 48), some (aA 48), some (aI 0), some (aI 0), none, none]) rfl rfl rfl ?_
  refine E_s (p' := 1) (st' := aI 0 :: _) rfl rfl ?_
  refine E_s (p' := 3) (L' := [some (aA 48), some (aA 48), some (aI 0), some (aI 0), some (aI 0), none]) rfl rfl ?_
  refine E_s (p' := 4) (st' := aI 0 :: _) rfl rfl ?_
  refine E_s (p' := 6) (L' := [some (aA 48), some (aA 48), some (aI 0), some (aI 0), some (aI 0), some (aI 0)]) rfl rfl ?_
  refine E_s (p' := 8) (st' := aI 0 :: _) rfl rfl ?_
  refine E_s (p' := 9) (st' := aI 0 :: _) rfl rfl ?_
  refine E_s (p' := 10) (st' := aI 0 :: _) rfl rfl ?_
  refine E_s (p' := 11) (st' := aI 0 :: _) rfl rfl ?_
  refine E_s (p' := 49) rfl rfl ?_
  refine E_s (p' := 51) (st' := aI 0 :: _) rfl rfl ?_
  refine E_ret rfl rfl ?_
  refine E_s (p' := 43) (st' := aI 0 :: _) rfl rfl ?_
  refine E_s (p' := 44) (L' := [some (aA 47), some (aA 47), some (aI 0), none]) rfl rfl ?_
  refine E_s (p' := 45) (st' := aI 0 :: _) rfl rfl ?_
  refine E_s (p' := 46) (st' := aA 47 :: _) rfl rfl ?_
  refine E_s (p' := 49) (st' := aA 49 :: _) rfl rfl ?_
  refine E_s (p' := 50) (st' := aA 47 :: _) rfl rfl ?_
  refine E_s (p' := 53) (st' := aA 49 :: _) rfl rfl ?_
  refine E_s (p' := 54) (st' := aI 0 :: _) rfl rfl ?_
  refine E_s (p' := 55) (st' := aA 47 :: _) rfl rfl ?_
  refine E_s (p' := 58) (st' := aI 0 :: _) rfl rfl ?_
  refine E_callL (p' := 61) (L0 := [some (aA 49), some (aA 49), some (aI 0), some (aI 0), none, none]) rfl rfl rfl ?_
  refine E_s (p' := 1) (st' := aI 0 :: _) rfl rfl ?_
  refine E_s (p' := 3) (L' := [some (aA 49), some (aA 49), some (aI 0), some (aI 0), some (aI 0), none]) rfl rfl ?_
  refine E_s (p' := 4) (st' := aI 0 :: _) rfl rfl ?_
  refine E_s (p' := 6) (L' := [some (aA 49), some (aA 49), some (aI 0), some (aI 0), some (aI 0), some (aI 0)]) rfl rfl ?_
  refine E_s (p' := 8) (st' := aI 0 :: _) rfl rfl ?_
  refine E_s (p' := 9) (st' := aI 0 :: _) rfl rfl ?_
  refine E_s (p' := 10) (st' := aI 0 :: _) rfl rfl ?_
  refine E_s (p' := 11) (st' := aI 0 :: _) rfl rfl ?_
  refine E_s (p' := 49) rfl rfl ?_
  refine E_s (p' := 51) (st' := aI 0 :: _) rfl rfl ?_
  refine E_ret rfl rfl ?_
  refine E_s (p' := 62) (st' := aI 0 :: _) rfl rfl ?_
  refine E_s (p' := 63) (L' := [some (aA 47), some (aA 47), some (aI 0), none]) rfl rfl ?_
  refine E_s (p' := 64) (st' := aI 0 :: _) rfl rfl ?_
  refine E_s (p' := 65) (st' := aA 47 :: _) rfl rfl ?_
  refine E_s (p' := 68) (st' := aA 50 :: _) rfl rfl ?_
  refine E_s (p' := 69) (st' := aA 47 :: _) rfl rfl ?_
  refine E_s (p' := 72) (st' := aA 50 :: _) rfl rfl ?_
  refine E_s (p' := 73) (st' := aI 0 :: _) rfl rfl ?_
  refine E_s (p' := 74) (st' := aA 47 :: _) rfl rfl ?_
  refine E_s (p' := 77) (st' := aI 0 :: _) rfl rfl ?_
  refine E_callL (p' := 80) (L0 := [some (aA 50), some (aA 50), some (aI 0), some (aI 0), none, none]) rfl rfl rfl ?_
  refine E_s (p' := 1) (st' := aI 0 :: _) rfl rfl ?_
  refine E_s (p' := 3) (L' := [some (aA 50), some (aA 50), some (aI 0), some (aI 0), some (aI 0), none]) rfl rfl ?_
  refine E_s (p' := 4) (st' := aI 0 :: _) rfl rfl ?_
  refine E_s (p' := 6) (L' := [some (aA 50), some (aA 50), some (aI 0), some (aI 0), some (aI 0), some (aI 0)]) rfl rfl ?_
  refine E_s (p' := 8) (st' := aI 0 :: _) rfl rfl ?_
  refine E_s (p' := 9) (st' := aI 0 :: _) rfl rfl ?_
  refine E_s (p' := 10) (st' := aI 0 :: _) rfl rfl ?_
  refine E_s (p' := 11) (st' := aI 0 :: _) rfl rfl ?_
  refine E_s (p' := 49) rfl rfl ?_
  refine E_s (p' := 51) (st' := aI 0 :: _) rfl rfl ?_
  refine E_ret rfl rfl ?_
  refine E_s (p' := 81) (st' := aI 0 :: _) rfl rfl ?_
  refine E_s (p' := 82) (L' := [some (aA 47), some (aA 47), some (aI 0), none]) rfl rfl ?_
  refine E_s (p' := 83) (st' := aI 0 :: _) rfl rfl ?_
  refine E_s (p' := 84) (st' := aA 47 :: _) rfl rfl ?_
  refine E_s (p' := 87) (st' := aA 51 :: _) rfl rfl ?_
  refine E_s (p' := 88) (st' := aA 47 :: _) rfl rfl ?_
  refine E_s (p' := 91) (st' := aA 51 :: _) rfl rfl ?_
  refine E_s (p' := 92) (st' := aI 0 :: _) rfl rfl ?_
  refine E_s (p' := 93) (st' := aA 47 :: _) rfl rfl ?_
  refine E_s (p' := 96) (st' := aI 0 :: _) rfl rfl ?_
  refine E_callL (p' := 99) (L0 := [some (aA 51), some (aA 51), some (aI 0), some (aI 0), none, none]) rfl rfl rfl ?_
  refine E_s (p' := 1) (st' := aI 0 :: _) rfl rfl ?_
  refine E_s (p' := 3) (L' := [some (aA 51), some (aA 51), some (aI 0), some (aI 0), some (aI 0), none]) rfl rfl ?_
  refine E_s (p' := 4) (st' := aI 0 :: _) rfl rfl ?_
  refine E_s (p' := 6) (L' := [some (aA 51), some (aA 51), some (aI 0), some (aI 0), some (aI 0), some (aI 0)]) rfl rfl ?_
  refine E_s (p' := 8) (st' := aI 0 :: _) rfl rfl ?_
  refine E_s (p' := 9) (st' := aI 0 :: _) rfl rfl ?_
  refine E_s (p' := 10) (st' := aI 0 :: _) rfl rfl ?_
  refine E_s (p' := 11) (st' := aI 0 :: _) rfl rfl ?_
  refine E_s (p' := 49) rfl rfl ?_
  refine E_s (p' := 51) (st' := aI 0 :: _) rfl rfl ?_
  refine E_ret rfl rfl ?_
  refine E_s (p' := 100) (st' := aI 0 :: _) rfl rfl ?_
  refine E_s (p' := 101) (L' := [some (aA 47), some (aA 47), some (aI 0), none]) rfl rfl ?_
  refine E_s (p' := 102) (st' := aI 0 :: _) rfl rfl ?_
  refine E_s (p' := 103) (st' := aA 47 :: _) rfl rfl ?_
  refine E_s (p' := 106) (st' := aA 52 :: _) rfl rfl ?_
  refine E_s (p' := 107) (st' := aA 47 :: _) rfl rfl ?_
  refine E_s (p' := 110) (st' := aA 52 :: _) rfl rfl ?_
  refine E_s (p' := 111) (st' := aI 0 :: _) rfl rfl ?_
  refine E_s (p' := 112) (st' := aA 47 :: _) rfl rfl ?_
  refine E_s (p' := 115) (st' := aI 0 :: _) rfl rfl ?_
  refine E_callL (p' := 118) (L0 := [some (aA 52), some (aA 52), some (aI 0), some (aI 0), none, none]) rfl rfl rfl ?_
  refine E_s (p' := 1) (st' := aI 0 :: _) rfl rfl ?_
  refine E_s (p' := 3) (L' := [some (aA 52), some (aA 52), some (aI 0), some (aI 0), some (aI 0), none]) rfl rfl ?_
  refine E_s (p' := 4) (st' := aI 0 :: _) rfl rfl ?_
  refine E_s (p' := 6) (L' := [some (aA 52), some (aA 52), some (aI 0), some (aI 0), some (aI 0), some (aI 0)]) rfl rfl ?_
  refine E_s (p' := 8) (st' := aI 0 :: _) rfl rfl ?_
  refine E_s (p' := 9) (st' := aI 0 :: _) rfl rfl ?_
  refine E_s (p' := 10) (st' := aI 0 :: _) rfl rfl ?_
  refine E_s (p' := 11) (st' := aI 0 :: _) rfl rfl ?_
  refine E_s (p' := 49) rfl rfl ?_
  refine E_s (p' := 51) (st' := aI 0 :: _) rfl rfl ?_
  refine E_ret rfl rfl ?_
  refine E_s (p' := 119) (st' := aI 0 :: _) rfl rfl ?_
  refine E_s (p' := 120) (L' := [some (aA 47), some (aA 47), some (aI 0), none]) rfl rfl ?_
  refine E_s (p' := 121) (st' := aI 0 :: _) rfl rfl ?_
  refine E_s (p' := 122) (st' := aA 47 :: _) rfl rfl ?_
  refine E_s (p' := 125) (st' := aA 53 :: _) rfl rfl ?_
  refine E_s (p' := 126) (st' := aA 47 :: _) rfl rfl ?_
  refine E_s (p' := 129) (st' := aA 53 :: _) rfl rfl ?_
  refine E_s (p' := 130) (st' := aI 0 :: _) rfl rfl ?_
  refine E_s (p' := 131) (st' := aA 47 :: _) rfl rfl ?_
  refine E_s (p' := 134) (st' := aI 0 :: _) rfl rfl ?_
  refine E_callL (p' := 137) (L0 := [some (aA 53), some (aA 53), some (aI 0), some (aI 0), none, none]) rfl rfl rfl ?_
  refine E_s (p' := 1) (st' := aI 0 :: _) rfl rfl ?_
  refine E_s (p' := 3) (L' := [some (aA 53), some (aA 53), some (aI 0), some (aI 0), some (aI 0), none]) rfl rfl ?_
  refine E_s (p' := 4) (st' := aI 0 :: _) rfl rfl ?_
  refine E_s (p' := 6) (L' := [some (aA 53), some (aA 53), some (aI 0), some (aI 0), some (aI 0), some (aI 0)]) rfl rfl ?_
  refine E_s (p' := 8) (st' := aI 0 :: _) rfl rfl ?_
  refine E_s (p' := 9) (st' := aI 0 :: _) rfl rfl ?_
  refine E_s (p' := 10) (st' := aI 0 :: _) rfl rfl ?_
  refine E_s (p' := 11) (st' := aI 0 :: _) rfl rfl ?_
  refine E_s (p' := 49) rfl rfl ?_
  refine E_s (p' := 51) (st' := aI 0 :: _) rfl rfl ?_
  refine E_ret rfl rfl ?_
  refine E_s (p' := 138) (st' := aI 0 :: _) rfl rfl ?_
  refine E_s (p' := 139) (L' := [some (aA 47), some (aA 47), some (aI 0), none]) rfl rfl ?_
  refine E_s (p' := 140) (st' := aI 0 :: _) rfl rfl ?_
  refine E_s (p' := 141) (L' := [some (aA 47), some (aA 47), some (aI 0), some (aI 0)]) rfl rfl ?_
  refine E_s (p' := 142) (st' := aI 0 :: _) rfl rfl ?_
  refine E_s (p' := 143) (st' := aA 47 :: _) rfl rfl ?_
  refine E_s (p' := 146) (st' := aI 0 :: _) rfl rfl ?_
  refine E_s (p' := 179) rfl rfl ?_
  refine E_s (p' := 180) (st' := aI 0 :: _) rfl rfl ?_
  refine E_ret rfl rfl ?_
  refine E_s (p' := 38) (st' := aI 0 :: _) rfl rfl ?_
  refine E_s (p' := 39) (L' := [some (aA 46), some (aA 46), some (aI 0)]) rfl rfl ?_
  refine E_s (p' := 40) (st' := aI 0 :: _) rfl rfl ?_
  refine E_s (p' := 41) (st' := aA 46 :: _) rfl rfl ?_
  refine E_s (p' := 44) (st' := aA 55 :: _) rfl rfl ?_
  refine E_s (p' := 45) (st' := aA 46 :: _) rfl rfl ?_
  refine E_s (p' := 48) (st' := aA 55 :: _) rfl rfl ?_
  refine E_callL (p' := 51) (L0 := [some (aA 55), some (aA 55), none, none]) rfl rfl rfl ?_
  refine E_s (p' := 1) (st' := aA 55 :: _) rfl rfl ?_
  refine E_s (p' := 4) (st' := aI 0 :: _) rfl rfl ?_
  refine E_s (p' := 5) (st' := aA 55 :: _) rfl rfl ?_
  refine E_s (p' := 8) (st' := aI 0 :: _) rfl rfl ?_
  refine E_s (p' := 15) rfl rfl ?_
  refine E_s (p' := 16) (st' := aI 0 :: _) rfl rfl ?_
  refine E_s (p' := 17) (L' := [some (aA 55), some (aA 55), some (aI 0), none]) rfl rfl ?_
  refine E_s (p' := 18) (st' := aA 55 :: _) rfl rfl ?_
  refine E_s (p' := 19) (st' := aA 55 :: _) rfl rfl ?_
  refine E_s (p' := 22) (st' := aI 0 :: _) rfl rfl ?_
  refine E_stM (p' := 25) (m' := up2 _ 55 3 0) rfl rfl ?_
  refine E_s (p' := 26) (st' := aI 0 :: _) rfl rfl ?_
  refine E_s (p' := 27) (st' := aA 55 :: _) rfl rfl ?_
  refine E_s (p' := 30) (st' := aA 56 :: _) rfl rfl ?_
  refine E_s (p' := 31) (st' := aA 55 :: _) rfl rfl ?_
  refine E_s (p' := 34) (st' := aA 56 :: _) rfl rfl ?_
  refine E_s (p' := 35) (st' := aI 0 :: _) rfl rfl ?_
  refine E_s (p' := 36) (st' := aA 55 :: _) rfl rfl ?_
  refine E_s (p' := 39) (st' := aI 0 :: _) rfl rfl ?_
  refine E_callL (p' := 42) (L0 := [some (aA 56), some (aA 56), some (aI 0), some (aI 0), none, none]) rfl rfl rfl ?_
  refine E_s (p' := 1) (st' := aI 0 :: _) rfl rfl ?_
  refine E_s (p' := 3) (L' := [some (aA 56), some (aA 56), some (aI 0), some (aI 0), some (aI 0), none]) rfl rfl ?_
  refine E_s (p' := 4) (st' := aI 0 :: _) rfl rfl ?_
  refine E_s (p' := 6) (L' := [some (aA 56), some (aA 56), some (aI 0), some (aI 0), some (aI 0), some (aI 0)]) rfl rfl ?_
  refine E_s (p' := 8) (st' := aI 0 :: _) rfl rfl ?_
  refine E_s (p' := 9) (st' := aI 0 :: _) rfl rfl ?_
  refine E_s (p' := 10) (st' := aI 0 :: _) rfl rfl ?_
  refine E_s (p' := 11) (st' := aI 0 :: _) rfl rfl ?_
  refine E_s (p' := 49) rfl rfl ?_
  refine E_s (p' := 51) (st' := aI 0 :: _) rfl rfl ?_
  refine E_ret rfl rfl ?_
  refine E_s (p' := 43) (st' := aI 0 :: _) rfl rfl ?_
  refine E_s (p' := 44) (L' := [some (aA 55), some (aA 55), some (aI 0), none]) rfl rfl ?_
  refine E_s (p' := 45) (st' := aI 0 :: _) rfl rfl ?_
  refine E_s (p' := 46) (st' := aA 55 :: _) rfl rfl ?_
  refine E_s (p' := 49) (st' := aA 57 :: _) rfl rfl ?_
  refine E_s (p' := 50) (st' := aA 55 :: _) rfl rfl ?_
  refine E_s (p' := 53) (st' := aA 57 :: _) rfl rfl ?_
  refine E_s (p' := 54) (st' := aI 0 :: _) rfl rfl ?_
  refine E_s (p' := 55) (st' := aA 55 :: _) rfl rfl ?_
  refine E_s (p' := 58) (st' := aI 0 :: _) rfl rfl ?_
  refine E_callL (p' := 61) (L0 := [some (aA 57), some (aA 57), some (aI 0), some (aI 0), none, none]) rfl rfl rfl ?_
  refine E_s (p' := 1) (st' := aI 0 :: _) rfl rfl ?_
  refine E_s (p' := 3) (L' := [some (aA 57), some (aA 57), some (aI 0), some (aI 0), some (aI 0), none]) rfl rfl ?_
  refine E_s (p' := 4) (st' := aI 0 :: _) rfl rfl ?_
  refine E_s (p' := 6) (L' := [some (aA 57), some (aA 57), some (aI 0), some (aI 0), some (aI 0), some (aI 0)]) rfl rfl ?_
  refine E_s (p' := 8) (st' := aI 0 :: _) rfl rfl ?_
  refine E_s (p' := 9) (st' := aI 0 :: _) rfl rfl ?_
  refine E_s (p' := 10) (st' := aI 0 :: _) rfl rfl ?_
  refine E_s (p' := 11) (st' := aI 0 :: _) rfl rfl ?_
  refine E_s (p' := 49) rfl rfl ?_
  refine E_s (p' := 51) (st' := aI 0 :: _) rfl rfl ?_
  refine E_ret rfl rfl ?_
  refine E_s (p' := 62) (st' := aI 0 :: _) rfl rfl ?_
  refine E_s (p' := 63) (L' := [some (aA 55), some (aA 55), some (aI 0), none]) rfl rfl ?_
  refine E_s (p' := 64) (st' := aI 0 :: _) rfl rfl ?_
  refine E_s (p' := 65) (L' := [some (aA 55), some (aA 55), some (aI 0), some (aI 0)]) rfl rfl ?_
  refine E_s (p' := 66) (st' := aI 0 :: _) rfl rfl ?_
  refine E_s (p' := 67) (st' := aA 55 :: _) rfl rfl ?_
  refine E_s (p' := 70) (st' := aI 0 :: _) rfl rfl ?_
  refine E_s (p' := 103) rfl rfl ?_
  refine E_s (p' := 104) (st' := aI 0 :: _) rfl rfl ?_
  refine E_ret rfl rfl ?_
  refine E_s (p' := 52) (st' := aI 0 :: _) rfl rfl ?_
  refine E_s (p' := 53) (L' := [some (aA 46), some (aA 46), some (aI 0)]) rfl rfl ?_
  refine E_s (p' := 54) (st' := aI 0 :: _) rfl rfl ?_
  refine E_s (p' := 61) rfl rfl ?_
  refine E_ret rfl rfl ?_
  refine E_s (p' := 33) (st' := aA 46 :: _) rfl rfl ?_
  refine E_s (p' := 36) (st' := aA 47 :: _) rfl rfl ?_
  refine E_s (p' := 39) (st' := aI 0 :: _) rfl rfl ?_
  refine E_ret rfl rfl ?_
  refine E_s (p' := 529) (st' := aA 124 :: _) rfl rfl ?_
  refine E_s (p' := 530) (st' := aA 0 :: _) rfl rfl ?_
  refine E_s (p' := 531) (st' := aI 0 :: _) rfl rfl ?_
  refine E_s (p' := 532) (st' := aI 1 :: _) rfl rfl ?_
  refine E_s (p' := 533) (st' := aI 1 :: _) rfl rfl ?_
  refine E_scr rfl rfl h1 ?_
  refine E_s (p' := 535) (st' := aA 0 :: _) rfl rfl ?_
  refine E_s (p' := 536) (st' := aI 0 :: _) rfl rfl ?_
  refine E_s (p' := 537) (st' := aI 2 :: _) rfl rfl ?_
  refine E_s (p' := 538) (st' := aI 2 :: _) rfl rfl ?_
  refine E_scr rfl rfl h2 ?_
  refine E_callL (p' := 542) (L0 := [some (aA 124), some (aI 1), some (aI 1), none, none, none]) rfl rfl rfl ?_
  refine E_s (p' := 1) (st' := aI 1 :: _) rfl rfl ?_
  refine E_callL (p' := 4) (L0 := [some (aI 1)]) rfl rfl rfl ?_
  refine E_s (p' := 1) (st' := aI 1 :: _) rfl rfl ?_
  refine E_s (p' := 2) (st' := aI 0 :: _) rfl rfl ?_
  refine E_s (p' := 3) (st' := aI 3 :: _) rfl rfl ?_
  refine E_callL (p' := 6) (L0 := [some (aI 1), some (aI 0), some (aI 3)]) rfl rfl rfl ?_
  refine E_s (p' := 1) (st' := aI 1 :: _) rfl rfl ?_
  refine E_s (p' := 2) (st' := aI 0 :: _) rfl rfl ?_
  refine E_s (p' := 5) rfl rfl ?_
  refine E_s (p' := 6) (st' := aI 1 :: _) rfl rfl ?_
  refine E_s (p' := 7) (st' := aI 3 :: _) rfl rfl ?_
  refine E_s (p' := 10) rfl rfl ?_
  refine E_s (p' := 11) (st' := aI 1 :: _) rfl rfl ?_
  refine E_s (p' := 15) rfl rfl ?_
  refine E_ret rfl rfl ?_
  refine E_ret rfl rfl ?_
  refine E_s (p' := 7) rfl rfl ?_
  refine E_s (p' := 8) (st' := aI 1 :: _) rfl rfl ?_
  refine E_callL (p' := 11) (L0 := [some (aI 1)]) rfl rfl rfl ?_
  refine E_s (p' := 1) (st' := aI 1 :: _) rfl rfl ?_
  refine E_s (p' := 2) (st' := aI 0 :: _) rfl rfl ?_
  refine E_s (p' := 3) (st' := aI 3 :: _) rfl rfl ?_
  refine E_callL (p' := 6) (L0 := [some (aI 1), some (aI 0), some (aI 3)]) rfl rfl rfl ?_
  refine E_s (p' := 1) (st' := aI 1 :: _) rfl rfl ?_
  refine E_s (p' := 2) (st' := aI 0 :: _) rfl rfl ?_
  refine E_s (p' := 5) rfl rfl ?_
  refine E_s (p' := 6) (st' := aI 1 :: _) rfl rfl ?_
  refine E_s (p' := 7) (st' := aI 3 :: _) rfl rfl ?_
  refine E_s (p' := 10) rfl rfl ?_
  refine E_s (p' := 11) (st' := aI 1 :: _) rfl rfl ?_
  refine E_s (p' := 15) rfl rfl ?_
  refine E_ret rfl rfl ?_
  refine E_ret rfl rfl ?_
  refine E_s (p' := 17) rfl rfl ?_
  refine E_s (p' := 18) (st' := aA 124 :: _) rfl rfl ?_
  refine E_s (p' := 19) (st' := aI 1 :: _) rfl rfl ?_
  refine E_callL (p' := 22) (L0 := [some (aA 124), some (aI 1)]) rfl rfl rfl ?_
  refine E_s (p' := 1) (st' := aA 124 :: _) rfl rfl ?_
  refine E_s (p' := 4) (st' := aA 140 :: _) rfl rfl ?_
  refine E_s (p' := 5) (st' := aI 1 :: _) rfl rfl ?_
  refine E_s (p' := 6) (st' := aI 0 :: _) rfl rfl ?_
  refine E_stM (p' := 7) (m' := up2 _ 140 1 0) rfl rfl ?_
  refine E_ret rfl rfl ?_
  refine E_s (p' := 23) (st' := aI 1 :: _) rfl rfl ?_
  refine E_s (p' := 24) (st' := aI 1 :: _) rfl rfl ?_
  refine E_s (p' := 27) rfl rfl ?_
  refine E_s (p' := 28) (st' := aA 124 :: _) rfl rfl ?_
  refine E_s (p' := 31) (st' := aA 125 :: _) rfl rfl ?_
  refine E_s (p' := 32) (st' := aI 1 :: _) rfl rfl ?_
  refine E_s (p' := 33) (st' := aI 0 :: _) rfl rfl ?_
  refine E_ret rfl rfl ?_
  refine E_s (p' := 1174) rfl rfl ?_
  refine E_s (p' := 1177) (L' := [some (aA 0), some (aA 1), some (aA 124), some (aI 6)]) rfl rfl ?_
  refine E_s (p' := 18) rfl rfl ?_
  refine E_s (p' := 19) (st' := aI 6 :: _) rfl rfl ?_
  refine E_s (p' := 20) (st' := aA 0 :: _) rfl rfl ?_
  refine E_s (p' := 21) (st' := aI 6 :: _) rfl rfl ?_
  refine E_s (p' := 23) (st' := aI 6 :: _) rfl rfl ?_
  refine E_s (p' := 24) (st' := aI 0 :: _) rfl rfl ?_
  refine E_s (p' := 1180) rfl rfl ?_
  refine E_s (p' := 1181) (st' := aI 1 :: _) rfl rfl ?_
  exact E_ret rfl rfl ⟨rfl, rfl⟩
set_option maxRecDepth 100000 in
set_option maxHeartbeats 40000000 in
theorem pc_8_1_2 (xs : Nat → Int) {z a3 a4 a5 : Int} (hz : b32 (fun a b => a &&& b) z 31 = 8) (h0 : xs 0 = z) (h1 : xs 1 = 1) (h2 : xs 2 = 2) (h3 : xs 3 = a3) (h4 : xs 4 = a4) (h5 : xs 5 = a5) : E 0 18 LL [] (s0 xs 6) PQ := by
  refine E_s (p' := 19) (st' := aI 0 :: _) rfl rfl ?_
  refine E_s (p' := 20) (st' := aA 0 :: _) rfl rfl ?_
  refine E_s (p' := 21) (st' := aI 6 :: _) rfl rfl ?_
  refine E_s (p' := 23) (st' := aI 6 :: _) rfl rfl ?_
  refine E_s (p' := 24) (st' := aI 0 :: _) rfl rfl ?_
  refine E_s (p' := 27) rfl rfl ?_
  refine E_s (p' := 28) (st' := aA 0 :: _) rfl rfl ?_
  refine E_s (p' := 29) (st' := aI 0 :: _) rfl rfl ?_
  refine E_scr rfl rfl h0 ?_
  refine E_s (p' := 32) (st' := aI 31 :: _) rfl rfl ?_
  refine E_s (p' := 33) rfl rfl ?_
  refine E_val hz ?_
  refine E_s (p' := 514) rfl rfl ?_
  refine E_s (p' := 515) (st' := aA 1 :: _) rfl rfl ?_
  refine E_s (p' := 516) (st' := aA 0 :: _) rfl rfl ?_
  refine E_s (p' := 517) (st' := aI 0 :: _) rfl rfl ?_
  refine E_s (p' := 518) (st' := aI 1 :: _) rfl rfl ?_
  refine E_s (p' := 519) (st' := aI 1 :: _) rfl rfl ?_
  refine E_scr rfl rfl h1 ?_
  refine E_s (p' := 521) (st' := aA 0 :: _) rfl rfl ?_
  refine E_s (p' := 522) (st' := aI 0 :: _) rfl rfl ?_
  refine E_s (p' := 523) (st' := aI 2 :: _) rfl rfl ?_
  refine E_s (p' := 524) (st' := aI 2 :: _) rfl rfl ?_
  refine E_scr rfl rfl h2 ?_
  refine E_callL (p' := 528) (L0 := [some (aA 1), some (aI 1), some (aI 2), none, none]) rfl rfl rfl ?_
  refine E_s (p' := 1) (st' := aA 1 :: _) rfl rfl ?_
  refine E_s (p' := 2) (st' := aI 1 :: _) rfl rfl ?_
  refine E_callL (p' := 5) (L0 := [some (aA 1), some (aI 1)]) rfl rfl rfl ?_
  refine E_s (p' := 1) (st' := aI 1 :: _) rfl rfl ?_
  refine E_s (p' := 4) rfl rfl ?_
  refine E_s (p' := 5) (st' := aI 1 :: _) rfl rfl ?_
  refine E_s (p' := 6) (st' := aI 4 :: _) rfl rfl ?_
  refine E_s (p' := 9) rfl rfl ?_
  refine E_s (p' := 10) (st' := aA 1 :: _) rfl rfl ?_
  refine E_s (p' := 13) (st' := aA 2 :: _) rfl rfl ?_
  refine E_s (p' := 14) (st' := aI 1 :: _) rfl rfl ?_
  refine E_s (p' := 15) (st' := aA 46 :: _) rfl rfl ?_
  refine E_s (p' := 19) rfl rfl ?_
  refine E_ret rfl rfl ?_
  refine E_s (p' := 6) (L' := [some (aA 1), some (aI 1), some (aI 2), some (aA 46), none]) rfl rfl ?_
  refine E_s (p' := 7) (st' := aA 1 :: _) rfl rfl ?_
  refine E_s (p' := 8) (st' := aI 2 :: _) rfl rfl ?_
  refine E_callL (p' := 11) (L0 := [some (aA 1), some (aI 2)]) rfl rfl rfl ?_
  refine E_s (p' := 1) (st' := aI 2 :: _) rfl rfl ?_
  refine E_s (p' := 4) rfl rfl ?_
  refine E_s (p' := 5) (st' := aI 2 :: _) rfl rfl ?_
  refine E_s (p' := 6) (st' := aI 4 :: _) rfl rfl ?_
  refine E_s (p' := 9) rfl rfl ?_
  refine E_s (p' := 10) (st' := aA 1 :: _) rfl rfl ?_
  refine E_s (p' := 13) (st' := aA 2 :: _) rfl rfl ?_
  refine E_s (p' := 14) (st' := aI 2 :: _) rfl rfl ?_
  refine E_s (p' := 15) (st' := aA 72 :: _) rfl rfl ?_
  refine E_s (p' := 19) rfl rfl ?_
  refine E_ret rfl rfl ?_
  refine E_s (p' := 13) (L' := [some (aA 1), some (aI 1), some (aI 2), some (aA 46), some (aA 72)]) rfl rfl ?_
  refine E_s (p' := 14) (st' := aA 46 :: _) rfl rfl ?_
  refine E_s (p' := 17) rfl rfl ?_
  refine E_s (p' := 19) (st' := aA 72 :: _) rfl rfl ?_
  refine E_s (p' := 25) rfl rfl ?_
  refine E_s (p' := 27) (st' := aA 72 :: _) rfl rfl ?_
  refine E_s (p' := 28) (st' := aA 46 :: _) rfl rfl ?_
  refine E_callL (p' := 31) (L0 := [some (aA 72), some (aA 46), none]) rfl rfl rfl ?_
  refine E_s (p' := 1) (st' := aA 72 :: _) rfl rfl ?_
  refine E_s (p' := 4) (st' := aI 15 :: _) rfl rfl ?_
  refine E_s (p' := 5) (st' := aA 46 :: _) rfl rfl ?_
  refine E_s (p' := 8) (st' := aI 15 :: _) rfl rfl ?_
  refine E_s (p' := 15) rfl rfl ?_
  refine E_s (p' := 16) (st' := aI 0 :: _) rfl rfl ?_
  refine E_s (p' := 17) (L' := [some (aA 72), some (aA 46), some (aI 0)]) rfl rfl ?_
  refine E_s (p' := 18) (st' := aA 72 :: _) rfl rfl ?_
  refine E_s (p' := 19) (st' := aA 46 :: _) rfl rfl ?_
  refine E_s (p' := 22) (st' := aI 15 :: _) rfl rfl ?_
  refine E_stM (p' := 25) (m' := up2 _ 72 5 15) rfl rfl ?_
  refine E_s (p' := 26) (st' := aI 0 :: _) rfl rfl ?_
  refine E_s (p' := 27) (st' := aA 72 :: _) rfl rfl ?_
  refine E_s (p' := 30) (st' := aA 73 :: _) rfl rfl ?_
  refine E_s (p' := 31) (st' := aA 46 :: _) rfl rfl ?_
  refine E_s (p' := 34) (st' := aA 47 :: _) rfl rfl ?_
  refine E_callL (p' := 37) (L0 := [some (aA 73), some (aA 47), none, none]) rfl rfl rfl ?_
  refine E_s (p' := 1) (st' := aA 73 :: _) rfl rfl ?_
  refine E_s (p' := 4) (st' := aI 0 :: _) rfl rfl ?_
  refine E_s (p' := 5) (st' := aA 47 :: _) rfl rfl ?_
  refine E_s (p' := 8) (st' := aI 0 :: _) rfl rfl ?_
  refine E_s (p' := 15) rfl rfl ?_
  refine E_s (p' := 16) (st' := aI 0 :: _) rfl rfl ?_
  refine E_s (p' := 17) (L' := [some (aA 73), some (aA 47), some (aI 0), none]) rfl rfl ?_
  refine E_s (p' := 18) (st' := aA 73 :: _) rfl rfl ?_
  refine E_s (p' := 19) (st' := aA 47 :: _) rfl rfl ?_
  refine E_s (p' := 22) (st' := aI 0 :: _) rfl rfl ?_
  refine E_stM (p' := 25) (m' := up2 _ 73 7 0) rfl rfl ?_
  refine E_s (p' := 26) (st' := aI 0 :: _) rfl rfl ?_
  refine E_s (p' := 27) (st' := aA 73 :: _) rfl rfl ?_
  refine E_s (p' := 30) (st' := aA 74 :: _) rfl rfl ?_
  refine E_s (p' := 31) (st' := aA 47 :: _) rfl rfl ?_
  refine E_s (p' := 34) (st' := aA 48 :: _) rfl rfl ?_
  refine E_s (p' := 35) (st' := aI 0 :: _) rfl rfl ?_
  refine E_s (p' := 36) (st' := aA 73 :: _) rfl rfl ?_
  refine E_s (p' := 39) (st' := aI 0 :: _) rfl rfl ?_
  refine E_callL (p' := 42) (L0 := [some (aA 74), some (aA 48), some (aI 0), some (aI 0), none, none]) rfl rfl rfl ?_
  refine E_s (p' := 1) (st' := aI 0 :: _) rfl rfl ?_
  refine E_s (p' := 3) (L' := [some (aA 74), some (aA 48), some (aI 0), some (aI 0), some (aI 0), none]) rfl rfl ?_
  refine E_s (p' := 4) (st' := aI 0 :: _) rfl rfl ?_
  refine E_s (p' := 6) (L' := [some (aA 74), some (aA 48), some (aI 0), some (aI 0), some (aI 0), some (aI 0)]) rfl rfl ?_
  refine E_s (p' := 8) (st' := aI 0 :: _) rfl rfl ?_
  refine E_s (p' := 9) (st' := aI 0 :: _) rfl rfl ?_
  refine E_s (p' := 10) (st' := aI 0 :: _) rfl rfl ?_
  refine E_s (p' := 11) (st' := aI 0 :: _) rfl rfl ?_
  refine E_s (p' := 49) rfl rfl ?_
  refine E_s (p' := 51) (st' := aI 0 :: _) rfl rfl ?_
  refine E_ret rfl rfl ?_
  refine E_s (p' := 43) (st' := aI 0 :: _) rfl rfl ?_
  refine E_s (p' := 44) (L' := [some (aA 73), some (aA 47), some (aI 0), none]) rfl rfl ?_
  refine E_s (p' := 45) (st' := aI 0 :: _) rfl rfl ?_
  refine E_s (p' := 46) (st' := aA 73 :: _) rfl rfl ?_
  refine E_s (p' := 49) (st' := aA 75 :: _) rfl rfl ?_
  refine E_s (p' := 50) (st' := aA 47 :: _) rfl rfl ?_
  refine E_s (p' := 53) (st' := aA 49 :: _) rfl rfl ?_
  refine E_s (p' := 54) (st' := aI 0 :: _) rfl rfl ?_
  refine E_s (p' := 55) (st' := aA 73 :: _) rfl rfl ?_
  refine E_s (p' := 58) (st' := aI 0 :: _) rfl rfl ?_
  refine E_callL (p' := 61) (L0 := [some (aA 75), some (aA 49), some (aI 0), some (aI 0), none, none]) rfl rfl rfl ?_
  refine E_s (p' := 1) (st' := aI 0 :: _) rfl rfl ?_
  refine E_s (p' := 3) (L' := [some (aA 75), some (aA 49), some (aI 0), some (aI 0), some (aI 0), none]) rfl rfl ?_
  refine E_s (p' := 4) (st' := aI 0 :: _) rfl rfl ?_
  refine E_s (p' := 6) (L' := [some (aA 75), some (aA 49), some (aI 0), some (aI 0), some (aI 0), some (aI 0)]) rfl rfl ?_
  refine E_s (p' := 8) (st' := aI 0 :: _) rfl rfl ?_
  refine E_s (p' := 9) (st' := aI 0 :: _) rfl rfl ?_
  refine E_s (p' := 10) (st' := aI 0 :: _) rfl rfl ?_
  refine E_s (p' := 11) (st' := aI 0 :: _) rfl rfl ?_
  refine E_s (p' := 49) rfl rfl ?_
  refine E_s (p' := 51) (st' := aI 0 :: _) rfl rfl ?_
  refine E_ret rfl rfl ?_
  refine E_s (p' := 62) (st' := aI 0 :: _) rfl rfl ?_
  refine E_s (p' := 63) (L' := [some (aA 73), some (aA 47), some (aI 0), none]) rfl rfl ?_
  refine E_s (p' := 64) (st' := aI 0 :: _) rfl rfl ?_
  refine E_s (p' := 65) (st' := aA 73 :: _) rfl rfl ?_
  refine E_s (p' := 68) (st' := aA 76 :: _) rfl rfl ?_
  refine E_s (p' := 69) (st' := aA 47 :: _) rfl rfl ?_
  refine E_s (p' := 72) (st' := aA 50 :: _) rfl rfl ?_
  refine E_s (p' := 73) (st' := aI 0 :: _) rfl rfl ?_
  refine E_s (p' := 74) (st' := aA 73 :: _) rfl rfl ?_
  refine E_s (p' := 77) (st' := aI 0 :: _) rfl rfl ?_
  refine E_callL (p' := 80) (L0 := [some (aA 76), some (aA 50), some (aI 0), some (aI 0), none, none]) rfl rfl rfl ?_
  refine E_s (p' := 1) (st' := aI 0 :: _) rfl rfl ?_
  refine E_s (p' := 3) (L' := [some (aA 76), some (aA 50), some (aI 0), some (aI 0), some (aI 0), none]) rfl rfl ?_
  refine E_s (p' := 4) (st' := aI 0 :: _) rfl rfl ?_
  refine E_s (p' := 6) (L' := [some (aA 76), some (aA 50), some (aI 0), some (aI 0), some (aI 0), some (aI 0)]) rfl rfl ?_
  refine E_s (p' := 8) (st' := aI 0 :: _) rfl rfl ?_
  refine E_s (p' := 9) (st' := aI 0 :: _) rfl rfl ?_
  refine E_s (p' := 10) (st' := aI 0 :: _) rfl rfl ?_
  refine E_s (p' := 11) (st' := aI 0 :: _) rfl rfl ?_
  refine E_s (p' := 49) rfl rfl ?_
  refine E_s (p' := 51) (st' := aI 0 :: _) rfl rfl ?_
  refine E_ret rfl rfl ?_
  refine E_s (p' := 81) (st' := aI 0 :: _) rfl rfl ?_
  refine E_s (p' := 82) (L' := [some (aA 73), some (aA 47), some (aI 0), none]) rfl rfl ?_
  refine E_s (p' := 83) (st' := aI 0 :: _) rfl rfl ?_
  refine E_s (p' := 84) (st' := aA 73 :: _) rfl rfl ?_
  refine E_s (p' := 87) (st' := aA 77 :: _) rfl rfl ?_
  refine E_s (p' := 88) (st' := aA 47 :: _) rfl rfl ?_
  refine E_s (p' := 91) (st' := aA 51 :: _) rfl rfl ?_
  refine E_s (p' := 92) (st' := aI 0 :: _) rfl rfl ?_
  refine E_s (p' := 93) (st' := aA 73 :: _) rfl rfl ?_
  refine E_s (p' := 96) (st' := aI 0 :: _) rfl rfl ?_
  refine E_callL (p' := 99) (L0 := [some (aA 77), some (aA 51), some (aI 0), some (aI 0), none, none]) rfl rfl rfl ?_
  refine E_s (p' := 1) (st' := aI 0 :: _) rfl rfl ?_
  refine E_s (p' := 3) (L' := [some (aA 77), some (aA 51), some (aI 0), some (aI 0), some (aI 0), none]) rfl rfl ?_
  refine E_s (p' := 4) (st' := aI 0 :: _) rfl rfl ?_
  refine E_s (p' := 6) (L' := [some (aA 77), some (aA 51), some (aI 0), some (aI 0), some (aI 0), some (aI 0)]) rfl rfl ?_
  refine E_s (p' := 8) (st' := aI 0 :: _) rfl rfl ?_
  refine E_s (p' := 9) (st' := aI 0 :: _) rfl rfl ?_
  refine E_s (p' := 10) (st' := aI 0 :: _) rfl rfl ?_
  refine E_s (p' := 11) (st' := aI 0 :: _) rfl rfl ?_
  refine E_s (p' := 49) rfl rfl ?_
  refine E_s (p' := 51) (st' := aI 0 :: _) rfl rfl ?_
  refine E_ret rfl rfl ?_
  refine E_s (p' := 100) (st' := aI 0 :: _) rfl rfl ?_
  refine E_s (p' := 101) (L' := [some (aA 73), some (aA 47), some (aI 0), none]) rfl rfl ?_
  refine E_s (p' := 102) (st' := aI 0 :: _) rfl rfl ?_
  refine E_s (p' := 103) (st' := aA 73 :: _) rfl rfl ?_
  refine E_s (p' := 106) (st' := aA 78 :: _) rfl rfl ?_
  refine E_s (p' := 107) (st' := aA 47 :: _) rfl rfl ?_
  refine E_s (p' := 110) (st' := aA 52 :: _) rfl rfl ?_
  refine E_s (p' := 111) (st' := aI 0 :: _) rfl rfl ?_
  refine E_s (p' := 112) (st' := aA 73 :: _) rfl rfl ?_
  refine E_s (p' := 115) (st' := aI 0 :: _) rfl rfl ?_
  refine E_callL (p' := 118) (L0 := [some (aA 78), some (aA 52), some (aI 0), some (aI 0), none, none]) rfl rfl rfl ?_
  refine E_s (p' := 1) (st' := aI 0 :: _) rfl rfl ?_
  refine E_s (p' := 3) (L' := [some (aA 78), some (aA 52), some (aI 0), some (aI 0), some (aI 0), none]) rfl rfl ?_
  refine E_s (p' := 4) (st' := aI 0 :: _) rfl rfl ?_
  refine E_s (p' := 6) (L' := [some (aA 78), some (aA 52), some (aI 0), some (aI 0), some (aI 0), some (aI 0)]) rfl rfl ?_
  refine E_s (p' := 8) (st' := aI 0 :: _) rfl rfl ?_
  refine E_s (p' := 9) (st' := aI 0 :: _) rfl rfl ?_
  refine E_s (p' := 10) (st' := aI 0 :: _) rfl rfl ?_
  refine E_s (p' := 11) (st' := aI 0 :: _) rfl rfl ?_
  refine E_s (p' := 49) rfl rfl ?_
  refine E_s (p' := 51) (st' := aI 0 :: _) rfl rfl ?_
  refine E_ret rfl rfl ?_
  refine E_s (p' := 119) (st' := aI 0 :: _) rfl rfl ?_
  refine E_s (p' := 120) (L' := [some (aA 73), some (aA 47), some (aI 0), none]) rfl rfl ?_
  refine E_s (p' := 121) (st' := aI 0 :: _) rfl rfl ?_
  refine E_s (p' := 122) (st' := aA 73 :: _) rfl rfl ?_
  refine E_s (p' := 125) (st' := aA 79 :: _) rfl rfl ?_
  refine E_s (p' := 126) (st' := aA 47 :: _) rfl rfl ?_
  refine E_s (p' := 129) (st' := aA 53 :: _) rfl rfl ?_
  refine E_s (p' := 130) (st' := aI 0 :: _) rfl rfl ?_
  refine E_s (p' := 131) (st' := aA 73 :: _) rfl rfl ?_
  refine E_s (p' := 134) (st' := aI 0 :: _) rfl rfl ?_
  refine E_callL (p' := 137) (L0 := [some (aA 79), some (aA 53), some (aI 0), some (aI 0), none, none]) rfl rfl rfl ?_
  refine E_s (p' := 1) (st' := aI 0 :: _) rfl rfl ?_
  refine E_s (p' := 3) (L' := [some (aA 79), some (aA 53), some (aI 0), some (aI 0), some (aI 0), none]) rfl rfl ?_
  refine E_s (p' := 4) (st' := aI 0 :: _) rfl rfl ?_
  refine E_s (p' := 6) (L' := [some (aA 79), some (aA 53), some (aI 0), some (aI 0), some (aI 0), some (aI 0)]) rfl rfl ?_
  refine E_s (p' := 8) (st' := aI 0 :: _) rfl rfl ?_
  refine E_s (p' := 9) (st' := aI 0 :: _) rfl rfl ?_
  refine E_s (p' := 10) (st' := aI 0 :: _) rfl rfl ?_
  refine E_s (p' := 11) (st' := aI 0 :: _) rfl rfl ?_
  refine E_s (p' := 49) rfl rfl ?_
  refine E_s (p' := 51) (st' := aI 0 :: _) rfl rfl ?_
  refine E_ret rfl rfl ?_
  refine E_s (p' := 138) (st' := aI 0 :: _) rfl rfl ?_
  refine E_s (p' := 139) (L' := [some (aA 73), some (aA 47), some (aI 0), none]) rfl rfl ?_
  refine E_s (p' := 140) (st' := aI 0 :: _) rfl rfl ?_
  refine E_s (p' := 141) (L' := [some (aA 73), some (aA 47), some (aI 0), some (aI 0)]) rfl rfl ?_
  refine E_s (p' := 142) (st' := aI 0 :: _) rfl rfl ?_
  refine E_s (p' := 143) (st' := aA 73 :: _) rfl rfl ?_
  refine E_s (p' := 146) (st' := aI 0 :: _) rfl rfl ?_
  refine E_s (p' := 179) rfl rfl ?_
  refine E_s (p' := 180) (st' := aI 0 :: _) rfl rfl ?_
  refine E_ret rfl rfl ?_
  refine E_s (p' := 38) (st' := aI 0 :: _) rfl rfl ?_
  refine E_s (p' := 39) (L' := [some (aA 72), some (aA 46), some (aI 0)]) rfl rfl ?_
  refine E_s (p' := 40) (st' := aI 0 :: _) rfl rfl ?_
  refine E_s (p' := 41) (st' := aA 72 :: _) rfl rfl ?_
  refine E_s (p' := 44) (st' := aA 81 :: _) rfl rfl ?_
  refine E_s (p' := 45) (st' := aA 46 :: _) rfl rfl ?_
  refine E_s (p' := 48) (st' := aA 55 :: _) rfl rfl ?_
  refine E_callL (p' := 51) (L0 := [some (aA 81), some (aA 55), none, none]) rfl rfl rfl ?_
  refine E_s (p' := 1) (st' := aA 81 :: _) rfl rfl ?_
  refine E_s (p' := 4) (st' := aI 0 :: _) rfl rfl ?_
  refine E_s (p' := 5) (st' := aA 55 :: _) rfl rfl ?_
  refine E_s (p' := 8) (st' := aI 0 :: _) rfl rfl ?_
  refine E_s (p' := 15) rfl rfl ?_
  refine E_s (p' := 16) (st' := aI 0 :: _) rfl rfl ?_
  refine E_s (p' := 17) (L' := [some (aA 81), some (aA 55), some (aI 0), none]) rfl rfl ?_
  refine E_s (p' := 18) (st' := aA 81 :: _) rfl rfl ?_
  refine E_s (p' := 19) (st' := aA 55 :: _) rfl rfl ?_
  refine E_s (p' := 22) (st' := aI 0 :: _) rfl rfl ?_
  refine E_stM (p' := 25) (m' := up2 _ 81 3 0) rfl rfl ?_
  refine E_s (p' := 26) (st' := aI 0 :: _) rfl rfl ?_
  refine E_s (p' := 27) (st' := aA 81 :: _) rfl rfl ?_
  refine E_s (p' := 30) (st' := aA 82 :: _) rfl rfl ?_
  refine E_s (p' := 31) (st' := aA 55 :: _) rfl rfl ?_
  refine E_s (p' := 34) (st' := aA 56 :: _) rfl rfl ?_
  refine E_s (p' := 35) (st' := aI 0 :: _) rfl rfl ?_
  refine E_s (p' := 36) (st' := aA 81 :: _) rfl rfl ?_
  refine E_s (p' := 39) (st' := aI 0 :: _) rfl rfl ?_
  refine E_callL (p' := 42) (L0 := [some (aA 82), some (aA 56), some (aI 0), some (aI 0), none, none]) rfl rfl rfl ?_
  refine E_s (p' := 1) (st' := aI 0 :: _) rfl rfl ?_
  refine E_s (p' := 3) (L' := [some (aA 82), some (aA 56), some (aI 0), some (aI 0), some (aI 0), none]) rfl rfl ?_
  refine E_s (p' := 4) (st' := aI 0 :: _) rfl rfl ?_
  refine E_s (p' := 6) (L' := [some (aA 82), some (aA 56), some (aI 0), some (aI 0), some (aI 0), some (aI 0)]) rfl rfl ?_
  refine E_s (p' := 8) (st' := aI 0 :: _) rfl rfl ?_
  refine E_s (p' := 9) (st' := aI 0 :: _) rfl rfl ?_
  refine E_s (p' := 10) (st' := aI 0 :: _) rfl rfl ?_
  refine E_s (p' := 11) (st' := aI 0 :: _) rfl rfl ?_
  refine E_s (p' := 49) rfl rfl ?_
  refine E_s (p' := 51) (st' := aI 0 :: _) rfl rfl ?_
  refine E_ret rfl rfl ?_
  refine E_s (p' := 43) (st' := aI 0 :: _) rfl rfl ?_
  refine E_s (p' := 44) (L' := [some (aA 81), some (aA 55), some (aI 0), none]) rfl rfl ?_
  refine E_s (p' := 45) (st' := aI 0 :: _) rfl rfl ?_
  refine E_s (p' := 46) (st' := aA 81 :: _) rfl rfl ?_
  refine E_s (p' := 49) (st' := aA 83 :: _) rfl rfl ?_
  refine E_s (p' := 50) (st' := aA 55 :: _) rfl rfl ?_
  refine E_s (p' := 53) (st' := aA 57 :: _) rfl rfl ?_
  refine E_s (p' := 54) (st' := aI 0 :: _) rfl rfl ?_
  refine E_s (p' := 55) (st' := aA 81 :: _) rfl rfl ?_
  refine E_s (p' := 58) (st' := aI 0 :: _) rfl rfl ?_
  refine E_callL (p' := 61) (L0 := [some (aA 83), some (aA 57), some (aI 0), some (aI 0), none, none]) rfl rfl rfl ?_
  refine E_s (p' := 1) (st' := aI 0 :: _) rfl rfl ?_
  refine E_s (p' := 3) (L' := [some (aA 83), some (aA 57), some (aI 0), some (aI 0), some (aI 0), none]) rfl rfl ?_
  refine E_s (p' := 4) (st' := aI 0 :: _) rfl rfl ?_
  refine E_s (p' := 6) (L' := [some (aA 83), some (aA 57), some (aI 0), some (aI 0), some (aI 0), some (aI 0)]) rfl rfl ?_
  refine E_s (p' := 8) (st' := aI 0 :: _) rfl rfl ?_
  refine E_s (p' := 9) (st' := aI 0 :: _) rfl rfl ?_
  refine E_s (p' := 10) (st' := aI 0 :: _) rfl rfl ?_
  refine E_s (p' := 11) (st' := aI 0 :: _) rfl rfl ?_
  refine E_s (p' := 49) rfl rfl ?_
  refine E_s (p' := 51) (st' := aI 0 :: _) rfl rfl ?_
  refine E_ret rfl rfl ?_
  refine E_s (p' := 62) (st' := aI 0 :: _) rfl rfl ?_
  refine E_s (p' := 63) (L' := [some (aA 81), some (aA 55), some (aI 0), none]) rfl rfl ?_
  refine E_s (p' := 64) (st' := aI 0 :: _) rfl rfl ?_
  refine E_s (p' := 65) (L' := [some (aA 81), some (aA 55), some (aI 0), some (aI 0)]) rfl rfl ?_
  refine E_s (p' := 66) (st' := aI 0 :: _) rfl rfl ?_
  refine E_s (p' := 67) (st' := aA 81 :: _) rfl rfl ?_
  refine E_s (p' := 70) (st' := aI 0 :: _) rfl rfl ?_
  refine E_s (p' := 103) rfl rfl ?_
  refine E_s (p' := 104) (st' := aI 0 :: _) rfl rfl ?_
  refine E_ret rfl rfl ?_
  refine E_s (p' := 52) (st' := aI 0 :: _) rfl rfl ?_
  refine E_s (p' := 53) (L' := [some (aA 72), some (aA 46), some (aI 0)]) rfl rfl ?_
  refine E_s (p' := 54) (st' := aI 0 :: _) rfl rfl ?_
  refine E_s (p' := 61) rfl rfl ?_
  refine E_ret rfl rfl ?_
  refine E_s (p' := 33) (st' := aA 72 :: _) rfl rfl ?_
  refine E_s (p' := 36) (st' := aA 73 :: _) rfl rfl ?_
  refine E_s (p' := 39) (st' := aI 0 :: _) rfl rfl ?_
  refine E_ret rfl rfl ?_
  refine E_s (p' := 529) (st' := aA 124 :: _) rfl rfl ?_
  refine E_s (p' := 530) (st' := aA 0 :: _) rfl rfl ?_
  refine E_s (p' := 531) (st' := aI 0 :: _) rfl rfl ?_
  refine E_s (p' := 532) (st' := aI 1 :: _) rfl rfl ?_
  refine E_s (p' := 533) (st' := aI 1 :: _) rfl rfl ?_
  refine E_scr rfl rfl h1 ?_
  refine E_s (p' := 535) (st' := aA 0 :: _) rfl rfl ?_
  refine E_s (p' := 536) (st' := aI 0 :: _) rfl rfl ?_
  refine E_s (p' := 537) (st' := aI 2 :: _) rfl rfl ?_
  refine E_s (p' := 538) (st' := aI 2 :: _) rfl rfl ?_
  refine E_scr rfl rfl h2 ?_
  refine E_callL (p' := 542) (L0 := [some (aA 124), some (aI 1), some (aI 2), none, none, none]) rfl rfl rfl ?_
  refine E_s (p' := 1) (st' := aI 1 :: _) rfl rfl ?_
  refine E_callL (p' := 4) (L0 := [some (aI 1)]) rfl rfl rfl ?_
  refine E_s (p' := 1) (st' := aI 1 :: _) rfl rfl ?_
  refine E_s (p' := 2) (st' := aI 0 :: _) rfl rfl ?_
  refine E_s (p' := 3) (st' := aI 3 :: _) rfl rfl ?_
  refine E_callL (p' := 6) (L0 := [some (aI 1), some (aI 0), some (aI 3)]) rfl rfl rfl ?_
  refine E_s (p' := 1) (st' := aI 1 :: _) rfl rfl ?_
  refine E_s (p' := 2) (st' := aI 0 :: _) rfl rfl ?_
  refine E_s (p' := 5) rfl rfl ?_
  refine E_s (p' := 6) (st' := aI 1 :: _) rfl rfl ?_
  refine E_s (p' := 7) (st' := aI 3 :: _) rfl rfl ?_
  refine E_s (p' := 10) rfl rfl ?_
  refine E_s (p' := 11) (st' := aI 1 :: _) rfl rfl ?_
  refine E_s (p' := 15) rfl rfl ?_
  refine E_ret rfl rfl ?_
  refine E_ret rfl rfl ?_
  refine E_s (p' := 7) rfl rfl ?_
  refine E_s (p' := 8) (st' := aI 2 :: _) rfl rfl ?_
  refine E_callL (p' := 11) (L0 := [some (aI 2)]) rfl rfl rfl ?_
  refine E_s (p' := 1) (st' := aI 2 :: _) rfl rfl ?_
  refine E_s (p' := 2) (st' := aI 0 :: _) rfl rfl ?_
  refine E_s (p' := 3) (st' := aI 3 :: _) rfl rfl ?_
  refine E_callL (p' := 6) (L0 := [some (aI 2), some (aI 0), some (aI 3)]) rfl rfl rfl ?_
  refine E_s (p' := 1) (st' := aI 2 :: _) rfl rfl ?_
  refine E_s (p' := 2) (st' := aI 0 :: _) rfl rfl ?_
  refine E_s (p' := 5) rfl rfl ?_
  refine E_s (p' := 6) (st' := aI 2 :: _) rfl rfl ?_
  refine E_s (p' := 7) (st' := aI 3 :: _) rfl rfl ?_
  refine E_s (p' := 10) rfl rfl ?_
  refine E_s (p' := 11) (st' := aI 1 :: _) rfl rfl ?_
  refine E_s (p' := 15) rfl rfl ?_
  refine E_ret rfl rfl ?_
  refine E_ret rfl rfl ?_
  refine E_s (p' := 17) rfl rfl ?_
  refine E_s (p' := 18) (st' := aA 124 :: _) rfl rfl ?_
  refine E_s (p' := 19) (st' := aI 2 :: _) rfl rfl ?_
  refine E_callL (p' := 22) (L0 := [some (aA 124), some (aI 2)]) rfl rfl rfl ?_
  refine E_s (p' := 1) (st' := aA 124 :: _) rfl rfl ?_
  refine E_s (p' := 4) (st' := aA 140 :: _) rfl rfl ?_
  refine E_s (p' := 5) (st' := aI 2 :: _) rfl rfl ?_
  refine E_s (p' := 6) (st' := aI 0 :: _) rfl rfl ?_
  refine E_stM (p' := 7) (m' := up2 _ 140 2 0) rfl rfl ?_
  refine E_ret rfl rfl ?_
  refine E_s (p' := 23) (st' := aI 1 :: _) rfl rfl ?_
  refine E_s (p' := 24) (st' := aI 2 :: _) rfl rfl ?_
  refine E_s (p' := 34) rfl rfl ?_
  refine E_s (p' := 35) (st' := aA 124 :: _) rfl rfl ?_
  refine E_s (p' := 38) (st' := aA 125 :: _) rfl rfl ?_
  refine E_s (p' := 39) (st' := aI 2 :: _) rfl rfl ?_
  refine E_s (p' := 40) (st' := aA 124 :: _) rfl rfl ?_
  refine E_s (p' := 43) (st' := aA 125 :: _) rfl rfl ?_
  refine E_s (p' := 44) (st' := aI 1 :: _) rfl rfl ?_
  refine E_s (p' := 45) (st' := aI 0 :: _) rfl rfl ?_
  refine E_stM (p' := 46) (m' := up2 _ 125 2 0) rfl rfl ?_
  refine E_s (p' := 47) (st' := aA 124 :: _) rfl rfl ?_
  refine E_s (p' := 50) (st' := aA 126 :: _) rfl rfl ?_
  refine E_s (p' := 51) (st' := aI 2 :: _) rfl rfl ?_
  refine E_s (p' := 52) (st' := aA 124 :: _) rfl rfl ?_
  refine E_s (p' := 55) (st' := aA 126 :: _) rfl rfl ?_
  refine E_s (p' := 56) (st' := aI 1 :: _) rfl rfl ?_
  refine E_s (p' := 57) (st' := aI 15 :: _) rfl rfl ?_
  refine E_stM (p' := 58) (m' := up2 _ 126 2 15) rfl rfl ?_
  refine E_s (p' := 59) (st' := aA 124 :: _) rfl rfl ?_
  refine E_s (p' := 62) (st' := aA 136 :: _) rfl rfl ?_
  refine E_s (p' := 63) (st' := aI 2 :: _) rfl rfl ?_
  refine E_s (p' := 64) (st' := aA 124 :: _) rfl rfl ?_
  refine E_s (p' := 67) (st' := aA 136 :: _) rfl rfl ?_
  refine E_s (p' := 68) (st' := aI 1 :: _) rfl rfl ?_
  refine E_s (p' := 69) (st' := aI 0 :: _) rfl rfl ?_
  refine E_stM (p' := 70) (m' := up2 _ 136 2 0) rfl rfl ?_
  refine E_s (p' := 71) (st' := aI 0 :: _) rfl rfl ?_
  refine E_s (p' := 72) (L' := [some (aA 124), some (aI 1), some (aI 2), some (aI 0), none, none]) rfl rfl ?_
  refine E_s (p' := 73) (st' := aI 0 :: _) rfl rfl ?_
  refine E_s (p' := 74) (st' := aA 124 :: _) rfl rfl ?_
  refine E_s (p' := 77) (st' := aA 125 :: _) rfl rfl ?_
  refine E_s (p' := 78) (st' := aI 1 :: _) rfl rfl ?_
  refine E_s (p' := 79) (st' := aI 0 :: _) rfl rfl ?_
  refine E_s (p' := 182) rfl rfl ?_
  refine E_s (p' := 183) (st' := aI 0 :: _) rfl rfl ?_
  refine E_s (p' := 184) (L' := [some (aA 124), some (aI 1), some (aI 2), some (aI 0), none, none]) rfl rfl ?_
  refine E_s (p' := 185) (st' := aI 0 :: _) rfl rfl ?_
  refine E_s (p' := 186) (st' := aA 124 :: _) rfl rfl ?_
  refine E_s (p' := 189) (st' := aA 136 :: _) rfl rfl ?_
  refine E_s (p' := 190) (st' := aI 1 :: _) rfl rfl ?_
  refine E_s (p' := 191) (st' := aI 0 :: _) rfl rfl ?_
  refine E_s (p' := 294) rfl rfl ?_
  refine E_s (p' := 295) (st' := aA 124 :: _) rfl rfl ?_
  refine E_s (p' := 298) (st' := aA 125 :: _) rfl rfl ?_
  refine E_s (p' := 299) (st' := aI 2 :: _) rfl rfl ?_
  refine E_s (p' := 300) (st' := aI 0 :: _) rfl rfl ?_
  refine E_ret rfl rfl ?_
  refine E_s (p' := 1174) rfl rfl ?_
  refine E_s (p' := 1177) (L' := [some (aA 0), some (aA 1), some (aA 124), some (aI 6)]) rfl rfl ?_
  refine E_s (p' := 18) rfl rfl ?_
  refine E_s (p' := 19) (st' := aI 6 :: _) rfl rfl ?_
  refine E_s (p' := 20) (st' := aA 0 :: _) rfl rfl ?_
  refine E_s (p' := 21) (st' := aI 6 :: _) rfl rfl ?_
  refine E_s (p' := 23) (st' := aI 6 :: _) rfl rfl ?_
  refine E_s (p' := 24) (st' := aI 0 :: _) rfl rfl ?_
  refine E_s (p' := 1180) rfl rfl ?_
  refine E_s (p' := 1181) (st' := aI 1 :: _) rfl rfl ?_
  exact E_ret rfl rfl ⟨rfl, rfl⟩
set_option maxRecDepth 100000 in
set_option maxHeartbeats 40000000 in
theorem pc_8_1_3 (xs : Nat → Int) {z a3 a4 a5 : Int} (hz : b32 (fun a b => a &&& b) z 31 = 8) (h0 : xs 0 = z) (h1 : xs 1 = 1) (h2 : xs 2 = 3) (h3 : xs 3 = a3) (h4 : xs 4 = a4) (h5 : xs 5 = a5) : E 0 18 LL [] (s0 xs 6) PQ := by
  refine E_s (p' := 19) (st' := aI 0 :: _) rfl rfl ?_
  refine E_s (p' := 20) (st' := aA 0 :: _) rfl rfl ?_
  refine E_s (p' := 21) (st' := aI 6 :: _) rfl rfl ?_
  refine E_s (p' := 23) (st' := aI 6 :: _) rfl rfl ?_
  refine E_s (p' := 24) (st' := aI 0 :: _) rfl rfl ?_
  refine E_s (p' := 27) rfl rfl ?_
  refine E_s (p' := 28) (st' := aA 0 :: _) rfl rfl ?_
  refine E_s (p' := 29) (st' := aI 0 :: _) rfl rfl ?_
  refine E_scr rfl rfl h0 ?_
  refine E_s (p' := 32) (st' := aI 31 :: _) rfl rfl ?_
  refine E_s (p' := 33) rfl rfl ?_
  refine E_val hz ?_
  refine E_s (p' := 514) rfl rfl ?_
  refine E_s (p' := 515) (st' := aA 1 :: _) rfl rfl ?_
  refine E_s (p' := 516) (st' := aA 0 :: _) rfl rfl ?_
  refine E_s (p' := 517) (st' := aI 0 :: _) rfl rfl ?_
  refine E_s (p' := 518) (st' := aI 1 :: _) rfl rfl ?_
  refine E_s (p' := 519) (st' := aI 1 :: _) rfl rfl ?_
  refine E_scr rfl rfl h1 ?_
  refine E_s (p' := 521) (st' := aA 0 :: _) rfl rfl ?_
  refine E_s (p' := 522) (st' := aI 0 :: _) rfl rfl ?_
  refine E_s (p' := 523) (st' := aI 2 :: _) rfl rfl ?_
  refine E_s (p' := 524) (st' := aI 2 :: _) rfl rfl ?_
  refine E_scr rfl rfl h2 ?_
  refine E_callL (p' := 528) (L0 := [some (aA 1), some (aI 1), some (aI 3), none, none]) rfl rfl rfl ?_
  refine E_s (p' := 1) (st' := aA 1 :: _) rfl rfl ?_
  refine E_s (p' := 2) (st' := aI 1 :: _) rfl rfl ?_
  refine E_callL (p' := 5) (L0 := [some (aA 1), some (aI 1)]) rfl rfl rfl ?_
  refine E_s (p' := 1) (st' := aI 1 :: _) rfl rfl ?_
  refine E_s (p' := 4) rfl rfl ?_
  refine E_s (p' := 5) (st' := aI 1 :: _) rfl rfl ?_
  refine E_s (p' := 6) (st' := aI 4 :: _) rfl rfl ?_
  refine E_s (p' := 9) rfl rfl ?_
  refine E_s (p' := 10) (st' := aA 1 :: _) rfl rfl ?_
  refine E_s (p' := 13) (st' := aA 2 :: _) rfl rfl ?_
  refine E_s (p' := 14) (st' := aI 1 :: _) rfl rfl ?_
  refine E_s (p' := 15) (st' := aA 46 :: _) rfl rfl ?_
  refine E_s (p' := 19) rfl rfl ?_
  refine E_ret rfl rfl ?_
  refine E_s (p' := 6) (L' := [some (aA 1), some (aI 1), some (aI 3), some (aA 46), none]) rfl rfl ?_
  refine E_s (p' := 7) (st' := aA 1 :: _) rfl rfl ?_
  refine E_s (p' := 8) (st' := aI 3 :: _) rfl rfl ?_
  refine E_callL (p' := 11) (L0 := [some (aA 1), some (aI 3)]) rfl rfl rfl ?_
  refine E_s (p' := 1) (st' := aI 3 :: _) rfl rfl ?_
  refine E_s (p' := 4) rfl rfl ?_
  refine E_s (p' := 5) (st' := aI 3 :: _) rfl rfl ?_
  refine E_s (p' := 6) (st' := aI 4 :: _) rfl rfl ?_
  refine E_s (p' := 9) rfl rfl ?_
  refine E_s (p' := 10) (st' := aA 1 :: _) rfl rfl ?_
  refine E_s (p' := 13) (st' := aA 2 :: _) rfl rfl ?_
  refine E_s (p' := 14) (st' := aI 3 :: _) rfl rfl ?_
  refine E_s (p' := 15) (st' := aA 98 :: _) rfl rfl ?_
  refine E_s (p' := 19) rfl rfl ?_
  refine E_ret rfl rfl ?_
  refine E_s (p' := 13) (L' := [some (aA 1), some (aI 1), some (aI 3), some (aA 46), some (aA 98)]) rfl rfl ?_
  refine E_s (p' := 14) (st' := aA 46 :: _) rfl rfl ?_
  refine E_s (p' := 17) rfl rfl ?_
  refine E_s (p' := 19) (st' := aA 98 :: _) rfl rfl ?_
  refine E_s (p' := 25) rfl rfl ?_
  refine E_s (p' := 27) (st' := aA 98 :: _) rfl rfl ?_
  refine E_s (p' := 28) (st' := aA 46 :: _) rfl rfl ?_
  refine E_callL (p' := 31) (L0 := [some (aA 98), some (aA 46), none]) rfl rfl rfl ?_
  refine E_s (p' := 1) (st' := aA 98 :: _) rfl rfl ?_
  refine E_s (p' := 4) (st' := aI 15 :: _) rfl rfl ?_
  refine E_s (p' := 5) (st' := aA 46 :: _) rfl rfl ?_
  refine E_s (p' := 8) (st' := aI 15 :: _) rfl rfl ?_
  refine E_s (p' := 15) rfl rfl ?_
  refine E_s (p' := 16) (st' := aI 0 :: _) rfl rfl ?_
  refine E_s (p' := 17) (L' := [some (aA 98), some (aA 46), some (aI 0)]) rfl rfl ?_
  refine E_s (p' := 18) (st' := aA 98 :: _) rfl rfl ?_
  refine E_s (p' := 19) (st' := aA 46 :: _) rfl rfl ?_
  refine E_s (p' := 22) (st' := aI 15 :: _) rfl rfl ?_
  refine E_stM (p' := 25) (m' := up2 _ 98 5 15) rfl rfl ?_
  refine E_s (p' := 26) (st' := aI 0 :: _) rfl rfl ?_
  refine E_s (p' := 27) (st' := aA 98 :: _) rfl rfl ?_
  refine E_s (p' := 30) (st' := aA 99 :: _) rfl rfl ?_
  refine E_s (p' := 31) (st' := aA 46 :: _) rfl rfl ?_
  refine E_s (p' := 34) (st' := aA 47 :: _) rfl rfl ?_
  refine E_callL (p' := 37) (L0 := [some (aA 99), some (aA 47), none, none]) rfl rfl rfl ?_
  refine E_s (p' := 1) (st' := aA 99 :: _) rfl rfl ?_
  refine E_s (p' := 4) (st' := aI 0 :: _) rfl rfl ?_
  refine E_s (p' := 5) (st' := aA 47 :: _) rfl rfl ?_
  refine E_s (p' := 8) (st' := aI 0 :: _) rfl rfl ?_
  refine E_s (p' := 15) rfl rfl ?_
  refine E_s (p' := 16) (st' := aI 0 :: _) rfl rfl ?_
  refine E_s (p' := 17) (L' := [some (aA 99), some (aA 47), some (aI 0), none]) rfl rfl ?_
  refine E_s (p' := 18) (st' := aA 99 :: _) rfl rfl ?_
  refine E_s (p' := 19) (st' := aA 47 :: _) rfl rfl ?_
  refine E_s (p' := 22) (st' := aI 0 :: _) rfl rfl ?_
  refine E_stM (p' := 25) (m' := up2 _ 99 7 0) rfl rfl ?_
  refine E_s (p' := 26) (st' := aI 0 :: _) rfl rfl ?_
  refine E_s (p' := 27) (st' := aA 99 :: _) rfl rfl ?_
  refine E_s (p' := 30) (st' := aA 100 :: _) rfl rfl ?_
  refine E_s (p' := 31) (st' := aA 47 :: _) rfl rfl ?_
  refine E_s (p' := 34) (st' := aA 48 :: _) rfl rfl ?_
  refine E_s (p' := 35) (st' := aI 0 :: _) rfl rfl ?_
  refine E_s (p' := 36) (st' := aA 99 :: _) rfl rfl ?_
  refine E_s (p' := 39) (st' := aI 0 :: _) rfl rfl ?_
  refine E_callL (p' := 42) (L0 := [some (aA 100), some (aA 48), some (aI 0), some (aI 0), none, none]) rfl rfl rfl ?_
  refine E_s (p' := 1) (st' := aI 0 :: _) rfl rfl ?_
  refine E_s (p' := 3) (L' := [some (aA 100), some (aA 48), some (aI 0), some (aI 0), some (aI 0), none]) rfl rfl ?_
  refine E_s (p' := 4) (st' := aI 0 :: _) rfl rfl ?_
  refine E_s (p' := 6) (L' := [some (aA 100), some (aA 48), some (aI 0), some (aI 0), some (aI 0), some (aI 0)]) rfl rfl ?_
  refine E_s (p' := 8) (st' := aI 0 :: _) rfl rfl ?_
  refine E_s (p' := 9) (st' := aI 0 :: _) rfl rfl ?_
  refine E_s (p' := 10) (st' := aI 0 :: _) rfl rfl ?_
  refine E_s (p' := 11) (st' := aI 0 :: _) rfl rfl ?_
  refine E_s (p' := 49) rfl rfl ?_
  refine E_s (p' := 51) (st' := aI 0 :: _) rfl rfl ?_
  refine E_ret rfl rfl ?_
  refine E_s (p' := 43) (st' := aI 0 :: _) rfl rfl ?_
  refine E_s (p' := 44) (L' := [some (aA 99), some (aA 47), some (aI 0), none]) rfl rfl ?_
  refine E_s (p' := 45) (st' := aI 0 :: _) rfl rfl ?_
  refine E_s (p' := 46) (st' := aA 99 :: _) rfl rfl ?_
  refine E_s (p' := 49) (st' := aA 101 :: _) rfl rfl ?_
  refine E_s (p' := 50) (st' := aA 47 :: _) rfl rfl ?_
  refine E_s (p' := 53) (st' := aA 49 :: _) rfl rfl ?_
  refine E_s (p' := 54) (st' := aI 0 :: _) rfl rfl ?_
  refine E_s (p' := 55) (st' := aA 99 :: _) rfl rfl ?_
  refine E_s (p' := 58) (st' := aI 0 :: _) rfl rfl ?_
  refine E_callL (p' := 61) (L0 := [some (aA 101), some (aA 49), some (aI 0), some (aI 0), none, none]) rfl rfl rfl ?_
  refine E_s (p' := 1) (st' := aI 0 :: _) rfl rfl ?_
  refine E_s (p' := 3) (L' := [some (aA 101), some (aA 49), some (aI 0), some (aI 0), some (aI 0), none]) rfl rfl ?_
  refine E_s (p' := 4) (st' := aI 0 :: _) rfl rfl ?_
  refine E_s (p' := 6) (L' := [some (aA 101), some (aA 49), some (aI 0), some (aI 0), some (aI 0), some (aI 0)]) rfl rfl ?_
  refine E_s (p' := 8) (st' := aI 0 :: _) rfl rfl ?_
  refine E_s (p' := 9) (st' := aI 0 :: _) rfl rfl ?_
  refine E_s (p' := 10) (st' := aI 0 :: _) rfl rfl ?_
  refine E_s (p' := 11) (st' := aI 0 :: _) rfl rfl ?_
  refine E_s (p' := 49) rfl rfl ?_
  refine E_s (p' := 51) (st' := aI 0 :: _) rfl rfl ?_
  refine E_ret rfl rfl ?_
  refine E_s (p' := 62) (st' := aI 0 :: _) rfl rfl ?_
  refine E_s (p' := 63) (L' := [some (aA 99), some (aA 47), some (aI 0), none]) rfl rfl ?_
  refine E_s (p' := 64) (st' := aI 0 :: _) rfl rfl ?_
  refine E_s (p' := 65) (st' := aA 99 :: _) rfl rfl ?_
  refine E_s (p' := 68) (st' := aA 102 :: _) rfl rfl ?_
  refine E_s (p' := 69) (st' := aA 47 :: _) rfl rfl ?_
  refine E_s (p' := 72) (st' := aA 50 :: _) rfl rfl ?_
  refine E_s (p' := 73) (st' := aI 0 :: _) rfl rfl ?_
  refine E_s (p' := 74) (st' := aA 99 :: _) rfl rfl ?_
  refine E_s (p' := 77) (st' := aI 0 :: _) rfl rfl ?_
  refine E_callL (p' := 80) (L0 := [some (aA 102), some (aA 50), some (aI 0), some (aI 0), none, none]) rfl rfl rfl ?_
  refine E_s (p' := 1) (st' := aI 0 :: _) rfl rfl ?_
  refine E_s (p' := 3) (L' := [some (aA 102), some (aA 50), some (aI 0), some (aI 0), some (aI 0), none]) rfl rfl ?_
  refine E_s (p' := 4) (st' := aI 0 :: _) rfl rfl ?_
  refine E_s (p' := 6) (L' := [some (aA 102), some (aA 50), some (aI 0), some (aI 0), some (aI 0), some (aI 0)]) rfl rfl ?_
  refine E_s (p' := 8) (st' := aI 0 :: _) rfl rfl ?_
  refine E_s (p' := 9) (st' := aI 0 :: _) rfl rfl ?_
  refine E_s (p' := 10) (st' := aI 0 :: _) rfl rfl ?_
  refine E_s (p' := 11) (st' := aI 0 :: _) rfl rfl ?_
  refine E_s (p' := 49) rfl rfl ?_
  refine E_s (p' := 51) (st' := aI 0 :: _) rfl rfl ?_
  refine E_ret rfl rfl ?_
  refine E_s (p' := 81) (st' := aI 0 :: _) rfl rfl ?_
  refine E_s (p' := 82) (L' := [some (aA 99), some (aA 47), some (aI 0), none]) rfl rfl ?_
  refine E_s (p' := 83) (st' := aI 0 :: _) rfl rfl ?_
  refine E_s (p' := 84) (st' := aA 99 :: _) rfl rfl ?_
  refine E_s (p' := 87) (st' := aA 103 :: _) rfl rfl ?_
  refine E_s (p' := 88) (st' := aA 47 :: _) rfl rfl ?_
  refine E_s (p' := 91) (st' := aA 51 :: _) rfl rfl ?_
  refine E_s (p' := 92) (st' := aI 0 :: _) rfl rfl ?_
  refine E_s (p' := 93) (st' := aA 99 :: _) rfl rfl ?_
  refine E_s (p' := 96) (st' := aI 0 :: _) rfl rfl ?_
  refine E_callL (p' := 99) (L0 := [some (aA 103), some (aA 51), some (aI 0), some (aI 0), none, none]) rfl rfl rfl ?_
  refine E_s (p' := 1) (st' := aI 0 :: _) rfl rfl ?_
  refine E_s (p' := 3) (L' := [some (aA 103), some (aA 51), some (aI 0), some (aI 0), some (aI 0), none]) rfl rfl ?_
  refine E_s (p' := 4) (st' := aI 0 :: _) rfl rfl ?_
  refine E_s (p' := 6) (L' := [some (aA 103), some (aA 51), some (aI 0), some (aI 0), some (aI 0), some (aI 0)]) rfl rfl ?_
  refine E_s (p' := 8) (st' := aI 0 :: _) rfl rfl ?_
  refine E_s (p' := 9) (st' := aI 0 :: _) rfl rfl ?_
  refine E_s (p' := 10) (st' := aI 0 :: _) rfl rfl ?_
  refine E_s (p' := 11) (st' := aI 0 :: _) rfl rfl ?_
  refine E_s (p' := 49) rfl rfl ?_
  refine E_s (p' := 51) (st' := aI 0 :: _) rfl rfl ?_
  refine E_ret rfl rfl ?_
  refine E_s (p' := 100) (st' := aI 0 :: _) rfl rfl ?_
  refine E_s (p' := 101) (L' := [some (aA 99), some (aA 47), some (aI 0), none]) rfl rfl ?_
  refine E_s (p' := 102) (st' := aI 0 :: _) rfl rfl ?_
  refine E_s (p' := 103) (st' := aA 99 :: _) rfl rfl ?_
  refine E_s (p' := 106) (st' := aA 104 :: _) rfl rfl ?_
  refine E_s (p' := 107) (st' := aA 47 :: _) rfl rfl ?_
  refine E_s (p' := 110) (st' := aA 52 :: _) rfl rfl ?_
  refine E_s (p' := 111) (st' := aI 0 :: _) rfl rfl ?_
  refine E_s (p' := 112) (st' := aA 99 :: _) rfl rfl ?_
  refine E_s (p' := 115) (st' := aI 0 :: _) rfl rfl ?_
  refine E_callL (p' := 118) (L0 := [some (aA 104), some (aA 52), some (aI 0), some (aI 0), none, none]) rfl rfl rfl ?_
  refine E_s (p' := 1) (st' := aI 0 :: _) rfl rfl ?_
  refine E_s (p' := 3) (L' := [some (aA 104), some (aA 52), some (aI 0), some (aI 0), some (aI 0), none]) rfl rfl ?_
  refine E_s (p' := 4) (st' := aI 0 :: _) rfl rfl ?_
  refine E_s (p' := 6) (L' := [some (aA 104), some (aA 52), some (aI 0), some (aI 0), some (aI 0), some (aI 0)]) rfl rfl ?_
  refine E_s (p' := 8) (st' := aI 0 :: _) rfl rfl ?_
  refine E_s (p' := 9) (st' := aI 0 :: _) rfl rfl ?_
  refine E_s (p' := 10) (st' := aI 0 :: _) rfl rfl ?_
  refine E_s (p' := 11) (st' := aI 0 :: _) rfl rfl ?_
  refine E_s (p' := 49) rfl rfl ?_
  refine E_s (p' := 51) (st' := aI 0 :: _) rfl rfl ?_
  refine E_ret rfl rfl ?_
  refine E_s (p' := 119) (st' := aI 0 :: _) rfl rfl ?_
  refine E_s (p' := 120) (L' := [some (aA 99), some (aA 47), some (aI 0), none]) rfl rfl ?_
  refine E_s (p' := 121) (st' := aI 0 :: _) rfl rfl ?_
  refine E_s (p' := 122) (st' := aA 99 :: _) rfl rfl ?_
  refine E_s (p' := 125) (st' := aA 105 :: _) rfl rfl ?_
  refine E_s (p' := 126) (st' := aA 47 :: _) rfl rfl ?_
  refine E_s (p' := 129) (st' := aA 53 :: _) rfl rfl ?_
  refine E_s (p' := 130) (st' := aI 0 :: _) rfl rfl ?_
  refine E_s (p' := 131) (st' := aA 99 :: _) rfl rfl ?_
  refine E_s (p' := 134) (st' := aI 0 :: _) rfl rfl ?_
  refine E_callL (p' := 137) (L0 := [some (aA 105), some (aA 53), some (aI 0), some (aI 0), none, none]) rfl rfl rfl ?_
  refine E_s (p' := 1) (st' := aI 0 :: _) rfl rfl ?_
  refine E_s (p' := 3) (L' := [some (aA 105), some (aA 53), some (aI 0), some (aI 0), some (aI 0), none]) rfl rfl ?_
  refine E_s (p' := 4) (st' := aI 0 :: _) rfl rfl ?_
  refine E_s (p' := 6) (L' := [some (aA 105), some (aA 53), some (aI 0), some (aI 0), some (aI 0), some (aI 0)]) rfl rfl ?_
  refine E_s (p' := 8) (st' := aI 0 :: _) rfl rfl ?_
  refine E_s (p' := 9) (st' := aI 0 :: _) rfl rfl ?_
  refine E_s (p' := 10) (st' := aI 0 :: _) rfl rfl ?_
  refine E_s (p' := 11) (st' := aI 0 :: _) rfl rfl ?_
  refine E_s (p' := 49) rfl rfl ?_
  refine E_s (p' := 51) (st' := aI 0 :: _) rfl rfl ?_
  refine E_ret rfl rfl ?_
  refine E_s (p' := 138) (st' := aI 0 :: _) rfl rfl ?_
  refine E_s (p' := 139) (L' := [some (aA 99), some (aA 47), some (aI 0), none]) rfl rfl ?_
  refine E_s (p' := 140) (st' := aI 0 :: _) rfl rfl ?_
  refine E_s (p' := 141) (L' := [some (aA 99), some (aA 47), some (aI 0), some (aI 0)]) rfl rfl ?_
  refine E_s (p' := 142) (st' := aI 0 :: _) rfl rfl ?_
  refine E_s (p' := 143) (st' := aA 99 :: _) rfl rfl ?_
  refine E_s (p' := 146) (st' := aI 0 :: _) rfl rfl ?_
  refine E_s (p' := 179) rfl rfl ?_
  refine E_s (p' := 180) (st' := aI 0 :: _) rfl rfl ?_
  refine E_ret rfl rfl ?_
  refine E_s (p' := 38) (st' := aI 0 :: _) rfl rfl ?_
  refine E_s (p' := 39) (L' := [some (aA 98), some (aA 46), some (aI 0)]) rfl rfl ?_
  refine E_s (p' := 40) (st' := aI 0 :: _) rfl rfl ?_
  refine E_s (p' := 41) (st' := aA 98 :: _) rfl rfl ?_
  refine E_s (p' := 44) (st' := aA 107 :: _) rfl rfl ?_
  refine E_s (p' := 45) (st' := aA 46 :: _) rfl rfl ?_
  refine E_s (p' := 48) (st' := aA 55 :: _) rfl rfl ?_
  refine E_callL (p' := 51) (L0 := [some (aA 107), some (aA 55), none, none]) rfl rfl rfl ?_
  refine E_s (p' := 1) (st' := aA 107 :: _) rfl rfl ?_
  refine E_s (p' := 4) (st' := aI 0 :: _) rfl rfl ?_
  refine E_s (p' := 5) (st' := aA 55 :: _) rfl rfl ?_
  refine E_s (p' := 8) (st' := aI 0 :: _) rfl rfl ?_
  refine E_s (p' := 15) rfl rfl ?_
  refine E_s (p' := 16) (st' := aI 0 :: _) rfl rfl ?_
  refine E_s (p' := 17) (L' := [some (aA 107), some (aA 55), some (aI 0), none]) rfl rfl ?_
  refine E_s (p' := 18) (st' := aA 107 :: _) rfl rfl ?_
  refine E_s (p' := 19) (st' := aA 55 :: _) rfl rfl ?_
  refine E_s (p' := 22) (st' := aI 0 :: _) rfl rfl ?_
  refine E_stM (p' := 25) (m' := up2 _ 107 3 0) rfl rfl ?_
  refine E_s (p' := 26) (st' := aI 0 :: _) rfl rfl ?_
  refine E_s (p' := 27) (st' := aA 107 :: _) rfl rfl ?_
  refine E_s (p' := 30) (st' := aA 108 :: _) rfl rfl ?_
  refine E_s (p' := 31) (st' := aA 55 :: _) rfl rfl ?_
  refine E_s (p' := 34) (st' := aA 56 :: _) rfl rfl ?_
  refine E_s (p' := 35) (st' := aI 0 :: _) rfl rfl ?_
  refine E_s (p' := 36) (st' := aA 107 :: _) rfl rfl ?_
  refine E_s (p' := 39) (st' := aI 0 :: _) rfl rfl ?_
  refine E_callL (p' := 42) (L0 := [some (aA 108), some (aA 56), some (aI 0), some (aI 0), none, none]) rfl rfl rfl ?_
  refine E_s (p' := 1) (st' := aI 0 :: _) rfl rfl ?_
  refine E_s (p' := 3) (L' := [some (aA 108), some (aA 56), some (aI 0), some (aI 0), some (aI 0), none]) rfl rfl ?_
  refine E_s (p' := 4) (st' := aI 0 :: _) rfl rfl ?_
  refine E_s (p' := 6) (L' := [some (aA 108), some (aA 56), some (aI 0), some (aI 0), some (aI 0), some (aI 0)]) rfl rfl ?_
  refine E_s (p' := 8) (st' := aI 0 :: _) rfl rfl ?_
  refine E_s (p' := 9) (st' := aI 0 :: _) rfl rfl ?_
  refine E_s (p' := 10) (st' := aI 0 :: _) rfl rfl ?_
  refine E_s (p' := 11) (st' := aI 0 :: _) rfl rfl ?_
  refine E_s (p' := 49) rfl rfl ?_
  refine E_s (p' := 51) (st' := aI 0 :: _) rfl rfl ?_
  refine E_ret rfl rfl ?_
  refine E_s (p' := 43) (st' := aI 0 :: _) rfl rfl ?_
  refine E_s (p' := 44) (L' := [some (aA 107), some (aA 55), some (aI 0), none]) rfl rfl ?_
  refine E_s (p' := 45) (st' := aI 0 :: _) rfl rfl ?_
  refine E_s (p' := 46) (st' := aA 107 :: _) rfl rfl ?_
  refine E_s (p' := 49) (st' := aA 109 :: _) rfl rfl ?_
  refine E_s (p' := 50) (st' := aA 55 :: _) rfl rfl ?_
  refine E_s (p' := 53) (st' := aA 57 :: _) rfl rfl ?_
  refine E_s (p' := 54) (st' := aI 0 :: _) rfl rfl ?_
  refine E_s (p' := 55) (st' := aA 107 :: _) rfl rfl ?_
  refine E_s (p' := 58) (st' := aI 0 :: _) rfl rfl ?_
  refine E_callL (p' := 61) (L0 := [some (aA 109), some (aA 57), some (aI 0), some (aI 0), none, none]) rfl rfl rfl ?_
  refine E_s (p' := 1) (st' := aI 0 :: _) rfl rfl ?_
  refine E_s (p' := 3) (L' := [some (aA 109), some (aA 57), some (aI 0), some (aI 0), some (aI 0), none]) rfl rfl ?_
  refine E_s (p' := 4) (st' := aI 0 :: _) rfl rfl ?_
  refine E_s (p' := 6) (L' := [some (aA 109), some (aA 57), some (aI 0), some (aI 0), some (aI 0), some (aI 0)]) rfl rfl ?_
  refine E_s (p' := 8) (st' := aI 0 :: _) rfl rfl ?_
  refine E_s (p' := 9) (st' := aI 0 :: _) rfl rfl ?_
  refine E_s (p' := 10) (st' := aI 0 :: _) rfl rfl ?_
  refine E_s (p' := 11) (st' := aI 0 :: _) rfl rfl ?_
  refine E_s (p' := 49) rfl rfl ?_
  refine E_s (p' := 51) (st' := aI 0 :: _) rfl rfl ?_
  refine E_ret rfl rfl ?_
  refine E_s (p' := 62) (st' := aI 0 :: _) rfl rfl ?_
  refine E_s (p' := 63) (L' := [some (aA 107), some (aA 55), some (aI 0), none]) rfl rfl ?_
  refine E_s (p' := 64) (st' := aI 0 :: _) rfl rfl ?_
  refine E_s (p' := 65) (L' := [some (aA 107), some (aA 55), some (aI 0), some (aI 0)]) rfl rfl ?_
  refine E_s (p' := 66) (st' := aI 0 :: _) rfl rfl ?_
  refine E_s (p' := 67) (st' := aA 107 :: _) rfl rfl ?_
  refine E_s (p' := 70) (st' := aI 0 :: _) rfl rfl ?_
  refine E_s (p' := 103) rfl rfl ?_
  refine E_s (p' := 104) (st' := aI 0 :: _) rfl rfl ?_
  refine E_ret rfl rfl ?_
  refine E_s (p' := 52) (st' := aI 0 :: _) rfl rfl ?_
  refine E_s (p' := 53) (L' := [some (aA 98), some (aA 46), some (aI 0)]) rfl rfl ?_
  refine E_s (p' := 54) (st' := aI 0 :: _) rfl rfl ?_
  refine E_s (p' := 61) rfl rfl ?_
  refine E_ret rfl rfl ?_
  refine E_s (p' := 33) (st' := aA 98 :: _) rfl rfl ?_
  refine E_s (p' := 36) (st' := aA 99 :: _) rfl rfl ?_
  refine E_s (p' := 39) (st' := aI 0 :: _) rfl rfl ?_
  refine E_ret rfl rfl ?_
  refine E_s (p' := 529) (st' := aA 124 :: _) rfl rfl ?_
  refine E_s (p' := 530) (st' := aA 0 :: _) rfl rfl ?_
  refine E_s (p' := 531) (st' := aI 0 :: _) rfl rfl ?_
  refine E_s (p' := 532) (st' := aI 1 :: _) rfl rfl ?_
  refine E_s (p' := 533) (st' := aI 1 :: _) rfl rfl ?_
  refine E_scr rfl rfl h1 ?_
  refine E_s (p' := 535) (st' := aA 0 :: _) rfl rfl ?_
  refine E_s (p' := 536) (st' := aI 0 :: _) rfl rfl ?_
  refine E_s (p' := 537) (st' := aI 2 :: _) rfl rfl ?_
  refine E_s (p' := 538) (st' := aI 2 :: _) rfl rfl ?_
  refine E_scr rfl rfl h2 ?_
  refine E_callL (p' := 542) (L0 := [some (aA 124), some (aI 1), some (aI 3), none, none, none]) rfl rfl rfl ?_
  refine E_s (p' := 1) (st' := aI 1 :: _) rfl rfl ?_
  refine E_callL (p' := 4) (L0 := [some (aI 1)]) rfl rfl rfl ?_
  refine E_s (p' := 1) (st' := aI 1 :: _) rfl rfl ?_
  refine E_s (p' := 2) (st' := aI 0 :: _) rfl rfl ?_
  refine E_s (p' := 3) (st' := aI 3 :: _) rfl rfl ?_
  refine E_callL (p' := 6) (L0 := [some (aI 1), some (aI 0), some (aI 3)]) rfl rfl rfl ?_
  refine E_s (p' := 1) (st' := aI 1 :: _) rfl rfl ?_
  refine E_s (p' := 2) (st' := aI 0 :: _) rfl rfl ?_
  refine E_s (p' := 5) rfl rfl ?_
  refine E_s (p' := 6) (st' := aI 1 :: _) rfl rfl ?_
  refine E_s (p' := 7) (st' := aI 3 :: _) rfl rfl ?_
  refine E_s (p' := 10) rfl rfl ?_
  refine E_s (p' := 11) (st' := aI 1 :: _) rfl rfl ?_
  refine E_s (p' := 15) rfl rfl ?_
  refine E_ret rfl rfl ?_
  refine E_ret rfl rfl ?_
  refine E_s (p' := 7) rfl rfl ?_
  refine E_s (p' := 8) (st' := aI 3 :: _) rfl rfl ?_
  refine E_callL (p' := 11) (L0 := [some (aI 3)]) rfl rfl rfl ?_
  refine E_s (p' := 1) (st' := aI 3 :: _) rfl rfl ?_
  refine E_s (p' := 2) (st' := aI 0 :: _) rfl rfl ?_
  refine E_s (p' := 3) (st' := aI 3 :: _) rfl rfl ?_
  refine E_callL (p' := 6) (L0 := [some (aI 3), some (aI 0), some (aI 3)]) rfl rfl rfl ?_
  refine E_s (p' := 1) (st' := aI 3 :: _) rfl rfl ?_
  refine E_s (p' := 2) (st' := aI 0 :: _) rfl rfl ?_
  refine E_s (p' := 5) rfl rfl ?_
  refine E_s (p' := 6) (st' := aI 3 :: _) rfl rfl ?_
  refine E_s (p' := 7) (st' := aI 3 :: _) rfl rfl ?_
  refine E_s (p' := 10) rfl rfl ?_
  refine E_s (p' := 11) (st' := aI 1 :: _) rfl rfl ?_
  refine E_s (p' := 15) rfl rfl ?_
  refine E_ret rfl rfl ?_
  refine E_ret rfl rfl ?_
  refine E_s (p' := 17) rfl rfl ?_
  refine E_s (p' := 18) (st' := aA 124 :: _) rfl rfl ?_
  refine E_s (p' := 19) (st' := aI 3 :: _) rfl rfl ?_
  refine E_callL (p' := 22) (L0 := [some (aA 124), some (aI 3)]) rfl rfl rfl ?_
  refine E_s (p' := 1) (st' := aA 124 :: _) rfl rfl ?_
  refine E_s (p' := 4) (st' := aA 140 :: _) rfl rfl ?_
  refine E_s (p' := 5) (st' := aI 3 :: _) rfl rfl ?_
  refine E_s (p' := 6) (st' := aI 0 :: _) rfl rfl ?_
  refine E_stM (p' := 7) (m' := up2 _ 140 3 0) rfl rfl ?_
  refine E_ret rfl rfl ?_
  refine E_s (p' := 23) (st' := aI 1 :: _) rfl rfl ?_
  refine E_s (p' := 24) (st' := aI 3 :: _) rfl rfl ?_
  refine E_s (p' := 34) rfl rfl ?_
  refine E_s (p' := 35) (st' := aA 124 :: _) rfl rfl ?_
  refine E_s (p' := 38) (st' := aA 125 :: _) rfl rfl ?_
  refine E_s (p' := 39) (st' := aI 3 :: _) rfl rfl ?_
  refine E_s (p' := 40) (st' := aA 124 :: _) rfl rfl ?_
  refine E_s (p' := 43) (st' := aA 125 :: _) rfl rfl ?_
  refine E_s (p' := 44) (st' := aI 1 :: _) rfl rfl ?_
  refine E_s (p' := 45) (st' := aI 0 :: _) rfl rfl ?_
  refine E_stM (p' := 46) (m' := up2 _ 125 3 0) rfl rfl ?_
  refine E_s (p' := 47) (st' := aA 124 :: _) rfl rfl ?_
  refine E_s (p' := 50) (st' := aA 126 :: _) rfl rfl ?_
  refine E_s (p' := 51) (st' := aI 3 :: _) rfl rfl ?_
  refine E_s (p' := 52) (st' := aA 124 :: _) rfl rfl ?_
  refine E_s (p' := 55) (st' := aA 126 :: _) rfl rfl ?_
  refine E_s (p' := 56) (st' := aI 1 :: _) rfl rfl ?_
  refine E_s (p' := 57) (st' := aI 15 :: _) rfl rfl ?_
  refine E_stM (p' := 58) (m' := up2 _ 126 3 15) rfl rfl ?_
  refine E_s (p' := 59) (st' := aA 124 :: _) rfl rfl ?_
  refine E_s (p' := 62) (st' := aA 136 :: _) rfl rfl ?_
  refine E_s (p' := 63) (st' := aI 3 :: _) rfl rfl ?_
  refine E_s (p' := 64) (st' := aA 124 :: _) rfl rfl ?_
  refine E_s (p' := 67) (st' := aA 136 :: _) rfl rfl ?_
  refine E_s (p' := 68) (st' := aI 1 :: _) rfl rfl ?_
  refine E_s (p' := 69) (st' := aI 0 :: _) rfl rfl ?_
  refine E_stM (p' := 70) (m' := up2 _ 136 3 0) rfl rfl ?_
  refine E_s (p' := 71) (st' := aI 0 :: _) rfl rfl ?_
  refine E_s (p' := 72) (L' := [some (aA 124), some (aI 1), some (aI 3), some (aI 0), none, none]) rfl rfl ?_
  refine E_s (p' := 73) (st' := aI 0 :: _) rfl rfl ?_
  refine E_s (p' := 74) (st' := aA 124 :: _) rfl rfl ?_
  refine E_s (p' := 77) (st' := aA 125 :: _) rfl rfl ?_
  refine E_s (p' := 78) (st' := aI 1 :: _) rfl rfl ?_
  refine E_s (p' := 79) (st' := aI 0 :: _) rfl rfl ?_
  refine E_s (p' := 182) rfl rfl ?_
  refine E_s (p' := 183) (st' := aI 0 :: _) rfl rfl ?_
  refine E_s (p' := 184) (L' := [some (aA 124), some (aI 1), some (aI 3), some (aI 0), none, none]) rfl rfl ?_
  refine E_s (p' := 185) (st' := aI 0 :: _) rfl rfl ?_
  refine E_s (p' := 186) (st' := aA 124 :: _) rfl rfl ?_
  refine E_s (p' := 189) (st' := aA 136 :: _) rfl rfl ?_
  refine E_s (p' := 190) (st' := aI 1 :: _) rfl rfl ?_
  refine E_s (p' := 191) (st' := aI 0 :: _) rfl rfl ?_
  refine E_s (p' := 294) rfl rfl ?_
  refine E_s (p' := 295) (st' := aA 124 :: _) rfl rfl ?_
  refine E_s (p' := 298) (st' := aA 125 :: _) rfl rfl ?_
  refine E_s (p' := 299) (st' := aI 3 :: _) rfl rfl ?_
  refine E_s (p' := 300) (st' := aI 0 :: _) rfl rfl ?_
  refine E_ret rfl rfl ?_
  refine E_s (p' := 1174) rfl rfl ?_
  refine E_s (p' := 1177) (L' := [some (aA 0), some (aA 1), some (aA 124), some (aI 6)]) rfl rfl ?_
  refine E_s (p' := 18) rfl rfl ?_
  refine E_s (p' := 19) (st' := aI 6 :: _) rfl rfl ?_
  refine E_s (p' := 20) (st' := aA 0 :: _) rfl rfl ?_
  refine E_s (p' := 21) (st' := aI 6 :: _) rfl rfl ?_
  refine E_s (p' := 23) (st' := aI 6 :: _) rfl rfl ?_
  refine E_s (p' := 24) (st' := aI 0 :: _) rfl rfl ?_
  refine E_s (p' := 1180) rfl rfl ?_
  refine E_s (p' := 1181) (st' := aI 1 :: _) rfl rfl ?_
  exact E_ret rfl rfl ⟨rfl, rfl⟩
set_option maxRecDepth 100000 in
set_option maxHeartbeats 40000000 in
theorem pc_8_1_o (xs : Nat → Int) {z a2 a3 a4 a5 : Int} (hz : b32 (fun a b => a &&& b) z 31 = 8) (h0 : xs 0 = z) (h1 : xs 1 = 1) (h2 : xs 2 = a2) (h3 : xs 3 = a3) (h4 : xs 4 = a4) (h5 : xs 5 = a5) (hr2 : a2 < 0 ∨ 3 < a2) : E 0 18 LL [] (s0 xs 6) PQ := by
  refine E_s (p' := 19) (st' := aI 0 :: _) rfl rfl ?_
  refine E_s (p' := 20) (st' := aA 0 :: _) rfl rfl ?_
  refine E_s (p' := 21) (st' := aI 6 :: _) rfl rfl ?_
  refine E_s (p' := 23) (st' := aI 6 :: _) rfl rfl ?_
  refine E_s (p' := 24) (st' := aI 0 :: _) rfl rfl ?_
  refine E_s (p' := 27) rfl rfl ?_
  refine E_s (p' := 28) (st' := aA 0 :: _) rfl rfl ?_
  refine E_s (p' := 29) (st' := aI 0 :: _) rfl rfl ?_
  refine E_scr rfl rfl h0 ?_
  refine E_s (p' := 32) (st' := aI 31 :: _) rfl rfl ?_
  refine E_s (p' := 33) rfl rfl ?_
  refine E_val hz ?_
  refine E_s (p' := 514) rfl rfl ?_
  refine E_s (p' := 515) (st' := aA 1 :: _) rfl rfl ?_
  refine E_s (p' := 516) (st' := aA 0 :: _) rfl rfl ?_
  refine E_s (p' := 517) (st' := aI 0 :: _) rfl rfl ?_
  refine E_s (p' := 518) (st' := aI 1 :: _) rfl rfl ?_
  refine E_s (p' := 519) (st' := aI 1 :: _) rfl rfl ?_
  refine E_scr rfl rfl h1 ?_
  refine E_s (p' := 521) (st' := aA 0 :: _) rfl rfl ?_
  refine E_s (p' := 522) (st' := aI 0 :: _) rfl rfl ?_
  refine E_s (p' := 523) (st' := aI 2 :: _) rfl rfl ?_
  refine E_s (p' := 524) (st' := aI 2 :: _) rfl rfl ?_
  refine E_scr rfl rfl h2 ?_
  refine E_callL (p' := 528) (L0 := [some (aA 1), some (aI 1), some (aI a2), none, none]) rfl rfl rfl ?_
  refine E_s (p' := 1) (st' := aA 1 :: _) rfl rfl ?_
  refine E_s (p' := 2) (st' := aI 1 :: _) rfl rfl ?_
  refine E_callL (p' := 5) (L0 := [some (aA 1), some (aI 1)]) rfl rfl rfl ?_
  refine E_s (p' := 1) (st' := aI 1 :: _) rfl rfl ?_
  refine E_s (p' := 4) rfl rfl ?_
  refine E_s (p' := 5) (st' := aI 1 :: _) rfl rfl ?_
  refine E_s (p' := 6) (st' := aI 4 :: _) rfl rfl ?_
  refine E_s (p' := 9) rfl rfl ?_
  refine E_s (p' := 10) (st' := aA 1 :: _) rfl rfl ?_
  refine E_s (p' := 13) (st' := aA 2 :: _) rfl rfl ?_
  refine E_s (p' := 14) (st' := aI 1 :: _) rfl rfl ?_
  refine E_s (p' := 15) (st' := aA 46 :: _) rfl rfl ?_
  refine E_s (p' := 19) rfl rfl ?_
  refine E_ret rfl rfl ?_
  refine E_s (p' := 6) (L' := [some (aA 1), some (aI 1), some (aI a2), some (aA 46), none]) rfl rfl ?_
  refine E_s (p' := 7) (st' := aA 1 :: _) rfl rfl ?_
  refine E_s (p' := 8) rfl rfl ?_
  refine E_callL (p' := 11) (L0 := [some (aA 1), some (aI a2)]) rfl rfl rfl ?_
  refine E_s (p' := 1) rfl rfl ?_
  refine E_if_lt rfl (by decide) (fun _ => ?_) (fun _ => ?_)
  · refine E_s (p' := 19) rfl rfl ?_
    refine E_ret rfl rfl ?_
    refine E_s (p' := 13) (L' := [some (aA 1), some (aI 1), some (aI a2), some (aA 46), some aN]) rfl rfl ?_
    refine E_s (p' := 14) (st' := aA 46 :: _) rfl rfl ?_
    refine E_s (p' := 17) rfl rfl ?_
    refine E_s (p' := 19) rfl rfl ?_
    refine E_s (p' := 22) rfl rfl ?_
    refine E_s (p' := 24) (st' := aI (-2) :: _) rfl rfl ?_
    refine E_ret rfl rfl ?_
    refine E_s (p' := 529) (st' := aA 124 :: _) rfl rfl ?_
    refine E_s (p' := 530) (st' := aA 0 :: _) rfl rfl ?_
    refine E_s (p' := 531) (st' := aI 0 :: _) rfl rfl ?_
    refine E_s (p' := 532) (st' := aI 1 :: _) rfl rfl ?_
    refine E_s (p' := 533) (st' := aI 1 :: _) rfl rfl ?_
    refine E_scr rfl rfl h1 ?_
    refine E_s (p' := 535) (st' := aA 0 :: _) rfl rfl ?_
    refine E_s (p' := 536) (st' := aI 0 :: _) rfl rfl ?_
    refine E_s (p' := 537) (st' := aI 2 :: _) rfl rfl ?_
    refine E_s (p' := 538) (st' := aI 2 :: _) rfl rfl ?_
    refine E_scr rfl rfl h2 ?_
    refine E_callL (p' := 542) (L0 := [some (aA 124), some (aI 1), some (aI a2), none, none, none]) rfl rfl rfl ?_
    refine E_s (p' := 1) (st' := aI 1 :: _) rfl rfl ?_
    refine E_callL (p' := 4) (L0 := [some (aI 1)]) rfl rfl rfl ?_
    refine E_s (p' := 1) (st' := aI 1 :: _) rfl rfl ?_
    refine E_s (p' := 2) (st' := aI 0 :: _) rfl rfl ?_
    refine E_s (p' := 3) (st' := aI 3 :: _) rfl rfl ?_
    refine E_callL (p' := 6) (L0 := [some (aI 1), some (aI 0), some (aI 3)]) rfl rfl rfl ?_
    refine E_s (p' := 1) (st' := aI 1 :: _) rfl rfl ?_
    refine E_s (p' := 2) (st' := aI 0 :: _) rfl rfl ?_
    refine E_s (p' := 5) rfl rfl ?_
    refine E_s (p' := 6) (st' := aI 1 :: _) rfl rfl ?_
    refine E_s (p' := 7) (st' := aI 3 :: _) rfl rfl ?_
    refine E_s (p' := 10) rfl rfl ?_
    refine E_s (p' := 11) (st' := aI 1 :: _) rfl rfl ?_
    refine E_s (p' := 15) rfl rfl ?_
    refine E_ret rfl rfl ?_
    refine E_ret rfl rfl ?_
    refine E_s (p' := 7) rfl rfl ?_
    refine E_s (p' := 8) rfl rfl ?_
    refine E_callL (p' := 11) (L0 := [some (aI a2)]) rfl rfl rfl ?_
    refine E_s (p' := 1) rfl rfl ?_
    refine E_s (p' := 2) (st' := aI 0 :: _) rfl rfl ?_
    refine E_s (p' := 3) (st' := aI 3 :: _) rfl rfl ?_
    refine E_callL (p' := 6) (L0 := [some (aI a2), some (aI 0), some (aI 3)]) rfl rfl rfl ?_
    refine E_s (p' := 1) rfl rfl ?_
    refine E_s (p' := 2) (st' := aI 0 :: _) rfl rfl ?_
    refine E_icmp_lt (y := 0) rfl (by decide) (fun _ => ?_) (fun q => absurd q (by omega))
    refine E_s (p' := 15) (st' := aI 0 :: _) rfl rfl ?_
    refine E_ret rfl rfl ?_
    refine E_ret rfl rfl ?_
    refine E_s (p' := 14) rfl rfl ?_
    refine E_s (p' := 16) (st' := aI (-2) :: _) rfl rfl ?_
    refine E_ret rfl rfl ?_
    refine E_s (p' := 1174) rfl rfl ?_
    refine E_s (p' := 1177) (L' := [some (aA 0), some (aA 1), some (aA 124), some (aI 6)]) rfl rfl ?_
    refine E_s (p' := 18) rfl rfl ?_
    refine E_s (p' := 19) (st' := aI 6 :: _) rfl rfl ?_
    refine E_s (p' := 20) (st' := aA 0 :: _) rfl rfl ?_
    refine E_s (p' := 21) (st' := aI 6 :: _) rfl rfl ?_
    refine E_s (p' := 23) (st' := aI 6 :: _) rfl rfl ?_
    refine E_s (p' := 24) (st' := aI 0 :: _) rfl rfl ?_
    refine E_s (p' := 1180) rfl rfl ?_
    refine E_s (p' := 1181) (st' := aI 1 :: _) rfl rfl ?_
    exact E_ret rfl rfl ⟨rfl, rfl⟩
  · refine E_s (p' := 5) rfl rfl ?_
    refine E_s (p' := 6) (st' := aI 4 :: _) rfl rfl ?_
    refine E_icmp_ge (y := 4) rfl (by decide) (fun _ => ?_) (fun q => absurd q (by omega))
    refine E_s (p' := 19) rfl rfl ?_
    refine E_ret rfl rfl ?_
    refine E_s (p' := 13) (L' := [some (aA 1), some (aI 1), some (aI a2), some (aA 46), some aN]) rfl rfl ?_
    refine E_s (p' := 14) (st' := aA 46 :: _) rfl rfl ?_
    refine E_s (p' := 17) rfl rfl ?_
    refine E_s (p' := 19) rfl rfl ?_
    refine E_s (p' := 22) rfl rfl ?_
    refine E_s (p' := 24) (st' := aI (-2) :: _) rfl rfl ?_
    refine E_ret rfl rfl ?_
    refine E_s (p' := 529) (st' := aA 124 :: _) rfl rfl ?_
    refine E_s (p' := 530) (st' := aA 0 :: _) rfl rfl ?_
    refine E_s (p' := 531) (st' := aI 0 :: _) rfl rfl ?_
    refine E_s (p' := 532) (st' := aI 1 :: _) rfl rfl ?_
    refine E_s (p' := 533) (st' := aI 1 :: _) rfl rfl ?_
    refine E_scr rfl rfl h1 ?_
    refine E_s (p' := 535) (st' := aA 0 :: _) rfl rfl ?_
    refine E_s (p' := 536) (st' := aI 0 :: _) rfl rfl ?_
    refine E_s (p' := 537) (st' := aI 2 :: _) rfl rfl ?_
    refine E_s (p' := 538) (st' := aI 2 :: _) rfl rfl ?_
    refine E_scr rfl rfl h2 ?_
    refine E_callL (p' := 542) (L0 := [some (aA 124), some (aI 1), some (aI a2), none, none, none]) rfl rfl rfl ?_
    refine E_s (p' := 1) (st' := aI 1 :: _) rfl rfl ?_
    refine E_callL (p' := 4) (L0 := [some (aI 1)]) rfl rfl rfl ?_
    refine E_s (p' := 1) (st' := aI 1 :: _) rfl rfl ?_
    refine E_s (p' := 2) (st' := aI 0 :: _) rfl rfl ?_
    refine E_s (p' := 3) (st' := aI 3 :: _) rfl rfl ?_
    refine E_callL (p' := 6) (L0 := [some (aI 1), some (aI 0), some (aI 3)]) rfl rfl rfl ?_
    refine E_s (p' := 1) (st' := aI 1 :: _) rfl rfl ?_
    refine E_s (p' := 2) (st' := aI 0 :: _) rfl rfl ?_
    refine E_s (p' := 5) rfl rfl ?_
    refine E_s (p' := 6) (st' := aI 1 :: _) rfl rfl ?_
    refine E_s (p' := 7) (st' := aI 3 :: _) rfl rfl ?_
    refine E_s (p' := 10) rfl rfl ?_
    refine E_s (p' := 11) (st' := aI 1 :: _) rfl rfl ?_
    refine E_s (p' := 15) rfl rfl ?_
    refine E_ret rfl rfl ?_
    refine E_ret rfl rfl ?_
    refine E_s (p' := 7) rfl rfl ?_
    refine E_s (p' := 8) rfl rfl ?_
    refine E_callL (p' := 11) (L0 := [some (aI a2)]) rfl rfl rfl ?_
    refine E_s (p' := 1) rfl rfl ?_
    refine E_s (p' := 2) (st' := aI 0 :: _) rfl rfl ?_
    refine E_s (p' := 3) (st' := aI 3 :: _) rfl rfl ?_
    refine E_callL (p' := 6) (L0 := [some (aI a2), some (aI 0), some (aI 3)]) rfl rfl rfl ?_
    refine E_s (p' := 1) rfl rfl ?_
    refine E_s (p' := 2) (st' := aI 0 :: _) rfl rfl ?_
    refine E_icmp_lt (y := 0) rfl (by decide) (fun q => absurd q (by omega)) (fun _ => ?_)
    refine E_s (p' := 6) rfl rfl ?_
    refine E_s (p' := 7) (st' := aI 3 :: _) rfl rfl ?_
    refine E_icmp_gt (y := 3) rfl (by decide) (fun _ => ?_) (fun q => absurd q (by omega))
    refine E_s (p' := 15) (st' := aI 0 :: _) rfl rfl ?_
    refine E_ret rfl rfl ?_
    refine E_ret rfl rfl ?_
    refine E_s (p' := 14) rfl rfl ?_
    refine E_s (p' := 16) (st' := aI (-2) :: _) rfl rfl ?_
    refine E_ret rfl rfl ?_
    refine E_s (p' := 1174) rfl rfl ?_
    refine E_s (p' := 1177) (L' := [some (aA 0), some (aA 1), some (aA 124), some (aI 6)]) rfl rfl ?_
    refine E_s (p' := 18) rfl rfl ?_
    refine E_s (p' := 19) (st' := aI 6 :: _) rfl rfl ?_
    refine E_s (p' := 20) (st' := aA 0 :: _) rfl rfl ?_
    refine E_s (p' := 21) (st' := aI 6 :: _) rfl rfl ?_
    refine E_s (p' := 23) (st' := aI 6 :: _) rfl rfl ?_
    refine E_s (p' := 24) (st' := aI 0 :: _) rfl rfl ?_
    refine E_s (p' := 1180) rfl rfl ?_
    refine E_s (p' := 1181) (st' := aI 1 :: _) rfl rfl ?_
    exact E_ret rfl rfl ⟨rfl, rfl⟩
