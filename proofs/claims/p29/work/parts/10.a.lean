set_option maxRecDepth 100000 in
set_option maxHeartbeats 40000000 in
theorem ctor (xs : Nat → Int) (len : Nat) {Q : Option AV → Sx → Prop} (hk : E 0 18 LL [] (s0 xs len) Q) : E 0 0 (entL 0 [aA 0]) [] (sx0 (m0 xs) len) Q := by
  refine E_st rfl rfl rfl ?_ 
  refine E_s (p' := 4) (st' := aA 1 :: _) rfl rfl ?_
  refine E_callL (p' := 7) (L0 := [some (aA 1), none]) rfl rfl rfl ?_
  refine E_s (p' := 1) (st' := aA 1 :: _) rfl rfl ?_
  refine E_st rfl rfl rfl ?_
  refine E_s (p' := 5) (st' := aA 1 :: _) rfl rfl ?_
  refine E_s (p' := 6) (st' := aI 4 :: _) rfl rfl ?_
  refine E_st rfl rfl rfl ?_ 
  refine E_st rfl rfl rfl ?_ 
  refine E_s (p' := 13) (st' := aA 1 :: _) rfl rfl ?_
  refine E_st rfl rfl rfl ?_ 
  refine E_s (p' := 17) (st' := aA 3 :: _) rfl rfl ?_
  refine E_callL (p' := 20) (L0 := [some (aA 3)]) rfl rfl rfl ?_
  refine E_s (p' := 1) (st' := aA 3 :: _) rfl rfl ?_
  refine E_st rfl rfl rfl ?_
  refine E_s (p' := 5) (st' := aA 3 :: _) rfl rfl ?_
  refine E_s (p' := 7) (st' := aI 60 :: _) rfl rfl ?_
  refine E_st rfl rfl rfl ?_ 
  refine E_st rfl rfl rfl ?_ 
  refine E_s (p' := 13) (st' := aA 3 :: _) rfl rfl ?_
  refine E_s (p' := 15) (st' := aI 60 :: _) rfl rfl ?_
  refine E_st rfl rfl rfl ?_ 
  refine E_st rfl rfl rfl ?_ 
  refine E_s (p' := 21) (st' := aA 3 :: _) rfl rfl ?_
  refine E_s (p' := 23) (st' := aI 60 :: _) rfl rfl ?_
  refine E_st rfl rfl rfl ?_ 
  refine E_st rfl rfl rfl ?_ 
  refine E_s (p' := 29) (st' := aA 3 :: _) rfl rfl ?_
  refine E_s (p' := 31) (st' := aI 60 :: _) rfl rfl ?_
  refine E_st rfl rfl rfl ?_ 
  refine E_st rfl rfl rfl ?_ 
  refine E_ret rfl rfl ?_
  refine E_st rfl rfl rfl ?_ 
  refine E_s (p' := 24) (st' := aA 1 :: _) rfl rfl ?_
  refine E_st rfl rfl rfl ?_ 
  refine E_s (p' := 28) (st' := aA 8 :: _) rfl rfl ?_
  refine E_callL (p' := 31) (L0 := [some (aA 8)]) rfl rfl rfl ?_
  refine E_s (p' := 1) (st' := aA 8 :: _) rfl rfl ?_
  refine E_st rfl rfl rfl ?_
  refine E_s (p' := 5) (st' := aA 8 :: _) rfl rfl ?_
  refine E_s (p' := 7) (st' := aI 60 :: _) rfl rfl ?_
  refine E_st rfl rfl rfl ?_ 
  refine E_st rfl rfl rfl ?_ 
  refine E_ret rfl rfl ?_
  refine E_st rfl rfl rfl ?_ 
  refine E_s (p' := 35) (st' := aA 1 :: _) rfl rfl ?_
  refine E_st rfl rfl rfl ?_ 
  refine E_s (p' := 39) (st' := aA 10 :: _) rfl rfl ?_
  refine E_callL (p' := 42) (L0 := [some (aA 10)]) rfl rfl rfl ?_
  refine E_s (p' := 1) (st' := aA 10 :: _) rfl rfl ?_
  refine E_st rfl rfl rfl ?_
  refine E_s (p' := 5) (st' := aA 10 :: _) rfl rfl ?_
  refine E_s (p' := 8) (st' := aI 300 :: _) rfl rfl ?_
  refine E_st rfl rfl rfl ?_ 
  refine E_st rfl rfl rfl ?_ 
  refine E_s (p' := 14) (st' := aA 10 :: _) rfl rfl ?_
  refine E_s (p' := 17) (st' := aI 300 :: _) rfl rfl ?_
  refine E_st rfl rfl rfl ?_ 
  refine E_st rfl rfl rfl ?_ 
  refine E_s (p' := 23) (st' := aA 10 :: _) rfl rfl ?_
  refine E_s (p' := 25) (st' := aI 12 :: _) rfl rfl ?_
  refine E_st rfl rfl rfl ?_ 
  refine E_st rfl rfl rfl ?_ 
  refine E_s (p' := 31) (st' := aA 10 :: _) rfl rfl ?_
  refine E_s (p' := 34) (st' := aI 720 :: _) rfl rfl ?_
  refine E_st rfl rfl rfl ?_ 
  refine E_st rfl rfl rfl ?_ 
  refine E_ret rfl rfl ?_
  refine E_st rfl rfl rfl ?_ 
  refine E_s (p' := 46) (st' := aA 1 :: _) rfl rfl ?_
  refine E_st rfl rfl rfl ?_ 
  refine E_s (p' := 50) (st' := aA 15 :: _) rfl rfl ?_
  refine E_callL (p' := 53) (L0 := [some (aA 15)]) rfl rfl rfl ?_
  refine E_s (p' := 1) (st' := aA 15 :: _) rfl rfl ?_
  refine E_st rfl rfl rfl ?_
  refine E_s (p' := 5) (st' := aA 15 :: _) rfl rfl ?_
  refine E_s (p' := 7) (st' := aI 30 :: _) rfl rfl ?_
  refine E_st rfl rfl rfl ?_ 
  refine E_st rfl rfl rfl ?_ 
  refine E_s (p' := 13) (st' := aA 15 :: _) rfl rfl ?_
  refine E_s (p' := 15) (st' := aI 30 :: _) rfl rfl ?_
  refine E_st rfl rfl rfl ?_ 
  refine E_st rfl rfl rfl ?_ 
  refine E_s (p' := 21) (st' := aA 15 :: _) rfl rfl ?_
  refine E_s (p' := 23) (st' := aI 60 :: _) rfl rfl ?_
  refine E_st rfl rfl rfl ?_ 
  refine E_st rfl rfl rfl ?_ 
  refine E_ret rfl rfl ?_
  refine E_st rfl rfl rfl ?_ 
  refine E_s (p' := 57) (st' := aA 1 :: _) rfl rfl ?_
  refine E_s (p' := 59) (st' := aI 61 :: _) rfl rfl ?_
  refine E_st rfl rfl rfl ?_ 
  refine E_st rfl rfl rfl ?_ 
  refine E_s (p' := 65) (st' := aI 0 :: _) rfl rfl ?_
  refine E_s (p' := 66) (L' := [some (aA 1), some (aI 0)]) rfl rfl ?_
  refine E_s (p' := 67) (st' := aI 0 :: _) rfl rfl ?_
  refine E_s (p' := 68) (st' := aI 4 :: _) rfl rfl ?_
  refine E_s (p' := 71) rfl rfl ?_
  refine E_s (p' := 72) (st' := aA 1 :: _) rfl rfl ?_
  refine E_s (p' := 75) (st' := aA 2 :: _) rfl rfl ?_
  refine E_s (p' := 76) (st' := aI 0 :: _) rfl rfl ?_
  refine E_st rfl rfl rfl ?_ 
  refine E_s (p' := 80) (st' := aA 20 :: _) rfl rfl ?_
  refine E_callL (p' := 83) (L0 := [some (aA 20)]) rfl rfl rfl ?_
  refine E_s (p' := 1) (st' := aA 20 :: _) rfl rfl ?_
  refine E_st rfl rfl rfl ?_
  refine E_s (p' := 5) (st' := aA 20 :: _) rfl rfl ?_
  refine E_st rfl rfl rfl ?_ 
  refine E_s (p' := 9) (st' := aA 21 :: _) rfl rfl ?_
  refine E_callL (p' := 12) (L0 := [some (aA 21)]) rfl rfl rfl ?_
  refine E_s (p' := 1) (st' := aA 21 :: _) rfl rfl ?_
  refine E_st rfl rfl rfl ?_
  refine E_s (p' := 5) (st' := aA 21 :: _) rfl rfl ?_
  refine E_s (p' := 7) (st' := aI 60 :: _) rfl rfl ?_
  refine E_st rfl rfl rfl ?_ 
  refine E_st rfl rfl rfl ?_ 
  refine E_s (p' := 13) (st' := aA 21 :: _) rfl rfl ?_
  refine E_s (p' := 15) (st' := aI 60 :: _) rfl rfl ?_
  refine E_st rfl rfl rfl ?_ 
  refine E_st rfl rfl rfl ?_ 
  refine E_s (p' := 21) (st' := aA 21 :: _) rfl rfl ?_
  refine E_s (p' := 23) (st' := aI 60 :: _) rfl rfl ?_
  refine E_st rfl rfl rfl ?_ 
  refine E_st rfl rfl rfl ?_ 
  refine E_s (p' := 29) (st' := aA 21 :: _) rfl rfl ?_
  refine E_s (p' := 31) (st' := aI 60 :: _) rfl rfl ?_
  refine E_st rfl rfl rfl ?_ 
  refine E_st rfl rfl rfl ?_ 
  refine E_s (p' := 37) (st' := aA 21 :: _) rfl rfl ?_
  refine E_s (p' := 39) (st' := aI 60 :: _) rfl rfl ?_
  refine E_st rfl rfl rfl ?_ 
  refine E_st rfl rfl rfl ?_ 
  refine E_s (p' := 45) (st' := aA 21 :: _) rfl rfl ?_
  refine E_s (p' := 47) (st' := aI 60 :: _) rfl rfl ?_
  refine E_st rfl rfl rfl ?_ 
  refine E_st rfl rfl rfl ?_ 
  refine E_s (p' := 53) (st' := aA 21 :: _) rfl rfl ?_
  refine E_s (p' := 56) (st' := aI 1800 :: _) rfl rfl ?_
  refine E_st rfl rfl rfl ?_ 
  refine E_st rfl rfl rfl ?_ 
  refine E_ret rfl rfl ?_
  refine E_st rfl rfl rfl ?_ 
  refine E_s (p' := 16) (st' := aA 20 :: _) rfl rfl ?_
  refine E_st rfl rfl rfl ?_ 
  refine E_s (p' := 20) (st' := aA 29 :: _) rfl rfl ?_
  refine E_callL (p' := 23) (L0 := [some (aA 29)]) rfl rfl rfl ?_
  refine E_s (p' := 1) (st' := aA 29 :: _) rfl rfl ?_
  refine E_st rfl rfl rfl ?_
  refine E_s (p' := 5) (st' := aA 29 :: _) rfl rfl ?_
  refine E_s (p' := 7) (st' := aI 40 :: _) rfl rfl ?_
  refine E_st rfl rfl rfl ?_ 
  refine E_st rfl rfl rfl ?_ 
  refine E_s (p' := 13) (st' := aA 29 :: _) rfl rfl ?_
  refine E_s (p' := 15) (st' := aI 40 :: _) rfl rfl ?_
  refine E_st rfl rfl rfl ?_ 
  refine E_st rfl rfl rfl ?_ 
  refine E_s (p' := 21) (st' := aA 29 :: _) rfl rfl ?_
  refine E_s (p' := 24) (st' := aI 480 :: _) rfl rfl ?_
  refine E_st rfl rfl rfl ?_ 
  refine E_st rfl rfl rfl ?_ 
  refine E_ret rfl rfl ?_
  refine E_st rfl rfl rfl ?_ 
  refine E_s (p' := 27) (st' := aA 20 :: _) rfl rfl ?_
  refine E_s (p' := 29) (st' := aI 60 :: _) rfl rfl ?_
  refine E_st rfl rfl rfl ?_ 
  refine E_st rfl rfl rfl ?_ 
  refine E_s (p' := 35) (st' := aA 20 :: _) rfl rfl ?_
  refine E_s (p' := 37) (st' := aI 60 :: _) rfl rfl ?_
  refine E_st rfl rfl rfl ?_ 
  refine E_st rfl rfl rfl ?_ 
  refine E_s (p' := 43) (st' := aA 20 :: _) rfl rfl ?_
  refine E_st rfl rfl rfl ?_ 
  refine E_s (p' := 47) (st' := aA 35 :: _) rfl rfl ?_
  refine E_callL (p' := 50) (L0 := [some (aA 35)]) rfl rfl rfl ?_
  refine E_s (p' := 1) (st' := aA 35 :: _) rfl rfl ?_
  refine E_st rfl rfl rfl ?_
  refine E_s (p' := 5) (st' := aA 35 :: _) rfl rfl ?_
  refine E_s (p' := 7) (st' := aI 6 :: _) rfl rfl ?_
  refine E_st rfl rfl rfl ?_ 
  refine E_st rfl rfl rfl ?_ 
  refine E_s (p' := 13) (st' := aA 35 :: _) rfl rfl ?_
  refine E_s (p' := 15) (st' := aI 6 :: _) rfl rfl ?_
  refine E_st rfl rfl rfl ?_ 
  refine E_st rfl rfl rfl ?_ 
  refine E_s (p' := 21) (st' := aA 35 :: _) rfl rfl ?_
  refine E_s (p' := 23) (st' := aI 6 :: _) rfl rfl ?_
  refine E_st rfl rfl rfl ?_ 
  refine E_st rfl rfl rfl ?_ 
  refine E_s (p' := 29) (st' := aA 35 :: _) rfl rfl ?_
  refine E_s (p' := 31) (st' := aI 6 :: _) rfl rfl ?_
  refine E_st rfl rfl rfl ?_ 
  refine E_st rfl rfl rfl ?_ 
  refine E_s (p' := 37) (st' := aA 35 :: _) rfl rfl ?_
  refine E_s (p' := 39) (st' := aI 60 :: _) rfl rfl ?_
  refine E_st rfl rfl rfl ?_ 
  refine E_st rfl rfl rfl ?_ 
  refine E_s (p' := 45) (st' := aA 35 :: _) rfl rfl ?_
  refine E_s (p' := 47) (st' := aI 60 :: _) rfl rfl ?_
  refine E_st rfl rfl rfl ?_ 
  refine E_st rfl rfl rfl ?_ 
  refine E_s (p' := 53) (st' := aA 35 :: _) rfl rfl ?_
  refine E_s (p' := 55) (st' := aI 60 :: _) rfl rfl ?_
  refine E_st rfl rfl rfl ?_ 
  refine E_st rfl rfl rfl ?_ 
  refine E_s (p' := 61) (st' := aA 35 :: _) rfl rfl ?_
  refine E_s (p' := 63) (st' := aI 60 :: _) rfl rfl ?_
  refine E_st rfl rfl rfl ?_ 
  refine E_st rfl rfl rfl ?_ 
  refine E_s (p' := 69) (st' := aA 35 :: _) rfl rfl ?_
  refine E_s (p' := 72) (st' := aI 601 :: _) rfl rfl ?_
  refine E_st rfl rfl rfl ?_ 
  refine E_st rfl rfl rfl ?_ 
  refine E_s (p' := 78) (st' := aA 35 :: _) rfl rfl ?_
  refine E_st rfl rfl rfl ?_ 
  refine E_s (p' := 82) (st' := aA 45 :: _) rfl rfl ?_
  refine E_callL (p' := 85) (L0 := [some (aA 45)]) rfl rfl rfl ?_
  refine E_s (p' := 1) (st' := aA 45 :: _) rfl rfl ?_
  refine E_st rfl rfl rfl ?_
  refine E_ret rfl rfl ?_
  refine E_st rfl rfl rfl ?_ 
  refine E_ret rfl rfl ?_
  refine E_st rfl rfl rfl ?_ 
  refine E_s (p' := 54) (st' := aA 20 :: _) rfl rfl ?_
  refine E_s (p' := 56) (st' := aI 15 :: _) rfl rfl ?_
  refine E_stM (p' := 59) (m' := up2 _ 20 5 15) rfl rfl ?_
  refine E_ret rfl rfl ?_
  refine E_st rfl rfl rfl ?_ 
  refine E_s (p' := 87) (L' := [some (aA 1), some (aI 1)]) rfl rfl ?_
  refine E_s (p' := 66) rfl rfl ?_
  refine E_s (p' := 67) (st' := aI 1 :: _) rfl rfl ?_
  refine E_s (p' := 68) (st' := aI 4 :: _) rfl rfl ?_
  refine E_s (p' := 71) rfl rfl ?_
  refine E_s (p' := 72) (st' := aA 1 :: _) rfl rfl ?_
  refine E_s (p' := 75) (st' := aA 2 :: _) rfl rfl ?_
  refine E_s (p' := 76) (st' := aI 1 :: _) rfl rfl ?_
  refine E_st rfl rfl rfl ?_ 
  refine E_s (p' := 80) (st' := aA 46 :: _) rfl rfl ?_
  refine E_callL (p' := 83) (L0 := [some (aA 46)]) rfl rfl rfl ?_
  refine E_s (p' := 1) (st' := aA 46 :: _) rfl rfl ?_
  refine E_st rfl rfl rfl ?_
  refine E_s (p' := 5) (st' := aA 46 :: _) rfl rfl ?_
  refine E_st rfl rfl rfl ?_ 
  refine E_s (p' := 9) (st' := aA 47 :: _) rfl rfl ?_
  refine E_callL (p' := 12) (L0 := [some (aA 47)]) rfl rfl rfl ?_
  refine E_s (p' := 1) (st' := aA 47 :: _) rfl rfl ?_
  refine E_st rfl rfl rfl ?_
  refine E_s (p' := 5) (st' := aA 47 :: _) rfl rfl ?_
  refine E_s (p' := 7) (st' := aI 60 :: _) rfl rfl ?_
  refine E_st rfl rfl rfl ?_ 
  refine E_st rfl rfl rfl ?_ 
  refine E_s (p' := 13) (st' := aA 47 :: _) rfl rfl ?_
  refine E_s (p' := 15) (st' := aI 60 :: _) rfl rfl ?_
  refine E_st rfl rfl rfl ?_ 
  refine E_st rfl rfl rfl ?_ 
  refine E_s (p' := 21) (st' := aA 47 :: _) rfl rfl ?_
  refine E_s (p' := 23) (st' := aI 60 :: _) rfl rfl ?_
  refine E_st rfl rfl rfl ?_ 
  refine E_st rfl rfl rfl ?_ 
  refine E_s (p' := 29) (st' := aA 47 :: _) rfl rfl ?_
  refine E_s (p' := 31) (st' := aI 60 :: _) rfl rfl ?_
  refine E_st rfl rfl rfl ?_ 
  refine E_st rfl rfl rfl ?_ 
  refine E_s (p' := 37) (st' := aA 47 :: _) rfl rfl ?_
  refine E_s (p' := 39) (st' := aI 60 :: _) rfl rfl ?_
  refine E_st rfl rfl rfl ?_ 
  refine E_st rfl rfl rfl ?_ 
  refine E_s (p' := 45) (st' := aA 47 :: _) rfl rfl ?_
  refine E_s (p' := 47) (st' := aI 60 :: _) rfl rfl ?_
  refine E_st rfl rfl rfl ?_ 
  refine E_st rfl rfl rfl ?_ 
  refine E_s (p' := 53) (st' := aA 47 :: _) rfl rfl ?_
  refine E_s (p' := 56) (st' := aI 1800 :: _) rfl rfl ?_
  refine E_st rfl rfl rfl ?_ 
  refine E_st rfl rfl rfl ?_ 
  refine E_ret rfl rfl ?_
  refine E_st rfl rfl rfl ?_ 
  refine E_s (p' := 16) (st' := aA 46 :: _) rfl rfl ?_
  refine E_st rfl rfl rfl ?_ 
  refine E_s (p' := 20) (st' := aA 55 :: _) rfl rfl ?_
  refine E_callL (p' := 23) (L0 := [some (aA 55)]) rfl rfl rfl ?_
  refine E_s (p' := 1) (st' := aA 55 :: _) rfl rfl ?_
  refine E_st rfl rfl rfl ?_
  refine E_s (p' := 5) (st' := aA 55 :: _) rfl rfl ?_
  refine E_s (p' := 7) (st' := aI 40 :: _) rfl rfl ?_
  refine E_st rfl rfl rfl ?_ 
  refine E_st rfl rfl rfl ?_ 
  refine E_s (p' := 13) (st' := aA 55 :: _) rfl rfl ?_
  refine E_s (p' := 15) (st' := aI 40 :: _) rfl rfl ?_
  refine E_st rfl rfl rfl ?_ 
  refine E_st rfl rfl rfl ?_ 
  refine E_s (p' := 21) (st' := aA 55 :: _) rfl rfl ?_
  refine E_s (p' := 24) (st' := aI 480 :: _) rfl rfl ?_
  refine E_st rfl rfl rfl ?_ 
  refine E_st rfl rfl rfl ?_ 
  refine E_ret rfl rfl ?_
  refine E_st rfl rfl rfl ?_ 
  refine E_s (p' := 27) (st' := aA 46 :: _) rfl rfl ?_
  refine E_s (p' := 29) (st' := aI 60 :: _) rfl rfl ?_
  refine E_st rfl rfl rfl ?_ 
  refine E_st rfl rfl rfl ?_ 
  refine E_s (p' := 35) (st' := aA 46 :: _) rfl rfl ?_
  refine E_s (p' := 37) (st' := aI 60 :: _) rfl rfl ?_
  refine E_st rfl rfl rfl ?_ 
  refine E_st rfl rfl rfl ?_ 
  refine E_s (p' := 43) (st' := aA 46 :: _) rfl rfl ?_
  refine E_st rfl rfl rfl ?_ 
  refine E_s (p' := 47) (st' := aA 61 :: _) rfl rfl ?_
  refine E_callL (p' := 50) (L0 := [some (aA 61)]) rfl rfl rfl ?_
  refine E_s (p' := 1) (st' := aA 61 :: _) rfl rfl ?_
  refine E_st rfl rfl rfl ?_
  refine E_s (p' := 5) (st' := aA 61 :: _) rfl rfl ?_
  refine E_s (p' := 7) (st' := aI 6 :: _) rfl rfl ?_
  refine E_st rfl rfl rfl ?_ 
  refine E_st rfl rfl rfl ?_ 
  refine E_s (p' := 13) (st' := aA 61 :: _) rfl rfl ?_
  refine E_s (p' := 15) (st' := aI 6 :: _) rfl rfl ?_
  refine E_st rfl rfl rfl ?_ 
  refine E_st rfl rfl rfl ?_ 
  refine E_s (p' := 21) (st' := aA 61 :: _) rfl rfl ?_
  refine E_s (p' := 23) (st' := aI 6 :: _) rfl rfl ?_
  refine E_st rfl rfl rfl ?_ 
  refine E_st rfl rfl rfl ?_ 
  refine E_s (p' := 29) (st' := aA 61 :: _) rfl rfl ?_
  refine E_s (p' := 31) (st' := aI 6 :: _) rfl rfl ?_
  refine E_st rfl rfl rfl ?_ 
  refine E_st rfl rfl rfl ?_ 
  refine E_s (p' := 37) (st' := aA 61 :: _) rfl rfl ?_
  refine E_s (p' := 39) (st' := aI 60 :: _) rfl rfl ?_
  refine E_st rfl rfl rfl ?_ 
  refine E_st rfl rfl rfl ?_ 
  refine E_s (p' := 45) (st' := aA 61 :: _) rfl rfl ?_
  refine E_s (p' := 47) (st' := aI 60 :: _) rfl rfl ?_
  refine E_st rfl rfl rfl ?_ 
  refine E_st rfl rfl rfl ?_ 
  refine E_s (p' := 53) (st' := aA 61 :: _) rfl rfl ?_
  refine E_s (p' := 55) (st' := aI 60 :: _) rfl rfl ?_
  refine E_st rfl rfl rfl ?_ 
  refine E_st rfl rfl rfl ?_ 
  refine E_s (p' := 61) (st' := aA 61 :: _) rfl rfl ?_
  refine E_s (p' := 63) (st' := aI 60 :: _) rfl rfl ?_
  refine E_st rfl rfl rfl ?_ 
  refine E_st rfl rfl rfl ?_ 
  refine E_s (p' := 69) (st' := aA 61 :: _) rfl rfl ?_
  refine E_s (p' := 72) (st' := aI 601 :: _) rfl rfl ?_
  refine E_st rfl rfl rfl ?_ 
  refine E_st rfl rfl rfl ?_ 
  refine E_s (p' := 78) (st' := aA 61 :: _) rfl rfl ?_
  refine E_st rfl rfl rfl ?_ 
  refine E_s (p' := 82) (st' := aA 71 :: _) rfl rfl ?_
  refine E_callL (p' := 85) (L0 := [some (aA 71)]) rfl rfl rfl ?_
  refine E_s (p' := 1) (st' := aA 71 :: _) rfl rfl ?_
  refine E_st rfl rfl rfl ?_
  refine E_ret rfl rfl ?_
  refine E_st rfl rfl rfl ?_ 
  refine E_ret rfl rfl ?_
  refine E_st rfl rfl rfl ?_ 
  refine E_s (p' := 54) (st' := aA 46 :: _) rfl rfl ?_
  refine E_s (p' := 56) (st' := aI 15 :: _) rfl rfl ?_
  refine E_stM (p' := 59) (m' := up2 _ 46 5 15) rfl rfl ?_
  refine E_ret rfl rfl ?_
  refine E_st rfl rfl rfl ?_ 
  refine E_s (p' := 87) (L' := [some (aA 1), some (aI 2)]) rfl rfl ?_
  refine E_s (p' := 66) rfl rfl ?_
  refine E_s (p' := 67) (st' := aI 2 :: _) rfl rfl ?_
  refine E_s (p' := 68) (st' := aI 4 :: _) rfl rfl ?_
  refine E_s (p' := 71) rfl rfl ?_
  refine E_s (p' := 72) (st' := aA 1 :: _) rfl rfl ?_
  refine E_s (p' := 75) (st' := aA 2 :: _) rfl rfl ?_
  refine E_s (p' := 76) (st' := aI 2 :: _) rfl rfl ?_
  refine E_st rfl rfl rfl ?_ 
  refine E_s (p' := 80) (st' := aA 72 :: _) rfl rfl ?_
  refine E_callL (p' := 83) (L0 := [some (aA 72)]) rfl rfl rfl ?_
  refine E_s (p' := 1) (st' := aA 72 :: _) rfl rfl ?_
  refine E_st rfl rfl rfl ?_
  refine E_s (p' := 5) (st' := aA 72 :: _) rfl rfl ?_
  refine E_st rfl rfl rfl ?_ 
  refine E_s (p' := 9) (st' := aA 73 :: _) rfl rfl ?_
  refine E_callL (p' := 12) (L0 := [some (aA 73)]) rfl rfl rfl ?_
  refine E_s (p' := 1) (st' := aA 73 :: _) rfl rfl ?_
  refine E_st rfl rfl rfl ?_
  refine E_s (p' := 5) (st' := aA 73 :: _) rfl rfl ?_
  refine E_s (p' := 7) (st' := aI 60 :: _) rfl rfl ?_
  refine E_st rfl rfl rfl ?_ 
  refine E_st rfl rfl rfl ?_ 
  refine E_s (p' := 13) (st' := aA 73 :: _) rfl rfl ?_
  refine E_s (p' := 15) (st' := aI 60 :: _) rfl rfl ?_
  refine E_st rfl rfl rfl ?_ 
  refine E_st rfl rfl rfl ?_ 
  refine E_s (p' := 21) (st' := aA 73 :: _) rfl rfl ?_
  refine E_s (p' := 23) (st' := aI 60 :: _) rfl rfl ?_
  refine E_st rfl rfl rfl ?_ 
  refine E_st rfl rfl rfl ?_ 
  refine E_s (p' := 29) (st' := aA 73 :: _) rfl rfl ?_
  refine E_s (p' := 31) (st' := aI 60 :: _) rfl rfl ?_
  refine E_st rfl rfl rfl ?_ 
  refine E_st rfl rfl rfl ?_ 
  refine E_s (p' := 37) (st' := aA 73 :: _) rfl rfl ?_
  refine E_s (p' := 39) (st' := aI 60 :: _) rfl rfl ?_
  refine E_st rfl rfl rfl ?_ 
  refine E_st rfl rfl rfl ?_ 
  refine E_s (p' := 45) (st' := aA 73 :: _) rfl rfl ?_
  refine E_s (p' := 47) (st' := aI 60 :: _) rfl rfl ?_
  refine E_st rfl rfl rfl ?_ 
  refine E_st rfl rfl rfl ?_ 
  refine E_s (p' := 53) (st' := aA 73 :: _) rfl rfl ?_
  refine E_s (p' := 56) (st' := aI 1800 :: _) rfl rfl ?_
  refine E_st rfl rfl rfl ?_ 
  refine E_st rfl rfl rfl ?_ 
  refine E_ret rfl rfl ?_
  refine E_st rfl rfl rfl ?_ 
  refine E_s (p' := 16) (st' := aA 72 :: _) rfl rfl ?_
  refine E_st rfl rfl rfl ?_ 
  refine E_s (p' := 20) (st' := aA 81 :: _) rfl rfl ?_
  refine E_callL (p' := 23) (L0 := [some (aA 81)]) rfl rfl rfl ?_
  refine E_s (p' := 1) (st' := aA 81 :: _) rfl rfl ?_
  refine E_st rfl rfl rfl ?_
  refine E_s (p' := 5) (st' := aA 81 :: _) rfl rfl ?_
  refine E_s (p' := 7) (st' := aI 40 :: _) rfl rfl ?_
  refine E_st rfl rfl rfl ?_ 
  refine E_st rfl rfl rfl ?_ 
  refine E_s (p' := 13) (st' := aA 81 :: _) rfl rfl ?_
  refine E_s (p' := 15) (st' := aI 40 :: _) rfl rfl ?_
  refine E_st rfl rfl rfl ?_ 
  refine E_st rfl rfl rfl ?_ 
  refine E_s (p' := 21) (st' := aA 81 :: _) rfl rfl ?_
  refine E_s (p' := 24) (st' := aI 480 :: _) rfl rfl ?_
  refine E_st rfl rfl rfl ?_ 
  refine E_st rfl rfl rfl ?_ 
  refine E_ret rfl rfl ?_
  refine E_st rfl rfl rfl ?_ 
  refine E_s (p' := 27) (st' := aA 72 :: _) rfl rfl ?_
  refine E_s (p' := 29) (st' := aI 60 :: _) rfl rfl ?_
  refine E_st rfl rfl rfl ?_ 
  refine E_st rfl rfl rfl ?_ 
  refine E_s (p' := 35) (st' := aA 72 :: _) rfl rfl ?_
  refine E_s (p' := 37) (st' := aI 60 :: _) rfl rfl ?_
  refine E_st rfl rfl rfl ?_ 
  refine E_st rfl rfl rfl ?_ 
  refine E_s (p' := 43) (st' := aA 72 :: _) rfl rfl ?_
  refine E_st rfl rfl rfl ?_ 
  refine E_s (p' := 47) (st' := aA 87 :: _) rfl rfl ?_
  refine E_callL (p' := 50) (L0 := [some (aA 87)]) rfl rfl rfl ?_
  refine E_s (p' := 1) (st' := aA 87 :: _) rfl rfl ?_
  refine E_st rfl rfl rfl ?_
  refine E_s (p' := 5) (st' := aA 87 :: _) rfl rfl ?_
  refine E_s (p' := 7) (st' := aI 6 :: _) rfl rfl ?_
  refine E_st rfl rfl rfl ?_ 
  refine E_st rfl rfl rfl ?_ 
  refine E_s (p' := 13) (st' := aA 87 :: _) rfl rfl ?_
  refine E_s (p' := 15) (st' := aI 6 :: _) rfl rfl ?_
  refine E_st rfl rfl rfl ?_ 
  refine E_st rfl rfl rfl ?_ 
  refine E_s (p' := 21) (st' := aA 87 :: _) rfl rfl ?_
  refine E_s (p' := 23) (st' := aI 6 :: _) rfl rfl ?_
  refine E_st rfl rfl rfl ?_ 
  refine E_st rfl rfl rfl ?_ 
  refine E_s (p' := 29) (st' := aA 87 :: _) rfl rfl ?_
  refine E_s (p' := 31) (st' := aI 6 :: _) rfl rfl ?_
  refine E_st rfl rfl rfl ?_ 
  refine E_st rfl rfl rfl ?_ 
  refine E_s (p' := 37) (st' := aA 87 :: _) rfl rfl ?_
  refine E_s (p' := 39) (st' := aI 60 :: _) rfl rfl ?_
  refine E_st rfl rfl rfl ?_ 
  refine E_st rfl rfl rfl ?_ 
  refine E_s (p' := 45) (st' := aA 87 :: _) rfl rfl ?_
  refine E_s (p' := 47) (st' := aI 60 :: _) rfl rfl ?_
  refine E_st rfl rfl rfl ?_ 
  refine E_st rfl rfl rfl ?_ 
  refine E_s (p' := 53) (st' := aA 87 :: _) rfl rfl ?_
  refine E_s (p' := 55) (st' := aI 60 :: _) rfl rfl ?_
  refine E_st rfl rfl rfl ?_ 
  refine E_st rfl rfl rfl ?_ 
  refine E_s (p' := 61) (st' := aA 87 :: _) rfl rfl ?_
  refine E_s (p' := 63) (st' := aI 60 :: _) rfl rfl ?_
  refine E_st rfl rfl rfl ?_ 
  refine E_st rfl rfl rfl ?_ 
  refine E_s (p' := 69) (st' := aA 87 :: _) rfl rfl ?_
  refine E_s (p' := 72) (st' := aI 601 :: _) rfl rfl ?_
  refine E_st rfl rfl rfl ?_ 
  refine E_st rfl rfl rfl ?_ 
  refine E_s (p' := 78) (st' := aA 87 :: _) rfl rfl ?_
  refine E_st rfl rfl rfl ?_ 
  refine E_s (p' := 82) (st' := aA 97 :: _) rfl rfl ?_
  refine E_callL (p' := 85) (L0 := [some (aA 97)]) rfl rfl rfl ?_
  refine E_s (p' := 1) (st' := aA 97 :: _) rfl rfl ?_
  refine E_st rfl rfl rfl ?_
  refine E_ret rfl rfl ?_
  refine E_st rfl rfl rfl ?_ 
  refine E_ret rfl rfl ?_
  refine E_st rfl rfl rfl ?_ 
  refine E_s (p' := 54) (st' := aA 72 :: _) rfl rfl ?_
  refine E_s (p' := 56) (st' := aI 15 :: _) rfl rfl ?_
  refine E_stM (p' := 59) (m' := up2 _ 72 5 15) rfl rfl ?_
  refine E_ret rfl rfl ?_
  refine E_st rfl rfl rfl ?_ 
  refine E_s (p' := 87) (L' := [some (aA 1), some (aI 3)]) rfl rfl ?_
  refine E_s (p' := 66) rfl rfl ?_
  refine E_s (p' := 67) (st' := aI 3 :: _) rfl rfl ?_
  refine E_s (p' := 68) (st' := aI 4 :: _) rfl rfl ?_
  refine E_s (p' := 71) rfl rfl ?_
  refine E_s (p' := 72) (st' := aA 1 :: _) rfl rfl ?_
  refine E_s (p' := 75) (st' := aA 2 :: _) rfl rfl ?_
  refine E_s (p' := 76) (st' := aI 3 :: _) rfl rfl ?_
  refine E_st rfl rfl rfl ?_ 
  refine E_s (p' := 80) (st' := aA 98 :: _) rfl rfl ?_
  refine E_callL (p' := 83) (L0 := [some (aA 98)]) rfl rfl rfl ?_
  refine E_s (p' := 1) (st' := aA 98 :: _) rfl rfl ?_
  refine E_st rfl rfl rfl ?_
  refine E_s (p' := 5) (st' := aA 98 :: _) rfl rfl ?_
  refine E_st rfl rfl rfl ?_ 
  refine E_s (p' := 9) (st' := aA 99 :: _) rfl rfl ?_
  refine E_callL (p' := 12) (L0 := [some (aA 99)]) rfl rfl rfl ?_
  refine E_s (p' := 1) (st' := aA 99 :: _) rfl rfl ?_
  refine E_st rfl rfl rfl ?_
  refine E_s (p' := 5) (st' := aA 99 :: _) rfl rfl ?_
  refine E_s (p' := 7) (st' := aI 60 :: _) rfl rfl ?_
  refine E_st rfl rfl rfl ?_ 
  refine E_st rfl rfl rfl ?_ 
  refine E_s (p' := 13) (st' := aA 99 :: _) rfl rfl ?_
  refine E_s (p' := 15) (st' := aI 60 :: _) rfl rfl ?_
  refine E_st rfl rfl rfl ?_ 
  refine E_st rfl rfl rfl ?_ 
  refine E_s (p' := 21) (st' := aA 99 :: _) rfl rfl ?_
  refine E_s (p' := 23) (st' := aI 60 :: _) rfl rfl ?_
  refine E_st rfl rfl rfl ?_ 
  refine E_st rfl rfl rfl ?_ 
  refine E_s (p' := 29) (st' := aA 99 :: _) rfl rfl ?_
  refine E_s (p' := 31) (st' := aI 60 :: _) rfl rfl ?_
  refine E_st rfl rfl rfl ?_ 
  refine E_st rfl rfl rfl ?_ 
  refine E_s (p' := 37) (st' := aA 99 :: _) rfl rfl ?_
  refine E_s (p' := 39) (st' := aI 60 :: _) rfl rfl ?_
  refine E_st rfl rfl rfl ?_ 
  refine E_st rfl rfl rfl ?_ 
  refine E_s (p' := 45) (st' := aA 99 :: _) rfl rfl ?_
  refine E_s (p' := 47) (st' := aI 60 :: _) rfl rfl ?_
  refine E_st rfl rfl rfl ?_ 
  refine E_st rfl rfl rfl ?_ 
  refine E_s (p' := 53) (st' := aA 99 :: _) rfl rfl ?_
  refine E_s (p' := 56) (st' := aI 1800 :: _) rfl rfl ?_
  refine E_st rfl rfl rfl ?_ 
  refine E_st rfl rfl rfl ?_ 
  refine E_ret rfl rfl ?_
  refine E_st rfl rfl rfl ?_ 
  refine E_s (p' := 16) (st' := aA 98 :: _) rfl rfl ?_
  refine E_st rfl rfl rfl ?_ 
  refine E_s (p' := 20) (st' := aA 107 :: _) rfl rfl ?_
  refine E_callL (p' := 23) (L0 := [some (aA 107)]) rfl rfl rfl ?_
  refine E_s (p' := 1) (st' := aA 107 :: _) rfl rfl ?_
  refine E_st rfl rfl rfl ?_
  refine E_s (p' := 5) (st' := aA 107 :: _) rfl rfl ?_
  refine E_s (p' := 7) (st' := aI 40 :: _) rfl rfl ?_
  refine E_st rfl rfl rfl ?_ 
  refine E_st rfl rfl rfl ?_ 
  refine E_s (p' := 13) (st' := aA 107 :: _) rfl rfl ?_
  refine E_s (p' := 15) (st' := aI 40 :: _) rfl rfl ?_
  refine E_st rfl rfl rfl ?_ 
  refine E_st rfl rfl rfl ?_ 
  refine E_s (p' := 21) (st' := aA 107 :: _) rfl rfl ?_
  refine E_s (p' := 24) (st' := aI 480 :: _) rfl rfl ?_
  refine E_st rfl rfl rfl ?_ 
  refine E_st rfl rfl rfl ?_ 
  refine E_ret rfl rfl ?_
  refine E_st rfl rfl rfl ?_ 
  refine E_s (p' := 27) (st' := aA 98 :: _) rfl rfl ?_
  refine E_s (p' := 29) (st' := aI 60 :: _) rfl rfl ?_
  refine E_st rfl rfl rfl ?_ 
  refine E_st rfl rfl rfl ?_ 
  refine E_s (p' := 35) (st' := aA 98 :: _) rfl rfl ?_
  refine E_s (p' := 37) (st' := aI 60 :: _) rfl rfl ?_
  refine E_st rfl rfl rfl ?_ 
  refine E_st rfl rfl rfl ?_ 
  refine E_s (p' := 43) (st' := aA 98 :: _) rfl rfl ?_
  refine E_st rfl rfl rfl ?_ 
  refine E_s (p' := 47) (st' := aA 113 :: _) rfl rfl ?_
  refine E_callL (p' := 50) (L0 := [some (aA 113)]) rfl rfl rfl ?_
  refine E_s (p' := 1) (st' := aA 113 :: _) rfl rfl ?_
  refine E_st rfl rfl rfl ?_
  refine E_s (p' := 5) (st' := aA 113 :: _) rfl rfl ?_
  refine E_s (p' := 7) (st' := aI 6 :: _) rfl rfl ?_
  refine E_st rfl rfl rfl ?_ 
  refine E_st rfl rfl rfl ?_ 
  refine E_s (p' := 13) (st' := aA 113 :: _) rfl rfl ?_
  refine E_s (p' := 15) (st' := aI 6 :: _) rfl rfl ?_
  refine E_st rfl rfl rfl ?_ 
  refine E_st rfl rfl rfl ?_ 
  refine E_s (p' := 21) (st' := aA 113 :: _) rfl rfl ?_
  refine E_s (p' := 23) (st' := aI 6 :: _) rfl rfl ?_
  refine E_st rfl rfl rfl ?_ 
  refine E_st rfl rfl rfl ?_ 
  refine E_s (p' := 29) (st' := aA 113 :: _) rfl rfl ?_
  refine E_s (p' := 31) (st' := aI 6 :: _) rfl rfl ?_
  refine E_st rfl rfl rfl ?_ 
  refine E_st rfl rfl rfl ?_ 
  refine E_s (p' := 37) (st' := aA 113 :: _) rfl rfl ?_
  refine E_s (p' := 39) (st' := aI 60 :: _) rfl rfl ?_
  refine E_st rfl rfl rfl ?_ 
  refine E_st rfl rfl rfl ?_ 
  refine E_s (p' := 45) (st' := aA 113 :: _) rfl rfl ?_
  refine E_s (p' := 47) (st' := aI 60 :: _) rfl rfl ?_
  refine E_st rfl rfl rfl ?_ 
  refine E_st rfl rfl rfl ?_ 
  refine E_s (p' := 53) (st' := aA 113 :: _) rfl rfl ?_
  refine E_s (p' := 55) (st' := aI 60 :: _) rfl rfl ?_
  refine E_st rfl rfl rfl ?_ 
  refine E_st rfl rfl rfl ?_ 
  refine E_s (p' := 61) (st' := aA 113 :: _) rfl rfl ?_
  refine E_s (p' := 63) (st' := aI 60 :: _) rfl rfl ?_
  refine E_st rfl rfl rfl ?_ 
  refine E_st rfl rfl rfl ?_ 
  refine E_s (p' := 69) (st' := aA 113 :: _) rfl rfl ?_
  refine E_s (p' := 72) (st' := aI 601 :: _) rfl rfl ?_
  refine E_st rfl rfl rfl ?_ 
  refine E_st rfl rfl rfl ?_ 
  refine E_s (p' := 78) (st' := aA 113 :: _) rfl rfl ?_
  refine E_st rfl rfl rfl ?_ 
  refine E_s (p' := 82) (st' := aA 123 :: _) rfl rfl ?_
  refine E_callL (p' := 85) (L0 := [some (aA 123)]) rfl rfl rfl ?_
  refine E_s (p' := 1) (st' := aA 123 :: _) rfl rfl ?_
  refine E_st rfl rfl rfl ?_
  refine E_ret rfl rfl ?_
  refine E_st rfl rfl rfl ?_ 
  refine E_ret rfl rfl ?_
  refine E_st rfl rfl rfl ?_ 
  refine E_s (p' := 54) (st' := aA 98 :: _) rfl rfl ?_
  refine E_s (p' := 56) (st' := aI 15 :: _) rfl rfl ?_
  refine E_stM (p' := 59) (m' := up2 _ 98 5 15) rfl rfl ?_
  refine E_ret rfl rfl ?_
  refine E_st rfl rfl rfl ?_ 
  refine E_s (p' := 87) (L' := [some (aA 1), some (aI 4)]) rfl rfl ?_
  refine E_s (p' := 66) rfl rfl ?_
  refine E_s (p' := 67) (st' := aI 4 :: _) rfl rfl ?_
  refine E_s (p' := 68) (st' := aI 4 :: _) rfl rfl ?_
  refine E_s (p' := 90) rfl rfl ?_
  refine E_ret rfl rfl ?_
  refine E_s (p' := 8) (L' := [some (aA 0), some (aA 1), none, none]) rfl rfl ?_
  refine E_st rfl rfl rfl ?_ 
  refine E_s (p' := 12) (st' := aA 124 :: _) rfl rfl ?_
  refine E_callL (p' := 15) (L0 := [some (aA 124), none]) rfl rfl rfl ?_
  refine E_s (p' := 1) (st' := aA 124 :: _) rfl rfl ?_
  refine E_st rfl rfl rfl ?_
  refine E_s (p' := 5) (st' := aA 124 :: _) rfl rfl ?_
  refine E_s (p' := 6) (st' := aI 4 :: _) rfl rfl ?_
  refine E_st rfl rfl rfl ?_ 
  refine E_st rfl rfl rfl ?_ 
  refine E_s (p' := 12) (st' := aA 124 :: _) rfl rfl ?_
  refine E_s (p' := 13) (st' := aI 4 :: _) rfl rfl ?_
  refine E_st rfl rfl rfl ?_ 
  refine E_st rfl rfl rfl ?_ 
  refine E_s (p' := 19) (st' := aA 124 :: _) rfl rfl ?_
  refine E_s (p' := 22) (st' := aI 240 :: _) rfl rfl ?_
  refine E_st rfl rfl rfl ?_ 
  refine E_st rfl rfl rfl ?_ 
  refine E_s (p' := 28) (st' := aA 124 :: _) rfl rfl ?_
  refine E_s (p' := 31) (st' := aI 240 :: _) rfl rfl ?_
  refine E_st rfl rfl rfl ?_ 
  refine E_st rfl rfl rfl ?_ 
  refine E_s (p' := 37) (st' := aA 124 :: _) rfl rfl ?_
  refine E_s (p' := 40) (st' := aI 240 :: _) rfl rfl ?_
  refine E_st rfl rfl rfl ?_ 
  refine E_st rfl rfl rfl ?_ 
  refine E_s (p' := 46) (st' := aA 124 :: _) rfl rfl ?_
  refine E_s (p' := 49) (st' := aI 240 :: _) rfl rfl ?_
  refine E_st rfl rfl rfl ?_ 
  refine E_st rfl rfl rfl ?_ 
  refine E_s (p' := 55) (st' := aA 124 :: _) rfl rfl ?_
  refine E_s (p' := 58) (st' := aI 240 :: _) rfl rfl ?_
  refine E_st rfl rfl rfl ?_ 
  refine E_st rfl rfl rfl ?_ 
  refine E_s (p' := 64) (st' := aA 124 :: _) rfl rfl ?_
  refine E_s (p' := 67) (st' := aI 240 :: _) rfl rfl ?_
  refine E_st rfl rfl rfl ?_ 
  refine E_st rfl rfl rfl ?_ 
  refine E_s (p' := 73) (st' := aA 124 :: _) rfl rfl ?_
  refine E_s (p' := 76) (st' := aI 7200 :: _) rfl rfl ?_
  refine E_st rfl rfl rfl ?_ 
  refine E_st rfl rfl rfl ?_ 
  refine E_s (p' := 82) (st' := aA 124 :: _) rfl rfl ?_
  refine E_s (p' := 85) (st' := aI 7200 :: _) rfl rfl ?_
  refine E_st rfl rfl rfl ?_ 
  refine E_st rfl rfl rfl ?_ 
  refine E_s (p' := 91) (st' := aA 124 :: _) rfl rfl ?_
  refine E_s (p' := 94) (st' := aI 7200 :: _) rfl rfl ?_
  refine E_st rfl rfl rfl ?_ 
  refine E_st rfl rfl rfl ?_ 
  refine E_s (p' := 100) (st' := aA 124 :: _) rfl rfl ?_
  refine E_s (p' := 101) (st' := aI 4 :: _) rfl rfl ?_
  refine E_st rfl rfl rfl ?_ 
  refine E_st rfl rfl rfl ?_ 
  refine E_s (p' := 107) (st' := aA 124 :: _) rfl rfl ?_
  refine E_s (p' := 110) (st' := aI 160 :: _) rfl rfl ?_
  refine E_st rfl rfl rfl ?_ 
  refine E_st rfl rfl rfl ?_ 
  refine E_s (p' := 116) (st' := aA 124 :: _) rfl rfl ?_
  refine E_s (p' := 119) (st' := aI 160 :: _) rfl rfl ?_
  refine E_st rfl rfl rfl ?_ 
  refine E_st rfl rfl rfl ?_ 
  refine E_s (p' := 125) (st' := aA 124 :: _) rfl rfl ?_
  refine E_s (p' := 128) (st' := aI 1920 :: _) rfl rfl ?_
  refine E_st rfl rfl rfl ?_ 
  refine E_st rfl rfl rfl ?_ 
  refine E_s (p' := 134) (st' := aA 124 :: _) rfl rfl ?_
  refine E_s (p' := 135) (st' := aI 4 :: _) rfl rfl ?_
  refine E_st rfl rfl rfl ?_ 
  refine E_st rfl rfl rfl ?_ 
  refine E_s (p' := 141) (st' := aA 124 :: _) rfl rfl ?_
  refine E_s (p' := 143) (st' := aI 30 :: _) rfl rfl ?_
  refine E_st rfl rfl rfl ?_ 
  refine E_st rfl rfl rfl ?_ 
  refine E_s (p' := 149) (st' := aA 124 :: _) rfl rfl ?_
  refine E_s (p' := 151) (st' := aI 30 :: _) rfl rfl ?_
  refine E_st rfl rfl rfl ?_ 
  refine E_st rfl rfl rfl ?_ 
  refine E_s (p' := 157) (st' := aA 124 :: _) rfl rfl ?_
  refine E_s (p' := 159) (st' := aI 30 :: _) rfl rfl ?_
  refine E_st rfl rfl rfl ?_ 
  refine E_st rfl rfl rfl ?_ 
  refine E_s (p' := 165) (st' := aA 124 :: _) rfl rfl ?_
  refine E_s (p' := 168) (st' := aI 601 :: _) rfl rfl ?_
  refine E_st rfl rfl rfl ?_ 
  refine E_st rfl rfl rfl ?_ 
  refine E_s (p' := 174) (st' := aA 124 :: _) rfl rfl ?_
  refine E_s (p' := 177) (st' := aI 601 :: _) rfl rfl ?_
  refine E_st rfl rfl rfl ?_ 
  refine E_st rfl rfl rfl ?_ 
  refine E_s (p' := 183) (st' := aA 124 :: _) rfl rfl ?_
  refine E_s (p' := 186) (st' := aI 601 :: _) rfl rfl ?_
  refine E_st rfl rfl rfl ?_ 
  refine E_st rfl rfl rfl ?_ 
  refine E_s (p' := 192) (st' := aA 124 :: _) rfl rfl ?_
  refine E_s (p' := 195) (st' := aI 601 :: _) rfl rfl ?_
  refine E_st rfl rfl rfl ?_ 
  refine E_st rfl rfl rfl ?_ 
  refine E_s (p' := 201) (st' := aA 124 :: _) rfl rfl ?_
  refine E_s (p' := 203) (st' := aI 60 :: _) rfl rfl ?_
  refine E_st rfl rfl rfl ?_ 
  refine E_st rfl rfl rfl ?_ 
  refine E_s (p' := 209) (st' := aA 124 :: _) rfl rfl ?_
  refine E_s (p' := 211) (st' := aI 60 :: _) rfl rfl ?_
  refine E_st rfl rfl rfl ?_ 
  refine E_st rfl rfl rfl ?_ 
  refine E_s (p' := 217) (st' := aA 124 :: _) rfl rfl ?_
  refine E_s (p' := 219) (st' := aI 30 :: _) rfl rfl ?_
  refine E_st rfl rfl rfl ?_ 
  refine E_st rfl rfl rfl ?_ 
  refine E_s (p' := 225) (st' := aA 124 :: _) rfl rfl ?_
  refine E_s (p' := 227) (st' := aI 30 :: _) rfl rfl ?_
  refine E_st rfl rfl rfl ?_ 
  refine E_st rfl rfl rfl ?_ 
  refine E_s (p' := 233) (st' := aA 124 :: _) rfl rfl ?_
  refine E_s (p' := 235) (st' := aI 30 :: _) rfl rfl ?_
  refine E_st rfl rfl rfl ?_ 
  refine E_st rfl rfl rfl ?_ 
  refine E_s (p' := 241) (st' := aA 124 :: _) rfl rfl ?_
  refine E_s (p' := 243) (st' := aI 60 :: _) rfl rfl ?_
  refine E_st rfl rfl rfl ?_ 
  refine E_st rfl rfl rfl ?_ 
  refine E_s (p' := 249) (st' := aA 124 :: _) rfl rfl ?_
  refine E_s (p' := 251) (st' := aI 60 :: _) rfl rfl ?_
  refine E_st rfl rfl rfl ?_ 
  refine E_st rfl rfl rfl ?_ 
  refine E_s (p' := 257) (st' := aA 124 :: _) rfl rfl ?_
  refine E_s (p' := 259) (st' := aI 60 :: _) rfl rfl ?_
  refine E_st rfl rfl rfl ?_ 
  refine E_st rfl rfl rfl ?_ 
  refine E_s (p' := 265) (st' := aA 124 :: _) rfl rfl ?_
  refine E_s (p' := 267) (st' := aI 60 :: _) rfl rfl ?_
  refine E_st rfl rfl rfl ?_ 
  refine E_st rfl rfl rfl ?_ 
  refine E_s (p' := 273) (st' := aA 124 :: _) rfl rfl ?_
  refine E_s (p' := 275) (st' := aI 60 :: _) rfl rfl ?_
  refine E_st rfl rfl rfl ?_ 
  refine E_st rfl rfl rfl ?_ 
  refine E_s (p' := 281) (st' := aA 124 :: _) rfl rfl ?_
  refine E_s (p' := 283) (st' := aI 60 :: _) rfl rfl ?_
  refine E_st rfl rfl rfl ?_ 
  refine E_st rfl rfl rfl ?_ 
  refine E_s (p' := 289) (st' := aA 124 :: _) rfl rfl ?_
  refine E_s (p' := 292) (st' := aI 240 :: _) rfl rfl ?_
  refine E_st rfl rfl rfl ?_ 
  refine E_st rfl rfl rfl ?_ 
  refine E_s (p' := 298) (st' := aA 124 :: _) rfl rfl ?_
  refine E_s (p' := 301) (st' := aI 240 :: _) rfl rfl ?_
  refine E_st rfl rfl rfl ?_ 
  refine E_st rfl rfl rfl ?_ 
  refine E_s (p' := 307) (st' := aA 124 :: _) rfl rfl ?_
  refine E_s (p' := 308) (st' := aI 2 :: _) rfl rfl ?_
  refine E_st rfl rfl rfl ?_ 
  refine E_st rfl rfl rfl ?_ 
  refine E_s (p' := 314) (st' := aA 124 :: _) rfl rfl ?_
  refine E_s (p' := 317) (st' := aI 720 :: _) rfl rfl ?_
  refine E_st rfl rfl rfl ?_ 
  refine E_st rfl rfl rfl ?_ 
  refine E_s (p' := 323) (st' := aA 124 :: _) rfl rfl ?_
  refine E_s (p' := 325) (st' := aI 12 :: _) rfl rfl ?_
  refine E_st rfl rfl rfl ?_ 
  refine E_st rfl rfl rfl ?_ 
  refine E_s (p' := 331) (st' := aA 124 :: _) rfl rfl ?_
  refine E_s (p' := 333) (st' := aI 12 :: _) rfl rfl ?_
  refine E_st rfl rfl rfl ?_ 
  refine E_st rfl rfl rfl ?_ 
  refine E_s (p' := 339) (st' := aA 124 :: _) rfl rfl ?_
  refine E_s (p' := 342) (st' := aI 300 :: _) rfl rfl ?_
  refine E_st rfl rfl rfl ?_ 
  refine E_st rfl rfl rfl ?_ 
  refine E_s (p' := 348) (st' := aA 124 :: _) rfl rfl ?_
  refine E_s (p' := 351) (st' := aI 300 :: _) rfl rfl ?_
  refine E_st rfl rfl rfl ?_ 
  refine E_st rfl rfl rfl ?_ 
  refine E_s (p' := 357) (st' := aA 124 :: _) rfl rfl ?_
  refine E_s (p' := 359) (st' := aI 61 :: _) rfl rfl ?_
  refine E_st rfl rfl rfl ?_ 
  refine E_st rfl rfl rfl ?_ 
  refine E_s (p' := 365) (st' := aA 124 :: _) rfl rfl ?_
  refine E_s (p' := 367) (st' := aI 60 :: _) rfl rfl ?_
  refine E_st rfl rfl rfl ?_ 
  refine E_st rfl rfl rfl ?_ 
  refine E_s (p' := 373) (st' := aI 0 :: _) rfl rfl ?_
  refine E_s (p' := 374) (L' := [some (aA 124), some (aI 0)]) rfl rfl ?_
  refine E_s (p' := 375) (st' := aI 0 :: _) rfl rfl ?_
  refine E_s (p' := 376) (st' := aI 4 :: _) rfl rfl ?_
  refine E_s (p' := 379) rfl rfl ?_
  refine E_s (p' := 380) (st' := aA 124 :: _) rfl rfl ?_
  refine E_s (p' := 383) (st' := aA 126 :: _) rfl rfl ?_
  refine E_s (p' := 384) (st' := aI 0 :: _) rfl rfl ?_
  refine E_s (p' := 386) (st' := aI 15 :: _) rfl rfl ?_
  refine E_stM (p' := 387) (m' := up2 _ 126 0 15) rfl rfl ?_
  refine E_s (p' := 390) (L' := [some (aA 124), some (aI 1)]) rfl rfl ?_
  refine E_s (p' := 374) rfl rfl ?_
  refine E_s (p' := 375) (st' := aI 1 :: _) rfl rfl ?_
  refine E_s (p' := 376) (st' := aI 4 :: _) rfl rfl ?_
  refine E_s (p' := 379) rfl rfl ?_
  refine E_s (p' := 380) (st' := aA 124 :: _) rfl rfl ?_
  refine E_s (p' := 383) (st' := aA 126 :: _) rfl rfl ?_
  refine E_s (p' := 384) (st' := aI 1 :: _) rfl rfl ?_
  refine E_s (p' := 386) (st' := aI 15 :: _) rfl rfl ?_
  refine E_stM (p' := 387) (m' := up2 _ 126 1 15) rfl rfl ?_
  refine E_s (p' := 390) (L' := [some (aA 124), some (aI 2)]) rfl rfl ?_
  refine E_s (p' := 374) rfl rfl ?_
  refine E_s (p' := 375) (st' := aI 2 :: _) rfl rfl ?_
  refine E_s (p' := 376) (st' := aI 4 :: _) rfl rfl ?_
  refine E_s (p' := 379) rfl rfl ?_
  refine E_s (p' := 380) (st' := aA 124 :: _) rfl rfl ?_
  refine E_s (p' := 383) (st' := aA 126 :: _) rfl rfl ?_
  refine E_s (p' := 384) (st' := aI 2 :: _) rfl rfl ?_
  refine E_s (p' := 386) (st' := aI 15 :: _) rfl rfl ?_
  refine E_stM (p' := 387) (m' := up2 _ 126 2 15) rfl rfl ?_
  refine E_s (p' := 390) (L' := [some (aA 124), some (aI 3)]) rfl rfl ?_
  refine E_s (p' := 374) rfl rfl ?_
  refine E_s (p' := 375) (st' := aI 3 :: _) rfl rfl ?_
  refine E_s (p' := 376) (st' := aI 4 :: _) rfl rfl ?_
  refine E_s (p' := 379) rfl rfl ?_
  refine E_s (p' := 380) (st' := aA 124 :: _) rfl rfl ?_
  refine E_s (p' := 383) (st' := aA 126 :: _) rfl rfl ?_
  refine E_s (p' := 384) (st' := aI 3 :: _) rfl rfl ?_
  refine E_s (p' := 386) (st' := aI 15 :: _) rfl rfl ?_
  refine E_stM (p' := 387) (m' := up2 _ 126 3 15) rfl rfl ?_
  refine E_s (p' := 390) (L' := [some (aA 124), some (aI 4)]) rfl rfl ?_
  refine E_s (p' := 374) rfl rfl ?_
  refine E_s (p' := 375) (st' := aI 4 :: _) rfl rfl ?_
  refine E_s (p' := 376) (st' := aI 4 :: _) rfl rfl ?_
  refine E_s (p' := 393) rfl rfl ?_
  refine E_ret rfl rfl ?_
  refine E_s (p' := 16) (L' := [some (aA 0), some (aA 1), some (aA 124), none]) rfl rfl ?_
  refine E_s (p' := 17) (st' := aI 0 :: _) rfl rfl ?_
  refine E_s (p' := 18) (L' := [some (aA 0), some (aA 1), some (aA 124), some (aI 0)]) rfl rfl ?_
  exact hk
