set_option maxRecDepth 100000 in
set_option maxHeartbeats 40000000 in
theorem pc_25_0 (xs : Nat → Int) {z a2 a3 a4 a5 : Int} (hz : b32 (fun a b => a &&& b) z 31 = 25) (h0 : xs 0 = z) (h1 : xs 1 = 0) (h2 : xs 2 = a2) (h3 : xs 3 = a3) (h4 : xs 4 = a4) (h5 : xs 5 = a5) : E 0 18 LL [] (s0 xs 6) PQ := by
  refine E_s (p' := 19) (st' := aI 0 :: _) rfl rfl ?_
  refine E_s (p' := 20) (st' := aA 0 :: _) rfl rfl ?_
  refine E_s (p' := 21) (st' := aI 6 :: _) rfl rfl ?_
  refine E_s (p' := 23) (st' := aI 6 :: _) rfl rfl ?_
  refine E_s (p' := 24) (st' := aI 0 :: _) rfl rfl ?_
  refine E_s (p' := 27) rfl rfl ?_
  refine E_s (p' := 28) (st' := aA 0 :: _) rfl rfl ?_
  refine E_s (p' := 29) (st' := aI 0 :: _) rfl rfl ?_
  refine E_scr rfl rfl h0 ?_
  refine E_s (p' := 32) (st' := aI 31 :: _) rfl rfl ?_
  refine E_s (p' := 33) rfl rfl ?_
  refine E_val hz ?_
  refine E_s (p' := 1075) rfl rfl ?_
  refine E_s (p' := 1076) (st' := aA 1 :: _) rfl rfl ?_
  refine E_s (p' := 1077) (st' := aA 0 :: _) rfl rfl ?_
  refine E_s (p' := 1078) (st' := aI 0 :: _) rfl rfl ?_
  refine E_s (p' := 1079) (st' := aI 1 :: _) rfl rfl ?_
  refine E_s (p' := 1080) (st' := aI 1 :: _) rfl rfl ?_
  refine E_scr rfl rfl h1 ?_
  refine E_s (p' := 1082) (st' := aA 0 :: _) rfl rfl ?_
  refine E_s (p' := 1083) (st' := aI 0 :: _) rfl rfl ?_
  refine E_s (p' := 1084) (st' := aI 2 :: _) rfl rfl ?_
  refine E_s (p' := 1085) (st' := aI 2 :: _) rfl rfl ?_
  refine E_scr rfl rfl h2 ?_
  refine E_callL (p' := 1089) (L0 := [some (aA 1), some (aI 0), some (aI a2), none, none, none]) rfl rfl rfl ?_
  refine E_s (p' := 1) (st' := aA 1 :: _) rfl rfl ?_
  refine E_s (p' := 2) (st' := aI 0 :: _) rfl rfl ?_
  refine E_callL (p' := 5) (L0 := [some (aA 1), some (aI 0)]) rfl rfl rfl ?_
  refine E_s (p' := 1) (st' := aI 0 :: _) rfl rfl ?_
  refine E_s (p' := 4) rfl rfl ?_
  refine E_s (p' := 5) (st' := aI 0 :: _) rfl rfl ?_
  refine E_s (p' := 6) (st' := aI 4 :: _) rfl rfl ?_
  refine E_s (p' := 9) rfl rfl ?_
  refine E_s (p' := 10) (st' := aA 1 :: _) rfl rfl ?_
  refine E_s (p' := 13) (st' := aA 2 :: _) rfl rfl ?_
  refine E_s (p' := 14) (st' := aI 0 :: _) rfl rfl ?_
  refine E_s (p' := 15) (st' := aA 20 :: _) rfl rfl ?_
  refine E_s (p' := 19) rfl rfl ?_
  refine E_ret rfl rfl ?_
  refine E_s (p' := 6) (L' := [some (aA 1), some (aI 0), some (aI a2), some (aA 20), none, none]) rfl rfl ?_
  refine E_s (p' := 7) (st' := aA 20 :: _) rfl rfl ?_
  refine E_s (p' := 10) rfl rfl ?_
  refine E_s (p' := 11) rfl rfl ?_
  refine E_if_lt rfl (by decide) (fun _ => ?_) (fun _ => ?_)
  · refine E_s (p' := 21) (st' := aI (-1) :: _) rfl rfl ?_
    refine E_ret rfl rfl ?_
    refine E_s (p' := 1090) (st' := aA 124 :: _) rfl rfl ?_
    refine E_s (p' := 1091) (st' := aA 0 :: _) rfl rfl ?_
    refine E_s (p' := 1092) (st' := aI 0 :: _) rfl rfl ?_
    refine E_s (p' := 1093) (st' := aI 1 :: _) rfl rfl ?_
    refine E_s (p' := 1094) (st' := aI 1 :: _) rfl rfl ?_
    refine E_scr rfl rfl h1 ?_
    refine E_s (p' := 1096) (st' := aA 0 :: _) rfl rfl ?_
    refine E_s (p' := 1097) (st' := aI 0 :: _) rfl rfl ?_
    refine E_s (p' := 1098) (st' := aI 2 :: _) rfl rfl ?_
    refine E_s (p' := 1099) (st' := aI 2 :: _) rfl rfl ?_
    refine E_scr rfl rfl h2 ?_
    refine E_callL (p' := 1103) (L0 := [some (aA 124), some (aI 0), some (aI a2), none, none, none, none]) rfl rfl rfl ?_
    refine E_s (p' := 1) (st' := aI 0 :: _) rfl rfl ?_
    refine E_callL (p' := 4) (L0 := [some (aI 0)]) rfl rfl rfl ?_
    refine E_s (p' := 1) (st' := aI 0 :: _) rfl rfl ?_
    refine E_s (p' := 2) (st' := aI 0 :: _) rfl rfl ?_
    refine E_s (p' := 3) (st' := aI 3 :: _) rfl rfl ?_
    refine E_callL (p' := 6) (L0 := [some (aI 0), some (aI 0), some (aI 3)]) rfl rfl rfl ?_
    refine E_s (p' := 1) (st' := aI 0 :: _) rfl rfl ?_
    refine E_s (p' := 2) (st' := aI 0 :: _) rfl rfl ?_
    refine E_s (p' := 5) rfl rfl ?_
    refine E_s (p' := 6) (st' := aI 0 :: _) rfl rfl ?_
    refine E_s (p' := 7) (st' := aI 3 :: _) rfl rfl ?_
    refine E_s (p' := 10) rfl rfl ?_
    refine E_s (p' := 11) (st' := aI 1 :: _) rfl rfl ?_
    refine E_s (p' := 15) rfl rfl ?_
    refine E_ret rfl rfl ?_
    refine E_ret rfl rfl ?_
    refine E_s (p' := 7) rfl rfl ?_
    refine E_s (p' := 8) rfl rfl ?_
    refine E_s (p' := 9) (st' := aI 0 :: _) rfl rfl ?_
    refine E_s (p' := 11) (st' := aI 11 :: _) rfl rfl ?_
    refine E_callL (p' := 14) (L0 := [some (aI a2), some (aI 0), some (aI 11)]) rfl rfl rfl ?_
    refine E_s (p' := 1) rfl rfl ?_
    refine E_s (p' := 2) (st' := aI 0 :: _) rfl rfl ?_
    refine E_icmp_lt (y := 0) rfl (by decide) (fun _ => ?_) (fun q => absurd q (by omega))
    refine E_s (p' := 15) (st' := aI 0 :: _) rfl rfl ?_
    refine E_ret rfl rfl ?_
    refine E_s (p' := 17) rfl rfl ?_
    refine E_s (p' := 18) (st' := aI (-1) :: _) rfl rfl ?_
    refine E_ret rfl rfl ?_
    refine E_s (p' := 1174) rfl rfl ?_
    refine E_s (p' := 1177) (L' := [some (aA 0), some (aA 1), some (aA 124), some (aI 6)]) rfl rfl ?_
    refine E_s (p' := 18) rfl rfl ?_
    refine E_s (p' := 19) (st' := aI 6 :: _) rfl rfl ?_
    refine E_s (p' := 20) (st' := aA 0 :: _) rfl rfl ?_
    refine E_s (p' := 21) (st' := aI 6 :: _) rfl rfl ?_
    refine E_s (p' := 23) (st' := aI 6 :: _) rfl rfl ?_
    refine E_s (p' := 24) (st' := aI 0 :: _) rfl rfl ?_
    refine E_s (p' := 1180) rfl rfl ?_
    refine E_s (p' := 1181) (st' := aI 1 :: _) rfl rfl ?_
    exact E_ret rfl rfl ⟨rfl, rfl⟩
  · refine E_s (p' := 15) rfl rfl ?_
    refine E_s (p' := 17) (st' := aI 12 :: _) rfl rfl ?_
    refine E_icmp_lt (y := 12) rfl (by decide) (fun _ => ?_) (fun _ => ?_)
    · refine E_s (p' := 23) (st' := aA 20 :: _) rfl rfl ?_
      refine E_s (p' := 26) (st' := aA 21 :: _) rfl rfl ?_
      refine E_s (p' := 27) rfl rfl ?_
      refine E_s (p' := 28) (st' := aA 1 :: _) rfl rfl ?_
      refine E_s (p' := 31) (st' := aA 19 :: _) rfl rfl ?_
      refine E_callL (p' := 34) (L0 := [some (aA 21), some (aI a2), some (aA 19), none, none]) rfl rfl rfl ?_
      refine E_s (p' := 1) (st' := aI 0 :: _) rfl rfl ?_
      refine E_s (p' := 2) (L' := [some (aA 21), some (aI a2), some (aA 19), some (aI 0), none]) rfl rfl ?_
      refine E_s (p' := 3) (st' := aI 0 :: _) rfl rfl ?_
      refine E_s (p' := 5) (L' := [some (aA 21), some (aI a2), some (aA 19), some (aI 0), some (aI 0)]) rfl rfl ?_
      refine E_s (p' := 7) (st' := aI 0 :: _) rfl rfl ?_
      refine E_s (p' := 8) (st' := aA 21 :: _) rfl rfl ?_
      refine E_s (p' := 11) (st' := aI 0 :: _) rfl rfl ?_
      refine E_s (p' := 44) rfl rfl ?_
      refine E_s (p' := 45) (st' := aI 0 :: _) rfl rfl ?_
      refine E_ret rfl rfl ?_
      refine E_s (p' := 36) (L' := [some (aA 1), some (aI 0), some (aI a2), some (aA 20), some (aI 0), none]) rfl rfl ?_
      refine E_s (p' := 37) (st' := aI 1 :: _) rfl rfl ?_
      refine E_s (p' := 39) (L' := [some (aA 1), some (aI 0), some (aI a2), some (aA 20), some (aI 0), some (aI 1)]) rfl rfl ?_
      refine E_s (p' := 41) (st' := aI 1 :: _) rfl rfl ?_
      refine E_s (p' := 43) (st' := aI 0 :: _) rfl rfl ?_
      refine E_s (p' := 69) rfl rfl ?_
      refine E_s (p' := 70) (st' := aI (-1) :: _) rfl rfl ?_
      refine E_ret rfl rfl ?_
      refine E_s (p' := 1090) (st' := aA 124 :: _) rfl rfl ?_
      refine E_s (p' := 1091) (st' := aA 0 :: _) rfl rfl ?_
      refine E_s (p' := 1092) (st' := aI 0 :: _) rfl rfl ?_
      refine E_s (p' := 1093) (st' := aI 1 :: _) rfl rfl ?_
      refine E_s (p' := 1094) (st' := aI 1 :: _) rfl rfl ?_
      refine E_scr rfl rfl h1 ?_
      refine E_s (p' := 1096) (st' := aA 0 :: _) rfl rfl ?_
      refine E_s (p' := 1097) (st' := aI 0 :: _) rfl rfl ?_
      refine E_s (p' := 1098) (st' := aI 2 :: _) rfl rfl ?_
      refine E_s (p' := 1099) (st' := aI 2 :: _) rfl rfl ?_
      refine E_scr rfl rfl h2 ?_
      refine E_callL (p' := 1103) (L0 := [some (aA 124), some (aI 0), some (aI a2), none, none, none, none]) rfl rfl rfl ?_
      refine E_s (p' := 1) (st' := aI 0 :: _) rfl rfl ?_
      refine E_callL (p' := 4) (L0 := [some (aI 0)]) rfl rfl rfl ?_
      refine E_s (p' := 1) (st' := aI 0 :: _) rfl rfl ?_
      refine E_s (p' := 2) (st' := aI 0 :: _) rfl rfl ?_
      refine E_s (p' := 3) (st' := aI 3 :: _) rfl rfl ?_
      refine E_callL (p' := 6) (L0 := [some (aI 0), some (aI 0), some (aI 3)]) rfl rfl rfl ?_
      refine E_s (p' := 1) (st' := aI 0 :: _) rfl rfl ?_
      refine E_s (p' := 2) (st' := aI 0 :: _) rfl rfl ?_
      refine E_s (p' := 5) rfl rfl ?_
      refine E_s (p' := 6) (st' := aI 0 :: _) rfl rfl ?_
      refine E_s (p' := 7) (st' := aI 3 :: _) rfl rfl ?_
      refine E_s (p' := 10) rfl rfl ?_
      refine E_s (p' := 11) (st' := aI 1 :: _) rfl rfl ?_
      refine E_s (p' := 15) rfl rfl ?_
      refine E_ret rfl rfl ?_
      refine E_ret rfl rfl ?_
      refine E_s (p' := 7) rfl rfl ?_
      refine E_s (p' := 8) rfl rfl ?_
      refine E_s (p' := 9) (st' := aI 0 :: _) rfl rfl ?_
      refine E_s (p' := 11) (st' := aI 11 :: _) rfl rfl ?_
      refine E_callL (p' := 14) (L0 := [some (aI a2), some (aI 0), some (aI 11)]) rfl rfl rfl ?_
      refine E_s (p' := 1) rfl rfl ?_
      refine E_s (p' := 2) (st' := aI 0 :: _) rfl rfl ?_
      refine E_icmp_lt (y := 0) rfl (by decide) (fun q => absurd q (by omega)) (fun _ => ?_)
      refine E_s (p' := 6) rfl rfl ?_
      refine E_s (p' := 7) (st' := aI 11 :: _) rfl rfl ?_
      refine E_icmp_gt (y := 11) rfl (by decide) (fun q => absurd q (by omega)) (fun _ => ?_)
      refine E_s (p' := 11) (st' := aI 1 :: _) rfl rfl ?_
      refine E_s (p' := 15) rfl rfl ?_
      refine E_ret rfl rfl ?_
      refine E_s (p' := 19) rfl rfl ?_
      refine E_s (p' := 20) (st' := aA 124 :: _) rfl rfl ?_
      refine E_s (p' := 21) (st' := aI 0 :: _) rfl rfl ?_
      refine E_callL (p' := 24) (L0 := [some (aA 124), some (aI 0), none, none]) rfl rfl rfl ?_
      refine E_s (p' := 1) (st' := aA 124 :: _) rfl rfl ?_
      refine E_s (p' := 2) (st' := aI 0 :: _) rfl rfl ?_
      refine E_s (p' := 3) (st' := aA 124 :: _) rfl rfl ?_
      refine E_s (p' := 6) (st' := aA 148 :: _) rfl rfl ?_
      refine E_callL (p' := 9) (L0 := [some (aA 124), some (aI 0), some (aA 148), none]) rfl rfl rfl ?_
      refine E_s (p' := 1) (st' := aA 124 :: _) rfl rfl ?_
      refine E_s (p' := 2) (st' := aI 0 :: _) rfl rfl ?_
      refine E_callL (p' := 5) (L0 := [some (aA 124), some (aI 0), none, none]) rfl rfl rfl ?_
      refine E_s (p' := 1) (st' := aI 0 :: _) rfl rfl ?_
      refine E_s (p' := 2) (L' := [some (aA 124), some (aI 0), some (aI 0), none]) rfl rfl ?_
      refine mr_loop1 _ 601 0 _ rfl ?_
      refine E_s (p' := 23) (st' := aA 124 :: _) rfl rfl ?_
      refine E_s (p' := 24) (st' := aI 0 :: _) rfl rfl ?_
      refine E_stM (p' := 27) (m' := up2 _ 124 25 0) rfl rfl ?_
      refine E_s (p' := 28) (st' := aA 124 :: _) rfl rfl ?_
      refine E_s (p' := 29) (st' := aI 0 :: _) rfl rfl ?_
      refine E_stM (p' := 32) (m' := up2 _ 124 26 0) rfl rfl ?_
      refine E_s (p' := 33) (st' := aI 0 :: _) rfl rfl ?_
      refine E_s (p' := 34) (L' := [some (aA 124), some (aI 0), some (aI 0), none]) rfl rfl ?_
      refine E_s (p' := 35) (st' := aI 0 :: _) rfl rfl ?_
      refine E_s (p' := 36) (st' := aA 124 :: _) rfl rfl ?_
      refine E_s (p' := 39) (st' := aA 125 :: _) rfl rfl ?_
      refine E_s (p' := 40) (st' := aI 0 :: _) rfl rfl ?_
      refine E_s (p' := 41) (st' := aI 0 :: _) rfl rfl ?_
      refine E_s (p' := 121) rfl rfl ?_
      refine E_s (p' := 122) (st' := aA 124 :: _) rfl rfl ?_
      refine E_s (p' := 123) (st' := aI 0 :: _) rfl rfl ?_
      refine E_stM (p' := 126) (m' := up2 _ 124 24 0) rfl rfl ?_
      refine E_s (p' := 127) (st' := aI 0 :: _) rfl rfl ?_
      refine E_s (p' := 128) (L' := [some (aA 124), some (aI 0), some (aI 0), none]) rfl rfl ?_
      refine mr_loop3 _ 601 0 _ rfl (fun j hj => show (if 0 ≤ j ∧ j < 601 then (0 : Int) else _) = 0 from if_pos ⟨Nat.zero_le _, hj⟩) ?_
      refine E_s (p' := 245) (st' := aA 124 :: _) rfl rfl ?_
      refine E_s (p' := 248) (st' := aI 0 :: _) rfl rfl ?_
      refine E_s (p' := 249) (st' := aA 124 :: _) rfl rfl ?_
      refine E_s (p' := 252) (st' := aI 0 :: _) rfl rfl ?_
      refine E_s (p' := 259) rfl rfl ?_
      refine E_s (p' := 260) (st' := aI 1 :: _) rfl rfl ?_
      refine E_s (p' := 261) (st' := aI 1 :: _) rfl rfl ?_
      refine E_s (p' := 263) (st' := aI 6 :: _) rfl rfl ?_
      refine E_s (p' := 271) rfl rfl ?_
      refine E_s (p' := 272) (st' := aA 124 :: _) rfl rfl ?_
      refine E_s (p' := 275) (st' := aI 0 :: _) rfl rfl ?_
      refine E_s (p' := 282) rfl rfl ?_
      refine E_s (p' := 283) (st' := aI 0 :: _) rfl rfl ?_
      refine E_ret rfl rfl ?_
      refine E_s (p' := 6) rfl rfl ?_
      refine E_s (p' := 7) (st' := aI 0 :: _) rfl rfl ?_
      refine E_s (p' := 8) (L' := [some (aA 124), some (aI 0), some (aA 148), some (aI 0)]) rfl rfl ?_
      refine E_s (p' := 9) (st' := aI 0 :: _) rfl rfl ?_
      refine E_s (p' := 10) (st' := aA 124 :: _) rfl rfl ?_
      refine E_s (p' := 13) (st' := aA 125 :: _) rfl rfl ?_
      refine E_s (p' := 14) (st' := aI 0 :: _) rfl rfl ?_
      refine E_s (p' := 15) (st' := aI 0 :: _) rfl rfl ?_
      refine E_s (p' := 58) rfl rfl ?_
      refine E_ret rfl rfl ?_
      refine E_s (p' := 10) (st' := aI 0 :: _) rfl rfl ?_
      refine E_s (p' := 11) (L' := [some (aA 124), some (aI 0), some (aI 0), none]) rfl rfl ?_
      refine E_s (p' := 12) (st' := aI 0 :: _) rfl rfl ?_
      refine E_s (p' := 14) (st' := aI 12 :: _) rfl rfl ?_
      refine E_s (p' := 17) rfl rfl ?_
      refine E_s (p' := 18) (st' := aA 124 :: _) rfl rfl ?_
      refine E_s (p' := 21) (st' := aA 163 :: _) rfl rfl ?_
      refine E_s (p' := 22) (st' := aI 0 :: _) rfl rfl ?_
      refine E_s (p' := 23) (st' := aI 0 :: _) rfl rfl ?_
      refine E_stM (p' := 24) (m' := up2 _ 163 0 0) rfl rfl ?_
      refine E_s (p' := 25) (st' := aA 124 :: _) rfl rfl ?_
      refine E_s (p' := 28) (st' := aA 164 :: _) rfl rfl ?_
      refine E_s (p' := 29) (st' := aI 0 :: _) rfl rfl ?_
      refine E_s (p' := 30) (st' := aI 1 :: _) rfl rfl ?_
      refine E_stM (p' := 31) (m' := up2 _ 164 0 1) rfl rfl ?_
      refine E_s (p' := 34) (L' := [some (aA 124), some (aI 0), some (aI 1), none]) rfl rfl ?_
      refine E_s (p' := 11) rfl rfl ?_
      refine E_s (p' := 12) (st' := aI 1 :: _) rfl rfl ?_
      refine E_s (p' := 14) (st' := aI 12 :: _) rfl rfl ?_
      refine E_s (p' := 17) rfl rfl ?_
      refine E_s (p' := 18) (st' := aA 124 :: _) rfl rfl ?_
      refine E_s (p' := 21) (st' := aA 163 :: _) rfl rfl ?_
      refine E_s (p' := 22) (st' := aI 1 :: _) rfl rfl ?_
      refine E_s (p' := 23) (st' := aI 0 :: _) rfl rfl ?_
      refine E_stM (p' := 24) (m' := up2 _ 163 1 0) rfl rfl ?_
      refine E_s (p' := 25) (st' := aA 124 :: _) rfl rfl ?_
      refine E_s (p' := 28) (st' := aA 164 :: _) rfl rfl ?_
      refine E_s (p' := 29) (st' := aI 1 :: _) rfl rfl ?_
      refine E_s (p' := 30) (st' := aI 1 :: _) rfl rfl ?_
      refine E_stM (p' := 31) (m' := up2 _ 164 1 1) rfl rfl ?_
      refine E_s (p' := 34) (L' := [some (aA 124), some (aI 0), some (aI 2), none]) rfl rfl ?_
      refine E_s (p' := 11) rfl rfl ?_
      refine E_s (p' := 12) (st' := aI 2 :: _) rfl rfl ?_
      refine E_s (p' := 14) (st' := aI 12 :: _) rfl rfl ?_
      refine E_s (p' := 17) rfl rfl ?_
      refine E_s (p' := 18) (st' := aA 124 :: _) rfl rfl ?_
      refine E_s (p' := 21) (st' := aA 163 :: _) rfl rfl ?_
      refine E_s (p' := 22) (st' := aI 2 :: _) rfl rfl ?_
      refine E_s (p' := 23) (st' := aI 0 :: _) rfl rfl ?_
      refine E_stM (p' := 24) (m' := up2 _ 163 2 0) rfl rfl ?_
      refine E_s (p' := 25) (st' := aA 124 :: _) rfl rfl ?_
      refine E_s (p' := 28) (st' := aA 164 :: _) rfl rfl ?_
      refine E_s (p' := 29) (st' := aI 2 :: _) rfl rfl ?_
      refine E_s (p' := 30) (st' := aI 1 :: _) rfl rfl ?_
      refine E_stM (p' := 31) (m' := up2 _ 164 2 1) rfl rfl ?_
      refine E_s (p' := 34) (L' := [some (aA 124), some (aI 0), some (aI 3), none]) rfl rfl ?_
      refine E_s (p' := 11) rfl rfl ?_
      refine E_s (p' := 12) (st' := aI 3 :: _) rfl rfl ?_
      refine E_s (p' := 14) (st' := aI 12 :: _) rfl rfl ?_
      refine E_s (p' := 17) rfl rfl ?_
      refine E_s (p' := 18) (st' := aA 124 :: _) rfl rfl ?_
      refine E_s (p' := 21) (st' := aA 163 :: _) rfl rfl ?_
      refine E_s (p' := 22) (st' := aI 3 :: _) rfl rfl ?_
      refine E_s (p' := 23) (st' := aI 0 :: _) rfl rfl ?_
      refine E_stM (p' := 24) (m' := up2 _ 163 3 0) rfl rfl ?_
      refine E_s (p' := 25) (st' := aA 124 :: _) rfl rfl ?_
      refine E_s (p' := 28) (st' := aA 164 :: _) rfl rfl ?_
      refine E_s (p' := 29) (st' := aI 3 :: _) rfl rfl ?_
      refine E_s (p' := 30) (st' := aI 1 :: _) rfl rfl ?_
      refine E_stM (p' := 31) (m' := up2 _ 164 3 1) rfl rfl ?_
      refine E_s (p' := 34) (L' := [some (aA 124), some (aI 0), some (aI 4), none]) rfl rfl ?_
      refine E_s (p' := 11) rfl rfl ?_
      refine E_s (p' := 12) (st' := aI 4 :: _) rfl rfl ?_
      refine E_s (p' := 14) (st' := aI 12 :: _) rfl rfl ?_
      refine E_s (p' := 17) rfl rfl ?_
      refine E_s (p' := 18) (st' := aA 124 :: _) rfl rfl ?_
      refine E_s (p' := 21) (st' := aA 163 :: _) rfl rfl ?_
      refine E_s (p' := 22) (st' := aI 4 :: _) rfl rfl ?_
      refine E_s (p' := 23) (st' := aI 0 :: _) rfl rfl ?_
      refine E_stM (p' := 24) (m' := up2 _ 163 4 0) rfl rfl ?_
      refine E_s (p' := 25) (st' := aA 124 :: _) rfl rfl ?_
      refine E_s (p' := 28) (st' := aA 164 :: _) rfl rfl ?_
      refine E_s (p' := 29) (st' := aI 4 :: _) rfl rfl ?_
      refine E_s (p' := 30) (st' := aI 1 :: _) rfl rfl ?_
      refine E_stM (p' := 31) (m' := up2 _ 164 4 1) rfl rfl ?_
      refine E_s (p' := 34) (L' := [some (aA 124), some (aI 0), some (aI 5), none]) rfl rfl ?_
      refine E_s (p' := 11) rfl rfl ?_
      refine E_s (p' := 12) (st' := aI 5 :: _) rfl rfl ?_
      refine E_s (p' := 14) (st' := aI 12 :: _) rfl rfl ?_
      refine E_s (p' := 17) rfl rfl ?_
      refine E_s (p' := 18) (st' := aA 124 :: _) rfl rfl ?_
      refine E_s (p' := 21) (st' := aA 163 :: _) rfl rfl ?_
      refine E_s (p' := 22) (st' := aI 5 :: _) rfl rfl ?_
      refine E_s (p' := 23) (st' := aI 0 :: _) rfl rfl ?_
      refine E_stM (p' := 24) (m' := up2 _ 163 5 0) rfl rfl ?_
      refine E_s (p' := 25) (st' := aA 124 :: _) rfl rfl ?_
      refine E_s (p' := 28) (st' := aA 164 :: _) rfl rfl ?_
      refine E_s (p' := 29) (st' := aI 5 :: _) rfl rfl ?_
      refine E_s (p' := 30) (st' := aI 1 :: _) rfl rfl ?_
      refine E_stM (p' := 31) (m' := up2 _ 164 5 1) rfl rfl ?_
      refine E_s (p' := 34) (L' := [some (aA 124), some (aI 0), some (aI 6), none]) rfl rfl ?_
      refine E_s (p' := 11) rfl rfl ?_
      refine E_s (p' := 12) (st' := aI 6 :: _) rfl rfl ?_
      refine E_s (p' := 14) (st' := aI 12 :: _) rfl rfl ?_
      refine E_s (p' := 17) rfl rfl ?_
      refine E_s (p' := 18) (st' := aA 124 :: _) rfl rfl ?_
      refine E_s (p' := 21) (st' := aA 163 :: _) rfl rfl ?_
      refine E_s (p' := 22) (st' := aI 6 :: _) rfl rfl ?_
      refine E_s (p' := 23) (st' := aI 0 :: _) rfl rfl ?_
      refine E_stM (p' := 24) (m' := up2 _ 163 6 0) rfl rfl ?_
      refine E_s (p' := 25) (st' := aA 124 :: _) rfl rfl ?_
      refine E_s (p' := 28) (st' := aA 164 :: _) rfl rfl ?_
      refine E_s (p' := 29) (st' := aI 6 :: _) rfl rfl ?_
      refine E_s (p' := 30) (st' := aI 1 :: _) rfl rfl ?_
      refine E_stM (p' := 31) (m' := up2 _ 164 6 1) rfl rfl ?_
      refine E_s (p' := 34) (L' := [some (aA 124), some (aI 0), some (aI 7), none]) rfl rfl ?_
      refine E_s (p' := 11) rfl rfl ?_
      refine E_s (p' := 12) (st' := aI 7 :: _) rfl rfl ?_
      refine E_s (p' := 14) (st' := aI 12 :: _) rfl rfl ?_
      refine E_s (p' := 17) rfl rfl ?_
      refine E_s (p' := 18) (st' := aA 124 :: _) rfl rfl ?_
      refine E_s (p' := 21) (st' := aA 163 :: _) rfl rfl ?_
      refine E_s (p' := 22) (st' := aI 7 :: _) rfl rfl ?_
      refine E_s (p' := 23) (st' := aI 0 :: _) rfl rfl ?_
      refine E_stM (p' := 24) (m' := up2 _ 163 7 0) rfl rfl ?_
      refine E_s (p' := 25) (st' := aA 124 :: _) rfl rfl ?_
      refine E_s (p' := 28) (st' := aA 164 :: _) rfl rfl ?_
      refine E_s (p' := 29) (st' := aI 7 :: _) rfl rfl ?_
      refine E_s (p' := 30) (st' := aI 1 :: _) rfl rfl ?_
      refine E_stM (p' := 31) (m' := up2 _ 164 7 1) rfl rfl ?_
      refine E_s (p' := 34) (L' := [some (aA 124), some (aI 0), some (aI 8), none]) rfl rfl ?_
      refine E_s (p' := 11) rfl rfl ?_
      refine E_s (p' := 12) (st' := aI 8 :: _) rfl rfl ?_
      refine E_s (p' := 14) (st' := aI 12 :: _) rfl rfl ?_
      refine E_s (p' := 17) rfl rfl ?_
      refine E_s (p' := 18) (st' := aA 124 :: _) rfl rfl ?_
      refine E_s (p' := 21) (st' := aA 163 :: _) rfl rfl ?_
      refine E_s (p' := 22) (st' := aI 8 :: _) rfl rfl ?_
      refine E_s (p' := 23) (st' := aI 0 :: _) rfl rfl ?_
      refine E_stM (p' := 24) (m' := up2 _ 163 8 0) rfl rfl ?_
      refine E_s (p' := 25) (st' := aA 124 :: _) rfl rfl ?_
      refine E_s (p' := 28) (st' := aA 164 :: _) rfl rfl ?_
      refine E_s (p' := 29) (st' := aI 8 :: _) rfl rfl ?_
      refine E_s (p' := 30) (st' := aI 1 :: _) rfl rfl ?_
      refine E_stM (p' := 31) (m' := up2 _ 164 8 1) rfl rfl ?_
      refine E_s (p' := 34) (L' := [some (aA 124), some (aI 0), some (aI 9), none]) rfl rfl ?_
      refine E_s (p' := 11) rfl rfl ?_
      refine E_s (p' := 12) (st' := aI 9 :: _) rfl rfl ?_
      refine E_s (p' := 14) (st' := aI 12 :: _) rfl rfl ?_
      refine E_s (p' := 17) rfl rfl ?_
      refine E_s (p' := 18) (st' := aA 124 :: _) rfl rfl ?_
      refine E_s (p' := 21) (st' := aA 163 :: _) rfl rfl ?_
      refine E_s (p' := 22) (st' := aI 9 :: _) rfl rfl ?_
      refine E_s (p' := 23) (st' := aI 0 :: _) rfl rfl ?_
      refine E_stM (p' := 24) (m' := up2 _ 163 9 0) rfl rfl ?_
      refine E_s (p' := 25) (st' := aA 124 :: _) rfl rfl ?_
      refine E_s (p' := 28) (st' := aA 164 :: _) rfl rfl ?_
      refine E_s (p' := 29) (st' := aI 9 :: _) rfl rfl ?_
      refine E_s (p' := 30) (st' := aI 1 :: _) rfl rfl ?_
      refine E_stM (p' := 31) (m' := up2 _ 164 9 1) rfl rfl ?_
      refine E_s (p' := 34) (L' := [some (aA 124), some (aI 0), some (aI 10), none]) rfl rfl ?_
      refine E_s (p' := 11) rfl rfl ?_
      refine E_s (p' := 12) (st' := aI 10 :: _) rfl rfl ?_
      refine E_s (p' := 14) (st' := aI 12 :: _) rfl rfl ?_
      refine E_s (p' := 17) rfl rfl ?_
      refine E_s (p' := 18) (st' := aA 124 :: _) rfl rfl ?_
      refine E_s (p' := 21) (st' := aA 163 :: _) rfl rfl ?_
      refine E_s (p' := 22) (st' := aI 10 :: _) rfl rfl ?_
      refine E_s (p' := 23) (st' := aI 0 :: _) rfl rfl ?_
      refine E_stM (p' := 24) (m' := up2 _ 163 10 0) rfl rfl ?_
      refine E_s (p' := 25) (st' := aA 124 :: _) rfl rfl ?_
      refine E_s (p' := 28) (st' := aA 164 :: _) rfl rfl ?_
      refine E_s (p' := 29) (st' := aI 10 :: _) rfl rfl ?_
      refine E_s (p' := 30) (st' := aI 1 :: _) rfl rfl ?_
      refine E_stM (p' := 31) (m' := up2 _ 164 10 1) rfl rfl ?_
      refine E_s (p' := 34) (L' := [some (aA 124), some (aI 0), some (aI 11), none]) rfl rfl ?_
      refine E_s (p' := 11) rfl rfl ?_
      refine E_s (p' := 12) (st' := aI 11 :: _) rfl rfl ?_
      refine E_s (p' := 14) (st' := aI 12 :: _) rfl rfl ?_
      refine E_s (p' := 17) rfl rfl ?_
      refine E_s (p' := 18) (st' := aA 124 :: _) rfl rfl ?_
      refine E_s (p' := 21) (st' := aA 163 :: _) rfl rfl ?_
      refine E_s (p' := 22) (st' := aI 11 :: _) rfl rfl ?_
      refine E_s (p' := 23) (st' := aI 0 :: _) rfl rfl ?_
      refine E_stM (p' := 24) (m' := up2 _ 163 11 0) rfl rfl ?_
      refine E_s (p' := 25) (st' := aA 124 :: _) rfl rfl ?_
      refine E_s (p' := 28) (st' := aA 164 :: _) rfl rfl ?_
      refine E_s (p' := 29) (st' := aI 11 :: _) rfl rfl ?_
      refine E_s (p' := 30) (st' := aI 1 :: _) rfl rfl ?_
      refine E_stM (p' := 31) (m' := up2 _ 164 11 1) rfl rfl ?_
      refine E_s (p' := 34) (L' := [some (aA 124), some (aI 0), some (aI 12), none]) rfl rfl ?_
      refine E_s (p' := 11) rfl rfl ?_
      refine E_s (p' := 12) (st' := aI 12 :: _) rfl rfl ?_
      refine E_s (p' := 14) (st' := aI 12 :: _) rfl rfl ?_
      refine E_s (p' := 37) rfl rfl ?_
      refine E_s (p' := 38) (st' := aI 0 :: _) rfl rfl ?_
      refine E_s (p' := 39) (L' := [some (aA 124), some (aI 0), some (aI 0), none]) rfl rfl ?_
      refine E_s (p' := 40) (st' := aI 0 :: _) rfl rfl ?_
      refine E_s (p' := 41) (st' := aA 124 :: _) rfl rfl ?_
      refine E_s (p' := 44) (st' := aA 125 :: _) rfl rfl ?_
      refine E_s (p' := 45) (st' := aI 0 :: _) rfl rfl ?_
      refine E_s (p' := 46) (st' := aI 0 :: _) rfl rfl ?_
      refine E_s (p' := 131) rfl rfl ?_
      refine E_ret rfl rfl ?_
      refine E_s (p' := 25) (st' := aA 124 :: _) rfl rfl ?_
      refine E_s (p' := 28) (st' := aA 163 :: _) rfl rfl ?_
      refine E_s (p' := 29) rfl rfl ?_
      have hg : a2 = 0 ∨ a2 = 1 ∨ a2 = 2 ∨ a2 = 3 ∨ a2 = 4 ∨ a2 = 5 ∨ a2 = 6 ∨ a2 = 7 ∨ a2 = 8 ∨ a2 = 9 ∨ a2 = 10 ∨ a2 = 11 := by omega
      rcases hg with rfl | rfl | rfl | rfl | rfl | rfl | rfl | rfl | rfl | rfl | rfl | rfl
      · refine E_s (p' := 30) (st' := aI 0 :: _) rfl rfl ?_
        refine E_s (p' := 31) (L' := [some (aA 124), some (aI 0), some (aI 0), some (aI 0), none, none, none]) rfl rfl ?_
        refine E_s (p' := 32) (st' := aI 0 :: _) rfl rfl ?_
        refine E_s (p' := 35) rfl rfl ?_
        refine E_s (p' := 36) (st' := aI (-1) :: _) rfl rfl ?_
        refine E_ret rfl rfl ?_
        refine E_s (p' := 1174) rfl rfl ?_
        refine E_s (p' := 1177) (L' := [some (aA 0), some (aA 1), some (aA 124), some (aI 6)]) rfl rfl ?_
        refine E_s (p' := 18) rfl rfl ?_
        refine E_s (p' := 19) (st' := aI 6 :: _) rfl rfl ?_
        refine E_s (p' := 20) (st' := aA 0 :: _) rfl rfl ?_
        refine E_s (p' := 21) (st' := aI 6 :: _) rfl rfl ?_
        refine E_s (p' := 23) (st' := aI 6 :: _) rfl rfl ?_
        refine E_s (p' := 24) (st' := aI 0 :: _) rfl rfl ?_
        refine E_s (p' := 1180) rfl rfl ?_
        refine E_s (p' := 1181) (st' := aI 1 :: _) rfl rfl ?_
        exact E_ret rfl rfl ⟨rfl, rfl⟩
      · refine E_s (p' := 30) (st' := aI 0 :: _) rfl rfl ?_
        refine E_s (p' := 31) (L' := [some (aA 124), some (aI 0), some (aI 1), some (aI 0), none, none, none]) rfl rfl ?_
        refine E_s (p' := 32) (st' := aI 0 :: _) rfl rfl ?_
        refine E_s (p' := 35) rfl rfl ?_
        refine E_s (p' := 36) (st' := aI (-1) :: _) rfl rfl ?_
        refine E_ret rfl rfl ?_
        refine E_s (p' := 1174) rfl rfl ?_
        refine E_s (p' := 1177) (L' := [some (aA 0), some (aA 1), some (aA 124), some (aI 6)]) rfl rfl ?_
        refine E_s (p' := 18) rfl rfl ?_
        refine E_s (p' := 19) (st' := aI 6 :: _) rfl rfl ?_
        refine E_s (p' := 20) (st' := aA 0 :: _) rfl rfl ?_
        refine E_s (p' := 21) (st' := aI 6 :: _) rfl rfl ?_
        refine E_s (p' := 23) (st' := aI 6 :: _) rfl rfl ?_
        refine E_s (p' := 24) (st' := aI 0 :: _) rfl rfl ?_
        refine E_s (p' := 1180) rfl rfl ?_
        refine E_s (p' := 1181) (st' := aI 1 :: _) rfl rfl ?_
        exact E_ret rfl rfl ⟨rfl, rfl⟩
      · refine E_s (p' := 30) (st' := aI 0 :: _) rfl rfl ?_
        refine E_s (p' := 31) (L' := [some (aA 124), some (aI 0), some (aI 2), some (aI 0), none, none, none]) rfl rfl ?_
        refine E_s (p' := 32) (st' := aI 0 :: _) rfl rfl ?_
        refine E_s (p' := 35) rfl rfl ?_
        refine E_s (p' := 36) (st' := aI (-1) :: _) rfl rfl ?_
        refine E_ret rfl rfl ?_
        refine E_s (p' := 1174) rfl rfl ?_
        refine E_s (p' := 1177) (L' := [some (aA 0), some (aA 1), some (aA 124), some (aI 6)]) rfl rfl ?_
        refine E_s (p' := 18) rfl rfl ?_
        refine E_s (p' := 19) (st' := aI 6 :: _) rfl rfl ?_
        refine E_s (p' := 20) (st' := aA 0 :: _) rfl rfl ?_
        refine E_s (p' := 21) (st' := aI 6 :: _) rfl rfl ?_
        refine E_s (p' := 23) (st' := aI 6 :: _) rfl rfl ?_
        refine E_s (p' := 24) (st' := aI 0 :: _) rfl rfl ?_
        refine E_s (p' := 1180) rfl rfl ?_
        refine E_s (p' := 1181) (st' := aI 1 :: _) rfl rfl ?_
        exact E_ret rfl rfl ⟨rfl, rfl⟩
      · refine E_s (p' := 30) (st' := aI 0 :: _) rfl rfl ?_
        refine E_s (p' := 31) (L' := [some (aA 124), some (aI 0), some (aI 3), some (aI 0), none, none, none]) rfl rfl ?_
        refine E_s (p' := 32) (st' := aI 0 :: _) rfl rfl ?_
        refine E_s (p' := 35) rfl rfl ?_
        refine E_s (p' := 36) (st' := aI (-1) :: _) rfl rfl ?_
        refine E_ret rfl rfl ?_
        refine E_s (p' := 1174) rfl rfl ?_
        refine E_s (p' := 1177) (L' := [some (aA 0), some (aA 1), some (aA 124), some (aI 6)]) rfl rfl ?_
        refine E_s (p' := 18) rfl rfl ?_
        refine E_s (p' := 19) (st' := aI 6 :: _) rfl rfl ?_
        refine E_s (p' := 20) (st' := aA 0 :: _) rfl rfl ?_
        refine E_s (p' := 21) (st' := aI 6 :: _) rfl rfl ?_
        refine E_s (p' := 23) (st' := aI 6 :: _) rfl rfl ?_
        refine E_s (p' := 24) (st' := aI 0 :: _) rfl rfl ?_
        refine E_s (p' := 1180) rfl rfl ?_
        refine E_s (p' := 1181) (st' := aI 1 :: _) rfl rfl ?_
        exact E_ret rfl rfl ⟨rfl, rfl⟩
      · refine E_s (p' := 30) (st' := aI 0 :: _) rfl rfl ?_
        refine E_s (p' := 31) (L' := [some (aA 124), some (aI 0), some (aI 4), some (aI 0), none, none, none]) rfl rfl ?_
        refine E_s (p' := 32) (st' := aI 0 :: _) rfl rfl ?_
        refine E_s (p' := 35) rfl rfl ?_
        refine E_s (p' := 36) (st' := aI (-1) :: _) rfl rfl ?_
        refine E_ret rfl rfl ?_
        refine E_s (p' := 1174) rfl rfl ?_
        refine E_s (p' := 1177) (L' := [some (aA 0), some (aA 1), some (aA 124), some (aI 6)]) rfl rfl ?_
        refine E_s (p' := 18) rfl rfl ?_
        refine E_s (p' := 19) (st' := aI 6 :: _) rfl rfl ?_
        refine E_s (p' := 20) (st' := aA 0 :: _) rfl rfl ?_
        refine E_s (p' := 21) (st' := aI 6 :: _) rfl rfl ?_
        refine E_s (p' := 23) (st' := aI 6 :: _) rfl rfl ?_
        refine E_s (p' := 24) (st' := aI 0 :: _) rfl rfl ?_
        refine E_s (p' := 1180) rfl rfl ?_
        refine E_s (p' := 1181) (st' := aI 1 :: _) rfl rfl ?_
        exact E_ret rfl rfl ⟨rfl, rfl⟩
      · refine E_s (p' := 30) (st' := aI 0 :: _) rfl rfl ?_
        refine E_s (p' := 31) (L' := [some (aA 124), some (aI 0), some (aI 5), some (aI 0), none, none, none]) rfl rfl ?_
        refine E_s (p' := 32) (st' := aI 0 :: _) rfl rfl ?_
        refine E_s (p' := 35) rfl rfl ?_
        refine E_s (p' := 36) (st' := aI (-1) :: _) rfl rfl ?_
        refine E_ret rfl rfl ?_
        refine E_s (p' := 1174) rfl rfl ?_
        refine E_s (p' := 1177) (L' := [some (aA 0), some (aA 1), some (aA 124), some (aI 6)]) rfl rfl ?_
        refine E_s (p' := 18) rfl rfl ?_
        refine E_s (p' := 19) (st' := aI 6 :: _) rfl rfl ?_
        refine E_s (p' := 20) (st' := aA 0 :: _) rfl rfl ?_
        refine E_s (p' := 21) (st' := aI 6 :: _) rfl rfl ?_
        refine E_s (p' := 23) (st' := aI 6 :: _) rfl rfl ?_
        refine E_s (p' := 24) (st' := aI 0 :: _) rfl rfl ?_
        refine E_s (p' := 1180) rfl rfl ?_
        refine E_s (p' := 1181) (st' := aI 1 :: _) rfl rfl ?_
        exact E_ret rfl rfl ⟨rfl, rfl⟩
      · refine E_s (p' := 30) (st' := aI 0 :: _) rfl rfl ?_
        refine E_s (p' := 31) (L' := [some (aA 124), some (aI 0), some (aI 6), some (aI 0), none, none, none]) rfl rfl ?_
        refine E_s (p' := 32) (st' := aI 0 :: _) rfl rfl ?_
        refine E_s (p' := 35) rfl rfl ?_
        refine E_s (p' := 36) (st' := aI (-1) :: _) rfl rfl ?_
        refine E_ret rfl rfl ?_
        refine E_s (p' := 1174) rfl rfl ?_
        refine E_s (p' := 1177) (L' := [some (aA 0), some (aA 1), some (aA 124), some (aI 6)]) rfl rfl ?_
        refine E_s (p' := 18) rfl rfl ?_
        refine E_s (p' := 19) (st' := aI 6 :: _) rfl rfl ?_
        refine E_s (p' := 20) (st' := aA 0 :: _) rfl rfl ?_
        refine E_s (p' := 21) (st' := aI 6 :: _) rfl rfl ?_
        refine E_s (p' := 23) (st' := aI 6 :: _) rfl rfl ?_
        refine E_s (p' := 24) (st' := aI 0 :: _) rfl rfl ?_
        refine E_s (p' := 1180) rfl rfl ?_
        refine E_s (p' := 1181) (st' := aI 1 :: _) rfl rfl ?_
        exact E_ret rfl rfl ⟨rfl, rfl⟩
      · refine E_s (p' := 30) (st' := aI 0 :: _) rfl rfl ?_
        refine E_s (p' := 31) (L' := [some (aA 124), some (aI 0), some (aI 7), some (aI 0), none, none, none]) rfl rfl ?_
        refine E_s (p' := 32) (st' := aI 0 :: _) rfl rfl ?_
        refine E_s (p' := 35) rfl rfl ?_
        refine E_s (p' := 36) (st' := aI (-1) :: _) rfl rfl ?_
        refine E_ret rfl rfl ?_
        refine E_s (p' := 1174) rfl rfl ?_
        refine E_s (p' := 1177) (L' := [some (aA 0), some (aA 1), some (aA 124), some (aI 6)]) rfl rfl ?_
        refine E_s (p' := 18) rfl rfl ?_
        refine E_s (p' := 19) (st' := aI 6 :: _) rfl rfl ?_
        refine E_s (p' := 20) (st' := aA 0 :: _) rfl rfl ?_
        refine E_s (p' := 21) (st' := aI 6 :: _) rfl rfl ?_
        refine E_s (p' := 23) (st' := aI 6 :: _) rfl rfl ?_
        refine E_s (p' := 24) (st' := aI 0 :: _) rfl rfl ?_
        refine E_s (p' := 1180) rfl rfl ?_
        refine E_s (p' := 1181) (st' := aI 1 :: _) rfl rfl ?_
        exact E_ret rfl rfl ⟨rfl, rfl⟩
      · refine E_s (p' := 30) (st' := aI 0 :: _) rfl rfl ?_
        refine E_s (p' := 31) (L' := [some (aA 124), some (aI 0), some (aI 8), some (aI 0), none, none, none]) rfl rfl ?_
        refine E_s (p' := 32) (st' := aI 0 :: _) rfl rfl ?_
        refine E_s (p' := 35) rfl rfl ?_
        refine E_s (p' := 36) (st' := aI (-1) :: _) rfl rfl ?_
        refine E_ret rfl rfl ?_
        refine E_s (p' := 1174) rfl rfl ?_
        refine E_s (p' := 1177) (L' := [some (aA 0), some (aA 1), some (aA 124), some (aI 6)]) rfl rfl ?_
        refine E_s (p' := 18) rfl rfl ?_
        refine E_s (p' := 19) (st' := aI 6 :: _) rfl rfl ?_
        refine E_s (p' := 20) (st' := aA 0 :: _) rfl rfl ?_
        refine E_s (p' := 21) (st' := aI 6 :: _) rfl rfl ?_
        refine E_s (p' := 23) (st' := aI 6 :: _) rfl rfl ?_
        refine E_s (p' := 24) (st' := aI 0 :: _) rfl rfl ?_
        refine E_s (p' := 1180) rfl rfl ?_
        refine E_s (p' := 1181) (st' := aI 1 :: _) rfl rfl ?_
        exact E_ret rfl rfl ⟨rfl, rfl⟩
      · refine E_s (p' := 30) (st' := aI 0 :: _) rfl rfl ?_
        refine E_s (p' := 31) (L' := [some (aA 124), some (aI 0), some (aI 9), some (aI 0), none, none, none]) rfl rfl ?_
        refine E_s (p' := 32) (st' := aI 0 :: _) rfl rfl ?_
        refine E_s (p' := 35) rfl rfl ?_
        refine E_s (p' := 36) (st' := aI (-1) :: _) rfl rfl ?_
        refine E_ret rfl rfl ?_
        refine E_s (p' := 1174) rfl rfl ?_
        refine E_s (p' := 1177) (L' := [some (aA 0), some (aA 1), some (aA 124), some (aI 6)]) rfl rfl ?_
        refine E_s (p' := 18) rfl rfl ?_
        refine E_s (p' := 19) (st' := aI 6 :: _) rfl rfl ?_
        refine E_s (p' := 20) (st' := aA 0 :: _) rfl rfl ?_
        refine E_s (p' := 21) (st' := aI 6 :: _) rfl rfl ?_
        refine E_s (p' := 23) (st' := aI 6 :: _) rfl rfl ?_
        refine E_s (p' := 24) (st' := aI 0 :: _) rfl rfl ?_
        refine E_s (p' := 1180) rfl rfl ?_
        refine E_s (p' := 1181) (st' := aI 1 :: _) rfl rfl ?_
        exact E_ret rfl rfl ⟨rfl, rfl⟩
      · refine E_s (p' := 30) (st' := aI 0 :: _) rfl rfl ?_
        refine E_s (p' := 31) (L' := [some (aA 124), some (aI 0), some (aI 10), some (aI 0), none, none, none]) rfl rfl ?_
        refine E_s (p' := 32) (st' := aI 0 :: _) rfl rfl ?_
        refine E_s (p' := 35) rfl rfl ?_
        refine E_s (p' := 36) (st' := aI (-1) :: _) rfl rfl ?_
        refine E_ret rfl rfl ?_
        refine E_s (p' := 1174) rfl rfl ?_
        refine E_s (p' := 1177) (L' := [some (aA 0), some (aA 1), some (aA 124), some (aI 6)]) rfl rfl ?_
        refine E_s (p' := 18) rfl rfl ?_
        refine E_s (p' := 19) (st' := aI 6 :: _) rfl rfl ?_
        refine E_s (p' := 20) (st' := aA 0 :: _) rfl rfl ?_
        refine E_s (p' := 21) (st' := aI 6 :: _) rfl rfl ?_
        refine E_s (p' := 23) (st' := aI 6 :: _) rfl rfl ?_
        refine E_s (p' := 24) (st' := aI 0 :: _) rfl rfl ?_
        refine E_s (p' := 1180) rfl rfl ?_
        refine E_s (p' := 1181) (st' := aI 1 :: _) rfl rfl ?_
        exact E_ret rfl rfl ⟨rfl, rfl⟩
      · refine E_s (p' := 30) (st' := aI 0 :: _) rfl rfl ?_
        refine E_s (p' := 31) (L' := [some (aA 124), some (aI 0), some (aI 11), some (aI 0), none, none, none]) rfl rfl ?_
        refine E_s (p' := 32) (st' := aI 0 :: _) rfl rfl ?_
        refine E_s (p' := 35) rfl rfl ?_
        refine E_s (p' := 36) (st' := aI (-1) :: _) rfl rfl ?_
        refine E_ret rfl rfl ?_
        refine E_s (p' := 1174) rfl rfl ?_
        refine E_s (p' := 1177) (L' := [some (aA 0), some (aA 1), some (aA 124), some (aI 6)]) rfl rfl ?_
        refine E_s (p' := 18) rfl rfl ?_
        refine E_s (p' := 19) (st' := aI 6 :: _) rfl rfl ?_
        refine E_s (p' := 20) (st' := aA 0 :: _) rfl rfl ?_
        refine E_s (p' := 21) (st' := aI 6 :: _) rfl rfl ?_
        refine E_s (p' := 23) (st' := aI 6 :: _) rfl rfl ?_
        refine E_s (p' := 24) (st' := aI 0 :: _) rfl rfl ?_
        refine E_s (p' := 1180) rfl rfl ?_
        refine E_s (p' := 1181) (st' := aI 1 :: _) rfl rfl ?_
        exact E_ret rfl rfl ⟨rfl, rfl⟩
    · refine E_s (p' := 21) (st' := aI (-1) :: _) rfl rfl ?_
      refine E_ret rfl rfl ?_
      refine E_s (p' := 1090) (st' := aA 124 :: _) rfl rfl ?_
      refine E_s (p' := 1091) (st' := aA 0 :: _) rfl rfl ?_
      refine E_s (p' := 1092) (st' := aI 0 :: _) rfl rfl ?_
      refine E_s (p' := 1093) (st' := aI 1 :: _) rfl rfl ?_
      refine E_s (p' := 1094) (st' := aI 1 :: _) rfl rfl ?_
      refine E_scr rfl rfl h1 ?_
      refine E_s (p' := 1096) (st' := aA 0 :: _) rfl rfl ?_
      refine E_s (p' := 1097) (st' := aI 0 :: _) rfl rfl ?_
      refine E_s (p' := 1098) (st' := aI 2 :: _) rfl rfl ?_
      refine E_s (p' := 1099) (st' := aI 2 :: _) rfl rfl ?_
      refine E_scr rfl rfl h2 ?_
      refine E_callL (p' := 1103) (L0 := [some (aA 124), some (aI 0), some (aI a2), none, none, none, none]) rfl rfl rfl ?_
      refine E_s (p' := 1) (st' := aI 0 :: _) rfl rfl ?_
      refine E_callL (p' := 4) (L0 := [some (aI 0)]) rfl rfl rfl ?_
      refine E_s (p' := 1) (st' := aI 0 :: _) rfl rfl ?_
      refine E_s (p' := 2) (st' := aI 0 :: _) rfl rfl ?_
      refine E_s (p' := 3) (st' := aI 3 :: _) rfl rfl ?_
      refine E_callL (p' := 6) (L0 := [some (aI 0), some (aI 0), some (aI 3)]) rfl rfl rfl ?_
      refine E_s (p' := 1) (st' := aI 0 :: _) rfl rfl ?_
      refine E_s (p' := 2) (st' := aI 0 :: _) rfl rfl ?_
      refine E_s (p' := 5) rfl rfl ?_
      refine E_s (p' := 6) (st' := aI 0 :: _) rfl rfl ?_
      refine E_s (p' := 7) (st' := aI 3 :: _) rfl rfl ?_
      refine E_s (p' := 10) rfl rfl ?_
      refine E_s (p' := 11) (st' := aI 1 :: _) rfl rfl ?_
      refine E_s (p' := 15) rfl rfl ?_
      refine E_ret rfl rfl ?_
      refine E_ret rfl rfl ?_
      refine E_s (p' := 7) rfl rfl ?_
      refine E_s (p' := 8) rfl rfl ?_
      refine E_s (p' := 9) (st' := aI 0 :: _) rfl rfl ?_
      refine E_s (p' := 11) (st' := aI 11 :: _) rfl rfl ?_
      refine E_callL (p' := 14) (L0 := [some (aI a2), some (aI 0), some (aI 11)]) rfl rfl rfl ?_
      refine E_s (p' := 1) rfl rfl ?_
      refine E_s (p' := 2) (st' := aI 0 :: _) rfl rfl ?_
      refine E_icmp_lt (y := 0) rfl (by decide) (fun q => absurd q (by omega)) (fun _ => ?_)
      refine E_s (p' := 6) rfl rfl ?_
      refine E_s (p' := 7) (st' := aI 11 :: _) rfl rfl ?_
      refine E_icmp_gt (y := 11) rfl (by decide) (fun _ => ?_) (fun q => absurd q (by omega))
      refine E_s (p' := 15) (st' := aI 0 :: _) rfl rfl ?_
      refine E_ret rfl rfl ?_
      refine E_s (p' := 17) rfl rfl ?_
      refine E_s (p' := 18) (st' := aI (-1) :: _) rfl rfl ?_
      refine E_ret rfl rfl ?_
      refine E_s (p' := 1174) rfl rfl ?_
      refine E_s (p' := 1177) (L' := [some (aA 0), some (aA 1), some (aA 124), some (aI 6)]) rfl rfl ?_
      refine E_s (p' := 18) rfl rfl ?_
      refine E_s (p' := 19) (st' := aI 6 :: _) rfl rfl ?_
      refine E_s (p' := 20) (st' := aA 0 :: _) rfl rfl ?_
      refine E_s (p' := 21) (st' := aI 6 :: _) rfl rfl ?_
      refine E_s (p' := 23) (st' := aI 6 :: _) rfl rfl ?_
      refine E_s (p' := 24) (st' := aI 0 :: _) rfl rfl ?_
      refine E_s (p' := 1180) rfl rfl ?_
      refine E_s (p' := 1181) (st' := aI 1 :: _) rfl rfl ?_
      exact E_ret rfl rfl ⟨rfl, rfl⟩
set_option maxRecDepth 100000 in
set_option maxHeartbeats 40000000 in
theorem pc_25_1 (xs : Nat → Int) {z a2 a3 a4 a5 : Int} (hz : b32 (fun a b => a &&& b) z 31 = 25) (h0 : xs 0 = z) (h1 : xs 1 = 1) (h2 : xs 2 = a2) (h3 : xs 3 = a3) (h4 : xs 4 = a4) (h5 : xs 5 = a5) : E 0 18 LL [] (s0 xs 6) PQ := by
  refine E_s (p' := 19) (st' := aI 0 :: _) rfl rfl ?_
  refine E_s (p' := 20) (st' := aA 0 :: _) rfl rfl ?_
  refine E_s (p' := 21) (st' := aI 6 :: _) rfl rfl ?_
  refine E_s (p' := 23) (st' := aI 6 :: _) rfl rfl ?_
  refine E_s (p' := 24) (st' := aI 0 :: _) rfl rfl ?_
  refine E_s (p' := 27) rfl rfl ?_
  refine E_s (p' := 28) (st' := aA 0 :: _) rfl rfl ?_
  refine E_s (p' := 29) (st' := aI 0 :: _) rfl rfl ?_
  refine E_scr rfl rfl h0 ?_
  refine E_s (p' := 32) (st' := aI 31 :: _) rfl rfl ?_
  refine E_s (p' := 33) rfl rfl ?_
  refine E_val hz ?_
  refine E_s (p' := 1075) rfl rfl ?_
  refine E_s (p' := 1076) (st' := aA 1 :: _) rfl rfl ?_
  refine E_s (p' := 1077) (st' := aA 0 :: _) rfl rfl ?_
  refine E_s (p' := 1078) (st' := aI 0 :: _) rfl rfl ?_
  refine E_s (p' := 1079) (st' := aI 1 :: _) rfl rfl ?_
  refine E_s (p' := 1080) (st' := aI 1 :: _) rfl rfl ?_
  refine E_scr rfl rfl h1 ?_
  refine E_s (p' := 1082) (st' := aA 0 :: _) rfl rfl ?_
  refine E_s (p' := 1083) (st' := aI 0 :: _) rfl rfl ?_
  refine E_s (p' := 1084) (st' := aI 2 :: _) rfl rfl ?_
  refine E_s (p' := 1085) (st' := aI 2 :: _) rfl rfl ?_
  refine E_scr rfl rfl h2 ?_
  refine E_callL (p' := 1089) (L0 := [some (aA 1), some (aI 1), some (aI a2), none, none, none]) rfl rfl rfl ?_
  refine E_s (p' := 1) (st' := aA 1 :: _) rfl rfl ?_
  refine E_s (p' := 2) (st' := aI 1 :: _) rfl rfl ?_
  refine E_callL (p' := 5) (L0 := [some (aA 1), some (aI 1)]) rfl rfl rfl ?_
  refine E_s (p' := 1) (st' := aI 1 :: _) rfl rfl ?_
  refine E_s (p' := 4) rfl rfl ?_
  refine E_s (p' := 5) (st' := aI 1 :: _) rfl rfl ?_
  refine E_s (p' := 6) (st' := aI 4 :: _) rfl rfl ?_
  refine E_s (p' := 9) rfl rfl ?_
  refine E_s (p' := 10) (st' := aA 1 :: _) rfl rfl ?_
  refine E_s (p' := 13) (st' := aA 2 :: _) rfl rfl ?_
  refine E_s (p' := 14) (st' := aI 1 :: _) rfl rfl ?_
  refine E_s (p' := 15) (st' := aA 46 :: _) rfl rfl ?_
  refine E_s (p' := 19) rfl rfl ?_
  refine E_ret rfl rfl ?_
  refine E_s (p' := 6) (L' := [some (aA 1), some (aI 1), some (aI a2), some (aA 46), none, none]) rfl rfl ?_
  refine E_s (p' := 7) (st' := aA 46 :: _) rfl rfl ?_
  refine E_s (p' := 10) rfl rfl ?_
  refine E_s (p' := 11) rfl rfl ?_
  refine E_if_lt rfl (by decide) (fun _ => ?_) (fun _ => ?_)
  · refine E_s (p' := 21) (st' := aI (-1) :: _) rfl rfl ?_
    refine E_ret rfl rfl ?_
    refine E_s (p' := 1090) (st' := aA 124 :: _) rfl rfl ?_
    refine E_s (p' := 1091) (st' := aA 0 :: _) rfl rfl ?_
    refine E_s (p' := 1092) (st' := aI 0 :: _) rfl rfl ?_
    refine E_s (p' := 1093) (st' := aI 1 :: _) rfl rfl ?_
    refine E_s (p' := 1094) (st' := aI 1 :: _) rfl rfl ?_
    refine E_scr rfl rfl h1 ?_
    refine E_s (p' := 1096) (st' := aA 0 :: _) rfl rfl ?_
    refine E_s (p' := 1097) (st' := aI 0 :: _) rfl rfl ?_
    refine E_s (p' := 1098) (st' := aI 2 :: _) rfl rfl ?_
    refine E_s (p' := 1099) (st' := aI 2 :: _) rfl rfl ?_
    refine E_scr rfl rfl h2 ?_
    refine E_callL (p' := 1103) (L0 := [some (aA 124), some (aI 1), some (aI a2), none, none, none, none]) rfl rfl rfl ?_
    refine E_s (p' := 1) (st' := aI 1 :: _) rfl rfl ?_
    refine E_callL (p' := 4) (L0 := [some (aI 1)]) rfl rfl rfl ?_
    refine E_s (p' := 1) (st' := aI 1 :: _) rfl rfl ?_
    refine E_s (p' := 2) (st' := aI 0 :: _) rfl rfl ?_
    refine E_s (p' := 3) (st' := aI 3 :: _) rfl rfl ?_
    refine E_callL (p' := 6) (L0 := [some (aI 1), some (aI 0), some (aI 3)]) rfl rfl rfl ?_
    refine E_s (p' := 1) (st' := aI 1 :: _) rfl rfl ?_
    refine E_s (p' := 2) (st' := aI 0 :: _) rfl rfl ?_
    refine E_s (p' := 5) rfl rfl ?_
    refine E_s (p' := 6) (st' := aI 1 :: _) rfl rfl ?_
    refine E_s (p' := 7) (st' := aI 3 :: _) rfl rfl ?_
    refine E_s (p' := 10) rfl rfl ?_
    refine E_s (p' := 11) (st' := aI 1 :: _) rfl rfl ?_
    refine E_s (p' := 15) rfl rfl ?_
    refine E_ret rfl rfl ?_
    refine E_ret rfl rfl ?_
    refine E_s (p' := 7) rfl rfl ?_
    refine E_s (p' := 8) rfl rfl ?_
    refine E_s (p' := 9) (st' := aI 0 :: _) rfl rfl ?_
    refine E_s (p' := 11) (st' := aI 11 :: _) rfl rfl ?_
    refine E_callL (p' := 14) (L0 := [some (aI a2), some (aI 0), some (aI 11)]) rfl rfl rfl ?_
    refine E_s (p' := 1) rfl rfl ?_
    refine E_s (p' := 2) (st' := aI 0 :: _) rfl rfl ?_
    refine E_icmp_lt (y := 0) rfl (by decide) (fun _ => ?_) (fun q => absurd q (by omega))
    refine E_s (p' := 15) (st' := aI 0 :: _) rfl rfl ?_
    refine E_ret rfl rfl ?_
    refine E_s (p' := 17) rfl rfl ?_
    refine E_s (p' := 18) (st' := aI (-1) :: _) rfl rfl ?_
    refine E_ret rfl rfl ?_
    refine E_s (p' := 1174) rfl rfl ?_
    refine E_s (p' := 1177) (L' := [some (aA 0), some (aA 1), some (aA 124), some (aI 6)]) rfl rfl ?_
    refine E_s (p' := 18) rfl rfl ?_
    refine E_s (p' := 19) (st' := aI 6 :: _) rfl rfl ?_
    refine E_s (p' := 20) (st' := aA 0 :: _) rfl rfl ?_
    refine E_s (p' := 21) (st' := aI 6 :: _) rfl rfl ?_
    refine E_s (p' := 23) (st' := aI 6 :: _) rfl rfl ?_
    refine E_s (p' := 24) (st' := aI 0 :: _) rfl rfl ?_
    refine E_s (p' := 1180) rfl rfl ?_
    refine E_s (p' := 1181) (st' := aI 1 :: _) rfl rfl ?_
    exact E_ret rfl rfl ⟨rfl, rfl⟩
  · refine E_s (p' := 15) rfl rfl ?_
    refine E_s (p' := 17) (st' := aI 12 :: _) rfl rfl ?_
    refine E_icmp_lt (y := 12) rfl (by decide) (fun _ => ?_) (fun _ => ?_)
    · refine E_s (p' := 23) (st' := aA 46 :: _) rfl rfl ?_
      refine E_s (p' := 26) (st' := aA 47 :: _) rfl rfl ?_
      refine E_s (p' := 27) rfl rfl ?_
      refine E_s (p' := 28) (st' := aA 1 :: _) rfl rfl ?_
      refine E_s (p' := 31) (st' := aA 19 :: _) rfl rfl ?_
      refine E_callL (p' := 34) (L0 := [some (aA 47), some (aI a2), some (aA 19), none, none]) rfl rfl rfl ?_
      refine E_s (p' := 1) (st' := aI 0 :: _) rfl rfl ?_
      refine E_s (p' := 2) (L' := [some (aA 47), some (aI a2), some (aA 19), some (aI 0), none]) rfl rfl ?_
      refine E_s (p' := 3) (st' := aI 0 :: _) rfl rfl ?_
      refine E_s (p' := 5) (L' := [some (aA 47), some (aI a2), some (aA 19), some (aI 0), some (aI 0)]) rfl rfl ?_
      refine E_s (p' := 7) (st' := aI 0 :: _) rfl rfl ?_
      refine E_s (p' := 8) (st' := aA 47 :: _) rfl rfl ?_
      refine E_s (p' := 11) (st' := aI 0 :: _) rfl rfl ?_
      refine E_s (p' := 44) rfl rfl ?_
      refine E_s (p' := 45) (st' := aI 0 :: _) rfl rfl ?_
      refine E_ret rfl rfl ?_
      refine E_s (p' := 36) (L' := [some (aA 1), some (aI 1), some (aI a2), some (aA 46), some (aI 0), none]) rfl rfl ?_
      refine E_s (p' := 37) (st' := aI 1 :: _) rfl rfl ?_
      refine E_s (p' := 39) (L' := [some (aA 1), some (aI 1), some (aI a2), some (aA 46), some (aI 0), some (aI 1)]) rfl rfl ?_
      refine E_s (p' := 41) (st' := aI 1 :: _) rfl rfl ?_
      refine E_s (p' := 43) (st' := aI 0 :: _) rfl rfl ?_
      refine E_s (p' := 69) rfl rfl ?_
      refine E_s (p' := 70) (st' := aI (-1) :: _) rfl rfl ?_
      refine E_ret rfl rfl ?_
      refine E_s (p' := 1090) (st' := aA 124 :: _) rfl rfl ?_
      refine E_s (p' := 1091) (st' := aA 0 :: _) rfl rfl ?_
      refine E_s (p' := 1092) (st' := aI 0 :: _) rfl rfl ?_
      refine E_s (p' := 1093) (st' := aI 1 :: _) rfl rfl ?_
      refine E_s (p' := 1094) (st' := aI 1 :: _) rfl rfl ?_
      refine E_scr rfl rfl h1 ?_
      refine E_s (p' := 1096) (st' := aA 0 :: _) rfl rfl ?_
      refine E_s (p' := 1097) (st' := aI 0 :: _) rfl rfl ?_
      refine E_s (p' := 1098) (st' := aI 2 :: _) rfl rfl ?_
      refine E_s (p' := 1099) (st' := aI 2 :: _) rfl rfl ?_
      refine E_scr rfl rfl h2 ?_
      refine E_callL (p' := 1103) (L0 := [some (aA 124), some (aI 1), some (aI a2), none, none, none, none]) rfl rfl rfl ?_
      refine E_s (p' := 1) (st' := aI 1 :: _) rfl rfl ?_
      refine E_callL (p' := 4) (L0 := [some (aI 1)]) rfl rfl rfl ?_
      refine E_s (p' := 1) (st' := aI 1 :: _) rfl rfl ?_
      refine E_s (p' := 2) (st' := aI 0 :: _) rfl rfl ?_
      refine E_s (p' := 3) (st' := aI 3 :: _) rfl rfl ?_
      refine E_callL (p' := 6) (L0 := [some (aI 1), some (aI 0), some (aI 3)]) rfl rfl rfl ?_
      refine E_s (p' := 1) (st' := aI 1 :: _) rfl rfl ?_
      refine E_s (p' := 2) (st' := aI 0 :: _) rfl rfl ?_
      refine E_s (p' := 5) rfl rfl ?_
      refine E_s (p' := 6) (st' := aI 1 :: _) rfl rfl ?_
      refine E_s (p' := 7) (st' := aI 3 :: _) rfl rfl ?_
      refine E_s (p' := 10) rfl rfl ?_
      refine E_s (p' := 11) (st' := aI 1 :: _) rfl rfl ?_
      refine E_s (p' := 15) rfl rfl ?_
      refine E_ret rfl rfl ?_
      refine E_ret rfl rfl ?_
      refine E_s (p' := 7) rfl rfl ?_
      refine E_s (p' := 8) rfl rfl ?_
      refine E_s (p' := 9) (st' := aI 0 :: _) rfl rfl ?_
      refine E_s (p' := 11) (st' := aI 11 :: _) rfl rfl ?_
      refine E_callL (p' := 14) (L0 := [some (aI a2), some (aI 0), some (aI 11)]) rfl rfl rfl ?_
      refine E_s (p' := 1) rfl rfl ?_
      refine E_s (p' := 2) (st' := aI 0 :: _) rfl rfl ?_
      refine E_icmp_lt (y := 0) rfl (by decide) (fun q => absurd q (by omega)) (fun _ => ?_)
      refine E_s (p' := 6) rfl rfl ?_
      refine E_s (p' := 7) (st' := aI 11 :: _) rfl rfl ?_
      refine E_icmp_gt (y := 11) rfl (by decide) (fun q => absurd q (by omega)) (fun _ => ?_)
      refine E_s (p' := 11) (st' := aI 1 :: _) rfl rfl ?_
      refine E_s (p' := 15) rfl rfl ?_
      refine E_ret rfl rfl ?_
      refine E_s (p' := 19) rfl rfl ?_
      refine E_s (p' := 20) (st' := aA 124 :: _) rfl rfl ?_
      refine E_s (p' := 21) (st' := aI 1 :: _) rfl rfl ?_
      refine E_callL (p' := 24) (L0 := [some (aA 124), some (aI 1), none, none]) rfl rfl rfl ?_
      refine E_s (p' := 1) (st' := aA 124 :: _) rfl rfl ?_
      refine E_s (p' := 2) (st' := aI 1 :: _) rfl rfl ?_
      refine E_s (p' := 3) (st' := aA 124 :: _) rfl rfl ?_
      refine E_s (p' := 6) (st' := aA 148 :: _) rfl rfl ?_
      refine E_callL (p' := 9) (L0 := [some (aA 124), some (aI 1), some (aA 148), none]) rfl rfl rfl ?_
      refine E_s (p' := 1) (st' := aA 124 :: _) rfl rfl ?_
      refine E_s (p' := 2) (st' := aI 1 :: _) rfl rfl ?_
      refine E_callL (p' := 5) (L0 := [some (aA 124), some (aI 1), none, none]) rfl rfl rfl ?_
      refine E_s (p' := 1) (st' := aI 0 :: _) rfl rfl ?_
      refine E_s (p' := 2) (L' := [some (aA 124), some (aI 1), some (aI 0), none]) rfl rfl ?_
      refine mr_loop1 _ 601 0 _ rfl ?_
      refine E_s (p' := 23) (st' := aA 124 :: _) rfl rfl ?_
      refine E_s (p' := 24) (st' := aI 0 :: _) rfl rfl ?_
      refine E_stM (p' := 27) (m' := up2 _ 124 25 0) rfl rfl ?_
      refine E_s (p' := 28) (st' := aA 124 :: _) rfl rfl ?_
      refine E_s (p' := 29) (st' := aI 0 :: _) rfl rfl ?_
      refine E_stM (p' := 32) (m' := up2 _ 124 26 0) rfl rfl ?_
      refine E_s (p' := 33) (st' := aI 0 :: _) rfl rfl ?_
      refine E_s (p' := 34) (L' := [some (aA 124), some (aI 1), some (aI 0), none]) rfl rfl ?_
      refine E_s (p' := 35) (st' := aI 0 :: _) rfl rfl ?_
      refine E_s (p' := 36) (st' := aA 124 :: _) rfl rfl ?_
      refine E_s (p' := 39) (st' := aA 125 :: _) rfl rfl ?_
      refine E_s (p' := 40) (st' := aI 1 :: _) rfl rfl ?_
      refine E_s (p' := 41) (st' := aI 0 :: _) rfl rfl ?_
      refine E_s (p' := 121) rfl rfl ?_
      refine E_s (p' := 122) (st' := aA 124 :: _) rfl rfl ?_
      refine E_s (p' := 123) (st' := aI 0 :: _) rfl rfl ?_
      refine E_stM (p' := 126) (m' := up2 _ 124 24 0) rfl rfl ?_
      refine E_s (p' := 127) (st' := aI 0 :: _) rfl rfl ?_
      refine E_s (p' := 128) (L' := [some (aA 124), some (aI 1), some (aI 0), none]) rfl rfl ?_
      refine mr_loop3 _ 601 0 _ rfl (fun j hj => show (if 0 ≤ j ∧ j < 601 then (0 : Int) else _) = 0 from if_pos ⟨Nat.zero_le _, hj⟩) ?_
      refine E_s (p' := 245) (st' := aA 124 :: _) rfl rfl ?_
      refine E_s (p' := 248) (st' := aI 0 :: _) rfl rfl ?_
      refine E_s (p' := 249) (st' := aA 124 :: _) rfl rfl ?_
      refine E_s (p' := 252) (st' := aI 0 :: _) rfl rfl ?_
      refine E_s (p' := 259) rfl rfl ?_
      refine E_s (p' := 260) (st' := aI 1 :: _) rfl rfl ?_
      refine E_s (p' := 261) (st' := aI 1 :: _) rfl rfl ?_
      refine E_s (p' := 263) (st' := aI 6 :: _) rfl rfl ?_
      refine E_s (p' := 271) rfl rfl ?_
      refine E_s (p' := 272) (st' := aA 124 :: _) rfl rfl ?_
      refine E_s (p' := 275) (st' := aI 0 :: _) rfl rfl ?_
      refine E_s (p' := 282) rfl rfl ?_
      refine E_s (p' := 283) (st' := aI 0 :: _) rfl rfl ?_
      refine E_ret rfl rfl ?_
      refine E_s (p' := 6) rfl rfl ?_
      refine E_s (p' := 7) (st' := aI 0 :: _) rfl rfl ?_
      refine E_s (p' := 8) (L' := [some (aA 124), some (aI 1), some (aA 148), some (aI 0)]) rfl rfl ?_
      refine E_s (p' := 9) (st' := aI 0 :: _) rfl rfl ?_
      refine E_s (p' := 10) (st' := aA 124 :: _) rfl rfl ?_
      refine E_s (p' := 13) (st' := aA 125 :: _) rfl rfl ?_
      refine E_s (p' := 14) (st' := aI 1 :: _) rfl rfl ?_
      refine E_s (p' := 15) (st' := aI 0 :: _) rfl rfl ?_
      refine E_s (p' := 58) rfl rfl ?_
      refine E_ret rfl rfl ?_
      refine E_s (p' := 10) (st' := aI 0 :: _) rfl rfl ?_
      refine E_s (p' := 11) (L' := [some (aA 124), some (aI 1), some (aI 0), none]) rfl rfl ?_
      refine E_s (p' := 12) (st' := aI 0 :: _) rfl rfl ?_
      refine E_s (p' := 14) (st' := aI 12 :: _) rfl rfl ?_
      refine E_s (p' := 17) rfl rfl ?_
      refine E_s (p' := 18) (st' := aA 124 :: _) rfl rfl ?_
      refine E_s (p' := 21) (st' := aA 163 :: _) rfl rfl ?_
      refine E_s (p' := 22) (st' := aI 0 :: _) rfl rfl ?_
      refine E_s (p' := 23) (st' := aI 0 :: _) rfl rfl ?_
      refine E_stM (p' := 24) (m' := up2 _ 163 0 0) rfl rfl ?_
      refine E_s (p' := 25) (st' := aA 124 :: _) rfl rfl ?_
      refine E_s (p' := 28) (st' := aA 164 :: _) rfl rfl ?_
      refine E_s (p' := 29) (st' := aI 0 :: _) rfl rfl ?_
      refine E_s (p' := 30) (st' := aI 1 :: _) rfl rfl ?_
      refine E_stM (p' := 31) (m' := up2 _ 164 0 1) rfl rfl ?_
      refine E_s (p' := 34) (L' := [some (aA 124), some (aI 1), some (aI 1), none]) rfl rfl ?_
      refine E_s (p' := 11) rfl rfl ?_
      refine E_s (p' := 12) (st' := aI 1 :: _) rfl rfl ?_
      refine E_s (p' := 14) (st' := aI 12 :: _) rfl rfl ?_
      refine E_s (p' := 17) rfl rfl ?_
      refine E_s (p' := 18) (st' := aA 124 :: _) rfl rfl ?_
      refine E_s (p' := 21) (st' := aA 163 :: _) rfl rfl ?_
      refine E_s (p' := 22) (st' := aI 1 :: _) rfl rfl ?_
      refine E_s (p' := 23) (st' := aI 0 :: _) rfl rfl ?_
      refine E_stM (p' := 24) (m' := up2 _ 163 1 0) rfl rfl ?_
      refine E_s (p' := 25) (st' := aA 124 :: _) rfl rfl ?_
      refine E_s (p' := 28) (st' := aA 164 :: _) rfl rfl ?_
      refine E_s (p' := 29) (st' := aI 1 :: _) rfl rfl ?_
      refine E_s (p' := 30) (st' := aI 1 :: _) rfl rfl ?_
      refine E_stM (p' := 31) (m' := up2 _ 164 1 1) rfl rfl ?_
      refine E_s (p' := 34) (L' := [some (aA 124), some (aI 1), some (aI 2), none]) rfl rfl ?_
      refine E_s (p' := 11) rfl rfl ?_
      refine E_s (p' := 12) (st' := aI 2 :: _) rfl rfl ?_
      refine E_s (p' := 14) (st' := aI 12 :: _) rfl rfl ?_
      refine E_s (p' := 17) rfl rfl ?_
      refine E_s (p' := 18) (st' := aA 124 :: _) rfl rfl ?_
      refine E_s (p' := 21) (st' := aA 163 :: _) rfl rfl ?_
      refine E_s (p' := 22) (st' := aI 2 :: _) rfl rfl ?_
      refine E_s (p' := 23) (st' := aI 0 :: _) rfl rfl ?_
      refine E_stM (p' := 24) (m' := up2 _ 163 2 0) rfl rfl ?_
      refine E_s (p' := 25) (st' := aA 124 :: _) rfl rfl ?_
      refine E_s (p' := 28) (st' := aA 164 :: _) rfl rfl ?_
      refine E_s (p' := 29) (st' := aI 2 :: _) rfl rfl ?_
      refine E_s (p' := 30) (st' := aI 1 :: _) rfl rfl ?_
      refine E_stM (p' := 31) (m' := up2 _ 164 2 1) rfl rfl ?_
      refine E_s (p' := 34) (L' := [some (aA 124), some (aI 1), some (aI 3), none]) rfl rfl ?_
      refine E_s (p' := 11) rfl rfl ?_
      refine E_s (p' := 12) (st' := aI 3 :: _) rfl rfl ?_
      refine E_s (p' := 14) (st' := aI 12 :: _) rfl rfl ?_
      refine E_s (p' := 17) rfl rfl ?_
      refine E_s (p' := 18) (st' := aA 124 :: _) rfl rfl ?_
      refine E_s (p' := 21) (st' := aA 163 :: _) rfl rfl ?_
      refine E_s (p' := 22) (st' := aI 3 :: _) rfl rfl ?_
      refine E_s (p' := 23) (st' := aI 0 :: _) rfl rfl ?_
      refine E_stM (p' := 24) (m' := up2 _ 163 3 0) rfl rfl ?_
      refine E_s (p' := 25) (st' := aA 124 :: _) rfl rfl ?_
      refine E_s (p' := 28) (st' := aA 164 :: _) rfl rfl ?_
      refine E_s (p' := 29) (st' := aI 3 :: _) rfl rfl ?_
      refine E_s (p' := 30) (st' := aI 1 :: _) rfl rfl ?_
      refine E_stM (p' := 31) (m' := up2 _ 164 3 1) rfl rfl ?_
      refine E_s (p' := 34) (L' := [some (aA 124), some (aI 1), some (aI 4), none]) rfl rfl ?_
      refine E_s (p' := 11) rfl rfl ?_
      refine E_s (p' := 12) (st' := aI 4 :: _) rfl rfl ?_
      refine E_s (p' := 14) (st' := aI 12 :: _) rfl rfl ?_
      refine E_s (p' := 17) rfl rfl ?_
      refine E_s (p' := 18) (st' := aA 124 :: _) rfl rfl ?_
      refine E_s (p' := 21) (st' := aA 163 :: _) rfl rfl ?_
      refine E_s (p' := 22) (st' := aI 4 :: _) rfl rfl ?_
      refine E_s (p' := 23) (st' := aI 0 :: _) rfl rfl ?_
      refine E_stM (p' := 24) (m' := up2 _ 163 4 0) rfl rfl ?_
      refine E_s (p' := 25) (st' := aA 124 :: _) rfl rfl ?_
      refine E_s (p' := 28) (st' := aA 164 :: _) rfl rfl ?_
      refine E_s (p' := 29) (st' := aI 4 :: _) rfl rfl ?_
      refine E_s (p' := 30) (st' := aI 1 :: _) rfl rfl ?_
      refine E_stM (p' := 31) (m' := up2 _ 164 4 1) rfl rfl ?_
      refine E_s (p' := 34) (L' := [some (aA 124), some (aI 1), some (aI 5), none]) rfl rfl ?_
      refine E_s (p' := 11) rfl rfl ?_
      refine E_s (p' := 12) (st' := aI 5 :: _) rfl rfl ?_
      refine E_s (p' := 14) (st' := aI 12 :: _) rfl rfl ?_
      refine E_s (p' := 17) rfl rfl ?_
      refine E_s (p' := 18) (st' := aA 124 :: _) rfl rfl ?_
      refine E_s (p' := 21) (st' := aA 163 :: _) rfl rfl ?_
      refine E_s (p' := 22) (st' := aI 5 :: _) rfl rfl ?_
      refine E_s (p' := 23) (st' := aI 0 :: _) rfl rfl ?_
      refine E_stM (p' := 24) (m' := up2 _ 163 5 0) rfl rfl ?_
      refine E_s (p' := 25) (st' := aA 124 :: _) rfl rfl ?_
      refine E_s (p' := 28) (st' := aA 164 :: _) rfl rfl ?_
      refine E_s (p' := 29) (st' := aI 5 :: _) rfl rfl ?_
      refine E_s (p' := 30) (st' := aI 1 :: _) rfl rfl ?_
      refine E_stM (p' := 31) (m' := up2 _ 164 5 1) rfl rfl ?_
      refine E_s (p' := 34) (L' := [some (aA 124), some (aI 1), some (aI 6), none]) rfl rfl ?_
      refine E_s (p' := 11) rfl rfl ?_
      refine E_s (p' := 12) (st' := aI 6 :: _) rfl rfl ?_
      refine E_s (p' := 14) (st' := aI 12 :: _) rfl rfl ?_
      refine E_s (p' := 17) rfl rfl ?_
      refine E_s (p' := 18) (st' := aA 124 :: _) rfl rfl ?_
      refine E_s (p' := 21) (st' := aA 163 :: _) rfl rfl ?_
      refine E_s (p' := 22) (st' := aI 6 :: _) rfl rfl ?_
      refine E_s (p' := 23) (st' := aI 0 :: _) rfl rfl ?_
      refine E_stM (p' := 24) (m' := up2 _ 163 6 0) rfl rfl ?_
      refine E_s (p' := 25) (st' := aA 124 :: _) rfl rfl ?_
      refine E_s (p' := 28) (st' := aA 164 :: _) rfl rfl ?_
      refine E_s (p' := 29) (st' := aI 6 :: _) rfl rfl ?_
      refine E_s (p' := 30) (st' := aI 1 :: _) rfl rfl ?_
      refine E_stM (p' := 31) (m' := up2 _ 164 6 1) rfl rfl ?_
      refine E_s (p' := 34) (L' := [some (aA 124), some (aI 1), some (aI 7), none]) rfl rfl ?_
      refine E_s (p' := 11) rfl rfl ?_
      refine E_s (p' := 12) (st' := aI 7 :: _) rfl rfl ?_
      refine E_s (p' := 14) (st' := aI 12 :: _) rfl rfl ?_
      refine E_s (p' := 17) rfl rfl ?_
      refine E_s (p' := 18) (st' := aA 124 :: _) rfl rfl ?_
      refine E_s (p' := 21) (st' := aA 163 :: _) rfl rfl ?_
      refine E_s (p' := 22) (st' := aI 7 :: _) rfl rfl ?_
      refine E_s (p' := 23) (st' := aI 0 :: _) rfl rfl ?_
      refine E_stM (p' := 24) (m' := up2 _ 163 7 0) rfl rfl ?_
      refine E_s (p' := 25) (st' := aA 124 :: _) rfl rfl ?_
      refine E_s (p' := 28) (st' := aA 164 :: _) rfl rfl ?_
      refine E_s (p' := 29) (st' := aI 7 :: _) rfl rfl ?_
      refine E_s (p' := 30) (st' := aI 1 :: _) rfl rfl ?_
      refine E_stM (p' := 31) (m' := up2 _ 164 7 1) rfl rfl ?_
      refine E_s (p' := 34) (L' := [some (aA 124), some (aI 1), some (aI 8), none]) rfl rfl ?_
      refine E_s (p' := 11) rfl rfl ?_
      refine E_s (p' := 12) (st' := aI 8 :: _) rfl rfl ?_
      refine E_s (p' := 14) (st' := aI 12 :: _) rfl rfl ?_
      refine E_s (p' := 17) rfl rfl ?_
      refine E_s (p' := 18) (st' := aA 124 :: _) rfl rfl ?_
      refine E_s (p' := 21) (st' := aA 163 :: _) rfl rfl ?_
      refine E_s (p' := 22) (st' := aI 8 :: _) rfl rfl ?_
      refine E_s (p' := 23) (st' := aI 0 :: _) rfl rfl ?_
      refine E_stM (p' := 24) (m' := up2 _ 163 8 0) rfl rfl ?_
      refine E_s (p' := 25) (st' := aA 124 :: _) rfl rfl ?_
      refine E_s (p' := 28) (st' := aA 164 :: _) rfl rfl ?_
      refine E_s (p' := 29) (st' := aI 8 :: _) rfl rfl ?_
      refine E_s (p' := 30) (st' := aI 1 :: _) rfl rfl ?_
      refine E_stM (p' := 31) (m' := up2 _ 164 8 1) rfl rfl ?_
      refine E_s (p' := 34) (L' := [some (aA 124), some (aI 1), some (aI 9), none]) rfl rfl ?_
      refine E_s (p' := 11) rfl rfl ?_
      refine E_s (p' := 12) (st' := aI 9 :: _) rfl rfl ?_
      refine E_s (p' := 14) (st' := aI 12 :: _) rfl rfl ?_
      refine E_s (p' := 17) rfl rfl ?_
      refine E_s (p' := 18) (st' := aA 124 :: _) rfl rfl ?_
      refine E_s (p' := 21) (st' := aA 163 :: _) rfl rfl ?_
      refine E_s (p' := 22) (st' := aI 9 :: _) rfl rfl ?_
      refine E_s (p' := 23) (st' := aI 0 :: _) rfl rfl ?_
      refine E_stM (p' := 24) (m' := up2 _ 163 9 0) rfl rfl ?_
      refine E_s (p' := 25) (st' := aA 124 :: _) rfl rfl ?_
      refine E_s (p' := 28) (st' := aA 164 :: _) rfl rfl ?_
      refine E_s (p' := 29) (st' := aI 9 :: _) rfl rfl ?_
      refine E_s (p' := 30) (st' := aI 1 :: _) rfl rfl ?_
      refine E_stM (p' := 31) (m' := up2 _ 164 9 1) rfl rfl ?_
      refine E_s (p' := 34) (L' := [some (aA 124), some (aI 1), some (aI 10), none]) rfl rfl ?_
      refine E_s (p' := 11) rfl rfl ?_
      refine E_s (p' := 12) (st' := aI 10 :: _) rfl rfl ?_
      refine E_s (p' := 14) (st' := aI 12 :: _) rfl rfl ?_
      refine E_s (p' := 17) rfl rfl ?_
      refine E_s (p' := 18) (st' := aA 124 :: _) rfl rfl ?_
      refine E_s (p' := 21) (st' := aA 163 :: _) rfl rfl ?_
      refine E_s (p' := 22) (st' := aI 10 :: _) rfl rfl ?_
      refine E_s (p' := 23) (st' := aI 0 :: _) rfl rfl ?_
      refine E_stM (p' := 24) (m' := up2 _ 163 10 0) rfl rfl ?_
      refine E_s (p' := 25) (st' := aA 124 :: _) rfl rfl ?_
      refine E_s (p' := 28) (st' := aA 164 :: _) rfl rfl ?_
      refine E_s (p' := 29) (st' := aI 10 :: _) rfl rfl ?_
      refine E_s (p' := 30) (st' := aI 1 :: _) rfl rfl ?_
      refine E_stM (p' := 31) (m' := up2 _ 164 10 1) rfl rfl ?_
      refine E_s (p' := 34) (L' := [some (aA 124), some (aI 1), some (aI 11), none]) rfl rfl ?_
      refine E_s (p' := 11) rfl rfl ?_
      refine E_s (p' := 12) (st' := aI 11 :: _) rfl rfl ?_
      refine E_s (p' := 14) (st' := aI 12 :: _) rfl rfl ?_
      refine E_s (p' := 17) rfl rfl ?_
      refine E_s (p' := 18) (st' := aA 124 :: _) rfl rfl ?_
      refine E_s (p' := 21) (st' := aA 163 :: _) rfl rfl ?_
      refine E_s (p' := 22) (st' := aI 11 :: _) rfl rfl ?_
      refine E_s (p' := 23) (st' := aI 0 :: _) rfl rfl ?_
      refine E_stM (p' := 24) (m' := up2 _ 163 11 0) rfl rfl ?_
      refine E_s (p' := 25) (st' := aA 124 :: _) rfl rfl ?_
      refine E_s (p' := 28) (st' := aA 164 :: _) rfl rfl ?_
      refine E_s (p' := 29) (st' := aI 11 :: _) rfl rfl ?_
      refine E_s (p' := 30) (st' := aI 1 :: _) rfl rfl ?_
      refine E_stM (p' := 31) (m' := up2 _ 164 11 1) rfl rfl ?_
      refine E_s (p' := 34) (L' := [some (aA 124), some (aI 1), some (aI 12), none]) rfl rfl ?_
      refine E_s (p' := 11) rfl rfl ?_
      refine E_s (p' := 12) (st' := aI 12 :: _) rfl rfl ?_
      refine E_s (p' := 14) (st' := aI 12 :: _) rfl rfl ?_
      refine E_s (p' := 37) rfl rfl ?_
      refine E_s (p' := 38) (st' := aI 0 :: _) rfl rfl ?_
      refine E_s (p' := 39) (L' := [some (aA 124), some (aI 1), some (aI 0), none]) rfl rfl ?_
      refine E_s (p' := 40) (st' := aI 0 :: _) rfl rfl ?_
      refine E_s (p' := 41) (st' := aA 124 :: _) rfl rfl ?_
      refine E_s (p' := 44) (st' := aA 125 :: _) rfl rfl ?_
      refine E_s (p' := 45) (st' := aI 1 :: _) rfl rfl ?_
      refine E_s (p' := 46) (st' := aI 0 :: _) rfl rfl ?_
      refine E_s (p' := 131) rfl rfl ?_
      refine E_ret rfl rfl ?_
      refine E_s (p' := 25) (st' := aA 124 :: _) rfl rfl ?_
      refine E_s (p' := 28) (st' := aA 163 :: _) rfl rfl ?_
      refine E_s (p' := 29) rfl rfl ?_
      have hg : a2 = 0 ∨ a2 = 1 ∨ a2 = 2 ∨ a2 = 3 ∨ a2 = 4 ∨ a2 = 5 ∨ a2 = 6 ∨ a2 = 7 ∨ a2 = 8 ∨ a2 = 9 ∨ a2 = 10 ∨ a2 = 11 := by omega
      rcases hg with rfl | rfl | rfl | rfl | rfl | rfl | rfl | rfl | rfl | rfl | rfl | rfl
      · refine E_s (p' := 30) (st' := aI 0 :: _) rfl rfl ?_
        refine E_s (p' := 31) (L' := [some (aA 124), some (aI 1), some (aI 0), some (aI 0), none, none, none]) rfl rfl ?_
        refine E_s (p' := 32) (st' := aI 0 :: _) rfl rfl ?_
        refine E_s (p' := 35) rfl rfl ?_
        refine E_s (p' := 36) (st' := aI (-1) :: _) rfl rfl ?_
        refine E_ret rfl rfl ?_
        refine E_s (p' := 1174) rfl rfl ?_
        refine E_s (p' := 1177) (L' := [some (aA 0), some (aA 1), some (aA 124), some (aI 6)]) rfl rfl ?_
        refine E_s (p' := 18) rfl rfl ?_
        refine E_s (p' := 19) (st' := aI 6 :: _) rfl rfl ?_
        refine E_s (p' := 20) (st' := aA 0 :: _) rfl rfl ?_
        refine E_s (p' := 21) (st' := aI 6 :: _) rfl rfl ?_
        refine E_s (p' := 23) (st' := aI 6 :: _) rfl rfl ?_
        refine E_s (p' := 24) (st' := aI 0 :: _) rfl rfl ?_
        refine E_s (p' := 1180) rfl rfl ?_
        refine E_s (p' := 1181) (st' := aI 1 :: _) rfl rfl ?_
        exact E_ret rfl rfl ⟨rfl, rfl⟩
      · refine E_s (p' := 30) (st' := aI 0 :: _) rfl rfl ?_
        refine E_s (p' := 31) (L' := [some (aA 124), some (aI 1), some (aI 1), some (aI 0), none, none, none]) rfl rfl ?_
        refine E_s (p' := 32) (st' := aI 0 :: _) rfl rfl ?_
        refine E_s (p' := 35) rfl rfl ?_
        refine E_s (p' := 36) (st' := aI (-1) :: _) rfl rfl ?_
        refine E_ret rfl rfl ?_
        refine E_s (p' := 1174) rfl rfl ?_
        refine E_s (p' := 1177) (L' := [some (aA 0), some (aA 1), some (aA 124), some (aI 6)]) rfl rfl ?_
        refine E_s (p' := 18) rfl rfl ?_
        refine E_s (p' := 19) (st' := aI 6 :: _) rfl rfl ?_
        refine E_s (p' := 20) (st' := aA 0 :: _) rfl rfl ?_
        refine E_s (p' := 21) (st' := aI 6 :: _) rfl rfl ?_
        refine E_s (p' := 23) (st' := aI 6 :: _) rfl rfl ?_
        refine E_s (p' := 24) (st' := aI 0 :: _) rfl rfl ?_
        refine E_s (p' := 1180) rfl rfl ?_
        refine E_s (p' := 1181) (st' := aI 1 :: _) rfl rfl ?_
        exact E_ret rfl rfl ⟨rfl, rfl⟩
      · refine E_s (p' := 30) (st' := aI 0 :: _) rfl rfl ?_
        refine E_s (p' := 31) (L' := [some (aA 124), some (aI 1), some (aI 2), some (aI 0), none, none, none]) rfl rfl ?_
        refine E_s (p' := 32) (st' := aI 0 :: _) rfl rfl ?_
        refine E_s (p' := 35) rfl rfl ?_
        refine E_s (p' := 36) (st' := aI (-1) :: _) rfl rfl ?_
        refine E_ret rfl rfl ?_
        refine E_s (p' := 1174) rfl rfl ?_
        refine E_s (p' := 1177) (L' := [some (aA 0), some (aA 1), some (aA 124), some (aI 6)]) rfl rfl ?_
        refine E_s (p' := 18) rfl rfl ?_
        refine E_s (p' := 19) (st' := aI 6 :: _) rfl rfl ?_
        refine E_s (p' := 20) (st' := aA 0 :: _) rfl rfl ?_
        refine E_s (p' := 21) (st' := aI 6 :: _) rfl rfl ?_
        refine E_s (p' := 23) (st' := aI 6 :: _) rfl rfl ?_
        refine E_s (p' := 24) (st' := aI 0 :: _) rfl rfl ?_
        refine E_s (p' := 1180) rfl rfl ?_
        refine E_s (p' := 1181) (st' := aI 1 :: _) rfl rfl ?_
        exact E_ret rfl rfl ⟨rfl, rfl⟩
      · refine E_s (p' := 30) (st' := aI 0 :: _) rfl rfl ?_
        refine E_s (p' := 31) (L' := [some (aA 124), some (aI 1), some (aI 3), some (aI 0), none, none, none]) rfl rfl ?_
        refine E_s (p' := 32) (st' := aI 0 :: _) rfl rfl ?_
        refine E_s (p' := 35) rfl rfl ?_
        refine E_s (p' := 36) (st' := aI (-1) :: _) rfl rfl ?_
        refine E_ret rfl rfl ?_
        refine E_s (p' := 1174) rfl rfl ?_
        refine E_s (p' := 1177) (L' := [some (aA 0), some (aA 1), some (aA 124), some (aI 6)]) rfl rfl ?_
        refine E_s (p' := 18) rfl rfl ?_
        refine E_s (p' := 19) (st' := aI 6 :: _) rfl rfl ?_
        refine E_s (p' := 20) (st' := aA 0 :: _) rfl rfl ?_
        refine E_s (p' := 21) (st' := aI 6 :: _) rfl rfl ?_
        refine E_s (p' := 23) (st' := aI 6 :: _) rfl rfl ?_
        refine E_s (p' := 24) (st' := aI 0 :: _) rfl rfl ?_
        refine E_s (p' := 1180) rfl rfl ?_
        refine E_s (p' := 1181) (st' := aI 1 :: _) rfl rfl ?_
        exact E_ret rfl rfl ⟨rfl, rfl⟩
      · refine E_s (p' := 30) (st' := aI 0 :: _) rfl rfl ?_
        refine E_s (p' := 31) (L' := [some (aA 124), some (aI 1), some (aI 4), some (aI 0), none, none, none]) rfl rfl ?_
        refine E_s (p' := 32) (st' := aI 0 :: _) rfl rfl ?_
        refine E_s (p' := 35) rfl rfl ?_
        refine E_s (p' := 36) (st' := aI (-1) :: _) rfl rfl ?_
        refine E_ret rfl rfl ?_
        refine E_s (p' := 1174) rfl rfl ?_
        refine E_s (p' := 1177) (L' := [some (aA 0), some (aA 1), some (aA 124), some (aI 6)]) rfl rfl ?_
        refine E_s (p' := 18) rfl rfl ?_
        refine E_s (p' := 19) (st' := aI 6 :: _) rfl rfl ?_
        refine E_s (p' := 20) (st' := aA 0 :: _) rfl rfl ?_
        refine E_s (p' := 21) (st' := aI 6 :: _) rfl rfl ?_
        refine E_s (p' := 23) (st' := aI 6 :: _) rfl rfl ?_
        refine E_s (p' := 24) (st' := aI 0 :: _) rfl rfl ?_
        refine E_s (p' := 1180) rfl rfl ?_
        refine E_s (p' := 1181) (st' := aI 1 :: _) rfl rfl ?_
        exact E_ret rfl rfl ⟨rfl, rfl⟩
      · refine E_s (p' := 30) (st' := aI 0 :: _) rfl rfl ?_
        refine E_s (p' := 31) (L' := [some (aA 124), some (aI 1), some (aI 5), some (aI 0), none, none, none]) rfl rfl ?_
        refine E_s (p' := 32) (st' := aI 0 :: _) rfl rfl ?_
        refine E_s (p' := 35) rfl rfl ?_
        refine E_s (p' := 36) (st' := aI (-1) :: _) rfl rfl ?_
        refine E_ret rfl rfl ?_
        refine E_s (p' := 1174) rfl rfl ?_
        refine E_s (p' := 1177) (L' := [some (aA 0), some (aA 1), some (aA 124), some (aI 6)]) rfl rfl ?_
        refine E_s (p' := 18) rfl rfl ?_
        refine E_s (p' := 19) (st' := aI 6 :: _) rfl rfl ?_
        refine E_s (p' := 20) (st' := aA 0 :: _) rfl rfl ?_
        refine E_s (p' := 21) (st' := aI 6 :: _) rfl rfl ?_
        refine E_s (p' := 23) (st' := aI 6 :: _) rfl rfl ?_
        refine E_s (p' := 24) (st' := aI 0 :: _) rfl rfl ?_
        refine E_s (p' := 1180) rfl rfl ?_
        refine E_s (p' := 1181) (st' := aI 1 :: _) rfl rfl ?_
        exact E_ret rfl rfl ⟨rfl, rfl⟩
      · refine E_s (p' := 30) (st' := aI 0 :: _) rfl rfl ?_
        refine E_s (p' := 31) (L' := [some (aA 124), some (aI 1), some (aI 6), some (aI 0), none, none, none]) rfl rfl ?_
        refine E_s (p' := 32) (st' := aI 0 :: _) rfl rfl ?_
        refine E_s (p' := 35) rfl rfl ?_
        refine E_s (p' := 36) (st' := aI (-1) :: _) rfl rfl ?_
        refine E_ret rfl rfl ?_
        refine E_s (p' := 1174) rfl rfl ?_
        refine E_s (p' := 1177) (L' := [some (aA 0), some (aA 1), some (aA 124), some (aI 6)]) rfl rfl ?_
        refine E_s (p' := 18) rfl rfl ?_
        refine E_s (p' := 19) (st' := aI 6 :: _) rfl rfl ?_
        refine E_s (p' := 20) (st' := aA 0 :: _) rfl rfl ?_
        refine E_s (p' := 21) (st' := aI 6 :: _) rfl rfl ?_
        refine E_s (p' := 23) (st' := aI 6 :: _) rfl rfl ?_
        refine E_s (p' := 24) (st' := aI 0 :: _) rfl rfl ?_
        refine E_s (p' := 1180) rfl rfl ?_
        refine E_s (p' := 1181) (st' := aI 1 :: _) rfl rfl ?_
        exact E_ret rfl rfl ⟨rfl, rfl⟩
      · refine E_s (p' := 30) (st' := aI 0 :: _) rfl rfl ?_
        refine E_s (p' := 31) (L' := [some (aA 124), some (aI 1), some (aI 7), some (aI 0), none, none, none]) rfl rfl ?_
        refine E_s (p' := 32) (st' := aI 0 :: _) rfl rfl ?_
        refine E_s (p' := 35) rfl rfl ?_
        refine E_s (p' := 36) (st' := aI (-1) :: _) rfl rfl ?_
        refine E_ret rfl rfl ?_
        refine E_s (p' := 1174) rfl rfl ?_
        refine E_s (p' := 1177) (L' := [some (aA 0), some (aA 1), some (aA 124), some (aI 6)]) rfl rfl ?_
        refine E_s (p' := 18) rfl rfl ?_
        refine E_s (p' := 19) (st' := aI 6 :: _) rfl rfl ?_
        refine E_s (p' := 20) (st' := aA 0 :: _) rfl rfl ?_
        refine E_s (p' := 21) (st' := aI 6 :: _) rfl rfl ?_
        refine E_s (p' := 23) (st' := aI 6 :: _) rfl rfl ?_
        refine E_s (p' := 24) (st' := aI 0 :: _) rfl rfl ?_
        refine E_s (p' := 1180) rfl rfl ?_
        refine E_s (p' := 1181) (st' := aI 1 :: _) rfl rfl ?_
        exact E_ret rfl rfl ⟨rfl, rfl⟩
      · refine E_s (p' := 30) (st' := aI 0 :: _) rfl rfl ?_
        refine E_s (p' := 31) (L' := [some (aA 124), some (aI 1), some (aI 8), some (aI 0), none, none, none]) rfl rfl ?_
        refine E_s (p' := 32) (st' := aI 0 :: _) rfl rfl ?_
        refine E_s (p' := 35) rfl rfl ?_
        refine E_s (p' := 36) (st' := aI (-1) :: _) rfl rfl ?_
        refine E_ret rfl rfl ?_
        refine E_s (p' := 1174) rfl rfl ?_
        refine E_s (p' := 1177) (L' := [some (aA 0), some (aA 1), some (aA 124), some (aI 6)]) rfl rfl ?_
        refine E_s (p' := 18) rfl rfl ?_
        refine E_s (p' := 19) (st' := aI 6 :: _) rfl rfl ?_
        refine E_s (p' := 20) (st' := aA 0 :: _) rfl rfl ?_
        refine E_s (p' := 21) (st' := aI 6 :: _) rfl rfl ?_
        refine E_s (p' := 23) (st' := aI 6 :: _) rfl rfl ?_
        refine E_s (p' := 24) (st' := aI 0 :: _) rfl rfl ?_
        refine E_s (p' := 1180) rfl rfl ?_
        refine E_s (p' := 1181) (st' := aI 1 :: _) rfl rfl ?_
        exact E_ret rfl rfl ⟨rfl, rfl⟩
      · refine E_s (p' := 30) (st' := aI 0 :: _) rfl rfl ?_
        refine E_s (p' := 31) (L' := [some (aA 124), some (aI 1), some (aI 9), some (aI 0), none, none, none]) rfl rfl ?_
        refine E_s (p' := 32) (st' := aI 0 :: _) rfl rfl ?_
        refine E_s (p' := 35) rfl rfl ?_
        refine E_s (p' := 36) (st' := aI (-1) :: _) rfl rfl ?_
        refine E_ret rfl rfl ?_
        refine E_s (p' := 1174) rfl rfl ?_
        refine E_s (p' := 1177) (L' := [some (aA 0), some (aA 1), some (aA 124), some (aI 6)]) rfl rfl ?_
        refine E_s (p' := 18) rfl rfl ?_
        refine E_s (p' := 19) (st' := aI 6 :: _) rfl rfl ?_
        refine E_s (p' := 20) (st' := aA 0 :: _) rfl rfl ?_
        refine E_s (p' := 21) (st' := aI 6 :: _) rfl rfl ?_
        refine E_s (p' := 23) (st' := aI 6 :: _) rfl rfl ?_
        refine E_s (p' := 24) (st' := aI 0 :: _) rfl rfl ?_
        refine E_s (p' := 1180) rfl rfl ?_
        refine E_s (p' := 1181) (st' := aI 1 :: _) rfl rfl ?_
        exact E_ret rfl rfl ⟨rfl, rfl⟩
      · refine E_s (p' := 30) (st' := aI 0 :: _) rfl rfl ?_
        refine E_s (p' := 31) (L' := [some (aA 124), some (aI 1), some (aI 10), some (aI 0), none, none, none]) rfl rfl ?_
        refine E_s (p' := 32) (st' := aI 0 :: _) rfl rfl ?_
        refine E_s (p' := 35) rfl rfl ?_
        refine E_s (p' := 36) (st' := aI (-1) :: _) rfl rfl ?_
        refine E_ret rfl rfl ?_
        refine E_s (p' := 1174) rfl rfl ?_
        refine E_s (p' := 1177) (L' := [some (aA 0), some (aA 1), some (aA 124), some (aI 6)]) rfl rfl ?_
        refine E_s (p' := 18) rfl rfl ?_
        refine E_s (p' := 19) (st' := aI 6 :: _) rfl rfl ?_
        refine E_s (p' := 20) (st' := aA 0 :: _) rfl rfl ?_
        refine E_s (p' := 21) (st' := aI 6 :: _) rfl rfl ?_
        refine E_s (p' := 23) (st' := aI 6 :: _) rfl rfl ?_
        refine E_s (p' := 24) (st' := aI 0 :: _) rfl rfl ?_
        refine E_s (p' := 1180) rfl rfl ?_
        refine E_s (p' := 1181) (st' := aI 1 :: _) rfl rfl ?_
        exact E_ret rfl rfl ⟨rfl, rfl⟩
      · refine E_s (p' := 30) (st' := aI 0 :: _) rfl rfl ?_
        refine E_s (p' := 31) (L' := [some (aA 124), some (aI 1), some (aI 11), some (aI 0), none, none, none]) rfl rfl ?_
        refine E_s (p' := 32) (st' := aI 0 :: _) rfl rfl ?_
        refine E_s (p' := 35) rfl rfl ?_
        refine E_s (p' := 36) (st' := aI (-1) :: _) rfl rfl ?_
        refine E_ret rfl rfl ?_
        refine E_s (p' := 1174) rfl rfl ?_
        refine E_s (p' := 1177) (L' := [some (aA 0), some (aA 1), some (aA 124), some (aI 6)]) rfl rfl ?_
        refine E_s (p' := 18) rfl rfl ?_
        refine E_s (p' := 19) (st' := aI 6 :: _) rfl rfl ?_
        refine E_s (p' := 20) (st' := aA 0 :: _) rfl rfl ?_
        refine E_s (p' := 21) (st' := aI 6 :: _) rfl rfl ?_
        refine E_s (p' := 23) (st' := aI 6 :: _) rfl rfl ?_
        refine E_s (p' := 24) (st' := aI 0 :: _) rfl rfl ?_
        refine E_s (p' := 1180) rfl rfl ?_
        refine E_s (p' := 1181) (st' := aI 1 :: _) rfl rfl ?_
        exact E_ret rfl rfl ⟨rfl, rfl⟩
    · refine E_s (p' := 21) (st' := aI (-1) :: _) rfl rfl ?_
      refine E_ret rfl rfl ?_
      refine E_s (p' := 1090) (st' := aA 124 :: _) rfl rfl ?_
      refine E_s (p' := 1091) (st' := aA 0 :: _) rfl rfl ?_
      refine E_s (p' := 1092) (st' := aI 0 :: _) rfl rfl ?_
      refine E_s (p' := 1093) (st' := aI 1 :: _) rfl rfl ?_
      refine E_s (p' := 1094) (st' := aI 1 :: _) rfl rfl ?_
      refine E_scr rfl rfl h1 ?_
      refine E_s (p' := 1096) (st' := aA 0 :: _) rfl rfl ?_
      refine E_s (p' := 1097) (st' := aI 0 :: _) rfl rfl ?_
      refine E_s (p' := 1098) (st' := aI 2 :: _) rfl rfl ?_
      refine E_s (p' := 1099) (st' := aI 2 :: _) rfl rfl ?_
      refine E_scr rfl rfl h2 ?_
      refine E_callL (p' := 1103) (L0 := [some (aA 124), some (aI 1), some (aI a2), none, none, none, none]) rfl rfl rfl ?_
      refine E_s (p' := 1) (st' := aI 1 :: _) rfl rfl ?_
      refine E_callL (p' := 4) (L0 := [some (aI 1)]) rfl rfl rfl ?_
      refine E_s (p' := 1) (st' := aI 1 :: _) rfl rfl ?_
      refine E_s (p' := 2) (st' := aI 0 :: _) rfl rfl ?_
      refine E_s (p' := 3) (st' := aI 3 :: _) rfl rfl ?_
      refine E_callL (p' := 6) (L0 := [some (aI 1), some (aI 0), some (aI 3)]) rfl rfl rfl ?_
      refine E_s (p' := 1) (st' := aI 1 :: _) rfl rfl ?_
      refine E_s (p' := 2) (st' := aI 0 :: _) rfl rfl ?_
      refine E_s (p' := 5) rfl rfl ?_
      refine E_s (p' := 6) (st' := aI 1 :: _) rfl rfl ?_
      refine E_s (p' := 7) (st' := aI 3 :: _) rfl rfl ?_
      refine E_s (p' := 10) rfl rfl ?_
      refine E_s (p' := 11) (st' := aI 1 :: _) rfl rfl ?_
      refine E_s (p' := 15) rfl rfl ?_
      refine E_ret rfl rfl ?_
      refine E_ret rfl rfl ?_
      refine E_s (p' := 7) rfl rfl ?_
      refine E_s (p' := 8) rfl rfl ?_
      refine E_s (p' := 9) (st' := aI 0 :: _) rfl rfl ?_
      refine E_s (p' := 11) (st' := aI 11 :: _) rfl rfl ?_
      refine E_callL (p' := 14) (L0 := [some (aI a2), some (aI 0), some (aI 11)]) rfl rfl rfl ?_
      refine E_s (p' := 1) rfl rfl ?_
      refine E_s (p' := 2) (st' := aI 0 :: _) rfl rfl ?_
      refine E_icmp_lt (y := 0) rfl (by decide) (fun q => absurd q (by omega)) (fun _ => ?_)
      refine E_s (p' := 6) rfl rfl ?_
      refine E_s (p' := 7) (st' := aI 11 :: _) rfl rfl ?_
      refine E_icmp_gt (y := 11) rfl (by decide) (fun _ => ?_) (fun q => absurd q (by omega))
      refine E_s (p' := 15) (st' := aI 0 :: _) rfl rfl ?_
      refine E_ret rfl rfl ?_
      refine E_s (p' := 17) rfl rfl ?_
      refine E_s (p' := 18) (st' := aI (-1) :: _) rfl rfl ?_
      refine E_ret rfl rfl ?_
      refine E_s (p' := 1174) rfl rfl ?_
      refine E_s (p' := 1177) (L' := [some (aA 0), some (aA 1), some (aA 124), some (aI 6)]) rfl rfl ?_
      refine E_s (p' := 18) rfl rfl ?_
      refine E_s (p' := 19) (st' := aI 6 :: _) rfl rfl ?_
      refine E_s (p' := 20) (st' := aA 0 :: _) rfl rfl ?_
      refine E_s (p' := 21) (st' := aI 6 :: _) rfl rfl ?_
      refine E_s (p' := 23) (st' := aI 6 :: _) rfl rfl ?_
      refine E_s (p' := 24) (st' := aI 0 :: _) rfl rfl ?_
      refine E_s (p' := 1180) rfl rfl ?_
      refine E_s (p' := 1181) (st' := aI 1 :: _) rfl rfl ?_
      exact E_ret rfl rfl ⟨rfl, rfl⟩
set_option maxRecDepth 100000 in
set_option maxHeartbeats 40000000 in
theorem pc_25_2 (xs : Nat → Int) {z a2 a3 a4 a5 : Int} (hz : b32 (fun a b => a &&& b) z 31 = 25) (h0 : xs 0 = z) (h1 : xs 1 = 2) (h2 : xs 2 = a2) (h3 : xs 3 = a3) (h4 : xs 4 = a4) (h5 : xs 5 = a5) : E 0 18 LL [] (s0 xs 6) PQ := by
  refine E_s (p' := 19) (st' := aI 0 :: _) rfl rfl ?_
  refine E_s (p' := 20) (st' := aA 0 :: _) rfl rfl ?_
  refine E_s (p' := 21) (st' := aI 6 :: _) rfl rfl ?_
  refine E_s (p' := 23) (st' := aI 6 :: _) rfl rfl ?_
  refine E_s (p' := 24) (st' := aI 0 :: _) rfl rfl ?_
  refine E_s (p' := 27) rfl rfl ?_
  refine E_s (p' := 28) (st' := aA 0 :: _) rfl rfl ?_
  refine E_s (p' := 29) (st' := aI 0 :: _) rfl rfl ?_
  refine E_scr rfl rfl h0 ?_
  refine E_s (p' := 32) (st' := aI 31 :: _) rfl rfl ?_
  refine E_s (p' := 33) rfl rfl ?_
  refine E_val hz ?_
  refine E_s (p' := 1075) rfl rfl ?_
  refine E_s (p' := 1076) (st' := aA 1 :: _) rfl rfl ?_
  refine E_s (p' := 1077) (st' := aA 0 :: _) rfl rfl ?_
  refine E_s (p' := 1078) (st' := aI 0 :: _) rfl rfl ?_
  refine E_s (p' := 1079) (st' := aI 1 :: _) rfl rfl ?_
  refine E_s (p' := 1080) (st' := aI 1 :: _) rfl rfl ?_
  refine E_scr rfl rfl h1 ?_
  refine E_s (p' := 1082) (st' := aA 0 :: _) rfl rfl ?_
  refine E_s (p' := 1083) (st' := aI 0 :: _) rfl rfl ?_
  refine E_s (p' := 1084) (st' := aI 2 :: _) rfl rfl ?_
  refine E_s (p' := 1085) (st' := aI 2 :: _) rfl rfl ?_
  refine E_scr rfl rfl h2 ?_
  refine E_callL (p' := 1089) (L0 := [some (aA 1), some (aI 2), some (aI a2), none, none, none]) rfl rfl rfl ?_
  refine E_s (p' := 1) (st' := aA 1 :: _) rfl rfl ?_
  refine E_s (p' := 2) (st' := aI 2 :: _) rfl rfl ?_
  refine E_callL (p' := 5) (L0 := [some (aA 1), some (aI 2)]) rfl rfl rfl ?_
  refine E_s (p' := 1) (st' := aI 2 :: _) rfl rfl ?_
  refine E_s (p' := 4) rfl rfl ?_
  refine E_s (p' := 5) (st' := aI 2 :: _) rfl rfl ?_
  refine E_s (p' := 6) (st' := aI 4 :: _) rfl rfl ?_
  refine E_s (p' := 9) rfl rfl ?_
  refine E_s (p' := 10) (st' := aA 1 :: _) rfl rfl ?_
  refine E_s (p' := 13) (st' := aA 2 :: _) rfl rfl ?_
  refine E_s (p' := 14) (st' := aI 2 :: _) rfl rfl ?_
  refine E_s (p' := 15) (st' := aA 72 :: _) rfl rfl ?_
  refine E_s (p' := 19) rfl rfl ?_
  refine E_ret rfl rfl ?_
  refine E_s (p' := 6) (L' := [some (aA 1), some (aI 2), some (aI a2), some (aA 72), none, none]) rfl rfl ?_
  refine E_s (p' := 7) (st' := aA 72 :: _) rfl rfl ?_
  refine E_s (p' := 10) rfl rfl ?_
  refine E_s (p' := 11) rfl rfl ?_
  refine E_if_lt rfl (by decide) (fun _ => ?_) (fun _ => ?_)
  · refine E_s (p' := 21) (st' := aI (-1) :: _) rfl rfl ?_
    refine E_ret rfl rfl ?_
    refine E_s (p' := 1090) (st' := aA 124 :: _) rfl rfl ?_
    refine E_s (p' := 1091) (st' := aA 0 :: _) rfl rfl ?_
    refine E_s (p' := 1092) (st' := aI 0 :: _) rfl rfl ?_
    refine E_s (p' := 1093) (st' := aI 1 :: _) rfl rfl ?_
    refine E_s (p' := 1094) (st' := aI 1 :: _) rfl rfl ?_
    refine E_scr rfl rfl h1 ?_
    refine E_s (p' := 1096) (st' := aA 0 :: _) rfl rfl ?_
    refine E_s (p' := 1097) (st' := aI 0 :: _) rfl rfl ?_
    refine E_s (p' := 1098) (st' := aI 2 :: _) rfl rfl ?_
    refine E_s (p' := 1099) (st' := aI 2 :: _) rfl rfl ?_
    refine E_scr rfl rfl h2 ?_
    refine E_callL (p' := 1103) (L0 := [some (aA 124), some (aI 2), some (aI a2), none, none, none, none]) rfl rfl rfl ?_
    refine E_s (p' := 1) (st' := aI 2 :: _) rfl rfl ?_
    refine E_callL (p' := 4) (L0 := [some (aI 2)]) rfl rfl rfl ?_
    refine E_s (p' := 1) (st' := aI 2 :: _) rfl rfl ?_
    refine E_s (p' := 2) (st' := aI 0 :: _) rfl rfl ?_
    refine E_s (p' := 3) (st' := aI 3 :: _) rfl rfl ?_
    refine E_callL (p' := 6) (L0 := [some (aI 2), some (aI 0), some (aI 3)]) rfl rfl rfl ?_
    refine E_s (p' := 1) (st' := aI 2 :: _) rfl rfl ?_
    refine E_s (p' := 2) (st' := aI 0 :: _) rfl rfl ?_
    refine E_s (p' := 5) rfl rfl ?_
    refine E_s (p' := 6) (st' := aI 2 :: _) rfl rfl ?_
    refine E_s (p' := 7) (st' := aI 3 :: _) rfl rfl ?_
    refine E_s (p' := 10) rfl rfl ?_
    refine E_s (p' := 11) (st' := aI 1 :: _) rfl rfl ?_
    refine E_s (p' := 15) rfl rfl ?_
    refine E_ret rfl rfl ?_
    refine E_ret rfl rfl ?_
    refine E_s (p' := 7) rfl rfl ?_
    refine E_s (p' := 8) rfl rfl ?_
    refine E_s (p' := 9) (st' := aI 0 :: _) rfl rfl ?_
    refine E_s (p' := 11) (st' := aI 11 :: _) rfl rfl ?_
    refine E_callL (p' := 14) (L0 := [some (aI a2), some (aI 0), some (aI 11)]) rfl rfl rfl ?_
    refine E_s (p' := 1) rfl rfl ?_
    refine E_s (p' := 2) (st' := aI 0 :: _) rfl rfl ?_
    refine E_icmp_lt (y := 0) rfl (by decide) (fun _ => ?_) (fun q => absurd q (by omega))
    refine E_s (p' := 15) (st' := aI 0 :: _) rfl rfl ?_
    refine E_ret rfl rfl ?_
    refine E_s (p' := 17) rfl rfl ?_
    refine E_s (p' := 18) (st' := aI (-1) :: _) rfl rfl ?_
    refine E_ret rfl rfl ?_
    refine E_s (p' := 1174) rfl rfl ?_
    refine E_s (p' := 1177) (L' := [some (aA 0), some (aA 1), some (aA 124), some (aI 6)]) rfl rfl ?_
    refine E_s (p' := 18) rfl rfl ?_
    refine E_s (p' := 19) (st' := aI 6 :: _) rfl rfl ?_
    refine E_s (p' := 20) (st' := aA 0 :: _) rfl rfl ?_
    refine E_s (p' := 21) (st' := aI 6 :: _) rfl rfl ?_
    refine E_s (p' := 23) (st' := aI 6 :: _) rfl rfl ?_
    refine E_s (p' := 24) (st' := aI 0 :: _) rfl rfl ?_
    refine E_s (p' := 1180) rfl rfl ?_
    refine E_s (p' := 1181) (st' := aI 1 :: _) rfl rfl ?_
    exact E_ret rfl rfl ⟨rfl, rfl⟩
  · refine E_s (p' := 15) rfl rfl ?_
    refine E_s (p' := 17) (st' := aI 12 :: _) rfl rfl ?_
    refine E_icmp_lt (y := 12) rfl (by decide) (fun _ => ?_) (fun _ => ?_)
    · refine E_s (p' := 23) (st' := aA 72 :: _) rfl rfl ?_
      refine E_s (p' := 26) (st' := aA 73 :: _) rfl rfl ?_
      refine E_s (p' := 27) rfl rfl ?_
      refine E_s (p' := 28) (st' := aA 1 :: _) rfl rfl ?_
      refine E_s (p' := 31) (st' := aA 19 :: _) rfl rfl ?_
      refine E_callL (p' := 34) (L0 := [some (aA 73), some (aI a2), some (aA 19), none, none]) rfl rfl rfl ?_
      refine E_s (p' := 1) (st' := aI 0 :: _) rfl rfl ?_
      refine E_s (p' := 2) (L' := [some (aA 73), some (aI a2), some (aA 19), some (aI 0), none]) rfl rfl ?_
      refine E_s (p' := 3) (st' := aI 0 :: _) rfl rfl ?_
      refine E_s (p' := 5) (L' := [some (aA 73), some (aI a2), some (aA 19), some (aI 0), some (aI 0)]) rfl rfl ?_
      refine E_s (p' := 7) (st' := aI 0 :: _) rfl rfl ?_
      refine E_s (p' := 8) (st' := aA 73 :: _) rfl rfl ?_
      refine E_s (p' := 11) (st' := aI 0 :: _) rfl rfl ?_
      refine E_s (p' := 44) rfl rfl ?_
      refine E_s (p' := 45) (st' := aI 0 :: _) rfl rfl ?_
      refine E_ret rfl rfl ?_
      refine E_s (p' := 36) (L' := [some (aA 1), some (aI 2), some (aI a2), some (aA 72), some (aI 0), none]) rfl rfl ?_
      refine E_s (p' := 37) (st' := aI 1 :: _) rfl rfl ?_
      refine E_s (p' := 39) (L' := [some (aA 1), some (aI 2), some (aI a2), some (aA 72), some (aI 0), some (aI 1)]) rfl rfl ?_
      refine E_s (p' := 41) (st' := aI 1 :: _) rfl rfl ?_
      refine E_s (p' := 43) (st' := aI 0 :: _) rfl rfl ?_
      refine E_s (p' := 69) rfl rfl ?_
      refine E_s (p' := 70) (st' := aI (-1) :: _) rfl rfl ?_
      refine E_ret rfl rfl ?_
      refine E_s (p' := 1090) (st' := aA 124 :: _) rfl rfl ?_
      refine E_s (p' := 1091) (st' := aA 0 :: _) rfl rfl ?_
      refine E_s (p' := 1092) (st' := aI 0 :: _) rfl rfl ?_
      refine E_s (p' := 1093) (st' := aI 1 :: _) rfl rfl ?_
      refine E_s (p' := 1094) (st' := aI 1 :: _) rfl rfl ?_
      refine E_scr rfl rfl h1 ?_
      refine E_s (p' := 1096) (st' := aA 0 :: _) rfl rfl ?_
      refine E_s (p' := 1097) (st' := aI 0 :: _) rfl rfl ?_
      refine E_s (p' := 1098) (st' := aI 2 :: _) rfl rfl ?_
      refine E_s (p' := 1099) (st' := aI 2 :: _) rfl rfl ?_
      refine E_scr rfl rfl h2 ?_
      refine E_callL (p' := 1103) (L0 := [some (aA 124), some (aI 2), some (aI a2), none, none, none, none]) rfl rfl rfl ?_
      refine E_s (p' := 1) (st' := aI 2 :: _) rfl rfl ?_
      refine E_callL (p' := 4) (L0 := [some (aI 2)]) rfl rfl rfl ?_
      refine E_s (p' := 1) (st' := aI 2 :: _) rfl rfl ?_
      refine E_s (p' := 2) (st' := aI 0 :: _) rfl rfl ?_
      refine E_s (p' := 3) (st' := aI 3 :: _) rfl rfl ?_
      refine E_callL (p' := 6) (L0 := [some (aI 2), some (aI 0), some (aI 3)]) rfl rfl rfl ?_
      refine E_s (p' := 1) (st' := aI 2 :: _) rfl rfl ?_
      refine E_s (p' := 2) (st' := aI 0 :: _) rfl rfl ?_
      refine E_s (p' := 5) rfl rfl ?_
      refine E_s (p' := 6) (st' := aI 2 :: _) rfl rfl ?_
      refine E_s (p' := 7) (st' := aI 3 :: _) rfl rfl ?_
      refine E_s (p' := 10) rfl rfl ?_
      refine E_s (p' := 11) (st' := aI 1 :: _) rfl rfl ?_
      refine E_s (p' := 15) rfl rfl ?_
      refine E_ret rfl rfl ?_
      refine E_ret rfl rfl ?_
      refine E_s (p' := 7) rfl rfl ?_
      refine E_s (p' := 8) rfl rfl ?_
      refine E_s (p' := 9) (st' := aI 0 :: _) rfl rfl ?_
      refine E_s (p' := 11) (st' := aI 11 :: _) rfl rfl ?_
      refine E_callL (p' := 14) (L0 := [some (aI a2), some (aI 0), some (aI 11)]) rfl rfl rfl ?_
      refine E_s (p' := 1) rfl rfl ?_
      refine E_s (p' := 2) (st' := aI 0 :: _) rfl rfl ?_
      refine E_icmp_lt (y := 0) rfl (by decide) (fun q => absurd q (by omega)) (fun _ => ?_)
      refine E_s (p' := 6) rfl rfl ?_
      refine E_s (p' := 7) (st' := aI 11 :: _) rfl rfl ?_
      refine E_icmp_gt (y := 11) rfl (by decide) (fun q => absurd q (by omega)) (fun _ => ?_)
      refine E_s (p' := 11) (st' := aI 1 :: _) rfl rfl ?_
      refine E_s (p' := 15) rfl rfl ?_
      refine E_ret rfl rfl ?_
      refine E_s (p' := 19) rfl rfl ?_
      refine E_s (p' := 20) (st' := aA 124 :: _) rfl rfl ?_
      refine E_s (p' := 21) (st' := aI 2 :: _) rfl rfl ?_
      refine E_callL (p' := 24) (L0 := [some (aA 124), some (aI 2), none, none]) rfl rfl rfl ?_
      refine E_s (p' := 1) (st' := aA 124 :: _) rfl rfl ?_
      refine E_s (p' := 2) (st' := aI 2 :: _) rfl rfl ?_
      refine E_s (p' := 3) (st' := aA 124 :: _) rfl rfl ?_
      refine E_s (p' := 6) (st' := aA 148 :: _) rfl rfl ?_
      refine E_callL (p' := 9) (L0 := [some (aA 124), some (aI 2), some (aA 148), none]) rfl rfl rfl ?_
      refine E_s (p' := 1) (st' := aA 124 :: _) rfl rfl ?_
      refine E_s (p' := 2) (st' := aI 2 :: _) rfl rfl ?_
      refine E_callL (p' := 5) (L0 := [some (aA 124), some (aI 2), none, none]) rfl rfl rfl ?_
      refine E_s (p' := 1) (st' := aI 0 :: _) rfl rfl ?_
      refine E_s (p' := 2) (L' := [some (aA 124), some (aI 2), some (aI 0), none]) rfl rfl ?_
      refine mr_loop1 _ 601 0 _ rfl ?_
      refine E_s (p' := 23) (st' := aA 124 :: _) rfl rfl ?_
      refine E_s (p' := 24) (st' := aI 0 :: _) rfl rfl ?_
      refine E_stM (p' := 27) (m' := up2 _ 124 25 0) rfl rfl ?_
      refine E_s (p' := 28) (st' := aA 124 :: _) rfl rfl ?_
      refine E_s (p' := 29) (st' := aI 0 :: _) rfl rfl ?_
      refine E_stM (p' := 32) (m' := up2 _ 124 26 0) rfl rfl ?_
      refine E_s (p' := 33) (st' := aI 0 :: _) rfl rfl ?_
      refine E_s (p' := 34) (L' := [some (aA 124), some (aI 2), some (aI 0), none]) rfl rfl ?_
      refine E_s (p' := 35) (st' := aI 0 :: _) rfl rfl ?_
      refine E_s (p' := 36) (st' := aA 124 :: _) rfl rfl ?_
      refine E_s (p' := 39) (st' := aA 125 :: _) rfl rfl ?_
      refine E_s (p' := 40) (st' := aI 2 :: _) rfl rfl ?_
      refine E_s (p' := 41) (st' := aI 0 :: _) rfl rfl ?_
      refine E_s (p' := 121) rfl rfl ?_
      refine E_s (p' := 122) (st' := aA 124 :: _) rfl rfl ?_
      refine E_s (p' := 123) (st' := aI 0 :: _) rfl rfl ?_
      refine E_stM (p' := 126) (m' := up2 _ 124 24 0) rfl rfl ?_
      refine E_s (p' := 127) (st' := aI 0 :: _) rfl rfl ?_
      refine E_s (p' := 128) (L' := [some (aA 124), some (aI 2), some (aI 0), none]) rfl rfl ?_
      refine mr_loop3 _ 601 0 _ rfl (fun j hj => show (if 0 ≤ j ∧ j < 601 then (0 : Int) else _) = 0 from if_pos ⟨Nat.zero_le _, hj⟩) ?_
      refine E_s (p' := 245) (st' := aA 124 :: _) rfl rfl ?_
      refine E_s (p' := 248) (st' := aI 0 :: _) rfl rfl ?_
      refine E_s (p' := 249) (st' := aA 124 :: _) rfl rfl ?_
      refine E_s (p' := 252) (st' := aI 0 :: _) rfl rfl ?_
      refine E_s (p' := 259) rfl rfl ?_
      refine E_s (p' := 260) (st' := aI 1 :: _) rfl rfl ?_
      refine E_s (p' := 261) (st' := aI 1 :: _) rfl rfl ?_
      refine E_s (p' := 263) (st' := aI 6 :: _) rfl rfl ?_
      refine E_s (p' := 271) rfl rfl ?_
      refine E_s (p' := 272) (st' := aA 124 :: _) rfl rfl ?_
      refine E_s (p' := 275) (st' := aI 0 :: _) rfl rfl ?_
      refine E_s (p' := 282) rfl rfl ?_
      refine E_s (p' := 283) (st' := aI 0 :: _) rfl rfl ?_
      refine E_ret rfl rfl ?_
      refine E_s (p' := 6) rfl rfl ?_
      refine E_s (p' := 7) (st' := aI 0 :: _) rfl rfl ?_
      refine E_s (p' := 8) (L' := [some (aA 124), some (aI 2), some (aA 148), some (aI 0)]) rfl rfl ?_
      refine E_s (p' := 9) (st' := aI 0 :: _) rfl rfl ?_
      refine E_s (p' := 10) (st' := aA 124 :: _) rfl rfl ?_
      refine E_s (p' := 13) (st' := aA 125 :: _) rfl rfl ?_
      refine E_s (p' := 14) (st' := aI 2 :: _) rfl rfl ?_
      refine E_s (p' := 15) (st' := aI 0 :: _) rfl rfl ?_
      refine E_s (p' := 58) rfl rfl ?_
      refine E_ret rfl rfl ?_
      refine E_s (p' := 10) (st' := aI 0 :: _) rfl rfl ?_
      refine E_s (p' := 11) (L' := [some (aA 124), some (aI 2), some (aI 0), none]) rfl rfl ?_
      refine E_s (p' := 12) (st' := aI 0 :: _) rfl rfl ?_
      refine E_s (p' := 14) (st' := aI 12 :: _) rfl rfl ?_
      refine E_s (p' := 17) rfl rfl ?_
      refine E_s (p' := 18) (st' := aA 124 :: _) rfl rfl ?_
      refine E_s (p' := 21) (st' := aA 163 :: _) rfl rfl ?_
      refine E_s (p' := 22) (st' := aI 0 :: _) rfl rfl ?_
      refine E_s (p' := 23) (st' := aI 0 :: _) rfl rfl ?_
      refine E_stM (p' := 24) (m' := up2 _ 163 0 0) rfl rfl ?_
      refine E_s (p' := 25) (st' := aA 124 :: _) rfl rfl ?_
      refine E_s (p' := 28) (st' := aA 164 :: _) rfl rfl ?_
      refine E_s (p' := 29) (st' := aI 0 :: _) rfl rfl ?_
      refine E_s (p' := 30) (st' := aI 1 :: _) rfl rfl ?_
      refine E_stM (p' := 31) (m' := up2 _ 164 0 1) rfl rfl ?_
      refine E_s (p' := 34) (L' := [some (aA 124), some (aI 2), some (aI 1), none]) rfl rfl ?_
      refine E_s (p' := 11) rfl rfl ?_
      refine E_s (p' := 12) (st' := aI 1 :: _) rfl rfl ?_
      refine E_s (p' := 14) (st' := aI 12 :: _) rfl rfl ?_
      refine E_s (p' := 17) rfl rfl ?_
      refine E_s (p' := 18) (st' := aA 124 :: _) rfl rfl ?_
      refine E_s (p' := 21) (st' := aA 163 :: _) rfl rfl ?_
      refine E_s (p' := 22) (st' := aI 1 :: _) rfl rfl ?_
      refine E_s (p' := 23) (st' := aI 0 :: _) rfl rfl ?_
      refine E_stM (p' := 24) (m' := up2 _ 163 1 0) rfl rfl ?_
      refine E_s (p' := 25) (st' := aA 124 :: _) rfl rfl ?_
      refine E_s (p' := 28) (st' := aA 164 :: _) rfl rfl ?_
      refine E_s (p' := 29) (st' := aI 1 :: _) rfl rfl ?_
      refine E_s (p' := 30) (st' := aI 1 :: _) rfl rfl ?_
      refine E_stM (p' := 31) (m' := up2 _ 164 1 1) rfl rfl ?_
      refine E_s (p' := 34) (L' := [some (aA 124), some (aI 2), some (aI 2), none]) rfl rfl ?_
      refine E_s (p' := 11) rfl rfl ?_
      refine E_s (p' := 12) (st' := aI 2 :: _) rfl rfl ?_
      refine E_s (p' := 14) (st' := aI 12 :: _) rfl rfl ?_
      refine E_s (p' := 17) rfl rfl ?_
      refine E_s (p' := 18) (st' := aA 124 :: _) rfl rfl ?_
      refine E_s (p' := 21) (st' := aA 163 :: _) rfl rfl ?_
      refine E_s (p' := 22) (st' := aI 2 :: _) rfl rfl ?_
      refine E_s (p' := 23) (st' := aI 0 :: _) rfl rfl ?_
      refine E_stM (p' := 24) (m' := up2 _ 163 2 0) rfl rfl ?_
      refine E_s (p' := 25) (st' := aA 124 :: _) rfl rfl ?_
      refine E_s (p' := 28) (st' := aA 164 :: _) rfl rfl ?_
      refine E_s (p' := 29) (st' := aI 2 :: _) rfl rfl ?_
      refine E_s (p' := 30) (st' := aI 1 :: _) rfl rfl ?_
      refine E_stM (p' := 31) (m' := up2 _ 164 2 1) rfl rfl ?_
      refine E_s (p' := 34) (L' := [some (aA 124), some (aI 2), some (aI 3), none]) rfl rfl ?_
      refine E_s (p' := 11) rfl rfl ?_
      refine E_s (p' := 12) (st' := aI 3 :: _) rfl rfl ?_
      refine E_s (p' := 14) (st' := aI 12 :: _) rfl rfl ?_
      refine E_s (p' := 17) rfl rfl ?_
      refine E_s (p' := 18) (st' := aA 124 :: _) rfl rfl ?_
      refine E_s (p' := 21) (st' := aA 163 :: _) rfl rfl ?_
      refine E_s (p' := 22) (st' := aI 3 :: _) rfl rfl ?_
      refine E_s (p' := 23) (st' := aI 0 :: _) rfl rfl ?_
      refine E_stM (p' := 24) (m' := up2 _ 163 3 0) rfl rfl ?_
      refine E_s (p' := 25) (st' := aA 124 :: _) rfl rfl ?_
      refine E_s (p' := 28) (st' := aA 164 :: _) rfl rfl ?_
      refine E_s (p' := 29) (st' := aI 3 :: _) rfl rfl ?_
      refine E_s (p' := 30) (st' := aI 1 :: _) rfl rfl ?_
      refine E_stM (p' := 31) (m' := up2 _ 164 3 1) rfl rfl ?_
      refine E_s (p' := 34) (L' := [some (aA 124), some (aI 2), some (aI 4), none]) rfl rfl ?_
      refine E_s (p' := 11) rfl rfl ?_
      refine E_s (p' := 12) (st' := aI 4 :: _) rfl rfl ?_
      refine E_s (p' := 14) (st' := aI 12 :: _) rfl rfl ?_
      refine E_s (p' := 17) rfl rfl ?_
      refine E_s (p' := 18) (st' := aA 124 :: _) rfl rfl ?_
      refine E_s (p' := 21) (st' := aA 163 :: _) rfl rfl ?_
      refine E_s (p' := 22) (st' := aI 4 :: _) rfl rfl ?_
      refine E_s (p' := 23) (st' := aI 0 :: _) rfl rfl ?_
      refine E_stM (p' := 24) (m' := up2 _ 163 4 0) rfl rfl ?_
      refine E_s (p' := 25) (st' := aA 124 :: _) rfl rfl ?_
      refine E_s (p' := 28) (st' := aA 164 :: _) rfl rfl ?_
      refine E_s (p' := 29) (st' := aI 4 :: _) rfl rfl ?_
      refine E_s (p' := 30) (st' := aI 1 :: _) rfl rfl ?_
      refine E_stM (p' := 31) (m' := up2 _ 164 4 1) rfl rfl ?_
      refine E_s (p' := 34) (L' := [some (aA 124), some (aI 2), some (aI 5), none]) rfl rfl ?_
      refine E_s (p' := 11) rfl rfl ?_
      refine E_s (p' := 12) (st' := aI 5 :: _) rfl rfl ?_
      refine E_s (p' := 14) (st' := aI 12 :: _) rfl rfl ?_
      refine E_s (p' := 17) rfl rfl ?_
      refine E_s (p' := 18) (st' := aA 124 :: _) rfl rfl ?_
      refine E_s (p' := 21) (st' := aA 163 :: _) rfl rfl ?_
      refine E_s (p' := 22) (st' := aI 5 :: _) rfl rfl ?_
      refine E_s (p' := 23) (st' := aI 0 :: _) rfl rfl ?_
      refine E_stM (p' := 24) (m' := up2 _ 163 5 0) rfl rfl ?_
      refine E_s (p' := 25) (st' := aA 124 :: _) rfl rfl ?_
      refine E_s (p' := 28) (st' := aA 164 :: _) rfl rfl ?_
      refine E_s (p' := 29) (st' := aI 5 :: _) rfl rfl ?_
      refine E_s (p' := 30) (st' := aI 1 :: _) rfl rfl ?_
      refine E_stM (p' := 31) (m' := up2 _ 164 5 1) rfl rfl ?_
      refine E_s (p' := 34) (L' := [some (aA 124), some (aI 2), some (aI 6), none]) rfl rfl ?_
      refine E_s (p' := 11) rfl rfl ?_
      refine E_s (p' := 12) (st' := aI 6 :: _) rfl rfl ?_
      refine E_s (p' := 14) (st' := aI 12 :: _) rfl rfl ?_
      refine E_s (p' := 17) rfl rfl ?_
      refine E_s (p' := 18) (st' := aA 124 :: _) rfl rfl ?_
      refine E_s (p' := 21) (st' := aA 163 :: _) rfl rfl ?_
      refine E_s (p' := 22) (st' := aI 6 :: _) rfl rfl ?_
      refine E_s (p' := 23) (st' := aI 0 :: _) rfl rfl ?_
      refine E_stM (p' := 24) (m' := up2 _ 163 6 0) rfl rfl ?_
      refine E_s (p' := 25) (st' := aA 124 :: _) rfl rfl ?_
      refine E_s (p' := 28) (st' := aA 164 :: _) rfl rfl ?_
      refine E_s (p' := 29) (st' := aI 6 :: _) rfl rfl ?_
      refine E_s (p' := 30) (st' := aI 1 :: _) rfl rfl ?_
      refine E_stM (p' := 31) (m' := up2 _ 164 6 1) rfl rfl ?_
      refine E_s (p' := 34) (L' := [some (aA 124), some (aI 2), some (aI 7), none]) rfl rfl ?_
      refine E_s (p' := 11) rfl rfl ?_
      refine E_s (p' := 12) (st' := aI 7 :: _) rfl rfl ?_
      refine E_s (p' := 14) (st' := aI 12 :: _) rfl rfl ?_
      refine E_s (p' := 17) rfl rfl ?_
      refine E_s (p' := 18) (st' := aA 124 :: _) rfl rfl ?_
      refine E_s (p' := 21) (st' := aA 163 :: _) rfl rfl ?_
      refine E_s (p' := 22) (st' := aI 7 :: _) rfl rfl ?_
      refine E_s (p' := 23) (st' := aI 0 :: _) rfl rfl ?_
      refine E_stM (p' := 24) (m' := up2 _ 163 7 0) rfl rfl ?_
      refine E_s (p' := 25) (st' := aA 124 :: _) rfl rfl ?_
      refine E_s (p' := 28) (st' := aA 164 :: _) rfl rfl ?_
      refine E_s (p' := 29) (st' := aI 7 :: _) rfl rfl ?_
      refine E_s (p' := 30) (st' := aI 1 :: _) rfl rfl ?_
      refine E_stM (p' := 31) (m' := up2 _ 164 7 1) rfl rfl ?_
      refine E_s (p' := 34) (L' := [some (aA 124), some (aI 2), some (aI 8), none]) rfl rfl ?_
      refine E_s (p' := 11) rfl rfl ?_
      refine E_s (p' := 12) (st' := aI 8 :: _) rfl rfl ?_
      refine E_s (p' := 14) (st' := aI 12 :: _) rfl rfl ?_
      refine E_s (p' := 17) rfl rfl ?_
      refine E_s (p' := 18) (st' := aA 124 :: _) rfl rfl ?_
      refine E_s (p' := 21) (st' := aA 163 :: _) rfl rfl ?_
      refine E_s (p' := 22) (st' := aI 8 :: _) rfl rfl ?_
      refine E_s (p' := 23) (st' := aI 0 :: _) rfl rfl ?_
      refine E_stM (p' := 24) (m' := up2 _ 163 8 0) rfl rfl ?_
      refine E_s (p' := 25) (st' := aA 124 :: _) rfl rfl ?_
      refine E_s (p' := 28) (st' := aA 164 :: _) rfl rfl ?_
      refine E_s (p' := 29) (st' := aI 8 :: _) rfl rfl ?_
      refine E_s (p' := 30) (st' := aI 1 :: _) rfl rfl ?_
      refine E_stM (p' := 31) (m' := up2 _ 164 8 1) rfl rfl ?_
      refine E_s (p' := 34) (L' := [some (aA 124), some (aI 2), some (aI 9), none]) rfl rfl ?_
      refine E_s (p' := 11) rfl rfl ?_
      refine E_s (p' := 12) (st' := aI 9 :: _) rfl rfl ?_
      refine E_s (p' := 14) (st' := aI 12 :: _) rfl rfl ?_
      refine E_s (p' := 17) rfl rfl ?_
      refine E_s (p' := 18) (st' := aA 124 :: _) rfl rfl ?_
      refine E_s (p' := 21) (st' := aA 163 :: _) rfl rfl ?_
      refine E_s (p' := 22) (st' := aI 9 :: _) rfl rfl ?_
      refine E_s (p' := 23) (st' := aI 0 :: _) rfl rfl ?_
      refine E_stM (p' := 24) (m' := up2 _ 163 9 0) rfl rfl ?_
      refine E_s (p' := 25) (st' := aA 124 :: _) rfl rfl ?_
      refine E_s (p' := 28) (st' := aA 164 :: _) rfl rfl ?_
      refine E_s (p' := 29) (st' := aI 9 :: _) rfl rfl ?_
      refine E_s (p' := 30) (st' := aI 1 :: _) rfl rfl ?_
      refine E_stM (p' := 31) (m' := up2 _ 164 9 1) rfl rfl ?_
      refine E_s (p' := 34) (L' := [some (aA 124), some (aI 2), some (aI 10), none]) rfl rfl ?_
      refine E_s (p' := 11) rfl rfl ?_
      refine E_s (p' := 12) (st' := aI 10 :: _) rfl rfl ?_
      refine E_s (p' := 14) (st' := aI 12 :: _) rfl rfl ?_
      refine E_s (p' := 17) rfl rfl ?_
      refine E_s (p' := 18) (st' := aA 124 :: _) rfl rfl ?_
      refine E_s (p' := 21) (st' := aA 163 :: _) rfl rfl ?_
      refine E_s (p' := 22) (st' := aI 10 :: _) rfl rfl ?_
      refine E_s (p' := 23) (st' := aI 0 :: _) rfl rfl ?_
      refine E_stM (p' := 24) (m' := up2 _ 163 10 0) rfl rfl ?_
      refine E_s (p' := 25) (st' := aA 124 :: _) rfl rfl ?_
      refine E_s (p' := 28) (st' := aA 164 :: _) rfl rfl ?_
      refine E_s (p' := 29) (st' := aI 10 :: _) rfl rfl ?_
      refine E_s (p' := 30) (st' := aI 1 :: _) rfl rfl ?_
      refine E_stM (p' := 31) (m' := up2 _ 164 10 1) rfl rfl ?_
      refine E_s (p' := 34) (L' := [some (aA 124), some (aI 2), some (aI 11), none]) rfl rfl ?_
      refine E_s (p' := 11) rfl rfl ?_
      refine E_s (p' := 12) (st' := aI 11 :: _) rfl rfl ?_
      refine E_s (p' := 14) (st' := aI 12 :: _) rfl rfl ?_
      refine E_s (p' := 17) rfl rfl ?_
      refine E_s (p' := 18) (st' := aA 124 :: _) rfl rfl ?_
      refine E_s (p' := 21) (st' := aA 163 :: _) rfl rfl ?_
      refine E_s (p' := 22) (st' := aI 11 :: _) rfl rfl ?_
      refine E_s (p' := 23) (st' := aI 0 :: _) rfl rfl ?_
      refine E_stM (p' := 24) (m' := up2 _ 163 11 0) rfl rfl ?_
      refine E_s (p' := 25) (st' := aA 124 :: _) rfl rfl ?_
      refine E_s (p' := 28) (st' := aA 164 :: _) rfl rfl ?_
      refine E_s (p' := 29) (st' := aI 11 :: _) rfl rfl ?_
      refine E_s (p' := 30) (st' := aI 1 :: _) rfl rfl ?_
      refine E_stM (p' := 31) (m' := up2 _ 164 11 1) rfl rfl ?_
      refine E_s (p' := 34) (L' := [some (aA 124), some (aI 2), some (aI 12), none]) rfl rfl ?_
      refine E_s (p' := 11) rfl rfl ?_
      refine E_s (p' := 12) (st' := aI 12 :: _) rfl rfl ?_
      refine E_s (p' := 14) (st' := aI 12 :: _) rfl rfl ?_
      refine E_s (p' := 37) rfl rfl ?_
      refine E_s (p' := 38) (st' := aI 0 :: _) rfl rfl ?_
      refine E_s (p' := 39) (L' := [some (aA 124), some (aI 2), some (aI 0), none]) rfl rfl ?_
      refine E_s (p' := 40) (st' := aI 0 :: _) rfl rfl ?_
      refine E_s (p' := 41) (st' := aA 124 :: _) rfl rfl ?_
      refine E_s (p' := 44) (st' := aA 125 :: _) rfl rfl ?_
      refine E_s (p' := 45) (st' := aI 2 :: _) rfl rfl ?_
      refine E_s (p' := 46) (st' := aI 0 :: _) rfl rfl ?_
      refine E_s (p' := 131) rfl rfl ?_
      refine E_ret rfl rfl ?_
      refine E_s (p' := 25) (st' := aA 124 :: _) rfl rfl ?_
      refine E_s (p' := 28) (st' := aA 163 :: _) rfl rfl ?_
      refine E_s (p' := 29) rfl rfl ?_
      have hg : a2 = 0 ∨ a2 = 1 ∨ a2 = 2 ∨ a2 = 3 ∨ a2 = 4 ∨ a2 = 5 ∨ a2 = 6 ∨ a2 = 7 ∨ a2 = 8 ∨ a2 = 9 ∨ a2 = 10 ∨ a2 = 11 := by omega
      rcases hg with rfl | rfl | rfl | rfl | rfl | rfl | rfl | rfl | rfl | rfl | rfl | rfl
      · refine E_s (p' := 30) (st' := aI 0 :: _) rfl rfl ?_
        refine E_s (p' := 31) (L' := [some (aA 124), some (aI 2), some (aI 0), some (aI 0), none, none, none]) rfl rfl ?_
        refine E_s (p' := 32) (st' := aI 0 :: _) rfl rfl ?_
        refine E_s (p' := 35) rfl rfl ?_
        refine E_s (p' := 36) (st' := aI (-1) :: _) rfl rfl ?_
        refine E_ret rfl rfl ?_
        refine E_s (p' := 1174) rfl rfl ?_
        refine E_s (p' := 1177) (L' := [some (aA 0), some (aA 1), some (aA 124), some (aI 6)]) rfl rfl ?_
        refine E_s (p' := 18) rfl rfl ?_
        refine E_s (p' := 19) (st' := aI 6 :: _) rfl rfl ?_
        refine E_s (p' := 20) (st' := aA 0 :: _) rfl rfl ?_
        refine E_s (p' := 21) (st' := aI 6 :: _) rfl rfl ?_
        refine E_s (p' := 23) (st' := aI 6 :: _) rfl rfl ?_
        refine E_s (p' := 24) (st' := aI 0 :: _) rfl rfl ?_
        refine E_s (p' := 1180) rfl rfl ?_
        refine E_s (p' := 1181) (st' := aI 1 :: _) rfl rfl ?_
        exact E_ret rfl rfl ⟨rfl, rfl⟩
      · refine E_s (p' := 30) (st' := aI 0 :: _) rfl rfl ?_
        refine E_s (p' := 31) (L' := [some (aA 124), some (aI 2), some (aI 1), some (aI 0), none, none, none]) rfl rfl ?_
        refine E_s (p' := 32) (st' := aI 0 :: _) rfl rfl ?_
        refine E_s (p' := 35) rfl rfl ?_
        refine E_s (p' := 36) (st' := aI (-1) :: _) rfl rfl ?_
        refine E_ret rfl rfl ?_
        refine E_s (p' := 1174) rfl rfl ?_
        refine E_s (p' := 1177) (L' := [some (aA 0), some (aA 1), some (aA 124), some (aI 6)]) rfl rfl ?_
        refine E_s (p' := 18) rfl rfl ?_
        refine E_s (p' := 19) (st' := aI 6 :: _) rfl rfl ?_
        refine E_s (p' := 20) (st' := aA 0 :: _) rfl rfl ?_
        refine E_s (p' := 21) (st' := aI 6 :: _) rfl rfl ?_
        refine E_s (p' := 23) (st' := aI 6 :: _) rfl rfl ?_
        refine E_s (p' := 24) (st' := aI 0 :: _) rfl rfl ?_
        refine E_s (p' := 1180) rfl rfl ?_
        refine E_s (p' := 1181) (st' := aI 1 :: _) rfl rfl ?_
        exact E_ret rfl rfl ⟨rfl, rfl⟩
      · refine E_s (p' := 30) (st' := aI 0 :: _) rfl rfl ?_
        refine E_s (p' := 31) (L' := [some (aA 124), some (aI 2), some (aI 2), some (aI 0), none, none, none]) rfl rfl ?_
        refine E_s (p' := 32) (st' := aI 0 :: _) rfl rfl ?_
        refine E_s (p' := 35) rfl rfl ?_
        refine E_s (p' := 36) (st' := aI (-1) :: _) rfl rfl ?_
        refine E_ret rfl rfl ?_
        refine E_s (p' := 1174) rfl rfl ?_
        refine E_s (p' := 1177) (L' := [some (aA 0), some (aA 1), some (aA 124), some (aI 6)]) rfl rfl ?_
        refine E_s (p' := 18) rfl rfl ?_
        refine E_s (p' := 19) (st' := aI 6 :: _) rfl rfl ?_
        refine E_s (p' := 20) (st' := aA 0 :: _) rfl rfl ?_
        refine E_s (p' := 21) (st' := aI 6 :: _) rfl rfl ?_
        refine E_s (p' := 23) (st' := aI 6 :: _) rfl rfl ?_
        refine E_s (p' := 24) (st' := aI 0 :: _) rfl rfl ?_
        refine E_s (p' := 1180) rfl rfl ?_
        refine E_s (p' := 1181) (st' := aI 1 :: _) rfl rfl ?_
        exact E_ret rfl rfl ⟨rfl, rfl⟩
      · refine E_s (p' := 30) (st' := aI 0 :: _) rfl rfl ?_
        refine E_s (p' := 31) (L' := [some (aA 124), some (aI 2), some (aI 3), some (aI 0), none, none, none]) rfl rfl ?_
        refine E_s (p' := 32) (st' := aI 0 :: _) rfl rfl ?_
        refine E_s (p' := 35) rfl rfl ?_
        refine E_s (p' := 36) (st' := aI (-1) :: _) rfl rfl ?_
        refine E_ret rfl rfl ?_
        refine E_s (p' := 1174) rfl rfl ?_
        refine E_s (p' := 1177) (L' := [some (aA 0), some (aA 1), some (aA 124), some (aI 6)]) rfl rfl ?_
        refine E_s (p' := 18) rfl rfl ?_
        refine E_s (p' := 19) (st' := aI 6 :: _) rfl rfl ?_
        refine E_s (p' := 20) (st' := aA 0 :: _) rfl rfl ?_
        refine E_s (p' := 21) (st' := aI 6 :: _) rfl rfl ?_
        refine E_s (p' := 23) (st' := aI 6 :: _) rfl rfl ?_
        refine E_s (p' := 24) (st' := aI 0 :: _) rfl rfl ?_
        refine E_s (p' := 1180) rfl rfl ?_
        refine E_s (p' := 1181) (st' := aI 1 :: _) rfl rfl ?_
        exact E_ret rfl rfl ⟨rfl, rfl⟩
      · refine E_s (p' := 30) (st' := aI 0 :: _) rfl rfl ?_
        refine E_s (p' := 31) (L' := [some (aA 124), some (aI 2), some (aI 4), some (aI 0), none, none, none]) rfl rfl ?_
        refine E_s (p' := 32) (st' := aI 0 :: _) rfl rfl ?_
        refine E_s (p' := 35) rfl rfl ?_
        refine E_s (p' := 36) (st' := aI (-1) :: _) rfl rfl ?_
        refine E_ret rfl rfl ?_
        refine E_s (p' := 1174) rfl rfl ?_
        refine E_s (p' := 1177) (L' := [some (aA 0), some (aA 1), some (aA 124), some (aI 6)]) rfl rfl ?_
        refine E_s (p' := 18) rfl rfl ?_
        refine E_s (p' := 19) (st' := aI 6 :: _) rfl rfl ?_
        refine E_s (p' := 20) (st' := aA 0 :: _) rfl rfl ?_
        refine E_s (p' := 21) (st' := aI 6 :: _) rfl rfl ?_
        refine E_s (p' := 23) (st' := aI 6 :: _) rfl rfl ?_
        refine E_s (p' := 24) (st' := aI 0 :: _) rfl rfl ?_
        refine E_s (p' := 1180) rfl rfl ?_
        refine E_s (p' := 1181) (st' := aI 1 :: _) rfl rfl ?_
        exact E_ret rfl rfl ⟨rfl, rfl⟩
      · refine E_s (p' := 30) (st' := aI 0 :: _) rfl rfl ?_
        refine E_s (p' := 31) (L' := [some (aA 124), some (aI 2), some (aI 5), some (aI 0), none, none, none]) rfl rfl ?_
        refine E_s (p' := 32) (st' := aI 0 :: _) rfl rfl ?_
        refine E_s (p' := 35) rfl rfl ?_
        refine E_s (p' := 36) (st' := aI (-1) :: _) rfl rfl ?_
        refine E_ret rfl rfl ?_
        refine E_s (p' := 1174) rfl rfl ?_
        refine E_s (p' := 1177) (L' := [some (aA 0), some (aA 1), some (aA 124), some (aI 6)]) rfl rfl ?_
        refine E_s (p' := 18) rfl rfl ?_
        refine E_s (p' := 19) (st' := aI 6 :: _) rfl rfl ?_
        refine E_s (p' := 20) (st' := aA 0 :: _) rfl rfl ?_
        refine E_s (p' := 21) (st' := aI 6 :: _) rfl rfl ?_
        refine E_s (p' := 23) (st' := aI 6 :: _) rfl rfl ?_
        refine E_s (p' := 24) (st' := aI 0 :: _) rfl rfl ?_
        refine E_s (p' := 1180) rfl rfl ?_
        refine E_s (p' := 1181) (st' := aI 1 :: _) rfl rfl ?_
        exact E_ret rfl rfl ⟨rfl, rfl⟩
      · refine E_s (p' := 30) (st' := aI 0 :: _) rfl rfl ?_
        refine E_s (p' := 31) (L' := [some (aA 124), some (aI 2), some (aI 6), some (aI 0), none, none, none]) rfl rfl ?_
        refine E_s (p' := 32) (st' := aI 0 :: _) rfl rfl ?_
        refine E_s (p' := 35) rfl rfl ?_
        refine E_s (p' := 36) (st' := aI (-1) :: _) rfl rfl ?_
        refine E_ret rfl rfl ?_
        refine E_s (p' := 1174) rfl rfl ?_
        refine E_s (p' := 1177) (L' := [some (aA 0), some (aA 1), some (aA 124), some (aI 6)]) rfl rfl ?_
        refine E_s (p' := 18) rfl rfl ?_
        refine E_s (p' := 19) (st' := aI 6 :: _) rfl rfl ?_
        refine E_s (p' := 20) (st' := aA 0 :: _) rfl rfl ?_
        refine E_s (p' := 21) (st' := aI 6 :: _) rfl rfl ?_
        refine E_s (p' := 23) (st' := aI 6 :: _) rfl rfl ?_
        refine E_s (p' := 24) (st' := aI 0 :: _) rfl rfl ?_
        refine E_s (p' := 1180) rfl rfl ?_
        refine E_s (p' := 1181) (st' := aI 1 :: _) rfl rfl ?_
        exact E_ret rfl rfl ⟨rfl, rfl⟩
      · refine E_s (p' := 30) (st' := aI 0 :: _) rfl rfl ?_
        refine E_s (p' := 31) (L' := [some (aA 124), some (aI 2), some (aI 7), some (aI 0), none, none, none]) rfl rfl ?_
        refine E_s (p' := 32) (st' := aI 0 :: _) rfl rfl ?_
        refine E_s (p' := 35) rfl rfl ?_
        refine E_s (p' := 36) (st' := aI (-1) :: _) rfl rfl ?_
        refine E_ret rfl rfl ?_
        refine E_s (p' := 1174) rfl rfl ?_
        refine E_s (p' := 1177) (L' := [some (aA 0), some (aA 1), some (aA 124), some (aI 6)]) rfl rfl ?_
        refine E_s (p' := 18) rfl rfl ?_
        refine E_s (p' := 19) (st' := aI 6 :: _) rfl rfl ?_
        refine E_s (p' := 20) (st' := aA 0 :: _) rfl rfl ?_
        refine E_s (p' := 21) (st' := aI 6 :: _) rfl rfl ?_
        refine E_s (p' := 23) (st' := aI 6 :: _) rfl rfl ?_
        refine E_s (p' := 24) (st' := aI 0 :: _) rfl rfl ?_
        refine E_s (p' := 1180) rfl rfl ?_
        refine E_s (p' := 1181) (st' := aI 1 :: _) rfl rfl ?_
        exact E_ret rfl rfl ⟨rfl, rfl⟩
      · refine E_s (p' := 30) (st' := aI 0 :: _) rfl rfl ?_
        refine E_s (p' := 31) (L' := [some (aA 124), some (aI 2), some (aI 8), some (aI 0), none, none, none]) rfl rfl ?_
        refine E_s (p' := 32) (st' := aI 0 :: _) rfl rfl ?_
        refine E_s (p' := 35) rfl rfl ?_
        refine E_s (p' := 36) (st' := aI (-1) :: _) rfl rfl ?_
        refine E_ret rfl rfl ?_
        refine E_s (p' := 1174) rfl rfl ?_
        refine E_s (p' := 1177) (L' := [some (aA 0), some (aA 1), some (aA 124), some (aI 6)]) rfl rfl ?_
        refine E_s (p' := 18) rfl rfl ?_
        refine E_s (p' := 19) (st' := aI 6 :: _) rfl rfl ?_
        refine E_s (p' := 20) (st' := aA 0 :: _) rfl rfl ?_
        refine E_s (p' := 21) (st' := aI 6 :: _) rfl rfl ?_
        refine E_s (p' := 23) (st' := aI 6 :: _) rfl rfl ?_
        refine E_s (p' := 24) (st' := aI 0 :: _) rfl rfl ?_
        refine E_s (p' := 1180) rfl rfl ?_
        refine E_s (p' := 1181) (st' := aI 1 :: _) rfl rfl ?_
        exact E_ret rfl rfl ⟨rfl, rfl⟩
      · refine E_s (p' := 30) (st' := aI 0 :: _) rfl rfl ?_
        refine E_s (p' := 31) (L' := [some (aA 124), some (aI 2), some (aI 9), some (aI 0), none, none, none]) rfl rfl ?_
        refine E_s (p' := 32) (st' := aI 0 :: _) rfl rfl ?_
        refine E_s (p' := 35) rfl rfl ?_
        refine E_s (p' := 36) (st' := aI (-1) :: _) rfl rfl ?_
        refine E_ret rfl rfl ?_
        refine E_s (p' := 1174) rfl rfl ?_
        refine E_s (p' := 1177) (L' := [some (aA 0), some (aA 1), some (aA 124), some (aI 6)]) rfl rfl ?_
        refine E_s (p' := 18) rfl rfl ?_
        refine E_s (p' := 19) (st' := aI 6 :: _) rfl rfl ?_
        refine E_s (p' := 20) (st' := aA 0 :: _) rfl rfl ?_
        refine E_s (p' := 21) (st' := aI 6 :: _) rfl rfl ?_
        refine E_s (p' := 23) (st' := aI 6 :: _) rfl rfl ?_
        refine E_s (p' := 24) (st' := aI 0 :: _) rfl rfl ?_
        refine E_s (p' := 1180) rfl rfl ?_
        refine E_s (p' := 1181) (st' := aI 1 :: _) rfl rfl ?_
        exact E_ret rfl rfl ⟨rfl, rfl⟩
      · refine E_s (p' := 30) (st' := aI 0 :: _) rfl rfl ?_
        refine E_s (p' := 31) (L' := [some (aA 124), some (aI 2), some (aI 10), some (aI 0), none, none, none]) rfl rfl ?_
        refine E_s (p' := 32) (st' := aI 0 :: _) rfl rfl ?_
        refine E_s (p' := 35) rfl rfl ?_
        refine E_s (p' := 36) (st' := aI (-1) :: _) rfl rfl ?_
        refine E_ret rfl rfl ?_
        refine E_s (p' := 1174) rfl rfl ?_
        refine E_s (p' := 1177) (L' := [some (aA 0), some (aA 1), some (aA 124), some (aI 6)]) rfl rfl ?_
        refine E_s (p' := 18) rfl rfl ?_
        refine E_s (p' := 19) (st' := aI 6 :: _) rfl rfl ?_
        refine E_s (p' := 20) (st' := aA 0 :: _) rfl rfl ?_
        refine E_s (p' := 21) (st' := aI 6 :: _) rfl rfl ?_
        refine E_s (p' := 23) (st' := aI 6 :: _) rfl rfl ?_
        refine E_s (p' := 24) (st' := aI 0 :: _) rfl rfl ?_
        refine E_s (p' := 1180) rfl rfl ?_
        refine E_s (p' := 1181) (st' := aI 1 :: _) rfl rfl ?_
        exact E_ret rfl rfl ⟨rfl, rfl⟩
      · refine E_s (p' := 30) (st' := aI 0 :: _) rfl rfl ?_
        refine E_s (p' := 31) (L' := [some (aA 124), some (aI 2), some (aI 11), some (aI 0), none, none, none]) rfl rfl ?_
        refine E_s (p' := 32) (st' := aI 0 :: _) rfl rfl ?_
        refine E_s (p' := 35) rfl rfl ?_
        refine E_s (p' := 36) (st' := aI (-1) :: _) rfl rfl ?_
        refine E_ret rfl rfl ?_
        refine E_s (p' := 1174) rfl rfl ?_
        refine E_s (p' := 1177) (L' := [some (aA 0), some (aA 1), some (aA 124), some (aI 6)]) rfl rfl ?_
        refine E_s (p' := 18) rfl rfl ?_
        refine E_s (p' := 19) (st' := aI 6 :: _) rfl rfl ?_
        refine E_s (p' := 20) (st' := aA 0 :: _) rfl rfl ?_
        refine E_s (p' := 21) (st' := aI 6 :: _) rfl rfl ?_
        refine E_s (p' := 23) (st' := aI 6 :: _) rfl rfl ?_
        refine E_s (p' := 24) (st' := aI 0 :: _) rfl rfl ?_
        refine E_s (p' := 1180) rfl rfl ?_
        refine E_s (p' := 1181) (st' := aI 1 :: _) rfl rfl ?_
        exact E_ret rfl rfl ⟨rfl, rfl⟩
    · refine E_s (p' := 21) (st' := aI (-1) :: _) rfl rfl ?_
      refine E_ret rfl rfl ?_
      refine E_s (p' := 1090) (st' := aA 124 :: _) rfl rfl ?_
      refine E_s (p' := 1091) (st' := aA 0 :: _) rfl rfl ?_
      refine E_s (p' := 1092) (st' := aI 0 :: _) rfl rfl ?_
      refine E_s (p' := 1093) (st' := aI 1 :: _) rfl rfl ?_
      refine E_s (p' := 1094) (st' := aI 1 :: _) rfl rfl ?_
      refine E_scr rfl rfl h1 ?_
      refine E_s (p' := 1096) (st' := aA 0 :: _) rfl rfl ?_
      refine E_s (p' := 1097) (st' := aI 0 :: _) rfl rfl ?_
      refine E_s (p' := 1098) (st' := aI 2 :: _) rfl rfl ?_
      refine E_s (p' := 1099) (st' := aI 2 :: _) rfl rfl ?_
      refine E_scr rfl rfl h2 ?_
      refine E_callL (p' := 1103) (L0 := [some (aA 124), some (aI 2), some (aI a2), none, none, none, none]) rfl rfl rfl ?_
      refine E_s (p' := 1) (st' := aI 2 :: _) rfl rfl ?_
      refine E_callL (p' := 4) (L0 := [some (aI 2)]) rfl rfl rfl ?_
      refine E_s (p' := 1) (st' := aI 2 :: _) rfl rfl ?_
      refine E_s (p' := 2) (st' := aI 0 :: _) rfl rfl ?_
      refine E_s (p' := 3) (st' := aI 3 :: _) rfl rfl ?_
      refine E_callL (p' := 6) (L0 := [some (aI 2), some (aI 0), some (aI 3)]) rfl rfl rfl ?_
      refine E_s (p' := 1) (st' := aI 2 :: _) rfl rfl ?_
      refine E_s (p' := 2) (st' := aI 0 :: _) rfl rfl ?_
      refine E_s (p' := 5) rfl rfl ?_
      refine E_s (p' := 6) (st' := aI 2 :: _) rfl rfl ?_
      refine E_s (p' := 7) (st' := aI 3 :: _) rfl rfl ?_
      refine E_s (p' := 10) rfl rfl ?_
      refine E_s (p' := 11) (st' := aI 1 :: _) rfl rfl ?_
      refine E_s (p' := 15) rfl rfl ?_
      refine E_ret rfl rfl ?_
      refine E_ret rfl rfl ?_
      refine E_s (p' := 7) rfl rfl ?_
      refine E_s (p' := 8) rfl rfl ?_
      refine E_s (p' := 9) (st' := aI 0 :: _) rfl rfl ?_
      refine E_s (p' := 11) (st' := aI 11 :: _) rfl rfl ?_
      refine E_callL (p' := 14) (L0 := [some (aI a2), some (aI 0), some (aI 11)]) rfl rfl rfl ?_
      refine E_s (p' := 1) rfl rfl ?_
      refine E_s (p' := 2) (st' := aI 0 :: _) rfl rfl ?_
      refine E_icmp_lt (y := 0) rfl (by decide) (fun q => absurd q (by omega)) (fun _ => ?_)
      refine E_s (p' := 6) rfl rfl ?_
      refine E_s (p' := 7) (st' := aI 11 :: _) rfl rfl ?_
      refine E_icmp_gt (y := 11) rfl (by decide) (fun _ => ?_) (fun q => absurd q (by omega))
      refine E_s (p' := 15) (st' := aI 0 :: _) rfl rfl ?_
      refine E_ret rfl rfl ?_
      refine E_s (p' := 17) rfl rfl ?_
      refine E_s (p' := 18) (st' := aI (-1) :: _) rfl rfl ?_
      refine E_ret rfl rfl ?_
      refine E_s (p' := 1174) rfl rfl ?_
      refine E_s (p' := 1177) (L' := [some (aA 0), some (aA 1), some (aA 124), some (aI 6)]) rfl rfl ?_
      refine E_s (p' := 18) rfl rfl ?_
      refine E_s (p' := 19) (st' := aI 6 :: _) rfl rfl ?_
      refine E_s (p' := 20) (st' := aA 0 :: _) rfl rfl ?_
      refine E_s (p' := 21) (st' := aI 6 :: _) rfl rfl ?_
      refine E_s (p' := 23) (st' := aI 6 :: _) rfl rfl ?_
      refine E_s (p' := 24) (st' := aI 0 :: _) rfl rfl ?_
      refine E_s (p' := 1180) rfl rfl ?_
      refine E_s (p' := 1181) (st' := aI 1 :: _) rfl rfl ?_
      exact E_ret rfl rfl ⟨rfl, rfl⟩
set_option maxRecDepth 100000 in
set_option maxHeartbeats 40000000 in
theorem pc_25_3 (xs : Nat → Int) {z a2 a3 a4 a5 : Int} (hz : b32 (fun a b => a &&& b) z 31 = 25) (h0 : xs 0 = z) (h1 : xs 1 = 3) (h2 : xs 2 = a2) (h3 : xs 3 = a3) (h4 : xs 4 = a4) (h5 : xs 5 = a5) : E 0 18 LL [] (s0 xs 6) PQ := by
  refine E_s (p' := 19) (st' := aI 0 :: _) rfl rfl ?_
  refine E_s (p' := 20) (st' := aA 0 :: _) rfl rfl ?_
  refine E_s (p' := 21) (st' := aI 6 :: _) rfl rfl ?_
  refine E_s (p' := 23) (st' := aI 6 :: _) rfl rfl ?_
  refine E_s (p' := 24) (st' := aI 0 :: _) rfl rfl ?_
  refine E_s (p' := 27) rfl rfl ?_
  refine E_s (p' := 28) (st' := aA 0 :: _) rfl rfl ?_
  refine E_s (p' := 29) (st' := aI 0 :: _) rfl rfl ?_
  refine E_scr rfl rfl h0 ?_
  refine E_s (p' := 32) (st' := aI 31 :: _) rfl rfl ?_
  refine E_s (p' := 33) rfl rfl ?_
  refine E_val hz ?_
  refine E_s (p' := 1075) rfl rfl ?_
  refine E_s (p' := 1076) (st' := aA 1 :: _) rfl rfl ?_
  refine E_s (p' := 1077) (st' := aA 0 :: _) rfl rfl ?_
  refine E_s (p' := 1078) (st' := aI 0 :: _) rfl rfl ?_
  refine E_s (p' := 1079) (st' := aI 1 :: _) rfl rfl ?_
  refine E_s (p' := 1080) (st' := aI 1 :: _) rfl rfl ?_
  refine E_scr rfl rfl h1 ?_
  refine E_s (p' := 1082) (st' := aA 0 :: _) rfl rfl ?_
  refine E_s (p' := 1083) (st' := aI 0 :: _) rfl rfl ?_
  refine E_s (p' := 1084) (st' := aI 2 :: _) rfl rfl ?_
  refine E_s (p' := 1085) (st' := aI 2 :: _) rfl rfl ?_
  refine E_scr rfl rfl h2 ?_
  refine E_callL (p' := 1089) (L0 := [some (aA 1), some (aI 3), some (aI a2), none, none, none]) rfl rfl rfl ?_
  refine E_s (p' := 1) (st' := aA 1 :: _) rfl rfl ?_
  refine E_s (p' := 2) (st' := aI 3 :: _) rfl rfl ?_
  refine E_callL (p' := 5) (L0 := [some (aA 1), some (aI 3)]) rfl rfl rfl ?_
  refine E_s (p' := 1) (st' := aI 3 :: _) rfl rfl ?_
  refine E_s (p' := 4) rfl rfl ?_
  refine E_s (p' := 5) (st' := aI 3 :: _) rfl rfl ?_
  refine E_s (p' := 6) (st' := aI 4 :: _) rfl rfl ?_
  refine E_s (p' := 9) rfl rfl ?_
  refine E_s (p' := 10) (st' := aA 1 :: _) rfl rfl ?_
  refine E_s (p' := 13) (st' := aA 2 :: _) rfl rfl ?_
  refine E_s (p' := 14) (st' := aI 3 :: _) rfl rfl ?_
  refine E_s (p' := 15) (st' := aA 98 :: _) rfl rfl ?_
  refine E_s (p' := 19) rfl rfl ?_
  refine E_ret rfl rfl ?_
  refine E_s (p' := 6) (L' := [some (aA 1), some (aI 3), some (aI a2), some (aA 98), none, none]) rfl rfl ?_
  refine E_s (p' := 7) (st' := aA 98 :: _) rfl rfl ?_
  refine E_s (p' := 10) rfl rfl ?_
  refine E_s (p' := 11) rfl rfl ?_
  refine E_if_lt rfl (by decide) (fun _ => ?_) (fun _ => ?_)
  · refine E_s (p' := 21) (st' := aI (-1) :: _) rfl rfl ?_
    refine E_ret rfl rfl ?_
    refine E_s (p' := 1090) (st' := aA 124 :: _) rfl rfl ?_
    refine E_s (p' := 1091) (st' := aA 0 :: _) rfl rfl ?_
    refine E_s (p' := 1092) (st' := aI 0 :: _) rfl rfl ?_
    refine E_s (p' := 1093) (st' := aI 1 :: _) rfl rfl ?_
    refine E_s (p' := 1094) (st' := aI 1 :: _) rfl rfl ?_
    refine E_scr rfl rfl h1 ?_
    refine E_s (p' := 1096) (st' := aA 0 :: _) rfl rfl ?_
    refine E_s (p' := 1097) (st' := aI 0 :: _) rfl rfl ?_
    refine E_s (p' := 1098) (st' := aI 2 :: _) rfl rfl ?_
    refine E_s (p' := 1099) (st' := aI 2 :: _) rfl rfl ?_
    refine E_scr rfl rfl h2 ?_
    refine E_callL (p' := 1103) (L0 := [some (aA 124), some (aI 3), some (aI a2), none, none, none, none]) rfl rfl rfl ?_
    refine E_s (p' := 1) (st' := aI 3 :: _) rfl rfl ?_
    refine E_callL (p' := 4) (L0 := [some (aI 3)]) rfl rfl rfl ?_
    refine E_s (p' := 1) (st' := aI 3 :: _) rfl rfl ?_
    refine E_s (p' := 2) (st' := aI 0 :: _) rfl rfl ?_
    refine E_s (p' := 3) (st' := aI 3 :: _) rfl rfl ?_
    refine E_callL (p' := 6) (L0 := [some (aI 3), some (aI 0), some (aI 3)]) rfl rfl rfl ?_
    refine E_s (p' := 1) (st' := aI 3 :: _) rfl rfl ?_
    refine E_s (p' := 2) (st' := aI 0 :: _) rfl rfl ?_
    refine E_s (p' := 5) rfl rfl ?_
    refine E_s (p' := 6) (st' := aI 3 :: _) rfl rfl ?_
    refine E_s (p' := 7) (st' := aI 3 :: _) rfl rfl ?_
    refine E_s (p' := 10) rfl rfl ?_
    refine E_s (p' := 11) (st' := aI 1 :: _) rfl rfl ?_
    refine E_s (p' := 15) rfl rfl ?_
    refine E_ret rfl rfl ?_
    refine E_ret rfl rfl ?_
    refine E_s (p' := 7) rfl rfl ?_
    refine E_s (p' := 8) rfl rfl ?_
    refine E_s (p' := 9) (st' := aI 0 :: _) rfl rfl ?_
    refine E_s (p' := 11) (st' := aI 11 :: _) rfl rfl ?_
    refine E_callL (p' := 14) (L0 := [some (aI a2), some (aI 0), some (aI 11)]) rfl rfl rfl ?_
    refine E_s (p' := 1) rfl rfl ?_
    refine E_s (p' := 2) (st' := aI 0 :: _) rfl rfl ?_
    refine E_icmp_lt (y := 0) rfl (by decide) (fun _ => ?_) (fun q => absurd q (by omega))
    refine E_s (p' := 15) (st' := aI 0 :: _) rfl rfl ?_
    refine E_ret rfl rfl ?_
    refine E_s (p' := 17) rfl rfl ?_
    refine E_s (p' := 18) (st' := aI (-1) :: _) rfl rfl ?_
    refine E_ret rfl rfl ?_
    refine E_s (p' := 1174) rfl rfl ?_
    refine E_s (p' := 1177) (L' := [some (aA 0), some (aA 1), some (aA 124), some (aI 6)]) rfl rfl ?_
    refine E_s (p' := 18) rfl rfl ?_
    refine E_s (p' := 19) (st' := aI 6 :: _) rfl rfl ?_
    refine E_s (p' := 20) (st' := aA 0 :: _) rfl rfl ?_
    refine E_s (p' := 21) (st' := aI 6 :: _) rfl rfl ?_
    refine E_s (p' := 23) (st' := aI 6 :: _) rfl rfl ?_
    refine E_s (p' := 24) (st' := aI 0 :: _) rfl rfl ?_
    refine E_s (p' := 1180) rfl rfl ?_
    refine E_s (p' := 1181) (st' := aI 1 :: _) rfl rfl ?_
    exact E_ret rfl rfl ⟨rfl, rfl⟩
  · refine E_s (p' := 15) rfl rfl ?_
    refine E_s (p' := 17) (st' := aI 12 :: _) rfl rfl ?_
    refine E_icmp_lt (y := 12) rfl (by decide) (fun _ => ?_) (fun _ => ?_)
    · refine E_s (p' := 23) (st' := aA 98 :: _) rfl rfl ?_
      refine E_s (p' := 26) (st' := aA 99 :: _) rfl rfl ?_
      refine E_s (p' := 27) rfl rfl ?_
      refine E_s (p' := 28) (st' := aA 1 :: _) rfl rfl ?_
      refine E_s (p' := 31) (st' := aA 19 :: _) rfl rfl ?_
      refine E_callL (p' := 34) (L0 := [some (aA 99), some (aI a2), some (aA 19), none, none]) rfl rfl rfl ?_
      refine E_s (p' := 1) (st' := aI 0 :: _) rfl rfl ?_
      refine E_s (p' := 2) (L' := [some (aA 99), some (aI a2), some (aA 19), some (aI 0), none]) rfl rfl ?_
      refine E_s (p' := 3) (st' := aI 0 :: _) rfl rfl ?_
      refine E_s (p' := 5) (L' := [some (aA 99), some (aI a2), some (aA 19), some (aI 0), some (aI 0)]) rfl rfl ?_
      refine E_s (p' := 7) (st' := aI 0 :: _) rfl rfl ?_
      refine E_s (p' := 8) (st' := aA 99 :: _) rfl rfl ?_
      refine E_s (p' := 11) (st' := aI 0 :: _) rfl rfl ?_
      refine E_s (p' := 44) rfl rfl ?_
      refine E_s (p' := 45) (st' := aI 0 :: _) rfl rfl ?_
      refine E_ret rfl rfl ?_
      refine E_s (p' := 36) (L' := [some (aA 1), some (aI 3), some (aI a2), some (aA 98), some (aI 0), none]) rfl rfl ?_
      refine E_s (p' := 37) (st' := aI 1 :: _) rfl rfl ?_
      refine E_s (p' := 39) (L' := [some (aA 1), some (aI 3), some (aI a2), some (aA 98), some (aI 0), some (aI 1)]) rfl rfl ?_
      refine E_s (p' := 41) (st' := aI 1 :: _) rfl rfl ?_
      refine E_s (p' := 43) (st' := aI 0 :: _) rfl rfl ?_
      refine E_s (p' := 69) rfl rfl ?_
      refine E_s (p' := 70) (st' := aI (-1) :: _) rfl rfl ?_
      refine E_ret rfl rfl ?_
      refine E_s (p' := 1090) (st' := aA 124 :: _) rfl rfl ?_
      refine E_s (p' := 1091) (st' := aA 0 :: _) rfl rfl ?_
      refine E_s (p' := 1092) (st' := aI 0 :: _) rfl rfl ?_
      refine E_s (p' := 1093) (st' := aI 1 :: _) rfl rfl ?_
      refine E_s (p' := 1094) (st' := aI 1 :: _) rfl rfl ?_
      refine E_scr rfl rfl h1 ?_
      refine E_s (p' := 1096) (st' := aA 0 :: _) rfl rfl ?_
      refine E_s (p' := 1097) (st' := aI 0 :: _) rfl rfl ?_
      refine E_s (p' := 1098) (st' := aI 2 :: _) rfl rfl ?_
      refine E_s (p' := 1099) (st' := aI 2 :: _) rfl rfl ?_
      refine E_scr rfl rfl h2 ?_
      refine E_callL (p' := 1103) (L0 := [some (aA 124), some (aI 3), some (aI a2), none, none, none, none]) rfl rfl rfl ?_
      refine E_s (p' := 1) (st' := aI 3 :: _) rfl rfl ?_
      refine E_callL (p' := 4) (L0 := [some (aI 3)]) rfl rfl rfl ?_
      refine E_s (p' := 1) (st' := aI 3 :: _) rfl rfl ?_
      refine E_s (p' := 2) (st' := aI 0 :: _) rfl rfl ?_
      refine E_s (p' := 3) (st' := aI 3 :: _) rfl rfl ?_
      refine E_callL (p' := 6) (L0 := [some (aI 3), some (aI 0), some (aI 3)]) rfl rfl rfl ?_
      refine E_s (p' := 1) (st' := aI 3 :: _) rfl rfl ?_
      refine E_s (p' := 2) (st' := aI 0 :: _) rfl rfl ?_
      refine E_s (p' := 5) rfl rfl ?_
      refine E_s (p' := 6) (st' := aI 3 :: _) rfl rfl ?_
      refine E_s (p' := 7) (st' := aI 3 :: _) rfl rfl ?_
      refine E_s (p' := 10) rfl rfl ?_
      refine E_s (p' := 11) (st' := aI 1 :: _) rfl rfl ?_
      refine E_s (p' := 15) rfl rfl ?_
      refine E_ret rfl rfl ?_
      refine E_ret rfl rfl ?_
      refine E_s (p' := 7) rfl rfl ?_
      refine E_s (p' := 8) rfl rfl ?_
      refine E_s (p' := 9) (st' := aI 0 :: _) rfl rfl ?_
      refine E_s (p' := 11) (st' := aI 11 :: _) rfl rfl ?_
      refine E_callL (p' := 14) (L0 := [some (aI a2), some (aI 0), some (aI 11)]) rfl rfl rfl ?_
      refine E_s (p' := 1) rfl rfl ?_
      refine E_s (p' := 2) (st' := aI 0 :: _) rfl rfl ?_
      refine E_icmp_lt (y := 0) rfl (by decide) (fun q => absurd q (by omega)) (fun _ => ?_)
      refine E_s (p' := 6) rfl rfl ?_
      refine E_s (p' := 7) (st' := aI 11 :: _) rfl rfl ?_
      refine E_icmp_gt (y := 11) rfl (by decide) (fun q => absurd q (by omega)) (fun _ => ?_)
      refine E_s (p' := 11) (st' := aI 1 :: _) rfl rfl ?_
      refine E_s (p' := 15) rfl rfl ?_
      refine E_ret rfl rfl ?_
      refine E_s (p' := 19) rfl rfl ?_
      refine E_s (p' := 20) (st' := aA 124 :: _) rfl rfl ?_
      refine E_s (p' := 21) (st' := aI 3 :: _) rfl rfl ?_
      refine E_callL (p' := 24) (L0 := [some (aA 124), some (aI 3), none, none]) rfl rfl rfl ?_
      refine E_s (p' := 1) (st' := aA 124 :: _) rfl rfl ?_
      refine E_s (p' := 2) (st' := aI 3 :: _) rfl rfl ?_
      refine E_s (p' := 3) (st' := aA 124 :: _) rfl rfl ?_
      refine E_s (p' := 6) (st' := aA 148 :: _) rfl rfl ?_
      refine E_callL (p' := 9) (L0 := [some (aA 124), some (aI 3), some (aA 148), none]) rfl rfl rfl ?_
      refine E_s (p' := 1) (st' := aA 124 :: _) rfl rfl ?_
      refine E_s (p' := 2) (st' := aI 3 :: _) rfl rfl ?_
      refine E_callL (p' := 5) (L0 := [some (aA 124), some (aI 3), none, none]) rfl rfl rfl ?_
      refine E_s (p' := 1) (st' := aI 0 :: _) rfl rfl ?_
      refine E_s (p' := 2) (L' := [some (aA 124), some (aI 3), some (aI 0), none]) rfl rfl ?_
      refine mr_loop1 _ 601 0 _ rfl ?_
      refine E_s (p' := 23) (st' := aA 124 :: _) rfl rfl ?_
      refine E_s (p' := 24) (st' := aI 0 :: _) rfl rfl ?_
      refine E_stM (p' := 27) (m' := up2 _ 124 25 0) rfl rfl ?_
      refine E_s (p' := 28) (st' := aA 124 :: _) rfl rfl ?_
      refine E_s (p' := 29) (st' := aI 0 :: _) rfl rfl ?_
      refine E_stM (p' := 32) (m' := up2 _ 124 26 0) rfl rfl ?_
      refine E_s (p' := 33) (st' := aI 0 :: _) rfl rfl ?_
      refine E_s (p' := 34) (L' := [some (aA 124), some (aI 3), some (aI 0), none]) rfl rfl ?_
      refine E_s (p' := 35) (st' := aI 0 :: _) rfl rfl ?_
      refine E_s (p' := 36) (st' := aA 124 :: _) rfl rfl ?_
      refine E_s (p' := 39) (st' := aA 125 :: _) rfl rfl ?_
      refine E_s (p' := 40) (st' := aI 3 :: _) rfl rfl ?_
      refine E_s (p' := 41) (st' := aI 0 :: _) rfl rfl ?_
      refine E_s (p' := 121) rfl rfl ?_
      refine E_s (p' := 122) (st' := aA 124 :: _) rfl rfl ?_
      refine E_s (p' := 123) (st' := aI 0 :: _) rfl rfl ?_
      refine E_stM (p' := 126) (m' := up2 _ 124 24 0) rfl rfl ?_
      refine E_s (p' := 127) (st' := aI 0 :: _) rfl rfl ?_
      refine E_s (p' := 128) (L' := [some (aA 124), some (aI 3), some (aI 0), none]) rfl rfl ?_
      refine mr_loop3 _ 601 0 _ rfl (fun j hj => show (if 0 ≤ j ∧ j < 601 then (0 : Int) else _) = 0 from if_pos ⟨Nat.zero_le _, hj⟩) ?_
      refine E_s (p' := 245) (st' := aA 124 :: _) rfl rfl ?_
      refine E_s (p' := 248) (st' := aI 0 :: _) rfl rfl ?_
      refine E_s (p' := 249) (st' := aA 124 :: _) rfl rfl ?_
      refine E_s (p' := 252) (st' := aI 0 :: _) rfl rfl ?_
      refine E_s (p' := 259) rfl rfl ?_
      refine E_s (p' := 260) (st' := aI 1 :: _) rfl rfl ?_
      refine E_s (p' := 261) (st' := aI 1 :: _) rfl rfl ?_
      refine E_s (p' := 263) (st' := aI 6 :: _) rfl rfl ?_
      refine E_s (p' := 271) rfl rfl ?_
      refine E_s (p' := 272) (st' := aA 124 :: _) rfl rfl ?_
      refine E_s (p' := 275) (st' := aI 0 :: _) rfl rfl ?_
      refine E_s (p' := 282) rfl rfl ?_
      refine E_s (p' := 283) (st' := aI 0 :: _) rfl rfl ?_
      refine E_ret rfl rfl ?_
      refine E_s (p' := 6) rfl rfl ?_
      refine E_s (p' := 7) (st' := aI 0 :: _) rfl rfl ?_
      refine E_s (p' := 8) (L' := [some (aA 124), some (aI 3), some (aA 148), some (aI 0)]) rfl rfl ?_
      refine E_s (p' := 9) (st' := aI 0 :: _) rfl rfl ?_
      refine E_s (p' := 10) (st' := aA 124 :: _) rfl rfl ?_
      refine E_s (p' := 13) (st' := aA 125 :: _) rfl rfl ?_
      refine E_s (p' := 14) (st' := aI 3 :: _) rfl rfl ?_
      refine E_s (p' := 15) (st' := aI 0 :: _) rfl rfl ?_
      refine E_s (p' := 58) rfl rfl ?_
      refine E_ret rfl rfl ?_
      refine E_s (p' := 10) (st' := aI 0 :: _) rfl rfl ?_
      refine E_s (p' := 11) (L' := [some (aA 124), some (aI 3), some (aI 0), none]) rfl rfl ?_
      refine E_s (p' := 12) (st' := aI 0 :: _) rfl rfl ?_
      refine E_s (p' := 14) (st' := aI 12 :: _) rfl rfl ?_
      refine E_s (p' := 17) rfl rfl ?_
      refine E_s (p' := 18) (st' := aA 124 :: _) rfl rfl ?_
      refine E_s (p' := 21) (st' := aA 163 :: _) rfl rfl ?_
      refine E_s (p' := 22) (st' := aI 0 :: _) rfl rfl ?_
      refine E_s (p' := 23) (st' := aI 0 :: _) rfl rfl ?_
      refine E_stM (p' := 24) (m' := up2 _ 163 0 0) rfl rfl ?_
      refine E_s (p' := 25) (st' := aA 124 :: _) rfl rfl ?_
      refine E_s (p' := 28) (st' := aA 164 :: _) rfl rfl ?_
      refine E_s (p' := 29) (st' := aI 0 :: _) rfl rfl ?_
      refine E_s (p' := 30) (st' := aI 1 :: _) rfl rfl ?_
      refine E_stM (p' := 31) (m' := up2 _ 164 0 1) rfl rfl ?_
      refine E_s (p' := 34) (L' := [some (aA 124), some (aI 3), some (aI 1), none]) rfl rfl ?_
      refine E_s (p' := 11) rfl rfl ?_
      refine E_s (p' := 12) (st' := aI 1 :: _) rfl rfl ?_
      refine E_s (p' := 14) (st' := aI 12 :: _) rfl rfl ?_
      refine E_s (p' := 17) rfl rfl ?_
      refine E_s (p' := 18) (st' := aA 124 :: _) rfl rfl ?_
      refine E_s (p' := 21) (st' := aA 163 :: _) rfl rfl ?_
      refine E_s (p' := 22) (st' := aI 1 :: _) rfl rfl ?_
      refine E_s (p' := 23) (st' := aI 0 :: _) rfl rfl ?_
      refine E_stM (p' := 24) (m' := up2 _ 163 1 0) rfl rfl ?_
      refine E_s (p' := 25) (st' := aA 124 :: _) rfl rfl ?_
      refine E_s (p' := 28) (st' := aA 164 :: _) rfl rfl ?_
      refine E_s (p' := 29) (st' := aI 1 :: _) rfl rfl ?_
      refine E_s (p' := 30) (st' := aI 1 :: _) rfl rfl ?_
      refine E_stM (p' := 31) (m' := up2 _ 164 1 1) rfl rfl ?_
      refine E_s (p' := 34) (L' := [some (aA 124), some (aI 3), some (aI 2), none]) rfl rfl ?_
      refine E_s (p' := 11) rfl rfl ?_
      refine E_s (p' := 12) (st' := aI 2 :: _) rfl rfl ?_
      refine E_s (p' := 14) (st' := aI 12 :: _) rfl rfl ?_
      refine E_s (p' := 17) rfl rfl ?_
      refine E_s (p' := 18) (st' := aA 124 :: _) rfl rfl ?_
      refine E_s (p' := 21) (st' := aA 163 :: _) rfl rfl ?_
      refine E_s (p' := 22) (st' := aI 2 :: _) rfl rfl ?_
      refine E_s (p' := 23) (st' := aI 0 :: _) rfl rfl ?_
      refine E_stM (p' := 24) (m' := up2 _ 163 2 0) rfl rfl ?_
      refine E_s (p' := 25) (st' := aA 124 :: _) rfl rfl ?_
      refine E_s (p' := 28) (st' := aA 164 :: _) rfl rfl ?_
      refine E_s (p' := 29) (st' := aI 2 :: _) rfl rfl ?_
      refine E_s (p' := 30) (st' := aI 1 :: _) rfl rfl ?_
      refine E_stM (p' := 31) (m' := up2 _ 164 2 1) rfl rfl ?_
      refine E_s (p' := 34) (L' := [some (aA 124), some (aI 3), some (aI 3), none]) rfl rfl ?_
      refine E_s (p' := 11) rfl rfl ?_
      refine E_s (p' := 12) (st' := aI 3 :: _) rfl rfl ?_
      refine E_s (p' := 14) (st' := aI 12 :: _) rfl rfl ?_
      refine E_s (p' := 17) rfl rfl ?_
      refine E_s (p' := 18) (st' := aA 124 :: _) rfl rfl ?_
      refine E_s (p' := 21) (st' := aA 163 :: _) rfl rfl ?_
      refine E_s (p' := 22) (st' := aI 3 :: _) rfl rfl ?_
      refine E_s (p' := 23) (st' := aI 0 :: _) rfl rfl ?_
      refine E_stM (p' := 24) (m' := up2 _ 163 3 0) rfl rfl ?_
      refine E_s (p' := 25) (st' := aA 124 :: _) rfl rfl ?_
      refine E_s (p' := 28) (st' := aA 164 :: _) rfl rfl ?_
      refine E_s (p' := 29) (st' := aI 3 :: _) rfl rfl ?_
      refine E_s (p' := 30) (st' := aI 1 :: _) rfl rfl ?_
      refine E_stM (p' := 31) (m' := up2 _ 164 3 1) rfl rfl ?_
      refine E_s (p' := 34) (L' := [some (aA 124), some (aI 3), some (aI 4), none]) rfl rfl ?_
      refine E_s (p' := 11) rfl rfl ?_
      refine E_s (p' := 12) (st' := aI 4 :: _) rfl rfl ?_
      refine E_s (p' := 14) (st' := aI 12 :: _) rfl rfl ?_
      refine E_s (p' := 17) rfl rfl ?_
      refine E_s (p' := 18) (st' := aA 124 :: _) rfl rfl ?_
      refine E_s (p' := 21) (st' := aA 163 :: _) rfl rfl ?_
      refine E_s (p' := 22) (st' := aI 4 :: _) rfl rfl ?_
      refine E_s (p' := 23) (st' := aI 0 :: _) rfl rfl ?_
      refine E_stM (p' := 24) (m' := up2 _ 163 4 0) rfl rfl ?_
      refine E_s (p' := 25) (st' := aA 124 :: _) rfl rfl ?_
      refine E_s (p' := 28) (st' := aA 164 :: _) rfl rfl ?_
      refine E_s (p' := 29) (st' := aI 4 :: _) rfl rfl ?_
      refine E_s (p' := 30) (st' := aI 1 :: _) rfl rfl ?_
      refine E_stM (p' := 31) (m' := up2 _ 164 4 1) rfl rfl ?_
      refine E_s (p' := 34) (L' := [some (aA 124), some (aI 3), some (aI 5), none]) rfl rfl ?_
      refine E_s (p' := 11) rfl rfl ?_
      refine E_s (p' := 12) (st' := aI 5 :: _) rfl rfl ?_
      refine E_s (p' := 14) (st' := aI 12 :: _) rfl rfl ?_
      refine E_s (p' := 17) rfl rfl ?_
      refine E_s (p' := 18) (st' := aA 124 :: _) rfl rfl ?_
      refine E_s (p' := 21) (st' := aA 163 :: _) rfl rfl ?_
      refine E_s (p' := 22) (st' := aI 5 :: _) rfl rfl ?_
      refine E_s (p' := 23) (st' := aI 0 :: _) rfl rfl ?_
      refine E_stM (p' := 24) (m' := up2 _ 163 5 0) rfl rfl ?_
      refine E_s (p' := 25) (st' := aA 124 :: _) rfl rfl ?_
      refine E_s (p' := 28) (st' := aA 164 :: _) rfl rfl ?_
      refine E_s (p' := 29) (st' := aI 5 :: _) rfl rfl ?_
      refine E_s (p' := 30) (st' := aI 1 :: _) rfl rfl ?_
      refine E_stM (p' := 31) (m' := up2 _ 164 5 1) rfl rfl ?_
      refine E_s (p' := 34) (L' := [some (aA 124), some (aI 3), some (aI 6), none]) rfl rfl ?_
      refine E_s (p' := 11) rfl rfl ?_
      refine E_s (p' := 12) (st' := aI 6 :: _) rfl rfl ?_
      refine E_s (p' := 14) (st' := aI 12 :: _) rfl rfl ?_
      refine E_s (p' := 17) rfl rfl ?_
      refine E_s (p' := 18) (st' := aA 124 :: _) rfl rfl ?_
      refine E_s (p' := 21) (st' := aA 163 :: _) rfl rfl ?_
      refine E_s (p' := 22) (st' := aI 6 :: _) rfl rfl ?_
      refine E_s (p' := 23) (st' := aI 0 :: _) rfl rfl ?_
      refine E_stM (p' := 24) (m' := up2 _ 163 6 0) rfl rfl ?_
      refine E_s (p' := 25) (st' := aA 124 :: _) rfl rfl ?_
      refine E_s (p' := 28) (st' := aA 164 :: _) rfl rfl ?_
      refine E_s (p' := 29) (st' := aI 6 :: _) rfl rfl ?_
      refine E_s (p' := 30) (st' := aI 1 :: _) rfl rfl ?_
      refine E_stM (p' := 31) (m' := up2 _ 164 6 1) rfl rfl ?_
      refine E_s (p' := 34) (L' := [some (aA 124), some (aI 3), some (aI 7), none]) rfl rfl ?_
      refine E_s (p' := 11) rfl rfl ?_
      refine E_s (p' := 12) (st' := aI 7 :: _) rfl rfl ?_
      refine E_s (p' := 14) (st' := aI 12 :: _) rfl rfl ?_
      refine E_s (p' := 17) rfl rfl ?_
      refine E_s (p' := 18) (st' := aA 124 :: _) rfl rfl ?_
      refine E_s (p' := 21) (st' := aA 163 :: _) rfl rfl ?_
      refine E_s (p' := 22) (st' := aI 7 :: _) rfl rfl ?_
      refine E_s (p' := 23) (st' := aI 0 :: _) rfl rfl ?_
      refine E_stM (p' := 24) (m' := up2 _ 163 7 0) rfl rfl ?_
      refine E_s (p' := 25) (st' := aA 124 :: _) rfl rfl ?_
      refine E_s (p' := 28) (st' := aA 164 :: _) rfl rfl ?_
      refine E_s (p' := 29) (st' := aI 7 :: _) rfl rfl ?_
      refine E_s (p' := 30) (st' := aI 1 :: _) rfl rfl ?_
      refine E_stM (p' := 31) (m' := up2 _ 164 7 1) rfl rfl ?_
      refine E_s (p' := 34) (L' := [some (aA 124), some (aI 3), some (aI 8), none]) rfl rfl ?_
      refine E_s (p' := 11) rfl rfl ?_
      refine E_s (p' := 12) (st' := aI 8 :: _) rfl rfl ?_
      refine E_s (p' := 14) (st' := aI 12 :: _) rfl rfl ?_
      refine E_s (p' := 17) rfl rfl ?_
      refine E_s (p' := 18) (st' := aA 124 :: _) rfl rfl ?_
      refine E_s (p' := 21) (st' := aA 163 :: _) rfl rfl ?_
      refine E_s (p' := 22) (st' := aI 8 :: _) rfl rfl ?_
      refine E_s (p' := 23) (st' := aI 0 :: _) rfl rfl ?_
      refine E_stM (p' := 24) (m' := up2 _ 163 8 0) rfl rfl ?_
      refine E_s (p' := 25) (st' := aA 124 :: _) rfl rfl ?_
      refine E_s (p' := 28) (st' := aA 164 :: _) rfl rfl ?_
      refine E_s (p' := 29) (st' := aI 8 :: _) rfl rfl ?_
      refine E_s (p' := 30) (st' := aI 1 :: _) rfl rfl ?_
      refine E_stM (p' := 31) (m' := up2 _ 164 8 1) rfl rfl ?_
      refine E_s (p' := 34) (L' := [some (aA 124), some (aI 3), some (aI 9), none]) rfl rfl ?_
      refine E_s (p' := 11) rfl rfl ?_
      refine E_s (p' := 12) (st' := aI 9 :: _) rfl rfl ?_
      refine E_s (p' := 14) (st' := aI 12 :: _) rfl rfl ?_
      refine E_s (p' := 17) rfl rfl ?_
      refine E_s (p' := 18) (st' := aA 124 :: _) rfl rfl ?_
      refine E_s (p' := 21) (st' := aA 163 :: _) rfl rfl ?_
      refine E_s (p' := 22) (st' := aI 9 :: _) rfl rfl ?_
      refine E_s (p' := 23) (st' := aI 0 :: _) rfl rfl ?_
      refine E_stM (p' := 24) (m' := up2 _ 163 9 0) rfl rfl ?_
      refine E_s (p' := 25) (st' := aA 124 :: _) rfl rfl ?_
      refine E_s (p' := 28) (st' := aA 164 :: _) rfl rfl ?_
      refine E_s (p' := 29) (st' := aI 9 :: _) rfl rfl ?_
      refine E_s (p' := 30) (st' := aI 1 :: _) rfl rfl ?_
      refine E_stM (p' := 31) (m' := up2 _ 164 9 1) rfl rfl ?_
      refine E_s (p' := 34) (L' := [some (aA 124), some (aI 3), some (aI 10), none]) rfl rfl ?_
      refine E_s (p' := 11) rfl rfl ?_
      refine E_s (p' := 12) (st' := aI 10 :: _) rfl rfl ?_
      refine E_s (p' := 14) (st' := aI 12 :: _) rfl rfl ?_
      refine E_s (p' := 17) rfl rfl ?_
      refine E_s (p' := 18) (st' := aA 124 :: _) rfl rfl ?_
      refine E_s (p' := 21) (st' := aA 163 :: _) rfl rfl ?_
      refine E_s (p' := 22) (st' := aI 10 :: _) rfl rfl ?_
      refine E_s (p' := 23) (st' := aI 0 :: _) rfl rfl ?_
      refine E_stM (p' := 24) (m' := up2 _ 163 10 0) rfl rfl ?_
      refine E_s (p' := 25) (st' := aA 124 :: _) rfl rfl ?_
      refine E_s (p' := 28) (st' := aA 164 :: _) rfl rfl ?_
      refine E_s (p' := 29) (st' := aI 10 :: _) rfl rfl ?_
      refine E_s (p' := 30) (st' := aI 1 :: _) rfl rfl ?_
      refine E_stM (p' := 31) (m' := up2 _ 164 10 1) rfl rfl ?_
      refine E_s (p' := 34) (L' := [some (aA 124), some (aI 3), some (aI 11), none]) rfl rfl ?_
      refine E_s (p' := 11) rfl rfl ?_
      refine E_s (p' := 12) (st' := aI 11 :: _) rfl rfl ?_
      refine E_s (p' := 14) (st' := aI 12 :: _) rfl rfl ?_
      refine E_s (p' := 17) rfl rfl ?_
      refine E_s (p' := 18) (st' := aA 124 :: _) rfl rfl ?_
      refine E_s (p' := 21) (st' := aA 163 :: _) rfl rfl ?_
      refine E_s (p' := 22) (st' := aI 11 :: _) rfl rfl ?_
      refine E_s (p' := 23) (st' := aI 0 :: _) rfl rfl ?_
      refine E_stM (p' := 24) (m' := up2 _ 163 11 0) rfl rfl ?_
      refine E_s (p' := 25) (st' := aA 124 :: _) rfl rfl ?_
      refine E_s (p' := 28) (st' := aA 164 :: _) rfl rfl ?_
      refine E_s (p' := 29) (st' := aI 11 :: _) rfl rfl ?_
      refine E_s (p' := 30) (st' := aI 1 :: _) rfl rfl ?_
      refine E_stM (p' := 31) (m' := up2 _ 164 11 1) rfl rfl ?_
      refine E_s (p' := 34) (L' := [some (aA 124), some (aI 3), some (aI 12), none]) rfl rfl ?_
      refine E_s (p' := 11) rfl rfl ?_
      refine E_s (p' := 12) (st' := aI 12 :: _) rfl rfl ?_
      refine E_s (p' := 14) (st' := aI 12 :: _) rfl rfl ?_
      refine E_s (p' := 37) rfl rfl ?_
      refine E_s (p' := 38) (st' := aI 0 :: _) rfl rfl ?_
      refine E_s (p' := 39) (L' := [some (aA 124), some (aI 3), some (aI 0), none]) rfl rfl ?_
      refine E_s (p' := 40) (st' := aI 0 :: _) rfl rfl ?_
      refine E_s (p' := 41) (st' := aA 124 :: _) rfl rfl ?_
      refine E_s (p' := 44) (st' := aA 125 :: _) rfl rfl ?_
      refine E_s (p' := 45) (st' := aI 3 :: _) rfl rfl ?_
      refine E_s (p' := 46) (st' := aI 0 :: _) rfl rfl ?_
      refine E_s (p' := 131) rfl rfl ?_
      refine E_ret rfl rfl ?_
      refine E_s (p' := 25) (st' := aA 124 :: _) rfl rfl ?_
      refine E_s (p' := 28) (st' := aA 163 :: _) rfl rfl ?_
      refine E_s (p' := 29) rfl rfl ?_
      have hg : a2 = 0 ∨ a2 = 1 ∨ a2 = 2 ∨ a2 = 3 ∨ a2 = 4 ∨ a2 = 5 ∨ a2 = 6 ∨ a2 = 7 ∨ a2 = 8 ∨ a2 = 9 ∨ a2 = 10 ∨ a2 = 11 := by omega
      rcases hg with rfl | rfl | rfl | rfl | rfl | rfl | rfl | rfl | rfl | rfl | rfl | rfl
      · refine E_s (p' := 30) (st' := aI 0 :: _) rfl rfl ?_
        refine E_s (p' := 31) (L' := [some (aA 124), some (aI 3), some (aI 0), some (aI 0), none, none, none]) rfl rfl ?_
        refine E_s (p' := 32) (st' := aI 0 :: _) rfl rfl ?_
        refine E_s (p' := 35) rfl rfl ?_
        refine E_s (p' := 36) (st' := aI (-1) :: _) rfl rfl ?_
        refine E_ret rfl rfl ?_
        refine E_s (p' := 1174) rfl rfl ?_
        refine E_s (p' := 1177) (L' := [some (aA 0), some (aA 1), some (aA 124), some (aI 6)]) rfl rfl ?_
        refine E_s (p' := 18) rfl rfl ?_
        refine E_s (p' := 19) (st' := aI 6 :: _) rfl rfl ?_
        refine E_s (p' := 20) (st' := aA 0 :: _) rfl rfl ?_
        refine E_s (p' := 21) (st' := aI 6 :: _) rfl rfl ?_
        refine E_s (p' := 23) (st' := aI 6 :: _) rfl rfl ?_
        refine E_s (p' := 24) (st' := aI 0 :: _) rfl rfl ?_
        refine E_s (p' := 1180) rfl rfl ?_
        refine E_s (p' := 1181) (st' := aI 1 :: _) rfl rfl ?_
        exact E_ret rfl rfl ⟨rfl, rfl⟩
      · refine E_s (p' := 30) (st' := aI 0 :: _) rfl rfl ?_
        refine E_s (p' := 31) (L' := [some (aA 124), some (aI 3), some (aI 1), some (aI 0), none, none, none]) rfl rfl ?_
        refine E_s (p' := 32) (st' := aI 0 :: _) rfl rfl ?_
        refine E_s (p' := 35) rfl rfl ?_
        refine E_s (p' := 36) (st' := aI (-1) :: _) rfl rfl ?_
        refine E_ret rfl rfl ?_
        refine E_s (p' := 1174) rfl rfl ?_
        refine E_s (p' := 1177) (L' := [some (aA 0), some (aA 1), some (aA 124), some (aI 6)]) rfl rfl ?_
        refine E_s (p' := 18) rfl rfl ?_
        refine E_s (p' := 19) (st' := aI 6 :: _) rfl rfl ?_
        refine E_s (p' := 20) (st' := aA 0 :: _) rfl rfl ?_
        refine E_s (p' := 21) (st' := aI 6 :: _) rfl rfl ?_
        refine E_s (p' := 23) (st' := aI 6 :: _) rfl rfl ?_
        refine E_s (p' := 24) (st' := aI 0 :: _) rfl rfl ?_
        refine E_s (p' := 1180) rfl rfl ?_
        refine E_s (p' := 1181) (st' := aI 1 :: _) rfl rfl ?_
        exact E_ret rfl rfl ⟨rfl, rfl⟩
      · refine E_s (p' := 30) (st' := aI 0 :: _) rfl rfl ?_
        refine E_s (p' := 31) (L' := [some (aA 124), some (aI 3), some (aI 2), some (aI 0), none, none, none]) rfl rfl ?_
        refine E_s (p' := 32) (st' := aI 0 :: _) rfl rfl ?_
        refine E_s (p' := 35) rfl rfl ?_
        refine E_s (p' := 36) (st' := aI (-1) :: _) rfl rfl ?_
        refine E_ret rfl rfl ?_
        refine E_s (p' := 1174) rfl rfl ?_
        refine E_s (p' := 1177) (L' := [some (aA 0), some (aA 1), some (aA 124), some (aI 6)]) rfl rfl ?_
        refine E_s (p' := 18) rfl rfl ?_
        refine E_s (p' := 19) (st' := aI 6 :: _) rfl rfl ?_
        refine E_s (p' := 20) (st' := aA 0 :: _) rfl rfl ?_
        refine E_s (p' := 21) (st' := aI 6 :: _) rfl rfl ?_
        refine E_s (p' := 23) (st' := aI 6 :: _) rfl rfl ?_
        refine E_s (p' := 24) (st' := aI 0 :: _) rfl rfl ?_
        refine E_s (p' := 1180) rfl rfl ?_
        refine E_s (p' := 1181) (st' := aI 1 :: _) rfl rfl ?_
        exact E_ret rfl rfl ⟨rfl, rfl⟩
      · refine E_s (p' := 30) (st' := aI 0 :: _) rfl rfl ?_
        refine E_s (p' := 31) (L' := [some (aA 124), some (aI 3), some (aI 3), some (aI 0), none, none, none]) rfl rfl ?_
        refine E_s (p' := 32) (st' := aI 0 :: _) rfl rfl ?_
        refine E_s (p' := 35) rfl rfl ?_
        refine E_s (p' := 36) (st' := aI (-1) :: _) rfl rfl ?_
        refine E_ret rfl rfl ?_
        refine E_s (p' := 1174) rfl rfl ?_
        refine E_s (p' := 1177) (L' := [some (aA 0), some (aA 1), some (aA 124), some (aI 6)]) rfl rfl ?_
        refine E_s (p' := 18) rfl rfl ?_
        refine E_s (p' := 19) (st' := aI 6 :: _) rfl rfl ?_
        refine E_s (p' := 20) (st' := aA 0 :: _) rfl rfl ?_
        refine E_s (p' := 21) (st' := aI 6 :: _) rfl rfl ?_
        refine E_s (p' := 23) (st' := aI 6 :: _) rfl rfl ?_
        refine E_s (p' := 24) (st' := aI 0 :: _) rfl rfl ?_
        refine E_s (p' := 1180) rfl rfl ?_
        refine E_s (p' := 1181) (st' := aI 1 :: _) rfl rfl ?_
        exact E_ret rfl rfl ⟨rfl, rfl⟩
      · refine E_s (p' := 30) (st' := aI 0 :: _) rfl rfl ?_
        refine E_s (p' := 31) (L' := [some (aA 124), some (aI 3), some (aI 4), some (aI 0), none, none, none]) rfl rfl ?_
        refine E_s (p' := 32) (st' := aI 0 :: _) rfl rfl ?_
        refine E_s (p' := 35) rfl rfl ?_
        refine E_s (p' := 36) (st' := aI (-1) :: _) rfl rfl ?_
        refine E_ret rfl rfl ?_
        refine E_s (p' := 1174) rfl rfl ?_
        refine E_s (p' := 1177) (L' := [some (aA 0), some (aA 1), some (aA 124), some (aI 6)]) rfl rfl ?_
        refine E_s (p' := 18) rfl rfl ?_
        refine E_s (p' := 19) (st' := aI 6 :: _) rfl rfl ?_
        refine E_s (p' := 20) (st' := aA 0 :: _) rfl rfl ?_
        refine E_s (p' := 21) (st' := aI 6 :: _) rfl rfl ?_
        refine E_s (p' := 23) (st' := aI 6 :: _) rfl rfl ?_
        refine E_s (p' := 24) (st' := aI 0 :: _) rfl rfl ?_
        refine E_s (p' := 1180) rfl rfl ?_
        refine E_s (p' := 1181) (st' := aI 1 :: _) rfl rfl ?_
        exact E_ret rfl rfl ⟨rfl, rfl⟩
      · refine E_s (p' := 30) (st' := aI 0 :: _) rfl rfl ?_
        refine E_s (p' := 31) (L' := [some (aA 124), some (aI 3), some (aI 5), some (aI 0), none, none, none]) rfl rfl ?_
        refine E_s (p' := 32) (st' := aI 0 :: _) rfl rfl ?_
        refine E_s (p' := 35) rfl rfl ?_
        refine E_s (p' := 36) (st' := aI (-1) :: _) rfl rfl ?_
        refine E_ret rfl rfl ?_
        refine E_s (p' := 1174) rfl rfl ?_
        refine E_s (p' := 1177) (L' := [some (aA 0), some (aA 1), some (aA 124), some (aI 6)]) rfl rfl ?_
        refine E_s (p' := 18) rfl rfl ?_
        refine E_s (p' := 19) (st' := aI 6 :: _) rfl rfl ?_
        refine E_s (p' := 20) (st' := aA 0 :: _) rfl rfl ?_
        refine E_s (p' := 21) (st' := aI 6 :: _) rfl rfl ?_
        refine E_s (p' := 23) (st' := aI 6 :: _) rfl rfl ?_
        refine E_s (p' := 24) (st' := aI 0 :: _) rfl rfl ?_
        refine E_s (p' := 1180) rfl rfl ?_
        refine E_s (p' := 1181) (st' := aI 1 :: _) rfl rfl ?_
        exact E_ret rfl rfl ⟨rfl, rfl⟩
      · refine E_s (p' := 30) (st' := aI 0 :: _) rfl rfl ?_
        refine E_s (p' := 31) (L' := [some (aA 124), some (aI 3), some (aI 6), some (aI 0), none, none, none]) rfl rfl ?_
        refine E_s (p' := 32) (st' := aI 0 :: _) rfl rfl ?_
        refine E_s (p' := 35) rfl rfl ?_
        refine E_s (p' := 36) (st' := aI (-1) :: _) rfl rfl ?_
        refine E_ret rfl rfl ?_
        refine E_s (p' := 1174) rfl rfl ?_
        refine E_s (p' := 1177) (L' := [some (aA 0), some (aA 1), some (aA 124), some (aI 6)]) rfl rfl ?_
        refine E_s (p' := 18) rfl rfl ?_
        refine E_s (p' := 19) (st' := aI 6 :: _) rfl rfl ?_
        refine E_s (p' := 20) (st' := aA 0 :: _) rfl rfl ?_
        refine E_s (p' := 21) (st' := aI 6 :: _) rfl rfl ?_
        refine E_s (p' := 23) (st' := aI 6 :: _) rfl rfl ?_
        refine E_s (p' := 24) (st' := aI 0 :: _) rfl rfl ?_
        refine E_s (p' := 1180) rfl rfl ?_
        refine E_s (p' := 1181) (st' := aI 1 :: _) rfl rfl ?_
        exact E_ret rfl rfl ⟨rfl, rfl⟩
      · refine E_s (p' := 30) (st' := aI 0 :: _) rfl rfl ?_
        refine E_s (p' := 31) (L' := [some (aA 124), some (aI 3), some (aI 7), some (aI 0), none, none, none]) rfl rfl ?_
        refine E_s (p' := 32) (st' := aI 0 :: _) rfl rfl ?_
        refine E_s (p' := 35) rfl rfl ?_
        refine E_s (p' := 36) (st' := aI (-1) :: _) rfl rfl ?_
        refine E_ret rfl rfl ?_
        refine E_s (p' := 1174) rfl rfl ?_
        refine E_s (p' := 1177) (L' := [some (aA 0), some (aA 1), some (aA 124), some (aI 6)]) rfl rfl ?_
        refine E_s (p' := 18) rfl rfl ?_
        refine E_s (p' := 19) (st' := aI 6 :: _) rfl rfl ?_
        refine E_s (p' := 20) (st' := aA 0 :: _) rfl rfl ?_
        refine E_s (p' := 21) (st' := aI 6 :: _) rfl rfl ?_
        refine E_s (p' := 23) (st' := aI 6 :: _) rfl rfl ?_
        refine E_s (p' := 24) (st' := aI 0 :: _) rfl rfl ?_
        refine E_s (p' := 1180) rfl rfl ?_
        refine E_s (p' := 1181) (st' := aI 1 :: _) rfl rfl ?_
        exact E_ret rfl rfl ⟨rfl, rfl⟩
      · refine E_s (p' := 30) (st' := aI 0 :: _) rfl rfl ?_
        refine E_s (p' := 31) (L' := [some (aA 124), some (aI 3), some (aI 8), some (aI 0), none, none, none]) rfl rfl ?_
        refine E_s (p' := 32) (st' := aI 0 :: _) rfl rfl ?_
        refine E_s (p' := 35) rfl rfl ?_
        refine E_s (p' := 36) (st' := aI (-1) :: _) rfl rfl ?_
        refine E_ret rfl rfl ?_
        refine E_s (p' := 1174) rfl rfl ?_
        refine E_s (p' := 1177) (L' := [some (aA 0), some (aA 1), some (aA 124), some (aI 6)]) rfl rfl ?_
        refine E_s (p' := 18) rfl rfl ?_
        refine E_s (p' := 19) (st' := aI 6 :: _) rfl rfl ?_
        refine E_s (p' := 20) (st' := aA 0 :: _) rfl rfl ?_
        refine E_s (p' := 21) (st' := aI 6 :: _) rfl rfl ?_
        refine E_s (p' := 23) (st' := aI 6 :: _) rfl rfl ?_
        refine E_s (p' := 24) (st' := aI 0 :: _) rfl rfl ?_
        refine E_s (p' := 1180) rfl rfl ?_
        refine E_s (p' := 1181) (st' := aI 1 :: _) rfl rfl ?_
        exact E_ret rfl rfl ⟨rfl, rfl⟩
      · refine E_s (p' := 30) (st' := aI 0 :: _) rfl rfl ?_
        refine E_s (p' := 31) (L' := [some (aA 124), some (aI 3), some (aI 9), some (aI 0), none, none, none]) rfl rfl ?_
        refine E_s (p' := 32) (st' := aI 0 :: _) rfl rfl ?_
        refine E_s (p' := 35) rfl rfl ?_
        refine E_s (p' := 36) (st' := aI (-1) :: _) rfl rfl ?_
        refine E_ret rfl rfl ?_
        refine E_s (p' := 1174) rfl rfl ?_
        refine E_s (p' := 1177) (L' := [some (aA 0), some (aA 1), some (aA 124), some (aI 6)]) rfl rfl ?_
        refine E_s (p' := 18) rfl rfl ?_
        refine E_s (p' := 19) (st' := aI 6 :: _) rfl rfl ?_
        refine E_s (p' := 20) (st' := aA 0 :: _) rfl rfl ?_
        refine E_s (p' := 21) (st' := aI 6 :: _) rfl rfl ?_
        refine E_s (p' := 23) (st' := aI 6 :: _) rfl rfl ?_
        refine E_s (p' := 24) (st' := aI 0 :: _) rfl rfl ?_
        refine E_s (p' := 1180) rfl rfl ?_
        refine E_s (p' := 1181) (st' := aI 1 :: _) rfl rfl ?_
        exact E_ret rfl rfl ⟨rfl, rfl⟩
      · refine E_s (p' := 30) (st' := aI 0 :: _) rfl rfl ?_
        refine E_s (p' := 31) (L' := [some (aA 124), some (aI 3), some (aI 10), some (aI 0), none, none, none]) rfl rfl ?_
        refine E_s (p' := 32) (st' := aI 0 :: _) rfl rfl ?_
        refine E_s (p' := 35) rfl rfl ?_
        refine E_s (p' := 36) (st' := aI (-1) :: _) rfl rfl ?_
        refine E_ret rfl rfl ?_
        refine E_s (p' := 1174) rfl rfl ?_
        refine E_s (p' := 1177) (L' := [some (aA 0), some (aA 1), some (aA 124), some (aI 6)]) rfl rfl ?_
        refine E_s (p' := 18) rfl rfl ?_
        refine E_s (p' := 19) (st' := aI 6 :: _) rfl rfl ?_
        refine E_s (p' := 20) (st' := aA 0 :: _) rfl rfl ?_
        refine E_s (p' := 21) (st' := aI 6 :: _) rfl rfl ?_
        refine E_s (p' := 23) (st' := aI 6 :: _) rfl rfl ?_
        refine E_s (p' := 24) (st' := aI 0 :: _) rfl rfl ?_
        refine E_s (p' := 1180) rfl rfl ?_
        refine E_s (p' := 1181) (st' := aI 1 :: _) rfl rfl ?_
        exact E_ret rfl rfl ⟨rfl, rfl⟩
      · refine E_s (p' := 30) (st' := aI 0 :: _) rfl rfl ?_
        refine E_s (p' := 31) (L' := [some (aA 124), some (aI 3), some (aI 11), some (aI 0), none, none, none]) rfl rfl ?_
        refine E_s (p' := 32) (st' := aI 0 :: _) rfl rfl ?_
        refine E_s (p' := 35) rfl rfl ?_
        refine E_s (p' := 36) (st' := aI (-1) :: _) rfl rfl ?_
        refine E_ret rfl rfl ?_
        refine E_s (p' := 1174) rfl rfl ?_
        refine E_s (p' := 1177) (L' := [some (aA 0), some (aA 1), some (aA 124), some (aI 6)]) rfl rfl ?_
        refine E_s (p' := 18) rfl rfl ?_
        refine E_s (p' := 19) (st' := aI 6 :: _) rfl rfl ?_
        refine E_s (p' := 20) (st' := aA 0 :: _) rfl rfl ?_
        refine E_s (p' := 21) (st' := aI 6 :: _) rfl rfl ?_
        refine E_s (p' := 23) (st' := aI 6 :: _) rfl rfl ?_
        refine E_s (p' := 24) (st' := aI 0 :: _) rfl rfl ?_
        refine E_s (p' := 1180) rfl rfl ?_
        refine E_s (p' := 1181) (st' := aI 1 :: _) rfl rfl ?_
        exact E_ret rfl rfl ⟨rfl, rfl⟩
    · refine E_s (p' := 21) (st' := aI (-1) :: _) rfl rfl ?_
      refine E_ret rfl rfl ?_
      refine E_s (p' := 1090) (st' := aA 124 :: _) rfl rfl ?_
      refine E_s (p' := 1091) (st' := aA 0 :: _) rfl rfl ?_
      refine E_s (p' := 1092) (st' := aI 0 :: _) rfl rfl ?_
      refine E_s (p' := 1093) (st' := aI 1 :: _) rfl rfl ?_
      refine E_s (p' := 1094) (st' := aI 1 :: _) rfl rfl ?_
      refine E_scr rfl rfl h1 ?_
      refine E_s (p' := 1096) (st' := aA 0 :: _) rfl rfl ?_
      refine E_s (p' := 1097) (st' := aI 0 :: _) rfl rfl ?_
      refine E_s (p' := 1098) (st' := aI 2 :: _) rfl rfl ?_
      refine E_s (p' := 1099) (st' := aI 2 :: _) rfl rfl ?_
      refine E_scr rfl rfl h2 ?_
      refine E_callL (p' := 1103) (L0 := [some (aA 124), some (aI 3), some (aI a2), none, none, none, none]) rfl rfl rfl ?_
      refine E_s (p' := 1) (st' := aI 3 :: _) rfl rfl ?_
      refine E_callL (p' := 4) (L0 := [some (aI 3)]) rfl rfl rfl ?_
      refine E_s (p' := 1) (st' := aI 3 :: _) rfl rfl ?_
      refine E_s (p' := 2) (st' := aI 0 :: _) rfl rfl ?_
      refine E_s (p' := 3) (st' := aI 3 :: _) rfl rfl ?_
      refine E_callL (p' := 6) (L0 := [some (aI 3), some (aI 0), some (aI 3)]) rfl rfl rfl ?_
      refine E_s (p' := 1) (st' := aI 3 :: _) rfl rfl ?_
      refine E_s (p' := 2) (st' := aI 0 :: _) rfl rfl ?_
      refine E_s (p' := 5) rfl rfl ?_
      refine E_s (p' := 6) (st' := aI 3 :: _) rfl rfl ?_
      refine E_s (p' := 7) (st' := aI 3 :: _) rfl rfl ?_
      refine E_s (p' := 10) rfl rfl ?_
      refine E_s (p' := 11) (st' := aI 1 :: _) rfl rfl ?_
      refine E_s (p' := 15) rfl rfl ?_
      refine E_ret rfl rfl ?_
      refine E_ret rfl rfl ?_
      refine E_s (p' := 7) rfl rfl ?_
      refine E_s (p' := 8) rfl rfl ?_
      refine E_s (p' := 9) (st' := aI 0 :: _) rfl rfl ?_
      refine E_s (p' := 11) (st' := aI 11 :: _) rfl rfl ?_
      refine E_callL (p' := 14) (L0 := [some (aI a2), some (aI 0), some (aI 11)]) rfl rfl rfl ?_
      refine E_s (p' := 1) rfl rfl ?_
      refine E_s (p' := 2) (st' := aI 0 :: _) rfl rfl ?_
      refine E_icmp_lt (y := 0) rfl (by decide) (fun q => absurd q (by omega)) (fun _ => ?_)
      refine E_s (p' := 6) rfl rfl ?_
      refine E_s (p' := 7) (st' := aI 11 :: _) rfl rfl ?_
      refine E_icmp_gt (y := 11) rfl (by decide) (fun _ => ?_) (fun q => absurd q (by omega))
      refine E_s (p' := 15) (st' := aI 0 :: _) rfl rfl ?_
      refine E_ret rfl rfl ?_
      refine E_s (p' := 17) rfl rfl ?_
      refine E_s (p' := 18) (st' := aI (-1) :: _) rfl rfl ?_
      refine E_ret rfl rfl ?_
      refine E_s (p' := 1174) rfl rfl ?_
      refine E_s (p' := 1177) (L' := [some (aA 0), some (aA 1), some (aA 124), some (aI 6)]) rfl rfl ?_
      refine E_s (p' := 18) rfl rfl ?_
      refine E_s (p' := 19) (st' := aI 6 :: _) rfl rfl ?_
      refine E_s (p' := 20) (st' := aA 0 :: _) rfl rfl ?_
      refine E_s (p' := 21) (st' := aI 6 :: _) rfl rfl ?_
      refine E_s (p' := 23) (st' := aI 6 :: _) rfl rfl ?_
      refine E_s (p' := 24) (st' := aI 0 :: _) rfl rfl ?_
      refine E_s (p' := 1180) rfl rfl ?_
      refine E_s (p' := 1181) (st' := aI 1 :: _) rfl rfl ?_
      exact E_ret rfl rfl ⟨rfl, rfl⟩
set_option maxRecDepth 100000 in
set_option maxHeartbeats 40000000 in
theorem pc_25_o (xs : Nat → Int) {z a1 a2 a3 a4 a5 : Int} (hz : b32 (fun a b => a &&& b) z 31 = 25) (h0 : xs 0 = z) (h1 : xs 1 = a1) (h2 : xs 2 = a2) (h3 : xs 3 = a3) (h4 : xs 4 = a4) (h5 : xs 5 = a5) (hr : a1 < 0 ∨ 3 < a1) : E 0 18 LL [] (s0 xs 6) PQ := by
  refine E_s (p' := 19) (st' := aI 0 :: _) rfl rfl ?_
  refine E_s (p' := 20) (st' := aA 0 :: _) rfl rfl ?_
  refine E_s (p' := 21) (st' := aI 6 :: _) rfl rfl ?_
  refine E_s (p' := 23) (st' := aI 6 :: _) rfl rfl ?_
  refine E_s (p' := 24) (st' := aI 0 :: _) rfl rfl ?_
  refine E_s (p' := 27) rfl rfl ?_
  refine E_s (p' := 28) (st' := aA 0 :: _) rfl rfl ?_
  refine E_s (p' := 29) (st' := aI 0 :: _) rfl rfl ?_
  refine E_scr rfl rfl h0 ?_
  refine E_s (p' := 32) (st' := aI 31 :: _) rfl rfl ?_
  refine E_s (p' := 33) rfl rfl ?_
  refine E_val hz ?_
  refine E_s (p' := 1075) rfl rfl ?_
  refine E_s (p' := 1076) (st' := aA 1 :: _) rfl rfl ?_
  refine E_s (p' := 1077) (st' := aA 0 :: _) rfl rfl ?_
  refine E_s (p' := 1078) (st' := aI 0 :: _) rfl rfl ?_
  refine E_s (p' := 1079) (st' := aI 1 :: _) rfl rfl ?_
  refine E_s (p' := 1080) (st' := aI 1 :: _) rfl rfl ?_
  refine E_scr rfl rfl h1 ?_
  refine E_s (p' := 1082) (st' := aA 0 :: _) rfl rfl ?_
  refine E_s (p' := 1083) (st' := aI 0 :: _) rfl rfl ?_
  refine E_s (p' := 1084) (st' := aI 2 :: _) rfl rfl ?_
  refine E_s (p' := 1085) (st' := aI 2 :: _) rfl rfl ?_
  refine E_scr rfl rfl h2 ?_
  refine E_callL (p' := 1089) (L0 := [some (aA 1), some (aI a1), some (aI a2), none, none, none]) rfl rfl rfl ?_
  refine E_s (p' := 1) (st' := aA 1 :: _) rfl rfl ?_
  refine E_s (p' := 2) rfl rfl ?_
  refine E_callL (p' := 5) (L0 := [some (aA 1), some (aI a1)]) rfl rfl rfl ?_
  refine E_s (p' := 1) rfl rfl ?_
  refine E_if_lt rfl (by decide) (fun _ => ?_) (fun _ => ?_)
  · refine E_s (p' := 19) rfl rfl ?_
    refine E_ret rfl rfl ?_
    refine E_s (p' := 6) (L' := [some (aA 1), some (aI a1), some (aI a2), some aN, none, none]) rfl rfl ?_
    refine E_s (p' := 7) rfl rfl ?_
    refine E_s (p' := 20) rfl rfl ?_
    refine E_s (p' := 21) (st' := aI (-1) :: _) rfl rfl ?_
    refine E_ret rfl rfl ?_
    refine E_s (p' := 1090) (st' := aA 124 :: _) rfl rfl ?_
    refine E_s (p' := 1091) (st' := aA 0 :: _) rfl rfl ?_
    refine E_s (p' := 1092) (st' := aI 0 :: _) rfl rfl ?_
    refine E_s (p' := 1093) (st' := aI 1 :: _) rfl rfl ?_
    refine E_s (p' := 1094) (st' := aI 1 :: _) rfl rfl ?_
    refine E_scr rfl rfl h1 ?_
    refine E_s (p' := 1096) (st' := aA 0 :: _) rfl rfl ?_
    refine E_s (p' := 1097) (st' := aI 0 :: _) rfl rfl ?_
    refine E_s (p' := 1098) (st' := aI 2 :: _) rfl rfl ?_
    refine E_s (p' := 1099) (st' := aI 2 :: _) rfl rfl ?_
    refine E_scr rfl rfl h2 ?_
    refine E_callL (p' := 1103) (L0 := [some (aA 124), some (aI a1), some (aI a2), none, none, none, none]) rfl rfl rfl ?_
    refine E_s (p' := 1) rfl rfl ?_
    refine E_callL (p' := 4) (L0 := [some (aI a1)]) rfl rfl rfl ?_
    refine E_s (p' := 1) rfl rfl ?_
    refine E_s (p' := 2) (st' := aI 0 :: _) rfl rfl ?_
    refine E_s (p' := 3) (st' := aI 3 :: _) rfl rfl ?_
    refine E_callL (p' := 6) (L0 := [some (aI a1), some (aI 0), some (aI 3)]) rfl rfl rfl ?_
    refine E_s (p' := 1) rfl rfl ?_
    refine E_s (p' := 2) (st' := aI 0 :: _) rfl rfl ?_
    refine E_icmp_lt (y := 0) rfl (by decide) (fun _ => ?_) (fun q => absurd q (by omega))
    refine E_s (p' := 15) (st' := aI 0 :: _) rfl rfl ?_
    refine E_ret rfl rfl ?_
    refine E_ret rfl rfl ?_
    refine E_s (p' := 17) rfl rfl ?_
    refine E_s (p' := 18) (st' := aI (-1) :: _) rfl rfl ?_
    refine E_ret rfl rfl ?_
    refine E_s (p' := 1174) rfl rfl ?_
    refine E_s (p' := 1177) (L' := [some (aA 0), some (aA 1), some (aA 124), some (aI 6)]) rfl rfl ?_
    refine E_s (p' := 18) rfl rfl ?_
    refine E_s (p' := 19) (st' := aI 6 :: _) rfl rfl ?_
    refine E_s (p' := 20) (st' := aA 0 :: _) rfl rfl ?_
    refine E_s (p' := 21) (st' := aI 6 :: _) rfl rfl ?_
    refine E_s (p' := 23) (st' := aI 6 :: _) rfl rfl ?_
    refine E_s (p' := 24) (st' := aI 0 :: _) rfl rfl ?_
    refine E_s (p' := 1180) rfl rfl ?_
    refine E_s (p' := 1181) (st' := aI 1 :: _) rfl rfl ?_
    exact E_ret rfl rfl ⟨rfl, rfl⟩
  · refine E_s (p' := 5) rfl rfl ?_
    refine E_s (p' := 6) (st' := aI 4 :: _) rfl rfl ?_
    refine E_icmp_ge (y := 4) rfl (by decide) (fun _ => ?_) (fun q => absurd q (by omega))
    refine E_s (p' := 19) rfl rfl ?_
    refine E_ret rfl rfl ?_
    refine E_s (p' := 6) (L' := [some (aA 1), some (aI a1), some (aI a2), some aN, none, none]) rfl rfl ?_
    refine E_s (p' := 7) rfl rfl ?_
    refine E_s (p' := 20) rfl rfl ?_
    refine E_s (p' := 21) (st' := aI (-1) :: _) rfl rfl ?_
    refine E_ret rfl rfl ?_
    refine E_s (p' := 1090) (st' := aA 124 :: _) rfl rfl ?_
    refine E_s (p' := 1091) (st' := aA 0 :: _) rfl rfl ?_
    refine E_s (p' := 1092) (st' := aI 0 :: _) rfl rfl ?_
    refine E_s (p' := 1093) (st' := aI 1 :: _) rfl rfl ?_
    refine E_s (p' := 1094) (st' := aI 1 :: _) rfl rfl ?_
    refine E_scr rfl rfl h1 ?_
    refine E_s (p' := 1096) (st' := aA 0 :: _) rfl rfl ?_
    refine E_s (p' := 1097) (st' := aI 0 :: _) rfl rfl ?_
    refine E_s (p' := 1098) (st' := aI 2 :: _) rfl rfl ?_
    refine E_s (p' := 1099) (st' := aI 2 :: _) rfl rfl ?_
    refine E_scr rfl rfl h2 ?_
    refine E_callL (p' := 1103) (L0 := [some (aA 124), some (aI a1), some (aI a2), none, none, none, none]) rfl rfl rfl ?_
    refine E_s (p' := 1) rfl rfl ?_
    refine E_callL (p' := 4) (L0 := [some (aI a1)]) rfl rfl rfl ?_
    refine E_s (p' := 1) rfl rfl ?_
    refine E_s (p' := 2) (st' := aI 0 :: _) rfl rfl ?_
    refine E_s (p' := 3) (st' := aI 3 :: _) rfl rfl ?_
    refine E_callL (p' := 6) (L0 := [some (aI a1), some (aI 0), some (aI 3)]) rfl rfl rfl ?_
    refine E_s (p' := 1) rfl rfl ?_
    refine E_s (p' := 2) (st' := aI 0 :: _) rfl rfl ?_
    refine E_icmp_lt (y := 0) rfl (by decide) (fun q => absurd q (by omega)) (fun _ => ?_)
    refine E_s (p' := 6) rfl rfl ?_
    refine E_s (p' := 7) (st' := aI 3 :: _) rfl rfl ?_
    refine E_icmp_gt (y := 3) rfl (by decide) (fun _ => ?_) (fun q => absurd q (by omega))
    refine E_s (p' := 15) (st' := aI 0 :: _) rfl rfl ?_
    refine E_ret rfl rfl ?_
    refine E_ret rfl rfl ?_
    refine E_s (p' := 17) rfl rfl ?_
    refine E_s (p' := 18) (st' := aI (-1) :: _) rfl rfl ?_
    refine E_ret rfl rfl ?_
    refine E_s (p' := 1174) rfl rfl ?_
    refine E_s (p' := 1177) (L' := [some (aA 0), some (aA 1), some (aA 124), some (aI 6)]) rfl rfl ?_
    refine E_s (p' := 18) rfl rfl ?_
    refine E_s (p' := 19) (st' := aI 6 :: _) rfl rfl ?_
    refine E_s (p' := 20) (st' := aA 0 :: _) rfl rfl ?_
    refine E_s (p' := 21) (st' := aI 6 :: _) rfl rfl ?_
    refine E_s (p' := 23) (st' := aI 6 :: _) rfl rfl ?_
    refine E_s (p' := 24) (st' := aI 0 :: _) rfl rfl ?_
    refine E_s (p' := 1180) rfl rfl ?_
    refine E_s (p' := 1181) (st' := aI 1 :: _) rfl rfl ?_
    exact E_ret rfl rfl ⟨rfl, rfl⟩
