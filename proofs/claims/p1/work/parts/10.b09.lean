set_option maxRecDepth 100000 in
set_option maxHeartbeats 40000000 in
theorem pc_16_0 (xs : Nat → Int) {z a2 a3 a4 a5 : Int} (hz : b32 (fun a b => a &&& b) z 31 = 16) (h0 : xs 0 = z) (h1 : xs 1 = 0) (h2 : xs 2 = a2) (h3 : xs 3 = a3) (h4 : xs 4 = a4) (h5 : xs 5 = a5) : E 0 18 LL [] (s0 xs 6) PQ := by
  refine E_s (p' := 19) (st' := aI 0 :: _) rfl rfl ?_
  refine E_s (p' := 20) (st' := aA 0 :: _) rfl rfl ?_
  refine E_s (p' := 21) (st' := aI 6 :: _) rfl rfl ?_
  refine E_s (p' := 23) (st' := aI 6 :: _) rfl rfl ?_
  refine E_s (p' := 24) (st' := aI 0 :: _) rfl rfl ?_
  refine E_s (p' := 27) rfl rfl ?_
  refine E_s (p' := 28) (st' := aA 0 :: _) rfl rfl ?_
  refine E_s (p' := 29) (st' := aI 0 :: _) rfl rfl ?_
  refine E_scr rfl rfl h0 ?_
  refine E_s (p' := 32) (st' := aI 31 :: _) rfl rfl ?_
  refine E_s (p' := 33) rfl rfl ?_
  refine E_val hz ?_
  refine E_s (p' := 808) rfl rfl ?_
  refine E_s (p' := 809) (st' := aA 1 :: _) rfl rfl ?_
  refine E_s (p' := 810) (st' := aA 0 :: _) rfl rfl ?_
  refine E_s (p' := 811) (st' := aI 0 :: _) rfl rfl ?_
  refine E_s (p' := 812) (st' := aI 1 :: _) rfl rfl ?_
  refine E_s (p' := 813) (st' := aI 1 :: _) rfl rfl ?_
  refine E_scr rfl rfl h1 ?_
  refine E_s (p' := 815) (st' := aA 0 :: _) rfl rfl ?_
  refine E_s (p' := 816) (st' := aI 0 :: _) rfl rfl ?_
  refine E_s (p' := 817) (st' := aI 2 :: _) rfl rfl ?_
  refine E_s (p' := 818) (st' := aI 2 :: _) rfl rfl ?_
  refine E_scr rfl rfl h2 ?_
  refine E_callL (p' := 822) (L0 := [some (aA 1), some (aI 0), some (aI a2), none, none]) rfl rfl rfl ?_
  refine E_s (p' := 1) (st' := aA 1 :: _) rfl rfl ?_
  refine E_s (p' := 2) (st' := aI 0 :: _) rfl rfl ?_
  refine E_callL (p' := 5) (L0 := [some (aA 1), some (aI 0)]) rfl rfl rfl ?_
  refine E_s (p' := 1) (st' := aI 0 :: _) rfl rfl ?_
  refine E_s (p' := 4) rfl rfl ?_
  refine E_s (p' := 5) (st' := aI 0 :: _) rfl rfl ?_
  refine E_s (p' := 6) (st' := aI 4 :: _) rfl rfl ?_
  refine E_s (p' := 9) rfl rfl ?_
  refine E_s (p' := 10) (st' := aA 1 :: _) rfl rfl ?_
  refine E_s (p' := 13) (st' := aA 2 :: _) rfl rfl ?_
  refine E_s (p' := 14) (st' := aI 0 :: _) rfl rfl ?_
  refine E_s (p' := 15) (st' := aA 20 :: _) rfl rfl ?_
  refine E_s (p' := 19) rfl rfl ?_
  refine E_ret rfl rfl ?_
  refine E_s (p' := 6) (L' := [some (aA 1), some (aI 0), some (aI a2), some (aA 20), none]) rfl rfl ?_
  refine E_s (p' := 7) (st' := aA 20 :: _) rfl rfl ?_
  refine E_s (p' := 10) rfl rfl ?_
  refine E_s (p' := 11) (st' := aA 20 :: _) rfl rfl ?_
  refine E_s (p' := 14) (st' := aA 21 :: _) rfl rfl ?_
  refine E_s (p' := 15) rfl rfl ?_
  refine E_callL (p' := 18) (L0 := [some (aA 21), some (aI a2)]) rfl rfl rfl ?_
  refine E_s (p' := 1) rfl rfl ?_
  refine E_if_lt rfl (by decide) (fun _ => ?_) (fun _ => ?_)
  · refine E_s (p' := 17) (st' := aI 0 :: _) rfl rfl ?_
    refine E_ret rfl rfl ?_
    refine E_s (p' := 31) rfl rfl ?_
    refine E_s (p' := 33) (st' := aI (-2) :: _) rfl rfl ?_
    refine E_ret rfl rfl ?_
    refine E_s (p' := 823) (st' := aA 124 :: _) rfl rfl ?_
    refine E_s (p' := 824) (st' := aA 0 :: _) rfl rfl ?_
    refine E_s (p' := 825) (st' := aI 0 :: _) rfl rfl ?_
    refine E_s (p' := 826) (st' := aI 1 :: _) rfl rfl ?_
    refine E_s (p' := 827) (st' := aI 1 :: _) rfl rfl ?_
    refine E_scr rfl rfl h1 ?_
    refine E_s (p' := 829) (st' := aA 0 :: _) rfl rfl ?_
    refine E_s (p' := 830) (st' := aI 0 :: _) rfl rfl ?_
    refine E_s (p' := 831) (st' := aI 2 :: _) rfl rfl ?_
    refine E_s (p' := 832) (st' := aI 2 :: _) rfl rfl ?_
    refine E_scr rfl rfl h2 ?_
    refine E_callL (p' := 836) (L0 := [some (aA 124), some (aI 0), some (aI a2), none, none]) rfl rfl rfl ?_
    refine E_s (p' := 1) (st' := aA 124 :: _) rfl rfl ?_
    refine E_s (p' := 2) (st' := aI 0 :: _) rfl rfl ?_
    refine E_s (p' := 3) rfl rfl ?_
    refine E_callL (p' := 6) (L0 := [some (aA 124), some (aI 0), some (aI a2)]) rfl rfl rfl ?_
    refine E_s (p' := 1) (st' := aI 0 :: _) rfl rfl ?_
    refine E_callL (p' := 4) (L0 := [some (aI 0)]) rfl rfl rfl ?_
    refine E_s (p' := 1) (st' := aI 0 :: _) rfl rfl ?_
    refine E_s (p' := 2) (st' := aI 0 :: _) rfl rfl ?_
    refine E_s (p' := 3) (st' := aI 3 :: _) rfl rfl ?_
    refine E_callL (p' := 6) (L0 := [some (aI 0), some (aI 0), some (aI 3)]) rfl rfl rfl ?_
    refine E_s (p' := 1) (st' := aI 0 :: _) rfl rfl ?_
    refine E_s (p' := 2) (st' := aI 0 :: _) rfl rfl ?_
    refine E_s (p' := 5) rfl rfl ?_
    refine E_s (p' := 6) (st' := aI 0 :: _) rfl rfl ?_
    refine E_s (p' := 7) (st' := aI 3 :: _) rfl rfl ?_
    refine E_s (p' := 10) rfl rfl ?_
    refine E_s (p' := 11) (st' := aI 1 :: _) rfl rfl ?_
    refine E_s (p' := 15) rfl rfl ?_
    refine E_ret rfl rfl ?_
    refine E_ret rfl rfl ?_
    refine E_s (p' := 7) rfl rfl ?_
    refine E_s (p' := 8) rfl rfl ?_
    refine E_s (p' := 9) (st' := aI 0 :: _) rfl rfl ?_
    refine E_s (p' := 10) (st' := aA 124 :: _) rfl rfl ?_
    refine E_s (p' := 13) (st' := aA 125 :: _) rfl rfl ?_
    refine E_s (p' := 14) (st' := aI 0 :: _) rfl rfl ?_
    refine E_s (p' := 15) (st' := aI 0 :: _) rfl rfl ?_
    refine E_s (p' := 16) (st' := aI 1 :: _) rfl rfl ?_
    refine E_isubv (v := -1) rfl (show (0 : Int) - 1 = -1 from rfl) (by decide) ?_
    refine E_callL (p' := 20) (L0 := [some (aI a2), some (aI 0), some (aI (-1))]) rfl rfl rfl ?_
    refine E_s (p' := 1) rfl rfl ?_
    refine E_s (p' := 2) (st' := aI 0 :: _) rfl rfl ?_
    refine E_icmp_lt (y := 0) rfl (by decide) (fun _ => ?_) (fun q => absurd q (by omega))
    refine E_s (p' := 15) (st' := aI 0 :: _) rfl rfl ?_
    refine E_ret rfl rfl ?_
    refine E_s (p' := 27) rfl rfl ?_
    refine E_s (p' := 28) (st' := aI 0 :: _) rfl rfl ?_
    refine E_ret rfl rfl ?_
    refine E_s (p' := 18) rfl rfl ?_
    refine E_s (p' := 20) (st' := aI (-2) :: _) rfl rfl ?_
    refine E_ret rfl rfl ?_
    refine E_s (p' := 1174) rfl rfl ?_
    refine E_s (p' := 1177) (L' := [some (aA 0), some (aA 1), some (aA 124), some (aI 6)]) rfl rfl ?_
    refine E_s (p' := 18) rfl rfl ?_
    refine E_s (p' := 19) (st' := aI 6 :: _) rfl rfl ?_
    refine E_s (p' := 20) (st' := aA 0 :: _) rfl rfl ?_
    refine E_s (p' := 21) (st' := aI 6 :: _) rfl rfl ?_
    refine E_s (p' := 23) (st' := aI 6 :: _) rfl rfl ?_
    refine E_s (p' := 24) (st' := aI 0 :: _) rfl rfl ?_
    refine E_s (p' := 1180) rfl rfl ?_
    refine E_s (p' := 1181) (st' := aI 1 :: _) rfl rfl ?_
    exact E_ret rfl rfl ⟨rfl, rfl⟩
  · refine E_s (p' := 5) rfl rfl ?_
    refine E_s (p' := 6) (st' := aA 21 :: _) rfl rfl ?_
    refine E_s (p' := 9) (st' := aI 0 :: _) rfl rfl ?_
    refine E_icmp_ge (y := 0) rfl (by decide) (fun _ => ?_) (fun q => absurd q (by omega))
    refine E_s (p' := 17) (st' := aI 0 :: _) rfl rfl ?_
    refine E_ret rfl rfl ?_
    refine E_s (p' := 31) rfl rfl ?_
    refine E_s (p' := 33) (st' := aI (-2) :: _) rfl rfl ?_
    refine E_ret rfl rfl ?_
    refine E_s (p' := 823) (st' := aA 124 :: _) rfl rfl ?_
    refine E_s (p' := 824) (st' := aA 0 :: _) rfl rfl ?_
    refine E_s (p' := 825) (st' := aI 0 :: _) rfl rfl ?_
    refine E_s (p' := 826) (st' := aI 1 :: _) rfl rfl ?_
    refine E_s (p' := 827) (st' := aI 1 :: _) rfl rfl ?_
    refine E_scr rfl rfl h1 ?_
    refine E_s (p' := 829) (st' := aA 0 :: _) rfl rfl ?_
    refine E_s (p' := 830) (st' := aI 0 :: _) rfl rfl ?_
    refine E_s (p' := 831) (st' := aI 2 :: _) rfl rfl ?_
    refine E_s (p' := 832) (st' := aI 2 :: _) rfl rfl ?_
    refine E_scr rfl rfl h2 ?_
    refine E_callL (p' := 836) (L0 := [some (aA 124), some (aI 0), some (aI a2), none, none]) rfl rfl rfl ?_
    refine E_s (p' := 1) (st' := aA 124 :: _) rfl rfl ?_
    refine E_s (p' := 2) (st' := aI 0 :: _) rfl rfl ?_
    refine E_s (p' := 3) rfl rfl ?_
    refine E_callL (p' := 6) (L0 := [some (aA 124), some (aI 0), some (aI a2)]) rfl rfl rfl ?_
    refine E_s (p' := 1) (st' := aI 0 :: _) rfl rfl ?_
    refine E_callL (p' := 4) (L0 := [some (aI 0)]) rfl rfl rfl ?_
    refine E_s (p' := 1) (st' := aI 0 :: _) rfl rfl ?_
    refine E_s (p' := 2) (st' := aI 0 :: _) rfl rfl ?_
    refine E_s (p' := 3) (st' := aI 3 :: _) rfl rfl ?_
    refine E_callL (p' := 6) (L0 := [some (aI 0), some (aI 0), some (aI 3)]) rfl rfl rfl ?_
    refine E_s (p' := 1) (st' := aI 0 :: _) rfl rfl ?_
    refine E_s (p' := 2) (st' := aI 0 :: _) rfl rfl ?_
    refine E_s (p' := 5) rfl rfl ?_
    refine E_s (p' := 6) (st' := aI 0 :: _) rfl rfl ?_
    refine E_s (p' := 7) (st' := aI 3 :: _) rfl rfl ?_
    refine E_s (p' := 10) rfl rfl ?_
    refine E_s (p' := 11) (st' := aI 1 :: _) rfl rfl ?_
    refine E_s (p' := 15) rfl rfl ?_
    refine E_ret rfl rfl ?_
    refine E_ret rfl rfl ?_
    refine E_s (p' := 7) rfl rfl ?_
    refine E_s (p' := 8) rfl rfl ?_
    refine E_s (p' := 9) (st' := aI 0 :: _) rfl rfl ?_
    refine E_s (p' := 10) (st' := aA 124 :: _) rfl rfl ?_
    refine E_s (p' := 13) (st' := aA 125 :: _) rfl rfl ?_
    refine E_s (p' := 14) (st' := aI 0 :: _) rfl rfl ?_
    refine E_s (p' := 15) (st' := aI 0 :: _) rfl rfl ?_
    refine E_s (p' := 16) (st' := aI 1 :: _) rfl rfl ?_
    refine E_isubv (v := -1) rfl (show (0 : Int) - 1 = -1 from rfl) (by decide) ?_
    refine E_callL (p' := 20) (L0 := [some (aI a2), some (aI 0), some (aI (-1))]) rfl rfl rfl ?_
    refine E_s (p' := 1) rfl rfl ?_
    refine E_s (p' := 2) (st' := aI 0 :: _) rfl rfl ?_
    refine E_icmp_lt (y := 0) rfl (by decide) (fun q => absurd q (by omega)) (fun _ => ?_)
    refine E_s (p' := 6) rfl rfl ?_
    refine E_s (p' := 7) (st' := aI (-1) :: _) rfl rfl ?_
    refine E_icmp_gt (y := (-1)) rfl (by decide) (fun _ => ?_) (fun q => absurd q (by omega))
    refine E_s (p' := 15) (st' := aI 0 :: _) rfl rfl ?_
    refine E_ret rfl rfl ?_
    refine E_s (p' := 27) rfl rfl ?_
    refine E_s (p' := 28) (st' := aI 0 :: _) rfl rfl ?_
    refine E_ret rfl rfl ?_
    refine E_s (p' := 18) rfl rfl ?_
    refine E_s (p' := 20) (st' := aI (-2) :: _) rfl rfl ?_
    refine E_ret rfl rfl ?_
    refine E_s (p' := 1174) rfl rfl ?_
    refine E_s (p' := 1177) (L' := [some (aA 0), some (aA 1), some (aA 124), some (aI 6)]) rfl rfl ?_
    refine E_s (p' := 18) rfl rfl ?_
    refine E_s (p' := 19) (st' := aI 6 :: _) rfl rfl ?_
    refine E_s (p' := 20) (st' := aA 0 :: _) rfl rfl ?_
    refine E_s (p' := 21) (st' := aI 6 :: _) rfl rfl ?_
    refine E_s (p' := 23) (st' := aI 6 :: _) rfl rfl ?_
    refine E_s (p' := 24) (st' := aI 0 :: _) rfl rfl ?_
    refine E_s (p' := 1180) rfl rfl ?_
    refine E_s (p' := 1181) (st' := aI 1 :: _) rfl rfl ?_
    exact E_ret rfl rfl ⟨rfl, rfl⟩
set_option maxRecDepth 100000 in
set_option maxHeartbeats 40000000 in
theorem pc_16_1 (xs : Nat → Int) {z a2 a3 a4 a5 : Int} (hz : b32 (fun a b => a &&& b) z 31 = 16) (h0 : xs 0 = z) (h1 : xs 1 = 1) (h2 : xs 2 = a2) (h3 : xs 3 = a3) (h4 : xs 4 = a4) (h5 : xs 5 = a5) : E 0 18 LL [] (s0 xs 6) PQ := by
  refine E_s (p' := 19) (st' := aI 0 :: _) rfl rfl ?_
  refine E_s (p' := 20) (st' := aA 0 :: _) rfl rfl ?_
  refine E_s (p' := 21) (st' := aI 6 :: _) rfl rfl ?_
  refine E_s (p' := 23) (st' := aI 6 :: _) rfl rfl ?_
  refine E_s (p' := 24) (st' := aI 0 :: _) rfl rfl ?_
  refine E_s (p' := 27) rfl rfl ?_
  refine E_s (p' := 28) (st' := aA 0 :: _) rfl rfl ?_
  refine E_s (p' := 29) (st' := aI 0 :: _) rfl rfl ?_
  refine E_scr rfl rfl h0 ?_
  refine E_s (p' := 32) (st' := aI 31 :: _) rfl rfl ?_
  refine E_s (p' := 33) rfl rfl ?_
  refine E_val hz ?_
  refine E_s (p' := 808) rfl rfl ?_
  refine E_s (p' := 809) (st' := aA 1 :: _) rfl rfl ?_
  refine E_s (p' := 810) (st' := aA 0 :: _) rfl rfl ?_
  refine E_s (p' := 811) (st' := aI 0 :: _) rfl rfl ?_
  refine E_s (p' := 812) (st' := aI 1 :: _) rfl rfl ?_
  refine E_s (p' := 813) (st' := aI 1 :: _) rfl rfl ?_
  refine E_scr rfl rfl h1 ?_
  refine E_s (p' := 815) (st' := aA 0 :: _) rfl rfl ?_
  refine E_s (p' := 816) (st' := aI 0 :: _) rfl rfl ?_
  refine E_s (p' := 817) (st' := aI 2 :: _) rfl rfl ?_
  refine E_s (p' := 818) (st' := aI 2 :: _) rfl rfl ?_
  refine E_scr rfl rfl h2 ?_
  refine E_callL (p' := 822) (L0 := [some (aA 1), some (aI 1), some (aI a2), none, none]) rfl rfl rfl ?_
  refine E_s (p' := 1) (st' := aA 1 :: _) rfl rfl ?_
  refine E_s (p' := 2) (st' := aI 1 :: _) rfl rfl ?_
  refine E_callL (p' := 5) (L0 := [some (aA 1), some (aI 1)]) rfl rfl rfl ?_
  refine E_s (p' := 1) (st' := aI 1 :: _) rfl rfl ?_
  refine E_s (p' := 4) rfl rfl ?_
  refine E_s (p' := 5) (st' := aI 1 :: _) rfl rfl ?_
  refine E_s (p' := 6) (st' := aI 4 :: _) rfl rfl ?_
  refine E_s (p' := 9) rfl rfl ?_
  refine E_s (p' := 10) (st' := aA 1 :: _) rfl rfl ?_
  refine E_s (p' := 13) (st' := aA 2 :: _) rfl rfl ?_
  refine E_s (p' := 14) (st' := aI 1 :: _) rfl rfl ?_
  refine E_s (p' := 15) (st' := aA 46 :: _) rfl rfl ?_
  refine E_s (p' := 19) rfl rfl ?_
  refine E_ret rfl rfl ?_
  refine E_s (p' := 6) (L' := [some (aA 1), some (aI 1), some (aI a2), some (aA 46), none]) rfl rfl ?_
  refine E_s (p' := 7) (st' := aA 46 :: _) rfl rfl ?_
  refine E_s (p' := 10) rfl rfl ?_
  refine E_s (p' := 11) (st' := aA 46 :: _) rfl rfl ?_
  refine E_s (p' := 14) (st' := aA 47 :: _) rfl rfl ?_
  refine E_s (p' := 15) rfl rfl ?_
  refine E_callL (p' := 18) (L0 := [some (aA 47), some (aI a2)]) rfl rfl rfl ?_
  refine E_s (p' := 1) rfl rfl ?_
  refine E_if_lt rfl (by decide) (fun _ => ?_) (fun _ => ?_)
  · refine E_s (p' := 17) (st' := aI 0 :: _) rfl rfl ?_
    refine E_ret rfl rfl ?_
    refine E_s (p' := 31) rfl rfl ?_
    refine E_s (p' := 33) (st' := aI (-2) :: _) rfl rfl ?_
    refine E_ret rfl rfl ?_
    refine E_s (p' := 823) (st' := aA 124 :: _) rfl rfl ?_
    refine E_s (p' := 824) (st' := aA 0 :: _) rfl rfl ?_
    refine E_s (p' := 825) (st' := aI 0 :: _) rfl rfl ?_
    refine E_s (p' := 826) (st' := aI 1 :: _) rfl rfl ?_
    refine E_s (p' := 827) (st' := aI 1 :: _) rfl rfl ?_
    refine E_scr rfl rfl h1 ?_
    refine E_s (p' := 829) (st' := aA 0 :: _) rfl rfl ?_
    refine E_s (p' := 830) (st' := aI 0 :: _) rfl rfl ?_
    refine E_s (p' := 831) (st' := aI 2 :: _) rfl rfl ?_
    refine E_s (p' := 832) (st' := aI 2 :: _) rfl rfl ?_
    refine E_scr rfl rfl h2 ?_
    refine E_callL (p' := 836) (L0 := [some (aA 124), some (aI 1), some (aI a2), none, none]) rfl rfl rfl ?_
    refine E_s (p' := 1) (st' := aA 124 :: _) rfl rfl ?_
    refine E_s (p' := 2) (st' := aI 1 :: _) rfl rfl ?_
    refine E_s (p' := 3) rfl rfl ?_
    refine E_callL (p' := 6) (L0 := [some (aA 124), some (aI 1), some (aI a2)]) rfl rfl rfl ?_
    refine E_s (p' := 1) (st' := aI 1 :: _) rfl rfl ?_
    refine E_callL (p' := 4) (L0 := [some (aI 1)]) rfl rfl rfl ?_
    refine E_s (p' := 1) (st' := aI 1 :: _) rfl rfl ?_
    refine E_s (p' := 2) (st' := aI 0 :: _) rfl rfl ?_
    refine E_s (p' := 3) (st' := aI 3 :: _) rfl rfl ?_
    refine E_callL (p' := 6) (L0 := [some (aI 1), some (aI 0), some (aI 3)]) rfl rfl rfl ?_
    refine E_s (p' := 1) (st' := aI 1 :: _) rfl rfl ?_
    refine E_s (p' := 2) (st' := aI 0 :: _) rfl rfl ?_
    refine E_s (p' := 5) rfl rfl ?_
    refine E_s (p' := 6) (st' := aI 1 :: _) rfl rfl ?_
    refine E_s (p' := 7) (st' := aI 3 :: _) rfl rfl ?_
    refine E_s (p' := 10) rfl rfl ?_
    refine E_s (p' := 11) (st' := aI 1 :: _) rfl rfl ?_
    refine E_s (p' := 15) rfl rfl ?_
    refine E_ret rfl rfl ?_
    refine E_ret rfl rfl ?_
    refine E_s (p' := 7) rfl rfl ?_
    refine E_s (p' := 8) rfl rfl ?_
    refine E_s (p' := 9) (st' := aI 0 :: _) rfl rfl ?_
    refine E_s (p' := 10) (st' := aA 124 :: _) rfl rfl ?_
    refine E_s (p' := 13) (st' := aA 125 :: _) rfl rfl ?_
    refine E_s (p' := 14) (st' := aI 1 :: _) rfl rfl ?_
    refine E_s (p' := 15) (st' := aI 0 :: _) rfl rfl ?_
    refine E_s (p' := 16) (st' := aI 1 :: _) rfl rfl ?_
    refine E_isubv (v := -1) rfl (show (0 : Int) - 1 = -1 from rfl) (by decide) ?_
    refine E_callL (p' := 20) (L0 := [some (aI a2), some (aI 0), some (aI (-1))]) rfl rfl rfl ?_
    refine E_s (p' := 1) rfl rfl ?_
    refine E_s (p' := 2) (st' := aI 0 :: _) rfl rfl ?_
    refine E_icmp_lt (y := 0) rfl (by decide) (fun _ => ?_) (fun q => absurd q (by omega))
    refine E_s (p' := 15) (st' := aI 0 :: _) rfl rfl ?_
    refine E_ret rfl rfl ?_
    refine E_s (p' := 27) rfl rfl ?_
    refine E_s (p' := 28) (st' := aI 0 :: _) rfl rfl ?_
    refine E_ret rfl rfl ?_
    refine E_s (p' := 18) rfl rfl ?_
    refine E_s (p' := 20) (st' := aI (-2) :: _) rfl rfl ?_
    refine E_ret rfl rfl ?_
    refine E_s (p' := 1174) rfl rfl ?_
    refine E_s (p' := 1177) (L' := [some (aA 0), some (aA 1), some (aA 124), some (aI 6)]) rfl rfl ?_
    refine E_s (p' := 18) rfl rfl ?_
    refine E_s (p' := 19) (st' := aI 6 :: _) rfl rfl ?_
    refine E_s (p' := 20) (st' := aA 0 :: _) rfl rfl ?_
    refine E_s (p' := 21) (st' := aI 6 :: _) rfl rfl ?_
    refine E_s (p' := 23) (st' := aI 6 :: _) rfl rfl ?_
    refine E_s (p' := 24) (st' := aI 0 :: _) rfl rfl ?_
    refine E_s (p' := 1180) rfl rfl ?_
    refine E_s (p' := 1181) (st' := aI 1 :: _) rfl rfl ?_
    exact E_ret rfl rfl ⟨rfl, rfl⟩
  · refine E_s (p' := 5) rfl rfl ?_
    refine E_s (p' := 6) (st' := aA 47 :: _) rfl rfl ?_
    refine E_s (p' := 9) (st' := aI 0 :: _) rfl rfl ?_
    refine E_icmp_ge (y := 0) rfl (by decide) (fun _ => ?_) (fun q => absurd q (by omega))
    refine E_s (p' := 17) (st' := aI 0 :: _) rfl rfl ?_
    refine E_ret rfl rfl ?_
    refine E_s (p' := 31) rfl rfl ?_
    refine E_s (p' := 33) (st' := aI (-2) :: _) rfl rfl ?_
    refine E_ret rfl rfl ?_
    refine E_s (p' := 823) (st' := aA 124 :: _) rfl rfl ?_
    refine E_s (p' := 824) (st' := aA 0 :: _) rfl rfl ?_
    refine E_s (p' := 825) (st' := aI 0 :: _) rfl rfl ?_
    refine E_s (p' := 826) (st' := aI 1 :: _) rfl rfl ?_
    refine E_s (p' := 827) (st' := aI 1 :: _) rfl rfl ?_
    refine E_scr rfl rfl h1 ?_
    refine E_s (p' := 829) (st' := aA 0 :: _) rfl rfl ?_
    refine E_s (p' := 830) (st' := aI 0 :: _) rfl rfl ?_
    refine E_s (p' := 831) (st' := aI 2 :: _) rfl rfl ?_
    refine E_s (p' := 832) (st' := aI 2 :: _) rfl rfl ?_
    refine E_scr rfl rfl h2 ?_
    refine E_callL (p' := 836) (L0 := [some (aA 124), some (aI 1), some (aI a2), none, none]) rfl rfl rfl ?_
    refine E_s (p' := 1) (st' := aA 124 :: _) rfl rfl ?_
    refine E_s (p' := 2) (st' := aI 1 :: _) rfl rfl ?_
    refine E_s (p' := 3) rfl rfl ?_
    refine E_callL (p' := 6) (L0 := [some (aA 124), some (aI 1), some (aI a2)]) rfl rfl rfl ?_
    refine E_s (p' := 1) (st' := aI 1 :: _) rfl rfl ?_
    refine E_callL (p' := 4) (L0 := [some (aI 1)]) rfl rfl rfl ?_
    refine E_s (p' := 1) (st' := aI 1 :: _) rfl rfl ?_
    refine E_s (p' := 2) (st' := aI 0 :: _) rfl rfl ?_
    refine E_s (p' := 3) (st' := aI 3 :: _) rfl rfl ?_
    refine E_callL (p' := 6) (L0 := [some (aI 1), some (aI 0), some (aI 3)]) rfl rfl rfl ?_
    refine E_s (p' := 1) (st' := aI 1 :: _) rfl rfl ?_
    refine E_s (p' := 2) (st' := aI 0 :: _) rfl rfl ?_
    refine E_s (p' := 5) rfl rfl ?_
    refine E_s (p' := 6) (st' := aI 1 :: _) rfl rfl ?_
    refine E_s (p' := 7) (st' := aI 3 :: _) rfl rfl ?_
    refine E_s (p' := 10) rfl rfl ?_
    refine E_s (p' := 11) (st' := aI 1 :: _) rfl rfl ?_
    refine E_s (p' := 15) rfl rfl ?_
    refine E_ret rfl rfl ?_
    refine E_ret rfl rfl ?_
    refine E_s (p' := 7) rfl rfl ?_
    refine E_s (p' := 8) rfl rfl ?_
    refine E_s (p' := 9) (st' := aI 0 :: _) rfl rfl ?_
    refine E_s (p' := 10) (st' := aA 124 :: _) rfl rfl ?_
    refine E_s (p' := 13) (st' := aA 125 :: _) rfl rfl ?_
    refine E_s (p' := 14) (st' := aI 1 :: _) rfl rfl ?_
    refine E_s (p' := 15) (st' := aI 0 :: _) rfl rfl ?_
    refine E_s (p' := 16) (st' := aI 1 :: _) rfl rfl ?_
    refine E_isubv (v := -1) rfl (show (0 : Int) - 1 = -1 from rfl) (by decide) ?_
    refine E_callL (p' := 20) (L0 := [some (aI a2), some (aI 0), some (aI (-1))]) rfl rfl rfl ?_
    refine E_s (p' := 1) rfl rfl ?_
    refine E_s (p' := 2) (st' := aI 0 :: _) rfl rfl ?_
    refine E_icmp_lt (y := 0) rfl (by decide) (fun q => absurd q (by omega)) (fun _ => ?_)
    refine E_s (p' := 6) rfl rfl ?_
    refine E_s (p' := 7) (st' := aI (-1) :: _) rfl rfl ?_
    refine E_icmp_gt (y := (-1)) rfl (by decide) (fun _ => ?_) (fun q => absurd q (by omega))
    refine E_s (p' := 15) (st' := aI 0 :: _) rfl rfl ?_
    refine E_ret rfl rfl ?_
    refine E_s (p' := 27) rfl rfl ?_
    refine E_s (p' := 28) (st' := aI 0 :: _) rfl rfl ?_
    refine E_ret rfl rfl ?_
    refine E_s (p' := 18) rfl rfl ?_
    refine E_s (p' := 20) (st' := aI (-2) :: _) rfl rfl ?_
    refine E_ret rfl rfl ?_
    refine E_s (p' := 1174) rfl rfl ?_
    refine E_s (p' := 1177) (L' := [some (aA 0), some (aA 1), some (aA 124), some (aI 6)]) rfl rfl ?_
    refine E_s (p' := 18) rfl rfl ?_
    refine E_s (p' := 19) (st' := aI 6 :: _) rfl rfl ?_
    refine E_s (p' := 20) (st' := aA 0 :: _) rfl rfl ?_
    refine E_s (p' := 21) (st' := aI 6 :: _) rfl rfl ?_
    refine E_s (p' := 23) (st' := aI 6 :: _) rfl rfl ?_
    refine E_s (p' := 24) (st' := aI 0 :: _) rfl rfl ?_
    refine E_s (p' := 1180) rfl rfl ?_
    refine E_s (p' := 1181) (st' := aI 1 :: _) rfl rfl ?_
    exact E_ret rfl rfl ⟨rfl, rfl⟩
set_option maxRecDepth 100000 in
set_option maxHeartbeats 40000000 in
theorem pc_16_2 (xs : Nat → Int) {z a2 a3 a4 a5 : Int} (hz : b32 (fun a b => a &&& b) z 31 = 16) (h0 : xs 0 = z) (h1 : xs 1 = 2) (h2 : xs 2 = a2) (h3 : xs 3 = a3) (h4 : xs 4 = a4) (h5 : xs 5 = a5) : E 0 18 LL [] (s0 xs 6) PQ := by
  refine E_s (p' := 19) (st' := aI 0 :: _) rfl rfl ?_
  refine E_s (p' := 20) (st' := aA 0 :: _) rfl rfl ?_
  refine E_s (p' := 21) (st' := aI 6 :: _) rfl rfl ?_
  refine E_s (p' := 23) (st' := aI 6 :: _) rfl rfl ?_
  refine E_s (p' := 24) (st' := aI 0 :: _) rfl rfl ?_
  refine E_s (p' := 27) rfl rfl ?_
  refine E_s (p' := 28) (st' := aA 0 :: _) rfl rfl ?_
  refine E_s (p' := 29) (st' := aI 0 :: _) rfl rfl ?_
  refine E_scr rfl rfl h0 ?_
  refine E_s (p' := 32) (st' := aI 31 :: _) rfl rfl ?_
  refine E_s (p' := 33) rfl rfl ?_
  refine E_val hz ?_
  refine E_s (p' := 808) rfl rfl ?_
  refine E_s (p' := 809) (st' := aA 1 :: _) rfl rfl ?_
  refine E_s (p' := 810) (st' := aA 0 :: _) rfl rfl ?_
  refine E_s (p' := 811) (st' := aI 0 :: _) rfl rfl ?_
  refine E_s (p' := 812) (st' := aI 1 :: _) rfl rfl ?_
  refine E_s (p' := 813) (st' := aI 1 :: _) rfl rfl ?_
  refine E_scr rfl rfl h1 ?_
  refine E_s (p' := 815) (st' := aA 0 :: _) rfl rfl ?_
  refine E_s (p' := 816) (st' := aI 0 :: _) rfl rfl ?_
  refine E_s (p' := 817) (st' := aI 2 :: _) rfl rfl ?_
  refine E_s (p' := 818) (st' := aI 2 :: _) rfl rfl ?_
  refine E_scr rfl rfl h2 ?_
  refine E_callL (p' := 822) (L0 := [some (aA 1), some (aI 2), some (aI a2), none, none]) rfl rfl rfl ?_
  refine E_s (p' := 1) (st' := aA 1 :: _) rfl rfl ?_
  refine E_s (p' := 2) (st' := aI 2 :: _) rfl rfl ?_
  refine E_callL (p' := 5) (L0 := [some (aA 1), some (aI 2)]) rfl rfl rfl ?_
  refine E_s (p' := 1) (st' := aI 2 :: _) rfl rfl ?_
  refine E_s (p' := 4) rfl rfl ?_
  refine E_s (p' := 5) (st' := aI 2 :: _) rfl rfl ?_
  refine E_s (p' := 6) (st' := aI 4 :: _) rfl rfl ?_
  refine E_s (p' := 9) rfl rfl ?_
  refine E_s (p' := 10) (st' := aA 1 :: _) rfl rfl ?_
  refine E_s (p' := 13) (st' := aA 2 :: _) rfl rfl ?_
  refine E_s (p' := 14) (st' := aI 2 :: _) rfl rfl ?_
  refine E_s (p' := 15) (st' := aA 72 :: _) rfl rfl ?_
  refine E_s (p' := 19) rfl rfl ?_
  refine E_ret rfl rfl ?_
  refine E_s (p' := 6) (L' := [some (aA 1), some (aI 2), some (aI a2), some (aA 72), none]) rfl rfl ?_
  refine E_s (p' := 7) (st' := aA 72 :: _) rfl rfl ?_
  refine E_s (p' := 10) rfl rfl ?_
  refine E_s (p' := 11) (st' := aA 72 :: _) rfl rfl ?_
  refine E_s (p' := 14) (st' := aA 73 :: _) rfl rfl ?_
  refine E_s (p' := 15) rfl rfl ?_
  refine E_callL (p' := 18) (L0 := [some (aA 73), some (aI a2)]) rfl rfl rfl ?_
  refine E_s (p' := 1) rfl rfl ?_
  refine E_if_lt rfl (by decide) (fun _ => ?_) (fun _ => ?_)
  · refine E_s (p' := 17) (st' := aI 0 :: _) rfl rfl ?_
    refine E_ret rfl rfl ?_
    refine E_s (p' := 31) rfl rfl ?_
    refine E_s (p' := 33) (st' := aI (-2) :: _) rfl rfl ?_
    refine E_ret rfl rfl ?_
    refine E_s (p' := 823) (st' := aA 124 :: _) rfl rfl ?_
    refine E_s (p' := 824) (st' := aA 0 :: _) rfl rfl ?_
    refine E_s (p' := 825) (st' := aI 0 :: _) rfl rfl ?_
    refine E_s (p' := 826) (st' := aI 1 :: _) rfl rfl ?_
    refine E_s (p' := 827) (st' := aI 1 :: _) rfl rfl ?_
    refine E_scr rfl rfl h1 ?_
    refine E_s (p' := 829) (st' := aA 0 :: _) rfl rfl ?_
    refine E_s (p' := 830) (st' := aI 0 :: _) rfl rfl ?_
    refine E_s (p' := 831) (st' := aI 2 :: _) rfl rfl ?_
    refine E_s (p' := 832) (st' := aI 2 :: _) rfl rfl ?_
    refine E_scr rfl rfl h2 ?_
    refine E_callL (p' := 836) (L0 := [some (aA 124), some (aI 2), some (aI a2), none, none]) rfl rfl rfl ?_
    refine E_s (p' := 1) (st' := aA 124 :: _) rfl rfl ?_
    refine E_s (p' := 2) (st' := aI 2 :: _) rfl rfl ?_
    refine E_s (p' := 3) rfl rfl ?_
    refine E_callL (p' := 6) (L0 := [some (aA 124), some (aI 2), some (aI a2)]) rfl rfl rfl ?_
    refine E_s (p' := 1) (st' := aI 2 :: _) rfl rfl ?_
    refine E_callL (p' := 4) (L0 := [some (aI 2)]) rfl rfl rfl ?_
    refine E_s (p' := 1) (st' := aI 2 :: _) rfl rfl ?_
    refine E_s (p' := 2) (st' := aI 0 :: _) rfl rfl ?_
    refine E_s (p' := 3) (st' := aI 3 :: _) rfl rfl ?_
    refine E_callL (p' := 6) (L0 := [some (aI 2), some (aI 0), some (aI 3)]) rfl rfl rfl ?_
    refine E_s (p' := 1) (st' := aI 2 :: _) rfl rfl ?_
    refine E_s (p' := 2) (st' := aI 0 :: _) rfl rfl ?_
    refine E_s (p' := 5) rfl rfl ?_
    refine E_s (p' := 6) (st' := aI 2 :: _) rfl rfl ?_
    refine E_s (p' := 7) (st' := aI 3 :: _) rfl rfl ?_
    refine E_s (p' := 10) rfl rfl ?_
    refine E_s (p' := 11) (st' := aI 1 :: _) rfl rfl ?_
    refine E_s (p' := 15) rfl rfl ?_
    refine E_ret rfl rfl ?_
    refine E_ret rfl rfl ?_
    refine E_s (p' := 7) rfl rfl ?_
    refine E_s (p' := 8) rfl rfl ?_
    refine E_s (p' := 9) (st' := aI 0 :: _) rfl rfl ?_
    refine E_s (p' := 10) (st' := aA 124 :: _) rfl rfl ?_
    refine E_s (p' := 13) (st' := aA 125 :: _) rfl rfl ?_
    refine E_s (p' := 14) (st' := aI 2 :: _) rfl rfl ?_
    refine E_s (p' := 15) (st' := aI 0 :: _) rfl rfl ?_
    refine E_s (p' := 16) (st' := aI 1 :: _) rfl rfl ?_
    refine E_isubv (v := -1) rfl (show (0 : Int) - 1 = -1 from rfl) (by decide) ?_
    refine E_callL (p' := 20) (L0 := [some (aI a2), some (aI 0), some (aI (-1))]) rfl rfl rfl ?_
    refine E_s (p' := 1) rfl rfl ?_
    refine E_s (p' := 2) (st' := aI 0 :: _) rfl rfl ?_
    refine E_icmp_lt (y := 0) rfl (by decide) (fun _ => ?_) (fun q => absurd q (by omega))
    refine E_s (p' := 15) (st' := aI 0 :: _) rfl rfl ?_
    refine E_ret rfl rfl ?_
    refine E_s (p' := 27) rfl rfl ?_
    refine E_s (p' := 28) (st' := aI 0 :: _) rfl rfl ?_
    refine E_ret rfl rfl ?_
    refine E_s (p' := 18) rfl rfl ?_
    refine E_s (p' := 20) (st' := aI (-2) :: _) rfl rfl ?_
    refine E_ret rfl rfl ?_
    refine E_s (p' := 1174) rfl rfl ?_
    refine E_s (p' := 1177) (L' := [some (aA 0), some (aA 1), some (aA 124), some (aI 6)]) rfl rfl ?_
    refine E_s (p' := 18) rfl rfl ?_
    refine E_s (p' := 19) (st' := aI 6 :: _) rfl rfl ?_
    refine E_s (p' := 20) (st' := aA 0 :: _) rfl rfl ?_
    refine E_s (p' := 21) (st' := aI 6 :: _) rfl rfl ?_
    refine E_s (p' := 23) (st' := aI 6 :: _) rfl rfl ?_
    refine E_s (p' := 24) (st' := aI 0 :: _) rfl rfl ?_
    refine E_s (p' := 1180) rfl rfl ?_
    refine E_s (p' := 1181) (st' := aI 1 :: _) rfl rfl ?_
    exact E_ret rfl rfl ⟨rfl, rfl⟩
  · refine E_s (p' := 5) rfl rfl ?_
    refine E_s (p' := 6) (st' := aA 73 :: _) rfl rfl ?_
    refine E_s (p' := 9) (st' := aI 0 :: _) rfl rfl ?_
    refine E_icmp_ge (y := 0) rfl (by decide) (fun _ => ?_) (fun q => absurd q (by omega))
    refine E_s (p' := 17) (st' := aI 0 :: _) rfl rfl ?_
    refine E_ret rfl rfl ?_
    refine E_s (p' := 31) rfl rfl ?_
    refine E_s (p' := 33) (st' := aI (-2) :: _) rfl rfl ?_
    refine E_ret rfl rfl ?_
    refine E_s (p' := 823) (st' := aA 124 :: _) rfl rfl ?_
    refine E_s (p' := 824) (st' := aA 0 :: _) rfl rfl ?_
    refine E_s (p' := 825) (st' := aI 0 :: _) rfl rfl ?_
    refine E_s (p' := 826) (st' := aI 1 :: _) rfl rfl ?_
    refine E_s (p' := 827) (st' := aI 1 :: _) rfl rfl ?_
    refine E_scr rfl rfl h1 ?_
    refine E_s (p' := 829) (st' := aA 0 :: _) rfl rfl ?_
    refine E_s (p' := 830) (st' := aI 0 :: _) rfl rfl ?_
    refine E_s (p' := 831) (st' := aI 2 :: _) rfl rfl ?_
    refine E_s (p' := 832) (st' := aI 2 :: _) rfl rfl ?_
    refine E_scr rfl rfl h2 ?_
    refine E_callL (p' := 836) (L0 := [some (aA 124), some (aI 2), some (aI a2), none, none]) rfl rfl rfl ?_
    refine E_s (p' := 1) (st' := aA 124 :: _) rfl rfl ?_
    refine E_s (p' := 2) (st' := aI 2 :: _) rfl rfl ?_
    refine E_s (p' := 3) rfl rfl ?_
    refine E_callL (p' := 6) (L0 := [some (aA 124), some (aI 2), some (aI a2)]) rfl rfl rfl ?_
    refine E_s (p' := 1) (st' := aI 2 :: _) rfl rfl ?_
    refine E_callL (p' := 4) (L0 := [some (aI 2)]) rfl rfl rfl ?_
    refine E_s (p' := 1) (st' := aI 2 :: _) rfl rfl ?_
    refine E_s (p' := 2) (st' := aI 0 :: _) rfl rfl ?_
    refine E_s (p' := 3) (st' := aI 3 :: _) rfl rfl ?_
    refine E_callL (p' := 6) (L0 := [some (aI 2), some (aI 0), some (aI 3)]) rfl rfl rfl ?_
    refine E_s (p' := 1) (st' := aI 2 :: _) rfl rfl ?_
    refine E_s (p' := 2) (st' := aI 0 :: _) rfl rfl ?_
    refine E_s (p' := 5) rfl rfl ?_
    refine E_s (p' := 6) (st' := aI 2 :: _) rfl rfl ?_
    refine E_s (p' := 7) (st' := aI 3 :: _) rfl rfl ?_
    refine E_s (p' := 10) rfl rfl ?_
    refine E_s (p' := 11) (st' := aI 1 :: _) rfl rfl ?_
    refine E_s (p' := 15) rfl rfl ?_
    refine E_ret rfl rfl ?_
    refine E_ret rfl rfl ?_
    refine E_s (p' := 7) rfl rfl ?_
    refine E_s (p' := 8) rfl rfl ?_
    refine E_s (p' := 9) (st' := aI 0 :: _) rfl rfl ?_
    refine E_s (p' := 10) (st' := aA 124 :: _) rfl rfl ?_
    refine E_s (p' := 13) (st' := aA 125 :: _) rfl rfl ?_
    refine E_s (p' := 14) (st' := aI 2 :: _) rfl rfl ?_
    refine E_s (p' := 15) (st' := aI 0 :: _) rfl rfl ?_
    refine E_s (p' := 16) (st' := aI 1 :: _) rfl rfl ?_
    refine E_isubv (v := -1) rfl (show (0 : Int) - 1 = -1 from rfl) (by decide) ?_
    refine E_callL (p' := 20) (L0 := [some (aI a2), some (aI 0), some (aI (-1))]) rfl rfl rfl ?_
    refine E_s (p' := 1) rfl rfl ?_
    refine E_s (p' := 2) (st' := aI 0 :: _) rfl rfl ?_
    refine E_icmp_lt (y := 0) rfl (by decide) (fun q => absurd q (by omega)) (fun _ => ?_)
    refine E_s (p' := 6) rfl rfl ?_
    refine E_s (p' := 7) (st' := aI (-1) :: _) rfl rfl ?_
    refine E_icmp_gt (y := (-1)) rfl (by decide) (fun _ => ?_) (fun q => absurd q (by omega))
    refine E_s (p' := 15) (st' := aI 0 :: _) rfl rfl ?_
    refine E_ret rfl rfl ?_
    refine E_s (p' := 27) rfl rfl ?_
    refine E_s (p' := 28) (st' := aI 0 :: _) rfl rfl ?_
    refine E_ret rfl rfl ?_
    refine E_s (p' := 18) rfl rfl ?_
    refine E_s (p' := 20) (st' := aI (-2) :: _) rfl rfl ?_
    refine E_ret rfl rfl ?_
    refine E_s (p' := 1174) rfl rfl ?_
    refine E_s (p' := 1177) (L' := [some (aA 0), some (aA 1), some (aA 124), some (aI 6)]) rfl rfl ?_
    refine E_s (p' := 18) rfl rfl ?_
    refine E_s (p' := 19) (st' := aI 6 :: _) rfl rfl ?_
    refine E_s (p' := 20) (st' := aA 0 :: _) rfl rfl ?_
    refine E_s (p' := 21) (st' := aI 6 :: _) rfl rfl ?_
    refine E_s (p' := 23) (st' := aI 6 :: _) rfl rfl ?_
    refine E_s (p' := 24) (st' := aI 0 :: _) rfl rfl ?_
    refine E_s (p' := 1180) rfl rfl ?_
    refine E_s (p' := 1181) (st' := aI 1 :: _) rfl rfl ?_
    exact E_ret rfl rfl ⟨rfl, rfl⟩
set_option maxRecDepth 100000 in
set_option maxHeartbeats 40000000 in
theorem pc_16_3 (xs : Nat → Int) {z a2 a3 a4 a5 : Int} (hz : b32 (fun a b => a &&& b) z 31 = 16) (h0 : xs 0 = z) (h1 : xs 1 = 3) (h2 : xs 2 = a2) (h3 : xs 3 = a3) (h4 : xs 4 = a4) (h5 : xs 5 = a5) : E 0 18 LL [] (s0 xs 6) PQ := by
  refine E_s (p' := 19) (st' := aI 0 :: _) rfl rfl ?_
  refine E_s (p' := 20) (st' := aA 0 :: _) rfl rfl ?_
  refine E_s (p' := 21) (st' := aI 6 :: _) rfl rfl ?_
  refine E_s (p' := 23) (st' := aI 6 :: _) rfl rfl ?_
  refine E_s (p' := 24) (st' := aI 0 :: _) rfl rfl ?_
  refine E_s (p' := 27) rfl rfl ?_
  refine E_s (p' := 28) (st' := aA 0 :: _) rfl rfl ?_
  refine E_s (p' := 29) (st' := aI 0 :: _) rfl rfl ?_
  refine E_scr rfl rfl h0 ?_
  refine E_s (p' := 32) (st' := aI 31 :: _) rfl rfl ?_
  refine E_s (p' := 33) rfl rfl ?_
  refine E_val hz ?_
  refine E_s (p' := 808) rfl rfl ?_
  refine E_s (p' := 809) (st' := aA 1 :: _) rfl rfl ?_
  refine E_s (p' := 810) (st' := aA 0 :: _) rfl rfl ?_
  refine E_s (p' := 811) (st' := aI 0 :: _) rfl rfl ?_
  refine E_s (p' := 812) (st' := aI 1 :: _) rfl rfl ?_
  refine E_s (p' := 813) (st' := aI 1 :: _) rfl rfl ?_
  refine E_scr rfl rfl h1 ?_
  refine E_s (p' := 815) (st' := aA 0 :: _) rfl rfl ?_
  refine E_s (p' := 816) (st' := aI 0 :: _) rfl rfl ?_
  refine E_s (p' := 817) (st' := aI 2 :: _) rfl rfl ?_
  refine E_s (p' := 818) (st' := aI 2 :: _) rfl rfl ?_
  refine E_scr rfl rfl h2 ?_
  refine E_callL (p' := 822) (L0 := [some (aA 1), some (aI 3), some (aI a2), none, none]) rfl rfl rfl ?_
  refine E_s (p' := 1) (st' := aA 1 :: _) rfl rfl ?_
  refine E_s (p' := 2) (st' := aI 3 :: _) rfl rfl ?_
  refine E_callL (p' := 5) (L0 := [some (aA 1), some (aI 3)]) rfl rfl rfl ?_
  refine E_s (p' := 1) (st' := aI 3 :: _) rfl rfl ?_
  refine E_s (p' := 4) rfl rfl ?_
  refine E_s (p' := 5) (st' := aI 3 :: _) rfl rfl ?_
  refine E_s (p' := 6) (st' := aI 4 :: _) rfl rfl ?_
  refine E_s (p' := 9) rfl rfl ?_
  refine E_s (p' := 10) (st' := aA 1 :: _) rfl rfl ?_
  refine E_s (p' := 13) (st' := aA 2 :: _) rfl rfl ?_
  refine E_s (p' := 14) (st' := aI 3 :: _) rfl rfl ?_
  refine E_s (p' := 15) (st' := aA 98 :: _) rfl rfl ?_
  refine E_s (p' := 19) rfl rfl ?_
  refine E_ret rfl rfl ?_
  refine E_s (p' := 6) (L' := [some (aA 1), some (aI 3), some (aI a2), some (aA 98), none]) rfl rfl ?_
  refine E_s (p' := 7) (st' := aA 98 :: _) rfl rfl ?_
  refine E_s (p' := 10) rfl rfl ?_
  refine E_s (p' := 11) (st' := aA 98 :: _) rfl rfl ?_
  refine E_s (p' := 14) (st' := aA 99 :: _) rfl rfl ?_
  refine E_s (p' := 15) rfl rfl ?_
  refine E_callL (p' := 18) (L0 := [some (aA 99), some (aI a2)]) rfl rfl rfl ?_
  refine E_s (p' := 1) rfl rfl ?_
  refine E_if_lt rfl (by decide) (fun _ => ?_) (fun _ => ?_)
  · refine E_s (p' := 17) (st' := aI 0 :: _) rfl rfl ?_
    refine E_ret rfl rfl ?_
    refine E_s (p' := 31) rfl rfl ?_
    refine E_s (p' := 33) (st' := aI (-2) :: _) rfl rfl ?_
    refine E_ret rfl rfl ?_
    refine E_s (p' := 823) (st' := aA 124 :: _) rfl rfl ?_
    refine E_s (p' := 824) (st' := aA 0 :: _) rfl rfl ?_
    refine E_s (p' := 825) (st' := aI 0 :: _) rfl rfl ?_
    refine E_s (p' := 826) (st' := aI 1 :: _) rfl rfl ?_
    refine E_s (p' := 827) (st' := aI 1 :: _) rfl rfl ?_
    refine E_scr rfl rfl h1 ?_
    refine E_s (p' := 829) (st' := aA 0 :: _) rfl rfl ?_
    refine E_s (p' := 830) (st' := aI 0 :: _) rfl rfl ?_
    refine E_s (p' := 831) (st' := aI 2 :: _) rfl rfl ?_
    refine E_s (p' := 832) (st' := aI 2 :: _) rfl rfl ?_
    refine E_scr rfl rfl h2 ?_
    refine E_callL (p' := 836) (L0 := [some (aA 124), some (aI 3), some (aI a2), none, none]) rfl rfl rfl ?_
    refine E_s (p' := 1) (st' := aA 124 :: _) rfl rfl ?_
    refine E_s (p' := 2) (st' := aI 3 :: _) rfl rfl ?_
    refine E_s (p' := 3) rfl rfl ?_
    refine E_callL (p' := 6) (L0 := [some (aA 124), some (aI 3), some (aI a2)]) rfl rfl rfl ?_
    refine E_s (p' := 1) (st' := aI 3 :: _) rfl rfl ?_
    refine E_callL (p' := 4) (L0 := [some (aI 3)]) rfl rfl rfl ?_
    refine E_s (p' := 1) (st' := aI 3 :: _) rfl rfl ?_
    refine E_s (p' := 2) (st' := aI 0 :: _) rfl rfl ?_
    refine E_s (p' := 3) (st' := aI 3 :: _) rfl rfl ?_
    refine E_callL (p' := 6) (L0 := [some (aI 3), some (aI 0), some (aI 3)]) rfl rfl rfl ?_
    refine E_s (p' := 1) (st' := aI 3 :: _) rfl rfl ?_
    refine E_s (p' := 2) (st' := aI 0 :: _) rfl rfl ?_
    refine E_s (p' := 5) rfl rfl ?_
    refine E_s (p' := 6) (st' := aI 3 :: _) rfl rfl ?_
    refine E_s (p' := 7) (st' := aI 3 :: _) rfl rfl ?_
    refine E_s (p' := 10) rfl rfl ?_
    refine E_s (p' := 11) (st' := aI 1 :: _) rfl rfl ?_
    refine E_s (p' := 15) rfl rfl ?_
    refine E_ret rfl rfl ?_
    refine E_ret rfl rfl ?_
    refine E_s (p' := 7) rfl rfl ?_
    refine E_s (p' := 8) rfl rfl ?_
    refine E_s (p' := 9) (st' := aI 0 :: _) rfl rfl ?_
    refine E_s (p' := 10) (st' := aA 124 :: _) rfl rfl ?_
    refine E_s (p' := 13) (st' := aA 125 :: _) rfl rfl ?_
    refine E_s (p' := 14) (st' := aI 3 :: _) rfl rfl ?_
    refine E_s (p' := 15) (st' := aI 0 :: _) rfl rfl ?_
    refine E_s (p' := 16) (st' := aI 1 :: _) rfl rfl ?_
    refine E_isubv (v := -1) rfl (show (0 : Int) - 1 = -1 from rfl) (by decide) ?_
    refine E_callL (p' := 20) (L0 := [some (aI a2), some (aI 0), some (aI (-1))]) rfl rfl rfl ?_
    refine E_s (p' := 1) rfl rfl ?_
    refine E_s (p' := 2) (st' := aI 0 :: _) rfl rfl ?_
    refine E_icmp_lt (y := 0) rfl (by decide) (fun _ => ?_) (fun q => absurd q (by omega))
    refine E_s (p' := 15) (st' := aI 0 :: _) rfl rfl ?_
    refine E_ret rfl rfl ?_
    refine E_s (p' := 27) rfl rfl ?_
    refine E_s (p' := 28) (st' := aI 0 :: _) rfl rfl ?_
    refine E_ret rfl rfl ?_
    refine E_s (p' := 18) rfl rfl ?_
    refine E_s (p' := 20) (st' := aI (-2) :: _) rfl rfl ?_
    refine E_ret rfl rfl ?_
    refine E_s (p' := 1174) rfl rfl ?_
    refine E_s (p' := 1177) (L' := [some (aA 0), some (aA 1), some (aA 124), some (aI 6)]) rfl rfl ?_
    refine E_s (p' := 18) rfl rfl ?_
    refine E_s (p' := 19) (st' := aI 6 :: _) rfl rfl ?_
    refine E_s (p' := 20) (st' := aA 0 :: _) rfl rfl ?_
    refine E_s (p' := 21) (st' := aI 6 :: _) rfl rfl ?_
    refine E_s (p' := 23) (st' := aI 6 :: _) rfl rfl ?_
    refine E_s (p' := 24) (st' := aI 0 :: _) rfl rfl ?_
    refine E_s (p' := 1180) rfl rfl ?_
    refine E_s (p' := 1181) (st' := aI 1 :: _) rfl rfl ?_
    exact E_ret rfl rfl ⟨rfl, rfl⟩
  · refine E_s (p' := 5) rfl rfl ?_
    refine E_s (p' := 6) (st' := aA 99 :: _) rfl rfl ?_
    refine E_s (p' := 9) (st' := aI 0 :: _) rfl rfl ?_
    refine E_icmp_ge (y := 0) rfl (by decide) (fun _ => ?_) (fun q => absurd q (by omega))
    refine E_s (p' := 17) (st' := aI 0 :: _) rfl rfl ?_
    refine E_ret rfl rfl ?_
    refine E_s (p' := 31) rfl rfl ?_
    refine E_s (p' := 33) (st' := aI (-2) :: _) rfl rfl ?_
    refine E_ret rfl rfl ?_
    refine E_s (p' := 823) (st' := aA 124 :: _) rfl rfl ?_
    refine E_s (p' := 824) (st' := aA 0 :: _) rfl rfl ?_
    refine E_s (p' := 825) (st' := aI 0 :: _) rfl rfl ?_
    refine E_s (p' := 826) (st' := aI 1 :: _) rfl rfl ?_
    refine E_s (p' := 827) (st' := aI 1 :: _) rfl rfl ?_
    refine E_scr rfl rfl h1 ?_
    refine E_s (p' := 829) (st' := aA 0 :: _) rfl rfl ?_
    refine E_s (p' := 830) (st' := aI 0 :: _) rfl rfl ?_
    refine E_s (p' := 831) (st' := aI 2 :: _) rfl rfl ?_
    refine E_s (p' := 832) (st' := aI 2 :: _) rfl rfl ?_
    refine E_scr rfl rfl h2 ?_
    refine E_callL (p' := 836) (L0 := [some (aA 124), some (aI 3), some (aI a2), none, none]) rfl rfl rfl ?_
    refine E_s (p' := 1) (st' := aA 124 :: _) rfl rfl ?_
    refine E_s (p' := 2) (st' := aI 3 :: _) rfl rfl ?_
    refine E_s (p' := 3) rfl rfl ?_
    refine E_callL (p' := 6) (L0 := [some (aA 124), some (aI 3), some (aI a2)]) rfl rfl rfl ?_
    refine E_s (p' := 1) (st' := aI 3 :: _) rfl rfl ?_
    refine E_callL (p' := 4) (L0 := [some (aI 3)]) rfl rfl rfl ?_
    refine E_s (p' := 1) (st' := aI 3 :: _) rfl rfl ?_
    refine E_s (p' := 2) (st' := aI 0 :: _) rfl rfl ?_
    refine E_s (p' := 3) (st' := aI 3 :: _) rfl rfl ?_
    refine E_callL (p' := 6) (L0 := [some (aI 3), some (aI 0), some (aI 3)]) rfl rfl rfl ?_
    refine E_s (p' := 1) (st' := aI 3 :: _) rfl rfl ?_
    refine E_s (p' := 2) (st' := aI 0 :: _) rfl rfl ?_
    refine E_s (p' := 5) rfl rfl ?_
    refine E_s (p' := 6) (st' := aI 3 :: _) rfl rfl ?_
    refine E_s (p' := 7) (st' := aI 3 :: _) rfl rfl ?_
    refine E_s (p' := 10) rfl rfl ?_
    refine E_s (p' := 11) (st' := aI 1 :: _) rfl rfl ?_
    refine E_s (p' := 15) rfl rfl ?_
    refine E_ret rfl rfl ?_
    refine E_ret rfl rfl ?_
    refine E_s (p' := 7) rfl rfl ?_
    refine E_s (p' := 8) rfl rfl ?_
    refine E_s (p' := 9) (st' := aI 0 :: _) rfl rfl ?_
    refine E_s (p' := 10) (st' := aA 124 :: _) rfl rfl ?_
    refine E_s (p' := 13) (st' := aA 125 :: _) rfl rfl ?_
    refine E_s (p' := 14) (st' := aI 3 :: _) rfl rfl ?_
    refine E_s (p' := 15) (st' := aI 0 :: _) rfl rfl ?_
    refine E_s (p' := 16) (st' := aI 1 :: _) rfl rfl ?_
    refine E_isubv (v := -1) rfl (show (0 : Int) - 1 = -1 from rfl) (by decide) ?_
    refine E_callL (p' := 20) (L0 := [some (aI a2), some (aI 0), some (aI (-1))]) rfl rfl rfl ?_
    refine E_s (p' := 1) rfl rfl ?_
    refine E_s (p' := 2) (st' := aI 0 :: _) rfl rfl ?_
    refine E_icmp_lt (y := 0) rfl (by decide) (fun q => absurd q (by omega)) (fun _ => ?_)
    refine E_s (p' := 6) rfl rfl ?_
    refine E_s (p' := 7) (st' := aI (-1) :: _) rfl rfl ?_
    refine E_icmp_gt (y := (-1)) rfl (by decide) (fun _ => ?_) (fun q => absurd q (by omega))
    refine E_s (p' := 15) (st' := aI 0 :: _) rfl rfl ?_
    refine E_ret rfl rfl ?_
    refine E_s (p' := 27) rfl rfl ?_
    refine E_s (p' := 28) (st' := aI 0 :: _) rfl rfl ?_
    refine E_ret rfl rfl ?_
    refine E_s (p' := 18) rfl rfl ?_
    refine E_s (p' := 20) (st' := aI (-2) :: _) rfl rfl ?_
    refine E_ret rfl rfl ?_
    refine E_s (p' := 1174) rfl rfl ?_
    refine E_s (p' := 1177) (L' := [some (aA 0), some (aA 1), some (aA 124), some (aI 6)]) rfl rfl ?_
    refine E_s (p' := 18) rfl rfl ?_
    refine E_s (p' := 19) (st' := aI 6 :: _) rfl rfl ?_
    refine E_s (p' := 20) (st' := aA 0 :: _) rfl rfl ?_
    refine E_s (p' := 21) (st' := aI 6 :: _) rfl rfl ?_
    refine E_s (p' := 23) (st' := aI 6 :: _) rfl rfl ?_
    refine E_s (p' := 24) (st' := aI 0 :: _) rfl rfl ?_
    refine E_s (p' := 1180) rfl rfl ?_
    refine E_s (p' := 1181) (st' := aI 1 :: _) rfl rfl ?_
    exact E_ret rfl rfl ⟨rfl, rfl⟩
set_option maxRecDepth 100000 in
set_option maxHeartbeats 40000000 in
theorem pc_16_o (xs : Nat → Int) {z a1 a2 a3 a4 a5 : Int} (hz : b32 (fun a b => a &&& b) z 31 = 16) (h0 : xs 0 = z) (h1 : xs 1 = a1) (h2 : xs 2 = a2) (h3 : xs 3 = a3) (h4 : xs 4 = a4) (h5 : xs 5 = a5) (hr : a1 < 0 ∨ 3 < a1) : E 0 18 LL [] (s0 xs 6) PQ := by
  refine E_s (p' := 19) (st' := aI 0 :: _) rfl rfl ?_
  refine E_s (p' := 20) (st' := aA 0 :: _) rfl rfl ?_
  refine E_s (p' := 21) (st' := aI 6 :: _) rfl rfl ?_
  refine E_s (p' := 23) (st' := aI 6 :: _) rfl rfl ?_
  refine E_s (p' := 24) (st' := aI 0 :: _) rfl rfl ?_
  refine E_s (p' := 27) rfl rfl ?_
  refine E_s (p' := 28) (st' := aA 0 :: _) rfl rfl ?_
  refine E_s (p' := 29) (st' := aI 0 :: _) rfl rfl ?_
  refine E_scr rfl rfl h0 ?_
  refine E_s (p' := 32) (st' := aI 31 :: _) rfl rfl ?_
  refine E_s (p' := 33) rfl rfl ?_
  refine E_val hz ?_
  refine E_s (p' := 808) rfl rfl ?_
  refine E_s (p' := 809) (st' := aA 1 :: _) rfl rfl ?_
  refine E_s (p' := 810) (st' := aA 0 :: _) rfl rfl ?_
  refine E_s (p' := 811) (st' := aI 0 :: _) rfl rfl ?_
  refine E_s (p' := 812) (st' := aI 1 :: _) rfl rfl ?_
  refine E_s (p' := 813) (st' := aI 1 :: _) rfl rfl ?_
  refine E_scr rfl rfl h1 ?_
  refine E_s (p' := 815) (st' := aA 0 :: _) rfl rfl ?_
  refine E_s (p' := 816) (st' := aI 0 :: _) rfl rfl ?_
  refine E_s (p' := 817) (st' := aI 2 :: _) rfl rfl ?_
  refine E_s (p' := 818) (st' := aI 2 :: _) rfl rfl ?_
  refine E_scr rfl rfl h2 ?_
  refine E_callL (p' := 822) (L0 := [some (aA 1), some (aI a1), some (aI a2), none, none]) rfl rfl rfl ?_
  refine E_s (p' := 1) (st' := aA 1 :: _) rfl rfl ?_
  refine E_s (p' := 2) rfl rfl ?_
  refine E_callL (p' := 5) (L0 := [some (aA 1), some (aI a1)]) rfl rfl rfl ?_
  refine E_s (p' := 1) rfl rfl ?_
  refine E_if_lt rfl (by decide) (fun _ => ?_) (fun _ => ?_)
  · refine E_s (p' := 19) rfl rfl ?_
    refine E_ret rfl rfl ?_
    refine E_s (p' := 6) (L' := [some (aA 1), some (aI a1), some (aI a2), some aN, none]) rfl rfl ?_
    refine E_s (p' := 7) rfl rfl ?_
    refine E_s (p' := 31) rfl rfl ?_
    refine E_s (p' := 33) (st' := aI (-2) :: _) rfl rfl ?_
    refine E_ret rfl rfl ?_
    refine E_s (p' := 823) (st' := aA 124 :: _) rfl rfl ?_
    refine E_s (p' := 824) (st' := aA 0 :: _) rfl rfl ?_
    refine E_s (p' := 825) (st' := aI 0 :: _) rfl rfl ?_
    refine E_s (p' := 826) (st' := aI 1 :: _) rfl rfl ?_
    refine E_s (p' := 827) (st' := aI 1 :: _) rfl rfl ?_
    refine E_scr rfl rfl h1 ?_
    refine E_s (p' := 829) (st' := aA 0 :: _) rfl rfl ?_
    refine E_s (p' := 830) (st' := aI 0 :: _) rfl rfl ?_
    refine E_s (p' := 831) (st' := aI 2 :: _) rfl rfl ?_
    refine E_s (p' := 832) (st' := aI 2 :: _) rfl rfl ?_
    refine E_scr rfl rfl h2 ?_
    refine E_callL (p' := 836) (L0 := [some (aA 124), some (aI a1), some (aI a2), none, none]) rfl rfl rfl ?_
    refine E_s (p' := 1) (st' := aA 124 :: _) rfl rfl ?_
    refine E_s (p' := 2) rfl rfl ?_
    refine E_s (p' := 3) rfl rfl ?_
    refine E_callL (p' := 6) (L0 := [some (aA 124), some (aI a1), some (aI a2)]) rfl rfl rfl ?_
    refine E_s (p' := 1) rfl rfl ?_
    refine E_callL (p' := 4) (L0 := [some (aI a1)]) rfl rfl rfl ?_
    refine E_s (p' := 1) rfl rfl ?_
    refine E_s (p' := 2) (st' := aI 0 :: _) rfl rfl ?_
    refine E_s (p' := 3) (st' := aI 3 :: _) rfl rfl ?_
    refine E_callL (p' := 6) (L0 := [some (aI a1), some (aI 0), some (aI 3)]) rfl rfl rfl ?_
    refine E_s (p' := 1) rfl rfl ?_
    refine E_s (p' := 2) (st' := aI 0 :: _) rfl rfl ?_
    refine E_icmp_lt (y := 0) rfl (by decide) (fun _ => ?_) (fun q => absurd q (by omega))
    refine E_s (p' := 15) (st' := aI 0 :: _) rfl rfl ?_
    refine E_ret rfl rfl ?_
    refine E_ret rfl rfl ?_
    refine E_s (p' := 27) rfl rfl ?_
    refine E_s (p' := 28) (st' := aI 0 :: _) rfl rfl ?_
    refine E_ret rfl rfl ?_
    refine E_s (p' := 18) rfl rfl ?_
    refine E_s (p' := 20) (st' := aI (-2) :: _) rfl rfl ?_
    refine E_ret rfl rfl ?_
    refine E_s (p' := 1174) rfl rfl ?_
    refine E_s (p' := 1177) (L' := [some (aA 0), some (aA 1), some (aA 124), some (aI 6)]) rfl rfl ?_
    refine E_s (p' := 18) rfl rfl ?_
    refine E_s (p' := 19) (st' := aI 6 :: _) rfl rfl ?_
    refine E_s (p' := 20) (st' := aA 0 :: _) rfl rfl ?_
    refine E_s (p' := 21) (st' := aI 6 :: _) rfl rfl ?_
    refine E_s (p' := 23) (st' := aI 6 :: _) rfl rfl ?_
    refine E_s (p' := 24) (st' := aI 0 :: _) rfl rfl ?_
    refine E_s (p' := 1180) rfl rfl ?_
    refine E_s (p' := 1181) (st' := aI 1 :: _) rfl rfl ?_
    exact E_ret rfl rfl ⟨rfl, rfl⟩
  · refine E_s (p' := 5) rfl rfl ?_
    refine E_s (p' := 6) (st' := aI 4 :: _) rfl rfl ?_
    refine E_icmp_ge (y := 4) rfl (by decide) (fun _ => ?_) (fun q => absurd q (by omega))
    refine E_s (p' := 19) rfl rfl ?_
    refine E_ret rfl rfl ?_
    refine E_s (p' := 6) (L' := [some (aA 1), some (aI a1), some (aI a2), some aN, none]) rfl rfl ?_
    refine E_s (p' := 7) rfl rfl ?_
    refine E_s (p' := 31) rfl rfl ?_
    refine E_s (p' := 33) (st' := aI (-2) :: _) rfl rfl ?_
    refine E_ret rfl rfl ?_
    refine E_s (p' := 823) (st' := aA 124 :: _) rfl rfl ?_
    refine E_s (p' := 824) (st' := aA 0 :: _) rfl rfl ?_
    refine E_s (p' := 825) (st' := aI 0 :: _) rfl rfl ?_
    refine E_s (p' := 826) (st' := aI 1 :: _) rfl rfl ?_
    refine E_s (p' := 827) (st' := aI 1 :: _) rfl rfl ?_
    refine E_scr rfl rfl h1 ?_
    refine E_s (p' := 829) (st' := aA 0 :: _) rfl rfl ?_
    refine E_s (p' := 830) (st' := aI 0 :: _) rfl rfl ?_
    refine E_s (p' := 831) (st' := aI 2 :: _) rfl rfl ?_
    refine E_s (p' := 832) (st' := aI 2 :: _) rfl rfl ?_
    refine E_scr rfl rfl h2 ?_
    refine E_callL (p' := 836) (L0 := [some (aA 124), some (aI a1), some (aI a2), none, none]) rfl rfl rfl ?_
    refine E_s (p' := 1) (st' := aA 124 :: _) rfl rfl ?_
    refine E_s (p' := 2) rfl rfl ?_
    refine E_s (p' := 3) rfl rfl ?_
    refine E_callL (p' := 6) (L0 := [some (aA 124), some (aI a1), some (aI a2)]) rfl rfl rfl ?_
    refine E_s (p' := 1) rfl rfl ?_
    refine E_callL (p' := 4) (L0 := [some (aI a1)]) rfl rfl rfl ?_
    refine E_s (p' := 1) rfl rfl ?_
    refine E_s (p' := 2) (st' := aI 0 :: _) rfl rfl ?_
    refine E_s (p' := 3) (st' := aI 3 :: _) rfl rfl ?_
    refine E_callL (p' := 6) (L0 := [some (aI a1), some (aI 0), some (aI 3)]) rfl rfl rfl ?_
    refine E_s (p' := 1) rfl rfl ?_
    refine E_s (p' := 2) (st' := aI 0 :: _) rfl rfl ?_
    refine E_icmp_lt (y := 0) rfl (by decide) (fun q => absurd q (by omega)) (fun _ => ?_)
    refine E_s (p' := 6) rfl rfl ?_
    refine E_s (p' := 7) (st' := aI 3 :: _) rfl rfl ?_
    refine E_icmp_gt (y := 3) rfl (by decide) (fun _ => ?_) (fun q => absurd q (by omega))
    refine E_s (p' := 15) (st' := aI 0 :: _) rfl rfl ?_
    refine E_ret rfl rfl ?_
    refine E_ret rfl rfl ?_
    refine E_s (p' := 27) rfl rfl ?_
    refine E_s (p' := 28) (st' := aI 0 :: _) rfl rfl ?_
    refine E_ret rfl rfl ?_
    refine E_s (p' := 18) rfl rfl ?_
    refine E_s (p' := 20) (st' := aI (-2) :: _) rfl rfl ?_
    refine E_ret rfl rfl ?_
    refine E_s (p' := 1174) rfl rfl ?_
    refine E_s (p' := 1177) (L' := [some (aA 0), some (aA 1), some (aA 124), some (aI 6)]) rfl rfl ?_
    refine E_s (p' := 18) rfl rfl ?_
    refine E_s (p' := 19) (st' := aI 6 :: _) rfl rfl ?_
    refine E_s (p' := 20) (st' := aA 0 :: _) rfl rfl ?_
    refine E_s (p' := 21) (st' := aI 6 :: _) rfl rfl ?_
    refine E_s (p' := 23) (st' := aI 6 :: _) rfl rfl ?_
    refine E_s (p' := 24) (st' := aI 0 :: _) rfl rfl ?_
    refine E_s (p' := 1180) rfl rfl ?_
    refine E_s (p' := 1181) (st' := aI 1 :: _) rfl rfl ?_
    exact E_ret rfl rfl ⟨rfl, rfl⟩
set_option maxRecDepth 100000 in
set_option maxHeartbeats 40000000 in
theorem pc_17_0 (xs : Nat → Int) {z a2 a3 a4 a5 : Int} (hz : b32 (fun a b => a &&& b) z 31 = 17) (h0 : xs 0 = z) (h1 : xs 1 = 0) (h2 : xs 2 = a2) (h3 : xs 3 = a3) (h4 : xs 4 = a4) (h5 : xs 5 = a5) : E 0 18 LL [] (s0 xs 6) PQ := by
  refine E_s (p' := 19) (st' := aI 0 :: _) rfl rfl ?_
  refine E_s (p' := 20) (st' := aA 0 :: _) rfl rfl ?_
  refine E_s (p' := 21) (st' := aI 6 :: _) rfl rfl ?_
  refine E_s (p' := 23) (st' := aI 6 :: _) rfl rfl ?_
  refine E_s (p' := 24) (st' := aI 0 :: _) rfl rfl ?_
  refine E_s (p' := 27) rfl rfl ?_
  refine E_s (p' := 28) (st' := aA 0 :: _) rfl rfl ?_
  refine E_s (p' := 29) (st' := aI 0 :: _) rfl rfl ?_
  refine E_scr rfl rfl h0 ?_
  refine E_s (p' := 32) (st' := aI 31 :: _) rfl rfl ?_
  refine E_s (p' := 33) rfl rfl ?_
  refine E_val hz ?_
  refine E_s (p' := 841) rfl rfl ?_
  refine E_s (p' := 842) (st' := aA 1 :: _) rfl rfl ?_
  refine E_s (p' := 843) (st' := aA 0 :: _) rfl rfl ?_
  refine E_s (p' := 844) (st' := aI 0 :: _) rfl rfl ?_
  refine E_s (p' := 845) (st' := aI 1 :: _) rfl rfl ?_
  refine E_s (p' := 846) (st' := aI 1 :: _) rfl rfl ?_
  refine E_scr rfl rfl h1 ?_
  refine E_callL (p' := 850) (L0 := [some (aA 1), some (aI 0), none]) rfl rfl rfl ?_
  refine E_s (p' := 1) (st' := aA 1 :: _) rfl rfl ?_
  refine E_s (p' := 2) (st' := aI 0 :: _) rfl rfl ?_
  refine E_callL (p' := 5) (L0 := [some (aA 1), some (aI 0)]) rfl rfl rfl ?_
  refine E_s (p' := 1) (st' := aI 0 :: _) rfl rfl ?_
  refine E_s (p' := 4) rfl rfl ?_
  refine E_s (p' := 5) (st' := aI 0 :: _) rfl rfl ?_
  refine E_s (p' := 6) (st' := aI 4 :: _) rfl rfl ?_
  refine E_s (p' := 9) rfl rfl ?_
  refine E_s (p' := 10) (st' := aA 1 :: _) rfl rfl ?_
  refine E_s (p' := 13) (st' := aA 2 :: _) rfl rfl ?_
  refine E_s (p' := 14) (st' := aI 0 :: _) rfl rfl ?_
  refine E_s (p' := 15) (st' := aA 20 :: _) rfl rfl ?_
  refine E_s (p' := 19) rfl rfl ?_
  refine E_ret rfl rfl ?_
  refine E_s (p' := 6) (L' := [some (aA 1), some (aI 0), some (aA 20)]) rfl rfl ?_
  refine E_s (p' := 7) (st' := aA 20 :: _) rfl rfl ?_
  refine E_s (p' := 13) rfl rfl ?_
  refine E_s (p' := 14) (st' := aA 20 :: _) rfl rfl ?_
  refine E_s (p' := 17) (st' := aA 29 :: _) rfl rfl ?_
  refine E_s (p' := 20) (st' := aI 0 :: _) rfl rfl ?_
  refine E_s (p' := 23) rfl rfl ?_
  refine E_s (p' := 24) (st' := aI (-1) :: _) rfl rfl ?_
  refine E_ret rfl rfl ?_
  refine E_s (p' := 851) (st' := aA 124 :: _) rfl rfl ?_
  refine E_s (p' := 852) (st' := aA 0 :: _) rfl rfl ?_
  refine E_s (p' := 853) (st' := aI 0 :: _) rfl rfl ?_
  refine E_s (p' := 854) (st' := aI 1 :: _) rfl rfl ?_
  refine E_s (p' := 855) (st' := aI 1 :: _) rfl rfl ?_
  refine E_scr rfl rfl h1 ?_
  refine E_callL (p' := 859) (L0 := [some (aA 124), some (aI 0)]) rfl rfl rfl ?_
  refine E_s (p' := 1) (st' := aI 0 :: _) rfl rfl ?_
  refine E_callL (p' := 4) (L0 := [some (aI 0)]) rfl rfl rfl ?_
  refine E_s (p' := 1) (st' := aI 0 :: _) rfl rfl ?_
  refine E_s (p' := 2) (st' := aI 0 :: _) rfl rfl ?_
  refine E_s (p' := 3) (st' := aI 3 :: _) rfl rfl ?_
  refine E_callL (p' := 6) (L0 := [some (aI 0), some (aI 0), some (aI 3)]) rfl rfl rfl ?_
  refine E_s (p' := 1) (st' := aI 0 :: _) rfl rfl ?_
  refine E_s (p' := 2) (st' := aI 0 :: _) rfl rfl ?_
  refine E_s (p' := 5) rfl rfl ?_
  refine E_s (p' := 6) (st' := aI 0 :: _) rfl rfl ?_
  refine E_s (p' := 7) (st' := aI 3 :: _) rfl rfl ?_
  refine E_s (p' := 10) rfl rfl ?_
  refine E_s (p' := 11) (st' := aI 1 :: _) rfl rfl ?_
  refine E_s (p' := 15) rfl rfl ?_
  refine E_ret rfl rfl ?_
  refine E_ret rfl rfl ?_
  refine E_s (p' := 10) rfl rfl ?_
  refine E_s (p' := 11) (st' := aA 124 :: _) rfl rfl ?_
  refine E_s (p' := 14) (st' := aA 136 :: _) rfl rfl ?_
  refine E_s (p' := 15) (st' := aI 0 :: _) rfl rfl ?_
  refine E_s (p' := 16) (st' := aI 0 :: _) rfl rfl ?_
  refine E_s (p' := 19) rfl rfl ?_
  refine E_s (p' := 20) (st' := aI (-1) :: _) rfl rfl ?_
  refine E_ret rfl rfl ?_
  refine E_s (p' := 1174) rfl rfl ?_
  refine E_s (p' := 1177) (L' := [some (aA 0), some (aA 1), some (aA 124), some (aI 6)]) rfl rfl ?_
  refine E_s (p' := 18) rfl rfl ?_
  refine E_s (p' := 19) (st' := aI 6 :: _) rfl rfl ?_
  refine E_s (p' := 20) (st' := aA 0 :: _) rfl rfl ?_
  refine E_s (p' := 21) (st' := aI 6 :: _) rfl rfl ?_
  refine E_s (p' := 23) (st' := aI 6 :: _) rfl rfl ?_
  refine E_s (p' := 24) (st' := aI 0 :: _) rfl rfl ?_
  refine E_s (p' := 1180) rfl rfl ?_
  refine E_s (p' := 1181) (st' := aI 1 :: _) rfl rfl ?_
  exact E_ret rfl rfl ⟨rfl, rfl⟩
set_option maxRecDepth 100000 in
set_option maxHeartbeats 40000000 in
theorem pc_17_1 (xs : Nat → Int) {z a2 a3 a4 a5 : Int} (hz : b32 (fun a b => a &&& b) z 31 = 17) (h0 : xs 0 = z) (h1 : xs 1 = 1) (h2 : xs 2 = a2) (h3 : xs 3 = a3) (h4 : xs 4 = a4) (h5 : xs 5 = a5) : E 0 18 LL [] (s0 xs 6) PQ := by
  refine E_s (p' := 19) (st' := aI 0 :: _) rfl rfl ?_
  refine E_s (p' := 20) (st' := aA 0 :: _) rfl rfl ?_
  refine E_s (p' := 21) (st' := aI 6 :: _) rfl rfl ?_
  refine E_s (p' := 23) (st' := aI 6 :: _) rfl rfl ?_
  refine E_s (p' := 24) (st' := aI 0 :: _) rfl rfl ?_
  refine E_s (p' := 27) rfl rfl ?_
  refine E_s (p' := 28) (st' := aA 0 :: _) rfl rfl ?_
  refine E_s (p' := 29) (st' := aI 0 :: _) rfl rfl ?_
  refine E_scr rfl rfl h0 ?_
  refine E_s (p' := 32) (st' := aI 31 :: _) rfl rfl ?_
  refine E_s (p' := 33) rfl rfl ?_
  refine E_val hz ?_
  refine E_s (p' := 841) rfl rfl ?_
  refine E_s (p' := 842) (st' := aA 1 :: _) rfl rfl ?_
  refine E_s (p' := 843) (st' := aA 0 :: _) rfl rfl ?_
  refine E_s (p' := 844) (st' := aI 0 :: _) rfl rfl ?_
  refine E_s (p' := 845) (st' := aI 1 :: _) rfl rfl ?_
  refine E_s (p' := 846) (st' := aI 1 :: _) rfl rfl ?_
  refine E_scr rfl rfl h1 ?_
  refine E_callL (p' := 850) (L0 := [some (aA 1), some (aI 1), none]) rfl rfl rfl ?_
  refine E_s (p' := 1) (st' := aA 1 :: _) rfl rfl ?_
  refine E_s (p' := 2) (st' := aI 1 :: _) rfl rfl ?_
  refine E_callL (p' := 5) (L0 := [some (aA 1), some (aI 1)]) rfl rfl rfl ?_
  refine E_s (p' := 1) (st' := aI 1 :: _) rfl rfl ?_
  refine E_s (p' := 4) rfl rfl ?_
  refine E_s (p' := 5) (st' := aI 1 :: _) rfl rfl ?_
  refine E_s (p' := 6) (st' := aI 4 :: _) rfl rfl ?_
  refine E_s (p' := 9) rfl rfl ?_
  refine E_s (p' := 10) (st' := aA 1 :: _) rfl rfl ?_
  refine E_s (p' := 13) (st' := aA 2 :: _) rfl rfl ?_
  refine E_s (p' := 14) (st' := aI 1 :: _) rfl rfl ?_
  refine E_s (p' := 15) (st' := aA 46 :: _) rfl rfl ?_
  refine E_s (p' := 19) rfl rfl ?_
  refine E_ret rfl rfl ?_
  refine E_s (p' := 6) (L' := [some (aA 1), some (aI 1), some (aA 46)]) rfl rfl ?_
  refine E_s (p' := 7) (st' := aA 46 :: _) rfl rfl ?_
  refine E_s (p' := 13) rfl rfl ?_
  refine E_s (p' := 14) (st' := aA 46 :: _) rfl rfl ?_
  refine E_s (p' := 17) (st' := aA 55 :: _) rfl rfl ?_
  refine E_s (p' := 20) (st' := aI 0 :: _) rfl rfl ?_
  refine E_s (p' := 23) rfl rfl ?_
  refine E_s (p' := 24) (st' := aI (-1) :: _) rfl rfl ?_
  refine E_ret rfl rfl ?_
  refine E_s (p' := 851) (st' := aA 124 :: _) rfl rfl ?_
  refine E_s (p' := 852) (st' := aA 0 :: _) rfl rfl ?_
  refine E_s (p' := 853) (st' := aI 0 :: _) rfl rfl ?_
  refine E_s (p' := 854) (st' := aI 1 :: _) rfl rfl ?_
  refine E_s (p' := 855) (st' := aI 1 :: _) rfl rfl ?_
  refine E_scr rfl rfl h1 ?_
  refine E_callL (p' := 859) (L0 := [some (aA 124), some (aI 1)]) rfl rfl rfl ?_
  refine E_s (p' := 1) (st' := aI 1 :: _) rfl rfl ?_
  refine E_callL (p' := 4) (L0 := [some (aI 1)]) rfl rfl rfl ?_
  refine E_s (p' := 1) (st' := aI 1 :: _) rfl rfl ?_
  refine E_s (p' := 2) (st' := aI 0 :: _) rfl rfl ?_
  refine E_s (p' := 3) (st' := aI 3 :: _) rfl rfl ?_
  refine E_callL (p' := 6) (L0 := [some (aI 1), some (aI 0), some (aI 3)]) rfl rfl rfl ?_
  refine E_s (p' := 1) (st' := aI 1 :: _) rfl rfl ?_
  refine E_s (p' := 2) (st' := aI 0 :: _) rfl rfl ?_
  refine E_s (p' := 5) rfl rfl ?_
  refine E_s (p' := 6) (st' := aI 1 :: _) rfl rfl ?_
  refine E_s (p' := 7) (st' := aI 3 :: _) rfl rfl ?_
  refine E_s (p' := 10) rfl rfl ?_
  refine E_s (p' := 11) (st' := aI 1 :: _) rfl rfl ?_
  refine E_s (p' := 15) rfl rfl ?_
  refine E_ret rfl rfl ?_
  refine E_ret rfl rfl ?_
  refine E_s (p' := 10) rfl rfl ?_
  refine E_s (p' := 11) (st' := aA 124 :: _) rfl rfl ?_
  refine E_s (p' := 14) (st' := aA 136 :: _) rfl rfl ?_
  refine E_s (p' := 15) (st' := aI 1 :: _) rfl rfl ?_
  refine E_s (p' := 16) (st' := aI 0 :: _) rfl rfl ?_
  refine E_s (p' := 19) rfl rfl ?_
  refine E_s (p' := 20) (st' := aI (-1) :: _) rfl rfl ?_
  refine E_ret rfl rfl ?_
  refine E_s (p' := 1174) rfl rfl ?_
  refine E_s (p' := 1177) (L' := [some (aA 0), some (aA 1), some (aA 124), some (aI 6)]) rfl rfl ?_
  refine E_s (p' := 18) rfl rfl ?_
  refine E_s (p' := 19) (st' := aI 6 :: _) rfl rfl ?_
  refine E_s (p' := 20) (st' := aA 0 :: _) rfl rfl ?_
  refine E_s (p' := 21) (st' := aI 6 :: _) rfl rfl ?_
  refine E_s (p' := 23) (st' := aI 6 :: _) rfl rfl ?_
  refine E_s (p' := 24) (st' := aI 0 :: _) rfl rfl ?_
  refine E_s (p' := 1180) rfl rfl ?_
  refine E_s (p' := 1181) (st' := aI 1 :: _) rfl rfl ?_
  exact E_ret rfl rfl ⟨rfl, rfl⟩
set_option maxRecDepth 100000 in
set_option maxHeartbeats 40000000 in
theorem pc_17_2 (xs : Nat → Int) {z a2 a3 a4 a5 : Int} (hz : b32 (fun a b => a &&& b) z 31 = 17) (h0 : xs 0 = z) (h1 : xs 1 = 2) (h2 : xs 2 = a2) (h3 : xs 3 = a3) (h4 : xs 4 = a4) (h5 : xs 5 = a5) : E 0 18 LL [] (s0 xs 6) PQ := by
  refine E_s (p' := 19) (st' := aI 0 :: _) rfl rfl ?_
  refine E_s (p' := 20) (st' := aA 0 :: _) rfl rfl ?_
  refine E_s (p' := 21) (st' := aI 6 :: _) rfl rfl ?_
  refine E_s (p' := 23) (st' := aI 6 :: _) rfl rfl ?_
  refine E_s (p' := 24) (st' := aI 0 :: _) rfl rfl ?_
  refine E_s (p' := 27) rfl rfl ?_
  refine E_s (p' := 28) (st' := aA 0 :: _) rfl rfl ?_
  refine E_s (p' := 29) (st' := aI 0 :: _) rfl rfl ?_
  refine E_scr rfl rfl h0 ?_
  refine E_s (p' := 32) (st' := aI 31 :: _) rfl rfl ?_
  refine E_s (p' := 33) rfl rfl ?_
  refine E_val hz ?_
  refine E_s (p' := 841) rfl rfl ?_
  refine E_s (p' := 842) (st' := aA 1 :: _) rfl rfl ?_
  refine E_s (p' := 843) (st' := aA 0 :: _) rfl rfl ?_
  refine E_s (p' := 844) (st' := aI 0 :: _) rfl rfl ?_
  refine E_s (p' := 845) (st' := aI 1 :: _) rfl rfl ?_
  refine E_s (p' := 846) (st' := aI 1 :: _) rfl rfl ?_
  refine E_scr rfl rfl h1 ?_
  refine E_callL (p' := 850) (L0 := [some (aA 1), some (aI 2), none]) rfl rfl rfl ?_
  refine E_s (p' := 1) (st' := aA 1 :: _) rfl rfl ?_
  refine E_s (p' := 2) (st' := aI 2 :: _) rfl rfl ?_
  refine E_callL (p' := 5) (L0 := [some (aA 1), some (aI 2)]) rfl rfl rfl ?_
  refine E_s (p' := 1) (st' := aI 2 :: _) rfl rfl ?_
  refine E_s (p' := 4) rfl rfl ?_
  refine E_s (p' := 5) (st' := aI 2 :: _) rfl rfl ?_
  refine E_s (p' := 6) (st' := aI 4 :: _) rfl rfl ?_
  refine E_s (p' := 9) rfl rfl ?_
  refine E_s (p' := 10) (st' := aA 1 :: _) rfl rfl ?_
  refine E_s (p' := 13) (st' := aA 2 :: _) rfl rfl ?_
  refine E_s (p' := 14) (st' := aI 2 :: _) rfl rfl ?_
  refine E_s (p' := 15) (st' := aA 72 :: _) rfl rfl ?_
  refine E_s (p' := 19) rfl rfl ?_
  refine E_ret rfl rfl ?_
  refine E_s (p' := 6) (L' := [some (aA 1), some (aI 2), some (aA 72)]) rfl rfl ?_
  refine E_s (p' := 7) (st' := aA 72 :: _) rfl rfl ?_
  refine E_s (p' := 13) rfl rfl ?_
  refine E_s (p' := 14) (st' := aA 72 :: _) rfl rfl ?_
  refine E_s (p' := 17) (st' := aA 81 :: _) rfl rfl ?_
  refine E_s (p' := 20) (st' := aI 0 :: _) rfl rfl ?_
  refine E_s (p' := 23) rfl rfl ?_
  refine E_s (p' := 24) (st' := aI (-1) :: _) rfl rfl ?_
  refine E_ret rfl rfl ?_
  refine E_s (p' := 851) (st' := aA 124 :: _) rfl rfl ?_
  refine E_s (p' := 852) (st' := aA 0 :: _) rfl rfl ?_
  refine E_s (p' := 853) (st' := aI 0 :: _) rfl rfl ?_
  refine E_s (p' := 854) (st' := aI 1 :: _) rfl rfl ?_
  refine E_s (p' := 855) (st' := aI 1 :: _) rfl rfl ?_
  refine E_scr rfl rfl h1 ?_
  refine E_callL (p' := 859) (L0 := [some (aA 124), some (aI 2)]) rfl rfl rfl ?_
  refine E_s (p' := 1) (st' := aI 2 :: _) rfl rfl ?_
  refine E_callL (p' := 4) (L0 := [some (aI 2)]) rfl rfl rfl ?_
  refine E_s (p' := 1) (st' := aI 2 :: _) rfl rfl ?_
  refine E_s (p' := 2) (st' := aI 0 :: _) rfl rfl ?_
  refine E_s (p' := 3) (st' := aI 3 :: _) rfl rfl ?_
  refine E_callL (p' := 6) (L0 := [some (aI 2), some (aI 0), some (aI 3)]) rfl rfl rfl ?_
  refine E_s (p' := 1) (st' := aI 2 :: _) rfl rfl ?_
  refine E_s (p' := 2) (st' := aI 0 :: _) rfl rfl ?_
  refine E_s (p' := 5) rfl rfl ?_
  refine E_s (p' := 6) (st' := aI 2 :: _) rfl rfl ?_
  refine E_s (p' := 7) (st' := aI 3 :: _) rfl rfl ?_
  refine E_s (p' := 10) rfl rfl ?_
  refine E_s (p' := 11) (st' := aI 1 :: _) rfl rfl ?_
  refine E_s (p' := 15) rfl rfl ?_
  refine E_ret rfl rfl ?_
  refine E_ret rfl rfl ?_
  refine E_s (p' := 10) rfl rfl ?_
  refine E_s (p' := 11) (st' := aA 124 :: _) rfl rfl ?_
  refine E_s (p' := 14) (st' := aA 136 :: _) rfl rfl ?_
  refine E_s (p' := 15) (st' := aI 2 :: _) rfl rfl ?_
  refine E_s (p' := 16) (st' := aI 0 :: _) rfl rfl ?_
  refine E_s (p' := 19) rfl rfl ?_
  refine E_s (p' := 20) (st' := aI (-1) :: _) rfl rfl ?_
  refine E_ret rfl rfl ?_
  refine E_s (p' := 1174) rfl rfl ?_
  refine E_s (p' := 1177) (L' := [some (aA 0), some (aA 1), some (aA 124), some (aI 6)]) rfl rfl ?_
  refine E_s (p' := 18) rfl rfl ?_
  refine E_s (p' := 19) (st' := aI 6 :: _) rfl rfl ?_
  refine E_s (p' := 20) (st' := aA 0 :: _) rfl rfl ?_
  refine E_s (p' := 21) (st' := aI 6 :: _) rfl rfl ?_
  refine E_s (p' := 23) (st' := aI 6 :: _) rfl rfl ?_
  refine E_s (p' := 24) (st' := aI 0 :: _) rfl rfl ?_
  refine E_s (p' := 1180) rfl rfl ?_
  refine E_s (p' := 1181) (st' := aI 1 :: _) rfl rfl ?_
  exact E_ret rfl rfl ⟨rfl, rfl⟩
set_option maxRecDepth 100000 in
set_option maxHeartbeats 40000000 in
theorem pc_17_3 (xs : Nat → Int) {z a2 a3 a4 a5 : Int} (hz : b32 (fun a b => a &&& b) z 31 = 17) (h0 : xs 0 = z) (h1 : xs 1 = 3) (h2 : xs 2 = a2) (h3 : xs 3 = a3) (h4 : xs 4 = a4) (h5 : xs 5 = a5) : E 0 18 LL [] (s0 xs 6) PQ := by
  refine E_s (p' := 19) (st' := aI 0 :: _) rfl rfl ?_
  refine E_s (p' := 20) (st' := aA 0 :: _) rfl rfl ?_
  refine E_s (p' := 21) (st' := aI 6 :: _) rfl rfl ?_
  refine E_s (p' := 23) (st' := aI 6 :: _) rfl rfl ?_
  refine E_s (p' := 24) (st' := aI 0 :: _) rfl rfl ?_
  refine E_s (p' := 27) rfl rfl ?_
  refine E_s (p' := 28) (st' := aA 0 :: _) rfl rfl ?_
  refine E_s (p' := 29) (st' := aI 0 :: _) rfl rfl ?_
  refine E_scr rfl rfl h0 ?_
  refine E_s (p' := 32) (st' := aI 31 :: _) rfl rfl ?_
  refine E_s (p' := 33) rfl rfl ?_
  refine E_val hz ?_
  refine E_s (p' := 841) rfl rfl ?_
  refine E_s (p' := 842) (st' := aA 1 :: _) rfl rfl ?_
  refine E_s (p' := 843) (st' := aA 0 :: _) rfl rfl ?_
  refine E_s (p' := 844) (st' := aI 0 :: _) rfl rfl ?_
  refine E_s (p' := 845) (st' := aI 1 :: _) rfl rfl ?_
  refine E_s (p' := 846) (st' := aI 1 :: _) rfl rfl ?_
  refine E_scr rfl rfl h1 ?_
  refine E_callL (p' := 850) (L0 := [some (aA 1), some (aI 3), none]) rfl rfl rfl ?_
  refine E_s (p' := 1) (st' := aA 1 :: _) rfl rfl ?_
  refine E_s (p' := 2) (st' := aI 3 :: _) rfl rfl ?_
  refine E_callL (p' := 5) (L0 := [some (aA 1), some (aI 3)]) rfl rfl rfl ?_
  refine E_s (p' := 1) (st' := aI 3 :: _) rfl rfl ?_
  refine E_s (p' := 4) rfl rfl ?_
  refine E_s (p' := 5) (st' := aI 3 :: _) rfl rfl ?_
  refine E_s (p' := 6) (st' := aI 4 :: _) rfl rfl ?_
  refine E_s (p' := 9) rfl rfl ?_
  refine E_s (p' := 10) (st' := aA 1 :: _) rfl rfl ?_
  refine E_s (p' := 13) (st' := aA 2 :: _) rfl rfl ?_
  refine E_s (p' := 14) (st' := aI 3 :: _) rfl rfl ?_
  refine E_s (p' := 15) (st' := aA 98 :: _) rfl rfl ?_
  refine E_s (p' := 19) rfl rfl ?_
  refine E_ret rfl rfl ?_
  refine E_s (p' := 6) (L' := [some (aA 1), some (aI 3), some (aA 98)]) rfl rfl ?_
  refine E_s (p' := 7) (st' := aA 98 :: _) rfl rfl ?_
  refine E_s (p' := 13) rfl rfl ?_
  refine E_s (p' := 14) (st' := aA 98 :: _) rfl rfl ?_
  refine E_s (p' := 17) (st' := aA 107 :: _) rfl rfl ?_
  refine E_s (p' := 20) (st' := aI 0 :: _) rfl rfl ?_
  refine E_s (p' := 23) rfl rfl ?_
  refine E_s (p' := 24) (st' := aI (-1) :: _) rfl rfl ?_
  refine E_ret rfl rfl ?_
  refine E_s (p' := 851) (st' := aA 124 :: _) rfl rfl ?_
  refine E_s (p' := 852) (st' := aA 0 :: _) rfl rfl ?_
  refine E_s (p' := 853) (st' := aI 0 :: _) rfl rfl ?_
  refine E_s (p' := 854) (st' := aI 1 :: _) rfl rfl ?_
  refine E_s (p' := 855) (st' := aI 1 :: _) rfl rfl ?_
  refine E_scr rfl rfl h1 ?_
  refine E_callL (p' := 859) (L0 := [some (aA 124), some (aI 3)]) rfl rfl rfl ?_
  refine E_s (p' := 1) (st' := aI 3 :: _) rfl rfl ?_
  refine E_callL (p' := 4) (L0 := [some (aI 3)]) rfl rfl rfl ?_
  refine E_s (p' := 1) (st' := aI 3 :: _) rfl rfl ?_
  refine E_s (p' := 2) (st' := aI 0 :: _) rfl rfl ?_
  refine E_s (p' := 3) (st' := aI 3 :: _) rfl rfl ?_
  refine E_callL (p' := 6) (L0 := [some (aI 3), some (aI 0), some (aI 3)]) rfl rfl rfl ?_
  refine E_s (p' := 1) (st' := aI 3 :: _) rfl rfl ?_
  refine E_s (p' := 2) (st' := aI 0 :: _) rfl rfl ?_
  refine E_s (p' := 5) rfl rfl ?_
  refine E_s (p' := 6) (st' := aI 3 :: _) rfl rfl ?_
  refine E_s (p' := 7) (st' := aI 3 :: _) rfl rfl ?_
  refine E_s (p' := 10) rfl rfl ?_
  refine E_s (p' := 11) (st' := aI 1 :: _) rfl rfl ?_
  refine E_s (p' := 15) rfl rfl ?_
  refine E_ret rfl rfl ?_
  refine E_ret rfl rfl ?_
  refine E_s (p' := 10) rfl rfl ?_
  refine E_s (p' := 11) (st' := aA 124 :: _) rfl rfl ?_
  refine E_s (p' := 14) (st' := aA 136 :: _) rfl rfl ?_
  refine E_s (p' := 15) (st' := aI 3 :: _) rfl rfl ?_
  refine E_s (p' := 16) (st' := aI 0 :: _) rfl rfl ?_
  refine E_s (p' := 19) rfl rfl ?_
  refine E_s (p' := 20) (st' := aI (-1) :: _) rfl rfl ?_
  refine E_ret rfl rfl ?_
  refine E_s (p' := 1174) rfl rfl ?_
  refine E_s (p' := 1177) (L' := [some (aA 0), some (aA 1), some (aA 124), some (aI 6)]) rfl rfl ?_
  refine E_s (p' := 18) rfl rfl ?_
  refine E_s (p' := 19) (st' := aI 6 :: _) rfl rfl ?_
  refine E_s (p' := 20) (st' := aA 0 :: _) rfl rfl ?_
  refine E_s (p' := 21) (st' := aI 6 :: _) rfl rfl ?_
  refine E_s (p' := 23) (st' := aI 6 :: _) rfl rfl ?_
  refine E_s (p' := 24) (st' := aI 0 :: _) rfl rfl ?_
  refine E_s (p' := 1180) rfl rfl ?_
  refine E_s (p' := 1181) (st' := aI 1 :: _) rfl rfl ?_
  exact E_ret rfl rfl ⟨rfl, rfl⟩
set_option maxRecDepth 100000 in
set_option maxHeartbeats 40000000 in
theorem pc_17_o (xs : Nat → Int) {z a1 a2 a3 a4 a5 : Int} (hz : b32 (fun a b => a &&& b) z 31 = 17) (h0 : xs 0 = z) (h1 : xs 1 = a1) (h2 : xs 2 = a2) (h3 : xs 3 = a3) (h4 : xs 4 = a4) (h5 : xs 5 = a5) (hr : a1 < 0 ∨ 3 < a1) : E 0 18 LL [] (s0 xs 6) PQ := by
  refine E_s (p' := 19) (st' := aI 0 :: _) rfl rfl ?_
  refine E_s (p' := 20) (st' := aA 0 :: _) rfl rfl ?_
  refine E_s (p' := 21) (st' := aI 6 :: _) rfl rfl ?_
  refine E_s (p' := 23) (st' := aI 6 :: _) rfl rfl ?_
  refine E_s (p' := 24) (st' := aI 0 :: _) rfl rfl ?_
  refine E_s (p' := 27) rfl rfl ?_
  refine E_s (p' := 28) (st' := aA 0 :: _) rfl rfl ?_
  refine E_s (p' := 29) (st' := aI 0 :: _) rfl rfl ?_
  refine E_scr rfl rfl h0 ?_
  refine E_s (p' := 32) (st' := aI 31 :: _) rfl rfl ?_
  refine E_s (p' := 33) rfl rfl ?_
  refine E_val hz ?_
  refine E_s (p' := 841) rfl rfl ?_
  refine E_s (p' := 842) (st' := aA 1 :: _) rfl rfl ?_
  refine E_s (p' := 843) (st' := aA 0 :: _) rfl rfl ?_
  refine E_s (p' := 844) (st' := aI 0 :: _) rfl rfl ?_
  refine E_s (p' := 845) (st' := aI 1 :: _) rfl rfl ?_
  refine E_s (p' := 846) (st' := aI 1 :: _) rfl rfl ?_
  refine E_scr rfl rfl h1 ?_
  refine E_callL (p' := 850) (L0 := [some (aA 1), some (aI a1), none]) rfl rfl rfl ?_
  refine E_s (p' := 1) (st' := aA 1 :: _) rfl rfl ?_
  refine E_s (p' := 2) rfl rfl ?_
  refine E_callL (p' := 5) (L0 := [some (aA 1), some (aI a1)]) rfl rfl rfl ?_
  refine E_s (p' := 1) rfl rfl ?_
  refine E_if_lt rfl (by decide) (fun _ => ?_) (fun _ => ?_)
  · refine E_s (p' := 19) rfl rfl ?_
    refine E_ret rfl rfl ?_
    refine E_s (p' := 6) (L' := [some (aA 1), some (aI a1), some aN]) rfl rfl ?_
    refine E_s (p' := 7) rfl rfl ?_
    refine E_s (p' := 10) rfl rfl ?_
    refine E_s (p' := 12) (st' := aI (-2) :: _) rfl rfl ?_
    refine E_ret rfl rfl ?_
    refine E_s (p' := 851) (st' := aA 124 :: _) rfl rfl ?_
    refine E_s (p' := 852) (st' := aA 0 :: _) rfl rfl ?_
    refine E_s (p' := 853) (st' := aI 0 :: _) rfl rfl ?_
    refine E_s (p' := 854) (st' := aI 1 :: _) rfl rfl ?_
    refine E_s (p' := 855) (st' := aI 1 :: _) rfl rfl ?_
    refine E_scr rfl rfl h1 ?_
    refine E_callL (p' := 859) (L0 := [some (aA 124), some (aI a1)]) rfl rfl rfl ?_
    refine E_s (p' := 1) rfl rfl ?_
    refine E_callL (p' := 4) (L0 := [some (aI a1)]) rfl rfl rfl ?_
    refine E_s (p' := 1) rfl rfl ?_
    refine E_s (p' := 2) (st' := aI 0 :: _) rfl rfl ?_
    refine E_s (p' := 3) (st' := aI 3 :: _) rfl rfl ?_
    refine E_callL (p' := 6) (L0 := [some (aI a1), some (aI 0), some (aI 3)]) rfl rfl rfl ?_
    refine E_s (p' := 1) rfl rfl ?_
    refine E_s (p' := 2) (st' := aI 0 :: _) rfl rfl ?_
    refine E_icmp_lt (y := 0) rfl (by decide) (fun _ => ?_) (fun q => absurd q (by omega))
    refine E_s (p' := 15) (st' := aI 0 :: _) rfl rfl ?_
    refine E_ret rfl rfl ?_
    refine E_ret rfl rfl ?_
    refine E_s (p' := 7) rfl rfl ?_
    refine E_s (p' := 9) (st' := aI (-2) :: _) rfl rfl ?_
    refine E_ret rfl rfl ?_
    refine E_s (p' := 1174) rfl rfl ?_
    refine E_s (p' := 1177) (L' := [some (aA 0), some (aA 1), some (aA 124), some (aI 6)]) rfl rfl ?_
    refine E_s (p' := 18) rfl rfl ?_
    refine E_s (p' := 19) (st' := aI 6 :: _) rfl rfl ?_
    refine E_s (p' := 20) (st' := aA 0 :: _) rfl rfl ?_
    refine E_s (p' := 21) (st' := aI 6 :: _) rfl rfl ?_
    refine E_s (p' := 23) (st' := aI 6 :: _) rfl rfl ?_
    refine E_s (p' := 24) (st' := aI 0 :: _) rfl rfl ?_
    refine E_s (p' := 1180) rfl rfl ?_
    refine E_s (p' := 1181) (st' := aI 1 :: _) rfl rfl ?_
    exact E_ret rfl rfl ⟨rfl, rfl⟩
  · refine E_s (p' := 5) rfl rfl ?_
    refine E_s (p' := 6) (st' := aI 4 :: _) rfl rfl ?_
    refine E_icmp_ge (y := 4) rfl (by decide) (fun _ => ?_) (fun q => absurd q (by omega))
    refine E_s (p' := 19) rfl rfl ?_
    refine E_ret rfl rfl ?_
    refine E_s (p' := 6) (L' := [some (aA 1), some (aI a1), some aN]) rfl rfl ?_
    refine E_s (p' := 7) rfl rfl ?_
    refine E_s (p' := 10) rfl rfl ?_
    refine E_s (p' := 12) (st' := aI (-2) :: _) rfl rfl ?_
    refine E_ret rfl rfl ?_
    refine E_s (p' := 851) (st' := aA 124 :: _) rfl rfl ?_
    refine E_s (p' := 852) (st' := aA 0 :: _) rfl rfl ?_
    refine E_s (p' := 853) (st' := aI 0 :: _) rfl rfl ?_
    refine E_s (p' := 854) (st' := aI 1 :: _) rfl rfl ?_
    refine E_s (p' := 855) (st' := aI 1 :: _) rfl rfl ?_
    refine E_scr rfl rfl h1 ?_
    refine E_callL (p' := 859) (L0 := [some (aA 124), some (aI a1)]) rfl rfl rfl ?_
    refine E_s (p' := 1) rfl rfl ?_
    refine E_callL (p' := 4) (L0 := [some (aI a1)]) rfl rfl rfl ?_
    refine E_s (p' := 1) rfl rfl ?_
    refine E_s (p' := 2) (st' := aI 0 :: _) rfl rfl ?_
    refine E_s (p' := 3) (st' := aI 3 :: _) rfl rfl ?_
    refine E_callL (p' := 6) (L0 := [some (aI a1), some (aI 0), some (aI 3)]) rfl rfl rfl ?_
    refine E_s (p' := 1) rfl rfl ?_
    refine E_s (p' := 2) (st' := aI 0 :: _) rfl rfl ?_
    refine E_icmp_lt (y := 0) rfl (by decide) (fun q => absurd q (by omega)) (fun _ => ?_)
    refine E_s (p' := 6) rfl rfl ?_
    refine E_s (p' := 7) (st' := aI 3 :: _) rfl rfl ?_
    refine E_icmp_gt (y := 3) rfl (by decide) (fun _ => ?_) (fun q => absurd q (by omega))
    refine E_s (p' := 15) (st' := aI 0 :: _) rfl rfl ?_
    refine E_ret rfl rfl ?_
    refine E_ret rfl rfl ?_
    refine E_s (p' := 7) rfl rfl ?_
    refine E_s (p' := 9) (st' := aI (-2) :: _) rfl rfl ?_
    refine E_ret rfl rfl ?_
    refine E_s (p' := 1174) rfl rfl ?_
    refine E_s (p' := 1177) (L' := [some (aA 0), some (aA 1), some (aA 124), some (aI 6)]) rfl rfl ?_
    refine E_s (p' := 18) rfl rfl ?_
    refine E_s (p' := 19) (st' := aI 6 :: _) rfl rfl ?_
    refine E_s (p' := 20) (st' := aA 0 :: _) rfl rfl ?_
    refine E_s (p' := 21) (st' := aI 6 :: _) rfl rfl ?_
    refine E_s (p' := 23) (st' := aI 6 :: _) rfl rfl ?_
    refine E_s (p' := 24) (st' := aI 0 :: _) rfl rfl ?_
    refine E_s (p' := 1180) rfl rfl ?_
    refine E_s (p' := 1181) (st' := aI 1 :: _) rfl rfl ?_
    exact E_ret rfl rfl ⟨rfl, rfl⟩
set_option maxRecDepth 100000 in
set_option maxHeartbeats 40000000 in
theorem pc_18_0 (xs : Nat → Int) {z a2 a3 a4 a5 : Int} (hz : b32 (fun a b => a &&& b) z 31 = 18) (h0 : xs 0 = z) (h1 : xs 1 = 0) (h2 : xs 2 = a2) (h3 : xs 3 = a3) (h4 : xs 4 = a4) (h5 : xs 5 = a5) : E 0 18 LL [] (s0 xs 6) PQ := by
  refine E_s (p' := 19) (st' := aI 0 :: _) rfl rfl ?_
  refine E_s (p' := 20) (st' := aA 0 :: _) rfl rfl ?_
  refine E_s (p' := 21) (st' := aI 6 :: _) rfl rfl ?_
  refine E_s (p' := 23) (st' := aI 6 :: _) rfl rfl ?_
  refine E_s (p' := 24) (st' := aI 0 :: _) rfl rfl ?_
  refine E_s (p' := 27) rfl rfl ?_
  refine E_s (p' := 28) (st' := aA 0 :: _) rfl rfl ?_
  refine E_s (p' := 29) (st' := aI 0 :: _) rfl rfl ?_
  refine E_scr rfl rfl h0 ?_
  refine E_s (p' := 32) (st' := aI 31 :: _) rfl rfl ?_
  refine E_s (p' := 33) rfl rfl ?_
  refine E_val hz ?_
  refine E_s (p' := 864) rfl rfl ?_
  refine E_s (p' := 865) (st' := aA 1 :: _) rfl rfl ?_
  refine E_s (p' := 866) (st' := aA 0 :: _) rfl rfl ?_
  refine E_s (p' := 867) (st' := aI 0 :: _) rfl rfl ?_
  refine E_s (p' := 868) (st' := aI 1 :: _) rfl rfl ?_
  refine E_s (p' := 869) (st' := aI 1 :: _) rfl rfl ?_
  refine E_scr rfl rfl h1 ?_
  refine E_s (p' := 871) (st' := aA 0 :: _) rfl rfl ?_
  refine E_s (p' := 872) (st' := aI 0 :: _) rfl rfl ?_
  refine E_s (p' := 873) (st' := aI 2 :: _) rfl rfl ?_
  refine E_s (p' := 874) (st' := aI 2 :: _) rfl rfl ?_
  refine E_scr rfl rfl h2 ?_
  refine E_s (p' := 876) (st' := aA 0 :: _) rfl rfl ?_
  refine E_s (p' := 877) (st' := aI 0 :: _) rfl rfl ?_
  refine E_s (p' := 878) (st' := aI 3 :: _) rfl rfl ?_
  refine E_s (p' := 879) (st' := aI 3 :: _) rfl rfl ?_
  refine E_scr rfl rfl h3 ?_
  refine E_callL (p' := 883) (L0 := [some (aA 1), some (aI 0), some (aI a2), some (aI a3), none, none]) rfl rfl rfl ?_
  refine E_s (p' := 1) (st' := aA 1 :: _) rfl rfl ?_
  refine E_s (p' := 2) (st' := aI 0 :: _) rfl rfl ?_
  refine E_callL (p' := 5) (L0 := [some (aA 1), some (aI 0), none]) rfl rfl rfl ?_
  refine E_s (p' := 1) (st' := aA 1 :: _) rfl rfl ?_
  refine E_s (p' := 2) (st' := aI 0 :: _) rfl rfl ?_
  refine E_callL (p' := 5) (L0 := [some (aA 1), some (aI 0)]) rfl rfl rfl ?_
  refine E_s (p' := 1) (st' := aI 0 :: _) rfl rfl ?_
  refine E_s (p' := 4) rfl rfl ?_
  refine E_s (p' := 5) (st' := aI 0 :: _) rfl rfl ?_
  refine E_s (p' := 6) (st' := aI 4 :: _) rfl rfl ?_
  refine E_s (p' := 9) rfl rfl ?_
  refine E_s (p' := 10) (st' := aA 1 :: _) rfl rfl ?_
  refine E_s (p' := 13) (st' := aA 2 :: _) rfl rfl ?_
  refine E_s (p' := 14) (st' := aI 0 :: _) rfl rfl ?_
  refine E_s (p' := 15) (st' := aA 20 :: _) rfl rfl ?_
  refine E_s (p' := 19) rfl rfl ?_
  refine E_ret rfl rfl ?_
  refine E_s (p' := 6) (L' := [some (aA 1), some (aI 0), some (aA 20)]) rfl rfl ?_
  refine E_s (p' := 7) (st' := aA 20 :: _) rfl rfl ?_
  refine E_s (p' := 10) rfl rfl ?_
  refine E_s (p' := 11) (st' := aA 20 :: _) rfl rfl ?_
  refine E_callL (p' := 14) (L0 := [some (aA 20)]) rfl rfl rfl ?_
  refine E_s (p' := 1) (st' := aA 20 :: _) rfl rfl ?_
  refine E_s (p' := 4) (st' := aI 0 :: _) rfl rfl ?_
  refine E_s (p' := 7) rfl rfl ?_
  refine E_s (p' := 8) (st' := aA 20 :: _) rfl rfl ?_
  refine E_s (p' := 11) (st' := aA 35 :: _) rfl rfl ?_
  refine E_s (p' := 12) (st' := aA 20 :: _) rfl rfl ?_
  refine E_s (p' := 15) (st' := aA 21 :: _) rfl rfl ?_
  refine E_s (p' := 16) (st' := aA 20 :: _) rfl rfl ?_
  refine E_s (p' := 19) (st' := aI 15 :: _) rfl rfl ?_
  refine E_callL (p' := 22) (L0 := [some (aA 35), some (aA 21), some (aI 15), none]) rfl rfl rfl ?_
  refine E_s (p' := 1) (st' := aA 35 :: _) rfl rfl ?_
  refine E_s (p' := 2) (st' := aA 21 :: _) rfl rfl ?_
  refine E_callL (p' := 5) (L0 := [some (aA 35), some (aA 21), none, none]) rfl rfl rfl ?_
  refine E_s (p' := 1) (st' := aA 35 :: _) rfl rfl ?_
  refine E_s (p' := 4) (st' := aA 44 :: _) rfl rfl ?_
  refine E_s (p' := 5) (st' := aI 0 :: _) rfl rfl ?_
  refine E_call rfl rfl ?_
  refine c_fill rfl rfl ?_
  refine E_s (p' := 9) (st' := aA 35 :: _) rfl rfl ?_
  refine E_s (p' := 12) (st' := aA 40 :: _) rfl rfl ?_
  refine E_s (p' := 13) (st' := aI 0 :: _) rfl rfl ?_
  refine E_call rfl rfl ?_
  refine c_fill rfl rfl ?_
  refine E_s (p' := 17) (st' := aA 35 :: _) rfl rfl ?_
  refine E_s (p' := 18) (st' := aI 0 :: _) rfl rfl ?_
  refine E_stM (p' := 21) (m' := up2 _ 35 10 0) rfl rfl ?_
  refine E_s (p' := 22) (st' := aA 35 :: _) rfl rfl ?_
  refine E_s (p' := 23) (st' := aI 0 :: _) rfl rfl ?_
  refine E_stM (p' := 26) (m' := up2 _ 35 11 0) rfl rfl ?_
  refine E_s (p' := 27) (st' := aI 0 :: _) rfl rfl ?_
  refine E_s (p' := 28) (L' := [some (aA 35), some (aA 21), some (aI 0), none]) rfl rfl ?_
  refine E_s (p' := 29) (st' := aI 0 :: _) rfl rfl ?_
  refine E_s (p' := 30) (st' := aA 21 :: _) rfl rfl ?_
  refine E_s (p' := 33) (st' := aI 0 :: _) rfl rfl ?_
  refine E_s (p' := 135) rfl rfl ?_
  refine E_ret rfl rfl ?_
  refine E_s (p' := 6) (st' := aA 35 :: _) rfl rfl ?_
  refine E_s (p' := 7) (st' := aI 15 :: _) rfl rfl ?_
  refine E_callL (p' := 10) (L0 := [some (aA 35), some (aI 15), none]) rfl rfl rfl ?_
  refine E_s (p' := 1) (st' := aA 35 :: _) rfl rfl ?_
  refine E_s (p' := 2) (st' := aI 0 :: _) rfl rfl ?_
  refine E_stM (p' := 5) (m' := up2 _ 35 12 0) rfl rfl ?_
  refine E_s (p' := 6) (st' := aI 1 :: _) rfl rfl ?_
  refine E_s (p' := 7) (L' := [some (aA 35), some (aI 15), some (aI 1)]) rfl rfl ?_
  refine fl_loop (gp := 0) (by decide) _ 600 1 _ rfl (fun j hj => show (if 0 ≤ j ∧ j < 601 then (0 : Int) else _) = 0 from if_pos ⟨Nat.zero_le _, hj⟩) ?_
  refine E_s (p' := 11) (st' := aA 35 :: _) rfl rfl ?_
  refine E_s (p' := 14) (st' := aI 0 :: _) rfl rfl ?_
  refine E_s (p' := 17) rfl rfl ?_
  refine E_s (p' := 18) (st' := aA 35 :: _) rfl rfl ?_
  refine E_callL (p' := 21) (L0 := [some (aA 35)]) rfl rfl rfl ?_
  refine E_s (p' := 1) (st' := aA 35 :: _) rfl rfl ?_
  refine E_s (p' := 4) (st' := aA 41 :: _) rfl rfl ?_
  refine E_s (p' := 5) (st' := aA 35 :: _) rfl rfl ?_
  refine E_s (p' := 8) (st' := aI 0 :: _) rfl rfl ?_
  refine E_s (p' := 15) rfl rfl ?_
  refine E_s (p' := 16) (st' := aI 0 :: _) rfl rfl ?_
  refine E_call rfl rfl ?_
  refine c_fill rfl rfl ?_
  refine E_s (p' := 20) (st' := aA 35 :: _) rfl rfl ?_
  refine E_s (p' := 23) (st' := aA 42 :: _) rfl rfl ?_
  refine E_s (p' := 24) (st' := aI 0 :: _) rfl rfl ?_
  refine E_call rfl rfl ?_
  refine c_fill rfl rfl ?_
  refine E_s (p' := 28) (st' := aA 35 :: _) rfl rfl ?_
  refine E_s (p' := 31) (st' := aA 43 :: _) rfl rfl ?_
  refine E_s (p' := 32) (st' := aI 0 :: _) rfl rfl ?_
  refine E_call rfl rfl ?_
  refine c_fill rfl rfl ?_
  refine E_ret rfl rfl ?_
  refine E_ret rfl rfl ?_
  refine E_s (p' := 23) (st' := aA 20 :: _) rfl rfl ?_
  refine E_s (p' := 24) (st' := aI 1 :: _) rfl rfl ?_
  refine E_stM (p' := 27) (m' := up2 _ 20 7 1) rfl rfl ?_
  refine E_s (p' := 28) (st' := aA 20 :: _) rfl rfl ?_
  refine E_s (p' := 31) (st' := aA 35 :: _) rfl rfl ?_
  refine E_ret rfl rfl ?_
  refine E_s (p' := 15) rfl rfl ?_
  refine E_s (p' := 16) (st' := aA 20 :: _) rfl rfl ?_
  refine E_ret rfl rfl ?_
  refine E_s (p' := 7) (L' := [some (aA 1), some (aI 0), some (aI a2), some (aI a3), some (aA 20), none]) rfl rfl ?_
  refine E_s (p' := 9) (st' := aA 20 :: _) rfl rfl ?_
  refine E_s (p' := 12) rfl rfl ?_
  refine E_s (p' := 13) rfl rfl ?_
  refine E_if_lt rfl (by decide) (fun _ => ?_) (fun _ => ?_)
  · refine E_s (p' := 29) (st' := aI (-1) :: _) rfl rfl ?_
    refine E_ret rfl rfl ?_
    refine E_s (p' := 884) (st' := aA 124 :: _) rfl rfl ?_
    refine E_s (p' := 885) (st' := aA 0 :: _) rfl rfl ?_
    refine E_s (p' := 886) (st' := aI 0 :: _) rfl rfl ?_
    refine E_s (p' := 887) (st' := aI 1 :: _) rfl rfl ?_
    refine E_s (p' := 888) (st' := aI 1 :: _) rfl rfl ?_
    refine E_scr rfl rfl h1 ?_
    refine E_s (p' := 890) (st' := aA 0 :: _) rfl rfl ?_
    refine E_s (p' := 891) (st' := aI 0 :: _) rfl rfl ?_
    refine E_s (p' := 892) (st' := aI 2 :: _) rfl rfl ?_
    refine E_s (p' := 893) (st' := aI 2 :: _) rfl rfl ?_
    refine E_scr rfl rfl h2 ?_
    refine E_s (p' := 895) (st' := aA 0 :: _) rfl rfl ?_
    refine E_s (p' := 896) (st' := aI 0 :: _) rfl rfl ?_
    refine E_s (p' := 897) (st' := aI 3 :: _) rfl rfl ?_
    refine E_s (p' := 898) (st' := aI 3 :: _) rfl rfl ?_
    refine E_scr rfl rfl h3 ?_
    refine E_callL (p' := 902) (L0 := [some (aA 124), some (aI 0), some (aI a2), some (aI a3), none, none, none, none]) rfl rfl rfl ?_
    refine E_s (p' := 1) (st' := aI 0 :: _) rfl rfl ?_
    refine E_callL (p' := 4) (L0 := [some (aI 0)]) rfl rfl rfl ?_
    refine E_s (p' := 1) (st' := aI 0 :: _) rfl rfl ?_
    refine E_s (p' := 2) (st' := aI 0 :: _) rfl rfl ?_
    refine E_s (p' := 3) (st' := aI 3 :: _) rfl rfl ?_
    refine E_callL (p' := 6) (L0 := [some (aI 0), some (aI 0), some (aI 3)]) rfl rfl rfl ?_
    refine E_s (p' := 1) (st' := aI 0 :: _) rfl rfl ?_
    refine E_s (p' := 2) (st' := aI 0 :: _) rfl rfl ?_
    refine E_s (p' := 5) rfl rfl ?_
    refine E_s (p' := 6) (st' := aI 0 :: _) rfl rfl ?_
    refine E_s (p' := 7) (st' := aI 3 :: _) rfl rfl ?_
    refine E_s (p' := 10) rfl rfl ?_
    refine E_s (p' := 11) (st' := aI 1 :: _) rfl rfl ?_
    refine E_s (p' := 15) rfl rfl ?_
    refine E_ret rfl rfl ?_
    refine E_ret rfl rfl ?_
    refine E_s (p' := 7) rfl rfl ?_
    refine E_s (p' := 8) rfl rfl ?_
    refine E_s (p' := 9) (st' := aI 0 :: _) rfl rfl ?_
    refine E_s (p' := 10) (st' := aA 124 :: _) rfl rfl ?_
    refine E_s (p' := 13) (st' := aA 136 :: _) rfl rfl ?_
    refine E_s (p' := 14) (st' := aI 0 :: _) rfl rfl ?_
    refine E_s (p' := 15) (st' := aI 0 :: _) rfl rfl ?_
    refine E_s (p' := 16) (st' := aI 1 :: _) rfl rfl ?_
    refine E_isubv (v := -1) rfl (show (0 : Int) - 1 = -1 from rfl) (by decide) ?_
    refine E_callL (p' := 20) (L0 := [some (aI a2), some (aI 0), some (aI (-1))]) rfl rfl rfl ?_
    refine E_s (p' := 1) rfl rfl ?_
    refine E_s (p' := 2) (st' := aI 0 :: _) rfl rfl ?_
    refine E_icmp_lt (y := 0) rfl (by decide) (fun _ => ?_) (fun q => absurd q (by omega))
    refine E_s (p' := 15) (st' := aI 0 :: _) rfl rfl ?_
    refine E_ret rfl rfl ?_
    refine E_s (p' := 23) rfl rfl ?_
    refine E_s (p' := 24) (st' := aI (-1) :: _) rfl rfl ?_
    refine E_ret rfl rfl ?_
    refine E_s (p' := 1174) rfl rfl ?_
    refine E_s (p' := 1177) (L' := [some (aA 0), some (aA 1), some (aA 124), some (aI 6)]) rfl rfl ?_
    refine E_s (p' := 18) rfl rfl ?_
    refine E_s (p' := 19) (st' := aI 6 :: _) rfl rfl ?_
    refine E_s (p' := 20) (st' := aA 0 :: _) rfl rfl ?_
    refine E_s (p' := 21) (st' := aI 6 :: _) rfl rfl ?_
    refine E_s (p' := 23) (st' := aI 6 :: _) rfl rfl ?_
    refine E_s (p' := 24) (st' := aI 0 :: _) rfl rfl ?_
    refine E_s (p' := 1180) rfl rfl ?_
    refine E_s (p' := 1181) (st' := aI 1 :: _) rfl rfl ?_
    exact E_ret rfl rfl ⟨rfl, rfl⟩
  · refine E_s (p' := 17) rfl rfl ?_
    refine E_s (p' := 19) (st' := aA 20 :: _) rfl rfl ?_
    refine E_s (p' := 22) (st' := aA 29 :: _) rfl rfl ?_
    refine E_s (p' := 25) (st' := aI 0 :: _) rfl rfl ?_
    refine E_icmp_lt (y := 0) rfl (by decide) (fun q => absurd q (by omega)) (fun _ => ?_)
    refine E_s (p' := 29) (st' := aI (-1) :: _) rfl rfl ?_
    refine E_ret rfl rfl ?_
    refine E_s (p' := 884) (st' := aA 124 :: _) rfl rfl ?_
    refine E_s (p' := 885) (st' := aA 0 :: _) rfl rfl ?_
    refine E_s (p' := 886) (st' := aI 0 :: _) rfl rfl ?_
    refine E_s (p' := 887) (st' := aI 1 :: _) rfl rfl ?_
    refine E_s (p' := 888) (st' := aI 1 :: _) rfl rfl ?_
    refine E_scr rfl rfl h1 ?_
    refine E_s (p' := 890) (st' := aA 0 :: _) rfl rfl ?_
    refine E_s (p' := 891) (st' := aI 0 :: _) rfl rfl ?_
    refine E_s (p' := 892) (st' := aI 2 :: _) rfl rfl ?_
    refine E_s (p' := 893) (st' := aI 2 :: _) rfl rfl ?_
    refine E_scr rfl rfl h2 ?_
    refine E_s (p' := 895) (st' := aA 0 :: _) rfl rfl ?_
    refine E_s (p' := 896) (st' := aI 0 :: _) rfl rfl ?_
    refine E_s (p' := 897) (st' := aI 3 :: _) rfl rfl ?_
    refine E_s (p' := 898) (st' := aI 3 :: _) rfl rfl ?_
    refine E_scr rfl rfl h3 ?_
    refine E_callL (p' := 902) (L0 := [some (aA 124), some (aI 0), some (aI a2), some (aI a3), none, none, none, none]) rfl rfl rfl ?_
    refine E_s (p' := 1) (st' := aI 0 :: _) rfl rfl ?_
    refine E_callL (p' := 4) (L0 := [some (aI 0)]) rfl rfl rfl ?_
    refine E_s (p' := 1) (st' := aI 0 :: _) rfl rfl ?_
    refine E_s (p' := 2) (st' := aI 0 :: _) rfl rfl ?_
    refine E_s (p' := 3) (st' := aI 3 :: _) rfl rfl ?_
    refine E_callL (p' := 6) (L0 := [some (aI 0), some (aI 0), some (aI 3)]) rfl rfl rfl ?_
    refine E_s (p' := 1) (st' := aI 0 :: _) rfl rfl ?_
    refine E_s (p' := 2) (st' := aI 0 :: _) rfl rfl ?_
    refine E_s (p' := 5) rfl rfl ?_
    refine E_s (p' := 6) (st' := aI 0 :: _) rfl rfl ?_
    refine E_s (p' := 7) (st' := aI 3 :: _) rfl rfl ?_
    refine E_s (p' := 10) rfl rfl ?_
    refine E_s (p' := 11) (st' := aI 1 :: _) rfl rfl ?_
    refine E_s (p' := 15) rfl rfl ?_
    refine E_ret rfl rfl ?_
    refine E_ret rfl rfl ?_
    refine E_s (p' := 7) rfl rfl ?_
    refine E_s (p' := 8) rfl rfl ?_
    refine E_s (p' := 9) (st' := aI 0 :: _) rfl rfl ?_
    refine E_s (p' := 10) (st' := aA 124 :: _) rfl rfl ?_
    refine E_s (p' := 13) (st' := aA 136 :: _) rfl rfl ?_
    refine E_s (p' := 14) (st' := aI 0 :: _) rfl rfl ?_
    refine E_s (p' := 15) (st' := aI 0 :: _) rfl rfl ?_
    refine E_s (p' := 16) (st' := aI 1 :: _) rfl rfl ?_
    refine E_isubv (v := -1) rfl (show (0 : Int) - 1 = -1 from rfl) (by decide) ?_
    refine E_callL (p' := 20) (L0 := [some (aI a2), some (aI 0), some (aI (-1))]) rfl rfl rfl ?_
    refine E_s (p' := 1) rfl rfl ?_
    refine E_s (p' := 2) (st' := aI 0 :: _) rfl rfl ?_
    refine E_icmp_lt (y := 0) rfl (by decide) (fun q => absurd q (by omega)) (fun _ => ?_)
    refine E_s (p' := 6) rfl rfl ?_
    refine E_s (p' := 7) (st' := aI (-1) :: _) rfl rfl ?_
    refine E_icmp_gt (y := (-1)) rfl (by decide) (fun _ => ?_) (fun q => absurd q (by omega))
    refine E_s (p' := 15) (st' := aI 0 :: _) rfl rfl ?_
    refine E_ret rfl rfl ?_
    refine E_s (p' := 23) rfl rfl ?_
    refine E_s (p' := 24) (st' := aI (-1) :: _) rfl rfl ?_
    refine E_ret rfl rfl ?_
    refine E_s (p' := 1174) rfl rfl ?_
    refine E_s (p' := 1177) (L' := [some (aA 0), some (aA 1), some (aA 124), some (aI 6)]) rfl rfl ?_
    refine E_s (p' := 18) rfl rfl ?_
    refine E_s (p' := 19) (st' := aI 6 :: _) rfl rfl ?_
    refine E_s (p' := 20) (st' := aA 0 :: _) rfl rfl ?_
    refine E_s (p' := 21) (st' := aI 6 :: _) rfl rfl ?_
    refine E_s (p' := 23) (st' := aI 6 :: _) rfl rfl ?_
    refine E_s (p' := 24) (st' := aI 0 :: _) rfl rfl ?_
    refine E_s (p' := 1180) rfl rfl ?_
    refine E_s (p' := 1181) (st' := aI 1 :: _) rfl rfl ?_
    exact E_ret rfl rfl ⟨rfl, rfl⟩
set_option maxRecDepth 100000 in
set_option maxHeartbeats 40000000 in
theorem pc_18_1 (xs : Nat → Int) {z a2 a3 a4 a5 : Int} (hz : b32 (fun a b => a &&& b) z 31 = 18) (h0 : xs 0 = z) (h1 : xs 1 = 1) (h2 : xs 2 = a2) (h3 : xs 3 = a3) (h4 : xs 4 = a4) (h5 : xs 5 = a5) : E 0 18 LL [] (s0 xs 6) PQ := by
  refine E_s (p' := 19) (st' := aI 0 :: _) rfl rfl ?_
  refine E_s (p' := 20) (st' := aA 0 :: _) rfl rfl ?_
  refine E_s (p' := 21) (st' := aI 6 :: _) rfl rfl ?_
  refine E_s (p' := 23) (st' := aI 6 :: _) rfl rfl ?_
  refine E_s (p' := 24) (st' := aI 0 :: _) rfl rfl ?_
  refine E_s (p' := 27) rfl rfl ?_
  refine E_s (p' := 28) (st' := aA 0 :: _) rfl rfl ?_
  refine E_s (p' := 29) (st' := aI 0 :: _) rfl rfl ?_
  refine E_scr rfl rfl h0 ?_
  refine E_s (p' := 32) (st' := aI 31 :: _) rfl rfl ?_
  refine E_s (p' := 33) rfl rfl ?_
  refine E_val hz ?_
  refine E_s (p' := 864) rfl rfl ?_
  refine E_s (p' := 865) (st' := aA 1 :: _) rfl rfl ?_
  refine E_s (p' := 866) (st' := aA 0 :: _) rfl rfl ?_
  refine E_s (p' := 867) (st' := aI 0 :: _) rfl rfl ?_
  refine E_s (p' := 868) (st' := aI 1 :: _) rfl rfl ?_
  refine E_s (p' := 869) (st' := aI 1 :: _) rfl rfl ?_
  refine E_scr rfl rfl h1 ?_
  refine E_s (p' := 871) (st' := aA 0 :: _) rfl rfl ?_
  refine E_s (p' := 872) (st' := aI 0 :: _) rfl rfl ?_
  refine E_s (p' := 873) (st' := aI 2 :: _) rfl rfl ?_
  refine E_s (p' := 874) (st' := aI 2 :: _) rfl rfl ?_
  refine E_scr rfl rfl h2 ?_
  refine E_s (p' := 876) (st' := aA 0 :: _) rfl rfl ?_
  refine E_s (p' := 877) (st' := aI 0 :: _) rfl rfl ?_
  refine E_s (p' := 878) (st' := aI 3 :: _) rfl rfl ?_
  refine E_s (p' := 879) (st' := aI 3 :: _) rfl rfl ?_
  refine E_scr rfl rfl h3 ?_
  refine E_callL (p' := 883) (L0 := [some (aA 1), some (aI 1), some (aI a2), some (aI a3), none, none]) rfl rfl rfl ?_
  refine E_s (p' := 1) (st' := aA 1 :: _) rfl rfl ?_
  refine E_s (p' := 2) (st' := aI 1 :: _) rfl rfl ?_
  refine E_callL (p' := 5) (L0 := [some (aA 1), some (aI 1), none]) rfl rfl rfl ?_
  refine E_s (p' := 1) (st' := aA 1 :: _) rfl rfl ?_
  refine E_s (p' := 2) (st' := aI 1 :: _) rfl rfl ?_
  refine E_callL (p' := 5) (L0 := [some (aA 1), some (aI 1)]) rfl rfl rfl ?_
  refine E_s (p' := 1) (st' := aI 1 :: _) rfl rfl ?_
  refine E_s (p' := 4) rfl rfl ?_
  refine E_s (p' := 5) (st' := aI 1 :: _) rfl rfl ?_
  refine E_s (p' := 6) (st' := aI 4 :: _) rfl rfl ?_
  refine E_s (p' := 9) rfl rfl ?_
  refine E_s (p' := 10) (st' := aA 1 :: _) rfl rfl ?_
  refine E_s (p' := 13) (st' := aA 2 :: _) rfl rfl ?_
  refine E_s (p' := 14) (st' := aI 1 :: _) rfl rfl ?_
  refine E_s (p' := 15) (st' := aA 46 :: _) rfl rfl ?_
  refine E_s (p' := 19) rfl rfl ?_
  refine E_ret rfl rfl ?_
  refine E_s (p' := 6) (L' := [some (aA 1), some (aI 1), some (aA 46)]) rfl rfl ?_
  refine E_s (p' := 7) (st' := aA 46 :: _) rfl rfl ?_
  refine E_s (p' := 10) rfl rfl ?_
  refine E_s (p' := 11) (st' := aA 46 :: _) rfl rfl ?_
  refine E_callL (p' := 14) (L0 := [some (aA 46)]) rfl rfl rfl ?_
  refine E_s (p' := 1) (st' := aA 46 :: _) rfl rfl ?_
  refine E_s (p' := 4) (st' := aI 0 :: _) rfl rfl ?_
  refine E_s (p' := 7) rfl rfl ?_
  refine E_s (p' := 8) (st' := aA 46 :: _) rfl rfl ?_
  refine E_s (p' := 11) (st' := aA 61 :: _) rfl rfl ?_
  refine E_s (p' := 12) (st' := aA 46 :: _) rfl rfl ?_
  refine E_s (p' := 15) (st' := aA 47 :: _) rfl rfl ?_
  refine E_s (p' := 16) (st' := aA 46 :: _) rfl rfl ?_
  refine E_s (p' := 19) (st' := aI 15 :: _) rfl rfl ?_
  refine E_callL (p' := 22) (L0 := [some (aA 61), some (aA 47), some (aI 15), none]) rfl rfl rfl ?_
  refine E_s (p' := 1) (st' := aA 61 :: _) rfl rfl ?_
  refine E_s (p' := 2) (st' := aA 47 :: _) rfl rfl ?_
  refine E_callL (p' := 5) (L0 := [some (aA 61), some (aA 47), none, none]) rfl rfl rfl ?_
  refine E_s (p' := 1) (st' := aA 61 :: _) rfl rfl ?_
  refine E_s (p' := 4) (st' := aA 70 :: _) rfl rfl ?_
  refine E_s (p' := 5) (st' := aI 0 :: _) rfl rfl ?_
  refine E_call rfl rfl ?_
  refine c_fill rfl rfl ?_
  refine E_s (p' := 9) (st' := aA 61 :: _) rfl rfl ?_
  refine E_s (p' := 12) (st' := aA 66 :: _) rfl rfl ?_
  refine E_s (p' := 13) (st' := aI 0 :: _) rfl rfl ?_
  refine E_call rfl rfl ?_
  refine c_fill rfl rfl ?_
  refine E_s (p' := 17) (st' := aA 61 :: _) rfl rfl ?_
  refine E_s (p' := 18) (st' := aI 0 :: _) rfl rfl ?_
  refine E_stM (p' := 21) (m' := up2 _ 61 10 0) rfl rfl ?_
  refine E_s (p' := 22) (st' := aA 61 :: _) rfl rfl ?_
  refine E_s (p' := 23) (st' := aI 0 :: _) rfl rfl ?_
  refine E_stM (p' := 26) (m' := up2 _ 61 11 0) rfl rfl ?_
  refine E_s (p' := 27) (st' := aI 0 :: _) rfl rfl ?_
  refine E_s (p' := 28) (L' := [some (aA 61), some (aA 47), some (aI 0), none]) rfl rfl ?_
  refine E_s (p' := 29) (st' := aI 0 :: _) rfl rfl ?_
  refine E_s (p' := 30) (st' := aA 47 :: _) rfl rfl ?_
  refine E_s (p' := 33) (st' := aI 0 :: _) rfl rfl ?_
  refine E_s (p' := 135) rfl rfl ?_
  refine E_ret rfl rfl ?_
  refine E_s (p' := 6) (st' := aA 61 :: _) rfl rfl ?_
  refine E_s (p' := 7) (st' := aI 15 :: _) rfl rfl ?_
  refine E_callL (p' := 10) (L0 := [some (aA 61), some (aI 15), none]) rfl rfl rfl ?_
  refine E_s (p' := 1) (st' := aA 61 :: _) rfl rfl ?_
  refine E_s (p' := 2) (st' := aI 0 :: _) rfl rfl ?_
  refine E_stM (p' := 5) (m' := up2 _ 61 12 0) rfl rfl ?_
  refine E_s (p' := 6) (st' := aI 1 :: _) rfl rfl ?_
  refine E_s (p' := 7) (L' := [some (aA 61), some (aI 15), some (aI 1)]) rfl rfl ?_
  refine fl_loop (gp := 0) (by decide) _ 600 1 _ rfl (fun j hj => show (if 0 ≤ j ∧ j < 601 then (0 : Int) else _) = 0 from if_pos ⟨Nat.zero_le _, hj⟩) ?_
  refine E_s (p' := 11) (st' := aA 61 :: _) rfl rfl ?_
  refine E_s (p' := 14) (st' := aI 0 :: _) rfl rfl ?_
  refine E_s (p' := 17) rfl rfl ?_
  refine E_s (p' := 18) (st' := aA 61 :: _) rfl rfl ?_
  refine E_callL (p' := 21) (L0 := [some (aA 61)]) rfl rfl rfl ?_
  refine E_s (p' := 1) (st' := aA 61 :: _) rfl rfl ?_
  refine E_s (p' := 4) (st' := aA 67 :: _) rfl rfl ?_
  refine E_s (p' := 5) (st' := aA 61 :: _) rfl rfl ?_
  refine E_s (p' := 8) (st' := aI 0 :: _) rfl rfl ?_
  refine E_s (p' := 15) rfl rfl ?_
  refine E_s (p' := 16) (st' := aI 0 :: _) rfl rfl ?_
  refine E_call rfl rfl ?_
  refine c_fill rfl rfl ?_
  refine E_s (p' := 20) (st' := aA 61 :: _) rfl rfl ?_
  refine E_s (p' := 23) (st' := aA 68 :: _) rfl rfl ?_
  refine E_s (p' := 24) (st' := aI 0 :: _) rfl rfl ?_
  refine E_call rfl rfl ?_
  refine c_fill rfl rfl ?_
  refine E_s (p' := 28) (st' := aA 61 :: _) rfl rfl ?_
  refine E_s (p' := 31) (st' := aA 69 :: _) rfl rfl ?_
  refine E_s (p' := 32) (st' := aI 0 :: _) rfl rfl ?_
  refine E_call rfl rfl ?_
  refine c_fill rfl rfl ?_
  refine E_ret rfl rfl ?_
  refine E_ret rfl rfl ?_
  refine E_s (p' := 23) (st' := aA 46 :: _) rfl rfl ?_
  refine E_s (p' := 24) (st' := aI 1 :: _) rfl rfl ?_
  refine E_stM (p' := 27) (m' := up2 _ 46 7 1) rfl rfl ?_
  refine E_s (p' := 28) (st' := aA 46 :: _) rfl rfl ?_
  refine E_s (p' := 31) (st' := aA 61 :: _) rfl rfl ?_
  refine E_ret rfl rfl ?_
  refine E_s (p' := 15) rfl rfl ?_
  refine E_s (p' := 16) (st' := aA 46 :: _) rfl rfl ?_
  refine E_ret rfl rfl ?_
  refine E_s (p' := 7) (L' := [some (aA 1), some (aI 1), some (aI a2), some (aI a3), some (aA 46), none]) rfl rfl ?_
  refine E_s (p' := 9) (st' := aA 46 :: _) rfl rfl ?_
  refine E_s (p' := 12) rfl rfl ?_
  refine E_s (p' := 13) rfl rfl ?_
  refine E_if_lt rfl (by decide) (fun _ => ?_) (fun _ => ?_)
  · refine E_s (p' := 29) (st' := aI (-1) :: _) rfl rfl ?_
    refine E_ret rfl rfl ?_
    refine E_s (p' := 884) (st' := aA 124 :: _) rfl rfl ?_
    refine E_s (p' := 885) (st' := aA 0 :: _) rfl rfl ?_
    refine E_s (p' := 886) (st' := aI 0 :: _) rfl rfl ?_
    refine E_s (p' := 887) (st' := aI 1 :: _) rfl rfl ?_
    refine E_s (p' := 888) (st' := aI 1 :: _) rfl rfl ?_
    refine E_scr rfl rfl h1 ?_
    refine E_s (p' := 890) (st' := aA 0 :: _) rfl rfl ?_
    refine E_s (p' := 891) (st' := aI 0 :: _) rfl rfl ?_
    refine E_s (p' := 892) (st' := aI 2 :: _) rfl rfl ?_
    refine E_s (p' := 893) (st' := aI 2 :: _) rfl rfl ?_
    refine E_scr rfl rfl h2 ?_
    refine E_s (p' := 895) (st' := aA 0 :: _) rfl rfl ?_
    refine E_s (p' := 896) (st' := aI 0 :: _) rfl rfl ?_
    refine E_s (p' := 897) (st' := aI 3 :: _) rfl rfl ?_
    refine E_s (p' := 898) (st' := aI 3 :: _) rfl rfl ?_
    refine E_scr rfl rfl h3 ?_
    refine E_callL (p' := 902) (L0 := [some (aA 124), some (aI 1), some (aI a2), some (aI a3), none, none, none, none]) rfl rfl rfl ?_
    refine E_s (p' := 1) (st' := aI 1 :: _) rfl rfl ?_
    refine E_callL (p' := 4) (L0 := [some (aI 1)]) rfl rfl rfl ?_
    refine E_s (p' := 1) (st' := aI 1 :: _) rfl rfl ?_
    refine E_s (p' := 2) (st' := aI 0 :: _) rfl rfl ?_
    refine E_s (p' := 3) (st' := aI 3 :: _) rfl rfl ?_
    refine E_callL (p' := 6) (L0 := [some (aI 1), some (aI 0), some (aI 3)]) rfl rfl rfl ?_
    refine E_s (p' := 1) (st' := aI 1 :: _) rfl rfl ?_
    refine E_s (p' := 2) (st' := aI 0 :: _) rfl rfl ?_
    refine E_s (p' := 5) rfl rfl ?_
    refine E_s (p' := 6) (st' := aI 1 :: _) rfl rfl ?_
    refine E_s (p' := 7) (st' := aI 3 :: _) rfl rfl ?_
    refine E_s (p' := 10) rfl rfl ?_
    refine E_s (p' := 11) (st' := aI 1 :: _) rfl rfl ?_
    refine E_s (p' := 15) rfl rfl ?_
    refine E_ret rfl rfl ?_
    refine E_ret rfl rfl ?_
    refine E_s (p' := 7) rfl rfl ?_
    refine E_s (p' := 8) rfl rfl ?_
    refine E_s (p' := 9) (st' := aI 0 :: _) rfl rfl ?_
    refine E_s (p' := 10) (st' := aA 124 :: _) rfl rfl ?_
    refine E_s (p' := 13) (st' := aA 136 :: _) rfl rfl ?_
    refine E_s (p' := 14) (st' := aI 1 :: _) rfl rfl ?_
    refine E_s (p' := 15) (st' := aI 0 :: _) rfl rfl ?_
    refine E_s (p' := 16) (st' := aI 1 :: _) rfl rfl ?_
    refine E_isubv (v := -1) rfl (show (0 : Int) - 1 = -1 from rfl) (by decide) ?_
    refine E_callL (p' := 20) (L0 := [some (aI a2), some (aI 0), some (aI (-1))]) rfl rfl rfl ?_
    refine E_s (p' := 1) rfl rfl ?_
    refine E_s (p' := 2) (st' := aI 0 :: _) rfl rfl ?_
    refine E_icmp_lt (y := 0) rfl (by decide) (fun _ => ?_) (fun q => absurd q (by omega))
    refine E_s (p' := 15) (st' := aI 0 :: _) rfl rfl ?_
    refine E_ret rfl rfl ?_
    refine E_s (p' := 23) rfl rfl ?_
    refine E_s (p' := 24) (st' := aI (-1) :: _) rfl rfl ?_
    refine E_ret rfl rfl ?_
    refine E_s (p' := 1174) rfl rfl ?_
    refine E_s (p' := 1177) (L' := [some (aA 0), some (aA 1), some (aA 124), some (aI 6)]) rfl rfl ?_
    refine E_s (p' := 18) rfl rfl ?_
    refine E_s (p' := 19) (st' := aI 6 :: _) rfl rfl ?_
    refine E_s (p' := 20) (st' := aA 0 :: _) rfl rfl ?_
    refine E_s (p' := 21) (st' := aI 6 :: _) rfl rfl ?_
    refine E_s (p' := 23) (st' := aI 6 :: _) rfl rfl ?_
    refine E_s (p' := 24) (st' := aI 0 :: _) rfl rfl ?_
    refine E_s (p' := 1180) rfl rfl ?_
    refine E_s (p' := 1181) (st' := aI 1 :: _) rfl rfl ?_
    exact E_ret rfl rfl ⟨rfl, rfl⟩
  · refine E_s (p' := 17) rfl rfl ?_
    refine E_s (p' := 19) (st' := aA 46 :: _) rfl rfl ?_
    refine E_s (p' := 22) (st' := aA 55 :: _) rfl rfl ?_
    refine E_s (p' := 25) (st' := aI 0 :: _) rfl rfl ?_
    refine E_icmp_lt (y := 0) rfl (by decide) (fun q => absurd q (by omega)) (fun _ => ?_)
    refine E_s (p' := 29) (st' := aI (-1) :: _) rfl rfl ?_
    refine E_ret rfl rfl ?_
    refine E_s (p' := 884) (st' := aA 124 :: _) rfl rfl ?_
    refine E_s (p' := 885) (st' := aA 0 :: _) rfl rfl ?_
    refine E_s (p' := 886) (st' := aI 0 :: _) rfl rfl ?_
    refine E_s (p' := 887) (st' := aI 1 :: _) rfl rfl ?_
    refine E_s (p' := 888) (st' := aI 1 :: _) rfl rfl ?_
    refine E_scr rfl rfl h1 ?_
    refine E_s (p' := 890) (st' := aA 0 :: _) rfl rfl ?_
    refine E_s (p' := 891) (st' := aI 0 :: _) rfl rfl ?_
    refine E_s (p' := 892) (st' := aI 2 :: _) rfl rfl ?_
    refine E_s (p' := 893) (st' := aI 2 :: _) rfl rfl ?_
    refine E_scr rfl rfl h2 ?_
    refine E_s (p' := 895) (st' := aA 0 :: _) rfl rfl ?_
    refine E_s (p' := 896) (st' := aI 0 :: _) rfl rfl ?_
    refine E_s (p' := 897) (st' := aI 3 :: _) rfl rfl ?_
    refine E_s (p' := 898) (st' := aI 3 :: _) rfl rfl ?_
    refine E_scr rfl rfl h3 ?_
    refine E_callL (p' := 902) (L0 := [some (aA 124), some (aI 1), some (aI a2), some (aI a3), none, none, none, none]) rfl rfl rfl ?_
    refine E_s (p' := 1) (st' := aI 1 :: _) rfl rfl ?_
    refine E_callL (p' := 4) (L0 := [some (aI 1)]) rfl rfl rfl ?_
    refine E_s (p' := 1) (st' := aI 1 :: _) rfl rfl ?_
    refine E_s (p' := 2) (st' := aI 0 :: _) rfl rfl ?_
    refine E_s (p' := 3) (st' := aI 3 :: _) rfl rfl ?_
    refine E_callL (p' := 6) (L0 := [some (aI 1), some (aI 0), some (aI 3)]) rfl rfl rfl ?_
    refine E_s (p' := 1) (st' := aI 1 :: _) rfl rfl ?_
    refine E_s (p' := 2) (st' := aI 0 :: _) rfl rfl ?_
    refine E_s (p' := 5) rfl rfl ?_
    refine E_s (p' := 6) (st' := aI 1 :: _) rfl rfl ?_
    refine E_s (p' := 7) (st' := aI 3 :: _) rfl rfl ?_
    refine E_s (p' := 10) rfl rfl ?_
    refine E_s (p' := 11) (st' := aI 1 :: _) rfl rfl ?_
    refine E_s (p' := 15) rfl rfl ?_
    refine E_ret rfl rfl ?_
    refine E_ret rfl rfl ?_
    refine E_s (p' := 7) rfl rfl ?_
    refine E_s (p' := 8) rfl rfl ?_
    refine E_s (p' := 9) (st' := aI 0 :: _) rfl rfl ?_
    refine E_s (p' := 10) (st' := aA 124 :: _) rfl rfl ?_
    refine E_s (p' := 13) (st' := aA 136 :: _) rfl rfl ?_
    refine E_s (p' := 14) (st' := aI 1 :: _) rfl rfl ?_
    refine E_s (p' := 15) (st' := aI 0 :: _) rfl rfl ?_
    refine E_s (p' := 16) (st' := aI 1 :: _) rfl rfl ?_
    refine E_isubv (v := -1) rfl (show (0 : Int) - 1 = -1 from rfl) (by decide) ?_
    refine E_callL (p' := 20) (L0 := [some (aI a2), some (aI 0), some (aI (-1))]) rfl rfl rfl ?_
    refine E_s (p' := 1) rfl rfl ?_
    refine E_s (p' := 2) (st' := aI 0 :: _) rfl rfl ?_
    refine E_icmp_lt (y := 0) rfl (by decide) (fun q => absurd q (by omega)) (fun _ => ?_)
    refine E_s (p' := 6) rfl rfl ?_
    refine E_s (p' := 7) (st' := aI (-1) :: _) rfl rfl ?_
    refine E_icmp_gt (y := (-1)) rfl (by decide) (fun _ => ?_) (fun q => absurd q (by omega))
    refine E_s (p' := 15) (st' := aI 0 :: _) rfl rfl ?_
    refine E_ret rfl rfl ?_
    refine E_s (p' := 23) rfl rfl ?_
    refine E_s (p' := 24) (st' := aI (-1) :: _) rfl rfl ?_
    refine E_ret rfl rfl ?_
    refine E_s (p' := 1174) rfl rfl ?_
    refine E_s (p' := 1177) (L' := [some (aA 0), some (aA 1), some (aA 124), some (aI 6)]) rfl rfl ?_
    refine E_s (p' := 18) rfl rfl ?_
    refine E_s (p' := 19) (st' := aI 6 :: _) rfl rfl ?_
    refine E_s (p' := 20) (st' := aA 0 :: _) rfl rfl ?_
    refine E_s (p' := 21) (st' := aI 6 :: _) rfl rfl ?_
    refine E_s (p' := 23) (st' := aI 6 :: _) rfl rfl ?_
    refine E_s (p' := 24) (st' := aI 0 :: _) rfl rfl ?_
    refine E_s (p' := 1180) rfl rfl ?_
    refine E_s (p' := 1181) (st' := aI 1 :: _) rfl rfl ?_
    exact E_ret rfl rfl ⟨rfl, rfl⟩
set_option maxRecDepth 100000 in
set_option maxHeartbeats 40000000 in
theorem pc_18_2 (xs : Nat → Int) {z a2 a3 a4 a5 : Int} (hz : b32 (fun a b => a &&& b) z 31 = 18) (h0 : xs 0 = z) (h1 : xs 1 = 2) (h2 : xs 2 = a2) (h3 : xs 3 = a3) (h4 : xs 4 = a4) (h5 : xs 5 = a5) : E 0 18 LL [] (s0 xs 6) PQ := by
  refine E_s (p' := 19) (st' := aI 0 :: _) rfl rfl ?_
  refine E_s (p' := 20) (st' := aA 0 :: _) rfl rfl ?_
  refine E_s (p' := 21) (st' := aI 6 :: _) rfl rfl ?_
  refine E_s (p' := 23) (st' := aI 6 :: _) rfl rfl ?_
  refine E_s (p' := 24) (st' := aI 0 :: _) rfl rfl ?_
  refine E_s (p' := 27) rfl rfl ?_
  refine E_s (p' := 28) (st' := aA 0 :: _) rfl rfl ?_
  refine E_s (p' := 29) (st' := aI 0 :: _) rfl rfl ?_
  refine E_scr rfl rfl h0 ?_
  refine E_s (p' := 32) (st' := aI 31 :: _) rfl rfl ?_
  refine E_s (p' := 33) rfl rfl ?_
  refine E_val hz ?_
  refine E_s (p' := 864) rfl rfl ?_
  refine E_s (p' := 865) (st' := aA 1 :: _) rfl rfl ?_
  refine E_s (p' := 866) (st' := aA 0 :: _) rfl rfl ?_
  refine E_s (p' := 867) (st' := aI 0 :: _) rfl rfl ?_
  refine E_s (p' := 868) (st' := aI 1 :: _) rfl rfl ?_
  refine E_s (p' := 869) (st' := aI 1 :: _) rfl rfl ?_
  refine E_scr rfl rfl h1 ?_
  refine E_s (p' := 871) (st' := aA 0 :: _) rfl rfl ?_
  refine E_s (p' := 872) (st' := aI 0 :: _) rfl rfl ?_
  refine E_s (p' := 873) (st' := aI 2 :: _) rfl rfl ?_
  refine E_s (p' := 874) (st' := aI 2 :: _) rfl rfl ?_
  refine E_scr rfl rfl h2 ?_
  refine E_s (p' := 876) (st' := aA 0 :: _) rfl rfl ?_
  refine E_s (p' := 877) (st' := aI 0 :: _) rfl rfl ?_
  refine E_s (p' := 878) (st' := aI 3 :: _) rfl rfl ?_
  refine E_s (p' := 879) (st' := aI 3 :: _) rfl rfl ?_
  refine E_scr rfl rfl h3 ?_
  refine E_callL (p' := 883) (L0 := [some (aA 1), some (aI 2), some (aI a2), some (aI a3), none, none]) rfl rfl rfl ?_
  refine E_s (p' := 1) (st' := aA 1 :: _) rfl rfl ?_
  refine E_s (p' := 2) (st' := aI 2 :: _) rfl rfl ?_
  refine E_callL (p' := 5) (L0 := [some (aA 1), some (aI 2), none]) rfl rfl rfl ?_
  refine E_s (p' := 1) (st' := aA 1 :: _) rfl rfl ?_
  refine E_s (p' := 2) (st' := aI 2 :: _) rfl rfl ?_
  refine E_callL (p' := 5) (L0 := [some (aA 1), some (aI 2)]) rfl rfl rfl ?_
  refine E_s (p' := 1) (st' := aI 2 :: _) rfl rfl ?_
  refine E_s (p' := 4) rfl rfl ?_
  refine E_s (p' := 5) (st' := aI 2 :: _) rfl rfl ?_
  refine E_s (p' := 6) (st' := aI 4 :: _) rfl rfl ?_
  refine E_s (p' := 9) rfl rfl ?_
  refine E_s (p' := 10) (st' := aA 1 :: _) rfl rfl ?_
  refine E_s (p' := 13) (st' := aA 2 :: _) rfl rfl ?_
  refine E_s (p' := 14) (st' := aI 2 :: _) rfl rfl ?_
  refine E_s (p' := 15) (st' := aA 72 :: _) rfl rfl ?_
  refine E_s (p' := 19) rfl rfl ?_
  refine E_ret rfl rfl ?_
  refine E_s (p' := 6) (L' := [some (aA 1), some (aI 2), some (aA 72)]) rfl rfl ?_
  refine E_s (p' := 7) (st' := aA 72 :: _) rfl rfl ?_
  refine E_s (p' := 10) rfl rfl ?_
  refine E_s (p' := 11) (st' := aA 72 :: _) rfl rfl ?_
  refine E_callL (p' := 14) (L0 := [some (aA 72)]) rfl rfl rfl ?_
  refine E_s (p' := 1) (st' := aA 72 :: _) rfl rfl ?_
  refine E_s (p' := 4) (st' := aI 0 :: _) rfl rfl ?_
  refine E_s (p' := 7) rfl rfl ?_
  refine E_s (p' := 8) (st' := aA 72 :: _) rfl rfl ?_
  refine E_s (p' := 11) (st' := aA 87 :: _) rfl rfl ?_
  refine E_s (p' := 12) (st' := aA 72 :: _) rfl rfl ?_
  refine E_s (p' := 15) (st' := aA 73 :: _) rfl rfl ?_
  refine E_s (p' := 16) (st' := aA 72 :: _) rfl rfl ?_
  refine E_s (p' := 19) (st' := aI 15 :: _) rfl rfl ?_
  refine E_callL (p' := 22) (L0 := [some (aA 87), some (aA 73), some (aI 15), none]) rfl rfl rfl ?_
  refine E_s (p' := 1) (st' := aA 87 :: _) rfl rfl ?_
  refine E_s (p' := 2) (st' := aA 73 :: _) rfl rfl ?_
  refine E_callL (p' := 5) (L0 := [some (aA 87), some (aA 73), none, none]) rfl rfl rfl ?_
  refine E_s (p' := 1) (st' := aA 87 :: _) rfl rfl ?_
  refine E_s (p' := 4) (st' := aA 96 :: _) rfl rfl ?_
  refine E_s (p' := 5) (st' := aI 0 :: _) rfl rfl ?_
  refine E_call rfl rfl ?_
  refine c_fill rfl rfl ?_
  refine E_s (p' := 9) (st' := aA 87 :: _) rfl rfl ?_
  refine E_s (p' := 12) (st' := aA 92 :: _) rfl rfl ?_
  refine E_s (p' := 13) (st' := aI 0 :: _) rfl rfl ?_
  refine E_call rfl rfl ?_
  refine c_fill rfl rfl ?_
  refine E_s (p' := 17) (st' := aA 87 :: _) rfl rfl ?_
  refine E_s (p' := 18) (st' := aI 0 :: _) rfl rfl ?_
  refine E_stM (p' := 21) (m' := up2 _ 87 10 0) rfl rfl ?_
  refine E_s (p' := 22) (st' := aA 87 :: _) rfl rfl ?_
  refine E_s (p' := 23) (st' := aI 0 :: _) rfl rfl ?_
  refine E_stM (p' := 26) (m' := up2 _ 87 11 0) rfl rfl ?_
  refine E_s (p' := 27) (st' := aI 0 :: _) rfl rfl ?_
  refine E_s (p' := 28) (L' := [some (aA 87), some (aA 73), some (aI 0), none]) rfl rfl ?_
  refine E_s (p' := 29) (st' := aI 0 :: _) rfl rfl ?_
  refine E_s (p' := 30) (st' := aA 73 :: _) rfl rfl ?_
  refine E_s (p' := 33) (st' := aI 0 :: _) rfl rfl ?_
  refine E_s (p' := 135) rfl rfl ?_
  refine E_ret rfl rfl ?_
  refine E_s (p' := 6) (st' := aA 87 :: _) rfl rfl ?_
  refine E_s (p' := 7) (st' := aI 15 :: _) rfl rfl ?_
  refine E_callL (p' := 10) (L0 := [some (aA 87), some (aI 15), none]) rfl rfl rfl ?_
  refine E_s (p' := 1) (st' := aA 87 :: _) rfl rfl ?_
  refine E_s (p' := 2) (st' := aI 0 :: _) rfl rfl ?_
  refine E_stM (p' := 5) (m' := up2 _ 87 12 0) rfl rfl ?_
  refine E_s (p' := 6) (st' := aI 1 :: _) rfl rfl ?_
  refine E_s (p' := 7) (L' := [some (aA 87), some (aI 15), some (aI 1)]) rfl rfl ?_
  refine fl_loop (gp := 0) (by decide) _ 600 1 _ rfl (fun j hj => show (if 0 ≤ j ∧ j < 601 then (0 : Int) else _) = 0 from if_pos ⟨Nat.zero_le _, hj⟩) ?_
  refine E_s (p' := 11) (st' := aA 87 :: _) rfl rfl ?_
  refine E_s (p' := 14) (st' := aI 0 :: _) rfl rfl ?_
  refine E_s (p' := 17) rfl rfl ?_
  refine E_s (p' := 18) (st' := aA 87 :: _) rfl rfl ?_
  refine E_callL (p' := 21) (L0 := [some (aA 87)]) rfl rfl rfl ?_
  refine E_s (p' := 1) (st' := aA 87 :: _) rfl rfl ?_
  refine E_s (p' := 4) (st' := aA 93 :: _) rfl rfl ?_
  refine E_s (p' := 5) (st' := aA 87 :: _) rfl rfl ?_
  refine E_s (p' := 8) (st' := aI 0 :: _) rfl rfl ?_
  refine E_s (p' := 15) rfl rfl ?_
  refine E_s (p' := 16) (st' := aI 0 :: _) rfl rfl ?_
  refine E_call rfl rfl ?_
  refine c_fill rfl rfl ?_
  refine E_s (p' := 20) (st' := aA 87 :: _) rfl rfl ?_
  refine E_s (p' := 23) (st' := aA 94 :: _) rfl rfl ?_
  refine E_s (p' := 24) (st' := aI 0 :: _) rfl rfl ?_
  refine E_call rfl rfl ?_
  refine c_fill rfl rfl ?_
  refine E_s (p' := 28) (st' := aA 87 :: _) rfl rfl ?_
  refine E_s (p' := 31) (st' := aA 95 :: _) rfl rfl ?_
  refine E_s (p' := 32) (st' := aI 0 :: _) rfl rfl ?_
  refine E_call rfl rfl ?_
  refine c_fill rfl rfl ?_
  refine E_ret rfl rfl ?_
  refine E_ret rfl rfl ?_
  refine E_s (p' := 23) (st' := aA 72 :: _) rfl rfl ?_
  refine E_s (p' := 24) (st' := aI 1 :: _) rfl rfl ?_
  refine E_stM (p' := 27) (m' := up2 _ 72 7 1) rfl rfl ?_
  refine E_s (p' := 28) (st' := aA 72 :: _) rfl rfl ?_
  refine E_s (p' := 31) (st' := aA 87 :: _) rfl rfl ?_
  refine E_ret rfl rfl ?_
  refine E_s (p' := 15) rfl rfl ?_
  refine E_s (p' := 16) (st' := aA 72 :: _) rfl rfl ?_
  refine E_ret rfl rfl ?_
  refine E_s (p' := 7) (L' := [some (aA 1), some (aI 2), some (aI a2), some (aI a3), some (aA 72), none]) rfl rfl ?_
  refine E_s (p' := 9) (st' := aA 72 :: _) rfl rfl ?_
  refine E_s (p' := 12) rfl rfl ?_
  refine E_s (p' := 13) rfl rfl ?_
  refine E_if_lt rfl (by decide) (fun _ => ?_) (fun _ => ?_)
  · refine E_s (p' := 29) (st' := aI (-1) :: _) rfl rfl ?_
    refine E_ret rfl rfl ?_
    refine E_s (p' := 884) (st' := aA 124 :: _) rfl rfl ?_
    refine E_s (p' := 885) (st' := aA 0 :: _) rfl rfl ?_
    refine E_s (p' := 886) (st' := aI 0 :: _) rfl rfl ?_
    refine E_s (p' := 887) (st' := aI 1 :: _) rfl rfl ?_
    refine E_s (p' := 888) (st' := aI 1 :: _) rfl rfl ?_
    refine E_scr rfl rfl h1 ?_
    refine E_s (p' := 890) (st' := aA 0 :: _) rfl rfl ?_
    refine E_s (p' := 891) (st' := aI 0 :: _) rfl rfl ?_
    refine E_s (p' := 892) (st' := aI 2 :: _) rfl rfl ?_
    refine E_s (p' := 893) (st' := aI 2 :: _) rfl rfl ?_
    refine E_scr rfl rfl h2 ?_
    refine E_s (p' := 895) (st' := aA 0 :: _) rfl rfl ?_
    refine E_s (p' := 896) (st' := aI 0 :: _) rfl rfl ?_
    refine E_s (p' := 897) (st' := aI 3 :: _) rfl rfl ?_
    refine E_s (p' := 898) (st' := aI 3 :: _) rfl rfl ?_
    refine E_scr rfl rfl h3 ?_
    refine E_callL (p' := 902) (L0 := [some (aA 124), some (aI 2), some (aI a2), some (aI a3), none, none, none, none]) rfl rfl rfl ?_
    refine E_s (p' := 1) (st' := aI 2 :: _) rfl rfl ?_
    refine E_callL (p' := 4) (L0 := [some (aI 2)]) rfl rfl rfl ?_
    refine E_s (p' := 1) (st' := aI 2 :: _) rfl rfl ?_
    refine E_s (p' := 2) (st' := aI 0 :: _) rfl rfl ?_
    refine E_s (p' := 3) (st' := aI 3 :: _) rfl rfl ?_
    refine E_callL (p' := 6) (L0 := [some (aI 2), some (aI 0), some (aI 3)]) rfl rfl rfl ?_
    refine E_s (p' := 1) (st' := aI 2 :: _) rfl rfl ?_
    refine E_s (p' := 2) (st' := aI 0 :: _) rfl rfl ?_
    refine E_s (p' := 5) rfl rfl ?_
    refine E_s (p' := 6) (st' := aI 2 :: _) rfl rfl ?_
    refine E_s (p' := 7) (st' := aI 3 :: _) rfl rfl ?_
    refine E_s (p' := 10) rfl rfl ?_
    refine E_s (p' := 11) (st' := aI 1 :: _) rfl rfl ?_
    refine E_s (p' := 15) rfl rfl ?_
    refine E_ret rfl rfl ?_
    refine E_ret rfl rfl ?_
    refine E_s (p' := 7) rfl rfl ?_
    refine E_s (p' := 8) rfl rfl ?_
    refine E_s (p' := 9) (st' := aI 0 :: _) rfl rfl ?_
    refine E_s (p' := 10) (st' := aA 124 :: _) rfl rfl ?_
    refine E_s (p' := 13) (st' := aA 136 :: _) rfl rfl ?_
    refine E_s (p' := 14) (st' := aI 2 :: _) rfl rfl ?_
    refine E_s (p' := 15) (st' := aI 0 :: _) rfl rfl ?_
    refine E_s (p' := 16) (st' := aI 1 :: _) rfl rfl ?_
    refine E_isubv (v := -1) rfl (show (0 : Int) - 1 = -1 from rfl) (by decide) ?_
    refine E_callL (p' := 20) (L0 := [some (aI a2), some (aI 0), some (aI (-1))]) rfl rfl rfl ?_
    refine E_s (p' := 1) rfl rfl ?_
    refine E_s (p' := 2) (st' := aI 0 :: _) rfl rfl ?_
    refine E_icmp_lt (y := 0) rfl (by decide) (fun _ => ?_) (fun q => absurd q (by omega))
    refine E_s (p' := 15) (st' := aI 0 :: _) rfl rfl ?_
    refine E_ret rfl rfl ?_
    refine E_s (p' := 23) rfl rfl ?_
    refine E_s (p' := 24) (st' := aI (-1) :: _) rfl rfl ?_
    refine E_ret rfl rfl ?_
    refine E_s (p' := 1174) rfl rfl ?_
    refine E_s (p' := 1177) (L' := [some (aA 0), some (aA 1), some (aA 124), some (aI 6)]) rfl rfl ?_
    refine E_s (p' := 18) rfl rfl ?_
    refine E_s (p' := 19) (st' := aI 6 :: _) rfl rfl ?_
    refine E_s (p' := 20) (st' := aA 0 :: _) rfl rfl ?_
    refine E_s (p' := 21) (st' := aI 6 :: _) rfl rfl ?_
    refine E_s (p' := 23) (st' := aI 6 :: _) rfl rfl ?_
    refine E_s (p' := 24) (st' := aI 0 :: _) rfl rfl ?_
    refine E_s (p' := 1180) rfl rfl ?_
    refine E_s (p' := 1181) (st' := aI 1 :: _) rfl rfl ?_
    exact E_ret rfl rfl ⟨rfl, rfl⟩
  · refine E_s (p' := 17) rfl rfl ?_
    refine E_s (p' := 19) (st' := aA 72 :: _) rfl rfl ?_
    refine E_s (p' := 22) (st' := aA 81 :: _) rfl rfl ?_
    refine E_s (p' := 25) (st' := aI 0 :: _) rfl rfl ?_
    refine E_icmp_lt (y := 0) rfl (by decide) (fun q => absurd q (by omega)) (fun _ => ?_)
    refine E_s (p' := 29) (st' := aI (-1) :: _) rfl rfl ?_
    refine E_ret rfl rfl ?_
    refine E_s (p' := 884) (st' := aA 124 :: _) rfl rfl ?_
    refine E_s (p' := 885) (st' := aA 0 :: _) rfl rfl ?_
    refine E_s (p' := 886) (st' := aI 0 :: _) rfl rfl ?_
    refine E_s (p' := 887) (st' := aI 1 :: _) rfl rfl ?_
    refine E_s (p' := 888) (st' := aI 1 :: _) rfl rfl ?_
    refine E_scr rfl rfl h1 ?_
    refine E_s (p' := 890) (st' := aA 0 :: _) rfl rfl ?_
    refine E_s (p' := 891) (st' := aI 0 :: _) rfl rfl ?_
    refine E_s (p' := 892) (st' := aI 2 :: _) rfl rfl ?_
    refine E_s (p' := 893) (st' := aI 2 :: _) rfl rfl ?_
    refine E_scr rfl rfl h2 ?_
    refine E_s (p' := 895) (st' := aA 0 :: _) rfl rfl ?_
    refine E_s (p' := 896) (st' := aI 0 :: _) rfl rfl ?_
    refine E_s (p' := 897) (st' := aI 3 :: _) rfl rfl ?_
    refine E_s (p' := 898) (st' := aI 3 :: _) rfl rfl ?_
    refine E_scr rfl rfl h3 ?_
    refine E_callL (p' := 902) (L0 := [some (aA 124), some (aI 2), some (aI a2), some (aI a3), none, none, none, none]) rfl rfl rfl ?_
    refine E_s (p' := 1) (st' := aI 2 :: _) rfl rfl ?_
    refine E_callL (p' := 4) (L0 := [some (aI 2)]) rfl rfl rfl ?_
    refine E_s (p' := 1) (st' := aI 2 :: _) rfl rfl ?_
    refine E_s (p' := 2) (st' := aI 0 :: _) rfl rfl ?_
    refine E_s (p' := 3) (st' := aI 3 :: _) rfl rfl ?_
    refine E_callL (p' := 6) (L0 := [some (aI 2), some (aI 0), some (aI 3)]) rfl rfl rfl ?_
    refine E_s (p' := 1) (st' := aI 2 :: _) rfl rfl ?_
    refine E_s (p' := 2) (st' := aI 0 :: _) rfl rfl ?_
    refine E_s (p' := 5) rfl rfl ?_
    refine E_s (p' := 6) (st' := aI 2 :: _) rfl rfl ?_
    refine E_s (p' := 7) (st' := aI 3 :: _) rfl rfl ?_
    refine E_s (p' := 10) rfl rfl ?_
    refine E_s (p' := 11) (st' := aI 1 :: _) rfl rfl ?_
    refine E_s (p' := 15) rfl rfl ?_
    refine E_ret rfl rfl ?_
    refine E_ret rfl rfl ?_
    refine E_s (p' := 7) rfl rfl ?_
    refine E_s (p' := 8) rfl rfl ?_
    refine E_s (p' := 9) (st' := aI 0 :: _) rfl rfl ?_
    refine E_s (p' := 10) (st' := aA 124 :: _) rfl rfl ?_
    refine E_s (p' := 13) (st' := aA 136 :: _) rfl rfl ?_
    refine E_s (p' := 14) (st' := aI 2 :: _) rfl rfl ?_
    refine E_s (p' := 15) (st' := aI 0 :: _) rfl rfl ?_
    refine E_s (p' := 16) (st' := aI 1 :: _) rfl rfl ?_
    refine E_isubv (v := -1) rfl (show (0 : Int) - 1 = -1 from rfl) (by decide) ?_
    refine E_callL (p' := 20) (L0 := [some (aI a2), some (aI 0), some (aI (-1))]) rfl rfl rfl ?_
    refine E_s (p' := 1) rfl rfl ?_
    refine E_s (p' := 2) (st' := aI 0 :: _) rfl rfl ?_
    refine E_icmp_lt (y := 0) rfl (by decide) (fun q => absurd q (by omega)) (fun _ => ?_)
    refine E_s (p' := 6) rfl rfl ?_
    refine E_s (p' := 7) (st' := aI (-1) :: _) rfl rfl ?_
    refine E_icmp_gt (y := (-1)) rfl (by decide) (fun _ => ?_) (fun q => absurd q (by omega))
    refine E_s (p' := 15) (st' := aI 0 :: _) rfl rfl ?_
    refine E_ret rfl rfl ?_
    refine E_s (p' := 23) rfl rfl ?_
    refine E_s (p' := 24) (st' := aI (-1) :: _) rfl rfl ?_
    refine E_ret rfl rfl ?_
    refine E_s (p' := 1174) rfl rfl ?_
    refine E_s (p' := 1177) (L' := [some (aA 0), some (aA 1), some (aA 124), some (aI 6)]) rfl rfl ?_
    refine E_s (p' := 18) rfl rfl ?_
    refine E_s (p' := 19) (st' := aI 6 :: _) rfl rfl ?_
    refine E_s (p' := 20) (st' := aA 0 :: _) rfl rfl ?_
    refine E_s (p' := 21) (st' := aI 6 :: _) rfl rfl ?_
    refine E_s (p' := 23) (st' := aI 6 :: _) rfl rfl ?_
    refine E_s (p' := 24) (st' := aI 0 :: _) rfl rfl ?_
    refine E_s (p' := 1180) rfl rfl ?_
    refine E_s (p' := 1181) (st' := aI 1 :: _) rfl rfl ?_
    exact E_ret rfl rfl ⟨rfl, rfl⟩
set_option maxRecDepth 100000 in
set_option maxHeartbeats 40000000 in
theorem pc_18_3 (xs : Nat → Int) {z a2 a3 a4 a5 : Int} (hz : b32 (fun a b => a &&& b) z 31 = 18) (h0 : xs 0 = z) (h1 : xs 1 = 3) (h2 : xs 2 = a2) (h3 : xs 3 = a3) (h4 : xs 4 = a4) (h5 : xs 5 = a5) : E 0 18 LL [] (s0 xs 6) PQ := by
  refine E_s (p' := 19) (st' := aI 0 :: _) rfl rfl ?_
  refine E_s (p' := 20) (st' := aA 0 :: _) rfl rfl ?_
  refine E_s (p' := 21) (st' := aI 6 :: _) rfl rfl ?_
  refine E_s (p' := 23) (st' := aI 6 :: _) rfl rfl ?_
  refine E_s (p' := 24) (st' := aI 0 :: _) rfl rfl ?_
  refine E_s (p' := 27) rfl rfl ?_
  refine E_s (p' := 28) (st' := aA 0 :: _) rfl rfl ?_
  refine E_s (p' := 29) (st' := aI 0 :: _) rfl rfl ?_
  refine E_scr rfl rfl h0 ?_
  refine E_s (p' := 32) (st' := aI 31 :: _) rfl rfl ?_
  refine E_s (p' := 33) rfl rfl ?_
  refine E_val hz ?_
  refine E_s (p' := 864) rfl rfl ?_
  refine E_s (p' := 865) (st' := aA 1 :: _) rfl rfl ?_
  refine E_s (p' := 866) (st' := aA 0 :: _) rfl rfl ?_
  refine E_s (p' := 867) (st' := aI 0 :: _) rfl rfl ?_
  refine E_s (p' := 868) (st' := aI 1 :: _) rfl rfl ?_
  refine E_s (p' := 869) (st' := aI 1 :: _) rfl rfl ?_
  refine E_scr rfl rfl h1 ?_
  refine E_s (p' := 871) (st' := aA 0 :: _) rfl rfl ?_
  refine E_s (p' := 872) (st' := aI 0 :: _) rfl rfl ?_
  refine E_s (p' := 873) (st' := aI 2 :: _) rfl rfl ?_
  refine E_s (p' := 874) (st' := aI 2 :: _) rfl rfl ?_
  refine E_scr rfl rfl h2 ?_
  refine E_s (p' := 876) (st' := aA 0 :: _) rfl rfl ?_
  refine E_s (p' := 877) (st' := aI 0 :: _) rfl rfl ?_
  refine E_s (p' := 878) (st' := aI 3 :: _) rfl rfl ?_
  refine E_s (p' := 879) (st' := aI 3 :: _) rfl rfl ?_
  refine E_scr rfl rfl h3 ?_
  refine E_callL (p' := 883) (L0 := [some (aA 1), some (aI 3), some (aI a2), some (aI a3), none, none]) rfl rfl rfl ?_
  refine E_s (p' := 1) (st' := aA 1 :: _) rfl rfl ?_
  refine E_s (p' := 2) (st' := aI 3 :: _) rfl rfl ?_
  refine E_callL (p' := 5) (L0 := [some (aA 1), some (aI 3), none]) rfl rfl rfl ?_
  refine E_s (p' := 1) (st' := aA 1 :: _) rfl rfl ?_
  refine E_s (p' := 2) (st' := aI 3 :: _) rfl rfl ?_
  refine E_callL (p' := 5) (L0 := [some (aA 1), some (aI 3)]) rfl rfl rfl ?_
  refine E_s (p' := 1) (st' := aI 3 :: _) rfl rfl ?_
  refine E_s (p' := 4) rfl rfl ?_
  refine E_s (p' := 5) (st' := aI 3 :: _) rfl rfl ?_
  refine E_s (p' := 6) (st' := aI 4 :: _) rfl rfl ?_
  refine E_s (p' := 9) rfl rfl ?_
  refine E_s (p' := 10) (st' := aA 1 :: _) rfl rfl ?_
  refine E_s (p' := 13) (st' := aA 2 :: _) rfl rfl ?_
  refine E_s (p' := 14) (st' := aI 3 :: _) rfl rfl ?_
  refine E_s (p' := 15) (st' := aA 98 :: _) rfl rfl ?_
  refine E_s (p' := 19) rfl rfl ?_
  refine E_ret rfl rfl ?_
  refine E_s (p' := 6) (L' := [some (aA 1), some (aI 3), some (aA 98)]) rfl rfl ?_
  refine E_s (p' := 7) (st' := aA 98 :: _) rfl rfl ?_
  refine E_s (p' := 10) rfl rfl ?_
  refine E_s (p' := 11) (st' := aA 98 :: _) rfl rfl ?_
  refine E_callL (p' := 14) (L0 := [some (aA 98)]) rfl rfl rfl ?_
  refine E_s (p' := 1) (st' := aA 98 :: _) rfl rfl ?_
  refine E_s (p' := 4) (st' := aI 0 :: _) rfl rfl ?_
  refine E_s (p' := 7) rfl rfl ?_
  refine E_s (p' := 8) (st' := aA 98 :: _) rfl rfl ?_
  refine E_s (p' := 11) (st' := aA 113 :: _) rfl rfl ?_
  refine E_s (p' := 12) (st' := aA 98 :: _) rfl rfl ?_
  refine E_s (p' := 15) (st' := aA 99 :: _) rfl rfl ?_
  refine E_s (p' := 16) (st' := aA 98 :: _) rfl rfl ?_
  refine E_s (p' := 19) (st' := aI 15 :: _) rfl rfl ?_
  refine E_callL (p' := 22) (L0 := [some (aA 113), some (aA 99), some (aI 15), none]) rfl rfl rfl ?_
  refine E_s (p' := 1) (st' := aA 113 :: _) rfl rfl ?_
  refine E_s (p' := 2) (st' := aA 99 :: _) rfl rfl ?_
  refine E_callL (p' := 5) (L0 := [some (aA 113), some (aA 99), none, none]) rfl rfl rfl ?_
  refine E_s (p' := 1) (st' := aA 113 :: _) rfl rfl ?_
  refine E_s (p' := 4) (st' := aA 122 :: _) rfl rfl ?_
  refine E_s (p' := 5) (st' := aI 0 :: _) rfl rfl ?_
  refine E_call rfl rfl ?_
  refine c_fill rfl rfl ?_
  refine E_s (p' := 9) (st' := aA 113 :: _) rfl rfl ?_
  refine E_s (p' := 12) (st' := aA 118 :: _) rfl rfl ?_
  refine E_s (p' := 13) (st' := aI 0 :: _) rfl rfl ?_
  refine E_call rfl rfl ?_
  refine c_fill rfl rfl ?_
  refine E_s (p' := 17) (st' := aA 113 :: _) rfl rfl ?_
  refine E_s (p' := 18) (st' := aI 0 :: _) rfl rfl ?_
  refine E_stM (p' := 21) (m' := up2 _ 113 10 0) rfl rfl ?_
  refine E_s (p' := 22) (st' := aA 113 :: _) rfl rfl ?_
  refine E_s (p' := 23) (st' := aI 0 :: _) rfl rfl ?_
  refine E_stM (p' := 26) (m' := up2 _ 113 11 0) rfl rfl ?_
  refine E_s (p' := 27) (st' := aI 0 :: _) rfl rfl ?_
  refine E_s (p' := 28) (L' := [some (aA 113), some (aA 99), some (aI 0), none]) rfl rfl ?_
  refine E_s (p' := 29) (st' := aI 0 :: _) rfl rfl ?_
  refine E_s (p' := 30) (st' := aA 99 :: _) rfl rfl ?_
  refine E_s (p' := 33) (st' := aI 0 :: _) rfl rfl ?_
  refine E_s (p' := 135) rfl rfl ?_
  refine E_ret rfl rfl ?_
  refine E_s (p' := 6) (st' := aA 113 :: _) rfl rfl ?_
  refine E_s (p' := 7) (st' := aI 15 :: _) rfl rfl ?_
  refine E_callL (p' := 10) (L0 := [some (aA 113), some (aI 15), none]) rfl rfl rfl ?_
  refine E_s (p' := 1) (st' := aA 113 :: _) rfl rfl ?_
  refine E_s (p' := 2) (st' := aI 0 :: _) rfl rfl ?_
  refine E_stM (p' := 5) (m' := up2 _ 113 12 0) rfl rfl ?_
  refine E_s (p' := 6) (st' := aI 1 :: _) rfl rfl ?_
  refine E_s (p' := 7) (L' := [some (aA 113), some (aI 15), some (aI 1)]) rfl rfl ?_
  refine fl_loop (gp := 0) (by decide) _ 600 1 _ rfl (fun j hj => show (if 0 ≤ j ∧ j < 601 then (0 : Int) else _) = 0 from if_pos ⟨Nat.zero_le _, hj⟩) ?_
  refine E_s (p' := 11) (st' := aA 113 :: _) rfl rfl ?_
  refine E_s (p' := 14) (st' := aI 0 :: _) rfl rfl ?_
  refine E_s (p' := 17) rfl rfl ?_
  refine E_s (p' := 18) (st' := aA 113 :: _) rfl rfl ?_
  refine E_callL (p' := 21) (L0 := [some (aA 113)]) rfl rfl rfl ?_
  refine E_s (p' := 1) (st' := aA 113 :: _) rfl rfl ?_
  refine E_s (p' := 4) (st' := aA 119 :: _) rfl rfl ?_
  refine E_s (p' := 5) (st' := aA 113 :: _) rfl rfl ?_
  refine E_s (p' := 8) (st' := aI 0 :: _) rfl rfl ?_
  refine E_s (p' := 15) rfl rfl ?_
  refine E_s (p' := 16) (st' := aI 0 :: _) rfl rfl ?_
  refine E_call rfl rfl ?_
  refine c_fill rfl rfl ?_
  refine E_s (p' := 20) (st' := aA 113 :: _) rfl rfl ?_
  refine E_s (p' := 23) (st' := aA 120 :: _) rfl rfl ?_
  refine E_s (p' := 24) (st' := aI 0 :: _) rfl rfl ?_
  refine E_call rfl rfl ?_
  refine c_fill rfl rfl ?_
  refine E_s (p' := 28) (st' := aA 113 :: _) rfl rfl ?_
  refine E_s (p' := 31) (st' := aA 121 :: _) rfl rfl ?_
  refine E_s (p' := 32) (st' := aI 0 :: _) rfl rfl ?_
  refine E_call rfl rfl ?_
  refine c_fill rfl rfl ?_
  refine E_ret rfl rfl ?_
  refine E_ret rfl rfl ?_
  refine E_s (p' := 23) (st' := aA 98 :: _) rfl rfl ?_
  refine E_s (p' := 24) (st' := aI 1 :: _) rfl rfl ?_
  refine E_stM (p' := 27) (m' := up2 _ 98 7 1) rfl rfl ?_
  refine E_s (p' := 28) (st' := aA 98 :: _) rfl rfl ?_
  refine E_s (p' := 31) (st' := aA 113 :: _) rfl rfl ?_
  refine E_ret rfl rfl ?_
  refine E_s (p' := 15) rfl rfl ?_
  refine E_s (p' := 16) (st' := aA 98 :: _) rfl rfl ?_
  refine E_ret rfl rfl ?_
  refine E_s (p' := 7) (L' := [some (aA 1), some (aI 3), some (aI a2), some (aI a3), some (aA 98), none]) rfl rfl ?_
  refine E_s (p' := 9) (st' := aA 98 :: _) rfl rfl ?_
  refine E_s (p' := 12) rfl rfl ?_
  refine E_s (p' := 13) rfl rfl ?_
  refine E_if_lt rfl (by decide) (fun _ => ?_) (fun _ => ?_)
  · refine E_s (p' := 29) (st' := aI (-1) :: _) rfl rfl ?_
    refine E_ret rfl rfl ?_
    refine E_s (p' := 884) (st' := aA 124 :: _) rfl rfl ?_
    refine E_s (p' := 885) (st' := aA 0 :: _) rfl rfl ?_
    refine E_s (p' := 886) (st' := aI 0 :: _) rfl rfl ?_
    refine E_s (p' := 887) (st' := aI 1 :: _) rfl rfl ?_
    refine E_s (p' := 888) (st' := aI 1 :: _) rfl rfl ?_
    refine E_scr rfl rfl h1 ?_
    refine E_s (p' := 890) (st' := aA 0 :: _) rfl rfl ?_
    refine E_s (p' := 891) (st' := aI 0 :: _) rfl rfl ?_
    refine E_s (p' := 892) (st' := aI 2 :: _) rfl rfl ?_
    refine E_s (p' := 893) (st' := aI 2 :: _) rfl rfl ?_
    refine E_scr rfl rfl h2 ?_
    refine E_s (p' := 895) (st' := aA 0 :: _) rfl rfl ?_
    refine E_s (p' := 896) (st' := aI 0 :: _) rfl rfl ?_
    refine E_s (p' := 897) (st' := aI 3 :: _) rfl rfl ?_
    refine E_s (p' := 898) (st' := aI 3 :: _) rfl rfl ?_
    refine E_scr rfl rfl h3 ?_
    refine E_callL (p' := 902) (L0 := [some (aA 124), some (aI 3), some (aI a2), some (aI a3), none, none, none, none]) rfl rfl rfl ?_
    refine E_s (p' := 1) (st' := aI 3 :: _) rfl rfl ?_
    refine E_callL (p' := 4) (L0 := [some (aI 3)]) rfl rfl rfl ?_
    refine E_s (p' := 1) (st' := aI 3 :: _) rfl rfl ?_
    refine E_s (p' := 2) (st' := aI 0 :: _) rfl rfl ?_
    refine E_s (p' := 3) (st' := aI 3 :: _) rfl rfl ?_
    refine E_callL (p' := 6) (L0 := [some (aI 3), some (aI 0), some (aI 3)]) rfl rfl rfl ?_
    refine E_s (p' := 1) (st' := aI 3 :: _) rfl rfl ?_
    refine E_s (p' := 2) (st' := aI 0 :: _) rfl rfl ?_
    refine E_s (p' := 5) rfl rfl ?_
    refine E_s (p' := 6) (st' := aI 3 :: _) rfl rfl ?_
    refine E_s (p' := 7) (st' := aI 3 :: _) rfl rfl ?_
    refine E_s (p' := 10) rfl rfl ?_
    refine E_s (p' := 11) (st' := aI 1 :: _) rfl rfl ?_
    refine E_s (p' := 15) rfl rfl ?_
    refine E_ret rfl rfl ?_
    refine E_ret rfl rfl ?_
    refine E_s (p' := 7) rfl rfl ?_
    refine E_s (p' := 8) rfl rfl ?_
    refine E_s (p' := 9) (st' := aI 0 :: _) rfl rfl ?_
    refine E_s (p' := 10) (st' := aA 124 :: _) rfl rfl ?_
    refine E_s (p' := 13) (st' := aA 136 :: _) rfl rfl ?_
    refine E_s (p' := 14) (st' := aI 3 :: _) rfl rfl ?_
    refine E_s (p' := 15) (st' := aI 0 :: _) rfl rfl ?_
    refine E_s (p' := 16) (st' := aI 1 :: _) rfl rfl ?_
    refine E_isubv (v := -1) rfl (show (0 : Int) - 1 = -1 from rfl) (by decide) ?_
    refine E_callL (p' := 20) (L0 := [some (aI a2), some (aI 0), some (aI (-1))]) rfl rfl rfl ?_
    refine E_s (p' := 1) rfl rfl ?_
    refine E_s (p' := 2) (st' := aI 0 :: _) rfl rfl ?_
    refine E_icmp_lt (y := 0) rfl (by decide) (fun _ => ?_) (fun q => absurd q (by omega))
    refine E_s (p' := 15) (st' := aI 0 :: _) rfl rfl ?_
    refine E_ret rfl rfl ?_
    refine E_s (p' := 23) rfl rfl ?_
    refine E_s (p' := 24) (st' := aI (-1) :: _) rfl rfl ?_
    refine E_ret rfl rfl ?_
    refine E_s (p' := 1174) rfl rfl ?_
    refine E_s (p' := 1177) (L' := [some (aA 0), some (aA 1), some (aA 124), some (aI 6)]) rfl rfl ?_
    refine E_s (p' := 18) rfl rfl ?_
    refine E_s (p' := 19) (st' := aI 6 :: _) rfl rfl ?_
    refine E_s (p' := 20) (st' := aA 0 :: _) rfl rfl ?_
    refine E_s (p' := 21) (st' := aI 6 :: _) rfl rfl ?_
    refine E_s (p' := 23) (st' := aI 6 :: _) rfl rfl ?_
    refine E_s (p' := 24) (st' := aI 0 :: _) rfl rfl ?_
    refine E_s (p' := 1180) rfl rfl ?_
    refine E_s (p' := 1181) (st' := aI 1 :: _) rfl rfl ?_
    exact E_ret rfl rfl ⟨rfl, rfl⟩
  · refine E_s (p' := 17) rfl rfl ?_
    refine E_s (p' := 19) (st' := aA 98 :: _) rfl rfl ?_
    refine E_s (p' := 22) (st' := aA 107 :: _) rfl rfl ?_
    refine E_s (p' := 25) (st' := aI 0 :: _) rfl rfl ?_
    refine E_icmp_lt (y := 0) rfl (by decide) (fun q => absurd q (by omega)) (fun _ => ?_)
    refine E_s (p' := 29) (st' := aI (-1) :: _) rfl rfl ?_
    refine E_ret rfl rfl ?_
    refine E_s (p' := 884) (st' := aA 124 :: _) rfl rfl ?_
    refine E_s (p' := 885) (st' := aA 0 :: _) rfl rfl ?_
    refine E_s (p' := 886) (st' := aI 0 :: _) rfl rfl ?_
    refine E_s (p' := 887) (st' := aI 1 :: _) rfl rfl ?_
    refine E_s (p' := 888) (st' := aI 1 :: _) rfl rfl ?_
    refine E_scr rfl rfl h1 ?_
    refine E_s (p' := 890) (st' := aA 0 :: _) rfl rfl ?_
    refine E_s (p' := 891) (st' := aI 0 :: _) rfl rfl ?_
    refine E_s (p' := 892) (st' := aI 2 :: _) rfl rfl ?_
    refine E_s (p' := 893) (st' := aI 2 :: _) rfl rfl ?_
    refine E_scr rfl rfl h2 ?_
    refine E_s (p' := 895) (st' := aA 0 :: _) rfl rfl ?_
    refine E_s (p' := 896) (st' := aI 0 :: _) rfl rfl ?_
    refine E_s (p' := 897) (st' := aI 3 :: _) rfl rfl ?_
    refine E_s (p' := 898) (st' := aI 3 :: _) rfl rfl ?_
    refine E_scr rfl rfl h3 ?_
    refine E_callL (p' := 902) (L0 := [some (aA 124), some (aI 3), some (aI a2), some (aI a3), none, none, none, none]) rfl rfl rfl ?_
    refine E_s (p' := 1) (st' := aI 3 :: _) rfl rfl ?_
    refine E_callL (p' := 4) (L0 := [some (aI 3)]) rfl rfl rfl ?_
    refine E_s (p' := 1) (st' := aI 3 :: _) rfl rfl ?_
    refine E_s (p' := 2) (st' := aI 0 :: _) rfl rfl ?_
    refine E_s (p' := 3) (st' := aI 3 :: _) rfl rfl ?_
    refine E_callL (p' := 6) (L0 := [some (aI 3), some (aI 0), some (aI 3)]) rfl rfl rfl ?_
    refine E_s (p' := 1) (st' := aI 3 :: _) rfl rfl ?_
    refine E_s (p' := 2) (st' := aI 0 :: _) rfl rfl ?_
    refine E_s (p' := 5) rfl rfl ?_
    refine E_s (p' := 6) (st' := aI 3 :: _) rfl rfl ?_
    refine E_s (p' := 7) (st' := aI 3 :: _) rfl rfl ?_
    refine E_s (p' := 10) rfl rfl ?_
    refine E_s (p' := 11) (st' := aI 1 :: _) rfl rfl ?_
    refine E_s (p' := 15) rfl rfl ?_
    refine E_ret rfl rfl ?_
    refine E_ret rfl rfl ?_
    refine E_s (p' := 7) rfl rfl ?_
    refine E_s (p' := 8) rfl rfl ?_
    refine E_s (p' := 9) (st' := aI 0 :: _) rfl rfl ?_
    refine E_s (p' := 10) (st' := aA 124 :: _) rfl rfl ?_
    refine E_s (p' := 13) (st' := aA 136 :: _) rfl rfl ?_
    refine E_s (p' := 14) (st' := aI 3 :: _) rfl rfl ?_
    refine E_s (p' := 15) (st' := aI 0 :: _) rfl rfl ?_
    refine E_s (p' := 16) (st' := aI 1 :: _) rfl rfl ?_
    refine E_isubv (v := -1) rfl (show (0 : Int) - 1 = -1 from rfl) (by decide) ?_
    refine E_callL (p' := 20) (L0 := [some (aI a2), some (aI 0), some (aI (-1))]) rfl rfl rfl ?_
    refine E_s (p' := 1) rfl rfl ?_
    refine E_s (p' := 2) (st' := aI 0 :: _) rfl rfl ?_
    refine E_icmp_lt (y := 0) rfl (by decide) (fun q => absurd q (by omega)) (fun _ => ?_)
    refine E_s (p' := 6) rfl rfl ?_
    refine E_s (p' := 7) (st' := aI (-1) :: _) rfl rfl ?_
    refine E_icmp_gt (y := (-1)) rfl (by decide) (fun _ => ?_) (fun q => absurd q (by omega))
    refine E_s (p' := 15) (st' := aI 0 :: _) rfl rfl ?_
    refine E_ret rfl rfl ?_
    refine E_s (p' := 23) rfl rfl ?_
    refine E_s (p' := 24) (st' := aI (-1) :: _) rfl rfl ?_
    refine E_ret rfl rfl ?_
    refine E_s (p' := 1174) rfl rfl ?_
    refine E_s (p' := 1177) (L' := [some (aA 0), some (aA 1), some (aA 124), some (aI 6)]) rfl rfl ?_
    refine E_s (p' := 18) rfl rfl ?_
    refine E_s (p' := 19) (st' := aI 6 :: _) rfl rfl ?_
    refine E_s (p' := 20) (st' := aA 0 :: _) rfl rfl ?_
    refine E_s (p' := 21) (st' := aI 6 :: _) rfl rfl ?_
    refine E_s (p' := 23) (st' := aI 6 :: _) rfl rfl ?_
    refine E_s (p' := 24) (st' := aI 0 :: _) rfl rfl ?_
    refine E_s (p' := 1180) rfl rfl ?_
    refine E_s (p' := 1181) (st' := aI 1 :: _) rfl rfl ?_
    exact E_ret rfl rfl ⟨rfl, rfl⟩
set_option maxRecDepth 100000 in
set_option maxHeartbeats 40000000 in
theorem pc_18_o (xs : Nat → Int) {z a1 a2 a3 a4 a5 : Int} (hz : b32 (fun a b => a &&& b) z 31 = 18) (h0 : xs 0 = z) (h1 : xs 1 = a1) (h2 : xs 2 = a2) (h3 : xs 3 = a3) (h4 : xs 4 = a4) (h5 : xs 5 = a5) (hr : a1 < 0 ∨ 3 < a1) : E 0 18 LL [] (s0 xs 6) PQ := by
  refine E_s (p' := 19) (st' := aI 0 :: _) rfl rfl ?_
  refine E_s (p' := 20) (st' := aA 0 :: _) rfl rfl ?_
  refine E_s (p' := 21) (st' := aI 6 :: _) rfl rfl ?_
  refine E_s (p' := 23) (st' := aI 6 :: _) rfl rfl ?_
  refine E_s (p' := 24) (st' := aI 0 :: _) rfl rfl ?_
  refine E_s (p' := 27) rfl rfl ?_
  refine E_s (p' := 28) (st' := aA 0 :: _) rfl rfl ?_
  refine E_s (p' := 29) (st' := aI 0 :: _) rfl rfl ?_
  refine E_scr rfl rfl h0 ?_
  refine E_s (p' := 32) (st' := aI 31 :: _) rfl rfl ?_
  refine E_s (p' := 33) rfl rfl ?_
  refine E_val hz ?_
  refine E_s (p' := 864) rfl rfl ?_
  refine E_s (p' := 865) (st' := aA 1 :: _) rfl rfl ?_
  refine E_s (p' := 866) (st' := aA 0 :: _) rfl rfl ?_
  refine E_s (p' := 867) (st' := aI 0 :: _) rfl rfl ?_
  refine E_s (p' := 868) (st' := aI 1 :: _) rfl rfl ?_
  refine E_s (p' := 869) (st' := aI 1 :: _) rfl rfl ?_
  refine E_scr rfl rfl h1 ?_
  refine E_s (p' := 871) (st' := aA 0 :: _) rfl rfl ?_
  refine E_s (p' := 872) (st' := aI 0 :: _) rfl rfl ?_
  refine E_s (p' := 873) (st' := aI 2 :: _) rfl rfl ?_
  refine E_s (p' := 874) (st' := aI 2 :: _) rfl rfl ?_
  refine E_scr rfl rfl h2 ?_
  refine E_s (p' := 876) (st' := aA 0 :: _) rfl rfl ?_
  refine E_s (p' := 877) (st' := aI 0 :: _) rfl rfl ?_
  refine E_s (p' := 878) (st' := aI 3 :: _) rfl rfl ?_
  refine E_s (p' := 879) (st' := aI 3 :: _) rfl rfl ?_
  refine E_scr rfl rfl h3 ?_
  refine E_callL (p' := 883) (L0 := [some (aA 1), some (aI a1), some (aI a2), some (aI a3), none, none]) rfl rfl rfl ?_
  refine E_s (p' := 1) (st' := aA 1 :: _) rfl rfl ?_
  refine E_s (p' := 2) rfl rfl ?_
  refine E_callL (p' := 5) (L0 := [some (aA 1), some (aI a1), none]) rfl rfl rfl ?_
  refine E_s (p' := 1) (st' := aA 1 :: _) rfl rfl ?_
  refine E_s (p' := 2) rfl rfl ?_
  refine E_callL (p' := 5) (L0 := [some (aA 1), some (aI a1)]) rfl rfl rfl ?_
  refine E_s (p' := 1) rfl rfl ?_
  refine E_if_lt rfl (by decide) (fun _ => ?_) (fun _ => ?_)
  · refine E_s (p' := 19) rfl rfl ?_
    refine E_ret rfl rfl ?_
    refine E_s (p' := 6) (L' := [some (aA 1), some (aI a1), some aN]) rfl rfl ?_
    refine E_s (p' := 7) rfl rfl ?_
    refine E_s (p' := 15) rfl rfl ?_
    refine E_s (p' := 16) rfl rfl ?_
    refine E_ret rfl rfl ?_
    refine E_s (p' := 7) (L' := [some (aA 1), some (aI a1), some (aI a2), some (aI a3), some aN, none]) rfl rfl ?_
    refine E_s (p' := 9) rfl rfl ?_
    refine E_s (p' := 28) rfl rfl ?_
    refine E_s (p' := 29) (st' := aI (-1) :: _) rfl rfl ?_
    refine E_ret rfl rfl ?_
    refine E_s (p' := 884) (st' := aA 124 :: _) rfl rfl ?_
    refine E_s (p' := 885) (st' := aA 0 :: _) rfl rfl ?_
    refine E_s (p' := 886) (st' := aI 0 :: _) rfl rfl ?_
    refine E_s (p' := 887) (st' := aI 1 :: _) rfl rfl ?_
    refine E_s (p' := 888) (st' := aI 1 :: _) rfl rfl ?_
    refine E_scr rfl rfl h1 ?_
    refine E_s (p' := 890) (st' := aA 0 :: _) rfl rfl ?_
    refine E_s (p' := 891) (st' := aI 0 :: _) rfl rfl ?_
    refine E_s (p' := 892) (st' := aI 2 :: _) rfl rfl ?_
    refine E_s (p' := 893) (st' := aI 2 :: _) rfl rfl ?_
    refine E_scr rfl rfl h2 ?_
    refine E_s (p' := 895) (st' := aA 0 :: _) rfl rfl ?_
    refine E_s (p' := 896) (st' := aI 0 :: _) rfl rfl ?_
    refine E_s (p' := 897) (st' := aI 3 :: _) rfl rfl ?_
    refine E_s (p' := 898) (st' := aI 3 :: _) rfl rfl ?_
    refine E_scr rfl rfl h3 ?_
    refine E_callL (p' := 902) (L0 := [some (aA 124), some (aI a1), some (aI a2), some (aI a3), none, none, none, none]) rfl rfl rfl ?_
    refine E_s (p' := 1) rfl rfl ?_
    refine E_callL (p' := 4) (L0 := [some (aI a1)]) rfl rfl rfl ?_
    refine E_s (p' := 1) rfl rfl ?_
    refine E_s (p' := 2) (st' := aI 0 :: _) rfl rfl ?_
    refine E_s (p' := 3) (st' := aI 3 :: _) rfl rfl ?_
    refine E_callL (p' := 6) (L0 := [some (aI a1), some (aI 0), some (aI 3)]) rfl rfl rfl ?_
    refine E_s (p' := 1) rfl rfl ?_
    refine E_s (p' := 2) (st' := aI 0 :: _) rfl rfl ?_
    refine E_icmp_lt (y := 0) rfl (by decide) (fun _ => ?_) (fun q => absurd q (by omega))
    refine E_s (p' := 15) (st' := aI 0 :: _) rfl rfl ?_
    refine E_ret rfl rfl ?_
    refine E_ret rfl rfl ?_
    refine E_s (p' := 23) rfl rfl ?_
    refine E_s (p' := 24) (st' := aI (-1) :: _) rfl rfl ?_
    refine E_ret rfl rfl ?_
    refine E_s (p' := 1174) rfl rfl ?_
    refine E_s (p' := 1177) (L' := [some (aA 0), some (aA 1), some (aA 124), some (aI 6)]) rfl rfl ?_
    refine E_s (p' := 18) rfl rfl ?_
    refine E_s (p' := 19) (st' := aI 6 :: _) rfl rfl ?_
    refine E_s (p' := 20) (st' := aA 0 :: _) rfl rfl ?_
    refine E_s (p' := 21) (st' := aI 6 :: _) rfl rfl ?_
    refine E_s (p' := 23) (st' := aI 6 :: _) rfl rfl ?_
    refine E_s (p' := 24) (st' := aI 0 :: _) rfl rfl ?_
    refine E_s (p' := 1180) rfl rfl ?_
    refine E_s (p' := 1181) (st' := aI 1 :: _) rfl rfl ?_
    exact E_ret rfl rfl ⟨rfl, rfl⟩
  · refine E_s (p' := 5) rfl rfl ?_
    refine E_s (p' := 6) (st' := aI 4 :: _) rfl rfl ?_
    refine E_icmp_ge (y := 4) rfl (by decide) (fun _ => ?_) (fun q => absurd q (by omega))
    refine E_s (p' := 19) rfl rfl ?_
    refine E_ret rfl rfl ?_
    refine E_s (p' := 6) (L' := [some (aA 1), some (aI a1), some aN]) rfl rfl ?_
    refine E_s (p' := 7) rfl rfl ?_
    refine E_s (p' := 15) rfl rfl ?_
    refine E_s (p' := 16) rfl rfl ?_
    refine E_ret rfl rfl ?_
    refine E_s (p' := 7) (L' := [some (aA 1), some (aI a1), some (aI a2), some (aI a3), some aN, none]) rfl rfl ?_
    refine E_s (p' := 9) rfl rfl ?_
    refine E_s (p' := 28) rfl rfl ?_
    refine E_s (p' := 29) (st' := aI (-1) :: _) rfl rfl ?_
    refine E_ret rfl rfl ?_
    refine E_s (p' := 884) (st' := aA 124 :: _) rfl rfl ?_
    refine E_s (p' := 885) (st' := aA 0 :: _) rfl rfl ?_
    refine E_s (p' := 886) (st' := aI 0 :: _) rfl rfl ?_
    refine E_s (p' := 887) (st' := aI 1 :: _) rfl rfl ?_
    refine E_s (p' := 888) (st' := aI 1 :: _) rfl rfl ?_
    refine E_scr rfl rfl h1 ?_
    refine E_s (p' := 890) (st' := aA 0 :: _) rfl rfl ?_
    refine E_s (p' := 891) (st' := aI 0 :: _) rfl rfl ?_
    refine E_s (p' := 892) (st' := aI 2 :: _) rfl rfl ?_
    refine E_s (p' := 893) (st' := aI 2 :: _) rfl rfl ?_
    refine E_scr rfl rfl h2 ?_
    refine E_s (p' := 895) (st' := aA 0 :: _) rfl rfl ?_
    refine E_s (p' := 896) (st' := aI 0 :: _) rfl rfl ?_
    refine E_s (p' := 897) (st' := aI 3 :: _) rfl rfl ?_
    refine E_s (p' := 898) (st' := aI 3 :: _) rfl rfl ?_
    refine E_scr rfl rfl h3 ?_
    refine E_callL (p' := 902) (L0 := [some (aA 124), some (aI a1), some (aI a2), some (aI a3), none, none, none, none]) rfl rfl rfl ?_
    refine E_s (p' := 1) rfl rfl ?_
    refine E_callL (p' := 4) (L0 := [some (aI a1)]) rfl rfl rfl ?_
    refine E_s (p' := 1) rfl rfl ?_
    refine E_s (p' := 2) (st' := aI 0 :: _) rfl rfl ?_
    refine E_s (p' := 3) (st' := aI 3 :: _) rfl rfl ?_
    refine E_callL (p' := 6) (L0 := [some (aI a1), some (aI 0), some (aI 3)]) rfl rfl rfl ?_
    refine E_s (p' := 1) rfl rfl ?_
    refine E_s (p' := 2) (st' := aI 0 :: _) rfl rfl ?_
    refine E_icmp_lt (y := 0) rfl (by decide) (fun q => absurd q (by omega)) (fun _ => ?_)
    refine E_s (p' := 6) rfl rfl ?_
    refine E_s (p' := 7) (st' := aI 3 :: _) rfl rfl ?_
    refine E_icmp_gt (y := 3) rfl (by decide) (fun _ => ?_) (fun q => absurd q (by omega))
    refine E_s (p' := 15) (st' := aI 0 :: _) rfl rfl ?_
    refine E_ret rfl rfl ?_
    refine E_ret rfl rfl ?_
    refine E_s (p' := 23) rfl rfl ?_
    refine E_s (p' := 24) (st' := aI (-1) :: _) rfl rfl ?_
    refine E_ret rfl rfl ?_
    refine E_s (p' := 1174) rfl rfl ?_
    refine E_s (p' := 1177) (L' := [some (aA 0), some (aA 1), some (aA 124), some (aI 6)]) rfl rfl ?_
    refine E_s (p' := 18) rfl rfl ?_
    refine E_s (p' := 19) (st' := aI 6 :: _) rfl rfl ?_
    refine E_s (p' := 20) (st' := aA 0 :: _) rfl rfl ?_
    refine E_s (p' := 21) (st' := aI 6 :: _) rfl rfl ?_
    refine E_s (p' := 23) (st' := aI 6 :: _) rfl rfl ?_
    refine E_s (p' := 24) (st' := aI 0 :: _) rfl rfl ?_
    refine E_s (p' := 1180) rfl rfl ?_
    refine E_s (p' := 1181) (st' := aI 1 :: _) rfl rfl ?_
    exact E_ret rfl rfl ⟨rfl, rfl⟩
set_option maxRecDepth 100000 in
set_option maxHeartbeats 40000000 in
theorem pc_19_0 (xs : Nat → Int) {z a2 a3 a4 a5 : Int} (hz : b32 (fun a b => a &&& b) z 31 = 19) (h0 : xs 0 = z) (h1 : xs 1 = 0) (h2 : xs 2 = a2) (h3 : xs 3 = a3) (h4 : xs 4 = a4) (h5 : xs 5 = a5) : E 0 18 LL [] (s0 xs 6) PQ := by
  refine E_s (p' := 19) (st' := aI 0 :: _) rfl rfl ?_
  refine E_s (p' := 20) (st' := aA 0 :: _) rfl rfl ?_
  refine E_s (p' := 21) (st' := aI 6 :: _) rfl rfl ?_
  refine E_s (p' := 23) (st' := aI 6 :: _) rfl rfl ?_
  refine E_s (p' := 24) (st' := aI 0 :: _) rfl rfl ?_
  refine E_s (p' := 27) rfl rfl ?_
  refine E_s (p' := 28) (st' := aA 0 :: _) rfl rfl ?_
  refine E_s (p' := 29) (st' := aI 0 :: _) rfl rfl ?_
  refine E_scr rfl rfl h0 ?_
  refine E_s (p' := 32) (st' := aI 31 :: _) rfl rfl ?_
  refine E_s (p' := 33) rfl rfl ?_
  refine E_val hz ?_
  refine E_s (p' := 907) rfl rfl ?_
  refine E_s (p' := 908) (st' := aA 1 :: _) rfl rfl ?_
  refine E_s (p' := 909) (st' := aA 0 :: _) rfl rfl ?_
  refine E_s (p' := 910) (st' := aI 0 :: _) rfl rfl ?_
  refine E_s (p' := 911) (st' := aI 1 :: _) rfl rfl ?_
  refine E_s (p' := 912) (st' := aI 1 :: _) rfl rfl ?_
  refine E_scr rfl rfl h1 ?_
  refine E_callL (p' := 916) (L0 := [some (aA 1), some (aI 0), none, none]) rfl rfl rfl ?_
  refine E_s (p' := 1) (st' := aA 1 :: _) rfl rfl ?_
  refine E_s (p' := 2) (st' := aI 0 :: _) rfl rfl ?_
  refine E_callL (p' := 5) (L0 := [some (aA 1), some (aI 0), none]) rfl rfl rfl ?_
  refine E_s (p' := 1) (st' := aA 1 :: _) rfl rfl ?_
  refine E_s (p' := 2) (st' := aI 0 :: _) rfl rfl ?_
  refine E_callL (p' := 5) (L0 := [some (aA 1), some (aI 0)]) rfl rfl rfl ?_
  refine E_s (p' := 1) (st' := aI 0 :: _) rfl rfl ?_
  refine E_s (p' := 4) rfl rfl ?_
  refine E_s (p' := 5) (st' := aI 0 :: _) rfl rfl ?_
  refine E_s (p' := 6) (st' := aI 4 :: _) rfl rfl ?_
  refine E_s (p' := 9) rfl rfl ?_
  refine E_s (p' := 10) (st' := aA 1 :: _) rfl rfl ?_
  refine E_s (p' := 13) (st' := aA 2 :: _) rfl rfl ?_
  refine E_s (p' := 14) (st' := aI 0 :: _) rfl rfl ?_
  refine E_s (p' := 15) (st' := aA 20 :: _) rfl rfl ?_
  refine E_s (p' := 19) rfl rfl ?_
  refine E_ret rfl rfl ?_
  refine E_s (p' := 6) (L' := [some (aA 1), some (aI 0), some (aA 20)]) rfl rfl ?_
  refine E_s (p' := 7) (st' := aA 20 :: _) rfl rfl ?_
  refine E_s (p' := 10) rfl rfl ?_
  refine E_s (p' := 11) (st' := aA 20 :: _) rfl rfl ?_
  refine E_callL (p' := 14) (L0 := [some (aA 20)]) rfl rfl rfl ?_
  refine E_s (p' := 1) (st' := aA 20 :: _) rfl rfl ?_
  refine E_s (p' := 4) (st' := aI 0 :: _) rfl rfl ?_
  refine E_s (p' := 7) rfl rfl ?_
  refine E_s (p' := 8) (st' := aA 20 :: _) rfl rfl ?_
  refine E_s (p' := 11) (st' := aA 35 :: _) rfl rfl ?_
  refine E_s (p' := 12) (st' := aA 20 :: _) rfl rfl ?_
  refine E_s (p' := 15) (st' := aA 21 :: _) rfl rfl ?_
  refine E_s (p' := 16) (st' := aA 20 :: _) rfl rfl ?_
  refine E_s (p' := 19) (st' := aI 15 :: _) rfl rfl ?_
  refine E_callL (p' := 22) (L0 := [some (aA 35), some (aA 21), some (aI 15), none]) rfl rfl rfl ?_
  refine E_s (p' := 1) (st' := aA 35 :: _) rfl rfl ?_
  refine E_s (p' := 2) (st' := aA 21 :: _) rfl rfl ?_
  refine E_callL (p' := 5) (L0 := [some (aA 35), some (aA 21), none, none]) rfl rfl rfl ?_
  refine E_s (p' := 1) (st' := aA 35 :: _) rfl rfl ?_
  refine E_s (p' := 4) (st' := aA 44 :: _) rfl rfl ?_
  refine E_s (p' := 5) (st' := aI 0 :: _) rfl rfl ?_
  refine E_call rfl rfl ?_
  refine c_fill rfl rfl ?_
  refine E_s (p' := 9) (st' := aA 35 :: _) rfl rfl ?_
  refine E_s (p' := 12) (st' := aA 40 :: _) rfl rfl ?_
  refine E_s (p' := 13) (st' := aI 0 :: _) rfl rfl ?_
  refine E_call rfl rfl ?_
  refine c_fill rfl rfl ?_
  refine E_s (p' := 17) (st' := aA 35 :: _) rfl rfl ?_
  refine E_s (p' := 18) (st' := aI 0 :: _) rfl rfl ?_
  refine E_stM (p' := 21) (m' := up2 _ 35 10 0) rfl rfl ?_
  refine E_s (p' := 22) (st' := aA 35 :: _) rfl rfl ?_
  refine E_s (p' := 23) (st' := aI 0 :: _) rfl rfl ?_
  refine E_stM (p' := 26) (m' := up2 _ 35 11 0) rfl rfl ?_
  refine E_s (p' := 27) (st' := aI 0 :: _) rfl rfl ?_
  refine E_s (p' := 28) (L' := [some (aA 35), some (aA 21), some (aI 0), none]) rfl rfl ?_
  refine E_s (p' := 29) (st' := aI 0 :: _) rfl rfl ?_
  refine E_s (p' := 30) (st' := aA 21 :: _) rfl rfl ?_
  refine E_s (p' := 33) (st' := aI 0 :: _) rfl rfl ?_
  refine E_s (p' := 135) rfl rfl ?_
  refine E_ret rfl rfl ?_
  refine E_s (p' := 6) (st' := aA 35 :: _) rfl rfl ?_
  refine E_s (p' := 7) (st' := aI 15 :: _) rfl rfl ?_
  refine E_callL (p' := 10) (L0 := [some (aA 35), some (aI 15), none]) rfl rfl rfl ?_
  refine E_s (p' := 1) (st' := aA 35 :: _) rfl rfl ?_
  refine E_s (p' := 2) (st' := aI 0 :: _) rfl rfl ?_
  refine E_stM (p' := 5) (m' := up2 _ 35 12 0) rfl rfl ?_
  refine E_s (p' := 6) (st' := aI 1 :: _) rfl rfl ?_
  refine E_s (p' := 7) (L' := [some (aA 35), some (aI 15), some (aI 1)]) rfl rfl ?_
  refine fl_loop (gp := 0) (by decide) _ 600 1 _ rfl (fun j hj => show (if 0 ≤ j ∧ j < 601 then (0 : Int) else _) = 0 from if_pos ⟨Nat.zero_le _, hj⟩) ?_
  refine E_s (p' := 11) (st' := aA 35 :: _) rfl rfl ?_
  refine E_s (p' := 14) (st' := aI 0 :: _) rfl rfl ?_
  refine E_s (p' := 17) rfl rfl ?_
  refine E_s (p' := 18) (st' := aA 35 :: _) rfl rfl ?_
  refine E_callL (p' := 21) (L0 := [some (aA 35)]) rfl rfl rfl ?_
  refine E_s (p' := 1) (st' := aA 35 :: _) rfl rfl ?_
  refine E_s (p' := 4) (st' := aA 41 :: _) rfl rfl ?_
  refine E_s (p' := 5) (st' := aA 35 :: _) rfl rfl ?_
  refine E_s (p' := 8) (st' := aI 0 :: _) rfl rfl ?_
  refine E_s (p' := 15) rfl rfl ?_
  refine E_s (p' := 16) (st' := aI 0 :: _) rfl rfl ?_
  refine E_call rfl rfl ?_
  refine c_fill rfl rfl ?_
  refine E_s (p' := 20) (st' := aA 35 :: _) rfl rfl ?_
  refine E_s (p' := 23) (st' := aA 42 :: _) rfl rfl ?_
  refine E_s (p' := 24) (st' := aI 0 :: _) rfl rfl ?_
  refine E_call rfl rfl ?_
  refine c_fill rfl rfl ?_
  refine E_s (p' := 28) (st' := aA 35 :: _) rfl rfl ?_
  refine E_s (p' := 31) (st' := aA 43 :: _) rfl rfl ?_
  refine E_s (p' := 32) (st' := aI 0 :: _) rfl rfl ?_
  refine E_call rfl rfl ?_
  refine c_fill rfl rfl ?_
  refine E_ret rfl rfl ?_
  refine E_ret rfl rfl ?_
  refine E_s (p' := 23) (st' := aA 20 :: _) rfl rfl ?_
  refine E_s (p' := 24) (st' := aI 1 :: _) rfl rfl ?_
  refine E_stM (p' := 27) (m' := up2 _ 20 7 1) rfl rfl ?_
  refine E_s (p' := 28) (st' := aA 20 :: _) rfl rfl ?_
  refine E_s (p' := 31) (st' := aA 35 :: _) rfl rfl ?_
  refine E_ret rfl rfl ?_
  refine E_s (p' := 15) rfl rfl ?_
  refine E_s (p' := 16) (st' := aA 20 :: _) rfl rfl ?_
  refine E_ret rfl rfl ?_
  refine E_s (p' := 6) (L' := [some (aA 1), some (aI 0), some (aA 20), none]) rfl rfl ?_
  refine E_s (p' := 7) (st' := aA 20 :: _) rfl rfl ?_
  refine E_s (p' := 13) rfl rfl ?_
  refine E_s (p' := 14) (st' := aA 1 :: _) rfl rfl ?_
  refine E_s (p' := 17) (st' := aA 3 :: _) rfl rfl ?_
  refine E_s (p' := 18) (st' := aA 20 :: _) rfl rfl ?_
  refine E_s (p' := 19) (st' := aI (-1) :: _) rfl rfl ?_
  refine E_s (p' := 20) (st' := aI (-1) :: _) rfl rfl ?_
  refine E_callL (p' := 23) (L0 := [some (aA 3), some (aA 20), some (aI (-1)), some (aI (-1)), none]) rfl rfl rfl ?_
  refine E_s (p' := 1) (st' := aA 3 :: _) rfl rfl ?_
  refine E_s (p' := 2) (st' := aA 20 :: _) rfl rfl ?_
  refine E_s (p' := 3) (st' := aI (-1) :: _) rfl rfl ?_
  refine E_s (p' := 4) (st' := aI (-1) :: _) rfl rfl ?_
  refine E_callL (p' := 7) (L0 := [some (aA 3), some (aA 20), some (aI (-1)), some (aI (-1)), none, none, none]) rfl rfl rfl ?_
  refine E_s (p' := 1) (st' := aA 20 :: _) rfl rfl ?_
  refine E_s (p' := 4) (st' := aA 35 :: _) rfl rfl ?_
  refine E_s (p' := 6) (L' := [some (aA 3), some (aA 20), some (aI (-1)), some (aI (-1)), some (aA 35), none, none]) rfl rfl ?_
  refine E_s (p' := 7) (st' := aA 3 :: _) rfl rfl ?_
  refine E_s (p' := 8) (st' := aI (-1) :: _) rfl rfl ?_
  refine E_stM (p' := 11) (m' := up2 _ 3 5 (-1)) rfl rfl ?_
  refine E_s (p' := 12) (st' := aI 0 :: _) rfl rfl ?_
  refine E_s (p' := 14) (L' := [some (aA 3), some (aA 20), some (aI (-1)), some (aI (-1)), some (aA 35), some (aI 0), none]) rfl rfl ?_
  refine E_s (p' := 16) (st' := aI 0 :: _) rfl rfl ?_
  refine E_s (p' := 17) (st' := aA 20 :: _) rfl rfl ?_
  refine E_s (p' := 20) (st' := aA 21 :: _) rfl rfl ?_
  refine E_s (p' := 23) (st' := aI 0 :: _) rfl rfl ?_
  refine E_s (p' := 98) rfl rfl ?_
  refine E_ret rfl rfl ?_
  refine E_s (p' := 8) (st' := aI 1 :: _) rfl rfl ?_
  refine E_s (p' := 10) (L' := [some (aA 3), some (aA 20), some (aI (-1)), some (aI (-1)), some (aI 1)]) rfl rfl ?_
  refine E_s (p' := 12) (st' := aI 1 :: _) rfl rfl ?_
  refine E_s (p' := 15) (st' := aI 200 :: _) rfl rfl ?_
  refine E_s (p' := 18) rfl rfl ?_
  refine E_s (p' := 19) (st' := aA 3 :: _) rfl rfl ?_
  refine E_s (p' := 21) (st' := aI 1 :: _) rfl rfl ?_
  refine E_stM (p' := 24) (m' := up2 _ 3 4 1) rfl rfl ?_
  refine E_s (p' := 25) (st' := aA 3 :: _) rfl rfl ?_
  refine E_s (p' := 26) (st' := aA 20 :: _) rfl rfl ?_
  refine E_callL (p' := 29) (L0 := [some (aA 3), some (aA 20), none, none]) rfl rfl rfl ?_
  refine E_s (p' := 1) (st' := aA 20 :: _) rfl rfl ?_
  refine E_s (p' := 4) (st' := aA 21 :: _) rfl rfl ?_
  refine E_s (p' := 7) (st' := aI 0 :: _) rfl rfl ?_
  refine E_s (p' := 8) (L' := [some (aA 3), some (aA 20), some (aI 0), none]) rfl rfl ?_
  refine E_s (p' := 9) (st' := aA 3 :: _) rfl rfl ?_
  refine E_s (p' := 12) (st' := aA 4 :: _) rfl rfl ?_
  refine E_s (p' := 13) (st' := aI 0 :: _) rfl rfl ?_
  refine E_s (p' := 14) (st' := aA 3 :: _) rfl rfl ?_
  refine E_s (p' := 17) (st' := aA 6 :: _) rfl rfl ?_
  refine E_s (p' := 18) (st' := aI 0 :: _) rfl rfl ?_
  refine E_s (p' := 19) (st' := aI 0 :: _) rfl rfl ?_
  refine E_st rfl rfl rfl ?_ 
  refine E_s (p' := 23) (st' := aA 3 :: _) rfl rfl ?_
  refine E_s (p' := 26) (st' := aA 5 :: _) rfl rfl ?_
  refine E_s (p' := 27) (st' := aI 0 :: _) rfl rfl ?_
  refine E_s (p' := 28) (st' := aA 3 :: _) rfl rfl ?_
  refine E_s (p' := 31) (st' := aA 7 :: _) rfl rfl ?_
  refine E_s (p' := 32) (st' := aI 0 :: _) rfl rfl ?_
  refine E_s (p' := 33) (st' := aI 0 :: _) rfl rfl ?_
  refine E_st rfl rfl rfl ?_ 
  refine E_s (p' := 37) (st' := aI 0 :: _) rfl rfl ?_
  refine E_s (p' := 38) (L' := [some (aA 3), some (aA 20), some (aI 0), some (aI 0)]) rfl rfl ?_
  refine E_s (p' := 39) (st' := aI 0 :: _) rfl rfl ?_
  refine E_s (p' := 40) (st' := aA 20 :: _) rfl rfl ?_
  refine E_s (p' := 43) (st' := aA 29 :: _) rfl rfl ?_
  refine E_s (p' := 46) (st' := aI 0 :: _) rfl rfl ?_
  refine E_s (p' := 75) rfl rfl ?_
  refine E_s (p' := 76) (st' := aA 3 :: _) rfl rfl ?_
  refine E_s (p' := 79) (st' := aA 4 :: _) rfl rfl ?_
  refine E_s (p' := 80) (st' := aA 3 :: _) rfl rfl ?_
  refine E_s (p' := 83) (st' := aA 6 :: _) rfl rfl ?_
  refine E_s (p' := 84) (st' := aI 0 :: _) rfl rfl ?_
  refine E_s (p' := 85) (st' := aI 0 :: _) rfl rfl ?_
  refine E_callL (p' := 88) (L0 := [some (aA 4), some (aA 6), some (aI 0), some (aI 0), none, none]) rfl rfl rfl ?_
  refine E_s (p' := 1) (st' := aI 0 :: _) rfl rfl ?_
  refine E_s (p' := 3) (L' := [some (aA 4), some (aA 6), some (aI 0), some (aI 0), some (aI 0), none]) rfl rfl ?_
  refine E_s (p' := 4) (st' := aI 0 :: _) rfl rfl ?_
  refine E_s (p' := 6) (L' := [some (aA 4), some (aA 6), some (aI 0), some (aI 0), some (aI 0), some (aI 0)]) rfl rfl ?_
  refine E_s (p' := 8) (st' := aI 0 :: _) rfl rfl ?_
  refine E_s (p' := 9) (st' := aI 0 :: _) rfl rfl ?_
  refine E_s (p' := 10) (st' := aI 0 :: _) rfl rfl ?_
  refine E_s (p' := 11) (st' := aI 0 :: _) rfl rfl ?_
  refine E_s (p' := 49) rfl rfl ?_
  refine E_s (p' := 51) (st' := aI 0 :: _) rfl rfl ?_
  refine E_ret rfl rfl ?_
  refine E_s (p' := 89) (L' := [some (aA 3), some (aA 20), some (aI 0), some (aI 0)]) rfl rfl ?_
  refine E_s (p' := 90) (st' := aA 3 :: _) rfl rfl ?_
  refine E_s (p' := 93) (st' := aA 5 :: _) rfl rfl ?_
  refine E_s (p' := 94) (st' := aA 3 :: _) rfl rfl ?_
  refine E_s (p' := 97) (st' := aA 7 :: _) rfl rfl ?_
  refine E_s (p' := 98) (st' := aI 0 :: _) rfl rfl ?_
  refine E_s (p' := 99) (st' := aI 0 :: _) rfl rfl ?_
  refine E_callL (p' := 102) (L0 := [some (aA 5), some (aA 7), some (aI 0), some (aI 0), none, none]) rfl rfl rfl ?_
  refine E_s (p' := 1) (st' := aI 0 :: _) rfl rfl ?_
  refine E_s (p' := 3) (L' := [some (aA 5), some (aA 7), some (aI 0), some (aI 0), some (aI 0), none]) rfl rfl ?_
  refine E_s (p' := 4) (st' := aI 0 :: _) rfl rfl ?_
  refine E_s (p' := 6) (L' := [some (aA 5), some (aA 7), some (aI 0), some (aI 0), some (aI 0), some (aI 0)]) rfl rfl ?_
  refine E_s (p' := 8) (st' := aI 0 :: _) rfl rfl ?_
  refine E_s (p' := 9) (st' := aI 0 :: _) rfl rfl ?_
  refine E_s (p' := 10) (st' := aI 0 :: _) rfl rfl ?_
  refine E_s (p' := 11) (st' := aI 0 :: _) rfl rfl ?_
  refine E_s (p' := 49) rfl rfl ?_
  refine E_s (p' := 51) (st' := aI 0 :: _) rfl rfl ?_
  refine E_ret rfl rfl ?_
  refine E_s (p' := 105) rfl rfl ?_
  refine E_s (p' := 106) (st' := aI 0 :: _) rfl rfl ?_
  refine E_s (p' := 113) rfl rfl ?_
  refine E_s (p' := 114) (st' := aI 0 :: _) rfl rfl ?_
  refine E_ret rfl rfl ?_
  refine E_s (p' := 32) rfl rfl ?_
  refine E_s (p' := 34) (st' := aI 1 :: _) rfl rfl ?_
  refine E_s (p' := 35) (st' := aI 1 :: _) rfl rfl ?_
  refine E_s (p' := 36) (st' := aI 0 :: _) rfl rfl ?_
  refine E_ret rfl rfl ?_
  refine E_s (p' := 24) (L' := [some (aA 1), some (aI 0), some (aA 20), some (aI 0)]) rfl rfl ?_
  refine E_s (p' := 25) (st' := aA 20 :: _) rfl rfl ?_
  refine E_s (p' := 26) (st' := aA 1 :: _) rfl rfl ?_
  refine E_s (p' := 29) (st' := aA 3 :: _) rfl rfl ?_
  refine E_callL (p' := 32) (L0 := [some (aA 20), some (aA 3)]) rfl rfl rfl ?_
  refine E_s (p' := 1) (st' := aA 3 :: _) rfl rfl ?_
  refine E_s (p' := 4) (st' := aA 4 :: _) rfl rfl ?_
  refine E_s (p' := 5) (st' := aI 0 :: _) rfl rfl ?_
  refine E_s (p' := 6) (st' := aA 20 :: _) rfl rfl ?_
  refine E_s (p' := 9) (st' := aA 33 :: _) rfl rfl ?_
  refine E_s (p' := 10) (st' := aI 0 :: _) rfl rfl ?_
  refine E_s (p' := 11) (st' := aA 20 :: _) rfl rfl ?_
  refine E_s (p' := 14) (st' := aA 21 :: _) rfl rfl ?_
  refine E_s (p' := 17) (st' := aI 0 :: _) rfl rfl ?_
  refine E_st rfl rfl rfl ?_ 
  refine E_s (p' := 21) (st' := aA 3 :: _) rfl rfl ?_
  refine E_s (p' := 24) (st' := aA 5 :: _) rfl rfl ?_
  refine E_s (p' := 25) (st' := aI 0 :: _) rfl rfl ?_
  refine E_s (p' := 26) (st' := aA 20 :: _) rfl rfl ?_
  refine E_s (p' := 29) (st' := aA 34 :: _) rfl rfl ?_
  refine E_s (p' := 30) (st' := aI 0 :: _) rfl rfl ?_
  refine E_s (p' := 31) (st' := aA 20 :: _) rfl rfl ?_
  refine E_s (p' := 34) (st' := aA 21 :: _) rfl rfl ?_
  refine E_s (p' := 37) (st' := aI 0 :: _) rfl rfl ?_
  refine E_st rfl rfl rfl ?_ 
  refine E_s (p' := 41) (st' := aA 20 :: _) rfl rfl ?_
  refine E_s (p' := 42) (st' := aI 1 :: _) rfl rfl ?_
  refine E_stM (p' := 45) (m' := up2 _ 20 6 1) rfl rfl ?_
  refine E_ret rfl rfl ?_
  refine E_s (p' := 33) (st' := aI 0 :: _) rfl rfl ?_
  refine E_ret rfl rfl ?_
  refine E_s (p' := 917) (st' := aA 124 :: _) rfl rfl ?_
  refine E_s (p' := 918) (st' := aA 0 :: _) rfl rfl ?_
  refine E_s (p' := 919) (st' := aI 0 :: _) rfl rfl ?_
  refine E_s (p' := 920) (st' := aI 1 :: _) rfl rfl ?_
  refine E_s (p' := 921) (st' := aI 1 :: _) rfl rfl ?_
  refine E_scr rfl rfl h1 ?_
  refine E_callL (p' := 925) (L0 := [some (aA 124), some (aI 0), none, none]) rfl rfl rfl ?_
  refine E_s (p' := 1) (st' := aI 0 :: _) rfl rfl ?_
  refine E_callL (p' := 4) (L0 := [some (aI 0)]) rfl rfl rfl ?_
  refine E_s (p' := 1) (st' := aI 0 :: _) rfl rfl ?_
  refine E_s (p' := 2) (st' := aI 0 :: _) rfl rfl ?_
  refine E_s (p' := 3) (st' := aI 3 :: _) rfl rfl ?_
  refine E_callL (p' := 6) (L0 := [some (aI 0), some (aI 0), some (aI 3)]) rfl rfl rfl ?_
  refine E_s (p' := 1) (st' := aI 0 :: _) rfl rfl ?_
  refine E_s (p' := 2) (st' := aI 0 :: _) rfl rfl ?_
  refine E_s (p' := 5) rfl rfl ?_
  refine E_s (p' := 6) (st' := aI 0 :: _) rfl rfl ?_
  refine E_s (p' := 7) (st' := aI 3 :: _) rfl rfl ?_
  refine E_s (p' := 10) rfl rfl ?_
  refine E_s (p' := 11) (st' := aI 1 :: _) rfl rfl ?_
  refine E_s (p' := 15) rfl rfl ?_
  refine E_ret rfl rfl ?_
  refine E_ret rfl rfl ?_
  refine E_s (p' := 10) rfl rfl ?_
  refine E_s (p' := 11) (st' := aA 124 :: _) rfl rfl ?_
  refine E_s (p' := 12) (st' := aI 0 :: _) rfl rfl ?_
  refine E_callL (p' := 15) (L0 := [some (aA 124), some (aI 0), none]) rfl rfl rfl ?_
  refine E_s (p' := 1) (st' := aA 124 :: _) rfl rfl ?_
  refine E_s (p' := 2) (st' := aI 0 :: _) rfl rfl ?_
  refine E_callL (p' := 5) (L0 := [some (aA 124), some (aI 0), none, none]) rfl rfl rfl ?_
  refine E_s (p' := 1) (st' := aI 0 :: _) rfl rfl ?_
  refine E_s (p' := 2) (L' := [some (aA 124), some (aI 0), some (aI 0), none]) rfl rfl ?_
  refine mr_loop1 _ 601 0 _ rfl ?_
  refine E_s (p' := 23) (st' := aA 124 :: _) rfl rfl ?_
  refine E_s (p' := 24) (st' := aI 0 :: _) rfl rfl ?_
  refine E_stM (p' := 27) (m' := up2 _ 124 25 0) rfl rfl ?_
  refine E_s (p' := 28) (st' := aA 124 :: _) rfl rfl ?_
  refine E_s (p' := 29) (st' := aI 0 :: _) rfl rfl ?_
  refine E_stM (p' := 32) (m' := up2 _ 124 26 0) rfl rfl ?_
  refine E_s (p' := 33) (st' := aI 0 :: _) rfl rfl ?_
  refine E_s (p' := 34) (L' := [some (aA 124), some (aI 0), some (aI 0), none]) rfl rfl ?_
  refine E_s (p' := 35) (st' := aI 0 :: _) rfl rfl ?_
  refine E_s (p' := 36) (st' := aA 124 :: _) rfl rfl ?_
  refine E_s (p' := 39) (st' := aA 125 :: _) rfl rfl ?_
  refine E_s (p' := 40) (st' := aI 0 :: _) rfl rfl ?_
  refine E_s (p' := 41) (st' := aI 0 :: _) rfl rfl ?_
  refine E_s (p' := 121) rfl rfl ?_
  refine E_s (p' := 122) (st' := aA 124 :: _) rfl rfl ?_
  refine E_s (p' := 123) (st' := aI 0 :: _) rfl rfl ?_
  refine E_stM (p' := 126) (m' := up2 _ 124 24 0) rfl rfl ?_
  refine E_s (p' := 127) (st' := aI 0 :: _) rfl rfl ?_
  refine E_s (p' := 128) (L' := [some (aA 124), some (aI 0), some (aI 0), none]) rfl rfl ?_
  refine mr_loop3 _ 601 0 _ rfl (fun j hj => show (if 0 ≤ j ∧ j < 601 then (0 : Int) else _) = 0 from if_pos ⟨Nat.zero_le _, hj⟩) ?_
  refine E_s (p' := 245) (st' := aA 124 :: _) rfl rfl ?_
  refine E_s (p' := 248) (st' := aI 0 :: _) rfl rfl ?_
  refine E_s (p' := 249) (st' := aA 124 :: _) rfl rfl ?_
  refine E_s (p' := 252) (st' := aI 0 :: _) rfl rfl ?_
  refine E_s (p' := 259) rfl rfl ?_
  refine E_s (p' := 260) (st' := aI 1 :: _) rfl rfl ?_
  refine E_s (p' := 261) (st' := aI 1 :: _) rfl rfl ?_
  refine E_s (p' := 263) (st' := aI 6 :: _) rfl rfl ?_
  refine E_s (p' := 271) rfl rfl ?_
  refine E_s (p' := 272) (st' := aA 124 :: _) rfl rfl ?_
  refine E_s (p' := 275) (st' := aI 0 :: _) rfl rfl ?_
  refine E_s (p' := 282) rfl rfl ?_
  refine E_s (p' := 283) (st' := aI 0 :: _) rfl rfl ?_
  refine E_ret rfl rfl ?_
  refine E_s (p' := 6) rfl rfl ?_
  refine E_s (p' := 7) (st' := aI 0 :: _) rfl rfl ?_
  refine E_s (p' := 8) (L' := [some (aA 124), some (aI 0), some (aI 0)]) rfl rfl ?_
  refine E_s (p' := 9) (st' := aI 0 :: _) rfl rfl ?_
  refine E_s (p' := 10) (st' := aA 124 :: _) rfl rfl ?_
  refine E_s (p' := 13) (st' := aA 125 :: _) rfl rfl ?_
  refine E_s (p' := 14) (st' := aI 0 :: _) rfl rfl ?_
  refine E_s (p' := 15) (st' := aI 0 :: _) rfl rfl ?_
  refine E_s (p' := 82) rfl rfl ?_
  refine E_ret rfl rfl ?_
  refine E_s (p' := 16) (st' := aA 124 :: _) rfl rfl ?_
  refine E_s (p' := 17) (st' := aI 0 :: _) rfl rfl ?_
  refine E_s (p' := 18) (st' := aI (-1) :: _) rfl rfl ?_
  refine E_s (p' := 19) (st' := aI (-1) :: _) rfl rfl ?_
  refine E_s (p' := 20) (st' := aI (-1) :: _) rfl rfl ?_
  refine E_callL (p' := 23) (L0 := [some (aA 124), some (aI 0), some (aI (-1)), some (aI (-1)), some (aI (-1)), none, none]) rfl rfl rfl ?_
  refine E_s (p' := 1) (st' := aI 0 :: _) rfl rfl ?_
  refine E_s (p' := 3) (L' := [some (aA 124), some (aI 0), some (aI (-1)), some (aI (-1)), some (aI (-1)), some (aI 0), none]) rfl rfl ?_
  refine E_s (p' := 5) (st' := aI 0 :: _) rfl rfl ?_
  refine E_s (p' := 6) (st' := aA 124 :: _) rfl rfl ?_
  refine E_s (p' := 9) (st' := aA 125 :: _) rfl rfl ?_
  refine E_s (p' := 10) (st' := aI 0 :: _) rfl rfl ?_
  refine E_s (p' := 11) (st' := aI 0 :: _) rfl rfl ?_
  refine E_s (p' := 93) rfl rfl ?_
  refine E_s (p' := 94) (st' := aI 0 :: _) rfl rfl ?_
  refine E_s (p' := 96) (L' := [some (aA 124), some (aI 0), some (aI (-1)), some (aI (-1)), some (aI (-1)), some (aI 0), none]) rfl rfl ?_
  refine E_s (p' := 98) (st' := aI 0 :: _) rfl rfl ?_
  refine E_s (p' := 101) (st' := aI 200 :: _) rfl rfl ?_
  refine E_s (p' := 104) rfl rfl ?_
  refine E_s (p' := 105) (st' := aA 124 :: _) rfl rfl ?_
  refine E_s (p' := 106) (st' := aI 0 :: _) rfl rfl ?_
  refine E_callL (p' := 109) (L0 := [some (aA 124), some (aI 0), none, none, none, none, none, none]) rfl rfl rfl ?_
  refine E_s (p' := 1) (st' := aI 0 :: _) rfl rfl ?_
  refine E_s (p' := 2) (L' := [some (aA 124), some (aI 0), some (aI 0), none, none, none, none, none]) rfl rfl ?_
  refine E_s (p' := 3) (st' := aI 0 :: _) rfl rfl ?_
  refine E_s (p' := 4) (st' := aA 124 :: _) rfl rfl ?_
  refine E_s (p' := 7) (st' := aA 125 :: _) rfl rfl ?_
  refine E_s (p' := 8) (st' := aI 0 :: _) rfl rfl ?_
  refine E_s (p' := 9) (st' := aI 0 :: _) rfl rfl ?_
  refine E_s (p' := 42) rfl rfl ?_
  refine E_s (p' := 44) (st' := aI 40 :: _) rfl rfl ?_
  refine E_s (p' := 45) (st' := aI 0 :: _) rfl rfl ?_
  refine E_s (p' := 46) (st' := aI 0 :: _) rfl rfl ?_
  refine E_s (p' := 47) (L' := [some (aA 124), some (aI 0), some (aI 0), none, none, none, none, none]) rfl rfl ?_
  refine E_s (p' := 48) (st' := aI 0 :: _) rfl rfl ?_
  refine E_s (p' := 50) (st' := aI 40 :: _) rfl rfl ?_
  refine E_s (p' := 51) (st' := aI 0 :: _) rfl rfl ?_
  refine E_s (p' := 52) (st' := aI 0 :: _) rfl rfl ?_
  refine E_s (p' := 53) (st' := aA 124 :: _) rfl rfl ?_
  refine E_s (p' := 56) (st' := aA 136 :: _) rfl rfl ?_
  refine E_s (p' := 57) (st' := aI 0 :: _) rfl rfl ?_
  refine E_s (p' := 58) (st' := aI 0 :: _) rfl rfl ?_
  refine E_s (p' := 59) (st' := aI 0 :: _) rfl rfl ?_
  refine E_s (p' := 295) rfl rfl ?_
  refine E_s (p' := 296) (st' := aI 0 :: _) rfl rfl ?_
  refine E_s (p' := 297) (L' := [some (aA 124), some (aI 0), some (aI 0), none, none, none, none, none]) rfl rfl ?_
  refine E_s (p' := 298) (st' := aI 0 :: _) rfl rfl ?_
  refine E_s (p' := 299) (L' := [some (aA 124), some (aI 0), some (aI 0), some (aI 0), none, none, none, none]) rfl rfl ?_
  refine E_s (p' := 300) (st' := aI 0 :: _) rfl rfl ?_
  refine E_s (p' := 301) (st' := aA 124 :: _) rfl rfl ?_
  refine E_s (p' := 304) (st' := aA 125 :: _) rfl rfl ?_
  refine E_s (p' := 305) (st' := aI 0 :: _) rfl rfl ?_
  refine E_s (p' := 306) (st' := aI 0 :: _) rfl rfl ?_
  refine E_s (p' := 379) rfl rfl ?_
  refine E_s (p' := 380) (st' := aI 0 :: _) rfl rfl ?_
  refine E_ret rfl rfl ?_
  refine E_s (p' := 112) rfl rfl ?_
  refine E_s (p' := 114) (st' := aI 0 :: _) rfl rfl ?_
  refine E_ret rfl rfl ?_
  refine E_s (p' := 24) (L' := [some (aA 124), some (aI 0), some (aI 0), none]) rfl rfl ?_
  refine E_s (p' := 25) (st' := aI 0 :: _) rfl rfl ?_
  refine E_s (p' := 26) (L' := [some (aA 124), some (aI 0), some (aI 0), some (aI 0)]) rfl rfl ?_
  refine E_s (p' := 27) (st' := aI 0 :: _) rfl rfl ?_
  refine E_s (p' := 28) (st' := aA 124 :: _) rfl rfl ?_
  refine E_s (p' := 31) (st' := aA 125 :: _) rfl rfl ?_
  refine E_s (p' := 32) (st' := aI 0 :: _) rfl rfl ?_
  refine E_s (p' := 33) (st' := aI 0 :: _) rfl rfl ?_
  refine E_s (p' := 76) rfl rfl ?_
  refine E_s (p' := 77) (st' := aA 124 :: _) rfl rfl ?_
  refine E_s (p' := 80) (st' := aA 140 :: _) rfl rfl ?_
  refine E_s (p' := 81) (st' := aI 0 :: _) rfl rfl ?_
  refine E_s (p' := 82) (st' := aI 1 :: _) rfl rfl ?_
  refine E_stM (p' := 83) (m' := up2 _ 140 0 1) rfl rfl ?_
  refine E_s (p' := 84) (st' := aI 0 :: _) rfl rfl ?_
  refine E_ret rfl rfl ?_
  refine E_s (p' := 1174) rfl rfl ?_
  refine E_s (p' := 1177) (L' := [some (aA 0), some (aA 1), some (aA 124), some (aI 6)]) rfl rfl ?_
  refine E_s (p' := 18) rfl rfl ?_
  refine E_s (p' := 19) (st' := aI 6 :: _) rfl rfl ?_
  refine E_s (p' := 20) (st' := aA 0 :: _) rfl rfl ?_
  refine E_s (p' := 21) (st' := aI 6 :: _) rfl rfl ?_
  refine E_s (p' := 23) (st' := aI 6 :: _) rfl rfl ?_
  refine E_s (p' := 24) (st' := aI 0 :: _) rfl rfl ?_
  refine E_s (p' := 1180) rfl rfl ?_
  refine E_s (p' := 1181) (st' := aI 1 :: _) rfl rfl ?_
  exact E_ret rfl rfl ⟨rfl, rfl⟩
