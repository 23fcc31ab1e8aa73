set_option maxRecDepth 100000 in
set_option maxHeartbeats 40000000 in
theorem pc_3_0 (xs : Nat → Int) {z a2 a3 a4 a5 : Int} (hz : b32 (fun a b => a &&& b) z 31 = 3) (h0 : xs 0 = z) (h1 : xs 1 = 0) (h2 : xs 2 = a2) (h3 : xs 3 = a3) (h4 : xs 4 = a4) (h5 : xs 5 = a5) : E 0 18 LL [] (s0 xs 6) PQ := by
  refine E_s (p' := 19) (st' := aI 0 :: _) rfl rfl ?_
  refine E_s (p' := 20) (st' := aA 0 :: _) rfl rfl ?_
  refine E_s (p' := 21) (st' := aI 6 :: _) rfl rfl ?_
  refine E_s (p' := 23) (st' := aI 6 :: _) rfl rfl ?_
  refine E_s (p' := 24) (st' := aI 0 :: _) rfl rfl ?_
  refine E_s (p' := 27) rfl rfl ?_
  refine E_s (p' := 28) (st' := aA 0 :: _) rfl rfl ?_
  refine E_s (p' := 29) (st' := aI 0 :: _) rfl rfl ?_
  refine E_scr rfl rfl h0 ?_
  refine E_s (p' := 32) (st' := aI 31 :: _) rfl rfl ?_
  refine E_s (p' := 33) rfl rfl ?_
  refine E_val hz ?_
  refine E_s (p' := 329) rfl rfl ?_
  refine E_s (p' := 330) (st' := aA 1 :: _) rfl rfl ?_
  refine E_s (p' := 331) (st' := aA 0 :: _) rfl rfl ?_
  refine E_s (p' := 332) (st' := aI 0 :: _) rfl rfl ?_
  refine E_s (p' := 333) (st' := aI 1 :: _) rfl rfl ?_
  refine E_s (p' := 334) (st' := aI 1 :: _) rfl rfl ?_
  refine E_scr rfl rfl h1 ?_
  refine E_s (p' := 336) (st' := aA 0 :: _) rfl rfl ?_
  refine E_s (p' := 337) (st' := aI 0 :: _) rfl rfl ?_
  refine E_s (p' := 338) (st' := aI 2 :: _) rfl rfl ?_
  refine E_s (p' := 339) (st' := aI 2 :: _) rfl rfl ?_
  refine E_scr rfl rfl h2 ?_
  refine E_s (p' := 341) (st' := aA 0 :: _) rfl rfl ?_
  refine E_s (p' := 342) (st' := aI 0 :: _) rfl rfl ?_
  refine E_s (p' := 343) (st' := aI 3 :: _) rfl rfl ?_
  refine E_s (p' := 344) (st' := aI 3 :: _) rfl rfl ?_
  refine E_scr rfl rfl h3 ?_
  refine E_callL (p' := 348) (L0 := [some (aA 1), some (aI 0), some (aI a2), some (aI a3), none]) rfl rfl rfl ?_
  refine E_s (p' := 1) (st' := aA 1 :: _) rfl rfl ?_
  refine E_s (p' := 2) (st' := aI 0 :: _) rfl rfl ?_
  refine E_callL (p' := 5) (L0 := [some (aA 1), some (aI 0)]) rfl rfl rfl ?_
  refine E_s (p' := 1) (st' := aI 0 :: _) rfl rfl ?_
  refine E_s (p' := 4) rfl rfl ?_
  refine E_s (p' := 5) (st' := aI 0 :: _) rfl rfl ?_
  refine E_s (p' := 6) (st' := aI 4 :: _) rfl rfl ?_
  refine E_s (p' := 9) rfl rfl ?_
  refine E_s (p' := 10) (st' := aA 1 :: _) rfl rfl ?_
  refine E_s (p' := 13) (st' := aA 2 :: _) rfl rfl ?_
  refine E_s (p' := 14) (st' := aI 0 :: _) rfl rfl ?_
  refine E_s (p' := 15) (st' := aA 20 :: _) rfl rfl ?_
  refine E_s (p' := 19) rfl rfl ?_
  refine E_ret rfl rfl ?_
  refine E_s (p' := 7) (L' := [some (aA 1), some (aI 0), some (aI a2), some (aI a3), some (aA 20)]) rfl rfl ?_
  refine E_s (p' := 9) (st' := aA 20 :: _) rfl rfl ?_
  refine E_s (p' := 12) rfl rfl ?_
  refine E_s (p' := 14) (st' := aA 20 :: _) rfl rfl ?_
  refine E_s (p' := 17) (st' := aA 21 :: _) rfl rfl ?_
  refine E_s (p' := 18) rfl rfl ?_
  refine E_callL (p' := 21) (L0 := [some (aA 21), some (aI a2)]) rfl rfl rfl ?_
  refine E_s (p' := 1) rfl rfl ?_
  refine E_if_lt rfl (by decide) (fun _ => ?_) (fun _ => ?_)
  · refine E_s (p' := 17) (st' := aI 0 :: _) rfl rfl ?_
    refine E_ret rfl rfl ?_
    refine E_s (p' := 37) rfl rfl ?_
    refine E_s (p' := 38) (st' := aI (-1) :: _) rfl rfl ?_
    refine E_ret rfl rfl ?_
    refine E_s (p' := 349) (st' := aA 124 :: _) rfl rfl ?_
    refine E_s (p' := 350) (st' := aA 0 :: _) rfl rfl ?_
    refine E_s (p' := 351) (st' := aI 0 :: _) rfl rfl ?_
    refine E_s (p' := 352) (st' := aI 1 :: _) rfl rfl ?_
    refine E_s (p' := 353) (st' := aI 1 :: _) rfl rfl ?_
    refine E_scr rfl rfl h1 ?_
    refine E_s (p' := 355) (st' := aA 0 :: _) rfl rfl ?_
    refine E_s (p' := 356) (st' := aI 0 :: _) rfl rfl ?_
    refine E_s (p' := 357) (st' := aI 2 :: _) rfl rfl ?_
    refine E_s (p' := 358) (st' := aI 2 :: _) rfl rfl ?_
    refine E_scr rfl rfl h2 ?_
    refine E_s (p' := 360) (st' := aA 0 :: _) rfl rfl ?_
    refine E_s (p' := 361) (st' := aI 0 :: _) rfl rfl ?_
    refine E_s (p' := 362) (st' := aI 3 :: _) rfl rfl ?_
    refine E_s (p' := 363) (st' := aI 3 :: _) rfl rfl ?_
    refine E_scr rfl rfl h3 ?_
    refine E_callL (p' := 367) (L0 := [some (aA 124), some (aI 0), some (aI a2), some (aI a3), none, none, none]) rfl rfl rfl ?_
    refine E_s (p' := 1) (st' := aA 124 :: _) rfl rfl ?_
    refine E_s (p' := 2) (st' := aI 0 :: _) rfl rfl ?_
    refine E_s (p' := 3) rfl rfl ?_
    refine E_callL (p' := 6) (L0 := [some (aA 124), some (aI 0), some (aI a2)]) rfl rfl rfl ?_
    refine E_s (p' := 1) (st' := aI 0 :: _) rfl rfl ?_
    refine E_callL (p' := 4) (L0 := [some (aI 0)]) rfl rfl rfl ?_
    refine E_s (p' := 1) (st' := aI 0 :: _) rfl rfl ?_
    refine E_s (p' := 2) (st' := aI 0 :: _) rfl rfl ?_
    refine E_s (p' := 3) (st' := aI 3 :: _) rfl rfl ?_
    refine E_callL (p' := 6) (L0 := [some (aI 0), some (aI 0), some (aI 3)]) rfl rfl rfl ?_
    refine E_s (p' := 1) (st' := aI 0 :: _) rfl rfl ?_
    refine E_s (p' := 2) (st' := aI 0 :: _) rfl rfl ?_
    refine E_s (p' := 5) rfl rfl ?_
    refine E_s (p' := 6) (st' := aI 0 :: _) rfl rfl ?_
    refine E_s (p' := 7) (st' := aI 3 :: _) rfl rfl ?_
    refine E_s (p' := 10) rfl rfl ?_
    refine E_s (p' := 11) (st' := aI 1 :: _) rfl rfl ?_
    refine E_s (p' := 15) rfl rfl ?_
    refine E_ret rfl rfl ?_
    refine E_ret rfl rfl ?_
    refine E_s (p' := 7) rfl rfl ?_
    refine E_s (p' := 8) rfl rfl ?_
    refine E_s (p' := 9) (st' := aI 0 :: _) rfl rfl ?_
    refine E_s (p' := 10) (st' := aA 124 :: _) rfl rfl ?_
    refine E_s (p' := 13) (st' := aA 125 :: _) rfl rfl ?_
    refine E_s (p' := 14) (st' := aI 0 :: _) rfl rfl ?_
    refine E_s (p' := 15) (st' := aI 0 :: _) rfl rfl ?_
    refine E_s (p' := 16) (st' := aI 1 :: _) rfl rfl ?_
    refine E_isubv (v := -1) rfl (show (0 : Int) - 1 = -1 from rfl) (by decide) ?_
    refine E_callL (p' := 20) (L0 := [some (aI a2), some (aI 0), some (aI (-1))]) rfl rfl rfl ?_
    refine E_s (p' := 1) rfl rfl ?_
    refine E_s (p' := 2) (st' := aI 0 :: _) rfl rfl ?_
    refine E_icmp_lt (y := 0) rfl (by decide) (fun _ => ?_) (fun q => absurd q (by omega))
    refine E_s (p' := 15) (st' := aI 0 :: _) rfl rfl ?_
    refine E_ret rfl rfl ?_
    refine E_s (p' := 27) rfl rfl ?_
    refine E_s (p' := 28) (st' := aI 0 :: _) rfl rfl ?_
    refine E_ret rfl rfl ?_
    refine E_s (p' := 9) rfl rfl ?_
    refine E_s (p' := 10) (st' := aI (-1) :: _) rfl rfl ?_
    refine E_ret rfl rfl ?_
    refine E_s (p' := 1174) rfl rfl ?_
    refine E_s (p' := 1177) (L' := [some (aA 0), some (aA 1), some (aA 124), some (aI 6)]) rfl rfl ?_
    refine E_s (p' := 18) rfl rfl ?_
    refine E_s (p' := 19) (st' := aI 6 :: _) rfl rfl ?_
    refine E_s (p' := 20) (st' := aA 0 :: _) rfl rfl ?_
    refine E_s (p' := 21) (st' := aI 6 :: _) rfl rfl ?_
    refine E_s (p' := 23) (st' := aI 6 :: _) rfl rfl ?_
    refine E_s (p' := 24) (st' := aI 0 :: _) rfl rfl ?_
    refine E_s (p' := 1180) rfl rfl ?_
    refine E_s (p' := 1181) (st' := aI 1 :: _) rfl rfl ?_
    exact E_ret rfl rfl ⟨rfl, rfl⟩
  · refine E_s (p' := 5) rfl rfl ?_
    refine E_s (p' := 6) (st' := aA 21 :: _) rfl rfl ?_
    refine E_s (p' := 9) (st' := aI 0 :: _) rfl rfl ?_
    refine E_icmp_ge (y := 0) rfl (by decide) (fun _ => ?_) (fun q => absurd q (by omega))
    refine E_s (p' := 17) (st' := aI 0 :: _) rfl rfl ?_
    refine E_ret rfl rfl ?_
    refine E_s (p' := 37) rfl rfl ?_
    refine E_s (p' := 38) (st' := aI (-1) :: _) rfl rfl ?_
    refine E_ret rfl rfl ?_
    refine E_s (p' := 349) (st' := aA 124 :: _) rfl rfl ?_
    refine E_s (p' := 350) (st' := aA 0 :: _) rfl rfl ?_
    refine E_s (p' := 351) (st' := aI 0 :: _) rfl rfl ?_
    refine E_s (p' := 352) (st' := aI 1 :: _) rfl rfl ?_
    refine E_s (p' := 353) (st' := aI 1 :: _) rfl rfl ?_
    refine E_scr rfl rfl h1 ?_
    refine E_s (p' := 355) (st' := aA 0 :: _) rfl rfl ?_
    refine E_s (p' := 356) (st' := aI 0 :: _) rfl rfl ?_
    refine E_s (p' := 357) (st' := aI 2 :: _) rfl rfl ?_
    refine E_s (p' := 358) (st' := aI 2 :: _) rfl rfl ?_
    refine E_scr rfl rfl h2 ?_
    refine E_s (p' := 360) (st' := aA 0 :: _) rfl rfl ?_
    refine E_s (p' := 361) (st' := aI 0 :: _) rfl rfl ?_
    refine E_s (p' := 362) (st' := aI 3 :: _) rfl rfl ?_
    refine E_s (p' := 363) (st' := aI 3 :: _) rfl rfl ?_
    refine E_scr rfl rfl h3 ?_
    refine E_callL (p' := 367) (L0 := [some (aA 124), some (aI 0), some (aI a2), some (aI a3), none, none, none]) rfl rfl rfl ?_
    refine E_s (p' := 1) (st' := aA 124 :: _) rfl rfl ?_
    refine E_s (p' := 2) (st' := aI 0 :: _) rfl rfl ?_
    refine E_s (p' := 3) rfl rfl ?_
    refine E_callL (p' := 6) (L0 := [some (aA 124), some (aI 0), some (aI a2)]) rfl rfl rfl ?_
    refine E_s (p' := 1) (st' := aI 0 :: _) rfl rfl ?_
    refine E_callL (p' := 4) (L0 := [some (aI 0)]) rfl rfl rfl ?_
    refine E_s (p' := 1) (st' := aI 0 :: _) rfl rfl ?_
    refine E_s (p' := 2) (st' := aI 0 :: _) rfl rfl ?_
    refine E_s (p' := 3) (st' := aI 3 :: _) rfl rfl ?_
    refine E_callL (p' := 6) (L0 := [some (aI 0), some (aI 0), some (aI 3)]) rfl rfl rfl ?_
    refine E_s (p' := 1) (st' := aI 0 :: _) rfl rfl ?_
    refine E_s (p' := 2) (st' := aI 0 :: _) rfl rfl ?_
    refine E_s (p' := 5) rfl rfl ?_
    refine E_s (p' := 6) (st' := aI 0 :: _) rfl rfl ?_
    refine E_s (p' := 7) (st' := aI 3 :: _) rfl rfl ?_
    refine E_s (p' := 10) rfl rfl ?_
    refine E_s (p' := 11) (st' := aI 1 :: _) rfl rfl ?_
    refine E_s (p' := 15) rfl rfl ?_
    refine E_ret rfl rfl ?_
    refine E_ret rfl rfl ?_
    refine E_s (p' := 7) rfl rfl ?_
    refine E_s (p' := 8) rfl rfl ?_
    refine E_s (p' := 9) (st' := aI 0 :: _) rfl rfl ?_
    refine E_s (p' := 10) (st' := aA 124 :: _) rfl rfl ?_
    refine E_s (p' := 13) (st' := aA 125 :: _) rfl rfl ?_
    refine E_s (p' := 14) (st' := aI 0 :: _) rfl rfl ?_
    refine E_s (p' := 15) (st' := aI 0 :: _) rfl rfl ?_
    refine E_s (p' := 16) (st' := aI 1 :: _) rfl rfl ?_
    refine E_isubv (v := -1) rfl (show (0 : Int) - 1 = -1 from rfl) (by decide) ?_
    refine E_callL (p' := 20) (L0 := [some (aI a2), some (aI 0), some (aI (-1))]) rfl rfl rfl ?_
    refine E_s (p' := 1) rfl rfl ?_
    refine E_s (p' := 2) (st' := aI 0 :: _) rfl rfl ?_
    refine E_icmp_lt (y := 0) rfl (by decide) (fun q => absurd q (by omega)) (fun _ => ?_)
    refine E_s (p' := 6) rfl rfl ?_
    refine E_s (p' := 7) (st' := aI (-1) :: _) rfl rfl ?_
    refine E_icmp_gt (y := (-1)) rfl (by decide) (fun _ => ?_) (fun q => absurd q (by omega))
    refine E_s (p' := 15) (st' := aI 0 :: _) rfl rfl ?_
    refine E_ret rfl rfl ?_
    refine E_s (p' := 27) rfl rfl ?_
    refine E_s (p' := 28) (st' := aI 0 :: _) rfl rfl ?_
    refine E_ret rfl rfl ?_
    refine E_s (p' := 9) rfl rfl ?_
    refine E_s (p' := 10) (st' := aI (-1) :: _) rfl rfl ?_
    refine E_ret rfl rfl ?_
    refine E_s (p' := 1174) rfl rfl ?_
    refine E_s (p' := 1177) (L' := [some (aA 0), some (aA 1), some (aA 124), some (aI 6)]) rfl rfl ?_
    refine E_s (p' := 18) rfl rfl ?_
    refine E_s (p' := 19) (st' := aI 6 :: _) rfl rfl ?_
    refine E_s (p' := 20) (st' := aA 0 :: _) rfl rfl ?_
    refine E_s (p' := 21) (st' := aI 6 :: _) rfl rfl ?_
    refine E_s (p' := 23) (st' := aI 6 :: _) rfl rfl ?_
    refine E_s (p' := 24) (st' := aI 0 :: _) rfl rfl ?_
    refine E_s (p' := 1180) rfl rfl ?_
    refine E_s (p' := 1181) (st' := aI 1 :: _) rfl rfl ?_
    exact E_ret rfl rfl ⟨rfl, rfl⟩
set_option maxRecDepth 100000 in
set_option maxHeartbeats 40000000 in
theorem pc_3_1 (xs : Nat → Int) {z a2 a3 a4 a5 : Int} (hz : b32 (fun a b => a &&& b) z 31 = 3) (h0 : xs 0 = z) (h1 : xs 1 = 1) (h2 : xs 2 = a2) (h3 : xs 3 = a3) (h4 : xs 4 = a4) (h5 : xs 5 = a5) : E 0 18 LL [] (s0 xs 6) PQ := by
  refine E_s (p' := 19) (st' := aI 0 :: _) rfl rfl ?_
  refine E_s (p' := 20) (st' := aA 0 :: _) rfl rfl ?_
  refine E_s (p' := 21) (st' := aI 6 :: _) rfl rfl ?_
  refine E_s (p' := 23) (st' := aI 6 :: _) rfl rfl ?_
  refine E_s (p' := 24) (st' := aI 0 :: _) rfl rfl ?_
  refine E_s (p' := 27) rfl rfl ?_
  refine E_s (p' := 28) (st' := aA 0 :: _) rfl rfl ?_
  refine E_s (p' := 29) (st' := aI 0 :: _) rfl rfl ?_
  refine E_scr rfl rfl h0 ?_
  refine E_s (p' := 32) (st' := aI 31 :: _) rfl rfl ?_
  refine E_s (p' := 33) rfl rfl ?_
  refine E_val hz ?_
  refine E_s (p' := 329) rfl rfl ?_
  refine E_s (p' := 330) (st' := aA 1 :: _) rfl rfl ?_
  refine E_s (p' := 331) (st' := aA 0 :: _) rfl rfl ?_
  refine E_s (p' := 332) (st' := aI 0 :: _) rfl rfl ?_
  refine E_s (p' := 333) (st' := aI 1 :: _) rfl rfl ?_
  refine E_s (p' := 334) (st' := aI 1 :: _) rfl rfl ?_
  refine E_scr rfl rfl h1 ?_
  refine E_s (p' := 336) (st' := aA 0 :: _) rfl rfl ?_
  refine E_s (p' := 337) (st' := aI 0 :: _) rfl rfl ?_
  refine E_s (p' := 338) (st' := aI 2 :: _) rfl rfl ?_
  refine E_s (p' := 339) (st' := aI 2 :: _) rfl rfl ?_
  refine E_scr rfl rfl h2 ?_
  refine E_s (p' := 341) (st' := aA 0 :: _) rfl rfl ?_
  refine E_s (p' := 342) (st' := aI 0 :: _) rfl rfl ?_
  refine E_s (p' := 343) (st' := aI 3 :: _) rfl rfl ?_
  refine E_s (p' := 344) (st' := aI 3 :: _) rfl rfl ?_
  refine E_scr rfl rfl h3 ?_
  refine E_callL (p' := 348) (L0 := [some (aA 1), some (aI 1), some (aI a2), some (aI a3), none]) rfl rfl rfl ?_
  refine E_s (p' := 1) (st' := aA 1 :: _) rfl rfl ?_
  refine E_s (p' := 2) (st' := aI 1 :: _) rfl rfl ?_
  refine E_callL (p' := 5) (L0 := [some (aA 1), some (aI 1)]) rfl rfl rfl ?_
  refine E_s (p' := 1) (st' := aI 1 :: _) rfl rfl ?_
  refine E_s (p' := 4) rfl rfl ?_
  refine E_s (p' := 5) (st' := aI 1 :: _) rfl rfl ?_
  refine E_s (p' := 6) (st' := aI 4 :: _) rfl rfl ?_
  refine E_s (p' := 9) rfl rfl ?_
  refine E_s (p' := 10) (st' := aA 1 :: _) rfl rfl ?_
  refine E_s (p' := 13) (st' := aA 2 :: _) rfl rfl ?_
  refine E_s (p' := 14) (st' := aI 1 :: _) rfl rfl ?_
  refine E_s (p' := 15) (st' := aA 46 :: _) rfl rfl ?_
  refine E_s (p' := 19) rfl rfl ?_
  refine E_ret rfl rfl ?_
  refine E_s (p' := 7) (L' := [some (aA 1), some (aI 1), some (aI a2), some (aI a3), some (aA 46)]) rfl rfl ?_
  refine E_s (p' := 9) (st' := aA 46 :: _) rfl rfl ?_
  refine E_s (p' := 12) rfl rfl ?_
  refine E_s (p' := 14) (st' := aA 46 :: _) rfl rfl ?_
  refine E_s (p' := 17) (st' := aA 47 :: _) rfl rfl ?_
  refine E_s (p' := 18) rfl rfl ?_
  refine E_callL (p' := 21) (L0 := [some (aA 47), some (aI a2)]) rfl rfl rfl ?_
  refine E_s (p' := 1) rfl rfl ?_
  refine E_if_lt rfl (by decide) (fun _ => ?_) (fun _ => ?_)
  · refine E_s (p' := 17) (st' := aI 0 :: _) rfl rfl ?_
    refine E_ret rfl rfl ?_
    refine E_s (p' := 37) rfl rfl ?_
    refine E_s (p' := 38) (st' := aI (-1) :: _) rfl rfl ?_
    refine E_ret rfl rfl ?_
    refine E_s (p' := 349) (st' := aA 124 :: _) rfl rfl ?_
    refine E_s (p' := 350) (st' := aA 0 :: _) rfl rfl ?_
    refine E_s (p' := 351) (st' := aI 0 :: _) rfl rfl ?_
    refine E_s (p' := 352) (st' := aI 1 :: _) rfl rfl ?_
    refine E_s (p' := 353) (st' := aI 1 :: _) rfl rfl ?_
    refine E_scr rfl rfl h1 ?_
    refine E_s (p' := 355) (st' := aA 0 :: _) rfl rfl ?_
    refine E_s (p' := 356) (st' := aI 0 :: _) rfl rfl ?_
    refine E_s (p' := 357) (st' := aI 2 :: _) rfl rfl ?_
    refine E_s (p' := 358) (st' := aI 2 :: _) rfl rfl ?_
    refine E_scr rfl rfl h2 ?_
    refine E_s (p' := 360) (st' := aA 0 :: _) rfl rfl ?_
    refine E_s (p' := 361) (st' := aI 0 :: _) rfl rfl ?_
    refine E_s (p' := 362) (st' := aI 3 :: _) rfl rfl ?_
    refine E_s (p' := 363) (st' := aI 3 :: _) rfl rfl ?_
    refine E_scr rfl rfl h3 ?_
    refine E_callL (p' := 367) (L0 := [some (aA 124), some (aI 1), some (aI a2), some (aI a3), none, none, none]) rfl rfl rfl ?_
    refine E_s (p' := 1) (st' := aA 124 :: _) rfl rfl ?_
    refine E_s (p' := 2) (st' := aI 1 :: _) rfl rfl ?_
    refine E_s (p' := 3) rfl rfl ?_
    refine E_callL (p' := 6) (L0 := [some (aA 124), some (aI 1), some (aI a2)]) rfl rfl rfl ?_
    refine E_s (p' := 1) (st' := aI 1 :: _) rfl rfl ?_
    refine E_callL (p' := 4) (L0 := [some (aI 1)]) rfl rfl rfl ?_
    refine E_s (p' := 1) (st' := aI 1 :: _) rfl rfl ?_
    refine E_s (p' := 2) (st' := aI 0 :: _) rfl rfl ?_
    refine E_s (p' := 3) (st' := aI 3 :: _) rfl rfl ?_
    refine E_callL (p' := 6) (L0 := [some (aI 1), some (aI 0), some (aI 3)]) rfl rfl rfl ?_
    refine E_s (p' := 1) (st' := aI 1 :: _) rfl rfl ?_
    refine E_s (p' := 2) (st' := aI 0 :: _) rfl rfl ?_
    refine E_s (p' := 5) rfl rfl ?_
    refine E_s (p' := 6) (st' := aI 1 :: _) rfl rfl ?_
    refine E_s (p' := 7) (st' := aI 3 :: _) rfl rfl ?_
    refine E_s (p' := 10) rfl rfl ?_
    refine E_s (p' := 11) (st' := aI 1 :: _) rfl rfl ?_
    refine E_s (p' := 15) rfl rfl ?_
    refine E_ret rfl rfl ?_
    refine E_ret rfl rfl ?_
    refine E_s (p' := 7) rfl rfl ?_
    refine E_s (p' := 8) rfl rfl ?_
    refine E_s (p' := 9) (st' := aI 0 :: _) rfl rfl ?_
    refine E_s (p' := 10) (st' := aA 124 :: _) rfl rfl ?_
    refine E_s (p' := 13) (st' := aA 125 :: _) rfl rfl ?_
    refine E_s (p' := 14) (st' := aI 1 :: _) rfl rfl ?_
    refine E_s (p' := 15) (st' := aI 0 :: _) rfl rfl ?_
    refine E_s (p' := 16) (st' := aI 1 :: _) rfl rfl ?_
    refine E_isubv (v := -1) rfl (show (0 : Int) - 1 = -1 from rfl) (by decide) ?_
    refine E_callL (p' := 20) (L0 := [some (aI a2), some (aI 0), some (aI (-1))]) rfl rfl rfl ?_
    refine E_s (p' := 1) rfl rfl ?_
    refine E_s (p' := 2) (st' := aI 0 :: _) rfl rfl ?_
    refine E_icmp_lt (y := 0) rfl (by decide) (fun _ => ?_) (fun q => absurd q (by omega))
    refine E_s (p' := 15) (st' := aI 0 :: _) rfl rfl ?_
    refine E_ret rfl rfl ?_
    refine E_s (p' := 27) rfl rfl ?_
    refine E_s (p' := 28) (st' := aI 0 :: _) rfl rfl ?_
    refine E_ret rfl rfl ?_
    refine E_s (p' := 9) rfl rfl ?_
    refine E_s (p' := 10) (st' := aI (-1) :: _) rfl rfl ?_
    refine E_ret rfl rfl ?_
    refine E_s (p' := 1174) rfl rfl ?_
    refine E_s (p' := 1177) (L' := [some (aA 0), some (aA 1), some (aA 124), some (aI 6)]) rfl rfl ?_
    refine E_s (p' := 18) rfl rfl ?_
    refine E_s (p' := 19) (st' := aI 6 :: _) rfl rfl ?_
    refine E_s (p' := 20) (st' := aA 0 :: _) rfl rfl ?_
    refine E_s (p' := 21) (st' := aI 6 :: _) rfl rfl ?_
    refine E_s (p' := 23) (st' := aI 6 :: _) rfl rfl ?_
    refine E_s (p' := 24) (st' := aI 0 :: _) rfl rfl ?_
    refine E_s (p' := 1180) rfl rfl ?_
    refine E_s (p' := 1181) (st' := aI 1 :: _) rfl rfl ?_
    exact E_ret rfl rfl ⟨rfl, rfl⟩
  · refine E_s (p' := 5) rfl rfl ?_
    refine E_s (p' := 6) (st' := aA 47 :: _) rfl rfl ?_
    refine E_s (p' := 9) (st' := aI 0 :: _) rfl rfl ?_
    refine E_icmp_ge (y := 0) rfl (by decide) (fun _ => ?_) (fun q => absurd q (by omega))
    refine E_s (p' := 17) (st' := aI 0 :: _) rfl rfl ?_
    refine E_ret rfl rfl ?_
    refine E_s (p' := 37) rfl rfl ?_
    refine E_s (p' := 38) (st' := aI (-1) :: _) rfl rfl ?_
    refine E_ret rfl rfl ?_
    refine E_s (p' := 349) (st' := aA 124 :: _) rfl rfl ?_
    refine E_s (p' := 350) (st' := aA 0 :: _) rfl rfl ?_
    refine E_s (p' := 351) (st' := aI 0 :: _) rfl rfl ?_
    refine E_s (p' := 352) (st' := aI 1 :: _) rfl rfl ?_
    refine E_s (p' := 353) (st' := aI 1 :: _) rfl rfl ?_
    refine E_scr rfl rfl h1 ?_
    refine E_s (p' := 355) (st' := aA 0 :: _) rfl rfl ?_
    refine E_s (p' := 356) (st' := aI 0 :: _) rfl rfl ?_
    refine E_s (p' := 357) (st' := aI 2 :: _) rfl rfl ?_
    refine E_s (p' := 358) (st' := aI 2 :: _) rfl rfl ?_
    refine E_scr rfl rfl h2 ?_
    refine E_s (p' := 360) (st' := aA 0 :: _) rfl rfl ?_
    refine E_s (p' := 361) (st' := aI 0 :: _) rfl rfl ?_
    refine E_s (p' := 362) (st' := aI 3 :: _) rfl rfl ?_
    refine E_s (p' := 363) (st' := aI 3 :: _) rfl rfl ?_
    refine E_scr rfl rfl h3 ?_
    refine E_callL (p' := 367) (L0 := [some (aA 124), some (aI 1), some (aI a2), some (aI a3), none, none, none]) rfl rfl rfl ?_
    refine E_s (p' := 1) (st' := aA 124 :: _) rfl rfl ?_
    refine E_s (p' := 2) (st' := aI 1 :: _) rfl rfl ?_
    refine E_s (p' := 3) rfl rfl ?_
    refine E_callL (p' := 6) (L0 := [some (aA 124), some (aI 1), some (aI a2)]) rfl rfl rfl ?_
    refine E_s (p' := 1) (st' := aI 1 :: _) rfl rfl ?_
    refine E_callL (p' := 4) (L0 := [some (aI 1)]) rfl rfl rfl ?_
    refine E_s (p' := 1) (st' := aI 1 :: _) rfl rfl ?_
    refine E_s (p' := 2) (st' := aI 0 :: _) rfl rfl ?_
    refine E_s (p' := 3) (st' := aI 3 :: _) rfl rfl ?_
    refine E_callL (p' := 6) (L0 := [some (aI 1), some (aI 0), some (aI 3)]) rfl rfl rfl ?_
    refine E_s (p' := 1) (st' := aI 1 :: _) rfl rfl ?_
    refine E_s (p' := 2) (st' := aI 0 :: _) rfl rfl ?_
    refine E_s (p' := 5) rfl rfl ?_
    refine E_s (p' := 6) (st' := aI 1 :: _) rfl rfl ?_
    refine E_s (p' := 7) (st' := aI 3 :: _) rfl rfl ?_
    refine E_s (p' := 10) rfl rfl ?_
    refine E_s (p' := 11) (st' := aI 1 :: _) rfl rfl ?_
    refine E_s (p' := 15) rfl rfl ?_
    refine E_ret rfl rfl ?_
    refine E_ret rfl rfl ?_
    refine E_s (p' := 7) rfl rfl ?_
    refine E_s (p' := 8) rfl rfl ?_
    refine E_s (p' := 9) (st' := aI 0 :: _) rfl rfl ?_
    refine E_s (p' := 10) (st' := aA 124 :: _) rfl rfl ?_
    refine E_s (p' := 13) (st' := aA 125 :: _) rfl rfl ?_
    refine E_s (p' := 14) (st' := aI 1 :: _) rfl rfl ?_
    refine E_s (p' := 15) (st' := aI 0 :: _) rfl rfl ?_
    refine E_s (p' := 16) (st' := aI 1 :: _) rfl rfl ?_
    refine E_isubv (v := -1) rfl (show (0 : Int) - 1 = -1 from rfl) (by decide) ?_
    refine E_callL (p' := 20) (L0 := [some (aI a2), some (aI 0), some (aI (-1))]) rfl rfl rfl ?_
    refine E_s (p' := 1) rfl rfl ?_
    refine E_s (p' := 2) (st' := aI 0 :: _) rfl rfl ?_
    refine E_icmp_lt (y := 0) rfl (by decide) (fun q => absurd q (by omega)) (fun _ => ?_)
    refine E_s (p' := 6) rfl rfl ?_
    refine E_s (p' := 7) (st' := aI (-1) :: _) rfl rfl ?_
    refine E_icmp_gt (y := (-1)) rfl (by decide) (fun _ => ?_) (fun q => absurd q (by omega))
    refine E_s (p' := 15) (st' := aI 0 :: _) rfl rfl ?_
    refine E_ret rfl rfl ?_
    refine E_s (p' := 27) rfl rfl ?_
    refine E_s (p' := 28) (st' := aI 0 :: _) rfl rfl ?_
    refine E_ret rfl rfl ?_
    refine E_s (p' := 9) rfl rfl ?_
    refine E_s (p' := 10) (st' := aI (-1) :: _) rfl rfl ?_
    refine E_ret rfl rfl ?_
    refine E_s (p' := 1174) rfl rfl ?_
    refine E_s (p' := 1177) (L' := [some (aA 0), some (aA 1), some (aA 124), some (aI 6)]) rfl rfl ?_
    refine E_s (p' := 18) rfl rfl ?_
    refine E_s (p' := 19) (st' := aI 6 :: _) rfl rfl ?_
    refine E_s (p' := 20) (st' := aA 0 :: _) rfl rfl ?_
    refine E_s (p' := 21) (st' := aI 6 :: _) rfl rfl ?_
    refine E_s (p' := 23) (st' := aI 6 :: _) rfl rfl ?_
    refine E_s (p' := 24) (st' := aI 0 :: _) rfl rfl ?_
    refine E_s (p' := 1180) rfl rfl ?_
    refine E_s (p' := 1181) (st' := aI 1 :: _) rfl rfl ?_
    exact E_ret rfl rfl ⟨rfl, rfl⟩
set_option maxRecDepth 100000 in
set_option maxHeartbeats 40000000 in
theorem pc_3_2 (xs : Nat → Int) {z a2 a3 a4 a5 : Int} (hz : b32 (fun a b => a &&& b) z 31 = 3) (h0 : xs 0 = z) (h1 : xs 1 = 2) (h2 : xs 2 = a2) (h3 : xs 3 = a3) (h4 : xs 4 = a4) (h5 : xs 5 = a5) : E 0 18 LL [] (s0 xs 6) PQ := by
  refine E_s (p' := 19) (st' := aI 0 :: _) rfl rfl ?_
  refine E_s (p' := 20) (st' := aA 0 :: _) rfl rfl ?_
  refine E_s (p' := 21) (st' := aI 6 :: _) rfl rfl ?_
  refine E_s (p' := 23) (st' := aI 6 :: _) rfl rfl ?_
  refine E_s (p' := 24) (st' := aI 0 :: _) rfl rfl ?_
  refine E_s (p' := 27) rfl rfl ?_
  refine E_s (p' := 28) (st' := aA 0 :: _) rfl rfl ?_
  refine E_s (p' := 29) (st' := aI 0 :: _) rfl rfl ?_
  refine E_scr rfl rfl h0 ?_
  refine E_s (p' := 32) (st' := aI 31 :: _) rfl rfl ?_
  refine E_s (p' := 33) rfl rfl ?_
  refine E_val hz ?_
  refine E_s (p' := 329) rfl rfl ?_
  refine E_s (p' := 330) (st' := aA 1 :: _) rfl rfl ?_
  refine E_s (p' := 331) (st' := aA 0 :: _) rfl rfl ?_
  refine E_s (p' := 332) (st' := aI 0 :: _) rfl rfl ?_
  refine E_s (p' := 333) (st' := aI 1 :: _) rfl rfl ?_
  refine E_s (p' := 334) (st' := aI 1 :: _) rfl rfl ?_
  refine E_scr rfl rfl h1 ?_
  refine E_s (p' := 336) (st' := aA 0 :: _) rfl rfl ?_
  refine E_s (p' := 337) (st' := aI 0 :: _) rfl rfl ?_
  refine E_s (p' := 338) (st' := aI 2 :: _) rfl rfl ?_
  refine E_s (p' := 339) (st' := aI 2 :: _) rfl rfl ?_
  refine E_scr rfl rfl h2 ?_
  refine E_s (p' := 341) (st' := aA 0 :: _) rfl rfl ?_
  refine E_s (p' := 342) (st' := aI 0 :: _) rfl rfl ?_
  refine E_s (p' := 343) (st' := aI 3 :: _) rfl rfl ?_
  refine E_s (p' := 344) (st' := aI 3 :: _) rfl rfl ?_
  refine E_scr rfl rfl h3 ?_
  refine E_callL (p' := 348) (L0 := [some (aA 1), some (aI 2), some (aI a2), some (aI a3), none]) rfl rfl rfl ?_
  refine E_s (p' := 1) (st' := aA 1 :: _) rfl rfl ?_
  refine E_s (p' := 2) (st' := aI 2 :: _) rfl rfl ?_
  refine E_callL (p' := 5) (L0 := [some (aA 1), some (aI 2)]) rfl rfl rfl ?_
  refine E_s (p' := 1) (st' := aI 2 :: _) rfl rfl ?_
  refine E_s (p' := 4) rfl rfl ?_
  refine E_s (p' := 5) (st' := aI 2 :: _) rfl rfl ?_
  refine E_s (p' := 6) (st' := aI 4 :: _) rfl rfl ?_
  refine E_s (p' := 9) rfl rfl ?_
  refine E_s (p' := 10) (st' := aA 1 :: _) rfl rfl ?_
  refine E_s (p' := 13) (st' := aA 2 :: _) rfl rfl ?_
  refine E_s (p' := 14) (st' := aI 2 :: _) rfl rfl ?_
  refine E_s (p' := 15) (st' := aA 72 :: _) rfl rfl ?_
  refine E_s (p' := 19) rfl rfl ?_
  refine E_ret rfl rfl ?_
  refine E_s (p' := 7) (L' := [some (aA 1), some (aI 2), some (aI a2), some (aI a3), some (aA 72)]) rfl rfl ?_
  refine E_s (p' := 9) (st' := aA 72 :: _) rfl rfl ?_
  refine E_s (p' := 12) rfl rfl ?_
  refine E_s (p' := 14) (st' := aA 72 :: _) rfl rfl ?_
  refine E_s (p' := 17) (st' := aA 73 :: _) rfl rfl ?_
  refine E_s (p' := 18) rfl rfl ?_
  refine E_callL (p' := 21) (L0 := [some (aA 73), some (aI a2)]) rfl rfl rfl ?_
  refine E_s (p' := 1) rfl rfl ?_
  refine E_if_lt rfl (by decide) (fun _ => ?_) (fun _ => ?_)
  · refine E_s (p' := 17) (st' := aI 0 :: _) rfl rfl ?_
    refine E_ret rfl rfl ?_
    refine E_s (p' := 37) rfl rfl ?_
    refine E_s (p' := 38) (st' := aI (-1) :: _) rfl rfl ?_
    refine E_ret rfl rfl ?_
    refine E_s (p' := 349) (st' := aA 124 :: _) rfl rfl ?_
    refine E_s (p' := 350) (st' := aA 0 :: _) rfl rfl ?_
    refine E_s (p' := 351) (st' := aI 0 :: _) rfl rfl ?_
    refine E_s (p' := 352) (st' := aI 1 :: _) rfl rfl ?_
    refine E_s (p' := 353) (st' := aI 1 :: _) rfl rfl ?_
    refine E_scr rfl rfl h1 ?_
    refine E_s (p' := 355) (st' := aA 0 :: _) rfl rfl ?_
    refine E_s (p' := 356) (st' := aI 0 :: _) rfl rfl ?_
    refine E_s (p' := 357) (st' := aI 2 :: _) rfl rfl ?_
    refine E_s (p' := 358) (st' := aI 2 :: _) rfl rfl ?_
    refine E_scr rfl rfl h2 ?_
    refine E_s (p' := 360) (st' := aA 0 :: _) rfl rfl ?_
    refine E_s (p' := 361) (st' := aI 0 :: _) rfl rfl ?_
    refine E_s (p' := 362) (st' := aI 3 :: _) rfl rfl ?_
    refine E_s (p' := 363) (st' := aI 3 :: _) rfl rfl ?_
    refine E_scr rfl rfl h3 ?_
    refine E_callL (p' := 367) (L0 := [some (aA 124), some (aI 2), some (aI a2), some (aI a3), none, none, none]) rfl rfl rfl ?_
    refine E_s (p' := 1) (st' := aA 124 :: _) rfl rfl ?_
    refine E_s (p' := 2) (st' := aI 2 :: _) rfl rfl ?_
    refine E_s (p' := 3) rfl rfl ?_
    refine E_callL (p' := 6) (L0 := [some (aA 124), some (aI 2), some (aI a2)]) rfl rfl rfl ?_
    refine E_s (p' := 1) (st' := aI 2 :: _) rfl rfl ?_
    refine E_callL (p' := 4) (L0 := [some (aI 2)]) rfl rfl rfl ?_
    refine E_s (p' := 1) (st' := aI 2 :: _) rfl rfl ?_
    refine E_s (p' := 2) (st' := aI 0 :: _) rfl rfl ?_
    refine E_s (p' := 3) (st' := aI 3 :: _) rfl rfl ?_
    refine E_callL (p' := 6) (L0 := [some (aI 2), some (aI 0), some (aI 3)]) rfl rfl rfl ?_
    refine E_s (p' := 1) (st' := aI 2 :: _) rfl rfl ?_
    refine E_s (p' := 2) (st' := aI 0 :: _) rfl rfl ?_
    refine E_s (p' := 5) rfl rfl ?_
    refine E_s (p' := 6) (st' := aI 2 :: _) rfl rfl ?_
    refine E_s (p' := 7) (st' := aI 3 :: _) rfl rfl ?_
    refine E_s (p' := 10) rfl rfl ?_
    refine E_s (p' := 11) (st' := aI 1 :: _) rfl rfl ?_
    refine E_s (p' := 15) rfl rfl ?_
    refine E_ret rfl rfl ?_
    refine E_ret rfl rfl ?_
    refine E_s (p' := 7) rfl rfl ?_
    refine E_s (p' := 8) rfl rfl ?_
    refine E_s (p' := 9) (st' := aI 0 :: _) rfl rfl ?_
    refine E_s (p' := 10) (st' := aA 124 :: _) rfl rfl ?_
    refine E_s (p' := 13) (st' := aA 125 :: _) rfl rfl ?_
    refine E_s (p' := 14) (st' := aI 2 :: _) rfl rfl ?_
    refine E_s (p' := 15) (st' := aI 0 :: _) rfl rfl ?_
    refine E_s (p' := 16) (st' := aI 1 :: _) rfl rfl ?_
    refine E_isubv (v := -1) rfl (show (0 : Int) - 1 = -1 from rfl) (by decide) ?_
    refine E_callL (p' := 20) (L0 := [some (aI a2), some (aI 0), some (aI (-1))]) rfl rfl rfl ?_
    refine E_s (p' := 1) rfl rfl ?_
    refine E_s (p' := 2) (st' := aI 0 :: _) rfl rfl ?_
    refine E_icmp_lt (y := 0) rfl (by decide) (fun _ => ?_) (fun q => absurd q (by omega))
    refine E_s (p' := 15) (st' := aI 0 :: _) rfl rfl ?_
    refine E_ret rfl rfl ?_
    refine E_s (p' := 27) rfl rfl ?_
    refine E_s (p' := 28) (st' := aI 0 :: _) rfl rfl ?_
    refine E_ret rfl rfl ?_
    refine E_s (p' := 9) rfl rfl ?_
    refine E_s (p' := 10) (st' := aI (-1) :: _) rfl rfl ?_
    refine E_ret rfl rfl ?_
    refine E_s (p' := 1174) rfl rfl ?_
    refine E_s (p' := 1177) (L' := [some (aA 0), some (aA 1), some (aA 124), some (aI 6)]) rfl rfl ?_
    refine E_s (p' := 18) rfl rfl ?_
    refine E_s (p' := 19) (st' := aI 6 :: _) rfl rfl ?_
    refine E_s (p' := 20) (st' := aA 0 :: _) rfl rfl ?_
    refine E_s (p' := 21) (st' := aI 6 :: _) rfl rfl ?_
    refine E_s (p' := 23) (st' := aI 6 :: _) rfl rfl ?_
    refine E_s (p' := 24) (st' := aI 0 :: _) rfl rfl ?_
    refine E_s (p' := 1180) rfl rfl ?_
    refine E_s (p' := 1181) (st' := aI 1 :: _) rfl rfl ?_
    exact E_ret rfl rfl ⟨rfl, rfl⟩
  · refine E_s (p' := 5) rfl rfl ?_
    refine E_s (p' := 6) (st' := aA 73 :: _) rfl rfl ?_
    refine E_s (p' := 9) (st' := aI 0 :: _) rfl rfl ?_
    refine E_icmp_ge (y := 0) rfl (by decide) (fun _ => ?_) (fun q => absurd q (by omega))
    refine E_s (p' := 17) (st' := aI 0 :: _) rfl rfl ?_
    refine E_ret rfl rfl ?_
    refine E_s (p' := 37) rfl rfl ?_
    refine E_s (p' := 38) (st' := aI (-1) :: _) rfl rfl ?_
    refine E_ret rfl rfl ?_
    refine E_s (p' := 349) (st' := aA 124 :: _) rfl rfl ?_
    refine E_s (p' := 350) (st' := aA 0 :: _) rfl rfl ?_
    refine E_s (p' := 351) (st' := aI 0 :: _) rfl rfl ?_
    refine E_s (p' := 352) (st' := aI 1 :: _) rfl rfl ?_
    refine E_s (p' := 353) (st' := aI 1 :: _) rfl rfl ?_
    refine E_scr rfl rfl h1 ?_
    refine E_s (p' := 355) (st' := aA 0 :: _) rfl rfl ?_
    refine E_s (p' := 356) (st' := aI 0 :: _) rfl rfl ?_
    refine E_s (p' := 357) (st' := aI 2 :: _) rfl rfl ?_
    refine E_s (p' := 358) (st' := aI 2 :: _) rfl rfl ?_
    refine E_scr rfl rfl h2 ?_
    refine E_s (p' := 360) (st' := aA 0 :: _) rfl rfl ?_
    refine E_s (p' := 361) (st' := aI 0 :: _) rfl rfl ?_
    refine E_s (p' := 362) (st' := aI 3 :: _) rfl rfl ?_
    refine E_s (p' := 363) (st' := aI 3 :: _) rfl rfl ?_
    refine E_scr rfl rfl h3 ?_
    refine E_callL (p' := 367) (L0 := [some (aA 124), some (aI 2), some (aI a2), some (aI a3), none, none, none]) rfl rfl rfl ?_
    refine E_s (p' := 1) (st' := aA 124 :: _) rfl rfl ?_
    refine E_s (p' := 2) (st' := aI 2 :: _) rfl rfl ?_
    refine E_s (p' := 3) rfl rfl ?_
    refine E_callL (p' := 6) (L0 := [some (aA 124), some (aI 2), some (aI a2)]) rfl rfl rfl ?_
    refine E_s (p' := 1) (st' := aI 2 :: _) rfl rfl ?_
    refine E_callL (p' := 4) (L0 := [some (aI 2)]) rfl rfl rfl ?_
    refine E_s (p' := 1) (st' := aI 2 :: _) rfl rfl ?_
    refine E_s (p' := 2) (st' := aI 0 :: _) rfl rfl ?_
    refine E_s (p' := 3) (st' := aI 3 :: _) rfl rfl ?_
    refine E_callL (p' := 6) (L0 := [some (aI 2), some (aI 0), some (aI 3)]) rfl rfl rfl ?_
    refine E_s (p' := 1) (st' := aI 2 :: _) rfl rfl ?_
    refine E_s (p' := 2) (st' := aI 0 :: _) rfl rfl ?_
    refine E_s (p' := 5) rfl rfl ?_
    refine E_s (p' := 6) (st' := aI 2 :: _) rfl rfl ?_
    refine E_s (p' := 7) (st' := aI 3 :: _) rfl rfl ?_
    refine E_s (p' := 10) rfl rfl ?_
    refine E_s (p' := 11) (st' := aI 1 :: _) rfl rfl ?_
    refine E_s (p' := 15) rfl rfl ?_
    refine E_ret rfl rfl ?_
    refine E_ret rfl rfl ?_
    refine E_s (p' := 7) rfl rfl ?_
    refine E_s (p' := 8) rfl rfl ?_
    refine E_s (p' := 9) (st' := aI 0 :: _) rfl rfl ?_
    refine E_s (p' := 10) (st' := aA 124 :: _) rfl rfl ?_
    refine E_s (p' := 13) (st' := aA 125 :: _) rfl rfl ?_
    refine E_s (p' := 14) (st' := aI 2 :: _) rfl rfl ?_
    refine E_s (p' := 15) (st' := aI 0 :: _) rfl rfl ?_
    refine E_s (p' := 16) (st' := aI 1 :: _) rfl rfl ?_
    refine E_isubv (v := -1) rfl (show (0 : Int) - 1 = -1 from rfl) (by decide) ?_
    refine E_callL (p' := 20) (L0 := [some (aI a2), some (aI 0), some (aI (-1))]) rfl rfl rfl ?_
    refine E_s (p' := 1) rfl rfl ?_
    refine E_s (p' := 2) (st' := aI 0 :: _) rfl rfl ?_
    refine E_icmp_lt (y := 0) rfl (by decide) (fun q => absurd q (by omega)) (fun _ => ?_)
    refine E_s (p' := 6) rfl rfl ?_
    refine E_s (p' := 7) (st' := aI (-1) :: _) rfl rfl ?_
    refine E_icmp_gt (y := (-1)) rfl (by decide) (fun _ => ?_) (fun q => absurd q (by omega))
    refine E_s (p' := 15) (st' := aI 0 :: _) rfl rfl ?_
    refine E_ret rfl rfl ?_
    refine E_s (p' := 27) rfl rfl ?_
    refine E_s (p' := 28) (st' := aI 0 :: _) rfl rfl ?_
    refine E_ret rfl rfl ?_
    refine E_s (p' := 9) rfl rfl ?_
    refine E_s (p' := 10) (st' := aI (-1) :: _) rfl rfl ?_
    refine E_ret rfl rfl ?_
    refine E_s (p' := 1174) rfl rfl ?_
    refine E_s (p' := 1177) (L' := [some (aA 0), some (aA 1), some (aA 124), some (aI 6)]) rfl rfl ?_
    refine E_s (p' := 18) rfl rfl ?_
    refine E_s (p' := 19) (st' := aI 6 :: _) rfl rfl ?_
    refine E_s (p' := 20) (st' := aA 0 :: _) rfl rfl ?_
    refine E_s (p' := 21) (st' := aI 6 :: _) rfl rfl ?_
    refine E_s (p' := 23) (st' := aI 6 :: _) rfl rfl ?_
    refine E_s (p' := 24) (st' := aI 0 :: _) rfl rfl ?_
    refine E_s (p' := 1180) rfl rfl ?_
    refine E_s (p' := 1181) (st' := aI 1 :: _) rfl rfl ?_
    exact E_ret rfl rfl ⟨rfl, rfl⟩
set_option maxRecDepth 100000 in
set_option maxHeartbeats 40000000 in
theorem pc_3_3 (xs : Nat → Int) {z a2 a3 a4 a5 : Int} (hz : b32 (fun a b => a &&& b) z 31 = 3) (h0 : xs 0 = z) (h1 : xs 1 = 3) (h2 : xs 2 = a2) (h3 : xs 3 = a3) (h4 : xs 4 = a4) (h5 : xs 5 = a5) : E 0 18 LL [] (s0 xs 6) PQ := by
  refine E_s (p' := 19) (st' := aI 0 :: _) rfl rfl ?_
  refine E_s (p' := 20) (st' := aA 0 :: _) rfl rfl ?_
  refine E_s (p' := 21) (st' := aI 6 :: _) rfl rfl ?_
  refine E_s (p' := 23) (st' := aI 6 :: _) rfl rfl ?_
  refine E_s (p' := 24) (st' := aI 0 :: _) rfl rfl ?_
  refine E_s (p' := 27) rfl rfl ?_
  refine E_s (p' := 28) (st' := aA 0 :: _) rfl rfl ?_
  refine E_s (p' := 29) (st' := aI 0 :: _) rfl rfl ?_
  refine E_scr rfl rfl h0 ?_
  refine E_s (p' := 32) (st' := aI 31 :: _) rfl rfl ?_
  refine E_s (p' := 33) rfl rfl ?_
  refine E_val hz ?_
  refine E_s (p' := 329) rfl rfl ?_
  refine E_s (p' := 330) (st' := aA 1 :: _) rfl rfl ?_
  refine E_s (p' := 331) (st' := aA 0 :: _) rfl rfl ?_
  refine E_s (p' := 332) (st' := aI 0 :: _) rfl rfl ?_
  refine E_s (p' := 333) (st' := aI 1 :: _) rfl rfl ?_
  refine E_s (p' := 334) (st' := aI 1 :: _) rfl rfl ?_
  refine E_scr rfl rfl h1 ?_
  refine E_s (p' := 336) (st' := aA 0 :: _) rfl rfl ?_
  refine E_s (p' := 337) (st' := aI 0 :: _) rfl rfl ?_
  refine E_s (p' := 338) (st' := aI 2 :: _) rfl rfl ?_
  refine E_s (p' := 339) (st' := aI 2 :: _) rfl rfl ?_
  refine E_scr rfl rfl h2 ?_
  refine E_s (p' := 341) (st' := aA 0 :: _) rfl rfl ?_
  refine E_s (p' := 342) (st' := aI 0 :: _) rfl rfl ?_
  refine E_s (p' := 343) (st' := aI 3 :: _) rfl rfl ?_
  refine E_s (p' := 344) (st' := aI 3 :: _) rfl rfl ?_
  refine E_scr rfl rfl h3 ?_
  refine E_callL (p' := 348) (L0 := [some (aA 1), some (aI 3), some (aI a2), some (aI a3), none]) rfl rfl rfl ?_
  refine E_s (p' := 1) (st' := aA 1 :: _) rfl rfl ?_
  refine E_s (p' := 2) (st' := aI 3 :: _) rfl rfl ?_
  refine E_callL (p' := 5) (L0 := [some (aA 1), some (aI 3)]) rfl rfl rfl ?_
  refine E_s (p' := 1) (st' := aI 3 :: _) rfl rfl ?_
  refine E_s (p' := 4) rfl rfl ?_
  refine E_s (p' := 5) (st' := aI 3 :: _) rfl rfl ?_
  refine E_s (p' := 6) (st' := aI 4 :: _) rfl rfl ?_
  refine E_s (p' := 9) rfl rfl ?_
  refine E_s (p' := 10) (st' := aA 1 :: _) rfl rfl ?_
  refine E_s (p' := 13) (st' := aA 2 :: _) rfl rfl ?_
  refine E_s (p' := 14) (st' := aI 3 :: _) rfl rfl ?_
  refine E_s (p' := 15) (st' := aA 98 :: _) rfl rfl ?_
  refine E_s (p' := 19) rfl rfl ?_
  refine E_ret rfl rfl ?_
  refine E_s (p' := 7) (L' := [some (aA 1), some (aI 3), some (aI a2), some (aI a3), some (aA 98)]) rfl rfl ?_
  refine E_s (p' := 9) (st' := aA 98 :: _) rfl rfl ?_
  refine E_s (p' := 12) rfl rfl ?_
  refine E_s (p' := 14) (st' := aA 98 :: _) rfl rfl ?_
  refine E_s (p' := 17) (st' := aA 99 :: _) rfl rfl ?_
  refine E_s (p' := 18) rfl rfl ?_
  refine E_callL (p' := 21) (L0 := [some (aA 99), some (aI a2)]) rfl rfl rfl ?_
  refine E_s (p' := 1) rfl rfl ?_
  refine E_if_lt rfl (by decide) (fun _ => ?_) (fun _ => ?_)
  · refine E_s (p' := 17) (st' := aI 0 :: _) rfl rfl ?_
    refine E_ret rfl rfl ?_
    refine E_s (p' := 37) rfl rfl ?_
    refine E_s (p' := 38) (st' := aI (-1) :: _) rfl rfl ?_
    refine E_ret rfl rfl ?_
    refine E_s (p' := 349) (st' := aA 124 :: _) rfl rfl ?_
    refine E_s (p' := 350) (st' := aA 0 :: _) rfl rfl ?_
    refine E_s (p' := 351) (st' := aI 0 :: _) rfl rfl ?_
    refine E_s (p' := 352) (st' := aI 1 :: _) rfl rfl ?_
    refine E_s (p' := 353) (st' := aI 1 :: _) rfl rfl ?_
    refine E_scr rfl rfl h1 ?_
    refine E_s (p' := 355) (st' := aA 0 :: _) rfl rfl ?_
    refine E_s (p' := 356) (st' := aI 0 :: _) rfl rfl ?_
    refine E_s (p' := 357) (st' := aI 2 :: _) rfl rfl ?_
    refine E_s (p' := 358) (st' := aI 2 :: _) rfl rfl ?_
    refine E_scr rfl rfl h2 ?_
    refine E_s (p' := 360) (st' := aA 0 :: _) rfl rfl ?_
    refine E_s (p' := 361) (st' := aI 0 :: _) rfl rfl ?_
    refine E_s (p' := 362) (st' := aI 3 :: _) rfl rfl ?_
    refine E_s (p' := 363) (st' := aI 3 :: _) rfl rfl ?_
    refine E_scr rfl rfl h3 ?_
    refine E_callL (p' := 367) (L0 := [some (aA 124), some (aI 3), some (aI a2), some (aI a3), none, none, none]) rfl rfl rfl ?_
    refine E_s (p' := 1) (st' := aA 124 :: _) rfl rfl ?_
    refine E_s (p' := 2) (st' := aI 3 :: _) rfl rfl ?_
    refine E_s (p' := 3) rfl rfl ?_
    refine E_callL (p' := 6) (L0 := [some (aA 124), some (aI 3), some (aI a2)]) rfl rfl rfl ?_
    refine E_s (p' := 1) (st' := aI 3 :: _) rfl rfl ?_
    refine E_callL (p' := 4) (L0 := [some (aI 3)]) rfl rfl rfl ?_
    refine E_s (p' := 1) (st' := aI 3 :: _) rfl rfl ?_
    refine E_s (p' := 2) (st' := aI 0 :: _) rfl rfl ?_
    refine E_s (p' := 3) (st' := aI 3 :: _) rfl rfl ?_
    refine E_callL (p' := 6) (L0 := [some (aI 3), some (aI 0), some (aI 3)]) rfl rfl rfl ?_
    refine E_s (p' := 1) (st' := aI 3 :: _) rfl rfl ?_
    refine E_s (p' := 2) (st' := aI 0 :: _) rfl rfl ?_
    refine E_s (p' := 5) rfl rfl ?_
    refine E_s (p' := 6) (st' := aI 3 :: _) rfl rfl ?_
    refine E_s (p' := 7) (st' := aI 3 :: _) rfl rfl ?_
    refine E_s (p' := 10) rfl rfl ?_
    refine E_s (p' := 11) (st' := aI 1 :: _) rfl rfl ?_
    refine E_s (p' := 15) rfl rfl ?_
    refine E_ret rfl rfl ?_
    refine E_ret rfl rfl ?_
    refine E_s (p' := 7) rfl rfl ?_
    refine E_s (p' := 8) rfl rfl ?_
    refine E_s (p' := 9) (st' := aI 0 :: _) rfl rfl ?_
    refine E_s (p' := 10) (st' := aA 124 :: _) rfl rfl ?_
    refine E_s (p' := 13) (st' := aA 125 :: _) rfl rfl ?_
    refine E_s (p' := 14) (st' := aI 3 :: _) rfl rfl ?_
    refine E_s (p' := 15) (st' := aI 0 :: _) rfl rfl ?_
    refine E_s (p' := 16) (st' := aI 1 :: _) rfl rfl ?_
    refine E_isubv (v := -1) rfl (show (0 : Int) - 1 = -1 from rfl) (by decide) ?_
    refine E_callL (p' := 20) (L0 := [some (aI a2), some (aI 0), some (aI (-1))]) rfl rfl rfl ?_
    refine E_s (p' := 1) rfl rfl ?_
    refine E_s (p' := 2) (st' := aI 0 :: _) rfl rfl ?_
    refine E_icmp_lt (y := 0) rfl (by decide) (fun _ => ?_) (fun q => absurd q (by omega))
    refine E_s (p' := 15) (st' := aI 0 :: _) rfl rfl ?_
    refine E_ret rfl rfl ?_
    refine E_s (p' := 27) rfl rfl ?_
    refine E_s (p' := 28) (st' := aI 0 :: _) rfl rfl ?_
    refine E_ret rfl rfl ?_
    refine E_s (p' := 9) rfl rfl ?_
    refine E_s (p' := 10) (st' := aI (-1) :: _) rfl rfl ?_
    refine E_ret rfl rfl ?_
    refine E_s (p' := 1174) rfl rfl ?_
    refine E_s (p' := 1177) (L' := [some (aA 0), some (aA 1), some (aA 124), some (aI 6)]) rfl rfl ?_
    refine E_s (p' := 18) rfl rfl ?_
    refine E_s (p' := 19) (st' := aI 6 :: _) rfl rfl ?_
    refine E_s (p' := 20) (st' := aA 0 :: _) rfl rfl ?_
    refine E_s (p' := 21) (st' := aI 6 :: _) rfl rfl ?_
    refine E_s (p' := 23) (st' := aI 6 :: _) rfl rfl ?_
    refine E_s (p' := 24) (st' := aI 0 :: _) rfl rfl ?_
    refine E_s (p' := 1180) rfl rfl ?_
    refine E_s (p' := 1181) (st' := aI 1 :: _) rfl rfl ?_
    exact E_ret rfl rfl ⟨rfl, rfl⟩
  · refine E_s (p' := 5) rfl rfl ?_
    refine E_s (p' := 6) (st' := aA 99 :: _) rfl rfl ?_
    refine E_s (p' := 9) (st' := aI 0 :: _) rfl rfl ?_
    refine E_icmp_ge (y := 0) rfl (by decide) (fun _ => ?_) (fun q => absurd q (by omega))
    refine E_s (p' := 17) (st' := aI 0 :: _) rfl rfl ?_
    refine E_ret rfl rfl ?_
    refine E_s (p' := 37) rfl rfl ?_
    refine E_s (p' := 38) (st' := aI (-1) :: _) rfl rfl ?_
    refine E_ret rfl rfl ?_
    refine E_s (p' := 349) (st' := aA 124 :: _) rfl rfl ?_
    refine E_s (p' := 350) (st' := aA 0 :: _) rfl rfl ?_
    refine E_s (p' := 351) (st' := aI 0 :: _) rfl rfl ?_
    refine E_s (p' := 352) (st' := aI 1 :: _) rfl rfl ?_
    refine E_s (p' := 353) (st' := aI 1 :: _) rfl rfl ?_
    refine E_scr rfl rfl h1 ?_
    refine E_s (p' := 355) (st' := aA 0 :: _) rfl rfl ?_
    refine E_s (p' := 356) (st' := aI 0 :: _) rfl rfl ?_
    refine E_s (p' := 357) (st' := aI 2 :: _) rfl rfl ?_
    refine E_s (p' := 358) (st' := aI 2 :: _) rfl rfl ?_
    refine E_scr rfl rfl h2 ?_
    refine E_s (p' := 360) (st' := aA 0 :: _) rfl rfl ?_
    refine E_s (p' := 361) (st' := aI 0 :: _) rfl rfl ?_
    refine E_s (p' := 362) (st' := aI 3 :: _) rfl rfl ?_
    refine E_s (p' := 363) (st' := aI 3 :: _) rfl rfl ?_
    refine E_scr rfl rfl h3 ?_
    refine E_callL (p' := 367) (L0 := [some (aA 124), some (aI 3), some (aI a2), some (aI a3), none, none, none]) rfl rfl rfl ?_
    refine E_s (p' := 1) (st' := aA 124 :: _) rfl rfl ?_
    refine E_s (p' := 2) (st' := aI 3 :: _) rfl rfl ?_
    refine E_s (p' := 3) rfl rfl ?_
    refine E_callL (p' := 6) (L0 := [some (aA 124), some (aI 3), some (aI a2)]) rfl rfl rfl ?_
    refine E_s (p' := 1) (st' := aI 3 :: _) rfl rfl ?_
    refine E_callL (p' := 4) (L0 := [some (aI 3)]) rfl rfl rfl ?_
    refine E_s (p' := 1) (st' := aI 3 :: _) rfl rfl ?_
    refine E_s (p' := 2) (st' := aI 0 :: _) rfl rfl ?_
    refine E_s (p' := 3) (st' := aI 3 :: _) rfl rfl ?_
    refine E_callL (p' := 6) (L0 := [some (aI 3), some (aI 0), some (aI 3)]) rfl rfl rfl ?_
    refine E_s (p' := 1) (st' := aI 3 :: _) rfl rfl ?_
    refine E_s (p' := 2) (st' := aI 0 :: _) rfl rfl ?_
    refine E_s (p' := 5) rfl rfl ?_
    refine E_s (p' := 6) (st' := aI 3 :: _) rfl rfl ?_
    refine E_s (p' := 7) (st' := aI 3 :: _) rfl rfl ?_
    refine E_s (p' := 10) rfl rfl ?_
    refine E_s (p' := 11) (st' := aI 1 :: _) rfl rfl ?_
    refine E_s (p' := 15) rfl rfl ?_
    refine E_ret rfl rfl ?_
    refine E_ret rfl rfl ?_
    refine E_s (p' := 7) rfl rfl ?_
    refine E_s (p' := 8) rfl rfl ?_
    refine E_s (p' := 9) (st' := aI 0 :: _) rfl rfl ?_
    refine E_s (p' := 10) (st' := aA 124 :: _) rfl rfl ?_
    refine E_s (p' := 13) (st' := aA 125 :: _) rfl rfl ?_
    refine E_s (p' := 14) (st' := aI 3 :: _) rfl rfl ?_
    refine E_s (p' := 15) (st' := aI 0 :: _) rfl rfl ?_
    refine E_s (p' := 16) (st' := aI 1 :: _) rfl rfl ?_
    refine E_isubv (v := -1) rfl (show (0 : Int) - 1 = -1 from rfl) (by decide) ?_
    refine E_callL (p' := 20) (L0 := [some (aI a2), some (aI 0), some (aI (-1))]) rfl rfl rfl ?_
    refine E_s (p' := 1) rfl rfl ?_
    refine E_s (p' := 2) (st' := aI 0 :: _) rfl rfl ?_
    refine E_icmp_lt (y := 0) rfl (by decide) (fun q => absurd q (by omega)) (fun _ => ?_)
    refine E_s (p' := 6) rfl rfl ?_
    refine E_s (p' := 7) (st' := aI (-1) :: _) rfl rfl ?_
    refine E_icmp_gt (y := (-1)) rfl (by decide) (fun _ => ?_) (fun q => absurd q (by omega))
    refine E_s (p' := 15) (st' := aI 0 :: _) rfl rfl ?_
    refine E_ret rfl rfl ?_
    refine E_s (p' := 27) rfl rfl ?_
    refine E_s (p' := 28) (st' := aI 0 :: _) rfl rfl ?_
    refine E_ret rfl rfl ?_
    refine E_s (p' := 9) rfl rfl ?_
    refine E_s (p' := 10) (st' := aI (-1) :: _) rfl rfl ?_
    refine E_ret rfl rfl ?_
    refine E_s (p' := 1174) rfl rfl ?_
    refine E_s (p' := 1177) (L' := [some (aA 0), some (aA 1), some (aA 124), some (aI 6)]) rfl rfl ?_
    refine E_s (p' := 18) rfl rfl ?_
    refine E_s (p' := 19) (st' := aI 6 :: _) rfl rfl ?_
    refine E_s (p' := 20) (st' := aA 0 :: _) rfl rfl ?_
    refine E_s (p' := 21) (st' := aI 6 :: _) rfl rfl ?_
    refine E_s (p' := 23) (st' := aI 6 :: _) rfl rfl ?_
    refine E_s (p' := 24) (st' := aI 0 :: _) rfl rfl ?_
    refine E_s (p' := 1180) rfl rfl ?_
    refine E_s (p' := 1181) (st' := aI 1 :: _) rfl rfl ?_
    exact E_ret rfl rfl ⟨rfl, rfl⟩
set_option maxRecDepth 100000 in
set_option maxHeartbeats 40000000 in
theorem pc_3_o (xs : Nat → Int) {z a1 a2 a3 a4 a5 : Int} (hz : b32 (fun a b => a &&& b) z 31 = 3) (h0 : xs 0 = z) (h1 : xs 1 = a1) (h2 : xs 2 = a2) (h3 : xs 3 = a3) (h4 : xs 4 = a4) (h5 : xs 5 = a5) (hr : a1 < 0 ∨ 3 < a1) : E 0 18 LL [] (s0 xs 6) PQ := by
  refine E_s (p' := 19) (st' := aI 0 :: _) rfl rfl ?_
  refine E_s (p' := 20) (st' := aA 0 :: _) rfl rfl ?_
  refine E_s (p' := 21) (st' := aI 6 :: _) rfl rfl ?_
  refine E_s (p' := 23) (st' := aI 6 :: _) rfl rfl ?_
  refine E_s (p' := 24) (st' := aI 0 :: _) rfl rfl ?_
  refine E_s (p' := 27) rfl rfl ?_
  refine E_s (p' := 28) (st' := aA 0 :: _) rfl rfl ?_
  refine E_s (p' := 29) (st' := aI 0 :: _) rfl rfl ?_
  refine E_scr rfl rfl h0 ?_
  refine E_s (p' := 32) (st' := aI 31 :: _) rfl rfl ?_
  refine E_s (p' := 33) rfl rfl ?_
  refine E_val hz ?_
  refine E_s (p' := 329) rfl rfl ?_
  refine E_s (p' := 330) (st' := aA 1 :: _) rfl rfl ?_
  refine E_s (p' := 331) (st' := aA 0 :: _) rfl rfl ?_
  refine E_s (p' := 332) (st' := aI 0 :: _) rfl rfl ?_
  refine E_s (p' := 333) (st' := aI 1 :: _) rfl rfl ?_
  refine E_s (p' := 334) (st' := aI 1 :: _) rfl rfl ?_
  refine E_scr rfl rfl h1 ?_
  refine E_s (p' := 336) (st' := aA 0 :: _) rfl rfl ?_
  refine E_s (p' := 337) (st' := aI 0 :: _) rfl rfl ?_
  refine E_s (p' := 338) (st' := aI 2 :: _) rfl rfl ?_
  refine E_s (p' := 339) (st' := aI 2 :: _) rfl rfl ?_
  refine E_scr rfl rfl h2 ?_
  refine E_s (p' := 341) (st' := aA 0 :: _) rfl rfl ?_
  refine E_s (p' := 342) (st' := aI 0 :: _) rfl rfl ?_
  refine E_s (p' := 343) (st' := aI 3 :: _) rfl rfl ?_
  refine E_s (p' := 344) (st' := aI 3 :: _) rfl rfl ?_
  refine E_scr rfl rfl h3 ?_
  refine E_callL (p' := 348) (L0 := [some (aA 1), some (aI a1), some (aI a2), some (aI a3), none]) rfl rfl rfl ?_
  refine E_s (p' := 1) (st' := aA 1 :: _) rfl rfl ?_
  refine E_s (p' := 2) rfl rfl ?_
  refine E_callL (p' := 5) (L0 := [some (aA 1), some (aI a1)]) rfl rfl rfl ?_
  refine E_s (p' := 1) rfl rfl ?_
  refine E_if_lt rfl (by decide) (fun _ => ?_) (fun _ => ?_)
  · refine E_s (p' := 19) rfl rfl ?_
    refine E_ret rfl rfl ?_
    refine E_s (p' := 7) (L' := [some (aA 1), some (aI a1), some (aI a2), some (aI a3), some aN]) rfl rfl ?_
    refine E_s (p' := 9) rfl rfl ?_
    refine E_s (p' := 37) rfl rfl ?_
    refine E_s (p' := 38) (st' := aI (-1) :: _) rfl rfl ?_
    refine E_ret rfl rfl ?_
    refine E_s (p' := 349) (st' := aA 124 :: _) rfl rfl ?_
    refine E_s (p' := 350) (st' := aA 0 :: _) rfl rfl ?_
    refine E_s (p' := 351) (st' := aI 0 :: _) rfl rfl ?_
    refine E_s (p' := 352) (st' := aI 1 :: _) rfl rfl ?_
    refine E_s (p' := 353) (st' := aI 1 :: _) rfl rfl ?_
    refine E_scr rfl rfl h1 ?_
    refine E_s (p' := 355) (st' := aA 0 :: _) rfl rfl ?_
    refine E_s (p' := 356) (st' := aI 0 :: _) rfl rfl ?_
    refine E_s (p' := 357) (st' := aI 2 :: _) rfl rfl ?_
    refine E_s (p' := 358) (st' := aI 2 :: _) rfl rfl ?_
    refine E_scr rfl rfl h2 ?_
    refine E_s (p' := 360) (st' := aA 0 :: _) rfl rfl ?_
    refine E_s (p' := 361) (st' := aI 0 :: _) rfl rfl ?_
    refine E_s (p' := 362) (st' := aI 3 :: _) rfl rfl ?_
    refine E_s (p' := 363) (st' := aI 3 :: _) rfl rfl ?_
    refine E_scr rfl rfl h3 ?_
    refine E_callL (p' := 367) (L0 := [some (aA 124), some (aI a1), some (aI a2), some (aI a3), none, none, none]) rfl rfl rfl ?_
    refine E_s (p' := 1) (st' := aA 124 :: _) rfl rfl ?_
    refine E_s (p' := 2) rfl rfl ?_
    refine E_s (p' := 3) rfl rfl ?_
    refine E_callL (p' := 6) (L0 := [some (aA 124), some (aI a1), some (aI a2)]) rfl rfl rfl ?_
    refine E_s (p' := 1) rfl rfl ?_
    refine E_callL (p' := 4) (L0 := [some (aI a1)]) rfl rfl rfl ?_
    refine E_s (p' := 1) rfl rfl ?_
    refine E_s (p' := 2) (st' := aI 0 :: _) rfl rfl ?_
    refine E_s (p' := 3) (st' := aI 3 :: _) rfl rfl ?_
    refine E_callL (p' := 6) (L0 := [some (aI a1), some (aI 0), some (aI 3)]) rfl rfl rfl ?_
    refine E_s (p' := 1) rfl rfl ?_
    refine E_s (p' := 2) (st' := aI 0 :: _) rfl rfl ?_
    refine E_icmp_lt (y := 0) rfl (by decide) (fun _ => ?_) (fun q => absurd q (by omega))
    refine E_s (p' := 15) (st' := aI 0 :: _) rfl rfl ?_
    refine E_ret rfl rfl ?_
    refine E_ret rfl rfl ?_
    refine E_s (p' := 27) rfl rfl ?_
    refine E_s (p' := 28) (st' := aI 0 :: _) rfl rfl ?_
    refine E_ret rfl rfl ?_
    refine E_s (p' := 9) rfl rfl ?_
    refine E_s (p' := 10) (st' := aI (-1) :: _) rfl rfl ?_
    refine E_ret rfl rfl ?_
    refine E_s (p' := 1174) rfl rfl ?_
    refine E_s (p' := 1177) (L' := [some (aA 0), some (aA 1), some (aA 124), some (aI 6)]) rfl rfl ?_
    refine E_s (p' := 18) rfl rfl ?_
    refine E_s (p' := 19) (st' := aI 6 :: _) rfl rfl ?_
    refine E_s (p' := 20) (st' := aA 0 :: _) rfl rfl ?_
    refine E_s (p' := 21) (st' := aI 6 :: _) rfl rfl ?_
    refine E_s (p' := 23) (st' := aI 6 :: _) rfl rfl ?_
    refine E_s (p' := 24) (st' := aI 0 :: _) rfl rfl ?_
    refine E_s (p' := 1180) rfl rfl ?_
    refine E_s (p' := 1181) (st' := aI 1 :: _) rfl rfl ?_
    exact E_ret rfl rfl ⟨rfl, rfl⟩
  · refine E_s (p' := 5) rfl rfl ?_
    refine E_s (p' := 6) (st' := aI 4 :: _) rfl rfl ?_
    refine E_icmp_ge (y := 4) rfl (by decide) (fun _ => ?_) (fun q => absurd q (by omega))
    refine E_s (p' := 19) rfl rfl ?_
    refine E_ret rfl rfl ?_
    refine E_s (p' := 7) (L' := [some (aA 1), some (aI a1), some (aI a2), some (aI a3), some aN]) rfl rfl ?_
    refine E_s (p' := 9) rfl rfl ?_
    refine E_s (p' := 37) rfl rfl ?_
    refine E_s (p' := 38) (st' := aI (-1) :: _) rfl rfl ?_
    refine E_ret rfl rfl ?_
    refine E_s (p' := 349) (st' := aA 124 :: _) rfl rfl ?_
    refine E_s (p' := 350) (st' := aA 0 :: _) rfl rfl ?_
    refine E_s (p' := 351) (st' := aI 0 :: _) rfl rfl ?_
    refine E_s (p' := 352) (st' := aI 1 :: _) rfl rfl ?_
    refine E_s (p' := 353) (st' := aI 1 :: _) rfl rfl ?_
    refine E_scr rfl rfl h1 ?_
    refine E_s (p' := 355) (st' := aA 0 :: _) rfl rfl ?_
    refine E_s (p' := 356) (st' := aI 0 :: _) rfl rfl ?_
    refine E_s (p' := 357) (st' := aI 2 :: _) rfl rfl ?_
    refine E_s (p' := 358) (st' := aI 2 :: _) rfl rfl ?_
    refine E_scr rfl rfl h2 ?_
    refine E_s (p' := 360) (st' := aA 0 :: _) rfl rfl ?_
    refine E_s (p' := 361) (st' := aI 0 :: _) rfl rfl ?_
    refine E_s (p' := 362) (st' := aI 3 :: _) rfl rfl ?_
    refine E_s (p' := 363) (st' := aI 3 :: _) rfl rfl ?_
    refine E_scr rfl rfl h3 ?_
    refine E_callL (p' := 367) (L0 := [some (aA 124), some (aI a1), some (aI a2), some (aI a3), none, none, none]) rfl rfl rfl ?_
    refine E_s (p' := 1) (st' := aA 124 :: _) rfl rfl ?_
    refine E_s (p' := 2) rfl rfl ?_
    refine E_s (p' := 3) rfl rfl ?_
    refine E_callL (p' := 6) (L0 := [some (aA 124), some (aI a1), some (aI a2)]) rfl rfl rfl ?_
    refine E_s (p' := 1) rfl rfl ?_
    refine E_callL (p' := 4) (L0 := [some (aI a1)]) rfl rfl rfl ?_
    refine E_s (p' := 1) rfl rfl ?_
    refine E_s (p' := 2) (st' := aI 0 :: _) rfl rfl ?_
    refine E_s (p' := 3) (st' := aI 3 :: _) rfl rfl ?_
    refine E_callL (p' := 6) (L0 := [some (aI a1), some (aI 0), some (aI 3)]) rfl rfl rfl ?_
    refine E_s (p' := 1) rfl rfl ?_
    refine E_s (p' := 2) (st' := aI 0 :: _) rfl rfl ?_
    refine E_icmp_lt (y := 0) rfl (by decide) (fun q => absurd q (by omega)) (fun _ => ?_)
    refine E_s (p' := 6) rfl rfl ?_
    refine E_s (p' := 7) (st' := aI 3 :: _) rfl rfl ?_
    refine E_icmp_gt (y := 3) rfl (by decide) (fun _ => ?_) (fun q => absurd q (by omega))
    refine E_s (p' := 15) (st' := aI 0 :: _) rfl rfl ?_
    refine E_ret rfl rfl ?_
    refine E_ret rfl rfl ?_
    refine E_s (p' := 27) rfl rfl ?_
    refine E_s (p' := 28) (st' := aI 0 :: _) rfl rfl ?_
    refine E_ret rfl rfl ?_
    refine E_s (p' := 9) rfl rfl ?_
    refine E_s (p' := 10) (st' := aI (-1) :: _) rfl rfl ?_
    refine E_ret rfl rfl ?_
    refine E_s (p' := 1174) rfl rfl ?_
    refine E_s (p' := 1177) (L' := [some (aA 0), some (aA 1), some (aA 124), some (aI 6)]) rfl rfl ?_
    refine E_s (p' := 18) rfl rfl ?_
    refine E_s (p' := 19) (st' := aI 6 :: _) rfl rfl ?_
    refine E_s (p' := 20) (st' := aA 0 :: _) rfl rfl ?_
    refine E_s (p' := 21) (st' := aI 6 :: _) rfl rfl ?_
    refine E_s (p' := 23) (st' := aI 6 :: _) rfl rfl ?_
    refine E_s (p' := 24) (st' := aI 0 :: _) rfl rfl ?_
    refine E_s (p' := 1180) rfl rfl ?_
    refine E_s (p' := 1181) (st' := aI 1 :: _) rfl rfl ?_
    exact E_ret rfl rfl ⟨rfl, rfl⟩
set_option maxRecDepth 100000 in
set_option maxHeartbeats 40000000 in
theorem pc_4_0 (xs : Nat → Int) {z a2 a3 a4 a5 : Int} (hz : b32 (fun a b => a &&& b) z 31 = 4) (h0 : xs 0 = z) (h1 : xs 1 = 0) (h2 : xs 2 = a2) (h3 : xs 3 = a3) (h4 : xs 4 = a4) (h5 : xs 5 = a5) : E 0 18 LL [] (s0 xs 6) PQ := by
  refine E_s (p' := 19) (st' := aI 0 :: _) rfl rfl ?_
  refine E_s (p' := 20) (st' := aA 0 :: _) rfl rfl ?_
  refine E_s (p' := 21) (st' := aI 6 :: _) rfl rfl ?_
  refine E_s (p' := 23) (st' := aI 6 :: _) rfl rfl ?_
  refine E_s (p' := 24) (st' := aI 0 :: _) rfl rfl ?_
  refine E_s (p' := 27) rfl rfl ?_
  refine E_s (p' := 28) (st' := aA 0 :: _) rfl rfl ?_
  refine E_s (p' := 29) (st' := aI 0 :: _) rfl rfl ?_
  refine E_scr rfl rfl h0 ?_
  refine E_s (p' := 32) (st' := aI 31 :: _) rfl rfl ?_
  refine E_s (p' := 33) rfl rfl ?_
  refine E_val hz ?_
  refine E_s (p' := 372) rfl rfl ?_
  refine E_s (p' := 373) (st' := aA 1 :: _) rfl rfl ?_
  refine E_s (p' := 374) (st' := aA 0 :: _) rfl rfl ?_
  refine E_s (p' := 375) (st' := aI 0 :: _) rfl rfl ?_
  refine E_s (p' := 376) (st' := aI 1 :: _) rfl rfl ?_
  refine E_s (p' := 377) (st' := aI 1 :: _) rfl rfl ?_
  refine E_scr rfl rfl h1 ?_
  refine E_s (p' := 379) (st' := aA 0 :: _) rfl rfl ?_
  refine E_s (p' := 380) (st' := aI 0 :: _) rfl rfl ?_
  refine E_s (p' := 381) (st' := aI 2 :: _) rfl rfl ?_
  refine E_s (p' := 382) (st' := aI 2 :: _) rfl rfl ?_
  refine E_scr rfl rfl h2 ?_
  refine E_s (p' := 384) (st' := aA 0 :: _) rfl rfl ?_
  refine E_s (p' := 385) (st' := aI 0 :: _) rfl rfl ?_
  refine E_s (p' := 386) (st' := aI 3 :: _) rfl rfl ?_
  refine E_s (p' := 387) (st' := aI 3 :: _) rfl rfl ?_
  refine E_scr rfl rfl h3 ?_
  refine E_callL (p' := 391) (L0 := [some (aA 1), some (aI 0), some (aI a2), some (aI a3), none]) rfl rfl rfl ?_
  refine E_s (p' := 1) (st' := aA 1 :: _) rfl rfl ?_
  refine E_s (p' := 2) (st' := aI 0 :: _) rfl rfl ?_
  refine E_callL (p' := 5) (L0 := [some (aA 1), some (aI 0)]) rfl rfl rfl ?_
  refine E_s (p' := 1) (st' := aI 0 :: _) rfl rfl ?_
  refine E_s (p' := 4) rfl rfl ?_
  refine E_s (p' := 5) (st' := aI 0 :: _) rfl rfl ?_
  refine E_s (p' := 6) (st' := aI 4 :: _) rfl rfl ?_
  refine E_s (p' := 9) rfl rfl ?_
  refine E_s (p' := 10) (st' := aA 1 :: _) rfl rfl ?_
  refine E_s (p' := 13) (st' := aA 2 :: _) rfl rfl ?_
  refine E_s (p' := 14) (st' := aI 0 :: _) rfl rfl ?_
  refine E_s (p' := 15) (st' := aA 20 :: _) rfl rfl ?_
  refine E_s (p' := 19) rfl rfl ?_
  refine E_ret rfl rfl ?_
  refine E_s (p' := 7) (L' := [some (aA 1), some (aI 0), some (aI a2), some (aI a3), some (aA 20)]) rfl rfl ?_
  refine E_s (p' := 9) (st' := aA 20 :: _) rfl rfl ?_
  refine E_s (p' := 12) rfl rfl ?_
  refine E_s (p' := 14) (st' := aA 20 :: _) rfl rfl ?_
  refine E_s (p' := 17) (st' := aA 21 :: _) rfl rfl ?_
  refine E_s (p' := 18) rfl rfl ?_
  refine E_callL (p' := 21) (L0 := [some (aA 21), some (aI a2)]) rfl rfl rfl ?_
  refine E_s (p' := 1) rfl rfl ?_
  refine E_if_lt rfl (by decide) (fun _ => ?_) (fun _ => ?_)
  · refine E_s (p' := 17) (st' := aI 0 :: _) rfl rfl ?_
    refine E_ret rfl rfl ?_
    refine E_s (p' := 37) rfl rfl ?_
    refine E_s (p' := 39) (st' := aI (-2) :: _) rfl rfl ?_
    refine E_ret rfl rfl ?_
    refine E_s (p' := 392) (st' := aA 124 :: _) rfl rfl ?_
    refine E_s (p' := 393) (st' := aA 0 :: _) rfl rfl ?_
    refine E_s (p' := 394) (st' := aI 0 :: _) rfl rfl ?_
    refine E_s (p' := 395) (st' := aI 1 :: _) rfl rfl ?_
    refine E_s (p' := 396) (st' := aI 1 :: _) rfl rfl ?_
    refine E_scr rfl rfl h1 ?_
    refine E_s (p' := 398) (st' := aA 0 :: _) rfl rfl ?_
    refine E_s (p' := 399) (st' := aI 0 :: _) rfl rfl ?_
    refine E_s (p' := 400) (st' := aI 2 :: _) rfl rfl ?_
    refine E_s (p' := 401) (st' := aI 2 :: _) rfl rfl ?_
    refine E_scr rfl rfl h2 ?_
    refine E_s (p' := 403) (st' := aA 0 :: _) rfl rfl ?_
    refine E_s (p' := 404) (st' := aI 0 :: _) rfl rfl ?_
    refine E_s (p' := 405) (st' := aI 3 :: _) rfl rfl ?_
    refine E_s (p' := 406) (st' := aI 3 :: _) rfl rfl ?_
    refine E_scr rfl rfl h3 ?_
    refine E_callL (p' := 410) (L0 := [some (aA 124), some (aI 0), some (aI a2), some (aI a3), none]) rfl rfl rfl ?_
    refine E_s (p' := 1) (st' := aA 124 :: _) rfl rfl ?_
    refine E_s (p' := 2) (st' := aI 0 :: _) rfl rfl ?_
    refine E_s (p' := 3) rfl rfl ?_
    refine E_callL (p' := 6) (L0 := [some (aA 124), some (aI 0), some (aI a2)]) rfl rfl rfl ?_
    refine E_s (p' := 1) (st' := aI 0 :: _) rfl rfl ?_
    refine E_callL (p' := 4) (L0 := [some (aI 0)]) rfl rfl rfl ?_
    refine E_s (p' := 1) (st' := aI 0 :: _) rfl rfl ?_
    refine E_s (p' := 2) (st' := aI 0 :: _) rfl rfl ?_
    refine E_s (p' := 3) (st' := aI 3 :: _) rfl rfl ?_
    refine E_callL (p' := 6) (L0 := [some (aI 0), some (aI 0), some (aI 3)]) rfl rfl rfl ?_
    refine E_s (p' := 1) (st' := aI 0 :: _) rfl rfl ?_
    refine E_s (p' := 2) (st' := aI 0 :: _) rfl rfl ?_
    refine E_s (p' := 5) rfl rfl ?_
    refine E_s (p' := 6) (st' := aI 0 :: _) rfl rfl ?_
    refine E_s (p' := 7) (st' := aI 3 :: _) rfl rfl ?_
    refine E_s (p' := 10) rfl rfl ?_
    refine E_s (p' := 11) (st' := aI 1 :: _) rfl rfl ?_
    refine E_s (p' := 15) rfl rfl ?_
    refine E_ret rfl rfl ?_
    refine E_ret rfl rfl ?_
    refine E_s (p' := 7) rfl rfl ?_
    refine E_s (p' := 8) rfl rfl ?_
    refine E_s (p' := 9) (st' := aI 0 :: _) rfl rfl ?_
    refine E_s (p' := 10) (st' := aA 124 :: _) rfl rfl ?_
    refine E_s (p' := 13) (st' := aA 125 :: _) rfl rfl ?_
    refine E_s (p' := 14) (st' := aI 0 :: _) rfl rfl ?_
    refine E_s (p' := 15) (st' := aI 0 :: _) rfl rfl ?_
    refine E_s (p' := 16) (st' := aI 1 :: _) rfl rfl ?_
    refine E_isubv (v := -1) rfl (show (0 : Int) - 1 = -1 from rfl) (by decide) ?_
    refine E_callL (p' := 20) (L0 := [some (aI a2), some (aI 0), some (aI (-1))]) rfl rfl rfl ?_
    refine E_s (p' := 1) rfl rfl ?_
    refine E_s (p' := 2) (st' := aI 0 :: _) rfl rfl ?_
    refine E_icmp_lt (y := 0) rfl (by decide) (fun _ => ?_) (fun q => absurd q (by omega))
    refine E_s (p' := 15) (st' := aI 0 :: _) rfl rfl ?_
    refine E_ret rfl rfl ?_
    refine E_s (p' := 27) rfl rfl ?_
    refine E_s (p' := 28) (st' := aI 0 :: _) rfl rfl ?_
    refine E_ret rfl rfl ?_
    refine E_s (p' := 9) rfl rfl ?_
    refine E_s (p' := 11) (st' := aI (-2) :: _) rfl rfl ?_
    refine E_ret rfl rfl ?_
    refine E_s (p' := 1174) rfl rfl ?_
    refine E_s (p' := 1177) (L' := [some (aA 0), some (aA 1), some (aA 124), some (aI 6)]) rfl rfl ?_
    refine E_s (p' := 18) rfl rfl ?_
    refine E_s (p' := 19) (st' := aI 6 :: _) rfl rfl ?_
    refine E_s (p' := 20) (st' := aA 0 :: _) rfl rfl ?_
    refine E_s (p' := 21) (st' := aI 6 :: _) rfl rfl ?_
    refine E_s (p' := 23) (st' := aI 6 :: _) rfl rfl ?_
    refine E_s (p' := 24) (st' := aI 0 :: _) rfl rfl ?_
    refine E_s (p' := 1180) rfl rfl ?_
    refine E_s (p' := 1181) (st' := aI 1 :: _) rfl rfl ?_
    exact E_ret rfl rfl ⟨rfl, rfl⟩
  · refine E_s (p' := 5) rfl rfl ?_
    refine E_s (p' := 6) (st' := aA 21 :: _) rfl rfl ?_
    refine E_s (p' := 9) (st' := aI 0 :: _) rfl rfl ?_
    refine E_icmp_ge (y := 0) rfl (by decide) (fun _ => ?_) (fun q => absurd q (by omega))
    refine E_s (p' := 17) (st' := aI 0 :: _) rfl rfl ?_
    refine E_ret rfl rfl ?_
    refine E_s (p' := 37) rfl rfl ?_
    refine E_s (p' := 39) (st' := aI (-2) :: _) rfl rfl ?_
    refine E_ret rfl rfl ?_
    refine E_s (p' := 392) (st' := aA 124 :: _) rfl rfl ?_
    refine E_s (p' := 393) (st' := aA 0 :: _) rfl rfl ?_
    refine E_s (p' := 394) (st' := aI 0 :: _) rfl rfl ?_
    refine E_s (p' := 395) (st' := aI 1 :: _) rfl rfl ?_
    refine E_s (p' := 396) (st' := aI 1 :: _) rfl rfl ?_
    refine E_scr rfl rfl h1 ?_
    refine E_s (p' := 398) (st' := aA 0 :: _) rfl rfl ?_
    refine E_s (p' := 399) (st' := aI 0 :: _) rfl rfl ?_
    refine E_s (p' := 400) (st' := aI 2 :: _) rfl rfl ?_
    refine E_s (p' := 401) (st' := aI 2 :: _) rfl rfl ?_
    refine E_scr rfl rfl h2 ?_
    refine E_s (p' := 403) (st' := aA 0 :: _) rfl rfl ?_
    refine E_s (p' := 404) (st' := aI 0 :: _) rfl rfl ?_
    refine E_s (p' := 405) (st' := aI 3 :: _) rfl rfl ?_
    refine E_s (p' := 406) (st' := aI 3 :: _) rfl rfl ?_
    refine E_scr rfl rfl h3 ?_
    refine E_callL (p' := 410) (L0 := [some (aA 124), some (aI 0), some (aI a2), some (aI a3), none]) rfl rfl rfl ?_
    refine E_s (p' := 1) (st' := aA 124 :: _) rfl rfl ?_
    refine E_s (p' := 2) (st' := aI 0 :: _) rfl rfl ?_
    refine E_s (p' := 3) rfl rfl ?_
    refine E_callL (p' := 6) (L0 := [some (aA 124), some (aI 0), some (aI a2)]) rfl rfl rfl ?_
    refine E_s (p' := 1) (st' := aI 0 :: _) rfl rfl ?_
    refine E_callL (p' := 4) (L0 := [some (aI 0)]) rfl rfl rfl ?_
    refine E_s (p' := 1) (st' := aI 0 :: _) rfl rfl ?_
    refine E_s (p' := 2) (st' := aI 0 :: _) rfl rfl ?_
    refine E_s (p' := 3) (st' := aI 3 :: _) rfl rfl ?_
    refine E_callL (p' := 6) (L0 := [some (aI 0), some (aI 0), some (aI 3)]) rfl rfl rfl ?_
    refine E_s (p' := 1) (st' := aI 0 :: _) rfl rfl ?_
    refine E_s (p' := 2) (st' := aI 0 :: _) rfl rfl ?_
    refine E_s (p' := 5) rfl rfl ?_
    refine E_s (p' := 6) (st' := aI 0 :: _) rfl rfl ?_
    refine E_s (p' := 7) (st' := aI 3 :: _) rfl rfl ?_
    refine E_s (p' := 10) rfl rfl ?_
    refine E_s (p' := 11) (st' := aI 1 :: _) rfl rfl ?_
    refine E_s (p' := 15) rfl rfl ?_
    refine E_ret rfl rfl ?_
    refine E_ret rfl rfl ?_
    refine E_s (p' := 7) rfl rfl ?_
    refine E_s (p' := 8) rfl rfl ?_
    refine E_s (p' := 9) (st' := aI 0 :: _) rfl rfl ?_
    refine E_s (p' := 10) (st' := aA 124 :: _) rfl rfl ?_
    refine E_s (p' := 13) (st' := aA 125 :: _) rfl rfl ?_
    refine E_s (p' := 14) (st' := aI 0 :: _) rfl rfl ?_
    refine E_s (p' := 15) (st' := aI 0 :: _) rfl rfl ?_
    refine E_s (p' := 16) (st' := aI 1 :: _) rfl rfl ?_
    refine E_isubv (v := -1) rfl (show (0 : Int) - 1 = -1 from rfl) (by decide) ?_
    refine E_callL (p' := 20) (L0 := [some (aI a2), some (aI 0), some (aI (-1))]) rfl rfl rfl ?_
    refine E_s (p' := 1) rfl rfl ?_
    refine E_s (p' := 2) (st' := aI 0 :: _) rfl rfl ?_
    refine E_icmp_lt (y := 0) rfl (by decide) (fun q => absurd q (by omega)) (fun _ => ?_)
    refine E_s (p' := 6) rfl rfl ?_
    refine E_s (p' := 7) (st' := aI (-1) :: _) rfl rfl ?_
    refine E_icmp_gt (y := (-1)) rfl (by decide) (fun _ => ?_) (fun q => absurd q (by omega))
    refine E_s (p' := 15) (st' := aI 0 :: _) rfl rfl ?_
    refine E_ret rfl rfl ?_
    refine E_s (p' := 27) rfl rfl ?_
    refine E_s (p' := 28) (st' := aI 0 :: _) rfl rfl ?_
    refine E_ret rfl rfl ?_
    refine E_s (p' := 9) rfl rfl ?_
    refine E_s (p' := 11) (st' := aI (-2) :: _) rfl rfl ?_
    refine E_ret rfl rfl ?_
    refine E_s (p' := 1174) rfl rfl ?_
    refine E_s (p' := 1177) (L' := [some (aA 0), some (aA 1), some (aA 124), some (aI 6)]) rfl rfl ?_
    refine E_s (p' := 18) rfl rfl ?_
    refine E_s (p' := 19) (st' := aI 6 :: _) rfl rfl ?_
    refine E_s (p' := 20) (st' := aA 0 :: _) rfl rfl ?_
    refine E_s (p' := 21) (st' := aI 6 :: _) rfl rfl ?_
    refine E_s (p' := 23) (st' := aI 6 :: _) rfl rfl ?_
    refine E_s (p' := 24) (st' := aI 0 :: _) rfl rfl ?_
    refine E_s (p' := 1180) rfl rfl ?_
    refine E_s (p' := 1181) (st' := aI 1 :: _) rfl rfl ?_
    exact E_ret rfl rfl ⟨rfl, rfl⟩
set_option maxRecDepth 100000 in
set_option maxHeartbeats 40000000 in
theorem pc_4_1 (xs : Nat → Int) {z a2 a3 a4 a5 : Int} (hz : b32 (fun a b => a &&& b) z 31 = 4) (h0 : xs 0 = z) (h1 : xs 1 = 1) (h2 : xs 2 = a2) (h3 : xs 3 = a3) (h4 : xs 4 = a4) (h5 : xs 5 = a5) : E 0 18 LL [] (s0 xs 6) PQ := by
  refine E_s (p' := 19) (st' := aI 0 :: _) rfl rfl ?_
  refine E_s (p' := 20) (st' := aA 0 :: _) rfl rfl ?_
  refine E_s (p' := 21) (st' := aI 6 :: _) rfl rfl ?_
  refine E_s (p' := 23) (st' := aI 6 :: _) rfl rfl ?_
  refine E_s (p' := 24) (st' := aI 0 :: _) rfl rfl ?_
  refine E_s (p' := 27) rfl rfl ?_
  refine E_s (p' := 28) (st' := aA 0 :: _) rfl rfl ?_
  refine E_s (p' := 29) (st' := aI 0 :: _) rfl rfl ?_
  refine E_scr rfl rfl h0 ?_
  refine E_s (p' := 32) (st' := aI 31 :: _) rfl rfl ?_
  refine E_s (p' := 33) rfl rfl ?_
  refine E_val hz ?_
  refine E_s (p' := 372) rfl rfl ?_
  refine E_s (p' := 373) (st' := aA 1 :: _) rfl rfl ?_
  refine E_s (p' := 374) (st' := aA 0 :: _) rfl rfl ?_
  refine E_s (p' := 375) (st' := aI 0 :: _) rfl rfl ?_
  refine E_s (p' := 376) (st' := aI 1 :: _) rfl rfl ?_
  refine E_s (p' := 377) (st' := aI 1 :: _) rfl rfl ?_
  refine E_scr rfl rfl h1 ?_
  refine E_s (p' := 379) (st' := aA 0 :: _) rfl rfl ?_
  refine E_s (p' := 380) (st' := aI 0 :: _) rfl rfl ?_
  refine E_s (p' := 381) (st' := aI 2 :: _) rfl rfl ?_
  refine E_s (p' := 382) (st' := aI 2 :: _) rfl rfl ?_
  refine E_scr rfl rfl h2 ?_
  refine E_s (p' := 384) (st' := aA 0 :: _) rfl rfl ?_
  refine E_s (p' := 385) (st' := aI 0 :: _) rfl rfl ?_
  refine E_s (p' := 386) (st' := aI 3 :: _) rfl rfl ?_
  refine E_s (p' := 387) (st' := aI 3 :: _) rfl rfl ?_
  refine E_scr rfl rfl h3 ?_
  refine E_callL (p' := 391) (L0 := [some (aA 1), some (aI 1), some (aI a2), some (aI a3), none]) rfl rfl rfl ?_
  refine E_s (p' := 1) (st' := aA 1 :: _) rfl rfl ?_
  refine E_s (p' := 2) (st' := aI 1 :: _) rfl rfl ?_
  refine E_callL (p' := 5) (L0 := [some (aA 1), some (aI 1)]) rfl rfl rfl ?_
  refine E_s (p' := 1) (st' := aI 1 :: _) rfl rfl ?_
  refine E_s (p' := 4) rfl rfl ?_
  refine E_s (p' := 5) (st' := aI 1 :: _) rfl rfl ?_
  refine E_s (p' := 6) (st' := aI 4 :: _) rfl rfl ?_
  refine E_s (p' := 9) rfl rfl ?_
  refine E_s (p' := 10) (st' := aA 1 :: _) rfl rfl ?_
  refine E_s (p' := 13) (st' := aA 2 :: _) rfl rfl ?_
  refine E_s (p' := 14) (st' := aI 1 :: _) rfl rfl ?_
  refine E_s (p' := 15) (st' := aA 46 :: _) rfl rfl ?_
  refine E_s (p' := 19) rfl rfl ?_
  refine E_ret rfl rfl ?_
  refine E_s (p' := 7) (L' := [some (aA 1), some (aI 1), some (aI a2), some (aI a3), some (aA 46)]) rfl rfl ?_
  refine E_s (p' := 9) (st' := aA 46 :: _) rfl rfl ?_
  refine E_s (p' := 12) rfl rfl ?_
  refine E_s (p' := 14) (st' := aA 46 :: _) rfl rfl ?_
  refine E_s (p' := 17) (st' := aA 47 :: _) rfl rfl ?_
  refine E_s (p' := 18) rfl rfl ?_
  refine E_callL (p' := 21) (L0 := [some (aA 47), some (aI a2)]) rfl rfl rfl ?_
  refine E_s (p' := 1) rfl rfl ?_
  refine E_if_lt rfl (by decide) (fun _ => ?_) (fun _ => ?_)
  · refine E_s (p' := 17) (st' := aI 0 :: _) rfl rfl ?_
    refine E_ret rfl rfl ?_
    refine E_s (p' := 37) rfl rfl ?_
    refine E_s (p' := 39) (st' := aI (-2) :: _) rfl rfl ?_
    refine E_ret rfl rfl ?_
    refine E_s (p' := 392) (st' := aA 124 :: _) rfl rfl ?_
    refine E_s (p' := 393) (st' := aA 0 :: _) rfl rfl ?_
    refine E_s (p' := 394) (st' := aI 0 :: _) rfl rfl ?_
    refine E_s (p' := 395) (st' := aI 1 :: _) rfl rfl ?_
    refine E_s (p' := 396) (st' := aI 1 :: _) rfl rfl ?_
    refine E_scr rfl rfl h1 ?_
    refine E_s (p' := 398) (st' := aA 0 :: _) rfl rfl ?_
    refine E_s (p' := 399) (st' := aI 0 :: _) rfl rfl ?_
    refine E_s (p' := 400) (st' := aI 2 :: _) rfl rfl ?_
    refine E_s (p' := 401) (st' := aI 2 :: _) rfl rfl ?_
    refine E_scr rfl rfl h2 ?_
    refine E_s (p' := 403) (st' := aA 0 :: _) rfl rfl ?_
    refine E_s (p' := 404) (st' := aI 0 :: _) rfl rfl ?_
    refine E_s (p' := 405) (st' := aI 3 :: _) rfl rfl ?_
    refine E_s (p' := 406) (st' := aI 3 :: _) rfl rfl ?_
    refine E_scr rfl rfl h3 ?_
    refine E_callL (p' := 410) (L0 := [some (aA 124), some (aI 1), some (aI a2), some (aI a3), none]) rfl rfl rfl ?_
    refine E_s (p' := 1) (st' := aA 124 :: _) rfl rfl ?_
    refine E_s (p' := 2) (st' := aI 1 :: _) rfl rfl ?_
    refine E_s (p' := 3) rfl rfl ?_
    refine E_callL (p' := 6) (L0 := [some (aA 124), some (aI 1), some (aI a2)]) rfl rfl rfl ?_
    refine E_s (p' := 1) (st' := aI 1 :: _) rfl rfl ?_
    refine E_callL (p' := 4) (L0 := [some (aI 1)]) rfl rfl rfl ?_
    refine E_s (p' := 1) (st' := aI 1 :: _) rfl rfl ?_
    refine E_s (p' := 2) (st' := aI 0 :: _) rfl rfl ?_
    refine E_s (p' := 3) (st' := aI 3 :: _) rfl rfl ?_
    refine E_callL (p' := 6) (L0 := [some (aI 1), some (aI 0), some (aI 3)]) rfl rfl rfl ?_
    refine E_s (p' := 1) (st' := aI 1 :: _) rfl rfl ?_
    refine E_s (p' := 2) (st' := aI 0 :: _) rfl rfl ?_
    refine E_s (p' := 5) rfl rfl ?_
    refine E_s (p' := 6) (st' := aI 1 :: _) rfl rfl ?_
    refine E_s (p' := 7) (st' := aI 3 :: _) rfl rfl ?_
    refine E_s (p' := 10) rfl rfl ?_
    refine E_s (p' := 11) (st' := aI 1 :: _) rfl rfl ?_
    refine E_s (p' := 15) rfl rfl ?_
    refine E_ret rfl rfl ?_
    refine E_ret rfl rfl ?_
    refine E_s (p' := 7) rfl rfl ?_
    refine E_s (p' := 8) rfl rfl ?_
    refine E_s (p' := 9) (st' := aI 0 :: _) rfl rfl ?_
    refine E_s (p' := 10) (st' := aA 124 :: _) rfl rfl ?_
    refine E_s (p' := 13) (st' := aA 125 :: _) rfl rfl ?_
    refine E_s (p' := 14) (st' := aI 1 :: _) rfl rfl ?_
    refine E_s (p' := 15) (st' := aI 0 :: _) rfl rfl ?_
    refine E_s (p' := 16) (st' := aI 1 :: _) rfl rfl ?_
    refine E_isubv (v := -1) rfl (show (0 : Int) - 1 = -1 from rfl) (by decide) ?_
    refine E_callL (p' := 20) (L0 := [some (aI a2), some (aI 0), some (aI (-1))]) rfl rfl rfl ?_
    refine E_s (p' := 1) rfl rfl ?_
    refine E_s (p' := 2) (st' := aI 0 :: _) rfl rfl ?_
    refine E_icmp_lt (y := 0) rfl (by decide) (fun _ => ?_) (fun q => absurd q (by omega))
    refine E_s (p' := 15) (st' := aI 0 :: _) rfl rfl ?_
    refine E_ret rfl rfl ?_
    refine E_s (p' := 27) rfl rfl ?_
    refine E_s (p' := 28) (st' := aI 0 :: _) rfl rfl ?_
    refine E_ret rfl rfl ?_
    refine E_s (p' := 9) rfl rfl ?_
    refine E_s (p' := 11) (st' := aI (-2) :: _) rfl rfl ?_
    refine E_ret rfl rfl ?_
    refine E_s (p' := 1174) rfl rfl ?_
    refine E_s (p' := 1177) (L' := [some (aA 0), some (aA 1), some (aA 124), some (aI 6)]) rfl rfl ?_
    refine E_s (p' := 18) rfl rfl ?_
    refine E_s (p' := 19) (st' := aI 6 :: _) rfl rfl ?_
    refine E_s (p' := 20) (st' := aA 0 :: _) rfl rfl ?_
    refine E_s (p' := 21) (st' := aI 6 :: _) rfl rfl ?_
    refine E_s (p' := 23) (st' := aI 6 :: _) rfl rfl ?_
    refine E_s (p' := 24) (st' := aI 0 :: _) rfl rfl ?_
    refine E_s (p' := 1180) rfl rfl ?_
    refine E_s (p' := 1181) (st' := aI 1 :: _) rfl rfl ?_
    exact E_ret rfl rfl ⟨rfl, rfl⟩
  · refine E_s (p' := 5) rfl rfl ?_
    refine E_s (p' := 6) (st' := aA 47 :: _) rfl rfl ?_
    refine E_s (p' := 9) (st' := aI 0 :: _) rfl rfl ?_
    refine E_icmp_ge (y := 0) rfl (by decide) (fun _ => ?_) (fun q => absurd q (by omega))
    refine E_s (p' := 17) (st' := aI 0 :: _) rfl rfl ?_
    refine E_ret rfl rfl ?_
    refine E_s (p' := 37) rfl rfl ?_
    refine E_s (p' := 39) (st' := aI (-2) :: _) rfl rfl ?_
    refine E_ret rfl rfl ?_
    refine E_s (p' := 392) (st' := aA 124 :: _) rfl rfl ?_
    refine E_s (p' := 393) (st' := aA 0 :: _) rfl rfl ?_
    refine E_s (p' := 394) (st' := aI 0 :: _) rfl rfl ?_
    refine E_s (p' := 395) (st' := aI 1 :: _) rfl rfl ?_
    refine E_s (p' := 396) (st' := aI 1 :: _) rfl rfl ?_
    refine E_scr rfl rfl h1 ?_
    refine E_s (p' := 398) (st' := aA 0 :: _) rfl rfl ?_
    refine E_s (p' := 399) (st' := aI 0 :: _) rfl rfl ?_
    refine E_s (p' := 400) (st' := aI 2 :: _) rfl rfl ?_
    refine E_s (p' := 401) (st' := aI 2 :: _) rfl rfl ?_
    refine E_scr rfl rfl h2 ?_
    refine E_s (p' := 403) (st' := aA 0 :: _) rfl rfl ?_
    refine E_s (p' := 404) (st' := aI 0 :: _) rfl rfl ?_
    refine E_s (p' := 405) (st' := aI 3 :: _) rfl rfl ?_
    refine E_s (p' := 406) (st' := aI 3 :: _) rfl rfl ?_
    refine E_scr rfl rfl h3 ?_
    refine E_callL (p' := 410) (L0 := [some (aA 124), some (aI 1), some (aI a2), some (aI a3), none]) rfl rfl rfl ?_
    refine E_s (p' := 1) (st' := aA 124 :: _) rfl rfl ?_
    refine E_s (p' := 2) (st' := aI 1 :: _) rfl rfl ?_
    refine E_s (p' := 3) rfl rfl ?_
    refine E_callL (p' := 6) (L0 := [some (aA 124), some (aI 1), some (aI a2)]) rfl rfl rfl ?_
    refine E_s (p' := 1) (st' := aI 1 :: _) rfl rfl ?_
    refine E_callL (p' := 4) (L0 := [some (aI 1)]) rfl rfl rfl ?_
    refine E_s (p' := 1) (st' := aI 1 :: _) rfl rfl ?_
    refine E_s (p' := 2) (st' := aI 0 :: _) rfl rfl ?_
    refine E_s (p' := 3) (st' := aI 3 :: _) rfl rfl ?_
    refine E_callL (p' := 6) (L0 := [some (aI 1), some (aI 0), some (aI 3)]) rfl rfl rfl ?_
    refine E_s (p' := 1) (st' := aI 1 :: _) rfl rfl ?_
    refine E_s (p' := 2) (st' := aI 0 :: _) rfl rfl ?_
    refine E_s (p' := 5) rfl rfl ?_
    refine E_s (p' := 6) (st' := aI 1 :: _) rfl rfl ?_
    refine E_s (p' := 7) (st' := aI 3 :: _) rfl rfl ?_
    refine E_s (p' := 10) rfl rfl ?_
    refine E_s (p' := 11) (st' := aI 1 :: _) rfl rfl ?_
    refine E_s (p' := 15) rfl rfl ?_
    refine E_ret rfl rfl ?_
    refine E_ret rfl rfl ?_
    refine E_s (p' := 7) rfl rfl ?_
    refine E_s (p' := 8) rfl rfl ?_
    refine E_s (p' := 9) (st' := aI 0 :: _) rfl rfl ?_
    refine E_s (p' := 10) (st' := aA 124 :: _) rfl rfl ?_
    refine E_s (p' := 13) (st' := aA 125 :: _) rfl rfl ?_
    refine E_s (p' := 14) (st' := aI 1 :: _) rfl rfl ?_
    refine E_s (p' := 15) (st' := aI 0 :: _) rfl rfl ?_
    refine E_s (p' := 16) (st' := aI 1 :: _) rfl rfl ?_
    refine E_isubv (v := -1) rfl (show (0 : Int) - 1 = -1 from rfl) (by decide) ?_
    refine E_callL (p' := 20) (L0 := [some (aI a2), some (aI 0), some (aI (-1))]) rfl rfl rfl ?_
    refine E_s (p' := 1) rfl rfl ?_
    refine E_s (p' := 2) (st' := aI 0 :: _) rfl rfl ?_
    refine E_icmp_lt (y := 0) rfl (by decide) (fun q => absurd q (by omega)) (fun _ => ?_)
    refine E_s (p' := 6) rfl rfl ?_
    refine E_s (p' := 7) (st' := aI (-1) :: _) rfl rfl ?_
    refine E_icmp_gt (y := (-1)) rfl (by decide) (fun _ => ?_) (fun q => absurd q (by omega))
    refine E_s (p' := 15) (st' := aI 0 :: _) rfl rfl ?_
    refine E_ret rfl rfl ?_
    refine E_s (p' := 27) rfl rfl ?_
    refine E_s (p' := 28) (st' := aI 0 :: _) rfl rfl ?_
    refine E_ret rfl rfl ?_
    refine E_s (p' := 9) rfl rfl ?_
    refine E_s (p' := 11) (st' := aI (-2) :: _) rfl rfl ?_
    refine E_ret rfl rfl ?_
    refine E_s (p' := 1174) rfl rfl ?_
    refine E_s (p' := 1177) (L' := [some (aA 0), some (aA 1), some (aA 124), some (aI 6)]) rfl rfl ?_
    refine E_s (p' := 18) rfl rfl ?_
    refine E_s (p' := 19) (st' := aI 6 :: _) rfl rfl ?_
    refine E_s (p' := 20) (st' := aA 0 :: _) rfl rfl ?_
    refine E_s (p' := 21) (st' := aI 6 :: _) rfl rfl ?_
    refine E_s (p' := 23) (st' := aI 6 :: _) rfl rfl ?_
    refine E_s (p' := 24) (st' := aI 0 :: _) rfl rfl ?_
    refine E_s (p' := 1180) rfl rfl ?_
    refine E_s (p' := 1181) (st' := aI 1 :: _) rfl rfl ?_
    exact E_ret rfl rfl ⟨rfl, rfl⟩
set_option maxRecDepth 100000 in
set_option maxHeartbeats 40000000 in
theorem pc_4_2 (xs : Nat → Int) {z a2 a3 a4 a5 : Int} (hz : b32 (fun a b => a &&& b) z 31 = 4) (h0 : xs 0 = z) (h1 : xs 1 = 2) (h2 : xs 2 = a2) (h3 : xs 3 = a3) (h4 : xs 4 = a4) (h5 : xs 5 = a5) : E 0 18 LL [] (s0 xs 6) PQ := by
  refine E_s (p' := 19) (st' := aI 0 :: _) rfl rfl ?_
  refine E_s (p' := 20) (st' := aA 0 :: _) rfl rfl ?_
  refine E_s (p' := 21) (st' := aI 6 :: _) rfl rfl ?_
  refine E_s (p' := 23) (st' := aI 6 :: _) rfl rfl ?_
  refine E_s (p' := 24) (st' := aI 0 :: _) rfl rfl ?_
  refine E_s (p' := 27) rfl rfl ?_
  refine E_s (p' := 28) (st' := aA 0 :: _) rfl rfl ?_
  refine E_s (p' := 29) (st' := aI 0 :: _) rfl rfl ?_
  refine E_scr rfl rfl h0 ?_
  refine E_s (p' := 32) (st' := aI 31 :: _) rfl rfl ?_
  refine E_s (p' := 33) rfl rfl ?_
  refine E_val hz ?_
  refine E_s (p' := 372) rfl rfl ?_
  refine E_s (p' := 373) (st' := aA 1 :: _) rfl rfl ?_
  refine E_s (p' := 374) (st' := aA 0 :: _) rfl rfl ?_
  refine E_s (p' := 375) (st' := aI 0 :: _) rfl rfl ?_
  refine E_s (p' := 376) (st' := aI 1 :: _) rfl rfl ?_
  refine E_s (p' := 377) (st' := aI 1 :: _) rfl rfl ?_
  refine E_scr rfl rfl h1 ?_
  refine E_s (p' := 379) (st' := aA 0 :: _) rfl rfl ?_
  refine E_s (p' := 380) (st' := aI 0 :: _) rfl rfl ?_
  refine E_s (p' := 381) (st' := aI 2 :: _) rfl rfl ?_
  refine E_s (p' := 382) (st' := aI 2 :: _) rfl rfl ?_
  refine E_scr rfl rfl h2 ?_
  refine E_s (p' := 384) (st' := aA 0 :: _) rfl rfl ?_
  refine E_s (p' := 385) (st' := aI 0 :: _) rfl rfl ?_
  refine E_s (p' := 386) (st' := aI 3 :: _) rfl rfl ?_
  refine E_s (p' := 387) (st' := aI 3 :: _) rfl rfl ?_
  refine E_scr rfl rfl h3 ?_
  refine E_callL (p' := 391) (L0 := [some (aA 1), some (aI 2), some (aI a2), some (aI a3), none]) rfl rfl rfl ?_
  refine E_s (p' := 1) (st' := aA 1 :: _) rfl rfl ?_
  refine E_s (p' := 2) (st' := aI 2 :: _) rfl rfl ?_
  refine E_callL (p' := 5) (L0 := [some (aA 1), some (aI 2)]) rfl rfl rfl ?_
  refine E_s (p' := 1) (st' := aI 2 :: _) rfl rfl ?_
  refine E_s (p' := 4) rfl rfl ?_
  refine E_s (p' := 5) (st' := aI 2 :: _) rfl rfl ?_
  refine E_s (p' := 6) (st' := aI 4 :: _) rfl rfl ?_
  refine E_s (p' := 9) rfl rfl ?_
  refine E_s (p' := 10) (st' := aA 1 :: _) rfl rfl ?_
  refine E_s (p' := 13) (st' := aA 2 :: _) rfl rfl ?_
  refine E_s (p' := 14) (st' := aI 2 :: _) rfl rfl ?_
  refine E_s (p' := 15) (st' := aA 72 :: _) rfl rfl ?_
  refine E_s (p' := 19) rfl rfl ?_
  refine E_ret rfl rfl ?_
  refine E_s (p' := 7) (L' := [some (aA 1), some (aI 2), some (aI a2), some (aI a3), some (aA 72)]) rfl rfl ?_
  refine E_s (p' := 9) (st' := aA 72 :: _) rfl rfl ?_
  refine E_s (p' := 12) rfl rfl ?_
  refine E_s (p' := 14) (st' := aA 72 :: _) rfl rfl ?_
  refine E_s (p' := 17) (st' := aA 73 :: _) rfl rfl ?_
  refine E_s (p' := 18) rfl rfl ?_
  refine E_callL (p' := 21) (L0 := [some (aA 73), some (aI a2)]) rfl rfl rfl ?_
  refine E_s (p' := 1) rfl rfl ?_
  refine E_if_lt rfl (by decide) (fun _ => ?_) (fun _ => ?_)
  · refine E_s (p' := 17) (st' := aI 0 :: _) rfl rfl ?_
    refine E_ret rfl rfl ?_
    refine E_s (p' := 37) rfl rfl ?_
    refine E_s (p' := 39) (st' := aI (-2) :: _) rfl rfl ?_
    refine E_ret rfl rfl ?_
    refine E_s (p' := 392) (st' := aA 124 :: _) rfl rfl ?_
    refine E_s (p' := 393) (st' := aA 0 :: _) rfl rfl ?_
    refine E_s (p' := 394) (st' := aI 0 :: _) rfl rfl ?_
    refine E_s (p' := 395) (st' := aI 1 :: _) rfl rfl ?_
    refine E_s (p' := 396) (st' := aI 1 :: _) rfl rfl ?_
    refine E_scr rfl rfl h1 ?_
    refine E_s (p' := 398) (st' := aA 0 :: _) rfl rfl ?_
    refine E_s (p' := 399) (st' := aI 0 :: _) rfl rfl ?_
    refine E_s (p' := 400) (st' := aI 2 :: _) rfl rfl ?_
    refine E_s (p' := 401) (st' := aI 2 :: _) rfl rfl ?_
    refine E_scr rfl rfl h2 ?_
    refine E_s (p' := 403) (st' := aA 0 :: _) rfl rfl ?_
    refine E_s (p' := 404) (st' := aI 0 :: _) rfl rfl ?_
    refine E_s (p' := 405) (st' := aI 3 :: _) rfl rfl ?_
    refine E_s (p' := 406) (st' := aI 3 :: _) rfl rfl ?_
    refine E_scr rfl rfl h3 ?_
    refine E_callL (p' := 410) (L0 := [some (aA 124), some (aI 2), some (aI a2), some (aI a3), none]) rfl rfl rfl ?_
    refine E_s (p' := 1) (st' := aA 124 :: _) rfl rfl ?_
    refine E_s (p' := 2) (st' := aI 2 :: _) rfl rfl ?_
    refine E_s (p' := 3) rfl rfl ?_
    refine E_callL (p' := 6) (L0 := [some (aA 124), some (aI 2), some (aI a2)]) rfl rfl rfl ?_
    refine E_s (p' := 1) (st' := aI 2 :: _) rfl rfl ?_
    refine E_callL (p' := 4) (L0 := [some (aI 2)]) rfl rfl rfl ?_
    refine E_s (p' := 1) (st' := aI 2 :: _) rfl rfl ?_
    refine E_s (p' := 2) (st' := aI 0 :: _) rfl rfl ?_
    refine E_s (p' := 3) (st' := aI 3 :: _) rfl rfl ?_
    refine E_callL (p' := 6) (L0 := [some (aI 2), some (aI 0), some (aI 3)]) rfl rfl rfl ?_
    refine E_s (p' := 1) (st' := aI 2 :: _) rfl rfl ?_
    refine E_s (p' := 2) (st' := aI 0 :: _) rfl rfl ?_
    refine E_s (p' := 5) rfl rfl ?_
    refine E_s (p' := 6) (st' := aI 2 :: _) rfl rfl ?_
    refine E_s (p' := 7) (st' := aI 3 :: _) rfl rfl ?_
    refine E_s (p' := 10) rfl rfl ?_
    refine E_s (p' := 11) (st' := aI 1 :: _) rfl rfl ?_
    refine E_s (p' := 15) rfl rfl ?_
    refine E_ret rfl rfl ?_
    refine E_ret rfl rfl ?_
    refine E_s (p' := 7) rfl rfl ?_
    refine E_s (p' := 8) rfl rfl ?_
    refine E_s (p' := 9) (st' := aI 0 :: _) rfl rfl ?_
    refine E_s (p' := 10) (st' := aA 124 :: _) rfl rfl ?_
    refine E_s (p' := 13) (st' := aA 125 :: _) rfl rfl ?_
    refine E_s (p' := 14) (st' := aI 2 :: _) rfl rfl ?_
    refine E_s (p' := 15) (st' := aI 0 :: _) rfl rfl ?_
    refine E_s (p' := 16) (st' := aI 1 :: _) rfl rfl ?_
    refine E_isubv (v := -1) rfl (show (0 : Int) - 1 = -1 from rfl) (by decide) ?_
    refine E_callL (p' := 20) (L0 := [some (aI a2), some (aI 0), some (aI (-1))]) rfl rfl rfl ?_
    refine E_s (p' := 1) rfl rfl ?_
    refine E_s (p' := 2) (st' := aI 0 :: _) rfl rfl ?_
    refine E_icmp_lt (y := 0) rfl (by decide) (fun _ => ?_) (fun q => absurd q (by omega))
    refine E_s (p' := 15) (st' := aI 0 :: _) rfl rfl ?_
    refine E_ret rfl rfl ?_
    refine E_s (p' := 27) rfl rfl ?_
    refine E_s (p' := 28) (st' := aI 0 :: _) rfl rfl ?_
    refine E_ret rfl rfl ?_
    refine E_s (p' := 9) rfl rfl ?_
    refine E_s (p' := 11) (st' := aI (-2) :: _) rfl rfl ?_
    refine E_ret rfl rfl ?_
    refine E_s (p' := 1174) rfl rfl ?_
    refine E_s (p' := 1177) (L' := [some (aA 0), some (aA 1), some (aA 124), some (aI 6)]) rfl rfl ?_
    refine E_s (p' := 18) rfl rfl ?_
    refine E_s (p' := 19) (st' := aI 6 :: _) rfl rfl ?_
    refine E_s (p' := 20) (st' := aA 0 :: _) rfl rfl ?_
    refine E_s (p' := 21) (st' := aI 6 :: _) rfl rfl ?_
    refine E_s (p' := 23) (st' := aI 6 :: _) rfl rfl ?_
    refine E_s (p' := 24) (st' := aI 0 :: _) rfl rfl ?_
    refine E_s (p' := 1180) rfl rfl ?_
    refine E_s (p' := 1181) (st' := aI 1 :: _) rfl rfl ?_
    exact E_ret rfl rfl ⟨rfl, rfl⟩
  · refine E_s (p' := 5) rfl rfl ?_
    refine E_s (p' := 6) (st' := aA 73 :: _) rfl rfl ?_
    refine E_s (p' := 9) (st' := aI 0 :: _) rfl rfl ?_
    refine E_icmp_ge (y := 0) rfl (by decide) (fun _ => ?_) (fun q => absurd q (by omega))
    refine E_s (p' := 17) (st' := aI 0 :: _) rfl rfl ?_
    refine E_ret rfl rfl ?_
    refine E_s (p' := 37) rfl rfl ?_
    refine E_s (p' := 39) (st' := aI (-2) :: _) rfl rfl ?_
    refine E_ret rfl rfl ?_
    refine E_s (p' := 392) (st' := aA 124 :: _) rfl rfl ?_
    refine E_s (p' := 393) (st' := aA 0 :: _) rfl rfl ?_
    refine E_s (p' := 394) (st' := aI 0 :: _) rfl rfl ?_
    refine E_s (p' := 395) (st' := aI 1 :: _) rfl rfl ?_
    refine E_s (p' := 396) (st' := aI 1 :: _) rfl rfl ?_
    refine E_scr rfl rfl h1 ?_
    refine E_s (p' := 398) (st' := aA 0 :: _) rfl rfl ?_
    refine E_s (p' := 399) (st' := aI 0 :: _) rfl rfl ?_
    refine E_s (p' := 400) (st' := aI 2 :: _) rfl rfl ?_
    refine E_s (p' := 401) (st' := aI 2 :: _) rfl rfl ?_
    refine E_scr rfl rfl h2 ?_
    refine E_s (p' := 403) (st' := aA 0 :: _) rfl rfl ?_
    refine E_s (p' := 404) (st' := aI 0 :: _) rfl rfl ?_
    refine E_s (p' := 405) (st' := aI 3 :: _) rfl rfl ?_
    refine E_s (p' := 406) (st' := aI 3 :: _) rfl rfl ?_
    refine E_scr rfl rfl h3 ?_
    refine E_callL (p' := 410) (L0 := [some (aA 124), some (aI 2), some (aI a2), some (aI a3), none]) rfl rfl rfl ?_
    refine E_s (p' := 1) (st' := aA 124 :: _) rfl rfl ?_
    refine E_s (p' := 2) (st' := aI 2 :: _) rfl rfl ?_
    refine E_s (p' := 3) rfl rfl ?_
    refine E_callL (p' := 6) (L0 := [some (aA 124), some (aI 2), some (aI a2)]) rfl rfl rfl ?_
    refine E_s (p' := 1) (st' := aI 2 :: _) rfl rfl ?_
    refine E_callL (p' := 4) (L0 := [some (aI 2)]) rfl rfl rfl ?_
    refine E_s (p' := 1) (st' := aI 2 :: _) rfl rfl ?_
    refine E_s (p' := 2) (st' := aI 0 :: _) rfl rfl ?_
    refine E_s (p' := 3) (st' := aI 3 :: _) rfl rfl ?_
    refine E_callL (p' := 6) (L0 := [some (aI 2), some (aI 0), some (aI 3)]) rfl rfl rfl ?_
    refine E_s (p' := 1) (st' := aI 2 :: _) rfl rfl ?_
    refine E_s (p' := 2) (st' := aI 0 :: _) rfl rfl ?_
    refine E_s (p' := 5) rfl rfl ?_
    refine E_s (p' := 6) (st' := aI 2 :: _) rfl rfl ?_
    refine E_s (p' := 7) (st' := aI 3 :: _) rfl rfl ?_
    refine E_s (p' := 10) rfl rfl ?_
    refine E_s (p' := 11) (st' := aI 1 :: _) rfl rfl ?_
    refine E_s (p' := 15) rfl rfl ?_
    refine E_ret rfl rfl ?_
    refine E_ret rfl rfl ?_
    refine E_s (p' := 7) rfl rfl ?_
    refine E_s (p' := 8) rfl rfl ?_
    refine E_s (p' := 9) (st' := aI 0 :: _) rfl rfl ?_
    refine E_s (p' := 10) (st' := aA 124 :: _) rfl rfl ?_
    refine E_s (p' := 13) (st' := aA 125 :: _) rfl rfl ?_
    refine E_s (p' := 14) (st' := aI 2 :: _) rfl rfl ?_
    refine E_s (p' := 15) (st' := aI 0 :: _) rfl rfl ?_
    refine E_s (p' := 16) (st' := aI 1 :: _) rfl rfl ?_
    refine E_isubv (v := -1) rfl (show (0 : Int) - 1 = -1 from rfl) (by decide) ?_
    refine E_callL (p' := 20) (L0 := [some (aI a2), some (aI 0), some (aI (-1))]) rfl rfl rfl ?_
    refine E_s (p' := 1) rfl rfl ?_
    refine E_s (p' := 2) (st' := aI 0 :: _) rfl rfl ?_
    refine E_icmp_lt (y := 0) rfl (by decide) (fun q => absurd q (by omega)) (fun _ => ?_)
    refine E_s (p' := 6) rfl rfl ?_
    refine E_s (p' := 7) (st' := aI (-1) :: _) rfl rfl ?_
    refine E_icmp_gt (y := (-1)) rfl (by decide) (fun _ => ?_) (fun q => absurd q (by omega))
    refine E_s (p' := 15) (st' := aI 0 :: _) rfl rfl ?_
    refine E_ret rfl rfl ?_
    refine E_s (p' := 27) rfl rfl ?_
    refine E_s (p' := 28) (st' := aI 0 :: _) rfl rfl ?_
    refine E_ret rfl rfl ?_
    refine E_s (p' := 9) rfl rfl ?_
    refine E_s (p' := 11) (st' := aI (-2) :: _) rfl rfl ?_
    refine E_ret rfl rfl ?_
    refine E_s (p' := 1174) rfl rfl ?_
    refine E_s (p' := 1177) (L' := [some (aA 0), some (aA 1), some (aA 124), some (aI 6)]) rfl rfl ?_
    refine E_s (p' := 18) rfl rfl ?_
    refine E_s (p' := 19) (st' := aI 6 :: _) rfl rfl ?_
    refine E_s (p' := 20) (st' := aA 0 :: _) rfl rfl ?_
    refine E_s (p' := 21) (st' := aI 6 :: _) rfl rfl ?_
    refine E_s (p' := 23) (st' := aI 6 :: _) rfl rfl ?_
    refine E_s (p' := 24) (st' := aI 0 :: _) rfl rfl ?_
    refine E_s (p' := 1180) rfl rfl ?_
    refine E_s (p' := 1181) (st' := aI 1 :: _) rfl rfl ?_
    exact E_ret rfl rfl ⟨rfl, rfl⟩
set_option maxRecDepth 100000 in
set_option maxHeartbeats 40000000 in
theorem pc_4_3 (xs : Nat → Int) {z a2 a3 a4 a5 : Int} (hz : b32 (fun a b => a &&& b) z 31 = 4) (h0 : xs 0 = z) (h1 : xs 1 = 3) (h2 : xs 2 = a2) (h3 : xs 3 = a3) (h4 : xs 4 = a4) (h5 : xs 5 = a5) : E 0 18 LL [] (s0 xs 6) PQ := by
  refine E_s (p' := 19) (st' := aI 0 :: _) rfl rfl ?_
  refine E_s (p' := 20) (st' := aA 0 :: _) rfl rfl ?_
  refine E_s (p' := 21) (st' := aI 6 :: _) rfl rfl ?_
  refine E_s (p' := 23) (st' := aI 6 :: _) rfl rfl ?_
  refine E_s (p' := 24) (st' := aI 0 :: _) rfl rfl ?_
  refine E_s (p' := 27) rfl rfl ?_
  refine E_s (p' := 28) (st' := aA 0 :: _) rfl rfl ?_
  refine E_s (p' := 29) (st' := aI 0 :: _) rfl rfl ?_
  refine E_scr rfl rfl h0 ?_
  refine E_s (p' := 32) (st' := aI 31 :: _) rfl rfl ?_
  refine E_s (p' := 33) rfl rfl ?_
  refine E_val hz ?_
  refine E_s (p' := 372) rfl rfl ?_
  refine E_s (p' := 373) (st' := aA 1 :: _) rfl rfl ?_
  refine E_s (p' := 374) (st' := aA 0 :: _) rfl rfl ?_
  refine E_s (p' := 375) (st' := aI 0 :: _) rfl rfl ?_
  refine E_s (p' := 376) (st' := aI 1 :: _) rfl rfl ?_
  refine E_s (p' := 377) (st' := aI 1 :: _) rfl rfl ?_
  refine E_scr rfl rfl h1 ?_
  refine E_s (p' := 379) (st' := aA 0 :: _) rfl rfl ?_
  refine E_s (p' := 380) (st' := aI 0 :: _) rfl rfl ?_
  refine E_s (p' := 381) (st' := aI 2 :: _) rfl rfl ?_
  refine E_s (p' := 382) (st' := aI 2 :: _) rfl rfl ?_
  refine E_scr rfl rfl h2 ?_
  refine E_s (p' := 384) (st' := aA 0 :: _) rfl rfl ?_
  refine E_s (p' := 385) (st' := aI 0 :: _) rfl rfl ?_
  refine E_s (p' := 386) (st' := aI 3 :: _) rfl rfl ?_
  refine E_s (p' := 387) (st' := aI 3 :: _) rfl rfl ?_
  refine E_scr rfl rfl h3 ?_
  refine E_callL (p' := 391) (L0 := [some (aA 1), some (aI 3), some (aI a2), some (aI a3), none]) rfl rfl rfl ?_
  refine E_s (p' := 1) (st' := aA 1 :: _) rfl rfl ?_
  refine E_s (p' := 2) (st' := aI 3 :: _) rfl rfl ?_
  refine E_callL (p' := 5) (L0 := [some (aA 1), some (aI 3)]) rfl rfl rfl ?_
  refine E_s (p' := 1) (st' := aI 3 :: _) rfl rfl ?_
  refine E_s (p' := 4) rfl rfl ?_
  refine E_s (p' := 5) (st' := aI 3 :: _) rfl rfl ?_
  refine E_s (p' := 6) (st' := aI 4 :: _) rfl rfl ?_
  refine E_s (p' := 9) rfl rfl ?_
  refine E_s (p' := 10) (st' := aA 1 :: _) rfl rfl ?_
  refine E_s (p' := 13) (st' := aA 2 :: _) rfl rfl ?_
  refine E_s (p' := 14) (st' := aI 3 :: _) rfl rfl ?_
  refine E_s (p' := 15) (st' := aA 98 :: _) rfl rfl ?_
  refine E_s (p' := 19) rfl rfl ?_
  refine E_ret rfl rfl ?_
  refine E_s (p' := 7) (L' := [some (aA 1), some (aI 3), some (aI a2), some (aI a3), some (aA 98)]) rfl rfl ?_
  refine E_s (p' := 9) (st' := aA 98 :: _) rfl rfl ?_
  refine E_s (p' := 12) rfl rfl ?_
  refine E_s (p' := 14) (st' := aA 98 :: _) rfl rfl ?_
  refine E_s (p' := 17) (st' := aA 99 :: _) rfl rfl ?_
  refine E_s (p' := 18) rfl rfl ?_
  refine E_callL (p' := 21) (L0 := [some (aA 99), some (aI a2)]) rfl rfl rfl ?_
  refine E_s (p' := 1) rfl rfl ?_
  refine E_if_lt rfl (by decide) (fun _ => ?_) (fun _ => ?_)
  · refine E_s (p' := 17) (st' := aI 0 :: _) rfl rfl ?_
    refine E_ret rfl rfl ?_
    refine E_s (p' := 37) rfl rfl ?_
    refine E_s (p' := 39) (st' := aI (-2) :: _) rfl rfl ?_
    refine E_ret rfl rfl ?_
    refine E_s (p' := 392) (st' := aA 124 :: _) rfl rfl ?_
    refine E_s (p' := 393) (st' := aA 0 :: _) rfl rfl ?_
    refine E_s (p' := 394) (st' := aI 0 :: _) rfl rfl ?_
    refine E_s (p' := 395) (st' := aI 1 :: _) rfl rfl ?_
    refine E_s (p' := 396) (st' := aI 1 :: _) rfl rfl ?_
    refine E_scr rfl rfl h1 ?_
    refine E_s (p' := 398) (st' := aA 0 :: _) rfl rfl ?_
    refine E_s (p' := 399) (st' := aI 0 :: _) rfl rfl ?_
    refine E_s (p' := 400) (st' := aI 2 :: _) rfl rfl ?_
    refine E_s (p' := 401) (st' := aI 2 :: _) rfl rfl ?_
    refine E_scr rfl rfl h2 ?_
    refine E_s (p' := 403) (st' := aA 0 :: _) rfl rfl ?_
    refine E_s (p' := 404) (st' := aI 0 :: _) rfl rfl ?_
    refine E_s (p' := 405) (st' := aI 3 :: _) rfl rfl ?_
    refine E_s (p' := 406) (st' := aI 3 :: _) rfl rfl ?_
    refine E_scr rfl rfl h3 ?_
    refine E_callL (p' := 410) (L0 := [some (aA 124), some (aI 3), some (aI a2), some (aI a3), none]) rfl rfl rfl ?_
    refine E_s (p' := 1) (st' := aA 124 :: _) rfl rfl ?_
    refine E_s (p' := 2) (st' := aI 3 :: _) rfl rfl ?_
    refine E_s (p' := 3) rfl rfl ?_
    refine E_callL (p' := 6) (L0 := [some (aA 124), some (aI 3), some (aI a2)]) rfl rfl rfl ?_
    refine E_s (p' := 1) (st' := aI 3 :: _) rfl rfl ?_
    refine E_callL (p' := 4) (L0 := [some (aI 3)]) rfl rfl rfl ?_
    refine E_s (p' := 1) (st' := aI 3 :: _) rfl rfl ?_
    refine E_s (p' := 2) (st' := aI 0 :: _) rfl rfl ?_
    refine E_s (p' := 3) (st' := aI 3 :: _) rfl rfl ?_
    refine E_callL (p' := 6) (L0 := [some (aI 3), some (aI 0), some (aI 3)]) rfl rfl rfl ?_
    refine E_s (p' := 1) (st' := aI 3 :: _) rfl rfl ?_
    refine E_s (p' := 2) (st' := aI 0 :: _) rfl rfl ?_
    refine E_s (p' := 5) rfl rfl ?_
    refine E_s (p' := 6) (st' := aI 3 :: _) rfl rfl ?_
    refine E_s (p' := 7) (st' := aI 3 :: _) rfl rfl ?_
    refine E_s (p' := 10) rfl rfl ?_
    refine E_s (p' := 11) (st' := aI 1 :: _) rfl rfl ?_
    refine E_s (p' := 15) rfl rfl ?_
    refine E_ret rfl rfl ?_
    refine E_ret rfl rfl ?_
    refine E_s (p' := 7) rfl rfl ?_
    refine E_s (p' := 8) rfl rfl ?_
    refine E_s (p' := 9) (st' := aI 0 :: _) rfl rfl ?_
    refine E_s (p' := 10) (st' := aA 124 :: _) rfl rfl ?_
    refine E_s (p' := 13) (st' := aA 125 :: _) rfl rfl ?_
    refine E_s (p' := 14) (st' := aI 3 :: _) rfl rfl ?_
    refine E_s (p' := 15) (st' := aI 0 :: _) rfl rfl ?_
    refine E_s (p' := 16) (st' := aI 1 :: _) rfl rfl ?_
    refine E_isubv (v := -1) rfl (show (0 : Int) - 1 = -1 from rfl) (by decide) ?_
    refine E_callL (p' := 20) (L0 := [some (aI a2), some (aI 0), some (aI (-1))]) rfl rfl rfl ?_
    refine E_s (p' := 1) rfl rfl ?_
    refine E_s (p' := 2) (st' := aI 0 :: _) rfl rfl ?_
    refine E_icmp_lt (y := 0) rfl (by decide) (fun _ => ?_) (fun q => absurd q (by omega))
    refine E_s (p' := 15) (st' := aI 0 :: _) rfl rfl ?_
    refine E_ret rfl rfl ?_
    refine E_s (p' := 27) rfl rfl ?_
    refine E_s (p' := 28) (st' := aI 0 :: _) rfl rfl ?_
    refine E_ret rfl rfl ?_
    refine E_s (p' := 9) rfl rfl ?_
    refine E_s (p' := 11) (st' := aI (-2) :: _) rfl rfl ?_
    refine E_ret rfl rfl ?_
    refine E_s (p' := 1174) rfl rfl ?_
    refine E_s (p' := 1177) (L' := [some (aA 0), some (aA 1), some (aA 124), some (aI 6)]) rfl rfl ?_
    refine E_s (p' := 18) rfl rfl ?_
    refine E_s (p' := 19) (st' := aI 6 :: _) rfl rfl ?_
    refine E_s (p' := 20) (st' := aA 0 :: _) rfl rfl ?_
    refine E_s (p' := 21) (st' := aI 6 :: _) rfl rfl ?_
    refine E_s (p' := 23) (st' := aI 6 :: _) rfl rfl ?_
    refine E_s (p' := 24) (st' := aI 0 :: _) rfl rfl ?_
    refine E_s (p' := 1180) rfl rfl ?_
    refine E_s (p' := 1181) (st' := aI 1 :: _) rfl rfl ?_
    exact E_ret rfl rfl ⟨rfl, rfl⟩
  · refine E_s (p' := 5) rfl rfl ?_
    refine E_s (p' := 6) (st' := aA 99 :: _) rfl rfl ?_
    refine E_s (p' := 9) (st' := aI 0 :: _) rfl rfl ?_
    refine E_icmp_ge (y := 0) rfl (by decide) (fun _ => ?_) (fun q => absurd q (by omega))
    refine E_s (p' := 17) (st' := aI 0 :: _) rfl rfl ?_
    refine E_ret rfl rfl ?_
    refine E_s (p' := 37) rfl rfl ?_
    refine E_s (p' := 39) (st' := aI (-2) :: _) rfl rfl ?_
    refine E_ret rfl rfl ?_
    refine E_s (p' := 392) (st' := aA 124 :: _) rfl rfl ?_
    refine E_s (p' := 393) (st' := aA 0 :: _) rfl rfl ?_
    refine E_s (p' := 394) (st' := aI 0 :: _) rfl rfl ?_
    refine E_s (p' := 395) (st' := aI 1 :: _) rfl rfl ?_
    refine E_s (p' := 396) (st' := aI 1 :: _) rfl rfl ?_
    refine E_scr rfl rfl h1 ?_
    refine E_s (p' := 398) (st' := aA 0 :: _) rfl rfl ?_
    refine E_s (p' := 399) (st' := aI 0 :: _) rfl rfl ?_
    refine E_s (p' := 400) (st' := aI 2 :: _) rfl rfl ?_
    refine E_s (p' := 401) (st' := aI 2 :: _) rfl rfl ?_
    refine E_scr rfl rfl h2 ?_
    refine E_s (p' := 403) (st' := aA 0 :: _) rfl rfl ?_
    refine E_s (p' := 404) (st' := aI 0 :: _) rfl rfl ?_
    refine E_s (p' := 405) (st' := aI 3 :: _) rfl rfl ?_
    refine E_s (p' := 406) (st' := aI 3 :: _) rfl rfl ?_
    refine E_scr rfl rfl h3 ?_
    refine E_callL (p' := 410) (L0 := [some (aA 124), some (aI 3), some (aI a2), some (aI a3), none]) rfl rfl rfl ?_
    refine E_s (p' := 1) (st' := aA 124 :: _) rfl rfl ?_
    refine E_s (p' := 2) (st' := aI 3 :: _) rfl rfl ?_
    refine E_s (p' := 3) rfl rfl ?_
    refine E_callL (p' := 6) (L0 := [some (aA 124), some (aI 3), some (aI a2)]) rfl rfl rfl ?_
    refine E_s (p' := 1) (st' := aI 3 :: _) rfl rfl ?_
    refine E_callL (p' := 4) (L0 := [some (aI 3)]) rfl rfl rfl ?_
    refine E_s (p' := 1) (st' := aI 3 :: _) rfl rfl ?_
    refine E_s (p' := 2) (st' := aI 0 :: _) rfl rfl ?_
    refine E_s (p' := 3) (st' := aI 3 :: _) rfl rfl ?_
    refine E_callL (p' := 6) (L0 := [some (aI 3), some (aI 0), some (aI 3)]) rfl rfl rfl ?_
    refine E_s (p' := 1) (st' := aI 3 :: _) rfl rfl ?_
    refine E_s (p' := 2) (st' := aI 0 :: _) rfl rfl ?_
    refine E_s (p' := 5) rfl rfl ?_
    refine E_s (p' := 6) (st' := aI 3 :: _) rfl rfl ?_
    refine E_s (p' := 7) (st' := aI 3 :: _) rfl rfl ?_
    refine E_s (p' := 10) rfl rfl ?_
    refine E_s (p' := 11) (st' := aI 1 :: _) rfl rfl ?_
    refine E_s (p' := 15) rfl rfl ?_
    refine E_ret rfl rfl ?_
    refine E_ret rfl rfl ?_
    refine E_s (p' := 7) rfl rfl ?_
    refine E_s (p' := 8) rfl rfl ?_
    refine E_s (p' := 9) (st' := aI 0 :: _) rfl rfl ?_
    refine E_s (p' := 10) (st' := aA 124 :: _) rfl rfl ?_
    refine E_s (p' := 13) (st' := aA 125 :: _) rfl rfl ?_
    refine E_s (p' := 14) (st' := aI 3 :: _) rfl rfl ?_
    refine E_s (p' := 15) (st' := aI 0 :: _) rfl rfl ?_
    refine E_s (p' := 16) (st' := aI 1 :: _) rfl rfl ?_
    refine E_isubv (v := -1) rfl (show (0 : Int) - 1 = -1 from rfl) (by decide) ?_
    refine E_callL (p' := 20) (L0 := [some (aI a2), some (aI 0), some (aI (-1))]) rfl rfl rfl ?_
    refine E_s (p' := 1) rfl rfl ?_
    refine E_s (p' := 2) (st' := aI 0 :: _) rfl rfl ?_
    refine E_icmp_lt (y := 0) rfl (by decide) (fun q => absurd q (by omega)) (fun _ => ?_)
    refine E_s (p' := 6) rfl rfl ?_
    refine E_s (p' := 7) (st' := aI (-1) :: _) rfl rfl ?_
    refine E_icmp_gt (y := (-1)) rfl (by decide) (fun _ => ?_) (fun q => absurd q (by omega))
    refine E_s (p' := 15) (st' := aI 0 :: _) rfl rfl ?_
    refine E_ret rfl rfl ?_
    refine E_s (p' := 27) rfl rfl ?_
    refine E_s (p' := 28) (st' := aI 0 :: _) rfl rfl ?_
    refine E_ret rfl rfl ?_
    refine E_s (p' := 9) rfl rfl ?_
    refine E_s (p' := 11) (st' := aI (-2) :: _) rfl rfl ?_
    refine E_ret rfl rfl ?_
    refine E_s (p' := 1174) rfl rfl ?_
    refine E_s (p' := 1177) (L' := [some (aA 0), some (aA 1), some (aA 124), some (aI 6)]) rfl rfl ?_
    refine E_s (p' := 18) rfl rfl ?_
    refine E_s (p' := 19) (st' := aI 6 :: _) rfl rfl ?_
    refine E_s (p' := 20) (st' := aA 0 :: _) rfl rfl ?_
    refine E_s (p' := 21) (st' := aI 6 :: _) rfl rfl ?_
    refine E_s (p' := 23) (st' := aI 6 :: _) rfl rfl ?_
    refine E_s (p' := 24) (st' := aI 0 :: _) rfl rfl ?_
    refine E_s (p' := 1180) rfl rfl ?_
    refine E_s (p' := 1181) (st' := aI 1 :: _) rfl rfl ?_
    exact E_ret rfl rfl ⟨rfl, rfl⟩
set_option maxRecDepth 100000 in
set_option maxHeartbeats 40000000 in
theorem pc_4_o (xs : Nat → Int) {z a1 a2 a3 a4 a5 : Int} (hz : b32 (fun a b => a &&& b) z 31 = 4) (h0 : xs 0 = z) (h1 : xs 1 = a1) (h2 : xs 2 = a2) (h3 : xs 3 = a3) (h4 : xs 4 = a4) (h5 : xs 5 = a5) (hr : a1 < 0 ∨ 3 < a1) : E 0 18 LL [] (s0 xs 6) PQ := by
  refine E_s (p' := 19) (st' := aI 0 :: _) rfl rfl ?_
  refine E_s (p' := 20) (st' := aA 0 :: _) rfl rfl ?_
  refine E_s (p' := 21) (st' := aI 6 :: _) rfl rfl ?_
  refine E_s (p' := 23) (st' := aI 6 :: _) rfl rfl ?_
  refine E_s (p' := 24) (st' := aI 0 :: _) rfl rfl ?_
  refine E_s (p' := 27) rfl rfl ?_
  refine E_s (p' := 28) (st' := aA 0 :: _) rfl rfl ?_
  refine E_s (p' := 29) (st' := aI 0 :: _) rfl rfl ?_
  refine E_scr rfl rfl h0 ?_
  refine E_s (p' := 32) (st' := aI 31 :: _) rfl rfl ?_
  refine E_s (p' := 33) rfl rfl ?_
  refine E_val hz ?_
  refine E_s (p' := 372) rfl rfl ?_
  refine E_s (p' := 373) (st' := aA 1 :: _) rfl rfl ?_
  refine E_s (p' := 374) (st' := aA 0 :: _) rfl rfl ?_
  refine E_s (p' := 375) (st' := aI 0 :: _) rfl rfl ?_
  refine E_s (p' := 376) (st' := aI 1 :: _) rfl rfl ?_
  refine E_s (p' := 377) (st' := aI 1 :: _) rfl rfl ?_
  refine E_scr rfl rfl h1 ?_
  refine E_s (p' := 379) (st' := aA 0 :: _) rfl rfl ?_
  refine E_s (p' := 380) (st' := aI 0 :: _) rfl rfl ?_
  refine E_s (p' := 381) (st' := aI 2 :: _) rfl rfl ?_
  refine E_s (p' := 382) (st' := aI 2 :: _) rfl rfl ?_
  refine E_scr rfl rfl h2 ?_
  refine E_s (p' := 384) (st' := aA 0 :: _) rfl rfl ?_
  refine E_s (p' := 385) (st' := aI 0 :: _) rfl rfl ?_
  refine E_s (p' := 386) (st' := aI 3 :: _) rfl rfl ?_
  refine E_s (p' := 387) (st' := aI 3 :: _) rfl rfl ?_
  refine E_scr rfl rfl h3 ?_
  refine E_callL (p' := 391) (L0 := [some (aA 1), some (aI a1), some (aI a2), some (aI a3), none]) rfl rfl rfl ?_
  refine E_s (p' := 1) (st' := aA 1 :: _) rfl rfl ?_
  refine E_s (p' := 2) rfl rfl ?_
  refine E_callL (p' := 5) (L0 := [some (aA 1), some (aI a1)]) rfl rfl rfl ?_
  refine E_s (p' := 1) rfl rfl ?_
  refine E_if_lt rfl (by decide) (fun _ => ?_) (fun _ => ?_)
  · refine E_s (p' := 19) rfl rfl ?_
    refine E_ret rfl rfl ?_
    refine E_s (p' := 7) (L' := [some (aA 1), some (aI a1), some (aI a2), some (aI a3), some aN]) rfl rfl ?_
    refine E_s (p' := 9) rfl rfl ?_
    refine E_s (p' := 37) rfl rfl ?_
    refine E_s (p' := 39) (st' := aI (-2) :: _) rfl rfl ?_
    refine E_ret rfl rfl ?_
    refine E_s (p' := 392) (st' := aA 124 :: _) rfl rfl ?_
    refine E_s (p' := 393) (st' := aA 0 :: _) rfl rfl ?_
    refine E_s (p' := 394) (st' := aI 0 :: _) rfl rfl ?_
    refine E_s (p' := 395) (st' := aI 1 :: _) rfl rfl ?_
    refine E_s (p' := 396) (st' := aI 1 :: _) rfl rfl ?_
    refine E_scr rfl rfl h1 ?_
    refine E_s (p' := 398) (st' := aA 0 :: _) rfl rfl ?_
    refine E_s (p' := 399) (st' := aI 0 :: _) rfl rfl ?_
    refine E_s (p' := 400) (st' := aI 2 :: _) rfl rfl ?_
    refine E_s (p' := 401) (st' := aI 2 :: _) rfl rfl ?_
    refine E_scr rfl rfl h2 ?_
    refine E_s (p' := 403) (st' := aA 0 :: _) rfl rfl ?_
    refine E_s (p' := 404) (st' := aI 0 :: _) rfl rfl ?_
    refine E_s (p' := 405) (st' := aI 3 :: _) rfl rfl ?_
    refine E_s (p' := 406) (st' := aI 3 :: _) rfl rfl ?_
    refine E_scr rfl rfl h3 ?_
    refine E_callL (p' := 410) (L0 := [some (aA 124), some (aI a1), some (aI a2), some (aI a3), none]) rfl rfl rfl ?_
    refine E_s (p' := 1) (st' := aA 124 :: _) rfl rfl ?_
    refine E_s (p' := 2) rfl rfl ?_
    refine E_s (p' := 3) rfl rfl ?_
    refine E_callL (p' := 6) (L0 := [some (aA 124), some (aI a1), some (aI a2)]) rfl rfl rfl ?_
    refine E_s (p' := 1) rfl rfl ?_
    refine E_callL (p' := 4) (L0 := [some (aI a1)]) rfl rfl rfl ?_
    refine E_s (p' := 1) rfl rfl ?_
    refine E_s (p' := 2) (st' := aI 0 :: _) rfl rfl ?_
    refine E_s (p' := 3) (st' := aI 3 :: _) rfl rfl ?_
    refine E_callL (p' := 6) (L0 := [some (aI a1), some (aI 0), some (aI 3)]) rfl rfl rfl ?_
    refine E_s (p' := 1) rfl rfl ?_
    refine E_s (p' := 2) (st' := aI 0 :: _) rfl rfl ?_
    refine E_icmp_lt (y := 0) rfl (by decide) (fun _ => ?_) (fun q => absurd q (by omega))
    refine E_s (p' := 15) (st' := aI 0 :: _) rfl rfl ?_
    refine E_ret rfl rfl ?_
    refine E_ret rfl rfl ?_
    refine E_s (p' := 27) rfl rfl ?_
    refine E_s (p' := 28) (st' := aI 0 :: _) rfl rfl ?_
    refine E_ret rfl rfl ?_
    refine E_s (p' := 9) rfl rfl ?_
    refine E_s (p' := 11) (st' := aI (-2) :: _) rfl rfl ?_
    refine E_ret rfl rfl ?_
    refine E_s (p' := 1174) rfl rfl ?_
    refine E_s (p' := 1177) (L' := [some (aA 0), some (aA 1), some (aA 124), some (aI 6)]) rfl rfl ?_
    refine E_s (p' := 18) rfl rfl ?_
    refine E_s (p' := 19) (st' := aI 6 :: _) rfl rfl ?_
    refine E_s (p' := 20) (st' := aA 0 :: _) rfl rfl ?_
    refine E_s (p' := 21) (st' := aI 6 :: _) rfl rfl ?_
    refine E_s (p' := 23) (st' := aI 6 :: _) rfl rfl ?_
    refine E_s (p' := 24) (st' := aI 0 :: _) rfl rfl ?_
    refine E_s (p' := 1180) rfl rfl ?_
    refine E_s (p' := 1181) (st' := aI 1 :: _) rfl rfl ?_
    exact E_ret rfl rfl ⟨rfl, rfl⟩
  · refine E_s (p' := 5) rfl rfl ?_
    refine E_s (p' := 6) (st' := aI 4 :: _) rfl rfl ?_
    refine E_icmp_ge (y := 4) rfl (by decide) (fun _ => ?_) (fun q => absurd q (by omega))
    refine E_s (p' := 19) rfl rfl ?_
    refine E_ret rfl rfl ?_
    refine E_s (p' := 7) (L' := [some (aA 1), some (aI a1), some (aI a2), some (aI a3), some aN]) rfl rfl ?_
    refine E_s (p' := 9) rfl rfl ?_
    refine E_s (p' := 37) rfl rfl ?_
    refine E_s (p' := 39) (st' := aI (-2) :: _) rfl rfl ?_
    refine E_ret rfl rfl ?_
    refine E_s (p' := 392) (st' := aA 124 :: _) rfl rfl ?_
    refine E_s (p' := 393) (st' := aA 0 :: _) rfl rfl ?_
    refine E_s (p' := 394) (st' := aI 0 :: _) rfl rfl ?_
    refine E_s (p' := 395) (st' := aI 1 :: _) rfl rfl ?_
    refine E_s (p' := 396) (st' := aI 1 :: _) rfl rfl ?_
    refine E_scr rfl rfl h1 ?_
    refine E_s (p' := 398) (st' := aA 0 :: _) rfl rfl ?_
    refine E_s (p' := 399) (st' := aI 0 :: _) rfl rfl ?_
    refine E_s (p' := 400) (st' := aI 2 :: _) rfl rfl ?_
    refine E_s (p' := 401) (st' := aI 2 :: _) rfl rfl ?_
    refine E_scr rfl rfl h2 ?_
    refine E_s (p' := 403) (st' := aA 0 :: _) rfl rfl ?_
    refine E_s (p' := 404) (st' := aI 0 :: _) rfl rfl ?_
    refine E_s (p' := 405) (st' := aI 3 :: _) rfl rfl ?_
    refine E_s (p' := 406) (st' := aI 3 :: _) rfl rfl ?_
    refine E_scr rfl rfl h3 ?_
    refine E_callL (p' := 410) (L0 := [some (aA 124), some (aI a1), some (aI a2), some (aI a3), none]) rfl rfl rfl ?_
    refine E_s (p' := 1) (st' := aA 124 :: _) rfl rfl ?_
    refine E_s (p' := 2) rfl rfl ?_
    refine E_s (p' := 3) rfl rfl ?_
    refine E_callL (p' := 6) (L0 := [some (aA 124), some (aI a1), some (aI a2)]) rfl rfl rfl ?_
    refine E_s (p' := 1) rfl rfl ?_
    refine E_callL (p' := 4) (L0 := [some (aI a1)]) rfl rfl rfl ?_
    refine E_s (p' := 1) rfl rfl ?_
    refine E_s (p' := 2) (st' := aI 0 :: _) rfl rfl ?_
    refine E_s (p' := 3) (st' := aI 3 :: _) rfl rfl ?_
    refine E_callL (p' := 6) (L0 := [some (aI a1), some (aI 0), some (aI 3)]) rfl rfl rfl ?_
    refine E_s (p' := 1) rfl rfl ?_
    refine E_s (p' := 2) (st' := aI 0 :: _) rfl rfl ?_
    refine E_icmp_lt (y := 0) rfl (by decide) (fun q => absurd q (by omega)) (fun _ => ?_)
    refine E_s (p' := 6) rfl rfl ?_
    refine E_s (p' := 7) (st' := aI 3 :: _) rfl rfl ?_
    refine E_icmp_gt (y := 3) rfl (by decide) (fun _ => ?_) (fun q => absurd q (by omega))
    refine E_s (p' := 15) (st' := aI 0 :: _) rfl rfl ?_
    refine E_ret rfl rfl ?_
    refine E_ret rfl rfl ?_
    refine E_s (p' := 27) rfl rfl ?_
    refine E_s (p' := 28) (st' := aI 0 :: _) rfl rfl ?_
    refine E_ret rfl rfl ?_
    refine E_s (p' := 9) rfl rfl ?_
    refine E_s (p' := 11) (st' := aI (-2) :: _) rfl rfl ?_
    refine E_ret rfl rfl ?_
    refine E_s (p' := 1174) rfl rfl ?_
    refine E_s (p' := 1177) (L' := [some (aA 0), some (aA 1), some (aA 124), some (aI 6)]) rfl rfl ?_
    refine E_s (p' := 18) rfl rfl ?_
    refine E_s (p' := 19) (st' := aI 6 :: _) rfl rfl ?_
    refine E_s (p' := 20) (st' := aA 0 :: _) rfl rfl ?_
    refine E_s (p' := 21) (st' := aI 6 :: _) rfl rfl ?_
    refine E_s (p' := 23) (st' := aI 6 :: _) rfl rfl ?_
    refine E_s (p' := 24) (st' := aI 0 :: _) rfl rfl ?_
    refine E_s (p' := 1180) rfl rfl ?_
    refine E_s (p' := 1181) (st' := aI 1 :: _) rfl rfl ?_
    exact E_ret rfl rfl ⟨rfl, rfl⟩
set_option maxRecDepth 100000 in
set_option maxHeartbeats 40000000 in
theorem pc_5_0 (xs : Nat → Int) {z a2 a3 a4 a5 : Int} (hz : b32 (fun a b => a &&& b) z 31 = 5) (h0 : xs 0 = z) (h1 : xs 1 = 0) (h2 : xs 2 = a2) (h3 : xs 3 = a3) (h4 : xs 4 = a4) (h5 : xs 5 = a5) : E 0 18 LL [] (s0 xs 6) PQ := by
  refine E_s (p' := 19) (st' := aI 0 :: _) rfl rfl ?_
  refine E_s (p' := 20) (st' := aA 0 :: _) rfl rfl ?_
  refine E_s (p' := 21) (st' := aI 6 :: _) rfl rfl ?_
  refine E_s (p' := 23) (st' := aI 6 :: _) rfl rfl ?_
  refine E_s (p' := 24) (st' := aI 0 :: _) rfl rfl ?_
  refine E_s (p' := 27) rfl rfl ?_
  refine E_s (p' := 28) (st' := aA 0 :: _) rfl rfl ?_
  refine E_s (p' := 29) (st' := aI 0 :: _) rfl rfl ?_
  refine E_scr rfl rfl h0 ?_
  refine E_s (p' := 32) (st' := aI 31 :: _) rfl rfl ?_
  refine E_s (p' := 33) rfl rfl ?_
  refine E_val hz ?_
  refine E_s (p' := 415) rfl rfl ?_
  refine E_s (p' := 416) (st' := aA 1 :: _) rfl rfl ?_
  refine E_s (p' := 417) (st' := aA 0 :: _) rfl rfl ?_
  refine E_s (p' := 418) (st' := aI 0 :: _) rfl rfl ?_
  refine E_s (p' := 419) (st' := aI 1 :: _) rfl rfl ?_
  refine E_s (p' := 420) (st' := aI 1 :: _) rfl rfl ?_
  refine E_scr rfl rfl h1 ?_
  refine E_s (p' := 422) (st' := aA 0 :: _) rfl rfl ?_
  refine E_s (p' := 423) (st' := aI 0 :: _) rfl rfl ?_
  refine E_s (p' := 424) (st' := aI 2 :: _) rfl rfl ?_
  refine E_s (p' := 425) (st' := aI 2 :: _) rfl rfl ?_
  refine E_scr rfl rfl h2 ?_
  refine E_s (p' := 427) (st' := aA 0 :: _) rfl rfl ?_
  refine E_s (p' := 428) (st' := aI 0 :: _) rfl rfl ?_
  refine E_s (p' := 429) (st' := aI 3 :: _) rfl rfl ?_
  refine E_s (p' := 430) (st' := aI 3 :: _) rfl rfl ?_
  refine E_scr rfl rfl h3 ?_
  refine E_callL (p' := 434) (L0 := [some (aA 1), some (aI 0), some (aI a2), some (aI a3), none, none]) rfl rfl rfl ?_
  refine E_s (p' := 1) (st' := aA 1 :: _) rfl rfl ?_
  refine E_s (p' := 2) (st' := aI 0 :: _) rfl rfl ?_
  refine E_callL (p' := 5) (L0 := [some (aA 1), some (aI 0), none]) rfl rfl rfl ?_
  refine E_s (p' := 1) (st' := aA 1 :: _) rfl rfl ?_
  refine E_s (p' := 2) (st' := aI 0 :: _) rfl rfl ?_
  refine E_callL (p' := 5) (L0 := [some (aA 1), some (aI 0)]) rfl rfl rfl ?_
  refine E_s (p' := 1) (st' := aI 0 :: _) rfl rfl ?_
  refine E_s (p' := 4) rfl rfl ?_
  refine E_s (p' := 5) (st' := aI 0 :: _) rfl rfl ?_
  refine E_s (p' := 6) (st' := aI 4 :: _) rfl rfl ?_
  refine E_s (p' := 9) rfl rfl ?_
  refine E_s (p' := 10) (st' := aA 1 :: _) rfl rfl ?_
  refine E_s (p' := 13) (st' := aA 2 :: _) rfl rfl ?_
  refine E_s (p' := 14) (st' := aI 0 :: _) rfl rfl ?_
  refine E_s (p' := 15) (st' := aA 20 :: _) rfl rfl ?_
  refine E_s (p' := 19) rfl rfl ?_
  refine E_ret rfl rfl ?_
  refine E_s (p' := 6) (L' := [some (aA 1), some (aI 0), some (aA 20)]) rfl rfl ?_
  refine E_s (p' := 7) (st' := aA 20 :: _) rfl rfl ?_
  refine E_s (p' := 10) rfl rfl ?_
  refine E_s (p' := 11) (st' := aA 20 :: _) rfl rfl ?_
  refine E_callL (p' := 14) (L0 := [some (aA 20)]) rfl rfl rfl ?_
  refine E_s (p' := 1) (st' := aA 20 :: _) rfl rfl ?_
  refine E_s (p' := 4) (st' := aI 0 :: _) rfl rfl ?_
  refine E_s (p' := 7) rfl rfl ?_
  refine E_s (p' := 8) (st' := aA 20 :: _) rfl rfl ?_
  refine E_s (p' := 11) (st' := aA 35 :: _) rfl rfl ?_
  refine E_s (p' := 12) (st' := aA 20 :: _) rfl rfl ?_
  refine E_s (p' := 15) (st' := aA 21 :: _) rfl rfl ?_
  refine E_s (p' := 16) (st' := aA 20 :: _) rfl rfl ?_
  refine E_s (p' := 19) (st' := aI 15 :: _) rfl rfl ?_
  refine E_callL (p' := 22) (L0 := [some (aA 35), some (aA 21), some (aI 15), none]) rfl rfl rfl ?_
  refine E_s (p' := 1) (st' := aA 35 :: _) rfl rfl ?_
  refine E_s (p' := 2) (st' := aA 21 :: _) rfl rfl ?_
  refine E_callL (p' := 5) (L0 := [some (aA 35), some (aA 21), none, none]) rfl rfl rfl ?_
  refine E_s (p' := 1) (st' := aA 35 :: _) rfl rfl ?_
  refine E_s (p' := 4) (st' := aA 44 :: _) rfl rfl ?_
  refine E_s (p' := 5) (st' := aI 0 :: _) rfl rfl ?_
  refine E_call rfl rfl ?_
  refine c_fill rfl rfl ?_
  refine E_s (p' := 9) (st' := aA 35 :: _) rfl rfl ?_
  refine E_s (p' := 12) (st' := aA 40 :: _) rfl rfl ?_
  refine E_s (p' := 13) (st' := aI 0 :: _) rfl rfl ?_
  refine E_call rfl rfl ?_
  refine c_fill rfl rfl ?_
  refine E_s (p' := 17) (st' := aA 35 :: _) rfl rfl ?_
  refine E_s (p' := 18) (st' := aI 0 :: _) rfl rfl ?_
  refine E_stM (p' := 21) (m' := up2 _ 35 10 0) rfl rfl ?_
  refine E_s (p' := 22) (st' := aA 35 :: _) rfl rfl ?_
  refine E_s (p' := 23) (st' := aI 0 :: _) rfl rfl ?_
  refine E_stM (p' := 26) (m' := up2 _ 35 11 0) rfl rfl ?_
  refine E_s (p' := 27) (st' := aI 0 :: _) rfl rfl ?_
  refine E_s (p' := 28) (L' := [some (aA 35), some (aA 21), some (aI 0), none]) rfl rfl ?_
  refine E_s (p' := 29) (st' := aI 0 :: _) rfl rfl ?_
  refine E_s (p' := 30) (st' := aA 21 :: _) rfl rfl ?_
  refine E_s (p' := 33) (st' := aI 0 :: _) rfl rfl ?_
  refine E_s (p' := 135) rfl rfl ?_
  refine E_ret rfl rfl ?_
  refine E_s (p' := 6) (st' := aA 35 :: _) rfl rfl ?_
  refine E_s (p' := 7) (st' := aI 15 :: _) rfl rfl ?_
  refine E_callL (p' := 10) (L0 := [some (aA 35), some (aI 15), none]) rfl rfl rfl ?_
  refine E_s (p' := 1) (st' := aA 35 :: _) rfl rfl ?_
  refine E_s (p' := 2) (st' := aI 0 :: _) rfl rfl ?_
  refine E_stM (p' := 5) (m' := up2 _ 35 12 0) rfl rfl ?_
  refine E_s (p' := 6) (st' := aI 1 :: _) rfl rfl ?_
  refine E_s (p' := 7) (L' := [some (aA 35), some (aI 15), some (aI 1)]) rfl rfl ?_
  refine fl_loop (gp := 0) (by decide) _ 600 1 _ rfl (fun j hj => show (if 0 ≤ j ∧ j < 601 then (0 : Int) else _) = 0 from if_pos ⟨Nat.zero_le _, hj⟩) ?_
  refine E_s (p' := 11) (st' := aA 35 :: _) rfl rfl ?_
  refine E_s (p' := 14) (st' := aI 0 :: _) rfl rfl ?_
  refine E_s (p' := 17) rfl rfl ?_
  refine E_s (p' := 18) (st' := aA 35 :: _) rfl rfl ?_
  refine E_callL (p' := 21) (L0 := [some (aA 35)]) rfl rfl rfl ?_
  refine E_s (p' := 1) (st' := aA 35 :: _) rfl rfl ?_
  refine E_s (p' := 4) (st' := aA 41 :: _) rfl rfl ?_
  refine E_s (p' := 5) (st' := aA 35 :: _) rfl rfl ?_
  refine E_s (p' := 8) (st' := aI 0 :: _) rfl rfl ?_
  refine E_s (p' := 15) rfl rfl ?_
  refine E_s (p' := 16) (st' := aI 0 :: _) rfl rfl ?_
  refine E_call rfl rfl ?_
  refine c_fill rfl rfl ?_
  refine E_s (p' := 20) (st' := aA 35 :: _) rfl rfl ?_
  refine E_s (p' := 23) (st' := aA 42 :: _) rfl rfl ?_
  refine E_s (p' := 24) (st' := aI 0 :: _) rfl rfl ?_
  refine E_call rfl rfl ?_
  refine c_fill rfl rfl ?_
  refine E_s (p' := 28) (st' := aA 35 :: _) rfl rfl ?_
  refine E_s (p' := 31) (st' := aA 43 :: _) rfl rfl ?_
  refine E_s (p' := 32) (st' := aI 0 :: _) rfl rfl ?_
  refine E_call rfl rfl ?_
  refine c_fill rfl rfl ?_
  refine E_ret rfl rfl ?_
  refine E_ret rfl rfl ?_
  refine E_s (p' := 23) (st' := aA 20 :: _) rfl rfl ?_
  refine E_s (p' := 24) (st' := aI 1 :: _) rfl rfl ?_
  refine E_stM (p' := 27) (m' := up2 _ 20 7 1) rfl rfl ?_
  refine E_s (p' := 28) (st' := aA 20 :: _) rfl rfl ?_
  refine E_s (p' := 31) (st' := aA 35 :: _) rfl rfl ?_
  refine E_ret rfl rfl ?_
  refine E_s (p' := 15) rfl rfl ?_
  refine E_s (p' := 16) (st' := aA 20 :: _) rfl rfl ?_
  refine E_ret rfl rfl ?_
  refine E_s (p' := 7) (L' := [some (aA 1), some (aI 0), some (aI a2), some (aI a3), some (aA 20), none]) rfl rfl ?_
  refine E_s (p' := 9) (st' := aA 20 :: _) rfl rfl ?_
  refine E_s (p' := 12) rfl rfl ?_
  refine E_s (p' := 14) (st' := aA 20 :: _) rfl rfl ?_
  refine E_s (p' := 17) (st' := aA 21 :: _) rfl rfl ?_
  refine E_s (p' := 18) rfl rfl ?_
  refine E_callL (p' := 21) (L0 := [some (aA 21), some (aI a2)]) rfl rfl rfl ?_
  refine E_s (p' := 1) rfl rfl ?_
  refine E_if_lt rfl (by decide) (fun _ => ?_) (fun _ => ?_)
  · refine E_s (p' := 17) (st' := aI 0 :: _) rfl rfl ?_
    refine E_ret rfl rfl ?_
    refine E_s (p' := 34) rfl rfl ?_
    refine E_s (p' := 36) (st' := aI (-2) :: _) rfl rfl ?_
    refine E_ret rfl rfl ?_
    refine E_s (p' := 435) (st' := aA 124 :: _) rfl rfl ?_
    refine E_s (p' := 436) (st' := aA 0 :: _) rfl rfl ?_
    refine E_s (p' := 437) (st' := aI 0 :: _) rfl rfl ?_
    refine E_s (p' := 438) (st' := aI 1 :: _) rfl rfl ?_
    refine E_s (p' := 439) (st' := aI 1 :: _) rfl rfl ?_
    refine E_scr rfl rfl h1 ?_
    refine E_s (p' := 441) (st' := aA 0 :: _) rfl rfl ?_
    refine E_s (p' := 442) (st' := aI 0 :: _) rfl rfl ?_
    refine E_s (p' := 443) (st' := aI 2 :: _) rfl rfl ?_
    refine E_s (p' := 444) (st' := aI 2 :: _) rfl rfl ?_
    refine E_scr rfl rfl h2 ?_
    refine E_s (p' := 446) (st' := aA 0 :: _) rfl rfl ?_
    refine E_s (p' := 447) (st' := aI 0 :: _) rfl rfl ?_
    refine E_s (p' := 448) (st' := aI 3 :: _) rfl rfl ?_
    refine E_s (p' := 449) (st' := aI 3 :: _) rfl rfl ?_
    refine E_scr rfl rfl h3 ?_
    refine E_callL (p' := 453) (L0 := [some (aA 124), some (aI 0), some (aI a2), some (aI a3), none, none, none, none]) rfl rfl rfl ?_
    refine E_s (p' := 1) (st' := aA 124 :: _) rfl rfl ?_
    refine E_s (p' := 2) (st' := aI 0 :: _) rfl rfl ?_
    refine E_s (p' := 3) rfl rfl ?_
    refine E_callL (p' := 6) (L0 := [some (aA 124), some (aI 0), some (aI a2)]) rfl rfl rfl ?_
    refine E_s (p' := 1) (st' := aI 0 :: _) rfl rfl ?_
    refine E_callL (p' := 4) (L0 := [some (aI 0)]) rfl rfl rfl ?_
    refine E_s (p' := 1) (st' := aI 0 :: _) rfl rfl ?_
    refine E_s (p' := 2) (st' := aI 0 :: _) rfl rfl ?_
    refine E_s (p' := 3) (st' := aI 3 :: _) rfl rfl ?_
    refine E_callL (p' := 6) (L0 := [some (aI 0), some (aI 0), some (aI 3)]) rfl rfl rfl ?_
    refine E_s (p' := 1) (st' := aI 0 :: _) rfl rfl ?_
    refine E_s (p' := 2) (st' := aI 0 :: _) rfl rfl ?_
    refine E_s (p' := 5) rfl rfl ?_
    refine E_s (p' := 6) (st' := aI 0 :: _) rfl rfl ?_
    refine E_s (p' := 7) (st' := aI 3 :: _) rfl rfl ?_
    refine E_s (p' := 10) rfl rfl ?_
    refine E_s (p' := 11) (st' := aI 1 :: _) rfl rfl ?_
    refine E_s (p' := 15) rfl rfl ?_
    refine E_ret rfl rfl ?_
    refine E_ret rfl rfl ?_
    refine E_s (p' := 7) rfl rfl ?_
    refine E_s (p' := 8) rfl rfl ?_
    refine E_s (p' := 9) (st' := aI 0 :: _) rfl rfl ?_
    refine E_s (p' := 10) (st' := aA 124 :: _) rfl rfl ?_
    refine E_s (p' := 13) (st' := aA 125 :: _) rfl rfl ?_
    refine E_s (p' := 14) (st' := aI 0 :: _) rfl rfl ?_
    refine E_s (p' := 15) (st' := aI 0 :: _) rfl rfl ?_
    refine E_s (p' := 16) (st' := aI 1 :: _) rfl rfl ?_
    refine E_isubv (v := -1) rfl (show (0 : Int) - 1 = -1 from rfl) (by decide) ?_
    refine E_callL (p' := 20) (L0 := [some (aI a2), some (aI 0), some (aI (-1))]) rfl rfl rfl ?_
    refine E_s (p' := 1) rfl rfl ?_
    refine E_s (p' := 2) (st' := aI 0 :: _) rfl rfl ?_
    refine E_icmp_lt (y := 0) rfl (by decide) (fun _ => ?_) (fun q => absurd q (by omega))
    refine E_s (p' := 15) (st' := aI 0 :: _) rfl rfl ?_
    refine E_ret rfl rfl ?_
    refine E_s (p' := 27) rfl rfl ?_
    refine E_s (p' := 28) (st' := aI 0 :: _) rfl rfl ?_
    refine E_ret rfl rfl ?_
    refine E_s (p' := 19) rfl rfl ?_
    refine E_s (p' := 21) (st' := aI (-2) :: _) rfl rfl ?_
    refine E_ret rfl rfl ?_
    refine E_s (p' := 1174) rfl rfl ?_
    refine E_s (p' := 1177) (L' := [some (aA 0), some (aA 1), some (aA 124), some (aI 6)]) rfl rfl ?_
    refine E_s (p' := 18) rfl rfl ?_
    refine E_s (p' := 19) (st' := aI 6 :: _) rfl rfl ?_
    refine E_s (p' := 20) (st' := aA 0 :: _) rfl rfl ?_
    refine E_s (p' := 21) (st' := aI 6 :: _) rfl rfl ?_
    refine E_s (p' := 23) (st' := aI 6 :: _) rfl rfl ?_
    refine E_s (p' := 24) (st' := aI 0 :: _) rfl rfl ?_
    refine E_s (p' := 1180) rfl rfl ?_
    refine E_s (p' := 1181) (st' := aI 1 :: _) rfl rfl ?_
    exact E_ret rfl rfl ⟨rfl, rfl⟩
  · refine E_s (p' := 5) rfl rfl ?_
    refine E_s (p' := 6) (st' := aA 21 :: _) rfl rfl ?_
    refine E_s (p' := 9) (st' := aI 0 :: _) rfl rfl ?_
    refine E_icmp_ge (y := 0) rfl (by decide) (fun _ => ?_) (fun q => absurd q (by omega))
    refine E_s (p' := 17) (st' := aI 0 :: _) rfl rfl ?_
    refine E_ret rfl rfl ?_
    refine E_s (p' := 34) rfl rfl ?_
    refine E_s (p' := 36) (st' := aI (-2) :: _) rfl rfl ?_
    refine E_ret rfl rfl ?_
    refine E_s (p' := 435) (st' := aA 124 :: _) rfl rfl ?_
    refine E_s (p' := 436) (st' := aA 0 :: _) rfl rfl ?_
    refine E_s (p' := 437) (st' := aI 0 :: _) rfl rfl ?_
    refine E_s (p' := 438) (st' := aI 1 :: _) rfl rfl ?_
    refine E_s (p' := 439) (st' := aI 1 :: _) rfl rfl ?_
    refine E_scr rfl rfl h1 ?_
    refine E_s (p' := 441) (st' := aA 0 :: _) rfl rfl ?_
    refine E_s (p' := 442) (st' := aI 0 :: _) rfl rfl ?_
    refine E_s (p' := 443) (st' := aI 2 :: _) rfl rfl ?_
    refine E_s (p' := 444) (st' := aI 2 :: _) rfl rfl ?_
    refine E_scr rfl rfl h2 ?_
    refine E_s (p' := 446) (st' := aA 0 :: _) rfl rfl ?_
    refine E_s (p' := 447) (st' := aI 0 :: _) rfl rfl ?_
    refine E_s (p' := 448) (st' := aI 3 :: _) rfl rfl ?_
    refine E_s (p' := 449) (st' := aI 3 :: _) rfl rfl ?_
    refine E_scr rfl rfl h3 ?_
    refine E_callL (p' := 453) (L0 := [some (aA 124), some (aI 0), some (aI a2), some (aI a3), none, none, none, none]) rfl rfl rfl ?_
    refine E_s (p' := 1) (st' := aA 124 :: _) rfl rfl ?_
    refine E_s (p' := 2) (st' := aI 0 :: _) rfl rfl ?_
    refine E_s (p' := 3) rfl rfl ?_
    refine E_callL (p' := 6) (L0 := [some (aA 124), some (aI 0), some (aI a2)]) rfl rfl rfl ?_
    refine E_s (p' := 1) (st' := aI 0 :: _) rfl rfl ?_
    refine E_callL (p' := 4) (L0 := [some (aI 0)]) rfl rfl rfl ?_
    refine E_s (p' := 1) (st' := aI 0 :: _) rfl rfl ?_
    refine E_s (p' := 2) (st' := aI 0 :: _) rfl rfl ?_
    refine E_s (p' := 3) (st' := aI 3 :: _) rfl rfl ?_
    refine E_callL (p' := 6) (L0 := [some (aI 0), some (aI 0), some (aI 3)]) rfl rfl rfl ?_
    refine E_s (p' := 1) (st' := aI 0 :: _) rfl rfl ?_
    refine E_s (p' := 2) (st' := aI 0 :: _) rfl rfl ?_
    refine E_s (p' := 5) rfl rfl ?_
    refine E_s (p' := 6) (st' := aI 0 :: _) rfl rfl ?_
    refine E_s (p' := 7) (st' := aI 3 :: _) rfl rfl ?_
    refine E_s (p' := 10) rfl rfl ?_
    refine E_s (p' := 11) (st' := aI 1 :: _) rfl rfl ?_
    refine E_s (p' := 15) rfl rfl ?_
    refine E_ret rfl rfl ?_
    refine E_ret rfl rfl ?_
    refine E_s (p' := 7) rfl rfl ?_
    refine E_s (p' := 8) rfl rfl ?_
    refine E_s (p' := 9) (st' := aI 0 :: _) rfl rfl ?_
    refine E_s (p' := 10) (st' := aA 124 :: _) rfl rfl ?_
    refine E_s (p' := 13) (st' := aA 125 :: _) rfl rfl ?_
    refine E_s (p' := 14) (st' := aI 0 :: _) rfl rfl ?_
    refine E_s (p' := 15) (st' := aI 0 :: _) rfl rfl ?_
    refine E_s (p' := 16) (st' := aI 1 :: _) rfl rfl ?_
    refine E_isubv (v := -1) rfl (show (0 : Int) - 1 = -1 from rfl) (by decide) ?_
    refine E_callL (p' := 20) (L0 := [some (aI a2), some (aI 0), some (aI (-1))]) rfl rfl rfl ?_
    refine E_s (p' := 1) rfl rfl ?_
    refine E_s (p' := 2) (st' := aI 0 :: _) rfl rfl ?_
    refine E_icmp_lt (y := 0) rfl (by decide) (fun q => absurd q (by omega)) (fun _ => ?_)
    refine E_s (p' := 6) rfl rfl ?_
    refine E_s (p' := 7) (st' := aI (-1) :: _) rfl rfl ?_
    refine E_icmp_gt (y := (-1)) rfl (by decide) (fun _ => ?_) (fun q => absurd q (by omega))
    refine E_s (p' := 15) (st' := aI 0 :: _) rfl rfl ?_
    refine E_ret rfl rfl ?_
    refine E_s (p' := 27) rfl rfl ?_
    refine E_s (p' := 28) (st' := aI 0 :: _) rfl rfl ?_
    refine E_ret rfl rfl ?_
    refine E_s (p' := 19) rfl rfl ?_
    refine E_s (p' := 21) (st' := aI (-2) :: _) rfl rfl ?_
    refine E_ret rfl rfl ?_
    refine E_s (p' := 1174) rfl rfl ?_
    refine E_s (p' := 1177) (L' := [some (aA 0), some (aA 1), some (aA 124), some (aI 6)]) rfl rfl ?_
    refine E_s (p' := 18) rfl rfl ?_
    refine E_s (p' := 19) (st' := aI 6 :: _) rfl rfl ?_
    refine E_s (p' := 20) (st' := aA 0 :: _) rfl rfl ?_
    refine E_s (p' := 21) (st' := aI 6 :: _) rfl rfl ?_
    refine E_s (p' := 23) (st' := aI 6 :: _) rfl rfl ?_
    refine E_s (p' := 24) (st' := aI 0 :: _) rfl rfl ?_
    refine E_s (p' := 1180) rfl rfl ?_
    refine E_s (p' := 1181) (st' := aI 1 :: _) rfl rfl ?_
    exact E_ret rfl rfl ⟨rfl, rfl⟩
set_option maxRecDepth 100000 in
set_option maxHeartbeats 40000000 in
theorem pc_5_1 (xs : Nat → Int) {z a2 a3 a4 a5 : Int} (hz : b32 (fun a b => a &&& b) z 31 = 5) (h0 : xs 0 = z) (h1 : xs 1 = 1) (h2 : xs 2 = a2) (h3 : xs 3 = a3) (h4 : xs 4 = a4) (h5 : xs 5 = a5) : E 0 18 LL [] (s0 xs 6) PQ := by
  refine E_s (p' := 19) (st' := aI 0 :: _) rfl rfl ?_
  refine E_s (p' := 20) (st' := aA 0 :: _) rfl rfl ?_
  refine E_s (p' := 21) (st' := aI 6 :: _) rfl rfl ?_
  refine E_s (p' := 23) (st' := aI 6 :: _) rfl rfl ?_
  refine E_s (p' := 24) (st' := aI 0 :: _) rfl rfl ?_
  refine E_s (p' := 27) rfl rfl ?_
  refine E_s (p' := 28) (st' := aA 0 :: _) rfl rfl ?_
  refine E_s (p' := 29) (st' := aI 0 :: _) rfl rfl ?_
  refine E_scr rfl rfl h0 ?_
  refine E_s (p' := 32) (st' := aI 31 :: _) rfl rfl ?_
  refine E_s (p' := 33) rfl rfl ?_
  refine E_val hz ?_
  refine E_s (p' := 415) rfl rfl ?_
  refine E_s (p' := 416) (st' := aA 1 :: _) rfl rfl ?_
  refine E_s (p' := 417) (st' := aA 0 :: _) rfl rfl ?_
  refine E_s (p' := 418) (st' := aI 0 :: _) rfl rfl ?_
  refine E_s (p' := 419) (st' := aI 1 :: _) rfl rfl ?_
  refine E_s (p' := 420) (st' := aI 1 :: _) rfl rfl ?_
  refine E_scr rfl rfl h1 ?_
  refine E_s (p' := 422) (st' := aA 0 :: _) rfl rfl ?_
  refine E_s (p' := 423) (st' := aI 0 :: _) rfl rfl ?_
  refine E_s (p' := 424) (st' := aI 2 :: _) rfl rfl ?_
  refine E_s (p' := 425) (st' := aI 2 :: _) rfl rfl ?_
  refine E_scr rfl rfl h2 ?_
  refine E_s (p' := 427) (st' := aA 0 :: _) rfl rfl ?_
  refine E_s (p' := 428) (st' := aI 0 :: _) rfl rfl ?_
  refine E_s (p' := 429) (st' := aI 3 :: _) rfl rfl ?_
  refine E_s (p' := 430) (st' := aI 3 :: _) rfl rfl ?_
  refine E_scr rfl rfl h3 ?_
  refine E_callL (p' := 434) (L0 := [some (aA 1), some (aI 1), some (aI a2), some (aI a3), none, none]) rfl rfl rfl ?_
  refine E_s (p' := 1) (st' := aA 1 :: _) rfl rfl ?_
  refine E_s (p' := 2) (st' := aI 1 :: _) rfl rfl ?_
  refine E_callL (p' := 5) (L0 := [some (aA 1), some (aI 1), none]) rfl rfl rfl ?_
  refine E_s (p' := 1) (st' := aA 1 :: _) rfl rfl ?_
  refine E_s (p' := 2) (st' := aI 1 :: _) rfl rfl ?_
  refine E_callL (p' := 5) (L0 := [some (aA 1), some (aI 1)]) rfl rfl rfl ?_
  refine E_s (p' := 1) (st' := aI 1 :: _) rfl rfl ?_
  refine E_s (p' := 4) rfl rfl ?_
  refine E_s (p' := 5) (st' := aI 1 :: _) rfl rfl ?_
  refine E_s (p' := 6) (st' := aI 4 :: _) rfl rfl ?_
  refine E_s (p' := 9) rfl rfl ?_
  refine E_s (p' := 10) (st' := aA 1 :: _) rfl rfl ?_
  refine E_s (p' := 13) (st' := aA 2 :: _) rfl rfl ?_
  refine E_s (p' := 14) (st' := aI 1 :: _) rfl rfl ?_
  refine E_s (p' := 15) (st' := aA 46 :: _) rfl rfl ?_
  refine E_s (p' := 19) rfl rfl ?_
  refine E_ret rfl rfl ?_
  refine E_s (p' := 6) (L' := [some (aA 1), some (aI 1), some (aA 46)]) rfl rfl ?_
  refine E_s (p' := 7) (st' := aA 46 :: _) rfl rfl ?_
  refine E_s (p' := 10) rfl rfl ?_
  refine E_s (p' := 11) (st' := aA 46 :: _) rfl rfl ?_
  refine E_callL (p' := 14) (L0 := [some (aA 46)]) rfl rfl rfl ?_
  refine E_s (p' := 1) (st' := aA 46 :: _) rfl rfl ?_
  refine E_s (p' := 4) (st' := aI 0 :: _) rfl rfl ?_
  refine E_s (p' := 7) rfl rfl ?_
  refine E_s (p' := 8) (st' := aA 46 :: _) rfl rfl ?_
  refine E_s (p' := 11) (st' := aA 61 :: _) rfl rfl ?_
  refine E_s (p' := 12) (st' := aA 46 :: _) rfl rfl ?_
  refine E_s (p' := 15) (st' := aA 47 :: _) rfl rfl ?_
  refine E_s (p' := 16) (st' := aA 46 :: _) rfl rfl ?_
  refine E_s (p' := 19) (st' := aI 15 :: _) rfl rfl ?_
  refine E_callL (p' := 22) (L0 := [some (aA 61), some (aA 47), some (aI 15), none]) rfl rfl rfl ?_
  refine E_s (p' := 1) (st' := aA 61 :: _) rfl rfl ?_
  refine E_s (p' := 2) (st' := aA 47 :: _) rfl rfl ?_
  refine E_callL (p' := 5) (L0 := [some (aA 61), some (aA 47), none, none]) rfl rfl rfl ?_
  refine E_s (p' := 1) (st' := aA 61 :: _) rfl rfl ?_
  refine E_s (p' := 4) (st' := aA 70 :: _) rfl rfl ?_
  refine E_s (p' := 5) (st' := aI 0 :: _) rfl rfl ?_
  refine E_call rfl rfl ?_
  refine c_fill rfl rfl ?_
  refine E_s (p' := 9) (st' := aA 61 :: _) rfl rfl ?_
  refine E_s (p' := 12) (st' := aA 66 :: _) rfl rfl ?_
  refine E_s (p' := 13) (st' := aI 0 :: _) rfl rfl ?_
  refine E_call rfl rfl ?_
  refine c_fill rfl rfl ?_
  refine E_s (p' := 17) (st' := aA 61 :: _) rfl rfl ?_
  refine E_s (p' := 18) (st' := aI 0 :: _) rfl rfl ?_
  refine E_stM (p' := 21) (m' := up2 _ 61 10 0) rfl rfl ?_
  refine E_s (p' := 22) (st' := aA 61 :: _) rfl rfl ?_
  refine E_s (p' := 23) (st' := aI 0 :: _) rfl rfl ?_
  refine E_stM (p' := 26) (m' := up2 _ 61 11 0) rfl rfl ?_
  refine E_s (p' := 27) (st' := aI 0 :: _) rfl rfl ?_
  refine E_s (p' := 28) (L' := [some (aA 61), some (aA 47), some (aI 0), none]) rfl rfl ?_
  refine E_s (p' := 29) (st' := aI 0 :: _) rfl rfl ?_
  refine E_s (p' := 30) (st' := aA 47 :: _) rfl rfl ?_
  refine E_s (p' := 33) (st' := aI 0 :: _) rfl rfl ?_
  refine E_s (p' := 135) rfl rfl ?_
  refine E_ret rfl rfl ?_
  refine E_s (p' := 6) (st' := aA 61 :: _) rfl rfl ?_
  refine E_s (p' := 7) (st' := aI 15 :: _) rfl rfl ?_
  refine E_callL (p' := 10) (L0 := [some (aA 61), some (aI 15), none]) rfl rfl rfl ?_
  refine E_s (p' := 1) (st' := aA 61 :: _) rfl rfl ?_
  refine E_s (p' := 2) (st' := aI 0 :: _) rfl rfl ?_
  refine E_stM (p' := 5) (m' := up2 _ 61 12 0) rfl rfl ?_
  refine E_s (p' := 6) (st' := aI 1 :: _) rfl rfl ?_
  refine E_s (p' := 7) (L' := [some (aA 61), some (aI 15), some (aI 1)]) rfl rfl ?_
  refine fl_loop (gp := 0) (by decide) _ 600 1 _ rfl (fun j hj => show (if 0 ≤ j ∧ j < 601 then (0 : Int) else _) = 0 from if_pos ⟨Nat.zero_le _, hj⟩) ?_
  refine E_s (p' := 11) (st' := aA 61 :: _) rfl rfl ?_
  refine E_s (p' := 14) (st' := aI 0 :: _) rfl rfl ?_
  refine E_s (p' := 17) rfl rfl ?_
  refine E_s (p' := 18) (st' := aA 61 :: _) rfl rfl ?_
  refine E_callL (p' := 21) (L0 := [some (aA 61)]) rfl rfl rfl ?_
  refine E_s (p' := 1) (st' := aA 61 :: _) rfl rfl ?_
  refine E_s (p' := 4) (st' := aA 67 :: _) rfl rfl ?_
  refine E_s (p' := 5) (st' := aA 61 :: _) rfl rfl ?_
  refine E_s (p' := 8) (st' := aI 0 :: _) rfl rfl ?_
  refine E_s (p' := 15) rfl rfl ?_
  refine E_s (p' := 16) (st' := aI 0 :: _) rfl rfl ?_
  refine E_call rfl rfl ?_
  refine c_fill rfl rfl ?_
  refine E_s (p' := 20) (st' := aA 61 :: _) rfl rfl ?_
  refine E_s (p' := 23) (st' := aA 68 :: _) rfl rfl ?_
  refine E_s (p' := 24) (st' := aI 0 :: _) rfl rfl ?_
  refine E_call rfl rfl ?_
  refine c_fill rfl rfl ?_
  refine E_s (p' := 28) (st' := aA 61 :: _) rfl rfl ?_
  refine E_s (p' := 31) (st' := aA 69 :: _) rfl rfl ?_
  refine E_s (p' := 32) (st' := aI 0 :: _) rfl rfl ?_
  refine E_call rfl rfl ?_
  refine c_fill rfl rfl ?_
  refine E_ret rfl rfl ?_
  refine E_ret rfl rfl ?_
  refine E_s (p' := 23) (st' := aA 46 :: _) rfl rfl ?_
  refine E_s (p' := 24) (st' := aI 1 :: _) rfl rfl ?_
  refine E_stM (p' := 27) (m' := up2 _ 46 7 1) rfl rfl ?_
  refine E_s (p' := 28) (st' := aA 46 :: _) rfl rfl ?_
  refine E_s (p' := 31) (st' := aA 61 :: _) rfl rfl ?_
  refine E_ret rfl rfl ?_
  refine E_s (p' := 15) rfl rfl ?_
  refine E_s (p' := 16) (st' := aA 46 :: _) rfl rfl ?_
  refine E_ret rfl rfl ?_
  refine E_s (p' := 7) (L' := [some (aA 1), some (aI 1), some (aI a2), some (aI a3), some (aA 46), none]) rfl rfl ?_
  refine E_s (p' := 9) (st' := aA 46 :: _) rfl rfl ?_
  refine E_s (p' := 12) rfl rfl ?_
  refine E_s (p' := 14) (st' := aA 46 :: _) rfl rfl ?_
  refine E_s (p' := 17) (st' := aA 47 :: _) rfl rfl ?_
  refine E_s (p' := 18) rfl rfl ?_
  refine E_callL (p' := 21) (L0 := [some (aA 47), some (aI a2)]) rfl rfl rfl ?_
  refine E_s (p' := 1) rfl rfl ?_
  refine E_if_lt rfl (by decide) (fun _ => ?_) (fun _ => ?_)
  · refine E_s (p' := 17) (st' := aI 0 :: _) rfl rfl ?_
    refine E_ret rfl rfl ?_
    refine E_s (p' := 34) rfl rfl ?_
    refine E_s (p' := 36) (st' := aI (-2) :: _) rfl rfl ?_
    refine E_ret rfl rfl ?_
    refine E_s (p' := 435) (st' := aA 124 :: _) rfl rfl ?_
    refine E_s (p' := 436) (st' := aA 0 :: _) rfl rfl ?_
    refine E_s (p' := 437) (st' := aI 0 :: _) rfl rfl ?_
    refine E_s (p' := 438) (st' := aI 1 :: _) rfl rfl ?_
    refine E_s (p' := 439) (st' := aI 1 :: _) rfl rfl ?_
    refine E_scr rfl rfl h1 ?_
    refine E_s (p' := 441) (st' := aA 0 :: _) rfl rfl ?_
    refine E_s (p' := 442) (st' := aI 0 :: _) rfl rfl ?_
    refine E_s (p' := 443) (st' := aI 2 :: _) rfl rfl ?_
    refine E_s (p' := 444) (st' := aI 2 :: _) rfl rfl ?_
    refine E_scr rfl rfl h2 ?_
    refine E_s (p' := 446) (st' := aA 0 :: _) rfl rfl ?_
    refine E_s (p' := 447) (st' := aI 0 :: _) rfl rfl ?_
    refine E_s (p' := 448) (st' := aI 3 :: _) rfl rfl ?_
    refine E_s (p' := 449) (st' := aI 3 :: _) rfl rfl ?_
    refine E_scr rfl rfl h3 ?_
    refine E_callL (p' := 453) (L0 := [some (aA 124), some (aI 1), some (aI a2), some (aI a3), none, none, none, none]) rfl rfl rfl ?_
    refine E_s (p' := 1) (st' := aA 124 :: _) rfl rfl ?_
    refine E_s (p' := 2) (st' := aI 1 :: _) rfl rfl ?_
    refine E_s (p' := 3) rfl rfl ?_
    refine E_callL (p' := 6) (L0 := [some (aA 124), some (aI 1), some (aI a2)]) rfl rfl rfl ?_
    refine E_s (p' := 1) (st' := aI 1 :: _) rfl rfl ?_
    refine E_callL (p' := 4) (L0 := [some (aI 1)]) rfl rfl rfl ?_
    refine E_s (p' := 1) (st' := aI 1 :: _) rfl rfl ?_
    refine E_s (p' := 2) (st' := aI 0 :: _) rfl rfl ?_
    refine E_s (p' := 3) (st' := aI 3 :: _) rfl rfl ?_
    refine E_callL (p' := 6) (L0 := [some (aI 1), some (aI 0), some (aI 3)]) rfl rfl rfl ?_
    refine E_s (p' := 1) (st' := aI 1 :: _) rfl rfl ?_
    refine E_s (p' := 2) (st' := aI 0 :: _) rfl rfl ?_
    refine E_s (p' := 5) rfl rfl ?_
    refine E_s (p' := 6) (st' := aI 1 :: _) rfl rfl ?_
    refine E_s (p' := 7) (st' := aI 3 :: _) rfl rfl ?_
    refine E_s (p' := 10) rfl rfl ?_
    refine E_s (p' := 11) (st' := aI 1 :: _) rfl rfl ?_
    refine E_s (p' := 15) rfl rfl ?_
    refine E_ret rfl rfl ?_
    refine E_ret rfl rfl ?_
    refine E_s (p' := 7) rfl rfl ?_
    refine E_s (p' := 8) rfl rfl ?_
    refine E_s (p' := 9) (st' := aI 0 :: _) rfl rfl ?_
    refine E_s (p' := 10) (st' := aA 124 :: _) rfl rfl ?_
    refine E_s (p' := 13) (st' := aA 125 :: _) rfl rfl ?_
    refine E_s (p' := 14) (st' := aI 1 :: _) rfl rfl ?_
    refine E_s (p' := 15) (st' := aI 0 :: _) rfl rfl ?_
    refine E_s (p' := 16) (st' := aI 1 :: _) rfl rfl ?_
    refine E_isubv (v := -1) rfl (show (0 : Int) - 1 = -1 from rfl) (by decide) ?_
    refine E_callL (p' := 20) (L0 := [some (aI a2), some (aI 0), some (aI (-1))]) rfl rfl rfl ?_
    refine E_s (p' := 1) rfl rfl ?_
    refine E_s (p' := 2) (st' := aI 0 :: _) rfl rfl ?_
    refine E_icmp_lt (y := 0) rfl (by decide) (fun _ => ?_) (fun q => absurd q (by omega))
    refine E_s (p' := 15) (st' := aI 0 :: _) rfl rfl ?_
    refine E_ret rfl rfl ?_
    refine E_s (p' := 27) rfl rfl ?_
    refine E_s (p' := 28) (st' := aI 0 :: _) rfl rfl ?_
    refine E_ret rfl rfl ?_
    refine E_s (p' := 19) rfl rfl ?_
    refine E_s (p' := 21) (st' := aI (-2) :: _) rfl rfl ?_
    refine E_ret rfl rfl ?_
    refine E_s (p' := 1174) rfl rfl ?_
    refine E_s (p' := 1177) (L' := [some (aA 0), some (aA 1), some (aA 124), some (aI 6)]) rfl rfl ?_
    refine E_s (p' := 18) rfl rfl ?_
    refine E_s (p' := 19) (st' := aI 6 :: _) rfl rfl ?_
    refine E_s (p' := 20) (st' := aA 0 :: _) rfl rfl ?_
    refine E_s (p' := 21) (st' := aI 6 :: _) rfl rfl ?_
    refine E_s (p' := 23) (st' := aI 6 :: _) rfl rfl ?_
    refine E_s (p' := 24) (st' := aI 0 :: _) rfl rfl ?_
    refine E_s (p' := 1180) rfl rfl ?_
    refine E_s (p' := 1181) (st' := aI 1 :: _) rfl rfl ?_
    exact E_ret rfl rfl ⟨rfl, rfl⟩
  · refine E_s (p' := 5) rfl rfl ?_
    refine E_s (p' := 6) (st' := aA 47 :: _) rfl rfl ?_
    refine E_s (p' := 9) (st' := aI 0 :: _) rfl rfl ?_
    refine E_icmp_ge (y := 0) rfl (by decide) (fun _ => ?_) (fun q => absurd q (by omega))
    refine E_s (p' := 17) (st' := aI 0 :: _) rfl rfl ?_
    refine E_ret rfl rfl ?_
    refine E_s (p' := 34) rfl rfl ?_
    refine E_s (p' := 36) (st' := aI (-2) :: _) rfl rfl ?_
    refine E_ret rfl rfl ?_
    refine E_s (p' := 435) (st' := aA 124 :: _) rfl rfl ?_
    refine E_s (p' := 436) (st' := aA 0 :: _) rfl rfl ?_
    refine E_s (p' := 437) (st' := aI 0 :: _) rfl rfl ?_
    refine E_s (p' := 438) (st' := aI 1 :: _) rfl rfl ?_
    refine E_s (p' := 439) (st' := aI 1 :: _) rfl rfl ?_
    refine E_scr rfl rfl h1 ?_
    refine E_s (p' := 441) (st' := aA 0 :: _) rfl rfl ?_
    refine E_s (p' := 442) (st' := aI 0 :: _) rfl rfl ?_
    refine E_s (p' := 443) (st' := aI 2 :: _) rfl rfl ?_
    refine E_s (p' := 444) (st' := aI 2 :: _) rfl rfl ?_
    refine E_scr rfl rfl h2 ?_
    refine E_s (p' := 446) (st' := aA 0 :: _) rfl rfl ?_
    refine E_s (p' := 447) (st' := aI 0 :: _) rfl rfl ?_
    refine E_s (p' := 448) (st' := aI 3 :: _) rfl rfl ?_
    refine E_s (p' := 449) (st' := aI 3 :: _) rfl rfl ?_
    refine E_scr rfl rfl h3 ?_
    refine E_callL (p' := 453) (L0 := [some (aA 124), some (aI 1), some (aI a2), some (aI a3), none, none, none, none]) rfl rfl rfl ?_
    refine E_s (p' := 1) (st' := aA 124 :: _) rfl rfl ?_
    refine E_s (p' := 2) (st' := aI 1 :: _) rfl rfl ?_
    refine E_s (p' := 3) rfl rfl ?_
    refine E_callL (p' := 6) (L0 := [some (aA 124), some (aI 1), some (aI a2)]) rfl rfl rfl ?_
    refine E_s (p' := 1) (st' := aI 1 :: _) rfl rfl ?_
    refine E_callL (p' := 4) (L0 := [some (aI 1)]) rfl rfl rfl ?_
    refine E_s (p' := 1) (st' := aI 1 :: _) rfl rfl ?_
    refine E_s (p' := 2) (st' := aI 0 :: _) rfl rfl ?_
    refine E_s (p' := 3) (st' := aI 3 :: _) rfl rfl ?_
    refine E_callL (p' := 6) (L0 := [some (aI 1), some (aI 0), some (aI 3)]) rfl rfl rfl ?_
    refine E_s (p' := 1) (st' := aI 1 :: _) rfl rfl ?_
    refine E_s (p' := 2) (st' := aI 0 :: _) rfl rfl ?_
    refine E_s (p' := 5) rfl rfl ?_
    refine E_s (p' := 6) (st' := aI 1 :: _) rfl rfl ?_
    refine E_s (p' := 7) (st' := aI 3 :: _) rfl rfl ?_
    refine E_s (p' := 10) rfl rfl ?_
    refine E_s (p' := 11) (st' := aI 1 :: _) rfl rfl ?_
    refine E_s (p' := 15) rfl rfl ?_
    refine E_ret rfl rfl ?_
    refine E_ret rfl rfl ?_
    refine E_s (p' := 7) rfl rfl ?_
    refine E_s (p' := 8) rfl rfl ?_
    refine E_s (p' := 9) (st' := aI 0 :: _) rfl rfl ?_
    refine E_s (p' := 10) (st' := aA 124 :: _) rfl rfl ?_
    refine E_s (p' := 13) (st' := aA 125 :: _) rfl rfl ?_
    refine E_s (p' := 14) (st' := aI 1 :: _) rfl rfl ?_
    refine E_s (p' := 15) (st' := aI 0 :: _) rfl rfl ?_
    refine E_s (p' := 16) (st' := aI 1 :: _) rfl rfl ?_
    refine E_isubv (v := -1) rfl (show (0 : Int) - 1 = -1 from rfl) (by decide) ?_
    refine E_callL (p' := 20) (L0 := [some (aI a2), some (aI 0), some (aI (-1))]) rfl rfl rfl ?_
    refine E_s (p' := 1) rfl rfl ?_
    refine E_s (p' := 2) (st' := aI 0 :: _) rfl rfl ?_
    refine E_icmp_lt (y := 0) rfl (by decide) (fun q => absurd q (by omega)) (fun _ => ?_)
    refine E_s (p' := 6) rfl rfl ?_
    refine E_s (p' := 7) (st' := aI (-1) :: _) rfl rfl ?_
    refine E_icmp_gt (y := (-1)) rfl (by decide) (fun _ => ?_) (fun q => absurd q (by omega))
    refine E_s (p' := 15) (st' := aI 0 :: _) rfl rfl ?_
    refine E_ret rfl rfl ?_
    refine E_s (p' := 27) rfl rfl ?_
    refine E_s (p' := 28) (st' := aI 0 :: _) rfl rfl ?_
    refine E_ret rfl rfl ?_
    refine E_s (p' := 19) rfl rfl ?_
    refine E_s (p' := 21) (st' := aI (-2) :: _) rfl rfl ?_
    refine E_ret rfl rfl ?_
    refine E_s (p' := 1174) rfl rfl ?_
    refine E_s (p' := 1177) (L' := [some (aA 0), some (aA 1), some (aA 124), some (aI 6)]) rfl rfl ?_
    refine E_s (p' := 18) rfl rfl ?_
    refine E_s (p' := 19) (st' := aI 6 :: _) rfl rfl ?_
    refine E_s (p' := 20) (st' := aA 0 :: _) rfl rfl ?_
    refine E_s (p' := 21) (st' := aI 6 :: _) rfl rfl ?_
    refine E_s (p' := 23) (st' := aI 6 :: _) rfl rfl ?_
    refine E_s (p' := 24) (st' := aI 0 :: _) rfl rfl ?_
    refine E_s (p' := 1180) rfl rfl ?_
    refine E_s (p' := 1181) (st' := aI 1 :: _) rfl rfl ?_
    exact E_ret rfl rfl ⟨rfl, rfl⟩
set_option maxRecDepth 100000 in
set_option maxHeartbeats 40000000 in
theorem pc_5_2 (xs : Nat → Int) {z a2 a3 a4 a5 : Int} (hz : b32 (fun a b => a &&& b) z 31 = 5) (h0 : xs 0 = z) (h1 : xs 1 = 2) (h2 : xs 2 = a2) (h3 : xs 3 = a3) (h4 : xs 4 = a4) (h5 : xs 5 = a5) : E 0 18 LL [] (s0 xs 6) PQ := by
  refine E_s (p' := 19) (st' := aI 0 :: _) rfl rfl ?_
  refine E_s (p' := 20) (st' := aA 0 :: _) rfl rfl ?_
  refine E_s (p' := 21) (st' := aI 6 :: _) rfl rfl ?_
  refine E_s (p' := 23) (st' := aI 6 :: _) rfl rfl ?_
  refine E_s (p' := 24) (st' := aI 0 :: _) rfl rfl ?_
  refine E_s (p' := 27) rfl rfl ?_
  refine E_s (p' := 28) (st' := aA 0 :: _) rfl rfl ?_
  refine E_s (p' := 29) (st' := aI 0 :: _) rfl rfl ?_
  refine E_scr rfl rfl h0 ?_
  refine E_s (p' := 32) (st' := aI 31 :: _) rfl rfl ?_
  refine E_s (p' := 33) rfl rfl ?_
  refine E_val hz ?_
  refine E_s (p' := 415) rfl rfl ?_
  refine E_s (p' := 416) (st' := aA 1 :: _) rfl rfl ?_
  refine E_s (p' := 417) (st' := aA 0 :: _) rfl rfl ?_
  refine E_s (p' := 418) (st' := aI 0 :: _) rfl rfl ?_
  refine E_s (p' := 419) (st' := aI 1 :: _) rfl rfl ?_
  refine E_s (p' := 420) (st' := aI 1 :: _) rfl rfl ?_
  refine E_scr rfl rfl h1 ?_
  refine E_s (p' := 422) (st' := aA 0 :: _) rfl rfl ?_
  refine E_s (p' := 423) (st' := aI 0 :: _) rfl rfl ?_
  refine E_s (p' := 424) (st' := aI 2 :: _) rfl rfl ?_
  refine E_s (p' := 425) (st' := aI 2 :: _) rfl rfl ?_
  refine E_scr rfl rfl h2 ?_
  refine E_s (p' := 427) (st' := aA 0 :: _) rfl rfl ?_
  refine E_s (p' := 428) (st' := aI 0 :: _) rfl rfl ?_
  refine E_s (p' := 429) (st' := aI 3 :: _) rfl rfl ?_
  refine E_s (p' := 430) (st' := aI 3 :: _) rfl rfl ?_
  refine E_scr rfl rfl h3 ?_
  refine E_callL (p' := 434) (L0 := [some (aA 1), some (aI 2), some (aI a2), some (aI a3), none, none]) rfl rfl rfl ?_
  refine E_s (p' := 1) (st' := aA 1 :: _) rfl rfl ?_
  refine E_s (p' := 2) (st' := aI 2 :: _) rfl rfl ?_
  refine E_callL (p' := 5) (L0 := [some (aA 1), some (aI 2), none]) rfl rfl rfl ?_
  refine E_s (p' := 1) (st' := aA 1 :: _) rfl rfl ?_
  refine E_s (p' := 2) (st' := aI 2 :: _) rfl rfl ?_
  refine E_callL (p' := 5) (L0 := [some (aA 1), some (aI 2)]) rfl rfl rfl ?_
  refine E_s (p' := 1) (st' := aI 2 :: _) rfl rfl ?_
  refine E_s (p' := 4) rfl rfl ?_
  refine E_s (p' := 5) (st' := aI 2 :: _) rfl rfl ?_
  refine E_s (p' := 6) (st' := aI 4 :: _) rfl rfl ?_
  refine E_s (p' := 9) rfl rfl ?_
  refine E_s (p' := 10) (st' := aA 1 :: _) rfl rfl ?_
  refine E_s (p' := 13) (st' := aA 2 :: _) rfl rfl ?_
  refine E_s (p' := 14) (st' := aI 2 :: _) rfl rfl ?_
  refine E_s (p' := 15) (st' := aA 72 :: _) rfl rfl ?_
  refine E_s (p' := 19) rfl rfl ?_
  refine E_ret rfl rfl ?_
  refine E_s (p' := 6) (L' := [some (aA 1), some (aI 2), some (aA 72)]) rfl rfl ?_
  refine E_s (p' := 7) (st' := aA 72 :: _) rfl rfl ?_
  refine E_s (p' := 10) rfl rfl ?_
  refine E_s (p' := 11) (st' := aA 72 :: _) rfl rfl ?_
  refine E_callL (p' := 14) (L0 := [some (aA 72)]) rfl rfl rfl ?_
  refine E_s (p' := 1) (st' := aA 72 :: _) rfl rfl ?_
  refine E_s (p' := 4) (st' := aI 0 :: _) rfl rfl ?_
  refine E_s (p' := 7) rfl rfl ?_
  refine E_s (p' := 8) (st' := aA 72 :: _) rfl rfl ?_
  refine E_s (p' := 11) (st' := aA 87 :: _) rfl rfl ?_
  refine E_s (p' := 12) (st' := aA 72 :: _) rfl rfl ?_
  refine E_s (p' := 15) (st' := aA 73 :: _) rfl rfl ?_
  refine E_s (p' := 16) (st' := aA 72 :: _) rfl rfl ?_
  refine E_s (p' := 19) (st' := aI 15 :: _) rfl rfl ?_
  refine E_callL (p' := 22) (L0 := [some (aA 87), some (aA 73), some (aI 15), none]) rfl rfl rfl ?_
  refine E_s (p' := 1) (st' := aA 87 :: _) rfl rfl ?_
  refine E_s (p' := 2) (st' := aA 73 :: _) rfl rfl ?_
  refine E_callL (p' := 5) (L0 := [some (aA 87), some (aA 73), none, none]) rfl rfl rfl ?_
  refine E_s (p' := 1) (st' := aA 87 :: _) rfl rfl ?_
  refine E_s (p' := 4) (st' := aA 96 :: _) rfl rfl ?_
  refine E_s (p' := 5) (st' := aI 0 :: _) rfl rfl ?_
  refine E_call rfl rfl ?_
  refine c_fill rfl rfl ?_
  refine E_s (p' := 9) (st' := aA 87 :: _) rfl rfl ?_
  refine E_s (p' := 12) (st' := aA 92 :: _) rfl rfl ?_
  refine E_s (p' := 13) (st' := aI 0 :: _) rfl rfl ?_
  refine E_call rfl rfl ?_
  refine c_fill rfl rfl ?_
  refine E_s (p' := 17) (st' := aA 87 :: _) rfl rfl ?_
  refine E_s (p' := 18) (st' := aI 0 :: _) rfl rfl ?_
  refine E_stM (p' := 21) (m' := up2 _ 87 10 0) rfl rfl ?_
  refine E_s (p' := 22) (st' := aA 87 :: _) rfl rfl ?_
  refine E_s (p' := 23) (st' := aI 0 :: _) rfl rfl ?_
  refine E_stM (p' := 26) (m' := up2 _ 87 11 0) rfl rfl ?_
  refine E_s (p' := 27) (st' := aI 0 :: _) rfl rfl ?_
  refine E_s (p' := 28) (L' := [some (aA 87), some (aA 73), some (aI 0), none]) rfl rfl ?_
  refine E_s (p' := 29) (st' := aI 0 :: _) rfl rfl ?_
  refine E_s (p' := 30) (st' := aA 73 :: _) rfl rfl ?_
  refine E_s (p' := 33) (st' := aI 0 :: _) rfl rfl ?_
  refine E_s (p' := 135) rfl rfl ?_
  refine E_ret rfl rfl ?_
  refine E_s (p' := 6) (st' := aA 87 :: _) rfl rfl ?_
  refine E_s (p' := 7) (st' := aI 15 :: _) rfl rfl ?_
  refine E_callL (p' := 10) (L0 := [some (aA 87), some (aI 15), none]) rfl rfl rfl ?_
  refine E_s (p' := 1) (st' := aA 87 :: _) rfl rfl ?_
  refine E_s (p' := 2) (st' := aI 0 :: _) rfl rfl ?_
  refine E_stM (p' := 5) (m' := up2 _ 87 12 0) rfl rfl ?_
  refine E_s (p' := 6) (st' := aI 1 :: _) rfl rfl ?_
  refine E_s (p' := 7) (L' := [some (aA 87), some (aI 15), some (aI 1)]) rfl rfl ?_
  refine fl_loop (gp := 0) (by decide) _ 600 1 _ rfl (fun j hj => show (if 0 ≤ j ∧ j < 601 then (0 : Int) else _) = 0 from if_pos ⟨Nat.zero_le _, hj⟩) ?_
  refine E_s (p' := 11) (st' := aA 87 :: _) rfl rfl ?_
  refine E_s (p' := 14) (st' := aI 0 :: _) rfl rfl ?_
  refine E_s (p' := 17) rfl rfl ?_
  refine E_s (p' := 18) (st' := aA 87 :: _) rfl rfl ?_
  refine E_callL (p' := 21) (L0 := [some (aA 87)]) rfl rfl rfl ?_
  refine E_s (p' := 1) (st' := aA 87 :: _) rfl rfl ?_
  refine E_s (p' := 4) (st' := aA 93 :: _) rfl rfl ?_
  refine E_s (p' := 5) (st' := aA 87 :: _) rfl rfl ?_
  refine E_s (p' := 8) (st' := aI 0 :: _) rfl rfl ?_
  refine E_s (p' := 15) rfl rfl ?_
  refine E_s (p' := 16) (st' := aI 0 :: _) rfl rfl ?_
  refine E_call rfl rfl ?_
  refine c_fill rfl rfl ?_
  refine E_s (p' := 20) (st' := aA 87 :: _) rfl rfl ?_
  refine E_s (p' := 23) (st' := aA 94 :: _) rfl rfl ?_
  refine E_s (p' := 24) (st' := aI 0 :: _) rfl rfl ?_
  refine E_call rfl rfl ?_
  refine c_fill rfl rfl ?_
  refine E_s (p' := 28) (st' := aA 87 :: _) rfl rfl ?_
  refine E_s (p' := 31) (st' := aA 95 :: _) rfl rfl ?_
  refine E_s (p' := 32) (st' := aI 0 :: _) rfl rfl ?_
  refine E_call rfl rfl ?_
  refine c_fill rfl rfl ?_
  refine E_ret rfl rfl ?_
  refine E_ret rfl rfl ?_
  refine E_s (p' := 23) (st' := aA 72 :: _) rfl rfl ?_
  refine E_s (p' := 24) (st' := aI 1 :: _) rfl rfl ?_
  refine E_stM (p' := 27) (m' := up2 _ 72 7 1) rfl rfl ?_
  refine E_s (p' := 28) (st' := aA 72 :: _) rfl rfl ?_
  refine E_s (p' := 31) (st' := aA 87 :: _) rfl rfl ?_
  refine E_ret rfl rfl ?_
  refine E_s (p' := 15) rfl rfl ?_
  refine E_s (p' := 16) (st' := aA 72 :: _) rfl rfl ?_
  refine E_ret rfl rfl ?_
  refine E_s (p' := 7) (L' := [some (aA 1), some (aI 2), some (aI a2), some (aI a3), some (aA 72), none]) rfl rfl ?_
  refine E_s (p' := 9) (st' := aA 72 :: _) rfl rfl ?_
  refine E_s (p' := 12) rfl rfl ?_
  refine E_s (p' := 14) (st' := aA 72 :: _) rfl rfl ?_
  refine E_s (p' := 17) (st' := aA 73 :: _) rfl rfl ?_
  refine E_s (p' := 18) rfl rfl ?_
  refine E_callL (p' := 21) (L0 := [some (aA 73), some (aI a2)]) rfl rfl rfl ?_
  refine E_s (p' := 1) rfl rfl ?_
  refine E_if_lt rfl (by decide) (fun _ => ?_) (fun _ => ?_)
  · refine E_s (p' := 17) (st' := aI 0 :: _) rfl rfl ?_
    refine E_ret rfl rfl ?_
    refine E_s (p' := 34) rfl rfl ?_
    refine E_s (p' := 36) (st' := aI (-2) :: _) rfl rfl ?_
    refine E_ret rfl rfl ?_
    refine E_s (p' := 435) (st' := aA 124 :: _) rfl rfl ?_
    refine E_s (p' := 436) (st' := aA 0 :: _) rfl rfl ?_
    refine E_s (p' := 437) (st' := aI 0 :: _) rfl rfl ?_
    refine E_s (p' := 438) (st' := aI 1 :: _) rfl rfl ?_
    refine E_s (p' := 439) (st' := aI 1 :: _) rfl rfl ?_
    refine E_scr rfl rfl h1 ?_
    refine E_s (p' := 441) (st' := aA 0 :: _) rfl rfl ?_
    refine E_s (p' := 442) (st' := aI 0 :: _) rfl rfl ?_
    refine E_s (p' := 443) (st' := aI 2 :: _) rfl rfl ?_
    refine E_s (p' := 444) (st' := aI 2 :: _) rfl rfl ?_
    refine E_scr rfl rfl h2 ?_
    refine E_s (p' := 446) (st' := aA 0 :: _) rfl rfl ?_
    refine E_s (p' := 447) (st' := aI 0 :: _) rfl rfl ?_
    refine E_s (p' := 448) (st' := aI 3 :: _) rfl rfl ?_
    refine E_s (p' := 449) (st' := aI 3 :: _) rfl rfl ?_
    refine E_scr rfl rfl h3 ?_
    refine E_callL (p' := 453) (L0 := [some (aA 124), some (aI 2), some (aI a2), some (aI a3), none, none, none, none]) rfl rfl rfl ?_
    refine E_s (p' := 1) (st' := aA 124 :: _) rfl rfl ?_
    refine E_s (p' := 2) (st' := aI 2 :: _) rfl rfl ?_
    refine E_s (p' := 3) rfl rfl ?_
    refine E_callL (p' := 6) (L0 := [some (aA 124), some (aI 2), some (aI a2)]) rfl rfl rfl ?_
    refine E_s (p' := 1) (st' := aI 2 :: _) rfl rfl ?_
    refine E_callL (p' := 4) (L0 := [some (aI 2)]) rfl rfl rfl ?_
    refine E_s (p' := 1) (st' := aI 2 :: _) rfl rfl ?_
    refine E_s (p' := 2) (st' := aI 0 :: _) rfl rfl ?_
    refine E_s (p' := 3) (st' := aI 3 :: _) rfl rfl ?_
    refine E_callL (p' := 6) (L0 := [some (aI 2), some (aI 0), some (aI 3)]) rfl rfl rfl ?_
    refine E_s (p' := 1) (st' := aI 2 :: _) rfl rfl ?_
    refine E_s (p' := 2) (st' := aI 0 :: _) rfl rfl ?_
    refine E_s (p' := 5) rfl rfl ?_
    refine E_s (p' := 6) (st' := aI 2 :: _) rfl rfl ?_
    refine E_s (p' := 7) (st' := aI 3 :: _) rfl rfl ?_
    refine E_s (p' := 10) rfl rfl ?_
    refine E_s (p' := 11) (st' := aI 1 :: _) rfl rfl ?_
    refine E_s (p' := 15) rfl rfl ?_
    refine E_ret rfl rfl ?_
    refine E_ret rfl rfl ?_
    refine E_s (p' := 7) rfl rfl ?_
    refine E_s (p' := 8) rfl rfl ?_
    refine E_s (p' := 9) (st' := aI 0 :: _) rfl rfl ?_
    refine E_s (p' := 10) (st' := aA 124 :: _) rfl rfl ?_
    refine E_s (p' := 13) (st' := aA 125 :: _) rfl rfl ?_
    refine E_s (p' := 14) (st' := aI 2 :: _) rfl rfl ?_
    refine E_s (p' := 15) (st' := aI 0 :: _) rfl rfl ?_
    refine E_s (p' := 16) (st' := aI 1 :: _) rfl rfl ?_
    refine E_isubv (v := -1) rfl (show (0 : Int) - 1 = -1 from rfl) (by decide) ?_
    refine E_callL (p' := 20) (L0 := [some (aI a2), some (aI 0), some (aI (-1))]) rfl rfl rfl ?_
    refine E_s (p' := 1) rfl rfl ?_
    refine E_s (p' := 2) (st' := aI 0 :: _) rfl rfl ?_
    refine E_icmp_lt (y := 0) rfl (by decide) (fun _ => ?_) (fun q => absurd q (by omega))
    refine E_s (p' := 15) (st' := aI 0 :: _) rfl rfl ?_
    refine E_ret rfl rfl ?_
    refine E_s (p' := 27) rfl rfl ?_
    refine E_s (p' := 28) (st' := aI 0 :: _) rfl rfl ?_
    refine E_ret rfl rfl ?_
    refine E_s (p' := 19) rfl rfl ?_
    refine E_s (p' := 21) (st' := aI (-2) :: _) rfl rfl ?_
    refine E_ret rfl rfl ?_
    refine E_s (p' := 1174) rfl rfl ?_
    refine E_s (p' := 1177) (L' := [some (aA 0), some (aA 1), some (aA 124), some (aI 6)]) rfl rfl ?_
    refine E_s (p' := 18) rfl rfl ?_
    refine E_s (p' := 19) (st' := aI 6 :: _) rfl rfl ?_
    refine E_s (p' := 20) (st' := aA 0 :: _) rfl rfl ?_
    refine E_s (p' := 21) (st' := aI 6 :: _) rfl rfl ?_
    refine E_s (p' := 23) (st' := aI 6 :: _) rfl rfl ?_
    refine E_s (p' := 24) (st' := aI 0 :: _) rfl rfl ?_
    refine E_s (p' := 1180) rfl rfl ?_
    refine E_s (p' := 1181) (st' := aI 1 :: _) rfl rfl ?_
    exact E_ret rfl rfl ⟨rfl, rfl⟩
  · refine E_s (p' := 5) rfl rfl ?_
    refine E_s (p' := 6) (st' := aA 73 :: _) rfl rfl ?_
    refine E_s (p' := 9) (st' := aI 0 :: _) rfl rfl ?_
    refine E_icmp_ge (y := 0) rfl (by decide) (fun _ => ?_) (fun q => absurd q (by omega))
    refine E_s (p' := 17) (st' := aI 0 :: _) rfl rfl ?_
    refine E_ret rfl rfl ?_
    refine E_s (p' := 34) rfl rfl ?_
    refine E_s (p' := 36) (st' := aI (-2) :: _) rfl rfl ?_
    refine E_ret rfl rfl ?_
    refine E_s (p' := 435) (st' := aA 124 :: _) rfl rfl ?_
    refine E_s (p' := 436) (st' := aA 0 :: _) rfl rfl ?_
    refine E_s (p' := 437) (st' := aI 0 :: _) rfl rfl ?_
    refine E_s (p' := 438) (st' := aI 1 :: _) rfl rfl ?_
    refine E_s (p' := 439) (st' := aI 1 :: _) rfl rfl ?_
    refine E_scr rfl rfl h1 ?_
    refine E_s (p' := 441) (st' := aA 0 :: _) rfl rfl ?_
    refine E_s (p' := 442) (st' := aI 0 :: _) rfl rfl ?_
    refine E_s (p' := 443) (st' := aI 2 :: _) rfl rfl ?_
    refine E_s (p' := 444) (st' := aI 2 :: _) rfl rfl ?_
    refine E_scr rfl rfl h2 ?_
    refine E_s (p' := 446) (st' := aA 0 :: _) rfl rfl ?_
    refine E_s (p' := 447) (st' := aI 0 :: _) rfl rfl ?_
    refine E_s (p' := 448) (st' := aI 3 :: _) rfl rfl ?_
    refine E_s (p' := 449) (st' := aI 3 :: _) rfl rfl ?_
    refine E_scr rfl rfl h3 ?_
    refine E_callL (p' := 453) (L0 := [some (aA 124), some (aI 2), some (aI a2), some (aI a3), none, none, none, none]) rfl rfl rfl ?_
    refine E_s (p' := 1) (st' := aA 124 :: _) rfl rfl ?_
    refine E_s (p' := 2) (st' := aI 2 :: _) rfl rfl ?_
    refine E_s (p' := 3) rfl rfl ?_
    refine E_callL (p' := 6) (L0 := [some (aA 124), some (aI 2), some (aI a2)]) rfl rfl rfl ?_
    refine E_s (p' := 1) (st' := aI 2 :: _) rfl rfl ?_
    refine E_callL (p' := 4) (L0 := [some (aI 2)]) rfl rfl rfl ?_
    refine E_s (p' := 1) (st' := aI 2 :: _) rfl rfl ?_
    refine E_s (p' := 2) (st' := aI 0 :: _) rfl rfl ?_
    refine E_s (p' := 3) (st' := aI 3 :: _) rfl rfl ?_
    refine E_callL (p' := 6) (L0 := [some (aI 2), some (aI 0), some (aI 3)]) rfl rfl rfl ?_
    refine E_s (p' := 1) (st' := aI 2 :: _) rfl rfl ?_
    refine E_s (p' := 2) (st' := aI 0 :: _) rfl rfl ?_
    refine E_s (p' := 5) rfl rfl ?_
    refine E_s (p' := 6) (st' := aI 2 :: _) rfl rfl ?_
    refine E_s (p' := 7) (st' := aI 3 :: _) rfl rfl ?_
    refine E_s (p' := 10) rfl rfl ?_
    refine E_s (p' := 11) (st' := aI 1 :: _) rfl rfl ?_
    refine E_s (p' := 15) rfl rfl ?_
    refine E_ret rfl rfl ?_
    refine E_ret rfl rfl ?_
    refine E_s (p' := 7) rfl rfl ?_
    refine E_s (p' := 8) rfl rfl ?_
    refine E_s (p' := 9) (st' := aI 0 :: _) rfl rfl ?_
    refine E_s (p' := 10) (st' := aA 124 :: _) rfl rfl ?_
    refine E_s (p' := 13) (st' := aA 125 :: _) rfl rfl ?_
    refine E_s (p' := 14) (st' := aI 2 :: _) rfl rfl ?_
    refine E_s (p' := 15) (st' := aI 0 :: _) rfl rfl ?_
    refine E_s (p' := 16) (st' := aI 1 :: _) rfl rfl ?_
    refine E_isubv (v := -1) rfl (show (0 : Int) - 1 = -1 from rfl) (by decide) ?_
    refine E_callL (p' := 20) (L0 := [some (aI a2), some (aI 0), some (aI (-1))]) rfl rfl rfl ?_
    refine E_s (p' := 1) rfl rfl ?_
    refine E_s (p' := 2) (st' := aI 0 :: _) rfl rfl ?_
    refine E_icmp_lt (y := 0) rfl (by decide) (fun q => absurd q (by omega)) (fun _ => ?_)
    refine E_s (p' := 6) rfl rfl ?_
    refine E_s (p' := 7) (st' := aI (-1) :: _) rfl rfl ?_
    refine E_icmp_gt (y := (-1)) rfl (by decide) (fun _ => ?_) (fun q => absurd q (by omega))
    refine E_s (p' := 15) (st' := aI 0 :: _) rfl rfl ?_
    refine E_ret rfl rfl ?_
    refine E_s (p' := 27) rfl rfl ?_
    refine E_s (p' := 28) (st' := aI 0 :: _) rfl rfl ?_
    refine E_ret rfl rfl ?_
    refine E_s (p' := 19) rfl rfl ?_
    refine E_s (p' := 21) (st' := aI (-2) :: _) rfl rfl ?_
    refine E_ret rfl rfl ?_
    refine E_s (p' := 1174) rfl rfl ?_
    refine E_s (p' := 1177) (L' := [some (aA 0), some (aA 1), some (aA 124), some (aI 6)]) rfl rfl ?_
    refine E_s (p' := 18) rfl rfl ?_
    refine E_s (p' := 19) (st' := aI 6 :: _) rfl rfl ?_
    refine E_s (p' := 20) (st' := aA 0 :: _) rfl rfl ?_
    refine E_s (p' := 21) (st' := aI 6 :: _) rfl rfl ?_
    refine E_s (p' := 23) (st' := aI 6 :: _) rfl rfl ?_
    refine E_s (p' := 24) (st' := aI 0 :: _) rfl rfl ?_
    refine E_s (p' := 1180) rfl rfl ?_
    refine E_s (p' := 1181) (st' := aI 1 :: _) rfl rfl ?_
    exact E_ret rfl rfl ⟨rfl, rfl⟩
set_option maxRecDepth 100000 in
set_option maxHeartbeats 40000000 in
theorem pc_5_3 (xs : Nat → Int) {z a2 a3 a4 a5 : Int} (hz : b32 (fun a b => a &&& b) z 31 = 5) (h0 : xs 0 = z) (h1 : xs 1 = 3) (h2 : xs 2 = a2) (h3 : xs 3 = a3) (h4 : xs 4 = a4) (h5 : xs 5 = a5) : E 0 18 LL [] (s0 xs 6) PQ := by
  refine E_s (p' := 19) (st' := aI 0 :: _) rfl rfl ?_
  refine E_s (p' := 20) (st' := aA 0 :: _) rfl rfl ?_
  refine E_s (p' := 21) (st' := aI 6 :: _) rfl rfl ?_
  refine E_s (p' := 23) (st' := aI 6 :: _) rfl rfl ?_
  refine E_s (p' := 24) (st' := aI 0 :: _) rfl rfl ?_
  refine E_s (p' := 27) rfl rfl ?_
  refine E_s (p' := 28) (st' := aA 0 :: _) rfl rfl ?_
  refine E_s (p' := 29) (st' := aI 0 :: _) rfl rfl ?_
  refine E_scr rfl rfl h0 ?_
  refine E_s (p' := 32) (st' := aI 31 :: _) rfl rfl ?_
  refine E_s (p' := 33) rfl rfl ?_
  refine E_val hz ?_
  refine E_s (p' := 415) rfl rfl ?_
  refine E_s (p' := 416) (st' := aA 1 :: _) rfl rfl ?_
  refine E_s (p' := 417) (st' := aA 0 :: _) rfl rfl ?_
  refine E_s (p' := 418) (st' := aI 0 :: _) rfl rfl ?_
  refine E_s (p' := 419) (st' := aI 1 :: _) rfl rfl ?_
  refine E_s (p' := 420) (st' := aI 1 :: _) rfl rfl ?_
  refine E_scr rfl rfl h1 ?_
  refine E_s (p' := 422) (st' := aA 0 :: _) rfl rfl ?_
  refine E_s (p' := 423) (st' := aI 0 :: _) rfl rfl ?_
  refine E_s (p' := 424) (st' := aI 2 :: _) rfl rfl ?_
  refine E_s (p' := 425) (st' := aI 2 :: _) rfl rfl ?_
  refine E_scr rfl rfl h2 ?_
  refine E_s (p' := 427) (st' := aA 0 :: _) rfl rfl ?_
  refine E_s (p' := 428) (st' := aI 0 :: _) rfl rfl ?_
  refine E_s (p' := 429) (st' := aI 3 :: _) rfl rfl ?_
  refine E_s (p' := 430) (st' := aI 3 :: _) rfl rfl ?_
  refine E_scr rfl rfl h3 ?_
  refine E_callL (p' := 434) (L0 := [some (aA 1), some (aI 3), some (aI a2), some (aI a3), none, none]) rfl rfl rfl ?_
  refine E_s (p' := 1) (st' := aA 1 :: _) rfl rfl ?_
  refine E_s (p' := 2) (st' := aI 3 :: _) rfl rfl ?_
  refine E_callL (p' := 5) (L0 := [some (aA 1), some (aI 3), none]) rfl rfl rfl ?_
  refine E_s (p' := 1) (st' := aA 1 :: _) rfl rfl ?_
  refine E_s (p' := 2) (st' := aI 3 :: _) rfl rfl ?_
  refine E_callL (p' := 5) (L0 := [some (aA 1), some (aI 3)]) rfl rfl rfl ?_
  refine E_s (p' := 1) (st' := aI 3 :: _) rfl rfl ?_
  refine E_s (p' := 4) rfl rfl ?_
  refine E_s (p' := 5) (st' := aI 3 :: _) rfl rfl ?_
  refine E_s (p' := 6) (st' := aI 4 :: _) rfl rfl ?_
  refine E_s (p' := 9) rfl rfl ?_
  refine E_s (p' := 10) (st' := aA 1 :: _) rfl rfl ?_
  refine E_s (p' := 13) (st' := aA 2 :: _) rfl rfl ?_
  refine E_s (p' := 14) (st' := aI 3 :: _) rfl rfl ?_
  refine E_s (p' := 15) (st' := aA 98 :: _) rfl rfl ?_
  refine E_s (p' := 19) rfl rfl ?_
  refine E_ret rfl rfl ?_
  refine E_s (p' := 6) (L' := [some (aA 1), some (aI 3), some (aA 98)]) rfl rfl ?_
  refine E_s (p' := 7) (st' := aA 98 :: _) rfl rfl ?_
  refine E_s (p' := 10) rfl rfl ?_
  refine E_s (p' := 11) (st' := aA 98 :: _) rfl rfl ?_
  refine E_callL (p' := 14) (L0 := [some (aA 98)]) rfl rfl rfl ?_
  refine E_s (p' := 1) (st' := aA 98 :: _) rfl rfl ?_
  refine E_s (p' := 4) (st' := aI 0 :: _) rfl rfl ?_
  refine E_s (p' := 7) rfl rfl ?_
  refine E_s (p' := 8) (st' := aA 98 :: _) rfl rfl ?_
  refine E_s (p' := 11) (st' := aA 113 :: _) rfl rfl ?_
  refine E_s (p' := 12) (st' := aA 98 :: _) rfl rfl ?_
  refine E_s (p' := 15) (st' := aA 99 :: _) rfl rfl ?_
  refine E_s (p' := 16) (st' := aA 98 :: _) rfl rfl ?_
  refine E_s (p' := 19) (st' := aI 15 :: _) rfl rfl ?_
  refine E_callL (p' := 22) (L0 := [some (aA 113), some (aA 99), some (aI 15), none]) rfl rfl rfl ?_
  refine E_s (p' := 1) (st' := aA 113 :: _) rfl rfl ?_
  refine E_s (p' := 2) (st' := aA 99 :: _) rfl rfl ?_
  refine E_callL (p' := 5) (L0 := [some (aA 113), some (aA 99), none, none]) rfl rfl rfl ?_
  refine E_s (p' := 1) (st' := aA 113 :: _) rfl rfl ?_
  refine E_s (p' := 4) (st' := aA 122 :: _) rfl rfl ?_
  refine E_s (p' := 5) (st' := aI 0 :: _) rfl rfl ?_
  refine E_call rfl rfl ?_
  refine c_fill rfl rfl ?_
  refine E_s (p' := 9) (st' := aA 113 :: _) rfl rfl ?_
  refine E_s (p' := 12) (st' := aA 118 :: _) rfl rfl ?_
  refine E_s (p' := 13) (st' := aI 0 :: _) rfl rfl ?_
  refine E_call rfl rfl ?_
  refine c_fill rfl rfl ?_
  refine E_s (p' := 17) (st' := aA 113 :: _) rfl rfl ?_
  refine E_s (p' := 18) (st' := aI 0 :: _) rfl rfl ?_
  refine E_stM (p' := 21) (m' := up2 _ 113 10 0) rfl rfl ?_
  refine E_s (p' := 22) (st' := aA 113 :: _) rfl rfl ?_
  refine E_s (p' := 23) (st' := aI 0 :: _) rfl rfl ?_
  refine E_stM (p' := 26) (m' := up2 _ 113 11 0) rfl rfl ?_
  refine E_s (p' := 27) (st' := aI 0 :: _) rfl rfl ?_
  refine E_s (p' := 28) (L' := [some (aA 113), some (aA 99), some (aI 0), none]) rfl rfl ?_
  refine E_s (p' := 29) (st' := aI 0 :: _) rfl rfl ?_
  refine E_s (p' := 30) (st' := aA 99 :: _) rfl rfl ?_
  refine E_s (p' := 33) (st' := aI 0 :: _) rfl rfl ?_
  refine E_s (p' := 135) rfl rfl ?_
  refine E_ret rfl rfl ?_
  refine E_s (p' := 6) (st' := aA 113 :: _) rfl rfl ?_
  refine E_s (p' := 7) (st' := aI 15 :: _) rfl rfl ?_
  refine E_callL (p' := 10) (L0 := [some (aA 113), some (aI 15), none]) rfl rfl rfl ?_
  refine E_s (p' := 1) (st' := aA 113 :: _) rfl rfl ?_
  refine E_s (p' := 2) (st' := aI 0 :: _) rfl rfl ?_
  refine E_stM (p' := 5) (m' := up2 _ 113 12 0) rfl rfl ?_
  refine E_s (p' := 6) (st' := aI 1 :: _) rfl rfl ?_
  refine E_s (p' := 7) (L' := [some (aA 113), some (aI 15), some (aI 1)]) rfl rfl ?_
  refine fl_loop (gp := 0) (by decide) _ 600 1 _ rfl (fun j hj => show (if 0 ≤ j ∧ j < 601 then (0 : Int) else _) = 0 from if_pos ⟨Nat.zero_le _, hj⟩) ?_
  refine E_s (p' := 11) (st' := aA 113 :: _) rfl rfl ?_
  refine E_s (p' := 14) (st' := aI 0 :: _) rfl rfl ?_
  refine E_s (p' := 17) rfl rfl ?_
  refine E_s (p' := 18) (st' := aA 113 :: _) rfl rfl ?_
  refine E_callL (p' := 21) (L0 := [some (aA 113)]) rfl rfl rfl ?_
  refine E_s (p' := 1) (st' := aA 113 :: _) rfl rfl ?_
  refine E_s (p' := 4) (st' := aA 119 :: _) rfl rfl ?_
  refine E_s (p' := 5) (st' := aA 113 :: _) rfl rfl ?_
  refine E_s (p' := 8) (st' := aI 0 :: _) rfl rfl ?_
  refine E_s (p' := 15) rfl rfl ?_
  refine E_s (p' := 16) (st' := aI 0 :: _) rfl rfl ?_
  refine E_call rfl rfl ?_
  refine c_fill rfl rfl ?_
  refine E_s (p' := 20) (st' := aA 113 :: _) rfl rfl ?_
  refine E_s (p' := 23) (st' := aA 120 :: _) rfl rfl ?_
  refine E_s (p' := 24) (st' := aI 0 :: _) rfl rfl ?_
  refine E_call rfl rfl ?_
  refine c_fill rfl rfl ?_
  refine E_s (p' := 28) (st' := aA 113 :: _) rfl rfl ?_
  refine E_s (p' := 31) (st' := aA 121 :: _) rfl rfl ?_
  refine E_s (p' := 32) (st' := aI 0 :: _) rfl rfl ?_
  refine E_call rfl rfl ?_
  refine c_fill rfl rfl ?_
  refine E_ret rfl rfl ?_
  refine E_ret rfl rfl ?_
  refine E_s (p' := 23) (st' := aA 98 :: _) rfl rfl ?_
  refine E_s (p' := 24) (st' := aI 1 :: _) rfl rfl ?_
  refine E_stM (p' := 27) (m' := up2 _ 98 7 1) rfl rfl ?_
  refine E_s (p' := 28) (st' := aA 98 :: _) rfl rfl ?_
  refine E_s (p' := 31) (st' := aA 113 :: _) rfl rfl ?_
  refine E_ret rfl rfl ?_
  refine E_s (p' := 15) rfl rfl ?_
  refine E_s (p' := 16) (st' := aA 98 :: _) rfl rfl ?_
  refine E_ret rfl rfl ?_
  refine E_s (p' := 7) (L' := [some (aA 1), some (aI 3), some (aI a2), some (aI a3), some (aA 98), none]) rfl rfl ?_
  refine E_s (p' := 9) (st' := aA 98 :: _) rfl rfl ?_
  refine E_s (p' := 12) rfl rfl ?_
  refine E_s (p' := 14) (st' := aA 98 :: _) rfl rfl ?_
  refine E_s (p' := 17) (st' := aA 99 :: _) rfl rfl ?_
  refine E_s (p' := 18) rfl rfl ?_
  refine E_callL (p' := 21) (L0 := [some (aA 99), some (aI a2)]) rfl rfl rfl ?_
  refine E_s (p' := 1) rfl rfl ?_
  refine E_if_lt rfl (by decide) (fun _ => ?_) (fun _ => ?_)
  · refine E_s (p' := 17) (st' := aI 0 :: _) rfl rfl ?_
    refine E_ret rfl rfl ?_
    refine E_s (p' := 34) rfl rfl ?_
    refine E_s (p' := 36) (st' := aI (-2) :: _) rfl rfl ?_
    refine E_ret rfl rfl ?_
    refine E_s (p' := 435) (st' := aA 124 :: _) rfl rfl ?_
    refine E_s (p' := 436) (st' := aA 0 :: _) rfl rfl ?_
    refine E_s (p' := 437) (st' := aI 0 :: _) rfl rfl ?_
    refine E_s (p' := 438) (st' := aI 1 :: _) rfl rfl ?_
    refine E_s (p' := 439) (st' := aI 1 :: _) rfl rfl ?_
    refine E_scr rfl rfl h1 ?_
    refine E_s (p' := 441) (st' := aA 0 :: _) rfl rfl ?_
    refine E_s (p' := 442) (st' := aI 0 :: _) rfl rfl ?_
    refine E_s (p' := 443) (st' := aI 2 :: _) rfl rfl ?_
    refine E_s (p' := 444) (st' := aI 2 :: _) rfl rfl ?_
    refine E_scr rfl rfl h2 ?_
    refine E_s (p' := 446) (st' := aA 0 :: _) rfl rfl ?_
    refine E_s (p' := 447) (st' := aI 0 :: _) rfl rfl ?_
    refine E_s (p' := 448) (st' := aI 3 :: _) rfl rfl ?_
    refine E_s (p' := 449) (st' := aI 3 :: _) rfl rfl ?_
    refine E_scr rfl rfl h3 ?_
    refine E_callL (p' := 453) (L0 := [some (aA 124), some (aI 3), some (aI a2), some (aI a3), none, none, none, none]) rfl rfl rfl ?_
    refine E_s (p' := 1) (st' := aA 124 :: _) rfl rfl ?_
    refine E_s (p' := 2) (st' := aI 3 :: _) rfl rfl ?_
    refine E_s (p' := 3) rfl rfl ?_
    refine E_callL (p' := 6) (L0 := [some (aA 124), some (aI 3), some (aI a2)]) rfl rfl rfl ?_
    refine E_s (p' := 1) (st' := aI 3 :: _) rfl rfl ?_
    refine E_callL (p' := 4) (L0 := [some (aI 3)]) rfl rfl rfl ?_
    refine E_s (p' := 1) (st' := aI 3 :: _) rfl rfl ?_
    refine E_s (p' := 2) (st' := aI 0 :: _) rfl rfl ?_
    refine E_s (p' := 3) (st' := aI 3 :: _) rfl rfl ?_
    refine E_callL (p' := 6) (L0 := [some (aI 3), some (aI 0), some (aI 3)]) rfl rfl rfl ?_
    refine E_s (p' := 1) (st' := aI 3 :: _) rfl rfl ?_
    refine E_s (p' := 2) (st' := aI 0 :: _) rfl rfl ?_
    refine E_s (p' := 5) rfl rfl ?_
    refine E_s (p' := 6) (st' := aI 3 :: _) rfl rfl ?_
    refine E_s (p' := 7) (st' := aI 3 :: _) rfl rfl ?_
    refine E_s (p' := 10) rfl rfl ?_
    refine E_s (p' := 11) (st' := aI 1 :: _) rfl rfl ?_
    refine E_s (p' := 15) rfl rfl ?_
    refine E_ret rfl rfl ?_
    refine E_ret rfl rfl ?_
    refine E_s (p' := 7) rfl rfl ?_
    refine E_s (p' := 8) rfl rfl ?_
    refine E_s (p' := 9) (st' := aI 0 :: _) rfl rfl ?_
    refine E_s (p' := 10) (st' := aA 124 :: _) rfl rfl ?_
    refine E_s (p' := 13) (st' := aA 125 :: _) rfl rfl ?_
    refine E_s (p' := 14) (st' := aI 3 :: _) rfl rfl ?_
    refine E_s (p' := 15) (st' := aI 0 :: _) rfl rfl ?_
    refine E_s (p' := 16) (st' := aI 1 :: _) rfl rfl ?_
    refine E_isubv (v := -1) rfl (show (0 : Int) - 1 = -1 from rfl) (by decide) ?_
    refine E_callL (p' := 20) (L0 := [some (aI a2), some (aI 0), some (aI (-1))]) rfl rfl rfl ?_
    refine E_s (p' := 1) rfl rfl ?_
    refine E_s (p' := 2) (st' := aI 0 :: _) rfl rfl ?_
    refine E_icmp_lt (y := 0) rfl (by decide) (fun _ => ?_) (fun q => absurd q (by omega))
    refine E_s (p' := 15) (st' := aI 0 :: _) rfl rfl ?_
    refine E_ret rfl rfl ?_
    refine E_s (p' := 27) rfl rfl ?_
    refine E_s (p' := 28) (st' := aI 0 :: _) rfl rfl ?_
    refine E_ret rfl rfl ?_
    refine E_s (p' := 19) rfl rfl ?_
    refine E_s (p' := 21) (st' := aI (-2) :: _) rfl rfl ?_
    refine E_ret rfl rfl ?_
    refine E_s (p' := 1174) rfl rfl ?_
    refine E_s (p' := 1177) (L' := [some (aA 0), some (aA 1), some (aA 124), some (aI 6)]) rfl rfl ?_
    refine E_s (p' := 18) rfl rfl ?_
    refine E_s (p' := 19) (st' := aI 6 :: _) rfl rfl ?_
    refine E_s (p' := 20) (st' := aA 0 :: _) rfl rfl ?_
    refine E_s (p' := 21) (st' := aI 6 :: _) rfl rfl ?_
    refine E_s (p' := 23) (st' := aI 6 :: _) rfl rfl ?_
    refine E_s (p' := 24) (st' := aI 0 :: _) rfl rfl ?_
    refine E_s (p' := 1180) rfl rfl ?_
    refine E_s (p' := 1181) (st' := aI 1 :: _) rfl rfl ?_
    exact E_ret rfl rfl ⟨rfl, rfl⟩
  · refine E_s (p' := 5) rfl rfl ?_
    refine E_s (p' := 6) (st' := aA 99 :: _) rfl rfl ?_
    refine E_s (p' := 9) (st' := aI 0 :: _) rfl rfl ?_
    refine E_icmp_ge (y := 0) rfl (by decide) (fun _ => ?_) (fun q => absurd q (by omega))
    refine E_s (p' := 17) (st' := aI 0 :: _) rfl rfl ?_
    refine E_ret rfl rfl ?_
    refine E_s (p' := 34) rfl rfl ?_
    refine E_s (p' := 36) (st' := aI (-2) :: _) rfl rfl ?_
    refine E_ret rfl rfl ?_
    refine E_s (p' := 435) (st' := aA 124 :: _) rfl rfl ?_
    refine E_s (p' := 436) (st' := aA 0 :: _) rfl rfl ?_
    refine E_s (p' := 437) (st' := aI 0 :: _) rfl rfl ?_
    refine E_s (p' := 438) (st' := aI 1 :: _) rfl rfl ?_
    refine E_s (p' := 439) (st' := aI 1 :: _) rfl rfl ?_
    refine E_scr rfl rfl h1 ?_
    refine E_s (p' := 441) (st' := aA 0 :: _) rfl rfl ?_
    refine E_s (p' := 442) (st' := aI 0 :: _) rfl rfl ?_
    refine E_s (p' := 443) (st' := aI 2 :: _) rfl rfl ?_
    refine E_s (p' := 444) (st' := aI 2 :: _) rfl rfl ?_
    refine E_scr rfl rfl h2 ?_
    refine E_s (p' := 446) (st' := aA 0 :: _) rfl rfl ?_
    refine E_s (p' := 447) (st' := aI 0 :: _) rfl rfl ?_
    refine E_s (p' := 448) (st' := aI 3 :: _) rfl rfl ?_
    refine E_s (p' := 449) (st' := aI 3 :: _) rfl rfl ?_
    refine E_scr rfl rfl h3 ?_
    refine E_callL (p' := 453) (L0 := [some (aA 124), some (aI 3), some (aI a2), some (aI a3), none, none, none, none]) rfl rfl rfl ?_
    refine E_s (p' := 1) (st' := aA 124 :: _) rfl rfl ?_
    refine E_s (p' := 2) (st' := aI 3 :: _) rfl rfl ?_
    refine E_s (p' := 3) rfl rfl ?_
    refine E_callL (p' := 6) (L0 := [some (aA 124), some (aI 3), some (aI a2)]) rfl rfl rfl ?_
    refine E_s (p' := 1) (st' := aI 3 :: _) rfl rfl ?_
    refine E_callL (p' := 4) (L0 := [some (aI 3)]) rfl rfl rfl ?_
    refine E_s (p' := 1) (st' := aI 3 :: _) rfl rfl ?_
    refine E_s (p' := 2) (st' := aI 0 :: _) rfl rfl ?_
    refine E_s (p' := 3) (st' := aI 3 :: _) rfl rfl ?_
    refine E_callL (p' := 6) (L0 := [some (aI 3), some (aI 0), some (aI 3)]) rfl rfl rfl ?_
    refine E_s (p' := 1) (st' := aI 3 :: _) rfl rfl ?_
    refine E_s (p' := 2) (st' := aI 0 :: _) rfl rfl ?_
    refine E_s (p' := 5) rfl rfl ?_
    refine E_s (p' := 6) (st' := aI 3 :: _) rfl rfl ?_
    refine E_s (p' := 7) (st' := aI 3 :: _) rfl rfl ?_
    refine E_s (p' := 10) rfl rfl ?_
    refine E_s (p' := 11) (st' := aI 1 :: _) rfl rfl ?_
    refine E_s (p' := 15) rfl rfl ?_
    refine E_ret rfl rfl ?_
    refine E_ret rfl rfl ?_
    refine E_s (p' := 7) rfl rfl ?_
    refine E_s (p' := 8) rfl rfl ?_
    refine E_s (p' := 9) (st' := aI 0 :: _) rfl rfl ?_
    refine E_s (p' := 10) (st' := aA 124 :: _) rfl rfl ?_
    refine E_s (p' := 13) (st' := aA 125 :: _) rfl rfl ?_
    refine E_s (p' := 14) (st' := aI 3 :: _) rfl rfl ?_
    refine E_s (p' := 15) (st' := aI 0 :: _) rfl rfl ?_
    refine E_s (p' := 16) (st' := aI 1 :: _) rfl rfl ?_
    refine E_isubv (v := -1) rfl (show (0 : Int) - 1 = -1 from rfl) (by decide) ?_
    refine E_callL (p' := 20) (L0 := [some (aI a2), some (aI 0), some (aI (-1))]) rfl rfl rfl ?_
    refine E_s (p' := 1) rfl rfl ?_
    refine E_s (p' := 2) (st' := aI 0 :: _) rfl rfl ?_
    refine E_icmp_lt (y := 0) rfl (by decide) (fun q => absurd q (by omega)) (fun _ => ?_)
    refine E_s (p' := 6) rfl rfl ?_
    refine E_s (p' := 7) (st' := aI (-1) :: _) rfl rfl ?_
    refine E_icmp_gt (y := (-1)) rfl (by decide) (fun _ => ?_) (fun q => absurd q (by omega))
    refine E_s (p' := 15) (st' := aI 0 :: _) rfl rfl ?_
    refine E_ret rfl rfl ?_
    refine E_s (p' := 27) rfl rfl ?_
    refine E_s (p' := 28) (st' := aI 0 :: _) rfl rfl ?_
    refine E_ret rfl rfl ?_
    refine E_s (p' := 19) rfl rfl ?_
    refine E_s (p' := 21) (st' := aI (-2) :: _) rfl rfl ?_
    refine E_ret rfl rfl ?_
    refine E_s (p' := 1174) rfl rfl ?_
    refine E_s (p' := 1177) (L' := [some (aA 0), some (aA 1), some (aA 124), some (aI 6)]) rfl rfl ?_
    refine E_s (p' := 18) rfl rfl ?_
    refine E_s (p' := 19) (st' := aI 6 :: _) rfl rfl ?_
    refine E_s (p' := 20) (st' := aA 0 :: _) rfl rfl ?_
    refine E_s (p' := 21) (st' := aI 6 :: _) rfl rfl ?_
    refine E_s (p' := 23) (st' := aI 6 :: _) rfl rfl ?_
    refine E_s (p' := 24) (st' := aI 0 :: _) rfl rfl ?_
    refine E_s (p' := 1180) rfl rfl ?_
    refine E_s (p' := 1181) (st' := aI 1 :: _) rfl rfl ?_
    exact E_ret rfl rfl ⟨rfl, rfl⟩
