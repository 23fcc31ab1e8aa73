set_option maxRecDepth 100000 in
set_option maxHeartbeats 40000000 in
theorem pc_5_o (xs : Nat → Int) {z a1 a2 a3 a4 a5 : Int} (hz : b32 (fun a b => a &&& b) z 31 = 5) (h0 : xs 0 = z) (h1 : xs 1 = a1) (h2 : xs 2 = a2) (h3 : xs 3 = a3) (h4 : xs 4 = a4) (h5 : xs 5 = a5) (hr : a1 < 0 ∨ 3 < a1) : E 0 18 LL [] (s0 xs 6) PQ := by
  refine E_s (p' := 19) (st' := aI 0 :: _) rfl rfl ?_
  refine E_s (p' := 20) (st' := aA 0 :: _) rfl rfl ?_
  refine E_s (p' := 21) (st' := aI 6 :: _) rfl rfl ?_
  refine E_s (p' := 23) (st' := aI 6 :: _) rfl rfl ?_
  refine E_s (p' := 24) (st' := aI 0 :: _) rfl rfl ?_
  refine E_s (p' := 27) rfl rfl ?_
  refine E_s (p' := 28) (st' := aA 0 :: _) rfl rfl ?_
  refine E_s (p' := 29) (st' := aI 0 :: _) rfl rfl ?_
  refine E_scr rfl rfl h0 ?_
  refine E_s (p' := 32) (st' := aI 31 :: _) rfl rfl ?_
  refine E_s (p' := 33) rfl rfl ?_
  refine E_val hz ?_
  refine E_s (p' := 415) rfl rfl ?_
  refine E_s (p' := 416) (st' := aA 1 :: _) rfl rfl ?_
  refine E_s (p' := 417) (st' := aA 0 :: _) rfl rfl ?_
  refine E_s (p' := 418) (st' := aI 0 :: _) rfl rfl ?_
  refine E_s (p' := 419) (st' := aI 1 :: _) rfl rfl ?_
  refine E_s (p' := 420) (st' := aI 1 :: _) rfl rfl ?_
  refine E_scr rfl rfl h1 ?_
  refine E_s (p' := 422) (st' := aA 0 :: _) rfl rfl ?_
  refine E_s (p' := 423) (st' := aI 0 :: _) rfl rfl ?_
  refine E_s (p' := 424) (st' := aI 2 :: _) rfl rfl ?_
  refine E_s (p' := 425) (st' := aI 2 :: _) rfl rfl ?_
  refine E_scr rfl rfl h2 ?_
  refine E_s (p' := 427) (st' := aA 0 :: _) rfl rfl ?_
  refine E_s (p' := 428) (st' := aI 0 :: _) rfl rfl ?_
  refine E_s (p' := 429) (st' := aI 3 :: _) rfl rfl ?_
  refine E_s (p' := 430) (st' := aI 3 :: _) rfl rfl ?_
  refine E_scr rfl rfl h3 ?_
  refine E_callL (p' := 434) (L0 := [some (aA 1), some (aI a1), some (aI a2), some (aI a3), none, none]) rfl rfl rfl ?_
  refine E_s (p' := 1) (st' := aA 1 :: _) rfl rfl ?_
  refine E_s (p' := 2) rfl rfl ?_
  refine E_callL (p' := 5) (L0 := [some (aA 1), some (aI a1), none]) rfl rfl rfl ?_
  refine E_s (p' := 1) (st' := aA 1 :: _) rfl rfl ?_
  refine E_s (p' := 2) rfl rfl ?_
  refine E_callL (p' := 5) (L0 := [some (aA 1), some (aI a1)]) rfl rfl rfl ?_
  refine E_s (p' := 1) rfl rfl ?_
  refine E_if_lt rfl (by decide) (fun _ => ?_) (fun _ => ?_)
  · refine E_s (p' := 19) rfl rfl ?_
    refine E_ret rfl rfl ?_
    refine E_s (p' := 6) (L' := [some (aA 1), some (aI a1), some aN]) rfl rfl ?_
    refine E_s (p' := 7) rfl rfl ?_
    refine E_s (p' := 15) rfl rfl ?_
    refine E_s (p' := 16) rfl rfl ?_
    refine E_ret rfl rfl ?_
    refine E_s (p' := 7) (L' := [some (aA 1), some (aI a1), some (aI a2), some (aI a3), some aN, none]) rfl rfl ?_
    refine E_s (p' := 9) rfl rfl ?_
    refine E_s (p' := 34) rfl rfl ?_
    refine E_s (p' := 36) (st' := aI (-2) :: _) rfl rfl ?_
    refine E_ret rfl rfl ?_
    refine E_s (p' := 435) (st' := aA 124 :: _) rfl rfl ?_
    refine E_s (p' := 436) (st' := aA 0 :: _) rfl rfl ?_
    refine E_s (p' := 437) (st' := aI 0 :: _) rfl rfl ?_
    refine E_s (p' := 438) (st' := aI 1 :: _) rfl rfl ?_
    refine E_s (p' := 439) (st' := aI 1 :: _) rfl rfl ?_
    refine E_scr rfl rfl h1 ?_
    refine E_s (p' := 441) (st' := aA 0 :: _) rfl rfl ?_
    refine E_s (p' := 442) (st' := aI 0 :: _) rfl rfl ?_
    refine E_s (p' := 443) (st' := aI 2 :: _) rfl rfl ?_
    refine E_s (p' := 444) (st' := aI 2 :: _) rfl rfl ?_
    refine E_scr rfl rfl h2 ?_
    refine E_s (p' := 446) (st' := aA 0 :: _) rfl rfl ?_
    refine E_s (p' := 447) (st' := aI 0 :: _) rfl rfl ?_
    refine E_s (p' := 448) (st' := aI 3 :: _) rfl rfl ?_
    refine E_s (p' := 449) (st' := aI 3 :: _) rfl rfl ?_
    refine E_scr rfl rfl h3 ?_
    refine E_callL (p' := 453) (L0 := [some (aA 124), some (aI a1), some (aI a2), some (aI a3), none, none, none, none]) rfl rfl rfl ?_
    refine E_s (p' := 1) (st' := aA 124 :: _) rfl rfl ?_
    refine E_s (p' := 2) rfl rfl ?_
    refine E_s (p' := 3) rfl rfl ?_
    refine E_callL (p' := 6) (L0 := [some (aA 124), some (aI a1), some (aI a2)]) rfl rfl rfl ?_
    refine E_s (p' := 1) rfl rfl ?_
    refine E_callL (p' := 4) (L0 := [some (aI a1)]) rfl rfl rfl ?_
    refine E_s (p' := 1) rfl rfl ?_
    refine E_s (p' := 2) (st' := aI 0 :: _) rfl rfl ?_
    refine E_s (p' := 3) (st' := aI 3 :: _) rfl rfl ?_
    refine E_callL (p' := 6) (L0 := [some (aI a1), some (aI 0), some (aI 3)]) rfl rfl rfl ?_
    refine E_s (p' := 1) rfl rfl ?_
    refine E_s (p' := 2) (st' := aI 0 :: _) rfl rfl ?_
    refine E_icmp_lt (y := 0) rfl (by decide) (fun _ => ?_) (fun q => absurd q (by omega))
    refine E_s (p' := 15) (st' := aI 0 :: _) rfl rfl ?_
    refine E_ret rfl rfl ?_
    refine E_ret rfl rfl ?_
    refine E_s (p' := 27) rfl rfl ?_
    refine E_s (p' := 28) (st' := aI 0 :: _) rfl rfl ?_
    refine E_ret rfl rfl ?_
    refine E_s (p' := 19) rfl rfl ?_
    refine E_s (p' := 21) (st' := aI (-2) :: _) rfl rfl ?_
    refine E_ret rfl rfl ?_
    refine E_s (p' := 1174) rfl rfl ?_
    refine E_s (p' := 1177) (L' := [some (aA 0), some (aA 1), some (aA 124), some (aI 6)]) rfl rfl ?_
    refine E_s (p' := 18) rfl rfl ?_
    refine E_s (p' := 19) (st' := aI 6 :: _) rfl rfl ?_
    refine E_s (p' := 20) (st' := aA 0 :: _) rfl rfl ?_
    refine E_s (p' := 21) (st' := aI 6 :: _) rfl rfl ?_
    refine E_s (p' := 23) (st' := aI 6 :: _) rfl rfl ?_
    refine E_s (p' := 24) (st' := aI 0 :: _) rfl rfl ?_
    refine E_s (p' := 1180) rfl rfl ?_
    refine E_s (p' := 1181) (st' := aI 1 :: _) rfl rfl ?_
    exact E_ret rfl rfl ⟨rfl, rfl⟩
  · refine E_s (p' := 5) rfl rfl ?_
    refine E_s (p' := 6) (st' := aI 4 :: _) rfl rfl ?_
    refine E_icmp_ge (y := 4) rfl (by decide) (fun _ => ?_) (fun q => absurd q (by omega))
    refine E_s (p' := 19) rfl rfl ?_
    refine E_ret rfl rfl ?_
    refine E_s (p' := 6) (L' := [some (aA 1), some (aI a1), some aN]) rfl rfl ?_
    refine E_s (p' := 7) rfl rfl ?_
    refine E_s (p' := 15) rfl rfl ?_
    refine E_s (p' := 16) rfl rfl ?_
    refine E_ret rfl rfl ?_
    refine E_s (p' := 7) (L' := [some (aA 1), some (aI a1), some (aI a2), some (aI a3), some aN, none]) rfl rfl ?_
    refine E_s (p' := 9) rfl rfl ?_
    refine E_s (p' := 34) rfl rfl ?_
    refine E_s (p' := 36) (st' := aI (-2) :: _) rfl rfl ?_
    refine E_ret rfl rfl ?_
    refine E_s (p' := 435) (st' := aA 124 :: _) rfl rfl ?_
    refine E_s (p' := 436) (st' := aA 0 :: _) rfl rfl ?_
    refine E_s (p' := 437) (st' := aI 0 :: _) rfl rfl ?_
    refine E_s (p' := 438) (st' := aI 1 :: _) rfl rfl ?_
    refine E_s (p' := 439) (st' := aI 1 :: _) rfl rfl ?_
    refine E_scr rfl rfl h1 ?_
    refine E_s (p' := 441) (st' := aA 0 :: _) rfl rfl ?_
    refine E_s (p' := 442) (st' := aI 0 :: _) rfl rfl ?_
    refine E_s (p' := 443) (st' := aI 2 :: _) rfl rfl ?_
    refine E_s (p' := 444) (st' := aI 2 :: _) rfl rfl ?_
    refine E_scr rfl rfl h2 ?_
    refine E_s (p' := 446) (st' := aA 0 :: _) rfl rfl ?_
    refine E_s (p' := 447) (st' := aI 0 :: _) rfl rfl ?_
    refine E_s (p' := 448) (st' := aI 3 :: _) rfl rfl ?_
    refine E_s (p' := 449) (st' := aI 3 :: _) rfl rfl ?_
    refine E_scr rfl rfl h3 ?_
    refine E_callL (p' := 453) (L0 := [some (aA 124), some (aI a1), some (aI a2), some (aI a3), none, none, none, none]) rfl rfl rfl ?_
    refine E_s (p' := 1) (st' := aA 124 :: _) rfl rfl ?_
    refine E_s (p' := 2) rfl rfl ?_
    refine E_s (p' := 3) rfl rfl ?_
    refine E_callL (p' := 6) (L0 := [some (aA 124), some (aI a1), some (aI a2)]) rfl rfl rfl ?_
    refine E_s (p' := 1) rfl rfl ?_
    refine E_callL (p' := 4) (L0 := [some (aI a1)]) rfl rfl rfl ?_
    refine E_s (p' := 1) rfl rfl ?_
    refine E_s (p' := 2) (st' := aI 0 :: _) rfl rfl ?_
    refine E_s (p' := 3) (st' := aI 3 :: _) rfl rfl ?_
    refine E_callL (p' := 6) (L0 := [some (aI a1), some (aI 0), some (aI 3)]) rfl rfl rfl ?_
    refine E_s (p' := 1) rfl rfl ?_
    refine E_s (p' := 2) (st' := aI 0 :: _) rfl rfl ?_
    refine E_icmp_lt (y := 0) rfl (by decide) (fun q => absurd q (by omega)) (fun _ => ?_)
    refine E_s (p' := 6) rfl rfl ?_
    refine E_s (p' := 7) (st' := aI 3 :: _) rfl rfl ?_
    refine E_icmp_gt (y := 3) rfl (by decide) (fun _ => ?_) (fun q => absurd q (by omega))
    refine E_s (p' := 15) (st' := aI 0 :: _) rfl rfl ?_
    refine E_ret rfl rfl ?_
    refine E_ret rfl rfl ?_
    refine E_s (p' := 27) rfl rfl ?_
    refine E_s (p' := 28) (st' := aI 0 :: _) rfl rfl ?_
    refine E_ret rfl rfl ?_
    refine E_s (p' := 19) rfl rfl ?_
    refine E_s (p' := 21) (st' := aI (-2) :: _) rfl rfl ?_
    refine E_ret rfl rfl ?_
    refine E_s (p' := 1174) rfl rfl ?_
    refine E_s (p' := 1177) (L' := [some (aA 0), some (aA 1), some (aA 124), some (aI 6)]) rfl rfl ?_
    refine E_s (p' := 18) rfl rfl ?_
    refine E_s (p' := 19) (st' := aI 6 :: _) rfl rfl ?_
    refine E_s (p' := 20) (st' := aA 0 :: _) rfl rfl ?_
    refine E_s (p' := 21) (st' := aI 6 :: _) rfl rfl ?_
    refine E_s (p' := 23) (st' := aI 6 :: _) rfl rfl ?_
    refine E_s (p' := 24) (st' := aI 0 :: _) rfl rfl ?_
    refine E_s (p' := 1180) rfl rfl ?_
    refine E_s (p' := 1181) (st' := aI 1 :: _) rfl rfl ?_
    exact E_ret rfl rfl ⟨rfl, rfl⟩
set_option maxRecDepth 100000 in
set_option maxHeartbeats 40000000 in
theorem pc_6_0 (xs : Nat → Int) {z a2 a3 a4 a5 : Int} (hz : b32 (fun a b => a &&& b) z 31 = 6) (h0 : xs 0 = z) (h1 : xs 1 = 0) (h2 : xs 2 = a2) (h3 : xs 3 = a3) (h4 : xs 4 = a4) (h5 : xs 5 = a5) : E 0 18 LL [] (s0 xs 6) PQ := by
  refine E_s (p' := 19) (st' := aI 0 :: _) rfl rfl ?_
  refine E_s (p' := 20) (st' := aA 0 :: _) rfl rfl ?_
  refine E_s (p' := 21) (st' := aI 6 :: _) rfl rfl ?_
  refine E_s (p' := 23) (st' := aI 6 :: _) rfl rfl ?_
  refine E_s (p' := 24) (st' := aI 0 :: _) rfl rfl ?_
  refine E_s (p' := 27) rfl rfl ?_
  refine E_s (p' := 28) (st' := aA 0 :: _) rfl rfl ?_
  refine E_s (p' := 29) (st' := aI 0 :: _) rfl rfl ?_
  refine E_scr rfl rfl h0 ?_
  refine E_s (p' := 32) (st' := aI 31 :: _) rfl rfl ?_
  refine E_s (p' := 33) rfl rfl ?_
  refine E_val hz ?_
  refine E_s (p' := 458) rfl rfl ?_
  refine E_s (p' := 459) (st' := aA 1 :: _) rfl rfl ?_
  refine E_s (p' := 460) (st' := aA 0 :: _) rfl rfl ?_
  refine E_s (p' := 461) (st' := aI 0 :: _) rfl rfl ?_
  refine E_s (p' := 462) (st' := aI 1 :: _) rfl rfl ?_
  refine E_s (p' := 463) (st' := aI 1 :: _) rfl rfl ?_
  refine E_scr rfl rfl h1 ?_
  refine E_s (p' := 465) (st' := aA 0 :: _) rfl rfl ?_
  refine E_s (p' := 466) (st' := aI 0 :: _) rfl rfl ?_
  refine E_s (p' := 467) (st' := aI 2 :: _) rfl rfl ?_
  refine E_s (p' := 468) (st' := aI 2 :: _) rfl rfl ?_
  refine E_scr rfl rfl h2 ?_
  refine E_callL (p' := 472) (L0 := [some (aA 1), some (aI 0), some (aI a2), none, none]) rfl rfl rfl ?_
  refine E_s (p' := 1) (st' := aA 1 :: _) rfl rfl ?_
  refine E_s (p' := 2) (st' := aI 0 :: _) rfl rfl ?_
  refine E_callL (p' := 5) (L0 := [some (aA 1), some (aI 0)]) rfl rfl rfl ?_
  refine E_s (p' := 1) (st' := aI 0 :: _) rfl rfl ?_
  refine E_s (p' := 4) rfl rfl ?_
  refine E_s (p' := 5) (st' := aI 0 :: _) rfl rfl ?_
  refine E_s (p' := 6) (st' := aI 4 :: _) rfl rfl ?_
  refine E_s (p' := 9) rfl rfl ?_
  refine E_s (p' := 10) (st' := aA 1 :: _) rfl rfl ?_
  refine E_s (p' := 13) (st' := aA 2 :: _) rfl rfl ?_
  refine E_s (p' := 14) (st' := aI 0 :: _) rfl rfl ?_
  refine E_s (p' := 15) (st' := aA 20 :: _) rfl rfl ?_
  refine E_s (p' := 19) rfl rfl ?_
  refine E_ret rfl rfl ?_
  refine E_s (p' := 6) (L' := [some (aA 1), some (aI 0), some (aI a2), some (aA 20), none]) rfl rfl ?_
  refine E_s (p' := 7) (st' := aA 20 :: _) rfl rfl ?_
  refine E_s (p' := 10) rfl rfl ?_
  refine E_s (p' := 11) rfl rfl ?_
  refine E_s (p' := 12) (st' := aI 1 :: _) rfl rfl ?_
  refine E_icmp_lt (y := 1) rfl (by decide) (fun _ => ?_) (fun _ => ?_)
  · refine E_s (p' := 23) (st' := aI (-2) :: _) rfl rfl ?_
    refine E_ret rfl rfl ?_
    refine E_s (p' := 473) (st' := aA 124 :: _) rfl rfl ?_
    refine E_s (p' := 474) (st' := aA 0 :: _) rfl rfl ?_
    refine E_s (p' := 475) (st' := aI 0 :: _) rfl rfl ?_
    refine E_s (p' := 476) (st' := aI 1 :: _) rfl rfl ?_
    refine E_s (p' := 477) (st' := aI 1 :: _) rfl rfl ?_
    refine E_scr rfl rfl h1 ?_
    refine E_s (p' := 479) (st' := aA 0 :: _) rfl rfl ?_
    refine E_s (p' := 480) (st' := aI 0 :: _) rfl rfl ?_
    refine E_s (p' := 481) (st' := aI 2 :: _) rfl rfl ?_
    refine E_s (p' := 482) (st' := aI 2 :: _) rfl rfl ?_
    refine E_scr rfl rfl h2 ?_
    refine E_callL (p' := 486) (L0 := [some (aA 124), some (aI 0), some (aI a2), none]) rfl rfl rfl ?_
    refine E_s (p' := 1) (st' := aI 0 :: _) rfl rfl ?_
    refine E_callL (p' := 4) (L0 := [some (aI 0)]) rfl rfl rfl ?_
    refine E_s (p' := 1) (st' := aI 0 :: _) rfl rfl ?_
    refine E_s (p' := 2) (st' := aI 0 :: _) rfl rfl ?_
    refine E_s (p' := 3) (st' := aI 3 :: _) rfl rfl ?_
    refine E_callL (p' := 6) (L0 := [some (aI 0), some (aI 0), some (aI 3)]) rfl rfl rfl ?_
    refine E_s (p' := 1) (st' := aI 0 :: _) rfl rfl ?_
    refine E_s (p' := 2) (st' := aI 0 :: _) rfl rfl ?_
    refine E_s (p' := 5) rfl rfl ?_
    refine E_s (p' := 6) (st' := aI 0 :: _) rfl rfl ?_
    refine E_s (p' := 7) (st' := aI 3 :: _) rfl rfl ?_
    refine E_s (p' := 10) rfl rfl ?_
    refine E_s (p' := 11) (st' := aI 1 :: _) rfl rfl ?_
    refine E_s (p' := 15) rfl rfl ?_
    refine E_ret rfl rfl ?_
    refine E_ret rfl rfl ?_
    refine E_s (p' := 7) rfl rfl ?_
    refine E_s (p' := 8) rfl rfl ?_
    refine E_s (p' := 9) (st' := aI 1 :: _) rfl rfl ?_
    refine E_s (p' := 11) (st' := aI 100 :: _) rfl rfl ?_
    refine E_callL (p' := 14) (L0 := [some (aI a2), some (aI 1), some (aI 100)]) rfl rfl rfl ?_
    refine E_s (p' := 1) rfl rfl ?_
    refine E_s (p' := 2) (st' := aI 1 :: _) rfl rfl ?_
    refine E_icmp_lt (y := 1) rfl (by decide) (fun _ => ?_) (fun q => absurd q (by omega))
    refine E_s (p' := 15) (st' := aI 0 :: _) rfl rfl ?_
    refine E_ret rfl rfl ?_
    refine E_s (p' := 17) rfl rfl ?_
    refine E_s (p' := 19) (st' := aI (-2) :: _) rfl rfl ?_
    refine E_ret rfl rfl ?_
    refine E_s (p' := 1174) rfl rfl ?_
    refine E_s (p' := 1177) (L' := [some (aA 0), some (aA 1), some (aA 124), some (aI 6)]) rfl rfl ?_
    refine E_s (p' := 18) rfl rfl ?_
    refine E_s (p' := 19) (st' := aI 6 :: _) rfl rfl ?_
    refine E_s (p' := 20) (st' := aA 0 :: _) rfl rfl ?_
    refine E_s (p' := 21) (st' := aI 6 :: _) rfl rfl ?_
    refine E_s (p' := 23) (st' := aI 6 :: _) rfl rfl ?_
    refine E_s (p' := 24) (st' := aI 0 :: _) rfl rfl ?_
    refine E_s (p' := 1180) rfl rfl ?_
    refine E_s (p' := 1181) (st' := aI 1 :: _) rfl rfl ?_
    exact E_ret rfl rfl ⟨rfl, rfl⟩
  · refine E_s (p' := 16) rfl rfl ?_
    refine E_s (p' := 18) (st' := aI 100 :: _) rfl rfl ?_
    refine E_icmp_le (y := 100) rfl (by decide) (fun _ => ?_) (fun _ => ?_)
    · refine E_s (p' := 25) (st' := aA 20 :: _) rfl rfl ?_
      refine E_s (p' := 28) (st' := aI 15 :: _) rfl rfl ?_
      refine E_s (p' := 30) (L' := [some (aA 1), some (aI 0), some (aI a2), some (aA 20), some (aI 15)]) rfl rfl ?_
      refine E_s (p' := 31) rfl rfl ?_
      refine E_s (p' := 33) (st' := aI 15 :: _) rfl rfl ?_
      refine E_icmp_eq (y := 15) rfl (by decide) (fun _ => ?_) (fun _ => ?_)
      · refine E_s (p' := 47) (st' := aI 15 :: _) rfl rfl ?_
        refine E_ret rfl rfl ?_
        refine E_s (p' := 473) (st' := aA 124 :: _) rfl rfl ?_
        refine E_s (p' := 474) (st' := aA 0 :: _) rfl rfl ?_
        refine E_s (p' := 475) (st' := aI 0 :: _) rfl rfl ?_
        refine E_s (p' := 476) (st' := aI 1 :: _) rfl rfl ?_
        refine E_s (p' := 477) (st' := aI 1 :: _) rfl rfl ?_
        refine E_scr rfl rfl h1 ?_
        refine E_s (p' := 479) (st' := aA 0 :: _) rfl rfl ?_
        refine E_s (p' := 480) (st' := aI 0 :: _) rfl rfl ?_
        refine E_s (p' := 481) (st' := aI 2 :: _) rfl rfl ?_
        refine E_s (p' := 482) (st' := aI 2 :: _) rfl rfl ?_
        refine E_scr rfl rfl h2 ?_
        refine E_callL (p' := 486) (L0 := [some (aA 124), some (aI 0), some (aI a2), none]) rfl rfl rfl ?_
        refine E_s (p' := 1) (st' := aI 0 :: _) rfl rfl ?_
        refine E_callL (p' := 4) (L0 := [some (aI 0)]) rfl rfl rfl ?_
        refine E_s (p' := 1) (st' := aI 0 :: _) rfl rfl ?_
        refine E_s (p' := 2) (st' := aI 0 :: _) rfl rfl ?_
        refine E_s (p' := 3) (st' := aI 3 :: _) rfl rfl ?_
        refine E_callL (p' := 6) (L0 := [some (aI 0), some (aI 0), some (aI 3)]) rfl rfl rfl ?_
        refine E_s (p' := 1) (st' := aI 0 :: _) rfl rfl ?_
        refine E_s (p' := 2) (st' := aI 0 :: _) rfl rfl ?_
        refine E_s (p' := 5) rfl rfl ?_
        refine E_s (p' := 6) (st' := aI 0 :: _) rfl rfl ?_
        refine E_s (p' := 7) (st' := aI 3 :: _) rfl rfl ?_
        refine E_s (p' := 10) rfl rfl ?_
        refine E_s (p' := 11) (st' := aI 1 :: _) rfl rfl ?_
        refine E_s (p' := 15) rfl rfl ?_
        refine E_ret rfl rfl ?_
        refine E_ret rfl rfl ?_
        refine E_s (p' := 7) rfl rfl ?_
        refine E_s (p' := 8) rfl rfl ?_
        refine E_s (p' := 9) (st' := aI 1 :: _) rfl rfl ?_
        refine E_s (p' := 11) (st' := aI 100 :: _) rfl rfl ?_
        refine E_callL (p' := 14) (L0 := [some (aI a2), some (aI 1), some (aI 100)]) rfl rfl rfl ?_
        refine E_s (p' := 1) rfl rfl ?_
        refine E_s (p' := 2) (st' := aI 1 :: _) rfl rfl ?_
        refine E_icmp_lt (y := 1) rfl (by decide) (fun q => absurd q (by omega)) (fun _ => ?_)
        refine E_s (p' := 6) rfl rfl ?_
        refine E_s (p' := 7) (st' := aI 100 :: _) rfl rfl ?_
        refine E_icmp_gt (y := 100) rfl (by decide) (fun q => absurd q (by omega)) (fun _ => ?_)
        refine E_s (p' := 11) (st' := aI 1 :: _) rfl rfl ?_
        refine E_s (p' := 15) rfl rfl ?_
        refine E_ret rfl rfl ?_
        refine E_s (p' := 20) rfl rfl ?_
        refine E_s (p' := 21) (st' := aA 124 :: _) rfl rfl ?_
        refine E_s (p' := 24) (st' := aA 126 :: _) rfl rfl ?_
        refine E_s (p' := 25) (st' := aI 0 :: _) rfl rfl ?_
        refine E_s (p' := 26) (st' := aI 15 :: _) rfl rfl ?_
        refine E_s (p' := 27) (L' := [some (aA 124), some (aI 0), some (aI a2), some (aI 15)]) rfl rfl ?_
        refine E_s (p' := 28) (st' := aA 124 :: _) rfl rfl ?_
        refine E_s (p' := 31) (st' := aA 126 :: _) rfl rfl ?_
        refine E_s (p' := 32) (st' := aI 0 :: _) rfl rfl ?_
        refine E_s (p' := 33) rfl rfl ?_
        refine E_stM (p' := 34) (m' := up2 _ 126 0 a2) rfl rfl ?_
        refine E_s (p' := 35) (st' := aA 124 :: _) rfl rfl ?_
        refine E_s (p' := 36) (st' := aI 0 :: _) rfl rfl ?_
        refine E_callL (p' := 39) (L0 := [some (aA 124), some (aI 0)]) rfl rfl rfl ?_
        refine E_s (p' := 1) (st' := aA 124 :: _) rfl rfl ?_
        refine E_s (p' := 4) (st' := aA 140 :: _) rfl rfl ?_
        refine E_s (p' := 5) (st' := aI 0 :: _) rfl rfl ?_
        refine E_s (p' := 6) (st' := aI 0 :: _) rfl rfl ?_
        refine E_stM (p' := 7) (m' := up2 _ 140 0 0) rfl rfl ?_
        refine E_ret rfl rfl ?_
        refine E_s (p' := 40) (st' := aI 15 :: _) rfl rfl ?_
        refine E_ret rfl rfl ?_
        refine E_s (p' := 1174) rfl rfl ?_
        refine E_s (p' := 1177) (L' := [some (aA 0), some (aA 1), some (aA 124), some (aI 6)]) rfl rfl ?_
        refine E_s (p' := 18) rfl rfl ?_
        refine E_s (p' := 19) (st' := aI 6 :: _) rfl rfl ?_
        refine E_s (p' := 20) (st' := aA 0 :: _) rfl rfl ?_
        refine E_s (p' := 21) (st' := aI 6 :: _) rfl rfl ?_
        refine E_s (p' := 23) (st' := aI 6 :: _) rfl rfl ?_
        refine E_s (p' := 24) (st' := aI 0 :: _) rfl rfl ?_
        refine E_s (p' := 1180) rfl rfl ?_
        refine E_s (p' := 1181) (st' := aI 1 :: _) rfl rfl ?_
        exact E_ret rfl rfl ⟨rfl, rfl⟩
      · refine E_s (p' := 37) (st' := aA 20 :: _) rfl rfl ?_
        refine E_s (p' := 38) rfl rfl ?_
        refine E_stM (p' := 41) (m' := up2 _ 20 5 a2) rfl rfl ?_
        refine E_s (p' := 42) (st' := aA 20 :: _) rfl rfl ?_
        refine E_callL (p' := 45) (L0 := [some (aA 20)]) rfl rfl rfl ?_
        refine E_s (p' := 1) (st' := aA 20 :: _) rfl rfl ?_
        refine E_s (p' := 2) (st' := aI 0 :: _) rfl rfl ?_
        refine E_stM (p' := 5) (m' := up2 _ 20 7 0) rfl rfl ?_
        refine E_s (p' := 6) (st' := aA 20 :: _) rfl rfl ?_
        refine E_s (p' := 7) (st' := aI 0 :: _) rfl rfl ?_
        refine E_stM (p' := 10) (m' := up2 _ 20 6 0) rfl rfl ?_
        refine E_ret rfl rfl ?_
        refine E_s (p' := 47) (st' := aI 15 :: _) rfl rfl ?_
        refine E_ret rfl rfl ?_
        refine E_s (p' := 473) (st' := aA 124 :: _) rfl rfl ?_
        refine E_s (p' := 474) (st' := aA 0 :: _) rfl rfl ?_
        refine E_s (p' := 475) (st' := aI 0 :: _) rfl rfl ?_
        refine E_s (p' := 476) (st' := aI 1 :: _) rfl rfl ?_
        refine E_s (p' := 477) (st' := aI 1 :: _) rfl rfl ?_
        refine E_scr rfl rfl h1 ?_
        refine E_s (p' := 479) (st' := aA 0 :: _) rfl rfl ?_
        refine E_s (p' := 480) (st' := aI 0 :: _) rfl rfl ?_
        refine E_s (p' := 481) (st' := aI 2 :: _) rfl rfl ?_
        refine E_s (p' := 482) (st' := aI 2 :: _) rfl rfl ?_
        refine E_scr rfl rfl h2 ?_
        refine E_callL (p' := 486) (L0 := [some (aA 124), some (aI 0), some (aI a2), none]) rfl rfl rfl ?_
        refine E_s (p' := 1) (st' := aI 0 :: _) rfl rfl ?_
        refine E_callL (p' := 4) (L0 := [some (aI 0)]) rfl rfl rfl ?_
        refine E_s (p' := 1) (st' := aI 0 :: _) rfl rfl ?_
        refine E_s (p' := 2) (st' := aI 0 :: _) rfl rfl ?_
        refine E_s (p' := 3) (st' := aI 3 :: _) rfl rfl ?_
        refine E_callL (p' := 6) (L0 := [some (aI 0), some (aI 0), some (aI 3)]) rfl rfl rfl ?_
        refine E_s (p' := 1) (st' := aI 0 :: _) rfl rfl ?_
        refine E_s (p' := 2) (st' := aI 0 :: _) rfl rfl ?_
        refine E_s (p' := 5) rfl rfl ?_
        refine E_s (p' := 6) (st' := aI 0 :: _) rfl rfl ?_
        refine E_s (p' := 7) (st' := aI 3 :: _) rfl rfl ?_
        refine E_s (p' := 10) rfl rfl ?_
        refine E_s (p' := 11) (st' := aI 1 :: _) rfl rfl ?_
        refine E_s (p' := 15) rfl rfl ?_
        refine E_ret rfl rfl ?_
        refine E_ret rfl rfl ?_
        refine E_s (p' := 7) rfl rfl ?_
        refine E_s (p' := 8) rfl rfl ?_
        refine E_s (p' := 9) (st' := aI 1 :: _) rfl rfl ?_
        refine E_s (p' := 11) (st' := aI 100 :: _) rfl rfl ?_
        refine E_callL (p' := 14) (L0 := [some (aI a2), some (aI 1), some (aI 100)]) rfl rfl rfl ?_
        refine E_s (p' := 1) rfl rfl ?_
        refine E_s (p' := 2) (st' := aI 1 :: _) rfl rfl ?_
        refine E_icmp_lt (y := 1) rfl (by decide) (fun q => absurd q (by omega)) (fun _ => ?_)
        refine E_s (p' := 6) rfl rfl ?_
        refine E_s (p' := 7) (st' := aI 100 :: _) rfl rfl ?_
        refine E_icmp_gt (y := 100) rfl (by decide) (fun q => absurd q (by omega)) (fun _ => ?_)
        refine E_s (p' := 11) (st' := aI 1 :: _) rfl rfl ?_
        refine E_s (p' := 15) rfl rfl ?_
        refine E_ret rfl rfl ?_
        refine E_s (p' := 20) rfl rfl ?_
        refine E_s (p' := 21) (st' := aA 124 :: _) rfl rfl ?_
        refine E_s (p' := 24) (st' := aA 126 :: _) rfl rfl ?_
        refine E_s (p' := 25) (st' := aI 0 :: _) rfl rfl ?_
        refine E_s (p' := 26) (st' := aI 15 :: _) rfl rfl ?_
        refine E_s (p' := 27) (L' := [some (aA 124), some (aI 0), some (aI a2), some (aI 15)]) rfl rfl ?_
        refine E_s (p' := 28) (st' := aA 124 :: _) rfl rfl ?_
        refine E_s (p' := 31) (st' := aA 126 :: _) rfl rfl ?_
        refine E_s (p' := 32) (st' := aI 0 :: _) rfl rfl ?_
        refine E_s (p' := 33) rfl rfl ?_
        refine E_stM (p' := 34) (m' := up2 _ 126 0 a2) rfl rfl ?_
        refine E_s (p' := 35) (st' := aA 124 :: _) rfl rfl ?_
        refine E_s (p' := 36) (st' := aI 0 :: _) rfl rfl ?_
        refine E_callL (p' := 39) (L0 := [some (aA 124), some (aI 0)]) rfl rfl rfl ?_
        refine E_s (p' := 1) (st' := aA 124 :: _) rfl rfl ?_
        refine E_s (p' := 4) (st' := aA 140 :: _) rfl rfl ?_
        refine E_s (p' := 5) (st' := aI 0 :: _) rfl rfl ?_
        refine E_s (p' := 6) (st' := aI 0 :: _) rfl rfl ?_
        refine E_stM (p' := 7) (m' := up2 _ 140 0 0) rfl rfl ?_
        refine E_ret rfl rfl ?_
        refine E_s (p' := 40) (st' := aI 15 :: _) rfl rfl ?_
        refine E_ret rfl rfl ?_
        refine E_s (p' := 1174) rfl rfl ?_
        refine E_s (p' := 1177) (L' := [some (aA 0), some (aA 1), some (aA 124), some (aI 6)]) rfl rfl ?_
        refine E_s (p' := 18) rfl rfl ?_
        refine E_s (p' := 19) (st' := aI 6 :: _) rfl rfl ?_
        refine E_s (p' := 20) (st' := aA 0 :: _) rfl rfl ?_
        refine E_s (p' := 21) (st' := aI 6 :: _) rfl rfl ?_
        refine E_s (p' := 23) (st' := aI 6 :: _) rfl rfl ?_
        refine E_s (p' := 24) (st' := aI 0 :: _) rfl rfl ?_
        refine E_s (p' := 1180) rfl rfl ?_
        refine E_s (p' := 1181) (st' := aI 1 :: _) rfl rfl ?_
        exact E_ret rfl rfl ⟨rfl, rfl⟩
    · refine E_s (p' := 23) (st' := aI (-2) :: _) rfl rfl ?_
      refine E_ret rfl rfl ?_
      refine E_s (p' := 473) (st' := aA 124 :: _) rfl rfl ?_
      refine E_s (p' := 474) (st' := aA 0 :: _) rfl rfl ?_
      refine E_s (p' := 475) (st' := aI 0 :: _) rfl rfl ?_
      refine E_s (p' := 476) (st' := aI 1 :: _) rfl rfl ?_
      refine E_s (p' := 477) (st' := aI 1 :: _) rfl rfl ?_
      refine E_scr rfl rfl h1 ?_
      refine E_s (p' := 479) (st' := aA 0 :: _) rfl rfl ?_
      refine E_s (p' := 480) (st' := aI 0 :: _) rfl rfl ?_
      refine E_s (p' := 481) (st' := aI 2 :: _) rfl rfl ?_
      refine E_s (p' := 482) (st' := aI 2 :: _) rfl rfl ?_
      refine E_scr rfl rfl h2 ?_
      refine E_callL (p' := 486) (L0 := [some (aA 124), some (aI 0), some (aI a2), none]) rfl rfl rfl ?_
      refine E_s (p' := 1) (st' := aI 0 :: _) rfl rfl ?_
      refine E_callL (p' := 4) (L0 := [some (aI 0)]) rfl rfl rfl ?_
      refine E_s (p' := 1) (st' := aI 0 :: _) rfl rfl ?_
      refine E_s (p' := 2) (st' := aI 0 :: _) rfl rfl ?_
      refine E_s (p' := 3) (st' := aI 3 :: _) rfl rfl ?_
      refine E_callL (p' := 6) (L0 := [some (aI 0), some (aI 0), some (aI 3)]) rfl rfl rfl ?_
      refine E_s (p' := 1) (st' := aI 0 :: _) rfl rfl ?_
      refine E_s (p' := 2) (st' := aI 0 :: _) rfl rfl ?_
      refine E_s (p' := 5) rfl rfl ?_
      refine E_s (p' := 6) (st' := aI 0 :: _) rfl rfl ?_
      refine E_s (p' := 7) (st' := aI 3 :: _) rfl rfl ?_
      refine E_s (p' := 10) rfl rfl ?_
      refine E_s (p' := 11) (st' := aI 1 :: _) rfl rfl ?_
      refine E_s (p' := 15) rfl rfl ?_
      refine E_ret rfl rfl ?_
      refine E_ret rfl rfl ?_
      refine E_s (p' := 7) rfl rfl ?_
      refine E_s (p' := 8) rfl rfl ?_
      refine E_s (p' := 9) (st' := aI 1 :: _) rfl rfl ?_
      refine E_s (p' := 11) (st' := aI 100 :: _) rfl rfl ?_
      refine E_callL (p' := 14) (L0 := [some (aI a2), some (aI 1), some (aI 100)]) rfl rfl rfl ?_
      refine E_s (p' := 1) rfl rfl ?_
      refine E_s (p' := 2) (st' := aI 1 :: _) rfl rfl ?_
      refine E_icmp_lt (y := 1) rfl (by decide) (fun q => absurd q (by omega)) (fun _ => ?_)
      refine E_s (p' := 6) rfl rfl ?_
      refine E_s (p' := 7) (st' := aI 100 :: _) rfl rfl ?_
      refine E_icmp_gt (y := 100) rfl (by decide) (fun _ => ?_) (fun q => absurd q (by omega))
      refine E_s (p' := 15) (st' := aI 0 :: _) rfl rfl ?_
      refine E_ret rfl rfl ?_
      refine E_s (p' := 17) rfl rfl ?_
      refine E_s (p' := 19) (st' := aI (-2) :: _) rfl rfl ?_
      refine E_ret rfl rfl ?_
      refine E_s (p' := 1174) rfl rfl ?_
      refine E_s (p' := 1177) (L' := [some (aA 0), some (aA 1), some (aA 124), some (aI 6)]) rfl rfl ?_
      refine E_s (p' := 18) rfl rfl ?_
      refine E_s (p' := 19) (st' := aI 6 :: _) rfl rfl ?_
      refine E_s (p' := 20) (st' := aA 0 :: _) rfl rfl ?_
      refine E_s (p' := 21) (st' := aI 6 :: _) rfl rfl ?_
      refine E_s (p' := 23) (st' := aI 6 :: _) rfl rfl ?_
      refine E_s (p' := 24) (st' := aI 0 :: _) rfl rfl ?_
      refine E_s (p' := 1180) rfl rfl ?_
      refine E_s (p' := 1181) (st' := aI 1 :: _) rfl rfl ?_
      exact E_ret rfl rfl ⟨rfl, rfl⟩
set_option maxRecDepth 100000 in
set_option maxHeartbeats 40000000 in
theorem pc_6_1 (xs : Nat → Int) {z a2 a3 a4 a5 : Int} (hz : b32 (fun a b => a &&& b) z 31 = 6) (h0 : xs 0 = z) (h1 : xs 1 = 1) (h2 : xs 2 = a2) (h3 : xs 3 = a3) (h4 : xs 4 = a4) (h5 : xs 5 = a5) : E 0 18 LL [] (s0 xs 6) PQ := by
  refine E_s (p' := 19) (st' := aI 0 :: _) rfl rfl ?_
  refine E_s (p' := 20) (st' := aA 0 :: _) rfl rfl ?_
  refine E_s (p' := 21) (st' := aI 6 :: _) rfl rfl ?_
  refine E_s (p' := 23) (st' := aI 6 :: _) rfl rfl ?_
  refine E_s (p' := 24) (st' := aI 0 :: _) rfl rfl ?_
  refine E_s (p' := 27) rfl rfl ?_
  refine E_s (p' := 28) (st' := aA 0 :: _) rfl rfl ?_
  refine E_s (p' := 29) (st' := aI 0 :: _) rfl rfl ?_
  refine E_scr rfl rfl h0 ?_
  refine E_s (p' := 32) (st' := aI 31 :: _) rfl rfl ?_
  refine E_s (p' := 33) rfl rfl ?_
  refine E_val hz ?_
  refine E_s (p' := 458) rfl rfl ?_
  refine E_s (p' := 459) (st' := aA 1 :: _) rfl rfl ?_
  refine E_s (p' := 460) (st' := aA 0 :: _) rfl rfl ?_
  refine E_s (p' := 461) (st' := aI 0 :: _) rfl rfl ?_
  refine E_s (p' := 462) (st' := aI 1 :: _) rfl rfl ?_
  refine E_s (p' := 463) (st' := aI 1 :: _) rfl rfl ?_
  refine E_scr rfl rfl h1 ?_
  refine E_s (p' := 465) (st' := aA 0 :: _) rfl rfl ?_
  refine E_s (p' := 466) (st' := aI 0 :: _) rfl rfl ?_
  refine E_s (p' := 467) (st' := aI 2 :: _) rfl rfl ?_
  refine E_s (p' := 468) (st' := aI 2 :: _) rfl rfl ?_
  refine E_scr rfl rfl h2 ?_
  refine E_callL (p' := 472) (L0 := [some (aA 1), some (aI 1), some (aI a2), none, none]) rfl rfl rfl ?_
  refine E_s (p' := 1) (st' := aA 1 :: _) rfl rfl ?_
  refine E_s (p' := 2) (st' := aI 1 :: _) rfl rfl ?_
  refine E_callL (p' := 5) (L0 := [some (aA 1), some (aI 1)]) rfl rfl rfl ?_
  refine E_s (p' := 1) (st' := aI 1 :: _) rfl rfl ?_
  refine E_s (p' := 4) rfl rfl ?_
  refine E_s (p' := 5) (st' := aI 1 :: _) rfl rfl ?_
  refine E_s (p' := 6) (st' := aI 4 :: _) rfl rfl ?_
  refine E_s (p' := 9) rfl rfl ?_
  refine E_s (p' := 10) (st' := aA 1 :: _) rfl rfl ?_
  refine E_s (p' := 13) (st' := aA 2 :: _) rfl rfl ?_
  refine E_s (p' := 14) (st' := aI 1 :: _) rfl rfl ?_
  refine E_s (p' := 15) (st' := aA 46 :: _) rfl rfl ?_
  refine E_s (p' := 19) rfl rfl ?_
  refine E_ret rfl rfl ?_
  refine E_s (p' := 6) (L' := [some (aA 1), some (aI 1), some (aI a2), some (aA 46), none]) rfl rfl ?_
  refine E_s (p' := 7) (st' := aA 46 :: _) rfl rfl ?_
  refine E_s (p' := 10) rfl rfl ?_
  refine E_s (p' := 11) rfl rfl ?_
  refine E_s (p' := 12) (st' := aI 1 :: _) rfl rfl ?_
  refine E_icmp_lt (y := 1) rfl (by decide) (fun _ => ?_) (fun _ => ?_)
  · refine E_s (p' := 23) (st' := aI (-2) :: _) rfl rfl ?_
    refine E_ret rfl rfl ?_
    refine E_s (p' := 473) (st' := aA 124 :: _) rfl rfl ?_
    refine E_s (p' := 474) (st' := aA 0 :: _) rfl rfl ?_
    refine E_s (p' := 475) (st' := aI 0 :: _) rfl rfl ?_
    refine E_s (p' := 476) (st' := aI 1 :: _) rfl rfl ?_
    refine E_s (p' := 477) (st' := aI 1 :: _) rfl rfl ?_
    refine E_scr rfl rfl h1 ?_
    refine E_s (p' := 479) (st' := aA 0 :: _) rfl rfl ?_
    refine E_s (p' := 480) (st' := aI 0 :: _) rfl rfl ?_
    refine E_s (p' := 481) (st' := aI 2 :: _) rfl rfl ?_
    refine E_s (p' := 482) (st' := aI 2 :: _) rfl rfl ?_
    refine E_scr rfl rfl h2 ?_
    refine E_callL (p' := 486) (L0 := [some (aA 124), some (aI 1), some (aI a2), none]) rfl rfl rfl ?_
    refine E_s (p' := 1) (st' := aI 1 :: _) rfl rfl ?_
    refine E_callL (p' := 4) (L0 := [some (aI 1)]) rfl rfl rfl ?_
    refine E_s (p' := 1) (st' := aI 1 :: _) rfl rfl ?_
    refine E_s (p' := 2) (st' := aI 0 :: _) rfl rfl ?_
    refine E_s (p' := 3) (st' := aI 3 :: _) rfl rfl ?_
    refine E_callL (p' := 6) (L0 := [some (aI 1), some (aI 0), some (aI 3)]) rfl rfl rfl ?_
    refine E_s (p' := 1) (st' := aI 1 :: _) rfl rfl ?_
    refine E_s (p' := 2) (st' := aI 0 :: _) rfl rfl ?_
    refine E_s (p' := 5) rfl rfl ?_
    refine E_s (p' := 6) (st' := aI 1 :: _) rfl rfl ?_
    refine E_s (p' := 7) (st' := aI 3 :: _) rfl rfl ?_
    refine E_s (p' := 10) rfl rfl ?_
    refine E_s (p' := 11) (st' := aI 1 :: _) rfl rfl ?_
    refine E_s (p' := 15) rfl rfl ?_
    refine E_ret rfl rfl ?_
    refine E_ret rfl rfl ?_
    refine E_s (p' := 7) rfl rfl ?_
    refine E_s (p' := 8) rfl rfl ?_
    refine E_s (p' := 9) (st' := aI 1 :: _) rfl rfl ?_
    refine E_s (p' := 11) (st' := aI 100 :: _) rfl rfl ?_
    refine E_callL (p' := 14) (L0 := [some (aI a2), some (aI 1), some (aI 100)]) rfl rfl rfl ?_
    refine E_s (p' := 1) rfl rfl ?_
    refine E_s (p' := 2) (st' := aI 1 :: _) rfl rfl ?_
    refine E_icmp_lt (y := 1) rfl (by decide) (fun _ => ?_) (fun q => absurd q (by omega))
    refine E_s (p' := 15) (st' := aI 0 :: _) rfl rfl ?_
    refine E_ret rfl rfl ?_
    refine E_s (p' := 17) rfl rfl ?_
    refine E_s (p' := 19) (st' := aI (-2) :: _) rfl rfl ?_
    refine E_ret rfl rfl ?_
    refine E_s (p' := 1174) rfl rfl ?_
    refine E_s (p' := 1177) (L' := [some (aA 0), some (aA 1), some (aA 124), some (aI 6)]) rfl rfl ?_
    refine E_s (p' := 18) rfl rfl ?_
    refine E_s (p' := 19) (st' := aI 6 :: _) rfl rfl ?_
    refine E_s (p' := 20) (st' := aA 0 :: _) rfl rfl ?_
    refine E_s (p' := 21) (st' := aI 6 :: _) rfl rfl ?_
    refine E_s (p' := 23) (st' := aI 6 :: _) rfl rfl ?_
    refine E_s (p' := 24) (st' := aI 0 :: _) rfl rfl ?_
    refine E_s (p' := 1180) rfl rfl ?_
    refine E_s (p' := 1181) (st' := aI 1 :: _) rfl rfl ?_
    exact E_ret rfl rfl ⟨rfl, rfl⟩
  · refine E_s (p' := 16) rfl rfl ?_
    refine E_s (p' := 18) (st' := aI 100 :: _) rfl rfl ?_
    refine E_icmp_le (y := 100) rfl (by decide) (fun _ => ?_) (fun _ => ?_)
    · refine E_s (p' := 25) (st' := aA 46 :: _) rfl rfl ?_
      refine E_s (p' := 28) (st' := aI 15 :: _) rfl rfl ?_
      refine E_s (p' := 30) (L' := [some (aA 1), some (aI 1), some (aI a2), some (aA 46), some (aI 15)]) rfl rfl ?_
      refine E_s (p' := 31) rfl rfl ?_
      refine E_s (p' := 33) (st' := aI 15 :: _) rfl rfl ?_
      refine E_icmp_eq (y := 15) rfl (by decide) (fun _ => ?_) (fun _ => ?_)
      · refine E_s (p' := 47) (st' := aI 15 :: _) rfl rfl ?_
        refine E_ret rfl rfl ?_
        refine E_s (p' := 473) (st' := aA 124 :: _) rfl rfl ?_
        refine E_s (p' := 474) (st' := aA 0 :: _) rfl rfl ?_
        refine E_s (p' := 475) (st' := aI 0 :: _) rfl rfl ?_
        refine E_s (p' := 476) (st' := aI 1 :: _) rfl rfl ?_
        refine E_s (p' := 477) (st' := aI 1 :: _) rfl rfl ?_
        refine E_scr rfl rfl h1 ?_
        refine E_s (p' := 479) (st' := aA 0 :: _) rfl rfl ?_
        refine E_s (p' := 480) (st' := aI 0 :: _) rfl rfl ?_
        refine E_s (p' := 481) (st' := aI 2 :: _) rfl rfl ?_
        refine E_s (p' := 482) (st' := aI 2 :: _) rfl rfl ?_
        refine E_scr rfl rfl h2 ?_
        refine E_callL (p' := 486) (L0 := [some (aA 124), some (aI 1), some (aI a2), none]) rfl rfl rfl ?_
        refine E_s (p' := 1) (st' := aI 1 :: _) rfl rfl ?_
        refine E_callL (p' := 4) (L0 := [some (aI 1)]) rfl rfl rfl ?_
        refine E_s (p' := 1) (st' := aI 1 :: _) rfl rfl ?_
        refine E_s (p' := 2) (st' := aI 0 :: _) rfl rfl ?_
        refine E_s (p' := 3) (st' := aI 3 :: _) rfl rfl ?_
        refine E_callL (p' := 6) (L0 := [some (aI 1), some (aI 0), some (aI 3)]) rfl rfl rfl ?_
        refine E_s (p' := 1) (st' := aI 1 :: _) rfl rfl ?_
        refine E_s (p' := 2) (st' := aI 0 :: _) rfl rfl ?_
        refine E_s (p' := 5) rfl rfl ?_
        refine E_s (p' := 6) (st' := aI 1 :: _) rfl rfl ?_
        refine E_s (p' := 7) (st' := aI 3 :: _) rfl rfl ?_
        refine E_s (p' := 10) rfl rfl ?_
        refine E_s (p' := 11) (st' := aI 1 :: _) rfl rfl ?_
        refine E_s (p' := 15) rfl rfl ?_
        refine E_ret rfl rfl ?_
        refine E_ret rfl rfl ?_
        refine E_s (p' := 7) rfl rfl ?_
        refine E_s (p' := 8) rfl rfl ?_
        refine E_s (p' := 9) (st' := aI 1 :: _) rfl rfl ?_
        refine E_s (p' := 11) (st' := aI 100 :: _) rfl rfl ?_
        refine E_callL (p' := 14) (L0 := [some (aI a2), some (aI 1), some (aI 100)]) rfl rfl rfl ?_
        refine E_s (p' := 1) rfl rfl ?_
        refine E_s (p' := 2) (st' := aI 1 :: _) rfl rfl ?_
        refine E_icmp_lt (y := 1) rfl (by decide) (fun q => absurd q (by omega)) (fun _ => ?_)
        refine E_s (p' := 6) rfl rfl ?_
        refine E_s (p' := 7) (st' := aI 100 :: _) rfl rfl ?_
        refine E_icmp_gt (y := 100) rfl (by decide) (fun q => absurd q (by omega)) (fun _ => ?_)
        refine E_s (p' := 11) (st' := aI 1 :: _) rfl rfl ?_
        refine E_s (p' := 15) rfl rfl ?_
        refine E_ret rfl rfl ?_
        refine E_s (p' := 20) rfl rfl ?_
        refine E_s (p' := 21) (st' := aA 124 :: _) rfl rfl ?_
        refine E_s (p' := 24) (st' := aA 126 :: _) rfl rfl ?_
        refine E_s (p' := 25) (st' := aI 1 :: _) rfl rfl ?_
        refine E_s (p' := 26) (st' := aI 15 :: _) rfl rfl ?_
        refine E_s (p' := 27) (L' := [some (aA 124), some (aI 1), some (aI a2), some (aI 15)]) rfl rfl ?_
        refine E_s (p' := 28) (st' := aA 124 :: _) rfl rfl ?_
        refine E_s (p' := 31) (st' := aA 126 :: _) rfl rfl ?_
        refine E_s (p' := 32) (st' := aI 1 :: _) rfl rfl ?_
        refine E_s (p' := 33) rfl rfl ?_
        refine E_stM (p' := 34) (m' := up2 _ 126 1 a2) rfl rfl ?_
        refine E_s (p' := 35) (st' := aA 124 :: _) rfl rfl ?_
        refine E_s (p' := 36) (st' := aI 1 :: _) rfl rfl ?_
        refine E_callL (p' := 39) (L0 := [some (aA 124), some (aI 1)]) rfl rfl rfl ?_
        refine E_s (p' := 1) (st' := aA 124 :: _) rfl rfl ?_
        refine E_s (p' := 4) (st' := aA 140 :: _) rfl rfl ?_
        refine E_s (p' := 5) (st' := aI 1 :: _) rfl rfl ?_
        refine E_s (p' := 6) (st' := aI 0 :: _) rfl rfl ?_
        refine E_stM (p' := 7) (m' := up2 _ 140 1 0) rfl rfl ?_
        refine E_ret rfl rfl ?_
        refine E_s (p' := 40) (st' := aI 15 :: _) rfl rfl ?_
        refine E_ret rfl rfl ?_
        refine E_s (p' := 1174) rfl rfl ?_
        refine E_s (p' := 1177) (L' := [some (aA 0), some (aA 1), some (aA 124), some (aI 6)]) rfl rfl ?_
        refine E_s (p' := 18) rfl rfl ?_
        refine E_s (p' := 19) (st' := aI 6 :: _) rfl rfl ?_
        refine E_s (p' := 20) (st' := aA 0 :: _) rfl rfl ?_
        refine E_s (p' := 21) (st' := aI 6 :: _) rfl rfl ?_
        refine E_s (p' := 23) (st' := aI 6 :: _) rfl rfl ?_
        refine E_s (p' := 24) (st' := aI 0 :: _) rfl rfl ?_
        refine E_s (p' := 1180) rfl rfl ?_
        refine E_s (p' := 1181) (st' := aI 1 :: _) rfl rfl ?_
        exact E_ret rfl rfl ⟨rfl, rfl⟩
      · refine E_s (p' := 37) (st' := aA 46 :: _) rfl rfl ?_
        refine E_s (p' := 38) rfl rfl ?_
        refine E_stM (p' := 41) (m' := up2 _ 46 5 a2) rfl rfl ?_
        refine E_s (p' := 42) (st' := aA 46 :: _) rfl rfl ?_
        refine E_callL (p' := 45) (L0 := [some (aA 46)]) rfl rfl rfl ?_
        refine E_s (p' := 1) (st' := aA 46 :: _) rfl rfl ?_
        refine E_s (p' := 2) (st' := aI 0 :: _) rfl rfl ?_
        refine E_stM (p' := 5) (m' := up2 _ 46 7 0) rfl rfl ?_
        refine E_s (p' := 6) (st' := aA 46 :: _) rfl rfl ?_
        refine E_s (p' := 7) (st' := aI 0 :: _) rfl rfl ?_
        refine E_stM (p' := 10) (m' := up2 _ 46 6 0) rfl rfl ?_
        refine E_ret rfl rfl ?_
        refine E_s (p' := 47) (st' := aI 15 :: _) rfl rfl ?_
        refine E_ret rfl rfl ?_
        refine E_s (p' := 473) (st' := aA 124 :: _) rfl rfl ?_
        refine E_s (p' := 474) (st' := aA 0 :: _) rfl rfl ?_
        refine E_s (p' := 475) (st' := aI 0 :: _) rfl rfl ?_
        refine E_s (p' := 476) (st' := aI 1 :: _) rfl rfl ?_
        refine E_s (p' := 477) (st' := aI 1 :: _) rfl rfl ?_
        refine E_scr rfl rfl h1 ?_
        refine E_s (p' := 479) (st' := aA 0 :: _) rfl rfl ?_
        refine E_s (p' := 480) (st' := aI 0 :: _) rfl rfl ?_
        refine E_s (p' := 481) (st' := aI 2 :: _) rfl rfl ?_
        refine E_s (p' := 482) (st' := aI 2 :: _) rfl rfl ?_
        refine E_scr rfl rfl h2 ?_
        refine E_callL (p' := 486) (L0 := [some (aA 124), some (aI 1), some (aI a2), none]) rfl rfl rfl ?_
        refine E_s (p' := 1) (st' := aI 1 :: _) rfl rfl ?_
        refine E_callL (p' := 4) (L0 := [some (aI 1)]) rfl rfl rfl ?_
        refine E_s (p' := 1) (st' := aI 1 :: _) rfl rfl ?_
        refine E_s (p' := 2) (st' := aI 0 :: _) rfl rfl ?_
        refine E_s (p' := 3) (st' := aI 3 :: _) rfl rfl ?_
        refine E_callL (p' := 6) (L0 := [some (aI 1), some (aI 0), some (aI 3)]) rfl rfl rfl ?_
        refine E_s (p' := 1) (st' := aI 1 :: _) rfl rfl ?_
        refine E_s (p' := 2) (st' := aI 0 :: _) rfl rfl ?_
        refine E_s (p' := 5) rfl rfl ?_
        refine E_s (p' := 6) (st' := aI 1 :: _) rfl rfl ?_
        refine E_s (p' := 7) (st' := aI 3 :: _) rfl rfl ?_
        refine E_s (p' := 10) rfl rfl ?_
        refine E_s (p' := 11) (st' := aI 1 :: _) rfl rfl ?_
        refine E_s (p' := 15) rfl rfl ?_
        refine E_ret rfl rfl ?_
        refine E_ret rfl rfl ?_
        refine E_s (p' := 7) rfl rfl ?_
        refine E_s (p' := 8) rfl rfl ?_
        refine E_s (p' := 9) (st' := aI 1 :: _) rfl rfl ?_
        refine E_s (p' := 11) (st' := aI 100 :: _) rfl rfl ?_
        refine E_callL (p' := 14) (L0 := [some (aI a2), some (aI 1), some (aI 100)]) rfl rfl rfl ?_
        refine E_s (p' := 1) rfl rfl ?_
        refine E_s (p' := 2) (st' := aI 1 :: _) rfl rfl ?_
        refine E_icmp_lt (y := 1) rfl (by decide) (fun q => absurd q (by omega)) (fun _ => ?_)
        refine E_s (p' := 6) rfl rfl ?_
        refine E_s (p' := 7) (st' := aI 100 :: _) rfl rfl ?_
        refine E_icmp_gt (y := 100) rfl (by decide) (fun q => absurd q (by omega)) (fun _ => ?_)
        refine E_s (p' := 11) (st' := aI 1 :: _) rfl rfl ?_
        refine E_s (p' := 15) rfl rfl ?_
        refine E_ret rfl rfl ?_
        refine E_s (p' := 20) rfl rfl ?_
        refine E_s (p' := 21) (st' := aA 124 :: _) rfl rfl ?_
        refine E_s (p' := 24) (st' := aA 126 :: _) rfl rfl ?_
        refine E_s (p' := 25) (st' := aI 1 :: _) rfl rfl ?_
        refine E_s (p' := 26) (st' := aI 15 :: _) rfl rfl ?_
        refine E_s (p' := 27) (L' := [some (aA 124), some (aI 1), some (aI a2), some (aI 15)]) rfl rfl ?_
        refine E_s (p' := 28) (st' := aA 124 :: _) rfl rfl ?_
        refine E_s (p' := 31) (st' := aA 126 :: _) rfl rfl ?_
        refine E_s (p' := 32) (st' := aI 1 :: _) rfl rfl ?_
        refine E_s (p' := 33) rfl rfl ?_
        refine E_stM (p' := 34) (m' := up2 _ 126 1 a2) rfl rfl ?_
        refine E_s (p' := 35) (st' := aA 124 :: _) rfl rfl ?_
        refine E_s (p' := 36) (st' := aI 1 :: _) rfl rfl ?_
        refine E_callL (p' := 39) (L0 := [some (aA 124), some (aI 1)]) rfl rfl rfl ?_
        refine E_s (p' := 1) (st' := aA 124 :: _) rfl rfl ?_
        refine E_s (p' := 4) (st' := aA 140 :: _) rfl rfl ?_
        refine E_s (p' := 5) (st' := aI 1 :: _) rfl rfl ?_
        refine E_s (p' := 6) (st' := aI 0 :: _) rfl rfl ?_
        refine E_stM (p' := 7) (m' := up2 _ 140 1 0) rfl rfl ?_
        refine E_ret rfl rfl ?_
        refine E_s (p' := 40) (st' := aI 15 :: _) rfl rfl ?_
        refine E_ret rfl rfl ?_
        refine E_s (p' := 1174) rfl rfl ?_
        refine E_s (p' := 1177) (L' := [some (aA 0), some (aA 1), some (aA 124), some (aI 6)]) rfl rfl ?_
        refine E_s (p' := 18) rfl rfl ?_
        refine E_s (p' := 19) (st' := aI 6 :: _) rfl rfl ?_
        refine E_s (p' := 20) (st' := aA 0 :: _) rfl rfl ?_
        refine E_s (p' := 21) (st' := aI 6 :: _) rfl rfl ?_
        refine E_s (p' := 23) (st' := aI 6 :: _) rfl rfl ?_
        refine E_s (p' := 24) (st' := aI 0 :: _) rfl rfl ?_
        refine E_s (p' := 1180) rfl rfl ?_
        refine E_s (p' := 1181) (st' := aI 1 :: _) rfl rfl ?_
        exact E_ret rfl rfl ⟨rfl, rfl⟩
    · refine E_s (p' := 23) (st' := aI (-2) :: _) rfl rfl ?_
      refine E_ret rfl rfl ?_
      refine E_s (p' := 473) (st' := aA 124 :: _) rfl rfl ?_
      refine E_s (p' := 474) (st' := aA 0 :: _) rfl rfl ?_
      refine E_s (p' := 475) (st' := aI 0 :: _) rfl rfl ?_
      refine E_s (p' := 476) (st' := aI 1 :: _) rfl rfl ?_
      refine E_s (p' := 477) (st' := aI 1 :: _) rfl rfl ?_
      refine E_scr rfl rfl h1 ?_
      refine E_s (p' := 479) (st' := aA 0 :: _) rfl rfl ?_
      refine E_s (p' := 480) (st' := aI 0 :: _) rfl rfl ?_
      refine E_s (p' := 481) (st' := aI 2 :: _) rfl rfl ?_
      refine E_s (p' := 482) (st' := aI 2 :: _) rfl rfl ?_
      refine E_scr rfl rfl h2 ?_
      refine E_callL (p' := 486) (L0 := [some (aA 124), some (aI 1), some (aI a2), none]) rfl rfl rfl ?_
      refine E_s (p' := 1) (st' := aI 1 :: _) rfl rfl ?_
      refine E_callL (p' := 4) (L0 := [some (aI 1)]) rfl rfl rfl ?_
      refine E_s (p' := 1) (st' := aI 1 :: _) rfl rfl ?_
      refine E_s (p' := 2) (st' := aI 0 :: _) rfl rfl ?_
      refine E_s (p' := 3) (st' := aI 3 :: _) rfl rfl ?_
      refine E_callL (p' := 6) (L0 := [some (aI 1), some (aI 0), some (aI 3)]) rfl rfl rfl ?_
      refine E_s (p' := 1) (st' := aI 1 :: _) rfl rfl ?_
      refine E_s (p' := 2) (st' := aI 0 :: _) rfl rfl ?_
      refine E_s (p' := 5) rfl rfl ?_
      refine E_s (p' := 6) (st' := aI 1 :: _) rfl rfl ?_
      refine E_s (p' := 7) (st' := aI 3 :: _) rfl rfl ?_
      refine E_s (p' := 10) rfl rfl ?_
      refine E_s (p' := 11) (st' := aI 1 :: _) rfl rfl ?_
      refine E_s (p' := 15) rfl rfl ?_
      refine E_ret rfl rfl ?_
      refine E_ret rfl rfl ?_
      refine E_s (p' := 7) rfl rfl ?_
      refine E_s (p' := 8) rfl rfl ?_
      refine E_s (p' := 9) (st' := aI 1 :: _) rfl rfl ?_
      refine E_s (p' := 11) (st' := aI 100 :: _) rfl rfl ?_
      refine E_callL (p' := 14) (L0 := [some (aI a2), some (aI 1), some (aI 100)]) rfl rfl rfl ?_
      refine E_s (p' := 1) rfl rfl ?_
      refine E_s (p' := 2) (st' := aI 1 :: _) rfl rfl ?_
      refine E_icmp_lt (y := 1) rfl (by decide) (fun q => absurd q (by omega)) (fun _ => ?_)
      refine E_s (p' := 6) rfl rfl ?_
      refine E_s (p' := 7) (st' := aI 100 :: _) rfl rfl ?_
      refine E_icmp_gt (y := 100) rfl (by decide) (fun _ => ?_) (fun q => absurd q (by omega))
      refine E_s (p' := 15) (st' := aI 0 :: _) rfl rfl ?_
      refine E_ret rfl rfl ?_
      refine E_s (p' := 17) rfl rfl ?_
      refine E_s (p' := 19) (st' := aI (-2) :: _) rfl rfl ?_
      refine E_ret rfl rfl ?_
      refine E_s (p' := 1174) rfl rfl ?_
      refine E_s (p' := 1177) (L' := [some (aA 0), some (aA 1), some (aA 124), some (aI 6)]) rfl rfl ?_
      refine E_s (p' := 18) rfl rfl ?_
      refine E_s (p' := 19) (st' := aI 6 :: _) rfl rfl ?_
      refine E_s (p' := 20) (st' := aA 0 :: _) rfl rfl ?_
      refine E_s (p' := 21) (st' := aI 6 :: _) rfl rfl ?_
      refine E_s (p' := 23) (st' := aI 6 :: _) rfl rfl ?_
      refine E_s (p' := 24) (st' := aI 0 :: _) rfl rfl ?_
      refine E_s (p' := 1180) rfl rfl ?_
      refine E_s (p' := 1181) (st' := aI 1 :: _) rfl rfl ?_
      exact E_ret rfl rfl ⟨rfl, rfl⟩
set_option maxRecDepth 100000 in
set_option maxHeartbeats 40000000 in
theorem pc_6_2 (xs : Nat → Int) {z a2 a3 a4 a5 : Int} (hz : b32 (fun a b => a &&& b) z 31 = 6) (h0 : xs 0 = z) (h1 : xs 1 = 2) (h2 : xs 2 = a2) (h3 : xs 3 = a3) (h4 : xs 4 = a4) (h5 : xs 5 = a5) : E 0 18 LL [] (s0 xs 6) PQ := by
  refine E_s (p' := 19) (st' := aI 0 :: _) rfl rfl ?_
  refine E_s (p' := 20) (st' := aA 0 :: _) rfl rfl ?_
  refine E_s (p' := 21) (st' := aI 6 :: _) rfl rfl ?_
  refine E_s (p' := 23) (st' := aI 6 :: _) rfl rfl ?_
  refine E_s (p' := 24) (st' := aI 0 :: _) rfl rfl ?_
  refine E_s (p' := 27) rfl rfl ?_
  refine E_s (p' := 28) (st' := aA 0 :: _) rfl rfl ?_
  refine E_s (p' := 29) (st' := aI 0 :: _) rfl rfl ?_
  refine E_scr rfl rfl h0 ?_
  refine E_s (p' := 32) (st' := aI 31 :: _) rfl rfl ?_
  refine E_s (p' := 33) rfl rfl ?_
  refine E_val hz ?_
  refine E_s (p' := 458) rfl rfl ?_
  refine E_s (p' := 459) (st' := aA 1 :: _) rfl rfl ?_
  refine E_s (p' := 460) (st' := aA 0 :: _) rfl rfl ?_
  refine E_s (p' := 461) (st' := aI 0 :: _) rfl rfl ?_
  refine E_s (p' := 462) (st' := aI 1 :: _) rfl rfl ?_
  refine E_s (p' := 463) (st' := aI 1 :: _) rfl rfl ?_
  refine E_scr rfl rfl h1 ?_
  refine E_s (p' := 465) (st' := aA 0 :: _) rfl rfl ?_
  refine E_s (p' := 466) (st' := aI 0 :: _) rfl rfl ?_
  refine E_s (p' := 467) (st' := aI 2 :: _) rfl rfl ?_
  refine E_s (p' := 468) (st' := aI 2 :: _) rfl rfl ?_
  refine E_scr rfl rfl h2 ?_
  refine E_callL (p' := 472) (L0 := [some (aA 1), some (aI 2), some (aI a2), none, none]) rfl rfl rfl ?_
  refine E_s (p' := 1) (st' := aA 1 :: _) rfl rfl ?_
  refine E_s (p' := 2) (st' := aI 2 :: _) rfl rfl ?_
  refine E_callL (p' := 5) (L0 := [some (aA 1), some (aI 2)]) rfl rfl rfl ?_
  refine E_s (p' := 1) (st' := aI 2 :: _) rfl rfl ?_
  refine E_s (p' := 4) rfl rfl ?_
  refine E_s (p' := 5) (st' := aI 2 :: _) rfl rfl ?_
  refine E_s (p' := 6) (st' := aI 4 :: _) rfl rfl ?_
  refine E_s (p' := 9) rfl rfl ?_
  refine E_s (p' := 10) (st' := aA 1 :: _) rfl rfl ?_
  refine E_s (p' := 13) (st' := aA 2 :: _) rfl rfl ?_
  refine E_s (p' := 14) (st' := aI 2 :: _) rfl rfl ?_
  refine E_s (p' := 15) (st' := aA 72 :: _) rfl rfl ?_
  refine E_s (p' := 19) rfl rfl ?_
  refine E_ret rfl rfl ?_
  refine E_s (p' := 6) (L' := [some (aA 1), some (aI 2), some (aI a2), some (aA 72), none]) rfl rfl ?_
  refine E_s (p' := 7) (st' := aA 72 :: _) rfl rfl ?_
  refine E_s (p' := 10) rfl rfl ?_
  refine E_s (p' := 11) rfl rfl ?_
  refine E_s (p' := 12) (st' := aI 1 :: _) rfl rfl ?_
  refine E_icmp_lt (y := 1) rfl (by decide) (fun _ => ?_) (fun _ => ?_)
  · refine E_s (p' := 23) (st' := aI (-2) :: _) rfl rfl ?_
    refine E_ret rfl rfl ?_
    refine E_s (p' := 473) (st' := aA 124 :: _) rfl rfl ?_
    refine E_s (p' := 474) (st' := aA 0 :: _) rfl rfl ?_
    refine E_s (p' := 475) (st' := aI 0 :: _) rfl rfl ?_
    refine E_s (p' := 476) (st' := aI 1 :: _) rfl rfl ?_
    refine E_s (p' := 477) (st' := aI 1 :: _) rfl rfl ?_
    refine E_scr rfl rfl h1 ?_
    refine E_s (p' := 479) (st' := aA 0 :: _) rfl rfl ?_
    refine E_s (p' := 480) (st' := aI 0 :: _) rfl rfl ?_
    refine E_s (p' := 481) (st' := aI 2 :: _) rfl rfl ?_
    refine E_s (p' := 482) (st' := aI 2 :: _) rfl rfl ?_
    refine E_scr rfl rfl h2 ?_
    refine E_callL (p' := 486) (L0 := [some (aA 124), some (aI 2), some (aI a2), none]) rfl rfl rfl ?_
    refine E_s (p' := 1) (st' := aI 2 :: _) rfl rfl ?_
    refine E_callL (p' := 4) (L0 := [some (aI 2)]) rfl rfl rfl ?_
    refine E_s (p' := 1) (st' := aI 2 :: _) rfl rfl ?_
    refine E_s (p' := 2) (st' := aI 0 :: _) rfl rfl ?_
    refine E_s (p' := 3) (st' := aI 3 :: _) rfl rfl ?_
    refine E_callL (p' := 6) (L0 := [some (aI 2), some (aI 0), some (aI 3)]) rfl rfl rfl ?_
    refine E_s (p' := 1) (st' := aI 2 :: _) rfl rfl ?_
    refine E_s (p' := 2) (st' := aI 0 :: _) rfl rfl ?_
    refine E_s (p' := 5) rfl rfl ?_
    refine E_s (p' := 6) (st' := aI 2 :: _) rfl rfl ?_
    refine E_s (p' := 7) (st' := aI 3 :: _) rfl rfl ?_
    refine E_s (p' := 10) rfl rfl ?_
    refine E_s (p' := 11) (st' := aI 1 :: _) rfl rfl ?_
    refine E_s (p' := 15) rfl rfl ?_
    refine E_ret rfl rfl ?_
    refine E_ret rfl rfl ?_
    refine E_s (p' := 7) rfl rfl ?_
    refine E_s (p' := 8) rfl rfl ?_
    refine E_s (p' := 9) (st' := aI 1 :: _) rfl rfl ?_
    refine E_s (p' := 11) (st' := aI 100 :: _) rfl rfl ?_
    refine E_callL (p' := 14) (L0 := [some (aI a2), some (aI 1), some (aI 100)]) rfl rfl rfl ?_
    refine E_s (p' := 1) rfl rfl ?_
    refine E_s (p' := 2) (st' := aI 1 :: _) rfl rfl ?_
    refine E_icmp_lt (y := 1) rfl (by decide) (fun _ => ?_) (fun q => absurd q (by omega))
    refine E_s (p' := 15) (st' := aI 0 :: _) rfl rfl ?_
    refine E_ret rfl rfl ?_
    refine E_s (p' := 17) rfl rfl ?_
    refine E_s (p' := 19) (st' := aI (-2) :: _) rfl rfl ?_
    refine E_ret rfl rfl ?_
    refine E_s (p' := 1174) rfl rfl ?_
    refine E_s (p' := 1177) (L' := [some (aA 0), some (aA 1), some (aA 124), some (aI 6)]) rfl rfl ?_
    refine E_s (p' := 18) rfl rfl ?_
    refine E_s (p' := 19) (st' := aI 6 :: _) rfl rfl ?_
    refine E_s (p' := 20) (st' := aA 0 :: _) rfl rfl ?_
    refine E_s (p' := 21) (st' := aI 6 :: _) rfl rfl ?_
    refine E_s (p' := 23) (st' := aI 6 :: _) rfl rfl ?_
    refine E_s (p' := 24) (st' := aI 0 :: _) rfl rfl ?_
    refine E_s (p' := 1180) rfl rfl ?_
    refine E_s (p' := 1181) (st' := aI 1 :: _) rfl rfl ?_
    exact E_ret rfl rfl ⟨rfl, rfl⟩
  · refine E_s (p' := 16) rfl rfl ?_
    refine E_s (p' := 18) (st' := aI 100 :: _) rfl rfl ?_
    refine E_icmp_le (y := 100) rfl (by decide) (fun _ => ?_) (fun _ => ?_)
    · refine E_s (p' := 25) (st' := aA 72 :: _) rfl rfl ?_
      refine E_s (p' := 28) (st' := aI 15 :: _) rfl rfl ?_
      refine E_s (p' := 30) (L' := [some (aA 1), some (aI 2), some (aI a2), some (aA 72), some (aI 15)]) rfl rfl ?_
      refine E_s (p' := 31) rfl rfl ?_
      refine E_s (p' := 33) (st' := aI 15 :: _) rfl rfl ?_
      refine E_icmp_eq (y := 15) rfl (by decide) (fun _ => ?_) (fun _ => ?_)
      · refine E_s (p' := 47) (st' := aI 15 :: _) rfl rfl ?_
        refine E_ret rfl rfl ?_
        refine E_s (p' := 473) (st' := aA 124 :: _) rfl rfl ?_
        refine E_s (p' := 474) (st' := aA 0 :: _) rfl rfl ?_
        refine E_s (p' := 475) (st' := aI 0 :: _) rfl rfl ?_
        refine E_s (p' := 476) (st' := aI 1 :: _) rfl rfl ?_
        refine E_s (p' := 477) (st' := aI 1 :: _) rfl rfl ?_
        refine E_scr rfl rfl h1 ?_
        refine E_s (p' := 479) (st' := aA 0 :: _) rfl rfl ?_
        refine E_s (p' := 480) (st' := aI 0 :: _) rfl rfl ?_
        refine E_s (p' := 481) (st' := aI 2 :: _) rfl rfl ?_
        refine E_s (p' := 482) (st' := aI 2 :: _) rfl rfl ?_
        refine E_scr rfl rfl h2 ?_
        refine E_callL (p' := 486) (L0 := [some (aA 124), some (aI 2), some (aI a2), none]) rfl rfl rfl ?_
        refine E_s (p' := 1) (st' := aI 2 :: _) rfl rfl ?_
        refine E_callL (p' := 4) (L0 := [some (aI 2)]) rfl rfl rfl ?_
        refine E_s (p' := 1) (st' := aI 2 :: _) rfl rfl ?_
        refine E_s (p' := 2) (st' := aI 0 :: _) rfl rfl ?_
        refine E_s (p' := 3) (st' := aI 3 :: _) rfl rfl ?_
        refine E_callL (p' := 6) (L0 := [some (aI 2), some (aI 0), some (aI 3)]) rfl rfl rfl ?_
        refine E_s (p' := 1) (st' := aI 2 :: _) rfl rfl ?_
        refine E_s (p' := 2) (st' := aI 0 :: _) rfl rfl ?_
        refine E_s (p' := 5) rfl rfl ?_
        refine E_s (p' := 6) (st' := aI 2 :: _) rfl rfl ?_
        refine E_s (p' := 7) (st' := aI 3 :: _) rfl rfl ?_
        refine E_s (p' := 10) rfl rfl ?_
        refine E_s (p' := 11) (st' := aI 1 :: _) rfl rfl ?_
        refine E_s (p' := 15) rfl rfl ?_
        refine E_ret rfl rfl ?_
        refine E_ret rfl rfl ?_
        refine E_s (p' := 7) rfl rfl ?_
        refine E_s (p' := 8) rfl rfl ?_
        refine E_s (p' := 9) (st' := aI 1 :: _) rfl rfl ?_
        refine E_s (p' := 11) (st' := aI 100 :: _) rfl rfl ?_
        refine E_callL (p' := 14) (L0 := [some (aI a2), some (aI 1), some (aI 100)]) rfl rfl rfl ?_
        refine E_s (p' := 1) rfl rfl ?_
        refine E_s (p' := 2) (st' := aI 1 :: _) rfl rfl ?_
        refine E_icmp_lt (y := 1) rfl (by decide) (fun q => absurd q (by omega)) (fun _ => ?_)
        refine E_s (p' := 6) rfl rfl ?_
        refine E_s (p' := 7) (st' := aI 100 :: _) rfl rfl ?_
        refine E_icmp_gt (y := 100) rfl (by decide) (fun q => absurd q (by omega)) (fun _ => ?_)
        refine E_s (p' := 11) (st' := aI 1 :: _) rfl rfl ?_
        refine E_s (p' := 15) rfl rfl ?_
        refine E_ret rfl rfl ?_
        refine E_s (p' := 20) rfl rfl ?_
        refine E_s (p' := 21) (st' := aA 124 :: _) rfl rfl ?_
        refine E_s (p' := 24) (st' := aA 126 :: _) rfl rfl ?_
        refine E_s (p' := 25) (st' := aI 2 :: _) rfl rfl ?_
        refine E_s (p' := 26) (st' := aI 15 :: _) rfl rfl ?_
        refine E_s (p' := 27) (L' := [some (aA 124), some (aI 2), some (aI a2), some (aI 15)]) rfl rfl ?_
        refine E_s (p' := 28) (st' := aA 124 :: _) rfl rfl ?_
        refine E_s (p' := 31) (st' := aA 126 :: _) rfl rfl ?_
        refine E_s (p' := 32) (st' := aI 2 :: _) rfl rfl ?_
        refine E_s (p' := 33) rfl rfl ?_
        refine E_stM (p' := 34) (m' := up2 _ 126 2 a2) rfl rfl ?_
        refine E_s (p' := 35) (st' := aA 124 :: _) rfl rfl ?_
        refine E_s (p' := 36) (st' := aI 2 :: _) rfl rfl ?_
        refine E_callL (p' := 39) (L0 := [some (aA 124), some (aI 2)]) rfl rfl rfl ?_
        refine E_s (p' := 1) (st' := aA 124 :: _) rfl rfl ?_
        refine E_s (p' := 4) (st' := aA 140 :: _) rfl rfl ?_
        refine E_s (p' := 5) (st' := aI 2 :: _) rfl rfl ?_
        refine E_s (p' := 6) (st' := aI 0 :: _) rfl rfl ?_
        refine E_stM (p' := 7) (m' := up2 _ 140 2 0) rfl rfl ?_
        refine E_ret rfl rfl ?_
        refine E_s (p' := 40) (st' := aI 15 :: _) rfl rfl ?_
        refine E_ret rfl rfl ?_
        refine E_s (p' := 1174) rfl rfl ?_
        refine E_s (p' := 1177) (L' := [some (aA 0), some (aA 1), some (aA 124), some (aI 6)]) rfl rfl ?_
        refine E_s (p' := 18) rfl rfl ?_
        refine E_s (p' := 19) (st' := aI 6 :: _) rfl rfl ?_
        refine E_s (p' := 20) (st' := aA 0 :: _) rfl rfl ?_
        refine E_s (p' := 21) (st' := aI 6 :: _) rfl rfl ?_
        refine E_s (p' := 23) (st' := aI 6 :: _) rfl rfl ?_
        refine E_s (p' := 24) (st' := aI 0 :: _) rfl rfl ?_
        refine E_s (p' := 1180) rfl rfl ?_
        refine E_s (p' := 1181) (st' := aI 1 :: _) rfl rfl ?_
        exact E_ret rfl rfl ⟨rfl, rfl⟩
      · refine E_s (p' := 37) (st' := aA 72 :: _) rfl rfl ?_
        refine E_s (p' := 38) rfl rfl ?_
        refine E_stM (p' := 41) (m' := up2 _ 72 5 a2) rfl rfl ?_
        refine E_s (p' := 42) (st' := aA 72 :: _) rfl rfl ?_
        refine E_callL (p' := 45) (L0 := [some (aA 72)]) rfl rfl rfl ?_
        refine E_s (p' := 1) (st' := aA 72 :: _) rfl rfl ?_
        refine E_s (p' := 2) (st' := aI 0 :: _) rfl rfl ?_
        refine E_stM (p' := 5) (m' := up2 _ 72 7 0) rfl rfl ?_
        refine E_s (p' := 6) (st' := aA 72 :: _) rfl rfl ?_
        refine E_s (p' := 7) (st' := aI 0 :: _) rfl rfl ?_
        refine E_stM (p' := 10) (m' := up2 _ 72 6 0) rfl rfl ?_
        refine E_ret rfl rfl ?_
        refine E_s (p' := 47) (st' := aI 15 :: _) rfl rfl ?_
        refine E_ret rfl rfl ?_
        refine E_s (p' := 473) (st' := aA 124 :: _) rfl rfl ?_
        refine E_s (p' := 474) (st' := aA 0 :: _) rfl rfl ?_
        refine E_s (p' := 475) (st' := aI 0 :: _) rfl rfl ?_
        refine E_s (p' := 476) (st' := aI 1 :: _) rfl rfl ?_
        refine E_s (p' := 477) (st' := aI 1 :: _) rfl rfl ?_
        refine E_scr rfl rfl h1 ?_
        refine E_s (p' := 479) (st' := aA 0 :: _) rfl rfl ?_
        refine E_s (p' := 480) (st' := aI 0 :: _) rfl rfl ?_
        refine E_s (p' := 481) (st' := aI 2 :: _) rfl rfl ?_
        refine E_s (p' := 482) (st' := aI 2 :: _) rfl rfl ?_
        refine E_scr rfl rfl h2 ?_
        refine E_callL (p' := 486) (L0 := [some (aA 124), some (aI 2), some (aI a2), none]) rfl rfl rfl ?_
        refine E_s (p' := 1) (st' := aI 2 :: _) rfl rfl ?_
        refine E_callL (p' := 4) (L0 := [some (aI 2)]) rfl rfl rfl ?_
        refine E_s (p' := 1) (st' := aI 2 :: _) rfl rfl ?_
        refine E_s (p' := 2) (st' := aI 0 :: _) rfl rfl ?_
        refine E_s (p' := 3) (st' := aI 3 :: _) rfl rfl ?_
        refine E_callL (p' := 6) (L0 := [some (aI 2), some (aI 0), some (aI 3)]) rfl rfl rfl ?_
        refine E_s (p' := 1) (st' := aI 2 :: _) rfl rfl ?_
        refine E_s (p' := 2) (st' := aI 0 :: _) rfl rfl ?_
        refine E_s (p' := 5) rfl rfl ?_
        refine E_s (p' := 6) (st' := aI 2 :: _) rfl rfl ?_
        refine E_s (p' := 7) (st' := aI 3 :: _) rfl rfl ?_
        refine E_s (p' := 10) rfl rfl ?_
        refine E_s (p' := 11) (st' := aI 1 :: _) rfl rfl ?_
        refine E_s (p' := 15) rfl rfl ?_
        refine E_ret rfl rfl ?_
        refine E_ret rfl rfl ?_
        refine E_s (p' := 7) rfl rfl ?_
        refine E_s (p' := 8) rfl rfl ?_
        refine E_s (p' := 9) (st' := aI 1 :: _) rfl rfl ?_
        refine E_s (p' := 11) (st' := aI 100 :: _) rfl rfl ?_
        refine E_callL (p' := 14) (L0 := [some (aI a2), some (aI 1), some (aI 100)]) rfl rfl rfl ?_
        refine E_s (p' := 1) rfl rfl ?_
        refine E_s (p' := 2) (st' := aI 1 :: _) rfl rfl ?_
        refine E_icmp_lt (y := 1) rfl (by decide) (fun q => absurd q (by omega)) (fun _ => ?_)
        refine E_s (p' := 6) rfl rfl ?_
        refine E_s (p' := 7) (st' := aI 100 :: _) rfl rfl ?_
        refine E_icmp_gt (y := 100) rfl (by decide) (fun q => absurd q (by omega)) (fun _ => ?_)
        refine E_s (p' := 11) (st' := aI 1 :: _) rfl rfl ?_
        refine E_s (p' := 15) rfl rfl ?_
        refine E_ret rfl rfl ?_
        refine E_s (p' := 20) rfl rfl ?_
        refine E_s (p' := 21) (st' := aA 124 :: _) rfl rfl ?_
        refine E_s (p' := 24) (st' := aA 126 :: _) rfl rfl ?_
        refine E_s (p' := 25) (st' := aI 2 :: _) rfl rfl ?_
        refine E_s (p' := 26) (st' := aI 15 :: _) rfl rfl ?_
        refine E_s (p' := 27) (L' := [some (aA 124), some (aI 2), some (aI a2), some (aI 15)]) rfl rfl ?_
        refine E_s (p' := 28) (st' := aA 124 :: _) rfl rfl ?_
        refine E_s (p' := 31) (st' := aA 126 :: _) rfl rfl ?_
        refine E_s (p' := 32) (st' := aI 2 :: _) rfl rfl ?_
        refine E_s (p' := 33) rfl rfl ?_
        refine E_stM (p' := 34) (m' := up2 _ 126 2 a2) rfl rfl ?_
        refine E_s (p' := 35) (st' := aA 124 :: _) rfl rfl ?_
        refine E_s (p' := 36) (st' := aI 2 :: _) rfl rfl ?_
        refine E_callL (p' := 39) (L0 := [some (aA 124), some (aI 2)]) rfl rfl rfl ?_
        refine E_s (p' := 1) (st' := aA 124 :: _) rfl rfl ?_
        refine E_s (p' := 4) (st' := aA 140 :: _) rfl rfl ?_
        refine E_s (p' := 5) (st' := aI 2 :: _) rfl rfl ?_
        refine E_s (p' := 6) (st' := aI 0 :: _) rfl rfl ?_
        refine E_stM (p' := 7) (m' := up2 _ 140 2 0) rfl rfl ?_
        refine E_ret rfl rfl ?_
        refine E_s (p' := 40) (st' := aI 15 :: _) rfl rfl ?_
        refine E_ret rfl rfl ?_
        refine E_s (p' := 1174) rfl rfl ?_
        refine E_s (p' := 1177) (L' := [some (aA 0), some (aA 1), some (aA 124), some (aI 6)]) rfl rfl ?_
        refine E_s (p' := 18) rfl rfl ?_
        refine E_s (p' := 19) (st' := aI 6 :: _) rfl rfl ?_
        refine E_s (p' := 20) (st' := aA 0 :: _) rfl rfl ?_
        refine E_s (p' := 21) (st' := aI 6 :: _) rfl rfl ?_
        refine E_s (p' := 23) (st' := aI 6 :: _) rfl rfl ?_
        refine E_s (p' := 24) (st' := aI 0 :: _) rfl rfl ?_
        refine E_s (p' := 1180) rfl rfl ?_
        refine E_s (p' := 1181) (st' := aI 1 :: _) rfl rfl ?_
        exact E_ret rfl rfl ⟨rfl, rfl⟩
    · refine E_s (p' := 23) (st' := aI (-2) :: _) rfl rfl ?_
      refine E_ret rfl rfl ?_
      refine E_s (p' := 473) (st' := aA 124 :: _) rfl rfl ?_
      refine E_s (p' := 474) (st' := aA 0 :: _) rfl rfl ?_
      refine E_s (p' := 475) (st' := aI 0 :: _) rfl rfl ?_
      refine E_s (p' := 476) (st' := aI 1 :: _) rfl rfl ?_
      refine E_s (p' := 477) (st' := aI 1 :: _) rfl rfl ?_
      refine E_scr rfl rfl h1 ?_
      refine E_s (p' := 479) (st' := aA 0 :: _) rfl rfl ?_
      refine E_s (p' := 480) (st' := aI 0 :: _) rfl rfl ?_
      refine E_s (p' := 481) (st' := aI 2 :: _) rfl rfl ?_
      refine E_s (p' := 482) (st' := aI 2 :: _) rfl rfl ?_
      refine E_scr rfl rfl h2 ?_
      refine E_callL (p' := 486) (L0 := [some (aA 124), some (aI 2), some (aI a2), none]) rfl rfl rfl ?_
      refine E_s (p' := 1) (st' := aI 2 :: _) rfl rfl ?_
      refine E_callL (p' := 4) (L0 := [some (aI 2)]) rfl rfl rfl ?_
      refine E_s (p' := 1) (st' := aI 2 :: _) rfl rfl ?_
      refine E_s (p' := 2) (st' := aI 0 :: _) rfl rfl ?_
      refine E_s (p' := 3) (st' := aI 3 :: _) rfl rfl ?_
      refine E_callL (p' := 6) (L0 := [some (aI 2), some (aI 0), some (aI 3)]) rfl rfl rfl ?_
      refine E_s (p' := 1) (st' := aI 2 :: _) rfl rfl ?_
      refine E_s (p' := 2) (st' := aI 0 :: _) rfl rfl ?_
      refine E_s (p' := 5) rfl rfl ?_
      refine E_s (p' := 6) (st' := aI 2 :: _) rfl rfl ?_
      refine E_s (p' := 7) (st' := aI 3 :: _) rfl rfl ?_
      refine E_s (p' := 10) rfl rfl ?_
      refine E_s (p' := 11) (st' := aI 1 :: _) rfl rfl ?_
      refine E_s (p' := 15) rfl rfl ?_
      refine E_ret rfl rfl ?_
      refine E_ret rfl rfl ?_
      refine E_s (p' := 7) rfl rfl ?_
      refine E_s (p' := 8) rfl rfl ?_
      refine E_s (p' := 9) (st' := aI 1 :: _) rfl rfl ?_
      refine E_s (p' := 11) (st' := aI 100 :: _) rfl rfl ?_
      refine E_callL (p' := 14) (L0 := [some (aI a2), some (aI 1), some (aI 100)]) rfl rfl rfl ?_
      refine E_s (p' := 1) rfl rfl ?_
      refine E_s (p' := 2) (st' := aI 1 :: _) rfl rfl ?_
      refine E_icmp_lt (y := 1) rfl (by decide) (fun q => absurd q (by omega)) (fun _ => ?_)
      refine E_s (p' := 6) rfl rfl ?_
      refine E_s (p' := 7) (st' := aI 100 :: _) rfl rfl ?_
      refine E_icmp_gt (y := 100) rfl (by decide) (fun _ => ?_) (fun q => absurd q (by omega))
      refine E_s (p' := 15) (st' := aI 0 :: _) rfl rfl ?_
      refine E_ret rfl rfl ?_
      refine E_s (p' := 17) rfl rfl ?_
      refine E_s (p' := 19) (st' := aI (-2) :: _) rfl rfl ?_
      refine E_ret rfl rfl ?_
      refine E_s (p' := 1174) rfl rfl ?_
      refine E_s (p' := 1177) (L' := [some (aA 0), some (aA 1), some (aA 124), some (aI 6)]) rfl rfl ?_
      refine E_s (p' := 18) rfl rfl ?_
      refine E_s (p' := 19) (st' := aI 6 :: _) rfl rfl ?_
      refine E_s (p' := 20) (st' := aA 0 :: _) rfl rfl ?_
      refine E_s (p' := 21) (st' := aI 6 :: _) rfl rfl ?_
      refine E_s (p' := 23) (st' := aI 6 :: _) rfl rfl ?_
      refine E_s (p' := 24) (st' := aI 0 :: _) rfl rfl ?_
      refine E_s (p' := 1180) rfl rfl ?_
      refine E_s (p' := 1181) (st' := aI 1 :: _) rfl rfl ?_
      exact E_ret rfl rfl ⟨rfl, rfl⟩
set_option maxRecDepth 100000 in
set_option maxHeartbeats 40000000 in
theorem pc_6_3 (xs : Nat → Int) {z a2 a3 a4 a5 : Int} (hz : b32 (fun a b => a &&& b) z 31 = 6) (h0 : xs 0 = z) (h1 : xs 1 = 3) (h2 : xs 2 = a2) (h3 : xs 3 = a3) (h4 : xs 4 = a4) (h5 : xs 5 = a5) : E 0 18 LL [] (s0 xs 6) PQ := by
  refine E_s (p' := 19) (st' := aI 0 :: _) rfl rfl ?_
  refine E_s (p' := 20) (st' := aA 0 :: _) rfl rfl ?_
  refine E_s (p' := 21) (st' := aI 6 :: _) rfl rfl ?_
  refine E_s (p' := 23) (st' := aI 6 :: _) rfl rfl ?_
  refine E_s (p' := 24) (st' := aI 0 :: _) rfl rfl ?_
  refine E_s (p' := 27) rfl rfl ?_
  refine E_s (p' := 28) (st' := aA 0 :: _) rfl rfl ?_
  refine E_s (p' := 29) (st' := aI 0 :: _) rfl rfl ?_
  refine E_scr rfl rfl h0 ?_
  refine E_s (p' := 32) (st' := aI 31 :: _) rfl rfl ?_
  refine E_s (p' := 33) rfl rfl ?_
  refine E_val hz ?_
  refine E_s (p' := 458) rfl rfl ?_
  refine E_s (p' := 459) (st' := aA 1 :: _) rfl rfl ?_
  refine E_s (p' := 460) (st' := aA 0 :: _) rfl rfl ?_
  refine E_s (p' := 461) (st' := aI 0 :: _) rfl rfl ?_
  refine E_s (p' := 462) (st' := aI 1 :: _) rfl rfl ?_
  refine E_s (p' := 463) (st' := aI 1 :: _) rfl rfl ?_
  refine E_scr rfl rfl h1 ?_
  refine E_s (p' := 465) (st' := aA 0 :: _) rfl rfl ?_
  refine E_s (p' := 466) (st' := aI 0 :: _) rfl rfl ?_
  refine E_s (p' := 467) (st' := aI 2 :: _) rfl rfl ?_
  refine E_s (p' := 468) (st' := aI 2 :: _) rfl rfl ?_
  refine E_scr rfl rfl h2 ?_
  refine E_callL (p' := 472) (L0 := [some (aA 1), some (aI 3), some (aI a2), none, none]) rfl rfl rfl ?_
  refine E_s (p' := 1) (st' := aA 1 :: _) rfl rfl ?_
  refine E_s (p' := 2) (st' := aI 3 :: _) rfl rfl ?_
  refine E_callL (p' := 5) (L0 := [some (aA 1), some (aI 3)]) rfl rfl rfl ?_
  refine E_s (p' := 1) (st' := aI 3 :: _) rfl rfl ?_
  refine E_s (p' := 4) rfl rfl ?_
  refine E_s (p' := 5) (st' := aI 3 :: _) rfl rfl ?_
  refine E_s (p' := 6) (st' := aI 4 :: _) rfl rfl ?_
  refine E_s (p' := 9) rfl rfl ?_
  refine E_s (p' := 10) (st' := aA 1 :: _) rfl rfl ?_
  refine E_s (p' := 13) (st' := aA 2 :: _) rfl rfl ?_
  refine E_s (p' := 14) (st' := aI 3 :: _) rfl rfl ?_
  refine E_s (p' := 15) (st' := aA 98 :: _) rfl rfl ?_
  refine E_s (p' := 19) rfl rfl ?_
  refine E_ret rfl rfl ?_
  refine E_s (p' := 6) (L' := [some (aA 1), some (aI 3), some (aI a2), some (aA 98), none]) rfl rfl ?_
  refine E_s (p' := 7) (st' := aA 98 :: _) rfl rfl ?_
  refine E_s (p' := 10) rfl rfl ?_
  refine E_s (p' := 11) rfl rfl ?_
  refine E_s (p' := 12) (st' := aI 1 :: _) rfl rfl ?_
  refine E_icmp_lt (y := 1) rfl (by decide) (fun _ => ?_) (fun _ => ?_)
  · refine E_s (p' := 23) (st' := aI (-2) :: _) rfl rfl ?_
    refine E_ret rfl rfl ?_
    refine E_s (p' := 473) (st' := aA 124 :: _) rfl rfl ?_
    refine E_s (p' := 474) (st' := aA 0 :: _) rfl rfl ?_
    refine E_s (p' := 475) (st' := aI 0 :: _) rfl rfl ?_
    refine E_s (p' := 476) (st' := aI 1 :: _) rfl rfl ?_
    refine E_s (p' := 477) (st' := aI 1 :: _) rfl rfl ?_
    refine E_scr rfl rfl h1 ?_
    refine E_s (p' := 479) (st' := aA 0 :: _) rfl rfl ?_
    refine E_s (p' := 480) (st' := aI 0 :: _) rfl rfl ?_
    refine E_s (p' := 481) (st' := aI 2 :: _) rfl rfl ?_
    refine E_s (p' := 482) (st' := aI 2 :: _) rfl rfl ?_
    refine E_scr rfl rfl h2 ?_
    refine E_callL (p' := 486) (L0 := [some (aA 124), some (aI 3), some (aI a2), none]) rfl rfl rfl ?_
    refine E_s (p' := 1) (st' := aI 3 :: _) rfl rfl ?_
    refine E_callL (p' := 4) (L0 := [some (aI 3)]) rfl rfl rfl ?_
    refine E_s (p' := 1) (st' := aI 3 :: _) rfl rfl ?_
    refine E_s (p' := 2) (st' := aI 0 :: _) rfl rfl ?_
    refine E_s (p' := 3) (st' := aI 3 :: _) rfl rfl ?_
    refine E_callL (p' := 6) (L0 := [some (aI 3), some (aI 0), some (aI 3)]) rfl rfl rfl ?_
    refine E_s (p' := 1) (st' := aI 3 :: _) rfl rfl ?_
    refine E_s (p' := 2) (st' := aI 0 :: _) rfl rfl ?_
    refine E_s (p' := 5) rfl rfl ?_
    refine E_s (p' := 6) (st' := aI 3 :: _) rfl rfl ?_
    refine E_s (p' := 7) (st' := aI 3 :: _) rfl rfl ?_
    refine E_s (p' := 10) rfl rfl ?_
    refine E_s (p' := 11) (st' := aI 1 :: _) rfl rfl ?_
    refine E_s (p' := 15) rfl rfl ?_
    refine E_ret rfl rfl ?_
    refine E_ret rfl rfl ?_
    refine E_s (p' := 7) rfl rfl ?_
    refine E_s (p' := 8) rfl rfl ?_
    refine E_s (p' := 9) (st' := aI 1 :: _) rfl rfl ?_
    refine E_s (p' := 11) (st' := aI 100 :: _) rfl rfl ?_
    refine E_callL (p' := 14) (L0 := [some (aI a2), some (aI 1), some (aI 100)]) rfl rfl rfl ?_
    refine E_s (p' := 1) rfl rfl ?_
    refine E_s (p' := 2) (st' := aI 1 :: _) rfl rfl ?_
    refine E_icmp_lt (y := 1) rfl (by decide) (fun _ => ?_) (fun q => absurd q (by omega))
    refine E_s (p' := 15) (st' := aI 0 :: _) rfl rfl ?_
    refine E_ret rfl rfl ?_
    refine E_s (p' := 17) rfl rfl ?_
    refine E_s (p' := 19) (st' := aI (-2) :: _) rfl rfl ?_
    refine E_ret rfl rfl ?_
    refine E_s (p' := 1174) rfl rfl ?_
    refine E_s (p' := 1177) (L' := [some (aA 0), some (aA 1), some (aA 124), some (aI 6)]) rfl rfl ?_
    refine E_s (p' := 18) rfl rfl ?_
    refine E_s (p' := 19) (st' := aI 6 :: _) rfl rfl ?_
    refine E_s (p' := 20) (st' := aA 0 :: _) rfl rfl ?_
    refine E_s (p' := 21) (st' := aI 6 :: _) rfl rfl ?_
    refine E_s (p' := 23) (st' := aI 6 :: _) rfl rfl ?_
    refine E_s (p' := 24) (st' := aI 0 :: _) rfl rfl ?_
    refine E_s (p' := 1180) rfl rfl ?_
    refine E_s (p' := 1181) (st' := aI 1 :: _) rfl rfl ?_
    exact E_ret rfl rfl ⟨rfl, rfl⟩
  · refine E_s (p' := 16) rfl rfl ?_
    refine E_s (p' := 18) (st' := aI 100 :: _) rfl rfl ?_
    refine E_icmp_le (y := 100) rfl (by decide) (fun _ => ?_) (fun _ => ?_)
    · refine E_s (p' := 25) (st' := aA 98 :: _) rfl rfl ?_
      refine E_s (p' := 28) (st' := aI 15 :: _) rfl rfl ?_
      refine E_s (p' := 30) (L' := [some (aA 1), some (aI 3), some (aI a2), some (aA 98), some (aI 15)]) rfl rfl ?_
      refine E_s (p' := 31) rfl rfl ?_
      refine E_s (p' := 33) (st' := aI 15 :: _) rfl rfl ?_
      refine E_icmp_eq (y := 15) rfl (by decide) (fun _ => ?_) (fun _ => ?_)
      · refine E_s (p' := 47) (st' := aI 15 :: _) rfl rfl ?_
        refine E_ret rfl rfl ?_
        refine E_s (p' := 473) (st' := aA 124 :: _) rfl rfl ?_
        refine E_s (p' := 474) (st' := aA 0 :: _) rfl rfl ?_
        refine E_s (p' := 475) (st' := aI 0 :: _) rfl rfl ?_
        refine E_s (p' := 476) (st' := aI 1 :: _) rfl rfl ?_
        refine E_s (p' := 477) (st' := aI 1 :: _) rfl rfl ?_
        refine E_scr rfl rfl h1 ?_
        refine E_s (p' := 479) (st' := aA 0 :: _) rfl rfl ?_
        refine E_s (p' := 480) (st' := aI 0 :: _) rfl rfl ?_
        refine E_s (p' := 481) (st' := aI 2 :: _) rfl rfl ?_
        refine E_s (p' := 482) (st' := aI 2 :: _) rfl rfl ?_
        refine E_scr rfl rfl h2 ?_
        refine E_callL (p' := 486) (L0 := [some (aA 124), some (aI 3), some (aI a2), none]) rfl rfl rfl ?_
        refine E_s (p' := 1) (st' := aI 3 :: _) rfl rfl ?_
        refine E_callL (p' := 4) (L0 := [some (aI 3)]) rfl rfl rfl ?_
        refine E_s (p' := 1) (st' := aI 3 :: _) rfl rfl ?_
        refine E_s (p' := 2) (st' := aI 0 :: _) rfl rfl ?_
        refine E_s (p' := 3) (st' := aI 3 :: _) rfl rfl ?_
        refine E_callL (p' := 6) (L0 := [some (aI 3), some (aI 0), some (aI 3)]) rfl rfl rfl ?_
        refine E_s (p' := 1) (st' := aI 3 :: _) rfl rfl ?_
        refine E_s (p' := 2) (st' := aI 0 :: _) rfl rfl ?_
        refine E_s (p' := 5) rfl rfl ?_
        refine E_s (p' := 6) (st' := aI 3 :: _) rfl rfl ?_
        refine E_s (p' := 7) (st' := aI 3 :: _) rfl rfl ?_
        refine E_s (p' := 10) rfl rfl ?_
        refine E_s (p' := 11) (st' := aI 1 :: _) rfl rfl ?_
        refine E_s (p' := 15) rfl rfl ?_
        refine E_ret rfl rfl ?_
        refine E_ret rfl rfl ?_
        refine E_s (p' := 7) rfl rfl ?_
        refine E_s (p' := 8) rfl rfl ?_
        refine E_s (p' := 9) (st' := aI 1 :: _) rfl rfl ?_
        refine E_s (p' := 11) (st' := aI 100 :: _) rfl rfl ?_
        refine E_callL (p' := 14) (L0 := [some (aI a2), some (aI 1), some (aI 100)]) rfl rfl rfl ?_
        refine E_s (p' := 1) rfl rfl ?_
        refine E_s (p' := 2) (st' := aI 1 :: _) rfl rfl ?_
        refine E_icmp_lt (y := 1) rfl (by decide) (fun q => absurd q (by omega)) (fun _ => ?_)
        refine E_s (p' := 6) rfl rfl ?_
        refine E_s (p' := 7) (st' := aI 100 :: _) rfl rfl ?_
        refine E_icmp_gt (y := 100) rfl (by decide) (fun q => absurd q (by omega)) (fun _ => ?_)
        refine E_s (p' := 11) (st' := aI 1 :: _) rfl rfl ?_
        refine E_s (p' := 15) rfl rfl ?_
        refine E_ret rfl rfl ?_
        refine E_s (p' := 20) rfl rfl ?_
        refine E_s (p' := 21) (st' := aA 124 :: _) rfl rfl ?_
        refine E_s (p' := 24) (st' := aA 126 :: _) rfl rfl ?_
        refine E_s (p' := 25) (st' := aI 3 :: _) rfl rfl ?_
        refine E_s (p' := 26) (st' := aI 15 :: _) rfl rfl ?_
        refine E_s (p' := 27) (L' := [some (aA 124), some (aI 3), some (aI a2), some (aI 15)]) rfl rfl ?_
        refine E_s (p' := 28) (st' := aA 124 :: _) rfl rfl ?_
        refine E_s (p' := 31) (st' := aA 126 :: _) rfl rfl ?_
        refine E_s (p' := 32) (st' := aI 3 :: _) rfl rfl ?_
        refine E_s (p' := 33) rfl rfl ?_
        refine E_stM (p' := 34) (m' := up2 _ 126 3 a2) rfl rfl ?_
        refine E_s (p' := 35) (st' := aA 124 :: _) rfl rfl ?_
        refine E_s (p' := 36) (st' := aI 3 :: _) rfl rfl ?_
        refine E_callL (p' := 39) (L0 := [some (aA 124), some (aI 3)]) rfl rfl rfl ?_
        refine E_s (p' := 1) (st' := aA 124 :: _) rfl rfl ?_
        refine E_s (p' := 4) (st' := aA 140 :: _) rfl rfl ?_
        refine E_s (p' := 5) (st' := aI 3 :: _) rfl rfl ?_
        refine E_s (p' := 6) (st' := aI 0 :: _) rfl rfl ?_
        refine E_stM (p' := 7) (m' := up2 _ 140 3 0) rfl rfl ?_
        refine E_ret rfl rfl ?_
        refine E_s (p' := 40) (st' := aI 15 :: _) rfl rfl ?_
        refine E_ret rfl rfl ?_
        refine E_s (p' := 1174) rfl rfl ?_
        refine E_s (p' := 1177) (L' := [some (aA 0), some (aA 1), some (aA 124), some (aI 6)]) rfl rfl ?_
        refine E_s (p' := 18) rfl rfl ?_
        refine E_s (p' := 19) (st' := aI 6 :: _) rfl rfl ?_
        refine E_s (p' := 20) (st' := aA 0 :: _) rfl rfl ?_
        refine E_s (p' := 21) (st' := aI 6 :: _) rfl rfl ?_
        refine E_s (p' := 23) (st' := aI 6 :: _) rfl rfl ?_
        refine E_s (p' := 24) (st' := aI 0 :: _) rfl rfl ?_
        refine E_s (p' := 1180) rfl rfl ?_
        refine E_s (p' := 1181) (st' := aI 1 :: _) rfl rfl ?_
        exact E_ret rfl rfl ⟨rfl, rfl⟩
      · refine E_s (p' := 37) (st' := aA 98 :: _) rfl rfl ?_
        refine E_s (p' := 38) rfl rfl ?_
        refine E_stM (p' := 41) (m' := up2 _ 98 5 a2) rfl rfl ?_
        refine E_s (p' := 42) (st' := aA 98 :: _) rfl rfl ?_
        refine E_callL (p' := 45) (L0 := [some (aA 98)]) rfl rfl rfl ?_
        refine E_s (p' := 1) (st' := aA 98 :: _) rfl rfl ?_
        refine E_s (p' := 2) (st' := aI 0 :: _) rfl rfl ?_
        refine E_stM (p' := 5) (m' := up2 _ 98 7 0) rfl rfl ?_
        refine E_s (p' := 6) (st' := aA 98 :: _) rfl rfl ?_
        refine E_s (p' := 7) (st' := aI 0 :: _) rfl rfl ?_
        refine E_stM (p' := 10) (m' := up2 _ 98 6 0) rfl rfl ?_
        refine E_ret rfl rfl ?_
        refine E_s (p' := 47) (st' := aI 15 :: _) rfl rfl ?_
        refine E_ret rfl rfl ?_
        refine E_s (p' := 473) (st' := aA 124 :: _) rfl rfl ?_
        refine E_s (p' := 474) (st' := aA 0 :: _) rfl rfl ?_
        refine E_s (p' := 475) (st' := aI 0 :: _) rfl rfl ?_
        refine E_s (p' := 476) (st' := aI 1 :: _) rfl rfl ?_
        refine E_s (p' := 477) (st' := aI 1 :: _) rfl rfl ?_
        refine E_scr rfl rfl h1 ?_
        refine E_s (p' := 479) (st' := aA 0 :: _) rfl rfl ?_
        refine E_s (p' := 480) (st' := aI 0 :: _) rfl rfl ?_
        refine E_s (p' := 481) (st' := aI 2 :: _) rfl rfl ?_
        refine E_s (p' := 482) (st' := aI 2 :: _) rfl rfl ?_
        refine E_scr rfl rfl h2 ?_
        refine E_callL (p' := 486) (L0 := [some (aA 124), some (aI 3), some (aI a2), none]) rfl rfl rfl ?_
        refine E_s (p' := 1) (st' := aI 3 :: _) rfl rfl ?_
        refine E_callL (p' := 4) (L0 := [some (aI 3)]) rfl rfl rfl ?_
        refine E_s (p' := 1) (st' := aI 3 :: _) rfl rfl ?_
        refine E_s (p' := 2) (st' := aI 0 :: _) rfl rfl ?_
        refine E_s (p' := 3) (st' := aI 3 :: _) rfl rfl ?_
        refine E_callL (p' := 6) (L0 := [some (aI 3), some (aI 0), some (aI 3)]) rfl rfl rfl ?_
        refine E_s (p' := 1) (st' := aI 3 :: _) rfl rfl ?_
        refine E_s (p' := 2) (st' := aI 0 :: _) rfl rfl ?_
        refine E_s (p' := 5) rfl rfl ?_
        refine E_s (p' := 6) (st' := aI 3 :: _) rfl rfl ?_
        refine E_s (p' := 7) (st' := aI 3 :: _) rfl rfl ?_
        refine E_s (p' := 10) rfl rfl ?_
        refine E_s (p' := 11) (st' := aI 1 :: _) rfl rfl ?_
        refine E_s (p' := 15) rfl rfl ?_
        refine E_ret rfl rfl ?_
        refine E_ret rfl rfl ?_
        refine E_s (p' := 7) rfl rfl ?_
        refine E_s (p' := 8) rfl rfl ?_
        refine E_s (p' := 9) (st' := aI 1 :: _) rfl rfl ?_
        refine E_s (p' := 11) (st' := aI 100 :: _) rfl rfl ?_
        refine E_callL (p' := 14) (L0 := [some (aI a2), some (aI 1), some (aI 100)]) rfl rfl rfl ?_
        refine E_s (p' := 1) rfl rfl ?_
        refine E_s (p' := 2) (st' := aI 1 :: _) rfl rfl ?_
        refine E_icmp_lt (y := 1) rfl (by decide) (fun q => absurd q (by omega)) (fun _ => ?_)
        refine E_s (p' := 6) rfl rfl ?_
        refine E_s (p' := 7) (st' := aI 100 :: _) rfl rfl ?_
        refine E_icmp_gt (y := 100) rfl (by decide) (fun q => absurd q (by omega)) (fun _ => ?_)
        refine E_s (p' := 11) (st' := aI 1 :: _) rfl rfl ?_
        refine E_s (p' := 15) rfl rfl ?_
        refine E_ret rfl rfl ?_
        refine E_s (p' := 20) rfl rfl ?_
        refine E_s (p' := 21) (st' := aA 124 :: _) rfl rfl ?_
        refine E_s (p' := 24) (st' := aA 126 :: _) rfl rfl ?_
        refine E_s (p' := 25) (st' := aI 3 :: _) rfl rfl ?_
        refine E_s (p' := 26) (st' := aI 15 :: _) rfl rfl ?_
        refine E_s (p' := 27) (L' := [some (aA 124), some (aI 3), some (aI a2), some (aI 15)]) rfl rfl ?_
        refine E_s (p' := 28) (st' := aA 124 :: _) rfl rfl ?_
        refine E_s (p' := 31) (st' := aA 126 :: _) rfl rfl ?_
        refine E_s (p' := 32) (st' := aI 3 :: _) rfl rfl ?_
        refine E_s (p' := 33) rfl rfl ?_
        refine E_stM (p' := 34) (m' := up2 _ 126 3 a2) rfl rfl ?_
        refine E_s (p' := 35) (st' := aA 124 :: _) rfl rfl ?_
        refine E_s (p' := 36) (st' := aI 3 :: _) rfl rfl ?_
        refine E_callL (p' := 39) (L0 := [some (aA 124), some (aI 3)]) rfl rfl rfl ?_
        refine E_s (p' := 1) (st' := aA 124 :: _) rfl rfl ?_
        refine E_s (p' := 4) (st' := aA 140 :: _) rfl rfl ?_
        refine E_s (p' := 5) (st' := aI 3 :: _) rfl rfl ?_
        refine E_s (p' := 6) (st' := aI 0 :: _) rfl rfl ?_
        refine E_stM (p' := 7) (m' := up2 _ 140 3 0) rfl rfl ?_
        refine E_ret rfl rfl ?_
        refine E_s (p' := 40) (st' := aI 15 :: _) rfl rfl ?_
        refine E_ret rfl rfl ?_
        refine E_s (p' := 1174) rfl rfl ?_
        refine E_s (p' := 1177) (L' := [some (aA 0), some (aA 1), some (aA 124), some (aI 6)]) rfl rfl ?_
        refine E_s (p' := 18) rfl rfl ?_
        refine E_s (p' := 19) (st' := aI 6 :: _) rfl rfl ?_
        refine E_s (p' := 20) (st' := aA 0 :: _) rfl rfl ?_
        refine E_s (p' := 21) (st' := aI 6 :: _) rfl rfl ?_
        refine E_s (p' := 23) (st' := aI 6 :: _) rfl rfl ?_
        refine E_s (p' := 24) (st' := aI 0 :: _) rfl rfl ?_
        refine E_s (p' := 1180) rfl rfl ?_
        refine E_s (p' := 1181) (st' := aI 1 :: _) rfl rfl ?_
        exact E_ret rfl rfl ⟨rfl, rfl⟩
    · refine E_s (p' := 23) (st' := aI (-2) :: _) rfl rfl ?_
      refine E_ret rfl rfl ?_
      refine E_s (p' := 473) (st' := aA 124 :: _) rfl rfl ?_
      refine E_s (p' := 474) (st' := aA 0 :: _) rfl rfl ?_
      refine E_s (p' := 475) (st' := aI 0 :: _) rfl rfl ?_
      refine E_s (p' := 476) (st' := aI 1 :: _) rfl rfl ?_
      refine E_s (p' := 477) (st' := aI 1 :: _) rfl rfl ?_
      refine E_scr rfl rfl h1 ?_
      refine E_s (p' := 479) (st' := aA 0 :: _) rfl rfl ?_
      refine E_s (p' := 480) (st' := aI 0 :: _) rfl rfl ?_
      refine E_s (p' := 481) (st' := aI 2 :: _) rfl rfl ?_
      refine E_s (p' := 482) (st' := aI 2 :: _) rfl rfl ?_
      refine E_scr rfl rfl h2 ?_
      refine E_callL (p' := 486) (L0 := [some (aA 124), some (aI 3), some (aI a2), none]) rfl rfl rfl ?_
      refine E_s (p' := 1) (st' := aI 3 :: _) rfl rfl ?_
      refine E_callL (p' := 4) (L0 := [some (aI 3)]) rfl rfl rfl ?_
      refine E_s (p' := 1) (st' := aI 3 :: _) rfl rfl ?_
      refine E_s (p' := 2) (st' := aI 0 :: _) rfl rfl ?_
      refine E_s (p' := 3) (st' := aI 3 :: _) rfl rfl ?_
      refine E_callL (p' := 6) (L0 := [some (aI 3), some (aI 0), some (aI 3)]) rfl rfl rfl ?_
      refine E_s (p' := 1) (st' := aI 3 :: _) rfl rfl ?_
      refine E_s (p' := 2) (st' := aI 0 :: _) rfl rfl ?_
      refine E_s (p' := 5) rfl rfl ?_
      refine E_s (p' := 6) (st' := aI 3 :: _) rfl rfl ?_
      refine E_s (p' := 7) (st' := aI 3 :: _) rfl rfl ?_
      refine E_s (p' := 10) rfl rfl ?_
      refine E_s (p' := 11) (st' := aI 1 :: _) rfl rfl ?_
      refine E_s (p' := 15) rfl rfl ?_
      refine E_ret rfl rfl ?_
      refine E_ret rfl rfl ?_
      refine E_s (p' := 7) rfl rfl ?_
      refine E_s (p' := 8) rfl rfl ?_
      refine E_s (p' := 9) (st' := aI 1 :: _) rfl rfl ?_
      refine E_s (p' := 11) (st' := aI 100 :: _) rfl rfl ?_
      refine E_callL (p' := 14) (L0 := [some (aI a2), some (aI 1), some (aI 100)]) rfl rfl rfl ?_
      refine E_s (p' := 1) rfl rfl ?_
      refine E_s (p' := 2) (st' := aI 1 :: _) rfl rfl ?_
      refine E_icmp_lt (y := 1) rfl (by decide) (fun q => absurd q (by omega)) (fun _ => ?_)
      refine E_s (p' := 6) rfl rfl ?_
      refine E_s (p' := 7) (st' := aI 100 :: _) rfl rfl ?_
      refine E_icmp_gt (y := 100) rfl (by decide) (fun _ => ?_) (fun q => absurd q (by omega))
      refine E_s (p' := 15) (st' := aI 0 :: _) rfl rfl ?_
      refine E_ret rfl rfl ?_
      refine E_s (p' := 17) rfl rfl ?_
      refine E_s (p' := 19) (st' := aI (-2) :: _) rfl rfl ?_
      refine E_ret rfl rfl ?_
      refine E_s (p' := 1174) rfl rfl ?_
      refine E_s (p' := 1177) (L' := [some (aA 0), some (aA 1), some (aA 124), some (aI 6)]) rfl rfl ?_
      refine E_s (p' := 18) rfl rfl ?_
      refine E_s (p' := 19) (st' := aI 6 :: _) rfl rfl ?_
      refine E_s (p' := 20) (st' := aA 0 :: _) rfl rfl ?_
      refine E_s (p' := 21) (st' := aI 6 :: _) rfl rfl ?_
      refine E_s (p' := 23) (st' := aI 6 :: _) rfl rfl ?_
      refine E_s (p' := 24) (st' := aI 0 :: _) rfl rfl ?_
      refine E_s (p' := 1180) rfl rfl ?_
      refine E_s (p' := 1181) (st' := aI 1 :: _) rfl rfl ?_
      exact E_ret rfl rfl ⟨rfl, rfl⟩
set_option maxRecDepth 100000 in
set_option maxHeartbeats 40000000 in
theorem pc_6_o (xs : Nat → Int) {z a1 a2 a3 a4 a5 : Int} (hz : b32 (fun a b => a &&& b) z 31 = 6) (h0 : xs 0 = z) (h1 : xs 1 = a1) (h2 : xs 2 = a2) (h3 : xs 3 = a3) (h4 : xs 4 = a4) (h5 : xs 5 = a5) (hr : a1 < 0 ∨ 3 < a1) : E 0 18 LL [] (s0 xs 6) PQ := by
  refine E_s (p' := 19) (st' := aI 0 :: _) rfl rfl ?_
  refine E_s (p' := 20) (st' := aA 0 :: _) rfl rfl ?_
  refine E_s (p' := 21) (st' := aI 6 :: _) rfl rfl ?_
  refine E_s (p' := 23) (st' := aI 6 :: _) rfl rfl ?_
  refine E_s (p' := 24) (st' := aI 0 :: _) rfl rfl ?_
  refine E_s (p' := 27) rfl rfl ?_
  refine E_s (p' := 28) (st' := aA 0 :: _) rfl rfl ?_
  refine E_s (p' := 29) (st' := aI 0 :: _) rfl rfl ?_
  refine E_scr rfl rfl h0 ?_
  refine E_s (p' := 32) (st' := aI 31 :: _) rfl rfl ?_
  refine E_s (p' := 33) rfl rfl ?_
  refine E_val hz ?_
  refine E_s (p' := 458) rfl rfl ?_
  refine E_s (p' := 459) (st' := aA 1 :: _) rfl rfl ?_
  refine E_s (p' := 460) (st' := aA 0 :: _) rfl rfl ?_
  refine E_s (p' := 461) (st' := aI 0 :: _) rfl rfl ?_
  refine E_s (p' := 462) (st' := aI 1 :: _) rfl rfl ?_
  refine E_s (p' := 463) (st' := aI 1 :: _) rfl rfl ?_
  refine E_scr rfl rfl h1 ?_
  refine E_s (p' := 465) (st' := aA 0 :: _) rfl rfl ?_
  refine E_s (p' := 466) (st' := aI 0 :: _) rfl rfl ?_
  refine E_s (p' := 467) (st' := aI 2 :: _) rfl rfl ?_
  refine E_s (p' := 468) (st' := aI 2 :: _) rfl rfl ?_
  refine E_scr rfl rfl h2 ?_
  refine E_callL (p' := 472) (L0 := [some (aA 1), some (aI a1), some (aI a2), none, none]) rfl rfl rfl ?_
  refine E_s (p' := 1) (st' := aA 1 :: _) rfl rfl ?_
  refine E_s (p' := 2) rfl rfl ?_
  refine E_callL (p' := 5) (L0 := [some (aA 1), some (aI a1)]) rfl rfl rfl ?_
  refine E_s (p' := 1) rfl rfl ?_
  refine E_if_lt rfl (by decide) (fun _ => ?_) (fun _ => ?_)
  · refine E_s (p' := 19) rfl rfl ?_
    refine E_ret rfl rfl ?_
    refine E_s (p' := 6) (L' := [some (aA 1), some (aI a1), some (aI a2), some aN, none]) rfl rfl ?_
    refine E_s (p' := 7) rfl rfl ?_
    refine E_s (p' := 21) rfl rfl ?_
    refine E_s (p' := 23) (st' := aI (-2) :: _) rfl rfl ?_
    refine E_ret rfl rfl ?_
    refine E_s (p' := 473) (st' := aA 124 :: _) rfl rfl ?_
    refine E_s (p' := 474) (st' := aA 0 :: _) rfl rfl ?_
    refine E_s (p' := 475) (st' := aI 0 :: _) rfl rfl ?_
    refine E_s (p' := 476) (st' := aI 1 :: _) rfl rfl ?_
    refine E_s (p' := 477) (st' := aI 1 :: _) rfl rfl ?_
    refine E_scr rfl rfl h1 ?_
    refine E_s (p' := 479) (st' := aA 0 :: _) rfl rfl ?_
    refine E_s (p' := 480) (st' := aI 0 :: _) rfl rfl ?_
    refine E_s (p' := 481) (st' := aI 2 :: _) rfl rfl ?_
    refine E_s (p' := 482) (st' := aI 2 :: _) rfl rfl ?_
    refine E_scr rfl rfl h2 ?_
    refine E_callL (p' := 486) (L0 := [some (aA 124), some (aI a1), some (aI a2), none]) rfl rfl rfl ?_
    refine E_s (p' := 1) rfl rfl ?_
    refine E_callL (p' := 4) (L0 := [some (aI a1)]) rfl rfl rfl ?_
    refine E_s (p' := 1) rfl rfl ?_
    refine E_s (p' := 2) (st' := aI 0 :: _) rfl rfl ?_
    refine E_s (p' := 3) (st' := aI 3 :: _) rfl rfl ?_
    refine E_callL (p' := 6) (L0 := [some (aI a1), some (aI 0), some (aI 3)]) rfl rfl rfl ?_
    refine E_s (p' := 1) rfl rfl ?_
    refine E_s (p' := 2) (st' := aI 0 :: _) rfl rfl ?_
    refine E_icmp_lt (y := 0) rfl (by decide) (fun _ => ?_) (fun q => absurd q (by omega))
    refine E_s (p' := 15) (st' := aI 0 :: _) rfl rfl ?_
    refine E_ret rfl rfl ?_
    refine E_ret rfl rfl ?_
    refine E_s (p' := 17) rfl rfl ?_
    refine E_s (p' := 19) (st' := aI (-2) :: _) rfl rfl ?_
    refine E_ret rfl rfl ?_
    refine E_s (p' := 1174) rfl rfl ?_
    refine E_s (p' := 1177) (L' := [some (aA 0), some (aA 1), some (aA 124), some (aI 6)]) rfl rfl ?_
    refine E_s (p' := 18) rfl rfl ?_
    refine E_s (p' := 19) (st' := aI 6 :: _) rfl rfl ?_
    refine E_s (p' := 20) (st' := aA 0 :: _) rfl rfl ?_
    refine E_s (p' := 21) (st' := aI 6 :: _) rfl rfl ?_
    refine E_s (p' := 23) (st' := aI 6 :: _) rfl rfl ?_
    refine E_s (p' := 24) (st' := aI 0 :: _) rfl rfl ?_
    refine E_s (p' := 1180) rfl rfl ?_
    refine E_s (p' := 1181) (st' := aI 1 :: _) rfl rfl ?_
    exact E_ret rfl rfl ⟨rfl, rfl⟩
  · refine E_s (p' := 5) rfl rfl ?_
    refine E_s (p' := 6) (st' := aI 4 :: _) rfl rfl ?_
    refine E_icmp_ge (y := 4) rfl (by decide) (fun _ => ?_) (fun q => absurd q (by omega))
    refine E_s (p' := 19) rfl rfl ?_
    refine E_ret rfl rfl ?_
    refine E_s (p' := 6) (L' := [some (aA 1), some (aI a1), some (aI a2), some aN, none]) rfl rfl ?_
    refine E_s (p' := 7) rfl rfl ?_
    refine E_s (p' := 21) rfl rfl ?_
    refine E_s (p' := 23) (st' := aI (-2) :: _) rfl rfl ?_
    refine E_ret rfl rfl ?_
    refine E_s (p' := 473) (st' := aA 124 :: _) rfl rfl ?_
    refine E_s (p' := 474) (st' := aA 0 :: _) rfl rfl ?_
    refine E_s (p' := 475) (st' := aI 0 :: _) rfl rfl ?_
    refine E_s (p' := 476) (st' := aI 1 :: _) rfl rfl ?_
    refine E_s (p' := 477) (st' := aI 1 :: _) rfl rfl ?_
    refine E_scr rfl rfl h1 ?_
    refine E_s (p' := 479) (st' := aA 0 :: _) rfl rfl ?_
    refine E_s (p' := 480) (st' := aI 0 :: _) rfl rfl ?_
    refine E_s (p' := 481) (st' := aI 2 :: _) rfl rfl ?_
    refine E_s (p' := 482) (st' := aI 2 :: _) rfl rfl ?_
    refine E_scr rfl rfl h2 ?_
    refine E_callL (p' := 486) (L0 := [some (aA 124), some (aI a1), some (aI a2), none]) rfl rfl rfl ?_
    refine E_s (p' := 1) rfl rfl ?_
    refine E_callL (p' := 4) (L0 := [some (aI a1)]) rfl rfl rfl ?_
    refine E_s (p' := 1) rfl rfl ?_
    refine E_s (p' := 2) (st' := aI 0 :: _) rfl rfl ?_
    refine E_s (p' := 3) (st' := aI 3 :: _) rfl rfl ?_
    refine E_callL (p' := 6) (L0 := [some (aI a1), some (aI 0), some (aI 3)]) rfl rfl rfl ?_
    refine E_s (p' := 1) rfl rfl ?_
    refine E_s (p' := 2) (st' := aI 0 :: _) rfl rfl ?_
    refine E_icmp_lt (y := 0) rfl (by decide) (fun q => absurd q (by omega)) (fun _ => ?_)
    refine E_s (p' := 6) rfl rfl ?_
    refine E_s (p' := 7) (st' := aI 3 :: _) rfl rfl ?_
    refine E_icmp_gt (y := 3) rfl (by decide) (fun _ => ?_) (fun q => absurd q (by omega))
    refine E_s (p' := 15) (st' := aI 0 :: _) rfl rfl ?_
    refine E_ret rfl rfl ?_
    refine E_ret rfl rfl ?_
    refine E_s (p' := 17) rfl rfl ?_
    refine E_s (p' := 19) (st' := aI (-2) :: _) rfl rfl ?_
    refine E_ret rfl rfl ?_
    refine E_s (p' := 1174) rfl rfl ?_
    refine E_s (p' := 1177) (L' := [some (aA 0), some (aA 1), some (aA 124), some (aI 6)]) rfl rfl ?_
    refine E_s (p' := 18) rfl rfl ?_
    refine E_s (p' := 19) (st' := aI 6 :: _) rfl rfl ?_
    refine E_s (p' := 20) (st' := aA 0 :: _) rfl rfl ?_
    refine E_s (p' := 21) (st' := aI 6 :: _) rfl rfl ?_
    refine E_s (p' := 23) (st' := aI 6 :: _) rfl rfl ?_
    refine E_s (p' := 24) (st' := aI 0 :: _) rfl rfl ?_
    refine E_s (p' := 1180) rfl rfl ?_
    refine E_s (p' := 1181) (st' := aI 1 :: _) rfl rfl ?_
    exact E_ret rfl rfl ⟨rfl, rfl⟩
set_option maxRecDepth 100000 in
set_option maxHeartbeats 40000000 in
theorem pc_7_0 (xs : Nat → Int) {z a2 a3 a4 a5 : Int} (hz : b32 (fun a b => a &&& b) z 31 = 7) (h0 : xs 0 = z) (h1 : xs 1 = 0) (h2 : xs 2 = a2) (h3 : xs 3 = a3) (h4 : xs 4 = a4) (h5 : xs 5 = a5) : E 0 18 LL [] (s0 xs 6) PQ := by
  refine E_s (p' := 19) (st' := aI 0 :: _) rfl rfl ?_
  refine E_s (p' := 20) (st' := aA 0 :: _) rfl rfl ?_
  refine E_s (p' := 21) (st' := aI 6 :: _) rfl rfl ?_
  refine E_s (p' := 23) (st' := aI 6 :: _) rfl rfl ?_
  refine E_s (p' := 24) (st' := aI 0 :: _) rfl rfl ?_
  refine E_s (p' := 27) rfl rfl ?_
  refine E_s (p' := 28) (st' := aA 0 :: _) rfl rfl ?_
  refine E_s (p' := 29) (st' := aI 0 :: _) rfl rfl ?_
  refine E_scr rfl rfl h0 ?_
  refine E_s (p' := 32) (st' := aI 31 :: _) rfl rfl ?_
  refine E_s (p' := 33) rfl rfl ?_
  refine E_val hz ?_
  refine E_s (p' := 491) rfl rfl ?_
  refine E_s (p' := 492) (st' := aA 1 :: _) rfl rfl ?_
  refine E_s (p' := 493) (st' := aA 0 :: _) rfl rfl ?_
  refine E_s (p' := 494) (st' := aI 0 :: _) rfl rfl ?_
  refine E_s (p' := 495) (st' := aI 1 :: _) rfl rfl ?_
  refine E_s (p' := 496) (st' := aI 1 :: _) rfl rfl ?_
  refine E_scr rfl rfl h1 ?_
  refine E_callL (p' := 500) (L0 := [some (aA 1), some (aI 0), none, none]) rfl rfl rfl ?_
  refine E_s (p' := 1) (st' := aA 1 :: _) rfl rfl ?_
  refine E_s (p' := 2) (st' := aI 0 :: _) rfl rfl ?_
  refine E_callL (p' := 5) (L0 := [some (aA 1), some (aI 0)]) rfl rfl rfl ?_
  refine E_s (p' := 1) (st' := aI 0 :: _) rfl rfl ?_
  refine E_s (p' := 4) rfl rfl ?_
  refine E_s (p' := 5) (st' := aI 0 :: _) rfl rfl ?_
  refine E_s (p' := 6) (st' := aI 4 :: _) rfl rfl ?_
  refine E_s (p' := 9) rfl rfl ?_
  refine E_s (p' := 10) (st' := aA 1 :: _) rfl rfl ?_
  refine E_s (p' := 13) (st' := aA 2 :: _) rfl rfl ?_
  refine E_s (p' := 14) (st' := aI 0 :: _) rfl rfl ?_
  refine E_s (p' := 15) (st' := aA 20 :: _) rfl rfl ?_
  refine E_s (p' := 19) rfl rfl ?_
  refine E_ret rfl rfl ?_
  refine E_s (p' := 6) (L' := [some (aA 1), some (aI 0), some (aA 20), none]) rfl rfl ?_
  refine E_s (p' := 7) (st' := aA 20 :: _) rfl rfl ?_
  refine E_s (p' := 13) rfl rfl ?_
  refine E_s (p' := 14) (st' := aA 20 :: _) rfl rfl ?_
  refine E_s (p' := 17) (st' := aA 21 :: _) rfl rfl ?_
  refine E_s (p' := 20) (st' := aI 0 :: _) rfl rfl ?_
  refine E_s (p' := 21) (L' := [some (aA 1), some (aI 0), some (aA 20), some (aI 0)]) rfl rfl ?_
  refine E_s (p' := 22) (st' := aA 20 :: _) rfl rfl ?_
  refine E_callL (p' := 25) (L0 := [some (aA 20)]) rfl rfl rfl ?_
  refine E_s (p' := 1) (st' := aA 20 :: _) rfl rfl ?_
  refine E_s (p' := 4) (st' := aA 21 :: _) rfl rfl ?_
  refine E_s (p' := 5) (st' := aI 0 :: _) rfl rfl ?_
  refine E_stM (p' := 8) (m' := up2 _ 21 7 0) rfl rfl ?_
  refine E_s (p' := 9) (st' := aA 20 :: _) rfl rfl ?_
  refine E_s (p' := 12) (st' := aA 29 :: _) rfl rfl ?_
  refine E_s (p' := 13) (st' := aI 0 :: _) rfl rfl ?_
  refine E_stM (p' := 16) (m' := up2 _ 29 3 0) rfl rfl ?_
  refine E_s (p' := 17) (st' := aA 20 :: _) rfl rfl ?_
  refine E_s (p' := 19) (st' := aI 15 :: _) rfl rfl ?_
  refine E_stM (p' := 22) (m' := up2 _ 20 5 15) rfl rfl ?_
  refine E_s (p' := 23) (st' := aA 20 :: _) rfl rfl ?_
  refine E_callL (p' := 26) (L0 := [some (aA 20)]) rfl rfl rfl ?_
  refine E_s (p' := 1) (st' := aA 20 :: _) rfl rfl ?_
  refine E_s (p' := 2) (st' := aI 0 :: _) rfl rfl ?_
  refine E_stM (p' := 5) (m' := up2 _ 20 7 0) rfl rfl ?_
  refine E_s (p' := 6) (st' := aA 20 :: _) rfl rfl ?_
  refine E_s (p' := 7) (st' := aI 0 :: _) rfl rfl ?_
  refine E_stM (p' := 10) (m' := up2 _ 20 6 0) rfl rfl ?_
  refine E_ret rfl rfl ?_
  refine E_ret rfl rfl ?_
  refine E_s (p' := 26) (st' := aI 0 :: _) rfl rfl ?_
  refine E_ret rfl rfl ?_
  refine E_s (p' := 501) (st' := aA 124 :: _) rfl rfl ?_
  refine E_s (p' := 502) (st' := aA 0 :: _) rfl rfl ?_
  refine E_s (p' := 503) (st' := aI 0 :: _) rfl rfl ?_
  refine E_s (p' := 504) (st' := aI 1 :: _) rfl rfl ?_
  refine E_s (p' := 505) (st' := aI 1 :: _) rfl rfl ?_
  refine E_scr rfl rfl h1 ?_
  refine E_callL (p' := 509) (L0 := [some (aA 124), some (aI 0), none]) rfl rfl rfl ?_
  refine E_s (p' := 1) (st' := aI 0 :: _) rfl rfl ?_
  refine E_callL (p' := 4) (L0 := [some (aI 0)]) rfl rfl rfl ?_
  refine E_s (p' := 1) (st' := aI 0 :: _) rfl rfl ?_
  refine E_s (p' := 2) (st' := aI 0 :: _) rfl rfl ?_
  refine E_s (p' := 3) (st' := aI 3 :: _) rfl rfl ?_
  refine E_callL (p' := 6) (L0 := [some (aI 0), some (aI 0), some (aI 3)]) rfl rfl rfl ?_
  refine E_s (p' := 1) (st' := aI 0 :: _) rfl rfl ?_
  refine E_s (p' := 2) (st' := aI 0 :: _) rfl rfl ?_
  refine E_s (p' := 5) rfl rfl ?_
  refine E_s (p' := 6) (st' := aI 0 :: _) rfl rfl ?_
  refine E_s (p' := 7) (st' := aI 3 :: _) rfl rfl ?_
  refine E_s (p' := 10) rfl rfl ?_
  refine E_s (p' := 11) (st' := aI 1 :: _) rfl rfl ?_
  refine E_s (p' := 15) rfl rfl ?_
  refine E_ret rfl rfl ?_
  refine E_ret rfl rfl ?_
  refine E_s (p' := 10) rfl rfl ?_
  refine E_s (p' := 11) (st' := aA 124 :: _) rfl rfl ?_
  refine E_s (p' := 14) (st' := aA 125 :: _) rfl rfl ?_
  refine E_s (p' := 15) (st' := aI 0 :: _) rfl rfl ?_
  refine E_s (p' := 16) (st' := aI 0 :: _) rfl rfl ?_
  refine E_s (p' := 17) (L' := [some (aA 124), some (aI 0), some (aI 0)]) rfl rfl ?_
  refine E_s (p' := 18) (st' := aA 124 :: _) rfl rfl ?_
  refine E_s (p' := 21) (st' := aA 125 :: _) rfl rfl ?_
  refine E_s (p' := 22) (st' := aI 0 :: _) rfl rfl ?_
  refine E_s (p' := 23) (st' := aI 0 :: _) rfl rfl ?_
  refine E_stM (p' := 24) (m' := up2 _ 125 0 0) rfl rfl ?_
  refine E_s (p' := 25) (st' := aA 124 :: _) rfl rfl ?_
  refine E_s (p' := 28) (st' := aA 136 :: _) rfl rfl ?_
  refine E_s (p' := 29) (st' := aI 0 :: _) rfl rfl ?_
  refine E_s (p' := 30) (st' := aI 0 :: _) rfl rfl ?_
  refine E_stM (p' := 31) (m' := up2 _ 136 0 0) rfl rfl ?_
  refine E_s (p' := 32) (st' := aA 124 :: _) rfl rfl ?_
  refine E_s (p' := 35) (st' := aA 126 :: _) rfl rfl ?_
  refine E_s (p' := 36) (st' := aI 0 :: _) rfl rfl ?_
  refine E_s (p' := 38) (st' := aI 15 :: _) rfl rfl ?_
  refine E_stM (p' := 39) (m' := up2 _ 126 0 15) rfl rfl ?_
  refine E_s (p' := 40) (st' := aA 124 :: _) rfl rfl ?_
  refine E_s (p' := 41) (st' := aI 0 :: _) rfl rfl ?_
  refine E_callL (p' := 44) (L0 := [some (aA 124), some (aI 0)]) rfl rfl rfl ?_
  refine E_s (p' := 1) (st' := aA 124 :: _) rfl rfl ?_
  refine E_s (p' := 4) (st' := aA 140 :: _) rfl rfl ?_
  refine E_s (p' := 5) (st' := aI 0 :: _) rfl rfl ?_
  refine E_s (p' := 6) (st' := aI 0 :: _) rfl rfl ?_
  refine E_stM (p' := 7) (m' := up2 _ 140 0 0) rfl rfl ?_
  refine E_ret rfl rfl ?_
  refine E_s (p' := 45) (st' := aI 0 :: _) rfl rfl ?_
  refine E_ret rfl rfl ?_
  refine E_s (p' := 1174) rfl rfl ?_
  refine E_s (p' := 1177) (L' := [some (aA 0), some (aA 1), some (aA 124), some (aI 6)]) rfl rfl ?_
  refine E_s (p' := 18) rfl rfl ?_
  refine E_s (p' := 19) (st' := aI 6 :: _) rfl rfl ?_
  refine E_s (p' := 20) (st' := aA 0 :: _) rfl rfl ?_
  refine E_s (p' := 21) (st' := aI 6 :: _) rfl rfl ?_
  refine E_s (p' := 23) (st' := aI 6 :: _) rfl rfl ?_
  refine E_s (p' := 24) (st' := aI 0 :: _) rfl rfl ?_
  refine E_s (p' := 1180) rfl rfl ?_
  refine E_s (p' := 1181) (st' := aI 1 :: _) rfl rfl ?_
  exact E_ret rfl rfl ⟨rfl, rfl⟩
set_option maxRecDepth 100000 in
set_option maxHeartbeats 40000000 in
theorem pc_7_1 (xs : Nat → Int) {z a2 a3 a4 a5 : Int} (hz : b32 (fun a b => a &&& b) z 31 = 7) (h0 : xs 0 = z) (h1 : xs 1 = 1) (h2 : xs 2 = a2) (h3 : xs 3 = a3) (h4 : xs 4 = a4) (h5 : xs 5 = a5) : E 0 18 LL [] (s0 xs 6) PQ := by
  refine E_s (p' := 19) (st' := aI 0 :: _) rfl rfl ?_
  refine E_s (p' := 20) (st' := aA 0 :: _) rfl rfl ?_
  refine E_s (p' := 21) (st' := aI 6 :: _) rfl rfl ?_
  refine E_s (p' := 23) (st' := aI 6 :: _) rfl rfl ?_
  refine E_s (p' := 24) (st' := aI 0 :: _) rfl rfl ?_
  refine E_s (p' := 27) rfl rfl ?_
  refine E_s (p' := 28) (st' := aA 0 :: _) rfl rfl ?_
  refine E_s (p' := 29) (st' := aI 0 :: _) rfl rfl ?_
  refine E_scr rfl rfl h0 ?_
  refine E_s (p' := 32) (st' := aI 31 :: _) rfl rfl ?_
  refine E_s (p' := 33) rfl rfl ?_
  refine E_val hz ?_
  refine E_s (p' := 491) rfl rfl ?_
  refine E_s (p' := 492) (st' := aA 1 :: _) rfl rfl ?_
  refine E_s (p' := 493) (st' := aA 0 :: _) rfl rfl ?_
  refine E_s (p' := 494) (st' := aI 0 :: _) rfl rfl ?_
  refine E_s (p' := 495) (st' := aI 1 :: _) rfl rfl ?_
  refine E_s (p' := 496) (st' := aI 1 :: _) rfl rfl ?_
  refine E_scr rfl rfl h1 ?_
  refine E_callL (p' := 500) (L0 := [some (aA 1), some (aI 1), none, none]) rfl rfl rfl ?_
  refine E_s (p' := 1) (st' := aA 1 :: _) rfl rfl ?_
  refine E_s (p' := 2) (st' := aI 1 :: _) rfl rfl ?_
  refine E_callL (p' := 5) (L0 := [some (aA 1), some (aI 1)]) rfl rfl rfl ?_
  refine E_s (p' := 1) (st' := aI 1 :: _) rfl rfl ?_
  refine E_s (p' := 4) rfl rfl ?_
  refine E_s (p' := 5) (st' := aI 1 :: _) rfl rfl ?_
  refine E_s (p' := 6) (st' := aI 4 :: _) rfl rfl ?_
  refine E_s (p' := 9) rfl rfl ?_
  refine E_s (p' := 10) (st' := aA 1 :: _) rfl rfl ?_
  refine E_s (p' := 13) (st' := aA 2 :: _) rfl rfl ?_
  refine E_s (p' := 14) (st' := aI 1 :: _) rfl rfl ?_
  refine E_s (p' := 15) (st' := aA 46 :: _) rfl rfl ?_
  refine E_s (p' := 19) rfl rfl ?_
  refine E_ret rfl rfl ?_
  refine E_s (p' := 6) (L' := [some (aA 1), some (aI 1), some (aA 46), none]) rfl rfl ?_
  refine E_s (p' := 7) (st' := aA 46 :: _) rfl rfl ?_
  refine E_s (p' := 13) rfl rfl ?_
  refine E_s (p' := 14) (st' := aA 46 :: _) rfl rfl ?_
  refine E_s (p' := 17) (st' := aA 47 :: _) rfl rfl ?_
  refine E_s (p' := 20) (st' := aI 0 :: _) rfl rfl ?_
  refine E_s (p' := 21) (L' := [some (aA 1), some (aI 1), some (aA 46), some (aI 0)]) rfl rfl ?_
  refine E_s (p' := 22) (st' := aA 46 :: _) rfl rfl ?_
  refine E_callL (p' := 25) (L0 := [some (aA 46)]) rfl rfl rfl ?_
  refine E_s (p' := 1) (st' := aA 46 :: _) rfl rfl ?_
  refine E_s (p' := 4) (st' := aA 47 :: _) rfl rfl ?_
  refine E_s (p' := 5) (st' := aI 0 :: _) rfl rfl ?_
  refine E_stM (p' := 8) (m' := up2 _ 47 7 0) rfl rfl ?_
  refine E_s (p' := 9) (st' := aA 46 :: _) rfl rfl ?_
  refine E_s (p' := 12) (st' := aA 55 :: _) rfl rfl ?_
  refine E_s (p' := 13) (st' := aI 0 :: _) rfl rfl ?_
  refine E_stM (p' := 16) (m' := up2 _ 55 3 0) rfl rfl ?_
  refine E_s (p' := 17) (st' := aA 46 :: _) rfl rfl ?_
  refine E_s (p' := 19) (st' := aI 15 :: _) rfl rfl ?_
  refine E_stM (p' := 22) (m' := up2 _ 46 5 15) rfl rfl ?_
  refine E_s (p' := 23) (st' := aA 46 :: _) rfl rfl ?_
  refine E_callL (p' := 26) (L0 := [some (aA 46)]) rfl rfl rfl ?_
  refine E_s (p' := 1) (st' := aA 46 :: _) rfl rfl ?_
  refine E_s (p' := 2) (st' := aI 0 :: _) rfl rfl ?_
  refine E_stM (p' := 5) (m' := up2 _ 46 7 0) rfl rfl ?_
  refine E_s (p' := 6) (st' := aA 46 :: _) rfl rfl ?_
  refine E_s (p' := 7) (st' := aI 0 :: _) rfl rfl ?_
  refine E_stM (p' := 10) (m' := up2 _ 46 6 0) rfl rfl ?_
  refine E_ret rfl rfl ?_
  refine E_ret rfl rfl ?_
  refine E_s (p' := 26) (st' := aI 0 :: _) rfl rfl ?_
  refine E_ret rfl rfl ?_
  refine E_s (p' := 501) (st' := aA 124 :: _) rfl rfl ?_
  refine E_s (p' := 502) (st' := aA 0 :: _) rfl rfl ?_
  refine E_s (p' := 503) (st' := aI 0 :: _) rfl rfl ?_
  refine E_s (p' := 504) (st' := aI 1 :: _) rfl rfl ?_
  refine E_s (p' := 505) (st' := aI 1 :: _) rfl rfl ?_
  refine E_scr rfl rfl h1 ?_
  refine E_callL (p' := 509) (L0 := [some (aA 124), some (aI 1), none]) rfl rfl rfl ?_
  refine E_s (p' := 1) (st' := aI 1 :: _) rfl rfl ?_
  refine E_callL (p' := 4) (L0 := [some (aI 1)]) rfl rfl rfl ?_
  refine E_s (p' := 1) (st' := aI 1 :: _) rfl rfl ?_
  refine E_s (p' := 2) (st' := aI 0 :: _) rfl rfl ?_
  refine E_s (p' := 3) (st' := aI 3 :: _) rfl rfl ?_
  refine E_callL (p' := 6) (L0 := [some (aI 1), some (aI 0), some (aI 3)]) rfl rfl rfl ?_
  refine E_s (p' := 1) (st' := aI 1 :: _) rfl rfl ?_
  refine E_s (p' := 2) (st' := aI 0 :: _) rfl rfl ?_
  refine E_s (p' := 5) rfl rfl ?_
  refine E_s (p' := 6) (st' := aI 1 :: _) rfl rfl ?_
  refine E_s (p' := 7) (st' := aI 3 :: _) rfl rfl ?_
  refine E_s (p' := 10) rfl rfl ?_
  refine E_s (p' := 11) (st' := aI 1 :: _) rfl rfl ?_
  refine E_s (p' := 15) rfl rfl ?_
  refine E_ret rfl rfl ?_
  refine E_ret rfl rfl ?_
  refine E_s (p' := 10) rfl rfl ?_
  refine E_s (p' := 11) (st' := aA 124 :: _) rfl rfl ?_
  refine E_s (p' := 14) (st' := aA 125 :: _) rfl rfl ?_
  refine E_s (p' := 15) (st' := aI 1 :: _) rfl rfl ?_
  refine E_s (p' := 16) (st' := aI 0 :: _) rfl rfl ?_
  refine E_s (p' := 17) (L' := [some (aA 124), some (aI 1), some (aI 0)]) rfl rfl ?_
  refine E_s (p' := 18) (st' := aA 124 :: _) rfl rfl ?_
  refine E_s (p' := 21) (st' := aA 125 :: _) rfl rfl ?_
  refine E_s (p' := 22) (st' := aI 1 :: _) rfl rfl ?_
  refine E_s (p' := 23) (st' := aI 0 :: _) rfl rfl ?_
  refine E_stM (p' := 24) (m' := up2 _ 125 1 0) rfl rfl ?_
  refine E_s (p' := 25) (st' := aA 124 :: _) rfl rfl ?_
  refine E_s (p' := 28) (st' := aA 136 :: _) rfl rfl ?_
  refine E_s (p' := 29) (st' := aI 1 :: _) rfl rfl ?_
  refine E_s (p' := 30) (st' := aI 0 :: _) rfl rfl ?_
  refine E_stM (p' := 31) (m' := up2 _ 136 1 0) rfl rfl ?_
  refine E_s (p' := 32) (st' := aA 124 :: _) rfl rfl ?_
  refine E_s (p' := 35) (st' := aA 126 :: _) rfl rfl ?_
  refine E_s (p' := 36) (st' := aI 1 :: _) rfl rfl ?_
  refine E_s (p' := 38) (st' := aI 15 :: _) rfl rfl ?_
  refine E_stM (p' := 39) (m' := up2 _ 126 1 15) rfl rfl ?_
  refine E_s (p' := 40) (st' := aA 124 :: _) rfl rfl ?_
  refine E_s (p' := 41) (st' := aI 1 :: _) rfl rfl ?_
  refine E_callL (p' := 44) (L0 := [some (aA 124), some (aI 1)]) rfl rfl rfl ?_
  refine E_s (p' := 1) (st' := aA 124 :: _) rfl rfl ?_
  refine E_s (p' := 4) (st' := aA 140 :: _) rfl rfl ?_
  refine E_s (p' := 5) (st' := aI 1 :: _) rfl rfl ?_
  refine E_s (p' := 6) (st' := aI 0 :: _) rfl rfl ?_
  refine E_stM (p' := 7) (m' := up2 _ 140 1 0) rfl rfl ?_
  refine E_ret rfl rfl ?_
  refine E_s (p' := 45) (st' := aI 0 :: _) rfl rfl ?_
  refine E_ret rfl rfl ?_
  refine E_s (p' := 1174) rfl rfl ?_
  refine E_s (p' := 1177) (L' := [some (aA 0), some (aA 1), some (aA 124), some (aI 6)]) rfl rfl ?_
  refine E_s (p' := 18) rfl rfl ?_
  refine E_s (p' := 19) (st' := aI 6 :: _) rfl rfl ?_
  refine E_s (p' := 20) (st' := aA 0 :: _) rfl rfl ?_
  refine E_s (p' := 21) (st' := aI 6 :: _) rfl rfl ?_
  refine E_s (p' := 23) (st' := aI 6 :: _) rfl rfl ?_
  refine E_s (p' := 24) (st' := aI 0 :: _) rfl rfl ?_
  refine E_s (p' := 1180) rfl rfl ?_
  refine E_s (p' := 1181) (st' := aI 1 :: _) rfl rfl ?_
  exact E_ret rfl rfl ⟨rfl, rfl⟩
set_option maxRecDepth 100000 in
set_option maxHeartbeats 40000000 in
theorem pc_7_2 (xs : Nat → Int) {z a2 a3 a4 a5 : Int} (hz : b32 (fun a b => a &&& b) z 31 = 7) (h0 : xs 0 = z) (h1 : xs 1 = 2) (h2 : xs 2 = a2) (h3 : xs 3 = a3) (h4 : xs 4 = a4) (h5 : xs 5 = a5) : E 0 18 LL [] (s0 xs 6) PQ := by
  refine E_s (p' := 19) (st' := aI 0 :: _) rfl rfl ?_
  refine E_s (p' := 20) (st' := aA 0 :: _) rfl rfl ?_
  refine E_s (p' := 21) (st' := aI 6 :: _) rfl rfl ?_
  refine E_s (p' := 23) (st' := aI 6 :: _) rfl rfl ?_
  refine E_s (p' := 24) (st' := aI 0 :: _) rfl rfl ?_
  refine E_s (p' := 27) rfl rfl ?_
  refine E_s (p' := 28) (st' := aA 0 :: _) rfl rfl ?_
  refine E_s (p' := 29) (st' := aI 0 :: _) rfl rfl ?_
  refine E_scr rfl rfl h0 ?_
  refine E_s (p' := 32) (st' := aI 31 :: _) rfl rfl ?_
  refine E_s (p' := 33) rfl rfl ?_
  refine E_val hz ?_
  refine E_s (p' := 491) rfl rfl ?_
  refine E_s (p' := 492) (st' := aA 1 :: _) rfl rfl ?_
  refine E_s (p' := 493) (st' := aA 0 :: _) rfl rfl ?_
  refine E_s (p' := 494) (st' := aI 0 :: _) rfl rfl ?_
  refine E_s (p' := 495) (st' := aI 1 :: _) rfl rfl ?_
  refine E_s (p' := 496) (st' := aI 1 :: _) rfl rfl ?_
  refine E_scr rfl rfl h1 ?_
  refine E_callL (p' := 500) (L0 := [some (aA 1), some (aI 2), none, none]) rfl rfl rfl ?_
  refine E_s (p' := 1) (st' := aA 1 :: _) rfl rfl ?_
  refine E_s (p' := 2) (st' := aI 2 :: _) rfl rfl ?_
  refine E_callL (p' := 5) (L0 := [some (aA 1), some (aI 2)]) rfl rfl rfl ?_
  refine E_s (p' := 1) (st' := aI 2 :: _) rfl rfl ?_
  refine E_s (p' := 4) rfl rfl ?_
  refine E_s (p' := 5) (st' := aI 2 :: _) rfl rfl ?_
  refine E_s (p' := 6) (st' := aI 4 :: _) rfl rfl ?_
  refine E_s (p' := 9) rfl rfl ?_
  refine E_s (p' := 10) (st' := aA 1 :: _) rfl rfl ?_
  refine E_s (p' := 13) (st' := aA 2 :: _) rfl rfl ?_
  refine E_s (p' := 14) (st' := aI 2 :: _) rfl rfl ?_
  refine E_s (p' := 15) (st' := aA 72 :: _) rfl rfl ?_
  refine E_s (p' := 19) rfl rfl ?_
  refine E_ret rfl rfl ?_
  refine E_s (p' := 6) (L' := [some (aA 1), some (aI 2), some (aA 72), none]) rfl rfl ?_
  refine E_s (p' := 7) (st' := aA 72 :: _) rfl rfl ?_
  refine E_s (p' := 13) rfl rfl ?_
  refine E_s (p' := 14) (st' := aA 72 :: _) rfl rfl ?_
  refine E_s (p' := 17) (st' := aA 73 :: _) rfl rfl ?_
  refine E_s (p' := 20) (st' := aI 0 :: _) rfl rfl ?_
  refine E_s (p' := 21) (L' := [some (aA 1), some (aI 2), some (aA 72), some (aI 0)]) rfl rfl ?_
  refine E_s (p' := 22) (st' := aA 72 :: _) rfl rfl ?_
  refine E_callL (p' := 25) (L0 := [some (aA 72)]) rfl rfl rfl ?_
  refine E_s (p' := 1) (st' := aA 72 :: _) rfl rfl ?_
  refine E_s (p' := 4) (st' := aA 73 :: _) rfl rfl ?_
  refine E_s (p' := 5) (st' := aI 0 :: _) rfl rfl ?_
  refine E_stM (p' := 8) (m' := up2 _ 73 7 0) rfl rfl ?_
  refine E_s (p' := 9) (st' := aA 72 :: _) rfl rfl ?_
  refine E_s (p' := 12) (st' := aA 81 :: _) rfl rfl ?_
  refine E_s (p' := 13) (st' := aI 0 :: _) rfl rfl ?_
  refine E_stM (p' := 16) (m' := up2 _ 81 3 0) rfl rfl ?_
  refine E_s (p' := 17) (st' := aA 72 :: _) rfl rfl ?_
  refine E_s (p' := 19) (st' := aI 15 :: _) rfl rfl ?_
  refine E_stM (p' := 22) (m' := up2 _ 72 5 15) rfl rfl ?_
  refine E_s (p' := 23) (st' := aA 72 :: _) rfl rfl ?_
  refine E_callL (p' := 26) (L0 := [some (aA 72)]) rfl rfl rfl ?_
  refine E_s (p' := 1) (st' := aA 72 :: _) rfl rfl ?_
  refine E_s (p' := 2) (st' := aI 0 :: _) rfl rfl ?_
  refine E_stM (p' := 5) (m' := up2 _ 72 7 0) rfl rfl ?_
  refine E_s (p' := 6) (st' := aA 72 :: _) rfl rfl ?_
  refine E_s (p' := 7) (st' := aI 0 :: _) rfl rfl ?_
  refine E_stM (p' := 10) (m' := up2 _ 72 6 0) rfl rfl ?_
  refine E_ret rfl rfl ?_
  refine E_ret rfl rfl ?_
  refine E_s (p' := 26) (st' := aI 0 :: _) rfl rfl ?_
  refine E_ret rfl rfl ?_
  refine E_s (p' := 501) (st' := aA 124 :: _) rfl rfl ?_
  refine E_s (p' := 502) (st' := aA 0 :: _) rfl rfl ?_
  refine E_s (p' := 503) (st' := aI 0 :: _) rfl rfl ?_
  refine E_s (p' := 504) (st' := aI 1 :: _) rfl rfl ?_
  refine E_s (p' := 505) (st' := aI 1 :: _) rfl rfl ?_
  refine E_scr rfl rfl h1 ?_
  refine E_callL (p' := 509) (L0 := [some (aA 124), some (aI 2), none]) rfl rfl rfl ?_
  refine E_s (p' := 1) (st' := aI 2 :: _) rfl rfl ?_
  refine E_callL (p' := 4) (L0 := [some (aI 2)]) rfl rfl rfl ?_
  refine E_s (p' := 1) (st' := aI 2 :: _) rfl rfl ?_
  refine E_s (p' := 2) (st' := aI 0 :: _) rfl rfl ?_
  refine E_s (p' := 3) (st' := aI 3 :: _) rfl rfl ?_
  refine E_callL (p' := 6) (L0 := [some (aI 2), some (aI 0), some (aI 3)]) rfl rfl rfl ?_
  refine E_s (p' := 1) (st' := aI 2 :: _) rfl rfl ?_
  refine E_s (p' := 2) (st' := aI 0 :: _) rfl rfl ?_
  refine E_s (p' := 5) rfl rfl ?_
  refine E_s (p' := 6) (st' := aI 2 :: _) rfl rfl ?_
  refine E_s (p' := 7) (st' := aI 3 :: _) rfl rfl ?_
  refine E_s (p' := 10) rfl rfl ?_
  refine E_s (p' := 11) (st' := aI 1 :: _) rfl rfl ?_
  refine E_s (p' := 15) rfl rfl ?_
  refine E_ret rfl rfl ?_
  refine E_ret rfl rfl ?_
  refine E_s (p' := 10) rfl rfl ?_
  refine E_s (p' := 11) (st' := aA 124 :: _) rfl rfl ?_
  refine E_s (p' := 14) (st' := aA 125 :: _) rfl rfl ?_
  refine E_s (p' := 15) (st' := aI 2 :: _) rfl rfl ?_
  refine E_s (p' := 16) (st' := aI 0 :: _) rfl rfl ?_
  refine E_s (p' := 17) (L' := [some (aA 124), some (aI 2), some (aI 0)]) rfl rfl ?_
  refine E_s (p' := 18) (st' := aA 124 :: _) rfl rfl ?_
  refine E_s (p' := 21) (st' := aA 125 :: _) rfl rfl ?_
  refine E_s (p' := 22) (st' := aI 2 :: _) rfl rfl ?_
  refine E_s (p' := 23) (st' := aI 0 :: _) rfl rfl ?_
  refine E_stM (p' := 24) (m' := up2 _ 125 2 0) rfl rfl ?_
  refine E_s (p' := 25) (st' := aA 124 :: _) rfl rfl ?_
  refine E_s (p' := 28) (st' := aA 136 :: _) rfl rfl ?_
  refine E_s (p' := 29) (st' := aI 2 :: _) rfl rfl ?_
  refine E_s (p' := 30) (st' := aI 0 :: _) rfl rfl ?_
  refine E_stM (p' := 31) (m' := up2 _ 136 2 0) rfl rfl ?_
  refine E_s (p' := 32) (st' := aA 124 :: _) rfl rfl ?_
  refine E_s (p' := 35) (st' := aA 126 :: _) rfl rfl ?_
  refine E_s (p' := 36) (st' := aI 2 :: _) rfl rfl ?_
  refine E_s (p' := 38) (st' := aI 15 :: _) rfl rfl ?_
  refine E_stM (p' := 39) (m' := up2 _ 126 2 15) rfl rfl ?_
  refine E_s (p' := 40) (st' := aA 124 :: _) rfl rfl ?_
  refine E_s (p' := 41) (st' := aI 2 :: _) rfl rfl ?_
  refine E_callL (p' := 44) (L0 := [some (aA 124), some (aI 2)]) rfl rfl rfl ?_
  refine E_s (p' := 1) (st' := aA 124 :: _) rfl rfl ?_
  refine E_s (p' := 4) (st' := aA 140 :: _) rfl rfl ?_
  refine E_s (p' := 5) (st' := aI 2 :: _) rfl rfl ?_
  refine E_s (p' := 6) (st' := aI 0 :: _) rfl rfl ?_
  refine E_stM (p' := 7) (m' := up2 _ 140 2 0) rfl rfl ?_
  refine E_ret rfl rfl ?_
  refine E_s (p' := 45) (st' := aI 0 :: _) rfl rfl ?_
  refine E_ret rfl rfl ?_
  refine E_s (p' := 1174) rfl rfl ?_
  refine E_s (p' := 1177) (L' := [some (aA 0), some (aA 1), some (aA 124), some (aI 6)]) rfl rfl ?_
  refine E_s (p' := 18) rfl rfl ?_
  refine E_s (p' := 19) (st' := aI 6 :: _) rfl rfl ?_
  refine E_s (p' := 20) (st' := aA 0 :: _) rfl rfl ?_
  refine E_s (p' := 21) (st' := aI 6 :: _) rfl rfl ?_
  refine E_s (p' := 23) (st' := aI 6 :: _) rfl rfl ?_
  refine E_s (p' := 24) (st' := aI 0 :: _) rfl rfl ?_
  refine E_s (p' := 1180) rfl rfl ?_
  refine E_s (p' := 1181) (st' := aI 1 :: _) rfl rfl ?_
  exact E_ret rfl rfl ⟨rfl, rfl⟩
set_option maxRecDepth 100000 in
set_option maxHeartbeats 40000000 in
theorem pc_7_3 (xs : Nat → Int) {z a2 a3 a4 a5 : Int} (hz : b32 (fun a b => a &&& b) z 31 = 7) (h0 : xs 0 = z) (h1 : xs 1 = 3) (h2 : xs 2 = a2) (h3 : xs 3 = a3) (h4 : xs 4 = a4) (h5 : xs 5 = a5) : E 0 18 LL [] (s0 xs 6) PQ := by
  refine E_s (p' := 19) (st' := aI 0 :: _) rfl rfl ?_
  refine E_s (p' := 20) (st' := aA 0 :: _) rfl rfl ?_
  refine E_s (p' := 21) (st' := aI 6 :: _) rfl rfl ?_
  refine E_s (p' := 23) (st' := aI 6 :: _) rfl rfl ?_
  refine E_s (p' := 24) (st' := aI 0 :: _) rfl rfl ?_
  refine E_s (p' := 27) rfl rfl ?_
  refine E_s (p' := 28) (st' := aA 0 :: _) rfl rfl ?_
  refine E_s (p' := 29) (st' := aI 0 :: _) rfl rfl ?_
  refine E_scr rfl rfl h0 ?_
  refine E_s (p' := 32) (st' := aI 31 :: _) rfl rfl ?_
  refine E_s (p' := 33) rfl rfl ?_
  refine E_val hz ?_
  refine E_s (p' := 491) rfl rfl ?_
  refine E_s (p' := 492) (st' := aA 1 :: _) rfl rfl ?_
  refine E_s (p' := 493) (st' := aA 0 :: _) rfl rfl ?_
  refine E_s (p' := 494) (st' := aI 0 :: _) rfl rfl ?_
  refine E_s (p' := 495) (st' := aI 1 :: _) rfl rfl ?_
  refine E_s (p' := 496) (st' := aI 1 :: _) rfl rfl ?_
  refine E_scr rfl rfl h1 ?_
  refine E_callL (p' := 500) (L0 := [some (aA 1), some (aI 3), none, none]) rfl rfl rfl ?_
  refine E_s (p' := 1) (st' := aA 1 :: _) rfl rfl ?_
  refine E_s (p' := 2) (st' := aI 3 :: _) rfl rfl ?_
  refine E_callL (p' := 5) (L0 := [some (aA 1), some (aI 3)]) rfl rfl rfl ?_
  refine E_s (p' := 1) (st' := aI 3 :: _) rfl rfl ?_
  refine E_s (p' := 4) rfl rfl ?_
  refine E_s (p' := 5) (st' := aI 3 :: _) rfl rfl ?_
  refine E_s (p' := 6) (st' := aI 4 :: _) rfl rfl ?_
  refine E_s (p' := 9) rfl rfl ?_
  refine E_s (p' := 10) (st' := aA 1 :: _) rfl rfl ?_
  refine E_s (p' := 13) (st' := aA 2 :: _) rfl rfl ?_
  refine E_s (p' := 14) (st' := aI 3 :: _) rfl rfl ?_
  refine E_s (p' := 15) (st' := aA 98 :: _) rfl rfl ?_
  refine E_s (p' := 19) rfl rfl ?_
  refine E_ret rfl rfl ?_
  refine E_s (p' := 6) (L' := [some (aA 1), some (aI 3), some (aA 98), none]) rfl rfl ?_
  refine E_s (p' := 7) (st' := aA 98 :: _) rfl rfl ?_
  refine E_s (p' := 13) rfl rfl ?_
  refine E_s (p' := 14) (st' := aA 98 :: _) rfl rfl ?_
  refine E_s (p' := 17) (st' := aA 99 :: _) rfl rfl ?_
  refine E_s (p' := 20) (st' := aI 0 :: _) rfl rfl ?_
  refine E_s (p' := 21) (L' := [some (aA 1), some (aI 3), some (aA 98), some (aI 0)]) rfl rfl ?_
  refine E_s (p' := 22) (st' := aA 98 :: _) rfl rfl ?_
  refine E_callL (p' := 25) (L0 := [some (aA 98)]) rfl rfl rfl ?_
  refine E_s (p' := 1) (st' := aA 98 :: _) rfl rfl ?_
  refine E_s (p' := 4) (st' := aA 99 :: _) rfl rfl ?_
  refine E_s (p' := 5) (st' := aI 0 :: _) rfl rfl ?_
  refine E_stM (p' := 8) (m' := up2 _ 99 7 0) rfl rfl ?_
  refine E_s (p' := 9) (st' := aA 98 :: _) rfl rfl ?_
  refine E_s (p' := 12) (st' := aA 107 :: _) rfl rfl ?_
  refine E_s (p' := 13) (st' := aI 0 :: _) rfl rfl ?_
  refine E_stM (p' := 16) (m' := up2 _ 107 3 0) rfl rfl ?_
  refine E_s (p' := 17) (st' := aA 98 :: _) rfl rfl ?_
  refine E_s (p' := 19) (st' := aI 15 :: _) rfl rfl ?_
  refine E_stM (p' := 22) (m' := up2 _ 98 5 15) rfl rfl ?_
  refine E_s (p' := 23) (st' := aA 98 :: _) rfl rfl ?_
  refine E_callL (p' := 26) (L0 := [some (aA 98)]) rfl rfl rfl ?_
  refine E_s (p' := 1) (st' := aA 98 :: _) rfl rfl ?_
  refine E_s (p' := 2) (st' := aI 0 :: _) rfl rfl ?_
  refine E_stM (p' := 5) (m' := up2 _ 98 7 0) rfl rfl ?_
  refine E_s (p' := 6) (st' := aA 98 :: _) rfl rfl ?_
  refine E_s (p' := 7) (st' := aI 0 :: _) rfl rfl ?_
  refine E_stM (p' := 10) (m' := up2 _ 98 6 0) rfl rfl ?_
  refine E_ret rfl rfl ?_
  refine E_ret rfl rfl ?_
  refine E_s (p' := 26) (st' := aI 0 :: _) rfl rfl ?_
  refine E_ret rfl rfl ?_
  refine E_s (p' := 501) (st' := aA 124 :: _) rfl rfl ?_
  refine E_s (p' := 502) (st' := aA 0 :: _) rfl rfl ?_
  refine E_s (p' := 503) (st' := aI 0 :: _) rfl rfl ?_
  refine E_s (p' := 504) (st' := aI 1 :: _) rfl rfl ?_
  refine E_s (p' := 505) (st' := aI 1 :: _) rfl rfl ?_
  refine E_scr rfl rfl h1 ?_
  refine E_callL (p' := 509) (L0 := [some (aA 124), some (aI 3), none]) rfl rfl rfl ?_
  refine E_s (p' := 1) (st' := aI 3 :: _) rfl rfl ?_
  refine E_callL (p' := 4) (L0 := [some (aI 3)]) rfl rfl rfl ?_
  refine E_s (p' := 1) (st' := aI 3 :: _) rfl rfl ?_
  refine E_s (p' := 2) (st' := aI 0 :: _) rfl rfl ?_
  refine E_s (p' := 3) (st' := aI 3 :: _) rfl rfl ?_
  refine E_callL (p' := 6) (L0 := [some (aI 3), some (aI 0), some (aI 3)]) rfl rfl rfl ?_
  refine E_s (p' := 1) (st' := aI 3 :: _) rfl rfl ?_
  refine E_s (p' := 2) (st' := aI 0 :: _) rfl rfl ?_
  refine E_s (p' := 5) rfl rfl ?_
  refine E_s (p' := 6) (st' := aI 3 :: _) rfl rfl ?_
  refine E_s (p' := 7) (st' := aI 3 :: _) rfl rfl ?_
  refine E_s (p' := 10) rfl rfl ?_
  refine E_s (p' := 11) (st' := aI 1 :: _) rfl rfl ?_
  refine E_s (p' := 15) rfl rfl ?_
  refine E_ret rfl rfl ?_
  refine E_ret rfl rfl ?_
  refine E_s (p' := 10) rfl rfl ?_
  refine E_s (p' := 11) (st' := aA 124 :: _) rfl rfl ?_
  refine E_s (p' := 14) (st' := aA 125 :: _) rfl rfl ?_
  refine E_s (p' := 15) (st' := aI 3 :: _) rfl rfl ?_
  refine E_s (p' := 16) (st' := aI 0 :: _) rfl rfl ?_
  refine E_s (p' := 17) (L' := [some (aA 124), some (aI 3), some (aI 0)]) rfl rfl ?_
  refine E_s (p' := 18) (st' := aA 124 :: _) rfl rfl ?_
  refine E_s (p' := 21) (st' := aA 125 :: _) rfl rfl ?_
  refine E_s (p' := 22) (st' := aI 3 :: _) rfl rfl ?_
  refine E_s (p' := 23) (st' := aI 0 :: _) rfl rfl ?_
  refine E_stM (p' := 24) (m' := up2 _ 125 3 0) rfl rfl ?_
  refine E_s (p' := 25) (st' := aA 124 :: _) rfl rfl ?_
  refine E_s (p' := 28) (st' := aA 136 :: _) rfl rfl ?_
  refine E_s (p' := 29) (st' := aI 3 :: _) rfl rfl ?_
  refine E_s (p' := 30) (st' := aI 0 :: _) rfl rfl ?_
  refine E_stM (p' := 31) (m' := up2 _ 136 3 0) rfl rfl ?_
  refine E_s (p' := 32) (st' := aA 124 :: _) rfl rfl ?_
  refine E_s (p' := 35) (st' := aA 126 :: _) rfl rfl ?_
  refine E_s (p' := 36) (st' := aI 3 :: _) rfl rfl ?_
  refine E_s (p' := 38) (st' := aI 15 :: _) rfl rfl ?_
  refine E_stM (p' := 39) (m' := up2 _ 126 3 15) rfl rfl ?_
  refine E_s (p' := 40) (st' := aA 124 :: _) rfl rfl ?_
  refine E_s (p' := 41) (st' := aI 3 :: _) rfl rfl ?_
  refine E_callL (p' := 44) (L0 := [some (aA 124), some (aI 3)]) rfl rfl rfl ?_
  refine E_s (p' := 1) (st' := aA 124 :: _) rfl rfl ?_
  refine E_s (p' := 4) (st' := aA 140 :: _) rfl rfl ?_
  refine E_s (p' := 5) (st' := aI 3 :: _) rfl rfl ?_
  refine E_s (p' := 6) (st' := aI 0 :: _) rfl rfl ?_
  refine E_stM (p' := 7) (m' := up2 _ 140 3 0) rfl rfl ?_
  refine E_ret rfl rfl ?_
  refine E_s (p' := 45) (st' := aI 0 :: _) rfl rfl ?_
  refine E_ret rfl rfl ?_
  refine E_s (p' := 1174) rfl rfl ?_
  refine E_s (p' := 1177) (L' := [some (aA 0), some (aA 1), some (aA 124), some (aI 6)]) rfl rfl ?_
  refine E_s (p' := 18) rfl rfl ?_
  refine E_s (p' := 19) (st' := aI 6 :: _) rfl rfl ?_
  refine E_s (p' := 20) (st' := aA 0 :: _) rfl rfl ?_
  refine E_s (p' := 21) (st' := aI 6 :: _) rfl rfl ?_
  refine E_s (p' := 23) (st' := aI 6 :: _) rfl rfl ?_
  refine E_s (p' := 24) (st' := aI 0 :: _) rfl rfl ?_
  refine E_s (p' := 1180) rfl rfl ?_
  refine E_s (p' := 1181) (st' := aI 1 :: _) rfl rfl ?_
  exact E_ret rfl rfl ⟨rfl, rfl⟩
set_option maxRecDepth 100000 in
set_option maxHeartbeats 40000000 in
theorem pc_7_o (xs : Nat → Int) {z a1 a2 a3 a4 a5 : Int} (hz : b32 (fun a b => a &&& b) z 31 = 7) (h0 : xs 0 = z) (h1 : xs 1 = a1) (h2 : xs 2 = a2) (h3 : xs 3 = a3) (h4 : xs 4 = a4) (h5 : xs 5 = a5) (hr : a1 < 0 ∨ 3 < a1) : E 0 18 LL [] (s0 xs 6) PQ := by
  refine E_s (p' := 19) (st' := aI 0 :: _) rfl rfl ?_
  refine E_s (p' := 20) (st' := aA 0 :: _) rfl rfl ?_
  refine E_s (p' := 21) (st' := aI 6 :: _) rfl rfl ?_
  refine E_s (p' := 23) (st' := aI 6 :: _) rfl rfl ?_
  refine E_s (p' := 24) (st' := aI 0 :: _) rfl rfl ?_
  refine E_s (p' := 27) rfl rfl ?_
  refine E_s (p' := 28) (st' := aA 0 :: _) rfl rfl ?_
  refine E_s (p' := 29) (st' := aI 0 :: _) rfl rfl ?_
  refine E_scr rfl rfl h0 ?_
  refine E_s (p' := 32) (st' := aI 31 :: _) rfl rfl ?_
  refine E_s (p' := 33) rfl rfl ?_
  refine E_val hz ?_
  refine E_s (p' := 491) rfl rfl ?_
  refine E_s (p' := 492) (st' := aA 1 :: _) rfl rfl ?_
  refine E_s (p' := 493) (st' := aA 0 :: _) rfl rfl ?_
  refine E_s (p' := 494) (st' := aI 0 :: _) rfl rfl ?_
  refine E_s (p' := 495) (st' := aI 1 :: _) rfl rfl ?_
  refine E_s (p' := 496) (st' := aI 1 :: _) rfl rfl ?_
  refine E_scr rfl rfl h1 ?_
  refine E_callL (p' := 500) (L0 := [some (aA 1), some (aI a1), none, none]) rfl rfl rfl ?_
  refine E_s (p' := 1) (st' := aA 1 :: _) rfl rfl ?_
  refine E_s (p' := 2) rfl rfl ?_
  refine E_callL (p' := 5) (L0 := [some (aA 1), some (aI a1)]) rfl rfl rfl ?_
  refine E_s (p' := 1) rfl rfl ?_
  refine E_if_lt rfl (by decide) (fun _ => ?_) (fun _ => ?_)
  · refine E_s (p' := 19) rfl rfl ?_
    refine E_ret rfl rfl ?_
    refine E_s (p' := 6) (L' := [some (aA 1), some (aI a1), some aN, none]) rfl rfl ?_
    refine E_s (p' := 7) rfl rfl ?_
    refine E_s (p' := 10) rfl rfl ?_
    refine E_s (p' := 12) (st' := aI (-2) :: _) rfl rfl ?_
    refine E_ret rfl rfl ?_
    refine E_s (p' := 501) (st' := aA 124 :: _) rfl rfl ?_
    refine E_s (p' := 502) (st' := aA 0 :: _) rfl rfl ?_
    refine E_s (p' := 503) (st' := aI 0 :: _) rfl rfl ?_
    refine E_s (p' := 504) (st' := aI 1 :: _) rfl rfl ?_
    refine E_s (p' := 505) (st' := aI 1 :: _) rfl rfl ?_
    refine E_scr rfl rfl h1 ?_
    refine E_callL (p' := 509) (L0 := [some (aA 124), some (aI a1), none]) rfl rfl rfl ?_
    refine E_s (p' := 1) rfl rfl ?_
    refine E_callL (p' := 4) (L0 := [some (aI a1)]) rfl rfl rfl ?_
    refine E_s (p' := 1) rfl rfl ?_
    refine E_s (p' := 2) (st' := aI 0 :: _) rfl rfl ?_
    refine E_s (p' := 3) (st' := aI 3 :: _) rfl rfl ?_
    refine E_callL (p' := 6) (L0 := [some (aI a1), some (aI 0), some (aI 3)]) rfl rfl rfl ?_
    refine E_s (p' := 1) rfl rfl ?_
    refine E_s (p' := 2) (st' := aI 0 :: _) rfl rfl ?_
    refine E_icmp_lt (y := 0) rfl (by decide) (fun _ => ?_) (fun q => absurd q (by omega))
    refine E_s (p' := 15) (st' := aI 0 :: _) rfl rfl ?_
    refine E_ret rfl rfl ?_
    refine E_ret rfl rfl ?_
    refine E_s (p' := 7) rfl rfl ?_
    refine E_s (p' := 9) (st' := aI (-2) :: _) rfl rfl ?_
    refine E_ret rfl rfl ?_
    refine E_s (p' := 1174) rfl rfl ?_
    refine E_s (p' := 1177) (L' := [some (aA 0), some (aA 1), some (aA 124), some (aI 6)]) rfl rfl ?_
    refine E_s (p' := 18) rfl rfl ?_
    refine E_s (p' := 19) (st' := aI 6 :: _) rfl rfl ?_
    refine E_s (p' := 20) (st' := aA 0 :: _) rfl rfl ?_
    refine E_s (p' := 21) (st' := aI 6 :: _) rfl rfl ?_
    refine E_s (p' := 23) (st' := aI 6 :: _) rfl rfl ?_
    refine E_s (p' := 24) (st' := aI 0 :: _) rfl rfl ?_
    refine E_s (p' := 1180) rfl rfl ?_
    refine E_s (p' := 1181) (st' := aI 1 :: _) rfl rfl ?_
    exact E_ret rfl rfl ⟨rfl, rfl⟩
  · refine E_s (p' := 5) rfl rfl ?_
    refine E_s (p' := 6) (st' := aI 4 :: _) rfl rfl ?_
    refine E_icmp_ge (y := 4) rfl (by decide) (fun _ => ?_) (fun q => absurd q (by omega))
    refine E_s (p' := 19) rfl rfl ?_
    refine E_ret rfl rfl ?_
    refine E_s (p' := 6) (L' := [some (aA 1), some (aI a1), some aN, none]) rfl rfl ?_
    refine E_s (p' := 7) rfl rfl ?_
    refine E_s (p' := 10) rfl rfl ?_
    refine E_s (p' := 12) (st' := aI (-2) :: _) rfl rfl ?_
    refine E_ret rfl rfl ?_
    refine E_s (p' := 501) (st' := aA 124 :: _) rfl rfl ?_
    refine E_s (p' := 502) (st' := aA 0 :: _) rfl rfl ?_
    refine E_s (p' := 503) (st' := aI 0 :: _) rfl rfl ?_
    refine E_s (p' := 504) (st' := aI 1 :: _) rfl rfl ?_
    refine E_s (p' := 505) (st' := aI 1 :: _) rfl rfl ?_
    refine E_scr rfl rfl h1 ?_
    refine E_callL (p' := 509) (L0 := [some (aA 124), some (aI a1), none]) rfl rfl rfl ?_
    refine E_s (p' := 1) rfl rfl ?_
    refine E_callL (p' := 4) (L0 := [some (aI a1)]) rfl rfl rfl ?_
    refine E_s (p' := 1) rfl rfl ?_
    refine E_s (p' := 2) (st' := aI 0 :: _) rfl rfl ?_
    refine E_s (p' := 3) (st' := aI 3 :: _) rfl rfl ?_
    refine E_callL (p' := 6) (L0 := [some (aI a1), some (aI 0), some (aI 3)]) rfl rfl rfl ?_
    refine E_s (p' := 1) rfl rfl ?_
    refine E_s (p' := 2) (st' := aI 0 :: _) rfl rfl ?_
    refine E_icmp_lt (y := 0) rfl (by decide) (fun q => absurd q (by omega)) (fun _ => ?_)
    refine E_s (p' := 6) rfl rfl ?_
    refine E_s (p' := 7) (st' := aI 3 :: _) rfl rfl ?_
    refine E_icmp_gt (y := 3) rfl (by decide) (fun _ => ?_) (fun q => absurd q (by omega))
    refine E_s (p' := 15) (st' := aI 0 :: _) rfl rfl ?_
    refine E_ret rfl rfl ?_
    refine E_ret rfl rfl ?_
    refine E_s (p' := 7) rfl rfl ?_
    refine E_s (p' := 9) (st' := aI (-2) :: _) rfl rfl ?_
    refine E_ret rfl rfl ?_
    refine E_s (p' := 1174) rfl rfl ?_
    refine E_s (p' := 1177) (L' := [some (aA 0), some (aA 1), some (aA 124), some (aI 6)]) rfl rfl ?_
    refine E_s (p' := 18) rfl rfl ?_
    refine E_s (p' := 19) (st' := aI 6 :: _) rfl rfl ?_
    refine E_s (p' := 20) (st' := aA 0 :: _) rfl rfl ?_
    refine E_s (p' := 21) (st' := aI 6 :: _) rfl rfl ?_
    refine E_s (p' := 23) (st' := aI 6 :: _) rfl rfl ?_
    refine E_s (p' := 24) (st' := aI 0 :: _) rfl rfl ?_
    refine E_s (p' := 1180) rfl rfl ?_
    refine E_s (p' := 1181) (st' := aI 1 :: _) rfl rfl ?_
    exact E_ret rfl rfl ⟨rfl, rfl⟩
set_option maxRecDepth 100000 in
set_option maxHeartbeats 40000000 in
theorem pc_8_0_0 (xs : Nat → Int) {z a3 a4 a5 : Int} (hz : b32 (fun a b => a &&& b) z 31 = 8) (h0 : xs 0 = z) (h1 : xs 1 = 0) (h2 : xs 2 = 0) (h3 : xs 3 = a3) (h4 : xs 4 = a4) (h5 : xs 5 = a5) : E 0 18 LL [] (s0 xs 6) PQ := by
  refine E_s (p' := 19) (st' := aI 0 :: _) rfl rfl ?_
  refine E_s (p' := 20) (st' := aA 0 :: _) rfl rfl ?_
  refine E_s (p' := 21) (st' := aI 6 :: _) rfl rfl ?_
  refine E_s (p' := 23) (st' := aI 6 :: _) rfl rfl ?_
  refine E_s (p' := 24) (st' := aI 0 :: _) rfl rfl ?_
  refine E_s (p' := 27) rfl rfl ?_
  refine E_s (p' := 28) (st' := aA 0 :: _) rfl rfl ?_
  refine E_s (p' := 29) (st' := aI 0 :: _) rfl rfl ?_
  refine E_scr rfl rfl h0 ?_
  refine E_s (p' := 32) (st' := aI 31 :: _) rfl rfl ?_
  refine E_s (p' := 33) rfl rfl ?_
  refine E_val hz ?_
  refine E_s (p' := 514) rfl rfl ?_
  refine E_s (p' := 515) (st' := aA 1 :: _) rfl rfl ?_
  refine E_s (p' := 516) (st' := aA 0 :: _) rfl rfl ?_
  refine E_s (p' := 517) (st' := aI 0 :: _) rfl rfl ?_
  refine E_s (p' := 518) (st' := aI 1 :: _) rfl rfl ?_
  refine E_s (p' := 519) (st' := aI 1 :: _) rfl rfl ?_
  refine E_scr rfl rfl h1 ?_
  refine E_s (p' := 521) (st' := aA 0 :: _) rfl rfl ?_
  refine E_s (p' := 522) (st' := aI 0 :: _) rfl rfl ?_
  refine E_s (p' := 523) (st' := aI 2 :: _) rfl rfl ?_
  refine E_s (p' := 524) (st' := aI 2 :: _) rfl rfl ?_
  refine E_scr rfl rfl h2 ?_
  refine E_callL (p' := 528) (L0 := [some (aA 1), some (aI 0), some (aI 0), none, none]) rfl rfl rfl ?_
  refine E_s (p' := 1) (st' := aA 1 :: _) rfl rfl ?_
  refine E_s (p' := 2) (st' := aI 0 :: _) rfl rfl ?_
  refine E_callL (p' := 5) (L0 := [some (aA 1), some (aI 0)]) rfl rfl rfl ?_
  refine E_s (p' := 1) (st' := aI 0 :: _) rfl rfl ?_
  refine E_s (p' := 4) rfl rfl ?_
  refine E_s (p' := 5) (st' := aI 0 :: _) rfl rfl ?_
  refine E_s (p' := 6) (st' := aI 4 :: _) rfl rfl ?_
  refine E_s (p' := 9) rfl rfl ?_
  refine E_s (p' := 10) (st' := aA 1 :: _) rfl rfl ?_
  refine E_s (p' := 13) (st' := aA 2 :: _) rfl rfl ?_
  refine E_s (p' := 14) (st' := aI 0 :: _) rfl rfl ?_
  refine E_s (p' := 15) (st' := aA 20 :: _) rfl rfl ?_
  refine E_s (p' := 19) rfl rfl ?_
  refine E_ret rfl rfl ?_
  refine E_s (p' := 6) (L' := [some (aA 1), some (aI 0), some (aI 0), some (aA 20), none]) rfl rfl ?_
  refine E_s (p' := 7) (st' := aA 1 :: _) rfl rfl ?_
  refine E_s (p' := 8) (st' := aI 0 :: _) rfl rfl ?_
  refine E_callL (p' := 11) (L0 := [some (aA 1), some (aI 0)]) rfl rfl rfl ?_
  refine E_s (p' := 1) (st' := aI 0 :: _) rfl rfl ?_
  refine E_s (p' := 4) rfl rfl ?_
  refine E_s (p' := 5) (st' := aI 0 :: _) rfl rfl ?_
  refine E_s (p' := 6) (st' := aI 4 :: _) rfl rfl ?_
  refine E_s (p' := 9) rfl rfl ?_
  refine E_s (p' := 10) (st' := aA 1 :: _) rfl rfl ?_
  refine E_s (p' := 13) (st' := aA 2 :: _) rfl rfl ?_
  refine E_s (p' := 14) (st' := aI 0 :: _) rfl rfl ?_
  refine E_s (p' := 15) (st' := aA 20 :: _) rfl rfl ?_
  refine E_s (p' := 19) rfl rfl ?_
  refine E_ret rfl rfl ?_
  refine E_s (p' := 13) (L' := [some (aA 1), some (aI 0), some (aI 0), some (aA 20), some (aA 20)]) rfl rfl ?_
  refine E_s (p' := 14) (st' := aA 20 :: _) rfl rfl ?_
  refine E_s (p' := 17) rfl rfl ?_
  refine E_s (p' := 19) (st' := aA 20 :: _) rfl rfl ?_
  refine E_s (p' := 25) rfl rfl ?_
  refine E_s (p' := 27) (st' := aA 20 :: _) rfl rfl ?_
  refine E_s (p' := 28) (st' := aA 20 :: _) rfl rfl ?_
  refine E_callL (p' := 31) (L0 := [some (aA 20), some (aA 20), none]) rfl rfl rfl ?_
  refine E_s (p' := 1) (st' := aA 20 :: _) rfl rfl ?_
  refine E_s (p' := 4) (st' := aI 15 :: _) rfl rfl ?_
  refine E_s (p' := 5) (st' := aA 20 :: _) rfl rfl ?_
  refine E_s (p' := 8) (st' := aI 15 :: _) rfl rfl ?_
  refine E_s (p' := 15) rfl rfl ?_
  refine E_s (p' := 16) (st' := aI 0 :: _) rfl rfl ?_
  refine E_s (p' := 17) (L' := [some (aA 20), some (aA 20), some (aI 0)]) rfl rfl ?_
  refine E_s (p' := 18) (st' := aA 20 :: _) rfl rfl ?_
  refine E_s (p' := 19) (st' := aA 20 :: _) rfl rfl ?_
  refine E_s (p' := 22) (st' := aI 15 :: _) rfl rfl ?_
  refine E_stM (p' := 25) (m' := up2 _ 20 5 15) rfl rfl ?_
  refine E_s (p' := 26) (st' := aI 0 :: _) rfl rfl ?_
  refine E_s (p' := 27) (st' := aA 20 :: _) rfl rfl ?_
  refine E_s (p' := 30) (st' := aA 21 :: _) rfl rfl ?_
  refine E_s (p' := 31) (st' := aA 20 :: _) rfl rfl ?_
  refine E_s (p' := 34) (st' := aA 21 :: _) rfl rfl ?_
  refine E_callL (p' := 37) (L0 := [some (aA 21), some (aA 21), none, none]) rfl rfl rfl ?_
  refine E_s (p' := 1) (st' := aA 21 :: _) rfl rfl ?_
  refine E_s (p' := 4) (st' := aI 0 :: _) rfl rfl ?_
  refine E_s (p' := 5) (st' := aA 21 :: _) rfl rfl ?_
  refine E_s (p' := 8) (st' := aI 0 :: _) rfl rfl ?_
  refine E_s (p' := 15) rfl rfl ?_
  refine E_s (p' := 16) (st' := aI 0 :: _) rfl rfl ?_
  refine E_s (p' := 17) (L' := [some (aA 21), some (aA 21), some (aI 0), none]) rfl rfl ?_
  refine E_s (p' := 18) (st' := aA 21 :: _) rfl rfl ?_
  refine E_s (p' := 19) (st' := aA 21 :: _) rfl rfl ?_
  refine E_s (p' := 22) (st' := aI 0 :: _) rfl rfl ?_
  refine E_stM (p' := 25) (m' := up2 _ 21 7 0) rfl rfl ?_
  refine E_s (p' := 26) (st' := aI 0 :: _) rfl rfl ?_
  refine E_s (p' := 27) (st' := aA 21 :: _) rfl rfl ?_
  refine E_s (p' := 30) (st' := aA 22 :: _) rfl rfl ?_
  refine E_s (p' := 31) (st' := aA 21 :: _) rfl rfl ?_
  refine E_s (p' := 34) (st' := aA 22 :: _) rfl rfl ?_
  refine E_s (p' := 35) (st' := aI 0 :: _) rfl rfl ?_
  refine E_s (p' := 36) (st' := aA 21 :: _) rfl rfl ?_
  refine E_s (p' := 39) (st' := aI 0 :: _) rfl rfl ?_
  refine E_callL (p' := 42) (L0 := [some (aA 22), some (aA 22), some (aI 0), some (aI 0), none, none]) rfl rfl rfl ?_
  refine E_s (p' := 1) (st' := aI 0 :: _) rfl rfl ?_
  refine E_s (p' := 3) (L' := [some (aA 22), some (aA 22), some (aI 0), some (aI 0), some (aI 0), none]) rfl rfl ?_
  refine E_s (p' := 4) (st' := aI 0 :: _) rfl rfl ?_
  refine E_s (p' := 6) (L' := [some (aA 22), some (aA 22), some (aI 0), some (aI 0), some (aI 0), some (aI 0)]) rfl rfl ?_
  refine E_s (p' := 8) (st' := aI 0 :: _) rfl rfl ?_
  refine E_s (p' := 9) (st' := aI 0 :: _) rfl rfl ?_
  refine E_s (p' := 10) (st' := aI 0 :: _) rfl rfl ?_
  refine E_s (p' := 11) (st' := aI 0 :: _) rfl rfl ?_
  refine E_s (p' := 49) rfl rfl ?_
  refine E_s (p' := 51) (st' := aI 0 :: _) rfl rfl ?_
  refine E_ret rfl rfl ?_
  refine E_s (p' := 43) (st' := aI 0 :: _) rfl rfl ?_
  refine E_s (p' := 44) (L' := [some (aA 21), some (aA 21), some (aI 0), none]) rfl rfl ?_
  refine E_s (p' := 45) (st' := aI 0 :: _) rfl rfl ?_
  refine E_s (p' := 46) (st' := aA 21 :: _) rfl rfl ?_
  refine E_s (p' := 49) (st' := aA 23 :: _) rfl rfl ?_
  refine E_s (p' := 50) (st' := aA 21 :: _) rfl rfl ?_
  refine E_s (p' := 53) (st' := aA 23 :: _) rfl rfl ?_
  refine E_s (p' := 54) (st' := aI 0 :: _) rfl rfl ?_
  refine E_s (p' := 55) (st' := aA 21 :: _) rfl rfl ?_
  refine E_s (p' := 58) (st' := aI 0 :: _) rfl rfl ?_
  refine E_callL (p' := 61) (L0 := [some (aA 23), some (aA 23), some (aI 0), some (aI 0), none, none]) rfl rfl rfl ?_
  refine E_s (p' := 1) (st' := aI 0 :: _) rfl rfl ?_
  refine E_s (p' := 3) (L' := [some (aA 23), some (aA 23), some (aI 0), some (aI 0), some (aI 0), none]) rfl rfl ?_
  refine E_s (p' := 4) (st' := aI 0 :: _) rfl rfl ?_
  refine E_s (p' := 6) (L' := [some (aA 23), some (aA 23), some (aI 0), some (aI 0), some (aI 0), some (aI 0)]) rfl rfl ?_
  refine E_s (p' := 8) (st' := aI 0 :: _) rfl rfl ?_
  refine E_s (p' := 9) (st' := aI 0 :: _) rfl rfl ?_
  refine E_s (p' := 10) (st' := aI 0 :: _) rfl rfl ?_
  refine E_s (p' := 11) (st' := aI 0 :: _) rfl rfl ?_
  refine E_s (p' := 49) rfl rfl ?_
  refine E_s (p' := 51) (st' := aI 0 :: _) rfl rfl ?_
  refine E_ret rfl rfl ?_
  refine E_s (p' := 62) (st' := aI 0 :: _) rfl rfl ?_
  refine E_s (p' := 63) (L' := [some (aA 21), some (aA 21), some (aI 0), none]) rfl rfl ?_
  refine E_s (p' := 64) (st' := aI 0 :: _) rfl rfl ?_
  refine E_s (p' := 65) (st' := aA 21 :: _) rfl rfl ?_
  refine E_s (p' := 68) (st' := aA 24 :: _) rfl rfl ?_
  refine E_s (p' := 69) (st' := aA 21 :: _) rfl rfl ?_
  refine E_s (p' := 72) (st' := aA 24 :: _) rfl rfl ?_
  refine E_s (p' := 73) (st' := aI 0 :: _) rfl rfl ?_
  refine E_s (p' := 74) (st' := aA 21 :: _) rfl rfl ?_
  refine E_s (p' := 77) (st' := aI 0 :: _) rfl rfl ?_
  refine E_callL (p' := 80) (L0 := [some (aA 24), some (aA 24), some (aI 0), some (aI 0), none, none]) rfl rfl rfl ?_
  refine E_s (p' := 1) (st' := aI 0 :: _) rfl rfl ?_
  refine E_s (p' := 3) (L' := [some (aA 24), some (aA 24), some (aI 0), some (aI 0), some (aI 0), none]) rfl rfl ?_
  refine E_s (p' := 4) (st' := aI 0 :: _) rfl rfl ?_
  refine E_s (p' := 6) (L' := [some (aA 24), some (aA 24), some (aI 0), some (aI 0), some (aI 0), some (aI 0)]) rfl rfl ?_
  refine E_s (p' := 8) (st' := aI 0 :: _) rfl rfl ?_
  refine E_s (p' := 9) (st' := aI 0 :: _) rfl rfl ?_
  refine E_s (p' := 10) (st' := aI 0 :: _) rfl rfl ?_
  refine E_s (p' := 11) (st' := aI 0 :: _) rfl rfl ?_
  refine E_s (p' := 49) rfl rfl ?_
  refine E_s (p' := 51) (st' := aI 0 :: _) rfl rfl ?_
  refine E_ret rfl rfl ?_
  refine E_s (p' := 81) (st' := aI 0 :: _) rfl rfl ?_
  refine E_s (p' := 82) (L' := [some (aA 21), some (aA 21), some (aI 0), none]) rfl rfl ?_
  refine E_s (p' := 83) (st' := aI 0 :: _) rfl rfl ?_
  refine E_s (p' := 84) (st' := aA 21 :: _) rfl rfl ?_
  refine E_s (p' := 87) (st' := aA 25 :: _) rfl rfl ?_
  refine E_s (p' := 88) (st' := aA 21 :: _) rfl rfl ?_
  refine E_s (p' := 91) (st' := aA 25 :: _) rfl rfl ?_
  refine E_s (p' := 92) (st' := aI 0 :: _) rfl rfl ?_
  refine E_s (p' := 93) (st' := aA 21 :: _) rfl rfl ?_
  refine E_s (p' := 96) (st' := aI 0 :: _) rfl rfl ?_
  refine E_callL (p' := 99) (L0 := [some (aA 25), some (aA 25), some (aI 0), some (aI 0), none, none]) rfl rfl rfl ?_
  refine E_s (p' := 1) (st' := aI 0 :: _) rfl rfl ?_
  refine E_s (p' := 3) (L' := [some (aA 25), some (aA 25), some (aI 0), some (aI 0), some (aI 0), none]) rfl rfl ?_
  refine E_s (p' := 4) (st' := aI 0 :: _) rfl rfl ?_
  refine E_s (p' := 6) (L' := [some (aA 25), some (aA 25), some (aI 0), some (aI 0), some (aI 0), some (aI 0)]) rfl rfl ?_
  refine E_s (p' := 8) (st' := aI 0 :: _) rfl rfl ?_
  refine E_s (p' := 9) (st' := aI 0 :: _) rfl rfl ?_
  refine E_s (p' := 10) (st' := aI 0 :: _) rfl rfl ?_
  refine E_s (p' := 11) (st' := aI 0 :: _) rfl rfl ?_
  refine E_s (p' := 49) rfl rfl ?_
  refine E_s (p' := 51) (st' := aI 0 :: _) rfl rfl ?_
  refine E_ret rfl rfl ?_
  refine E_s (p' := 100) (st' := aI 0 :: _) rfl rfl ?_
  refine E_s (p' := 101) (L' := [some (aA 21), some (aA 21), some (aI 0), none]) rfl rfl ?_
  refine E_s (p' := 102) (st' := aI 0 :: _) rfl rfl ?_
  refine E_s (p' := 103) (st' := aA 21 :: _) rfl rfl ?_
  refine E_s (p' := 106) (st' := aA 26 :: _) rfl rfl ?_
  refine E_s (p' := 107) (st' := aA 21 :: _) rfl rfl ?_
  refine E_s (p' := 110) (st' := aA 26 :: _) rfl rfl ?_
  refine E_s (p' := 111) (st' := aI 0 :: _) rfl rfl ?_
  refine E_s (p' := 112) (st' := aA 21 :: _) rfl rfl ?_
  refine E_s (p' := 115) (st' := aI 0 :: _) rfl rfl ?_
  refine E_callL (p' := 118) (L0 := [some (aA 26), some (aA 26), some (aI 0), some (aI 0), none, none]) rfl rfl rfl ?_
  refine E_s (p' := 1) (st' := aI 0 :: _) rfl rfl ?_
  refine E_s (p' := 3) (L' := [some (aA 26), some (aA 26), some (aI 0), some (aI 0), some (aI 0), none]) rfl rfl ?_
  refine E_s (p' := 4) (st' := aI 0 :: _) rfl rfl ?_
  refine E_s (p' := 6) (L' := [some (aA 26), some (aA 26), some (aI 0), some (aI 0), some (aI 0), some (aI 0)]) rfl rfl ?_
  refine E_s (p' := 8) (st' := aI 0 :: _) rfl rfl ?_
  refine E_s (p' := 9) (st' := aI 0 :: _) rfl rfl ?_
  refine E_s (p' := 10) (st' := aI 0 :: _) rfl rfl ?_
  refine E_s (p' := 11) (st' := aI 0 :: _) rfl rfl ?_
  refine E_s (p' := 49) rfl rfl ?_
  refine E_s (p' := 51) (st' := aI 0 :: _) rfl rfl ?_
  refine E_ret rfl rfl ?_
  refine E_s (p' := 119) (st' := aI 0 :: _) rfl rfl ?_
  refine E_s (p' := 120) (L' := [some (aA 21), some (aA 21), some (aI 0), none]) rfl rfl ?_
  refine E_s (p' := 121) (st' := aI 0 :: _) rfl rfl ?_
  refine E_s (p' := 122) (st' := aA 21 :: _) rfl rfl ?_
  refine E_s (p' := 125) (st' := aA 27 :: _) rfl rfl ?_
  refine E_s (p' := 126) (st' := aA 21 :: _) rfl rfl ?_
  refine E_s (p' := 129) (st' := aA 27 :: _) rfl rfl ?_
  refine E_s (p' := 130) (st' := aI 0 :: _) rfl rfl ?_
  refine E_s (p' := 131) (st' := aA 21 :: _) rfl rfl ?_
  refine E_s (p' := 134) (st' := aI 0 :: _) rfl rfl ?_
  refine E_callL (p' := 137) (L0 := [some (aA 27), some (aA 27), some (aI 0), some (aI 0), none, none]) rfl rfl rfl ?_
  refine E_s (p' := 1) (st' := aI 0 :: _) rfl rfl ?_
  refine E_s (p' := 3) (L' := [some (aA 27), some (aA 27), some (aI 0), some (aI 0), some (aI 0), none]) rfl rfl ?_
  refine E_s (p' := 4) (st' := aI 0 :: _) rfl rfl ?_
  refine E_s (p' := 6) (L' := [some (aA 27), some (aA 27), some (aI 0), some (aI 0), some (aI 0), some (aI 0)]) rfl rfl ?_
  refine E_s (p' := 8) (st' := aI 0 :: _) rfl rfl ?_
  refine E_s (p' := 9) (st' := aI 0 :: _) rfl rfl ?_
  refine E_s (p' := 10) (st' := aI 0 :: _) rfl rfl ?_
  refine E_s (p' := 11) (st' := aI 0 :: _) rfl rfl ?_
  refine E_s (p' := 49) rfl rfl ?_
  refine E_s (p' := 51) (st' := aI 0 :: _) rfl rfl ?_
  refine E_ret rfl rfl ?_
  refine E_s (p' := 138) (st' := aI 0 :: _) rfl rfl ?_
  refine E_s (p' := 139) (L' := [some (aA 21), some (aA 21), some (aI 0), none]) rfl rfl ?_
  refine E_s (p' := 140) (st' := aI 0 :: _) rfl rfl ?_
  refine E_s (p' := 141) (L' := [some (aA 21), some (aA 21), some (aI 0), some (aI 0)]) rfl rfl ?_
  refine E_s (p' := 142) (st' := aI 0 :: _) rfl rfl ?_
  refine E_s (p' := 143) (st' := aA 21 :: _) rfl rfl ?_
  refine E_s (p' := 146) (st' := aI 0 :: _) rfl rfl ?_
  refine E_s (p' := 179) rfl rfl ?_
  refine E_s (p' := 180) (st' := aI 0 :: _) rfl rfl ?_
  refine E_ret rfl rfl ?_
  refine E_s (p' := 38) (st' := aI 0 :: _) rfl rfl ?_
  refine E_s (p' := 39) (L' := [some (aA 20), some (aA 20), some (aI 0)]) rfl rfl ?_
  refine E_s (p' := 40) (st' := aI 0 :: _) rfl rfl ?_
  refine E_s (p' := 41) (st' := aA 20 :: _) rfl rfl ?_
  refine E_s (p' := 44) (st' := aA 29 :: _) rfl rfl ?_
  refine E_s (p' := 45) (st' := aA 20 :: _) rfl rfl ?_
  refine E_s (p' := 48) (st' := aA 29 :: _) rfl rfl ?_
  refine E_callL (p' := 51) (L0 := [some (aA 29), some (aA 29), none, none]) rfl rfl rfl ?_
  refine E_s (p' := 1) (st' := aA 29 :: _) rfl rfl ?_
  refine E_s (p' := 4) (st' := aI 0 :: _) rfl rfl ?_
  refine E_s (p' := 5) (st' := aA 29 :: _) rfl rfl ?_
  refine E_s (p' := 8) (st' := aI 0 :: _) rfl rfl ?_
  refine E_s (p' := 15) rfl rfl ?_
  refine E_s (p' := 16) (st' := aI 0 :: _) rfl rfl ?_
  refine E_s (p' := 17) (L' := [some (aA 29), some (aA 29), some (aI 0), none]) rfl rfl ?_
  refine E_s (p' := 18) (st' := aA 29 :: _) rfl rfl ?_
  refine E_s (p' := 19) (st' := aA 29 :: _) rfl rfl ?_
  refine E_s (p' := 22) (st' := aI 0 :: _) rfl rfl ?_
  refine E_stM (p' := 25) (m' := up2 _ 29 3 0) rfl rfl ?_
  refine E_s (p' := 26) (st' := aI 0 :: _) rfl rfl ?_
  refine E_s (p' := 27) (st' := aA 29 :: _) rfl rfl ?_
  refine E_s (p' := 30) (st' := aA 30 :: _) rfl rfl ?_
  refine E_s (p' := 31) (st' := aA 29 :: _) rfl rfl ?_
  refine E_s (p' := 34) (st' := aA 30 :: _) rfl rfl ?_
  refine E_s (p' := 35) (st' := aI 0 :: _) rfl rfl ?_
  refine E_s (p' := 36) (st' := aA 29 :: _) rfl rfl ?_
  refine E_s (p' := 39) (st' := aI 0 :: _) rfl rfl ?_
  refine E_callL (p' := 42) (L0 := [some (aA 30), some (aA 30), some (aI 0), some (aI 0), none, none]) rfl rfl rfl ?_
  refine E_s (p' := 1) (st' := aI 0 :: _) rfl rfl ?_
  refine E_s (p' := 3) (L' := [some (aA 30), some (aA 30), some (aI 0), some (aI 0), some (aI 0), none]) rfl rfl ?_
  refine E_s (p' := 4) (st' := aI 0 :: _) rfl rfl ?_
  refine E_s (p' := 6) (L' := [some (aA 30), some (aA 30), some (aI 0), some (aI 0), some (aI 0), some (aI 0)]) rfl rfl ?_
  refine E_s (p' := 8) (st' := aI 0 :: _) rfl rfl ?_
  refine E_s (p' := 9) (st' := aI 0 :: _) rfl rfl ?_
  refine E_s (p' := 10) (st' := aI 0 :: _) rfl rfl ?_
  refine E_s (p' := 11) (st' := aI 0 :: _) rfl rfl ?_
  refine E_s (p' := 49) rfl rfl ?_
  refine E_s (p' := 51) (st' := aI 0 :: _) rfl rfl ?_
  refine E_ret rfl rfl ?_
  refine E_s (p' := 43) (st' := aI 0 :: _) rfl rfl ?_
  refine E_s (p' := 44) (L' := [some (aA 29), some (aA 29), some (aI 0), none]) rfl rfl ?_
  refine E_s (p' := 45) (st' := aI 0 :: _) rfl rfl ?_
  refine E_s (p' := 46) (st' := aA 29 :: _) rfl rfl ?_
  refine E_s (p' := 49) (st' := aA 31 :: _) rfl rfl ?_
  refine E_s (p' := 50) (st' := aA 29 :: _) rfl rfl ?_
  refine E_s (p' := 53) (st' := aA 31 :: _) rfl rfl ?_
  refine E_s (p' := 54) (st' := aI 0 :: _) rfl rfl ?_
  refine E_s (p' := 55) (st' := aA 29 :: _) rfl rfl ?_
  refine E_s (p' := 58) (st' := aI 0 :: _) rfl rfl ?_
  refine E_callL (p' := 61) (L0 := [some (aA 31), some (aA 31), some (aI 0), some (aI 0), none, none]) rfl rfl rfl ?_
  refine E_s (p' := 1) (st' := aI 0 :: _) rfl rfl ?_
  refine E_s (p' := 3) (L' := [some (aA 31), some (aA 31), some (aI 0), some (aI 0), some (aI 0), none]) rfl rfl ?_
  refine E_s (p' := 4) (st' := aI 0 :: _) rfl rfl ?_
  refine E_s (p' := 6) (L' := [some (aA 31), some (aA 31), some (aI 0), some (aI 0), some (aI 0), some (aI 0)]) rfl rfl ?_
  refine E_s (p' := 8) (st' := aI 0 :: _) rfl rfl ?_
  refine E_s (p' := 9) (st' := aI 0 :: _) rfl rfl ?_
  refine E_s (p' := 10) (st' := aI 0 :: _) rfl rfl ?_
  refine E_s (p' := 11) (st' := aI 0 :: _) rfl rfl ?_
  refine E_s (p' := 49) rfl rfl ?_
  refine E_s (p' := 51) (st' := aI 0 :: _) rfl rfl ?_
  refine E_ret rfl rfl ?_
  refine E_s (p' := 62) (st' := aI 0 :: _) rfl rfl ?_
  refine E_s (p' := 63) (L' := [some (aA 29), some (aA 29), some (aI 0), none]) rfl rfl ?_
  refine E_s (p' := 64) (st' := aI 0 :: _) rfl rfl ?_
  refine E_s (p' := 65) (L' := [some (aA 29), some (aA 29), some (aI 0), some (aI 0)]) rfl rfl ?_
  refine E_s (p' := 66) (st' := aI 0 :: _) rfl rfl ?_
  refine E_s (p' := 67) (st' := aA 29 :: _) rfl rfl ?_
  refine E_s (p' := 70) (st' := aI 0 :: _) rfl rfl ?_
  refine E_s (p' := 103) rfl rfl ?_
  refine E_s (p' := 104) (st' := aI 0 :: _) rfl rfl ?_
  refine E_ret rfl rfl ?_
  refine E_s (p' := 52) (st' := aI 0 :: _) rfl rfl ?_
  refine E_s (p' := 53) (L' := [some (aA 20), some (aA 20), some (aI 0)]) rfl rfl ?_
  refine E_s (p' := 54) (st' := aI 0 :: _) rfl rfl ?_
  refine E_s (p' := 61) rfl rfl ?_
  refine E_ret rfl rfl ?_
  refine E_s (p' := 33) (st' := aA 20 :: _) rfl rfl ?_
  refine E_s (p' := 36) (st' := aA 21 :: _) rfl rfl ?_
  refine E_s (p' := 39) (st' := aI 0 :: _) rfl rfl ?_
  refine E_ret rfl rfl ?_
  refine E_s (p' := 529) (st' := aA 124 :: _) rfl rfl ?_
  refine E_s (p' := 530) (st' := aA 0 :: _) rfl rfl ?_
  refine E_s (p' := 531) (st' := aI 0 :: _) rfl rfl ?_
  refine E_s (p' := 532) (st' := aI 1 :: _) rfl rfl ?_
  refine E_s (p' := 533) (st' := aI 1 :: _) rfl rfl ?_
  refine E_scr rfl rfl h1 ?_
  refine E_s (p' := 535) (st' := aA 0 :: _) rfl rfl ?_
  refine E_s (p' := 536) (st' := aI 0 :: _) rfl rfl ?_
  refine E_s (p' := 537) (st' := aI 2 :: _) rfl rfl ?_
  refine E_s (p' := 538) (st' := aI 2 :: _) rfl rfl ?_
  refine E_scr rfl rfl h2 ?_
  refine E_callL (p' := 542) (L0 := [some (aA 124), some (aI 0), some (aI 0), none, none, none]) rfl rfl rfl ?_
  refine E_s (p' := 1) (st' := aI 0 :: _) rfl rfl ?_
  refine E_callL (p' := 4) (L0 := [some (aI 0)]) rfl rfl rfl ?_
  refine E_s (p' := 1) (st' := aI 0 :: _) rfl rfl ?_
  refine E_s (p' := 2) (st' := aI 0 :: _) rfl rfl ?_
  refine E_s (p' := 3) (st' := aI 3 :: _) rfl rfl ?_
  refine E_callL (p' := 6) (L0 := [some (aI 0), some (aI 0), some (aI 3)]) rfl rfl rfl ?_
  refine E_s (p' := 1) (st' := aI 0 :: _) rfl rfl ?_
  refine E_s (p' := 2) (st' := aI 0 :: _) rfl rfl ?_
  refine E_s (p' := 5) rfl rfl ?_
  refine E_s (p' := 6) (st' := aI 0 :: _) rfl rfl ?_
  refine E_s (p' := 7) (st' := aI 3 :: _) rfl rfl ?_
  refine E_s (p' := 10) rfl rfl ?_
  refine E_s (p' := 11) (st' := aI 1 :: _) rfl rfl ?_
  refine E_s (p' := 15) rfl rfl ?_
  refine E_ret rfl rfl ?_
  refine E_ret rfl rfl ?_
  refine E_s (p' := 7) rfl rfl ?_
  refine E_s (p' := 8) (st' := aI 0 :: _) rfl rfl ?_
  refine E_callL (p' := 11) (L0 := [some (aI 0)]) rfl rfl rfl ?_
  refine E_s (p' := 1) (st' := aI 0 :: _) rfl rfl ?_
  refine E_s (p' := 2) (st' := aI 0 :: _) rfl rfl ?_
  refine E_s (p' := 3) (st' := aI 3 :: _) rfl rfl ?_
  refine E_callL (p' := 6) (L0 := [some (aI 0), some (aI 0), some (aI 3)]) rfl rfl rfl ?_
  refine E_s (p' := 1) (st' := aI 0 :: _) rfl rfl ?_
  refine E_s (p' := 2) (st' := aI 0 :: _) rfl rfl ?_
  refine E_s (p' := 5) rfl rfl ?_
  refine E_s (p' := 6) (st' := aI 0 :: _) rfl rfl ?_
  refine E_s (p' := 7) (st' := aI 3 :: _) rfl rfl ?_
  refine E_s (p' := 10) rfl rfl ?_
  refine E_s (p' := 11) (st' := aI 1 :: _) rfl rfl ?_
  refine E_s (p' := 15) rfl rfl ?_
  refine E_ret rfl rfl ?_
  refine E_ret rfl rfl ?_
  refine E_s (p' := 17) rfl rfl ?_
  refine E_s (p' := 18) (st' := aA 124 :: _) rfl rfl ?_
  refine E_s (p' := 19) (st' := aI 0 :: _) rfl rfl ?_
  refine E_callL (p' := 22) (L0 := [some (aA 124), some (aI 0)]) rfl rfl rfl ?_
  refine E_s (p' := 1) (st' := aA 124 :: _) rfl rfl ?_
  refine E_s (p' := 4) (st' := aA 140 :: _) rfl rfl ?_
  refine E_s (p' := 5) (st' := aI 0 :: _) rfl rfl ?_
  refine E_s (p' := 6) (st' := aI 0 :: _) rfl rfl ?_
  refine E_stM (p' := 7) (m' := up2 _ 140 0 0) rfl rfl ?_
  refine E_ret rfl rfl ?_
  refine E_s (p' := 23) (st' := aI 0 :: _) rfl rfl ?_
  refine E_s (p' := 24) (st' := aI 0 :: _) rfl rfl ?_
  refine E_s (p' := 27) rfl rfl ?_
  refine E_s (p' := 28) (st' := aA 124 :: _) rfl rfl ?_
  refine E_s (p' := 31) (st' := aA 125 :: _) rfl rfl ?_
  refine E_s (p' := 32) (st' := aI 0 :: _) rfl rfl ?_
  refine E_s (p' := 33) (st' := aI 0 :: _) rfl rfl ?_
  refine E_ret rfl rfl ?_
  refine E_s (p' := 1174) rfl rfl ?_
  refine E_s (p' := 1177) (L' := [some (aA 0), some (aA 1), some (aA 124), some (aI 6)]) rfl rfl ?_
  refine E_s (p' := 18) rfl rfl ?_
  refine E_s (p' := 19) (st' := aI 6 :: _) rfl rfl ?_
  refine E_s (p' := 20) (st' := aA 0 :: _) rfl rfl ?_
  refine E_s (p' := 21) (st' := aI 6 :: _) rfl rfl ?_
  refine E_s (p' := 23) (st' := aI 6 :: _) rfl rfl ?_
  refine E_s (p' := 24) (st' := aI 0 :: _) rfl rfl ?_
  refine E_s (p' := 1180) rfl rfl ?_
  refine E_s (p' := 1181) (st' := aI 1 :: _) rfl rfl ?_
  exact E_ret rfl rfl ⟨rfl, rfl⟩
set_option maxRecDepth 100000 in
set_option maxHeartbeats 40000000 in
theorem pc_8_0_1 (xs : Nat → Int) {z a3 a4 a5 : Int} (hz : b32 (fun a b => a &&& b) z 31 = 8) (h0 : xs 0 = z) (h1 : xs 1 = 0) (h2 : xs 2 = 1) (h3 : xs 3 = a3) (h4 : xs 4 = a4) (h5 : xs 5 = a5) : E 0 18 LL [] (s0 xs 6) PQ := by
  refine E_s (p' := 19) (st' := aI 0 :: _) rfl rfl ?_
  refine E_s (p' := 20) (st' := aA 0 :: _) rfl rfl ?_
  refine E_s (p' := 21) (st' := aI 6 :: _) rfl rfl ?_
  refine E_s (p' := 23) (st' := aI 6 :: _) rfl rfl ?_
  refine E_s (p' := 24) (st' := aI 0 :: _) rfl rfl ?_
  refine E_s (p' := 27) rfl rfl ?_
  refine E_s (p' := 28) (st' := aA 0 :: _) rfl rfl ?_
  refine E_s (p' := 29) (st' := aI 0 :: _) rfl rfl ?_
  refine E_scr rfl rfl h0 ?_
  refine E_s (p' := 32) (st' := aI 31 :: _) rfl rfl ?_
  refine E_s (p' := 33) rfl rfl ?_
  refine E_val hz ?_
  refine E_s (p' := 514) rfl rfl ?_
  refine E_s (p' := 515) (st' := aA 1 :: _) rfl rfl ?_
  refine E_s (p' := 516) (st' := aA 0 :: _) rfl rfl ?_
  refine E_s (p' := 517) (st' := aI 0 :: _) rfl rfl ?_
  refine E_s (p' := 518) (st' := aI 1 :: _) rfl rfl ?_
  refine E_s (p' := 519) (st' := aI 1 :: _) rfl rfl ?_
  refine E_scr rfl rfl h1 ?_
  refine E_s (p' := 521) (st' := aA 0 :: _) rfl rfl ?_
  refine E_s (p' := 522) (st' := aI 0 :: _) rfl rfl ?_
  refine E_s (p' := 523) (st' := aI 2 :: _) rfl rfl ?_
  refine E_s (p' := 524) (st' := aI 2 :: _) rfl rfl ?_
  refine E_scr rfl rfl h2 ?_
  refine E_callL (p' := 528) (L0 := [some (aA 1), some (aI 0), some (aI 1), none, none]) rfl rfl rfl ?_
  refine E_s (p' := 1) (st' := aA 1 :: _) rfl rfl ?_
  refine E_s (p' := 2) (st' := aI 0 :: _) rfl rfl ?_
  refine E_callL (p' := 5) (L0 := [some (aA 1), some (aI 0)]) rfl rfl rfl ?_
  refine E_s (p' := 1) (st' := aI 0 :: _) rfl rfl ?_
  refine E_s (p' := 4) rfl rfl ?_
  refine E_s (p' := 5) (st' := aI 0 :: _) rfl rfl ?_
  refine E_s (p' := 6) (st' := aI 4 :: _) rfl rfl ?_
  refine E_s (p' := 9) rfl rfl ?_
  refine E_s (p' := 10) (st' := aA 1 :: _) rfl rfl ?_
  refine E_s (p' := 13) (st' := aA 2 :: _) rfl rfl ?_
  refine E_s (p' := 14) (st' := aI 0 :: _) rfl rfl ?_
  refine E_s (p' := 15) (st' := aA 20 :: _) rfl rfl ?_
  refine E_s (p' := 19) rfl rfl ?_
  refine E_ret rfl rfl ?_
  refine E_s (p' := 6) (L' := [some (aA 1), some (aI 0), some (aI 1), some (aA 20), none]) rfl rfl ?_
  refine E_s (p' := 7) (st' := aA 1 :: _) rfl rfl ?_
  refine E_s (p' := 8) (st' := aI 1 :: _) rfl rfl ?_
  refine E_callL (p' := 11) (L0 := [some (aA 1), some (aI 1)]) rfl rfl rfl ?_
  refine E_s (p' := 1) (st' := aI 1 :: _) rfl rfl ?_
  refine E_s (p' := 4) rfl rfl ?_
  refine E_s (p' := 5) (st' := aI 1 :: _) rfl rfl ?_
  refine E_s (p' := 6) (st' := aI 4 :: _) rfl rfl ?_
  refine E_s (p' := 9) rfl rfl ?_
  refine E_s (p' := 10) (st' := aA 1 :: _) rfl rfl ?_
  refine E_s (p' := 13) (st' := aA 2 :: _) rfl rfl ?_
  refine E_s (p' := 14) (st' := aI 1 :: _) rfl rfl ?_
  refine E_s (p' := 15) (st' := aA 46 :: _) rfl rfl ?_
  refine E_s (p' := 19) rfl rfl ?_
  refine E_ret rfl rfl ?_
  refine E_s (p' := 13) (L' := [some (aA 1), some (aI 0), some (aI 1), some (aA 20), some (aA 46)]) rfl rfl ?_
  refine E_s (p' := 14) (st' := aA 20 :: _) rfl rfl ?_
  refine E_s (p' := 17) rfl rfl ?_
  refine E_s (p' := 19) (st' := aA 46 :: _) rfl rfl ?_
  refine E_s (p' := 25) rfl rfl ?_
  refine E_s (p' := 27) (st' := aA 46 :: _) rfl rfl ?_
  refine E_s (p' := 28) (st' := aA 20 :: _) rfl rfl ?_
  refine E_callL (p' := 31) (L0 := [some (aA 46), some (aA 20), none]) rfl rfl rfl ?_
  refine E_s (p' := 1) (st' := aA 46 :: _) rfl rfl ?_
  refine E_s (p' := 4) (st' := aI 15 :: _) rfl rfl ?_
  refine E_s (p' := 5) (st' := aA 20 :: _) rfl rfl ?_
  refine E_s (p' := 8) (st' := aI 15 :: _) rfl rfl ?_
  refine E_s (p' := 15) rfl rfl ?_
  refine E_s (p' := 16) (st' := aI 0 :: _) rfl rfl ?_
  refine E_s (p' := 17) (L' := [some (aA 46), some (aA 20), some (aI 0)]) rfl rfl ?_
  refine E_s (p' := 18) (st' := aA 46 :: _) rfl rfl ?_
  refine E_s (p' := 19) (st' := aA 20 :: _) rfl rfl ?_
  refine E_s (p' := 22) (st' := aI 15 :: _) rfl rfl ?_
  refine E_stM (p' := 25) (m' := up2 _ 46 5 15) rfl rfl ?_
  refine E_s (p' := 26) (st' := aI 0 :: _) rfl rfl ?_
  refine E_s (p' := 27) (st' := aA 46 :: _) rfl rfl ?_
  refine E_s (p' := 30) (st' := aA 47 :: _) rfl rfl ?_
  refine E_s (p' := 31) (st' := aA 20 :: _) rfl rfl ?_
  refine E_s (p' := 34) (st' := aA 21 :: _) rfl rfl ?_
  refine E_callL (p' := 37) (L0 := [some (aA 47), some (aA 21), none, none]) rfl rfl rfl ?_
  refine E_s (p' := 1) (st' := aA 47 :: _) rfl rfl ?_
  refine E_s (p' := 4) (st' := aI 0 :: _) rfl rfl ?_
  refine E_s (p' := 5) (st' := aA 21 :: _) rfl rfl ?_
  refine E_s (p' := 8) (st' := aI 0 :: _) rfl rfl ?_
  refine E_s (p' := 15) rfl rfl ?_
  refine E_s (p' := 16) (st' := aI 0 :: _) rfl rfl ?_
  refine E_s (p' := 17) (L' := [some (aA 47), some (aA 21), some (aI 0), none]) rfl rfl ?_
  refine E_s (p' := 18) (st' := aA 47 :: _) rfl rfl ?_
  refine E_s (p' := 19) (st' := aA 21 :: _) rfl rfl ?_
  refine E_s (p' := 22) (st' := aI 0 :: _) rfl rfl ?_
  refine E_stM (p' := 25) (m' := up2 _ 47 7 0) rfl rfl ?_
  refine E_s (p' := 26) (st' := aI 0 :: _) rfl rfl ?_
  refine E_s (p' := 27) (st' := aA 47 :: _) rfl rfl ?_
  refine E_s (p' := 30) (st' := aA 48 :: _) rfl rfl ?_
  refine E_s (p' := 31) (st' := aA 21 :: _) rfl rfl ?_
  refine E_s (p' := 34) (st' := aA 22 :: _) rfl rfl ?_
  refine E_s (p' := 35) (st' := aI 0 :: _) rfl rfl ?_
  refine E_s (p' := 36) (st' := aA 47 :: _) rfl rfl ?_
  refine E_s (p' := 39) (st' := aI 0 :: _) rfl rfl ?_
  refine E_callL (p' := 42) (L0 := [some (aA 48), some (aA 22), some (aI 0), some (aI 0), none, none]) rfl rfl rfl ?_
  refine E_s (p' := 1) (st' := aI 0 :: _) rfl rfl ?_
  refine E_s (p' := 3) (L' := [some (aA 48), some (aA 22), some (aI 0), some (aI 0), some (aI 0), none]) rfl rfl ?_
  refine E_s (p' := 4) (st' := aI 0 :: _) rfl rfl ?_
  refine E_s (p' := 6) (L' := [some (aA 48), some (aA 22), some (aI 0), some (aI 0), some (aI 0), some (aI 0)]) rfl rfl ?_
  refine E_s (p' := 8) (st' := aI 0 :: _) rfl rfl ?_
  refine E_s (p' := 9) (st' := aI 0 :: _) rfl rfl ?_
  refine E_s (p' := 10) (st' := aI 0 :: _) rfl rfl ?_
  refine E_s (p' := 11) (st' := aI 0 :: _) rfl rfl ?_
  refine E_s (p' := 49) rfl rfl ?_
  refine E_s (p' := 51) (st' := aI 0 :: _) rfl rfl ?_
  refine E_ret rfl rfl ?_
  refine E_s (p' := 43) (st' := aI 0 :: _) rfl rfl ?_
  refine E_s (p' := 44) (L' := [some (aA 47), some (aA 21), some (aI 0), none]) rfl rfl ?_
  refine E_s (p' := 45) (st' := aI 0 :: _) rfl rfl ?_
  refine E_s (p' := 46) (st' := aA 47 :: _) rfl rfl ?_
  refine E_s (p' := 49) (st' := aA 49 :: _) rfl rfl ?_
  refine E_s (p' := 50) (st' := aA 21 :: _) rfl rfl ?_
  refine E_s (p' := 53) (st' := aA 23 :: _) rfl rfl ?_
  refine E_s (p' := 54) (st' := aI 0 :: _) rfl rfl ?_
  refine E_s (p' := 55) (st' := aA 47 :: _) rfl rfl ?_
  refine E_s (p' := 58) (st' := aI 0 :: _) rfl rfl ?_
  refine E_callL (p' := 61) (L0 := [some (aA 49), some (aA 23), some (aI 0), some (aI 0), none, none]) rfl rfl rfl ?_
  refine E_s (p' := 1) (st' := aI 0 :: _) rfl rfl ?_
  refine E_s (p' := 3) (L' := [some (aA 49), some (aA 23), some (aI 0), some (aI 0), some (aI 0), none]) rfl rfl ?_
  refine E_s (p' := 4) (st' := aI 0 :: _) rfl rfl ?_
  refine E_s (p' := 6) (L' := [some (aA 49), some (aA 23), some (aI 0), some (aI 0), some (aI 0), some (aI 0)]) rfl rfl ?_
  refine E_s (p' := 8) (st' := aI 0 :: _) rfl rfl ?_
  refine E_s (p' := 9) (st' := aI 0 :: _) rfl rfl ?_
  refine E_s (p' := 10) (st' := aI 0 :: _) rfl rfl ?_
  refine E_s (p' := 11) (st' := aI 0 :: _) rfl rfl ?_
  refine E_s (p' := 49) rfl rfl ?_
  refine E_s (p' := 51) (st' := aI 0 :: _) rfl rfl ?_
  refine E_ret rfl rfl ?_
  refine E_s (p' := 62) (st' := aI 0 :: _) rfl rfl ?_
  refine E_s (p' := 63) (L' := [some (aA 47), some (aA 21), some (aI 0), none]) rfl rfl ?_
  refine E_s (p' := 64) (st' := aI 0 :: _) rfl rfl ?_
  refine E_s (p' := 65) (st' := aA 47 :: _) rfl rfl ?_
  refine E_s (p' := 68) (st' := aA 50 :: _) rfl rfl ?_
  refine E_s (p' := 69) (st' := aA 21 :: _) rfl rfl ?_
  refine E_s (p' := 72) (st' := aA 24 :: _) rfl rfl ?_
  refine E_s (p' := 73) (st' := aI 0 :: _) rfl rfl ?_
  refine E_s (p' := 74) (st' := aA 47 :: _) rfl rfl ?_
  refine E_s (p' := 77) (st' := aI 0 :: _) rfl rfl ?_
  refine E_callL (p' := 80) (L0 := [some (aA 50), some (aA 24), some (aI 0), some (aI 0), none, none]) rfl rfl rfl ?_
  refine E_s (p' := 1) (st' := aI 0 :: _) rfl rfl ?_
  refine E_s (p' := 3) (L' := [some (aA 50), some (aA 24), some (aI 0), some (aI 0), some (aI 0), none]) rfl rfl ?_
  refine E_s (p' := 4) (st' := aI 0 :: _) rfl rfl ?_
  refine E_s (p' := 6) (L' := [some (aA 50), some (aA 24), some (aI 0), some (aI 0), some (aI 0), some (aI 0)]) rfl rfl ?_
  refine E_s (p' := 8) (st' := aI 0 :: _) rfl rfl ?_
  refine E_s (p' := 9) (st' := aI 0 :: _) rfl rfl ?_
  refine E_s (p' := 10) (st' := aI 0 :: _) rfl rfl ?_
  refine E_s (p' := 11) (st' := aI 0 :: _) rfl rfl ?_
  refine E_s (p' := 49) rfl rfl ?_
  refine E_s (p' := 51) (st' := aI 0 :: _) rfl rfl ?_
  refine E_ret rfl rfl ?_
  refine E_s (p' := 81) (st' := aI 0 :: _) rfl rfl ?_
  refine E_s (p' := 82) (L' := [some (aA 47), some (aA 21), some (aI 0), none]) rfl rfl ?_
  refine E_s (p' := 83) (st' := aI 0 :: _) rfl rfl ?_
  refine E_s (p' := 84) (st' := aA 47 :: _) rfl rfl ?_
  refine E_s (p' := 87) (st' := aA 51 :: _) rfl rfl ?_
  refine E_s (p' := 88) (st' := aA 21 :: _) rfl rfl ?_
  refine E_s (p' := 91) (st' := aA 25 :: _) rfl rfl ?_
  refine E_s (p' := 92) (st' := aI 0 :: _) rfl rfl ?_
  refine E_s (p' := 93) (st' := aA 47 :: _) rfl rfl ?_
  refine E_s (p' := 96) (st' := aI 0 :: _) rfl rfl ?_
  refine E_callL (p' := 99) (L0 := [some (aA 51), some (aA 25), some (aI 0), some (aI 0), none, none]) rfl rfl rfl ?_
  refine E_s (p' := 1) (st' := aI 0 :: _) rfl rfl ?_
  refine E_s (p' := 3) (L' := [some (aA 51), some (aA 25), some (aI 0), some (aI 0), some (aI 0), none]) rfl rfl ?_
  refine E_s (p' := 4) (st' := aI 0 :: _) rfl rfl ?_
  refine E_s (p' := 6) (L' := [some (aA 51), some (aA 25), some (aI 0), some (aI 0), some (aI 0), some (aI 0)]) rfl rfl ?_
  refine E_s (p' := 8) (st' := aI 0 :: _) rfl rfl ?_
  refine E_s (p' := 9) (st' := aI 0 :: _) rfl rfl ?_
  refine E_s (p' := 10) (st' := aI 0 :: _) rfl rfl ?_
  refine E_s (p' := 11) (st' := aI 0 :: _) rfl rfl ?_
  refine E_s (p' := 49) rfl rfl ?_
  refine E_s (p' := 51) (st' := aI 0 :: _) rfl rfl ?_
  refine E_ret rfl rfl ?_
  refine E_s (p' := 100) (st' := aI 0 :: _) rfl rfl ?_
  refine E_s (p' := 101) (L' := [some (aA 47), some (aA 21), some (aI 0), none]) rfl rfl ?_
  refine E_s (p' := 102) (st' := aI 0 :: _) rfl rfl ?_
  refine E_s (p' := 103) (st' := aA 47 :: _) rfl rfl ?_
  refine E_s (p' := 106) (st' := aA 52 :: _) rfl rfl ?_
  refine E_s (p' := 107) (st' := aA 21 :: _) rfl rfl ?_
  refine E_s (p' := 110) (st' := aA 26 :: _) rfl rfl ?_
  refine E_s (p' := 111) (st' := aI 0 :: _) rfl rfl ?_
  refine E_s (p' := 112) (st' := aA 47 :: _) rfl rfl ?_
  refine E_s (p' := 115) (st' := aI 0 :: _) rfl rfl ?_
  refine E_callL (p' := 118) (L0 := [some (aA 52), some (aA 26), some (aI 0), some (aI 0), none, none]) rfl rfl rfl ?_
  refine E_s (p' := 1) (st' := aI 0 :: _) rfl rfl ?_
  refine E_s (p' := 3) (L' := [some (aA 52), some (aA 26), some (aI 0), some (aI 0), some (aI 0), none]) rfl rfl ?_
  refine E_s (p' := 4) (st' := aI 0 :: _) rfl rfl ?_
  refine E_s (p' := 6) (L' := [some (aA 52), some (aA 26), some (aI 0), some (aI 0), some (aI 0), some (aI 0)]) rfl rfl ?_
  refine E_s (p' := 8) (st' := aI 0 :: _) rfl rfl ?_
  refine E_s (p' := 9) (st' := aI 0 :: _) rfl rfl ?_
  refine E_s (p' := 10) (st' := aI 0 :: _) rfl rfl ?_
  refine E_s (p' := 11) (st' := aI 0 :: _) rfl rfl ?_
  refine E_s (p' := 49) rfl rfl ?_
  refine E_s (p' := 51) (st' := aI 0 :: _) rfl rfl ?_
  refine E_ret rfl rfl ?_
  refine E_s (p' := 119) (st' := aI 0 :: _) rfl rfl ?_
  refine E_s (p' := 120) (L' := [some (aA 47), some (aA 21), some (aI 0), none]) rfl rfl ?_
  refine E_s (p' := 121) (st' := aI 0 :: _) rfl rfl ?_
  refine E_s (p' := 122) (st' := aA 47 :: _) rfl rfl ?_
  refine E_s (p' := 125) (st' := aA 53 :: _) rfl rfl ?_
  refine E_s (p' := 126) (st' := aA 21 :: _) rfl rfl ?_
  refine E_s (p' := 129) (st' := aA 27 :: _) rfl rfl ?_
  refine E_s (p' := 130) (st' := aI 0 :: _) rfl rfl ?_
  refine E_s (p' := 131) (st' := aA 47 :: _) rfl rfl ?_
  refine E_s (p' := 134) (st' := aI 0 :: _) rfl rfl ?_
  refine E_callL (p' := 137) (L0 := [some (aA 53), some (aA 27), some (aI 0), some (aI 0), none, none]) rfl rfl rfl ?_
  refine E_s (p' := 1) (st' := aI 0 :: _) rfl rfl ?_
  refine E_s (p' := 3) (L' := [some (aA 53), some (aA 27), some (aI 0), some (aI 0), some (aI 0), none]) rfl rfl ?_
  refine E_s (p' := 4) (st' := aI 0 :: _) rfl rfl ?_
  refine E_s (p' := 6) (L' := [some (aA 53), some (aA 27), some (aI 0), some (aI 0), some (aI 0), some (aI 0)]) rfl rfl ?_
  refine E_s (p' := 8) (st' := aI 0 :: _) rfl rfl ?_
  refine E_s (p' := 9) (st' := aI 0 :: _) rfl rfl ?_
  refine E_s (p' := 10) (st' := aI 0 :: _) rfl rfl ?_
  refine E_s (p' := 11) (st' := aI 0 :: _) rfl rfl ?_
  refine E_s (p' := 49) rfl rfl ?_
  refine E_s (p' := 51) (st' := aI 0 :: _) rfl rfl ?_
  refine E_ret rfl rfl ?_
  refine E_s (p' := 138) (st' := aI 0 :: _) rfl rfl ?_
  refine E_s (p' := 139) (L' := [some (aA 47), some (aA 21), some (aI 0), none]) rfl rfl ?_
  refine E_s (p' := 140) (st' := aI 0 :: _) rfl rfl ?_
  refine E_s (p' := 141) (L' := [some (aA 47), some (aA 21), some (aI 0), some (aI 0)]) rfl rfl ?_
  refine E_s (p' := 142) (st' := aI 0 :: _) rfl rfl ?_
  refine E_s (p' := 143) (st' := aA 47 :: _) rfl rfl ?_
  refine E_s (p' := 146) (st' := aI 0 :: _) rfl rfl ?_
  refine E_s (p' := 179) rfl rfl ?_
  refine E_s (p' := 180) (st' := aI 0 :: _) rfl rfl ?_
  refine E_ret rfl rfl ?_
  refine E_s (p' := 38) (st' := aI 0 :: _) rfl rfl ?_
  refine E_s (p' := 39) (L' := [some (aA 46), some (aA 20), some (aI 0)]) rfl rfl ?_
  refine E_s (p' := 40) (st' := aI 0 :: _) rfl rfl ?_
  refine E_s (p' := 41) (st' := aA 46 :: _) rfl rfl ?_
  refine E_s (p' := 44) (st' := aA 55 :: _) rfl rfl ?_
  refine E_s (p' := 45) (st' := aA 20 :: _) rfl rfl ?_
  refine E_s (p' := 48) (st' := aA 29 :: _) rfl rfl ?_
  refine E_callL (p' := 51) (L0 := [some (aA 55), some (aA 29), none, none]) rfl rfl rfl ?_
  refine E_s (p' := 1) (st' := aA 55 :: _) rfl rfl ?_
  refine E_s (p' := 4) (st' := aI 0 :: _) rfl rfl ?_
  refine E_s (p' := 5) (st' := aA 29 :: _) rfl rfl ?_
  refine E_s (p' := 8) (st' := aI 0 :: _) rfl rfl ?_
  refine E_s (p' := 15) rfl rfl ?_
  refine E_s (p' := 16) (st' := aI 0 :: _) rfl rfl ?_
  refine E_s (p' := 17) (L' := [some (aA 55), some (aA 29), some (aI 0), none]) rfl rfl ?_
  refine E_s (p' := 18) (st' := aA 55 :: _) rfl rfl ?_
  refine E_s (p' := 19) (st' := aA 29 :: _) rfl rfl ?_
  refine E_s (p' := 22) (st' := aI 0 :: _) rfl rfl ?_
  refine E_stM (p' := 25) (m' := up2 _ 55 3 0) rfl rfl ?_
  refine E_s (p' := 26) (st' := aI 0 :: _) rfl rfl ?_
  refine E_s (p' := 27) (st' := aA 55 :: _) rfl rfl ?_
  refine E_s (p' := 30) (st' := aA 56 :: _) rfl rfl ?_
  refine E_s (p' := 31) (st' := aA 29 :: _) rfl rfl ?_
  refine E_s (p' := 34) (st' := aA 30 :: _) rfl rfl ?_
  refine E_s (p' := 35) (st' := aI 0 :: _) rfl rfl ?_
  refine E_s (p' := 36) (st' := aA 55 :: _) rfl rfl ?_
  refine E_s (p' := 39) (st' := aI 0 :: _) rfl rfl ?_
  refine E_callL (p' := 42) (L0 := [some (aA 56), some (aA 30), some (aI 0), some (aI 0), none, none]) rfl rfl rfl ?_
  refine E_s (p' := 1) (st' := aI 0 :: _) rfl rfl ?_
  refine E_s (p' := 3) (L' := [some (aA 56), some (aA 30), some (aI 0), some (aI 0), some (aI 0), none]) rfl rfl ?_
  refine E_s (p' := 4) (st' := aI 0 :: _) rfl rfl ?_
  refine E_s (p' := 6) (L' := [some (aA 56), some (aA 30), some (aI 0), some (aI 0), some (aI 0), some (aI 0)]) rfl rfl ?_
  refine E_s (p' := 8) (st' := aI 0 :: _) rfl rfl ?_
  refine E_s (p' := 9) (st' := aI 0 :: _) rfl rfl ?_
  refine E_s (p' := 10) (st' := aI 0 :: _) rfl rfl ?_
  refine E_s (p' := 11) (st' := aI 0 :: _) rfl rfl ?_
  refine E_s (p' := 49) rfl rfl ?_
  refine E_s (p' := 51) (st' := aI 0 :: _) rfl rfl ?_
  refine E_ret rfl rfl ?_
  refine E_s (p' := 43) (st' := aI 0 :: _) rfl rfl ?_
  refine E_s (p' := 44) (L' := [some (aA 55), some (aA 29), some (aI 0), none]) rfl rfl ?_
  refine E_s (p' := 45) (st' := aI 0 :: _) rfl rfl ?_
  refine E_s (p' := 46) (st' := aA 55 :: _) rfl rfl ?_
  refine E_s (p' := 49) (st' := aA 57 :: _) rfl rfl ?_
  refine E_s (p' := 50) (st' := aA 29 :: _) rfl rfl ?_
  refine E_s (p' := 53) (st' := aA 31 :: _) rfl rfl ?_
  refine E_s (p' := 54) (st' := aI 0 :: _) rfl rfl ?_
  refine E_s (p' := 55) (st' := aA 55 :: _) rfl rfl ?_
  refine E_s (p' := 58) (st' := aI 0 :: _) rfl rfl ?_
  refine E_callL (p' := 61) (L0 := [some (aA 57), some (aA 31), some (aI 0), some (aI 0), none, none]) rfl rfl rfl ?_
  refine E_s (p' := 1) (st' := aI 0 :: _) rfl rfl ?_
  refine E_s (p' := 3) (L' := [some (aA 57), some (aA 31), some (aI 0), some (aI 0), some (aI 0), none]) rfl rfl ?_
  refine E_s (p' := 4) (st' := aI 0 :: _) rfl rfl ?_
  refine E_s (p' := 6) (L' := [some (aA 57), some (aA 31), some (aI 0), some (aI 0), some (aI 0), some (aI 0)]) rfl rfl ?_
  refine E_s (p' := 8) (st' := aI 0 :: _) rfl rfl ?_
  refine E_s (p' := 9) (st' := aI 0 :: _) rfl rfl ?_
  refine E_s (p' := 10) (st' := aI 0 :: _) rfl rfl ?_
  refine E_s (p' := 11) (st' := aI 0 :: _) rfl rfl ?_
  refine E_s (p' := 49) rfl rfl ?_
  refine E_s (p' := 51) (st' := aI 0 :: _) rfl rfl ?_
  refine E_ret rfl rfl ?_
  refine E_s (p' := 62) (st' := aI 0 :: _) rfl rfl ?_
  refine E_s (p' := 63) (L' := [some (aA 55), some (aA 29), some (aI 0), none]) rfl rfl ?_
  refine E_s (p' := 64) (st' := aI 0 :: _) rfl rfl ?_
  refine E_s (p' := 65) (L' := [some (aA 55), some (aA 29), some (aI 0), some (aI 0)]) rfl rfl ?_
  refine E_s (p' := 66) (st' := aI 0 :: _) rfl rfl ?_
  refine E_s (p' := 67) (st' := aA 55 :: _) rfl rfl ?_
  refine E_s (p' := 70) (st' := aI 0 :: _) rfl rfl ?_
  refine E_s (p' := 103) rfl rfl ?_
  refine E_s (p' := 104) (st' := aI 0 :: _) rfl rfl ?_
  refine E_ret rfl rfl ?_
  refine E_s (p' := 52) (st' := aI 0 :: _) rfl rfl ?_
  refine E_s (p' := 53) (L' := [some (aA 46), some (aA 20), some (aI 0)]) rfl rfl ?_
  refine E_s (p' := 54) (st' := aI 0 :: _) rfl rfl ?_
  refine E_s (p' := 61) rfl rfl ?_
  refine E_ret rfl rfl ?_
  refine E_s (p' := 33) (st' := aA 46 :: _) rfl rfl ?_
  refine E_s (p' := 36) (st' := aA 47 :: _) rfl rfl ?_
  refine E_s (p' := 39) (st' := aI 0 :: _) rfl rfl ?_
  refine E_ret rfl rfl ?_
  refine E_s (p' := 529) (st' := aA 124 :: _) rfl rfl ?_
  refine E_s (p' := 530) (st' := aA 0 :: _) rfl rfl ?_
  refine E_s (p' := 531) (st' := aI 0 :: _) rfl rfl ?_
  refine E_s (p' := 532) (st' := aI 1 :: _) rfl rfl ?_
  refine E_s (p' := 533) (st' := aI 1 :: _) rfl rfl ?_
  refine E_scr rfl rfl h1 ?_
  refine E_s (p' := 535) (st' := aA 0 :: _) rfl rfl ?_
  refine E_s (p' := 536) (st' := aI 0 :: _) rfl rfl ?_
  refine E_s (p' := 537) (st' := aI 2 :: _) rfl rfl ?_
  refine E_s (p' := 538) (st' := aI 2 :: _) rfl rfl ?_
  refine E_scr rfl rfl h2 ?_
  refine E_callL (p' := 542) (L0 := [some (aA 124), some (aI 0), some (aI 1), none, none, none]) rfl rfl rfl ?_
  refine E_s (p' := 1) (st' := aI 0 :: _) rfl rfl ?_
  refine E_callL (p' := 4) (L0 := [some (aI 0)]) rfl rfl rfl ?_
  refine E_s (p' := 1) (st' := aI 0 :: _) rfl rfl ?_
  refine E_s (p' := 2) (st' := aI 0 :: _) rfl rfl ?_
  refine E_s (p' := 3) (st' := aI 3 :: _) rfl rfl ?_
  refine E_callL (p' := 6) (L0 := [some (aI 0), some (aI 0), some (aI 3)]) rfl rfl rfl ?_
  refine E_s (p' := 1) (st' := aI 0 :: _) rfl rfl ?_
  refine E_s (p' := 2) (st' := aI 0 :: _) rfl rfl ?_
  refine E_s (p' := 5) rfl rfl ?_
  refine E_s (p' := 6) (st' := aI 0 :: _) rfl rfl ?_
  refine E_s (p' := 7) (st' := aI 3 :: _) rfl rfl ?_
  refine E_s (p' := 10) rfl rfl ?_
  refine E_s (p' := 11) (st' := aI 1 :: _) rfl rfl ?_
  refine E_s (p' := 15) rfl rfl ?_
  refine E_ret rfl rfl ?_
  refine E_ret rfl rfl ?_
  refine E_s (p' := 7) rfl rfl ?_
  refine E_s (p' := 8) (st' := aI 1 :: _) rfl rfl ?_
  refine E_callL (p' := 11) (L0 := [some (aI 1)]) rfl rfl rfl ?_
  refine E_s (p' := 1) (st' := aI 1 :: _) rfl rfl ?_
  refine E_s (p' := 2) (st' := aI 0 :: _) rfl rfl ?_
  refine E_s (p' := 3) (st' := aI 3 :: _) rfl rfl ?_
  refine E_callL (p' := 6) (L0 := [some (aI 1), some (aI 0), some (aI 3)]) rfl rfl rfl ?_
  refine E_s (p' := 1) (st' := aI 1 :: _) rfl rfl ?_
  refine E_s (p' := 2) (st' := aI 0 :: _) rfl rfl ?_
  refine E_s (p' := 5) rfl rfl ?_
  refine E_s (p' := 6) (st' := aI 1 :: _) rfl rfl ?_
  refine E_s (p' := 7) (st' := aI 3 :: _) rfl rfl ?_
  refine E_s (p' := 10) rfl rfl ?_
  refine E_s (p' := 11) (st' := aI 1 :: _) rfl rfl ?_
  refine E_s (p' := 15) rfl rfl ?_
  refine E_ret rfl rfl ?_
  refine E_ret rfl rfl ?_
  refine E_s (p' := 17) rfl rfl ?_
  refine E_s (p' := 18) (st' := aA 124 :: _) rfl rfl ?_
  refine E_s (p' := 19) (st' := aI 1 :: _) rfl rfl ?_
  refine E_callL (p' := 22) (L0 := [some (aA 124), some (aI 1)]) rfl rfl rfl ?_
  refine E_s (p' := 1) (st' := aA 124 :: _) rfl rfl ?_
  refine E_s (p' := 4) (st' := aA 140 :: _) rfl rfl ?_
  refine E_s (p' := 5) (st' := aI 1 :: _) rfl rfl ?_
  refine E_s (p' := 6) (st' := aI 0 :: _) rfl rfl ?_
  refine E_stM (p' := 7) (m' := up2 _ 140 1 0) rfl rfl ?_
  refine E_ret rfl rfl ?_
  refine E_s (p' := 23) (st' := aI 0 :: _) rfl rfl ?_
  refine E_s (p' := 24) (st' := aI 1 :: _) rfl rfl ?_
  refine E_s (p' := 34) rfl rfl ?_
  refine E_s (p' := 35) (st' := aA 124 :: _) rfl rfl ?_
  refine E_s (p' := 38) (st' := aA 125 :: _) rfl rfl ?_
  refine E_s (p' := 39) (st' := aI 1 :: _) rfl rfl ?_
  refine E_s (p' := 40) (st' := aA 124 :: _) rfl rfl ?_
  refine E_s (p' := 43) (st' := aA 125 :: _) rfl rfl ?_
  refine E_s (p' := 44) (st' := aI 0 :: _) rfl rfl ?_
  refine E_s (p' := 45) (st' := aI 0 :: _) rfl rfl ?_
  refine E_stM (p' := 46) (m' := up2 _ 125 1 0) rfl rfl ?_
  refine E_s (p' := 47) (st' := aA 124 :: _) rfl rfl ?_
  refine E_s (p' := 50) (st' := aA 126 :: _) rfl rfl ?_
  refine E_s (p' := 51) (st' := aI 1 :: _) rfl rfl ?_
  refine E_s (p' := 52) (st' := aA 124 :: _) rfl rfl ?_
  refine E_s (p' := 55) (st' := aA 126 :: _) rfl rfl ?_
  refine E_s (p' := 56) (st' := aI 0 :: _) rfl rfl ?_
  refine E_s (p' := 57) (st' := aI 15 :: _) rfl rfl ?_
  refine E_stM (p' := 58) (m' := up2 _ 126 1 15) rfl rfl ?_
  refine E_s (p' := 59) (st' := aA 124 :: _) rfl rfl ?_
  refine E_s (p' := 62) (st' := aA 136 :: _) rfl rfl ?_
  refine E_s (p' := 63) (st' := aI 1 :: _) rfl rfl ?_
  refine E_s (p' := 64) (st' := aA 124 :: _) rfl rfl ?_
  refine E_s (p' := 67) (st' := aA 136 :: _) rfl rfl ?_
  refine E_s (p' := 68) (st' := aI 0 :: _) rfl rfl ?_
  refine E_s (p' := 69) (st' := aI 0 :: _) rfl rfl ?_
  refine E_stM (p' := 70) (m' := up2 _ 136 1 0) rfl rfl ?_
  refine E_s (p' := 71) (st' := aI 0 :: _) rfl rfl ?_
  refine E_s (p' := 72) (L' := [some (aA 124), some (aI 0), some (aI 1), some (aI 0), none, none]) rfl rfl ?_
  refine E_s (p' := 73) (st' := aI 0 :: _) rfl rfl ?_
  refine E_s (p' := 74) (st' := aA 124 :: _) rfl rfl ?_
  refine E_s (p' := 77) (st' := aA 125 :: _) rfl rfl ?_
  refine E_s (p' := 78) (st' := aI 0 :: _) rfl rfl ?_
  refine E_s (p' := 79) (st' := aI 0 :: _) rfl rfl ?_
  refine E_s (p' := 182) rfl rfl ?_
  refine E_s (p' := 183) (st' := aI 0 :: _) rfl rfl ?_
  refine E_s (p' := 184) (L' := [some (aA 124), some (aI 0), some (aI 1), some (aI 0), none, none]) rfl rfl ?_
  refine E_s (p' := 185) (st' := aI 0 :: _) rfl rfl ?_
  refine E_s (p' := 186) (st' := aA 124 :: _) rfl rfl ?_
  refine E_s (p' := 189) (st' := aA 136 :: _) rfl rfl ?_
  refine E_s (p' := 190) (st' := aI 0 :: _) rfl rfl ?_
  refine E_s (p' := 191) (st' := aI 0 :: _) rfl rfl ?_
  refine E_s (p' := 294) rfl rfl ?_
  refine E_s (p' := 295) (st' := aA 124 :: _) rfl rfl ?_
  refine E_s (p' := 298) (st' := aA 125 :: _) rfl rfl ?_
  refine E_s (p' := 299) (st' := aI 1 :: _) rfl rfl ?_
  refine E_s (p' := 300) (st' := aI 0 :: _) rfl rfl ?_
  refine E_ret rfl rfl ?_
  refine E_s (p' := 1174) rfl rfl ?_
  refine E_s (p' := 1177) (L' := [some (aA 0), some (aA 1), some (aA 124), some (aI 6)]) rfl rfl ?_
  refine E_s (p' := 18) rfl rfl ?_
  refine E_s (p' := 19) (st' := aI 6 :: _) rfl rfl ?_
  refine E_s (p' := 20) (st' := aA 0 :: _) rfl rfl ?_
  refine E_s (p' := 21) (st' := aI 6 :: _) rfl rfl ?_
  refine E_s (p' := 23) (st' := aI 6 :: _) rfl rfl ?_
  refine E_s (p' := 24) (st' := aI 0 :: _) rfl rfl ?_
  refine E_s (p' := 1180) rfl rfl ?_
  refine E_s (p' := 1181) (st' := aI 1 :: _) rfl rfl ?_
  exact E_ret rfl rfl ⟨rfl, rfl⟩
