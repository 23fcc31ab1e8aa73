set_option maxRecDepth 100000 in
set_option maxHeartbeats 40000000 in
theorem pc_10_3 (xs : Nat → Int) {z a2 a3 a4 a5 : Int} (hz : b32 (fun a b => a &&& b) z 31 = 10) (h0 : xs 0 = z) (h1 : xs 1 = 3) (h2 : xs 2 = a2) (h3 : xs 3 = a3) (h4 : xs 4 = a4) (h5 : xs 5 = a5) : E 0 18 LL [] (s0 xs 6) PQ := by
  refine E_s (p' := 19) (st' := aI 0 :: _) rfl rfl ?_
  refine E_s (p' := 20) (st' := aA 0 :: _) rfl rfl ?_
  refine E_s (p' := 21) (st' := aI 6 :: _) rfl rfl ?_
  refine E_s (p' := 23) (st' := aI 6 :: _) rfl rfl ?_
  refine E_s (p' := 24) (st' := aI 0 :: _) rfl rfl ?_
  refine E_s (p' := 27) rfl rfl ?_
  refine E_s (p' := 28) (st' := aA 0 :: _) rfl rfl ?_
  refine E_s (p' := 29) (st' := aI 0 :: _) rfl rfl ?_
  refine E_scr rfl rfl h0 ?_
  refine E_s (p' := 32) (st' := aI 31 :: _) rfl rfl ?_
  refine E_s (p' := 33) rfl rfl ?_
  refine E_val hz ?_
  refine E_s (p' := 590) rfl rfl ?_
  refine E_s (p' := 591) (st' := aA 1 :: _) rfl rfl ?_
  refine E_s (p' := 592) (st' := aA 0 :: _) rfl rfl ?_
  refine E_s (p' := 593) (st' := aI 0 :: _) rfl rfl ?_
  refine E_s (p' := 594) (st' := aI 1 :: _) rfl rfl ?_
  refine E_s (p' := 595) (st' := aI 1 :: _) rfl rfl ?_
  refine E_scr rfl rfl h1 ?_
  refine E_s (p' := 597) (st' := aA 0 :: _) rfl rfl ?_
  refine E_s (p' := 598) (st' := aI 0 :: _) rfl rfl ?_
  refine E_s (p' := 599) (st' := aI 2 :: _) rfl rfl ?_
  refine E_s (p' := 600) (st' := aI 2 :: _) rfl rfl ?_
  refine E_scr rfl rfl h2 ?_
  refine E_s (p' := 602) (st' := aA 0 :: _) rfl rfl ?_
  refine E_s (p' := 603) (st' := aI 0 :: _) rfl rfl ?_
  refine E_s (p' := 604) (st' := aI 3 :: _) rfl rfl ?_
  refine E_s (p' := 605) (st' := aI 3 :: _) rfl rfl ?_
  refine E_scr rfl rfl h3 ?_
  refine E_s (p' := 607) (st' := aA 0 :: _) rfl rfl ?_
  refine E_s (p' := 608) (st' := aI 0 :: _) rfl rfl ?_
  refine E_s (p' := 609) (st' := aI 4 :: _) rfl rfl ?_
  refine E_s (p' := 610) (st' := aI 4 :: _) rfl rfl ?_
  refine E_scr rfl rfl h4 ?_
  refine E_callL (p' := 614) (L0 := [some (aA 1), some (aI 3), some (aI a2), some (aI a3), some (aI a4), none, none]) rfl rfl rfl ?_
  refine E_s (p' := 1) (st' := aA 1 :: _) rfl rfl ?_
  refine E_s (p' := 2) (st' := aI 3 :: _) rfl rfl ?_
  refine E_callL (p' := 5) (L0 := [some (aA 1), some (aI 3)]) rfl rfl rfl ?_
  refine E_s (p' := 1) (st' := aI 3 :: _) rfl rfl ?_
  refine E_s (p' := 4) rfl rfl ?_
  refine E_s (p' := 5) (st' := aI 3 :: _) rfl rfl ?_
  refine E_s (p' := 6) (st' := aI 4 :: _) rfl rfl ?_
  refine E_s (p' := 9) rfl rfl ?_
  refine E_s (p' := 10) (st' := aA 1 :: _) rfl rfl ?_
  refine E_s (p' := 13) (st' := aA 2 :: _) rfl rfl ?_
  refine E_s (p' := 14) (st' := aI 3 :: _) rfl rfl ?_
  refine E_s (p' := 15) (st' := aA 98 :: _) rfl rfl ?_
  refine E_s (p' := 19) rfl rfl ?_
  refine E_ret rfl rfl ?_
  refine E_s (p' := 7) (L' := [some (aA 1), some (aI 3), some (aI a2), some (aI a3), some (aI a4), some (aA 98), none]) rfl rfl ?_
  refine E_s (p' := 9) (st' := aA 98 :: _) rfl rfl ?_
  refine E_s (p' := 12) rfl rfl ?_
  refine E_s (p' := 14) (st' := aA 98 :: _) rfl rfl ?_
  refine E_s (p' := 17) (st' := aA 99 :: _) rfl rfl ?_
  refine E_s (p' := 18) rfl rfl ?_
  refine E_callL (p' := 21) (L0 := [some (aA 99), some (aI a2)]) rfl rfl rfl ?_
  refine E_s (p' := 1) rfl rfl ?_
  refine E_if_lt rfl (by decide) (fun _ => ?_) (fun _ => ?_)
  · refine E_s (p' := 17) (st' := aI 0 :: _) rfl rfl ?_
    refine E_ret rfl rfl ?_
    refine E_s (p' := 42) rfl rfl ?_
    refine E_s (p' := 43) (st' := aI (-1) :: _) rfl rfl ?_
    refine E_ret rfl rfl ?_
    refine E_s (p' := 615) (st' := aA 124 :: _) rfl rfl ?_
    refine E_s (p' := 616) (st' := aA 0 :: _) rfl rfl ?_
    refine E_s (p' := 617) (st' := aI 0 :: _) rfl rfl ?_
    refine E_s (p' := 618) (st' := aI 1 :: _) rfl rfl ?_
    refine E_s (p' := 619) (st' := aI 1 :: _) rfl rfl ?_
    refine E_scr rfl rfl h1 ?_
    refine E_s (p' := 621) (st' := aA 0 :: _) rfl rfl ?_
    refine E_s (p' := 622) (st' := aI 0 :: _) rfl rfl ?_
    refine E_s (p' := 623) (st' := aI 2 :: _) rfl rfl ?_
    refine E_s (p' := 624) (st' := aI 2 :: _) rfl rfl ?_
    refine E_scr rfl rfl h2 ?_
    refine E_s (p' := 626) (st' := aA 0 :: _) rfl rfl ?_
    refine E_s (p' := 627) (st' := aI 0 :: _) rfl rfl ?_
    refine E_s (p' := 628) (st' := aI 3 :: _) rfl rfl ?_
    refine E_s (p' := 629) (st' := aI 3 :: _) rfl rfl ?_
    refine E_scr rfl rfl h3 ?_
    refine E_s (p' := 631) (st' := aA 0 :: _) rfl rfl ?_
    refine E_s (p' := 632) (st' := aI 0 :: _) rfl rfl ?_
    refine E_s (p' := 633) (st' := aI 4 :: _) rfl rfl ?_
    refine E_s (p' := 634) (st' := aI 4 :: _) rfl rfl ?_
    refine E_scr rfl rfl h4 ?_
    refine E_callL (p' := 638) (L0 := [some (aA 124), some (aI 3), some (aI a2), some (aI a3), some (aI a4), none]) rfl rfl rfl ?_
    refine E_s (p' := 1) (st' := aA 124 :: _) rfl rfl ?_
    refine E_s (p' := 2) (st' := aI 3 :: _) rfl rfl ?_
    refine E_s (p' := 3) rfl rfl ?_
    refine E_callL (p' := 6) (L0 := [some (aA 124), some (aI 3), some (aI a2)]) rfl rfl rfl ?_
    refine E_s (p' := 1) (st' := aI 3 :: _) rfl rfl ?_
    refine E_callL (p' := 4) (L0 := [some (aI 3)]) rfl rfl rfl ?_
    refine E_s (p' := 1) (st' := aI 3 :: _) rfl rfl ?_
    refine E_s (p' := 2) (st' := aI 0 :: _) rfl rfl ?_
    refine E_s (p' := 3) (st' := aI 3 :: _) rfl rfl ?_
    refine E_callL (p' := 6) (L0 := [some (aI 3), some (aI 0), some (aI 3)]) rfl rfl rfl ?_
    refine E_s (p' := 1) (st' := aI 3 :: _) rfl rfl ?_
    refine E_s (p' := 2) (st' := aI 0 :: _) rfl rfl ?_
    refine E_s (p' := 5) rfl rfl ?_
    refine E_s (p' := 6) (st' := aI 3 :: _) rfl rfl ?_
    refine E_s (p' := 7) (st' := aI 3 :: _) rfl rfl ?_
    refine E_s (p' := 10) rfl rfl ?_
    refine E_s (p' := 11) (st' := aI 1 :: _) rfl rfl ?_
    refine E_s (p' := 15) rfl rfl ?_
    refine E_ret rfl rfl ?_
    refine E_ret rfl rfl ?_
    refine E_s (p' := 7) rfl rfl ?_
    refine E_s (p' := 8) rfl rfl ?_
    refine E_s (p' := 9) (st' := aI 0 :: _) rfl rfl ?_
    refine E_s (p' := 10) (st' := aA 124 :: _) rfl rfl ?_
    refine E_s (p' := 13) (st' := aA 125 :: _) rfl rfl ?_
    refine E_s (p' := 14) (st' := aI 3 :: _) rfl rfl ?_
    refine E_s (p' := 15) (st' := aI 0 :: _) rfl rfl ?_
    refine E_s (p' := 16) (st' := aI 1 :: _) rfl rfl ?_
    refine E_isubv (v := -1) rfl (show (0 : Int) - 1 = -1 from rfl) (by decide) ?_
    refine E_callL (p' := 20) (L0 := [some (aI a2), some (aI 0), some (aI (-1))]) rfl rfl rfl ?_
    refine E_s (p' := 1) rfl rfl ?_
    refine E_s (p' := 2) (st' := aI 0 :: _) rfl rfl ?_
    refine E_icmp_lt (y := 0) rfl (by decide) (fun _ => ?_) (fun q => absurd q (by omega))
    refine E_s (p' := 15) (st' := aI 0 :: _) rfl rfl ?_
    refine E_ret rfl rfl ?_
    refine E_s (p' := 27) rfl rfl ?_
    refine E_s (p' := 28) (st' := aI 0 :: _) rfl rfl ?_
    refine E_ret rfl rfl ?_
    refine E_s (p' := 30) rfl rfl ?_
    refine E_s (p' := 31) (st' := aI (-1) :: _) rfl rfl ?_
    refine E_ret rfl rfl ?_
    refine E_s (p' := 1174) rfl rfl ?_
    refine E_s (p' := 1177) (L' := [some (aA 0), some (aA 1), some (aA 124), some (aI 6)]) rfl rfl ?_
    refine E_s (p' := 18) rfl rfl ?_
    refine E_s (p' := 19) (st' := aI 6 :: _) rfl rfl ?_
    refine E_s (p' := 20) (st' := aA 0 :: _) rfl rfl ?_
    refine E_s (p' := 21) (st' := aI 6 :: _) rfl rfl ?_
    refine E_s (p' := 23) (st' := aI 6 :: _) rfl rfl ?_
    refine E_s (p' := 24) (st' := aI 0 :: _) rfl rfl ?_
    refine E_s (p' := 1180) rfl rfl ?_
    refine E_s (p' := 1181) (st' := aI 1 :: _) rfl rfl ?_
    exact E_ret rfl rfl ⟨rfl, rfl⟩
  · refine E_s (p' := 5) rfl rfl ?_
    refine E_s (p' := 6) (st' := aA 99 :: _) rfl rfl ?_
    refine E_s (p' := 9) (st' := aI 0 :: _) rfl rfl ?_
    refine E_icmp_ge (y := 0) rfl (by decide) (fun _ => ?_) (fun q => absurd q (by omega))
    refine E_s (p' := 17) (st' := aI 0 :: _) rfl rfl ?_
    refine E_ret rfl rfl ?_
    refine E_s (p' := 42) rfl rfl ?_
    refine E_s (p' := 43) (st' := aI (-1) :: _) rfl rfl ?_
    refine E_ret rfl rfl ?_
    refine E_s (p' := 615) (st' := aA 124 :: _) rfl rfl ?_
    refine E_s (p' := 616) (st' := aA 0 :: _) rfl rfl ?_
    refine E_s (p' := 617) (st' := aI 0 :: _) rfl rfl ?_
    refine E_s (p' := 618) (st' := aI 1 :: _) rfl rfl ?_
    refine E_s (p' := 619) (st' := aI 1 :: _) rfl rfl ?_
    refine E_scr rfl rfl h1 ?_
    refine E_s (p' := 621) (st' := aA 0 :: _) rfl rfl ?_
    refine E_s (p' := 622) (st' := aI 0 :: _) rfl rfl ?_
    refine E_s (p' := 623) (st' := aI 2 :: _) rfl rfl ?_
    refine E_s (p' := 624) (st' := aI 2 :: _) rfl rfl ?_
    refine E_scr rfl rfl h2 ?_
    refine E_s (p' := 626) (st' := aA 0 :: _) rfl rfl ?_
    refine E_s (p' := 627) (st' := aI 0 :: _) rfl rfl ?_
    refine E_s (p' := 628) (st' := aI 3 :: _) rfl rfl ?_
    refine E_s (p' := 629) (st' := aI 3 :: _) rfl rfl ?_
    refine E_scr rfl rfl h3 ?_
    refine E_s (p' := 631) (st' := aA 0 :: _) rfl rfl ?_
    refine E_s (p' := 632) (st' := aI 0 :: _) rfl rfl ?_
    refine E_s (p' := 633) (st' := aI 4 :: _) rfl rfl ?_
    refine E_s (p' := 634) (st' := aI 4 :: _) rfl rfl ?_
    refine E_scr rfl rfl h4 ?_
    refine E_callL (p' := 638) (L0 := [some (aA 124), some (aI 3), some (aI a2), some (aI a3), some (aI a4), none]) rfl rfl rfl ?_
    refine E_s (p' := 1) (st' := aA 124 :: _) rfl rfl ?_
    refine E_s (p' := 2) (st' := aI 3 :: _) rfl rfl ?_
    refine E_s (p' := 3) rfl rfl ?_
    refine E_callL (p' := 6) (L0 := [some (aA 124), some (aI 3), some (aI a2)]) rfl rfl rfl ?_
    refine E_s (p' := 1) (st' := aI 3 :: _) rfl rfl ?_
    refine E_callL (p' := 4) (L0 := [some (aI 3)]) rfl rfl rfl ?_
    refine E_s (p' := 1) (st' := aI 3 :: _) rfl rfl ?_
    refine E_s (p' := 2) (st' := aI 0 :: _) rfl rfl ?_
    refine E_s (p' := 3) (st' := aI 3 :: _) rfl rfl ?_
    refine E_callL (p' := 6) (L0 := [some (aI 3), some (aI 0), some (aI 3)]) rfl rfl rfl ?_
    refine E_s (p' := 1) (st' := aI 3 :: _) rfl rfl ?_
    refine E_s (p' := 2) (st' := aI 0 :: _) rfl rfl ?_
    refine E_s (p' := 5) rfl rfl ?_
    refine E_s (p' := 6) (st' := aI 3 :: _) rfl rfl ?_
    refine E_s (p' := 7) (st' := aI 3 :: _) rfl rfl ?_
    refine E_s (p' := 10) rfl rfl ?_
    refine E_s (p' := 11) (st' := aI 1 :: _) rfl rfl ?_
    refine E_s (p' := 15) rfl rfl ?_
    refine E_ret rfl rfl ?_
    refine E_ret rfl rfl ?_
    refine E_s (p' := 7) rfl rfl ?_
    refine E_s (p' := 8) rfl rfl ?_
    refine E_s (p' := 9) (st' := aI 0 :: _) rfl rfl ?_
    refine E_s (p' := 10) (st' := aA 124 :: _) rfl rfl ?_
    refine E_s (p' := 13) (st' := aA 125 :: _) rfl rfl ?_
    refine E_s (p' := 14) (st' := aI 3 :: _) rfl rfl ?_
    refine E_s (p' := 15) (st' := aI 0 :: _) rfl rfl ?_
    refine E_s (p' := 16) (st' := aI 1 :: _) rfl rfl ?_
    refine E_isubv (v := -1) rfl (show (0 : Int) - 1 = -1 from rfl) (by decide) ?_
    refine E_callL (p' := 20) (L0 := [some (aI a2), some (aI 0), some (aI (-1))]) rfl rfl rfl ?_
    refine E_s (p' := 1) rfl rfl ?_
    refine E_s (p' := 2) (st' := aI 0 :: _) rfl rfl ?_
    refine E_icmp_lt (y := 0) rfl (by decide) (fun q => absurd q (by omega)) (fun _ => ?_)
    refine E_s (p' := 6) rfl rfl ?_
    refine E_s (p' := 7) (st' := aI (-1) :: _) rfl rfl ?_
    refine E_icmp_gt (y := (-1)) rfl (by decide) (fun _ => ?_) (fun q => absurd q (by omega))
    refine E_s (p' := 15) (st' := aI 0 :: _) rfl rfl ?_
    refine E_ret rfl rfl ?_
    refine E_s (p' := 27) rfl rfl ?_
    refine E_s (p' := 28) (st' := aI 0 :: _) rfl rfl ?_
    refine E_ret rfl rfl ?_
    refine E_s (p' := 30) rfl rfl ?_
    refine E_s (p' := 31) (st' := aI (-1) :: _) rfl rfl ?_
    refine E_ret rfl rfl ?_
    refine E_s (p' := 1174) rfl rfl ?_
    refine E_s (p' := 1177) (L' := [some (aA 0), some (aA 1), some (aA 124), some (aI 6)]) rfl rfl ?_
    refine E_s (p' := 18) rfl rfl ?_
    refine E_s (p' := 19) (st' := aI 6 :: _) rfl rfl ?_
    refine E_s (p' := 20) (st' := aA 0 :: _) rfl rfl ?_
    refine E_s (p' := 21) (st' := aI 6 :: _) rfl rfl ?_
    refine E_s (p' := 23) (st' := aI 6 :: _) rfl rfl ?_
    refine E_s (p' := 24) (st' := aI 0 :: _) rfl rfl ?_
    refine E_s (p' := 1180) rfl rfl ?_
    refine E_s (p' := 1181) (st' := aI 1 :: _) rfl rfl ?_
    exact E_ret rfl rfl ⟨rfl, rfl⟩
set_option maxRecDepth 100000 in
set_option maxHeartbeats 40000000 in
theorem pc_10_o (xs : Nat → Int) {z a1 a2 a3 a4 a5 : Int} (hz : b32 (fun a b => a &&& b) z 31 = 10) (h0 : xs 0 = z) (h1 : xs 1 = a1) (h2 : xs 2 = a2) (h3 : xs 3 = a3) (h4 : xs 4 = a4) (h5 : xs 5 = a5) (hr : a1 < 0 ∨ 3 < a1) : E 0 18 LL [] (s0 xs 6) PQ := by
  refine E_s (p' := 19) (st' := aI 0 :: _) rfl rfl ?_
  refine E_s (p' := 20) (st' := aA 0 :: _) rfl rfl ?_
  refine E_s (p' := 21) (st' := aI 6 :: _) rfl rfl ?_
  refine E_s (p' := 23) (st' := aI 6 :: _) rfl rfl ?_
  refine E_s (p' := 24) (st' := aI 0 :: _) rfl rfl ?_
  refine E_s (p' := 27) rfl rfl ?_
  refine E_s (p' := 28) (st' := aA 0 :: _) rfl rfl ?_
  refine E_s (p' := 29) (st' := aI 0 :: _) rfl rfl ?_
  refine E_scr rfl rfl h0 ?_
  refine E_s (p' := 32) (st' := aI 31 :: _) rfl rfl ?_
  refine E_s (p' := 33) rfl rfl ?_
  refine E_val hz ?_
  refine E_s (p' := 590) rfl rfl ?_
  refine E_s (p' := 591) (st' := aA 1 :: _) rfl rfl ?_
  refine E_s (p' := 592) (st' := aA 0 :: _) rfl rfl ?_
  refine E_s (p' := 593) (st' := aI 0 :: _) rfl rfl ?_
  refine E_s (p' := 594) (st' := aI 1 :: _) rfl rfl ?_
  refine E_s (p' := 595) (st' := aI 1 :: _) rfl rfl ?_
  refine E_scr rfl rfl h1 ?_
  refine E_s (p' := 597) (st' := aA 0 :: _) rfl rfl ?_
  refine E_s (p' := 598) (st' := aI 0 :: _) rfl rfl ?_
  refine E_s (p' := 599) (st' := aI 2 :: _) rfl rfl ?_
  refine E_s (p' := 600) (st' := aI 2 :: _) rfl rfl ?_
  refine E_scr rfl rfl h2 ?_
  refine E_s (p' := 602) (st' := aA 0 :: _) rfl rfl ?_
  refine E_s (p' := 603) (st' := aI 0 :: _) rfl rfl ?_
  refine E_s (p' := 604) (st' := aI 3 :: _) rfl rfl ?_
  refine E_s (p' := 605) (st' := aI 3 :: _) rfl rfl ?_
  refine E_scr rfl rfl h3 ?_
  refine E_s (p' := 607) (st' := aA 0 :: _) rfl rfl ?_
  refine E_s (p' := 608) (st' := aI 0 :: _) rfl rfl ?_
  refine E_s (p' := 609) (st' := aI 4 :: _) rfl rfl ?_
  refine E_s (p' := 610) (st' := aI 4 :: _) rfl rfl ?_
  refine E_scr rfl rfl h4 ?_
  refine E_callL (p' := 614) (L0 := [some (aA 1), some (aI a1), some (aI a2), some (aI a3), some (aI a4), none, none]) rfl rfl rfl ?_
  refine E_s (p' := 1) (st' := aA 1 :: _) rfl rfl ?_
  refine E_s (p' := 2) rfl rfl ?_
  refine E_callL (p' := 5) (L0 := [some (aA 1), some (aI a1)]) rfl rfl rfl ?_
  refine E_s (p' := 1) rfl rfl ?_
  refine E_if_lt rfl (by decide) (fun _ => ?_) (fun _ => ?_)
  · refine E_s (p' := 19) rfl rfl ?_
    refine E_ret rfl rfl ?_
    refine E_s (p' := 7) (L' := [some (aA 1), some (aI a1), some (aI a2), some (aI a3), some (aI a4), some aN, none]) rfl rfl ?_
    refine E_s (p' := 9) rfl rfl ?_
    refine E_s (p' := 42) rfl rfl ?_
    refine E_s (p' := 43) (st' := aI (-1) :: _) rfl rfl ?_
    refine E_ret rfl rfl ?_
    refine E_s (p' := 615) (st' := aA 124 :: _) rfl rfl ?_
    refine E_s (p' := 616) (st' := aA 0 :: _) rfl rfl ?_
    refine E_s (p' := 617) (st' := aI 0 :: _) rfl rfl ?_
    refine E_s (p' := 618) (st' := aI 1 :: _) rfl rfl ?_
    refine E_s (p' := 619) (st' := aI 1 :: _) rfl rfl ?_
    refine E_scr rfl rfl h1 ?_
    refine E_s (p' := 621) (st' := aA 0 :: _) rfl rfl ?_
    refine E_s (p' := 622) (st' := aI 0 :: _) rfl rfl ?_
    refine E_s (p' := 623) (st' := aI 2 :: _) rfl rfl ?_
    refine E_s (p' := 624) (st' := aI 2 :: _) rfl rfl ?_
    refine E_scr rfl rfl h2 ?_
    refine E_s (p' := 626) (st' := aA 0 :: _) rfl rfl ?_
    refine E_s (p' := 627) (st' := aI 0 :: _) rfl rfl ?_
    refine E_s (p' := 628) (st' := aI 3 :: _) rfl rfl ?_
    refine E_s (p' := 629) (st' := aI 3 :: _) rfl rfl ?_
    refine E_scr rfl rfl h3 ?_
    refine E_s (p' := 631) (st' := aA 0 :: _) rfl rfl ?_
    refine E_s (p' := 632) (st' := aI 0 :: _) rfl rfl ?_
    refine E_s (p' := 633) (st' := aI 4 :: _) rfl rfl ?_
    refine E_s (p' := 634) (st' := aI 4 :: _) rfl rfl ?_
    refine E_scr rfl rfl h4 ?_
    refine E_callL (p' := 638) (L0 := [some (aA 124), some (aI a1), some (aI a2), some (aI a3), some (aI a4), none]) rfl rfl rfl ?_
    refine E_s (p' := 1) (st' := aA 124 :: _) rfl rfl ?_
    refine E_s (p' := 2) rfl rfl ?_
    refine E_s (p' := 3) rfl rfl ?_
    refine E_callL (p' := 6) (L0 := [some (aA 124), some (aI a1), some (aI a2)]) rfl rfl rfl ?_
    refine E_s (p' := 1) rfl rfl ?_
    refine E_callL (p' := 4) (L0 := [some (aI a1)]) rfl rfl rfl ?_
    refine E_s (p' := 1) rfl rfl ?_
    refine E_s (p' := 2) (st' := aI 0 :: _) rfl rfl ?_
    refine E_s (p' := 3) (st' := aI 3 :: _) rfl rfl ?_
    refine E_callL (p' := 6) (L0 := [some (aI a1), some (aI 0), some (aI 3)]) rfl rfl rfl ?_
    refine E_s (p' := 1) rfl rfl ?_
    refine E_s (p' := 2) (st' := aI 0 :: _) rfl rfl ?_
    refine E_icmp_lt (y := 0) rfl (by decide) (fun _ => ?_) (fun q => absurd q (by omega))
    refine E_s (p' := 15) (st' := aI 0 :: _) rfl rfl ?_
    refine E_ret rfl rfl ?_
    refine E_ret rfl rfl ?_
    refine E_s (p' := 27) rfl rfl ?_
    refine E_s (p' := 28) (st' := aI 0 :: _) rfl rfl ?_
    refine E_ret rfl rfl ?_
    refine E_s (p' := 30) rfl rfl ?_
    refine E_s (p' := 31) (st' := aI (-1) :: _) rfl rfl ?_
    refine E_ret rfl rfl ?_
    refine E_s (p' := 1174) rfl rfl ?_
    refine E_s (p' := 1177) (L' := [some (aA 0), some (aA 1), some (aA 124), some (aI 6)]) rfl rfl ?_
    refine E_s (p' := 18) rfl rfl ?_
    refine E_s (p' := 19) (st' := aI 6 :: _) rfl rfl ?_
    refine E_s (p' := 20) (st' := aA 0 :: _) rfl rfl ?_
    refine E_s (p' := 21) (st' := aI 6 :: _) rfl rfl ?_
    refine E_s (p' := 23) (st' := aI 6 :: _) rfl rfl ?_
    refine E_s (p' := 24) (st' := aI 0 :: _) rfl rfl ?_
    refine E_s (p' := 1180) rfl rfl ?_
    refine E_s (p' := 1181) (st' := aI 1 :: _) rfl rfl ?_
    exact E_ret rfl rfl ⟨rfl, rfl⟩
  · refine E_s (p' := 5) rfl rfl ?_
    refine E_s (p' := 6) (st' := aI 4 :: _) rfl rfl ?_
    refine E_icmp_ge (y := 4) rfl (by decide) (fun _ => ?_) (fun q => absurd q (by omega))
    refine E_s (p' := 19) rfl rfl ?_
    refine E_ret rfl rfl ?_
    refine E_s (p' := 7) (L' := [some (aA 1), some (aI a1), some (aI a2), some (aI a3), some (aI a4), some aN, none]) rfl rfl ?_
    refine E_s (p' := 9) rfl rfl ?_
    refine E_s (p' := 42) rfl rfl ?_
    refine E_s (p' := 43) (st' := aI (-1) :: _) rfl rfl ?_
    refine E_ret rfl rfl ?_
    refine E_s (p' := 615) (st' := aA 124 :: _) rfl rfl ?_
    refine E_s (p' := 616) (st' := aA 0 :: _) rfl rfl ?_
    refine E_s (p' := 617) (st' := aI 0 :: _) rfl rfl ?_
    refine E_s (p' := 618) (st' := aI 1 :: _) rfl rfl ?_
    refine E_s (p' := 619) (st' := aI 1 :: _) rfl rfl ?_
    refine E_scr rfl rfl h1 ?_
    refine E_s (p' := 621) (st' := aA 0 :: _) rfl rfl ?_
    refine E_s (p' := 622) (st' := aI 0 :: _) rfl rfl ?_
    refine E_s (p' := 623) (st' := aI 2 :: _) rfl rfl ?_
    refine E_s (p' := 624) (st' := aI 2 :: _) rfl rfl ?_
    refine E_scr rfl rfl h2 ?_
    refine E_s (p' := 626) (st' := aA 0 :: _) rfl rfl ?_
    refine E_s (p' := 627) (st' := aI 0 :: _) rfl rfl ?_
    refine E_s (p' := 628) (st' := aI 3 :: _) rfl rfl ?_
    refine E_s (p' := 629) (st' := aI 3 :: _) rfl rfl ?_
    refine E_scr rfl rfl h3 ?_
    refine E_s (p' := 631) (st' := aA 0 :: _) rfl rfl ?_
    refine E_s (p' := 632) (st' := aI 0 :: _) rfl rfl ?_
    refine E_s (p' := 633) (st' := aI 4 :: _) rfl rfl ?_
    refine E_s (p' := 634) (st' := aI 4 :: _) rfl rfl ?_
    refine E_scr rfl rfl h4 ?_
    refine E_callL (p' := 638) (L0 := [some (aA 124), some (aI a1), some (aI a2), some (aI a3), some (aI a4), none]) rfl rfl rfl ?_
    refine E_s (p' := 1) (st' := aA 124 :: _) rfl rfl ?_
    refine E_s (p' := 2) rfl rfl ?_
    refine E_s (p' := 3) rfl rfl ?_
    refine E_callL (p' := 6) (L0 := [some (aA 124), some (aI a1), some (aI a2)]) rfl rfl rfl ?_
    refine E_s (p' := 1) rfl rfl ?_
    refine E_callL (p' := 4) (L0 := [some (aI a1)]) rfl rfl rfl ?_
    refine E_s (p' := 1) rfl rfl ?_
    refine E_s (p' := 2) (st' := aI 0 :: _) rfl rfl ?_
    refine E_s (p' := 3) (st' := aI 3 :: _) rfl rfl ?_
    refine E_callL (p' := 6) (L0 := [some (aI a1), some (aI 0), some (aI 3)]) rfl rfl rfl ?_
    refine E_s (p' := 1) rfl rfl ?_
    refine E_s (p' := 2) (st' := aI 0 :: _) rfl rfl ?_
    refine E_icmp_lt (y := 0) rfl (by decide) (fun q => absurd q (by omega)) (fun _ => ?_)
    refine E_s (p' := 6) rfl rfl ?_
    refine E_s (p' := 7) (st' := aI 3 :: _) rfl rfl ?_
    refine E_icmp_gt (y := 3) rfl (by decide) (fun _ => ?_) (fun q => absurd q (by omega))
    refine E_s (p' := 15) (st' := aI 0 :: _) rfl rfl ?_
    refine E_ret rfl rfl ?_
    refine E_ret rfl rfl ?_
    refine E_s (p' := 27) rfl rfl ?_
    refine E_s (p' := 28) (st' := aI 0 :: _) rfl rfl ?_
    refine E_ret rfl rfl ?_
    refine E_s (p' := 30) rfl rfl ?_
    refine E_s (p' := 31) (st' := aI (-1) :: _) rfl rfl ?_
    refine E_ret rfl rfl ?_
    refine E_s (p' := 1174) rfl rfl ?_
    refine E_s (p' := 1177) (L' := [some (aA 0), some (aA 1), some (aA 124), some (aI 6)]) rfl rfl ?_
    refine E_s (p' := 18) rfl rfl ?_
    refine E_s (p' := 19) (st' := aI 6 :: _) rfl rfl ?_
    refine E_s (p' := 20) (st' := aA 0 :: _) rfl rfl ?_
    refine E_s (p' := 21) (st' := aI 6 :: _) rfl rfl ?_
    refine E_s (p' := 23) (st' := aI 6 :: _) rfl rfl ?_
    refine E_s (p' := 24) (st' := aI 0 :: _) rfl rfl ?_
    refine E_s (p' := 1180) rfl rfl ?_
    refine E_s (p' := 1181) (st' := aI 1 :: _) rfl rfl ?_
    exact E_ret rfl rfl ⟨rfl, rfl⟩
set_option maxRecDepth 100000 in
set_option maxHeartbeats 40000000 in
theorem pc_11_0 (xs : Nat → Int) {z a2 a3 a4 a5 : Int} (hz : b32 (fun a b => a &&& b) z 31 = 11) (h0 : xs 0 = z) (h1 : xs 1 = 0) (h2 : xs 2 = a2) (h3 : xs 3 = a3) (h4 : xs 4 = a4) (h5 : xs 5 = a5) : E 0 18 LL [] (s0 xs 6) PQ := by
  refine E_s (p' := 19) (st' := aI 0 :: _) rfl rfl ?_
  refine E_s (p' := 20) (st' := aA 0 :: _) rfl rfl ?_
  refine E_s (p' := 21) (st' := aI 6 :: _) rfl rfl ?_
  refine E_s (p' := 23) (st' := aI 6 :: _) rfl rfl ?_
  refine E_s (p' := 24) (st' := aI 0 :: _) rfl rfl ?_
  refine E_s (p' := 27) rfl rfl ?_
  refine E_s (p' := 28) (st' := aA 0 :: _) rfl rfl ?_
  refine E_s (p' := 29) (st' := aI 0 :: _) rfl rfl ?_
  refine E_scr rfl rfl h0 ?_
  refine E_s (p' := 32) (st' := aI 31 :: _) rfl rfl ?_
  refine E_s (p' := 33) rfl rfl ?_
  refine E_val hz ?_
  refine E_s (p' := 643) rfl rfl ?_
  refine E_s (p' := 644) (st' := aA 1 :: _) rfl rfl ?_
  refine E_s (p' := 645) (st' := aA 0 :: _) rfl rfl ?_
  refine E_s (p' := 646) (st' := aI 0 :: _) rfl rfl ?_
  refine E_s (p' := 647) (st' := aI 1 :: _) rfl rfl ?_
  refine E_s (p' := 648) (st' := aI 1 :: _) rfl rfl ?_
  refine E_scr rfl rfl h1 ?_
  refine E_callL (p' := 652) (L0 := [some (aA 1), some (aI 0), none]) rfl rfl rfl ?_
  refine E_s (p' := 1) (st' := aA 1 :: _) rfl rfl ?_
  refine E_s (p' := 2) (st' := aI 0 :: _) rfl rfl ?_
  refine E_callL (p' := 5) (L0 := [some (aA 1), some (aI 0), none]) rfl rfl rfl ?_
  refine E_s (p' := 1) (st' := aA 1 :: _) rfl rfl ?_
  refine E_s (p' := 2) (st' := aI 0 :: _) rfl rfl ?_
  refine E_callL (p' := 5) (L0 := [some (aA 1), some (aI 0)]) rfl rfl rfl ?_
  refine E_s (p' := 1) (st' := aI 0 :: _) rfl rfl ?_
  refine E_s (p' := 4) rfl rfl ?_
  refine E_s (p' := 5) (st' := aI 0 :: _) rfl rfl ?_
  refine E_s (p' := 6) (st' := aI 4 :: _) rfl rfl ?_
  refine E_s (p' := 9) rfl rfl ?_
  refine E_s (p' := 10) (st' := aA 1 :: _) rfl rfl ?_
  refine E_s (p' := 13) (st' := aA 2 :: _) rfl rfl ?_
  refine E_s (p' := 14) (st' := aI 0 :: _) rfl rfl ?_
  refine E_s (p' := 15) (st' := aA 20 :: _) rfl rfl ?_
  refine E_s (p' := 19) rfl rfl ?_
  refine E_ret rfl rfl ?_
  refine E_s (p' := 6) (L' := [some (aA 1), some (aI 0), some (aA 20)]) rfl rfl ?_
  refine E_s (p' := 7) (st' := aA 20 :: _) rfl rfl ?_
  refine E_s (p' := 10) rfl rfl ?_
  refine E_s (p' := 11) (st' := aA 20 :: _) rfl rfl ?_
  refine E_callL (p' := 14) (L0 := [some (aA 20)]) rfl rfl rfl ?_
  refine E_s (p' := 1) (st' := aA 20 :: _) rfl rfl ?_
  refine E_s (p' := 4) (st' := aI 0 :: _) rfl rfl ?_
  refine E_s (p' := 7) rfl rfl ?_
  refine E_s (p' := 8) (st' := aA 20 :: _) rfl rfl ?_
  refine E_s (p' := 11) (st' := aA 35 :: _) rfl rfl ?_
  refine E_s (p' := 12) (st' := aA 20 :: _) rfl rfl ?_
  refine E_s (p' := 15) (st' := aA 21 :: _) rfl rfl ?_
  refine E_s (p' := 16) (st' := aA 20 :: _) rfl rfl ?_
  refine E_s (p' := 19) (st' := aI 15 :: _) rfl rfl ?_
  refine E_callL (p' := 22) (L0 := [some (aA 35), some (aA 21), some (aI 15), none]) rfl rfl rfl ?_
  refine E_s (p' := 1) (st' := aA 35 :: _) rfl rfl ?_
  refine E_s (p' := 2) (st' := aA 21 :: _) rfl rfl ?_
  refine E_callL (p' := 5) (L0 := [some (aA 35), some (aA 21), none, none]) rfl rfl rfl ?_
  refine E_s (p' := 1) (st' := aA 35 :: _) rfl rfl ?_
  refine E_s (p' := 4) (st' := aA 44 :: _) rfl rfl ?_
  refine E_s (p' := 5) (st' := aI 0 :: _) rfl rfl ?_
  refine E_call rfl rfl ?_
  refine c_fill rfl rfl ?_
  refine E_s (p' := 9) (st' := aA 35 :: _) rfl rfl ?_
  refine E_s (p' := 12) (st' := aA 40 :: _) rfl rfl ?_
  refine E_s (p' := 13) (st' := aI 0 :: _) rfl rfl ?_
  refine E_call rfl rfl ?_
  refine c_fill rfl rfl ?_
  refine E_s (p' := 17) (st' := aA 35 :: _) rfl rfl ?_
  refine E_s (p' := 18) (st' := aI 0 :: _) rfl rfl ?_
  refine E_stM (p' := 21) (m' := up2 _ 35 10 0) rfl rfl ?_
  refine E_s (p' := 22) (st' := aA 35 :: _) rfl rfl ?_
  refine E_s (p' := 23) (st' := aI 0 :: _) rfl rfl ?_
  refine E_stM (p' := 26) (m' := up2 _ 35 11 0) rfl rfl ?_
  refine E_s (p' := 27) (st' := aI 0 :: _) rfl rfl ?_
  refine E_s (p' := 28) (L' := [some (aA 35), some (aA 21), some (aI 0), none]) rfl rfl ?_
  refine E_s (p' := 29) (st' := aI 0 :: _) rfl rfl ?_
  refine E_s (p' := 30) (st' := aA 21 :: _) rfl rfl ?_
  refine E_s (p' := 33) (st' := aI 0 :: _) rfl rfl ?_
  refine E_s (p' := 135) rfl rfl ?_
  refine E_ret rfl rfl ?_
  refine E_s (p' := 6) (st' := aA 35 :: _) rfl rfl ?_
  refine E_s (p' := 7) (st' := aI 15 :: _) rfl rfl ?_
  refine E_callL (p' := 10) (L0 := [some (aA 35), some (aI 15), none]) rfl rfl rfl ?_
  refine E_s (p' := 1) (st' := aA 35 :: _) rfl rfl ?_
  refine E_s (p' := 2) (st' := aI 0 :: _) rfl rfl ?_
  refine E_stM (p' := 5) (m' := up2 _ 35 12 0) rfl rfl ?_
  refine E_s (p' := 6) (st' := aI 1 :: _) rfl rfl ?_
  refine E_s (p' := 7) (L' := [some (aA 35), some (aI 15), some (aI 1)]) rfl rfl ?_
  refine fl_loop (gp := 0) (by decide) _ 600 1 _ rfl (fun j hj => show (if 0 ≤ j ∧ j < 601 then (0 : Int) else _) = 0 from if_pos ⟨Nat.zero_le _, hj⟩) ?_
  refine E_s (p' := 11) (st' := aA 35 :: _) rfl rfl ?_
  refine E_s (p' := 14) (st' := aI 0 :: _) rfl rfl ?_
  refine E_s (p' := 17) rfl rfl ?_
  refine E_s (p' := 18) (st' := aA 35 :: _) rfl rfl ?_
  refine E_callL (p' := 21) (L0 := [some (aA 35)]) rfl rfl rfl ?_
  refine E_s (p' := 1) (st' := aA 35 :: _) rfl rfl ?_
  refine E_s (p' := 4) (st' := aA 41 :: _) rfl rfl ?_
  refine E_s (p' := 5) (st' := aA 35 :: _) rfl rfl ?_
  refine E_s (p' := 8) (st' := aI 0 :: _) rfl rfl ?_
  refine E_s (p' := 15) rfl rfl ?_
  refine E_s (p' := 16) (st' := aI 0 :: _) rfl rfl ?_
  refine E_call rfl rfl ?_
  refine c_fill rfl rfl ?_
  refine E_s (p' := 20) (st' := aA 35 :: _) rfl rfl ?_
  refine E_s (p' := 23) (st' := aA 42 :: _) rfl rfl ?_
  refine E_s (p' := 24) (st' := aI 0 :: _) rfl rfl ?_
  refine E_call rfl rfl ?_
  refine c_fill rfl rfl ?_
  refine E_s (p' := 28) (st' := aA 35 :: _) rfl rfl ?_
  refine E_s (p' := 31) (st' := aA 43 :: _) rfl rfl ?_
  refine E_s (p' := 32) (st' := aI 0 :: _) rfl rfl ?_
  refine E_call rfl rfl ?_
  refine c_fill rfl rfl ?_
  refine E_ret rfl rfl ?_
  refine E_ret rfl rfl ?_
  refine E_s (p' := 23) (st' := aA 20 :: _) rfl rfl ?_
  refine E_s (p' := 24) (st' := aI 1 :: _) rfl rfl ?_
  refine E_stM (p' := 27) (m' := up2 _ 20 7 1) rfl rfl ?_
  refine E_s (p' := 28) (st' := aA 20 :: _) rfl rfl ?_
  refine E_s (p' := 31) (st' := aA 35 :: _) rfl rfl ?_
  refine E_ret rfl rfl ?_
  refine E_s (p' := 15) rfl rfl ?_
  refine E_s (p' := 16) (st' := aA 20 :: _) rfl rfl ?_
  refine E_ret rfl rfl ?_
  refine E_s (p' := 6) (L' := [some (aA 1), some (aI 0), some (aA 20)]) rfl rfl ?_
  refine E_s (p' := 7) (st' := aA 20 :: _) rfl rfl ?_
  refine E_s (p' := 13) rfl rfl ?_
  refine E_s (p' := 14) (st' := aA 20 :: _) rfl rfl ?_
  refine E_s (p' := 17) (st' := aA 35 :: _) rfl rfl ?_
  refine E_s (p' := 20) (st' := aI 0 :: _) rfl rfl ?_
  refine E_s (p' := 23) rfl rfl ?_
  refine E_s (p' := 24) (st' := aI (-1) :: _) rfl rfl ?_
  refine E_s (p' := 34) rfl rfl ?_
  refine E_ret rfl rfl ?_
  refine E_s (p' := 653) (st' := aA 124 :: _) rfl rfl ?_
  refine E_s (p' := 654) (st' := aA 0 :: _) rfl rfl ?_
  refine E_s (p' := 655) (st' := aI 0 :: _) rfl rfl ?_
  refine E_s (p' := 656) (st' := aI 1 :: _) rfl rfl ?_
  refine E_s (p' := 657) (st' := aI 1 :: _) rfl rfl ?_
  refine E_scr rfl rfl h1 ?_
  refine E_callL (p' := 661) (L0 := [some (aA 124), some (aI 0)]) rfl rfl rfl ?_
  refine E_s (p' := 1) (st' := aI 0 :: _) rfl rfl ?_
  refine E_callL (p' := 4) (L0 := [some (aI 0)]) rfl rfl rfl ?_
  refine E_s (p' := 1) (st' := aI 0 :: _) rfl rfl ?_
  refine E_s (p' := 2) (st' := aI 0 :: _) rfl rfl ?_
  refine E_s (p' := 3) (st' := aI 3 :: _) rfl rfl ?_
  refine E_callL (p' := 6) (L0 := [some (aI 0), some (aI 0), some (aI 3)]) rfl rfl rfl ?_
  refine E_s (p' := 1) (st' := aI 0 :: _) rfl rfl ?_
  refine E_s (p' := 2) (st' := aI 0 :: _) rfl rfl ?_
  refine E_s (p' := 5) rfl rfl ?_
  refine E_s (p' := 6) (st' := aI 0 :: _) rfl rfl ?_
  refine E_s (p' := 7) (st' := aI 3 :: _) rfl rfl ?_
  refine E_s (p' := 10) rfl rfl ?_
  refine E_s (p' := 11) (st' := aI 1 :: _) rfl rfl ?_
  refine E_s (p' := 15) rfl rfl ?_
  refine E_ret rfl rfl ?_
  refine E_ret rfl rfl ?_
  refine E_s (p' := 12) rfl rfl ?_
  refine E_s (p' := 13) (st' := aA 124 :: _) rfl rfl ?_
  refine E_s (p' := 14) (st' := aI 0 :: _) rfl rfl ?_
  refine E_callL (p' := 17) (L0 := [some (aA 124), some (aI 0), none, none]) rfl rfl rfl ?_
  refine E_s (p' := 1) (st' := aI 0 :: _) rfl rfl ?_
  refine E_s (p' := 2) (L' := [some (aA 124), some (aI 0), some (aI 0), none]) rfl rfl ?_
  refine mr_loop1 _ 601 0 _ rfl ?_
  refine E_s (p' := 23) (st' := aA 124 :: _) rfl rfl ?_
  refine E_s (p' := 24) (st' := aI 0 :: _) rfl rfl ?_
  refine E_stM (p' := 27) (m' := up2 _ 124 25 0) rfl rfl ?_
  refine E_s (p' := 28) (st' := aA 124 :: _) rfl rfl ?_
  refine E_s (p' := 29) (st' := aI 0 :: _) rfl rfl ?_
  refine E_stM (p' := 32) (m' := up2 _ 124 26 0) rfl rfl ?_
  refine E_s (p' := 33) (st' := aI 0 :: _) rfl rfl ?_
  refine E_s (p' := 34) (L' := [some (aA 124), some (aI 0), some (aI 0), none]) rfl rfl ?_
  refine E_s (p' := 35) (st' := aI 0 :: _) rfl rfl ?_
  refine E_s (p' := 36) (st' := aA 124 :: _) rfl rfl ?_
  refine E_s (p' := 39) (st' := aA 125 :: _) rfl rfl ?_
  refine E_s (p' := 40) (st' := aI 0 :: _) rfl rfl ?_
  refine E_s (p' := 41) (st' := aI 0 :: _) rfl rfl ?_
  refine E_s (p' := 121) rfl rfl ?_
  refine E_s (p' := 122) (st' := aA 124 :: _) rfl rfl ?_
  refine E_s (p' := 123) (st' := aI 0 :: _) rfl rfl ?_
  refine E_stM (p' := 126) (m' := up2 _ 124 24 0) rfl rfl ?_
  refine E_s (p' := 127) (st' := aI 0 :: _) rfl rfl ?_
  refine E_s (p' := 128) (L' := [some (aA 124), some (aI 0), some (aI 0), none]) rfl rfl ?_
  refine mr_loop3 _ 601 0 _ rfl (fun j hj => show (if 0 ≤ j ∧ j < 601 then (0 : Int) else _) = 0 from if_pos ⟨Nat.zero_le _, hj⟩) ?_
  refine E_s (p' := 245) (st' := aA 124 :: _) rfl rfl ?_
  refine E_s (p' := 248) (st' := aI 0 :: _) rfl rfl ?_
  refine E_s (p' := 249) (st' := aA 124 :: _) rfl rfl ?_
  refine E_s (p' := 252) (st' := aI 0 :: _) rfl rfl ?_
  refine E_s (p' := 259) rfl rfl ?_
  refine E_s (p' := 260) (st' := aI 1 :: _) rfl rfl ?_
  refine E_s (p' := 261) (st' := aI 1 :: _) rfl rfl ?_
  refine E_s (p' := 263) (st' := aI 6 :: _) rfl rfl ?_
  refine E_s (p' := 271) rfl rfl ?_
  refine E_s (p' := 272) (st' := aA 124 :: _) rfl rfl ?_
  refine E_s (p' := 275) (st' := aI 0 :: _) rfl rfl ?_
  refine E_s (p' := 282) rfl rfl ?_
  refine E_s (p' := 283) (st' := aI 0 :: _) rfl rfl ?_
  refine E_ret rfl rfl ?_
  refine E_s (p' := 27) rfl rfl ?_
  refine E_s (p' := 28) (st' := aI (-1) :: _) rfl rfl ?_
  refine E_ret rfl rfl ?_
  refine E_s (p' := 1174) rfl rfl ?_
  refine E_s (p' := 1177) (L' := [some (aA 0), some (aA 1), some (aA 124), some (aI 6)]) rfl rfl ?_
  refine E_s (p' := 18) rfl rfl ?_
  refine E_s (p' := 19) (st' := aI 6 :: _) rfl rfl ?_
  refine E_s (p' := 20) (st' := aA 0 :: _) rfl rfl ?_
  refine E_s (p' := 21) (st' := aI 6 :: _) rfl rfl ?_
  refine E_s (p' := 23) (st' := aI 6 :: _) rfl rfl ?_
  refine E_s (p' := 24) (st' := aI 0 :: _) rfl rfl ?_
  refine E_s (p' := 1180) rfl rfl ?_
  refine E_s (p' := 1181) (st' := aI 1 :: _) rfl rfl ?_
  exact E_ret rfl rfl ⟨rfl, rfl⟩
set_option maxRecDepth 100000 in
set_option maxHeartbeats 40000000 in
theorem pc_11_1 (xs : Nat → Int) {z a2 a3 a4 a5 : Int} (hz : b32 (fun a b => a &&& b) z 31 = 11) (h0 : xs 0 = z) (h1 : xs 1 = 1) (h2 : xs 2 = a2) (h3 : xs 3 = a3) (h4 : xs 4 = a4) (h5 : xs 5 = a5) : E 0 18 LL [] (s0 xs 6) PQ := by
  refine E_s (p' := 19) (st' := aI 0 :: _) rfl rfl ?_
  refine E_s (p' := 20) (st' := aA 0 :: _) rfl rfl ?_
  refine E_s (p' := 21) (st' := aI 6 :: _) rfl rfl ?_
  refine E_s (p' := 23) (st' := aI 6 :: _) rfl rfl ?_
  refine E_s (p' := 24) (st' := aI 0 :: _) rfl rfl ?_
  refine E_s (p' := 27) rfl rfl ?_
  refine E_s (p' := 28) (st' := aA 0 :: _) rfl rfl ?_
  refine E_s (p' := 29) (st' := aI 0 :: _) rfl rfl ?_
  refine E_scr rfl rfl h0 ?_
  refine E_s (p' := 32) (st' := aI 31 :: _) rfl rfl ?_
  refine E_s (p' := 33) rfl rfl ?_
  refine E_val hz ?_
  refine E_s (p' := 643) rfl rfl ?_
  refine E_s (p' := 644) (st' := aA 1 :: _) rfl rfl ?_
  refine E_s (p' := 645) (st' := aA 0 :: _) rfl rfl ?_
  refine E_s (p' := 646) (st' := aI 0 :: _) rfl rfl ?_
  refine E_s (p' := 647) (st' := aI 1 :: _) rfl rfl ?_
  refine E_s (p' := 648) (st' := aI 1 :: _) rfl rfl ?_
  refine E_scr rfl rfl h1 ?_
  refine E_callL (p' := 652) (L0 := [some (aA 1), some (aI 1), none]) rfl rfl rfl ?_
  refine E_s (p' := 1) (st' := aA 1 :: _) rfl rfl ?_
  refine E_s (p' := 2) (st' := aI 1 :: _) rfl rfl ?_
  refine E_callL (p' := 5) (L0 := [some (aA 1), some (aI 1), none]) rfl rfl rfl ?_
  refine E_s (p' := 1) (st' := aA 1 :: _) rfl rfl ?_
  refine E_s (p' := 2) (st' := aI 1 :: _) rfl rfl ?_
  refine E_callL (p' := 5) (L0 := [some (aA 1), some (aI 1)]) rfl rfl rfl ?_
  refine E_s (p' := 1) (st' := aI 1 :: _) rfl rfl ?_
  refine E_s (p' := 4) rfl rfl ?_
  refine E_s (p' := 5) (st' := aI 1 :: _) rfl rfl ?_
  refine E_s (p' := 6) (st' := aI 4 :: _) rfl rfl ?_
  refine E_s (p' := 9) rfl rfl ?_
  refine E_s (p' := 10) (st' := aA 1 :: _) rfl rfl ?_
  refine E_s (p' := 13) (st' := aA 2 :: _) rfl rfl ?_
  refine E_s (p' := 14) (st' := aI 1 :: _) rfl rfl ?_
  refine E_s (p' := 15) (st' := aA 46 :: _) rfl rfl ?_
  refine E_s (p' := 19) rfl rfl ?_
  refine E_ret rfl rfl ?_
  refine E_s (p' := 6) (L' := [some (aA 1), some (aI 1), some (aA 46)]) rfl rfl ?_
  refine E_s (p' := 7) (st' := aA 46 :: _) rfl rfl ?_
  refine E_s (p' := 10) rfl rfl ?_
  refine E_s (p' := 11) (st' := aA 46 :: _) rfl rfl ?_
  refine E_callL (p' := 14) (L0 := [some (aA 46)]) rfl rfl rfl ?_
  refine E_s (p' := 1) (st' := aA 46 :: _) rfl rfl ?_
  refine E_s (p' := 4) (st' := aI 0 :: _) rfl rfl ?_
  refine E_s (p' := 7) rfl rfl ?_
  refine E_s (p' := 8) (st' := aA 46 :: _) rfl rfl ?_
  refine E_s (p' := 11) (st' := aA 61 :: _) rfl rfl ?_
  refine E_s (p' := 12) (st' := aA 46 :: _) rfl rfl ?_
  refine E_s (p' := 15) (st' := aA 47 :: _) rfl rfl ?_
  refine E_s (p' := 16) (st' := aA 46 :: _) rfl rfl ?_
  refine E_s (p' := 19) (st' := aI 15 :: _) rfl rfl ?_
  refine E_callL (p' := 22) (L0 := [some (aA 61), some (aA 47), some (aI 15), none]) rfl rfl rfl ?_
  refine E_s (p' := 1) (st' := aA 61 :: _) rfl rfl ?_
  refine E_s (p' := 2) (st' := aA 47 :: _) rfl rfl ?_
  refine E_callL (p' := 5) (L0 := [some (aA 61), some (aA 47), none, none]) rfl rfl rfl ?_
  refine E_s (p' := 1) (st' := aA 61 :: _) rfl rfl ?_
  refine E_s (p' := 4) (st' := aA 70 :: _) rfl rfl ?_
  refine E_s (p' := 5) (st' := aI 0 :: _) rfl rfl ?_
  refine E_call rfl rfl ?_
  refine c_fill rfl rfl ?_
  refine E_s (p' := 9) (st' := aA 61 :: _) rfl rfl ?_
  refine E_s (p' := 12) (st' := aA 66 :: _) rfl rfl ?_
  refine E_s (p' := 13) (st' := aI 0 :: _) rfl rfl ?_
  refine E_call rfl rfl ?_
  refine c_fill rfl rfl ?_
  refine E_s (p' := 17) (st' := aA 61 :: _) rfl rfl ?_
  refine E_s (p' := 18) (st' := aI 0 :: _) rfl rfl ?_
  refine E_stM (p' := 21) (m' := up2 _ 61 10 0) rfl rfl ?_
  refine E_s (p' := 22) (st' := aA 61 :: _) rfl rfl ?_
  refine E_s (p' := 23) (st' := aI 0 :: _) rfl rfl ?_
  refine E_stM (p' := 26) (m' := up2 _ 61 11 0) rfl rfl ?_
  refine E_s (p' := 27) (st' := aI 0 :: _) rfl rfl ?_
  refine E_s (p' := 28) (L' := [some (aA 61), some (aA 47), some (aI 0), none]) rfl rfl ?_
  refine E_s (p' := 29) (st' := aI 0 :: _) rfl rfl ?_
  refine E_s (p' := 30) (st' := aA 47 :: _) rfl rfl ?_
  refine E_s (p' := 33) (st' := aI 0 :: _) rfl rfl ?_
  refine E_s (p' := 135) rfl rfl ?_
  refine E_ret rfl rfl ?_
  refine E_s (p' := 6) (st' := aA 61 :: _) rfl rfl ?_
  refine E_s (p' := 7) (st' := aI 15 :: _) rfl rfl ?_
  refine E_callL (p' := 10) (L0 := [some (aA 61), some (aI 15), none]) rfl rfl rfl ?_
  refine E_s (p' := 1) (st' := aA 61 :: _) rfl rfl ?_
  refine E_s (p' := 2) (st' := aI 0 :: _) rfl rfl ?_
  refine E_stM (p' := 5) (m' := up2 _ 61 12 0) rfl rfl ?_
  refine E_s (p' := 6) (st' := aI 1 :: _) rfl rfl ?_
  refine E_s (p' := 7) (L' := [some (aA 61), some (aI 15), some (aI 1)]) rfl rfl ?_
  refine fl_loop (gp := 0) (by decide) _ 600 1 _ rfl (fun j hj => show (if 0 ≤ j ∧ j < 601 then (0 : Int) else _) = 0 from if_pos ⟨Nat.zero_le _, hj⟩) ?_
  refine E_s (p' := 11) (st' := aA 61 :: _) rfl rfl ?_
  refine E_s (p' := 14) (st' := aI 0 :: _) rfl rfl ?_
  refine E_s (p' := 17) rfl rfl ?_
  refine E_s (p' := 18) (st' := aA 61 :: _) rfl rfl ?_
  refine E_callL (p' := 21) (L0 := [some (aA 61)]) rfl rfl rfl ?_
  refine E_s (p' := 1) (st' := aA 61 :: _) rfl rfl ?_
  refine E_s (p' := 4) (st' := aA 67 :: _) rfl rfl ?_
  refine E_s (p' := 5) (st' := aA 61 :: _) rfl rfl ?_
  refine E_s (p' := 8) (st' := aI 0 :: _) rfl rfl ?_
  refine E_s (p' := 15) rfl rfl ?_
  refine E_s (p' := 16) (st' := aI 0 :: _) rfl rfl ?_
  refine E_call rfl rfl ?_
  refine c_fill rfl rfl ?_
  refine E_s (p' := 20) (st' := aA 61 :: _) rfl rfl ?_
  refine E_s (p' := 23) (st' := aA 68 :: _) rfl rfl ?_
  refine E_s (p' := 24) (st' := aI 0 :: _) rfl rfl ?_
  refine E_call rfl rfl ?_
  refine c_fill rfl rfl ?_
  refine E_s (p' := 28) (st' := aA 61 :: _) rfl rfl ?_
  refine E_s (p' := 31) (st' := aA 69 :: _) rfl rfl ?_
  refine E_s (p' := 32) (st' := aI 0 :: _) rfl rfl ?_
  refine E_call rfl rfl ?_
  refine c_fill rfl rfl ?_
  refine E_ret rfl rfl ?_
  refine E_ret rfl rfl ?_
  refine E_s (p' := 23) (st' := aA 46 :: _) rfl rfl ?_
  refine E_s (p' := 24) (st' := aI 1 :: _) rfl rfl ?_
  refine E_stM (p' := 27) (m' := up2 _ 46 7 1) rfl rfl ?_
  refine E_s (p' := 28) (st' := aA 46 :: _) rfl rfl ?_
  refine E_s (p' := 31) (st' := aA 61 :: _) rfl rfl ?_
  refine E_ret rfl rfl ?_
  refine E_s (p' := 15) rfl rfl ?_
  refine E_s (p' := 16) (st' := aA 46 :: _) rfl rfl ?_
  refine E_ret rfl rfl ?_
  refine E_s (p' := 6) (L' := [some (aA 1), some (aI 1), some (aA 46)]) rfl rfl ?_
  refine E_s (p' := 7) (st' := aA 46 :: _) rfl rfl ?_
  refine E_s (p' := 13) rfl rfl ?_
  refine E_s (p' := 14) (st' := aA 46 :: _) rfl rfl ?_
  refine E_s (p' := 17) (st' := aA 61 :: _) rfl rfl ?_
  refine E_s (p' := 20) (st' := aI 0 :: _) rfl rfl ?_
  refine E_s (p' := 23) rfl rfl ?_
  refine E_s (p' := 24) (st' := aI (-1) :: _) rfl rfl ?_
  refine E_s (p' := 34) rfl rfl ?_
  refine E_ret rfl rfl ?_
  refine E_s (p' := 653) (st' := aA 124 :: _) rfl rfl ?_
  refine E_s (p' := 654) (st' := aA 0 :: _) rfl rfl ?_
  refine E_s (p' := 655) (st' := aI 0 :: _) rfl rfl ?_
  refine E_s (p' := 656) (st' := aI 1 :: _) rfl rfl ?_
  refine E_s (p' := 657) (st' := aI 1 :: _) rfl rfl ?_
  refine E_scr rfl rfl h1 ?_
  refine E_callL (p' := 661) (L0 := [some (aA 124), some (aI 1)]) rfl rfl rfl ?_
  refine E_s (p' := 1) (st' := aI 1 :: _) rfl rfl ?_
  refine E_callL (p' := 4) (L0 := [some (aI 1)]) rfl rfl rfl ?_
  refine E_s (p' := 1) (st' := aI 1 :: _) rfl rfl ?_
  refine E_s (p' := 2) (st' := aI 0 :: _) rfl rfl ?_
  refine E_s (p' := 3) (st' := aI 3 :: _) rfl rfl ?_
  refine E_callL (p' := 6) (L0 := [some (aI 1), some (aI 0), some (aI 3)]) rfl rfl rfl ?_
  refine E_s (p' := 1) (st' := aI 1 :: _) rfl rfl ?_
  refine E_s (p' := 2) (st' := aI 0 :: _) rfl rfl ?_
  refine E_s (p' := 5) rfl rfl ?_
  refine E_s (p' := 6) (st' := aI 1 :: _) rfl rfl ?_
  refine E_s (p' := 7) (st' := aI 3 :: _) rfl rfl ?_
  refine E_s (p' := 10) rfl rfl ?_
  refine E_s (p' := 11) (st' := aI 1 :: _) rfl rfl ?_
  refine E_s (p' := 15) rfl rfl ?_
  refine E_ret rfl rfl ?_
  refine E_ret rfl rfl ?_
  refine E_s (p' := 12) rfl rfl ?_
  refine E_s (p' := 13) (st' := aA 124 :: _) rfl rfl ?_
  refine E_s (p' := 14) (st' := aI 1 :: _) rfl rfl ?_
  refine E_callL (p' := 17) (L0 := [some (aA 124), some (aI 1), none, none]) rfl rfl rfl ?_
  refine E_s (p' := 1) (st' := aI 0 :: _) rfl rfl ?_
  refine E_s (p' := 2) (L' := [some (aA 124), some (aI 1), some (aI 0), none]) rfl rfl ?_
  refine mr_loop1 _ 601 0 _ rfl ?_
  refine E_s (p' := 23) (st' := aA 124 :: _) rfl rfl ?_
  refine E_s (p' := 24) (st' := aI 0 :: _) rfl rfl ?_
  refine E_stM (p' := 27) (m' := up2 _ 124 25 0) rfl rfl ?_
  refine E_s (p' := 28) (st' := aA 124 :: _) rfl rfl ?_
  refine E_s (p' := 29) (st' := aI 0 :: _) rfl rfl ?_
  refine E_stM (p' := 32) (m' := up2 _ 124 26 0) rfl rfl ?_
  refine E_s (p' := 33) (st' := aI 0 :: _) rfl rfl ?_
  refine E_s (p' := 34) (L' := [some (aA 124), some (aI 1), some (aI 0), none]) rfl rfl ?_
  refine E_s (p' := 35) (st' := aI 0 :: _) rfl rfl ?_
  refine E_s (p' := 36) (st' := aA 124 :: _) rfl rfl ?_
  refine E_s (p' := 39) (st' := aA 125 :: _) rfl rfl ?_
  refine E_s (p' := 40) (st' := aI 1 :: _) rfl rfl ?_
  refine E_s (p' := 41) (st' := aI 0 :: _) rfl rfl ?_
  refine E_s (p' := 121) rfl rfl ?_
  refine E_s (p' := 122) (st' := aA 124 :: _) rfl rfl ?_
  refine E_s (p' := 123) (st' := aI 0 :: _) rfl rfl ?_
  refine E_stM (p' := 126) (m' := up2 _ 124 24 0) rfl rfl ?_
  refine E_s (p' := 127) (st' := aI 0 :: _) rfl rfl ?_
  refine E_s (p' := 128) (L' := [some (aA 124), some (aI 1), some (aI 0), none]) rfl rfl ?_
  refine mr_loop3 _ 601 0 _ rfl (fun j hj => show (if 0 ≤ j ∧ j < 601 then (0 : Int) else _) = 0 from if_pos ⟨Nat.zero_le _, hj⟩) ?_
  refine E_s (p' := 245) (st' := aA 124 :: _) rfl rfl ?_
  refine E_s (p' := 248) (st' := aI 0 :: _) rfl rfl ?_
  refine E_s (p' := 249) (st' := aA 124 :: _) rfl rfl ?_
  refine E_s (p' := 252) (st' := aI 0 :: _) rfl rfl ?_
  refine E_s (p' := 259) rfl rfl ?_
  refine E_s (p' := 260) (st' := aI 1 :: _) rfl rfl ?_
  refine E_s (p' := 261) (st' := aI 1 :: _) rfl rfl ?_
  refine E_s (p' := 263) (st' := aI 6 :: _) rfl rfl ?_
  refine E_s (p' := 271) rfl rfl ?_
  refine E_s (p' := 272) (st' := aA 124 :: _) rfl rfl ?_
  refine E_s (p' := 275) (st' := aI 0 :: _) rfl rfl ?_
  refine E_s (p' := 282) rfl rfl ?_
  refine E_s (p' := 283) (st' := aI 0 :: _) rfl rfl ?_
  refine E_ret rfl rfl ?_
  refine E_s (p' := 27) rfl rfl ?_
  refine E_s (p' := 28) (st' := aI (-1) :: _) rfl rfl ?_
  refine E_ret rfl rfl ?_
  refine E_s (p' := 1174) rfl rfl ?_
  refine E_s (p' := 1177) (L' := [some (aA 0), some (aA 1), some (aA 124), some (aI 6)]) rfl rfl ?_
  refine E_s (p' := 18) rfl rfl ?_
  refine E_s (p' := 19) (st' := aI 6 :: _) rfl rfl ?_
  refine E_s (p' := 20) (st' := aA 0 :: _) rfl rfl ?_
  refine E_s (p' := 21) (st' := aI 6 :: _) rfl rfl ?_
  refine E_s (p' := 23) (st' := aI 6 :: _) rfl rfl ?_
  refine E_s (p' := 24) (st' := aI 0 :: _) rfl rfl ?_
  refine E_s (p' := 1180) rfl rfl ?_
  refine E_s (p' := 1181) (st' := aI 1 :: _) rfl rfl ?_
  exact E_ret rfl rfl ⟨rfl, rfl⟩
set_option maxRecDepth 100000 in
set_option maxHeartbeats 40000000 in
theorem pc_11_2 (xs : Nat → Int) {z a2 a3 a4 a5 : Int} (hz : b32 (fun a b => a &&& b) z 31 = 11) (h0 : xs 0 = z) (h1 : xs 1 = 2) (h2 : xs 2 = a2) (h3 : xs 3 = a3) (h4 : xs 4 = a4) (h5 : xs 5 = a5) : E 0 18 LL [] (s0 xs 6) PQ := by
  refine E_s (p' := 19) (st' := aI 0 :: _) rfl rfl ?_
  refine E_s (p' := 20) (st' := aA 0 :: _) rfl rfl ?_
  refine E_s (p' := 21) (st' := aI 6 :: _) rfl rfl ?_
  refine E_s (p' := 23) (st' := aI 6 :: _) rfl rfl ?_
  refine E_s (p' := 24) (st' := aI 0 :: _) rfl rfl ?_
  refine E_s (p' := 27) rfl rfl ?_
  refine E_s (p' := 28) (st' := aA 0 :: _) rfl rfl ?_
  refine E_s (p' := 29) (st' := aI 0 :: _) rfl rfl ?_
  refine E_scr rfl rfl h0 ?_
  refine E_s (p' := 32) (st' := aI 31 :: _) rfl rfl ?_
  refine E_s (p' := 33) rfl rfl ?_
  refine E_val hz ?_
  refine E_s (p' := 643) rfl rfl ?_
  refine E_s (p' := 644) (st' := aA 1 :: _) rfl rfl ?_
  refine E_s (p' := 645) (st' := aA 0 :: _) rfl rfl ?_
  refine E_s (p' := 646) (st' := aI 0 :: _) rfl rfl ?_
  refine E_s (p' := 647) (st' := aI 1 :: _) rfl rfl ?_
  refine E_s (p' := 648) (st' := aI 1 :: _) rfl rfl ?_
  refine E_scr rfl rfl h1 ?_
  refine E_callL (p' := 652) (L0 := [some (aA 1), some (aI 2), none]) rfl rfl rfl ?_
  refine E_s (p' := 1) (st' := aA 1 :: _) rfl rfl ?_
  refine E_s (p' := 2) (st' := aI 2 :: _) rfl rfl ?_
  refine E_callL (p' := 5) (L0 := [some (aA 1), some (aI 2), none]) rfl rfl rfl ?_
  refine E_s (p' := 1) (st' := aA 1 :: _) rfl rfl ?_
  refine E_s (p' := 2) (st' := aI 2 :: _) rfl rfl ?_
  refine E_callL (p' := 5) (L0 := [some (aA 1), some (aI 2)]) rfl rfl rfl ?_
  refine E_s (p' := 1) (st' := aI 2 :: _) rfl rfl ?_
  refine E_s (p' := 4) rfl rfl ?_
  refine E_s (p' := 5) (st' := aI 2 :: _) rfl rfl ?_
  refine E_s (p' := 6) (st' := aI 4 :: _) rfl rfl ?_
  refine E_s (p' := 9) rfl rfl ?_
  refine E_s (p' := 10) (st' := aA 1 :: _) rfl rfl ?_
  refine E_s (p' := 13) (st' := aA 2 :: _) rfl rfl ?_
  refine E_s (p' := 14) (st' := aI 2 :: _) rfl rfl ?_
  refine E_s (p' := 15) (st' := aA 72 :: _) rfl rfl ?_
  refine E_s (p' := 19) rfl rfl ?_
  refine E_ret rfl rfl ?_
  refine E_s (p' := 6) (L' := [some (aA 1), some (aI 2), some (aA 72)]) rfl rfl ?_
  refine E_s (p' := 7) (st' := aA 72 :: _) rfl rfl ?_
  refine E_s (p' := 10) rfl rfl ?_
  refine E_s (p' := 11) (st' := aA 72 :: _) rfl rfl ?_
  refine E_callL (p' := 14) (L0 := [some (aA 72)]) rfl rfl rfl ?_
  refine E_s (p' := 1) (st' := aA 72 :: _) rfl rfl ?_
  refine E_s (p' := 4) (st' := aI 0 :: _) rfl rfl ?_
  refine E_s (p' := 7) rfl rfl ?_
  refine E_s (p' := 8) (st' := aA 72 :: _) rfl rfl ?_
  refine E_s (p' := 11) (st' := aA 87 :: _) rfl rfl ?_
  refine E_s (p' := 12) (st' := aA 72 :: _) rfl rfl ?_
  refine E_s (p' := 15) (st' := aA 73 :: _) rfl rfl ?_
  refine E_s (p' := 16) (st' := aA 72 :: _) rfl rfl ?_
  refine E_s (p' := 19) (st' := aI 15 :: _) rfl rfl ?_
  refine E_callL (p' := 22) (L0 := [some (aA 87), some (aA 73), some (aI 15), none]) rfl rfl rfl ?_
  refine E_s (p' := 1) (st' := aA 87 :: _) rfl rfl ?_
  refine E_s (p' := 2) (st' := aA 73 :: _) rfl rfl ?_
  refine E_callL (p' := 5) (L0 := [some (aA 87), some (aA 73), none, none]) rfl rfl rfl ?_
  refine E_s (p' := 1) (st' := aA 87 :: _) rfl rfl ?_
  refine E_s (p' := 4) (st' := aA 96 :: _) rfl rfl ?_
  refine E_s (p' := 5) (st' := aI 0 :: _) rfl rfl ?_
  refine E_call rfl rfl ?_
  refine c_fill rfl rfl ?_
  refine E_s (p' := 9) (st' := aA 87 :: _) rfl rfl ?_
  refine E_s (p' := 12) (st' := aA 92 :: _) rfl rfl ?_
  refine E_s (p' := 13) (st' := aI 0 :: _) rfl rfl ?_
  refine E_call rfl rfl ?_
  refine c_fill rfl rfl ?_
  refine E_s (p' := 17) (st' := aA 87 :: _) rfl rfl ?_
  refine E_s (p' := 18) (st' := aI 0 :: _) rfl rfl ?_
  refine E_stM (p' := 21) (m' := up2 _ 87 10 0) rfl rfl ?_
  refine E_s (p' := 22) (st' := aA 87 :: _) rfl rfl ?_
  refine E_s (p' := 23) (st' := aI 0 :: _) rfl rfl ?_
  refine E_stM (p' := 26) (m' := up2 _ 87 11 0) rfl rfl ?_
  refine E_s (p' := 27) (st' := aI 0 :: _) rfl rfl ?_
  refine E_s (p' := 28) (L' := [some (aA 87), some (aA 73), some (aI 0), none]) rfl rfl ?_
  refine E_s (p' := 29) (st' := aI 0 :: _) rfl rfl ?_
  refine E_s (p' := 30) (st' := aA 73 :: _) rfl rfl ?_
  refine E_s (p' := 33) (st' := aI 0 :: _) rfl rfl ?_
  refine E_s (p' := 135) rfl rfl ?_
  refine E_ret rfl rfl ?_
  refine E_s (p' := 6) (st' := aA 87 :: _) rfl rfl ?_
  refine E_s (p' := 7) (st' := aI 15 :: _) rfl rfl ?_
  refine E_callL (p' := 10) (L0 := [some (aA 87), some (aI 15), none]) rfl rfl rfl ?_
  refine E_s (p' := 1) (st' := aA 87 :: _) rfl rfl ?_
  refine E_s (p' := 2) (st' := aI 0 :: _) rfl rfl ?_
  refine E_stM (p' := 5) (m' := up2 _ 87 12 0) rfl rfl ?_
  refine E_s (p' := 6) (st' := aI 1 :: _) rfl rfl ?_
  refine E_s (p' := 7) (L' := [some (aA 87), some (aI 15), some (aI 1)]) rfl rfl ?_
  refine fl_loop (gp := 0) (by decide) _ 600 1 _ rfl (fun j hj => show (if 0 ≤ j ∧ j < 601 then (0 : Int) else _) = 0 from if_pos ⟨Nat.zero_le _, hj⟩) ?_
  refine E_s (p' := 11) (st' := aA 87 :: _) rfl rfl ?_
  refine E_s (p' := 14) (st' := aI 0 :: _) rfl rfl ?_
  refine E_s (p' := 17) rfl rfl ?_
  refine E_s (p' := 18) (st' := aA 87 :: _) rfl rfl ?_
  refine E_callL (p' := 21) (L0 := [some (aA 87)]) rfl rfl rfl ?_
  refine E_s (p' := 1) (st' := aA 87 :: _) rfl rfl ?_
  refine E_s (p' := 4) (st' := aA 93 :: _) rfl rfl ?_
  refine E_s (p' := 5) (st' := aA 87 :: _) rfl rfl ?_
  refine E_s (p' := 8) (st' := aI 0 :: _) rfl rfl ?_
  refine E_s (p' := 15) rfl rfl ?_
  refine E_s (p' := 16) (st' := aI 0 :: _) rfl rfl ?_
  refine E_call rfl rfl ?_
  refine c_fill rfl rfl ?_
  refine E_s (p' := 20) (st' := aA 87 :: _) rfl rfl ?_
  refine E_s (p' := 23) (st' := aA 94 :: _) rfl rfl ?_
  refine E_s (p' := 24) (st' := aI 0 :: _) rfl rfl ?_
  refine E_call rfl rfl ?_
  refine c_fill rfl rfl ?_
  refine E_s (p' := 28) (st' := aA 87 :: _) rfl rfl ?_
  refine E_s (p' := 31) (st' := aA 95 :: _) rfl rfl ?_
  refine E_s (p' := 32) (st' := aI 0 :: _) rfl rfl ?_
  refine E_call rfl rfl ?_
  refine c_fill rfl rfl ?_
  refine E_ret rfl rfl ?_
  refine E_ret rfl rfl ?_
  refine E_s (p' := 23) (st' := aA 72 :: _) rfl rfl ?_
  refine E_s (p' := 24) (st' := aI 1 :: _) rfl rfl ?_
  refine E_stM (p' := 27) (m' := up2 _ 72 7 1) rfl rfl ?_
  refine E_s (p' := 28) (st' := aA 72 :: _) rfl rfl ?_
  refine E_s (p' := 31) (st' := aA 87 :: _) rfl rfl ?_
  refine E_ret rfl rfl ?_
  refine E_s (p' := 15) rfl rfl ?_
  refine E_s (p' := 16) (st' := aA 72 :: _) rfl rfl ?_
  refine E_ret rfl rfl ?_
  refine E_s (p' := 6) (L' := [some (aA 1), some (aI 2), some (aA 72)]) rfl rfl ?_
  refine E_s (p' := 7) (st' := aA 72 :: _) rfl rfl ?_
  refine E_s (p' := 13) rfl rfl ?_
  refine E_s (p' := 14) (st' := aA 72 :: _) rfl rfl ?_
  refine E_s (p' := 17) (st' := aA 87 :: _) rfl rfl ?_
  refine E_s (p' := 20) (st' := aI 0 :: _) rfl rfl ?_
  refine E_s (p' := 23) rfl rfl ?_
  refine E_s (p' := 24) (st' := aI (-1) :: _) rfl rfl ?_
  refine E_s (p' := 34) rfl rfl ?_
  refine E_ret rfl rfl ?_
  refine E_s (p' := 653) (st' := aA 124 :: _) rfl rfl ?_
  refine E_s (p' := 654) (st' := aA 0 :: _) rfl rfl ?_
  refine E_s (p' := 655) (st' := aI 0 :: _) rfl rfl ?_
  refine E_s (p' := 656) (st' := aI 1 :: _) rfl rfl ?_
  refine E_s (p' := 657) (st' := aI 1 :: _) rfl rfl ?_
  refine E_scr rfl rfl h1 ?_
  refine E_callL (p' := 661) (L0 := [some (aA 124), some (aI 2)]) rfl rfl rfl ?_
  refine E_s (p' := 1) (st' := aI 2 :: _) rfl rfl ?_
  refine E_callL (p' := 4) (L0 := [some (aI 2)]) rfl rfl rfl ?_
  refine E_s (p' := 1) (st' := aI 2 :: _) rfl rfl ?_
  refine E_s (p' := 2) (st' := aI 0 :: _) rfl rfl ?_
  refine E_s (p' := 3) (st' := aI 3 :: _) rfl rfl ?_
  refine E_callL (p' := 6) (L0 := [some (aI 2), some (aI 0), some (aI 3)]) rfl rfl rfl ?_
  refine E_s (p' := 1) (st' := aI 2 :: _) rfl rfl ?_
  refine E_s (p' := 2) (st' := aI 0 :: _) rfl rfl ?_
  refine E_s (p' := 5) rfl rfl ?_
  refine E_s (p' := 6) (st' := aI 2 :: _) rfl rfl ?_
  refine E_s (p' := 7) (st' := aI 3 :: _) rfl rfl ?_
  refine E_s (p' := 10) rfl rfl ?_
  refine E_s (p' := 11) (st' := aI 1 :: _) rfl rfl ?_
  refine E_s (p' := 15) rfl rfl ?_
  refine E_ret rfl rfl ?_
  refine E_ret rfl rfl ?_
  refine E_s (p' := 12) rfl rfl ?_
  refine E_s (p' := 13) (st' := aA 124 :: _) rfl rfl ?_
  refine E_s (p' := 14) (st' := aI 2 :: _) rfl rfl ?_
  refine E_callL (p' := 17) (L0 := [some (aA 124), some (aI 2), none, none]) rfl rfl rfl ?_
  refine E_s (p' := 1) (st' := aI 0 :: _) rfl rfl ?_
  refine E_s (p' := 2) (L' := [some (aA 124), some (aI 2), some (aI 0), none]) rfl rfl ?_
  refine mr_loop1 _ 601 0 _ rfl ?_
  refine E_s (p' := 23) (st' := aA 124 :: _) rfl rfl ?_
  refine E_s (p' := 24) (st' := aI 0 :: _) rfl rfl ?_
  refine E_stM (p' := 27) (m' := up2 _ 124 25 0) rfl rfl ?_
  refine E_s (p' := 28) (st' := aA 124 :: _) rfl rfl ?_
  refine E_s (p' := 29) (st' := aI 0 :: _) rfl rfl ?_
  refine E_stM (p' := 32) (m' := up2 _ 124 26 0) rfl rfl ?_
  refine E_s (p' := 33) (st' := aI 0 :: _) rfl rfl ?_
  refine E_s (p' := 34) (L' := [some (aA 124), some (aI 2), some (aI 0), none]) rfl rfl ?_
  refine E_s (p' := 35) (st' := aI 0 :: _) rfl rfl ?_
  refine E_s (p' := 36) (st' := aA 124 :: _) rfl rfl ?_
  refine E_s (p' := 39) (st' := aA 125 :: _) rfl rfl ?_
  refine E_s (p' := 40) (st' := aI 2 :: _) rfl rfl ?_
  refine E_s (p' := 41) (st' := aI 0 :: _) rfl rfl ?_
  refine E_s (p' := 121) rfl rfl ?_
  refine E_s (p' := 122) (st' := aA 124 :: _) rfl rfl ?_
  refine E_s (p' := 123) (st' := aI 0 :: _) rfl rfl ?_
  refine E_stM (p' := 126) (m' := up2 _ 124 24 0) rfl rfl ?_
  refine E_s (p' := 127) (st' := aI 0 :: _) rfl rfl ?_
  refine E_s (p' := 128) (L' := [some (aA 124), some (aI 2), some (aI 0), none]) rfl rfl ?_
  refine mr_loop3 _ 601 0 _ rfl (fun j hj => show (if 0 ≤ j ∧ j < 601 then (0 : Int) else _) = 0 from if_pos ⟨Nat.zero_le _, hj⟩) ?_
  refine E_s (p' := 245) (st' := aA 124 :: _) rfl rfl ?_
  refine E_s (p' := 248) (st' := aI 0 :: _) rfl rfl ?_
  refine E_s (p' := 249) (st' := aA 124 :: _) rfl rfl ?_
  refine E_s (p' := 252) (st' := aI 0 :: _) rfl rfl ?_
  refine E_s (p' := 259) rfl rfl ?_
  refine E_s (p' := 260) (st' := aI 1 :: _) rfl rfl ?_
  refine E_s (p' := 261) (st' := aI 1 :: _) rfl rfl ?_
  refine E_s (p' := 263) (st' := aI 6 :: _) rfl rfl ?_
  refine E_s (p' := 271) rfl rfl ?_
  refine E_s (p' := 272) (st' := aA 124 :: _) rfl rfl ?_
  refine E_s (p' := 275) (st' := aI 0 :: _) rfl rfl ?_
  refine E_s (p' := 282) rfl rfl ?_
  refine E_s (p' := 283) (st' := aI 0 :: _) rfl rfl ?_
  refine E_ret rfl rfl ?_
  refine E_s (p' := 27) rfl rfl ?_
  refine E_s (p' := 28) (st' := aI (-1) :: _) rfl rfl ?_
  refine E_ret rfl rfl ?_
  refine E_s (p' := 1174) rfl rfl ?_
  refine E_s (p' := 1177) (L' := [some (aA 0), some (aA 1), some (aA 124), some (aI 6)]) rfl rfl ?_
  refine E_s (p' := 18) rfl rfl ?_
  refine E_s (p' := 19) (st' := aI 6 :: _) rfl rfl ?_
  refine E_s (p' := 20) (st' := aA 0 :: _) rfl rfl ?_
  refine E_s (p' := 21) (st' := aI 6 :: _) rfl rfl ?_
  refine E_s (p' := 23) (st' := aI 6 :: _) rfl rfl ?_
  refine E_s (p' := 24) (st' := aI 0 :: _) rfl rfl ?_
  refine E_s (p' := 1180) rfl rfl ?_
  refine E_s (p' := 1181) (st' := aI 1 :: _) rfl rfl ?_
  exact E_ret rfl rfl ⟨rfl, rfl⟩
set_option maxRecDepth 100000 in
set_option maxHeartbeats 40000000 in
theorem pc_11_3 (xs : Nat → Int) {z a2 a3 a4 a5 : Int} (hz : b32 (fun a b => a &&& b) z 31 = 11) (h0 : xs 0 = z) (h1 : xs 1 = 3) (h2 : xs 2 = a2) (h3 : xs 3 = a3) (h4 : xs 4 = a4) (h5 : xs 5 = a5) : E 0 18 LL [] (s0 xs 6) PQ := by
  refine E_s (p' := 19) (st' := aI 0 :: _) rfl rfl ?_
  refine E_s (p' := 20) (st' := aA 0 :: _) rfl rfl ?_
  refine E_s (p' := 21) (st' := aI 6 :: _) rfl rfl ?_
  refine E_s (p' := 23) (st' := aI 6 :: _) rfl rfl ?_
  refine E_s (p' := 24) (st' := aI 0 :: _) rfl rfl ?_
  refine E_s (p' := 27) rfl rfl ?_
  refine E_s (p' := 28) (st' := aA 0 :: _) rfl rfl ?_
  refine E_s (p' := 29) (st' := aI 0 :: _) rfl rfl ?_
  refine E_scr rfl rfl h0 ?_
  refine E_s (p' := 32) (st' := aI 31 :: _) rfl rfl ?_
  refine E_s (p' := 33) rfl rfl ?_
  refine E_val hz ?_
  refine E_s (p' := 643) rfl rfl ?_
  refine E_s (p' := 644) (st' := aA 1 :: _) rfl rfl ?_
  refine E_s (p' := 645) (st' := aA 0 :: _) rfl rfl ?_
  refine E_s (p' := 646) (st' := aI 0 :: _) rfl rfl ?_
  refine E_s (p' := 647) (st' := aI 1 :: _) rfl rfl ?_
  refine E_s (p' := 648) (st' := aI 1 :: _) rfl rfl ?_
  refine E_scr rfl rfl h1 ?_
  refine E_callL (p' := 652) (L0 := [some (aA 1), some (aI 3), none]) rfl rfl rfl ?_
  refine E_s (p' := 1) (st' := aA 1 :: _) rfl rfl ?_
  refine E_s (p' := 2) (st' := aI 3 :: _) rfl rfl ?_
  refine E_callL (p' := 5) (L0 := [some (aA 1), some (aI 3), none]) rfl rfl rfl ?_
  refine E_s (p' := 1) (st' := aA 1 :: _) rfl rfl ?_
  refine E_s (p' := 2) (st' := aI 3 :: _) rfl rfl ?_
  refine E_callL (p' := 5) (L0 := [some (aA 1), some (aI 3)]) rfl rfl rfl ?_
  refine E_s (p' := 1) (st' := aI 3 :: _) rfl rfl ?_
  refine E_s (p' := 4) rfl rfl ?_
  refine E_s (p' := 5) (st' := aI 3 :: _) rfl rfl ?_
  refine E_s (p' := 6) (st' := aI 4 :: _) rfl rfl ?_
  refine E_s (p' := 9) rfl rfl ?_
  refine E_s (p' := 10) (st' := aA 1 :: _) rfl rfl ?_
  refine E_s (p' := 13) (st' := aA 2 :: _) rfl rfl ?_
  refine E_s (p' := 14) (st' := aI 3 :: _) rfl rfl ?_
  refine E_s (p' := 15) (st' := aA 98 :: _) rfl rfl ?_
  refine E_s (p' := 19) rfl rfl ?_
  refine E_ret rfl rfl ?_
  refine E_s (p' := 6) (L' := [some (aA 1), some (aI 3), some (aA 98)]) rfl rfl ?_
  refine E_s (p' := 7) (st' := aA 98 :: _) rfl rfl ?_
  refine E_s (p' := 10) rfl rfl ?_
  refine E_s (p' := 11) (st' := aA 98 :: _) rfl rfl ?_
  refine E_callL (p' := 14) (L0 := [some (aA 98)]) rfl rfl rfl ?_
  refine E_s (p' := 1) (st' := aA 98 :: _) rfl rfl ?_
  refine E_s (p' := 4) (st' := aI 0 :: _) rfl rfl ?_
  refine E_s (p' := 7) rfl rfl ?_
  refine E_s (p' := 8) (st' := aA 98 :: _) rfl rfl ?_
  refine E_s (p' := 11) (st' := aA 113 :: _) rfl rfl ?_
  refine E_s (p' := 12) (st' := aA 98 :: _) rfl rfl ?_
  refine E_s (p' := 15) (st' := aA 99 :: _) rfl rfl ?_
  refine E_s (p' := 16) (st' := aA 98 :: _) rfl rfl ?_
  refine E_s (p' := 19) (st' := aI 15 :: _) rfl rfl ?_
  refine E_callL (p' := 22) (L0 := [some (aA 113), some (aA 99), some (aI 15), none]) rfl rfl rfl ?_
  refine E_s (p' := 1) (st' := aA 113 :: _) rfl rfl ?_
  refine E_s (p' := 2) (st' := aA 99 :: _) rfl rfl ?_
  refine E_callL (p' := 5) (L0 := [some (aA 113), some (aA 99), none, none]) rfl rfl rfl ?_
  refine E_s (p' := 1) (st' := aA 113 :: _) rfl rfl ?_
  refine E_s (p' := 4) (st' := aA 122 :: _) rfl rfl ?_
  refine E_s (p' := 5) (st' := aI 0 :: _) rfl rfl ?_
  refine E_call rfl rfl ?_
  refine c_fill rfl rfl ?_
  refine E_s (p' := 9) (st' := aA 113 :: _) rfl rfl ?_
  refine E_s (p' := 12) (st' := aA 118 :: _) rfl rfl ?_
  refine E_s (p' := 13) (st' := aI 0 :: _) rfl rfl ?_
  refine E_call rfl rfl ?_
  refine c_fill rfl rfl ?_
  refine E_s (p' := 17) (st' := aA 113 :: _) rfl rfl ?_
  refine E_s (p' := 18) (st' := aI 0 :: _) rfl rfl ?_
  refine E_stM (p' := 21) (m' := up2 _ 113 10 0) rfl rfl ?_
  refine E_s (p' := 22) (st' := aA 113 :: _) rfl rfl ?_
  refine E_s (p' := 23) (st' := aI 0 :: _) rfl rfl ?_
  refine E_stM (p' := 26) (m' := up2 _ 113 11 0) rfl rfl ?_
  refine E_s (p' := 27) (st' := aI 0 :: _) rfl rfl ?_
  refine E_s (p' := 28) (L' := [some (aA 113), some (aA 99), some (aI 0), none]) rfl rfl ?_
  refine E_s (p' := 29) (st' := aI 0 :: _) rfl rfl ?_
  refine E_s (p' := 30) (st' := aA 99 :: _) rfl rfl ?_
  refine E_s (p' := 33) (st' := aI 0 :: _) rfl rfl ?_
  refine E_s (p' := 135) rfl rfl ?_
  refine E_ret rfl rfl ?_
  refine E_s (p' := 6) (st' := aA 113 :: _) rfl rfl ?_
  refine E_s (p' := 7) (st' := aI 15 :: _) rfl rfl ?_
  refine E_callL (p' := 10) (L0 := [some (aA 113), some (aI 15), none]) rfl rfl rfl ?_
  refine E_s (p' := 1) (st' := aA 113 :: _) rfl rfl ?_
  refine E_s (p' := 2) (st' := aI 0 :: _) rfl rfl ?_
  refine E_stM (p' := 5) (m' := up2 _ 113 12 0) rfl rfl ?_
  refine E_s (p' := 6) (st' := aI 1 :: _) rfl rfl ?_
  refine E_s (p' := 7) (L' := [some (aA 113), some (aI 15), some (aI 1)]) rfl rfl ?_
  refine fl_loop (gp := 0) (by decide) _ 600 1 _ rfl (fun j hj => show (if 0 ≤ j ∧ j < 601 then (0 : Int) else _) = 0 from if_pos ⟨Nat.zero_le _, hj⟩) ?_
  refine E_s (p' := 11) (st' := aA 113 :: _) rfl rfl ?_
  refine E_s (p' := 14) (st' := aI 0 :: _) rfl rfl ?_
  refine E_s (p' := 17) rfl rfl ?_
  refine E_s (p' := 18) (st' := aA 113 :: _) rfl rfl ?_
  refine E_callL (p' := 21) (L0 := [some (aA 113)]) rfl rfl rfl ?_
  refine E_s (p' := 1) (st' := aA 113 :: _) rfl rfl ?_
  refine E_s (p' := 4) (st' := aA 119 :: _) rfl rfl ?_
  refine E_s (p' := 5) (st' := aA 113 :: _) rfl rfl ?_
  refine E_s (p' := 8) (st' := aI 0 :: _) rfl rfl ?_
  refine E_s (p' := 15) rfl rfl ?_
  refine E_s (p' := 16) (st' := aI 0 :: _) rfl rfl ?_
  refine E_call rfl rfl ?_
  refine c_fill rfl rfl ?_
  refine E_s (p' := 20) (st' := aA 113 :: _) rfl rfl ?_
  refine E_s (p' := 23) (st' := aA 120 :: _) rfl rfl ?_
  refine E_s (p' := 24) (st' := aI 0 :: _) rfl rfl ?_
  refine E_call rfl rfl ?_
  refine c_fill rfl rfl ?_
  refine E_s (p' := 28) (st' := aA 113 :: _) rfl rfl ?_
  refine E_s (p' := 31) (st' := aA 121 :: _) rfl rfl ?_
  refine E_s (p' := 32) (st' := aI 0 :: _) rfl rfl ?_
  refine E_call rfl rfl ?_
  refine c_fill rfl rfl ?_
  refine E_ret rfl rfl ?_
  refine E_ret rfl rfl ?_
  refine E_s (p' := 23) (st' := aA 98 :: _) rfl rfl ?_
  refine E_s (p' := 24) (st' := aI 1 :: _) rfl rfl ?_
  refine E_stM (p' := 27) (m' := up2 _ 98 7 1) rfl rfl ?_
  refine E_s (p' := 28) (st' := aA 98 :: _) rfl rfl ?_
  refine E_s (p' := 31) (st' := aA 113 :: _) rfl rfl ?_
  refine E_ret rfl rfl ?_
  refine E_s (p' := 15) rfl rfl ?_
  refine E_s (p' := 16) (st' := aA 98 :: _) rfl rfl ?_
  refine E_ret rfl rfl ?_
  refine E_s (p' := 6) (L' := [some (aA 1), some (aI 3), some (aA 98)]) rfl rfl ?_
  refine E_s (p' := 7) (st' := aA 98 :: _) rfl rfl ?_
  refine E_s (p' := 13) rfl rfl ?_
  refine E_s (p' := 14) (st' := aA 98 :: _) rfl rfl ?_
  refine E_s (p' := 17) (st' := aA 113 :: _) rfl rfl ?_
  refine E_s (p' := 20) (st' := aI 0 :: _) rfl rfl ?_
  refine E_s (p' := 23) rfl rfl ?_
  refine E_s (p' := 24) (st' := aI (-1) :: _) rfl rfl ?_
  refine E_s (p' := 34) rfl rfl ?_
  refine E_ret rfl rfl ?_
  refine E_s (p' := 653) (st' := aA 124 :: _) rfl rfl ?_
  refine E_s (p' := 654) (st' := aA 0 :: _) rfl rfl ?_
  refine E_s (p' := 655) (st' := aI 0 :: _) rfl rfl ?_
  refine E_s (p' := 656) (st' := aI 1 :: _) rfl rfl ?_
  refine E_s (p' := 657) (st' := aI 1 :: _) rfl rfl ?_
  refine E_scr rfl rfl h1 ?_
  refine E_callL (p' := 661) (L0 := [some (aA 124), some (aI 3)]) rfl rfl rfl ?_
  refine E_s (p' := 1) (st' := aI 3 :: _) rfl rfl ?_
  refine E_callL (p' := 4) (L0 := [some (aI 3)]) rfl rfl rfl ?_
  refine E_s (p' := 1) (st' := aI 3 :: _) rfl rfl ?_
  refine E_s (p' := 2) (st' := aI 0 :: _) rfl rfl ?_
  refine E_s (p' := 3) (st' := aI 3 :: _) rfl rfl ?_
  refine E_callL (p' := 6) (L0 := [some (aI 3), some (aI 0), some (aI 3)]) rfl rfl rfl ?_
  refine E_s (p' := 1) (st' := aI 3 :: _) rfl rfl ?_
  refine E_s (p' := 2) (st' := aI 0 :: _) rfl rfl ?_
  refine E_s (p' := 5) rfl rfl ?_
  refine E_s (p' := 6) (st' := aI 3 :: _) rfl rfl ?_
  refine E_s (p' := 7) (st' := aI 3 :: _) rfl rfl ?_
  refine E_s (p' := 10) rfl rfl ?_
  refine E_s (p' := 11) (st' := aI 1 :: _) rfl rfl ?_
  refine E_s (p' := 15) rfl rfl ?_
  refine E_ret rfl rfl ?_
  refine E_ret rfl rfl ?_
  refine E_s (p' := 12) rfl rfl ?_
  refine E_s (p' := 13) (st' := aA 124 :: _) rfl rfl ?_
  refine E_s (p' := 14) (st' := aI 3 :: _) rfl rfl ?_
  refine E_callL (p' := 17) (L0 := [some (aA 124), some (aI 3), none, none]) rfl rfl rfl ?_
  refine E_s (p' := 1) (st' := aI 0 :: _) rfl rfl ?_
  refine E_s (p' := 2) (L' := [some (aA 124), some (aI 3), some (aI 0), none]) rfl rfl ?_
  refine mr_loop1 _ 601 0 _ rfl ?_
  refine E_s (p' := 23) (st' := aA 124 :: _) rfl rfl ?_
  refine E_s (p' := 24) (st' := aI 0 :: _) rfl rfl ?_
  refine E_stM (p' := 27) (m' := up2 _ 124 25 0) rfl rfl ?_
  refine E_s (p' := 28) (st' := aA 124 :: _) rfl rfl ?_
  refine E_s (p' := 29) (st' := aI 0 :: _) rfl rfl ?_
  refine E_stM (p' := 32) (m' := up2 _ 124 26 0) rfl rfl ?_
  refine E_s (p' := 33) (st' := aI 0 :: _) rfl rfl ?_
  refine E_s (p' := 34) (L' := [some (aA 124), some (aI 3), some (aI 0), none]) rfl rfl ?_
  refine E_s (p' := 35) (st' := aI 0 :: _) rfl rfl ?_
  refine E_s (p' := 36) (st' := aA 124 :: _) rfl rfl ?_
  refine E_s (p' := 39) (st' := aA 125 :: _) rfl rfl ?_
  refine E_s (p' := 40) (st' := aI 3 :: _) rfl rfl ?_
  refine E_s (p' := 41) (st' := aI 0 :: _) rfl rfl ?_
  refine E_s (p' := 121) rfl rfl ?_
  refine E_s (p' := 122) (st' := aA 124 :: _) rfl rfl ?_
  refine E_s (p' := 123) (st' := aI 0 :: _) rfl rfl ?_
  refine E_stM (p' := 126) (m' := up2 _ 124 24 0) rfl rfl ?_
  refine E_s (p' := 127) (st' := aI 0 :: _) rfl rfl ?_
  refine E_s (p' := 128) (L' := [some (aA 124), some (aI 3), some (aI 0), none]) rfl rfl ?_
  refine mr_loop3 _ 601 0 _ rfl (fun j hj => show (if 0 ≤ j ∧ j < 601 then (0 : Int) else _) = 0 from if_pos ⟨Nat.zero_le _, hj⟩) ?_
  refine E_s (p' := 245) (st' := aA 124 :: _) rfl rfl ?_
  refine E_s (p' := 248) (st' := aI 0 :: _) rfl rfl ?_
  refine E_s (p' := 249) (st' := aA 124 :: _) rfl rfl ?_
  refine E_s (p' := 252) (st' := aI 0 :: _) rfl rfl ?_
  refine E_s (p' := 259) rfl rfl ?_
  refine E_s (p' := 260) (st' := aI 1 :: _) rfl rfl ?_
  refine E_s (p' := 261) (st' := aI 1 :: _) rfl rfl ?_
  refine E_s (p' := 263) (st' := aI 6 :: _) rfl rfl ?_
  refine E_s (p' := 271) rfl rfl ?_
  refine E_s (p' := 272) (st' := aA 124 :: _) rfl rfl ?_
  refine E_s (p' := 275) (st' := aI 0 :: _) rfl rfl ?_
  refine E_s (p' := 282) rfl rfl ?_
  refine E_s (p' := 283) (st' := aI 0 :: _) rfl rfl ?_
  refine E_ret rfl rfl ?_
  refine E_s (p' := 27) rfl rfl ?_
  refine E_s (p' := 28) (st' := aI (-1) :: _) rfl rfl ?_
  refine E_ret rfl rfl ?_
  refine E_s (p' := 1174) rfl rfl ?_
  refine E_s (p' := 1177) (L' := [some (aA 0), some (aA 1), some (aA 124), some (aI 6)]) rfl rfl ?_
  refine E_s (p' := 18) rfl rfl ?_
  refine E_s (p' := 19) (st' := aI 6 :: _) rfl rfl ?_
  refine E_s (p' := 20) (st' := aA 0 :: _) rfl rfl ?_
  refine E_s (p' := 21) (st' := aI 6 :: _) rfl rfl ?_
  refine E_s (p' := 23) (st' := aI 6 :: _) rfl rfl ?_
  refine E_s (p' := 24) (st' := aI 0 :: _) rfl rfl ?_
  refine E_s (p' := 1180) rfl rfl ?_
  refine E_s (p' := 1181) (st' := aI 1 :: _) rfl rfl ?_
  exact E_ret rfl rfl ⟨rfl, rfl⟩
set_option maxRecDepth 100000 in
set_option maxHeartbeats 40000000 in
theorem pc_11_o (xs : Nat → Int) {z a1 a2 a3 a4 a5 : Int} (hz : b32 (fun a b => a &&& b) z 31 = 11) (h0 : xs 0 = z) (h1 : xs 1 = a1) (h2 : xs 2 = a2) (h3 : xs 3 = a3) (h4 : xs 4 = a4) (h5 : xs 5 = a5) (hr : a1 < 0 ∨ 3 < a1) : E 0 18 LL [] (s0 xs 6) PQ := by
  refine E_s (p' := 19) (st' := aI 0 :: _) rfl rfl ?_
  refine E_s (p' := 20) (st' := aA 0 :: _) rfl rfl ?_
  refine E_s (p' := 21) (st' := aI 6 :: _) rfl rfl ?_
  refine E_s (p' := 23) (st' := aI 6 :: _) rfl rfl ?_
  refine E_s (p' := 24) (st' := aI 0 :: _) rfl rfl ?_
  refine E_s (p' := 27) rfl rfl ?_
  refine E_s (p' := 28) (st' := aA 0 :: _) rfl rfl ?_
  refine E_s (p' := 29) (st' := aI 0 :: _) rfl rfl ?_
  refine E_scr rfl rfl h0 ?_
  refine E_s (p' := 32) (st' := aI 31 :: _) rfl rfl ?_
  refine E_s (p' := 33) rfl rfl ?_
  refine E_val hz ?_
  refine E_s (p' := 643) rfl rfl ?_
  refine E_s (p' := 644) (st' := aA 1 :: _) rfl rfl ?_
  refine E_s (p' := 645) (st' := aA 0 :: _) rfl rfl ?_
  refine E_s (p' := 646) (st' := aI 0 :: _) rfl rfl ?_
  refine E_s (p' := 647) (st' := aI 1 :: _) rfl rfl ?_
  refine E_s (p' := 648) (st' := aI 1 :: _) rfl rfl ?_
  refine E_scr rfl rfl h1 ?_
  refine E_callL (p' := 652) (L0 := [some (aA 1), some (aI a1), none]) rfl rfl rfl ?_
  refine E_s (p' := 1) (st' := aA 1 :: _) rfl rfl ?_
  refine E_s (p' := 2) rfl rfl ?_
  refine E_callL (p' := 5) (L0 := [some (aA 1), some (aI a1), none]) rfl rfl rfl ?_
  refine E_s (p' := 1) (st' := aA 1 :: _) rfl rfl ?_
  refine E_s (p' := 2) rfl rfl ?_
  refine E_callL (p' := 5) (L0 := [some (aA 1), some (aI a1)]) rfl rfl rfl ?_
  refine E_s (p' := 1) rfl rfl ?_
  refine E_if_lt rfl (by decide) (fun _ => ?_) (fun _ => ?_)
  · refine E_s (p' := 19) rfl rfl ?_
    refine E_ret rfl rfl ?_
    refine E_s (p' := 6) (L' := [some (aA 1), some (aI a1), some aN]) rfl rfl ?_
    refine E_s (p' := 7) rfl rfl ?_
    refine E_s (p' := 15) rfl rfl ?_
    refine E_s (p' := 16) rfl rfl ?_
    refine E_ret rfl rfl ?_
    refine E_s (p' := 6) (L' := [some (aA 1), some (aI a1), some aN]) rfl rfl ?_
    refine E_s (p' := 7) rfl rfl ?_
    refine E_s (p' := 10) rfl rfl ?_
    refine E_s (p' := 12) (st' := aI (-2) :: _) rfl rfl ?_
    refine E_ret rfl rfl ?_
    refine E_s (p' := 653) (st' := aA 124 :: _) rfl rfl ?_
    refine E_s (p' := 654) (st' := aA 0 :: _) rfl rfl ?_
    refine E_s (p' := 655) (st' := aI 0 :: _) rfl rfl ?_
    refine E_s (p' := 656) (st' := aI 1 :: _) rfl rfl ?_
    refine E_s (p' := 657) (st' := aI 1 :: _) rfl rfl ?_
    refine E_scr rfl rfl h1 ?_
    refine E_callL (p' := 661) (L0 := [some (aA 124), some (aI a1)]) rfl rfl rfl ?_
    refine E_s (p' := 1) rfl rfl ?_
    refine E_callL (p' := 4) (L0 := [some (aI a1)]) rfl rfl rfl ?_
    refine E_s (p' := 1) rfl rfl ?_
    refine E_s (p' := 2) (st' := aI 0 :: _) rfl rfl ?_
    refine E_s (p' := 3) (st' := aI 3 :: _) rfl rfl ?_
    refine E_callL (p' := 6) (L0 := [some (aI a1), some (aI 0), some (aI 3)]) rfl rfl rfl ?_
    refine E_s (p' := 1) rfl rfl ?_
    refine E_s (p' := 2) (st' := aI 0 :: _) rfl rfl ?_
    refine E_icmp_lt (y := 0) rfl (by decide) (fun _ => ?_) (fun q => absurd q (by omega))
    refine E_s (p' := 15) (st' := aI 0 :: _) rfl rfl ?_
    refine E_ret rfl rfl ?_
    refine E_ret rfl rfl ?_
    refine E_s (p' := 7) rfl rfl ?_
    refine E_s (p' := 9) (st' := aI (-2) :: _) rfl rfl ?_
    refine E_s (p' := 28) rfl rfl ?_
    refine E_ret rfl rfl ?_
    refine E_s (p' := 1174) rfl rfl ?_
    refine E_s (p' := 1177) (L' := [some (aA 0), some (aA 1), some (aA 124), some (aI 6)]) rfl rfl ?_
    refine E_s (p' := 18) rfl rfl ?_
    refine E_s (p' := 19) (st' := aI 6 :: _) rfl rfl ?_
    refine E_s (p' := 20) (st' := aA 0 :: _) rfl rfl ?_
    refine E_s (p' := 21) (st' := aI 6 :: _) rfl rfl ?_
    refine E_s (p' := 23) (st' := aI 6 :: _) rfl rfl ?_
    refine E_s (p' := 24) (st' := aI 0 :: _) rfl rfl ?_
    refine E_s (p' := 1180) rfl rfl ?_
    refine E_s (p' := 1181) (st' := aI 1 :: _) rfl rfl ?_
    exact E_ret rfl rfl ⟨rfl, rfl⟩
  · refine E_s (p' := 5) rfl rfl ?_
    refine E_s (p' := 6) (st' := aI 4 :: _) rfl rfl ?_
    refine E_icmp_ge (y := 4) rfl (by decide) (fun _ => ?_) (fun q => absurd q (by omega))
    refine E_s (p' := 19) rfl rfl ?_
    refine E_ret rfl rfl ?_
    refine E_s (p' := 6) (L' := [some (aA 1), some (aI a1), some aN]) rfl rfl ?_
    refine E_s (p' := 7) rfl rfl ?_
    refine E_s (p' := 15) rfl rfl ?_
    refine E_s (p' := 16) rfl rfl ?_
    refine E_ret rfl rfl ?_
    refine E_s (p' := 6) (L' := [some (aA 1), some (aI a1), some aN]) rfl rfl ?_
    refine E_s (p' := 7) rfl rfl ?_
    refine E_s (p' := 10) rfl rfl ?_
    refine E_s (p' := 12) (st' := aI (-2) :: _) rfl rfl ?_
    refine E_ret rfl rfl ?_
    refine E_s (p' := 653) (st' := aA 124 :: _) rfl rfl ?_
    refine E_s (p' := 654) (st' := aA 0 :: _) rfl rfl ?_
    refine E_s (p' := 655) (st' := aI 0 :: _) rfl rfl ?_
    refine E_s (p' := 656) (st' := aI 1 :: _) rfl rfl ?_
    refine E_s (p' := 657) (st' := aI 1 :: _) rfl rfl ?_
    refine E_scr rfl rfl h1 ?_
    refine E_callL (p' := 661) (L0 := [some (aA 124), some (aI a1)]) rfl rfl rfl ?_
    refine E_s (p' := 1) rfl rfl ?_
    refine E_callL (p' := 4) (L0 := [some (aI a1)]) rfl rfl rfl ?_
    refine E_s (p' := 1) rfl rfl ?_
    refine E_s (p' := 2) (st' := aI 0 :: _) rfl rfl ?_
    refine E_s (p' := 3) (st' := aI 3 :: _) rfl rfl ?_
    refine E_callL (p' := 6) (L0 := [some (aI a1), some (aI 0), some (aI 3)]) rfl rfl rfl ?_
    refine E_s (p' := 1) rfl rfl ?_
    refine E_s (p' := 2) (st' := aI 0 :: _) rfl rfl ?_
    refine E_icmp_lt (y := 0) rfl (by decide) (fun q => absurd q (by omega)) (fun _ => ?_)
    refine E_s (p' := 6) rfl rfl ?_
    refine E_s (p' := 7) (st' := aI 3 :: _) rfl rfl ?_
    refine E_icmp_gt (y := 3) rfl (by decide) (fun _ => ?_) (fun q => absurd q (by omega))
    refine E_s (p' := 15) (st' := aI 0 :: _) rfl rfl ?_
    refine E_ret rfl rfl ?_
    refine E_ret rfl rfl ?_
    refine E_s (p' := 7) rfl rfl ?_
    refine E_s (p' := 9) (st' := aI (-2) :: _) rfl rfl ?_
    refine E_s (p' := 28) rfl rfl ?_
    refine E_ret rfl rfl ?_
    refine E_s (p' := 1174) rfl rfl ?_
    refine E_s (p' := 1177) (L' := [some (aA 0), some (aA 1), some (aA 124), some (aI 6)]) rfl rfl ?_
    refine E_s (p' := 18) rfl rfl ?_
    refine E_s (p' := 19) (st' := aI 6 :: _) rfl rfl ?_
    refine E_s (p' := 20) (st' := aA 0 :: _) rfl rfl ?_
    refine E_s (p' := 21) (st' := aI 6 :: _) rfl rfl ?_
    refine E_s (p' := 23) (st' := aI 6 :: _) rfl rfl ?_
    refine E_s (p' := 24) (st' := aI 0 :: _) rfl rfl ?_
    refine E_s (p' := 1180) rfl rfl ?_
    refine E_s (p' := 1181) (st' := aI 1 :: _) rfl rfl ?_
    exact E_ret rfl rfl ⟨rfl, rfl⟩
set_option maxRecDepth 100000 in
set_option maxHeartbeats 40000000 in
theorem pc_12_0 (xs : Nat → Int) {z a2 a3 a4 a5 : Int} (hz : b32 (fun a b => a &&& b) z 31 = 12) (h0 : xs 0 = z) (h1 : xs 1 = 0) (h2 : xs 2 = a2) (h3 : xs 3 = a3) (h4 : xs 4 = a4) (h5 : xs 5 = a5) : E 0 18 LL [] (s0 xs 6) PQ := by
  refine E_s (p' := 19) (st' := aI 0 :: _) rfl rfl ?_
  refine E_s (p' := 20) (st' := aA 0 :: _) rfl rfl ?_
  refine E_s (p' := 21) (st' := aI 6 :: _) rfl rfl ?_
  refine E_s (p' := 23) (st' := aI 6 :: _) rfl rfl ?_
  refine E_s (p' := 24) (st' := aI 0 :: _) rfl rfl ?_
  refine E_s (p' := 27) rfl rfl ?_
  refine E_s (p' := 28) (st' := aA 0 :: _) rfl rfl ?_
  refine E_s (p' := 29) (st' := aI 0 :: _) rfl rfl ?_
  refine E_scr rfl rfl h0 ?_
  refine E_s (p' := 32) (st' := aI 31 :: _) rfl rfl ?_
  refine E_s (p' := 33) rfl rfl ?_
  refine E_val hz ?_
  refine E_s (p' := 666) rfl rfl ?_
  refine E_s (p' := 667) (st' := aA 1 :: _) rfl rfl ?_
  refine E_s (p' := 668) (st' := aA 0 :: _) rfl rfl ?_
  refine E_s (p' := 669) (st' := aI 0 :: _) rfl rfl ?_
  refine E_s (p' := 670) (st' := aI 1 :: _) rfl rfl ?_
  refine E_s (p' := 671) (st' := aI 1 :: _) rfl rfl ?_
  refine E_scr rfl rfl h1 ?_
  refine E_s (p' := 673) (st' := aA 0 :: _) rfl rfl ?_
  refine E_s (p' := 674) (st' := aI 0 :: _) rfl rfl ?_
  refine E_s (p' := 675) (st' := aI 2 :: _) rfl rfl ?_
  refine E_s (p' := 676) (st' := aI 2 :: _) rfl rfl ?_
  refine E_scr rfl rfl h2 ?_
  refine E_s (p' := 678) (st' := aA 0 :: _) rfl rfl ?_
  refine E_s (p' := 679) (st' := aI 0 :: _) rfl rfl ?_
  refine E_s (p' := 680) (st' := aI 3 :: _) rfl rfl ?_
  refine E_s (p' := 681) (st' := aI 3 :: _) rfl rfl ?_
  refine E_scr rfl rfl h3 ?_
  refine E_callL (p' := 685) (L0 := [some (aA 1), some (aI 0), some (aI a2), some (aI a3), none, none]) rfl rfl rfl ?_
  refine E_s (p' := 1) (st' := aA 1 :: _) rfl rfl ?_
  refine E_s (p' := 2) (st' := aI 0 :: _) rfl rfl ?_
  refine E_callL (p' := 5) (L0 := [some (aA 1), some (aI 0), none]) rfl rfl rfl ?_
  refine E_s (p' := 1) (st' := aA 1 :: _) rfl rfl ?_
  refine E_s (p' := 2) (st' := aI 0 :: _) rfl rfl ?_
  refine E_callL (p' := 5) (L0 := [some (aA 1), some (aI 0)]) rfl rfl rfl ?_
  refine E_s (p' := 1) (st' := aI 0 :: _) rfl rfl ?_
  refine E_s (p' := 4) rfl rfl ?_
  refine E_s (p' := 5) (st' := aI 0 :: _) rfl rfl ?_
  refine E_s (p' := 6) (st' := aI 4 :: _) rfl rfl ?_
  refine E_s (p' := 9) rfl rfl ?_
  refine E_s (p' := 10) (st' := aA 1 :: _) rfl rfl ?_
  refine E_s (p' := 13) (st' := aA 2 :: _) rfl rfl ?_
  refine E_s (p' := 14) (st' := aI 0 :: _) rfl rfl ?_
  refine E_s (p' := 15) (st' := aA 20 :: _) rfl rfl ?_
  refine E_s (p' := 19) rfl rfl ?_
  refine E_ret rfl rfl ?_
  refine E_s (p' := 6) (L' := [some (aA 1), some (aI 0), some (aA 20)]) rfl rfl ?_
  refine E_s (p' := 7) (st' := aA 20 :: _) rfl rfl ?_
  refine E_s (p' := 10) rfl rfl ?_
  refine E_s (p' := 11) (st' := aA 20 :: _) rfl rfl ?_
  refine E_callL (p' := 14) (L0 := [some (aA 20)]) rfl rfl rfl ?_
  refine E_s (p' := 1) (st' := aA 20 :: _) rfl rfl ?_
  refine E_s (p' := 4) (st' := aI 0 :: _) rfl rfl ?_
  refine E_s (p' := 7) rfl rfl ?_
  refine E_s (p' := 8) (st' := aA 20 :: _) rfl rfl ?_
  refine E_s (p' := 11) (st' := aA 35 :: _) rfl rfl ?_
  refine E_s (p' := 12) (st' := aA 20 :: _) rfl rfl ?_
  refine E_s (p' := 15) (st' := aA 21 :: _) rfl rfl ?_
  refine E_s (p' := 16) (st' := aA 20 :: _) rfl rfl ?_
  refine E_s (p' := 19) (st' := aI 15 :: _) rfl rfl ?_
  refine E_callL (p' := 22) (L0 := [some (aA 35), some (aA 21), some (aI 15), none]) rfl rfl rfl ?_
  refine E_s (p' := 1) (st' := aA 35 :: _) rfl rfl ?_
  refine E_s (p' := 2) (st' := aA 21 :: _) rfl rfl ?_
  refine E_callL (p' := 5) (L0 := [some (aA 35), some (aA 21), none, none]) rfl rfl rfl ?_
  refine E_s (p' := 1) (st' := aA 35 :: _) rfl rfl ?_
  refine E_s (p' := 4) (st' := aA 44 :: _) rfl rfl ?_
  refine E_s (p' := 5) (st' := aI 0 :: _) rfl rfl ?_
  refine E_call rfl rfl ?_
  refine c_fill rfl rfl ?_
  refine E_s (p' := 9) (st' := aA 35 :: _) rfl rfl ?_
  refine E_s (p' := 12) (st' := aA 40 :: _) rfl rfl ?_
  refine E_s (p' := 13) (st' := aI 0 :: _) rfl rfl ?_
  refine E_call rfl rfl ?_
  refine c_fill rfl rfl ?_
  refine E_s (p' := 17) (st' := aA 35 :: _) rfl rfl ?_
  refine E_s (p' := 18) (st' := aI 0 :: _) rfl rfl ?_
  refine E_stM (p' := 21) (m' := up2 _ 35 10 0) rfl rfl ?_
  refine E_s (p' := 22) (st' := aA 35 :: _) rfl rfl ?_
  refine E_s (p' := 23) (st' := aI 0 :: _) rfl rfl ?_
  refine E_stM (p' := 26) (m' := up2 _ 35 11 0) rfl rfl ?_
  refine E_s (p' := 27) (st' := aI 0 :: _) rfl rfl ?_
  refine E_s (p' := 28) (L' := [some (aA 35), some (aA 21), some (aI 0), none]) rfl rfl ?_
  refine E_s (p' := 29) (st' := aI 0 :: _) rfl rfl ?_
  refine E_s (p' := 30) (st' := aA 21 :: _) rfl rfl ?_
  refine E_s (p' := 33) (st' := aI 0 :: _) rfl rfl ?_
  refine E_s (p' := 135) rfl rfl ?_
  refine E_ret rfl rfl ?_
  refine E_s (p' := 6) (st' := aA 35 :: _) rfl rfl ?_
  refine E_s (p' := 7) (st' := aI 15 :: _) rfl rfl ?_
  refine E_callL (p' := 10) (L0 := [some (aA 35), some (aI 15), none]) rfl rfl rfl ?_
  refine E_s (p' := 1) (st' := aA 35 :: _) rfl rfl ?_
  refine E_s (p' := 2) (st' := aI 0 :: _) rfl rfl ?_
  refine E_stM (p' := 5) (m' := up2 _ 35 12 0) rfl rfl ?_
  refine E_s (p' := 6) (st' := aI 1 :: _) rfl rfl ?_
  refine E_s (p' := 7) (L' := [some (aA 35), some (aI 15), some (aI 1)]) rfl rfl ?_
  refine fl_loop (gp := 0) (by decide) _ 600 1 _ rfl (fun j hj => show (if 0 ≤ j ∧ j < 601 then (0 : Int) else _) = 0 from if_pos ⟨Nat.zero_le _, hj⟩) ?_
  refine E_s (p' := 11) (st' := aA 35 :: _) rfl rfl ?_
  refine E_s (p' := 14) (st' := aI 0 :: _) rfl rfl ?_
  refine E_s (p' := 17) rfl rfl ?_
  refine E_s (p' := 18) (st' := aA 35 :: _) rfl rfl ?_
  refine E_callL (p' := 21) (L0 := [some (aA 35)]) rfl rfl rfl ?_
  refine E_s (p' := 1) (st' := aA 35 :: _) rfl rfl ?_
  refine E_s (p' := 4) (st' := aA 41 :: _) rfl rfl ?_
  refine E_s (p' := 5) (st' := aA 35 :: _) rfl rfl ?_
  refine E_s (p' := 8) (st' := aI 0 :: _) rfl rfl ?_
  refine E_s (p' := 15) rfl rfl ?_
  refine E_s (p' := 16) (st' := aI 0 :: _) rfl rfl ?_
  refine E_call rfl rfl ?_
  refine c_fill rfl rfl ?_
  refine E_s (p' := 20) (st' := aA 35 :: _) rfl rfl ?_
  refine E_s (p' := 23) (st' := aA 42 :: _) rfl rfl ?_
  refine E_s (p' := 24) (st' := aI 0 :: _) rfl rfl ?_
  refine E_call rfl rfl ?_
  refine c_fill rfl rfl ?_
  refine E_s (p' := 28) (st' := aA 35 :: _) rfl rfl ?_
  refine E_s (p' := 31) (st' := aA 43 :: _) rfl rfl ?_
  refine E_s (p' := 32) (st' := aI 0 :: _) rfl rfl ?_
  refine E_call rfl rfl ?_
  refine c_fill rfl rfl ?_
  refine E_ret rfl rfl ?_
  refine E_ret rfl rfl ?_
  refine E_s (p' := 23) (st' := aA 20 :: _) rfl rfl ?_
  refine E_s (p' := 24) (st' := aI 1 :: _) rfl rfl ?_
  refine E_stM (p' := 27) (m' := up2 _ 20 7 1) rfl rfl ?_
  refine E_s (p' := 28) (st' := aA 20 :: _) rfl rfl ?_
  refine E_s (p' := 31) (st' := aA 35 :: _) rfl rfl ?_
  refine E_ret rfl rfl ?_
  refine E_s (p' := 15) rfl rfl ?_
  refine E_s (p' := 16) (st' := aA 20 :: _) rfl rfl ?_
  refine E_ret rfl rfl ?_
  refine E_s (p' := 7) (L' := [some (aA 1), some (aI 0), some (aI a2), some (aI a3), some (aA 20), none]) rfl rfl ?_
  refine E_s (p' := 9) (st' := aA 20 :: _) rfl rfl ?_
  refine E_s (p' := 12) rfl rfl ?_
  refine E_s (p' := 13) rfl rfl ?_
  refine E_if_lt rfl (by decide) (fun _ => ?_) (fun _ => ?_)
  · refine E_s (p' := 29) (st' := aI (-1) :: _) rfl rfl ?_
    refine E_ret rfl rfl ?_
    refine E_s (p' := 686) (st' := aA 124 :: _) rfl rfl ?_
    refine E_s (p' := 687) (st' := aA 0 :: _) rfl rfl ?_
    refine E_s (p' := 688) (st' := aI 0 :: _) rfl rfl ?_
    refine E_s (p' := 689) (st' := aI 1 :: _) rfl rfl ?_
    refine E_s (p' := 690) (st' := aI 1 :: _) rfl rfl ?_
    refine E_scr rfl rfl h1 ?_
    refine E_s (p' := 692) (st' := aA 0 :: _) rfl rfl ?_
    refine E_s (p' := 693) (st' := aI 0 :: _) rfl rfl ?_
    refine E_s (p' := 694) (st' := aI 2 :: _) rfl rfl ?_
    refine E_s (p' := 695) (st' := aI 2 :: _) rfl rfl ?_
    refine E_scr rfl rfl h2 ?_
    refine E_s (p' := 697) (st' := aA 0 :: _) rfl rfl ?_
    refine E_s (p' := 698) (st' := aI 0 :: _) rfl rfl ?_
    refine E_s (p' := 699) (st' := aI 3 :: _) rfl rfl ?_
    refine E_s (p' := 700) (st' := aI 3 :: _) rfl rfl ?_
    refine E_scr rfl rfl h3 ?_
    refine E_callL (p' := 704) (L0 := [some (aA 124), some (aI 0), some (aI a2), some (aI a3)]) rfl rfl rfl ?_
    refine E_s (p' := 1) (st' := aI 0 :: _) rfl rfl ?_
    refine E_callL (p' := 4) (L0 := [some (aI 0)]) rfl rfl rfl ?_
    refine E_s (p' := 1) (st' := aI 0 :: _) rfl rfl ?_
    refine E_s (p' := 2) (st' := aI 0 :: _) rfl rfl ?_
    refine E_s (p' := 3) (st' := aI 3 :: _) rfl rfl ?_
    refine E_callL (p' := 6) (L0 := [some (aI 0), some (aI 0), some (aI 3)]) rfl rfl rfl ?_
    refine E_s (p' := 1) (st' := aI 0 :: _) rfl rfl ?_
    refine E_s (p' := 2) (st' := aI 0 :: _) rfl rfl ?_
    refine E_s (p' := 5) rfl rfl ?_
    refine E_s (p' := 6) (st' := aI 0 :: _) rfl rfl ?_
    refine E_s (p' := 7) (st' := aI 3 :: _) rfl rfl ?_
    refine E_s (p' := 10) rfl rfl ?_
    refine E_s (p' := 11) (st' := aI 1 :: _) rfl rfl ?_
    refine E_s (p' := 15) rfl rfl ?_
    refine E_ret rfl rfl ?_
    refine E_ret rfl rfl ?_
    refine E_s (p' := 7) rfl rfl ?_
    refine E_s (p' := 8) (st' := aA 124 :: _) rfl rfl ?_
    refine E_s (p' := 9) (st' := aI 0 :: _) rfl rfl ?_
    refine E_callL (p' := 12) (L0 := [some (aA 124), some (aI 0), none, none]) rfl rfl rfl ?_
    refine E_s (p' := 1) (st' := aI 0 :: _) rfl rfl ?_
    refine E_s (p' := 2) (L' := [some (aA 124), some (aI 0), some (aI 0), none]) rfl rfl ?_
    refine mr_loop1 _ 601 0 _ rfl ?_
    refine E_s (p' := 23) (st' := aA 124 :: _) rfl rfl ?_
    refine E_s (p' := 24) (st' := aI 0 :: _) rfl rfl ?_
    refine E_stM (p' := 27) (m' := up2 _ 124 25 0) rfl rfl ?_
    refine E_s (p' := 28) (st' := aA 124 :: _) rfl rfl ?_
    refine E_s (p' := 29) (st' := aI 0 :: _) rfl rfl ?_
    refine E_stM (p' := 32) (m' := up2 _ 124 26 0) rfl rfl ?_
    refine E_s (p' := 33) (st' := aI 0 :: _) rfl rfl ?_
    refine E_s (p' := 34) (L' := [some (aA 124), some (aI 0), some (aI 0), none]) rfl rfl ?_
    refine E_s (p' := 35) (st' := aI 0 :: _) rfl rfl ?_
    refine E_s (p' := 36) (st' := aA 124 :: _) rfl rfl ?_
    refine E_s (p' := 39) (st' := aA 125 :: _) rfl rfl ?_
    refine E_s (p' := 40) (st' := aI 0 :: _) rfl rfl ?_
    refine E_s (p' := 41) (st' := aI 0 :: _) rfl rfl ?_
    refine E_s (p' := 121) rfl rfl ?_
    refine E_s (p' := 122) (st' := aA 124 :: _) rfl rfl ?_
    refine E_s (p' := 123) (st' := aI 0 :: _) rfl rfl ?_
    refine E_stM (p' := 126) (m' := up2 _ 124 24 0) rfl rfl ?_
    refine E_s (p' := 127) (st' := aI 0 :: _) rfl rfl ?_
    refine E_s (p' := 128) (L' := [some (aA 124), some (aI 0), some (aI 0), none]) rfl rfl ?_
    refine mr_loop3 _ 601 0 _ rfl (fun j hj => show (if 0 ≤ j ∧ j < 601 then (0 : Int) else _) = 0 from if_pos ⟨Nat.zero_le _, hj⟩) ?_
    refine E_s (p' := 245) (st' := aA 124 :: _) rfl rfl ?_
    refine E_s (p' := 248) (st' := aI 0 :: _) rfl rfl ?_
    refine E_s (p' := 249) (st' := aA 124 :: _) rfl rfl ?_
    refine E_s (p' := 252) (st' := aI 0 :: _) rfl rfl ?_
    refine E_s (p' := 259) rfl rfl ?_
    refine E_s (p' := 260) (st' := aI 1 :: _) rfl rfl ?_
    refine E_s (p' := 261) (st' := aI 1 :: _) rfl rfl ?_
    refine E_s (p' := 263) (st' := aI 6 :: _) rfl rfl ?_
    refine E_s (p' := 271) rfl rfl ?_
    refine E_s (p' := 272) (st' := aA 124 :: _) rfl rfl ?_
    refine E_s (p' := 275) (st' := aI 0 :: _) rfl rfl ?_
    refine E_s (p' := 282) rfl rfl ?_
    refine E_s (p' := 283) (st' := aI 0 :: _) rfl rfl ?_
    refine E_ret rfl rfl ?_
    refine E_s (p' := 29) rfl rfl ?_
    refine E_s (p' := 30) (st' := aI (-1) :: _) rfl rfl ?_
    refine E_ret rfl rfl ?_
    refine E_s (p' := 1174) rfl rfl ?_
    refine E_s (p' := 1177) (L' := [some (aA 0), some (aA 1), some (aA 124), some (aI 6)]) rfl rfl ?_
    refine E_s (p' := 18) rfl rfl ?_
    refine E_s (p' := 19) (st' := aI 6 :: _) rfl rfl ?_
    refine E_s (p' := 20) (st' := aA 0 :: _) rfl rfl ?_
    refine E_s (p' := 21) (st' := aI 6 :: _) rfl rfl ?_
    refine E_s (p' := 23) (st' := aI 6 :: _) rfl rfl ?_
    refine E_s (p' := 24) (st' := aI 0 :: _) rfl rfl ?_
    refine E_s (p' := 1180) rfl rfl ?_
    refine E_s (p' := 1181) (st' := aI 1 :: _) rfl rfl ?_
    exact E_ret rfl rfl ⟨rfl, rfl⟩
  · refine E_s (p' := 17) rfl rfl ?_
    refine E_s (p' := 19) (st' := aA 20 :: _) rfl rfl ?_
    refine E_s (p' := 22) (st' := aA 35 :: _) rfl rfl ?_
    refine E_s (p' := 25) (st' := aI 0 :: _) rfl rfl ?_
    refine E_icmp_lt (y := 0) rfl (by decide) (fun q => absurd q (by omega)) (fun _ => ?_)
    refine E_s (p' := 29) (st' := aI (-1) :: _) rfl rfl ?_
    refine E_ret rfl rfl ?_
    refine E_s (p' := 686) (st' := aA 124 :: _) rfl rfl ?_
    refine E_s (p' := 687) (st' := aA 0 :: _) rfl rfl ?_
    refine E_s (p' := 688) (st' := aI 0 :: _) rfl rfl ?_
    refine E_s (p' := 689) (st' := aI 1 :: _) rfl rfl ?_
    refine E_s (p' := 690) (st' := aI 1 :: _) rfl rfl ?_
    refine E_scr rfl rfl h1 ?_
    refine E_s (p' := 692) (st' := aA 0 :: _) rfl rfl ?_
    refine E_s (p' := 693) (st' := aI 0 :: _) rfl rfl ?_
    refine E_s (p' := 694) (st' := aI 2 :: _) rfl rfl ?_
    refine E_s (p' := 695) (st' := aI 2 :: _) rfl rfl ?_
    refine E_scr rfl rfl h2 ?_
    refine E_s (p' := 697) (st' := aA 0 :: _) rfl rfl ?_
    refine E_s (p' := 698) (st' := aI 0 :: _) rfl rfl ?_
    refine E_s (p' := 699) (st' := aI 3 :: _) rfl rfl ?_
    refine E_s (p' := 700) (st' := aI 3 :: _) rfl rfl ?_
    refine E_scr rfl rfl h3 ?_
    refine E_callL (p' := 704) (L0 := [some (aA 124), some (aI 0), some (aI a2), some (aI a3)]) rfl rfl rfl ?_
    refine E_s (p' := 1) (st' := aI 0 :: _) rfl rfl ?_
    refine E_callL (p' := 4) (L0 := [some (aI 0)]) rfl rfl rfl ?_
    refine E_s (p' := 1) (st' := aI 0 :: _) rfl rfl ?_
    refine E_s (p' := 2) (st' := aI 0 :: _) rfl rfl ?_
    refine E_s (p' := 3) (st' := aI 3 :: _) rfl rfl ?_
    refine E_callL (p' := 6) (L0 := [some (aI 0), some (aI 0), some (aI 3)]) rfl rfl rfl ?_
    refine E_s (p' := 1) (st' := aI 0 :: _) rfl rfl ?_
    refine E_s (p' := 2) (st' := aI 0 :: _) rfl rfl ?_
    refine E_s (p' := 5) rfl rfl ?_
    refine E_s (p' := 6) (st' := aI 0 :: _) rfl rfl ?_
    refine E_s (p' := 7) (st' := aI 3 :: _) rfl rfl ?_
    refine E_s (p' := 10) rfl rfl ?_
    refine E_s (p' := 11) (st' := aI 1 :: _) rfl rfl ?_
    refine E_s (p' := 15) rfl rfl ?_
    refine E_ret rfl rfl ?_
    refine E_ret rfl rfl ?_
    refine E_s (p' := 7) rfl rfl ?_
    refine E_s (p' := 8) (st' := aA 124 :: _) rfl rfl ?_
    refine E_s (p' := 9) (st' := aI 0 :: _) rfl rfl ?_
    refine E_callL (p' := 12) (L0 := [some (aA 124), some (aI 0), none, none]) rfl rfl rfl ?_
    refine E_s (p' := 1) (st' := aI 0 :: _) rfl rfl ?_
    refine E_s (p' := 2) (L' := [some (aA 124), some (aI 0), some (aI 0), none]) rfl rfl ?_
    refine mr_loop1 _ 601 0 _ rfl ?_
    refine E_s (p' := 23) (st' := aA 124 :: _) rfl rfl ?_
    refine E_s (p' := 24) (st' := aI 0 :: _) rfl rfl ?_
    refine E_stM (p' := 27) (m' := up2 _ 124 25 0) rfl rfl ?_
    refine E_s (p' := 28) (st' := aA 124 :: _) rfl rfl ?_
    refine E_s (p' := 29) (st' := aI 0 :: _) rfl rfl ?_
    refine E_stM (p' := 32) (m' := up2 _ 124 26 0) rfl rfl ?_
    refine E_s (p' := 33) (st' := aI 0 :: _) rfl rfl ?_
    refine E_s (p' := 34) (L' := [some (aA 124), some (aI 0), some (aI 0), none]) rfl rfl ?_
    refine E_s (p' := 35) (st' := aI 0 :: _) rfl rfl ?_
    refine E_s (p' := 36) (st' := aA 124 :: _) rfl rfl ?_
    refine E_s (p' := 39) (st' := aA 125 :: _) rfl rfl ?_
    refine E_s (p' := 40) (st' := aI 0 :: _) rfl rfl ?_
    refine E_s (p' := 41) (st' := aI 0 :: _) rfl rfl ?_
    refine E_s (p' := 121) rfl rfl ?_
    refine E_s (p' := 122) (st' := aA 124 :: _) rfl rfl ?_
    refine E_s (p' := 123) (st' := aI 0 :: _) rfl rfl ?_
    refine E_stM (p' := 126) (m' := up2 _ 124 24 0) rfl rfl ?_
    refine E_s (p' := 127) (st' := aI 0 :: _) rfl rfl ?_
    refine E_s (p' := 128) (L' := [some (aA 124), some (aI 0), some (aI 0), none]) rfl rfl ?_
    refine mr_loop3 _ 601 0 _ rfl (fun j hj => show (if 0 ≤ j ∧ j < 601 then (0 : Int) else _) = 0 from if_pos ⟨Nat.zero_le _, hj⟩) ?_
    refine E_s (p' := 245) (st' := aA 124 :: _) rfl rfl ?_
    refine E_s (p' := 248) (st' := aI 0 :: _) rfl rfl ?_
    refine E_s (p' := 249) (st' := aA 124 :: _) rfl rfl ?_
    refine E_s (p' := 252) (st' := aI 0 :: _) rfl rfl ?_
    refine E_s (p' := 259) rfl rfl ?_
    refine E_s (p' := 260) (st' := aI 1 :: _) rfl rfl ?_
    refine E_s (p' := 261) (st' := aI 1 :: _) rfl rfl ?_
    refine E_s (p' := 263) (st' := aI 6 :: _) rfl rfl ?_
    refine E_s (p' := 271) rfl rfl ?_
    refine E_s (p' := 272) (st' := aA 124 :: _) rfl rfl ?_
    refine E_s (p' := 275) (st' := aI 0 :: _) rfl rfl ?_
    refine E_s (p' := 282) rfl rfl ?_
    refine E_s (p' := 283) (st' := aI 0 :: _) rfl rfl ?_
    refine E_ret rfl rfl ?_
    refine E_s (p' := 29) rfl rfl ?_
    refine E_s (p' := 30) (st' := aI (-1) :: _) rfl rfl ?_
    refine E_ret rfl rfl ?_
    refine E_s (p' := 1174) rfl rfl ?_
    refine E_s (p' := 1177) (L' := [some (aA 0), some (aA 1), some (aA 124), some (aI 6)]) rfl rfl ?_
    refine E_s (p' := 18) rfl rfl ?_
    refine E_s (p' := 19) (st' := aI 6 :: _) rfl rfl ?_
    refine E_s (p' := 20) (st' := aA 0 :: _) rfl rfl ?_
    refine E_s (p' := 21) (st' := aI 6 :: _) rfl rfl ?_
    refine E_s (p' := 23) (st' := aI 6 :: _) rfl rfl ?_
    refine E_s (p' := 24) (st' := aI 0 :: _) rfl rfl ?_
    refine E_s (p' := 1180) rfl rfl ?_
    refine E_s (p' := 1181) (st' := aI 1 :: _) rfl rfl ?_
    exact E_ret rfl rfl ⟨rfl, rfl⟩
set_option maxRecDepth 100000 in
set_option maxHeartbeats 40000000 in
theorem pc_12_1 (xs : Nat → Int) {z a2 a3 a4 a5 : Int} (hz : b32 (fun a b => a &&& b) z 31 = 12) (h0 : xs 0 = z) (h1 : xs 1 = 1) (h2 : xs 2 = a2) (h3 : xs 3 = a3) (h4 : xs 4 = a4) (h5 : xs 5 = a5) : E 0 18 LL [] (s0 xs 6) PQ := by
  refine E_s (p' := 19) (st' := aI 0 :: _) rfl rfl ?_
  refine E_s (p' := 20) (st' := aA 0 :: _) rfl rfl ?_
  refine E_s (p' := 21) (st' := aI 6 :: _) rfl rfl ?_
  refine E_s (p' := 23) (st' := aI 6 :: _) rfl rfl ?_
  refine E_s (p' := 24) (st' := aI 0 :: _) rfl rfl ?_
  refine E_s (p' := 27) rfl rfl ?_
  refine E_s (p' := 28) (st' := aA 0 :: _) rfl rfl ?_
  refine E_s (p' := 29) (st' := aI 0 :: _) rfl rfl ?_
  refine E_scr rfl rfl h0 ?_
  refine E_s (p' := 32) (st' := aI 31 :: _) rfl rfl ?_
  refine E_s (p' := 33) rfl rfl ?_
  refine E_val hz ?_
  refine E_s (p' := 666) rfl rfl ?_
  refine E_s (p' := 667) (st' := aA 1 :: _) rfl rfl ?_
  refine E_s (p' := 668) (st' := aA 0 :: _) rfl rfl ?_
  refine E_s (p' := 669) (st' := aI 0 :: _) rfl rfl ?_
  refine E_s (p' := 670) (st' := aI 1 :: _) rfl rfl ?_
  refine E_s (p' := 671) (st' := aI 1 :: _) rfl rfl ?_
  refine E_scr rfl rfl h1 ?_
  refine E_s (p' := 673) (st' := aA 0 :: _) rfl rfl ?_
  refine E_s (p' := 674) (st' := aI 0 :: _) rfl rfl ?_
  refine E_s (p' := 675) (st' := aI 2 :: _) rfl rfl ?_
  refine E_s (p' := 676) (st' := aI 2 :: _) rfl rfl ?_
  refine E_scr rfl rfl h2 ?_
  refine E_s (p' := 678) (st' := aA 0 :: _) rfl rfl ?_
  refine E_s (p' := 679) (st' := aI 0 :: _) rfl rfl ?_
  refine E_s (p' := 680) (st' := aI 3 :: _) rfl rfl ?_
  refine E_s (p' := 681) (st' := aI 3 :: _) rfl rfl ?_
  refine E_scr rfl rfl h3 ?_
  refine E_callL (p' := 685) (L0 := [some (aA 1), some (aI 1), some (aI a2), some (aI a3), none, none]) rfl rfl rfl ?_
  refine E_s (p' := 1) (st' := aA 1 :: _) rfl rfl ?_
  refine E_s (p' := 2) (st' := aI 1 :: _) rfl rfl ?_
  refine E_callL (p' := 5) (L0 := [some (aA 1), some (aI 1), none]) rfl rfl rfl ?_
  refine E_s (p' := 1) (st' := aA 1 :: _) rfl rfl ?_
  refine E_s (p' := 2) (st' := aI 1 :: _) rfl rfl ?_
  refine E_callL (p' := 5) (L0 := [some (aA 1), some (aI 1)]) rfl rfl rfl ?_
  refine E_s (p' := 1) (st' := aI 1 :: _) rfl rfl ?_
  refine E_s (p' := 4) rfl rfl ?_
  refine E_s (p' := 5) (st' := aI 1 :: _) rfl rfl ?_
  refine E_s (p' := 6) (st' := aI 4 :: _) rfl rfl ?_
  refine E_s (p' := 9) rfl rfl ?_
  refine E_s (p' := 10) (st' := aA 1 :: _) rfl rfl ?_
  refine E_s (p' := 13) (st' := aA 2 :: _) rfl rfl ?_
  refine E_s (p' := 14) (st' := aI 1 :: _) rfl rfl ?_
  refine E_s (p' := 15) (st' := aA 46 :: _) rfl rfl ?_
  refine E_s (p' := 19) rfl rfl ?_
  refine E_ret rfl rfl ?_
  refine E_s (p' := 6) (L' := [some (aA 1), some (aI 1), some (aA 46)]) rfl rfl ?_
  refine E_s (p' := 7) (st' := aA 46 :: _) rfl rfl ?_
  refine E_s (p' := 10) rfl rfl ?_
  refine E_s (p' := 11) (st' := aA 46 :: _) rfl rfl ?_
  refine E_callL (p' := 14) (L0 := [some (aA 46)]) rfl rfl rfl ?_
  refine E_s (p' := 1) (st' := aA 46 :: _) rfl rfl ?_
  refine E_s (p' := 4) (st' := aI 0 :: _) rfl rfl ?_
  refine E_s (p' := 7) rfl rfl ?_
  refine E_s (p' := 8) (st' := aA 46 :: _) rfl rfl ?_
  refine E_s (p' := 11) (st' := aA 61 :: _) rfl rfl ?_
  refine E_s (p' := 12) (st' := aA 46 :: _) rfl rfl ?_
  refine E_s (p' := 15) (st' := aA 47 :: _) rfl rfl ?_
  refine E_s (p' := 16) (st' := aA 46 :: _) rfl rfl ?_
  refine E_s (p' := 19) (st' := aI 15 :: _) rfl rfl ?_
  refine E_callL (p' := 22) (L0 := [some (aA 61), some (aA 47), some (aI 15), none]) rfl rfl rfl ?_
  refine E_s (p' := 1) (st' := aA 61 :: _) rfl rfl ?_
  refine E_s (p' := 2) (st' := aA 47 :: _) rfl rfl ?_
  refine E_callL (p' := 5) (L0 := [some (aA 61), some (aA 47), none, none]) rfl rfl rfl ?_
  refine E_s (p' := 1) (st' := aA 61 :: _) rfl rfl ?_
  refine E_s (p' := 4) (st' := aA 70 :: _) rfl rfl ?_
  refine E_s (p' := 5) (st' := aI 0 :: _) rfl rfl ?_
  refine E_call rfl rfl ?_
  refine c_fill rfl rfl ?_
  refine E_s (p' := 9) (st' := aA 61 :: _) rfl rfl ?_
  refine E_s (p' := 12) (st' := aA 66 :: _) rfl rfl ?_
  refine E_s (p' := 13) (st' := aI 0 :: _) rfl rfl ?_
  refine E_call rfl rfl ?_
  refine c_fill rfl rfl ?_
  refine E_s (p' := 17) (st' := aA 61 :: _) rfl rfl ?_
  refine E_s (p' := 18) (st' := aI 0 :: _) rfl rfl ?_
  refine E_stM (p' := 21) (m' := up2 _ 61 10 0) rfl rfl ?_
  refine E_s (p' := 22) (st' := aA 61 :: _) rfl rfl ?_
  refine E_s (p' := 23) (st' := aI 0 :: _) rfl rfl ?_
  refine E_stM (p' := 26) (m' := up2 _ 61 11 0) rfl rfl ?_
  refine E_s (p' := 27) (st' := aI 0 :: _) rfl rfl ?_
  refine E_s (p' := 28) (L' := [some (aA 61), some (aA 47), some (aI 0), none]) rfl rfl ?_
  refine E_s (p' := 29) (st' := aI 0 :: _) rfl rfl ?_
  refine E_s (p' := 30) (st' := aA 47 :: _) rfl rfl ?_
  refine E_s (p' := 33) (st' := aI 0 :: _) rfl rfl ?_
  refine E_s (p' := 135) rfl rfl ?_
  refine E_ret rfl rfl ?_
  refine E_s (p' := 6) (st' := aA 61 :: _) rfl rfl ?_
  refine E_s (p' := 7) (st' := aI 15 :: _) rfl rfl ?_
  refine E_callL (p' := 10) (L0 := [some (aA 61), some (aI 15), none]) rfl rfl rfl ?_
  refine E_s (p' := 1) (st' := aA 61 :: _) rfl rfl ?_
  refine E_s (p' := 2) (st' := aI 0 :: _) rfl rfl ?_
  refine E_stM (p' := 5) (m' := up2 _ 61 12 0) rfl rfl ?_
  refine E_s (p' := 6) (st' := aI 1 :: _) rfl rfl ?_
  refine E_s (p' := 7) (L' := [some (aA 61), some (aI 15), some (aI 1)]) rfl rfl ?_
  refine fl_loop (gp := 0) (by decide) _ 600 1 _ rfl (fun j hj => show (if 0 ≤ j ∧ j < 601 then (0 : Int) else _) = 0 from if_pos ⟨Nat.zero_le _, hj⟩) ?_
  refine E_s (p' := 11) (st' := aA 61 :: _) rfl rfl ?_
  refine E_s (p' := 14) (st' := aI 0 :: _) rfl rfl ?_
  refine E_s (p' := 17) rfl rfl ?_
  refine E_s (p' := 18) (st' := aA 61 :: _) rfl rfl ?_
  refine E_callL (p' := 21) (L0 := [some (aA 61)]) rfl rfl rfl ?_
  refine E_s (p' := 1) (st' := aA 61 :: _) rfl rfl ?_
  refine E_s (p' := 4) (st' := aA 67 :: _) rfl rfl ?_
  refine E_s (p' := 5) (st' := aA 61 :: _) rfl rfl ?_
  refine E_s (p' := 8) (st' := aI 0 :: _) rfl rfl ?_
  refine E_s (p' := 15) rfl rfl ?_
  refine E_s (p' := 16) (st' := aI 0 :: _) rfl rfl ?_
  refine E_call rfl rfl ?_
  refine c_fill rfl rfl ?_
  refine E_s (p' := 20) (st' := aA 61 :: _) rfl rfl ?_
  refine E_s (p' := 23) (st' := aA 68 :: _) rfl rfl ?_
  refine E_s (p' := 24) (st' := aI 0 :: _) rfl rfl ?_
  refine E_call rfl rfl ?_
  refine c_fill rfl rfl ?_
  refine E_s (p' := 28) (st' := aA 61 :: _) rfl rfl ?_
  refine E_s (p' := 31) (st' := aA 69 :: _) rfl rfl ?_
  refine E_s (p' := 32) (st' := aI 0 :: _) rfl rfl ?_
  refine E_call rfl rfl ?_
  refine c_fill rfl rfl ?_
  refine E_ret rfl rfl ?_
  refine E_ret rfl rfl ?_
  refine E_s (p' := 23) (st' := aA 46 :: _) rfl rfl ?_
  refine E_s (p' := 24) (st' := aI 1 :: _) rfl rfl ?_
  refine E_stM (p' := 27) (m' := up2 _ 46 7 1) rfl rfl ?_
  refine E_s (p' := 28) (st' := aA 46 :: _) rfl rfl ?_
  refine E_s (p' := 31) (st' := aA 61 :: _) rfl rfl ?_
  refine E_ret rfl rfl ?_
  refine E_s (p' := 15) rfl rfl ?_
  refine E_s (p' := 16) (st' := aA 46 :: _) rfl rfl ?_
  refine E_ret rfl rfl ?_
  refine E_s (p' := 7) (L' := [some (aA 1), some (aI 1), some (aI a2), some (aI a3), some (aA 46), none]) rfl rfl ?_
  refine E_s (p' := 9) (st' := aA 46 :: _) rfl rfl ?_
  refine E_s (p' := 12) rfl rfl ?_
  refine E_s (p' := 13) rfl rfl ?_
  refine E_if_lt rfl (by decide) (fun _ => ?_) (fun _ => ?_)
  · refine E_s (p' := 29) (st' := aI (-1) :: _) rfl rfl ?_
    refine E_ret rfl rfl ?_
    refine E_s (p' := 686) (st' := aA 124 :: _) rfl rfl ?_
    refine E_s (p' := 687) (st' := aA 0 :: _) rfl rfl ?_
    refine E_s (p' := 688) (st' := aI 0 :: _) rfl rfl ?_
    refine E_s (p' := 689) (st' := aI 1 :: _) rfl rfl ?_
    refine E_s (p' := 690) (st' := aI 1 :: _) rfl rfl ?_
    refine E_scr rfl rfl h1 ?_
    refine E_s (p' := 692) (st' := aA 0 :: _) rfl rfl ?_
    refine E_s (p' := 693) (st' := aI 0 :: _) rfl rfl ?_
    refine E_s (p' := 694) (st' := aI 2 :: _) rfl rfl ?_
    refine E_s (p' := 695) (st' := aI 2 :: _) rfl rfl ?_
    refine E_scr rfl rfl h2 ?_
    refine E_s (p' := 697) (st' := aA 0 :: _) rfl rfl ?_
    refine E_s (p' := 698) (st' := aI 0 :: _) rfl rfl ?_
    refine E_s (p' := 699) (st' := aI 3 :: _) rfl rfl ?_
    refine E_s (p' := 700) (st' := aI 3 :: _) rfl rfl ?_
    refine E_scr rfl rfl h3 ?_
    refine E_callL (p' := 704) (L0 := [some (aA 124), some (aI 1), some (aI a2), some (aI a3)]) rfl rfl rfl ?_
    refine E_s (p' := 1) (st' := aI 1 :: _) rfl rfl ?_
    refine E_callL (p' := 4) (L0 := [some (aI 1)]) rfl rfl rfl ?_
    refine E_s (p' := 1) (st' := aI 1 :: _) rfl rfl ?_
    refine E_s (p' := 2) (st' := aI 0 :: _) rfl rfl ?_
    refine E_s (p' := 3) (st' := aI 3 :: _) rfl rfl ?_
    refine E_callL (p' := 6) (L0 := [some (aI 1), some (aI 0), some (aI 3)]) rfl rfl rfl ?_
    refine E_s (p' := 1) (st' := aI 1 :: _) rfl rfl ?_
    refine E_s (p' := 2) (st' := aI 0 :: _) rfl rfl ?_
    refine E_s (p' := 5) rfl rfl ?_
    refine E_s (p' := 6) (st' := aI 1 :: _) rfl rfl ?_
    refine E_s (p' := 7) (st' := aI 3 :: _) rfl rfl ?_
    refine E_s (p' := 10) rfl rfl ?_
    refine E_s (p' := 11) (st' := aI 1 :: _) rfl rfl ?_
    refine E_s (p' := 15) rfl rfl ?_
    refine E_ret rfl rfl ?_
    refine E_ret rfl rfl ?_
    refine E_s (p' := 7) rfl rfl ?_
    refine E_s (p' := 8) (st' := aA 124 :: _) rfl rfl ?_
    refine E_s (p' := 9) (st' := aI 1 :: _) rfl rfl ?_
    refine E_callL (p' := 12) (L0 := [some (aA 124), some (aI 1), none, none]) rfl rfl rfl ?_
    refine E_s (p' := 1) (st' := aI 0 :: _) rfl rfl ?_
    refine E_s (p' := 2) (L' := [some (aA 124), some (aI 1), some (aI 0), none]) rfl rfl ?_
    refine mr_loop1 _ 601 0 _ rfl ?_
    refine E_s (p' := 23) (st' := aA 124 :: _) rfl rfl ?_
    refine E_s (p' := 24) (st' := aI 0 :: _) rfl rfl ?_
    refine E_stM (p' := 27) (m' := up2 _ 124 25 0) rfl rfl ?_
    refine E_s (p' := 28) (st' := aA 124 :: _) rfl rfl ?_
    refine E_s (p' := 29) (st' := aI 0 :: _) rfl rfl ?_
    refine E_stM (p' := 32) (m' := up2 _ 124 26 0) rfl rfl ?_
    refine E_s (p' := 33) (st' := aI 0 :: _) rfl rfl ?_
    refine E_s (p' := 34) (L' := [some (aA 124), some (aI 1), some (aI 0), none]) rfl rfl ?_
    refine E_s (p' := 35) (st' := aI 0 :: _) rfl rfl ?_
    refine E_s (p' := 36) (st' := aA 124 :: _) rfl rfl ?_
    refine E_s (p' := 39) (st' := aA 125 :: _) rfl rfl ?_
    refine E_s (p' := 40) (st' := aI 1 :: _) rfl rfl ?_
    refine E_s (p' := 41) (st' := aI 0 :: _) rfl rfl ?_
    refine E_s (p' := 121) rfl rfl ?_
    refine E_s (p' := 122) (st' := aA 124 :: _) rfl rfl ?_
    refine E_s (p' := 123) (st' := aI 0 :: _) rfl rfl ?_
    refine E_stM (p' := 126) (m' := up2 _ 124 24 0) rfl rfl ?_
    refine E_s (p' := 127) (st' := aI 0 :: _) rfl rfl ?_
    refine E_s (p' := 128) (L' := [some (aA 124), some (aI 1), some (aI 0), none]) rfl rfl ?_
    refine mr_loop3 _ 601 0 _ rfl (fun j hj => show (if 0 ≤ j ∧ j < 601 then (0 : Int) else _) = 0 from if_pos ⟨Nat.zero_le _, hj⟩) ?_
    refine E_s (p' := 245) (st' := aA 124 :: _) rfl rfl ?_
    refine E_s (p' := 248) (st' := aI 0 :: _) rfl rfl ?_
    refine E_s (p' := 249) (st' := aA 124 :: _) rfl rfl ?_
    refine E_s (p' := 252) (st' := aI 0 :: _) rfl rfl ?_
    refine E_s (p' := 259) rfl rfl ?_
    refine E_s (p' := 260) (st' := aI 1 :: _) rfl rfl ?_
    refine E_s (p' := 261) (st' := aI 1 :: _) rfl rfl ?_
    refine E_s (p' := 263) (st' := aI 6 :: _) rfl rfl ?_
    refine E_s (p' := 271) rfl rfl ?_
    refine E_s (p' := 272) (st' := aA 124 :: _) rfl rfl ?_
    refine E_s (p' := 275) (st' := aI 0 :: _) rfl rfl ?_
    refine E_s (p' := 282) rfl rfl ?_
    refine E_s (p' := 283) (st' := aI 0 :: _) rfl rfl ?_
    refine E_ret rfl rfl ?_
    refine E_s (p' := 29) rfl rfl ?_
    refine E_s (p' := 30) (st' := aI (-1) :: _) rfl rfl ?_
    refine E_ret rfl rfl ?_
    refine E_s (p' := 1174) rfl rfl ?_
    refine E_s (p' := 1177) (L' := [some (aA 0), some (aA 1), some (aA 124), some (aI 6)]) rfl rfl ?_
    refine E_s (p' := 18) rfl rfl ?_
    refine E_s (p' := 19) (st' := aI 6 :: _) rfl rfl ?_
    refine E_s (p' := 20) (st' := aA 0 :: _) rfl rfl ?_
    refine E_s (p' := 21) (st' := aI 6 :: _) rfl rfl ?_
    refine E_s (p' := 23) (st' := aI 6 :: _) rfl rfl ?_
    refine E_s (p' := 24) (st' := aI 0 :: _) rfl rfl ?_
    refine E_s (p' := 1180) rfl rfl ?_
    refine E_s (p' := 1181) (st' := aI 1 :: _) rfl rfl ?_
    exact E_ret rfl rfl ⟨rfl, rfl⟩
  · refine E_s (p' := 17) rfl rfl ?_
    refine E_s (p' := 19) (st' := aA 46 :: _) rfl rfl ?_
    refine E_s (p' := 22) (st' := aA 61 :: _) rfl rfl ?_
    refine E_s (p' := 25) (st' := aI 0 :: _) rfl rfl ?_
    refine E_icmp_lt (y := 0) rfl (by decide) (fun q => absurd q (by omega)) (fun _ => ?_)
    refine E_s (p' := 29) (st' := aI (-1) :: _) rfl rfl ?_
    refine E_ret rfl rfl ?_
    refine E_s (p' := 686) (st' := aA 124 :: _) rfl rfl ?_
    refine E_s (p' := 687) (st' := aA 0 :: _) rfl rfl ?_
    refine E_s (p' := 688) (st' := aI 0 :: _) rfl rfl ?_
    refine E_s (p' := 689) (st' := aI 1 :: _) rfl rfl ?_
    refine E_s (p' := 690) (st' := aI 1 :: _) rfl rfl ?_
    refine E_scr rfl rfl h1 ?_
    refine E_s (p' := 692) (st' := aA 0 :: _) rfl rfl ?_
    refine E_s (p' := 693) (st' := aI 0 :: _) rfl rfl ?_
    refine E_s (p' := 694) (st' := aI 2 :: _) rfl rfl ?_
    refine E_s (p' := 695) (st' := aI 2 :: _) rfl rfl ?_
    refine E_scr rfl rfl h2 ?_
    refine E_s (p' := 697) (st' := aA 0 :: _) rfl rfl ?_
    refine E_s (p' := 698) (st' := aI 0 :: _) rfl rfl ?_
    refine E_s (p' := 699) (st' := aI 3 :: _) rfl rfl ?_
    refine E_s (p' := 700) (st' := aI 3 :: _) rfl rfl ?_
    refine E_scr rfl rfl h3 ?_
    refine E_callL (p' := 704) (L0 := [some (aA 124), some (aI 1), some (aI a2), some (aI a3)]) rfl rfl rfl ?_
    refine E_s (p' := 1) (st' := aI 1 :: _) rfl rfl ?_
    refine E_callL (p' := 4) (L0 := [some (aI 1)]) rfl rfl rfl ?_
    refine E_s (p' := 1) (st' := aI 1 :: _) rfl rfl ?_
    refine E_s (p' := 2) (st' := aI 0 :: _) rfl rfl ?_
    refine E_s (p' := 3) (st' := aI 3 :: _) rfl rfl ?_
    refine E_callL (p' := 6) (L0 := [some (aI 1), some (aI 0), some (aI 3)]) rfl rfl rfl ?_
    refine E_s (p' := 1) (st' := aI 1 :: _) rfl rfl ?_
    refine E_s (p' := 2) (st' := aI 0 :: _) rfl rfl ?_
    refine E_s (p' := 5) rfl rfl ?_
    refine E_s (p' := 6) (st' := aI 1 :: _) rfl rfl ?_
    refine E_s (p' := 7) (st' := aI 3 :: _) rfl rfl ?_
    refine E_s (p' := 10) rfl rfl ?_
    refine E_s (p' := 11) (st' := aI 1 :: _) rfl rfl ?_
    refine E_s (p' := 15) rfl rfl ?_
    refine E_ret rfl rfl ?_
    refine E_ret rfl rfl ?_
    refine E_s (p' := 7) rfl rfl ?_
    refine E_s (p' := 8) (st' := aA 124 :: _) rfl rfl ?_
    refine E_s (p' := 9) (st' := aI 1 :: _) rfl rfl ?_
    refine E_callL (p' := 12) (L0 := [some (aA 124), some (aI 1), none, none]) rfl rfl rfl ?_
    refine E_s (p' := 1) (st' := aI 0 :: _) rfl rfl ?_
    refine E_s (p' := 2) (L' := [some (aA 124), some (aI 1), some (aI 0), none]) rfl rfl ?_
    refine mr_loop1 _ 601 0 _ rfl ?_
    refine E_s (p' := 23) (st' := aA 124 :: _) rfl rfl ?_
    refine E_s (p' := 24) (st' := aI 0 :: _) rfl rfl ?_
    refine E_stM (p' := 27) (m' := up2 _ 124 25 0) rfl rfl ?_
    refine E_s (p' := 28) (st' := aA 124 :: _) rfl rfl ?_
    refine E_s (p' := 29) (st' := aI 0 :: _) rfl rfl ?_
    refine E_stM (p' := 32) (m' := up2 _ 124 26 0) rfl rfl ?_
    refine E_s (p' := 33) (st' := aI 0 :: _) rfl rfl ?_
    refine E_s (p' := 34) (L' := [some (aA 124), some (aI 1), some (aI 0), none]) rfl rfl ?_
    refine E_s (p' := 35) (st' := aI 0 :: _) rfl rfl ?_
    refine E_s (p' := 36) (st' := aA 124 :: _) rfl rfl ?_
    refine E_s (p' := 39) (st' := aA 125 :: _) rfl rfl ?_
    refine E_s (p' := 40) (st' := aI 1 :: _) rfl rfl ?_
    refine E_s (p' := 41) (st' := aI 0 :: _) rfl rfl ?_
    refine E_s (p' := 121) rfl rfl ?_
    refine E_s (p' := 122) (st' := aA 124 :: _) rfl rfl ?_
    refine E_s (p' := 123) (st' := aI 0 :: _) rfl rfl ?_
    refine E_stM (p' := 126) (m' := up2 _ 124 24 0) rfl rfl ?_
    refine E_s (p' := 127) (st' := aI 0 :: _) rfl rfl ?_
    refine E_s (p' := 128) (L' := [some (aA 124), some (aI 1), some (aI 0), none]) rfl rfl ?_
    refine mr_loop3 _ 601 0 _ rfl (fun j hj => show (if 0 ≤ j ∧ j < 601 then (0 : Int) else _) = 0 from if_pos ⟨Nat.zero_le _, hj⟩) ?_
    refine E_s (p' := 245) (st' := aA 124 :: _) rfl rfl ?_
    refine E_s (p' := 248) (st' := aI 0 :: _) rfl rfl ?_
    refine E_s (p' := 249) (st' := aA 124 :: _) rfl rfl ?_
    refine E_s (p' := 252) (st' := aI 0 :: _) rfl rfl ?_
    refine E_s (p' := 259) rfl rfl ?_
    refine E_s (p' := 260) (st' := aI 1 :: _) rfl rfl ?_
    refine E_s (p' := 261) (st' := aI 1 :: _) rfl rfl ?_
    refine E_s (p' := 263) (st' := aI 6 :: _) rfl rfl ?_
    refine E_s (p' := 271) rfl rfl ?_
    refine E_s (p' := 272) (st' := aA 124 :: _) rfl rfl ?_
    refine E_s (p' := 275) (st' := aI 0 :: _) rfl rfl ?_
    refine E_s (p' := 282) rfl rfl ?_
    refine E_s (p' := 283) (st' := aI 0 :: _) rfl rfl ?_
    refine E_ret rfl rfl ?_
    refine E_s (p' := 29) rfl rfl ?_
    refine E_s (p' := 30) (st' := aI (-1) :: _) rfl rfl ?_
    refine E_ret rfl rfl ?_
    refine E_s (p' := 1174) rfl rfl ?_
    refine E_s (p' := 1177) (L' := [some (aA 0), some (aA 1), some (aA 124), some (aI 6)]) rfl rfl ?_
    refine E_s (p' := 18) rfl rfl ?_
    refine E_s (p' := 19) (st' := aI 6 :: _) rfl rfl ?_
    refine E_s (p' := 20) (st' := aA 0 :: _) rfl rfl ?_
    refine E_s (p' := 21) (st' := aI 6 :: _) rfl rfl ?_
    refine E_s (p' := 23) (st' := aI 6 :: _) rfl rfl ?_
    refine E_s (p' := 24) (st' := aI 0 :: _) rfl rfl ?_
    refine E_s (p' := 1180) rfl rfl ?_
    refine E_s (p' := 1181) (st' := aI 1 :: _) rfl rfl ?_
    exact E_ret rfl rfl ⟨rfl, rfl⟩
set_option maxRecDepth 100000 in
set_option maxHeartbeats 40000000 in
theorem pc_12_2 (xs : Nat → Int) {z a2 a3 a4 a5 : Int} (hz : b32 (fun a b => a &&& b) z 31 = 12) (h0 : xs 0 = z) (h1 : xs 1 = 2) (h2 : xs 2 = a2) (h3 : xs 3 = a3) (h4 : xs 4 = a4) (h5 : xs 5 = a5) : E 0 18 LL [] (s0 xs 6) PQ := by
  refine E_s (p' := 19) (st' := aI 0 :: _) rfl rfl ?_
  refine E_s (p' := 20) (st' := aA 0 :: _) rfl rfl ?_
  refine E_s (p' := 21) (st' := aI 6 :: _) rfl rfl ?_
  refine E_s (p' := 23) (st' := aI 6 :: _) rfl rfl ?_
  refine E_s (p' := 24) (st' := aI 0 :: _) rfl rfl ?_
  refine E_s (p' := 27) rfl rfl ?_
  refine E_s (p' := 28) (st' := aA 0 :: _) rfl rfl ?_
  refine E_s (p' := 29) (st' := aI 0 :: _) rfl rfl ?_
  refine E_scr rfl rfl h0 ?_
  refine E_s (p' := 32) (st' := aI 31 :: _) rfl rfl ?_
  refine E_s (p' := 33) rfl rfl ?_
  refine E_val hz ?_
  refine E_s (p' := 666) rfl rfl ?_
  refine E_s (p' := 667) (st' := aA 1 :: _) rfl rfl ?_
  refine E_s (p' := 668) (st' := aA 0 :: _) rfl rfl ?_
  refine E_s (p' := 669) (st' := aI 0 :: _) rfl rfl ?_
  refine E_s (p' := 670) (st' := aI 1 :: _) rfl rfl ?_
  refine E_s (p' := 671) (st' := aI 1 :: _) rfl rfl ?_
  refine E_scr rfl rfl h1 ?_
  refine E_s (p' := 673) (st' := aA 0 :: _) rfl rfl ?_
  refine E_s (p' := 674) (st' := aI 0 :: _) rfl rfl ?_
  refine E_s (p' := 675) (st' := aI 2 :: _) rfl rfl ?_
  refine E_s (p' := 676) (st' := aI 2 :: _) rfl rfl ?_
  refine E_scr rfl rfl h2 ?_
  refine E_s (p' := 678) (st' := aA 0 :: _) rfl rfl ?_
  refine E_s (p' := 679) (st' := aI 0 :: _) rfl rfl ?_
  refine E_s (p' := 680) (st' := aI 3 :: _) rfl rfl ?_
  refine E_s (p' := 681) (st' := aI 3 :: _) rfl rfl ?_
  refine E_scr rfl rfl h3 ?_
  refine E_callL (p' := 685) (L0 := [some (aA 1), some (aI 2), some (aI a2), some (aI a3), none, none]) rfl rfl rfl ?_
  refine E_s (p' := 1) (st' := aA 1 :: _) rfl rfl ?_
  refine E_s (p' := 2) (st' := aI 2 :: _) rfl rfl ?_
  refine E_callL (p' := 5) (L0 := [some (aA 1), some (aI 2), none]) rfl rfl rfl ?_
  refine E_s (p' := 1) (st' := aA 1 :: _) rfl rfl ?_
  refine E_s (p' := 2) (st' := aI 2 :: _) rfl rfl ?_
  refine E_callL (p' := 5) (L0 := [some (aA 1), some (aI 2)]) rfl rfl rfl ?_
  refine E_s (p' := 1) (st' := aI 2 :: _) rfl rfl ?_
  refine E_s (p' := 4) rfl rfl ?_
  refine E_s (p' := 5) (st' := aI 2 :: _) rfl rfl ?_
  refine E_s (p' := 6) (st' := aI 4 :: _) rfl rfl ?_
  refine E_s (p' := 9) rfl rfl ?_
  refine E_s (p' := 10) (st' := aA 1 :: _) rfl rfl ?_
  refine E_s (p' := 13) (st' := aA 2 :: _) rfl rfl ?_
  refine E_s (p' := 14) (st' := aI 2 :: _) rfl rfl ?_
  refine E_s (p' := 15) (st' := aA 72 :: _) rfl rfl ?_
  refine E_s (p' := 19) rfl rfl ?_
  refine E_ret rfl rfl ?_
  refine E_s (p' := 6) (L' := [some (aA 1), some (aI 2), some (aA 72)]) rfl rfl ?_
  refine E_s (p' := 7) (st' := aA 72 :: _) rfl rfl ?_
  refine E_s (p' := 10) rfl rfl ?_
  refine E_s (p' := 11) (st' := aA 72 :: _) rfl rfl ?_
  refine E_callL (p' := 14) (L0 := [some (aA 72)]) rfl rfl rfl ?_
  refine E_s (p' := 1) (st' := aA 72 :: _) rfl rfl ?_
  refine E_s (p' := 4) (st' := aI 0 :: _) rfl rfl ?_
  refine E_s (p' := 7) rfl rfl ?_
  refine E_s (p' := 8) (st' := aA 72 :: _) rfl rfl ?_
  refine E_s (p' := 11) (st' := aA 87 :: _) rfl rfl ?_
  refine E_s (p' := 12) (st' := aA 72 :: _) rfl rfl ?_
  refine E_s (p' := 15) (st' := aA 73 :: _) rfl rfl ?_
  refine E_s (p' := 16) (st' := aA 72 :: _) rfl rfl ?_
  refine E_s (p' := 19) (st' := aI 15 :: _) rfl rfl ?_
  refine E_callL (p' := 22) (L0 := [some (aA 87), some (aA 73), some (aI 15), none]) rfl rfl rfl ?_
  refine E_s (p' := 1) (st' := aA 87 :: _) rfl rfl ?_
  refine E_s (p' := 2) (st' := aA 73 :: _) rfl rfl ?_
  refine E_callL (p' := 5) (L0 := [some (aA 87), some (aA 73), none, none]) rfl rfl rfl ?_
  refine E_s (p' := 1) (st' := aA 87 :: _) rfl rfl ?_
  refine E_s (p' := 4) (st' := aA 96 :: _) rfl rfl ?_
  refine E_s (p' := 5) (st' := aI 0 :: _) rfl rfl ?_
  refine E_call rfl rfl ?_
  refine c_fill rfl rfl ?_
  refine E_s (p' := 9) (st' := aA 87 :: _) rfl rfl ?_
  refine E_s (p' := 12) (st' := aA 92 :: _) rfl rfl ?_
  refine E_s (p' := 13) (st' := aI 0 :: _) rfl rfl ?_
  refine E_call rfl rfl ?_
  refine c_fill rfl rfl ?_
  refine E_s (p' := 17) (st' := aA 87 :: _) rfl rfl ?_
  refine E_s (p' := 18) (st' := aI 0 :: _) rfl rfl ?_
  refine E_stM (p' := 21) (m' := up2 _ 87 10 0) rfl rfl ?_
  refine E_s (p' := 22) (st' := aA 87 :: _) rfl rfl ?_
  refine E_s (p' := 23) (st' := aI 0 :: _) rfl rfl ?_
  refine E_stM (p' := 26) (m' := up2 _ 87 11 0) rfl rfl ?_
  refine E_s (p' := 27) (st' := aI 0 :: _) rfl rfl ?_
  refine E_s (p' := 28) (L' := [some (aA 87), some (aA 73), some (aI 0), none]) rfl rfl ?_
  refine E_s (p' := 29) (st' := aI 0 :: _) rfl rfl ?_
  refine E_s (p' := 30) (st' := aA 73 :: _) rfl rfl ?_
  refine E_s (p' := 33) (st' := aI 0 :: _) rfl rfl ?_
  refine E_s (p' := 135) rfl rfl ?_
  refine E_ret rfl rfl ?_
  refine E_s (p' := 6) (st' := aA 87 :: _) rfl rfl ?_
  refine E_s (p' := 7) (st' := aI 15 :: _) rfl rfl ?_
  refine E_callL (p' := 10) (L0 := [some (aA 87), some (aI 15), none]) rfl rfl rfl ?_
  refine E_s (p' := 1) (st' := aA 87 :: _) rfl rfl ?_
  refine E_s (p' := 2) (st' := aI 0 :: _) rfl rfl ?_
  refine E_stM (p' := 5) (m' := up2 _ 87 12 0) rfl rfl ?_
  refine E_s (p' := 6) (st' := aI 1 :: _) rfl rfl ?_
  refine E_s (p' := 7) (L' := [some (aA 87), some (aI 15), some (aI 1)]) rfl rfl ?_
  refine fl_loop (gp := 0) (by decide) _ 600 1 _ rfl (fun j hj => show (if 0 ≤ j ∧ j < 601 then (0 : Int) else _) = 0 from if_pos ⟨Nat.zero_le _, hj⟩) ?_
  refine E_s (p' := 11) (st' := aA 87 :: _) rfl rfl ?_
  refine E_s (p' := 14) (st' := aI 0 :: _) rfl rfl ?_
  refine E_s (p' := 17) rfl rfl ?_
  refine E_s (p' := 18) (st' := aA 87 :: _) rfl rfl ?_
  refine E_callL (p' := 21) (L0 := [some (aA 87)]) rfl rfl rfl ?_
  refine E_s (p' := 1) (st' := aA 87 :: _) rfl rfl ?_
  refine E_s (p' := 4) (st' := aA 93 :: _) rfl rfl ?_
  refine E_s (p' := 5) (st' := aA 87 :: _) rfl rfl ?_
  refine E_s (p' := 8) (st' := aI 0 :: _) rfl rfl ?_
  refine E_s (p' := 15) rfl rfl ?_
  refine E_s (p' := 16) (st' := aI 0 :: _) rfl rfl ?_
  refine E_call rfl rfl ?_
  refine c_fill rfl rfl ?_
  refine E_s (p' := 20) (st' := aA 87 :: _) rfl rfl ?_
  refine E_s (p' := 23) (st' := aA 94 :: _) rfl rfl ?_
  refine E_s (p' := 24) (st' := aI 0 :: _) rfl rfl ?_
  refine E_call rfl rfl ?_
  refine c_fill rfl rfl ?_
  refine E_s (p' := 28) (st' := aA 87 :: _) rfl rfl ?_
  refine E_s (p' := 31) (st' := aA 95 :: _) rfl rfl ?_
  refine E_s (p' := 32) (st' := aI 0 :: _) rfl rfl ?_
  refine E_call rfl rfl ?_
  refine c_fill rfl rfl ?_
  refine E_ret rfl rfl ?_
  refine E_ret rfl rfl ?_
  refine E_s (p' := 23) (st' := aA 72 :: _) rfl rfl ?_
  refine E_s (p' := 24) (st' := aI 1 :: _) rfl rfl ?_
  refine E_stM (p' := 27) (m' := up2 _ 72 7 1) rfl rfl ?_
  refine E_s (p' := 28) (st' := aA 72 :: _) rfl rfl ?_
  refine E_s (p' := 31) (st' := aA 87 :: _) rfl rfl ?_
  refine E_ret rfl rfl ?_
  refine E_s (p' := 15) rfl rfl ?_
  refine E_s (p' := 16) (st' := aA 72 :: _) rfl rfl ?_
  refine E_ret rfl rfl ?_
  refine E_s (p' := 7) (L' := [some (aA 1), some (aI 2), some (aI a2), some (aI a3), some (aA 72), none]) rfl rfl ?_
  refine E_s (p' := 9) (st' := aA 72 :: _) rfl rfl ?_
  refine E_s (p' := 12) rfl rfl ?_
  refine E_s (p' := 13) rfl rfl ?_
  refine E_if_lt rfl (by decide) (fun _ => ?_) (fun _ => ?_)
  · refine E_s (p' := 29) (st' := aI (-1) :: _) rfl rfl ?_
    refine E_ret rfl rfl ?_
    refine E_s (p' := 686) (st' := aA 124 :: _) rfl rfl ?_
    refine E_s (p' := 687) (st' := aA 0 :: _) rfl rfl ?_
    refine E_s (p' := 688) (st' := aI 0 :: _) rfl rfl ?_
    refine E_s (p' := 689) (st' := aI 1 :: _) rfl rfl ?_
    refine E_s (p' := 690) (st' := aI 1 :: _) rfl rfl ?_
    refine E_scr rfl rfl h1 ?_
    refine E_s (p' := 692) (st' := aA 0 :: _) rfl rfl ?_
    refine E_s (p' := 693) (st' := aI 0 :: _) rfl rfl ?_
    refine E_s (p' := 694) (st' := aI 2 :: _) rfl rfl ?_
    refine E_s (p' := 695) (st' := aI 2 :: _) rfl rfl ?_
    refine E_scr rfl rfl h2 ?_
    refine E_s (p' := 697) (st' := aA 0 :: _) rfl rfl ?_
    refine E_s (p' := 698) (st' := aI 0 :: _) rfl rfl ?_
    refine E_s (p' := 699) (st' := aI 3 :: _) rfl rfl ?_
    refine E_s (p' := 700) (st' := aI 3 :: _) rfl rfl ?_
    refine E_scr rfl rfl h3 ?_
    refine E_callL (p' := 704) (L0 := [some (aA 124), some (aI 2), some (aI a2), some (aI a3)]) rfl rfl rfl ?_
    refine E_s (p' := 1) (st' := aI 2 :: _) rfl rfl ?_
    refine E_callL (p' := 4) (L0 := [some (aI 2)]) rfl rfl rfl ?_
    refine E_s (p' := 1) (st' := aI 2 :: _) rfl rfl ?_
    refine E_s (p' := 2) (st' := aI 0 :: _) rfl rfl ?_
    refine E_s (p' := 3) (st' := aI 3 :: _) rfl rfl ?_
    refine E_callL (p' := 6) (L0 := [some (aI 2), some (aI 0), some (aI 3)]) rfl rfl rfl ?_
    refine E_s (p' := 1) (st' := aI 2 :: _) rfl rfl ?_
    refine E_s (p' := 2) (st' := aI 0 :: _) rfl rfl ?_
    refine E_s (p' := 5) rfl rfl ?_
    refine E_s (p' := 6) (st' := aI 2 :: _) rfl rfl ?_
    refine E_s (p' := 7) (st' := aI 3 :: _) rfl rfl ?_
    refine E_s (p' := 10) rfl rfl ?_
    refine E_s (p' := 11) (st' := aI 1 :: _) rfl rfl ?_
    refine E_s (p' := 15) rfl rfl ?_
    refine E_ret rfl rfl ?_
    refine E_ret rfl rfl ?_
    refine E_s (p' := 7) rfl rfl ?_
    refine E_s (p' := 8) (st' := aA 124 :: _) rfl rfl ?_
    refine E_s (p' := 9) (st' := aI 2 :: _) rfl rfl ?_
    refine E_callL (p' := 12) (L0 := [some (aA 124), some (aI 2), none, none]) rfl rfl rfl ?_
    refine E_s (p' := 1) (st' := aI 0 :: _) rfl rfl ?_
    refine E_s (p' := 2) (L' := [some (aA 124), some (aI 2), some (aI 0), none]) rfl rfl ?_
    refine mr_loop1 _ 601 0 _ rfl ?_
    refine E_s (p' := 23) (st' := aA 124 :: _) rfl rfl ?_
    refine E_s (p' := 24) (st' := aI 0 :: _) rfl rfl ?_
    refine E_stM (p' := 27) (m' := up2 _ 124 25 0) rfl rfl ?_
    refine E_s (p' := 28) (st' := aA 124 :: _) rfl rfl ?_
    refine E_s (p' := 29) (st' := aI 0 :: _) rfl rfl ?_
    refine E_stM (p' := 32) (m' := up2 _ 124 26 0) rfl rfl ?_
    refine E_s (p' := 33) (st' := aI 0 :: _) rfl rfl ?_
    refine E_s (p' := 34) (L' := [some (aA 124), some (aI 2), some (aI 0), none]) rfl rfl ?_
    refine E_s (p' := 35) (st' := aI 0 :: _) rfl rfl ?_
    refine E_s (p' := 36) (st' := aA 124 :: _) rfl rfl ?_
    refine E_s (p' := 39) (st' := aA 125 :: _) rfl rfl ?_
    refine E_s (p' := 40) (st' := aI 2 :: _) rfl rfl ?_
    refine E_s (p' := 41) (st' := aI 0 :: _) rfl rfl ?_
    refine E_s (p' := 121) rfl rfl ?_
    refine E_s (p' := 122) (st' := aA 124 :: _) rfl rfl ?_
    refine E_s (p' := 123) (st' := aI 0 :: _) rfl rfl ?_
    refine E_stM (p' := 126) (m' := up2 _ 124 24 0) rfl rfl ?_
    refine E_s (p' := 127) (st' := aI 0 :: _) rfl rfl ?_
    refine E_s (p' := 128) (L' := [some (aA 124), some (aI 2), some (aI 0), none]) rfl rfl ?_
    refine mr_loop3 _ 601 0 _ rfl (fun j hj => show (if 0 ≤ j ∧ j < 601 then (0 : Int) else _) = 0 from if_pos ⟨Nat.zero_le _, hj⟩) ?_
    refine E_s (p' := 245) (st' := aA 124 :: _) rfl rfl ?_
    refine E_s (p' := 248) (st' := aI 0 :: _) rfl rfl ?_
    refine E_s (p' := 249) (st' := aA 124 :: _) rfl rfl ?_
    refine E_s (p' := 252) (st' := aI 0 :: _) rfl rfl ?_
    refine E_s (p' := 259) rfl rfl ?_
    refine E_s (p' := 260) (st' := aI 1 :: _) rfl rfl ?_
    refine E_s (p' := 261) (st' := aI 1 :: _) rfl rfl ?_
    refine E_s (p' := 263) (st' := aI 6 :: _) rfl rfl ?_
    refine E_s (p' := 271) rfl rfl ?_
    refine E_s (p' := 272) (st' := aA 124 :: _) rfl rfl ?_
    refine E_s (p' := 275) (st' := aI 0 :: _) rfl rfl ?_
    refine E_s (p' := 282) rfl rfl ?_
    refine E_s (p' := 283) (st' := aI 0 :: _) rfl rfl ?_
    refine E_ret rfl rfl ?_
    refine E_s (p' := 29) rfl rfl ?_
    refine E_s (p' := 30) (st' := aI (-1) :: _) rfl rfl ?_
    refine E_ret rfl rfl ?_
    refine E_s (p' := 1174) rfl rfl ?_
    refine E_s (p' := 1177) (L' := [some (aA 0), some (aA 1), some (aA 124), some (aI 6)]) rfl rfl ?_
    refine E_s (p' := 18) rfl rfl ?_
    refine E_s (p' := 19) (st' := aI 6 :: _) rfl rfl ?_
    refine E_s (p' := 20) (st' := aA 0 :: _) rfl rfl ?_
    refine E_s (p' := 21) (st' := aI 6 :: _) rfl rfl ?_
    refine E_s (p' := 23) (st' := aI 6 :: _) rfl rfl ?_
    refine E_s (p' := 24) (st' := aI 0 :: _) rfl rfl ?_
    refine E_s (p' := 1180) rfl rfl ?_
    refine E_s (p' := 1181) (st' := aI 1 :: _) rfl rfl ?_
    exact E_ret rfl rfl ⟨rfl, rfl⟩
  · refine E_s (p' := 17) rfl rfl ?_
    refine E_s (p' := 19) (st' := aA 72 :: _) rfl rfl ?_
    refine E_s (p' := 22) (st' := aA 87 :: _) rfl rfl ?_
    refine E_s (p' := 25) (st' := aI 0 :: _) rfl rfl ?_
    refine E_icmp_lt (y := 0) rfl (by decide) (fun q => absurd q (by omega)) (fun _ => ?_)
    refine E_s (p' := 29) (st' := aI (-1) :: _) rfl rfl ?_
    refine E_ret rfl rfl ?_
    refine E_s (p' := 686) (st' := aA 124 :: _) rfl rfl ?_
    refine E_s (p' := 687) (st' := aA 0 :: _) rfl rfl ?_
    refine E_s (p' := 688) (st' := aI 0 :: _) rfl rfl ?_
    refine E_s (p' := 689) (st' := aI 1 :: _) rfl rfl ?_
    refine E_s (p' := 690) (st' := aI 1 :: _) rfl rfl ?_
    refine E_scr rfl rfl h1 ?_
    refine E_s (p' := 692) (st' := aA 0 :: _) rfl rfl ?_
    refine E_s (p' := 693) (st' := aI 0 :: _) rfl rfl ?_
    refine E_s (p' := 694) (st' := aI 2 :: _) rfl rfl ?_
    refine E_s (p' := 695) (st' := aI 2 :: _) rfl rfl ?_
    refine E_scr rfl rfl h2 ?_
    refine E_s (p' := 697) (st' := aA 0 :: _) rfl rfl ?_
    refine E_s (p' := 698) (st' := aI 0 :: _) rfl rfl ?_
    refine E_s (p' := 699) (st' := aI 3 :: _) rfl rfl ?_
    refine E_s (p' := 700) (st' := aI 3 :: _) rfl rfl ?_
    refine E_scr rfl rfl h3 ?_
    refine E_callL (p' := 704) (L0 := [some (aA 124), some (aI 2), some (aI a2), some (aI a3)]) rfl rfl rfl ?_
    refine E_s (p' := 1) (st' := aI 2 :: _) rfl rfl ?_
    refine E_callL (p' := 4) (L0 := [some (aI 2)]) rfl rfl rfl ?_
    refine E_s (p' := 1) (st' := aI 2 :: _) rfl rfl ?_
    refine E_s (p' := 2) (st' := aI 0 :: _) rfl rfl ?_
    refine E_s (p' := 3) (st' := aI 3 :: _) rfl rfl ?_
    refine E_callL (p' := 6) (L0 := [some (aI 2), some (aI 0), some (aI 3)]) rfl rfl rfl ?_
    refine E_s (p' := 1) (st' := aI 2 :: _) rfl rfl ?_
    refine E_s (p' := 2) (st' := aI 0 :: _) rfl rfl ?_
    refine E_s (p' := 5) rfl rfl ?_
    refine E_s (p' := 6) (st' := aI 2 :: _) rfl rfl ?_
    refine E_s (p' := 7) (st' := aI 3 :: _) rfl rfl ?_
    refine E_s (p' := 10) rfl rfl ?_
    refine E_s (p' := 11) (st' := aI 1 :: _) rfl rfl ?_
    refine E_s (p' := 15) rfl rfl ?_
    refine E_ret rfl rfl ?_
    refine E_ret rfl rfl ?_
    refine E_s (p' := 7) rfl rfl ?_
    refine E_s (p' := 8) (st' := aA 124 :: _) rfl rfl ?_
    refine E_s (p' := 9) (st' := aI 2 :: _) rfl rfl ?_
    refine E_callL (p' := 12) (L0 := [some (aA 124), some (aI 2), none, none]) rfl rfl rfl ?_
    refine E_s (p' := 1) (st' := aI 0 :: _) rfl rfl ?_
    refine E_s (p' := 2) (L' := [some (aA 124), some (aI 2), some (aI 0), none]) rfl rfl ?_
    refine mr_loop1 _ 601 0 _ rfl ?_
    refine E_s (p' := 23) (st' := aA 124 :: _) rfl rfl ?_
    refine E_s (p' := 24) (st' := aI 0 :: _) rfl rfl ?_
    refine E_stM (p' := 27) (m' := up2 _ 124 25 0) rfl rfl ?_
    refine E_s (p' := 28) (st' := aA 124 :: _) rfl rfl ?_
    refine E_s (p' := 29) (st' := aI 0 :: _) rfl rfl ?_
    refine E_stM (p' := 32) (m' := up2 _ 124 26 0) rfl rfl ?_
    refine E_s (p' := 33) (st' := aI 0 :: _) rfl rfl ?_
    refine E_s (p' := 34) (L' := [some (aA 124), some (aI 2), some (aI 0), none]) rfl rfl ?_
    refine E_s (p' := 35) (st' := aI 0 :: _) rfl rfl ?_
    refine E_s (p' := 36) (st' := aA 124 :: _) rfl rfl ?_
    refine E_s (p' := 39) (st' := aA 125 :: _) rfl rfl ?_
    refine E_s (p' := 40) (st' := aI 2 :: _) rfl rfl ?_
    refine E_s (p' := 41) (st' := aI 0 :: _) rfl rfl ?_
    refine E_s (p' := 121) rfl rfl ?_
    refine E_s (p' := 122) (st' := aA 124 :: _) rfl rfl ?_
    refine E_s (p' := 123) (st' := aI 0 :: _) rfl rfl ?_
    refine E_stM (p' := 126) (m' := up2 _ 124 24 0) rfl rfl ?_
    refine E_s (p' := 127) (st' := aI 0 :: _) rfl rfl ?_
    refine E_s (p' := 128) (L' := [some (aA 124), some (aI 2), some (aI 0), none]) rfl rfl ?_
    refine mr_loop3 _ 601 0 _ rfl (fun j hj => show (if 0 ≤ j ∧ j < 601 then (0 : Int) else _) = 0 from if_pos ⟨Nat.zero_le _, hj⟩) ?_
    refine E_s (p' := 245) (st' := aA 124 :: _) rfl rfl ?_
    refine E_s (p' := 248) (st' := aI 0 :: _) rfl rfl ?_
    refine E_s (p' := 249) (st' := aA 124 :: _) rfl rfl ?_
    refine E_s (p' := 252) (st' := aI 0 :: _) rfl rfl ?_
    refine E_s (p' := 259) rfl rfl ?_
    refine E_s (p' := 260) (st' := aI 1 :: _) rfl rfl ?_
    refine E_s (p' := 261) (st' := aI 1 :: _) rfl rfl ?_
    refine E_s (p' := 263) (st' := aI 6 :: _) rfl rfl ?_
    refine E_s (p' := 271) rfl rfl ?_
    refine E_s (p' := 272) (st' := aA 124 :: _) rfl rfl ?_
    refine E_s (p' := 275) (st' := aI 0 :: _) rfl rfl ?_
    refine E_s (p' := 282) rfl rfl ?_
    refine E_s (p' := 283) (st' := aI 0 :: _) rfl rfl ?_
    refine E_ret rfl rfl ?_
    refine E_s (p' := 29) rfl rfl ?_
    refine E_s (p' := 30) (st' := aI (-1) :: _) rfl rfl ?_
    refine E_ret rfl rfl ?_
    refine E_s (p' := 1174) rfl rfl ?_
    refine E_s (p' := 1177) (L' := [some (aA 0), some (aA 1), some (aA 124), some (aI 6)]) rfl rfl ?_
    refine E_s (p' := 18) rfl rfl ?_
    refine E_s (p' := 19) (st' := aI 6 :: _) rfl rfl ?_
    refine E_s (p' := 20) (st' := aA 0 :: _) rfl rfl ?_
    refine E_s (p' := 21) (st' := aI 6 :: _) rfl rfl ?_
    refine E_s (p' := 23) (st' := aI 6 :: _) rfl rfl ?_
    refine E_s (p' := 24) (st' := aI 0 :: _) rfl rfl ?_
    refine E_s (p' := 1180) rfl rfl ?_
    refine E_s (p' := 1181) (st' := aI 1 :: _) rfl rfl ?_
    exact E_ret rfl rfl ⟨rfl, rfl⟩
set_option maxRecDepth 100000 in
set_option maxHeartbeats 40000000 in
theorem pc_12_3 (xs : Nat → Int) {z a2 a3 a4 a5 : Int} (hz : b32 (fun a b => a &&& b) z 31 = 12) (h0 : xs 0 = z) (h1 : xs 1 = 3) (h2 : xs 2 = a2) (h3 : xs 3 = a3) (h4 : xs 4 = a4) (h5 : xs 5 = a5) : E 0 18 LL [] (s0 xs 6) PQ := by
  refine E_s (p' := 19) (st' := aI 0 :: _) rfl rfl ?_
  refine E_s (p' := 20) (st' := aA 0 :: _) rfl rfl ?_
  refine E_s (p' := 21) (st' := aI 6 :: _) rfl rfl ?_
  refine E_s (p' := 23) (st' := aI 6 :: _) rfl rfl ?_
  refine E_s (p' := 24) (st' := aI 0 :: _) rfl rfl ?_
  refine E_s (p' := 27) rfl rfl ?_
  refine E_s (p' := 28) (st' := aA 0 :: _) rfl rfl ?_
  refine E_s (p' := 29) (st' := aI 0 :: _) rfl rfl ?_
  refine E_scr rfl rfl h0 ?_
  refine E_s (p' := 32) (st' := aI 31 :: _) rfl rfl ?_
  refine E_s (p' := 33) rfl rfl ?_
  refine E_val hz ?_
  refine E_s (p' := 666) rfl rfl ?_
  refine E_s (p' := 667) (st' := aA 1 :: _) rfl rfl ?_
  refine E_s (p' := 668) (st' := aA 0 :: _) rfl rfl ?_
  refine E_s (p' := 669) (st' := aI 0 :: _) rfl rfl ?_
  refine E_s (p' := 670) (st' := aI 1 :: _) rfl rfl ?_
  refine E_s (p' := 671) (st' := aI 1 :: _) rfl rfl ?_
  refine E_scr rfl rfl h1 ?_
  refine E_s (p' := 673) (st' := aA 0 :: _) rfl rfl ?_
  refine E_s (p' := 674) (st' := aI 0 :: _) rfl rfl ?_
  refine E_s (p' := 675) (st' := aI 2 :: _) rfl rfl ?_
  refine E_s (p' := 676) (st' := aI 2 :: _) rfl rfl ?_
  refine E_scr rfl rfl h2 ?_
  refine E_s (p' := 678) (st' := aA 0 :: _) rfl rfl ?_
  refine E_s (p' := 679) (st' := aI 0 :: _) rfl rfl ?_
  refine E_s (p' := 680) (st' := aI 3 :: _) rfl rfl ?_
  refine E_s (p' := 681) (st' := aI 3 :: _) rfl rfl ?_
  refine E_scr rfl rfl h3 ?_
  refine E_callL (p' := 685) (L0 := [some (aA 1), some (aI 3), some (aI a2), some (aI a3), none, none]) rfl rfl rfl ?_
  refine E_s (p' := 1) (st' := aA 1 :: _) rfl rfl ?_
  refine E_s (p' := 2) (st' := aI 3 :: _) rfl rfl ?_
  refine E_callL (p' := 5) (L0 := [some (aA 1), some (aI 3), none]) rfl rfl rfl ?_
  refine E_s (p' := 1) (st' := aA 1 :: _) rfl rfl ?_
  refine E_s (p' := 2) (st' := aI 3 :: _) rfl rfl ?_
  refine E_callL (p' := 5) (L0 := [some (aA 1), some (aI 3)]) rfl rfl rfl ?_
  refine E_s (p' := 1) (st' := aI 3 :: _) rfl rfl ?_
  refine E_s (p' := 4) rfl rfl ?_
  refine E_s (p' := 5) (st' := aI 3 :: _) rfl rfl ?_
  refine E_s (p' := 6) (st' := aI 4 :: _) rfl rfl ?_
  refine E_s (p' := 9) rfl rfl ?_
  refine E_s (p' := 10) (st' := aA 1 :: _) rfl rfl ?_
  refine E_s (p' := 13) (st' := aA 2 :: _) rfl rfl ?_
  refine E_s (p' := 14) (st' := aI 3 :: _) rfl rfl ?_
  refine E_s (p' := 15) (st' := aA 98 :: _) rfl rfl ?_
  refine E_s (p' := 19) rfl rfl ?_
  refine E_ret rfl rfl ?_
  refine E_s (p' := 6) (L' := [some (aA 1), some (aI 3), some (aA 98)]) rfl rfl ?_
  refine E_s (p' := 7) (st' := aA 98 :: _) rfl rfl ?_
  refine E_s (p' := 10) rfl rfl ?_
  refine E_s (p' := 11) (st' := aA 98 :: _) rfl rfl ?_
  refine E_callL (p' := 14) (L0 := [some (aA 98)]) rfl rfl rfl ?_
  refine E_s (p' := 1) (st' := aA 98 :: _) rfl rfl ?_
  refine E_s (p' := 4) (st' := aI 0 :: _) rfl rfl ?_
  refine E_s (p' := 7) rfl rfl ?_
  refine E_s (p' := 8) (st' := aA 98 :: _) rfl rfl ?_
  refine E_s (p' := 11) (st' := aA 113 :: _) rfl rfl ?_
  refine E_s (p' := 12) (st' := aA 98 :: _) rfl rfl ?_
  refine E_s (p' := 15) (st' := aA 99 :: _) rfl rfl ?_
  refine E_s (p' := 16) (st' := aA 98 :: _) rfl rfl ?_
  refine E_s (p' := 19) (st' := aI 15 :: _) rfl rfl ?_
  refine E_callL (p' := 22) (L0 := [some (aA 113), some (aA 99), some (aI 15), none]) rfl rfl rfl ?_
  refine E_s (p' := 1) (st' := aA 113 :: _) rfl rfl ?_
  refine E_s (p' := 2) (st' := aA 99 :: _) rfl rfl ?_
  refine E_callL (p' := 5) (L0 := [some (aA 113), some (aA 99), none, none]) rfl rfl rfl ?_
  refine E_s (p' := 1) (st' := aA 113 :: _) rfl rfl ?_
  refine E_s (p' := 4) (st' := aA 122 :: _) rfl rfl ?_
  refine E_s (p' := 5) (st' := aI 0 :: _) rfl rfl ?_
  refine E_call rfl rfl ?_
  refine c_fill rfl rfl ?_
  refine E_s (p' := 9) (st' := aA 113 :: _) rfl rfl ?_
  refine E_s (p' := 12) (st' := aA 118 :: _) rfl rfl ?_
  refine E_s (p' := 13) (st' := aI 0 :: _) rfl rfl ?_
  refine E_call rfl rfl ?_
  refine c_fill rfl rfl ?_
  refine E_s (p' := 17) (st' := aA 113 :: _) rfl rfl ?_
  refine E_s (p' := 18) (st' := aI 0 :: _) rfl rfl ?_
  refine E_stM (p' := 21) (m' := up2 _ 113 10 0) rfl rfl ?_
  refine E_s (p' := 22) (st' := aA 113 :: _) rfl rfl ?_
  refine E_s (p' := 23) (st' := aI 0 :: _) rfl rfl ?_
  refine E_stM (p' := 26) (m' := up2 _ 113 11 0) rfl rfl ?_
  refine E_s (p' := 27) (st' := aI 0 :: _) rfl rfl ?_
  refine E_s (p' := 28) (L' := [some (aA 113), some (aA 99), some (aI 0), none]) rfl rfl ?_
  refine E_s (p' := 29) (st' := aI 0 :: _) rfl rfl ?_
  refine E_s (p' := 30) (st' := aA 99 :: _) rfl rfl ?_
  refine E_s (p' := 33) (st' := aI 0 :: _) rfl rfl ?_
  refine E_s (p' := 135) rfl rfl ?_
  refine E_ret rfl rfl ?_
  refine E_s (p' := 6) (st' := aA 113 :: _) rfl rfl ?_
  refine E_s (p' := 7) (st' := aI 15 :: _) rfl rfl ?_
  refine E_callL (p' := 10) (L0 := [some (aA 113), some (aI 15), none]) rfl rfl rfl ?_
  refine E_s (p' := 1) (st' := aA 113 :: _) rfl rfl ?_
  refine E_s (p' := 2) (st' := aI 0 :: _) rfl rfl ?_
  refine E_stM (p' := 5) (m' := up2 _ 113 12 0) rfl rfl ?_
  refine E_s (p' := 6) (st' := aI 1 :: _) rfl rfl ?_
  refine E_s (p' := 7) (L' := [some (aA 113), some (aI 15), some (aI 1)]) rfl rfl ?_
  refine fl_loop (gp := 0) (by decide) _ 600 1 _ rfl (fun j hj => show (if 0 ≤ j ∧ j < 601 then (0 : Int) else _) = 0 from if_pos ⟨Nat.zero_le _, hj⟩) ?_
  refine E_s (p' := 11) (st' := aA 113 :: _) rfl rfl ?_
  refine E_s (p' := 14) (st' := aI 0 :: _) rfl rfl ?_
  refine E_s (p' := 17) rfl rfl ?_
  refine E_s (p' := 18) (st' := aA 113 :: _) rfl rfl ?_
  refine E_callL (p' := 21) (L0 := [some (aA 113)]) rfl rfl rfl ?_
  refine E_s (p' := 1) (st' := aA 113 :: _) rfl rfl ?_
  refine E_s (p' := 4) (st' := aA 119 :: _) rfl rfl ?_
  refine E_s (p' := 5) (st' := aA 113 :: _) rfl rfl ?_
  refine E_s (p' := 8) (st' := aI 0 :: _) rfl rfl ?_
  refine E_s (p' := 15) rfl rfl ?_
  refine E_s (p' := 16) (st' := aI 0 :: _) rfl rfl ?_
  refine E_call rfl rfl ?_
  refine c_fill rfl rfl ?_
  refine E_s (p' := 20) (st' := aA 113 :: _) rfl rfl ?_
  refine E_s (p' := 23) (st' := aA 120 :: _) rfl rfl ?_
  refine E_s (p' := 24) (st' := aI 0 :: _) rfl rfl ?_
  refine E_call rfl rfl ?_
  refine c_fill rfl rfl ?_
  refine E_s (p' := 28) (st' := aA 113 :: _) rfl rfl ?_
  refine E_s (p' := 31) (st' := aA 121 :: _) rfl rfl ?_
  refine E_s (p' := 32) (st' := aI 0 :: _) rfl rfl ?_
  refine E_call rfl rfl ?_
  refine c_fill rfl rfl ?_
  refine E_ret rfl rfl ?_
  refine E_ret rfl rfl ?_
  refine E_s (p' := 23) (st' := aA 98 :: _) rfl rfl ?_
  refine E_s (p' := 24) (st' := aI 1 :: _) rfl rfl ?_
  refine E_stM (p' := 27) (m' := up2 _ 98 7 1) rfl rfl ?_
  refine E_s (p' := 28) (st' := aA 98 :: _) rfl rfl ?_
  refine E_s (p' := 31) (st' := aA 113 :: _) rfl rfl ?_
  refine E_ret rfl rfl ?_
  refine E_s (p' := 15) rfl rfl ?_
  refine E_s (p' := 16) (st' := aA 98 :: _) rfl rfl ?_
  refine E_ret rfl rfl ?_
  refine E_s (p' := 7) (L' := [some (aA 1), some (aI 3), some (aI a2), some (aI a3), some (aA 98), none]) rfl rfl ?_
  refine E_s (p' := 9) (st' := aA 98 :: _) rfl rfl ?_
  refine E_s (p' := 12) rfl rfl ?_
  refine E_s (p' := 13) rfl rfl ?_
  refine E_if_lt rfl (by decide) (fun _ => ?_) (fun _ => ?_)
  · refine E_s (p' := 29) (st' := aI (-1) :: _) rfl rfl ?_
    refine E_ret rfl rfl ?_
    refine E_s (p' := 686) (st' := aA 124 :: _) rfl rfl ?_
    refine E_s (p' := 687) (st' := aA 0 :: _) rfl rfl ?_
    refine E_s (p' := 688) (st' := aI 0 :: _) rfl rfl ?_
    refine E_s (p' := 689) (st' := aI 1 :: _) rfl rfl ?_
    refine E_s (p' := 690) (st' := aI 1 :: _) rfl rfl ?_
    refine E_scr rfl rfl h1 ?_
    refine E_s (p' := 692) (st' := aA 0 :: _) rfl rfl ?_
    refine E_s (p' := 693) (st' := aI 0 :: _) rfl rfl ?_
    refine E_s (p' := 694) (st' := aI 2 :: _) rfl rfl ?_
    refine E_s (p' := 695) (st' := aI 2 :: _) rfl rfl ?_
    refine E_scr rfl rfl h2 ?_
    refine E_s (p' := 697) (st' := aA 0 :: _) rfl rfl ?_
    refine E_s (p' := 698) (st' := aI 0 :: _) rfl rfl ?_
    refine E_s (p' := 699) (st' := aI 3 :: _) rfl rfl ?_
    refine E_s (p' := 700) (st' := aI 3 :: _) rfl rfl ?_
    refine E_scr rfl rfl h3 ?_
    refine E_callL (p' := 704) (L0 := [some (aA 124), some (aI 3), some (aI a2), some (aI a3)]) rfl rfl rfl ?_
    refine E_s (p' := 1) (st' := aI 3 :: _) rfl rfl ?_
    refine E_callL (p' := 4) (L0 := [some (aI 3)]) rfl rfl rfl ?_
    refine E_s (p' := 1) (st' := aI 3 :: _) rfl rfl ?_
    refine E_s (p' := 2) (st' := aI 0 :: _) rfl rfl ?_
    refine E_s (p' := 3) (st' := aI 3 :: _) rfl rfl ?_
    refine E_callL (p' := 6) (L0 := [some (aI 3), some (aI 0), some (aI 3)]) rfl rfl rfl ?_
    refine E_s (p' := 1) (st' := aI 3 :: _) rfl rfl ?_
    refine E_s (p' := 2) (st' := aI 0 :: _) rfl rfl ?_
    refine E_s (p' := 5) rfl rfl ?_
    refine E_s (p' := 6) (st' := aI 3 :: _) rfl rfl ?_
    refine E_s (p' := 7) (st' := aI 3 :: _) rfl rfl ?_
    refine E_s (p' := 10) rfl rfl ?_
    refine E_s (p' := 11) (st' := aI 1 :: _) rfl rfl ?_
    refine E_s (p' := 15) rfl rfl ?_
    refine E_ret rfl rfl ?_
    refine E_ret rfl rfl ?_
    refine E_s (p' := 7) rfl rfl ?_
    refine E_s (p' := 8) (st' := aA 124 :: _) rfl rfl ?_
    refine E_s (p' := 9) (st' := aI 3 :: _) rfl rfl ?_
    refine E_callL (p' := 12) (L0 := [some (aA 124), some (aI 3), none, none]) rfl rfl rfl ?_
    refine E_s (p' := 1) (st' := aI 0 :: _) rfl rfl ?_
    refine E_s (p' := 2) (L' := [some (aA 124), some (aI 3), some (aI 0), none]) rfl rfl ?_
    refine mr_loop1 _ 601 0 _ rfl ?_
    refine E_s (p' := 23) (st' := aA 124 :: _) rfl rfl ?_
    refine E_s (p' := 24) (st' := aI 0 :: _) rfl rfl ?_
    refine E_stM (p' := 27) (m' := up2 _ 124 25 0) rfl rfl ?_
    refine E_s (p' := 28) (st' := aA 124 :: _) rfl rfl ?_
    refine E_s (p' := 29) (st' := aI 0 :: _) rfl rfl ?_
    refine E_stM (p' := 32) (m' := up2 _ 124 26 0) rfl rfl ?_
    refine E_s (p' := 33) (st' := aI 0 :: _) rfl rfl ?_
    refine E_s (p' := 34) (L' := [some (aA 124), some (aI 3), some (aI 0), none]) rfl rfl ?_
    refine E_s (p' := 35) (st' := aI 0 :: _) rfl rfl ?_
    refine E_s (p' := 36) (st' := aA 124 :: _) rfl rfl ?_
    refine E_s (p' := 39) (st' := aA 125 :: _) rfl rfl ?_
    refine E_s (p' := 40) (st' := aI 3 :: _) rfl rfl ?_
    refine E_s (p' := 41) (st' := aI 0 :: _) rfl rfl ?_
    refine E_s (p' := 121) rfl rfl ?_
    refine E_s (p' := 122) (st' := aA 124 :: _) rfl rfl ?_
    refine E_s (p' := 123) (st' := aI 0 :: _) rfl rfl ?_
    refine E_stM (p' := 126) (m' := up2 _ 124 24 0) rfl rfl ?_
    refine E_s (p' := 127) (st' := aI 0 :: _) rfl rfl ?_
    refine E_s (p' := 128) (L' := [some (aA 124), some (aI 3), some (aI 0), none]) rfl rfl ?_
    refine mr_loop3 _ 601 0 _ rfl (fun j hj => show (if 0 ≤ j ∧ j < 601 then (0 : Int) else _) = 0 from if_pos ⟨Nat.zero_le _, hj⟩) ?_
    refine E_s (p' := 245) (st' := aA 124 :: _) rfl rfl ?_
    refine E_s (p' := 248) (st' := aI 0 :: _) rfl rfl ?_
    refine E_s (p' := 249) (st' := aA 124 :: _) rfl rfl ?_
    refine E_s (p' := 252) (st' := aI 0 :: _) rfl rfl ?_
    refine E_s (p' := 259) rfl rfl ?_
    refine E_s (p' := 260) (st' := aI 1 :: _) rfl rfl ?_
    refine E_s (p' := 261) (st' := aI 1 :: _) rfl rfl ?_
    refine E_s (p' := 263) (st' := aI 6 :: _) rfl rfl ?_
    refine E_s (p' := 271) rfl rfl ?_
    refine E_s (p' := 272) (st' := aA 124 :: _) rfl rfl ?_
    refine E_s (p' := 275) (st' := aI 0 :: _) rfl rfl ?_
    refine E_s (p' := 282) rfl rfl ?_
    refine E_s (p' := 283) (st' := aI 0 :: _) rfl rfl ?_
    refine E_ret rfl rfl ?_
    refine E_s (p' := 29) rfl rfl ?_
    refine E_s (p' := 30) (st' := aI (-1) :: _) rfl rfl ?_
    refine E_ret rfl rfl ?_
    refine E_s (p' := 1174) rfl rfl ?_
    refine E_s (p' := 1177) (L' := [some (aA 0), some (aA 1), some (aA 124), some (aI 6)]) rfl rfl ?_
    refine E_s (p' := 18) rfl rfl ?_
    refine E_s (p' := 19) (st' := aI 6 :: _) rfl rfl ?_
    refine E_s (p' := 20) (st' := aA 0 :: _) rfl rfl ?_
    refine E_s (p' := 21) (st' := aI 6 :: _) rfl rfl ?_
    refine E_s (p' := 23) (st' := aI 6 :: _) rfl rfl ?_
    refine E_s (p' := 24) (st' := aI 0 :: _) rfl rfl ?_
    refine E_s (p' := 1180) rfl rfl ?_
    refine E_s (p' := 1181) (st' := aI 1 :: _) rfl rfl ?_
    exact E_ret rfl rfl ⟨rfl, rfl⟩
  · refine E_s (p' := 17) rfl rfl ?_
    refine E_s (p' := 19) (st' := aA 98 :: _) rfl rfl ?_
    refine E_s (p' := 22) (st' := aA 113 :: _) rfl rfl ?_
    refine E_s (p' := 25) (st' := aI 0 :: _) rfl rfl ?_
    refine E_icmp_lt (y := 0) rfl (by decide) (fun q => absurd q (by omega)) (fun _ => ?_)
    refine E_s (p' := 29) (st' := aI (-1) :: _) rfl rfl ?_
    refine E_ret rfl rfl ?_
    refine E_s (p' := 686) (st' := aA 124 :: _) rfl rfl ?_
    refine E_s (p' := 687) (st' := aA 0 :: _) rfl rfl ?_
    refine E_s (p' := 688) (st' := aI 0 :: _) rfl rfl ?_
    refine E_s (p' := 689) (st' := aI 1 :: _) rfl rfl ?_
    refine E_s (p' := 690) (st' := aI 1 :: _) rfl rfl ?_
    refine E_scr rfl rfl h1 ?_
    refine E_s (p' := 692) (st' := aA 0 :: _) rfl rfl ?_
    refine E_s (p' := 693) (st' := aI 0 :: _) rfl rfl ?_
    refine E_s (p' := 694) (st' := aI 2 :: _) rfl rfl ?_
    refine E_s (p' := 695) (st' := aI 2 :: _) rfl rfl ?_
    refine E_scr rfl rfl h2 ?_
    refine E_s (p' := 697) (st' := aA 0 :: _) rfl rfl ?_
    refine E_s (p' := 698) (st' := aI 0 :: _) rfl rfl ?_
    refine E_s (p' := 699) (st' := aI 3 :: _) rfl rfl ?_
    refine E_s (p' := 700) (st' := aI 3 :: _) rfl rfl ?_
    refine E_scr rfl rfl h3 ?_
    refine E_callL (p' := 704) (L0 := [some (aA 124), some (aI 3), some (aI a2), some (aI a3)]) rfl rfl rfl ?_
    refine E_s (p' := 1) (st' := aI 3 :: _) rfl rfl ?_
    refine E_callL (p' := 4) (L0 := [some (aI 3)]) rfl rfl rfl ?_
    refine E_s (p' := 1) (st' := aI 3 :: _) rfl rfl ?_
    refine E_s (p' := 2) (st' := aI 0 :: _) rfl rfl ?_
    refine E_s (p' := 3) (st' := aI 3 :: _) rfl rfl ?_
    refine E_callL (p' := 6) (L0 := [some (aI 3), some (aI 0), some (aI 3)]) rfl rfl rfl ?_
    refine E_s (p' := 1) (st' := aI 3 :: _) rfl rfl ?_
    refine E_s (p' := 2) (st' := aI 0 :: _) rfl rfl ?_
    refine E_s (p' := 5) rfl rfl ?_
    refine E_s (p' := 6) (st' := aI 3 :: _) rfl rfl ?_
    refine E_s (p' := 7) (st' := aI 3 :: _) rfl rfl ?_
    refine E_s (p' := 10) rfl rfl ?_
    refine E_s (p' := 11) (st' := aI 1 :: _) rfl rfl ?_
    refine E_s (p' := 15) rfl rfl ?_
    refine E_ret rfl rfl ?_
    refine E_ret rfl rfl ?_
    refine E_s (p' := 7) rfl rfl ?_
    refine E_s (p' := 8) (st' := aA 124 :: _) rfl rfl ?_
    refine E_s (p' := 9) (st' := aI 3 :: _) rfl rfl ?_
    refine E_callL (p' := 12) (L0 := [some (aA 124), some (aI 3), none, none]) rfl rfl rfl ?_
    refine E_s (p' := 1) (st' := aI 0 :: _) rfl rfl ?_
    refine E_s (p' := 2) (L' := [some (aA 124), some (aI 3), some (aI 0), none]) rfl rfl ?_
    refine mr_loop1 _ 601 0 _ rfl ?_
    refine E_s (p' := 23) (st' := aA 124 :: _) rfl rfl ?_
    refine E_s (p' := 24) (st' := aI 0 :: _) rfl rfl ?_
    refine E_stM (p' := 27) (m' := up2 _ 124 25 0) rfl rfl ?_
    refine E_s (p' := 28) (st' := aA 124 :: _) rfl rfl ?_
    refine E_s (p' := 29) (st' := aI 0 :: _) rfl rfl ?_
    refine E_stM (p' := 32) (m' := up2 _ 124 26 0) rfl rfl ?_
    refine E_s (p' := 33) (st' := aI 0 :: _) rfl rfl ?_
    refine E_s (p' := 34) (L' := [some (aA 124), some (aI 3), some (aI 0), none]) rfl rfl ?_
    refine E_s (p' := 35) (st' := aI 0 :: _) rfl rfl ?_
    refine E_s (p' := 36) (st' := aA 124 :: _) rfl rfl ?_
    refine E_s (p' := 39) (st' := aA 125 :: _) rfl rfl ?_
    refine E_s (p' := 40) (st' := aI 3 :: _) rfl rfl ?_
    refine E_s (p' := 41) (st' := aI 0 :: _) rfl rfl ?_
    refine E_s (p' := 121) rfl rfl ?_
    refine E_s (p' := 122) (st' := aA 124 :: _) rfl rfl ?_
    refine E_s (p' := 123) (st' := aI 0 :: _) rfl rfl ?_
    refine E_stM (p' := 126) (m' := up2 _ 124 24 0) rfl rfl ?_
    refine E_s (p' := 127) (st' := aI 0 :: _) rfl rfl ?_
    refine E_s (p' := 128) (L' := [some (aA 124), some (aI 3), some (aI 0), none]) rfl rfl ?_
    refine mr_loop3 _ 601 0 _ rfl (fun j hj => show (if 0 ≤ j ∧ j < 601 then (0 : Int) else _) = 0 from if_pos ⟨Nat.zero_le _, hj⟩) ?_
    refine E_s (p' := 245) (st' := aA 124 :: _) rfl rfl ?_
    refine E_s (p' := 248) (st' := aI 0 :: _) rfl rfl ?_
    refine E_s (p' := 249) (st' := aA 124 :: _) rfl rfl ?_
    refine E_s (p' := 252) (st' := aI 0 :: _) rfl rfl ?_
    refine E_s (p' := 259) rfl rfl ?_
    refine E_s (p' := 260) (st' := aI 1 :: _) rfl rfl ?_
    refine E_s (p' := 261) (st' := aI 1 :: _) rfl rfl ?_
    refine E_s (p' := 263) (st' := aI 6 :: _) rfl rfl ?_
    refine E_s (p' := 271) rfl rfl ?_
    refine E_s (p' := 272) (st' := aA 124 :: _) rfl rfl ?_
    refine E_s (p' := 275) (st' := aI 0 :: _) rfl rfl ?_
    refine E_s (p' := 282) rfl rfl ?_
    refine E_s (p' := 283) (st' := aI 0 :: _) rfl rfl ?_
    refine E_ret rfl rfl ?_
    refine E_s (p' := 29) rfl rfl ?_
    refine E_s (p' := 30) (st' := aI (-1) :: _) rfl rfl ?_
    refine E_ret rfl rfl ?_
    refine E_s (p' := 1174) rfl rfl ?_
    refine E_s (p' := 1177) (L' := [some (aA 0), some (aA 1), some (aA 124), some (aI 6)]) rfl rfl ?_
    refine E_s (p' := 18) rfl rfl ?_
    refine E_s (p' := 19) (st' := aI 6 :: _) rfl rfl ?_
    refine E_s (p' := 20) (st' := aA 0 :: _) rfl rfl ?_
    refine E_s (p' := 21) (st' := aI 6 :: _) rfl rfl ?_
    refine E_s (p' := 23) (st' := aI 6 :: _) rfl rfl ?_
    refine E_s (p' := 24) (st' := aI 0 :: _) rfl rfl ?_
    refine E_s (p' := 1180) rfl rfl ?_
    refine E_s (p' := 1181) (st' := aI 1 :: _) rfl rfl ?_
    exact E_ret rfl rfl ⟨rfl, rfl⟩
set_option maxRecDepth 100000 in
set_option maxHeartbeats 40000000 in
theorem pc_12_o (xs : Nat → Int) {z a1 a2 a3 a4 a5 : Int} (hz : b32 (fun a b => a &&& b) z 31 = 12) (h0 : xs 0 = z) (h1 : xs 1 = a1) (h2 : xs 2 = a2) (h3 : xs 3 = a3) (h4 : xs 4 = a4) (h5 : xs 5 = a5) (hr : a1 < 0 ∨ 3 < a1) : E 0 18 LL [] (s0 xs 6) PQ := by
  refine E_s (p' := 19) (st' := aI 0 :: _) rfl rfl ?_
  refine E_s (p' := 20) (st' := aA 0 :: _) rfl rfl ?_
  refine E_s (p' := 21) (st' := aI 6 :: _) rfl rfl ?_
  refine E_s (p' := 23) (st' := aI 6 :: _) rfl rfl ?_
  refine E_s (p' := 24) (st' := aI 0 :: _) rfl rfl ?_
  refine E_s (p' := 27) rfl rfl ?_
  refine E_s (p' := 28) (st' := aA 0 :: _) rfl rfl ?_
  refine E_s (p' := 29) (st' := aI 0 :: _) rfl rfl ?_
  refine E_scr rfl rfl h0 ?_
  refine E_s (p' := 32) (st' := aI 31 :: _) rfl rfl ?_
  refine E_s (p' := 33) rfl rfl ?_
  refine E_val hz ?_
  refine E_s (p' := 666) rfl rfl ?_
  refine E_s (p' := 667) (st' := aA 1 :: _) rfl rfl ?_
  refine E_s (p' := 668) (st' := aA 0 :: _) rfl rfl ?_
  refine E_s (p' := 669) (st' := aI 0 :: _) rfl rfl ?_
  refine E_s (p' := 670) (st' := aI 1 :: _) rfl rfl ?_
  refine E_s (p' := 671) (st' := aI 1 :: _) rfl rfl ?_
  refine E_scr rfl rfl h1 ?_
  refine E_s (p' := 673) (st' := aA 0 :: _) rfl rfl ?_
  refine E_s (p' := 674) (st' := aI 0 :: _) rfl rfl ?_
  refine E_s (p' := 675) (st' := aI 2 :: _) rfl rfl ?_
  refine E_s (p' := 676) (st' := aI 2 :: _) rfl rfl ?_
  refine E_scr rfl rfl h2 ?_
  refine E_s (p' := 678) (st' := aA 0 :: _) rfl rfl ?_
  refine E_s (p' := 679) (st' := aI 0 :: _) rfl rfl ?_
  refine E_s (p' := 680) (st' := aI 3 :: _) rfl rfl ?_
  refine E_s (p' := 681) (st' := aI 3 :: _) rfl rfl ?_
  refine E_scr rfl rfl h3 ?_
  refine E_callL (p' := 685) (L0 := [some (aA 1), some (aI a1), some (aI a2), some (aI a3), none, none]) rfl rfl rfl ?_
  refine E_s (p' := 1) (st' := aA 1 :: _) rfl rfl ?_
  refine E_s (p' := 2) rfl rfl ?_
  refine E_callL (p' := 5) (L0 := [some (aA 1), some (aI a1), none]) rfl rfl rfl ?_
  refine E_s (p' := 1) (st' := aA 1 :: _) rfl rfl ?_
  refine E_s (p' := 2) rfl rfl ?_
  refine E_callL (p' := 5) (L0 := [some (aA 1), some (aI a1)]) rfl rfl rfl ?_
  refine E_s (p' := 1) rfl rfl ?_
  refine E_if_lt rfl (by decide) (fun _ => ?_) (fun _ => ?_)
  · refine E_s (p' := 19) rfl rfl ?_
    refine E_ret rfl rfl ?_
    refine E_s (p' := 6) (L' := [some (aA 1), some (aI a1), some aN]) rfl rfl ?_
    refine E_s (p' := 7) rfl rfl ?_
    refine E_s (p' := 15) rfl rfl ?_
    refine E_s (p' := 16) rfl rfl ?_
    refine E_ret rfl rfl ?_
    refine E_s (p' := 7) (L' := [some (aA 1), some (aI a1), some (aI a2), some (aI a3), some aN, none]) rfl rfl ?_
    refine E_s (p' := 9) rfl rfl ?_
    refine E_s (p' := 28) rfl rfl ?_
    refine E_s (p' := 29) (st' := aI (-1) :: _) rfl rfl ?_
    refine E_ret rfl rfl ?_
    refine E_s (p' := 686) (st' := aA 124 :: _) rfl rfl ?_
    refine E_s (p' := 687) (st' := aA 0 :: _) rfl rfl ?_
    refine E_s (p' := 688) (st' := aI 0 :: _) rfl rfl ?_
    refine E_s (p' := 689) (st' := aI 1 :: _) rfl rfl ?_
    refine E_s (p' := 690) (st' := aI 1 :: _) rfl rfl ?_
    refine E_scr rfl rfl h1 ?_
    refine E_s (p' := 692) (st' := aA 0 :: _) rfl rfl ?_
    refine E_s (p' := 693) (st' := aI 0 :: _) rfl rfl ?_
    refine E_s (p' := 694) (st' := aI 2 :: _) rfl rfl ?_
    refine E_s (p' := 695) (st' := aI 2 :: _) rfl rfl ?_
    refine E_scr rfl rfl h2 ?_
    refine E_s (p' := 697) (st' := aA 0 :: _) rfl rfl ?_
    refine E_s (p' := 698) (st' := aI 0 :: _) rfl rfl ?_
    refine E_s (p' := 699) (st' := aI 3 :: _) rfl rfl ?_
    refine E_s (p' := 700) (st' := aI 3 :: _) rfl rfl ?_
    refine E_scr rfl rfl h3 ?_
    refine E_callL (p' := 704) (L0 := [some (aA 124), some (aI a1), some (aI a2), some (aI a3)]) rfl rfl rfl ?_
    refine E_s (p' := 1) rfl rfl ?_
    refine E_callL (p' := 4) (L0 := [some (aI a1)]) rfl rfl rfl ?_
    refine E_s (p' := 1) rfl rfl ?_
    refine E_s (p' := 2) (st' := aI 0 :: _) rfl rfl ?_
    refine E_s (p' := 3) (st' := aI 3 :: _) rfl rfl ?_
    refine E_callL (p' := 6) (L0 := [some (aI a1), some (aI 0), some (aI 3)]) rfl rfl rfl ?_
    refine E_s (p' := 1) rfl rfl ?_
    refine E_s (p' := 2) (st' := aI 0 :: _) rfl rfl ?_
    refine E_icmp_lt (y := 0) rfl (by decide) (fun _ => ?_) (fun q => absurd q (by omega))
    refine E_s (p' := 15) (st' := aI 0 :: _) rfl rfl ?_
    refine E_ret rfl rfl ?_
    refine E_ret rfl rfl ?_
    refine E_s (p' := 29) rfl rfl ?_
    refine E_s (p' := 30) (st' := aI (-1) :: _) rfl rfl ?_
    refine E_ret rfl rfl ?_
    refine E_s (p' := 1174) rfl rfl ?_
    refine E_s (p' := 1177) (L' := [some (aA 0), some (aA 1), some (aA 124), some (aI 6)]) rfl rfl ?_
    refine E_s (p' := 18) rfl rfl ?_
    refine E_s (p' := 19) (st' := aI 6 :: _) rfl rfl ?_
    refine E_s (p' := 20) (st' := aA 0 :: _) rfl rfl ?_
    refine E_s (p' := 21) (st' := aI 6 :: _) rfl rfl ?_
    refine E_s (p' := 23) (st' := aI 6 :: _) rfl rfl ?_
    refine E_s (p' := 24) (st' := aI 0 :: _) rfl rfl ?_
    refine E_s (p' := 1180) rfl rfl ?_
    refine E_s (p' := 1181) (st' := aI 1 :: _) rfl rfl ?_
    exact E_ret rfl rfl ⟨rfl, rfl⟩
  · refine E_s (p' := 5) rfl rfl ?_
    refine E_s (p' := 6) (st' := aI 4 :: _) rfl rfl ?_
    refine E_icmp_ge (y := 4) rfl (by decide) (fun _ => ?_) (fun q => absurd q (by omega))
    refine E_s (p' := 19) rfl rfl ?_
    refine E_ret rfl rfl ?_
    refine E_s (p' := 6) (L' := [some (aA 1), some (aI a1), some aN]) rfl rfl ?_
    refine E_s (p' := 7) rfl rfl ?_
    refine E_s (p' := 15) rfl rfl ?_
    refine E_s (p' := 16) rfl rfl ?_
    refine E_ret rfl rfl ?_
    refine E_s (p' := 7) (L' := [some (aA 1), some (aI a1), some (aI a2), some (aI a3), some aN, none]) rfl rfl ?_
    refine E_s (p' := 9) rfl rfl ?_
    refine E_s (p' := 28) rfl rfl ?_
    refine E_s (p' := 29) (st' := aI (-1) :: _) rfl rfl ?_
    refine E_ret rfl rfl ?_
    refine E_s (p' := 686) (st' := aA 124 :: _) rfl rfl ?_
    refine E_s (p' := 687) (st' := aA 0 :: _) rfl rfl ?_
    refine E_s (p' := 688) (st' := aI 0 :: _) rfl rfl ?_
    refine E_s (p' := 689) (st' := aI 1 :: _) rfl rfl ?_
    refine E_s (p' := 690) (st' := aI 1 :: _) rfl rfl ?_
    refine E_scr rfl rfl h1 ?_
    refine E_s (p' := 692) (st' := aA 0 :: _) rfl rfl ?_
    refine E_s (p' := 693) (st' := aI 0 :: _) rfl rfl ?_
    refine E_s (p' := 694) (st' := aI 2 :: _) rfl rfl ?_
    refine E_s (p' := 695) (st' := aI 2 :: _) rfl rfl ?_
    refine E_scr rfl rfl h2 ?_
    refine E_s (p' := 697) (st' := aA 0 :: _) rfl rfl ?_
    refine E_s (p' := 698) (st' := aI 0 :: _) rfl rfl ?_
    refine E_s (p' := 699) (st' := aI 3 :: _) rfl rfl ?_
    refine E_s (p' := 700) (st' := aI 3 :: _) rfl rfl ?_
    refine E_scr rfl rfl h3 ?_
    refine E_callL (p' := 704) (L0 := [some (aA 124), some (aI a1), some (aI a2), some (aI a3)]) rfl rfl rfl ?_
    refine E_s (p' := 1) rfl rfl ?_
    refine E_callL (p' := 4) (L0 := [some (aI a1)]) rfl rfl rfl ?_
    refine E_s (p' := 1) rfl rfl ?_
    refine E_s (p' := 2) (st' := aI 0 :: _) rfl rfl ?_
    refine E_s (p' := 3) (st' := aI 3 :: _) rfl rfl ?_
    refine E_callL (p' := 6) (L0 := [some (aI a1), some (aI 0), some (aI 3)]) rfl rfl rfl ?_
    refine E_s (p' := 1) rfl rfl ?_
    refine E_s (p' := 2) (st' := aI 0 :: _) rfl rfl ?_
    refine E_icmp_lt (y := 0) rfl (by decide) (fun q => absurd q (by omega)) (fun _ => ?_)
    refine E_s (p' := 6) rfl rfl ?_
    refine E_s (p' := 7) (st' := aI 3 :: _) rfl rfl ?_
    refine E_icmp_gt (y := 3) rfl (by decide) (fun _ => ?_) (fun q => absurd q (by omega))
    refine E_s (p' := 15) (st' := aI 0 :: _) rfl rfl ?_
    refine E_ret rfl rfl ?_
    refine E_ret rfl rfl ?_
    refine E_s (p' := 29) rfl rfl ?_
    refine E_s (p' := 30) (st' := aI (-1) :: _) rfl rfl ?_
    refine E_ret rfl rfl ?_
    refine E_s (p' := 1174) rfl rfl ?_
    refine E_s (p' := 1177) (L' := [some (aA 0), some (aA 1), some (aA 124), some (aI 6)]) rfl rfl ?_
    refine E_s (p' := 18) rfl rfl ?_
    refine E_s (p' := 19) (st' := aI 6 :: _) rfl rfl ?_
    refine E_s (p' := 20) (st' := aA 0 :: _) rfl rfl ?_
    refine E_s (p' := 21) (st' := aI 6 :: _) rfl rfl ?_
    refine E_s (p' := 23) (st' := aI 6 :: _) rfl rfl ?_
    refine E_s (p' := 24) (st' := aI 0 :: _) rfl rfl ?_
    refine E_s (p' := 1180) rfl rfl ?_
    refine E_s (p' := 1181) (st' := aI 1 :: _) rfl rfl ?_
    exact E_ret rfl rfl ⟨rfl, rfl⟩
set_option maxRecDepth 100000 in
set_option maxHeartbeats 40000000 in
theorem pc_13_0 (xs : Nat → Int) {z a2 a3 a4 a5 : Int} (hz : b32 (fun a b => a &&& b) z 31 = 13) (h0 : xs 0 = z) (h1 : xs 1 = 0) (h2 : xs 2 = a2) (h3 : xs 3 = a3) (h4 : xs 4 = a4) (h5 : xs 5 = a5) : E 0 18 LL [] (s0 xs 6) PQ := by
  refine E_s (p' := 19) (st' := aI 0 :: _) rfl rfl ?_
  refine E_s (p' := 20) (st' := aA 0 :: _) rfl rfl ?_
  refine E_s (p' := 21) (st' := aI 6 :: _) rfl rfl ?_
  refine E_s (p' := 23) (st' := aI 6 :: _) rfl rfl ?_
  refine E_s (p' := 24) (st' := aI 0 :: _) rfl rfl ?_
  refine E_s (p' := 27) rfl rfl ?_
  refine E_s (p' := 28) (st' := aA 0 :: _) rfl rfl ?_
  refine E_s (p' := 29) (st' := aI 0 :: _) rfl rfl ?_
  refine E_scr rfl rfl h0 ?_
  refine E_s (p' := 32) (st' := aI 31 :: _) rfl rfl ?_
  refine E_s (p' := 33) rfl rfl ?_
  refine E_val hz ?_
  refine E_s (p' := 709) rfl rfl ?_
  refine E_s (p' := 710) (st' := aA 1 :: _) rfl rfl ?_
  refine E_s (p' := 711) (st' := aA 0 :: _) rfl rfl ?_
  refine E_s (p' := 712) (st' := aI 0 :: _) rfl rfl ?_
  refine E_s (p' := 713) (st' := aI 1 :: _) rfl rfl ?_
  refine E_s (p' := 714) (st' := aI 1 :: _) rfl rfl ?_
  refine E_scr rfl rfl h1 ?_
  refine E_s (p' := 716) (st' := aA 0 :: _) rfl rfl ?_
  refine E_s (p' := 717) (st' := aI 0 :: _) rfl rfl ?_
  refine E_s (p' := 718) (st' := aI 2 :: _) rfl rfl ?_
  refine E_s (p' := 719) (st' := aI 2 :: _) rfl rfl ?_
  refine E_scr rfl rfl h2 ?_
  refine E_callL (p' := 723) (L0 := [some (aA 1), some (aI 0), some (aI a2), none]) rfl rfl rfl ?_
  refine E_s (p' := 1) (st' := aA 1 :: _) rfl rfl ?_
  refine E_s (p' := 2) (st' := aI 0 :: _) rfl rfl ?_
  refine E_callL (p' := 5) (L0 := [some (aA 1), some (aI 0), none]) rfl rfl rfl ?_
  refine E_s (p' := 1) (st' := aA 1 :: _) rfl rfl ?_
  refine E_s (p' := 2) (st' := aI 0 :: _) rfl rfl ?_
  refine E_callL (p' := 5) (L0 := [some (aA 1), some (aI 0)]) rfl rfl rfl ?_
  refine E_s (p' := 1) (st' := aI 0 :: _) rfl rfl ?_
  refine E_s (p' := 4) rfl rfl ?_
  refine E_s (p' := 5) (st' := aI 0 :: _) rfl rfl ?_
  refine E_s (p' := 6) (st' := aI 4 :: _) rfl rfl ?_
  refine E_s (p' := 9) rfl rfl ?_
  refine E_s (p' := 10) (st' := aA 1 :: _) rfl rfl ?_
  refine E_s (p' := 13) (st' := aA 2 :: _) rfl rfl ?_
  refine E_s (p' := 14) (st' := aI 0 :: _) rfl rfl ?_
  refine E_s (p' := 15) (st' := aA 20 :: _) rfl rfl ?_
  refine E_s (p' := 19) rfl rfl ?_
  refine E_ret rfl rfl ?_
  refine E_s (p' := 6) (L' := [some (aA 1), some (aI 0), some (aA 20)]) rfl rfl ?_
  refine E_s (p' := 7) (st' := aA 20 :: _) rfl rfl ?_
  refine E_s (p' := 10) rfl rfl ?_
  refine E_s (p' := 11) (st' := aA 20 :: _) rfl rfl ?_
  refine E_callL (p' := 14) (L0 := [some (aA 20)]) rfl rfl rfl ?_
  refine E_s (p' := 1) (st' := aA 20 :: _) rfl rfl ?_
  refine E_s (p' := 4) (st' := aI 0 :: _) rfl rfl ?_
  refine E_s (p' := 7) rfl rfl ?_
  refine E_s (p' := 8) (st' := aA 20 :: _) rfl rfl ?_
  refine E_s (p' := 11) (st' := aA 35 :: _) rfl rfl ?_
  refine E_s (p' := 12) (st' := aA 20 :: _) rfl rfl ?_
  refine E_s (p' := 15) (st' := aA 21 :: _) rfl rfl ?_
  refine E_s (p' := 16) (st' := aA 20 :: _) rfl rfl ?_
  refine E_s (p' := 19) (st' := aI 15 :: _) rfl rfl ?_
  refine E_callL (p' := 22) (L0 := [some (aA 35), some (aA 21), some (aI 15), none]) rfl rfl rfl ?_
  refine E_s (p' := 1) (st' := aA 35 :: _) rfl rfl ?_
  refine E_s (p' := 2) (st' := aA 21 :: _) rfl rfl ?_
  refine E_callL (p' := 5) (L0 := [some (aA 35), some (aA 21), none, none]) rfl rfl rfl ?_
  refine E_s (p' := 1) (st' := aA 35 :: _) rfl rfl ?_
  refine E_s (p' := 4) (st' := aA 44 :: _) rfl rfl ?_
  refine E_s (p' := 5) (st' := aI 0 :: _) rfl rfl ?_
  refine E_call rfl rfl ?_
  refine c_fill rfl rfl ?_
  refine E_s (p' := 9) (st' := aA 35 :: _) rfl rfl ?_
  refine E_s (p' := 12) (st' := aA 40 :: _) rfl rfl ?_
  refine E_s (p' := 13) (st' := aI 0 :: _) rfl rfl ?_
  refine E_call rfl rfl ?_
  refine c_fill rfl rfl ?_
  refine E_s (p' := 17) (st' := aA 35 :: _) rfl rfl ?_
  refine E_s (p' := 18) (st' := aI 0 :: _) rfl rfl ?_
  refine E_stM (p' := 21) (m' := up2 _ 35 10 0) rfl rfl ?_
  refine E_s (p' := 22) (st' := aA 35 :: _) rfl rfl ?_
  refine E_s (p' := 23) (st' := aI 0 :: _) rfl rfl ?_
  refine E_stM (p' := 26) (m' := up2 _ 35 11 0) rfl rfl ?_
  refine E_s (p' := 27) (st' := aI 0 :: _) rfl rfl ?_
  refine E_s (p' := 28) (L' := [some (aA 35), some (aA 21), some (aI 0), none]) rfl rfl ?_
  refine E_s (p' := 29) (st' := aI 0 :: _) rfl rfl ?_
  refine E_s (p' := 30) (st' := aA 21 :: _) rfl rfl ?_
  refine E_s (p' := 33) (st' := aI 0 :: _) rfl rfl ?_
  refine E_s (p' := 135) rfl rfl ?_
  refine E_ret rfl rfl ?_
  refine E_s (p' := 6) (st' := aA 35 :: _) rfl rfl ?_
  refine E_s (p' := 7) (st' := aI 15 :: _) rfl rfl ?_
  refine E_callL (p' := 10) (L0 := [some (aA 35), some (aI 15), none]) rfl rfl rfl ?_
  refine E_s (p' := 1) (st' := aA 35 :: _) rfl rfl ?_
  refine E_s (p' := 2) (st' := aI 0 :: _) rfl rfl ?_
  refine E_stM (p' := 5) (m' := up2 _ 35 12 0) rfl rfl ?_
  refine E_s (p' := 6) (st' := aI 1 :: _) rfl rfl ?_
  refine E_s (p' := 7) (L' := [some (aA 35), some (aI 15), some (aI 1)]) rfl rfl ?_
  refine fl_loop (gp := 0) (by decide) _ 600 1 _ rfl (fun j hj => show (if 0 ≤ j ∧ j < 601 then (0 : Int) else _) = 0 from if_pos ⟨Nat.zero_le _, hj⟩) ?_
  refine E_s (p' := 11) (st' := aA 35 :: _) rfl rfl ?_
  refine E_s (p' := 14) (st' := aI 0 :: _) rfl rfl ?_
  refine E_s (p' := 17) rfl rfl ?_
  refine E_s (p' := 18) (st' := aA 35 :: _) rfl rfl ?_
  refine E_callL (p' := 21) (L0 := [some (aA 35)]) rfl rfl rfl ?_
  refine E_s (p' := 1) (st' := aA 35 :: _) rfl rfl ?_
  refine E_s (p' := 4) (st' := aA 41 :: _) rfl rfl ?_
  refine E_s (p' := 5) (st' := aA 35 :: _) rfl rfl ?_
  refine E_s (p' := 8) (st' := aI 0 :: _) rfl rfl ?_
  refine E_s (p' := 15) rfl rfl ?_
  refine E_s (p' := 16) (st' := aI 0 :: _) rfl rfl ?_
  refine E_call rfl rfl ?_
  refine c_fill rfl rfl ?_
  refine E_s (p' := 20) (st' := aA 35 :: _) rfl rfl ?_
  refine E_s (p' := 23) (st' := aA 42 :: _) rfl rfl ?_
  refine E_s (p' := 24) (st' := aI 0 :: _) rfl rfl ?_
  refine E_call rfl rfl ?_
  refine c_fill rfl rfl ?_
  refine E_s (p' := 28) (st' := aA 35 :: _) rfl rfl ?_
  refine E_s (p' := 31) (st' := aA 43 :: _) rfl rfl ?_
  refine E_s (p' := 32) (st' := aI 0 :: _) rfl rfl ?_
  refine E_call rfl rfl ?_
  refine c_fill rfl rfl ?_
  refine E_ret rfl rfl ?_
  refine E_ret rfl rfl ?_
  refine E_s (p' := 23) (st' := aA 20 :: _) rfl rfl ?_
  refine E_s (p' := 24) (st' := aI 1 :: _) rfl rfl ?_
  refine E_stM (p' := 27) (m' := up2 _ 20 7 1) rfl rfl ?_
  refine E_s (p' := 28) (st' := aA 20 :: _) rfl rfl ?_
  refine E_s (p' := 31) (st' := aA 35 :: _) rfl rfl ?_
  refine E_ret rfl rfl ?_
  refine E_s (p' := 15) rfl rfl ?_
  refine E_s (p' := 16) (st' := aA 20 :: _) rfl rfl ?_
  refine E_ret rfl rfl ?_
  refine E_s (p' := 6) (L' := [some (aA 1), some (aI 0), some (aI a2), some (aA 20)]) rfl rfl ?_
  refine E_s (p' := 7) (st' := aA 20 :: _) rfl rfl ?_
  refine E_s (p' := 10) rfl rfl ?_
  refine E_s (p' := 11) (st' := aA 20 :: _) rfl rfl ?_
  refine E_s (p' := 14) (st' := aA 21 :: _) rfl rfl ?_
  refine E_s (p' := 15) rfl rfl ?_
  refine E_callL (p' := 18) (L0 := [some (aA 21), some (aI a2)]) rfl rfl rfl ?_
  refine E_s (p' := 1) rfl rfl ?_
  refine E_if_lt rfl (by decide) (fun _ => ?_) (fun _ => ?_)
  · refine E_s (p' := 17) (st' := aI 0 :: _) rfl rfl ?_
    refine E_ret rfl rfl ?_
    refine E_s (p' := 21) rfl rfl ?_
    refine E_s (p' := 22) (st' := aI (-1) :: _) rfl rfl ?_
    refine E_s (p' := 33) rfl rfl ?_
    refine E_ret rfl rfl ?_
    refine E_s (p' := 724) (st' := aA 124 :: _) rfl rfl ?_
    refine E_s (p' := 725) (st' := aA 0 :: _) rfl rfl ?_
    refine E_s (p' := 726) (st' := aI 0 :: _) rfl rfl ?_
    refine E_s (p' := 727) (st' := aI 1 :: _) rfl rfl ?_
    refine E_s (p' := 728) (st' := aI 1 :: _) rfl rfl ?_
    refine E_scr rfl rfl h1 ?_
    refine E_s (p' := 730) (st' := aA 0 :: _) rfl rfl ?_
    refine E_s (p' := 731) (st' := aI 0 :: _) rfl rfl ?_
    refine E_s (p' := 732) (st' := aI 2 :: _) rfl rfl ?_
    refine E_s (p' := 733) (st' := aI 2 :: _) rfl rfl ?_
    refine E_scr rfl rfl h2 ?_
    refine E_callL (p' := 737) (L0 := [some (aA 124), some (aI 0), some (aI a2)]) rfl rfl rfl ?_
    refine E_s (p' := 1) (st' := aA 124 :: _) rfl rfl ?_
    refine E_s (p' := 2) (st' := aI 0 :: _) rfl rfl ?_
    refine E_s (p' := 3) rfl rfl ?_
    refine E_callL (p' := 6) (L0 := [some (aA 124), some (aI 0), some (aI a2)]) rfl rfl rfl ?_
    refine E_s (p' := 1) (st' := aI 0 :: _) rfl rfl ?_
    refine E_callL (p' := 4) (L0 := [some (aI 0)]) rfl rfl rfl ?_
    refine E_s (p' := 1) (st' := aI 0 :: _) rfl rfl ?_
    refine E_s (p' := 2) (st' := aI 0 :: _) rfl rfl ?_
    refine E_s (p' := 3) (st' := aI 3 :: _) rfl rfl ?_
    refine E_callL (p' := 6) (L0 := [some (aI 0), some (aI 0), some (aI 3)]) rfl rfl rfl ?_
    refine E_s (p' := 1) (st' := aI 0 :: _) rfl rfl ?_
    refine E_s (p' := 2) (st' := aI 0 :: _) rfl rfl ?_
    refine E_s (p' := 5) rfl rfl ?_
    refine E_s (p' := 6) (st' := aI 0 :: _) rfl rfl ?_
    refine E_s (p' := 7) (st' := aI 3 :: _) rfl rfl ?_
    refine E_s (p' := 10) rfl rfl ?_
    refine E_s (p' := 11) (st' := aI 1 :: _) rfl rfl ?_
    refine E_s (p' := 15) rfl rfl ?_
    refine E_ret rfl rfl ?_
    refine E_ret rfl rfl ?_
    refine E_s (p' := 7) rfl rfl ?_
    refine E_s (p' := 8) rfl rfl ?_
    refine E_s (p' := 9) (st' := aI 0 :: _) rfl rfl ?_
    refine E_s (p' := 10) (st' := aA 124 :: _) rfl rfl ?_
    refine E_s (p' := 13) (st' := aA 125 :: _) rfl rfl ?_
    refine E_s (p' := 14) (st' := aI 0 :: _) rfl rfl ?_
    refine E_s (p' := 15) (st' := aI 0 :: _) rfl rfl ?_
    refine E_s (p' := 16) (st' := aI 1 :: _) rfl rfl ?_
    refine E_isubv (v := -1) rfl (show (0 : Int) - 1 = -1 from rfl) (by decide) ?_
    refine E_callL (p' := 20) (L0 := [some (aI a2), some (aI 0), some (aI (-1))]) rfl rfl rfl ?_
    refine E_s (p' := 1) rfl rfl ?_
    refine E_s (p' := 2) (st' := aI 0 :: _) rfl rfl ?_
    refine E_icmp_lt (y := 0) rfl (by decide) (fun _ => ?_) (fun q => absurd q (by omega))
    refine E_s (p' := 15) (st' := aI 0 :: _) rfl rfl ?_
    refine E_ret rfl rfl ?_
    refine E_s (p' := 27) rfl rfl ?_
    refine E_s (p' := 28) (st' := aI 0 :: _) rfl rfl ?_
    refine E_ret rfl rfl ?_
    refine E_s (p' := 9) rfl rfl ?_
    refine E_s (p' := 10) (st' := aI (-1) :: _) rfl rfl ?_
    refine E_ret rfl rfl ?_
    refine E_s (p' := 1174) rfl rfl ?_
    refine E_s (p' := 1177) (L' := [some (aA 0), some (aA 1), some (aA 124), some (aI 6)]) rfl rfl ?_
    refine E_s (p' := 18) rfl rfl ?_
    refine E_s (p' := 19) (st' := aI 6 :: _) rfl rfl ?_
    refine E_s (p' := 20) (st' := aA 0 :: _) rfl rfl ?_
    refine E_s (p' := 21) (st' := aI 6 :: _) rfl rfl ?_
    refine E_s (p' := 23) (st' := aI 6 :: _) rfl rfl ?_
    refine E_s (p' := 24) (st' := aI 0 :: _) rfl rfl ?_
    refine E_s (p' := 1180) rfl rfl ?_
    refine E_s (p' := 1181) (st' := aI 1 :: _) rfl rfl ?_
    exact E_ret rfl rfl ⟨rfl, rfl⟩
  · refine E_s (p' := 5) rfl rfl ?_
    refine E_s (p' := 6) (st' := aA 21 :: _) rfl rfl ?_
    refine E_s (p' := 9) (st' := aI 0 :: _) rfl rfl ?_
    refine E_icmp_ge (y := 0) rfl (by decide) (fun _ => ?_) (fun q => absurd q (by omega))
    refine E_s (p' := 17) (st' := aI 0 :: _) rfl rfl ?_
    refine E_ret rfl rfl ?_
    refine E_s (p' := 21) rfl rfl ?_
    refine E_s (p' := 22) (st' := aI (-1) :: _) rfl rfl ?_
    refine E_s (p' := 33) rfl rfl ?_
    refine E_ret rfl rfl ?_
    refine E_s (p' := 724) (st' := aA 124 :: _) rfl rfl ?_
    refine E_s (p' := 725) (st' := aA 0 :: _) rfl rfl ?_
    refine E_s (p' := 726) (st' := aI 0 :: _) rfl rfl ?_
    refine E_s (p' := 727) (st' := aI 1 :: _) rfl rfl ?_
    refine E_s (p' := 728) (st' := aI 1 :: _) rfl rfl ?_
    refine E_scr rfl rfl h1 ?_
    refine E_s (p' := 730) (st' := aA 0 :: _) rfl rfl ?_
    refine E_s (p' := 731) (st' := aI 0 :: _) rfl rfl ?_
    refine E_s (p' := 732) (st' := aI 2 :: _) rfl rfl ?_
    refine E_s (p' := 733) (st' := aI 2 :: _) rfl rfl ?_
    refine E_scr rfl rfl h2 ?_
    refine E_callL (p' := 737) (L0 := [some (aA 124), some (aI 0), some (aI a2)]) rfl rfl rfl ?_
    refine E_s (p' := 1) (st' := aA 124 :: _) rfl rfl ?_
    refine E_s (p' := 2) (st' := aI 0 :: _) rfl rfl ?_
    refine E_s (p' := 3) rfl rfl ?_
    refine E_callL (p' := 6) (L0 := [some (aA 124), some (aI 0), some (aI a2)]) rfl rfl rfl ?_
    refine E_s (p' := 1) (st' := aI 0 :: _) rfl rfl ?_
    refine E_callL (p' := 4) (L0 := [some (aI 0)]) rfl rfl rfl ?_
    refine E_s (p' := 1) (st' := aI 0 :: _) rfl rfl ?_
    refine E_s (p' := 2) (st' := aI 0 :: _) rfl rfl ?_
    refine E_s (p' := 3) (st' := aI 3 :: _) rfl rfl ?_
    refine E_callL (p' := 6) (L0 := [some (aI 0), some (aI 0), some (aI 3)]) rfl rfl rfl ?_
    refine E_s (p' := 1) (st' := aI 0 :: _) rfl rfl ?_
    refine E_s (p' := 2) (st' := aI 0 :: _) rfl rfl ?_
    refine E_s (p' := 5) rfl rfl ?_
    refine E_s (p' := 6) (st' := aI 0 :: _) rfl rfl ?_
    refine E_s (p' := 7) (st' := aI 3 :: _) rfl rfl ?_
    refine E_s (p' := 10) rfl rfl ?_
    refine E_s (p' := 11) (st' := aI 1 :: _) rfl rfl ?_
    refine E_s (p' := 15) rfl rfl ?_
    refine E_ret rfl rfl ?_
    refine E_ret rfl rfl ?_
    refine E_s (p' := 7) rfl rfl ?_
    refine E_s (p' := 8) rfl rfl ?_
    refine E_s (p' := 9) (st' := aI 0 :: _) rfl rfl ?_
    refine E_s (p' := 10) (st' := aA 124 :: _) rfl rfl ?_
    refine E_s (p' := 13) (st' := aA 125 :: _) rfl rfl ?_
    refine E_s (p' := 14) (st' := aI 0 :: _) rfl rfl ?_
    refine E_s (p' := 15) (st' := aI 0 :: _) rfl rfl ?_
    refine E_s (p' := 16) (st' := aI 1 :: _) rfl rfl ?_
    refine E_isubv (v := -1) rfl (show (0 : Int) - 1 = -1 from rfl) (by decide) ?_
    refine E_callL (p' := 20) (L0 := [some (aI a2), some (aI 0), some (aI (-1))]) rfl rfl rfl ?_
    refine E_s (p' := 1) rfl rfl ?_
    refine E_s (p' := 2) (st' := aI 0 :: _) rfl rfl ?_
    refine E_icmp_lt (y := 0) rfl (by decide) (fun q => absurd q (by omega)) (fun _ => ?_)
    refine E_s (p' := 6) rfl rfl ?_
    refine E_s (p' := 7) (st' := aI (-1) :: _) rfl rfl ?_
    refine E_icmp_gt (y := (-1)) rfl (by decide) (fun _ => ?_) (fun q => absurd q (by omega))
    refine E_s (p' := 15) (st' := aI 0 :: _) rfl rfl ?_
    refine E_ret rfl rfl ?_
    refine E_s (p' := 27) rfl rfl ?_
    refine E_s (p' := 28) (st' := aI 0 :: _) rfl rfl ?_
    refine E_ret rfl rfl ?_
    refine E_s (p' := 9) rfl rfl ?_
    refine E_s (p' := 10) (st' := aI (-1) :: _) rfl rfl ?_
    refine E_ret rfl rfl ?_
    refine E_s (p' := 1174) rfl rfl ?_
    refine E_s (p' := 1177) (L' := [some (aA 0), some (aA 1), some (aA 124), some (aI 6)]) rfl rfl ?_
    refine E_s (p' := 18) rfl rfl ?_
    refine E_s (p' := 19) (st' := aI 6 :: _) rfl rfl ?_
    refine E_s (p' := 20) (st' := aA 0 :: _) rfl rfl ?_
    refine E_s (p' := 21) (st' := aI 6 :: _) rfl rfl ?_
    refine E_s (p' := 23) (st' := aI 6 :: _) rfl rfl ?_
    refine E_s (p' := 24) (st' := aI 0 :: _) rfl rfl ?_
    refine E_s (p' := 1180) rfl rfl ?_
    refine E_s (p' := 1181) (st' := aI 1 :: _) rfl rfl ?_
    exact E_ret rfl rfl ⟨rfl, rfl⟩
