set_option maxRecDepth 100000 in
set_option maxHeartbeats 40000000 in
theorem pc_0_3 (xs : Nat → Int) {z a2 a3 a4 a5 : Int} (hz : b32 (fun a b => a &&& b) z 31 = 0) (h0 : xs 0 = z) (h1 : xs 1 = 3) (h2 : xs 2 = a2) (h3 : xs 3 = a3) (h4 : xs 4 = a4) (h5 : xs 5 = a5) : E 0 18 LL [] (s0 xs 6) PQ := by
  refine E_s (p' := 19) (st' := aI 0 :: _) rfl rfl ?_
  refine E_s (p' := 20) (st' := aA 0 :: _) rfl rfl ?_
  refine E_s (p' := 21) (st' := aI 6 :: _) rfl rfl ?_
  refine E_s (p' := 23) (st' := aI 6 :: _) rfl rfl ?_
  refine E_s (p' := 24) (st' := aI 0 :: _) rfl rfl ?_
  refine E_s (p' := 27) rfl rfl ?_
  refine E_s (p' := 28) (st' := aA 0 :: _) rfl rfl ?_
  refine E_s (p' := 29) (st' := aI 0 :: _) rfl rfl ?_
  refine E_scr rfl rfl h0 ?_
  refine E_s (p' := 32) (st' := aI 31 :: _) rfl rfl ?_
  refine E_s (p' := 33) rfl rfl ?_
  refine E_val hz ?_
  refine E_s (p' := 160) rfl rfl ?_
  refine E_s (p' := 161) (st' := aA 1 :: _) rfl rfl ?_
  refine E_s (p' := 162) (st' := aA 0 :: _) rfl rfl ?_
  refine E_s (p' := 163) (st' := aI 0 :: _) rfl rfl ?_
  refine E_s (p' := 164) (st' := aI 1 :: _) rfl rfl ?_
  refine E_s (p' := 165) (st' := aI 1 :: _) rfl rfl ?_
  refine E_scr rfl rfl h1 ?_
  refine E_s (p' := 167) (st' := aA 0 :: _) rfl rfl ?_
  refine E_s (p' := 168) (st' := aI 0 :: _) rfl rfl ?_
  refine E_s (p' := 169) (st' := aI 2 :: _) rfl rfl ?_
  refine E_s (p' := 170) (st' := aI 2 :: _) rfl rfl ?_
  refine E_scr rfl rfl h2 ?_
  refine E_s (p' := 172) (st' := aA 0 :: _) rfl rfl ?_
  refine E_s (p' := 173) (st' := aI 0 :: _) rfl rfl ?_
  refine E_s (p' := 174) (st' := aI 3 :: _) rfl rfl ?_
  refine E_s (p' := 175) (st' := aI 3 :: _) rfl rfl ?_
  refine E_scr rfl rfl h3 ?_
  refine E_s (p' := 177) (st' := aA 0 :: _) rfl rfl ?_
  refine E_s (p' := 178) (st' := aI 0 :: _) rfl rfl ?_
  refine E_s (p' := 179) (st' := aI 4 :: _) rfl rfl ?_
  refine E_s (p' := 180) (st' := aI 4 :: _) rfl rfl ?_
  refine E_scr rfl rfl h4 ?_
  refine E_callL (p' := 184) (L0 := [some (aA 1), some (aI 3), some (aI a2), some (aI a3), some (aI a4), none]) rfl rfl rfl ?_
  refine E_s (p' := 1) (st' := aA 1 :: _) rfl rfl ?_
  refine E_s (p' := 2) (st' := aI 3 :: _) rfl rfl ?_
  refine E_callL (p' := 5) (L0 := [some (aA 1), some (aI 3)]) rfl rfl rfl ?_
  refine E_s (p' := 1) (st' := aI 3 :: _) rfl rfl ?_
  refine E_s (p' := 4) rfl rfl ?_
  refine E_s (p' := 5) (st' := aI 3 :: _) rfl rfl ?_
  refine E_s (p' := 6) (st' := aI 4 :: _) rfl rfl ?_
  refine E_s (p' := 9) rfl rfl ?_
  refine E_s (p' := 10) (st' := aA 1 :: _) rfl rfl ?_
  refine E_s (p' := 13) (st' := aA 2 :: _) rfl rfl ?_
  refine E_s (p' := 14) (st' := aI 3 :: _) rfl rfl ?_
  refine E_s (p' := 15) (st' := aA 98 :: _) rfl rfl ?_
  refine E_s (p' := 19) rfl rfl ?_
  refine E_ret rfl rfl ?_
  refine E_s (p' := 7) (L' := [some (aA 1), some (aI 3), some (aI a2), some (aI a3), some (aI a4), some (aA 98)]) rfl rfl ?_
  refine E_s (p' := 9) (st' := aA 98 :: _) rfl rfl ?_
  refine E_s (p' := 12) rfl rfl ?_
  refine E_s (p' := 13) rfl rfl ?_
  refine E_if_lt rfl (by decide) (fun _ => ?_) (fun _ => ?_)
  · refine E_s (p' := 33) (st' := aI (-2) :: _) rfl rfl ?_
    refine E_ret rfl rfl ?_
    refine E_s (p' := 185) (st' := aA 124 :: _) rfl rfl ?_
    refine E_s (p' := 186) (st' := aA 0 :: _) rfl rfl ?_
    refine E_s (p' := 187) (st' := aI 0 :: _) rfl rfl ?_
    refine E_s (p' := 188) (st' := aI 1 :: _) rfl rfl ?_
    refine E_s (p' := 189) (st' := aI 1 :: _) rfl rfl ?_
    refine E_scr rfl rfl h1 ?_
    refine E_s (p' := 191) (st' := aA 0 :: _) rfl rfl ?_
    refine E_s (p' := 192) (st' := aI 0 :: _) rfl rfl ?_
    refine E_s (p' := 193) (st' := aI 2 :: _) rfl rfl ?_
    refine E_s (p' := 194) (st' := aI 2 :: _) rfl rfl ?_
    refine E_scr rfl rfl h2 ?_
    refine E_s (p' := 196) (st' := aA 0 :: _) rfl rfl ?_
    refine E_s (p' := 197) (st' := aI 0 :: _) rfl rfl ?_
    refine E_s (p' := 198) (st' := aI 3 :: _) rfl rfl ?_
    refine E_s (p' := 199) (st' := aI 3 :: _) rfl rfl ?_
    refine E_scr rfl rfl h3 ?_
    refine E_s (p' := 201) (st' := aA 0 :: _) rfl rfl ?_
    refine E_s (p' := 202) (st' := aI 0 :: _) rfl rfl ?_
    refine E_s (p' := 203) (st' := aI 4 :: _) rfl rfl ?_
    refine E_s (p' := 204) (st' := aI 4 :: _) rfl rfl ?_
    refine E_scr rfl rfl h4 ?_
    refine E_callL (p' := 208) (L0 := [some (aA 124), some (aI 3), some (aI a2), some (aI a3), some (aI a4)]) rfl rfl rfl ?_
    refine E_s (p' := 1) (st' := aI 3 :: _) rfl rfl ?_
    refine E_callL (p' := 4) (L0 := [some (aI 3)]) rfl rfl rfl ?_
    refine E_s (p' := 1) (st' := aI 3 :: _) rfl rfl ?_
    refine E_s (p' := 2) (st' := aI 0 :: _) rfl rfl ?_
    refine E_s (p' := 3) (st' := aI 3 :: _) rfl rfl ?_
    refine E_callL (p' := 6) (L0 := [some (aI 3), some (aI 0), some (aI 3)]) rfl rfl rfl ?_
    refine E_s (p' := 1) (st' := aI 3 :: _) rfl rfl ?_
    refine E_s (p' := 2) (st' := aI 0 :: _) rfl rfl ?_
    refine E_s (p' := 5) rfl rfl ?_
    refine E_s (p' := 6) (st' := aI 3 :: _) rfl rfl ?_
    refine E_s (p' := 7) (st' := aI 3 :: _) rfl rfl ?_
    refine E_s (p' := 10) rfl rfl ?_
    refine E_s (p' := 11) (st' := aI 1 :: _) rfl rfl ?_
    refine E_s (p' := 15) rfl rfl ?_
    refine E_ret rfl rfl ?_
    refine E_ret rfl rfl ?_
    refine E_s (p' := 7) rfl rfl ?_
    refine E_s (p' := 8) rfl rfl ?_
    refine E_s (p' := 9) (st' := aI 0 :: _) rfl rfl ?_
    refine E_s (p' := 11) (st' := aI 11 :: _) rfl rfl ?_
    refine E_callL (p' := 14) (L0 := [some (aI a2), some (aI 0), some (aI 11)]) rfl rfl rfl ?_
    refine E_s (p' := 1) rfl rfl ?_
    refine E_s (p' := 2) (st' := aI 0 :: _) rfl rfl ?_
    refine E_icmp_lt (y := 0) rfl (by decide) (fun _ => ?_) (fun q => absurd q (by omega))
    refine E_s (p' := 15) (st' := aI 0 :: _) rfl rfl ?_
    refine E_ret rfl rfl ?_
    refine E_s (p' := 26) rfl rfl ?_
    refine E_s (p' := 28) (st' := aI (-2) :: _) rfl rfl ?_
    refine E_ret rfl rfl ?_
    refine E_s (p' := 1174) rfl rfl ?_
    refine E_s (p' := 1177) (L' := [some (aA 0), some (aA 1), some (aA 124), some (aI 6)]) rfl rfl ?_
    refine E_s (p' := 18) rfl rfl ?_
    refine E_s (p' := 19) (st' := aI 6 :: _) rfl rfl ?_
    refine E_s (p' := 20) (st' := aA 0 :: _) rfl rfl ?_
    refine E_s (p' := 21) (st' := aI 6 :: _) rfl rfl ?_
    refine E_s (p' := 23) (st' := aI 6 :: _) rfl rfl ?_
    refine E_s (p' := 24) (st' := aI 0 :: _) rfl rfl ?_
    refine E_s (p' := 1180) rfl rfl ?_
    refine E_s (p' := 1181) (st' := aI 1 :: _) rfl rfl ?_
    exact E_ret rfl rfl ⟨rfl, rfl⟩
  · refine E_s (p' := 17) rfl rfl ?_
    refine E_s (p' := 19) (st' := aI 12 :: _) rfl rfl ?_
    refine E_icmp_ge (y := 12) rfl (by decide) (fun _ => ?_) (fun _ => ?_)
    · refine E_s (p' := 33) (st' := aI (-2) :: _) rfl rfl ?_
      refine E_ret rfl rfl ?_
      refine E_s (p' := 185) (st' := aA 124 :: _) rfl rfl ?_
      refine E_s (p' := 186) (st' := aA 0 :: _) rfl rfl ?_
      refine E_s (p' := 187) (st' := aI 0 :: _) rfl rfl ?_
      refine E_s (p' := 188) (st' := aI 1 :: _) rfl rfl ?_
      refine E_s (p' := 189) (st' := aI 1 :: _) rfl rfl ?_
      refine E_scr rfl rfl h1 ?_
      refine E_s (p' := 191) (st' := aA 0 :: _) rfl rfl ?_
      refine E_s (p' := 192) (st' := aI 0 :: _) rfl rfl ?_
      refine E_s (p' := 193) (st' := aI 2 :: _) rfl rfl ?_
      refine E_s (p' := 194) (st' := aI 2 :: _) rfl rfl ?_
      refine E_scr rfl rfl h2 ?_
      refine E_s (p' := 196) (st' := aA 0 :: _) rfl rfl ?_
      refine E_s (p' := 197) (st' := aI 0 :: _) rfl rfl ?_
      refine E_s (p' := 198) (st' := aI 3 :: _) rfl rfl ?_
      refine E_s (p' := 199) (st' := aI 3 :: _) rfl rfl ?_
      refine E_scr rfl rfl h3 ?_
      refine E_s (p' := 201) (st' := aA 0 :: _) rfl rfl ?_
      refine E_s (p' := 202) (st' := aI 0 :: _) rfl rfl ?_
      refine E_s (p' := 203) (st' := aI 4 :: _) rfl rfl ?_
      refine E_s (p' := 204) (st' := aI 4 :: _) rfl rfl ?_
      refine E_scr rfl rfl h4 ?_
      refine E_callL (p' := 208) (L0 := [some (aA 124), some (aI 3), some (aI a2), some (aI a3), some (aI a4)]) rfl rfl rfl ?_
      refine E_s (p' := 1) (st' := aI 3 :: _) rfl rfl ?_
      refine E_callL (p' := 4) (L0 := [some (aI 3)]) rfl rfl rfl ?_
      refine E_s (p' := 1) (st' := aI 3 :: _) rfl rfl ?_
      refine E_s (p' := 2) (st' := aI 0 :: _) rfl rfl ?_
      refine E_s (p' := 3) (st' := aI 3 :: _) rfl rfl ?_
      refine E_callL (p' := 6) (L0 := [some (aI 3), some (aI 0), some (aI 3)]) rfl rfl rfl ?_
      refine E_s (p' := 1) (st' := aI 3 :: _) rfl rfl ?_
      refine E_s (p' := 2) (st' := aI 0 :: _) rfl rfl ?_
      refine E_s (p' := 5) rfl rfl ?_
      refine E_s (p' := 6) (st' := aI 3 :: _) rfl rfl ?_
      refine E_s (p' := 7) (st' := aI 3 :: _) rfl rfl ?_
      refine E_s (p' := 10) rfl rfl ?_
      refine E_s (p' := 11) (st' := aI 1 :: _) rfl rfl ?_
      refine E_s (p' := 15) rfl rfl ?_
      refine E_ret rfl rfl ?_
      refine E_ret rfl rfl ?_
      refine E_s (p' := 7) rfl rfl ?_
      refine E_s (p' := 8) rfl rfl ?_
      refine E_s (p' := 9) (st' := aI 0 :: _) rfl rfl ?_
      refine E_s (p' := 11) (st' := aI 11 :: _) rfl rfl ?_
      refine E_callL (p' := 14) (L0 := [some (aI a2), some (aI 0), some (aI 11)]) rfl rfl rfl ?_
      refine E_s (p' := 1) rfl rfl ?_
      refine E_s (p' := 2) (st' := aI 0 :: _) rfl rfl ?_
      refine E_icmp_lt (y := 0) rfl (by decide) (fun q => absurd q (by omega)) (fun _ => ?_)
      refine E_s (p' := 6) rfl rfl ?_
      refine E_s (p' := 7) (st' := aI 11 :: _) rfl rfl ?_
      refine E_icmp_gt (y := 11) rfl (by decide) (fun _ => ?_) (fun q => absurd q (by omega))
      refine E_s (p' := 15) (st' := aI 0 :: _) rfl rfl ?_
      refine E_ret rfl rfl ?_
      refine E_s (p' := 26) rfl rfl ?_
      refine E_s (p' := 28) (st' := aI (-2) :: _) rfl rfl ?_
      refine E_ret rfl rfl ?_
      refine E_s (p' := 1174) rfl rfl ?_
      refine E_s (p' := 1177) (L' := [some (aA 0), some (aA 1), some (aA 124), some (aI 6)]) rfl rfl ?_
      refine E_s (p' := 18) rfl rfl ?_
      refine E_s (p' := 19) (st' := aI 6 :: _) rfl rfl ?_
      refine E_s (p' := 20) (st' := aA 0 :: _) rfl rfl ?_
      refine E_s (p' := 21) (st' := aI 6 :: _) rfl rfl ?_
      refine E_s (p' := 23) (st' := aI 6 :: _) rfl rfl ?_
      refine E_s (p' := 24) (st' := aI 0 :: _) rfl rfl ?_
      refine E_s (p' := 1180) rfl rfl ?_
      refine E_s (p' := 1181) (st' := aI 1 :: _) rfl rfl ?_
      exact E_ret rfl rfl ⟨rfl, rfl⟩
    · refine E_s (p' := 23) rfl rfl ?_
      refine E_s (p' := 25) rfl rfl ?_
      refine E_callL (p' := 28) (L0 := [some (aI a3), some (aI a4)]) rfl rfl rfl ?_
      refine E_s (p' := 1) rfl rfl ?_
      refine E_if_lt rfl (by decide) (fun _ => ?_) (fun _ => ?_)
      · refine E_s (p' := 28) (st' := aI 0 :: _) rfl rfl ?_
        refine E_ret rfl rfl ?_
        refine E_s (p' := 31) rfl rfl ?_
        refine E_s (p' := 33) (st' := aI (-2) :: _) rfl rfl ?_
        refine E_ret rfl rfl ?_
        refine E_s (p' := 185) (st' := aA 124 :: _) rfl rfl ?_
        refine E_s (p' := 186) (st' := aA 0 :: _) rfl rfl ?_
        refine E_s (p' := 187) (st' := aI 0 :: _) rfl rfl ?_
        refine E_s (p' := 188) (st' := aI 1 :: _) rfl rfl ?_
        refine E_s (p' := 189) (st' := aI 1 :: _) rfl rfl ?_
        refine E_scr rfl rfl h1 ?_
        refine E_s (p' := 191) (st' := aA 0 :: _) rfl rfl ?_
        refine E_s (p' := 192) (st' := aI 0 :: _) rfl rfl ?_
        refine E_s (p' := 193) (st' := aI 2 :: _) rfl rfl ?_
        refine E_s (p' := 194) (st' := aI 2 :: _) rfl rfl ?_
        refine E_scr rfl rfl h2 ?_
        refine E_s (p' := 196) (st' := aA 0 :: _) rfl rfl ?_
        refine E_s (p' := 197) (st' := aI 0 :: _) rfl rfl ?_
        refine E_s (p' := 198) (st' := aI 3 :: _) rfl rfl ?_
        refine E_s (p' := 199) (st' := aI 3 :: _) rfl rfl ?_
        refine E_scr rfl rfl h3 ?_
        refine E_s (p' := 201) (st' := aA 0 :: _) rfl rfl ?_
        refine E_s (p' := 202) (st' := aI 0 :: _) rfl rfl ?_
        refine E_s (p' := 203) (st' := aI 4 :: _) rfl rfl ?_
        refine E_s (p' := 204) (st' := aI 4 :: _) rfl rfl ?_
        refine E_scr rfl rfl h4 ?_
        refine E_callL (p' := 208) (L0 := [some (aA 124), some (aI 3), some (aI a2), some (aI a3), some (aI a4)]) rfl rfl rfl ?_
        refine E_s (p' := 1) (st' := aI 3 :: _) rfl rfl ?_
        refine E_callL (p' := 4) (L0 := [some (aI 3)]) rfl rfl rfl ?_
        refine E_s (p' := 1) (st' := aI 3 :: _) rfl rfl ?_
        refine E_s (p' := 2) (st' := aI 0 :: _) rfl rfl ?_
        refine E_s (p' := 3) (st' := aI 3 :: _) rfl rfl ?_
        refine E_callL (p' := 6) (L0 := [some (aI 3), some (aI 0), some (aI 3)]) rfl rfl rfl ?_
        refine E_s (p' := 1) (st' := aI 3 :: _) rfl rfl ?_
        refine E_s (p' := 2) (st' := aI 0 :: _) rfl rfl ?_
        refine E_s (p' := 5) rfl rfl ?_
        refine E_s (p' := 6) (st' := aI 3 :: _) rfl rfl ?_
        refine E_s (p' := 7) (st' := aI 3 :: _) rfl rfl ?_
        refine E_s (p' := 10) rfl rfl ?_
        refine E_s (p' := 11) (st' := aI 1 :: _) rfl rfl ?_
        refine E_s (p' := 15) rfl rfl ?_
        refine E_ret rfl rfl ?_
        refine E_ret rfl rfl ?_
        refine E_s (p' := 7) rfl rfl ?_
        refine E_s (p' := 8) rfl rfl ?_
        refine E_s (p' := 9) (st' := aI 0 :: _) rfl rfl ?_
        refine E_s (p' := 11) (st' := aI 11 :: _) rfl rfl ?_
        refine E_callL (p' := 14) (L0 := [some (aI a2), some (aI 0), some (aI 11)]) rfl rfl rfl ?_
        refine E_s (p' := 1) rfl rfl ?_
        refine E_s (p' := 2) (st' := aI 0 :: _) rfl rfl ?_
        refine E_icmp_lt (y := 0) rfl (by decide) (fun q => absurd q (by omega)) (fun _ => ?_)
        refine E_s (p' := 6) rfl rfl ?_
        refine E_s (p' := 7) (st' := aI 11 :: _) rfl rfl ?_
        refine E_icmp_gt (y := 11) rfl (by decide) (fun q => absurd q (by omega)) (fun _ => ?_)
        refine E_s (p' := 11) (st' := aI 1 :: _) rfl rfl ?_
        refine E_s (p' := 15) rfl rfl ?_
        refine E_ret rfl rfl ?_
        refine E_s (p' := 17) rfl rfl ?_
        refine E_s (p' := 18) rfl rfl ?_
        refine E_s (p' := 20) rfl rfl ?_
        refine E_callL (p' := 23) (L0 := [some (aI a3), some (aI a4)]) rfl rfl rfl ?_
        refine E_s (p' := 1) rfl rfl ?_
        refine E_s (p' := 2) (st' := aI 0 :: _) rfl rfl ?_
        refine E_s (p' := 4) (st' := aI 23 :: _) rfl rfl ?_
        refine E_callL (p' := 7) (L0 := [some (aI a3), some (aI 0), some (aI 23)]) rfl rfl rfl ?_
        refine E_s (p' := 1) rfl rfl ?_
        refine E_s (p' := 2) (st' := aI 0 :: _) rfl rfl ?_
        refine E_icmp_lt (y := 0) rfl (by decide) (fun _ => ?_) (fun q => absurd q (by omega))
        refine E_s (p' := 15) (st' := aI 0 :: _) rfl rfl ?_
        refine E_ret rfl rfl ?_
        refine E_s (p' := 26) rfl rfl ?_
        refine E_s (p' := 27) (st' := aI 0 :: _) rfl rfl ?_
        refine E_ret rfl rfl ?_
        refine E_s (p' := 26) rfl rfl ?_
        refine E_s (p' := 28) (st' := aI (-2) :: _) rfl rfl ?_
        refine E_ret rfl rfl ?_
        refine E_s (p' := 1174) rfl rfl ?_
        refine E_s (p' := 1177) (L' := [some (aA 0), some (aA 1), some (aA 124), some (aI 6)]) rfl rfl ?_
        refine E_s (p' := 18) rfl rfl ?_
        refine E_s (p' := 19) (st' := aI 6 :: _) rfl rfl ?_
        refine E_s (p' := 20) (st' := aA 0 :: _) rfl rfl ?_
        refine E_s (p' := 21) (st' := aI 6 :: _) rfl rfl ?_
        refine E_s (p' := 23) (st' := aI 6 :: _) rfl rfl ?_
        refine E_s (p' := 24) (st' := aI 0 :: _) rfl rfl ?_
        refine E_s (p' := 1180) rfl rfl ?_
        refine E_s (p' := 1181) (st' := aI 1 :: _) rfl rfl ?_
        exact E_ret rfl rfl ⟨rfl, rfl⟩
      · refine E_s (p' := 5) rfl rfl ?_
        refine E_s (p' := 7) (st' := aI 24 :: _) rfl rfl ?_
        refine E_icmp_ge (y := 24) rfl (by decide) (fun _ => ?_) (fun _ => ?_)
        · refine E_s (p' := 28) (st' := aI 0 :: _) rfl rfl ?_
          refine E_ret rfl rfl ?_
          refine E_s (p' := 31) rfl rfl ?_
          refine E_s (p' := 33) (st' := aI (-2) :: _) rfl rfl ?_
          refine E_ret rfl rfl ?_
          refine E_s (p' := 185) (st' := aA 124 :: _) rfl rfl ?_
          refine E_s (p' := 186) (st' := aA 0 :: _) rfl rfl ?_
          refine E_s (p' := 187) (st' := aI 0 :: _) rfl rfl ?_
          refine E_s (p' := 188) (st' := aI 1 :: _) rfl rfl ?_
          refine E_s (p' := 189) (st' := aI 1 :: _) rfl rfl ?_
          refine E_scr rfl rfl h1 ?_
          refine E_s (p' := 191) (st' := aA 0 :: _) rfl rfl ?_
          refine E_s (p' := 192) (st' := aI 0 :: _) rfl rfl ?_
          refine E_s (p' := 193) (st' := aI 2 :: _) rfl rfl ?_
          refine E_s (p' := 194) (st' := aI 2 :: _) rfl rfl ?_
          refine E_scr rfl rfl h2 ?_
          refine E_s (p' := 196) (st' := aA 0 :: _) rfl rfl ?_
          refine E_s (p' := 197) (st' := aI 0 :: _) rfl rfl ?_
          refine E_s (p' := 198) (st' := aI 3 :: _) rfl rfl ?_
          refine E_s (p' := 199) (st' := aI 3 :: _) rfl rfl ?_
          refine E_scr rfl rfl h3 ?_
          refine E_s (p' := 201) (st' := aA 0 :: _) rfl rfl ?_
          refine E_s (p' := 202) (st' := aI 0 :: _) rfl rfl ?_
          refine E_s (p' := 203) (st' := aI 4 :: _) rfl rfl ?_
          refine E_s (p' := 204) (st' := aI 4 :: _) rfl rfl ?_
          refine E_scr rfl rfl h4 ?_
          refine E_callL (p' := 208) (L0 := [some (aA 124), some (aI 3), some (aI a2), some (aI a3), some (aI a4)]) rfl rfl rfl ?_
          refine E_s (p' := 1) (st' := aI 3 :: _) rfl rfl ?_
          refine E_callL (p' := 4) (L0 := [some (aI 3)]) rfl rfl rfl ?_
          refine E_s (p' := 1) (st' := aI 3 :: _) rfl rfl ?_
          refine E_s (p' := 2) (st' := aI 0 :: _) rfl rfl ?_
          refine E_s (p' := 3) (st' := aI 3 :: _) rfl rfl ?_
          refine E_callL (p' := 6) (L0 := [some (aI 3), some (aI 0), some (aI 3)]) rfl rfl rfl ?_
          refine E_s (p' := 1) (st' := aI 3 :: _) rfl rfl ?_
          refine E_s (p' := 2) (st' := aI 0 :: _) rfl rfl ?_
          refine E_s (p' := 5) rfl rfl ?_
          refine E_s (p' := 6) (st' := aI 3 :: _) rfl rfl ?_
          refine E_s (p' := 7) (st' := aI 3 :: _) rfl rfl ?_
          refine E_s (p' := 10) rfl rfl ?_
          refine E_s (p' := 11) (st' := aI 1 :: _) rfl rfl ?_
          refine E_s (p' := 15) rfl rfl ?_
          refine E_ret rfl rfl ?_
          refine E_ret rfl rfl ?_
          refine E_s (p' := 7) rfl rfl ?_
          refine E_s (p' := 8) rfl rfl ?_
          refine E_s (p' := 9) (st' := aI 0 :: _) rfl rfl ?_
          refine E_s (p' := 11) (st' := aI 11 :: _) rfl rfl ?_
          refine E_callL (p' := 14) (L0 := [some (aI a2), some (aI 0), some (aI 11)]) rfl rfl rfl ?_
          refine E_s (p' := 1) rfl rfl ?_
          refine E_s (p' := 2) (st' := aI 0 :: _) rfl rfl ?_
          refine E_icmp_lt (y := 0) rfl (by decide) (fun q => absurd q (by omega)) (fun _ => ?_)
          refine E_s (p' := 6) rfl rfl ?_
          refine E_s (p' := 7) (st' := aI 11 :: _) rfl rfl ?_
          refine E_icmp_gt (y := 11) rfl (by decide) (fun q => absurd q (by omega)) (fun _ => ?_)
          refine E_s (p' := 11) (st' := aI 1 :: _) rfl rfl ?_
          refine E_s (p' := 15) rfl rfl ?_
          refine E_ret rfl rfl ?_
          refine E_s (p' := 17) rfl rfl ?_
          refine E_s (p' := 18) rfl rfl ?_
          refine E_s (p' := 20) rfl rfl ?_
          refine E_callL (p' := 23) (L0 := [some (aI a3), some (aI a4)]) rfl rfl rfl ?_
          refine E_s (p' := 1) rfl rfl ?_
          refine E_s (p' := 2) (st' := aI 0 :: _) rfl rfl ?_
          refine E_s (p' := 4) (st' := aI 23 :: _) rfl rfl ?_
          refine E_callL (p' := 7) (L0 := [some (aI a3), some (aI 0), some (aI 23)]) rfl rfl rfl ?_
          refine E_s (p' := 1) rfl rfl ?_
          refine E_s (p' := 2) (st' := aI 0 :: _) rfl rfl ?_
          refine E_icmp_lt (y := 0) rfl (by decide) (fun q => absurd q (by omega)) (fun _ => ?_)
          refine E_s (p' := 6) rfl rfl ?_
          refine E_s (p' := 7) (st' := aI 23 :: _) rfl rfl ?_
          refine E_icmp_gt (y := 23) rfl (by decide) (fun _ => ?_) (fun q => absurd q (by omega))
          refine E_s (p' := 15) (st' := aI 0 :: _) rfl rfl ?_
          refine E_ret rfl rfl ?_
          refine E_s (p' := 26) rfl rfl ?_
          refine E_s (p' := 27) (st' := aI 0 :: _) rfl rfl ?_
          refine E_ret rfl rfl ?_
          refine E_s (p' := 26) rfl rfl ?_
          refine E_s (p' := 28) (st' := aI (-2) :: _) rfl rfl ?_
          refine E_ret rfl rfl ?_
          refine E_s (p' := 1174) rfl rfl ?_
          refine E_s (p' := 1177) (L' := [some (aA 0), some (aA 1), some (aA 124), some (aI 6)]) rfl rfl ?_
          refine E_s (p' := 18) rfl rfl ?_
          refine E_s (p' := 19) (st' := aI 6 :: _) rfl rfl ?_
          refine E_s (p' := 20) (st' := aA 0 :: _) rfl rfl ?_
          refine E_s (p' := 21) (st' := aI 6 :: _) rfl rfl ?_
          refine E_s (p' := 23) (st' := aI 6 :: _) rfl rfl ?_
          refine E_s (p' := 24) (st' := aI 0 :: _) rfl rfl ?_
          refine E_s (p' := 1180) rfl rfl ?_
          refine E_s (p' := 1181) (st' := aI 1 :: _) rfl rfl ?_
          exact E_ret rfl rfl ⟨rfl, rfl⟩
        · refine E_s (p' := 11) rfl rfl ?_
          refine E_s (p' := 13) (st' := aI 10 :: _) rfl rfl ?_
          refine E_icmp_lt (y := 10) rfl (by decide) (fun _ => ?_) (fun _ => ?_)
          · refine E_s (p' := 28) (st' := aI 0 :: _) rfl rfl ?_
            refine E_ret rfl rfl ?_
            refine E_s (p' := 31) rfl rfl ?_
            refine E_s (p' := 33) (st' := aI (-2) :: _) rfl rfl ?_
            refine E_ret rfl rfl ?_
            refine E_s (p' := 185) (st' := aA 124 :: _) rfl rfl ?_
            refine E_s (p' := 186) (st' := aA 0 :: _) rfl rfl ?_
            refine E_s (p' := 187) (st' := aI 0 :: _) rfl rfl ?_
            refine E_s (p' := 188) (st' := aI 1 :: _) rfl rfl ?_
            refine E_s (p' := 189) (st' := aI 1 :: _) rfl rfl ?_
            refine E_scr rfl rfl h1 ?_
            refine E_s (p' := 191) (st' := aA 0 :: _) rfl rfl ?_
            refine E_s (p' := 192) (st' := aI 0 :: _) rfl rfl ?_
            refine E_s (p' := 193) (st' := aI 2 :: _) rfl rfl ?_
            refine E_s (p' := 194) (st' := aI 2 :: _) rfl rfl ?_
            refine E_scr rfl rfl h2 ?_
            refine E_s (p' := 196) (st' := aA 0 :: _) rfl rfl ?_
            refine E_s (p' := 197) (st' := aI 0 :: _) rfl rfl ?_
            refine E_s (p' := 198) (st' := aI 3 :: _) rfl rfl ?_
            refine E_s (p' := 199) (st' := aI 3 :: _) rfl rfl ?_
            refine E_scr rfl rfl h3 ?_
            refine E_s (p' := 201) (st' := aA 0 :: _) rfl rfl ?_
            refine E_s (p' := 202) (st' := aI 0 :: _) rfl rfl ?_
            refine E_s (p' := 203) (st' := aI 4 :: _) rfl rfl ?_
            refine E_s (p' := 204) (st' := aI 4 :: _) rfl rfl ?_
            refine E_scr rfl rfl h4 ?_
            refine E_callL (p' := 208) (L0 := [some (aA 124), some (aI 3), some (aI a2), some (aI a3), some (aI a4)]) rfl rfl rfl ?_
            refine E_s (p' := 1) (st' := aI 3 :: _) rfl rfl ?_
            refine E_callL (p' := 4) (L0 := [some (aI 3)]) rfl rfl rfl ?_
            refine E_s (p' := 1) (st' := aI 3 :: _) rfl rfl ?_
            refine E_s (p' := 2) (st' := aI 0 :: _) rfl rfl ?_
            refine E_s (p' := 3) (st' := aI 3 :: _) rfl rfl ?_
            refine E_callL (p' := 6) (L0 := [some (aI 3), some (aI 0), some (aI 3)]) rfl rfl rfl ?_
            refine E_s (p' := 1) (st' := aI 3 :: _) rfl rfl ?_
            refine E_s (p' := 2) (st' := aI 0 :: _) rfl rfl ?_
            refine E_s (p' := 5) rfl rfl ?_
            refine E_s (p' := 6) (st' := aI 3 :: _) rfl rfl ?_
            refine E_s (p' := 7) (st' := aI 3 :: _) rfl rfl ?_
            refine E_s (p' := 10) rfl rfl ?_
            refine E_s (p' := 11) (st' := aI 1 :: _) rfl rfl ?_
            refine E_s (p' := 15) rfl rfl ?_
            refine E_ret rfl rfl ?_
            refine E_ret rfl rfl ?_
            refine E_s (p' := 7) rfl rfl ?_
            refine E_s (p' := 8) rfl rfl ?_
            refine E_s (p' := 9) (st' := aI 0 :: _) rfl rfl ?_
            refine E_s (p' := 11) (st' := aI 11 :: _) rfl rfl ?_
            refine E_callL (p' := 14) (L0 := [some (aI a2), some (aI 0), some (aI 11)]) rfl rfl rfl ?_
            refine E_s (p' := 1) rfl rfl ?_
            refine E_s (p' := 2) (st' := aI 0 :: _) rfl rfl ?_
            refine E_icmp_lt (y := 0) rfl (by decide) (fun q => absurd q (by omega)) (fun _ => ?_)
            refine E_s (p' := 6) rfl rfl ?_
            refine E_s (p' := 7) (st' := aI 11 :: _) rfl rfl ?_
            refine E_icmp_gt (y := 11) rfl (by decide) (fun q => absurd q (by omega)) (fun _ => ?_)
            refine E_s (p' := 11) (st' := aI 1 :: _) rfl rfl ?_
            refine E_s (p' := 15) rfl rfl ?_
            refine E_ret rfl rfl ?_
            refine E_s (p' := 17) rfl rfl ?_
            refine E_s (p' := 18) rfl rfl ?_
            refine E_s (p' := 20) rfl rfl ?_
            refine E_callL (p' := 23) (L0 := [some (aI a3), some (aI a4)]) rfl rfl rfl ?_
            refine E_s (p' := 1) rfl rfl ?_
            refine E_s (p' := 2) (st' := aI 0 :: _) rfl rfl ?_
            refine E_s (p' := 4) (st' := aI 23 :: _) rfl rfl ?_
            refine E_callL (p' := 7) (L0 := [some (aI a3), some (aI 0), some (aI 23)]) rfl rfl rfl ?_
            refine E_s (p' := 1) rfl rfl ?_
            refine E_s (p' := 2) (st' := aI 0 :: _) rfl rfl ?_
            refine E_icmp_lt (y := 0) rfl (by decide) (fun q => absurd q (by omega)) (fun _ => ?_)
            refine E_s (p' := 6) rfl rfl ?_
            refine E_s (p' := 7) (st' := aI 23 :: _) rfl rfl ?_
            refine E_icmp_gt (y := 23) rfl (by decide) (fun q => absurd q (by omega)) (fun _ => ?_)
            refine E_s (p' := 11) (st' := aI 1 :: _) rfl rfl ?_
            refine E_s (p' := 15) rfl rfl ?_
            refine E_ret rfl rfl ?_
            refine E_s (p' := 10) rfl rfl ?_
            refine E_s (p' := 11) rfl rfl ?_
            refine E_s (p' := 13) (st' := aI 10 :: _) rfl rfl ?_
            refine E_s (p' := 16) (st' := aI 600 :: _) rfl rfl ?_
            refine E_callL (p' := 19) (L0 := [some (aI a4), some (aI 10), some (aI 600)]) rfl rfl rfl ?_
            refine E_s (p' := 1) rfl rfl ?_
            refine E_s (p' := 2) (st' := aI 10 :: _) rfl rfl ?_
            refine E_icmp_lt (y := 10) rfl (by decide) (fun _ => ?_) (fun q => absurd q (by omega))
            refine E_s (p' := 15) (st' := aI 0 :: _) rfl rfl ?_
            refine E_ret rfl rfl ?_
            refine E_s (p' := 26) rfl rfl ?_
            refine E_s (p' := 27) (st' := aI 0 :: _) rfl rfl ?_
            refine E_ret rfl rfl ?_
            refine E_s (p' := 26) rfl rfl ?_
            refine E_s (p' := 28) (st' := aI (-2) :: _) rfl rfl ?_
            refine E_ret rfl rfl ?_
            refine E_s (p' := 1174) rfl rfl ?_
            refine E_s (p' := 1177) (L' := [some (aA 0), some (aA 1), some (aA 124), some (aI 6)]) rfl rfl ?_
            refine E_s (p' := 18) rfl rfl ?_
            refine E_s (p' := 19) (st' := aI 6 :: _) rfl rfl ?_
            refine E_s (p' := 20) (st' := aA 0 :: _) rfl rfl ?_
            refine E_s (p' := 21) (st' := aI 6 :: _) rfl rfl ?_
            refine E_s (p' := 23) (st' := aI 6 :: _) rfl rfl ?_
            refine E_s (p' := 24) (st' := aI 0 :: _) rfl rfl ?_
            refine E_s (p' := 1180) rfl rfl ?_
            refine E_s (p' := 1181) (st' := aI 1 :: _) rfl rfl ?_
            exact E_ret rfl rfl ⟨rfl, rfl⟩
          · refine E_s (p' := 17) rfl rfl ?_
            refine E_s (p' := 20) (st' := aI 600 :: _) rfl rfl ?_
            refine E_icmp_gt (y := 600) rfl (by decide) (fun _ => ?_) (fun _ => ?_)
            · refine E_s (p' := 28) (st' := aI 0 :: _) rfl rfl ?_
              refine E_ret rfl rfl ?_
              refine E_s (p' := 31) rfl rfl ?_
              refine E_s (p' := 33) (st' := aI (-2) :: _) rfl rfl ?_
              refine E_ret rfl rfl ?_
              refine E_s (p' := 185) (st' := aA 124 :: _) rfl rfl ?_
              refine E_s (p' := 186) (st' := aA 0 :: _) rfl rfl ?_
              refine E_s (p' := 187) (st' := aI 0 :: _) rfl rfl ?_
              refine E_s (p' := 188) (st' := aI 1 :: _) rfl rfl ?_
              refine E_s (p' := 189) (st' := aI 1 :: _) rfl rfl ?_
              refine E_scr rfl rfl h1 ?_
              refine E_s (p' := 191) (st' := aA 0 :: _) rfl rfl ?_
              refine E_s (p' := 192) (st' := aI 0 :: _) rfl rfl ?_
              refine E_s (p' := 193) (st' := aI 2 :: _) rfl rfl ?_
              refine E_s (p' := 194) (st' := aI 2 :: _) rfl rfl ?_
              refine E_scr rfl rfl h2 ?_
              refine E_s (p' := 196) (st' := aA 0 :: _) rfl rfl ?_
              refine E_s (p' := 197) (st' := aI 0 :: _) rfl rfl ?_
              refine E_s (p' := 198) (st' := aI 3 :: _) rfl rfl ?_
              refine E_s (p' := 199) (st' := aI 3 :: _) rfl rfl ?_
              refine E_scr rfl rfl h3 ?_
              refine E_s (p' := 201) (st' := aA 0 :: _) rfl rfl ?_
              refine E_s (p' := 202) (st' := aI 0 :: _) rfl rfl ?_
              refine E_s (p' := 203) (st' := aI 4 :: _) rfl rfl ?_
              refine E_s (p' := 204) (st' := aI 4 :: _) rfl rfl ?_
              refine E_scr rfl rfl h4 ?_
              refine E_callL (p' := 208) (L0 := [some (aA 124), some (aI 3), some (aI a2), some (aI a3), some (aI a4)]) rfl rfl rfl ?_
              refine E_s (p' := 1) (st' := aI 3 :: _) rfl rfl ?_
              refine E_callL (p' := 4) (L0 := [some (aI 3)]) rfl rfl rfl ?_
              refine E_s (p' := 1) (st' := aI 3 :: _) rfl rfl ?_
              refine E_s (p' := 2) (st' := aI 0 :: _) rfl rfl ?_
              refine E_s (p' := 3) (st' := aI 3 :: _) rfl rfl ?_
              refine E_callL (p' := 6) (L0 := [some (aI 3), some (aI 0), some (aI 3)]) rfl rfl rfl ?_
              refine E_s (p' := 1) (st' := aI 3 :: _) rfl rfl ?_
              refine E_s (p' := 2) (st' := aI 0 :: _) rfl rfl ?_
              refine E_s (p' := 5) rfl rfl ?_
              refine E_s (p' := 6) (st' := aI 3 :: _) rfl rfl ?_
              refine E_s (p' := 7) (st' := aI 3 :: _) rfl rfl ?_
              refine E_s (p' := 10) rfl rfl ?_
              refine E_s (p' := 11) (st' := aI 1 :: _) rfl rfl ?_
              refine E_s (p' := 15) rfl rfl ?_
              refine E_ret rfl rfl ?_
              refine E_ret rfl rfl ?_
              refine E_s (p' := 7) rfl rfl ?_
              refine E_s (p' := 8) rfl rfl ?_
              refine E_s (p' := 9) (st' := aI 0 :: _) rfl rfl ?_
              refine E_s (p' := 11) (st' := aI 11 :: _) rfl rfl ?_
              refine E_callL (p' := 14) (L0 := [some (aI a2), some (aI 0), some (aI 11)]) rfl rfl rfl ?_
              refine E_s (p' := 1) rfl rfl ?_
              refine E_s (p' := 2) (st' := aI 0 :: _) rfl rfl ?_
              refine E_icmp_lt (y := 0) rfl (by decide) (fun q => absurd q (by omega)) (fun _ => ?_)
              refine E_s (p' := 6) rfl rfl ?_
              refine E_s (p' := 7) (st' := aI 11 :: _) rfl rfl ?_
              refine E_icmp_gt (y := 11) rfl (by decide) (fun q => absurd q (by omega)) (fun _ => ?_)
              refine E_s (p' := 11) (st' := aI 1 :: _) rfl rfl ?_
              refine E_s (p' := 15) rfl rfl ?_
              refine E_ret rfl rfl ?_
              refine E_s (p' := 17) rfl rfl ?_
              refine E_s (p' := 18) rfl rfl ?_
              refine E_s (p' := 20) rfl rfl ?_
              refine E_callL (p' := 23) (L0 := [some (aI a3), some (aI a4)]) rfl rfl rfl ?_
              refine E_s (p' := 1) rfl rfl ?_
              refine E_s (p' := 2) (st' := aI 0 :: _) rfl rfl ?_
              refine E_s (p' := 4) (st' := aI 23 :: _) rfl rfl ?_
              refine E_callL (p' := 7) (L0 := [some (aI a3), some (aI 0), some (aI 23)]) rfl rfl rfl ?_
              refine E_s (p' := 1) rfl rfl ?_
              refine E_s (p' := 2) (st' := aI 0 :: _) rfl rfl ?_
              refine E_icmp_lt (y := 0) rfl (by decide) (fun q => absurd q (by omega)) (fun _ => ?_)
              refine E_s (p' := 6) rfl rfl ?_
              refine E_s (p' := 7) (st' := aI 23 :: _) rfl rfl ?_
              refine E_icmp_gt (y := 23) rfl (by decide) (fun q => absurd q (by omega)) (fun _ => ?_)
              refine E_s (p' := 11) (st' := aI 1 :: _) rfl rfl ?_
              refine E_s (p' := 15) rfl rfl ?_
              refine E_ret rfl rfl ?_
              refine E_s (p' := 10) rfl rfl ?_
              refine E_s (p' := 11) rfl rfl ?_
              refine E_s (p' := 13) (st' := aI 10 :: _) rfl rfl ?_
              refine E_s (p' := 16) (st' := aI 600 :: _) rfl rfl ?_
              refine E_callL (p' := 19) (L0 := [some (aI a4), some (aI 10), some (aI 600)]) rfl rfl rfl ?_
              refine E_s (p' := 1) rfl rfl ?_
              refine E_s (p' := 2) (st' := aI 10 :: _) rfl rfl ?_
              refine E_icmp_lt (y := 10) rfl (by decide) (fun q => absurd q (by omega)) (fun _ => ?_)
              refine E_s (p' := 6) rfl rfl ?_
              refine E_s (p' := 7) (st' := aI 600 :: _) rfl rfl ?_
              refine E_icmp_gt (y := 600) rfl (by decide) (fun _ => ?_) (fun q => absurd q (by omega))
              refine E_s (p' := 15) (st' := aI 0 :: _) rfl rfl ?_
              refine E_ret rfl rfl ?_
              refine E_s (p' := 26) rfl rfl ?_
              refine E_s (p' := 27) (st' := aI 0 :: _) rfl rfl ?_
              refine E_ret rfl rfl ?_
              refine E_s (p' := 26) rfl rfl ?_
              refine E_s (p' := 28) (st' := aI (-2) :: _) rfl rfl ?_
              refine E_ret rfl rfl ?_
              refine E_s (p' := 1174) rfl rfl ?_
              refine E_s (p' := 1177) (L' := [some (aA 0), some (aA 1), some (aA 124), some (aI 6)]) rfl rfl ?_
              refine E_s (p' := 18) rfl rfl ?_
              refine E_s (p' := 19) (st' := aI 6 :: _) rfl rfl ?_
              refine E_s (p' := 20) (st' := aA 0 :: _) rfl rfl ?_
              refine E_s (p' := 21) (st' := aI 6 :: _) rfl rfl ?_
              refine E_s (p' := 23) (st' := aI 6 :: _) rfl rfl ?_
              refine E_s (p' := 24) (st' := aI 0 :: _) rfl rfl ?_
              refine E_s (p' := 1180) rfl rfl ?_
              refine E_s (p' := 1181) (st' := aI 1 :: _) rfl rfl ?_
              exact E_ret rfl rfl ⟨rfl, rfl⟩
            · refine E_s (p' := 24) (st' := aI 1 :: _) rfl rfl ?_
              refine E_s (p' := 28) rfl rfl ?_
              refine E_ret rfl rfl ?_
              refine E_s (p' := 34) rfl rfl ?_
              refine E_s (p' := 36) (st' := aA 98 :: _) rfl rfl ?_
              refine E_s (p' := 37) rfl rfl ?_
              refine E_s (p' := 38) (st' := aI (-1) :: _) rfl rfl ?_
              refine E_s (p' := 39) rfl rfl ?_
              refine E_s (p' := 41) rfl rfl ?_
              refine E_callL (p' := 44) (L0 := [some (aA 98), some (aI a2), some (aI (-1)), some (aI a3), some (aI a4), none]) rfl rfl rfl ?_
              refine E_s (p' := 1) (st' := aA 98 :: _) rfl rfl ?_
              refine E_s (p' := 4) (st' := aA 99 :: _) rfl rfl ?_
              refine E_s (p' := 7) (st' := aI 0 :: _) rfl rfl ?_
              refine E_s (p' := 9) (L' := [some (aA 98), some (aI a2), some (aI (-1)), some (aI a3), some (aI a4), some (aI 0)]) rfl rfl ?_
              refine E_s (p' := 11) (st' := aI 0 :: _) rfl rfl ?_
              refine E_s (p' := 13) (st' := aI 60 :: _) rfl rfl ?_
              refine E_s (p' := 19) rfl rfl ?_
              refine E_s (p' := 20) (st' := aA 98 :: _) rfl rfl ?_
              refine E_s (p' := 23) (st' := aA 99 :: _) rfl rfl ?_
              refine E_s (p' := 26) (st' := aA 100 :: _) rfl rfl ?_
              refine E_s (p' := 28) (st' := aI 0 :: _) rfl rfl ?_
              refine E_s (p' := 29) rfl rfl ?_
              refine E_stM (p' := 30) (m' := up2 _ 100 0 a2) rfl rfl ?_
              refine E_s (p' := 31) (st' := aA 98 :: _) rfl rfl ?_
              refine E_s (p' := 34) (st' := aA 99 :: _) rfl rfl ?_
              refine E_s (p' := 37) (st' := aA 101 :: _) rfl rfl ?_
              refine E_s (p' := 39) (st' := aI 0 :: _) rfl rfl ?_
              refine E_s (p' := 40) (st' := aI (-1) :: _) rfl rfl ?_
              refine E_stM (p' := 41) (m' := up2 _ 101 0 (-1)) rfl rfl ?_
              refine E_s (p' := 42) (st' := aA 98 :: _) rfl rfl ?_
              refine E_s (p' := 45) (st' := aA 99 :: _) rfl rfl ?_
              refine E_s (p' := 48) (st' := aA 102 :: _) rfl rfl ?_
              refine E_s (p' := 50) (st' := aI 0 :: _) rfl rfl ?_
              refine E_s (p' := 51) rfl rfl ?_
              refine E_stM (p' := 52) (m' := up2 _ 102 0 a3) rfl rfl ?_
              refine E_s (p' := 53) (st' := aA 98 :: _) rfl rfl ?_
              refine E_s (p' := 56) (st' := aA 99 :: _) rfl rfl ?_
              refine E_s (p' := 59) (st' := aA 103 :: _) rfl rfl ?_
              refine E_s (p' := 61) (st' := aI 0 :: _) rfl rfl ?_
              refine E_s (p' := 63) rfl rfl ?_
              refine E_stM (p' := 64) (m' := up2 _ 103 0 a4) rfl rfl ?_
              refine E_s (p' := 65) (st' := aA 98 :: _) rfl rfl ?_
              refine E_s (p' := 68) (st' := aA 99 :: _) rfl rfl ?_
              refine E_s (p' := 71) (st' := aA 104 :: _) rfl rfl ?_
              refine E_s (p' := 73) (st' := aI 0 :: _) rfl rfl ?_
              refine E_s (p' := 74) (st' := aI 0 :: _) rfl rfl ?_
              refine E_stM (p' := 75) (m' := up2 _ 104 0 0) rfl rfl ?_
              refine E_s (p' := 76) (st' := aA 98 :: _) rfl rfl ?_
              refine E_s (p' := 79) (st' := aA 99 :: _) rfl rfl ?_
              refine E_s (p' := 82) (st' := aA 105 :: _) rfl rfl ?_
              refine E_s (p' := 84) (st' := aI 0 :: _) rfl rfl ?_
              refine E_s (p' := 85) (st' := aI 0 :: _) rfl rfl ?_
              refine E_stM (p' := 86) (m' := up2 _ 105 0 0) rfl rfl ?_
              refine E_s (p' := 87) (st' := aA 98 :: _) rfl rfl ?_
              refine E_s (p' := 90) (st' := aA 99 :: _) rfl rfl ?_
              refine E_s (p' := 91) (st' := aA 99 :: _) rfl rfl ?_
              refine E_s (p' := 94) (st' := aI 0 :: _) rfl rfl ?_
              refine E_s (p' := 95) (st' := aI 1 :: _) rfl rfl ?_
              refine E_s (p' := 96) (st' := aI 1 :: _) rfl rfl ?_
              refine E_stM (p' := 99) (m' := up2 _ 99 7 1) rfl rfl ?_
              refine E_s (p' := 100) (st' := aA 98 :: _) rfl rfl ?_
              refine E_callL (p' := 103) (L0 := [some (aA 98)]) rfl rfl rfl ?_
              refine E_s (p' := 1) (st' := aA 98 :: _) rfl rfl ?_
              refine E_s (p' := 2) (st' := aI 0 :: _) rfl rfl ?_
              refine E_stM (p' := 5) (m' := up2 _ 98 7 0) rfl rfl ?_
              refine E_s (p' := 6) (st' := aA 98 :: _) rfl rfl ?_
              refine E_s (p' := 7) (st' := aI 0 :: _) rfl rfl ?_
              refine E_stM (p' := 10) (m' := up2 _ 98 6 0) rfl rfl ?_
              refine E_ret rfl rfl ?_
              refine E_s (p' := 105) (st' := aI 0 :: _) rfl rfl ?_
              refine E_ret rfl rfl ?_
              refine E_ret rfl rfl ?_
              refine E_s (p' := 185) (st' := aA 124 :: _) rfl rfl ?_
              refine E_s (p' := 186) (st' := aA 0 :: _) rfl rfl ?_
              refine E_s (p' := 187) (st' := aI 0 :: _) rfl rfl ?_
              refine E_s (p' := 188) (st' := aI 1 :: _) rfl rfl ?_
              refine E_s (p' := 189) (st' := aI 1 :: _) rfl rfl ?_
              refine E_scr rfl rfl h1 ?_
              refine E_s (p' := 191) (st' := aA 0 :: _) rfl rfl ?_
              refine E_s (p' := 192) (st' := aI 0 :: _) rfl rfl ?_
              refine E_s (p' := 193) (st' := aI 2 :: _) rfl rfl ?_
              refine E_s (p' := 194) (st' := aI 2 :: _) rfl rfl ?_
              refine E_scr rfl rfl h2 ?_
              refine E_s (p' := 196) (st' := aA 0 :: _) rfl rfl ?_
              refine E_s (p' := 197) (st' := aI 0 :: _) rfl rfl ?_
              refine E_s (p' := 198) (st' := aI 3 :: _) rfl rfl ?_
              refine E_s (p' := 199) (st' := aI 3 :: _) rfl rfl ?_
              refine E_scr rfl rfl h3 ?_
              refine E_s (p' := 201) (st' := aA 0 :: _) rfl rfl ?_
              refine E_s (p' := 202) (st' := aI 0 :: _) rfl rfl ?_
              refine E_s (p' := 203) (st' := aI 4 :: _) rfl rfl ?_
              refine E_s (p' := 204) (st' := aI 4 :: _) rfl rfl ?_
              refine E_scr rfl rfl h4 ?_
              refine E_callL (p' := 208) (L0 := [some (aA 124), some (aI 3), some (aI a2), some (aI a3), some (aI a4)]) rfl rfl rfl ?_
              refine E_s (p' := 1) (st' := aI 3 :: _) rfl rfl ?_
              refine E_callL (p' := 4) (L0 := [some (aI 3)]) rfl rfl rfl ?_
              refine E_s (p' := 1) (st' := aI 3 :: _) rfl rfl ?_
              refine E_s (p' := 2) (st' := aI 0 :: _) rfl rfl ?_
              refine E_s (p' := 3) (st' := aI 3 :: _) rfl rfl ?_
              refine E_callL (p' := 6) (L0 := [some (aI 3), some (aI 0), some (aI 3)]) rfl rfl rfl ?_
              refine E_s (p' := 1) (st' := aI 3 :: _) rfl rfl ?_
              refine E_s (p' := 2) (st' := aI 0 :: _) rfl rfl ?_
              refine E_s (p' := 5) rfl rfl ?_
              refine E_s (p' := 6) (st' := aI 3 :: _) rfl rfl ?_
              refine E_s (p' := 7) (st' := aI 3 :: _) rfl rfl ?_
              refine E_s (p' := 10) rfl rfl ?_
              refine E_s (p' := 11) (st' := aI 1 :: _) rfl rfl ?_
              refine E_s (p' := 15) rfl rfl ?_
              refine E_ret rfl rfl ?_
              refine E_ret rfl rfl ?_
              refine E_s (p' := 7) rfl rfl ?_
              refine E_s (p' := 8) rfl rfl ?_
              refine E_s (p' := 9) (st' := aI 0 :: _) rfl rfl ?_
              refine E_s (p' := 11) (st' := aI 11 :: _) rfl rfl ?_
              refine E_callL (p' := 14) (L0 := [some (aI a2), some (aI 0), some (aI 11)]) rfl rfl rfl ?_
              refine E_s (p' := 1) rfl rfl ?_
              refine E_s (p' := 2) (st' := aI 0 :: _) rfl rfl ?_
              refine E_icmp_lt (y := 0) rfl (by decide) (fun q => absurd q (by omega)) (fun _ => ?_)
              refine E_s (p' := 6) rfl rfl ?_
              refine E_s (p' := 7) (st' := aI 11 :: _) rfl rfl ?_
              refine E_icmp_gt (y := 11) rfl (by decide) (fun q => absurd q (by omega)) (fun _ => ?_)
              refine E_s (p' := 11) (st' := aI 1 :: _) rfl rfl ?_
              refine E_s (p' := 15) rfl rfl ?_
              refine E_ret rfl rfl ?_
              refine E_s (p' := 17) rfl rfl ?_
              refine E_s (p' := 18) rfl rfl ?_
              refine E_s (p' := 20) rfl rfl ?_
              refine E_callL (p' := 23) (L0 := [some (aI a3), some (aI a4)]) rfl rfl rfl ?_
              refine E_s (p' := 1) rfl rfl ?_
              refine E_s (p' := 2) (st' := aI 0 :: _) rfl rfl ?_
              refine E_s (p' := 4) (st' := aI 23 :: _) rfl rfl ?_
              refine E_callL (p' := 7) (L0 := [some (aI a3), some (aI 0), some (aI 23)]) rfl rfl rfl ?_
              refine E_s (p' := 1) rfl rfl ?_
              refine E_s (p' := 2) (st' := aI 0 :: _) rfl rfl ?_
              refine E_icmp_lt (y := 0) rfl (by decide) (fun q => absurd q (by omega)) (fun _ => ?_)
              refine E_s (p' := 6) rfl rfl ?_
              refine E_s (p' := 7) (st' := aI 23 :: _) rfl rfl ?_
              refine E_icmp_gt (y := 23) rfl (by decide) (fun q => absurd q (by omega)) (fun _ => ?_)
              refine E_s (p' := 11) (st' := aI 1 :: _) rfl rfl ?_
              refine E_s (p' := 15) rfl rfl ?_
              refine E_ret rfl rfl ?_
              refine E_s (p' := 10) rfl rfl ?_
              refine E_s (p' := 11) rfl rfl ?_
              refine E_s (p' := 13) (st' := aI 10 :: _) rfl rfl ?_
              refine E_s (p' := 16) (st' := aI 600 :: _) rfl rfl ?_
              refine E_callL (p' := 19) (L0 := [some (aI a4), some (aI 10), some (aI 600)]) rfl rfl rfl ?_
              refine E_s (p' := 1) rfl rfl ?_
              refine E_s (p' := 2) (st' := aI 10 :: _) rfl rfl ?_
              refine E_icmp_lt (y := 10) rfl (by decide) (fun q => absurd q (by omega)) (fun _ => ?_)
              refine E_s (p' := 6) rfl rfl ?_
              refine E_s (p' := 7) (st' := aI 600 :: _) rfl rfl ?_
              refine E_icmp_gt (y := 600) rfl (by decide) (fun q => absurd q (by omega)) (fun _ => ?_)
              refine E_s (p' := 11) (st' := aI 1 :: _) rfl rfl ?_
              refine E_s (p' := 15) rfl rfl ?_
              refine E_ret rfl rfl ?_
              refine E_s (p' := 22) rfl rfl ?_
              refine E_s (p' := 23) (st' := aI 1 :: _) rfl rfl ?_
              refine E_s (p' := 27) rfl rfl ?_
              refine E_ret rfl rfl ?_
              refine E_s (p' := 29) rfl rfl ?_
              refine E_s (p' := 30) (st' := aA 124 :: _) rfl rfl ?_
              refine E_s (p' := 33) (st' := aA 125 :: _) rfl rfl ?_
              refine E_s (p' := 34) (st' := aI 3 :: _) rfl rfl ?_
              refine E_s (p' := 35) (st' := aI 0 :: _) rfl rfl ?_
              refine E_s (p' := 37) (st' := aI 60 :: _) rfl rfl ?_
              refine E_s (p' := 45) rfl rfl ?_
              refine E_s (p' := 46) (st' := aA 124 :: _) rfl rfl ?_
              refine E_s (p' := 47) (st' := aI 3 :: _) rfl rfl ?_
              refine E_s (p' := 48) rfl rfl ?_
              refine E_s (p' := 49) (st' := aI (-1) :: _) rfl rfl ?_
              refine E_s (p' := 50) rfl rfl ?_
              refine E_s (p' := 52) rfl rfl ?_
              refine E_callL (p' := 55) (L0 := [some (aA 124), some (aI 3), some (aI a2), some (aI (-1)), some (aI a3), some (aI a4), none]) rfl rfl rfl ?_
              refine E_s (p' := 2) (st' := aI 60 :: _) rfl rfl ?_
              refine E_s (p' := 3) (st' := aI 3 :: _) rfl rfl ?_
              refine E_s (p' := 4) (st' := aI 180 :: _) rfl rfl ?_
              refine E_s (p' := 5) (st' := aA 124 :: _) rfl rfl ?_
              refine E_s (p' := 8) (st' := aA 125 :: _) rfl rfl ?_
              refine E_s (p' := 9) (st' := aI 3 :: _) rfl rfl ?_
              refine E_s (p' := 10) (st' := aI 0 :: _) rfl rfl ?_
              refine E_s (p' := 11) (st' := aI 180 :: _) rfl rfl ?_
              refine E_s (p' := 13) (L' := [some (aA 124), some (aI 3), some (aI a2), some (aI (-1)), some (aI a3), some (aI a4), some (aI 180)]) rfl rfl ?_
              refine E_s (p' := 14) (st' := aA 124 :: _) rfl rfl ?_
              refine E_s (p' := 17) (st' := aA 127 :: _) rfl rfl ?_
              refine E_s (p' := 19) (st' := aI 180 :: _) rfl rfl ?_
              refine E_s (p' := 20) rfl rfl ?_
              refine E_stM (p' := 21) (m' := up2 _ 127 180 a2) rfl rfl ?_
              refine E_s (p' := 22) (st' := aA 124 :: _) rfl rfl ?_
              refine E_s (p' := 25) (st' := aA 128 :: _) rfl rfl ?_
              refine E_s (p' := 27) (st' := aI 180 :: _) rfl rfl ?_
              refine E_s (p' := 28) (st' := aI (-1) :: _) rfl rfl ?_
              refine E_stM (p' := 29) (m' := up2 _ 128 180 (-1)) rfl rfl ?_
              refine E_s (p' := 30) (st' := aA 124 :: _) rfl rfl ?_
              refine E_s (p' := 33) (st' := aA 129 :: _) rfl rfl ?_
              refine E_s (p' := 35) (st' := aI 180 :: _) rfl rfl ?_
              refine E_s (p' := 37) rfl rfl ?_
              refine E_stM (p' := 38) (m' := up2 _ 129 180 a3) rfl rfl ?_
              refine E_s (p' := 39) (st' := aA 124 :: _) rfl rfl ?_
              refine E_s (p' := 42) (st' := aA 130 :: _) rfl rfl ?_
              refine E_s (p' := 44) (st' := aI 180 :: _) rfl rfl ?_
              refine E_s (p' := 46) rfl rfl ?_
              refine E_stM (p' := 47) (m' := up2 _ 130 180 a4) rfl rfl ?_
              refine E_s (p' := 48) (st' := aA 124 :: _) rfl rfl ?_
              refine E_s (p' := 51) (st' := aA 131 :: _) rfl rfl ?_
              refine E_s (p' := 53) (st' := aI 180 :: _) rfl rfl ?_
              refine E_s (p' := 54) (st' := aI (-1) :: _) rfl rfl ?_
              refine E_stM (p' := 55) (m' := up2 _ 131 180 (-1)) rfl rfl ?_
              refine E_s (p' := 56) (st' := aA 124 :: _) rfl rfl ?_
              refine E_s (p' := 59) (st' := aA 132 :: _) rfl rfl ?_
              refine E_s (p' := 61) (st' := aI 180 :: _) rfl rfl ?_
              refine E_s (p' := 62) (st' := aI 0 :: _) rfl rfl ?_
              refine E_stM (p' := 63) (m' := up2 _ 132 180 0) rfl rfl ?_
              refine E_s (p' := 64) (st' := aA 124 :: _) rfl rfl ?_
              refine E_s (p' := 67) (st' := aA 125 :: _) rfl rfl ?_
              refine E_s (p' := 68) (st' := aI 3 :: _) rfl rfl ?_
              refine E_s (p' := 69) (st' := aI 3 :: _) rfl rfl ?_
              refine E_s (p' := 70) (st' := aI 0 :: _) rfl rfl ?_
              refine E_s (p' := 71) (st' := aI 1 :: _) rfl rfl ?_
              refine E_s (p' := 72) (st' := aI 1 :: _) rfl rfl ?_
              refine E_stM (p' := 73) (m' := up2 _ 125 3 1) rfl rfl ?_
              refine E_s (p' := 74) (st' := aA 124 :: _) rfl rfl ?_
              refine E_s (p' := 75) (st' := aI 3 :: _) rfl rfl ?_
              refine E_callL (p' := 78) (L0 := [some (aA 124), some (aI 3)]) rfl rfl rfl ?_
              refine E_s (p' := 1) (st' := aA 124 :: _) rfl rfl ?_
              refine E_s (p' := 4) (st' := aA 140 :: _) rfl rfl ?_
              refine E_s (p' := 5) (st' := aI 3 :: _) rfl rfl ?_
              refine E_s (p' := 6) (st' := aI 0 :: _) rfl rfl ?_
              refine E_stM (p' := 7) (m' := up2 _ 140 3 0) rfl rfl ?_
              refine E_ret rfl rfl ?_
              refine E_s (p' := 79) (st' := aA 124 :: _) rfl rfl ?_
              refine E_s (p' := 82) (st' := aA 125 :: _) rfl rfl ?_
              refine E_s (p' := 83) (st' := aI 3 :: _) rfl rfl ?_
              refine E_s (p' := 84) (st' := aI 1 :: _) rfl rfl ?_
              refine E_s (p' := 85) (st' := aI 1 :: _) rfl rfl ?_
              refine E_s (p' := 86) (st' := aI 0 :: _) rfl rfl ?_
              refine E_ret rfl rfl ?_
              refine E_ret rfl rfl ?_
              refine E_s (p' := 1174) rfl rfl ?_
              refine E_s (p' := 1177) (L' := [some (aA 0), some (aA 1), some (aA 124), some (aI 6)]) rfl rfl ?_
              refine E_s (p' := 18) rfl rfl ?_
              refine E_s (p' := 19) (st' := aI 6 :: _) rfl rfl ?_
              refine E_s (p' := 20) (st' := aA 0 :: _) rfl rfl ?_
              refine E_s (p' := 21) (st' := aI 6 :: _) rfl rfl ?_
              refine E_s (p' := 23) (st' := aI 6 :: _) rfl rfl ?_
              refine E_s (p' := 24) (st' := aI 0 :: _) rfl rfl ?_
              refine E_s (p' := 1180) rfl rfl ?_
              refine E_s (p' := 1181) (st' := aI 1 :: _) rfl rfl ?_
              exact E_ret rfl rfl ⟨rfl, rfl⟩
set_option maxRecDepth 100000 in
set_option maxHeartbeats 40000000 in
theorem pc_0_o (xs : Nat → Int) {z a1 a2 a3 a4 a5 : Int} (hz : b32 (fun a b => a &&& b) z 31 = 0) (h0 : xs 0 = z) (h1 : xs 1 = a1) (h2 : xs 2 = a2) (h3 : xs 3 = a3) (h4 : xs 4 = a4) (h5 : xs 5 = a5) (hr : a1 < 0 ∨ 3 < a1) : E 0 18 LL [] (s0 xs 6) PQ := by
  refine E_s (p' := 19) (st' := aI 0 :: _) rfl rfl ?_
  refine E_s (p' := 20) (st' := aA 0 :: _) rfl rfl ?_
  refine E_s (p' := 21) (st' := aI 6 :: _) rfl rfl ?_
  refine E_s (p' := 23) (st' := aI 6 :: _) rfl rfl ?_
  refine E_s (p' := 24) (st' := aI 0 :: _) rfl rfl ?_
  refine E_s (p' := 27) rfl rfl ?_
  refine E_s (p' := 28) (st' := aA 0 :: _) rfl rfl ?_
  refine E_s (p' := 29) (st' := aI 0 :: _) rfl rfl ?_
  refine E_scr rfl rfl h0 ?_
  refine E_s (p' := 32) (st' := aI 31 :: _) rfl rfl ?_
  refine E_s (p' := 33) rfl rfl ?_
  refine E_val hz ?_
  refine E_s (p' := 160) rfl rfl ?_
  refine E_s (p' := 161) (st' := aA 1 :: _) rfl rfl ?_
  refine E_s (p' := 162) (st' := aA 0 :: _) rfl rfl ?_
  refine E_s (p' := 163) (st' := aI 0 :: _) rfl rfl ?_
  refine E_s (p' := 164) (st' := aI 1 :: _) rfl rfl ?_
  refine E_s (p' := 165) (st' := aI 1 :: _) rfl rfl ?_
  refine E_scr rfl rfl h1 ?_
  refine E_s (p' := 167) (st' := aA 0 :: _) rfl rfl ?_
  refine E_s (p' := 168) (st' := aI 0 :: _) rfl rfl ?_
  refine E_s (p' := 169) (st' := aI 2 :: _) rfl rfl ?_
  refine E_s (p' := 170) (st' := aI 2 :: _) rfl rfl ?_
  refine E_scr rfl rfl h2 ?_
  refine E_s (p' := 172) (st' := aA 0 :: _) rfl rfl ?_
  refine E_s (p' := 173) (st' := aI 0 :: _) rfl rfl ?_
  refine E_s (p' := 174) (st' := aI 3 :: _) rfl rfl ?_
  refine E_s (p' := 175) (st' := aI 3 :: _) rfl rfl ?_
  refine E_scr rfl rfl h3 ?_
  refine E_s (p' := 177) (st' := aA 0 :: _) rfl rfl ?_
  refine E_s (p' := 178) (st' := aI 0 :: _) rfl rfl ?_
  refine E_s (p' := 179) (st' := aI 4 :: _) rfl rfl ?_
  refine E_s (p' := 180) (st' := aI 4 :: _) rfl rfl ?_
  refine E_scr rfl rfl h4 ?_
  refine E_callL (p' := 184) (L0 := [some (aA 1), some (aI a1), some (aI a2), some (aI a3), some (aI a4), none]) rfl rfl rfl ?_
  refine E_s (p' := 1) (st' := aA 1 :: _) rfl rfl ?_
  refine E_s (p' := 2) rfl rfl ?_
  refine E_callL (p' := 5) (L0 := [some (aA 1), some (aI a1)]) rfl rfl rfl ?_
  refine E_s (p' := 1) rfl rfl ?_
  refine E_if_lt rfl (by decide) (fun _ => ?_) (fun _ => ?_)
  · refine E_s (p' := 19) rfl rfl ?_
    refine E_ret rfl rfl ?_
    refine E_s (p' := 7) (L' := [some (aA 1), some (aI a1), some (aI a2), some (aI a3), some (aI a4), some aN]) rfl rfl ?_
    refine E_s (p' := 9) rfl rfl ?_
    refine E_s (p' := 31) rfl rfl ?_
    refine E_s (p' := 33) (st' := aI (-2) :: _) rfl rfl ?_
    refine E_ret rfl rfl ?_
    refine E_s (p' := 185) (st' := aA 124 :: _) rfl rfl ?_
    refine E_s (p' := 186) (st' := aA 0 :: _) rfl rfl ?_
    refine E_s (p' := 187) (st' := aI 0 :: _) rfl rfl ?_
    refine E_s (p' := 188) (st' := aI 1 :: _) rfl rfl ?_
    refine E_s (p' := 189) (st' := aI 1 :: _) rfl rfl ?_
    refine E_scr rfl rfl h1 ?_
    refine E_s (p' := 191) (st' := aA 0 :: _) rfl rfl ?_
    refine E_s (p' := 192) (st' := aI 0 :: _) rfl rfl ?_
    refine E_s (p' := 193) (st' := aI 2 :: _) rfl rfl ?_
    refine E_s (p' := 194) (st' := aI 2 :: _) rfl rfl ?_
    refine E_scr rfl rfl h2 ?_
    refine E_s (p' := 196) (st' := aA 0 :: _) rfl rfl ?_
    refine E_s (p' := 197) (st' := aI 0 :: _) rfl rfl ?_
    refine E_s (p' := 198) (st' := aI 3 :: _) rfl rfl ?_
    refine E_s (p' := 199) (st' := aI 3 :: _) rfl rfl ?_
    refine E_scr rfl rfl h3 ?_
    refine E_s (p' := 201) (st' := aA 0 :: _) rfl rfl ?_
    refine E_s (p' := 202) (st' := aI 0 :: _) rfl rfl ?_
    refine E_s (p' := 203) (st' := aI 4 :: _) rfl rfl ?_
    refine E_s (p' := 204) (st' := aI 4 :: _) rfl rfl ?_
    refine E_scr rfl rfl h4 ?_
    refine E_callL (p' := 208) (L0 := [some (aA 124), some (aI a1), some (aI a2), some (aI a3), some (aI a4)]) rfl rfl rfl ?_
    refine E_s (p' := 1) rfl rfl ?_
    refine E_callL (p' := 4) (L0 := [some (aI a1)]) rfl rfl rfl ?_
    refine E_s (p' := 1) rfl rfl ?_
    refine E_s (p' := 2) (st' := aI 0 :: _) rfl rfl ?_
    refine E_s (p' := 3) (st' := aI 3 :: _) rfl rfl ?_
    refine E_callL (p' := 6) (L0 := [some (aI a1), some (aI 0), some (aI 3)]) rfl rfl rfl ?_
    refine E_s (p' := 1) rfl rfl ?_
    refine E_s (p' := 2) (st' := aI 0 :: _) rfl rfl ?_
    refine E_icmp_lt (y := 0) rfl (by decide) (fun _ => ?_) (fun q => absurd q (by omega))
    refine E_s (p' := 15) (st' := aI 0 :: _) rfl rfl ?_
    refine E_ret rfl rfl ?_
    refine E_ret rfl rfl ?_
    refine E_s (p' := 26) rfl rfl ?_
    refine E_s (p' := 28) (st' := aI (-2) :: _) rfl rfl ?_
    refine E_ret rfl rfl ?_
    refine E_s (p' := 1174) rfl rfl ?_
    refine E_s (p' := 1177) (L' := [some (aA 0), some (aA 1), some (aA 124), some (aI 6)]) rfl rfl ?_
    refine E_s (p' := 18) rfl rfl ?_
    refine E_s (p' := 19) (st' := aI 6 :: _) rfl rfl ?_
    refine E_s (p' := 20) (st' := aA 0 :: _) rfl rfl ?_
    refine E_s (p' := 21) (st' := aI 6 :: _) rfl rfl ?_
    refine E_s (p' := 23) (st' := aI 6 :: _) rfl rfl ?_
    refine E_s (p' := 24) (st' := aI 0 :: _) rfl rfl ?_
    refine E_s (p' := 1180) rfl rfl ?_
    refine E_s (p' := 1181) (st' := aI 1 :: _) rfl rfl ?_
    exact E_ret rfl rfl ⟨rfl, rfl⟩
  · refine E_s (p' := 5) rfl rfl ?_
    refine E_s (p' := 6) (st' := aI 4 :: _) rfl rfl ?_
    refine E_icmp_ge (y := 4) rfl (by decide) (fun _ => ?_) (fun q => absurd q (by omega))
    refine E_s (p' := 19) rfl rfl ?_
    refine E_ret rfl rfl ?_
    refine E_s (p' := 7) (L' := [some (aA 1), some (aI a1), some (aI a2), some (aI a3), some (aI a4), some aN]) rfl rfl ?_
    refine E_s (p' := 9) rfl rfl ?_
    refine E_s (p' := 31) rfl rfl ?_
    refine E_s (p' := 33) (st' := aI (-2) :: _) rfl rfl ?_
    refine E_ret rfl rfl ?_
    refine E_s (p' := 185) (st' := aA 124 :: _) rfl rfl ?_
    refine E_s (p' := 186) (st' := aA 0 :: _) rfl rfl ?_
    refine E_s (p' := 187) (st' := aI 0 :: _) rfl rfl ?_
    refine E_s (p' := 188) (st' := aI 1 :: _) rfl rfl ?_
    refine E_s (p' := 189) (st' := aI 1 :: _) rfl rfl ?_
    refine E_scr rfl rfl h1 ?_
    refine E_s (p' := 191) (st' := aA 0 :: _) rfl rfl ?_
    refine E_s (p' := 192) (st' := aI 0 :: _) rfl rfl ?_
    refine E_s (p' := 193) (st' := aI 2 :: _) rfl rfl ?_
    refine E_s (p' := 194) (st' := aI 2 :: _) rfl rfl ?_
    refine E_scr rfl rfl h2 ?_
    refine E_s (p' := 196) (st' := aA 0 :: _) rfl rfl ?_
    refine E_s (p' := 197) (st' := aI 0 :: _) rfl rfl ?_
    refine E_s (p' := 198) (st' := aI 3 :: _) rfl rfl ?_
    refine E_s (p' := 199) (st' := aI 3 :: _) rfl rfl ?_
    refine E_scr rfl rfl h3 ?_
    refine E_s (p' := 201) (st' := aA 0 :: _) rfl rfl ?_
    refine E_s (p' := 202) (st' := aI 0 :: _) rfl rfl ?_
    refine E_s (p' := 203) (st' := aI 4 :: _) rfl rfl ?_
    refine E_s (p' := 204) (st' := aI 4 :: _) rfl rfl ?_
    refine E_scr rfl rfl h4 ?_
    refine E_callL (p' := 208) (L0 := [some (aA 124), some (aI a1), some (aI a2), some (aI a3), some (aI a4)]) rfl rfl rfl ?_
    refine E_s (p' := 1) rfl rfl ?_
    refine E_callL (p' := 4) (L0 := [some (aI a1)]) rfl rfl rfl ?_
    refine E_s (p' := 1) rfl rfl ?_
    refine E_s (p' := 2) (st' := aI 0 :: _) rfl rfl ?_
    refine E_s (p' := 3) (st' := aI 3 :: _) rfl rfl ?_
    refine E_callL (p' := 6) (L0 := [some (aI a1), some (aI 0), some (aI 3)]) rfl rfl rfl ?_
    refine E_s (p' := 1) rfl rfl ?_
    refine E_s (p' := 2) (st' := aI 0 :: _) rfl rfl ?_
    refine E_icmp_lt (y := 0) rfl (by decide) (fun q => absurd q (by omega)) (fun _ => ?_)
    refine E_s (p' := 6) rfl rfl ?_
    refine E_s (p' := 7) (st' := aI 3 :: _) rfl rfl ?_
    refine E_icmp_gt (y := 3) rfl (by decide) (fun _ => ?_) (fun q => absurd q (by omega))
    refine E_s (p' := 15) (st' := aI 0 :: _) rfl rfl ?_
    refine E_ret rfl rfl ?_
    refine E_ret rfl rfl ?_
    refine E_s (p' := 26) rfl rfl ?_
    refine E_s (p' := 28) (st' := aI (-2) :: _) rfl rfl ?_
    refine E_ret rfl rfl ?_
    refine E_s (p' := 1174) rfl rfl ?_
    refine E_s (p' := 1177) (L' := [some (aA 0), some (aA 1), some (aA 124), some (aI 6)]) rfl rfl ?_
    refine E_s (p' := 18) rfl rfl ?_
    refine E_s (p' := 19) (st' := aI 6 :: _) rfl rfl ?_
    refine E_s (p' := 20) (st' := aA 0 :: _) rfl rfl ?_
    refine E_s (p' := 21) (st' := aI 6 :: _) rfl rfl ?_
    refine E_s (p' := 23) (st' := aI 6 :: _) rfl rfl ?_
    refine E_s (p' := 24) (st' := aI 0 :: _) rfl rfl ?_
    refine E_s (p' := 1180) rfl rfl ?_
    refine E_s (p' := 1181) (st' := aI 1 :: _) rfl rfl ?_
    exact E_ret rfl rfl ⟨rfl, rfl⟩
set_option maxRecDepth 100000 in
set_option maxHeartbeats 40000000 in
theorem pc_1_0 (xs : Nat → Int) {z a2 a3 a4 a5 : Int} (hz : b32 (fun a b => a &&& b) z 31 = 1) (h0 : xs 0 = z) (h1 : xs 1 = 0) (h2 : xs 2 = a2) (h3 : xs 3 = a3) (h4 : xs 4 = a4) (h5 : xs 5 = a5) : E 0 18 LL [] (s0 xs 6) PQ := by
  refine E_s (p' := 19) (st' := aI 0 :: _) rfl rfl ?_
  refine E_s (p' := 20) (st' := aA 0 :: _) rfl rfl ?_
  refine E_s (p' := 21) (st' := aI 6 :: _) rfl rfl ?_
  refine E_s (p' := 23) (st' := aI 6 :: _) rfl rfl ?_
  refine E_s (p' := 24) (st' := aI 0 :: _) rfl rfl ?_
  refine E_s (p' := 27) rfl rfl ?_
  refine E_s (p' := 28) (st' := aA 0 :: _) rfl rfl ?_
  refine E_s (p' := 29) (st' := aI 0 :: _) rfl rfl ?_
  refine E_scr rfl rfl h0 ?_
  refine E_s (p' := 32) (st' := aI 31 :: _) rfl rfl ?_
  refine E_s (p' := 33) rfl rfl ?_
  refine E_val hz ?_
  refine E_s (p' := 213) rfl rfl ?_
  refine E_s (p' := 214) (st' := aA 1 :: _) rfl rfl ?_
  refine E_s (p' := 215) (st' := aA 0 :: _) rfl rfl ?_
  refine E_s (p' := 216) (st' := aI 0 :: _) rfl rfl ?_
  refine E_s (p' := 217) (st' := aI 1 :: _) rfl rfl ?_
  refine E_s (p' := 218) (st' := aI 1 :: _) rfl rfl ?_
  refine E_scr rfl rfl h1 ?_
  refine E_s (p' := 220) (st' := aA 0 :: _) rfl rfl ?_
  refine E_s (p' := 221) (st' := aI 0 :: _) rfl rfl ?_
  refine E_s (p' := 222) (st' := aI 2 :: _) rfl rfl ?_
  refine E_s (p' := 223) (st' := aI 2 :: _) rfl rfl ?_
  refine E_scr rfl rfl h2 ?_
  refine E_s (p' := 225) (st' := aA 0 :: _) rfl rfl ?_
  refine E_s (p' := 226) (st' := aI 0 :: _) rfl rfl ?_
  refine E_s (p' := 227) (st' := aI 3 :: _) rfl rfl ?_
  refine E_s (p' := 228) (st' := aI 3 :: _) rfl rfl ?_
  refine E_scr rfl rfl h3 ?_
  refine E_s (p' := 230) (st' := aA 0 :: _) rfl rfl ?_
  refine E_s (p' := 231) (st' := aI 0 :: _) rfl rfl ?_
  refine E_s (p' := 232) (st' := aI 4 :: _) rfl rfl ?_
  refine E_s (p' := 233) (st' := aI 4 :: _) rfl rfl ?_
  refine E_scr rfl rfl h4 ?_
  refine E_callL (p' := 237) (L0 := [some (aA 1), some (aI 0), some (aI a2), some (aI a3), some (aI a4), none]) rfl rfl rfl ?_
  refine E_s (p' := 1) (st' := aA 1 :: _) rfl rfl ?_
  refine E_s (p' := 2) (st' := aI 0 :: _) rfl rfl ?_
  refine E_callL (p' := 5) (L0 := [some (aA 1), some (aI 0)]) rfl rfl rfl ?_
  refine E_s (p' := 1) (st' := aI 0 :: _) rfl rfl ?_
  refine E_s (p' := 4) rfl rfl ?_
  refine E_s (p' := 5) (st' := aI 0 :: _) rfl rfl ?_
  refine E_s (p' := 6) (st' := aI 4 :: _) rfl rfl ?_
  refine E_s (p' := 9) rfl rfl ?_
  refine E_s (p' := 10) (st' := aA 1 :: _) rfl rfl ?_
  refine E_s (p' := 13) (st' := aA 2 :: _) rfl rfl ?_
  refine E_s (p' := 14) (st' := aI 0 :: _) rfl rfl ?_
  refine E_s (p' := 15) (st' := aA 20 :: _) rfl rfl ?_
  refine E_s (p' := 19) rfl rfl ?_
  refine E_ret rfl rfl ?_
  refine E_s (p' := 7) (L' := [some (aA 1), some (aI 0), some (aI a2), some (aI a3), some (aI a4), some (aA 20)]) rfl rfl ?_
  refine E_s (p' := 9) (st' := aA 20 :: _) rfl rfl ?_
  refine E_s (p' := 12) rfl rfl ?_
  refine E_s (p' := 14) (st' := aA 20 :: _) rfl rfl ?_
  refine E_s (p' := 17) (st' := aA 21 :: _) rfl rfl ?_
  refine E_s (p' := 18) rfl rfl ?_
  refine E_callL (p' := 21) (L0 := [some (aA 21), some (aI a2)]) rfl rfl rfl ?_
  refine E_s (p' := 1) rfl rfl ?_
  refine E_if_lt rfl (by decide) (fun _ => ?_) (fun _ => ?_)
  · refine E_s (p' := 17) (st' := aI 0 :: _) rfl rfl ?_
    refine E_ret rfl rfl ?_
    refine E_s (p' := 33) rfl rfl ?_
    refine E_s (p' := 35) (st' := aI (-2) :: _) rfl rfl ?_
    refine E_ret rfl rfl ?_
    refine E_s (p' := 238) (st' := aA 124 :: _) rfl rfl ?_
    refine E_s (p' := 239) (st' := aA 0 :: _) rfl rfl ?_
    refine E_s (p' := 240) (st' := aI 0 :: _) rfl rfl ?_
    refine E_s (p' := 241) (st' := aI 1 :: _) rfl rfl ?_
    refine E_s (p' := 242) (st' := aI 1 :: _) rfl rfl ?_
    refine E_scr rfl rfl h1 ?_
    refine E_s (p' := 244) (st' := aA 0 :: _) rfl rfl ?_
    refine E_s (p' := 245) (st' := aI 0 :: _) rfl rfl ?_
    refine E_s (p' := 246) (st' := aI 2 :: _) rfl rfl ?_
    refine E_s (p' := 247) (st' := aI 2 :: _) rfl rfl ?_
    refine E_scr rfl rfl h2 ?_
    refine E_s (p' := 249) (st' := aA 0 :: _) rfl rfl ?_
    refine E_s (p' := 250) (st' := aI 0 :: _) rfl rfl ?_
    refine E_s (p' := 251) (st' := aI 3 :: _) rfl rfl ?_
    refine E_s (p' := 252) (st' := aI 3 :: _) rfl rfl ?_
    refine E_scr rfl rfl h3 ?_
    refine E_s (p' := 254) (st' := aA 0 :: _) rfl rfl ?_
    refine E_s (p' := 255) (st' := aI 0 :: _) rfl rfl ?_
    refine E_s (p' := 256) (st' := aI 4 :: _) rfl rfl ?_
    refine E_s (p' := 257) (st' := aI 4 :: _) rfl rfl ?_
    refine E_scr rfl rfl h4 ?_
    refine E_callL (p' := 261) (L0 := [some (aA 124), some (aI 0), some (aI a2), some (aI a3), some (aI a4), none, none]) rfl rfl rfl ?_
    refine E_s (p' := 1) (st' := aA 124 :: _) rfl rfl ?_
    refine E_s (p' := 2) (st' := aI 0 :: _) rfl rfl ?_
    refine E_s (p' := 3) rfl rfl ?_
    refine E_callL (p' := 6) (L0 := [some (aA 124), some (aI 0), some (aI a2)]) rfl rfl rfl ?_
    refine E_s (p' := 1) (st' := aI 0 :: _) rfl rfl ?_
    refine E_callL (p' := 4) (L0 := [some (aI 0)]) rfl rfl rfl ?_
    refine E_s (p' := 1) (st' := aI 0 :: _) rfl rfl ?_
    refine E_s (p' := 2) (st' := aI 0 :: _) rfl rfl ?_
    refine E_s (p' := 3) (st' := aI 3 :: _) rfl rfl ?_
    refine E_callL (p' := 6) (L0 := [some (aI 0), some (aI 0), some (aI 3)]) rfl rfl rfl ?_
    refine E_s (p' := 1) (st' := aI 0 :: _) rfl rfl ?_
    refine E_s (p' := 2) (st' := aI 0 :: _) rfl rfl ?_
    refine E_s (p' := 5) rfl rfl ?_
    refine E_s (p' := 6) (st' := aI 0 :: _) rfl rfl ?_
    refine E_s (p' := 7) (st' := aI 3 :: _) rfl rfl ?_
    refine E_s (p' := 10) rfl rfl ?_
    refine E_s (p' := 11) (st' := aI 1 :: _) rfl rfl ?_
    refine E_s (p' := 15) rfl rfl ?_
    refine E_ret rfl rfl ?_
    refine E_ret rfl rfl ?_
    refine E_s (p' := 7) rfl rfl ?_
    refine E_s (p' := 8) rfl rfl ?_
    refine E_s (p' := 9) (st' := aI 0 :: _) rfl rfl ?_
    refine E_s (p' := 10) (st' := aA 124 :: _) rfl rfl ?_
    refine E_s (p' := 13) (st' := aA 125 :: _) rfl rfl ?_
    refine E_s (p' := 14) (st' := aI 0 :: _) rfl rfl ?_
    refine E_s (p' := 15) (st' := aI 0 :: _) rfl rfl ?_
    refine E_s (p' := 16) (st' := aI 1 :: _) rfl rfl ?_
    refine E_isubv (v := -1) rfl (show (0 : Int) - 1 = -1 from rfl) (by decide) ?_
    refine E_callL (p' := 20) (L0 := [some (aI a2), some (aI 0), some (aI (-1))]) rfl rfl rfl ?_
    refine E_s (p' := 1) rfl rfl ?_
    refine E_s (p' := 2) (st' := aI 0 :: _) rfl rfl ?_
    refine E_icmp_lt (y := 0) rfl (by decide) (fun _ => ?_) (fun q => absurd q (by omega))
    refine E_s (p' := 15) (st' := aI 0 :: _) rfl rfl ?_
    refine E_ret rfl rfl ?_
    refine E_s (p' := 27) rfl rfl ?_
    refine E_s (p' := 28) (st' := aI 0 :: _) rfl rfl ?_
    refine E_ret rfl rfl ?_
    refine E_s (p' := 18) rfl rfl ?_
    refine E_s (p' := 20) (st' := aI (-2) :: _) rfl rfl ?_
    refine E_ret rfl rfl ?_
    refine E_s (p' := 1174) rfl rfl ?_
    refine E_s (p' := 1177) (L' := [some (aA 0), some (aA 1), some (aA 124), some (aI 6)]) rfl rfl ?_
    refine E_s (p' := 18) rfl rfl ?_
    refine E_s (p' := 19) (st' := aI 6 :: _) rfl rfl ?_
    refine E_s (p' := 20) (st' := aA 0 :: _) rfl rfl ?_
    refine E_s (p' := 21) (st' := aI 6 :: _) rfl rfl ?_
    refine E_s (p' := 23) (st' := aI 6 :: _) rfl rfl ?_
    refine E_s (p' := 24) (st' := aI 0 :: _) rfl rfl ?_
    refine E_s (p' := 1180) rfl rfl ?_
    refine E_s (p' := 1181) (st' := aI 1 :: _) rfl rfl ?_
    exact E_ret rfl rfl ⟨rfl, rfl⟩
  · refine E_s (p' := 5) rfl rfl ?_
    refine E_s (p' := 6) (st' := aA 21 :: _) rfl rfl ?_
    refine E_s (p' := 9) (st' := aI 0 :: _) rfl rfl ?_
    refine E_icmp_ge (y := 0) rfl (by decide) (fun _ => ?_) (fun q => absurd q (by omega))
    refine E_s (p' := 17) (st' := aI 0 :: _) rfl rfl ?_
    refine E_ret rfl rfl ?_
    refine E_s (p' := 33) rfl rfl ?_
    refine E_s (p' := 35) (st' := aI (-2) :: _) rfl rfl ?_
    refine E_ret rfl rfl ?_
    refine E_s (p' := 238) (st' := aA 124 :: _) rfl rfl ?_
    refine E_s (p' := 239) (st' := aA 0 :: _) rfl rfl ?_
    refine E_s (p' := 240) (st' := aI 0 :: _) rfl rfl ?_
    refine E_s (p' := 241) (st' := aI 1 :: _) rfl rfl ?_
    refine E_s (p' := 242) (st' := aI 1 :: _) rfl rfl ?_
    refine E_scr rfl rfl h1 ?_
    refine E_s (p' := 244) (st' := aA 0 :: _) rfl rfl ?_
    refine E_s (p' := 245) (st' := aI 0 :: _) rfl rfl ?_
    refine E_s (p' := 246) (st' := aI 2 :: _) rfl rfl ?_
    refine E_s (p' := 247) (st' := aI 2 :: _) rfl rfl ?_
    refine E_scr rfl rfl h2 ?_
    refine E_s (p' := 249) (st' := aA 0 :: _) rfl rfl ?_
    refine E_s (p' := 250) (st' := aI 0 :: _) rfl rfl ?_
    refine E_s (p' := 251) (st' := aI 3 :: _) rfl rfl ?_
    refine E_s (p' := 252) (st' := aI 3 :: _) rfl rfl ?_
    refine E_scr rfl rfl h3 ?_
    refine E_s (p' := 254) (st' := aA 0 :: _) rfl rfl ?_
    refine E_s (p' := 255) (st' := aI 0 :: _) rfl rfl ?_
    refine E_s (p' := 256) (st' := aI 4 :: _) rfl rfl ?_
    refine E_s (p' := 257) (st' := aI 4 :: _) rfl rfl ?_
    refine E_scr rfl rfl h4 ?_
    refine E_callL (p' := 261) (L0 := [some (aA 124), some (aI 0), some (aI a2), some (aI a3), some (aI a4), none, none]) rfl rfl rfl ?_
    refine E_s (p' := 1) (st' := aA 124 :: _) rfl rfl ?_
    refine E_s (p' := 2) (st' := aI 0 :: _) rfl rfl ?_
    refine E_s (p' := 3) rfl rfl ?_
    refine E_callL (p' := 6) (L0 := [some (aA 124), some (aI 0), some (aI a2)]) rfl rfl rfl ?_
    refine E_s (p' := 1) (st' := aI 0 :: _) rfl rfl ?_
    refine E_callL (p' := 4) (L0 := [some (aI 0)]) rfl rfl rfl ?_
    refine E_s (p' := 1) (st' := aI 0 :: _) rfl rfl ?_
    refine E_s (p' := 2) (st' := aI 0 :: _) rfl rfl ?_
    refine E_s (p' := 3) (st' := aI 3 :: _) rfl rfl ?_
    refine E_callL (p' := 6) (L0 := [some (aI 0), some (aI 0), some (aI 3)]) rfl rfl rfl ?_
    refine E_s (p' := 1) (st' := aI 0 :: _) rfl rfl ?_
    refine E_s (p' := 2) (st' := aI 0 :: _) rfl rfl ?_
    refine E_s (p' := 5) rfl rfl ?_
    refine E_s (p' := 6) (st' := aI 0 :: _) rfl rfl ?_
    refine E_s (p' := 7) (st' := aI 3 :: _) rfl rfl ?_
    refine E_s (p' := 10) rfl rfl ?_
    refine E_s (p' := 11) (st' := aI 1 :: _) rfl rfl ?_
    refine E_s (p' := 15) rfl rfl ?_
    refine E_ret rfl rfl ?_
    refine E_ret rfl rfl ?_
    refine E_s (p' := 7) rfl rfl ?_
    refine E_s (p' := 8) rfl rfl ?_
    refine E_s (p' := 9) (st' := aI 0 :: _) rfl rfl ?_
    refine E_s (p' := 10) (st' := aA 124 :: _) rfl rfl ?_
    refine E_s (p' := 13) (st' := aA 125 :: _) rfl rfl ?_
    refine E_s (p' := 14) (st' := aI 0 :: _) rfl rfl ?_
    refine E_s (p' := 15) (st' := aI 0 :: _) rfl rfl ?_
    refine E_s (p' := 16) (st' := aI 1 :: _) rfl rfl ?_
    refine E_isubv (v := -1) rfl (show (0 : Int) - 1 = -1 from rfl) (by decide) ?_
    refine E_callL (p' := 20) (L0 := [some (aI a2), some (aI 0), some (aI (-1))]) rfl rfl rfl ?_
    refine E_s (p' := 1) rfl rfl ?_
    refine E_s (p' := 2) (st' := aI 0 :: _) rfl rfl ?_
    refine E_icmp_lt (y := 0) rfl (by decide) (fun q => absurd q (by omega)) (fun _ => ?_)
    refine E_s (p' := 6) rfl rfl ?_
    refine E_s (p' := 7) (st' := aI (-1) :: _) rfl rfl ?_
    refine E_icmp_gt (y := (-1)) rfl (by decide) (fun _ => ?_) (fun q => absurd q (by omega))
    refine E_s (p' := 15) (st' := aI 0 :: _) rfl rfl ?_
    refine E_ret rfl rfl ?_
    refine E_s (p' := 27) rfl rfl ?_
    refine E_s (p' := 28) (st' := aI 0 :: _) rfl rfl ?_
    refine E_ret rfl rfl ?_
    refine E_s (p' := 18) rfl rfl ?_
    refine E_s (p' := 20) (st' := aI (-2) :: _) rfl rfl ?_
    refine E_ret rfl rfl ?_
    refine E_s (p' := 1174) rfl rfl ?_
    refine E_s (p' := 1177) (L' := [some (aA 0), some (aA 1), some (aA 124), some (aI 6)]) rfl rfl ?_
    refine E_s (p' := 18) rfl rfl ?_
    refine E_s (p' := 19) (st' := aI 6 :: _) rfl rfl ?_
    refine E_s (p' := 20) (st' := aA 0 :: _) rfl rfl ?_
    refine E_s (p' := 21) (st' := aI 6 :: _) rfl rfl ?_
    refine E_s (p' := 23) (st' := aI 6 :: _) rfl rfl ?_
    refine E_s (p' := 24) (st' := aI 0 :: _) rfl rfl ?_
    refine E_s (p' := 1180) rfl rfl ?_
    refine E_s (p' := 1181) (st' := aI 1 :: _) rfl rfl ?_
    exact E_ret rfl rfl ⟨rfl, rfl⟩
set_option maxRecDepth 100000 in
set_option maxHeartbeats 40000000 in
theorem pc_1_1 (xs : Nat → Int) {z a2 a3 a4 a5 : Int} (hz : b32 (fun a b => a &&& b) z 31 = 1) (h0 : xs 0 = z) (h1 : xs 1 = 1) (h2 : xs 2 = a2) (h3 : xs 3 = a3) (h4 : xs 4 = a4) (h5 : xs 5 = a5) : E 0 18 LL [] (s0 xs 6) PQ := by
  refine E_s (p' := 19) (st' := aI 0 :: _) rfl rfl ?_
  refine E_s (p' := 20) (st' := aA 0 :: _) rfl rfl ?_
  refine E_s (p' := 21) (st' := aI 6 :: _) rfl rfl ?_
  refine E_s (p' := 23) (st' := aI 6 :: _) rfl rfl ?_
  refine E_s (p' := 24) (st' := aI 0 :: _) rfl rfl ?_
  refine E_s (p' := 27) rfl rfl ?_
  refine E_s (p' := 28) (st' := aA 0 :: _) rfl rfl ?_
  refine E_s (p' := 29) (st' := aI 0 :: _) rfl rfl ?_
  refine E_scr rfl rfl h0 ?_
  refine E_s (p' := 32) (st' := aI 31 :: _) rfl rfl ?_
  refine E_s (p' := 33) rfl rfl ?_
  refine E_val hz ?_
  refine E_s (p' := 213) rfl rfl ?_
  refine E_s (p' := 214) (st' := aA 1 :: _) rfl rfl ?_
  refine E_s (p' := 215) (st' := aA 0 :: _) rfl rfl ?_
  refine E_s (p' := 216) (st' := aI 0 :: _) rfl rfl ?_
  refine E_s (p' := 217) (st' := aI 1 :: _) rfl rfl ?_
  refine E_s (p' := 218) (st' := aI 1 :: _) rfl rfl ?_
  refine E_scr rfl rfl h1 ?_
  refine E_s (p' := 220) (st' := aA 0 :: _) rfl rfl ?_
  refine E_s (p' := 221) (st' := aI 0 :: _) rfl rfl ?_
  refine E_s (p' := 222) (st' := aI 2 :: _) rfl rfl ?_
  refine E_s (p' := 223) (st' := aI 2 :: _) rfl rfl ?_
  refine E_scr rfl rfl h2 ?_
  refine E_s (p' := 225) (st' := aA 0 :: _) rfl rfl ?_
  refine E_s (p' := 226) (st' := aI 0 :: _) rfl rfl ?_
  refine E_s (p' := 227) (st' := aI 3 :: _) rfl rfl ?_
  refine E_s (p' := 228) (st' := aI 3 :: _) rfl rfl ?_
  refine E_scr rfl rfl h3 ?_
  refine E_s (p' := 230) (st' := aA 0 :: _) rfl rfl ?_
  refine E_s (p' := 231) (st' := aI 0 :: _) rfl rfl ?_
  refine E_s (p' := 232) (st' := aI 4 :: _) rfl rfl ?_
  refine E_s (p' := 233) (st' := aI 4 :: _) rfl rfl ?_
  refine E_scr rfl rfl h4 ?_
  refine E_callL (p' := 237) (L0 := [some (aA 1), some (aI 1), some (aI a2), some (aI a3), some (aI a4), none]) rfl rfl rfl ?_
  refine E_s (p' := 1) (st' := aA 1 :: _) rfl rfl ?_
  refine E_s (p' := 2) (st' := aI 1 :: _) rfl rfl ?_
  refine E_callL (p' := 5) (L0 := [some (aA 1), some (aI 1)]) rfl rfl rfl ?_
  refine E_s (p' := 1) (st' := aI 1 :: _) rfl rfl ?_
  refine E_s (p' := 4) rfl rfl ?_
  refine E_s (p' := 5) (st' := aI 1 :: _) rfl rfl ?_
  refine E_s (p' := 6) (st' := aI 4 :: _) rfl rfl ?_
  refine E_s (p' := 9) rfl rfl ?_
  refine E_s (p' := 10) (st' := aA 1 :: _) rfl rfl ?_
  refine E_s (p' := 13) (st' := aA 2 :: _) rfl rfl ?_
  refine E_s (p' := 14) (st' := aI 1 :: _) rfl rfl ?_
  refine E_s (p' := 15) (st' := aA 46 :: _) rfl rfl ?_
  refine E_s (p' := 19) rfl rfl ?_
  refine E_ret rfl rfl ?_
  refine E_s (p' := 7) (L' := [some (aA 1), some (aI 1), some (aI a2), some (aI a3), some (aI a4), some (aA 46)]) rfl rfl ?_
  refine E_s (p' := 9) (st' := aA 46 :: _) rfl rfl ?_
  refine E_s (p' := 12) rfl rfl ?_
  refine E_s (p' := 14) (st' := aA 46 :: _) rfl rfl ?_
  refine E_s (p' := 17) (st' := aA 47 :: _) rfl rfl ?_
  refine E_s (p' := 18) rfl rfl ?_
  refine E_callL (p' := 21) (L0 := [some (aA 47), some (aI a2)]) rfl rfl rfl ?_
  refine E_s (p' := 1) rfl rfl ?_
  refine E_if_lt rfl (by decide) (fun _ => ?_) (fun _ => ?_)
  · refine E_s (p' := 17) (st' := aI 0 :: _) rfl rfl ?_
    refine E_ret rfl rfl ?_
    refine E_s (p' := 33) rfl rfl ?_
    refine E_s (p' := 35) (st' := aI (-2) :: _) rfl rfl ?_
    refine E_ret rfl rfl ?_
    refine E_s (p' := 238) (st' := aA 124 :: _) rfl rfl ?_
    refine E_s (p' := 239) (st' := aA 0 :: _) rfl rfl ?_
    refine E_s (p' := 240) (st' := aI 0 :: _) rfl rfl ?_
    refine E_s (p' := 241) (st' := aI 1 :: _) rfl rfl ?_
    refine E_s (p' := 242) (st' := aI 1 :: _) rfl rfl ?_
    refine E_scr rfl rfl h1 ?_
    refine E_s (p' := 244) (st' := aA 0 :: _) rfl rfl ?_
    refine E_s (p' := 245) (st' := aI 0 :: _) rfl rfl ?_
    refine E_s (p' := 246) (st' := aI 2 :: _) rfl rfl ?_
    refine E_s (p' := 247) (st' := aI 2 :: _) rfl rfl ?_
    refine E_scr rfl rfl h2 ?_
    refine E_s (p' := 249) (st' := aA 0 :: _) rfl rfl ?_
    refine E_s (p' := 250) (st' := aI 0 :: _) rfl rfl ?_
    refine E_s (p' := 251) (st' := aI 3 :: _) rfl rfl ?_
    refine E_s (p' := 252) (st' := aI 3 :: _) rfl rfl ?_
    refine E_scr rfl rfl h3 ?_
    refine E_s (p' := 254) (st' := aA 0 :: _) rfl rfl ?_
    refine E_s (p' := 255) (st' := aI 0 :: _) rfl rfl ?_
    refine E_s (p' := 256) (st' := aI 4 :: _) rfl rfl ?_
    refine E_s (p' := 257) (st' := aI 4 :: _) rfl rfl ?_
    refine E_scr rfl rfl h4 ?_
    refine E_callL (p' := 261) (L0 := [some (aA 124), some (aI 1), some (aI a2), some (aI a3), some (aI a4), none, none]) rfl rfl rfl ?_
    refine E_s (p' := 1) (st' := aA 124 :: _) rfl rfl ?_
    refine E_s (p' := 2) (st' := aI 1 :: _) rfl rfl ?_
    refine E_s (p' := 3) rfl rfl ?_
    refine E_callL (p' := 6) (L0 := [some (aA 124), some (aI 1), some (aI a2)]) rfl rfl rfl ?_
    refine E_s (p' := 1) (st' := aI 1 :: _) rfl rfl ?_
    refine E_callL (p' := 4) (L0 := [some (aI 1)]) rfl rfl rfl ?_
    refine E_s (p' := 1) (st' := aI 1 :: _) rfl rfl ?_
    refine E_s (p' := 2) (st' := aI 0 :: _) rfl rfl ?_
    refine E_s (p' := 3) (st' := aI 3 :: _) rfl rfl ?_
    refine E_callL (p' := 6) (L0 := [some (aI 1), some (aI 0), some (aI 3)]) rfl rfl rfl ?_
    refine E_s (p' := 1) (st' := aI 1 :: _) rfl rfl ?_
    refine E_s (p' := 2) (st' := aI 0 :: _) rfl rfl ?_
    refine E_s (p' := 5) rfl rfl ?_
    refine E_s (p' := 6) (st' := aI 1 :: _) rfl rfl ?_
    refine E_s (p' := 7) (st' := aI 3 :: _) rfl rfl ?_
    refine E_s (p' := 10) rfl rfl ?_
    refine E_s (p' := 11) (st' := aI 1 :: _) rfl rfl ?_
    refine E_s (p' := 15) rfl rfl ?_
    refine E_ret rfl rfl ?_
    refine E_ret rfl rfl ?_
    refine E_s (p' := 7) rfl rfl ?_
    refine E_s (p' := 8) rfl rfl ?_
    refine E_s (p' := 9) (st' := aI 0 :: _) rfl rfl ?_
    refine E_s (p' := 10) (st' := aA 124 :: _) rfl rfl ?_
    refine E_s (p' := 13) (st' := aA 125 :: _) rfl rfl ?_
    refine E_s (p' := 14) (st' := aI 1 :: _) rfl rfl ?_
    refine E_s (p' := 15) (st' := aI 0 :: _) rfl rfl ?_
    refine E_s (p' := 16) (st' := aI 1 :: _) rfl rfl ?_
    refine E_isubv (v := -1) rfl (show (0 : Int) - 1 = -1 from rfl) (by decide) ?_
    refine E_callL (p' := 20) (L0 := [some (aI a2), some (aI 0), some (aI (-1))]) rfl rfl rfl ?_
    refine E_s (p' := 1) rfl rfl ?_
    refine E_s (p' := 2) (st' := aI 0 :: _) rfl rfl ?_
    refine E_icmp_lt (y := 0) rfl (by decide) (fun _ => ?_) (fun q => absurd q (by omega))
    refine E_s (p' := 15) (st' := aI 0 :: _) rfl rfl ?_
    refine E_ret rfl rfl ?_
    refine E_s (p' := 27) rfl rfl ?_
    refine E_s (p' := 28) (st' := aI 0 :: _) rfl rfl ?_
    refine E_ret rfl rfl ?_
    refine E_s (p' := 18) rfl rfl ?_
    refine E_s (p' := 20) (st' := aI (-2) :: _) rfl rfl ?_
    refine E_ret rfl rfl ?_
    refine E_s (p' := 1174) rfl rfl ?_
    refine E_s (p' := 1177) (L' := [some (aA 0), some (aA 1), some (aA 124), some (aI 6)]) rfl rfl ?_
    refine E_s (p' := 18) rfl rfl ?_
    refine E_s (p' := 19) (st' := aI 6 :: _) rfl rfl ?_
    refine E_s (p' := 20) (st' := aA 0 :: _) rfl rfl ?_
    refine E_s (p' := 21) (st' := aI 6 :: _) rfl rfl ?_
    refine E_s (p' := 23) (st' := aI 6 :: _) rfl rfl ?_
    refine E_s (p' := 24) (st' := aI 0 :: _) rfl rfl ?_
    refine E_s (p' := 1180) rfl rfl ?_
    refine E_s (p' := 1181) (st' := aI 1 :: _) rfl rfl ?_
    exact E_ret rfl rfl ⟨rfl, rfl⟩
  · refine E_s (p' := 5) rfl rfl ?_
    refine E_s (p' := 6) (st' := aA 47 :: _) rfl rfl ?_
    refine E_s (p' := 9) (st' := aI 0 :: _) rfl rfl ?_
    refine E_icmp_ge (y := 0) rfl (by decide) (fun _ => ?_) (fun q => absurd q (by omega))
    refine E_s (p' := 17) (st' := aI 0 :: _) rfl rfl ?_
    refine E_ret rfl rfl ?_
    refine E_s (p' := 33) rfl rfl ?_
    refine E_s (p' := 35) (st' := aI (-2) :: _) rfl rfl ?_
    refine E_ret rfl rfl ?_
    refine E_s (p' := 238) (st' := aA 124 :: _) rfl rfl ?_
    refine E_s (p' := 239) (st' := aA 0 :: _) rfl rfl ?_
    refine E_s (p' := 240) (st' := aI 0 :: _) rfl rfl ?_
    refine E_s (p' := 241) (st' := aI 1 :: _) rfl rfl ?_
    refine E_s (p' := 242) (st' := aI 1 :: _) rfl rfl ?_
    refine E_scr rfl rfl h1 ?_
    refine E_s (p' := 244) (st' := aA 0 :: _) rfl rfl ?_
    refine E_s (p' := 245) (st' := aI 0 :: _) rfl rfl ?_
    refine E_s (p' := 246) (st' := aI 2 :: _) rfl rfl ?_
    refine E_s (p' := 247) (st' := aI 2 :: _) rfl rfl ?_
    refine E_scr rfl rfl h2 ?_
    refine E_s (p' := 249) (st' := aA 0 :: _) rfl rfl ?_
    refine E_s (p' := 250) (st' := aI 0 :: _) rfl rfl ?_
    refine E_s (p' := 251) (st' := aI 3 :: _) rfl rfl ?_
    refine E_s (p' := 252) (st' := aI 3 :: _) rfl rfl ?_
    refine E_scr rfl rfl h3 ?_
    refine E_s (p' := 254) (st' := aA 0 :: _) rfl rfl ?_
    refine E_s (p' := 255) (st' := aI 0 :: _) rfl rfl ?_
    refine E_s (p' := 256) (st' := aI 4 :: _) rfl rfl ?_
    refine E_s (p' := 257) (st' := aI 4 :: _) rfl rfl ?_
    refine E_scr rfl rfl h4 ?_
    refine E_callL (p' := 261) (L0 := [some (aA 124), some (aI 1), some (aI a2), some (aI a3), some (aI a4), none, none]) rfl rfl rfl ?_
    refine E_s (p' := 1) (st' := aA 124 :: _) rfl rfl ?_
    refine E_s (p' := 2) (st' := aI 1 :: _) rfl rfl ?_
    refine E_s (p' := 3) rfl rfl ?_
    refine E_callL (p' := 6) (L0 := [some (aA 124), some (aI 1), some (aI a2)]) rfl rfl rfl ?_
    refine E_s (p' := 1) (st' := aI 1 :: _) rfl rfl ?_
    refine E_callL (p' := 4) (L0 := [some (aI 1)]) rfl rfl rfl ?_
    refine E_s (p' := 1) (st' := aI 1 :: _) rfl rfl ?_
    refine E_s (p' := 2) (st' := aI 0 :: _) rfl rfl ?_
    refine E_s (p' := 3) (st' := aI 3 :: _) rfl rfl ?_
    refine E_callL (p' := 6) (L0 := [some (aI 1), some (aI 0), some (aI 3)]) rfl rfl rfl ?_
    refine E_s (p' := 1) (st' := aI 1 :: _) rfl rfl ?_
    refine E_s (p' := 2) (st' := aI 0 :: _) rfl rfl ?_
    refine E_s (p' := 5) rfl rfl ?_
    refine E_s (p' := 6) (st' := aI 1 :: _) rfl rfl ?_
    refine E_s (p' := 7) (st' := aI 3 :: _) rfl rfl ?_
    refine E_s (p' := 10) rfl rfl ?_
    refine E_s (p' := 11) (st' := aI 1 :: _) rfl rfl ?_
    refine E_s (p' := 15) rfl rfl ?_
    refine E_ret rfl rfl ?_
    refine E_ret rfl rfl ?_
    refine E_s (p' := 7) rfl rfl ?_
    refine E_s (p' := 8) rfl rfl ?_
    refine E_s (p' := 9) (st' := aI 0 :: _) rfl rfl ?_
    refine E_s (p' := 10) (st' := aA 124 :: _) rfl rfl ?_
    refine E_s (p' := 13) (st' := aA 125 :: _) rfl rfl ?_
    refine E_s (p' := 14) (st' := aI 1 :: _) rfl rfl ?_
    refine E_s (p' := 15) (st' := aI 0 :: _) rfl rfl ?_
    refine E_s (p' := 16) (st' := aI 1 :: _) rfl rfl ?_
    refine E_isubv (v := -1) rfl (show (0 : Int) - 1 = -1 from rfl) (by decide) ?_
    refine E_callL (p' := 20) (L0 := [some (aI a2), some (aI 0), some (aI (-1))]) rfl rfl rfl ?_
    refine E_s (p' := 1) rfl rfl ?_
    refine E_s (p' := 2) (st' := aI 0 :: _) rfl rfl ?_
    refine E_icmp_lt (y := 0) rfl (by decide) (fun q => absurd q (by omega)) (fun _ => ?_)
    refine E_s (p' := 6) rfl rfl ?_
    refine E_s (p' := 7) (st' := aI (-1) :: _) rfl rfl ?_
    refine E_icmp_gt (y := (-1)) rfl (by decide) (fun _ => ?_) (fun q => absurd q (by omega))
    refine E_s (p' := 15) (st' := aI 0 :: _) rfl rfl ?_
    refine E_ret rfl rfl ?_
    refine E_s (p' := 27) rfl rfl ?_
    refine E_s (p' := 28) (st' := aI 0 :: _) rfl rfl ?_
    refine E_ret rfl rfl ?_
    refine E_s (p' := 18) rfl rfl ?_
    refine E_s (p' := 20) (st' := aI (-2) :: _) rfl rfl ?_
    refine E_ret rfl rfl ?_
    refine E_s (p' := 1174) rfl rfl ?_
    refine E_s (p' := 1177) (L' := [some (aA 0), some (aA 1), some (aA 124), some (aI 6)]) rfl rfl ?_
    refine E_s (p' := 18) rfl rfl ?_
    refine E_s (p' := 19) (st' := aI 6 :: _) rfl rfl ?_
    refine E_s (p' := 20) (st' := aA 0 :: _) rfl rfl ?_
    refine E_s (p' := 21) (st' := aI 6 :: _) rfl rfl ?_
    refine E_s (p' := 23) (st' := aI 6 :: _) rfl rfl ?_
    refine E_s (p' := 24) (st' := aI 0 :: _) rfl rfl ?_
    refine E_s (p' := 1180) rfl rfl ?_
    refine E_s (p' := 1181) (st' := aI 1 :: _) rfl rfl ?_
    exact E_ret rfl rfl ⟨rfl, rfl⟩
set_option maxRecDepth 100000 in
set_option maxHeartbeats 40000000 in
theorem pc_1_2 (xs : Nat → Int) {z a2 a3 a4 a5 : Int} (hz : b32 (fun a b => a &&& b) z 31 = 1) (h0 : xs 0 = z) (h1 : xs 1 = 2) (h2 : xs 2 = a2) (h3 : xs 3 = a3) (h4 : xs 4 = a4) (h5 : xs 5 = a5) : E 0 18 LL [] (s0 xs 6) PQ := by
  refine E_s (p' := 19) (st' := aI 0 :: _) rfl rfl ?_
  refine E_s (p' := 20) (st' := aA 0 :: _) rfl rfl ?_
  refine E_s (p' := 21) (st' := aI 6 :: _) rfl rfl ?_
  refine E_s (p' := 23) (st' := aI 6 :: _) rfl rfl ?_
  refine E_s (p' := 24) (st' := aI 0 :: _) rfl rfl ?_
  refine E_s (p' := 27) rfl rfl ?_
  refine E_s (p' := 28) (st' := aA 0 :: _) rfl rfl ?_
  refine E_s (p' := 29) (st' := aI 0 :: _) rfl rfl ?_
  refine E_scr rfl rfl h0 ?_
  refine E_s (p' := 32) (st' := aI 31 :: _) rfl rfl ?_
  refine E_s (p' := 33) rfl rfl ?_
  refine E_val hz ?_
  refine E_s (p' := 213) rfl rfl ?_
  refine E_s (p' := 214) (st' := aA 1 :: _) rfl rfl ?_
  refine E_s (p' := 215) (st' := aA 0 :: _) rfl rfl ?_
  refine E_s (p' := 216) (st' := aI 0 :: _) rfl rfl ?_
  refine E_s (p' := 217) (st' := aI 1 :: _) rfl rfl ?_
  refine E_s (p' := 218) (st' := aI 1 :: _) rfl rfl ?_
  refine E_scr rfl rfl h1 ?_
  refine E_s (p' := 220) (st' := aA 0 :: _) rfl rfl ?_
  refine E_s (p' := 221) (st' := aI 0 :: _) rfl rfl ?_
  refine E_s (p' := 222) (st' := aI 2 :: _) rfl rfl ?_
  refine E_s (p' := 223) (st' := aI 2 :: _) rfl rfl ?_
  refine E_scr rfl rfl h2 ?_
  refine E_s (p' := 225) (st' := aA 0 :: _) rfl rfl ?_
  refine E_s (p' := 226) (st' := aI 0 :: _) rfl rfl ?_
  refine E_s (p' := 227) (st' := aI 3 :: _) rfl rfl ?_
  refine E_s (p' := 228) (st' := aI 3 :: _) rfl rfl ?_
  refine E_scr rfl rfl h3 ?_
  refine E_s (p' := 230) (st' := aA 0 :: _) rfl rfl ?_
  refine E_s (p' := 231) (st' := aI 0 :: _) rfl rfl ?_
  refine E_s (p' := 232) (st' := aI 4 :: _) rfl rfl ?_
  refine E_s (p' := 233) (st' := aI 4 :: _) rfl rfl ?_
  refine E_scr rfl rfl h4 ?_
  refine E_callL (p' := 237) (L0 := [some (aA 1), some (aI 2), some (aI a2), some (aI a3), some (aI a4), none]) rfl rfl rfl ?_
  refine E_s (p' := 1) (st' := aA 1 :: _) rfl rfl ?_
  refine E_s (p' := 2) (st' := aI 2 :: _) rfl rfl ?_
  refine E_callL (p' := 5) (L0 := [some (aA 1), some (aI 2)]) rfl rfl rfl ?_
  refine E_s (p' := 1) (st' := aI 2 :: _) rfl rfl ?_
  refine E_s (p' := 4) rfl rfl ?_
  refine E_s (p' := 5) (st' := aI 2 :: _) rfl rfl ?_
  refine E_s (p' := 6) (st' := aI 4 :: _) rfl rfl ?_
  refine E_s (p' := 9) rfl rfl ?_
  refine E_s (p' := 10) (st' := aA 1 :: _) rfl rfl ?_
  refine E_s (p' := 13) (st' := aA 2 :: _) rfl rfl ?_
  refine E_s (p' := 14) (st' := aI 2 :: _) rfl rfl ?_
  refine E_s (p' := 15) (st' := aA 72 :: _) rfl rfl ?_
  refine E_s (p' := 19) rfl rfl ?_
  refine E_ret rfl rfl ?_
  refine E_s (p' := 7) (L' := [some (aA 1), some (aI 2), some (aI a2), some (aI a3), some (aI a4), some (aA 72)]) rfl rfl ?_
  refine E_s (p' := 9) (st' := aA 72 :: _) rfl rfl ?_
  refine E_s (p' := 12) rfl rfl ?_
  refine E_s (p' := 14) (st' := aA 72 :: _) rfl rfl ?_
  refine E_s (p' := 17) (st' := aA 73 :: _) rfl rfl ?_
  refine E_s (p' := 18) rfl rfl ?_
  refine E_callL (p' := 21) (L0 := [some (aA 73), some (aI a2)]) rfl rfl rfl ?_
  refine E_s (p' := 1) rfl rfl ?_
  refine E_if_lt rfl (by decide) (fun _ => ?_) (fun _ => ?_)
  · refine E_s (p' := 17) (st' := aI 0 :: _) rfl rfl ?_
    refine E_ret rfl rfl ?_
    refine E_s (p' := 33) rfl rfl ?_
    refine E_s (p' := 35) (st' := aI (-2) :: _) rfl rfl ?_
    refine E_ret rfl rfl ?_
    refine E_s (p' := 238) (st' := aA 124 :: _) rfl rfl ?_
    refine E_s (p' := 239) (st' := aA 0 :: _) rfl rfl ?_
    refine E_s (p' := 240) (st' := aI 0 :: _) rfl rfl ?_
    refine E_s (p' := 241) (st' := aI 1 :: _) rfl rfl ?_
    refine E_s (p' := 242) (st' := aI 1 :: _) rfl rfl ?_
    refine E_scr rfl rfl h1 ?_
    refine E_s (p' := 244) (st' := aA 0 :: _) rfl rfl ?_
    refine E_s (p' := 245) (st' := aI 0 :: _) rfl rfl ?_
    refine E_s (p' := 246) (st' := aI 2 :: _) rfl rfl ?_
    refine E_s (p' := 247) (st' := aI 2 :: _) rfl rfl ?_
    refine E_scr rfl rfl h2 ?_
    refine E_s (p' := 249) (st' := aA 0 :: _) rfl rfl ?_
    refine E_s (p' := 250) (st' := aI 0 :: _) rfl rfl ?_
    refine E_s (p' := 251) (st' := aI 3 :: _) rfl rfl ?_
    refine E_s (p' := 252) (st' := aI 3 :: _) rfl rfl ?_
    refine E_scr rfl rfl h3 ?_
    refine E_s (p' := 254) (st' := aA 0 :: _) rfl rfl ?_
    refine E_s (p' := 255) (st' := aI 0 :: _) rfl rfl ?_
    refine E_s (p' := 256) (st' := aI 4 :: _) rfl rfl ?_
    refine E_s (p' := 257) (st' := aI 4 :: _) rfl rfl ?_
    refine E_scr rfl rfl h4 ?_
    refine E_callL (p' := 261) (L0 := [some (aA 124), some (aI 2), some (aI a2), some (aI a3), some (aI a4), none, none]) rfl rfl rfl ?_
    refine E_s (p' := 1) (st' := aA 124 :: _) rfl rfl ?_
    refine E_s (p' := 2) (st' := aI 2 :: _) rfl rfl ?_
    refine E_s (p' := 3) rfl rfl ?_
    refine E_callL (p' := 6) (L0 := [some (aA 124), some (aI 2), some (aI a2)]) rfl rfl rfl ?_
    refine E_s (p' := 1) (st' := aI 2 :: _) rfl rfl ?_
    refine E_callL (p' := 4) (L0 := [some (aI 2)]) rfl rfl rfl ?_
    refine E_s (p' := 1) (st' := aI 2 :: _) rfl rfl ?_
    refine E_s (p' := 2) (st' := aI 0 :: _) rfl rfl ?_
    refine E_s (p' := 3) (st' := aI 3 :: _) rfl rfl ?_
    refine E_callL (p' := 6) (L0 := [some (aI 2), some (aI 0), some (aI 3)]) rfl rfl rfl ?_
    refine E_s (p' := 1) (st' := aI 2 :: _) rfl rfl ?_
    refine E_s (p' := 2) (st' := aI 0 :: _) rfl rfl ?_
    refine E_s (p' := 5) rfl rfl ?_
    refine E_s (p' := 6) (st' := aI 2 :: _) rfl rfl ?_
    refine E_s (p' := 7) (st' := aI 3 :: _) rfl rfl ?_
    refine E_s (p' := 10) rfl rfl ?_
    refine E_s (p' := 11) (st' := aI 1 :: _) rfl rfl ?_
    refine E_s (p' := 15) rfl rfl ?_
    refine E_ret rfl rfl ?_
    refine E_ret rfl rfl ?_
    refine E_s (p' := 7) rfl rfl ?_
    refine E_s (p' := 8) rfl rfl ?_
    refine E_s (p' := 9) (st' := aI 0 :: _) rfl rfl ?_
    refine E_s (p' := 10) (st' := aA 124 :: _) rfl rfl ?_
    refine E_s (p' := 13) (st' := aA 125 :: _) rfl rfl ?_
    refine E_s (p' := 14) (st' := aI 2 :: _) rfl rfl ?_
    refine E_s (p' := 15) (st' := aI 0 :: _) rfl rfl ?_
    refine E_s (p' := 16) (st' := aI 1 :: _) rfl rfl ?_
    refine E_isubv (v := -1) rfl (show (0 : Int) - 1 = -1 from rfl) (by decide) ?_
    refine E_callL (p' := 20) (L0 := [some (aI a2), some (aI 0), some (aI (-1))]) rfl rfl rfl ?_
    refine E_s (p' := 1) rfl rfl ?_
    refine E_s (p' := 2) (st' := aI 0 :: _) rfl rfl ?_
    refine E_icmp_lt (y := 0) rfl (by decide) (fun _ => ?_) (fun q => absurd q (by omega))
    refine E_s (p' := 15) (st' := aI 0 :: _) rfl rfl ?_
    refine E_ret rfl rfl ?_
    refine E_s (p' := 27) rfl rfl ?_
    refine E_s (p' := 28) (st' := aI 0 :: _) rfl rfl ?_
    refine E_ret rfl rfl ?_
    refine E_s (p' := 18) rfl rfl ?_
    refine E_s (p' := 20) (st' := aI (-2) :: _) rfl rfl ?_
    refine E_ret rfl rfl ?_
    refine E_s (p' := 1174) rfl rfl ?_
    refine E_s (p' := 1177) (L' := [some (aA 0), some (aA 1), some (aA 124), some (aI 6)]) rfl rfl ?_
    refine E_s (p' := 18) rfl rfl ?_
    refine E_s (p' := 19) (st' := aI 6 :: _) rfl rfl ?_
    refine E_s (p' := 20) (st' := aA 0 :: _) rfl rfl ?_
    refine E_s (p' := 21) (st' := aI 6 :: _) rfl rfl ?_
    refine E_s (p' := 23) (st' := aI 6 :: _) rfl rfl ?_
    refine E_s (p' := 24) (st' := aI 0 :: _) rfl rfl ?_
    refine E_s (p' := 1180) rfl rfl ?_
    refine E_s (p' := 1181) (st' := aI 1 :: _) rfl rfl ?_
    exact E_ret rfl rfl ⟨rfl, rfl⟩
  · refine E_s (p' := 5) rfl rfl ?_
    refine E_s (p' := 6) (st' := aA 73 :: _) rfl rfl ?_
    refine E_s (p' := 9) (st' := aI 0 :: _) rfl rfl ?_
    refine E_icmp_ge (y := 0) rfl (by decide) (fun _ => ?_) (fun q => absurd q (by omega))
    refine E_s (p' := 17) (st' := aI 0 :: _) rfl rfl ?_
    refine E_ret rfl rfl ?_
    refine E_s (p' := 33) rfl rfl ?_
    refine E_s (p' := 35) (st' := aI (-2) :: _) rfl rfl ?_
    refine E_ret rfl rfl ?_
    refine E_s (p' := 238) (st' := aA 124 :: _) rfl rfl ?_
    refine E_s (p' := 239) (st' := aA 0 :: _) rfl rfl ?_
    refine E_s (p' := 240) (st' := aI 0 :: _) rfl rfl ?_
    refine E_s (p' := 241) (st' := aI 1 :: _) rfl rfl ?_
    refine E_s (p' := 242) (st' := aI 1 :: _) rfl rfl ?_
    refine E_scr rfl rfl h1 ?_
    refine E_s (p' := 244) (st' := aA 0 :: _) rfl rfl ?_
    refine E_s (p' := 245) (st' := aI 0 :: _) rfl rfl ?_
    refine E_s (p' := 246) (st' := aI 2 :: _) rfl rfl ?_
    refine E_s (p' := 247) (st' := aI 2 :: _) rfl rfl ?_
    refine E_scr rfl rfl h2 ?_
    refine E_s (p' := 249) (st' := aA 0 :: _) rfl rfl ?_
    refine E_s (p' := 250) (st' := aI 0 :: _) rfl rfl ?_
    refine E_s (p' := 251) (st' := aI 3 :: _) rfl rfl ?_
    refine E_s (p' := 252) (st' := aI 3 :: _) rfl rfl ?_
    refine E_scr rfl rfl h3 ?_
    refine E_s (p' := 254) (st' := aA 0 :: _) rfl rfl ?_
    refine E_s (p' := 255) (st' := aI 0 :: _) rfl rfl ?_
    refine E_s (p' := 256) (st' := aI 4 :: _) rfl rfl ?_
    refine E_s (p' := 257) (st' := aI 4 :: _) rfl rfl ?_
    refine E_scr rfl rfl h4 ?_
    refine E_callL (p' := 261) (L0 := [some (aA 124), some (aI 2), some (aI a2), some (aI a3), some (aI a4), none, none]) rfl rfl rfl ?_
    refine E_s (p' := 1) (st' := aA 124 :: _) rfl rfl ?_
    refine E_s (p' := 2) (st' := aI 2 :: _) rfl rfl ?_
    refine E_s (p' := 3) rfl rfl ?_
    refine E_callL (p' := 6) (L0 := [some (aA 124), some (aI 2), some (aI a2)]) rfl rfl rfl ?_
    refine E_s (p' := 1) (st' := aI 2 :: _) rfl rfl ?_
    refine E_callL (p' := 4) (L0 := [some (aI 2)]) rfl rfl rfl ?_
    refine E_s (p' := 1) (st' := aI 2 :: _) rfl rfl ?_
    refine E_s (p' := 2) (st' := aI 0 :: _) rfl rfl ?_
    refine E_s (p' := 3) (st' := aI 3 :: _) rfl rfl ?_
    refine E_callL (p' := 6) (L0 := [some (aI 2), some (aI 0), some (aI 3)]) rfl rfl rfl ?_
    refine E_s (p' := 1) (st' := aI 2 :: _) rfl rfl ?_
    refine E_s (p' := 2) (st' := aI 0 :: _) rfl rfl ?_
    refine E_s (p' := 5) rfl rfl ?_
    refine E_s (p' := 6) (st' := aI 2 :: _) rfl rfl ?_
    refine E_s (p' := 7) (st' := aI 3 :: _) rfl rfl ?_
    refine E_s (p' := 10) rfl rfl ?_
    refine E_s (p' := 11) (st' := aI 1 :: _) rfl rfl ?_
    refine E_s (p' := 15) rfl rfl ?_
    refine E_ret rfl rfl ?_
    refine E_ret rfl rfl ?_
    refine E_s (p' := 7) rfl rfl ?_
    refine E_s (p' := 8) rfl rfl ?_
    refine E_s (p' := 9) (st' := aI 0 :: _) rfl rfl ?_
    refine E_s (p' := 10) (st' := aA 124 :: _) rfl rfl ?_
    refine E_s (p' := 13) (st' := aA 125 :: _) rfl rfl ?_
    refine E_s (p' := 14) (st' := aI 2 :: _) rfl rfl ?_
    refine E_s (p' := 15) (st' := aI 0 :: _) rfl rfl ?_
    refine E_s (p' := 16) (st' := aI 1 :: _) rfl rfl ?_
    refine E_isubv (v := -1) rfl (show (0 : Int) - 1 = -1 from rfl) (by decide) ?_
    refine E_callL (p' := 20) (L0 := [some (aI a2), some (aI 0), some (aI (-1))]) rfl rfl rfl ?_
    refine E_s (p' := 1) rfl rfl ?_
    refine E_s (p' := 2) (st' := aI 0 :: _) rfl rfl ?_
    refine E_icmp_lt (y := 0) rfl (by decide) (fun q => absurd q (by omega)) (fun _ => ?_)
    refine E_s (p' := 6) rfl rfl ?_
    refine E_s (p' := 7) (st' := aI (-1) :: _) rfl rfl ?_
    refine E_icmp_gt (y := (-1)) rfl (by decide) (fun _ => ?_) (fun q => absurd q (by omega))
    refine E_s (p' := 15) (st' := aI 0 :: _) rfl rfl ?_
    refine E_ret rfl rfl ?_
    refine E_s (p' := 27) rfl rfl ?_
    refine E_s (p' := 28) (st' := aI 0 :: _) rfl rfl ?_
    refine E_ret rfl rfl ?_
    refine E_s (p' := 18) rfl rfl ?_
    refine E_s (p' := 20) (st' := aI (-2) :: _) rfl rfl ?_
    refine E_ret rfl rfl ?_
    refine E_s (p' := 1174) rfl rfl ?_
    refine E_s (p' := 1177) (L' := [some (aA 0), some (aA 1), some (aA 124), some (aI 6)]) rfl rfl ?_
    refine E_s (p' := 18) rfl rfl ?_
    refine E_s (p' := 19) (st' := aI 6 :: _) rfl rfl ?_
    refine E_s (p' := 20) (st' := aA 0 :: _) rfl rfl ?_
    refine E_s (p' := 21) (st' := aI 6 :: _) rfl rfl ?_
    refine E_s (p' := 23) (st' := aI 6 :: _) rfl rfl ?_
    refine E_s (p' := 24) (st' := aI 0 :: _) rfl rfl ?_
    refine E_s (p' := 1180) rfl rfl ?_
    refine E_s (p' := 1181) (st' := aI 1 :: _) rfl rfl ?_
    exact E_ret rfl rfl ⟨rfl, rfl⟩
set_option maxRecDepth 100000 in
set_option maxHeartbeats 40000000 in
theorem pc_1_3 (xs : Nat → Int) {z a2 a3 a4 a5 : Int} (hz : b32 (fun a b => a &&& b) z 31 = 1) (h0 : xs 0 = z) (h1 : xs 1 = 3) (h2 : xs 2 = a2) (h3 : xs 3 = a3) (h4 : xs 4 = a4) (h5 : xs 5 = a5) : E 0 18 LL [] (s0 xs 6) PQ := by
  refine E_s (p' := 19) (st' := aI 0 :: _) rfl rfl ?_
  refine E_s (p' := 20) (st' := aA 0 :: _) rfl rfl ?_
  refine E_s (p' := 21) (st' := aI 6 :: _) rfl rfl ?_
  refine E_s (p' := 23) (st' := aI 6 :: _) rfl rfl ?_
  refine E_s (p' := 24) (st' := aI 0 :: _) rfl rfl ?_
  refine E_s (p' := 27) rfl rfl ?_
  refine E_s (p' := 28) (st' := aA 0 :: _) rfl rfl ?_
  refine E_s (p' := 29) (st' := aI 0 :: _) rfl rfl ?_
  refine E_scr rfl rfl h0 ?_
  refine E_s (p' := 32) (st' := aI 31 :: _) rfl rfl ?_
  refine E_s (p' := 33) rfl rfl ?_
  refine E_val hz ?_
  refine E_s (p' := 213) rfl rfl ?_
  refine E_s (p' := 214) (st' := aA 1 :: _) rfl rfl ?_
  refine E_s (p' := 215) (st' := aA 0 :: _) rfl rfl ?_
  refine E_s (p' := 216) (st' := aI 0 :: _) rfl rfl ?_
  refine E_s (p' := 217) (st' := aI 1 :: _) rfl rfl ?_
  refine E_s (p' := 218) (st' := aI 1 :: _) rfl rfl ?_
  refine E_scr rfl rfl h1 ?_
  refine E_s (p' := 220) (st' := aA 0 :: _) rfl rfl ?_
  refine E_s (p' := 221) (st' := aI 0 :: _) rfl rfl ?_
  refine E_s (p' := 222) (st' := aI 2 :: _) rfl rfl ?_
  refine E_s (p' := 223) (st' := aI 2 :: _) rfl rfl ?_
  refine E_scr rfl rfl h2 ?_
  refine E_s (p' := 225) (st' := aA 0 :: _) rfl rfl ?_
  refine E_s (p' := 226) (st' := aI 0 :: _) rfl rfl ?_
  refine E_s (p' := 227) (st' := aI 3 :: _) rfl rfl ?_
  refine E_s (p' := 228) (st' := aI 3 :: _) rfl rfl ?_
  refine E_scr rfl rfl h3 ?_
  refine E_s (p' := 230) (st' := aA 0 :: _) rfl rfl ?_
  refine E_s (p' := 231) (st' := aI 0 :: _) rfl rfl ?_
  refine E_s (p' := 232) (st' := aI 4 :: _) rfl rfl ?_
  refine E_s (p' := 233) (st' := aI 4 :: _) rfl rfl ?_
  refine E_scr rfl rfl h4 ?_
  refine E_callL (p' := 237) (L0 := [some (aA 1), some (aI 3), some (aI a2), some (aI a3), some (aI a4), none]) rfl rfl rfl ?_
  refine E_s (p' := 1) (st' := aA 1 :: _) rfl rfl ?_
  refine E_s (p' := 2) (st' := aI 3 :: _) rfl rfl ?_
  refine E_callL (p' := 5) (L0 := [some (aA 1), some (aI 3)]) rfl rfl rfl ?_
  refine E_s (p' := 1) (st' := aI 3 :: _) rfl rfl ?_
  refine E_s (p' := 4) rfl rfl ?_
  refine E_s (p' := 5) (st' := aI 3 :: _) rfl rfl ?_
  refine E_s (p' := 6) (st' := aI 4 :: _) rfl rfl ?_
  refine E_s (p' := 9) rfl rfl ?_
  refine E_s (p' := 10) (st' := aA 1 :: _) rfl rfl ?_
  refine E_s (p' := 13) (st' := aA 2 :: _) rfl rfl ?_
  refine E_s (p' := 14) (st' := aI 3 :: _) rfl rfl ?_
  refine E_s (p' := 15) (st' := aA 98 :: _) rfl rfl ?_
  refine E_s (p' := 19) rfl rfl ?_
  refine E_ret rfl rfl ?_
  refine E_s (p' := 7) (L' := [some (aA 1), some (aI 3), some (aI a2), some (aI a3), some (aI a4), some (aA 98)]) rfl rfl ?_
  refine E_s (p' := 9) (st' := aA 98 :: _) rfl rfl ?_
  refine E_s (p' := 12) rfl rfl ?_
  refine E_s (p' := 14) (st' := aA 98 :: _) rfl rfl ?_
  refine E_s (p' := 17) (st' := aA 99 :: _) rfl rfl ?_
  refine E_s (p' := 18) rfl rfl ?_
  refine E_callL (p' := 21) (L0 := [some (aA 99), some (aI a2)]) rfl rfl rfl ?_
  refine E_s (p' := 1) rfl rfl ?_
  refine E_if_lt rfl (by decide) (fun _ => ?_) (fun _ => ?_)
  · refine E_s (p' := 17) (st' := aI 0 :: _) rfl rfl ?_
    refine E_ret rfl rfl ?_
    refine E_s (p' := 33) rfl rfl ?_
    refine E_s (p' := 35) (st' := aI (-2) :: _) rfl rfl ?_
    refine E_ret rfl rfl ?_
    refine E_s (p' := 238) (st' := aA 124 :: _) rfl rfl ?_
    refine E_s (p' := 239) (st' := aA 0 :: _) rfl rfl ?_
    refine E_s (p' := 240) (st' := aI 0 :: _) rfl rfl ?_
    refine E_s (p' := 241) (st' := aI 1 :: _) rfl rfl ?_
    refine E_s (p' := 242) (st' := aI 1 :: _) rfl rfl ?_
    refine E_scr rfl rfl h1 ?_
    refine E_s (p' := 244) (st' := aA 0 :: _) rfl rfl ?_
    refine E_s (p' := 245) (st' := aI 0 :: _) rfl rfl ?_
    refine E_s (p' := 246) (st' := aI 2 :: _) rfl rfl ?_
    refine E_s (p' := 247) (st' := aI 2 :: _) rfl rfl ?_
    refine E_scr rfl rfl h2 ?_
    refine E_s (p' := 249) (st' := aA 0 :: _) rfl rfl ?_
    refine E_s (p' := 250) (st' := aI 0 :: _) rfl rfl ?_
    refine E_s (p' := 251) (st' := aI 3 :: _) rfl rfl ?_
    refine E_s (p' := 252) (st' := aI 3 :: _) rfl rfl ?_
    refine E_scr rfl rfl h3 ?_
    refine E_s (p' := 254) (st' := aA 0 :: _) rfl rfl ?_
    refine E_s (p' := 255) (st' := aI 0 :: _) rfl rfl ?_
    refine E_s (p' := 256) (st' := aI 4 :: _) rfl rfl ?_
    refine E_s (p' := 257) (st' := aI 4 :: _) rfl rfl ?_
    refine E_scr rfl rfl h4 ?_
    refine E_callL (p' := 261) (L0 := [some (aA 124), some (aI 3), some (aI a2), some (aI a3), some (aI a4), none, none]) rfl rfl rfl ?_
    refine E_s (p' := 1) (st' := aA 124 :: _) rfl rfl ?_
    refine E_s (p' := 2) (st' := aI 3 :: _) rfl rfl ?_
    refine E_s (p' := 3) rfl rfl ?_
    refine E_callL (p' := 6) (L0 := [some (aA 124), some (aI 3), some (aI a2)]) rfl rfl rfl ?_
    refine E_s (p' := 1) (st' := aI 3 :: _) rfl rfl ?_
    refine E_callL (p' := 4) (L0 := [some (aI 3)]) rfl rfl rfl ?_
    refine E_s (p' := 1) (st' := aI 3 :: _) rfl rfl ?_
    refine E_s (p' := 2) (st' := aI 0 :: _) rfl rfl ?_
    refine E_s (p' := 3) (st' := aI 3 :: _) rfl rfl ?_
    refine E_callL (p' := 6) (L0 := [some (aI 3), some (aI 0), some (aI 3)]) rfl rfl rfl ?_
    refine E_s (p' := 1) (st' := aI 3 :: _) rfl rfl ?_
    refine E_s (p' := 2) (st' := aI 0 :: _) rfl rfl ?_
    refine E_s (p' := 5) rfl rfl ?_
    refine E_s (p' := 6) (st' := aI 3 :: _) rfl rfl ?_
    refine E_s (p' := 7) (st' := aI 3 :: _) rfl rfl ?_
    refine E_s (p' := 10) rfl rfl ?_
    refine E_s (p' := 11) (st' := aI 1 :: _) rfl rfl ?_
    refine E_s (p' := 15) rfl rfl ?_
    refine E_ret rfl rfl ?_
    refine E_ret rfl rfl ?_
    refine E_s (p' := 7) rfl rfl ?_
    refine E_s (p' := 8) rfl rfl ?_
    refine E_s (p' := 9) (st' := aI 0 :: _) rfl rfl ?_
    refine E_s (p' := 10) (st' := aA 124 :: _) rfl rfl ?_
    refine E_s (p' := 13) (st' := aA 125 :: _) rfl rfl ?_
    refine E_s (p' := 14) (st' := aI 3 :: _) rfl rfl ?_
    refine E_s (p' := 15) (st' := aI 0 :: _) rfl rfl ?_
    refine E_s (p' := 16) (st' := aI 1 :: _) rfl rfl ?_
    refine E_isubv (v := -1) rfl (show (0 : Int) - 1 = -1 from rfl) (by decide) ?_
    refine E_callL (p' := 20) (L0 := [some (aI a2), some (aI 0), some (aI (-1))]) rfl rfl rfl ?_
    refine E_s (p' := 1) rfl rfl ?_
    refine E_s (p' := 2) (st' := aI 0 :: _) rfl rfl ?_
    refine E_icmp_lt (y := 0) rfl (by decide) (fun _ => ?_) (fun q => absurd q (by omega))
    refine E_s (p' := 15) (st' := aI 0 :: _) rfl rfl ?_
    refine E_ret rfl rfl ?_
    refine E_s (p' := 27) rfl rfl ?_
    refine E_s (p' := 28) (st' := aI 0 :: _) rfl rfl ?_
    refine E_ret rfl rfl ?_
    refine E_s (p' := 18) rfl rfl ?_
    refine E_s (p' := 20) (st' := aI (-2) :: _) rfl rfl ?_
    refine E_ret rfl rfl ?_
    refine E_s (p' := 1174) rfl rfl ?_
    refine E_s (p' := 1177) (L' := [some (aA 0), some (aA 1), some (aA 124), some (aI 6)]) rfl rfl ?_
    refine E_s (p' := 18) rfl rfl ?_
    refine E_s (p' := 19) (st' := aI 6 :: _) rfl rfl ?_
    refine E_s (p' := 20) (st' := aA 0 :: _) rfl rfl ?_
    refine E_s (p' := 21) (st' := aI 6 :: _) rfl rfl ?_
    refine E_s (p' := 23) (st' := aI 6 :: _) rfl rfl ?_
    refine E_s (p' := 24) (st' := aI 0 :: _) rfl rfl ?_
    refine E_s (p' := 1180) rfl rfl ?_
    refine E_s (p' := 1181) (st' := aI 1 :: _) rfl rfl ?_
    exact E_ret rfl rfl ⟨rfl, rfl⟩
  · refine E_s (p' := 5) rfl rfl ?_
    refine E_s (p' := 6) (st' := aA 99 :: _) rfl rfl ?_
    refine E_s (p' := 9) (st' := aI 0 :: _) rfl rfl ?_
    refine E_icmp_ge (y := 0) rfl (by decide) (fun _ => ?_) (fun q => absurd q (by omega))
    refine E_s (p' := 17) (st' := aI 0 :: _) rfl rfl ?_
    refine E_ret rfl rfl ?_
    refine E_s (p' := 33) rfl rfl ?_
    refine E_s (p' := 35) (st' := aI (-2) :: _) rfl rfl ?_
    refine E_ret rfl rfl ?_
    refine E_s (p' := 238) (st' := aA 124 :: _) rfl rfl ?_
    refine E_s (p' := 239) (st' := aA 0 :: _) rfl rfl ?_
    refine E_s (p' := 240) (st' := aI 0 :: _) rfl rfl ?_
    refine E_s (p' := 241) (st' := aI 1 :: _) rfl rfl ?_
    refine E_s (p' := 242) (st' := aI 1 :: _) rfl rfl ?_
    refine E_scr rfl rfl h1 ?_
    refine E_s (p' := 244) (st' := aA 0 :: _) rfl rfl ?_
    refine E_s (p' := 245) (st' := aI 0 :: _) rfl rfl ?_
    refine E_s (p' := 246) (st' := aI 2 :: _) rfl rfl ?_
    refine E_s (p' := 247) (st' := aI 2 :: _) rfl rfl ?_
    refine E_scr rfl rfl h2 ?_
    refine E_s (p' := 249) (st' := aA 0 :: _) rfl rfl ?_
    refine E_s (p' := 250) (st' := aI 0 :: _) rfl rfl ?_
    refine E_s (p' := 251) (st' := aI 3 :: _) rfl rfl ?_
    refine E_s (p' := 252) (st' := aI 3 :: _) rfl rfl ?_
    refine E_scr rfl rfl h3 ?_
    refine E_s (p' := 254) (st' := aA 0 :: _) rfl rfl ?_
    refine E_s (p' := 255) (st' := aI 0 :: _) rfl rfl ?_
    refine E_s (p' := 256) (st' := aI 4 :: _) rfl rfl ?_
    refine E_s (p' := 257) (st' := aI 4 :: _) rfl rfl ?_
    refine E_scr rfl rfl h4 ?_
    refine E_callL (p' := 261) (L0 := [some (aA 124), some (aI 3), some (aI a2), some (aI a3), some (aI a4), none, none]) rfl rfl rfl ?_
    refine E_s (p' := 1) (st' := aA 124 :: _) rfl rfl ?_
    refine E_s (p' := 2) (st' := aI 3 :: _) rfl rfl ?_
    refine E_s (p' := 3) rfl rfl ?_
    refine E_callL (p' := 6) (L0 := [some (aA 124), some (aI 3), some (aI a2)]) rfl rfl rfl ?_
    refine E_s (p' := 1) (st' := aI 3 :: _) rfl rfl ?_
    refine E_callL (p' := 4) (L0 := [some (aI 3)]) rfl rfl rfl ?_
    refine E_s (p' := 1) (st' := aI 3 :: _) rfl rfl ?_
    refine E_s (p' := 2) (st' := aI 0 :: _) rfl rfl ?_
    refine E_s (p' := 3) (st' := aI 3 :: _) rfl rfl ?_
    refine E_callL (p' := 6) (L0 := [some (aI 3), some (aI 0), some (aI 3)]) rfl rfl rfl ?_
    refine E_s (p' := 1) (st' := aI 3 :: _) rfl rfl ?_
    refine E_s (p' := 2) (st' := aI 0 :: _) rfl rfl ?_
    refine E_s (p' := 5) rfl rfl ?_
    refine E_s (p' := 6) (st' := aI 3 :: _) rfl rfl ?_
    refine E_s (p' := 7) (st' := aI 3 :: _) rfl rfl ?_
    refine E_s (p' := 10) rfl rfl ?_
    refine E_s (p' := 11) (st' := aI 1 :: _) rfl rfl ?_
    refine E_s (p' := 15) rfl rfl ?_
    refine E_ret rfl rfl ?_
    refine E_ret rfl rfl ?_
    refine E_s (p' := 7) rfl rfl ?_
    refine E_s (p' := 8) rfl rfl ?_
    refine E_s (p' := 9) (st' := aI 0 :: _) rfl rfl ?_
    refine E_s (p' := 10) (st' := aA 124 :: _) rfl rfl ?_
    refine E_s (p' := 13) (st' := aA 125 :: _) rfl rfl ?_
    refine E_s (p' := 14) (st' := aI 3 :: _) rfl rfl ?_
    refine E_s (p' := 15) (st' := aI 0 :: _) rfl rfl ?_
    refine E_s (p' := 16) (st' := aI 1 :: _) rfl rfl ?_
    refine E_isubv (v := -1) rfl (show (0 : Int) - 1 = -1 from rfl) (by decide) ?_
    refine E_callL (p' := 20) (L0 := [some (aI a2), some (aI 0), some (aI (-1))]) rfl rfl rfl ?_
    refine E_s (p' := 1) rfl rfl ?_
    refine E_s (p' := 2) (st' := aI 0 :: _) rfl rfl ?_
    refine E_icmp_lt (y := 0) rfl (by decide) (fun q => absurd q (by omega)) (fun _ => ?_)
    refine E_s (p' := 6) rfl rfl ?_
    refine E_s (p' := 7) (st' := aI (-1) :: _) rfl rfl ?_
    refine E_icmp_gt (y := (-1)) rfl (by decide) (fun _ => ?_) (fun q => absurd q (by omega))
    refine E_s (p' := 15) (st' := aI 0 :: _) rfl rfl ?_
    refine E_ret rfl rfl ?_
    refine E_s (p' := 27) rfl rfl ?_
    refine E_s (p' := 28) (st' := aI 0 :: _) rfl rfl ?_
    refine E_ret rfl rfl ?_
    refine E_s (p' := 18) rfl rfl ?_
    refine E_s (p' := 20) (st' := aI (-2) :: _) rfl rfl ?_
    refine E_ret rfl rfl ?_
    refine E_s (p' := 1174) rfl rfl ?_
    refine E_s (p' := 1177) (L' := [some (aA 0), some (aA 1), some (aA 124), some (aI 6)]) rfl rfl ?_
    refine E_s (p' := 18) rfl rfl ?_
    refine E_s (p' := 19) (st' := aI 6 :: _) rfl rfl ?_
    refine E_s (p' := 20) (st' := aA 0 :: _) rfl rfl ?_
    refine E_s (p' := 21) (st' := aI 6 :: _) rfl rfl ?_
    refine E_s (p' := 23) (st' := aI 6 :: _) rfl rfl ?_
    refine E_s (p' := 24) (st' := aI 0 :: _) rfl rfl ?_
    refine E_s (p' := 1180) rfl rfl ?_
    refine E_s (p' := 1181) (st' := aI 1 :: _) rfl rfl ?_
    exact E_ret rfl rfl ⟨rfl, rfl⟩
set_option maxRecDepth 100000 in
set_option maxHeartbeats 40000000 in
theorem pc_1_o (xs : Nat → Int) {z a1 a2 a3 a4 a5 : Int} (hz : b32 (fun a b => a &&& b) z 31 = 1) (h0 : xs 0 = z) (h1 : xs 1 = a1) (h2 : xs 2 = a2) (h3 : xs 3 = a3) (h4 : xs 4 = a4) (h5 : xs 5 = a5) (hr : a1 < 0 ∨ 3 < a1) : E 0 18 LL [] (s0 xs 6) PQ := by
  refine E_s (p' := 19) (st' := aI 0 :: _) rfl rfl ?_
  refine E_s (p' := 20) (st' := aA 0 :: _) rfl rfl ?_
  refine E_s (p' := 21) (st' := aI 6 :: _) rfl rfl ?_
  refine E_s (p' := 23) (st' := aI 6 :: _) rfl rfl ?_
  refine E_s (p' := 24) (st' := aI 0 :: _) rfl rfl ?_
  refine E_s (p' := 27) rfl rfl ?_
  refine E_s (p' := 28) (st' := aA 0 :: _) rfl rfl ?_
  refine E_s (p' := 29) (st' := aI 0 :: _) rfl rfl ?_
  refine E_scr rfl rfl h0 ?_
  refine E_s (p' := 32) (st' := aI 31 :: _) rfl rfl ?_
  refine E_s (p' := 33) rfl rfl ?_
  refine E_val hz ?_
  refine E_s (p' := 213) rfl rfl ?_
  refine E_s (p' := 214) (st' := aA 1 :: _) rfl rfl ?_
  refine E_s (p' := 215) (st' := aA 0 :: _) rfl rfl ?_
  refine E_s (p' := 216) (st' := aI 0 :: _) rfl rfl ?_
  refine E_s (p' := 217) (st' := aI 1 :: _) rfl rfl ?_
  refine E_s (p' := 218) (st' := aI 1 :: _) rfl rfl ?_
  refine E_scr rfl rfl h1 ?_
  refine E_s (p' := 220) (st' := aA 0 :: _) rfl rfl ?_
  refine E_s (p' := 221) (st' := aI 0 :: _) rfl rfl ?_
  refine E_s (p' := 222) (st' := aI 2 :: _) rfl rfl ?_
  refine E_s (p' := 223) (st' := aI 2 :: _) rfl rfl ?_
  refine E_scr rfl rfl h2 ?_
  refine E_s (p' := 225) (st' := aA 0 :: _) rfl rfl ?_
  refine E_s (p' := 226) (st' := aI 0 :: _) rfl rfl ?_
  refine E_s (p' := 227) (st' := aI 3 :: _) rfl rfl ?_
  refine E_s (p' := 228) (st' := aI 3 :: _) rfl rfl ?_
  refine E_scr rfl rfl h3 ?_
  refine E_s (p' := 230) (st' := aA 0 :: _) rfl rfl ?_
  refine E_s (p' := 231) (st' := aI 0 :: _) rfl rfl ?_
  refine E_s (p' := 232) (st' := aI 4 :: _) rfl rfl ?_
  refine E_s (p' := 233) (st' := aI 4 :: _) rfl rfl ?_
  refine E_scr rfl rfl h4 ?_
  refine E_callL (p' := 237) (L0 := [some (aA 1), some (aI a1), some (aI a2), some (aI a3), some (aI a4), none]) rfl rfl rfl ?_
  refine E_s (p' := 1) (st' := aA 1 :: _) rfl rfl ?_
  refine E_s (p' := 2) rfl rfl ?_
  refine E_callL (p' := 5) (L0 := [some (aA 1), some (aI a1)]) rfl rfl rfl ?_
  refine E_s (p' := 1) rfl rfl ?_
  refine E_if_lt rfl (by decide) (fun _ => ?_) (fun _ => ?_)
  · refine E_s (p' := 19) rfl rfl ?_
    refine E_ret rfl rfl ?_
    refine E_s (p' := 7) (L' := [some (aA 1), some (aI a1), some (aI a2), some (aI a3), some (aI a4), some aN]) rfl rfl ?_
    refine E_s (p' := 9) rfl rfl ?_
    refine E_s (p' := 33) rfl rfl ?_
    refine E_s (p' := 35) (st' := aI (-2) :: _) rfl rfl ?_
    refine E_ret rfl rfl ?_
    refine E_s (p' := 238) (st' := aA 124 :: _) rfl rfl ?_
    refine E_s (p' := 239) (st' := aA 0 :: _) rfl rfl ?_
    refine E_s (p' := 240) (st' := aI 0 :: _) rfl rfl ?_
    refine E_s (p' := 241) (st' := aI 1 :: _) rfl rfl ?_
    refine E_s (p' := 242) (st' := aI 1 :: _) rfl rfl ?_
    refine E_scr rfl rfl h1 ?_
    refine E_s (p' := 244) (st' := aA 0 :: _) rfl rfl ?_
    refine E_s (p' := 245) (st' := aI 0 :: _) rfl rfl ?_
    refine E_s (p' := 246) (st' := aI 2 :: _) rfl rfl ?_
    refine E_s (p' := 247) (st' := aI 2 :: _) rfl rfl ?_
    refine E_scr rfl rfl h2 ?_
    refine E_s (p' := 249) (st' := aA 0 :: _) rfl rfl ?_
    refine E_s (p' := 250) (st' := aI 0 :: _) rfl rfl ?_
    refine E_s (p' := 251) (st' := aI 3 :: _) rfl rfl ?_
    refine E_s (p' := 252) (st' := aI 3 :: _) rfl rfl ?_
    refine E_scr rfl rfl h3 ?_
    refine E_s (p' := 254) (st' := aA 0 :: _) rfl rfl ?_
    refine E_s (p' := 255) (st' := aI 0 :: _) rfl rfl ?_
    refine E_s (p' := 256) (st' := aI 4 :: _) rfl rfl ?_
    refine E_s (p' := 257) (st' := aI 4 :: _) rfl rfl ?_
    refine E_scr rfl rfl h4 ?_
    refine E_callL (p' := 261) (L0 := [some (aA 124), some (aI a1), some (aI a2), some (aI a3), some (aI a4), none, none]) rfl rfl rfl ?_
    refine E_s (p' := 1) (st' := aA 124 :: _) rfl rfl ?_
    refine E_s (p' := 2) rfl rfl ?_
    refine E_s (p' := 3) rfl rfl ?_
    refine E_callL (p' := 6) (L0 := [some (aA 124), some (aI a1), some (aI a2)]) rfl rfl rfl ?_
    refine E_s (p' := 1) rfl rfl ?_
    refine E_callL (p' := 4) (L0 := [some (aI a1)]) rfl rfl rfl ?_
    refine E_s (p' := 1) rfl rfl ?_
    refine E_s (p' := 2) (st' := aI 0 :: _) rfl rfl ?_
    refine E_s (p' := 3) (st' := aI 3 :: _) rfl rfl ?_
    refine E_callL (p' := 6) (L0 := [some (aI a1), some (aI 0), some (aI 3)]) rfl rfl rfl ?_
    refine E_s (p' := 1) rfl rfl ?_
    refine E_s (p' := 2) (st' := aI 0 :: _) rfl rfl ?_
    refine E_icmp_lt (y := 0) rfl (by decide) (fun _ => ?_) (fun q => absurd q (by omega))
    refine E_s (p' := 15) (st' := aI 0 :: _) rfl rfl ?_
    refine E_ret rfl rfl ?_
    refine E_ret rfl rfl ?_
    refine E_s (p' := 27) rfl rfl ?_
    refine E_s (p' := 28) (st' := aI 0 :: _) rfl rfl ?_
    refine E_ret rfl rfl ?_
    refine E_s (p' := 18) rfl rfl ?_
    refine E_s (p' := 20) (st' := aI (-2) :: _) rfl rfl ?_
    refine E_ret rfl rfl ?_
    refine E_s (p' := 1174) rfl rfl ?_
    refine E_s (p' := 1177) (L' := [some (aA 0), some (aA 1), some (aA 124), some (aI 6)]) rfl rfl ?_
    refine E_s (p' := 18) rfl rfl ?_
    refine E_s (p' := 19) (st' := aI 6 :: _) rfl rfl ?_
    refine E_s (p' := 20) (st' := aA 0 :: _) rfl rfl ?_
    refine E_s (p' := 21) (st' := aI 6 :: _) rfl rfl ?_
    refine E_s (p' := 23) (st' := aI 6 :: _) rfl rfl ?_
    refine E_s (p' := 24) (st' := aI 0 :: _) rfl rfl ?_
    refine E_s (p' := 1180) rfl rfl ?_
    refine E_s (p' := 1181) (st' := aI 1 :: _) rfl rfl ?_
    exact E_ret rfl rfl ⟨rfl, rfl⟩
  · refine E_s (p' := 5) rfl rfl ?_
    refine E_s (p' := 6) (st' := aI 4 :: _) rfl rfl ?_
    refine E_icmp_ge (y := 4) rfl (by decide) (fun _ => ?_) (fun q => absurd q (by omega))
    refine E_s (p' := 19) rfl rfl ?_
    refine E_ret rfl rfl ?_
    refine E_s (p' := 7) (L' := [some (aA 1), some (aI a1), some (aI a2), some (aI a3), some (aI a4), some aN]) rfl rfl ?_
    refine E_s (p' := 9) rfl rfl ?_
    refine E_s (p' := 33) rfl rfl ?_
    refine E_s (p' := 35) (st' := aI (-2) :: _) rfl rfl ?_
    refine E_ret rfl rfl ?_
    refine E_s (p' := 238) (st' := aA 124 :: _) rfl rfl ?_
    refine E_s (p' := 239) (st' := aA 0 :: _) rfl rfl ?_
    refine E_s (p' := 240) (st' := aI 0 :: _) rfl rfl ?_
    refine E_s (p' := 241) (st' := aI 1 :: _) rfl rfl ?_
    refine E_s (p' := 242) (st' := aI 1 :: _) rfl rfl ?_
    refine E_scr rfl rfl h1 ?_
    refine E_s (p' := 244) (st' := aA 0 :: _) rfl rfl ?_
    refine E_s (p' := 245) (st' := aI 0 :: _) rfl rfl ?_
    refine E_s (p' := 246) (st' := aI 2 :: _) rfl rfl ?_
    refine E_s (p' := 247) (st' := aI 2 :: _) rfl rfl ?_
    refine E_scr rfl rfl h2 ?_
    refine E_s (p' := 249) (st' := aA 0 :: _) rfl rfl ?_
    refine E_s (p' := 250) (st' := aI 0 :: _) rfl rfl ?_
    refine E_s (p' := 251) (st' := aI 3 :: _) rfl rfl ?_
    refine E_s (p' := 252) (st' := aI 3 :: _) rfl rfl ?_
    refine E_scr rfl rfl h3 ?_
    refine E_s (p' := 254) (st' := aA 0 :: _) rfl rfl ?_
    refine E_s (p' := 255) (st' := aI 0 :: _) rfl rfl ?_
    refine E_s (p' := 256) (st' := aI 4 :: _) rfl rfl ?_
    refine E_s (p' := 257) (st' := aI 4 :: _) rfl rfl ?_
    refine E_scr rfl rfl h4 ?_
    refine E_callL (p' := 261) (L0 := [some (aA 124), some (aI a1), some (aI a2), some (aI a3), some (aI a4), none, none]) rfl rfl rfl ?_
    refine E_s (p' := 1) (st' := aA 124 :: _) rfl rfl ?_
    refine E_s (p' := 2) rfl rfl ?_
    refine E_s (p' := 3) rfl rfl ?_
    refine E_callL (p' := 6) (L0 := [some (aA 124), some (aI a1), some (aI a2)]) rfl rfl rfl ?_
    refine E_s (p' := 1) rfl rfl ?_
    refine E_callL (p' := 4) (L0 := [some (aI a1)]) rfl rfl rfl ?_
    refine E_s (p' := 1) rfl rfl ?_
    refine E_s (p' := 2) (st' := aI 0 :: _) rfl rfl ?_
    refine E_s (p' := 3) (st' := aI 3 :: _) rfl rfl ?_
    refine E_callL (p' := 6) (L0 := [some (aI a1), some (aI 0), some (aI 3)]) rfl rfl rfl ?_
    refine E_s (p' := 1) rfl rfl ?_
    refine E_s (p' := 2) (st' := aI 0 :: _) rfl rfl ?_
    refine E_icmp_lt (y := 0) rfl (by decide) (fun q => absurd q (by omega)) (fun _ => ?_)
    refine E_s (p' := 6) rfl rfl ?_
    refine E_s (p' := 7) (st' := aI 3 :: _) rfl rfl ?_
    refine E_icmp_gt (y := 3) rfl (by decide) (fun _ => ?_) (fun q => absurd q (by omega))
    refine E_s (p' := 15) (st' := aI 0 :: _) rfl rfl ?_
    refine E_ret rfl rfl ?_
    refine E_ret rfl rfl ?_
    refine E_s (p' := 27) rfl rfl ?_
    refine E_s (p' := 28) (st' := aI 0 :: _) rfl rfl ?_
    refine E_ret rfl rfl ?_
    refine E_s (p' := 18) rfl rfl ?_
    refine E_s (p' := 20) (st' := aI (-2) :: _) rfl rfl ?_
    refine E_ret rfl rfl ?_
    refine E_s (p' := 1174) rfl rfl ?_
    refine E_s (p' := 1177) (L' := [some (aA 0), some (aA 1), some (aA 124), some (aI 6)]) rfl rfl ?_
    refine E_s (p' := 18) rfl rfl ?_
    refine E_s (p' := 19) (st' := aI 6 :: _) rfl rfl ?_
    refine E_s (p' := 20) (st' := aA 0 :: _) rfl rfl ?_
    refine E_s (p' := 21) (st' := aI 6 :: _) rfl rfl ?_
    refine E_s (p' := 23) (st' := aI 6 :: _) rfl rfl ?_
    refine E_s (p' := 24) (st' := aI 0 :: _) rfl rfl ?_
    refine E_s (p' := 1180) rfl rfl ?_
    refine E_s (p' := 1181) (st' := aI 1 :: _) rfl rfl ?_
    exact E_ret rfl rfl ⟨rfl, rfl⟩
set_option maxRecDepth 100000 in
set_option maxHeartbeats 40000000 in
theorem pc_2_0 (xs : Nat → Int) {z a2 a3 a4 a5 : Int} (hz : b32 (fun a b => a &&& b) z 31 = 2) (h0 : xs 0 = z) (h1 : xs 1 = 0) (h2 : xs 2 = a2) (h3 : xs 3 = a3) (h4 : xs 4 = a4) (h5 : xs 5 = a5) : E 0 18 LL [] (s0 xs 6) PQ := by
  refine E_s (p' := 19) (st' := aI 0 :: _) rfl rfl ?_
  refine E_s (p' := 20) (st' := aA 0 :: _) rfl rfl ?_
  refine E_s (p' := 21) (st' := aI 6 :: _) rfl rfl ?_
  refine E_s (p' := 23) (st' := aI 6 :: _) rfl rfl ?_
  refine E_s (p' := 24) (st' := aI 0 :: _) rfl rfl ?_
  refine E_s (p' := 27) rfl rfl ?_
  refine E_s (p' := 28) (st' := aA 0 :: _) rfl rfl ?_
  refine E_s (p' := 29) (st' := aI 0 :: _) rfl rfl ?_
  refine E_scr rfl rfl h0 ?_
  refine E_s (p' := 32) (st' := aI 31 :: _) rfl rfl ?_
  refine E_s (p' := 33) rfl rfl ?_
  refine E_val hz ?_
  refine E_s (p' := 266) rfl rfl ?_
  refine E_s (p' := 267) (st' := aA 1 :: _) rfl rfl ?_
  refine E_s (p' := 268) (st' := aA 0 :: _) rfl rfl ?_
  refine E_s (p' := 269) (st' := aI 0 :: _) rfl rfl ?_
  refine E_s (p' := 270) (st' := aI 1 :: _) rfl rfl ?_
  refine E_s (p' := 271) (st' := aI 1 :: _) rfl rfl ?_
  refine E_scr rfl rfl h1 ?_
  refine E_s (p' := 273) (st' := aA 0 :: _) rfl rfl ?_
  refine E_s (p' := 274) (st' := aI 0 :: _) rfl rfl ?_
  refine E_s (p' := 275) (st' := aI 2 :: _) rfl rfl ?_
  refine E_s (p' := 276) (st' := aI 2 :: _) rfl rfl ?_
  refine E_scr rfl rfl h2 ?_
  refine E_s (p' := 278) (st' := aA 0 :: _) rfl rfl ?_
  refine E_s (p' := 279) (st' := aI 0 :: _) rfl rfl ?_
  refine E_s (p' := 280) (st' := aI 3 :: _) rfl rfl ?_
  refine E_s (p' := 281) (st' := aI 3 :: _) rfl rfl ?_
  refine E_scr rfl rfl h3 ?_
  refine E_s (p' := 283) (st' := aA 0 :: _) rfl rfl ?_
  refine E_s (p' := 284) (st' := aI 0 :: _) rfl rfl ?_
  refine E_s (p' := 285) (st' := aI 4 :: _) rfl rfl ?_
  refine E_s (p' := 286) (st' := aI 4 :: _) rfl rfl ?_
  refine E_scr rfl rfl h4 ?_
  refine E_s (p' := 288) (st' := aA 0 :: _) rfl rfl ?_
  refine E_s (p' := 289) (st' := aI 0 :: _) rfl rfl ?_
  refine E_s (p' := 290) (st' := aI 5 :: _) rfl rfl ?_
  refine E_s (p' := 291) (st' := aI 5 :: _) rfl rfl ?_
  refine E_scr rfl rfl h5 ?_
  refine E_callL (p' := 295) (L0 := [some (aA 1), some (aI 0), some (aI a2), some (aI a3), some (aI a4), some (aI a5), none]) rfl rfl rfl ?_
  refine E_s (p' := 1) (st' := aA 1 :: _) rfl rfl ?_
  refine E_s (p' := 2) (st' := aI 0 :: _) rfl rfl ?_
  refine E_callL (p' := 5) (L0 := [some (aA 1), some (aI 0)]) rfl rfl rfl ?_
  refine E_s (p' := 1) (st' := aI 0 :: _) rfl rfl ?_
  refine E_s (p' := 4) rfl rfl ?_
  refine E_s (p' := 5) (st' := aI 0 :: _) rfl rfl ?_
  refine E_s (p' := 6) (st' := aI 4 :: _) rfl rfl ?_
  refine E_s (p' := 9) rfl rfl ?_
  refine E_s (p' := 10) (st' := aA 1 :: _) rfl rfl ?_
  refine E_s (p' := 13) (st' := aA 2 :: _) rfl rfl ?_
  refine E_s (p' := 14) (st' := aI 0 :: _) rfl rfl ?_
  refine E_s (p' := 15) (st' := aA 20 :: _) rfl rfl ?_
  refine E_s (p' := 19) rfl rfl ?_
  refine E_ret rfl rfl ?_
  refine E_s (p' := 7) (L' := [some (aA 1), some (aI 0), some (aI a2), some (aI a3), some (aI a4), some (aI a5), some (aA 20)]) rfl rfl ?_
  refine E_s (p' := 9) (st' := aA 20 :: _) rfl rfl ?_
  refine E_s (p' := 12) rfl rfl ?_
  refine E_s (p' := 14) (st' := aA 20 :: _) rfl rfl ?_
  refine E_s (p' := 17) (st' := aA 21 :: _) rfl rfl ?_
  refine E_s (p' := 18) rfl rfl ?_
  refine E_callL (p' := 21) (L0 := [some (aA 21), some (aI a2)]) rfl rfl rfl ?_
  refine E_s (p' := 1) rfl rfl ?_
  refine E_if_lt rfl (by decide) (fun _ => ?_) (fun _ => ?_)
  · refine E_s (p' := 17) (st' := aI 0 :: _) rfl rfl ?_
    refine E_ret rfl rfl ?_
    refine E_s (p' := 47) rfl rfl ?_
    refine E_s (p' := 49) (st' := aI (-2) :: _) rfl rfl ?_
    refine E_ret rfl rfl ?_
    refine E_s (p' := 296) (st' := aA 124 :: _) rfl rfl ?_
    refine E_s (p' := 297) (st' := aA 0 :: _) rfl rfl ?_
    refine E_s (p' := 298) (st' := aI 0 :: _) rfl rfl ?_
    refine E_s (p' := 299) (st' := aI 1 :: _) rfl rfl ?_
    refine E_s (p' := 300) (st' := aI 1 :: _) rfl rfl ?_
    refine E_scr rfl rfl h1 ?_
    refine E_s (p' := 302) (st' := aA 0 :: _) rfl rfl ?_
    refine E_s (p' := 303) (st' := aI 0 :: _) rfl rfl ?_
    refine E_s (p' := 304) (st' := aI 2 :: _) rfl rfl ?_
    refine E_s (p' := 305) (st' := aI 2 :: _) rfl rfl ?_
    refine E_scr rfl rfl h2 ?_
    refine E_s (p' := 307) (st' := aA 0 :: _) rfl rfl ?_
    refine E_s (p' := 308) (st' := aI 0 :: _) rfl rfl ?_
    refine E_s (p' := 309) (st' := aI 3 :: _) rfl rfl ?_
    refine E_s (p' := 310) (st' := aI 3 :: _) rfl rfl ?_
    refine E_scr rfl rfl h3 ?_
    refine E_s (p' := 312) (st' := aA 0 :: _) rfl rfl ?_
    refine E_s (p' := 313) (st' := aI 0 :: _) rfl rfl ?_
    refine E_s (p' := 314) (st' := aI 4 :: _) rfl rfl ?_
    refine E_s (p' := 315) (st' := aI 4 :: _) rfl rfl ?_
    refine E_scr rfl rfl h4 ?_
    refine E_s (p' := 317) (st' := aA 0 :: _) rfl rfl ?_
    refine E_s (p' := 318) (st' := aI 0 :: _) rfl rfl ?_
    refine E_s (p' := 319) (st' := aI 5 :: _) rfl rfl ?_
    refine E_s (p' := 320) (st' := aI 5 :: _) rfl rfl ?_
    refine E_scr rfl rfl h5 ?_
    refine E_callL (p' := 324) (L0 := [some (aA 124), some (aI 0), some (aI a2), some (aI a3), some (aI a4), some (aI a5), none]) rfl rfl rfl ?_
    refine E_s (p' := 1) (st' := aA 124 :: _) rfl rfl ?_
    refine E_s (p' := 2) (st' := aI 0 :: _) rfl rfl ?_
    refine E_s (p' := 3) rfl rfl ?_
    refine E_callL (p' := 6) (L0 := [some (aA 124), some (aI 0), some (aI a2)]) rfl rfl rfl ?_
    refine E_s (p' := 1) (st' := aI 0 :: _) rfl rfl ?_
    refine E_callL (p' := 4) (L0 := [some (aI 0)]) rfl rfl rfl ?_
    refine E_s (p' := 1) (st' := aI 0 :: _) rfl rfl ?_
    refine E_s (p' := 2) (st' := aI 0 :: _) rfl rfl ?_
    refine E_s (p' := 3) (st' := aI 3 :: _) rfl rfl ?_
    refine E_callL (p' := 6) (L0 := [some (aI 0), some (aI 0), some (aI 3)]) rfl rfl rfl ?_
    refine E_s (p' := 1) (st' := aI 0 :: _) rfl rfl ?_
    refine E_s (p' := 2) (st' := aI 0 :: _) rfl rfl ?_
    refine E_s (p' := 5) rfl rfl ?_
    refine E_s (p' := 6) (st' := aI 0 :: _) rfl rfl ?_
    refine E_s (p' := 7) (st' := aI 3 :: _) rfl rfl ?_
    refine E_s (p' := 10) rfl rfl ?_
    refine E_s (p' := 11) (st' := aI 1 :: _) rfl rfl ?_
    refine E_s (p' := 15) rfl rfl ?_
    refine E_ret rfl rfl ?_
    refine E_ret rfl rfl ?_
    refine E_s (p' := 7) rfl rfl ?_
    refine E_s (p' := 8) rfl rfl ?_
    refine E_s (p' := 9) (st' := aI 0 :: _) rfl rfl ?_
    refine E_s (p' := 10) (st' := aA 124 :: _) rfl rfl ?_
    refine E_s (p' := 13) (st' := aA 125 :: _) rfl rfl ?_
    refine E_s (p' := 14) (st' := aI 0 :: _) rfl rfl ?_
    refine E_s (p' := 15) (st' := aI 0 :: _) rfl rfl ?_
    refine E_s (p' := 16) (st' := aI 1 :: _) rfl rfl ?_
    refine E_isubv (v := -1) rfl (show (0 : Int) - 1 = -1 from rfl) (by decide) ?_
    refine E_callL (p' := 20) (L0 := [some (aI a2), some (aI 0), some (aI (-1))]) rfl rfl rfl ?_
    refine E_s (p' := 1) rfl rfl ?_
    refine E_s (p' := 2) (st' := aI 0 :: _) rfl rfl ?_
    refine E_icmp_lt (y := 0) rfl (by decide) (fun _ => ?_) (fun q => absurd q (by omega))
    refine E_s (p' := 15) (st' := aI 0 :: _) rfl rfl ?_
    refine E_ret rfl rfl ?_
    refine E_s (p' := 27) rfl rfl ?_
    refine E_s (p' := 28) (st' := aI 0 :: _) rfl rfl ?_
    refine E_ret rfl rfl ?_
    refine E_s (p' := 44) rfl rfl ?_
    refine E_s (p' := 46) (st' := aI (-2) :: _) rfl rfl ?_
    refine E_ret rfl rfl ?_
    refine E_s (p' := 1174) rfl rfl ?_
    refine E_s (p' := 1177) (L' := [some (aA 0), some (aA 1), some (aA 124), some (aI 6)]) rfl rfl ?_
    refine E_s (p' := 18) rfl rfl ?_
    refine E_s (p' := 19) (st' := aI 6 :: _) rfl rfl ?_
    refine E_s (p' := 20) (st' := aA 0 :: _) rfl rfl ?_
    refine E_s (p' := 21) (st' := aI 6 :: _) rfl rfl ?_
    refine E_s (p' := 23) (st' := aI 6 :: _) rfl rfl ?_
    refine E_s (p' := 24) (st' := aI 0 :: _) rfl rfl ?_
    refine E_s (p' := 1180) rfl rfl ?_
    refine E_s (p' := 1181) (st' := aI 1 :: _) rfl rfl ?_
    exact E_ret rfl rfl ⟨rfl, rfl⟩
  · refine E_s (p' := 5) rfl rfl ?_
    refine E_s (p' := 6) (st' := aA 21 :: _) rfl rfl ?_
    refine E_s (p' := 9) (st' := aI 0 :: _) rfl rfl ?_
    refine E_icmp_ge (y := 0) rfl (by decide) (fun _ => ?_) (fun q => absurd q (by omega))
    refine E_s (p' := 17) (st' := aI 0 :: _) rfl rfl ?_
    refine E_ret rfl rfl ?_
    refine E_s (p' := 47) rfl rfl ?_
    refine E_s (p' := 49) (st' := aI (-2) :: _) rfl rfl ?_
    refine E_ret rfl rfl ?_
    refine E_s (p' := 296) (st' := aA 124 :: _) rfl rfl ?_
    refine E_s (p' := 297) (st' := aA 0 :: _) rfl rfl ?_
    refine E_s (p' := 298) (st' := aI 0 :: _) rfl rfl ?_
    refine E_s (p' := 299) (st' := aI 1 :: _) rfl rfl ?_
    refine E_s (p' := 300) (st' := aI 1 :: _) rfl rfl ?_
    refine E_scr rfl rfl h1 ?_
    refine E_s (p' := 302) (st' := aA 0 :: _) rfl rfl ?_
    refine E_s (p' := 303) (st' := aI 0 :: _) rfl rfl ?_
    refine E_s (p' := 304) (st' := aI 2 :: _) rfl rfl ?_
    refine E_s (p' := 305) (st' := aI 2 :: _) rfl rfl ?_
    refine E_scr rfl rfl h2 ?_
    refine E_s (p' := 307) (st' := aA 0 :: _) rfl rfl ?_
    refine E_s (p' := 308) (st' := aI 0 :: _) rfl rfl ?_
    refine E_s (p' := 309) (st' := aI 3 :: _) rfl rfl ?_
    refine E_s (p' := 310) (st' := aI 3 :: _) rfl rfl ?_
    refine E_scr rfl rfl h3 ?_
    refine E_s (p' := 312) (st' := aA 0 :: _) rfl rfl ?_
    refine E_s (p' := 313) (st' := aI 0 :: _) rfl rfl ?_
    refine E_s (p' := 314) (st' := aI 4 :: _) rfl rfl ?_
    refine E_s (p' := 315) (st' := aI 4 :: _) rfl rfl ?_
    refine E_scr rfl rfl h4 ?_
    refine E_s (p' := 317) (st' := aA 0 :: _) rfl rfl ?_
    refine E_s (p' := 318) (st' := aI 0 :: _) rfl rfl ?_
    refine E_s (p' := 319) (st' := aI 5 :: _) rfl rfl ?_
    refine E_s (p' := 320) (st' := aI 5 :: _) rfl rfl ?_
    refine E_scr rfl rfl h5 ?_
    refine E_callL (p' := 324) (L0 := [some (aA 124), some (aI 0), some (aI a2), some (aI a3), some (aI a4), some (aI a5), none]) rfl rfl rfl ?_
    refine E_s (p' := 1) (st' := aA 124 :: _) rfl rfl ?_
    refine E_s (p' := 2) (st' := aI 0 :: _) rfl rfl ?_
    refine E_s (p' := 3) rfl rfl ?_
    refine E_callL (p' := 6) (L0 := [some (aA 124), some (aI 0), some (aI a2)]) rfl rfl rfl ?_
    refine E_s (p' := 1) (st' := aI 0 :: _) rfl rfl ?_
    refine E_callL (p' := 4) (L0 := [some (aI 0)]) rfl rfl rfl ?_
    refine E_s (p' := 1) (st' := aI 0 :: _) rfl rfl ?_
    refine E_s (p' := 2) (st' := aI 0 :: _) rfl rfl ?_
    refine E_s (p' := 3) (st' := aI 3 :: _) rfl rfl ?_
    refine E_callL (p' := 6) (L0 := [some (aI 0), some (aI 0), some (aI 3)]) rfl rfl rfl ?_
    refine E_s (p' := 1) (st' := aI 0 :: _) rfl rfl ?_
    refine E_s (p' := 2) (st' := aI 0 :: _) rfl rfl ?_
    refine E_s (p' := 5) rfl rfl ?_
    refine E_s (p' := 6) (st' := aI 0 :: _) rfl rfl ?_
    refine E_s (p' := 7) (st' := aI 3 :: _) rfl rfl ?_
    refine E_s (p' := 10) rfl rfl ?_
    refine E_s (p' := 11) (st' := aI 1 :: _) rfl rfl ?_
    refine E_s (p' := 15) rfl rfl ?_
    refine E_ret rfl rfl ?_
    refine E_ret rfl rfl ?_
    refine E_s (p' := 7) rfl rfl ?_
    refine E_s (p' := 8) rfl rfl ?_
    refine E_s (p' := 9) (st' := aI 0 :: _) rfl rfl ?_
    refine E_s (p' := 10) (st' := aA 124 :: _) rfl rfl ?_
    refine E_s (p' := 13) (st' := aA 125 :: _) rfl rfl ?_
    refine E_s (p' := 14) (st' := aI 0 :: _) rfl rfl ?_
    refine E_s (p' := 15) (st' := aI 0 :: _) rfl rfl ?_
    refine E_s (p' := 16) (st' := aI 1 :: _) rfl rfl ?_
    refine E_isubv (v := -1) rfl (show (0 : Int) - 1 = -1 from rfl) (by decide) ?_
    refine E_callL (p' := 20) (L0 := [some (aI a2), some (aI 0), some (aI (-1))]) rfl rfl rfl ?_
    refine E_s (p' := 1) rfl rfl ?_
    refine E_s (p' := 2) (st' := aI 0 :: _) rfl rfl ?_
    refine E_icmp_lt (y := 0) rfl (by decide) (fun q => absurd q (by omega)) (fun _ => ?_)
    refine E_s (p' := 6) rfl rfl ?_
    refine E_s (p' := 7) (st' := aI (-1) :: _) rfl rfl ?_
    refine E_icmp_gt (y := (-1)) rfl (by decide) (fun _ => ?_) (fun q => absurd q (by omega))
    refine E_s (p' := 15) (st' := aI 0 :: _) rfl rfl ?_
    refine E_ret rfl rfl ?_
    refine E_s (p' := 27) rfl rfl ?_
    refine E_s (p' := 28) (st' := aI 0 :: _) rfl rfl ?_
    refine E_ret rfl rfl ?_
    refine E_s (p' := 44) rfl rfl ?_
    refine E_s (p' := 46) (st' := aI (-2) :: _) rfl rfl ?_
    refine E_ret rfl rfl ?_
    refine E_s (p' := 1174) rfl rfl ?_
    refine E_s (p' := 1177) (L' := [some (aA 0), some (aA 1), some (aA 124), some (aI 6)]) rfl rfl ?_
    refine E_s (p' := 18) rfl rfl ?_
    refine E_s (p' := 19) (st' := aI 6 :: _) rfl rfl ?_
    refine E_s (p' := 20) (st' := aA 0 :: _) rfl rfl ?_
    refine E_s (p' := 21) (st' := aI 6 :: _) rfl rfl ?_
    refine E_s (p' := 23) (st' := aI 6 :: _) rfl rfl ?_
    refine E_s (p' := 24) (st' := aI 0 :: _) rfl rfl ?_
    refine E_s (p' := 1180) rfl rfl ?_
    refine E_s (p' := 1181) (st' := aI 1 :: _) rfl rfl ?_
    exact E_ret rfl rfl ⟨rfl, rfl⟩
set_option maxRecDepth 100000 in
set_option maxHeartbeats 40000000 in
theorem pc_2_1 (xs : Nat → Int) {z a2 a3 a4 a5 : Int} (hz : b32 (fun a b => a &&& b) z 31 = 2) (h0 : xs 0 = z) (h1 : xs 1 = 1) (h2 : xs 2 = a2) (h3 : xs 3 = a3) (h4 : xs 4 = a4) (h5 : xs 5 = a5) : E 0 18 LL [] (s0 xs 6) PQ := by
  refine E_s (p' := 19) (st' := aI 0 :: _) rfl rfl ?_
  refine E_s (p' := 20) (st' := aA 0 :: _) rfl rfl ?_
  refine E_s (p' := 21) (st' := aI 6 :: _) rfl rfl ?_
  refine E_s (p' := 23) (st' := aI 6 :: _) rfl rfl ?_
  refine E_s (p' := 24) (st' := aI 0 :: _) rfl rfl ?_
  refine E_s (p' := 27) rfl rfl ?_
  refine E_s (p' := 28) (st' := aA 0 :: _) rfl rfl ?_
  refine E_s (p' := 29) (st' := aI 0 :: _) rfl rfl ?_
  refine E_scr rfl rfl h0 ?_
  refine E_s (p' := 32) (st' := aI 31 :: _) rfl rfl ?_
  refine E_s (p' := 33) rfl rfl ?_
  refine E_val hz ?_
  refine E_s (p' := 266) rfl rfl ?_
  refine E_s (p' := 267) (st' := aA 1 :: _) rfl rfl ?_
  refine E_s (p' := 268) (st' := aA 0 :: _) rfl rfl ?_
  refine E_s (p' := 269) (st' := aI 0 :: _) rfl rfl ?_
  refine E_s (p' := 270) (st' := aI 1 :: _) rfl rfl ?_
  refine E_s (p' := 271) (st' := aI 1 :: _) rfl rfl ?_
  refine E_scr rfl rfl h1 ?_
  refine E_s (p' := 273) (st' := aA 0 :: _) rfl rfl ?_
  refine E_s (p' := 274) (st' := aI 0 :: _) rfl rfl ?_
  refine E_s (p' := 275) (st' := aI 2 :: _) rfl rfl ?_
  refine E_s (p' := 276) (st' := aI 2 :: _) rfl rfl ?_
  refine E_scr rfl rfl h2 ?_
  refine E_s (p' := 278) (st' := aA 0 :: _) rfl rfl ?_
  refine E_s (p' := 279) (st' := aI 0 :: _) rfl rfl ?_
  refine E_s (p' := 280) (st' := aI 3 :: _) rfl rfl ?_
  refine E_s (p' := 281) (st' := aI 3 :: _) rfl rfl ?_
  refine E_scr rfl rfl h3 ?_
  refine E_s (p' := 283) (st' := aA 0 :: _) rfl rfl ?_
  refine E_s (p' := 284) (st' := aI 0 :: _) rfl rfl ?_
  refine E_s (p' := 285) (st' := aI 4 :: _) rfl rfl ?_
  refine E_s (p' := 286) (st' := aI 4 :: _) rfl rfl ?_
  refine E_scr rfl rfl h4 ?_
  refine E_s (p' := 288) (st' := aA 0 :: _) rfl rfl ?_
  refine E_s (p' := 289) (st' := aI 0 :: _) rfl rfl ?_
  refine E_s (p' := 290) (st' := aI 5 :: _) rfl rfl ?_
  refine E_s (p' := 291) (st' := aI 5 :: _) rfl rfl ?_
  refine E_scr rfl rfl h5 ?_
  refine E_callL (p' := 295) (L0 := [some (aA 1), some (aI 1), some (aI a2), some (aI a3), some (aI a4), some (aI a5), none]) rfl rfl rfl ?_
  refine E_s (p' := 1) (st' := aA 1 :: _) rfl rfl ?_
  refine E_s (p' := 2) (st' := aI 1 :: _) rfl rfl ?_
  refine E_callL (p' := 5) (L0 := [some (aA 1), some (aI 1)]) rfl rfl rfl ?_
  refine E_s (p' := 1) (st' := aI 1 :: _) rfl rfl ?_
  refine E_s (p' := 4) rfl rfl ?_
  refine E_s (p' := 5) (st' := aI 1 :: _) rfl rfl ?_
  refine E_s (p' := 6) (st' := aI 4 :: _) rfl rfl ?_
  refine E_s (p' := 9) rfl rfl ?_
  refine E_s (p' := 10) (st' := aA 1 :: _) rfl rfl ?_
  refine E_s (p' := 13) (st' := aA 2 :: _) rfl rfl ?_
  refine E_s (p' := 14) (st' := aI 1 :: _) rfl rfl ?_
  refine E_s (p' := 15) (st' := aA 46 :: _) rfl rfl ?_
  refine E_s (p' := 19) rfl rfl ?_
  refine E_ret rfl rfl ?_
  refine E_s (p' := 7) (L' := [some (aA 1), some (aI 1), some (aI a2), some (aI a3), some (aI a4), some (aI a5), some (aA 46)]) rfl rfl ?_
  refine E_s (p' := 9) (st' := aA 46 :: _) rfl rfl ?_
  refine E_s (p' := 12) rfl rfl ?_
  refine E_s (p' := 14) (st' := aA 46 :: _) rfl rfl ?_
  refine E_s (p' := 17) (st' := aA 47 :: _) rfl rfl ?_
  refine E_s (p' := 18) rfl rfl ?_
  refine E_callL (p' := 21) (L0 := [some (aA 47), some (aI a2)]) rfl rfl rfl ?_
  refine E_s (p' := 1) rfl rfl ?_
  refine E_if_lt rfl (by decide) (fun _ => ?_) (fun _ => ?_)
  · refine E_s (p' := 17) (st' := aI 0 :: _) rfl rfl ?_
    refine E_ret rfl rfl ?_
    refine E_s (p' := 47) rfl rfl ?_
    refine E_s (p' := 49) (st' := aI (-2) :: _) rfl rfl ?_
    refine E_ret rfl rfl ?_
    refine E_s (p' := 296) (st' := aA 124 :: _) rfl rfl ?_
    refine E_s (p' := 297) (st' := aA 0 :: _) rfl rfl ?_
    refine E_s (p' := 298) (st' := aI 0 :: _) rfl rfl ?_
    refine E_s (p' := 299) (st' := aI 1 :: _) rfl rfl ?_
    refine E_s (p' := 300) (st' := aI 1 :: _) rfl rfl ?_
    refine E_scr rfl rfl h1 ?_
    refine E_s (p' := 302) (st' := aA 0 :: _) rfl rfl ?_
    refine E_s (p' := 303) (st' := aI 0 :: _) rfl rfl ?_
    refine E_s (p' := 304) (st' := aI 2 :: _) rfl rfl ?_
    refine E_s (p' := 305) (st' := aI 2 :: _) rfl rfl ?_
    refine E_scr rfl rfl h2 ?_
    refine E_s (p' := 307) (st' := aA 0 :: _) rfl rfl ?_
    refine E_s (p' := 308) (st' := aI 0 :: _) rfl rfl ?_
    refine E_s (p' := 309) (st' := aI 3 :: _) rfl rfl ?_
    refine E_s (p' := 310) (st' := aI 3 :: _) rfl rfl ?_
    refine E_scr rfl rfl h3 ?_
    refine E_s (p' := 312) (st' := aA 0 :: _) rfl rfl ?_
    refine E_s (p' := 313) (st' := aI 0 :: _) rfl rfl ?_
    refine E_s (p' := 314) (st' := aI 4 :: _) rfl rfl ?_
    refine E_s (p' := 315) (st' := aI 4 :: _) rfl rfl ?_
    refine E_scr rfl rfl h4 ?_
    refine E_s (p' := 317) (st' := aA 0 :: _) rfl rfl ?_
    refine E_s (p' := 318) (st' := aI 0 :: _) rfl rfl ?_
    refine E_s (p' := 319) (st' := aI 5 :: _) rfl rfl ?_
    refine E_s (p' := 320) (st' := aI 5 :: _) rfl rfl ?_
    refine E_scr rfl rfl h5 ?_
    refine E_callL (p' := 324) (L0 := [some (aA 124), some (aI 1), some (aI a2), some (aI a3), some (aI a4), some (aI a5), none]) rfl rfl rfl ?_
    refine E_s (p' := 1) (st' := aA 124 :: _) rfl rfl ?_
    refine E_s (p' := 2) (st' := aI 1 :: _) rfl rfl ?_
    refine E_s (p' := 3) rfl rfl ?_
    refine E_callL (p' := 6) (L0 := [some (aA 124), some (aI 1), some (aI a2)]) rfl rfl rfl ?_
    refine E_s (p' := 1) (st' := aI 1 :: _) rfl rfl ?_
    refine E_callL (p' := 4) (L0 := [some (aI 1)]) rfl rfl rfl ?_
    refine E_s (p' := 1) (st' := aI 1 :: _) rfl rfl ?_
    refine E_s (p' := 2) (st' := aI 0 :: _) rfl rfl ?_
    refine E_s (p' := 3) (st' := aI 3 :: _) rfl rfl ?_
    refine E_callL (p' := 6) (L0 := [some (aI 1), some (aI 0), some (aI 3)]) rfl rfl rfl ?_
    refine E_s (p' := 1) (st' := aI 1 :: _) rfl rfl ?_
    refine E_s (p' := 2) (st' := aI 0 :: _) rfl rfl ?_
    refine E_s (p' := 5) rfl rfl ?_
    refine E_s (p' := 6) (st' := aI 1 :: _) rfl rfl ?_
    refine E_s (p' := 7) (st' := aI 3 :: _) rfl rfl ?_
    refine E_s (p' := 10) rfl rfl ?_
    refine E_s (p' := 11) (st' := aI 1 :: _) rfl rfl ?_
    refine E_s (p' := 15) rfl rfl ?_
    refine E_ret rfl rfl ?_
    refine E_ret rfl rfl ?_
    refine E_s (p' := 7) rfl rfl ?_
    refine E_s (p' := 8) rfl rfl ?_
    refine E_s (p' := 9) (st' := aI 0 :: _) rfl rfl ?_
    refine E_s (p' := 10) (st' := aA 124 :: _) rfl rfl ?_
    refine E_s (p' := 13) (st' := aA 125 :: _) rfl rfl ?_
    refine E_s (p' := 14) (st' := aI 1 :: _) rfl rfl ?_
    refine E_s (p' := 15) (st' := aI 0 :: _) rfl rfl ?_
    refine E_s (p' := 16) (st' := aI 1 :: _) rfl rfl ?_
    refine E_isubv (v := -1) rfl (show (0 : Int) - 1 = -1 from rfl) (by decide) ?_
    refine E_callL (p' := 20) (L0 := [some (aI a2), some (aI 0), some (aI (-1))]) rfl rfl rfl ?_
    refine E_s (p' := 1) rfl rfl ?_
    refine E_s (p' := 2) (st' := aI 0 :: _) rfl rfl ?_
    refine E_icmp_lt (y := 0) rfl (by decide) (fun _ => ?_) (fun q => absurd q (by omega))
    refine E_s (p' := 15) (st' := aI 0 :: _) rfl rfl ?_
    refine E_ret rfl rfl ?_
    refine E_s (p' := 27) rfl rfl ?_
    refine E_s (p' := 28) (st' := aI 0 :: _) rfl rfl ?_
    refine E_ret rfl rfl ?_
    refine E_s (p' := 44) rfl rfl ?_
    refine E_s (p' := 46) (st' := aI (-2) :: _) rfl rfl ?_
    refine E_ret rfl rfl ?_
    refine E_s (p' := 1174) rfl rfl ?_
    refine E_s (p' := 1177) (L' := [some (aA 0), some (aA 1), some (aA 124), some (aI 6)]) rfl rfl ?_
    refine E_s (p' := 18) rfl rfl ?_
    refine E_s (p' := 19) (st' := aI 6 :: _) rfl rfl ?_
    refine E_s (p' := 20) (st' := aA 0 :: _) rfl rfl ?_
    refine E_s (p' := 21) (st' := aI 6 :: _) rfl rfl ?_
    refine E_s (p' := 23) (st' := aI 6 :: _) rfl rfl ?_
    refine E_s (p' := 24) (st' := aI 0 :: _) rfl rfl ?_
    refine E_s (p' := 1180) rfl rfl ?_
    refine E_s (p' := 1181) (st' := aI 1 :: _) rfl rfl ?_
    exact E_ret rfl rfl ⟨rfl, rfl⟩
  · refine E_s (p' := 5) rfl rfl ?_
    refine E_s (p' := 6) (st' := aA 47 :: _) rfl rfl ?_
    refine E_s (p' := 9) (st' := aI 0 :: _) rfl rfl ?_
    refine E_icmp_ge (y := 0) rfl (by decide) (fun _ => ?_) (fun q => absurd q (by omega))
    refine E_s (p' := 17) (st' := aI 0 :: _) rfl rfl ?_
    refine E_ret rfl rfl ?_
    refine E_s (p' := 47) rfl rfl ?_
    refine E_s (p' := 49) (st' := aI (-2) :: _) rfl rfl ?_
    refine E_ret rfl rfl ?_
    refine E_s (p' := 296) (st' := aA 124 :: _) rfl rfl ?_
    refine E_s (p' := 297) (st' := aA 0 :: _) rfl rfl ?_
    refine E_s (p' := 298) (st' := aI 0 :: _) rfl rfl ?_
    refine E_s (p' := 299) (st' := aI 1 :: _) rfl rfl ?_
    refine E_s (p' := 300) (st' := aI 1 :: _) rfl rfl ?_
    refine E_scr rfl rfl h1 ?_
    refine E_s (p' := 302) (st' := aA 0 :: _) rfl rfl ?_
    refine E_s (p' := 303) (st' := aI 0 :: _) rfl rfl ?_
    refine E_s (p' := 304) (st' := aI 2 :: _) rfl rfl ?_
    refine E_s (p' := 305) (st' := aI 2 :: _) rfl rfl ?_
    refine E_scr rfl rfl h2 ?_
    refine E_s (p' := 307) (st' := aA 0 :: _) rfl rfl ?_
    refine E_s (p' := 308) (st' := aI 0 :: _) rfl rfl ?_
    refine E_s (p' := 309) (st' := aI 3 :: _) rfl rfl ?_
    refine E_s (p' := 310) (st' := aI 3 :: _) rfl rfl ?_
    refine E_scr rfl rfl h3 ?_
    refine E_s (p' := 312) (st' := aA 0 :: _) rfl rfl ?_
    refine E_s (p' := 313) (st' := aI 0 :: _) rfl rfl ?_
    refine E_s (p' := 314) (st' := aI 4 :: _) rfl rfl ?_
    refine E_s (p' := 315) (st' := aI 4 :: _) rfl rfl ?_
    refine E_scr rfl rfl h4 ?_
    refine E_s (p' := 317) (st' := aA 0 :: _) rfl rfl ?_
    refine E_s (p' := 318) (st' := aI 0 :: _) rfl rfl ?_
    refine E_s (p' := 319) (st' := aI 5 :: _) rfl rfl ?_
    refine E_s (p' := 320) (st' := aI 5 :: _) rfl rfl ?_
    refine E_scr rfl rfl h5 ?_
    refine E_callL (p' := 324) (L0 := [some (aA 124), some (aI 1), some (aI a2), some (aI a3), some (aI a4), some (aI a5), none]) rfl rfl rfl ?_
    refine E_s (p' := 1) (st' := aA 124 :: _) rfl rfl ?_
    refine E_s (p' := 2) (st' := aI 1 :: _) rfl rfl ?_
    refine E_s (p' := 3) rfl rfl ?_
    refine E_callL (p' := 6) (L0 := [some (aA 124), some (aI 1), some (aI a2)]) rfl rfl rfl ?_
    refine E_s (p' := 1) (st' := aI 1 :: _) rfl rfl ?_
    refine E_callL (p' := 4) (L0 := [some (aI 1)]) rfl rfl rfl ?_
    refine E_s (p' := 1) (st' := aI 1 :: _) rfl rfl ?_
    refine E_s (p' := 2) (st' := aI 0 :: _) rfl rfl ?_
    refine E_s (p' := 3) (st' := aI 3 :: _) rfl rfl ?_
    refine E_callL (p' := 6) (L0 := [some (aI 1), some (aI 0), some (aI 3)]) rfl rfl rfl ?_
    refine E_s (p' := 1) (st' := aI 1 :: _) rfl rfl ?_
    refine E_s (p' := 2) (st' := aI 0 :: _) rfl rfl ?_
    refine E_s (p' := 5) rfl rfl ?_
    refine E_s (p' := 6) (st' := aI 1 :: _) rfl rfl ?_
    refine E_s (p' := 7) (st' := aI 3 :: _) rfl rfl ?_
    refine E_s (p' := 10) rfl rfl ?_
    refine E_s (p' := 11) (st' := aI 1 :: _) rfl rfl ?_
    refine E_s (p' := 15) rfl rfl ?_
    refine E_ret rfl rfl ?_
    refine E_ret rfl rfl ?_
    refine E_s (p' := 7) rfl rfl ?_
    refine E_s (p' := 8) rfl rfl ?_
    refine E_s (p' := 9) (st' := aI 0 :: _) rfl rfl ?_
    refine E_s (p' := 10) (st' := aA 124 :: _) rfl rfl ?_
    refine E_s (p' := 13) (st' := aA 125 :: _) rfl rfl ?_
    refine E_s (p' := 14) (st' := aI 1 :: _) rfl rfl ?_
    refine E_s (p' := 15) (st' := aI 0 :: _) rfl rfl ?_
    refine E_s (p' := 16) (st' := aI 1 :: _) rfl rfl ?_
    refine E_isubv (v := -1) rfl (show (0 : Int) - 1 = -1 from rfl) (by decide) ?_
    refine E_callL (p' := 20) (L0 := [some (aI a2), some (aI 0), some (aI (-1))]) rfl rfl rfl ?_
    refine E_s (p' := 1) rfl rfl ?_
    refine E_s (p' := 2) (st' := aI 0 :: _) rfl rfl ?_
    refine E_icmp_lt (y := 0) rfl (by decide) (fun q => absurd q (by omega)) (fun _ => ?_)
    refine E_s (p' := 6) rfl rfl ?_
    refine E_s (p' := 7) (st' := aI (-1) :: _) rfl rfl ?_
    refine E_icmp_gt (y := (-1)) rfl (by decide) (fun _ => ?_) (fun q => absurd q (by omega))
    refine E_s (p' := 15) (st' := aI 0 :: _) rfl rfl ?_
    refine E_ret rfl rfl ?_
    refine E_s (p' := 27) rfl rfl ?_
    refine E_s (p' := 28) (st' := aI 0 :: _) rfl rfl ?_
    refine E_ret rfl rfl ?_
    refine E_s (p' := 44) rfl rfl ?_
    refine E_s (p' := 46) (st' := aI (-2) :: _) rfl rfl ?_
    refine E_ret rfl rfl ?_
    refine E_s (p' := 1174) rfl rfl ?_
    refine E_s (p' := 1177) (L' := [some (aA 0), some (aA 1), some (aA 124), some (aI 6)]) rfl rfl ?_
    refine E_s (p' := 18) rfl rfl ?_
    refine E_s (p' := 19) (st' := aI 6 :: _) rfl rfl ?_
    refine E_s (p' := 20) (st' := aA 0 :: _) rfl rfl ?_
    refine E_s (p' := 21) (st' := aI 6 :: _) rfl rfl ?_
    refine E_s (p' := 23) (st' := aI 6 :: _) rfl rfl ?_
    refine E_s (p' := 24) (st' := aI 0 :: _) rfl rfl ?_
    refine E_s (p' := 1180) rfl rfl ?_
    refine E_s (p' := 1181) (st' := aI 1 :: _) rfl rfl ?_
    exact E_ret rfl rfl ⟨rfl, rfl⟩
set_option maxRecDepth 100000 in
set_option maxHeartbeats 40000000 in
theorem pc_2_2 (xs : Nat → Int) {z a2 a3 a4 a5 : Int} (hz : b32 (fun a b => a &&& b) z 31 = 2) (h0 : xs 0 = z) (h1 : xs 1 = 2) (h2 : xs 2 = a2) (h3 : xs 3 = a3) (h4 : xs 4 = a4) (h5 : xs 5 = a5) : E 0 18 LL [] (s0 xs 6) PQ := by
  refine E_s (p' := 19) (st' := aI 0 :: _) rfl rfl ?_
  refine E_s (p' := 20) (st' := aA 0 :: _) rfl rfl ?_
  refine E_s (p' := 21) (st' := aI 6 :: _) rfl rfl ?_
  refine E_s (p' := 23) (st' := aI 6 :: _) rfl rfl ?_
  refine E_s (p' := 24) (st' := aI 0 :: _) rfl rfl ?_
  refine E_s (p' := 27) rfl rfl ?_
  refine E_s (p' := 28) (st' := aA 0 :: _) rfl rfl ?_
  refine E_s (p' := 29) (st' := aI 0 :: _) rfl rfl ?_
  refine E_scr rfl rfl h0 ?_
  refine E_s (p' := 32) (st' := aI 31 :: _) rfl rfl ?_
  refine E_s (p' := 33) rfl rfl ?_
  refine E_val hz ?_
  refine E_s (p' := 266) rfl rfl ?_
  refine E_s (p' := 267) (st' := aA 1 :: _) rfl rfl ?_
  refine E_s (p' := 268) (st' := aA 0 :: _) rfl rfl ?_
  refine E_s (p' := 269) (st' := aI 0 :: _) rfl rfl ?_
  refine E_s (p' := 270) (st' := aI 1 :: _) rfl rfl ?_
  refine E_s (p' := 271) (st' := aI 1 :: _) rfl rfl ?_
  refine E_scr rfl rfl h1 ?_
  refine E_s (p' := 273) (st' := aA 0 :: _) rfl rfl ?_
  refine E_s (p' := 274) (st' := aI 0 :: _) rfl rfl ?_
  refine E_s (p' := 275) (st' := aI 2 :: _) rfl rfl ?_
  refine E_s (p' := 276) (st' := aI 2 :: _) rfl rfl ?_
  refine E_scr rfl rfl h2 ?_
  refine E_s (p' := 278) (st' := aA 0 :: _) rfl rfl ?_
  refine E_s (p' := 279) (st' := aI 0 :: _) rfl rfl ?_
  refine E_s (p' := 280) (st' := aI 3 :: _) rfl rfl ?_
  refine E_s (p' := 281) (st' := aI 3 :: _) rfl rfl ?_
  refine E_scr rfl rfl h3 ?_
  refine E_s (p' := 283) (st' := aA 0 :: _) rfl rfl ?_
  refine E_s (p' := 284) (st' := aI 0 :: _) rfl rfl ?_
  refine E_s (p' := 285) (st' := aI 4 :: _) rfl rfl ?_
  refine E_s (p' := 286) (st' := aI 4 :: _) rfl rfl ?_
  refine E_scr rfl rfl h4 ?_
  refine E_s (p' := 288) (st' := aA 0 :: _) rfl rfl ?_
  refine E_s (p' := 289) (st' := aI 0 :: _) rfl rfl ?_
  refine E_s (p' := 290) (st' := aI 5 :: _) rfl rfl ?_
  refine E_s (p' := 291) (st' := aI 5 :: _) rfl rfl ?_
  refine E_scr rfl rfl h5 ?_
  refine E_callL (p' := 295) (L0 := [some (aA 1), some (aI 2), some (aI a2), some (aI a3), some (aI a4), some (aI a5), none]) rfl rfl rfl ?_
  refine E_s (p' := 1) (st' := aA 1 :: _) rfl rfl ?_
  refine E_s (p' := 2) (st' := aI 2 :: _) rfl rfl ?_
  refine E_callL (p' := 5) (L0 := [some (aA 1), some (aI 2)]) rfl rfl rfl ?_
  refine E_s (p' := 1) (st' := aI 2 :: _) rfl rfl ?_
  refine E_s (p' := 4) rfl rfl ?_
  refine E_s (p' := 5) (st' := aI 2 :: _) rfl rfl ?_
  refine E_s (p' := 6) (st' := aI 4 :: _) rfl rfl ?_
  refine E_s (p' := 9) rfl rfl ?_
  refine E_s (p' := 10) (st' := aA 1 :: _) rfl rfl ?_
  refine E_s (p' := 13) (st' := aA 2 :: _) rfl rfl ?_
  refine E_s (p' := 14) (st' := aI 2 :: _) rfl rfl ?_
  refine E_s (p' := 15) (st' := aA 72 :: _) rfl rfl ?_
  refine E_s (p' := 19) rfl rfl ?_
  refine E_ret rfl rfl ?_
  refine E_s (p' := 7) (L' := [some (aA 1), some (aI 2), some (aI a2), some (aI a3), some (aI a4), some (aI a5), some (aA 72)]) rfl rfl ?_
  refine E_s (p' := 9) (st' := aA 72 :: _) rfl rfl ?_
  refine E_s (p' := 12) rfl rfl ?_
  refine E_s (p' := 14) (st' := aA 72 :: _) rfl rfl ?_
  refine E_s (p' := 17) (st' := aA 73 :: _) rfl rfl ?_
  refine E_s (p' := 18) rfl rfl ?_
  refine E_callL (p' := 21) (L0 := [some (aA 73), some (aI a2)]) rfl rfl rfl ?_
  refine E_s (p' := 1) rfl rfl ?_
  refine E_if_lt rfl (by decide) (fun _ => ?_) (fun _ => ?_)
  · refine E_s (p' := 17) (st' := aI 0 :: _) rfl rfl ?_
    refine E_ret rfl rfl ?_
    refine E_s (p' := 47) rfl rfl ?_
    refine E_s (p' := 49) (st' := aI (-2) :: _) rfl rfl ?_
    refine E_ret rfl rfl ?_
    refine E_s (p' := 296) (st' := aA 124 :: _) rfl rfl ?_
    refine E_s (p' := 297) (st' := aA 0 :: _) rfl rfl ?_
    refine E_s (p' := 298) (st' := aI 0 :: _) rfl rfl ?_
    refine E_s (p' := 299) (st' := aI 1 :: _) rfl rfl ?_
    refine E_s (p' := 300) (st' := aI 1 :: _) rfl rfl ?_
    refine E_scr rfl rfl h1 ?_
    refine E_s (p' := 302) (st' := aA 0 :: _) rfl rfl ?_
    refine E_s (p' := 303) (st' := aI 0 :: _) rfl rfl ?_
    refine E_s (p' := 304) (st' := aI 2 :: _) rfl rfl ?_
    refine E_s (p' := 305) (st' := aI 2 :: _) rfl rfl ?_
    refine E_scr rfl rfl h2 ?_
    refine E_s (p' := 307) (st' := aA 0 :: _) rfl rfl ?_
    refine E_s (p' := 308) (st' := aI 0 :: _) rfl rfl ?_
    refine E_s (p' := 309) (st' := aI 3 :: _) rfl rfl ?_
    refine E_s (p' := 310) (st' := aI 3 :: _) rfl rfl ?_
    refine E_scr rfl rfl h3 ?_
    refine E_s (p' := 312) (st' := aA 0 :: _) rfl rfl ?_
    refine E_s (p' := 313) (st' := aI 0 :: _) rfl rfl ?_
    refine E_s (p' := 314) (st' := aI 4 :: _) rfl rfl ?_
    refine E_s (p' := 315) (st' := aI 4 :: _) rfl rfl ?_
    refine E_scr rfl rfl h4 ?_
    refine E_s (p' := 317) (st' := aA 0 :: _) rfl rfl ?_
    refine E_s (p' := 318) (st' := aI 0 :: _) rfl rfl ?_
    refine E_s (p' := 319) (st' := aI 5 :: _) rfl rfl ?_
    refine E_s (p' := 320) (st' := aI 5 :: _) rfl rfl ?_
    refine E_scr rfl rfl h5 ?_
    refine E_callL (p' := 324) (L0 := [some (aA 124), some (aI 2), some (aI a2), some (aI a3), some (aI a4), some (aI a5), none]) rfl rfl rfl ?_
    refine E_s (p' := 1) (st' := aA 124 :: _) rfl rfl ?_
    refine E_s (p' := 2) (st' := aI 2 :: _) rfl rfl ?_
    refine E_s (p' := 3) rfl rfl ?_
    refine E_callL (p' := 6) (L0 := [some (aA 124), some (aI 2), some (aI a2)]) rfl rfl rfl ?_
    refine E_s (p' := 1) (st' := aI 2 :: _) rfl rfl ?_
    refine E_callL (p' := 4) (L0 := [some (aI 2)]) rfl rfl rfl ?_
    refine E_s (p' := 1) (st' := aI 2 :: _) rfl rfl ?_
    refine E_s (p' := 2) (st' := aI 0 :: _) rfl rfl ?_
    refine E_s (p' := 3) (st' := aI 3 :: _) rfl rfl ?_
    refine E_callL (p' := 6) (L0 := [some (aI 2), some (aI 0), some (aI 3)]) rfl rfl rfl ?_
    refine E_s (p' := 1) (st' := aI 2 :: _) rfl rfl ?_
    refine E_s (p' := 2) (st' := aI 0 :: _) rfl rfl ?_
    refine E_s (p' := 5) rfl rfl ?_
    refine E_s (p' := 6) (st' := aI 2 :: _) rfl rfl ?_
    refine E_s (p' := 7) (st' := aI 3 :: _) rfl rfl ?_
    refine E_s (p' := 10) rfl rfl ?_
    refine E_s (p' := 11) (st' := aI 1 :: _) rfl rfl ?_
    refine E_s (p' := 15) rfl rfl ?_
    refine E_ret rfl rfl ?_
    refine E_ret rfl rfl ?_
    refine E_s (p' := 7) rfl rfl ?_
    refine E_s (p' := 8) rfl rfl ?_
    refine E_s (p' := 9) (st' := aI 0 :: _) rfl rfl ?_
    refine E_s (p' := 10) (st' := aA 124 :: _) rfl rfl ?_
    refine E_s (p' := 13) (st' := aA 125 :: _) rfl rfl ?_
    refine E_s (p' := 14) (st' := aI 2 :: _) rfl rfl ?_
    refine E_s (p' := 15) (st' := aI 0 :: _) rfl rfl ?_
    refine E_s (p' := 16) (st' := aI 1 :: _) rfl rfl ?_
    refine E_isubv (v := -1) rfl (show (0 : Int) - 1 = -1 from rfl) (by decide) ?_
    refine E_callL (p' := 20) (L0 := [some (aI a2), some (aI 0), some (aI (-1))]) rfl rfl rfl ?_
    refine E_s (p' := 1) rfl rfl ?_
    refine E_s (p' := 2) (st' := aI 0 :: _) rfl rfl ?_
    refine E_icmp_lt (y := 0) rfl (by decide) (fun _ => ?_) (fun q => absurd q (by omega))
    refine E_s (p' := 15) (st' := aI 0 :: _) rfl rfl ?_
    refine E_ret rfl rfl ?_
    refine E_s (p' := 27) rfl rfl ?_
    refine E_s (p' := 28) (st' := aI 0 :: _) rfl rfl ?_
    refine E_ret rfl rfl ?_
    refine E_s (p' := 44) rfl rfl ?_
    refine E_s (p' := 46) (st' := aI (-2) :: _) rfl rfl ?_
    refine E_ret rfl rfl ?_
    refine E_s (p' := 1174) rfl rfl ?_
    refine E_s (p' := 1177) (L' := [some (aA 0), some (aA 1), some (aA 124), some (aI 6)]) rfl rfl ?_
    refine E_s (p' := 18) rfl rfl ?_
    refine E_s (p' := 19) (st' := aI 6 :: _) rfl rfl ?_
    refine E_s (p' := 20) (st' := aA 0 :: _) rfl rfl ?_
    refine E_s (p' := 21) (st' := aI 6 :: _) rfl rfl ?_
    refine E_s (p' := 23) (st' := aI 6 :: _) rfl rfl ?_
    refine E_s (p' := 24) (st' := aI 0 :: _) rfl rfl ?_
    refine E_s (p' := 1180) rfl rfl ?_
    refine E_s (p' := 1181) (st' := aI 1 :: _) rfl rfl ?_
    exact E_ret rfl rfl ⟨rfl, rfl⟩
  · refine E_s (p' := 5) rfl rfl ?_
    refine E_s (p' := 6) (st' := aA 73 :: _) rfl rfl ?_
    refine E_s (p' := 9) (st' := aI 0 :: _) rfl rfl ?_
    refine E_icmp_ge (y := 0) rfl (by decide) (fun _ => ?_) (fun q => absurd q (by omega))
    refine E_s (p' := 17) (st' := aI 0 :: _) rfl rfl ?_
    refine E_ret rfl rfl ?_
    refine E_s (p' := 47) rfl rfl ?_
    refine E_s (p' := 49) (st' := aI (-2) :: _) rfl rfl ?_
    refine E_ret rfl rfl ?_
    refine E_s (p' := 296) (st' := aA 124 :: _) rfl rfl ?_
    refine E_s (p' := 297) (st' := aA 0 :: _) rfl rfl ?_
    refine E_s (p' := 298) (st' := aI 0 :: _) rfl rfl ?_
    refine E_s (p' := 299) (st' := aI 1 :: _) rfl rfl ?_
    refine E_s (p' := 300) (st' := aI 1 :: _) rfl rfl ?_
    refine E_scr rfl rfl h1 ?_
    refine E_s (p' := 302) (st' := aA 0 :: _) rfl rfl ?_
    refine E_s (p' := 303) (st' := aI 0 :: _) rfl rfl ?_
    refine E_s (p' := 304) (st' := aI 2 :: _) rfl rfl ?_
    refine E_s (p' := 305) (st' := aI 2 :: _) rfl rfl ?_
    refine E_scr rfl rfl h2 ?_
    refine E_s (p' := 307) (st' := aA 0 :: _) rfl rfl ?_
    refine E_s (p' := 308) (st' := aI 0 :: _) rfl rfl ?_
    refine E_s (p' := 309) (st' := aI 3 :: _) rfl rfl ?_
    refine E_s (p' := 310) (st' := aI 3 :: _) rfl rfl ?_
    refine E_scr rfl rfl h3 ?_
    refine E_s (p' := 312) (st' := aA 0 :: _) rfl rfl ?_
    refine E_s (p' := 313) (st' := aI 0 :: _) rfl rfl ?_
    refine E_s (p' := 314) (st' := aI 4 :: _) rfl rfl ?_
    refine E_s (p' := 315) (st' := aI 4 :: _) rfl rfl ?_
    refine E_scr rfl rfl h4 ?_
    refine E_s (p' := 317) (st' := aA 0 :: _) rfl rfl ?_
    refine E_s (p' := 318) (st' := aI 0 :: _) rfl rfl ?_
    refine E_s (p' := 319) (st' := aI 5 :: _) rfl rfl ?_
    refine E_s (p' := 320) (st' := aI 5 :: _) rfl rfl ?_
    refine E_scr rfl rfl h5 ?_
    refine E_callL (p' := 324) (L0 := [some (aA 124), some (aI 2), some (aI a2), some (aI a3), some (aI a4), some (aI a5), none]) rfl rfl rfl ?_
    refine E_s (p' := 1) (st' := aA 124 :: _) rfl rfl ?_
    refine E_s (p' := 2) (st' := aI 2 :: _) rfl rfl ?_
    refine E_s (p' := 3) rfl rfl ?_
    refine E_callL (p' := 6) (L0 := [some (aA 124), some (aI 2), some (aI a2)]) rfl rfl rfl ?_
    refine E_s (p' := 1) (st' := aI 2 :: _) rfl rfl ?_
    refine E_callL (p' := 4) (L0 := [some (aI 2)]) rfl rfl rfl ?_
    refine E_s (p' := 1) (st' := aI 2 :: _) rfl rfl ?_
    refine E_s (p' := 2) (st' := aI 0 :: _) rfl rfl ?_
    refine E_s (p' := 3) (st' := aI 3 :: _) rfl rfl ?_
    refine E_callL (p' := 6) (L0 := [some (aI 2), some (aI 0), some (aI 3)]) rfl rfl rfl ?_
    refine E_s (p' := 1) (st' := aI 2 :: _) rfl rfl ?_
    refine E_s (p' := 2) (st' := aI 0 :: _) rfl rfl ?_
    refine E_s (p' := 5) rfl rfl ?_
    refine E_s (p' := 6) (st' := aI 2 :: _) rfl rfl ?_
    refine E_s (p' := 7) (st' := aI 3 :: _) rfl rfl ?_
    refine E_s (p' := 10) rfl rfl ?_
    refine E_s (p' := 11) (st' := aI 1 :: _) rfl rfl ?_
    refine E_s (p' := 15) rfl rfl ?_
    refine E_ret rfl rfl ?_
    refine E_ret rfl rfl ?_
    refine E_s (p' := 7) rfl rfl ?_
    refine E_s (p' := 8) rfl rfl ?_
    refine E_s (p' := 9) (st' := aI 0 :: _) rfl rfl ?_
    refine E_s (p' := 10) (st' := aA 124 :: _) rfl rfl ?_
    refine E_s (p' := 13) (st' := aA 125 :: _) rfl rfl ?_
    refine E_s (p' := 14) (st' := aI 2 :: _) rfl rfl ?_
    refine E_s (p' := 15) (st' := aI 0 :: _) rfl rfl ?_
    refine E_s (p' := 16) (st' := aI 1 :: _) rfl rfl ?_
    refine E_isubv (v := -1) rfl (show (0 : Int) - 1 = -1 from rfl) (by decide) ?_
    refine E_callL (p' := 20) (L0 := [some (aI a2), some (aI 0), some (aI (-1))]) rfl rfl rfl ?_
    refine E_s (p' := 1) rfl rfl ?_
    refine E_s (p' := 2) (st' := aI 0 :: _) rfl rfl ?_
    refine E_icmp_lt (y := 0) rfl (by decide) (fun q => absurd q (by omega)) (fun _ => ?_)
    refine E_s (p' := 6) rfl rfl ?_
    refine E_s (p' := 7) (st' := aI (-1) :: _) rfl rfl ?_
    refine E_icmp_gt (y := (-1)) rfl (by decide) (fun _ => ?_) (fun q => absurd q (by omega))
    refine E_s (p' := 15) (st' := aI 0 :: _) rfl rfl ?_
    refine E_ret rfl rfl ?_
    refine E_s (p' := 27) rfl rfl ?_
    refine E_s (p' := 28) (st' := aI 0 :: _) rfl rfl ?_
    refine E_ret rfl rfl ?_
    refine E_s (p' := 44) rfl rfl ?_
    refine E_s (p' := 46) (st' := aI (-2) :: _) rfl rfl ?_
    refine E_ret rfl rfl ?_
    refine E_s (p' := 1174) rfl rfl ?_
    refine E_s (p' := 1177) (L' := [some (aA 0), some (aA 1), some (aA 124), some (aI 6)]) rfl rfl ?_
    refine E_s (p' := 18) rfl rfl ?_
    refine E_s (p' := 19) (st' := aI 6 :: _) rfl rfl ?_
    refine E_s (p' := 20) (st' := aA 0 :: _) rfl rfl ?_
    refine E_s (p' := 21) (st' := aI 6 :: _) rfl rfl ?_
    refine E_s (p' := 23) (st' := aI 6 :: _) rfl rfl ?_
    refine E_s (p' := 24) (st' := aI 0 :: _) rfl rfl ?_
    refine E_s (p' := 1180) rfl rfl ?_
    refine E_s (p' := 1181) (st' := aI 1 :: _) rfl rfl ?_
    exact E_ret rfl rfl ⟨rfl, rfl⟩
set_option maxRecDepth 100000 in
set_option maxHeartbeats 40000000 in
theorem pc_2_3 (xs : Nat → Int) {z a2 a3 a4 a5 : Int} (hz : b32 (fun a b => a &&& b) z 31 = 2) (h0 : xs 0 = z) (h1 : xs 1 = 3) (h2 : xs 2 = a2) (h3 : xs 3 = a3) (h4 : xs 4 = a4) (h5 : xs 5 = a5) : E 0 18 LL [] (s0 xs 6) PQ := by
  refine E_s (p' := 19) (st' := aI 0 :: _) rfl rfl ?_
  refine E_s (p' := 20) (st' := aA 0 :: _) rfl rfl ?_
  refine E_s (p' := 21) (st' := aI 6 :: _) rfl rfl ?_
  refine E_s (p' := 23) (st' := aI 6 :: _) rfl rfl ?_
  refine E_s (p' := 24) (st' := aI 0 :: _) rfl rfl ?_
  refine E_s (p' := 27) rfl rfl ?_
  refine E_s (p' := 28) (st' := aA 0 :: _) rfl rfl ?_
  refine E_s (p' := 29) (st' := aI 0 :: _) rfl rfl ?_
  refine E_scr rfl rfl h0 ?_
  refine E_s (p' := 32) (st' := aI 31 :: _) rfl rfl ?_
  refine E_s (p' := 33) rfl rfl ?_
  refine E_val hz ?_
  refine E_s (p' := 266) rfl rfl ?_
  refine E_s (p' := 267) (st' := aA 1 :: _) rfl rfl ?_
  refine E_s (p' := 268) (st' := aA 0 :: _) rfl rfl ?_
  refine E_s (p' := 269) (st' := aI 0 :: _) rfl rfl ?_
  refine E_s (p' := 270) (st' := aI 1 :: _) rfl rfl ?_
  refine E_s (p' := 271) (st' := aI 1 :: _) rfl rfl ?_
  refine E_scr rfl rfl h1 ?_
  refine E_s (p' := 273) (st' := aA 0 :: _) rfl rfl ?_
  refine E_s (p' := 274) (st' := aI 0 :: _) rfl rfl ?_
  refine E_s (p' := 275) (st' := aI 2 :: _) rfl rfl ?_
  refine E_s (p' := 276) (st' := aI 2 :: _) rfl rfl ?_
  refine E_scr rfl rfl h2 ?_
  refine E_s (p' := 278) (st' := aA 0 :: _) rfl rfl ?_
  refine E_s (p' := 279) (st' := aI 0 :: _) rfl rfl ?_
  refine E_s (p' := 280) (st' := aI 3 :: _) rfl rfl ?_
  refine E_s (p' := 281) (st' := aI 3 :: _) rfl rfl ?_
  refine E_scr rfl rfl h3 ?_
  refine E_s (p' := 283) (st' := aA 0 :: _) rfl rfl ?_
  refine E_s (p' := 284) (st' := aI 0 :: _) rfl rfl ?_
  refine E_s (p' := 285) (st' := aI 4 :: _) rfl rfl ?_
  refine E_s (p' := 286) (st' := aI 4 :: _) rfl rfl ?_
  refine E_scr rfl rfl h4 ?_
  refine E_s (p' := 288) (st' := aA 0 :: _) rfl rfl ?_
  refine E_s (p' := 289) (st' := aI 0 :: _) rfl rfl ?_
  refine E_s (p' := 290) (st' := aI 5 :: _) rfl rfl ?_
  refine E_s (p' := 291) (st' := aI 5 :: _) rfl rfl ?_
  refine E_scr rfl rfl h5 ?_
  refine E_callL (p' := 295) (L0 := [some (aA 1), some (aI 3), some (aI a2), some (aI a3), some (aI a4), some (aI a5), none]) rfl rfl rfl ?_
  refine E_s (p' := 1) (st' := aA 1 :: _) rfl rfl ?_
  refine E_s (p' := 2) (st' := aI 3 :: _) rfl rfl ?_
  refine E_callL (p' := 5) (L0 := [some (aA 1), some (aI 3)]) rfl rfl rfl ?_
  refine E_s (p' := 1) (st' := aI 3 :: _) rfl rfl ?_
  refine E_s (p' := 4) rfl rfl ?_
  refine E_s (p' := 5) (st' := aI 3 :: _) rfl rfl ?_
  refine E_s (p' := 6) (st' := aI 4 :: _) rfl rfl ?_
  refine E_s (p' := 9) rfl rfl ?_
  refine E_s (p' := 10) (st' := aA 1 :: _) rfl rfl ?_
  refine E_s (p' := 13) (st' := aA 2 :: _) rfl rfl ?_
  refine E_s (p' := 14) (st' := aI 3 :: _) rfl rfl ?_
  refine E_s (p' := 15) (st' := aA 98 :: _) rfl rfl ?_
  refine E_s (p' := 19) rfl rfl ?_
  refine E_ret rfl rfl ?_
  refine E_s (p' := 7) (L' := [some (aA 1), some (aI 3), some (aI a2), some (aI a3), some (aI a4), some (aI a5), some (aA 98)]) rfl rfl ?_
  refine E_s (p' := 9) (st' := aA 98 :: _) rfl rfl ?_
  refine E_s (p' := 12) rfl rfl ?_
  refine E_s (p' := 14) (st' := aA 98 :: _) rfl rfl ?_
  refine E_s (p' := 17) (st' := aA 99 :: _) rfl rfl ?_
  refine E_s (p' := 18) rfl rfl ?_
  refine E_callL (p' := 21) (L0 := [some (aA 99), some (aI a2)]) rfl rfl rfl ?_
  refine E_s (p' := 1) rfl rfl ?_
  refine E_if_lt rfl (by decide) (fun _ => ?_) (fun _ => ?_)
  · refine E_s (p' := 17) (st' := aI 0 :: _) rfl rfl ?_
    refine E_ret rfl rfl ?_
    refine E_s (p' := 47) rfl rfl ?_
    refine E_s (p' := 49) (st' := aI (-2) :: _) rfl rfl ?_
    refine E_ret rfl rfl ?_
    refine E_s (p' := 296) (st' := aA 124 :: _) rfl rfl ?_
    refine E_s (p' := 297) (st' := aA 0 :: _) rfl rfl ?_
    refine E_s (p' := 298) (st' := aI 0 :: _) rfl rfl ?_
    refine E_s (p' := 299) (st' := aI 1 :: _) rfl rfl ?_
    refine E_s (p' := 300) (st' := aI 1 :: _) rfl rfl ?_
    refine E_scr rfl rfl h1 ?_
    refine E_s (p' := 302) (st' := aA 0 :: _) rfl rfl ?_
    refine E_s (p' := 303) (st' := aI 0 :: _) rfl rfl ?_
    refine E_s (p' := 304) (st' := aI 2 :: _) rfl rfl ?_
    refine E_s (p' := 305) (st' := aI 2 :: _) rfl rfl ?_
    refine E_scr rfl rfl h2 ?_
    refine E_s (p' := 307) (st' := aA 0 :: _) rfl rfl ?_
    refine E_s (p' := 308) (st' := aI 0 :: _) rfl rfl ?_
    refine E_s (p' := 309) (st' := aI 3 :: _) rfl rfl ?_
    refine E_s (p' := 310) (st' := aI 3 :: _) rfl rfl ?_
    refine E_scr rfl rfl h3 ?_
    refine E_s (p' := 312) (st' := aA 0 :: _) rfl rfl ?_
    refine E_s (p' := 313) (st' := aI 0 :: _) rfl rfl ?_
    refine E_s (p' := 314) (st' := aI 4 :: _) rfl rfl ?_
    refine E_s (p' := 315) (st' := aI 4 :: _) rfl rfl ?_
    refine E_scr rfl rfl h4 ?_
    refine E_s (p' := 317) (st' := aA 0 :: _) rfl rfl ?_
    refine E_s (p' := 318) (st' := aI 0 :: _) rfl rfl ?_
    refine E_s (p' := 319) (st' := aI 5 :: _) rfl rfl ?_
    refine E_s (p' := 320) (st' := aI 5 :: _) rfl rfl ?_
    refine E_scr rfl rfl h5 ?_
    refine E_callL (p' := 324) (L0 := [some (aA 124), some (aI 3), some (aI a2), some (aI a3), some (aI a4), some (aI a5), none]) rfl rfl rfl ?_
    refine E_s (p' := 1) (st' := aA 124 :: _) rfl rfl ?_
    refine E_s (p' := 2) (st' := aI 3 :: _) rfl rfl ?_
    refine E_s (p' := 3) rfl rfl ?_
    refine E_callL (p' := 6) (L0 := [some (aA 124), some (aI 3), some (aI a2)]) rfl rfl rfl ?_
    refine E_s (p' := 1) (st' := aI 3 :: _) rfl rfl ?_
    refine E_callL (p' := 4) (L0 := [some (aI 3)]) rfl rfl rfl ?_
    refine E_s (p' := 1) (st' := aI 3 :: _) rfl rfl ?_
    refine E_s (p' := 2) (st' := aI 0 :: _) rfl rfl ?_
    refine E_s (p' := 3) (st' := aI 3 :: _) rfl rfl ?_
    refine E_callL (p' := 6) (L0 := [some (aI 3), some (aI 0), some (aI 3)]) rfl rfl rfl ?_
    refine E_s (p' := 1) (st' := aI 3 :: _) rfl rfl ?_
    refine E_s (p' := 2) (st' := aI 0 :: _) rfl rfl ?_
    refine E_s (p' := 5) rfl rfl ?_
    refine E_s (p' := 6) (st' := aI 3 :: _) rfl rfl ?_
    refine E_s (p' := 7) (st' := aI 3 :: _) rfl rfl ?_
    refine E_s (p' := 10) rfl rfl ?_
    refine E_s (p' := 11) (st' := aI 1 :: _) rfl rfl ?_
    refine E_s (p' := 15) rfl rfl ?_
    refine E_ret rfl rfl ?_
    refine E_ret rfl rfl ?_
    refine E_s (p' := 7) rfl rfl ?_
    refine E_s (p' := 8) rfl rfl ?_
    refine E_s (p' := 9) (st' := aI 0 :: _) rfl rfl ?_
    refine E_s (p' := 10) (st' := aA 124 :: _) rfl rfl ?_
    refine E_s (p' := 13) (st' := aA 125 :: _) rfl rfl ?_
    refine E_s (p' := 14) (st' := aI 3 :: _) rfl rfl ?_
    refine E_s (p' := 15) (st' := aI 0 :: _) rfl rfl ?_
    refine E_s (p' := 16) (st' := aI 1 :: _) rfl rfl ?_
    refine E_isubv (v := -1) rfl (show (0 : Int) - 1 = -1 from rfl) (by decide) ?_
    refine E_callL (p' := 20) (L0 := [some (aI a2), some (aI 0), some (aI (-1))]) rfl rfl rfl ?_
    refine E_s (p' := 1) rfl rfl ?_
    refine E_s (p' := 2) (st' := aI 0 :: _) rfl rfl ?_
    refine E_icmp_lt (y := 0) rfl (by decide) (fun _ => ?_) (fun q => absurd q (by omega))
    refine E_s (p' := 15) (st' := aI 0 :: _) rfl rfl ?_
    refine E_ret rfl rfl ?_
    refine E_s (p' := 27) rfl rfl ?_
    refine E_s (p' := 28) (st' := aI 0 :: _) rfl rfl ?_
    refine E_ret rfl rfl ?_
    refine E_s (p' := 44) rfl rfl ?_
    refine E_s (p' := 46) (st' := aI (-2) :: _) rfl rfl ?_
    refine E_ret rfl rfl ?_
    refine E_s (p' := 1174) rfl rfl ?_
    refine E_s (p' := 1177) (L' := [some (aA 0), some (aA 1), some (aA 124), some (aI 6)]) rfl rfl ?_
    refine E_s (p' := 18) rfl rfl ?_
    refine E_s (p' := 19) (st' := aI 6 :: _) rfl rfl ?_
    refine E_s (p' := 20) (st' := aA 0 :: _) rfl rfl ?_
    refine E_s (p' := 21) (st' := aI 6 :: _) rfl rfl ?_
    refine E_s (p' := 23) (st' := aI 6 :: _) rfl rfl ?_
    refine E_s (p' := 24) (st' := aI 0 :: _) rfl rfl ?_
    refine E_s (p' := 1180) rfl rfl ?_
    refine E_s (p' := 1181) (st' := aI 1 :: _) rfl rfl ?_
    exact E_ret rfl rfl ⟨rfl, rfl⟩
  · refine E_s (p' := 5) rfl rfl ?_
    refine E_s (p' := 6) (st' := aA 99 :: _) rfl rfl ?_
    refine E_s (p' := 9) (st' := aI 0 :: _) rfl rfl ?_
    refine E_icmp_ge (y := 0) rfl (by decide) (fun _ => ?_) (fun q => absurd q (by omega))
    refine E_s (p' := 17) (st' := aI 0 :: _) rfl rfl ?_
    refine E_ret rfl rfl ?_
    refine E_s (p' := 47) rfl rfl ?_
    refine E_s (p' := 49) (st' := aI (-2) :: _) rfl rfl ?_
    refine E_ret rfl rfl ?_
    refine E_s (p' := 296) (st' := aA 124 :: _) rfl rfl ?_
    refine E_s (p' := 297) (st' := aA 0 :: _) rfl rfl ?_
    refine E_s (p' := 298) (st' := aI 0 :: _) rfl rfl ?_
    refine E_s (p' := 299) (st' := aI 1 :: _) rfl rfl ?_
    refine E_s (p' := 300) (st' := aI 1 :: _) rfl rfl ?_
    refine E_scr rfl rfl h1 ?_
    refine E_s (p' := 302) (st' := aA 0 :: _) rfl rfl ?_
    refine E_s (p' := 303) (st' := aI 0 :: _) rfl rfl ?_
    refine E_s (p' := 304) (st' := aI 2 :: _) rfl rfl ?_
    refine E_s (p' := 305) (st' := aI 2 :: _) rfl rfl ?_
    refine E_scr rfl rfl h2 ?_
    refine E_s (p' := 307) (st' := aA 0 :: _) rfl rfl ?_
    refine E_s (p' := 308) (st' := aI 0 :: _) rfl rfl ?_
    refine E_s (p' := 309) (st' := aI 3 :: _) rfl rfl ?_
    refine E_s (p' := 310) (st' := aI 3 :: _) rfl rfl ?_
    refine E_scr rfl rfl h3 ?_
    refine E_s (p' := 312) (st' := aA 0 :: _) rfl rfl ?_
    refine E_s (p' := 313) (st' := aI 0 :: _) rfl rfl ?_
    refine E_s (p' := 314) (st' := aI 4 :: _) rfl rfl ?_
    refine E_s (p' := 315) (st' := aI 4 :: _) rfl rfl ?_
    refine E_scr rfl rfl h4 ?_
    refine E_s (p' := 317) (st' := aA 0 :: _) rfl rfl ?_
    refine E_s (p' := 318) (st' := aI 0 :: _) rfl rfl ?_
    refine E_s (p' := 319) (st' := aI 5 :: _) rfl rfl ?_
    refine E_s (p' := 320) (st' := aI 5 :: _) rfl rfl ?_
    refine E_scr rfl rfl h5 ?_
    refine E_callL (p' := 324) (L0 := [some (aA 124), some (aI 3), some (aI a2), some (aI a3), some (aI a4), some (aI a5), none]) rfl rfl rfl ?_
    refine E_s (p' := 1) (st' := aA 124 :: _) rfl rfl ?_
    refine E_s (p' := 2) (st' := aI 3 :: _) rfl rfl ?_
    refine E_s (p' := 3) rfl rfl ?_
    refine E_callL (p' := 6) (L0 := [some (aA 124), some (aI 3), some (aI a2)]) rfl rfl rfl ?_
    refine E_s (p' := 1) (st' := aI 3 :: _) rfl rfl ?_
    refine E_callL (p' := 4) (L0 := [some (aI 3)]) rfl rfl rfl ?_
    refine E_s (p' := 1) (st' := aI 3 :: _) rfl rfl ?_
    refine E_s (p' := 2) (st' := aI 0 :: _) rfl rfl ?_
    refine E_s (p' := 3) (st' := aI 3 :: _) rfl rfl ?_
    refine E_callL (p' := 6) (L0 := [some (aI 3), some (aI 0), some (aI 3)]) rfl rfl rfl ?_
    refine E_s (p' := 1) (st' := aI 3 :: _) rfl rfl ?_
    refine E_s (p' := 2) (st' := aI 0 :: _) rfl rfl ?_
    refine E_s (p' := 5) rfl rfl ?_
    refine E_s (p' := 6) (st' := aI 3 :: _) rfl rfl ?_
    refine E_s (p' := 7) (st' := aI 3 :: _) rfl rfl ?_
    refine E_s (p' := 10) rfl rfl ?_
    refine E_s (p' := 11) (st' := aI 1 :: _) rfl rfl ?_
    refine E_s (p' := 15) rfl rfl ?_
    refine E_ret rfl rfl ?_
    refine E_ret rfl rfl ?_
    refine E_s (p' := 7) rfl rfl ?_
    refine E_s (p' := 8) rfl rfl ?_
    refine E_s (p' := 9) (st' := aI 0 :: _) rfl rfl ?_
    refine E_s (p' := 10) (st' := aA 124 :: _) rfl rfl ?_
    refine E_s (p' := 13) (st' := aA 125 :: _) rfl rfl ?_
    refine E_s (p' := 14) (st' := aI 3 :: _) rfl rfl ?_
    refine E_s (p' := 15) (st' := aI 0 :: _) rfl rfl ?_
    refine E_s (p' := 16) (st' := aI 1 :: _) rfl rfl ?_
    refine E_isubv (v := -1) rfl (show (0 : Int) - 1 = -1 from rfl) (by decide) ?_
    refine E_callL (p' := 20) (L0 := [some (aI a2), some (aI 0), some (aI (-1))]) rfl rfl rfl ?_
    refine E_s (p' := 1) rfl rfl ?_
    refine E_s (p' := 2) (st' := aI 0 :: _) rfl rfl ?_
    refine E_icmp_lt (y := 0) rfl (by decide) (fun q => absurd q (by omega)) (fun _ => ?_)
    refine E_s (p' := 6) rfl rfl ?_
    refine E_s (p' := 7) (st' := aI (-1) :: _) rfl rfl ?_
    refine E_icmp_gt (y := (-1)) rfl (by decide) (fun _ => ?_) (fun q => absurd q (by omega))
    refine E_s (p' := 15) (st' := aI 0 :: _) rfl rfl ?_
    refine E_ret rfl rfl ?_
    refine E_s (p' := 27) rfl rfl ?_
    refine E_s (p' := 28) (st' := aI 0 :: _) rfl rfl ?_
    refine E_ret rfl rfl ?_
    refine E_s (p' := 44) rfl rfl ?_
    refine E_s (p' := 46) (st' := aI (-2) :: _) rfl rfl ?_
    refine E_ret rfl rfl ?_
    refine E_s (p' := 1174) rfl rfl ?_
    refine E_s (p' := 1177) (L' := [some (aA 0), some (aA 1), some (aA 124), some (aI 6)]) rfl rfl ?_
    refine E_s (p' := 18) rfl rfl ?_
    refine E_s (p' := 19) (st' := aI 6 :: _) rfl rfl ?_
    refine E_s (p' := 20) (st' := aA 0 :: _) rfl rfl ?_
    refine E_s (p' := 21) (st' := aI 6 :: _) rfl rfl ?_
    refine E_s (p' := 23) (st' := aI 6 :: _) rfl rfl ?_
    refine E_s (p' := 24) (st' := aI 0 :: _) rfl rfl ?_
    refine E_s (p' := 1180) rfl rfl ?_
    refine E_s (p' := 1181) (st' := aI 1 :: _) rfl rfl ?_
    exact E_ret rfl rfl ⟨rfl, rfl⟩
set_option maxRecDepth 100000 in
set_option maxHeartbeats 40000000 in
theorem pc_2_o (xs : Nat → Int) {z a1 a2 a3 a4 a5 : Int} (hz : b32 (fun a b => a &&& b) z 31 = 2) (h0 : xs 0 = z) (h1 : xs 1 = a1) (h2 : xs 2 = a2) (h3 : xs 3 = a3) (h4 : xs 4 = a4) (h5 : xs 5 = a5) (hr : a1 < 0 ∨ 3 < a1) : E 0 18 LL [] (s0 xs 6) PQ := by
  refine E_s (p' := 19) (st' := aI 0 :: _) rfl rfl ?_
  refine E_s (p' := 20) (st' := aA 0 :: _) rfl rfl ?_
  refine E_s (p' := 21) (st' := aI 6 :: _) rfl rfl ?_
  refine E_s (p' := 23) (st' := aI 6 :: _) rfl rfl ?_
  refine E_s (p' := 24) (st' := aI 0 :: _) rfl rfl ?_
  refine E_s (p' := 27) rfl rfl ?_
  refine E_s (p' := 28) (st' := aA 0 :: _) rfl rfl ?_
  refine E_s (p' := 29) (st' := aI 0 :: _) rfl rfl ?_
  refine E_scr rfl rfl h0 ?_
  refine E_s (p' := 32) (st' := aI 31 :: _) rfl rfl ?_
  refine E_s (p' := 33) rfl rfl ?_
  refine E_val hz ?_
  refine E_s (p' := 266) rfl rfl ?_
  refine E_s (p' := 267) (st' := aA 1 :: _) rfl rfl ?_
  refine E_s (p' := 268) (st' := aA 0 :: _) rfl rfl ?_
  refine E_s (p' := 269) (st' := aI 0 :: _) rfl rfl ?_
  refine E_s (p' := 270) (st' := aI 1 :: _) rfl rfl ?_
  refine E_s (p' := 271) (st' := aI 1 :: _) rfl rfl ?_
  refine E_scr rfl rfl h1 ?_
  refine E_s (p' := 273) (st' := aA 0 :: _) rfl rfl ?_
  refine E_s (p' := 274) (st' := aI 0 :: _) rfl rfl ?_
  refine E_s (p' := 275) (st' := aI 2 :: _) rfl rfl ?_
  refine E_s (p' := 276) (st' := aI 2 :: _) rfl rfl ?_
  refine E_scr rfl rfl h2 ?_
  refine E_s (p' := 278) (st' := aA 0 :: _) rfl rfl ?_
  refine E_s (p' := 279) (st' := aI 0 :: _) rfl rfl ?_
  refine E_s (p' := 280) (st' := aI 3 :: _) rfl rfl ?_
  refine E_s (p' := 281) (st' := aI 3 :: _) rfl rfl ?_
  refine E_scr rfl rfl h3 ?_
  refine E_s (p' := 283) (st' := aA 0 :: _) rfl rfl ?_
  refine E_s (p' := 284) (st' := aI 0 :: _) rfl rfl ?_
  refine E_s (p' := 285) (st' := aI 4 :: _) rfl rfl ?_
  refine E_s (p' := 286) (st' := aI 4 :: _) rfl rfl ?_
  refine E_scr rfl rfl h4 ?_
  refine E_s (p' := 288) (st' := aA 0 :: _) rfl rfl ?_
  refine E_s (p' := 289) (st' := aI 0 :: _) rfl rfl ?_
  refine E_s (p' := 290) (st' := aI 5 :: _) rfl rfl ?_
  refine E_s (p' := 291) (st' := aI 5 :: _) rfl rfl ?_
  refine E_scr rfl rfl h5 ?_
  refine E_callL (p' := 295) (L0 := [some (aA 1), some (aI a1), some (aI a2), some (aI a3), some (aI a4), some (aI a5), none]) rfl rfl rfl ?_
  refine E_s (p' := 1) (st' := aA 1 :: _) rfl rfl ?_
  refine E_s (p' := 2) rfl rfl ?_
  refine E_callL (p' := 5) (L0 := [some (aA 1), some (aI a1)]) rfl rfl rfl ?_
  refine E_s (p' := 1) rfl rfl ?_
  refine E_if_lt rfl (by decide) (fun _ => ?_) (fun _ => ?_)
  · refine E_s (p' := 19) rfl rfl ?_
    refine E_ret rfl rfl ?_
    refine E_s (p' := 7) (L' := [some (aA 1), some (aI a1), some (aI a2), some (aI a3), some (aI a4), some (aI a5), some aN]) rfl rfl ?_
    refine E_s (p' := 9) rfl rfl ?_
    refine E_s (p' := 47) rfl rfl ?_
    refine E_s (p' := 49) (st' := aI (-2) :: _) rfl rfl ?_
    refine E_ret rfl rfl ?_
    refine E_s (p' := 296) (st' := aA 124 :: _) rfl rfl ?_
    refine E_s (p' := 297) (st' := aA 0 :: _) rfl rfl ?_
    refine E_s (p' := 298) (st' := aI 0 :: _) rfl rfl ?_
    refine E_s (p' := 299) (st' := aI 1 :: _) rfl rfl ?_
    refine E_s (p' := 300) (st' := aI 1 :: _) rfl rfl ?_
    refine E_scr rfl rfl h1 ?_
    refine E_s (p' := 302) (st' := aA 0 :: _) rfl rfl ?_
    refine E_s (p' := 303) (st' := aI 0 :: _) rfl rfl ?_
    refine E_s (p' := 304) (st' := aI 2 :: _) rfl rfl ?_
    refine E_s (p' := 305) (st' := aI 2 :: _) rfl rfl ?_
    refine E_scr rfl rfl h2 ?_
    refine E_s (p' := 307) (st' := aA 0 :: _) rfl rfl ?_
    refine E_s (p' := 308) (st' := aI 0 :: _) rfl rfl ?_
    refine E_s (p' := 309) (st' := aI 3 :: _) rfl rfl ?_
    refine E_s (p' := 310) (st' := aI 3 :: _) rfl rfl ?_
    refine E_scr rfl rfl h3 ?_
    refine E_s (p' := 312) (st' := aA 0 :: _) rfl rfl ?_
    refine E_s (p' := 313) (st' := aI 0 :: _) rfl rfl ?_
    refine E_s (p' := 314) (st' := aI 4 :: _) rfl rfl ?_
    refine E_s (p' := 315) (st' := aI 4 :: _) rfl rfl ?_
    refine E_scr rfl rfl h4 ?_
    refine E_s (p' := 317) (st' := aA 0 :: _) rfl rfl ?_
    refine E_s (p' := 318) (st' := aI 0 :: _) rfl rfl ?_
    refine E_s (p' := 319) (st' := aI 5 :: _) rfl rfl ?_
    refine E_s (p' := 320) (st' := aI 5 :: _) rfl rfl ?_
    refine E_scr rfl rfl h5 ?_
    refine E_callL (p' := 324) (L0 := [some (aA 124), some (aI a1), some (aI a2), some (aI a3), some (aI a4), some (aI a5), none]) rfl rfl rfl ?_
    refine E_s (p' := 1) (st' := aA 124 :: _) rfl rfl ?_
    refine E_s (p' := 2) rfl rfl ?_
    refine E_s (p' := 3) rfl rfl ?_
    refine E_callL (p' := 6) (L0 := [some (aA 124), some (aI a1), some (aI a2)]) rfl rfl rfl ?_
    refine E_s (p' := 1) rfl rfl ?_
    refine E_callL (p' := 4) (L0 := [some (aI a1)]) rfl rfl rfl ?_
    refine E_s (p' := 1) rfl rfl ?_
    refine E_s (p' := 2) (st' := aI 0 :: _) rfl rfl ?_
    refine E_s (p' := 3) (st' := aI 3 :: _) rfl rfl ?_
    refine E_callL (p' := 6) (L0 := [some (aI a1), some (aI 0), some (aI 3)]) rfl rfl rfl ?_
    refine E_s (p' := 1) rfl rfl ?_
    refine E_s (p' := 2) (st' := aI 0 :: _) rfl rfl ?_
    refine E_icmp_lt (y := 0) rfl (by decide) (fun _ => ?_) (fun q => absurd q (by omega))
    refine E_s (p' := 15) (st' := aI 0 :: _) rfl rfl ?_
    refine E_ret rfl rfl ?_
    refine E_ret rfl rfl ?_
    refine E_s (p' := 27) rfl rfl ?_
    refine E_s (p' := 28) (st' := aI 0 :: _) rfl rfl ?_
    refine E_ret rfl rfl ?_
    refine E_s (p' := 44) rfl rfl ?_
    refine E_s (p' := 46) (st' := aI (-2) :: _) rfl rfl ?_
    refine E_ret rfl rfl ?_
    refine E_s (p' := 1174) rfl rfl ?_
    refine E_s (p' := 1177) (L' := [some (aA 0), some (aA 1), some (aA 124), some (aI 6)]) rfl rfl ?_
    refine E_s (p' := 18) rfl rfl ?_
    refine E_s (p' := 19) (st' := aI 6 :: _) rfl rfl ?_
    refine E_s (p' := 20) (st' := aA 0 :: _) rfl rfl ?_
    refine E_s (p' := 21) (st' := aI 6 :: _) rfl rfl ?_
    refine E_s (p' := 23) (st' := aI 6 :: _) rfl rfl ?_
    refine E_s (p' := 24) (st' := aI 0 :: _) rfl rfl ?_
    refine E_s (p' := 1180) rfl rfl ?_
    refine E_s (p' := 1181) (st' := aI 1 :: _) rfl rfl ?_
    exact E_ret rfl rfl ⟨rfl, rfl⟩
  · refine E_s (p' := 5) rfl rfl ?_
    refine E_s (p' := 6) (st' := aI 4 :: _) rfl rfl ?_
    refine E_icmp_ge (y := 4) rfl (by decide) (fun _ => ?_) (fun q => absurd q (by omega))
    refine E_s (p' := 19) rfl rfl ?_
    refine E_ret rfl rfl ?_
    refine E_s (p' := 7) (L' := [some (aA 1), some (aI a1), some (aI a2), some (aI a3), some (aI a4), some (aI a5), some aN]) rfl rfl ?_
    refine E_s (p' := 9) rfl rfl ?_
    refine E_s (p' := 47) rfl rfl ?_
    refine E_s (p' := 49) (st' := aI (-2) :: _) rfl rfl ?_
    refine E_ret rfl rfl ?_
    refine E_s (p' := 296) (st' := aA 124 :: _) rfl rfl ?_
    refine E_s (p' := 297) (st' := aA 0 :: _) rfl rfl ?_
    refine E_s (p' := 298) (st' := aI 0 :: _) rfl rfl ?_
    refine E_s (p' := 299) (st' := aI 1 :: _) rfl rfl ?_
    refine E_s (p' := 300) (st' := aI 1 :: _) rfl rfl ?_
    refine E_scr rfl rfl h1 ?_
    refine E_s (p' := 302) (st' := aA 0 :: _) rfl rfl ?_
    refine E_s (p' := 303) (st' := aI 0 :: _) rfl rfl ?_
    refine E_s (p' := 304) (st' := aI 2 :: _) rfl rfl ?_
    refine E_s (p' := 305) (st' := aI 2 :: _) rfl rfl ?_
    refine E_scr rfl rfl h2 ?_
    refine E_s (p' := 307) (st' := aA 0 :: _) rfl rfl ?_
    refine E_s (p' := 308) (st' := aI 0 :: _) rfl rfl ?_
    refine E_s (p' := 309) (st' := aI 3 :: _) rfl rfl ?_
    refine E_s (p' := 310) (st' := aI 3 :: _) rfl rfl ?_
    refine E_scr rfl rfl h3 ?_
    refine E_s (p' := 312) (st' := aA 0 :: _) rfl rfl ?_
    refine E_s (p' := 313) (st' := aI 0 :: _) rfl rfl ?_
    refine E_s (p' := 314) (st' := aI 4 :: _) rfl rfl ?_
    refine E_s (p' := 315) (st' := aI 4 :: _) rfl rfl ?_
    refine E_scr rfl rfl h4 ?_
    refine E_s (p' := 317) (st' := aA 0 :: _) rfl rfl ?_
    refine E_s (p' := 318) (st' := aI 0 :: _) rfl rfl ?_
    refine E_s (p' := 319) (st' := aI 5 :: _) rfl rfl ?_
    refine E_s (p' := 320) (st' := aI 5 :: _) rfl rfl ?_
    refine E_scr rfl rfl h5 ?_
    refine E_callL (p' := 324) (L0 := [some (aA 124), some (aI a1), some (aI a2), some (aI a3), some (aI a4), some (aI a5), none]) rfl rfl rfl ?_
    refine E_s (p' := 1) (st' := aA 124 :: _) rfl rfl ?_
    refine E_s (p' := 2) rfl rfl ?_
    refine E_s (p' := 3) rfl rfl ?_
    refine E_callL (p' := 6) (L0 := [some (aA 124), some (aI a1), some (aI a2)]) rfl rfl rfl ?_
    refine E_s (p' := 1) rfl rfl ?_
    refine E_callL (p' := 4) (L0 := [some (aI a1)]) rfl rfl rfl ?_
    refine E_s (p' := 1) rfl rfl ?_
    refine E_s (p' := 2) (st' := aI 0 :: _) rfl rfl ?_
    refine E_s (p' := 3) (st' := aI 3 :: _) rfl rfl ?_
    refine E_callL (p' := 6) (L0 := [some (aI a1), some (aI 0), some (aI 3)]) rfl rfl rfl ?_
    refine E_s (p' := 1) rfl rfl ?_
    refine E_s (p' := 2) (st' := aI 0 :: _) rfl rfl ?_
    refine E_icmp_lt (y := 0) rfl (by decide) (fun q => absurd q (by omega)) (fun _ => ?_)
    refine E_s (p' := 6) rfl rfl ?_
    refine E_s (p' := 7) (st' := aI 3 :: _) rfl rfl ?_
    refine E_icmp_gt (y := 3) rfl (by decide) (fun _ => ?_) (fun q => absurd q (by omega))
    refine E_s (p' := 15) (st' := aI 0 :: _) rfl rfl ?_
    refine E_ret rfl rfl ?_
    refine E_ret rfl rfl ?_
    refine E_s (p' := 27) rfl rfl ?_
    refine E_s (p' := 28) (st' := aI 0 :: _) rfl rfl ?_
    refine E_ret rfl rfl ?_
    refine E_s (p' := 44) rfl rfl ?_
    refine E_s (p' := 46) (st' := aI (-2) :: _) rfl rfl ?_
    refine E_ret rfl rfl ?_
    refine E_s (p' := 1174) rfl rfl ?_
    refine E_s (p' := 1177) (L' := [some (aA 0), some (aA 1), some (aA 124), some (aI 6)]) rfl rfl ?_
    refine E_s (p' := 18) rfl rfl ?_
    refine E_s (p' := 19) (st' := aI 6 :: _) rfl rfl ?_
    refine E_s (p' := 20) (st' := aA 0 :: _) rfl rfl ?_
    refine E_s (p' := 21) (st' := aI 6 :: _) rfl rfl ?_
    refine E_s (p' := 23) (st' := aI 6 :: _) rfl rfl ?_
    refine E_s (p' := 24) (st' := aI 0 :: _) rfl rfl ?_
    refine E_s (p' := 1180) rfl rfl ?_
    refine E_s (p' := 1181) (st' := aI 1 :: _) rfl rfl ?_
    exact E_ret rfl rfl ⟨rfl, rfl⟩
