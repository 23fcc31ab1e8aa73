set_option maxRecDepth 100000 in
set_option maxHeartbeats 40000000 in
theorem pc_0_0 (xs : Nat → Int) {z a2 a3 a4 a5 : Int} (hz : b32 (fun a b => a &&& b) z 31 = 0) (h0 : xs 0 = z) (h1 : xs 1 = 0) (h2 : xs 2 = a2) (h3 : xs 3 = a3) (h4 : xs 4 = a4) (h5 : xs 5 = a5) : E 0 18 LL [] (s0 xs 6) PQ := by
  refine E_s (p' := 19) (st' := aI 0 :: _) rfl rfl ?_
  refine E_s (p' := 20) (st' := aA 0 :: _) rfl rfl ?_
  refine E_s (p' := 21) (st' := aI 6 :: _) rfl rfl ?_
  refine E_s (p' := 23) (st' := aI 6 :: _) rfl rfl ?_
  refine E_s (p' := 24) (st' := aI 0 :: _) rfl rfl ?_
  refine E_s (p' := 27) rfl rfl ?_
  refine E_s (p' := 28) (st' := aA 0 :: _) rfl rfl ?_
  refine E_s (p' := 29) (st' := aI 0 :: _) rfl rfl ?_
  refine E_scr rfl rfl h0 ?_
  refine E_s (p' := 32) (st' := aI 31 :: _) rfl rfl ?_
  refine E_s (p' := 33) rfl rfl ?_
  refine E_val hz ?_
  refine E_s (p' := 160) rfl rfl ?_
  refine E_s (p' := 161) (st' := aA 1 :: _) rfl rfl ?_
  refine E_s (p' := 162) (st' := aA 0 :: _) rfl rfl ?_
  refine E_s (p' := 163) (st' := aI 0 :: _) rfl rfl ?_
  refine E_s (p' := 164) (st' := aI 1 :: _) rfl rfl ?_
  refine E_s (p' := 165) (st' := aI 1 :: _) rfl rfl ?_
  refine E_scr rfl rfl h1 ?_
  refine E_s (p' := 167) (st' := aA 0 :: _) rfl rfl ?_
  refine E_s (p' := 168) (st' := aI 0 :: _) rfl rfl ?_
  refine E_s (p' := 169) (st' := aI 2 :: _) rfl rfl ?_
  refine E_s (p' := 170) (st' := aI 2 :: _) rfl rfl ?_
  refine E_scr rfl rfl h2 ?_
  refine E_s (p' := 172) (st' := aA 0 :: _) rfl rfl ?_
  refine E_s (p' := 173) (st' := aI 0 :: _) rfl rfl ?_
  refine E_s (p' := 174) (st' := aI 3 :: _) rfl rfl ?_
  refine E_s (p' := 175) (st' := aI 3 :: _) rfl rfl ?_
  refine E_scr rfl rfl h3 ?_
  refine E_s (p' := 177) (st' := aA 0 :: _) rfl rfl ?_
  refine E_s (p' := 178) (st' := aI 0 :: _) rfl rfl ?_
  refine E_s (p' := 179) (st' := aI 4 :: _) rfl rfl ?_
  refine E_s (p' := 180) (st' := aI 4 :: _) rfl rfl ?_
  refine E_scr rfl rfl h4 ?_
  refine E_callL (p' := 184) (L0 := [some (aA 1), some (aI 0), some (aI a2), some (aI a3), some (aI a4), none]) rfl rfl rfl ?_
  refine E_s (p' := 1) (st' := aA 1 :: _) rfl rfl ?_
  refine E_s (p' := 2) (st' := aI 0 :: _) rfl rfl ?_
  refine E_callL (p' := 5) (L0 := [some (aA 1), some (aI 0)]) rfl rfl rfl ?_
  refine E_s (p' := 1) (st' := aI 0 :: _) rfl rfl ?_
  refine E_s (p' := 4) rfl rfl ?_
  refine E_s (p' := 5) (st' := aI 0 :: _) rfl rfl ?_
  refine E_s (p' := 6) (st' := aI 4 :: _) rfl rfl ?_
  refine E_s (p' := 9) rfl rfl ?_
  refine E_s (p' := 10) (st' := aA 1 :: _) rfl rfl ?_
  refine E_s (p' := 13) (st' := aA 2 :: _) rfl rfl ?_
  refine E_s (p' := 14) (st' := aI 0 :: _) rfl rfl ?_
  refine E_s (p' := 15) (st' := aA 20 :: _) rfl rfl ?_
  refine E_s (p' := 19) rfl rfl ?_
  refine E_ret rfl rfl ?_
  refine E_s (p' := 7) (L' := [some (aA 1), some (aI 0), some (aI a2), some (aI a3), some (aI a4), some (aA 20)]) rfl rfl ?_
  refine E_s (p' := 9) (st' := aA 20 :: _) rfl rfl ?_
  refine E_s (p' := 12) rfl rfl ?_
  refine E_s (p' := 13) rfl rfl ?_
  refine E_if_lt rfl (by decide) (fun _ => ?_) (fun _ => ?_)
  · refine E_s (p' := 33) (st' := aI (-2) :: _) rfl rfl ?_
    refine E_ret rfl rfl ?_
    refine E_s (p' := 185) (st' := aA 124 :: _) rfl rfl ?_
    refine E_s (p' := 186) (st' := aA 0 :: _) rfl rfl ?_
    refine E_s (p' := 187) (st' := aI 0 :: _) rfl rfl ?_
    refine E_s (p' := 188) (st' := aI 1 :: _) rfl rfl ?_
    refine E_s (p' := 189) (st' := aI 1 :: _) rfl rfl ?_
    refine E_scr rfl rfl h1 ?_
    refine E_s (p' := 191) (st' := aA 0 :: _) rfl rfl ?_
    refine E_s (p' := 192) (st' := aI 0 :: _) rfl rfl ?_
    refine E_s (p' := 193) (st' := aI 2 :: _) rfl rfl ?_
    refine E_s (p' := 194) (st' := aI 2 :: _) rfl rfl ?_
    refine E_scr rfl rfl h2 ?_
    refine E_s (p' := 196) (st' := aA 0 :: _) rfl rfl ?_
    refine E_s (p' := 197) (st' := aI 0 :: _) rfl rfl ?_
    refine E_s (p' := 198) (st' := aI 3 :: _) rfl rfl ?_
    refine E_s (p' := 199) (st' := aI 3 :: _) rfl rfl ?_
    refine E_scr rfl rfl h3 ?_
    refine E_s (p' := 201) (st' := aA 0 :: _) rfl rfl ?_
    refine E_s (p' := 202) (st' := aI 0 :: _) rfl rfl ?_
    refine E_s (p' := 203) (st' := aI 4 :: _) rfl rfl ?_
    refine E_s (p' := 204) (st' := aI 4 :: _) rfl rfl ?_
    refine E_scr rfl rfl h4 ?_
    refine E_callL (p' := 208) (L0 := [some (aA 124), some (aI 0), some (aI a2), some (aI a3), some (aI a4)]) rfl rfl rfl ?_
    refine E_s (p' := 1) (st' := aI 0 :: _) rfl rfl ?_
    refine E_callL (p' := 4) (L0 := [some (aI 0)]) rfl rfl rfl ?_
    refine E_s (p' := 1) (st' := aI 0 :: _) rfl rfl ?_
    refine E_s (p' := 2) (st' := aI 0 :: _) rfl rfl ?_
    refine E_s (p' := 3) (st' := aI 3 :: _) rfl rfl ?_
    refine E_callL (p' := 6) (L0 := [some (aI 0), some (aI 0), some (aI 3)]) rfl rfl rfl ?_
    refine E_s (p' := 1) (st' := aI 0 :: _) rfl rfl ?_
    refine E_s (p' := 2) (st' := aI 0 :: _) rfl rfl ?_
    refine E_s (p' := 5) rfl rfl ?_
    refine E_s (p' := 6) (st' := aI 0 :: _) rfl rfl ?_
    refine E_s (p' := 7) (st' := aI 3 :: _) rfl rfl ?_
    refine E_s (p' := 10) rfl rfl ?_
    refine E_s (p' := 11) (st' := aI 1 :: _) rfl rfl ?_
    refine E_s (p' := 15) rfl rfl ?_
    refine E_ret rfl rfl ?_
    refine E_ret rfl rfl ?_
    refine E_s (p' := 7) rfl rfl ?_
    refine E_s (p' := 8) rfl rfl ?_
    refine E_s (p' := 9) (st' := aI 0 :: _) rfl rfl ?_
    refine E_s (p' := 11) (st' := aI 11 :: _) rfl rfl ?_
    refine E_callL (p' := 14) (L0 := [some (aI a2), some (aI 0), some (aI 11)]) rfl rfl rfl ?_
    refine E_s (p' := 1) rfl rfl ?_
    refine E_s (p' := 2) (st' := aI 0 :: _) rfl rfl ?_
    refine E_icmp_lt (y := 0) rfl (by decide) (fun _ => ?_) (fun q => absurd q (by omega))
    refine E_s (p' := 15) (st' := aI 0 :: _) rfl rfl ?_
    refine E_ret rfl rfl ?_
    refine E_s (p' := 26) rfl rfl ?_
    refine E_s (p' := 28) (st' := aI (-2) :: _) rfl rfl ?_
    refine E_ret rfl rfl ?_
    refine E_s (p' := 1174) rfl rfl ?_
    refine E_s (p' := 1177) (L' := [some (aA 0), some (aA 1), some (aA 124), some (aI 6)]) rfl rfl ?_
    refine E_s (p' := 18) rfl rfl ?_
    refine E_s (p' := 19) (st' := aI 6 :: _) rfl rfl ?_
    refine E_s (p' := 20) (st' := aA 0 :: _) rfl rfl ?_
    refine E_s (p' := 21) (st' := aI 6 :: _) rfl rfl ?_
    refine E_s (p' := 23) (st' := aI 6 :: _) rfl rfl ?_
    refine E_s (p' := 24) (st' := aI 0 :: _) rfl rfl ?_
    refine E_s (p' := 1180) rfl rfl ?_
    refine E_s (p' := 1181) (st' := aI 1 :: _) rfl rfl ?_
    exact E_ret rfl rfl ⟨rfl, rfl⟩
  · refine E_s (p' := 17) rfl rfl ?_
    refine E_s (p' := 19) (st' := aI 12 :: _) rfl rfl ?_
    refine E_icmp_ge (y := 12) rfl (by decide) (fun _ => ?_) (fun _ => ?_)
    · refine E_s (p' := 33) (st' := aI (-2) :: _) rfl rfl ?_
      refine E_ret rfl rfl ?_
      refine E_s (p' := 185) (st' := aA 124 :: _) rfl rfl ?_
      refine E_s (p' := 186) (st' := aA 0 :: _) rfl rfl ?_
      refine E_s (p' := 187) (st' := aI 0 :: _) rfl rfl ?_
      refine E_s (p' := 188) (st' := aI 1 :: _) rfl rfl ?_
      refine E_s (p' := 189) (st' := aI 1 :: _) rfl rfl ?_
      refine E_scr rfl rfl h1 ?_
      refine E_s (p' := 191) (st' := aA 0 :: _) rfl rfl ?_
      refine E_s (p' := 192) (st' := aI 0 :: _) rfl rfl ?_
      refine E_s (p' := 193) (st' := aI 2 :: _) rfl rfl ?_
      refine E_s (p' := 194) (st' := aI 2 :: _) rfl rfl ?_
      refine E_scr rfl rfl h2 ?_
      refine E_s (p' := 196) (st' := aA 0 :: _) rfl rfl ?_
      refine E_s (p' := 197) (st' := aI 0 :: _) rfl rfl ?_
      refine E_s (p' := 198) (st' := aI 3 :: _) rfl rfl ?_
      refine E_s (p' := 199) (st' := aI 3 :: _) rfl rfl ?_
      refine E_scr rfl rfl h3 ?_
      refine E_s (p' := 201) (st' := aA 0 :: _) rfl rfl ?_
      refine E_s (p' := 202) (st' := aI 0 :: _) rfl rfl ?_
      refine E_s (p' := 203) (st' := aI 4 :: _) rfl rfl ?_
      refine E_s (p' := 204) (st' := aI 4 :: _) rfl rfl ?_
      refine E_scr rfl rfl h4 ?_
      refine E_callL (p' := 208) (L0 := [some (aA 124), some (aI 0), some (aI a2), some (aI a3), some (aI a4)]) rfl rfl rfl ?_
      refine E_s (p' := 1) (st' := aI 0 :: _) rfl rfl ?_
      refine E_callL (p' := 4) (L0 := [some (aI 0)]) rfl rfl rfl ?_
      refine E_s (p' := 1) (st' := aI 0 :: _) rfl rfl ?_
      refine E_s (p' := 2) (st' := aI 0 :: _) rfl rfl ?_
      refine E_s (p' := 3) (st' := aI 3 :: _) rfl rfl ?_
      refine E_callL (p' := 6) (L0 := [some (aI 0), some (aI 0), some (aI 3)]) rfl rfl rfl ?_
      refine E_s (p' := 1) (st' := aI 0 :: _) rfl rfl ?_
      refine E_s (p' := 2) (st' := aI 0 :: _) rfl rfl ?_
      refine E_s (p' := 5) rfl rfl ?_
      refine E_s (p' := 6) (st' := aI 0 :: _) rfl rfl ?_
      refine E_s (p' := 7) (st' := aI 3 :: _) rfl rfl ?_
      refine E_s (p' := 10) rfl rfl ?_
      refine E_s (p' := 11) (st' := aI 1 :: _) rfl rfl ?_
      refine E_s (p' := 15) rfl rfl ?_
      refine E_ret rfl rfl ?_
      refine E_ret rfl rfl ?_
      refine E_s (p' := 7) rfl rfl ?_
      refine E_s (p' := 8) rfl rfl ?_
      refine E_s (p' := 9) (st' := aI 0 :: _) rfl rfl ?_
      refine E_s (p' := 11) (st' := aI 11 :: _) rfl rfl ?_
      refine E_callL (p' := 14) (L0 := [some (aI a2), some (aI 0), some (aI 11)]) rfl rfl rfl ?_
      refine E_s (p' := 1) rfl rfl ?_
      refine E_s (p' := 2) (st' := aI 0 :: _) rfl rfl ?_
      refine E_icmp_lt (y := 0) rfl (by decide) (fun q => absurd q (by omega)) (fun _ => ?_)
      refine E_s (p' := 6) rfl rfl ?_
      refine E_s (p' := 7) (st' := aI 11 :: _) rfl rfl ?_
      refine E_icmp_gt (y := 11) rfl (by decide) (fun _ => ?_) (fun q => absurd q (by omega))
      refine E_s (p' := 15) (st' := aI 0 :: _) rfl rfl ?_
      refine E_ret rfl rfl ?_
      refine E_s (p' := 26) rfl rfl ?_
      refine E_s (p' := 28) (st' := aI (-2) :: _) rfl rfl ?_
      refine E_ret rfl rfl ?_
      refine E_s (p' := 1174) rfl rfl ?_
      refine E_s (p' := 1177) (L' := [some (aA 0), some (aA 1), some (aA 124), some (aI 6)]) rfl rfl ?_
      refine E_s (p' := 18) rfl rfl ?_
      refine E_s (p' := 19) (st' := aI 6 :: _) rfl rfl ?_
      refine E_s (p' := 20) (st' := aA 0 :: _) rfl rfl ?_
      refine E_s (p' := 21) (st' := aI 6 :: _) rfl rfl ?_
      refine E_s (p' := 23) (st' := aI 6 :: _) rfl rfl ?_
      refine E_s (p' := 24) (st' := aI 0 :: _) rfl rfl ?_
      refine E_s (p' := 1180) rfl rfl ?_
      refine E_s (p' := 1181) (st' := aI 1 :: _) rfl rfl ?_
      exact E_ret rfl rfl ⟨rfl, rfl⟩
    · refine E_s (p' := 23) rfl rfl ?_
      refine E_s (p' := 25) rfl rfl ?_
      refine E_callL (p' := 28) (L0 := [some (aI a3), some (aI a4)]) rfl rfl rfl ?_
      refine E_s (p' := 1) rfl rfl ?_
      refine E_if_lt rfl (by decide) (fun _ => ?_) (fun _ => ?_)
      · refine E_s (p' := 28) (st' := aI 0 :: _) rfl rfl ?_
        refine E_ret rfl rfl ?_
        refine E_s (p' := 31) rfl rfl ?_
        refine E_s (p' := 33) (st' := aI (-2) :: _) rfl rfl ?_
        refine E_ret rfl rfl ?_
        refine E_s (p' := 185) (st' := aA 124 :: _) rfl rfl ?_
        refine E_s (p' := 186) (st' := aA 0 :: _) rfl rfl ?_
        refine E_s (p' := 187) (st' := aI 0 :: _) rfl rfl ?_
        refine E_s (p' := 188) (st' := aI 1 :: _) rfl rfl ?_
        refine E_s (p' := 189) (st' := aI 1 :: _) rfl rfl ?_
        refine E_scr rfl rfl h1 ?_
        refine E_s (p' := 191) (st' := aA 0 :: _) rfl rfl ?_
        refine E_s (p' := 192) (st' := aI 0 :: _) rfl rfl ?_
        refine E_s (p' := 193) (st' := aI 2 :: _) rfl rfl ?_
        refine E_s (p' := 194) (st' := aI 2 :: _) rfl rfl ?_
        refine E_scr rfl rfl h2 ?_
        refine E_s (p' := 196) (st' := aA 0 :: _) rfl rfl ?_
        refine E_s (p' := 197) (st' := aI 0 :: _) rfl rfl ?_
        refine E_s (p' := 198) (st' := aI 3 :: _) rfl rfl ?_
        refine E_s (p' := 199) (st' := aI 3 :: _) rfl rfl ?_
        refine E_scr rfl rfl h3 ?_
        refine E_s (p' := 201) (st' := aA 0 :: _) rfl rfl ?_
        refine E_s (p' := 202) (st' := aI 0 :: _) rfl rfl ?_
        refine E_s (p' := 203) (st' := aI 4 :: _) rfl rfl ?_
        refine E_s (p' := 204) (st' := aI 4 :: _) rfl rfl ?_
        refine E_scr rfl rfl h4 ?_
        refine E_callL (p' := 208) (L0 := [some (aA 124), some (aI 0), some (aI a2), some (aI a3), some (aI a4)]) rfl rfl rfl ?_
        refine E_s (p' := 1) (st' := aI 0 :: _) rfl rfl ?_
        refine E_callL (p' := 4) (L0 := [some (aI 0)]) rfl rfl rfl ?_
        refine E_s (p' := 1) (st' := aI 0 :: _) rfl rfl ?_
        refine E_s (p' := 2) (st' := aI 0 :: _) rfl rfl ?_
        refine E_s (p' := 3) (st' := aI 3 :: _) rfl rfl ?_
        refine E_callL (p' := 6) (L0 := [some (aI 0), some (aI 0), some (aI 3)]) rfl rfl rfl ?_
        refine E_s (p' := 1) (st' := aI 0 :: _) rfl rfl ?_
        refine E_s (p' := 2) (st' := aI 0 :: _) rfl rfl ?_
        refine E_s (p' := 5) rfl rfl ?_
        refine E_s (p' := 6) (st' := aI 0 :: _) rfl rfl ?_
        refine E_s (p' := 7) (st' := aI 3 :: _) rfl rfl ?_
        refine E_s (p' := 10) rfl rfl ?_
        refine E_s (p' := 11) (st' := aI 1 :: _) rfl rfl ?_
        refine E_s (p' := 15) rfl rfl ?_
        refine E_ret rfl rfl ?_
        refine E_ret rfl rfl ?_
        refine E_s (p' := 7) rfl rfl ?_
        refine E_s (p' := 8) rfl rfl ?_
        refine E_s (p' := 9) (st' := aI 0 :: _) rfl rfl ?_
        refine E_s (p' := 11) (st' := aI 11 :: _) rfl rfl ?_
        refine E_callL (p' := 14) (L0 := [some (aI a2), some (aI 0), some (aI 11)]) rfl rfl rfl ?_
        refine E_s (p' := 1) rfl rfl ?_
        refine E_s (p' := 2) (st' := aI 0 :: _) rfl rfl ?_
        refine E_icmp_lt (y := 0) rfl (by decide) (fun q => absurd q (by omega)) (fun _ => ?_)
        refine E_s (p' := 6) rfl rfl ?_
        refine E_s (p' := 7) (st' := aI 11 :: _) rfl rfl ?_
        refine E_icmp_gt (y := 11) rfl (by decide) (fun q => absurd q (by omega)) (fun _ => ?_)
        refine E_s (p' := 11) (st' := aI 1 :: _) rfl rfl ?_
        refine E_s (p' := 15) rfl rfl ?_
        refine E_ret rfl rfl ?_
        refine E_s (p' := 17) rfl rfl ?_
        refine E_s (p' := 18) rfl rfl ?_
        refine E_s (p' := 20) rfl rfl ?_
        refine E_callL (p' := 23) (L0 := [some (aI a3), some (aI a4)]) rfl rfl rfl ?_
        refine E_s (p' := 1) rfl rfl ?_
        refine E_s (p' := 2) (st' := aI 0 :: _) rfl rfl ?_
        refine E_s (p' := 4) (st' := aI 23 :: _) rfl rfl ?_
        refine E_callL (p' := 7) (L0 := [some (aI a3), some (aI 0), some (aI 23)]) rfl rfl rfl ?_
        refine E_s (p' := 1) rfl rfl ?_
        refine E_s (p' := 2) (st' := aI 0 :: _) rfl rfl ?_
        refine E_icmp_lt (y := 0) rfl (by decide) (fun _ => ?_) (fun q => absurd q (by omega))
        refine E_s (p' := 15) (st' := aI 0 :: _) rfl rfl ?_
        refine E_ret rfl rfl ?_
        refine E_s (p' := 26) rfl rfl ?_
        refine E_s (p' := 27) (st' := aI 0 :: _) rfl rfl ?_
        refine E_ret rfl rfl ?_
        refine E_s (p' := 26) rfl rfl ?_
        refine E_s (p' := 28) (st' := aI (-2) :: _) rfl rfl ?_
        refine E_ret rfl rfl ?_
        refine E_s (p' := 1174) rfl rfl ?_
        refine E_s (p' := 1177) (L' := [some (aA 0), some (aA 1), some (aA 124), some (aI 6)]) rfl rfl ?_
        refine E_s (p' := 18) rfl rfl ?_
        refine E_s (p' := 19) (st' := aI 6 :: _) rfl rfl ?_
        refine E_s (p' := 20) (st' := aA 0 :: _) rfl rfl ?_
        refine E_s (p' := 21) (st' := aI 6 :: _) rfl rfl ?_
        refine E_s (p' := 23) (st' := aI 6 :: _) rfl rfl ?_
        refine E_s (p' := 24) (st' := aI 0 :: _) rfl rfl ?_
        refine E_s (p' := 1180) rfl rfl ?_
        refine E_s (p' := 1181) (st' := aI 1 :: _) rfl rfl ?_
        exact E_ret rfl rfl ⟨rfl, rfl⟩
      · refine E_s (p' := 5) rfl rfl ?_
        refine E_s (p' := 7) (st' := aI 24 :: _) rfl rfl ?_
        refine E_icmp_ge (y := 24) rfl (by decide) (fun _ => ?_) (fun _ => ?_)
        · refine E_s (p' := 28) (st' := aI 0 :: _) rfl rfl ?_
          refine E_ret rfl rfl ?_
          refine E_s (p' := 31) rfl rfl ?_
          refine E_s (p' := 33) (st' := aI (-2) :: _) rfl rfl ?_
          refine E_ret rfl rfl ?_
          refine E_s (p' := 185) (st' := aA 124 :: _) rfl rfl ?_
          refine E_s (p' := 186) (st' := aA 0 :: _) rfl rfl ?_
          refine E_s (p' := 187) (st' := aI 0 :: _) rfl rfl ?_
          refine E_s (p' := 188) (st' := aI 1 :: _) rfl rfl ?_
          refine E_s (p' := 189) (st' := aI 1 :: _) rfl rfl ?_
          refine E_scr rfl rfl h1 ?_
          refine E_s (p' := 191) (st' := aA 0 :: _) rfl rfl ?_
          refine E_s (p' := 192) (st' := aI 0 :: _) rfl rfl ?_
          refine E_s (p' := 193) (st' := aI 2 :: _) rfl rfl ?_
          refine E_s (p' := 194) (st' := aI 2 :: _) rfl rfl ?_
          refine E_scr rfl rfl h2 ?_
          refine E_s (p' := 196) (st' := aA 0 :: _) rfl rfl ?_
          refine E_s (p' := 197) (st' := aI 0 :: _) rfl rfl ?_
          refine E_s (p' := 198) (st' := aI 3 :: _) rfl rfl ?_
          refine E_s (p' := 199) (st' := aI 3 :: _) rfl rfl ?_
          refine E_scr rfl rfl h3 ?_
          refine E_s (p' := 201) (st' := aA 0 :: _) rfl rfl ?_
          refine E_s (p' := 202) (st' := aI 0 :: _) rfl rfl ?_
          refine E_s (p' := 203) (st' := aI 4 :: _) rfl rfl ?_
          refine E_s (p' := 204) (st' := aI 4 :: _) rfl rfl ?_
          refine E_scr rfl rfl h4 ?_
          refine E_callL (p' := 208) (L0 := [some (aA 124), some (aI 0), some (aI a2), some (aI a3), some (aI a4)]) rfl rfl rfl ?_
          refine E_s (p' := 1) (st' := aI 0 :: _) rfl rfl ?_
          refine E_callL (p' := 4) (L0 := [some (aI 0)]) rfl rfl rfl ?_
          refine E_s (p' := 1) (st' := aI 0 :: _) rfl rfl ?_
          refine E_s (p' := 2) (st' := aI 0 :: _) rfl rfl ?_
          refine E_s (p' := 3) (st' := aI 3 :: _) rfl rfl ?_
          refine E_callL (p' := 6) (L0 := [some (aI 0), some (aI 0), some (aI 3)]) rfl rfl rfl ?_
          refine E_s (p' := 1) (st' := aI 0 :: _) rfl rfl ?_
          refine E_s (p' := 2) (st' := aI 0 :: _) rfl rfl ?_
          refine E_s (p' := 5) rfl rfl ?_
          refine E_s (p' := 6) (st' := aI 0 :: _) rfl rfl ?_
          refine E_s (p' := 7) (st' := aI 3 :: _) rfl rfl ?_
          refine E_s (p' := 10) rfl rfl ?_
          refine E_s (p' := 11) (st' := aI 1 :: _) rfl rfl ?_
          refine E_s (p' := 15) rfl rfl ?_
          refine E_ret rfl rfl ?_
          refine E_ret rfl rfl ?_
          refine E_s (p' := 7) rfl rfl ?_
          refine E_s (p' := 8) rfl rfl ?_
          refine E_s (p' := 9) (st' := aI 0 :: _) rfl rfl ?_
          refine E_s (p' := 11) (st' := aI 11 :: _) rfl rfl ?_
          refine E_callL (p' := 14) (L0 := [some (aI a2), some (aI 0), some (aI 11)]) rfl rfl rfl ?_
          refine E_s (p' := 1) rfl rfl ?_
          refine E_s (p' := 2) (st' := aI 0 :: _) rfl rfl ?_
          refine E_icmp_lt (y := 0) rfl (by decide) (fun q => absurd q (by omega)) (fun _ => ?_)
          refine E_s (p' := 6) rfl rfl ?_
          refine E_s (p' := 7) (st' := aI 11 :: _) rfl rfl ?_
          refine E_icmp_gt (y := 11) rfl (by decide) (fun q => absurd q (by omega)) (fun _ => ?_)
          refine E_s (p' := 11) (st' := aI 1 :: _) rfl rfl ?_
          refine E_s (p' := 15) rfl rfl ?_
          refine E_ret rfl rfl ?_
          refine E_s (p' := 17) rfl rfl ?_
          refine E_s (p' := 18) rfl rfl ?_
          refine E_s (p' := 20) rfl rfl ?_
          refine E_callL (p' := 23) (L0 := [some (aI a3), some (aI a4)]) rfl rfl rfl ?_
          refine E_s (p' := 1) rfl rfl ?_
          refine E_s (p' := 2) (st' := aI 0 :: _) rfl rfl ?_
          refine E_s (p' := 4) (st' := aI 23 :: _) rfl rfl ?_
          refine E_callL (p' := 7) (L0 := [some (aI a3), some (aI 0), some (aI 23)]) rfl rfl rfl ?_
          refine E_s (p' := 1) rfl rfl ?_
          refine E_s (p' := 2) (st' := aI 0 :: _) rfl rfl ?_
          refine E_icmp_lt (y := 0) rfl (by decide) (fun q => absurd q (by omega)) (fun _ => ?_)
          refine E_s (p' := 6) rfl rfl ?_
          refine E_s (p' := 7) (st' := aI 23 :: _) rfl rfl ?_
          refine E_icmp_gt (y := 23) rfl (by decide) (fun _ => ?_) (fun q => absurd q (by omega))
          refine E_s (p' := 15) (st' := aI 0 :: _) rfl rfl ?_
          refine E_ret rfl rfl ?_
          refine E_s (p' := 26) rfl rfl ?_
          refine E_s (p' := 27) (st' := aI 0 :: _) rfl rfl ?_
          refine E_ret rfl rfl ?_
          refine E_s (p' := 26) rfl rfl ?_
          refine E_s (p' := 28) (st' := aI (-2) :: _) rfl rfl ?_
          refine E_ret rfl rfl ?_
          refine E_s (p' := 1174) rfl rfl ?_
          refine E_s (p' := 1177) (L' := [some (aA 0), some (aA 1), some (aA 124), some (aI 6)]) rfl rfl ?_
          refine E_s (p' := 18) rfl rfl ?_
          refine E_s (p' := 19) (st' := aI 6 :: _) rfl rfl ?_
          refine E_s (p' := 20) (st' := aA 0 :: _) rfl rfl ?_
          refine E_s (p' := 21) (st' := aI 6 :: _) rfl rfl ?_
          refine E_s (p' := 23) (st' := aI 6 :: _) rfl rfl ?_
          refine E_s (p' := 24) (st' := aI 0 :: _) rfl rfl ?_
          refine E_s (p' := 1180) rfl rfl ?_
          refine E_s (p' := 1181) (st' := aI 1 :: _) rfl rfl ?_
          exact E_ret rfl rfl ⟨rfl, rfl⟩
        · refine E_s (p' := 11) rfl rfl ?_
          refine E_s (p' := 13) (st' := aI 10 :: _) rfl rfl ?_
          refine E_icmp_lt (y := 10) rfl (by decide) (fun _ => ?_) (fun _ => ?_)
          · refine E_s (p' := 28) (st' := aI 0 :: _) rfl rfl ?_
            refine E_ret rfl rfl ?_
            refine E_s (p' := 31) rfl rfl ?_
            refine E_s (p' := 33) (st' := aI (-2) :: _) rfl rfl ?_
            refine E_ret rfl rfl ?_
            refine E_s (p' := 185) (st' := aA 124 :: _) rfl rfl ?_
            refine E_s (p' := 186) (st' := aA 0 :: _) rfl rfl ?_
            refine E_s (p' := 187) (st' := aI 0 :: _) rfl rfl ?_
            refine E_s (p' := 188) (st' := aI 1 :: _) rfl rfl ?_
            refine E_s (p' := 189) (st' := aI 1 :: _) rfl rfl ?_
            refine E_scr rfl rfl h1 ?_
            refine E_s (p' := 191) (st' := aA 0 :: _) rfl rfl ?_
            refine E_s (p' := 192) (st' := aI 0 :: _) rfl rfl ?_
            refine E_s (p' := 193) (st' := aI 2 :: _) rfl rfl ?_
            refine E_s (p' := 194) (st' := aI 2 :: _) rfl rfl ?_
            refine E_scr rfl rfl h2 ?_
            refine E_s (p' := 196) (st' := aA 0 :: _) rfl rfl ?_
            refine E_s (p' := 197) (st' := aI 0 :: _) rfl rfl ?_
            refine E_s (p' := 198) (st' := aI 3 :: _) rfl rfl ?_
            refine E_s (p' := 199) (st' := aI 3 :: _) rfl rfl ?_
            refine E_scr rfl rfl h3 ?_
            refine E_s (p' := 201) (st' := aA 0 :: _) rfl rfl ?_
            refine E_s (p' := 202) (st' := aI 0 :: _) rfl rfl ?_
            refine E_s (p' := 203) (st' := aI 4 :: _) rfl rfl ?_
            refine E_s (p' := 204) (st' := aI 4 :: _) rfl rfl ?_
            refine E_scr rfl rfl h4 ?_
            refine E_callL (p' := 208) (L0 := [some (aA 124), some (aI 0), some (aI a2), some (aI a3), some (aI a4)]) rfl rfl rfl ?_
            refine E_s (p' := 1) (st' := aI 0 :: _) rfl rfl ?_
            refine E_callL (p' := 4) (L0 := [some (aI 0)]) rfl rfl rfl ?_
            refine E_s (p' := 1) (st' := aI 0 :: _) rfl rfl ?_
            refine E_s (p' := 2) (st' := aI 0 :: _) rfl rfl ?_
            refine E_s (p' := 3) (st' := aI 3 :: _) rfl rfl ?_
            refine E_callL (p' := 6) (L0 := [some (aI 0), some (aI 0), some (aI 3)]) rfl rfl rfl ?_
            refine E_s (p' := 1) (st' := aI 0 :: _) rfl rfl ?_
            refine E_s (p' := 2) (st' := aI 0 :: _) rfl rfl ?_
            refine E_s (p' := 5) rfl rfl ?_
            refine E_s (p' := 6) (st' := aI 0 :: _) rfl rfl ?_
            refine E_s (p' := 7) (st' := aI 3 :: _) rfl rfl ?_
            refine E_s (p' := 10) rfl rfl ?_
            refine E_s (p' := 11) (st' := aI 1 :: _) rfl rfl ?_
            refine E_s (p' := 15) rfl rfl ?_
            refine E_ret rfl rfl ?_
            refine E_ret rfl rfl ?_
            refine E_s (p' := 7) rfl rfl ?_
            refine E_s (p' := 8) rfl rfl ?_
            refine E_s (p' := 9) (st' := aI 0 :: _) rfl rfl ?_
            refine E_s (p' := 11) (st' := aI 11 :: _) rfl rfl ?_
            refine E_callL (p' := 14) (L0 := [some (aI a2), some (aI 0), some (aI 11)]) rfl rfl rfl ?_
            refine E_s (p' := 1) rfl rfl ?_
            refine E_s (p' := 2) (st' := aI 0 :: _) rfl rfl ?_
            refine E_icmp_lt (y := 0) rfl (by decide) (fun q => absurd q (by omega)) (fun _ => ?_)
            refine E_s (p' := 6) rfl rfl ?_
            refine E_s (p' := 7) (st' := aI 11 :: _) rfl rfl ?_
            refine E_icmp_gt (y := 11) rfl (by decide) (fun q => absurd q (by omega)) (fun _ => ?_)
            refine E_s (p' := 11) (st' := aI 1 :: _) rfl rfl ?_
            refine E_s (p' := 15) rfl rfl ?_
            refine E_ret rfl rfl ?_
            refine E_s (p' := 17) rfl rfl ?_
            refine E_s (p' := 18) rfl rfl ?_
            refine E_s (p' := 20) rfl rfl ?_
            refine E_callL (p' := 23) (L0 := [some (aI a3), some (aI a4)]) rfl rfl rfl ?_
            refine E_s (p' := 1) rfl rfl ?_
            refine E_s (p' := 2) (st' := aI 0 :: _) rfl rfl ?_
            refine E_s (p' := 4) (st' := aI 23 :: _) rfl rfl ?_
            refine E_callL (p' := 7) (L0 := [some (aI a3), some (aI 0), some (aI 23)]) rfl rfl rfl ?_
            refine E_s (p' := 1) rfl rfl ?_
            refine E_s (p' := 2) (st' := aI 0 :: _) rfl rfl ?_
            refine E_icmp_lt (y := 0) rfl (by decide) (fun q => absurd q (by omega)) (fun _ => ?_)
            refine E_s (p' := 6) rfl rfl ?_
            refine E_s (p' := 7) (st' := aI 23 :: _) rfl rfl ?_
            refine E_icmp_gt (y := 23) rfl (by decide) (fun q => absurd q (by omega)) (fun _ => ?_)
            refine E_s (p' := 11) (st' := aI 1 :: _) rfl rfl ?_
            refine E_s (p' := 15) rfl rfl ?_
            refine E_ret rfl rfl ?_
            refine E_s (p' := 10) rfl rfl ?_
            refine E_s (p' := 11) rfl rfl ?_
            refine E_s (p' := 13) (st' := aI 10 :: _) rfl rfl ?_
            refine E_s (p' := 16) (st' := aI 600 :: _) rfl rfl ?_
            refine E_callL (p' := 19) (L0 := [some (aI a4), some (aI 10), some (aI 600)]) rfl rfl rfl ?_
            refine E_s (p' := 1) rfl rfl ?_
            refine E_s (p' := 2) (st' := aI 10 :: _) rfl rfl ?_
            refine E_icmp_lt (y := 10) rfl (by decide) (fun _ => ?_) (fun q => absurd q (by omega))
            refine E_s (p' := 15) (st' := aI 0 :: _) rfl rfl ?_
            refine E_ret rfl rfl ?_
            refine E_s (p' := 26) rfl rfl ?_
            refine E_s (p' := 27) (st' := aI 0 :: _) rfl rfl ?_
            refine E_ret rfl rfl ?_
            refine E_s (p' := 26) rfl rfl ?_
            refine E_s (p' := 28) (st' := aI (-2) :: _) rfl rfl ?_
            refine E_ret rfl rfl ?_
            refine E_s (p' := 1174) rfl rfl ?_
            refine E_s (p' := 1177) (L' := [some (aA 0), some (aA 1), some (aA 124), some (aI 6)]) rfl rfl ?_
            refine E_s (p' := 18) rfl rfl ?_
            refine E_s (p' := 19) (st' := aI 6 :: _) rfl rfl ?_
            refine E_s (p' := 20) (st' := aA 0 :: _) rfl rfl ?_
            refine E_s (p' := 21) (st' := aI 6 :: _) rfl rfl ?_
            refine E_s (p' := 23) (st' := aI 6 :: _) rfl rfl ?_
            refine E_s (p' := 24) (st' := aI 0 :: _) rfl rfl ?_
            refine E_s (p' := 1180) rfl rfl ?_
            refine E_s (p' := 1181) (st' := aI 1 :: _) rfl rfl ?_
            exact E_ret rfl rfl ⟨rfl, rfl⟩
          · refine E_s (p' := 17) rfl rfl ?_
            refine E_s (p' := 20) (st' := aI 600 :: _) rfl rfl ?_
            refine E_icmp_gt (y := 600) rfl (by decide) (fun _ => ?_) (fun _ => ?_)
            · refine E_s (p' := 28) (st' := aI 0 :: _) rfl rfl ?_
              refine E_ret rfl rfl ?_
              refine E_s (p' := 31) rfl rfl ?_
              refine E_s (p' := 33) (st' := aI (-2) :: _) rfl rfl ?_
              refine E_ret rfl rfl ?_
              refine E_s (p' := 185) (st' := aA 124 :: _) rfl rfl ?_
              refine E_s (p' := 186) (st' := aA 0 :: _) rfl rfl ?_
              refine E_s (p' := 187) (st' := aI 0 :: _) rfl rfl ?_
              refine E_s (p' := 188) (st' := aI 1 :: _) rfl rfl ?_
              refine E_s (p' := 189) (st' := aI 1 :: _) rfl rfl ?_
              refine E_scr rfl rfl h1 ?_
              refine E_s (p' := 191) (st' := aA 0 :: _) rfl rfl ?_
              refine E_s (p' := 192) (st' := aI 0 :: _) rfl rfl ?_
              refine E_s (p' := 193) (st' := aI 2 :: _) rfl rfl ?_
              refine E_s (p' := 194) (st' := aI 2 :: _) rfl rfl ?_
              refine E_scr rfl rfl h2 ?_
              refine E_s (p' := 196) (st' := aA 0 :: _) rfl rfl ?_
              refine E_s (p' := 197) (st' := aI 0 :: _) rfl rfl ?_
              refine E_s (p' := 198) (st' := aI 3 :: _) rfl rfl ?_
              refine E_s (p' := 199) (st' := aI 3 :: _) rfl rfl ?_
              refine E_scr rfl rfl h3 ?_
              refine E_s (p' := 201) (st' := aA 0 :: _) rfl rfl ?_
              refine E_s (p' := 202) (st' := aI 0 :: _) rfl rfl ?_
              refine E_s (p' := 203) (st' := aI 4 :: _) rfl rfl ?_
              refine E_s (p' := 204) (st' := aI 4 :: _) rfl rfl ?_
              refine E_scr rfl rfl h4 ?_
              refine E_callL (p' := 208) (L0 := [some (aA 124), some (aI 0), some (aI a2), some (aI a3), some (aI a4)]) rfl rfl rfl ?_
              refine E_s (p' := 1) (st' := aI 0 :: _) rfl rfl ?_
              refine E_callL (p' := 4) (L0 := [some (aI 0)]) rfl rfl rfl ?_
              refine E_s (p' := 1) (st' := aI 0 :: _) rfl rfl ?_
              refine E_s (p' := 2) (st' := aI 0 :: _) rfl rfl ?_
              refine E_s (p' := 3) (st' := aI 3 :: _) rfl rfl ?_
              refine E_callL (p' := 6) (L0 := [some (aI 0), some (aI 0), some (aI 3)]) rfl rfl rfl ?_
              refine E_s (p' := 1) (st' := aI 0 :: _) rfl rfl ?_
              refine E_s (p' := 2) (st' := aI 0 :: _) rfl rfl ?_
              refine E_s (p' := 5) rfl rfl ?_
              refine E_s (p' := 6) (st' := aI 0 :: _) rfl rfl ?_
              refine E_s (p' := 7) (st' := aI 3 :: _) rfl rfl ?_
              refine E_s (p' := 10) rfl rfl ?_
              refine E_s (p' := 11) (st' := aI 1 :: _) rfl rfl ?_
              refine E_s (p' := 15) rfl rfl ?_
              refine E_ret rfl rfl ?_
              refine E_ret rfl rfl ?_
              refine E_s (p' := 7) rfl rfl ?_
              refine E_s (p' := 8) rfl rfl ?_
              refine E_s (p' := 9) (st' := aI 0 :: _) rfl rfl ?_
              refine E_s (p' := 11) (st' := aI 11 :: _) rfl rfl ?_
              refine E_callL (p' := 14) (L0 := [some (aI a2), some (aI 0), some (aI 11)]) rfl rfl rfl ?_
              refine E_s (p' := 1) rfl rfl ?_
              refine E_s (p' := 2) (st' := aI 0 :: _) rfl rfl ?_
              refine E_icmp_lt (y := 0) rfl (by decide) (fun q => absurd q (by omega)) (fun _ => ?_)
              refine E_s (p' := 6) rfl rfl ?_
              refine E_s (p' := 7) (st' := aI 11 :: _) rfl rfl ?_
              refine E_icmp_gt (y := 11) rfl (by decide) (fun q => absurd q (by omega)) (fun _ => ?_)
              refine E_s (p' := 11) (st' := aI 1 :: _) rfl rfl ?_
              refine E_s (p' := 15) rfl rfl ?_
              refine E_ret rfl rfl ?_
              refine E_s (p' := 17) rfl rfl ?_
              refine E_s (p' := 18) rfl rfl ?_
              refine E_s (p' := 20) rfl rfl ?_
              refine E_callL (p' := 23) (L0 := [some (aI a3), some (aI a4)]) rfl rfl rfl ?_
              refine E_s (p' := 1) rfl rfl ?_
              refine E_s (p' := 2) (st' := aI 0 :: _) rfl rfl ?_
              refine E_s (p' := 4) (st' := aI 23 :: _) rfl rfl ?_
              refine E_callL (p' := 7) (L0 := [some (aI a3), some (aI 0), some (aI 23)]) rfl rfl rfl ?_
              refine E_s (p' := 1) rfl rfl ?_
              refine E_s (p' := 2) (st' := aI 0 :: _) rfl rfl ?_
              refine E_icmp_lt (y := 0) rfl (by decide) (fun q => absurd q (by omega)) (fun _ => ?_)
              refine E_s (p' := 6) rfl rfl ?_
              refine E_s (p' := 7) (st' := aI 23 :: _) rfl rfl ?_
              refine E_icmp_gt (y := 23) rfl (by decide) (fun q => absurd q (by omega)) (fun _ => ?_)
              refine E_s (p' := 11) (st' := aI 1 :: _) rfl rfl ?_
              refine E_s (p' := 15) rfl rfl ?_
              refine E_ret rfl rfl ?_
              refine E_s (p' := 10) rfl rfl ?_
              refine E_s (p' := 11) rfl rfl ?_
              refine E_s (p' := 13) (st' := aI 10 :: _) rfl rfl ?_
              refine E_s (p' := 16) (st' := aI 600 :: _) rfl rfl ?_
              refine E_callL (p' := 19) (L0 := [some (aI a4), some (aI 10), some (aI 600)]) rfl rfl rfl ?_
              refine E_s (p' := 1) rfl rfl ?_
              refine E_s (p' := 2) (st' := aI 10 :: _) rfl rfl ?_
              refine E_icmp_lt (y := 10) rfl (by decide) (fun q => absurd q (by omega)) (fun _ => ?_)
              refine E_s (p' := 6) rfl rfl ?_
              refine E_s (p' := 7) (st' := aI 600 :: _) rfl rfl ?_
              refine E_icmp_gt (y := 600) rfl (by decide) (fun _ => ?_) (fun q => absurd q (by omega))
              refine E_s (p' := 15) (st' := aI 0 :: _) rfl rfl ?_
              refine E_ret rfl rfl ?_
              refine E_s (p' := 26) rfl rfl ?_
              refine E_s (p' := 27) (st' := aI 0 :: _) rfl rfl ?_
              refine E_ret rfl rfl ?_
              refine E_s (p' := 26) rfl rfl ?_
              refine E_s (p' := 28) (st' := aI (-2) :: _) rfl rfl ?_
              refine E_ret rfl rfl ?_
              refine E_s (p' := 1174) rfl rfl ?_
              refine E_s (p' := 1177) (L' := [some (aA 0), some (aA 1), some (aA 124), some (aI 6)]) rfl rfl ?_
              refine E_s (p' := 18) rfl rfl ?_
              refine E_s (p' := 19) (st' := aI 6 :: _) rfl rfl ?_
              refine E_s (p' := 20) (st' := aA 0 :: _) rfl rfl ?_
              refine E_s (p' := 21) (st' := aI 6 :: _) rfl rfl ?_
              refine E_s (p' := 23) (st' := aI 6 :: _) rfl rfl ?_
              refine E_s (p' := 24) (st' := aI 0 :: _) rfl rfl ?_
              refine E_s (p' := 1180) rfl rfl ?_
              refine E_s (p' := 1181) (st' := aI 1 :: _) rfl rfl ?_
              exact E_ret rfl rfl ⟨rfl, rfl⟩
            · refine E_s (p' := 24) (st' := aI 1 :: _) rfl rfl ?_
              refine E_s (p' := 28) rfl rfl ?_
              refine E_ret rfl rfl ?_
              refine E_s (p' := 34) rfl rfl ?_
              refine E_s (p' := 36) (st' := aA 20 :: _) rfl rfl ?_
              refine E_s (p' := 37) rfl rfl ?_
              refine E_s (p' := 38) (st' := aI (-1) :: _) rfl rfl ?_
              refine E_s (p' := 39) rfl rfl ?_
              refine E_s (p' := 41) rfl rfl ?_
              refine E_callL (p' := 44) (L0 := [some (aA 20), some (aI a2), some (aI (-1)), some (aI a3), some (aI a4), none]) rfl rfl rfl ?_
              refine E_s (p' := 1) (st' := aA 20 :: _) rfl rfl ?_
              refine E_s (p' := 4) (st' := aA 21 :: _) rfl rfl ?_
              refine E_s (p' := 7) (st' := aI 0 :: _) rfl rfl ?_
              refine E_s (p' := 9) (L' := [some (aA 20), some (aI a2), some (aI (-1)), some (aI a3), some (aI a4), some (aI 0)]) rfl rfl ?_
              refine E_s (p' := 11) (st' := aI 0 :: _) rfl rfl ?_
              refine E_s (p' := 13) (st' := aI 60 :: _) rfl rfl ?_
              refine E_s (p' := 19) rfl rfl ?_
              refine E_s (p' := 20) (st' := aA 20 :: _) rfl rfl ?_
              refine E_s (p' := 23) (st' := aA 21 :: _) rfl rfl ?_
              refine E_s (p' := 26) (st' := aA 22 :: _) rfl rfl ?_
              refine E_s (p' := 28) (st' := aI 0 :: _) rfl rfl ?_
              refine E_s (p' := 29) rfl rfl ?_
              refine E_stM (p' := 30) (m' := up2 _ 22 0 a2) rfl rfl ?_
              refine E_s (p' := 31) (st' := aA 20 :: _) rfl rfl ?_
              refine E_s (p' := 34) (st' := aA 21 :: _) rfl rfl ?_
              refine E_s (p' := 37) (st' := aA 23 :: _) rfl rfl ?_
              refine E_s (p' := 39) (st' := aI 0 :: _) rfl rfl ?_
              refine E_s (p' := 40) (st' := aI (-1) :: _) rfl rfl ?_
              refine E_stM (p' := 41) (m' := up2 _ 23 0 (-1)) rfl rfl ?_
              refine E_s (p' := 42) (st' := aA 20 :: _) rfl rfl ?_
              refine E_s (p' := 45) (st' := aA 21 :: _) rfl rfl ?_
              refine E_s (p' := 48) (st' := aA 24 :: _) rfl rfl ?_
              refine E_s (p' := 50) (st' := aI 0 :: _) rfl rfl ?_
              refine E_s (p' := 51) rfl rfl ?_
              refine E_stM (p' := 52) (m' := up2 _ 24 0 a3) rfl rfl ?_
              refine E_s (p' := 53) (st' := aA 20 :: _) rfl rfl ?_
              refine E_s (p' := 56) (st' := aA 21 :: _) rfl rfl ?_
              refine E_s (p' := 59) (st' := aA 25 :: _) rfl rfl ?_
              refine E_s (p' := 61) (st' := aI 0 :: _) rfl rfl ?_
              refine E_s (p' := 63) rfl rfl ?_
              refine E_stM (p' := 64) (m' := up2 _ 25 0 a4) rfl rfl ?_
              refine E_s (p' := 65) (st' := aA 20 :: _) rfl rfl ?_
              refine E_s (p' := 68) (st' := aA 21 :: _) rfl rfl ?_
              refine E_s (p' := 71) (st' := aA 26 :: _) rfl rfl ?_
              refine E_s (p' := 73) (st' := aI 0 :: _) rfl rfl ?_
              refine E_s (p' := 74) (st' := aI 0 :: _) rfl rfl ?_
              refine E_stM (p' := 75) (m' := up2 _ 26 0 0) rfl rfl ?_
              refine E_s (p' := 76) (st' := aA 20 :: _) rfl rfl ?_
              refine E_s (p' := 79) (st' := aA 21 :: _) rfl rfl ?_
              refine E_s (p' := 82) (st' := aA 27 :: _) rfl rfl ?_
              refine E_s (p' := 84) (st' := aI 0 :: _) rfl rfl ?_
              refine E_s (p' := 85) (st' := aI 0 :: _) rfl rfl ?_
              refine E_stM (p' := 86) (m' := up2 _ 27 0 0) rfl rfl ?_
              refine E_s (p' := 87) (st' := aA 20 :: _) rfl rfl ?_
              refine E_s (p' := 90) (st' := aA 21 :: _) rfl rfl ?_
              refine E_s (p' := 91) (st' := aA 21 :: _) rfl rfl ?_
              refine E_s (p' := 94) (st' := aI 0 :: _) rfl rfl ?_
              refine E_s (p' := 95) (st' := aI 1 :: _) rfl rfl ?_
              refine E_s (p' := 96) (st' := aI 1 :: _) rfl rfl ?_
              refine E_stM (p' := 99) (m' := up2 _ 21 7 1) rfl rfl ?_
              refine E_s (p' := 100) (st' := aA 20 :: _) rfl rfl ?_
              refine E_callL (p' := 103) (L0 := [some (aA 20)]) rfl rfl rfl ?_
              refine E_s (p' := 1) (st' := aA 20 :: _) rfl rfl ?_
              refine E_s (p' := 2) (st' := aI 0 :: _) rfl rfl ?_
              refine E_stM (p' := 5) (m' := up2 _ 20 7 0) rfl rfl ?_
              refine E_s (p' := 6) (st' := aA 20 :: _) rfl rfl ?_
              refine E_s (p' := 7) (st' := aI 0 :: _) rfl rfl ?_
              refine E_stM (p' := 10) (m' := up2 _ 20 6 0) rfl rfl ?_
              refine E_ret rfl rfl ?_
              refine E_s (p' := 105) (st' := aI 0 :: _) rfl rfl ?_
              refine E_ret rfl rfl ?_
              refine E_ret rfl rfl ?_
              refine E_s (p' := 185) (st' := aA 124 :: _) rfl rfl ?_
              refine E_s (p' := 186) (st' := aA 0 :: _) rfl rfl ?_
              refine E_s (p' := 187) (st' := aI 0 :: _) rfl rfl ?_
              refine E_s (p' := 188) (st' := aI 1 :: _) rfl rfl ?_
              refine E_s (p' := 189) (st' := aI 1 :: _) rfl rfl ?_
              refine E_scr rfl rfl h1 ?_
              refine E_s (p' := 191) (st' := aA 0 :: _) rfl rfl ?_
              refine E_s (p' := 192) (st' := aI 0 :: _) rfl rfl ?_
              refine E_s (p' := 193) (st' := aI 2 :: _) rfl rfl ?_
              refine E_s (p' := 194) (st' := aI 2 :: _) rfl rfl ?_
              refine E_scr rfl rfl h2 ?_
              refine E_s (p' := 196) (st' := aA 0 :: _) rfl rfl ?_
              refine E_s (p' := 197) (st' := aI 0 :: _) rfl rfl ?_
              refine E_s (p' := 198) (st' := aI 3 :: _) rfl rfl ?_
              refine E_s (p' := 199) (st' := aI 3 :: _) rfl rfl ?_
              refine E_scr rfl rfl h3 ?_
              refine E_s (p' := 201) (st' := aA 0 :: _) rfl rfl ?_
              refine E_s (p' := 202) (st' := aI 0 :: _) rfl rfl ?_
              refine E_s (p' := 203) (st' := aI 4 :: _) rfl rfl ?_
              refine E_s (p' := 204) (st' := aI 4 :: _) rfl rfl ?_
              refine E_scr rfl rfl h4 ?_
              refine E_callL (p' := 208) (L0 := [some (aA 124), some (aI 0), some (aI a2), some (aI a3), some (aI a4)]) rfl rfl rfl ?_
              refine E_s (p' := 1) (st' := aI 0 :: _) rfl rfl ?_
              refine E_callL (p' := 4) (L0 := [some (aI 0)]) rfl rfl rfl ?_
              refine E_s (p' := 1) (st' := aI 0 :: _) rfl rfl ?_
              refine E_s (p' := 2) (st' := aI 0 :: _) rfl rfl ?_
              refine E_s (p' := 3) (st' := aI 3 :: _) rfl rfl ?_
              refine E_callL (p' := 6) (L0 := [some (aI 0), some (aI 0), some (aI 3)]) rfl rfl rfl ?_
              refine E_s (p' := 1) (st' := aI 0 :: _) rfl rfl ?_
              refine E_s (p' := 2) (st' := aI 0 :: _) rfl rfl ?_
              refine E_s (p' := 5) rfl rfl ?_
              refine E_s (p' := 6) (st' := aI 0 :: _) rfl rfl ?_
              refine E_s (p' := 7) (st' := aI 3 :: _) rfl rfl ?_
              refine E_s (p' := 10) rfl rfl ?_
              refine E_s (p' := 11) (st' := aI 1 :: _) rfl rfl ?_
              refine E_s (p' := 15) rfl rfl ?_
              refine E_ret rfl rfl ?_
              refine E_ret rfl rfl ?_
              refine E_s (p' := 7) rfl rfl ?_
              refine E_s (p' := 8) rfl rfl ?_
              refine E_s (p' := 9) (st' := aI 0 :: _) rfl rfl ?_
              refine E_s (p' := 11) (st' := aI 11 :: _) rfl rfl ?_
              refine E_callL (p' := 14) (L0 := [some (aI a2), some (aI 0), some (aI 11)]) rfl rfl rfl ?_
              refine E_s (p' := 1) rfl rfl ?_
              refine E_s (p' := 2) (st' := aI 0 :: _) rfl rfl ?_
              refine E_icmp_lt (y := 0) rfl (by decide) (fun q => absurd q (by omega)) (fun _ => ?_)
              refine E_s (p' := 6) rfl rfl ?_
              refine E_s (p' := 7) (st' := aI 11 :: _) rfl rfl ?_
              refine E_icmp_gt (y := 11) rfl (by decide) (fun q => absurd q (by omega)) (fun _ => ?_)
              refine E_s (p' := 11) (st' := aI 1 :: _) rfl rfl ?_
              refine E_s (p' := 15) rfl rfl ?_
              refine E_ret rfl rfl ?_
              refine E_s (p' := 17) rfl rfl ?_
              refine E_s (p' := 18) rfl rfl ?_
              refine E_s (p' := 20) rfl rfl ?_
              refine E_callL (p' := 23) (L0 := [some (aI a3), some (aI a4)]) rfl rfl rfl ?_
              refine E_s (p' := 1) rfl rfl ?_
              refine E_s (p' := 2) (st' := aI 0 :: _) rfl rfl ?_
              refine E_s (p' := 4) (st' := aI 23 :: _) rfl rfl ?_
              refine E_callL (p' := 7) (L0 := [some (aI a3), some (aI 0), some (aI 23)]) rfl rfl rfl ?_
              refine E_s (p' := 1) rfl rfl ?_
              refine E_s (p' := 2) (st' := aI 0 :: _) rfl rfl ?_
              refine E_icmp_lt (y := 0) rfl (by decide) (fun q => absurd q (by omega)) (fun _ => ?_)
              refine E_s (p' := 6) rfl rfl ?_
              refine E_s (p' := 7) (st' := aI 23 :: _) rfl rfl ?_
              refine E_icmp_gt (y := 23) rfl (by decide) (fun q => absurd q (by omega)) (fun _ => ?_)
              refine E_s (p' := 11) (st' := aI 1 :: _) rfl rfl ?_
              refine E_s (p' := 15) rfl rfl ?_
              refine E_ret rfl rfl ?_
              refine E_s (p' := 10) rfl rfl ?_
              refine E_s (p' := 11) rfl rfl ?_
              refine E_s (p' := 13) (st' := aI 10 :: _) rfl rfl ?_
              refine E_s (p' := 16) (st' := aI 600 :: _) rfl rfl ?_
              refine E_callL (p' := 19) (L0 := [some (aI a4), some (aI 10), some (aI 600)]) rfl rfl rfl ?_
              refine E_s (p' := 1) rfl rfl ?_
              refine E_s (p' := 2) (st' := aI 10 :: _) rfl rfl ?_
              refine E_icmp_lt (y := 10) rfl (by decide) (fun q => absurd q (by omega)) (fun _ => ?_)
              refine E_s (p' := 6) rfl rfl ?_
              refine E_s (p' := 7) (st' := aI 600 :: _) rfl rfl ?_
              refine E_icmp_gt (y := 600) rfl (by decide) (fun q => absurd q (by omega)) (fun _ => ?_)
              refine E_s (p' := 11) (st' := aI 1 :: _) rfl rfl ?_
              refine E_s (p' := 15) rfl rfl ?_
              refine E_ret rfl rfl ?_
              refine E_s (p' := 22) rfl rfl ?_
              refine E_s (p' := 23) (st' := aI 1 :: _) rfl rfl ?_
              refine E_s (p' := 27) rfl rfl ?_
              refine E_ret rfl rfl ?_
              refine E_s (p' := 29) rfl rfl ?_
              refine E_s (p' := 30) (st' := aA 124 :: _) rfl rfl ?_
              refine E_s (p' := 33) (st' := aA 125 :: _) rfl rfl ?_
              refine E_s (p' := 34) (st' := aI 0 :: _) rfl rfl ?_
              refine E_s (p' := 35) (st' := aI 0 :: _) rfl rfl ?_
              refine E_s (p' := 37) (st' := aI 60 :: _) rfl rfl ?_
              refine E_s (p' := 45) rfl rfl ?_
              refine E_s (p' := 46) (st' := aA 124 :: _) rfl rfl ?_
              refine E_s (p' := 47) (st' := aI 0 :: _) rfl rfl ?_
              refine E_s (p' := 48) rfl rfl ?_
              refine E_s (p' := 49) (st' := aI (-1) :: _) rfl rfl ?_
              refine E_s (p' := 50) rfl rfl ?_
              refine E_s (p' := 52) rfl rfl ?_
              refine E_callL (p' := 55) (L0 := [some (aA 124), some (aI 0), some (aI a2), some (aI (-1)), some (aI a3), some (aI a4), none]) rfl rfl rfl ?_
              refine E_s (p' := 2) (st' := aI 60 :: _) rfl rfl ?_
              refine E_s (p' := 3) (st' := aI 0 :: _) rfl rfl ?_
              refine E_s (p' := 4) (st' := aI 0 :: _) rfl rfl ?_
              refine E_s (p' := 5) (st' := aA 124 :: _) rfl rfl ?_
              refine E_s (p' := 8) (st' := aA 125 :: _) rfl rfl ?_
              refine E_s (p' := 9) (st' := aI 0 :: _) rfl rfl ?_
              refine E_s (p' := 10) (st' := aI 0 :: _) rfl rfl ?_
              refine E_s (p' := 11) (st' := aI 0 :: _) rfl rfl ?_
              refine E_s (p' := 13) (L' := [some (aA 124), some (aI 0), some (aI a2), some (aI (-1)), some (aI a3), some (aI a4), some (aI 0)]) rfl rfl ?_
              refine E_s (p' := 14) (st' := aA 124 :: _) rfl rfl ?_
              refine E_s (p' := 17) (st' := aA 127 :: _) rfl rfl ?_
              refine E_s (p' := 19) (st' := aI 0 :: _) rfl rfl ?_
              refine E_s (p' := 20) rfl rfl ?_
              refine E_stM (p' := 21) (m' := up2 _ 127 0 a2) rfl rfl ?_
              refine E_s (p' := 22) (st' := aA 124 :: _) rfl rfl ?_
              refine E_s (p' := 25) (st' := aA 128 :: _) rfl rfl ?_
              refine E_s (p' := 27) (st' := aI 0 :: _) rfl rfl ?_
              refine E_s (p' := 28) (st' := aI (-1) :: _) rfl rfl ?_
              refine E_stM (p' := 29) (m' := up2 _ 128 0 (-1)) rfl rfl ?_
              refine E_s (p' := 30) (st' := aA 124 :: _) rfl rfl ?_
              refine E_s (p' := 33) (st' := aA 129 :: _) rfl rfl ?_
              refine E_s (p' := 35) (st' := aI 0 :: _) rfl rfl ?_
              refine E_s (p' := 37) rfl rfl ?_
              refine E_stM (p' := 38) (m' := up2 _ 129 0 a3) rfl rfl ?_
              refine E_s (p' := 39) (st' := aA 124 :: _) rfl rfl ?_
              refine E_s (p' := 42) (st' := aA 130 :: _) rfl rfl ?_
              refine E_s (p' := 44) (st' := aI 0 :: _) rfl rfl ?_
              refine E_s (p' := 46) rfl rfl ?_
              refine E_stM (p' := 47) (m' := up2 _ 130 0 a4) rfl rfl ?_
              refine E_s (p' := 48) (st' := aA 124 :: _) rfl rfl ?_
              refine E_s (p' := 51) (st' := aA 131 :: _) rfl rfl ?_
              refine E_s (p' := 53) (st' := aI 0 :: _) rfl rfl ?_
              refine E_s (p' := 54) (st' := aI (-1) :: _) rfl rfl ?_
              refine E_stM (p' := 55) (m' := up2 _ 131 0 (-1)) rfl rfl ?_
              refine E_s (p' := 56) (st' := aA 124 :: _) rfl rfl ?_
              refine E_s (p' := 59) (st' := aA 132 :: _) rfl rfl ?_
              refine E_s (p' := 61) (st' := aI 0 :: _) rfl rfl ?_
              refine E_s (p' := 62) (st' := aI 0 :: _) rfl rfl ?_
              refine E_stM (p' := 63) (m' := up2 _ 132 0 0) rfl rfl ?_
              refine E_s (p' := 64) (st' := aA 124 :: _) rfl rfl ?_
              refine E_s (p' := 67) (st' := aA 125 :: _) rfl rfl ?_
              refine E_s (p' := 68) (st' := aI 0 :: _) rfl rfl ?_
              refine E_s (p' := 69) (st' := aI 0 :: _) rfl rfl ?_
              refine E_s (p' := 70) (st' := aI 0 :: _) rfl rfl ?_
              refine E_s (p' := 71) (st' := aI 1 :: _) rfl rfl ?_
              refine E_s (p' := 72) (st' := aI 1 :: _) rfl rfl ?_
              refine E_stM (p' := 73) (m' := up2 _ 125 0 1) rfl rfl ?_
              refine E_s (p' := 74) (st' := aA 124 :: _) rfl rfl ?_
              refine E_s (p' := 75) (st' := aI 0 :: _) rfl rfl ?_
              refine E_callL (p' := 78) (L0 := [some (aA 124), some (aI 0)]) rfl rfl rfl ?_
              refine E_s (p' := 1) (st' := aA 124 :: _) rfl rfl ?_
              refine E_s (p' := 4) (st' := aA 140 :: _) rfl rfl ?_
              refine E_s (p' := 5) (st' := aI 0 :: _) rfl rfl ?_
              refine E_s (p' := 6) (st' := aI 0 :: _) rfl rfl ?_
              refine E_stM (p' := 7) (m' := up2 _ 140 0 0) rfl rfl ?_
              refine E_ret rfl rfl ?_
              refine E_s (p' := 79) (st' := aA 124 :: _) rfl rfl ?_
              refine E_s (p' := 82) (st' := aA 125 :: _) rfl rfl ?_
              refine E_s (p' := 83) (st' := aI 0 :: _) rfl rfl ?_
              refine E_s (p' := 84) (st' := aI 1 :: _) rfl rfl ?_
              refine E_s (p' := 85) (st' := aI 1 :: _) rfl rfl ?_
              refine E_s (p' := 86) (st' := aI 0 :: _) rfl rfl ?_
              refine E_ret rfl rfl ?_
              refine E_ret rfl rfl ?_
              refine E_s (p' := 1174) rfl rfl ?_
              refine E_s (p' := 1177) (L' := [some (aA 0), some (aA 1), some (aA 124), some (aI 6)]) rfl rfl ?_
              refine E_s (p' := 18) rfl rfl ?_
              refine E_s (p' := 19) (st' := aI 6 :: _) rfl rfl ?_
              refine E_s (p' := 20) (st' := aA 0 :: _) rfl rfl ?_
              refine E_s (p' := 21) (st' := aI 6 :: _) rfl rfl ?_
              refine E_s (p' := 23) (st' := aI 6 :: _) rfl rfl ?_
              refine E_s (p' := 24) (st' := aI 0 :: _) rfl rfl ?_
              refine E_s (p' := 1180) rfl rfl ?_
              refine E_s (p' := 1181) (st' := aI 1 :: _) rfl rfl ?_
              exact E_ret rfl rfl ⟨rfl, rfl⟩
set_option maxRecDepth 100000 in
set_option maxHeartbeats 40000000 in
theorem pc_0_1 (xs : Nat → Int) {z a2 a3 a4 a5 : Int} (hz : b32 (fun a b => a &&& b) z 31 = 0) (h0 : xs 0 = z) (h1 : xs 1 = 1) (h2 : xs 2 = a2) (h3 : xs 3 = a3) (h4 : xs 4 = a4) (h5 : xs 5 = a5) : E 0 18 LL [] (s0 xs 6) PQ := by
  refine E_s (p' := 19) (st' := aI 0 :: _) rfl rfl ?_
  refine E_s (p' := 20) (st' := aA 0 :: _) rfl rfl ?_
  refine E_s (p' := 21) (st' := aI 6 :: _) rfl rfl ?_
  refine E_s (p' := 23) (st' := aI 6 :: _) rfl rfl ?_
  refine E_s (p' := 24) (st' := aI 0 :: _) rfl rfl ?_
  refine E_s (p' := 27) rfl rfl ?_
  refine E_s (p' := 28) (st' := aA 0 :: _) rfl rfl ?_
  refine E_s (p' := 29) (st' := aI 0 :: _) rfl rfl ?_
  refine E_scr rfl rfl h0 ?_
  refine E_s (p' := 32) (st' := aI 31 :: _) rfl rfl ?_
  refine E_s (p' := 33) rfl rfl ?_
  refine E_val hz ?_
  refine E_s (p' := 160) rfl rfl ?_
  refine E_s (p' := 161) (st' := aA 1 :: _) rfl rfl ?_
  refine E_s (p' := 162) (st' := aA 0 :: _) rfl rfl ?_
  refine E_s (p' := 163) (st' := aI 0 :: _) rfl rfl ?_
  refine E_s (p' := 164) (st' := aI 1 :: _) rfl rfl ?_
  refine E_s (p' := 165) (st' := aI 1 :: _) rfl rfl ?_
  refine E_scr rfl rfl h1 ?_
  refine E_s (p' := 167) (st' := aA 0 :: _) rfl rfl ?_
  refine E_s (p' := 168) (st' := aI 0 :: _) rfl rfl ?_
  refine E_s (p' := 169) (st' := aI 2 :: _) rfl rfl ?_
  refine E_s (p' := 170) (st' := aI 2 :: _) rfl rfl ?_
  refine E_scr rfl rfl h2 ?_
  refine E_s (p' := 172) (st' := aA 0 :: _) rfl rfl ?_
  refine E_s (p' := 173) (st' := aI 0 :: _) rfl rfl ?_
  refine E_s (p' := 174) (st' := aI 3 :: _) rfl rfl ?_
  refine E_s (p' := 175) (st' := aI 3 :: _) rfl rfl ?_
  refine E_scr rfl rfl h3 ?_
  refine E_s (p' := 177) (st' := aA 0 :: _) rfl rfl ?_
  refine E_s (p' := 178) (st' := aI 0 :: _) rfl rfl ?_
  refine E_s (p' := 179) (st' := aI 4 :: _) rfl rfl ?_
  refine E_s (p' := 180) (st' := aI 4 :: _) rfl rfl ?_
  refine E_scr rfl rfl h4 ?_
  refine E_callL (p' := 184) (L0 := [some (aA 1), some (aI 1), some (aI a2), some (aI a3), some (aI a4), none]) rfl rfl rfl ?_
  refine E_s (p' := 1) (st' := aA 1 :: _) rfl rfl ?_
  refine E_s (p' := 2) (st' := aI 1 :: _) rfl rfl ?_
  refine E_callL (p' := 5) (L0 := [some (aA 1), some (aI 1)]) rfl rfl rfl ?_
  refine E_s (p' := 1) (st' := aI 1 :: _) rfl rfl ?_
  refine E_s (p' := 4) rfl rfl ?_
  refine E_s (p' := 5) (st' := aI 1 :: _) rfl rfl ?_
  refine E_s (p' := 6) (st' := aI 4 :: _) rfl rfl ?_
  refine E_s (p' := 9) rfl rfl ?_
  refine E_s (p' := 10) (st' := aA 1 :: _) rfl rfl ?_
  refine E_s (p' := 13) (st' := aA 2 :: _) rfl rfl ?_
  refine E_s (p' := 14) (st' := aI 1 :: _) rfl rfl ?_
  refine E_s (p' := 15) (st' := aA 46 :: _) rfl rfl ?_
  refine E_s (p' := 19) rfl rfl ?_
  refine E_ret rfl rfl ?_
  refine E_s (p' := 7) (L' := [some (aA 1), some (aI 1), some (aI a2), some (aI a3), some (aI a4), some (aA 46)]) rfl rfl ?_
  refine E_s (p' := 9) (st' := aA 46 :: _) rfl rfl ?_
  refine E_s (p' := 12) rfl rfl ?_
  refine E_s (p' := 13) rfl rfl ?_
  refine E_if_lt rfl (by decide) (fun _ => ?_) (fun _ => ?_)
  · refine E_s (p' := 33) (st' := aI (-2) :: _) rfl rfl ?_
    refine E_ret rfl rfl ?_
    refine E_s (p' := 185) (st' := aA 124 :: _) rfl rfl ?_
    refine E_s (p' := 186) (st' := aA 0 :: _) rfl rfl ?_
    refine E_s (p' := 187) (st' := aI 0 :: _) rfl rfl ?_
    refine E_s (p' := 188) (st' := aI 1 :: _) rfl rfl ?_
    refine E_s (p' := 189) (st' := aI 1 :: _) rfl rfl ?_
    refine E_scr rfl rfl h1 ?_
    refine E_s (p' := 191) (st' := aA 0 :: _) rfl rfl ?_
    refine E_s (p' := 192) (st' := aI 0 :: _) rfl rfl ?_
    refine E_s (p' := 193) (st' := aI 2 :: _) rfl rfl ?_
    refine E_s (p' := 194) (st' := aI 2 :: _) rfl rfl ?_
    refine E_scr rfl rfl h2 ?_
    refine E_s (p' := 196) (st' := aA 0 :: _) rfl rfl ?_
    refine E_s (p' := 197) (st' := aI 0 :: _) rfl rfl ?_
    refine E_s (p' := 198) (st' := aI 3 :: _) rfl rfl ?_
    refine E_s (p' := 199) (st' := aI 3 :: _) rfl rfl ?_
    refine E_scr rfl rfl h3 ?_
    refine E_s (p' := 201) (st' := aA 0 :: _) rfl rfl ?_
    refine E_s (p' := 202) (st' := aI 0 :: _) rfl rfl ?_
    refine E_s (p' := 203) (st' := aI 4 :: _) rfl rfl ?_
    refine E_s (p' := 204) (st' := aI 4 :: _) rfl rfl ?_
    refine E_scr rfl rfl h4 ?_
    refine E_callL (p' := 208) (L0 := [some (aA 124), some (aI 1), some (aI a2), some (aI a3), some (aI a4)]) rfl rfl rfl ?_
    refine E_s (p' := 1) (st' := aI 1 :: _) rfl rfl ?_
    refine E_callL (p' := 4) (L0 := [some (aI 1)]) rfl rfl rfl ?_
    refine E_s (p' := 1) (st' := aI 1 :: _) rfl rfl ?_
    refine E_s (p' := 2) (st' := aI 0 :: _) rfl rfl ?_
    refine E_s (p' := 3) (st' := aI 3 :: _) rfl rfl ?_
    refine E_callL (p' := 6) (L0 := [some (aI 1), some (aI 0), some (aI 3)]) rfl rfl rfl ?_
    refine E_s (p' := 1) (st' := aI 1 :: _) rfl rfl ?_
    refine E_s (p' := 2) (st' := aI 0 :: _) rfl rfl ?_
    refine E_s (p' := 5) rfl rfl ?_
    refine E_s (p' := 6) (st' := aI 1 :: _) rfl rfl ?_
    refine E_s (p' := 7) (st' := aI 3 :: _) rfl rfl ?_
    refine E_s (p' := 10) rfl rfl ?_
    refine E_s (p' := 11) (st' := aI 1 :: _) rfl rfl ?_
    refine E_s (p' := 15) rfl rfl ?_
    refine E_ret rfl rfl ?_
    refine E_ret rfl rfl ?_
    refine E_s (p' := 7) rfl rfl ?_
    refine E_s (p' := 8) rfl rfl ?_
    refine E_s (p' := 9) (st' := aI 0 :: _) rfl rfl ?_
    refine E_s (p' := 11) (st' := aI 11 :: _) rfl rfl ?_
    refine E_callL (p' := 14) (L0 := [some (aI a2), some (aI 0), some (aI 11)]) rfl rfl rfl ?_
    refine E_s (p' := 1) rfl rfl ?_
    refine E_s (p' := 2) (st' := aI 0 :: _) rfl rfl ?_
    refine E_icmp_lt (y := 0) rfl (by decide) (fun _ => ?_) (fun q => absurd q (by omega))
    refine E_s (p' := 15) (st' := aI 0 :: _) rfl rfl ?_
    refine E_ret rfl rfl ?_
    refine E_s (p' := 26) rfl rfl ?_
    refine E_s (p' := 28) (st' := aI (-2) :: _) rfl rfl ?_
    refine E_ret rfl rfl ?_
    refine E_s (p' := 1174) rfl rfl ?_
    refine E_s (p' := 1177) (L' := [some (aA 0), some (aA 1), some (aA 124), some (aI 6)]) rfl rfl ?_
    refine E_s (p' := 18) rfl rfl ?_
    refine E_s (p' := 19) (st' := aI 6 :: _) rfl rfl ?_
    refine E_s (p' := 20) (st' := aA 0 :: _) rfl rfl ?_
    refine E_s (p' := 21) (st' := aI 6 :: _) rfl rfl ?_
    refine E_s (p' := 23) (st' := aI 6 :: _) rfl rfl ?_
    refine E_s (p' := 24) (st' := aI 0 :: _) rfl rfl ?_
    refine E_s (p' := 1180) rfl rfl ?_
    refine E_s (p' := 1181) (st' := aI 1 :: _) rfl rfl ?_
    exact E_ret rfl rfl ⟨rfl, rfl⟩
  · refine E_s (p' := 17) rfl rfl ?_
    refine E_s (p' := 19) (st' := aI 12 :: _) rfl rfl ?_
    refine E_icmp_ge (y := 12) rfl (by decide) (fun _ => ?_) (fun _ => ?_)
    · refine E_s (p' := 33) (st' := aI (-2) :: _) rfl rfl ?_
      refine E_ret rfl rfl ?_
      refine E_s (p' := 185) (st' := aA 124 :: _) rfl rfl ?_
      refine E_s (p' := 186) (st' := aA 0 :: _) rfl rfl ?_
      refine E_s (p' := 187) (st' := aI 0 :: _) rfl rfl ?_
      refine E_s (p' := 188) (st' := aI 1 :: _) rfl rfl ?_
      refine E_s (p' := 189) (st' := aI 1 :: _) rfl rfl ?_
      refine E_scr rfl rfl h1 ?_
      refine E_s (p' := 191) (st' := aA 0 :: _) rfl rfl ?_
      refine E_s (p' := 192) (st' := aI 0 :: _) rfl rfl ?_
      refine E_s (p' := 193) (st' := aI 2 :: _) rfl rfl ?_
      refine E_s (p' := 194) (st' := aI 2 :: _) rfl rfl ?_
      refine E_scr rfl rfl h2 ?_
      refine E_s (p' := 196) (st' := aA 0 :: _) rfl rfl ?_
      refine E_s (p' := 197) (st' := aI 0 :: _) rfl rfl ?_
      refine E_s (p' := 198) (st' := aI 3 :: _) rfl rfl ?_
      refine E_s (p' := 199) (st' := aI 3 :: _) rfl rfl ?_
      refine E_scr rfl rfl h3 ?_
      refine E_s (p' := 201) (st' := aA 0 :: _) rfl rfl ?_
      refine E_s (p' := 202) (st' := aI 0 :: _) rfl rfl ?_
      refine E_s (p' := 203) (st' := aI 4 :: _) rfl rfl ?_
      refine E_s (p' := 204) (st' := aI 4 :: _) rfl rfl ?_
      refine E_scr rfl rfl h4 ?_
      refine E_callL (p' := 208) (L0 := [some (aA 124), some (aI 1), some (aI a2), some (aI a3), some (aI a4)]) rfl rfl rfl ?_
      refine E_s (p' := 1) (st' := aI 1 :: _) rfl rfl ?_
      refine E_callL (p' := 4) (L0 := [some (aI 1)]) rfl rfl rfl ?_
      refine E_s (p' := 1) (st' := aI 1 :: _) rfl rfl ?_
      refine E_s (p' := 2) (st' := aI 0 :: _) rfl rfl ?_
      refine E_s (p' := 3) (st' := aI 3 :: _) rfl rfl ?_
      refine E_callL (p' := 6) (L0 := [some (aI 1), some (aI 0), some (aI 3)]) rfl rfl rfl ?_
      refine E_s (p' := 1) (st' := aI 1 :: _) rfl rfl ?_
      refine E_s (p' := 2) (st' := aI 0 :: _) rfl rfl ?_
      refine E_s (p' := 5) rfl rfl ?_
      refine E_s (p' := 6) (st' := aI 1 :: _) rfl rfl ?_
      refine E_s (p' := 7) (st' := aI 3 :: _) rfl rfl ?_
      refine E_s (p' := 10) rfl rfl ?_
      refine E_s (p' := 11) (st' := aI 1 :: _) rfl rfl ?_
      refine E_s (p' := 15) rfl rfl ?_
      refine E_ret rfl rfl ?_
      refine E_ret rfl rfl ?_
      refine E_s (p' := 7) rfl rfl ?_
      refine E_s (p' := 8) rfl rfl ?_
      refine E_s (p' := 9) (st' := aI 0 :: _) rfl rfl ?_
      refine E_s (p' := 11) (st' := aI 11 :: _) rfl rfl ?_
      refine E_callL (p' := 14) (L0 := [some (aI a2), some (aI 0), some (aI 11)]) rfl rfl rfl ?_
      refine E_s (p' := 1) rfl rfl ?_
      refine E_s (p' := 2) (st' := aI 0 :: _) rfl rfl ?_
      refine E_icmp_lt (y := 0) rfl (by decide) (fun q => absurd q (by omega)) (fun _ => ?_)
      refine E_s (p' := 6) rfl rfl ?_
      refine E_s (p' := 7) (st' := aI 11 :: _) rfl rfl ?_
      refine E_icmp_gt (y := 11) rfl (by decide) (fun _ => ?_) (fun q => absurd q (by omega))
      refine E_s (p' := 15) (st' := aI 0 :: _) rfl rfl ?_
      refine E_ret rfl rfl ?_
      refine E_s (p' := 26) rfl rfl ?_
      refine E_s (p' := 28) (st' := aI (-2) :: _) rfl rfl ?_
      refine E_ret rfl rfl ?_
      refine E_s (p' := 1174) rfl rfl ?_
      refine E_s (p' := 1177) (L' := [some (aA 0), some (aA 1), some (aA 124), some (aI 6)]) rfl rfl ?_
      refine E_s (p' := 18) rfl rfl ?_
      refine E_s (p' := 19) (st' := aI 6 :: _) rfl rfl ?_
      refine E_s (p' := 20) (st' := aA 0 :: _) rfl rfl ?_
      refine E_s (p' := 21) (st' := aI 6 :: _) rfl rfl ?_
      refine E_s (p' := 23) (st' := aI 6 :: _) rfl rfl ?_
      refine E_s (p' := 24) (st' := aI 0 :: _) rfl rfl ?_
      refine E_s (p' := 1180) rfl rfl ?_
      refine E_s (p' := 1181) (st' := aI 1 :: _) rfl rfl ?_
      exact E_ret rfl rfl ⟨rfl, rfl⟩
    · refine E_s (p' := 23) rfl rfl ?_
      refine E_s (p' := 25) rfl rfl ?_
      refine E_callL (p' := 28) (L0 := [some (aI a3), some (aI a4)]) rfl rfl rfl ?_
      refine E_s (p' := 1) rfl rfl ?_
      refine E_if_lt rfl (by decide) (fun _ => ?_) (fun _ => ?_)
      · refine E_s (p' := 28) (st' := aI 0 :: _) rfl rfl ?_
        refine E_ret rfl rfl ?_
        refine E_s (p' := 31) rfl rfl ?_
        refine E_s (p' := 33) (st' := aI (-2) :: _) rfl rfl ?_
        refine E_ret rfl rfl ?_
        refine E_s (p' := 185) (st' := aA 124 :: _) rfl rfl ?_
        refine E_s (p' := 186) (st' := aA 0 :: _) rfl rfl ?_
        refine E_s (p' := 187) (st' := aI 0 :: _) rfl rfl ?_
        refine E_s (p' := 188) (st' := aI 1 :: _) rfl rfl ?_
        refine E_s (p' := 189) (st' := aI 1 :: _) rfl rfl ?_
        refine E_scr rfl rfl h1 ?_
        refine E_s (p' := 191) (st' := aA 0 :: _) rfl rfl ?_
        refine E_s (p' := 192) (st' := aI 0 :: _) rfl rfl ?_
        refine E_s (p' := 193) (st' := aI 2 :: _) rfl rfl ?_
        refine E_s (p' := 194) (st' := aI 2 :: _) rfl rfl ?_
        refine E_scr rfl rfl h2 ?_
        refine E_s (p' := 196) (st' := aA 0 :: _) rfl rfl ?_
        refine E_s (p' := 197) (st' := aI 0 :: _) rfl rfl ?_
        refine E_s (p' := 198) (st' := aI 3 :: _) rfl rfl ?_
        refine E_s (p' := 199) (st' := aI 3 :: _) rfl rfl ?_
        refine E_scr rfl rfl h3 ?_
        refine E_s (p' := 201) (st' := aA 0 :: _) rfl rfl ?_
        refine E_s (p' := 202) (st' := aI 0 :: _) rfl rfl ?_
        refine E_s (p' := 203) (st' := aI 4 :: _) rfl rfl ?_
        refine E_s (p' := 204) (st' := aI 4 :: _) rfl rfl ?_
        refine E_scr rfl rfl h4 ?_
        refine E_callL (p' := 208) (L0 := [some (aA 124), some (aI 1), some (aI a2), some (aI a3), some (aI a4)]) rfl rfl rfl ?_
        refine E_s (p' := 1) (st' := aI 1 :: _) rfl rfl ?_
        refine E_callL (p' := 4) (L0 := [some (aI 1)]) rfl rfl rfl ?_
        refine E_s (p' := 1) (st' := aI 1 :: _) rfl rfl ?_
        refine E_s (p' := 2) (st' := aI 0 :: _) rfl rfl ?_
        refine E_s (p' := 3) (st' := aI 3 :: _) rfl rfl ?_
        refine E_callL (p' := 6) (L0 := [some (aI 1), some (aI 0), some (aI 3)]) rfl rfl rfl ?_
        refine E_s (p' := 1) (st' := aI 1 :: _) rfl rfl ?_
        refine E_s (p' := 2) (st' := aI 0 :: _) rfl rfl ?_
        refine E_s (p' := 5) rfl rfl ?_
        refine E_s (p' := 6) (st' := aI 1 :: _) rfl rfl ?_
        refine E_s (p' := 7) (st' := aI 3 :: _) rfl rfl ?_
        refine E_s (p' := 10) rfl rfl ?_
        refine E_s (p' := 11) (st' := aI 1 :: _) rfl rfl ?_
        refine E_s (p' := 15) rfl rfl ?_
        refine E_ret rfl rfl ?_
        refine E_ret rfl rfl ?_
        refine E_s (p' := 7) rfl rfl ?_
        refine E_s (p' := 8) rfl rfl ?_
        refine E_s (p' := 9) (st' := aI 0 :: _) rfl rfl ?_
        refine E_s (p' := 11) (st' := aI 11 :: _) rfl rfl ?_
        refine E_callL (p' := 14) (L0 := [some (aI a2), some (aI 0), some (aI 11)]) rfl rfl rfl ?_
        refine E_s (p' := 1) rfl rfl ?_
        refine E_s (p' := 2) (st' := aI 0 :: _) rfl rfl ?_
        refine E_icmp_lt (y := 0) rfl (by decide) (fun q => absurd q (by omega)) (fun _ => ?_)
        refine E_s (p' := 6) rfl rfl ?_
        refine E_s (p' := 7) (st' := aI 11 :: _) rfl rfl ?_
        refine E_icmp_gt (y := 11) rfl (by decide) (fun q => absurd q (by omega)) (fun _ => ?_)
        refine E_s (p' := 11) (st' := aI 1 :: _) rfl rfl ?_
        refine E_s (p' := 15) rfl rfl ?_
        refine E_ret rfl rfl ?_
        refine E_s (p' := 17) rfl rfl ?_
        refine E_s (p' := 18) rfl rfl ?_
        refine E_s (p' := 20) rfl rfl ?_
        refine E_callL (p' := 23) (L0 := [some (aI a3), some (aI a4)]) rfl rfl rfl ?_
        refine E_s (p' := 1) rfl rfl ?_
        refine E_s (p' := 2) (st' := aI 0 :: _) rfl rfl ?_
        refine E_s (p' := 4) (st' := aI 23 :: _) rfl rfl ?_
        refine E_callL (p' := 7) (L0 := [some (aI a3), some (aI 0), some (aI 23)]) rfl rfl rfl ?_
        refine E_s (p' := 1) rfl rfl ?_
        refine E_s (p' := 2) (st' := aI 0 :: _) rfl rfl ?_
        refine E_icmp_lt (y := 0) rfl (by decide) (fun _ => ?_) (fun q => absurd q (by omega))
        refine E_s (p' := 15) (st' := aI 0 :: _) rfl rfl ?_
        refine E_ret rfl rfl ?_
        refine E_s (p' := 26) rfl rfl ?_
        refine E_s (p' := 27) (st' := aI 0 :: _) rfl rfl ?_
        refine E_ret rfl rfl ?_
        refine E_s (p' := 26) rfl rfl ?_
        refine E_s (p' := 28) (st' := aI (-2) :: _) rfl rfl ?_
        refine E_ret rfl rfl ?_
        refine E_s (p' := 1174) rfl rfl ?_
        refine E_s (p' := 1177) (L' := [some (aA 0), some (aA 1), some (aA 124), some (aI 6)]) rfl rfl ?_
        refine E_s (p' := 18) rfl rfl ?_
        refine E_s (p' := 19) (st' := aI 6 :: _) rfl rfl ?_
        refine E_s (p' := 20) (st' := aA 0 :: _) rfl rfl ?_
        refine E_s (p' := 21) (st' := aI 6 :: _) rfl rfl ?_
        refine E_s (p' := 23) (st' := aI 6 :: _) rfl rfl ?_
        refine E_s (p' := 24) (st' := aI 0 :: _) rfl rfl ?_
        refine E_s (p' := 1180) rfl rfl ?_
        refine E_s (p' := 1181) (st' := aI 1 :: _) rfl rfl ?_
        exact E_ret rfl rfl ⟨rfl, rfl⟩
      · refine E_s (p' := 5) rfl rfl ?_
        refine E_s (p' := 7) (st' := aI 24 :: _) rfl rfl ?_
        refine E_icmp_ge (y := 24) rfl (by decide) (fun _ => ?_) (fun _ => ?_)
        · refine E_s (p' := 28) (st' := aI 0 :: _) rfl rfl ?_
          refine E_ret rfl rfl ?_
          refine E_s (p' := 31) rfl rfl ?_
          refine E_s (p' := 33) (st' := aI (-2) :: _) rfl rfl ?_
          refine E_ret rfl rfl ?_
          refine E_s (p' := 185) (st' := aA 124 :: _) rfl rfl ?_
          refine E_s (p' := 186) (st' := aA 0 :: _) rfl rfl ?_
          refine E_s (p' := 187) (st' := aI 0 :: _) rfl rfl ?_
          refine E_s (p' := 188) (st' := aI 1 :: _) rfl rfl ?_
          refine E_s (p' := 189) (st' := aI 1 :: _) rfl rfl ?_
          refine E_scr rfl rfl h1 ?_
          refine E_s (p' := 191) (st' := aA 0 :: _) rfl rfl ?_
          refine E_s (p' := 192) (st' := aI 0 :: _) rfl rfl ?_
          refine E_s (p' := 193) (st' := aI 2 :: _) rfl rfl ?_
          refine E_s (p' := 194) (st' := aI 2 :: _) rfl rfl ?_
          refine E_scr rfl rfl h2 ?_
          refine E_s (p' := 196) (st' := aA 0 :: _) rfl rfl ?_
          refine E_s (p' := 197) (st' := aI 0 :: _) rfl rfl ?_
          refine E_s (p' := 198) (st' := aI 3 :: _) rfl rfl ?_
          refine E_s (p' := 199) (st' := aI 3 :: _) rfl rfl ?_
          refine E_scr rfl rfl h3 ?_
          refine E_s (p' := 201) (st' := aA 0 :: _) rfl rfl ?_
          refine E_s (p' := 202) (st' := aI 0 :: _) rfl rfl ?_
          refine E_s (p' := 203) (st' := aI 4 :: _) rfl rfl ?_
          refine E_s (p' := 204) (st' := aI 4 :: _) rfl rfl ?_
          refine E_scr rfl rfl h4 ?_
          refine E_callL (p' := 208) (L0 := [some (aA 124), some (aI 1), some (aI a2), some (aI a3), some (aI a4)]) rfl rfl rfl ?_
          refine E_s (p' := 1) (st' := aI 1 :: _) rfl rfl ?_
          refine E_callL (p' := 4) (L0 := [some (aI 1)]) rfl rfl rfl ?_
          refine E_s (p' := 1) (st' := aI 1 :: _) rfl rfl ?_
          refine E_s (p' := 2) (st' := aI 0 :: _) rfl rfl ?_
          refine E_s (p' := 3) (st' := aI 3 :: _) rfl rfl ?_
          refine E_callL (p' := 6) (L0 := [some (aI 1), some (aI 0), some (aI 3)]) rfl rfl rfl ?_
          refine E_s (p' := 1) (st' := aI 1 :: _) rfl rfl ?_
          refine E_s (p' := 2) (st' := aI 0 :: _) rfl rfl ?_
          refine E_s (p' := 5) rfl rfl ?_
          refine E_s (p' := 6) (st' := aI 1 :: _) rfl rfl ?_
          refine E_s (p' := 7) (st' := aI 3 :: _) rfl rfl ?_
          refine E_s (p' := 10) rfl rfl ?_
          refine E_s (p' := 11) (st' := aI 1 :: _) rfl rfl ?_
          refine E_s (p' := 15) rfl rfl ?_
          refine E_ret rfl rfl ?_
          refine E_ret rfl rfl ?_
          refine E_s (p' := 7) rfl rfl ?_
          refine E_s (p' := 8) rfl rfl ?_
          refine E_s (p' := 9) (st' := aI 0 :: _) rfl rfl ?_
          refine E_s (p' := 11) (st' := aI 11 :: _) rfl rfl ?_
          refine E_callL (p' := 14) (L0 := [some (aI a2), some (aI 0), some (aI 11)]) rfl rfl rfl ?_
          refine E_s (p' := 1) rfl rfl ?_
          refine E_s (p' := 2) (st' := aI 0 :: _) rfl rfl ?_
          refine E_icmp_lt (y := 0) rfl (by decide) (fun q => absurd q (by omega)) (fun _ => ?_)
          refine E_s (p' := 6) rfl rfl ?_
          refine E_s (p' := 7) (st' := aI 11 :: _) rfl rfl ?_
          refine E_icmp_gt (y := 11) rfl (by decide) (fun q => absurd q (by omega)) (fun _ => ?_)
          refine E_s (p' := 11) (st' := aI 1 :: _) rfl rfl ?_
          refine E_s (p' := 15) rfl rfl ?_
          refine E_ret rfl rfl ?_
          refine E_s (p' := 17) rfl rfl ?_
          refine E_s (p' := 18) rfl rfl ?_
          refine E_s (p' := 20) rfl rfl ?_
          refine E_callL (p' := 23) (L0 := [some (aI a3), some (aI a4)]) rfl rfl rfl ?_
          refine E_s (p' := 1) rfl rfl ?_
          refine E_s (p' := 2) (st' := aI 0 :: _) rfl rfl ?_
          refine E_s (p' := 4) (st' := aI 23 :: _) rfl rfl ?_
          refine E_callL (p' := 7) (L0 := [some (aI a3), some (aI 0), some (aI 23)]) rfl rfl rfl ?_
          refine E_s (p' := 1) rfl rfl ?_
          refine E_s (p' := 2) (st' := aI 0 :: _) rfl rfl ?_
          refine E_icmp_lt (y := 0) rfl (by decide) (fun q => absurd q (by omega)) (fun _ => ?_)
          refine E_s (p' := 6) rfl rfl ?_
          refine E_s (p' := 7) (st' := aI 23 :: _) rfl rfl ?_
          refine E_icmp_gt (y := 23) rfl (by decide) (fun _ => ?_) (fun q => absurd q (by omega))
          refine E_s (p' := 15) (st' := aI 0 :: _) rfl rfl ?_
          refine E_ret rfl rfl ?_
          refine E_s (p' := 26) rfl rfl ?_
          refine E_s (p' := 27) (st' := aI 0 :: _) rfl rfl ?_
          refine E_ret rfl rfl ?_
          refine E_s (p' := 26) rfl rfl ?_
          refine E_s (p' := 28) (st' := aI (-2) :: _) rfl rfl ?_
          refine E_ret rfl rfl ?_
          refine E_s (p' := 1174) rfl rfl ?_
          refine E_s (p' := 1177) (L' := [some (aA 0), some (aA 1), some (aA 124), some (aI 6)]) rfl rfl ?_
          refine E_s (p' := 18) rfl rfl ?_
          refine E_s (p' := 19) (st' := aI 6 :: _) rfl rfl ?_
          refine E_s (p' := 20) (st' := aA 0 :: _) rfl rfl ?_
          refine E_s (p' := 21) (st' := aI 6 :: _) rfl rfl ?_
          refine E_s (p' := 23) (st' := aI 6 :: _) rfl rfl ?_
          refine E_s (p' := 24) (st' := aI 0 :: _) rfl rfl ?_
          refine E_s (p' := 1180) rfl rfl ?_
          refine E_s (p' := 1181) (st' := aI 1 :: _) rfl rfl ?_
          exact E_ret rfl rfl ⟨rfl, rfl⟩
        · refine E_s (p' := 11) rfl rfl ?_
          refine E_s (p' := 13) (st' := aI 10 :: _) rfl rfl ?_
          refine E_icmp_lt (y := 10) rfl (by decide) (fun _ => ?_) (fun _ => ?_)
          · refine E_s (p' := 28) (st' := aI 0 :: _) rfl rfl ?_
            refine E_ret rfl rfl ?_
            refine E_s (p' := 31) rfl rfl ?_
            refine E_s (p' := 33) (st' := aI (-2) :: _) rfl rfl ?_
            refine E_ret rfl rfl ?_
            refine E_s (p' := 185) (st' := aA 124 :: _) rfl rfl ?_
            refine E_s (p' := 186) (st' := aA 0 :: _) rfl rfl ?_
            refine E_s (p' := 187) (st' := aI 0 :: _) rfl rfl ?_
            refine E_s (p' := 188) (st' := aI 1 :: _) rfl rfl ?_
            refine E_s (p' := 189) (st' := aI 1 :: _) rfl rfl ?_
            refine E_scr rfl rfl h1 ?_
            refine E_s (p' := 191) (st' := aA 0 :: _) rfl rfl ?_
            refine E_s (p' := 192) (st' := aI 0 :: _) rfl rfl ?_
            refine E_s (p' := 193) (st' := aI 2 :: _) rfl rfl ?_
            refine E_s (p' := 194) (st' := aI 2 :: _) rfl rfl ?_
            refine E_scr rfl rfl h2 ?_
            refine E_s (p' := 196) (st' := aA 0 :: _) rfl rfl ?_
            refine E_s (p' := 197) (st' := aI 0 :: _) rfl rfl ?_
            refine E_s (p' := 198) (st' := aI 3 :: _) rfl rfl ?_
            refine E_s (p' := 199) (st' := aI 3 :: _) rfl rfl ?_
            refine E_scr rfl rfl h3 ?_
            refine E_s (p' := 201) (st' := aA 0 :: _) rfl rfl ?_
            refine E_s (p' := 202) (st' := aI 0 :: _) rfl rfl ?_
            refine E_s (p' := 203) (st' := aI 4 :: _) rfl rfl ?_
            refine E_s (p' := 204) (st' := aI 4 :: _) rfl rfl ?_
            refine E_scr rfl rfl h4 ?_
            refine E_callL (p' := 208) (L0 := [some (aA 124), some (aI 1), some (aI a2), some (aI a3), some (aI a4)]) rfl rfl rfl ?_
            refine E_s (p' := 1) (st' := aI 1 :: _) rfl rfl ?_
            refine E_callL (p' := 4) (L0 := [some (aI 1)]) rfl rfl rfl ?_
            refine E_s (p' := 1) (st' := aI 1 :: _) rfl rfl ?_
            refine E_s (p' := 2) (st' := aI 0 :: _) rfl rfl ?_
            refine E_s (p' := 3) (st' := aI 3 :: _) rfl rfl ?_
            refine E_callL (p' := 6) (L0 := [some (aI 1), some (aI 0), some (aI 3)]) rfl rfl rfl ?_
            refine E_s (p' := 1) (st' := aI 1 :: _) rfl rfl ?_
            refine E_s (p' := 2) (st' := aI 0 :: _) rfl rfl ?_
            refine E_s (p' := 5) rfl rfl ?_
            refine E_s (p' := 6) (st' := aI 1 :: _) rfl rfl ?_
            refine E_s (p' := 7) (st' := aI 3 :: _) rfl rfl ?_
            refine E_s (p' := 10) rfl rfl ?_
            refine E_s (p' := 11) (st' := aI 1 :: _) rfl rfl ?_
            refine E_s (p' := 15) rfl rfl ?_
            refine E_ret rfl rfl ?_
            refine E_ret rfl rfl ?_
            refine E_s (p' := 7) rfl rfl ?_
            refine E_s (p' := 8) rfl rfl ?_
            refine E_s (p' := 9) (st' := aI 0 :: _) rfl rfl ?_
            refine E_s (p' := 11) (st' := aI 11 :: _) rfl rfl ?_
            refine E_callL (p' := 14) (L0 := [some (aI a2), some (aI 0), some (aI 11)]) rfl rfl rfl ?_
            refine E_s (p' := 1) rfl rfl ?_
            refine E_s (p' := 2) (st' := aI 0 :: _) rfl rfl ?_
            refine E_icmp_lt (y := 0) rfl (by decide) (fun q => absurd q (by omega)) (fun _ => ?_)
            refine E_s (p' := 6) rfl rfl ?_
            refine E_s (p' := 7) (st' := aI 11 :: _) rfl rfl ?_
            refine E_icmp_gt (y := 11) rfl (by decide) (fun q => absurd q (by omega)) (fun _ => ?_)
            refine E_s (p' := 11) (st' := aI 1 :: _) rfl rfl ?_
            refine E_s (p' := 15) rfl rfl ?_
            refine E_ret rfl rfl ?_
            refine E_s (p' := 17) rfl rfl ?_
            refine E_s (p' := 18) rfl rfl ?_
            refine E_s (p' := 20) rfl rfl ?_
            refine E_callL (p' := 23) (L0 := [some (aI a3), some (aI a4)]) rfl rfl rfl ?_
            refine E_s (p' := 1) rfl rfl ?_
            refine E_s (p' := 2) (st' := aI 0 :: _) rfl rfl ?_
            refine E_s (p' := 4) (st' := aI 23 :: _) rfl rfl ?_
            refine E_callL (p' := 7) (L0 := [some (aI a3), some (aI 0), some (aI 23)]) rfl rfl rfl ?_
            refine E_s (p' := 1) rfl rfl ?_
            refine E_s (p' := 2) (st' := aI 0 :: _) rfl rfl ?_
            refine E_icmp_lt (y := 0) rfl (by decide) (fun q => absurd q (by omega)) (fun _ => ?_)
            refine E_s (p' := 6) rfl rfl ?_
            refine E_s (p' := 7) (st' := aI 23 :: _) rfl rfl ?_
            refine E_icmp_gt (y := 23) rfl (by decide) (fun q => absurd q (by omega)) (fun _ => ?_)
            refine E_s (p' := 11) (st' := aI 1 :: _) rfl rfl ?_
            refine E_s (p' := 15) rfl rfl ?_
            refine E_ret rfl rfl ?_
            refine E_s (p' := 10) rfl rfl ?_
            refine E_s (p' := 11) rfl rfl ?_
            refine E_s (p' := 13) (st' := aI 10 :: _) rfl rfl ?_
            refine E_s (p' := 16) (st' := aI 600 :: _) rfl rfl ?_
            refine E_callL (p' := 19) (L0 := [some (aI a4), some (aI 10), some (aI 600)]) rfl rfl rfl ?_
            refine E_s (p' := 1) rfl rfl ?_
            refine E_s (p' := 2) (st' := aI 10 :: _) rfl rfl ?_
            refine E_icmp_lt (y := 10) rfl (by decide) (fun _ => ?_) (fun q => absurd q (by omega))
            refine E_s (p' := 15) (st' := aI 0 :: _) rfl rfl ?_
            refine E_ret rfl rfl ?_
            refine E_s (p' := 26) rfl rfl ?_
            refine E_s (p' := 27) (st' := aI 0 :: _) rfl rfl ?_
            refine E_ret rfl rfl ?_
            refine E_s (p' := 26) rfl rfl ?_
            refine E_s (p' := 28) (st' := aI (-2) :: _) rfl rfl ?_
            refine E_ret rfl rfl ?_
            refine E_s (p' := 1174) rfl rfl ?_
            refine E_s (p' := 1177) (L' := [some (aA 0), some (aA 1), some (aA 124), some (aI 6)]) rfl rfl ?_
            refine E_s (p' := 18) rfl rfl ?_
            refine E_s (p' := 19) (st' := aI 6 :: _) rfl rfl ?_
            refine E_s (p' := 20) (st' := aA 0 :: _) rfl rfl ?_
            refine E_s (p' := 21) (st' := aI 6 :: _) rfl rfl ?_
            refine E_s (p' := 23) (st' := aI 6 :: _) rfl rfl ?_
            refine E_s (p' := 24) (st' := aI 0 :: _) rfl rfl ?_
            refine E_s (p' := 1180) rfl rfl ?_
            refine E_s (p' := 1181) (st' := aI 1 :: _) rfl rfl ?_
            exact E_ret rfl rfl ⟨rfl, rfl⟩
          · refine E_s (p' := 17) rfl rfl ?_
            refine E_s (p' := 20) (st' := aI 600 :: _) rfl rfl ?_
            refine E_icmp_gt (y := 600) rfl (by decide) (fun _ => ?_) (fun _ => ?_)
            · refine E_s (p' := 28) (st' := aI 0 :: _) rfl rfl ?_
              refine E_ret rfl rfl ?_
              refine E_s (p' := 31) rfl rfl ?_
              refine E_s (p' := 33) (st' := aI (-2) :: _) rfl rfl ?_
              refine E_ret rfl rfl ?_
              refine E_s (p' := 185) (st' := aA 124 :: _) rfl rfl ?_
              refine E_s (p' := 186) (st' := aA 0 :: _) rfl rfl ?_
              refine E_s (p' := 187) (st' := aI 0 :: _) rfl rfl ?_
              refine E_s (p' := 188) (st' := aI 1 :: _) rfl rfl ?_
              refine E_s (p' := 189) (st' := aI 1 :: _) rfl rfl ?_
              refine E_scr rfl rfl h1 ?_
              refine E_s (p' := 191) (st' := aA 0 :: _) rfl rfl ?_
              refine E_s (p' := 192) (st' := aI 0 :: _) rfl rfl ?_
              refine E_s (p' := 193) (st' := aI 2 :: _) rfl rfl ?_
              refine E_s (p' := 194) (st' := aI 2 :: _) rfl rfl ?_
              refine E_scr rfl rfl h2 ?_
              refine E_s (p' := 196) (st' := aA 0 :: _) rfl rfl ?_
              refine E_s (p' := 197) (st' := aI 0 :: _) rfl rfl ?_
              refine E_s (p' := 198) (st' := aI 3 :: _) rfl rfl ?_
              refine E_s (p' := 199) (st' := aI 3 :: _) rfl rfl ?_
              refine E_scr rfl rfl h3 ?_
              refine E_s (p' := 201) (st' := aA 0 :: _) rfl rfl ?_
              refine E_s (p' := 202) (st' := aI 0 :: _) rfl rfl ?_
              refine E_s (p' := 203) (st' := aI 4 :: _) rfl rfl ?_
              refine E_s (p' := 204) (st' := aI 4 :: _) rfl rfl ?_
              refine E_scr rfl rfl h4 ?_
              refine E_callL (p' := 208) (L0 := [some (aA 124), some (aI 1), some (aI a2), some (aI a3), some (aI a4)]) rfl rfl rfl ?_
              refine E_s (p' := 1) (st' := aI 1 :: _) rfl rfl ?_
              refine E_callL (p' := 4) (L0 := [some (aI 1)]) rfl rfl rfl ?_
              refine E_s (p' := 1) (st' := aI 1 :: _) rfl rfl ?_
              refine E_s (p' := 2) (st' := aI 0 :: _) rfl rfl ?_
              refine E_s (p' := 3) (st' := aI 3 :: _) rfl rfl ?_
              refine E_callL (p' := 6) (L0 := [some (aI 1), some (aI 0), some (aI 3)]) rfl rfl rfl ?_
              refine E_s (p' := 1) (st' := aI 1 :: _) rfl rfl ?_
              refine E_s (p' := 2) (st' := aI 0 :: _) rfl rfl ?_
              refine E_s (p' := 5) rfl rfl ?_
              refine E_s (p' := 6) (st' := aI 1 :: _) rfl rfl ?_
              refine E_s (p' := 7) (st' := aI 3 :: _) rfl rfl ?_
              refine E_s (p' := 10) rfl rfl ?_
              refine E_s (p' := 11) (st' := aI 1 :: _) rfl rfl ?_
              refine E_s (p' := 15) rfl rfl ?_
              refine E_ret rfl rfl ?_
              refine E_ret rfl rfl ?_
              refine E_s (p' := 7) rfl rfl ?_
              refine E_s (p' := 8) rfl rfl ?_
              refine E_s (p' := 9) (st' := aI 0 :: _) rfl rfl ?_
              refine E_s (p' := 11) (st' := aI 11 :: _) rfl rfl ?_
              refine E_callL (p' := 14) (L0 := [some (aI a2), some (aI 0), some (aI 11)]) rfl rfl rfl ?_
              refine E_s (p' := 1) rfl rfl ?_
              refine E_s (p' := 2) (st' := aI 0 :: _) rfl rfl ?_
              refine E_icmp_lt (y := 0) rfl (by decide) (fun q => absurd q (by omega)) (fun _ => ?_)
              refine E_s (p' := 6) rfl rfl ?_
              refine E_s (p' := 7) (st' := aI 11 :: _) rfl rfl ?_
              refine E_icmp_gt (y := 11) rfl (by decide) (fun q => absurd q (by omega)) (fun _ => ?_)
              refine E_s (p' := 11) (st' := aI 1 :: _) rfl rfl ?_
              refine E_s (p' := 15) rfl rfl ?_
              refine E_ret rfl rfl ?_
              refine E_s (p' := 17) rfl rfl ?_
              refine E_s (p' := 18) rfl rfl ?_
              refine E_s (p' := 20) rfl rfl ?_
              refine E_callL (p' := 23) (L0 := [some (aI a3), some (aI a4)]) rfl rfl rfl ?_
              refine E_s (p' := 1) rfl rfl ?_
              refine E_s (p' := 2) (st' := aI 0 :: _) rfl rfl ?_
              refine E_s (p' := 4) (st' := aI 23 :: _) rfl rfl ?_
              refine E_callL (p' := 7) (L0 := [some (aI a3), some (aI 0), some (aI 23)]) rfl rfl rfl ?_
              refine E_s (p' := 1) rfl rfl ?_
              refine E_s (p' := 2) (st' := aI 0 :: _) rfl rfl ?_
              refine E_icmp_lt (y := 0) rfl (by decide) (fun q => absurd q (by omega)) (fun _ => ?_)
              refine E_s (p' := 6) rfl rfl ?_
              refine E_s (p' := 7) (st' := aI 23 :: _) rfl rfl ?_
              refine E_icmp_gt (y := 23) rfl (by decide) (fun q => absurd q (by omega)) (fun _ => ?_)
              refine E_s (p' := 11) (st' := aI 1 :: _) rfl rfl ?_
              refine E_s (p' := 15) rfl rfl ?_
              refine E_ret rfl rfl ?_
              refine E_s (p' := 10) rfl rfl ?_
              refine E_s (p' := 11) rfl rfl ?_
              refine E_s (p' := 13) (st' := aI 10 :: _) rfl rfl ?_
              refine E_s (p' := 16) (st' := aI 600 :: _) rfl rfl ?_
              refine E_callL (p' := 19) (L0 := [some (aI a4), some (aI 10), some (aI 600)]) rfl rfl rfl ?_
              refine E_s (p' := 1) rfl rfl ?_
              refine E_s (p' := 2) (st' := aI 10 :: _) rfl rfl ?_
              refine E_icmp_lt (y := 10) rfl (by decide) (fun q => absurd q (by omega)) (fun _ => ?_)
              refine E_s (p' := 6) rfl rfl ?_
              refine E_s (p' := 7) (st' := aI 600 :: _) rfl rfl ?_
              refine E_icmp_gt (y := 600) rfl (by decide) (fun _ => ?_) (fun q => absurd q (by omega))
              refine E_s (p' := 15) (st' := aI 0 :: _) rfl rfl ?_
              refine E_ret rfl rfl ?_
              refine E_s (p' := 26) rfl rfl ?_
              refine E_s (p' := 27) (st' := aI 0 :: _) rfl rfl ?_
              refine E_ret rfl rfl ?_
              refine E_s (p' := 26) rfl rfl ?_
              refine E_s (p' := 28) (st' := aI (-2) :: _) rfl rfl ?_
              refine E_ret rfl rfl ?_
              refine E_s (p' := 1174) rfl rfl ?_
              refine E_s (p' := 1177) (L' := [some (aA 0), some (aA 1), some (aA 124), some (aI 6)]) rfl rfl ?_
              refine E_s (p' := 18) rfl rfl ?_
              refine E_s (p' := 19) (st' := aI 6 :: _) rfl rfl ?_
              refine E_s (p' := 20) (st' := aA 0 :: _) rfl rfl ?_
              refine E_s (p' := 21) (st' := aI 6 :: _) rfl rfl ?_
              refine E_s (p' := 23) (st' := aI 6 :: _) rfl rfl ?_
              refine E_s (p' := 24) (st' := aI 0 :: _) rfl rfl ?_
              refine E_s (p' := 1180) rfl rfl ?_
              refine E_s (p' := 1181) (st' := aI 1 :: _) rfl rfl ?_
              exact E_ret rfl rfl ⟨rfl, rfl⟩
            · refine E_s (p' := 24) (st' := aI 1 :: _) rfl rfl ?_
              refine E_s (p' := 28) rfl rfl ?_
              refine E_ret rfl rfl ?_
              refine E_s (p' := 34) rfl rfl ?_
              refine E_s (p' := 36) (st' := aA 46 :: _) rfl rfl ?_
              refine E_s (p' := 37) rfl rfl ?_
              refine E_s (p' := 38) (st' := aI (-1) :: _) rfl rfl ?_
              refine E_s (p' := 39) rfl rfl ?_
              refine E_s (p' := 41) rfl rfl ?_
              refine E_callL (p' := 44) (L0 := [some (aA 46), some (aI a2), some (aI (-1)), some (aI a3), some (aI a4), none]) rfl rfl rfl ?_
              refine E_s (p' := 1) (st' := aA 46 :: _) rfl rfl ?_
              refine E_s (p' := 4) (st' := aA 47 :: _) rfl rfl ?_
              refine E_s (p' := 7) (st' := aI 0 :: _) rfl rfl ?_
              refine E_s (p' := 9) (L' := [some (aA 46), some (aI a2), some (aI (-1)), some (aI a3), some (aI a4), some (aI 0)]) rfl rfl ?_
              refine E_s (p' := 11) (st' := aI 0 :: _) rfl rfl ?_
              refine E_s (p' := 13) (st' := aI 60 :: _) rfl rfl ?_
              refine E_s (p' := 19) rfl rfl ?_
              refine E_s (p' := 20) (st' := aA 46 :: _) rfl rfl ?_
              refine E_s (p' := 23) (st' := aA 47 :: _) rfl rfl ?_
              refine E_s (p' := 26) (st' := aA 48 :: _) rfl rfl ?_
              refine E_s (p' := 28) (st' := aI 0 :: _) rfl rfl ?_
              refine E_s (p' := 29) rfl rfl ?_
              refine E_stM (p' := 30) (m' := up2 _ 48 0 a2) rfl rfl ?_
              refine E_s (p' := 31) (st' := aA 46 :: _) rfl rfl ?_
              refine E_s (p' := 34) (st' := aA 47 :: _) rfl rfl ?_
              refine E_s (p' := 37) (st' := aA 49 :: _) rfl rfl ?_
              refine E_s (p' := 39) (st' := aI 0 :: _) rfl rfl ?_
              refine E_s (p' := 40) (st' := aI (-1) :: _) rfl rfl ?_
              refine E_stM (p' := 41) (m' := up2 _ 49 0 (-1)) rfl rfl ?_
              refine E_s (p' := 42) (st' := aA 46 :: _) rfl rfl ?_
              refine E_s (p' := 45) (st' := aA 47 :: _) rfl rfl ?_
              refine E_s (p' := 48) (st' := aA 50 :: _) rfl rfl ?_
              refine E_s (p' := 50) (st' := aI 0 :: _) rfl rfl ?_
              refine E_s (p' := 51) rfl rfl ?_
              refine E_stM (p' := 52) (m' := up2 _ 50 0 a3) rfl rfl ?_
              refine E_s (p' := 53) (st' := aA 46 :: _) rfl rfl ?_
              refine E_s (p' := 56) (st' := aA 47 :: _) rfl rfl ?_
              refine E_s (p' := 59) (st' := aA 51 :: _) rfl rfl ?_
              refine E_s (p' := 61) (st' := aI 0 :: _) rfl rfl ?_
              refine E_s (p' := 63) rfl rfl ?_
              refine E_stM (p' := 64) (m' := up2 _ 51 0 a4) rfl rfl ?_
              refine E_s (p' := 65) (st' := aA 46 :: _) rfl rfl ?_
              refine E_s (p' := 68) (st' := aA 47 :: _) rfl rfl ?_
              refine E_s (p' := 71) (st' := aA 52 :: _) rfl rfl ?_
              refine E_s (p' := 73) (st' := aI 0 :: _) rfl rfl ?_
              refine E_s (p' := 74) (st' := aI 0 :: _) rfl rfl ?_
              refine E_stM (p' := 75) (m' := up2 _ 52 0 0) rfl rfl ?_
              refine E_s (p' := 76) (st' := aA 46 :: _) rfl rfl ?_
              refine E_s (p' := 79) (st' := aA 47 :: _) rfl rfl ?_
              refine E_s (p' := 82) (st' := aA 53 :: _) rfl rfl ?_
              refine E_s (p' := 84) (st' := aI 0 :: _) rfl rfl ?_
              refine E_s (p' := 85) (st' := aI 0 :: _) rfl rfl ?_
              refine E_stM (p' := 86) (m' := up2 _ 53 0 0) rfl rfl ?_
              refine E_s (p' := 87) (st' := aA 46 :: _) rfl rfl ?_
              refine E_s (p' := 90) (st' := aA 47 :: _) rfl rfl ?_
              refine E_s (p' := 91) (st' := aA 47 :: _) rfl rfl ?_
              refine E_s (p' := 94) (st' := aI 0 :: _) rfl rfl ?_
              refine E_s (p' := 95) (st' := aI 1 :: _) rfl rfl ?_
              refine E_s (p' := 96) (st' := aI 1 :: _) rfl rfl ?_
              refine E_stM (p' := 99) (m' := up2 _ 47 7 1) rfl rfl ?_
              refine E_s (p' := 100) (st' := aA 46 :: _) rfl rfl ?_
              refine E_callL (p' := 103) (L0 := [some (aA 46)]) rfl rfl rfl ?_
              refine E_s (p' := 1) (st' := aA 46 :: _) rfl rfl ?_
              refine E_s (p' := 2) (st' := aI 0 :: _) rfl rfl ?_
              refine E_stM (p' := 5) (m' := up2 _ 46 7 0) rfl rfl ?_
              refine E_s (p' := 6) (st' := aA 46 :: _) rfl rfl ?_
              refine E_s (p' := 7) (st' := aI 0 :: _) rfl rfl ?_
              refine E_stM (p' := 10) (m' := up2 _ 46 6 0) rfl rfl ?_
              refine E_ret rfl rfl ?_
              refine E_s (p' := 105) (st' := aI 0 :: _) rfl rfl ?_
              refine E_ret rfl rfl ?_
              refine E_ret rfl rfl ?_
              refine E_s (p' := 185) (st' := aA 124 :: _) rfl rfl ?_
              refine E_s (p' := 186) (st' := aA 0 :: _) rfl rfl ?_
              refine E_s (p' := 187) (st' := aI 0 :: _) rfl rfl ?_
              refine E_s (p' := 188) (st' := aI 1 :: _) rfl rfl ?_
              refine E_s (p' := 189) (st' := aI 1 :: _) rfl rfl ?_
              refine E_scr rfl rfl h1 ?_
              refine E_s (p' := 191) (st' := aA 0 :: _) rfl rfl ?_
              refine E_s (p' := 192) (st' := aI 0 :: _) rfl rfl ?_
              refine E_s (p' := 193) (st' := aI 2 :: _) rfl rfl ?_
              refine E_s (p' := 194) (st' := aI 2 :: _) rfl rfl ?_
              refine E_scr rfl rfl h2 ?_
              refine E_s (p' := 196) (st' := aA 0 :: _) rfl rfl ?_
              refine E_s (p' := 197) (st' := aI 0 :: _) rfl rfl ?_
              refine E_s (p' := 198) (st' := aI 3 :: _) rfl rfl ?_
              refine E_s (p' := 199) (st' := aI 3 :: _) rfl rfl ?_
              refine E_scr rfl rfl h3 ?_
              refine E_s (p' := 201) (st' := aA 0 :: _) rfl rfl ?_
              refine E_s (p' := 202) (st' := aI 0 :: _) rfl rfl ?_
              refine E_s (p' := 203) (st' := aI 4 :: _) rfl rfl ?_
              refine E_s (p' := 204) (st' := aI 4 :: _) rfl rfl ?_
              refine E_scr rfl rfl h4 ?_
              refine E_callL (p' := 208) (L0 := [some (aA 124), some (aI 1), some (aI a2), some (aI a3), some (aI a4)]) rfl rfl rfl ?_
              refine E_s (p' := 1) (st' := aI 1 :: _) rfl rfl ?_
              refine E_callL (p' := 4) (L0 := [some (aI 1)]) rfl rfl rfl ?_
              refine E_s (p' := 1) (st' := aI 1 :: _) rfl rfl ?_
              refine E_s (p' := 2) (st' := aI 0 :: _) rfl rfl ?_
              refine E_s (p' := 3) (st' := aI 3 :: _) rfl rfl ?_
              refine E_callL (p' := 6) (L0 := [some (aI 1), some (aI 0), some (aI 3)]) rfl rfl rfl ?_
              refine E_s (p' := 1) (st' := aI 1 :: _) rfl rfl ?_
              refine E_s (p' := 2) (st' := aI 0 :: _) rfl rfl ?_
              refine E_s (p' := 5) rfl rfl ?_
              refine E_s (p' := 6) (st' := aI 1 :: _) rfl rfl ?_
              refine E_s (p' := 7) (st' := aI 3 :: _) rfl rfl ?_
              refine E_s (p' := 10) rfl rfl ?_
              refine E_s (p' := 11) (st' := aI 1 :: _) rfl rfl ?_
              refine E_s (p' := 15) rfl rfl ?_
              refine E_ret rfl rfl ?_
              refine E_ret rfl rfl ?_
              refine E_s (p' := 7) rfl rfl ?_
              refine E_s (p' := 8) rfl rfl ?_
              refine E_s (p' := 9) (st' := aI 0 :: _) rfl rfl ?_
              refine E_s (p' := 11) (st' := aI 11 :: _) rfl rfl ?_
              refine E_callL (p' := 14) (L0 := [some (aI a2), some (aI 0), some (aI 11)]) rfl rfl rfl ?_
              refine E_s (p' := 1) rfl rfl ?_
              refine E_s (p' := 2) (st' := aI 0 :: _) rfl rfl ?_
              refine E_icmp_lt (y := 0) rfl (by decide) (fun q => absurd q (by omega)) (fun _ => ?_)
              refine E_s (p' := 6) rfl rfl ?_
              refine E_s (p' := 7) (st' := aI 11 :: _) rfl rfl ?_
              refine E_icmp_gt (y := 11) rfl (by decide) (fun q => absurd q (by omega)) (fun _ => ?_)
              refine E_s (p' := 11) (st' := aI 1 :: _) rfl rfl ?_
              refine E_s (p' := 15) rfl rfl ?_
              refine E_ret rfl rfl ?_
              refine E_s (p' := 17) rfl rfl ?_
              refine E_s (p' := 18) rfl rfl ?_
              refine E_s (p' := 20) rfl rfl ?_
              refine E_callL (p' := 23) (L0 := [some (aI a3), some (aI a4)]) rfl rfl rfl ?_
              refine E_s (p' := 1) rfl rfl ?_
              refine E_s (p' := 2) (st' := aI 0 :: _) rfl rfl ?_
              refine E_s (p' := 4) (st' := aI 23 :: _) rfl rfl ?_
              refine E_callL (p' := 7) (L0 := [some (aI a3), some (aI 0), some (aI 23)]) rfl rfl rfl ?_
              refine E_s (p' := 1) rfl rfl ?_
              refine E_s (p' := 2) (st' := aI 0 :: _) rfl rfl ?_
              refine E_icmp_lt (y := 0) rfl (by decide) (fun q => absurd q (by omega)) (fun _ => ?_)
              refine E_s (p' := 6) rfl rfl ?_
              refine E_s (p' := 7) (st' := aI 23 :: _) rfl rfl ?_
              refine E_icmp_gt (y := 23) rfl (by decide) (fun q => absurd q (by omega)) (fun _ => ?_)
              refine E_s (p' := 11) (st' := aI 1 :: _) rfl rfl ?_
              refine E_s (p' := 15) rfl rfl ?_
              refine E_ret rfl rfl ?_
              refine E_s (p' := 10) rfl rfl ?_
              refine E_s (p' := 11) rfl rfl ?_
              refine E_s (p' := 13) (st' := aI 10 :: _) rfl rfl ?_
              refine E_s (p' := 16) (st' := aI 600 :: _) rfl rfl ?_
              refine E_callL (p' := 19) (L0 := [some (aI a4), some (aI 10), some (aI 600)]) rfl rfl rfl ?_
              refine E_s (p' := 1) rfl rfl ?_
              refine E_s (p' := 2) (st' := aI 10 :: _) rfl rfl ?_
              refine E_icmp_lt (y := 10) rfl (by decide) (fun q => absurd q (by omega)) (fun _ => ?_)
              refine E_s (p' := 6) rfl rfl ?_
              refine E_s (p' := 7) (st' := aI 600 :: _) rfl rfl ?_
              refine E_icmp_gt (y := 600) rfl (by decide) (fun q => absurd q (by omega)) (fun _ => ?_)
              refine E_s (p' := 11) (st' := aI 1 :: _) rfl rfl ?_
              refine E_s (p' := 15) rfl rfl ?_
              refine E_ret rfl rfl ?_
              refine E_s (p' := 22) rfl rfl ?_
              refine E_s (p' := 23) (st' := aI 1 :: _) rfl rfl ?_
              refine E_s (p' := 27) rfl rfl ?_
              refine E_ret rfl rfl ?_
              refine E_s (p' := 29) rfl rfl ?_
              refine E_s (p' := 30) (st' := aA 124 :: _) rfl rfl ?_
              refine E_s (p' := 33) (st' := aA 125 :: _) rfl rfl ?_
              refine E_s (p' := 34) (st' := aI 1 :: _) rfl rfl ?_
              refine E_s (p' := 35) (st' := aI 0 :: _) rfl rfl ?_
              refine E_s (p' := 37) (st' := aI 60 :: _) rfl rfl ?_
              refine E_s (p' := 45) rfl rfl ?_
              refine E_s (p' := 46) (st' := aA 124 :: _) rfl rfl ?_
              refine E_s (p' := 47) (st' := aI 1 :: _) rfl rfl ?_
              refine E_s (p' := 48) rfl rfl ?_
              refine E_s (p' := 49) (st' := aI (-1) :: _) rfl rfl ?_
              refine E_s (p' := 50) rfl rfl ?_
              refine E_s (p' := 52) rfl rfl ?_
              refine E_callL (p' := 55) (L0 := [some (aA 124), some (aI 1), some (aI a2), some (aI (-1)), some (aI a3), some (aI a4), none]) rfl rfl rfl ?_
              refine E_s (p' := 2) (st' := aI 60 :: _) rfl rfl ?_
              refine E_s (p' := 3) (st' := aI 1 :: _) rfl rfl ?_
              refine E_s (p' := 4) (st' := aI 60 :: _) rfl rfl ?_
              refine E_s (p' := 5) (st' := aA 124 :: _) rfl rfl ?_
              refine E_s (p' := 8) (st' := aA 125 :: _) rfl rfl ?_
              refine E_s (p' := 9) (st' := aI 1 :: _) rfl rfl ?_
              refine E_s (p' := 10) (st' := aI 0 :: _) rfl rfl ?_
              refine E_s (p' := 11) (st' := aI 60 :: _) rfl rfl ?_
              refine E_s (p' := 13) (L' := [some (aA 124), some (aI 1), some (aI a2), some (aI (-1)), some (aI a3), some (aI a4), some (aI 60)]) rfl rfl ?_
              refine E_s (p' := 14) (st' := aA 124 :: _) rfl rfl ?_
              refine E_s (p' := 17) (st' := aA 127 :: _) rfl rfl ?_
              refine E_s (p' := 19) (st' := aI 60 :: _) rfl rfl ?_
              refine E_s (p' := 20) rfl rfl ?_
              refine E_stM (p' := 21) (m' := up2 _ 127 60 a2) rfl rfl ?_
              refine E_s (p' := 22) (st' := aA 124 :: _) rfl rfl ?_
              refine E_s (p' := 25) (st' := aA 128 :: _) rfl rfl ?_
              refine E_s (p' := 27) (st' := aI 60 :: _) rfl rfl ?_
              refine E_s (p' := 28) (st' := aI (-1) :: _) rfl rfl ?_
              refine E_stM (p' := 29) (m' := up2 _ 128 60 (-1)) rfl rfl ?_
              refine E_s (p' := 30) (st' := aA 124 :: _) rfl rfl ?_
              refine E_s (p' := 33) (st' := aA 129 :: _) rfl rfl ?_
              refine E_s (p' := 35) (st' := aI 60 :: _) rfl rfl ?_
              refine E_s (p' := 37) rfl rfl ?_
              refine E_stM (p' := 38) (m' := up2 _ 129 60 a3) rfl rfl ?_
              refine E_s (p' := 39) (st' := aA 124 :: _) rfl rfl ?_
              refine E_s (p' := 42) (st' := aA 130 :: _) rfl rfl ?_
              refine E_s (p' := 44) (st' := aI 60 :: _) rfl rfl ?_
              refine E_s (p' := 46) rfl rfl ?_
              refine E_stM (p' := 47) (m' := up2 _ 130 60 a4) rfl rfl ?_
              refine E_s (p' := 48) (st' := aA 124 :: _) rfl rfl ?_
              refine E_s (p' := 51) (st' := aA 131 :: _) rfl rfl ?_
              refine E_s (p' := 53) (st' := aI 60 :: _) rfl rfl ?_
              refine E_s (p' := 54) (st' := aI (-1) :: _) rfl rfl ?_
              refine E_stM (p' := 55) (m' := up2 _ 131 60 (-1)) rfl rfl ?_
              refine E_s (p' := 56) (st' := aA 124 :: _) rfl rfl ?_
              refine E_s (p' := 59) (st' := aA 132 :: _) rfl rfl ?_
              refine E_s (p' := 61) (st' := aI 60 :: _) rfl rfl ?_
              refine E_s (p' := 62) (st' := aI 0 :: _) rfl rfl ?_
              refine E_stM (p' := 63) (m' := up2 _ 132 60 0) rfl rfl ?_
              refine E_s (p' := 64) (st' := aA 124 :: _) rfl rfl ?_
              refine E_s (p' := 67) (st' := aA 125 :: _) rfl rfl ?_
              refine E_s (p' := 68) (st' := aI 1 :: _) rfl rfl ?_
              refine E_s (p' := 69) (st' := aI 1 :: _) rfl rfl ?_
              refine E_s (p' := 70) (st' := aI 0 :: _) rfl rfl ?_
              refine E_s (p' := 71) (st' := aI 1 :: _) rfl rfl ?_
              refine E_s (p' := 72) (st' := aI 1 :: _) rfl rfl ?_
              refine E_stM (p' := 73) (m' := up2 _ 125 1 1) rfl rfl ?_
              refine E_s (p' := 74) (st' := aA 124 :: _) rfl rfl ?_
              refine E_s (p' := 75) (st' := aI 1 :: _) rfl rfl ?_
              refine E_callL (p' := 78) (L0 := [some (aA 124), some (aI 1)]) rfl rfl rfl ?_
              refine E_s (p' := 1) (st' := aA 124 :: _) rfl rfl ?_
              refine E_s (p' := 4) (st' := aA 140 :: _) rfl rfl ?_
              refine E_s (p' := 5) (st' := aI 1 :: _) rfl rfl ?_
              refine E_s (p' := 6) (st' := aI 0 :: _) rfl rfl ?_
              refine E_stM (p' := 7) (m' := up2 _ 140 1 0) rfl rfl ?_
              refine E_ret rfl rfl ?_
              refine E_s (p' := 79) (st' := aA 124 :: _) rfl rfl ?_
              refine E_s (p' := 82) (st' := aA 125 :: _) rfl rfl ?_
              refine E_s (p' := 83) (st' := aI 1 :: _) rfl rfl ?_
              refine E_s (p' := 84) (st' := aI 1 :: _) rfl rfl ?_
              refine E_s (p' := 85) (st' := aI 1 :: _) rfl rfl ?_
              refine E_s (p' := 86) (st' := aI 0 :: _) rfl rfl ?_
              refine E_ret rfl rfl ?_
              refine E_ret rfl rfl ?_
              refine E_s (p' := 1174) rfl rfl ?_
              refine E_s (p' := 1177) (L' := [some (aA 0), some (aA 1), some (aA 124), some (aI 6)]) rfl rfl ?_
              refine E_s (p' := 18) rfl rfl ?_
              refine E_s (p' := 19) (st' := aI 6 :: _) rfl rfl ?_
              refine E_s (p' := 20) (st' := aA 0 :: _) rfl rfl ?_
              refine E_s (p' := 21) (st' := aI 6 :: _) rfl rfl ?_
              refine E_s (p' := 23) (st' := aI 6 :: _) rfl rfl ?_
              refine E_s (p' := 24) (st' := aI 0 :: _) rfl rfl ?_
              refine E_s (p' := 1180) rfl rfl ?_
              refine E_s (p' := 1181) (st' := aI 1 :: _) rfl rfl ?_
              exact E_ret rfl rfl ⟨rfl, rfl⟩
set_option maxRecDepth 100000 in
set_option maxHeartbeats 40000000 in
theorem pc_0_2 (xs : Nat → Int) {z a2 a3 a4 a5 : Int} (hz : b32 (fun a b => a &&& b) z 31 = 0) (h0 : xs 0 = z) (h1 : xs 1 = 2) (h2 : xs 2 = a2) (h3 : xs 3 = a3) (h4 : xs 4 = a4) (h5 : xs 5 = a5) : E 0 18 LL [] (s0 xs 6) PQ := by
  refine E_s (p' := 19) (st' := aI 0 :: _) rfl rfl ?_
  refine E_s (p' := 20) (st' := aA 0 :: _) rfl rfl ?_
  refine E_s (p' := 21) (st' := aI 6 :: _) rfl rfl ?_
  refine E_s (p' := 23) (st' := aI 6 :: _) rfl rfl ?_
  refine E_s (p' := 24) (st' := aI 0 :: _) rfl rfl ?_
  refine E_s (p' := 27) rfl rfl ?_
  refine E_s (p' := 28) (st' := aA 0 :: _) rfl rfl ?_
  refine E_s (p' := 29) (st' := aI 0 :: _) rfl rfl ?_
  refine E_scr rfl rfl h0 ?_
  refine E_s (p' := 32) (st' := aI 31 :: _) rfl rfl ?_
  refine E_s (p' := 33) rfl rfl ?_
  refine E_val hz ?_
  refine E_s (p' := 160) rfl rfl ?_
  refine E_s (p' := 161) (st' := aA 1 :: _) rfl rfl ?_
  refine E_s (p' := 162) (st' := aA 0 :: _) rfl rfl ?_
  refine E_s (p' := 163) (st' := aI 0 :: _) rfl rfl ?_
  refine E_s (p' := 164) (st' := aI 1 :: _) rfl rfl ?_
  refine E_s (p' := 165) (st' := aI 1 :: _) rfl rfl ?_
  refine E_scr rfl rfl h1 ?_
  refine E_s (p' := 167) (st' := aA 0 :: _) rfl rfl ?_
  refine E_s (p' := 168) (st' := aI 0 :: _) rfl rfl ?_
  refine E_s (p' := 169) (st' := aI 2 :: _) rfl rfl ?_
  refine E_s (p' := 170) (st' := aI 2 :: _) rfl rfl ?_
  refine E_scr rfl rfl h2 ?_
  refine E_s (p' := 172) (st' := aA 0 :: _) rfl rfl ?_
  refine E_s (p' := 173) (st' := aI 0 :: _) rfl rfl ?_
  refine E_s (p' := 174) (st' := aI 3 :: _) rfl rfl ?_
  refine E_s (p' := 175) (st' := aI 3 :: _) rfl rfl ?_
  refine E_scr rfl rfl h3 ?_
  refine E_s (p' := 177) (st' := aA 0 :: _) rfl rfl ?_
  refine E_s (p' := 178) (st' := aI 0 :: _) rfl rfl ?_
  refine E_s (p' := 179) (st' := aI 4 :: _) rfl rfl ?_
  refine E_s (p' := 180) (st' := aI 4 :: _) rfl rfl ?_
  refine E_scr rfl rfl h4 ?_
  refine E_callL (p' := 184) (L0 := [some (aA 1), some (aI 2), some (aI a2), some (aI a3), some (aI a4), none]) rfl rfl rfl ?_
  refine E_s (p' := 1) (st' := aA 1 :: _) rfl rfl ?_
  refine E_s (p' := 2) (st' := aI 2 :: _) rfl rfl ?_
  refine E_callL (p' := 5) (L0 := [some (aA 1), some (aI 2)]) rfl rfl rfl ?_
  refine E_s (p' := 1) (st' := aI 2 :: _) rfl rfl ?_
  refine E_s (p' := 4) rfl rfl ?_
  refine E_s (p' := 5) (st' := aI 2 :: _) rfl rfl ?_
  refine E_s (p' := 6) (st' := aI 4 :: _) rfl rfl ?_
  refine E_s (p' := 9) rfl rfl ?_
  refine E_s (p' := 10) (st' := aA 1 :: _) rfl rfl ?_
  refine E_s (p' := 13) (st' := aA 2 :: _) rfl rfl ?_
  refine E_s (p' := 14) (st' := aI 2 :: _) rfl rfl ?_
  refine E_s (p' := 15) (st' := aA 72 :: _) rfl rfl ?_
  refine E_s (p' := 19) rfl rfl ?_
  refine E_ret rfl rfl ?_
  refine E_s (p' := 7) (L' := [some (aA 1), some (aI 2), some (aI a2), some (aI a3), some (aI a4), some (aA 72)]) rfl rfl ?_
  refine E_s (p' := 9) (st' := aA 72 :: _) rfl rfl ?_
  refine E_s (p' := 12) rfl rfl ?_
  refine E_s (p' := 13) rfl rfl ?_
  refine E_if_lt rfl (by decide) (fun _ => ?_) (fun _ => ?_)
  · refine E_s (p' := 33) (st' := aI (-2) :: _) rfl rfl ?_
    refine E_ret rfl rfl ?_
    refine E_s (p' := 185) (st' := aA 124 :: _) rfl rfl ?_
    refine E_s (p' := 186) (st' := aA 0 :: _) rfl rfl ?_
    refine E_s (p' := 187) (st' := aI 0 :: _) rfl rfl ?_
    refine E_s (p' := 188) (st' := aI 1 :: _) rfl rfl ?_
    refine E_s (p' := 189) (st' := aI 1 :: _) rfl rfl ?_
    refine E_scr rfl rfl h1 ?_
    refine E_s (p' := 191) (st' := aA 0 :: _) rfl rfl ?_
    refine E_s (p' := 192) (st' := aI 0 :: _) rfl rfl ?_
    refine E_s (p' := 193) (st' := aI 2 :: _) rfl rfl ?_
    refine E_s (p' := 194) (st' := aI 2 :: _) rfl rfl ?_
    refine E_scr rfl rfl h2 ?_
    refine E_s (p' := 196) (st' := aA 0 :: _) rfl rfl ?_
    refine E_s (p' := 197) (st' := aI 0 :: _) rfl rfl ?_
    refine E_s (p' := 198) (st' := aI 3 :: _) rfl rfl ?_
    refine E_s (p' := 199) (st' := aI 3 :: _) rfl rfl ?_
    refine E_scr rfl rfl h3 ?_
    refine E_s (p' := 201) (st' := aA 0 :: _) rfl rfl ?_
    refine E_s (p' := 202) (st' := aI 0 :: _) rfl rfl ?_
    refine E_s (p' := 203) (st' := aI 4 :: _) rfl rfl ?_
    refine E_s (p' := 204) (st' := aI 4 :: _) rfl rfl ?_
    refine E_scr rfl rfl h4 ?_
    refine E_callL (p' := 208) (L0 := [some (aA 124), some (aI 2), some (aI a2), some (aI a3), some (aI a4)]) rfl rfl rfl ?_
    refine E_s (p' := 1) (st' := aI 2 :: _) rfl rfl ?_
    refine E_callL (p' := 4) (L0 := [some (aI 2)]) rfl rfl rfl ?_
    refine E_s (p' := 1) (st' := aI 2 :: _) rfl rfl ?_
    refine E_s (p' := 2) (st' := aI 0 :: _) rfl rfl ?_
    refine E_s (p' := 3) (st' := aI 3 :: _) rfl rfl ?_
    refine E_callL (p' := 6) (L0 := [some (aI 2), some (aI 0), some (aI 3)]) rfl rfl rfl ?_
    refine E_s (p' := 1) (st' := aI 2 :: _) rfl rfl ?_
    refine E_s (p' := 2) (st' := aI 0 :: _) rfl rfl ?_
    refine E_s (p' := 5) rfl rfl ?_
    refine E_s (p' := 6) (st' := aI 2 :: _) rfl rfl ?_
    refine E_s (p' := 7) (st' := aI 3 :: _) rfl rfl ?_
    refine E_s (p' := 10) rfl rfl ?_
    refine E_s (p' := 11) (st' := aI 1 :: _) rfl rfl ?_
    refine E_s (p' := 15) rfl rfl ?_
    refine E_ret rfl rfl ?_
    refine E_ret rfl rfl ?_
    refine E_s (p' := 7) rfl rfl ?_
    refine E_s (p' := 8) rfl rfl ?_
    refine E_s (p' := 9) (st' := aI 0 :: _) rfl rfl ?_
    refine E_s (p' := 11) (st' := aI 11 :: _) rfl rfl ?_
    refine E_callL (p' := 14) (L0 := [some (aI a2), some (aI 0), some (aI 11)]) rfl rfl rfl ?_
    refine E_s (p' := 1) rfl rfl ?_
    refine E_s (p' := 2) (st' := aI 0 :: _) rfl rfl ?_
    refine E_icmp_lt (y := 0) rfl (by decide) (fun _ => ?_) (fun q => absurd q (by omega))
    refine E_s (p' := 15) (st' := aI 0 :: _) rfl rfl ?_
    refine E_ret rfl rfl ?_
    refine E_s (p' := 26) rfl rfl ?_
    refine E_s (p' := 28) (st' := aI (-2) :: _) rfl rfl ?_
    refine E_ret rfl rfl ?_
    refine E_s (p' := 1174) rfl rfl ?_
    refine E_s (p' := 1177) (L' := [some (aA 0), some (aA 1), some (aA 124), some (aI 6)]) rfl rfl ?_
    refine E_s (p' := 18) rfl rfl ?_
    refine E_s (p' := 19) (st' := aI 6 :: _) rfl rfl ?_
    refine E_s (p' := 20) (st' := aA 0 :: _) rfl rfl ?_
    refine E_s (p' := 21) (st' := aI 6 :: _) rfl rfl ?_
    refine E_s (p' := 23) (st' := aI 6 :: _) rfl rfl ?_
    refine E_s (p' := 24) (st' := aI 0 :: _) rfl rfl ?_
    refine E_s (p' := 1180) rfl rfl ?_
    refine E_s (p' := 1181) (st' := aI 1 :: _) rfl rfl ?_
    exact E_ret rfl rfl ⟨rfl, rfl⟩
  · refine E_s (p' := 17) rfl rfl ?_
    refine E_s (p' := 19) (st' := aI 12 :: _) rfl rfl ?_
    refine E_icmp_ge (y := 12) rfl (by decide) (fun _ => ?_) (fun _ => ?_)
    · refine E_s (p' := 33) (st' := aI (-2) :: _) rfl rfl ?_
      refine E_ret rfl rfl ?_
      refine E_s (p' := 185) (st' := aA 124 :: _) rfl rfl ?_
      refine E_s (p' := 186) (st' := aA 0 :: _) rfl rfl ?_
      refine E_s (p' := 187) (st' := aI 0 :: _) rfl rfl ?_
      refine E_s (p' := 188) (st' := aI 1 :: _) rfl rfl ?_
      refine E_s (p' := 189) (st' := aI 1 :: _) rfl rfl ?_
      refine E_scr rfl rfl h1 ?_
      refine E_s (p' := 191) (st' := aA 0 :: _) rfl rfl ?_
      refine E_s (p' := 192) (st' := aI 0 :: _) rfl rfl ?_
      refine E_s (p' := 193) (st' := aI 2 :: _) rfl rfl ?_
      refine E_s (p' := 194) (st' := aI 2 :: _) rfl rfl ?_
      refine E_scr rfl rfl h2 ?_
      refine E_s (p' := 196) (st' := aA 0 :: _) rfl rfl ?_
      refine E_s (p' := 197) (st' := aI 0 :: _) rfl rfl ?_
      refine E_s (p' := 198) (st' := aI 3 :: _) rfl rfl ?_
      refine E_s (p' := 199) (st' := aI 3 :: _) rfl rfl ?_
      refine E_scr rfl rfl h3 ?_
      refine E_s (p' := 201) (st' := aA 0 :: _) rfl rfl ?_
      refine E_s (p' := 202) (st' := aI 0 :: _) rfl rfl ?_
      refine E_s (p' := 203) (st' := aI 4 :: _) rfl rfl ?_
      refine E_s (p' := 204) (st' := aI 4 :: _) rfl rfl ?_
      refine E_scr rfl rfl h4 ?_
      refine E_callL (p' := 208) (L0 := [some (aA 124), some (aI 2), some (aI a2), some (aI a3), some (aI a4)]) rfl rfl rfl ?_
      refine E_s (p' := 1) (st' := aI 2 :: _) rfl rfl ?_
      refine E_callL (p' := 4) (L0 := [some (aI 2)]) rfl rfl rfl ?_
      refine E_s (p' := 1) (st' := aI 2 :: _) rfl rfl ?_
      refine E_s (p' := 2) (st' := aI 0 :: _) rfl rfl ?_
      refine E_s (p' := 3) (st' := aI 3 :: _) rfl rfl ?_
      refine E_callL (p' := 6) (L0 := [some (aI 2), some (aI 0), some (aI 3)]) rfl rfl rfl ?_
      refine E_s (p' := 1) (st' := aI 2 :: _) rfl rfl ?_
      refine E_s (p' := 2) (st' := aI 0 :: _) rfl rfl ?_
      refine E_s (p' := 5) rfl rfl ?_
      refine E_s (p' := 6) (st' := aI 2 :: _) rfl rfl ?_
      refine E_s (p' := 7) (st' := aI 3 :: _) rfl rfl ?_
      refine E_s (p' := 10) rfl rfl ?_
      refine E_s (p' := 11) (st' := aI 1 :: _) rfl rfl ?_
      refine E_s (p' := 15) rfl rfl ?_
      refine E_ret rfl rfl ?_
      refine E_ret rfl rfl ?_
      refine E_s (p' := 7) rfl rfl ?_
      refine E_s (p' := 8) rfl rfl ?_
      refine E_s (p' := 9) (st' := aI 0 :: _) rfl rfl ?_
      refine E_s (p' := 11) (st' := aI 11 :: _) rfl rfl ?_
      refine E_callL (p' := 14) (L0 := [some (aI a2), some (aI 0), some (aI 11)]) rfl rfl rfl ?_
      refine E_s (p' := 1) rfl rfl ?_
      refine E_s (p' := 2) (st' := aI 0 :: _) rfl rfl ?_
      refine E_icmp_lt (y := 0) rfl (by decide) (fun q => absurd q (by omega)) (fun _ => ?_)
      refine E_s (p' := 6) rfl rfl ?_
      refine E_s (p' := 7) (st' := aI 11 :: _) rfl rfl ?_
      refine E_icmp_gt (y := 11) rfl (by decide) (fun _ => ?_) (fun q => absurd q (by omega))
      refine E_s (p' := 15) (st' := aI 0 :: _) rfl rfl ?_
      refine E_ret rfl rfl ?_
      refine E_s (p' := 26) rfl rfl ?_
      refine E_s (p' := 28) (st' := aI (-2) :: _) rfl rfl ?_
      refine E_ret rfl rfl ?_
      refine E_s (p' := 1174) rfl rfl ?_
      refine E_s (p' := 1177) (L' := [some (aA 0), some (aA 1), some (aA 124), some (aI 6)]) rfl rfl ?_
      refine E_s (p' := 18) rfl rfl ?_
      refine E_s (p' := 19) (st' := aI 6 :: _) rfl rfl ?_
      refine E_s (p' := 20) (st' := aA 0 :: _) rfl rfl ?_
      refine E_s (p' := 21) (st' := aI 6 :: _) rfl rfl ?_
      refine E_s (p' := 23) (st' := aI 6 :: _) rfl rfl ?_
      refine E_s (p' := 24) (st' := aI 0 :: _) rfl rfl ?_
      refine E_s (p' := 1180) rfl rfl ?_
      refine E_s (p' := 1181) (st' := aI 1 :: _) rfl rfl ?_
      exact E_ret rfl rfl ⟨rfl, rfl⟩
    · refine E_s (p' := 23) rfl rfl ?_
      refine E_s (p' := 25) rfl rfl ?_
      refine E_callL (p' := 28) (L0 := [some (aI a3), some (aI a4)]) rfl rfl rfl ?_
      refine E_s (p' := 1) rfl rfl ?_
      refine E_if_lt rfl (by decide) (fun _ => ?_) (fun _ => ?_)
      · refine E_s (p' := 28) (st' := aI 0 :: _) rfl rfl ?_
        refine E_ret rfl rfl ?_
        refine E_s (p' := 31) rfl rfl ?_
        refine E_s (p' := 33) (st' := aI (-2) :: _) rfl rfl ?_
        refine E_ret rfl rfl ?_
        refine E_s (p' := 185) (st' := aA 124 :: _) rfl rfl ?_
        refine E_s (p' := 186) (st' := aA 0 :: _) rfl rfl ?_
        refine E_s (p' := 187) (st' := aI 0 :: _) rfl rfl ?_
        refine E_s (p' := 188) (st' := aI 1 :: _) rfl rfl ?_
        refine E_s (p' := 189) (st' := aI 1 :: _) rfl rfl ?_
        refine E_scr rfl rfl h1 ?_
        refine E_s (p' := 191) (st' := aA 0 :: _) rfl rfl ?_
        refine E_s (p' := 192) (st' := aI 0 :: _) rfl rfl ?_
        refine E_s (p' := 193) (st' := aI 2 :: _) rfl rfl ?_
        refine E_s (p' := 194) (st' := aI 2 :: _) rfl rfl ?_
        refine E_scr rfl rfl h2 ?_
        refine E_s (p' := 196) (st' := aA 0 :: _) rfl rfl ?_
        refine E_s (p' := 197) (st' := aI 0 :: _) rfl rfl ?_
        refine E_s (p' := 198) (st' := aI 3 :: _) rfl rfl ?_
        refine E_s (p' := 199) (st' := aI 3 :: _) rfl rfl ?_
        refine E_scr rfl rfl h3 ?_
        refine E_s (p' := 201) (st' := aA 0 :: _) rfl rfl ?_
        refine E_s (p' := 202) (st' := aI 0 :: _) rfl rfl ?_
        refine E_s (p' := 203) (st' := aI 4 :: _) rfl rfl ?_
        refine E_s (p' := 204) (st' := aI 4 :: _) rfl rfl ?_
        refine E_scr rfl rfl h4 ?_
        refine E_callL (p' := 208) (L0 := [some (aA 124), some (aI 2), some (aI a2), some (aI a3), some (aI a4)]) rfl rfl rfl ?_
        refine E_s (p' := 1) (st' := aI 2 :: _) rfl rfl ?_
        refine E_callL (p' := 4) (L0 := [some (aI 2)]) rfl rfl rfl ?_
        refine E_s (p' := 1) (st' := aI 2 :: _) rfl rfl ?_
        refine E_s (p' := 2) (st' := aI 0 :: _) rfl rfl ?_
        refine E_s (p' := 3) (st' := aI 3 :: _) rfl rfl ?_
        refine E_callL (p' := 6) (L0 := [some (aI 2), some (aI 0), some (aI 3)]) rfl rfl rfl ?_
        refine E_s (p' := 1) (st' := aI 2 :: _) rfl rfl ?_
        refine E_s (p' := 2) (st' := aI 0 :: _) rfl rfl ?_
        refine E_s (p' := 5) rfl rfl ?_
        refine E_s (p' := 6) (st' := aI 2 :: _) rfl rfl ?_
        refine E_s (p' := 7) (st' := aI 3 :: _) rfl rfl ?_
        refine E_s (p' := 10) rfl rfl ?_
        refine E_s (p' := 11) (st' := aI 1 :: _) rfl rfl ?_
        refine E_s (p' := 15) rfl rfl ?_
        refine E_ret rfl rfl ?_
        refine E_ret rfl rfl ?_
        refine E_s (p' := 7) rfl rfl ?_
        refine E_s (p' := 8) rfl rfl ?_
        refine E_s (p' := 9) (st' := aI 0 :: _) rfl rfl ?_
        refine E_s (p' := 11) (st' := aI 11 :: _) rfl rfl ?_
        refine E_callL (p' := 14) (L0 := [some (aI a2), some (aI 0), some (aI 11)]) rfl rfl rfl ?_
        refine E_s (p' := 1) rfl rfl ?_
        refine E_s (p' := 2) (st' := aI 0 :: _) rfl rfl ?_
        refine E_icmp_lt (y := 0) rfl (by decide) (fun q => absurd q (by omega)) (fun _ => ?_)
        refine E_s (p' := 6) rfl rfl ?_
        refine E_s (p' := 7) (st' := aI 11 :: _) rfl rfl ?_
        refine E_icmp_gt (y := 11) rfl (by decide) (fun q => absurd q (by omega)) (fun _ => ?_)
        refine E_s (p' := 11) (st' := aI 1 :: _) rfl rfl ?_
        refine E_s (p' := 15) rfl rfl ?_
        refine E_ret rfl rfl ?_
        refine E_s (p' := 17) rfl rfl ?_
        refine E_s (p' := 18) rfl rfl ?_
        refine E_s (p' := 20) rfl rfl ?_
        refine E_callL (p' := 23) (L0 := [some (aI a3), some (aI a4)]) rfl rfl rfl ?_
        refine E_s (p' := 1) rfl rfl ?_
        refine E_s (p' := 2) (st' := aI 0 :: _) rfl rfl ?_
        refine E_s (p' := 4) (st' := aI 23 :: _) rfl rfl ?_
        refine E_callL (p' := 7) (L0 := [some (aI a3), some (aI 0), some (aI 23)]) rfl rfl rfl ?_
        refine E_s (p' := 1) rfl rfl ?_
        refine E_s (p' := 2) (st' := aI 0 :: _) rfl rfl ?_
        refine E_icmp_lt (y := 0) rfl (by decide) (fun _ => ?_) (fun q => absurd q (by omega))
        refine E_s (p' := 15) (st' := aI 0 :: _) rfl rfl ?_
        refine E_ret rfl rfl ?_
        refine E_s (p' := 26) rfl rfl ?_
        refine E_s (p' := 27) (st' := aI 0 :: _) rfl rfl ?_
        refine E_ret rfl rfl ?_
        refine E_s (p' := 26) rfl rfl ?_
        refine E_s (p' := 28) (st' := aI (-2) :: _) rfl rfl ?_
        refine E_ret rfl rfl ?_
        refine E_s (p' := 1174) rfl rfl ?_
        refine E_s (p' := 1177) (L' := [some (aA 0), some (aA 1), some (aA 124), some (aI 6)]) rfl rfl ?_
        refine E_s (p' := 18) rfl rfl ?_
        refine E_s (p' := 19) (st' := aI 6 :: _) rfl rfl ?_
        refine E_s (p' := 20) (st' := aA 0 :: _) rfl rfl ?_
        refine E_s (p' := 21) (st' := aI 6 :: _) rfl rfl ?_
        refine E_s (p' := 23) (st' := aI 6 :: _) rfl rfl ?_
        refine E_s (p' := 24) (st' := aI 0 :: _) rfl rfl ?_
        refine E_s (p' := 1180) rfl rfl ?_
        refine E_s (p' := 1181) (st' := aI 1 :: _) rfl rfl ?_
        exact E_ret rfl rfl ⟨rfl, rfl⟩
      · refine E_s (p' := 5) rfl rfl ?_
        refine E_s (p' := 7) (st' := aI 24 :: _) rfl rfl ?_
        refine E_icmp_ge (y := 24) rfl (by decide) (fun _ => ?_) (fun _ => ?_)
        · refine E_s (p' := 28) (st' := aI 0 :: _) rfl rfl ?_
          refine E_ret rfl rfl ?_
          refine E_s (p' := 31) rfl rfl ?_
          refine E_s (p' := 33) (st' := aI (-2) :: _) rfl rfl ?_
          refine E_ret rfl rfl ?_
          refine E_s (p' := 185) (st' := aA 124 :: _) rfl rfl ?_
          refine E_s (p' := 186) (st' := aA 0 :: _) rfl rfl ?_
          refine E_s (p' := 187) (st' := aI 0 :: _) rfl rfl ?_
          refine E_s (p' := 188) (st' := aI 1 :: _) rfl rfl ?_
          refine E_s (p' := 189) (st' := aI 1 :: _) rfl rfl ?_
          refine E_scr rfl rfl h1 ?_
          refine E_s (p' := 191) (st' := aA 0 :: _) rfl rfl ?_
          refine E_s (p' := 192) (st' := aI 0 :: _) rfl rfl ?_
          refine E_s (p' := 193) (st' := aI 2 :: _) rfl rfl ?_
          refine E_s (p' := 194) (st' := aI 2 :: _) rfl rfl ?_
          refine E_scr rfl rfl h2 ?_
          refine E_s (p' := 196) (st' := aA 0 :: _) rfl rfl ?_
          refine E_s (p' := 197) (st' := aI 0 :: _) rfl rfl ?_
          refine E_s (p' := 198) (st' := aI 3 :: _) rfl rfl ?_
          refine E_s (p' := 199) (st' := aI 3 :: _) rfl rfl ?_
          refine E_scr rfl rfl h3 ?_
          refine E_s (p' := 201) (st' := aA 0 :: _) rfl rfl ?_
          refine E_s (p' := 202) (st' := aI 0 :: _) rfl rfl ?_
          refine E_s (p' := 203) (st' := aI 4 :: _) rfl rfl ?_
          refine E_s (p' := 204) (st' := aI 4 :: _) rfl rfl ?_
          refine E_scr rfl rfl h4 ?_
          refine E_callL (p' := 208) (L0 := [some (aA 124), some (aI 2), some (aI a2), some (aI a3), some (aI a4)]) rfl rfl rfl ?_
          refine E_s (p' := 1) (st' := aI 2 :: _) rfl rfl ?_
          refine E_callL (p' := 4) (L0 := [some (aI 2)]) rfl rfl rfl ?_
          refine E_s (p' := 1) (st' := aI 2 :: _) rfl rfl ?_
          refine E_s (p' := 2) (st' := aI 0 :: _) rfl rfl ?_
          refine E_s (p' := 3) (st' := aI 3 :: _) rfl rfl ?_
          refine E_callL (p' := 6) (L0 := [some (aI 2), some (aI 0), some (aI 3)]) rfl rfl rfl ?_
          refine E_s (p' := 1) (st' := aI 2 :: _) rfl rfl ?_
          refine E_s (p' := 2) (st' := aI 0 :: _) rfl rfl ?_
          refine E_s (p' := 5) rfl rfl ?_
          refine E_s (p' := 6) (st' := aI 2 :: _) rfl rfl ?_
          refine E_s (p' := 7) (st' := aI 3 :: _) rfl rfl ?_
          refine E_s (p' := 10) rfl rfl ?_
          refine E_s (p' := 11) (st' := aI 1 :: _) rfl rfl ?_
          refine E_s (p' := 15) rfl rfl ?_
          refine E_ret rfl rfl ?_
          refine E_ret rfl rfl ?_
          refine E_s (p' := 7) rfl rfl ?_
          refine E_s (p' := 8) rfl rfl ?_
          refine E_s (p' := 9) (st' := aI 0 :: _) rfl rfl ?_
          refine E_s (p' := 11) (st' := aI 11 :: _) rfl rfl ?_
          refine E_callL (p' := 14) (L0 := [some (aI a2), some (aI 0), some (aI 11)]) rfl rfl rfl ?_
          refine E_s (p' := 1) rfl rfl ?_
          refine E_s (p' := 2) (st' := aI 0 :: _) rfl rfl ?_
          refine E_icmp_lt (y := 0) rfl (by decide) (fun q => absurd q (by omega)) (fun _ => ?_)
          refine E_s (p' := 6) rfl rfl ?_
          refine E_s (p' := 7) (st' := aI 11 :: _) rfl rfl ?_
          refine E_icmp_gt (y := 11) rfl (by decide) (fun q => absurd q (by omega)) (fun _ => ?_)
          refine E_s (p' := 11) (st' := aI 1 :: _) rfl rfl ?_
          refine E_s (p' := 15) rfl rfl ?_
          refine E_ret rfl rfl ?_
          refine E_s (p' := 17) rfl rfl ?_
          refine E_s (p' := 18) rfl rfl ?_
          refine E_s (p' := 20) rfl rfl ?_
          refine E_callL (p' := 23) (L0 := [some (aI a3), some (aI a4)]) rfl rfl rfl ?_
          refine E_s (p' := 1) rfl rfl ?_
          refine E_s (p' := 2) (st' := aI 0 :: _) rfl rfl ?_
          refine E_s (p' := 4) (st' := aI 23 :: _) rfl rfl ?_
          refine E_callL (p' := 7) (L0 := [some (aI a3), some (aI 0), some (aI 23)]) rfl rfl rfl ?_
          refine E_s (p' := 1) rfl rfl ?_
          refine E_s (p' := 2) (st' := aI 0 :: _) rfl rfl ?_
          refine E_icmp_lt (y := 0) rfl (by decide) (fun q => absurd q (by omega)) (fun _ => ?_)
          refine E_s (p' := 6) rfl rfl ?_
          refine E_s (p' := 7) (st' := aI 23 :: _) rfl rfl ?_
          refine E_icmp_gt (y := 23) rfl (by decide) (fun _ => ?_) (fun q => absurd q (by omega))
          refine E_s (p' := 15) (st' := aI 0 :: _) rfl rfl ?_
          refine E_ret rfl rfl ?_
          refine E_s (p' := 26) rfl rfl ?_
          refine E_s (p' := 27) (st' := aI 0 :: _) rfl rfl ?_
          refine E_ret rfl rfl ?_
          refine E_s (p' := 26) rfl rfl ?_
          refine E_s (p' := 28) (st' := aI (-2) :: _) rfl rfl ?_
          refine E_ret rfl rfl ?_
          refine E_s (p' := 1174) rfl rfl ?_
          refine E_s (p' := 1177) (L' := [some (aA 0), some (aA 1), some (aA 124), some (aI 6)]) rfl rfl ?_
          refine E_s (p' := 18) rfl rfl ?_
          refine E_s (p' := 19) (st' := aI 6 :: _) rfl rfl ?_
          refine E_s (p' := 20) (st' := aA 0 :: _) rfl rfl ?_
          refine E_s (p' := 21) (st' := aI 6 :: _) rfl rfl ?_
          refine E_s (p' := 23) (st' := aI 6 :: _) rfl rfl ?_
          refine E_s (p' := 24) (st' := aI 0 :: _) rfl rfl ?_
          refine E_s (p' := 1180) rfl rfl ?_
          refine E_s (p' := 1181) (st' := aI 1 :: _) rfl rfl ?_
          exact E_ret rfl rfl ⟨rfl, rfl⟩
        · refine E_s (p' := 11) rfl rfl ?_
          refine E_s (p' := 13) (st' := aI 10 :: _) rfl rfl ?_
          refine E_icmp_lt (y := 10) rfl (by decide) (fun _ => ?_) (fun _ => ?_)
          · refine E_s (p' := 28) (st' := aI 0 :: _) rfl rfl ?_
            refine E_ret rfl rfl ?_
            refine E_s (p' := 31) rfl rfl ?_
            refine E_s (p' := 33) (st' := aI (-2) :: _) rfl rfl ?_
            refine E_ret rfl rfl ?_
            refine E_s (p' := 185) (st' := aA 124 :: _) rfl rfl ?_
            refine E_s (p' := 186) (st' := aA 0 :: _) rfl rfl ?_
            refine E_s (p' := 187) (st' := aI 0 :: _) rfl rfl ?_
            refine E_s (p' := 188) (st' := aI 1 :: _) rfl rfl ?_
            refine E_s (p' := 189) (st' := aI 1 :: _) rfl rfl ?_
            refine E_scr rfl rfl h1 ?_
            refine E_s (p' := 191) (st' := aA 0 :: _) rfl rfl ?_
            refine E_s (p' := 192) (st' := aI 0 :: _) rfl rfl ?_
            refine E_s (p' := 193) (st' := aI 2 :: _) rfl rfl ?_
            refine E_s (p' := 194) (st' := aI 2 :: _) rfl rfl ?_
            refine E_scr rfl rfl h2 ?_
            refine E_s (p' := 196) (st' := aA 0 :: _) rfl rfl ?_
            refine E_s (p' := 197) (st' := aI 0 :: _) rfl rfl ?_
            refine E_s (p' := 198) (st' := aI 3 :: _) rfl rfl ?_
            refine E_s (p' := 199) (st' := aI 3 :: _) rfl rfl ?_
            refine E_scr rfl rfl h3 ?_
            refine E_s (p' := 201) (st' := aA 0 :: _) rfl rfl ?_
            refine E_s (p' := 202) (st' := aI 0 :: _) rfl rfl ?_
            refine E_s (p' := 203) (st' := aI 4 :: _) rfl rfl ?_
            refine E_s (p' := 204) (st' := aI 4 :: _) rfl rfl ?_
            refine E_scr rfl rfl h4 ?_
            refine E_callL (p' := 208) (L0 := [some (aA 124), some (aI 2), some (aI a2), some (aI a3), some (aI a4)]) rfl rfl rfl ?_
            refine E_s (p' := 1) (st' := aI 2 :: _) rfl rfl ?_
            refine E_callL (p' := 4) (L0 := [some (aI 2)]) rfl rfl rfl ?_
            refine E_s (p' := 1) (st' := aI 2 :: _) rfl rfl ?_
            refine E_s (p' := 2) (st' := aI 0 :: _) rfl rfl ?_
            refine E_s (p' := 3) (st' := aI 3 :: _) rfl rfl ?_
            refine E_callL (p' := 6) (L0 := [some (aI 2), some (aI 0), some (aI 3)]) rfl rfl rfl ?_
            refine E_s (p' := 1) (st' := aI 2 :: _) rfl rfl ?_
            refine E_s (p' := 2) (st' := aI 0 :: _) rfl rfl ?_
            refine E_s (p' := 5) rfl rfl ?_
            refine E_s (p' := 6) (st' := aI 2 :: _) rfl rfl ?_
            refine E_s (p' := 7) (st' := aI 3 :: _) rfl rfl ?_
            refine E_s (p' := 10) rfl rfl ?_
            refine E_s (p' := 11) (st' := aI 1 :: _) rfl rfl ?_
            refine E_s (p' := 15) rfl rfl ?_
            refine E_ret rfl rfl ?_
            refine E_ret rfl rfl ?_
            refine E_s (p' := 7) rfl rfl ?_
            refine E_s (p' := 8) rfl rfl ?_
            refine E_s (p' := 9) (st' := aI 0 :: _) rfl rfl ?_
            refine E_s (p' := 11) (st' := aI 11 :: _) rfl rfl ?_
            refine E_callL (p' := 14) (L0 := [some (aI a2), some (aI 0), some (aI 11)]) rfl rfl rfl ?_
            refine E_s (p' := 1) rfl rfl ?_
            refine E_s (p' := 2) (st' := aI 0 :: _) rfl rfl ?_
            refine E_icmp_lt (y := 0) rfl (by decide) (fun q => absurd q (by omega)) (fun _ => ?_)
            refine E_s (p' := 6) rfl rfl ?_
            refine E_s (p' := 7) (st' := aI 11 :: _) rfl rfl ?_
            refine E_icmp_gt (y := 11) rfl (by decide) (fun q => absurd q (by omega)) (fun _ => ?_)
            refine E_s (p' := 11) (st' := aI 1 :: _) rfl rfl ?_
            refine E_s (p' := 15) rfl rfl ?_
            refine E_ret rfl rfl ?_
            refine E_s (p' := 17) rfl rfl ?_
            refine E_s (p' := 18) rfl rfl ?_
            refine E_s (p' := 20) rfl rfl ?_
            refine E_callL (p' := 23) (L0 := [some (aI a3), some (aI a4)]) rfl rfl rfl ?_
            refine E_s (p' := 1) rfl rfl ?_
            refine E_s (p' := 2) (st' := aI 0 :: _) rfl rfl ?_
            refine E_s (p' := 4) (st' := aI 23 :: _) rfl rfl ?_
            refine E_callL (p' := 7) (L0 := [some (aI a3), some (aI 0), some (aI 23)]) rfl rfl rfl ?_
            refine E_s (p' := 1) rfl rfl ?_
            refine E_s (p' := 2) (st' := aI 0 :: _) rfl rfl ?_
            refine E_icmp_lt (y := 0) rfl (by decide) (fun q => absurd q (by omega)) (fun _ => ?_)
            refine E_s (p' := 6) rfl rfl ?_
            refine E_s (p' := 7) (st' := aI 23 :: _) rfl rfl ?_
            refine E_icmp_gt (y := 23) rfl (by decide) (fun q => absurd q (by omega)) (fun _ => ?_)
            refine E_s (p' := 11) (st' := aI 1 :: _) rfl rfl ?_
            refine E_s (p' := 15) rfl rfl ?_
            refine E_ret rfl rfl ?_
            refine E_s (p' := 10) rfl rfl ?_
            refine E_s (p' := 11) rfl rfl ?_
            refine E_s (p' := 13) (st' := aI 10 :: _) rfl rfl ?_
            refine E_s (p' := 16) (st' := aI 600 :: _) rfl rfl ?_
            refine E_callL (p' := 19) (L0 := [some (aI a4), some (aI 10), some (aI 600)]) rfl rfl rfl ?_
            refine E_s (p' := 1) rfl rfl ?_
            refine E_s (p' := 2) (st' := aI 10 :: _) rfl rfl ?_
            refine E_icmp_lt (y := 10) rfl (by decide) (fun _ => ?_) (fun q => absurd q (by omega))
            refine E_s (p' := 15) (st' := aI 0 :: _) rfl rfl ?_
            refine E_ret rfl rfl ?_
            refine E_s (p' := 26) rfl rfl ?_
            refine E_s (p' := 27) (st' := aI 0 :: _) rfl rfl ?_
            refine E_ret rfl rfl ?_
            refine E_s (p' := 26) rfl rfl ?_
            refine E_s (p' := 28) (st' := aI (-2) :: _) rfl rfl ?_
            refine E_ret rfl rfl ?_
            refine E_s (p' := 1174) rfl rfl ?_
            refine E_s (p' := 1177) (L' := [some (aA 0), some (aA 1), some (aA 124), some (aI 6)]) rfl rfl ?_
            refine E_s (p' := 18) rfl rfl ?_
            refine E_s (p' := 19) (st' := aI 6 :: _) rfl rfl ?_
            refine E_s (p' := 20) (st' := aA 0 :: _) rfl rfl ?_
            refine E_s (p' := 21) (st' := aI 6 :: _) rfl rfl ?_
            refine E_s (p' := 23) (st' := aI 6 :: _) rfl rfl ?_
            refine E_s (p' := 24) (st' := aI 0 :: _) rfl rfl ?_
            refine E_s (p' := 1180) rfl rfl ?_
            refine E_s (p' := 1181) (st' := aI 1 :: _) rfl rfl ?_
            exact E_ret rfl rfl ⟨rfl, rfl⟩
          · refine E_s (p' := 17) rfl rfl ?_
            refine E_s (p' := 20) (st' := aI 600 :: _) rfl rfl ?_
            refine E_icmp_gt (y := 600) rfl (by decide) (fun _ => ?_) (fun _ => ?_)
            · refine E_s (p' := 28) (st' := aI 0 :: _) rfl rfl ?_
              refine E_ret rfl rfl ?_
              refine E_s (p' := 31) rfl rfl ?_
              refine E_s (p' := 33) (st' := aI (-2) :: _) rfl rfl ?_
              refine E_ret rfl rfl ?_
              refine E_s (p' := 185) (st' := aA 124 :: _) rfl rfl ?_
              refine E_s (p' := 186) (st' := aA 0 :: _) rfl rfl ?_
              refine E_s (p' := 187) (st' := aI 0 :: _) rfl rfl ?_
              refine E_s (p' := 188) (st' := aI 1 :: _) rfl rfl ?_
              refine E_s (p' := 189) (st' := aI 1 :: _) rfl rfl ?_
              refine E_scr rfl rfl h1 ?_
              refine E_s (p' := 191) (st' := aA 0 :: _) rfl rfl ?_
              refine E_s (p' := 192) (st' := aI 0 :: _) rfl rfl ?_
              refine E_s (p' := 193) (st' := aI 2 :: _) rfl rfl ?_
              refine E_s (p' := 194) (st' := aI 2 :: _) rfl rfl ?_
              refine E_scr rfl rfl h2 ?_
              refine E_s (p' := 196) (st' := aA 0 :: _) rfl rfl ?_
              refine E_s (p' := 197) (st' := aI 0 :: _) rfl rfl ?_
              refine E_s (p' := 198) (st' := aI 3 :: _) rfl rfl ?_
              refine E_s (p' := 199) (st' := aI 3 :: _) rfl rfl ?_
              refine E_scr rfl rfl h3 ?_
              refine E_s (p' := 201) (st' := aA 0 :: _) rfl rfl ?_
              refine E_s (p' := 202) (st' := aI 0 :: _) rfl rfl ?_
              refine E_s (p' := 203) (st' := aI 4 :: _) rfl rfl ?_
              refine E_s (p' := 204) (st' := aI 4 :: _) rfl rfl ?_
              refine E_scr rfl rfl h4 ?_
              refine E_callL (p' := 208) (L0 := [some (aA 124), some (aI 2), some (aI a2), some (aI a3), some (aI a4)]) rfl rfl rfl ?_
              refine E_s (p' := 1) (st' := aI 2 :: _) rfl rfl ?_
              refine E_callL (p' := 4) (L0 := [some (aI 2)]) rfl rfl rfl ?_
              refine E_s (p' := 1) (st' := aI 2 :: _) rfl rfl ?_
              refine E_s (p' := 2) (st' := aI 0 :: _) rfl rfl ?_
              refine E_s (p' := 3) (st' := aI 3 :: _) rfl rfl ?_
              refine E_callL (p' := 6) (L0 := [some (aI 2), some (aI 0), some (aI 3)]) rfl rfl rfl ?_
              refine E_s (p' := 1) (st' := aI 2 :: _) rfl rfl ?_
              refine E_s (p' := 2) (st' := aI 0 :: _) rfl rfl ?_
              refine E_s (p' := 5) rfl rfl ?_
              refine E_s (p' := 6) (st' := aI 2 :: _) rfl rfl ?_
              refine E_s (p' := 7) (st' := aI 3 :: _) rfl rfl ?_
              refine E_s (p' := 10) rfl rfl ?_
              refine E_s (p' := 11) (st' := aI 1 :: _) rfl rfl ?_
              refine E_s (p' := 15) rfl rfl ?_
              refine E_ret rfl rfl ?_
              refine E_ret rfl rfl ?_
              refine E_s (p' := 7) rfl rfl ?_
              refine E_s (p' := 8) rfl rfl ?_
              refine E_s (p' := 9) (st' := aI 0 :: _) rfl rfl ?_
              refine E_s (p' := 11) (st' := aI 11 :: _) rfl rfl ?_
              refine E_callL (p' := 14) (L0 := [some (aI a2), some (aI 0), some (aI 11)]) rfl rfl rfl ?_
              refine E_s (p' := 1) rfl rfl ?_
              refine E_s (p' := 2) (st' := aI 0 :: _) rfl rfl ?_
              refine E_icmp_lt (y := 0) rfl (by decide) (fun q => absurd q (by omega)) (fun _ => ?_)
              refine E_s (p' := 6) rfl rfl ?_
              refine E_s (p' := 7) (st' := aI 11 :: _) rfl rfl ?_
              refine E_icmp_gt (y := 11) rfl (by decide) (fun q => absurd q (by omega)) (fun _ => ?_)
              refine E_s (p' := 11) (st' := aI 1 :: _) rfl rfl ?_
              refine E_s (p' := 15) rfl rfl ?_
              refine E_ret rfl rfl ?_
              refine E_s (p' := 17) rfl rfl ?_
              refine E_s (p' := 18) rfl rfl ?_
              refine E_s (p' := 20) rfl rfl ?_
              refine E_callL (p' := 23) (L0 := [some (aI a3), some (aI a4)]) rfl rfl rfl ?_
              refine E_s (p' := 1) rfl rfl ?_
              refine E_s (p' := 2) (st' := aI 0 :: _) rfl rfl ?_
              refine E_s (p' := 4) (st' := aI 23 :: _) rfl rfl ?_
              refine E_callL (p' := 7) (L0 := [some (aI a3), some (aI 0), some (aI 23)]) rfl rfl rfl ?_
              refine E_s (p' := 1) rfl rfl ?_
              refine E_s (p' := 2) (st' := aI 0 :: _) rfl rfl ?_
              refine E_icmp_lt (y := 0) rfl (by decide) (fun q => absurd q (by omega)) (fun _ => ?_)
              refine E_s (p' := 6) rfl rfl ?_
              refine E_s (p' := 7) (st' := aI 23 :: _) rfl rfl ?_
              refine E_icmp_gt (y := 23) rfl (by decide) (fun q => absurd q (by omega)) (fun _ => ?_)
              refine E_s (p' := 11) (st' := aI 1 :: _) rfl rfl ?_
              refine E_s (p' := 15) rfl rfl ?_
              refine E_ret rfl rfl ?_
              refine E_s (p' := 10) rfl rfl ?_
              refine E_s (p' := 11) rfl rfl ?_
              refine E_s (p' := 13) (st' := aI 10 :: _) rfl rfl ?_
              refine E_s (p' := 16) (st' := aI 600 :: _) rfl rfl ?_
              refine E_callL (p' := 19) (L0 := [some (aI a4), some (aI 10), some (aI 600)]) rfl rfl rfl ?_
              refine E_s (p' := 1) rfl rfl ?_
              refine E_s (p' := 2) (st' := aI 10 :: _) rfl rfl ?_
              refine E_icmp_lt (y := 10) rfl (by decide) (fun q => absurd q (by omega)) (fun _ => ?_)
              refine E_s (p' := 6) rfl rfl ?_
              refine E_s (p' := 7) (st' := aI 600 :: _) rfl rfl ?_
              refine E_icmp_gt (y := 600) rfl (by decide) (fun _ => ?_) (fun q => absurd q (by omega))
              refine E_s (p' := 15) (st' := aI 0 :: _) rfl rfl ?_
              refine E_ret rfl rfl ?_
              refine E_s (p' := 26) rfl rfl ?_
              refine E_s (p' := 27) (st' := aI 0 :: _) rfl rfl ?_
              refine E_ret rfl rfl ?_
              refine E_s (p' := 26) rfl rfl ?_
              refine E_s (p' := 28) (st' := aI (-2) :: _) rfl rfl ?_
              refine E_ret rfl rfl ?_
              refine E_s (p' := 1174) rfl rfl ?_
              refine E_s (p' := 1177) (L' := [some (aA 0), some (aA 1), some (aA 124), some (aI 6)]) rfl rfl ?_
              refine E_s (p' := 18) rfl rfl ?_
              refine E_s (p' := 19) (st' := aI 6 :: _) rfl rfl ?_
              refine E_s (p' := 20) (st' := aA 0 :: _) rfl rfl ?_
              refine E_s (p' := 21) (st' := aI 6 :: _) rfl rfl ?_
              refine E_s (p' := 23) (st' := aI 6 :: _) rfl rfl ?_
              refine E_s (p' := 24) (st' := aI 0 :: _) rfl rfl ?_
              refine E_s (p' := 1180) rfl rfl ?_
              refine E_s (p' := 1181) (st' := aI 1 :: _) rfl rfl ?_
              exact E_ret rfl rfl ⟨rfl, rfl⟩
            · refine E_s (p' := 24) (st' := aI 1 :: _) rfl rfl ?_
              refine E_s (p' := 28) rfl rfl ?_
              refine E_ret rfl rfl ?_
              refine E_s (p' := 34) rfl rfl ?_
              refine E_s (p' := 36) (st' := aA 72 :: _) rfl rfl ?_
              refine E_s (p' := 37) rfl rfl ?_
              refine E_s (p' := 38) (st' := aI (-1) :: _) rfl rfl ?_
              refine E_s (p' := 39) rfl rfl ?_
              refine E_s (p' := 41) rfl rfl ?_
              refine E_callL (p' := 44) (L0 := [some (aA 72), some (aI a2), some (aI (-1)), some (aI a3), some (aI a4), none]) rfl rfl rfl ?_
              refine E_s (p' := 1) (st' := aA 72 :: _) rfl rfl ?_
              refine E_s (p' := 4) (st' := aA 73 :: _) rfl rfl ?_
              refine E_s (p' := 7) (st' := aI 0 :: _) rfl rfl ?_
              refine E_s (p' := 9) (L' := [some (aA 72), some (aI a2), some (aI (-1)), some (aI a3), some (aI a4), some (aI 0)]) rfl rfl ?_
              refine E_s (p' := 11) (st' := aI 0 :: _) rfl rfl ?_
              refine E_s (p' := 13) (st' := aI 60 :: _) rfl rfl ?_
              refine E_s (p' := 19) rfl rfl ?_
              refine E_s (p' := 20) (st' := aA 72 :: _) rfl rfl ?_
              refine E_s (p' := 23) (st' := aA 73 :: _) rfl rfl ?_
              refine E_s (p' := 26) (st' := aA 74 :: _) rfl rfl ?_
              refine E_s (p' := 28) (st' := aI 0 :: _) rfl rfl ?_
              refine E_s (p' := 29) rfl rfl ?_
              refine E_stM (p' := 30) (m' := up2 _ 74 0 a2) rfl rfl ?_
              refine E_s (p' := 31) (st' := aA 72 :: _) rfl rfl ?_
              refine E_s (p' := 34) (st' := aA 73 :: _) rfl rfl ?_
              refine E_s (p' := 37) (st' := aA 75 :: _) rfl rfl ?_
              refine E_s (p' := 39) (st' := aI 0 :: _) rfl rfl ?_
              refine E_s (p' := 40) (st' := aI (-1) :: _) rfl rfl ?_
              refine E_stM (p' := 41) (m' := up2 _ 75 0 (-1)) rfl rfl ?_
              refine E_s (p' := 42) (st' := aA 72 :: _) rfl rfl ?_
              refine E_s (p' := 45) (st' := aA 73 :: _) rfl rfl ?_
              refine E_s (p' := 48) (st' := aA 76 :: _) rfl rfl ?_
              refine E_s (p' := 50) (st' := aI 0 :: _) rfl rfl ?_
              refine E_s (p' := 51) rfl rfl ?_
              refine E_stM (p' := 52) (m' := up2 _ 76 0 a3) rfl rfl ?_
              refine E_s (p' := 53) (st' := aA 72 :: _) rfl rfl ?_
              refine E_s (p' := 56) (st' := aA 73 :: _) rfl rfl ?_
              refine E_s (p' := 59) (st' := aA 77 :: _) rfl rfl ?_
              refine E_s (p' := 61) (st' := aI 0 :: _) rfl rfl ?_
              refine E_s (p' := 63) rfl rfl ?_
              refine E_stM (p' := 64) (m' := up2 _ 77 0 a4) rfl rfl ?_
              refine E_s (p' := 65) (st' := aA 72 :: _) rfl rfl ?_
              refine E_s (p' := 68) (st' := aA 73 :: _) rfl rfl ?_
              refine E_s (p' := 71) (st' := aA 78 :: _) rfl rfl ?_
              refine E_s (p' := 73) (st' := aI 0 :: _) rfl rfl ?_
              refine E_s (p' := 74) (st' := aI 0 :: _) rfl rfl ?_
              refine E_stM (p' := 75) (m' := up2 _ 78 0 0) rfl rfl ?_
              refine E_s (p' := 76) (st' := aA 72 :: _) rfl rfl ?_
              refine E_s (p' := 79) (st' := aA 73 :: _) rfl rfl ?_
              refine E_s (p' := 82) (st' := aA 79 :: _) rfl rfl ?_
              refine E_s (p' := 84) (st' := aI 0 :: _) rfl rfl ?_
              refine E_s (p' := 85) (st' := aI 0 :: _) rfl rfl ?_
              refine E_stM (p' := 86) (m' := up2 _ 79 0 0) rfl rfl ?_
              refine E_s (p' := 87) (st' := aA 72 :: _) rfl rfl ?_
              refine E_s (p' := 90) (st' := aA 73 :: _) rfl rfl ?_
              refine E_s (p' := 91) (st' := aA 73 :: _) rfl rfl ?_
              refine E_s (p' := 94) (st' := aI 0 :: _) rfl rfl ?_
              refine E_s (p' := 95) (st' := aI 1 :: _) rfl rfl ?_
              refine E_s (p' := 96) (st' := aI 1 :: _) rfl rfl ?_
              refine E_stM (p' := 99) (m' := up2 _ 73 7 1) rfl rfl ?_
              refine E_s (p' := 100) (st' := aA 72 :: _) rfl rfl ?_
              refine E_callL (p' := 103) (L0 := [some (aA 72)]) rfl rfl rfl ?_
              refine E_s (p' := 1) (st' := aA 72 :: _) rfl rfl ?_
              refine E_s (p' := 2) (st' := aI 0 :: _) rfl rfl ?_
              refine E_stM (p' := 5) (m' := up2 _ 72 7 0) rfl rfl ?_
              refine E_s (p' := 6) (st' := aA 72 :: _) rfl rfl ?_
              refine E_s (p' := 7) (st' := aI 0 :: _) rfl rfl ?_
              refine E_stM (p' := 10) (m' := up2 _ 72 6 0) rfl rfl ?_
              refine E_ret rfl rfl ?_
              refine E_s (p' := 105) (st' := aI 0 :: _) rfl rfl ?_
              refine E_ret rfl rfl ?_
              refine E_ret rfl rfl ?_
              refine E_s (p' := 185) (st' := aA 124 :: _) rfl rfl ?_
              refine E_s (p' := 186) (st' := aA 0 :: _) rfl rfl ?_
              refine E_s (p' := 187) (st' := aI 0 :: _) rfl rfl ?_
              refine E_s (p' := 188) (st' := aI 1 :: _) rfl rfl ?_
              refine E_s (p' := 189) (st' := aI 1 :: _) rfl rfl ?_
              refine E_scr rfl rfl h1 ?_
              refine E_s (p' := 191) (st' := aA 0 :: _) rfl rfl ?_
              refine E_s (p' := 192) (st' := aI 0 :: _) rfl rfl ?_
              refine E_s (p' := 193) (st' := aI 2 :: _) rfl rfl ?_
              refine E_s (p' := 194) (st' := aI 2 :: _) rfl rfl ?_
              refine E_scr rfl rfl h2 ?_
              refine E_s (p' := 196) (st' := aA 0 :: _) rfl rfl ?_
              refine E_s (p' := 197) (st' := aI 0 :: _) rfl rfl ?_
              refine E_s (p' := 198) (st' := aI 3 :: _) rfl rfl ?_
              refine E_s (p' := 199) (st' := aI 3 :: _) rfl rfl ?_
              refine E_scr rfl rfl h3 ?_
              refine E_s (p' := 201) (st' := aA 0 :: _) rfl rfl ?_
              refine E_s (p' := 202) (st' := aI 0 :: _) rfl rfl ?_
              refine E_s (p' := 203) (st' := aI 4 :: _) rfl rfl ?_
              refine E_s (p' := 204) (st' := aI 4 :: _) rfl rfl ?_
              refine E_scr rfl rfl h4 ?_
              refine E_callL (p' := 208) (L0 := [some (aA 124), some (aI 2), some (aI a2), some (aI a3), some (aI a4)]) rfl rfl rfl ?_
              refine E_s (p' := 1) (st' := aI 2 :: _) rfl rfl ?_
              refine E_callL (p' := 4) (L0 := [some (aI 2)]) rfl rfl rfl ?_
              refine E_s (p' := 1) (st' := aI 2 :: _) rfl rfl ?_
              refine E_s (p' := 2) (st' := aI 0 :: _) rfl rfl ?_
              refine E_s (p' := 3) (st' := aI 3 :: _) rfl rfl ?_
              refine E_callL (p' := 6) (L0 := [some (aI 2), some (aI 0), some (aI 3)]) rfl rfl rfl ?_
              refine E_s (p' := 1) (st' := aI 2 :: _) rfl rfl ?_
              refine E_s (p' := 2) (st' := aI 0 :: _) rfl rfl ?_
              refine E_s (p' := 5) rfl rfl ?_
              refine E_s (p' := 6) (st' := aI 2 :: _) rfl rfl ?_
              refine E_s (p' := 7) (st' := aI 3 :: _) rfl rfl ?_
              refine E_s (p' := 10) rfl rfl ?_
              refine E_s (p' := 11) (st' := aI 1 :: _) rfl rfl ?_
              refine E_s (p' := 15) rfl rfl ?_
              refine E_ret rfl rfl ?_
              refine E_ret rfl rfl ?_
              refine E_s (p' := 7) rfl rfl ?_
              refine E_s (p' := 8) rfl rfl ?_
              refine E_s (p' := 9) (st' := aI 0 :: _) rfl rfl ?_
              refine E_s (p' := 11) (st' := aI 11 :: _) rfl rfl ?_
              refine E_callL (p' := 14) (L0 := [some (aI a2), some (aI 0), some (aI 11)]) rfl rfl rfl ?_
              refine E_s (p' := 1) rfl rfl ?_
              refine E_s (p' := 2) (st' := aI 0 :: _) rfl rfl ?_
              refine E_icmp_lt (y := 0) rfl (by decide) (fun q => absurd q (by omega)) (fun _ => ?_)
              refine E_s (p' := 6) rfl rfl ?_
              refine E_s (p' := 7) (st' := aI 11 :: _) rfl rfl ?_
              refine E_icmp_gt (y := 11) rfl (by decide) (fun q => absurd q (by omega)) (fun _ => ?_)
              refine E_s (p' := 11) (st' := aI 1 :: _) rfl rfl ?_
              refine E_s (p' := 15) rfl rfl ?_
              refine E_ret rfl rfl ?_
              refine E_s (p' := 17) rfl rfl ?_
              refine E_s (p' := 18) rfl rfl ?_
              refine E_s (p' := 20) rfl rfl ?_
              refine E_callL (p' := 23) (L0 := [some (aI a3), some (aI a4)]) rfl rfl rfl ?_
              refine E_s (p' := 1) rfl rfl ?_
              refine E_s (p' := 2) (st' := aI 0 :: _) rfl rfl ?_
              refine E_s (p' := 4) (st' := aI 23 :: _) rfl rfl ?_
              refine E_callL (p' := 7) (L0 := [some (aI a3), some (aI 0), some (aI 23)]) rfl rfl rfl ?_
              refine E_s (p' := 1) rfl rfl ?_
              refine E_s (p' := 2) (st' := aI 0 :: _) rfl rfl ?_
              refine E_icmp_lt (y := 0) rfl (by decide) (fun q => absurd q (by omega)) (fun _ => ?_)
              refine E_s (p' := 6) rfl rfl ?_
              refine E_s (p' := 7) (st' := aI 23 :: _) rfl rfl ?_
              refine E_icmp_gt (y := 23) rfl (by decide) (fun q => absurd q (by omega)) (fun _ => ?_)
              refine E_s (p' := 11) (st' := aI 1 :: _) rfl rfl ?_
              refine E_s (p' := 15) rfl rfl ?_
              refine E_ret rfl rfl ?_
              refine E_s (p' := 10) rfl rfl ?_
              refine E_s (p' := 11) rfl rfl ?_
              refine E_s (p' := 13) (st' := aI 10 :: _) rfl rfl ?_
              refine E_s (p' := 16) (st' := aI 600 :: _) rfl rfl ?_
              refine E_callL (p' := 19) (L0 := [some (aI a4), some (aI 10), some (aI 600)]) rfl rfl rfl ?_
              refine E_s (p' := 1) rfl rfl ?_
              refine E_s (p' := 2) (st' := aI 10 :: _) rfl rfl ?_
              refine E_icmp_lt (y := 10) rfl (by decide) (fun q => absurd q (by omega)) (fun _ => ?_)
              refine E_s (p' := 6) rfl rfl ?_
              refine E_s (p' := 7) (st' := aI 600 :: _) rfl rfl ?_
              refine E_icmp_gt (y := 600) rfl (by decide) (fun q => absurd q (by omega)) (fun _ => ?_)
              refine E_s (p' := 11) (st' := aI 1 :: _) rfl rfl ?_
              refine E_s (p' := 15) rfl rfl ?_
              refine E_ret rfl rfl ?_
              refine E_s (p' := 22) rfl rfl ?_
              refine E_s (p' := 23) (st' := aI 1 :: _) rfl rfl ?_
              refine E_s (p' := 27) rfl rfl ?_
              refine E_ret rfl rfl ?_
              refine E_s (p' := 29) rfl rfl ?_
              refine E_s (p' := 30) (st' := aA 124 :: _) rfl rfl ?_
              refine E_s (p' := 33) (st' := aA 125 :: _) rfl rfl ?_
              refine E_s (p' := 34) (st' := aI 2 :: _) rfl rfl ?_
              refine E_s (p' := 35) (st' := aI 0 :: _) rfl rfl ?_
              refine E_s (p' := 37) (st' := aI 60 :: _) rfl rfl ?_
              refine E_s (p' := 45) rfl rfl ?_
              refine E_s (p' := 46) (st' := aA 124 :: _) rfl rfl ?_
              refine E_s (p' := 47) (st' := aI 2 :: _) rfl rfl ?_
              refine E_s (p' := 48) rfl rfl ?_
              refine E_s (p' := 49) (st' := aI (-1) :: _) rfl rfl ?_
              refine E_s (p' := 50) rfl rfl ?_
              refine E_s (p' := 52) rfl rfl ?_
              refine E_callL (p' := 55) (L0 := [some (aA 124), some (aI 2), some (aI a2), some (aI (-1)), some (aI a3), some (aI a4), none]) rfl rfl rfl ?_
              refine E_s (p' := 2) (st' := aI 60 :: _) rfl rfl ?_
              refine E_s (p' := 3) (st' := aI 2 :: _) rfl rfl ?_
              refine E_s (p' := 4) (st' := aI 120 :: _) rfl rfl ?_
              refine E_s (p' := 5) (st' := aA 124 :: _) rfl rfl ?_
              refine E_s (p' := 8) (st' := aA 125 :: _) rfl rfl ?_
              refine E_s (p' := 9) (st' := aI 2 :: _) rfl rfl ?_
              refine E_s (p' := 10) (st' := aI 0 :: _) rfl rfl ?_
              refine E_s (p' := 11) (st' := aI 120 :: _) rfl rfl ?_
              refine E_s (p' := 13) (L' := [some (aA 124), some (aI 2), some (aI a2), some (aI (-1)), some (aI a3), some (aI a4), some (aI 120)]) rfl rfl ?_
              refine E_s (p' := 14) (st' := aA 124 :: _) rfl rfl ?_
              refine E_s (p' := 17) (st' := aA 127 :: _) rfl rfl ?_
              refine E_s (p' := 19) (st' := aI 120 :: _) rfl rfl ?_
              refine E_s (p' := 20) rfl rfl ?_
              refine E_stM (p' := 21) (m' := up2 _ 127 120 a2) rfl rfl ?_
              refine E_s (p' := 22) (st' := aA 124 :: _) rfl rfl ?_
              refine E_s (p' := 25) (st' := aA 128 :: _) rfl rfl ?_
              refine E_s (p' := 27) (st' := aI 120 :: _) rfl rfl ?_
              refine E_s (p' := 28) (st' := aI (-1) :: _) rfl rfl ?_
              refine E_stM (p' := 29) (m' := up2 _ 128 120 (-1)) rfl rfl ?_
              refine E_s (p' := 30) (st' := aA 124 :: _) rfl rfl ?_
              refine E_s (p' := 33) (st' := aA 129 :: _) rfl rfl ?_
              refine E_s (p' := 35) (st' := aI 120 :: _) rfl rfl ?_
              refine E_s (p' := 37) rfl rfl ?_
              refine E_stM (p' := 38) (m' := up2 _ 129 120 a3) rfl rfl ?_
              refine E_s (p' := 39) (st' := aA 124 :: _) rfl rfl ?_
              refine E_s (p' := 42) (st' := aA 130 :: _) rfl rfl ?_
              refine E_s (p' := 44) (st' := aI 120 :: _) rfl rfl ?_
              refine E_s (p' := 46) rfl rfl ?_
              refine E_stM (p' := 47) (m' := up2 _ 130 120 a4) rfl rfl ?_
              refine E_s (p' := 48) (st' := aA 124 :: _) rfl rfl ?_
              refine E_s (p' := 51) (st' := aA 131 :: _) rfl rfl ?_
              refine E_s (p' := 53) (st' := aI 120 :: _) rfl rfl ?_
              refine E_s (p' := 54) (st' := aI (-1) :: _) rfl rfl ?_
              refine E_stM (p' := 55) (m' := up2 _ 131 120 (-1)) rfl rfl ?_
              refine E_s (p' := 56) (st' := aA 124 :: _) rfl rfl ?_
              refine E_s (p' := 59) (st' := aA 132 :: _) rfl rfl ?_
              refine E_s (p' := 61) (st' := aI 120 :: _) rfl rfl ?_
              refine E_s (p' := 62) (st' := aI 0 :: _) rfl rfl ?_
              refine E_stM (p' := 63) (m' := up2 _ 132 120 0) rfl rfl ?_
              refine E_s (p' := 64) (st' := aA 124 :: _) rfl rfl ?_
              refine E_s (p' := 67) (st' := aA 125 :: _) rfl rfl ?_
              refine E_s (p' := 68) (st' := aI 2 :: _) rfl rfl ?_
              refine E_s (p' := 69) (st' := aI 2 :: _) rfl rfl ?_
              refine E_s (p' := 70) (st' := aI 0 :: _) rfl rfl ?_
              refine E_s (p' := 71) (st' := aI 1 :: _) rfl rfl ?_
              refine E_s (p' := 72) (st' := aI 1 :: _) rfl rfl ?_
              refine E_stM (p' := 73) (m' := up2 _ 125 2 1) rfl rfl ?_
              refine E_s (p' := 74) (st' := aA 124 :: _) rfl rfl ?_
              refine E_s (p' := 75) (st' := aI 2 :: _) rfl rfl ?_
              refine E_callL (p' := 78) (L0 := [some (aA 124), some (aI 2)]) rfl rfl rfl ?_
              refine E_s (p' := 1) (st' := aA 124 :: _) rfl rfl ?_
              refine E_s (p' := 4) (st' := aA 140 :: _) rfl rfl ?_
              refine E_s (p' := 5) (st' := aI 2 :: _) rfl rfl ?_
              refine E_s (p' := 6) (st' := aI 0 :: _) rfl rfl ?_
              refine E_stM (p' := 7) (m' := up2 _ 140 2 0) rfl rfl ?_
              refine E_ret rfl rfl ?_
              refine E_s (p' := 79) (st' := aA 124 :: _) rfl rfl ?_
              refine E_s (p' := 82) (st' := aA 125 :: _) rfl rfl ?_
              refine E_s (p' := 83) (st' := aI 2 :: _) rfl rfl ?_
              refine E_s (p' := 84) (st' := aI 1 :: _) rfl rfl ?_
              refine E_s (p' := 85) (st' := aI 1 :: _) rfl rfl ?_
              refine E_s (p' := 86) (st' := aI 0 :: _) rfl rfl ?_
              refine E_ret rfl rfl ?_
              refine E_ret rfl rfl ?_
              refine E_s (p' := 1174) rfl rfl ?_
              refine E_s (p' := 1177) (L' := [some (aA 0), some (aA 1), some (aA 124), some (aI 6)]) rfl rfl ?_
              refine E_s (p' := 18) rfl rfl ?_
              refine E_s (p' := 19) (st' := aI 6 :: _) rfl rfl ?_
              refine E_s (p' := 20) (st' := aA 0 :: _) rfl rfl ?_
              refine E_s (p' := 21) (st' := aI 6 :: _) rfl rfl ?_
              refine E_s (p' := 23) (st' := aI 6 :: _) rfl rfl ?_
              refine E_s (p' := 24) (st' := aI 0 :: _) rfl rfl ?_
              refine E_s (p' := 1180) rfl rfl ?_
              refine E_s (p' := 1181) (st' := aI 1 :: _) rfl rfl ?_
              exact E_ret rfl rfl ⟨rfl, rfl⟩
