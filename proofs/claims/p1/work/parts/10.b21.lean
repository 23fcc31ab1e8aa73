set_option maxRecDepth 100000 in
set_option maxHeartbeats 40000000 in
theorem pc_27_0_3 (xs : Nat → Int) {z a3 a4 a5 : Int} (hz : b32 (fun a b => a &&& b) z 31 = 27) (h0 : xs 0 = z) (h1 : xs 1 = 0) (h2 : xs 2 = 3) (h3 : xs 3 = a3) (h4 : xs 4 = a4) (h5 : xs 5 = a5) : E 0 18 LL [] (s0 xs 6) PQ := by
  refine E_s (p' := 19) (st' := aI 0 :: _) rfl rfl ?_
  refine E_s (p' := 20) (st' := aA 0 :: _) rfl rfl ?_
  refine E_s (p' := 21) (st' := aI 6 :: _) rfl rfl ?_
  refine E_s (p' := 23) (st' := aI 6 :: _) rfl rfl ?_
  refine E_s (p' := 24) (st' := aI 0 :: _) rfl rfl ?_
  refine E_s (p' := 27) rfl rfl ?_
  refine E_s (p' := 28) (st' := aA 0 :: _) rfl rfl ?_
  refine E_s (p' := 29) (st' := aI 0 :: _) rfl rfl ?_
  refine E_scr rfl rfl h0 ?_
  refine E_s (p' := 32) (st' := aI 31 :: _) rfl rfl ?_
  refine E_s (p' := 33) rfl rfl ?_
  refine E_val hz ?_
  refine E_s (p' := 1141) rfl rfl ?_
  refine E_s (p' := 1142) (st' := aA 1 :: _) rfl rfl ?_
  refine E_s (p' := 1143) (st' := aA 0 :: _) rfl rfl ?_
  refine E_s (p' := 1144) (st' := aI 0 :: _) rfl rfl ?_
  refine E_s (p' := 1145) (st' := aI 1 :: _) rfl rfl ?_
  refine E_s (p' := 1146) (st' := aI 1 :: _) rfl rfl ?_
  refine E_scr rfl rfl h1 ?_
  refine E_s (p' := 1148) (st' := aA 0 :: _) rfl rfl ?_
  refine E_s (p' := 1149) (st' := aI 0 :: _) rfl rfl ?_
  refine E_s (p' := 1150) (st' := aI 2 :: _) rfl rfl ?_
  refine E_s (p' := 1151) (st' := aI 2 :: _) rfl rfl ?_
  refine E_scr rfl rfl h2 ?_
  refine E_callL (p' := 1155) (L0 := [some (aA 1), some (aI 0), some (aI 3), none]) rfl rfl rfl ?_
  refine E_s (p' := 1) (st' := aA 1 :: _) rfl rfl ?_
  refine E_s (p' := 2) (st' := aI 0 :: _) rfl rfl ?_
  refine E_callL (p' := 5) (L0 := [some (aA 1), some (aI 0)]) rfl rfl rfl ?_
  refine E_s (p' := 1) (st' := aI 0 :: _) rfl rfl ?_
  refine E_s (p' := 4) rfl rfl ?_
  refine E_s (p' := 5) (st' := aI 0 :: _) rfl rfl ?_
  refine E_s (p' := 6) (st' := aI 4 :: _) rfl rfl ?_
  refine E_s (p' := 9) rfl rfl ?_
  refine E_s (p' := 10) (st' := aA 1 :: _) rfl rfl ?_
  refine E_s (p' := 13) (st' := aA 2 :: _) rfl rfl ?_
  refine E_s (p' := 14) (st' := aI 0 :: _) rfl rfl ?_
  refine E_s (p' := 15) (st' := aA 20 :: _) rfl rfl ?_
  refine E_s (p' := 19) rfl rfl ?_
  refine E_ret rfl rfl ?_
  refine E_s (p' := 6) (L' := [some (aA 1), some (aI 0), some (aI 3), some (aA 20)]) rfl rfl ?_
  refine E_s (p' := 7) (st' := aA 20 :: _) rfl rfl ?_
  refine E_s (p' := 12) rfl rfl ?_
  refine E_s (p' := 13) (st' := aI 3 :: _) rfl rfl ?_
  refine E_s (p' := 80) rfl rfl ?_
  refine E_s (p' := 81) (st' := aA 20 :: _) rfl rfl ?_
  refine E_s (p' := 84) (st' := aI 15 :: _) rfl rfl ?_
  refine E_ret rfl rfl ?_
  refine E_s (p' := 1156) (st' := aA 124 :: _) rfl rfl ?_
  refine E_s (p' := 1157) (st' := aA 0 :: _) rfl rfl ?_
  refine E_s (p' := 1158) (st' := aI 0 :: _) rfl rfl ?_
  refine E_s (p' := 1159) (st' := aI 1 :: _) rfl rfl ?_
  refine E_s (p' := 1160) (st' := aI 1 :: _) rfl rfl ?_
  refine E_scr rfl rfl h1 ?_
  refine E_s (p' := 1162) (st' := aA 0 :: _) rfl rfl ?_
  refine E_s (p' := 1163) (st' := aI 0 :: _) rfl rfl ?_
  refine E_s (p' := 1164) (st' := aI 2 :: _) rfl rfl ?_
  refine E_s (p' := 1165) (st' := aI 2 :: _) rfl rfl ?_
  refine E_scr rfl rfl h2 ?_
  refine E_callL (p' := 1169) (L0 := [some (aA 124), some (aI 0), some (aI 3), none, none]) rfl rfl rfl ?_
  refine E_s (p' := 1) (st' := aI 0 :: _) rfl rfl ?_
  refine E_callL (p' := 4) (L0 := [some (aI 0)]) rfl rfl rfl ?_
  refine E_s (p' := 1) (st' := aI 0 :: _) rfl rfl ?_
  refine E_s (p' := 2) (st' := aI 0 :: _) rfl rfl ?_
  refine E_s (p' := 3) (st' := aI 3 :: _) rfl rfl ?_
  refine E_callL (p' := 6) (L0 := [some (aI 0), some (aI 0), some (aI 3)]) rfl rfl rfl ?_
  refine E_s (p' := 1) (st' := aI 0 :: _) rfl rfl ?_
  refine E_s (p' := 2) (st' := aI 0 :: _) rfl rfl ?_
  refine E_s (p' := 5) rfl rfl ?_
  refine E_s (p' := 6) (st' := aI 0 :: _) rfl rfl ?_
  refine E_s (p' := 7) (st' := aI 3 :: _) rfl rfl ?_
  refine E_s (p' := 10) rfl rfl ?_
  refine E_s (p' := 11) (st' := aI 1 :: _) rfl rfl ?_
  refine E_s (p' := 15) rfl rfl ?_
  refine E_ret rfl rfl ?_
  refine E_ret rfl rfl ?_
  refine E_s (p' := 9) rfl rfl ?_
  refine E_s (p' := 10) (st' := aI 0 :: _) rfl rfl ?_
  refine E_s (p' := 11) (L' := [some (aA 124), some (aI 0), some (aI 3), some (aI 0), none]) rfl rfl ?_
  refine E_s (p' := 12) (st' := aI 3 :: _) rfl rfl ?_
  refine E_s (p' := 107) rfl rfl ?_
  refine E_s (p' := 108) (st' := aA 124 :: _) rfl rfl ?_
  refine E_s (p' := 111) (st' := aA 126 :: _) rfl rfl ?_
  refine E_s (p' := 112) (st' := aI 0 :: _) rfl rfl ?_
  refine E_s (p' := 113) (st' := aI 15 :: _) rfl rfl ?_
  refine E_ret rfl rfl ?_
  refine E_s (p' := 1174) rfl rfl ?_
  refine E_s (p' := 1177) (L' := [some (aA 0), some (aA 1), some (aA 124), some (aI 6)]) rfl rfl ?_
  refine E_s (p' := 18) rfl rfl ?_
  refine E_s (p' := 19) (st' := aI 6 :: _) rfl rfl ?_
  refine E_s (p' := 20) (st' := aA 0 :: _) rfl rfl ?_
  refine E_s (p' := 21) (st' := aI 6 :: _) rfl rfl ?_
  refine E_s (p' := 23) (st' := aI 6 :: _) rfl rfl ?_
  refine E_s (p' := 24) (st' := aI 0 :: _) rfl rfl ?_
  refine E_s (p' := 1180) rfl rfl ?_
  refine E_s (p' := 1181) (st' := aI 1 :: _) rfl rfl ?_
  exact E_ret rfl rfl ⟨rfl, rfl⟩
set_option maxRecDepth 100000 in
set_option maxHeartbeats 40000000 in
theorem pc_27_0_4 (xs : Nat → Int) {z a3 a4 a5 : Int} (hz : b32 (fun a b => a &&& b) z 31 = 27) (h0 : xs 0 = z) (h1 : xs 1 = 0) (h2 : xs 2 = 4) (h3 : xs 3 = a3) (h4 : xs 4 = a4) (h5 : xs 5 = a5) : E 0 18 LL [] (s0 xs 6) PQ := by
  refine E_s (p' := 19) (st' := aI 0 :: _) rfl rfl ?_
  refine E_s (p' := 20) (st' := aA 0 :: _) rfl rfl ?_
  refine E_s (p' := 21) (st' := aI 6 :: _) rfl rfl ?_
  refine E_s (p' := 23) (st' := aI 6 :: _) rfl rfl ?_
  refine E_s (p' := 24) (st' := aI 0 :: _) rfl rfl ?_
  refine E_s (p' := 27) rfl rfl ?_
  refine E_s (p' := 28) (st' := aA 0 :: _) rfl rfl ?_
  refine E_s (p' := 29) (st' := aI 0 :: _) rfl rfl ?_
  refine E_scr rfl rfl h0 ?_
  refine E_s (p' := 32) (st' := aI 31 :: _) rfl rfl ?_
  refine E_s (p' := 33) rfl rfl ?_
  refine E_val hz ?_
  refine E_s (p' := 1141) rfl rfl ?_
  refine E_s (p' := 1142) (st' := aA 1 :: _) rfl rfl ?_
  refine E_s (p' := 1143) (st' := aA 0 :: _) rfl rfl ?_
  refine E_s (p' := 1144) (st' := aI 0 :: _) rfl rfl ?_
  refine E_s (p' := 1145) (st' := aI 1 :: _) rfl rfl ?_
  refine E_s (p' := 1146) (st' := aI 1 :: _) rfl rfl ?_
  refine E_scr rfl rfl h1 ?_
  refine E_s (p' := 1148) (st' := aA 0 :: _) rfl rfl ?_
  refine E_s (p' := 1149) (st' := aI 0 :: _) rfl rfl ?_
  refine E_s (p' := 1150) (st' := aI 2 :: _) rfl rfl ?_
  refine E_s (p' := 1151) (st' := aI 2 :: _) rfl rfl ?_
  refine E_scr rfl rfl h2 ?_
  refine E_callL (p' := 1155) (L0 := [some (aA 1), some (aI 0), some (aI 4), none]) rfl rfl rfl ?_
  refine E_s (p' := 1) (st' := aA 1 :: _) rfl rfl ?_
  refine E_s (p' := 2) (st' := aI 0 :: _) rfl rfl ?_
  refine E_callL (p' := 5) (L0 := [some (aA 1), some (aI 0)]) rfl rfl rfl ?_
  refine E_s (p' := 1) (st' := aI 0 :: _) rfl rfl ?_
  refine E_s (p' := 4) rfl rfl ?_
  refine E_s (p' := 5) (st' := aI 0 :: _) rfl rfl ?_
  refine E_s (p' := 6) (st' := aI 4 :: _) rfl rfl ?_
  refine E_s (p' := 9) rfl rfl ?_
  refine E_s (p' := 10) (st' := aA 1 :: _) rfl rfl ?_
  refine E_s (p' := 13) (st' := aA 2 :: _) rfl rfl ?_
  refine E_s (p' := 14) (st' := aI 0 :: _) rfl rfl ?_
  refine E_s (p' := 15) (st' := aA 20 :: _) rfl rfl ?_
  refine E_s (p' := 19) rfl rfl ?_
  refine E_ret rfl rfl ?_
  refine E_s (p' := 6) (L' := [some (aA 1), some (aI 0), some (aI 4), some (aA 20)]) rfl rfl ?_
  refine E_s (p' := 7) (st' := aA 20 :: _) rfl rfl ?_
  refine E_s (p' := 12) rfl rfl ?_
  refine E_s (p' := 13) (st' := aI 4 :: _) rfl rfl ?_
  refine E_s (p' := 85) rfl rfl ?_
  refine E_s (p' := 86) (st' := aA 20 :: _) rfl rfl ?_
  refine E_s (p' := 89) (st' := aA 21 :: _) rfl rfl ?_
  refine E_callL (p' := 92) (L0 := [some (aA 21), none, none]) rfl rfl rfl ?_
  refine E_s (p' := 1) (st' := aI 0 :: _) rfl rfl ?_
  refine E_s (p' := 2) (L' := [some (aA 21), some (aI 0), none]) rfl rfl ?_
  refine E_s (p' := 3) (st' := aI 0 :: _) rfl rfl ?_
  refine E_s (p' := 4) (L' := [some (aA 21), some (aI 0), some (aI 0)]) rfl rfl ?_
  refine E_s (p' := 5) (st' := aI 0 :: _) rfl rfl ?_
  refine E_s (p' := 6) (st' := aA 21 :: _) rfl rfl ?_
  refine E_s (p' := 9) (st' := aI 0 :: _) rfl rfl ?_
  refine E_s (p' := 35) rfl rfl ?_
  refine E_s (p' := 36) (st' := aI 0 :: _) rfl rfl ?_
  refine E_ret rfl rfl ?_
  refine E_ret rfl rfl ?_
  refine E_s (p' := 1156) (st' := aA 124 :: _) rfl rfl ?_
  refine E_s (p' := 1157) (st' := aA 0 :: _) rfl rfl ?_
  refine E_s (p' := 1158) (st' := aI 0 :: _) rfl rfl ?_
  refine E_s (p' := 1159) (st' := aI 1 :: _) rfl rfl ?_
  refine E_s (p' := 1160) (st' := aI 1 :: _) rfl rfl ?_
  refine E_scr rfl rfl h1 ?_
  refine E_s (p' := 1162) (st' := aA 0 :: _) rfl rfl ?_
  refine E_s (p' := 1163) (st' := aI 0 :: _) rfl rfl ?_
  refine E_s (p' := 1164) (st' := aI 2 :: _) rfl rfl ?_
  refine E_s (p' := 1165) (st' := aI 2 :: _) rfl rfl ?_
  refine E_scr rfl rfl h2 ?_
  refine E_callL (p' := 1169) (L0 := [some (aA 124), some (aI 0), some (aI 4), none, none]) rfl rfl rfl ?_
  refine E_s (p' := 1) (st' := aI 0 :: _) rfl rfl ?_
  refine E_callL (p' := 4) (L0 := [some (aI 0)]) rfl rfl rfl ?_
  refine E_s (p' := 1) (st' := aI 0 :: _) rfl rfl ?_
  refine E_s (p' := 2) (st' := aI 0 :: _) rfl rfl ?_
  refine E_s (p' := 3) (st' := aI 3 :: _) rfl rfl ?_
  refine E_callL (p' := 6) (L0 := [some (aI 0), some (aI 0), some (aI 3)]) rfl rfl rfl ?_
  refine E_s (p' := 1) (st' := aI 0 :: _) rfl rfl ?_
  refine E_s (p' := 2) (st' := aI 0 :: _) rfl rfl ?_
  refine E_s (p' := 5) rfl rfl ?_
  refine E_s (p' := 6) (st' := aI 0 :: _) rfl rfl ?_
  refine E_s (p' := 7) (st' := aI 3 :: _) rfl rfl ?_
  refine E_s (p' := 10) rfl rfl ?_
  refine E_s (p' := 11) (st' := aI 1 :: _) rfl rfl ?_
  refine E_s (p' := 15) rfl rfl ?_
  refine E_ret rfl rfl ?_
  refine E_ret rfl rfl ?_
  refine E_s (p' := 9) rfl rfl ?_
  refine E_s (p' := 10) (st' := aI 0 :: _) rfl rfl ?_
  refine E_s (p' := 11) (L' := [some (aA 124), some (aI 0), some (aI 4), some (aI 0), none]) rfl rfl ?_
  refine E_s (p' := 12) (st' := aI 4 :: _) rfl rfl ?_
  refine E_s (p' := 114) rfl rfl ?_
  refine E_s (p' := 115) (st' := aI 0 :: _) rfl rfl ?_
  refine E_s (p' := 117) (L' := [some (aA 124), some (aI 0), some (aI 4), some (aI 0), some (aI 0)]) rfl rfl ?_
  refine E_s (p' := 119) (st' := aI 0 :: _) rfl rfl ?_
  refine E_s (p' := 120) (st' := aA 124 :: _) rfl rfl ?_
  refine E_s (p' := 123) (st' := aA 125 :: _) rfl rfl ?_
  refine E_s (p' := 124) (st' := aI 0 :: _) rfl rfl ?_
  refine E_s (p' := 125) (st' := aI 0 :: _) rfl rfl ?_
  refine E_s (p' := 158) rfl rfl ?_
  refine E_s (p' := 159) (st' := aI 0 :: _) rfl rfl ?_
  refine E_ret rfl rfl ?_
  refine E_s (p' := 1174) rfl rfl ?_
  refine E_s (p' := 1177) (L' := [some (aA 0), some (aA 1), some (aA 124), some (aI 6)]) rfl rfl ?_
  refine E_s (p' := 18) rfl rfl ?_
  refine E_s (p' := 19) (st' := aI 6 :: _) rfl rfl ?_
  refine E_s (p' := 20) (st' := aA 0 :: _) rfl rfl ?_
  refine E_s (p' := 21) (st' := aI 6 :: _) rfl rfl ?_
  refine E_s (p' := 23) (st' := aI 6 :: _) rfl rfl ?_
  refine E_s (p' := 24) (st' := aI 0 :: _) rfl rfl ?_
  refine E_s (p' := 1180) rfl rfl ?_
  refine E_s (p' := 1181) (st' := aI 1 :: _) rfl rfl ?_
  exact E_ret rfl rfl ⟨rfl, rfl⟩
set_option maxRecDepth 100000 in
set_option maxHeartbeats 40000000 in
theorem pc_27_0_5 (xs : Nat → Int) {z a3 a4 a5 : Int} (hz : b32 (fun a b => a &&& b) z 31 = 27) (h0 : xs 0 = z) (h1 : xs 1 = 0) (h2 : xs 2 = 5) (h3 : xs 3 = a3) (h4 : xs 4 = a4) (h5 : xs 5 = a5) : E 0 18 LL [] (s0 xs 6) PQ := by
  refine E_s (p' := 19) (st' := aI 0 :: _) rfl rfl ?_
  refine E_s (p' := 20) (st' := aA 0 :: _) rfl rfl ?_
  refine E_s (p' := 21) (st' := aI 6 :: _) rfl rfl ?_
  refine E_s (p' := 23) (st' := aI 6 :: _) rfl rfl ?_
  refine E_s (p' := 24) (st' := aI 0 :: _) rfl rfl ?_
  refine E_s (p' := 27) rfl rfl ?_
  refine E_s (p' := 28) (st' := aA 0 :: _) rfl rfl ?_
  refine E_s (p' := 29) (st' := aI 0 :: _) rfl rfl ?_
  refine E_scr rfl rfl h0 ?_
  refine E_s (p' := 32) (st' := aI 31 :: _) rfl rfl ?_
  refine E_s (p' := 33) rfl rfl ?_
  refine E_val hz ?_
  refine E_s (p' := 1141) rfl rfl ?_
  refine E_s (p' := 1142) (st' := aA 1 :: _) rfl rfl ?_
  refine E_s (p' := 1143) (st' := aA 0 :: _) rfl rfl ?_
  refine E_s (p' := 1144) (st' := aI 0 :: _) rfl rfl ?_
  refine E_s (p' := 1145) (st' := aI 1 :: _) rfl rfl ?_
  refine E_s (p' := 1146) (st' := aI 1 :: _) rfl rfl ?_
  refine E_scr rfl rfl h1 ?_
  refine E_s (p' := 1148) (st' := aA 0 :: _) rfl rfl ?_
  refine E_s (p' := 1149) (st' := aI 0 :: _) rfl rfl ?_
  refine E_s (p' := 1150) (st' := aI 2 :: _) rfl rfl ?_
  refine E_s (p' := 1151) (st' := aI 2 :: _) rfl rfl ?_
  refine E_scr rfl rfl h2 ?_
  refine E_callL (p' := 1155) (L0 := [some (aA 1), some (aI 0), some (aI 5), none]) rfl rfl rfl ?_
  refine E_s (p' := 1) (st' := aA 1 :: _) rfl rfl ?_
  refine E_s (p' := 2) (st' := aI 0 :: _) rfl rfl ?_
  refine E_callL (p' := 5) (L0 := [some (aA 1), some (aI 0)]) rfl rfl rfl ?_
  refine E_s (p' := 1) (st' := aI 0 :: _) rfl rfl ?_
  refine E_s (p' := 4) rfl rfl ?_
  refine E_s (p' := 5) (st' := aI 0 :: _) rfl rfl ?_
  refine E_s (p' := 6) (st' := aI 4 :: _) rfl rfl ?_
  refine E_s (p' := 9) rfl rfl ?_
  refine E_s (p' := 10) (st' := aA 1 :: _) rfl rfl ?_
  refine E_s (p' := 13) (st' := aA 2 :: _) rfl rfl ?_
  refine E_s (p' := 14) (st' := aI 0 :: _) rfl rfl ?_
  refine E_s (p' := 15) (st' := aA 20 :: _) rfl rfl ?_
  refine E_s (p' := 19) rfl rfl ?_
  refine E_ret rfl rfl ?_
  refine E_s (p' := 6) (L' := [some (aA 1), some (aI 0), some (aI 5), some (aA 20)]) rfl rfl ?_
  refine E_s (p' := 7) (st' := aA 20 :: _) rfl rfl ?_
  refine E_s (p' := 12) rfl rfl ?_
  refine E_s (p' := 13) (st' := aI 5 :: _) rfl rfl ?_
  refine E_s (p' := 93) rfl rfl ?_
  refine E_s (p' := 94) (st' := aA 20 :: _) rfl rfl ?_
  refine E_callL (p' := 97) (L0 := [some (aA 20)]) rfl rfl rfl ?_
  refine E_s (p' := 1) (st' := aA 20 :: _) rfl rfl ?_
  refine E_s (p' := 4) (st' := aI 0 :: _) rfl rfl ?_
  refine E_s (p' := 7) rfl rfl ?_
  refine E_s (p' := 8) (st' := aA 20 :: _) rfl rfl ?_
  refine E_s (p' := 11) (st' := aA 35 :: _) rfl rfl ?_
  refine E_s (p' := 12) (st' := aA 20 :: _) rfl rfl ?_
  refine E_s (p' := 15) (st' := aA 21 :: _) rfl rfl ?_
  refine E_s (p' := 16) (st' := aA 20 :: _) rfl rfl ?_
  refine E_s (p' := 19) (st' := aI 15 :: _) rfl rfl ?_
  refine E_callL (p' := 22) (L0 := [some (aA 35), some (aA 21), some (aI 15), none]) rfl rfl rfl ?_
  refine E_s (p' := 1) (st' := aA 35 :: _) rfl rfl ?_
  refine E_s (p' := 2) (st' := aA 21 :: _) rfl rfl ?_
  refine E_callL (p' := 5) (L0 := [some (aA 35), some (aA 21), none, none]) rfl rfl rfl ?_
  refine E_s (p' := 1) (st' := aA 35 :: _) rfl rfl ?_
  refine E_s (p' := 4) (st' := aA 44 :: _) rfl rfl ?_
  refine E_s (p' := 5) (st' := aI 0 :: _) rfl rfl ?_
  refine E_call rfl rfl ?_
  refine c_fill rfl rfl ?_
  refine E_s (p' := 9) (st' := aA 35 :: _) rfl rfl ?_
  refine E_s (p' := 12) (st' := aA 40 :: _) rfl rfl ?_
  refine E_s (p' := 13) (st' := aI 0 :: _) rfl rfl ?_
  refine E_call rfl rfl ?_
  refine c_fill rfl rfl ?_
  refine E_s (p' := 17) (st' := aA 35 :: _) rfl rfl ?_
  refine E_s (p' := 18) (st' := aI 0 :: _) rfl rfl ?_
  refine E_stM (p' := 21) (m' := up2 _ 35 10 0) rfl rfl ?_
  refine E_s (p' := 22) (st' := aA 35 :: _) rfl rfl ?_
  refine E_s (p' := 23) (st' := aI 0 :: _) rfl rfl ?_
  refine E_stM (p' := 26) (m' := up2 _ 35 11 0) rfl rfl ?_
  refine E_s (p' := 27) (st' := aI 0 :: _) rfl rfl ?_
  refine E_s (p' := 28) (L' := [some (aA 35), some (aA 21), some (aI 0), none]) rfl rfl ?_
  refine E_s (p' := 29) (st' := aI 0 :: _) rfl rfl ?_
  refine E_s (p' := 30) (st' := aA 21 :: _) rfl rfl ?_
  refine E_s (p' := 33) (st' := aI 0 :: _) rfl rfl ?_
  refine E_s (p' := 135) rfl rfl ?_
  refine E_ret rfl rfl ?_
  refine E_s (p' := 6) (st' := aA 35 :: _) rfl rfl ?_
  refine E_s (p' := 7) (st' := aI 15 :: _) rfl rfl ?_
  refine E_callL (p' := 10) (L0 := [some (aA 35), some (aI 15), none]) rfl rfl rfl ?_
  refine E_s (p' := 1) (st' := aA 35 :: _) rfl rfl ?_
  refine E_s (p' := 2) (st' := aI 0 :: _) rfl rfl ?_
  refine E_stM (p' := 5) (m' := up2 _ 35 12 0) rfl rfl ?_
  refine E_s (p' := 6) (st' := aI 1 :: _) rfl rfl ?_
  refine E_s (p' := 7) (L' := [some (aA 35), some (aI 15), some (aI 1)]) rfl rfl ?_
  refine fl_loop (gp := 0) (by decide) _ 600 1 _ rfl (fun j hj => show (if 0 ≤ j ∧ j < 601 then (0 : Int) else _) = 0 from if_pos ⟨Nat.zero_le _, hj⟩) ?_
  refine E_s (p' := 11) (st' := aA 35 :: _) rfl rfl ?_
  refine E_s (p' := 14) (st' := aI 0 :: _) rfl rfl ?_
  refine E_s (p' := 17) rfl rfl ?_
  refine E_s (p' := 18) (st' := aA 35 :: _) rfl rfl ?_
  refine E_callL (p' := 21) (L0 := [some (aA 35)]) rfl rfl rfl ?_
  refine E_s (p' := 1) (st' := aA 35 :: _) rfl rfl ?_
  refine E_s (p' := 4) (st' := aA 41 :: _) rfl rfl ?_
  refine E_s (p' := 5) (st' := aA 35 :: _) rfl rfl ?_
  refine E_s (p' := 8) (st' := aI 0 :: _) rfl rfl ?_
  refine E_s (p' := 15) rfl rfl ?_
  refine E_s (p' := 16) (st' := aI 0 :: _) rfl rfl ?_
  refine E_call rfl rfl ?_
  refine c_fill rfl rfl ?_
  refine E_s (p' := 20) (st' := aA 35 :: _) rfl rfl ?_
  refine E_s (p' := 23) (st' := aA 42 :: _) rfl rfl ?_
  refine E_s (p' := 24) (st' := aI 0 :: _) rfl rfl ?_
  refine E_call rfl rfl ?_
  refine c_fill rfl rfl ?_
  refine E_s (p' := 28) (st' := aA 35 :: _) rfl rfl ?_
  refine E_s (p' := 31) (st' := aA 43 :: _) rfl rfl ?_
  refine E_s (p' := 32) (st' := aI 0 :: _) rfl rfl ?_
  refine E_call rfl rfl ?_
  refine c_fill rfl rfl ?_
  refine E_ret rfl rfl ?_
  refine E_ret rfl rfl ?_
  refine E_s (p' := 23) (st' := aA 20 :: _) rfl rfl ?_
  refine E_s (p' := 24) (st' := aI 1 :: _) rfl rfl ?_
  refine E_stM (p' := 27) (m' := up2 _ 20 7 1) rfl rfl ?_
  refine E_s (p' := 28) (st' := aA 20 :: _) rfl rfl ?_
  refine E_s (p' := 31) (st' := aA 35 :: _) rfl rfl ?_
  refine E_ret rfl rfl ?_
  refine E_s (p' := 98) (st' := aA 20 :: _) rfl rfl ?_
  refine E_s (p' := 101) (st' := aA 21 :: _) rfl rfl ?_
  refine E_s (p' := 104) (st' := aI 0 :: _) rfl rfl ?_
  refine E_callL (p' := 107) (L0 := [some (aA 35), some (aI 0), none, none]) rfl rfl rfl ?_
  refine E_s (p' := 1) (st' := aI 0 :: _) rfl rfl ?_
  refine E_s (p' := 2) (L' := [some (aA 35), some (aI 0), some (aI 0), none]) rfl rfl ?_
  refine E_s (p' := 3) (st' := aI 0 :: _) rfl rfl ?_
  refine E_s (p' := 4) (L' := [some (aA 35), some (aI 0), some (aI 0), some (aI 0)]) rfl rfl ?_
  refine E_s (p' := 5) (st' := aI 0 :: _) rfl rfl ?_
  refine E_s (p' := 6) (st' := aI 0 :: _) rfl rfl ?_
  refine E_s (p' := 32) rfl rfl ?_
  refine E_s (p' := 33) (st' := aI 0 :: _) rfl rfl ?_
  refine E_ret rfl rfl ?_
  refine E_ret rfl rfl ?_
  refine E_s (p' := 1156) (st' := aA 124 :: _) rfl rfl ?_
  refine E_s (p' := 1157) (st' := aA 0 :: _) rfl rfl ?_
  refine E_s (p' := 1158) (st' := aI 0 :: _) rfl rfl ?_
  refine E_s (p' := 1159) (st' := aI 1 :: _) rfl rfl ?_
  refine E_s (p' := 1160) (st' := aI 1 :: _) rfl rfl ?_
  refine E_scr rfl rfl h1 ?_
  refine E_s (p' := 1162) (st' := aA 0 :: _) rfl rfl ?_
  refine E_s (p' := 1163) (st' := aI 0 :: _) rfl rfl ?_
  refine E_s (p' := 1164) (st' := aI 2 :: _) rfl rfl ?_
  refine E_s (p' := 1165) (st' := aI 2 :: _) rfl rfl ?_
  refine E_scr rfl rfl h2 ?_
  refine E_callL (p' := 1169) (L0 := [some (aA 124), some (aI 0), some (aI 5), none, none]) rfl rfl rfl ?_
  refine E_s (p' := 1) (st' := aI 0 :: _) rfl rfl ?_
  refine E_callL (p' := 4) (L0 := [some (aI 0)]) rfl rfl rfl ?_
  refine E_s (p' := 1) (st' := aI 0 :: _) rfl rfl ?_
  refine E_s (p' := 2) (st' := aI 0 :: _) rfl rfl ?_
  refine E_s (p' := 3) (st' := aI 3 :: _) rfl rfl ?_
  refine E_callL (p' := 6) (L0 := [some (aI 0), some (aI 0), some (aI 3)]) rfl rfl rfl ?_
  refine E_s (p' := 1) (st' := aI 0 :: _) rfl rfl ?_
  refine E_s (p' := 2) (st' := aI 0 :: _) rfl rfl ?_
  refine E_s (p' := 5) rfl rfl ?_
  refine E_s (p' := 6) (st' := aI 0 :: _) rfl rfl ?_
  refine E_s (p' := 7) (st' := aI 3 :: _) rfl rfl ?_
  refine E_s (p' := 10) rfl rfl ?_
  refine E_s (p' := 11) (st' := aI 1 :: _) rfl rfl ?_
  refine E_s (p' := 15) rfl rfl ?_
  refine E_ret rfl rfl ?_
  refine E_ret rfl rfl ?_
  refine E_s (p' := 9) rfl rfl ?_
  refine E_s (p' := 10) (st' := aI 0 :: _) rfl rfl ?_
  refine E_s (p' := 11) (L' := [some (aA 124), some (aI 0), some (aI 5), some (aI 0), none]) rfl rfl ?_
  refine E_s (p' := 12) (st' := aI 5 :: _) rfl rfl ?_
  refine E_s (p' := 160) rfl rfl ?_
  refine E_s (p' := 161) (st' := aA 124 :: _) rfl rfl ?_
  refine E_s (p' := 162) (st' := aI 0 :: _) rfl rfl ?_
  refine E_s (p' := 163) (st' := aA 124 :: _) rfl rfl ?_
  refine E_s (p' := 166) (st' := aA 148 :: _) rfl rfl ?_
  refine E_callL (p' := 169) (L0 := [some (aA 124), some (aI 0), some (aA 148), none]) rfl rfl rfl ?_
  refine E_s (p' := 1) (st' := aA 124 :: _) rfl rfl ?_
  refine E_s (p' := 2) (st' := aI 0 :: _) rfl rfl ?_
  refine E_callL (p' := 5) (L0 := [some (aA 124), some (aI 0), none, none]) rfl rfl rfl ?_
  refine E_s (p' := 1) (st' := aI 0 :: _) rfl rfl ?_
  refine E_s (p' := 2) (L' := [some (aA 124), some (aI 0), some (aI 0), none]) rfl rfl ?_
  refine mr_loop1 _ 601 0 _ rfl ?_
  refine E_s (p' := 23) (st' := aA 124 :: _) rfl rfl ?_
  refine E_s (p' := 24) (st' := aI 0 :: _) rfl rfl ?_
  refine E_stM (p' := 27) (m' := up2 _ 124 25 0) rfl rfl ?_
  refine E_s (p' := 28) (st' := aA 124 :: _) rfl rfl ?_
  refine E_s (p' := 29) (st' := aI 0 :: _) rfl rfl ?_
  refine E_stM (p' := 32) (m' := up2 _ 124 26 0) rfl rfl ?_
  refine E_s (p' := 33) (st' := aI 0 :: _) rfl rfl ?_
  refine E_s (p' := 34) (L' := [some (aA 124), some (aI 0), some (aI 0), none]) rfl rfl ?_
  refine E_s (p' := 35) (st' := aI 0 :: _) rfl rfl ?_
  refine E_s (p' := 36) (st' := aA 124 :: _) rfl rfl ?_
  refine E_s (p' := 39) (st' := aA 125 :: _) rfl rfl ?_
  refine E_s (p' := 40) (st' := aI 0 :: _) rfl rfl ?_
  refine E_s (p' := 41) (st' := aI 0 :: _) rfl rfl ?_
  refine E_s (p' := 121) rfl rfl ?_
  refine E_s (p' := 122) (st' := aA 124 :: _) rfl rfl ?_
  refine E_s (p' := 123) (st' := aI 0 :: _) rfl rfl ?_
  refine E_stM (p' := 126) (m' := up2 _ 124 24 0) rfl rfl ?_
  refine E_s (p' := 127) (st' := aI 0 :: _) rfl rfl ?_
  refine E_s (p' := 128) (L' := [some (aA 124), some (aI 0), some (aI 0), none]) rfl rfl ?_
  refine mr_loop3 _ 601 0 _ rfl (fun j hj => show (if 0 ≤ j ∧ j < 601 then (0 : Int) else _) = 0 from if_pos ⟨Nat.zero_le _, hj⟩) ?_
  refine E_s (p' := 245) (st' := aA 124 :: _) rfl rfl ?_
  refine E_s (p' := 248) (st' := aI 0 :: _) rfl rfl ?_
  refine E_s (p' := 249) (st' := aA 124 :: _) rfl rfl ?_
  refine E_s (p' := 252) (st' := aI 0 :: _) rfl rfl ?_
  refine E_s (p' := 259) rfl rfl ?_
  refine E_s (p' := 260) (st' := aI 1 :: _) rfl rfl ?_
  refine E_s (p' := 261) (st' := aI 1 :: _) rfl rfl ?_
  refine E_s (p' := 263) (st' := aI 6 :: _) rfl rfl ?_
  refine E_s (p' := 271) rfl rfl ?_
  refine E_s (p' := 272) (st' := aA 124 :: _) rfl rfl ?_
  refine E_s (p' := 275) (st' := aI 0 :: _) rfl rfl ?_
  refine E_s (p' := 282) rfl rfl ?_
  refine E_s (p' := 283) (st' := aI 0 :: _) rfl rfl ?_
  refine E_ret rfl rfl ?_
  refine E_s (p' := 6) rfl rfl ?_
  refine E_s (p' := 7) (st' := aI 0 :: _) rfl rfl ?_
  refine E_s (p' := 8) (L' := [some (aA 124), some (aI 0), some (aA 148), some (aI 0)]) rfl rfl ?_
  refine E_s (p' := 9) (st' := aI 0 :: _) rfl rfl ?_
  refine E_s (p' := 10) (st' := aA 124 :: _) rfl rfl ?_
  refine E_s (p' := 13) (st' := aA 125 :: _) rfl rfl ?_
  refine E_s (p' := 14) (st' := aI 0 :: _) rfl rfl ?_
  refine E_s (p' := 15) (st' := aI 0 :: _) rfl rfl ?_
  refine E_s (p' := 58) rfl rfl ?_
  refine E_ret rfl rfl ?_
  refine E_s (p' := 170) (st' := aI 0 :: _) rfl rfl ?_
  refine E_s (p' := 172) (L' := [some (aA 124), some (aI 0), some (aI 5), some (aI 0), some (aI 0)]) rfl rfl ?_
  refine E_s (p' := 174) (st' := aI 0 :: _) rfl rfl ?_
  refine E_s (p' := 175) (st' := aA 124 :: _) rfl rfl ?_
  refine E_s (p' := 178) (st' := aA 125 :: _) rfl rfl ?_
  refine E_s (p' := 179) (st' := aI 0 :: _) rfl rfl ?_
  refine E_s (p' := 180) (st' := aI 0 :: _) rfl rfl ?_
  refine E_s (p' := 207) rfl rfl ?_
  refine E_s (p' := 208) (st' := aI 0 :: _) rfl rfl ?_
  refine E_ret rfl rfl ?_
  refine E_s (p' := 1174) rfl rfl ?_
  refine E_s (p' := 1177) (L' := [some (aA 0), some (aA 1), some (aA 124), some (aI 6)]) rfl rfl ?_
  refine E_s (p' := 18) rfl rfl ?_
  refine E_s (p' := 19) (st' := aI 6 :: _) rfl rfl ?_
  refine E_s (p' := 20) (st' := aA 0 :: _) rfl rfl ?_
  refine E_s (p' := 21) (st' := aI 6 :: _) rfl rfl ?_
  refine E_s (p' := 23) (st' := aI 6 :: _) rfl rfl ?_
  refine E_s (p' := 24) (st' := aI 0 :: _) rfl rfl ?_
  refine E_s (p' := 1180) rfl rfl ?_
  refine E_s (p' := 1181) (st' := aI 1 :: _) rfl rfl ?_
  exact E_ret rfl rfl ⟨rfl, rfl⟩
set_option maxRecDepth 100000 in
set_option maxHeartbeats 40000000 in
theorem pc_27_0_6 (xs : Nat → Int) {z a3 a4 a5 : Int} (hz : b32 (fun a b => a &&& b) z 31 = 27) (h0 : xs 0 = z) (h1 : xs 1 = 0) (h2 : xs 2 = 6) (h3 : xs 3 = a3) (h4 : xs 4 = a4) (h5 : xs 5 = a5) : E 0 18 LL [] (s0 xs 6) PQ := by
  refine E_s (p' := 19) (st' := aI 0 :: _) rfl rfl ?_
  refine E_s (p' := 20) (st' := aA 0 :: _) rfl rfl ?_
  refine E_s (p' := 21) (st' := aI 6 :: _) rfl rfl ?_
  refine E_s (p' := 23) (st' := aI 6 :: _) rfl rfl ?_
  refine E_s (p' := 24) (st' := aI 0 :: _) rfl rfl ?_
  refine E_s (p' := 27) rfl rfl ?_
  refine E_s (p' := 28) (st' := aA 0 :: _) rfl rfl ?_
  refine E_s (p' := 29) (st' := aI 0 :: _) rfl rfl ?_
  refine E_scr rfl rfl h0 ?_
  refine E_s (p' := 32) (st' := aI 31 :: _) rfl rfl ?_
  refine E_s (p' := 33) rfl rfl ?_
  refine E_val hz ?_
  refine E_s (p' := 1141) rfl rfl ?_
  refine E_s (p' := 1142) (st' := aA 1 :: _) rfl rfl ?_
  refine E_s (p' := 1143) (st' := aA 0 :: _) rfl rfl ?_
  refine E_s (p' := 1144) (st' := aI 0 :: _) rfl rfl ?_
  refine E_s (p' := 1145) (st' := aI 1 :: _) rfl rfl ?_
  refine E_s (p' := 1146) (st' := aI 1 :: _) rfl rfl ?_
  refine E_scr rfl rfl h1 ?_
  refine E_s (p' := 1148) (st' := aA 0 :: _) rfl rfl ?_
  refine E_s (p' := 1149) (st' := aI 0 :: _) rfl rfl ?_
  refine E_s (p' := 1150) (st' := aI 2 :: _) rfl rfl ?_
  refine E_s (p' := 1151) (st' := aI 2 :: _) rfl rfl ?_
  refine E_scr rfl rfl h2 ?_
  refine E_callL (p' := 1155) (L0 := [some (aA 1), some (aI 0), some (aI 6), none]) rfl rfl rfl ?_
  refine E_s (p' := 1) (st' := aA 1 :: _) rfl rfl ?_
  refine E_s (p' := 2) (st' := aI 0 :: _) rfl rfl ?_
  refine E_callL (p' := 5) (L0 := [some (aA 1), some (aI 0)]) rfl rfl rfl ?_
  refine E_s (p' := 1) (st' := aI 0 :: _) rfl rfl ?_
  refine E_s (p' := 4) rfl rfl ?_
  refine E_s (p' := 5) (st' := aI 0 :: _) rfl rfl ?_
  refine E_s (p' := 6) (st' := aI 4 :: _) rfl rfl ?_
  refine E_s (p' := 9) rfl rfl ?_
  refine E_s (p' := 10) (st' := aA 1 :: _) rfl rfl ?_
  refine E_s (p' := 13) (st' := aA 2 :: _) rfl rfl ?_
  refine E_s (p' := 14) (st' := aI 0 :: _) rfl rfl ?_
  refine E_s (p' := 15) (st' := aA 20 :: _) rfl rfl ?_
  refine E_s (p' := 19) rfl rfl ?_
  refine E_ret rfl rfl ?_
  refine E_s (p' := 6) (L' := [some (aA 1), some (aI 0), some (aI 6), some (aA 20)]) rfl rfl ?_
  refine E_s (p' := 7) (st' := aA 20 :: _) rfl rfl ?_
  refine E_s (p' := 12) rfl rfl ?_
  refine E_s (p' := 13) (st' := aI 6 :: _) rfl rfl ?_
  refine E_s (p' := 108) rfl rfl ?_
  refine E_s (p' := 109) (st' := aA 20 :: _) rfl rfl ?_
  refine E_s (p' := 112) (st' := aA 21 :: _) rfl rfl ?_
  refine E_s (p' := 113) (st' := aI (-1) :: _) rfl rfl ?_
  refine E_callL (p' := 116) (L0 := [some (aA 21), some (aI (-1)), none, none]) rfl rfl rfl ?_
  refine E_s (p' := 1) (st' := aI 0 :: _) rfl rfl ?_
  refine E_s (p' := 2) (L' := [some (aA 21), some (aI (-1)), some (aI 0), none]) rfl rfl ?_
  refine E_s (p' := 3) (st' := aI 0 :: _) rfl rfl ?_
  refine E_s (p' := 4) (L' := [some (aA 21), some (aI (-1)), some (aI 0), some (aI 0)]) rfl rfl ?_
  refine E_s (p' := 5) (st' := aI 0 :: _) rfl rfl ?_
  refine E_s (p' := 6) (st' := aA 21 :: _) rfl rfl ?_
  refine E_s (p' := 9) (st' := aI 0 :: _) rfl rfl ?_
  refine E_s (p' := 36) rfl rfl ?_
  refine E_s (p' := 37) (st' := aI 0 :: _) rfl rfl ?_
  refine E_ret rfl rfl ?_
  refine E_ret rfl rfl ?_
  refine E_s (p' := 1156) (st' := aA 124 :: _) rfl rfl ?_
  refine E_s (p' := 1157) (st' := aA 0 :: _) rfl rfl ?_
  refine E_s (p' := 1158) (st' := aI 0 :: _) rfl rfl ?_
  refine E_s (p' := 1159) (st' := aI 1 :: _) rfl rfl ?_
  refine E_s (p' := 1160) (st' := aI 1 :: _) rfl rfl ?_
  refine E_scr rfl rfl h1 ?_
  refine E_s (p' := 1162) (st' := aA 0 :: _) rfl rfl ?_
  refine E_s (p' := 1163) (st' := aI 0 :: _) rfl rfl ?_
  refine E_s (p' := 1164) (st' := aI 2 :: _) rfl rfl ?_
  refine E_s (p' := 1165) (st' := aI 2 :: _) rfl rfl ?_
  refine E_scr rfl rfl h2 ?_
  refine E_callL (p' := 1169) (L0 := [some (aA 124), some (aI 0), some (aI 6), none, none]) rfl rfl rfl ?_
  refine E_s (p' := 1) (st' := aI 0 :: _) rfl rfl ?_
  refine E_callL (p' := 4) (L0 := [some (aI 0)]) rfl rfl rfl ?_
  refine E_s (p' := 1) (st' := aI 0 :: _) rfl rfl ?_
  refine E_s (p' := 2) (st' := aI 0 :: _) rfl rfl ?_
  refine E_s (p' := 3) (st' := aI 3 :: _) rfl rfl ?_
  refine E_callL (p' := 6) (L0 := [some (aI 0), some (aI 0), some (aI 3)]) rfl rfl rfl ?_
  refine E_s (p' := 1) (st' := aI 0 :: _) rfl rfl ?_
  refine E_s (p' := 2) (st' := aI 0 :: _) rfl rfl ?_
  refine E_s (p' := 5) rfl rfl ?_
  refine E_s (p' := 6) (st' := aI 0 :: _) rfl rfl ?_
  refine E_s (p' := 7) (st' := aI 3 :: _) rfl rfl ?_
  refine E_s (p' := 10) rfl rfl ?_
  refine E_s (p' := 11) (st' := aI 1 :: _) rfl rfl ?_
  refine E_s (p' := 15) rfl rfl ?_
  refine E_ret rfl rfl ?_
  refine E_ret rfl rfl ?_
  refine E_s (p' := 9) rfl rfl ?_
  refine E_s (p' := 10) (st' := aI 0 :: _) rfl rfl ?_
  refine E_s (p' := 11) (L' := [some (aA 124), some (aI 0), some (aI 6), some (aI 0), none]) rfl rfl ?_
  refine E_s (p' := 12) (st' := aI 6 :: _) rfl rfl ?_
  refine E_s (p' := 209) rfl rfl ?_
  refine E_s (p' := 210) (st' := aI 0 :: _) rfl rfl ?_
  refine E_s (p' := 212) (L' := [some (aA 124), some (aI 0), some (aI 6), some (aI 0), some (aI 0)]) rfl rfl ?_
  refine E_s (p' := 214) (st' := aI 0 :: _) rfl rfl ?_
  refine E_s (p' := 215) (st' := aA 124 :: _) rfl rfl ?_
  refine E_s (p' := 218) (st' := aA 125 :: _) rfl rfl ?_
  refine E_s (p' := 219) (st' := aI 0 :: _) rfl rfl ?_
  refine E_s (p' := 220) (st' := aI 0 :: _) rfl rfl ?_
  refine E_s (p' := 253) rfl rfl ?_
  refine E_s (p' := 254) (st' := aI 0 :: _) rfl rfl ?_
  refine E_ret rfl rfl ?_
  refine E_s (p' := 1174) rfl rfl ?_
  refine E_s (p' := 1177) (L' := [some (aA 0), some (aA 1), some (aA 124), some (aI 6)]) rfl rfl ?_
  refine E_s (p' := 18) rfl rfl ?_
  refine E_s (p' := 19) (st' := aI 6 :: _) rfl rfl ?_
  refine E_s (p' := 20) (st' := aA 0 :: _) rfl rfl ?_
  refine E_s (p' := 21) (st' := aI 6 :: _) rfl rfl ?_
  refine E_s (p' := 23) (st' := aI 6 :: _) rfl rfl ?_
  refine E_s (p' := 24) (st' := aI 0 :: _) rfl rfl ?_
  refine E_s (p' := 1180) rfl rfl ?_
  refine E_s (p' := 1181) (st' := aI 1 :: _) rfl rfl ?_
  exact E_ret rfl rfl ⟨rfl, rfl⟩
set_option maxRecDepth 100000 in
set_option maxHeartbeats 40000000 in
theorem pc_27_0_o (xs : Nat → Int) {z a2 a3 a4 a5 : Int} (hz : b32 (fun a b => a &&& b) z 31 = 27) (h0 : xs 0 = z) (h1 : xs 1 = 0) (h2 : xs 2 = a2) (h3 : xs 3 = a3) (h4 : xs 4 = a4) (h5 : xs 5 = a5) (hr2 : a2 < 0 ∨ 6 < a2) : E 0 18 LL [] (s0 xs 6) PQ := by
  refine E_s (p' := 19) (st' := aI 0 :: _) rfl rfl ?_
  refine E_s (p' := 20) (st' := aA 0 :: _) rfl rfl ?_
  refine E_s (p' := 21) (st' := aI 6 :: _) rfl rfl ?_
  refine E_s (p' := 23) (st' := aI 6 :: _) rfl rfl ?_
  refine E_s (p' := 24) (st' := aI 0 :: _) rfl rfl ?_
  refine E_s (p' := 27) rfl rfl ?_
  refine E_s (p' := 28) (st' := aA 0 :: _) rfl rfl ?_
  refine E_s (p' := 29) (st' := aI 0 :: _) rfl rfl ?_
  refine E_scr rfl rfl h0 ?_
  refine E_s (p' := 32) (st' := aI 31 :: _) rfl rfl ?_
  refine E_s (p' := 33) rfl rfl ?_
  refine E_val hz ?_
  refine E_s (p' := 1141) rfl rfl ?_
  refine E_s (p' := 1142) (st' := aA 1 :: _) rfl rfl ?_
  refine E_s (p' := 1143) (st' := aA 0 :: _) rfl rfl ?_
  refine E_s (p' := 1144) (st' := aI 0 :: _) rfl rfl ?_
  refine E_s (p' := 1145) (st' := aI 1 :: _) rfl rfl ?_
  refine E_s (p' := 1146) (st' := aI 1 :: _) rfl rfl ?_
  refine E_scr rfl rfl h1 ?_
  refine E_s (p' := 1148) (st' := aA 0 :: _) rfl rfl ?_
  refine E_s (p' := 1149) (st' := aI 0 :: _) rfl rfl ?_
  refine E_s (p' := 1150) (st' := aI 2 :: _) rfl rfl ?_
  refine E_s (p' := 1151) (st' := aI 2 :: _) rfl rfl ?_
  refine E_scr rfl rfl h2 ?_
  refine E_callL (p' := 1155) (L0 := [some (aA 1), some (aI 0), some (aI a2), none]) rfl rfl rfl ?_
  refine E_s (p' := 1) (st' := aA 1 :: _) rfl rfl ?_
  refine E_s (p' := 2) (st' := aI 0 :: _) rfl rfl ?_
  refine E_callL (p' := 5) (L0 := [some (aA 1), some (aI 0)]) rfl rfl rfl ?_
  refine E_s (p' := 1) (st' := aI 0 :: _) rfl rfl ?_
  refine E_s (p' := 4) rfl rfl ?_
  refine E_s (p' := 5) (st' := aI 0 :: _) rfl rfl ?_
  refine E_s (p' := 6) (st' := aI 4 :: _) rfl rfl ?_
  refine E_s (p' := 9) rfl rfl ?_
  refine E_s (p' := 10) (st' := aA 1 :: _) rfl rfl ?_
  refine E_s (p' := 13) (st' := aA 2 :: _) rfl rfl ?_
  refine E_s (p' := 14) (st' := aI 0 :: _) rfl rfl ?_
  refine E_s (p' := 15) (st' := aA 20 :: _) rfl rfl ?_
  refine E_s (p' := 19) rfl rfl ?_
  refine E_ret rfl rfl ?_
  refine E_s (p' := 6) (L' := [some (aA 1), some (aI 0), some (aI a2), some (aA 20)]) rfl rfl ?_
  refine E_s (p' := 7) (st' := aA 20 :: _) rfl rfl ?_
  refine E_s (p' := 12) rfl rfl ?_
  refine E_s (p' := 13) rfl rfl ?_
  refine E_tabO rfl (by omega) (by decide) ?_
  refine E_s (p' := 118) (st' := aI (-1) :: _) rfl rfl ?_
  refine E_ret rfl rfl ?_
  refine E_s (p' := 1156) (st' := aA 124 :: _) rfl rfl ?_
  refine E_s (p' := 1157) (st' := aA 0 :: _) rfl rfl ?_
  refine E_s (p' := 1158) (st' := aI 0 :: _) rfl rfl ?_
  refine E_s (p' := 1159) (st' := aI 1 :: _) rfl rfl ?_
  refine E_s (p' := 1160) (st' := aI 1 :: _) rfl rfl ?_
  refine E_scr rfl rfl h1 ?_
  refine E_s (p' := 1162) (st' := aA 0 :: _) rfl rfl ?_
  refine E_s (p' := 1163) (st' := aI 0 :: _) rfl rfl ?_
  refine E_s (p' := 1164) (st' := aI 2 :: _) rfl rfl ?_
  refine E_s (p' := 1165) (st' := aI 2 :: _) rfl rfl ?_
  refine E_scr rfl rfl h2 ?_
  refine E_callL (p' := 1169) (L0 := [some (aA 124), some (aI 0), some (aI a2), none, none]) rfl rfl rfl ?_
  refine E_s (p' := 1) (st' := aI 0 :: _) rfl rfl ?_
  refine E_callL (p' := 4) (L0 := [some (aI 0)]) rfl rfl rfl ?_
  refine E_s (p' := 1) (st' := aI 0 :: _) rfl rfl ?_
  refine E_s (p' := 2) (st' := aI 0 :: _) rfl rfl ?_
  refine E_s (p' := 3) (st' := aI 3 :: _) rfl rfl ?_
  refine E_callL (p' := 6) (L0 := [some (aI 0), some (aI 0), some (aI 3)]) rfl rfl rfl ?_
  refine E_s (p' := 1) (st' := aI 0 :: _) rfl rfl ?_
  refine E_s (p' := 2) (st' := aI 0 :: _) rfl rfl ?_
  refine E_s (p' := 5) rfl rfl ?_
  refine E_s (p' := 6) (st' := aI 0 :: _) rfl rfl ?_
  refine E_s (p' := 7) (st' := aI 3 :: _) rfl rfl ?_
  refine E_s (p' := 10) rfl rfl ?_
  refine E_s (p' := 11) (st' := aI 1 :: _) rfl rfl ?_
  refine E_s (p' := 15) rfl rfl ?_
  refine E_ret rfl rfl ?_
  refine E_ret rfl rfl ?_
  refine E_s (p' := 9) rfl rfl ?_
  refine E_s (p' := 10) (st' := aI 0 :: _) rfl rfl ?_
  refine E_s (p' := 11) (L' := [some (aA 124), some (aI 0), some (aI a2), some (aI 0), none]) rfl rfl ?_
  refine E_s (p' := 12) rfl rfl ?_
  refine E_tabO rfl (by omega) (by decide) ?_
  refine E_s (p' := 256) (st' := aI (-1) :: _) rfl rfl ?_
  refine E_ret rfl rfl ?_
  refine E_s (p' := 1174) rfl rfl ?_
  refine E_s (p' := 1177) (L' := [some (aA 0), some (aA 1), some (aA 124), some (aI 6)]) rfl rfl ?_
  refine E_s (p' := 18) rfl rfl ?_
  refine E_s (p' := 19) (st' := aI 6 :: _) rfl rfl ?_
  refine E_s (p' := 20) (st' := aA 0 :: _) rfl rfl ?_
  refine E_s (p' := 21) (st' := aI 6 :: _) rfl rfl ?_
  refine E_s (p' := 23) (st' := aI 6 :: _) rfl rfl ?_
  refine E_s (p' := 24) (st' := aI 0 :: _) rfl rfl ?_
  refine E_s (p' := 1180) rfl rfl ?_
  refine E_s (p' := 1181) (st' := aI 1 :: _) rfl rfl ?_
  exact E_ret rfl rfl ⟨rfl, rfl⟩
set_option maxRecDepth 100000 in
set_option maxHeartbeats 40000000 in
theorem pc_27_1_0 (xs : Nat → Int) {z a3 a4 a5 : Int} (hz : b32 (fun a b => a &&& b) z 31 = 27) (h0 : xs 0 = z) (h1 : xs 1 = 1) (h2 : xs 2 = 0) (h3 : xs 3 = a3) (h4 : xs 4 = a4) (h5 : xs 5 = a5) : E 0 18 LL [] (s0 xs 6) PQ := by
  refine E_s (p' := 19) (st' := aI 0 :: _) rfl rfl ?_
  refine E_s (p' := 20) (st' := aA 0 :: _) rfl rfl ?_
  refine E_s (p' := 21) (st' := aI 6 :: _) rfl rfl ?_
  refine E_s (p' := 23) (st' := aI 6 :: _) rfl rfl ?_
  refine E_s (p' := 24) (st' := aI 0 :: _) rfl rfl ?_
  refine E_s (p' := 27) rfl rfl ?_
  refine E_s (p' := 28) (st' := aA 0 :: _) rfl rfl ?_
  refine E_s (p' := 29) (st' := aI 0 :: _) rfl rfl ?_
  refine E_scr rfl rfl h0 ?_
  refine E_s (p' := 32) (st' := aI 31 :: _) rfl rfl ?_
  refine E_s (p' := 33) rfl rfl ?_
  refine E_val hz ?_
  refine E_s (p' := 1141) rfl rfl ?_
  refine E_s (p' := 1142) (st' := aA 1 :: _) rfl rfl ?_
  refine E_s (p' := 1143) (st' := aA 0 :: _) rfl rfl ?_
  refine E_s (p' := 1144) (st' := aI 0 :: _) rfl rfl ?_
  refine E_s (p' := 1145) (st' := aI 1 :: _) rfl rfl ?_
  refine E_s (p' := 1146) (st' := aI 1 :: _) rfl rfl ?_
  refine E_scr rfl rfl h1 ?_
  refine E_s (p' := 1148) (st' := aA 0 :: _) rfl rfl ?_
  refine E_s (p' := 1149) (st' := aI 0 :: _) rfl rfl ?_
  refine E_s (p' := 1150) (st' := aI 2 :: _) rfl rfl ?_
  refine E_s (p' := 1151) (st' := aI 2 :: _) rfl rfl ?_
  refine E_scr rfl rfl h2 ?_
  refine E_callL (p' := 1155) (L0 := [some (aA 1), some (aI 1), some (aI 0), none]) rfl rfl rfl ?_
  refine E_s (p' := 1) (st' := aA 1 :: _) rfl rfl ?_
  refine E_s (p' := 2) (st' := aI 1 :: _) rfl rfl ?_
  refine E_callL (p' := 5) (L0 := [some (aA 1), some (aI 1)]) rfl rfl rfl ?_
  refine E_s (p' := 1) (st' := aI 1 :: _) rfl rfl ?_
  refine E_s (p' := 4) rfl rfl ?_
  refine E_s (p' := 5) (st' := aI 1 :: _) rfl rfl ?_
  refine E_s (p' := 6) (st' := aI 4 :: _) rfl rfl ?_
  refine E_s (p' := 9) rfl rfl ?_
  refine E_s (p' := 10) (st' := aA 1 :: _) rfl rfl ?_
  refine E_s (p' := 13) (st' := aA 2 :: _) rfl rfl ?_
  refine E_s (p' := 14) (st' := aI 1 :: _) rfl rfl ?_
  refine E_s (p' := 15) (st' := aA 46 :: _) rfl rfl ?_
  refine E_s (p' := 19) rfl rfl ?_
  refine E_ret rfl rfl ?_
  refine E_s (p' := 6) (L' := [some (aA 1), some (aI 1), some (aI 0), some (aA 46)]) rfl rfl ?_
  refine E_s (p' := 7) (st' := aA 46 :: _) rfl rfl ?_
  refine E_s (p' := 12) rfl rfl ?_
  refine E_s (p' := 13) (st' := aI 0 :: _) rfl rfl ?_
  refine E_s (p' := 56) rfl rfl ?_
  refine E_s (p' := 57) (st' := aA 46 :: _) rfl rfl ?_
  refine E_s (p' := 60) (st' := aA 47 :: _) rfl rfl ?_
  refine E_s (p' := 63) (st' := aI 0 :: _) rfl rfl ?_
  refine E_ret rfl rfl ?_
  refine E_s (p' := 1156) (st' := aA 124 :: _) rfl rfl ?_
  refine E_s (p' := 1157) (st' := aA 0 :: _) rfl rfl ?_
  refine E_s (p' := 1158) (st' := aI 0 :: _) rfl rfl ?_
  refine E_s (p' := 1159) (st' := aI 1 :: _) rfl rfl ?_
  refine E_s (p' := 1160) (st' := aI 1 :: _) rfl rfl ?_
  refine E_scr rfl rfl h1 ?_
  refine E_s (p' := 1162) (st' := aA 0 :: _) rfl rfl ?_
  refine E_s (p' := 1163) (st' := aI 0 :: _) rfl rfl ?_
  refine E_s (p' := 1164) (st' := aI 2 :: _) rfl rfl ?_
  refine E_s (p' := 1165) (st' := aI 2 :: _) rfl rfl ?_
  refine E_scr rfl rfl h2 ?_
  refine E_callL (p' := 1169) (L0 := [some (aA 124), some (aI 1), some (aI 0), none, none]) rfl rfl rfl ?_
  refine E_s (p' := 1) (st' := aI 1 :: _) rfl rfl ?_
  refine E_callL (p' := 4) (L0 := [some (aI 1)]) rfl rfl rfl ?_
  refine E_s (p' := 1) (st' := aI 1 :: _) rfl rfl ?_
  refine E_s (p' := 2) (st' := aI 0 :: _) rfl rfl ?_
  refine E_s (p' := 3) (st' := aI 3 :: _) rfl rfl ?_
  refine E_callL (p' := 6) (L0 := [some (aI 1), some (aI 0), some (aI 3)]) rfl rfl rfl ?_
  refine E_s (p' := 1) (st' := aI 1 :: _) rfl rfl ?_
  refine E_s (p' := 2) (st' := aI 0 :: _) rfl rfl ?_
  refine E_s (p' := 5) rfl rfl ?_
  refine E_s (p' := 6) (st' := aI 1 :: _) rfl rfl ?_
  refine E_s (p' := 7) (st' := aI 3 :: _) rfl rfl ?_
  refine E_s (p' := 10) rfl rfl ?_
  refine E_s (p' := 11) (st' := aI 1 :: _) rfl rfl ?_
  refine E_s (p' := 15) rfl rfl ?_
  refine E_ret rfl rfl ?_
  refine E_ret rfl rfl ?_
  refine E_s (p' := 9) rfl rfl ?_
  refine E_s (p' := 10) (st' := aI 0 :: _) rfl rfl ?_
  refine E_s (p' := 11) (L' := [some (aA 124), some (aI 1), some (aI 0), some (aI 0), none]) rfl rfl ?_
  refine E_s (p' := 12) (st' := aI 0 :: _) rfl rfl ?_
  refine E_s (p' := 56) rfl rfl ?_
  refine E_s (p' := 57) (st' := aA 124 :: _) rfl rfl ?_
  refine E_s (p' := 60) (st' := aA 125 :: _) rfl rfl ?_
  refine E_s (p' := 61) (st' := aI 1 :: _) rfl rfl ?_
  refine E_s (p' := 62) (st' := aI 0 :: _) rfl rfl ?_
  refine E_ret rfl rfl ?_
  refine E_s (p' := 1174) rfl rfl ?_
  refine E_s (p' := 1177) (L' := [some (aA 0), some (aA 1), some (aA 124), some (aI 6)]) rfl rfl ?_
  refine E_s (p' := 18) rfl rfl ?_
  refine E_s (p' := 19) (st' := aI 6 :: _) rfl rfl ?_
  refine E_s (p' := 20) (st' := aA 0 :: _) rfl rfl ?_
  refine E_s (p' := 21) (st' := aI 6 :: _) rfl rfl ?_
  refine E_s (p' := 23) (st' := aI 6 :: _) rfl rfl ?_
  refine E_s (p' := 24) (st' := aI 0 :: _) rfl rfl ?_
  refine E_s (p' := 1180) rfl rfl ?_
  refine E_s (p' := 1181) (st' := aI 1 :: _) rfl rfl ?_
  exact E_ret rfl rfl ⟨rfl, rfl⟩
set_option maxRecDepth 100000 in
set_option maxHeartbeats 40000000 in
theorem pc_27_1_1 (xs : Nat → Int) {z a3 a4 a5 : Int} (hz : b32 (fun a b => a &&& b) z 31 = 27) (h0 : xs 0 = z) (h1 : xs 1 = 1) (h2 : xs 2 = 1) (h3 : xs 3 = a3) (h4 : xs 4 = a4) (h5 : xs 5 = a5) : E 0 18 LL [] (s0 xs 6) PQ := by
  refine E_s (p' := 19) (st' := aI 0 :: _) rfl rfl ?_
  refine E_s (p' := 20) (st' := aA 0 :: _) rfl rfl ?_
  refine E_s (p' := 21) (st' := aI 6 :: _) rfl rfl ?_
  refine E_s (p' := 23) (st' := aI 6 :: _) rfl rfl ?_
  refine E_s (p' := 24) (st' := aI 0 :: _) rfl rfl ?_
  refine E_s (p' := 27) rfl rfl ?_
  refine E_s (p' := 28) (st' := aA 0 :: _) rfl rfl ?_
  refine E_s (p' := 29) (st' := aI 0 :: _) rfl rfl ?_
  refine E_scr rfl rfl h0 ?_
  refine E_s (p' := 32) (st' := aI 31 :: _) rfl rfl ?_
  refine E_s (p' := 33) rfl rfl ?_
  refine E_val hz ?_
  refine E_s (p' := 1141) rfl rfl ?_
  refine E_s (p' := 1142) (st' := aA 1 :: _) rfl rfl ?_
  refine E_s (p' := 1143) (st' := aA 0 :: _) rfl rfl ?_
  refine E_s (p' := 1144) (st' := aI 0 :: _) rfl rfl ?_
  refine E_s (p' := 1145) (st' := aI 1 :: _) rfl rfl ?_
  refine E_s (p' := 1146) (st' := aI 1 :: _) rfl rfl ?_
  refine E_scr rfl rfl h1 ?_
  refine E_s (p' := 1148) (st' := aA 0 :: _) rfl rfl ?_
  refine E_s (p' := 1149) (st' := aI 0 :: _) rfl rfl ?_
  refine E_s (p' := 1150) (st' := aI 2 :: _) rfl rfl ?_
  refine E_s (p' := 1151) (st' := aI 2 :: _) rfl rfl ?_
  refine E_scr rfl rfl h2 ?_
  refine E_callL (p' := 1155) (L0 := [some (aA 1), some (aI 1), some (aI 1), none]) rfl rfl rfl ?_
  refine E_s (p' := 1) (st' := aA 1 :: _) rfl rfl ?_
  refine E_s (p' := 2) (st' := aI 1 :: _) rfl rfl ?_
  refine E_callL (p' := 5) (L0 := [some (aA 1), some (aI 1)]) rfl rfl rfl ?_
  refine E_s (p' := 1) (st' := aI 1 :: _) rfl rfl ?_
  refine E_s (p' := 4) rfl rfl ?_
  refine E_s (p' := 5) (st' := aI 1 :: _) rfl rfl ?_
  refine E_s (p' := 6) (st' := aI 4 :: _) rfl rfl ?_
  refine E_s (p' := 9) rfl rfl ?_
  refine E_s (p' := 10) (st' := aA 1 :: _) rfl rfl ?_
  refine E_s (p' := 13) (st' := aA 2 :: _) rfl rfl ?_
  refine E_s (p' := 14) (st' := aI 1 :: _) rfl rfl ?_
  refine E_s (p' := 15) (st' := aA 46 :: _) rfl rfl ?_
  refine E_s (p' := 19) rfl rfl ?_
  refine E_ret rfl rfl ?_
  refine E_s (p' := 6) (L' := [some (aA 1), some (aI 1), some (aI 1), some (aA 46)]) rfl rfl ?_
  refine E_s (p' := 7) (st' := aA 46 :: _) rfl rfl ?_
  refine E_s (p' := 12) rfl rfl ?_
  refine E_s (p' := 13) (st' := aI 1 :: _) rfl rfl ?_
  refine E_s (p' := 64) rfl rfl ?_
  refine E_s (p' := 65) (st' := aA 46 :: _) rfl rfl ?_
  refine E_s (p' := 68) (st' := aA 47 :: _) rfl rfl ?_
  refine E_callL (p' := 71) (L0 := [some (aA 47), none, none]) rfl rfl rfl ?_
  refine E_s (p' := 1) (st' := aI 0 :: _) rfl rfl ?_
  refine E_s (p' := 2) (L' := [some (aA 47), some (aI 0), none]) rfl rfl ?_
  refine E_s (p' := 3) (st' := aI 0 :: _) rfl rfl ?_
  refine E_s (p' := 4) (L' := [some (aA 47), some (aI 0), some (aI 0)]) rfl rfl ?_
  refine E_s (p' := 5) (st' := aI 0 :: _) rfl rfl ?_
  refine E_s (p' := 6) (st' := aA 47 :: _) rfl rfl ?_
  refine E_s (p' := 9) (st' := aI 0 :: _) rfl rfl ?_
  refine E_s (p' := 27) rfl rfl ?_
  refine E_s (p' := 28) (st' := aI 0 :: _) rfl rfl ?_
  refine E_ret rfl rfl ?_
  refine E_ret rfl rfl ?_
  refine E_s (p' := 1156) (st' := aA 124 :: _) rfl rfl ?_
  refine E_s (p' := 1157) (st' := aA 0 :: _) rfl rfl ?_
  refine E_s (p' := 1158) (st' := aI 0 :: _) rfl rfl ?_
  refine E_s (p' := 1159) (st' := aI 1 :: _) rfl rfl ?_
  refine E_s (p' := 1160) (st' := aI 1 :: _) rfl rfl ?_
  refine E_scr rfl rfl h1 ?_
  refine E_s (p' := 1162) (st' := aA 0 :: _) rfl rfl ?_
  refine E_s (p' := 1163) (st' := aI 0 :: _) rfl rfl ?_
  refine E_s (p' := 1164) (st' := aI 2 :: _) rfl rfl ?_
  refine E_s (p' := 1165) (st' := aI 2 :: _) rfl rfl ?_
  refine E_scr rfl rfl h2 ?_
  refine E_callL (p' := 1169) (L0 := [some (aA 124), some (aI 1), some (aI 1), none, none]) rfl rfl rfl ?_
  refine E_s (p' := 1) (st' := aI 1 :: _) rfl rfl ?_
  refine E_callL (p' := 4) (L0 := [some (aI 1)]) rfl rfl rfl ?_
  refine E_s (p' := 1) (st' := aI 1 :: _) rfl rfl ?_
  refine E_s (p' := 2) (st' := aI 0 :: _) rfl rfl ?_
  refine E_s (p' := 3) (st' := aI 3 :: _) rfl rfl ?_
  refine E_callL (p' := 6) (L0 := [some (aI 1), some (aI 0), some (aI 3)]) rfl rfl rfl ?_
  refine E_s (p' := 1) (st' := aI 1 :: _) rfl rfl ?_
  refine E_s (p' := 2) (st' := aI 0 :: _) rfl rfl ?_
  refine E_s (p' := 5) rfl rfl ?_
  refine E_s (p' := 6) (st' := aI 1 :: _) rfl rfl ?_
  refine E_s (p' := 7) (st' := aI 3 :: _) rfl rfl ?_
  refine E_s (p' := 10) rfl rfl ?_
  refine E_s (p' := 11) (st' := aI 1 :: _) rfl rfl ?_
  refine E_s (p' := 15) rfl rfl ?_
  refine E_ret rfl rfl ?_
  refine E_ret rfl rfl ?_
  refine E_s (p' := 9) rfl rfl ?_
  refine E_s (p' := 10) (st' := aI 0 :: _) rfl rfl ?_
  refine E_s (p' := 11) (L' := [some (aA 124), some (aI 1), some (aI 1), some (aI 0), none]) rfl rfl ?_
  refine E_s (p' := 12) (st' := aI 1 :: _) rfl rfl ?_
  refine E_s (p' := 63) rfl rfl ?_
  refine E_s (p' := 64) (st' := aI 0 :: _) rfl rfl ?_
  refine E_s (p' := 66) (L' := [some (aA 124), some (aI 1), some (aI 1), some (aI 0), some (aI 0)]) rfl rfl ?_
  refine E_s (p' := 68) (st' := aI 0 :: _) rfl rfl ?_
  refine E_s (p' := 69) (st' := aA 124 :: _) rfl rfl ?_
  refine E_s (p' := 72) (st' := aA 125 :: _) rfl rfl ?_
  refine E_s (p' := 73) (st' := aI 1 :: _) rfl rfl ?_
  refine E_s (p' := 74) (st' := aI 0 :: _) rfl rfl ?_
  refine E_s (p' := 98) rfl rfl ?_
  refine E_s (p' := 99) (st' := aI 0 :: _) rfl rfl ?_
  refine E_ret rfl rfl ?_
  refine E_s (p' := 1174) rfl rfl ?_
  refine E_s (p' := 1177) (L' := [some (aA 0), some (aA 1), some (aA 124), some (aI 6)]) rfl rfl ?_
  refine E_s (p' := 18) rfl rfl ?_
  refine E_s (p' := 19) (st' := aI 6 :: _) rfl rfl ?_
  refine E_s (p' := 20) (st' := aA 0 :: _) rfl rfl ?_
  refine E_s (p' := 21) (st' := aI 6 :: _) rfl rfl ?_
  refine E_s (p' := 23) (st' := aI 6 :: _) rfl rfl ?_
  refine E_s (p' := 24) (st' := aI 0 :: _) rfl rfl ?_
  refine E_s (p' := 1180) rfl rfl ?_
  refine E_s (p' := 1181) (st' := aI 1 :: _) rfl rfl ?_
  exact E_ret rfl rfl ⟨rfl, rfl⟩
set_option maxRecDepth 100000 in
set_option maxHeartbeats 40000000 in
theorem pc_27_1_2 (xs : Nat → Int) {z a3 a4 a5 : Int} (hz : b32 (fun a b => a &&& b) z 31 = 27) (h0 : xs 0 = z) (h1 : xs 1 = 1) (h2 : xs 2 = 2) (h3 : xs 3 = a3) (h4 : xs 4 = a4) (h5 : xs 5 = a5) : E 0 18 LL [] (s0 xs 6) PQ := by
  refine E_s (p' := 19) (st' := aI 0 :: _) rfl rfl ?_
  refine E_s (p' := 20) (st' := aA 0 :: _) rfl rfl ?_
  refine E_s (p' := 21) (st' := aI 6 :: _) rfl rfl ?_
  refine E_s (p' := 23) (st' := aI 6 :: _) rfl rfl ?_
  refine E_s (p' := 24) (st' := aI 0 :: _) rfl rfl ?_
  refine E_s (p' := 27) rfl rfl ?_
  refine E_s (p' := 28) (st' := aA 0 :: _) rfl rfl ?_
  refine E_s (p' := 29) (st' := aI 0 :: _) rfl rfl ?_
  refine E_scr rfl rfl h0 ?_
  refine E_s (p' := 32) (st' := aI 31 :: _) rfl rfl ?_
  refine E_s (p' := 33) rfl rfl ?_
  refine E_val hz ?_
  refine E_s (p' := 1141) rfl rfl ?_
  refine E_s (p' := 1142) (st' := aA 1 :: _) rfl rfl ?_
  refine E_s (p' := 1143) (st' := aA 0 :: _) rfl rfl ?_
  refine E_s (p' := 1144) (st' := aI 0 :: _) rfl rfl ?_
  refine E_s (p' := 1145) (st' := aI 1 :: _) rfl rfl ?_
  refine E_s (p' := 1146) (st' := aI 1 :: _) rfl rfl ?_
  refine E_scr rfl rfl h1 ?_
  refine E_s (p' := 1148) (st' := aA 0 :: _) rfl rfl ?_
  refine E_s (p' := 1149) (st' := aI 0 :: _) rfl rfl ?_
  refine E_s (p' := 1150) (st' := aI 2 :: _) rfl rfl ?_
  refine E_s (p' := 1151) (st' := aI 2 :: _) rfl rfl ?_
  refine E_scr rfl rfl h2 ?_
  refine E_callL (p' := 1155) (L0 := [some (aA 1), some (aI 1), some (aI 2), none]) rfl rfl rfl ?_
  refine E_s (p' := 1) (st' := aA 1 :: _) rfl rfl ?_
  refine E_s (p' := 2) (st' := aI 1 :: _) rfl rfl ?_
  refine E_callL (p' := 5) (L0 := [some (aA 1), some (aI 1)]) rfl rfl rfl ?_
  refine E_s (p' := 1) (st' := aI 1 :: _) rfl rfl ?_
  refine E_s (p' := 4) rfl rfl ?_
  refine E_s (p' := 5) (st' := aI 1 :: _) rfl rfl ?_
  refine E_s (p' := 6) (st' := aI 4 :: _) rfl rfl ?_
  refine E_s (p' := 9) rfl rfl ?_
  refine E_s (p' := 10) (st' := aA 1 :: _) rfl rfl ?_
  refine E_s (p' := 13) (st' := aA 2 :: _) rfl rfl ?_
  refine E_s (p' := 14) (st' := aI 1 :: _) rfl rfl ?_
  refine E_s (p' := 15) (st' := aA 46 :: _) rfl rfl ?_
  refine E_s (p' := 19) rfl rfl ?_
  refine E_ret rfl rfl ?_
  refine E_s (p' := 6) (L' := [some (aA 1), some (aI 1), some (aI 2), some (aA 46)]) rfl rfl ?_
  refine E_s (p' := 7) (st' := aA 46 :: _) rfl rfl ?_
  refine E_s (p' := 12) rfl rfl ?_
  refine E_s (p' := 13) (st' := aI 2 :: _) rfl rfl ?_
  refine E_s (p' := 72) rfl rfl ?_
  refine E_s (p' := 73) (st' := aA 46 :: _) rfl rfl ?_
  refine E_s (p' := 76) (st' := aA 55 :: _) rfl rfl ?_
  refine E_s (p' := 79) (st' := aI 0 :: _) rfl rfl ?_
  refine E_ret rfl rfl ?_
  refine E_s (p' := 1156) (st' := aA 124 :: _) rfl rfl ?_
  refine E_s (p' := 1157) (st' := aA 0 :: _) rfl rfl ?_
  refine E_s (p' := 1158) (st' := aI 0 :: _) rfl rfl ?_
  refine E_s (p' := 1159) (st' := aI 1 :: _) rfl rfl ?_
  refine E_s (p' := 1160) (st' := aI 1 :: _) rfl rfl ?_
  refine E_scr rfl rfl h1 ?_
  refine E_s (p' := 1162) (st' := aA 0 :: _) rfl rfl ?_
  refine E_s (p' := 1163) (st' := aI 0 :: _) rfl rfl ?_
  refine E_s (p' := 1164) (st' := aI 2 :: _) rfl rfl ?_
  refine E_s (p' := 1165) (st' := aI 2 :: _) rfl rfl ?_
  refine E_scr rfl rfl h2 ?_
  refine E_callL (p' := 1169) (L0 := [some (aA 124), some (aI 1), some (aI 2), none, none]) rfl rfl rfl ?_
  refine E_s (p' := 1) (st' := aI 1 :: _) rfl rfl ?_
  refine E_callL (p' := 4) (L0 := [some (aI 1)]) rfl rfl rfl ?_
  refine E_s (p' := 1) (st' := aI 1 :: _) rfl rfl ?_
  refine E_s (p' := 2) (st' := aI 0 :: _) rfl rfl ?_
  refine E_s (p' := 3) (st' := aI 3 :: _) rfl rfl ?_
  refine E_callL (p' := 6) (L0 := [some (aI 1), some (aI 0), some (aI 3)]) rfl rfl rfl ?_
  refine E_s (p' := 1) (st' := aI 1 :: _) rfl rfl ?_
  refine E_s (p' := 2) (st' := aI 0 :: _) rfl rfl ?_
  refine E_s (p' := 5) rfl rfl ?_
  refine E_s (p' := 6) (st' := aI 1 :: _) rfl rfl ?_
  refine E_s (p' := 7) (st' := aI 3 :: _) rfl rfl ?_
  refine E_s (p' := 10) rfl rfl ?_
  refine E_s (p' := 11) (st' := aI 1 :: _) rfl rfl ?_
  refine E_s (p' := 15) rfl rfl ?_
  refine E_ret rfl rfl ?_
  refine E_ret rfl rfl ?_
  refine E_s (p' := 9) rfl rfl ?_
  refine E_s (p' := 10) (st' := aI 0 :: _) rfl rfl ?_
  refine E_s (p' := 11) (L' := [some (aA 124), some (aI 1), some (aI 2), some (aI 0), none]) rfl rfl ?_
  refine E_s (p' := 12) (st' := aI 2 :: _) rfl rfl ?_
  refine E_s (p' := 100) rfl rfl ?_
  refine E_s (p' := 101) (st' := aA 124 :: _) rfl rfl ?_
  refine E_s (p' := 104) (st' := aA 136 :: _) rfl rfl ?_
  refine E_s (p' := 105) (st' := aI 1 :: _) rfl rfl ?_
  refine E_s (p' := 106) (st' := aI 0 :: _) rfl rfl ?_
  refine E_ret rfl rfl ?_
  refine E_s (p' := 1174) rfl rfl ?_
  refine E_s (p' := 1177) (L' := [some (aA 0), some (aA 1), some (aA 124), some (aI 6)]) rfl rfl ?_
  refine E_s (p' := 18) rfl rfl ?_
  refine E_s (p' := 19) (st' := aI 6 :: _) rfl rfl ?_
  refine E_s (p' := 20) (st' := aA 0 :: _) rfl rfl ?_
  refine E_s (p' := 21) (st' := aI 6 :: _) rfl rfl ?_
  refine E_s (p' := 23) (st' := aI 6 :: _) rfl rfl ?_
  refine E_s (p' := 24) (st' := aI 0 :: _) rfl rfl ?_
  refine E_s (p' := 1180) rfl rfl ?_
  refine E_s (p' := 1181) (st' := aI 1 :: _) rfl rfl ?_
  exact E_ret rfl rfl ⟨rfl, rfl⟩
set_option maxRecDepth 100000 in
set_option maxHeartbeats 40000000 in
theorem pc_27_1_3 (xs : Nat → Int) {z a3 a4 a5 : Int} (hz : b32 (fun a b => a &&& b) z 31 = 27) (h0 : xs 0 = z) (h1 : xs 1 = 1) (h2 : xs 2 = 3) (h3 : xs 3 = a3) (h4 : xs 4 = a4) (h5 : xs 5 = a5) : E 0 18 LL [] (s0 xs 6) PQ := by
  refine E_s (p' := 19) (st' := aI 0 :: _) rfl rfl ?_
  refine E_s (p' := 20) (st' := aA 0 :: _) rfl rfl ?_
  refine E_s (p' := 21) (st' := aI 6 :: _) rfl rfl ?_
  refine E_s (p' := 23) (st' := aI 6 :: _) rfl rfl ?_
  refine E_s (p' := 24) (st' := aI 0 :: _) rfl rfl ?_
  refine E_s (p' := 27) rfl rfl ?_
  refine E_s (p' := 28) (st' := aA 0 :: _) rfl rfl ?_
  refine E_s (p' := 29) (st' := aI 0 :: _) rfl rfl ?_
  refine E_scr rfl rfl h0 ?_
  refine E_s (p' := 32) (st' := aI 31 :: _) rfl rfl ?_
  refine E_s (p' := 33) rfl rfl ?_
  refine E_val hz ?_
  refine E_s (p' := 1141) rfl rfl ?_
  refine E_s (p' := 1142) (st' := aA 1 :: _) rfl rfl ?_
  refine E_s (p' := 1143) (st' := aA 0 :: _) rfl rfl ?_
  refine E_s (p' := 1144) (st' := aI 0 :: _) rfl rfl ?_
  refine E_s (p' := 1145) (st' := aI 1 :: _) rfl rfl ?_
  refine E_s (p' := 1146) (st' := aI 1 :: _) rfl rfl ?_
  refine E_scr rfl rfl h1 ?_
  refine E_s (p' := 1148) (st' := aA 0 :: _) rfl rfl ?_
  refine E_s (p' := 1149) (st' := aI 0 :: _) rfl rfl ?_
  refine E_s (p' := 1150) (st' := aI 2 :: _) rfl rfl ?_
  refine E_s (p' := 1151) (st' := aI 2 :: _) rfl rfl ?_
  refine E_scr rfl rfl h2 ?_
  refine E_callL (p' := 1155) (L0 := [some (aA 1), some (aI 1), some (aI 3), none]) rfl rfl rfl ?_
  refine E_s (p' := 1) (st' := aA 1 :: _) rfl rfl ?_
  refine E_s (p' := 2) (st' := aI 1 :: _) rfl rfl ?_
  refine E_callL (p' := 5) (L0 := [some (aA 1), some (aI 1)]) rfl rfl rfl ?_
  refine E_s (p' := 1) (st' := aI 1 :: _) rfl rfl ?_
  refine E_s (p' := 4) rfl rfl ?_
  refine E_s (p' := 5) (st' := aI 1 :: _) rfl rfl ?_
  refine E_s (p' := 6) (st' := aI 4 :: _) rfl rfl ?_
  refine E_s (p' := 9) rfl rfl ?_
  refine E_s (p' := 10) (st' := aA 1 :: _) rfl rfl ?_
  refine E_s (p' := 13) (st' := aA 2 :: _) rfl rfl ?_
  refine E_s (p' := 14) (st' := aI 1 :: _) rfl rfl ?_
  refine E_s (p' := 15) (st' := aA 46 :: _) rfl rfl ?_
  refine E_s (p' := 19) rfl rfl ?_
  refine E_ret rfl rfl ?_
  refine E_s (p' := 6) (L' := [some (aA 1), some (aI 1), some (aI 3), some (aA 46)]) rfl rfl ?_
  refine E_s (p' := 7) (st' := aA 46 :: _) rfl rfl ?_
  refine E_s (p' := 12) rfl rfl ?_
  refine E_s (p' := 13) (st' := aI 3 :: _) rfl rfl ?_
  refine E_s (p' := 80) rfl rfl ?_
  refine E_s (p' := 81) (st' := aA 46 :: _) rfl rfl ?_
  refine E_s (p' := 84) (st' := aI 15 :: _) rfl rfl ?_
  refine E_ret rfl rfl ?_
  refine E_s (p' := 1156) (st' := aA 124 :: _) rfl rfl ?_
  refine E_s (p' := 1157) (st' := aA 0 :: _) rfl rfl ?_
  refine E_s (p' := 1158) (st' := aI 0 :: _) rfl rfl ?_
  refine E_s (p' := 1159) (st' := aI 1 :: _) rfl rfl ?_
  refine E_s (p' := 1160) (st' := aI 1 :: _) rfl rfl ?_
  refine E_scr rfl rfl h1 ?_
  refine E_s (p' := 1162) (st' := aA 0 :: _) rfl rfl ?_
  refine E_s (p' := 1163) (st' := aI 0 :: _) rfl rfl ?_
  refine E_s (p' := 1164) (st' := aI 2 :: _) rfl rfl ?_
  refine E_s (p' := 1165) (st' := aI 2 :: _) rfl rfl ?_
  refine E_scr rfl rfl h2 ?_
  refine E_callL (p' := 1169) (L0 := [some (aA 124), some (aI 1), some (aI 3), none, none]) rfl rfl rfl ?_
  refine E_s (p' := 1) (st' := aI 1 :: _) rfl rfl ?_
  refine E_callL (p' := 4) (L0 := [some (aI 1)]) rfl rfl rfl ?_
  refine E_s (p' := 1) (st' := aI 1 :: _) rfl rfl ?_
  refine E_s (p' := 2) (st' := aI 0 :: _) rfl rfl ?_
  refine E_s (p' := 3) (st' := aI 3 :: _) rfl rfl ?_
  refine E_callL (p' := 6) (L0 := [some (aI 1), some (aI 0), some (aI 3)]) rfl rfl rfl ?_
  refine E_s (p' := 1) (st' := aI 1 :: _) rfl rfl ?_
  refine E_s (p' := 2) (st' := aI 0 :: _) rfl rfl ?_
  refine E_s (p' := 5) rfl rfl ?_
  refine E_s (p' := 6) (st' := aI 1 :: _) rfl rfl ?_
  refine E_s (p' := 7) (st' := aI 3 :: _) rfl rfl ?_
  refine E_s (p' := 10) rfl rfl ?_
  refine E_s (p' := 11) (st' := aI 1 :: _) rfl rfl ?_
  refine E_s (p' := 15) rfl rfl ?_
  refine E_ret rfl rfl ?_
  refine E_ret rfl rfl ?_
  refine E_s (p' := 9) rfl rfl ?_
  refine E_s (p' := 10) (st' := aI 0 :: _) rfl rfl ?_
  refine E_s (p' := 11) (L' := [some (aA 124), some (aI 1), some (aI 3), some (aI 0), none]) rfl rfl ?_
  refine E_s (p' := 12) (st' := aI 3 :: _) rfl rfl ?_
  refine E_s (p' := 107) rfl rfl ?_
  refine E_s (p' := 108) (st' := aA 124 :: _) rfl rfl ?_
  refine E_s (p' := 111) (st' := aA 126 :: _) rfl rfl ?_
  refine E_s (p' := 112) (st' := aI 1 :: _) rfl rfl ?_
  refine E_s (p' := 113) (st' := aI 15 :: _) rfl rfl ?_
  refine E_ret rfl rfl ?_
  refine E_s (p' := 1174) rfl rfl ?_
  refine E_s (p' := 1177) (L' := [some (aA 0), some (aA 1), some (aA 124), some (aI 6)]) rfl rfl ?_
  refine E_s (p' := 18) rfl rfl ?_
  refine E_s (p' := 19) (st' := aI 6 :: _) rfl rfl ?_
  refine E_s (p' := 20) (st' := aA 0 :: _) rfl rfl ?_
  refine E_s (p' := 21) (st' := aI 6 :: _) rfl rfl ?_
  refine E_s (p' := 23) (st' := aI 6 :: _) rfl rfl ?_
  refine E_s (p' := 24) (st' := aI 0 :: _) rfl rfl ?_
  refine E_s (p' := 1180) rfl rfl ?_
  refine E_s (p' := 1181) (st' := aI 1 :: _) rfl rfl ?_
  exact E_ret rfl rfl ⟨rfl, rfl⟩
set_option maxRecDepth 100000 in
set_option maxHeartbeats 40000000 in
theorem pc_27_1_4 (xs : Nat → Int) {z a3 a4 a5 : Int} (hz : b32 (fun a b => a &&& b) z 31 = 27) (h0 : xs 0 = z) (h1 : xs 1 = 1) (h2 : xs 2 = 4) (h3 : xs 3 = a3) (h4 : xs 4 = a4) (h5 : xs 5 = a5) : E 0 18 LL [] (s0 xs 6) PQ := by
  refine E_s (p' := 19) (st' := aI 0 :: _) rfl rfl ?_
  refine E_s (p' := 20) (st' := aA 0 :: _) rfl rfl ?_
  refine E_s (p' := 21) (st' := aI 6 :: _) rfl rfl ?_
  refine E_s (p' := 23) (st' := aI 6 :: _) rfl rfl ?_
  refine E_s (p' := 24) (st' := aI 0 :: _) rfl rfl ?_
  refine E_s (p' := 27) rfl rfl ?_
  refine E_s (p' := 28) (st' := aA 0 :: _) rfl rfl ?_
  refine E_s (p' := 29) (st' := aI 0 :: _) rfl rfl ?_
  refine E_scr rfl rfl h0 ?_
  refine E_s (p' := 32) (st' := aI 31 :: _) rfl rfl ?_
  refine E_s (p' := 33) rfl rfl ?_
  refine E_val hz ?_
  refine E_s (p' := 1141) rfl rfl ?_
  refine E_s (p' := 1142) (st' := aA 1 :: _) rfl rfl ?_
  refine E_s (p' := 1143) (st' := aA 0 :: _) rfl rfl ?_
  refine E_s (p' := 1144) (st' := aI 0 :: _) rfl rfl ?_
  refine E_s (p' := 1145) (st' := aI 1 :: _) rfl rfl ?_
  refine E_s (p' := 1146) (st' := aI 1 :: _) rfl rfl ?_
  refine E_scr rfl rfl h1 ?_
  refine E_s (p' := 1148) (st' := aA 0 :: _) rfl rfl ?_
  refine E_s (p' := 1149) (st' := aI 0 :: _) rfl rfl ?_
  refine E_s (p' := 1150) (st' := aI 2 :: _) rfl rfl ?_
  refine E_s (p' := 1151) (st' := aI 2 :: _) rfl rfl ?_
  refine E_scr rfl rfl h2 ?_
  refine E_callL (p' := 1155) (L0 := [some (aA 1), some (aI 1), some (aI 4), none]) rfl rfl rfl ?_
  refine E_s (p' := 1) (st' := aA 1 :: _) rfl rfl ?_
  refine E_s (p' := 2) (st' := aI 1 :: _) rfl rfl ?_
  refine E_callL (p' := 5) (L0 := [some (aA 1), some (aI 1)]) rfl rfl rfl ?_
  refine E_s (p' := 1) (st' := aI 1 :: _) rfl rfl ?_
  refine E_s (p' := 4) rfl rfl ?_
  refine E_s (p' := 5) (st' := aI 1 :: _) rfl rfl ?_
  refine E_s (p' := 6) (st' := aI 4 :: _) rfl rfl ?_
  refine E_s (p' := 9) rfl rfl ?_
  refine E_s (p' := 10) (st' := aA 1 :: _) rfl rfl ?_
  refine E_s (p' := 13) (st' := aA 2 :: _) rfl rfl ?_
  refine E_s (p' := 14) (st' := aI 1 :: _) rfl rfl ?_
  refine E_s (p' := 15) (st' := aA 46 :: _) rfl rfl ?_
  refine E_s (p' := 19) rfl rfl ?_
  refine E_ret rfl rfl ?_
  refine E_s (p' := 6) (L' := [some (aA 1), some (aI 1), some (aI 4), some (aA 46)]) rfl rfl ?_
  refine E_s (p' := 7) (st' := aA 46 :: _) rfl rfl ?_
  refine E_s (p' := 12) rfl rfl ?_
  refine E_s (p' := 13) (st' := aI 4 :: _) rfl rfl ?_
  refine E_s (p' := 85) rfl rfl ?_
  refine E_s (p' := 86) (st' := aA 46 :: _) rfl rfl ?_
  refine E_s (p' := 89) (st' := aA 47 :: _) rfl rfl ?_
  refine E_callL (p' := 92) (L0 := [some (aA 47), none, none]) rfl rfl rfl ?_
  refine E_s (p' := 1) (st' := aI 0 :: _) rfl rfl ?_
  refine E_s (p' := 2) (L' := [some (aA 47), some (aI 0), none]) rfl rfl ?_
  refine E_s (p' := 3) (st' := aI 0 :: _) rfl rfl ?_
  refine E_s (p' := 4) (L' := [some (aA 47), some (aI 0), some (aI 0)]) rfl rfl ?_
  refine E_s (p' := 5) (st' := aI 0 :: _) rfl rfl ?_
  refine E_s (p' := 6) (st' := aA 47 :: _) rfl rfl ?_
  refine E_s (p' := 9) (st' := aI 0 :: _) rfl rfl ?_
  refine E_s (p' := 35) rfl rfl ?_
  refine E_s (p' := 36) (st' := aI 0 :: _) rfl rfl ?_
  refine E_ret rfl rfl ?_
  refine E_ret rfl rfl ?_
  refine E_s (p' := 1156) (st' := aA 124 :: _) rfl rfl ?_
  refine E_s (p' := 1157) (st' := aA 0 :: _) rfl rfl ?_
  refine E_s (p' := 1158) (st' := aI 0 :: _) rfl rfl ?_
  refine E_s (p' := 1159) (st' := aI 1 :: _) rfl rfl ?_
  refine E_s (p' := 1160) (st' := aI 1 :: _) rfl rfl ?_
  refine E_scr rfl rfl h1 ?_
  refine E_s (p' := 1162) (st' := aA 0 :: _) rfl rfl ?_
  refine E_s (p' := 1163) (st' := aI 0 :: _) rfl rfl ?_
  refine E_s (p' := 1164) (st' := aI 2 :: _) rfl rfl ?_
  refine E_s (p' := 1165) (st' := aI 2 :: _) rfl rfl ?_
  refine E_scr rfl rfl h2 ?_
  refine E_callL (p' := 1169) (L0 := [some (aA 124), some (aI 1), some (aI 4), none, none]) rfl rfl rfl ?_
  refine E_s (p' := 1) (st' := aI 1 :: _) rfl rfl ?_
  refine E_callL (p' := 4) (L0 := [some (aI 1)]) rfl rfl rfl ?_
  refine E_s (p' := 1) (st' := aI 1 :: _) rfl rfl ?_
  refine E_s (p' := 2) (st' := aI 0 :: _) rfl rfl ?_
  refine E_s (p' := 3) (st' := aI 3 :: _) rfl rfl ?_
  refine E_callL (p' := 6) (L0 := [some (aI 1), some (aI 0), some (aI 3)]) rfl rfl rfl ?_
  refine E_s (p' := 1) (st' := aI 1 :: _) rfl rfl ?_
  refine E_s (p' := 2) (st' := aI 0 :: _) rfl rfl ?_
  refine E_s (p' := 5) rfl rfl ?_
  refine E_s (p' := 6) (st' := aI 1 :: _) rfl rfl ?_
  refine E_s (p' := 7) (st' := aI 3 :: _) rfl rfl ?_
  refine E_s (p' := 10) rfl rfl ?_
  refine E_s (p' := 11) (st' := aI 1 :: _) rfl rfl ?_
  refine E_s (p' := 15) rfl rfl ?_
  refine E_ret rfl rfl ?_
  refine E_ret rfl rfl ?_
  refine E_s (p' := 9) rfl rfl ?_
  refine E_s (p' := 10) (st' := aI 0 :: _) rfl rfl ?_
  refine E_s (p' := 11) (L' := [some (aA 124), some (aI 1), some (aI 4), some (aI 0), none]) rfl rfl ?_
  refine E_s (p' := 12) (st' := aI 4 :: _) rfl rfl ?_
  refine E_s (p' := 114) rfl rfl ?_
  refine E_s (p' := 115) (st' := aI 0 :: _) rfl rfl ?_
  refine E_s (p' := 117) (L' := [some (aA 124), some (aI 1), some (aI 4), some (aI 0), some (aI 0)]) rfl rfl ?_
  refine E_s (p' := 119) (st' := aI 0 :: _) rfl rfl ?_
  refine E_s (p' := 120) (st' := aA 124 :: _) rfl rfl ?_
  refine E_s (p' := 123) (st' := aA 125 :: _) rfl rfl ?_
  refine E_s (p' := 124) (st' := aI 1 :: _) rfl rfl ?_
  refine E_s (p' := 125) (st' := aI 0 :: _) rfl rfl ?_
  refine E_s (p' := 158) rfl rfl ?_
  refine E_s (p' := 159) (st' := aI 0 :: _) rfl rfl ?_
  refine E_ret rfl rfl ?_
  refine E_s (p' := 1174) rfl rfl ?_
  refine E_s (p' := 1177) (L' := [some (aA 0), some (aA 1), some (aA 124), some (aI 6)]) rfl rfl ?_
  refine E_s (p' := 18) rfl rfl ?_
  refine E_s (p' := 19) (st' := aI 6 :: _) rfl rfl ?_
  refine E_s (p' := 20) (st' := aA 0 :: _) rfl rfl ?_
  refine E_s (p' := 21) (st' := aI 6 :: _) rfl rfl ?_
  refine E_s (p' := 23) (st' := aI 6 :: _) rfl rfl ?_
  refine E_s (p' := 24) (st' := aI 0 :: _) rfl rfl ?_
  refine E_s (p' := 1180) rfl rfl ?_
  refine E_s (p' := 1181) (st' := aI 1 :: _) rfl rfl ?_
  exact E_ret rfl rfl ⟨rfl, rfl⟩
set_option maxRecDepth 100000 in
set_option maxHeartbeats 40000000 in
theorem pc_27_1_5 (xs : Nat → Int) {z a3 a4 a5 : Int} (hz : b32 (fun a b => a &&& b) z 31 = 27) (h0 : xs 0 = z) (h1 : xs 1 = 1) (h2 : xs 2 = 5) (h3 : xs 3 = a3) (h4 : xs 4 = a4) (h5 : xs 5 = a5) : E 0 18 LL [] (s0 xs 6) PQ := by
  refine E_s (p' := 19) (st' := aI 0 :: _) rfl rfl ?_
  refine E_s (p' := 20) (st' := aA 0 :: _) rfl rfl ?_
  refine E_s (p' := 21) (st' := aI 6 :: _) rfl rfl ?_
  refine E_s (p' := 23) (st' := aI 6 :: _) rfl rfl ?_
  refine E_s (p' := 24) (st' := aI 0 :: _) rfl rfl ?_
  refine E_s (p' := 27) rfl rfl ?_
  refine E_s (p' := 28) (st' := aA 0 :: _) rfl rfl ?_
  refine E_s (p' := 29) (st' := aI 0 :: _) rfl rfl ?_
  refine E_scr rfl rfl h0 ?_
  refine E_s (p' := 32) (st' := aI 31 :: _) rfl rfl ?_
  refine E_s (p' := 33) rfl rfl ?_
  refine E_val hz ?_
  refine E_s (p' := 1141) rfl rfl ?_
  refine E_s (p' := 1142) (st' := aA 1 :: _) rfl rfl ?_
  refine E_s (p' := 1143) (st' := aA 0 :: _) rfl rfl ?_
  refine E_s (p' := 1144) (st' := aI 0 :: _) rfl rfl ?_
  refine E_s (p' := 1145) (st' := aI 1 :: _) rfl rfl ?_
  refine E_s (p' := 1146) (st' := aI 1 :: _) rfl rfl ?_
  refine E_scr rfl rfl h1 ?_
  refine E_s (p' := 1148) (st' := aA 0 :: _) rfl rfl ?_
  refine E_s (p' := 1149) (st' := aI 0 :: _) rfl rfl ?_
  refine E_s (p' := 1150) (st' := aI 2 :: _) rfl rfl ?_
  refine E_s (p' := 1151) (st' := aI 2 :: _) rfl rfl ?_
  refine E_scr rfl rfl h2 ?_
  refine E_callL (p' := 1155) (L0 := [some (aA 1), some (aI 1), some (aI 5), none]) rfl rfl rfl ?_
  refine E_s (p' := 1) (st' := aA 1 :: _) rfl rfl ?_
  refine E_s (p' := 2) (st' := aI 1 :: _) rfl rfl ?_
  refine E_callL (p' := 5) (L0 := [some (aA 1), some (aI 1)]) rfl rfl rfl ?_
  refine E_s (p' := 1) (st' := aI 1 :: _) rfl rfl ?_
  refine E_s (p' := 4) rfl rfl ?_
  refine E_s (p' := 5) (st' := aI 1 :: _) rfl rfl ?_
  refine E_s (p' := 6) (st' := aI 4 :: _) rfl rfl ?_
  refine E_s (p' := 9) rfl rfl ?_
  refine E_s (p' := 10) (st' := aA 1 :: _) rfl rfl ?_
  refine E_s (p' := 13) (st' := aA 2 :: _) rfl rfl ?_
  refine E_s (p' := 14) (st' := aI 1 :: _) rfl rfl ?_
  refine E_s (p' := 15) (st' := aA 46 :: _) rfl rfl ?_
  refine E_s (p' := 19) rfl rfl ?_
  refine E_ret rfl rfl ?_
  refine E_s (p' := 6) (L' := [some (aA 1), some (aI 1), some (aI 5), some (aA 46)]) rfl rfl ?_
  refine E_s (p' := 7) (st' := aA 46 :: _) rfl rfl ?_
  refine E_s (p' := 12) rfl rfl ?_
  refine E_s (p' := 13) (st' := aI 5 :: _) rfl rfl ?_
  refine E_s (p' := 93) rfl rfl ?_
  refine E_s (p' := 94) (st' := aA 46 :: _) rfl rfl ?_
  refine E_callL (p' := 97) (L0 := [some (aA 46)]) rfl rfl rfl ?_
  refine E_s (p' := 1) (st' := aA 46 :: _) rfl rfl ?_
  refine E_s (p' := 4) (st' := aI 0 :: _) rfl rfl ?_
  refine E_s (p' := 7) rfl rfl ?_
  refine E_s (p' := 8) (st' := aA 46 :: _) rfl rfl ?_
  refine E_s (p' := 11) (st' := aA 61 :: _) rfl rfl ?_
  refine E_s (p' := 12) (st' := aA 46 :: _) rfl rfl ?_
  refine E_s (p' := 15) (st' := aA 47 :: _) rfl rfl ?_
  refine E_s (p' := 16) (st' := aA 46 :: _) rfl rfl ?_
  refine E_s (p' := 19) (st' := aI 15 :: _) rfl rfl ?_
  refine E_callL (p' := 22) (L0 := [some (aA 61), some (aA 47), some (aI 15), none]) rfl rfl rfl ?_
  refine E_s (p' := 1) (st' := aA 61 :: _) rfl rfl ?_
  refine E_s (p' := 2) (st' := aA 47 :: _) rfl rfl ?_
  refine E_callL (p' := 5) (L0 := [some (aA 61), some (aA 47), none, none]) rfl rfl rfl ?_
  refine E_s (p' := 1) (st' := aA 61 :: _) rfl rfl ?_
  refine E_s (p' := 4) (st' := aA 70 :: _) rfl rfl ?_
  refine E_s (p' := 5) (st' := aI 0 :: _) rfl rfl ?_
  refine E_call rfl rfl ?_
  refine c_fill rfl rfl ?_
  refine E_s (p' := 9) (st' := aA 61 :: _) rfl rfl ?_
  refine E_s (p' := 12) (st' := aA 66 :: _) rfl rfl ?_
  refine E_s (p' := 13) (st' := aI 0 :: _) rfl rfl ?_
  refine E_call rfl rfl ?_
  refine c_fill rfl rfl ?_
  refine E_s (p' := 17) (st' := aA 61 :: _) rfl rfl ?_
  refine E_s (p' := 18) (st' := aI 0 :: _) rfl rfl ?_
  refine E_stM (p' := 21) (m' := up2 _ 61 10 0) rfl rfl ?_
  refine E_s (p' := 22) (st' := aA 61 :: _) rfl rfl ?_
  refine E_s (p' := 23) (st' := aI 0 :: _) rfl rfl ?_
  refine E_stM (p' := 26) (m' := up2 _ 61 11 0) rfl rfl ?_
  refine E_s (p' := 27) (st' := aI 0 :: _) rfl rfl ?_
  refine E_s (p' := 28) (L' := [some (aA 61), some (aA 47), some (aI 0), none]) rfl rfl ?_
  refine E_s (p' := 29) (st' := aI 0 :: _) rfl rfl ?_
  refine E_s (p' := 30) (st' := aA 47 :: _) rfl rfl ?_
  refine E_s (p' := 33) (st' := aI 0 :: _) rfl rfl ?_
  refine E_s (p' := 135) rfl rfl ?_
  refine E_ret rfl rfl ?_
  refine E_s (p' := 6) (st' := aA 61 :: _) rfl rfl ?_
  refine E_s (p' := 7) (st' := aI 15 :: _) rfl rfl ?_
  refine E_callL (p' := 10) (L0 := [some (aA 61), some (aI 15), none]) rfl rfl rfl ?_
  refine E_s (p' := 1) (st' := aA 61 :: _) rfl rfl ?_
  refine E_s (p' := 2) (st' := aI 0 :: _) rfl rfl ?_
  refine E_stM (p' := 5) (m' := up2 _ 61 12 0) rfl rfl ?_
  refine E_s (p' := 6) (st' := aI 1 :: _) rfl rfl ?_
  refine E_s (p' := 7) (L' := [some (aA 61), some (aI 15), some (aI 1)]) rfl rfl ?_
  refine fl_loop (gp := 0) (by decide) _ 600 1 _ rfl (fun j hj => show (if 0 ≤ j ∧ j < 601 then (0 : Int) else _) = 0 from if_pos ⟨Nat.zero_le _, hj⟩) ?_
  refine E_s (p' := 11) (st' := aA 61 :: _) rfl rfl ?_
  refine E_s (p' := 14) (st' := aI 0 :: _) rfl rfl ?_
  refine E_s (p' := 17) rfl rfl ?_
  refine E_s (p' := 18) (st' := aA 61 :: _) rfl rfl ?_
  refine E_callL (p' := 21) (L0 := [some (aA 61)]) rfl rfl rfl ?_
  refine E_s (p' := 1) (st' := aA 61 :: _) rfl rfl ?_
  refine E_s (p' := 4) (st' := aA 67 :: _) rfl rfl ?_
  refine E_s (p' := 5) (st' := aA 61 :: _) rfl rfl ?_
  refine E_s (p' := 8) (st' := aI 0 :: _) rfl rfl ?_
  refine E_s (p' := 15) rfl rfl ?_
  refine E_s (p' := 16) (st' := aI 0 :: _) rfl rfl ?_
  refine E_call rfl rfl ?_
  refine c_fill rfl rfl ?_
  refine E_s (p' := 20) (st' := aA 61 :: _) rfl rfl ?_
  refine E_s (p' := 23) (st' := aA 68 :: _) rfl rfl ?_
  refine E_s (p' := 24) (st' := aI 0 :: _) rfl rfl ?_
  refine E_call rfl rfl ?_
  refine c_fill rfl rfl ?_
  refine E_s (p' := 28) (st' := aA 61 :: _) rfl rfl ?_
  refine E_s (p' := 31) (st' := aA 69 :: _) rfl rfl ?_
  refine E_s (p' := 32) (st' := aI 0 :: _) rfl rfl ?_
  refine E_call rfl rfl ?_
  refine c_fill rfl rfl ?_
  refine E_ret rfl rfl ?_
  refine E_ret rfl rfl ?_
  refine E_s (p' := 23) (st' := aA 46 :: _) rfl rfl ?_
  refine E_s (p' := 24) (st' := aI 1 :: _) rfl rfl ?_
  refine E_stM (p' := 27) (m' := up2 _ 46 7 1) rfl rfl ?_
  refine E_s (p' := 28) (st' := aA 46 :: _) rfl rfl ?_
  refine E_s (p' := 31) (st' := aA 61 :: _) rfl rfl ?_
  refine E_ret rfl rfl ?_
  refine E_s (p' := 98) (st' := aA 46 :: _) rfl rfl ?_
  refine E_s (p' := 101) (st' := aA 47 :: _) rfl rfl ?_
  refine E_s (p' := 104) (st' := aI 0 :: _) rfl rfl ?_
  refine E_callL (p' := 107) (L0 := [some (aA 61), some (aI 0), none, none]) rfl rfl rfl ?_
  refine E_s (p' := 1) (st' := aI 0 :: _) rfl rfl ?_
  refine E_s (p' := 2) (L' := [some (aA 61), some (aI 0), some (aI 0), none]) rfl rfl ?_
  refine E_s (p' := 3) (st' := aI 0 :: _) rfl rfl ?_
  refine E_s (p' := 4) (L' := [some (aA 61), some (aI 0), some (aI 0), some (aI 0)]) rfl rfl ?_
  refine E_s (p' := 5) (st' := aI 0 :: _) rfl rfl ?_
  refine E_s (p' := 6) (st' := aI 0 :: _) rfl rfl ?_
  refine E_s (p' := 32) rfl rfl ?_
  refine E_s (p' := 33) (st' := aI 0 :: _) rfl rfl ?_
  refine E_ret rfl rfl ?_
  refine E_ret rfl rfl ?_
  refine E_s (p' := 1156) (st' := aA 124 :: _) rfl rfl ?_
  refine E_s (p' := 1157) (st' := aA 0 :: _) rfl rfl ?_
  refine E_s (p' := 1158) (st' := aI 0 :: _) rfl rfl ?_
  refine E_s (p' := 1159) (st' := aI 1 :: _) rfl rfl ?_
  refine E_s (p' := 1160) (st' := aI 1 :: _) rfl rfl ?_
  refine E_scr rfl rfl h1 ?_
  refine E_s (p' := 1162) (st' := aA 0 :: _) rfl rfl ?_
  refine E_s (p' := 1163) (st' := aI 0 :: _) rfl rfl ?_
  refine E_s (p' := 1164) (st' := aI 2 :: _) rfl rfl ?_
  refine E_s (p' := 1165) (st' := aI 2 :: _) rfl rfl ?_
  refine E_scr rfl rfl h2 ?_
  refine E_callL (p' := 1169) (L0 := [some (aA 124), some (aI 1), some (aI 5), none, none]) rfl rfl rfl ?_
  refine E_s (p' := 1) (st' := aI 1 :: _) rfl rfl ?_
  refine E_callL (p' := 4) (L0 := [some (aI 1)]) rfl rfl rfl ?_
  refine E_s (p' := 1) (st' := aI 1 :: _) rfl rfl ?_
  refine E_s (p' := 2) (st' := aI 0 :: _) rfl rfl ?_
  refine E_s (p' := 3) (st' := aI 3 :: _) rfl rfl ?_
  refine E_callL (p' := 6) (L0 := [some (aI 1), some (aI 0), some (aI 3)]) rfl rfl rfl ?_
  refine E_s (p' := 1) (st' := aI 1 :: _) rfl rfl ?_
  refine E_s (p' := 2) (st' := aI 0 :: _) rfl rfl ?_
  refine E_s (p' := 5) rfl rfl ?_
  refine E_s (p' := 6) (st' := aI 1 :: _) rfl rfl ?_
  refine E_s (p' := 7) (st' := aI 3 :: _) rfl rfl ?_
  refine E_s (p' := 10) rfl rfl ?_
  refine E_s (p' := 11) (st' := aI 1 :: _) rfl rfl ?_
  refine E_s (p' := 15) rfl rfl ?_
  refine E_ret rfl rfl ?_
  refine E_ret rfl rfl ?_
  refine E_s (p' := 9) rfl rfl ?_
  refine E_s (p' := 10) (st' := aI 0 :: _) rfl rfl ?_
  refine E_s (p' := 11) (L' := [some (aA 124), some (aI 1), some (aI 5), some (aI 0), none]) rfl rfl ?_
  refine E_s (p' := 12) (st' := aI 5 :: _) rfl rfl ?_
  refine E_s (p' := 160) rfl rfl ?_
  refine E_s (p' := 161) (st' := aA 124 :: _) rfl rfl ?_
  refine E_s (p' := 162) (st' := aI 1 :: _) rfl rfl ?_
  refine E_s (p' := 163) (st' := aA 124 :: _) rfl rfl ?_
  refine E_s (p' := 166) (st' := aA 148 :: _) rfl rfl ?_
  refine E_callL (p' := 169) (L0 := [some (aA 124), some (aI 1), some (aA 148), none]) rfl rfl rfl ?_
  refine E_s (p' := 1) (st' := aA 124 :: _) rfl rfl ?_
  refine E_s (p' := 2) (st' := aI 1 :: _) rfl rfl ?_
  refine E_callL (p' := 5) (L0 := [some (aA 124), some (aI 1), none, none]) rfl rfl rfl ?_
  refine E_s (p' := 1) (st' := aI 0 :: _) rfl rfl ?_
  refine E_s (p' := 2) (L' := [some (aA 124), some (aI 1), some (aI 0), none]) rfl rfl ?_
  refine mr_loop1 _ 601 0 _ rfl ?_
  refine E_s (p' := 23) (st' := aA 124 :: _) rfl rfl ?_
  refine E_s (p' := 24) (st' := aI 0 :: _) rfl rfl ?_
  refine E_stM (p' := 27) (m' := up2 _ 124 25 0) rfl rfl ?_
  refine E_s (p' := 28) (st' := aA 124 :: _) rfl rfl ?_
  refine E_s (p' := 29) (st' := aI 0 :: _) rfl rfl ?_
  refine E_stM (p' := 32) (m' := up2 _ 124 26 0) rfl rfl ?_
  refine E_s (p' := 33) (st' := aI 0 :: _) rfl rfl ?_
  refine E_s (p' := 34) (L' := [some (aA 124), some (aI 1), some (aI 0), none]) rfl rfl ?_
  refine E_s (p' := 35) (st' := aI 0 :: _) rfl rfl ?_
  refine E_s (p' := 36) (st' := aA 124 :: _) rfl rfl ?_
  refine E_s (p' := 39) (st' := aA 125 :: _) rfl rfl ?_
  refine E_s (p' := 40) (st' := aI 1 :: _) rfl rfl ?_
  refine E_s (p' := 41) (st' := aI 0 :: _) rfl rfl ?_
  refine E_s (p' := 121) rfl rfl ?_
  refine E_s (p' := 122) (st' := aA 124 :: _) rfl rfl ?_
  refine E_s (p' := 123) (st' := aI 0 :: _) rfl rfl ?_
  refine E_stM (p' := 126) (m' := up2 _ 124 24 0) rfl rfl ?_
  refine E_s (p' := 127) (st' := aI 0 :: _) rfl rfl ?_
  refine E_s (p' := 128) (L' := [some (aA 124), some (aI 1), some (aI 0), none]) rfl rfl ?_
  refine mr_loop3 _ 601 0 _ rfl (fun j hj => show (if 0 ≤ j ∧ j < 601 then (0 : Int) else _) = 0 from if_pos ⟨Nat.zero_le _, hj⟩) ?_
  refine E_s (p' := 245) (st' := aA 124 :: _) rfl rfl ?_
  refine E_s (p' := 248) (st' := aI 0 :: _) rfl rfl ?_
  refine E_s (p' := 249) (st' := aA 124 :: _) rfl rfl ?_
  refine E_s (p' := 252) (st' := aI 0 :: _) rfl rfl ?_
  refine E_s (p' := 259) rfl rfl ?_
  refine E_s (p' := 260) (st' := aI 1 :: _) rfl rfl ?_
  refine E_s (p' := 261) (st' := aI 1 :: _) rfl rfl ?_
  refine E_s (p' := 263) (st' := aI 6 :: _) rfl rfl ?_
  refine E_s (p' := 271) rfl rfl ?_
  refine E_s (p' := 272) (st' := aA 124 :: _) rfl rfl ?_
  refine E_s (p' := 275) (st' := aI 0 :: _) rfl rfl ?_
  refine E_s (p' := 282) rfl rfl ?_
  refine E_s (p' := 283) (st' := aI 0 :: _) rfl rfl ?_
  refine E_ret rfl rfl ?_
  refine E_s (p' := 6) rfl rfl ?_
  refine E_s (p' := 7) (st' := aI 0 :: _) rfl rfl ?_
  refine E_s (p' := 8) (L' := [some (aA 124), some (aI 1), some (aA 148), some (aI 0)]) rfl rfl ?_
  refine E_s (p' := 9) (st' := aI 0 :: _) rfl rfl ?_
  refine E_s (p' := 10) (st' := aA 124 :: _) rfl rfl ?_
  refine E_s (p' := 13) (st' := aA 125 :: _) rfl rfl ?_
  refine E_s (p' := 14) (st' := aI 1 :: _) rfl rfl ?_
  refine E_s (p' := 15) (st' := aI 0 :: _) rfl rfl ?_
  refine E_s (p' := 58) rfl rfl ?_
  refine E_ret rfl rfl ?_
  refine E_s (p' := 170) (st' := aI 0 :: _) rfl rfl ?_
  refine E_s (p' := 172) (L' := [some (aA 124), some (aI 1), some (aI 5), some (aI 0), some (aI 0)]) rfl rfl ?_
  refine E_s (p' := 174) (st' := aI 0 :: _) rfl rfl ?_
  refine E_s (p' := 175) (st' := aA 124 :: _) rfl rfl ?_
  refine E_s (p' := 178) (st' := aA 125 :: _) rfl rfl ?_
  refine E_s (p' := 179) (st' := aI 1 :: _) rfl rfl ?_
  refine E_s (p' := 180) (st' := aI 0 :: _) rfl rfl ?_
  refine E_s (p' := 207) rfl rfl ?_
  refine E_s (p' := 208) (st' := aI 0 :: _) rfl rfl ?_
  refine E_ret rfl rfl ?_
  refine E_s (p' := 1174) rfl rfl ?_
  refine E_s (p' := 1177) (L' := [some (aA 0), some (aA 1), some (aA 124), some (aI 6)]) rfl rfl ?_
  refine E_s (p' := 18) rfl rfl ?_
  refine E_s (p' := 19) (st' := aI 6 :: _) rfl rfl ?_
  refine E_s (p' := 20) (st' := aA 0 :: _) rfl rfl ?_
  refine E_s (p' := 21) (st' := aI 6 :: _) rfl rfl ?_
  refine E_s (p' := 23) (st' := aI 6 :: _) rfl rfl ?_
  refine E_s (p' := 24) (st' := aI 0 :: _) rfl rfl ?_
  refine E_s (p' := 1180) rfl rfl ?_
  refine E_s (p' := 1181) (st' := aI 1 :: _) rfl rfl ?_
  exact E_ret rfl rfl ⟨rfl, rfl⟩
set_option maxRecDepth 100000 in
set_option maxHeartbeats 40000000 in
theorem pc_27_1_6 (xs : Nat → Int) {z a3 a4 a5 : Int} (hz : b32 (fun a b => a &&& b) z 31 = 27) (h0 : xs 0 = z) (h1 : xs 1 = 1) (h2 : xs 2 = 6) (h3 : xs 3 = a3) (h4 : xs 4 = a4) (h5 : xs 5 = a5) : E 0 18 LL [] (s0 xs 6) PQ := by
  refine E_s (p' := 19) (st' := aI 0 :: _) rfl rfl ?_
  refine E_s (p' := 20) (st' := aA 0 :: _) rfl rfl ?_
  refine E_s (p' := 21) (st' := aI 6 :: _) rfl rfl ?_
  refine E_s (p' := 23) (st' := aI 6 :: _) rfl rfl ?_
  refine E_s (p' := 24) (st' := aI 0 :: _) rfl rfl ?_
  refine E_s (p' := 27) rfl rfl ?_
  refine E_s (p' := 28) (st' := aA 0 :: _) rfl rfl ?_
  refine E_s (p' := 29) (st' := aI 0 :: _) rfl rfl ?_
  refine E_scr rfl rfl h0 ?_
  refine E_s (p' := 32) (st' := aI 31 :: _) rfl rfl ?_
  refine E_s (p' := 33) rfl rfl ?_
  refine E_val hz ?_
  refine E_s (p' := 1141) rfl rfl ?_
  refine E_s (p' := 1142) (st' := aA 1 :: _) rfl rfl ?_
  refine E_s (p' := 1143) (st' := aA 0 :: _) rfl rfl ?_
  refine E_s (p' := 1144) (st' := aI 0 :: _) rfl rfl ?_
  refine E_s (p' := 1145) (st' := aI 1 :: _) rfl rfl ?_
  refine E_s (p' := 1146) (st' := aI 1 :: _) rfl rfl ?_
  refine E_scr rfl rfl h1 ?_
  refine E_s (p' := 1148) (st' := aA 0 :: _) rfl rfl ?_
  refine E_s (p' := 1149) (st' := aI 0 :: _) rfl rfl ?_
  refine E_s (p' := 1150) (st' := aI 2 :: _) rfl rfl ?_
  refine E_s (p' := 1151) (st' := aI 2 :: _) rfl rfl ?_
  refine E_scr rfl rfl h2 ?_
  refine E_callL (p' := 1155) (L0 := [some (aA 1), some (aI 1), some (aI 6), none]) rfl rfl rfl ?_
  refine E_s (p' := 1) (st' := aA 1 :: _) rfl rfl ?_
  refine E_s (p' := 2) (st' := aI 1 :: _) rfl rfl ?_
  refine E_callL (p' := 5) (L0 := [some (aA 1), some (aI 1)]) rfl rfl rfl ?_
  refine E_s (p' := 1) (st' := aI 1 :: _) rfl rfl ?_
  refine E_s (p' := 4) rfl rfl ?_
  refine E_s (p' := 5) (st' := aI 1 :: _) rfl rfl ?_
  refine E_s (p' := 6) (st' := aI 4 :: _) rfl rfl ?_
  refine E_s (p' := 9) rfl rfl ?_
  refine E_s (p' := 10) (st' := aA 1 :: _) rfl rfl ?_
  refine E_s (p' := 13) (st' := aA 2 :: _) rfl rfl ?_
  refine E_s (p' := 14) (st' := aI 1 :: _) rfl rfl ?_
  refine E_s (p' := 15) (st' := aA 46 :: _) rfl rfl ?_
  refine E_s (p' := 19) rfl rfl ?_
  refine E_ret rfl rfl ?_
  refine E_s (p' := 6) (L' := [some (aA 1), some (aI 1), some (aI 6), some (aA 46)]) rfl rfl ?_
  refine E_s (p' := 7) (st' := aA 46 :: _) rfl rfl ?_
  refine E_s (p' := 12) rfl rfl ?_
  refine E_s (p' := 13) (st' := aI 6 :: _) rfl rfl ?_
  refine E_s (p' := 108) rfl rfl ?_
  refine E_s (p' := 109) (st' := aA 46 :: _) rfl rfl ?_
  refine E_s (p' := 112) (st' := aA 47 :: _) rfl rfl ?_
  refine E_s (p' := 113) (st' := aI (-1) :: _) rfl rfl ?_
  refine E_callL (p' := 116) (L0 := [some (aA 47), some (aI (-1)), none, none]) rfl rfl rfl ?_
  refine E_s (p' := 1) (st' := aI 0 :: _) rfl rfl ?_
  refine E_s (p' := 2) (L' := [some (aA 47), some (aI (-1)), some (aI 0), none]) rfl rfl ?_
  refine E_s (p' := 3) (st' := aI 0 :: _) rfl rfl ?_
  refine E_s (p' := 4) (L' := [some (aA 47), some (aI (-1)), some (aI 0), some (aI 0)]) rfl rfl ?_
  refine E_s (p' := 5) (st' := aI 0 :: _) rfl rfl ?_
  refine E_s (p' := 6) (st' := aA 47 :: _) rfl rfl ?_
  refine E_s (p' := 9) (st' := aI 0 :: _) rfl rfl ?_
  refine E_s (p' := 36) rfl rfl ?_
  refine E_s (p' := 37) (st' := aI 0 :: _) rfl rfl ?_
  refine E_ret rfl rfl ?_
  refine E_ret rfl rfl ?_
  refine E_s (p' := 1156) (st' := aA 124 :: _) rfl rfl ?_
  refine E_s (p' := 1157) (st' := aA 0 :: _) rfl rfl ?_
  refine E_s (p' := 1158) (st' := aI 0 :: _) rfl rfl ?_
  refine E_s (p' := 1159) (st' := aI 1 :: _) rfl rfl ?_
  refine E_s (p' := 1160) (st' := aI 1 :: _) rfl rfl ?_
  refine E_scr rfl rfl h1 ?_
  refine E_s (p' := 1162) (st' := aA 0 :: _) rfl rfl ?_
  refine E_s (p' := 1163) (st' := aI 0 :: _) rfl rfl ?_
  refine E_s (p' := 1164) (st' := aI 2 :: _) rfl rfl ?_
  refine E_s (p' := 1165) (st' := aI 2 :: _) rfl rfl ?_
  refine E_scr rfl rfl h2 ?_
  refine E_callL (p' := 1169) (L0 := [some (aA 124), some (aI 1), some (aI 6), none, none]) rfl rfl rfl ?_
  refine E_s (p' := 1) (st' := aI 1 :: _) rfl rfl ?_
  refine E_callL (p' := 4) (L0 := [some (aI 1)]) rfl rfl rfl ?_
  refine E_s (p' := 1) (st' := aI 1 :: _) rfl rfl ?_
  refine E_s (p' := 2) (st' := aI 0 :: _) rfl rfl ?_
  refine E_s (p' := 3) (st' := aI 3 :: _) rfl rfl ?_
  refine E_callL (p' := 6) (L0 := [some (aI 1), some (aI 0), some (aI 3)]) rfl rfl rfl ?_
  refine E_s (p' := 1) (st' := aI 1 :: _) rfl rfl ?_
  refine E_s (p' := 2) (st' := aI 0 :: _) rfl rfl ?_
  refine E_s (p' := 5) rfl rfl ?_
  refine E_s (p' := 6) (st' := aI 1 :: _) rfl rfl ?_
  refine E_s (p' := 7) (st' := aI 3 :: _) rfl rfl ?_
  refine E_s (p' := 10) rfl rfl ?_
  refine E_s (p' := 11) (st' := aI 1 :: _) rfl rfl ?_
  refine E_s (p' := 15) rfl rfl ?_
  refine E_ret rfl rfl ?_
  refine E_ret rfl rfl ?_
  refine E_s (p' := 9) rfl rfl ?_
  refine E_s (p' := 10) (st' := aI 0 :: _) rfl rfl ?_
  refine E_s (p' := 11) (L' := [some (aA 124), some (aI 1), some (aI 6), some (aI 0), none]) rfl rfl ?_
  refine E_s (p' := 12) (st' := aI 6 :: _) rfl rfl ?_
  refine E_s (p' := 209) rfl rfl ?_
  refine E_s (p' := 210) (st' := aI 0 :: _) rfl rfl ?_
  refine E_s (p' := 212) (L' := [some (aA 124), some (aI 1), some (aI 6), some (aI 0), some (aI 0)]) rfl rfl ?_
  refine E_s (p' := 214) (st' := aI 0 :: _) rfl rfl ?_
  refine E_s (p' := 215) (st' := aA 124 :: _) rfl rfl ?_
  refine E_s (p' := 218) (st' := aA 125 :: _) rfl rfl ?_
  refine E_s (p' := 219) (st' := aI 1 :: _) rfl rfl ?_
  refine E_s (p' := 220) (st' := aI 0 :: _) rfl rfl ?_
  refine E_s (p' := 253) rfl rfl ?_
  refine E_s (p' := 254) (st' := aI 0 :: _) rfl rfl ?_
  refine E_ret rfl rfl ?_
  refine E_s (p' := 1174) rfl rfl ?_
  refine E_s (p' := 1177) (L' := [some (aA 0), some (aA 1), some (aA 124), some (aI 6)]) rfl rfl ?_
  refine E_s (p' := 18) rfl rfl ?_
  refine E_s (p' := 19) (st' := aI 6 :: _) rfl rfl ?_
  refine E_s (p' := 20) (st' := aA 0 :: _) rfl rfl ?_
  refine E_s (p' := 21) (st' := aI 6 :: _) rfl rfl ?_
  refine E_s (p' := 23) (st' := aI 6 :: _) rfl rfl ?_
  refine E_s (p' := 24) (st' := aI 0 :: _) rfl rfl ?_
  refine E_s (p' := 1180) rfl rfl ?_
  refine E_s (p' := 1181) (st' := aI 1 :: _) rfl rfl ?_
  exact E_ret rfl rfl ⟨rfl, rfl⟩
set_option maxRecDepth 100000 in
set_option maxHeartbeats 40000000 in
theorem pc_27_1_o (xs : Nat → Int) {z a2 a3 a4 a5 : Int} (hz : b32 (fun a b => a &&& b) z 31 = 27) (h0 : xs 0 = z) (h1 : xs 1 = 1) (h2 : xs 2 = a2) (h3 : xs 3 = a3) (h4 : xs 4 = a4) (h5 : xs 5 = a5) (hr2 : a2 < 0 ∨ 6 < a2) : E 0 18 LL [] (s0 xs 6) PQ := by
  refine E_s (p' := 19) (st' := aI 0 :: _) rfl rfl ?_
  refine E_s (p' := 20) (st' := aA 0 :: _) rfl rfl ?_
  refine E_s (p' := 21) (st' := aI 6 :: _) rfl rfl ?_
  refine E_s (p' := 23) (st' := aI 6 :: _) rfl rfl ?_
  refine E_s (p' := 24) (st' := aI 0 :: _) rfl rfl ?_
  refine E_s (p' := 27) rfl rfl ?_
  refine E_s (p' := 28) (st' := aA 0 :: _) rfl rfl ?_
  refine E_s (p' := 29) (st' := aI 0 :: _) rfl rfl ?_
  refine E_scr rfl rfl h0 ?_
  refine E_s (p' := 32) (st' := aI 31 :: _) rfl rfl ?_
  refine E_s (p' := 33) rfl rfl ?_
  refine E_val hz ?_
  refine E_s (p' := 1141) rfl rfl ?_
  refine E_s (p' := 1142) (st' := aA 1 :: _) rfl rfl ?_
  refine E_s (p' := 1143) (st' := aA 0 :: _) rfl rfl ?_
  refine E_s (p' := 1144) (st' := aI 0 :: _) rfl rfl ?_
  refine E_s (p' := 1145) (st' := aI 1 :: _) rfl rfl ?_
  refine E_s (p' := 1146) (st' := aI 1 :: _) rfl rfl ?_
  refine E_scr rfl rfl h1 ?_
  refine E_s (p' := 1148) (st' := aA 0 :: _) rfl rfl ?_
  refine E_s (p' := 1149) (st' := aI 0 :: _) rfl rfl ?_
  refine E_s (p' := 1150) (st' := aI 2 :: _) rfl rfl ?_
  refine E_s (p' := 1151) (st' := aI 2 :: _) rfl rfl ?_
  refine E_scr rfl rfl h2 ?_
  refine E_callL (p' := 1155) (L0 := [some (aA 1), some (aI 1), some (aI a2), none]) rfl rfl rfl ?_
  refine E_s (p' := 1) (st' := aA 1 :: _) rfl rfl ?_
  refine E_s (p' := 2) (st' := aI 1 :: _) rfl rfl ?_
  refine E_callL (p' := 5) (L0 := [some (aA 1), some (aI 1)]) rfl rfl rfl ?_
  refine E_s (p' := 1) (st' := aI 1 :: _) rfl rfl ?_
  refine E_s (p' := 4) rfl rfl ?_
  refine E_s (p' := 5) (st' := aI 1 :: _) rfl rfl ?_
  refine E_s (p' := 6) (st' := aI 4 :: _) rfl rfl ?_
  refine E_s (p' := 9) rfl rfl ?_
  refine E_s (p' := 10) (st' := aA 1 :: _) rfl rfl ?_
  refine E_s (p' := 13) (st' := aA 2 :: _) rfl rfl ?_
  refine E_s (p' := 14) (st' := aI 1 :: _) rfl rfl ?_
  refine E_s (p' := 15) (st' := aA 46 :: _) rfl rfl ?_
  refine E_s (p' := 19) rfl rfl ?_
  refine E_ret rfl rfl ?_
  refine E_s (p' := 6) (L' := [some (aA 1), some (aI 1), some (aI a2), some (aA 46)]) rfl rfl ?_
  refine E_s (p' := 7) (st' := aA 46 :: _) rfl rfl ?_
  refine E_s (p' := 12) rfl rfl ?_
  refine E_s (p' := 13) rfl rfl ?_
  refine E_tabO rfl (by omega) (by decide) ?_
  refine E_s (p' := 118) (st' := aI (-1) :: _) rfl rfl ?_
  refine E_ret rfl rfl ?_
  refine E_s (p' := 1156) (st' := aA 124 :: _) rfl rfl ?_
  refine E_s (p' := 1157) (st' := aA 0 :: _) rfl rfl ?_
  refine E_s (p' := 1158) (st' := aI 0 :: _) rfl rfl ?_
  refine E_s (p' := 1159) (st' := aI 1 :: _) rfl rfl ?_
  refine E_s (p' := 1160) (st' := aI 1 :: _) rfl rfl ?_
  refine E_scr rfl rfl h1 ?_
  refine E_s (p' := 1162) (st' := aA 0 :: _) rfl rfl ?_
  refine E_s (p' := 1163) (st' := aI 0 :: _) rfl rfl ?_
  refine E_s (p' := 1164) (st' := aI 2 :: _) rfl rfl ?_
  refine E_s (p' := 1165) (st' := aI 2 :: _) rfl rfl ?_
  refine E_scr rfl rfl h2 ?_
  refine E_callL (p' := 1169) (L0 := [some (aA 124), some (aI 1), some (aI a2), none, none]) rfl rfl rfl ?_
  refine E_s (p' := 1) (st' := aI 1 :: _) rfl rfl ?_
  refine E_callL (p' := 4) (L0 := [some (aI 1)]) rfl rfl rfl ?_
  refine E_s (p' := 1) (st' := aI 1 :: _) rfl rfl ?_
  refine E_s (p' := 2) (st' := aI 0 :: _) rfl rfl ?_
  refine E_s (p' := 3) (st' := aI 3 :: _) rfl rfl ?_
  refine E_callL (p' := 6) (L0 := [some (aI 1), some (aI 0), some (aI 3)]) rfl rfl rfl ?_
  refine E_s (p' := 1) (st' := aI 1 :: _) rfl rfl ?_
  refine E_s (p' := 2) (st' := aI 0 :: _) rfl rfl ?_
  refine E_s (p' := 5) rfl rfl ?_
  refine E_s (p' := 6) (st' := aI 1 :: _) rfl rfl ?_
  refine E_s (p' := 7) (st' := aI 3 :: _) rfl rfl ?_
  refine E_s (p' := 10) rfl rfl ?_
  refine E_s (p' := 11) (st' := aI 1 :: _) rfl rfl ?_
  refine E_s (p' := 15) rfl rfl ?_
  refine E_ret rfl rfl ?_
  refine E_ret rfl rfl ?_
  refine E_s (p' := 9) rfl rfl ?_
  refine E_s (p' := 10) (st' := aI 0 :: _) rfl rfl ?_
  refine E_s (p' := 11) (L' := [some (aA 124), some (aI 1), some (aI a2), some (aI 0), none]) rfl rfl ?_
  refine E_s (p' := 12) rfl rfl ?_
  refine E_tabO rfl (by omega) (by decide) ?_
  refine E_s (p' := 256) (st' := aI (-1) :: _) rfl rfl ?_
  refine E_ret rfl rfl ?_
  refine E_s (p' := 1174) rfl rfl ?_
  refine E_s (p' := 1177) (L' := [some (aA 0), some (aA 1), some (aA 124), some (aI 6)]) rfl rfl ?_
  refine E_s (p' := 18) rfl rfl ?_
  refine E_s (p' := 19) (st' := aI 6 :: _) rfl rfl ?_
  refine E_s (p' := 20) (st' := aA 0 :: _) rfl rfl ?_
  refine E_s (p' := 21) (st' := aI 6 :: _) rfl rfl ?_
  refine E_s (p' := 23) (st' := aI 6 :: _) rfl rfl ?_
  refine E_s (p' := 24) (st' := aI 0 :: _) rfl rfl ?_
  refine E_s (p' := 1180) rfl rfl ?_
  refine E_s (p' := 1181) (st' := aI 1 :: _) rfl rfl ?_
  exact E_ret rfl rfl ⟨rfl, rfl⟩
set_option maxRecDepth 100000 in
set_option maxHeartbeats 40000000 in
theorem pc_27_2_0 (xs : Nat → Int) {z a3 a4 a5 : Int} (hz : b32 (fun a b => a &&& b) z 31 = 27) (h0 : xs 0 = z) (h1 : xs 1 = 2) (h2 : xs 2 = 0) (h3 : xs 3 = a3) (h4 : xs 4 = a4) (h5 : xs 5 = a5) : E 0 18 LL [] (s0 xs 6) PQ := by
  refine E_s (p' := 19) (st' := aI 0 :: _) rfl rfl ?_
  refine E_s (p' := 20) (st' := aA 0 :: _) rfl rfl ?_
  refine E_s (p' := 21) (st' := aI 6 :: _) rfl rfl ?_
  refine E_s (p' := 23) (st' := aI 6 :: _) rfl rfl ?_
  refine E_s (p' := 24) (st' := aI 0 :: _) rfl rfl ?_
  refine E_s (p' := 27) rfl rfl ?_
  refine E_s (p' := 28) (st' := aA 0 :: _) rfl rfl ?_
  refine E_s (p' := 29) (st' := aI 0 :: _) rfl rfl ?_
  refine E_scr rfl rfl h0 ?_
  refine E_s (p' := 32) (st' := aI 31 :: _) rfl rfl ?_
  refine E_s (p' := 33) rfl rfl ?_
  refine E_val hz ?_
  refine E_s (p' := 1141) rfl rfl ?_
  refine E_s (p' := 1142) (st' := aA 1 :: _) rfl rfl ?_
  refine E_s (p' := 1143) (st' := aA 0 :: _) rfl rfl ?_
  refine E_s (p' := 1144) (st' := aI 0 :: _) rfl rfl ?_
  refine E_s (p' := 1145) (st' := aI 1 :: _) rfl rfl ?_
  refine E_s (p' := 1146) (st' := aI 1 :: _) rfl rfl ?_
  refine E_scr rfl rfl h1 ?_
  refine E_s (p' := 1148) (st' := aA 0 :: _) rfl rfl ?_
  refine E_s (p' := 1149) (st' := aI 0 :: _) rfl rfl ?_
  refine E_s (p' := 1150) (st' := aI 2 :: _) rfl rfl ?_
  refine E_s (p' := 1151) (st' := aI 2 :: _) rfl rfl ?_
  refine E_scr rfl rfl h2 ?_
  refine E_callL (p' := 1155) (L0 := [some (aA 1), some (aI 2), some (aI 0), none]) rfl rfl rfl ?_
  refine E_s (p' := 1) (st' := aA 1 :: _) rfl rfl ?_
  refine E_s (p' := 2) (st' := aI 2 :: _) rfl rfl ?_
  refine E_callL (p' := 5) (L0 := [some (aA 1), some (aI 2)]) rfl rfl rfl ?_
  refine E_s (p' := 1) (st' := aI 2 :: _) rfl rfl ?_
  refine E_s (p' := 4) rfl rfl ?_
  refine E_s (p' := 5) (st' := aI 2 :: _) rfl rfl ?_
  refine E_s (p' := 6) (st' := aI 4 :: _) rfl rfl ?_
  refine E_s (p' := 9) rfl rfl ?_
  refine E_s (p' := 10) (st' := aA 1 :: _) rfl rfl ?_
  refine E_s (p' := 13) (st' := aA 2 :: _) rfl rfl ?_
  refine E_s (p' := 14) (st' := aI 2 :: _) rfl rfl ?_
  refine E_s (p' := 15) (st' := aA 72 :: _) rfl rfl ?_
  refine E_s (p' := 19) rfl rfl ?_
  refine E_ret rfl rfl ?_
  refine E_s (p' := 6) (L' := [some (aA 1), some (aI 2), some (aI 0), some (aA 72)]) rfl rfl ?_
  refine E_s (p' := 7) (st' := aA 72 :: _) rfl rfl ?_
  refine E_s (p' := 12) rfl rfl ?_
  refine E_s (p' := 13) (st' := aI 0 :: _) rfl rfl ?_
  refine E_s (p' := 56) rfl rfl ?_
  refine E_s (p' := 57) (st' := aA 72 :: _) rfl rfl ?_
  refine E_s (p' := 60) (st' := aA 73 :: _) rfl rfl ?_
  refine E_s (p' := 63) (st' := aI 0 :: _) rfl rfl ?_
  refine E_ret rfl rfl ?_
  refine E_s (p' := 1156) (st' := aA 124 :: _) rfl rfl ?_
  refine E_s (p' := 1157) (st' := aA 0 :: _) rfl rfl ?_
  refine E_s (p' := 1158) (st' := aI 0 :: _) rfl rfl ?_
  refine E_s (p' := 1159) (st' := aI 1 :: _) rfl rfl ?_
  refine E_s (p' := 1160) (st' := aI 1 :: _) rfl rfl ?_
  refine E_scr rfl rfl h1 ?_
  refine E_s (p' := 1162) (st' := aA 0 :: _) rfl rfl ?_
  refine E_s (p' := 1163) (st' := aI 0 :: _) rfl rfl ?_
  refine E_s (p' := 1164) (st' := aI 2 :: _) rfl rfl ?_
  refine E_s (p' := 1165) (st' := aI 2 :: _) rfl rfl ?_
  refine E_scr rfl rfl h2 ?_
  refine E_callL (p' := 1169) (L0 := [some (aA 124), some (aI 2), some (aI 0), none, none]) rfl rfl rfl ?_
  refine E_s (p' := 1) (st' := aI 2 :: _) rfl rfl ?_
  refine E_callL (p' := 4) (L0 := [some (aI 2)]) rfl rfl rfl ?_
  refine E_s (p' := 1) (st' := aI 2 :: _) rfl rfl ?_
  refine E_s (p' := 2) (st' := aI 0 :: _) rfl rfl ?_
  refine E_s (p' := 3) (st' := aI 3 :: _) rfl rfl ?_
  refine E_callL (p' := 6) (L0 := [some (aI 2), some (aI 0), some (aI 3)]) rfl rfl rfl ?_
  refine E_s (p' := 1) (st' := aI 2 :: _) rfl rfl ?_
  refine E_s (p' := 2) (st' := aI 0 :: _) rfl rfl ?_
  refine E_s (p' := 5) rfl rfl ?_
  refine E_s (p' := 6) (st' := aI 2 :: _) rfl rfl ?_
  refine E_s (p' := 7) (st' := aI 3 :: _) rfl rfl ?_
  refine E_s (p' := 10) rfl rfl ?_
  refine E_s (p' := 11) (st' := aI 1 :: _) rfl rfl ?_
  refine E_s (p' := 15) rfl rfl ?_
  refine E_ret rfl rfl ?_
  refine E_ret rfl rfl ?_
  refine E_s (p' := 9) rfl rfl ?_
  refine E_s (p' := 10) (st' := aI 0 :: _) rfl rfl ?_
  refine E_s (p' := 11) (L' := [some (aA 124), some (aI 2), some (aI 0), some (aI 0), none]) rfl rfl ?_
  refine E_s (p' := 12) (st' := aI 0 :: _) rfl rfl ?_
  refine E_s (p' := 56) rfl rfl ?_
  refine E_s (p' := 57) (st' := aA 124 :: _) rfl rfl ?_
  refine E_s (p' := 60) (st' := aA 125 :: _) rfl rfl ?_
  refine E_s (p' := 61) (st' := aI 2 :: _) rfl rfl ?_
  refine E_s (p' := 62) (st' := aI 0 :: _) rfl rfl ?_
  refine E_ret rfl rfl ?_
  refine E_s (p' := 1174) rfl rfl ?_
  refine E_s (p' := 1177) (L' := [some (aA 0), some (aA 1), some (aA 124), some (aI 6)]) rfl rfl ?_
  refine E_s (p' := 18) rfl rfl ?_
  refine E_s (p' := 19) (st' := aI 6 :: _) rfl rfl ?_
  refine E_s (p' := 20) (st' := aA 0 :: _) rfl rfl ?_
  refine E_s (p' := 21) (st' := aI 6 :: _) rfl rfl ?_
  refine E_s (p' := 23) (st' := aI 6 :: _) rfl rfl ?_
  refine E_s (p' := 24) (st' := aI 0 :: _) rfl rfl ?_
  refine E_s (p' := 1180) rfl rfl ?_
  refine E_s (p' := 1181) (st' := aI 1 :: _) rfl rfl ?_
  exact E_ret rfl rfl ⟨rfl, rfl⟩
set_option maxRecDepth 100000 in
set_option maxHeartbeats 40000000 in
theorem pc_27_2_1 (xs : Nat → Int) {z a3 a4 a5 : Int} (hz : b32 (fun a b => a &&& b) z 31 = 27) (h0 : xs 0 = z) (h1 : xs 1 = 2) (h2 : xs 2 = 1) (h3 : xs 3 = a3) (h4 : xs 4 = a4) (h5 : xs 5 = a5) : E 0 18 LL [] (s0 xs 6) PQ := by
  refine E_s (p' := 19) (st' := aI 0 :: _) rfl rfl ?_
  refine E_s (p' := 20) (st' := aA 0 :: _) rfl rfl ?_
  refine E_s (p' := 21) (st' := aI 6 :: _) rfl rfl ?_
  refine E_s (p' := 23) (st' := aI 6 :: _) rfl rfl ?_
  refine E_s (p' := 24) (st' := aI 0 :: _) rfl rfl ?_
  refine E_s (p' := 27) rfl rfl ?_
  refine E_s (p' := 28) (st' := aA 0 :: _) rfl rfl ?_
  refine E_s (p' := 29) (st' := aI 0 :: _) rfl rfl ?_
  refine E_scr rfl rfl h0 ?_
  refine E_s (p' := 32) (st' := aI 31 :: _) rfl rfl ?_
  refine E_s (p' := 33) rfl rfl ?_
  refine E_val hz ?_
  refine E_s (p' := 1141) rfl rfl ?_
  refine E_s (p' := 1142) (st' := aA 1 :: _) rfl rfl ?_
  refine E_s (p' := 1143) (st' := aA 0 :: _) rfl rfl ?_
  refine E_s (p' := 1144) (st' := aI 0 :: _) rfl rfl ?_
  refine E_s (p' := 1145) (st' := aI 1 :: _) rfl rfl ?_
  refine E_s (p' := 1146) (st' := aI 1 :: _) rfl rfl ?_
  refine E_scr rfl rfl h1 ?_
  refine E_s (p' := 1148) (st' := aA 0 :: _) rfl rfl ?_
  refine E_s (p' := 1149) (st' := aI 0 :: _) rfl rfl ?_
  refine E_s (p' := 1150) (st' := aI 2 :: _) rfl rfl ?_
  refine E_s (p' := 1151) (st' := aI 2 :: _) rfl rfl ?_
  refine E_scr rfl rfl h2 ?_
  refine E_callL (p' := 1155) (L0 := [some (aA 1), some (aI 2), some (aI 1), none]) rfl rfl rfl ?_
  refine E_s (p' := 1) (st' := aA 1 :: _) rfl rfl ?_
  refine E_s (p' := 2) (st' := aI 2 :: _) rfl rfl ?_
  refine E_callL (p' := 5) (L0 := [some (aA 1), some (aI 2)]) rfl rfl rfl ?_
  refine E_s (p' := 1) (st' := aI 2 :: _) rfl rfl ?_
  refine E_s (p' := 4) rfl rfl ?_
  refine E_s (p' := 5) (st' := aI 2 :: _) rfl rfl ?_
  refine E_s (p' := 6) (st' := aI 4 :: _) rfl rfl ?_
  refine E_s (p' := 9) rfl rfl ?_
  refine E_s (p' := 10) (st' := aA 1 :: _) rfl rfl ?_
  refine E_s (p' := 13) (st' := aA 2 :: _) rfl rfl ?_
  refine E_s (p' := 14) (st' := aI 2 :: _) rfl rfl ?_
  refine E_s (p' := 15) (st' := aA 72 :: _) rfl rfl ?_
  refine E_s (p' := 19) rfl rfl ?_
  refine E_ret rfl rfl ?_
  refine E_s (p' := 6) (L' := [some (aA 1), some (aI 2), some (aI 1), some (aA 72)]) rfl rfl ?_
  refine E_s (p' := 7) (st' := aA 72 :: _) rfl rfl ?_
  refine E_s (p' := 12) rfl rfl ?_
  refine E_s (p' := 13) (st' := aI 1 :: _) rfl rfl ?_
  refine E_s (p' := 64) rfl rfl ?_
  refine E_s (p' := 65) (st' := aA 72 :: _) rfl rfl ?_
  refine E_s (p' := 68) (st' := aA 73 :: _) rfl rfl ?_
  refine E_callL (p' := 71) (L0 := [some (aA 73), none, none]) rfl rfl rfl ?_
  refine E_s (p' := 1) (st' := aI 0 :: _) rfl rfl ?_
  refine E_s (p' := 2) (L' := [some (aA 73), some (aI 0), none]) rfl rfl ?_
  refine E_s (p' := 3) (st' := aI 0 :: _) rfl rfl ?_
  refine E_s (p' := 4) (L' := [some (aA 73), some (aI 0), some (aI 0)]) rfl rfl ?_
  refine E_s (p' := 5) (st' := aI 0 :: _) rfl rfl ?_
  refine E_s (p' := 6) (st' := aA 73 :: _) rfl rfl ?_
  refine E_s (p' := 9) (st' := aI 0 :: _) rfl rfl ?_
  refine E_s (p' := 27) rfl rfl ?_
  refine E_s (p' := 28) (st' := aI 0 :: _) rfl rfl ?_
  refine E_ret rfl rfl ?_
  refine E_ret rfl rfl ?_
  refine E_s (p' := 1156) (st' := aA 124 :: _) rfl rfl ?_
  refine E_s (p' := 1157) (st' := aA 0 :: _) rfl rfl ?_
  refine E_s (p' := 1158) (st' := aI 0 :: _) rfl rfl ?_
  refine E_s (p' := 1159) (st' := aI 1 :: _) rfl rfl ?_
  refine E_s (p' := 1160) (st' := aI 1 :: _) rfl rfl ?_
  refine E_scr rfl rfl h1 ?_
  refine E_s (p' := 1162) (st' := aA 0 :: _) rfl rfl ?_
  refine E_s (p' := 1163) (st' := aI 0 :: _) rfl rfl ?_
  refine E_s (p' := 1164) (st' := aI 2 :: _) rfl rfl ?_
  refine E_s (p' := 1165) (st' := aI 2 :: _) rfl rfl ?_
  refine E_scr rfl rfl h2 ?_
  refine E_callL (p' := 1169) (L0 := [some (aA 124), some (aI 2), some (aI 1), none, none]) rfl rfl rfl ?_
  refine E_s (p' := 1) (st' := aI 2 :: _) rfl rfl ?_
  refine E_callL (p' := 4) (L0 := [some (aI 2)]) rfl rfl rfl ?_
  refine E_s (p' := 1) (st' := aI 2 :: _) rfl rfl ?_
  refine E_s (p' := 2) (st' := aI 0 :: _) rfl rfl ?_
  refine E_s (p' := 3) (st' := aI 3 :: _) rfl rfl ?_
  refine E_callL (p' := 6) (L0 := [some (aI 2), some (aI 0), some (aI 3)]) rfl rfl rfl ?_
  refine E_s (p' := 1) (st' := aI 2 :: _) rfl rfl ?_
  refine E_s (p' := 2) (st' := aI 0 :: _) rfl rfl ?_
  refine E_s (p' := 5) rfl rfl ?_
  refine E_s (p' := 6) (st' := aI 2 :: _) rfl rfl ?_
  refine E_s (p' := 7) (st' := aI 3 :: _) rfl rfl ?_
  refine E_s (p' := 10) rfl rfl ?_
  refine E_s (p' := 11) (st' := aI 1 :: _) rfl rfl ?_
  refine E_s (p' := 15) rfl rfl ?_
  refine E_ret rfl rfl ?_
  refine E_ret rfl rfl ?_
  refine E_s (p' := 9) rfl rfl ?_
  refine E_s (p' := 10) (st' := aI 0 :: _) rfl rfl ?_
  refine E_s (p' := 11) (L' := [some (aA 124), some (aI 2), some (aI 1), some (aI 0), none]) rfl rfl ?_
  refine E_s (p' := 12) (st' := aI 1 :: _) rfl rfl ?_
  refine E_s (p' := 63) rfl rfl ?_
  refine E_s (p' := 64) (st' := aI 0 :: _) rfl rfl ?_
  refine E_s (p' := 66) (L' := [some (aA 124), some (aI 2), some (aI 1), some (aI 0), some (aI 0)]) rfl rfl ?_
  refine E_s (p' := 68) (st' := aI 0 :: _) rfl rfl ?_
  refine E_s (p' := 69) (st' := aA 124 :: _) rfl rfl ?_
  refine E_s (p' := 72) (st' := aA 125 :: _) rfl rfl ?_
  refine E_s (p' := 73) (st' := aI 2 :: _) rfl rfl ?_
  refine E_s (p' := 74) (st' := aI 0 :: _) rfl rfl ?_
  refine E_s (p' := 98) rfl rfl ?_
  refine E_s (p' := 99) (st' := aI 0 :: _) rfl rfl ?_
  refine E_ret rfl rfl ?_
  refine E_s (p' := 1174) rfl rfl ?_
  refine E_s (p' := 1177) (L' := [some (aA 0), some (aA 1), some (aA 124), some (aI 6)]) rfl rfl ?_
  refine E_s (p' := 18) rfl rfl ?_
  refine E_s (p' := 19) (st' := aI 6 :: _) rfl rfl ?_
  refine E_s (p' := 20) (st' := aA 0 :: _) rfl rfl ?_
  refine E_s (p' := 21) (st' := aI 6 :: _) rfl rfl ?_
  refine E_s (p' := 23) (st' := aI 6 :: _) rfl rfl ?_
  refine E_s (p' := 24) (st' := aI 0 :: _) rfl rfl ?_
  refine E_s (p' := 1180) rfl rfl ?_
  refine E_s (p' := 1181) (st' := aI 1 :: _) rfl rfl ?_
  exact E_ret rfl rfl ⟨rfl, rfl⟩
set_option maxRecDepth 100000 in
set_option maxHeartbeats 40000000 in
theorem pc_27_2_2 (xs : Nat → Int) {z a3 a4 a5 : Int} (hz : b32 (fun a b => a &&& b) z 31 = 27) (h0 : xs 0 = z) (h1 : xs 1 = 2) (h2 : xs 2 = 2) (h3 : xs 3 = a3) (h4 : xs 4 = a4) (h5 : xs 5 = a5) : E 0 18 LL [] (s0 xs 6) PQ := by
  refine E_s (p' := 19) (st' := aI 0 :: _) rfl rfl ?_
  refine E_s (p' := 20) (st' := aA 0 :: _) rfl rfl ?_
  refine E_s (p' := 21) (st' := aI 6 :: _) rfl rfl ?_
  refine E_s (p' := 23) (st' := aI 6 :: _) rfl rfl ?_
  refine E_s (p' := 24) (st' := aI 0 :: _) rfl rfl ?_
  refine E_s (p' := 27) rfl rfl ?_
  refine E_s (p' := 28) (st' := aA 0 :: _) rfl rfl ?_
  refine E_s (p' := 29) (st' := aI 0 :: _) rfl rfl ?_
  refine E_scr rfl rfl h0 ?_
  refine E_s (p' := 32) (st' := aI 31 :: _) rfl rfl ?_
  refine E_s (p' := 33) rfl rfl ?_
  refine E_val hz ?_
  refine E_s (p' := 1141) rfl rfl ?_
  refine E_s (p' := 1142) (st' := aA 1 :: _) rfl rfl ?_
  refine E_s (p' := 1143) (st' := aA 0 :: _) rfl rfl ?_
  refine E_s (p' := 1144) (st' := aI 0 :: _) rfl rfl ?_
  refine E_s (p' := 1145) (st' := aI 1 :: _) rfl rfl ?_
  refine E_s (p' := 1146) (st' := aI 1 :: _) rfl rfl ?_
  refine E_scr rfl rfl h1 ?_
  refine E_s (p' := 1148) (st' := aA 0 :: _) rfl rfl ?_
  refine E_s (p' := 1149) (st' := aI 0 :: _) rfl rfl ?_
  refine E_s (p' := 1150) (st' := aI 2 :: _) rfl rfl ?_
  refine E_s (p' := 1151) (st' := aI 2 :: _) rfl rfl ?_
  refine E_scr rfl rfl h2 ?_
  refine E_callL (p' := 1155) (L0 := [some (aA 1), some (aI 2), some (aI 2), none]) rfl rfl rfl ?_
  refine E_s (p' := 1) (st' := aA 1 :: _) rfl rfl ?_
  refine E_s (p' := 2) (st' := aI 2 :: _) rfl rfl ?_
  refine E_callL (p' := 5) (L0 := [some (aA 1), some (aI 2)]) rfl rfl rfl ?_
  refine E_s (p' := 1) (st' := aI 2 :: _) rfl rfl ?_
  refine E_s (p' := 4) rfl rfl ?_
  refine E_s (p' := 5) (st' := aI 2 :: _) rfl rfl ?_
  refine E_s (p' := 6) (st' := aI 4 :: _) rfl rfl ?_
  refine E_s (p' := 9) rfl rfl ?_
  refine E_s (p' := 10) (st' := aA 1 :: _) rfl rfl ?_
  refine E_s (p' := 13) (st' := aA 2 :: _) rfl rfl ?_
  refine E_s (p' := 14) (st' := aI 2 :: _) rfl rfl ?_
  refine E_s (p' := 15) (st' := aA 72 :: _) rfl rfl ?_
  refine E_s (p' := 19) rfl rfl ?_
  refine E_ret rfl rfl ?_
  refine E_s (p' := 6) (L' := [some (aA 1), some (aI 2), some (aI 2), some (aA 72)]) rfl rfl ?_
  refine E_s (p' := 7) (st' := aA 72 :: _) rfl rfl ?_
  refine E_s (p' := 12) rfl rfl ?_
  refine E_s (p' := 13) (st' := aI 2 :: _) rfl rfl ?_
  refine E_s (p' := 72) rfl rfl ?_
  refine E_s (p' := 73) (st' := aA 72 :: _) rfl rfl ?_
  refine E_s (p' := 76) (st' := aA 81 :: _) rfl rfl ?_
  refine E_s (p' := 79) (st' := aI 0 :: _) rfl rfl ?_
  refine E_ret rfl rfl ?_
  refine E_s (p' := 1156) (st' := aA 124 :: _) rfl rfl ?_
  refine E_s (p' := 1157) (st' := aA 0 :: _) rfl rfl ?_
  refine E_s (p' := 1158) (st' := aI 0 :: _) rfl rfl ?_
  refine E_s (p' := 1159) (st' := aI 1 :: _) rfl rfl ?_
  refine E_s (p' := 1160) (st' := aI 1 :: _) rfl rfl ?_
  refine E_scr rfl rfl h1 ?_
  refine E_s (p' := 1162) (st' := aA 0 :: _) rfl rfl ?_
  refine E_s (p' := 1163) (st' := aI 0 :: _) rfl rfl ?_
  refine E_s (p' := 1164) (st' := aI 2 :: _) rfl rfl ?_
  refine E_s (p' := 1165) (st' := aI 2 :: _) rfl rfl ?_
  refine E_scr rfl rfl h2 ?_
  refine E_callL (p' := 1169) (L0 := [some (aA 124), some (aI 2), some (aI 2), none, none]) rfl rfl rfl ?_
  refine E_s (p' := 1) (st' := aI 2 :: _) rfl rfl ?_
  refine E_callL (p' := 4) (L0 := [some (aI 2)]) rfl rfl rfl ?_
  refine E_s (p' := 1) (st' := aI 2 :: _) rfl rfl ?_
  refine E_s (p' := 2) (st' := aI 0 :: _) rfl rfl ?_
  refine E_s (p' := 3) (st' := aI 3 :: _) rfl rfl ?_
  refine E_callL (p' := 6) (L0 := [some (aI 2), some (aI 0), some (aI 3)]) rfl rfl rfl ?_
  refine E_s (p' := 1) (st' := aI 2 :: _) rfl rfl ?_
  refine E_s (p' := 2) (st' := aI 0 :: _) rfl rfl ?_
  refine E_s (p' := 5) rfl rfl ?_
  refine E_s (p' := 6) (st' := aI 2 :: _) rfl rfl ?_
  refine E_s (p' := 7) (st' := aI 3 :: _) rfl rfl ?_
  refine E_s (p' := 10) rfl rfl ?_
  refine E_s (p' := 11) (st' := aI 1 :: _) rfl rfl ?_
  refine E_s (p' := 15) rfl rfl ?_
  refine E_ret rfl rfl ?_
  refine E_ret rfl rfl ?_
  refine E_s (p' := 9) rfl rfl ?_
  refine E_s (p' := 10) (st' := aI 0 :: _) rfl rfl ?_
  refine E_s (p' := 11) (L' := [some (aA 124), some (aI 2), some (aI 2), some (aI 0), none]) rfl rfl ?_
  refine E_s (p' := 12) (st' := aI 2 :: _) rfl rfl ?_
  refine E_s (p' := 100) rfl rfl ?_
  refine E_s (p' := 101) (st' := aA 124 :: _) rfl rfl ?_
  refine E_s (p' := 104) (st' := aA 136 :: _) rfl rfl ?_
  refine E_s (p' := 105) (st' := aI 2 :: _) rfl rfl ?_
  refine E_s (p' := 106) (st' := aI 0 :: _) rfl rfl ?_
  refine E_ret rfl rfl ?_
  refine E_s (p' := 1174) rfl rfl ?_
  refine E_s (p' := 1177) (L' := [some (aA 0), some (aA 1), some (aA 124), some (aI 6)]) rfl rfl ?_
  refine E_s (p' := 18) rfl rfl ?_
  refine E_s (p' := 19) (st' := aI 6 :: _) rfl rfl ?_
  refine E_s (p' := 20) (st' := aA 0 :: _) rfl rfl ?_
  refine E_s (p' := 21) (st' := aI 6 :: _) rfl rfl ?_
  refine E_s (p' := 23) (st' := aI 6 :: _) rfl rfl ?_
  refine E_s (p' := 24) (st' := aI 0 :: _) rfl rfl ?_
  refine E_s (p' := 1180) rfl rfl ?_
  refine E_s (p' := 1181) (st' := aI 1 :: _) rfl rfl ?_
  exact E_ret rfl rfl ⟨rfl, rfl⟩
set_option maxRecDepth 100000 in
set_option maxHeartbeats 40000000 in
theorem pc_27_2_3 (xs : Nat → Int) {z a3 a4 a5 : Int} (hz : b32 (fun a b => a &&& b) z 31 = 27) (h0 : xs 0 = z) (h1 : xs 1 = 2) (h2 : xs 2 = 3) (h3 : xs 3 = a3) (h4 : xs 4 = a4) (h5 : xs 5 = a5) : E 0 18 LL [] (s0 xs 6) PQ := by
  refine E_s (p' := 19) (st' := aI 0 :: _) rfl rfl ?_
  refine E_s (p' := 20) (st' := aA 0 :: _) rfl rfl ?_
  refine E_s (p' := 21) (st' := aI 6 :: _) rfl rfl ?_
  refine E_s (p' := 23) (st' := aI 6 :: _) rfl rfl ?_
  refine E_s (p' := 24) (st' := aI 0 :: _) rfl rfl ?_
  refine E_s (p' := 27) rfl rfl ?_
  refine E_s (p' := 28) (st' := aA 0 :: _) rfl rfl ?_
  refine E_s (p' := 29) (st' := aI 0 :: _) rfl rfl ?_
  refine E_scr rfl rfl h0 ?_
  refine E_s (p' := 32) (st' := aI 31 :: _) rfl rfl ?_
  refine E_s (p' := 33) rfl rfl ?_
  refine E_val hz ?_
  refine E_s (p' := 1141) rfl rfl ?_
  refine E_s (p' := 1142) (st' := aA 1 :: _) rfl rfl ?_
  refine E_s (p' := 1143) (st' := aA 0 :: _) rfl rfl ?_
  refine E_s (p' := 1144) (st' := aI 0 :: _) rfl rfl ?_
  refine E_s (p' := 1145) (st' := aI 1 :: _) rfl rfl ?_
  refine E_s (p' := 1146) (st' := aI 1 :: _) rfl rfl ?_
  refine E_scr rfl rfl h1 ?_
  refine E_s (p' := 1148) (st' := aA 0 :: _) rfl rfl ?_
  refine E_s (p' := 1149) (st' := aI 0 :: _) rfl rfl ?_
  refine E_s (p' := 1150) (st' := aI 2 :: _) rfl rfl ?_
  refine E_s (p' := 1151) (st' := aI 2 :: _) rfl rfl ?_
  refine E_scr rfl rfl h2 ?_
  refine E_callL (p' := 1155) (L0 := [some (aA 1), some (aI 2), some (aI 3), none]) rfl rfl rfl ?_
  refine E_s (p' := 1) (st' := aA 1 :: _) rfl rfl ?_
  refine E_s (p' := 2) (st' := aI 2 :: _) rfl rfl ?_
  refine E_callL (p' := 5) (L0 := [some (aA 1), some (aI 2)]) rfl rfl rfl ?_
  refine E_s (p' := 1) (st' := aI 2 :: _) rfl rfl ?_
  refine E_s (p' := 4) rfl rfl ?_
  refine E_s (p' := 5) (st' := aI 2 :: _) rfl rfl ?_
  refine E_s (p' := 6) (st' := aI 4 :: _) rfl rfl ?_
  refine E_s (p' := 9) rfl rfl ?_
  refine E_s (p' := 10) (st' := aA 1 :: _) rfl rfl ?_
  refine E_s (p' := 13) (st' := aA 2 :: _) rfl rfl ?_
  refine E_s (p' := 14) (st' := aI 2 :: _) rfl rfl ?_
  refine E_s (p' := 15) (st' := aA 72 :: _) rfl rfl ?_
  refine E_s (p' := 19) rfl rfl ?_
  refine E_ret rfl rfl ?_
  refine E_s (p' := 6) (L' := [some (aA 1), some (aI 2), some (aI 3), some (aA 72)]) rfl rfl ?_
  refine E_s (p' := 7) (st' := aA 72 :: _) rfl rfl ?_
  refine E_s (p' := 12) rfl rfl ?_
  refine E_s (p' := 13) (st' := aI 3 :: _) rfl rfl ?_
  refine E_s (p' := 80) rfl rfl ?_
  refine E_s (p' := 81) (st' := aA 72 :: _) rfl rfl ?_
  refine E_s (p' := 84) (st' := aI 15 :: _) rfl rfl ?_
  refine E_ret rfl rfl ?_
  refine E_s (p' := 1156) (st' := aA 124 :: _) rfl rfl ?_
  refine E_s (p' := 1157) (st' := aA 0 :: _) rfl rfl ?_
  refine E_s (p' := 1158) (st' := aI 0 :: _) rfl rfl ?_
  refine E_s (p' := 1159) (st' := aI 1 :: _) rfl rfl ?_
  refine E_s (p' := 1160) (st' := aI 1 :: _) rfl rfl ?_
  refine E_scr rfl rfl h1 ?_
  refine E_s (p' := 1162) (st' := aA 0 :: _) rfl rfl ?_
  refine E_s (p' := 1163) (st' := aI 0 :: _) rfl rfl ?_
  refine E_s (p' := 1164) (st' := aI 2 :: _) rfl rfl ?_
  refine E_s (p' := 1165) (st' := aI 2 :: _) rfl rfl ?_
  refine E_scr rfl rfl h2 ?_
  refine E_callL (p' := 1169) (L0 := [some (aA 124), some (aI 2), some (aI 3), none, none]) rfl rfl rfl ?_
  refine E_s (p' := 1) (st' := aI 2 :: _) rfl rfl ?_
  refine E_callL (p' := 4) (L0 := [some (aI 2)]) rfl rfl rfl ?_
  refine E_s (p' := 1) (st' := aI 2 :: _) rfl rfl ?_
  refine E_s (p' := 2) (st' := aI 0 :: _) rfl rfl ?_
  refine E_s (p' := 3) (st' := aI 3 :: _) rfl rfl ?_
  refine E_callL (p' := 6) (L0 := [some (aI 2), some (aI 0), some (aI 3)]) rfl rfl rfl ?_
  refine E_s (p' := 1) (st' := aI 2 :: _) rfl rfl ?_
  refine E_s (p' := 2) (st' := aI 0 :: _) rfl rfl ?_
  refine E_s (p' := 5) rfl rfl ?_
  refine E_s (p' := 6) (st' := aI 2 :: _) rfl rfl ?_
  refine E_s (p' := 7) (st' := aI 3 :: _) rfl rfl ?_
  refine E_s (p' := 10) rfl rfl ?_
  refine E_s (p' := 11) (st' := aI 1 :: _) rfl rfl ?_
  refine E_s (p' := 15) rfl rfl ?_
  refine E_ret rfl rfl ?_
  refine E_ret rfl rfl ?_
  refine E_s (p' := 9) rfl rfl ?_
  refine E_s (p' := 10) (st' := aI 0 :: _) rfl rfl ?_
  refine E_s (p' := 11) (L' := [some (aA 124), some (aI 2), some (aI 3), some (aI 0), none]) rfl rfl ?_
  refine E_s (p' := 12) (st' := aI 3 :: _) rfl rfl ?_
  refine E_s (p' := 107) rfl rfl ?_
  refine E_s (p' := 108) (st' := aA 124 :: _) rfl rfl ?_
  refine E_s (p' := 111) (st' := aA 126 :: _) rfl rfl ?_
  refine E_s (p' := 112) (st' := aI 2 :: _) rfl rfl ?_
  refine E_s (p' := 113) (st' := aI 15 :: _) rfl rfl ?_
  refine E_ret rfl rfl ?_
  refine E_s (p' := 1174) rfl rfl ?_
  refine E_s (p' := 1177) (L' := [some (aA 0), some (aA 1), some (aA 124), some (aI 6)]) rfl rfl ?_
  refine E_s (p' := 18) rfl rfl ?_
  refine E_s (p' := 19) (st' := aI 6 :: _) rfl rfl ?_
  refine E_s (p' := 20) (st' := aA 0 :: _) rfl rfl ?_
  refine E_s (p' := 21) (st' := aI 6 :: _) rfl rfl ?_
  refine E_s (p' := 23) (st' := aI 6 :: _) rfl rfl ?_
  refine E_s (p' := 24) (st' := aI 0 :: _) rfl rfl ?_
  refine E_s (p' := 1180) rfl rfl ?_
  refine E_s (p' := 1181) (st' := aI 1 :: _) rfl rfl ?_
  exact E_ret rfl rfl ⟨rfl, rfl⟩
set_option maxRecDepth 100000 in
set_option maxHeartbeats 40000000 in
theorem pc_27_2_4 (xs : Nat → Int) {z a3 a4 a5 : Int} (hz : b32 (fun a b => a &&& b) z 31 = 27) (h0 : xs 0 = z) (h1 : xs 1 = 2) (h2 : xs 2 = 4) (h3 : xs 3 = a3) (h4 : xs 4 = a4) (h5 : xs 5 = a5) : E 0 18 LL [] (s0 xs 6) PQ := by
  refine E_s (p' := 19) (st' := aI 0 :: _) rfl rfl ?_
  refine E_s (p' := 20) (st' := aA 0 :: _) rfl rfl ?_
  refine E_s (p' := 21) (st' := aI 6 :: _) rfl rfl ?_
  refine E_s (p' := 23) (st' := aI 6 :: _) rfl rfl ?_
  refine E_s (p' := 24) (st' := aI 0 :: _) rfl rfl ?_
  refine E_s (p' := 27) rfl rfl ?_
  refine E_s (p' := 28) (st' := aA 0 :: _) rfl rfl ?_
  refine E_s (p' := 29) (st' := aI 0 :: _) rfl rfl ?_
  refine E_scr rfl rfl h0 ?_
  refine E_s (p' := 32) (st' := aI 31 :: _) rfl rfl ?_
  refine E_s (p' := 33) rfl rfl ?_
  refine E_val hz ?_
  refine E_s (p' := 1141) rfl rfl ?_
  refine E_s (p' := 1142) (st' := aA 1 :: _) rfl rfl ?_
  refine E_s (p' := 1143) (st' := aA 0 :: _) rfl rfl ?_
  refine E_s (p' := 1144) (st' := aI 0 :: _) rfl rfl ?_
  refine E_s (p' := 1145) (st' := aI 1 :: _) rfl rfl ?_
  refine E_s (p' := 1146) (st' := aI 1 :: _) rfl rfl ?_
  refine E_scr rfl rfl h1 ?_
  refine E_s (p' := 1148) (st' := aA 0 :: _) rfl rfl ?_
  refine E_s (p' := 1149) (st' := aI 0 :: _) rfl rfl ?_
  refine E_s (p' := 1150) (st' := aI 2 :: _) rfl rfl ?_
  refine E_s (p' := 1151) (st' := aI 2 :: _) rfl rfl ?_
  refine E_scr rfl rfl h2 ?_
  refine E_callL (p' := 1155) (L0 := [some (aA 1), some (aI 2), some (aI 4), none]) rfl rfl rfl ?_
  refine E_s (p' := 1) (st' := aA 1 :: _) rfl rfl ?_
  refine E_s (p' := 2) (st' := aI 2 :: _) rfl rfl ?_
  refine E_callL (p' := 5) (L0 := [some (aA 1), some (aI 2)]) rfl rfl rfl ?_
  refine E_s (p' := 1) (st' := aI 2 :: _) rfl rfl ?_
  refine E_s (p' := 4) rfl rfl ?_
  refine E_s (p' := 5) (st' := aI 2 :: _) rfl rfl ?_
  refine E_s (p' := 6) (st' := aI 4 :: _) rfl rfl ?_
  refine E_s (p' := 9) rfl rfl ?_
  refine E_s (p' := 10) (st' := aA 1 :: _) rfl rfl ?_
  refine E_s (p' := 13) (st' := aA 2 :: _) rfl rfl ?_
  refine E_s (p' := 14) (st' := aI 2 :: _) rfl rfl ?_
  refine E_s (p' := 15) (st' := aA 72 :: _) rfl rfl ?_
  refine E_s (p' := 19) rfl rfl ?_
  refine E_ret rfl rfl ?_
  refine E_s (p' := 6) (L' := [some (aA 1), some (aI 2), some (aI 4), some (aA 72)]) rfl rfl ?_
  refine E_s (p' := 7) (st' := aA 72 :: _) rfl rfl ?_
  refine E_s (p' := 12) rfl rfl ?_
  refine E_s (p' := 13) (st' := aI 4 :: _) rfl rfl ?_
  refine E_s (p' := 85) rfl rfl ?_
  refine E_s (p' := 86) (st' := aA 72 :: _) rfl rfl ?_
  refine E_s (p' := 89) (st' := aA 73 :: _) rfl rfl ?_
  refine E_callL (p' := 92) (L0 := [some (aA 73), none, none]) rfl rfl rfl ?_
  refine E_s (p' := 1) (st' := aI 0 :: _) rfl rfl ?_
  refine E_s (p' := 2) (L' := [some (aA 73), some (aI 0), none]) rfl rfl ?_
  refine E_s (p' := 3) (st' := aI 0 :: _) rfl rfl ?_
  refine E_s (p' := 4) (L' := [some (aA 73), some (aI 0), some (aI 0)]) rfl rfl ?_
  refine E_s (p' := 5) (st' := aI 0 :: _) rfl rfl ?_
  refine E_s (p' := 6) (st' := aA 73 :: _) rfl rfl ?_
  refine E_s (p' := 9) (st' := aI 0 :: _) rfl rfl ?_
  refine E_s (p' := 35) rfl rfl ?_
  refine E_s (p' := 36) (st' := aI 0 :: _) rfl rfl ?_
  refine E_ret rfl rfl ?_
  refine E_ret rfl rfl ?_
  refine E_s (p' := 1156) (st' := aA 124 :: _) rfl rfl ?_
  refine E_s (p' := 1157) (st' := aA 0 :: _) rfl rfl ?_
  refine E_s (p' := 1158) (st' := aI 0 :: _) rfl rfl ?_
  refine E_s (p' := 1159) (st' := aI 1 :: _) rfl rfl ?_
  refine E_s (p' := 1160) (st' := aI 1 :: _) rfl rfl ?_
  refine E_scr rfl rfl h1 ?_
  refine E_s (p' := 1162) (st' := aA 0 :: _) rfl rfl ?_
  refine E_s (p' := 1163) (st' := aI 0 :: _) rfl rfl ?_
  refine E_s (p' := 1164) (st' := aI 2 :: _) rfl rfl ?_
  refine E_s (p' := 1165) (st' := aI 2 :: _) rfl rfl ?_
  refine E_scr rfl rfl h2 ?_
  refine E_callL (p' := 1169) (L0 := [some (aA 124), some (aI 2), some (aI 4), none, none]) rfl rfl rfl ?_
  refine E_s (p' := 1) (st' := aI 2 :: _) rfl rfl ?_
  refine E_callL (p' := 4) (L0 := [some (aI 2)]) rfl rfl rfl ?_
  refine E_s (p' := 1) (st' := aI 2 :: _) rfl rfl ?_
  refine E_s (p' := 2) (st' := aI 0 :: _) rfl rfl ?_
  refine E_s (p' := 3) (st' := aI 3 :: _) rfl rfl ?_
  refine E_callL (p' := 6) (L0 := [some (aI 2), some (aI 0), some (aI 3)]) rfl rfl rfl ?_
  refine E_s (p' := 1) (st' := aI 2 :: _) rfl rfl ?_
  refine E_s (p' := 2) (st' := aI 0 :: _) rfl rfl ?_
  refine E_s (p' := 5) rfl rfl ?_
  refine E_s (p' := 6) (st' := aI 2 :: _) rfl rfl ?_
  refine E_s (p' := 7) (st' := aI 3 :: _) rfl rfl ?_
  refine E_s (p' := 10) rfl rfl ?_
  refine E_s (p' := 11) (st' := aI 1 :: _) rfl rfl ?_
  refine E_s (p' := 15) rfl rfl ?_
  refine E_ret rfl rfl ?_
  refine E_ret rfl rfl ?_
  refine E_s (p' := 9) rfl rfl ?_
  refine E_s (p' := 10) (st' := aI 0 :: _) rfl rfl ?_
  refine E_s (p' := 11) (L' := [some (aA 124), some (aI 2), some (aI 4), some (aI 0), none]) rfl rfl ?_
  refine E_s (p' := 12) (st' := aI 4 :: _) rfl rfl ?_
  refine E_s (p' := 114) rfl rfl ?_
  refine E_s (p' := 115) (st' := aI 0 :: _) rfl rfl ?_
  refine E_s (p' := 117) (L' := [some (aA 124), some (aI 2), some (aI 4), some (aI 0), some (aI 0)]) rfl rfl ?_
  refine E_s (p' := 119) (st' := aI 0 :: _) rfl rfl ?_
  refine E_s (p' := 120) (st' := aA 124 :: _) rfl rfl ?_
  refine E_s (p' := 123) (st' := aA 125 :: _) rfl rfl ?_
  refine E_s (p' := 124) (st' := aI 2 :: _) rfl rfl ?_
  refine E_s (p' := 125) (st' := aI 0 :: _) rfl rfl ?_
  refine E_s (p' := 158) rfl rfl ?_
  refine E_s (p' := 159) (st' := aI 0 :: _) rfl rfl ?_
  refine E_ret rfl rfl ?_
  refine E_s (p' := 1174) rfl rfl ?_
  refine E_s (p' := 1177) (L' := [some (aA 0), some (aA 1), some (aA 124), some (aI 6)]) rfl rfl ?_
  refine E_s (p' := 18) rfl rfl ?_
  refine E_s (p' := 19) (st' := aI 6 :: _) rfl rfl ?_
  refine E_s (p' := 20) (st' := aA 0 :: _) rfl rfl ?_
  refine E_s (p' := 21) (st' := aI 6 :: _) rfl rfl ?_
  refine E_s (p' := 23) (st' := aI 6 :: _) rfl rfl ?_
  refine E_s (p' := 24) (st' := aI 0 :: _) rfl rfl ?_
  refine E_s (p' := 1180) rfl rfl ?_
  refine E_s (p' := 1181) (st' := aI 1 :: _) rfl rfl ?_
  exact E_ret rfl rfl ⟨rfl, rfl⟩
set_option maxRecDepth 100000 in
set_option maxHeartbeats 40000000 in
theorem pc_27_2_5 (xs : Nat → Int) {z a3 a4 a5 : Int} (hz : b32 (fun a b => a &&& b) z 31 = 27) (h0 : xs 0 = z) (h1 : xs 1 = 2) (h2 : xs 2 = 5) (h3 : xs 3 = a3) (h4 : xs 4 = a4) (h5 : xs 5 = a5) : E 0 18 LL [] (s0 xs 6) PQ := by
  refine E_s (p' := 19) (st' := aI 0 :: _) rfl rfl ?_
  refine E_s (p' := 20) (st' := aA 0 :: _) rfl rfl ?_
  refine E_s (p' := 21) (st' := aI 6 :: _) rfl rfl ?_
  refine E_s (p' := 23) (st' := aI 6 :: _) rfl rfl ?_
  refine E_s (p' := 24) (st' := aI 0 :: _) rfl rfl ?_
  refine E_s (p' := 27) rfl rfl ?_
  refine E_s (p' := 28) (st' := aA 0 :: _) rfl rfl ?_
  refine E_s (p' := 29) (st' := aI 0 :: _) rfl rfl ?_
  refine E_scr rfl rfl h0 ?_
  refine E_s (p' := 32) (st' := aI 31 :: _) rfl rfl ?_
  refine E_s (p' := 33) rfl rfl ?_
  refine E_val hz ?_
  refine E_s (p' := 1141) rfl rfl ?_
  refine E_s (p' := 1142) (st' := aA 1 :: _) rfl rfl ?_
  refine E_s (p' := 1143) (st' := aA 0 :: _) rfl rfl ?_
  refine E_s (p' := 1144) (st' := aI 0 :: _) rfl rfl ?_
  refine E_s (p' := 1145) (st' := aI 1 :: _) rfl rfl ?_
  refine E_s (p' := 1146) (st' := aI 1 :: _) rfl rfl ?_
  refine E_scr rfl rfl h1 ?_
  refine E_s (p' := 1148) (st' := aA 0 :: _) rfl rfl ?_
  refine E_s (p' := 1149) (st' := aI 0 :: _) rfl rfl ?_
  refine E_s (p' := 1150) (st' := aI 2 :: _) rfl rfl ?_
  refine E_s (p' := 1151) (st' := aI 2 :: _) rfl rfl ?_
  refine E_scr rfl rfl h2 ?_
  refine E_callL (p' := 1155) (L0 := [some (aA 1), some (aI 2), some (aI 5), none]) rfl rfl rfl ?_
  refine E_s (p' := 1) (st' := aA 1 :: _) rfl rfl ?_
  refine E_s (p' := 2) (st' := aI 2 :: _) rfl rfl ?_
  refine E_callL (p' := 5) (L0 := [some (aA 1), some (aI 2)]) rfl rfl rfl ?_
  refine E_s (p' := 1) (st' := aI 2 :: _) rfl rfl ?_
  refine E_s (p' := 4) rfl rfl ?_
  refine E_s (p' := 5) (st' := aI 2 :: _) rfl rfl ?_
  refine E_s (p' := 6) (st' := aI 4 :: _) rfl rfl ?_
  refine E_s (p' := 9) rfl rfl ?_
  refine E_s (p' := 10) (st' := aA 1 :: _) rfl rfl ?_
  refine E_s (p' := 13) (st' := aA 2 :: _) rfl rfl ?_
  refine E_s (p' := 14) (st' := aI 2 :: _) rfl rfl ?_
  refine E_s (p' := 15) (st' := aA 72 :: _) rfl rfl ?_
  refine E_s (p' := 19) rfl rfl ?_
  refine E_ret rfl rfl ?_
  refine E_s (p' := 6) (L' := [some (aA 1), some (aI 2), some (aI 5), some (aA 72)]) rfl rfl ?_
  refine E_s (p' := 7) (st' := aA 72 :: _) rfl rfl ?_
  refine E_s (p' := 12) rfl rfl ?_
  refine E_s (p' := 13) (st' := aI 5 :: _) rfl rfl ?_
  refine E_s (p' := 93) rfl rfl ?_
  refine E_s (p' := 94) (st' := aA 72 :: _) rfl rfl ?_
  refine E_callL (p' := 97) (L0 := [some (aA 72)]) rfl rfl rfl ?_
  refine E_s (p' := 1) (st' := aA 72 :: _) rfl rfl ?_
  refine E_s (p' := 4) (st' := aI 0 :: _) rfl rfl ?_
  refine E_s (p' := 7) rfl rfl ?_
  refine E_s (p' := 8) (st' := aA 72 :: _) rfl rfl ?_
  refine E_s (p' := 11) (st' := aA 87 :: _) rfl rfl ?_
  refine E_s (p' := 12) (st' := aA 72 :: _) rfl rfl ?_
  refine E_s (p' := 15) (st' := aA 73 :: _) rfl rfl ?_
  refine E_s (p' := 16) (st' := aA 72 :: _) rfl rfl ?_
  refine E_s (p' := 19) (st' := aI 15 :: _) rfl rfl ?_
  refine E_callL (p' := 22) (L0 := [some (aA 87), some (aA 73), some (aI 15), none]) rfl rfl rfl ?_
  refine E_s (p' := 1) (st' := aA 87 :: _) rfl rfl ?_
  refine E_s (p' := 2) (st' := aA 73 :: _) rfl rfl ?_
  refine E_callL (p' := 5) (L0 := [some (aA 87), some (aA 73), none, none]) rfl rfl rfl ?_
  refine E_s (p' := 1) (st' := aA 87 :: _) rfl rfl ?_
  refine E_s (p' := 4) (st' := aA 96 :: _) rfl rfl ?_
  refine E_s (p' := 5) (st' := aI 0 :: _) rfl rfl ?_
  refine E_call rfl rfl ?_
  refine c_fill rfl rfl ?_
  refine E_s (p' := 9) (st' := aA 87 :: _) rfl rfl ?_
  refine E_s (p' := 12) (st' := aA 92 :: _) rfl rfl ?_
  refine E_s (p' := 13) (st' := aI 0 :: _) rfl rfl ?_
  refine E_call rfl rfl ?_
  refine c_fill rfl rfl ?_
  refine E_s (p' := 17) (st' := aA 87 :: _) rfl rfl ?_
  refine E_s (p' := 18) (st' := aI 0 :: _) rfl rfl ?_
  refine E_stM (p' := 21) (m' := up2 _ 87 10 0) rfl rfl ?_
  refine E_s (p' := 22) (st' := aA 87 :: _) rfl rfl ?_
  refine E_s (p' := 23) (st' := aI 0 :: _) rfl rfl ?_
  refine E_stM (p' := 26) (m' := up2 _ 87 11 0) rfl rfl ?_
  refine E_s (p' := 27) (st' := aI 0 :: _) rfl rfl ?_
  refine E_s (p' := 28) (L' := [some (aA 87), some (aA 73), some (aI 0), none]) rfl rfl ?_
  refine E_s (p' := 29) (st' := aI 0 :: _) rfl rfl ?_
  refine E_s (p' := 30) (st' := aA 73 :: _) rfl rfl ?_
  refine E_s (p' := 33) (st' := aI 0 :: _) rfl rfl ?_
  refine E_s (p' := 135) rfl rfl ?_
  refine E_ret rfl rfl ?_
  refine E_s (p' := 6) (st' := aA 87 :: _) rfl rfl ?_
  refine E_s (p' := 7) (st' := aI 15 :: _) rfl rfl ?_
  refine E_callL (p' := 10) (L0 := [some (aA 87), some (aI 15), none]) rfl rfl rfl ?_
  refine E_s (p' := 1) (st' := aA 87 :: _) rfl rfl ?_
  refine E_s (p' := 2) (st' := aI 0 :: _) rfl rfl ?_
  refine E_stM (p' := 5) (m' := up2 _ 87 12 0) rfl rfl ?_
  refine E_s (p' := 6) (st' := aI 1 :: _) rfl rfl ?_
  refine E_s (p' := 7) (L' := [some (aA 87), some (aI 15), some (aI 1)]) rfl rfl ?_
  refine fl_loop (gp := 0) (by decide) _ 600 1 _ rfl (fun j hj => show (if 0 ≤ j ∧ j < 601 then (0 : Int) else _) = 0 from if_pos ⟨Nat.zero_le _, hj⟩) ?_
  refine E_s (p' := 11) (st' := aA 87 :: _) rfl rfl ?_
  refine E_s (p' := 14) (st' := aI 0 :: _) rfl rfl ?_
  refine E_s (p' := 17) rfl rfl ?_
  refine E_s (p' := 18) (st' := aA 87 :: _) rfl rfl ?_
  refine E_callL (p' := 21) (L0 := [some (aA 87)]) rfl rfl rfl ?_
  refine E_s (p' := 1) (st' := aA 87 :: _) rfl rfl ?_
  refine E_s (p' := 4) (st' := aA 93 :: _) rfl rfl ?_
  refine E_s (p' := 5) (st' := aA 87 :: _) rfl rfl ?_
  refine E_s (p' := 8) (st' := aI 0 :: _) rfl rfl ?_
  refine E_s (p' := 15) rfl rfl ?_
  refine E_s (p' := 16) (st' := aI 0 :: _) rfl rfl ?_
  refine E_call rfl rfl ?_
  refine c_fill rfl rfl ?_
  refine E_s (p' := 20) (st' := aA 87 :: _) rfl rfl ?_
  refine E_s (p' := 23) (st' := aA 94 :: _) rfl rfl ?_
  refine E_s (p' := 24) (st' := aI 0 :: _) rfl rfl ?_
  refine E_call rfl rfl ?_
  refine c_fill rfl rfl ?_
  refine E_s (p' := 28) (st' := aA 87 :: _) rfl rfl ?_
  refine E_s (p' := 31) (st' := aA 95 :: _) rfl rfl ?_
  refine E_s (p' := 32) (st' := aI 0 :: _) rfl rfl ?_
  refine E_call rfl rfl ?_
  refine c_fill rfl rfl ?_
  refine E_ret rfl rfl ?_
  refine E_ret rfl rfl ?_
  refine E_s (p' := 23) (st' := aA 72 :: _) rfl rfl ?_
  refine E_s (p' := 24) (st' := aI 1 :: _) rfl rfl ?_
  refine E_stM (p' := 27) (m' := up2 _ 72 7 1) rfl rfl ?_
  refine E_s (p' := 28) (st' := aA 72 :: _) rfl rfl ?_
  refine E_s (p' := 31) (st' := aA 87 :: _) rfl rfl ?_
  refine E_ret rfl rfl ?_
  refine E_s (p' := 98) (st' := aA 72 :: _) rfl rfl ?_
  refine E_s (p' := 101) (st' := aA 73 :: _) rfl rfl ?_
  refine E_s (p' := 104) (st' := aI 0 :: _) rfl rfl ?_
  refine E_callL (p' := 107) (L0 := [some (aA 87), some (aI 0), none, none]) rfl rfl rfl ?_
  refine E_s (p' := 1) (st' := aI 0 :: _) rfl rfl ?_
  refine E_s (p' := 2) (L' := [some (aA 87), some (aI 0), some (aI 0), none]) rfl rfl ?_
  refine E_s (p' := 3) (st' := aI 0 :: _) rfl rfl ?_
  refine E_s (p' := 4) (L' := [some (aA 87), some (aI 0), some (aI 0), some (aI 0)]) rfl rfl ?_
  refine E_s (p' := 5) (st' := aI 0 :: _) rfl rfl ?_
  refine E_s (p' := 6) (st' := aI 0 :: _) rfl rfl ?_
  refine E_s (p' := 32) rfl rfl ?_
  refine E_s (p' := 33) (st' := aI 0 :: _) rfl rfl ?_
  refine E_ret rfl rfl ?_
  refine E_ret rfl rfl ?_
  refine E_s (p' := 1156) (st' := aA 124 :: _) rfl rfl ?_
  refine E_s (p' := 1157) (st' := aA 0 :: _) rfl rfl ?_
  refine E_s (p' := 1158) (st' := aI 0 :: _) rfl rfl ?_
  refine E_s (p' := 1159) (st' := aI 1 :: _) rfl rfl ?_
  refine E_s (p' := 1160) (st' := aI 1 :: _) rfl rfl ?_
  refine E_scr rfl rfl h1 ?_
  refine E_s (p' := 1162) (st' := aA 0 :: _) rfl rfl ?_
  refine E_s (p' := 1163) (st' := aI 0 :: _) rfl rfl ?_
  refine E_s (p' := 1164) (st' := aI 2 :: _) rfl rfl ?_
  refine E_s (p' := 1165) (st' := aI 2 :: _) rfl rfl ?_
  refine E_scr rfl rfl h2 ?_
  refine E_callL (p' := 1169) (L0 := [some (aA 124), some (aI 2), some (aI 5), none, none]) rfl rfl rfl ?_
  refine E_s (p' := 1) (st' := aI 2 :: _) rfl rfl ?_
  refine E_callL (p' := 4) (L0 := [some (aI 2)]) rfl rfl rfl ?_
  refine E_s (p' := 1) (st' := aI 2 :: _) rfl rfl ?_
  refine E_s (p' := 2) (st' := aI 0 :: _) rfl rfl ?_
  refine E_s (p' := 3) (st' := aI 3 :: _) rfl rfl ?_
  refine E_callL (p' := 6) (L0 := [some (aI 2), some (aI 0), some (aI 3)]) rfl rfl rfl ?_
  refine E_s (p' := 1) (st' := aI 2 :: _) rfl rfl ?_
  refine E_s (p' := 2) (st' := aI 0 :: _) rfl rfl ?_
  refine E_s (p' := 5) rfl rfl ?_
  refine E_s (p' := 6) (st' := aI 2 :: _) rfl rfl ?_
  refine E_s (p' := 7) (st' := aI 3 :: _) rfl rfl ?_
  refine E_s (p' := 10) rfl rfl ?_
  refine E_s (p' := 11) (st' := aI 1 :: _) rfl rfl ?_
  refine E_s (p' := 15) rfl rfl ?_
  refine E_ret rfl rfl ?_
  refine E_ret rfl rfl ?_
  refine E_s (p' := 9) rfl rfl ?_
  refine E_s (p' := 10) (st' := aI 0 :: _) rfl rfl ?_
  refine E_s (p' := 11) (L' := [some (aA 124), some (aI 2), some (aI 5), some (aI 0), none]) rfl rfl ?_
  refine E_s (p' := 12) (st' := aI 5 :: _) rfl rfl ?_
  refine E_s (p' := 160) rfl rfl ?_
  refine E_s (p' := 161) (st' := aA 124 :: _) rfl rfl ?_
  refine E_s (p' := 162) (st' := aI 2 :: _) rfl rfl ?_
  refine E_s (p' := 163) (st' := aA 124 :: _) rfl rfl ?_
  refine E_s (p' := 166) (st' := aA 148 :: _) rfl rfl ?_
  refine E_callL (p' := 169) (L0 := [some (aA 124), some (aI 2), some (aA 148), none]) rfl rfl rfl ?_
  refine E_s (p' := 1) (st' := aA 124 :: _) rfl rfl ?_
  refine E_s (p' := 2) (st' := aI 2 :: _) rfl rfl ?_
  refine E_callL (p' := 5) (L0 := [some (aA 124), some (aI 2), none, none]) rfl rfl rfl ?_
  refine E_s (p' := 1) (st' := aI 0 :: _) rfl rfl ?_
  refine E_s (p' := 2) (L' := [some (aA 124), some (aI 2), some (aI 0), none]) rfl rfl ?_
  refine mr_loop1 _ 601 0 _ rfl ?_
  refine E_s (p' := 23) (st' := aA 124 :: _) rfl rfl ?_
  refine E_s (p' := 24) (st' := aI 0 :: _) rfl rfl ?_
  refine E_stM (p' := 27) (m' := up2 _ 124 25 0) rfl rfl ?_
  refine E_s (p' := 28) (st' := aA 124 :: _) rfl rfl ?_
  refine E_s (p' := 29) (st' := aI 0 :: _) rfl rfl ?_
  refine E_stM (p' := 32) (m' := up2 _ 124 26 0) rfl rfl ?_
  refine E_s (p' := 33) (st' := aI 0 :: _) rfl rfl ?_
  refine E_s (p' := 34) (L' := [some (aA 124), some (aI 2), some (aI 0), none]) rfl rfl ?_
  refine E_s (p' := 35) (st' := aI 0 :: _) rfl rfl ?_
  refine E_s (p' := 36) (st' := aA 124 :: _) rfl rfl ?_
  refine E_s (p' := 39) (st' := aA 125 :: _) rfl rfl ?_
  refine E_s (p' := 40) (st' := aI 2 :: _) rfl rfl ?_
  refine E_s (p' := 41) (st' := aI 0 :: _) rfl rfl ?_
  refine E_s (p' := 121) rfl rfl ?_
  refine E_s (p' := 122) (st' := aA 124 :: _) rfl rfl ?_
  refine E_s (p' := 123) (st' := aI 0 :: _) rfl rfl ?_
  refine E_stM (p' := 126) (m' := up2 _ 124 24 0) rfl rfl ?_
  refine E_s (p' := 127) (st' := aI 0 :: _) rfl rfl ?_
  refine E_s (p' := 128) (L' := [some (aA 124), some (aI 2), some (aI 0), none]) rfl rfl ?_
  refine mr_loop3 _ 601 0 _ rfl (fun j hj => show (if 0 ≤ j ∧ j < 601 then (0 : Int) else _) = 0 from if_pos ⟨Nat.zero_le _, hj⟩) ?_
  refine E_s (p' := 245) (st' := aA 124 :: _) rfl rfl ?_
  refine E_s (p' := 248) (st' := aI 0 :: _) rfl rfl ?_
  refine E_s (p' := 249) (st' := aA 124 :: _) rfl rfl ?_
  refine E_s (p' := 252) (st' := aI 0 :: _) rfl rfl ?_
  refine E_s (p' := 259) rfl rfl ?_
  refine E_s (p' := 260) (st' := aI 1 :: _) rfl rfl ?_
  refine E_s (p' := 261) (st' := aI 1 :: _) rfl rfl ?_
  refine E_s (p' := 263) (st' := aI 6 :: _) rfl rfl ?_
  refine E_s (p' := 271) rfl rfl ?_
  refine E_s (p' := 272) (st' := aA 124 :: _) rfl rfl ?_
  refine E_s (p' := 275) (st' := aI 0 :: _) rfl rfl ?_
  refine E_s (p' := 282) rfl rfl ?_
  refine E_s (p' := 283) (st' := aI 0 :: _) rfl rfl ?_
  refine E_ret rfl rfl ?_
  refine E_s (p' := 6) rfl rfl ?_
  refine E_s (p' := 7) (st' := aI 0 :: _) rfl rfl ?_
  refine E_s (p' := 8) (L' := [some (aA 124), some (aI 2), some (aA 148), some (aI 0)]) rfl rfl ?_
  refine E_s (p' := 9) (st' := aI 0 :: _) rfl rfl ?_
  refine E_s (p' := 10) (st' := aA 124 :: _) rfl rfl ?_
  refine E_s (p' := 13) (st' := aA 125 :: _) rfl rfl ?_
  refine E_s (p' := 14) (st' := aI 2 :: _) rfl rfl ?_
  refine E_s (p' := 15) (st' := aI 0 :: _) rfl rfl ?_
  refine E_s (p' := 58) rfl rfl ?_
  refine E_ret rfl rfl ?_
  refine E_s (p' := 170) (st' := aI 0 :: _) rfl rfl ?_
  refine E_s (p' := 172) (L' := [some (aA 124), some (aI 2), some (aI 5), some (aI 0), some (aI 0)]) rfl rfl ?_
  refine E_s (p' := 174) (st' := aI 0 :: _) rfl rfl ?_
  refine E_s (p' := 175) (st' := aA 124 :: _) rfl rfl ?_
  refine E_s (p' := 178) (st' := aA 125 :: _) rfl rfl ?_
  refine E_s (p' := 179) (st' := aI 2 :: _) rfl rfl ?_
  refine E_s (p' := 180) (st' := aI 0 :: _) rfl rfl ?_
  refine E_s (p' := 207) rfl rfl ?_
  refine E_s (p' := 208) (st' := aI 0 :: _) rfl rfl ?_
  refine E_ret rfl rfl ?_
  refine E_s (p' := 1174) rfl rfl ?_
  refine E_s (p' := 1177) (L' := [some (aA 0), some (aA 1), some (aA 124), some (aI 6)]) rfl rfl ?_
  refine E_s (p' := 18) rfl rfl ?_
  refine E_s (p' := 19) (st' := aI 6 :: _) rfl rfl ?_
  refine E_s (p' := 20) (st' := aA 0 :: _) rfl rfl ?_
  refine E_s (p' := 21) (st' := aI 6 :: _) rfl rfl ?_
  refine E_s (p' := 23) (st' := aI 6 :: _) rfl rfl ?_
  refine E_s (p' := 24) (st' := aI 0 :: _) rfl rfl ?_
  refine E_s (p' := 1180) rfl rfl ?_
  refine E_s (p' := 1181) (st' := aI 1 :: _) rfl rfl ?_
  exact E_ret rfl rfl ⟨rfl, rfl⟩
set_option maxRecDepth 100000 in
set_option maxHeartbeats 40000000 in
theorem pc_27_2_6 (xs : Nat → Int) {z a3 a4 a5 : Int} (hz : b32 (fun a b => a &&& b) z 31 = 27) (h0 : xs 0 = z) (h1 : xs 1 = 2) (h2 : xs 2 = 6) (h3 : xs 3 = a3) (h4 : xs 4 = a4) (h5 : xs 5 = a5) : E 0 18 LL [] (s0 xs 6) PQ := by
  refine E_s (p' := 19) (st' := aI 0 :: _) rfl rfl ?_
  refine E_s (p' := 20) (st' := aA 0 :: _) rfl rfl ?_
  refine E_s (p' := 21) (st' := aI 6 :: _) rfl rfl ?_
  refine E_s (p' := 23) (st' := aI 6 :: _) rfl rfl ?_
  refine E_s (p' := 24) (st' := aI 0 :: _) rfl rfl ?_
  refine E_s (p' := 27) rfl rfl ?_
  refine E_s (p' := 28) (st' := aA 0 :: _) rfl rfl ?_
  refine E_s (p' := 29) (st' := aI 0 :: _) rfl rfl ?_
  refine E_scr rfl rfl h0 ?_
  refine E_s (p' := 32) (st' := aI 31 :: _) rfl rfl ?_
  refine E_s (p' := 33) rfl rfl ?_
  refine E_val hz ?_
  refine E_s (p' := 1141) rfl rfl ?_
  refine E_s (p' := 1142) (st' := aA 1 :: _) rfl rfl ?_
  refine E_s (p' := 1143) (st' := aA 0 :: _) rfl rfl ?_
  refine E_s (p' := 1144) (st' := aI 0 :: _) rfl rfl ?_
  refine E_s (p' := 1145) (st' := aI 1 :: _) rfl rfl ?_
  refine E_s (p' := 1146) (st' := aI 1 :: _) rfl rfl ?_
  refine E_scr rfl rfl h1 ?_
  refine E_s (p' := 1148) (st' := aA 0 :: _) rfl rfl ?_
  refine E_s (p' := 1149) (st' := aI 0 :: _) rfl rfl ?_
  refine E_s (p' := 1150) (st' := aI 2 :: _) rfl rfl ?_
  refine E_s (p' := 1151) (st' := aI 2 :: _) rfl rfl ?_
  refine E_scr rfl rfl h2 ?_
  refine E_callL (p' := 1155) (L0 := [some (aA 1), some (aI 2), some (aI 6), none]) rfl rfl rfl ?_
  refine E_s (p' := 1) (st' := aA 1 :: _) rfl rfl ?_
  refine E_s (p' := 2) (st' := aI 2 :: _) rfl rfl ?_
  refine E_callL (p' := 5) (L0 := [some (aA 1), some (aI 2)]) rfl rfl rfl ?_
  refine E_s (p' := 1) (st' := aI 2 :: _) rfl rfl ?_
  refine E_s (p' := 4) rfl rfl ?_
  refine E_s (p' := 5) (st' := aI 2 :: _) rfl rfl ?_
  refine E_s (p' := 6) (st' := aI 4 :: _) rfl rfl ?_
  refine E_s (p' := 9) rfl rfl ?_
  refine E_s (p' := 10) (st' := aA 1 :: _) rfl rfl ?_
  refine E_s (p' := 13) (st' := aA 2 :: _) rfl rfl ?_
  refine E_s (p' := 14) (st' := aI 2 :: _) rfl rfl ?_
  refine E_s (p' := 15) (st' := aA 72 :: _) rfl rfl ?_
  refine E_s (p' := 19) rfl rfl ?_
  refine E_ret rfl rfl ?_
  refine E_s (p' := 6) (L' := [some (aA 1), some (aI 2), some (aI 6), some (aA 72)]) rfl rfl ?_
  refine E_s (p' := 7) (st' := aA 72 :: _) rfl rfl ?_
  refine E_s (p' := 12) rfl rfl ?_
  refine E_s (p' := 13) (st' := aI 6 :: _) rfl rfl ?_
  refine E_s (p' := 108) rfl rfl ?_
  refine E_s (p' := 109) (st' := aA 72 :: _) rfl rfl ?_
  refine E_s (p' := 112) (st' := aA 73 :: _) rfl rfl ?_
  refine E_s (p' := 113) (st' := aI (-1) :: _) rfl rfl ?_
  refine E_callL (p' := 116) (L0 := [some (aA 73), some (aI (-1)), none, none]) rfl rfl rfl ?_
  refine E_s (p' := 1) (st' := aI 0 :: _) rfl rfl ?_
  refine E_s (p' := 2) (L' := [some (aA 73), some (aI (-1)), some (aI 0), none]) rfl rfl ?_
  refine E_s (p' := 3) (st' := aI 0 :: _) rfl rfl ?_
  refine E_s (p' := 4) (L' := [some (aA 73), some (aI (-1)), some (aI 0), some (aI 0)]) rfl rfl ?_
  refine E_s (p' := 5) (st' := aI 0 :: _) rfl rfl ?_
  refine E_s (p' := 6) (st' := aA 73 :: _) rfl rfl ?_
  refine E_s (p' := 9) (st' := aI 0 :: _) rfl rfl ?_
  refine E_s (p' := 36) rfl rfl ?_
  refine E_s (p' := 37) (st' := aI 0 :: _) rfl rfl ?_
  refine E_ret rfl rfl ?_
  refine E_ret rfl rfl ?_
  refine E_s (p' := 1156) (st' := aA 124 :: _) rfl rfl ?_
  refine E_s (p' := 1157) (st' := aA 0 :: _) rfl rfl ?_
  refine E_s (p' := 1158) (st' := aI 0 :: _) rfl rfl ?_
  refine E_s (p' := 1159) (st' := aI 1 :: _) rfl rfl ?_
  refine E_s (p' := 1160) (st' := aI 1 :: _) rfl rfl ?_
  refine E_scr rfl rfl h1 ?_
  refine E_s (p' := 1162) (st' := aA 0 :: _) rfl rfl ?_
  refine E_s (p' := 1163) (st' := aI 0 :: _) rfl rfl ?_
  refine E_s (p' := 1164) (st' := aI 2 :: _) rfl rfl ?_
  refine E_s (p' := 1165) (st' := aI 2 :: _) rfl rfl ?_
  refine E_scr rfl rfl h2 ?_
  refine E_callL (p' := 1169) (L0 := [some (aA 124), some (aI 2), some (aI 6), none, none]) rfl rfl rfl ?_
  refine E_s (p' := 1) (st' := aI 2 :: _) rfl rfl ?_
  refine E_callL (p' := 4) (L0 := [some (aI 2)]) rfl rfl rfl ?_
  refine E_s (p' := 1) (st' := aI 2 :: _) rfl rfl ?_
  refine E_s (p' := 2) (st' := aI 0 :: _) rfl rfl ?_
  refine E_s (p' := 3) (st' := aI 3 :: _) rfl rfl ?_
  refine E_callL (p' := 6) (L0 := [some (aI 2), some (aI 0), some (aI 3)]) rfl rfl rfl ?_
  refine E_s (p' := 1) (st' := aI 2 :: _) rfl rfl ?_
  refine E_s (p' := 2) (st' := aI 0 :: _) rfl rfl ?_
  refine E_s (p' := 5) rfl rfl ?_
  refine E_s (p' := 6) (st' := aI 2 :: _) rfl rfl ?_
  refine E_s (p' := 7) (st' := aI 3 :: _) rfl rfl ?_
  refine E_s (p' := 10) rfl rfl ?_
  refine E_s (p' := 11) (st' := aI 1 :: _) rfl rfl ?_
  refine E_s (p' := 15) rfl rfl ?_
  refine E_ret rfl rfl ?_
  refine E_ret rfl rfl ?_
  refine E_s (p' := 9) rfl rfl ?_
  refine E_s (p' := 10) (st' := aI 0 :: _) rfl rfl ?_
  refine E_s (p' := 11) (L' := [some (aA 124), some (aI 2), some (aI 6), some (aI 0), none]) rfl rfl ?_
  refine E_s (p' := 12) (st' := aI 6 :: _) rfl rfl ?_
  refine E_s (p' := 209) rfl rfl ?_
  refine E_s (p' := 210) (st' := aI 0 :: _) rfl rfl ?_
  refine E_s (p' := 212) (L' := [some (aA 124), some (aI 2), some (aI 6), some (aI 0), some (aI 0)]) rfl rfl ?_
  refine E_s (p' := 214) (st' := aI 0 :: _) rfl rfl ?_
  refine E_s (p' := 215) (st' := aA 124 :: _) rfl rfl ?_
  refine E_s (p' := 218) (st' := aA 125 :: _) rfl rfl ?_
  refine E_s (p' := 219) (st' := aI 2 :: _) rfl rfl ?_
  refine E_s (p' := 220) (st' := aI 0 :: _) rfl rfl ?_
  refine E_s (p' := 253) rfl rfl ?_
  refine E_s (p' := 254) (st' := aI 0 :: _) rfl rfl ?_
  refine E_ret rfl rfl ?_
  refine E_s (p' := 1174) rfl rfl ?_
  refine E_s (p' := 1177) (L' := [some (aA 0), some (aA 1), some (aA 124), some (aI 6)]) rfl rfl ?_
  refine E_s (p' := 18) rfl rfl ?_
  refine E_s (p' := 19) (st' := aI 6 :: _) rfl rfl ?_
  refine E_s (p' := 20) (st' := aA 0 :: _) rfl rfl ?_
  refine E_s (p' := 21) (st' := aI 6 :: _) rfl rfl ?_
  refine E_s (p' := 23) (st' := aI 6 :: _) rfl rfl ?_
  refine E_s (p' := 24) (st' := aI 0 :: _) rfl rfl ?_
  refine E_s (p' := 1180) rfl rfl ?_
  refine E_s (p' := 1181) (st' := aI 1 :: _) rfl rfl ?_
  exact E_ret rfl rfl ⟨rfl, rfl⟩
set_option maxRecDepth 100000 in
set_option maxHeartbeats 40000000 in
theorem pc_27_2_o (xs : Nat → Int) {z a2 a3 a4 a5 : Int} (hz : b32 (fun a b => a &&& b) z 31 = 27) (h0 : xs 0 = z) (h1 : xs 1 = 2) (h2 : xs 2 = a2) (h3 : xs 3 = a3) (h4 : xs 4 = a4) (h5 : xs 5 = a5) (hr2 : a2 < 0 ∨ 6 < a2) : E 0 18 LL [] (s0 xs 6) PQ := by
  refine E_s (p' := 19) (st' := aI 0 :: _) rfl rfl ?_
  refine E_s (p' := 20) (st' := aA 0 :: _) rfl rfl ?_
  refine E_s (p' := 21) (st' := aI 6 :: _) rfl rfl ?_
  refine E_s (p' := 23) (st' := aI 6 :: _) rfl rfl ?_
  refine E_s (p' := 24) (st' := aI 0 :: _) rfl rfl ?_
  refine E_s (p' := 27) rfl rfl ?_
  refine E_s (p' := 28) (st' := aA 0 :: _) rfl rfl ?_
  refine E_s (p' := 29) (st' := aI 0 :: _) rfl rfl ?_
  refine E_scr rfl rfl h0 ?_
  refine E_s (p' := 32) (st' := aI 31 :: _) rfl rfl ?_
  refine E_s (p' := 33) rfl rfl ?_
  refine E_val hz ?_
  refine E_s (p' := 1141) rfl rfl ?_
  refine E_s (p' := 1142) (st' := aA 1 :: _) rfl rfl ?_
  refine E_s (p' := 1143) (st' := aA 0 :: _) rfl rfl ?_
  refine E_s (p' := 1144) (st' := aI 0 :: _) rfl rfl ?_
  refine E_s (p' := 1145) (st' := aI 1 :: _) rfl rfl ?_
  refine E_s (p' := 1146) (st' := aI 1 :: _) rfl rfl ?_
  refine E_scr rfl rfl h1 ?_
  refine E_s (p' := 1148) (st' := aA 0 :: _) rfl rfl ?_
  refine E_s (p' := 1149) (st' := aI 0 :: _) rfl rfl ?_
  refine E_s (p' := 1150) (st' := aI 2 :: _) rfl rfl ?_
  refine E_s (p' := 1151) (st' := aI 2 :: _) rfl rfl ?_
  refine E_scr rfl rfl h2 ?_
  refine E_callL (p' := 1155) (L0 := [some (aA 1), some (aI 2), some (aI a2), none]) rfl rfl rfl ?_
  refine E_s (p' := 1) (st' := aA 1 :: _) rfl rfl ?_
  refine E_s (p' := 2) (st' := aI 2 :: _) rfl rfl ?_
  refine E_callL (p' := 5) (L0 := [some (aA 1), some (aI 2)]) rfl rfl rfl ?_
  refine E_s (p' := 1) (st' := aI 2 :: _) rfl rfl ?_
  refine E_s (p' := 4) rfl rfl ?_
  refine E_s (p' := 5) (st' := aI 2 :: _) rfl rfl ?_
  refine E_s (p' := 6) (st' := aI 4 :: _) rfl rfl ?_
  refine E_s (p' := 9) rfl rfl ?_
  refine E_s (p' := 10) (st' := aA 1 :: _) rfl rfl ?_
  refine E_s (p' := 13) (st' := aA 2 :: _) rfl rfl ?_
  refine E_s (p' := 14) (st' := aI 2 :: _) rfl rfl ?_
  refine E_s (p' := 15) (st' := aA 72 :: _) rfl rfl ?_
  refine E_s (p' := 19) rfl rfl ?_
  refine E_ret rfl rfl ?_
  refine E_s (p' := 6) (L' := [some (aA 1), some (aI 2), some (aI a2), some (aA 72)]) rfl rfl ?_
  refine E_s (p' := 7) (st' := aA 72 :: _) rfl rfl ?_
  refine E_s (p' := 12) rfl rfl ?_
  refine E_s (p' := 13) rfl rfl ?_
  refine E_tabO rfl (by omega) (by decide) ?_
  refine E_s (p' := 118) (st' := aI (-1) :: _) rfl rfl ?_
  refine E_ret rfl rfl ?_
  refine E_s (p' := 1156) (st' := aA 124 :: _) rfl rfl ?_
  refine E_s (p' := 1157) (st' := aA 0 :: _) rfl rfl ?_
  refine E_s (p' := 1158) (st' := aI 0 :: _) rfl rfl ?_
  refine E_s (p' := 1159) (st' := aI 1 :: _) rfl rfl ?_
  refine E_s (p' := 1160) (st' := aI 1 :: _) rfl rfl ?_
  refine E_scr rfl rfl h1 ?_
  refine E_s (p' := 1162) (st' := aA 0 :: _) rfl rfl ?_
  refine E_s (p' := 1163) (st' := aI 0 :: _) rfl rfl ?_
  refine E_s (p' := 1164) (st' := aI 2 :: _) rfl rfl ?_
  refine E_s (p' := 1165) (st' := aI 2 :: _) rfl rfl ?_
  refine E_scr rfl rfl h2 ?_
  refine E_callL (p' := 1169) (L0 := [some (aA 124), some (aI 2), some (aI a2), none, none]) rfl rfl rfl ?_
  refine E_s (p' := 1) (st' := aI 2 :: _) rfl rfl ?_
  refine E_callL (p' := 4) (L0 := [some (aI 2)]) rfl rfl rfl ?_
  refine E_s (p' := 1) (st' := aI 2 :: _) rfl rfl ?_
  refine E_s (p' := 2) (st' := aI 0 :: _) rfl rfl ?_
  refine E_s (p' := 3) (st' := aI 3 :: _) rfl rfl ?_
  refine E_callL (p' := 6) (L0 := [some (aI 2), some (aI 0), some (aI 3)]) rfl rfl rfl ?_
  refine E_s (p' := 1) (st' := aI 2 :: _) rfl rfl ?_
  refine E_s (p' := 2) (st' := aI 0 :: _) rfl rfl ?_
  refine E_s (p' := 5) rfl rfl ?_
  refine E_s (p' := 6) (st' := aI 2 :: _) rfl rfl ?_
  refine E_s (p' := 7) (st' := aI 3 :: _) rfl rfl ?_
  refine E_s (p' := 10) rfl rfl ?_
  refine E_s (p' := 11) (st' := aI 1 :: _) rfl rfl ?_
  refine E_s (p' := 15) rfl rfl ?_
  refine E_ret rfl rfl ?_
  refine E_ret rfl rfl ?_
  refine E_s (p' := 9) rfl rfl ?_
  refine E_s (p' := 10) (st' := aI 0 :: _) rfl rfl ?_
  refine E_s (p' := 11) (L' := [some (aA 124), some (aI 2), some (aI a2), some (aI 0), none]) rfl rfl ?_
  refine E_s (p' := 12) rfl rfl ?_
  refine E_tabO rfl (by omega) (by decide) ?_
  refine E_s (p' := 256) (st' := aI (-1) :: _) rfl rfl ?_
  refine E_ret rfl rfl ?_
  refine E_s (p' := 1174) rfl rfl ?_
  refine E_s (p' := 1177) (L' := [some (aA 0), some (aA 1), some (aA 124), some (aI 6)]) rfl rfl ?_
  refine E_s (p' := 18) rfl rfl ?_
  refine E_s (p' := 19) (st' := aI 6 :: _) rfl rfl ?_
  refine E_s (p' := 20) (st' := aA 0 :: _) rfl rfl ?_
  refine E_s (p' := 21) (st' := aI 6 :: _) rfl rfl ?_
  refine E_s (p' := 23) (st' := aI 6 :: _) rfl rfl ?_
  refine E_s (p' := 24) (st' := aI 0 :: _) rfl rfl ?_
  refine E_s (p' := 1180) rfl rfl ?_
  refine E_s (p' := 1181) (st' := aI 1 :: _) rfl rfl ?_
  exact E_ret rfl rfl ⟨rfl, rfl⟩
set_option maxRecDepth 100000 in
set_option maxHeartbeats 40000000 in
theorem pc_27_3_0 (xs : Nat → Int) {z a3 a4 a5 : Int} (hz : b32 (fun a b => a &&& b) z 31 = 27) (h0 : xs 0 = z) (h1 : xs 1 = 3) (h2 : xs 2 = 0) (h3 : xs 3 = a3) (h4 : xs 4 = a4) (h5 : xs 5 = a5) : E 0 18 LL [] (s0 xs 6) PQ := by
  refine E_s (p' := 19) (st' := aI 0 :: _) rfl rfl ?_
  refine E_s (p' := 20) (st' := aA 0 :: _) rfl rfl ?_
  refine E_s (p' := 21) (st' := aI 6 :: _) rfl rfl ?_
  refine E_s (p' := 23) (st' := aI 6 :: _) rfl rfl ?_
  refine E_s (p' := 24) (st' := aI 0 :: _) rfl rfl ?_
  refine E_s (p' := 27) rfl rfl ?_
  refine E_s (p' := 28) (st' := aA 0 :: _) rfl rfl ?_
  refine E_s (p' := 29) (st' := aI 0 :: _) rfl rfl ?_
  refine E_scr rfl rfl h0 ?_
  refine E_s (p' := 32) (st' := aI 31 :: _) rfl rfl ?_
  refine E_s (p' := 33) rfl rfl ?_
  refine E_val hz ?_
  refine E_s (p' := 1141) rfl rfl ?_
  refine E_s (p' := 1142) (st' := aA 1 :: _) rfl rfl ?_
  refine E_s (p' := 1143) (st' := aA 0 :: _) rfl rfl ?_
  refine E_s (p' := 1144) (st' := aI 0 :: _) rfl rfl ?_
  refine E_s (p' := 1145) (st' := aI 1 :: _) rfl rfl ?_
  refine E_s (p' := 1146) (st' := aI 1 :: _) rfl rfl ?_
  refine E_scr rfl rfl h1 ?_
  refine E_s (p' := 1148) (st' := aA 0 :: _) rfl rfl ?_
  refine E_s (p' := 1149) (st' := aI 0 :: _) rfl rfl ?_
  refine E_s (p' := 1150) (st' := aI 2 :: _) rfl rfl ?_
  refine E_s (p' := 1151) (st' := aI 2 :: _) rfl rfl ?_
  refine E_scr rfl rfl h2 ?_
  refine E_callL (p' := 1155) (L0 := [some (aA 1), some (aI 3), some (aI 0), none]) rfl rfl rfl ?_
  refine E_s (p' := 1) (st' := aA 1 :: _) rfl rfl ?_
  refine E_s (p' := 2) (st' := aI 3 :: _) rfl rfl ?_
  refine E_callL (p' := 5) (L0 := [some (aA 1), some (aI 3)]) rfl rfl rfl ?_
  refine E_s (p' := 1) (st' := aI 3 :: _) rfl rfl ?_
  refine E_s (p' := 4) rfl rfl ?_
  refine E_s (p' := 5) (st' := aI 3 :: _) rfl rfl ?_
  refine E_s (p' := 6) (st' := aI 4 :: _) rfl rfl ?_
  refine E_s (p' := 9) rfl rfl ?_
  refine E_s (p' := 10) (st' := aA 1 :: _) rfl rfl ?_
  refine E_s (p' := 13) (st' := aA 2 :: _) rfl rfl ?_
  refine E_s (p' := 14) (st' := aI 3 :: _) rfl rfl ?_
  refine E_s (p' := 15) (st' := aA 98 :: _) rfl rfl ?_
  refine E_s (p' := 19) rfl rfl ?_
  refine E_ret rfl rfl ?_
  refine E_s (p' := 6) (L' := [some (aA 1), some (aI 3), some (aI 0), some (aA 98)]) rfl rfl ?_
  refine E_s (p' := 7) (st' := aA 98 :: _) rfl rfl ?_
  refine E_s (p' := 12) rfl rfl ?_
  refine E_s (p' := 13) (st' := aI 0 :: _) rfl rfl ?_
  refine E_s (p' := 56) rfl rfl ?_
  refine E_s (p' := 57) (st' := aA 98 :: _) rfl rfl ?_
  refine E_s (p' := 60) (st' := aA 99 :: _) rfl rfl ?_
  refine E_s (p' := 63) (st' := aI 0 :: _) rfl rfl ?_
  refine E_ret rfl rfl ?_
  refine E_s (p' := 1156) (st' := aA 124 :: _) rfl rfl ?_
  refine E_s (p' := 1157) (st' := aA 0 :: _) rfl rfl ?_
  refine E_s (p' := 1158) (st' := aI 0 :: _) rfl rfl ?_
  refine E_s (p' := 1159) (st' := aI 1 :: _) rfl rfl ?_
  refine E_s (p' := 1160) (st' := aI 1 :: _) rfl rfl ?_
  refine E_scr rfl rfl h1 ?_
  refine E_s (p' := 1162) (st' := aA 0 :: _) rfl rfl ?_
  refine E_s (p' := 1163) (st' := aI 0 :: _) rfl rfl ?_
  refine E_s (p' := 1164) (st' := aI 2 :: _) rfl rfl ?_
  refine E_s (p' := 1165) (st' := aI 2 :: _) rfl rfl ?_
  refine E_scr rfl rfl h2 ?_
  refine E_callL (p' := 1169) (L0 := [some (aA 124), some (aI 3), some (aI 0), none, none]) rfl rfl rfl ?_
  refine E_s (p' := 1) (st' := aI 3 :: _) rfl rfl ?_
  refine E_callL (p' := 4) (L0 := [some (aI 3)]) rfl rfl rfl ?_
  refine E_s (p' := 1) (st' := aI 3 :: _) rfl rfl ?_
  refine E_s (p' := 2) (st' := aI 0 :: _) rfl rfl ?_
  refine E_s (p' := 3) (st' := aI 3 :: _) rfl rfl ?_
  refine E_callL (p' := 6) (L0 := [some (aI 3), some (aI 0), some (aI 3)]) rfl rfl rfl ?_
  refine E_s (p' := 1) (st' := aI 3 :: _) rfl rfl ?_
  refine E_s (p' := 2) (st' := aI 0 :: _) rfl rfl ?_
  refine E_s (p' := 5) rfl rfl ?_
  refine E_s (p' := 6) (st' := aI 3 :: _) rfl rfl ?_
  refine E_s (p' := 7) (st' := aI 3 :: _) rfl rfl ?_
  refine E_s (p' := 10) rfl rfl ?_
  refine E_s (p' := 11) (st' := aI 1 :: _) rfl rfl ?_
  refine E_s (p' := 15) rfl rfl ?_
  refine E_ret rfl rfl ?_
  refine E_ret rfl rfl ?_
  refine E_s (p' := 9) rfl rfl ?_
  refine E_s (p' := 10) (st' := aI 0 :: _) rfl rfl ?_
  refine E_s (p' := 11) (L' := [some (aA 124), some (aI 3), some (aI 0), some (aI 0), none]) rfl rfl ?_
  refine E_s (p' := 12) (st' := aI 0 :: _) rfl rfl ?_
  refine E_s (p' := 56) rfl rfl ?_
  refine E_s (p' := 57) (st' := aA 124 :: _) rfl rfl ?_
  refine E_s (p' := 60) (st' := aA 125 :: _) rfl rfl ?_
  refine E_s (p' := 61) (st' := aI 3 :: _) rfl rfl ?_
  refine E_s (p' := 62) (st' := aI 0 :: _) rfl rfl ?_
  refine E_ret rfl rfl ?_
  refine E_s (p' := 1174) rfl rfl ?_
  refine E_s (p' := 1177) (L' := [some (aA 0), some (aA 1), some (aA 124), some (aI 6)]) rfl rfl ?_
  refine E_s (p' := 18) rfl rfl ?_
  refine E_s (p' := 19) (st' := aI 6 :: _) rfl rfl ?_
  refine E_s (p' := 20) (st' := aA 0 :: _) rfl rfl ?_
  refine E_s (p' := 21) (st' := aI 6 :: _) rfl rfl ?_
  refine E_s (p' := 23) (st' := aI 6 :: _) rfl rfl ?_
  refine E_s (p' := 24) (st' := aI 0 :: _) rfl rfl ?_
  refine E_s (p' := 1180) rfl rfl ?_
  refine E_s (p' := 1181) (st' := aI 1 :: _) rfl rfl ?_
  exact E_ret rfl rfl ⟨rfl, rfl⟩
set_option maxRecDepth 100000 in
set_option maxHeartbeats 40000000 in
theorem pc_27_3_1 (xs : Nat → Int) {z a3 a4 a5 : Int} (hz : b32 (fun a b => a &&& b) z 31 = 27) (h0 : xs 0 = z) (h1 : xs 1 = 3) (h2 : xs 2 = 1) (h3 : xs 3 = a3) (h4 : xs 4 = a4) (h5 : xs 5 = a5) : E 0 18 LL [] (s0 xs 6) PQ := by
  refine E_s (p' := 19) (st' := aI 0 :: _) rfl rfl ?_
  refine E_s (p' := 20) (st' := aA 0 :: _) rfl rfl ?_
  refine E_s (p' := 21) (st' := aI 6 :: _) rfl rfl ?_
  refine E_s (p' := 23) (st' := aI 6 :: _) rfl rfl ?_
  refine E_s (p' := 24) (st' := aI 0 :: _) rfl rfl ?_
  refine E_s (p' := 27) rfl rfl ?_
  refine E_s (p' := 28) (st' := aA 0 :: _) rfl rfl ?_
  refine E_s (p' := 29) (st' := aI 0 :: _) rfl rfl ?_
  refine E_scr rfl rfl h0 ?_
  refine E_s (p' := 32) (st' := aI 31 :: _) rfl rfl ?_
  refine E_s (p' := 33) rfl rfl ?_
  refine E_val hz ?_
  refine E_s (p' := 1141) rfl rfl ?_
  refine E_s (p' := 1142) (st' := aA 1 :: _) rfl rfl ?_
  refine E_s (p' := 1143) (st' := aA 0 :: _) rfl rfl ?_
  refine E_s (p' := 1144) (st' := aI 0 :: _) rfl rfl ?_
  refine E_s (p' := 1145) (st' := aI 1 :: _) rfl rfl ?_
  refine E_s (p' := 1146) (st' := aI 1 :: _) rfl rfl ?_
  refine E_scr rfl rfl h1 ?_
  refine E_s (p' := 1148) (st' := aA 0 :: _) rfl rfl ?_
  refine E_s (p' := 1149) (st' := aI 0 :: _) rfl rfl ?_
  refine E_s (p' := 1150) (st' := aI 2 :: _) rfl rfl ?_
  refine E_s (p' := 1151) (st' := aI 2 :: _) rfl rfl ?_
  refine E_scr rfl rfl h2 ?_
  refine E_callL (p' := 1155) (L0 := [some (aA 1), some (aI 3), some (aI 1), none]) rfl rfl rfl ?_
  refine E_s (p' := 1) (st' := aA 1 :: _) rfl rfl ?_
  refine E_s (p' := 2) (st' := aI 3 :: _) rfl rfl ?_
  refine E_callL (p' := 5) (L0 := [some (aA 1), some (aI 3)]) rfl rfl rfl ?_
  refine E_s (p' := 1) (st' := aI 3 :: _) rfl rfl ?_
  refine E_s (p' := 4) rfl rfl ?_
  refine E_s (p' := 5) (st' := aI 3 :: _) rfl rfl ?_
  refine E_s (p' := 6) (st' := aI 4 :: _) rfl rfl ?_
  refine E_s (p' := 9) rfl rfl ?_
  refine E_s (p' := 10) (st' := aA 1 :: _) rfl rfl ?_
  refine E_s (p' := 13) (st' := aA 2 :: _) rfl rfl ?_
  refine E_s (p' := 14) (st' := aI 3 :: _) rfl rfl ?_
  refine E_s (p' := 15) (st' := aA 98 :: _) rfl rfl ?_
  refine E_s (p' := 19) rfl rfl ?_
  refine E_ret rfl rfl ?_
  refine E_s (p' := 6) (L' := [some (aA 1), some (aI 3), some (aI 1), some (aA 98)]) rfl rfl ?_
  refine E_s (p' := 7) (st' := aA 98 :: _) rfl rfl ?_
  refine E_s (p' := 12) rfl rfl ?_
  refine E_s (p' := 13) (st' := aI 1 :: _) rfl rfl ?_
  refine E_s (p' := 64) rfl rfl ?_
  refine E_s (p' := 65) (st' := aA 98 :: _) rfl rfl ?_
  refine E_s (p' := 68) (st' := aA 99 :: _) rfl rfl ?_
  refine E_callL (p' := 71) (L0 := [some (aA 99), none, none]) rfl rfl rfl ?_
  refine E_s (p' := 1) (st' := aI 0 :: _) rfl rfl ?_
  refine E_s (p' := 2) (L' := [some (aA 99), some (aI 0), none]) rfl rfl ?_
  refine E_s (p' := 3) (st' := aI 0 :: _) rfl rfl ?_
  refine E_s (p' := 4) (L' := [some (aA 99), some (aI 0), some (aI 0)]) rfl rfl ?_
  refine E_s (p' := 5) (st' := aI 0 :: _) rfl rfl ?_
  refine E_s (p' := 6) (st' := aA 99 :: _) rfl rfl ?_
  refine E_s (p' := 9) (st' := aI 0 :: _) rfl rfl ?_
  refine E_s (p' := 27) rfl rfl ?_
  refine E_s (p' := 28) (st' := aI 0 :: _) rfl rfl ?_
  refine E_ret rfl rfl ?_
  refine E_ret rfl rfl ?_
  refine E_s (p' := 1156) (st' := aA 124 :: _) rfl rfl ?_
  refine E_s (p' := 1157) (st' := aA 0 :: _) rfl rfl ?_
  refine E_s (p' := 1158) (st' := aI 0 :: _) rfl rfl ?_
  refine E_s (p' := 1159) (st' := aI 1 :: _) rfl rfl ?_
  refine E_s (p' := 1160) (st' := aI 1 :: _) rfl rfl ?_
  refine E_scr rfl rfl h1 ?_
  refine E_s (p' := 1162) (st' := aA 0 :: _) rfl rfl ?_
  refine E_s (p' := 1163) (st' := aI 0 :: _) rfl rfl ?_
  refine E_s (p' := 1164) (st' := aI 2 :: _) rfl rfl ?_
  refine E_s (p' := 1165) (st' := aI 2 :: _) rfl rfl ?_
  refine E_scr rfl rfl h2 ?_
  refine E_callL (p' := 1169) (L0 := [some (aA 124), some (aI 3), some (aI 1), none, none]) rfl rfl rfl ?_
  refine E_s (p' := 1) (st' := aI 3 :: _) rfl rfl ?_
  refine E_callL (p' := 4) (L0 := [some (aI 3)]) rfl rfl rfl ?_
  refine E_s (p' := 1) (st' := aI 3 :: _) rfl rfl ?_
  refine E_s (p' := 2) (st' := aI 0 :: _) rfl rfl ?_
  refine E_s (p' := 3) (st' := aI 3 :: _) rfl rfl ?_
  refine E_callL (p' := 6) (L0 := [some (aI 3), some (aI 0), some (aI 3)]) rfl rfl rfl ?_
  refine E_s (p' := 1) (st' := aI 3 :: _) rfl rfl ?_
  refine E_s (p' := 2) (st' := aI 0 :: _) rfl rfl ?_
  refine E_s (p' := 5) rfl rfl ?_
  refine E_s (p' := 6) (st' := aI 3 :: _) rfl rfl ?_
  refine E_s (p' := 7) (st' := aI 3 :: _) rfl rfl ?_
  refine E_s (p' := 10) rfl rfl ?_
  refine E_s (p' := 11) (st' := aI 1 :: _) rfl rfl ?_
  refine E_s (p' := 15) rfl rfl ?_
  refine E_ret rfl rfl ?_
  refine E_ret rfl rfl ?_
  refine E_s (p' := 9) rfl rfl ?_
  refine E_s (p' := 10) (st' := aI 0 :: _) rfl rfl ?_
  refine E_s (p' := 11) (L' := [some (aA 124), some (aI 3), some (aI 1), some (aI 0), none]) rfl rfl ?_
  refine E_s (p' := 12) (st' := aI 1 :: _) rfl rfl ?_
  refine E_s (p' := 63) rfl rfl ?_
  refine E_s (p' := 64) (st' := aI 0 :: _) rfl rfl ?_
  refine E_s (p' := 66) (L' := [some (aA 124), some (aI 3), some (aI 1), some (aI 0), some (aI 0)]) rfl rfl ?_
  refine E_s (p' := 68) (st' := aI 0 :: _) rfl rfl ?_
  refine E_s (p' := 69) (st' := aA 124 :: _) rfl rfl ?_
  refine E_s (p' := 72) (st' := aA 125 :: _) rfl rfl ?_
  refine E_s (p' := 73) (st' := aI 3 :: _) rfl rfl ?_
  refine E_s (p' := 74) (st' := aI 0 :: _) rfl rfl ?_
  refine E_s (p' := 98) rfl rfl ?_
  refine E_s (p' := 99) (st' := aI 0 :: _) rfl rfl ?_
  refine E_ret rfl rfl ?_
  refine E_s (p' := 1174) rfl rfl ?_
  refine E_s (p' := 1177) (L' := [some (aA 0), some (aA 1), some (aA 124), some (aI 6)]) rfl rfl ?_
  refine E_s (p' := 18) rfl rfl ?_
  refine E_s (p' := 19) (st' := aI 6 :: _) rfl rfl ?_
  refine E_s (p' := 20) (st' := aA 0 :: _) rfl rfl ?_
  refine E_s (p' := 21) (st' := aI 6 :: _) rfl rfl ?_
  refine E_s (p' := 23) (st' := aI 6 :: _) rfl rfl ?_
  refine E_s (p' := 24) (st' := aI 0 :: _) rfl rfl ?_
  refine E_s (p' := 1180) rfl rfl ?_
  refine E_s (p' := 1181) (st' := aI 1 :: _) rfl rfl ?_
  exact E_ret rfl rfl ⟨rfl, rfl⟩
set_option maxRecDepth 100000 in
set_option maxHeartbeats 40000000 in
theorem pc_27_3_2 (xs : Nat → Int) {z a3 a4 a5 : Int} (hz : b32 (fun a b => a &&& b) z 31 = 27) (h0 : xs 0 = z) (h1 : xs 1 = 3) (h2 : xs 2 = 2) (h3 : xs 3 = a3) (h4 : xs 4 = a4) (h5 : xs 5 = a5) : E 0 18 LL [] (s0 xs 6) PQ := by
  refine E_s (p' := 19) (st' := aI 0 :: _) rfl rfl ?_
  refine E_s (p' := 20) (st' := aA 0 :: _) rfl rfl ?_
  refine E_s (p' := 21) (st' := aI 6 :: _) rfl rfl ?_
  refine E_s (p' := 23) (st' := aI 6 :: _) rfl rfl ?_
  refine E_s (p' := 24) (st' := aI 0 :: _) rfl rfl ?_
  refine E_s (p' := 27) rfl rfl ?_
  refine E_s (p' := 28) (st' := aA 0 :: _) rfl rfl ?_
  refine E_s (p' := 29) (st' := aI 0 :: _) rfl rfl ?_
  refine E_scr rfl rfl h0 ?_
  refine E_s (p' := 32) (st' := aI 31 :: _) rfl rfl ?_
  refine E_s (p' := 33) rfl rfl ?_
  refine E_val hz ?_
  refine E_s (p' := 1141) rfl rfl ?_
  refine E_s (p' := 1142) (st' := aA 1 :: _) rfl rfl ?_
  refine E_s (p' := 1143) (st' := aA 0 :: _) rfl rfl ?_
  refine E_s (p' := 1144) (st' := aI 0 :: _) rfl rfl ?_
  refine E_s (p' := 1145) (st' := aI 1 :: _) rfl rfl ?_
  refine E_s (p' := 1146) (st' := aI 1 :: _) rfl rfl ?_
  refine E_scr rfl rfl h1 ?_
  refine E_s (p' := 1148) (st' := aA 0 :: _) rfl rfl ?_
  refine E_s (p' := 1149) (st' := aI 0 :: _) rfl rfl ?_
  refine E_s (p' := 1150) (st' := aI 2 :: _) rfl rfl ?_
  refine E_s (p' := 1151) (st' := aI 2 :: _) rfl rfl ?_
  refine E_scr rfl rfl h2 ?_
  refine E_callL (p' := 1155) (L0 := [some (aA 1), some (aI 3), some (aI 2), none]) rfl rfl rfl ?_
  refine E_s (p' := 1) (st' := aA 1 :: _) rfl rfl ?_
  refine E_s (p' := 2) (st' := aI 3 :: _) rfl rfl ?_
  refine E_callL (p' := 5) (L0 := [some (aA 1), some (aI 3)]) rfl rfl rfl ?_
  refine E_s (p' := 1) (st' := aI 3 :: _) rfl rfl ?_
  refine E_s (p' := 4) rfl rfl ?_
  refine E_s (p' := 5) (st' := aI 3 :: _) rfl rfl ?_
  refine E_s (p' := 6) (st' := aI 4 :: _) rfl rfl ?_
  refine E_s (p' := 9) rfl rfl ?_
  refine E_s (p' := 10) (st' := aA 1 :: _) rfl rfl ?_
  refine E_s (p' := 13) (st' := aA 2 :: _) rfl rfl ?_
  refine E_s (p' := 14) (st' := aI 3 :: _) rfl rfl ?_
  refine E_s (p' := 15) (st' := aA 98 :: _) rfl rfl ?_
  refine E_s (p' := 19) rfl rfl ?_
  refine E_ret rfl rfl ?_
  refine E_s (p' := 6) (L' := [some (aA 1), some (aI 3), some (aI 2), some (aA 98)]) rfl rfl ?_
  refine E_s (p' := 7) (st' := aA 98 :: _) rfl rfl ?_
  refine E_s (p' := 12) rfl rfl ?_
  refine E_s (p' := 13) (st' := aI 2 :: _) rfl rfl ?_
  refine E_s (p' := 72) rfl rfl ?_
  refine E_s (p' := 73) (st' := aA 98 :: _) rfl rfl ?_
  refine E_s (p' := 76) (st' := aA 107 :: _) rfl rfl ?_
  refine E_s (p' := 79) (st' := aI 0 :: _) rfl rfl ?_
  refine E_ret rfl rfl ?_
  refine E_s (p' := 1156) (st' := aA 124 :: _) rfl rfl ?_
  refine E_s (p' := 1157) (st' := aA 0 :: _) rfl rfl ?_
  refine E_s (p' := 1158) (st' := aI 0 :: _) rfl rfl ?_
  refine E_s (p' := 1159) (st' := aI 1 :: _) rfl rfl ?_
  refine E_s (p' := 1160) (st' := aI 1 :: _) rfl rfl ?_
  refine E_scr rfl rfl h1 ?_
  refine E_s (p' := 1162) (st' := aA 0 :: _) rfl rfl ?_
  refine E_s (p' := 1163) (st' := aI 0 :: _) rfl rfl ?_
  refine E_s (p' := 1164) (st' := aI 2 :: _) rfl rfl ?_
  refine E_s (p' := 1165) (st' := aI 2 :: _) rfl rfl ?_
  refine E_scr rfl rfl h2 ?_
  refine E_callL (p' := 1169) (L0 := [some (aA 124), some (aI 3), some (aI 2), none, none]) rfl rfl rfl ?_
  refine E_s (p' := 1) (st' := aI 3 :: _) rfl rfl ?_
  refine E_callL (p' := 4) (L0 := [some (aI 3)]) rfl rfl rfl ?_
  refine E_s (p' := 1) (st' := aI 3 :: _) rfl rfl ?_
  refine E_s (p' := 2) (st' := aI 0 :: _) rfl rfl ?_
  refine E_s (p' := 3) (st' := aI 3 :: _) rfl rfl ?_
  refine E_callL (p' := 6) (L0 := [some (aI 3), some (aI 0), some (aI 3)]) rfl rfl rfl ?_
  refine E_s (p' := 1) (st' := aI 3 :: _) rfl rfl ?_
  refine E_s (p' := 2) (st' := aI 0 :: _) rfl rfl ?_
  refine E_s (p' := 5) rfl rfl ?_
  refine E_s (p' := 6) (st' := aI 3 :: _) rfl rfl ?_
  refine E_s (p' := 7) (st' := aI 3 :: _) rfl rfl ?_
  refine E_s (p' := 10) rfl rfl ?_
  refine E_s (p' := 11) (st' := aI 1 :: _) rfl rfl ?_
  refine E_s (p' := 15) rfl rfl ?_
  refine E_ret rfl rfl ?_
  refine E_ret rfl rfl ?_
  refine E_s (p' := 9) rfl rfl ?_
  refine E_s (p' := 10) (st' := aI 0 :: _) rfl rfl ?_
  refine E_s (p' := 11) (L' := [some (aA 124), some (aI 3), some (aI 2), some (aI 0), none]) rfl rfl ?_
  refine E_s (p' := 12) (st' := aI 2 :: _) rfl rfl ?_
  refine E_s (p' := 100) rfl rfl ?_
  refine E_s (p' := 101) (st' := aA 124 :: _) rfl rfl ?_
  refine E_s (p' := 104) (st' := aA 136 :: _) rfl rfl ?_
  refine E_s (p' := 105) (st' := aI 3 :: _) rfl rfl ?_
  refine E_s (p' := 106) (st' := aI 0 :: _) rfl rfl ?_
  refine E_ret rfl rfl ?_
  refine E_s (p' := 1174) rfl rfl ?_
  refine E_s (p' := 1177) (L' := [some (aA 0), some (aA 1), some (aA 124), some (aI 6)]) rfl rfl ?_
  refine E_s (p' := 18) rfl rfl ?_
  refine E_s (p' := 19) (st' := aI 6 :: _) rfl rfl ?_
  refine E_s (p' := 20) (st' := aA 0 :: _) rfl rfl ?_
  refine E_s (p' := 21) (st' := aI 6 :: _) rfl rfl ?_
  refine E_s (p' := 23) (st' := aI 6 :: _) rfl rfl ?_
  refine E_s (p' := 24) (st' := aI 0 :: _) rfl rfl ?_
  refine E_s (p' := 1180) rfl rfl ?_
  refine E_s (p' := 1181) (st' := aI 1 :: _) rfl rfl ?_
  exact E_ret rfl rfl ⟨rfl, rfl⟩
set_option maxRecDepth 100000 in
set_option maxHeartbeats 40000000 in
theorem pc_27_3_3 (xs : Nat → Int) {z a3 a4 a5 : Int} (hz : b32 (fun a b => a &&& b) z 31 = 27) (h0 : xs 0 = z) (h1 : xs 1 = 3) (h2 : xs 2 = 3) (h3 : xs 3 = a3) (h4 : xs 4 = a4) (h5 : xs 5 = a5) : E 0 18 LL [] (s0 xs 6) PQ := by
  refine E_s (p' := 19) (st' := aI 0 :: _) rfl rfl ?_
  refine E_s (p' := 20) (st' := aA 0 :: _) rfl rfl ?_
  refine E_s (p' := 21) (st' := aI 6 :: _) rfl rfl ?_
  refine E_s (p' := 23) (st' := aI 6 :: _) rfl rfl ?_
  refine E_s (p' := 24) (st' := aI 0 :: _) rfl rfl ?_
  refine E_s (p' := 27) rfl rfl ?_
  refine E_s (p' := 28) (st' := aA 0 :: _) rfl rfl ?_
  refine E_s (p' := 29) (st' := aI 0 :: _) rfl rfl ?_
  refine E_scr rfl rfl h0 ?_
  refine E_s (p' := 32) (st' := aI 31 :: _) rfl rfl ?_
  refine E_s (p' := 33) rfl rfl ?_
  refine E_val hz ?_
  refine E_s (p' := 1141) rfl rfl ?_
  refine E_s (p' := 1142) (st' := aA 1 :: _) rfl rfl ?_
  refine E_s (p' := 1143) (st' := aA 0 :: _) rfl rfl ?_
  refine E_s (p' := 1144) (st' := aI 0 :: _) rfl rfl ?_
  refine E_s (p' := 1145) (st' := aI 1 :: _) rfl rfl ?_
  refine E_s (p' := 1146) (st' := aI 1 :: _) rfl rfl ?_
  refine E_scr rfl rfl h1 ?_
  refine E_s (p' := 1148) (st' := aA 0 :: _) rfl rfl ?_
  refine E_s (p' := 1149) (st' := aI 0 :: _) rfl rfl ?_
  refine E_s (p' := 1150) (st' := aI 2 :: _) rfl rfl ?_
  refine E_s (p' := 1151) (st' := aI 2 :: _) rfl rfl ?_
  refine E_scr rfl rfl h2 ?_
  refine E_callL (p' := 1155) (L0 := [some (aA 1), some (aI 3), some (aI 3), none]) rfl rfl rfl ?_
  refine E_s (p' := 1) (st' := aA 1 :: _) rfl rfl ?_
  refine E_s (p' := 2) (st' := aI 3 :: _) rfl rfl ?_
  refine E_callL (p' := 5) (L0 := [some (aA 1), some (aI 3)]) rfl rfl rfl ?_
  refine E_s (p' := 1) (st' := aI 3 :: _) rfl rfl ?_
  refine E_s (p' := 4) rfl rfl ?_
  refine E_s (p' := 5) (st' := aI 3 :: _) rfl rfl ?_
  refine E_s (p' := 6) (st' := aI 4 :: _) rfl rfl ?_
  refine E_s (p' := 9) rfl rfl ?_
  refine E_s (p' := 10) (st' := aA 1 :: _) rfl rfl ?_
  refine E_s (p' := 13) (st' := aA 2 :: _) rfl rfl ?_
  refine E_s (p' := 14) (st' := aI 3 :: _) rfl rfl ?_
  refine E_s (p' := 15) (st' := aA 98 :: _) rfl rfl ?_
  refine E_s (p' := 19) rfl rfl ?_
  refine E_ret rfl rfl ?_
  refine E_s (p' := 6) (L' := [some (aA 1), some (aI 3), some (aI 3), some (aA 98)]) rfl rfl ?_
  refine E_s (p' := 7) (st' := aA 98 :: _) rfl rfl ?_
  refine E_s (p' := 12) rfl rfl ?_
  refine E_s (p' := 13) (st' := aI 3 :: _) rfl rfl ?_
  refine E_s (p' := 80) rfl rfl ?_
  refine E_s (p' := 81) (st' := aA 98 :: _) rfl rfl ?_
  refine E_s (p' := 84) (st' := aI 15 :: _) rfl rfl ?_
  refine E_ret rfl rfl ?_
  refine E_s (p' := 1156) (st' := aA 124 :: _) rfl rfl ?_
  refine E_s (p' := 1157) (st' := aA 0 :: _) rfl rfl ?_
  refine E_s (p' := 1158) (st' := aI 0 :: _) rfl rfl ?_
  refine E_s (p' := 1159) (st' := aI 1 :: _) rfl rfl ?_
  refine E_s (p' := 1160) (st' := aI 1 :: _) rfl rfl ?_
  refine E_scr rfl rfl h1 ?_
  refine E_s (p' := 1162) (st' := aA 0 :: _) rfl rfl ?_
  refine E_s (p' := 1163) (st' := aI 0 :: _) rfl rfl ?_
  refine E_s (p' := 1164) (st' := aI 2 :: _) rfl rfl ?_
  refine E_s (p' := 1165) (st' := aI 2 :: _) rfl rfl ?_
  refine E_scr rfl rfl h2 ?_
  refine E_callL (p' := 1169) (L0 := [some (aA 124), some (aI 3), some (aI 3), none, none]) rfl rfl rfl ?_
  refine E_s (p' := 1) (st' := aI 3 :: _) rfl rfl ?_
  refine E_callL (p' := 4) (L0 := [some (aI 3)]) rfl rfl rfl ?_
  refine E_s (p' := 1) (st' := aI 3 :: _) rfl rfl ?_
  refine E_s (p' := 2) (st' := aI 0 :: _) rfl rfl ?_
  refine E_s (p' := 3) (st' := aI 3 :: _) rfl rfl ?_
  refine E_callL (p' := 6) (L0 := [some (aI 3), some (aI 0), some (aI 3)]) rfl rfl rfl ?_
  refine E_s (p' := 1) (st' := aI 3 :: _) rfl rfl ?_
  refine E_s (p' := 2) (st' := aI 0 :: _) rfl rfl ?_
  refine E_s (p' := 5) rfl rfl ?_
  refine E_s (p' := 6) (st' := aI 3 :: _) rfl rfl ?_
  refine E_s (p' := 7) (st' := aI 3 :: _) rfl rfl ?_
  refine E_s (p' := 10) rfl rfl ?_
  refine E_s (p' := 11) (st' := aI 1 :: _) rfl rfl ?_
  refine E_s (p' := 15) rfl rfl ?_
  refine E_ret rfl rfl ?_
  refine E_ret rfl rfl ?_
  refine E_s (p' := 9) rfl rfl ?_
  refine E_s (p' := 10) (st' := aI 0 :: _) rfl rfl ?_
  refine E_s (p' := 11) (L' := [some (aA 124), some (aI 3), some (aI 3), some (aI 0), none]) rfl rfl ?_
  refine E_s (p' := 12) (st' := aI 3 :: _) rfl rfl ?_
  refine E_s (p' := 107) rfl rfl ?_
  refine E_s (p' := 108) (st' := aA 124 :: _) rfl rfl ?_
  refine E_s (p' := 111) (st' := aA 126 :: _) rfl rfl ?_
  refine E_s (p' := 112) (st' := aI 3 :: _) rfl rfl ?_
  refine E_s (p' := 113) (st' := aI 15 :: _) rfl rfl ?_
  refine E_ret rfl rfl ?_
  refine E_s (p' := 1174) rfl rfl ?_
  refine E_s (p' := 1177) (L' := [some (aA 0), some (aA 1), some (aA 124), some (aI 6)]) rfl rfl ?_
  refine E_s (p' := 18) rfl rfl ?_
  refine E_s (p' := 19) (st' := aI 6 :: _) rfl rfl ?_
  refine E_s (p' := 20) (st' := aA 0 :: _) rfl rfl ?_
  refine E_s (p' := 21) (st' := aI 6 :: _) rfl rfl ?_
  refine E_s (p' := 23) (st' := aI 6 :: _) rfl rfl ?_
  refine E_s (p' := 24) (st' := aI 0 :: _) rfl rfl ?_
  refine E_s (p' := 1180) rfl rfl ?_
  refine E_s (p' := 1181) (st' := aI 1 :: _) rfl rfl ?_
  exact E_ret rfl rfl ⟨rfl, rfl⟩
set_option maxRecDepth 100000 in
set_option maxHeartbeats 40000000 in
theorem pc_27_3_4 (xs : Nat → Int) {z a3 a4 a5 : Int} (hz : b32 (fun a b => a &&& b) z 31 = 27) (h0 : xs 0 = z) (h1 : xs 1 = 3) (h2 : xs 2 = 4) (h3 : xs 3 = a3) (h4 : xs 4 = a4) (h5 : xs 5 = a5) : E 0 18 LL [] (s0 xs 6) PQ := by
  refine E_s (p' := 19) (st' := aI 0 :: _) rfl rfl ?_
  refine E_s (p' := 20) (st' := aA 0 :: _) rfl rfl ?_
  refine E_s (p' := 21) (st' := aI 6 :: _) rfl rfl ?_
  refine E_s (p' := 23) (st' := aI 6 :: _) rfl rfl ?_
  refine E_s (p' := 24) (st' := aI 0 :: _) rfl rfl ?_
  refine E_s (p' := 27) rfl rfl ?_
  refine E_s (p' := 28) (st' := aA 0 :: _) rfl rfl ?_
  refine E_s (p' := 29) (st' := aI 0 :: _) rfl rfl ?_
  refine E_scr rfl rfl h0 ?_
  refine E_s (p' := 32) (st' := aI 31 :: _) rfl rfl ?_
  refine E_s (p' := 33) rfl rfl ?_
  refine E_val hz ?_
  refine E_s (p' := 1141) rfl rfl ?_
  refine E_s (p' := 1142) (st' := aA 1 :: _) rfl rfl ?_
  refine E_s (p' := 1143) (st' := aA 0 :: _) rfl rfl ?_
  refine E_s (p' := 1144) (st' := aI 0 :: _) rfl rfl ?_
  refine E_s (p' := 1145) (st' := aI 1 :: _) rfl rfl ?_
  refine E_s (p' := 1146) (st' := aI 1 :: _) rfl rfl ?_
  refine E_scr rfl rfl h1 ?_
  refine E_s (p' := 1148) (st' := aA 0 :: _) rfl rfl ?_
  refine E_s (p' := 1149) (st' := aI 0 :: _) rfl rfl ?_
  refine E_s (p' := 1150) (st' := aI 2 :: _) rfl rfl ?_
  refine E_s (p' := 1151) (st' := aI 2 :: _) rfl rfl ?_
  refine E_scr rfl rfl h2 ?_
  refine E_callL (p' := 1155) (L0 := [some (aA 1), some (aI 3), some (aI 4), none]) rfl rfl rfl ?_
  refine E_s (p' := 1) (st' := aA 1 :: _) rfl rfl ?_
  refine E_s (p' := 2) (st' := aI 3 :: _) rfl rfl ?_
  refine E_callL (p' := 5) (L0 := [some (aA 1), some (aI 3)]) rfl rfl rfl ?_
  refine E_s (p' := 1) (st' := aI 3 :: _) rfl rfl ?_
  refine E_s (p' := 4) rfl rfl ?_
  refine E_s (p' := 5) (st' := aI 3 :: _) rfl rfl ?_
  refine E_s (p' := 6) (st' := aI 4 :: _) rfl rfl ?_
  refine E_s (p' := 9) rfl rfl ?_
  refine E_s (p' := 10) (st' := aA 1 :: _) rfl rfl ?_
  refine E_s (p' := 13) (st' := aA 2 :: _) rfl rfl ?_
  refine E_s (p' := 14) (st' := aI 3 :: _) rfl rfl ?_
  refine E_s (p' := 15) (st' := aA 98 :: _) rfl rfl ?_
  refine E_s (p' := 19) rfl rfl ?_
  refine E_ret rfl rfl ?_
  refine E_s (p' := 6) (L' := [some (aA 1), some (aI 3), some (aI 4), some (aA 98)]) rfl rfl ?_
  refine E_s (p' := 7) (st' := aA 98 :: _) rfl rfl ?_
  refine E_s (p' := 12) rfl rfl ?_
  refine E_s (p' := 13) (st' := aI 4 :: _) rfl rfl ?_
  refine E_s (p' := 85) rfl rfl ?_
  refine E_s (p' := 86) (st' := aA 98 :: _) rfl rfl ?_
  refine E_s (p' := 89) (st' := aA 99 :: _) rfl rfl ?_
  refine E_callL (p' := 92) (L0 := [some (aA 99), none, none]) rfl rfl rfl ?_
  refine E_s (p' := 1) (st' := aI 0 :: _) rfl rfl ?_
  refine E_s (p' := 2) (L' := [some (aA 99), some (aI 0), none]) rfl rfl ?_
  refine E_s (p' := 3) (st' := aI 0 :: _) rfl rfl ?_
  refine E_s (p' := 4) (L' := [some (aA 99), some (aI 0), some (aI 0)]) rfl rfl ?_
  refine E_s (p' := 5) (st' := aI 0 :: _) rfl rfl ?_
  refine E_s (p' := 6) (st' := aA 99 :: _) rfl rfl ?_
  refine E_s (p' := 9) (st' := aI 0 :: _) rfl rfl ?_
  refine E_s (p' := 35) rfl rfl ?_
  refine E_s (p' := 36) (st' := aI 0 :: _) rfl rfl ?_
  refine E_ret rfl rfl ?_
  refine E_ret rfl rfl ?_
  refine E_s (p' := 1156) (st' := aA 124 :: _) rfl rfl ?_
  refine E_s (p' := 1157) (st' := aA 0 :: _) rfl rfl ?_
  refine E_s (p' := 1158) (st' := aI 0 :: _) rfl rfl ?_
  refine E_s (p' := 1159) (st' := aI 1 :: _) rfl rfl ?_
  refine E_s (p' := 1160) (st' := aI 1 :: _) rfl rfl ?_
  refine E_scr rfl rfl h1 ?_
  refine E_s (p' := 1162) (st' := aA 0 :: _) rfl rfl ?_
  refine E_s (p' := 1163) (st' := aI 0 :: _) rfl rfl ?_
  refine E_s (p' := 1164) (st' := aI 2 :: _) rfl rfl ?_
  refine E_s (p' := 1165) (st' := aI 2 :: _) rfl rfl ?_
  refine E_scr rfl rfl h2 ?_
  refine E_callL (p' := 1169) (L0 := [some (aA 124), some (aI 3), some (aI 4), none, none]) rfl rfl rfl ?_
  refine E_s (p' := 1) (st' := aI 3 :: _) rfl rfl ?_
  refine E_callL (p' := 4) (L0 := [some (aI 3)]) rfl rfl rfl ?_
  refine E_s (p' := 1) (st' := aI 3 :: _) rfl rfl ?_
  refine E_s (p' := 2) (st' := aI 0 :: _) rfl rfl ?_
  refine E_s (p' := 3) (st' := aI 3 :: _) rfl rfl ?_
  refine E_callL (p' := 6) (L0 := [some (aI 3), some (aI 0), some (aI 3)]) rfl rfl rfl ?_
  refine E_s (p' := 1) (st' := aI 3 :: _) rfl rfl ?_
  refine E_s (p' := 2) (st' := aI 0 :: _) rfl rfl ?_
  refine E_s (p' := 5) rfl rfl ?_
  refine E_s (p' := 6) (st' := aI 3 :: _) rfl rfl ?_
  refine E_s (p' := 7) (st' := aI 3 :: _) rfl rfl ?_
  refine E_s (p' := 10) rfl rfl ?_
  refine E_s (p' := 11) (st' := aI 1 :: _) rfl rfl ?_
  refine E_s (p' := 15) rfl rfl ?_
  refine E_ret rfl rfl ?_
  refine E_ret rfl rfl ?_
  refine E_s (p' := 9) rfl rfl ?_
  refine E_s (p' := 10) (st' := aI 0 :: _) rfl rfl ?_
  refine E_s (p' := 11) (L' := [some (aA 124), some (aI 3), some (aI 4), some (aI 0), none]) rfl rfl ?_
  refine E_s (p' := 12) (st' := aI 4 :: _) rfl rfl ?_
  refine E_s (p' := 114) rfl rfl ?_
  refine E_s (p' := 115) (st' := aI 0 :: _) rfl rfl ?_
  refine E_s (p' := 117) (L' := [some (aA 124), some (aI 3), some (aI 4), some (aI 0), some (aI 0)]) rfl rfl ?_
  refine E_s (p' := 119) (st' := aI 0 :: _) rfl rfl ?_
  refine E_s (p' := 120) (st' := aA 124 :: _) rfl rfl ?_
  refine E_s (p' := 123) (st' := aA 125 :: _) rfl rfl ?_
  refine E_s (p' := 124) (st' := aI 3 :: _) rfl rfl ?_
  refine E_s (p' := 125) (st' := aI 0 :: _) rfl rfl ?_
  refine E_s (p' := 158) rfl rfl ?_
  refine E_s (p' := 159) (st' := aI 0 :: _) rfl rfl ?_
  refine E_ret rfl rfl ?_
  refine E_s (p' := 1174) rfl rfl ?_
  refine E_s (p' := 1177) (L' := [some (aA 0), some (aA 1), some (aA 124), some (aI 6)]) rfl rfl ?_
  refine E_s (p' := 18) rfl rfl ?_
  refine E_s (p' := 19) (st' := aI 6 :: _) rfl rfl ?_
  refine E_s (p' := 20) (st' := aA 0 :: _) rfl rfl ?_
  refine E_s (p' := 21) (st' := aI 6 :: _) rfl rfl ?_
  refine E_s (p' := 23) (st' := aI 6 :: _) rfl rfl ?_
  refine E_s (p' := 24) (st' := aI 0 :: _) rfl rfl ?_
  refine E_s (p' := 1180) rfl rfl ?_
  refine E_s (p' := 1181) (st' := aI 1 :: _) rfl rfl ?_
  exact E_ret rfl rfl ⟨rfl, rfl⟩
