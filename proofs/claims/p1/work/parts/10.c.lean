theorem pe (xs : Nat → Int) {len : Nat} (h : len < 6) : E 0 18 LL [] (s0 xs len) PQ := by
  refine E_st rfl rfl rfl ?_
  refine E_st rfl rfl rfl ?_
  refine E_st rfl rfl rfl ?_
  refine E_st rfl rfl rfl ?_
  refine E_isub rfl (by have : (s0 xs len).2.2.2 = len := rfl; omega) ?_
  refine E_icmp_gt rfl (by decide) (fun _ => ?_) (fun q => absurd q (by have : (s0 xs len).2.2.2 = len := rfl; omega))
  refine E_st rfl rfl rfl ?_
  exact E_ret rfl rfl ⟨rfl, rfl⟩
theorem p6 (xs : Nat → Int) : E 0 18 LL [] (s0 xs 6) PQ := by
  obtain ⟨j, hj, hz⟩ := and31 (xs 0)
  have hc : j = 0 ∨ j = 1 ∨ j = 2 ∨ j = 3 ∨ j = 4 ∨ j = 5 ∨ j = 6 ∨ j = 7 ∨ j = 8 ∨ j = 9 ∨ j = 10 ∨ j = 11 ∨ j = 12 ∨ j = 13 ∨ j = 14 ∨ j = 15 ∨ j = 16 ∨ j = 17 ∨ j = 18 ∨ j = 19 ∨ j = 20 ∨ j = 21 ∨ j = 22 ∨ j = 23 ∨ j = 24 ∨ j = 25 ∨ j = 26 ∨ j = 27 ∨ j = 28 ∨ j = 29 ∨ j = 30 ∨ j = 31 := by omega
  rcases hc with rfl | rfl | rfl | rfl | rfl | rfl | rfl | rfl | rfl | rfl | rfl | rfl | rfl | rfl | rfl | rfl | rfl | rfl | rfl | rfl | rfl | rfl | rfl | rfl | rfl | rfl | rfl | rfl | rfl | rfl | rfl | rfl
  · rcases (show xs 1 = 0 ∨ xs 1 = 1 ∨ xs 1 = 2 ∨ xs 1 = 3 ∨ (xs 1 < 0 ∨ 3 < xs 1) by omega) with h1 | h1 | h1 | h1 | h1
    · exact pc_0_0 xs hz rfl h1 rfl rfl rfl rfl
    · exact pc_0_1 xs hz rfl h1 rfl rfl rfl rfl
    · exact pc_0_2 xs hz rfl h1 rfl rfl rfl rfl
    · exact pc_0_3 xs hz rfl h1 rfl rfl rfl rfl
    · exact pc_0_o xs hz rfl rfl rfl rfl rfl rfl h1
  · rcases (show xs 1 = 0 ∨ xs 1 = 1 ∨ xs 1 = 2 ∨ xs 1 = 3 ∨ (xs 1 < 0 ∨ 3 < xs 1) by omega) with h1 | h1 | h1 | h1 | h1
    · exact pc_1_0 xs hz rfl h1 rfl rfl rfl rfl
    · exact pc_1_1 xs hz rfl h1 rfl rfl rfl rfl
    · exact pc_1_2 xs hz rfl h1 rfl rfl rfl rfl
    · exact pc_1_3 xs hz rfl h1 rfl rfl rfl rfl
    · exact pc_1_o xs hz rfl rfl rfl rfl rfl rfl h1
  · rcases (show xs 1 = 0 ∨ xs 1 = 1 ∨ xs 1 = 2 ∨ xs 1 = 3 ∨ (xs 1 < 0 ∨ 3 < xs 1) by omega) with h1 | h1 | h1 | h1 | h1
    · exact pc_2_0 xs hz rfl h1 rfl rfl rfl rfl
    · exact pc_2_1 xs hz rfl h1 rfl rfl rfl rfl
    · exact pc_2_2 xs hz rfl h1 rfl rfl rfl rfl
    · exact pc_2_3 xs hz rfl h1 rfl rfl rfl rfl
    · exact pc_2_o xs hz rfl rfl rfl rfl rfl rfl h1
  · rcases (show xs 1 = 0 ∨ xs 1 = 1 ∨ xs 1 = 2 ∨ xs 1 = 3 ∨ (xs 1 < 0 ∨ 3 < xs 1) by omega) with h1 | h1 | h1 | h1 | h1
    · exact pc_3_0 xs hz rfl h1 rfl rfl rfl rfl
    · exact pc_3_1 xs hz rfl h1 rfl rfl rfl rfl
    · exact pc_3_2 xs hz rfl h1 rfl rfl rfl rfl
    · exact pc_3_3 xs hz rfl h1 rfl rfl rfl rfl
    · exact pc_3_o xs hz rfl rfl rfl rfl rfl rfl h1
  · rcases (show xs 1 = 0 ∨ xs 1 = 1 ∨ xs 1 = 2 ∨ xs 1 = 3 ∨ (xs 1 < 0 ∨ 3 < xs 1) by omega) with h1 | h1 | h1 | h1 | h1
    · exact pc_4_0 xs hz rfl h1 rfl rfl rfl rfl
    · exact pc_4_1 xs hz rfl h1 rfl rfl rfl rfl
    · exact pc_4_2 xs hz rfl h1 rfl rfl rfl rfl
    · exact pc_4_3 xs hz rfl h1 rfl rfl rfl rfl
    · exact pc_4_o xs hz rfl rfl rfl rfl rfl rfl h1
  · rcases (show xs 1 = 0 ∨ xs 1 = 1 ∨ xs 1 = 2 ∨ xs 1 = 3 ∨ (xs 1 < 0 ∨ 3 < xs 1) by omega) with h1 | h1 | h1 | h1 | h1
    · exact pc_5_0 xs hz rfl h1 rfl rfl rfl rfl
    · exact pc_5_1 xs hz rfl h1 rfl rfl rfl rfl
    · exact pc_5_2 xs hz rfl h1 rfl rfl rfl rfl
    · exact pc_5_3 xs hz rfl h1 rfl rfl rfl rfl
    · exact pc_5_o xs hz rfl rfl rfl rfl rfl rfl h1
  · rcases (show xs 1 = 0 ∨ xs 1 = 1 ∨ xs 1 = 2 ∨ xs 1 = 3 ∨ (xs 1 < 0 ∨ 3 < xs 1) by omega) with h1 | h1 | h1 | h1 | h1
    · exact pc_6_0 xs hz rfl h1 rfl rfl rfl rfl
    · exact pc_6_1 xs hz rfl h1 rfl rfl rfl rfl
    · exact pc_6_2 xs hz rfl h1 rfl rfl rfl rfl
    · exact pc_6_3 xs hz rfl h1 rfl rfl rfl rfl
    · exact pc_6_o xs hz rfl rfl rfl rfl rfl rfl h1
  · rcases (show xs 1 = 0 ∨ xs 1 = 1 ∨ xs 1 = 2 ∨ xs 1 = 3 ∨ (xs 1 < 0 ∨ 3 < xs 1) by omega) with h1 | h1 | h1 | h1 | h1
    · exact pc_7_0 xs hz rfl h1 rfl rfl rfl rfl
    · exact pc_7_1 xs hz rfl h1 rfl rfl rfl rfl
    · exact pc_7_2 xs hz rfl h1 rfl rfl rfl rfl
    · exact pc_7_3 xs hz rfl h1 rfl rfl rfl rfl
    · exact pc_7_o xs hz rfl rfl rfl rfl rfl rfl h1
  · rcases (show xs 1 = 0 ∨ xs 1 = 1 ∨ xs 1 = 2 ∨ xs 1 = 3 ∨ (xs 1 < 0 ∨ 3 < xs 1) by omega) with h1 | h1 | h1 | h1 | h1
    · rcases (show xs 2 = 0 ∨ xs 2 = 1 ∨ xs 2 = 2 ∨ xs 2 = 3 ∨ (xs 2 < 0 ∨ 3 < xs 2) by omega) with h2 | h2 | h2 | h2 | h2
      · exact pc_8_0_0 xs hz rfl h1 h2 rfl rfl rfl
      · exact pc_8_0_1 xs hz rfl h1 h2 rfl rfl rfl
      · exact pc_8_0_2 xs hz rfl h1 h2 rfl rfl rfl
      · exact pc_8_0_3 xs hz rfl h1 h2 rfl rfl rfl
      · exact pc_8_0_o xs hz rfl h1 rfl rfl rfl rfl h2
    · rcases (show xs 2 = 0 ∨ xs 2 = 1 ∨ xs 2 = 2 ∨ xs 2 = 3 ∨ (xs 2 < 0 ∨ 3 < xs 2) by omega) with h2 | h2 | h2 | h2 | h2
      · exact pc_8_1_0 xs hz rfl h1 h2 rfl rfl rfl
      · exact pc_8_1_1 xs hz rfl h1 h2 rfl rfl rfl
      · exact pc_8_1_2 xs hz rfl h1 h2 rfl rfl rfl
      · exact pc_8_1_3 xs hz rfl h1 h2 rfl rfl rfl
      · exact pc_8_1_o xs hz rfl h1 rfl rfl rfl rfl h2
    · rcases (show xs 2 = 0 ∨ xs 2 = 1 ∨ xs 2 = 2 ∨ xs 2 = 3 ∨ (xs 2 < 0 ∨ 3 < xs 2) by omega) with h2 | h2 | h2 | h2 | h2
      · exact pc_8_2_0 xs hz rfl h1 h2 rfl rfl rfl
      · exact pc_8_2_1 xs hz rfl h1 h2 rfl rfl rfl
      · exact pc_8_2_2 xs hz rfl h1 h2 rfl rfl rfl
      · exact pc_8_2_3 xs hz rfl h1 h2 rfl rfl rfl
      · exact pc_8_2_o xs hz rfl h1 rfl rfl rfl rfl h2
    · rcases (show xs 2 = 0 ∨ xs 2 = 1 ∨ xs 2 = 2 ∨ xs 2 = 3 ∨ (xs 2 < 0 ∨ 3 < xs 2) by omega) with h2 | h2 | h2 | h2 | h2
      · exact pc_8_3_0 xs hz rfl h1 h2 rfl rfl rfl
      · exact pc_8_3_1 xs hz rfl h1 h2 rfl rfl rfl
      · exact pc_8_3_2 xs hz rfl h1 h2 rfl rfl rfl
      · exact pc_8_3_3 xs hz rfl h1 h2 rfl rfl rfl
      · exact pc_8_3_o xs hz rfl h1 rfl rfl rfl rfl h2
    · rcases (show xs 2 = 0 ∨ xs 2 = 1 ∨ xs 2 = 2 ∨ xs 2 = 3 ∨ (xs 2 < 0 ∨ 3 < xs 2) by omega) with h2 | h2 | h2 | h2 | h2
      · exact pc_8_o_0 xs hz rfl rfl h2 rfl rfl rfl h1
      · exact pc_8_o_1 xs hz rfl rfl h2 rfl rfl rfl h1
      · exact pc_8_o_2 xs hz rfl rfl h2 rfl rfl rfl h1
      · exact pc_8_o_3 xs hz rfl rfl h2 rfl rfl rfl h1
      · exact pc_8_o_o xs hz rfl rfl rfl rfl rfl rfl h1 h2
  · rcases (show xs 1 = 0 ∨ xs 1 = 1 ∨ xs 1 = 2 ∨ xs 1 = 3 ∨ (xs 1 < 0 ∨ 3 < xs 1) by omega) with h1 | h1 | h1 | h1 | h1
    · exact pc_9_0 xs hz rfl h1 rfl rfl rfl rfl
    · exact pc_9_1 xs hz rfl h1 rfl rfl rfl rfl
    · exact pc_9_2 xs hz rfl h1 rfl rfl rfl rfl
    · exact pc_9_3 xs hz rfl h1 rfl rfl rfl rfl
    · exact pc_9_o xs hz rfl rfl rfl rfl rfl rfl h1
  · rcases (show xs 1 = 0 ∨ xs 1 = 1 ∨ xs 1 = 2 ∨ xs 1 = 3 ∨ (xs 1 < 0 ∨ 3 < xs 1) by omega) with h1 | h1 | h1 | h1 | h1
    · exact pc_10_0 xs hz rfl h1 rfl rfl rfl rfl
    · exact pc_10_1 xs hz rfl h1 rfl rfl rfl rfl
    · exact pc_10_2 xs hz rfl h1 rfl rfl rfl rfl
    · exact pc_10_3 xs hz rfl h1 rfl rfl rfl rfl
    · exact pc_10_o xs hz rfl rfl rfl rfl rfl rfl h1
  · rcases (show xs 1 = 0 ∨ xs 1 = 1 ∨ xs 1 = 2 ∨ xs 1 = 3 ∨ (xs 1 < 0 ∨ 3 < xs 1) by omega) with h1 | h1 | h1 | h1 | h1
    · exact pc_11_0 xs hz rfl h1 rfl rfl rfl rfl
    · exact pc_11_1 xs hz rfl h1 rfl rfl rfl rfl
    · exact pc_11_2 xs hz rfl h1 rfl rfl rfl rfl
    · exact pc_11_3 xs hz rfl h1 rfl rfl rfl rfl
    · exact pc_11_o xs hz rfl rfl rfl rfl rfl rfl h1
  · rcases (show xs 1 = 0 ∨ xs 1 = 1 ∨ xs 1 = 2 ∨ xs 1 = 3 ∨ (xs 1 < 0 ∨ 3 < xs 1) by omega) with h1 | h1 | h1 | h1 | h1
    · exact pc_12_0 xs hz rfl h1 rfl rfl rfl rfl
    · exact pc_12_1 xs hz rfl h1 rfl rfl rfl rfl
    · exact pc_12_2 xs hz rfl h1 rfl rfl rfl rfl
    · exact pc_12_3 xs hz rfl h1 rfl rfl rfl rfl
    · exact pc_12_o xs hz rfl rfl rfl rfl rfl rfl h1
  · rcases (show xs 1 = 0 ∨ xs 1 = 1 ∨ xs 1 = 2 ∨ xs 1 = 3 ∨ (xs 1 < 0 ∨ 3 < xs 1) by omega) with h1 | h1 | h1 | h1 | h1
    · exact pc_13_0 xs hz rfl h1 rfl rfl rfl rfl
    · exact pc_13_1 xs hz rfl h1 rfl rfl rfl rfl
    · exact pc_13_2 xs hz rfl h1 rfl rfl rfl rfl
    · exact pc_13_3 xs hz rfl h1 rfl rfl rfl rfl
    · exact pc_13_o xs hz rfl rfl rfl rfl rfl rfl h1
  · rcases (show xs 1 = 0 ∨ xs 1 = 1 ∨ xs 1 = 2 ∨ xs 1 = 3 ∨ (xs 1 < 0 ∨ 3 < xs 1) by omega) with h1 | h1 | h1 | h1 | h1
    · exact pc_14_0 xs hz rfl h1 rfl rfl rfl rfl
    · exact pc_14_1 xs hz rfl h1 rfl rfl rfl rfl
    · exact pc_14_2 xs hz rfl h1 rfl rfl rfl rfl
    · exact pc_14_3 xs hz rfl h1 rfl rfl rfl rfl
    · exact pc_14_o xs hz rfl rfl rfl rfl rfl rfl h1
  · rcases (show xs 1 = 0 ∨ xs 1 = 1 ∨ xs 1 = 2 ∨ xs 1 = 3 ∨ (xs 1 < 0 ∨ 3 < xs 1) by omega) with h1 | h1 | h1 | h1 | h1
    · exact pc_15_0 xs hz rfl h1 rfl rfl rfl rfl
    · exact pc_15_1 xs hz rfl h1 rfl rfl rfl rfl
    · exact pc_15_2 xs hz rfl h1 rfl rfl rfl rfl
    · exact pc_15_3 xs hz rfl h1 rfl rfl rfl rfl
    · exact pc_15_o xs hz rfl rfl rfl rfl rfl rfl h1
  · rcases (show xs 1 = 0 ∨ xs 1 = 1 ∨ xs 1 = 2 ∨ xs 1 = 3 ∨ (xs 1 < 0 ∨ 3 < xs 1) by omega) with h1 | h1 | h1 | h1 | h1
    · exact pc_16_0 xs hz rfl h1 rfl rfl rfl rfl
    · exact pc_16_1 xs hz rfl h1 rfl rfl rfl rfl
    · exact pc_16_2 xs hz rfl h1 rfl rfl rfl rfl
    · exact pc_16_3 xs hz rfl h1 rfl rfl rfl rfl
    · exact pc_16_o xs hz rfl rfl rfl rfl rfl rfl h1
  · rcases (show xs 1 = 0 ∨ xs 1 = 1 ∨ xs 1 = 2 ∨ xs 1 = 3 ∨ (xs 1 < 0 ∨ 3 < xs 1) by omega) with h1 | h1 | h1 | h1 | h1
    · exact pc_17_0 xs hz rfl h1 rfl rfl rfl rfl
    · exact pc_17_1 xs hz rfl h1 rfl rfl rfl rfl
    · exact pc_17_2 xs hz rfl h1 rfl rfl rfl rfl
    · exact pc_17_3 xs hz rfl h1 rfl rfl rfl rfl
    · exact pc_17_o xs hz rfl rfl rfl rfl rfl rfl h1
  · rcases (show xs 1 = 0 ∨ xs 1 = 1 ∨ xs 1 = 2 ∨ xs 1 = 3 ∨ (xs 1 < 0 ∨ 3 < xs 1) by omega) with h1 | h1 | h1 | h1 | h1
    · exact pc_18_0 xs hz rfl h1 rfl rfl rfl rfl
    · exact pc_18_1 xs hz rfl h1 rfl rfl rfl rfl
    · exact pc_18_2 xs hz rfl h1 rfl rfl rfl rfl
    · exact pc_18_3 xs hz rfl h1 rfl rfl rfl rfl
    · exact pc_18_o xs hz rfl rfl rfl rfl rfl rfl h1
  · rcases (show xs 1 = 0 ∨ xs 1 = 1 ∨ xs 1 = 2 ∨ xs 1 = 3 ∨ (xs 1 < 0 ∨ 3 < xs 1) by omega) with h1 | h1 | h1 | h1 | h1
    · exact pc_19_0 xs hz rfl h1 rfl rfl rfl rfl
    · exact pc_19_1 xs hz rfl h1 rfl rfl rfl rfl
    · exact pc_19_2 xs hz rfl h1 rfl rfl rfl rfl
    · exact pc_19_3 xs hz rfl h1 rfl rfl rfl rfl
    · exact pc_19_o xs hz rfl rfl rfl rfl rfl rfl h1
  · rcases (show xs 1 = 0 ∨ xs 1 = 1 ∨ xs 1 = 2 ∨ xs 1 = 3 ∨ (xs 1 < 0 ∨ 3 < xs 1) by omega) with h1 | h1 | h1 | h1 | h1
    · exact pc_20_0 xs hz rfl h1 rfl rfl rfl rfl
    · exact pc_20_1 xs hz rfl h1 rfl rfl rfl rfl
    · exact pc_20_2 xs hz rfl h1 rfl rfl rfl rfl
    · exact pc_20_3 xs hz rfl h1 rfl rfl rfl rfl
    · exact pc_20_o xs hz rfl rfl rfl rfl rfl rfl h1
  · rcases (show xs 1 = 0 ∨ xs 1 = 1 ∨ xs 1 = 2 ∨ xs 1 = 3 ∨ (xs 1 < 0 ∨ 3 < xs 1) by omega) with h1 | h1 | h1 | h1 | h1
    · exact pc_21_0 xs hz rfl h1 rfl rfl rfl rfl
    · exact pc_21_1 xs hz rfl h1 rfl rfl rfl rfl
    · exact pc_21_2 xs hz rfl h1 rfl rfl rfl rfl
    · exact pc_21_3 xs hz rfl h1 rfl rfl rfl rfl
    · exact pc_21_o xs hz rfl rfl rfl rfl rfl rfl h1
  · exact pc_22 xs hz rfl rfl rfl rfl rfl rfl
  · rcases (show xs 1 = 0 ∨ xs 1 = 1 ∨ xs 1 = 2 ∨ xs 1 = 3 ∨ (xs 1 < 0 ∨ 3 < xs 1) by omega) with h1 | h1 | h1 | h1 | h1
    · exact pc_23_0 xs hz rfl h1 rfl rfl rfl rfl
    · exact pc_23_1 xs hz rfl h1 rfl rfl rfl rfl
    · exact pc_23_2 xs hz rfl h1 rfl rfl rfl rfl
    · exact pc_23_3 xs hz rfl h1 rfl rfl rfl rfl
    · exact pc_23_o xs hz rfl rfl rfl rfl rfl rfl h1
  · exact pc_24 xs hz rfl rfl rfl rfl rfl rfl
  · rcases (show xs 1 = 0 ∨ xs 1 = 1 ∨ xs 1 = 2 ∨ xs 1 = 3 ∨ (xs 1 < 0 ∨ 3 < xs 1) by omega) with h1 | h1 | h1 | h1 | h1
    · exact pc_25_0 xs hz rfl h1 rfl rfl rfl rfl
    · exact pc_25_1 xs hz rfl h1 rfl rfl rfl rfl
    · exact pc_25_2 xs hz rfl h1 rfl rfl rfl rfl
    · exact pc_25_3 xs hz rfl h1 rfl rfl rfl rfl
    · exact pc_25_o xs hz rfl rfl rfl rfl rfl rfl h1
  · rcases (show xs 1 = 0 ∨ xs 1 = 1 ∨ xs 1 = 2 ∨ xs 1 = 3 ∨ (xs 1 < 0 ∨ 3 < xs 1) by omega) with h1 | h1 | h1 | h1 | h1
    · rcases (show xs 2 = 0 ∨ xs 2 = 1 ∨ xs 2 = 2 ∨ xs 2 = 3 ∨ (xs 2 < 0 ∨ 3 < xs 2) by omega) with h2 | h2 | h2 | h2 | h2
      · exact pc_26_0_0 xs hz rfl h1 h2 rfl rfl rfl
      · exact pc_26_0_1 xs hz rfl h1 h2 rfl rfl rfl
      · exact pc_26_0_2 xs hz rfl h1 h2 rfl rfl rfl
      · exact pc_26_0_3 xs hz rfl h1 h2 rfl rfl rfl
      · exact pc_26_0_o xs hz rfl h1 rfl rfl rfl rfl h2
    · rcases (show xs 2 = 0 ∨ xs 2 = 1 ∨ xs 2 = 2 ∨ xs 2 = 3 ∨ (xs 2 < 0 ∨ 3 < xs 2) by omega) with h2 | h2 | h2 | h2 | h2
      · exact pc_26_1_0 xs hz rfl h1 h2 rfl rfl rfl
      · exact pc_26_1_1 xs hz rfl h1 h2 rfl rfl rfl
      · exact pc_26_1_2 xs hz rfl h1 h2 rfl rfl rfl
      · exact pc_26_1_3 xs hz rfl h1 h2 rfl rfl rfl
      · exact pc_26_1_o xs hz rfl h1 rfl rfl rfl rfl h2
    · rcases (show xs 2 = 0 ∨ xs 2 = 1 ∨ xs 2 = 2 ∨ xs 2 = 3 ∨ (xs 2 < 0 ∨ 3 < xs 2) by omega) with h2 | h2 | h2 | h2 | h2
      · exact pc_26_2_0 xs hz rfl h1 h2 rfl rfl rfl
      · exact pc_26_2_1 xs hz rfl h1 h2 rfl rfl rfl
      · exact pc_26_2_2 xs hz rfl h1 h2 rfl rfl rfl
      · exact pc_26_2_3 xs hz rfl h1 h2 rfl rfl rfl
      · exact pc_26_2_o xs hz rfl h1 rfl rfl rfl rfl h2
    · rcases (show xs 2 = 0 ∨ xs 2 = 1 ∨ xs 2 = 2 ∨ xs 2 = 3 ∨ (xs 2 < 0 ∨ 3 < xs 2) by omega) with h2 | h2 | h2 | h2 | h2
      · exact pc_26_3_0 xs hz rfl h1 h2 rfl rfl rfl
      · exact pc_26_3_1 xs hz rfl h1 h2 rfl rfl rfl
      · exact pc_26_3_2 xs hz rfl h1 h2 rfl rfl rfl
      · exact pc_26_3_3 xs hz rfl h1 h2 rfl rfl rfl
      · exact pc_26_3_o xs hz rfl h1 rfl rfl rfl rfl h2
    · rcases (show xs 2 = 0 ∨ xs 2 = 1 ∨ xs 2 = 2 ∨ xs 2 = 3 ∨ (xs 2 < 0 ∨ 3 < xs 2) by omega) with h2 | h2 | h2 | h2 | h2
      · exact pc_26_o_0 xs hz rfl rfl h2 rfl rfl rfl h1
      · exact pc_26_o_1 xs hz rfl rfl h2 rfl rfl rfl h1
      · exact pc_26_o_2 xs hz rfl rfl h2 rfl rfl rfl h1
      · exact pc_26_o_3 xs hz rfl rfl h2 rfl rfl rfl h1
      · exact pc_26_o_o xs hz rfl rfl rfl rfl rfl rfl h1 h2
  · rcases (show xs 1 = 0 ∨ xs 1 = 1 ∨ xs 1 = 2 ∨ xs 1 = 3 ∨ (xs 1 < 0 ∨ 3 < xs 1) by omega) with h1 | h1 | h1 | h1 | h1
    · rcases (show xs 2 = 0 ∨ xs 2 = 1 ∨ xs 2 = 2 ∨ xs 2 = 3 ∨ xs 2 = 4 ∨ xs 2 = 5 ∨ xs 2 = 6 ∨ (xs 2 < 0 ∨ 6 < xs 2) by omega) with h2 | h2 | h2 | h2 | h2 | h2 | h2 | h2
      · exact pc_27_0_0 xs hz rfl h1 h2 rfl rfl rfl
      · exact pc_27_0_1 xs hz rfl h1 h2 rfl rfl rfl
      · exact pc_27_0_2 xs hz rfl h1 h2 rfl rfl rfl
      · exact pc_27_0_3 xs hz rfl h1 h2 rfl rfl rfl
      · exact pc_27_0_4 xs hz rfl h1 h2 rfl rfl rfl
      · exact pc_27_0_5 xs hz rfl h1 h2 rfl rfl rfl
      · exact pc_27_0_6 xs hz rfl h1 h2 rfl rfl rfl
      · exact pc_27_0_o xs hz rfl h1 rfl rfl rfl rfl h2
    · rcases (show xs 2 = 0 ∨ xs 2 = 1 ∨ xs 2 = 2 ∨ xs 2 = 3 ∨ xs 2 = 4 ∨ xs 2 = 5 ∨ xs 2 = 6 ∨ (xs 2 < 0 ∨ 6 < xs 2) by omega) with h2 | h2 | h2 | h2 | h2 | h2 | h2 | h2
      · exact pc_27_1_0 xs hz rfl h1 h2 rfl rfl rfl
      · exact pc_27_1_1 xs hz rfl h1 h2 rfl rfl rfl
      · exact pc_27_1_2 xs hz rfl h1 h2 rfl rfl rfl
      · exact pc_27_1_3 xs hz rfl h1 h2 rfl rfl rfl
      · exact pc_27_1_4 xs hz rfl h1 h2 rfl rfl rfl
      · exact pc_27_1_5 xs hz rfl h1 h2 rfl rfl rfl
      · exact pc_27_1_6 xs hz rfl h1 h2 rfl rfl rfl
      · exact pc_27_1_o xs hz rfl h1 rfl rfl rfl rfl h2
    · rcases (show xs 2 = 0 ∨ xs 2 = 1 ∨ xs 2 = 2 ∨ xs 2 = 3 ∨ xs 2 = 4 ∨ xs 2 = 5 ∨ xs 2 = 6 ∨ (xs 2 < 0 ∨ 6 < xs 2) by omega) with h2 | h2 | h2 | h2 | h2 | h2 | h2 | h2
      · exact pc_27_2_0 xs hz rfl h1 h2 rfl rfl rfl
      · exact pc_27_2_1 xs hz rfl h1 h2 rfl rfl rfl
      · exact pc_27_2_2 xs hz rfl h1 h2 rfl rfl rfl
      · exact pc_27_2_3 xs hz rfl h1 h2 rfl rfl rfl
      · exact pc_27_2_4 xs hz rfl h1 h2 rfl rfl rfl
      · exact pc_27_2_5 xs hz rfl h1 h2 rfl rfl rfl
      · exact pc_27_2_6 xs hz rfl h1 h2 rfl rfl rfl
      · exact pc_27_2_o xs hz rfl h1 rfl rfl rfl rfl h2
    · rcases (show xs 2 = 0 ∨ xs 2 = 1 ∨ xs 2 = 2 ∨ xs 2 = 3 ∨ xs 2 = 4 ∨ xs 2 = 5 ∨ xs 2 = 6 ∨ (xs 2 < 0 ∨ 6 < xs 2) by omega) with h2 | h2 | h2 | h2 | h2 | h2 | h2 | h2
      · exact pc_27_3_0 xs hz rfl h1 h2 rfl rfl rfl
      · exact pc_27_3_1 xs hz rfl h1 h2 rfl rfl rfl
      · exact pc_27_3_2 xs hz rfl h1 h2 rfl rfl rfl
      · exact pc_27_3_3 xs hz rfl h1 h2 rfl rfl rfl
      · exact pc_27_3_4 xs hz rfl h1 h2 rfl rfl rfl
      · exact pc_27_3_5 xs hz rfl h1 h2 rfl rfl rfl
      · exact pc_27_3_6 xs hz rfl h1 h2 rfl rfl rfl
      · exact pc_27_3_o xs hz rfl h1 rfl rfl rfl rfl h2
    · exact pc_27_o xs hz rfl rfl rfl rfl rfl rfl h1
  · exact pc_28 xs hz rfl rfl rfl rfl rfl rfl
  · exact pc_29 xs hz rfl rfl rfl rfl rfl rfl
  · exact pc_30 xs hz rfl rfl rfl rfl rfl rfl
  · exact pc_31 xs hz rfl rfl rfl rfl rfl rfl
