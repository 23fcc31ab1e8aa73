theorem ch_12_0 : ckr 0 20 in_12 prog_1_method_30_code = true := by decide +kernel
theorem io_12 : ioP 12 := io_of 20 (f := in_12) (cc := prog_1_method_30_code) rfl rfl rfl (ckr_up (a := 0) ckr_0 ch_12_0 (rfl : 0 + 20 = 20))
theorem ch_13_0 : ckr 0 29 in_13 prog_1_method_35_code = true := by decide +kernel
theorem io_13 : ioP 13 := io_of 29 (f := in_13) (cc := prog_1_method_35_code) rfl rfl rfl (ckr_up (a := 0) ckr_0 ch_13_0 (rfl : 0 + 29 = 29))
theorem ch_14_0 : ckr 0 64 in_14 prog_6_method_6_code = true := by decide +kernel
theorem ch_14_1 : ckr 64 42 in_14 prog_6_method_6_code = true := by decide +kernel
theorem io_14 : ioP 14 := io_of 106 (f := in_14) (cc := prog_6_method_6_code) rfl rfl rfl (ckr_up (a := 64) (ckr_up (a := 0) ckr_0 ch_14_0 (rfl : 0 + 64 = 64)) ch_14_1 (rfl : 64 + 42 = 106))
theorem ch_15_0 : ckr 0 11 in_15 prog_6_method_2_code = true := by decide +kernel
theorem io_15 : ioP 15 := io_of 11 (f := in_15) (cc := prog_6_method_2_code) rfl rfl rfl (ckr_up (a := 0) ckr_0 ch_15_0 (rfl : 0 + 11 = 11))
theorem ch_16_0 : ckr 0 63 in_16 prog_1_method_3_code = true := by decide +kernel
theorem io_16 : ioP 16 := io_of 63 (f := in_16) (cc := prog_1_method_3_code) rfl rfl rfl (ckr_up (a := 0) ckr_0 ch_16_0 (rfl : 0 + 63 = 63))
theorem ch_17_0 : ckr 0 18 in_17 prog_3_method_2_code = true := by decide +kernel
theorem io_17 : ioP 17 := io_of 18 (f := in_17) (cc := prog_3_method_2_code) rfl rfl rfl (ckr_up (a := 0) ckr_0 ch_17_0 (rfl : 0 + 18 = 18))
theorem ch_18_0 : ckr 0 39 in_18 prog_3_method_3_code = true := by decide +kernel
theorem io_18 : ioP 18 := io_of 39 (f := in_18) (cc := prog_3_method_3_code) rfl rfl rfl (ckr_up (a := 0) ckr_0 ch_18_0 (rfl : 0 + 39 = 39))
theorem ch_19_0 : ckr 0 64 in_19 prog_1_method_4_code = true := by decide +kernel
theorem ch_19_1 : ckr 64 37 in_19 prog_1_method_4_code = true := by decide +kernel
theorem io_19 : ioP 19 := io_of 101 (f := in_19) (cc := prog_1_method_4_code) rfl rfl rfl (ckr_up (a := 64) (ckr_up (a := 0) ckr_0 ch_19_0 (rfl : 0 + 64 = 64)) ch_19_1 (rfl : 64 + 37 = 101))
theorem ch_20_0 : ckr 0 41 in_20 prog_1_method_36_code = true := by decide +kernel
theorem io_20 : ioP 20 := io_of 41 (f := in_20) (cc := prog_1_method_36_code) rfl rfl rfl (ckr_up (a := 0) ckr_0 ch_20_0 (rfl : 0 + 41 = 41))
theorem ch_21_0 : ckr 0 36 in_21 prog_3_method_9_code = true := by decide +kernel
theorem io_21 : ioP 21 := io_of 36 (f := in_21) (cc := prog_3_method_9_code) rfl rfl rfl (ckr_up (a := 0) ckr_0 ch_21_0 (rfl : 0 + 36 = 36))
theorem ch_22_0 : ckr 0 40 in_22 prog_3_method_8_code = true := by decide +kernel
theorem io_22 : ioP 22 := io_of 40 (f := in_22) (cc := prog_3_method_8_code) rfl rfl rfl (ckr_up (a := 0) ckr_0 ch_22_0 (rfl : 0 + 40 = 40))
theorem ch_23_0 : ckr 0 34 in_23 prog_1_method_42_code = true := by decide +kernel
theorem io_23 : ioP 23 := io_of 34 (f := in_23) (cc := prog_1_method_42_code) rfl rfl rfl (ckr_up (a := 0) ckr_0 ch_23_0 (rfl : 0 + 34 = 34))
