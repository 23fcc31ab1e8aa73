theorem ch_48_0 : ckr 0 30 in_48 prog_8_method_15_code = true := by decide +kernel
theorem io_48 : ioP 48 := io_of 30 (f := in_48) (cc := prog_8_method_15_code) rfl rfl rfl (ckr_up (a := 0) ckr_0 ch_48_0 (rfl : 0 + 30 = 30))
theorem ch_49_0 : ckr 0 20 in_49 prog_8_method_14_code = true := by decide +kernel
theorem io_49 : ioP 49 := io_of 20 (f := in_49) (cc := prog_8_method_14_code) rfl rfl rfl (ckr_up (a := 0) ckr_0 ch_49_0 (rfl : 0 + 20 = 20))
theorem ch_50_0 : ckr 0 64 in_50 prog_8_method_13_code = true := by decide +kernel
theorem ch_50_1 : ckr 64 5 in_50 prog_8_method_13_code = true := by decide +kernel
theorem io_50 : ioP 50 := io_of 69 (f := in_50) (cc := prog_8_method_13_code) rfl rfl rfl (ckr_up (a := 64) (ckr_up (a := 0) ckr_0 ch_50_0 (rfl : 0 + 64 = 64)) ch_50_1 (rfl : 64 + 5 = 69))
theorem ch_51_0 : ckr 0 64 in_51 prog_7_method_5_code = true := by decide +kernel
theorem ch_51_1 : ckr 64 64 in_51 prog_7_method_5_code = true := by decide +kernel
theorem ch_51_2 : ckr 128 7 in_51 prog_7_method_5_code = true := by decide +kernel
theorem io_51 : ioP 51 := io_of 135 (f := in_51) (cc := prog_7_method_5_code) rfl rfl rfl (ckr_up (a := 128) (ckr_up (a := 64) (ckr_up (a := 0) ckr_0 ch_51_0 (rfl : 0 + 64 = 64)) ch_51_1 (rfl : 64 + 64 = 128)) ch_51_2 (rfl : 128 + 7 = 135))
theorem ch_52_0 : ckr 0 64 in_52 prog_7_method_6_code = true := by decide +kernel
theorem ch_52_1 : ckr 64 22 in_52 prog_7_method_6_code = true := by decide +kernel
theorem io_52 : ioP 52 := io_of 86 (f := in_52) (cc := prog_7_method_6_code) rfl rfl rfl (ckr_up (a := 64) (ckr_up (a := 0) ckr_0 ch_52_0 (rfl : 0 + 64 = 64)) ch_52_1 (rfl : 64 + 22 = 86))
theorem ch_53_0 : ckr 0 64 in_53 prog_7_method_7_code = true := by decide +kernel
theorem ch_53_1 : ckr 64 4 in_53 prog_7_method_7_code = true := by decide +kernel
theorem io_53 : ioP 53 := io_of 68 (f := in_53) (cc := prog_7_method_7_code) rfl rfl rfl (ckr_up (a := 64) (ckr_up (a := 0) ckr_0 ch_53_0 (rfl : 0 + 64 = 64)) ch_53_1 (rfl : 64 + 4 = 68))
theorem ch_54_0 : ckr 0 64 in_54 prog_7_method_2_code = true := by decide +kernel
theorem ch_54_1 : ckr 64 64 in_54 prog_7_method_2_code = true := by decide +kernel
theorem ch_54_2 : ckr 128 4 in_54 prog_7_method_2_code = true := by decide +kernel
theorem io_54 : ioP 54 := io_of 132 (f := in_54) (cc := prog_7_method_2_code) rfl rfl rfl (ckr_up (a := 128) (ckr_up (a := 64) (ckr_up (a := 0) ckr_0 ch_54_0 (rfl : 0 + 64 = 64)) ch_54_1 (rfl : 64 + 64 = 128)) ch_54_2 (rfl : 128 + 4 = 132))
theorem ch_55_0 : ckr 0 28 in_55 prog_8_method_3_code = true := by decide +kernel
theorem io_55 : ioP 55 := io_of 28 (f := in_55) (cc := prog_8_method_3_code) rfl rfl rfl (ckr_up (a := 0) ckr_0 ch_55_0 (rfl : 0 + 28 = 28))
theorem ch_56_0 : ckr 0 64 in_56 prog_7_method_3_code = true := by decide +kernel
theorem ch_56_1 : ckr 64 39 in_56 prog_7_method_3_code = true := by decide +kernel
theorem io_56 : ioP 56 := io_of 103 (f := in_56) (cc := prog_7_method_3_code) rfl rfl rfl (ckr_up (a := 64) (ckr_up (a := 0) ckr_0 ch_56_0 (rfl : 0 + 64 = 64)) ch_56_1 (rfl : 64 + 39 = 103))
theorem ch_57_0 : ckr 0 6 in_57 prog_6_method_3_code = true := by decide +kernel
theorem io_57 : ioP 57 := io_of 6 (f := in_57) (cc := prog_6_method_3_code) rfl rfl rfl (ckr_up (a := 0) ckr_0 ch_57_0 (rfl : 0 + 6 = 6))
theorem ch_58_0 : ckr 0 40 in_58 prog_7_method_4_code = true := by decide +kernel
theorem io_58 : ioP 58 := io_of 40 (f := in_58) (cc := prog_7_method_4_code) rfl rfl rfl (ckr_up (a := 0) ckr_0 ch_58_0 (rfl : 0 + 40 = 40))
theorem ch_59_0 : ckr 0 48 in_59 prog_1_method_8_code = true := by decide +kernel
theorem io_59 : ioP 59 := io_of 48 (f := in_59) (cc := prog_1_method_8_code) rfl rfl rfl (ckr_up (a := 0) ckr_0 ch_59_0 (rfl : 0 + 48 = 48))
