theorem ch_60_0 : ckr 0 27 in_60 prog_1_method_9_code = true := by decide +kernel
theorem io_60 : ioP 60 := io_of 27 (f := in_60) (cc := prog_1_method_9_code) rfl rfl rfl (ckr_up (a := 0) ckr_0 ch_60_0 (rfl : 0 + 27 = 27))
theorem ch_61_0 : ckr 0 27 in_61 prog_6_method_7_code = true := by decide +kernel
theorem io_61 : ioP 61 := io_of 27 (f := in_61) (cc := prog_6_method_7_code) rfl rfl rfl (ckr_up (a := 0) ckr_0 ch_61_0 (rfl : 0 + 27 = 27))
theorem ch_62_0 : ckr 0 40 in_62 prog_1_method_10_code = true := by decide +kernel
theorem io_62 : ioP 62 := io_of 40 (f := in_62) (cc := prog_1_method_10_code) rfl rfl rfl (ckr_up (a := 0) ckr_0 ch_62_0 (rfl : 0 + 40 = 40))
theorem ch_63_0 : ckr 0 62 in_63 prog_6_method_8_code = true := by decide +kernel
theorem io_63 : ioP 63 := io_of 62 (f := in_63) (cc := prog_6_method_8_code) rfl rfl rfl (ckr_up (a := 0) ckr_0 ch_63_0 (rfl : 0 + 62 = 62))
theorem ch_64_0 : ckr 0 64 in_64 prog_3_method_13_code = true := by decide +kernel
theorem ch_64_1 : ckr 64 64 in_64 prog_3_method_13_code = true := by decide +kernel
theorem ch_64_2 : ckr 128 53 in_64 prog_3_method_13_code = true := by decide +kernel
theorem io_64 : ioP 64 := io_of 181 (f := in_64) (cc := prog_3_method_13_code) rfl rfl rfl (ckr_up (a := 128) (ckr_up (a := 64) (ckr_up (a := 0) ckr_0 ch_64_0 (rfl : 0 + 64 = 64)) ch_64_1 (rfl : 64 + 64 = 128)) ch_64_2 (rfl : 128 + 53 = 181))
theorem ch_65_0 : ckr 0 52 in_65 prog_1_method_44_code = true := by decide +kernel
theorem io_65 : ioP 65 := io_of 52 (f := in_65) (cc := prog_1_method_44_code) rfl rfl rfl (ckr_up (a := 0) ckr_0 ch_65_0 (rfl : 0 + 52 = 52))
theorem ch_66_0 : ckr 0 64 in_66 prog_10_method_8_code = true := by decide +kernel
theorem ch_66_1 : ckr 64 41 in_66 prog_10_method_8_code = true := by decide +kernel
theorem io_66 : ioP 66 := io_of 105 (f := in_66) (cc := prog_10_method_8_code) rfl rfl rfl (ckr_up (a := 64) (ckr_up (a := 0) ckr_0 ch_66_0 (rfl : 0 + 64 = 64)) ch_66_1 (rfl : 64 + 41 = 105))
theorem ch_67_0 : ckr 0 64 in_67 prog_1_method_11_code = true := by decide +kernel
theorem ch_67_1 : ckr 64 64 in_67 prog_1_method_11_code = true := by decide +kernel
theorem ch_67_2 : ckr 128 49 in_67 prog_1_method_11_code = true := by decide +kernel
theorem io_67 : ioP 67 := io_of 177 (f := in_67) (cc := prog_1_method_11_code) rfl rfl rfl (ckr_up (a := 128) (ckr_up (a := 64) (ckr_up (a := 0) ckr_0 ch_67_0 (rfl : 0 + 64 = 64)) ch_67_1 (rfl : 64 + 64 = 128)) ch_67_2 (rfl : 128 + 49 = 177))
theorem ch_68_0 : ckr 0 38 in_68 prog_3_method_4_code = true := by decide +kernel
theorem io_68 : ioP 68 := io_of 38 (f := in_68) (cc := prog_3_method_4_code) rfl rfl rfl (ckr_up (a := 0) ckr_0 ch_68_0 (rfl : 0 + 38 = 38))
theorem ch_69_0 : ckr 0 64 in_69 prog_1_method_12_code = true := by decide +kernel
theorem ch_69_1 : ckr 64 44 in_69 prog_1_method_12_code = true := by decide +kernel
theorem io_69 : ioP 69 := io_of 108 (f := in_69) (cc := prog_1_method_12_code) rfl rfl rfl (ckr_up (a := 64) (ckr_up (a := 0) ckr_0 ch_69_0 (rfl : 0 + 64 = 64)) ch_69_1 (rfl : 64 + 44 = 108))
theorem ch_70_0 : ckr 0 35 in_70 prog_1_method_13_code = true := by decide +kernel
theorem io_70 : ioP 70 := io_of 35 (f := in_70) (cc := prog_1_method_13_code) rfl rfl rfl (ckr_up (a := 0) ckr_0 ch_70_0 (rfl : 0 + 35 = 35))
theorem ch_71_0 : ckr 0 64 in_71 prog_1_method_14_code = true := by decide +kernel
theorem ch_71_1 : ckr 64 38 in_71 prog_1_method_14_code = true := by decide +kernel
theorem io_71 : ioP 71 := io_of 102 (f := in_71) (cc := prog_1_method_14_code) rfl rfl rfl (ckr_up (a := 64) (ckr_up (a := 0) ckr_0 ch_71_0 (rfl : 0 + 64 = 64)) ch_71_1 (rfl : 64 + 38 = 102))
