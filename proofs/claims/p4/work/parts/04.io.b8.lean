theorem ch_96_0 : ckr 0 28 in_96 prog_1_method_23_code = true := by decide +kernel
theorem io_96 : ioP 96 := io_of 28 (f := in_96) (cc := prog_1_method_23_code) rfl rfl rfl (ckr_up (a := 0) ckr_0 ch_96_0 (rfl : 0 + 28 = 28))
theorem ch_97_0 : ckr 0 64 in_97 prog_4_method_3_code = true := by decide +kernel
theorem ch_97_1 : ckr 64 42 in_97 prog_4_method_3_code = true := by decide +kernel
theorem io_97 : ioP 97 := io_of 106 (f := in_97) (cc := prog_4_method_3_code) rfl rfl rfl (ckr_up (a := 64) (ckr_up (a := 0) ckr_0 ch_97_0 (rfl : 0 + 64 = 64)) ch_97_1 (rfl : 64 + 42 = 106))
theorem ch_98_0 : ckr 0 17 in_98 prog_4_method_5_code = true := by decide +kernel
theorem io_98 : ioP 98 := io_of 17 (f := in_98) (cc := prog_4_method_5_code) rfl rfl rfl (ckr_up (a := 0) ckr_0 ch_98_0 (rfl : 0 + 17 = 17))
theorem ch_99_0 : ckr 0 61 in_99 prog_4_method_7_code = true := by decide +kernel
theorem io_99 : ioP 99 := io_of 61 (f := in_99) (cc := prog_4_method_7_code) rfl rfl rfl (ckr_up (a := 0) ckr_0 ch_99_0 (rfl : 0 + 61 = 61))
theorem ch_100_0 : ckr 0 53 in_100 prog_4_method_8_code = true := by decide +kernel
theorem io_100 : ioP 100 := io_of 53 (f := in_100) (cc := prog_4_method_8_code) rfl rfl rfl (ckr_up (a := 0) ckr_0 ch_100_0 (rfl : 0 + 53 = 53))
theorem ch_101_0 : ckr 0 43 in_101 prog_10_method_7_code = true := by decide +kernel
theorem io_101 : ioP 101 := io_of 43 (f := in_101) (cc := prog_10_method_7_code) rfl rfl rfl (ckr_up (a := 0) ckr_0 ch_101_0 (rfl : 0 + 43 = 43))
theorem ch_102_0 : ckr 0 16 in_102 prog_4_method_6_code = true := by decide +kernel
theorem io_102 : ioP 102 := io_of 16 (f := in_102) (cc := prog_4_method_6_code) rfl rfl rfl (ckr_up (a := 0) ckr_0 ch_102_0 (rfl : 0 + 16 = 16))
theorem ch_103_0 : ckr 0 64 in_103 prog_4_method_4_code = true := by decide +kernel
theorem ch_103_1 : ckr 64 41 in_103 prog_4_method_4_code = true := by decide +kernel
theorem io_103 : ioP 103 := io_of 105 (f := in_103) (cc := prog_4_method_4_code) rfl rfl rfl (ckr_up (a := 64) (ckr_up (a := 0) ckr_0 ch_103_0 (rfl : 0 + 64 = 64)) ch_103_1 (rfl : 64 + 41 = 105))
theorem ch_104_0 : ckr 0 9 in_104 prog_1_method_24_code = true := by decide +kernel
theorem io_104 : ioP 104 := io_of 9 (f := in_104) (cc := prog_1_method_24_code) rfl rfl rfl (ckr_up (a := 0) ckr_0 ch_104_0 (rfl : 0 + 9 = 9))
theorem ch_105_0 : ckr 0 30 in_105 prog_4_method_2_code = true := by decide +kernel
theorem io_105 : ioP 105 := io_of 30 (f := in_105) (cc := prog_4_method_2_code) rfl rfl rfl (ckr_up (a := 0) ckr_0 ch_105_0 (rfl : 0 + 30 = 30))
theorem ch_106_0 : ckr 0 24 in_106 prog_1_method_25_code = true := by decide +kernel
theorem io_106 : ioP 106 := io_of 24 (f := in_106) (cc := prog_1_method_25_code) rfl rfl rfl (ckr_up (a := 0) ckr_0 ch_106_0 (rfl : 0 + 24 = 24))
theorem ch_107_0 : ckr 0 53 in_107 prog_5_method_2_code = true := by decide +kernel
theorem io_107 : ioP 107 := io_of 53 (f := in_107) (cc := prog_5_method_2_code) rfl rfl rfl (ckr_up (a := 0) ckr_0 ch_107_0 (rfl : 0 + 53 = 53))
