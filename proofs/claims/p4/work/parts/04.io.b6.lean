theorem ch_72_0 : ckr 0 34 in_72 prog_1_method_15_code = true := by decide +kernel
theorem io_72 : ioP 72 := io_of 34 (f := in_72) (cc := prog_1_method_15_code) rfl rfl rfl (ckr_up (a := 0) ckr_0 ch_72_0 (rfl : 0 + 34 = 34))
theorem ch_73_0 : ckr 0 64 in_73 prog_1_method_16_code = true := by decide +kernel
theorem ch_73_1 : ckr 64 31 in_73 prog_1_method_16_code = true := by decide +kernel
theorem io_73 : ioP 73 := io_of 95 (f := in_73) (cc := prog_1_method_16_code) rfl rfl rfl (ckr_up (a := 64) (ckr_up (a := 0) ckr_0 ch_73_0 (rfl : 0 + 64 = 64)) ch_73_1 (rfl : 64 + 31 = 95))
theorem ch_74_0 : ckr 0 30 in_74 prog_6_method_5_code = true := by decide +kernel
theorem io_74 : ioP 74 := io_of 30 (f := in_74) (cc := prog_6_method_5_code) rfl rfl rfl (ckr_up (a := 0) ckr_0 ch_74_0 (rfl : 0 + 30 = 30))
theorem ch_75_0 : ckr 0 61 in_75 prog_1_method_17_code = true := by decide +kernel
theorem io_75 : ioP 75 := io_of 61 (f := in_75) (cc := prog_1_method_17_code) rfl rfl rfl (ckr_up (a := 0) ckr_0 ch_75_0 (rfl : 0 + 61 = 61))
theorem ch_76_0 : ckr 0 31 in_76 prog_10_method_2_code = true := by decide +kernel
theorem io_76 : ioP 76 := io_of 31 (f := in_76) (cc := prog_10_method_2_code) rfl rfl rfl (ckr_up (a := 0) ckr_0 ch_76_0 (rfl : 0 + 31 = 31))
theorem ch_77_0 : ckr 0 64 in_77 prog_1_method_18_code = true := by decide +kernel
theorem ch_77_1 : ckr 64 40 in_77 prog_1_method_18_code = true := by decide +kernel
theorem io_77 : ioP 77 := io_of 104 (f := in_77) (cc := prog_1_method_18_code) rfl rfl rfl (ckr_up (a := 64) (ckr_up (a := 0) ckr_0 ch_77_0 (rfl : 0 + 64 = 64)) ch_77_1 (rfl : 64 + 40 = 104))
theorem ch_78_0 : ckr 0 57 in_78 prog_10_method_4_code = true := by decide +kernel
theorem io_78 : ioP 78 := io_of 57 (f := in_78) (cc := prog_10_method_4_code) rfl rfl rfl (ckr_up (a := 0) ckr_0 ch_78_0 (rfl : 0 + 57 = 57))
theorem ch_79_0 : ckr 0 12 in_79 prog_10_method_3_code = true := by decide +kernel
theorem io_79 : ioP 79 := io_of 12 (f := in_79) (cc := prog_10_method_3_code) rfl rfl rfl (ckr_up (a := 0) ckr_0 ch_79_0 (rfl : 0 + 12 = 12))
theorem ch_80_0 : ckr 0 28 in_80 prog_10_method_5_code = true := by decide +kernel
theorem io_80 : ioP 80 := io_of 28 (f := in_80) (cc := prog_10_method_5_code) rfl rfl rfl (ckr_up (a := 0) ckr_0 ch_80_0 (rfl : 0 + 28 = 28))
theorem ch_81_0 : ckr 0 50 in_81 prog_1_method_19_code = true := by decide +kernel
theorem io_81 : ioP 81 := io_of 50 (f := in_81) (cc := prog_1_method_19_code) rfl rfl rfl (ckr_up (a := 0) ckr_0 ch_81_0 (rfl : 0 + 50 = 50))
theorem ch_82_0 : ckr 0 64 in_82 prog_1_method_20_code = true := by decide +kernel
theorem ch_82_1 : ckr 64 64 in_82 prog_1_method_20_code = true := by decide +kernel
theorem ch_82_2 : ckr 128 3 in_82 prog_1_method_20_code = true := by decide +kernel
theorem io_82 : ioP 82 := io_of 131 (f := in_82) (cc := prog_1_method_20_code) rfl rfl rfl (ckr_up (a := 128) (ckr_up (a := 64) (ckr_up (a := 0) ckr_0 ch_82_0 (rfl : 0 + 64 = 64)) ch_82_1 (rfl : 64 + 64 = 128)) ch_82_2 (rfl : 128 + 3 = 131))
theorem ch_83_0 : ckr 0 64 in_83 prog_6_method_9_code = true := by decide +kernel
theorem ch_83_1 : ckr 64 47 in_83 prog_6_method_9_code = true := by decide +kernel
theorem io_83 : ioP 83 := io_of 111 (f := in_83) (cc := prog_6_method_9_code) rfl rfl rfl (ckr_up (a := 64) (ckr_up (a := 0) ckr_0 ch_83_0 (rfl : 0 + 64 = 64)) ch_83_1 (rfl : 64 + 47 = 111))
