theorem ch_84_0 : ckr 0 16 in_84 prog_10_method_6_code = true := by decide +kernel
theorem io_84 : ioP 84 := io_of 16 (f := in_84) (cc := prog_10_method_6_code) rfl rfl rfl (ckr_up (a := 0) ckr_0 ch_84_0 (rfl : 0 + 16 = 16))
theorem ch_85_0 : ckr 0 34 in_85 prog_1_method_21_code = true := by decide +kernel
theorem io_85 : ioP 85 := io_of 34 (f := in_85) (cc := prog_1_method_21_code) rfl rfl rfl (ckr_up (a := 0) ckr_0 ch_85_0 (rfl : 0 + 34 = 34))
theorem ch_86_0 : ckr 0 64 in_86 prog_9_method_2_code = true := by decide +kernel
theorem ch_86_1 : ckr 64 7 in_86 prog_9_method_2_code = true := by decide +kernel
theorem io_86 : ioP 86 := io_of 71 (f := in_86) (cc := prog_9_method_2_code) rfl rfl rfl (ckr_up (a := 64) (ckr_up (a := 0) ckr_0 ch_86_0 (rfl : 0 + 64 = 64)) ch_86_1 (rfl : 64 + 7 = 71))
theorem ch_87_0 : ckr 0 64 in_87 prog_9_method_3_code = true := by decide +kernel
theorem ch_87_1 : ckr 64 35 in_87 prog_9_method_3_code = true := by decide +kernel
theorem io_87 : ioP 87 := io_of 99 (f := in_87) (cc := prog_9_method_3_code) rfl rfl rfl (ckr_up (a := 64) (ckr_up (a := 0) ckr_0 ch_87_0 (rfl : 0 + 64 = 64)) ch_87_1 (rfl : 64 + 35 = 99))
theorem ch_88_0 : ckr 0 20 in_88 prog_8_method_4_code = true := by decide +kernel
theorem io_88 : ioP 88 := io_of 20 (f := in_88) (cc := prog_8_method_4_code) rfl rfl rfl (ckr_up (a := 0) ckr_0 ch_88_0 (rfl : 0 + 20 = 20))
theorem ch_89_0 : ckr 0 28 in_89 prog_8_method_5_code = true := by decide +kernel
theorem io_89 : ioP 89 := io_of 28 (f := in_89) (cc := prog_8_method_5_code) rfl rfl rfl (ckr_up (a := 0) ckr_0 ch_89_0 (rfl : 0 + 28 = 28))
theorem ch_90_0 : ckr 0 64 in_90 prog_9_method_4_code = true := by decide +kernel
theorem ch_90_1 : ckr 64 51 in_90 prog_9_method_4_code = true := by decide +kernel
theorem io_90 : ioP 90 := io_of 115 (f := in_90) (cc := prog_9_method_4_code) rfl rfl rfl (ckr_up (a := 64) (ckr_up (a := 0) ckr_0 ch_90_0 (rfl : 0 + 64 = 64)) ch_90_1 (rfl : 64 + 51 = 115))
theorem ch_91_0 : ckr 0 64 in_91 prog_9_method_5_code = true := by decide +kernel
theorem ch_91_1 : ckr 64 64 in_91 prog_9_method_5_code = true := by decide +kernel
theorem ch_91_2 : ckr 128 17 in_91 prog_9_method_5_code = true := by decide +kernel
theorem io_91 : ioP 91 := io_of 145 (f := in_91) (cc := prog_9_method_5_code) rfl rfl rfl (ckr_up (a := 128) (ckr_up (a := 64) (ckr_up (a := 0) ckr_0 ch_91_0 (rfl : 0 + 64 = 64)) ch_91_1 (rfl : 64 + 64 = 128)) ch_91_2 (rfl : 128 + 17 = 145))
theorem ch_92_0 : ckr 0 35 in_92 prog_9_method_6_code = true := by decide +kernel
theorem io_92 : ioP 92 := io_of 35 (f := in_92) (cc := prog_9_method_6_code) rfl rfl rfl (ckr_up (a := 0) ckr_0 ch_92_0 (rfl : 0 + 35 = 35))
theorem ch_93_0 : ckr 0 32 in_93 prog_9_method_7_code = true := by decide +kernel
theorem io_93 : ioP 93 := io_of 32 (f := in_93) (cc := prog_9_method_7_code) rfl rfl rfl (ckr_up (a := 0) ckr_0 ch_93_0 (rfl : 0 + 32 = 32))
theorem ch_94_0 : ckr 0 46 in_94 prog_6_method_10_code = true := by decide +kernel
theorem io_94 : ioP 94 := io_of 46 (f := in_94) (cc := prog_6_method_10_code) rfl rfl rfl (ckr_up (a := 0) ckr_0 ch_94_0 (rfl : 0 + 46 = 46))
theorem ch_95_0 : ckr 0 64 in_95 prog_1_method_22_code = true := by decide +kernel
theorem ch_95_1 : ckr 64 14 in_95 prog_1_method_22_code = true := by decide +kernel
theorem io_95 : ioP 95 := io_of 78 (f := in_95) (cc := prog_1_method_22_code) rfl rfl rfl (ckr_up (a := 64) (ckr_up (a := 0) ckr_0 ch_95_0 (rfl : 0 + 64 = 64)) ch_95_1 (rfl : 64 + 14 = 78))
