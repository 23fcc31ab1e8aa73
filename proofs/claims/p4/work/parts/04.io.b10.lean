theorem ch_120_0 : ckr 0 64 in_120 prog_1_method_32_code = true := by decide +kernel
theorem ch_120_1 : ckr 64 15 in_120 prog_1_method_32_code = true := by decide +kernel
theorem io_120 : ioP 120 := io_of 79 (f := in_120) (cc := prog_1_method_32_code) rfl rfl rfl (ckr_up (a := 64) (ckr_up (a := 0) ckr_0 ch_120_0 (rfl : 0 + 64 = 64)) ch_120_1 (rfl : 64 + 15 = 79))
theorem ch_121_0 : ckr 0 56 in_121 prog_1_method_33_code = true := by decide +kernel
theorem io_121 : ioP 121 := io_of 56 (f := in_121) (cc := prog_1_method_33_code) rfl rfl rfl (ckr_up (a := 0) ckr_0 ch_121_0 (rfl : 0 + 56 = 56))
theorem ch_122_0 : ckr 0 11 in_122 prog_14_method_65_code = true := by decide +kernel
theorem io_122 : ioP 122 := io_of 11 (f := in_122) (cc := prog_14_method_65_code) rfl rfl rfl (ckr_up (a := 0) ckr_0 ch_122_0 (rfl : 0 + 11 = 11))
theorem ch_123_0 : ckr 0 64 in_123 prog_1_method_29_code = true := by decide +kernel
theorem ch_123_1 : ckr 64 55 in_123 prog_1_method_29_code = true := by decide +kernel
theorem io_123 : ioP 123 := io_of 119 (f := in_123) (cc := prog_1_method_29_code) rfl rfl rfl (ckr_up (a := 64) (ckr_up (a := 0) ckr_0 ch_123_0 (rfl : 0 + 64 = 64)) ch_123_1 (rfl : 64 + 55 = 119))
theorem ch_124_0 : ckr 0 29 in_124 prog_3_method_6_code = true := by decide +kernel
theorem io_124 : ioP 124 := io_of 29 (f := in_124) (cc := prog_3_method_6_code) rfl rfl rfl (ckr_up (a := 0) ckr_0 ch_124_0 (rfl : 0 + 29 = 29))
theorem ch_125_0 : ckr 0 37 in_125 prog_3_method_5_code = true := by decide +kernel
theorem io_125 : ioP 125 := io_of 37 (f := in_125) (cc := prog_3_method_5_code) rfl rfl rfl (ckr_up (a := 0) ckr_0 ch_125_0 (rfl : 0 + 37 = 37))
theorem ch_126_0 : ckr 0 34 in_126 prog_8_method_6_code = true := by decide +kernel
theorem io_126 : ioP 126 := io_of 34 (f := in_126) (cc := prog_8_method_6_code) rfl rfl rfl (ckr_up (a := 0) ckr_0 ch_126_0 (rfl : 0 + 34 = 34))
theorem ch_127_0 : ckr 0 64 in_127 prog_12_method_1_code = true := by decide +kernel
theorem ch_127_1 : ckr 64 64 in_127 prog_12_method_1_code = true := by decide +kernel
theorem ch_127_2 : ckr 128 64 in_127 prog_12_method_1_code = true := by decide +kernel
theorem ch_127_3 : ckr 192 64 in_127 prog_12_method_1_code = true := by decide +kernel
theorem ch_127_4 : ckr 256 64 in_127 prog_12_method_1_code = true := by decide +kernel
theorem ch_127_5 : ckr 320 64 in_127 prog_12_method_1_code = true := by decide +kernel
theorem ch_127_6 : ckr 384 10 in_127 prog_12_method_1_code = true := by decide +kernel
theorem io_127 : ioP 127 := io_of 394 (f := in_127) (cc := prog_12_method_1_code) rfl rfl rfl (ckr_up (a := 384) (ckr_up (a := 320) (ckr_up (a := 256) (ckr_up (a := 192) (ckr_up (a := 128) (ckr_up (a := 64) (ckr_up (a := 0) ckr_0 ch_127_0 (rfl : 0 + 64 = 64)) ch_127_1 (rfl : 64 + 64 = 128)) ch_127_2 (rfl : 128 + 64 = 192)) ch_127_3 (rfl : 192 + 64 = 256)) ch_127_4 (rfl : 256 + 64 = 320)) ch_127_5 (rfl : 320 + 64 = 384)) ch_127_6 (rfl : 384 + 10 = 394))
theorem ch_128_0 : ckr 0 56 in_128 prog_12_method_8_code = true := by decide +kernel
theorem io_128 : ioP 128 := io_of 56 (f := in_128) (cc := prog_12_method_8_code) rfl rfl rfl (ckr_up (a := 0) ckr_0 ch_128_0 (rfl : 0 + 56 = 56))
theorem ch_129_0 : ckr 0 7 in_129 prog_12_method_3_code = true := by decide +kernel
theorem io_129 : ioP 129 := io_of 7 (f := in_129) (cc := prog_12_method_3_code) rfl rfl rfl (ckr_up (a := 0) ckr_0 ch_129_0 (rfl : 0 + 7 = 7))
theorem ch_130_0 : ckr 0 16 in_130 prog_12_method_2_code = true := by decide +kernel
theorem io_130 : ioP 130 := io_of 16 (f := in_130) (cc := prog_12_method_2_code) rfl rfl rfl (ckr_up (a := 0) ckr_0 ch_130_0 (rfl : 0 + 16 = 16))
theorem ch_131_0 : ckr 0 28 in_131 prog_12_method_7_code = true := by decide +kernel
theorem io_131 : ioP 131 := io_of 28 (f := in_131) (cc := prog_12_method_7_code) rfl rfl rfl (ckr_up (a := 0) ckr_0 ch_131_0 (rfl : 0 + 28 = 28))
