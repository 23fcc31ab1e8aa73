theorem ch_132_0 : ckr 0 64 in_132 prog_12_method_6_code = true := by decide +kernel
theorem ch_132_1 : ckr 64 23 in_132 prog_12_method_6_code = true := by decide +kernel
theorem io_132 : ioP 132 := io_of 87 (f := in_132) (cc := prog_12_method_6_code) rfl rfl rfl (ckr_up (a := 64) (ckr_up (a := 0) ckr_0 ch_132_0 (rfl : 0 + 64 = 64)) ch_132_1 (rfl : 64 + 23 = 87))
theorem ch_133_0 : ckr 0 8 in_133 prog_12_method_5_code = true := by decide +kernel
theorem io_133 : ioP 133 := io_of 8 (f := in_133) (cc := prog_12_method_5_code) rfl rfl rfl (ckr_up (a := 0) ckr_0 ch_133_0 (rfl : 0 + 8 = 8))
theorem ch_134_0 : ckr 0 64 in_134 prog_12_method_9_code = true := by decide +kernel
theorem ch_134_1 : ckr 64 32 in_134 prog_12_method_9_code = true := by decide +kernel
theorem io_134 : ioP 134 := io_of 96 (f := in_134) (cc := prog_12_method_9_code) rfl rfl rfl (ckr_up (a := 64) (ckr_up (a := 0) ckr_0 ch_134_0 (rfl : 0 + 64 = 64)) ch_134_1 (rfl : 64 + 32 = 96))
theorem ch_135_0 : ckr 0 29 in_135 prog_12_method_4_code = true := by decide +kernel
theorem io_135 : ioP 135 := io_of 29 (f := in_135) (cc := prog_12_method_4_code) rfl rfl rfl (ckr_up (a := 0) ckr_0 ch_135_0 (rfl : 0 + 29 = 29))
theorem ch_136_0 : ckr 0 64 in_136 prog_12_method_12_code = true := by decide +kernel
theorem ch_136_1 : ckr 64 64 in_136 prog_12_method_12_code = true := by decide +kernel
theorem ch_136_2 : ckr 128 17 in_136 prog_12_method_12_code = true := by decide +kernel
theorem io_136 : ioP 136 := io_of 145 (f := in_136) (cc := prog_12_method_12_code) rfl rfl rfl (ckr_up (a := 128) (ckr_up (a := 64) (ckr_up (a := 0) ckr_0 ch_136_0 (rfl : 0 + 64 = 64)) ch_136_1 (rfl : 64 + 64 = 128)) ch_136_2 (rfl : 128 + 17 = 145))
theorem ch_137_0 : ckr 0 37 in_137 prog_12_method_10_code = true := by decide +kernel
theorem io_137 : ioP 137 := io_of 37 (f := in_137) (cc := prog_12_method_10_code) rfl rfl rfl (ckr_up (a := 0) ckr_0 ch_137_0 (rfl : 0 + 37 = 37))
theorem ch_138_0 : ckr 0 64 in_138 prog_12_method_11_code = true := by decide +kernel
theorem ch_138_1 : ckr 64 61 in_138 prog_12_method_11_code = true := by decide +kernel
theorem io_138 : ioP 138 := io_of 125 (f := in_138) (cc := prog_12_method_11_code) rfl rfl rfl (ckr_up (a := 64) (ckr_up (a := 0) ckr_0 ch_138_0 (rfl : 0 + 64 = 64)) ch_138_1 (rfl : 64 + 61 = 125))
theorem ch_139_0 : ckr 0 64 in_139 prog_12_method_13_code = true := by decide +kernel
theorem ch_139_1 : ckr 64 64 in_139 prog_12_method_13_code = true := by decide +kernel
theorem ch_139_2 : ckr 128 14 in_139 prog_12_method_13_code = true := by decide +kernel
theorem io_139 : ioP 139 := io_of 142 (f := in_139) (cc := prog_12_method_13_code) rfl rfl rfl (ckr_up (a := 128) (ckr_up (a := 64) (ckr_up (a := 0) ckr_0 ch_139_0 (rfl : 0 + 64 = 64)) ch_139_1 (rfl : 64 + 64 = 128)) ch_139_2 (rfl : 128 + 14 = 142))
theorem ch_140_0 : ckr 0 64 in_140 prog_12_method_14_code = true := by decide +kernel
theorem ch_140_1 : ckr 64 64 in_140 prog_12_method_14_code = true := by decide +kernel
theorem ch_140_2 : ckr 128 1 in_140 prog_12_method_14_code = true := by decide +kernel
theorem io_140 : ioP 140 := io_of 129 (f := in_140) (cc := prog_12_method_14_code) rfl rfl rfl (ckr_up (a := 128) (ckr_up (a := 64) (ckr_up (a := 0) ckr_0 ch_140_0 (rfl : 0 + 64 = 64)) ch_140_1 (rfl : 64 + 64 = 128)) ch_140_2 (rfl : 128 + 1 = 129))
theorem ch_141_0 : ckr 0 41 in_141 prog_12_method_15_code = true := by decide +kernel
theorem io_141 : ioP 141 := io_of 41 (f := in_141) (cc := prog_12_method_15_code) rfl rfl rfl (ckr_up (a := 0) ckr_0 ch_141_0 (rfl : 0 + 41 = 41))
theorem ch_142_0 : ckr 0 46 in_142 prog_12_method_16_code = true := by decide +kernel
theorem io_142 : ioP 142 := io_of 46 (f := in_142) (cc := prog_12_method_16_code) rfl rfl rfl (ckr_up (a := 0) ckr_0 ch_142_0 (rfl : 0 + 46 = 46))
theorem ch_143_0 : ckr 0 64 in_143 prog_12_method_17_code = true := by decide +kernel
theorem ch_143_1 : ckr 64 64 in_143 prog_12_method_17_code = true := by decide +kernel
theorem ch_143_2 : ckr 128 64 in_143 prog_12_method_17_code = true := by decide +kernel
theorem ch_143_3 : ckr 192 64 in_143 prog_12_method_17_code = true := by decide +kernel
theorem ch_143_4 : ckr 256 45 in_143 prog_12_method_17_code = true := by decide +kernel
theorem io_143 : ioP 143 := io_of 301 (f := in_143) (cc := prog_12_method_17_code) rfl rfl rfl (ckr_up (a := 256) (ckr_up (a := 192) (ckr_up (a := 128) (ckr_up (a := 64) (ckr_up (a := 0) ckr_0 ch_143_0 (rfl : 0 + 64 = 64)) ch_143_1 (rfl : 64 + 64 = 128)) ch_143_2 (rfl : 128 + 64 = 192)) ch_143_3 (rfl : 192 + 64 = 256)) ch_143_4 (rfl : 256 + 45 = 301))
