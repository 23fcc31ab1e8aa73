theorem ch_144_0 : ckr 0 64 in_144 prog_12_method_18_code = true := by decide +kernel
theorem ch_144_1 : ckr 64 33 in_144 prog_12_method_18_code = true := by decide +kernel
theorem io_144 : ioP 144 := io_of 97 (f := in_144) (cc := prog_12_method_18_code) rfl rfl rfl (ckr_up (a := 64) (ckr_up (a := 0) ckr_0 ch_144_0 (rfl : 0 + 64 = 64)) ch_144_1 (rfl : 64 + 33 = 97))
theorem ch_145_0 : ckr 0 64 in_145 prog_12_method_25_code = true := by decide +kernel
theorem ch_145_1 : ckr 64 64 in_145 prog_12_method_25_code = true := by decide +kernel
theorem ch_145_2 : ckr 128 64 in_145 prog_12_method_25_code = true := by decide +kernel
theorem ch_145_3 : ckr 192 7 in_145 prog_12_method_25_code = true := by decide +kernel
theorem io_145 : ioP 145 := io_of 199 (f := in_145) (cc := prog_12_method_25_code) rfl rfl rfl (ckr_up (a := 192) (ckr_up (a := 128) (ckr_up (a := 64) (ckr_up (a := 0) ckr_0 ch_145_0 (rfl : 0 + 64 = 64)) ch_145_1 (rfl : 64 + 64 = 128)) ch_145_2 (rfl : 128 + 64 = 192)) ch_145_3 (rfl : 192 + 7 = 199))
theorem ch_146_0 : ckr 0 64 in_146 prog_12_method_19_code = true := by decide +kernel
theorem ch_146_1 : ckr 64 64 in_146 prog_12_method_19_code = true := by decide +kernel
theorem ch_146_2 : ckr 128 64 in_146 prog_12_method_19_code = true := by decide +kernel
theorem ch_146_3 : ckr 192 11 in_146 prog_12_method_19_code = true := by decide +kernel
theorem io_146 : ioP 146 := io_of 203 (f := in_146) (cc := prog_12_method_19_code) rfl rfl rfl (ckr_up (a := 192) (ckr_up (a := 128) (ckr_up (a := 64) (ckr_up (a := 0) ckr_0 ch_146_0 (rfl : 0 + 64 = 64)) ch_146_1 (rfl : 64 + 64 = 128)) ch_146_2 (rfl : 128 + 64 = 192)) ch_146_3 (rfl : 192 + 11 = 203))
theorem ch_147_0 : ckr 0 64 in_147 prog_12_method_20_code = true := by decide +kernel
theorem ch_147_1 : ckr 64 64 in_147 prog_12_method_20_code = true := by decide +kernel
theorem ch_147_2 : ckr 128 64 in_147 prog_12_method_20_code = true := by decide +kernel
theorem ch_147_3 : ckr 192 64 in_147 prog_12_method_20_code = true := by decide +kernel
theorem ch_147_4 : ckr 256 28 in_147 prog_12_method_20_code = true := by decide +kernel
theorem io_147 : ioP 147 := io_of 284 (f := in_147) (cc := prog_12_method_20_code) rfl rfl rfl (ckr_up (a := 256) (ckr_up (a := 192) (ckr_up (a := 128) (ckr_up (a := 64) (ckr_up (a := 0) ckr_0 ch_147_0 (rfl : 0 + 64 = 64)) ch_147_1 (rfl : 64 + 64 = 128)) ch_147_2 (rfl : 128 + 64 = 192)) ch_147_3 (rfl : 192 + 64 = 256)) ch_147_4 (rfl : 256 + 28 = 284))
theorem ch_148_0 : ckr 0 64 in_148 prog_12_method_23_code = true := by decide +kernel
theorem ch_148_1 : ckr 64 64 in_148 prog_12_method_23_code = true := by decide +kernel
theorem ch_148_2 : ckr 128 64 in_148 prog_12_method_23_code = true := by decide +kernel
theorem ch_148_3 : ckr 192 64 in_148 prog_12_method_23_code = true := by decide +kernel
theorem ch_148_4 : ckr 256 64 in_148 prog_12_method_23_code = true := by decide +kernel
theorem ch_148_5 : ckr 320 43 in_148 prog_12_method_23_code = true := by decide +kernel
theorem io_148 : ioP 148 := io_of 363 (f := in_148) (cc := prog_12_method_23_code) rfl rfl rfl (ckr_up (a := 320) (ckr_up (a := 256) (ckr_up (a := 192) (ckr_up (a := 128) (ckr_up (a := 64) (ckr_up (a := 0) ckr_0 ch_148_0 (rfl : 0 + 64 = 64)) ch_148_1 (rfl : 64 + 64 = 128)) ch_148_2 (rfl : 128 + 64 = 192)) ch_148_3 (rfl : 192 + 64 = 256)) ch_148_4 (rfl : 256 + 64 = 320)) ch_148_5 (rfl : 320 + 43 = 363))
theorem ch_149_0 : ckr 0 40 in_149 prog_12_method_22_code = true := by decide +kernel
theorem io_149 : ioP 149 := io_of 40 (f := in_149) (cc := prog_12_method_22_code) rfl rfl rfl (ckr_up (a := 0) ckr_0 ch_149_0 (rfl : 0 + 40 = 40))
theorem ch_150_0 : ckr 0 31 in_150 prog_12_method_24_code = true := by decide +kernel
theorem io_150 : ioP 150 := io_of 31 (f := in_150) (cc := prog_12_method_24_code) rfl rfl rfl (ckr_up (a := 0) ckr_0 ch_150_0 (rfl : 0 + 31 = 31))
theorem ch_151_0 : ckr 0 39 in_151 prog_12_method_21_code = true := by decide +kernel
theorem io_151 : ioP 151 := io_of 39 (f := in_151) (cc := prog_12_method_21_code) rfl rfl rfl (ckr_up (a := 0) ckr_0 ch_151_0 (rfl : 0 + 39 = 39))
theorem ch_152_0 : ckr 0 64 in_152 prog_12_method_26_code = true := by decide +kernel
theorem ch_152_1 : ckr 64 30 in_152 prog_12_method_26_code = true := by decide +kernel
theorem io_152 : ioP 152 := io_of 94 (f := in_152) (cc := prog_12_method_26_code) rfl rfl rfl (ckr_up (a := 64) (ckr_up (a := 0) ckr_0 ch_152_0 (rfl : 0 + 64 = 64)) ch_152_1 (rfl : 64 + 30 = 94))
theorem ch_153_0 : ckr 0 29 in_153 prog_12_method_27_code = true := by decide +kernel
theorem io_153 : ioP 153 := io_of 29 (f := in_153) (cc := prog_12_method_27_code) rfl rfl rfl (ckr_up (a := 0) ckr_0 ch_153_0 (rfl : 0 + 29 = 29))
theorem ch_154_0 : ckr 0 64 in_154 prog_12_method_28_code = true := by decide +kernel
theorem ch_154_1 : ckr 64 23 in_154 prog_12_method_28_code = true := by decide +kernel
theorem io_154 : ioP 154 := io_of 87 (f := in_154) (cc := prog_12_method_28_code) rfl rfl rfl (ckr_up (a := 64) (ckr_up (a := 0) ckr_0 ch_154_0 (rfl : 0 + 64 = 64)) ch_154_1 (rfl : 64 + 23 = 87))
theorem ch_155_0 : ckr 0 49 in_155 prog_12_method_29_code = true := by decide +kernel
theorem io_155 : ioP 155 := io_of 49 (f := in_155) (cc := prog_12_method_29_code) rfl rfl rfl (ckr_up (a := 0) ckr_0 ch_155_0 (rfl : 0 + 49 = 49))
