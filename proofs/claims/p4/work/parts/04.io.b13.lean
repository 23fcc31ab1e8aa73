theorem ch_156_0 : ckr 0 64 in_156 prog_12_method_32_code = true := by decide +kernel
theorem ch_156_1 : ckr 64 21 in_156 prog_12_method_32_code = true := by decide +kernel
theorem io_156 : ioP 156 := io_of 85 (f := in_156) (cc := prog_12_method_32_code) rfl rfl rfl (ckr_up (a := 64) (ckr_up (a := 0) ckr_0 ch_156_0 (rfl : 0 + 64 = 64)) ch_156_1 (rfl : 64 + 21 = 85))
theorem ch_157_0 : ckr 0 59 in_157 prog_12_method_30_code = true := by decide +kernel
theorem io_157 : ioP 157 := io_of 59 (f := in_157) (cc := prog_12_method_30_code) rfl rfl rfl (ckr_up (a := 0) ckr_0 ch_157_0 (rfl : 0 + 59 = 59))
theorem ch_158_0 : ckr 0 30 in_158 prog_12_method_31_code = true := by decide +kernel
theorem io_158 : ioP 158 := io_of 30 (f := in_158) (cc := prog_12_method_31_code) rfl rfl rfl (ckr_up (a := 0) ckr_0 ch_158_0 (rfl : 0 + 30 = 30))
theorem ch_159_0 : ckr 0 64 in_159 prog_12_method_33_code = true := by decide +kernel
theorem ch_159_1 : ckr 64 64 in_159 prog_12_method_33_code = true := by decide +kernel
theorem ch_159_2 : ckr 128 64 in_159 prog_12_method_33_code = true := by decide +kernel
theorem ch_159_3 : ckr 192 64 in_159 prog_12_method_33_code = true := by decide +kernel
theorem ch_159_4 : ckr 256 64 in_159 prog_12_method_33_code = true := by decide +kernel
theorem ch_159_5 : ckr 320 14 in_159 prog_12_method_33_code = true := by decide +kernel
theorem io_159 : ioP 159 := io_of 334 (f := in_159) (cc := prog_12_method_33_code) rfl rfl rfl (ckr_up (a := 320) (ckr_up (a := 256) (ckr_up (a := 192) (ckr_up (a := 128) (ckr_up (a := 64) (ckr_up (a := 0) ckr_0 ch_159_0 (rfl : 0 + 64 = 64)) ch_159_1 (rfl : 64 + 64 = 128)) ch_159_2 (rfl : 128 + 64 = 192)) ch_159_3 (rfl : 192 + 64 = 256)) ch_159_4 (rfl : 256 + 64 = 320)) ch_159_5 (rfl : 320 + 14 = 334))
theorem ch_160_0 : ckr 0 64 in_160 prog_12_method_34_code = true := by decide +kernel
theorem ch_160_1 : ckr 64 64 in_160 prog_12_method_34_code = true := by decide +kernel
theorem ch_160_2 : ckr 128 64 in_160 prog_12_method_34_code = true := by decide +kernel
theorem ch_160_3 : ckr 192 44 in_160 prog_12_method_34_code = true := by decide +kernel
theorem io_160 : ioP 160 := io_of 236 (f := in_160) (cc := prog_12_method_34_code) rfl rfl rfl (ckr_up (a := 192) (ckr_up (a := 128) (ckr_up (a := 64) (ckr_up (a := 0) ckr_0 ch_160_0 (rfl : 0 + 64 = 64)) ch_160_1 (rfl : 64 + 64 = 128)) ch_160_2 (rfl : 128 + 64 = 192)) ch_160_3 (rfl : 192 + 44 = 236))
theorem ch_161_0 : ckr 0 64 in_161 prog_12_method_35_code = true := by decide +kernel
theorem ch_161_1 : ckr 64 20 in_161 prog_12_method_35_code = true := by decide +kernel
theorem io_161 : ioP 161 := io_of 84 (f := in_161) (cc := prog_12_method_35_code) rfl rfl rfl (ckr_up (a := 64) (ckr_up (a := 0) ckr_0 ch_161_0 (rfl : 0 + 64 = 64)) ch_161_1 (rfl : 64 + 20 = 84))
theorem ch_162_0 : ckr 0 64 in_162 prog_12_method_36_code = true := by decide +kernel
theorem ch_162_1 : ckr 64 64 in_162 prog_12_method_36_code = true := by decide +kernel
theorem ch_162_2 : ckr 128 12 in_162 prog_12_method_36_code = true := by decide +kernel
theorem io_162 : ioP 162 := io_of 140 (f := in_162) (cc := prog_12_method_36_code) rfl rfl rfl (ckr_up (a := 128) (ckr_up (a := 64) (ckr_up (a := 0) ckr_0 ch_162_0 (rfl : 0 + 64 = 64)) ch_162_1 (rfl : 64 + 64 = 128)) ch_162_2 (rfl : 128 + 12 = 140))
theorem ch_163_0 : ckr 0 43 in_163 prog_12_method_37_code = true := by decide +kernel
theorem io_163 : ioP 163 := io_of 43 (f := in_163) (cc := prog_12_method_37_code) rfl rfl rfl (ckr_up (a := 0) ckr_0 ch_163_0 (rfl : 0 + 43 = 43))
theorem ch_164_0 : ckr 0 64 in_164 prog_12_method_38_code = true := by decide +kernel
theorem ch_164_1 : ckr 64 64 in_164 prog_12_method_38_code = true := by decide +kernel
theorem ch_164_2 : ckr 128 64 in_164 prog_12_method_38_code = true := by decide +kernel
theorem ch_164_3 : ckr 192 35 in_164 prog_12_method_38_code = true := by decide +kernel
theorem io_164 : ioP 164 := io_of 227 (f := in_164) (cc := prog_12_method_38_code) rfl rfl rfl (ckr_up (a := 192) (ckr_up (a := 128) (ckr_up (a := 64) (ckr_up (a := 0) ckr_0 ch_164_0 (rfl : 0 + 64 = 64)) ch_164_1 (rfl : 64 + 64 = 128)) ch_164_2 (rfl : 128 + 64 = 192)) ch_164_3 (rfl : 192 + 35 = 227))
theorem ch_165_0 : ckr 0 64 in_165 prog_12_method_45_code = true := by decide +kernel
theorem ch_165_1 : ckr 64 21 in_165 prog_12_method_45_code = true := by decide +kernel
theorem io_165 : ioP 165 := io_of 85 (f := in_165) (cc := prog_12_method_45_code) rfl rfl rfl (ckr_up (a := 64) (ckr_up (a := 0) ckr_0 ch_165_0 (rfl : 0 + 64 = 64)) ch_165_1 (rfl : 64 + 21 = 85))
theorem ch_166_0 : ckr 0 64 in_166 prog_12_method_39_code = true := by decide +kernel
theorem ch_166_1 : ckr 64 19 in_166 prog_12_method_39_code = true := by decide +kernel
theorem io_166 : ioP 166 := io_of 83 (f := in_166) (cc := prog_12_method_39_code) rfl rfl rfl (ckr_up (a := 64) (ckr_up (a := 0) ckr_0 ch_166_0 (rfl : 0 + 64 = 64)) ch_166_1 (rfl : 64 + 19 = 83))
theorem ch_167_0 : ckr 0 64 in_167 prog_12_method_44_code = true := by decide +kernel
theorem ch_167_1 : ckr 64 64 in_167 prog_12_method_44_code = true := by decide +kernel
theorem ch_167_2 : ckr 128 6 in_167 prog_12_method_44_code = true := by decide +kernel
theorem io_167 : ioP 167 := io_of 134 (f := in_167) (cc := prog_12_method_44_code) rfl rfl rfl (ckr_up (a := 128) (ckr_up (a := 64) (ckr_up (a := 0) ckr_0 ch_167_0 (rfl : 0 + 64 = 64)) ch_167_1 (rfl : 64 + 64 = 128)) ch_167_2 (rfl : 128 + 6 = 134))
