theorem ch_168_0 : ckr 0 64 in_168 prog_12_method_42_code = true := by decide +kernel
theorem ch_168_1 : ckr 64 64 in_168 prog_12_method_42_code = true := by decide +kernel
theorem ch_168_2 : ckr 128 64 in_168 prog_12_method_42_code = true := by decide +kernel
theorem ch_168_3 : ckr 192 64 in_168 prog_12_method_42_code = true := by decide +kernel
theorem ch_168_4 : ckr 256 64 in_168 prog_12_method_42_code = true := by decide +kernel
theorem ch_168_5 : ckr 320 61 in_168 prog_12_method_42_code = true := by decide +kernel
theorem io_168 : ioP 168 := io_of 381 (f := in_168) (cc := prog_12_method_42_code) rfl rfl rfl (ckr_up (a := 320) (ckr_up (a := 256) (ckr_up (a := 192) (ckr_up (a := 128) (ckr_up (a := 64) (ckr_up (a := 0) ckr_0 ch_168_0 (rfl : 0 + 64 = 64)) ch_168_1 (rfl : 64 + 64 = 128)) ch_168_2 (rfl : 128 + 64 = 192)) ch_168_3 (rfl : 192 + 64 = 256)) ch_168_4 (rfl : 256 + 64 = 320)) ch_168_5 (rfl : 320 + 61 = 381))
theorem ch_169_0 : ckr 0 11 in_169 prog_12_method_40_code = true := by decide +kernel
theorem io_169 : ioP 169 := io_of 11 (f := in_169) (cc := prog_12_method_40_code) rfl rfl rfl (ckr_up (a := 0) ckr_0 ch_169_0 (rfl : 0 + 11 = 11))
theorem ch_170_0 : ckr 0 11 in_170 prog_12_method_41_code = true := by decide +kernel
theorem io_170 : ioP 170 := io_of 11 (f := in_170) (cc := prog_12_method_41_code) rfl rfl rfl (ckr_up (a := 0) ckr_0 ch_170_0 (rfl : 0 + 11 = 11))
theorem ch_171_0 : ckr 0 37 in_171 prog_12_method_43_code = true := by decide +kernel
theorem io_171 : ioP 171 := io_of 37 (f := in_171) (cc := prog_12_method_43_code) rfl rfl rfl (ckr_up (a := 0) ckr_0 ch_171_0 (rfl : 0 + 37 = 37))
theorem ch_172_0 : ckr 0 59 in_172 prog_12_method_46_code = true := by decide +kernel
theorem io_172 : ioP 172 := io_of 59 (f := in_172) (cc := prog_12_method_46_code) rfl rfl rfl (ckr_up (a := 0) ckr_0 ch_172_0 (rfl : 0 + 59 = 59))
theorem ch_173_0 : ckr 0 64 in_173 prog_12_method_47_code = true := by decide +kernel
theorem ch_173_1 : ckr 64 64 in_173 prog_12_method_47_code = true := by decide +kernel
theorem ch_173_2 : ckr 128 5 in_173 prog_12_method_47_code = true := by decide +kernel
theorem io_173 : ioP 173 := io_of 133 (f := in_173) (cc := prog_12_method_47_code) rfl rfl rfl (ckr_up (a := 128) (ckr_up (a := 64) (ckr_up (a := 0) ckr_0 ch_173_0 (rfl : 0 + 64 = 64)) ch_173_1 (rfl : 64 + 64 = 128)) ch_173_2 (rfl : 128 + 5 = 133))
theorem ch_174_0 : ckr 0 21 in_174 prog_12_method_48_code = true := by decide +kernel
theorem io_174 : ioP 174 := io_of 21 (f := in_174) (cc := prog_12_method_48_code) rfl rfl rfl (ckr_up (a := 0) ckr_0 ch_174_0 (rfl : 0 + 21 = 21))
theorem ch_175_0 : ckr 0 25 in_175 prog_12_method_49_code = true := by decide +kernel
theorem io_175 : ioP 175 := io_of 25 (f := in_175) (cc := prog_12_method_49_code) rfl rfl rfl (ckr_up (a := 0) ckr_0 ch_175_0 (rfl : 0 + 25 = 25))
theorem ch_176_0 : ckr 0 64 in_176 prog_12_method_52_code = true := by decide +kernel
theorem ch_176_1 : ckr 64 64 in_176 prog_12_method_52_code = true := by decide +kernel
theorem ch_176_2 : ckr 128 64 in_176 prog_12_method_52_code = true := by decide +kernel
theorem ch_176_3 : ckr 192 27 in_176 prog_12_method_52_code = true := by decide +kernel
theorem io_176 : ioP 176 := io_of 219 (f := in_176) (cc := prog_12_method_52_code) rfl rfl rfl (ckr_up (a := 192) (ckr_up (a := 128) (ckr_up (a := 64) (ckr_up (a := 0) ckr_0 ch_176_0 (rfl : 0 + 64 = 64)) ch_176_1 (rfl : 64 + 64 = 128)) ch_176_2 (rfl : 128 + 64 = 192)) ch_176_3 (rfl : 192 + 27 = 219))
theorem ch_177_0 : ckr 0 64 in_177 prog_12_method_50_code = true := by decide +kernel
theorem ch_177_1 : ckr 64 64 in_177 prog_12_method_50_code = true := by decide +kernel
theorem ch_177_2 : ckr 128 4 in_177 prog_12_method_50_code = true := by decide +kernel
theorem io_177 : ioP 177 := io_of 132 (f := in_177) (cc := prog_12_method_50_code) rfl rfl rfl (ckr_up (a := 128) (ckr_up (a := 64) (ckr_up (a := 0) ckr_0 ch_177_0 (rfl : 0 + 64 = 64)) ch_177_1 (rfl : 64 + 64 = 128)) ch_177_2 (rfl : 128 + 4 = 132))
theorem ch_178_0 : ckr 0 64 in_178 prog_12_method_51_code = true := by decide +kernel
theorem ch_178_1 : ckr 64 59 in_178 prog_12_method_51_code = true := by decide +kernel
theorem io_178 : ioP 178 := io_of 123 (f := in_178) (cc := prog_12_method_51_code) rfl rfl rfl (ckr_up (a := 64) (ckr_up (a := 0) ckr_0 ch_178_0 (rfl : 0 + 64 = 64)) ch_178_1 (rfl : 64 + 59 = 123))
theorem ch_179_0 : ckr 0 45 in_179 prog_12_method_53_code = true := by decide +kernel
theorem io_179 : ioP 179 := io_of 45 (f := in_179) (cc := prog_12_method_53_code) rfl rfl rfl (ckr_up (a := 0) ckr_0 ch_179_0 (rfl : 0 + 45 = 45))
