theorem ch_180_0 : ckr 0 64 in_180 prog_12_method_54_code = true := by decide +kernel
theorem ch_180_1 : ckr 64 64 in_180 prog_12_method_54_code = true := by decide +kernel
theorem ch_180_2 : ckr 128 15 in_180 prog_12_method_54_code = true := by decide +kernel
theorem io_180 : ioP 180 := io_of 143 (f := in_180) (cc := prog_12_method_54_code) rfl rfl rfl (ckr_up (a := 128) (ckr_up (a := 64) (ckr_up (a := 0) ckr_0 ch_180_0 (rfl : 0 + 64 = 64)) ch_180_1 (rfl : 64 + 64 = 128)) ch_180_2 (rfl : 128 + 15 = 143))
theorem ch_181_0 : ckr 0 64 in_181 prog_12_method_55_code = true := by decide +kernel
theorem ch_181_1 : ckr 64 64 in_181 prog_12_method_55_code = true := by decide +kernel
theorem ch_181_2 : ckr 128 64 in_181 prog_12_method_55_code = true := by decide +kernel
theorem ch_181_3 : ckr 192 64 in_181 prog_12_method_55_code = true := by decide +kernel
theorem ch_181_4 : ckr 256 45 in_181 prog_12_method_55_code = true := by decide +kernel
theorem io_181 : ioP 181 := io_of 301 (f := in_181) (cc := prog_12_method_55_code) rfl rfl rfl (ckr_up (a := 256) (ckr_up (a := 192) (ckr_up (a := 128) (ckr_up (a := 64) (ckr_up (a := 0) ckr_0 ch_181_0 (rfl : 0 + 64 = 64)) ch_181_1 (rfl : 64 + 64 = 128)) ch_181_2 (rfl : 128 + 64 = 192)) ch_181_3 (rfl : 192 + 64 = 256)) ch_181_4 (rfl : 256 + 45 = 301))
theorem ch_182_0 : ckr 0 64 in_182 prog_12_method_56_code = true := by decide +kernel
theorem ch_182_1 : ckr 64 64 in_182 prog_12_method_56_code = true := by decide +kernel
theorem ch_182_2 : ckr 128 64 in_182 prog_12_method_56_code = true := by decide +kernel
theorem ch_182_3 : ckr 192 64 in_182 prog_12_method_56_code = true := by decide +kernel
theorem ch_182_4 : ckr 256 1 in_182 prog_12_method_56_code = true := by decide +kernel
theorem io_182 : ioP 182 := io_of 257 (f := in_182) (cc := prog_12_method_56_code) rfl rfl rfl (ckr_up (a := 256) (ckr_up (a := 192) (ckr_up (a := 128) (ckr_up (a := 64) (ckr_up (a := 0) ckr_0 ch_182_0 (rfl : 0 + 64 = 64)) ch_182_1 (rfl : 64 + 64 = 128)) ch_182_2 (rfl : 128 + 64 = 192)) ch_182_3 (rfl : 192 + 64 = 256)) ch_182_4 (rfl : 256 + 1 = 257))
