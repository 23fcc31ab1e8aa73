theorem ch_36_0 : ckr 0 49 in_36 prog_8_method_2_code = true := by decide +kernel
theorem io_36 : ioP 36 := io_of 49 (f := in_36) (cc := prog_8_method_2_code) rfl rfl rfl (ckr_up (a := 0) ckr_0 ch_36_0 (rfl : 0 + 49 = 49))
theorem ch_37_0 : ckr 0 64 in_37 prog_8_method_7_code = true := by decide +kernel
theorem ch_37_1 : ckr 64 64 in_37 prog_8_method_7_code = true := by decide +kernel
theorem ch_37_2 : ckr 128 8 in_37 prog_8_method_7_code = true := by decide +kernel
theorem io_37 : ioP 37 := io_of 136 (f := in_37) (cc := prog_8_method_7_code) rfl rfl rfl (ckr_up (a := 128) (ckr_up (a := 64) (ckr_up (a := 0) ckr_0 ch_37_0 (rfl : 0 + 64 = 64)) ch_37_1 (rfl : 64 + 64 = 128)) ch_37_2 (rfl : 128 + 8 = 136))
theorem ch_38_0 : ckr 0 21 in_38 prog_16_method_103_code = true := by decide +kernel
theorem io_38 : ioP 38 := io_of 21 (f := in_38) (cc := prog_16_method_103_code) rfl rfl rfl (ckr_up (a := 0) ckr_0 ch_38_0 (rfl : 0 + 21 = 21))
theorem ch_39_0 : ckr 0 6 in_39 prog_2_method_2_code = true := by decide +kernel
theorem io_39 : ioP 39 := io_of 6 (f := in_39) (cc := prog_2_method_2_code) rfl rfl rfl (ckr_up (a := 0) ckr_0 ch_39_0 (rfl : 0 + 6 = 6))
theorem ch_40_0 : ckr 0 64 in_40 prog_2_method_3_code = true := by decide +kernel
theorem ch_40_1 : ckr 64 64 in_40 prog_2_method_3_code = true := by decide +kernel
theorem ch_40_2 : ckr 128 40 in_40 prog_2_method_3_code = true := by decide +kernel
theorem io_40 : ioP 40 := io_of 168 (f := in_40) (cc := prog_2_method_3_code) rfl rfl rfl (ckr_up (a := 128) (ckr_up (a := 64) (ckr_up (a := 0) ckr_0 ch_40_0 (rfl : 0 + 64 = 64)) ch_40_1 (rfl : 64 + 64 = 128)) ch_40_2 (rfl : 128 + 40 = 168))
theorem ch_41_0 : ckr 0 6 in_41 prog_1_method_39_code = true := by decide +kernel
theorem io_41 : ioP 41 := io_of 6 (f := in_41) (cc := prog_1_method_39_code) rfl rfl rfl (ckr_up (a := 0) ckr_0 ch_41_0 (rfl : 0 + 6 = 6))
theorem ch_42_0 : ckr 0 5 in_42 prog_1_method_40_code = true := by decide +kernel
theorem io_42 : ioP 42 := io_of 5 (f := in_42) (cc := prog_1_method_40_code) rfl rfl rfl (ckr_up (a := 0) ckr_0 ch_42_0 (rfl : 0 + 5 = 5))
theorem ch_43_0 : ckr 0 64 in_43 prog_8_method_8_code = true := by decide +kernel
theorem ch_43_1 : ckr 64 64 in_43 prog_8_method_8_code = true := by decide +kernel
theorem ch_43_2 : ckr 128 8 in_43 prog_8_method_8_code = true := by decide +kernel
theorem io_43 : ioP 43 := io_of 136 (f := in_43) (cc := prog_8_method_8_code) rfl rfl rfl (ckr_up (a := 128) (ckr_up (a := 64) (ckr_up (a := 0) ckr_0 ch_43_0 (rfl : 0 + 64 = 64)) ch_43_1 (rfl : 64 + 64 = 128)) ch_43_2 (rfl : 128 + 8 = 136))
theorem ch_44_0 : ckr 0 14 in_44 prog_8_method_9_code = true := by decide +kernel
theorem io_44 : ioP 44 := io_of 14 (f := in_44) (cc := prog_8_method_9_code) rfl rfl rfl (ckr_up (a := 0) ckr_0 ch_44_0 (rfl : 0 + 14 = 14))
theorem ch_45_0 : ckr 0 36 in_45 prog_8_method_12_code = true := by decide +kernel
theorem io_45 : ioP 45 := io_of 36 (f := in_45) (cc := prog_8_method_12_code) rfl rfl rfl (ckr_up (a := 0) ckr_0 ch_45_0 (rfl : 0 + 36 = 36))
theorem ch_46_0 : ckr 0 44 in_46 prog_8_method_10_code = true := by decide +kernel
theorem io_46 : ioP 46 := io_of 44 (f := in_46) (cc := prog_8_method_10_code) rfl rfl rfl (ckr_up (a := 0) ckr_0 ch_46_0 (rfl : 0 + 44 = 44))
theorem ch_47_0 : ckr 0 64 in_47 prog_8_method_11_code = true := by decide +kernel
theorem ch_47_1 : ckr 64 64 in_47 prog_8_method_11_code = true := by decide +kernel
theorem ch_47_2 : ckr 128 64 in_47 prog_8_method_11_code = true := by decide +kernel
theorem ch_47_3 : ckr 192 64 in_47 prog_8_method_11_code = true := by decide +kernel
theorem ch_47_4 : ckr 256 40 in_47 prog_8_method_11_code = true := by decide +kernel
theorem io_47 : ioP 47 := io_of 296 (f := in_47) (cc := prog_8_method_11_code) rfl rfl rfl (ckr_up (a := 256) (ckr_up (a := 192) (ckr_up (a := 128) (ckr_up (a := 64) (ckr_up (a := 0) ckr_0 ch_47_0 (rfl : 0 + 64 = 64)) ch_47_1 (rfl : 64 + 64 = 128)) ch_47_2 (rfl : 128 + 64 = 192)) ch_47_3 (rfl : 192 + 64 = 256)) ch_47_4 (rfl : 256 + 40 = 296))
