theorem ch_24_0 : ckr 0 31 in_24 prog_1_method_41_code = true := by decide +kernel
theorem io_24 : ioP 24 := io_of 31 (f := in_24) (cc := prog_1_method_41_code) rfl rfl rfl (ckr_up (a := 0) ckr_0 ch_24_0 (rfl : 0 + 31 = 31))
theorem ch_25_0 : ckr 0 5 in_25 prog_1_method_38_code = true := by decide +kernel
theorem io_25 : ioP 25 := io_of 5 (f := in_25) (cc := prog_1_method_38_code) rfl rfl rfl (ckr_up (a := 0) ckr_0 ch_25_0 (rfl : 0 + 5 = 5))
theorem ch_26_0 : ckr 0 11 in_26 prog_1_method_37_code = true := by decide +kernel
theorem io_26 : ioP 26 := io_of 11 (f := in_26) (cc := prog_1_method_37_code) rfl rfl rfl (ckr_up (a := 0) ckr_0 ch_26_0 (rfl : 0 + 11 = 11))
theorem ch_27_0 : ckr 0 29 in_27 prog_3_method_10_code = true := by decide +kernel
theorem io_27 : ioP 27 := io_of 29 (f := in_27) (cc := prog_3_method_10_code) rfl rfl rfl (ckr_up (a := 0) ckr_0 ch_27_0 (rfl : 0 + 29 = 29))
theorem ch_28_0 : ckr 0 39 in_28 prog_1_method_43_code = true := by decide +kernel
theorem io_28 : ioP 28 := io_of 39 (f := in_28) (cc := prog_1_method_43_code) rfl rfl rfl (ckr_up (a := 0) ckr_0 ch_28_0 (rfl : 0 + 39 = 39))
theorem ch_29_0 : ckr 0 55 in_29 prog_1_method_5_code = true := by decide +kernel
theorem io_29 : ioP 29 := io_of 55 (f := in_29) (cc := prog_1_method_5_code) rfl rfl rfl (ckr_up (a := 0) ckr_0 ch_29_0 (rfl : 0 + 55 = 55))
theorem ch_30_0 : ckr 0 64 in_30 prog_3_method_11_code = true := by decide +kernel
theorem ch_30_1 : ckr 64 22 in_30 prog_3_method_11_code = true := by decide +kernel
theorem io_30 : ioP 30 := io_of 86 (f := in_30) (cc := prog_3_method_11_code) rfl rfl rfl (ckr_up (a := 64) (ckr_up (a := 0) ckr_0 ch_30_0 (rfl : 0 + 64 = 64)) ch_30_1 (rfl : 64 + 22 = 86))
theorem ch_31_0 : ckr 0 64 in_31 prog_1_method_6_code = true := by decide +kernel
theorem ch_31_1 : ckr 64 2 in_31 prog_1_method_6_code = true := by decide +kernel
theorem io_31 : ioP 31 := io_of 66 (f := in_31) (cc := prog_1_method_6_code) rfl rfl rfl (ckr_up (a := 64) (ckr_up (a := 0) ckr_0 ch_31_0 (rfl : 0 + 64 = 64)) ch_31_1 (rfl : 64 + 2 = 66))
theorem ch_32_0 : ckr 0 32 in_32 prog_3_method_12_code = true := by decide +kernel
theorem io_32 : ioP 32 := io_of 32 (f := in_32) (cc := prog_3_method_12_code) rfl rfl rfl (ckr_up (a := 0) ckr_0 ch_32_0 (rfl : 0 + 32 = 32))
theorem ch_33_0 : ckr 0 64 in_33 prog_1_method_7_code = true := by decide +kernel
theorem ch_33_1 : ckr 64 44 in_33 prog_1_method_7_code = true := by decide +kernel
theorem io_33 : ioP 33 := io_of 108 (f := in_33) (cc := prog_1_method_7_code) rfl rfl rfl (ckr_up (a := 64) (ckr_up (a := 0) ckr_0 ch_33_0 (rfl : 0 + 64 = 64)) ch_33_1 (rfl : 64 + 44 = 108))
theorem ch_34_0 : ckr 0 17 in_34 prog_1_method_31_code = true := by decide +kernel
theorem io_34 : ioP 34 := io_of 17 (f := in_34) (cc := prog_1_method_31_code) rfl rfl rfl (ckr_up (a := 0) ckr_0 ch_34_0 (rfl : 0 + 17 = 17))
theorem ch_35_0 : ckr 0 32 in_35 prog_6_method_4_code = true := by decide +kernel
theorem io_35 : ioP 35 := io_of 32 (f := in_35) (cc := prog_6_method_4_code) rfl rfl rfl (ckr_up (a := 0) ckr_0 ch_35_0 (rfl : 0 + 32 = 32))
