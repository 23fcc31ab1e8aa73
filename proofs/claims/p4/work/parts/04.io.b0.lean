theorem ch_0_0 : ckr 0 64 in_0 code = true := by decide +kernel
theorem ch_0_1 : ckr 64 64 in_0 code = true := by decide +kernel
theorem ch_0_2 : ckr 128 64 in_0 code = true := by decide +kernel
theorem ch_0_3 : ckr 192 64 in_0 code = true := by decide +kernel
theorem ch_0_4 : ckr 256 64 in_0 code = true := by decide +kernel
theorem ch_0_5 : ckr 320 64 in_0 code = true := by decide +kernel
theorem ch_0_6 : ckr 384 64 in_0 code = true := by decide +kernel
theorem ch_0_7 : ckr 448 64 in_0 code = true := by decide +kernel
theorem ch_0_8 : ckr 512 64 in_0 code = true := by decide +kernel
theorem ch_0_9 : ckr 576 64 in_0 code = true := by decide +kernel
theorem ch_0_10 : ckr 640 64 in_0 code = true := by decide +kernel
theorem ch_0_11 : ckr 704 64 in_0 code = true := by decide +kernel
theorem ch_0_12 : ckr 768 64 in_0 code = true := by decide +kernel
theorem ch_0_13 : ckr 832 64 in_0 code = true := by decide +kernel
theorem ch_0_14 : ckr 896 64 in_0 code = true := by decide +kernel
theorem ch_0_15 : ckr 960 64 in_0 code = true := by decide +kernel
theorem ch_0_16 : ckr 1024 64 in_0 code = true := by decide +kernel
theorem ch_0_17 : ckr 1088 64 in_0 code = true := by decide +kernel
theorem ch_0_18 : ckr 1152 30 in_0 code = true := by decide +kernel
theorem io_0 : ioP 0 := io_of 1182 (f := in_0) (cc := code) rfl rfl rfl (ckr_up (a := 1152) (ckr_up (a := 1088) (ckr_up (a := 1024) (ckr_up (a := 960) (ckr_up (a := 896) (ckr_up (a := 832) (ckr_up (a := 768) (ckr_up (a := 704) (ckr_up (a := 640) (ckr_up (a := 576) (ckr_up (a := 512) (ckr_up (a := 448) (ckr_up (a := 384) (ckr_up (a := 320) (ckr_up (a := 256) (ckr_up (a := 192) (ckr_up (a := 128) (ckr_up (a := 64) (ckr_up (a := 0) ckr_0 ch_0_0 (rfl : 0 + 64 = 64)) ch_0_1 (rfl : 64 + 64 = 128)) ch_0_2 (rfl : 128 + 64 = 192)) ch_0_3 (rfl : 192 + 64 = 256)) ch_0_4 (rfl : 256 + 64 = 320)) ch_0_5 (rfl : 320 + 64 = 384)) ch_0_6 (rfl : 384 + 64 = 448)) ch_0_7 (rfl : 448 + 64 = 512)) ch_0_8 (rfl : 512 + 64 = 576)) ch_0_9 (rfl : 576 + 64 = 640)) ch_0_10 (rfl : 640 + 64 = 704)) ch_0_11 (rfl : 704 + 64 = 768)) ch_0_12 (rfl : 768 + 64 = 832)) ch_0_13 (rfl : 832 + 64 = 896)) ch_0_14 (rfl : 896 + 64 = 960)) ch_0_15 (rfl : 960 + 64 = 1024)) ch_0_16 (rfl : 1024 + 64 = 1088)) ch_0_17 (rfl : 1088 + 64 = 1152)) ch_0_18 (rfl : 1152 + 30 = 1182))
theorem ch_1_0 : ckr 0 64 in_1 prog_1_method_1_code = true := by decide +kernel
theorem ch_1_1 : ckr 64 27 in_1 prog_1_method_1_code = true := by decide +kernel
theorem io_1 : ioP 1 := io_of 91 (f := in_1) (cc := prog_1_method_1_code) rfl rfl rfl (ckr_up (a := 64) (ckr_up (a := 0) ckr_0 ch_1_0 (rfl : 0 + 64 = 64)) ch_1_1 (rfl : 64 + 27 = 91))
theorem ch_2_0 : ckr 0 37 in_2 prog_9_method_1_code = true := by decide +kernel
theorem io_2 : ioP 2 := io_of 37 (f := in_2) (cc := prog_9_method_1_code) rfl rfl rfl (ckr_up (a := 0) ckr_0 ch_2_0 (rfl : 0 + 37 = 37))
theorem ch_3_0 : ckr 0 13 in_3 prog_4_method_1_code = true := by decide +kernel
theorem io_3 : ioP 3 := io_of 13 (f := in_3) (cc := prog_4_method_1_code) rfl rfl rfl (ckr_up (a := 0) ckr_0 ch_3_0 (rfl : 0 + 13 = 13))
theorem ch_4_0 : ckr 0 40 in_4 prog_5_method_1_code = true := by decide +kernel
theorem io_4 : ioP 4 := io_of 40 (f := in_4) (cc := prog_5_method_1_code) rfl rfl rfl (ckr_up (a := 0) ckr_0 ch_4_0 (rfl : 0 + 40 = 40))
theorem ch_5_0 : ckr 0 29 in_5 prog_7_method_1_code = true := by decide +kernel
theorem io_5 : ioP 5 := io_of 29 (f := in_5) (cc := prog_7_method_1_code) rfl rfl rfl (ckr_up (a := 0) ckr_0 ch_5_0 (rfl : 0 + 29 = 29))
theorem ch_6_0 : ckr 0 60 in_6 prog_6_method_1_code = true := by decide +kernel
theorem io_6 : ioP 6 := io_of 60 (f := in_6) (cc := prog_6_method_1_code) rfl rfl rfl (ckr_up (a := 0) ckr_0 ch_6_0 (rfl : 0 + 60 = 60))
theorem ch_7_0 : ckr 0 62 in_7 prog_3_method_1_code = true := by decide +kernel
theorem io_7 : ioP 7 := io_of 62 (f := in_7) (cc := prog_3_method_1_code) rfl rfl rfl (ckr_up (a := 0) ckr_0 ch_7_0 (rfl : 0 + 62 = 62))
theorem ch_8_0 : ckr 0 30 in_8 prog_10_method_1_code = true := by decide +kernel
theorem io_8 : ioP 8 := io_of 30 (f := in_8) (cc := prog_10_method_1_code) rfl rfl rfl (ckr_up (a := 0) ckr_0 ch_8_0 (rfl : 0 + 30 = 30))
theorem ch_9_0 : ckr 0 64 in_9 prog_8_method_1_code = true := by decide +kernel
theorem ch_9_1 : ckr 64 25 in_9 prog_8_method_1_code = true := by decide +kernel
theorem io_9 : ioP 9 := io_of 89 (f := in_9) (cc := prog_8_method_1_code) rfl rfl rfl (ckr_up (a := 64) (ckr_up (a := 0) ckr_0 ch_9_0 (rfl : 0 + 64 = 64)) ch_9_1 (rfl : 64 + 25 = 89))
theorem ch_10_0 : ckr 0 5 in_10 prog_2_method_1_code = true := by decide +kernel
theorem io_10 : ioP 10 := io_of 5 (f := in_10) (cc := prog_2_method_1_code) rfl rfl rfl (ckr_up (a := 0) ckr_0 ch_10_0 (rfl : 0 + 5 = 5))
theorem ch_11_0 : ckr 0 45 in_11 prog_1_method_2_code = true := by decide +kernel
theorem io_11 : ioP 11 := io_of 45 (f := in_11) (cc := prog_1_method_2_code) rfl rfl rfl (ckr_up (a := 0) ckr_0 ch_11_0 (rfl : 0 + 45 = 45))
