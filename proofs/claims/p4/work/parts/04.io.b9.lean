theorem ch_108_0 : ckr 0 64 in_108 prog_5_method_3_code = true := by decide +kernel
theorem ch_108_1 : ckr 64 42 in_108 prog_5_method_3_code = true := by decide +kernel
theorem io_108 : ioP 108 := io_of 106 (f := in_108) (cc := prog_5_method_3_code) rfl rfl rfl (ckr_up (a := 64) (ckr_up (a := 0) ckr_0 ch_108_0 (rfl : 0 + 64 = 64)) ch_108_1 (rfl : 64 + 42 = 106))
theorem ch_109_0 : ckr 0 52 in_109 prog_5_method_5_code = true := by decide +kernel
theorem io_109 : ioP 109 := io_of 52 (f := in_109) (cc := prog_5_method_5_code) rfl rfl rfl (ckr_up (a := 0) ckr_0 ch_109_0 (rfl : 0 + 52 = 52))
theorem ch_110_0 : ckr 0 26 in_110 prog_5_method_4_code = true := by decide +kernel
theorem io_110 : ioP 110 := io_of 26 (f := in_110) (cc := prog_5_method_4_code) rfl rfl rfl (ckr_up (a := 0) ckr_0 ch_110_0 (rfl : 0 + 26 = 26))
theorem ch_111_0 : ckr 0 64 in_111 prog_5_method_6_code = true := by decide +kernel
theorem ch_111_1 : ckr 64 42 in_111 prog_5_method_6_code = true := by decide +kernel
theorem io_111 : ioP 111 := io_of 106 (f := in_111) (cc := prog_5_method_6_code) rfl rfl rfl (ckr_up (a := 64) (ckr_up (a := 0) ckr_0 ch_111_0 (rfl : 0 + 64 = 64)) ch_111_1 (rfl : 64 + 42 = 106))
theorem ch_112_0 : ckr 0 52 in_112 prog_5_method_7_code = true := by decide +kernel
theorem io_112 : ioP 112 := io_of 52 (f := in_112) (cc := prog_5_method_7_code) rfl rfl rfl (ckr_up (a := 0) ckr_0 ch_112_0 (rfl : 0 + 52 = 52))
theorem ch_113_0 : ckr 0 53 in_113 prog_13_method_49_code = true := by decide +kernel
theorem io_113 : ioP 113 := io_of 53 (f := in_113) (cc := prog_13_method_49_code) rfl rfl rfl (ckr_up (a := 0) ckr_0 ch_113_0 (rfl : 0 + 53 = 53))
theorem ch_114_0 : ckr 0 64 in_114 prog_5_method_8_code = true := by decide +kernel
theorem ch_114_1 : ckr 64 23 in_114 prog_5_method_8_code = true := by decide +kernel
theorem io_114 : ioP 114 := io_of 87 (f := in_114) (cc := prog_5_method_8_code) rfl rfl rfl (ckr_up (a := 64) (ckr_up (a := 0) ckr_0 ch_114_0 (rfl : 0 + 64 = 64)) ch_114_1 (rfl : 64 + 23 = 87))
theorem ch_115_0 : ckr 0 64 in_115 prog_1_method_26_code = true := by decide +kernel
theorem ch_115_1 : ckr 64 2 in_115 prog_1_method_26_code = true := by decide +kernel
theorem io_115 : ioP 115 := io_of 66 (f := in_115) (cc := prog_1_method_26_code) rfl rfl rfl (ckr_up (a := 64) (ckr_up (a := 0) ckr_0 ch_115_0 (rfl : 0 + 64 = 64)) ch_115_1 (rfl : 64 + 2 = 66))
theorem ch_116_0 : ckr 0 64 in_116 prog_1_method_27_code = true := by decide +kernel
theorem ch_116_1 : ckr 64 7 in_116 prog_1_method_27_code = true := by decide +kernel
theorem io_116 : ioP 116 := io_of 71 (f := in_116) (cc := prog_1_method_27_code) rfl rfl rfl (ckr_up (a := 64) (ckr_up (a := 0) ckr_0 ch_116_0 (rfl : 0 + 64 = 64)) ch_116_1 (rfl : 64 + 7 = 71))
theorem ch_117_0 : ckr 0 46 in_117 prog_3_method_7_code = true := by decide +kernel
theorem io_117 : ioP 117 := io_of 46 (f := in_117) (cc := prog_3_method_7_code) rfl rfl rfl (ckr_up (a := 0) ckr_0 ch_117_0 (rfl : 0 + 46 = 46))
theorem ch_118_0 : ckr 0 28 in_118 prog_1_method_34_code = true := by decide +kernel
theorem io_118 : ioP 118 := io_of 28 (f := in_118) (cc := prog_1_method_34_code) rfl rfl rfl (ckr_up (a := 0) ckr_0 ch_118_0 (rfl : 0 + 28 = 28))
theorem ch_119_0 : ckr 0 64 in_119 prog_1_method_28_code = true := by decide +kernel
theorem ch_119_1 : ckr 64 22 in_119 prog_1_method_28_code = true := by decide +kernel
theorem io_119 : ioP 119 := io_of 86 (f := in_119) (cc := prog_1_method_28_code) rfl rfl rfl (ckr_up (a := 64) (ckr_up (a := 0) ckr_0 ch_119_0 (rfl : 0 + 64 = 64)) ch_119_1 (rfl : 64 + 22 = 86))
