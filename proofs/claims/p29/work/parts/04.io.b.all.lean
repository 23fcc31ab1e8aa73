theorem ch_0_0 : ckq 0 64 in_0 code = true := by decide +kernel
theorem ch_0_1 : ckq 64 64 in_0 code = true := by decide +kernel
theorem ch_0_2 : ckq 128 64 in_0 code = true := by decide +kernel
theorem ch_0_3 : ckq 192 64 in_0 code = true := by decide +kernel
theorem ch_0_4 : ckq 256 64 in_0 code = true := by decide +kernel
theorem ch_0_5 : ckq 320 64 in_0 code = true := by decide +kernel
theorem ch_0_6 : ckq 384 64 in_0 code = true := by decide +kernel
theorem ch_0_7 : ckq 448 64 in_0 code = true := by decide +kernel
theorem ch_0_8 : ckq 512 64 in_0 code = true := by decide +kernel
theorem ch_0_9 : ckq 576 64 in_0 code = true := by decide +kernel
theorem ch_0_10 : ckq 640 64 in_0 code = true := by decide +kernel
theorem ch_0_11 : ckq 704 64 in_0 code = true := by decide +kernel
theorem ch_0_12 : ckq 768 64 in_0 code = true := by decide +kernel
theorem ch_0_13 : ckq 832 64 in_0 code = true := by decide +kernel
theorem ch_0_14 : ckq 896 64 in_0 code = true := by decide +kernel
theorem ch_0_15 : ckq 960 64 in_0 code = true := by decide +kernel
theorem ch_0_16 : ckq 1024 64 in_0 code = true := by decide +kernel
theorem ch_0_17 : ckq 1088 64 in_0 code = true := by decide +kernel
theorem ch_0_18 : ckq 1152 30 in_0 code = true := by decide +kernel
theorem io_0 : ioP 0 := io_of 1182 (f := in_0) (cc := code) rfl rfl rfl (ckq_up (a := 1152) (ckq_up (a := 1088) (ckq_up (a := 1024) (ckq_up (a := 960) (ckq_up (a := 896) (ckq_up (a := 832) (ckq_up (a := 768) (ckq_up (a := 704) (ckq_up (a := 640) (ckq_up (a := 576) (ckq_up (a := 512) (ckq_up (a := 448) (ckq_up (a := 384) (ckq_up (a := 320) (ckq_up (a := 256) (ckq_up (a := 192) (ckq_up (a := 128) (ckq_up (a := 64) (ckq_up (a := 0) ckr_0 ch_0_0 (rfl : 0 + 64 = 64)) ch_0_1 (rfl : 64 + 64 = 128)) ch_0_2 (rfl : 128 + 64 = 192)) ch_0_3 (rfl : 192 + 64 = 256)) ch_0_4 (rfl : 256 + 64 = 320)) ch_0_5 (rfl : 320 + 64 = 384)) ch_0_6 (rfl : 384 + 64 = 448)) ch_0_7 (rfl : 448 + 64 = 512)) ch_0_8 (rfl : 512 + 64 = 576)) ch_0_9 (rfl : 576 + 64 = 640)) ch_0_10 (rfl : 640 + 64 = 704)) ch_0_11 (rfl : 704 + 64 = 768)) ch_0_12 (rfl : 768 + 64 = 832)) ch_0_13 (rfl : 832 + 64 = 896)) ch_0_14 (rfl : 896 + 64 = 960)) ch_0_15 (rfl : 960 + 64 = 1024)) ch_0_16 (rfl : 1024 + 64 = 1088)) ch_0_17 (rfl : 1088 + 64 = 1152)) ch_0_18 (rfl : 1152 + 30 = 1182))
theorem ch_1_0 : ckq 0 64 in_1 prog_1_method_1_code = true := by decide +kernel
theorem ch_1_1 : ckq 64 27 in_1 prog_1_method_1_code = true := by decide +kernel
theorem io_1 : ioP 1 := io_of 91 (f := in_1) (cc := prog_1_method_1_code) rfl rfl rfl (ckq_up (a := 64) (ckq_up (a := 0) ckr_0 ch_1_0 (rfl : 0 + 64 = 64)) ch_1_1 (rfl : 64 + 27 = 91))
theorem ch_2_0 : ckq 0 37 in_2 prog_9_method_1_code = true := by decide +kernel
theorem io_2 : ioP 2 := io_of 37 (f := in_2) (cc := prog_9_method_1_code) rfl rfl rfl (ckq_up (a := 0) ckr_0 ch_2_0 (rfl : 0 + 37 = 37))
theorem ch_3_0 : ckq 0 13 in_3 prog_4_method_1_code = true := by decide +kernel
theorem io_3 : ioP 3 := io_of 13 (f := in_3) (cc := prog_4_method_1_code) rfl rfl rfl (ckq_up (a := 0) ckr_0 ch_3_0 (rfl : 0 + 13 = 13))
theorem ch_4_0 : ckq 0 40 in_4 prog_5_method_1_code = true := by decide +kernel
theorem io_4 : ioP 4 := io_of 40 (f := in_4) (cc := prog_5_method_1_code) rfl rfl rfl (ckq_up (a := 0) ckr_0 ch_4_0 (rfl : 0 + 40 = 40))
theorem ch_5_0 : ckq 0 29 in_5 prog_7_method_1_code = true := by decide +kernel
theorem io_5 : ioP 5 := io_of 29 (f := in_5) (cc := prog_7_method_1_code) rfl rfl rfl (ckq_up (a := 0) ckr_0 ch_5_0 (rfl : 0 + 29 = 29))
theorem ch_6_0 : ckq 0 60 in_6 prog_6_method_1_code = true := by decide +kernel
theorem io_6 : ioP 6 := io_of 60 (f := in_6) (cc := prog_6_method_1_code) rfl rfl rfl (ckq_up (a := 0) ckr_0 ch_6_0 (rfl : 0 + 60 = 60))
theorem ch_7_0 : ckq 0 62 in_7 prog_3_method_1_code = true := by decide +kernel
theorem io_7 : ioP 7 := io_of 62 (f := in_7) (cc := prog_3_method_1_code) rfl rfl rfl (ckq_up (a := 0) ckr_0 ch_7_0 (rfl : 0 + 62 = 62))
theorem ch_8_0 : ckq 0 30 in_8 prog_10_method_1_code = true := by decide +kernel
theorem io_8 : ioP 8 := io_of 30 (f := in_8) (cc := prog_10_method_1_code) rfl rfl rfl (ckq_up (a := 0) ckr_0 ch_8_0 (rfl : 0 + 30 = 30))
theorem ch_9_0 : ckq 0 64 in_9 prog_8_method_1_code = true := by decide +kernel
theorem ch_9_1 : ckq 64 25 in_9 prog_8_method_1_code = true := by decide +kernel
theorem io_9 : ioP 9 := io_of 89 (f := in_9) (cc := prog_8_method_1_code) rfl rfl rfl (ckq_up (a := 64) (ckq_up (a := 0) ckr_0 ch_9_0 (rfl : 0 + 64 = 64)) ch_9_1 (rfl : 64 + 25 = 89))
theorem ch_10_0 : ckq 0 5 in_10 prog_2_method_1_code = true := by decide +kernel
theorem io_10 : ioP 10 := io_of 5 (f := in_10) (cc := prog_2_method_1_code) rfl rfl rfl (ckq_up (a := 0) ckr_0 ch_10_0 (rfl : 0 + 5 = 5))
theorem ch_11_0 : ckq 0 45 in_11 prog_1_method_2_code = true := by decide +kernel
theorem io_11 : ioP 11 := io_of 45 (f := in_11) (cc := prog_1_method_2_code) rfl rfl rfl (ckq_up (a := 0) ckr_0 ch_11_0 (rfl : 0 + 45 = 45))

theorem ch_12_0 : ckq 0 20 in_12 prog_1_method_30_code = true := by decide +kernel
theorem io_12 : ioP 12 := io_of 20 (f := in_12) (cc := prog_1_method_30_code) rfl rfl rfl (ckq_up (a := 0) ckr_0 ch_12_0 (rfl : 0 + 20 = 20))
theorem ch_13_0 : ckq 0 29 in_13 prog_1_method_35_code = true := by decide +kernel
theorem io_13 : ioP 13 := io_of 29 (f := in_13) (cc := prog_1_method_35_code) rfl rfl rfl (ckq_up (a := 0) ckr_0 ch_13_0 (rfl : 0 + 29 = 29))
theorem ch_14_0 : ckq 0 64 in_14 prog_6_method_6_code = true := by decide +kernel
theorem ch_14_1 : ckq 64 42 in_14 prog_6_method_6_code = true := by decide +kernel
theorem io_14 : ioP 14 := io_of 106 (f := in_14) (cc := prog_6_method_6_code) rfl rfl rfl (ckq_up (a := 64) (ckq_up (a := 0) ckr_0 ch_14_0 (rfl : 0 + 64 = 64)) ch_14_1 (rfl : 64 + 42 = 106))
theorem ch_15_0 : ckq 0 11 in_15 prog_6_method_2_code = true := by decide +kernel
theorem io_15 : ioP 15 := io_of 11 (f := in_15) (cc := prog_6_method_2_code) rfl rfl rfl (ckq_up (a := 0) ckr_0 ch_15_0 (rfl : 0 + 11 = 11))
theorem ch_16_0 : ckq 0 63 in_16 prog_1_method_3_code = true := by decide +kernel
theorem io_16 : ioP 16 := io_of 63 (f := in_16) (cc := prog_1_method_3_code) rfl rfl rfl (ckq_up (a := 0) ckr_0 ch_16_0 (rfl : 0 + 63 = 63))
theorem ch_17_0 : ckq 0 18 in_17 prog_3_method_2_code = true := by decide +kernel
theorem io_17 : ioP 17 := io_of 18 (f := in_17) (cc := prog_3_method_2_code) rfl rfl rfl (ckq_up (a := 0) ckr_0 ch_17_0 (rfl : 0 + 18 = 18))
theorem ch_18_0 : ckq 0 39 in_18 prog_3_method_3_code = true := by decide +kernel
theorem io_18 : ioP 18 := io_of 39 (f := in_18) (cc := prog_3_method_3_code) rfl rfl rfl (ckq_up (a := 0) ckr_0 ch_18_0 (rfl : 0 + 39 = 39))
theorem ch_19_0 : ckq 0 64 in_19 prog_1_method_4_code = true := by decide +kernel
theorem ch_19_1 : ckq 64 37 in_19 prog_1_method_4_code = true := by decide +kernel
theorem io_19 : ioP 19 := io_of 101 (f := in_19) (cc := prog_1_method_4_code) rfl rfl rfl (ckq_up (a := 64) (ckq_up (a := 0) ckr_0 ch_19_0 (rfl : 0 + 64 = 64)) ch_19_1 (rfl : 64 + 37 = 101))
theorem ch_20_0 : ckq 0 41 in_20 prog_1_method_36_code = true := by decide +kernel
theorem io_20 : ioP 20 := io_of 41 (f := in_20) (cc := prog_1_method_36_code) rfl rfl rfl (ckq_up (a := 0) ckr_0 ch_20_0 (rfl : 0 + 41 = 41))
theorem ch_21_0 : ckq 0 36 in_21 prog_3_method_9_code = true := by decide +kernel
theorem io_21 : ioP 21 := io_of 36 (f := in_21) (cc := prog_3_method_9_code) rfl rfl rfl (ckq_up (a := 0) ckr_0 ch_21_0 (rfl : 0 + 36 = 36))
theorem ch_22_0 : ckq 0 40 in_22 prog_3_method_8_code = true := by decide +kernel
theorem io_22 : ioP 22 := io_of 40 (f := in_22) (cc := prog_3_method_8_code) rfl rfl rfl (ckq_up (a := 0) ckr_0 ch_22_0 (rfl : 0 + 40 = 40))
theorem ch_23_0 : ckq 0 34 in_23 prog_1_method_42_code = true := by decide +kernel
theorem io_23 : ioP 23 := io_of 34 (f := in_23) (cc := prog_1_method_42_code) rfl rfl rfl (ckq_up (a := 0) ckr_0 ch_23_0 (rfl : 0 + 34 = 34))

theorem ch_120_0 : ckq 0 64 in_120 prog_1_method_32_code = true := by decide +kernel
theorem ch_120_1 : ckq 64 15 in_120 prog_1_method_32_code = true := by decide +kernel
theorem io_120 : ioP 120 := io_of 79 (f := in_120) (cc := prog_1_method_32_code) rfl rfl rfl (ckq_up (a := 64) (ckq_up (a := 0) ckr_0 ch_120_0 (rfl : 0 + 64 = 64)) ch_120_1 (rfl : 64 + 15 = 79))
theorem ch_121_0 : ckq 0 56 in_121 prog_1_method_33_code = true := by decide +kernel
theorem io_121 : ioP 121 := io_of 56 (f := in_121) (cc := prog_1_method_33_code) rfl rfl rfl (ckq_up (a := 0) ckr_0 ch_121_0 (rfl : 0 + 56 = 56))
theorem ch_122_0 : ckq 0 11 in_122 prog_14_method_65_code = true := by decide +kernel
theorem io_122 : ioP 122 := io_of 11 (f := in_122) (cc := prog_14_method_65_code) rfl rfl rfl (ckq_up (a := 0) ckr_0 ch_122_0 (rfl : 0 + 11 = 11))
theorem ch_123_0 : ckq 0 64 in_123 prog_1_method_29_code = true := by decide +kernel
theorem ch_123_1 : ckq 64 55 in_123 prog_1_method_29_code = true := by decide +kernel
theorem io_123 : ioP 123 := io_of 119 (f := in_123) (cc := prog_1_method_29_code) rfl rfl rfl (ckq_up (a := 64) (ckq_up (a := 0) ckr_0 ch_123_0 (rfl : 0 + 64 = 64)) ch_123_1 (rfl : 64 + 55 = 119))
theorem ch_124_0 : ckq 0 29 in_124 prog_3_method_6_code = true := by decide +kernel
theorem io_124 : ioP 124 := io_of 29 (f := in_124) (cc := prog_3_method_6_code) rfl rfl rfl (ckq_up (a := 0) ckr_0 ch_124_0 (rfl : 0 + 29 = 29))
theorem ch_125_0 : ckq 0 37 in_125 prog_3_method_5_code = true := by decide +kernel
theorem io_125 : ioP 125 := io_of 37 (f := in_125) (cc := prog_3_method_5_code) rfl rfl rfl (ckq_up (a := 0) ckr_0 ch_125_0 (rfl : 0 + 37 = 37))
theorem ch_126_0 : ckq 0 34 in_126 prog_8_method_6_code = true := by decide +kernel
theorem io_126 : ioP 126 := io_of 34 (f := in_126) (cc := prog_8_method_6_code) rfl rfl rfl (ckq_up (a := 0) ckr_0 ch_126_0 (rfl : 0 + 34 = 34))
theorem ch_127_0 : ckq 0 64 in_127 prog_12_method_1_code = true := by decide +kernel
theorem ch_127_1 : ckq 64 64 in_127 prog_12_method_1_code = true := by decide +kernel
theorem ch_127_2 : ckq 128 64 in_127 prog_12_method_1_code = true := by decide +kernel
theorem ch_127_3 : ckq 192 64 in_127 prog_12_method_1_code = true := by decide +kernel
theorem ch_127_4 : ckq 256 64 in_127 prog_12_method_1_code = true := by decide +kernel
theorem ch_127_5 : ckq 320 64 in_127 prog_12_method_1_code = true := by decide +kernel
theorem ch_127_6 : ckq 384 10 in_127 prog_12_method_1_code = true := by decide +kernel
theorem io_127 : ioP 127 := io_of 394 (f := in_127) (cc := prog_12_method_1_code) rfl rfl rfl (ckq_up (a := 384) (ckq_up (a := 320) (ckq_up (a := 256) (ckq_up (a := 192) (ckq_up (a := 128) (ckq_up (a := 64) (ckq_up (a := 0) ckr_0 ch_127_0 (rfl : 0 + 64 = 64)) ch_127_1 (rfl : 64 + 64 = 128)) ch_127_2 (rfl : 128 + 64 = 192)) ch_127_3 (rfl : 192 + 64 = 256)) ch_127_4 (rfl : 256 + 64 = 320)) ch_127_5 (rfl : 320 + 64 = 384)) ch_127_6 (rfl : 384 + 10 = 394))
theorem ch_128_0 : ckq 0 56 in_128 prog_12_method_8_code = true := by decide +kernel
theorem io_128 : ioP 128 := io_of 56 (f := in_128) (cc := prog_12_method_8_code) rfl rfl rfl (ckq_up (a := 0) ckr_0 ch_128_0 (rfl : 0 + 56 = 56))
theorem ch_129_0 : ckq 0 7 in_129 prog_12_method_3_code = true := by decide +kernel
theorem io_129 : ioP 129 := io_of 7 (f := in_129) (cc := prog_12_method_3_code) rfl rfl rfl (ckq_up (a := 0) ckr_0 ch_129_0 (rfl : 0 + 7 = 7))
theorem ch_130_0 : ckq 0 16 in_130 prog_12_method_2_code = true := by decide +kernel
theorem io_130 : ioP 130 := io_of 16 (f := in_130) (cc := prog_12_method_2_code) rfl rfl rfl (ckq_up (a := 0) ckr_0 ch_130_0 (rfl : 0 + 16 = 16))
theorem ch_131_0 : ckq 0 28 in_131 prog_12_method_7_code = true := by decide +kernel
theorem io_131 : ioP 131 := io_of 28 (f := in_131) (cc := prog_12_method_7_code) rfl rfl rfl (ckq_up (a := 0) ckr_0 ch_131_0 (rfl : 0 + 28 = 28))

theorem ch_132_0 : ckq 0 64 in_132 prog_12_method_6_code = true := by decide +kernel
theorem ch_132_1 : ckq 64 23 in_132 prog_12_method_6_code = true := by decide +kernel
theorem io_132 : ioP 132 := io_of 87 (f := in_132) (cc := prog_12_method_6_code) rfl rfl rfl (ckq_up (a := 64) (ckq_up (a := 0) ckr_0 ch_132_0 (rfl : 0 + 64 = 64)) ch_132_1 (rfl : 64 + 23 = 87))
theorem ch_133_0 : ckq 0 8 in_133 prog_12_method_5_code = true := by decide +kernel
theorem io_133 : ioP 133 := io_of 8 (f := in_133) (cc := prog_12_method_5_code) rfl rfl rfl (ckq_up (a := 0) ckr_0 ch_133_0 (rfl : 0 + 8 = 8))
theorem ch_134_0 : ckq 0 64 in_134 prog_12_method_9_code = true := by decide +kernel
theorem ch_134_1 : ckq 64 32 in_134 prog_12_method_9_code = true := by decide +kernel
theorem io_134 : ioP 134 := io_of 96 (f := in_134) (cc := prog_12_method_9_code) rfl rfl rfl (ckq_up (a := 64) (ckq_up (a := 0) ckr_0 ch_134_0 (rfl : 0 + 64 = 64)) ch_134_1 (rfl : 64 + 32 = 96))
theorem ch_135_0 : ckq 0 29 in_135 prog_12_method_4_code = true := by decide +kernel
theorem io_135 : ioP 135 := io_of 29 (f := in_135) (cc := prog_12_method_4_code) rfl rfl rfl (ckq_up (a := 0) ckr_0 ch_135_0 (rfl : 0 + 29 = 29))
theorem ch_136_0 : ckq 0 64 in_136 prog_12_method_12_code = true := by decide +kernel
theorem ch_136_1 : ckq 64 64 in_136 prog_12_method_12_code = true := by decide +kernel
theorem ch_136_2 : ckq 128 17 in_136 prog_12_method_12_code = true := by decide +kernel
theorem io_136 : ioP 136 := io_of 145 (f := in_136) (cc := prog_12_method_12_code) rfl rfl rfl (ckq_up (a := 128) (ckq_up (a := 64) (ckq_up (a := 0) ckr_0 ch_136_0 (rfl : 0 + 64 = 64)) ch_136_1 (rfl : 64 + 64 = 128)) ch_136_2 (rfl : 128 + 17 = 145))
theorem ch_137_0 : ckq 0 37 in_137 prog_12_method_10_code = true := by decide +kernel
theorem io_137 : ioP 137 := io_of 37 (f := in_137) (cc := prog_12_method_10_code) rfl rfl rfl (ckq_up (a := 0) ckr_0 ch_137_0 (rfl : 0 + 37 = 37))
theorem ch_138_0 : ckq 0 64 in_138 prog_12_method_11_code = true := by decide +kernel
theorem ch_138_1 : ckq 64 61 in_138 prog_12_method_11_code = true := by decide +kernel
theorem io_138 : ioP 138 := io_of 125 (f := in_138) (cc := prog_12_method_11_code) rfl rfl rfl (ckq_up (a := 64) (ckq_up (a := 0) ckr_0 ch_138_0 (rfl : 0 + 64 = 64)) ch_138_1 (rfl : 64 + 61 = 125))
theorem ch_139_0 : ckq 0 64 in_139 prog_12_method_13_code = true := by decide +kernel
theorem ch_139_1 : ckq 64 64 in_139 prog_12_method_13_code = true := by decide +kernel
theorem ch_139_2 : ckq 128 14 in_139 prog_12_method_13_code = true := by decide +kernel
theorem io_139 : ioP 139 := io_of 142 (f := in_139) (cc := prog_12_method_13_code) rfl rfl rfl (ckq_up (a := 128) (ckq_up (a := 64) (ckq_up (a := 0) ckr_0 ch_139_0 (rfl : 0 + 64 = 64)) ch_139_1 (rfl : 64 + 64 = 128)) ch_139_2 (rfl : 128 + 14 = 142))
theorem ch_140_0 : ckq 0 64 in_140 prog_12_method_14_code = true := by decide +kernel
theorem ch_140_1 : ckq 64 64 in_140 prog_12_method_14_code = true := by decide +kernel
theorem ch_140_2 : ckq 128 1 in_140 prog_12_method_14_code = true := by decide +kernel
theorem io_140 : ioP 140 := io_of 129 (f := in_140) (cc := prog_12_method_14_code) rfl rfl rfl (ckq_up (a := 128) (ckq_up (a := 64) (ckq_up (a := 0) ckr_0 ch_140_0 (rfl : 0 + 64 = 64)) ch_140_1 (rfl : 64 + 64 = 128)) ch_140_2 (rfl : 128 + 1 = 129))
theorem ch_141_0 : ckq 0 41 in_141 prog_12_method_15_code = true := by decide +kernel
theorem io_141 : ioP 141 := io_of 41 (f := in_141) (cc := prog_12_method_15_code) rfl rfl rfl (ckq_up (a := 0) ckr_0 ch_141_0 (rfl : 0 + 41 = 41))
theorem ch_142_0 : ckq 0 46 in_142 prog_12_method_16_code = true := by decide +kernel
theorem io_142 : ioP 142 := io_of 46 (f := in_142) (cc := prog_12_method_16_code) rfl rfl rfl (ckq_up (a := 0) ckr_0 ch_142_0 (rfl : 0 + 46 = 46))
theorem ch_143_0 : ckq 0 64 in_143 prog_12_method_17_code = true := by decide +kernel
theorem ch_143_1 : ckq 64 64 in_143 prog_12_method_17_code = true := by decide +kernel
theorem ch_143_2 : ckq 128 64 in_143 prog_12_method_17_code = true := by decide +kernel
theorem ch_143_3 : ckq 192 64 in_143 prog_12_method_17_code = true := by decide +kernel
theorem ch_143_4 : ckq 256 45 in_143 prog_12_method_17_code = true := by decide +kernel
theorem io_143 : ioP 143 := io_of 301 (f := in_143) (cc := prog_12_method_17_code) rfl rfl rfl (ckq_up (a := 256) (ckq_up (a := 192) (ckq_up (a := 128) (ckq_up (a := 64) (ckq_up (a := 0) ckr_0 ch_143_0 (rfl : 0 + 64 = 64)) ch_143_1 (rfl : 64 + 64 = 128)) ch_143_2 (rfl : 128 + 64 = 192)) ch_143_3 (rfl : 192 + 64 = 256)) ch_143_4 (rfl : 256 + 45 = 301))

theorem ch_144_0 : ckq 0 64 in_144 prog_12_method_18_code = true := by decide +kernel
theorem ch_144_1 : ckq 64 33 in_144 prog_12_method_18_code = true := by decide +kernel
theorem io_144 : ioP 144 := io_of 97 (f := in_144) (cc := prog_12_method_18_code) rfl rfl rfl (ckq_up (a := 64) (ckq_up (a := 0) ckr_0 ch_144_0 (rfl : 0 + 64 = 64)) ch_144_1 (rfl : 64 + 33 = 97))
theorem ch_145_0 : ckq 0 64 in_145 prog_12_method_25_code = true := by decide +kernel
theorem ch_145_1 : ckq 64 64 in_145 prog_12_method_25_code = true := by decide +kernel
theorem ch_145_2 : ckq 128 64 in_145 prog_12_method_25_code = true := by decide +kernel
theorem ch_145_3 : ckq 192 7 in_145 prog_12_method_25_code = true := by decide +kernel
theorem io_145 : ioP 145 := io_of 199 (f := in_145) (cc := prog_12_method_25_code) rfl rfl rfl (ckq_up (a := 192) (ckq_up (a := 128) (ckq_up (a := 64) (ckq_up (a := 0) ckr_0 ch_145_0 (rfl : 0 + 64 = 64)) ch_145_1 (rfl : 64 + 64 = 128)) ch_145_2 (rfl : 128 + 64 = 192)) ch_145_3 (rfl : 192 + 7 = 199))
theorem ch_146_0 : ckq 0 64 in_146 prog_12_method_19_code = true := by decide +kernel
theorem ch_146_1 : ckq 64 64 in_146 prog_12_method_19_code = true := by decide +kernel
theorem ch_146_2 : ckq 128 64 in_146 prog_12_method_19_code = true := by decide +kernel
theorem ch_146_3 : ckq 192 11 in_146 prog_12_method_19_code = true := by decide +kernel
theorem io_146 : ioP 146 := io_of 203 (f := in_146) (cc := prog_12_method_19_code) rfl rfl rfl (ckq_up (a := 192) (ckq_up (a := 128) (ckq_up (a := 64) (ckq_up (a := 0) ckr_0 ch_146_0 (rfl : 0 + 64 = 64)) ch_146_1 (rfl : 64 + 64 = 128)) ch_146_2 (rfl : 128 + 64 = 192)) ch_146_3 (rfl : 192 + 11 = 203))
theorem ch_147_0 : ckq 0 64 in_147 prog_12_method_20_code = true := by decide +kernel
theorem ch_147_1 : ckq 64 64 in_147 prog_12_method_20_code = true := by decide +kernel
theorem ch_147_2 : ckq 128 64 in_147 prog_12_method_20_code = true := by decide +kernel
theorem ch_147_3 : ckq 192 64 in_147 prog_12_method_20_code = true := by decide +kernel
theorem ch_147_4 : ckq 256 28 in_147 prog_12_method_20_code = true := by decide +kernel
theorem io_147 : ioP 147 := io_of 284 (f := in_147) (cc := prog_12_method_20_code) rfl rfl rfl (ckq_up (a := 256) (ckq_up (a := 192) (ckq_up (a := 128) (ckq_up (a := 64) (ckq_up (a := 0) ckr_0 ch_147_0 (rfl : 0 + 64 = 64)) ch_147_1 (rfl : 64 + 64 = 128)) ch_147_2 (rfl : 128 + 64 = 192)) ch_147_3 (rfl : 192 + 64 = 256)) ch_147_4 (rfl : 256 + 28 = 284))
theorem ch_148_0 : ckq 0 64 in_148 prog_12_method_23_code = true := by decide +kernel
theorem ch_148_1 : ckq 64 64 in_148 prog_12_method_23_code = true := by decide +kernel
theorem ch_148_2 : ckq 128 64 in_148 prog_12_method_23_code = true := by decide +kernel
theorem ch_148_3 : ckq 192 64 in_148 prog_12_method_23_code = true := by decide +kernel
theorem ch_148_4 : ckq 256 64 in_148 prog_12_method_23_code = true := by decide +kernel
theorem ch_148_5 : ckq 320 43 in_148 prog_12_method_23_code = true := by decide +kernel
theorem io_148 : ioP 148 := io_of 363 (f := in_148) (cc := prog_12_method_23_code) rfl rfl rfl (ckq_up (a := 320) (ckq_up (a := 256) (ckq_up (a := 192) (ckq_up (a := 128) (ckq_up (a := 64) (ckq_up (a := 0) ckr_0 ch_148_0 (rfl : 0 + 64 = 64)) ch_148_1 (rfl : 64 + 64 = 128)) ch_148_2 (rfl : 128 + 64 = 192)) ch_148_3 (rfl : 192 + 64 = 256)) ch_148_4 (rfl : 256 + 64 = 320)) ch_148_5 (rfl : 320 + 43 = 363))
theorem ch_149_0 : ckq 0 40 in_149 prog_12_method_22_code = true := by decide +kernel
theorem io_149 : ioP 149 := io_of 40 (f := in_149) (cc := prog_12_method_22_code) rfl rfl rfl (ckq_up (a := 0) ckr_0 ch_149_0 (rfl : 0 + 40 = 40))
theorem ch_150_0 : ckq 0 31 in_150 prog_12_method_24_code = true := by decide +kernel
theorem io_150 : ioP 150 := io_of 31 (f := in_150) (cc := prog_12_method_24_code) rfl rfl rfl (ckq_up (a := 0) ckr_0 ch_150_0 (rfl : 0 + 31 = 31))
theorem ch_151_0 : ckq 0 39 in_151 prog_12_method_21_code = true := by decide +kernel
theorem io_151 : ioP 151 := io_of 39 (f := in_151) (cc := prog_12_method_21_code) rfl rfl rfl (ckq_up (a := 0) ckr_0 ch_151_0 (rfl : 0 + 39 = 39))
theorem ch_152_0 : ckq 0 64 in_152 prog_12_method_26_code = true := by decide +kernel
theorem ch_152_1 : ckq 64 30 in_152 prog_12_method_26_code = true := by decide +kernel
theorem io_152 : ioP 152 := io_of 94 (f := in_152) (cc := prog_12_method_26_code) rfl rfl rfl (ckq_up (a := 64) (ckq_up (a := 0) ckr_0 ch_152_0 (rfl : 0 + 64 = 64)) ch_152_1 (rfl : 64 + 30 = 94))
theorem ch_153_0 : ckq 0 29 in_153 prog_12_method_27_code = true := by decide +kernel
theorem io_153 : ioP 153 := io_of 29 (f := in_153) (cc := prog_12_method_27_code) rfl rfl rfl (ckq_up (a := 0) ckr_0 ch_153_0 (rfl : 0 + 29 = 29))
theorem ch_154_0 : ckq 0 64 in_154 prog_12_method_28_code = true := by decide +kernel
theorem ch_154_1 : ckq 64 23 in_154 prog_12_method_28_code = true := by decide +kernel
theorem io_154 : ioP 154 := io_of 87 (f := in_154) (cc := prog_12_method_28_code) rfl rfl rfl (ckq_up (a := 64) (ckq_up (a := 0) ckr_0 ch_154_0 (rfl : 0 + 64 = 64)) ch_154_1 (rfl : 64 + 23 = 87))
theorem ch_155_0 : ckq 0 49 in_155 prog_12_method_29_code = true := by decide +kernel
theorem io_155 : ioP 155 := io_of 49 (f := in_155) (cc := prog_12_method_29_code) rfl rfl rfl (ckq_up (a := 0) ckr_0 ch_155_0 (rfl : 0 + 49 = 49))

theorem ch_156_0 : ckq 0 64 in_156 prog_12_method_32_code = true := by decide +kernel
theorem ch_156_1 : ckq 64 21 in_156 prog_12_method_32_code = true := by decide +kernel
theorem io_156 : ioP 156 := io_of 85 (f := in_156) (cc := prog_12_method_32_code) rfl rfl rfl (ckq_up (a := 64) (ckq_up (a := 0) ckr_0 ch_156_0 (rfl : 0 + 64 = 64)) ch_156_1 (rfl : 64 + 21 = 85))
theorem ch_157_0 : ckq 0 59 in_157 prog_12_method_30_code = true := by decide +kernel
theorem io_157 : ioP 157 := io_of 59 (f := in_157) (cc := prog_12_method_30_code) rfl rfl rfl (ckq_up (a := 0) ckr_0 ch_157_0 (rfl : 0 + 59 = 59))
theorem ch_158_0 : ckq 0 30 in_158 prog_12_method_31_code = true := by decide +kernel
theorem io_158 : ioP 158 := io_of 30 (f := in_158) (cc := prog_12_method_31_code) rfl rfl rfl (ckq_up (a := 0) ckr_0 ch_158_0 (rfl : 0 + 30 = 30))
theorem ch_159_0 : ckq 0 64 in_159 prog_12_method_33_code = true := by decide +kernel
theorem ch_159_1 : ckq 64 64 in_159 prog_12_method_33_code = true := by decide +kernel
theorem ch_159_2 : ckq 128 64 in_159 prog_12_method_33_code = true := by decide +kernel
theorem ch_159_3 : ckq 192 64 in_159 prog_12_method_33_code = true := by decide +kernel
theorem ch_159_4 : ckq 256 64 in_159 prog_12_method_33_code = true := by decide +kernel
theorem ch_159_5 : ckq 320 14 in_159 prog_12_method_33_code = true := by decide +kernel
theorem io_159 : ioP 159 := io_of 334 (f := in_159) (cc := prog_12_method_33_code) rfl rfl rfl (ckq_up (a := 320) (ckq_up (a := 256) (ckq_up (a := 192) (ckq_up (a := 128) (ckq_up (a := 64) (ckq_up (a := 0) ckr_0 ch_159_0 (rfl : 0 + 64 = 64)) ch_159_1 (rfl : 64 + 64 = 128)) ch_159_2 (rfl : 128 + 64 = 192)) ch_159_3 (rfl : 192 + 64 = 256)) ch_159_4 (rfl : 256 + 64 = 320)) ch_159_5 (rfl : 320 + 14 = 334))
theorem ch_160_0 : ckq 0 64 in_160 prog_12_method_34_code = true := by decide +kernel
theorem ch_160_1 : ckq 64 64 in_160 prog_12_method_34_code = true := by decide +kernel
theorem ch_160_2 : ckq 128 64 in_160 prog_12_method_34_code = true := by decide +kernel
theorem ch_160_3 : ckq 192 44 in_160 prog_12_method_34_code = true := by decide +kernel
theorem io_160 : ioP 160 := io_of 236 (f := in_160) (cc := prog_12_method_34_code) rfl rfl rfl (ckq_up (a := 192) (ckq_up (a := 128) (ckq_up (a := 64) (ckq_up (a := 0) ckr_0 ch_160_0 (rfl : 0 + 64 = 64)) ch_160_1 (rfl : 64 + 64 = 128)) ch_160_2 (rfl : 128 + 64 = 192)) ch_160_3 (rfl : 192 + 44 = 236))
theorem ch_161_0 : ckq 0 64 in_161 prog_12_method_35_code = true := by decide +kernel
theorem ch_161_1 : ckq 64 20 in_161 prog_12_method_35_code = true := by decide +kernel
theorem io_161 : ioP 161 := io_of 84 (f := in_161) (cc := prog_12_method_35_code) rfl rfl rfl (ckq_up (a := 64) (ckq_up (a := 0) ckr_0 ch_161_0 (rfl : 0 + 64 = 64)) ch_161_1 (rfl : 64 + 20 = 84))
theorem ch_162_0 : ckq 0 64 in_162 prog_12_method_36_code = true := by decide +kernel
theorem ch_162_1 : ckq 64 64 in_162 prog_12_method_36_code = true := by decide +kernel
theorem ch_162_2 : ckq 128 12 in_162 prog_12_method_36_code = true := by decide +kernel
theorem io_162 : ioP 162 := io_of 140 (f := in_162) (cc := prog_12_method_36_code) rfl rfl rfl (ckq_up (a := 128) (ckq_up (a := 64) (ckq_up (a := 0) ckr_0 ch_162_0 (rfl : 0 + 64 = 64)) ch_162_1 (rfl : 64 + 64 = 128)) ch_162_2 (rfl : 128 + 12 = 140))
theorem ch_163_0 : ckq 0 43 in_163 prog_12_method_37_code = true := by decide +kernel
theorem io_163 : ioP 163 := io_of 43 (f := in_163) (cc := prog_12_method_37_code) rfl rfl rfl (ckq_up (a := 0) ckr_0 ch_163_0 (rfl : 0 + 43 = 43))
theorem ch_164_0 : ckq 0 64 in_164 prog_12_method_38_code = true := by decide +kernel
theorem ch_164_1 : ckq 64 64 in_164 prog_12_method_38_code = true := by decide +kernel
theorem ch_164_2 : ckq 128 64 in_164 prog_12_method_38_code = true := by decide +kernel
theorem ch_164_3 : ckq 192 35 in_164 prog_12_method_38_code = true := by decide +kernel
theorem io_164 : ioP 164 := io_of 227 (f := in_164) (cc := prog_12_method_38_code) rfl rfl rfl (ckq_up (a := 192) (ckq_up (a := 128) (ckq_up (a := 64) (ckq_up (a := 0) ckr_0 ch_164_0 (rfl : 0 + 64 = 64)) ch_164_1 (rfl : 64 + 64 = 128)) ch_164_2 (rfl : 128 + 64 = 192)) ch_164_3 (rfl : 192 + 35 = 227))
theorem ch_165_0 : ckq 0 64 in_165 prog_12_method_45_code = true := by decide +kernel
theorem ch_165_1 : ckq 64 21 in_165 prog_12_method_45_code = true := by decide +kernel
theorem io_165 : ioP 165 := io_of 85 (f := in_165) (cc := prog_12_method_45_code) rfl rfl rfl (ckq_up (a := 64) (ckq_up (a := 0) ckr_0 ch_165_0 (rfl : 0 + 64 = 64)) ch_165_1 (rfl : 64 + 21 = 85))
theorem ch_166_0 : ckq 0 64 in_166 prog_12_method_39_code = true := by decide +kernel
theorem ch_166_1 : ckq 64 19 in_166 prog_12_method_39_code = true := by decide +kernel
theorem io_166 : ioP 166 := io_of 83 (f := in_166) (cc := prog_12_method_39_code) rfl rfl rfl (ckq_up (a := 64) (ckq_up (a := 0) ckr_0 ch_166_0 (rfl : 0 + 64 = 64)) ch_166_1 (rfl : 64 + 19 = 83))
theorem ch_167_0 : ckq 0 64 in_167 prog_12_method_44_code = true := by decide +kernel
theorem ch_167_1 : ckq 64 64 in_167 prog_12_method_44_code = true := by decide +kernel
theorem ch_167_2 : ckq 128 6 in_167 prog_12_method_44_code = true := by decide +kernel
theorem io_167 : ioP 167 := io_of 134 (f := in_167) (cc := prog_12_method_44_code) rfl rfl rfl (ckq_up (a := 128) (ckq_up (a := 64) (ckq_up (a := 0) ckr_0 ch_167_0 (rfl : 0 + 64 = 64)) ch_167_1 (rfl : 64 + 64 = 128)) ch_167_2 (rfl : 128 + 6 = 134))

theorem ch_168_0 : ckq 0 64 in_168 prog_12_method_42_code = true := by decide +kernel
theorem ch_168_1 : ckq 64 64 in_168 prog_12_method_42_code = true := by decide +kernel
theorem ch_168_2 : ckq 128 64 in_168 prog_12_method_42_code = true := by decide +kernel
theorem ch_168_3 : ckq 192 64 in_168 prog_12_method_42_code = true := by decide +kernel
theorem ch_168_4 : ckq 256 64 in_168 prog_12_method_42_code = true := by decide +kernel
theorem ch_168_5 : ckq 320 61 in_168 prog_12_method_42_code = true := by decide +kernel
theorem io_168 : ioP 168 := io_of 381 (f := in_168) (cc := prog_12_method_42_code) rfl rfl rfl (ckq_up (a := 320) (ckq_up (a := 256) (ckq_up (a := 192) (ckq_up (a := 128) (ckq_up (a := 64) (ckq_up (a := 0) ckr_0 ch_168_0 (rfl : 0 + 64 = 64)) ch_168_1 (rfl : 64 + 64 = 128)) ch_168_2 (rfl : 128 + 64 = 192)) ch_168_3 (rfl : 192 + 64 = 256)) ch_168_4 (rfl : 256 + 64 = 320)) ch_168_5 (rfl : 320 + 61 = 381))
theorem ch_169_0 : ckq 0 11 in_169 prog_12_method_40_code = true := by decide +kernel
theorem io_169 : ioP 169 := io_of 11 (f := in_169) (cc := prog_12_method_40_code) rfl rfl rfl (ckq_up (a := 0) ckr_0 ch_169_0 (rfl : 0 + 11 = 11))
theorem ch_170_0 : ckq 0 11 in_170 prog_12_method_41_code = true := by decide +kernel
theorem io_170 : ioP 170 := io_of 11 (f := in_170) (cc := prog_12_method_41_code) rfl rfl rfl (ckq_up (a := 0) ckr_0 ch_170_0 (rfl : 0 + 11 = 11))
theorem ch_171_0 : ckq 0 37 in_171 prog_12_method_43_code = true := by decide +kernel
theorem io_171 : ioP 171 := io_of 37 (f := in_171) (cc := prog_12_method_43_code) rfl rfl rfl (ckq_up (a := 0) ckr_0 ch_171_0 (rfl : 0 + 37 = 37))
theorem ch_172_0 : ckq 0 59 in_172 prog_12_method_46_code = true := by decide +kernel
theorem io_172 : ioP 172 := io_of 59 (f := in_172) (cc := prog_12_method_46_code) rfl rfl rfl (ckq_up (a := 0) ckr_0 ch_172_0 (rfl : 0 + 59 = 59))
theorem ch_173_0 : ckq 0 64 in_173 prog_12_method_47_code = true := by decide +kernel
theorem ch_173_1 : ckq 64 64 in_173 prog_12_method_47_code = true := by decide +kernel
theorem ch_173_2 : ckq 128 5 in_173 prog_12_method_47_code = true := by decide +kernel
theorem io_173 : ioP 173 := io_of 133 (f := in_173) (cc := prog_12_method_47_code) rfl rfl rfl (ckq_up (a := 128) (ckq_up (a := 64) (ckq_up (a := 0) ckr_0 ch_173_0 (rfl : 0 + 64 = 64)) ch_173_1 (rfl : 64 + 64 = 128)) ch_173_2 (rfl : 128 + 5 = 133))
theorem ch_174_0 : ckq 0 21 in_174 prog_12_method_48_code = true := by decide +kernel
theorem io_174 : ioP 174 := io_of 21 (f := in_174) (cc := prog_12_method_48_code) rfl rfl rfl (ckq_up (a := 0) ckr_0 ch_174_0 (rfl : 0 + 21 = 21))
theorem ch_175_0 : ckq 0 25 in_175 prog_12_method_49_code = true := by decide +kernel
theorem io_175 : ioP 175 := io_of 25 (f := in_175) (cc := prog_12_method_49_code) rfl rfl rfl (ckq_up (a := 0) ckr_0 ch_175_0 (rfl : 0 + 25 = 25))
theorem ch_176_0 : ckq 0 64 in_176 prog_12_method_52_code = true := by decide +kernel
theorem ch_176_1 : ckq 64 64 in_176 prog_12_method_52_code = true := by decide +kernel
theorem ch_176_2 : ckq 128 64 in_176 prog_12_method_52_code = true := by decide +kernel
theorem ch_176_3 : ckq 192 27 in_176 prog_12_method_52_code = true := by decide +kernel
theorem io_176 : ioP 176 := io_of 219 (f := in_176) (cc := prog_12_method_52_code) rfl rfl rfl (ckq_up (a := 192) (ckq_up (a := 128) (ckq_up (a := 64) (ckq_up (a := 0) ckr_0 ch_176_0 (rfl : 0 + 64 = 64)) ch_176_1 (rfl : 64 + 64 = 128)) ch_176_2 (rfl : 128 + 64 = 192)) ch_176_3 (rfl : 192 + 27 = 219))
theorem ch_177_0 : ckq 0 64 in_177 prog_12_method_50_code = true := by decide +kernel
theorem ch_177_1 : ckq 64 64 in_177 prog_12_method_50_code = true := by decide +kernel
theorem ch_177_2 : ckq 128 4 in_177 prog_12_method_50_code = true := by decide +kernel
theorem io_177 : ioP 177 := io_of 132 (f := in_177) (cc := prog_12_method_50_code) rfl rfl rfl (ckq_up (a := 128) (ckq_up (a := 64) (ckq_up (a := 0) ckr_0 ch_177_0 (rfl : 0 + 64 = 64)) ch_177_1 (rfl : 64 + 64 = 128)) ch_177_2 (rfl : 128 + 4 = 132))
theorem ch_178_0 : ckq 0 64 in_178 prog_12_method_51_code = true := by decide +kernel
theorem ch_178_1 : ckq 64 59 in_178 prog_12_method_51_code = true := by decide +kernel
theorem io_178 : ioP 178 := io_of 123 (f := in_178) (cc := prog_12_method_51_code) rfl rfl rfl (ckq_up (a := 64) (ckq_up (a := 0) ckr_0 ch_178_0 (rfl : 0 + 64 = 64)) ch_178_1 (rfl : 64 + 59 = 123))
theorem ch_179_0 : ckq 0 45 in_179 prog_12_method_53_code = true := by decide +kernel
theorem io_179 : ioP 179 := io_of 45 (f := in_179) (cc := prog_12_method_53_code) rfl rfl rfl (ckq_up (a := 0) ckr_0 ch_179_0 (rfl : 0 + 45 = 45))

theorem ch_180_0 : ckq 0 64 in_180 prog_12_method_54_code = true := by decide +kernel
theorem ch_180_1 : ckq 64 64 in_180 prog_12_method_54_code = true := by decide +kernel
theorem ch_180_2 : ckq 128 15 in_180 prog_12_method_54_code = true := by decide +kernel
theorem io_180 : ioP 180 := io_of 143 (f := in_180) (cc := prog_12_method_54_code) rfl rfl rfl (ckq_up (a := 128) (ckq_up (a := 64) (ckq_up (a := 0) ckr_0 ch_180_0 (rfl : 0 + 64 = 64)) ch_180_1 (rfl : 64 + 64 = 128)) ch_180_2 (rfl : 128 + 15 = 143))
theorem ch_181_0 : ckq 0 64 in_181 prog_12_method_55_code = true := by decide +kernel
theorem ch_181_1 : ckq 64 64 in_181 prog_12_method_55_code = true := by decide +kernel
theorem ch_181_2 : ckq 128 64 in_181 prog_12_method_55_code = true := by decide +kernel
theorem ch_181_3 : ckq 192 64 in_181 prog_12_method_55_code = true := by decide +kernel
theorem ch_181_4 : ckq 256 45 in_181 prog_12_method_55_code = true := by decide +kernel
theorem io_181 : ioP 181 := io_of 301 (f := in_181) (cc := prog_12_method_55_code) rfl rfl rfl (ckq_up (a := 256) (ckq_up (a := 192) (ckq_up (a := 128) (ckq_up (a := 64) (ckq_up (a := 0) ckr_0 ch_181_0 (rfl : 0 + 64 = 64)) ch_181_1 (rfl : 64 + 64 = 128)) ch_181_2 (rfl : 128 + 64 = 192)) ch_181_3 (rfl : 192 + 64 = 256)) ch_181_4 (rfl : 256 + 45 = 301))
theorem ch_182_0 : ckq 0 64 in_182 prog_12_method_56_code = true := by decide +kernel
theorem ch_182_1 : ckq 64 64 in_182 prog_12_method_56_code = true := by decide +kernel
theorem ch_182_2 : ckq 128 64 in_182 prog_12_method_56_code = true := by decide +kernel
theorem ch_182_3 : ckq 192 64 in_182 prog_12_method_56_code = true := by decide +kernel
theorem ch_182_4 : ckq 256 1 in_182 prog_12_method_56_code = true := by decide +kernel
theorem io_182 : ioP 182 := io_of 257 (f := in_182) (cc := prog_12_method_56_code) rfl rfl rfl (ckq_up (a := 256) (ckq_up (a := 192) (ckq_up (a := 128) (ckq_up (a := 64) (ckq_up (a := 0) ckr_0 ch_182_0 (rfl : 0 + 64 = 64)) ch_182_1 (rfl : 64 + 64 = 128)) ch_182_2 (rfl : 128 + 64 = 192)) ch_182_3 (rfl : 192 + 64 = 256)) ch_182_4 (rfl : 256 + 1 = 257))

theorem ch_24_0 : ckq 0 31 in_24 prog_1_method_41_code = true := by decide +kernel
theorem io_24 : ioP 24 := io_of 31 (f := in_24) (cc := prog_1_method_41_code) rfl rfl rfl (ckq_up (a := 0) ckr_0 ch_24_0 (rfl : 0 + 31 = 31))
theorem ch_25_0 : ckq 0 5 in_25 prog_1_method_38_code = true := by decide +kernel
theorem io_25 : ioP 25 := io_of 5 (f := in_25) (cc := prog_1_method_38_code) rfl rfl rfl (ckq_up (a := 0) ckr_0 ch_25_0 (rfl : 0 + 5 = 5))
theorem ch_26_0 : ckq 0 11 in_26 prog_1_method_37_code = true := by decide +kernel
theorem io_26 : ioP 26 := io_of 11 (f := in_26) (cc := prog_1_method_37_code) rfl rfl rfl (ckq_up (a := 0) ckr_0 ch_26_0 (rfl : 0 + 11 = 11))
theorem ch_27_0 : ckq 0 29 in_27 prog_3_method_10_code = true := by decide +kernel
theorem io_27 : ioP 27 := io_of 29 (f := in_27) (cc := prog_3_method_10_code) rfl rfl rfl (ckq_up (a := 0) ckr_0 ch_27_0 (rfl : 0 + 29 = 29))
theorem ch_28_0 : ckq 0 39 in_28 prog_1_method_43_code = true := by decide +kernel
theorem io_28 : ioP 28 := io_of 39 (f := in_28) (cc := prog_1_method_43_code) rfl rfl rfl (ckq_up (a := 0) ckr_0 ch_28_0 (rfl : 0 + 39 = 39))
theorem ch_29_0 : ckq 0 55 in_29 prog_1_method_5_code = true := by decide +kernel
theorem io_29 : ioP 29 := io_of 55 (f := in_29) (cc := prog_1_method_5_code) rfl rfl rfl (ckq_up (a := 0) ckr_0 ch_29_0 (rfl : 0 + 55 = 55))
theorem ch_30_0 : ckq 0 64 in_30 prog_3_method_11_code = true := by decide +kernel
theorem ch_30_1 : ckq 64 22 in_30 prog_3_method_11_code = true := by decide +kernel
theorem io_30 : ioP 30 := io_of 86 (f := in_30) (cc := prog_3_method_11_code) rfl rfl rfl (ckq_up (a := 64) (ckq_up (a := 0) ckr_0 ch_30_0 (rfl : 0 + 64 = 64)) ch_30_1 (rfl : 64 + 22 = 86))
theorem ch_31_0 : ckq 0 64 in_31 prog_1_method_6_code = true := by decide +kernel
theorem ch_31_1 : ckq 64 2 in_31 prog_1_method_6_code = true := by decide +kernel
theorem io_31 : ioP 31 := io_of 66 (f := in_31) (cc := prog_1_method_6_code) rfl rfl rfl (ckq_up (a := 64) (ckq_up (a := 0) ckr_0 ch_31_0 (rfl : 0 + 64 = 64)) ch_31_1 (rfl : 64 + 2 = 66))
theorem ch_32_0 : ckq 0 32 in_32 prog_3_method_12_code = true := by decide +kernel
theorem io_32 : ioP 32 := io_of 32 (f := in_32) (cc := prog_3_method_12_code) rfl rfl rfl (ckq_up (a := 0) ckr_0 ch_32_0 (rfl : 0 + 32 = 32))
theorem ch_33_0 : ckq 0 64 in_33 prog_1_method_7_code = true := by decide +kernel
theorem ch_33_1 : ckq 64 44 in_33 prog_1_method_7_code = true := by decide +kernel
theorem io_33 : ioP 33 := io_of 108 (f := in_33) (cc := prog_1_method_7_code) rfl rfl rfl (ckq_up (a := 64) (ckq_up (a := 0) ckr_0 ch_33_0 (rfl : 0 + 64 = 64)) ch_33_1 (rfl : 64 + 44 = 108))
theorem ch_34_0 : ckq 0 17 in_34 prog_1_method_31_code = true := by decide +kernel
theorem io_34 : ioP 34 := io_of 17 (f := in_34) (cc := prog_1_method_31_code) rfl rfl rfl (ckq_up (a := 0) ckr_0 ch_34_0 (rfl : 0 + 17 = 17))
theorem ch_35_0 : ckq 0 32 in_35 prog_6_method_4_code = true := by decide +kernel
theorem io_35 : ioP 35 := io_of 32 (f := in_35) (cc := prog_6_method_4_code) rfl rfl rfl (ckq_up (a := 0) ckr_0 ch_35_0 (rfl : 0 + 32 = 32))

theorem ch_36_0 : ckq 0 49 in_36 prog_8_method_2_code = true := by decide +kernel
theorem io_36 : ioP 36 := io_of 49 (f := in_36) (cc := prog_8_method_2_code) rfl rfl rfl (ckq_up (a := 0) ckr_0 ch_36_0 (rfl : 0 + 49 = 49))
theorem ch_37_0 : ckq 0 64 in_37 prog_8_method_7_code = true := by decide +kernel
theorem ch_37_1 : ckq 64 64 in_37 prog_8_method_7_code = true := by decide +kernel
theorem ch_37_2 : ckq 128 8 in_37 prog_8_method_7_code = true := by decide +kernel
theorem io_37 : ioP 37 := io_of 136 (f := in_37) (cc := prog_8_method_7_code) rfl rfl rfl (ckq_up (a := 128) (ckq_up (a := 64) (ckq_up (a := 0) ckr_0 ch_37_0 (rfl : 0 + 64 = 64)) ch_37_1 (rfl : 64 + 64 = 128)) ch_37_2 (rfl : 128 + 8 = 136))
theorem ch_38_0 : ckq 0 21 in_38 prog_16_method_103_code = true := by decide +kernel
theorem io_38 : ioP 38 := io_of 21 (f := in_38) (cc := prog_16_method_103_code) rfl rfl rfl (ckq_up (a := 0) ckr_0 ch_38_0 (rfl : 0 + 21 = 21))
theorem ch_39_0 : ckq 0 6 in_39 prog_2_method_2_code = true := by decide +kernel
theorem io_39 : ioP 39 := io_of 6 (f := in_39) (cc := prog_2_method_2_code) rfl rfl rfl (ckq_up (a := 0) ckr_0 ch_39_0 (rfl : 0 + 6 = 6))
theorem ch_40_0 : ckq 0 64 in_40 prog_2_method_3_code = true := by decide +kernel
theorem ch_40_1 : ckq 64 64 in_40 prog_2_method_3_code = true := by decide +kernel
theorem ch_40_2 : ckq 128 40 in_40 prog_2_method_3_code = true := by decide +kernel
theorem io_40 : ioP 40 := io_of 168 (f := in_40) (cc := prog_2_method_3_code) rfl rfl rfl (ckq_up (a := 128) (ckq_up (a := 64) (ckq_up (a := 0) ckr_0 ch_40_0 (rfl : 0 + 64 = 64)) ch_40_1 (rfl : 64 + 64 = 128)) ch_40_2 (rfl : 128 + 40 = 168))
theorem ch_41_0 : ckq 0 6 in_41 prog_1_method_39_code = true := by decide +kernel
theorem io_41 : ioP 41 := io_of 6 (f := in_41) (cc := prog_1_method_39_code) rfl rfl rfl (ckq_up (a := 0) ckr_0 ch_41_0 (rfl : 0 + 6 = 6))
theorem ch_42_0 : ckq 0 5 in_42 prog_1_method_40_code = true := by decide +kernel
theorem io_42 : ioP 42 := io_of 5 (f := in_42) (cc := prog_1_method_40_code) rfl rfl rfl (ckq_up (a := 0) ckr_0 ch_42_0 (rfl : 0 + 5 = 5))
theorem ch_43_0 : ckq 0 64 in_43 prog_8_method_8_code = true := by decide +kernel
theorem ch_43_1 : ckq 64 64 in_43 prog_8_method_8_code = true := by decide +kernel
theorem ch_43_2 : ckq 128 8 in_43 prog_8_method_8_code = true := by decide +kernel
theorem io_43 : ioP 43 := io_of 136 (f := in_43) (cc := prog_8_method_8_code) rfl rfl rfl (ckq_up (a := 128) (ckq_up (a := 64) (ckq_up (a := 0) ckr_0 ch_43_0 (rfl : 0 + 64 = 64)) ch_43_1 (rfl : 64 + 64 = 128)) ch_43_2 (rfl : 128 + 8 = 136))
theorem ch_44_0 : ckq 0 14 in_44 prog_8_method_9_code = true := by decide +kernel
theorem io_44 : ioP 44 := io_of 14 (f := in_44) (cc := prog_8_method_9_code) rfl rfl rfl (ckq_up (a := 0) ckr_0 ch_44_0 (rfl : 0 + 14 = 14))
theorem ch_45_0 : ckq 0 36 in_45 prog_8_method_12_code = true := by decide +kernel
theorem io_45 : ioP 45 := io_of 36 (f := in_45) (cc := prog_8_method_12_code) rfl rfl rfl (ckq_up (a := 0) ckr_0 ch_45_0 (rfl : 0 + 36 = 36))
theorem ch_46_0 : ckq 0 44 in_46 prog_8_method_10_code = true := by decide +kernel
theorem io_46 : ioP 46 := io_of 44 (f := in_46) (cc := prog_8_method_10_code) rfl rfl rfl (ckq_up (a := 0) ckr_0 ch_46_0 (rfl : 0 + 44 = 44))
theorem ch_47_0 : ckq 0 64 in_47 prog_8_method_11_code = true := by decide +kernel
theorem ch_47_1 : ckq 64 64 in_47 prog_8_method_11_code = true := by decide +kernel
theorem ch_47_2 : ckq 128 64 in_47 prog_8_method_11_code = true := by decide +kernel
theorem ch_47_3 : ckq 192 64 in_47 prog_8_method_11_code = true := by decide +kernel
theorem ch_47_4 : ckq 256 40 in_47 prog_8_method_11_code = true := by decide +kernel
theorem io_47 : ioP 47 := io_of 296 (f := in_47) (cc := prog_8_method_11_code) rfl rfl rfl (ckq_up (a := 256) (ckq_up (a := 192) (ckq_up (a := 128) (ckq_up (a := 64) (ckq_up (a := 0) ckr_0 ch_47_0 (rfl : 0 + 64 = 64)) ch_47_1 (rfl : 64 + 64 = 128)) ch_47_2 (rfl : 128 + 64 = 192)) ch_47_3 (rfl : 192 + 64 = 256)) ch_47_4 (rfl : 256 + 40 = 296))

theorem ch_48_0 : ckq 0 30 in_48 prog_8_method_15_code = true := by decide +kernel
theorem io_48 : ioP 48 := io_of 30 (f := in_48) (cc := prog_8_method_15_code) rfl rfl rfl (ckq_up (a := 0) ckr_0 ch_48_0 (rfl : 0 + 30 = 30))
theorem ch_49_0 : ckq 0 20 in_49 prog_8_method_14_code = true := by decide +kernel
theorem io_49 : ioP 49 := io_of 20 (f := in_49) (cc := prog_8_method_14_code) rfl rfl rfl (ckq_up (a := 0) ckr_0 ch_49_0 (rfl : 0 + 20 = 20))
theorem ch_50_0 : ckq 0 64 in_50 prog_8_method_13_code = true := by decide +kernel
theorem ch_50_1 : ckq 64 5 in_50 prog_8_method_13_code = true := by decide +kernel
theorem io_50 : ioP 50 := io_of 69 (f := in_50) (cc := prog_8_method_13_code) rfl rfl rfl (ckq_up (a := 64) (ckq_up (a := 0) ckr_0 ch_50_0 (rfl : 0 + 64 = 64)) ch_50_1 (rfl : 64 + 5 = 69))
theorem ch_51_0 : ckq 0 64 in_51 prog_7_method_5_code = true := by decide +kernel
theorem ch_51_1 : ckq 64 64 in_51 prog_7_method_5_code = true := by decide +kernel
theorem ch_51_2 : ckq 128 7 in_51 prog_7_method_5_code = true := by decide +kernel
theorem io_51 : ioP 51 := io_of 135 (f := in_51) (cc := prog_7_method_5_code) rfl rfl rfl (ckq_up (a := 128) (ckq_up (a := 64) (ckq_up (a := 0) ckr_0 ch_51_0 (rfl : 0 + 64 = 64)) ch_51_1 (rfl : 64 + 64 = 128)) ch_51_2 (rfl : 128 + 7 = 135))
theorem ch_52_0 : ckq 0 64 in_52 prog_7_method_6_code = true := by decide +kernel
theorem ch_52_1 : ckq 64 22 in_52 prog_7_method_6_code = true := by decide +kernel
theorem io_52 : ioP 52 := io_of 86 (f := in_52) (cc := prog_7_method_6_code) rfl rfl rfl (ckq_up (a := 64) (ckq_up (a := 0) ckr_0 ch_52_0 (rfl : 0 + 64 = 64)) ch_52_1 (rfl : 64 + 22 = 86))
theorem ch_53_0 : ckq 0 64 in_53 prog_7_method_7_code = true := by decide +kernel
theorem ch_53_1 : ckq 64 4 in_53 prog_7_method_7_code = true := by decide +kernel
theorem io_53 : ioP 53 := io_of 68 (f := in_53) (cc := prog_7_method_7_code) rfl rfl rfl (ckq_up (a := 64) (ckq_up (a := 0) ckr_0 ch_53_0 (rfl : 0 + 64 = 64)) ch_53_1 (rfl : 64 + 4 = 68))
theorem ch_54_0 : ckq 0 64 in_54 prog_7_method_2_code = true := by decide +kernel
theorem ch_54_1 : ckq 64 64 in_54 prog_7_method_2_code = true := by decide +kernel
theorem ch_54_2 : ckq 128 4 in_54 prog_7_method_2_code = true := by decide +kernel
theorem io_54 : ioP 54 := io_of 132 (f := in_54) (cc := prog_7_method_2_code) rfl rfl rfl (ckq_up (a := 128) (ckq_up (a := 64) (ckq_up (a := 0) ckr_0 ch_54_0 (rfl : 0 + 64 = 64)) ch_54_1 (rfl : 64 + 64 = 128)) ch_54_2 (rfl : 128 + 4 = 132))
theorem ch_55_0 : ckq 0 28 in_55 prog_8_method_3_code = true := by decide +kernel
theorem io_55 : ioP 55 := io_of 28 (f := in_55) (cc := prog_8_method_3_code) rfl rfl rfl (ckq_up (a := 0) ckr_0 ch_55_0 (rfl : 0 + 28 = 28))
theorem ch_56_0 : ckq 0 64 in_56 prog_7_method_3_code = true := by decide +kernel
theorem ch_56_1 : ckq 64 39 in_56 prog_7_method_3_code = true := by decide +kernel
theorem io_56 : ioP 56 := io_of 103 (f := in_56) (cc := prog_7_method_3_code) rfl rfl rfl (ckq_up (a := 64) (ckq_up (a := 0) ckr_0 ch_56_0 (rfl : 0 + 64 = 64)) ch_56_1 (rfl : 64 + 39 = 103))
theorem ch_57_0 : ckq 0 6 in_57 prog_6_method_3_code = true := by decide +kernel
theorem io_57 : ioP 57 := io_of 6 (f := in_57) (cc := prog_6_method_3_code) rfl rfl rfl (ckq_up (a := 0) ckr_0 ch_57_0 (rfl : 0 + 6 = 6))
theorem ch_58_0 : ckq 0 40 in_58 prog_7_method_4_code = true := by decide +kernel
theorem io_58 : ioP 58 := io_of 40 (f := in_58) (cc := prog_7_method_4_code) rfl rfl rfl (ckq_up (a := 0) ckr_0 ch_58_0 (rfl : 0 + 40 = 40))
theorem ch_59_0 : ckq 0 48 in_59 prog_1_method_8_code = true := by decide +kernel
theorem io_59 : ioP 59 := io_of 48 (f := in_59) (cc := prog_1_method_8_code) rfl rfl rfl (ckq_up (a := 0) ckr_0 ch_59_0 (rfl : 0 + 48 = 48))

theorem ch_60_0 : ckq 0 27 in_60 prog_1_method_9_code = true := by decide +kernel
theorem io_60 : ioP 60 := io_of 27 (f := in_60) (cc := prog_1_method_9_code) rfl rfl rfl (ckq_up (a := 0) ckr_0 ch_60_0 (rfl : 0 + 27 = 27))
theorem ch_61_0 : ckq 0 27 in_61 prog_6_method_7_code = true := by decide +kernel
theorem io_61 : ioP 61 := io_of 27 (f := in_61) (cc := prog_6_method_7_code) rfl rfl rfl (ckq_up (a := 0) ckr_0 ch_61_0 (rfl : 0 + 27 = 27))
theorem ch_62_0 : ckq 0 40 in_62 prog_1_method_10_code = true := by decide +kernel
theorem io_62 : ioP 62 := io_of 40 (f := in_62) (cc := prog_1_method_10_code) rfl rfl rfl (ckq_up (a := 0) ckr_0 ch_62_0 (rfl : 0 + 40 = 40))
theorem ch_63_0 : ckq 0 62 in_63 prog_6_method_8_code = true := by decide +kernel
theorem io_63 : ioP 63 := io_of 62 (f := in_63) (cc := prog_6_method_8_code) rfl rfl rfl (ckq_up (a := 0) ckr_0 ch_63_0 (rfl : 0 + 62 = 62))
theorem ch_64_0 : ckq 0 64 in_64 prog_3_method_13_code = true := by decide +kernel
theorem ch_64_1 : ckq 64 64 in_64 prog_3_method_13_code = true := by decide +kernel
theorem ch_64_2 : ckq 128 53 in_64 prog_3_method_13_code = true := by decide +kernel
theorem io_64 : ioP 64 := io_of 181 (f := in_64) (cc := prog_3_method_13_code) rfl rfl rfl (ckq_up (a := 128) (ckq_up (a := 64) (ckq_up (a := 0) ckr_0 ch_64_0 (rfl : 0 + 64 = 64)) ch_64_1 (rfl : 64 + 64 = 128)) ch_64_2 (rfl : 128 + 53 = 181))
theorem ch_65_0 : ckq 0 52 in_65 prog_1_method_44_code = true := by decide +kernel
theorem io_65 : ioP 65 := io_of 52 (f := in_65) (cc := prog_1_method_44_code) rfl rfl rfl (ckq_up (a := 0) ckr_0 ch_65_0 (rfl : 0 + 52 = 52))
theorem ch_66_0 : ckq 0 64 in_66 prog_10_method_8_code = true := by decide +kernel
theorem ch_66_1 : ckq 64 41 in_66 prog_10_method_8_code = true := by decide +kernel
theorem io_66 : ioP 66 := io_of 105 (f := in_66) (cc := prog_10_method_8_code) rfl rfl rfl (ckq_up (a := 64) (ckq_up (a := 0) ckr_0 ch_66_0 (rfl : 0 + 64 = 64)) ch_66_1 (rfl : 64 + 41 = 105))
theorem ch_67_0 : ckq 0 64 in_67 prog_1_method_11_code = true := by decide +kernel
theorem ch_67_1 : ckq 64 64 in_67 prog_1_method_11_code = true := by decide +kernel
theorem ch_67_2 : ckq 128 49 in_67 prog_1_method_11_code = true := by decide +kernel
theorem io_67 : ioP 67 := io_of 177 (f := in_67) (cc := prog_1_method_11_code) rfl rfl rfl (ckq_up (a := 128) (ckq_up (a := 64) (ckq_up (a := 0) ckr_0 ch_67_0 (rfl : 0 + 64 = 64)) ch_67_1 (rfl : 64 + 64 = 128)) ch_67_2 (rfl : 128 + 49 = 177))
theorem ch_68_0 : ckq 0 38 in_68 prog_3_method_4_code = true := by decide +kernel
theorem io_68 : ioP 68 := io_of 38 (f := in_68) (cc := prog_3_method_4_code) rfl rfl rfl (ckq_up (a := 0) ckr_0 ch_68_0 (rfl : 0 + 38 = 38))
theorem ch_69_0 : ckq 0 64 in_69 prog_1_method_12_code = true := by decide +kernel
theorem ch_69_1 : ckq 64 44 in_69 prog_1_method_12_code = true := by decide +kernel
theorem io_69 : ioP 69 := io_of 108 (f := in_69) (cc := prog_1_method_12_code) rfl rfl rfl (ckq_up (a := 64) (ckq_up (a := 0) ckr_0 ch_69_0 (rfl : 0 + 64 = 64)) ch_69_1 (rfl : 64 + 44 = 108))
theorem ch_70_0 : ckq 0 35 in_70 prog_1_method_13_code = true := by decide +kernel
theorem io_70 : ioP 70 := io_of 35 (f := in_70) (cc := prog_1_method_13_code) rfl rfl rfl (ckq_up (a := 0) ckr_0 ch_70_0 (rfl : 0 + 35 = 35))
theorem ch_71_0 : ckq 0 64 in_71 prog_1_method_14_code = true := by decide +kernel
theorem ch_71_1 : ckq 64 38 in_71 prog_1_method_14_code = true := by decide +kernel
theorem io_71 : ioP 71 := io_of 102 (f := in_71) (cc := prog_1_method_14_code) rfl rfl rfl (ckq_up (a := 64) (ckq_up (a := 0) ckr_0 ch_71_0 (rfl : 0 + 64 = 64)) ch_71_1 (rfl : 64 + 38 = 102))

theorem ch_72_0 : ckq 0 34 in_72 prog_1_method_15_code = true := by decide +kernel
theorem io_72 : ioP 72 := io_of 34 (f := in_72) (cc := prog_1_method_15_code) rfl rfl rfl (ckq_up (a := 0) ckr_0 ch_72_0 (rfl : 0 + 34 = 34))
theorem ch_73_0 : ckq 0 64 in_73 prog_1_method_16_code = true := by decide +kernel
theorem ch_73_1 : ckq 64 31 in_73 prog_1_method_16_code = true := by decide +kernel
theorem io_73 : ioP 73 := io_of 95 (f := in_73) (cc := prog_1_method_16_code) rfl rfl rfl (ckq_up (a := 64) (ckq_up (a := 0) ckr_0 ch_73_0 (rfl : 0 + 64 = 64)) ch_73_1 (rfl : 64 + 31 = 95))
theorem ch_74_0 : ckq 0 30 in_74 prog_6_method_5_code = true := by decide +kernel
theorem io_74 : ioP 74 := io_of 30 (f := in_74) (cc := prog_6_method_5_code) rfl rfl rfl (ckq_up (a := 0) ckr_0 ch_74_0 (rfl : 0 + 30 = 30))
theorem ch_75_0 : ckq 0 61 in_75 prog_1_method_17_code = true := by decide +kernel
theorem io_75 : ioP 75 := io_of 61 (f := in_75) (cc := prog_1_method_17_code) rfl rfl rfl (ckq_up (a := 0) ckr_0 ch_75_0 (rfl : 0 + 61 = 61))
theorem ch_76_0 : ckq 0 31 in_76 prog_10_method_2_code = true := by decide +kernel
theorem io_76 : ioP 76 := io_of 31 (f := in_76) (cc := prog_10_method_2_code) rfl rfl rfl (ckq_up (a := 0) ckr_0 ch_76_0 (rfl : 0 + 31 = 31))
theorem ch_77_0 : ckq 0 64 in_77 prog_1_method_18_code = true := by decide +kernel
theorem ch_77_1 : ckq 64 40 in_77 prog_1_method_18_code = true := by decide +kernel
theorem io_77 : ioP 77 := io_of 104 (f := in_77) (cc := prog_1_method_18_code) rfl rfl rfl (ckq_up (a := 64) (ckq_up (a := 0) ckr_0 ch_77_0 (rfl : 0 + 64 = 64)) ch_77_1 (rfl : 64 + 40 = 104))
theorem ch_78_0 : ckq 0 57 in_78 prog_10_method_4_code = true := by decide +kernel
theorem io_78 : ioP 78 := io_of 57 (f := in_78) (cc := prog_10_method_4_code) rfl rfl rfl (ckq_up (a := 0) ckr_0 ch_78_0 (rfl : 0 + 57 = 57))
theorem ch_79_0 : ckq 0 12 in_79 prog_10_method_3_code = true := by decide +kernel
theorem io_79 : ioP 79 := io_of 12 (f := in_79) (cc := prog_10_method_3_code) rfl rfl rfl (ckq_up (a := 0) ckr_0 ch_79_0 (rfl : 0 + 12 = 12))
theorem ch_80_0 : ckq 0 28 in_80 prog_10_method_5_code = true := by decide +kernel
theorem io_80 : ioP 80 := io_of 28 (f := in_80) (cc := prog_10_method_5_code) rfl rfl rfl (ckq_up (a := 0) ckr_0 ch_80_0 (rfl : 0 + 28 = 28))
theorem ch_81_0 : ckq 0 50 in_81 prog_1_method_19_code = true := by decide +kernel
theorem io_81 : ioP 81 := io_of 50 (f := in_81) (cc := prog_1_method_19_code) rfl rfl rfl (ckq_up (a := 0) ckr_0 ch_81_0 (rfl : 0 + 50 = 50))
theorem ch_82_0 : ckq 0 64 in_82 prog_1_method_20_code = true := by decide +kernel
theorem ch_82_1 : ckq 64 64 in_82 prog_1_method_20_code = true := by decide +kernel
theorem ch_82_2 : ckq 128 3 in_82 prog_1_method_20_code = true := by decide +kernel
theorem io_82 : ioP 82 := io_of 131 (f := in_82) (cc := prog_1_method_20_code) rfl rfl rfl (ckq_up (a := 128) (ckq_up (a := 64) (ckq_up (a := 0) ckr_0 ch_82_0 (rfl : 0 + 64 = 64)) ch_82_1 (rfl : 64 + 64 = 128)) ch_82_2 (rfl : 128 + 3 = 131))
theorem ch_83_0 : ckq 0 64 in_83 prog_6_method_9_code = true := by decide +kernel
theorem ch_83_1 : ckq 64 47 in_83 prog_6_method_9_code = true := by decide +kernel
theorem io_83 : ioP 83 := io_of 111 (f := in_83) (cc := prog_6_method_9_code) rfl rfl rfl (ckq_up (a := 64) (ckq_up (a := 0) ckr_0 ch_83_0 (rfl : 0 + 64 = 64)) ch_83_1 (rfl : 64 + 47 = 111))

theorem ch_84_0 : ckq 0 16 in_84 prog_10_method_6_code = true := by decide +kernel
theorem io_84 : ioP 84 := io_of 16 (f := in_84) (cc := prog_10_method_6_code) rfl rfl rfl (ckq_up (a := 0) ckr_0 ch_84_0 (rfl : 0 + 16 = 16))
theorem ch_85_0 : ckq 0 34 in_85 prog_1_method_21_code = true := by decide +kernel
theorem io_85 : ioP 85 := io_of 34 (f := in_85) (cc := prog_1_method_21_code) rfl rfl rfl (ckq_up (a := 0) ckr_0 ch_85_0 (rfl : 0 + 34 = 34))
theorem ch_86_0 : ckq 0 64 in_86 prog_9_method_2_code = true := by decide +kernel
theorem ch_86_1 : ckq 64 7 in_86 prog_9_method_2_code = true := by decide +kernel
theorem io_86 : ioP 86 := io_of 71 (f := in_86) (cc := prog_9_method_2_code) rfl rfl rfl (ckq_up (a := 64) (ckq_up (a := 0) ckr_0 ch_86_0 (rfl : 0 + 64 = 64)) ch_86_1 (rfl : 64 + 7 = 71))
theorem ch_87_0 : ckq 0 64 in_87 prog_9_method_3_code = true := by decide +kernel
theorem ch_87_1 : ckq 64 35 in_87 prog_9_method_3_code = true := by decide +kernel
theorem io_87 : ioP 87 := io_of 99 (f := in_87) (cc := prog_9_method_3_code) rfl rfl rfl (ckq_up (a := 64) (ckq_up (a := 0) ckr_0 ch_87_0 (rfl : 0 + 64 = 64)) ch_87_1 (rfl : 64 + 35 = 99))
theorem ch_88_0 : ckq 0 20 in_88 prog_8_method_4_code = true := by decide +kernel
theorem io_88 : ioP 88 := io_of 20 (f := in_88) (cc := prog_8_method_4_code) rfl rfl rfl (ckq_up (a := 0) ckr_0 ch_88_0 (rfl : 0 + 20 = 20))
theorem ch_89_0 : ckq 0 28 in_89 prog_8_method_5_code = true := by decide +kernel
theorem io_89 : ioP 89 := io_of 28 (f := in_89) (cc := prog_8_method_5_code) rfl rfl rfl (ckq_up (a := 0) ckr_0 ch_89_0 (rfl : 0 + 28 = 28))
theorem ch_90_0 : ckq 0 64 in_90 prog_9_method_4_code = true := by decide +kernel
theorem ch_90_1 : ckq 64 51 in_90 prog_9_method_4_code = true := by decide +kernel
theorem io_90 : ioP 90 := io_of 115 (f := in_90) (cc := prog_9_method_4_code) rfl rfl rfl (ckq_up (a := 64) (ckq_up (a := 0) ckr_0 ch_90_0 (rfl : 0 + 64 = 64)) ch_90_1 (rfl : 64 + 51 = 115))
theorem ch_91_0 : ckq 0 64 in_91 prog_9_method_5_code = true := by decide +kernel
theorem ch_91_1 : ckq 64 64 in_91 prog_9_method_5_code = true := by decide +kernel
theorem ch_91_2 : ckq 128 17 in_91 prog_9_method_5_code = true := by decide +kernel
theorem io_91 : ioP 91 := io_of 145 (f := in_91) (cc := prog_9_method_5_code) rfl rfl rfl (ckq_up (a := 128) (ckq_up (a := 64) (ckq_up (a := 0) ckr_0 ch_91_0 (rfl : 0 + 64 = 64)) ch_91_1 (rfl : 64 + 64 = 128)) ch_91_2 (rfl : 128 + 17 = 145))
theorem ch_92_0 : ckq 0 35 in_92 prog_9_method_6_code = true := by decide +kernel
theorem io_92 : ioP 92 := io_of 35 (f := in_92) (cc := prog_9_method_6_code) rfl rfl rfl (ckq_up (a := 0) ckr_0 ch_92_0 (rfl : 0 + 35 = 35))
theorem ch_93_0 : ckq 0 32 in_93 prog_9_method_7_code = true := by decide +kernel
theorem io_93 : ioP 93 := io_of 32 (f := in_93) (cc := prog_9_method_7_code) rfl rfl rfl (ckq_up (a := 0) ckr_0 ch_93_0 (rfl : 0 + 32 = 32))
theorem ch_94_0 : ckq 0 46 in_94 prog_6_method_10_code = true := by decide +kernel
theorem io_94 : ioP 94 := io_of 46 (f := in_94) (cc := prog_6_method_10_code) rfl rfl rfl (ckq_up (a := 0) ckr_0 ch_94_0 (rfl : 0 + 46 = 46))
theorem ch_95_0 : ckq 0 64 in_95 prog_1_method_22_code = true := by decide +kernel
theorem ch_95_1 : ckq 64 14 in_95 prog_1_method_22_code = true := by decide +kernel
theorem io_95 : ioP 95 := io_of 78 (f := in_95) (cc := prog_1_method_22_code) rfl rfl rfl (ckq_up (a := 64) (ckq_up (a := 0) ckr_0 ch_95_0 (rfl : 0 + 64 = 64)) ch_95_1 (rfl : 64 + 14 = 78))

theorem ch_96_0 : ckq 0 28 in_96 prog_1_method_23_code = true := by decide +kernel
theorem io_96 : ioP 96 := io_of 28 (f := in_96) (cc := prog_1_method_23_code) rfl rfl rfl (ckq_up (a := 0) ckr_0 ch_96_0 (rfl : 0 + 28 = 28))
theorem ch_97_0 : ckq 0 64 in_97 prog_4_method_3_code = true := by decide +kernel
theorem ch_97_1 : ckq 64 42 in_97 prog_4_method_3_code = true := by decide +kernel
theorem io_97 : ioP 97 := io_of 106 (f := in_97) (cc := prog_4_method_3_code) rfl rfl rfl (ckq_up (a := 64) (ckq_up (a := 0) ckr_0 ch_97_0 (rfl : 0 + 64 = 64)) ch_97_1 (rfl : 64 + 42 = 106))
theorem ch_98_0 : ckq 0 17 in_98 prog_4_method_5_code = true := by decide +kernel
theorem io_98 : ioP 98 := io_of 17 (f := in_98) (cc := prog_4_method_5_code) rfl rfl rfl (ckq_up (a := 0) ckr_0 ch_98_0 (rfl : 0 + 17 = 17))
theorem ch_99_0 : ckq 0 61 in_99 prog_4_method_7_code = true := by decide +kernel
theorem io_99 : ioP 99 := io_of 61 (f := in_99) (cc := prog_4_method_7_code) rfl rfl rfl (ckq_up (a := 0) ckr_0 ch_99_0 (rfl : 0 + 61 = 61))
theorem ch_100_0 : ckq 0 53 in_100 prog_4_method_8_code = true := by decide +kernel
theorem io_100 : ioP 100 := io_of 53 (f := in_100) (cc := prog_4_method_8_code) rfl rfl rfl (ckq_up (a := 0) ckr_0 ch_100_0 (rfl : 0 + 53 = 53))
theorem ch_101_0 : ckq 0 43 in_101 prog_10_method_7_code = true := by decide +kernel
theorem io_101 : ioP 101 := io_of 43 (f := in_101) (cc := prog_10_method_7_code) rfl rfl rfl (ckq_up (a := 0) ckr_0 ch_101_0 (rfl : 0 + 43 = 43))
theorem ch_102_0 : ckq 0 16 in_102 prog_4_method_6_code = true := by decide +kernel
theorem io_102 : ioP 102 := io_of 16 (f := in_102) (cc := prog_4_method_6_code) rfl rfl rfl (ckq_up (a := 0) ckr_0 ch_102_0 (rfl : 0 + 16 = 16))
theorem ch_103_0 : ckq 0 64 in_103 prog_4_method_4_code = true := by decide +kernel
theorem ch_103_1 : ckq 64 41 in_103 prog_4_method_4_code = true := by decide +kernel
theorem io_103 : ioP 103 := io_of 105 (f := in_103) (cc := prog_4_method_4_code) rfl rfl rfl (ckq_up (a := 64) (ckq_up (a := 0) ckr_0 ch_103_0 (rfl : 0 + 64 = 64)) ch_103_1 (rfl : 64 + 41 = 105))
theorem ch_104_0 : ckq 0 9 in_104 prog_1_method_24_code = true := by decide +kernel
theorem io_104 : ioP 104 := io_of 9 (f := in_104) (cc := prog_1_method_24_code) rfl rfl rfl (ckq_up (a := 0) ckr_0 ch_104_0 (rfl : 0 + 9 = 9))
theorem ch_105_0 : ckq 0 30 in_105 prog_4_method_2_code = true := by decide +kernel
theorem io_105 : ioP 105 := io_of 30 (f := in_105) (cc := prog_4_method_2_code) rfl rfl rfl (ckq_up (a := 0) ckr_0 ch_105_0 (rfl : 0 + 30 = 30))
theorem ch_106_0 : ckq 0 24 in_106 prog_1_method_25_code = true := by decide +kernel
theorem io_106 : ioP 106 := io_of 24 (f := in_106) (cc := prog_1_method_25_code) rfl rfl rfl (ckq_up (a := 0) ckr_0 ch_106_0 (rfl : 0 + 24 = 24))
theorem ch_107_0 : ckq 0 53 in_107 prog_5_method_2_code = true := by decide +kernel
theorem io_107 : ioP 107 := io_of 53 (f := in_107) (cc := prog_5_method_2_code) rfl rfl rfl (ckq_up (a := 0) ckr_0 ch_107_0 (rfl : 0 + 53 = 53))

theorem ch_108_0 : ckq 0 64 in_108 prog_5_method_3_code = true := by decide +kernel
theorem ch_108_1 : ckq 64 42 in_108 prog_5_method_3_code = true := by decide +kernel
theorem io_108 : ioP 108 := io_of 106 (f := in_108) (cc := prog_5_method_3_code) rfl rfl rfl (ckq_up (a := 64) (ckq_up (a := 0) ckr_0 ch_108_0 (rfl : 0 + 64 = 64)) ch_108_1 (rfl : 64 + 42 = 106))
theorem ch_109_0 : ckq 0 52 in_109 prog_5_method_5_code = true := by decide +kernel
theorem io_109 : ioP 109 := io_of 52 (f := in_109) (cc := prog_5_method_5_code) rfl rfl rfl (ckq_up (a := 0) ckr_0 ch_109_0 (rfl : 0 + 52 = 52))
theorem ch_110_0 : ckq 0 26 in_110 prog_5_method_4_code = true := by decide +kernel
theorem io_110 : ioP 110 := io_of 26 (f := in_110) (cc := prog_5_method_4_code) rfl rfl rfl (ckq_up (a := 0) ckr_0 ch_110_0 (rfl : 0 + 26 = 26))
theorem ch_111_0 : ckq 0 64 in_111 prog_5_method_6_code = true := by decide +kernel
theorem ch_111_1 : ckq 64 42 in_111 prog_5_method_6_code = true := by decide +kernel
theorem io_111 : ioP 111 := io_of 106 (f := in_111) (cc := prog_5_method_6_code) rfl rfl rfl (ckq_up (a := 64) (ckq_up (a := 0) ckr_0 ch_111_0 (rfl : 0 + 64 = 64)) ch_111_1 (rfl : 64 + 42 = 106))
theorem ch_112_0 : ckq 0 52 in_112 prog_5_method_7_code = true := by decide +kernel
theorem io_112 : ioP 112 := io_of 52 (f := in_112) (cc := prog_5_method_7_code) rfl rfl rfl (ckq_up (a := 0) ckr_0 ch_112_0 (rfl : 0 + 52 = 52))
theorem ch_113_0 : ckq 0 53 in_113 prog_13_method_49_code = true := by decide +kernel
theorem io_113 : ioP 113 := io_of 53 (f := in_113) (cc := prog_13_method_49_code) rfl rfl rfl (ckq_up (a := 0) ckr_0 ch_113_0 (rfl : 0 + 53 = 53))
theorem ch_114_0 : ckq 0 64 in_114 prog_5_method_8_code = true := by decide +kernel
theorem ch_114_1 : ckq 64 23 in_114 prog_5_method_8_code = true := by decide +kernel
theorem io_114 : ioP 114 := io_of 87 (f := in_114) (cc := prog_5_method_8_code) rfl rfl rfl (ckq_up (a := 64) (ckq_up (a := 0) ckr_0 ch_114_0 (rfl : 0 + 64 = 64)) ch_114_1 (rfl : 64 + 23 = 87))
theorem ch_115_0 : ckq 0 64 in_115 prog_1_method_26_code = true := by decide +kernel
theorem ch_115_1 : ckq 64 2 in_115 prog_1_method_26_code = true := by decide +kernel
theorem io_115 : ioP 115 := io_of 66 (f := in_115) (cc := prog_1_method_26_code) rfl rfl rfl (ckq_up (a := 64) (ckq_up (a := 0) ckr_0 ch_115_0 (rfl : 0 + 64 = 64)) ch_115_1 (rfl : 64 + 2 = 66))
theorem ch_116_0 : ckq 0 64 in_116 prog_1_method_27_code = true := by decide +kernel
theorem ch_116_1 : ckq 64 7 in_116 prog_1_method_27_code = true := by decide +kernel
theorem io_116 : ioP 116 := io_of 71 (f := in_116) (cc := prog_1_method_27_code) rfl rfl rfl (ckq_up (a := 64) (ckq_up (a := 0) ckr_0 ch_116_0 (rfl : 0 + 64 = 64)) ch_116_1 (rfl : 64 + 7 = 71))
theorem ch_117_0 : ckq 0 46 in_117 prog_3_method_7_code = true := by decide +kernel
theorem io_117 : ioP 117 := io_of 46 (f := in_117) (cc := prog_3_method_7_code) rfl rfl rfl (ckq_up (a := 0) ckr_0 ch_117_0 (rfl : 0 + 46 = 46))
theorem ch_118_0 : ckq 0 28 in_118 prog_1_method_34_code = true := by decide +kernel
theorem io_118 : ioP 118 := io_of 28 (f := in_118) (cc := prog_1_method_34_code) rfl rfl rfl (ckq_up (a := 0) ckr_0 ch_118_0 (rfl : 0 + 28 = 28))
theorem ch_119_0 : ckq 0 64 in_119 prog_1_method_28_code = true := by decide +kernel
theorem ch_119_1 : ckq 64 22 in_119 prog_1_method_28_code = true := by decide +kernel
theorem io_119 : ioP 119 := io_of 86 (f := in_119) (cc := prog_1_method_28_code) rfl rfl rfl (ckq_up (a := 64) (ckq_up (a := 0) ckr_0 ch_119_0 (rfl : 0 + 64 = 64)) ch_119_1 (rfl : 64 + 22 = 86))

