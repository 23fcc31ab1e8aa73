theorem ioC_0 : ∀ a, a < 12 → ioP a := (lt_s (lt_s (lt_s (lt_s (lt_s (lt_s (lt_s (lt_s (lt_s (lt_s (lt_s (lt_s lt_0 io_0) io_1) io_2) io_3) io_4) io_5) io_6) io_7) io_8) io_9) io_10) io_11)
theorem ioC_1 : ∀ a, a < 24 → ioP a := (lt_s (lt_s (lt_s (lt_s (lt_s (lt_s (lt_s (lt_s (lt_s (lt_s (lt_s (lt_s ioC_0 io_12) io_13) io_14) io_15) io_16) io_17) io_18) io_19) io_20) io_21) io_22) io_23)
theorem ioC_2 : ∀ a, a < 36 → ioP a := (lt_s (lt_s (lt_s (lt_s (lt_s (lt_s (lt_s (lt_s (lt_s (lt_s (lt_s (lt_s ioC_1 io_24) io_25) io_26) io_27) io_28) io_29) io_30) io_31) io_32) io_33) io_34) io_35)
theorem ioC_3 : ∀ a, a < 48 → ioP a := (lt_s (lt_s (lt_s (lt_s (lt_s (lt_s (lt_s (lt_s (lt_s (lt_s (lt_s (lt_s ioC_2 io_36) io_37) io_38) io_39) io_40) io_41) io_42) io_43) io_44) io_45) io_46) io_47)
theorem ioC_4 : ∀ a, a < 60 → ioP a := (lt_s (lt_s (lt_s (lt_s (lt_s (lt_s (lt_s (lt_s (lt_s (lt_s (lt_s (lt_s ioC_3 io_48) io_49) io_50) io_51) io_52) io_53) io_54) io_55) io_56) io_57) io_58) io_59)
theorem ioC_5 : ∀ a, a < 72 → ioP a := (lt_s (lt_s (lt_s (lt_s (lt_s (lt_s (lt_s (lt_s (lt_s (lt_s (lt_s (lt_s ioC_4 io_60) io_61) io_62) io_63) io_64) io_65) io_66) io_67) io_68) io_69) io_70) io_71)
theorem ioC_6 : ∀ a, a < 84 → ioP a := (lt_s (lt_s (lt_s (lt_s (lt_s (lt_s (lt_s (lt_s (lt_s (lt_s (lt_s (lt_s ioC_5 io_72) io_73) io_74) io_75) io_76) io_77) io_78) io_79) io_80) io_81) io_82) io_83)
theorem ioC_7 : ∀ a, a < 96 → ioP a := (lt_s (lt_s (lt_s (lt_s (lt_s (lt_s (lt_s (lt_s (lt_s (lt_s (lt_s (lt_s ioC_6 io_84) io_85) io_86) io_87) io_88) io_89) io_90) io_91) io_92) io_93) io_94) io_95)
theorem ioC_8 : ∀ a, a < 108 → ioP a := (lt_s (lt_s (lt_s (lt_s (lt_s (lt_s (lt_s (lt_s (lt_s (lt_s (lt_s (lt_s ioC_7 io_96) io_97) io_98) io_99) io_100) io_101) io_102) io_103) io_104) io_105) io_106) io_107)
theorem ioC_9 : ∀ a, a < 120 → ioP a := (lt_s (lt_s (lt_s (lt_s (lt_s (lt_s (lt_s (lt_s (lt_s (lt_s (lt_s (lt_s ioC_8 io_108) io_109) io_110) io_111) io_112) io_113) io_114) io_115) io_116) io_117) io_118) io_119)
theorem ioC_10 : ∀ a, a < 132 → ioP a := (lt_s (lt_s (lt_s (lt_s (lt_s (lt_s (lt_s (lt_s (lt_s (lt_s (lt_s (lt_s ioC_9 io_120) io_121) io_122) io_123) io_124) io_125) io_126) io_127) io_128) io_129) io_130) io_131)
theorem ioC_11 : ∀ a, a < 144 → ioP a := (lt_s (lt_s (lt_s (lt_s (lt_s (lt_s (lt_s (lt_s (lt_s (lt_s (lt_s (lt_s ioC_10 io_132) io_133) io_134) io_135) io_136) io_137) io_138) io_139) io_140) io_141) io_142) io_143)
theorem ioC_12 : ∀ a, a < 156 → ioP a := (lt_s (lt_s (lt_s (lt_s (lt_s (lt_s (lt_s (lt_s (lt_s (lt_s (lt_s (lt_s ioC_11 io_144) io_145) io_146) io_147) io_148) io_149) io_150) io_151) io_152) io_153) io_154) io_155)
theorem ioC_13 : ∀ a, a < 168 → ioP a := (lt_s (lt_s (lt_s (lt_s (lt_s (lt_s (lt_s (lt_s (lt_s (lt_s (lt_s (lt_s ioC_12 io_156) io_157) io_158) io_159) io_160) io_161) io_162) io_163) io_164) io_165) io_166) io_167)
theorem ioC_14 : ∀ a, a < 180 → ioP a := (lt_s (lt_s (lt_s (lt_s (lt_s (lt_s (lt_s (lt_s (lt_s (lt_s (lt_s (lt_s ioC_13 io_168) io_169) io_170) io_171) io_172) io_173) io_174) io_175) io_176) io_177) io_178) io_179)
theorem ioC_15 : ∀ a, a < 183 → ioP a := (lt_s (lt_s (lt_s ioC_14 io_180) io_181) io_182)
theorem ins_ok {k pc : Nat} {i : Instr} {n : Nat} (h : ins k pc = some (i, n)) : decode (codeK k) pc = .ok (i, n) ∧ lenOk i n = true := by
  have hk : k < 183 := by
    cases hb : Nat.ble 183 k with
    | true => unfold ins at h; rw [hb] at h; cases h
    | false => exact Nat.lt_of_not_le fun hle => by rw [Nat.ble_eq_true_of_le hle] at hb; cases hb
  exact ioC_15 k hk pc i n h
