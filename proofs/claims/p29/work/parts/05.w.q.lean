def wcK (k : Nat) : Nat := [0, 70, 80, 110, 130, 158, 176, 182, 240, 269, 275, 410, 414, 417, 421, 425, 429, 433, 437, 442, 445, 449, 453, 456, 459, 462, 465, 469, 472, 480, 484, 490, 495, 499, 503, 507, 511, 515, 518, 522, 526, 529, 533, 537, 541, 545, 549, 553, 557, 561, 565, 570, 574, 578, 585, 589, 593, 597, 602, 607, 611, 615, 619, 623, 627, 630, 634, 639, 643, 647, 653, 657, 661, 666, 670, 674, 678, 682, 686, 690, 694, 698, 702, 707, 711, 717, 721, 725, 729, 734, 739, 745, 750, 755, 759, 764, 768, 772, 777, 780, 783, 787, 791, 795, 799, 803, 807, 811, 815, 821, 825, 829, 833, 836, 843, 847, 851, 855, 858, 862, 867, 870, 0, 877, 881, 885, 889, 894, 1060, 1063, 1066, 1069, 1073, 1077, 1081, 1085, 1089, 1093, 1097, 1101, 1105, 1109, 1113, 1117, 1121, 1125, 1129, 1133, 1137, 1141, 1145, 1149, 1153, 1157, 1161, 1165, 1169, 1173, 1177, 1181, 1186, 1190, 1194, 1198, 1202, 1206, 1210, 1214, 1218, 1221, 1224, 1228, 1232, 1236, 1240, 1244, 1248, 1252, 1256, 1260, 1264, 1268, 1272].getD k 0
def codeP (k : Nat) : Prop := k = 0 ∨ k = 122 ∨ lw_tbl[wcK k]? = some (.code (yK k) (codeK k) (mxl k) (retK k))
theorem cd_0 : ∀ a, a < 0 → codeP a := fun _ h => absurd h (Nat.not_lt_zero _)
theorem cd_s {n : Nat} (h : ∀ a, a < n → codeP a) (h1 : codeP n) : ∀ a, a < n + 1 → codeP a := fun a ha => (Nat.lt_succ_iff_lt_or_eq.mp ha).elim (h a) (fun e => e ▸ h1)
theorem mc_0 : codeP 0 := Or.inl rfl
set_option maxRecDepth 100000 in
theorem mc_1 : codeP 1 := Or.inr (Or.inr rfl)
set_option maxRecDepth 100000 in
theorem mc_2 : codeP 2 := Or.inr (Or.inr rfl)
set_option maxRecDepth 100000 in
theorem mc_3 : codeP 3 := Or.inr (Or.inr rfl)
set_option maxRecDepth 100000 in
theorem mc_4 : codeP 4 := Or.inr (Or.inr rfl)
set_option maxRecDepth 100000 in
theorem mc_5 : codeP 5 := Or.inr (Or.inr rfl)
set_option maxRecDepth 100000 in
theorem mc_6 : codeP 6 := Or.inr (Or.inr rfl)
set_option maxRecDepth 100000 in
theorem mc_7 : codeP 7 := Or.inr (Or.inr rfl)
set_option maxRecDepth 100000 in
theorem mc_8 : codeP 8 := Or.inr (Or.inr rfl)
set_option maxRecDepth 100000 in
theorem mc_9 : codeP 9 := Or.inr (Or.inr rfl)
set_option maxRecDepth 100000 in
theorem mc_10 : codeP 10 := Or.inr (Or.inr rfl)
set_option maxRecDepth 100000 in
theorem mc_11 : codeP 11 := Or.inr (Or.inr rfl)
set_option maxRecDepth 100000 in
theorem mc_12 : codeP 12 := Or.inr (Or.inr rfl)
set_option maxRecDepth 100000 in
theorem mc_13 : codeP 13 := Or.inr (Or.inr rfl)
set_option maxRecDepth 100000 in
theorem mc_14 : codeP 14 := Or.inr (Or.inr rfl)
set_option maxRecDepth 100000 in
theorem mc_15 : codeP 15 := Or.inr (Or.inr rfl)
set_option maxRecDepth 100000 in
theorem mc_16 : codeP 16 := Or.inr (Or.inr rfl)
set_option maxRecDepth 100000 in
theorem mc_17 : codeP 17 := Or.inr (Or.inr rfl)
set_option maxRecDepth 100000 in
theorem mc_18 : codeP 18 := Or.inr (Or.inr rfl)
set_option maxRecDepth 100000 in
theorem mc_19 : codeP 19 := Or.inr (Or.inr rfl)
set_option maxRecDepth 100000 in
theorem mc_20 : codeP 20 := Or.inr (Or.inr rfl)
set_option maxRecDepth 100000 in
theorem mc_21 : codeP 21 := Or.inr (Or.inr rfl)
set_option maxRecDepth 100000 in
theorem mc_22 : codeP 22 := Or.inr (Or.inr rfl)
set_option maxRecDepth 100000 in
theorem mc_23 : codeP 23 := Or.inr (Or.inr rfl)
set_option maxRecDepth 100000 in
theorem mc_24 : codeP 24 := Or.inr (Or.inr rfl)
set_option maxRecDepth 100000 in
theorem mc_25 : codeP 25 := Or.inr (Or.inr rfl)
set_option maxRecDepth 100000 in
theorem mc_26 : codeP 26 := Or.inr (Or.inr rfl)
set_option maxRecDepth 100000 in
theorem mc_27 : codeP 27 := Or.inr (Or.inr rfl)
set_option maxRecDepth 100000 in
theorem mc_28 : codeP 28 := Or.inr (Or.inr rfl)
set_option maxRecDepth 100000 in
theorem mc_29 : codeP 29 := Or.inr (Or.inr rfl)
set_option maxRecDepth 100000 in
theorem mc_30 : codeP 30 := Or.inr (Or.inr rfl)
set_option maxRecDepth 100000 in
theorem mc_31 : codeP 31 := Or.inr (Or.inr rfl)
set_option maxRecDepth 100000 in
theorem mc_32 : codeP 32 := Or.inr (Or.inr rfl)
set_option maxRecDepth 100000 in
theorem mc_33 : codeP 33 := Or.inr (Or.inr rfl)
set_option maxRecDepth 100000 in
theorem mc_34 : codeP 34 := Or.inr (Or.inr rfl)
set_option maxRecDepth 100000 in
theorem mc_35 : codeP 35 := Or.inr (Or.inr rfl)
set_option maxRecDepth 100000 in
theorem mc_36 : codeP 36 := Or.inr (Or.inr rfl)
set_option maxRecDepth 100000 in
theorem mc_37 : codeP 37 := Or.inr (Or.inr rfl)
set_option maxRecDepth 100000 in
theorem mc_38 : codeP 38 := Or.inr (Or.inr rfl)
set_option maxRecDepth 100000 in
theorem mc_39 : codeP 39 := Or.inr (Or.inr rfl)
set_option maxRecDepth 100000 in
theorem mc_40 : codeP 40 := Or.inr (Or.inr rfl)
set_option maxRecDepth 100000 in
theorem mc_41 : codeP 41 := Or.inr (Or.inr rfl)
set_option maxRecDepth 100000 in
theorem mc_42 : codeP 42 := Or.inr (Or.inr rfl)
set_option maxRecDepth 100000 in
theorem mc_43 : codeP 43 := Or.inr (Or.inr rfl)
set_option maxRecDepth 100000 in
theorem mc_44 : codeP 44 := Or.inr (Or.inr rfl)
set_option maxRecDepth 100000 in
theorem mc_45 : codeP 45 := Or.inr (Or.inr rfl)
set_option maxRecDepth 100000 in
theorem mc_46 : codeP 46 := Or.inr (Or.inr rfl)
set_option maxRecDepth 100000 in
theorem mc_47 : codeP 47 := Or.inr (Or.inr rfl)
set_option maxRecDepth 100000 in
theorem mc_48 : codeP 48 := Or.inr (Or.inr rfl)
set_option maxRecDepth 100000 in
theorem mc_49 : codeP 49 := Or.inr (Or.inr rfl)
set_option maxRecDepth 100000 in
theorem mc_50 : codeP 50 := Or.inr (Or.inr rfl)
set_option maxRecDepth 100000 in
theorem mc_51 : codeP 51 := Or.inr (Or.inr rfl)
set_option maxRecDepth 100000 in
theorem mc_52 : codeP 52 := Or.inr (Or.inr rfl)
set_option maxRecDepth 100000 in
theorem mc_53 : codeP 53 := Or.inr (Or.inr rfl)
set_option maxRecDepth 100000 in
theorem mc_54 : codeP 54 := Or.inr (Or.inr rfl)
set_option maxRecDepth 100000 in
theorem mc_55 : codeP 55 := Or.inr (Or.inr rfl)
set_option maxRecDepth 100000 in
theorem mc_56 : codeP 56 := Or.inr (Or.inr rfl)
set_option maxRecDepth 100000 in
theorem mc_57 : codeP 57 := Or.inr (Or.inr rfl)
set_option maxRecDepth 100000 in
theorem mc_58 : codeP 58 := Or.inr (Or.inr rfl)
set_option maxRecDepth 100000 in
theorem mc_59 : codeP 59 := Or.inr (Or.inr rfl)
set_option maxRecDepth 100000 in
theorem mc_60 : codeP 60 := Or.inr (Or.inr rfl)
set_option maxRecDepth 100000 in
theorem mc_61 : codeP 61 := Or.inr (Or.inr rfl)
set_option maxRecDepth 100000 in
theorem mc_62 : codeP 62 := Or.inr (Or.inr rfl)
set_option maxRecDepth 100000 in
theorem mc_63 : codeP 63 := Or.inr (Or.inr rfl)
set_option maxRecDepth 100000 in
theorem mc_64 : codeP 64 := Or.inr (Or.inr rfl)
set_option maxRecDepth 100000 in
theorem mc_65 : codeP 65 := Or.inr (Or.inr rfl)
set_option maxRecDepth 100000 in
theorem mc_66 : codeP 66 := Or.inr (Or.inr rfl)
set_option maxRecDepth 100000 in
theorem mc_67 : codeP 67 := Or.inr (Or.inr rfl)
set_option maxRecDepth 100000 in
theorem mc_68 : codeP 68 := Or.inr (Or.inr rfl)
set_option maxRecDepth 100000 in
theorem mc_69 : codeP 69 := Or.inr (Or.inr rfl)
set_option maxRecDepth 100000 in
theorem mc_70 : codeP 70 := Or.inr (Or.inr rfl)
set_option maxRecDepth 100000 in
theorem mc_71 : codeP 71 := Or.inr (Or.inr rfl)
set_option maxRecDepth 100000 in
theorem mc_72 : codeP 72 := Or.inr (Or.inr rfl)
set_option maxRecDepth 100000 in
theorem mc_73 : codeP 73 := Or.inr (Or.inr rfl)
set_option maxRecDepth 100000 in
theorem mc_74 : codeP 74 := Or.inr (Or.inr rfl)
set_option maxRecDepth 100000 in
theorem mc_75 : codeP 75 := Or.inr (Or.inr rfl)
set_option maxRecDepth 100000 in
theorem mc_76 : codeP 76 := Or.inr (Or.inr rfl)
set_option maxRecDepth 100000 in
theorem mc_77 : codeP 77 := Or.inr (Or.inr rfl)
set_option maxRecDepth 100000 in
theorem mc_78 : codeP 78 := Or.inr (Or.inr rfl)
set_option maxRecDepth 100000 in
theorem mc_79 : codeP 79 := Or.inr (Or.inr rfl)
set_option maxRecDepth 100000 in
theorem mc_80 : codeP 80 := Or.inr (Or.inr rfl)
set_option maxRecDepth 100000 in
theorem mc_81 : codeP 81 := Or.inr (Or.inr rfl)
set_option maxRecDepth 100000 in
theorem mc_82 : codeP 82 := Or.inr (Or.inr rfl)
set_option maxRecDepth 100000 in
theorem mc_83 : codeP 83 := Or.inr (Or.inr rfl)
set_option maxRecDepth 100000 in
theorem mc_84 : codeP 84 := Or.inr (Or.inr rfl)
set_option maxRecDepth 100000 in
theorem mc_85 : codeP 85 := Or.inr (Or.inr rfl)
set_option maxRecDepth 100000 in
theorem mc_86 : codeP 86 := Or.inr (Or.inr rfl)
set_option maxRecDepth 100000 in
theorem mc_87 : codeP 87 := Or.inr (Or.inr rfl)
set_option maxRecDepth 100000 in
theorem mc_88 : codeP 88 := Or.inr (Or.inr rfl)
set_option maxRecDepth 100000 in
theorem mc_89 : codeP 89 := Or.inr (Or.inr rfl)
set_option maxRecDepth 100000 in
theorem mc_90 : codeP 90 := Or.inr (Or.inr rfl)
set_option maxRecDepth 100000 in
theorem mc_91 : codeP 91 := Or.inr (Or.inr rfl)
set_option maxRecDepth 100000 in
theorem mc_92 : codeP 92 := Or.inr (Or.inr rfl)
set_option maxRecDepth 100000 in
theorem mc_93 : codeP 93 := Or.inr (Or.inr rfl)
set_option maxRecDepth 100000 in
theorem mc_94 : codeP 94 := Or.inr (Or.inr rfl)
set_option maxRecDepth 100000 in
theorem mc_95 : codeP 95 := Or.inr (Or.inr rfl)
set_option maxRecDepth 100000 in
theorem mc_96 : codeP 96 := Or.inr (Or.inr rfl)
set_option maxRecDepth 100000 in
theorem mc_97 : codeP 97 := Or.inr (Or.inr rfl)
set_option maxRecDepth 100000 in
theorem mc_98 : codeP 98 := Or.inr (Or.inr rfl)
set_option maxRecDepth 100000 in
theorem mc_99 : codeP 99 := Or.inr (Or.inr rfl)
set_option maxRecDepth 100000 in
theorem mc_100 : codeP 100 := Or.inr (Or.inr rfl)
set_option maxRecDepth 100000 in
theorem mc_101 : codeP 101 := Or.inr (Or.inr rfl)
set_option maxRecDepth 100000 in
theorem mc_102 : codeP 102 := Or.inr (Or.inr rfl)
set_option maxRecDepth 100000 in
theorem mc_103 : codeP 103 := Or.inr (Or.inr rfl)
set_option maxRecDepth 100000 in
theorem mc_104 : codeP 104 := Or.inr (Or.inr rfl)
set_option maxRecDepth 100000 in
theorem mc_105 : codeP 105 := Or.inr (Or.inr rfl)
set_option maxRecDepth 100000 in
theorem mc_106 : codeP 106 := Or.inr (Or.inr rfl)
set_option maxRecDepth 100000 in
theorem mc_107 : codeP 107 := Or.inr (Or.inr rfl)
set_option maxRecDepth 100000 in
theorem mc_108 : codeP 108 := Or.inr (Or.inr rfl)
set_option maxRecDepth 100000 in
theorem mc_109 : codeP 109 := Or.inr (Or.inr rfl)
set_option maxRecDepth 100000 in
theorem mc_110 : codeP 110 := Or.inr (Or.inr rfl)
set_option maxRecDepth 100000 in
theorem mc_111 : codeP 111 := Or.inr (Or.inr rfl)
set_option maxRecDepth 100000 in
theorem mc_112 : codeP 112 := Or.inr (Or.inr rfl)
set_option maxRecDepth 100000 in
theorem mc_113 : codeP 113 := Or.inr (Or.inr rfl)
set_option maxRecDepth 100000 in
theorem mc_114 : codeP 114 := Or.inr (Or.inr rfl)
set_option maxRecDepth 100000 in
theorem mc_115 : codeP 115 := Or.inr (Or.inr rfl)
set_option maxRecDepth 100000 in
theorem mc_116 : codeP 116 := Or.inr (Or.inr rfl)
set_option maxRecDepth 100000 in
theorem mc_117 : codeP 117 := Or.inr (Or.inr rfl)
set_option maxRecDepth 100000 in
theorem mc_118 : codeP 118 := Or.inr (Or.inr rfl)
set_option maxRecDepth 100000 in
theorem mc_119 : codeP 119 := Or.inr (Or.inr rfl)
set_option maxRecDepth 100000 in
theorem mc_120 : codeP 120 := Or.inr (Or.inr rfl)
set_option maxRecDepth 100000 in
theorem mc_121 : codeP 121 := Or.inr (Or.inr rfl)
theorem mc_122 : codeP 122 := Or.inr (Or.inl rfl)
set_option maxRecDepth 100000 in
theorem mc_123 : codeP 123 := Or.inr (Or.inr rfl)
set_option maxRecDepth 100000 in
theorem mc_124 : codeP 124 := Or.inr (Or.inr rfl)
set_option maxRecDepth 100000 in
theorem mc_125 : codeP 125 := Or.inr (Or.inr rfl)
set_option maxRecDepth 100000 in
theorem mc_126 : codeP 126 := Or.inr (Or.inr rfl)
set_option maxRecDepth 100000 in
theorem mc_127 : codeP 127 := Or.inr (Or.inr rfl)
set_option maxRecDepth 100000 in
theorem mc_128 : codeP 128 := Or.inr (Or.inr rfl)
set_option maxRecDepth 100000 in
theorem mc_129 : codeP 129 := Or.inr (Or.inr rfl)
set_option maxRecDepth 100000 in
theorem mc_130 : codeP 130 := Or.inr (Or.inr rfl)
set_option maxRecDepth 100000 in
theorem mc_131 : codeP 131 := Or.inr (Or.inr rfl)
set_option maxRecDepth 100000 in
theorem mc_132 : codeP 132 := Or.inr (Or.inr rfl)
set_option maxRecDepth 100000 in
theorem mc_133 : codeP 133 := Or.inr (Or.inr rfl)
set_option maxRecDepth 100000 in
theorem mc_134 : codeP 134 := Or.inr (Or.inr rfl)
set_option maxRecDepth 100000 in
theorem mc_135 : codeP 135 := Or.inr (Or.inr rfl)
set_option maxRecDepth 100000 in
theorem mc_136 : codeP 136 := Or.inr (Or.inr rfl)
set_option maxRecDepth 100000 in
theorem mc_137 : codeP 137 := Or.inr (Or.inr rfl)
set_option maxRecDepth 100000 in
theorem mc_138 : codeP 138 := Or.inr (Or.inr rfl)
set_option maxRecDepth 100000 in
theorem mc_139 : codeP 139 := Or.inr (Or.inr rfl)
set_option maxRecDepth 100000 in
theorem mc_140 : codeP 140 := Or.inr (Or.inr rfl)
set_option maxRecDepth 100000 in
theorem mc_141 : codeP 141 := Or.inr (Or.inr rfl)
set_option maxRecDepth 100000 in
theorem mc_142 : codeP 142 := Or.inr (Or.inr rfl)
set_option maxRecDepth 100000 in
theorem mc_143 : codeP 143 := Or.inr (Or.inr rfl)
set_option maxRecDepth 100000 in
theorem mc_144 : codeP 144 := Or.inr (Or.inr rfl)
set_option maxRecDepth 100000 in
theorem mc_145 : codeP 145 := Or.inr (Or.inr rfl)
set_option maxRecDepth 100000 in
theorem mc_146 : codeP 146 := Or.inr (Or.inr rfl)
set_option maxRecDepth 100000 in
theorem mc_147 : codeP 147 := Or.inr (Or.inr rfl)
set_option maxRecDepth 100000 in
theorem mc_148 : codeP 148 := Or.inr (Or.inr rfl)
set_option maxRecDepth 100000 in
theorem mc_149 : codeP 149 := Or.inr (Or.inr rfl)
set_option maxRecDepth 100000 in
theorem mc_150 : codeP 150 := Or.inr (Or.inr rfl)
set_option maxRecDepth 100000 in
theorem mc_151 : codeP 151 := Or.inr (Or.inr rfl)
set_option maxRecDepth 100000 in
theorem mc_152 : codeP 152 := Or.inr (Or.inr rfl)
set_option maxRecDepth 100000 in
theorem mc_153 : codeP 153 := Or.inr (Or.inr rfl)
set_option maxRecDepth 100000 in
theorem mc_154 : codeP 154 := Or.inr (Or.inr rfl)
set_option maxRecDepth 100000 in
theorem mc_155 : codeP 155 := Or.inr (Or.inr rfl)
set_option maxRecDepth 100000 in
theorem mc_156 : codeP 156 := Or.inr (Or.inr rfl)
set_option maxRecDepth 100000 in
theorem mc_157 : codeP 157 := Or.inr (Or.inr rfl)
set_option maxRecDepth 100000 in
theorem mc_158 : codeP 158 := Or.inr (Or.inr rfl)
set_option maxRecDepth 100000 in
theorem mc_159 : codeP 159 := Or.inr (Or.inr rfl)
set_option maxRecDepth 100000 in
theorem mc_160 : codeP 160 := Or.inr (Or.inr rfl)
set_option maxRecDepth 100000 in
theorem mc_161 : codeP 161 := Or.inr (Or.inr rfl)
set_option maxRecDepth 100000 in
theorem mc_162 : codeP 162 := Or.inr (Or.inr rfl)
set_option maxRecDepth 100000 in
theorem mc_163 : codeP 163 := Or.inr (Or.inr rfl)
set_option maxRecDepth 100000 in
theorem mc_164 : codeP 164 := Or.inr (Or.inr rfl)
set_option maxRecDepth 100000 in
theorem mc_165 : codeP 165 := Or.inr (Or.inr rfl)
set_option maxRecDepth 100000 in
theorem mc_166 : codeP 166 := Or.inr (Or.inr rfl)
set_option maxRecDepth 100000 in
theorem mc_167 : codeP 167 := Or.inr (Or.inr rfl)
set_option maxRecDepth 100000 in
theorem mc_168 : codeP 168 := Or.inr (Or.inr rfl)
set_option maxRecDepth 100000 in
theorem mc_169 : codeP 169 := Or.inr (Or.inr rfl)
set_option maxRecDepth 100000 in
theorem mc_170 : codeP 170 := Or.inr (Or.inr rfl)
set_option maxRecDepth 100000 in
theorem mc_171 : codeP 171 := Or.inr (Or.inr rfl)
set_option maxRecDepth 100000 in
theorem mc_172 : codeP 172 := Or.inr (Or.inr rfl)
set_option maxRecDepth 100000 in
theorem mc_173 : codeP 173 := Or.inr (Or.inr rfl)
set_option maxRecDepth 100000 in
theorem mc_174 : codeP 174 := Or.inr (Or.inr rfl)
set_option maxRecDepth 100000 in
theorem mc_175 : codeP 175 := Or.inr (Or.inr rfl)
set_option maxRecDepth 100000 in
theorem mc_176 : codeP 176 := Or.inr (Or.inr rfl)
set_option maxRecDepth 100000 in
theorem mc_177 : codeP 177 := Or.inr (Or.inr rfl)
set_option maxRecDepth 100000 in
theorem mc_178 : codeP 178 := Or.inr (Or.inr rfl)
set_option maxRecDepth 100000 in
theorem mc_179 : codeP 179 := Or.inr (Or.inr rfl)
set_option maxRecDepth 100000 in
theorem mc_180 : codeP 180 := Or.inr (Or.inr rfl)
set_option maxRecDepth 100000 in
theorem mc_181 : codeP 181 := Or.inr (Or.inr rfl)
set_option maxRecDepth 100000 in
theorem mc_182 : codeP 182 := Or.inr (Or.inr rfl)
theorem cdC_12 : ∀ a, a < 12 → codeP a := (cd_s (cd_s (cd_s (cd_s (cd_s (cd_s (cd_s (cd_s (cd_s (cd_s (cd_s (cd_s cd_0 mc_0) mc_1) mc_2) mc_3) mc_4) mc_5) mc_6) mc_7) mc_8) mc_9) mc_10) mc_11)
theorem cdC_24 : ∀ a, a < 24 → codeP a := (cd_s (cd_s (cd_s (cd_s (cd_s (cd_s (cd_s (cd_s (cd_s (cd_s (cd_s (cd_s cdC_12 mc_12) mc_13) mc_14) mc_15) mc_16) mc_17) mc_18) mc_19) mc_20) mc_21) mc_22) mc_23)
theorem cdC_36 : ∀ a, a < 36 → codeP a := (cd_s (cd_s (cd_s (cd_s (cd_s (cd_s (cd_s (cd_s (cd_s (cd_s (cd_s (cd_s cdC_24 mc_24) mc_25) mc_26) mc_27) mc_28) mc_29) mc_30) mc_31) mc_32) mc_33) mc_34) mc_35)
theorem cdC_48 : ∀ a, a < 48 → codeP a := (cd_s (cd_s (cd_s (cd_s (cd_s (cd_s (cd_s (cd_s (cd_s (cd_s (cd_s (cd_s cdC_36 mc_36) mc_37) mc_38) mc_39) mc_40) mc_41) mc_42) mc_43) mc_44) mc_45) mc_46) mc_47)
theorem cdC_60 : ∀ a, a < 60 → codeP a := (cd_s (cd_s (cd_s (cd_s (cd_s (cd_s (cd_s (cd_s (cd_s (cd_s (cd_s (cd_s cdC_48 mc_48) mc_49) mc_50) mc_51) mc_52) mc_53) mc_54) mc_55) mc_56) mc_57) mc_58) mc_59)
theorem cdC_72 : ∀ a, a < 72 → codeP a := (cd_s (cd_s (cd_s (cd_s (cd_s (cd_s (cd_s (cd_s (cd_s (cd_s (cd_s (cd_s cdC_60 mc_60) mc_61) mc_62) mc_63) mc_64) mc_65) mc_66) mc_67) mc_68) mc_69) mc_70) mc_71)
theorem cdC_84 : ∀ a, a < 84 → codeP a := (cd_s (cd_s (cd_s (cd_s (cd_s (cd_s (cd_s (cd_s (cd_s (cd_s (cd_s (cd_s cdC_72 mc_72) mc_73) mc_74) mc_75) mc_76) mc_77) mc_78) mc_79) mc_80) mc_81) mc_82) mc_83)
theorem cdC_96 : ∀ a, a < 96 → codeP a := (cd_s (cd_s (cd_s (cd_s (cd_s (cd_s (cd_s (cd_s (cd_s (cd_s (cd_s (cd_s cdC_84 mc_84) mc_85) mc_86) mc_87) mc_88) mc_89) mc_90) mc_91) mc_92) mc_93) mc_94) mc_95)
theorem cdC_108 : ∀ a, a < 108 → codeP a := (cd_s (cd_s (cd_s (cd_s (cd_s (cd_s (cd_s (cd_s (cd_s (cd_s (cd_s (cd_s cdC_96 mc_96) mc_97) mc_98) mc_99) mc_100) mc_101) mc_102) mc_103) mc_104) mc_105) mc_106) mc_107)
theorem cdC_120 : ∀ a, a < 120 → codeP a := (cd_s (cd_s (cd_s (cd_s (cd_s (cd_s (cd_s (cd_s (cd_s (cd_s (cd_s (cd_s cdC_108 mc_108) mc_109) mc_110) mc_111) mc_112) mc_113) mc_114) mc_115) mc_116) mc_117) mc_118) mc_119)
theorem cdC_132 : ∀ a, a < 132 → codeP a := (cd_s (cd_s (cd_s (cd_s (cd_s (cd_s (cd_s (cd_s (cd_s (cd_s (cd_s (cd_s cdC_120 mc_120) mc_121) mc_122) mc_123) mc_124) mc_125) mc_126) mc_127) mc_128) mc_129) mc_130) mc_131)
theorem cdC_144 : ∀ a, a < 144 → codeP a := (cd_s (cd_s (cd_s (cd_s (cd_s (cd_s (cd_s (cd_s (cd_s (cd_s (cd_s (cd_s cdC_132 mc_132) mc_133) mc_134) mc_135) mc_136) mc_137) mc_138) mc_139) mc_140) mc_141) mc_142) mc_143)
theorem cdC_156 : ∀ a, a < 156 → codeP a := (cd_s (cd_s (cd_s (cd_s (cd_s (cd_s (cd_s (cd_s (cd_s (cd_s (cd_s (cd_s cdC_144 mc_144) mc_145) mc_146) mc_147) mc_148) mc_149) mc_150) mc_151) mc_152) mc_153) mc_154) mc_155)
theorem cdC_168 : ∀ a, a < 168 → codeP a := (cd_s (cd_s (cd_s (cd_s (cd_s (cd_s (cd_s (cd_s (cd_s (cd_s (cd_s (cd_s cdC_156 mc_156) mc_157) mc_158) mc_159) mc_160) mc_161) mc_162) mc_163) mc_164) mc_165) mc_166) mc_167)
theorem cdC_180 : ∀ a, a < 180 → codeP a := (cd_s (cd_s (cd_s (cd_s (cd_s (cd_s (cd_s (cd_s (cd_s (cd_s (cd_s (cd_s cdC_168 mc_168) mc_169) mc_170) mc_171) mc_172) mc_173) mc_174) mc_175) mc_176) mc_177) mc_178) mc_179)
theorem cdC_183 : ∀ a, a < 183 → codeP a := (cd_s (cd_s (cd_s cdC_180 mc_180) mc_181) mc_182)
theorem cdA : ∀ a, a < 183 → codeP a := cdC_183
