theorem mtK_e184 : (mtI.drop 184).all metOk = true := by decide +kernel
theorem mtK_e176 : (mtI.drop 176).all metOk = true := all_split 8 mtK_176 (by rw [List.drop_drop]; exact mtK_e184)
theorem mtK_e168 : (mtI.drop 168).all metOk = true := all_split 8 mtK_168 (by rw [List.drop_drop]; exact mtK_e176)
theorem mtK_e160 : (mtI.drop 160).all metOk = true := all_split 8 mtK_160 (by rw [List.drop_drop]; exact mtK_e168)
theorem mtK_e152 : (mtI.drop 152).all metOk = true := all_split 8 mtK_152 (by rw [List.drop_drop]; exact mtK_e160)
theorem mtK_e144 : (mtI.drop 144).all metOk = true := all_split 8 mtK_144 (by rw [List.drop_drop]; exact mtK_e152)
theorem mtK_e136 : (mtI.drop 136).all metOk = true := all_split 8 mtK_136 (by rw [List.drop_drop]; exact mtK_e144)
theorem mtK_e128 : (mtI.drop 128).all metOk = true := all_split 8 mtK_128 (by rw [List.drop_drop]; exact mtK_e136)
theorem mtK_e120 : (mtI.drop 120).all metOk = true := all_split 8 mtK_120 (by rw [List.drop_drop]; exact mtK_e128)
theorem mtK_e112 : (mtI.drop 112).all metOk = true := all_split 8 mtK_112 (by rw [List.drop_drop]; exact mtK_e120)
theorem mtK_e104 : (mtI.drop 104).all metOk = true := all_split 8 mtK_104 (by rw [List.drop_drop]; exact mtK_e112)
theorem mtK_e96 : (mtI.drop 96).all metOk = true := all_split 8 mtK_96 (by rw [List.drop_drop]; exact mtK_e104)
theorem mtK_e88 : (mtI.drop 88).all metOk = true := all_split 8 mtK_88 (by rw [List.drop_drop]; exact mtK_e96)
theorem mtK_e80 : (mtI.drop 80).all metOk = true := all_split 8 mtK_80 (by rw [List.drop_drop]; exact mtK_e88)
theorem mtK_e72 : (mtI.drop 72).all metOk = true := all_split 8 mtK_72 (by rw [List.drop_drop]; exact mtK_e80)
theorem mtK_e64 : (mtI.drop 64).all metOk = true := all_split 8 mtK_64 (by rw [List.drop_drop]; exact mtK_e72)
theorem mtK_e56 : (mtI.drop 56).all metOk = true := all_split 8 mtK_56 (by rw [List.drop_drop]; exact mtK_e64)
theorem mtK_e48 : (mtI.drop 48).all metOk = true := all_split 8 mtK_48 (by rw [List.drop_drop]; exact mtK_e56)
theorem mtK_e40 : (mtI.drop 40).all metOk = true := all_split 8 mtK_40 (by rw [List.drop_drop]; exact mtK_e48)
theorem mtK_e32 : (mtI.drop 32).all metOk = true := all_split 8 mtK_32 (by rw [List.drop_drop]; exact mtK_e40)
theorem mtK_e24 : (mtI.drop 24).all metOk = true := all_split 8 mtK_24 (by rw [List.drop_drop]; exact mtK_e32)
theorem mtK_e16 : (mtI.drop 16).all metOk = true := all_split 8 mtK_16 (by rw [List.drop_drop]; exact mtK_e24)
theorem mtK_e8 : (mtI.drop 8).all metOk = true := all_split 8 mtK_8 (by rw [List.drop_drop]; exact mtK_e16)
theorem mtK_e0 : (mtI.drop 0).all metOk = true := all_split 8 mtK_0 (by rw [List.drop_drop]; exact mtK_e8)
theorem mtI_all : ((List.range 183).all fun k => Nat.beq k 0 || (Nat.beq k 122 || mtI.any fun q => Nat.beq q.1 k)) = true := by decide +kernel
theorem gx_0 : (.initialized "java/lang/System" : Cond) ∈ gw := isW_in (i := 62) (by decide +kernel)
theorem gx_1 : (.initialized "java/lang/Math" : Cond) ∈ gw := isW_in (i := 65) (by decide +kernel)
theorem gx_2 : (.native arraycopyName : Cond) ∈ gw := isW_in (i := 475) (by decide +kernel)
theorem gx_3 : (.static arraycopyName : Cond) ∈ gw := isW_in (i := 474) (by decide +kernel)
theorem gx_4 : (.static Lib.Math.max.name : Cond) ∈ gw := isW_in (i := 872) (by decide +kernel)
theorem gx_5 : (.instanceMethod objectInit : Cond) ∈ gw := isW_in (i := 72) (by decide +kernel)
theorem gx_6 : (.arrayClass .int : Cond) ∈ gw := isW_in (i := 105) (by decide +kernel)
theorem gx_7 : (.arrayClass .boolean : Cond) ∈ gw := isW_in (i := 1056) (by decide +kernel)
theorem gx_8 : (.arrayClass .long : Cond) ∈ gw := isW_in (i := 125) (by decide +kernel)
theorem gy_0 : (.code Lib.Math.max.name Lib.Math.max.code 2 (some .int) : Cond) ∈ gw := isW_in (i := 873) (by decide +kernel)
theorem gy_1 : (.code objectInit ⟨#[0xb1]⟩ 1 none : Cond) ∈ gw := isW_in (i := 73) (by decide +kernel)
theorem gi_0 : (.instantiable (clG 0).1 (clG 0).2.2 : Cond) ∈ gw := isW_in (i := 272) (by decide +kernel)
theorem gj_0 : (.initialized (clG 0).1 : Cond) ∈ gw := isW_in (i := 60) (by decide +kernel)
theorem gl_0_0 : (u_lay (clG 0).1 (clG 0).2.1 0 : Cond) ∈ gw := isW_in (i := 284) (by decide +kernel)
theorem gl_0_1 : (u_lay (clG 0).1 (clG 0).2.1 1 : Cond) ∈ gw := isW_in (i := 286) (by decide +kernel)
theorem gl_0_2 : (u_lay (clG 0).1 (clG 0).2.1 2 : Cond) ∈ gw := isW_in (i := 288) (by decide +kernel)
theorem gl_0_3 : (u_lay (clG 0).1 (clG 0).2.1 3 : Cond) ∈ gw := isW_in (i := 290) (by decide +kernel)
theorem gu_0 : ∀ w ∈ u_ws (clG 0).1 (clG 0).2.1 (clG 0).2.2, w ∈ gw := by
  intro w hw
  obtain ⟨k, hk, rfl⟩ := List.mem_map.mp hw
  have hk := List.mem_range.mp hk
  revert hk
  exact ((lt_s (lt_s (lt_s (lt_s lt_0 gl_0_0) gl_0_1) gl_0_2) gl_0_3) : ∀ a, a < 4 → u_lay (clG 0).1 (clG 0).2.1 a ∈ gw) k
theorem gi_1 : (.instantiable (clG 1).1 (clG 1).2.2 : Cond) ∈ gw := isW_in (i := 179) (by decide +kernel)
theorem gj_1 : (.initialized (clG 1).1 : Cond) ∈ gw := isW_in (i := 57) (by decide +kernel)
theorem gl_1_0 : (u_lay (clG 1).1 (clG 1).2.1 0 : Cond) ∈ gw := isW_in (i := 219) (by decide +kernel)
theorem gl_1_1 : (u_lay (clG 1).1 (clG 1).2.1 1 : Cond) ∈ gw := isW_in (i := 221) (by decide +kernel)
theorem gl_1_2 : (u_lay (clG 1).1 (clG 1).2.1 2 : Cond) ∈ gw := isW_in (i := 223) (by decide +kernel)
theorem gl_1_3 : (u_lay (clG 1).1 (clG 1).2.1 3 : Cond) ∈ gw := isW_in (i := 225) (by decide +kernel)
theorem gl_1_4 : (u_lay (clG 1).1 (clG 1).2.1 4 : Cond) ∈ gw := isW_in (i := 227) (by decide +kernel)
theorem gl_1_5 : (u_lay (clG 1).1 (clG 1).2.1 5 : Cond) ∈ gw := isW_in (i := 229) (by decide +kernel)
theorem gl_1_6 : (u_lay (clG 1).1 (clG 1).2.1 6 : Cond) ∈ gw := isW_in (i := 231) (by decide +kernel)
theorem gl_1_7 : (u_lay (clG 1).1 (clG 1).2.1 7 : Cond) ∈ gw := isW_in (i := 233) (by decide +kernel)
theorem gu_1 : ∀ w ∈ u_ws (clG 1).1 (clG 1).2.1 (clG 1).2.2, w ∈ gw := by
  intro w hw
  obtain ⟨k, hk, rfl⟩ := List.mem_map.mp hw
  have hk := List.mem_range.mp hk
  revert hk
  exact ((lt_s (lt_s (lt_s (lt_s (lt_s (lt_s (lt_s (lt_s lt_0 gl_1_0) gl_1_1) gl_1_2) gl_1_3) gl_1_4) gl_1_5) gl_1_6) gl_1_7) : ∀ a, a < 8 → u_lay (clG 1).1 (clG 1).2.1 a ∈ gw) k
theorem gi_2 : (.instantiable (clG 2).1 (clG 2).2.2 : Cond) ∈ gw := isW_in (i := 107) (by decide +kernel)
theorem gj_2 : (.initialized (clG 2).1 : Cond) ∈ gw := isW_in (i := 53) (by decide +kernel)
theorem gl_2_0 : (u_lay (clG 2).1 (clG 2).2.1 0 : Cond) ∈ gw := isW_in (i := 116) (by decide +kernel)
theorem gl_2_1 : (u_lay (clG 2).1 (clG 2).2.1 1 : Cond) ∈ gw := isW_in (i := 118) (by decide +kernel)
theorem gl_2_2 : (u_lay (clG 2).1 (clG 2).2.1 2 : Cond) ∈ gw := isW_in (i := 120) (by decide +kernel)
theorem gl_2_3 : (u_lay (clG 2).1 (clG 2).2.1 3 : Cond) ∈ gw := isW_in (i := 122) (by decide +kernel)
theorem gu_2 : ∀ w ∈ u_ws (clG 2).1 (clG 2).2.1 (clG 2).2.2, w ∈ gw := by
  intro w hw
  obtain ⟨k, hk, rfl⟩ := List.mem_map.mp hw
  have hk := List.mem_range.mp hk
  revert hk
  exact ((lt_s (lt_s (lt_s (lt_s lt_0 gl_2_0) gl_2_1) gl_2_2) gl_2_3) : ∀ a, a < 4 → u_lay (clG 2).1 (clG 2).2.1 a ∈ gw) k
theorem gi_3 : (.instantiable (clG 3).1 (clG 3).2.2 : Cond) ∈ gw := isW_in (i := 127) (by decide +kernel)
theorem gj_3 : (.initialized (clG 3).1 : Cond) ∈ gw := isW_in (i := 54) (by decide +kernel)
theorem gl_3_0 : (u_lay (clG 3).1 (clG 3).2.1 0 : Cond) ∈ gw := isW_in (i := 141) (by decide +kernel)
theorem gl_3_1 : (u_lay (clG 3).1 (clG 3).2.1 1 : Cond) ∈ gw := isW_in (i := 143) (by decide +kernel)
theorem gl_3_2 : (u_lay (clG 3).1 (clG 3).2.1 2 : Cond) ∈ gw := isW_in (i := 145) (by decide +kernel)
theorem gl_3_3 : (u_lay (clG 3).1 (clG 3).2.1 3 : Cond) ∈ gw := isW_in (i := 147) (by decide +kernel)
theorem gl_3_4 : (u_lay (clG 3).1 (clG 3).2.1 4 : Cond) ∈ gw := isW_in (i := 149) (by decide +kernel)
theorem gl_3_5 : (u_lay (clG 3).1 (clG 3).2.1 5 : Cond) ∈ gw := isW_in (i := 151) (by decide +kernel)
theorem gu_3 : ∀ w ∈ u_ws (clG 3).1 (clG 3).2.1 (clG 3).2.2, w ∈ gw := by
  intro w hw
  obtain ⟨k, hk, rfl⟩ := List.mem_map.mp hw
  have hk := List.mem_range.mp hk
  revert hk
  exact ((lt_s (lt_s (lt_s (lt_s (lt_s (lt_s lt_0 gl_3_0) gl_3_1) gl_3_2) gl_3_3) gl_3_4) gl_3_5) : ∀ a, a < 6 → u_lay (clG 3).1 (clG 3).2.1 a ∈ gw) k
theorem gi_4 : (.instantiable (clG 4).1 (clG 4).2.2 : Cond) ∈ gw := isW_in (i := 173) (by decide +kernel)
theorem gj_4 : (.initialized (clG 4).1 : Cond) ∈ gw := isW_in (i := 56) (by decide +kernel)
theorem gl_4_0 : (u_lay (clG 4).1 (clG 4).2.1 0 : Cond) ∈ gw := isW_in (i := 371) (by decide +kernel)
theorem gl_4_1 : (u_lay (clG 4).1 (clG 4).2.1 1 : Cond) ∈ gw := isW_in (i := 373) (by decide +kernel)
theorem gl_4_2 : (u_lay (clG 4).1 (clG 4).2.1 2 : Cond) ∈ gw := isW_in (i := 375) (by decide +kernel)
theorem gl_4_3 : (u_lay (clG 4).1 (clG 4).2.1 3 : Cond) ∈ gw := isW_in (i := 377) (by decide +kernel)
theorem gl_4_4 : (u_lay (clG 4).1 (clG 4).2.1 4 : Cond) ∈ gw := isW_in (i := 379) (by decide +kernel)
theorem gl_4_5 : (u_lay (clG 4).1 (clG 4).2.1 5 : Cond) ∈ gw := isW_in (i := 381) (by decide +kernel)
theorem gl_4_6 : (u_lay (clG 4).1 (clG 4).2.1 6 : Cond) ∈ gw := isW_in (i := 383) (by decide +kernel)
theorem gl_4_7 : (u_lay (clG 4).1 (clG 4).2.1 7 : Cond) ∈ gw := isW_in (i := 385) (by decide +kernel)
theorem gu_4 : ∀ w ∈ u_ws (clG 4).1 (clG 4).2.1 (clG 4).2.2, w ∈ gw := by
  intro w hw
  obtain ⟨k, hk, rfl⟩ := List.mem_map.mp hw
  have hk := List.mem_range.mp hk
  revert hk
  exact ((lt_s (lt_s (lt_s (lt_s (lt_s (lt_s (lt_s (lt_s lt_0 gl_4_0) gl_4_1) gl_4_2) gl_4_3) gl_4_4) gl_4_5) gl_4_6) gl_4_7) : ∀ a, a < 8 → u_lay (clG 4).1 (clG 4).2.1 a ∈ gw) k
theorem gi_5 : (.instantiable (clG 5).1 (clG 5).2.2 : Cond) ∈ gw := isW_in (i := 155) (by decide +kernel)
theorem gj_5 : (.initialized (clG 5).1 : Cond) ∈ gw := isW_in (i := 55) (by decide +kernel)
theorem gl_5_0 : (u_lay (clG 5).1 (clG 5).2.1 0 : Cond) ∈ gw := isW_in (i := 164) (by decide +kernel)
theorem gl_5_1 : (u_lay (clG 5).1 (clG 5).2.1 1 : Cond) ∈ gw := isW_in (i := 166) (by decide +kernel)
theorem gl_5_2 : (u_lay (clG 5).1 (clG 5).2.1 2 : Cond) ∈ gw := isW_in (i := 168) (by decide +kernel)
theorem gl_5_3 : (u_lay (clG 5).1 (clG 5).2.1 3 : Cond) ∈ gw := isW_in (i := 170) (by decide +kernel)
theorem gu_5 : ∀ w ∈ u_ws (clG 5).1 (clG 5).2.1 (clG 5).2.2, w ∈ gw := by
  intro w hw
  obtain ⟨k, hk, rfl⟩ := List.mem_map.mp hw
  have hk := List.mem_range.mp hk
  revert hk
  exact ((lt_s (lt_s (lt_s (lt_s lt_0 gl_5_0) gl_5_1) gl_5_2) gl_5_3) : ∀ a, a < 4 → u_lay (clG 5).1 (clG 5).2.1 a ∈ gw) k
theorem gi_6 : (.instantiable (clG 6).1 (clG 6).2.2 : Cond) ∈ gw := isW_in (i := 266) (by decide +kernel)
theorem gj_6 : (.initialized (clG 6).1 : Cond) ∈ gw := isW_in (i := 59) (by decide +kernel)
theorem gl_6_0 : (u_lay (clG 6).1 (clG 6).2.1 0 : Cond) ∈ gw := isW_in (i := 320) (by decide +kernel)
theorem gl_6_1 : (u_lay (clG 6).1 (clG 6).2.1 1 : Cond) ∈ gw := isW_in (i := 322) (by decide +kernel)
theorem gl_6_2 : (u_lay (clG 6).1 (clG 6).2.1 2 : Cond) ∈ gw := isW_in (i := 324) (by decide +kernel)
theorem gl_6_3 : (u_lay (clG 6).1 (clG 6).2.1 3 : Cond) ∈ gw := isW_in (i := 326) (by decide +kernel)
theorem gl_6_4 : (u_lay (clG 6).1 (clG 6).2.1 4 : Cond) ∈ gw := isW_in (i := 328) (by decide +kernel)
theorem gl_6_5 : (u_lay (clG 6).1 (clG 6).2.1 5 : Cond) ∈ gw := isW_in (i := 330) (by decide +kernel)
theorem gl_6_6 : (u_lay (clG 6).1 (clG 6).2.1 6 : Cond) ∈ gw := isW_in (i := 332) (by decide +kernel)
theorem gl_6_7 : (u_lay (clG 6).1 (clG 6).2.1 7 : Cond) ∈ gw := isW_in (i := 334) (by decide +kernel)
theorem gl_6_8 : (u_lay (clG 6).1 (clG 6).2.1 8 : Cond) ∈ gw := isW_in (i := 336) (by decide +kernel)
theorem gl_6_9 : (u_lay (clG 6).1 (clG 6).2.1 9 : Cond) ∈ gw := isW_in (i := 338) (by decide +kernel)
theorem gl_6_10 : (u_lay (clG 6).1 (clG 6).2.1 10 : Cond) ∈ gw := isW_in (i := 340) (by decide +kernel)
theorem gl_6_11 : (u_lay (clG 6).1 (clG 6).2.1 11 : Cond) ∈ gw := isW_in (i := 342) (by decide +kernel)
theorem gl_6_12 : (u_lay (clG 6).1 (clG 6).2.1 12 : Cond) ∈ gw := isW_in (i := 344) (by decide +kernel)
theorem gu_6 : ∀ w ∈ u_ws (clG 6).1 (clG 6).2.1 (clG 6).2.2, w ∈ gw := by
  intro w hw
  obtain ⟨k, hk, rfl⟩ := List.mem_map.mp hw
  have hk := List.mem_range.mp hk
  revert hk
  exact ((lt_s (lt_s (lt_s (lt_s (lt_s (lt_s (lt_s (lt_s (lt_s (lt_s (lt_s (lt_s (lt_s lt_0 gl_6_0) gl_6_1) gl_6_2) gl_6_3) gl_6_4) gl_6_5) gl_6_6) gl_6_7) gl_6_8) gl_6_9) gl_6_10) gl_6_11) gl_6_12) : ∀ a, a < 13 → u_lay (clG 6).1 (clG 6).2.1 a ∈ gw) k
theorem gi_7 : (.instantiable (clG 7).1 (clG 7).2.2 : Cond) ∈ gw := isW_in (i := 77) (by decide +kernel)
theorem gj_7 : (.initialized (clG 7).1 : Cond) ∈ gw := isW_in (i := 52) (by decide +kernel)
theorem gl_7_0 : (u_lay (clG 7).1 (clG 7).2.1 0 : Cond) ∈ gw := isW_in (i := 92) (by decide +kernel)
theorem gl_7_1 : (u_lay (clG 7).1 (clG 7).2.1 1 : Cond) ∈ gw := isW_in (i := 94) (by decide +kernel)
theorem gl_7_2 : (u_lay (clG 7).1 (clG 7).2.1 2 : Cond) ∈ gw := isW_in (i := 96) (by decide +kernel)
theorem gl_7_3 : (u_lay (clG 7).1 (clG 7).2.1 3 : Cond) ∈ gw := isW_in (i := 98) (by decide +kernel)
theorem gl_7_4 : (u_lay (clG 7).1 (clG 7).2.1 4 : Cond) ∈ gw := isW_in (i := 100) (by decide +kernel)
theorem gl_7_5 : (u_lay (clG 7).1 (clG 7).2.1 5 : Cond) ∈ gw := isW_in (i := 102) (by decide +kernel)
theorem gu_7 : ∀ w ∈ u_ws (clG 7).1 (clG 7).2.1 (clG 7).2.2, w ∈ gw := by
  intro w hw
  obtain ⟨k, hk, rfl⟩ := List.mem_map.mp hw
  have hk := List.mem_range.mp hk
  revert hk
  exact ((lt_s (lt_s (lt_s (lt_s (lt_s (lt_s lt_0 gl_7_0) gl_7_1) gl_7_2) gl_7_3) gl_7_4) gl_7_5) : ∀ a, a < 6 → u_lay (clG 7).1 (clG 7).2.1 a ∈ gw) k
theorem gi_8 : (.instantiable (clG 8).1 (clG 8).2.2 : Cond) ∈ gw := isW_in (i := 237) (by decide +kernel)
theorem gj_8 : (.initialized (clG 8).1 : Cond) ∈ gw := isW_in (i := 58) (by decide +kernel)
theorem gl_8_0 : (u_lay (clG 8).1 (clG 8).2.1 0 : Cond) ∈ gw := isW_in (i := 256) (by decide +kernel)
theorem gl_8_1 : (u_lay (clG 8).1 (clG 8).2.1 1 : Cond) ∈ gw := isW_in (i := 258) (by decide +kernel)
theorem gl_8_2 : (u_lay (clG 8).1 (clG 8).2.1 2 : Cond) ∈ gw := isW_in (i := 260) (by decide +kernel)
theorem gl_8_3 : (u_lay (clG 8).1 (clG 8).2.1 3 : Cond) ∈ gw := isW_in (i := 262) (by decide +kernel)
theorem gu_8 : ∀ w ∈ u_ws (clG 8).1 (clG 8).2.1 (clG 8).2.2, w ∈ gw := by
  intro w hw
  obtain ⟨k, hk, rfl⟩ := List.mem_map.mp hw
  have hk := List.mem_range.mp hk
  revert hk
  exact ((lt_s (lt_s (lt_s (lt_s lt_0 gl_8_0) gl_8_1) gl_8_2) gl_8_3) : ∀ a, a < 4 → u_lay (clG 8).1 (clG 8).2.1 a ∈ gw) k
theorem gi_9 : (.instantiable (clG 9).1 (clG 9).2.2 : Cond) ∈ gw := isW_in (i := 67) (by decide +kernel)
theorem gj_9 : (.initialized (clG 9).1 : Cond) ∈ gw := isW_in (i := 51) (by decide +kernel)
theorem gl_9_0 : (u_lay (clG 9).1 (clG 9).2.1 0 : Cond) ∈ gw := isW_in (i := 394) (by decide +kernel)
theorem gl_9_1 : (u_lay (clG 9).1 (clG 9).2.1 1 : Cond) ∈ gw := isW_in (i := 396) (by decide +kernel)
theorem gl_9_2 : (u_lay (clG 9).1 (clG 9).2.1 2 : Cond) ∈ gw := isW_in (i := 398) (by decide +kernel)
theorem gl_9_3 : (u_lay (clG 9).1 (clG 9).2.1 3 : Cond) ∈ gw := isW_in (i := 400) (by decide +kernel)
theorem gl_9_4 : (u_lay (clG 9).1 (clG 9).2.1 4 : Cond) ∈ gw := isW_in (i := 402) (by decide +kernel)
theorem gl_9_5 : (u_lay (clG 9).1 (clG 9).2.1 5 : Cond) ∈ gw := isW_in (i := 404) (by decide +kernel)
theorem gu_9 : ∀ w ∈ u_ws (clG 9).1 (clG 9).2.1 (clG 9).2.2, w ∈ gw := by
  intro w hw
  obtain ⟨k, hk, rfl⟩ := List.mem_map.mp hw
  have hk := List.mem_range.mp hk
  revert hk
  exact ((lt_s (lt_s (lt_s (lt_s (lt_s (lt_s lt_0 gl_9_0) gl_9_1) gl_9_2) gl_9_3) gl_9_4) gl_9_5) : ∀ a, a < 6 → u_lay (clG 9).1 (clG 9).2.1 a ∈ gw) k
theorem gi_10 : (.instantiable (clG 10).1 (clG 10).2.2 : Cond) ∈ gw := isW_in (i := 891) (by decide +kernel)
theorem gj_10 : (.initialized (clG 10).1 : Cond) ∈ gw := isW_in (i := 61) (by decide +kernel)
theorem gl_10_0 : (u_lay (clG 10).1 (clG 10).2.1 0 : Cond) ∈ gw := isW_in (i := 949) (by decide +kernel)
theorem gl_10_1 : (u_lay (clG 10).1 (clG 10).2.1 1 : Cond) ∈ gw := isW_in (i := 951) (by decide +kernel)
theorem gl_10_2 : (u_lay (clG 10).1 (clG 10).2.1 2 : Cond) ∈ gw := isW_in (i := 953) (by decide +kernel)
theorem gl_10_3 : (u_lay (clG 10).1 (clG 10).2.1 3 : Cond) ∈ gw := isW_in (i := 955) (by decide +kernel)
theorem gl_10_4 : (u_lay (clG 10).1 (clG 10).2.1 4 : Cond) ∈ gw := isW_in (i := 957) (by decide +kernel)
theorem gl_10_5 : (u_lay (clG 10).1 (clG 10).2.1 5 : Cond) ∈ gw := isW_in (i := 959) (by decide +kernel)
theorem gl_10_6 : (u_lay (clG 10).1 (clG 10).2.1 6 : Cond) ∈ gw := isW_in (i := 961) (by decide +kernel)
theorem gl_10_7 : (u_lay (clG 10).1 (clG 10).2.1 7 : Cond) ∈ gw := isW_in (i := 963) (by decide +kernel)
theorem gl_10_8 : (u_lay (clG 10).1 (clG 10).2.1 8 : Cond) ∈ gw := isW_in (i := 965) (by decide +kernel)
theorem gl_10_9 : (u_lay (clG 10).1 (clG 10).2.1 9 : Cond) ∈ gw := isW_in (i := 967) (by decide +kernel)
theorem gl_10_10 : (u_lay (clG 10).1 (clG 10).2.1 10 : Cond) ∈ gw := isW_in (i := 969) (by decide +kernel)
theorem gl_10_11 : (u_lay (clG 10).1 (clG 10).2.1 11 : Cond) ∈ gw := isW_in (i := 971) (by decide +kernel)
theorem gl_10_12 : (u_lay (clG 10).1 (clG 10).2.1 12 : Cond) ∈ gw := isW_in (i := 973) (by decide +kernel)
theorem gl_10_13 : (u_lay (clG 10).1 (clG 10).2.1 13 : Cond) ∈ gw := isW_in (i := 975) (by decide +kernel)
theorem gl_10_14 : (u_lay (clG 10).1 (clG 10).2.1 14 : Cond) ∈ gw := isW_in (i := 977) (by decide +kernel)
theorem gl_10_15 : (u_lay (clG 10).1 (clG 10).2.1 15 : Cond) ∈ gw := isW_in (i := 979) (by decide +kernel)
theorem gl_10_16 : (u_lay (clG 10).1 (clG 10).2.1 16 : Cond) ∈ gw := isW_in (i := 981) (by decide +kernel)
theorem gl_10_17 : (u_lay (clG 10).1 (clG 10).2.1 17 : Cond) ∈ gw := isW_in (i := 983) (by decide +kernel)
theorem gl_10_18 : (u_lay (clG 10).1 (clG 10).2.1 18 : Cond) ∈ gw := isW_in (i := 985) (by decide +kernel)
theorem gl_10_19 : (u_lay (clG 10).1 (clG 10).2.1 19 : Cond) ∈ gw := isW_in (i := 987) (by decide +kernel)
theorem gl_10_20 : (u_lay (clG 10).1 (clG 10).2.1 20 : Cond) ∈ gw := isW_in (i := 989) (by decide +kernel)
theorem gl_10_21 : (u_lay (clG 10).1 (clG 10).2.1 21 : Cond) ∈ gw := isW_in (i := 991) (by decide +kernel)
theorem gl_10_22 : (u_lay (clG 10).1 (clG 10).2.1 22 : Cond) ∈ gw := isW_in (i := 993) (by decide +kernel)
theorem gl_10_23 : (u_lay (clG 10).1 (clG 10).2.1 23 : Cond) ∈ gw := isW_in (i := 995) (by decide +kernel)
theorem gl_10_24 : (u_lay (clG 10).1 (clG 10).2.1 24 : Cond) ∈ gw := isW_in (i := 997) (by decide +kernel)
theorem gl_10_25 : (u_lay (clG 10).1 (clG 10).2.1 25 : Cond) ∈ gw := isW_in (i := 999) (by decide +kernel)
theorem gl_10_26 : (u_lay (clG 10).1 (clG 10).2.1 26 : Cond) ∈ gw := isW_in (i := 1001) (by decide +kernel)
theorem gl_10_27 : (u_lay (clG 10).1 (clG 10).2.1 27 : Cond) ∈ gw := isW_in (i := 1003) (by decide +kernel)
theorem gl_10_28 : (u_lay (clG 10).1 (clG 10).2.1 28 : Cond) ∈ gw := isW_in (i := 1005) (by decide +kernel)
theorem gl_10_29 : (u_lay (clG 10).1 (clG 10).2.1 29 : Cond) ∈ gw := isW_in (i := 1007) (by decide +kernel)
theorem gl_10_30 : (u_lay (clG 10).1 (clG 10).2.1 30 : Cond) ∈ gw := isW_in (i := 1009) (by decide +kernel)
theorem gl_10_31 : (u_lay (clG 10).1 (clG 10).2.1 31 : Cond) ∈ gw := isW_in (i := 1011) (by decide +kernel)
theorem gl_10_32 : (u_lay (clG 10).1 (clG 10).2.1 32 : Cond) ∈ gw := isW_in (i := 1013) (by decide +kernel)
theorem gl_10_33 : (u_lay (clG 10).1 (clG 10).2.1 33 : Cond) ∈ gw := isW_in (i := 1015) (by decide +kernel)
theorem gl_10_34 : (u_lay (clG 10).1 (clG 10).2.1 34 : Cond) ∈ gw := isW_in (i := 1017) (by decide +kernel)
theorem gl_10_35 : (u_lay (clG 10).1 (clG 10).2.1 35 : Cond) ∈ gw := isW_in (i := 1019) (by decide +kernel)
theorem gl_10_36 : (u_lay (clG 10).1 (clG 10).2.1 36 : Cond) ∈ gw := isW_in (i := 1021) (by decide +kernel)
theorem gl_10_37 : (u_lay (clG 10).1 (clG 10).2.1 37 : Cond) ∈ gw := isW_in (i := 1023) (by decide +kernel)
theorem gl_10_38 : (u_lay (clG 10).1 (clG 10).2.1 38 : Cond) ∈ gw := isW_in (i := 1025) (by decide +kernel)
theorem gl_10_39 : (u_lay (clG 10).1 (clG 10).2.1 39 : Cond) ∈ gw := isW_in (i := 1027) (by decide +kernel)
theorem gl_10_40 : (u_lay (clG 10).1 (clG 10).2.1 40 : Cond) ∈ gw := isW_in (i := 1029) (by decide +kernel)
theorem gl_10_41 : (u_lay (clG 10).1 (clG 10).2.1 41 : Cond) ∈ gw := isW_in (i := 1031) (by decide +kernel)
theorem gl_10_42 : (u_lay (clG 10).1 (clG 10).2.1 42 : Cond) ∈ gw := isW_in (i := 1033) (by decide +kernel)
theorem gl_10_43 : (u_lay (clG 10).1 (clG 10).2.1 43 : Cond) ∈ gw := isW_in (i := 1035) (by decide +kernel)
theorem gl_10_44 : (u_lay (clG 10).1 (clG 10).2.1 44 : Cond) ∈ gw := isW_in (i := 1037) (by decide +kernel)
theorem gl_10_45 : (u_lay (clG 10).1 (clG 10).2.1 45 : Cond) ∈ gw := isW_in (i := 1039) (by decide +kernel)
theorem gl_10_46 : (u_lay (clG 10).1 (clG 10).2.1 46 : Cond) ∈ gw := isW_in (i := 1041) (by decide +kernel)
theorem gl_10_47 : (u_lay (clG 10).1 (clG 10).2.1 47 : Cond) ∈ gw := isW_in (i := 1043) (by decide +kernel)
theorem gl_10_48 : (u_lay (clG 10).1 (clG 10).2.1 48 : Cond) ∈ gw := isW_in (i := 1045) (by decide +kernel)
theorem gl_10_49 : (u_lay (clG 10).1 (clG 10).2.1 49 : Cond) ∈ gw := isW_in (i := 1047) (by decide +kernel)
theorem gl_10_50 : (u_lay (clG 10).1 (clG 10).2.1 50 : Cond) ∈ gw := isW_in (i := 1049) (by decide +kernel)
theorem gl_10_51 : (u_lay (clG 10).1 (clG 10).2.1 51 : Cond) ∈ gw := isW_in (i := 1051) (by decide +kernel)
theorem gl_10_52 : (u_lay (clG 10).1 (clG 10).2.1 52 : Cond) ∈ gw := isW_in (i := 1053) (by decide +kernel)
theorem gu_10 : ∀ w ∈ u_ws (clG 10).1 (clG 10).2.1 (clG 10).2.2, w ∈ gw := by
  intro w hw
  obtain ⟨k, hk, rfl⟩ := List.mem_map.mp hw
  have hk := List.mem_range.mp hk
  revert hk
  exact ((lt_s (lt_s (lt_s (lt_s (lt_s (lt_s (lt_s (lt_s (lt_s (lt_s (lt_s (lt_s (lt_s (lt_s (lt_s (lt_s (lt_s (lt_s (lt_s (lt_s (lt_s (lt_s (lt_s (lt_s (lt_s (lt_s (lt_s (lt_s (lt_s (lt_s (lt_s (lt_s (lt_s (lt_s (lt_s (lt_s (lt_s (lt_s (lt_s (lt_s (lt_s (lt_s (lt_s (lt_s (lt_s (lt_s (lt_s (lt_s (lt_s (lt_s (lt_s (lt_s (lt_s lt_0 gl_10_0) gl_10_1) gl_10_2) gl_10_3) gl_10_4) gl_10_5) gl_10_6) gl_10_7) gl_10_8) gl_10_9) gl_10_10) gl_10_11) gl_10_12) gl_10_13) gl_10_14) gl_10_15) gl_10_16) gl_10_17) gl_10_18) gl_10_19) gl_10_20) gl_10_21) gl_10_22) gl_10_23) gl_10_24) gl_10_25) gl_10_26) gl_10_27) gl_10_28) gl_10_29) gl_10_30) gl_10_31) gl_10_32) gl_10_33) gl_10_34) gl_10_35) gl_10_36) gl_10_37) gl_10_38) gl_10_39) gl_10_40) gl_10_41) gl_10_42) gl_10_43) gl_10_44) gl_10_45) gl_10_46) gl_10_47) gl_10_48) gl_10_49) gl_10_50) gl_10_51) gl_10_52) : ∀ a, a < 53 → u_lay (clG 10).1 (clG 10).2.1 a ∈ gw) k
