theorem mtK_0 : ((mtI.drop 0).take 8).all metOk = true := by decide +kernel
theorem mtK_8 : ((mtI.drop 8).take 8).all metOk = true := by decide +kernel
theorem mtK_16 : ((mtI.drop 16).take 8).all metOk = true := by decide +kernel
theorem mtK_24 : ((mtI.drop 24).take 8).all metOk = true := by decide +kernel
theorem mtK_32 : ((mtI.drop 32).take 8).all metOk = true := by decide +kernel
theorem mtK_40 : ((mtI.drop 40).take 8).all metOk = true := by decide +kernel
theorem mtK_48 : ((mtI.drop 48).take 8).all metOk = true := by decide +kernel
theorem mtK_56 : ((mtI.drop 56).take 8).all metOk = true := by decide +kernel
theorem mtK_64 : ((mtI.drop 64).take 8).all metOk = true := by decide +kernel
theorem mtK_72 : ((mtI.drop 72).take 8).all metOk = true := by decide +kernel
theorem mtK_80 : ((mtI.drop 80).take 8).all metOk = true := by decide +kernel
theorem mtK_88 : ((mtI.drop 88).take 8).all metOk = true := by decide +kernel
theorem mtK_96 : ((mtI.drop 96).take 8).all metOk = true := by decide +kernel
theorem mtK_104 : ((mtI.drop 104).take 8).all metOk = true := by decide +kernel
theorem mtK_112 : ((mtI.drop 112).take 8).all metOk = true := by decide +kernel
theorem mtK_120 : ((mtI.drop 120).take 8).all metOk = true := by decide +kernel
theorem mtK_128 : ((mtI.drop 128).take 8).all metOk = true := by decide +kernel
theorem mtK_136 : ((mtI.drop 136).take 8).all metOk = true := by decide +kernel
theorem mtK_144 : ((mtI.drop 144).take 8).all metOk = true := by decide +kernel
theorem mtK_152 : ((mtI.drop 152).take 8).all metOk = true := by decide +kernel
theorem mtK_160 : ((mtI.drop 160).take 8).all metOk = true := by decide +kernel
theorem mtK_168 : ((mtI.drop 168).take 8).all metOk = true := by decide +kernel
theorem mtK_176 : ((mtI.drop 176).take 8).all metOk = true := by decide +kernel
theorem mtK_e184 : (mtI.drop 184).all metOk = true := by decide +kernel
theorem mtK_e176 : (mtI.drop 176).all metOk = true := all_split 8 mtK_176 (by rw [List.drop_drop]; exact mtK_e184)
theorem mtK_e168 : (mtI.drop 168).all metOk = true := all_split 8 mtK_168 (by rw [List.drop_drop]; exact mtK_e176)
theorem mtK_e160 : (mtI.drop 160).all metOk = true := all_split 8 mtK_160 (by rw [List.drop_drop]; exact mtK_e168)
theorem mtK_e152 : (mtI.drop 152).all metOk = true := all_split 8 mtK_152 (by rw [List.drop_drop]; exact mtK_e160)
theorem mtK_e144 : (mtI.drop 144).all metOk = true := all_split 8 mtK_144 (by rw [List.drop_drop]; exact mtK_e152)
theorem mtK_e136 : (mtI.drop 136).all metOk = true := all_split 8 mtK_136 (by rw [List.drop_drop]; exact mtK_e144)
theorem mtK_e128 : (mtI.drop 128).all metOk = true := all_split 8 mtK_128 (by rw [List.drop_drop]; exact mtK_e136)
theorem mtK_e120 : (mtI.drop 120).all metOk = true := all_split 8 mtK_120 (by rw [List.drop_drop]; exact mtK_e128)
theorem mtK_e112 : (mtI.drop 112).all metOk = true := all_split 8 mtK_112 (by rw [List.drop_drop]; exact mtK_e120)
theorem mtK_e104 : (mtI.drop 104).all metOk = true := all_split 8 mtK_104 (by rw [List.drop_drop]; exact mtK_e112)
theorem mtK_e96 : (mtI.drop 96).all metOk = true := all_split 8 mtK_96 (by rw [List.drop_drop]; exact mtK_e104)
theorem mtK_e88 : (mtI.drop 88).all metOk = true := all_split 8 mtK_88 (by rw [List.drop_drop]; exact mtK_e96)
theorem mtK_e80 : (mtI.drop 80).all metOk = true := all_split 8 mtK_80 (by rw [List.drop_drop]; exact mtK_e88)
theorem mtK_e72 : (mtI.drop 72).all metOk = true := all_split 8 mtK_72 (by rw [List.drop_drop]; exact mtK_e80)
theorem mtK_e64 : (mtI.drop 64).all metOk = true := all_split 8 mtK_64 (by rw [List.drop_drop]; exact mtK_e72)
theorem mtK_e56 : (mtI.drop 56).all metOk = true := all_split 8 mtK_56 (by rw [List.drop_drop]; exact mtK_e64)
theorem mtK_e48 : (mtI.drop 48).all metOk = true := all_split 8 mtK_48 (by rw [List.drop_drop]; exact mtK_e56)
theorem mtK_e40 : (mtI.drop 40).all metOk = true := all_split 8 mtK_40 (by rw [List.drop_drop]; exact mtK_e48)
theorem mtK_e32 : (mtI.drop 32).all metOk = true := all_split 8 mtK_32 (by rw [List.drop_drop]; exact mtK_e40)
theorem mtK_e24 : (mtI.drop 24).all metOk = true := all_split 8 mtK_24 (by rw [List.drop_drop]; exact mtK_e32)
theorem mtK_e16 : (mtI.drop 16).all metOk = true := all_split 8 mtK_16 (by rw [List.drop_drop]; exact mtK_e24)
theorem mtK_e8 : (mtI.drop 8).all metOk = true := all_split 8 mtK_8 (by rw [List.drop_drop]; exact mtK_e16)
theorem mtK_e0 : (mtI.drop 0).all metOk = true := all_split 8 mtK_0 (by rw [List.drop_drop]; exact mtK_e8)
