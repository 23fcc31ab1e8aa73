theorem mtK_0 : ((mtI.drop 0).take 8).all metOk = true := by decide +kernel
theorem mtK_8 : ((mtI.drop 8).take 8).all metOk = true := by decide +kernel
theorem mtK_16 : ((mtI.drop 16).take 8).all metOk = true := by decide +kernel
theorem mtK_24 : ((mtI.drop 24).take 8).all metOk = true := by decide +kernel
theorem mtK_32 : ((mtI.drop 32).take 8).all metOk = true := by decide +kernel
theorem mtK_40 : ((mtI.drop 40).take 8).all metOk = true := by decide +kernel

theorem mtK_48 : ((mtI.drop 48).take 8).all metOk = true := by decide +kernel
theorem mtK_56 : ((mtI.drop 56).take 8).all metOk = true := by decide +kernel
theorem mtK_64 : ((mtI.drop 64).take 8).all metOk = true := by decide +kernel
theorem mtK_72 : ((mtI.drop 72).take 8).all metOk = true := by decide +kernel
theorem mtK_80 : ((mtI.drop 80).take 8).all metOk = true := by decide +kernel
theorem mtK_88 : ((mtI.drop 88).take 8).all metOk = true := by decide +kernel

theorem mtK_96 : ((mtI.drop 96).take 8).all metOk = true := by decide +kernel
theorem mtK_104 : ((mtI.drop 104).take 8).all metOk = true := by decide +kernel
theorem mtK_112 : ((mtI.drop 112).take 8).all metOk = true := by decide +kernel
theorem mtK_120 : ((mtI.drop 120).take 8).all metOk = true := by decide +kernel
theorem mtK_128 : ((mtI.drop 128).take 8).all metOk = true := by decide +kernel
theorem mtK_136 : ((mtI.drop 136).take 8).all metOk = true := by decide +kernel

theorem mtK_144 : ((mtI.drop 144).take 8).all metOk = true := by decide +kernel
theorem mtK_152 : ((mtI.drop 152).take 8).all metOk = true := by decide +kernel
theorem mtK_160 : ((mtI.drop 160).take 8).all metOk = true := by decide +kernel
theorem mtK_168 : ((mtI.drop 168).take 8).all metOk = true := by decide +kernel
theorem mtK_176 : ((mtI.drop 176).take 8).all metOk = true := by decide +kernel

