theorem mtK_144 : ((mtI.drop 144).take 8).all metOk = true := by decide +kernel
theorem mtK_152 : ((mtI.drop 152).take 8).all metOk = true := by decide +kernel
theorem mtK_160 : ((mtI.drop 160).take 8).all metOk = true := by decide +kernel
theorem mtK_168 : ((mtI.drop 168).take 8).all metOk = true := by decide +kernel
theorem mtK_176 : ((mtI.drop 176).take 8).all metOk = true := by decide +kernel
