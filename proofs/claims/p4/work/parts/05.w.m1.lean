theorem mtK_48 : ((mtI.drop 48).take 8).all metOk = true := by decide +kernel
theorem mtK_56 : ((mtI.drop 56).take 8).all metOk = true := by decide +kernel
theorem mtK_64 : ((mtI.drop 64).take 8).all metOk = true := by decide +kernel
theorem mtK_72 : ((mtI.drop 72).take 8).all metOk = true := by decide +kernel
theorem mtK_80 : ((mtI.drop 80).take 8).all metOk = true := by decide +kernel
theorem mtK_88 : ((mtI.drop 88).take 8).all metOk = true := by decide +kernel
