theorem mtK_0 : ((mtI.drop 0).take 8).all metOk = true := by decide +kernel
theorem mtK_8 : ((mtI.drop 8).take 8).all metOk = true := by decide +kernel
theorem mtK_16 : ((mtI.drop 16).take 8).all metOk = true := by decide +kernel
theorem mtK_24 : ((mtI.drop 24).take 8).all metOk = true := by decide +kernel
theorem mtK_32 : ((mtI.drop 32).take 8).all metOk = true := by decide +kernel
theorem mtK_40 : ((mtI.drop 40).take 8).all metOk = true := by decide +kernel
