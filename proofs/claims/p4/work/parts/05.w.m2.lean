theorem mtK_96 : ((mtI.drop 96).take 8).all metOk = true := by decide +kernel
theorem mtK_104 : ((mtI.drop 104).take 8).all metOk = true := by decide +kernel
theorem mtK_112 : ((mtI.drop 112).take 8).all metOk = true := by decide +kernel
theorem mtK_120 : ((mtI.drop 120).take 8).all metOk = true := by decide +kernel
theorem mtK_128 : ((mtI.drop 128).take 8).all metOk = true := by decide +kernel
theorem mtK_136 : ((mtI.drop 136).take 8).all metOk = true := by decide +kernel
