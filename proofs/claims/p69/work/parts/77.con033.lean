/-! Contracts, printed by a program: part 33. -/
theorem xw_549_11 : ((xu_549.drop 11).take 1).all (xVerCs xT_549 xHt 100000 308 xm_X10_laws xc_549 xu_549 [0] [11]) = true := by decide +kernel
theorem xw_549_12 : ((xu_549.drop 12).take 1).all (xVerCs xT_549 xHt 100000 308 xm_X10_laws xc_549 xu_549 [0] [12]) = true := by decide +kernel
theorem xw_549_13 : ((xu_549.drop 13).take 1).all (xVerCs xT_549 xHt 100000 308 xm_X10_laws xc_549 xu_549 [0] [13]) = true := by decide +kernel
theorem xw_549_14 : ((xu_549.drop 14).take 1).all (xVerCs xT_549 xHt 100000 308 xm_X10_laws xc_549 xu_549 [0] [14]) = true := by decide +kernel
theorem xw_549_15 : ((xu_549.drop 15).take 1).all (xVerCs xT_549 xHt 100000 308 xm_X10_laws xc_549 xu_549 [0] [15]) = true := by decide +kernel
theorem xw_549_16 : ((xu_549.drop 16).take 1).all (xVerCs xT_549 xHt 100000 308 xm_X10_laws xc_549 xu_549 [0] [16]) = true := by decide +kernel
theorem xw_549_17 : ((xu_549.drop 17).take 1).all (xVerCs xT_549 xHt 100000 308 xm_X10_laws xc_549 xu_549 [0] [17]) = true := by decide +kernel
theorem xw_549_18 : ((xu_549.drop 18).take 1).all (xVerCs xT_549 xHt 100000 308 xm_X10_laws xc_549 xu_549 [0] [18]) = true := by decide +kernel
theorem xw_549_19 : ((xu_549.drop 19).take 1).all (xVerCs xT_549 xHt 100000 308 xm_X10_laws xc_549 xu_549 [0] [19]) = true := by decide +kernel
theorem xw_549_20 : ((xu_549.drop 20).take 1).all (xVerCs xT_549 xHt 100000 308 xm_X10_laws xc_549 xu_549 [0] [20]) = true := by decide +kernel
theorem xw_549_21 : ((xu_549.drop 21).take 1).all (xVerCs xT_549 xHt 100000 308 xm_X10_laws xc_549 xu_549 [0] [21]) = true := by decide +kernel
theorem xw_549_22 : ((xu_549.drop 22).take 1).all (xVerCs xT_549 xHt 100000 308 xm_X10_laws xc_549 xu_549 [0] [22]) = true := by decide +kernel
theorem xw_549_23 : ((xu_549.drop 23).take 1).all (xVerCs xT_549 xHt 100000 308 xm_X10_laws xc_549 xu_549 [0] [23]) = true := by decide +kernel
theorem xw_549_24 : ((xu_549.drop 24).take 1).all (xVerCs xT_549 xHt 100000 308 xm_X10_laws xc_549 xu_549 [0] [24]) = true := by decide +kernel
theorem xw_549_25 : ((xu_549.drop 25).take 1).all (xVerCs xT_549 xHt 100000 308 xm_X10_laws xc_549 xu_549 [0] [25]) = true := by decide +kernel
