/-! Contracts, printed by a program: part 37. -/
theorem xw_557_11 : ((xu_557.drop 11).take 1).all (xVerCs xT_557 xHt 100000 308 xm_X10_laws xc_557 xu_557 [0] [11]) = true := by decide +kernel
theorem xw_557_12 : ((xu_557.drop 12).take 1).all (xVerCs xT_557 xHt 100000 308 xm_X10_laws xc_557 xu_557 [0] [12]) = true := by decide +kernel
theorem xw_557_13 : ((xu_557.drop 13).take 1).all (xVerCs xT_557 xHt 100000 308 xm_X10_laws xc_557 xu_557 [0] [13]) = true := by decide +kernel
theorem xw_557_14 : ((xu_557.drop 14).take 1).all (xVerCs xT_557 xHt 100000 308 xm_X10_laws xc_557 xu_557 [0] [14]) = true := by decide +kernel
theorem xw_557_15 : ((xu_557.drop 15).take 1).all (xVerCs xT_557 xHt 100000 308 xm_X10_laws xc_557 xu_557 [0] [15]) = true := by decide +kernel
theorem xw_557_16 : ((xu_557.drop 16).take 1).all (xVerCs xT_557 xHt 100000 308 xm_X10_laws xc_557 xu_557 [0] [16]) = true := by decide +kernel
theorem xw_557_17 : ((xu_557.drop 17).take 1).all (xVerCs xT_557 xHt 100000 308 xm_X10_laws xc_557 xu_557 [0] [17]) = true := by decide +kernel
theorem xw_557_18 : ((xu_557.drop 18).take 1).all (xVerCs xT_557 xHt 100000 308 xm_X10_laws xc_557 xu_557 [0] [18]) = true := by decide +kernel
theorem xw_557_19 : ((xu_557.drop 19).take 1).all (xVerCs xT_557 xHt 100000 308 xm_X10_laws xc_557 xu_557 [0] [19]) = true := by decide +kernel
theorem xw_557_20 : ((xu_557.drop 20).take 1).all (xVerCs xT_557 xHt 100000 308 xm_X10_laws xc_557 xu_557 [0] [20]) = true := by decide +kernel
theorem xw_557_21 : ((xu_557.drop 21).take 1).all (xVerCs xT_557 xHt 100000 308 xm_X10_laws xc_557 xu_557 [0] [21]) = true := by decide +kernel
theorem xw_557_22 : ((xu_557.drop 22).take 1).all (xVerCs xT_557 xHt 100000 308 xm_X10_laws xc_557 xu_557 [0] [22]) = true := by decide +kernel
theorem xw_557_23 : ((xu_557.drop 23).take 1).all (xVerCs xT_557 xHt 100000 308 xm_X10_laws xc_557 xu_557 [0] [23]) = true := by decide +kernel
theorem xw_557_24 : ((xu_557.drop 24).take 1).all (xVerCs xT_557 xHt 100000 308 xm_X10_laws xc_557 xu_557 [0] [24]) = true := by decide +kernel
theorem xw_557_25 : ((xu_557.drop 25).take 1).all (xVerCs xT_557 xHt 100000 308 xm_X10_laws xc_557 xu_557 [0] [25]) = true := by decide +kernel
