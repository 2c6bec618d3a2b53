/-! Contracts, printed by a program: part 38. -/
theorem xw_557_26 : ((xu_557.drop 26).take 1).all (xVerCs xT_557 xHt 100000 308 xm_X10_laws xc_557 xu_557 [0] [26]) = true := by decide +kernel
theorem xw_557_27 : ((xu_557.drop 27).take 1).all (xVerCs xT_557 xHt 100000 308 xm_X10_laws xc_557 xu_557 [0] [27]) = true := by decide +kernel
theorem xw_557_28 : ((xu_557.drop 28).take 1).all (xVerCs xT_557 xHt 100000 308 xm_X10_laws xc_557 xu_557 [0] [28]) = true := by decide +kernel
theorem xw_557_29 : ((xu_557.drop 29).take 1).all (xVerCs xT_557 xHt 100000 308 xm_X10_laws xc_557 xu_557 [0] [29]) = true := by decide +kernel
theorem xw_557_30 : ((xu_557.drop 30).take 1).all (xVerCs xT_557 xHt 100000 308 xm_X10_laws xc_557 xu_557 [0] [30]) = true := by decide +kernel
theorem xw_557_31 : ((xu_557.drop 31).take 1).all (xVerCs xT_557 xHt 100000 308 xm_X10_laws xc_557 xu_557 [0] [31]) = true := by decide +kernel
theorem xw_557_32 : ((xu_557.drop 32).take 1).all (xVerCs xT_557 xHt 100000 308 xm_X10_laws xc_557 xu_557 [0] [32]) = true := by decide +kernel
theorem xw_557_33 : ((xu_557.drop 33).take 1).all (xVerCs xT_557 xHt 100000 308 xm_X10_laws xc_557 xu_557 [0] [33]) = true := by decide +kernel
theorem xw_557_34 : ((xu_557.drop 34).take 1).all (xVerCs xT_557 xHt 100000 308 xm_X10_laws xc_557 xu_557 [0] [34]) = true := by decide +kernel
theorem xw_557_35 : ((xu_557.drop 35).take 1).all (xVerCs xT_557 xHt 100000 308 xm_X10_laws xc_557 xu_557 [0] [35]) = true := by decide +kernel
theorem xw_557_36 : ((xu_557.drop 36).take 1).all (xVerCs xT_557 xHt 100000 308 xm_X10_laws xc_557 xu_557 [0] [36]) = true := by decide +kernel
theorem xw_557_37 : ((xu_557.drop 37).take 1).all (xVerCs xT_557 xHt 100000 308 xm_X10_laws xc_557 xu_557 [0] [37]) = true := by decide +kernel
theorem xw_557_38 : ((xu_557.drop 38).take 1).all (xVerCs xT_557 xHt 100000 308 xm_X10_laws xc_557 xu_557 [0] [38]) = true := by decide +kernel
theorem xw_557_39 : ((xu_557.drop 39).take 1).all (xVerCs xT_557 xHt 100000 308 xm_X10_laws xc_557 xu_557 [0] [39]) = true := by decide +kernel
theorem xw_557_40 : ((xu_557.drop 40).take 1).all (xVerCs xT_557 xHt 100000 308 xm_X10_laws xc_557 xu_557 [0] [40]) = true := by decide +kernel
theorem xw_557_41 : ((xu_557.drop 41).take 1).all (xVerCs xT_557 xHt 100000 308 xm_X10_laws xc_557 xu_557 [0] [41]) = true := by decide +kernel
theorem xw_557_42 : ((xu_557.drop 42).take 1).all (xVerCs xT_557 xHt 100000 308 xm_X10_laws xc_557 xu_557 [0] [42]) = true := by decide +kernel
