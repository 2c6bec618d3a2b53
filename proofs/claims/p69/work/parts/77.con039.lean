/-! Contracts, printed by a program: part 39. -/
theorem xw_557_43 : ((xu_557.drop 43).take 1).all (xVerCs xT_557 xHt 100000 308 xm_X10_laws xc_557 xu_557 [0] [43]) = true := by decide +kernel
theorem xw_557_44 : ((xu_557.drop 44).take 1).all (xVerCs xT_557 xHt 100000 308 xm_X10_laws xc_557 xu_557 [0] [44]) = true := by decide +kernel
theorem xw_557_45 : ((xu_557.drop 45).take 1).all (xVerCs xT_557 xHt 100000 308 xm_X10_laws xc_557 xu_557 [0] [45]) = true := by decide +kernel
theorem xw_557_46 : ((xu_557.drop 46).take 1).all (xVerCs xT_557 xHt 100000 308 xm_X10_laws xc_557 xu_557 [0] [46]) = true := by decide +kernel
theorem xw_557_47 : ((xu_557.drop 47).take 1).all (xVerCs xT_557 xHt 100000 308 xm_X10_laws xc_557 xu_557 [0] [47]) = true := by decide +kernel
theorem xw_557_48 : ((xu_557.drop 48).take 1).all (xVerCs xT_557 xHt 100000 308 xm_X10_laws xc_557 xu_557 [0] [48]) = true := by decide +kernel
theorem xw_557_49 : ((xu_557.drop 49).take 1).all (xVerCs xT_557 xHt 100000 308 xm_X10_laws xc_557 xu_557 [0] [49]) = true := by decide +kernel
theorem xw_557_50 : ((xu_557.drop 50).take 1).all (xVerCs xT_557 xHt 100000 308 xm_X10_laws xc_557 xu_557 [0] [50]) = true := by decide +kernel
theorem xw_557_51 : ((xu_557.drop 51).take 1).all (xVerCs xT_557 xHt 100000 308 xm_X10_laws xc_557 xu_557 [0] [51]) = true := by decide +kernel
theorem xw_557_52 : ((xu_557.drop 52).take 1).all (xVerCs xT_557 xHt 100000 308 xm_X10_laws xc_557 xu_557 [0] [52]) = true := by decide +kernel
