/-! Contracts, printed by a program: part 35. -/
theorem xw_549_43 : ((xu_549.drop 43).take 1).all (xVerCs xT_549 xHt 100000 308 xm_X10_laws xc_549 xu_549 [0] [43]) = true := by decide +kernel
theorem xw_549_44 : ((xu_549.drop 44).take 1).all (xVerCs xT_549 xHt 100000 308 xm_X10_laws xc_549 xu_549 [0] [44]) = true := by decide +kernel
theorem xw_549_45 : ((xu_549.drop 45).take 1).all (xVerCs xT_549 xHt 100000 308 xm_X10_laws xc_549 xu_549 [0] [45]) = true := by decide +kernel
theorem xw_549_46 : ((xu_549.drop 46).take 1).all (xVerCs xT_549 xHt 100000 308 xm_X10_laws xc_549 xu_549 [0] [46]) = true := by decide +kernel
theorem xw_549_47 : ((xu_549.drop 47).take 1).all (xVerCs xT_549 xHt 100000 308 xm_X10_laws xc_549 xu_549 [0] [47]) = true := by decide +kernel
theorem xw_549_48 : ((xu_549.drop 48).take 1).all (xVerCs xT_549 xHt 100000 308 xm_X10_laws xc_549 xu_549 [0] [48]) = true := by decide +kernel
theorem xw_549_49 : ((xu_549.drop 49).take 1).all (xVerCs xT_549 xHt 100000 308 xm_X10_laws xc_549 xu_549 [0] [49]) = true := by decide +kernel
theorem xw_549_50 : ((xu_549.drop 50).take 1).all (xVerCs xT_549 xHt 100000 308 xm_X10_laws xc_549 xu_549 [0] [50]) = true := by decide +kernel
theorem xw_549_51 : ((xu_549.drop 51).take 1).all (xVerCs xT_549 xHt 100000 308 xm_X10_laws xc_549 xu_549 [0] [51]) = true := by decide +kernel
theorem xw_549_52 : ((xu_549.drop 52).take 1).all (xVerCs xT_549 xHt 100000 308 xm_X10_laws xc_549 xu_549 [0] [52]) = true := by decide +kernel
