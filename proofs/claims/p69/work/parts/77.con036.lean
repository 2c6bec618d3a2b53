/-! Contracts, printed by a program: part 36. -/
theorem xw_549_53 : ((xu_549.drop 53).take 1).all (xVerCs xT_549 xHt 100000 308 xm_X10_laws xc_549 xu_549 [0] [53]) = true := by decide +kernel
theorem xw_549_54 : ((xu_549.drop 54).take 1).all (xVerCs xT_549 xHt 100000 308 xm_X10_laws xc_549 xu_549 [0] [54]) = true := by decide +kernel
theorem xw_549_55 : ((xu_549.drop 55).take 1).all (xVerCs xT_549 xHt 100000 308 xm_X10_laws xc_549 xu_549 [0] [55]) = true := by decide +kernel
theorem xw_549_56 : ((xu_549.drop 56).take 1).all (xVerCs xT_549 xHt 100000 308 xm_X10_laws xc_549 xu_549 [0] [56]) = true := by decide +kernel
theorem xw_549_57 : ((xu_549.drop 57).take 1).all (xVerCs xT_549 xHt 100000 308 xm_X10_laws xc_549 xu_549 [0] [57]) = true := by decide +kernel
theorem xw_549_58 : ((xu_549.drop 58).take 1).all (xVerCs xT_549 xHt 100000 308 xm_X10_laws xc_549 xu_549 [0] [58]) = true := by decide +kernel
theorem xw_549_59 : ((xu_549.drop 59).take 1).all (xVerCs xT_549 xHt 100000 308 xm_X10_laws xc_549 xu_549 [0] [59]) = true := by decide +kernel
theorem xw_549_60 : ((xu_549.drop 60).take 1).all (xVerCs xT_549 xHt 100000 308 xm_X10_laws xc_549 xu_549 [0] [60]) = true := by decide +kernel
theorem xw_549_61 : ((xu_549.drop 61).take 1).all (xVerCs xT_549 xHt 100000 308 xm_X10_laws xc_549 xu_549 [0] [61]) = true := by decide +kernel
theorem xw_549_62 : ((xu_549.drop 62).take 1).all (xVerCs xT_549 xHt 100000 308 xm_X10_laws xc_549 xu_549 [0] [62]) = true := by decide +kernel
theorem xw_549_63 : ((xu_549.drop 63).take 1).all (xVerCs xT_549 xHt 100000 308 xm_X10_laws xc_549 xu_549 [0] [63]) = true := by decide +kernel
theorem xw_549_64 : ((xu_549.drop 64).take 1).all (xVerCs xT_549 xHt 100000 308 xm_X10_laws xc_549 xu_549 [0] [64]) = true := by decide +kernel
theorem xw_549_65 : ((xu_549.drop 65).take 1).all (xVerCs xT_549 xHt 100000 308 xm_X10_laws xc_549 xu_549 [0] [65]) = true := by decide +kernel
theorem xw_549_66 : ((xu_549.drop 66).take 1).all (xVerCs xT_549 xHt 100000 308 xm_X10_laws xc_549 xu_549 [0] [66]) = true := by decide +kernel
theorem xw_549_67 : ((xu_549.drop 67).take 1).all (xVerCs xT_549 xHt 100000 308 xm_X10_laws xc_549 xu_549 [0] [67]) = true := by decide +kernel
