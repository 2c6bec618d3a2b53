/-! Contracts, printed by a program: part 40. -/
theorem xw_557_53 : ((xu_557.drop 53).take 1).all (xVerCs xT_557 xHt 100000 308 xm_X10_laws xc_557 xu_557 [0] [53]) = true := by decide +kernel
theorem xw_557_54 : ((xu_557.drop 54).take 1).all (xVerCs xT_557 xHt 100000 308 xm_X10_laws xc_557 xu_557 [0] [54]) = true := by decide +kernel
theorem xw_557_55 : ((xu_557.drop 55).take 1).all (xVerCs xT_557 xHt 100000 308 xm_X10_laws xc_557 xu_557 [0] [55]) = true := by decide +kernel
theorem xw_557_56 : ((xu_557.drop 56).take 1).all (xVerCs xT_557 xHt 100000 308 xm_X10_laws xc_557 xu_557 [0] [56]) = true := by decide +kernel
theorem xw_557_57 : ((xu_557.drop 57).take 1).all (xVerCs xT_557 xHt 100000 308 xm_X10_laws xc_557 xu_557 [0] [57]) = true := by decide +kernel
theorem xw_557_58 : ((xu_557.drop 58).take 1).all (xVerCs xT_557 xHt 100000 308 xm_X10_laws xc_557 xu_557 [0] [58]) = true := by decide +kernel
theorem xw_557_59 : ((xu_557.drop 59).take 1).all (xVerCs xT_557 xHt 100000 308 xm_X10_laws xc_557 xu_557 [0] [59]) = true := by decide +kernel
theorem xw_557_60 : ((xu_557.drop 60).take 1).all (xVerCs xT_557 xHt 100000 308 xm_X10_laws xc_557 xu_557 [0] [60]) = true := by decide +kernel
theorem xw_557_61 : ((xu_557.drop 61).take 1).all (xVerCs xT_557 xHt 100000 308 xm_X10_laws xc_557 xu_557 [0] [61]) = true := by decide +kernel
theorem xw_557_62 : ((xu_557.drop 62).take 1).all (xVerCs xT_557 xHt 100000 308 xm_X10_laws xc_557 xu_557 [0] [62]) = true := by decide +kernel
theorem xw_557_63 : ((xu_557.drop 63).take 1).all (xVerCs xT_557 xHt 100000 308 xm_X10_laws xc_557 xu_557 [0] [63]) = true := by decide +kernel
theorem xw_557_64 : ((xu_557.drop 64).take 1).all (xVerCs xT_557 xHt 100000 308 xm_X10_laws xc_557 xu_557 [0] [64]) = true := by decide +kernel
theorem xw_557_65 : ((xu_557.drop 65).take 1).all (xVerCs xT_557 xHt 100000 308 xm_X10_laws xc_557 xu_557 [0] [65]) = true := by decide +kernel
theorem xw_557_66 : ((xu_557.drop 66).take 1).all (xVerCs xT_557 xHt 100000 308 xm_X10_laws xc_557 xu_557 [0] [66]) = true := by decide +kernel
theorem xw_557_67 : ((xu_557.drop 67).take 1).all (xVerCs xT_557 xHt 100000 308 xm_X10_laws xc_557 xu_557 [0] [67]) = true := by decide +kernel
