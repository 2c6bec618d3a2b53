/-! Contracts, printed by a program: part 30. -/
theorem xw_561_53 : ((xu_561.drop 53).take 1).all (xVerCs xT_561 xHt 100000 308 xm_X10_laws xc_561 xu_561 [0] [53]) = true := by
  rw [← zVerCs_eq]
  decide +kernel
theorem xw_561_54 : ((xu_561.drop 54).take 1).all (xVerCs xT_561 xHt 100000 308 xm_X10_laws xc_561 xu_561 [0] [54]) = true := by
  rw [← zVerCs_eq]
  decide +kernel
theorem xw_561_55 : ((xu_561.drop 55).take 1).all (xVerCs xT_561 xHt 100000 308 xm_X10_laws xc_561 xu_561 [0] [55]) = true := by
  rw [← zVerCs_eq]
  decide +kernel
theorem xw_561_56 : ((xu_561.drop 56).take 1).all (xVerCs xT_561 xHt 100000 308 xm_X10_laws xc_561 xu_561 [0] [56]) = true := by
  rw [← zVerCs_eq]
  decide +kernel
theorem xw_561_57 : ((xu_561.drop 57).take 1).all (xVerCs xT_561 xHt 100000 308 xm_X10_laws xc_561 xu_561 [0] [57]) = true := by
  rw [← zVerCs_eq]
  decide +kernel
theorem xw_561_58 : ((xu_561.drop 58).take 1).all (xVerCs xT_561 xHt 100000 308 xm_X10_laws xc_561 xu_561 [0] [58]) = true := by
  rw [← zVerCs_eq]
  decide +kernel
theorem xw_561_59 : ((xu_561.drop 59).take 1).all (xVerCs xT_561 xHt 100000 308 xm_X10_laws xc_561 xu_561 [0] [59]) = true := by
  rw [← zVerCs_eq]
  decide +kernel
theorem xw_561_60 : ((xu_561.drop 60).take 1).all (xVerCs xT_561 xHt 100000 308 xm_X10_laws xc_561 xu_561 [0] [60]) = true := by
  rw [← zVerCs_eq]
  decide +kernel
theorem xw_561_61 : ((xu_561.drop 61).take 1).all (xVerCs xT_561 xHt 100000 308 xm_X10_laws xc_561 xu_561 [0] [61]) = true := by
  rw [← zVerCs_eq]
  decide +kernel
theorem xw_561_62 : ((xu_561.drop 62).take 1).all (xVerCs xT_561 xHt 100000 308 xm_X10_laws xc_561 xu_561 [0] [62]) = true := by
  rw [← zVerCs_eq]
  decide +kernel
theorem xw_561_63 : ((xu_561.drop 63).take 1).all (xVerCs xT_561 xHt 100000 308 xm_X10_laws xc_561 xu_561 [0] [63]) = true := by
  rw [← zVerCs_eq]
  decide +kernel
theorem xw_561_64 : ((xu_561.drop 64).take 1).all (xVerCs xT_561 xHt 100000 308 xm_X10_laws xc_561 xu_561 [0] [64]) = true := by
  rw [← zVerCs_eq]
  decide +kernel
theorem xw_561_65 : ((xu_561.drop 65).take 1).all (xVerCs xT_561 xHt 100000 308 xm_X10_laws xc_561 xu_561 [0] [65]) = true := by
  rw [← zVerCs_eq]
  decide +kernel
theorem xw_561_66 : ((xu_561.drop 66).take 1).all (xVerCs xT_561 xHt 100000 308 xm_X10_laws xc_561 xu_561 [0] [66]) = true := by
  rw [← zVerCs_eq]
  decide +kernel
theorem xw_561_67 : ((xu_561.drop 67).take 1).all (xVerCs xT_561 xHt 100000 308 xm_X10_laws xc_561 xu_561 [0] [67]) = true := by
  rw [← zVerCs_eq]
  decide +kernel
