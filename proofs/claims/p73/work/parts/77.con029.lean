/-! Contracts, printed by a program: part 29. -/
theorem xw_561_43 : ((xu_561.drop 43).take 1).all (xVerCs xT_561 xHt 100000 308 xm_X10_laws xc_561 xu_561 [0] [43]) = true := by
  rw [← zVerCs_eq]
  decide +kernel
theorem xw_561_44 : ((xu_561.drop 44).take 1).all (xVerCs xT_561 xHt 100000 308 xm_X10_laws xc_561 xu_561 [0] [44]) = true := by
  rw [← zVerCs_eq]
  decide +kernel
theorem xw_561_45 : ((xu_561.drop 45).take 1).all (xVerCs xT_561 xHt 100000 308 xm_X10_laws xc_561 xu_561 [0] [45]) = true := by
  rw [← zVerCs_eq]
  decide +kernel
theorem xw_561_46 : ((xu_561.drop 46).take 1).all (xVerCs xT_561 xHt 100000 308 xm_X10_laws xc_561 xu_561 [0] [46]) = true := by
  rw [← zVerCs_eq]
  decide +kernel
theorem xw_561_47 : ((xu_561.drop 47).take 1).all (xVerCs xT_561 xHt 100000 308 xm_X10_laws xc_561 xu_561 [0] [47]) = true := by
  rw [← zVerCs_eq]
  decide +kernel
theorem xw_561_48 : ((xu_561.drop 48).take 1).all (xVerCs xT_561 xHt 100000 308 xm_X10_laws xc_561 xu_561 [0] [48]) = true := by
  rw [← zVerCs_eq]
  decide +kernel
theorem xw_561_49 : ((xu_561.drop 49).take 1).all (xVerCs xT_561 xHt 100000 308 xm_X10_laws xc_561 xu_561 [0] [49]) = true := by
  rw [← zVerCs_eq]
  decide +kernel
theorem xw_561_50 : ((xu_561.drop 50).take 1).all (xVerCs xT_561 xHt 100000 308 xm_X10_laws xc_561 xu_561 [0] [50]) = true := by
  rw [← zVerCs_eq]
  decide +kernel
theorem xw_561_51 : ((xu_561.drop 51).take 1).all (xVerCs xT_561 xHt 100000 308 xm_X10_laws xc_561 xu_561 [0] [51]) = true := by
  rw [← zVerCs_eq]
  decide +kernel
theorem xw_561_52 : ((xu_561.drop 52).take 1).all (xVerCs xT_561 xHt 100000 308 xm_X10_laws xc_561 xu_561 [0] [52]) = true := by
  rw [← zVerCs_eq]
  decide +kernel
