/-! Contracts, printed by a program: part 28. -/
theorem xw_561_26 : ((xu_561.drop 26).take 1).all (xVerCs xT_561 xHt 100000 308 xm_X10_laws xc_561 xu_561 [0] [26]) = true := by
  rw [← zVerCs_eq]
  decide +kernel
theorem xw_561_27 : ((xu_561.drop 27).take 1).all (xVerCs xT_561 xHt 100000 308 xm_X10_laws xc_561 xu_561 [0] [27]) = true := by
  rw [← zVerCs_eq]
  decide +kernel
theorem xw_561_28 : ((xu_561.drop 28).take 1).all (xVerCs xT_561 xHt 100000 308 xm_X10_laws xc_561 xu_561 [0] [28]) = true := by
  rw [← zVerCs_eq]
  decide +kernel
theorem xw_561_29 : ((xu_561.drop 29).take 1).all (xVerCs xT_561 xHt 100000 308 xm_X10_laws xc_561 xu_561 [0] [29]) = true := by
  rw [← zVerCs_eq]
  decide +kernel
theorem xw_561_30 : ((xu_561.drop 30).take 1).all (xVerCs xT_561 xHt 100000 308 xm_X10_laws xc_561 xu_561 [0] [30]) = true := by
  rw [← zVerCs_eq]
  decide +kernel
theorem xw_561_31 : ((xu_561.drop 31).take 1).all (xVerCs xT_561 xHt 100000 308 xm_X10_laws xc_561 xu_561 [0] [31]) = true := by
  rw [← zVerCs_eq]
  decide +kernel
theorem xw_561_32 : ((xu_561.drop 32).take 1).all (xVerCs xT_561 xHt 100000 308 xm_X10_laws xc_561 xu_561 [0] [32]) = true := by
  rw [← zVerCs_eq]
  decide +kernel
theorem xw_561_33 : ((xu_561.drop 33).take 1).all (xVerCs xT_561 xHt 100000 308 xm_X10_laws xc_561 xu_561 [0] [33]) = true := by
  rw [← zVerCs_eq]
  decide +kernel
theorem xw_561_34 : ((xu_561.drop 34).take 1).all (xVerCs xT_561 xHt 100000 308 xm_X10_laws xc_561 xu_561 [0] [34]) = true := by
  rw [← zVerCs_eq]
  decide +kernel
theorem xw_561_35 : ((xu_561.drop 35).take 1).all (xVerCs xT_561 xHt 100000 308 xm_X10_laws xc_561 xu_561 [0] [35]) = true := by
  rw [← zVerCs_eq]
  decide +kernel
theorem xw_561_36 : ((xu_561.drop 36).take 1).all (xVerCs xT_561 xHt 100000 308 xm_X10_laws xc_561 xu_561 [0] [36]) = true := by
  rw [← zVerCs_eq]
  decide +kernel
theorem xw_561_37 : ((xu_561.drop 37).take 1).all (xVerCs xT_561 xHt 100000 308 xm_X10_laws xc_561 xu_561 [0] [37]) = true := by
  rw [← zVerCs_eq]
  decide +kernel
theorem xw_561_38 : ((xu_561.drop 38).take 1).all (xVerCs xT_561 xHt 100000 308 xm_X10_laws xc_561 xu_561 [0] [38]) = true := by
  rw [← zVerCs_eq]
  decide +kernel
theorem xw_561_39 : ((xu_561.drop 39).take 1).all (xVerCs xT_561 xHt 100000 308 xm_X10_laws xc_561 xu_561 [0] [39]) = true := by
  rw [← zVerCs_eq]
  decide +kernel
theorem xw_561_40 : ((xu_561.drop 40).take 1).all (xVerCs xT_561 xHt 100000 308 xm_X10_laws xc_561 xu_561 [0] [40]) = true := by
  rw [← zVerCs_eq]
  decide +kernel
theorem xw_561_41 : ((xu_561.drop 41).take 1).all (xVerCs xT_561 xHt 100000 308 xm_X10_laws xc_561 xu_561 [0] [41]) = true := by
  rw [← zVerCs_eq]
  decide +kernel
theorem xw_561_42 : ((xu_561.drop 42).take 1).all (xVerCs xT_561 xHt 100000 308 xm_X10_laws xc_561 xu_561 [0] [42]) = true := by
  rw [← zVerCs_eq]
  decide +kernel
