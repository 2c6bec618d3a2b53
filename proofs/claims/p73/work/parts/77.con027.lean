/-! Contracts, printed by a program: part 27. -/
theorem xw_561_11 : ((xu_561.drop 11).take 1).all (xVerCs xT_561 xHt 100000 308 xm_X10_laws xc_561 xu_561 [0] [11]) = true := by
  rw [← zVerCs_eq]
  decide +kernel
theorem xw_561_12 : ((xu_561.drop 12).take 1).all (xVerCs xT_561 xHt 100000 308 xm_X10_laws xc_561 xu_561 [0] [12]) = true := by
  rw [← zVerCs_eq]
  decide +kernel
theorem xw_561_13 : ((xu_561.drop 13).take 1).all (xVerCs xT_561 xHt 100000 308 xm_X10_laws xc_561 xu_561 [0] [13]) = true := by
  rw [← zVerCs_eq]
  decide +kernel
theorem xw_561_14 : ((xu_561.drop 14).take 1).all (xVerCs xT_561 xHt 100000 308 xm_X10_laws xc_561 xu_561 [0] [14]) = true := by
  rw [← zVerCs_eq]
  decide +kernel
theorem xw_561_15 : ((xu_561.drop 15).take 1).all (xVerCs xT_561 xHt 100000 308 xm_X10_laws xc_561 xu_561 [0] [15]) = true := by
  rw [← zVerCs_eq]
  decide +kernel
theorem xw_561_16 : ((xu_561.drop 16).take 1).all (xVerCs xT_561 xHt 100000 308 xm_X10_laws xc_561 xu_561 [0] [16]) = true := by
  rw [← zVerCs_eq]
  decide +kernel
theorem xw_561_17 : ((xu_561.drop 17).take 1).all (xVerCs xT_561 xHt 100000 308 xm_X10_laws xc_561 xu_561 [0] [17]) = true := by
  rw [← zVerCs_eq]
  decide +kernel
theorem xw_561_18 : ((xu_561.drop 18).take 1).all (xVerCs xT_561 xHt 100000 308 xm_X10_laws xc_561 xu_561 [0] [18]) = true := by
  rw [← zVerCs_eq]
  decide +kernel
theorem xw_561_19 : ((xu_561.drop 19).take 1).all (xVerCs xT_561 xHt 100000 308 xm_X10_laws xc_561 xu_561 [0] [19]) = true := by
  rw [← zVerCs_eq]
  decide +kernel
theorem xw_561_20 : ((xu_561.drop 20).take 1).all (xVerCs xT_561 xHt 100000 308 xm_X10_laws xc_561 xu_561 [0] [20]) = true := by
  rw [← zVerCs_eq]
  decide +kernel
theorem xw_561_21 : ((xu_561.drop 21).take 1).all (xVerCs xT_561 xHt 100000 308 xm_X10_laws xc_561 xu_561 [0] [21]) = true := by
  rw [← zVerCs_eq]
  decide +kernel
theorem xw_561_22 : ((xu_561.drop 22).take 1).all (xVerCs xT_561 xHt 100000 308 xm_X10_laws xc_561 xu_561 [0] [22]) = true := by
  rw [← zVerCs_eq]
  decide +kernel
theorem xw_561_23 : ((xu_561.drop 23).take 1).all (xVerCs xT_561 xHt 100000 308 xm_X10_laws xc_561 xu_561 [0] [23]) = true := by
  rw [← zVerCs_eq]
  decide +kernel
theorem xw_561_24 : ((xu_561.drop 24).take 1).all (xVerCs xT_561 xHt 100000 308 xm_X10_laws xc_561 xu_561 [0] [24]) = true := by
  rw [← zVerCs_eq]
  decide +kernel
theorem xw_561_25 : ((xu_561.drop 25).take 1).all (xVerCs xT_561 xHt 100000 308 xm_X10_laws xc_561 xu_561 [0] [25]) = true := by
  rw [← zVerCs_eq]
  decide +kernel
