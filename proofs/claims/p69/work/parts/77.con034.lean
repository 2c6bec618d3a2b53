/-! Contracts, printed by a program: part 34. -/
theorem xw_549_26 : ((xu_549.drop 26).take 1).all (xVerCs xT_549 xHt 100000 308 xm_X10_laws xc_549 xu_549 [0] [26]) = true := by decide +kernel
theorem xw_549_27 : ((xu_549.drop 27).take 1).all (xVerCs xT_549 xHt 100000 308 xm_X10_laws xc_549 xu_549 [0] [27]) = true := by decide +kernel
theorem xw_549_28 : ((xu_549.drop 28).take 1).all (xVerCs xT_549 xHt 100000 308 xm_X10_laws xc_549 xu_549 [0] [28]) = true := by decide +kernel
theorem xw_549_29 : ((xu_549.drop 29).take 1).all (xVerCs xT_549 xHt 100000 308 xm_X10_laws xc_549 xu_549 [0] [29]) = true := by decide +kernel
theorem xw_549_30 : ((xu_549.drop 30).take 1).all (xVerCs xT_549 xHt 100000 308 xm_X10_laws xc_549 xu_549 [0] [30]) = true := by decide +kernel
theorem xw_549_31 : ((xu_549.drop 31).take 1).all (xVerCs xT_549 xHt 100000 308 xm_X10_laws xc_549 xu_549 [0] [31]) = true := by decide +kernel
theorem xw_549_32 : ((xu_549.drop 32).take 1).all (xVerCs xT_549 xHt 100000 308 xm_X10_laws xc_549 xu_549 [0] [32]) = true := by decide +kernel
theorem xw_549_33 : ((xu_549.drop 33).take 1).all (xVerCs xT_549 xHt 100000 308 xm_X10_laws xc_549 xu_549 [0] [33]) = true := by decide +kernel
theorem xw_549_34 : ((xu_549.drop 34).take 1).all (xVerCs xT_549 xHt 100000 308 xm_X10_laws xc_549 xu_549 [0] [34]) = true := by decide +kernel
theorem xw_549_35 : ((xu_549.drop 35).take 1).all (xVerCs xT_549 xHt 100000 308 xm_X10_laws xc_549 xu_549 [0] [35]) = true := by decide +kernel
theorem xw_549_36 : ((xu_549.drop 36).take 1).all (xVerCs xT_549 xHt 100000 308 xm_X10_laws xc_549 xu_549 [0] [36]) = true := by decide +kernel
theorem xw_549_37 : ((xu_549.drop 37).take 1).all (xVerCs xT_549 xHt 100000 308 xm_X10_laws xc_549 xu_549 [0] [37]) = true := by decide +kernel
theorem xw_549_38 : ((xu_549.drop 38).take 1).all (xVerCs xT_549 xHt 100000 308 xm_X10_laws xc_549 xu_549 [0] [38]) = true := by decide +kernel
theorem xw_549_39 : ((xu_549.drop 39).take 1).all (xVerCs xT_549 xHt 100000 308 xm_X10_laws xc_549 xu_549 [0] [39]) = true := by decide +kernel
theorem xw_549_40 : ((xu_549.drop 40).take 1).all (xVerCs xT_549 xHt 100000 308 xm_X10_laws xc_549 xu_549 [0] [40]) = true := by decide +kernel
theorem xw_549_41 : ((xu_549.drop 41).take 1).all (xVerCs xT_549 xHt 100000 308 xm_X10_laws xc_549 xu_549 [0] [41]) = true := by decide +kernel
theorem xw_549_42 : ((xu_549.drop 42).take 1).all (xVerCs xT_549 xHt 100000 308 xm_X10_laws xc_549 xu_549 [0] [42]) = true := by decide +kernel
