/-! Contracts, printed by a program: part 37. -/
theorem xw_586_35 : ((xu_586.drop 35).take 1).all (xVerCs xT_586 xHt 100000 214 xm_X10_garrison xc_586 xu_586 [0] []) = true := by decide +kernel
theorem xw_586_36 : ((xu_586.drop 36).take 1).all (xVerCs xT_586 xHt 100000 214 xm_X10_garrison xc_586 xu_586 [0] [26, 27, 28, 43, 44, 45, 46, 47, 48, 49, 50]) = true := by decide +kernel
theorem xw_586_37 : ((xu_586.drop 37).take 1).all (xVerCs xT_586 xHt 100000 214 xm_X10_garrison xc_586 xu_586 [0] []) = true := by decide +kernel
theorem xw_586_38 : ((xu_586.drop 38).take 1).all (xVerCs xT_586 xHt 100000 214 xm_X10_garrison xc_586 xu_586 [0] [30, 31, 32, 47, 48, 49, 50, 51, 52, 53, 54]) = true := by decide +kernel
theorem xw_586_39 : ((xu_586.drop 39).take 1).all (xVerCs xT_586 xHt 100000 214 xm_X10_garrison xc_586 xu_586 [] [55]) = true := by decide +kernel
theorem xw_586_40 : ((xu_586.drop 40).take 1).all (xVerCs xT_586 xHt 100000 214 xm_X10_garrison xc_586 xu_586 [] [55]) = true := by decide +kernel
theorem xw_586_41 : ((xu_586.drop 41).take 1).all (xVerCs xT_586 xHt 100000 214 xm_X10_garrison xc_586 xu_586 [] [55]) = true := by decide +kernel
theorem xw_586_42 : ((xu_586.drop 42).take 1).all (xVerCs xT_586 xHt 100000 214 xm_X10_garrison xc_586 xu_586 [] [55, 56]) = true := by decide +kernel
theorem xw_586_43 : ((xu_586.drop 43).take 1).all (xVerCs xT_586 xHt 100000 214 xm_X10_garrison xc_586 xu_586 [] [57]) = true := by decide +kernel
theorem xw_586_44 : ((xu_586.drop 44).take 1).all (xVerCs xT_586 xHt 100000 214 xm_X10_garrison xc_586 xu_586 [] [57]) = true := by decide +kernel
theorem xw_586_45 : ((xu_586.drop 45).take 1).all (xVerCs xT_586 xHt 100000 214 xm_X10_garrison xc_586 xu_586 [] [57]) = true := by decide +kernel
theorem xw_586_46 : ((xu_586.drop 46).take 1).all (xVerCs xT_586 xHt 100000 214 xm_X10_garrison xc_586 xu_586 [] [57, 58]) = true := by decide +kernel
theorem xw_586_47 : ((xu_586.drop 47).take 1).all (xVerCs xT_586 xHt 100000 214 xm_X10_garrison xc_586 xu_586 [] [59]) = true := by decide +kernel
theorem xw_586_48 : ((xu_586.drop 48).take 1).all (xVerCs xT_586 xHt 100000 214 xm_X10_garrison xc_586 xu_586 [] [59]) = true := by decide +kernel
theorem xw_586_49 : ((xu_586.drop 49).take 1).all (xVerCs xT_586 xHt 100000 214 xm_X10_garrison xc_586 xu_586 [] [59]) = true := by decide +kernel
theorem xw_586_50 : ((xu_586.drop 50).take 1).all (xVerCs xT_586 xHt 100000 214 xm_X10_garrison xc_586 xu_586 [] [59, 60]) = true := by decide +kernel
theorem xw_586_51 : ((xu_586.drop 51).take 1).all (xVerCs xT_586 xHt 100000 214 xm_X10_garrison xc_586 xu_586 [] [61]) = true := by decide +kernel
theorem xw_586_52 : ((xu_586.drop 52).take 1).all (xVerCs xT_586 xHt 100000 214 xm_X10_garrison xc_586 xu_586 [] [61]) = true := by decide +kernel
theorem xw_586_53 : ((xu_586.drop 53).take 1).all (xVerCs xT_586 xHt 100000 214 xm_X10_garrison xc_586 xu_586 [] [61]) = true := by decide +kernel
theorem xw_586_54 : ((xu_586.drop 54).take 1).all (xVerCs xT_586 xHt 100000 214 xm_X10_garrison xc_586 xu_586 [] [61, 62]) = true := by decide +kernel
theorem xw_586_55 : ((xu_586.drop 55).take 1).all (xVerCs xT_586 xHt 100000 214 xm_X10_garrison xc_586 xu_586 [0] []) = true := by decide +kernel
theorem xw_586_56 : ((xu_586.drop 56).take 1).all (xVerCs xT_586 xHt 100000 214 xm_X10_garrison xc_586 xu_586 [0] [40, 41, 42, 63, 64, 65, 66]) = true := by decide +kernel
theorem xw_586_57 : ((xu_586.drop 57).take 1).all (xVerCs xT_586 xHt 100000 214 xm_X10_garrison xc_586 xu_586 [0] []) = true := by decide +kernel
theorem xw_586_58 : ((xu_586.drop 58).take 1).all (xVerCs xT_586 xHt 100000 214 xm_X10_garrison xc_586 xu_586 [0] [44, 45, 46, 63, 64, 65, 66, 67, 68, 69, 70]) = true := by decide +kernel
theorem xw_586_59 : ((xu_586.drop 59).take 1).all (xVerCs xT_586 xHt 100000 214 xm_X10_garrison xc_586 xu_586 [0] []) = true := by decide +kernel
theorem xw_586_60 : ((xu_586.drop 60).take 1).all (xVerCs xT_586 xHt 100000 214 xm_X10_garrison xc_586 xu_586 [0] [48, 49, 50, 67, 68, 69, 70, 71, 72, 73, 74]) = true := by decide +kernel
