/-! Contracts, printed by a program: part 47. -/
theorem xw_582_35 : ((xu_582.drop 35).take 1).all (xVerCs xT_582 xHt 100000 214 xm_X10_garrison xc_582 xu_582 [0] []) = true := by decide +kernel
theorem xw_582_36 : ((xu_582.drop 36).take 1).all (xVerCs xT_582 xHt 100000 214 xm_X10_garrison xc_582 xu_582 [0] [26, 27, 28, 43, 44, 45, 46, 47, 48, 49, 50]) = true := by decide +kernel
theorem xw_582_37 : ((xu_582.drop 37).take 1).all (xVerCs xT_582 xHt 100000 214 xm_X10_garrison xc_582 xu_582 [0] []) = true := by decide +kernel
theorem xw_582_38 : ((xu_582.drop 38).take 1).all (xVerCs xT_582 xHt 100000 214 xm_X10_garrison xc_582 xu_582 [0] [30, 31, 32, 47, 48, 49, 50, 51, 52, 53, 54]) = true := by decide +kernel
theorem xw_582_39 : ((xu_582.drop 39).take 1).all (xVerCs xT_582 xHt 100000 214 xm_X10_garrison xc_582 xu_582 [] [55]) = true := by decide +kernel
theorem xw_582_40 : ((xu_582.drop 40).take 1).all (xVerCs xT_582 xHt 100000 214 xm_X10_garrison xc_582 xu_582 [] [55]) = true := by decide +kernel
theorem xw_582_41 : ((xu_582.drop 41).take 1).all (xVerCs xT_582 xHt 100000 214 xm_X10_garrison xc_582 xu_582 [] [55]) = true := by decide +kernel
theorem xw_582_42 : ((xu_582.drop 42).take 1).all (xVerCs xT_582 xHt 100000 214 xm_X10_garrison xc_582 xu_582 [] [55, 56]) = true := by decide +kernel
theorem xw_582_43 : ((xu_582.drop 43).take 1).all (xVerCs xT_582 xHt 100000 214 xm_X10_garrison xc_582 xu_582 [] [57]) = true := by decide +kernel
theorem xw_582_44 : ((xu_582.drop 44).take 1).all (xVerCs xT_582 xHt 100000 214 xm_X10_garrison xc_582 xu_582 [] [57]) = true := by decide +kernel
theorem xw_582_45 : ((xu_582.drop 45).take 1).all (xVerCs xT_582 xHt 100000 214 xm_X10_garrison xc_582 xu_582 [] [57]) = true := by decide +kernel
theorem xw_582_46 : ((xu_582.drop 46).take 1).all (xVerCs xT_582 xHt 100000 214 xm_X10_garrison xc_582 xu_582 [] [57, 58]) = true := by decide +kernel
theorem xw_582_47 : ((xu_582.drop 47).take 1).all (xVerCs xT_582 xHt 100000 214 xm_X10_garrison xc_582 xu_582 [] [59]) = true := by decide +kernel
theorem xw_582_48 : ((xu_582.drop 48).take 1).all (xVerCs xT_582 xHt 100000 214 xm_X10_garrison xc_582 xu_582 [] [59]) = true := by decide +kernel
theorem xw_582_49 : ((xu_582.drop 49).take 1).all (xVerCs xT_582 xHt 100000 214 xm_X10_garrison xc_582 xu_582 [] [59]) = true := by decide +kernel
theorem xw_582_50 : ((xu_582.drop 50).take 1).all (xVerCs xT_582 xHt 100000 214 xm_X10_garrison xc_582 xu_582 [] [59, 60]) = true := by decide +kernel
theorem xw_582_51 : ((xu_582.drop 51).take 1).all (xVerCs xT_582 xHt 100000 214 xm_X10_garrison xc_582 xu_582 [] [61]) = true := by decide +kernel
theorem xw_582_52 : ((xu_582.drop 52).take 1).all (xVerCs xT_582 xHt 100000 214 xm_X10_garrison xc_582 xu_582 [] [61]) = true := by decide +kernel
theorem xw_582_53 : ((xu_582.drop 53).take 1).all (xVerCs xT_582 xHt 100000 214 xm_X10_garrison xc_582 xu_582 [] [61]) = true := by decide +kernel
theorem xw_582_54 : ((xu_582.drop 54).take 1).all (xVerCs xT_582 xHt 100000 214 xm_X10_garrison xc_582 xu_582 [] [61, 62]) = true := by decide +kernel
theorem xw_582_55 : ((xu_582.drop 55).take 1).all (xVerCs xT_582 xHt 100000 214 xm_X10_garrison xc_582 xu_582 [0] []) = true := by decide +kernel
theorem xw_582_56 : ((xu_582.drop 56).take 1).all (xVerCs xT_582 xHt 100000 214 xm_X10_garrison xc_582 xu_582 [0] [40, 41, 42, 63, 64, 65, 66]) = true := by decide +kernel
theorem xw_582_57 : ((xu_582.drop 57).take 1).all (xVerCs xT_582 xHt 100000 214 xm_X10_garrison xc_582 xu_582 [0] []) = true := by decide +kernel
theorem xw_582_58 : ((xu_582.drop 58).take 1).all (xVerCs xT_582 xHt 100000 214 xm_X10_garrison xc_582 xu_582 [0] [44, 45, 46, 63, 64, 65, 66, 67, 68, 69, 70]) = true := by decide +kernel
theorem xw_582_59 : ((xu_582.drop 59).take 1).all (xVerCs xT_582 xHt 100000 214 xm_X10_garrison xc_582 xu_582 [0] []) = true := by decide +kernel
theorem xw_582_60 : ((xu_582.drop 60).take 1).all (xVerCs xT_582 xHt 100000 214 xm_X10_garrison xc_582 xu_582 [0] [48, 49, 50, 67, 68, 69, 70, 71, 72, 73, 74]) = true := by decide +kernel
