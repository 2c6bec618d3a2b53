/-! Contracts, printed by a program: part 43. -/
theorem xw_574_35 : ((xu_574.drop 35).take 1).all (xVerCs xT_574 xHt 100000 214 xm_X10_garrison xc_574 xu_574 [0] []) = true := by decide +kernel
theorem xw_574_36 : ((xu_574.drop 36).take 1).all (xVerCs xT_574 xHt 100000 214 xm_X10_garrison xc_574 xu_574 [0] [26, 27, 28, 43, 44, 45, 46, 47, 48, 49, 50]) = true := by decide +kernel
theorem xw_574_37 : ((xu_574.drop 37).take 1).all (xVerCs xT_574 xHt 100000 214 xm_X10_garrison xc_574 xu_574 [0] []) = true := by decide +kernel
theorem xw_574_38 : ((xu_574.drop 38).take 1).all (xVerCs xT_574 xHt 100000 214 xm_X10_garrison xc_574 xu_574 [0] [30, 31, 32, 47, 48, 49, 50, 51, 52, 53, 54]) = true := by decide +kernel
theorem xw_574_39 : ((xu_574.drop 39).take 1).all (xVerCs xT_574 xHt 100000 214 xm_X10_garrison xc_574 xu_574 [] [55]) = true := by decide +kernel
theorem xw_574_40 : ((xu_574.drop 40).take 1).all (xVerCs xT_574 xHt 100000 214 xm_X10_garrison xc_574 xu_574 [] [55]) = true := by decide +kernel
theorem xw_574_41 : ((xu_574.drop 41).take 1).all (xVerCs xT_574 xHt 100000 214 xm_X10_garrison xc_574 xu_574 [] [55]) = true := by decide +kernel
theorem xw_574_42 : ((xu_574.drop 42).take 1).all (xVerCs xT_574 xHt 100000 214 xm_X10_garrison xc_574 xu_574 [] [55, 56]) = true := by decide +kernel
theorem xw_574_43 : ((xu_574.drop 43).take 1).all (xVerCs xT_574 xHt 100000 214 xm_X10_garrison xc_574 xu_574 [] [57]) = true := by decide +kernel
theorem xw_574_44 : ((xu_574.drop 44).take 1).all (xVerCs xT_574 xHt 100000 214 xm_X10_garrison xc_574 xu_574 [] [57]) = true := by decide +kernel
theorem xw_574_45 : ((xu_574.drop 45).take 1).all (xVerCs xT_574 xHt 100000 214 xm_X10_garrison xc_574 xu_574 [] [57]) = true := by decide +kernel
theorem xw_574_46 : ((xu_574.drop 46).take 1).all (xVerCs xT_574 xHt 100000 214 xm_X10_garrison xc_574 xu_574 [] [57, 58]) = true := by decide +kernel
theorem xw_574_47 : ((xu_574.drop 47).take 1).all (xVerCs xT_574 xHt 100000 214 xm_X10_garrison xc_574 xu_574 [] [59]) = true := by decide +kernel
theorem xw_574_48 : ((xu_574.drop 48).take 1).all (xVerCs xT_574 xHt 100000 214 xm_X10_garrison xc_574 xu_574 [] [59]) = true := by decide +kernel
theorem xw_574_49 : ((xu_574.drop 49).take 1).all (xVerCs xT_574 xHt 100000 214 xm_X10_garrison xc_574 xu_574 [] [59]) = true := by decide +kernel
theorem xw_574_50 : ((xu_574.drop 50).take 1).all (xVerCs xT_574 xHt 100000 214 xm_X10_garrison xc_574 xu_574 [] [59, 60]) = true := by decide +kernel
theorem xw_574_51 : ((xu_574.drop 51).take 1).all (xVerCs xT_574 xHt 100000 214 xm_X10_garrison xc_574 xu_574 [] [61]) = true := by decide +kernel
theorem xw_574_52 : ((xu_574.drop 52).take 1).all (xVerCs xT_574 xHt 100000 214 xm_X10_garrison xc_574 xu_574 [] [61]) = true := by decide +kernel
theorem xw_574_53 : ((xu_574.drop 53).take 1).all (xVerCs xT_574 xHt 100000 214 xm_X10_garrison xc_574 xu_574 [] [61]) = true := by decide +kernel
theorem xw_574_54 : ((xu_574.drop 54).take 1).all (xVerCs xT_574 xHt 100000 214 xm_X10_garrison xc_574 xu_574 [] [61, 62]) = true := by decide +kernel
theorem xw_574_55 : ((xu_574.drop 55).take 1).all (xVerCs xT_574 xHt 100000 214 xm_X10_garrison xc_574 xu_574 [0] []) = true := by decide +kernel
theorem xw_574_56 : ((xu_574.drop 56).take 1).all (xVerCs xT_574 xHt 100000 214 xm_X10_garrison xc_574 xu_574 [0] [40, 41, 42, 63, 64, 65, 66]) = true := by decide +kernel
theorem xw_574_57 : ((xu_574.drop 57).take 1).all (xVerCs xT_574 xHt 100000 214 xm_X10_garrison xc_574 xu_574 [0] []) = true := by decide +kernel
theorem xw_574_58 : ((xu_574.drop 58).take 1).all (xVerCs xT_574 xHt 100000 214 xm_X10_garrison xc_574 xu_574 [0] [44, 45, 46, 63, 64, 65, 66, 67, 68, 69, 70]) = true := by decide +kernel
theorem xw_574_59 : ((xu_574.drop 59).take 1).all (xVerCs xT_574 xHt 100000 214 xm_X10_garrison xc_574 xu_574 [0] []) = true := by decide +kernel
theorem xw_574_60 : ((xu_574.drop 60).take 1).all (xVerCs xT_574 xHt 100000 214 xm_X10_garrison xc_574 xu_574 [0] [48, 49, 50, 67, 68, 69, 70, 71, 72, 73, 74]) = true := by decide +kernel
