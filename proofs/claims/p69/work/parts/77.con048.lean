/-! Contracts, printed by a program: part 48. -/
theorem xw_582_61 : ((xu_582.drop 61).take 1).all (xVerCs xT_582 xHt 100000 214 xm_X10_garrison xc_582 xu_582 [0] []) = true := by decide +kernel
theorem xw_582_62 : ((xu_582.drop 62).take 1).all (xVerCs xT_582 xHt 100000 214 xm_X10_garrison xc_582 xu_582 [0] [52, 53, 54, 71, 72, 73, 74]) = true := by decide +kernel
theorem xw_582_63 : ((xu_582.drop 63).take 1).all (xVerCs xT_582 xHt 100000 214 xm_X10_garrison xc_582 xu_582 [] [75]) = true := by decide +kernel
theorem xw_582_64 : ((xu_582.drop 64).take 1).all (xVerCs xT_582 xHt 100000 214 xm_X10_garrison xc_582 xu_582 [] [75]) = true := by decide +kernel
theorem xw_582_65 : ((xu_582.drop 65).take 1).all (xVerCs xT_582 xHt 100000 214 xm_X10_garrison xc_582 xu_582 [] [75]) = true := by decide +kernel
theorem xw_582_66 : ((xu_582.drop 66).take 1).all (xVerCs xT_582 xHt 100000 214 xm_X10_garrison xc_582 xu_582 [] [75, 76]) = true := by decide +kernel
theorem xw_582_67 : ((xu_582.drop 67).take 1).all (xVerCs xT_582 xHt 100000 214 xm_X10_garrison xc_582 xu_582 [] [77]) = true := by decide +kernel
theorem xw_582_68 : ((xu_582.drop 68).take 1).all (xVerCs xT_582 xHt 100000 214 xm_X10_garrison xc_582 xu_582 [] [77]) = true := by decide +kernel
theorem xw_582_69 : ((xu_582.drop 69).take 1).all (xVerCs xT_582 xHt 100000 214 xm_X10_garrison xc_582 xu_582 [] [77]) = true := by decide +kernel
theorem xw_582_70 : ((xu_582.drop 70).take 1).all (xVerCs xT_582 xHt 100000 214 xm_X10_garrison xc_582 xu_582 [] [77, 78]) = true := by decide +kernel
theorem xw_582_71 : ((xu_582.drop 71).take 1).all (xVerCs xT_582 xHt 100000 214 xm_X10_garrison xc_582 xu_582 [] [79]) = true := by decide +kernel
theorem xw_582_72 : ((xu_582.drop 72).take 1).all (xVerCs xT_582 xHt 100000 214 xm_X10_garrison xc_582 xu_582 [] [79]) = true := by decide +kernel
theorem xw_582_73 : ((xu_582.drop 73).take 1).all (xVerCs xT_582 xHt 100000 214 xm_X10_garrison xc_582 xu_582 [] [79]) = true := by decide +kernel
theorem xw_582_74 : ((xu_582.drop 74).take 1).all (xVerCs xT_582 xHt 100000 214 xm_X10_garrison xc_582 xu_582 [] [79, 80]) = true := by decide +kernel
theorem xw_582_75 : ((xu_582.drop 75).take 1).all (xVerCs xT_582 xHt 100000 214 xm_X10_garrison xc_582 xu_582 [0] []) = true := by decide +kernel
theorem xw_582_76 : ((xu_582.drop 76).take 1).all (xVerCs xT_582 xHt 100000 214 xm_X10_garrison xc_582 xu_582 [0] [64, 65, 66, 81, 82, 83, 84]) = true := by decide +kernel
theorem xw_582_77 : ((xu_582.drop 77).take 1).all (xVerCs xT_582 xHt 100000 214 xm_X10_garrison xc_582 xu_582 [0] []) = true := by decide +kernel
theorem xw_582_78 : ((xu_582.drop 78).take 1).all (xVerCs xT_582 xHt 100000 214 xm_X10_garrison xc_582 xu_582 [0] [68, 69, 70, 81, 82, 83, 84, 85, 86, 87, 88]) = true := by decide +kernel
theorem xw_582_79 : ((xu_582.drop 79).take 1).all (xVerCs xT_582 xHt 100000 214 xm_X10_garrison xc_582 xu_582 [0] []) = true := by decide +kernel
theorem xw_582_80 : ((xu_582.drop 80).take 1).all (xVerCs xT_582 xHt 100000 214 xm_X10_garrison xc_582 xu_582 [0] [72, 73, 74, 85, 86, 87, 88]) = true := by decide +kernel
theorem xw_582_81 : ((xu_582.drop 81).take 1).all (xVerCs xT_582 xHt 100000 214 xm_X10_garrison xc_582 xu_582 [] [89]) = true := by decide +kernel
theorem xw_582_82 : ((xu_582.drop 82).take 1).all (xVerCs xT_582 xHt 100000 214 xm_X10_garrison xc_582 xu_582 [] [89]) = true := by decide +kernel
theorem xw_582_83 : ((xu_582.drop 83).take 1).all (xVerCs xT_582 xHt 100000 214 xm_X10_garrison xc_582 xu_582 [] [89]) = true := by decide +kernel
theorem xw_582_84 : ((xu_582.drop 84).take 1).all (xVerCs xT_582 xHt 100000 214 xm_X10_garrison xc_582 xu_582 [] [89, 90]) = true := by decide +kernel
theorem xw_582_85 : ((xu_582.drop 85).take 1).all (xVerCs xT_582 xHt 100000 214 xm_X10_garrison xc_582 xu_582 [] [91]) = true := by decide +kernel
theorem xw_582_86 : ((xu_582.drop 86).take 1).all (xVerCs xT_582 xHt 100000 214 xm_X10_garrison xc_582 xu_582 [] [91]) = true := by decide +kernel
theorem xw_582_87 : ((xu_582.drop 87).take 1).all (xVerCs xT_582 xHt 100000 214 xm_X10_garrison xc_582 xu_582 [] [91]) = true := by decide +kernel
theorem xw_582_88 : ((xu_582.drop 88).take 1).all (xVerCs xT_582 xHt 100000 214 xm_X10_garrison xc_582 xu_582 [] [91, 92]) = true := by decide +kernel
theorem xw_582_89 : ((xu_582.drop 89).take 1).all (xVerCs xT_582 xHt 100000 214 xm_X10_garrison xc_582 xu_582 [0] []) = true := by decide +kernel
theorem xw_582_90 : ((xu_582.drop 90).take 1).all (xVerCs xT_582 xHt 100000 214 xm_X10_garrison xc_582 xu_582 [0] [82, 83, 84, 93, 94, 95, 96]) = true := by decide +kernel
