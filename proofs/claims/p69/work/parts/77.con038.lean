/-! Contracts, printed by a program: part 38. -/
theorem xw_586_61 : ((xu_586.drop 61).take 1).all (xVerCs xT_586 xHt 100000 214 xm_X10_garrison xc_586 xu_586 [0] []) = true := by decide +kernel
theorem xw_586_62 : ((xu_586.drop 62).take 1).all (xVerCs xT_586 xHt 100000 214 xm_X10_garrison xc_586 xu_586 [0] [52, 53, 54, 71, 72, 73, 74]) = true := by decide +kernel
theorem xw_586_63 : ((xu_586.drop 63).take 1).all (xVerCs xT_586 xHt 100000 214 xm_X10_garrison xc_586 xu_586 [] [75]) = true := by decide +kernel
theorem xw_586_64 : ((xu_586.drop 64).take 1).all (xVerCs xT_586 xHt 100000 214 xm_X10_garrison xc_586 xu_586 [] [75]) = true := by decide +kernel
theorem xw_586_65 : ((xu_586.drop 65).take 1).all (xVerCs xT_586 xHt 100000 214 xm_X10_garrison xc_586 xu_586 [] [75]) = true := by decide +kernel
theorem xw_586_66 : ((xu_586.drop 66).take 1).all (xVerCs xT_586 xHt 100000 214 xm_X10_garrison xc_586 xu_586 [] [75, 76]) = true := by decide +kernel
theorem xw_586_67 : ((xu_586.drop 67).take 1).all (xVerCs xT_586 xHt 100000 214 xm_X10_garrison xc_586 xu_586 [] [77]) = true := by decide +kernel
theorem xw_586_68 : ((xu_586.drop 68).take 1).all (xVerCs xT_586 xHt 100000 214 xm_X10_garrison xc_586 xu_586 [] [77]) = true := by decide +kernel
theorem xw_586_69 : ((xu_586.drop 69).take 1).all (xVerCs xT_586 xHt 100000 214 xm_X10_garrison xc_586 xu_586 [] [77]) = true := by decide +kernel
theorem xw_586_70 : ((xu_586.drop 70).take 1).all (xVerCs xT_586 xHt 100000 214 xm_X10_garrison xc_586 xu_586 [] [77, 78]) = true := by decide +kernel
theorem xw_586_71 : ((xu_586.drop 71).take 1).all (xVerCs xT_586 xHt 100000 214 xm_X10_garrison xc_586 xu_586 [] [79]) = true := by decide +kernel
theorem xw_586_72 : ((xu_586.drop 72).take 1).all (xVerCs xT_586 xHt 100000 214 xm_X10_garrison xc_586 xu_586 [] [79]) = true := by decide +kernel
theorem xw_586_73 : ((xu_586.drop 73).take 1).all (xVerCs xT_586 xHt 100000 214 xm_X10_garrison xc_586 xu_586 [] [79]) = true := by decide +kernel
theorem xw_586_74 : ((xu_586.drop 74).take 1).all (xVerCs xT_586 xHt 100000 214 xm_X10_garrison xc_586 xu_586 [] [79, 80]) = true := by decide +kernel
theorem xw_586_75 : ((xu_586.drop 75).take 1).all (xVerCs xT_586 xHt 100000 214 xm_X10_garrison xc_586 xu_586 [0] []) = true := by decide +kernel
theorem xw_586_76 : ((xu_586.drop 76).take 1).all (xVerCs xT_586 xHt 100000 214 xm_X10_garrison xc_586 xu_586 [0] [64, 65, 66, 81, 82, 83, 84]) = true := by decide +kernel
theorem xw_586_77 : ((xu_586.drop 77).take 1).all (xVerCs xT_586 xHt 100000 214 xm_X10_garrison xc_586 xu_586 [0] []) = true := by decide +kernel
theorem xw_586_78 : ((xu_586.drop 78).take 1).all (xVerCs xT_586 xHt 100000 214 xm_X10_garrison xc_586 xu_586 [0] [68, 69, 70, 81, 82, 83, 84, 85, 86, 87, 88]) = true := by decide +kernel
theorem xw_586_79 : ((xu_586.drop 79).take 1).all (xVerCs xT_586 xHt 100000 214 xm_X10_garrison xc_586 xu_586 [0] []) = true := by decide +kernel
theorem xw_586_80 : ((xu_586.drop 80).take 1).all (xVerCs xT_586 xHt 100000 214 xm_X10_garrison xc_586 xu_586 [0] [72, 73, 74, 85, 86, 87, 88]) = true := by decide +kernel
theorem xw_586_81 : ((xu_586.drop 81).take 1).all (xVerCs xT_586 xHt 100000 214 xm_X10_garrison xc_586 xu_586 [] [89]) = true := by decide +kernel
theorem xw_586_82 : ((xu_586.drop 82).take 1).all (xVerCs xT_586 xHt 100000 214 xm_X10_garrison xc_586 xu_586 [] [89]) = true := by decide +kernel
theorem xw_586_83 : ((xu_586.drop 83).take 1).all (xVerCs xT_586 xHt 100000 214 xm_X10_garrison xc_586 xu_586 [] [89]) = true := by decide +kernel
theorem xw_586_84 : ((xu_586.drop 84).take 1).all (xVerCs xT_586 xHt 100000 214 xm_X10_garrison xc_586 xu_586 [] [89, 90]) = true := by decide +kernel
theorem xw_586_85 : ((xu_586.drop 85).take 1).all (xVerCs xT_586 xHt 100000 214 xm_X10_garrison xc_586 xu_586 [] [91]) = true := by decide +kernel
theorem xw_586_86 : ((xu_586.drop 86).take 1).all (xVerCs xT_586 xHt 100000 214 xm_X10_garrison xc_586 xu_586 [] [91]) = true := by decide +kernel
theorem xw_586_87 : ((xu_586.drop 87).take 1).all (xVerCs xT_586 xHt 100000 214 xm_X10_garrison xc_586 xu_586 [] [91]) = true := by decide +kernel
theorem xw_586_88 : ((xu_586.drop 88).take 1).all (xVerCs xT_586 xHt 100000 214 xm_X10_garrison xc_586 xu_586 [] [91, 92]) = true := by decide +kernel
theorem xw_586_89 : ((xu_586.drop 89).take 1).all (xVerCs xT_586 xHt 100000 214 xm_X10_garrison xc_586 xu_586 [0] []) = true := by decide +kernel
theorem xw_586_90 : ((xu_586.drop 90).take 1).all (xVerCs xT_586 xHt 100000 214 xm_X10_garrison xc_586 xu_586 [0] [82, 83, 84, 93, 94, 95, 96]) = true := by decide +kernel
