/-! Contracts, printed by a program: part 44. -/
theorem xw_574_61 : ((xu_574.drop 61).take 1).all (xVerCs xT_574 xHt 100000 214 xm_X10_garrison xc_574 xu_574 [0] []) = true := by decide +kernel
theorem xw_574_62 : ((xu_574.drop 62).take 1).all (xVerCs xT_574 xHt 100000 214 xm_X10_garrison xc_574 xu_574 [0] [52, 53, 54, 71, 72, 73, 74]) = true := by decide +kernel
theorem xw_574_63 : ((xu_574.drop 63).take 1).all (xVerCs xT_574 xHt 100000 214 xm_X10_garrison xc_574 xu_574 [] [75]) = true := by decide +kernel
theorem xw_574_64 : ((xu_574.drop 64).take 1).all (xVerCs xT_574 xHt 100000 214 xm_X10_garrison xc_574 xu_574 [] [75]) = true := by decide +kernel
theorem xw_574_65 : ((xu_574.drop 65).take 1).all (xVerCs xT_574 xHt 100000 214 xm_X10_garrison xc_574 xu_574 [] [75]) = true := by decide +kernel
theorem xw_574_66 : ((xu_574.drop 66).take 1).all (xVerCs xT_574 xHt 100000 214 xm_X10_garrison xc_574 xu_574 [] [75, 76]) = true := by decide +kernel
theorem xw_574_67 : ((xu_574.drop 67).take 1).all (xVerCs xT_574 xHt 100000 214 xm_X10_garrison xc_574 xu_574 [] [77]) = true := by decide +kernel
theorem xw_574_68 : ((xu_574.drop 68).take 1).all (xVerCs xT_574 xHt 100000 214 xm_X10_garrison xc_574 xu_574 [] [77]) = true := by decide +kernel
theorem xw_574_69 : ((xu_574.drop 69).take 1).all (xVerCs xT_574 xHt 100000 214 xm_X10_garrison xc_574 xu_574 [] [77]) = true := by decide +kernel
theorem xw_574_70 : ((xu_574.drop 70).take 1).all (xVerCs xT_574 xHt 100000 214 xm_X10_garrison xc_574 xu_574 [] [77, 78]) = true := by decide +kernel
theorem xw_574_71 : ((xu_574.drop 71).take 1).all (xVerCs xT_574 xHt 100000 214 xm_X10_garrison xc_574 xu_574 [] [79]) = true := by decide +kernel
theorem xw_574_72 : ((xu_574.drop 72).take 1).all (xVerCs xT_574 xHt 100000 214 xm_X10_garrison xc_574 xu_574 [] [79]) = true := by decide +kernel
theorem xw_574_73 : ((xu_574.drop 73).take 1).all (xVerCs xT_574 xHt 100000 214 xm_X10_garrison xc_574 xu_574 [] [79]) = true := by decide +kernel
theorem xw_574_74 : ((xu_574.drop 74).take 1).all (xVerCs xT_574 xHt 100000 214 xm_X10_garrison xc_574 xu_574 [] [79, 80]) = true := by decide +kernel
theorem xw_574_75 : ((xu_574.drop 75).take 1).all (xVerCs xT_574 xHt 100000 214 xm_X10_garrison xc_574 xu_574 [0] []) = true := by decide +kernel
theorem xw_574_76 : ((xu_574.drop 76).take 1).all (xVerCs xT_574 xHt 100000 214 xm_X10_garrison xc_574 xu_574 [0] [64, 65, 66, 81, 82, 83, 84]) = true := by decide +kernel
theorem xw_574_77 : ((xu_574.drop 77).take 1).all (xVerCs xT_574 xHt 100000 214 xm_X10_garrison xc_574 xu_574 [0] []) = true := by decide +kernel
theorem xw_574_78 : ((xu_574.drop 78).take 1).all (xVerCs xT_574 xHt 100000 214 xm_X10_garrison xc_574 xu_574 [0] [68, 69, 70, 81, 82, 83, 84, 85, 86, 87, 88]) = true := by decide +kernel
theorem xw_574_79 : ((xu_574.drop 79).take 1).all (xVerCs xT_574 xHt 100000 214 xm_X10_garrison xc_574 xu_574 [0] []) = true := by decide +kernel
theorem xw_574_80 : ((xu_574.drop 80).take 1).all (xVerCs xT_574 xHt 100000 214 xm_X10_garrison xc_574 xu_574 [0] [72, 73, 74, 85, 86, 87, 88]) = true := by decide +kernel
theorem xw_574_81 : ((xu_574.drop 81).take 1).all (xVerCs xT_574 xHt 100000 214 xm_X10_garrison xc_574 xu_574 [] [89]) = true := by decide +kernel
theorem xw_574_82 : ((xu_574.drop 82).take 1).all (xVerCs xT_574 xHt 100000 214 xm_X10_garrison xc_574 xu_574 [] [89]) = true := by decide +kernel
theorem xw_574_83 : ((xu_574.drop 83).take 1).all (xVerCs xT_574 xHt 100000 214 xm_X10_garrison xc_574 xu_574 [] [89]) = true := by decide +kernel
theorem xw_574_84 : ((xu_574.drop 84).take 1).all (xVerCs xT_574 xHt 100000 214 xm_X10_garrison xc_574 xu_574 [] [89, 90]) = true := by decide +kernel
theorem xw_574_85 : ((xu_574.drop 85).take 1).all (xVerCs xT_574 xHt 100000 214 xm_X10_garrison xc_574 xu_574 [] [91]) = true := by decide +kernel
theorem xw_574_86 : ((xu_574.drop 86).take 1).all (xVerCs xT_574 xHt 100000 214 xm_X10_garrison xc_574 xu_574 [] [91]) = true := by decide +kernel
theorem xw_574_87 : ((xu_574.drop 87).take 1).all (xVerCs xT_574 xHt 100000 214 xm_X10_garrison xc_574 xu_574 [] [91]) = true := by decide +kernel
theorem xw_574_88 : ((xu_574.drop 88).take 1).all (xVerCs xT_574 xHt 100000 214 xm_X10_garrison xc_574 xu_574 [] [91, 92]) = true := by decide +kernel
theorem xw_574_89 : ((xu_574.drop 89).take 1).all (xVerCs xT_574 xHt 100000 214 xm_X10_garrison xc_574 xu_574 [0] []) = true := by decide +kernel
theorem xw_574_90 : ((xu_574.drop 90).take 1).all (xVerCs xT_574 xHt 100000 214 xm_X10_garrison xc_574 xu_574 [0] [82, 83, 84, 93, 94, 95, 96]) = true := by decide +kernel
