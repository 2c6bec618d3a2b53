/-! Contracts, printed by a program: part 4. -/
def kc200 : xC := kLr 60 [(44, kB 0 23), (16, kB6)]
def xc_88 : xCt := (([kc175, kc176, kc23, kc177, kc200], [(0, 5), kA3, kA3, kA3, kA3, kA3, kA3, kA3, kA3, (44, 45)], [], [kR 0, kR 3, kI 0], 9), [([kc175, kc176, kc23, kc177, kc200], [(0, 5), kA3, kA3, kA3, kA3, kA3, kA3, kA3, kA3, (44, 45), (0, 1)], [], [kI 10], 9)], 1)
def xu_88 : List xCu := [(2, [0, 1, 2, 3], ([kc175, kc176, kc23, kc177, kc200], [(0, 5), kA3, kA3, kA3, kA3, kA3, kA3, kA3, kA3, (44, 45), (0, 45)], [], [kR 0, kR 3, kI 0, kI 10], 9), ([(10, (-1))], 45))]
def xT_88 : List (Nat × xCt) := []
theorem xv_88 : xVer0 xT_88 xHt 100000 87 xm_X7_agreesByPairs xc_88 xu_88 = true := by
  rw [← zVer0_eq]
  decide +kernel
theorem xw_88_0 : ((xu_88.drop 0).take 1).all (xVerC xT_88 xHt 100000 87 xm_X7_agreesByPairs xc_88 xu_88) = true := by
  rw [← zVerC_eq]
  decide +kernel
theorem xok_88 (l : Launch) : xCk l 87 xc_88 := ⟨xm_X7_agreesByPairs, rfl, xVer_ok xk_all (xHt_ok l) (T := xT_88) (xTn l) rfl (f := 100000) (cuts := xu_88) xv_88 (xAll0 (xAllS 0 1 xw_88_0 (xAllZ (by decide +kernel))))⟩
def xc_89 : xCt := (([kc172, kc60, kc61, kc13, kc20, kc31, kc14, kc21, kc22, kc23, kc15, kc4, kc5, kc63, kc14, kc14, kc16, kc0, kc28, kc23, kc23, kc14, kc23, kc179, kc200], [(0, 5), kA3, kA3, kA3, kA3, kA3, kA3, (0, 6), (0, 30), kA3, (0, 24), kA3, kA3, kA3, (44, 45)], [], [kR 0, kR 23, kI 0], 0), [([kc169, kc60, kc61, kc13, kc20, kc31, kc14, kc21, kc22, kc23, kc15, kc4, kc5, kc170, kc14, kc14, kc16, kc0, kc28, kc23, kc23, kc14, kc23, kc179, kc200], [(0, 5), kA3, kA3, kA3, kA3, kA3, kA3, (0, 6), (0, 30), kA3, (0, 24), kA3, kA3, kA3, (44, 45), kA3, kA3, kA3, kA3, kA3, kA3], [], [], 0)], 4)
def xu_89 : List xCu := [(42, [0, 1, 2, 3], ([kc173, kc60, kc61, kc13, kc20, kc31, kc14, kc21, kc22, kc23, kc15, kc4, kc5, kc174, kc14, kc14, kc16, kc0, kc28, kc23, kc23, kc14, kc23, kc179, kc200], [(0, 5), kA3, kA3, kA3, kA3, kA3, kA3, (0, 6), (0, 30), kA3, (0, 24), kA3, kA3, kA3, (44, 45), (0, 100), kA3, kA3, kA3, kA3, kA3, kA3], [], [kR 0, kR 23, kI 0, kI 15], 0), ([(15, (-1))], 100))]
def xT_89 : List (Nat × xCt) := [(61, xc_7), (64, xc_13), (88, xc_40), (87, xc_88)]
theorem xv_89 : xVer0 xT_89 xHt 100000 86 xm_X7_weigh xc_89 xu_89 = true := by
  rw [← zVer0_eq]
  decide +kernel
theorem xw_89_0 : ((xu_89.drop 0).take 1).all (xVerC xT_89 xHt 100000 86 xm_X7_weigh xc_89 xu_89) = true := by
  rw [← zVerC_eq]
  decide +kernel
theorem xok_89 (l : Launch) : xCk l 86 xc_89 := ⟨xm_X7_weigh, rfl, xVer_ok xk_all (xHt_ok l) (T := xT_89) (xTc (xok_7 l) (xTc (xok_13 l) (xTc (xok_40 l) (xTc (xok_88 l) (xTn l))))) rfl (f := 100000) (cuts := xu_89) xv_89 (xAll0 (xAllS 0 1 xw_89_0 (xAllZ (by decide +kernel))))⟩
def kc201 : xC := kLr 60 [(46, kB 0 23), (14, kB6)]
def xc_90 : xCt := (([kc175, kc176, kc23, kc177, kc201], [(0, 5), kA3, kA3, kA3, kA3, kA3, kA3, kA3, kA3, (46, 47)], [], [kR 0, kR 3, kI 0], 9), [([kc175, kc176, kc23, kc177, kc201], [(0, 5), kA3, kA3, kA3, kA3, kA3, kA3, kA3, kA3, (46, 47), (0, 1)], [], [kI 10], 9)], 1)
def xu_90 : List xCu := [(2, [0, 1, 2, 3], ([kc175, kc176, kc23, kc177, kc201], [(0, 5), kA3, kA3, kA3, kA3, kA3, kA3, kA3, kA3, (46, 47), (0, 47)], [], [kR 0, kR 3, kI 0, kI 10], 9), ([(10, (-1))], 47))]
def xT_90 : List (Nat × xCt) := []
theorem xv_90 : xVer0 xT_90 xHt 100000 87 xm_X7_agreesByPairs xc_90 xu_90 = true := by
  rw [← zVer0_eq]
  decide +kernel
theorem xw_90_0 : ((xu_90.drop 0).take 1).all (xVerC xT_90 xHt 100000 87 xm_X7_agreesByPairs xc_90 xu_90) = true := by
  rw [← zVerC_eq]
  decide +kernel
theorem xok_90 (l : Launch) : xCk l 87 xc_90 := ⟨xm_X7_agreesByPairs, rfl, xVer_ok xk_all (xHt_ok l) (T := xT_90) (xTn l) rfl (f := 100000) (cuts := xu_90) xv_90 (xAll0 (xAllS 0 1 xw_90_0 (xAllZ (by decide +kernel))))⟩
def xc_91 : xCt := (([kc172, kc60, kc61, kc13, kc20, kc31, kc14, kc21, kc22, kc23, kc15, kc4, kc5, kc63, kc14, kc14, kc16, kc0, kc28, kc23, kc23, kc14, kc23, kc179, kc201], [(0, 5), kA3, kA3, kA3, kA3, kA3, kA3, (0, 6), (0, 30), kA3, (0, 24), kA3, kA3, kA3, (46, 47)], [], [kR 0, kR 23, kI 0], 0), [([kc169, kc60, kc61, kc13, kc20, kc31, kc14, kc21, kc22, kc23, kc15, kc4, kc5, kc170, kc14, kc14, kc16, kc0, kc28, kc23, kc23, kc14, kc23, kc179, kc201], [(0, 5), kA3, kA3, kA3, kA3, kA3, kA3, (0, 6), (0, 30), kA3, (0, 24), kA3, kA3, kA3, (46, 47), kA3, kA3, kA3, kA3, kA3, kA3], [], [], 0)], 4)
def xu_91 : List xCu := [(42, [0, 1, 2, 3], ([kc173, kc60, kc61, kc13, kc20, kc31, kc14, kc21, kc22, kc23, kc15, kc4, kc5, kc174, kc14, kc14, kc16, kc0, kc28, kc23, kc23, kc14, kc23, kc179, kc201], [(0, 5), kA3, kA3, kA3, kA3, kA3, kA3, (0, 6), (0, 30), kA3, (0, 24), kA3, kA3, kA3, (46, 47), (0, 100), kA3, kA3, kA3, kA3, kA3, kA3], [], [kR 0, kR 23, kI 0, kI 15], 0), ([(15, (-1))], 100))]
def xT_91 : List (Nat × xCt) := [(61, xc_7), (64, xc_13), (88, xc_40), (87, xc_90)]
theorem xv_91 : xVer0 xT_91 xHt 100000 86 xm_X7_weigh xc_91 xu_91 = true := by
  rw [← zVer0_eq]
  decide +kernel
theorem xw_91_0 : ((xu_91.drop 0).take 1).all (xVerC xT_91 xHt 100000 86 xm_X7_weigh xc_91 xu_91) = true := by
  rw [← zVerC_eq]
  decide +kernel
theorem xok_91 (l : Launch) : xCk l 86 xc_91 := ⟨xm_X7_weigh, rfl, xVer_ok xk_all (xHt_ok l) (T := xT_91) (xTc (xok_7 l) (xTc (xok_13 l) (xTc (xok_40 l) (xTc (xok_90 l) (xTn l))))) rfl (f := 100000) (cuts := xu_91) xv_91 (xAll0 (xAllS 0 1 xw_91_0 (xAllZ (by decide +kernel))))⟩
def kc202 : xC := kLr 60 [(48, kB 0 23), (12, kB6)]
def xc_92 : xCt := (([kc175, kc176, kc23, kc177, kc202], [(0, 5), kA3, kA3, kA3, kA3, kA3, kA3, kA3, kA3, (48, 49)], [], [kR 0, kR 3, kI 0], 9), [([kc175, kc176, kc23, kc177, kc202], [(0, 5), kA3, kA3, kA3, kA3, kA3, kA3, kA3, kA3, (48, 49), (0, 1)], [], [kI 10], 9)], 1)
def xu_92 : List xCu := [(2, [0, 1, 2, 3], ([kc175, kc176, kc23, kc177, kc202], [(0, 5), kA3, kA3, kA3, kA3, kA3, kA3, kA3, kA3, (48, 49), (0, 49)], [], [kR 0, kR 3, kI 0, kI 10], 9), ([(10, (-1))], 49))]
def xT_92 : List (Nat × xCt) := []
theorem xv_92 : xVer0 xT_92 xHt 100000 87 xm_X7_agreesByPairs xc_92 xu_92 = true := by
  rw [← zVer0_eq]
  decide +kernel
theorem xw_92_0 : ((xu_92.drop 0).take 1).all (xVerC xT_92 xHt 100000 87 xm_X7_agreesByPairs xc_92 xu_92) = true := by
  rw [← zVerC_eq]
  decide +kernel
theorem xok_92 (l : Launch) : xCk l 87 xc_92 := ⟨xm_X7_agreesByPairs, rfl, xVer_ok xk_all (xHt_ok l) (T := xT_92) (xTn l) rfl (f := 100000) (cuts := xu_92) xv_92 (xAll0 (xAllS 0 1 xw_92_0 (xAllZ (by decide +kernel))))⟩
def xc_93 : xCt := (([kc172, kc60, kc61, kc13, kc20, kc31, kc14, kc21, kc22, kc23, kc15, kc4, kc5, kc63, kc14, kc14, kc16, kc0, kc28, kc23, kc23, kc14, kc23, kc179, kc202], [(0, 5), kA3, kA3, kA3, kA3, kA3, kA3, (0, 6), (0, 30), kA3, (0, 24), kA3, kA3, kA3, (48, 49)], [], [kR 0, kR 23, kI 0], 0), [([kc169, kc60, kc61, kc13, kc20, kc31, kc14, kc21, kc22, kc23, kc15, kc4, kc5, kc170, kc14, kc14, kc16, kc0, kc28, kc23, kc23, kc14, kc23, kc179, kc202], [(0, 5), kA3, kA3, kA3, kA3, kA3, kA3, (0, 6), (0, 30), kA3, (0, 24), kA3, kA3, kA3, (48, 49), kA3, kA3, kA3, kA3, kA3, kA3], [], [], 0)], 4)
def xu_93 : List xCu := [(42, [0, 1, 2, 3], ([kc173, kc60, kc61, kc13, kc20, kc31, kc14, kc21, kc22, kc23, kc15, kc4, kc5, kc174, kc14, kc14, kc16, kc0, kc28, kc23, kc23, kc14, kc23, kc179, kc202], [(0, 5), kA3, kA3, kA3, kA3, kA3, kA3, (0, 6), (0, 30), kA3, (0, 24), kA3, kA3, kA3, (48, 49), (0, 100), kA3, kA3, kA3, kA3, kA3, kA3], [], [kR 0, kR 23, kI 0, kI 15], 0), ([(15, (-1))], 100))]
def xT_93 : List (Nat × xCt) := [(61, xc_7), (64, xc_13), (88, xc_40), (87, xc_92)]
theorem xv_93 : xVer0 xT_93 xHt 100000 86 xm_X7_weigh xc_93 xu_93 = true := by
  rw [← zVer0_eq]
  decide +kernel
theorem xw_93_0 : ((xu_93.drop 0).take 1).all (xVerC xT_93 xHt 100000 86 xm_X7_weigh xc_93 xu_93) = true := by
  rw [← zVerC_eq]
  decide +kernel
theorem xok_93 (l : Launch) : xCk l 86 xc_93 := ⟨xm_X7_weigh, rfl, xVer_ok xk_all (xHt_ok l) (T := xT_93) (xTc (xok_7 l) (xTc (xok_13 l) (xTc (xok_40 l) (xTc (xok_92 l) (xTn l))))) rfl (f := 100000) (cuts := xu_93) xv_93 (xAll0 (xAllS 0 1 xw_93_0 (xAllZ (by decide +kernel))))⟩
def kc203 : xC := kLr 60 [(50, kB 0 23), (10, kB6)]
def xc_94 : xCt := (([kc175, kc176, kc23, kc177, kc203], [(0, 5), kA3, kA3, kA3, kA3, kA3, kA3, kA3, kA3, (50, 51)], [], [kR 0, kR 3, kI 0], 9), [([kc175, kc176, kc23, kc177, kc203], [(0, 5), kA3, kA3, kA3, kA3, kA3, kA3, kA3, kA3, (50, 51), (0, 1)], [], [kI 10], 9)], 1)
def xu_94 : List xCu := [(2, [0, 1, 2, 3], ([kc175, kc176, kc23, kc177, kc203], [(0, 5), kA3, kA3, kA3, kA3, kA3, kA3, kA3, kA3, (50, 51), (0, 51)], [], [kR 0, kR 3, kI 0, kI 10], 9), ([(10, (-1))], 51))]
def xT_94 : List (Nat × xCt) := []
theorem xv_94 : xVer0 xT_94 xHt 100000 87 xm_X7_agreesByPairs xc_94 xu_94 = true := by
  rw [← zVer0_eq]
  decide +kernel
theorem xw_94_0 : ((xu_94.drop 0).take 1).all (xVerC xT_94 xHt 100000 87 xm_X7_agreesByPairs xc_94 xu_94) = true := by
  rw [← zVerC_eq]
  decide +kernel
theorem xok_94 (l : Launch) : xCk l 87 xc_94 := ⟨xm_X7_agreesByPairs, rfl, xVer_ok xk_all (xHt_ok l) (T := xT_94) (xTn l) rfl (f := 100000) (cuts := xu_94) xv_94 (xAll0 (xAllS 0 1 xw_94_0 (xAllZ (by decide +kernel))))⟩
def xc_95 : xCt := (([kc172, kc60, kc61, kc13, kc20, kc31, kc14, kc21, kc22, kc23, kc15, kc4, kc5, kc63, kc14, kc14, kc16, kc0, kc28, kc23, kc23, kc14, kc23, kc179, kc203], [(0, 5), kA3, kA3, kA3, kA3, kA3, kA3, (0, 6), (0, 30), kA3, (0, 24), kA3, kA3, kA3, (50, 51)], [], [kR 0, kR 23, kI 0], 0), [([kc169, kc60, kc61, kc13, kc20, kc31, kc14, kc21, kc22, kc23, kc15, kc4, kc5, kc170, kc14, kc14, kc16, kc0, kc28, kc23, kc23, kc14, kc23, kc179, kc203], [(0, 5), kA3, kA3, kA3, kA3, kA3, kA3, (0, 6), (0, 30), kA3, (0, 24), kA3, kA3, kA3, (50, 51), kA3, kA3, kA3, kA3, kA3, kA3], [], [], 0)], 4)
def xu_95 : List xCu := [(42, [0, 1, 2, 3], ([kc173, kc60, kc61, kc13, kc20, kc31, kc14, kc21, kc22, kc23, kc15, kc4, kc5, kc174, kc14, kc14, kc16, kc0, kc28, kc23, kc23, kc14, kc23, kc179, kc203], [(0, 5), kA3, kA3, kA3, kA3, kA3, kA3, (0, 6), (0, 30), kA3, (0, 24), kA3, kA3, kA3, (50, 51), (0, 100), kA3, kA3, kA3, kA3, kA3, kA3], [], [kR 0, kR 23, kI 0, kI 15], 0), ([(15, (-1))], 100))]
def xT_95 : List (Nat × xCt) := [(61, xc_7), (64, xc_13), (88, xc_40), (87, xc_94)]
theorem xv_95 : xVer0 xT_95 xHt 100000 86 xm_X7_weigh xc_95 xu_95 = true := by
  rw [← zVer0_eq]
  decide +kernel
theorem xw_95_0 : ((xu_95.drop 0).take 1).all (xVerC xT_95 xHt 100000 86 xm_X7_weigh xc_95 xu_95) = true := by
  rw [← zVerC_eq]
  decide +kernel
theorem xok_95 (l : Launch) : xCk l 86 xc_95 := ⟨xm_X7_weigh, rfl, xVer_ok xk_all (xHt_ok l) (T := xT_95) (xTc (xok_7 l) (xTc (xok_13 l) (xTc (xok_40 l) (xTc (xok_94 l) (xTn l))))) rfl (f := 100000) (cuts := xu_95) xv_95 (xAll0 (xAllS 0 1 xw_95_0 (xAllZ (by decide +kernel))))⟩
def kc204 : xC := kLr 60 [(52, kB 0 23), (8, kB6)]
def xc_96 : xCt := (([kc175, kc176, kc23, kc177, kc204], [(0, 5), kA3, kA3, kA3, kA3, kA3, kA3, kA3, kA3, (52, 53)], [], [kR 0, kR 3, kI 0], 9), [([kc175, kc176, kc23, kc177, kc204], [(0, 5), kA3, kA3, kA3, kA3, kA3, kA3, kA3, kA3, (52, 53), (0, 1)], [], [kI 10], 9)], 1)
def xu_96 : List xCu := [(2, [0, 1, 2, 3], ([kc175, kc176, kc23, kc177, kc204], [(0, 5), kA3, kA3, kA3, kA3, kA3, kA3, kA3, kA3, (52, 53), (0, 53)], [], [kR 0, kR 3, kI 0, kI 10], 9), ([(10, (-1))], 53))]
def xT_96 : List (Nat × xCt) := []
theorem xv_96 : xVer0 xT_96 xHt 100000 87 xm_X7_agreesByPairs xc_96 xu_96 = true := by
  rw [← zVer0_eq]
  decide +kernel
theorem xw_96_0 : ((xu_96.drop 0).take 1).all (xVerC xT_96 xHt 100000 87 xm_X7_agreesByPairs xc_96 xu_96) = true := by
  rw [← zVerC_eq]
  decide +kernel
theorem xok_96 (l : Launch) : xCk l 87 xc_96 := ⟨xm_X7_agreesByPairs, rfl, xVer_ok xk_all (xHt_ok l) (T := xT_96) (xTn l) rfl (f := 100000) (cuts := xu_96) xv_96 (xAll0 (xAllS 0 1 xw_96_0 (xAllZ (by decide +kernel))))⟩
def xc_97 : xCt := (([kc172, kc60, kc61, kc13, kc20, kc31, kc14, kc21, kc22, kc23, kc15, kc4, kc5, kc63, kc14, kc14, kc16, kc0, kc28, kc23, kc23, kc14, kc23, kc179, kc204], [(0, 5), kA3, kA3, kA3, kA3, kA3, kA3, (0, 6), (0, 30), kA3, (0, 24), kA3, kA3, kA3, (52, 53)], [], [kR 0, kR 23, kI 0], 0), [([kc169, kc60, kc61, kc13, kc20, kc31, kc14, kc21, kc22, kc23, kc15, kc4, kc5, kc170, kc14, kc14, kc16, kc0, kc28, kc23, kc23, kc14, kc23, kc179, kc204], [(0, 5), kA3, kA3, kA3, kA3, kA3, kA3, (0, 6), (0, 30), kA3, (0, 24), kA3, kA3, kA3, (52, 53), kA3, kA3, kA3, kA3, kA3, kA3], [], [], 0)], 4)
def xu_97 : List xCu := [(42, [0, 1, 2, 3], ([kc173, kc60, kc61, kc13, kc20, kc31, kc14, kc21, kc22, kc23, kc15, kc4, kc5, kc174, kc14, kc14, kc16, kc0, kc28, kc23, kc23, kc14, kc23, kc179, kc204], [(0, 5), kA3, kA3, kA3, kA3, kA3, kA3, (0, 6), (0, 30), kA3, (0, 24), kA3, kA3, kA3, (52, 53), (0, 100), kA3, kA3, kA3, kA3, kA3, kA3], [], [kR 0, kR 23, kI 0, kI 15], 0), ([(15, (-1))], 100))]
def xT_97 : List (Nat × xCt) := [(61, xc_7), (64, xc_13), (88, xc_40), (87, xc_96)]
theorem xv_97 : xVer0 xT_97 xHt 100000 86 xm_X7_weigh xc_97 xu_97 = true := by
  rw [← zVer0_eq]
  decide +kernel
theorem xw_97_0 : ((xu_97.drop 0).take 1).all (xVerC xT_97 xHt 100000 86 xm_X7_weigh xc_97 xu_97) = true := by
  rw [← zVerC_eq]
  decide +kernel
theorem xok_97 (l : Launch) : xCk l 86 xc_97 := ⟨xm_X7_weigh, rfl, xVer_ok xk_all (xHt_ok l) (T := xT_97) (xTc (xok_7 l) (xTc (xok_13 l) (xTc (xok_40 l) (xTc (xok_96 l) (xTn l))))) rfl (f := 100000) (cuts := xu_97) xv_97 (xAll0 (xAllS 0 1 xw_97_0 (xAllZ (by decide +kernel))))⟩
def kc205 : xC := kLr 60 [(54, kB 0 23), (6, kB6)]
def xc_98 : xCt := (([kc175, kc176, kc23, kc177, kc205], [(0, 5), kA3, kA3, kA3, kA3, kA3, kA3, kA3, kA3, (54, 55)], [], [kR 0, kR 3, kI 0], 9), [([kc175, kc176, kc23, kc177, kc205], [(0, 5), kA3, kA3, kA3, kA3, kA3, kA3, kA3, kA3, (54, 55), (0, 1)], [], [kI 10], 9)], 1)
def xu_98 : List xCu := [(2, [0, 1, 2, 3], ([kc175, kc176, kc23, kc177, kc205], [(0, 5), kA3, kA3, kA3, kA3, kA3, kA3, kA3, kA3, (54, 55), (0, 55)], [], [kR 0, kR 3, kI 0, kI 10], 9), ([(10, (-1))], 55))]
def xT_98 : List (Nat × xCt) := []
theorem xv_98 : xVer0 xT_98 xHt 100000 87 xm_X7_agreesByPairs xc_98 xu_98 = true := by
  rw [← zVer0_eq]
  decide +kernel
theorem xw_98_0 : ((xu_98.drop 0).take 1).all (xVerC xT_98 xHt 100000 87 xm_X7_agreesByPairs xc_98 xu_98) = true := by
  rw [← zVerC_eq]
  decide +kernel
theorem xok_98 (l : Launch) : xCk l 87 xc_98 := ⟨xm_X7_agreesByPairs, rfl, xVer_ok xk_all (xHt_ok l) (T := xT_98) (xTn l) rfl (f := 100000) (cuts := xu_98) xv_98 (xAll0 (xAllS 0 1 xw_98_0 (xAllZ (by decide +kernel))))⟩
def xc_99 : xCt := (([kc172, kc60, kc61, kc13, kc20, kc31, kc14, kc21, kc22, kc23, kc15, kc4, kc5, kc63, kc14, kc14, kc16, kc0, kc28, kc23, kc23, kc14, kc23, kc179, kc205], [(0, 5), kA3, kA3, kA3, kA3, kA3, kA3, (0, 6), (0, 30), kA3, (0, 24), kA3, kA3, kA3, (54, 55)], [], [kR 0, kR 23, kI 0], 0), [([kc169, kc60, kc61, kc13, kc20, kc31, kc14, kc21, kc22, kc23, kc15, kc4, kc5, kc170, kc14, kc14, kc16, kc0, kc28, kc23, kc23, kc14, kc23, kc179, kc205], [(0, 5), kA3, kA3, kA3, kA3, kA3, kA3, (0, 6), (0, 30), kA3, (0, 24), kA3, kA3, kA3, (54, 55), kA3, kA3, kA3, kA3, kA3, kA3], [], [], 0)], 4)
def xu_99 : List xCu := [(42, [0, 1, 2, 3], ([kc173, kc60, kc61, kc13, kc20, kc31, kc14, kc21, kc22, kc23, kc15, kc4, kc5, kc174, kc14, kc14, kc16, kc0, kc28, kc23, kc23, kc14, kc23, kc179, kc205], [(0, 5), kA3, kA3, kA3, kA3, kA3, kA3, (0, 6), (0, 30), kA3, (0, 24), kA3, kA3, kA3, (54, 55), (0, 100), kA3, kA3, kA3, kA3, kA3, kA3], [], [kR 0, kR 23, kI 0, kI 15], 0), ([(15, (-1))], 100))]
def xT_99 : List (Nat × xCt) := [(61, xc_7), (64, xc_13), (88, xc_40), (87, xc_98)]
theorem xv_99 : xVer0 xT_99 xHt 100000 86 xm_X7_weigh xc_99 xu_99 = true := by
  rw [← zVer0_eq]
  decide +kernel
theorem xw_99_0 : ((xu_99.drop 0).take 1).all (xVerC xT_99 xHt 100000 86 xm_X7_weigh xc_99 xu_99) = true := by
  rw [← zVerC_eq]
  decide +kernel
theorem xok_99 (l : Launch) : xCk l 86 xc_99 := ⟨xm_X7_weigh, rfl, xVer_ok xk_all (xHt_ok l) (T := xT_99) (xTc (xok_7 l) (xTc (xok_13 l) (xTc (xok_40 l) (xTc (xok_98 l) (xTn l))))) rfl (f := 100000) (cuts := xu_99) xv_99 (xAll0 (xAllS 0 1 xw_99_0 (xAllZ (by decide +kernel))))⟩
def kc206 : xC := kLr 60 [(56, kB 0 23), (4, kB6)]
def xc_100 : xCt := (([kc175, kc176, kc23, kc177, kc206], [(0, 5), kA3, kA3, kA3, kA3, kA3, kA3, kA3, kA3, (56, 57)], [], [kR 0, kR 3, kI 0], 9), [([kc175, kc176, kc23, kc177, kc206], [(0, 5), kA3, kA3, kA3, kA3, kA3, kA3, kA3, kA3, (56, 57), (0, 1)], [], [kI 10], 9)], 1)
def xu_100 : List xCu := [(2, [0, 1, 2, 3], ([kc175, kc176, kc23, kc177, kc206], [(0, 5), kA3, kA3, kA3, kA3, kA3, kA3, kA3, kA3, (56, 57), (0, 57)], [], [kR 0, kR 3, kI 0, kI 10], 9), ([(10, (-1))], 57))]
def xT_100 : List (Nat × xCt) := []
theorem xv_100 : xVer0 xT_100 xHt 100000 87 xm_X7_agreesByPairs xc_100 xu_100 = true := by
  rw [← zVer0_eq]
  decide +kernel
theorem xw_100_0 : ((xu_100.drop 0).take 1).all (xVerC xT_100 xHt 100000 87 xm_X7_agreesByPairs xc_100 xu_100) = true := by
  rw [← zVerC_eq]
  decide +kernel
theorem xok_100 (l : Launch) : xCk l 87 xc_100 := ⟨xm_X7_agreesByPairs, rfl, xVer_ok xk_all (xHt_ok l) (T := xT_100) (xTn l) rfl (f := 100000) (cuts := xu_100) xv_100 (xAll0 (xAllS 0 1 xw_100_0 (xAllZ (by decide +kernel))))⟩
def xc_101 : xCt := (([kc172, kc60, kc61, kc13, kc20, kc31, kc14, kc21, kc22, kc23, kc15, kc4, kc5, kc63, kc14, kc14, kc16, kc0, kc28, kc23, kc23, kc14, kc23, kc179, kc206], [(0, 5), kA3, kA3, kA3, kA3, kA3, kA3, (0, 6), (0, 30), kA3, (0, 24), kA3, kA3, kA3, (56, 57)], [], [kR 0, kR 23, kI 0], 0), [([kc169, kc60, kc61, kc13, kc20, kc31, kc14, kc21, kc22, kc23, kc15, kc4, kc5, kc170, kc14, kc14, kc16, kc0, kc28, kc23, kc23, kc14, kc23, kc179, kc206], [(0, 5), kA3, kA3, kA3, kA3, kA3, kA3, (0, 6), (0, 30), kA3, (0, 24), kA3, kA3, kA3, (56, 57), kA3, kA3, kA3, kA3, kA3, kA3], [], [], 0)], 4)
def xu_101 : List xCu := [(42, [0, 1, 2, 3], ([kc173, kc60, kc61, kc13, kc20, kc31, kc14, kc21, kc22, kc23, kc15, kc4, kc5, kc174, kc14, kc14, kc16, kc0, kc28, kc23, kc23, kc14, kc23, kc179, kc206], [(0, 5), kA3, kA3, kA3, kA3, kA3, kA3, (0, 6), (0, 30), kA3, (0, 24), kA3, kA3, kA3, (56, 57), (0, 100), kA3, kA3, kA3, kA3, kA3, kA3], [], [kR 0, kR 23, kI 0, kI 15], 0), ([(15, (-1))], 100))]
def xT_101 : List (Nat × xCt) := [(61, xc_7), (64, xc_13), (88, xc_40), (87, xc_100)]
theorem xv_101 : xVer0 xT_101 xHt 100000 86 xm_X7_weigh xc_101 xu_101 = true := by
  rw [← zVer0_eq]
  decide +kernel
theorem xw_101_0 : ((xu_101.drop 0).take 1).all (xVerC xT_101 xHt 100000 86 xm_X7_weigh xc_101 xu_101) = true := by
  rw [← zVerC_eq]
  decide +kernel
theorem xok_101 (l : Launch) : xCk l 86 xc_101 := ⟨xm_X7_weigh, rfl, xVer_ok xk_all (xHt_ok l) (T := xT_101) (xTc (xok_7 l) (xTc (xok_13 l) (xTc (xok_40 l) (xTc (xok_100 l) (xTn l))))) rfl (f := 100000) (cuts := xu_101) xv_101 (xAll0 (xAllS 0 1 xw_101_0 (xAllZ (by decide +kernel))))⟩
def kc207 : xC := kLr 60 [(58, kB 0 23), (2, kB6)]
def xc_102 : xCt := (([kc175, kc176, kc23, kc177, kc207], [(0, 5), kA3, kA3, kA3, kA3, kA3, kA3, kA3, kA3, (58, 59)], [], [kR 0, kR 3, kI 0], 9), [([kc175, kc176, kc23, kc177, kc207], [(0, 5), kA3, kA3, kA3, kA3, kA3, kA3, kA3, kA3, (58, 59), (0, 1)], [], [kI 10], 9)], 1)
def xu_102 : List xCu := [(2, [0, 1, 2, 3], ([kc175, kc176, kc23, kc177, kc207], [(0, 5), kA3, kA3, kA3, kA3, kA3, kA3, kA3, kA3, (58, 59), (0, 59)], [], [kR 0, kR 3, kI 0, kI 10], 9), ([(10, (-1))], 59))]
def xT_102 : List (Nat × xCt) := []
theorem xv_102 : xVer0 xT_102 xHt 100000 87 xm_X7_agreesByPairs xc_102 xu_102 = true := by
  rw [← zVer0_eq]
  decide +kernel
theorem xw_102_0 : ((xu_102.drop 0).take 1).all (xVerC xT_102 xHt 100000 87 xm_X7_agreesByPairs xc_102 xu_102) = true := by
  rw [← zVerC_eq]
  decide +kernel
theorem xok_102 (l : Launch) : xCk l 87 xc_102 := ⟨xm_X7_agreesByPairs, rfl, xVer_ok xk_all (xHt_ok l) (T := xT_102) (xTn l) rfl (f := 100000) (cuts := xu_102) xv_102 (xAll0 (xAllS 0 1 xw_102_0 (xAllZ (by decide +kernel))))⟩
def xc_103 : xCt := (([kc172, kc60, kc61, kc13, kc20, kc31, kc14, kc21, kc22, kc23, kc15, kc4, kc5, kc63, kc14, kc14, kc16, kc0, kc28, kc23, kc23, kc14, kc23, kc179, kc207], [(0, 5), kA3, kA3, kA3, kA3, kA3, kA3, (0, 6), (0, 30), kA3, (0, 24), kA3, kA3, kA3, (58, 59)], [], [kR 0, kR 23, kI 0], 0), [([kc169, kc60, kc61, kc13, kc20, kc31, kc14, kc21, kc22, kc23, kc15, kc4, kc5, kc170, kc14, kc14, kc16, kc0, kc28, kc23, kc23, kc14, kc23, kc179, kc207], [(0, 5), kA3, kA3, kA3, kA3, kA3, kA3, (0, 6), (0, 30), kA3, (0, 24), kA3, kA3, kA3, (58, 59), kA3, kA3, kA3, kA3, kA3, kA3], [], [], 0)], 4)
def xu_103 : List xCu := [(42, [0, 1, 2, 3], ([kc173, kc60, kc61, kc13, kc20, kc31, kc14, kc21, kc22, kc23, kc15, kc4, kc5, kc174, kc14, kc14, kc16, kc0, kc28, kc23, kc23, kc14, kc23, kc179, kc207], [(0, 5), kA3, kA3, kA3, kA3, kA3, kA3, (0, 6), (0, 30), kA3, (0, 24), kA3, kA3, kA3, (58, 59), (0, 100), kA3, kA3, kA3, kA3, kA3, kA3], [], [kR 0, kR 23, kI 0, kI 15], 0), ([(15, (-1))], 100))]
def xT_103 : List (Nat × xCt) := [(61, xc_7), (64, xc_13), (88, xc_40), (87, xc_102)]
theorem xv_103 : xVer0 xT_103 xHt 100000 86 xm_X7_weigh xc_103 xu_103 = true := by
  rw [← zVer0_eq]
  decide +kernel
theorem xw_103_0 : ((xu_103.drop 0).take 1).all (xVerC xT_103 xHt 100000 86 xm_X7_weigh xc_103 xu_103) = true := by
  rw [← zVerC_eq]
  decide +kernel
theorem xok_103 (l : Launch) : xCk l 86 xc_103 := ⟨xm_X7_weigh, rfl, xVer_ok xk_all (xHt_ok l) (T := xT_103) (xTc (xok_7 l) (xTc (xok_13 l) (xTc (xok_40 l) (xTc (xok_102 l) (xTn l))))) rfl (f := 100000) (cuts := xu_103) xv_103 (xAll0 (xAllS 0 1 xw_103_0 (xAllZ (by decide +kernel))))⟩
def kc208 : xC := kLr 60 [(60, kB 0 23)]
def xc_104 : xCt := (([kc175, kc176, kc23, kc177, kc208], [(0, 5), kA3, kA3, kA3, kA3, kA3, kA3, kA3, kA3, (60, 60)], [], [kR 0, kR 3, kI 0], 9), [([kc175, kc176, kc23, kc177, kc208], [(0, 5), kA3, kA3, kA3, kA3, kA3, kA3, kA3, kA3, (60, 60), (0, 1)], [], [kI 10], 9)], 1)
def xu_104 : List xCu := [(2, [0, 1, 2, 3], ([kc175, kc176, kc23, kc177, kc208], [(0, 5), kA3, kA3, kA3, kA3, kA3, kA3, kA3, kA3, (60, 60), (0, 60)], [], [kR 0, kR 3, kI 0, kI 10], 9), ([(10, (-1))], 60))]
def xT_104 : List (Nat × xCt) := []
theorem xv_104 : xVer0 xT_104 xHt 100000 87 xm_X7_agreesByPairs xc_104 xu_104 = true := by
  rw [← zVer0_eq]
  decide +kernel
theorem xw_104_0 : ((xu_104.drop 0).take 1).all (xVerC xT_104 xHt 100000 87 xm_X7_agreesByPairs xc_104 xu_104) = true := by
  rw [← zVerC_eq]
  decide +kernel
theorem xok_104 (l : Launch) : xCk l 87 xc_104 := ⟨xm_X7_agreesByPairs, rfl, xVer_ok xk_all (xHt_ok l) (T := xT_104) (xTn l) rfl (f := 100000) (cuts := xu_104) xv_104 (xAll0 (xAllS 0 1 xw_104_0 (xAllZ (by decide +kernel))))⟩
def xc_105 : xCt := (([kc172, kc60, kc61, kc13, kc20, kc31, kc14, kc21, kc22, kc23, kc15, kc4, kc5, kc63, kc14, kc14, kc16, kc0, kc28, kc23, kc23, kc14, kc23, kc179, kc208], [(0, 5), kA3, kA3, kA3, kA3, kA3, kA3, (0, 6), (0, 30), kA3, (0, 24), kA3, kA3, kA3, (60, 60)], [], [kR 0, kR 23, kI 0], 0), [([kc169, kc60, kc61, kc13, kc20, kc31, kc14, kc21, kc22, kc23, kc15, kc4, kc5, kc170, kc14, kc14, kc16, kc0, kc28, kc23, kc23, kc14, kc23, kc179, kc208], [(0, 5), kA3, kA3, kA3, kA3, kA3, kA3, (0, 6), (0, 30), kA3, (0, 24), kA3, kA3, kA3, (60, 60), kA3, kA3, kA3, kA3, kA3, kA3], [], [], 0)], 4)
def xu_105 : List xCu := [(42, [0, 1, 2, 3], ([kc173, kc60, kc61, kc13, kc20, kc31, kc14, kc21, kc22, kc23, kc15, kc4, kc5, kc174, kc14, kc14, kc16, kc0, kc28, kc23, kc23, kc14, kc23, kc179, kc208], [(0, 5), kA3, kA3, kA3, kA3, kA3, kA3, (0, 6), (0, 30), kA3, (0, 24), kA3, kA3, kA3, (60, 60), (0, 100), kA3, kA3, kA3, kA3, kA3, kA3], [], [kR 0, kR 23, kI 0, kI 15], 0), ([(15, (-1))], 100))]
def xT_105 : List (Nat × xCt) := [(61, xc_7), (64, xc_13), (88, xc_40), (87, xc_104)]
theorem xv_105 : xVer0 xT_105 xHt 100000 86 xm_X7_weigh xc_105 xu_105 = true := by
  rw [← zVer0_eq]
  decide +kernel
theorem xw_105_0 : ((xu_105.drop 0).take 1).all (xVerC xT_105 xHt 100000 86 xm_X7_weigh xc_105 xu_105) = true := by
  rw [← zVerC_eq]
  decide +kernel
theorem xok_105 (l : Launch) : xCk l 86 xc_105 := ⟨xm_X7_weigh, rfl, xVer_ok xk_all (xHt_ok l) (T := xT_105) (xTc (xok_7 l) (xTc (xok_13 l) (xTc (xok_40 l) (xTc (xok_104 l) (xTn l))))) rfl (f := 100000) (cuts := xu_105) xv_105 (xAll0 (xAllS 0 1 xw_105_0 (xAllZ (by decide +kernel))))⟩
def kc209 : xC := kO 7 [kX 20, kX 21, kI 0, kI 1, kI 2, kI 3, kI 4, kX 22]
def kc210 : xC := kO 4 [kI 5, kI 6, kX 23]
def xc_106 : xCt := (([kc209, kc210], [kA3, kA3, kA3, kA3, kA3, kA3, (0, 2)], [], [kR 0, kR 1], 4), [([kc209, kc210], [kA3, kA3, kA3, kA3, kA3, kA3, (0, 2)], [], [kIc 1], 4)], 0)
def xu_106 : List xCu := []
def xT_106 : List (Nat × xCt) := []
theorem xv_106 : xVer0 xT_106 xHt 100000 91 xm_X7_agreesByTriples xc_106 xu_106 = true := by
  rw [← zVer0_eq]
  decide +kernel
theorem xok_106 (l : Launch) : xCk l 91 xc_106 := ⟨xm_X7_agreesByTriples, rfl, xVer_ok xk_all (xHt_ok l) (T := xT_106) (xTn l) rfl (f := 100000) (cuts := xu_106) xv_106 (fun Cu h => absurd h List.not_mem_nil)⟩
def kc211 : xC := kO 7 [kR 1, kR 13, kI 0, kI 1, kI 2, kI 3, kI 4, kX 20]
def kc212 : xC := kO 4 [kI 12, kI 13, kX 21]
def xc_107 : xCt := (([kc211, kc53, kc48, kc13, kc20, kc31, kc14, kc21, kc22, kc23, kc15, kc4, kc5, kc56, kc14, kc14, kc16, kc0, kc28, kc23, kc23, kc14, kc212], [kA3, kA3, kA3, kA3, kA3, kA3, (0, 6), (0, 30), kA3, (0, 24), kA3, kA3, kA3, (0, 2)], [], [kR 0, kR 22], 2), [([kc211, kc53, kc48, kc13, kc20, kc31, kc14, kc21, kc22, kc23, kc15, kc4, kc5, kc64, kc14, kc14, kc16, kc0, kc28, kc23, kc23, kc14, kc212], [kA3, kA3, kA3, kA3, kA3, kA3, (0, 6), (0, 30), kA3, (0, 24), kA3, kA3, kA3, (0, 2), kA3, kA3], [], [kI 14], 2)], 4)
def xu_107 : List xCu := [(11, [0, 1, 2, 3], ([kc211, kc53, kc48, kc13, kc20, kc31, kc14, kc21, kc22, kc23, kc15, kc4, kc5, kc58, kc14, kc14, kc16, kc0, kc28, kc23, kc23, kc14, kc212], [kA3, kA3, kA3, kA3, kA3, kA3, (0, 6), (0, 30), kA3, (0, 24), kA3, kA3, kA3, (0, 2), kA3, (0, 4), kA3], [], [kR 0, kR 22, kI 14, kI 15], 2), ([(15, (-1))], 4))]
def xT_107 : List (Nat × xCt) := [(61, xc_7), (64, xc_13), (91, xc_106)]
theorem xv_107 : xVer0 xT_107 xHt 100000 90 xm_X7_lawsOf xc_107 xu_107 = true := by
  rw [← zVer0_eq]
  decide +kernel
theorem xw_107_0 : ((xu_107.drop 0).take 1).all (xVerC xT_107 xHt 100000 90 xm_X7_lawsOf xc_107 xu_107) = true := by
  rw [← zVerC_eq]
  decide +kernel
theorem xok_107 (l : Launch) : xCk l 90 xc_107 := ⟨xm_X7_lawsOf, rfl, xVer_ok xk_all (xHt_ok l) (T := xT_107) (xTc (xok_7 l) (xTc (xok_13 l) (xTc (xok_106 l) (xTn l)))) rfl (f := 100000) (cuts := xu_107) xv_107 (xAll0 (xAllS 0 1 xw_107_0 (xAllZ (by decide +kernel))))⟩
def kc213 : xC := kO 7 [kX 20, kR 1, kI 0, kI 1, kI 2, kI 3, kI 4, kX 21]
def kc214 : xC := kO 6 [kX 20, kX 22, kX 23, kX 24, kX 25, kI 5, kI 6, kR 2, kX 26, kX 27, kX 28]
def kc215 : xC := kO 4 [kI 7, kI 8, kR 4]
def xc_108 : xCt := (([kc213, kc214, kc28, kc215, kc153], [kA3, kA3, kA3, kA3, kA3, kA3, kA3, kA3, (3, 5)], [], [kR 0, kR 3], 9), [([kc213, kc214, kc28, kc215, kc153], [kA3, kA3, kA3, kA3, kA3, kA3, kA3, kA3, (3, 5), (0, 1)], [], [kI 9], 9)], 1)
def xu_108 : List xCu := []
def xT_108 : List (Nat × xCt) := []
theorem xv_108 : xVer0 xT_108 xHt 100000 91 xm_X7_agreesByTriples xc_108 xu_108 = true := by
  rw [← zVer0_eq]
  decide +kernel
theorem xok_108 (l : Launch) : xCk l 91 xc_108 := ⟨xm_X7_agreesByTriples, rfl, xVer_ok xk_all (xHt_ok l) (T := xT_108) (xTn l) rfl (f := 100000) (cuts := xu_108) xv_108 (fun Cu h => absurd h List.not_mem_nil)⟩
def kc216 : xC := kO 4 [kI 12, kI 13, kR 23]
def xc_109 : xCt := (([kc211, kc53, kc48, kc13, kc20, kc31, kc14, kc21, kc22, kc23, kc15, kc4, kc5, kc56, kc14, kc14, kc16, kc0, kc28, kc23, kc23, kc14, kc216, kc153], [kA3, kA3, kA3, kA3, kA3, kA3, (0, 6), (0, 30), kA3, (0, 24), kA3, kA3, kA3, (3, 5)], [], [kR 0, kR 22], 1), [([kc211, kc53, kc48, kc13, kc20, kc31, kc14, kc21, kc22, kc23, kc15, kc4, kc5, kc64, kc14, kc14, kc16, kc0, kc28, kc23, kc23, kc14, kc216, kc153], [kA3, kA3, kA3, kA3, kA3, kA3, (0, 6), (0, 30), kA3, (0, 24), kA3, kA3, kA3, (3, 5), kA3, kA3], [], [kI 14], 1)], 4)
def xu_109 : List xCu := [(11, [0, 1, 2, 3], ([kc211, kc53, kc48, kc13, kc20, kc31, kc14, kc21, kc22, kc23, kc15, kc4, kc5, kc58, kc14, kc14, kc16, kc0, kc28, kc23, kc23, kc14, kc216, kc153], [kA3, kA3, kA3, kA3, kA3, kA3, (0, 6), (0, 30), kA3, (0, 24), kA3, kA3, kA3, (3, 5), kA3, (0, 4), kA3], [], [kR 0, kR 22, kI 14, kI 15], 1), ([(15, (-1))], 4))]
def xT_109 : List (Nat × xCt) := [(61, xc_7), (64, xc_13), (91, xc_108)]
theorem xv_109 : xVer0 xT_109 xHt 100000 90 xm_X7_lawsOf xc_109 xu_109 = true := by
  rw [← zVer0_eq]
  decide +kernel
theorem xw_109_0 : ((xu_109.drop 0).take 1).all (xVerC xT_109 xHt 100000 90 xm_X7_lawsOf xc_109 xu_109) = true := by
  rw [← zVerC_eq]
  decide +kernel
theorem xok_109 (l : Launch) : xCk l 90 xc_109 := ⟨xm_X7_lawsOf, rfl, xVer_ok xk_all (xHt_ok l) (T := xT_109) (xTc (xok_7 l) (xTc (xok_13 l) (xTc (xok_108 l) (xTn l)))) rfl (f := 100000) (cuts := xu_109) xv_109 (xAll0 (xAllS 0 1 xw_109_0 (xAllZ (by decide +kernel))))⟩
def xc_110 : xCt := (([kc213, kc214, kc28, kc215, kc164], [kA3, kA3, kA3, kA3, kA3, kA3, kA3, kA3, (6, 8)], [], [kR 0, kR 3], 9), [([kc213, kc214, kc28, kc215, kc164], [kA3, kA3, kA3, kA3, kA3, kA3, kA3, kA3, (6, 8), (0, 1)], [], [kI 9], 9)], 1)
def xu_110 : List xCu := []
def xT_110 : List (Nat × xCt) := []
theorem xv_110 : xVer0 xT_110 xHt 100000 91 xm_X7_agreesByTriples xc_110 xu_110 = true := by
  rw [← zVer0_eq]
  decide +kernel
theorem xok_110 (l : Launch) : xCk l 91 xc_110 := ⟨xm_X7_agreesByTriples, rfl, xVer_ok xk_all (xHt_ok l) (T := xT_110) (xTn l) rfl (f := 100000) (cuts := xu_110) xv_110 (fun Cu h => absurd h List.not_mem_nil)⟩
def xc_111 : xCt := (([kc211, kc53, kc48, kc13, kc20, kc31, kc14, kc21, kc22, kc23, kc15, kc4, kc5, kc56, kc14, kc14, kc16, kc0, kc28, kc23, kc23, kc14, kc216, kc164], [kA3, kA3, kA3, kA3, kA3, kA3, (0, 6), (0, 30), kA3, (0, 24), kA3, kA3, kA3, (6, 8)], [], [kR 0, kR 22], 1), [([kc211, kc53, kc48, kc13, kc20, kc31, kc14, kc21, kc22, kc23, kc15, kc4, kc5, kc64, kc14, kc14, kc16, kc0, kc28, kc23, kc23, kc14, kc216, kc164], [kA3, kA3, kA3, kA3, kA3, kA3, (0, 6), (0, 30), kA3, (0, 24), kA3, kA3, kA3, (6, 8), kA3, kA3], [], [kI 14], 1)], 4)
def xu_111 : List xCu := [(11, [0, 1, 2, 3], ([kc211, kc53, kc48, kc13, kc20, kc31, kc14, kc21, kc22, kc23, kc15, kc4, kc5, kc58, kc14, kc14, kc16, kc0, kc28, kc23, kc23, kc14, kc216, kc164], [kA3, kA3, kA3, kA3, kA3, kA3, (0, 6), (0, 30), kA3, (0, 24), kA3, kA3, kA3, (6, 8), kA3, (0, 4), kA3], [], [kR 0, kR 22, kI 14, kI 15], 1), ([(15, (-1))], 4))]
def xT_111 : List (Nat × xCt) := [(61, xc_7), (64, xc_13), (91, xc_110)]
theorem xv_111 : xVer0 xT_111 xHt 100000 90 xm_X7_lawsOf xc_111 xu_111 = true := by
  rw [← zVer0_eq]
  decide +kernel
theorem xw_111_0 : ((xu_111.drop 0).take 1).all (xVerC xT_111 xHt 100000 90 xm_X7_lawsOf xc_111 xu_111) = true := by
  rw [← zVerC_eq]
  decide +kernel
theorem xok_111 (l : Launch) : xCk l 90 xc_111 := ⟨xm_X7_lawsOf, rfl, xVer_ok xk_all (xHt_ok l) (T := xT_111) (xTc (xok_7 l) (xTc (xok_13 l) (xTc (xok_110 l) (xTn l)))) rfl (f := 100000) (cuts := xu_111) xv_111 (xAll0 (xAllS 0 1 xw_111_0 (xAllZ (by decide +kernel))))⟩
def xc_112 : xCt := (([kc213, kc214, kc28, kc215, kc166], [kA3, kA3, kA3, kA3, kA3, kA3, kA3, kA3, (9, 11)], [], [kR 0, kR 3], 9), [([kc213, kc214, kc28, kc215, kc166], [kA3, kA3, kA3, kA3, kA3, kA3, kA3, kA3, (9, 11), (0, 1)], [], [kI 9], 9)], 1)
def xu_112 : List xCu := []
def xT_112 : List (Nat × xCt) := []
theorem xv_112 : xVer0 xT_112 xHt 100000 91 xm_X7_agreesByTriples xc_112 xu_112 = true := by
  rw [← zVer0_eq]
  decide +kernel
theorem xok_112 (l : Launch) : xCk l 91 xc_112 := ⟨xm_X7_agreesByTriples, rfl, xVer_ok xk_all (xHt_ok l) (T := xT_112) (xTn l) rfl (f := 100000) (cuts := xu_112) xv_112 (fun Cu h => absurd h List.not_mem_nil)⟩
def xc_113 : xCt := (([kc211, kc53, kc48, kc13, kc20, kc31, kc14, kc21, kc22, kc23, kc15, kc4, kc5, kc56, kc14, kc14, kc16, kc0, kc28, kc23, kc23, kc14, kc216, kc166], [kA3, kA3, kA3, kA3, kA3, kA3, (0, 6), (0, 30), kA3, (0, 24), kA3, kA3, kA3, (9, 11)], [], [kR 0, kR 22], 1), [([kc211, kc53, kc48, kc13, kc20, kc31, kc14, kc21, kc22, kc23, kc15, kc4, kc5, kc64, kc14, kc14, kc16, kc0, kc28, kc23, kc23, kc14, kc216, kc166], [kA3, kA3, kA3, kA3, kA3, kA3, (0, 6), (0, 30), kA3, (0, 24), kA3, kA3, kA3, (9, 11), kA3, kA3], [], [kI 14], 1)], 4)
def xu_113 : List xCu := [(11, [0, 1, 2, 3], ([kc211, kc53, kc48, kc13, kc20, kc31, kc14, kc21, kc22, kc23, kc15, kc4, kc5, kc58, kc14, kc14, kc16, kc0, kc28, kc23, kc23, kc14, kc216, kc166], [kA3, kA3, kA3, kA3, kA3, kA3, (0, 6), (0, 30), kA3, (0, 24), kA3, kA3, kA3, (9, 11), kA3, (0, 4), kA3], [], [kR 0, kR 22, kI 14, kI 15], 1), ([(15, (-1))], 4))]
def xT_113 : List (Nat × xCt) := [(61, xc_7), (64, xc_13), (91, xc_112)]
theorem xv_113 : xVer0 xT_113 xHt 100000 90 xm_X7_lawsOf xc_113 xu_113 = true := by
  rw [← zVer0_eq]
  decide +kernel
theorem xw_113_0 : ((xu_113.drop 0).take 1).all (xVerC xT_113 xHt 100000 90 xm_X7_lawsOf xc_113 xu_113) = true := by
  rw [← zVerC_eq]
  decide +kernel
theorem xok_113 (l : Launch) : xCk l 90 xc_113 := ⟨xm_X7_lawsOf, rfl, xVer_ok xk_all (xHt_ok l) (T := xT_113) (xTc (xok_7 l) (xTc (xok_13 l) (xTc (xok_112 l) (xTn l)))) rfl (f := 100000) (cuts := xu_113) xv_113 (xAll0 (xAllS 0 1 xw_113_0 (xAllZ (by decide +kernel))))⟩
def xc_114 : xCt := (([kc213, kc214, kc28, kc215, kc147], [kA3, kA3, kA3, kA3, kA3, kA3, kA3, kA3, (12, 14)], [], [kR 0, kR 3], 9), [([kc213, kc214, kc28, kc215, kc147], [kA3, kA3, kA3, kA3, kA3, kA3, kA3, kA3, (12, 14), (0, 1)], [], [kI 9], 9)], 1)
def xu_114 : List xCu := []
def xT_114 : List (Nat × xCt) := []
theorem xv_114 : xVer0 xT_114 xHt 100000 91 xm_X7_agreesByTriples xc_114 xu_114 = true := by
  rw [← zVer0_eq]
  decide +kernel
theorem xok_114 (l : Launch) : xCk l 91 xc_114 := ⟨xm_X7_agreesByTriples, rfl, xVer_ok xk_all (xHt_ok l) (T := xT_114) (xTn l) rfl (f := 100000) (cuts := xu_114) xv_114 (fun Cu h => absurd h List.not_mem_nil)⟩
def xc_115 : xCt := (([kc211, kc53, kc48, kc13, kc20, kc31, kc14, kc21, kc22, kc23, kc15, kc4, kc5, kc56, kc14, kc14, kc16, kc0, kc28, kc23, kc23, kc14, kc216, kc147], [kA3, kA3, kA3, kA3, kA3, kA3, (0, 6), (0, 30), kA3, (0, 24), kA3, kA3, kA3, (12, 14)], [], [kR 0, kR 22], 1), [([kc211, kc53, kc48, kc13, kc20, kc31, kc14, kc21, kc22, kc23, kc15, kc4, kc5, kc64, kc14, kc14, kc16, kc0, kc28, kc23, kc23, kc14, kc216, kc147], [kA3, kA3, kA3, kA3, kA3, kA3, (0, 6), (0, 30), kA3, (0, 24), kA3, kA3, kA3, (12, 14), kA3, kA3], [], [kI 14], 1)], 4)
def xu_115 : List xCu := [(11, [0, 1, 2, 3], ([kc211, kc53, kc48, kc13, kc20, kc31, kc14, kc21, kc22, kc23, kc15, kc4, kc5, kc58, kc14, kc14, kc16, kc0, kc28, kc23, kc23, kc14, kc216, kc147], [kA3, kA3, kA3, kA3, kA3, kA3, (0, 6), (0, 30), kA3, (0, 24), kA3, kA3, kA3, (12, 14), kA3, (0, 4), kA3], [], [kR 0, kR 22, kI 14, kI 15], 1), ([(15, (-1))], 4))]
def xT_115 : List (Nat × xCt) := [(61, xc_7), (64, xc_13), (91, xc_114)]
theorem xv_115 : xVer0 xT_115 xHt 100000 90 xm_X7_lawsOf xc_115 xu_115 = true := by
  rw [← zVer0_eq]
  decide +kernel
theorem xw_115_0 : ((xu_115.drop 0).take 1).all (xVerC xT_115 xHt 100000 90 xm_X7_lawsOf xc_115 xu_115) = true := by
  rw [← zVerC_eq]
  decide +kernel
theorem xok_115 (l : Launch) : xCk l 90 xc_115 := ⟨xm_X7_lawsOf, rfl, xVer_ok xk_all (xHt_ok l) (T := xT_115) (xTc (xok_7 l) (xTc (xok_13 l) (xTc (xok_114 l) (xTn l)))) rfl (f := 100000) (cuts := xu_115) xv_115 (xAll0 (xAllS 0 1 xw_115_0 (xAllZ (by decide +kernel))))⟩
