/-! Contracts, printed by a program: part 3. -/
def kc189 : xC := kLr 60 [(22, kB 0 23), (38, kB6)]
def xc_66 : xCt := (([kc175, kc176, kc23, kc177, kc189], [(0, 5), kA3, kA3, kA3, kA3, kA3, kA3, kA3, kA3, (22, 23)], [], [kR 0, kR 3, kI 0], 9), [([kc175, kc176, kc23, kc177, kc189], [(0, 5), kA3, kA3, kA3, kA3, kA3, kA3, kA3, kA3, (22, 23), (0, 1)], [], [kI 10], 9)], 1)
def xu_66 : List xCu := [(2, [0, 1, 2, 3], ([kc175, kc176, kc23, kc177, kc189], [(0, 5), kA3, kA3, kA3, kA3, kA3, kA3, kA3, kA3, (22, 23), (0, 23)], [], [kR 0, kR 3, kI 0, kI 10], 9), ([(10, (-1))], 23))]
def xT_66 : List (Nat × xCt) := []
theorem xv_66 : xVer0 xT_66 xHt 100000 87 xm_X7_agreesByPairs xc_66 xu_66 = true := by
  rw [← zVer0_eq]
  decide +kernel
theorem xw_66_0 : ((xu_66.drop 0).take 1).all (xVerC xT_66 xHt 100000 87 xm_X7_agreesByPairs xc_66 xu_66) = true := by
  rw [← zVerC_eq]
  decide +kernel
theorem xok_66 (l : Launch) : xCk l 87 xc_66 := ⟨xm_X7_agreesByPairs, rfl, xVer_ok xk_all (xHt_ok l) (T := xT_66) (xTn l) rfl (f := 100000) (cuts := xu_66) xv_66 (xAll0 (xAllS 0 1 xw_66_0 (xAllZ (by decide +kernel))))⟩
def xc_67 : xCt := (([kc172, kc60, kc61, kc13, kc20, kc31, kc14, kc21, kc22, kc23, kc15, kc4, kc5, kc63, kc14, kc14, kc16, kc0, kc28, kc23, kc23, kc14, kc23, kc179, kc189], [(0, 5), kA3, kA3, kA3, kA3, kA3, kA3, (0, 6), (0, 30), kA3, (0, 24), kA3, kA3, kA3, (22, 23)], [], [kR 0, kR 23, kI 0], 0), [([kc169, kc60, kc61, kc13, kc20, kc31, kc14, kc21, kc22, kc23, kc15, kc4, kc5, kc170, kc14, kc14, kc16, kc0, kc28, kc23, kc23, kc14, kc23, kc179, kc189], [(0, 5), kA3, kA3, kA3, kA3, kA3, kA3, (0, 6), (0, 30), kA3, (0, 24), kA3, kA3, kA3, (22, 23), kA3, kA3, kA3, kA3, kA3, kA3], [], [], 0)], 4)
def xu_67 : List xCu := [(42, [0, 1, 2, 3], ([kc173, kc60, kc61, kc13, kc20, kc31, kc14, kc21, kc22, kc23, kc15, kc4, kc5, kc174, kc14, kc14, kc16, kc0, kc28, kc23, kc23, kc14, kc23, kc179, kc189], [(0, 5), kA3, kA3, kA3, kA3, kA3, kA3, (0, 6), (0, 30), kA3, (0, 24), kA3, kA3, kA3, (22, 23), (0, 100), kA3, kA3, kA3, kA3, kA3, kA3], [], [kR 0, kR 23, kI 0, kI 15], 0), ([(15, (-1))], 100))]
def xT_67 : List (Nat × xCt) := [(61, xc_7), (64, xc_13), (88, xc_40), (87, xc_66)]
theorem xv_67 : xVer0 xT_67 xHt 100000 86 xm_X7_weigh xc_67 xu_67 = true := by
  rw [← zVer0_eq]
  decide +kernel
theorem xw_67_0 : ((xu_67.drop 0).take 1).all (xVerC xT_67 xHt 100000 86 xm_X7_weigh xc_67 xu_67) = true := by
  rw [← zVerC_eq]
  decide +kernel
theorem xok_67 (l : Launch) : xCk l 86 xc_67 := ⟨xm_X7_weigh, rfl, xVer_ok xk_all (xHt_ok l) (T := xT_67) (xTc (xok_7 l) (xTc (xok_13 l) (xTc (xok_40 l) (xTc (xok_66 l) (xTn l))))) rfl (f := 100000) (cuts := xu_67) xv_67 (xAll0 (xAllS 0 1 xw_67_0 (xAllZ (by decide +kernel))))⟩
def kc190 : xC := kLr 60 [(24, kB 0 23), (36, kB6)]
def xc_68 : xCt := (([kc175, kc176, kc23, kc177, kc190], [(0, 5), kA3, kA3, kA3, kA3, kA3, kA3, kA3, kA3, (24, 25)], [], [kR 0, kR 3, kI 0], 9), [([kc175, kc176, kc23, kc177, kc190], [(0, 5), kA3, kA3, kA3, kA3, kA3, kA3, kA3, kA3, (24, 25), (0, 1)], [], [kI 10], 9)], 1)
def xu_68 : List xCu := [(2, [0, 1, 2, 3], ([kc175, kc176, kc23, kc177, kc190], [(0, 5), kA3, kA3, kA3, kA3, kA3, kA3, kA3, kA3, (24, 25), (0, 25)], [], [kR 0, kR 3, kI 0, kI 10], 9), ([(10, (-1))], 25))]
def xT_68 : List (Nat × xCt) := []
theorem xv_68 : xVer0 xT_68 xHt 100000 87 xm_X7_agreesByPairs xc_68 xu_68 = true := by
  rw [← zVer0_eq]
  decide +kernel
theorem xw_68_0 : ((xu_68.drop 0).take 1).all (xVerC xT_68 xHt 100000 87 xm_X7_agreesByPairs xc_68 xu_68) = true := by
  rw [← zVerC_eq]
  decide +kernel
theorem xok_68 (l : Launch) : xCk l 87 xc_68 := ⟨xm_X7_agreesByPairs, rfl, xVer_ok xk_all (xHt_ok l) (T := xT_68) (xTn l) rfl (f := 100000) (cuts := xu_68) xv_68 (xAll0 (xAllS 0 1 xw_68_0 (xAllZ (by decide +kernel))))⟩
def xc_69 : xCt := (([kc172, kc60, kc61, kc13, kc20, kc31, kc14, kc21, kc22, kc23, kc15, kc4, kc5, kc63, kc14, kc14, kc16, kc0, kc28, kc23, kc23, kc14, kc23, kc179, kc190], [(0, 5), kA3, kA3, kA3, kA3, kA3, kA3, (0, 6), (0, 30), kA3, (0, 24), kA3, kA3, kA3, (24, 25)], [], [kR 0, kR 23, kI 0], 0), [([kc169, kc60, kc61, kc13, kc20, kc31, kc14, kc21, kc22, kc23, kc15, kc4, kc5, kc170, kc14, kc14, kc16, kc0, kc28, kc23, kc23, kc14, kc23, kc179, kc190], [(0, 5), kA3, kA3, kA3, kA3, kA3, kA3, (0, 6), (0, 30), kA3, (0, 24), kA3, kA3, kA3, (24, 25), kA3, kA3, kA3, kA3, kA3, kA3], [], [], 0)], 4)
def xu_69 : List xCu := [(42, [0, 1, 2, 3], ([kc173, kc60, kc61, kc13, kc20, kc31, kc14, kc21, kc22, kc23, kc15, kc4, kc5, kc174, kc14, kc14, kc16, kc0, kc28, kc23, kc23, kc14, kc23, kc179, kc190], [(0, 5), kA3, kA3, kA3, kA3, kA3, kA3, (0, 6), (0, 30), kA3, (0, 24), kA3, kA3, kA3, (24, 25), (0, 100), kA3, kA3, kA3, kA3, kA3, kA3], [], [kR 0, kR 23, kI 0, kI 15], 0), ([(15, (-1))], 100))]
def xT_69 : List (Nat × xCt) := [(61, xc_7), (64, xc_13), (88, xc_40), (87, xc_68)]
theorem xv_69 : xVer0 xT_69 xHt 100000 86 xm_X7_weigh xc_69 xu_69 = true := by
  rw [← zVer0_eq]
  decide +kernel
theorem xw_69_0 : ((xu_69.drop 0).take 1).all (xVerC xT_69 xHt 100000 86 xm_X7_weigh xc_69 xu_69) = true := by
  rw [← zVerC_eq]
  decide +kernel
theorem xok_69 (l : Launch) : xCk l 86 xc_69 := ⟨xm_X7_weigh, rfl, xVer_ok xk_all (xHt_ok l) (T := xT_69) (xTc (xok_7 l) (xTc (xok_13 l) (xTc (xok_40 l) (xTc (xok_68 l) (xTn l))))) rfl (f := 100000) (cuts := xu_69) xv_69 (xAll0 (xAllS 0 1 xw_69_0 (xAllZ (by decide +kernel))))⟩
def kc191 : xC := kLr 60 [(26, kB 0 23), (34, kB6)]
def xc_70 : xCt := (([kc175, kc176, kc23, kc177, kc191], [(0, 5), kA3, kA3, kA3, kA3, kA3, kA3, kA3, kA3, (26, 27)], [], [kR 0, kR 3, kI 0], 9), [([kc175, kc176, kc23, kc177, kc191], [(0, 5), kA3, kA3, kA3, kA3, kA3, kA3, kA3, kA3, (26, 27), (0, 1)], [], [kI 10], 9)], 1)
def xu_70 : List xCu := [(2, [0, 1, 2, 3], ([kc175, kc176, kc23, kc177, kc191], [(0, 5), kA3, kA3, kA3, kA3, kA3, kA3, kA3, kA3, (26, 27), (0, 27)], [], [kR 0, kR 3, kI 0, kI 10], 9), ([(10, (-1))], 27))]
def xT_70 : List (Nat × xCt) := []
theorem xv_70 : xVer0 xT_70 xHt 100000 87 xm_X7_agreesByPairs xc_70 xu_70 = true := by
  rw [← zVer0_eq]
  decide +kernel
theorem xw_70_0 : ((xu_70.drop 0).take 1).all (xVerC xT_70 xHt 100000 87 xm_X7_agreesByPairs xc_70 xu_70) = true := by
  rw [← zVerC_eq]
  decide +kernel
theorem xok_70 (l : Launch) : xCk l 87 xc_70 := ⟨xm_X7_agreesByPairs, rfl, xVer_ok xk_all (xHt_ok l) (T := xT_70) (xTn l) rfl (f := 100000) (cuts := xu_70) xv_70 (xAll0 (xAllS 0 1 xw_70_0 (xAllZ (by decide +kernel))))⟩
def xc_71 : xCt := (([kc172, kc60, kc61, kc13, kc20, kc31, kc14, kc21, kc22, kc23, kc15, kc4, kc5, kc63, kc14, kc14, kc16, kc0, kc28, kc23, kc23, kc14, kc23, kc179, kc191], [(0, 5), kA3, kA3, kA3, kA3, kA3, kA3, (0, 6), (0, 30), kA3, (0, 24), kA3, kA3, kA3, (26, 27)], [], [kR 0, kR 23, kI 0], 0), [([kc169, kc60, kc61, kc13, kc20, kc31, kc14, kc21, kc22, kc23, kc15, kc4, kc5, kc170, kc14, kc14, kc16, kc0, kc28, kc23, kc23, kc14, kc23, kc179, kc191], [(0, 5), kA3, kA3, kA3, kA3, kA3, kA3, (0, 6), (0, 30), kA3, (0, 24), kA3, kA3, kA3, (26, 27), kA3, kA3, kA3, kA3, kA3, kA3], [], [], 0)], 4)
def xu_71 : List xCu := [(42, [0, 1, 2, 3], ([kc173, kc60, kc61, kc13, kc20, kc31, kc14, kc21, kc22, kc23, kc15, kc4, kc5, kc174, kc14, kc14, kc16, kc0, kc28, kc23, kc23, kc14, kc23, kc179, kc191], [(0, 5), kA3, kA3, kA3, kA3, kA3, kA3, (0, 6), (0, 30), kA3, (0, 24), kA3, kA3, kA3, (26, 27), (0, 100), kA3, kA3, kA3, kA3, kA3, kA3], [], [kR 0, kR 23, kI 0, kI 15], 0), ([(15, (-1))], 100))]
def xT_71 : List (Nat × xCt) := [(61, xc_7), (64, xc_13), (88, xc_40), (87, xc_70)]
theorem xv_71 : xVer0 xT_71 xHt 100000 86 xm_X7_weigh xc_71 xu_71 = true := by
  rw [← zVer0_eq]
  decide +kernel
theorem xw_71_0 : ((xu_71.drop 0).take 1).all (xVerC xT_71 xHt 100000 86 xm_X7_weigh xc_71 xu_71) = true := by
  rw [← zVerC_eq]
  decide +kernel
theorem xok_71 (l : Launch) : xCk l 86 xc_71 := ⟨xm_X7_weigh, rfl, xVer_ok xk_all (xHt_ok l) (T := xT_71) (xTc (xok_7 l) (xTc (xok_13 l) (xTc (xok_40 l) (xTc (xok_70 l) (xTn l))))) rfl (f := 100000) (cuts := xu_71) xv_71 (xAll0 (xAllS 0 1 xw_71_0 (xAllZ (by decide +kernel))))⟩
def kc192 : xC := kLr 60 [(28, kB 0 23), (32, kB6)]
def xc_72 : xCt := (([kc175, kc176, kc23, kc177, kc192], [(0, 5), kA3, kA3, kA3, kA3, kA3, kA3, kA3, kA3, (28, 29)], [], [kR 0, kR 3, kI 0], 9), [([kc175, kc176, kc23, kc177, kc192], [(0, 5), kA3, kA3, kA3, kA3, kA3, kA3, kA3, kA3, (28, 29), (0, 1)], [], [kI 10], 9)], 1)
def xu_72 : List xCu := [(2, [0, 1, 2, 3], ([kc175, kc176, kc23, kc177, kc192], [(0, 5), kA3, kA3, kA3, kA3, kA3, kA3, kA3, kA3, (28, 29), (0, 29)], [], [kR 0, kR 3, kI 0, kI 10], 9), ([(10, (-1))], 29))]
def xT_72 : List (Nat × xCt) := []
theorem xv_72 : xVer0 xT_72 xHt 100000 87 xm_X7_agreesByPairs xc_72 xu_72 = true := by
  rw [← zVer0_eq]
  decide +kernel
theorem xw_72_0 : ((xu_72.drop 0).take 1).all (xVerC xT_72 xHt 100000 87 xm_X7_agreesByPairs xc_72 xu_72) = true := by
  rw [← zVerC_eq]
  decide +kernel
theorem xok_72 (l : Launch) : xCk l 87 xc_72 := ⟨xm_X7_agreesByPairs, rfl, xVer_ok xk_all (xHt_ok l) (T := xT_72) (xTn l) rfl (f := 100000) (cuts := xu_72) xv_72 (xAll0 (xAllS 0 1 xw_72_0 (xAllZ (by decide +kernel))))⟩
def xc_73 : xCt := (([kc172, kc60, kc61, kc13, kc20, kc31, kc14, kc21, kc22, kc23, kc15, kc4, kc5, kc63, kc14, kc14, kc16, kc0, kc28, kc23, kc23, kc14, kc23, kc179, kc192], [(0, 5), kA3, kA3, kA3, kA3, kA3, kA3, (0, 6), (0, 30), kA3, (0, 24), kA3, kA3, kA3, (28, 29)], [], [kR 0, kR 23, kI 0], 0), [([kc169, kc60, kc61, kc13, kc20, kc31, kc14, kc21, kc22, kc23, kc15, kc4, kc5, kc170, kc14, kc14, kc16, kc0, kc28, kc23, kc23, kc14, kc23, kc179, kc192], [(0, 5), kA3, kA3, kA3, kA3, kA3, kA3, (0, 6), (0, 30), kA3, (0, 24), kA3, kA3, kA3, (28, 29), kA3, kA3, kA3, kA3, kA3, kA3], [], [], 0)], 4)
def xu_73 : List xCu := [(42, [0, 1, 2, 3], ([kc173, kc60, kc61, kc13, kc20, kc31, kc14, kc21, kc22, kc23, kc15, kc4, kc5, kc174, kc14, kc14, kc16, kc0, kc28, kc23, kc23, kc14, kc23, kc179, kc192], [(0, 5), kA3, kA3, kA3, kA3, kA3, kA3, (0, 6), (0, 30), kA3, (0, 24), kA3, kA3, kA3, (28, 29), (0, 100), kA3, kA3, kA3, kA3, kA3, kA3], [], [kR 0, kR 23, kI 0, kI 15], 0), ([(15, (-1))], 100))]
def xT_73 : List (Nat × xCt) := [(61, xc_7), (64, xc_13), (88, xc_40), (87, xc_72)]
theorem xv_73 : xVer0 xT_73 xHt 100000 86 xm_X7_weigh xc_73 xu_73 = true := by
  rw [← zVer0_eq]
  decide +kernel
theorem xw_73_0 : ((xu_73.drop 0).take 1).all (xVerC xT_73 xHt 100000 86 xm_X7_weigh xc_73 xu_73) = true := by
  rw [← zVerC_eq]
  decide +kernel
theorem xok_73 (l : Launch) : xCk l 86 xc_73 := ⟨xm_X7_weigh, rfl, xVer_ok xk_all (xHt_ok l) (T := xT_73) (xTc (xok_7 l) (xTc (xok_13 l) (xTc (xok_40 l) (xTc (xok_72 l) (xTn l))))) rfl (f := 100000) (cuts := xu_73) xv_73 (xAll0 (xAllS 0 1 xw_73_0 (xAllZ (by decide +kernel))))⟩
def kc193 : xC := kLr 60 [(30, kB 0 23), (30, kB6)]
def xc_74 : xCt := (([kc175, kc176, kc23, kc177, kc193], [(0, 5), kA3, kA3, kA3, kA3, kA3, kA3, kA3, kA3, (30, 31)], [], [kR 0, kR 3, kI 0], 9), [([kc175, kc176, kc23, kc177, kc193], [(0, 5), kA3, kA3, kA3, kA3, kA3, kA3, kA3, kA3, (30, 31), (0, 1)], [], [kI 10], 9)], 1)
def xu_74 : List xCu := [(2, [0, 1, 2, 3], ([kc175, kc176, kc23, kc177, kc193], [(0, 5), kA3, kA3, kA3, kA3, kA3, kA3, kA3, kA3, (30, 31), (0, 31)], [], [kR 0, kR 3, kI 0, kI 10], 9), ([(10, (-1))], 31))]
def xT_74 : List (Nat × xCt) := []
theorem xv_74 : xVer0 xT_74 xHt 100000 87 xm_X7_agreesByPairs xc_74 xu_74 = true := by
  rw [← zVer0_eq]
  decide +kernel
theorem xw_74_0 : ((xu_74.drop 0).take 1).all (xVerC xT_74 xHt 100000 87 xm_X7_agreesByPairs xc_74 xu_74) = true := by
  rw [← zVerC_eq]
  decide +kernel
theorem xok_74 (l : Launch) : xCk l 87 xc_74 := ⟨xm_X7_agreesByPairs, rfl, xVer_ok xk_all (xHt_ok l) (T := xT_74) (xTn l) rfl (f := 100000) (cuts := xu_74) xv_74 (xAll0 (xAllS 0 1 xw_74_0 (xAllZ (by decide +kernel))))⟩
def xc_75 : xCt := (([kc172, kc60, kc61, kc13, kc20, kc31, kc14, kc21, kc22, kc23, kc15, kc4, kc5, kc63, kc14, kc14, kc16, kc0, kc28, kc23, kc23, kc14, kc23, kc179, kc193], [(0, 5), kA3, kA3, kA3, kA3, kA3, kA3, (0, 6), (0, 30), kA3, (0, 24), kA3, kA3, kA3, (30, 31)], [], [kR 0, kR 23, kI 0], 0), [([kc169, kc60, kc61, kc13, kc20, kc31, kc14, kc21, kc22, kc23, kc15, kc4, kc5, kc170, kc14, kc14, kc16, kc0, kc28, kc23, kc23, kc14, kc23, kc179, kc193], [(0, 5), kA3, kA3, kA3, kA3, kA3, kA3, (0, 6), (0, 30), kA3, (0, 24), kA3, kA3, kA3, (30, 31), kA3, kA3, kA3, kA3, kA3, kA3], [], [], 0)], 4)
def xu_75 : List xCu := [(42, [0, 1, 2, 3], ([kc173, kc60, kc61, kc13, kc20, kc31, kc14, kc21, kc22, kc23, kc15, kc4, kc5, kc174, kc14, kc14, kc16, kc0, kc28, kc23, kc23, kc14, kc23, kc179, kc193], [(0, 5), kA3, kA3, kA3, kA3, kA3, kA3, (0, 6), (0, 30), kA3, (0, 24), kA3, kA3, kA3, (30, 31), (0, 100), kA3, kA3, kA3, kA3, kA3, kA3], [], [kR 0, kR 23, kI 0, kI 15], 0), ([(15, (-1))], 100))]
def xT_75 : List (Nat × xCt) := [(61, xc_7), (64, xc_13), (88, xc_40), (87, xc_74)]
theorem xv_75 : xVer0 xT_75 xHt 100000 86 xm_X7_weigh xc_75 xu_75 = true := by
  rw [← zVer0_eq]
  decide +kernel
theorem xw_75_0 : ((xu_75.drop 0).take 1).all (xVerC xT_75 xHt 100000 86 xm_X7_weigh xc_75 xu_75) = true := by
  rw [← zVerC_eq]
  decide +kernel
theorem xok_75 (l : Launch) : xCk l 86 xc_75 := ⟨xm_X7_weigh, rfl, xVer_ok xk_all (xHt_ok l) (T := xT_75) (xTc (xok_7 l) (xTc (xok_13 l) (xTc (xok_40 l) (xTc (xok_74 l) (xTn l))))) rfl (f := 100000) (cuts := xu_75) xv_75 (xAll0 (xAllS 0 1 xw_75_0 (xAllZ (by decide +kernel))))⟩
def kc194 : xC := kLr 60 [(32, kB 0 23), (28, kB6)]
def xc_76 : xCt := (([kc175, kc176, kc23, kc177, kc194], [(0, 5), kA3, kA3, kA3, kA3, kA3, kA3, kA3, kA3, (32, 33)], [], [kR 0, kR 3, kI 0], 9), [([kc175, kc176, kc23, kc177, kc194], [(0, 5), kA3, kA3, kA3, kA3, kA3, kA3, kA3, kA3, (32, 33), (0, 1)], [], [kI 10], 9)], 1)
def xu_76 : List xCu := [(2, [0, 1, 2, 3], ([kc175, kc176, kc23, kc177, kc194], [(0, 5), kA3, kA3, kA3, kA3, kA3, kA3, kA3, kA3, (32, 33), (0, 33)], [], [kR 0, kR 3, kI 0, kI 10], 9), ([(10, (-1))], 33))]
def xT_76 : List (Nat × xCt) := []
theorem xv_76 : xVer0 xT_76 xHt 100000 87 xm_X7_agreesByPairs xc_76 xu_76 = true := by
  rw [← zVer0_eq]
  decide +kernel
theorem xw_76_0 : ((xu_76.drop 0).take 1).all (xVerC xT_76 xHt 100000 87 xm_X7_agreesByPairs xc_76 xu_76) = true := by
  rw [← zVerC_eq]
  decide +kernel
theorem xok_76 (l : Launch) : xCk l 87 xc_76 := ⟨xm_X7_agreesByPairs, rfl, xVer_ok xk_all (xHt_ok l) (T := xT_76) (xTn l) rfl (f := 100000) (cuts := xu_76) xv_76 (xAll0 (xAllS 0 1 xw_76_0 (xAllZ (by decide +kernel))))⟩
def xc_77 : xCt := (([kc172, kc60, kc61, kc13, kc20, kc31, kc14, kc21, kc22, kc23, kc15, kc4, kc5, kc63, kc14, kc14, kc16, kc0, kc28, kc23, kc23, kc14, kc23, kc179, kc194], [(0, 5), kA3, kA3, kA3, kA3, kA3, kA3, (0, 6), (0, 30), kA3, (0, 24), kA3, kA3, kA3, (32, 33)], [], [kR 0, kR 23, kI 0], 0), [([kc169, kc60, kc61, kc13, kc20, kc31, kc14, kc21, kc22, kc23, kc15, kc4, kc5, kc170, kc14, kc14, kc16, kc0, kc28, kc23, kc23, kc14, kc23, kc179, kc194], [(0, 5), kA3, kA3, kA3, kA3, kA3, kA3, (0, 6), (0, 30), kA3, (0, 24), kA3, kA3, kA3, (32, 33), kA3, kA3, kA3, kA3, kA3, kA3], [], [], 0)], 4)
def xu_77 : List xCu := [(42, [0, 1, 2, 3], ([kc173, kc60, kc61, kc13, kc20, kc31, kc14, kc21, kc22, kc23, kc15, kc4, kc5, kc174, kc14, kc14, kc16, kc0, kc28, kc23, kc23, kc14, kc23, kc179, kc194], [(0, 5), kA3, kA3, kA3, kA3, kA3, kA3, (0, 6), (0, 30), kA3, (0, 24), kA3, kA3, kA3, (32, 33), (0, 100), kA3, kA3, kA3, kA3, kA3, kA3], [], [kR 0, kR 23, kI 0, kI 15], 0), ([(15, (-1))], 100))]
def xT_77 : List (Nat × xCt) := [(61, xc_7), (64, xc_13), (88, xc_40), (87, xc_76)]
theorem xv_77 : xVer0 xT_77 xHt 100000 86 xm_X7_weigh xc_77 xu_77 = true := by
  rw [← zVer0_eq]
  decide +kernel
theorem xw_77_0 : ((xu_77.drop 0).take 1).all (xVerC xT_77 xHt 100000 86 xm_X7_weigh xc_77 xu_77) = true := by
  rw [← zVerC_eq]
  decide +kernel
theorem xok_77 (l : Launch) : xCk l 86 xc_77 := ⟨xm_X7_weigh, rfl, xVer_ok xk_all (xHt_ok l) (T := xT_77) (xTc (xok_7 l) (xTc (xok_13 l) (xTc (xok_40 l) (xTc (xok_76 l) (xTn l))))) rfl (f := 100000) (cuts := xu_77) xv_77 (xAll0 (xAllS 0 1 xw_77_0 (xAllZ (by decide +kernel))))⟩
def kc195 : xC := kLr 60 [(34, kB 0 23), (26, kB6)]
def xc_78 : xCt := (([kc175, kc176, kc23, kc177, kc195], [(0, 5), kA3, kA3, kA3, kA3, kA3, kA3, kA3, kA3, (34, 35)], [], [kR 0, kR 3, kI 0], 9), [([kc175, kc176, kc23, kc177, kc195], [(0, 5), kA3, kA3, kA3, kA3, kA3, kA3, kA3, kA3, (34, 35), (0, 1)], [], [kI 10], 9)], 1)
def xu_78 : List xCu := [(2, [0, 1, 2, 3], ([kc175, kc176, kc23, kc177, kc195], [(0, 5), kA3, kA3, kA3, kA3, kA3, kA3, kA3, kA3, (34, 35), (0, 35)], [], [kR 0, kR 3, kI 0, kI 10], 9), ([(10, (-1))], 35))]
def xT_78 : List (Nat × xCt) := []
theorem xv_78 : xVer0 xT_78 xHt 100000 87 xm_X7_agreesByPairs xc_78 xu_78 = true := by
  rw [← zVer0_eq]
  decide +kernel
theorem xw_78_0 : ((xu_78.drop 0).take 1).all (xVerC xT_78 xHt 100000 87 xm_X7_agreesByPairs xc_78 xu_78) = true := by
  rw [← zVerC_eq]
  decide +kernel
theorem xok_78 (l : Launch) : xCk l 87 xc_78 := ⟨xm_X7_agreesByPairs, rfl, xVer_ok xk_all (xHt_ok l) (T := xT_78) (xTn l) rfl (f := 100000) (cuts := xu_78) xv_78 (xAll0 (xAllS 0 1 xw_78_0 (xAllZ (by decide +kernel))))⟩
def xc_79 : xCt := (([kc172, kc60, kc61, kc13, kc20, kc31, kc14, kc21, kc22, kc23, kc15, kc4, kc5, kc63, kc14, kc14, kc16, kc0, kc28, kc23, kc23, kc14, kc23, kc179, kc195], [(0, 5), kA3, kA3, kA3, kA3, kA3, kA3, (0, 6), (0, 30), kA3, (0, 24), kA3, kA3, kA3, (34, 35)], [], [kR 0, kR 23, kI 0], 0), [([kc169, kc60, kc61, kc13, kc20, kc31, kc14, kc21, kc22, kc23, kc15, kc4, kc5, kc170, kc14, kc14, kc16, kc0, kc28, kc23, kc23, kc14, kc23, kc179, kc195], [(0, 5), kA3, kA3, kA3, kA3, kA3, kA3, (0, 6), (0, 30), kA3, (0, 24), kA3, kA3, kA3, (34, 35), kA3, kA3, kA3, kA3, kA3, kA3], [], [], 0)], 4)
def xu_79 : List xCu := [(42, [0, 1, 2, 3], ([kc173, kc60, kc61, kc13, kc20, kc31, kc14, kc21, kc22, kc23, kc15, kc4, kc5, kc174, kc14, kc14, kc16, kc0, kc28, kc23, kc23, kc14, kc23, kc179, kc195], [(0, 5), kA3, kA3, kA3, kA3, kA3, kA3, (0, 6), (0, 30), kA3, (0, 24), kA3, kA3, kA3, (34, 35), (0, 100), kA3, kA3, kA3, kA3, kA3, kA3], [], [kR 0, kR 23, kI 0, kI 15], 0), ([(15, (-1))], 100))]
def xT_79 : List (Nat × xCt) := [(61, xc_7), (64, xc_13), (88, xc_40), (87, xc_78)]
theorem xv_79 : xVer0 xT_79 xHt 100000 86 xm_X7_weigh xc_79 xu_79 = true := by
  rw [← zVer0_eq]
  decide +kernel
theorem xw_79_0 : ((xu_79.drop 0).take 1).all (xVerC xT_79 xHt 100000 86 xm_X7_weigh xc_79 xu_79) = true := by
  rw [← zVerC_eq]
  decide +kernel
theorem xok_79 (l : Launch) : xCk l 86 xc_79 := ⟨xm_X7_weigh, rfl, xVer_ok xk_all (xHt_ok l) (T := xT_79) (xTc (xok_7 l) (xTc (xok_13 l) (xTc (xok_40 l) (xTc (xok_78 l) (xTn l))))) rfl (f := 100000) (cuts := xu_79) xv_79 (xAll0 (xAllS 0 1 xw_79_0 (xAllZ (by decide +kernel))))⟩
def kc196 : xC := kLr 60 [(36, kB 0 23), (24, kB6)]
def xc_80 : xCt := (([kc175, kc176, kc23, kc177, kc196], [(0, 5), kA3, kA3, kA3, kA3, kA3, kA3, kA3, kA3, (36, 37)], [], [kR 0, kR 3, kI 0], 9), [([kc175, kc176, kc23, kc177, kc196], [(0, 5), kA3, kA3, kA3, kA3, kA3, kA3, kA3, kA3, (36, 37), (0, 1)], [], [kI 10], 9)], 1)
def xu_80 : List xCu := [(2, [0, 1, 2, 3], ([kc175, kc176, kc23, kc177, kc196], [(0, 5), kA3, kA3, kA3, kA3, kA3, kA3, kA3, kA3, (36, 37), (0, 37)], [], [kR 0, kR 3, kI 0, kI 10], 9), ([(10, (-1))], 37))]
def xT_80 : List (Nat × xCt) := []
theorem xv_80 : xVer0 xT_80 xHt 100000 87 xm_X7_agreesByPairs xc_80 xu_80 = true := by
  rw [← zVer0_eq]
  decide +kernel
theorem xw_80_0 : ((xu_80.drop 0).take 1).all (xVerC xT_80 xHt 100000 87 xm_X7_agreesByPairs xc_80 xu_80) = true := by
  rw [← zVerC_eq]
  decide +kernel
theorem xok_80 (l : Launch) : xCk l 87 xc_80 := ⟨xm_X7_agreesByPairs, rfl, xVer_ok xk_all (xHt_ok l) (T := xT_80) (xTn l) rfl (f := 100000) (cuts := xu_80) xv_80 (xAll0 (xAllS 0 1 xw_80_0 (xAllZ (by decide +kernel))))⟩
def xc_81 : xCt := (([kc172, kc60, kc61, kc13, kc20, kc31, kc14, kc21, kc22, kc23, kc15, kc4, kc5, kc63, kc14, kc14, kc16, kc0, kc28, kc23, kc23, kc14, kc23, kc179, kc196], [(0, 5), kA3, kA3, kA3, kA3, kA3, kA3, (0, 6), (0, 30), kA3, (0, 24), kA3, kA3, kA3, (36, 37)], [], [kR 0, kR 23, kI 0], 0), [([kc169, kc60, kc61, kc13, kc20, kc31, kc14, kc21, kc22, kc23, kc15, kc4, kc5, kc170, kc14, kc14, kc16, kc0, kc28, kc23, kc23, kc14, kc23, kc179, kc196], [(0, 5), kA3, kA3, kA3, kA3, kA3, kA3, (0, 6), (0, 30), kA3, (0, 24), kA3, kA3, kA3, (36, 37), kA3, kA3, kA3, kA3, kA3, kA3], [], [], 0)], 4)
def xu_81 : List xCu := [(42, [0, 1, 2, 3], ([kc173, kc60, kc61, kc13, kc20, kc31, kc14, kc21, kc22, kc23, kc15, kc4, kc5, kc174, kc14, kc14, kc16, kc0, kc28, kc23, kc23, kc14, kc23, kc179, kc196], [(0, 5), kA3, kA3, kA3, kA3, kA3, kA3, (0, 6), (0, 30), kA3, (0, 24), kA3, kA3, kA3, (36, 37), (0, 100), kA3, kA3, kA3, kA3, kA3, kA3], [], [kR 0, kR 23, kI 0, kI 15], 0), ([(15, (-1))], 100))]
def xT_81 : List (Nat × xCt) := [(61, xc_7), (64, xc_13), (88, xc_40), (87, xc_80)]
theorem xv_81 : xVer0 xT_81 xHt 100000 86 xm_X7_weigh xc_81 xu_81 = true := by
  rw [← zVer0_eq]
  decide +kernel
theorem xw_81_0 : ((xu_81.drop 0).take 1).all (xVerC xT_81 xHt 100000 86 xm_X7_weigh xc_81 xu_81) = true := by
  rw [← zVerC_eq]
  decide +kernel
theorem xok_81 (l : Launch) : xCk l 86 xc_81 := ⟨xm_X7_weigh, rfl, xVer_ok xk_all (xHt_ok l) (T := xT_81) (xTc (xok_7 l) (xTc (xok_13 l) (xTc (xok_40 l) (xTc (xok_80 l) (xTn l))))) rfl (f := 100000) (cuts := xu_81) xv_81 (xAll0 (xAllS 0 1 xw_81_0 (xAllZ (by decide +kernel))))⟩
def kc197 : xC := kLr 60 [(38, kB 0 23), (22, kB6)]
def xc_82 : xCt := (([kc175, kc176, kc23, kc177, kc197], [(0, 5), kA3, kA3, kA3, kA3, kA3, kA3, kA3, kA3, (38, 39)], [], [kR 0, kR 3, kI 0], 9), [([kc175, kc176, kc23, kc177, kc197], [(0, 5), kA3, kA3, kA3, kA3, kA3, kA3, kA3, kA3, (38, 39), (0, 1)], [], [kI 10], 9)], 1)
def xu_82 : List xCu := [(2, [0, 1, 2, 3], ([kc175, kc176, kc23, kc177, kc197], [(0, 5), kA3, kA3, kA3, kA3, kA3, kA3, kA3, kA3, (38, 39), (0, 39)], [], [kR 0, kR 3, kI 0, kI 10], 9), ([(10, (-1))], 39))]
def xT_82 : List (Nat × xCt) := []
theorem xv_82 : xVer0 xT_82 xHt 100000 87 xm_X7_agreesByPairs xc_82 xu_82 = true := by
  rw [← zVer0_eq]
  decide +kernel
theorem xw_82_0 : ((xu_82.drop 0).take 1).all (xVerC xT_82 xHt 100000 87 xm_X7_agreesByPairs xc_82 xu_82) = true := by
  rw [← zVerC_eq]
  decide +kernel
theorem xok_82 (l : Launch) : xCk l 87 xc_82 := ⟨xm_X7_agreesByPairs, rfl, xVer_ok xk_all (xHt_ok l) (T := xT_82) (xTn l) rfl (f := 100000) (cuts := xu_82) xv_82 (xAll0 (xAllS 0 1 xw_82_0 (xAllZ (by decide +kernel))))⟩
def xc_83 : xCt := (([kc172, kc60, kc61, kc13, kc20, kc31, kc14, kc21, kc22, kc23, kc15, kc4, kc5, kc63, kc14, kc14, kc16, kc0, kc28, kc23, kc23, kc14, kc23, kc179, kc197], [(0, 5), kA3, kA3, kA3, kA3, kA3, kA3, (0, 6), (0, 30), kA3, (0, 24), kA3, kA3, kA3, (38, 39)], [], [kR 0, kR 23, kI 0], 0), [([kc169, kc60, kc61, kc13, kc20, kc31, kc14, kc21, kc22, kc23, kc15, kc4, kc5, kc170, kc14, kc14, kc16, kc0, kc28, kc23, kc23, kc14, kc23, kc179, kc197], [(0, 5), kA3, kA3, kA3, kA3, kA3, kA3, (0, 6), (0, 30), kA3, (0, 24), kA3, kA3, kA3, (38, 39), kA3, kA3, kA3, kA3, kA3, kA3], [], [], 0)], 4)
def xu_83 : List xCu := [(42, [0, 1, 2, 3], ([kc173, kc60, kc61, kc13, kc20, kc31, kc14, kc21, kc22, kc23, kc15, kc4, kc5, kc174, kc14, kc14, kc16, kc0, kc28, kc23, kc23, kc14, kc23, kc179, kc197], [(0, 5), kA3, kA3, kA3, kA3, kA3, kA3, (0, 6), (0, 30), kA3, (0, 24), kA3, kA3, kA3, (38, 39), (0, 100), kA3, kA3, kA3, kA3, kA3, kA3], [], [kR 0, kR 23, kI 0, kI 15], 0), ([(15, (-1))], 100))]
def xT_83 : List (Nat × xCt) := [(61, xc_7), (64, xc_13), (88, xc_40), (87, xc_82)]
theorem xv_83 : xVer0 xT_83 xHt 100000 86 xm_X7_weigh xc_83 xu_83 = true := by
  rw [← zVer0_eq]
  decide +kernel
theorem xw_83_0 : ((xu_83.drop 0).take 1).all (xVerC xT_83 xHt 100000 86 xm_X7_weigh xc_83 xu_83) = true := by
  rw [← zVerC_eq]
  decide +kernel
theorem xok_83 (l : Launch) : xCk l 86 xc_83 := ⟨xm_X7_weigh, rfl, xVer_ok xk_all (xHt_ok l) (T := xT_83) (xTc (xok_7 l) (xTc (xok_13 l) (xTc (xok_40 l) (xTc (xok_82 l) (xTn l))))) rfl (f := 100000) (cuts := xu_83) xv_83 (xAll0 (xAllS 0 1 xw_83_0 (xAllZ (by decide +kernel))))⟩
def kc198 : xC := kLr 60 [(40, kB 0 23), (20, kB6)]
def xc_84 : xCt := (([kc175, kc176, kc23, kc177, kc198], [(0, 5), kA3, kA3, kA3, kA3, kA3, kA3, kA3, kA3, (40, 41)], [], [kR 0, kR 3, kI 0], 9), [([kc175, kc176, kc23, kc177, kc198], [(0, 5), kA3, kA3, kA3, kA3, kA3, kA3, kA3, kA3, (40, 41), (0, 1)], [], [kI 10], 9)], 1)
def xu_84 : List xCu := [(2, [0, 1, 2, 3], ([kc175, kc176, kc23, kc177, kc198], [(0, 5), kA3, kA3, kA3, kA3, kA3, kA3, kA3, kA3, (40, 41), (0, 41)], [], [kR 0, kR 3, kI 0, kI 10], 9), ([(10, (-1))], 41))]
def xT_84 : List (Nat × xCt) := []
theorem xv_84 : xVer0 xT_84 xHt 100000 87 xm_X7_agreesByPairs xc_84 xu_84 = true := by
  rw [← zVer0_eq]
  decide +kernel
theorem xw_84_0 : ((xu_84.drop 0).take 1).all (xVerC xT_84 xHt 100000 87 xm_X7_agreesByPairs xc_84 xu_84) = true := by
  rw [← zVerC_eq]
  decide +kernel
theorem xok_84 (l : Launch) : xCk l 87 xc_84 := ⟨xm_X7_agreesByPairs, rfl, xVer_ok xk_all (xHt_ok l) (T := xT_84) (xTn l) rfl (f := 100000) (cuts := xu_84) xv_84 (xAll0 (xAllS 0 1 xw_84_0 (xAllZ (by decide +kernel))))⟩
def xc_85 : xCt := (([kc172, kc60, kc61, kc13, kc20, kc31, kc14, kc21, kc22, kc23, kc15, kc4, kc5, kc63, kc14, kc14, kc16, kc0, kc28, kc23, kc23, kc14, kc23, kc179, kc198], [(0, 5), kA3, kA3, kA3, kA3, kA3, kA3, (0, 6), (0, 30), kA3, (0, 24), kA3, kA3, kA3, (40, 41)], [], [kR 0, kR 23, kI 0], 0), [([kc169, kc60, kc61, kc13, kc20, kc31, kc14, kc21, kc22, kc23, kc15, kc4, kc5, kc170, kc14, kc14, kc16, kc0, kc28, kc23, kc23, kc14, kc23, kc179, kc198], [(0, 5), kA3, kA3, kA3, kA3, kA3, kA3, (0, 6), (0, 30), kA3, (0, 24), kA3, kA3, kA3, (40, 41), kA3, kA3, kA3, kA3, kA3, kA3], [], [], 0)], 4)
def xu_85 : List xCu := [(42, [0, 1, 2, 3], ([kc173, kc60, kc61, kc13, kc20, kc31, kc14, kc21, kc22, kc23, kc15, kc4, kc5, kc174, kc14, kc14, kc16, kc0, kc28, kc23, kc23, kc14, kc23, kc179, kc198], [(0, 5), kA3, kA3, kA3, kA3, kA3, kA3, (0, 6), (0, 30), kA3, (0, 24), kA3, kA3, kA3, (40, 41), (0, 100), kA3, kA3, kA3, kA3, kA3, kA3], [], [kR 0, kR 23, kI 0, kI 15], 0), ([(15, (-1))], 100))]
def xT_85 : List (Nat × xCt) := [(61, xc_7), (64, xc_13), (88, xc_40), (87, xc_84)]
theorem xv_85 : xVer0 xT_85 xHt 100000 86 xm_X7_weigh xc_85 xu_85 = true := by
  rw [← zVer0_eq]
  decide +kernel
theorem xw_85_0 : ((xu_85.drop 0).take 1).all (xVerC xT_85 xHt 100000 86 xm_X7_weigh xc_85 xu_85) = true := by
  rw [← zVerC_eq]
  decide +kernel
theorem xok_85 (l : Launch) : xCk l 86 xc_85 := ⟨xm_X7_weigh, rfl, xVer_ok xk_all (xHt_ok l) (T := xT_85) (xTc (xok_7 l) (xTc (xok_13 l) (xTc (xok_40 l) (xTc (xok_84 l) (xTn l))))) rfl (f := 100000) (cuts := xu_85) xv_85 (xAll0 (xAllS 0 1 xw_85_0 (xAllZ (by decide +kernel))))⟩
def kc199 : xC := kLr 60 [(42, kB 0 23), (18, kB6)]
def xc_86 : xCt := (([kc175, kc176, kc23, kc177, kc199], [(0, 5), kA3, kA3, kA3, kA3, kA3, kA3, kA3, kA3, (42, 43)], [], [kR 0, kR 3, kI 0], 9), [([kc175, kc176, kc23, kc177, kc199], [(0, 5), kA3, kA3, kA3, kA3, kA3, kA3, kA3, kA3, (42, 43), (0, 1)], [], [kI 10], 9)], 1)
def xu_86 : List xCu := [(2, [0, 1, 2, 3], ([kc175, kc176, kc23, kc177, kc199], [(0, 5), kA3, kA3, kA3, kA3, kA3, kA3, kA3, kA3, (42, 43), (0, 43)], [], [kR 0, kR 3, kI 0, kI 10], 9), ([(10, (-1))], 43))]
def xT_86 : List (Nat × xCt) := []
theorem xv_86 : xVer0 xT_86 xHt 100000 87 xm_X7_agreesByPairs xc_86 xu_86 = true := by
  rw [← zVer0_eq]
  decide +kernel
theorem xw_86_0 : ((xu_86.drop 0).take 1).all (xVerC xT_86 xHt 100000 87 xm_X7_agreesByPairs xc_86 xu_86) = true := by
  rw [← zVerC_eq]
  decide +kernel
theorem xok_86 (l : Launch) : xCk l 87 xc_86 := ⟨xm_X7_agreesByPairs, rfl, xVer_ok xk_all (xHt_ok l) (T := xT_86) (xTn l) rfl (f := 100000) (cuts := xu_86) xv_86 (xAll0 (xAllS 0 1 xw_86_0 (xAllZ (by decide +kernel))))⟩
def xc_87 : xCt := (([kc172, kc60, kc61, kc13, kc20, kc31, kc14, kc21, kc22, kc23, kc15, kc4, kc5, kc63, kc14, kc14, kc16, kc0, kc28, kc23, kc23, kc14, kc23, kc179, kc199], [(0, 5), kA3, kA3, kA3, kA3, kA3, kA3, (0, 6), (0, 30), kA3, (0, 24), kA3, kA3, kA3, (42, 43)], [], [kR 0, kR 23, kI 0], 0), [([kc169, kc60, kc61, kc13, kc20, kc31, kc14, kc21, kc22, kc23, kc15, kc4, kc5, kc170, kc14, kc14, kc16, kc0, kc28, kc23, kc23, kc14, kc23, kc179, kc199], [(0, 5), kA3, kA3, kA3, kA3, kA3, kA3, (0, 6), (0, 30), kA3, (0, 24), kA3, kA3, kA3, (42, 43), kA3, kA3, kA3, kA3, kA3, kA3], [], [], 0)], 4)
def xu_87 : List xCu := [(42, [0, 1, 2, 3], ([kc173, kc60, kc61, kc13, kc20, kc31, kc14, kc21, kc22, kc23, kc15, kc4, kc5, kc174, kc14, kc14, kc16, kc0, kc28, kc23, kc23, kc14, kc23, kc179, kc199], [(0, 5), kA3, kA3, kA3, kA3, kA3, kA3, (0, 6), (0, 30), kA3, (0, 24), kA3, kA3, kA3, (42, 43), (0, 100), kA3, kA3, kA3, kA3, kA3, kA3], [], [kR 0, kR 23, kI 0, kI 15], 0), ([(15, (-1))], 100))]
def xT_87 : List (Nat × xCt) := [(61, xc_7), (64, xc_13), (88, xc_40), (87, xc_86)]
theorem xv_87 : xVer0 xT_87 xHt 100000 86 xm_X7_weigh xc_87 xu_87 = true := by
  rw [← zVer0_eq]
  decide +kernel
theorem xw_87_0 : ((xu_87.drop 0).take 1).all (xVerC xT_87 xHt 100000 86 xm_X7_weigh xc_87 xu_87) = true := by
  rw [← zVerC_eq]
  decide +kernel
theorem xok_87 (l : Launch) : xCk l 86 xc_87 := ⟨xm_X7_weigh, rfl, xVer_ok xk_all (xHt_ok l) (T := xT_87) (xTc (xok_7 l) (xTc (xok_13 l) (xTc (xok_40 l) (xTc (xok_86 l) (xTn l))))) rfl (f := 100000) (cuts := xu_87) xv_87 (xAll0 (xAllS 0 1 xw_87_0 (xAllZ (by decide +kernel))))⟩
