/-! Contracts, printed by a program: part 2. -/
def kc167 : xC := kO 7 [kX 20, kX 21, kI 1, kI 2, kI 3, kI 4, kI 5, kX 22]
def kc168 : xC := kO 4 [kI 6, kI 7, kX 23]
def xc_44 : xCt := (([kc167, kc168], [(0, 5), kA3, kA3, kA3, kA3, kA3, kA3, (0, 1)], [], [kR 0, kR 1, kI 0], 4), [([kc167, kc168], [(0, 5), kA3, kA3, kA3, kA3, kA3, kA3, (0, 1)], [], [kIc 1], 4)], 0)
def xu_44 : List xCu := [(2, [0, 1, 2, 3], ([kc167, kc168], [(0, 5), kA3, kA3, kA3, kA3, kA3, kA3, (0, 1)], [], [kR 0, kR 1, kI 0, kIc 0], 4), ([], 0))]
def xT_44 : List (Nat × xCt) := []
theorem xv_44 : xVer0 xT_44 xHt 100000 87 xm_X7_agreesByPairs xc_44 xu_44 = true := by
  rw [← zVer0_eq]
  decide +kernel
theorem xw_44_0 : ((xu_44.drop 0).take 1).all (xVerC xT_44 xHt 100000 87 xm_X7_agreesByPairs xc_44 xu_44) = true := by
  rw [← zVerC_eq]
  decide +kernel
theorem xok_44 (l : Launch) : xCk l 87 xc_44 := ⟨xm_X7_agreesByPairs, rfl, xVer_ok xk_all (xHt_ok l) (T := xT_44) (xTn l) rfl (f := 100000) (cuts := xu_44) xv_44 (xAll0 (xAllS 0 1 xw_44_0 (xAllZ (by decide +kernel))))⟩
def kc169 : xC := kO 7 [kR 1, kR 13, kI 15, kI 16, kI 17, kI 18, kI 19, kR 22]
def kc170 : xC := kO 6 [kR 1, kR 14, kR 15, kR 16, kR 17, kI 20, kIc 0, kR 18, kR 19, kR 20, kR 21]
def kc171 : xC := kO 4 [kI 13, kI 14, kX 20]
def kc172 : xC := kO 7 [kR 1, kR 13, kI 1, kI 2, kI 3, kI 4, kI 5, kR 22]
def kc173 : xC := kO 7 [kR 1, kR 13, kI 16, kI 17, kI 18, kI 19, kI 20, kR 22]
def kc174 : xC := kO 6 [kR 1, kR 14, kR 15, kR 16, kR 17, kI 21, kIc 0, kR 18, kR 19, kR 20, kR 21]
def xc_45 : xCt := (([kc172, kc60, kc61, kc13, kc20, kc31, kc14, kc21, kc22, kc23, kc15, kc4, kc5, kc63, kc14, kc14, kc16, kc0, kc28, kc23, kc23, kc14, kc23, kc171], [(0, 5), kA3, kA3, kA3, kA3, kA3, kA3, (0, 6), (0, 30), kA3, (0, 24), kA3, kA3, kA3, (0, 1)], [], [kR 0, kR 23, kI 0], 1), [([kc169, kc60, kc61, kc13, kc20, kc31, kc14, kc21, kc22, kc23, kc15, kc4, kc5, kc170, kc14, kc14, kc16, kc0, kc28, kc23, kc23, kc14, kc23, kc171], [(0, 5), kA3, kA3, kA3, kA3, kA3, kA3, (0, 6), (0, 30), kA3, (0, 24), kA3, kA3, kA3, (0, 1), kA3, kA3, kA3, kA3, kA3, kA3], [], [], 1)], 4)
def xu_45 : List xCu := [(42, [0, 1, 2, 3], ([kc173, kc60, kc61, kc13, kc20, kc31, kc14, kc21, kc22, kc23, kc15, kc4, kc5, kc174, kc14, kc14, kc16, kc0, kc28, kc23, kc23, kc14, kc23, kc171], [(0, 5), kA3, kA3, kA3, kA3, kA3, kA3, (0, 6), (0, 30), kA3, (0, 24), kA3, kA3, kA3, (0, 1), (0, 100), kA3, kA3, kA3, kA3, kA3, kA3], [], [kR 0, kR 23, kI 0, kI 15], 1), ([(15, (-1))], 100))]
def xT_45 : List (Nat × xCt) := [(61, xc_7), (64, xc_13), (88, xc_40), (87, xc_44)]
theorem xv_45 : xVer0 xT_45 xHt 100000 86 xm_X7_weigh xc_45 xu_45 = true := by
  rw [← zVer0_eq]
  decide +kernel
theorem xw_45_0 : ((xu_45.drop 0).take 1).all (xVerC xT_45 xHt 100000 86 xm_X7_weigh xc_45 xu_45) = true := by
  rw [← zVerC_eq]
  decide +kernel
theorem xok_45 (l : Launch) : xCk l 86 xc_45 := ⟨xm_X7_weigh, rfl, xVer_ok xk_all (xHt_ok l) (T := xT_45) (xTc (xok_7 l) (xTc (xok_13 l) (xTc (xok_40 l) (xTc (xok_44 l) (xTn l))))) rfl (f := 100000) (cuts := xu_45) xv_45 (xAll0 (xAllS 0 1 xw_45_0 (xAllZ (by decide +kernel))))⟩
def kc175 : xC := kO 7 [kX 20, kR 1, kI 1, kI 2, kI 3, kI 4, kI 5, kX 21]
def kc176 : xC := kO 6 [kX 20, kX 22, kX 23, kX 24, kX 25, kI 6, kI 7, kX 26, kR 2, kX 27, kX 28]
def kc177 : xC := kO 4 [kI 8, kI 9, kR 4]
def kc178 : xC := kLr 60 [(2, kB 0 23), (58, kB6)]
def xc_46 : xCt := (([kc175, kc176, kc23, kc177, kc178], [(0, 5), kA3, kA3, kA3, kA3, kA3, kA3, kA3, kA3, (2, 3)], [], [kR 0, kR 3, kI 0], 9), [([kc175, kc176, kc23, kc177, kc178], [(0, 5), kA3, kA3, kA3, kA3, kA3, kA3, kA3, kA3, (2, 3), (0, 1)], [], [kI 10], 9)], 1)
def xu_46 : List xCu := [(2, [0, 1, 2, 3], ([kc175, kc176, kc23, kc177, kc178], [(0, 5), kA3, kA3, kA3, kA3, kA3, kA3, kA3, kA3, (2, 3), (0, 3)], [], [kR 0, kR 3, kI 0, kI 10], 9), ([(10, (-1))], 3))]
def xT_46 : List (Nat × xCt) := []
theorem xv_46 : xVer0 xT_46 xHt 100000 87 xm_X7_agreesByPairs xc_46 xu_46 = true := by
  rw [← zVer0_eq]
  decide +kernel
theorem xw_46_0 : ((xu_46.drop 0).take 1).all (xVerC xT_46 xHt 100000 87 xm_X7_agreesByPairs xc_46 xu_46) = true := by
  rw [← zVerC_eq]
  decide +kernel
theorem xok_46 (l : Launch) : xCk l 87 xc_46 := ⟨xm_X7_agreesByPairs, rfl, xVer_ok xk_all (xHt_ok l) (T := xT_46) (xTn l) rfl (f := 100000) (cuts := xu_46) xv_46 (xAll0 (xAllS 0 1 xw_46_0 (xAllZ (by decide +kernel))))⟩
def kc179 : xC := kO 4 [kI 13, kI 14, kR 24]
def xc_47 : xCt := (([kc172, kc60, kc61, kc13, kc20, kc31, kc14, kc21, kc22, kc23, kc15, kc4, kc5, kc63, kc14, kc14, kc16, kc0, kc28, kc23, kc23, kc14, kc23, kc179, kc178], [(0, 5), kA3, kA3, kA3, kA3, kA3, kA3, (0, 6), (0, 30), kA3, (0, 24), kA3, kA3, kA3, (2, 3)], [], [kR 0, kR 23, kI 0], 0), [([kc169, kc60, kc61, kc13, kc20, kc31, kc14, kc21, kc22, kc23, kc15, kc4, kc5, kc170, kc14, kc14, kc16, kc0, kc28, kc23, kc23, kc14, kc23, kc179, kc178], [(0, 5), kA3, kA3, kA3, kA3, kA3, kA3, (0, 6), (0, 30), kA3, (0, 24), kA3, kA3, kA3, (2, 3), kA3, kA3, kA3, kA3, kA3, kA3], [], [], 0)], 4)
def xu_47 : List xCu := [(42, [0, 1, 2, 3], ([kc173, kc60, kc61, kc13, kc20, kc31, kc14, kc21, kc22, kc23, kc15, kc4, kc5, kc174, kc14, kc14, kc16, kc0, kc28, kc23, kc23, kc14, kc23, kc179, kc178], [(0, 5), kA3, kA3, kA3, kA3, kA3, kA3, (0, 6), (0, 30), kA3, (0, 24), kA3, kA3, kA3, (2, 3), (0, 100), kA3, kA3, kA3, kA3, kA3, kA3], [], [kR 0, kR 23, kI 0, kI 15], 0), ([(15, (-1))], 100))]
def xT_47 : List (Nat × xCt) := [(61, xc_7), (64, xc_13), (88, xc_40), (87, xc_46)]
theorem xv_47 : xVer0 xT_47 xHt 100000 86 xm_X7_weigh xc_47 xu_47 = true := by
  rw [← zVer0_eq]
  decide +kernel
theorem xw_47_0 : ((xu_47.drop 0).take 1).all (xVerC xT_47 xHt 100000 86 xm_X7_weigh xc_47 xu_47) = true := by
  rw [← zVerC_eq]
  decide +kernel
theorem xok_47 (l : Launch) : xCk l 86 xc_47 := ⟨xm_X7_weigh, rfl, xVer_ok xk_all (xHt_ok l) (T := xT_47) (xTc (xok_7 l) (xTc (xok_13 l) (xTc (xok_40 l) (xTc (xok_46 l) (xTn l))))) rfl (f := 100000) (cuts := xu_47) xv_47 (xAll0 (xAllS 0 1 xw_47_0 (xAllZ (by decide +kernel))))⟩
def kc180 : xC := kLr 60 [(4, kB 0 23), (56, kB6)]
def xc_48 : xCt := (([kc175, kc176, kc23, kc177, kc180], [(0, 5), kA3, kA3, kA3, kA3, kA3, kA3, kA3, kA3, (4, 5)], [], [kR 0, kR 3, kI 0], 9), [([kc175, kc176, kc23, kc177, kc180], [(0, 5), kA3, kA3, kA3, kA3, kA3, kA3, kA3, kA3, (4, 5), (0, 1)], [], [kI 10], 9)], 1)
def xu_48 : List xCu := [(2, [0, 1, 2, 3], ([kc175, kc176, kc23, kc177, kc180], [(0, 5), kA3, kA3, kA3, kA3, kA3, kA3, kA3, kA3, (4, 5), (0, 5)], [], [kR 0, kR 3, kI 0, kI 10], 9), ([(10, (-1))], 5))]
def xT_48 : List (Nat × xCt) := []
theorem xv_48 : xVer0 xT_48 xHt 100000 87 xm_X7_agreesByPairs xc_48 xu_48 = true := by
  rw [← zVer0_eq]
  decide +kernel
theorem xw_48_0 : ((xu_48.drop 0).take 1).all (xVerC xT_48 xHt 100000 87 xm_X7_agreesByPairs xc_48 xu_48) = true := by
  rw [← zVerC_eq]
  decide +kernel
theorem xok_48 (l : Launch) : xCk l 87 xc_48 := ⟨xm_X7_agreesByPairs, rfl, xVer_ok xk_all (xHt_ok l) (T := xT_48) (xTn l) rfl (f := 100000) (cuts := xu_48) xv_48 (xAll0 (xAllS 0 1 xw_48_0 (xAllZ (by decide +kernel))))⟩
def xc_49 : xCt := (([kc172, kc60, kc61, kc13, kc20, kc31, kc14, kc21, kc22, kc23, kc15, kc4, kc5, kc63, kc14, kc14, kc16, kc0, kc28, kc23, kc23, kc14, kc23, kc179, kc180], [(0, 5), kA3, kA3, kA3, kA3, kA3, kA3, (0, 6), (0, 30), kA3, (0, 24), kA3, kA3, kA3, (4, 5)], [], [kR 0, kR 23, kI 0], 0), [([kc169, kc60, kc61, kc13, kc20, kc31, kc14, kc21, kc22, kc23, kc15, kc4, kc5, kc170, kc14, kc14, kc16, kc0, kc28, kc23, kc23, kc14, kc23, kc179, kc180], [(0, 5), kA3, kA3, kA3, kA3, kA3, kA3, (0, 6), (0, 30), kA3, (0, 24), kA3, kA3, kA3, (4, 5), kA3, kA3, kA3, kA3, kA3, kA3], [], [], 0)], 4)
def xu_49 : List xCu := [(42, [0, 1, 2, 3], ([kc173, kc60, kc61, kc13, kc20, kc31, kc14, kc21, kc22, kc23, kc15, kc4, kc5, kc174, kc14, kc14, kc16, kc0, kc28, kc23, kc23, kc14, kc23, kc179, kc180], [(0, 5), kA3, kA3, kA3, kA3, kA3, kA3, (0, 6), (0, 30), kA3, (0, 24), kA3, kA3, kA3, (4, 5), (0, 100), kA3, kA3, kA3, kA3, kA3, kA3], [], [kR 0, kR 23, kI 0, kI 15], 0), ([(15, (-1))], 100))]
def xT_49 : List (Nat × xCt) := [(61, xc_7), (64, xc_13), (88, xc_40), (87, xc_48)]
theorem xv_49 : xVer0 xT_49 xHt 100000 86 xm_X7_weigh xc_49 xu_49 = true := by
  rw [← zVer0_eq]
  decide +kernel
theorem xw_49_0 : ((xu_49.drop 0).take 1).all (xVerC xT_49 xHt 100000 86 xm_X7_weigh xc_49 xu_49) = true := by
  rw [← zVerC_eq]
  decide +kernel
theorem xok_49 (l : Launch) : xCk l 86 xc_49 := ⟨xm_X7_weigh, rfl, xVer_ok xk_all (xHt_ok l) (T := xT_49) (xTc (xok_7 l) (xTc (xok_13 l) (xTc (xok_40 l) (xTc (xok_48 l) (xTn l))))) rfl (f := 100000) (cuts := xu_49) xv_49 (xAll0 (xAllS 0 1 xw_49_0 (xAllZ (by decide +kernel))))⟩
def kc181 : xC := kLr 60 [(6, kB 0 23), (54, kB6)]
def xc_50 : xCt := (([kc175, kc176, kc23, kc177, kc181], [(0, 5), kA3, kA3, kA3, kA3, kA3, kA3, kA3, kA3, (6, 7)], [], [kR 0, kR 3, kI 0], 9), [([kc175, kc176, kc23, kc177, kc181], [(0, 5), kA3, kA3, kA3, kA3, kA3, kA3, kA3, kA3, (6, 7), (0, 1)], [], [kI 10], 9)], 1)
def xu_50 : List xCu := [(2, [0, 1, 2, 3], ([kc175, kc176, kc23, kc177, kc181], [(0, 5), kA3, kA3, kA3, kA3, kA3, kA3, kA3, kA3, (6, 7), (0, 7)], [], [kR 0, kR 3, kI 0, kI 10], 9), ([(10, (-1))], 7))]
def xT_50 : List (Nat × xCt) := []
theorem xv_50 : xVer0 xT_50 xHt 100000 87 xm_X7_agreesByPairs xc_50 xu_50 = true := by
  rw [← zVer0_eq]
  decide +kernel
theorem xw_50_0 : ((xu_50.drop 0).take 1).all (xVerC xT_50 xHt 100000 87 xm_X7_agreesByPairs xc_50 xu_50) = true := by
  rw [← zVerC_eq]
  decide +kernel
theorem xok_50 (l : Launch) : xCk l 87 xc_50 := ⟨xm_X7_agreesByPairs, rfl, xVer_ok xk_all (xHt_ok l) (T := xT_50) (xTn l) rfl (f := 100000) (cuts := xu_50) xv_50 (xAll0 (xAllS 0 1 xw_50_0 (xAllZ (by decide +kernel))))⟩
def xc_51 : xCt := (([kc172, kc60, kc61, kc13, kc20, kc31, kc14, kc21, kc22, kc23, kc15, kc4, kc5, kc63, kc14, kc14, kc16, kc0, kc28, kc23, kc23, kc14, kc23, kc179, kc181], [(0, 5), kA3, kA3, kA3, kA3, kA3, kA3, (0, 6), (0, 30), kA3, (0, 24), kA3, kA3, kA3, (6, 7)], [], [kR 0, kR 23, kI 0], 0), [([kc169, kc60, kc61, kc13, kc20, kc31, kc14, kc21, kc22, kc23, kc15, kc4, kc5, kc170, kc14, kc14, kc16, kc0, kc28, kc23, kc23, kc14, kc23, kc179, kc181], [(0, 5), kA3, kA3, kA3, kA3, kA3, kA3, (0, 6), (0, 30), kA3, (0, 24), kA3, kA3, kA3, (6, 7), kA3, kA3, kA3, kA3, kA3, kA3], [], [], 0)], 4)
def xu_51 : List xCu := [(42, [0, 1, 2, 3], ([kc173, kc60, kc61, kc13, kc20, kc31, kc14, kc21, kc22, kc23, kc15, kc4, kc5, kc174, kc14, kc14, kc16, kc0, kc28, kc23, kc23, kc14, kc23, kc179, kc181], [(0, 5), kA3, kA3, kA3, kA3, kA3, kA3, (0, 6), (0, 30), kA3, (0, 24), kA3, kA3, kA3, (6, 7), (0, 100), kA3, kA3, kA3, kA3, kA3, kA3], [], [kR 0, kR 23, kI 0, kI 15], 0), ([(15, (-1))], 100))]
def xT_51 : List (Nat × xCt) := [(61, xc_7), (64, xc_13), (88, xc_40), (87, xc_50)]
theorem xv_51 : xVer0 xT_51 xHt 100000 86 xm_X7_weigh xc_51 xu_51 = true := by
  rw [← zVer0_eq]
  decide +kernel
theorem xw_51_0 : ((xu_51.drop 0).take 1).all (xVerC xT_51 xHt 100000 86 xm_X7_weigh xc_51 xu_51) = true := by
  rw [← zVerC_eq]
  decide +kernel
theorem xok_51 (l : Launch) : xCk l 86 xc_51 := ⟨xm_X7_weigh, rfl, xVer_ok xk_all (xHt_ok l) (T := xT_51) (xTc (xok_7 l) (xTc (xok_13 l) (xTc (xok_40 l) (xTc (xok_50 l) (xTn l))))) rfl (f := 100000) (cuts := xu_51) xv_51 (xAll0 (xAllS 0 1 xw_51_0 (xAllZ (by decide +kernel))))⟩
def kc182 : xC := kLr 60 [(8, kB 0 23), (52, kB6)]
def xc_52 : xCt := (([kc175, kc176, kc23, kc177, kc182], [(0, 5), kA3, kA3, kA3, kA3, kA3, kA3, kA3, kA3, (8, 9)], [], [kR 0, kR 3, kI 0], 9), [([kc175, kc176, kc23, kc177, kc182], [(0, 5), kA3, kA3, kA3, kA3, kA3, kA3, kA3, kA3, (8, 9), (0, 1)], [], [kI 10], 9)], 1)
def xu_52 : List xCu := [(2, [0, 1, 2, 3], ([kc175, kc176, kc23, kc177, kc182], [(0, 5), kA3, kA3, kA3, kA3, kA3, kA3, kA3, kA3, (8, 9), (0, 9)], [], [kR 0, kR 3, kI 0, kI 10], 9), ([(10, (-1))], 9))]
def xT_52 : List (Nat × xCt) := []
theorem xv_52 : xVer0 xT_52 xHt 100000 87 xm_X7_agreesByPairs xc_52 xu_52 = true := by
  rw [← zVer0_eq]
  decide +kernel
theorem xw_52_0 : ((xu_52.drop 0).take 1).all (xVerC xT_52 xHt 100000 87 xm_X7_agreesByPairs xc_52 xu_52) = true := by
  rw [← zVerC_eq]
  decide +kernel
theorem xok_52 (l : Launch) : xCk l 87 xc_52 := ⟨xm_X7_agreesByPairs, rfl, xVer_ok xk_all (xHt_ok l) (T := xT_52) (xTn l) rfl (f := 100000) (cuts := xu_52) xv_52 (xAll0 (xAllS 0 1 xw_52_0 (xAllZ (by decide +kernel))))⟩
def xc_53 : xCt := (([kc172, kc60, kc61, kc13, kc20, kc31, kc14, kc21, kc22, kc23, kc15, kc4, kc5, kc63, kc14, kc14, kc16, kc0, kc28, kc23, kc23, kc14, kc23, kc179, kc182], [(0, 5), kA3, kA3, kA3, kA3, kA3, kA3, (0, 6), (0, 30), kA3, (0, 24), kA3, kA3, kA3, (8, 9)], [], [kR 0, kR 23, kI 0], 0), [([kc169, kc60, kc61, kc13, kc20, kc31, kc14, kc21, kc22, kc23, kc15, kc4, kc5, kc170, kc14, kc14, kc16, kc0, kc28, kc23, kc23, kc14, kc23, kc179, kc182], [(0, 5), kA3, kA3, kA3, kA3, kA3, kA3, (0, 6), (0, 30), kA3, (0, 24), kA3, kA3, kA3, (8, 9), kA3, kA3, kA3, kA3, kA3, kA3], [], [], 0)], 4)
def xu_53 : List xCu := [(42, [0, 1, 2, 3], ([kc173, kc60, kc61, kc13, kc20, kc31, kc14, kc21, kc22, kc23, kc15, kc4, kc5, kc174, kc14, kc14, kc16, kc0, kc28, kc23, kc23, kc14, kc23, kc179, kc182], [(0, 5), kA3, kA3, kA3, kA3, kA3, kA3, (0, 6), (0, 30), kA3, (0, 24), kA3, kA3, kA3, (8, 9), (0, 100), kA3, kA3, kA3, kA3, kA3, kA3], [], [kR 0, kR 23, kI 0, kI 15], 0), ([(15, (-1))], 100))]
def xT_53 : List (Nat × xCt) := [(61, xc_7), (64, xc_13), (88, xc_40), (87, xc_52)]
theorem xv_53 : xVer0 xT_53 xHt 100000 86 xm_X7_weigh xc_53 xu_53 = true := by
  rw [← zVer0_eq]
  decide +kernel
theorem xw_53_0 : ((xu_53.drop 0).take 1).all (xVerC xT_53 xHt 100000 86 xm_X7_weigh xc_53 xu_53) = true := by
  rw [← zVerC_eq]
  decide +kernel
theorem xok_53 (l : Launch) : xCk l 86 xc_53 := ⟨xm_X7_weigh, rfl, xVer_ok xk_all (xHt_ok l) (T := xT_53) (xTc (xok_7 l) (xTc (xok_13 l) (xTc (xok_40 l) (xTc (xok_52 l) (xTn l))))) rfl (f := 100000) (cuts := xu_53) xv_53 (xAll0 (xAllS 0 1 xw_53_0 (xAllZ (by decide +kernel))))⟩
def kc183 : xC := kLr 60 [(10, kB 0 23), (50, kB6)]
def xc_54 : xCt := (([kc175, kc176, kc23, kc177, kc183], [(0, 5), kA3, kA3, kA3, kA3, kA3, kA3, kA3, kA3, (10, 11)], [], [kR 0, kR 3, kI 0], 9), [([kc175, kc176, kc23, kc177, kc183], [(0, 5), kA3, kA3, kA3, kA3, kA3, kA3, kA3, kA3, (10, 11), (0, 1)], [], [kI 10], 9)], 1)
def xu_54 : List xCu := [(2, [0, 1, 2, 3], ([kc175, kc176, kc23, kc177, kc183], [(0, 5), kA3, kA3, kA3, kA3, kA3, kA3, kA3, kA3, (10, 11), (0, 11)], [], [kR 0, kR 3, kI 0, kI 10], 9), ([(10, (-1))], 11))]
def xT_54 : List (Nat × xCt) := []
theorem xv_54 : xVer0 xT_54 xHt 100000 87 xm_X7_agreesByPairs xc_54 xu_54 = true := by
  rw [← zVer0_eq]
  decide +kernel
theorem xw_54_0 : ((xu_54.drop 0).take 1).all (xVerC xT_54 xHt 100000 87 xm_X7_agreesByPairs xc_54 xu_54) = true := by
  rw [← zVerC_eq]
  decide +kernel
theorem xok_54 (l : Launch) : xCk l 87 xc_54 := ⟨xm_X7_agreesByPairs, rfl, xVer_ok xk_all (xHt_ok l) (T := xT_54) (xTn l) rfl (f := 100000) (cuts := xu_54) xv_54 (xAll0 (xAllS 0 1 xw_54_0 (xAllZ (by decide +kernel))))⟩
def xc_55 : xCt := (([kc172, kc60, kc61, kc13, kc20, kc31, kc14, kc21, kc22, kc23, kc15, kc4, kc5, kc63, kc14, kc14, kc16, kc0, kc28, kc23, kc23, kc14, kc23, kc179, kc183], [(0, 5), kA3, kA3, kA3, kA3, kA3, kA3, (0, 6), (0, 30), kA3, (0, 24), kA3, kA3, kA3, (10, 11)], [], [kR 0, kR 23, kI 0], 0), [([kc169, kc60, kc61, kc13, kc20, kc31, kc14, kc21, kc22, kc23, kc15, kc4, kc5, kc170, kc14, kc14, kc16, kc0, kc28, kc23, kc23, kc14, kc23, kc179, kc183], [(0, 5), kA3, kA3, kA3, kA3, kA3, kA3, (0, 6), (0, 30), kA3, (0, 24), kA3, kA3, kA3, (10, 11), kA3, kA3, kA3, kA3, kA3, kA3], [], [], 0)], 4)
def xu_55 : List xCu := [(42, [0, 1, 2, 3], ([kc173, kc60, kc61, kc13, kc20, kc31, kc14, kc21, kc22, kc23, kc15, kc4, kc5, kc174, kc14, kc14, kc16, kc0, kc28, kc23, kc23, kc14, kc23, kc179, kc183], [(0, 5), kA3, kA3, kA3, kA3, kA3, kA3, (0, 6), (0, 30), kA3, (0, 24), kA3, kA3, kA3, (10, 11), (0, 100), kA3, kA3, kA3, kA3, kA3, kA3], [], [kR 0, kR 23, kI 0, kI 15], 0), ([(15, (-1))], 100))]
def xT_55 : List (Nat × xCt) := [(61, xc_7), (64, xc_13), (88, xc_40), (87, xc_54)]
theorem xv_55 : xVer0 xT_55 xHt 100000 86 xm_X7_weigh xc_55 xu_55 = true := by
  rw [← zVer0_eq]
  decide +kernel
theorem xw_55_0 : ((xu_55.drop 0).take 1).all (xVerC xT_55 xHt 100000 86 xm_X7_weigh xc_55 xu_55) = true := by
  rw [← zVerC_eq]
  decide +kernel
theorem xok_55 (l : Launch) : xCk l 86 xc_55 := ⟨xm_X7_weigh, rfl, xVer_ok xk_all (xHt_ok l) (T := xT_55) (xTc (xok_7 l) (xTc (xok_13 l) (xTc (xok_40 l) (xTc (xok_54 l) (xTn l))))) rfl (f := 100000) (cuts := xu_55) xv_55 (xAll0 (xAllS 0 1 xw_55_0 (xAllZ (by decide +kernel))))⟩
def kc184 : xC := kLr 60 [(12, kB 0 23), (48, kB6)]
def xc_56 : xCt := (([kc175, kc176, kc23, kc177, kc184], [(0, 5), kA3, kA3, kA3, kA3, kA3, kA3, kA3, kA3, (12, 13)], [], [kR 0, kR 3, kI 0], 9), [([kc175, kc176, kc23, kc177, kc184], [(0, 5), kA3, kA3, kA3, kA3, kA3, kA3, kA3, kA3, (12, 13), (0, 1)], [], [kI 10], 9)], 1)
def xu_56 : List xCu := [(2, [0, 1, 2, 3], ([kc175, kc176, kc23, kc177, kc184], [(0, 5), kA3, kA3, kA3, kA3, kA3, kA3, kA3, kA3, (12, 13), (0, 13)], [], [kR 0, kR 3, kI 0, kI 10], 9), ([(10, (-1))], 13))]
def xT_56 : List (Nat × xCt) := []
theorem xv_56 : xVer0 xT_56 xHt 100000 87 xm_X7_agreesByPairs xc_56 xu_56 = true := by
  rw [← zVer0_eq]
  decide +kernel
theorem xw_56_0 : ((xu_56.drop 0).take 1).all (xVerC xT_56 xHt 100000 87 xm_X7_agreesByPairs xc_56 xu_56) = true := by
  rw [← zVerC_eq]
  decide +kernel
theorem xok_56 (l : Launch) : xCk l 87 xc_56 := ⟨xm_X7_agreesByPairs, rfl, xVer_ok xk_all (xHt_ok l) (T := xT_56) (xTn l) rfl (f := 100000) (cuts := xu_56) xv_56 (xAll0 (xAllS 0 1 xw_56_0 (xAllZ (by decide +kernel))))⟩
def xc_57 : xCt := (([kc172, kc60, kc61, kc13, kc20, kc31, kc14, kc21, kc22, kc23, kc15, kc4, kc5, kc63, kc14, kc14, kc16, kc0, kc28, kc23, kc23, kc14, kc23, kc179, kc184], [(0, 5), kA3, kA3, kA3, kA3, kA3, kA3, (0, 6), (0, 30), kA3, (0, 24), kA3, kA3, kA3, (12, 13)], [], [kR 0, kR 23, kI 0], 0), [([kc169, kc60, kc61, kc13, kc20, kc31, kc14, kc21, kc22, kc23, kc15, kc4, kc5, kc170, kc14, kc14, kc16, kc0, kc28, kc23, kc23, kc14, kc23, kc179, kc184], [(0, 5), kA3, kA3, kA3, kA3, kA3, kA3, (0, 6), (0, 30), kA3, (0, 24), kA3, kA3, kA3, (12, 13), kA3, kA3, kA3, kA3, kA3, kA3], [], [], 0)], 4)
def xu_57 : List xCu := [(42, [0, 1, 2, 3], ([kc173, kc60, kc61, kc13, kc20, kc31, kc14, kc21, kc22, kc23, kc15, kc4, kc5, kc174, kc14, kc14, kc16, kc0, kc28, kc23, kc23, kc14, kc23, kc179, kc184], [(0, 5), kA3, kA3, kA3, kA3, kA3, kA3, (0, 6), (0, 30), kA3, (0, 24), kA3, kA3, kA3, (12, 13), (0, 100), kA3, kA3, kA3, kA3, kA3, kA3], [], [kR 0, kR 23, kI 0, kI 15], 0), ([(15, (-1))], 100))]
def xT_57 : List (Nat × xCt) := [(61, xc_7), (64, xc_13), (88, xc_40), (87, xc_56)]
theorem xv_57 : xVer0 xT_57 xHt 100000 86 xm_X7_weigh xc_57 xu_57 = true := by
  rw [← zVer0_eq]
  decide +kernel
theorem xw_57_0 : ((xu_57.drop 0).take 1).all (xVerC xT_57 xHt 100000 86 xm_X7_weigh xc_57 xu_57) = true := by
  rw [← zVerC_eq]
  decide +kernel
theorem xok_57 (l : Launch) : xCk l 86 xc_57 := ⟨xm_X7_weigh, rfl, xVer_ok xk_all (xHt_ok l) (T := xT_57) (xTc (xok_7 l) (xTc (xok_13 l) (xTc (xok_40 l) (xTc (xok_56 l) (xTn l))))) rfl (f := 100000) (cuts := xu_57) xv_57 (xAll0 (xAllS 0 1 xw_57_0 (xAllZ (by decide +kernel))))⟩
def kc185 : xC := kLr 60 [(14, kB 0 23), (46, kB6)]
def xc_58 : xCt := (([kc175, kc176, kc23, kc177, kc185], [(0, 5), kA3, kA3, kA3, kA3, kA3, kA3, kA3, kA3, (14, 15)], [], [kR 0, kR 3, kI 0], 9), [([kc175, kc176, kc23, kc177, kc185], [(0, 5), kA3, kA3, kA3, kA3, kA3, kA3, kA3, kA3, (14, 15), (0, 1)], [], [kI 10], 9)], 1)
def xu_58 : List xCu := [(2, [0, 1, 2, 3], ([kc175, kc176, kc23, kc177, kc185], [(0, 5), kA3, kA3, kA3, kA3, kA3, kA3, kA3, kA3, (14, 15), (0, 15)], [], [kR 0, kR 3, kI 0, kI 10], 9), ([(10, (-1))], 15))]
def xT_58 : List (Nat × xCt) := []
theorem xv_58 : xVer0 xT_58 xHt 100000 87 xm_X7_agreesByPairs xc_58 xu_58 = true := by
  rw [← zVer0_eq]
  decide +kernel
theorem xw_58_0 : ((xu_58.drop 0).take 1).all (xVerC xT_58 xHt 100000 87 xm_X7_agreesByPairs xc_58 xu_58) = true := by
  rw [← zVerC_eq]
  decide +kernel
theorem xok_58 (l : Launch) : xCk l 87 xc_58 := ⟨xm_X7_agreesByPairs, rfl, xVer_ok xk_all (xHt_ok l) (T := xT_58) (xTn l) rfl (f := 100000) (cuts := xu_58) xv_58 (xAll0 (xAllS 0 1 xw_58_0 (xAllZ (by decide +kernel))))⟩
def xc_59 : xCt := (([kc172, kc60, kc61, kc13, kc20, kc31, kc14, kc21, kc22, kc23, kc15, kc4, kc5, kc63, kc14, kc14, kc16, kc0, kc28, kc23, kc23, kc14, kc23, kc179, kc185], [(0, 5), kA3, kA3, kA3, kA3, kA3, kA3, (0, 6), (0, 30), kA3, (0, 24), kA3, kA3, kA3, (14, 15)], [], [kR 0, kR 23, kI 0], 0), [([kc169, kc60, kc61, kc13, kc20, kc31, kc14, kc21, kc22, kc23, kc15, kc4, kc5, kc170, kc14, kc14, kc16, kc0, kc28, kc23, kc23, kc14, kc23, kc179, kc185], [(0, 5), kA3, kA3, kA3, kA3, kA3, kA3, (0, 6), (0, 30), kA3, (0, 24), kA3, kA3, kA3, (14, 15), kA3, kA3, kA3, kA3, kA3, kA3], [], [], 0)], 4)
def xu_59 : List xCu := [(42, [0, 1, 2, 3], ([kc173, kc60, kc61, kc13, kc20, kc31, kc14, kc21, kc22, kc23, kc15, kc4, kc5, kc174, kc14, kc14, kc16, kc0, kc28, kc23, kc23, kc14, kc23, kc179, kc185], [(0, 5), kA3, kA3, kA3, kA3, kA3, kA3, (0, 6), (0, 30), kA3, (0, 24), kA3, kA3, kA3, (14, 15), (0, 100), kA3, kA3, kA3, kA3, kA3, kA3], [], [kR 0, kR 23, kI 0, kI 15], 0), ([(15, (-1))], 100))]
def xT_59 : List (Nat × xCt) := [(61, xc_7), (64, xc_13), (88, xc_40), (87, xc_58)]
theorem xv_59 : xVer0 xT_59 xHt 100000 86 xm_X7_weigh xc_59 xu_59 = true := by
  rw [← zVer0_eq]
  decide +kernel
theorem xw_59_0 : ((xu_59.drop 0).take 1).all (xVerC xT_59 xHt 100000 86 xm_X7_weigh xc_59 xu_59) = true := by
  rw [← zVerC_eq]
  decide +kernel
theorem xok_59 (l : Launch) : xCk l 86 xc_59 := ⟨xm_X7_weigh, rfl, xVer_ok xk_all (xHt_ok l) (T := xT_59) (xTc (xok_7 l) (xTc (xok_13 l) (xTc (xok_40 l) (xTc (xok_58 l) (xTn l))))) rfl (f := 100000) (cuts := xu_59) xv_59 (xAll0 (xAllS 0 1 xw_59_0 (xAllZ (by decide +kernel))))⟩
def kc186 : xC := kLr 60 [(16, kB 0 23), (44, kB6)]
def xc_60 : xCt := (([kc175, kc176, kc23, kc177, kc186], [(0, 5), kA3, kA3, kA3, kA3, kA3, kA3, kA3, kA3, (16, 17)], [], [kR 0, kR 3, kI 0], 9), [([kc175, kc176, kc23, kc177, kc186], [(0, 5), kA3, kA3, kA3, kA3, kA3, kA3, kA3, kA3, (16, 17), (0, 1)], [], [kI 10], 9)], 1)
def xu_60 : List xCu := [(2, [0, 1, 2, 3], ([kc175, kc176, kc23, kc177, kc186], [(0, 5), kA3, kA3, kA3, kA3, kA3, kA3, kA3, kA3, (16, 17), (0, 17)], [], [kR 0, kR 3, kI 0, kI 10], 9), ([(10, (-1))], 17))]
def xT_60 : List (Nat × xCt) := []
theorem xv_60 : xVer0 xT_60 xHt 100000 87 xm_X7_agreesByPairs xc_60 xu_60 = true := by
  rw [← zVer0_eq]
  decide +kernel
theorem xw_60_0 : ((xu_60.drop 0).take 1).all (xVerC xT_60 xHt 100000 87 xm_X7_agreesByPairs xc_60 xu_60) = true := by
  rw [← zVerC_eq]
  decide +kernel
theorem xok_60 (l : Launch) : xCk l 87 xc_60 := ⟨xm_X7_agreesByPairs, rfl, xVer_ok xk_all (xHt_ok l) (T := xT_60) (xTn l) rfl (f := 100000) (cuts := xu_60) xv_60 (xAll0 (xAllS 0 1 xw_60_0 (xAllZ (by decide +kernel))))⟩
def xc_61 : xCt := (([kc172, kc60, kc61, kc13, kc20, kc31, kc14, kc21, kc22, kc23, kc15, kc4, kc5, kc63, kc14, kc14, kc16, kc0, kc28, kc23, kc23, kc14, kc23, kc179, kc186], [(0, 5), kA3, kA3, kA3, kA3, kA3, kA3, (0, 6), (0, 30), kA3, (0, 24), kA3, kA3, kA3, (16, 17)], [], [kR 0, kR 23, kI 0], 0), [([kc169, kc60, kc61, kc13, kc20, kc31, kc14, kc21, kc22, kc23, kc15, kc4, kc5, kc170, kc14, kc14, kc16, kc0, kc28, kc23, kc23, kc14, kc23, kc179, kc186], [(0, 5), kA3, kA3, kA3, kA3, kA3, kA3, (0, 6), (0, 30), kA3, (0, 24), kA3, kA3, kA3, (16, 17), kA3, kA3, kA3, kA3, kA3, kA3], [], [], 0)], 4)
def xu_61 : List xCu := [(42, [0, 1, 2, 3], ([kc173, kc60, kc61, kc13, kc20, kc31, kc14, kc21, kc22, kc23, kc15, kc4, kc5, kc174, kc14, kc14, kc16, kc0, kc28, kc23, kc23, kc14, kc23, kc179, kc186], [(0, 5), kA3, kA3, kA3, kA3, kA3, kA3, (0, 6), (0, 30), kA3, (0, 24), kA3, kA3, kA3, (16, 17), (0, 100), kA3, kA3, kA3, kA3, kA3, kA3], [], [kR 0, kR 23, kI 0, kI 15], 0), ([(15, (-1))], 100))]
def xT_61 : List (Nat × xCt) := [(61, xc_7), (64, xc_13), (88, xc_40), (87, xc_60)]
theorem xv_61 : xVer0 xT_61 xHt 100000 86 xm_X7_weigh xc_61 xu_61 = true := by
  rw [← zVer0_eq]
  decide +kernel
theorem xw_61_0 : ((xu_61.drop 0).take 1).all (xVerC xT_61 xHt 100000 86 xm_X7_weigh xc_61 xu_61) = true := by
  rw [← zVerC_eq]
  decide +kernel
theorem xok_61 (l : Launch) : xCk l 86 xc_61 := ⟨xm_X7_weigh, rfl, xVer_ok xk_all (xHt_ok l) (T := xT_61) (xTc (xok_7 l) (xTc (xok_13 l) (xTc (xok_40 l) (xTc (xok_60 l) (xTn l))))) rfl (f := 100000) (cuts := xu_61) xv_61 (xAll0 (xAllS 0 1 xw_61_0 (xAllZ (by decide +kernel))))⟩
def kc187 : xC := kLr 60 [(18, kB 0 23), (42, kB6)]
def xc_62 : xCt := (([kc175, kc176, kc23, kc177, kc187], [(0, 5), kA3, kA3, kA3, kA3, kA3, kA3, kA3, kA3, (18, 19)], [], [kR 0, kR 3, kI 0], 9), [([kc175, kc176, kc23, kc177, kc187], [(0, 5), kA3, kA3, kA3, kA3, kA3, kA3, kA3, kA3, (18, 19), (0, 1)], [], [kI 10], 9)], 1)
def xu_62 : List xCu := [(2, [0, 1, 2, 3], ([kc175, kc176, kc23, kc177, kc187], [(0, 5), kA3, kA3, kA3, kA3, kA3, kA3, kA3, kA3, (18, 19), (0, 19)], [], [kR 0, kR 3, kI 0, kI 10], 9), ([(10, (-1))], 19))]
def xT_62 : List (Nat × xCt) := []
theorem xv_62 : xVer0 xT_62 xHt 100000 87 xm_X7_agreesByPairs xc_62 xu_62 = true := by
  rw [← zVer0_eq]
  decide +kernel
theorem xw_62_0 : ((xu_62.drop 0).take 1).all (xVerC xT_62 xHt 100000 87 xm_X7_agreesByPairs xc_62 xu_62) = true := by
  rw [← zVerC_eq]
  decide +kernel
theorem xok_62 (l : Launch) : xCk l 87 xc_62 := ⟨xm_X7_agreesByPairs, rfl, xVer_ok xk_all (xHt_ok l) (T := xT_62) (xTn l) rfl (f := 100000) (cuts := xu_62) xv_62 (xAll0 (xAllS 0 1 xw_62_0 (xAllZ (by decide +kernel))))⟩
def xc_63 : xCt := (([kc172, kc60, kc61, kc13, kc20, kc31, kc14, kc21, kc22, kc23, kc15, kc4, kc5, kc63, kc14, kc14, kc16, kc0, kc28, kc23, kc23, kc14, kc23, kc179, kc187], [(0, 5), kA3, kA3, kA3, kA3, kA3, kA3, (0, 6), (0, 30), kA3, (0, 24), kA3, kA3, kA3, (18, 19)], [], [kR 0, kR 23, kI 0], 0), [([kc169, kc60, kc61, kc13, kc20, kc31, kc14, kc21, kc22, kc23, kc15, kc4, kc5, kc170, kc14, kc14, kc16, kc0, kc28, kc23, kc23, kc14, kc23, kc179, kc187], [(0, 5), kA3, kA3, kA3, kA3, kA3, kA3, (0, 6), (0, 30), kA3, (0, 24), kA3, kA3, kA3, (18, 19), kA3, kA3, kA3, kA3, kA3, kA3], [], [], 0)], 4)
def xu_63 : List xCu := [(42, [0, 1, 2, 3], ([kc173, kc60, kc61, kc13, kc20, kc31, kc14, kc21, kc22, kc23, kc15, kc4, kc5, kc174, kc14, kc14, kc16, kc0, kc28, kc23, kc23, kc14, kc23, kc179, kc187], [(0, 5), kA3, kA3, kA3, kA3, kA3, kA3, (0, 6), (0, 30), kA3, (0, 24), kA3, kA3, kA3, (18, 19), (0, 100), kA3, kA3, kA3, kA3, kA3, kA3], [], [kR 0, kR 23, kI 0, kI 15], 0), ([(15, (-1))], 100))]
def xT_63 : List (Nat × xCt) := [(61, xc_7), (64, xc_13), (88, xc_40), (87, xc_62)]
theorem xv_63 : xVer0 xT_63 xHt 100000 86 xm_X7_weigh xc_63 xu_63 = true := by
  rw [← zVer0_eq]
  decide +kernel
theorem xw_63_0 : ((xu_63.drop 0).take 1).all (xVerC xT_63 xHt 100000 86 xm_X7_weigh xc_63 xu_63) = true := by
  rw [← zVerC_eq]
  decide +kernel
theorem xok_63 (l : Launch) : xCk l 86 xc_63 := ⟨xm_X7_weigh, rfl, xVer_ok xk_all (xHt_ok l) (T := xT_63) (xTc (xok_7 l) (xTc (xok_13 l) (xTc (xok_40 l) (xTc (xok_62 l) (xTn l))))) rfl (f := 100000) (cuts := xu_63) xv_63 (xAll0 (xAllS 0 1 xw_63_0 (xAllZ (by decide +kernel))))⟩
def kc188 : xC := kLr 60 [(20, kB 0 23), (40, kB6)]
def xc_64 : xCt := (([kc175, kc176, kc23, kc177, kc188], [(0, 5), kA3, kA3, kA3, kA3, kA3, kA3, kA3, kA3, (20, 21)], [], [kR 0, kR 3, kI 0], 9), [([kc175, kc176, kc23, kc177, kc188], [(0, 5), kA3, kA3, kA3, kA3, kA3, kA3, kA3, kA3, (20, 21), (0, 1)], [], [kI 10], 9)], 1)
def xu_64 : List xCu := [(2, [0, 1, 2, 3], ([kc175, kc176, kc23, kc177, kc188], [(0, 5), kA3, kA3, kA3, kA3, kA3, kA3, kA3, kA3, (20, 21), (0, 21)], [], [kR 0, kR 3, kI 0, kI 10], 9), ([(10, (-1))], 21))]
def xT_64 : List (Nat × xCt) := []
theorem xv_64 : xVer0 xT_64 xHt 100000 87 xm_X7_agreesByPairs xc_64 xu_64 = true := by
  rw [← zVer0_eq]
  decide +kernel
theorem xw_64_0 : ((xu_64.drop 0).take 1).all (xVerC xT_64 xHt 100000 87 xm_X7_agreesByPairs xc_64 xu_64) = true := by
  rw [← zVerC_eq]
  decide +kernel
theorem xok_64 (l : Launch) : xCk l 87 xc_64 := ⟨xm_X7_agreesByPairs, rfl, xVer_ok xk_all (xHt_ok l) (T := xT_64) (xTn l) rfl (f := 100000) (cuts := xu_64) xv_64 (xAll0 (xAllS 0 1 xw_64_0 (xAllZ (by decide +kernel))))⟩
def xc_65 : xCt := (([kc172, kc60, kc61, kc13, kc20, kc31, kc14, kc21, kc22, kc23, kc15, kc4, kc5, kc63, kc14, kc14, kc16, kc0, kc28, kc23, kc23, kc14, kc23, kc179, kc188], [(0, 5), kA3, kA3, kA3, kA3, kA3, kA3, (0, 6), (0, 30), kA3, (0, 24), kA3, kA3, kA3, (20, 21)], [], [kR 0, kR 23, kI 0], 0), [([kc169, kc60, kc61, kc13, kc20, kc31, kc14, kc21, kc22, kc23, kc15, kc4, kc5, kc170, kc14, kc14, kc16, kc0, kc28, kc23, kc23, kc14, kc23, kc179, kc188], [(0, 5), kA3, kA3, kA3, kA3, kA3, kA3, (0, 6), (0, 30), kA3, (0, 24), kA3, kA3, kA3, (20, 21), kA3, kA3, kA3, kA3, kA3, kA3], [], [], 0)], 4)
def xu_65 : List xCu := [(42, [0, 1, 2, 3], ([kc173, kc60, kc61, kc13, kc20, kc31, kc14, kc21, kc22, kc23, kc15, kc4, kc5, kc174, kc14, kc14, kc16, kc0, kc28, kc23, kc23, kc14, kc23, kc179, kc188], [(0, 5), kA3, kA3, kA3, kA3, kA3, kA3, (0, 6), (0, 30), kA3, (0, 24), kA3, kA3, kA3, (20, 21), (0, 100), kA3, kA3, kA3, kA3, kA3, kA3], [], [kR 0, kR 23, kI 0, kI 15], 0), ([(15, (-1))], 100))]
def xT_65 : List (Nat × xCt) := [(61, xc_7), (64, xc_13), (88, xc_40), (87, xc_64)]
theorem xv_65 : xVer0 xT_65 xHt 100000 86 xm_X7_weigh xc_65 xu_65 = true := by
  rw [← zVer0_eq]
  decide +kernel
theorem xw_65_0 : ((xu_65.drop 0).take 1).all (xVerC xT_65 xHt 100000 86 xm_X7_weigh xc_65 xu_65) = true := by
  rw [← zVerC_eq]
  decide +kernel
theorem xok_65 (l : Launch) : xCk l 86 xc_65 := ⟨xm_X7_weigh, rfl, xVer_ok xk_all (xHt_ok l) (T := xT_65) (xTc (xok_7 l) (xTc (xok_13 l) (xTc (xok_40 l) (xTc (xok_64 l) (xTn l))))) rfl (f := 100000) (cuts := xu_65) xv_65 (xAll0 (xAllS 0 1 xw_65_0 (xAllZ (by decide +kernel))))⟩
