/-! Contracts, printed by a program: part 6. -/
def xc_135 : xCt := (([kc211, kc53, kc48, kc13, kc20, kc31, kc14, kc21, kc22, kc23, kc15, kc4, kc5, kc56, kc14, kc14, kc16, kc0, kc28, kc23, kc23, kc14, kc216, kc158], [kA3, kA3, kA3, kA3, kA3, kA3, (0, 6), (0, 30), kA3, (0, 24), kA3, kA3, kA3, (42, 44)], [], [kR 0, kR 22], 1), [([kc211, kc53, kc48, kc13, kc20, kc31, kc14, kc21, kc22, kc23, kc15, kc4, kc5, kc64, kc14, kc14, kc16, kc0, kc28, kc23, kc23, kc14, kc216, kc158], [kA3, kA3, kA3, kA3, kA3, kA3, (0, 6), (0, 30), kA3, (0, 24), kA3, kA3, kA3, (42, 44), kA3, kA3], [], [kI 14], 1)], 4)
def xu_135 : List xCu := [(11, [0, 1, 2, 3], ([kc211, kc53, kc48, kc13, kc20, kc31, kc14, kc21, kc22, kc23, kc15, kc4, kc5, kc58, kc14, kc14, kc16, kc0, kc28, kc23, kc23, kc14, kc216, kc158], [kA3, kA3, kA3, kA3, kA3, kA3, (0, 6), (0, 30), kA3, (0, 24), kA3, kA3, kA3, (42, 44), kA3, (0, 4), kA3], [], [kR 0, kR 22, kI 14, kI 15], 1), ([(15, (-1))], 4))]
def xT_135 : List (Nat × xCt) := [(61, xc_7), (64, xc_13), (91, xc_134)]
theorem xv_135 : xVer0 xT_135 xHt 100000 90 xm_X7_lawsOf xc_135 xu_135 = true := by
  rw [← zVer0_eq]
  decide +kernel
theorem xw_135_0 : ((xu_135.drop 0).take 1).all (xVerC xT_135 xHt 100000 90 xm_X7_lawsOf xc_135 xu_135) = true := by
  rw [← zVerC_eq]
  decide +kernel
theorem xok_135 (l : Launch) : xCk l 90 xc_135 := ⟨xm_X7_lawsOf, rfl, xVer_ok xk_all (xHt_ok l) (T := xT_135) (xTc (xok_7 l) (xTc (xok_13 l) (xTc (xok_134 l) (xTn l)))) rfl (f := 100000) (cuts := xu_135) xv_135 (xAll0 (xAllS 0 1 xw_135_0 (xAllZ (by decide +kernel))))⟩
def xc_136 : xCt := (([kc213, kc214, kc28, kc215, kc159], [kA3, kA3, kA3, kA3, kA3, kA3, kA3, kA3, (45, 47)], [], [kR 0, kR 3], 9), [([kc213, kc214, kc28, kc215, kc159], [kA3, kA3, kA3, kA3, kA3, kA3, kA3, kA3, (45, 47), (0, 1)], [], [kI 9], 9)], 1)
def xu_136 : List xCu := []
def xT_136 : List (Nat × xCt) := []
theorem xv_136 : xVer0 xT_136 xHt 100000 91 xm_X7_agreesByTriples xc_136 xu_136 = true := by
  rw [← zVer0_eq]
  decide +kernel
theorem xok_136 (l : Launch) : xCk l 91 xc_136 := ⟨xm_X7_agreesByTriples, rfl, xVer_ok xk_all (xHt_ok l) (T := xT_136) (xTn l) rfl (f := 100000) (cuts := xu_136) xv_136 (fun Cu h => absurd h List.not_mem_nil)⟩
def xc_137 : xCt := (([kc211, kc53, kc48, kc13, kc20, kc31, kc14, kc21, kc22, kc23, kc15, kc4, kc5, kc56, kc14, kc14, kc16, kc0, kc28, kc23, kc23, kc14, kc216, kc159], [kA3, kA3, kA3, kA3, kA3, kA3, (0, 6), (0, 30), kA3, (0, 24), kA3, kA3, kA3, (45, 47)], [], [kR 0, kR 22], 1), [([kc211, kc53, kc48, kc13, kc20, kc31, kc14, kc21, kc22, kc23, kc15, kc4, kc5, kc64, kc14, kc14, kc16, kc0, kc28, kc23, kc23, kc14, kc216, kc159], [kA3, kA3, kA3, kA3, kA3, kA3, (0, 6), (0, 30), kA3, (0, 24), kA3, kA3, kA3, (45, 47), kA3, kA3], [], [kI 14], 1)], 4)
def xu_137 : List xCu := [(11, [0, 1, 2, 3], ([kc211, kc53, kc48, kc13, kc20, kc31, kc14, kc21, kc22, kc23, kc15, kc4, kc5, kc58, kc14, kc14, kc16, kc0, kc28, kc23, kc23, kc14, kc216, kc159], [kA3, kA3, kA3, kA3, kA3, kA3, (0, 6), (0, 30), kA3, (0, 24), kA3, kA3, kA3, (45, 47), kA3, (0, 4), kA3], [], [kR 0, kR 22, kI 14, kI 15], 1), ([(15, (-1))], 4))]
def xT_137 : List (Nat × xCt) := [(61, xc_7), (64, xc_13), (91, xc_136)]
theorem xv_137 : xVer0 xT_137 xHt 100000 90 xm_X7_lawsOf xc_137 xu_137 = true := by
  rw [← zVer0_eq]
  decide +kernel
theorem xw_137_0 : ((xu_137.drop 0).take 1).all (xVerC xT_137 xHt 100000 90 xm_X7_lawsOf xc_137 xu_137) = true := by
  rw [← zVerC_eq]
  decide +kernel
theorem xok_137 (l : Launch) : xCk l 90 xc_137 := ⟨xm_X7_lawsOf, rfl, xVer_ok xk_all (xHt_ok l) (T := xT_137) (xTc (xok_7 l) (xTc (xok_13 l) (xTc (xok_136 l) (xTn l)))) rfl (f := 100000) (cuts := xu_137) xv_137 (xAll0 (xAllS 0 1 xw_137_0 (xAllZ (by decide +kernel))))⟩
def xc_138 : xCt := (([kc213, kc214, kc28, kc215, kc160], [kA3, kA3, kA3, kA3, kA3, kA3, kA3, kA3, (48, 50)], [], [kR 0, kR 3], 9), [([kc213, kc214, kc28, kc215, kc160], [kA3, kA3, kA3, kA3, kA3, kA3, kA3, kA3, (48, 50), (0, 1)], [], [kI 9], 9)], 1)
def xu_138 : List xCu := []
def xT_138 : List (Nat × xCt) := []
theorem xv_138 : xVer0 xT_138 xHt 100000 91 xm_X7_agreesByTriples xc_138 xu_138 = true := by
  rw [← zVer0_eq]
  decide +kernel
theorem xok_138 (l : Launch) : xCk l 91 xc_138 := ⟨xm_X7_agreesByTriples, rfl, xVer_ok xk_all (xHt_ok l) (T := xT_138) (xTn l) rfl (f := 100000) (cuts := xu_138) xv_138 (fun Cu h => absurd h List.not_mem_nil)⟩
def xc_139 : xCt := (([kc211, kc53, kc48, kc13, kc20, kc31, kc14, kc21, kc22, kc23, kc15, kc4, kc5, kc56, kc14, kc14, kc16, kc0, kc28, kc23, kc23, kc14, kc216, kc160], [kA3, kA3, kA3, kA3, kA3, kA3, (0, 6), (0, 30), kA3, (0, 24), kA3, kA3, kA3, (48, 50)], [], [kR 0, kR 22], 1), [([kc211, kc53, kc48, kc13, kc20, kc31, kc14, kc21, kc22, kc23, kc15, kc4, kc5, kc64, kc14, kc14, kc16, kc0, kc28, kc23, kc23, kc14, kc216, kc160], [kA3, kA3, kA3, kA3, kA3, kA3, (0, 6), (0, 30), kA3, (0, 24), kA3, kA3, kA3, (48, 50), kA3, kA3], [], [kI 14], 1)], 4)
def xu_139 : List xCu := [(11, [0, 1, 2, 3], ([kc211, kc53, kc48, kc13, kc20, kc31, kc14, kc21, kc22, kc23, kc15, kc4, kc5, kc58, kc14, kc14, kc16, kc0, kc28, kc23, kc23, kc14, kc216, kc160], [kA3, kA3, kA3, kA3, kA3, kA3, (0, 6), (0, 30), kA3, (0, 24), kA3, kA3, kA3, (48, 50), kA3, (0, 4), kA3], [], [kR 0, kR 22, kI 14, kI 15], 1), ([(15, (-1))], 4))]
def xT_139 : List (Nat × xCt) := [(61, xc_7), (64, xc_13), (91, xc_138)]
theorem xv_139 : xVer0 xT_139 xHt 100000 90 xm_X7_lawsOf xc_139 xu_139 = true := by
  rw [← zVer0_eq]
  decide +kernel
theorem xw_139_0 : ((xu_139.drop 0).take 1).all (xVerC xT_139 xHt 100000 90 xm_X7_lawsOf xc_139 xu_139) = true := by
  rw [← zVerC_eq]
  decide +kernel
theorem xok_139 (l : Launch) : xCk l 90 xc_139 := ⟨xm_X7_lawsOf, rfl, xVer_ok xk_all (xHt_ok l) (T := xT_139) (xTc (xok_7 l) (xTc (xok_13 l) (xTc (xok_138 l) (xTn l)))) rfl (f := 100000) (cuts := xu_139) xv_139 (xAll0 (xAllS 0 1 xw_139_0 (xAllZ (by decide +kernel))))⟩
def xc_140 : xCt := (([kc213, kc214, kc28, kc215, kc161], [kA3, kA3, kA3, kA3, kA3, kA3, kA3, kA3, (51, 53)], [], [kR 0, kR 3], 9), [([kc213, kc214, kc28, kc215, kc161], [kA3, kA3, kA3, kA3, kA3, kA3, kA3, kA3, (51, 53), (0, 1)], [], [kI 9], 9)], 1)
def xu_140 : List xCu := []
def xT_140 : List (Nat × xCt) := []
theorem xv_140 : xVer0 xT_140 xHt 100000 91 xm_X7_agreesByTriples xc_140 xu_140 = true := by
  rw [← zVer0_eq]
  decide +kernel
theorem xok_140 (l : Launch) : xCk l 91 xc_140 := ⟨xm_X7_agreesByTriples, rfl, xVer_ok xk_all (xHt_ok l) (T := xT_140) (xTn l) rfl (f := 100000) (cuts := xu_140) xv_140 (fun Cu h => absurd h List.not_mem_nil)⟩
def xc_141 : xCt := (([kc211, kc53, kc48, kc13, kc20, kc31, kc14, kc21, kc22, kc23, kc15, kc4, kc5, kc56, kc14, kc14, kc16, kc0, kc28, kc23, kc23, kc14, kc216, kc161], [kA3, kA3, kA3, kA3, kA3, kA3, (0, 6), (0, 30), kA3, (0, 24), kA3, kA3, kA3, (51, 53)], [], [kR 0, kR 22], 1), [([kc211, kc53, kc48, kc13, kc20, kc31, kc14, kc21, kc22, kc23, kc15, kc4, kc5, kc64, kc14, kc14, kc16, kc0, kc28, kc23, kc23, kc14, kc216, kc161], [kA3, kA3, kA3, kA3, kA3, kA3, (0, 6), (0, 30), kA3, (0, 24), kA3, kA3, kA3, (51, 53), kA3, kA3], [], [kI 14], 1)], 4)
def xu_141 : List xCu := [(11, [0, 1, 2, 3], ([kc211, kc53, kc48, kc13, kc20, kc31, kc14, kc21, kc22, kc23, kc15, kc4, kc5, kc58, kc14, kc14, kc16, kc0, kc28, kc23, kc23, kc14, kc216, kc161], [kA3, kA3, kA3, kA3, kA3, kA3, (0, 6), (0, 30), kA3, (0, 24), kA3, kA3, kA3, (51, 53), kA3, (0, 4), kA3], [], [kR 0, kR 22, kI 14, kI 15], 1), ([(15, (-1))], 4))]
def xT_141 : List (Nat × xCt) := [(61, xc_7), (64, xc_13), (91, xc_140)]
theorem xv_141 : xVer0 xT_141 xHt 100000 90 xm_X7_lawsOf xc_141 xu_141 = true := by
  rw [← zVer0_eq]
  decide +kernel
theorem xw_141_0 : ((xu_141.drop 0).take 1).all (xVerC xT_141 xHt 100000 90 xm_X7_lawsOf xc_141 xu_141) = true := by
  rw [← zVerC_eq]
  decide +kernel
theorem xok_141 (l : Launch) : xCk l 90 xc_141 := ⟨xm_X7_lawsOf, rfl, xVer_ok xk_all (xHt_ok l) (T := xT_141) (xTc (xok_7 l) (xTc (xok_13 l) (xTc (xok_140 l) (xTn l)))) rfl (f := 100000) (cuts := xu_141) xv_141 (xAll0 (xAllS 0 1 xw_141_0 (xAllZ (by decide +kernel))))⟩
def xc_142 : xCt := (([kc213, kc214, kc28, kc215, kc162], [kA3, kA3, kA3, kA3, kA3, kA3, kA3, kA3, (54, 56)], [], [kR 0, kR 3], 9), [([kc213, kc214, kc28, kc215, kc162], [kA3, kA3, kA3, kA3, kA3, kA3, kA3, kA3, (54, 56), (0, 1)], [], [kI 9], 9)], 1)
def xu_142 : List xCu := []
def xT_142 : List (Nat × xCt) := []
theorem xv_142 : xVer0 xT_142 xHt 100000 91 xm_X7_agreesByTriples xc_142 xu_142 = true := by
  rw [← zVer0_eq]
  decide +kernel
theorem xok_142 (l : Launch) : xCk l 91 xc_142 := ⟨xm_X7_agreesByTriples, rfl, xVer_ok xk_all (xHt_ok l) (T := xT_142) (xTn l) rfl (f := 100000) (cuts := xu_142) xv_142 (fun Cu h => absurd h List.not_mem_nil)⟩
def xc_143 : xCt := (([kc211, kc53, kc48, kc13, kc20, kc31, kc14, kc21, kc22, kc23, kc15, kc4, kc5, kc56, kc14, kc14, kc16, kc0, kc28, kc23, kc23, kc14, kc216, kc162], [kA3, kA3, kA3, kA3, kA3, kA3, (0, 6), (0, 30), kA3, (0, 24), kA3, kA3, kA3, (54, 56)], [], [kR 0, kR 22], 1), [([kc211, kc53, kc48, kc13, kc20, kc31, kc14, kc21, kc22, kc23, kc15, kc4, kc5, kc64, kc14, kc14, kc16, kc0, kc28, kc23, kc23, kc14, kc216, kc162], [kA3, kA3, kA3, kA3, kA3, kA3, (0, 6), (0, 30), kA3, (0, 24), kA3, kA3, kA3, (54, 56), kA3, kA3], [], [kI 14], 1)], 4)
def xu_143 : List xCu := [(11, [0, 1, 2, 3], ([kc211, kc53, kc48, kc13, kc20, kc31, kc14, kc21, kc22, kc23, kc15, kc4, kc5, kc58, kc14, kc14, kc16, kc0, kc28, kc23, kc23, kc14, kc216, kc162], [kA3, kA3, kA3, kA3, kA3, kA3, (0, 6), (0, 30), kA3, (0, 24), kA3, kA3, kA3, (54, 56), kA3, (0, 4), kA3], [], [kR 0, kR 22, kI 14, kI 15], 1), ([(15, (-1))], 4))]
def xT_143 : List (Nat × xCt) := [(61, xc_7), (64, xc_13), (91, xc_142)]
theorem xv_143 : xVer0 xT_143 xHt 100000 90 xm_X7_lawsOf xc_143 xu_143 = true := by
  rw [← zVer0_eq]
  decide +kernel
theorem xw_143_0 : ((xu_143.drop 0).take 1).all (xVerC xT_143 xHt 100000 90 xm_X7_lawsOf xc_143 xu_143) = true := by
  rw [← zVerC_eq]
  decide +kernel
theorem xok_143 (l : Launch) : xCk l 90 xc_143 := ⟨xm_X7_lawsOf, rfl, xVer_ok xk_all (xHt_ok l) (T := xT_143) (xTc (xok_7 l) (xTc (xok_13 l) (xTc (xok_142 l) (xTn l)))) rfl (f := 100000) (cuts := xu_143) xv_143 (xAll0 (xAllS 0 1 xw_143_0 (xAllZ (by decide +kernel))))⟩
def xc_144 : xCt := (([kc213, kc214, kc28, kc215, kc163], [kA3, kA3, kA3, kA3, kA3, kA3, kA3, kA3, (57, 59)], [], [kR 0, kR 3], 9), [([kc213, kc214, kc28, kc215, kc163], [kA3, kA3, kA3, kA3, kA3, kA3, kA3, kA3, (57, 59), (0, 1)], [], [kI 9], 9)], 1)
def xu_144 : List xCu := []
def xT_144 : List (Nat × xCt) := []
theorem xv_144 : xVer0 xT_144 xHt 100000 91 xm_X7_agreesByTriples xc_144 xu_144 = true := by
  rw [← zVer0_eq]
  decide +kernel
theorem xok_144 (l : Launch) : xCk l 91 xc_144 := ⟨xm_X7_agreesByTriples, rfl, xVer_ok xk_all (xHt_ok l) (T := xT_144) (xTn l) rfl (f := 100000) (cuts := xu_144) xv_144 (fun Cu h => absurd h List.not_mem_nil)⟩
def xc_145 : xCt := (([kc211, kc53, kc48, kc13, kc20, kc31, kc14, kc21, kc22, kc23, kc15, kc4, kc5, kc56, kc14, kc14, kc16, kc0, kc28, kc23, kc23, kc14, kc216, kc163], [kA3, kA3, kA3, kA3, kA3, kA3, (0, 6), (0, 30), kA3, (0, 24), kA3, kA3, kA3, (57, 59)], [], [kR 0, kR 22], 1), [([kc211, kc53, kc48, kc13, kc20, kc31, kc14, kc21, kc22, kc23, kc15, kc4, kc5, kc64, kc14, kc14, kc16, kc0, kc28, kc23, kc23, kc14, kc216, kc163], [kA3, kA3, kA3, kA3, kA3, kA3, (0, 6), (0, 30), kA3, (0, 24), kA3, kA3, kA3, (57, 59), kA3, kA3], [], [kI 14], 1)], 4)
def xu_145 : List xCu := [(11, [0, 1, 2, 3], ([kc211, kc53, kc48, kc13, kc20, kc31, kc14, kc21, kc22, kc23, kc15, kc4, kc5, kc58, kc14, kc14, kc16, kc0, kc28, kc23, kc23, kc14, kc216, kc163], [kA3, kA3, kA3, kA3, kA3, kA3, (0, 6), (0, 30), kA3, (0, 24), kA3, kA3, kA3, (57, 59), kA3, (0, 4), kA3], [], [kR 0, kR 22, kI 14, kI 15], 1), ([(15, (-1))], 4))]
def xT_145 : List (Nat × xCt) := [(61, xc_7), (64, xc_13), (91, xc_144)]
theorem xv_145 : xVer0 xT_145 xHt 100000 90 xm_X7_lawsOf xc_145 xu_145 = true := by
  rw [← zVer0_eq]
  decide +kernel
theorem xw_145_0 : ((xu_145.drop 0).take 1).all (xVerC xT_145 xHt 100000 90 xm_X7_lawsOf xc_145 xu_145) = true := by
  rw [← zVerC_eq]
  decide +kernel
theorem xok_145 (l : Launch) : xCk l 90 xc_145 := ⟨xm_X7_lawsOf, rfl, xVer_ok xk_all (xHt_ok l) (T := xT_145) (xTc (xok_7 l) (xTc (xok_13 l) (xTc (xok_144 l) (xTn l)))) rfl (f := 100000) (cuts := xu_145) xv_145 (xAll0 (xAllS 0 1 xw_145_0 (xAllZ (by decide +kernel))))⟩
def xc_146 : xCt := (([kc213, kc214, kc28, kc215, kc165], [kA3, kA3, kA3, kA3, kA3, kA3, kA3, kA3, (60, 60)], [], [kR 0, kR 3], 9), [([kc213, kc214, kc28, kc215, kc165], [kA3, kA3, kA3, kA3, kA3, kA3, kA3, kA3, (60, 60), (0, 1)], [], [kI 9], 9)], 1)
def xu_146 : List xCu := []
def xT_146 : List (Nat × xCt) := []
theorem xv_146 : xVer0 xT_146 xHt 100000 91 xm_X7_agreesByTriples xc_146 xu_146 = true := by
  rw [← zVer0_eq]
  decide +kernel
theorem xok_146 (l : Launch) : xCk l 91 xc_146 := ⟨xm_X7_agreesByTriples, rfl, xVer_ok xk_all (xHt_ok l) (T := xT_146) (xTn l) rfl (f := 100000) (cuts := xu_146) xv_146 (fun Cu h => absurd h List.not_mem_nil)⟩
