/-! Contracts, printed by a program: part 10. -/
def kc341 : xC := kO 3 [kR 1, kI 15, kI 16, kI 17, kI 18, kI 19, kI 20, kI 21, kI 22, kI 23, kI 24]
def kc342 : xC := kO 2 [kI 25, kI 26, kR 3, kR 4, kR 5, kR 6, kR 7, kR 8, kR 9, kR 10, kIc 0, kX 20, kX 21, kX 22, kI 27]
def kc343 : xC := kAr 0 6 [(1, kS 28), (5, kB3)]
def kc344 : xC := kO 3 [kR 1, kI 15, kI 16, kI 17, kI 18, kI 19, kI 20, kI 21, kI 22, kIc 0, kIc (-1)]
def kc345 : xC := kO 2 [kI 23, kI 24, kR 3, kR 4, kR 5, kR 6, kR 7, kR 8, kR 9, kR 10, kIc 0, kX 20, kX 21, kX 22, kI 25]
def kc346 : xC := kAr 0 6 [(1, kS 26), (5, kB3)]
def kc347 : xC := kO 2 [kI 10, kI 11, kR 3, kR 4, kR 5, kR 6, kR 7, kR 8, kR 9, kR 10, kI 13, kX 20, kX 21, kX 22, kI 14]
def kc348 : xC := kAr 0 6 [(1, kS 12), (5, kB3)]
def kc349 : xC := kO 3 [kR 1, kI 15, kIc 0, kI 2, kI 3, kI 4, kIc 0, kIc 0, kIc 0, kIc 0, kIc (-1)]
def kc350 : xC := kO 2 [kIc 0, kIc 0, kR 3, kR 4, kR 5, kR 6, kR 7, kR 8, kR 9, kR 10, kIc 0, kX 20, kX 21, kX 22, kI 16]
def kc351 : xC := kAr 0 6 [(1, kSc 0), (5, kB3)]
def kc352 : xC := kAr 0 24 [(24, kSc 0)]
def kc353 : xC := kO 3 [kR 1, kI 15, kI 16, kI 17, kI 18, kI 19, kIc 0, kIc 0, kI 20, kIc 0, kIc (-1)]
def kc354 : xC := kO 2 [kI 21, kI 22, kR 3, kR 4, kR 5, kR 6, kR 7, kR 8, kR 9, kR 10, kIc 0, kX 20, kX 21, kX 22, kI 23]
def kc355 : xC := kAr 0 6 [(1, kS 24), (5, kB3)]
def kc356 : xC := kO 3 [kR 1, kI 15, kI 16, kI 17, kI 18, kI 19, kIc 0, kIc 1, kI 20, kIc 0, kIc (-1)]
def kc357 : xC := kO 3 [kR 1, kI 15, kI 16, kI 17, kI 18, kI 19, kIc 1, kIc 0, kI 20, kIc 0, kIc (-1)]
def kc358 : xC := kO 3 [kR 1, kI 15, kI 16, kI 17, kI 18, kI 19, kIc 0, kIc 2, kI 20, kIc 0, kIc (-1)]
def kc359 : xC := kO 3 [kR 1, kI 15, kI 16, kI 17, kI 18, kI 19, kIc 1, kIc 1, kI 20, kIc 0, kIc (-1)]
def kc360 : xC := kO 3 [kR 1, kI 15, kI 16, kI 17, kI 18, kI 19, kIc 2, kIc 0, kI 20, kIc 0, kIc (-1)]
def kc361 : xC := kO 3 [kR 1, kI 15, kI 16, kI 17, kI 18, kI 19, kIc 0, kIc 3, kI 20, kIc 0, kIc (-1)]
def kc362 : xC := kO 3 [kR 1, kI 15, kI 16, kI 17, kI 18, kI 19, kIc 1, kIc 2, kI 20, kIc 0, kIc (-1)]
def kc363 : xC := kO 3 [kR 1, kI 15, kI 16, kI 17, kI 18, kI 19, kIc 2, kIc 1, kI 20, kIc 0, kIc (-1)]
def kc364 : xC := kO 3 [kR 1, kI 15, kI 16, kI 17, kI 18, kI 19, kIc 3, kIc 0, kI 20, kIc 0, kIc (-1)]
def kc365 : xC := kO 3 [kR 1, kI 15, kI 16, kI 17, kI 18, kI 19, kIc 1, kIc 3, kI 20, kIc 0, kIc (-1)]
def kc366 : xC := kO 3 [kR 1, kI 15, kI 16, kI 17, kI 18, kI 19, kIc 2, kIc 2, kI 20, kIc 0, kIc (-1)]
def kc367 : xC := kO 3 [kR 1, kI 15, kI 16, kI 17, kI 18, kI 19, kIc 3, kIc 1, kI 20, kIc 0, kIc (-1)]
def kc368 : xC := kO 3 [kR 1, kI 15, kI 16, kI 17, kI 18, kI 19, kIc 2, kIc 3, kI 20, kIc 0, kIc (-1)]
def kc369 : xC := kO 3 [kR 1, kI 15, kI 16, kI 17, kI 18, kI 19, kIc 3, kIc 2, kI 20, kIc 0, kIc (-1)]
def kc370 : xC := kO 3 [kR 1, kI 15, kI 16, kI 17, kI 18, kI 19, kIc 3, kIc 3, kI 20, kIc 0, kIc (-1)]
def xc_173 : xCt := (([kc186, kc185, kc347, kc348, kc10, kc17, kc28, kc11, kc18, kc19, kc20], [(0, 800), (0, 800), kA3, (0, 800), kA3, kA3, kA3, kA3, kA3, kA3, kA3, (0, 6), (0, 24), (0, 30), kA3, (0, 800)], [], [kR 0, kR 2, kI 15], 3), [([kc341, kc185, kc342, kc343, kc10, kc17, kc28, kc11, kc18, kc19, kc20], [(0, 800), (0, 800), kA3, (0, 800), kA3, kA3, kA3, kA3, kA3, kA3, kA3, (0, 6), (0, 24), (0, 30), kA3, (0, 800), (0, 800), kA3, (0, 800), kA3, (0, 4), (0, 4), kA3, kA3, kA3, kA3, (0, 6), kA3, (0, 24)], [], [kIc 0], 3), ([kc344, kc185, kc345, kc346, kc10, kc17, kc28, kc11, kc18, kc19, kc20], [(0, 800), (0, 800), kA3, (0, 800), kA3, kA3, kA3, kA3, kA3, kA3, kA3, (0, 6), (0, 24), (0, 30), kA3, (0, 800), (0, 800), kA3, (0, 800), kA3, (0, 3), (0, 3), kA3, kA3, (0, 6), kA3, (0, 24)], [([(26, 6), (24, (-1))], 0)], [kIc 1], 3)], 11)
def xu_173 : List xCu := [(49, [0, 1, 2, 3], ([kc349, kc185, kc350, kc351, kc10, kc17, kc28, kc11, kc352, kc352, kc20], [(0, 800), (0, 800), kA3, (0, 800), kA3, kA3, kA3, kA3, kA3, kA3, kA3, (0, 6), (0, 24), (0, 30), kA3, (0, 800), kA3], [], [kR 0, kR 2, kI 15, kIc 0], 3), ([], 801)),
  (49, [0, 1, 2, 3], ([kc353, kc185, kc354, kc355, kc10, kc17, kc28, kc11, kc352, kc352, kc20], [(0, 800), (0, 800), kA3, (0, 800), kA3, kA3, kA3, kA3, kA3, kA3, kA3, (0, 6), (0, 24), (0, 30), kA3, (0, 800), (0, 800), kA3, (0, 800), kA3, kA3, (1, 801), (0, 6), kA3, (1, 24)], [], [kR 0, kR 2, kI 15, kI 21], 3), ([(21, (-1))], 801)),
  (49, [0, 1, 2, 3], ([kc356, kc185, kc354, kc355, kc10, kc17, kc28, kc11, kc352, kc191, kc20], [(0, 800), (0, 800), kA3, (0, 800), kA3, kA3, kA3, kA3, kA3, kA3, kA3, (0, 6), (0, 24), (0, 30), kA3, (0, 800), (0, 800), kA3, (0, 800), kA3, kA3, (2, 801), (0, 6), kA3, (1, 24)], [], [kR 0, kR 2, kI 15, kI 21], 3), ([(21, (-1))], 801)),
  (49, [0, 1, 2, 3], ([kc357, kc185, kc354, kc355, kc10, kc17, kc28, kc11, kc19, kc352, kc20], [(0, 800), (0, 800), kA3, (0, 800), kA3, kA3, kA3, kA3, kA3, kA3, kA3, (0, 6), (0, 24), (0, 30), kA3, (0, 800), (0, 800), kA3, (0, 800), kA3, kA3, (2, 801), (0, 6), kA3, (1, 24)], [], [kR 0, kR 2, kI 15, kI 21], 3), ([(21, (-1))], 801)),
  (49, [0, 1, 2, 3], ([kc358, kc185, kc354, kc355, kc10, kc17, kc28, kc11, kc352, kc219, kc20], [(0, 800), (0, 800), kA3, (0, 800), kA3, kA3, kA3, kA3, kA3, kA3, kA3, (0, 6), (0, 24), (0, 30), kA3, (0, 800), (0, 800), kA3, (0, 800), kA3, kA3, (3, 801), (0, 6), kA3, (1, 24)], [], [kR 0, kR 2, kI 15, kI 21], 3), ([(21, (-1))], 801)),
  (49, [0, 1, 2, 3], ([kc359, kc185, kc354, kc355, kc10, kc17, kc28, kc11, kc19, kc191, kc20], [(0, 800), (0, 800), kA3, (0, 800), kA3, kA3, kA3, kA3, kA3, kA3, kA3, (0, 6), (0, 24), (0, 30), kA3, (0, 800), (0, 800), kA3, (0, 800), kA3, kA3, (3, 801), (0, 6), kA3, (1, 24)], [], [kR 0, kR 2, kI 15, kI 21], 3), ([(21, (-1))], 801)),
  (49, [0, 1, 2, 3], ([kc360, kc185, kc354, kc355, kc10, kc17, kc28, kc11, kc292, kc352, kc20], [(0, 800), (0, 800), kA3, (0, 800), kA3, kA3, kA3, kA3, kA3, kA3, kA3, (0, 6), (0, 24), (0, 30), kA3, (0, 800), (0, 800), kA3, (0, 800), kA3, kA3, (3, 801), (0, 6), kA3, (1, 24)], [], [kR 0, kR 2, kI 15, kI 21], 3), ([(21, (-1))], 801)),
  (49, [0, 1, 2, 3], ([kc361, kc185, kc354, kc355, kc10, kc17, kc28, kc11, kc352, kc19, kc20], [(0, 800), (0, 800), kA3, (0, 800), kA3, kA3, kA3, kA3, kA3, kA3, kA3, (0, 6), (0, 24), (0, 30), kA3, (0, 800), (0, 800), kA3, (0, 800), kA3, kA3, (4, 801), (0, 6), kA3, (1, 24)], [], [kR 0, kR 2, kI 15, kI 21], 3), ([(21, (-1))], 801)),
  (49, [0, 1, 2, 3], ([kc362, kc185, kc354, kc355, kc10, kc17, kc28, kc11, kc19, kc219, kc20], [(0, 800), (0, 800), kA3, (0, 800), kA3, kA3, kA3, kA3, kA3, kA3, kA3, (0, 6), (0, 24), (0, 30), kA3, (0, 800), (0, 800), kA3, (0, 800), kA3, kA3, (4, 801), (0, 6), kA3, (1, 24)], [], [kR 0, kR 2, kI 15, kI 21], 3), ([(21, (-1))], 801)),
  (49, [0, 1, 2, 3], ([kc363, kc185, kc354, kc355, kc10, kc17, kc28, kc11, kc292, kc191, kc20], [(0, 800), (0, 800), kA3, (0, 800), kA3, kA3, kA3, kA3, kA3, kA3, kA3, (0, 6), (0, 24), (0, 30), kA3, (0, 800), (0, 800), kA3, (0, 800), kA3, kA3, (4, 801), (0, 6), kA3, (1, 24)], [], [kR 0, kR 2, kI 15, kI 21], 3), ([(21, (-1))], 801)),
  (49, [0, 1, 2, 3], ([kc364, kc185, kc354, kc355, kc10, kc17, kc28, kc11, kc18, kc352, kc20], [(0, 800), (0, 800), kA3, (0, 800), kA3, kA3, kA3, kA3, kA3, kA3, kA3, (0, 6), (0, 24), (0, 30), kA3, (0, 800), (0, 800), kA3, (0, 800), kA3, kA3, (4, 801), (0, 6), kA3, (1, 24)], [], [kR 0, kR 2, kI 15, kI 21], 3), ([(21, (-1))], 801)),
  (49, [0, 1, 2, 3], ([kc365, kc185, kc354, kc355, kc10, kc17, kc28, kc11, kc19, kc19, kc20], [(0, 800), (0, 800), kA3, (0, 800), kA3, kA3, kA3, kA3, kA3, kA3, kA3, (0, 6), (0, 24), (0, 30), kA3, (0, 800), (0, 800), kA3, (0, 800), kA3, kA3, (5, 801), (0, 6), kA3, (1, 24)], [], [kR 0, kR 2, kI 15, kI 21], 3), ([(21, (-1))], 801)),
  (49, [0, 1, 2, 3], ([kc366, kc185, kc354, kc355, kc10, kc17, kc28, kc11, kc292, kc219, kc20], [(0, 800), (0, 800), kA3, (0, 800), kA3, kA3, kA3, kA3, kA3, kA3, kA3, (0, 6), (0, 24), (0, 30), kA3, (0, 800), (0, 800), kA3, (0, 800), kA3, kA3, (5, 801), (0, 6), kA3, (1, 24)], [], [kR 0, kR 2, kI 15, kI 21], 3), ([(21, (-1))], 801)),
  (49, [0, 1, 2, 3], ([kc367, kc185, kc354, kc355, kc10, kc17, kc28, kc11, kc18, kc191, kc20], [(0, 800), (0, 800), kA3, (0, 800), kA3, kA3, kA3, kA3, kA3, kA3, kA3, (0, 6), (0, 24), (0, 30), kA3, (0, 800), (0, 800), kA3, (0, 800), kA3, kA3, (5, 801), (0, 6), kA3, (1, 24)], [], [kR 0, kR 2, kI 15, kI 21], 3), ([(21, (-1))], 801)),
  (49, [0, 1, 2, 3], ([kc368, kc185, kc354, kc355, kc10, kc17, kc28, kc11, kc292, kc19, kc20], [(0, 800), (0, 800), kA3, (0, 800), kA3, kA3, kA3, kA3, kA3, kA3, kA3, (0, 6), (0, 24), (0, 30), kA3, (0, 800), (0, 800), kA3, (0, 800), kA3, kA3, (6, 801), (0, 6), kA3, (1, 24)], [], [kR 0, kR 2, kI 15, kI 21], 3), ([(21, (-1))], 801)),
  (49, [0, 1, 2, 3], ([kc369, kc185, kc354, kc355, kc10, kc17, kc28, kc11, kc18, kc219, kc20], [(0, 800), (0, 800), kA3, (0, 800), kA3, kA3, kA3, kA3, kA3, kA3, kA3, (0, 6), (0, 24), (0, 30), kA3, (0, 800), (0, 800), kA3, (0, 800), kA3, kA3, (6, 801), (0, 6), kA3, (1, 24)], [], [kR 0, kR 2, kI 15, kI 21], 3), ([(21, (-1))], 801)),
  (49, [0, 1, 2, 3], ([kc370, kc185, kc354, kc355, kc10, kc17, kc28, kc11, kc18, kc19, kc20], [(0, 800), (0, 800), kA3, (0, 800), kA3, kA3, kA3, kA3, kA3, kA3, kA3, (0, 6), (0, 24), (0, 30), kA3, (0, 800), (0, 800), kA3, (0, 800), kA3, kA3, (7, 801), (0, 6), kA3, (1, 24)], [], [kR 0, kR 2, kI 15, kI 21], 3), ([(21, (-1))], 801))]
def xT_173 : List (Nat × xCt) := [(40, xc_148), (44, xc_149), (44, xc_151), (44, xc_152), (44, xc_153), (44, xc_154), (44, xc_155), (44, xc_156), (44, xc_157), (44, xc_158), (44, xc_159), (44, xc_160), (44, xc_161), (44, xc_162), (44, xc_163), (44, xc_165), (35, xc_166), (35, xc_167), (35, xc_168), (35, xc_169), (35, xc_170), (35, xc_171), (35, xc_172)]
theorem xv_173 : xVer0 xT_173 xHt 100000 29 xm_X3_reads xc_173 xu_173 = true := by decide +kernel
theorem xw_173_0 : ((xu_173.drop 0).take 1).all (xVerC xT_173 xHt 100000 29 xm_X3_reads xc_173 xu_173) = true := by decide +kernel
theorem xw_173_1 : ((xu_173.drop 1).take 1).all (xVerC xT_173 xHt 100000 29 xm_X3_reads xc_173 xu_173) = true := by decide +kernel
theorem xw_173_2 : ((xu_173.drop 2).take 1).all (xVerC xT_173 xHt 100000 29 xm_X3_reads xc_173 xu_173) = true := by decide +kernel
theorem xw_173_3 : ((xu_173.drop 3).take 1).all (xVerC xT_173 xHt 100000 29 xm_X3_reads xc_173 xu_173) = true := by decide +kernel
theorem xw_173_4 : ((xu_173.drop 4).take 1).all (xVerC xT_173 xHt 100000 29 xm_X3_reads xc_173 xu_173) = true := by decide +kernel
theorem xw_173_5 : ((xu_173.drop 5).take 1).all (xVerC xT_173 xHt 100000 29 xm_X3_reads xc_173 xu_173) = true := by decide +kernel
theorem xw_173_6 : ((xu_173.drop 6).take 1).all (xVerC xT_173 xHt 100000 29 xm_X3_reads xc_173 xu_173) = true := by decide +kernel
theorem xw_173_7 : ((xu_173.drop 7).take 1).all (xVerC xT_173 xHt 100000 29 xm_X3_reads xc_173 xu_173) = true := by decide +kernel
theorem xw_173_8 : ((xu_173.drop 8).take 1).all (xVerC xT_173 xHt 100000 29 xm_X3_reads xc_173 xu_173) = true := by decide +kernel
theorem xw_173_9 : ((xu_173.drop 9).take 1).all (xVerC xT_173 xHt 100000 29 xm_X3_reads xc_173 xu_173) = true := by decide +kernel
theorem xw_173_10 : ((xu_173.drop 10).take 1).all (xVerC xT_173 xHt 100000 29 xm_X3_reads xc_173 xu_173) = true := by decide +kernel
theorem xw_173_11 : ((xu_173.drop 11).take 1).all (xVerC xT_173 xHt 100000 29 xm_X3_reads xc_173 xu_173) = true := by decide +kernel
theorem xw_173_12 : ((xu_173.drop 12).take 1).all (xVerC xT_173 xHt 100000 29 xm_X3_reads xc_173 xu_173) = true := by decide +kernel
theorem xw_173_13 : ((xu_173.drop 13).take 1).all (xVerC xT_173 xHt 100000 29 xm_X3_reads xc_173 xu_173) = true := by decide +kernel
theorem xw_173_14 : ((xu_173.drop 14).take 1).all (xVerC xT_173 xHt 100000 29 xm_X3_reads xc_173 xu_173) = true := by decide +kernel
theorem xw_173_15 : ((xu_173.drop 15).take 1).all (xVerC xT_173 xHt 100000 29 xm_X3_reads xc_173 xu_173) = true := by decide +kernel
theorem xw_173_16 : ((xu_173.drop 16).take 1).all (xVerC xT_173 xHt 100000 29 xm_X3_reads xc_173 xu_173) = true := by decide +kernel
theorem xok_173 (l : Launch) : xCk l 29 xc_173 := ⟨xm_X3_reads, rfl, xVer_ok xk_all (xHt_ok l) (T := xT_173) (xTc (xok_148 l) (xTc (xok_149 l) (xTc (xok_151 l) (xTc (xok_152 l) (xTc (xok_153 l) (xTc (xok_154 l) (xTc (xok_155 l) (xTc (xok_156 l) (xTc (xok_157 l) (xTc (xok_158 l) (xTc (xok_159 l) (xTc (xok_160 l) (xTc (xok_161 l) (xTc (xok_162 l) (xTc (xok_163 l) (xTc (xok_165 l) (xTc (xok_166 l) (xTc (xok_167 l) (xTc (xok_168 l) (xTc (xok_169 l) (xTc (xok_170 l) (xTc (xok_171 l) (xTc (xok_172 l) (xTn l)))))))))))))))))))))))) rfl (f := 100000) (cuts := xu_173) xv_173 (xAll0 (xAllS 0 1 xw_173_0 (xAllS 1 1 xw_173_1 (xAllS 2 1 xw_173_2 (xAllS 3 1 xw_173_3 (xAllS 4 1 xw_173_4 (xAllS 5 1 xw_173_5 (xAllS 6 1 xw_173_6 (xAllS 7 1 xw_173_7 (xAllS 8 1 xw_173_8 (xAllS 9 1 xw_173_9 (xAllS 10 1 xw_173_10 (xAllS 11 1 xw_173_11 (xAllS 12 1 xw_173_12 (xAllS 13 1 xw_173_13 (xAllS 14 1 xw_173_14 (xAllS 15 1 xw_173_15 (xAllS 16 1 xw_173_16 (xAllZ (by decide +kernel))))))))))))))))))))⟩
