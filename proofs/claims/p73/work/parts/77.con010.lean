/-! Contracts, printed by a program: part 10. -/
def kc376 : xC := kO 3 [kR 1, kI 0, kI 16, kI 17, kI 18, kI 19, kI 20, kI 21, kI 22, kI 23, kI 24]
def kc377 : xC := kO 2 [kI 25, kI 26, kR 3, kR 4, kR 5, kR 6, kR 7, kR 8, kR 9, kR 10, kIc 0, kX 20, kX 21, kX 22, kI 27]
def kc378 : xC := kAr 0 6 [(1, kS 28), (5, kB3)]
def kc379 : xC := kO 3 [kR 1, kI 0, kI 16, kI 17, kI 18, kI 19, kI 20, kI 21, kI 22, kIc 0, kIc (-1)]
def kc380 : xC := kO 2 [kI 23, kI 24, kR 3, kR 4, kR 5, kR 6, kR 7, kR 8, kR 9, kR 10, kIc 0, kX 20, kX 21, kX 22, kI 25]
def kc381 : xC := kAr 0 6 [(1, kS 26), (5, kB3)]
def kc382 : xC := kO 2 [kI 11, kI 12, kR 3, kR 4, kR 5, kR 6, kR 7, kR 8, kR 9, kR 10, kI 13, kX 20, kX 21, kX 22, kI 14]
def kc383 : xC := kAr 0 6 [(1, kS 15), (5, kB3)]
def kc384 : xC := kO 3 [kR 1, kI 0, kIc 0, kI 3, kI 4, kI 5, kIc 0, kIc 0, kIc 0, kIc 0, kIc (-1)]
def kc385 : xC := kO 2 [kIc 0, kIc 0, kR 3, kR 4, kR 5, kR 6, kR 7, kR 8, kR 9, kR 10, kIc 0, kX 20, kX 21, kX 22, kI 16]
def kc386 : xC := kAr 0 6 [(1, kSc 0), (5, kB3)]
def kc387 : xC := kAr 0 24 [(24, kSc 0)]
def kc388 : xC := kO 3 [kR 1, kI 0, kI 17, kI 18, kI 19, kI 20, kIc 0, kIc 0, kI 21, kIc 0, kIc (-1)]
def kc389 : xC := kO 2 [kI 16, kI 22, kR 3, kR 4, kR 5, kR 6, kR 7, kR 8, kR 9, kR 10, kIc 0, kX 20, kX 21, kX 22, kI 23]
def kc390 : xC := kAr 0 6 [(1, kS 24), (5, kB3)]
def kc391 : xC := kO 3 [kR 1, kI 0, kI 17, kI 18, kI 19, kI 20, kIc 0, kIc 1, kI 21, kIc 0, kIc (-1)]
def kc392 : xC := kO 3 [kR 1, kI 0, kI 17, kI 18, kI 19, kI 20, kIc 1, kIc 0, kI 21, kIc 0, kIc (-1)]
def kc393 : xC := kO 3 [kR 1, kI 0, kI 17, kI 18, kI 19, kI 20, kIc 0, kIc 2, kI 21, kIc 0, kIc (-1)]
def kc394 : xC := kO 3 [kR 1, kI 0, kI 17, kI 18, kI 19, kI 20, kIc 1, kIc 1, kI 21, kIc 0, kIc (-1)]
def kc395 : xC := kO 3 [kR 1, kI 0, kI 17, kI 18, kI 19, kI 20, kIc 2, kIc 0, kI 21, kIc 0, kIc (-1)]
def kc396 : xC := kO 3 [kR 1, kI 0, kI 17, kI 18, kI 19, kI 20, kIc 0, kIc 3, kI 21, kIc 0, kIc (-1)]
def kc397 : xC := kO 3 [kR 1, kI 0, kI 17, kI 18, kI 19, kI 20, kIc 1, kIc 2, kI 21, kIc 0, kIc (-1)]
def kc398 : xC := kO 3 [kR 1, kI 0, kI 17, kI 18, kI 19, kI 20, kIc 2, kIc 1, kI 21, kIc 0, kIc (-1)]
def kc399 : xC := kO 3 [kR 1, kI 0, kI 17, kI 18, kI 19, kI 20, kIc 3, kIc 0, kI 21, kIc 0, kIc (-1)]
def kc400 : xC := kO 3 [kR 1, kI 0, kI 17, kI 18, kI 19, kI 20, kIc 1, kIc 3, kI 21, kIc 0, kIc (-1)]
def kc401 : xC := kO 3 [kR 1, kI 0, kI 17, kI 18, kI 19, kI 20, kIc 2, kIc 2, kI 21, kIc 0, kIc (-1)]
def kc402 : xC := kO 3 [kR 1, kI 0, kI 17, kI 18, kI 19, kI 20, kIc 3, kIc 1, kI 21, kIc 0, kIc (-1)]
def kc403 : xC := kO 3 [kR 1, kI 0, kI 17, kI 18, kI 19, kI 20, kIc 2, kIc 3, kI 21, kIc 0, kIc (-1)]
def kc404 : xC := kO 3 [kR 1, kI 0, kI 17, kI 18, kI 19, kI 20, kIc 3, kIc 2, kI 21, kIc 0, kIc (-1)]
def kc405 : xC := kO 3 [kR 1, kI 0, kI 17, kI 18, kI 19, kI 20, kIc 3, kIc 3, kI 21, kIc 0, kIc (-1)]
def xc_173 : xCt := (([kc226, kc218, kc382, kc383, kc13, kc20, kc31, kc14, kc21, kc22, kc23], [(0, 800), (0, 800), (0, 800), kA3, (0, 800), kA3, kA3, kA3, kA3, kA3, kA3, kA3, (0, 6), (0, 30), kA3, (0, 24)], [], [kR 0, kR 2, kI 0], 3), [([kc376, kc218, kc377, kc378, kc13, kc20, kc31, kc14, kc21, kc22, kc23], [(0, 800), (0, 800), (0, 800), kA3, (0, 800), kA3, kA3, kA3, kA3, kA3, kA3, kA3, (0, 6), (0, 30), kA3, (0, 24), (0, 800), kA3, (0, 800), kA3, (0, 4), (0, 4), kA3, kA3, kA3, kA3, (0, 6), kA3, (0, 24)], [], [kIc 0], 3), ([kc379, kc218, kc380, kc381, kc13, kc20, kc31, kc14, kc21, kc22, kc23], [(0, 800), (0, 800), (0, 800), kA3, (0, 800), kA3, kA3, kA3, kA3, kA3, kA3, kA3, (0, 6), (0, 30), kA3, (0, 24), (0, 800), kA3, (0, 800), kA3, (0, 3), (0, 3), kA3, kA3, (0, 6), kA3, (0, 24)], [([(26, 6), (24, (-1))], 0)], [kIc 1], 3)], 11)
def xu_173 : List xCu := [(49, [0, 1, 2, 3], ([kc384, kc218, kc385, kc386, kc13, kc20, kc31, kc14, kc387, kc387, kc23], [(0, 800), (0, 800), (0, 800), kA3, (0, 800), kA3, kA3, kA3, kA3, kA3, kA3, kA3, (0, 6), (0, 30), kA3, (0, 24), kA3], [], [kR 0, kR 2, kI 0, kIc 0], 3), ([], 801)),
  (49, [0, 1, 2, 3], ([kc388, kc218, kc389, kc390, kc13, kc20, kc31, kc14, kc387, kc387, kc23], [(0, 800), (0, 800), (0, 800), kA3, (0, 800), kA3, kA3, kA3, kA3, kA3, kA3, kA3, (0, 6), (0, 30), kA3, (0, 24), (1, 801), (0, 800), kA3, (0, 800), kA3, kA3, (0, 6), kA3, (1, 24)], [], [kR 0, kR 2, kI 0, kI 16], 3), ([(16, (-1))], 801)),
  (49, [0, 1, 2, 3], ([kc391, kc218, kc389, kc390, kc13, kc20, kc31, kc14, kc387, kc224, kc23], [(0, 800), (0, 800), (0, 800), kA3, (0, 800), kA3, kA3, kA3, kA3, kA3, kA3, kA3, (0, 6), (0, 30), kA3, (0, 24), (2, 801), (0, 800), kA3, (0, 800), kA3, kA3, (0, 6), kA3, (1, 24)], [], [kR 0, kR 2, kI 0, kI 16], 3), ([(16, (-1))], 801)),
  (49, [0, 1, 2, 3], ([kc392, kc218, kc389, kc390, kc13, kc20, kc31, kc14, kc22, kc387, kc23], [(0, 800), (0, 800), (0, 800), kA3, (0, 800), kA3, kA3, kA3, kA3, kA3, kA3, kA3, (0, 6), (0, 30), kA3, (0, 24), (2, 801), (0, 800), kA3, (0, 800), kA3, kA3, (0, 6), kA3, (1, 24)], [], [kR 0, kR 2, kI 0, kI 16], 3), ([(16, (-1))], 801)),
  (49, [0, 1, 2, 3], ([kc393, kc218, kc389, kc390, kc13, kc20, kc31, kc14, kc387, kc254, kc23], [(0, 800), (0, 800), (0, 800), kA3, (0, 800), kA3, kA3, kA3, kA3, kA3, kA3, kA3, (0, 6), (0, 30), kA3, (0, 24), (3, 801), (0, 800), kA3, (0, 800), kA3, kA3, (0, 6), kA3, (1, 24)], [], [kR 0, kR 2, kI 0, kI 16], 3), ([(16, (-1))], 801)),
  (49, [0, 1, 2, 3], ([kc394, kc218, kc389, kc390, kc13, kc20, kc31, kc14, kc22, kc224, kc23], [(0, 800), (0, 800), (0, 800), kA3, (0, 800), kA3, kA3, kA3, kA3, kA3, kA3, kA3, (0, 6), (0, 30), kA3, (0, 24), (3, 801), (0, 800), kA3, (0, 800), kA3, kA3, (0, 6), kA3, (1, 24)], [], [kR 0, kR 2, kI 0, kI 16], 3), ([(16, (-1))], 801)),
  (49, [0, 1, 2, 3], ([kc395, kc218, kc389, kc390, kc13, kc20, kc31, kc14, kc327, kc387, kc23], [(0, 800), (0, 800), (0, 800), kA3, (0, 800), kA3, kA3, kA3, kA3, kA3, kA3, kA3, (0, 6), (0, 30), kA3, (0, 24), (3, 801), (0, 800), kA3, (0, 800), kA3, kA3, (0, 6), kA3, (1, 24)], [], [kR 0, kR 2, kI 0, kI 16], 3), ([(16, (-1))], 801)),
  (49, [0, 1, 2, 3], ([kc396, kc218, kc389, kc390, kc13, kc20, kc31, kc14, kc387, kc22, kc23], [(0, 800), (0, 800), (0, 800), kA3, (0, 800), kA3, kA3, kA3, kA3, kA3, kA3, kA3, (0, 6), (0, 30), kA3, (0, 24), (4, 801), (0, 800), kA3, (0, 800), kA3, kA3, (0, 6), kA3, (1, 24)], [], [kR 0, kR 2, kI 0, kI 16], 3), ([(16, (-1))], 801)),
  (49, [0, 1, 2, 3], ([kc397, kc218, kc389, kc390, kc13, kc20, kc31, kc14, kc22, kc254, kc23], [(0, 800), (0, 800), (0, 800), kA3, (0, 800), kA3, kA3, kA3, kA3, kA3, kA3, kA3, (0, 6), (0, 30), kA3, (0, 24), (4, 801), (0, 800), kA3, (0, 800), kA3, kA3, (0, 6), kA3, (1, 24)], [], [kR 0, kR 2, kI 0, kI 16], 3), ([(16, (-1))], 801)),
  (49, [0, 1, 2, 3], ([kc398, kc218, kc389, kc390, kc13, kc20, kc31, kc14, kc327, kc224, kc23], [(0, 800), (0, 800), (0, 800), kA3, (0, 800), kA3, kA3, kA3, kA3, kA3, kA3, kA3, (0, 6), (0, 30), kA3, (0, 24), (4, 801), (0, 800), kA3, (0, 800), kA3, kA3, (0, 6), kA3, (1, 24)], [], [kR 0, kR 2, kI 0, kI 16], 3), ([(16, (-1))], 801)),
  (49, [0, 1, 2, 3], ([kc399, kc218, kc389, kc390, kc13, kc20, kc31, kc14, kc21, kc387, kc23], [(0, 800), (0, 800), (0, 800), kA3, (0, 800), kA3, kA3, kA3, kA3, kA3, kA3, kA3, (0, 6), (0, 30), kA3, (0, 24), (4, 801), (0, 800), kA3, (0, 800), kA3, kA3, (0, 6), kA3, (1, 24)], [], [kR 0, kR 2, kI 0, kI 16], 3), ([(16, (-1))], 801)),
  (49, [0, 1, 2, 3], ([kc400, kc218, kc389, kc390, kc13, kc20, kc31, kc14, kc22, kc22, kc23], [(0, 800), (0, 800), (0, 800), kA3, (0, 800), kA3, kA3, kA3, kA3, kA3, kA3, kA3, (0, 6), (0, 30), kA3, (0, 24), (5, 801), (0, 800), kA3, (0, 800), kA3, kA3, (0, 6), kA3, (1, 24)], [], [kR 0, kR 2, kI 0, kI 16], 3), ([(16, (-1))], 801)),
  (49, [0, 1, 2, 3], ([kc401, kc218, kc389, kc390, kc13, kc20, kc31, kc14, kc327, kc254, kc23], [(0, 800), (0, 800), (0, 800), kA3, (0, 800), kA3, kA3, kA3, kA3, kA3, kA3, kA3, (0, 6), (0, 30), kA3, (0, 24), (5, 801), (0, 800), kA3, (0, 800), kA3, kA3, (0, 6), kA3, (1, 24)], [], [kR 0, kR 2, kI 0, kI 16], 3), ([(16, (-1))], 801)),
  (49, [0, 1, 2, 3], ([kc402, kc218, kc389, kc390, kc13, kc20, kc31, kc14, kc21, kc224, kc23], [(0, 800), (0, 800), (0, 800), kA3, (0, 800), kA3, kA3, kA3, kA3, kA3, kA3, kA3, (0, 6), (0, 30), kA3, (0, 24), (5, 801), (0, 800), kA3, (0, 800), kA3, kA3, (0, 6), kA3, (1, 24)], [], [kR 0, kR 2, kI 0, kI 16], 3), ([(16, (-1))], 801)),
  (49, [0, 1, 2, 3], ([kc403, kc218, kc389, kc390, kc13, kc20, kc31, kc14, kc327, kc22, kc23], [(0, 800), (0, 800), (0, 800), kA3, (0, 800), kA3, kA3, kA3, kA3, kA3, kA3, kA3, (0, 6), (0, 30), kA3, (0, 24), (6, 801), (0, 800), kA3, (0, 800), kA3, kA3, (0, 6), kA3, (1, 24)], [], [kR 0, kR 2, kI 0, kI 16], 3), ([(16, (-1))], 801)),
  (49, [0, 1, 2, 3], ([kc404, kc218, kc389, kc390, kc13, kc20, kc31, kc14, kc21, kc254, kc23], [(0, 800), (0, 800), (0, 800), kA3, (0, 800), kA3, kA3, kA3, kA3, kA3, kA3, kA3, (0, 6), (0, 30), kA3, (0, 24), (6, 801), (0, 800), kA3, (0, 800), kA3, kA3, (0, 6), kA3, (1, 24)], [], [kR 0, kR 2, kI 0, kI 16], 3), ([(16, (-1))], 801)),
  (49, [0, 1, 2, 3], ([kc405, kc218, kc389, kc390, kc13, kc20, kc31, kc14, kc21, kc22, kc23], [(0, 800), (0, 800), (0, 800), kA3, (0, 800), kA3, kA3, kA3, kA3, kA3, kA3, kA3, (0, 6), (0, 30), kA3, (0, 24), (7, 801), (0, 800), kA3, (0, 800), kA3, kA3, (0, 6), kA3, (1, 24)], [], [kR 0, kR 2, kI 0, kI 16], 3), ([(16, (-1))], 801))]
def xT_173 : List (Nat × xCt) := [(40, xc_148), (44, xc_149), (44, xc_151), (44, xc_152), (44, xc_153), (44, xc_154), (44, xc_155), (44, xc_156), (44, xc_157), (44, xc_158), (44, xc_159), (44, xc_160), (44, xc_161), (44, xc_162), (44, xc_163), (44, xc_165), (35, xc_166), (35, xc_167), (35, xc_168), (35, xc_169), (35, xc_170), (35, xc_171), (35, xc_172)]
theorem xv_173 : xVer0 xT_173 xHt 100000 29 xm_X3_reads xc_173 xu_173 = true := by
  rw [← zVer0_eq]
  decide +kernel
theorem xw_173_0 : ((xu_173.drop 0).take 1).all (xVerC xT_173 xHt 100000 29 xm_X3_reads xc_173 xu_173) = true := by
  rw [← zVerC_eq]
  decide +kernel
theorem xw_173_1 : ((xu_173.drop 1).take 1).all (xVerC xT_173 xHt 100000 29 xm_X3_reads xc_173 xu_173) = true := by
  rw [← zVerC_eq]
  decide +kernel
theorem xw_173_2 : ((xu_173.drop 2).take 1).all (xVerC xT_173 xHt 100000 29 xm_X3_reads xc_173 xu_173) = true := by
  rw [← zVerC_eq]
  decide +kernel
theorem xw_173_3 : ((xu_173.drop 3).take 1).all (xVerC xT_173 xHt 100000 29 xm_X3_reads xc_173 xu_173) = true := by
  rw [← zVerC_eq]
  decide +kernel
theorem xw_173_4 : ((xu_173.drop 4).take 1).all (xVerC xT_173 xHt 100000 29 xm_X3_reads xc_173 xu_173) = true := by
  rw [← zVerC_eq]
  decide +kernel
theorem xw_173_5 : ((xu_173.drop 5).take 1).all (xVerC xT_173 xHt 100000 29 xm_X3_reads xc_173 xu_173) = true := by
  rw [← zVerC_eq]
  decide +kernel
theorem xw_173_6 : ((xu_173.drop 6).take 1).all (xVerC xT_173 xHt 100000 29 xm_X3_reads xc_173 xu_173) = true := by
  rw [← zVerC_eq]
  decide +kernel
theorem xw_173_7 : ((xu_173.drop 7).take 1).all (xVerC xT_173 xHt 100000 29 xm_X3_reads xc_173 xu_173) = true := by
  rw [← zVerC_eq]
  decide +kernel
theorem xw_173_8 : ((xu_173.drop 8).take 1).all (xVerC xT_173 xHt 100000 29 xm_X3_reads xc_173 xu_173) = true := by
  rw [← zVerC_eq]
  decide +kernel
theorem xw_173_9 : ((xu_173.drop 9).take 1).all (xVerC xT_173 xHt 100000 29 xm_X3_reads xc_173 xu_173) = true := by
  rw [← zVerC_eq]
  decide +kernel
theorem xw_173_10 : ((xu_173.drop 10).take 1).all (xVerC xT_173 xHt 100000 29 xm_X3_reads xc_173 xu_173) = true := by
  rw [← zVerC_eq]
  decide +kernel
theorem xw_173_11 : ((xu_173.drop 11).take 1).all (xVerC xT_173 xHt 100000 29 xm_X3_reads xc_173 xu_173) = true := by
  rw [← zVerC_eq]
  decide +kernel
theorem xw_173_12 : ((xu_173.drop 12).take 1).all (xVerC xT_173 xHt 100000 29 xm_X3_reads xc_173 xu_173) = true := by
  rw [← zVerC_eq]
  decide +kernel
theorem xw_173_13 : ((xu_173.drop 13).take 1).all (xVerC xT_173 xHt 100000 29 xm_X3_reads xc_173 xu_173) = true := by
  rw [← zVerC_eq]
  decide +kernel
theorem xw_173_14 : ((xu_173.drop 14).take 1).all (xVerC xT_173 xHt 100000 29 xm_X3_reads xc_173 xu_173) = true := by
  rw [← zVerC_eq]
  decide +kernel
theorem xw_173_15 : ((xu_173.drop 15).take 1).all (xVerC xT_173 xHt 100000 29 xm_X3_reads xc_173 xu_173) = true := by
  rw [← zVerC_eq]
  decide +kernel
theorem xw_173_16 : ((xu_173.drop 16).take 1).all (xVerC xT_173 xHt 100000 29 xm_X3_reads xc_173 xu_173) = true := by
  rw [← zVerC_eq]
  decide +kernel
theorem xok_173 (l : Launch) : xCk l 29 xc_173 := ⟨xm_X3_reads, rfl, xVer_ok xk_all (xHt_ok l) (T := xT_173) (xTc (xok_148 l) (xTc (xok_149 l) (xTc (xok_151 l) (xTc (xok_152 l) (xTc (xok_153 l) (xTc (xok_154 l) (xTc (xok_155 l) (xTc (xok_156 l) (xTc (xok_157 l) (xTc (xok_158 l) (xTc (xok_159 l) (xTc (xok_160 l) (xTc (xok_161 l) (xTc (xok_162 l) (xTc (xok_163 l) (xTc (xok_165 l) (xTc (xok_166 l) (xTc (xok_167 l) (xTc (xok_168 l) (xTc (xok_169 l) (xTc (xok_170 l) (xTc (xok_171 l) (xTc (xok_172 l) (xTn l)))))))))))))))))))))))) rfl (f := 100000) (cuts := xu_173) xv_173 (xAll0 (xAllS 0 1 xw_173_0 (xAllS 1 1 xw_173_1 (xAllS 2 1 xw_173_2 (xAllS 3 1 xw_173_3 (xAllS 4 1 xw_173_4 (xAllS 5 1 xw_173_5 (xAllS 6 1 xw_173_6 (xAllS 7 1 xw_173_7 (xAllS 8 1 xw_173_8 (xAllS 9 1 xw_173_9 (xAllS 10 1 xw_173_10 (xAllS 11 1 xw_173_11 (xAllS 12 1 xw_173_12 (xAllS 13 1 xw_173_13 (xAllS 14 1 xw_173_14 (xAllS 15 1 xw_173_15 (xAllS 16 1 xw_173_16 (xAllZ (by decide +kernel))))))))))))))))))))⟩
