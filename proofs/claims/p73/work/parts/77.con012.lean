/-! Contracts, printed by a program: part 12. -/
def kc455 : xC := kO 5 [kR 1, kR 13, kR 23, kX 29, kI 10, kI 11, kI 12, kI 13]
def xc_214 : xCt := (([kc449, kc443, kc36, kc13, kc20, kc31, kc14, kc21, kc22, kc23, kc15, kc4, kc5, kc444, kc14, kc14, kc16, kc0, kc28, kc23, kc23, kc14, kc455, kc14], [kA3, (0, 800), kA3, kA3, (0, 6), (0, 30), kA3, (0, 24), kA3, kA3, kA3, kA3, kA3, kA3], [([(7, 6), (4, (-1))], 0)], [kR 0, kI 0], 10), [([kc449, kc443, kc36, kc13, kc20, kc31, kc14, kc21, kc22, kc23, kc15, kc4, kc5, kc103, kc14, kc14, kc16, kc0, kc28, kc23, kc23, kc14, kc455, kc14], [kA3, (0, 800), kA3, kA3, (0, 6), (0, 30), kA3, (0, 24), kA3, kA3, kA3, kA3, kA3, kA3, ((-2), 6), kA3, kA3], [], [kI 14], 10)], 6)
def xu_214 : List xCu := [(16, [0, 1, 2], ([kc449, kc443, kc36, kc13, kc20, kc31, kc14, kc21, kc22, kc23, kc15, kc4, kc5, kc103, kc14, kc14, kc16, kc0, kc28, kc23, kc23, kc14, kc455, kc14], [(0, 23), (0, 800), kA3, kA3, (0, 6), (0, 30), kA3, (1, 24), kA3, kA3, kA3, kA3, kA3, kA3, (0, 7), kA3, kA3], [([(7, 6), (4, (-1))], 0)], [kR 0, kI 0, kI 14], 10), ([(14, (-1))], 7))]
def xT_214 : List (Nat × xCt) := [(54, xc_24)]
theorem xv_214 : xVer0 xT_214 xHt 100000 141 xm_X9_fewest xc_214 xu_214 = true := by
  rw [← zVer0_eq]
  decide +kernel
theorem xw_214_0 : ((xu_214.drop 0).take 1).all (xVerC xT_214 xHt 100000 141 xm_X9_fewest xc_214 xu_214) = true := by
  rw [← zVerC_eq]
  decide +kernel
theorem xok_214 (l : Launch) : xCk l 141 xc_214 := ⟨xm_X9_fewest, rfl, xVer_ok xk_all (xHt_ok l) (T := xT_214) (xTc (xok_24 l) (xTn l)) rfl (f := 100000) (cuts := xu_214) xv_214 (xAll0 (xAllS 0 1 xw_214_0 (xAllZ (by decide +kernel))))⟩
def kc456 : xC := kO 9 [kX 20, kI 0, kR 1, kX 21, kX 22, kX 23, kI 1, kX 24, kR 13, kX 25, kR 22, kX 26, kX 27, kX 28]
def kc457 : xC := kO 1 [kR 1, kR 13, kR 23, kI 14, kI 15]
def kc458 : xC := kO 1 [kR 1, kR 13, kR 23, kI 9, kI 10]
def xc_215 : xCt := (([kc456, kc68, kc12, kc13, kc20, kc31, kc14, kc21, kc22, kc23, kc15, kc4, kc5, kc70, kc14, kc14, kc16, kc0, kc28, kc23, kc23, kc14, kc458, kc14], [(0, 800), kA3, kA3, (0, 6), (0, 30), kA3, (0, 24), kA3, kA3, kA3, kA3], [([(6, 6), (3, (-1))], 0)], [kR 0], 9), [([kc456, kc68, kc12, kc13, kc20, kc31, kc14, kc21, kc22, kc23, kc15, kc4, kc5, kc440, kc14, kc14, kc16, kc0, kc28, kc23, kc23, kc14, kc457, kc14], [(0, 800), kA3, kA3, (0, 6), (0, 30), kA3, (0, 24), kA3, kA3, kA3, kA3, kA3, kA3, kA3, kA3, kA3], [], [kI 11], 9)], 6)
def xu_215 : List xCu := []
def xT_215 : List (Nat × xCt) := [(7, xc_26)]
theorem xv_215 : xVer0 xT_215 xHt 100000 142 xm_X9_ordered xc_215 xu_215 = true := by
  rw [← zVer0_eq]
  decide +kernel
theorem xok_215 (l : Launch) : xCk l 142 xc_215 := ⟨xm_X9_ordered, rfl, xVer_ok xk_all (xHt_ok l) (T := xT_215) (xTc (xok_26 l) (xTn l)) rfl (f := 100000) (cuts := xu_215) xv_215 (fun Cu h => absurd h List.not_mem_nil)⟩
def kc459 : xC := kO 9 [kX 20, kI 1, kR 1, kX 21, kX 22, kX 23, kI 2, kX 24, kR 13, kX 25, kR 22, kX 26, kX 27, kX 28]
def kc460 : xC := kO 6 [kR 1, kR 14, kR 15, kR 16, kR 17, kI 13, kI 14, kR 18, kR 19, kR 20, kR 21]
def kc461 : xC := kO 1 [kR 1, kR 13, kR 23, kI 15, kI 16]
def kc462 : xC := kO 1 [kR 1, kR 13, kR 23, kI 10, kI 11]
def xc_216 : xCt := (([kc459, kc443, kc36, kc13, kc20, kc31, kc14, kc21, kc22, kc23, kc15, kc4, kc5, kc444, kc14, kc14, kc16, kc0, kc28, kc23, kc23, kc14, kc462, kc14], [kA3, (0, 800), kA3, kA3, (0, 6), (0, 30), kA3, (0, 24), kA3, kA3, kA3, kA3], [([(7, 6), (4, (-1))], 0)], [kR 0, kI 0], 9), [([kc459, kc443, kc36, kc13, kc20, kc31, kc14, kc21, kc22, kc23, kc15, kc4, kc5, kc460, kc14, kc14, kc16, kc0, kc28, kc23, kc23, kc14, kc461, kc14], [kA3, (0, 800), kA3, kA3, (0, 6), (0, 30), kA3, (0, 24), kA3, kA3, kA3, kA3, kA3, kA3, kA3, kA3, kA3], [], [kI 12], 9)], 6)
def xu_216 : List xCu := []
def xT_216 : List (Nat × xCt) := [(7, xc_26)]
theorem xv_216 : xVer0 xT_216 xHt 100000 143 xm_X9_order xc_216 xu_216 = true := by
  rw [← zVer0_eq]
  decide +kernel
theorem xok_216 (l : Launch) : xCk l 143 xc_216 := ⟨xm_X9_order, rfl, xVer_ok xk_all (xHt_ok l) (T := xT_216) (xTc (xok_26 l) (xTn l)) rfl (f := 100000) (cuts := xu_216) xv_216 (fun Cu h => absurd h List.not_mem_nil)⟩
def kc463 : xC := kO 1 [kR 1, kR 13, kX 29, kI 9, kI 10]
def xc_217 : xCt := (([kc456, kc68, kc12, kc13, kc20, kc31, kc14, kc21, kc22, kc23, kc15, kc4, kc5, kc70, kc14, kc14, kc16, kc0, kc28, kc23, kc23, kc14, kc463], [(0, 800), kA3, kA3, (0, 6), (0, 30), kA3, (0, 24), kA3, kA3, kA3, kA3], [([(6, 6), (3, (-1))], 0)], [kR 0], 10), [([kc456, kc68, kc12, kc13, kc20, kc31, kc14, kc21, kc22, kc23, kc15, kc4, kc5, kc440, kc14, kc14, kc16, kc0, kc28, kc23, kc23, kc14, kc463], [(0, 800), kA3, kA3, (0, 6), (0, 30), kA3, (0, 24), kA3, kA3, kA3, kA3, ((-2), 60), kA3, kA3], [], [kI 11], 10)], 6)
def xu_217 : List xCu := []
def xT_217 : List (Nat × xCt) := [(10, xc_27)]
theorem xv_217 : xVer0 xT_217 xHt 100000 144 xm_X9_change xc_217 xu_217 = true := by
  rw [← zVer0_eq]
  decide +kernel
theorem xok_217 (l : Launch) : xCk l 144 xc_217 := ⟨xm_X9_change, rfl, xVer_ok xk_all (xHt_ok l) (T := xT_217) (xTc (xok_27 l) (xTn l)) rfl (f := 100000) (cuts := xu_217) xv_217 (fun Cu h => absurd h List.not_mem_nil)⟩
def kc464 : xC := kO 9 [kX 20, kI 1, kR 1, kX 21, kX 22, kX 23, kI 2, kX 24, kR 13, kX 25, kX 26, kR 22, kX 27, kX 28]
def kc465 : xC := kO 0 [kR 1, kR 13, kR 23, kR 24, kJ 14]
def kc466 : xC := kO 0 [kR 1, kR 13, kR 24, kR 23, kJ 13]
def kc467 : xC := kO 0 [kR 1, kR 13, kR 23, kR 24, kJ 10]
def xc_218 : xCt := (([kc464, kc443, kc36, kc13, kc20, kc31, kc14, kc21, kc22, kc23, kc15, kc4, kc5, kc444, kc14, kc14, kc16, kc0, kc28, kc23, kc23, kc14, kc467, kc1, kc1], [kA3, (0, 800), kA3, kA3, (0, 6), (0, 30), kA3, (0, 24), kA3, kA3, kA6], [([(7, 6), (4, (-1))], 0)], [kR 0, kI 0], 9), [([kc464, kc443, kc36, kc13, kc20, kc31, kc14, kc21, kc22, kc23, kc15, kc4, kc5, kc440, kc14, kc14, kc16, kc0, kc28, kc23, kc23, kc14, kc465, kc1, kc1], [kA3, (0, 800), kA3, kA3, (0, 6), (0, 30), kA3, (0, 24), kA3, kA3, kA6, kA3, kA3, kA3, kA6], [], [kI 11], 9), ([kc464, kc443, kc36, kc13, kc20, kc31, kc14, kc21, kc22, kc23, kc15, kc4, kc5, kc72, kc14, kc14, kc16, kc0, kc28, kc23, kc23, kc14, kc466, kc1, kc1], [kA3, (0, 800), kA3, kA3, (0, 6), (0, 30), kA3, (0, 24), kA3, kA3, kA6, kA3, kA3, kA6], [], [kI 11], 9)], 6)
def xu_218 : List xCu := []
def xT_218 : List (Nat × xCt) := [(1, xc_30)]
theorem xv_218 : xVer0 xT_218 xHt 100000 145 xm_X9_irons xc_218 xu_218 = true := by
  rw [← zVer0_eq]
  decide +kernel
theorem xok_218 (l : Launch) : xCk l 145 xc_218 := ⟨xm_X9_irons, rfl, xVer_ok xk_all (xHt_ok l) (T := xT_218) (xTc (xok_30 l) (xTn l)) rfl (f := 100000) (cuts := xu_218) xv_218 (fun Cu h => absurd h List.not_mem_nil)⟩
def xc_219 : xCt := (([kc464, kc443, kc36, kc13, kc20, kc31, kc14, kc21, kc22, kc23, kc15, kc4, kc5, kc444, kc14, kc14, kc16, kc0, kc28, kc23, kc23, kc14, kc467, kc1, kc1], [kA3, (0, 800), kA3, kA3, (0, 6), (0, 30), kA3, (0, 24), kA3, kA3, kA6], [([(7, 6), (4, (-1))], 0)], [kR 0, kI 0], 9), [([kc464, kc443, kc36, kc13, kc20, kc31, kc14, kc21, kc22, kc23, kc15, kc4, kc5, kc440, kc14, kc14, kc16, kc0, kc28, kc23, kc23, kc14, kc465, kc1, kc1], [kA3, (0, 800), kA3, kA3, (0, 6), (0, 30), kA3, (0, 24), kA3, kA3, kA6, ((-2), 16777215), kA3, kA3, kA6], [], [kI 11], 9), ([kc464, kc443, kc36, kc13, kc20, kc31, kc14, kc21, kc22, kc23, kc15, kc4, kc5, kc72, kc14, kc14, kc16, kc0, kc28, kc23, kc23, kc14, kc466, kc1, kc1], [kA3, (0, 800), kA3, kA3, (0, 6), (0, 30), kA3, (0, 24), kA3, kA3, kA6, ((-1), 16777215), kA3, kA6], [], [kI 11], 9)], 6)
def xu_219 : List xCu := []
def xT_219 : List (Nat × xCt) := [(1, xc_30)]
theorem xv_219 : xVer0 xT_219 xHt 100000 146 xm_X9_ironed xc_219 xu_219 = true := by
  rw [← zVer0_eq]
  decide +kernel
theorem xok_219 (l : Launch) : xCk l 146 xc_219 := ⟨xm_X9_ironed, rfl, xVer_ok xk_all (xHt_ok l) (T := xT_219) (xTc (xok_30 l) (xTn l)) rfl (f := 100000) (cuts := xu_219) xv_219 (fun Cu h => absurd h List.not_mem_nil)⟩
def kc468 : xC := kO 6 [kR 1, kR 23, kR 24, kR 25, kR 26, kI 25, kI 26, kR 27, kR 28, kR 29, kR 30]
def kc469 : xC := kO 7 [kR 1, kR 22, kI 27, kI 28, kI 29, kI 30, kI 31, kR 32]
def xc_220 : xCt := (([kc406, kc407, kc90, kc13, kc20, kc31, kc14, kc21, kc22, kc23, kc15, kc4, kc5, kc408, kc409, kc2, kc410, kc2, kc411, kc2, kc412, kc2, kc413, kc14, kc14, kc16, kc0, kc28, kc23, kc23, kc14, kc414, kc23], [kA3, kA3, (0, 800), kA3, kA3, (0, 6), (0, 30), kA3, (0, 24), kA3, ((-1), 60), kA3, ((-1), 60), kA3, ((-1), 60), kA3, ((-1), 60), kA3, kA3, kA3, kA3, kA3, kA3, kA3], [([(8, 6), (5, (-1))], 0)], [kR 0, kI 0, kI 1], 8), [([kc406, kc407, kc90, kc13, kc20, kc31, kc14, kc21, kc22, kc23, kc15, kc4, kc5, kc408, kc409, kc2, kc410, kc2, kc411, kc2, kc412, kc2, kc468, kc14, kc14, kc16, kc0, kc28, kc23, kc23, kc14, kc469, kc23], [kA3, kA3, (0, 800), kA3, kA3, (0, 6), (0, 30), kA3, (0, 24), kA3, ((-1), 60), kA3, ((-1), 60), kA3, ((-1), 60), kA3, ((-1), 60), kA3, kA3, kA3, kA3, kA3, kA3, kA3, kA3, kA3, kA3, kA3, kA3, kA3, kA3, kA3], [], [kI 24], 8)], 6)
def xu_220 : List xCu := []
def xT_220 : List (Nat × xCt) := [(148, xc_174)]
theorem xv_220 : xVer0 xT_220 xHt 100000 147 xm_X9_stiffs xc_220 xu_220 = true := by
  rw [← zVer0_eq]
  decide +kernel
theorem xok_220 (l : Launch) : xCk l 147 xc_220 := ⟨xm_X9_stiffs, rfl, xVer_ok xk_all (xHt_ok l) (T := xT_220) (xTc (xok_174 l) (xTn l)) rfl (f := 100000) (cuts := xu_220) xv_220 (fun Cu h => absurd h List.not_mem_nil)⟩
def xc_221 : xCt := (([kc406, kc407, kc90, kc13, kc20, kc31, kc14, kc21, kc22, kc23, kc15, kc4, kc5, kc408, kc409, kc2, kc410, kc2, kc411, kc2, kc412, kc2, kc413, kc14, kc14, kc16, kc0, kc28, kc23, kc23, kc14, kc414, kc23], [kA3, kA3, (0, 800), kA3, kA3, (0, 6), (0, 30), kA3, (0, 24), kA3, ((-1), 60), kA3, ((-1), 60), kA3, ((-1), 60), kA3, ((-1), 60), kA3, kA3, kA3, kA3, kA3, kA3, kA3], [([(8, 6), (5, (-1))], 0)], [kR 0, kI 0, kI 1], 8), [([kc406, kc407, kc90, kc13, kc20, kc31, kc14, kc21, kc22, kc23, kc15, kc4, kc5, kc408, kc409, kc2, kc410, kc2, kc411, kc2, kc412, kc2, kc468, kc14, kc14, kc16, kc0, kc28, kc23, kc23, kc14, kc469, kc23], [kA3, kA3, (0, 800), kA3, kA3, (0, 6), (0, 30), kA3, (0, 24), kA3, ((-1), 60), kA3, ((-1), 60), kA3, ((-1), 60), kA3, ((-1), 60), kA3, kA3, kA3, kA3, kA3, kA3, kA3, kA3, kA3, kA3, kA3, kA3, kA3, kA3, kA3], [], [kI 24], 8)], 6)
def xu_221 : List xCu := []
def xT_221 : List (Nat × xCt) := [(148, xc_174)]
theorem xv_221 : xVer0 xT_221 xHt 100000 150 xm_X9_least xc_221 xu_221 = true := by
  rw [← zVer0_eq]
  decide +kernel
theorem xok_221 (l : Launch) : xCk l 150 xc_221 := ⟨xm_X9_least, rfl, xVer_ok xk_all (xHt_ok l) (T := xT_221) (xTc (xok_174 l) (xTn l)) rfl (f := 100000) (cuts := xu_221) xv_221 (fun Cu h => absurd h List.not_mem_nil)⟩
def xc_222 : xCt := (([kc406, kc407, kc90, kc13, kc20, kc31, kc14, kc21, kc22, kc23, kc15, kc4, kc5, kc408, kc409, kc2, kc410, kc2, kc411, kc2, kc412, kc2, kc413, kc14, kc14, kc16, kc0, kc28, kc23, kc23, kc14, kc414, kc23], [kA3, kA3, (0, 800), kA3, kA3, (0, 6), (0, 30), kA3, (0, 24), kA3, ((-1), 60), kA3, ((-1), 60), kA3, ((-1), 60), kA3, ((-1), 60), kA3, kA3, kA3, kA3, kA3, kA3, kA3], [([(8, 6), (5, (-1))], 0)], [kR 0, kI 0, kI 1], 8), [([kc406, kc407, kc90, kc13, kc20, kc31, kc14, kc21, kc22, kc23, kc15, kc4, kc5, kc408, kc409, kc2, kc410, kc2, kc411, kc2, kc412, kc2, kc468, kc14, kc14, kc16, kc0, kc28, kc23, kc23, kc14, kc469, kc23], [kA3, kA3, (0, 800), kA3, kA3, (0, 6), (0, 30), kA3, (0, 24), kA3, ((-1), 60), kA3, ((-1), 60), kA3, ((-1), 60), kA3, ((-1), 60), kA3, kA3, kA3, kA3, kA3, kA3, kA3, kA3, kA3, kA3, kA3, kA3, kA3, kA3, kA3], [], [kI 24], 8)], 6)
def xu_222 : List xCu := []
def xT_222 : List (Nat × xCt) := [(148, xc_174)]
theorem xv_222 : xVer0 xT_222 xHt 100000 151 xm_X9_most xc_222 xu_222 = true := by
  rw [← zVer0_eq]
  decide +kernel
theorem xok_222 (l : Launch) : xCk l 151 xc_222 := ⟨xm_X9_most, rfl, xVer_ok xk_all (xHt_ok l) (T := xT_222) (xTc (xok_174 l) (xTn l)) rfl (f := 100000) (cuts := xu_222) xv_222 (fun Cu h => absurd h List.not_mem_nil)⟩
def xc_223 : xCt := (([kc406, kc407, kc90, kc13, kc20, kc31, kc14, kc21, kc22, kc23, kc15, kc4, kc5, kc408, kc409, kc2, kc410, kc2, kc411, kc2, kc412, kc2, kc413, kc14, kc14, kc16, kc0, kc28, kc23, kc23, kc14, kc414, kc23], [kA3, kA3, (0, 800), kA3, kA3, (0, 6), (0, 30), kA3, (0, 24), kA3, ((-1), 60), kA3, ((-1), 60), kA3, ((-1), 60), kA3, ((-1), 60), kA3, kA3, kA3, kA3, kA3, kA3, kA3], [([(8, 6), (5, (-1))], 0)], [kR 0, kI 0, kI 1], 8), [([kc406, kc407, kc90, kc13, kc20, kc31, kc14, kc21, kc22, kc23, kc15, kc4, kc5, kc408, kc409, kc2, kc410, kc2, kc411, kc2, kc412, kc2, kc468, kc14, kc14, kc16, kc0, kc28, kc23, kc23, kc14, kc469, kc23], [kA3, kA3, (0, 800), kA3, kA3, (0, 6), (0, 30), kA3, (0, 24), kA3, ((-1), 60), kA3, ((-1), 60), kA3, ((-1), 60), kA3, ((-1), 60), kA3, kA3, kA3, kA3, kA3, kA3, kA3, ((-6), 23), kA3, kA3, kA3, kA3, kA3, kA3, kA3], [], [kI 24], 8)], 6)
def xu_223 : List xCu := []
def xT_223 : List (Nat × xCt) := [(89, xc_41), (148, xc_174)]
theorem xv_223 : xVer0 xT_223 xHt 100000 152 xm_X9_ask xc_223 xu_223 = true := by
  rw [← zVer0_eq]
  decide +kernel
theorem xok_223 (l : Launch) : xCk l 152 xc_223 := ⟨xm_X9_ask, rfl, xVer_ok xk_all (xHt_ok l) (T := xT_223) (xTc (xok_41 l) (xTc (xok_174 l) (xTn l))) rfl (f := 100000) (cuts := xu_223) xv_223 (fun Cu h => absurd h List.not_mem_nil)⟩
def xc_224 : xCt := (([kc406, kc407, kc90, kc13, kc20, kc31, kc14, kc21, kc22, kc23, kc15, kc4, kc5, kc408, kc409, kc2, kc410, kc2, kc411, kc2, kc412, kc2, kc413, kc14, kc14, kc16, kc0, kc28, kc23, kc23, kc14, kc414, kc23], [kA3, kA3, (0, 800), kA3, kA3, (0, 6), (0, 30), kA3, (0, 24), kA3, ((-1), 60), kA3, ((-1), 60), kA3, ((-1), 60), kA3, ((-1), 60), kA3, kA3, kA3, kA3, kA3, kA3, kA3], [([(8, 6), (5, (-1))], 0)], [kR 0, kI 0, kI 1], 8), [([kc406, kc407, kc90, kc13, kc20, kc31, kc14, kc21, kc22, kc23, kc15, kc4, kc5, kc408, kc409, kc2, kc410, kc2, kc411, kc2, kc412, kc2, kc468, kc14, kc14, kc16, kc0, kc28, kc23, kc23, kc14, kc469, kc23], [kA3, kA3, (0, 800), kA3, kA3, (0, 6), (0, 30), kA3, (0, 24), kA3, ((-1), 60), kA3, ((-1), 60), kA3, ((-1), 60), kA3, ((-1), 60), kA3, kA3, kA3, kA3, kA3, kA3, kA3, kA3, kA3, kA3, kA3, kA3, kA3, kA3, kA3], [], [kI 24], 8)], 6)
def xu_224 : List xCu := []
def xT_224 : List (Nat × xCt) := [(148, xc_174)]
theorem xv_224 : xVer0 xT_224 xHt 100000 153 xm_X9_soon xc_224 xu_224 = true := by
  rw [← zVer0_eq]
  decide +kernel
theorem xok_224 (l : Launch) : xCk l 153 xc_224 := ⟨xm_X9_soon, rfl, xVer_ok xk_all (xHt_ok l) (T := xT_224) (xTc (xok_174 l) (xTn l)) rfl (f := 100000) (cuts := xu_224) xv_224 (fun Cu h => absurd h List.not_mem_nil)⟩
def xc_225 : xCt := (([kc406, kc407, kc90, kc13, kc20, kc31, kc14, kc21, kc22, kc23, kc15, kc4, kc5, kc408, kc409, kc2, kc410, kc2, kc411, kc2, kc412, kc2, kc413, kc14, kc14, kc16, kc0, kc28, kc23, kc23, kc14, kc414, kc23], [kA3, kA3, (0, 800), kA3, kA3, (0, 6), (0, 30), kA3, (0, 24), kA3, ((-1), 60), kA3, ((-1), 60), kA3, ((-1), 60), kA3, ((-1), 60), kA3, kA3, kA3, kA3, kA3, kA3, kA3], [([(8, 6), (5, (-1))], 0)], [kR 0, kI 0, kI 1], 8), [([kc406, kc407, kc90, kc13, kc20, kc31, kc14, kc21, kc22, kc23, kc15, kc4, kc5, kc408, kc409, kc2, kc410, kc2, kc411, kc2, kc412, kc2, kc468, kc14, kc14, kc16, kc0, kc28, kc23, kc23, kc14, kc469, kc23], [kA3, kA3, (0, 800), kA3, kA3, (0, 6), (0, 30), kA3, (0, 24), kA3, ((-1), 60), kA3, ((-1), 60), kA3, ((-1), 60), kA3, ((-1), 60), kA3, kA3, kA3, kA3, kA3, kA3, kA3, kA3, kA3, kA3, kA3, kA3, kA3, kA3, kA3], [], [kI 24], 8)], 6)
def xu_225 : List xCu := []
def xT_225 : List (Nat × xCt) := [(148, xc_174)]
theorem xv_225 : xVer0 xT_225 xHt 100000 154 xm_X9_late xc_225 xu_225 = true := by
  rw [← zVer0_eq]
  decide +kernel
theorem xok_225 (l : Launch) : xCk l 154 xc_225 := ⟨xm_X9_late, rfl, xVer_ok xk_all (xHt_ok l) (T := xT_225) (xTc (xok_174 l) (xTn l)) rfl (f := 100000) (cuts := xu_225) xv_225 (fun Cu h => absurd h List.not_mem_nil)⟩
def kc470 : xC := kO 9 [kX 20, kI 1, kR 1, kX 21, kX 22, kX 23, kI 2, kR 13, kR 22, kX 24, kX 25, kX 26, kR 31, kX 27]
def kc471 : xC := kO 4 [kI 8, kI 9, kR 15]
def kc472 : xC := kO 4 [kI 10, kI 11, kR 17]
def kc473 : xC := kO 4 [kI 12, kI 13, kR 19]
def kc474 : xC := kO 4 [kI 14, kI 15, kR 21]
def kc475 : xC := kO 6 [kR 1, kR 23, kR 24, kR 25, kR 26, kI 24, kI 25, kR 27, kR 28, kR 29, kR 30]
def kc476 : xC := kO 7 [kR 1, kR 22, kI 18, kI 19, kI 20, kI 21, kI 22, kX 28]
def kc477 : xC := kO 6 [kR 1, kR 23, kR 24, kR 25, kR 26, kI 16, kI 17, kR 27, kR 28, kR 29, kR 30]
def xc_226 : xCt := (([kc470, kc443, kc36, kc13, kc20, kc31, kc14, kc21, kc22, kc23, kc15, kc4, kc5, kc408, kc471, kc2, kc472, kc2, kc473, kc2, kc474, kc2, kc477, kc14, kc14, kc16, kc0, kc28, kc23, kc23, kc14, kc476], [kA3, (0, 800), kA3, kA3, (0, 6), (0, 30), kA3, (0, 24), kA3, ((-1), 60), kA3, ((-1), 60), kA3, ((-1), 60), kA3, ((-1), 60), kA3, kA3, kA3, kA3, kA3, kA3, kA3], [([(7, 6), (4, (-1))], 0)], [kR 0, kI 0], 9), [([kc470, kc443, kc36, kc13, kc20, kc31, kc14, kc21, kc22, kc23, kc15, kc4, kc5, kc408, kc471, kc2, kc472, kc2, kc473, kc2, kc474, kc2, kc475, kc14, kc14, kc16, kc0, kc28, kc23, kc23, kc14, kc476], [kA3, (0, 800), kA3, kA3, (0, 6), (0, 30), kA3, (0, 24), kA3, ((-1), 60), kA3, ((-1), 60), kA3, ((-1), 60), kA3, ((-1), 60), kA3, kA3, kA3, kA3, kA3, kA3, kA3, kA3, kA3, kA3], [], [kI 23], 9)], 5)
def xu_226 : List xCu := []
def xT_226 : List (Nat × xCt) := []
theorem xs_226 : (Nat.ble (xsum xc_226.1.2.2.2.1) xm_X9_laws.nl && Nat.blt 0 xc_226.1.2.1.length) = true := by decide +kernel
def xT_226_0 : List (Nat × xCt) := []
theorem xv_226_0 : (((xRegL xc_226.1.2.1 0 3).drop 0).take 1).all (xVerRs xT_226_0 xHt 100000 155 xm_X9_laws xc_226 xu_226 [0] []) = true := by
  rw [← zRegL_eq, ← zVerRs_eq]
  decide +kernel
def xT_226_1 : List (Nat × xCt) := [(85, xc_43), (90, xc_107), (90, xc_109), (90, xc_111), (90, xc_113), (90, xc_115), (90, xc_117), (90, xc_119), (90, xc_121), (90, xc_123), (90, xc_125), (90, xc_127), (90, xc_129), (90, xc_131), (90, xc_133), (90, xc_135), (90, xc_137), (90, xc_139), (90, xc_141), (90, xc_143), (90, xc_145), (90, xc_147)]
theorem xv_226_1 : (((xRegL xc_226.1.2.1 0 3).drop 1).take 1).all (xVerRs xT_226_1 xHt 100000 155 xm_X9_laws xc_226 xu_226 [0] []) = true := by
  rw [← zRegL_eq, ← zVerRs_eq]
  decide +kernel
def xT_226_2 : List (Nat × xCt) := [(85, xc_43), (90, xc_107), (90, xc_109), (90, xc_111), (90, xc_113), (90, xc_115), (90, xc_117), (90, xc_119), (90, xc_121), (90, xc_123), (90, xc_125), (90, xc_127), (90, xc_129), (90, xc_131), (90, xc_133), (90, xc_135), (90, xc_137), (90, xc_139), (90, xc_141), (90, xc_143), (90, xc_145), (90, xc_147)]
theorem xv_226_2 : (((xRegL xc_226.1.2.1 0 3).drop 2).take 1).all (xVerRs xT_226_2 xHt 100000 155 xm_X9_laws xc_226 xu_226 [0] []) = true := by
  rw [← zRegL_eq, ← zVerRs_eq]
  decide +kernel
def xT_226_3 : List (Nat × xCt) := [(85, xc_43), (90, xc_107), (90, xc_109), (90, xc_111), (90, xc_113), (90, xc_115), (90, xc_117), (90, xc_119), (90, xc_121), (90, xc_123), (90, xc_125), (90, xc_127), (90, xc_129), (90, xc_131), (90, xc_133), (90, xc_135), (90, xc_137), (90, xc_139), (90, xc_141), (90, xc_143), (90, xc_145), (90, xc_147)]
theorem xv_226_3 : (((xRegL xc_226.1.2.1 0 3).drop 3).take 1).all (xVerRs xT_226_3 xHt 100000 155 xm_X9_laws xc_226 xu_226 [0] []) = true := by
  rw [← zRegL_eq, ← zVerRs_eq]
  decide +kernel
def xT_226_4 : List (Nat × xCt) := [(85, xc_43), (90, xc_107), (90, xc_109), (90, xc_111), (90, xc_113), (90, xc_115), (90, xc_117), (90, xc_119), (90, xc_121), (90, xc_123), (90, xc_125), (90, xc_127), (90, xc_129), (90, xc_131), (90, xc_133), (90, xc_135), (90, xc_137), (90, xc_139), (90, xc_141), (90, xc_143), (90, xc_145), (90, xc_147)]
theorem xv_226_4 : (((xRegL xc_226.1.2.1 0 3).drop 4).take 1).all (xVerRs xT_226_4 xHt 100000 155 xm_X9_laws xc_226 xu_226 [0] []) = true := by
  rw [← zRegL_eq, ← zVerRs_eq]
  decide +kernel
def xT_226_5 : List (Nat × xCt) := []
theorem xv_226_5 : (((xRegL xc_226.1.2.1 0 3).drop 5).take 1).all (xVerRs xT_226_5 xHt 100000 155 xm_X9_laws xc_226 xu_226 [0] []) = true := by
  rw [← zRegL_eq, ← zVerRs_eq]
  decide +kernel
theorem xok_226 (l : Launch) : xCk l 155 xc_226 := ⟨xm_X9_laws, rfl, xVer_okRU xk_all (xHt_ok l) (T := xT_226) (xTn l) rfl (f := 100000) (k := 0) (n := 3) (cuts := xu_226) xs_226 (xRg0 (xRgS 0 1 (xRgO (fun τ h => ⟨xT_226_0, xTn l, xFromS_ok h⟩) xv_226_0) (xRgS 1 1 (xRgO (fun τ h => ⟨xT_226_1, xTc (xok_43 l) (xTc (xok_107 l) (xTc (xok_109 l) (xTc (xok_111 l) (xTc (xok_113 l) (xTc (xok_115 l) (xTc (xok_117 l) (xTc (xok_119 l) (xTc (xok_121 l) (xTc (xok_123 l) (xTc (xok_125 l) (xTc (xok_127 l) (xTc (xok_129 l) (xTc (xok_131 l) (xTc (xok_133 l) (xTc (xok_135 l) (xTc (xok_137 l) (xTc (xok_139 l) (xTc (xok_141 l) (xTc (xok_143 l) (xTc (xok_145 l) (xTc (xok_147 l) (xTn l)))))))))))))))))))))), xFromS_ok h⟩) xv_226_1) (xRgS 2 1 (xRgO (fun τ h => ⟨xT_226_2, xTc (xok_43 l) (xTc (xok_107 l) (xTc (xok_109 l) (xTc (xok_111 l) (xTc (xok_113 l) (xTc (xok_115 l) (xTc (xok_117 l) (xTc (xok_119 l) (xTc (xok_121 l) (xTc (xok_123 l) (xTc (xok_125 l) (xTc (xok_127 l) (xTc (xok_129 l) (xTc (xok_131 l) (xTc (xok_133 l) (xTc (xok_135 l) (xTc (xok_137 l) (xTc (xok_139 l) (xTc (xok_141 l) (xTc (xok_143 l) (xTc (xok_145 l) (xTc (xok_147 l) (xTn l)))))))))))))))))))))), xFromS_ok h⟩) xv_226_2) (xRgS 3 1 (xRgO (fun τ h => ⟨xT_226_3, xTc (xok_43 l) (xTc (xok_107 l) (xTc (xok_109 l) (xTc (xok_111 l) (xTc (xok_113 l) (xTc (xok_115 l) (xTc (xok_117 l) (xTc (xok_119 l) (xTc (xok_121 l) (xTc (xok_123 l) (xTc (xok_125 l) (xTc (xok_127 l) (xTc (xok_129 l) (xTc (xok_131 l) (xTc (xok_133 l) (xTc (xok_135 l) (xTc (xok_137 l) (xTc (xok_139 l) (xTc (xok_141 l) (xTc (xok_143 l) (xTc (xok_145 l) (xTc (xok_147 l) (xTn l)))))))))))))))))))))), xFromS_ok h⟩) xv_226_3) (xRgS 4 1 (xRgO (fun τ h => ⟨xT_226_4, xTc (xok_43 l) (xTc (xok_107 l) (xTc (xok_109 l) (xTc (xok_111 l) (xTc (xok_113 l) (xTc (xok_115 l) (xTc (xok_117 l) (xTc (xok_119 l) (xTc (xok_121 l) (xTc (xok_123 l) (xTc (xok_125 l) (xTc (xok_127 l) (xTc (xok_129 l) (xTc (xok_131 l) (xTc (xok_133 l) (xTc (xok_135 l) (xTc (xok_137 l) (xTc (xok_139 l) (xTc (xok_141 l) (xTc (xok_143 l) (xTc (xok_145 l) (xTc (xok_147 l) (xTn l)))))))))))))))))))))), xFromS_ok h⟩) xv_226_4) (xRgS 5 1 (xRgO (fun τ h => ⟨xT_226_5, xTn l, xFromS_ok h⟩) xv_226_5) (xRgZ (by decide +kernel))))))))) (fun Cu h => absurd h List.not_mem_nil)⟩
def xc_227 : xCt := (([kc442, kc443, kc36, kc13, kc20, kc31, kc14, kc21, kc22, kc23, kc15, kc4, kc5, kc444, kc14, kc14, kc16, kc0, kc28, kc23, kc23, kc14], [kA3, (0, 800), kA3, kA3, (0, 6), (0, 30), kA3, (0, 24), kA3, kA3], [([(7, 6), (4, (-1))], 0)], [kR 0, kI 0], 10), [([kc442, kc443, kc36, kc13, kc20, kc31, kc14, kc21, kc22, kc23, kc15, kc4, kc5, kc63, kc14, kc14, kc16, kc0, kc28, kc23, kc23, kc14], [kA3, (0, 800), kA3, kA3, (0, 6), (0, 30), kA3, (0, 24), kA3, kA3, ((-2), 23), kA3, kA3], [], [kI 10], 10)], 6)
def xu_227 : List xCu := []
def xT_227 : List (Nat × xCt) := [(61, xc_7), (78, xc_18)]
theorem xv_227 : xVer0 xT_227 xHt 100000 156 xm_X9_by xc_227 xu_227 = true := by
  rw [← zVer0_eq]
  decide +kernel
theorem xok_227 (l : Launch) : xCk l 156 xc_227 := ⟨xm_X9_by, rfl, xVer_ok xk_all (xHt_ok l) (T := xT_227) (xTc (xok_7 l) (xTc (xok_18 l) (xTn l))) rfl (f := 100000) (cuts := xu_227) xv_227 (fun Cu h => absurd h List.not_mem_nil)⟩
def xc_228 : xCt := (([kc445, kc68, kc12, kc13, kc20, kc31, kc14, kc21, kc22, kc23, kc15, kc4, kc5, kc70, kc14, kc14, kc16, kc0, kc28, kc23, kc23, kc14], [(0, 800), kA3, kA3, (0, 6), (0, 30), kA3, (0, 24), kA3, kA3], [([(6, 6), (3, (-1))], 0)], [kR 0], 10), [([kc445, kc68, kc12, kc13, kc20, kc31, kc14, kc21, kc22, kc23, kc15, kc4, kc5, kc56, kc14, kc14, kc16, kc0, kc28, kc23, kc23, kc14], [(0, 800), kA3, kA3, (0, 6), (0, 30), kA3, (0, 24), kA3, kA3, ((-2), 3), kA3, kA3], [], [kI 9], 10)], 5)
def xu_228 : List xCu := [(26, [0, 1, 2, 3], ([kc445, kc68, kc12, kc13, kc20, kc31, kc14, kc21, kc22, kc23, kc15, kc4, kc5, kc72, kc14, kc14, kc16, kc0, kc28, kc23, kc23, kc14], [(0, 800), kA3, (1, kW), (0, 6), (0, 30), kA3, (0, 24), kA3, kA3, ((-1), 3), ((-1), 24), (0, 4), kA3], [([(6, 6), (3, (-1))], 0)], [kR 0, kI 9, kI 10, kI 11], 10), ([(11, (-1))], 4))]
def xT_228 : List (Nat × xCt) := [(61, xc_7), (78, xc_18)]
theorem xv_228 : xVer0 xT_228 xHt 100000 157 xm_X9_law xc_228 xu_228 = true := by
  rw [← zVer0_eq]
  decide +kernel
theorem xw_228_0 : ((xu_228.drop 0).take 1).all (xVerC xT_228 xHt 100000 157 xm_X9_law xc_228 xu_228) = true := by
  rw [← zVerC_eq]
  decide +kernel
theorem xok_228 (l : Launch) : xCk l 157 xc_228 := ⟨xm_X9_law, rfl, xVer_ok xk_all (xHt_ok l) (T := xT_228) (xTc (xok_7 l) (xTc (xok_18 l) (xTn l))) rfl (f := 100000) (cuts := xu_228) xv_228 (xAll0 (xAllS 0 1 xw_228_0 (xAllZ (by decide +kernel))))⟩
def xc_229 : xCt := (([kc439, kc407, kc90, kc13, kc20, kc31, kc14, kc21, kc22, kc23, kc15, kc4, kc5, kc441, kc14, kc14, kc16, kc0, kc28, kc23, kc23, kc14], [kA3, kA3, (0, 800), kA3, kA3, (0, 6), (0, 30), kA3, (0, 24), kA3, kA3], [([(8, 6), (5, (-1))], 0)], [kR 0, kI 0, kI 1], 10), [([kc439, kc407, kc90, kc13, kc20, kc31, kc14, kc21, kc22, kc23, kc15, kc4, kc5, kc440, kc14, kc14, kc16, kc0, kc28, kc23, kc23, kc14], [kA3, kA3, (0, 800), kA3, kA3, (0, 6), (0, 30), kA3, (0, 24), kA3, kA3, kA3, kA3, kA3], [], [kI 11], 10)], 6)
def xu_229 : List xCu := [(17, [0, 1, 2, 3, 4], ([kc439, kc407, kc90, kc13, kc20, kc31, kc14, kc21, kc22, kc23, kc15, kc4, kc5, kc460, kc14, kc14, kc16, kc0, kc28, kc23, kc23, kc14], [(0, 5), (0, 5), (0, 800), kA3, kA3, (1, 6), (0, 30), kA3, (0, 24), kA3, kA3, kA3, (0, 4), kA3, kA3], [([(8, 6), (5, (-1))], 0)], [kR 0, kI 0, kI 1, kI 11, kI 12], 10), ([(12, (-1))], 4))]
def xT_229 : List (Nat × xCt) := [(61, xc_7), (64, xc_13), (75, xc_16)]
theorem xv_229 : xVer0 xT_229 xHt 100000 158 xm_X9_rests xc_229 xu_229 = true := by
  rw [← zVer0_eq]
  decide +kernel
theorem xw_229_0 : ((xu_229.drop 0).take 1).all (xVerC xT_229 xHt 100000 158 xm_X9_rests xc_229 xu_229) = true := by
  rw [← zVerC_eq]
  decide +kernel
theorem xok_229 (l : Launch) : xCk l 158 xc_229 := ⟨xm_X9_rests, rfl, xVer_ok xk_all (xHt_ok l) (T := xT_229) (xTc (xok_7 l) (xTc (xok_13 l) (xTc (xok_16 l) (xTn l)))) rfl (f := 100000) (cuts := xu_229) xv_229 (xAll0 (xAllS 0 1 xw_229_0 (xAllZ (by decide +kernel))))⟩
def kc478 : xC := kO 9 [kX 20, kI 4, kR 1, kX 21, kX 22, kX 23, kI 5, kX 24, kR 13, kX 25, kX 26, kX 27, kX 28, kX 29]
def xc_230 : xCt := (([kc478, kc60, kc61, kc13, kc20, kc31, kc14, kc21, kc22, kc23, kc15, kc4, kc5, kc63, kc14, kc14, kc16, kc0, kc28, kc23, kc23, kc14], [kA3, kA3, kA3, kA3, (0, 800), kA3, kA3, (0, 6), (0, 30), kA3, (0, 24), kA3, kA3], [([(10, 6), (7, (-1))], 0)], [kR 0, kI 0, kI 1, kI 2, kI 3], 10), [([kc478, kc60, kc61, kc13, kc20, kc31, kc14, kc21, kc22, kc23, kc15, kc4, kc5, kc99, kc14, kc14, kc16, kc0, kc28, kc23, kc23, kc14], [kA3, kA3, kA3, kA3, (0, 800), kA3, kA3, (0, 6), (0, 30), kA3, (0, 24), kA3, kA3, kA3, kA3, kA3], [], [kI 13], 10)], 5)
def xu_230 : List xCu := []
def xT_230 : List (Nat × xCt) := [(61, xc_7), (64, xc_13), (75, xc_16)]
theorem xv_230 : xVer0 xT_230 xHt 100000 162 xm_X9_gets xc_230 xu_230 = true := by
  rw [← zVer0_eq]
  decide +kernel
theorem xok_230 (l : Launch) : xCk l 162 xc_230 := ⟨xm_X9_gets, rfl, xVer_ok xk_all (xHt_ok l) (T := xT_230) (xTc (xok_7 l) (xTc (xok_13 l) (xTc (xok_16 l) (xTn l)))) rfl (f := 100000) (cuts := xu_230) xv_230 (fun Cu h => absurd h List.not_mem_nil)⟩
def kc479 : xC := kO 9 [kX 20, kI 3, kR 1, kX 21, kX 22, kX 23, kI 4, kX 24, kR 13, kX 25, kX 26, kX 27, kX 28, kR 22]
def kc480 : xC := kO 8 [kR 1, kR 13, kJ 17, kJ 18]
def xc_231 : xCt := (([kc479, kc53, kc48, kc13, kc20, kc31, kc14, kc21, kc22, kc23, kc15, kc4, kc5, kc56, kc14, kc14, kc16, kc0, kc28, kc23, kc23, kc14, kc98], [kA3, kA3, kA3, (0, 800), kA3, kA3, (0, 6), (0, 30), kA3, (0, 24), kA3, kA3, kA6, kA6], [([(9, 6), (6, (-1))], 0)], [kR 0, kI 0, kI 1, kI 2], 9), [([kc479, kc53, kc48, kc13, kc20, kc31, kc14, kc21, kc22, kc23, kc15, kc4, kc5, kc103, kc14, kc14, kc16, kc0, kc28, kc23, kc23, kc14, kc480], [kA3, kA3, kA3, (0, 800), kA3, kA3, (0, 6), (0, 30), kA3, (0, 24), kA3, kA3, kA6, kA6, kA6, kA3, kA3, kA6, kA6], [], [kJ 14], 9)], 6)
def xu_231 : List xCu := []
def xT_231 : List (Nat × xCt) := [(94, xc_35)]
theorem xv_231 : xVer0 xT_231 xHt 100000 164 xm_X9_chance xc_231 xu_231 = true := by
  rw [← zVer0_eq]
  decide +kernel
theorem xok_231 (l : Launch) : xCk l 164 xc_231 := ⟨xm_X9_chance, rfl, xVer_ok xk_all (xHt_ok l) (T := xT_231) (xTc (xok_35 l) (xTn l)) rfl (f := 100000) (cuts := xu_231) xv_231 (fun Cu h => absurd h List.not_mem_nil)⟩
def kc481 : xC := kO 9 [kX 20, kI 2, kR 1, kX 21, kX 22, kX 23, kI 3, kX 24, kR 13, kX 25, kX 26, kX 27, kX 28, kR 22]
def kc482 : xC := kO 8 [kR 1, kR 13, kJ 16, kJ 17]
def kc483 : xC := kO 8 [kR 1, kR 13, kJ 11, kJ 12]
def xc_232 : xCt := (([kc481, kc407, kc90, kc13, kc20, kc31, kc14, kc21, kc22, kc23, kc15, kc4, kc5, kc441, kc14, kc14, kc16, kc0, kc28, kc23, kc23, kc14, kc483], [kA3, kA3, (0, 800), kA3, kA3, (0, 6), (0, 30), kA3, (0, 24), kA3, kA3, kA6, kA6], [([(8, 6), (5, (-1))], 0)], [kR 0, kI 0, kI 1], 9), [([kc481, kc407, kc90, kc13, kc20, kc31, kc14, kc21, kc22, kc23, kc15, kc4, kc5, kc99, kc14, kc14, kc16, kc0, kc28, kc23, kc23, kc14, kc482], [kA3, kA3, (0, 800), kA3, kA3, (0, 6), (0, 30), kA3, (0, 24), kA3, kA3, kA6, kA6, kA6, kA3, kA3, kA6, kA6], [], [kJ 13], 9)], 6)
def xu_232 : List xCu := []
def xT_232 : List (Nat × xCt) := [(94, xc_37)]
theorem xv_232 : xVer0 xT_232 xHt 100000 166 xm_X9_line xc_232 xu_232 = true := by
  rw [← zVer0_eq]
  decide +kernel
theorem xok_232 (l : Launch) : xCk l 166 xc_232 := ⟨xm_X9_line, rfl, xVer_ok xk_all (xHt_ok l) (T := xT_232) (xTc (xok_37 l) (xTn l)) rfl (f := 100000) (cuts := xu_232) xv_232 (fun Cu h => absurd h List.not_mem_nil)⟩
def xc_233 : xCt := (([kc479, kc53, kc48, kc13, kc20, kc31, kc14, kc21, kc22, kc23, kc15, kc4, kc5, kc56, kc14, kc14, kc16, kc0, kc28, kc23, kc23, kc14, kc98], [kA3, kA3, kA3, (0, 800), kA3, kA3, (0, 6), (0, 30), kA3, (0, 24), kA3, kA3, kA6, kA6], [([(9, 6), (6, (-1))], 0)], [kR 0, kI 0, kI 1, kI 2], 9), [([kc479, kc53, kc48, kc13, kc20, kc31, kc14, kc21, kc22, kc23, kc15, kc4, kc5, kc103, kc14, kc14, kc16, kc0, kc28, kc23, kc23, kc14, kc480], [kA3, kA3, kA3, (0, 800), kA3, kA3, (0, 6), (0, 30), kA3, (0, 24), kA3, kA3, kA6, kA6, kA6, kA3, kA3, kA6, kA6], [], [kJ 14], 9)], 6)
def xu_233 : List xCu := []
def xT_233 : List (Nat × xCt) := [(94, xc_39)]
theorem xv_233 : xVer0 xT_233 xHt 100000 167 xm_X9_mean xc_233 xu_233 = true := by
  rw [← zVer0_eq]
  decide +kernel
theorem xok_233 (l : Launch) : xCk l 167 xc_233 := ⟨xm_X9_mean, rfl, xVer_ok xk_all (xHt_ok l) (T := xT_233) (xTc (xok_39 l) (xTn l)) rfl (f := 100000) (cuts := xu_233) xv_233 (fun Cu h => absurd h List.not_mem_nil)⟩
def kc484 : xC := kO 9 [kX 20, kI 3, kR 1, kX 21, kX 22, kX 23, kI 4, kX 24, kR 13, kX 25, kX 26, kX 27, kX 28, kX 29]
def kc485 : xC := kO 2 [kI 5, kI 6, kR 2, kR 3, kR 4, kR 5, kR 6, kR 7, kR 8, kR 9, kI 13, kR 10, kR 11, kR 12, kI 14]
def xc_234 : xCt := (([kc484, kc53, kc48, kc13, kc20, kc31, kc14, kc21, kc22, kc23, kc15, kc4, kc5, kc56, kc14, kc14, kc16, kc0, kc28, kc23, kc23, kc14], [kA3, kA3, kA3, (0, 800), kA3, kA3, (0, 6), (0, 30), kA3, (0, 24), kA3, kA3], [([(9, 6), (6, (-1))], 0)], [kR 0, kI 0, kI 1, kI 2], 10), [([kc484, kc485, kc48, kc13, kc20, kc31, kc14, kc21, kc22, kc23, kc15, kc4, kc5, kc103, kc14, kc14, kc16, kc0, kc28, kc23, kc23, kc14], [kA3, kA3, kA3, (0, 800), kA3, kA3, (0, 6), (0, 30), kA3, (0, 24), kA3, kA3, (kM, 99), (0, 30), kA3, kA3, kA3], [], [kI 12], 10)], 5)
def xu_234 : List xCu := []
def xT_234 : List (Nat × xCt) := [(27, xc_6), (61, xc_7), (64, xc_13)]
theorem xv_234 : xVer0 xT_234 xHt 100000 168 xm_X9_starch xc_234 xu_234 = true := by
  rw [← zVer0_eq]
  decide +kernel
theorem xok_234 (l : Launch) : xCk l 168 xc_234 := ⟨xm_X9_starch, rfl, xVer_ok xk_all (xHt_ok l) (T := xT_234) (xTc (xok_6 l) (xTc (xok_7 l) (xTc (xok_13 l) (xTn l)))) rfl (f := 100000) (cuts := xu_234) xv_234 (fun Cu h => absurd h List.not_mem_nil)⟩
def kc486 : xC := kO 2 [kI 4, kI 5, kR 2, kR 3, kR 4, kR 5, kR 6, kR 7, kR 8, kR 9, kI 12, kR 10, kR 11, kR 12, kI 13]
def xc_235 : xCt := (([kc439, kc407, kc90, kc13, kc20, kc31, kc14, kc21, kc22, kc23, kc15, kc4, kc5, kc441, kc14, kc14, kc16, kc0, kc28, kc23, kc23, kc14], [kA3, kA3, (0, 800), kA3, kA3, (0, 6), (0, 30), kA3, (0, 24), kA3, kA3], [([(8, 6), (5, (-1))], 0)], [kR 0, kI 0, kI 1], 10), [([kc439, kc486, kc90, kc13, kc20, kc31, kc14, kc21, kc22, kc23, kc15, kc4, kc5, kc99, kc14, kc14, kc16, kc0, kc28, kc23, kc23, kc14], [kA3, kA3, (0, 800), kA3, kA3, (0, 6), (0, 30), kA3, (0, 24), kA3, kA3, (kM, 99), (0, 30), kA3, kA3, kA3], [], [kI 11], 10)], 5)
def xu_235 : List xCu := []
def xT_235 : List (Nat × xCt) := [(61, xc_7), (64, xc_13)]
theorem xv_235 : xVer0 xT_235 xHt 100000 169 xm_X9_iron xc_235 xu_235 = true := by
  rw [← zVer0_eq]
  decide +kernel
theorem xok_235 (l : Launch) : xCk l 169 xc_235 := ⟨xm_X9_iron, rfl, xVer_ok xk_all (xHt_ok l) (T := xT_235) (xTc (xok_7 l) (xTc (xok_13 l) (xTn l))) rfl (f := 100000) (cuts := xu_235) xv_235 (fun Cu h => absurd h List.not_mem_nil)⟩
def kc487 : xC := kO 2 [kI 2, kI 3, kX 31, kX 32, kX 33, kX 34, kX 35, kX 36, kX 37, kX 38, kI 7, kX 39, kX 40, kX 41, kI 8]
def kc488 : xC := kO 2 [kI 2, kI 3, kX 31, kX 32, kX 33, kX 34, kX 35, kX 36, kX 37, kX 38, kI 4, kX 39, kX 40, kX 41, kI 5]
def xc_236 : xCt := (([kc437, kc488], [(0, 800), kA3, kA3, (0, 6), (0, 30), kA3], [], [kR 0], 22), [([kc437, kc487], [(0, 800), kA3, kA3, (0, 6), (0, 30), kA3, ((-5), 29), (0, 30), kA3], [], [kI 6], 22)], 1)
def xu_236 : List xCu := []
def xT_236 : List (Nat × xCt) := []
theorem xv_236 : xVer0 xT_236 xHt 100000 170 xm_X9_undo xc_236 xu_236 = true := by
  rw [← zVer0_eq]
  decide +kernel
theorem xok_236 (l : Launch) : xCk l 170 xc_236 := ⟨xm_X9_undo, rfl, xVer_ok xk_all (xHt_ok l) (T := xT_236) (xTn l) rfl (f := 100000) (cuts := xu_236) xv_236 (fun Cu h => absurd h List.not_mem_nil)⟩
def xc_237 : xCt := (([kc437, kc488], [(0, 800), kA3, kA3, (0, 6), (0, 30), kA3], [], [kR 0], 22), [([kc437, kc487], [(0, 800), kA3, kA3, (0, 6), (0, 30), kA3, ((-2), 30), (0, 30), kA3], [], [kI 6], 22)], 1)
def xu_237 : List xCu := []
def xT_237 : List (Nat × xCt) := []
theorem xv_237 : xVer0 xT_237 xHt 100000 171 xm_X9_anew xc_237 xu_237 = true := by
  rw [← zVer0_eq]
  decide +kernel
theorem xok_237 (l : Launch) : xCk l 171 xc_237 := ⟨xm_X9_anew, rfl, xVer_ok xk_all (xHt_ok l) (T := xT_237) (xTn l) rfl (f := 100000) (cuts := xu_237) xv_237 (fun Cu h => absurd h List.not_mem_nil)⟩
def xc_238 : xCt := (([kc481, kc407, kc90, kc13, kc20, kc31, kc14, kc21, kc22, kc23, kc15, kc4, kc5, kc441, kc14, kc14, kc16, kc0, kc28, kc23, kc23, kc14, kc483], [kA3, kA3, (0, 800), kA3, kA3, (0, 6), (0, 30), kA3, (0, 24), kA3, kA3, kA6, kA6], [([(8, 6), (5, (-1))], 0)], [kR 0, kI 0, kI 1], 9), [([kc481, kc407, kc90, kc13, kc20, kc31, kc14, kc21, kc22, kc23, kc15, kc4, kc5, kc99, kc14, kc14, kc16, kc0, kc28, kc23, kc23, kc14, kc483], [kA3, kA3, (0, 800), kA3, kA3, (0, 6), (0, 30), kA3, (0, 24), kA3, kA3, kA6, kA6, kA3, kA3, kA3], [], [kI 13], 9)], 6)
def xu_238 : List xCu := []
def xT_238 : List (Nat × xCt) := [(61, xc_7), (78, xc_18), (98, xc_33)]
theorem xv_238 : xVer0 xT_238 xHt 100000 172 xm_X9_drawn xc_238 xu_238 = true := by
  rw [← zVer0_eq]
  decide +kernel
theorem xok_238 (l : Launch) : xCk l 172 xc_238 := ⟨xm_X9_drawn, rfl, xVer_ok xk_all (xHt_ok l) (T := xT_238) (xTc (xok_7 l) (xTc (xok_18 l) (xTc (xok_33 l) (xTn l)))) rfl (f := 100000) (cuts := xu_238) xv_238 (fun Cu h => absurd h List.not_mem_nil)⟩
def xc_239 : xCt := (([kc479, kc53, kc48, kc13, kc20, kc31, kc14, kc21, kc22, kc23, kc15, kc4, kc5, kc56, kc14, kc14, kc16, kc0, kc28, kc23, kc23, kc14, kc98], [kA3, kA3, kA3, (0, 800), kA3, kA3, (0, 6), (0, 30), kA3, (0, 24), kA3, kA3, kA6, kA6], [([(9, 6), (6, (-1))], 0)], [kR 0, kI 0, kI 1, kI 2], 9), [([kc479, kc53, kc48, kc13, kc20, kc31, kc14, kc21, kc22, kc23, kc15, kc4, kc5, kc103, kc14, kc14, kc16, kc0, kc28, kc23, kc23, kc14, kc98], [kA3, kA3, kA3, (0, 800), kA3, kA3, (0, 6), (0, 30), kA3, (0, 24), kA3, kA3, kA6, kA6, kA3, kA3, kA3], [], [kI 14], 9)], 4)
def xu_239 : List xCu := [(45, [0, 1, 2, 3, 4, 5], ([kc479, kc53, kc48, kc13, kc20, kc31, kc14, kc21, kc22, kc23, kc15, kc4, kc5, kc54, kc14, kc14, kc16, kc0, kc28, kc23, kc23, kc14, kc98], [(0, 2000000000), (1, 20), (0, 5), (0, 800), kA3, kA3, (1, 6), (0, 30), kA3, (1, 24), kA3, kA3, kA6, kA6, kA3, (0, 20), kA3, kA3], [([(9, 6), (6, (-1))], 0)], [kR 0, kI 0, kI 1, kI 2, kI 14, kI 15], 9), ([(15, (-1))], 20))]
def xT_239 : List (Nat × xCt) := [(61, xc_7), (64, xc_13), (98, xc_33)]
theorem xv_239 : xVer0 xT_239 xHt 100000 174 xm_X9_luck xc_239 xu_239 = true := by
  rw [← zVer0_eq]
  decide +kernel
theorem xw_239_0 : ((xu_239.drop 0).take 1).all (xVerC xT_239 xHt 100000 174 xm_X9_luck xc_239 xu_239) = true := by
  rw [← zVerC_eq]
  decide +kernel
theorem xok_239 (l : Launch) : xCk l 174 xc_239 := ⟨xm_X9_luck, rfl, xVer_ok xk_all (xHt_ok l) (T := xT_239) (xTc (xok_7 l) (xTc (xok_13 l) (xTc (xok_33 l) (xTn l)))) rfl (f := 100000) (cuts := xu_239) xv_239 (xAll0 (xAllS 0 1 xw_239_0 (xAllZ (by decide +kernel))))⟩
def kc489 : xC := kO 2 [kI 4, kI 5, kX 31, kX 32, kX 33, kR 2, kX 34, kX 35, kX 36, kX 37, kI 6, kX 38, kX 39, kX 40, kI 9]
def kc490 : xC := kO 2 [kI 4, kI 5, kX 31, kX 32, kX 33, kR 2, kX 34, kX 35, kX 36, kX 37, kI 6, kX 38, kX 39, kX 40, kI 7]
def xc_240 : xCt := (([kc432, kc490, kc31], [kA3, kA3, (0, 800), kA3, kA3, (0, 6), (0, 30), kA3], [], [kR 0, kI 0, kI 1], 21), [([kc432, kc489, kc31], [kA3, kA3, (0, 800), kA3, kA3, (0, 6), (0, 30), kA3, ((-5), 60), kA3], [], [kI 8], 21)], 1)
def xu_240 : List xCu := []
def xT_240 : List (Nat × xCt) := []
theorem xv_240 : xVer0 xT_240 xHt 100000 175 xm_X9_rate xc_240 xu_240 = true := by
  rw [← zVer0_eq]
  decide +kernel
theorem xok_240 (l : Launch) : xCk l 175 xc_240 := ⟨xm_X9_rate, rfl, xVer_ok xk_all (xHt_ok l) (T := xT_240) (xTn l) rfl (f := 100000) (cuts := xu_240) xv_240 (fun Cu h => absurd h List.not_mem_nil)⟩
def kc491 : xC := kO 9 [kX 20, kI 1, kR 1, kX 21, kX 22, kX 23, kI 2, kR 3, kX 24, kX 25, kX 26, kX 27, kX 28, kX 29]
def kc492 : xC := kO 2 [kI 3, kI 4, kR 2, kX 30, kX 31, kX 32, kX 33, kX 34, kX 35, kX 36, kI 5, kX 37, kX 38, kX 39, kI 6]
def kc493 : xC := kQr 4 [some 4, some 5, some 6, some 7]
def kc494 : xC := kO 4 [kI 8, kI 9, kX 40]
def kc495 : xC := kO 4 [kI 10, kI 11, kX 41]
def kc496 : xC := kO 4 [kI 12, kI 13, kX 42]
def kc497 : xC := kO 4 [kI 14, kI 15, kX 43]
def xc_241 : xCt := (([kc491, kc492, kc36, kc493, kc494, kc495, kc496, kc497], [kA3, (0, 800), kA3, kA3, (0, 6), (0, 30), kA3, (0, 24), kA3, ((-1), 60), kA3, ((-1), 60), kA3, ((-1), 60), kA3, ((-1), 60)], [([(7, 6), (4, (-1))], 0)], [kR 0, kI 0], 24), [([kc491, kc492, kc36, kc493, kc494, kc495, kc496, kc497], [kA3, (0, 800), kA3, kA3, (0, 6), (0, 30), kA3, (0, 24), kA3, ((-1), 60), kA3, ((-1), 60), kA3, ((-1), 60), kA3, ((-1), 60), kA3], [], [kI 16], 24)], 2)
def xu_241 : List xCu := []
def xT_241 : List (Nat × xCt) := []
theorem xv_241 : xVer0 xT_241 xHt 100000 176 xm_X9_count xc_241 xu_241 = true := by
  rw [← zVer0_eq]
  decide +kernel
theorem xok_241 (l : Launch) : xCk l 176 xc_241 := ⟨xm_X9_count, rfl, xVer_ok xk_all (xHt_ok l) (T := xT_241) (xTn l) rfl (f := 100000) (cuts := xu_241) xv_241 (fun Cu h => absurd h List.not_mem_nil)⟩
def kc498 : xC := kO 9 [kX 20, kI 1, kR 1, kX 21, kX 22, kR 13, kI 2, kX 23, kX 24, kX 25, kX 26, kX 27, kX 28, kX 29]
def kc499 : xC := kQr 2 [some 14, some 26, some 38]
def kc500 : xC := kO 2 [kI 8, kI 9, kR 15, kR 16, kR 17, kR 18, kR 19, kR 20, kR 21, kR 22, kI 10, kR 23, kR 24, kR 25, kI 11]
def kc501 : xC := kAr 0 6 [(1, kS 12), (5, kB3)]
def kc502 : xC := kO 2 [kI 13, kI 14, kR 27, kR 28, kR 29, kR 30, kR 31, kR 32, kR 33, kR 34, kI 15, kR 35, kR 36, kR 37, kI 16]
def kc503 : xC := kAr 0 6 [(1, kS 17), (5, kB3)]
def kc504 : xC := kO 2 [kI 18, kI 19, kR 39, kR 40, kR 41, kR 42, kR 43, kR 44, kR 45, kR 46, kI 20, kR 47, kR 48, kR 49, kI 21]
def kc505 : xC := kAr 0 6 [(1, kS 22), (5, kB3)]
def kc506 : xC := kO 9 [kX 20, kI 1, kR 1, kX 21, kX 22, kR 13, kI 23, kX 23, kX 24, kX 25, kX 26, kX 27, kX 28, kX 29]
def kc507 : xC := kO 2 [kI 24, kI 25, kR 15, kR 16, kR 17, kR 18, kR 19, kR 20, kR 21, kR 22, kI 26, kR 23, kR 24, kR 25, kI 27]
def kc508 : xC := kO 2 [kI 29, kI 30, kR 27, kR 28, kR 29, kR 30, kR 31, kR 32, kR 33, kR 34, kI 31, kR 35, kR 36, kR 37, kI 32]
def kc509 : xC := kAr 0 6 [(1, kS 33), (5, kB3)]
def kc510 : xC := kO 2 [kI 34, kI 35, kR 39, kR 40, kR 41, kR 42, kR 43, kR 44, kR 45, kR 46, kI 36, kR 47, kR 48, kR 49, kI 37]
def kc511 : xC := kAr 0 6 [(1, kS 38), (5, kB3)]
def xc_242 : xCt := (([kc498, kc443, kc36, kc13, kc20, kc31, kc14, kc21, kc22, kc23, kc15, kc4, kc5, kc499, kc500, kc501, kc13, kc20, kc31, kc14, kc21, kc22, kc23, kc15, kc4, kc5, kc502, kc503, kc13, kc20, kc31, kc14, kc21, kc22, kc23, kc15, kc4, kc5, kc504, kc505, kc13, kc20, kc31, kc14, kc21, kc22, kc23, kc15, kc4, kc5], [kA3, (0, 800), kA3, kA3, (0, 6), (0, 30), kA3, (0, 24), kA3, (0, 6), (0, 30), kA3, (0, 24), kA3, (0, 6), (0, 30), kA3, (0, 24), kA3, (0, 6), (0, 30), kA3, (0, 24)], [([(7, 6), (4, (-1))], 0), ([(12, 6), (9, (-1))], 0), ([(17, 6), (14, (-1))], 0), ([(22, 6), (19, (-1))], 0)], [kR 0, kI 0], 10), [([kc498, kc443, kc36, kc13, kc20, kc31, kc14, kc21, kc22, kc23, kc15, kc4, kc5, kc499, kc500, kc501, kc13, kc20, kc31, kc14, kc21, kc22, kc23, kc15, kc4, kc5, kc502, kc503, kc13, kc20, kc31, kc14, kc21, kc22, kc23, kc15, kc4, kc5, kc504, kc505, kc13, kc20, kc31, kc14, kc21, kc22, kc23, kc15, kc4, kc5], [kA3, (0, 800), kA3, kA3, (0, 6), (0, 30), kA3, (0, 24), kA3, (0, 6), (0, 30), kA3, (0, 24), kA3, (0, 6), (0, 30), kA3, (0, 24), kA3, (0, 6), (0, 30), kA3, (0, 24)], [([(0, 1)], (-3))], [kIc (-2)], 10), ([kc498, kc443, kc36, kc13, kc20, kc31, kc14, kc21, kc22, kc23, kc15, kc4, kc5, kc499, kc500, kc501, kc13, kc20, kc31, kc14, kc21, kc22, kc23, kc15, kc4, kc5, kc502, kc503, kc13, kc20, kc31, kc14, kc21, kc22, kc23, kc15, kc4, kc5, kc504, kc505, kc13, kc20, kc31, kc14, kc21, kc22, kc23, kc15, kc4, kc5], [kA3, (0, 800), kA3, kA3, (0, 6), (0, 30), kA3, (0, 24), kA3, (0, 6), (0, 30), kA3, (0, 24), kA3, (0, 6), (0, 30), kA3, (0, 24), kA3, (0, 6), (0, 30), kA3, (0, 24)], [([(0, (-1))], (-1))], [kIc (-2)], 10), ([kc506, kc443, kc36, kc13, kc20, kc31, kc14, kc21, kc22, kc23, kc15, kc4, kc5, kc499, kc507, kc378, kc13, kc20, kc31, kc14, kc21, kc22, kc23, kc15, kc4, kc5, kc508, kc509, kc13, kc20, kc31, kc14, kc21, kc22, kc23, kc15, kc4, kc5, kc510, kc511, kc13, kc20, kc31, kc14, kc21, kc22, kc23, kc15, kc4, kc5], [kA3, (0, 800), kA3, kA3, (0, 6), (0, 30), kA3, (0, 24), kA3, (0, 6), (0, 30), kA3, (0, 24), kA3, (0, 6), (0, 30), kA3, (0, 24), kA3, (0, 6), (0, 30), kA3, (0, 24), kA3, kA3, (0, 6), (0, 30), kA3, (0, 24), kA3, (0, 6), (0, 30), kA3, (0, 24), kA3, (0, 6), (0, 30), kA3, (0, 24)], [([(28, 6), (25, (-1))], 0), ([(33, 6), (30, (-1))], 0), ([(38, 6), (35, (-1))], 0), ([(0, 1)], 0), ([(0, (-1))], 2)], [kIc 0], 10)], 2)
def xu_242 : List xCu := []
def xT_242 : List (Nat × xCt) := []
theorem xv_242 : xVer0 xT_242 xHt 100000 178 xm_X9_image xc_242 xu_242 = true := by
  rw [← zVer0_eq]
  decide +kernel
theorem xok_242 (l : Launch) : xCk l 178 xc_242 := ⟨xm_X9_image, rfl, xVer_ok xk_all (xHt_ok l) (T := xT_242) (xTn l) rfl (f := 100000) (cuts := xu_242) xv_242 (fun Cu h => absurd h List.not_mem_nil)⟩
def kc512 : xC := kO 2 [kI 24, kI 25, kR 2, kR 3, kR 4, kR 5, kR 6, kR 7, kR 8, kR 9, kI 26, kR 10, kR 11, kR 12, kI 27]
def xc_243 : xCt := (([kc498, kc443, kc36, kc13, kc20, kc31, kc14, kc21, kc22, kc23, kc15, kc4, kc5, kc499, kc500, kc501, kc13, kc20, kc31, kc14, kc21, kc22, kc23, kc15, kc4, kc5, kc502, kc503, kc13, kc20, kc31, kc14, kc21, kc22, kc23, kc15, kc4, kc5, kc504, kc505, kc13, kc20, kc31, kc14, kc21, kc22, kc23, kc15, kc4, kc5], [kA3, (0, 800), kA3, kA3, (0, 6), (0, 30), kA3, (0, 24), kA3, (0, 6), (0, 30), kA3, (0, 24), kA3, (0, 6), (0, 30), kA3, (0, 24), kA3, (0, 6), (0, 30), kA3, (0, 24)], [([(7, 6), (4, (-1))], 0), ([(12, 6), (9, (-1))], 0), ([(17, 6), (14, (-1))], 0), ([(22, 6), (19, (-1))], 0)], [kR 0, kI 0], 10), [([kc498, kc512, kc378, kc13, kc20, kc31, kc14, kc21, kc22, kc23, kc15, kc4, kc5, kc499, kc500, kc501, kc13, kc20, kc31, kc14, kc21, kc22, kc23, kc15, kc4, kc5, kc502, kc503, kc13, kc20, kc31, kc14, kc21, kc22, kc23, kc15, kc4, kc5, kc504, kc505, kc13, kc20, kc31, kc14, kc21, kc22, kc23, kc15, kc4, kc5], [kA3, (0, 800), kA3, kA3, (0, 6), (0, 30), kA3, (0, 24), kA3, (0, 6), (0, 30), kA3, (0, 24), kA3, (0, 6), (0, 30), kA3, (0, 24), kA3, (0, 6), (0, 30), kA3, (0, 24), ((-6), 0), kA3, (0, 6), (0, 30), kA3, (0, 24)], [([(28, 6), (25, (-1))], 0)], [kI 23], 10)], 2)
def xu_243 : List xCu := []
def xT_243 : List (Nat × xCt) := []
theorem xv_243 : xVer0 xT_243 xHt 100000 179 xm_X9_back xc_243 xu_243 = true := by
  rw [← zVer0_eq]
  decide +kernel
theorem xok_243 (l : Launch) : xCk l 179 xc_243 := ⟨xm_X9_back, rfl, xVer_ok xk_all (xHt_ok l) (T := xT_243) (xTn l) rfl (f := 100000) (cuts := xu_243) xv_243 (fun Cu h => absurd h List.not_mem_nil)⟩
def kc513 : xC := kO 9 [kX 20, kI 3, kX 21, kX 22, kX 23, kX 24, kI 4, kR 1, kX 25, kX 26, kX 27, kX 28, kX 29, kX 30]
def kc514 : xC := kQr 4 [some 2, some 4, some 6, some 8]
def kc515 : xC := kO 4 [kI 5, kI 6, kR 3]
def kc516 : xC := kO 4 [kI 7, kI 8, kR 5]
def kc517 : xC := kO 4 [kI 9, kI 10, kR 7]
def kc518 : xC := kO 4 [kI 11, kI 12, kR 9]
def xc_245 : xCt := (([kc513, kc514, kc515, kc2, kc516, kc2, kc517, kc2, kc518, kc2], [kA3, kA3, kA6, (0, 800), kA3, kA3, ((-1), 60), kA3, ((-1), 60), kA3, ((-1), 60), kA3, ((-1), 60)], [], [kR 0, kI 0, kI 1, kJ 2], 11), [([kc513, kc514, kc515, kc2, kc516, kc2, kc517, kc2, kc518, kc2], [kA3, kA3, kA6, (0, 800), kA3, kA3, ((-1), 60), kA3, ((-1), 60), kA3, ((-1), 60), kA3, ((-1), 60), ((-7), 0)], [], [kI 13], 11)], 1)
def xu_245 : List xCu := []
def xT_245 : List (Nat × xCt) := []
theorem xv_245 : xVer0 xT_245 xHt 100000 181 xm_X9_write xc_245 xu_245 = true := by
  rw [← zVer0_eq]
  decide +kernel
theorem xok_245 (l : Launch) : xCk l 181 xc_245 := ⟨xm_X9_write, rfl, xVer_ok xk_all (xHt_ok l) (T := xT_245) (xTn l) rfl (f := 100000) (cuts := xu_245) xv_245 (fun Cu h => absurd h List.not_mem_nil)⟩
