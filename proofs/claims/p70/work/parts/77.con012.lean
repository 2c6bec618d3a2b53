/-! Contracts, printed by a program: part 12. -/
def kc418 : xC := kO 5 [kR 1, kR 13, kR 23, kX 29, kI 9, kI 10, kI 11, kI 12]
def xc_214 : xCt := (([kc413, kc372, kc373, kc10, kc17, kc28, kc11, kc18, kc19, kc20, kc12, kc4, kc5, kc407, kc11, kc11, kc13, kc0, kc25, kc20, kc20, kc11, kc418, kc11], [(0, 800), kA3, (0, 6), (0, 24), (0, 30), kA3, kA3, kA3, kA3, kA3, kA3, kA3, kA3, kA3], [([(3, 6), (2, (-1))], 0)], [kR 0, kI 13], 10), [([kc413, kc372, kc373, kc10, kc17, kc28, kc11, kc18, kc19, kc20, kc12, kc4, kc5, kc76, kc11, kc11, kc13, kc0, kc25, kc20, kc20, kc11, kc418, kc11], [(0, 800), kA3, (0, 6), (0, 24), (0, 30), kA3, kA3, kA3, kA3, kA3, kA3, kA3, kA3, kA3, kA3, kA3, ((-2), 6)], [], [kI 16], 10)], 6)
def xu_214 : List xCu := [(16, [0, 1, 2], ([kc413, kc372, kc373, kc10, kc17, kc28, kc11, kc18, kc19, kc20, kc12, kc4, kc5, kc76, kc11, kc11, kc13, kc0, kc25, kc20, kc20, kc11, kc418, kc11], [(0, 800), kA3, (0, 6), (1, 24), (0, 30), kA3, kA3, kA3, kA3, kA3, kA3, kA3, kA3, (0, 23), kA3, kA3, (0, 7)], [([(3, 6), (2, (-1))], 0)], [kR 0, kI 13, kI 16], 10), ([(16, (-1))], 7))]
def xT_214 : List (Nat × xCt) := [(54, xc_24)]
theorem xv_214 : xVer0 xT_214 xHt 100000 141 xm_X9_fewest xc_214 xu_214 = true := by decide +kernel
theorem xw_214_0 : ((xu_214.drop 0).take 1).all (xVerC xT_214 xHt 100000 141 xm_X9_fewest xc_214 xu_214) = true := by decide +kernel
theorem xok_214 (l : Launch) : xCk l 141 xc_214 := ⟨xm_X9_fewest, rfl, xVer_ok xk_all (xHt_ok l) (T := xT_214) (xTc (xok_24 l) (xTn l)) rfl (f := 100000) (cuts := xu_214) xv_214 (xAll0 (xAllS 0 1 xw_214_0 (xAllZ (by decide +kernel))))⟩
def kc419 : xC := kO 9 [kX 20, kI 0, kR 1, kX 21, kX 22, kX 23, kI 6, kX 24, kR 13, kX 25, kR 22, kX 26, kX 27, kX 28]
def kc420 : xC := kO 1 [kR 1, kR 13, kR 23, kI 13, kI 14]
def kc421 : xC := kO 1 [kR 1, kR 13, kR 23, kI 9, kI 10]
def xc_215 : xCt := (([kc419, kc372, kc373, kc10, kc17, kc28, kc11, kc18, kc19, kc20, kc12, kc4, kc5, kc407, kc11, kc11, kc13, kc0, kc25, kc20, kc20, kc11, kc421, kc11], [(0, 800), kA3, (0, 6), (0, 24), (0, 30), kA3, kA3, kA3, kA3, kA3, kA3], [([(3, 6), (2, (-1))], 0)], [kR 0], 9), [([kc419, kc372, kc373, kc10, kc17, kc28, kc11, kc18, kc19, kc20, kc12, kc4, kc5, kc54, kc11, kc11, kc13, kc0, kc25, kc20, kc20, kc11, kc420, kc11], [(0, 800), kA3, (0, 6), (0, 24), (0, 30), kA3, kA3, kA3, kA3, kA3, kA3, kA3, kA3, kA3, kA3, kA3], [], [kI 15], 9)], 6)
def xu_215 : List xCu := []
def xT_215 : List (Nat × xCt) := [(7, xc_26)]
theorem xv_215 : xVer0 xT_215 xHt 100000 142 xm_X9_ordered xc_215 xu_215 = true := by decide +kernel
theorem xok_215 (l : Launch) : xCk l 142 xc_215 := ⟨xm_X9_ordered, rfl, xVer_ok xk_all (xHt_ok l) (T := xT_215) (xTc (xok_26 l) (xTn l)) rfl (f := 100000) (cuts := xu_215) xv_215 (fun Cu h => absurd h List.not_mem_nil)⟩
def kc422 : xC := kO 6 [kR 1, kR 14, kR 15, kR 16, kR 17, kI 12, kI 13, kR 18, kR 19, kR 20, kR 21]
def kc423 : xC := kO 1 [kR 1, kR 13, kR 23, kI 14, kI 15]
def xc_216 : xCt := (([kc419, kc372, kc373, kc10, kc17, kc28, kc11, kc18, kc19, kc20, kc12, kc4, kc5, kc407, kc11, kc11, kc13, kc0, kc25, kc20, kc20, kc11, kc421, kc11], [(0, 800), kA3, (0, 6), (0, 24), (0, 30), kA3, kA3, kA3, kA3, kA3, kA3, kA3], [([(3, 6), (2, (-1))], 0)], [kR 0, kI 11], 9), [([kc419, kc372, kc373, kc10, kc17, kc28, kc11, kc18, kc19, kc20, kc12, kc4, kc5, kc422, kc11, kc11, kc13, kc0, kc25, kc20, kc20, kc11, kc423, kc11], [(0, 800), kA3, (0, 6), (0, 24), (0, 30), kA3, kA3, kA3, kA3, kA3, kA3, kA3, kA3, kA3, kA3, kA3, kA3], [], [kI 16], 9)], 6)
def xu_216 : List xCu := []
def xT_216 : List (Nat × xCt) := [(7, xc_26)]
theorem xv_216 : xVer0 xT_216 xHt 100000 143 xm_X9_order xc_216 xu_216 = true := by decide +kernel
theorem xok_216 (l : Launch) : xCk l 143 xc_216 := ⟨xm_X9_order, rfl, xVer_ok xk_all (xHt_ok l) (T := xT_216) (xTc (xok_26 l) (xTn l)) rfl (f := 100000) (cuts := xu_216) xv_216 (fun Cu h => absurd h List.not_mem_nil)⟩
def kc424 : xC := kO 1 [kR 1, kR 13, kX 29, kI 9, kI 10]
def xc_217 : xCt := (([kc419, kc372, kc373, kc10, kc17, kc28, kc11, kc18, kc19, kc20, kc12, kc4, kc5, kc407, kc11, kc11, kc13, kc0, kc25, kc20, kc20, kc11, kc424], [(0, 800), kA3, (0, 6), (0, 24), (0, 30), kA3, kA3, kA3, kA3, kA3, kA3], [([(3, 6), (2, (-1))], 0)], [kR 0], 10), [([kc419, kc372, kc373, kc10, kc17, kc28, kc11, kc18, kc19, kc20, kc12, kc4, kc5, kc54, kc11, kc11, kc13, kc0, kc25, kc20, kc20, kc11, kc424], [(0, 800), kA3, (0, 6), (0, 24), (0, 30), kA3, kA3, kA3, kA3, kA3, kA3, kA3, kA3, ((-2), 60)], [], [kI 13], 10)], 6)
def xu_217 : List xCu := []
def xT_217 : List (Nat × xCt) := [(10, xc_27)]
theorem xv_217 : xVer0 xT_217 xHt 100000 144 xm_X9_change xc_217 xu_217 = true := by decide +kernel
theorem xok_217 (l : Launch) : xCk l 144 xc_217 := ⟨xm_X9_change, rfl, xVer_ok xk_all (xHt_ok l) (T := xT_217) (xTc (xok_27 l) (xTn l)) rfl (f := 100000) (cuts := xu_217) xv_217 (fun Cu h => absurd h List.not_mem_nil)⟩
def kc425 : xC := kO 9 [kX 20, kI 0, kR 1, kX 21, kX 22, kX 23, kI 6, kX 24, kR 13, kX 25, kX 26, kR 22, kX 27, kX 28]
def kc426 : xC := kO 0 [kR 1, kR 13, kR 23, kR 24, kJ 13]
def kc427 : xC := kO 0 [kR 1, kR 13, kR 24, kR 23, kJ 12]
def kc428 : xC := kO 0 [kR 1, kR 13, kR 23, kR 24, kJ 9]
def xc_218 : xCt := (([kc425, kc372, kc373, kc10, kc17, kc28, kc11, kc18, kc19, kc20, kc12, kc4, kc5, kc407, kc11, kc11, kc13, kc0, kc25, kc20, kc20, kc11, kc428, kc1, kc1], [(0, 800), kA3, (0, 6), (0, 24), (0, 30), kA3, kA3, kA3, kA3, kA6, kA3], [([(3, 6), (2, (-1))], 0)], [kR 0, kI 10], 9), [([kc425, kc372, kc373, kc10, kc17, kc28, kc11, kc18, kc19, kc20, kc12, kc4, kc5, kc54, kc11, kc11, kc13, kc0, kc25, kc20, kc20, kc11, kc426, kc1, kc1], [(0, 800), kA3, (0, 6), (0, 24), (0, 30), kA3, kA3, kA3, kA3, kA6, kA3, kA3, kA3, kA6, kA3], [], [kI 14], 9), ([kc425, kc372, kc373, kc10, kc17, kc28, kc11, kc18, kc19, kc20, kc12, kc4, kc5, kc412, kc11, kc11, kc13, kc0, kc25, kc20, kc20, kc11, kc427, kc1, kc1], [(0, 800), kA3, (0, 6), (0, 24), (0, 30), kA3, kA3, kA3, kA3, kA6, kA3, kA3, kA6, kA3], [], [kI 13], 9)], 6)
def xu_218 : List xCu := []
def xT_218 : List (Nat × xCt) := [(1, xc_30)]
theorem xv_218 : xVer0 xT_218 xHt 100000 145 xm_X9_irons xc_218 xu_218 = true := by decide +kernel
theorem xok_218 (l : Launch) : xCk l 145 xc_218 := ⟨xm_X9_irons, rfl, xVer_ok xk_all (xHt_ok l) (T := xT_218) (xTc (xok_30 l) (xTn l)) rfl (f := 100000) (cuts := xu_218) xv_218 (fun Cu h => absurd h List.not_mem_nil)⟩
def xc_219 : xCt := (([kc425, kc372, kc373, kc10, kc17, kc28, kc11, kc18, kc19, kc20, kc12, kc4, kc5, kc407, kc11, kc11, kc13, kc0, kc25, kc20, kc20, kc11, kc428, kc1, kc1], [(0, 800), kA3, (0, 6), (0, 24), (0, 30), kA3, kA3, kA3, kA3, kA6, kA3], [([(3, 6), (2, (-1))], 0)], [kR 0, kI 10], 9), [([kc425, kc372, kc373, kc10, kc17, kc28, kc11, kc18, kc19, kc20, kc12, kc4, kc5, kc54, kc11, kc11, kc13, kc0, kc25, kc20, kc20, kc11, kc426, kc1, kc1], [(0, 800), kA3, (0, 6), (0, 24), (0, 30), kA3, kA3, kA3, kA3, kA6, kA3, kA3, kA3, kA6, ((-2), 16777215)], [], [kI 14], 9), ([kc425, kc372, kc373, kc10, kc17, kc28, kc11, kc18, kc19, kc20, kc12, kc4, kc5, kc412, kc11, kc11, kc13, kc0, kc25, kc20, kc20, kc11, kc427, kc1, kc1], [(0, 800), kA3, (0, 6), (0, 24), (0, 30), kA3, kA3, kA3, kA3, kA6, kA3, kA3, kA6, ((-1), 16777215)], [], [kI 13], 9)], 6)
def xu_219 : List xCu := []
def xT_219 : List (Nat × xCt) := [(1, xc_30)]
theorem xv_219 : xVer0 xT_219 xHt 100000 146 xm_X9_ironed xc_219 xu_219 = true := by decide +kernel
theorem xok_219 (l : Launch) : xCk l 146 xc_219 := ⟨xm_X9_ironed, rfl, xVer_ok xk_all (xHt_ok l) (T := xT_219) (xTc (xok_30 l) (xTn l)) rfl (f := 100000) (cuts := xu_219) xv_219 (fun Cu h => absurd h List.not_mem_nil)⟩
def kc429 : xC := kO 6 [kR 1, kR 23, kR 24, kR 25, kR 26, kI 24, kI 25, kR 27, kR 28, kR 29, kR 30]
def kc430 : xC := kO 7 [kR 1, kR 22, kI 26, kI 27, kI 28, kI 29, kI 30, kR 32]
def xc_220 : xCt := (([kc371, kc372, kc373, kc10, kc17, kc28, kc11, kc18, kc19, kc20, kc12, kc4, kc5, kc374, kc375, kc2, kc376, kc2, kc377, kc2, kc378, kc2, kc379, kc11, kc11, kc13, kc0, kc25, kc20, kc20, kc11, kc380, kc20], [(0, 800), kA3, (0, 6), (0, 24), (0, 30), kA3, kA3, kA3, ((-1), 60), kA3, ((-1), 60), kA3, ((-1), 60), kA3, ((-1), 60), kA3, kA3, kA3, kA3, kA3, kA3, kA3, kA3, kA3], [([(3, 6), (2, (-1))], 0)], [kR 0, kI 22, kI 23], 8), [([kc371, kc372, kc373, kc10, kc17, kc28, kc11, kc18, kc19, kc20, kc12, kc4, kc5, kc374, kc375, kc2, kc376, kc2, kc377, kc2, kc378, kc2, kc429, kc11, kc11, kc13, kc0, kc25, kc20, kc20, kc11, kc430, kc20], [(0, 800), kA3, (0, 6), (0, 24), (0, 30), kA3, kA3, kA3, ((-1), 60), kA3, ((-1), 60), kA3, ((-1), 60), kA3, ((-1), 60), kA3, kA3, kA3, kA3, kA3, kA3, kA3, kA3, kA3, kA3, kA3, kA3, kA3, kA3, kA3, kA3, kA3], [], [kI 31], 8)], 6)
def xu_220 : List xCu := []
def xT_220 : List (Nat × xCt) := [(148, xc_174)]
theorem xv_220 : xVer0 xT_220 xHt 100000 147 xm_X9_stiffs xc_220 xu_220 = true := by decide +kernel
theorem xok_220 (l : Launch) : xCk l 147 xc_220 := ⟨xm_X9_stiffs, rfl, xVer_ok xk_all (xHt_ok l) (T := xT_220) (xTc (xok_174 l) (xTn l)) rfl (f := 100000) (cuts := xu_220) xv_220 (fun Cu h => absurd h List.not_mem_nil)⟩
def xc_221 : xCt := (([kc371, kc372, kc373, kc10, kc17, kc28, kc11, kc18, kc19, kc20, kc12, kc4, kc5, kc374, kc375, kc2, kc376, kc2, kc377, kc2, kc378, kc2, kc379, kc11, kc11, kc13, kc0, kc25, kc20, kc20, kc11, kc380, kc20], [(0, 800), kA3, (0, 6), (0, 24), (0, 30), kA3, kA3, kA3, ((-1), 60), kA3, ((-1), 60), kA3, ((-1), 60), kA3, ((-1), 60), kA3, kA3, kA3, kA3, kA3, kA3, kA3, kA3, kA3], [([(3, 6), (2, (-1))], 0)], [kR 0, kI 22, kI 23], 8), [([kc371, kc372, kc373, kc10, kc17, kc28, kc11, kc18, kc19, kc20, kc12, kc4, kc5, kc374, kc375, kc2, kc376, kc2, kc377, kc2, kc378, kc2, kc429, kc11, kc11, kc13, kc0, kc25, kc20, kc20, kc11, kc430, kc20], [(0, 800), kA3, (0, 6), (0, 24), (0, 30), kA3, kA3, kA3, ((-1), 60), kA3, ((-1), 60), kA3, ((-1), 60), kA3, ((-1), 60), kA3, kA3, kA3, kA3, kA3, kA3, kA3, kA3, kA3, kA3, kA3, kA3, kA3, kA3, kA3, kA3, kA3], [], [kI 31], 8)], 6)
def xu_221 : List xCu := []
def xT_221 : List (Nat × xCt) := [(148, xc_174)]
theorem xv_221 : xVer0 xT_221 xHt 100000 150 xm_X9_least xc_221 xu_221 = true := by decide +kernel
theorem xok_221 (l : Launch) : xCk l 150 xc_221 := ⟨xm_X9_least, rfl, xVer_ok xk_all (xHt_ok l) (T := xT_221) (xTc (xok_174 l) (xTn l)) rfl (f := 100000) (cuts := xu_221) xv_221 (fun Cu h => absurd h List.not_mem_nil)⟩
def xc_222 : xCt := (([kc371, kc372, kc373, kc10, kc17, kc28, kc11, kc18, kc19, kc20, kc12, kc4, kc5, kc374, kc375, kc2, kc376, kc2, kc377, kc2, kc378, kc2, kc379, kc11, kc11, kc13, kc0, kc25, kc20, kc20, kc11, kc380, kc20], [(0, 800), kA3, (0, 6), (0, 24), (0, 30), kA3, kA3, kA3, ((-1), 60), kA3, ((-1), 60), kA3, ((-1), 60), kA3, ((-1), 60), kA3, kA3, kA3, kA3, kA3, kA3, kA3, kA3, kA3], [([(3, 6), (2, (-1))], 0)], [kR 0, kI 22, kI 23], 8), [([kc371, kc372, kc373, kc10, kc17, kc28, kc11, kc18, kc19, kc20, kc12, kc4, kc5, kc374, kc375, kc2, kc376, kc2, kc377, kc2, kc378, kc2, kc429, kc11, kc11, kc13, kc0, kc25, kc20, kc20, kc11, kc430, kc20], [(0, 800), kA3, (0, 6), (0, 24), (0, 30), kA3, kA3, kA3, ((-1), 60), kA3, ((-1), 60), kA3, ((-1), 60), kA3, ((-1), 60), kA3, kA3, kA3, kA3, kA3, kA3, kA3, kA3, kA3, kA3, kA3, kA3, kA3, kA3, kA3, kA3, kA3], [], [kI 31], 8)], 6)
def xu_222 : List xCu := []
def xT_222 : List (Nat × xCt) := [(148, xc_174)]
theorem xv_222 : xVer0 xT_222 xHt 100000 151 xm_X9_most xc_222 xu_222 = true := by decide +kernel
theorem xok_222 (l : Launch) : xCk l 151 xc_222 := ⟨xm_X9_most, rfl, xVer_ok xk_all (xHt_ok l) (T := xT_222) (xTc (xok_174 l) (xTn l)) rfl (f := 100000) (cuts := xu_222) xv_222 (fun Cu h => absurd h List.not_mem_nil)⟩
def xc_223 : xCt := (([kc371, kc372, kc373, kc10, kc17, kc28, kc11, kc18, kc19, kc20, kc12, kc4, kc5, kc374, kc375, kc2, kc376, kc2, kc377, kc2, kc378, kc2, kc379, kc11, kc11, kc13, kc0, kc25, kc20, kc20, kc11, kc380, kc20], [(0, 800), kA3, (0, 6), (0, 24), (0, 30), kA3, kA3, kA3, ((-1), 60), kA3, ((-1), 60), kA3, ((-1), 60), kA3, ((-1), 60), kA3, kA3, kA3, kA3, kA3, kA3, kA3, kA3, kA3], [([(3, 6), (2, (-1))], 0)], [kR 0, kI 22, kI 23], 8), [([kc371, kc372, kc373, kc10, kc17, kc28, kc11, kc18, kc19, kc20, kc12, kc4, kc5, kc374, kc375, kc2, kc376, kc2, kc377, kc2, kc378, kc2, kc429, kc11, kc11, kc13, kc0, kc25, kc20, kc20, kc11, kc430, kc20], [(0, 800), kA3, (0, 6), (0, 24), (0, 30), kA3, kA3, kA3, ((-1), 60), kA3, ((-1), 60), kA3, ((-1), 60), kA3, ((-1), 60), kA3, kA3, kA3, kA3, kA3, kA3, kA3, kA3, kA3, kA3, kA3, kA3, kA3, kA3, kA3, kA3, ((-6), 23)], [], [kI 31], 8)], 6)
def xu_223 : List xCu := []
def xT_223 : List (Nat × xCt) := [(89, xc_41), (148, xc_174)]
theorem xv_223 : xVer0 xT_223 xHt 100000 152 xm_X9_ask xc_223 xu_223 = true := by decide +kernel
theorem xok_223 (l : Launch) : xCk l 152 xc_223 := ⟨xm_X9_ask, rfl, xVer_ok xk_all (xHt_ok l) (T := xT_223) (xTc (xok_41 l) (xTc (xok_174 l) (xTn l))) rfl (f := 100000) (cuts := xu_223) xv_223 (fun Cu h => absurd h List.not_mem_nil)⟩
def xc_224 : xCt := (([kc371, kc372, kc373, kc10, kc17, kc28, kc11, kc18, kc19, kc20, kc12, kc4, kc5, kc374, kc375, kc2, kc376, kc2, kc377, kc2, kc378, kc2, kc379, kc11, kc11, kc13, kc0, kc25, kc20, kc20, kc11, kc380, kc20], [(0, 800), kA3, (0, 6), (0, 24), (0, 30), kA3, kA3, kA3, ((-1), 60), kA3, ((-1), 60), kA3, ((-1), 60), kA3, ((-1), 60), kA3, kA3, kA3, kA3, kA3, kA3, kA3, kA3, kA3], [([(3, 6), (2, (-1))], 0)], [kR 0, kI 22, kI 23], 8), [([kc371, kc372, kc373, kc10, kc17, kc28, kc11, kc18, kc19, kc20, kc12, kc4, kc5, kc374, kc375, kc2, kc376, kc2, kc377, kc2, kc378, kc2, kc429, kc11, kc11, kc13, kc0, kc25, kc20, kc20, kc11, kc430, kc20], [(0, 800), kA3, (0, 6), (0, 24), (0, 30), kA3, kA3, kA3, ((-1), 60), kA3, ((-1), 60), kA3, ((-1), 60), kA3, ((-1), 60), kA3, kA3, kA3, kA3, kA3, kA3, kA3, kA3, kA3, kA3, kA3, kA3, kA3, kA3, kA3, kA3, kA3], [], [kI 31], 8)], 6)
def xu_224 : List xCu := []
def xT_224 : List (Nat × xCt) := [(148, xc_174)]
theorem xv_224 : xVer0 xT_224 xHt 100000 153 xm_X9_soon xc_224 xu_224 = true := by decide +kernel
theorem xok_224 (l : Launch) : xCk l 153 xc_224 := ⟨xm_X9_soon, rfl, xVer_ok xk_all (xHt_ok l) (T := xT_224) (xTc (xok_174 l) (xTn l)) rfl (f := 100000) (cuts := xu_224) xv_224 (fun Cu h => absurd h List.not_mem_nil)⟩
def xc_225 : xCt := (([kc371, kc372, kc373, kc10, kc17, kc28, kc11, kc18, kc19, kc20, kc12, kc4, kc5, kc374, kc375, kc2, kc376, kc2, kc377, kc2, kc378, kc2, kc379, kc11, kc11, kc13, kc0, kc25, kc20, kc20, kc11, kc380, kc20], [(0, 800), kA3, (0, 6), (0, 24), (0, 30), kA3, kA3, kA3, ((-1), 60), kA3, ((-1), 60), kA3, ((-1), 60), kA3, ((-1), 60), kA3, kA3, kA3, kA3, kA3, kA3, kA3, kA3, kA3], [([(3, 6), (2, (-1))], 0)], [kR 0, kI 22, kI 23], 8), [([kc371, kc372, kc373, kc10, kc17, kc28, kc11, kc18, kc19, kc20, kc12, kc4, kc5, kc374, kc375, kc2, kc376, kc2, kc377, kc2, kc378, kc2, kc429, kc11, kc11, kc13, kc0, kc25, kc20, kc20, kc11, kc430, kc20], [(0, 800), kA3, (0, 6), (0, 24), (0, 30), kA3, kA3, kA3, ((-1), 60), kA3, ((-1), 60), kA3, ((-1), 60), kA3, ((-1), 60), kA3, kA3, kA3, kA3, kA3, kA3, kA3, kA3, kA3, kA3, kA3, kA3, kA3, kA3, kA3, kA3, kA3], [], [kI 31], 8)], 6)
def xu_225 : List xCu := []
def xT_225 : List (Nat × xCt) := [(148, xc_174)]
theorem xv_225 : xVer0 xT_225 xHt 100000 154 xm_X9_late xc_225 xu_225 = true := by decide +kernel
theorem xok_225 (l : Launch) : xCk l 154 xc_225 := ⟨xm_X9_late, rfl, xVer_ok xk_all (xHt_ok l) (T := xT_225) (xTc (xok_174 l) (xTn l)) rfl (f := 100000) (cuts := xu_225) xv_225 (fun Cu h => absurd h List.not_mem_nil)⟩
def kc431 : xC := kO 6 [kR 1, kR 23, kR 24, kR 25, kR 26, kI 23, kI 24, kR 27, kR 28, kR 29, kR 30]
def kc432 : xC := kO 7 [kR 1, kR 22, kI 17, kI 18, kI 19, kI 20, kI 21, kX 28]
def xc_226 : xCt := (([kc371, kc372, kc373, kc10, kc17, kc28, kc11, kc18, kc19, kc20, kc12, kc4, kc5, kc374, kc375, kc2, kc376, kc2, kc377, kc2, kc378, kc2, kc379, kc11, kc11, kc13, kc0, kc25, kc20, kc20, kc11, kc432], [(0, 800), kA3, (0, 6), (0, 24), (0, 30), kA3, kA3, kA3, ((-1), 60), kA3, ((-1), 60), kA3, ((-1), 60), kA3, ((-1), 60), kA3, kA3, kA3, kA3, kA3, kA3, kA3, kA3], [([(3, 6), (2, (-1))], 0)], [kR 0, kI 22], 9), [([kc371, kc372, kc373, kc10, kc17, kc28, kc11, kc18, kc19, kc20, kc12, kc4, kc5, kc374, kc375, kc2, kc376, kc2, kc377, kc2, kc378, kc2, kc431, kc11, kc11, kc13, kc0, kc25, kc20, kc20, kc11, kc432], [(0, 800), kA3, (0, 6), (0, 24), (0, 30), kA3, kA3, kA3, ((-1), 60), kA3, ((-1), 60), kA3, ((-1), 60), kA3, ((-1), 60), kA3, kA3, kA3, kA3, kA3, kA3, kA3, kA3, kA3, kA3, kA3], [], [kI 25], 9)], 5)
def xu_226 : List xCu := []
def xT_226 : List (Nat × xCt) := [(85, xc_43), (90, xc_107), (90, xc_109), (90, xc_111), (90, xc_113), (90, xc_115), (90, xc_117), (90, xc_119), (90, xc_121), (90, xc_123), (90, xc_125), (90, xc_127), (90, xc_129), (90, xc_131), (90, xc_133), (90, xc_135), (90, xc_137), (90, xc_139), (90, xc_141), (90, xc_143), (90, xc_145), (90, xc_147)]
theorem xs_226 : (Nat.ble (xsum xc_226.1.2.2.2.1) xm_X9_laws.nl && Nat.blt 22 xc_226.1.2.1.length) = true := by decide +kernel
theorem xv_226_0 : (((xRegL xc_226.1.2.1 22 3).drop 0).take 1).all (xVerR xT_226 xHt 100000 155 xm_X9_laws xc_226 xu_226) = true := by decide +kernel
theorem xv_226_1 : (((xRegL xc_226.1.2.1 22 3).drop 1).take 1).all (xVerR xT_226 xHt 100000 155 xm_X9_laws xc_226 xu_226) = true := by decide +kernel
theorem xv_226_2 : (((xRegL xc_226.1.2.1 22 3).drop 2).take 1).all (xVerR xT_226 xHt 100000 155 xm_X9_laws xc_226 xu_226) = true := by decide +kernel
theorem xv_226_3 : (((xRegL xc_226.1.2.1 22 3).drop 3).take 1).all (xVerR xT_226 xHt 100000 155 xm_X9_laws xc_226 xu_226) = true := by decide +kernel
theorem xv_226_4 : (((xRegL xc_226.1.2.1 22 3).drop 4).take 1).all (xVerR xT_226 xHt 100000 155 xm_X9_laws xc_226 xu_226) = true := by decide +kernel
theorem xv_226_5 : (((xRegL xc_226.1.2.1 22 3).drop 5).take 1).all (xVerR xT_226 xHt 100000 155 xm_X9_laws xc_226 xu_226) = true := by decide +kernel
theorem xok_226 (l : Launch) : xCk l 155 xc_226 := ⟨xm_X9_laws, rfl, xVer_okR xk_all (xHt_ok l) (T := xT_226) (xTc (xok_43 l) (xTc (xok_107 l) (xTc (xok_109 l) (xTc (xok_111 l) (xTc (xok_113 l) (xTc (xok_115 l) (xTc (xok_117 l) (xTc (xok_119 l) (xTc (xok_121 l) (xTc (xok_123 l) (xTc (xok_125 l) (xTc (xok_127 l) (xTc (xok_129 l) (xTc (xok_131 l) (xTc (xok_133 l) (xTc (xok_135 l) (xTc (xok_137 l) (xTc (xok_139 l) (xTc (xok_141 l) (xTc (xok_143 l) (xTc (xok_145 l) (xTc (xok_147 l) (xTn l))))))))))))))))))))))) rfl (f := 100000) (k := 22) (n := 3) (cuts := xu_226) xs_226 (xAll0 (xAllS 0 1 xv_226_0 (xAllS 1 1 xv_226_1 (xAllS 2 1 xv_226_2 (xAllS 3 1 xv_226_3 (xAllS 4 1 xv_226_4 (xAllS 5 1 xv_226_5 (xAllZ (by decide +kernel))))))))) (fun Cu h => absurd h List.not_mem_nil)⟩
def xc_227 : xCt := (([kc406, kc372, kc373, kc10, kc17, kc28, kc11, kc18, kc19, kc20, kc12, kc4, kc5, kc407, kc11, kc11, kc13, kc0, kc25, kc20, kc20, kc11], [(0, 800), kA3, (0, 6), (0, 24), (0, 30), kA3, kA3, kA3, kA3, kA3], [([(3, 6), (2, (-1))], 0)], [kR 0, kI 9], 10), [([kc406, kc372, kc373, kc10, kc17, kc28, kc11, kc18, kc19, kc20, kc12, kc4, kc5, kc408, kc11, kc11, kc13, kc0, kc25, kc20, kc20, kc11], [(0, 800), kA3, (0, 6), (0, 24), (0, 30), kA3, kA3, kA3, kA3, kA3, kA3, kA3, ((-2), 23)], [], [kI 12], 10)], 6)
def xu_227 : List xCu := []
def xT_227 : List (Nat × xCt) := [(61, xc_7), (78, xc_18)]
theorem xv_227 : xVer0 xT_227 xHt 100000 156 xm_X9_by xc_227 xu_227 = true := by decide +kernel
theorem xok_227 (l : Launch) : xCk l 156 xc_227 := ⟨xm_X9_by, rfl, xVer_ok xk_all (xHt_ok l) (T := xT_227) (xTc (xok_7 l) (xTc (xok_18 l) (xTn l))) rfl (f := 100000) (cuts := xu_227) xv_227 (fun Cu h => absurd h List.not_mem_nil)⟩
def xc_228 : xCt := (([kc406, kc372, kc373, kc10, kc17, kc28, kc11, kc18, kc19, kc20, kc12, kc4, kc5, kc407, kc11, kc11, kc13, kc0, kc25, kc20, kc20, kc11], [(0, 800), kA3, (0, 6), (0, 24), (0, 30), kA3, kA3, kA3, kA3], [([(3, 6), (2, (-1))], 0)], [kR 0], 10), [([kc406, kc372, kc373, kc10, kc17, kc28, kc11, kc18, kc19, kc20, kc12, kc4, kc5, kc409, kc11, kc11, kc13, kc0, kc25, kc20, kc20, kc11], [(0, 800), kA3, (0, 6), (0, 24), (0, 30), kA3, kA3, kA3, kA3, kA3, kA3, ((-2), 3)], [], [kI 11], 10)], 5)
def xu_228 : List xCu := [(26, [0, 1, 2, 3], ([kc406, kc372, kc373, kc10, kc17, kc28, kc11, kc18, kc19, kc20, kc12, kc4, kc5, kc59, kc11, kc11, kc13, kc0, kc25, kc20, kc20, kc11], [(0, 800), (1, kW), (0, 6), (0, 24), (0, 30), kA3, kA3, kA3, kA3, kA3, ((-1), 3), ((-1), 24), (0, 4)], [([(3, 6), (2, (-1))], 0)], [kR 0, kI 10, kI 11, kI 12], 10), ([(12, (-1))], 4))]
def xT_228 : List (Nat × xCt) := [(61, xc_7), (78, xc_18)]
theorem xv_228 : xVer0 xT_228 xHt 100000 157 xm_X9_law xc_228 xu_228 = true := by decide +kernel
theorem xw_228_0 : ((xu_228.drop 0).take 1).all (xVerC xT_228 xHt 100000 157 xm_X9_law xc_228 xu_228) = true := by decide +kernel
theorem xok_228 (l : Launch) : xCk l 157 xc_228 := ⟨xm_X9_law, rfl, xVer_ok xk_all (xHt_ok l) (T := xT_228) (xTc (xok_7 l) (xTc (xok_18 l) (xTn l))) rfl (f := 100000) (cuts := xu_228) xv_228 (xAll0 (xAllS 0 1 xw_228_0 (xAllZ (by decide +kernel))))⟩
def xc_229 : xCt := (([kc406, kc372, kc373, kc10, kc17, kc28, kc11, kc18, kc19, kc20, kc12, kc4, kc5, kc407, kc11, kc11, kc13, kc0, kc25, kc20, kc20, kc11], [(0, 800), kA3, (0, 6), (0, 24), (0, 30), kA3, kA3, kA3, kA3, kA3, kA3], [([(3, 6), (2, (-1))], 0)], [kR 0, kI 9, kI 10], 10), [([kc406, kc372, kc373, kc10, kc17, kc28, kc11, kc18, kc19, kc20, kc12, kc4, kc5, kc54, kc11, kc11, kc13, kc0, kc25, kc20, kc20, kc11], [(0, 800), kA3, (0, 6), (0, 24), (0, 30), kA3, kA3, kA3, kA3, kA3, kA3, kA3, kA3, kA3], [], [kI 13], 10)], 6)
def xu_229 : List xCu := [(17, [0, 1, 2, 3, 4], ([kc406, kc372, kc373, kc10, kc17, kc28, kc11, kc18, kc19, kc20, kc12, kc4, kc5, kc54, kc11, kc11, kc13, kc0, kc25, kc20, kc20, kc11], [(0, 800), kA3, (1, 6), (0, 24), (0, 30), kA3, kA3, kA3, kA3, (0, 5), (0, 5), kA3, kA3, kA3, (0, 4)], [([(3, 6), (2, (-1))], 0)], [kR 0, kI 9, kI 10, kI 13, kI 14], 10), ([(14, (-1))], 4))]
def xT_229 : List (Nat × xCt) := [(61, xc_7), (64, xc_13), (75, xc_16)]
theorem xv_229 : xVer0 xT_229 xHt 100000 158 xm_X9_rests xc_229 xu_229 = true := by decide +kernel
theorem xw_229_0 : ((xu_229.drop 0).take 1).all (xVerC xT_229 xHt 100000 158 xm_X9_rests xc_229 xu_229) = true := by decide +kernel
theorem xok_229 (l : Launch) : xCk l 158 xc_229 := ⟨xm_X9_rests, rfl, xVer_ok xk_all (xHt_ok l) (T := xT_229) (xTc (xok_7 l) (xTc (xok_13 l) (xTc (xok_16 l) (xTn l)))) rfl (f := 100000) (cuts := xu_229) xv_229 (xAll0 (xAllS 0 1 xw_229_0 (xAllZ (by decide +kernel))))⟩
def xc_230 : xCt := (([kc406, kc372, kc373, kc10, kc17, kc28, kc11, kc18, kc19, kc20, kc12, kc4, kc5, kc407, kc11, kc11, kc13, kc0, kc25, kc20, kc20, kc11], [(0, 800), kA3, (0, 6), (0, 24), (0, 30), kA3, kA3, kA3, kA3, kA3, kA3, kA3, kA3], [([(3, 6), (2, (-1))], 0)], [kR 0, kI 9, kI 10, kI 11, kI 12], 10), [([kc406, kc372, kc373, kc10, kc17, kc28, kc11, kc18, kc19, kc20, kc12, kc4, kc5, kc79, kc11, kc11, kc13, kc0, kc25, kc20, kc20, kc11], [(0, 800), kA3, (0, 6), (0, 24), (0, 30), kA3, kA3, kA3, kA3, kA3, kA3, kA3, kA3, kA3, kA3, kA3], [], [kI 15], 10)], 5)
def xu_230 : List xCu := []
def xT_230 : List (Nat × xCt) := [(61, xc_7), (64, xc_13), (75, xc_16)]
theorem xv_230 : xVer0 xT_230 xHt 100000 162 xm_X9_gets xc_230 xu_230 = true := by decide +kernel
theorem xok_230 (l : Launch) : xCk l 162 xc_230 := ⟨xm_X9_gets, rfl, xVer_ok xk_all (xHt_ok l) (T := xT_230) (xTc (xok_7 l) (xTc (xok_13 l) (xTc (xok_16 l) (xTn l)))) rfl (f := 100000) (cuts := xu_230) xv_230 (fun Cu h => absurd h List.not_mem_nil)⟩
def kc433 : xC := kO 9 [kX 20, kI 0, kR 1, kX 21, kX 22, kX 23, kI 6, kX 24, kR 13, kX 25, kX 26, kX 27, kX 28, kR 22]
def kc434 : xC := kO 8 [kR 1, kR 13, kJ 16, kJ 17]
def kc435 : xC := kO 8 [kR 1, kR 13, kJ 9, kJ 10]
def xc_231 : xCt := (([kc433, kc372, kc373, kc10, kc17, kc28, kc11, kc18, kc19, kc20, kc12, kc4, kc5, kc407, kc11, kc11, kc13, kc0, kc25, kc20, kc20, kc11, kc435], [(0, 800), kA3, (0, 6), (0, 24), (0, 30), kA3, kA3, kA3, kA3, kA6, kA6, kA3, kA3, kA3], [([(3, 6), (2, (-1))], 0)], [kR 0, kI 11, kI 12, kI 13], 9), [([kc433, kc372, kc373, kc10, kc17, kc28, kc11, kc18, kc19, kc20, kc12, kc4, kc5, kc76, kc11, kc11, kc13, kc0, kc25, kc20, kc20, kc11, kc434], [(0, 800), kA3, (0, 6), (0, 24), (0, 30), kA3, kA3, kA3, kA3, kA6, kA6, kA3, kA3, kA3, kA3, kA3, kA6, kA6, kA6], [], [kJ 18], 9)], 6)
def xu_231 : List xCu := []
def xT_231 : List (Nat × xCt) := [(94, xc_35)]
theorem xv_231 : xVer0 xT_231 xHt 100000 164 xm_X9_chance xc_231 xu_231 = true := by decide +kernel
theorem xok_231 (l : Launch) : xCk l 164 xc_231 := ⟨xm_X9_chance, rfl, xVer_ok xk_all (xHt_ok l) (T := xT_231) (xTc (xok_35 l) (xTn l)) rfl (f := 100000) (cuts := xu_231) xv_231 (fun Cu h => absurd h List.not_mem_nil)⟩
def kc436 : xC := kO 8 [kR 1, kR 13, kJ 15, kJ 16]
def xc_232 : xCt := (([kc433, kc372, kc373, kc10, kc17, kc28, kc11, kc18, kc19, kc20, kc12, kc4, kc5, kc407, kc11, kc11, kc13, kc0, kc25, kc20, kc20, kc11, kc435], [(0, 800), kA3, (0, 6), (0, 24), (0, 30), kA3, kA3, kA3, kA3, kA6, kA6, kA3, kA3], [([(3, 6), (2, (-1))], 0)], [kR 0, kI 11, kI 12], 9), [([kc433, kc372, kc373, kc10, kc17, kc28, kc11, kc18, kc19, kc20, kc12, kc4, kc5, kc79, kc11, kc11, kc13, kc0, kc25, kc20, kc20, kc11, kc436], [(0, 800), kA3, (0, 6), (0, 24), (0, 30), kA3, kA3, kA3, kA3, kA6, kA6, kA3, kA3, kA3, kA3, kA6, kA6, kA6], [], [kJ 17], 9)], 6)
def xu_232 : List xCu := []
def xT_232 : List (Nat × xCt) := [(94, xc_37)]
theorem xv_232 : xVer0 xT_232 xHt 100000 166 xm_X9_line xc_232 xu_232 = true := by decide +kernel
theorem xok_232 (l : Launch) : xCk l 166 xc_232 := ⟨xm_X9_line, rfl, xVer_ok xk_all (xHt_ok l) (T := xT_232) (xTc (xok_37 l) (xTn l)) rfl (f := 100000) (cuts := xu_232) xv_232 (fun Cu h => absurd h List.not_mem_nil)⟩
def xc_233 : xCt := (([kc433, kc372, kc373, kc10, kc17, kc28, kc11, kc18, kc19, kc20, kc12, kc4, kc5, kc407, kc11, kc11, kc13, kc0, kc25, kc20, kc20, kc11, kc435], [(0, 800), kA3, (0, 6), (0, 24), (0, 30), kA3, kA3, kA3, kA3, kA6, kA6, kA3, kA3, kA3], [([(3, 6), (2, (-1))], 0)], [kR 0, kI 11, kI 12, kI 13], 9), [([kc433, kc372, kc373, kc10, kc17, kc28, kc11, kc18, kc19, kc20, kc12, kc4, kc5, kc76, kc11, kc11, kc13, kc0, kc25, kc20, kc20, kc11, kc434], [(0, 800), kA3, (0, 6), (0, 24), (0, 30), kA3, kA3, kA3, kA3, kA6, kA6, kA3, kA3, kA3, kA3, kA3, kA6, kA6, kA6], [], [kJ 18], 9)], 6)
def xu_233 : List xCu := []
def xT_233 : List (Nat × xCt) := [(94, xc_39)]
theorem xv_233 : xVer0 xT_233 xHt 100000 167 xm_X9_mean xc_233 xu_233 = true := by decide +kernel
theorem xok_233 (l : Launch) : xCk l 167 xc_233 := ⟨xm_X9_mean, rfl, xVer_ok xk_all (xHt_ok l) (T := xT_233) (xTc (xok_39 l) (xTn l)) rfl (f := 100000) (cuts := xu_233) xv_233 (fun Cu h => absurd h List.not_mem_nil)⟩
def kc437 : xC := kO 2 [kI 1, kI 2, kR 2, kR 3, kR 4, kR 5, kR 6, kR 7, kR 8, kR 9, kI 12, kR 10, kR 11, kR 12, kI 13]
def xc_234 : xCt := (([kc406, kc372, kc373, kc10, kc17, kc28, kc11, kc18, kc19, kc20, kc12, kc4, kc5, kc407, kc11, kc11, kc13, kc0, kc25, kc20, kc20, kc11], [(0, 800), kA3, (0, 6), (0, 24), (0, 30), kA3, kA3, kA3, kA3, kA3, kA3, kA3], [([(3, 6), (2, (-1))], 0)], [kR 0, kI 9, kI 10, kI 11], 10), [([kc406, kc437, kc373, kc10, kc17, kc28, kc11, kc18, kc19, kc20, kc12, kc4, kc5, kc76, kc11, kc11, kc13, kc0, kc25, kc20, kc20, kc11], [(0, 800), kA3, (0, 6), (0, 24), (0, 30), kA3, kA3, kA3, kA3, kA3, kA3, kA3, (0, 30), kA3, kA3, kA3, (kM, 99)], [], [kI 16], 10)], 5)
def xu_234 : List xCu := []
def xT_234 : List (Nat × xCt) := [(27, xc_6), (61, xc_7), (64, xc_13)]
theorem xv_234 : xVer0 xT_234 xHt 100000 168 xm_X9_starch xc_234 xu_234 = true := by decide +kernel
theorem xok_234 (l : Launch) : xCk l 168 xc_234 := ⟨xm_X9_starch, rfl, xVer_ok xk_all (xHt_ok l) (T := xT_234) (xTc (xok_6 l) (xTc (xok_7 l) (xTc (xok_13 l) (xTn l)))) rfl (f := 100000) (cuts := xu_234) xv_234 (fun Cu h => absurd h List.not_mem_nil)⟩
def kc438 : xC := kO 2 [kI 1, kI 2, kR 2, kR 3, kR 4, kR 5, kR 6, kR 7, kR 8, kR 9, kI 11, kR 10, kR 11, kR 12, kI 12]
def xc_235 : xCt := (([kc406, kc372, kc373, kc10, kc17, kc28, kc11, kc18, kc19, kc20, kc12, kc4, kc5, kc407, kc11, kc11, kc13, kc0, kc25, kc20, kc20, kc11], [(0, 800), kA3, (0, 6), (0, 24), (0, 30), kA3, kA3, kA3, kA3, kA3, kA3], [([(3, 6), (2, (-1))], 0)], [kR 0, kI 9, kI 10], 10), [([kc406, kc438, kc373, kc10, kc17, kc28, kc11, kc18, kc19, kc20, kc12, kc4, kc5, kc79, kc11, kc11, kc13, kc0, kc25, kc20, kc20, kc11], [(0, 800), kA3, (0, 6), (0, 24), (0, 30), kA3, kA3, kA3, kA3, kA3, kA3, (0, 30), kA3, kA3, kA3, (kM, 99)], [], [kI 15], 10)], 5)
def xu_235 : List xCu := []
def xT_235 : List (Nat × xCt) := [(61, xc_7), (64, xc_13)]
theorem xv_235 : xVer0 xT_235 xHt 100000 169 xm_X9_iron xc_235 xu_235 = true := by decide +kernel
theorem xok_235 (l : Launch) : xCk l 169 xc_235 := ⟨xm_X9_iron, rfl, xVer_ok xk_all (xHt_ok l) (T := xT_235) (xTc (xok_7 l) (xTc (xok_13 l) (xTn l))) rfl (f := 100000) (cuts := xu_235) xv_235 (fun Cu h => absurd h List.not_mem_nil)⟩
def kc439 : xC := kO 2 [kI 1, kI 2, kX 31, kX 32, kX 33, kX 34, kX 35, kX 36, kX 37, kX 38, kI 6, kX 39, kX 40, kX 41, kI 7]
def kc440 : xC := kO 2 [kI 1, kI 2, kX 31, kX 32, kX 33, kX 34, kX 35, kX 36, kX 37, kX 38, kI 3, kX 39, kX 40, kX 41, kI 4]
def xc_236 : xCt := (([kc400, kc440], [(0, 800), kA3, (0, 6), (0, 30), kA3, kA3], [], [kR 0], 22), [([kc400, kc439], [(0, 800), kA3, (0, 6), (0, 30), kA3, kA3, (0, 30), kA3, ((-5), 29)], [], [kI 8], 22)], 1)
def xu_236 : List xCu := []
def xT_236 : List (Nat × xCt) := []
theorem xv_236 : xVer0 xT_236 xHt 100000 170 xm_X9_undo xc_236 xu_236 = true := by decide +kernel
theorem xok_236 (l : Launch) : xCk l 170 xc_236 := ⟨xm_X9_undo, rfl, xVer_ok xk_all (xHt_ok l) (T := xT_236) (xTn l) rfl (f := 100000) (cuts := xu_236) xv_236 (fun Cu h => absurd h List.not_mem_nil)⟩
def xc_237 : xCt := (([kc400, kc440], [(0, 800), kA3, (0, 6), (0, 30), kA3, kA3], [], [kR 0], 22), [([kc400, kc439], [(0, 800), kA3, (0, 6), (0, 30), kA3, kA3, (0, 30), kA3, ((-2), 30)], [], [kI 8], 22)], 1)
def xu_237 : List xCu := []
def xT_237 : List (Nat × xCt) := []
theorem xv_237 : xVer0 xT_237 xHt 100000 171 xm_X9_anew xc_237 xu_237 = true := by decide +kernel
theorem xok_237 (l : Launch) : xCk l 171 xc_237 := ⟨xm_X9_anew, rfl, xVer_ok xk_all (xHt_ok l) (T := xT_237) (xTn l) rfl (f := 100000) (cuts := xu_237) xv_237 (fun Cu h => absurd h List.not_mem_nil)⟩
def xc_238 : xCt := (([kc433, kc372, kc373, kc10, kc17, kc28, kc11, kc18, kc19, kc20, kc12, kc4, kc5, kc407, kc11, kc11, kc13, kc0, kc25, kc20, kc20, kc11, kc435], [(0, 800), kA3, (0, 6), (0, 24), (0, 30), kA3, kA3, kA3, kA3, kA6, kA6, kA3, kA3], [([(3, 6), (2, (-1))], 0)], [kR 0, kI 11, kI 12], 9), [([kc433, kc372, kc373, kc10, kc17, kc28, kc11, kc18, kc19, kc20, kc12, kc4, kc5, kc79, kc11, kc11, kc13, kc0, kc25, kc20, kc20, kc11, kc435], [(0, 800), kA3, (0, 6), (0, 24), (0, 30), kA3, kA3, kA3, kA3, kA6, kA6, kA3, kA3, kA3, kA3, kA3], [], [kI 15], 9)], 6)
def xu_238 : List xCu := []
def xT_238 : List (Nat × xCt) := [(61, xc_7), (78, xc_18), (98, xc_33)]
theorem xv_238 : xVer0 xT_238 xHt 100000 172 xm_X9_drawn xc_238 xu_238 = true := by decide +kernel
theorem xok_238 (l : Launch) : xCk l 172 xc_238 := ⟨xm_X9_drawn, rfl, xVer_ok xk_all (xHt_ok l) (T := xT_238) (xTc (xok_7 l) (xTc (xok_18 l) (xTc (xok_33 l) (xTn l)))) rfl (f := 100000) (cuts := xu_238) xv_238 (fun Cu h => absurd h List.not_mem_nil)⟩
def xc_239 : xCt := (([kc433, kc372, kc373, kc10, kc17, kc28, kc11, kc18, kc19, kc20, kc12, kc4, kc5, kc407, kc11, kc11, kc13, kc0, kc25, kc20, kc20, kc11, kc435], [(0, 800), kA3, (0, 6), (0, 24), (0, 30), kA3, kA3, kA3, kA3, kA6, kA6, kA3, kA3, kA3], [([(3, 6), (2, (-1))], 0)], [kR 0, kI 11, kI 12, kI 13], 9), [([kc433, kc372, kc373, kc10, kc17, kc28, kc11, kc18, kc19, kc20, kc12, kc4, kc5, kc76, kc11, kc11, kc13, kc0, kc25, kc20, kc20, kc11, kc435], [(0, 800), kA3, (0, 6), (0, 24), (0, 30), kA3, kA3, kA3, kA3, kA6, kA6, kA3, kA3, kA3, kA3, kA3, kA3], [], [kI 16], 9)], 4)
def xu_239 : List xCu := [(45, [0, 1, 2, 3, 4, 5], ([kc433, kc372, kc373, kc10, kc17, kc28, kc11, kc18, kc19, kc20, kc12, kc4, kc5, kc76, kc11, kc11, kc13, kc0, kc25, kc20, kc20, kc11, kc435], [(0, 800), kA3, (1, 6), (1, 24), (0, 30), kA3, kA3, kA3, kA3, kA6, kA6, (0, 2000000000), (1, 20), (0, 5), kA3, kA3, kA3, (0, 20)], [([(3, 6), (2, (-1))], 0)], [kR 0, kI 11, kI 12, kI 13, kI 16, kI 17], 9), ([(17, (-1))], 20))]
def xT_239 : List (Nat × xCt) := [(61, xc_7), (64, xc_13), (98, xc_33)]
theorem xv_239 : xVer0 xT_239 xHt 100000 174 xm_X9_luck xc_239 xu_239 = true := by decide +kernel
theorem xw_239_0 : ((xu_239.drop 0).take 1).all (xVerC xT_239 xHt 100000 174 xm_X9_luck xc_239 xu_239) = true := by decide +kernel
theorem xok_239 (l : Launch) : xCk l 174 xc_239 := ⟨xm_X9_luck, rfl, xVer_ok xk_all (xHt_ok l) (T := xT_239) (xTc (xok_7 l) (xTc (xok_13 l) (xTc (xok_33 l) (xTn l)))) rfl (f := 100000) (cuts := xu_239) xv_239 (xAll0 (xAllS 0 1 xw_239_0 (xAllZ (by decide +kernel))))⟩
def kc441 : xC := kO 2 [kI 1, kI 2, kX 31, kX 32, kX 33, kR 2, kX 34, kX 35, kX 36, kX 37, kI 3, kX 38, kX 39, kX 40, kI 8]
def kc442 : xC := kO 2 [kI 1, kI 2, kX 31, kX 32, kX 33, kR 2, kX 34, kX 35, kX 36, kX 37, kI 3, kX 38, kX 39, kX 40, kI 4]
def xc_240 : xCt := (([kc400, kc442, kc28], [(0, 800), kA3, (0, 6), (0, 30), kA3, kA3, kA3, kA3], [], [kR 0, kI 6, kI 7], 21), [([kc400, kc441, kc28], [(0, 800), kA3, (0, 6), (0, 30), kA3, kA3, kA3, kA3, kA3, ((-5), 60)], [], [kI 9], 21)], 1)
def xu_240 : List xCu := []
def xT_240 : List (Nat × xCt) := []
theorem xv_240 : xVer0 xT_240 xHt 100000 175 xm_X9_rate xc_240 xu_240 = true := by decide +kernel
theorem xok_240 (l : Launch) : xCk l 175 xc_240 := ⟨xm_X9_rate, rfl, xVer_ok xk_all (xHt_ok l) (T := xT_240) (xTn l) rfl (f := 100000) (cuts := xu_240) xv_240 (fun Cu h => absurd h List.not_mem_nil)⟩
def kc443 : xC := kO 9 [kX 20, kI 0, kR 1, kX 21, kX 22, kX 23, kI 6, kR 3, kX 24, kX 25, kX 26, kX 27, kX 28, kX 29]
def kc444 : xC := kO 2 [kI 1, kI 2, kR 2, kX 30, kX 31, kX 32, kX 33, kX 34, kX 35, kX 36, kI 4, kX 37, kX 38, kX 39, kI 5]
def kc445 : xC := kQr 4 [some 4, some 5, some 6, some 7]
def kc446 : xC := kO 4 [kI 7, kI 8, kX 40]
def kc447 : xC := kO 4 [kI 9, kI 10, kX 41]
def kc448 : xC := kO 4 [kI 11, kI 12, kX 42]
def kc449 : xC := kO 4 [kI 13, kI 14, kX 43]
def xc_241 : xCt := (([kc443, kc444, kc373, kc445, kc446, kc447, kc448, kc449], [(0, 800), kA3, (0, 6), (0, 24), (0, 30), kA3, kA3, kA3, ((-1), 60), kA3, ((-1), 60), kA3, ((-1), 60), kA3, ((-1), 60), kA3], [([(3, 6), (2, (-1))], 0)], [kR 0, kI 15], 24), [([kc443, kc444, kc373, kc445, kc446, kc447, kc448, kc449], [(0, 800), kA3, (0, 6), (0, 24), (0, 30), kA3, kA3, kA3, ((-1), 60), kA3, ((-1), 60), kA3, ((-1), 60), kA3, ((-1), 60), kA3, kA3], [], [kI 16], 24)], 2)
def xu_241 : List xCu := []
def xT_241 : List (Nat × xCt) := []
theorem xv_241 : xVer0 xT_241 xHt 100000 176 xm_X9_count xc_241 xu_241 = true := by decide +kernel
theorem xok_241 (l : Launch) : xCk l 176 xc_241 := ⟨xm_X9_count, rfl, xVer_ok xk_all (xHt_ok l) (T := xT_241) (xTn l) rfl (f := 100000) (cuts := xu_241) xv_241 (fun Cu h => absurd h List.not_mem_nil)⟩
def kc450 : xC := kO 9 [kX 20, kI 0, kR 1, kX 21, kX 22, kR 13, kI 21, kX 23, kX 24, kX 25, kX 26, kX 27, kX 28, kX 29]
def kc451 : xC := kQr 2 [some 14, some 26, some 38]
def kc452 : xC := kO 2 [kI 11, kI 12, kR 27, kR 28, kR 29, kR 30, kR 31, kR 32, kR 33, kR 34, kI 14, kR 35, kR 36, kR 37, kI 15]
def kc453 : xC := kAr 0 6 [(1, kS 13), (5, kB3)]
def kc454 : xC := kO 2 [kI 16, kI 17, kR 39, kR 40, kR 41, kR 42, kR 43, kR 44, kR 45, kR 46, kI 19, kR 47, kR 48, kR 49, kI 20]
def kc455 : xC := kAr 0 6 [(1, kS 18), (5, kB3)]
def kc456 : xC := kO 9 [kX 20, kI 0, kR 1, kX 21, kX 22, kR 13, kI 23, kX 23, kX 24, kX 25, kX 26, kX 27, kX 28, kX 29]
def kc457 : xC := kO 2 [kI 24, kI 25, kR 15, kR 16, kR 17, kR 18, kR 19, kR 20, kR 21, kR 22, kI 26, kR 23, kR 24, kR 25, kI 27]
def kc458 : xC := kO 2 [kI 29, kI 30, kR 27, kR 28, kR 29, kR 30, kR 31, kR 32, kR 33, kR 34, kI 31, kR 35, kR 36, kR 37, kI 32]
def kc459 : xC := kAr 0 6 [(1, kS 33), (5, kB3)]
def kc460 : xC := kO 2 [kI 34, kI 35, kR 39, kR 40, kR 41, kR 42, kR 43, kR 44, kR 45, kR 46, kI 36, kR 47, kR 48, kR 49, kI 37]
def kc461 : xC := kAr 0 6 [(1, kS 38), (5, kB3)]
def xc_242 : xCt := (([kc450, kc372, kc373, kc10, kc17, kc28, kc11, kc18, kc19, kc20, kc12, kc4, kc5, kc451, kc395, kc396, kc10, kc17, kc28, kc11, kc18, kc19, kc20, kc12, kc4, kc5, kc452, kc453, kc10, kc17, kc28, kc11, kc18, kc19, kc20, kc12, kc4, kc5, kc454, kc455, kc10, kc17, kc28, kc11, kc18, kc19, kc20, kc12, kc4, kc5], [(0, 800), kA3, (0, 6), (0, 24), (0, 30), kA3, kA3, (0, 6), (0, 24), (0, 30), kA3, kA3, (0, 6), (0, 24), (0, 30), kA3, kA3, (0, 6), (0, 24), (0, 30), kA3, kA3, kA3], [([(3, 6), (2, (-1))], 0), ([(8, 6), (7, (-1))], 0), ([(13, 6), (12, (-1))], 0), ([(18, 6), (17, (-1))], 0)], [kR 0, kI 22], 10), [([kc450, kc372, kc373, kc10, kc17, kc28, kc11, kc18, kc19, kc20, kc12, kc4, kc5, kc451, kc395, kc396, kc10, kc17, kc28, kc11, kc18, kc19, kc20, kc12, kc4, kc5, kc452, kc453, kc10, kc17, kc28, kc11, kc18, kc19, kc20, kc12, kc4, kc5, kc454, kc455, kc10, kc17, kc28, kc11, kc18, kc19, kc20, kc12, kc4, kc5], [(0, 800), kA3, (0, 6), (0, 24), (0, 30), kA3, kA3, (0, 6), (0, 24), (0, 30), kA3, kA3, (0, 6), (0, 24), (0, 30), kA3, kA3, (0, 6), (0, 24), (0, 30), kA3, kA3, kA3], [([(22, 1)], (-3))], [kIc (-2)], 10), ([kc450, kc372, kc373, kc10, kc17, kc28, kc11, kc18, kc19, kc20, kc12, kc4, kc5, kc451, kc395, kc396, kc10, kc17, kc28, kc11, kc18, kc19, kc20, kc12, kc4, kc5, kc452, kc453, kc10, kc17, kc28, kc11, kc18, kc19, kc20, kc12, kc4, kc5, kc454, kc455, kc10, kc17, kc28, kc11, kc18, kc19, kc20, kc12, kc4, kc5], [(0, 800), kA3, (0, 6), (0, 24), (0, 30), kA3, kA3, (0, 6), (0, 24), (0, 30), kA3, kA3, (0, 6), (0, 24), (0, 30), kA3, kA3, (0, 6), (0, 24), (0, 30), kA3, kA3, kA3], [([(22, (-1))], (-1))], [kIc (-2)], 10), ([kc456, kc372, kc373, kc10, kc17, kc28, kc11, kc18, kc19, kc20, kc12, kc4, kc5, kc451, kc457, kc343, kc10, kc17, kc28, kc11, kc18, kc19, kc20, kc12, kc4, kc5, kc458, kc459, kc10, kc17, kc28, kc11, kc18, kc19, kc20, kc12, kc4, kc5, kc460, kc461, kc10, kc17, kc28, kc11, kc18, kc19, kc20, kc12, kc4, kc5], [(0, 800), kA3, (0, 6), (0, 24), (0, 30), kA3, kA3, (0, 6), (0, 24), (0, 30), kA3, kA3, (0, 6), (0, 24), (0, 30), kA3, kA3, (0, 6), (0, 24), (0, 30), kA3, kA3, kA3, kA3, kA3, (0, 6), (0, 30), kA3, (0, 24), kA3, (0, 6), (0, 30), kA3, (0, 24), kA3, (0, 6), (0, 30), kA3, (0, 24)], [([(28, 6), (25, (-1))], 0), ([(33, 6), (30, (-1))], 0), ([(38, 6), (35, (-1))], 0), ([(22, 1)], 0), ([(22, (-1))], 2)], [kIc 0], 10)], 2)
def xu_242 : List xCu := []
def xT_242 : List (Nat × xCt) := []
theorem xv_242 : xVer0 xT_242 xHt 100000 178 xm_X9_image xc_242 xu_242 = true := by decide +kernel
theorem xok_242 (l : Launch) : xCk l 178 xc_242 := ⟨xm_X9_image, rfl, xVer_ok xk_all (xHt_ok l) (T := xT_242) (xTn l) rfl (f := 100000) (cuts := xu_242) xv_242 (fun Cu h => absurd h List.not_mem_nil)⟩
def kc462 : xC := kO 2 [kI 23, kI 24, kR 2, kR 3, kR 4, kR 5, kR 6, kR 7, kR 8, kR 9, kI 25, kR 10, kR 11, kR 12, kI 26]
def xc_243 : xCt := (([kc450, kc372, kc373, kc10, kc17, kc28, kc11, kc18, kc19, kc20, kc12, kc4, kc5, kc451, kc395, kc396, kc10, kc17, kc28, kc11, kc18, kc19, kc20, kc12, kc4, kc5, kc452, kc453, kc10, kc17, kc28, kc11, kc18, kc19, kc20, kc12, kc4, kc5, kc454, kc455, kc10, kc17, kc28, kc11, kc18, kc19, kc20, kc12, kc4, kc5], [(0, 800), kA3, (0, 6), (0, 24), (0, 30), kA3, kA3, (0, 6), (0, 24), (0, 30), kA3, kA3, (0, 6), (0, 24), (0, 30), kA3, kA3, (0, 6), (0, 24), (0, 30), kA3, kA3, kA3], [([(3, 6), (2, (-1))], 0), ([(8, 6), (7, (-1))], 0), ([(13, 6), (12, (-1))], 0), ([(18, 6), (17, (-1))], 0)], [kR 0, kI 22], 10), [([kc450, kc462, kc389, kc10, kc17, kc28, kc11, kc18, kc19, kc20, kc12, kc4, kc5, kc451, kc395, kc396, kc10, kc17, kc28, kc11, kc18, kc19, kc20, kc12, kc4, kc5, kc452, kc453, kc10, kc17, kc28, kc11, kc18, kc19, kc20, kc12, kc4, kc5, kc454, kc455, kc10, kc17, kc28, kc11, kc18, kc19, kc20, kc12, kc4, kc5], [(0, 800), kA3, (0, 6), (0, 24), (0, 30), kA3, kA3, (0, 6), (0, 24), (0, 30), kA3, kA3, (0, 6), (0, 24), (0, 30), kA3, kA3, (0, 6), (0, 24), (0, 30), kA3, kA3, kA3, kA3, (0, 6), (0, 30), kA3, (0, 24), ((-6), 0)], [([(27, 6), (24, (-1))], 0)], [kI 28], 10)], 2)
def xu_243 : List xCu := []
def xT_243 : List (Nat × xCt) := []
theorem xv_243 : xVer0 xT_243 xHt 100000 179 xm_X9_back xc_243 xu_243 = true := by decide +kernel
theorem xok_243 (l : Launch) : xCk l 179 xc_243 := ⟨xm_X9_back, rfl, xVer_ok xk_all (xHt_ok l) (T := xT_243) (xTn l) rfl (f := 100000) (cuts := xu_243) xv_243 (fun Cu h => absurd h List.not_mem_nil)⟩
