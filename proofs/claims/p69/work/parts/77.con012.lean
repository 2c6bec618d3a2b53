/-! Contracts, printed by a program: part 12. -/
def kc409 : xC := kO 9 [kX 20, kI 0, kR 1, kX 21, kX 22, kX 23, kI 6, kX 24, kR 13, kX 25, kR 22, kX 26, kX 27, kX 28]
def kc410 : xC := kO 1 [kR 1, kR 13, kR 23, kI 13, kI 14]
def kc411 : xC := kO 1 [kR 1, kR 13, kR 23, kI 9, kI 10]
def xc_214 : xCt := (([kc409, kc396, kc383, kc10, kc17, kc28, kc11, kc18, kc19, kc20, kc12, kc4, kc5, kc397, kc11, kc11, kc13, kc0, kc25, kc20, kc20, kc11, kc411, kc11], [(0, 800), kA3, (0, 6), (0, 24), (0, 30), kA3, kA3, kA3, kA3, kA3, kA3], [([(3, 6), (2, (-1))], 0)], [kR 0], 9), [([kc409, kc396, kc383, kc10, kc17, kc28, kc11, kc18, kc19, kc20, kc12, kc4, kc5, kc54, kc11, kc11, kc13, kc0, kc25, kc20, kc20, kc11, kc410, kc11], [(0, 800), kA3, (0, 6), (0, 24), (0, 30), kA3, kA3, kA3, kA3, kA3, kA3, kA3, kA3, kA3, kA3, kA3], [], [kI 15], 9)], 6)
def xu_214 : List xCu := []
def xT_214 : List (Nat × xCt) := [(7, xc_26)]
theorem xv_214 : xVer0 xT_214 xHt 100000 142 xm_X9_ordered xc_214 xu_214 = true := by decide +kernel
theorem xok_214 (l : Launch) : xCk l 142 xc_214 := ⟨xm_X9_ordered, rfl, xVer_ok xk_all (xHt_ok l) (T := xT_214) (xTc (xok_26 l) (xTn l)) rfl (f := 100000) (cuts := xu_214) xv_214 (fun Cu h => absurd h List.not_mem_nil)⟩
def kc412 : xC := kO 6 [kR 1, kR 14, kR 15, kR 16, kR 17, kI 12, kI 13, kR 18, kR 19, kR 20, kR 21]
def kc413 : xC := kO 1 [kR 1, kR 13, kR 23, kI 14, kI 15]
def xc_215 : xCt := (([kc409, kc396, kc383, kc10, kc17, kc28, kc11, kc18, kc19, kc20, kc12, kc4, kc5, kc397, kc11, kc11, kc13, kc0, kc25, kc20, kc20, kc11, kc411, kc11], [(0, 800), kA3, (0, 6), (0, 24), (0, 30), kA3, kA3, kA3, kA3, kA3, kA3, kA3], [([(3, 6), (2, (-1))], 0)], [kR 0, kI 11], 9), [([kc409, kc396, kc383, kc10, kc17, kc28, kc11, kc18, kc19, kc20, kc12, kc4, kc5, kc412, kc11, kc11, kc13, kc0, kc25, kc20, kc20, kc11, kc413, kc11], [(0, 800), kA3, (0, 6), (0, 24), (0, 30), kA3, kA3, kA3, kA3, kA3, kA3, kA3, kA3, kA3, kA3, kA3, kA3], [], [kI 16], 9)], 6)
def xu_215 : List xCu := []
def xT_215 : List (Nat × xCt) := [(7, xc_26)]
theorem xv_215 : xVer0 xT_215 xHt 100000 143 xm_X9_order xc_215 xu_215 = true := by decide +kernel
theorem xok_215 (l : Launch) : xCk l 143 xc_215 := ⟨xm_X9_order, rfl, xVer_ok xk_all (xHt_ok l) (T := xT_215) (xTc (xok_26 l) (xTn l)) rfl (f := 100000) (cuts := xu_215) xv_215 (fun Cu h => absurd h List.not_mem_nil)⟩
def kc414 : xC := kO 1 [kR 1, kR 13, kX 29, kI 9, kI 10]
def xc_216 : xCt := (([kc409, kc396, kc383, kc10, kc17, kc28, kc11, kc18, kc19, kc20, kc12, kc4, kc5, kc397, kc11, kc11, kc13, kc0, kc25, kc20, kc20, kc11, kc414], [(0, 800), kA3, (0, 6), (0, 24), (0, 30), kA3, kA3, kA3, kA3, kA3, kA3], [([(3, 6), (2, (-1))], 0)], [kR 0], 10), [([kc409, kc396, kc383, kc10, kc17, kc28, kc11, kc18, kc19, kc20, kc12, kc4, kc5, kc54, kc11, kc11, kc13, kc0, kc25, kc20, kc20, kc11, kc414], [(0, 800), kA3, (0, 6), (0, 24), (0, 30), kA3, kA3, kA3, kA3, kA3, kA3, kA3, kA3, ((-2), 60)], [], [kI 13], 10)], 6)
def xu_216 : List xCu := []
def xT_216 : List (Nat × xCt) := [(10, xc_27)]
theorem xv_216 : xVer0 xT_216 xHt 100000 144 xm_X9_change xc_216 xu_216 = true := by decide +kernel
theorem xok_216 (l : Launch) : xCk l 144 xc_216 := ⟨xm_X9_change, rfl, xVer_ok xk_all (xHt_ok l) (T := xT_216) (xTc (xok_27 l) (xTn l)) rfl (f := 100000) (cuts := xu_216) xv_216 (fun Cu h => absurd h List.not_mem_nil)⟩
def kc415 : xC := kO 9 [kX 20, kI 0, kR 1, kX 21, kX 22, kX 23, kI 6, kX 24, kR 13, kX 25, kX 26, kR 22, kX 27, kX 28]
def kc416 : xC := kO 0 [kR 1, kR 13, kR 23, kR 24, kJ 13]
def kc417 : xC := kO 0 [kR 1, kR 13, kR 24, kR 23, kJ 12]
def kc418 : xC := kO 0 [kR 1, kR 13, kR 23, kR 24, kJ 9]
def xc_217 : xCt := (([kc415, kc396, kc383, kc10, kc17, kc28, kc11, kc18, kc19, kc20, kc12, kc4, kc5, kc397, kc11, kc11, kc13, kc0, kc25, kc20, kc20, kc11, kc418, kc1, kc1], [(0, 800), kA3, (0, 6), (0, 24), (0, 30), kA3, kA3, kA3, kA3, kA6, kA3], [([(3, 6), (2, (-1))], 0)], [kR 0, kI 10], 9), [([kc415, kc396, kc383, kc10, kc17, kc28, kc11, kc18, kc19, kc20, kc12, kc4, kc5, kc54, kc11, kc11, kc13, kc0, kc25, kc20, kc20, kc11, kc416, kc1, kc1], [(0, 800), kA3, (0, 6), (0, 24), (0, 30), kA3, kA3, kA3, kA3, kA6, kA3, kA3, kA3, kA6, kA3], [], [kI 14], 9), ([kc415, kc396, kc383, kc10, kc17, kc28, kc11, kc18, kc19, kc20, kc12, kc4, kc5, kc402, kc11, kc11, kc13, kc0, kc25, kc20, kc20, kc11, kc417, kc1, kc1], [(0, 800), kA3, (0, 6), (0, 24), (0, 30), kA3, kA3, kA3, kA3, kA6, kA3, kA3, kA6, kA3], [], [kI 13], 9)], 6)
def xu_217 : List xCu := []
def xT_217 : List (Nat × xCt) := [(1, xc_30)]
theorem xv_217 : xVer0 xT_217 xHt 100000 145 xm_X9_irons xc_217 xu_217 = true := by decide +kernel
theorem xok_217 (l : Launch) : xCk l 145 xc_217 := ⟨xm_X9_irons, rfl, xVer_ok xk_all (xHt_ok l) (T := xT_217) (xTc (xok_30 l) (xTn l)) rfl (f := 100000) (cuts := xu_217) xv_217 (fun Cu h => absurd h List.not_mem_nil)⟩
def xc_218 : xCt := (([kc415, kc396, kc383, kc10, kc17, kc28, kc11, kc18, kc19, kc20, kc12, kc4, kc5, kc397, kc11, kc11, kc13, kc0, kc25, kc20, kc20, kc11, kc418, kc1, kc1], [(0, 800), kA3, (0, 6), (0, 24), (0, 30), kA3, kA3, kA3, kA3, kA6, kA3], [([(3, 6), (2, (-1))], 0)], [kR 0, kI 10], 9), [([kc415, kc396, kc383, kc10, kc17, kc28, kc11, kc18, kc19, kc20, kc12, kc4, kc5, kc54, kc11, kc11, kc13, kc0, kc25, kc20, kc20, kc11, kc416, kc1, kc1], [(0, 800), kA3, (0, 6), (0, 24), (0, 30), kA3, kA3, kA3, kA3, kA6, kA3, kA3, kA3, kA6, ((-2), 16777215)], [], [kI 14], 9), ([kc415, kc396, kc383, kc10, kc17, kc28, kc11, kc18, kc19, kc20, kc12, kc4, kc5, kc402, kc11, kc11, kc13, kc0, kc25, kc20, kc20, kc11, kc417, kc1, kc1], [(0, 800), kA3, (0, 6), (0, 24), (0, 30), kA3, kA3, kA3, kA3, kA6, kA3, kA3, kA6, ((-1), 16777215)], [], [kI 13], 9)], 6)
def xu_218 : List xCu := []
def xT_218 : List (Nat × xCt) := [(1, xc_30)]
theorem xv_218 : xVer0 xT_218 xHt 100000 146 xm_X9_ironed xc_218 xu_218 = true := by decide +kernel
theorem xok_218 (l : Launch) : xCk l 146 xc_218 := ⟨xm_X9_ironed, rfl, xVer_ok xk_all (xHt_ok l) (T := xT_218) (xTc (xok_30 l) (xTn l)) rfl (f := 100000) (cuts := xu_218) xv_218 (fun Cu h => absurd h List.not_mem_nil)⟩
def kc419 : xC := kO 9 [kX 20, kI 0, kR 1, kX 21, kX 22, kX 23, kI 6, kR 13, kR 22, kX 24, kX 25, kX 26, kR 31, kX 27]
def kc420 : xC := kQr 4 [some 14, some 16, some 18, some 20]
def kc421 : xC := kO 4 [kI 7, kI 8, kR 15]
def kc422 : xC := kO 4 [kI 9, kI 10, kR 17]
def kc423 : xC := kO 4 [kI 11, kI 12, kR 19]
def kc424 : xC := kO 4 [kI 13, kI 14, kR 21]
def kc425 : xC := kO 6 [kR 1, kR 23, kR 24, kR 25, kR 26, kI 24, kI 25, kR 27, kR 28, kR 29, kR 30]
def kc426 : xC := kO 7 [kR 1, kR 22, kI 26, kI 27, kI 28, kI 29, kI 30, kR 32]
def kc427 : xC := kO 6 [kR 1, kR 23, kR 24, kR 25, kR 26, kI 15, kI 16, kR 27, kR 28, kR 29, kR 30]
def kc428 : xC := kO 7 [kR 1, kR 22, kI 17, kI 18, kI 19, kI 20, kI 21, kR 32]
def xc_219 : xCt := (([kc419, kc396, kc383, kc10, kc17, kc28, kc11, kc18, kc19, kc20, kc12, kc4, kc5, kc420, kc421, kc2, kc422, kc2, kc423, kc2, kc424, kc2, kc427, kc11, kc11, kc13, kc0, kc25, kc20, kc20, kc11, kc428, kc20], [(0, 800), kA3, (0, 6), (0, 24), (0, 30), kA3, kA3, kA3, ((-1), 60), kA3, ((-1), 60), kA3, ((-1), 60), kA3, ((-1), 60), kA3, kA3, kA3, kA3, kA3, kA3, kA3, kA3, kA3], [([(3, 6), (2, (-1))], 0)], [kR 0, kI 22, kI 23], 8), [([kc419, kc396, kc383, kc10, kc17, kc28, kc11, kc18, kc19, kc20, kc12, kc4, kc5, kc420, kc421, kc2, kc422, kc2, kc423, kc2, kc424, kc2, kc425, kc11, kc11, kc13, kc0, kc25, kc20, kc20, kc11, kc426, kc20], [(0, 800), kA3, (0, 6), (0, 24), (0, 30), kA3, kA3, kA3, ((-1), 60), kA3, ((-1), 60), kA3, ((-1), 60), kA3, ((-1), 60), kA3, kA3, kA3, kA3, kA3, kA3, kA3, kA3, kA3, kA3, kA3, kA3, kA3, kA3, kA3, kA3, kA3], [], [kI 31], 8)], 6)
def xu_219 : List xCu := []
def xT_219 : List (Nat × xCt) := [(84, xc_42), (86, xc_45), (86, xc_47), (86, xc_49), (86, xc_51), (86, xc_53), (86, xc_55), (86, xc_57), (86, xc_59), (86, xc_61), (86, xc_63), (86, xc_65), (86, xc_67), (86, xc_69), (86, xc_71), (86, xc_73), (86, xc_75), (86, xc_77), (86, xc_79), (86, xc_81), (86, xc_83), (86, xc_85), (86, xc_87), (86, xc_89), (86, xc_91), (86, xc_93), (86, xc_95), (86, xc_97), (86, xc_99), (86, xc_101), (86, xc_103), (86, xc_105)]
theorem xs_219 : (Nat.ble (xsum xc_219.1.2.2.2.1) xm_X9_stiffs.nl && Nat.blt 22 xc_219.1.2.1.length) = true := by decide +kernel
theorem xv_219_0 : (((xRegL xc_219.1.2.1 22 3).drop 0).take 1).all (xVerR xT_219 xHt 100000 147 xm_X9_stiffs xc_219 xu_219) = true := by decide +kernel
theorem xv_219_1 : (((xRegL xc_219.1.2.1 22 3).drop 1).take 1).all (xVerR xT_219 xHt 100000 147 xm_X9_stiffs xc_219 xu_219) = true := by decide +kernel
theorem xv_219_2 : (((xRegL xc_219.1.2.1 22 3).drop 2).take 1).all (xVerR xT_219 xHt 100000 147 xm_X9_stiffs xc_219 xu_219) = true := by decide +kernel
theorem xv_219_3 : (((xRegL xc_219.1.2.1 22 3).drop 3).take 1).all (xVerR xT_219 xHt 100000 147 xm_X9_stiffs xc_219 xu_219) = true := by decide +kernel
theorem xv_219_4 : (((xRegL xc_219.1.2.1 22 3).drop 4).take 1).all (xVerR xT_219 xHt 100000 147 xm_X9_stiffs xc_219 xu_219) = true := by decide +kernel
theorem xv_219_5 : (((xRegL xc_219.1.2.1 22 3).drop 5).take 1).all (xVerR xT_219 xHt 100000 147 xm_X9_stiffs xc_219 xu_219) = true := by decide +kernel
theorem xok_219 (l : Launch) : xCk l 147 xc_219 := ⟨xm_X9_stiffs, rfl, xVer_okR xk_all (xHt_ok l) (T := xT_219) (xTc (xok_42 l) (xTc (xok_45 l) (xTc (xok_47 l) (xTc (xok_49 l) (xTc (xok_51 l) (xTc (xok_53 l) (xTc (xok_55 l) (xTc (xok_57 l) (xTc (xok_59 l) (xTc (xok_61 l) (xTc (xok_63 l) (xTc (xok_65 l) (xTc (xok_67 l) (xTc (xok_69 l) (xTc (xok_71 l) (xTc (xok_73 l) (xTc (xok_75 l) (xTc (xok_77 l) (xTc (xok_79 l) (xTc (xok_81 l) (xTc (xok_83 l) (xTc (xok_85 l) (xTc (xok_87 l) (xTc (xok_89 l) (xTc (xok_91 l) (xTc (xok_93 l) (xTc (xok_95 l) (xTc (xok_97 l) (xTc (xok_99 l) (xTc (xok_101 l) (xTc (xok_103 l) (xTc (xok_105 l) (xTn l))))))))))))))))))))))))))))))))) rfl (f := 100000) (k := 22) (n := 3) (cuts := xu_219) xs_219 (xAll0 (xAllS 0 1 xv_219_0 (xAllS 1 1 xv_219_1 (xAllS 2 1 xv_219_2 (xAllS 3 1 xv_219_3 (xAllS 4 1 xv_219_4 (xAllS 5 1 xv_219_5 (xAllZ (by decide +kernel))))))))) (fun Cu h => absurd h List.not_mem_nil)⟩
def xc_220 : xCt := (([kc419, kc396, kc383, kc10, kc17, kc28, kc11, kc18, kc19, kc20, kc12, kc4, kc5, kc420, kc421, kc2, kc422, kc2, kc423, kc2, kc424, kc2, kc427, kc11, kc11, kc13, kc0, kc25, kc20, kc20, kc11, kc428, kc20], [(0, 800), kA3, (0, 6), (0, 24), (0, 30), kA3, kA3, kA3, ((-1), 60), kA3, ((-1), 60), kA3, ((-1), 60), kA3, ((-1), 60), kA3, kA3, kA3, kA3, kA3, kA3, kA3, kA3, kA3], [([(3, 6), (2, (-1))], 0)], [kR 0, kI 22, kI 23], 8), [([kc419, kc396, kc383, kc10, kc17, kc28, kc11, kc18, kc19, kc20, kc12, kc4, kc5, kc420, kc421, kc2, kc422, kc2, kc423, kc2, kc424, kc2, kc425, kc11, kc11, kc13, kc0, kc25, kc20, kc20, kc11, kc426, kc20], [(0, 800), kA3, (0, 6), (0, 24), (0, 30), kA3, kA3, kA3, ((-1), 60), kA3, ((-1), 60), kA3, ((-1), 60), kA3, ((-1), 60), kA3, kA3, kA3, kA3, kA3, kA3, kA3, kA3, kA3, kA3, kA3, kA3, kA3, kA3, kA3, kA3, kA3], [], [kI 31], 8)], 6)
def xu_220 : List xCu := []
def xT_220 : List (Nat × xCt) := [(84, xc_42), (86, xc_45), (86, xc_47), (86, xc_49), (86, xc_51), (86, xc_53), (86, xc_55), (86, xc_57), (86, xc_59), (86, xc_61), (86, xc_63), (86, xc_65), (86, xc_67), (86, xc_69), (86, xc_71), (86, xc_73), (86, xc_75), (86, xc_77), (86, xc_79), (86, xc_81), (86, xc_83), (86, xc_85), (86, xc_87), (86, xc_89), (86, xc_91), (86, xc_93), (86, xc_95), (86, xc_97), (86, xc_99), (86, xc_101), (86, xc_103), (86, xc_105)]
theorem xs_220 : (Nat.ble (xsum xc_220.1.2.2.2.1) xm_X9_least.nl && Nat.blt 22 xc_220.1.2.1.length) = true := by decide +kernel
theorem xv_220_0 : (((xRegL xc_220.1.2.1 22 3).drop 0).take 1).all (xVerR xT_220 xHt 100000 150 xm_X9_least xc_220 xu_220) = true := by decide +kernel
theorem xv_220_1 : (((xRegL xc_220.1.2.1 22 3).drop 1).take 1).all (xVerR xT_220 xHt 100000 150 xm_X9_least xc_220 xu_220) = true := by decide +kernel
theorem xv_220_2 : (((xRegL xc_220.1.2.1 22 3).drop 2).take 1).all (xVerR xT_220 xHt 100000 150 xm_X9_least xc_220 xu_220) = true := by decide +kernel
theorem xv_220_3 : (((xRegL xc_220.1.2.1 22 3).drop 3).take 1).all (xVerR xT_220 xHt 100000 150 xm_X9_least xc_220 xu_220) = true := by decide +kernel
theorem xv_220_4 : (((xRegL xc_220.1.2.1 22 3).drop 4).take 1).all (xVerR xT_220 xHt 100000 150 xm_X9_least xc_220 xu_220) = true := by decide +kernel
theorem xv_220_5 : (((xRegL xc_220.1.2.1 22 3).drop 5).take 1).all (xVerR xT_220 xHt 100000 150 xm_X9_least xc_220 xu_220) = true := by decide +kernel
theorem xok_220 (l : Launch) : xCk l 150 xc_220 := ⟨xm_X9_least, rfl, xVer_okR xk_all (xHt_ok l) (T := xT_220) (xTc (xok_42 l) (xTc (xok_45 l) (xTc (xok_47 l) (xTc (xok_49 l) (xTc (xok_51 l) (xTc (xok_53 l) (xTc (xok_55 l) (xTc (xok_57 l) (xTc (xok_59 l) (xTc (xok_61 l) (xTc (xok_63 l) (xTc (xok_65 l) (xTc (xok_67 l) (xTc (xok_69 l) (xTc (xok_71 l) (xTc (xok_73 l) (xTc (xok_75 l) (xTc (xok_77 l) (xTc (xok_79 l) (xTc (xok_81 l) (xTc (xok_83 l) (xTc (xok_85 l) (xTc (xok_87 l) (xTc (xok_89 l) (xTc (xok_91 l) (xTc (xok_93 l) (xTc (xok_95 l) (xTc (xok_97 l) (xTc (xok_99 l) (xTc (xok_101 l) (xTc (xok_103 l) (xTc (xok_105 l) (xTn l))))))))))))))))))))))))))))))))) rfl (f := 100000) (k := 22) (n := 3) (cuts := xu_220) xs_220 (xAll0 (xAllS 0 1 xv_220_0 (xAllS 1 1 xv_220_1 (xAllS 2 1 xv_220_2 (xAllS 3 1 xv_220_3 (xAllS 4 1 xv_220_4 (xAllS 5 1 xv_220_5 (xAllZ (by decide +kernel))))))))) (fun Cu h => absurd h List.not_mem_nil)⟩
