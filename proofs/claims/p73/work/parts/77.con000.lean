/-! Contracts, printed by a program: part 0. -/
def kc0 : xC := kAr 0 144 [(144, kB3)]
def xc_0 : xCt := (([kc0], [kA3], [], [kR 0, kI 0], 0), [([kc0], [kA3], [], [], 0)], 0)
def xu_0 : List xCu := [(5, [0, 1, 2, 3], ([kc0], [kA3, (0, 144)], [], [kR 0, kI 0, kI 1, kIc 144], 0), ([(1, (-1))], 144))]
def xT_0 : List (Nat × xCt) := []
theorem xv_0 : xVer0 xT_0 xHt 100000 335 xm_J7_fill_53178 xc_0 xu_0 = true := by
  rw [← zVer0_eq]
  decide +kernel
theorem xw_0_0 : ((xu_0.drop 0).take 1).all (xVerC xT_0 xHt 100000 335 xm_J7_fill_53178 xc_0 xu_0) = true := by
  rw [← zVerC_eq]
  decide +kernel
theorem xok_0 (l : Launch) : xCk l 335 xc_0 := ⟨xm_J7_fill_53178, rfl, xVer_ok xk_all (xHt_ok l) (T := xT_0) (xTn l) rfl (f := 100000) (cuts := xu_0) xv_0 (xAll0 (xAllS 0 1 xw_0_0 (xAllZ (by decide +kernel))))⟩
def kc1 : xC := kLr 100 [(100, kB6)]
def xc_1 : xCt := (([kc1], [kA6], [], [kR 0, kJ 0], 0), [([kc1], [kA6], [], [], 0)], 0)
def xu_1 : List xCu := [(6, [0, 1, 3, 4], ([kc1], [kA6, (0, 100)], [], [kR 0, kJ 0, kI 1, kIc 100], 0), ([(1, (-1))], 100))]
def xT_1 : List (Nat × xCt) := []
theorem xv_1 : xVer0 xT_1 xHt 100000 334 xm_J7_fill_d0a16 xc_1 xu_1 = true := by
  rw [← zVer0_eq]
  decide +kernel
theorem xw_1_0 : ((xu_1.drop 0).take 1).all (xVerC xT_1 xHt 100000 334 xm_J7_fill_d0a16 xc_1 xu_1) = true := by
  rw [← zVerC_eq]
  decide +kernel
theorem xok_1 (l : Launch) : xCk l 334 xc_1 := ⟨xm_J7_fill_d0a16, rfl, xVer_ok xk_all (xHt_ok l) (T := xT_1) (xTn l) rfl (f := 100000) (cuts := xu_1) xv_1 (xAll0 (xAllS 0 1 xw_1_0 (xAllZ (by decide +kernel))))⟩
def kc2 : xC := kLr 60 [(60, kB6)]
def xc_2 : xCt := (([kc2], [kA6], [], [kR 0, kJ 0], 0), [([kc2], [kA6], [], [], 0)], 0)
def xu_2 : List xCu := [(6, [0, 1, 3, 4], ([kc2], [kA6, (0, 60)], [], [kR 0, kJ 0, kI 1, kIc 60], 0), ([(1, (-1))], 60))]
def xT_2 : List (Nat × xCt) := []
theorem xv_2 : xVer0 xT_2 xHt 100000 334 xm_J7_fill_d0a16 xc_2 xu_2 = true := by
  rw [← zVer0_eq]
  decide +kernel
theorem xw_2_0 : ((xu_2.drop 0).take 1).all (xVerC xT_2 xHt 100000 334 xm_J7_fill_d0a16 xc_2 xu_2) = true := by
  rw [← zVerC_eq]
  decide +kernel
theorem xok_2 (l : Launch) : xCk l 334 xc_2 := ⟨xm_J7_fill_d0a16, rfl, xVer_ok xk_all (xHt_ok l) (T := xT_2) (xTn l) rfl (f := 100000) (cuts := xu_2) xv_2 (xAll0 (xAllS 0 1 xw_2_0 (xAllZ (by decide +kernel))))⟩
def kc3 : xC := kO 2 [kI 1, kI 2, kX 20, kX 21, kX 22, kX 23, kX 24, kX 25, kX 26, kX 27, kI 3, kX 28, kR 1, kR 2, kI 4]
def kc4 : xC := kAr 0 30 [(30, kB 0 23)]
def kc5 : xC := kAr 0 30 [(30, kB3)]
def xc_3 : xCt := (([kc3, kc4, kc5], [kA3, kA3, (0, 6), (0, 30), kA3], [], [kR 0, kI 0], 9), [([kc3, kc4, kc5], [kA3, kA3, (0, 6), (0, 30), kA3, kA3], [], [kI 5], 9)], 0)
def xu_3 : List xCu := [(4, [0, 1, 2, 3], ([kc3, kc4, kc5], [kA3, kA3, (0, 6), (0, 30), kA3, kA3, (0, 30)], [], [kR 0, kI 0, kI 5, kI 6], 9), ([(6, (-1))], 30))]
def xT_3 : List (Nat × xCt) := []
theorem xv_3 : xVer0 xT_3 xHt 100000 23 xm_X2_packetsTaken xc_3 xu_3 = true := by
  rw [← zVer0_eq]
  decide +kernel
theorem xw_3_0 : ((xu_3.drop 0).take 1).all (xVerC xT_3 xHt 100000 23 xm_X2_packetsTaken xc_3 xu_3) = true := by
  rw [← zVerC_eq]
  decide +kernel
theorem xok_3 (l : Launch) : xCk l 23 xc_3 := ⟨xm_X2_packetsTaken, rfl, xVer_ok xk_all (xHt_ok l) (T := xT_3) (xTn l) rfl (f := 100000) (cuts := xu_3) xv_3 (xAll0 (xAllS 0 1 xw_3_0 (xAllZ (by decide +kernel))))⟩
def kc6 : xC := kO 2 [kI 1, kI 2, kR 1, kX 20, kX 21, kX 22, kX 23, kX 24, kX 25, kX 26, kI 3, kX 27, kR 2, kR 3, kI 4]
def kc7 : xC := kAr 0 6 [(1, kS 5), (5, kB3)]
def xc_4 : xCt := (([kc6, kc7, kc4, kc5], [(0, 23), kA3, (0, 6), (0, 30), kA3, (0, 24)], [], [kR 0, kI 0], 8), [([kc6, kc7, kc4, kc5], [(0, 23), kA3, (0, 6), (0, 30), kA3, (0, 24), kA3], [], [kI 6], 8)], 2)
def xu_4 : List xCu := [(9, [0, 1, 2, 3], ([kc6, kc7, kc4, kc5], [(0, 23), kA3, (0, 6), (0, 30), kA3, (0, 24), kA3, (0, 24)], [], [kR 0, kI 0, kI 6, kI 7], 8), ([(7, (-1))], 24))]
def xT_4 : List (Nat × xCt) := [(23, xc_3)]
theorem xv_4 : xVer0 xT_4 xHt 100000 25 xm_X2_packetsLeft xc_4 xu_4 = true := by
  rw [← zVer0_eq]
  decide +kernel
theorem xw_4_0 : ((xu_4.drop 0).take 1).all (xVerC xT_4 xHt 100000 25 xm_X2_packetsLeft xc_4 xu_4) = true := by
  rw [← zVerC_eq]
  decide +kernel
theorem xok_4 (l : Launch) : xCk l 25 xc_4 := ⟨xm_X2_packetsLeft, rfl, xVer_ok xk_all (xHt_ok l) (T := xT_4) (xTc (xok_3 l) (xTn l)) rfl (f := 100000) (cuts := xu_4) xv_4 (xAll0 (xAllS 0 1 xw_4_0 (xAllZ (by decide +kernel))))⟩
def kc8 : xC := kO 2 [kI 0, kI 1, kR 1, kX 20, kX 21, kX 22, kX 23, kX 24, kX 25, kX 26, kI 2, kX 27, kR 2, kR 3, kI 3]
def kc9 : xC := kAr 0 6 [(1, kS 4), (5, kB3)]
def xc_5 : xCt := (([kc8, kc9, kc4, kc5], [kA3, (0, 6), (0, 30), kA3, (0, 24)], [], [kR 0], 8), [([kc8, kc9, kc4, kc5], [kA3, (0, 6), (0, 30), kA3, (0, 24), kA3], [], [kI 5], 8)], 2)
def xu_5 : List xCu := [(11, [0, 1, 2, 3], ([kc8, kc9, kc4, kc5], [kA3, (0, 6), (0, 30), kA3, (0, 24), kA3, kA3, (0, 24)], [], [kR 0, kI 5, kI 6, kI 7], 8), ([(7, (-1))], 24))]
def xT_5 : List (Nat × xCt) := [(23, xc_3)]
theorem xv_5 : xVer0 xT_5 xHt 100000 26 xm_X2_packetsEaten xc_5 xu_5 = true := by
  rw [← zVer0_eq]
  decide +kernel
theorem xw_5_0 : ((xu_5.drop 0).take 1).all (xVerC xT_5 xHt 100000 26 xm_X2_packetsEaten xc_5 xu_5) = true := by
  rw [← zVerC_eq]
  decide +kernel
theorem xok_5 (l : Launch) : xCk l 26 xc_5 := ⟨xm_X2_packetsEaten, rfl, xVer_ok xk_all (xHt_ok l) (T := xT_5) (xTc (xok_3 l) (xTn l)) rfl (f := 100000) (cuts := xu_5) xv_5 (xAll0 (xAllS 0 1 xw_5_0 (xAllZ (by decide +kernel))))⟩
def xc_6 : xCt := (([kc8, kc9, kc4, kc5], [kA3, (0, 6), (0, 30), kA3, (0, 24)], [], [kR 0], 8), [([kc8, kc9, kc4, kc5], [kA3, (0, 6), (0, 30), kA3, (0, 24), (0, 1)], [], [kI 5], 8)], 2)
def xu_6 : List xCu := [(9, [0, 1, 2], ([kc8, kc9, kc4, kc5], [kA3, (0, 6), (0, 30), kA3, (0, 24), kA3, (0, 24)], [], [kR 0, kI 5, kI 6], 8), ([(6, (-1))], 24))]
def xT_6 : List (Nat × xCt) := [(23, xc_3)]
theorem xv_6 : xVer0 xT_6 xHt 100000 27 xm_X2_packetsSuffice xc_6 xu_6 = true := by
  rw [← zVer0_eq]
  decide +kernel
theorem xw_6_0 : ((xu_6.drop 0).take 1).all (xVerC xT_6 xHt 100000 27 xm_X2_packetsSuffice xc_6 xu_6) = true := by
  rw [← zVerC_eq]
  decide +kernel
theorem xok_6 (l : Launch) : xCk l 27 xc_6 := ⟨xm_X2_packetsSuffice, rfl, xVer_ok xk_all (xHt_ok l) (T := xT_6) (xTc (xok_3 l) (xTn l)) rfl (f := 100000) (cuts := xu_6) xv_6 (xAll0 (xAllS 0 1 xw_6_0 (xAllZ (by decide +kernel))))⟩
def kc10 : xC := kO 6 [kR 1, kR 8, kR 9, kR 10, kR 11, kI 7, kIc 0, kX 20, kX 21, kX 22, kX 23]
def kc11 : xC := kO 2 [kI 2, kI 3, kR 2, kR 3, kX 24, kX 25, kR 4, kX 26, kX 27, kX 28, kI 4, kR 5, kR 6, kR 7, kI 5]
def kc12 : xC := kAr 0 6 [(1, kS 6), (5, kB3)]
def kc13 : xC := kAr 0 6 [(6, kB 0 99)]
def kc14 : xC := kAr 0 6 [(6, kB3)]
def kc15 : xC := kAr 0 30 [(30, kB 0 5)]
def kc16 : xC := kAr 0 6 [(6, kB 0 5)]
def kc17 : xC := kO 6 [kR 1, kR 8, kR 9, kR 10, kR 11, kI 0, kI 1, kX 20, kX 21, kX 22, kX 23]
def xc_7 : xCt := (([kc17, kc11, kc12, kc13, kc14, kc15, kc4, kc5, kc14, kc14, kc16, kc0], [kA3, kA3, kA3, (0, 6), (0, 30), kA3, (0, 24)], [], [kR 0], 9), [([kc10, kc11, kc12, kc13, kc14, kc15, kc4, kc5, kc14, kc14, kc16, kc0], [kA3, kA3, kA3, (0, 6), (0, 30), kA3, (0, 24), kA3], [], [], 9)], 1)
def xu_7 : List xCu := [(2, [0, 1], ([kc17, kc11, kc12, kc13, kc14, kc15, kc4, kc5, kc14, kc14, kc16, kc0], [kA3, kA3, kA3, (0, 6), (0, 30), kA3, (0, 24), (0, 6)], [], [kR 0, kI 7], 9), ([(7, (-1))], 100006)),
  (61, [0, 1], ([kc17, kc11, kc12, kc13, kc14, kc15, kc4, kc5, kc14, kc14, kc16, kc0], [kA3, kA3, kA3, (0, 6), (0, 30), kA3, (0, 24), (0, 30)], [], [kR 0, kI 7], 9), ([(7, (-1))], 30))]
def xT_7 : List (Nat × xCt) := [(335, xc_0)]
theorem xv_7 : xVer0 xT_7 xHt 100000 61 xm_X6_setAsNow xc_7 xu_7 = true := by
  rw [← zVer0_eq]
  decide +kernel
theorem xw_7_0 : ((xu_7.drop 0).take 2).all (xVerC xT_7 xHt 100000 61 xm_X6_setAsNow xc_7 xu_7) = true := by
  rw [← zVerC_eq]
  decide +kernel
theorem xok_7 (l : Launch) : xCk l 61 xc_7 := ⟨xm_X6_setAsNow, rfl, xVer_ok xk_all (xHt_ok l) (T := xT_7) (xTc (xok_0 l) (xTn l)) rfl (f := 100000) (cuts := xu_7) xv_7 (xAll0 (xAllS 0 2 xw_7_0 (xAllZ (by decide +kernel))))⟩
def kc18 : xC := kO 6 [kR 1, kX 20, kR 6, kX 21, kX 22, kI 3, kI 4, kX 23, kX 24, kR 7, kX 25]
def kc19 : xC := kO 2 [kI 5, kI 6, kX 26, kX 27, kR 2, kX 28, kX 29, kR 3, kR 4, kR 5, kI 7, kX 30, kX 31, kX 32, kI 8]
def kc20 : xC := kAr 0 6 [(6, kB 0 9)]
def kc21 : xC := kAr 0 24 [(24, kB 0 27)]
def kc22 : xC := kAr 0 24 [(24, kB 0 9)]
def kc23 : xC := kAr 0 24 [(24, kB3)]
def xc_8 : xCt := (([kc18, kc19, kc20, kc21, kc22, kc23, kc14, kc23], [(0, 99), (0, 5), (0, 23), kA3, kA3, kA3, (0, 6), (0, 30), kA3], [], [kR 0, kI 0, kI 1, kI 2], 13), [([kc18, kc19, kc20, kc21, kc22, kc23, kc14, kc23], [(0, 99), (0, 5), (0, 23), kA3, kA3, kA3, (0, 6), (0, 30), kA3, (0, 310)], [], [kI 9], 13)], 0)
def xu_8 : List xCu := []
def xT_8 : List (Nat × xCt) := []
theorem xv_8 : xVer0 xT_8 xHt 100000 69 xm_X6_lossOf xc_8 xu_8 = true := by
  rw [← zVer0_eq]
  decide +kernel
theorem xok_8 (l : Launch) : xCk l 69 xc_8 := ⟨xm_X6_lossOf, rfl, xVer_ok xk_all (xHt_ok l) (T := xT_8) (xTn l) rfl (f := 100000) (cuts := xu_8) xv_8 (fun Cu h => absurd h List.not_mem_nil)⟩
def xc_9 : xCt := (([kc18, kc19, kc20, kc21, kc22, kc23, kc14, kc23], [kA3, (0, 5), (0, 23), kA3, kA3, kA3, (0, 6), (0, 30), kA3], [], [kR 0, kI 0, kI 1, kI 2], 13), [([kc18, kc19, kc20, kc21, kc22, kc23, kc14, kc23], [kA3, (0, 5), (0, 23), kA3, kA3, kA3, (0, 6), (0, 30), kA3, kA3], [], [kI 9], 13)], 0)
def xu_9 : List xCu := []
def xT_9 : List (Nat × xCt) := []
theorem xv_9 : xVer0 xT_9 xHt 100000 69 xm_X6_lossOf xc_9 xu_9 = true := by
  rw [← zVer0_eq]
  decide +kernel
theorem xok_9 (l : Launch) : xCk l 69 xc_9 := ⟨xm_X6_lossOf, rfl, xVer_ok xk_all (xHt_ok l) (T := xT_9) (xTn l) rfl (f := 100000) (cuts := xu_9) xv_9 (fun Cu h => absurd h List.not_mem_nil)⟩
def kc24 : xC := kO 6 [kR 1, kX 20, kX 21, kR 2, kX 22, kI 1, kI 2, kX 23, kX 24, kX 25, kX 26]
def kc25 : xC := kO 2 [kI 3, kI 4, kX 27, kX 28, kX 29, kX 30, kX 31, kX 32, kX 33, kX 34, kI 5, kX 35, kX 36, kX 37, kI 6]
def xc_10 : xCt := (([kc24, kc25, kc16], [kA3, kA3, kA3, kA3, (0, 6), (0, 30), kA3], [], [kR 0, kI 0], 18), [([kc24, kc25, kc16], [kA3, kA3, kA3, kA3, (0, 6), (0, 30), kA3, kA3], [], [kI 7], 18)], 0)
def xu_10 : List xCu := [(4, [0, 1, 2, 3], ([kc24, kc25, kc16], [kA3, kA3, kA3, kA3, (0, 6), (0, 30), kA3, kA3, (0, 6)], [], [kR 0, kI 0, kI 7, kI 8], 18), ([(8, (-1))], 6))]
def xT_10 : List (Nat × xCt) := []
theorem xv_10 : xVer0 xT_10 xHt 100000 68 xm_X6_besideAny xc_10 xu_10 = true := by
  rw [← zVer0_eq]
  decide +kernel
theorem xw_10_0 : ((xu_10.drop 0).take 1).all (xVerC xT_10 xHt 100000 68 xm_X6_besideAny xc_10 xu_10) = true := by
  rw [← zVerC_eq]
  decide +kernel
theorem xok_10 (l : Launch) : xCk l 68 xc_10 := ⟨xm_X6_besideAny, rfl, xVer_ok xk_all (xHt_ok l) (T := xT_10) (xTn l) rfl (f := 100000) (cuts := xu_10) xv_10 (xAll0 (xAllS 0 1 xw_10_0 (xAllZ (by decide +kernel))))⟩
def kc26 : xC := kO 6 [kR 1, kR 6, kR 7, kX 20, kR 8, kI 2, kI 3, kR 9, kX 21, kR 10, kR 11]
def kc27 : xC := kO 2 [kI 4, kI 5, kX 22, kX 23, kR 2, kX 24, kX 25, kR 3, kR 4, kR 5, kI 6, kX 26, kX 27, kX 28, kI 7]
def kc28 : xC := kAr 0 144 [(144, kB kM 99)]
def xc_11 : xCt := (([kc26, kc27, kc20, kc21, kc22, kc23, kc14, kc14, kc0, kc28, kc23, kc14], [(0, 5), (0, 23), kA3, kA3, kA3, (0, 6), (0, 30), kA3], [], [kR 0, kI 0, kI 1], 9), [([kc26, kc27, kc20, kc21, kc22, kc23, kc14, kc14, kc0, kc28, kc23, kc14], [(0, 5), (0, 23), kA3, kA3, kA3, (0, 6), (0, 30), kA3, (kM, 99)], [], [kI 8], 9)], 1)
def xu_11 : List xCu := []
def xT_11 : List (Nat × xCt) := [(69, xc_9)]
theorem xv_11 : xVer0 xT_11 xHt 100000 67 xm_X6_arrive xc_11 xu_11 = true := by
  rw [← zVer0_eq]
  decide +kernel
theorem xok_11 (l : Launch) : xCk l 67 xc_11 := ⟨xm_X6_arrive, rfl, xVer_ok xk_all (xHt_ok l) (T := xT_11) (xTc (xok_9 l) (xTn l)) rfl (f := 100000) (cuts := xu_11) xv_11 (fun Cu h => absurd h List.not_mem_nil)⟩
def kc29 : xC := kO 6 [kR 1, kR 7, kR 8, kR 9, kR 10, kI 1, kI 2, kR 11, kR 12, kR 13, kR 14]
def kc30 : xC := kO 2 [kI 3, kI 4, kX 20, kX 21, kR 2, kR 3, kX 22, kR 4, kR 5, kR 6, kI 5, kX 23, kX 24, kX 25, kI 6]
def kc31 : xC := kAr 0 6 [(6, kB 0 60)]
def xc_12 : xCt := (([kc29, kc30, kc20, kc31, kc21, kc22, kc23, kc14, kc14, kc16, kc0, kc28, kc23, kc23, kc14], [(0, 23), kA3, kA3, kA3, (0, 6), (0, 30), kA3], [], [kR 0, kI 0], 6), [([kc29, kc30, kc20, kc31, kc21, kc22, kc23, kc14, kc14, kc16, kc0, kc28, kc23, kc23, kc14], [(0, 23), kA3, kA3, kA3, (0, 6), (0, 30), kA3], [], [], 6)], 2)
def xu_12 : List xCu := [(4, [0, 1, 2, 3], ([kc29, kc30, kc20, kc31, kc21, kc22, kc23, kc14, kc14, kc16, kc0, kc28, kc23, kc23, kc14], [(0, 23), kA3, kA3, kA3, (0, 6), (0, 30), kA3, kA3, (0, 6)], [], [kR 0, kI 0, kI 7, kI 8], 6), ([(8, (-1))], 6))]
def xT_12 : List (Nat × xCt) := [(68, xc_10), (67, xc_11)]
theorem xv_12 : xVer0 xT_12 xHt 100000 66 xm_X6_playHour xc_12 xu_12 = true := by
  rw [← zVer0_eq]
  decide +kernel
theorem xw_12_0 : ((xu_12.drop 0).take 1).all (xVerC xT_12 xHt 100000 66 xm_X6_playHour xc_12 xu_12) = true := by
  rw [← zVerC_eq]
  decide +kernel
theorem xok_12 (l : Launch) : xCk l 66 xc_12 := ⟨xm_X6_playHour, rfl, xVer_ok xk_all (xHt_ok l) (T := xT_12) (xTc (xok_10 l) (xTc (xok_11 l) (xTn l))) rfl (f := 100000) (cuts := xu_12) xv_12 (xAll0 (xAllS 0 1 xw_12_0 (xAllZ (by decide +kernel))))⟩
def kc32 : xC := kO 6 [kR 1, kR 8, kR 9, kR 10, kR 11, kI 0, kI 1, kR 12, kR 13, kR 14, kR 15]
def kc33 : xC := kO 2 [kI 2, kI 3, kR 2, kX 20, kR 3, kR 4, kX 21, kR 5, kR 6, kR 7, kI 4, kX 22, kX 23, kX 24, kI 5]
def xc_13 : xCt := (([kc32, kc33, kc12, kc20, kc31, kc21, kc22, kc23, kc14, kc14, kc16, kc0, kc28, kc23, kc23, kc14], [kA3, kA3, kA3, (0, 6), (0, 30), kA3, (0, 24)], [], [kR 0], 5), [([kc32, kc33, kc12, kc20, kc31, kc21, kc22, kc23, kc14, kc14, kc16, kc0, kc28, kc23, kc23, kc14], [kA3, kA3, kA3, (0, 6), (0, 30), kA3, (0, 24)], [], [], 5)], 3)
def xu_13 : List xCu := [(2, [0, 1], ([kc32, kc33, kc12, kc20, kc31, kc21, kc22, kc23, kc14, kc14, kc16, kc0, kc28, kc23, kc23, kc14], [kA3, kA3, kA3, (0, 6), (0, 30), kA3, (0, 24), (0, 24)], [], [kR 0, kI 7], 5), ([(7, (-1))], 24))]
def xT_13 : List (Nat × xCt) := [(66, xc_12)]
theorem xv_13 : xVer0 xT_13 xHt 100000 64 xm_X6_playAll xc_13 xu_13 = true := by
  rw [← zVer0_eq]
  decide +kernel
theorem xw_13_0 : ((xu_13.drop 0).take 1).all (xVerC xT_13 xHt 100000 64 xm_X6_playAll xc_13 xu_13) = true := by
  rw [← zVerC_eq]
  decide +kernel
theorem xok_13 (l : Launch) : xCk l 64 xc_13 := ⟨xm_X6_playAll, rfl, xVer_ok xk_all (xHt_ok l) (T := xT_13) (xTc (xok_12 l) (xTn l)) rfl (f := 100000) (cuts := xu_13) xv_13 (xAll0 (xAllS 0 1 xw_13_0 (xAllZ (by decide +kernel))))⟩
def xc_14 : xCt := (([kc29, kc30, kc20, kc31, kc21, kc22, kc23, kc14, kc14, kc16, kc0, kc28, kc23, kc23, kc14], [(0, 23), kA3, kA3, kA3, (0, 6), (0, 30), kA3], [], [kR 0, kI 0], 6), [([kc29, kc30, kc20, kc31, kc21, kc22, kc23, kc14, kc14, kc16, kc0, kc28, kc23, kc23, kc14], [(0, 23), kA3, kA3, kA3, (0, 6), (0, 30), kA3], [], [], 6)], 3)
def xu_14 : List xCu := [(2, [0, 1, 2], ([kc29, kc30, kc20, kc31, kc21, kc22, kc23, kc14, kc14, kc16, kc0, kc28, kc23, kc23, kc14], [(0, 23), kA3, kA3, kA3, (0, 6), (0, 30), kA3, (0, 24)], [], [kR 0, kI 0, kI 7], 6), ([(7, (-1))], 24))]
def xT_14 : List (Nat × xCt) := [(66, xc_12)]
theorem xv_14 : xVer0 xT_14 xHt 100000 65 xm_X6_playThrough xc_14 xu_14 = true := by
  rw [← zVer0_eq]
  decide +kernel
theorem xw_14_0 : ((xu_14.drop 0).take 1).all (xVerC xT_14 xHt 100000 65 xm_X6_playThrough xc_14 xu_14) = true := by
  rw [← zVerC_eq]
  decide +kernel
theorem xok_14 (l : Launch) : xCk l 65 xc_14 := ⟨xm_X6_playThrough, rfl, xVer_ok xk_all (xHt_ok l) (T := xT_14) (xTc (xok_12 l) (xTn l)) rfl (f := 100000) (cuts := xu_14) xv_14 (xAll0 (xAllS 0 1 xw_14_0 (xAllZ (by decide +kernel))))⟩
def kc34 : xC := kO 6 [kR 1, kX 20, kX 21, kX 22, kX 23, kI 1, kI 2, kX 24, kR 3, kX 25, kX 26]
def kc35 : xC := kO 2 [kI 3, kI 4, kR 2, kX 27, kX 28, kX 29, kX 30, kX 31, kX 32, kX 33, kI 5, kX 34, kX 35, kX 36, kI 6]
def kc36 : xC := kAr 0 6 [(1, kS 7), (5, kB3)]
def xc_15 : xCt := (([kc34, kc35, kc36, kc23], [(0, 5), kA3, kA3, kA3, (0, 6), (0, 30), kA3, (0, 24)], [], [kR 0, kI 0], 17), [([kc34, kc35, kc36, kc23], [(0, 5), kA3, kA3, kA3, (0, 6), (0, 30), kA3, (0, 24), ((-1), 23)], [], [kI 8], 17)], 1)
def xu_15 : List xCu := [(2, [0, 1, 2], ([kc34, kc35, kc36, kc23], [(0, 5), kA3, kA3, kA3, (0, 6), (0, 30), kA3, (0, 24), (0, 24)], [], [kR 0, kI 0, kI 8], 17), ([(8, (-1))], 24))]
def xT_15 : List (Nat × xCt) := []
theorem xv_15 : xVer0 xT_15 xHt 100000 74 xm_X6_firstSag xc_15 xu_15 = true := by
  rw [← zVer0_eq]
  decide +kernel
theorem xw_15_0 : ((xu_15.drop 0).take 1).all (xVerC xT_15 xHt 100000 74 xm_X6_firstSag xc_15 xu_15) = true := by
  rw [← zVerC_eq]
  decide +kernel
theorem xok_15 (l : Launch) : xCk l 74 xc_15 := ⟨xm_X6_firstSag, rfl, xVer_ok xk_all (xHt_ok l) (T := xT_15) (xTn l) rfl (f := 100000) (cuts := xu_15) xv_15 (xAll0 (xAllS 0 1 xw_15_0 (xAllZ (by decide +kernel))))⟩
def xc_16 : xCt := (([kc34, kc35, kc36, kc23], [(0, 5), kA3, kA3, kA3, (0, 6), (0, 30), kA3, (0, 24)], [], [kR 0, kI 0], 17), [([kc34, kc35, kc36, kc23], [(0, 5), kA3, kA3, kA3, (0, 6), (0, 30), kA3, (0, 24), kA3], [], [kI 8], 17)], 1)
def xu_16 : List xCu := [(4, [0, 1, 2, 3], ([kc34, kc35, kc36, kc23], [(0, 5), kA3, kA3, kA3, (0, 6), (0, 30), kA3, (0, 24), kA3, (0, 24)], [], [kR 0, kI 0, kI 8, kI 9], 17), ([(9, (-1))], 24))]
def xT_16 : List (Nat × xCt) := []
theorem xv_16 : xVer0 xT_16 xHt 100000 75 xm_X6_hoursStood xc_16 xu_16 = true := by
  rw [← zVer0_eq]
  decide +kernel
theorem xw_16_0 : ((xu_16.drop 0).take 1).all (xVerC xT_16 xHt 100000 75 xm_X6_hoursStood xc_16 xu_16) = true := by
  rw [← zVerC_eq]
  decide +kernel
theorem xok_16 (l : Launch) : xCk l 75 xc_16 := ⟨xm_X6_hoursStood, rfl, xVer_ok xk_all (xHt_ok l) (T := xT_16) (xTn l) rfl (f := 100000) (cuts := xu_16) xv_16 (xAll0 (xAllS 0 1 xw_16_0 (xAllZ (by decide +kernel))))⟩
def kc37 : xC := kO 6 [kR 1, kX 20, kX 21, kR 2, kX 22, kI 1, kI 2, kX 23, kR 3, kX 24, kX 25]
def kc38 : xC := kO 2 [kI 3, kI 4, kX 26, kX 27, kX 28, kX 29, kX 30, kX 31, kX 32, kX 33, kI 5, kX 34, kX 35, kX 36, kI 6]
def xc_17 : xCt := (([kc37, kc38, kc16, kc23], [(0, 23), kA3, kA3, kA3, (0, 6), (0, 30), kA3], [], [kR 0, kI 0], 17), [([kc37, kc38, kc16, kc23], [(0, 23), kA3, kA3, kA3, (0, 6), (0, 30), kA3, (0, kW)], [], [kI 7], 17)], 1)
def xu_17 : List xCu := [(7, [0, 1, 2, 3, 4], ([kc37, kc38, kc16, kc23], [(0, 23), kA3, kA3, kA3, (0, 6), (0, 30), kA3, (0, kW), kA3, (0, 6)], [], [kR 0, kI 0, kI 7, kI 8, kI 9], 17), ([(9, (-1))], 6))]
def xT_17 : List (Nat × xCt) := []
theorem xv_17 : xVer0 xT_17 xHt 100000 76 xm_X6_widestGap xc_17 xu_17 = true := by
  rw [← zVer0_eq]
  decide +kernel
theorem xw_17_0 : ((xu_17.drop 0).take 1).all (xVerC xT_17 xHt 100000 76 xm_X6_widestGap xc_17 xu_17) = true := by
  rw [← zVerC_eq]
  decide +kernel
theorem xok_17 (l : Launch) : xCk l 76 xc_17 := ⟨xm_X6_widestGap, rfl, xVer_ok xk_all (xHt_ok l) (T := xT_17) (xTn l) rfl (f := 100000) (cuts := xu_17) xv_17 (xAll0 (xAllS 0 1 xw_17_0 (xAllZ (by decide +kernel))))⟩
def kc39 : xC := kO 6 [kR 1, kR 8, kR 9, kR 10, kR 11, kI 1, kI 2, kR 12, kR 13, kR 14, kR 15]
def kc40 : xC := kO 2 [kI 3, kI 4, kR 2, kX 20, kR 3, kR 4, kX 21, kR 5, kR 6, kR 7, kI 5, kX 22, kX 23, kX 24, kI 6]
def xc_18 : xCt := (([kc39, kc40, kc36, kc20, kc31, kc21, kc22, kc23, kc14, kc14, kc16, kc0, kc28, kc23, kc23, kc14], [(0, 24), kA3, kA3, kA3, (0, 6), (0, 30), kA3, (0, 24)], [], [kR 0, kI 0], 5), [([kc39, kc40, kc36, kc20, kc31, kc21, kc22, kc23, kc14, kc14, kc16, kc0, kc28, kc23, kc23, kc14], [(0, 24), kA3, kA3, kA3, (0, 6), (0, 30), kA3, (0, 24), (0, 24)], [], [kI 8], 5)], 3)
def xu_18 : List xCu := [(2, [0, 1, 2], ([kc39, kc40, kc36, kc20, kc31, kc21, kc22, kc23, kc14, kc14, kc16, kc0, kc28, kc23, kc23, kc14], [(0, 24), kA3, kA3, kA3, (0, 6), (0, 30), kA3, (0, 24), (0, 24)], [], [kR 0, kI 0, kI 8], 5), ([(8, (-1))], 24))]
def xT_18 : List (Nat × xCt) := [(66, xc_12), (76, xc_17)]
theorem xv_18 : xVer0 xT_18 xHt 100000 78 xm_X6_hoursHeldOf xc_18 xu_18 = true := by
  rw [← zVer0_eq]
  decide +kernel
theorem xw_18_0 : ((xu_18.drop 0).take 1).all (xVerC xT_18 xHt 100000 78 xm_X6_hoursHeldOf xc_18 xu_18) = true := by
  rw [← zVerC_eq]
  decide +kernel
theorem xok_18 (l : Launch) : xCk l 78 xc_18 := ⟨xm_X6_hoursHeldOf, rfl, xVer_ok xk_all (xHt_ok l) (T := xT_18) (xTc (xok_12 l) (xTc (xok_17 l) (xTn l))) rfl (f := 100000) (cuts := xu_18) xv_18 (xAll0 (xAllS 0 1 xw_18_0 (xAllZ (by decide +kernel))))⟩
def kc41 : xC := kO 6 [kR 1, kR 7, kR 8, kR 9, kR 10, kI 2, kI 3, kR 11, kR 12, kR 13, kR 14]
def kc42 : xC := kO 2 [kI 4, kI 5, kX 20, kX 21, kR 2, kR 3, kX 22, kR 4, kR 5, kR 6, kI 6, kX 23, kX 24, kX 25, kI 7]
def xc_19 : xCt := (([kc41, kc42, kc20, kc31, kc21, kc22, kc23, kc14, kc14, kc16, kc0, kc28, kc23, kc23, kc14], [(0, 5), (0, 23), kA3, kA3, kA3, (0, 6), (0, 30), kA3], [], [kR 0, kI 0, kI 1], 6), [([kc41, kc42, kc20, kc31, kc21, kc22, kc23, kc14, kc14, kc16, kc0, kc28, kc23, kc23, kc14], [(0, 5), (0, 23), kA3, kA3, kA3, (0, 6), (0, 30), kA3, (0, 1)], [], [kI 8], 6)], 3)
def xu_19 : List xCu := [(2, [0, 1, 2, 3], ([kc41, kc42, kc20, kc31, kc21, kc22, kc23, kc14, kc14, kc16, kc0, kc28, kc23, kc23, kc14], [(0, 5), (0, 23), kA3, kA3, kA3, (0, 6), (0, 30), kA3, (0, 24)], [], [kR 0, kI 0, kI 1, kI 8], 6), ([(8, (-1))], 24))]
def xT_19 : List (Nat × xCt) := [(66, xc_12)]
theorem xv_19 : xVer0 xT_19 xHt 100000 81 xm_X6_standsThrough xc_19 xu_19 = true := by
  rw [← zVer0_eq]
  decide +kernel
theorem xw_19_0 : ((xu_19.drop 0).take 1).all (xVerC xT_19 xHt 100000 81 xm_X6_standsThrough xc_19 xu_19) = true := by
  rw [← zVerC_eq]
  decide +kernel
theorem xok_19 (l : Launch) : xCk l 81 xc_19 := ⟨xm_X6_standsThrough, rfl, xVer_ok xk_all (xHt_ok l) (T := xT_19) (xTc (xok_12 l) (xTn l)) rfl (f := 100000) (cuts := xu_19) xv_19 (xAll0 (xAllS 0 1 xw_19_0 (xAllZ (by decide +kernel))))⟩
def kc43 : xC := kO 5 [kR 1, kR 2, kR 4, kX 20, kI 1, kI 2, kI 3, kI 4]
def kc44 : xC := kO 2 [kI 5, kI 6, kX 21, kX 22, kX 23, kX 24, kX 25, kX 26, kX 27, kX 28, kI 7, kX 29, kX 30, kX 31, kI 8]
def kc45 : xC := kO 6 [kR 1, kX 32, kX 33, kX 34, kR 3, kI 9, kI 10, kX 35, kX 36, kX 37, kX 38]
def xc_20 : xCt := (([kc43, kc44, kc45, kc0, kc14], [kA3, kA3, kA3, kA3, kA3, kA3, (0, 6), (0, 30), kA3, kA3, kA3], [], [kR 0, kI 0], 19), [([kc43, kc44, kc45, kc0, kc14], [kA3, kA3, kA3, kA3, kA3, kA3, (0, 6), (0, 30), kA3, kA3, kA3], [], [], 19)], 2)
def xu_20 : List xCu := [(2, [0, 1, 2], ([kc43, kc44, kc45, kc0, kc14], [kA3, kA3, kA3, kA3, kA3, kA3, (0, 6), (0, 30), kA3, kA3, kA3, (0, 6)], [], [kR 0, kI 0, kI 11], 19), ([(11, (-1))], 6))]
def xT_20 : List (Nat × xCt) := []
theorem xv_20 : xVer0 xT_20 xHt 100000 58 xm_X5_starchAll xc_20 xu_20 = true := by
  rw [← zVer0_eq]
  decide +kernel
theorem xw_20_0 : ((xu_20.drop 0).take 1).all (xVerC xT_20 xHt 100000 58 xm_X5_starchAll xc_20 xu_20) = true := by
  rw [← zVerC_eq]
  decide +kernel
theorem xok_20 (l : Launch) : xCk l 58 xc_20 := ⟨xm_X5_starchAll, rfl, xVer_ok xk_all (xHt_ok l) (T := xT_20) (xTn l) rfl (f := 100000) (cuts := xu_20) xv_20 (xAll0 (xAllS 0 1 xw_20_0 (xAllZ (by decide +kernel))))⟩
def kc46 : xC := kO 5 [kR 1, kR 8, kR 17, kX 20, kI 1, kI 2, kI 3, kI 4]
def kc47 : xC := kO 2 [kI 5, kI 6, kR 2, kX 21, kR 3, kR 4, kX 22, kR 5, kR 6, kR 7, kI 7, kX 23, kX 24, kX 25, kI 8]
def kc48 : xC := kAr 0 6 [(1, kS 9), (5, kB3)]
def kc49 : xC := kO 6 [kR 1, kR 9, kR 10, kR 11, kR 12, kI 10, kI 11, kR 13, kR 14, kR 15, kR 16]
def xc_21 : xCt := (([kc46, kc47, kc48, kc20, kc31, kc21, kc22, kc23, kc49, kc14, kc14, kc16, kc0, kc28, kc23, kc23, kc14, kc14], [(0, 24), kA3, kA3, kA3, kA3, kA3, (0, 6), (0, 30), kA3, (0, 24), kA3, kA3], [], [kR 0, kI 0], 6), [([kc46, kc47, kc48, kc20, kc31, kc21, kc22, kc23, kc49, kc14, kc14, kc16, kc0, kc28, kc23, kc23, kc14, kc14], [(0, 24), kA3, kA3, kA3, kA3, kA3, (0, 6), (0, 30), kA3, (0, 24), kA3, kA3, (0, 24)], [], [kI 12], 6)], 4)
def xu_21 : List xCu := []
def xT_21 : List (Nat × xCt) := [(78, xc_18), (58, xc_20)]
theorem xv_21 : xVer0 xT_21 xHt 100000 57 xm_X5_heldBy xc_21 xu_21 = true := by
  rw [← zVer0_eq]
  decide +kernel
theorem xok_21 (l : Launch) : xCk l 57 xc_21 := ⟨xm_X5_heldBy, rfl, xVer_ok xk_all (xHt_ok l) (T := xT_21) (xTc (xok_18 l) (xTc (xok_20 l) (xTn l))) rfl (f := 100000) (cuts := xu_21) xv_21 (fun Cu h => absurd h List.not_mem_nil)⟩
def kc50 : xC := kO 5 [kR 1, kX 20, kR 2, kX 21, kI 0, kI 1, kI 2, kI 3]
def kc51 : xC := kO 2 [kI 4, kI 5, kX 22, kX 23, kX 24, kX 25, kX 26, kX 27, kX 28, kX 29, kI 6, kX 30, kX 31, kX 32, kI 7]
def xc_22 : xCt := (([kc50, kc51, kc14], [kA3, kA3, kA3, kA3, kA3, (0, 6), (0, 30), kA3], [], [kR 0], 13), [([kc50, kc51, kc14], [kA3, kA3, kA3, kA3, kA3, (0, 6), (0, 30), kA3, (0, 1)], [], [kI 8], 13)], 0)
def xu_22 : List xCu := []
def xT_22 : List (Nat × xCt) := []
theorem xv_22 : xVer0 xT_22 xHt 100000 56 xm_X5_advance xc_22 xu_22 = true := by
  rw [← zVer0_eq]
  decide +kernel
theorem xok_22 (l : Launch) : xCk l 56 xc_22 := ⟨xm_X5_advance, rfl, xVer_ok xk_all (xHt_ok l) (T := xT_22) (xTn l) rfl (f := 100000) (cuts := xu_22) xv_22 (fun Cu h => absurd h List.not_mem_nil)⟩
def kc52 : xC := kO 5 [kR 1, kR 13, kR 22, kR 23, kI 12, kI 13, kI 14, kI 15]
def kc53 : xC := kO 2 [kI 5, kI 6, kR 2, kR 3, kR 4, kR 5, kR 6, kR 7, kR 8, kR 9, kI 7, kR 10, kR 11, kR 12, kI 8]
def kc54 : xC := kO 6 [kR 1, kR 14, kR 15, kR 16, kR 17, kI 16, kI 17, kR 18, kR 19, kR 20, kR 21]
def kc55 : xC := kO 5 [kR 1, kR 13, kR 22, kR 23, kI 1, kI 2, kI 3, kI 4]
def kc56 : xC := kO 6 [kR 1, kR 14, kR 15, kR 16, kR 17, kI 10, kI 11, kR 18, kR 19, kR 20, kR 21]
def kc57 : xC := kO 5 [kR 1, kR 13, kR 22, kR 23, kI 14, kI 15, kI 0, kI 8]
def kc58 : xC := kO 6 [kR 1, kR 14, kR 15, kR 16, kR 17, kI 16, kIc 0, kR 18, kR 19, kR 20, kR 21]
def xc_23 : xCt := (([kc55, kc53, kc48, kc13, kc20, kc31, kc14, kc21, kc22, kc23, kc15, kc4, kc5, kc56, kc14, kc14, kc16, kc0, kc28, kc23, kc23, kc14, kc14, kc14], [(0, 6), kA3, kA3, kA3, kA3, kA3, (0, 6), (0, 30), kA3, (0, 24), kA3, kA3], [], [kR 0, kI 0], 0), [([kc52, kc53, kc48, kc13, kc20, kc31, kc14, kc21, kc22, kc23, kc15, kc4, kc5, kc54, kc14, kc14, kc16, kc0, kc28, kc23, kc23, kc14, kc14, kc14], [(0, 6), kA3, kA3, kA3, kA3, kA3, (0, 6), (0, 30), kA3, (0, 24), kA3, kA3, kA3, kA3, kA3, kA3, kA3, kA3], [], [], 0)], 5)
def xu_23 : List xCu := [(64, [0, 1, 2, 3], ([kc57, kc53, kc48, kc13, kc20, kc31, kc14, kc21, kc22, kc23, kc15, kc4, kc5, kc58, kc14, kc14, kc16, kc0, kc28, kc23, kc23, kc14, kc14, kc14], [(0, 6), kA3, kA3, kA3, kA3, kA3, (0, 6), (0, 30), kA3, (0, 24), kA3, kA3, (0, 1), (0, 500), kA3, kA3, kA3], [], [kR 0, kI 0, kI 12, kI 13], 0), ([(13, (-1))], 500))]
def xT_23 : List (Nat × xCt) := [(61, xc_7), (57, xc_21), (56, xc_22)]
theorem xv_23 : xVer0 xT_23 xHt 100000 51 xm_X5_search xc_23 xu_23 = true := by
  rw [← zVer0_eq]
  decide +kernel
theorem xw_23_0 : ((xu_23.drop 0).take 1).all (xVerC xT_23 xHt 100000 51 xm_X5_search xc_23 xu_23) = true := by
  rw [← zVerC_eq]
  decide +kernel
theorem xok_23 (l : Launch) : xCk l 51 xc_23 := ⟨xm_X5_search, rfl, xVer_ok xk_all (xHt_ok l) (T := xT_23) (xTc (xok_7 l) (xTc (xok_21 l) (xTc (xok_22 l) (xTn l)))) rfl (f := 100000) (cuts := xu_23) xv_23 (xAll0 (xAllS 0 1 xw_23_0 (xAllZ (by decide +kernel))))⟩
def kc59 : xC := kO 5 [kR 1, kR 13, kR 22, kX 20, kI 2, kI 3, kI 4, kI 5]
def kc60 : xC := kO 2 [kI 6, kI 7, kR 2, kR 3, kR 4, kR 5, kR 6, kR 7, kR 8, kR 9, kI 8, kR 10, kR 11, kR 12, kI 9]
def kc61 : xC := kAr 0 6 [(1, kS 10), (5, kB3)]
def kc62 : xC := kO 6 [kR 1, kR 14, kR 15, kR 16, kR 17, kI 14, kIc 0, kR 18, kR 19, kR 20, kR 21]
def kc63 : xC := kO 6 [kR 1, kR 14, kR 15, kR 16, kR 17, kI 11, kI 12, kR 18, kR 19, kR 20, kR 21]
def kc64 : xC := kO 6 [kR 1, kR 14, kR 15, kR 16, kR 17, kI 15, kIc 0, kR 18, kR 19, kR 20, kR 21]
def xc_24 : xCt := (([kc59, kc60, kc61, kc13, kc20, kc31, kc14, kc21, kc22, kc23, kc15, kc4, kc5, kc63, kc14, kc14, kc16, kc0, kc28, kc23, kc23, kc14, kc14], [(0, 23), (0, 6), kA3, kA3, kA3, kA3, kA3, (0, 6), (0, 30), kA3, (0, 24), kA3, kA3], [], [kR 0, kI 0, kI 1], 1), [([kc59, kc60, kc61, kc13, kc20, kc31, kc14, kc21, kc22, kc23, kc15, kc4, kc5, kc62, kc14, kc14, kc16, kc0, kc28, kc23, kc23, kc14, kc14], [(0, 23), (0, 6), kA3, kA3, kA3, kA3, kA3, (0, 6), (0, 30), kA3, (0, 24), kA3, kA3, (0, 1), kA3], [], [kI 13], 1)], 5)
def xu_24 : List xCu := [(16, [0, 1, 2, 3, 4], ([kc59, kc60, kc61, kc13, kc20, kc31, kc14, kc21, kc22, kc23, kc15, kc4, kc5, kc64, kc14, kc14, kc16, kc0, kc28, kc23, kc23, kc14, kc14], [(0, 23), (0, 6), kA3, kA3, kA3, kA3, kA3, (0, 6), (0, 30), kA3, (0, 24), kA3, kA3, (0, 1), (0, 500), kA3], [], [kR 0, kI 0, kI 1, kI 13, kI 14], 1), ([(14, (-1))], 500))]
def xT_24 : List (Nat × xCt) := [(61, xc_7), (57, xc_21), (56, xc_22)]
theorem xv_24 : xVer0 xT_24 xHt 100000 54 xm_X5_holdsThrough xc_24 xu_24 = true := by
  rw [← zVer0_eq]
  decide +kernel
theorem xw_24_0 : ((xu_24.drop 0).take 1).all (xVerC xT_24 xHt 100000 54 xm_X5_holdsThrough xc_24 xu_24) = true := by
  rw [← zVerC_eq]
  decide +kernel
theorem xok_24 (l : Launch) : xCk l 54 xc_24 := ⟨xm_X5_holdsThrough, rfl, xVer_ok xk_all (xHt_ok l) (T := xT_24) (xTc (xok_7 l) (xTc (xok_21 l) (xTc (xok_22 l) (xTn l)))) rfl (f := 100000) (cuts := xu_24) xv_24 (xAll0 (xAllS 0 1 xw_24_0 (xAllZ (by decide +kernel))))⟩
def kc65 : xC := kO 1 [kR 1, kX 20, kX 21, kI 0, kI 1]
def kc66 : xC := kO 2 [kI 2, kI 3, kX 22, kX 23, kX 24, kX 25, kX 26, kX 27, kX 28, kX 29, kI 4, kX 30, kX 31, kX 32, kI 5]
def xc_25 : xCt := (([kc65, kc66, kc16], [kA3, kA3, kA3, (0, 6), (0, 30), kA3], [], [kR 0, kR 2], 13), [([kc65, kc66, kc16], [kA3, kA3, kA3, (0, 6), (0, 30), kA3, (0, 1)], [], [kI 6], 13)], 1)
def xu_25 : List xCu := []
def xT_25 : List (Nat × xCt) := []
theorem xv_25 : xVer0 xT_25 xHt 100000 8 xm_X1_advance xc_25 xu_25 = true := by
  rw [← zVer0_eq]
  decide +kernel
theorem xok_25 (l : Launch) : xCk l 8 xc_25 := ⟨xm_X1_advance, rfl, xVer_ok xk_all (xHt_ok l) (T := xT_25) (xTn l) rfl (f := 100000) (cuts := xu_25) xv_25 (fun Cu h => absurd h List.not_mem_nil)⟩
