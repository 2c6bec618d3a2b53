/-! Contracts, printed by a program: part 9. -/
def kc292 : xC := kAr 0 24 [(24, kB 0 18)]
def kc293 : xC := kAr 0 24 [(23, kB 0 18), (1, kB 0 9)]
def kc294 : xC := kAr 0 24 [(22, kB 0 18), (2, kB 0 9)]
def kc295 : xC := kAr 0 24 [(21, kB 0 18), (3, kB 0 9)]
def kc296 : xC := kAr 0 24 [(20, kB 0 18), (4, kB 0 9)]
def kc297 : xC := kAr 0 24 [(19, kB 0 18), (5, kB 0 9)]
def kc298 : xC := kAr 0 24 [(18, kB 0 18), (6, kB 0 9)]
def kc299 : xC := kAr 0 24 [(17, kB 0 18), (7, kB 0 9)]
def kc300 : xC := kAr 0 24 [(16, kB 0 18), (8, kB 0 9)]
def kc301 : xC := kAr 0 24 [(15, kB 0 18), (9, kB 0 9)]
def kc302 : xC := kAr 0 24 [(14, kB 0 18), (10, kB 0 9)]
def kc303 : xC := kAr 0 24 [(13, kB 0 18), (11, kB 0 9)]
def kc304 : xC := kAr 0 24 [(12, kB 0 18), (12, kB 0 9)]
def kc305 : xC := kAr 0 24 [(11, kB 0 18), (13, kB 0 9)]
def kc306 : xC := kAr 0 24 [(10, kB 0 18), (14, kB 0 9)]
def kc307 : xC := kAr 0 24 [(9, kB 0 18), (15, kB 0 9)]
def kc308 : xC := kAr 0 24 [(8, kB 0 18), (16, kB 0 9)]
def kc309 : xC := kAr 0 24 [(7, kB 0 18), (17, kB 0 9)]
def kc310 : xC := kAr 0 24 [(6, kB 0 18), (18, kB 0 9)]
def kc311 : xC := kAr 0 24 [(5, kB 0 18), (19, kB 0 9)]
def kc312 : xC := kAr 0 24 [(4, kB 0 18), (20, kB 0 9)]
def kc313 : xC := kAr 0 24 [(3, kB 0 18), (21, kB 0 9)]
def kc314 : xC := kAr 0 24 [(2, kB 0 18), (22, kB 0 9)]
def kc315 : xC := kAr 0 24 [(1, kB 0 18), (23, kB 0 9)]
def kc316 : xC := kAr 0 24 [(23, kB 0 18), (1, kB 1 18)]
def xc_170 : xCt := (([kc186, kc185, kc19], [(0, 800), (0, 800), kA3, (0, 800), kA3, kA3, kA3, kA3, kA3, kA3, (1, 9)], [], [kR 0, kR 2, kI 10], 0), [([kc190, kc185, kc292], [(0, 800), (0, 800), kA3, (0, 800), kA3, kA3, kA3, kA3, kA3, kA3, (1, 9), (0, 800), kA3, (0, 800), kA3, kA3, kA3], [], [kIc 0], 0), ([kc192, kc185, kc292], [(0, 800), (0, 800), kA3, (0, 800), kA3, kA3, kA3, kA3, kA3, kA3, (1, 9), (0, 800), kA3, (0, 800), kA3], [], [kIc 1], 0)], 8)
def xu_170 : List xCu := [(50, [0, 1, 2, 3, 4], ([kc192, kc185, kc293], [(0, 800), (0, 800), kA3, (0, 800), kA3, kA3, kA3, kA3, kA3, kA3, (1, 9), (0, 800), kA3, (0, 800), (0, 23), (0, 23)], [], [kR 0, kR 2, kI 10, kI 15, kIc 23], 0), ([], 1)),
  (50, [0, 1, 2, 3, 4], ([kc192, kc185, kc294], [(0, 800), (0, 800), kA3, (0, 800), kA3, kA3, kA3, kA3, kA3, kA3, (1, 9), (0, 800), kA3, (0, 800), (0, 23), (0, 22)], [], [kR 0, kR 2, kI 10, kI 15, kIc 22], 0), ([], 2)),
  (50, [0, 1, 2, 3, 4], ([kc192, kc185, kc295], [(0, 800), (0, 800), kA3, (0, 800), kA3, kA3, kA3, kA3, kA3, kA3, (1, 9), (0, 800), kA3, (0, 800), (0, 23), (0, 21)], [], [kR 0, kR 2, kI 10, kI 15, kIc 21], 0), ([], 3)),
  (50, [0, 1, 2, 3, 4], ([kc192, kc185, kc296], [(0, 800), (0, 800), kA3, (0, 800), kA3, kA3, kA3, kA3, kA3, kA3, (1, 9), (0, 800), kA3, (0, 800), (0, 23), (0, 20)], [], [kR 0, kR 2, kI 10, kI 15, kIc 20], 0), ([], 4)),
  (50, [0, 1, 2, 3, 4], ([kc192, kc185, kc297], [(0, 800), (0, 800), kA3, (0, 800), kA3, kA3, kA3, kA3, kA3, kA3, (1, 9), (0, 800), kA3, (0, 800), (0, 23), (0, 19)], [], [kR 0, kR 2, kI 10, kI 15, kIc 19], 0), ([], 5)),
  (50, [0, 1, 2, 3, 4], ([kc192, kc185, kc298], [(0, 800), (0, 800), kA3, (0, 800), kA3, kA3, kA3, kA3, kA3, kA3, (1, 9), (0, 800), kA3, (0, 800), (0, 23), (0, 18)], [], [kR 0, kR 2, kI 10, kI 15, kIc 18], 0), ([], 6)),
  (50, [0, 1, 2, 3, 4], ([kc192, kc185, kc299], [(0, 800), (0, 800), kA3, (0, 800), kA3, kA3, kA3, kA3, kA3, kA3, (1, 9), (0, 800), kA3, (0, 800), (0, 23), (0, 17)], [], [kR 0, kR 2, kI 10, kI 15, kIc 17], 0), ([], 7)),
  (50, [0, 1, 2, 3, 4], ([kc192, kc185, kc300], [(0, 800), (0, 800), kA3, (0, 800), kA3, kA3, kA3, kA3, kA3, kA3, (1, 9), (0, 800), kA3, (0, 800), (0, 23), (0, 16)], [], [kR 0, kR 2, kI 10, kI 15, kIc 16], 0), ([], 8)),
  (50, [0, 1, 2, 3, 4], ([kc192, kc185, kc301], [(0, 800), (0, 800), kA3, (0, 800), kA3, kA3, kA3, kA3, kA3, kA3, (1, 9), (0, 800), kA3, (0, 800), (0, 23), (0, 15)], [], [kR 0, kR 2, kI 10, kI 15, kIc 15], 0), ([], 9)),
  (50, [0, 1, 2, 3, 4], ([kc192, kc185, kc302], [(0, 800), (0, 800), kA3, (0, 800), kA3, kA3, kA3, kA3, kA3, kA3, (1, 9), (0, 800), kA3, (0, 800), (0, 23), (0, 14)], [], [kR 0, kR 2, kI 10, kI 15, kIc 14], 0), ([], 10)),
  (50, [0, 1, 2, 3, 4], ([kc192, kc185, kc303], [(0, 800), (0, 800), kA3, (0, 800), kA3, kA3, kA3, kA3, kA3, kA3, (1, 9), (0, 800), kA3, (0, 800), (0, 23), (0, 13)], [], [kR 0, kR 2, kI 10, kI 15, kIc 13], 0), ([], 11)),
  (50, [0, 1, 2, 3, 4], ([kc192, kc185, kc304], [(0, 800), (0, 800), kA3, (0, 800), kA3, kA3, kA3, kA3, kA3, kA3, (1, 9), (0, 800), kA3, (0, 800), (0, 23), (0, 12)], [], [kR 0, kR 2, kI 10, kI 15, kIc 12], 0), ([], 12)),
  (50, [0, 1, 2, 3, 4], ([kc192, kc185, kc305], [(0, 800), (0, 800), kA3, (0, 800), kA3, kA3, kA3, kA3, kA3, kA3, (1, 9), (0, 800), kA3, (0, 800), (0, 23), (0, 11)], [], [kR 0, kR 2, kI 10, kI 15, kIc 11], 0), ([], 13)),
  (50, [0, 1, 2, 3, 4], ([kc192, kc185, kc306], [(0, 800), (0, 800), kA3, (0, 800), kA3, kA3, kA3, kA3, kA3, kA3, (1, 9), (0, 800), kA3, (0, 800), (0, 23), (0, 10)], [], [kR 0, kR 2, kI 10, kI 15, kIc 10], 0), ([], 14)),
  (50, [0, 1, 2, 3, 4], ([kc192, kc185, kc307], [(0, 800), (0, 800), kA3, (0, 800), kA3, kA3, kA3, kA3, kA3, kA3, (1, 9), (0, 800), kA3, (0, 800), (0, 23), (0, 9)], [], [kR 0, kR 2, kI 10, kI 15, kIc 9], 0), ([], 15)),
  (50, [0, 1, 2, 3, 4], ([kc192, kc185, kc308], [(0, 800), (0, 800), kA3, (0, 800), kA3, kA3, kA3, kA3, kA3, kA3, (1, 9), (0, 800), kA3, (0, 800), (0, 23), (0, 8)], [], [kR 0, kR 2, kI 10, kI 15, kIc 8], 0), ([], 16)),
  (50, [0, 1, 2, 3, 4], ([kc192, kc185, kc309], [(0, 800), (0, 800), kA3, (0, 800), kA3, kA3, kA3, kA3, kA3, kA3, (1, 9), (0, 800), kA3, (0, 800), (0, 23), (0, 7)], [], [kR 0, kR 2, kI 10, kI 15, kIc 7], 0), ([], 17)),
  (50, [0, 1, 2, 3, 4], ([kc192, kc185, kc310], [(0, 800), (0, 800), kA3, (0, 800), kA3, kA3, kA3, kA3, kA3, kA3, (1, 9), (0, 800), kA3, (0, 800), (0, 23), (0, 6)], [], [kR 0, kR 2, kI 10, kI 15, kIc 6], 0), ([], 18)),
  (50, [0, 1, 2, 3, 4], ([kc192, kc185, kc311], [(0, 800), (0, 800), kA3, (0, 800), kA3, kA3, kA3, kA3, kA3, kA3, (1, 9), (0, 800), kA3, (0, 800), (0, 23), (0, 5)], [], [kR 0, kR 2, kI 10, kI 15, kIc 5], 0), ([], 19)),
  (50, [0, 1, 2, 3, 4], ([kc192, kc185, kc312], [(0, 800), (0, 800), kA3, (0, 800), kA3, kA3, kA3, kA3, kA3, kA3, (1, 9), (0, 800), kA3, (0, 800), (0, 23), (0, 4)], [], [kR 0, kR 2, kI 10, kI 15, kIc 4], 0), ([], 20)),
  (50, [0, 1, 2, 3, 4], ([kc192, kc185, kc313], [(0, 800), (0, 800), kA3, (0, 800), kA3, kA3, kA3, kA3, kA3, kA3, (1, 9), (0, 800), kA3, (0, 800), (0, 23), (0, 3)], [], [kR 0, kR 2, kI 10, kI 15, kIc 3], 0), ([], 21)),
  (50, [0, 1, 2, 3, 4], ([kc192, kc185, kc314], [(0, 800), (0, 800), kA3, (0, 800), kA3, kA3, kA3, kA3, kA3, kA3, (1, 9), (0, 800), kA3, (0, 800), (0, 23), (0, 2)], [], [kR 0, kR 2, kI 10, kI 15, kIc 2], 0), ([], 22)),
  (50, [0, 1, 2, 3, 4], ([kc192, kc185, kc315], [(0, 800), (0, 800), kA3, (0, 800), kA3, kA3, kA3, kA3, kA3, kA3, (1, 9), (0, 800), kA3, (0, 800), (0, 23), (0, 1)], [], [kR 0, kR 2, kI 10, kI 15, kIc 1], 0), ([], 23)),
  (50, [0, 1, 2, 3, 4], ([kc192, kc185, kc19], [(0, 800), (0, 800), kA3, (0, 800), kA3, kA3, kA3, kA3, kA3, kA3, (1, 9), (0, 800), kA3, (0, 800), (0, 23)], [], [kR 0, kR 2, kI 10, kIc 0, kIc 0], 0), ([], 24)),
  (50, [0, 1, 2, 3, 4], ([kc217, kc185, kc316], [(0, 800), (0, 800), kA3, (0, 800), kA3, kA3, kA3, kA3, kA3, kA3, (1, 9), (0, 800), kA3, (0, 800), (0, 23)], [], [kR 0, kR 2, kI 10, kI 14, kIc 24], 0), ([], 0))]
def xT_170 : List (Nat × xCt) := [(40, xc_148), (44, xc_150), (44, xc_164)]
theorem xv_170 : xVer0v xT_170 xHt 100000 35 xm_X3_readsHours xc_170 xu_170 [0] = true := by decide +kernel
theorem xw_170_0 : ((xu_170.drop 0).take 1).all (xVerCs xT_170 xHt 100000 35 xm_X3_readsHours xc_170 xu_170 [0, 1] [24]) = true := by decide +kernel
theorem xw_170_1 : ((xu_170.drop 1).take 1).all (xVerCs xT_170 xHt 100000 35 xm_X3_readsHours xc_170 xu_170 [0, 1] [0]) = true := by decide +kernel
theorem xw_170_2 : ((xu_170.drop 2).take 1).all (xVerCs xT_170 xHt 100000 35 xm_X3_readsHours xc_170 xu_170 [0, 1] [1]) = true := by decide +kernel
theorem xw_170_3 : ((xu_170.drop 3).take 1).all (xVerCs xT_170 xHt 100000 35 xm_X3_readsHours xc_170 xu_170 [0, 1] [2]) = true := by decide +kernel
theorem xw_170_4 : ((xu_170.drop 4).take 1).all (xVerCs xT_170 xHt 100000 35 xm_X3_readsHours xc_170 xu_170 [0, 1] [3]) = true := by decide +kernel
theorem xw_170_5 : ((xu_170.drop 5).take 1).all (xVerCs xT_170 xHt 100000 35 xm_X3_readsHours xc_170 xu_170 [0, 1] [4]) = true := by decide +kernel
theorem xw_170_6 : ((xu_170.drop 6).take 1).all (xVerCs xT_170 xHt 100000 35 xm_X3_readsHours xc_170 xu_170 [0, 1] [5]) = true := by decide +kernel
theorem xw_170_7 : ((xu_170.drop 7).take 1).all (xVerCs xT_170 xHt 100000 35 xm_X3_readsHours xc_170 xu_170 [0, 1] [6]) = true := by decide +kernel
theorem xw_170_8 : ((xu_170.drop 8).take 1).all (xVerCs xT_170 xHt 100000 35 xm_X3_readsHours xc_170 xu_170 [0, 1] [7]) = true := by decide +kernel
theorem xw_170_9 : ((xu_170.drop 9).take 1).all (xVerCs xT_170 xHt 100000 35 xm_X3_readsHours xc_170 xu_170 [0, 1] [8]) = true := by decide +kernel
theorem xw_170_10 : ((xu_170.drop 10).take 1).all (xVerCs xT_170 xHt 100000 35 xm_X3_readsHours xc_170 xu_170 [0, 1] [9]) = true := by decide +kernel
theorem xw_170_11 : ((xu_170.drop 11).take 1).all (xVerCs xT_170 xHt 100000 35 xm_X3_readsHours xc_170 xu_170 [0, 1] [10]) = true := by decide +kernel
theorem xw_170_12 : ((xu_170.drop 12).take 1).all (xVerCs xT_170 xHt 100000 35 xm_X3_readsHours xc_170 xu_170 [0, 1] [11]) = true := by decide +kernel
theorem xw_170_13 : ((xu_170.drop 13).take 1).all (xVerCs xT_170 xHt 100000 35 xm_X3_readsHours xc_170 xu_170 [0, 1] [12]) = true := by decide +kernel
theorem xw_170_14 : ((xu_170.drop 14).take 1).all (xVerCs xT_170 xHt 100000 35 xm_X3_readsHours xc_170 xu_170 [0, 1] [13]) = true := by decide +kernel
theorem xw_170_15 : ((xu_170.drop 15).take 1).all (xVerCs xT_170 xHt 100000 35 xm_X3_readsHours xc_170 xu_170 [0, 1] [14]) = true := by decide +kernel
theorem xw_170_16 : ((xu_170.drop 16).take 1).all (xVerCs xT_170 xHt 100000 35 xm_X3_readsHours xc_170 xu_170 [0, 1] [15]) = true := by decide +kernel
theorem xw_170_17 : ((xu_170.drop 17).take 1).all (xVerCs xT_170 xHt 100000 35 xm_X3_readsHours xc_170 xu_170 [0, 1] [16]) = true := by decide +kernel
theorem xw_170_18 : ((xu_170.drop 18).take 1).all (xVerCs xT_170 xHt 100000 35 xm_X3_readsHours xc_170 xu_170 [0, 1] [17]) = true := by decide +kernel
theorem xw_170_19 : ((xu_170.drop 19).take 1).all (xVerCs xT_170 xHt 100000 35 xm_X3_readsHours xc_170 xu_170 [0, 1] [18]) = true := by decide +kernel
theorem xw_170_20 : ((xu_170.drop 20).take 1).all (xVerCs xT_170 xHt 100000 35 xm_X3_readsHours xc_170 xu_170 [0, 1] [19]) = true := by decide +kernel
theorem xw_170_21 : ((xu_170.drop 21).take 1).all (xVerCs xT_170 xHt 100000 35 xm_X3_readsHours xc_170 xu_170 [0, 1] [20]) = true := by decide +kernel
theorem xw_170_22 : ((xu_170.drop 22).take 1).all (xVerCs xT_170 xHt 100000 35 xm_X3_readsHours xc_170 xu_170 [0, 1] [21]) = true := by decide +kernel
theorem xw_170_23 : ((xu_170.drop 23).take 1).all (xVerCs xT_170 xHt 100000 35 xm_X3_readsHours xc_170 xu_170 [] [22]) = true := by decide +kernel
theorem xw_170_24 : ((xu_170.drop 24).take 1).all (xVerCs xT_170 xHt 100000 35 xm_X3_readsHours xc_170 xu_170 [0, 1] []) = true := by decide +kernel
theorem xok_170 (l : Launch) : xCk l 35 xc_170 := ⟨xm_X3_readsHours, rfl, xVer_ok xk_all (xHt_ok l) (T := xT_170) (xTc (xok_148 l) (xTc (xok_150 l) (xTc (xok_164 l) (xTn l)))) rfl (f := 100000) (cuts := xu_170) (xVer0v_ok xv_170) (xAll0 (xAllS 0 1 (xAllCs xw_170_0) (xAllS 1 1 (xAllCs xw_170_1) (xAllS 2 1 (xAllCs xw_170_2) (xAllS 3 1 (xAllCs xw_170_3) (xAllS 4 1 (xAllCs xw_170_4) (xAllS 5 1 (xAllCs xw_170_5) (xAllS 6 1 (xAllCs xw_170_6) (xAllS 7 1 (xAllCs xw_170_7) (xAllS 8 1 (xAllCs xw_170_8) (xAllS 9 1 (xAllCs xw_170_9) (xAllS 10 1 (xAllCs xw_170_10) (xAllS 11 1 (xAllCs xw_170_11) (xAllS 12 1 (xAllCs xw_170_12) (xAllS 13 1 (xAllCs xw_170_13) (xAllS 14 1 (xAllCs xw_170_14) (xAllS 15 1 (xAllCs xw_170_15) (xAllS 16 1 (xAllCs xw_170_16) (xAllS 17 1 (xAllCs xw_170_17) (xAllS 18 1 (xAllCs xw_170_18) (xAllS 19 1 (xAllCs xw_170_19) (xAllS 20 1 (xAllCs xw_170_20) (xAllS 21 1 (xAllCs xw_170_21) (xAllS 22 1 (xAllCs xw_170_22) (xAllS 23 1 (xAllCs xw_170_23) (xAllS 24 1 (xAllCs xw_170_24) (xAllZ (by decide +kernel))))))))))))))))))))))))))))⟩
def kc317 : xC := kAr 0 24 [(23, kB 0 27), (1, kB 0 18)]
def kc318 : xC := kAr 0 24 [(22, kB 0 27), (2, kB 0 18)]
def kc319 : xC := kAr 0 24 [(21, kB 0 27), (3, kB 0 18)]
def kc320 : xC := kAr 0 24 [(20, kB 0 27), (4, kB 0 18)]
def kc321 : xC := kAr 0 24 [(19, kB 0 27), (5, kB 0 18)]
def kc322 : xC := kAr 0 24 [(18, kB 0 27), (6, kB 0 18)]
def kc323 : xC := kAr 0 24 [(17, kB 0 27), (7, kB 0 18)]
def kc324 : xC := kAr 0 24 [(16, kB 0 27), (8, kB 0 18)]
def kc325 : xC := kAr 0 24 [(15, kB 0 27), (9, kB 0 18)]
def kc326 : xC := kAr 0 24 [(14, kB 0 27), (10, kB 0 18)]
def kc327 : xC := kAr 0 24 [(13, kB 0 27), (11, kB 0 18)]
def kc328 : xC := kAr 0 24 [(12, kB 0 27), (12, kB 0 18)]
def kc329 : xC := kAr 0 24 [(11, kB 0 27), (13, kB 0 18)]
def kc330 : xC := kAr 0 24 [(10, kB 0 27), (14, kB 0 18)]
def kc331 : xC := kAr 0 24 [(9, kB 0 27), (15, kB 0 18)]
def kc332 : xC := kAr 0 24 [(8, kB 0 27), (16, kB 0 18)]
def kc333 : xC := kAr 0 24 [(7, kB 0 27), (17, kB 0 18)]
def kc334 : xC := kAr 0 24 [(6, kB 0 27), (18, kB 0 18)]
def kc335 : xC := kAr 0 24 [(5, kB 0 27), (19, kB 0 18)]
def kc336 : xC := kAr 0 24 [(4, kB 0 27), (20, kB 0 18)]
def kc337 : xC := kAr 0 24 [(3, kB 0 27), (21, kB 0 18)]
def kc338 : xC := kAr 0 24 [(2, kB 0 27), (22, kB 0 18)]
def kc339 : xC := kAr 0 24 [(1, kB 0 27), (23, kB 0 18)]
def kc340 : xC := kAr 0 24 [(23, kB 0 27), (1, kB 1 27)]
def xc_171 : xCt := (([kc186, kc185, kc292], [(0, 800), (0, 800), kA3, (0, 800), kA3, kA3, kA3, kA3, kA3, kA3, (1, 9)], [], [kR 0, kR 2, kI 10], 0), [([kc190, kc185, kc18], [(0, 800), (0, 800), kA3, (0, 800), kA3, kA3, kA3, kA3, kA3, kA3, (1, 9), (0, 800), kA3, (0, 800), kA3, kA3, kA3], [], [kIc 0], 0), ([kc192, kc185, kc18], [(0, 800), (0, 800), kA3, (0, 800), kA3, kA3, kA3, kA3, kA3, kA3, (1, 9), (0, 800), kA3, (0, 800), kA3], [], [kIc 1], 0)], 8)
def xu_171 : List xCu := [(50, [0, 1, 2, 3, 4], ([kc192, kc185, kc317], [(0, 800), (0, 800), kA3, (0, 800), kA3, kA3, kA3, kA3, kA3, kA3, (1, 9), (0, 800), kA3, (0, 800), (0, 23), (0, 23)], [], [kR 0, kR 2, kI 10, kI 15, kIc 23], 0), ([], 1)),
  (50, [0, 1, 2, 3, 4], ([kc192, kc185, kc318], [(0, 800), (0, 800), kA3, (0, 800), kA3, kA3, kA3, kA3, kA3, kA3, (1, 9), (0, 800), kA3, (0, 800), (0, 23), (0, 22)], [], [kR 0, kR 2, kI 10, kI 15, kIc 22], 0), ([], 2)),
  (50, [0, 1, 2, 3, 4], ([kc192, kc185, kc319], [(0, 800), (0, 800), kA3, (0, 800), kA3, kA3, kA3, kA3, kA3, kA3, (1, 9), (0, 800), kA3, (0, 800), (0, 23), (0, 21)], [], [kR 0, kR 2, kI 10, kI 15, kIc 21], 0), ([], 3)),
  (50, [0, 1, 2, 3, 4], ([kc192, kc185, kc320], [(0, 800), (0, 800), kA3, (0, 800), kA3, kA3, kA3, kA3, kA3, kA3, (1, 9), (0, 800), kA3, (0, 800), (0, 23), (0, 20)], [], [kR 0, kR 2, kI 10, kI 15, kIc 20], 0), ([], 4)),
  (50, [0, 1, 2, 3, 4], ([kc192, kc185, kc321], [(0, 800), (0, 800), kA3, (0, 800), kA3, kA3, kA3, kA3, kA3, kA3, (1, 9), (0, 800), kA3, (0, 800), (0, 23), (0, 19)], [], [kR 0, kR 2, kI 10, kI 15, kIc 19], 0), ([], 5)),
  (50, [0, 1, 2, 3, 4], ([kc192, kc185, kc322], [(0, 800), (0, 800), kA3, (0, 800), kA3, kA3, kA3, kA3, kA3, kA3, (1, 9), (0, 800), kA3, (0, 800), (0, 23), (0, 18)], [], [kR 0, kR 2, kI 10, kI 15, kIc 18], 0), ([], 6)),
  (50, [0, 1, 2, 3, 4], ([kc192, kc185, kc323], [(0, 800), (0, 800), kA3, (0, 800), kA3, kA3, kA3, kA3, kA3, kA3, (1, 9), (0, 800), kA3, (0, 800), (0, 23), (0, 17)], [], [kR 0, kR 2, kI 10, kI 15, kIc 17], 0), ([], 7)),
  (50, [0, 1, 2, 3, 4], ([kc192, kc185, kc324], [(0, 800), (0, 800), kA3, (0, 800), kA3, kA3, kA3, kA3, kA3, kA3, (1, 9), (0, 800), kA3, (0, 800), (0, 23), (0, 16)], [], [kR 0, kR 2, kI 10, kI 15, kIc 16], 0), ([], 8)),
  (50, [0, 1, 2, 3, 4], ([kc192, kc185, kc325], [(0, 800), (0, 800), kA3, (0, 800), kA3, kA3, kA3, kA3, kA3, kA3, (1, 9), (0, 800), kA3, (0, 800), (0, 23), (0, 15)], [], [kR 0, kR 2, kI 10, kI 15, kIc 15], 0), ([], 9)),
  (50, [0, 1, 2, 3, 4], ([kc192, kc185, kc326], [(0, 800), (0, 800), kA3, (0, 800), kA3, kA3, kA3, kA3, kA3, kA3, (1, 9), (0, 800), kA3, (0, 800), (0, 23), (0, 14)], [], [kR 0, kR 2, kI 10, kI 15, kIc 14], 0), ([], 10)),
  (50, [0, 1, 2, 3, 4], ([kc192, kc185, kc327], [(0, 800), (0, 800), kA3, (0, 800), kA3, kA3, kA3, kA3, kA3, kA3, (1, 9), (0, 800), kA3, (0, 800), (0, 23), (0, 13)], [], [kR 0, kR 2, kI 10, kI 15, kIc 13], 0), ([], 11)),
  (50, [0, 1, 2, 3, 4], ([kc192, kc185, kc328], [(0, 800), (0, 800), kA3, (0, 800), kA3, kA3, kA3, kA3, kA3, kA3, (1, 9), (0, 800), kA3, (0, 800), (0, 23), (0, 12)], [], [kR 0, kR 2, kI 10, kI 15, kIc 12], 0), ([], 12)),
  (50, [0, 1, 2, 3, 4], ([kc192, kc185, kc329], [(0, 800), (0, 800), kA3, (0, 800), kA3, kA3, kA3, kA3, kA3, kA3, (1, 9), (0, 800), kA3, (0, 800), (0, 23), (0, 11)], [], [kR 0, kR 2, kI 10, kI 15, kIc 11], 0), ([], 13)),
  (50, [0, 1, 2, 3, 4], ([kc192, kc185, kc330], [(0, 800), (0, 800), kA3, (0, 800), kA3, kA3, kA3, kA3, kA3, kA3, (1, 9), (0, 800), kA3, (0, 800), (0, 23), (0, 10)], [], [kR 0, kR 2, kI 10, kI 15, kIc 10], 0), ([], 14)),
  (50, [0, 1, 2, 3, 4], ([kc192, kc185, kc331], [(0, 800), (0, 800), kA3, (0, 800), kA3, kA3, kA3, kA3, kA3, kA3, (1, 9), (0, 800), kA3, (0, 800), (0, 23), (0, 9)], [], [kR 0, kR 2, kI 10, kI 15, kIc 9], 0), ([], 15)),
  (50, [0, 1, 2, 3, 4], ([kc192, kc185, kc332], [(0, 800), (0, 800), kA3, (0, 800), kA3, kA3, kA3, kA3, kA3, kA3, (1, 9), (0, 800), kA3, (0, 800), (0, 23), (0, 8)], [], [kR 0, kR 2, kI 10, kI 15, kIc 8], 0), ([], 16)),
  (50, [0, 1, 2, 3, 4], ([kc192, kc185, kc333], [(0, 800), (0, 800), kA3, (0, 800), kA3, kA3, kA3, kA3, kA3, kA3, (1, 9), (0, 800), kA3, (0, 800), (0, 23), (0, 7)], [], [kR 0, kR 2, kI 10, kI 15, kIc 7], 0), ([], 17)),
  (50, [0, 1, 2, 3, 4], ([kc192, kc185, kc334], [(0, 800), (0, 800), kA3, (0, 800), kA3, kA3, kA3, kA3, kA3, kA3, (1, 9), (0, 800), kA3, (0, 800), (0, 23), (0, 6)], [], [kR 0, kR 2, kI 10, kI 15, kIc 6], 0), ([], 18)),
  (50, [0, 1, 2, 3, 4], ([kc192, kc185, kc335], [(0, 800), (0, 800), kA3, (0, 800), kA3, kA3, kA3, kA3, kA3, kA3, (1, 9), (0, 800), kA3, (0, 800), (0, 23), (0, 5)], [], [kR 0, kR 2, kI 10, kI 15, kIc 5], 0), ([], 19)),
  (50, [0, 1, 2, 3, 4], ([kc192, kc185, kc336], [(0, 800), (0, 800), kA3, (0, 800), kA3, kA3, kA3, kA3, kA3, kA3, (1, 9), (0, 800), kA3, (0, 800), (0, 23), (0, 4)], [], [kR 0, kR 2, kI 10, kI 15, kIc 4], 0), ([], 20)),
  (50, [0, 1, 2, 3, 4], ([kc192, kc185, kc337], [(0, 800), (0, 800), kA3, (0, 800), kA3, kA3, kA3, kA3, kA3, kA3, (1, 9), (0, 800), kA3, (0, 800), (0, 23), (0, 3)], [], [kR 0, kR 2, kI 10, kI 15, kIc 3], 0), ([], 21)),
  (50, [0, 1, 2, 3, 4], ([kc192, kc185, kc338], [(0, 800), (0, 800), kA3, (0, 800), kA3, kA3, kA3, kA3, kA3, kA3, (1, 9), (0, 800), kA3, (0, 800), (0, 23), (0, 2)], [], [kR 0, kR 2, kI 10, kI 15, kIc 2], 0), ([], 22)),
  (50, [0, 1, 2, 3, 4], ([kc192, kc185, kc339], [(0, 800), (0, 800), kA3, (0, 800), kA3, kA3, kA3, kA3, kA3, kA3, (1, 9), (0, 800), kA3, (0, 800), (0, 23), (0, 1)], [], [kR 0, kR 2, kI 10, kI 15, kIc 1], 0), ([], 23)),
  (50, [0, 1, 2, 3, 4], ([kc192, kc185, kc292], [(0, 800), (0, 800), kA3, (0, 800), kA3, kA3, kA3, kA3, kA3, kA3, (1, 9), (0, 800), kA3, (0, 800), (0, 23)], [], [kR 0, kR 2, kI 10, kIc 0, kIc 0], 0), ([], 24)),
  (50, [0, 1, 2, 3, 4], ([kc217, kc185, kc340], [(0, 800), (0, 800), kA3, (0, 800), kA3, kA3, kA3, kA3, kA3, kA3, (1, 9), (0, 800), kA3, (0, 800), (0, 23)], [], [kR 0, kR 2, kI 10, kI 14, kIc 24], 0), ([], 0))]
def xT_171 : List (Nat × xCt) := [(40, xc_148), (44, xc_150), (44, xc_164)]
theorem xv_171 : xVer0v xT_171 xHt 100000 35 xm_X3_readsHours xc_171 xu_171 [0] = true := by decide +kernel
theorem xw_171_0 : ((xu_171.drop 0).take 1).all (xVerCs xT_171 xHt 100000 35 xm_X3_readsHours xc_171 xu_171 [0, 1] [24]) = true := by decide +kernel
theorem xw_171_1 : ((xu_171.drop 1).take 1).all (xVerCs xT_171 xHt 100000 35 xm_X3_readsHours xc_171 xu_171 [0, 1] [0]) = true := by decide +kernel
theorem xw_171_2 : ((xu_171.drop 2).take 1).all (xVerCs xT_171 xHt 100000 35 xm_X3_readsHours xc_171 xu_171 [0, 1] [1]) = true := by decide +kernel
theorem xw_171_3 : ((xu_171.drop 3).take 1).all (xVerCs xT_171 xHt 100000 35 xm_X3_readsHours xc_171 xu_171 [0, 1] [2]) = true := by decide +kernel
theorem xw_171_4 : ((xu_171.drop 4).take 1).all (xVerCs xT_171 xHt 100000 35 xm_X3_readsHours xc_171 xu_171 [0, 1] [3]) = true := by decide +kernel
theorem xw_171_5 : ((xu_171.drop 5).take 1).all (xVerCs xT_171 xHt 100000 35 xm_X3_readsHours xc_171 xu_171 [0, 1] [4]) = true := by decide +kernel
theorem xw_171_6 : ((xu_171.drop 6).take 1).all (xVerCs xT_171 xHt 100000 35 xm_X3_readsHours xc_171 xu_171 [0, 1] [5]) = true := by decide +kernel
theorem xw_171_7 : ((xu_171.drop 7).take 1).all (xVerCs xT_171 xHt 100000 35 xm_X3_readsHours xc_171 xu_171 [0, 1] [6]) = true := by decide +kernel
theorem xw_171_8 : ((xu_171.drop 8).take 1).all (xVerCs xT_171 xHt 100000 35 xm_X3_readsHours xc_171 xu_171 [0, 1] [7]) = true := by decide +kernel
theorem xw_171_9 : ((xu_171.drop 9).take 1).all (xVerCs xT_171 xHt 100000 35 xm_X3_readsHours xc_171 xu_171 [0, 1] [8]) = true := by decide +kernel
theorem xw_171_10 : ((xu_171.drop 10).take 1).all (xVerCs xT_171 xHt 100000 35 xm_X3_readsHours xc_171 xu_171 [0, 1] [9]) = true := by decide +kernel
theorem xw_171_11 : ((xu_171.drop 11).take 1).all (xVerCs xT_171 xHt 100000 35 xm_X3_readsHours xc_171 xu_171 [0, 1] [10]) = true := by decide +kernel
theorem xw_171_12 : ((xu_171.drop 12).take 1).all (xVerCs xT_171 xHt 100000 35 xm_X3_readsHours xc_171 xu_171 [0, 1] [11]) = true := by decide +kernel
theorem xw_171_13 : ((xu_171.drop 13).take 1).all (xVerCs xT_171 xHt 100000 35 xm_X3_readsHours xc_171 xu_171 [0, 1] [12]) = true := by decide +kernel
theorem xw_171_14 : ((xu_171.drop 14).take 1).all (xVerCs xT_171 xHt 100000 35 xm_X3_readsHours xc_171 xu_171 [0, 1] [13]) = true := by decide +kernel
theorem xw_171_15 : ((xu_171.drop 15).take 1).all (xVerCs xT_171 xHt 100000 35 xm_X3_readsHours xc_171 xu_171 [0, 1] [14]) = true := by decide +kernel
theorem xw_171_16 : ((xu_171.drop 16).take 1).all (xVerCs xT_171 xHt 100000 35 xm_X3_readsHours xc_171 xu_171 [0, 1] [15]) = true := by decide +kernel
theorem xw_171_17 : ((xu_171.drop 17).take 1).all (xVerCs xT_171 xHt 100000 35 xm_X3_readsHours xc_171 xu_171 [0, 1] [16]) = true := by decide +kernel
theorem xw_171_18 : ((xu_171.drop 18).take 1).all (xVerCs xT_171 xHt 100000 35 xm_X3_readsHours xc_171 xu_171 [0, 1] [17]) = true := by decide +kernel
theorem xw_171_19 : ((xu_171.drop 19).take 1).all (xVerCs xT_171 xHt 100000 35 xm_X3_readsHours xc_171 xu_171 [0, 1] [18]) = true := by decide +kernel
theorem xw_171_20 : ((xu_171.drop 20).take 1).all (xVerCs xT_171 xHt 100000 35 xm_X3_readsHours xc_171 xu_171 [0, 1] [19]) = true := by decide +kernel
theorem xw_171_21 : ((xu_171.drop 21).take 1).all (xVerCs xT_171 xHt 100000 35 xm_X3_readsHours xc_171 xu_171 [0, 1] [20]) = true := by decide +kernel
theorem xw_171_22 : ((xu_171.drop 22).take 1).all (xVerCs xT_171 xHt 100000 35 xm_X3_readsHours xc_171 xu_171 [0, 1] [21]) = true := by decide +kernel
theorem xw_171_23 : ((xu_171.drop 23).take 1).all (xVerCs xT_171 xHt 100000 35 xm_X3_readsHours xc_171 xu_171 [] [22]) = true := by decide +kernel
theorem xw_171_24 : ((xu_171.drop 24).take 1).all (xVerCs xT_171 xHt 100000 35 xm_X3_readsHours xc_171 xu_171 [0, 1] []) = true := by decide +kernel
theorem xok_171 (l : Launch) : xCk l 35 xc_171 := ⟨xm_X3_readsHours, rfl, xVer_ok xk_all (xHt_ok l) (T := xT_171) (xTc (xok_148 l) (xTc (xok_150 l) (xTc (xok_164 l) (xTn l)))) rfl (f := 100000) (cuts := xu_171) (xVer0v_ok xv_171) (xAll0 (xAllS 0 1 (xAllCs xw_171_0) (xAllS 1 1 (xAllCs xw_171_1) (xAllS 2 1 (xAllCs xw_171_2) (xAllS 3 1 (xAllCs xw_171_3) (xAllS 4 1 (xAllCs xw_171_4) (xAllS 5 1 (xAllCs xw_171_5) (xAllS 6 1 (xAllCs xw_171_6) (xAllS 7 1 (xAllCs xw_171_7) (xAllS 8 1 (xAllCs xw_171_8) (xAllS 9 1 (xAllCs xw_171_9) (xAllS 10 1 (xAllCs xw_171_10) (xAllS 11 1 (xAllCs xw_171_11) (xAllS 12 1 (xAllCs xw_171_12) (xAllS 13 1 (xAllCs xw_171_13) (xAllS 14 1 (xAllCs xw_171_14) (xAllS 15 1 (xAllCs xw_171_15) (xAllS 16 1 (xAllCs xw_171_16) (xAllS 17 1 (xAllCs xw_171_17) (xAllS 18 1 (xAllCs xw_171_18) (xAllS 19 1 (xAllCs xw_171_19) (xAllS 20 1 (xAllCs xw_171_20) (xAllS 21 1 (xAllCs xw_171_21) (xAllS 22 1 (xAllCs xw_171_22) (xAllS 23 1 (xAllCs xw_171_23) (xAllS 24 1 (xAllCs xw_171_24) (xAllZ (by decide +kernel))))))))))))))))))))))))))))⟩
def xc_172 : xCt := (([kc186, kc185, kc20], [(0, 800), (0, 800), kA3, (0, 800), kA3, kA3, kA3, kA3, kA3, kA3, (1, 1)], [], [kR 0, kR 2, kI 10], 0), [([kc190, kc185, kc20], [(0, 800), (0, 800), kA3, (0, 800), kA3, kA3, kA3, kA3, kA3, kA3, (1, 1), (0, 800), kA3, (0, 800), kA3, kA3, kA3], [], [kIc 0], 0), ([kc192, kc185, kc20], [(0, 800), (0, 800), kA3, (0, 800), kA3, kA3, kA3, kA3, kA3, kA3, (1, 1), (0, 800), kA3, (0, 800), kA3], [], [kIc 1], 0)], 8)
def xu_172 : List xCu := [(50, [0, 1, 2, 3, 4], ([kc192, kc185, kc20], [(0, 800), (0, 800), kA3, (0, 800), kA3, kA3, kA3, kA3, kA3, kA3, (1, 1), (0, 800), kA3, (0, 800), (0, 23), (0, 23)], [], [kR 0, kR 2, kI 10, kI 15, kIc 23], 0), ([], 1)),
  (50, [0, 1, 2, 3, 4], ([kc192, kc185, kc20], [(0, 800), (0, 800), kA3, (0, 800), kA3, kA3, kA3, kA3, kA3, kA3, (1, 1), (0, 800), kA3, (0, 800), (0, 23), (0, 22)], [], [kR 0, kR 2, kI 10, kI 15, kIc 22], 0), ([], 2)),
  (50, [0, 1, 2, 3, 4], ([kc192, kc185, kc20], [(0, 800), (0, 800), kA3, (0, 800), kA3, kA3, kA3, kA3, kA3, kA3, (1, 1), (0, 800), kA3, (0, 800), (0, 23), (0, 21)], [], [kR 0, kR 2, kI 10, kI 15, kIc 21], 0), ([], 3)),
  (50, [0, 1, 2, 3, 4], ([kc192, kc185, kc20], [(0, 800), (0, 800), kA3, (0, 800), kA3, kA3, kA3, kA3, kA3, kA3, (1, 1), (0, 800), kA3, (0, 800), (0, 23), (0, 20)], [], [kR 0, kR 2, kI 10, kI 15, kIc 20], 0), ([], 4)),
  (50, [0, 1, 2, 3, 4], ([kc192, kc185, kc20], [(0, 800), (0, 800), kA3, (0, 800), kA3, kA3, kA3, kA3, kA3, kA3, (1, 1), (0, 800), kA3, (0, 800), (0, 23), (0, 19)], [], [kR 0, kR 2, kI 10, kI 15, kIc 19], 0), ([], 5)),
  (50, [0, 1, 2, 3, 4], ([kc192, kc185, kc20], [(0, 800), (0, 800), kA3, (0, 800), kA3, kA3, kA3, kA3, kA3, kA3, (1, 1), (0, 800), kA3, (0, 800), (0, 23), (0, 18)], [], [kR 0, kR 2, kI 10, kI 15, kIc 18], 0), ([], 6)),
  (50, [0, 1, 2, 3, 4], ([kc192, kc185, kc20], [(0, 800), (0, 800), kA3, (0, 800), kA3, kA3, kA3, kA3, kA3, kA3, (1, 1), (0, 800), kA3, (0, 800), (0, 23), (0, 17)], [], [kR 0, kR 2, kI 10, kI 15, kIc 17], 0), ([], 7)),
  (50, [0, 1, 2, 3, 4], ([kc192, kc185, kc20], [(0, 800), (0, 800), kA3, (0, 800), kA3, kA3, kA3, kA3, kA3, kA3, (1, 1), (0, 800), kA3, (0, 800), (0, 23), (0, 16)], [], [kR 0, kR 2, kI 10, kI 15, kIc 16], 0), ([], 8)),
  (50, [0, 1, 2, 3, 4], ([kc192, kc185, kc20], [(0, 800), (0, 800), kA3, (0, 800), kA3, kA3, kA3, kA3, kA3, kA3, (1, 1), (0, 800), kA3, (0, 800), (0, 23), (0, 15)], [], [kR 0, kR 2, kI 10, kI 15, kIc 15], 0), ([], 9)),
  (50, [0, 1, 2, 3, 4], ([kc192, kc185, kc20], [(0, 800), (0, 800), kA3, (0, 800), kA3, kA3, kA3, kA3, kA3, kA3, (1, 1), (0, 800), kA3, (0, 800), (0, 23), (0, 14)], [], [kR 0, kR 2, kI 10, kI 15, kIc 14], 0), ([], 10)),
  (50, [0, 1, 2, 3, 4], ([kc192, kc185, kc20], [(0, 800), (0, 800), kA3, (0, 800), kA3, kA3, kA3, kA3, kA3, kA3, (1, 1), (0, 800), kA3, (0, 800), (0, 23), (0, 13)], [], [kR 0, kR 2, kI 10, kI 15, kIc 13], 0), ([], 11)),
  (50, [0, 1, 2, 3, 4], ([kc192, kc185, kc20], [(0, 800), (0, 800), kA3, (0, 800), kA3, kA3, kA3, kA3, kA3, kA3, (1, 1), (0, 800), kA3, (0, 800), (0, 23), (0, 12)], [], [kR 0, kR 2, kI 10, kI 15, kIc 12], 0), ([], 12)),
  (50, [0, 1, 2, 3, 4], ([kc192, kc185, kc20], [(0, 800), (0, 800), kA3, (0, 800), kA3, kA3, kA3, kA3, kA3, kA3, (1, 1), (0, 800), kA3, (0, 800), (0, 23), (0, 11)], [], [kR 0, kR 2, kI 10, kI 15, kIc 11], 0), ([], 13)),
  (50, [0, 1, 2, 3, 4], ([kc192, kc185, kc20], [(0, 800), (0, 800), kA3, (0, 800), kA3, kA3, kA3, kA3, kA3, kA3, (1, 1), (0, 800), kA3, (0, 800), (0, 23), (0, 10)], [], [kR 0, kR 2, kI 10, kI 15, kIc 10], 0), ([], 14)),
  (50, [0, 1, 2, 3, 4], ([kc192, kc185, kc20], [(0, 800), (0, 800), kA3, (0, 800), kA3, kA3, kA3, kA3, kA3, kA3, (1, 1), (0, 800), kA3, (0, 800), (0, 23), (0, 9)], [], [kR 0, kR 2, kI 10, kI 15, kIc 9], 0), ([], 15)),
  (50, [0, 1, 2, 3, 4], ([kc192, kc185, kc20], [(0, 800), (0, 800), kA3, (0, 800), kA3, kA3, kA3, kA3, kA3, kA3, (1, 1), (0, 800), kA3, (0, 800), (0, 23), (0, 8)], [], [kR 0, kR 2, kI 10, kI 15, kIc 8], 0), ([], 16)),
  (50, [0, 1, 2, 3, 4], ([kc192, kc185, kc20], [(0, 800), (0, 800), kA3, (0, 800), kA3, kA3, kA3, kA3, kA3, kA3, (1, 1), (0, 800), kA3, (0, 800), (0, 23), (0, 7)], [], [kR 0, kR 2, kI 10, kI 15, kIc 7], 0), ([], 17)),
  (50, [0, 1, 2, 3, 4], ([kc192, kc185, kc20], [(0, 800), (0, 800), kA3, (0, 800), kA3, kA3, kA3, kA3, kA3, kA3, (1, 1), (0, 800), kA3, (0, 800), (0, 23), (0, 6)], [], [kR 0, kR 2, kI 10, kI 15, kIc 6], 0), ([], 18)),
  (50, [0, 1, 2, 3, 4], ([kc192, kc185, kc20], [(0, 800), (0, 800), kA3, (0, 800), kA3, kA3, kA3, kA3, kA3, kA3, (1, 1), (0, 800), kA3, (0, 800), (0, 23), (0, 5)], [], [kR 0, kR 2, kI 10, kI 15, kIc 5], 0), ([], 19)),
  (50, [0, 1, 2, 3, 4], ([kc192, kc185, kc20], [(0, 800), (0, 800), kA3, (0, 800), kA3, kA3, kA3, kA3, kA3, kA3, (1, 1), (0, 800), kA3, (0, 800), (0, 23), (0, 4)], [], [kR 0, kR 2, kI 10, kI 15, kIc 4], 0), ([], 20)),
  (50, [0, 1, 2, 3, 4], ([kc192, kc185, kc20], [(0, 800), (0, 800), kA3, (0, 800), kA3, kA3, kA3, kA3, kA3, kA3, (1, 1), (0, 800), kA3, (0, 800), (0, 23), (0, 3)], [], [kR 0, kR 2, kI 10, kI 15, kIc 3], 0), ([], 21)),
  (50, [0, 1, 2, 3, 4], ([kc192, kc185, kc20], [(0, 800), (0, 800), kA3, (0, 800), kA3, kA3, kA3, kA3, kA3, kA3, (1, 1), (0, 800), kA3, (0, 800), (0, 23), (0, 2)], [], [kR 0, kR 2, kI 10, kI 15, kIc 2], 0), ([], 22)),
  (50, [0, 1, 2, 3, 4], ([kc192, kc185, kc20], [(0, 800), (0, 800), kA3, (0, 800), kA3, kA3, kA3, kA3, kA3, kA3, (1, 1), (0, 800), kA3, (0, 800), (0, 23), (0, 1)], [], [kR 0, kR 2, kI 10, kI 15, kIc 1], 0), ([], 23)),
  (50, [0, 1, 2, 3, 4], ([kc192, kc185, kc20], [(0, 800), (0, 800), kA3, (0, 800), kA3, kA3, kA3, kA3, kA3, kA3, (1, 1), (0, 800), kA3, (0, 800), (0, 23)], [], [kR 0, kR 2, kI 10, kIc 0, kIc 0], 0), ([], 24)),
  (50, [0, 1, 2, 3, 4], ([kc217, kc185, kc20], [(0, 800), (0, 800), kA3, (0, 800), kA3, kA3, kA3, kA3, kA3, kA3, (1, 1), (0, 800), kA3, (0, 800), (0, 23)], [], [kR 0, kR 2, kI 10, kI 14, kIc 24], 0), ([], 0))]
def xT_172 : List (Nat × xCt) := [(40, xc_148), (44, xc_150), (44, xc_164)]
theorem xv_172 : xVer0v xT_172 xHt 100000 35 xm_X3_readsHours xc_172 xu_172 [0] = true := by decide +kernel
theorem xw_172_0 : ((xu_172.drop 0).take 1).all (xVerCs xT_172 xHt 100000 35 xm_X3_readsHours xc_172 xu_172 [0, 1] [24]) = true := by decide +kernel
theorem xw_172_1 : ((xu_172.drop 1).take 1).all (xVerCs xT_172 xHt 100000 35 xm_X3_readsHours xc_172 xu_172 [0, 1] [0]) = true := by decide +kernel
theorem xw_172_2 : ((xu_172.drop 2).take 1).all (xVerCs xT_172 xHt 100000 35 xm_X3_readsHours xc_172 xu_172 [0, 1] [1]) = true := by decide +kernel
theorem xw_172_3 : ((xu_172.drop 3).take 1).all (xVerCs xT_172 xHt 100000 35 xm_X3_readsHours xc_172 xu_172 [0, 1] [2]) = true := by decide +kernel
theorem xw_172_4 : ((xu_172.drop 4).take 1).all (xVerCs xT_172 xHt 100000 35 xm_X3_readsHours xc_172 xu_172 [0, 1] [3]) = true := by decide +kernel
theorem xw_172_5 : ((xu_172.drop 5).take 1).all (xVerCs xT_172 xHt 100000 35 xm_X3_readsHours xc_172 xu_172 [0, 1] [4]) = true := by decide +kernel
theorem xw_172_6 : ((xu_172.drop 6).take 1).all (xVerCs xT_172 xHt 100000 35 xm_X3_readsHours xc_172 xu_172 [0, 1] [5]) = true := by decide +kernel
theorem xw_172_7 : ((xu_172.drop 7).take 1).all (xVerCs xT_172 xHt 100000 35 xm_X3_readsHours xc_172 xu_172 [0, 1] [6]) = true := by decide +kernel
theorem xw_172_8 : ((xu_172.drop 8).take 1).all (xVerCs xT_172 xHt 100000 35 xm_X3_readsHours xc_172 xu_172 [0, 1] [7]) = true := by decide +kernel
theorem xw_172_9 : ((xu_172.drop 9).take 1).all (xVerCs xT_172 xHt 100000 35 xm_X3_readsHours xc_172 xu_172 [0, 1] [8]) = true := by decide +kernel
theorem xw_172_10 : ((xu_172.drop 10).take 1).all (xVerCs xT_172 xHt 100000 35 xm_X3_readsHours xc_172 xu_172 [0, 1] [9]) = true := by decide +kernel
theorem xw_172_11 : ((xu_172.drop 11).take 1).all (xVerCs xT_172 xHt 100000 35 xm_X3_readsHours xc_172 xu_172 [0, 1] [10]) = true := by decide +kernel
theorem xw_172_12 : ((xu_172.drop 12).take 1).all (xVerCs xT_172 xHt 100000 35 xm_X3_readsHours xc_172 xu_172 [0, 1] [11]) = true := by decide +kernel
theorem xw_172_13 : ((xu_172.drop 13).take 1).all (xVerCs xT_172 xHt 100000 35 xm_X3_readsHours xc_172 xu_172 [0, 1] [12]) = true := by decide +kernel
theorem xw_172_14 : ((xu_172.drop 14).take 1).all (xVerCs xT_172 xHt 100000 35 xm_X3_readsHours xc_172 xu_172 [0, 1] [13]) = true := by decide +kernel
theorem xw_172_15 : ((xu_172.drop 15).take 1).all (xVerCs xT_172 xHt 100000 35 xm_X3_readsHours xc_172 xu_172 [0, 1] [14]) = true := by decide +kernel
theorem xw_172_16 : ((xu_172.drop 16).take 1).all (xVerCs xT_172 xHt 100000 35 xm_X3_readsHours xc_172 xu_172 [0, 1] [15]) = true := by decide +kernel
theorem xw_172_17 : ((xu_172.drop 17).take 1).all (xVerCs xT_172 xHt 100000 35 xm_X3_readsHours xc_172 xu_172 [0, 1] [16]) = true := by decide +kernel
theorem xw_172_18 : ((xu_172.drop 18).take 1).all (xVerCs xT_172 xHt 100000 35 xm_X3_readsHours xc_172 xu_172 [0, 1] [17]) = true := by decide +kernel
theorem xw_172_19 : ((xu_172.drop 19).take 1).all (xVerCs xT_172 xHt 100000 35 xm_X3_readsHours xc_172 xu_172 [0, 1] [18]) = true := by decide +kernel
theorem xw_172_20 : ((xu_172.drop 20).take 1).all (xVerCs xT_172 xHt 100000 35 xm_X3_readsHours xc_172 xu_172 [0, 1] [19]) = true := by decide +kernel
theorem xw_172_21 : ((xu_172.drop 21).take 1).all (xVerCs xT_172 xHt 100000 35 xm_X3_readsHours xc_172 xu_172 [0, 1] [20]) = true := by decide +kernel
theorem xw_172_22 : ((xu_172.drop 22).take 1).all (xVerCs xT_172 xHt 100000 35 xm_X3_readsHours xc_172 xu_172 [0, 1] [21]) = true := by decide +kernel
theorem xw_172_23 : ((xu_172.drop 23).take 1).all (xVerCs xT_172 xHt 100000 35 xm_X3_readsHours xc_172 xu_172 [] [22]) = true := by decide +kernel
theorem xw_172_24 : ((xu_172.drop 24).take 1).all (xVerCs xT_172 xHt 100000 35 xm_X3_readsHours xc_172 xu_172 [0, 1] []) = true := by decide +kernel
theorem xok_172 (l : Launch) : xCk l 35 xc_172 := ⟨xm_X3_readsHours, rfl, xVer_ok xk_all (xHt_ok l) (T := xT_172) (xTc (xok_148 l) (xTc (xok_150 l) (xTc (xok_164 l) (xTn l)))) rfl (f := 100000) (cuts := xu_172) (xVer0v_ok xv_172) (xAll0 (xAllS 0 1 (xAllCs xw_172_0) (xAllS 1 1 (xAllCs xw_172_1) (xAllS 2 1 (xAllCs xw_172_2) (xAllS 3 1 (xAllCs xw_172_3) (xAllS 4 1 (xAllCs xw_172_4) (xAllS 5 1 (xAllCs xw_172_5) (xAllS 6 1 (xAllCs xw_172_6) (xAllS 7 1 (xAllCs xw_172_7) (xAllS 8 1 (xAllCs xw_172_8) (xAllS 9 1 (xAllCs xw_172_9) (xAllS 10 1 (xAllCs xw_172_10) (xAllS 11 1 (xAllCs xw_172_11) (xAllS 12 1 (xAllCs xw_172_12) (xAllS 13 1 (xAllCs xw_172_13) (xAllS 14 1 (xAllCs xw_172_14) (xAllS 15 1 (xAllCs xw_172_15) (xAllS 16 1 (xAllCs xw_172_16) (xAllS 17 1 (xAllCs xw_172_17) (xAllS 18 1 (xAllCs xw_172_18) (xAllS 19 1 (xAllCs xw_172_19) (xAllS 20 1 (xAllCs xw_172_20) (xAllS 21 1 (xAllCs xw_172_21) (xAllS 22 1 (xAllCs xw_172_22) (xAllS 23 1 (xAllCs xw_172_23) (xAllS 24 1 (xAllCs xw_172_24) (xAllZ (by decide +kernel))))))))))))))))))))))))))))⟩
