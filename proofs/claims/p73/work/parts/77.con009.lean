/-! Contracts, printed by a program: part 9. -/
def kc327 : xC := kAr 0 24 [(24, kB 0 18)]
def kc328 : xC := kAr 0 24 [(23, kB 0 18), (1, kB 0 9)]
def kc329 : xC := kAr 0 24 [(22, kB 0 18), (2, kB 0 9)]
def kc330 : xC := kAr 0 24 [(21, kB 0 18), (3, kB 0 9)]
def kc331 : xC := kAr 0 24 [(20, kB 0 18), (4, kB 0 9)]
def kc332 : xC := kAr 0 24 [(19, kB 0 18), (5, kB 0 9)]
def kc333 : xC := kAr 0 24 [(18, kB 0 18), (6, kB 0 9)]
def kc334 : xC := kAr 0 24 [(17, kB 0 18), (7, kB 0 9)]
def kc335 : xC := kAr 0 24 [(16, kB 0 18), (8, kB 0 9)]
def kc336 : xC := kAr 0 24 [(15, kB 0 18), (9, kB 0 9)]
def kc337 : xC := kAr 0 24 [(14, kB 0 18), (10, kB 0 9)]
def kc338 : xC := kAr 0 24 [(13, kB 0 18), (11, kB 0 9)]
def kc339 : xC := kAr 0 24 [(12, kB 0 18), (12, kB 0 9)]
def kc340 : xC := kAr 0 24 [(11, kB 0 18), (13, kB 0 9)]
def kc341 : xC := kAr 0 24 [(10, kB 0 18), (14, kB 0 9)]
def kc342 : xC := kAr 0 24 [(9, kB 0 18), (15, kB 0 9)]
def kc343 : xC := kAr 0 24 [(8, kB 0 18), (16, kB 0 9)]
def kc344 : xC := kAr 0 24 [(7, kB 0 18), (17, kB 0 9)]
def kc345 : xC := kAr 0 24 [(6, kB 0 18), (18, kB 0 9)]
def kc346 : xC := kAr 0 24 [(5, kB 0 18), (19, kB 0 9)]
def kc347 : xC := kAr 0 24 [(4, kB 0 18), (20, kB 0 9)]
def kc348 : xC := kAr 0 24 [(3, kB 0 18), (21, kB 0 9)]
def kc349 : xC := kAr 0 24 [(2, kB 0 18), (22, kB 0 9)]
def kc350 : xC := kAr 0 24 [(1, kB 0 18), (23, kB 0 9)]
def kc351 : xC := kAr 0 24 [(23, kB 0 18), (1, kB 1 18)]
def xc_170 : xCt := (([kc226, kc218, kc22], [(1, 9), (0, 800), (0, 800), kA3, (0, 800), kA3, kA3, kA3, kA3, kA3, kA3], [], [kR 0, kR 2, kI 0], 0), [([kc223, kc218, kc327], [(1, 9), (0, 800), (0, 800), kA3, (0, 800), kA3, kA3, kA3, kA3, kA3, kA3, (0, 800), kA3, (0, 800), kA3, kA3, kA3], [], [kIc 0], 0), ([kc225, kc218, kc327], [(1, 9), (0, 800), (0, 800), kA3, (0, 800), kA3, kA3, kA3, kA3, kA3, kA3, (0, 800), kA3, (0, 800), kA3], [], [kIc 1], 0)], 8)
def xu_170 : List xCu := [(50, [0, 1, 2, 3, 4], ([kc228, kc218, kc328], [(1, 9), (0, 800), (0, 800), kA3, (0, 800), kA3, kA3, kA3, kA3, kA3, kA3, (0, 23), (0, 800), kA3, (0, 800), (0, 23)], [], [kR 0, kR 2, kI 0, kI 11, kIc 23], 0), ([], 1)),
  (50, [0, 1, 2, 3, 4], ([kc228, kc218, kc329], [(1, 9), (0, 800), (0, 800), kA3, (0, 800), kA3, kA3, kA3, kA3, kA3, kA3, (0, 22), (0, 800), kA3, (0, 800), (0, 23)], [], [kR 0, kR 2, kI 0, kI 11, kIc 22], 0), ([], 2)),
  (50, [0, 1, 2, 3, 4], ([kc228, kc218, kc330], [(1, 9), (0, 800), (0, 800), kA3, (0, 800), kA3, kA3, kA3, kA3, kA3, kA3, (0, 21), (0, 800), kA3, (0, 800), (0, 23)], [], [kR 0, kR 2, kI 0, kI 11, kIc 21], 0), ([], 3)),
  (50, [0, 1, 2, 3, 4], ([kc228, kc218, kc331], [(1, 9), (0, 800), (0, 800), kA3, (0, 800), kA3, kA3, kA3, kA3, kA3, kA3, (0, 20), (0, 800), kA3, (0, 800), (0, 23)], [], [kR 0, kR 2, kI 0, kI 11, kIc 20], 0), ([], 4)),
  (50, [0, 1, 2, 3, 4], ([kc228, kc218, kc332], [(1, 9), (0, 800), (0, 800), kA3, (0, 800), kA3, kA3, kA3, kA3, kA3, kA3, (0, 19), (0, 800), kA3, (0, 800), (0, 23)], [], [kR 0, kR 2, kI 0, kI 11, kIc 19], 0), ([], 5)),
  (50, [0, 1, 2, 3, 4], ([kc228, kc218, kc333], [(1, 9), (0, 800), (0, 800), kA3, (0, 800), kA3, kA3, kA3, kA3, kA3, kA3, (0, 18), (0, 800), kA3, (0, 800), (0, 23)], [], [kR 0, kR 2, kI 0, kI 11, kIc 18], 0), ([], 6)),
  (50, [0, 1, 2, 3, 4], ([kc228, kc218, kc334], [(1, 9), (0, 800), (0, 800), kA3, (0, 800), kA3, kA3, kA3, kA3, kA3, kA3, (0, 17), (0, 800), kA3, (0, 800), (0, 23)], [], [kR 0, kR 2, kI 0, kI 11, kIc 17], 0), ([], 7)),
  (50, [0, 1, 2, 3, 4], ([kc228, kc218, kc335], [(1, 9), (0, 800), (0, 800), kA3, (0, 800), kA3, kA3, kA3, kA3, kA3, kA3, (0, 16), (0, 800), kA3, (0, 800), (0, 23)], [], [kR 0, kR 2, kI 0, kI 11, kIc 16], 0), ([], 8)),
  (50, [0, 1, 2, 3, 4], ([kc228, kc218, kc336], [(1, 9), (0, 800), (0, 800), kA3, (0, 800), kA3, kA3, kA3, kA3, kA3, kA3, (0, 15), (0, 800), kA3, (0, 800), (0, 23)], [], [kR 0, kR 2, kI 0, kI 11, kIc 15], 0), ([], 9)),
  (50, [0, 1, 2, 3, 4], ([kc228, kc218, kc337], [(1, 9), (0, 800), (0, 800), kA3, (0, 800), kA3, kA3, kA3, kA3, kA3, kA3, (0, 14), (0, 800), kA3, (0, 800), (0, 23)], [], [kR 0, kR 2, kI 0, kI 11, kIc 14], 0), ([], 10)),
  (50, [0, 1, 2, 3, 4], ([kc228, kc218, kc338], [(1, 9), (0, 800), (0, 800), kA3, (0, 800), kA3, kA3, kA3, kA3, kA3, kA3, (0, 13), (0, 800), kA3, (0, 800), (0, 23)], [], [kR 0, kR 2, kI 0, kI 11, kIc 13], 0), ([], 11)),
  (50, [0, 1, 2, 3, 4], ([kc228, kc218, kc339], [(1, 9), (0, 800), (0, 800), kA3, (0, 800), kA3, kA3, kA3, kA3, kA3, kA3, (0, 12), (0, 800), kA3, (0, 800), (0, 23)], [], [kR 0, kR 2, kI 0, kI 11, kIc 12], 0), ([], 12)),
  (50, [0, 1, 2, 3, 4], ([kc228, kc218, kc340], [(1, 9), (0, 800), (0, 800), kA3, (0, 800), kA3, kA3, kA3, kA3, kA3, kA3, (0, 11), (0, 800), kA3, (0, 800), (0, 23)], [], [kR 0, kR 2, kI 0, kI 11, kIc 11], 0), ([], 13)),
  (50, [0, 1, 2, 3, 4], ([kc228, kc218, kc341], [(1, 9), (0, 800), (0, 800), kA3, (0, 800), kA3, kA3, kA3, kA3, kA3, kA3, (0, 10), (0, 800), kA3, (0, 800), (0, 23)], [], [kR 0, kR 2, kI 0, kI 11, kIc 10], 0), ([], 14)),
  (50, [0, 1, 2, 3, 4], ([kc228, kc218, kc342], [(1, 9), (0, 800), (0, 800), kA3, (0, 800), kA3, kA3, kA3, kA3, kA3, kA3, (0, 9), (0, 800), kA3, (0, 800), (0, 23)], [], [kR 0, kR 2, kI 0, kI 11, kIc 9], 0), ([], 15)),
  (50, [0, 1, 2, 3, 4], ([kc228, kc218, kc343], [(1, 9), (0, 800), (0, 800), kA3, (0, 800), kA3, kA3, kA3, kA3, kA3, kA3, (0, 8), (0, 800), kA3, (0, 800), (0, 23)], [], [kR 0, kR 2, kI 0, kI 11, kIc 8], 0), ([], 16)),
  (50, [0, 1, 2, 3, 4], ([kc228, kc218, kc344], [(1, 9), (0, 800), (0, 800), kA3, (0, 800), kA3, kA3, kA3, kA3, kA3, kA3, (0, 7), (0, 800), kA3, (0, 800), (0, 23)], [], [kR 0, kR 2, kI 0, kI 11, kIc 7], 0), ([], 17)),
  (50, [0, 1, 2, 3, 4], ([kc228, kc218, kc345], [(1, 9), (0, 800), (0, 800), kA3, (0, 800), kA3, kA3, kA3, kA3, kA3, kA3, (0, 6), (0, 800), kA3, (0, 800), (0, 23)], [], [kR 0, kR 2, kI 0, kI 11, kIc 6], 0), ([], 18)),
  (50, [0, 1, 2, 3, 4], ([kc228, kc218, kc346], [(1, 9), (0, 800), (0, 800), kA3, (0, 800), kA3, kA3, kA3, kA3, kA3, kA3, (0, 5), (0, 800), kA3, (0, 800), (0, 23)], [], [kR 0, kR 2, kI 0, kI 11, kIc 5], 0), ([], 19)),
  (50, [0, 1, 2, 3, 4], ([kc228, kc218, kc347], [(1, 9), (0, 800), (0, 800), kA3, (0, 800), kA3, kA3, kA3, kA3, kA3, kA3, (0, 4), (0, 800), kA3, (0, 800), (0, 23)], [], [kR 0, kR 2, kI 0, kI 11, kIc 4], 0), ([], 20)),
  (50, [0, 1, 2, 3, 4], ([kc228, kc218, kc348], [(1, 9), (0, 800), (0, 800), kA3, (0, 800), kA3, kA3, kA3, kA3, kA3, kA3, (0, 3), (0, 800), kA3, (0, 800), (0, 23)], [], [kR 0, kR 2, kI 0, kI 11, kIc 3], 0), ([], 21)),
  (50, [0, 1, 2, 3, 4], ([kc228, kc218, kc349], [(1, 9), (0, 800), (0, 800), kA3, (0, 800), kA3, kA3, kA3, kA3, kA3, kA3, (0, 2), (0, 800), kA3, (0, 800), (0, 23)], [], [kR 0, kR 2, kI 0, kI 11, kIc 2], 0), ([], 22)),
  (50, [0, 1, 2, 3, 4], ([kc228, kc218, kc350], [(1, 9), (0, 800), (0, 800), kA3, (0, 800), kA3, kA3, kA3, kA3, kA3, kA3, (0, 1), (0, 800), kA3, (0, 800), (0, 23)], [], [kR 0, kR 2, kI 0, kI 11, kIc 1], 0), ([], 23)),
  (50, [0, 1, 2, 3, 4], ([kc225, kc218, kc22], [(1, 9), (0, 800), (0, 800), kA3, (0, 800), kA3, kA3, kA3, kA3, kA3, kA3, (0, 800), kA3, (0, 800), (0, 23)], [], [kR 0, kR 2, kI 0, kIc 0, kIc 0], 0), ([], 24)),
  (50, [0, 1, 2, 3, 4], ([kc252, kc218, kc351], [(1, 9), (0, 800), (0, 800), kA3, (0, 800), kA3, kA3, kA3, kA3, kA3, kA3, (0, 23), (0, 800), kA3, (0, 800)], [], [kR 0, kR 2, kI 0, kI 11, kIc 24], 0), ([], 0))]
def xT_170 : List (Nat × xCt) := [(40, xc_148), (44, xc_150), (44, xc_164)]
theorem xv_170 : xVer0v xT_170 xHt 100000 35 xm_X3_readsHours xc_170 xu_170 [0] = true := by
  rw [← zVer0v_eq]
  decide +kernel
theorem xw_170_0 : ((xu_170.drop 0).take 1).all (xVerCs xT_170 xHt 100000 35 xm_X3_readsHours xc_170 xu_170 [0, 1] [24]) = true := by
  rw [← zVerCs_eq]
  decide +kernel
theorem xw_170_1 : ((xu_170.drop 1).take 1).all (xVerCs xT_170 xHt 100000 35 xm_X3_readsHours xc_170 xu_170 [0, 1] [0]) = true := by
  rw [← zVerCs_eq]
  decide +kernel
theorem xw_170_2 : ((xu_170.drop 2).take 1).all (xVerCs xT_170 xHt 100000 35 xm_X3_readsHours xc_170 xu_170 [0, 1] [1]) = true := by
  rw [← zVerCs_eq]
  decide +kernel
theorem xw_170_3 : ((xu_170.drop 3).take 1).all (xVerCs xT_170 xHt 100000 35 xm_X3_readsHours xc_170 xu_170 [0, 1] [2]) = true := by
  rw [← zVerCs_eq]
  decide +kernel
theorem xw_170_4 : ((xu_170.drop 4).take 1).all (xVerCs xT_170 xHt 100000 35 xm_X3_readsHours xc_170 xu_170 [0, 1] [3]) = true := by
  rw [← zVerCs_eq]
  decide +kernel
theorem xw_170_5 : ((xu_170.drop 5).take 1).all (xVerCs xT_170 xHt 100000 35 xm_X3_readsHours xc_170 xu_170 [0, 1] [4]) = true := by
  rw [← zVerCs_eq]
  decide +kernel
theorem xw_170_6 : ((xu_170.drop 6).take 1).all (xVerCs xT_170 xHt 100000 35 xm_X3_readsHours xc_170 xu_170 [0, 1] [5]) = true := by
  rw [← zVerCs_eq]
  decide +kernel
theorem xw_170_7 : ((xu_170.drop 7).take 1).all (xVerCs xT_170 xHt 100000 35 xm_X3_readsHours xc_170 xu_170 [0, 1] [6]) = true := by
  rw [← zVerCs_eq]
  decide +kernel
theorem xw_170_8 : ((xu_170.drop 8).take 1).all (xVerCs xT_170 xHt 100000 35 xm_X3_readsHours xc_170 xu_170 [0, 1] [7]) = true := by
  rw [← zVerCs_eq]
  decide +kernel
theorem xw_170_9 : ((xu_170.drop 9).take 1).all (xVerCs xT_170 xHt 100000 35 xm_X3_readsHours xc_170 xu_170 [0, 1] [8]) = true := by
  rw [← zVerCs_eq]
  decide +kernel
theorem xw_170_10 : ((xu_170.drop 10).take 1).all (xVerCs xT_170 xHt 100000 35 xm_X3_readsHours xc_170 xu_170 [0, 1] [9]) = true := by
  rw [← zVerCs_eq]
  decide +kernel
theorem xw_170_11 : ((xu_170.drop 11).take 1).all (xVerCs xT_170 xHt 100000 35 xm_X3_readsHours xc_170 xu_170 [0, 1] [10]) = true := by
  rw [← zVerCs_eq]
  decide +kernel
theorem xw_170_12 : ((xu_170.drop 12).take 1).all (xVerCs xT_170 xHt 100000 35 xm_X3_readsHours xc_170 xu_170 [0, 1] [11]) = true := by
  rw [← zVerCs_eq]
  decide +kernel
theorem xw_170_13 : ((xu_170.drop 13).take 1).all (xVerCs xT_170 xHt 100000 35 xm_X3_readsHours xc_170 xu_170 [0, 1] [12]) = true := by
  rw [← zVerCs_eq]
  decide +kernel
theorem xw_170_14 : ((xu_170.drop 14).take 1).all (xVerCs xT_170 xHt 100000 35 xm_X3_readsHours xc_170 xu_170 [0, 1] [13]) = true := by
  rw [← zVerCs_eq]
  decide +kernel
theorem xw_170_15 : ((xu_170.drop 15).take 1).all (xVerCs xT_170 xHt 100000 35 xm_X3_readsHours xc_170 xu_170 [0, 1] [14]) = true := by
  rw [← zVerCs_eq]
  decide +kernel
theorem xw_170_16 : ((xu_170.drop 16).take 1).all (xVerCs xT_170 xHt 100000 35 xm_X3_readsHours xc_170 xu_170 [0, 1] [15]) = true := by
  rw [← zVerCs_eq]
  decide +kernel
theorem xw_170_17 : ((xu_170.drop 17).take 1).all (xVerCs xT_170 xHt 100000 35 xm_X3_readsHours xc_170 xu_170 [0, 1] [16]) = true := by
  rw [← zVerCs_eq]
  decide +kernel
theorem xw_170_18 : ((xu_170.drop 18).take 1).all (xVerCs xT_170 xHt 100000 35 xm_X3_readsHours xc_170 xu_170 [0, 1] [17]) = true := by
  rw [← zVerCs_eq]
  decide +kernel
theorem xw_170_19 : ((xu_170.drop 19).take 1).all (xVerCs xT_170 xHt 100000 35 xm_X3_readsHours xc_170 xu_170 [0, 1] [18]) = true := by
  rw [← zVerCs_eq]
  decide +kernel
theorem xw_170_20 : ((xu_170.drop 20).take 1).all (xVerCs xT_170 xHt 100000 35 xm_X3_readsHours xc_170 xu_170 [0, 1] [19]) = true := by
  rw [← zVerCs_eq]
  decide +kernel
theorem xw_170_21 : ((xu_170.drop 21).take 1).all (xVerCs xT_170 xHt 100000 35 xm_X3_readsHours xc_170 xu_170 [0, 1] [20]) = true := by
  rw [← zVerCs_eq]
  decide +kernel
theorem xw_170_22 : ((xu_170.drop 22).take 1).all (xVerCs xT_170 xHt 100000 35 xm_X3_readsHours xc_170 xu_170 [0, 1] [21]) = true := by
  rw [← zVerCs_eq]
  decide +kernel
theorem xw_170_23 : ((xu_170.drop 23).take 1).all (xVerCs xT_170 xHt 100000 35 xm_X3_readsHours xc_170 xu_170 [] [22]) = true := by
  rw [← zVerCs_eq]
  decide +kernel
theorem xw_170_24 : ((xu_170.drop 24).take 1).all (xVerCs xT_170 xHt 100000 35 xm_X3_readsHours xc_170 xu_170 [0, 1] []) = true := by
  rw [← zVerCs_eq]
  decide +kernel
theorem xok_170 (l : Launch) : xCk l 35 xc_170 := ⟨xm_X3_readsHours, rfl, xVer_ok xk_all (xHt_ok l) (T := xT_170) (xTc (xok_148 l) (xTc (xok_150 l) (xTc (xok_164 l) (xTn l)))) rfl (f := 100000) (cuts := xu_170) (xVer0v_ok xv_170) (xAll0 (xAllS 0 1 (xAllCs xw_170_0) (xAllS 1 1 (xAllCs xw_170_1) (xAllS 2 1 (xAllCs xw_170_2) (xAllS 3 1 (xAllCs xw_170_3) (xAllS 4 1 (xAllCs xw_170_4) (xAllS 5 1 (xAllCs xw_170_5) (xAllS 6 1 (xAllCs xw_170_6) (xAllS 7 1 (xAllCs xw_170_7) (xAllS 8 1 (xAllCs xw_170_8) (xAllS 9 1 (xAllCs xw_170_9) (xAllS 10 1 (xAllCs xw_170_10) (xAllS 11 1 (xAllCs xw_170_11) (xAllS 12 1 (xAllCs xw_170_12) (xAllS 13 1 (xAllCs xw_170_13) (xAllS 14 1 (xAllCs xw_170_14) (xAllS 15 1 (xAllCs xw_170_15) (xAllS 16 1 (xAllCs xw_170_16) (xAllS 17 1 (xAllCs xw_170_17) (xAllS 18 1 (xAllCs xw_170_18) (xAllS 19 1 (xAllCs xw_170_19) (xAllS 20 1 (xAllCs xw_170_20) (xAllS 21 1 (xAllCs xw_170_21) (xAllS 22 1 (xAllCs xw_170_22) (xAllS 23 1 (xAllCs xw_170_23) (xAllS 24 1 (xAllCs xw_170_24) (xAllZ (by decide +kernel))))))))))))))))))))))))))))⟩
def kc352 : xC := kAr 0 24 [(23, kB 0 27), (1, kB 0 18)]
def kc353 : xC := kAr 0 24 [(22, kB 0 27), (2, kB 0 18)]
def kc354 : xC := kAr 0 24 [(21, kB 0 27), (3, kB 0 18)]
def kc355 : xC := kAr 0 24 [(20, kB 0 27), (4, kB 0 18)]
def kc356 : xC := kAr 0 24 [(19, kB 0 27), (5, kB 0 18)]
def kc357 : xC := kAr 0 24 [(18, kB 0 27), (6, kB 0 18)]
def kc358 : xC := kAr 0 24 [(17, kB 0 27), (7, kB 0 18)]
def kc359 : xC := kAr 0 24 [(16, kB 0 27), (8, kB 0 18)]
def kc360 : xC := kAr 0 24 [(15, kB 0 27), (9, kB 0 18)]
def kc361 : xC := kAr 0 24 [(14, kB 0 27), (10, kB 0 18)]
def kc362 : xC := kAr 0 24 [(13, kB 0 27), (11, kB 0 18)]
def kc363 : xC := kAr 0 24 [(12, kB 0 27), (12, kB 0 18)]
def kc364 : xC := kAr 0 24 [(11, kB 0 27), (13, kB 0 18)]
def kc365 : xC := kAr 0 24 [(10, kB 0 27), (14, kB 0 18)]
def kc366 : xC := kAr 0 24 [(9, kB 0 27), (15, kB 0 18)]
def kc367 : xC := kAr 0 24 [(8, kB 0 27), (16, kB 0 18)]
def kc368 : xC := kAr 0 24 [(7, kB 0 27), (17, kB 0 18)]
def kc369 : xC := kAr 0 24 [(6, kB 0 27), (18, kB 0 18)]
def kc370 : xC := kAr 0 24 [(5, kB 0 27), (19, kB 0 18)]
def kc371 : xC := kAr 0 24 [(4, kB 0 27), (20, kB 0 18)]
def kc372 : xC := kAr 0 24 [(3, kB 0 27), (21, kB 0 18)]
def kc373 : xC := kAr 0 24 [(2, kB 0 27), (22, kB 0 18)]
def kc374 : xC := kAr 0 24 [(1, kB 0 27), (23, kB 0 18)]
def kc375 : xC := kAr 0 24 [(23, kB 0 27), (1, kB 1 27)]
def xc_171 : xCt := (([kc226, kc218, kc327], [(1, 9), (0, 800), (0, 800), kA3, (0, 800), kA3, kA3, kA3, kA3, kA3, kA3], [], [kR 0, kR 2, kI 0], 0), [([kc223, kc218, kc21], [(1, 9), (0, 800), (0, 800), kA3, (0, 800), kA3, kA3, kA3, kA3, kA3, kA3, (0, 800), kA3, (0, 800), kA3, kA3, kA3], [], [kIc 0], 0), ([kc225, kc218, kc21], [(1, 9), (0, 800), (0, 800), kA3, (0, 800), kA3, kA3, kA3, kA3, kA3, kA3, (0, 800), kA3, (0, 800), kA3], [], [kIc 1], 0)], 8)
def xu_171 : List xCu := [(50, [0, 1, 2, 3, 4], ([kc228, kc218, kc352], [(1, 9), (0, 800), (0, 800), kA3, (0, 800), kA3, kA3, kA3, kA3, kA3, kA3, (0, 23), (0, 800), kA3, (0, 800), (0, 23)], [], [kR 0, kR 2, kI 0, kI 11, kIc 23], 0), ([], 1)),
  (50, [0, 1, 2, 3, 4], ([kc228, kc218, kc353], [(1, 9), (0, 800), (0, 800), kA3, (0, 800), kA3, kA3, kA3, kA3, kA3, kA3, (0, 22), (0, 800), kA3, (0, 800), (0, 23)], [], [kR 0, kR 2, kI 0, kI 11, kIc 22], 0), ([], 2)),
  (50, [0, 1, 2, 3, 4], ([kc228, kc218, kc354], [(1, 9), (0, 800), (0, 800), kA3, (0, 800), kA3, kA3, kA3, kA3, kA3, kA3, (0, 21), (0, 800), kA3, (0, 800), (0, 23)], [], [kR 0, kR 2, kI 0, kI 11, kIc 21], 0), ([], 3)),
  (50, [0, 1, 2, 3, 4], ([kc228, kc218, kc355], [(1, 9), (0, 800), (0, 800), kA3, (0, 800), kA3, kA3, kA3, kA3, kA3, kA3, (0, 20), (0, 800), kA3, (0, 800), (0, 23)], [], [kR 0, kR 2, kI 0, kI 11, kIc 20], 0), ([], 4)),
  (50, [0, 1, 2, 3, 4], ([kc228, kc218, kc356], [(1, 9), (0, 800), (0, 800), kA3, (0, 800), kA3, kA3, kA3, kA3, kA3, kA3, (0, 19), (0, 800), kA3, (0, 800), (0, 23)], [], [kR 0, kR 2, kI 0, kI 11, kIc 19], 0), ([], 5)),
  (50, [0, 1, 2, 3, 4], ([kc228, kc218, kc357], [(1, 9), (0, 800), (0, 800), kA3, (0, 800), kA3, kA3, kA3, kA3, kA3, kA3, (0, 18), (0, 800), kA3, (0, 800), (0, 23)], [], [kR 0, kR 2, kI 0, kI 11, kIc 18], 0), ([], 6)),
  (50, [0, 1, 2, 3, 4], ([kc228, kc218, kc358], [(1, 9), (0, 800), (0, 800), kA3, (0, 800), kA3, kA3, kA3, kA3, kA3, kA3, (0, 17), (0, 800), kA3, (0, 800), (0, 23)], [], [kR 0, kR 2, kI 0, kI 11, kIc 17], 0), ([], 7)),
  (50, [0, 1, 2, 3, 4], ([kc228, kc218, kc359], [(1, 9), (0, 800), (0, 800), kA3, (0, 800), kA3, kA3, kA3, kA3, kA3, kA3, (0, 16), (0, 800), kA3, (0, 800), (0, 23)], [], [kR 0, kR 2, kI 0, kI 11, kIc 16], 0), ([], 8)),
  (50, [0, 1, 2, 3, 4], ([kc228, kc218, kc360], [(1, 9), (0, 800), (0, 800), kA3, (0, 800), kA3, kA3, kA3, kA3, kA3, kA3, (0, 15), (0, 800), kA3, (0, 800), (0, 23)], [], [kR 0, kR 2, kI 0, kI 11, kIc 15], 0), ([], 9)),
  (50, [0, 1, 2, 3, 4], ([kc228, kc218, kc361], [(1, 9), (0, 800), (0, 800), kA3, (0, 800), kA3, kA3, kA3, kA3, kA3, kA3, (0, 14), (0, 800), kA3, (0, 800), (0, 23)], [], [kR 0, kR 2, kI 0, kI 11, kIc 14], 0), ([], 10)),
  (50, [0, 1, 2, 3, 4], ([kc228, kc218, kc362], [(1, 9), (0, 800), (0, 800), kA3, (0, 800), kA3, kA3, kA3, kA3, kA3, kA3, (0, 13), (0, 800), kA3, (0, 800), (0, 23)], [], [kR 0, kR 2, kI 0, kI 11, kIc 13], 0), ([], 11)),
  (50, [0, 1, 2, 3, 4], ([kc228, kc218, kc363], [(1, 9), (0, 800), (0, 800), kA3, (0, 800), kA3, kA3, kA3, kA3, kA3, kA3, (0, 12), (0, 800), kA3, (0, 800), (0, 23)], [], [kR 0, kR 2, kI 0, kI 11, kIc 12], 0), ([], 12)),
  (50, [0, 1, 2, 3, 4], ([kc228, kc218, kc364], [(1, 9), (0, 800), (0, 800), kA3, (0, 800), kA3, kA3, kA3, kA3, kA3, kA3, (0, 11), (0, 800), kA3, (0, 800), (0, 23)], [], [kR 0, kR 2, kI 0, kI 11, kIc 11], 0), ([], 13)),
  (50, [0, 1, 2, 3, 4], ([kc228, kc218, kc365], [(1, 9), (0, 800), (0, 800), kA3, (0, 800), kA3, kA3, kA3, kA3, kA3, kA3, (0, 10), (0, 800), kA3, (0, 800), (0, 23)], [], [kR 0, kR 2, kI 0, kI 11, kIc 10], 0), ([], 14)),
  (50, [0, 1, 2, 3, 4], ([kc228, kc218, kc366], [(1, 9), (0, 800), (0, 800), kA3, (0, 800), kA3, kA3, kA3, kA3, kA3, kA3, (0, 9), (0, 800), kA3, (0, 800), (0, 23)], [], [kR 0, kR 2, kI 0, kI 11, kIc 9], 0), ([], 15)),
  (50, [0, 1, 2, 3, 4], ([kc228, kc218, kc367], [(1, 9), (0, 800), (0, 800), kA3, (0, 800), kA3, kA3, kA3, kA3, kA3, kA3, (0, 8), (0, 800), kA3, (0, 800), (0, 23)], [], [kR 0, kR 2, kI 0, kI 11, kIc 8], 0), ([], 16)),
  (50, [0, 1, 2, 3, 4], ([kc228, kc218, kc368], [(1, 9), (0, 800), (0, 800), kA3, (0, 800), kA3, kA3, kA3, kA3, kA3, kA3, (0, 7), (0, 800), kA3, (0, 800), (0, 23)], [], [kR 0, kR 2, kI 0, kI 11, kIc 7], 0), ([], 17)),
  (50, [0, 1, 2, 3, 4], ([kc228, kc218, kc369], [(1, 9), (0, 800), (0, 800), kA3, (0, 800), kA3, kA3, kA3, kA3, kA3, kA3, (0, 6), (0, 800), kA3, (0, 800), (0, 23)], [], [kR 0, kR 2, kI 0, kI 11, kIc 6], 0), ([], 18)),
  (50, [0, 1, 2, 3, 4], ([kc228, kc218, kc370], [(1, 9), (0, 800), (0, 800), kA3, (0, 800), kA3, kA3, kA3, kA3, kA3, kA3, (0, 5), (0, 800), kA3, (0, 800), (0, 23)], [], [kR 0, kR 2, kI 0, kI 11, kIc 5], 0), ([], 19)),
  (50, [0, 1, 2, 3, 4], ([kc228, kc218, kc371], [(1, 9), (0, 800), (0, 800), kA3, (0, 800), kA3, kA3, kA3, kA3, kA3, kA3, (0, 4), (0, 800), kA3, (0, 800), (0, 23)], [], [kR 0, kR 2, kI 0, kI 11, kIc 4], 0), ([], 20)),
  (50, [0, 1, 2, 3, 4], ([kc228, kc218, kc372], [(1, 9), (0, 800), (0, 800), kA3, (0, 800), kA3, kA3, kA3, kA3, kA3, kA3, (0, 3), (0, 800), kA3, (0, 800), (0, 23)], [], [kR 0, kR 2, kI 0, kI 11, kIc 3], 0), ([], 21)),
  (50, [0, 1, 2, 3, 4], ([kc228, kc218, kc373], [(1, 9), (0, 800), (0, 800), kA3, (0, 800), kA3, kA3, kA3, kA3, kA3, kA3, (0, 2), (0, 800), kA3, (0, 800), (0, 23)], [], [kR 0, kR 2, kI 0, kI 11, kIc 2], 0), ([], 22)),
  (50, [0, 1, 2, 3, 4], ([kc228, kc218, kc374], [(1, 9), (0, 800), (0, 800), kA3, (0, 800), kA3, kA3, kA3, kA3, kA3, kA3, (0, 1), (0, 800), kA3, (0, 800), (0, 23)], [], [kR 0, kR 2, kI 0, kI 11, kIc 1], 0), ([], 23)),
  (50, [0, 1, 2, 3, 4], ([kc225, kc218, kc327], [(1, 9), (0, 800), (0, 800), kA3, (0, 800), kA3, kA3, kA3, kA3, kA3, kA3, (0, 800), kA3, (0, 800), (0, 23)], [], [kR 0, kR 2, kI 0, kIc 0, kIc 0], 0), ([], 24)),
  (50, [0, 1, 2, 3, 4], ([kc252, kc218, kc375], [(1, 9), (0, 800), (0, 800), kA3, (0, 800), kA3, kA3, kA3, kA3, kA3, kA3, (0, 23), (0, 800), kA3, (0, 800)], [], [kR 0, kR 2, kI 0, kI 11, kIc 24], 0), ([], 0))]
def xT_171 : List (Nat × xCt) := [(40, xc_148), (44, xc_150), (44, xc_164)]
theorem xv_171 : xVer0v xT_171 xHt 100000 35 xm_X3_readsHours xc_171 xu_171 [0] = true := by
  rw [← zVer0v_eq]
  decide +kernel
theorem xw_171_0 : ((xu_171.drop 0).take 1).all (xVerCs xT_171 xHt 100000 35 xm_X3_readsHours xc_171 xu_171 [0, 1] [24]) = true := by
  rw [← zVerCs_eq]
  decide +kernel
theorem xw_171_1 : ((xu_171.drop 1).take 1).all (xVerCs xT_171 xHt 100000 35 xm_X3_readsHours xc_171 xu_171 [0, 1] [0]) = true := by
  rw [← zVerCs_eq]
  decide +kernel
theorem xw_171_2 : ((xu_171.drop 2).take 1).all (xVerCs xT_171 xHt 100000 35 xm_X3_readsHours xc_171 xu_171 [0, 1] [1]) = true := by
  rw [← zVerCs_eq]
  decide +kernel
theorem xw_171_3 : ((xu_171.drop 3).take 1).all (xVerCs xT_171 xHt 100000 35 xm_X3_readsHours xc_171 xu_171 [0, 1] [2]) = true := by
  rw [← zVerCs_eq]
  decide +kernel
theorem xw_171_4 : ((xu_171.drop 4).take 1).all (xVerCs xT_171 xHt 100000 35 xm_X3_readsHours xc_171 xu_171 [0, 1] [3]) = true := by
  rw [← zVerCs_eq]
  decide +kernel
theorem xw_171_5 : ((xu_171.drop 5).take 1).all (xVerCs xT_171 xHt 100000 35 xm_X3_readsHours xc_171 xu_171 [0, 1] [4]) = true := by
  rw [← zVerCs_eq]
  decide +kernel
theorem xw_171_6 : ((xu_171.drop 6).take 1).all (xVerCs xT_171 xHt 100000 35 xm_X3_readsHours xc_171 xu_171 [0, 1] [5]) = true := by
  rw [← zVerCs_eq]
  decide +kernel
theorem xw_171_7 : ((xu_171.drop 7).take 1).all (xVerCs xT_171 xHt 100000 35 xm_X3_readsHours xc_171 xu_171 [0, 1] [6]) = true := by
  rw [← zVerCs_eq]
  decide +kernel
theorem xw_171_8 : ((xu_171.drop 8).take 1).all (xVerCs xT_171 xHt 100000 35 xm_X3_readsHours xc_171 xu_171 [0, 1] [7]) = true := by
  rw [← zVerCs_eq]
  decide +kernel
theorem xw_171_9 : ((xu_171.drop 9).take 1).all (xVerCs xT_171 xHt 100000 35 xm_X3_readsHours xc_171 xu_171 [0, 1] [8]) = true := by
  rw [← zVerCs_eq]
  decide +kernel
theorem xw_171_10 : ((xu_171.drop 10).take 1).all (xVerCs xT_171 xHt 100000 35 xm_X3_readsHours xc_171 xu_171 [0, 1] [9]) = true := by
  rw [← zVerCs_eq]
  decide +kernel
theorem xw_171_11 : ((xu_171.drop 11).take 1).all (xVerCs xT_171 xHt 100000 35 xm_X3_readsHours xc_171 xu_171 [0, 1] [10]) = true := by
  rw [← zVerCs_eq]
  decide +kernel
theorem xw_171_12 : ((xu_171.drop 12).take 1).all (xVerCs xT_171 xHt 100000 35 xm_X3_readsHours xc_171 xu_171 [0, 1] [11]) = true := by
  rw [← zVerCs_eq]
  decide +kernel
theorem xw_171_13 : ((xu_171.drop 13).take 1).all (xVerCs xT_171 xHt 100000 35 xm_X3_readsHours xc_171 xu_171 [0, 1] [12]) = true := by
  rw [← zVerCs_eq]
  decide +kernel
theorem xw_171_14 : ((xu_171.drop 14).take 1).all (xVerCs xT_171 xHt 100000 35 xm_X3_readsHours xc_171 xu_171 [0, 1] [13]) = true := by
  rw [← zVerCs_eq]
  decide +kernel
theorem xw_171_15 : ((xu_171.drop 15).take 1).all (xVerCs xT_171 xHt 100000 35 xm_X3_readsHours xc_171 xu_171 [0, 1] [14]) = true := by
  rw [← zVerCs_eq]
  decide +kernel
theorem xw_171_16 : ((xu_171.drop 16).take 1).all (xVerCs xT_171 xHt 100000 35 xm_X3_readsHours xc_171 xu_171 [0, 1] [15]) = true := by
  rw [← zVerCs_eq]
  decide +kernel
theorem xw_171_17 : ((xu_171.drop 17).take 1).all (xVerCs xT_171 xHt 100000 35 xm_X3_readsHours xc_171 xu_171 [0, 1] [16]) = true := by
  rw [← zVerCs_eq]
  decide +kernel
theorem xw_171_18 : ((xu_171.drop 18).take 1).all (xVerCs xT_171 xHt 100000 35 xm_X3_readsHours xc_171 xu_171 [0, 1] [17]) = true := by
  rw [← zVerCs_eq]
  decide +kernel
theorem xw_171_19 : ((xu_171.drop 19).take 1).all (xVerCs xT_171 xHt 100000 35 xm_X3_readsHours xc_171 xu_171 [0, 1] [18]) = true := by
  rw [← zVerCs_eq]
  decide +kernel
theorem xw_171_20 : ((xu_171.drop 20).take 1).all (xVerCs xT_171 xHt 100000 35 xm_X3_readsHours xc_171 xu_171 [0, 1] [19]) = true := by
  rw [← zVerCs_eq]
  decide +kernel
theorem xw_171_21 : ((xu_171.drop 21).take 1).all (xVerCs xT_171 xHt 100000 35 xm_X3_readsHours xc_171 xu_171 [0, 1] [20]) = true := by
  rw [← zVerCs_eq]
  decide +kernel
theorem xw_171_22 : ((xu_171.drop 22).take 1).all (xVerCs xT_171 xHt 100000 35 xm_X3_readsHours xc_171 xu_171 [0, 1] [21]) = true := by
  rw [← zVerCs_eq]
  decide +kernel
theorem xw_171_23 : ((xu_171.drop 23).take 1).all (xVerCs xT_171 xHt 100000 35 xm_X3_readsHours xc_171 xu_171 [] [22]) = true := by
  rw [← zVerCs_eq]
  decide +kernel
theorem xw_171_24 : ((xu_171.drop 24).take 1).all (xVerCs xT_171 xHt 100000 35 xm_X3_readsHours xc_171 xu_171 [0, 1] []) = true := by
  rw [← zVerCs_eq]
  decide +kernel
theorem xok_171 (l : Launch) : xCk l 35 xc_171 := ⟨xm_X3_readsHours, rfl, xVer_ok xk_all (xHt_ok l) (T := xT_171) (xTc (xok_148 l) (xTc (xok_150 l) (xTc (xok_164 l) (xTn l)))) rfl (f := 100000) (cuts := xu_171) (xVer0v_ok xv_171) (xAll0 (xAllS 0 1 (xAllCs xw_171_0) (xAllS 1 1 (xAllCs xw_171_1) (xAllS 2 1 (xAllCs xw_171_2) (xAllS 3 1 (xAllCs xw_171_3) (xAllS 4 1 (xAllCs xw_171_4) (xAllS 5 1 (xAllCs xw_171_5) (xAllS 6 1 (xAllCs xw_171_6) (xAllS 7 1 (xAllCs xw_171_7) (xAllS 8 1 (xAllCs xw_171_8) (xAllS 9 1 (xAllCs xw_171_9) (xAllS 10 1 (xAllCs xw_171_10) (xAllS 11 1 (xAllCs xw_171_11) (xAllS 12 1 (xAllCs xw_171_12) (xAllS 13 1 (xAllCs xw_171_13) (xAllS 14 1 (xAllCs xw_171_14) (xAllS 15 1 (xAllCs xw_171_15) (xAllS 16 1 (xAllCs xw_171_16) (xAllS 17 1 (xAllCs xw_171_17) (xAllS 18 1 (xAllCs xw_171_18) (xAllS 19 1 (xAllCs xw_171_19) (xAllS 20 1 (xAllCs xw_171_20) (xAllS 21 1 (xAllCs xw_171_21) (xAllS 22 1 (xAllCs xw_171_22) (xAllS 23 1 (xAllCs xw_171_23) (xAllS 24 1 (xAllCs xw_171_24) (xAllZ (by decide +kernel))))))))))))))))))))))))))))⟩
def xc_172 : xCt := (([kc226, kc218, kc23], [(1, 1), (0, 800), (0, 800), kA3, (0, 800), kA3, kA3, kA3, kA3, kA3, kA3], [], [kR 0, kR 2, kI 0], 0), [([kc223, kc218, kc23], [(1, 1), (0, 800), (0, 800), kA3, (0, 800), kA3, kA3, kA3, kA3, kA3, kA3, (0, 800), kA3, (0, 800), kA3, kA3, kA3], [], [kIc 0], 0), ([kc225, kc218, kc23], [(1, 1), (0, 800), (0, 800), kA3, (0, 800), kA3, kA3, kA3, kA3, kA3, kA3, (0, 800), kA3, (0, 800), kA3], [], [kIc 1], 0)], 8)
def xu_172 : List xCu := [(50, [0, 1, 2, 3, 4], ([kc228, kc218, kc23], [(1, 1), (0, 800), (0, 800), kA3, (0, 800), kA3, kA3, kA3, kA3, kA3, kA3, (0, 23), (0, 800), kA3, (0, 800), (0, 23)], [], [kR 0, kR 2, kI 0, kI 11, kIc 23], 0), ([], 1)),
  (50, [0, 1, 2, 3, 4], ([kc228, kc218, kc23], [(1, 1), (0, 800), (0, 800), kA3, (0, 800), kA3, kA3, kA3, kA3, kA3, kA3, (0, 22), (0, 800), kA3, (0, 800), (0, 23)], [], [kR 0, kR 2, kI 0, kI 11, kIc 22], 0), ([], 2)),
  (50, [0, 1, 2, 3, 4], ([kc228, kc218, kc23], [(1, 1), (0, 800), (0, 800), kA3, (0, 800), kA3, kA3, kA3, kA3, kA3, kA3, (0, 21), (0, 800), kA3, (0, 800), (0, 23)], [], [kR 0, kR 2, kI 0, kI 11, kIc 21], 0), ([], 3)),
  (50, [0, 1, 2, 3, 4], ([kc228, kc218, kc23], [(1, 1), (0, 800), (0, 800), kA3, (0, 800), kA3, kA3, kA3, kA3, kA3, kA3, (0, 20), (0, 800), kA3, (0, 800), (0, 23)], [], [kR 0, kR 2, kI 0, kI 11, kIc 20], 0), ([], 4)),
  (50, [0, 1, 2, 3, 4], ([kc228, kc218, kc23], [(1, 1), (0, 800), (0, 800), kA3, (0, 800), kA3, kA3, kA3, kA3, kA3, kA3, (0, 19), (0, 800), kA3, (0, 800), (0, 23)], [], [kR 0, kR 2, kI 0, kI 11, kIc 19], 0), ([], 5)),
  (50, [0, 1, 2, 3, 4], ([kc228, kc218, kc23], [(1, 1), (0, 800), (0, 800), kA3, (0, 800), kA3, kA3, kA3, kA3, kA3, kA3, (0, 18), (0, 800), kA3, (0, 800), (0, 23)], [], [kR 0, kR 2, kI 0, kI 11, kIc 18], 0), ([], 6)),
  (50, [0, 1, 2, 3, 4], ([kc228, kc218, kc23], [(1, 1), (0, 800), (0, 800), kA3, (0, 800), kA3, kA3, kA3, kA3, kA3, kA3, (0, 17), (0, 800), kA3, (0, 800), (0, 23)], [], [kR 0, kR 2, kI 0, kI 11, kIc 17], 0), ([], 7)),
  (50, [0, 1, 2, 3, 4], ([kc228, kc218, kc23], [(1, 1), (0, 800), (0, 800), kA3, (0, 800), kA3, kA3, kA3, kA3, kA3, kA3, (0, 16), (0, 800), kA3, (0, 800), (0, 23)], [], [kR 0, kR 2, kI 0, kI 11, kIc 16], 0), ([], 8)),
  (50, [0, 1, 2, 3, 4], ([kc228, kc218, kc23], [(1, 1), (0, 800), (0, 800), kA3, (0, 800), kA3, kA3, kA3, kA3, kA3, kA3, (0, 15), (0, 800), kA3, (0, 800), (0, 23)], [], [kR 0, kR 2, kI 0, kI 11, kIc 15], 0), ([], 9)),
  (50, [0, 1, 2, 3, 4], ([kc228, kc218, kc23], [(1, 1), (0, 800), (0, 800), kA3, (0, 800), kA3, kA3, kA3, kA3, kA3, kA3, (0, 14), (0, 800), kA3, (0, 800), (0, 23)], [], [kR 0, kR 2, kI 0, kI 11, kIc 14], 0), ([], 10)),
  (50, [0, 1, 2, 3, 4], ([kc228, kc218, kc23], [(1, 1), (0, 800), (0, 800), kA3, (0, 800), kA3, kA3, kA3, kA3, kA3, kA3, (0, 13), (0, 800), kA3, (0, 800), (0, 23)], [], [kR 0, kR 2, kI 0, kI 11, kIc 13], 0), ([], 11)),
  (50, [0, 1, 2, 3, 4], ([kc228, kc218, kc23], [(1, 1), (0, 800), (0, 800), kA3, (0, 800), kA3, kA3, kA3, kA3, kA3, kA3, (0, 12), (0, 800), kA3, (0, 800), (0, 23)], [], [kR 0, kR 2, kI 0, kI 11, kIc 12], 0), ([], 12)),
  (50, [0, 1, 2, 3, 4], ([kc228, kc218, kc23], [(1, 1), (0, 800), (0, 800), kA3, (0, 800), kA3, kA3, kA3, kA3, kA3, kA3, (0, 11), (0, 800), kA3, (0, 800), (0, 23)], [], [kR 0, kR 2, kI 0, kI 11, kIc 11], 0), ([], 13)),
  (50, [0, 1, 2, 3, 4], ([kc228, kc218, kc23], [(1, 1), (0, 800), (0, 800), kA3, (0, 800), kA3, kA3, kA3, kA3, kA3, kA3, (0, 10), (0, 800), kA3, (0, 800), (0, 23)], [], [kR 0, kR 2, kI 0, kI 11, kIc 10], 0), ([], 14)),
  (50, [0, 1, 2, 3, 4], ([kc228, kc218, kc23], [(1, 1), (0, 800), (0, 800), kA3, (0, 800), kA3, kA3, kA3, kA3, kA3, kA3, (0, 9), (0, 800), kA3, (0, 800), (0, 23)], [], [kR 0, kR 2, kI 0, kI 11, kIc 9], 0), ([], 15)),
  (50, [0, 1, 2, 3, 4], ([kc228, kc218, kc23], [(1, 1), (0, 800), (0, 800), kA3, (0, 800), kA3, kA3, kA3, kA3, kA3, kA3, (0, 8), (0, 800), kA3, (0, 800), (0, 23)], [], [kR 0, kR 2, kI 0, kI 11, kIc 8], 0), ([], 16)),
  (50, [0, 1, 2, 3, 4], ([kc228, kc218, kc23], [(1, 1), (0, 800), (0, 800), kA3, (0, 800), kA3, kA3, kA3, kA3, kA3, kA3, (0, 7), (0, 800), kA3, (0, 800), (0, 23)], [], [kR 0, kR 2, kI 0, kI 11, kIc 7], 0), ([], 17)),
  (50, [0, 1, 2, 3, 4], ([kc228, kc218, kc23], [(1, 1), (0, 800), (0, 800), kA3, (0, 800), kA3, kA3, kA3, kA3, kA3, kA3, (0, 6), (0, 800), kA3, (0, 800), (0, 23)], [], [kR 0, kR 2, kI 0, kI 11, kIc 6], 0), ([], 18)),
  (50, [0, 1, 2, 3, 4], ([kc228, kc218, kc23], [(1, 1), (0, 800), (0, 800), kA3, (0, 800), kA3, kA3, kA3, kA3, kA3, kA3, (0, 5), (0, 800), kA3, (0, 800), (0, 23)], [], [kR 0, kR 2, kI 0, kI 11, kIc 5], 0), ([], 19)),
  (50, [0, 1, 2, 3, 4], ([kc228, kc218, kc23], [(1, 1), (0, 800), (0, 800), kA3, (0, 800), kA3, kA3, kA3, kA3, kA3, kA3, (0, 4), (0, 800), kA3, (0, 800), (0, 23)], [], [kR 0, kR 2, kI 0, kI 11, kIc 4], 0), ([], 20)),
  (50, [0, 1, 2, 3, 4], ([kc228, kc218, kc23], [(1, 1), (0, 800), (0, 800), kA3, (0, 800), kA3, kA3, kA3, kA3, kA3, kA3, (0, 3), (0, 800), kA3, (0, 800), (0, 23)], [], [kR 0, kR 2, kI 0, kI 11, kIc 3], 0), ([], 21)),
  (50, [0, 1, 2, 3, 4], ([kc228, kc218, kc23], [(1, 1), (0, 800), (0, 800), kA3, (0, 800), kA3, kA3, kA3, kA3, kA3, kA3, (0, 2), (0, 800), kA3, (0, 800), (0, 23)], [], [kR 0, kR 2, kI 0, kI 11, kIc 2], 0), ([], 22)),
  (50, [0, 1, 2, 3, 4], ([kc228, kc218, kc23], [(1, 1), (0, 800), (0, 800), kA3, (0, 800), kA3, kA3, kA3, kA3, kA3, kA3, (0, 1), (0, 800), kA3, (0, 800), (0, 23)], [], [kR 0, kR 2, kI 0, kI 11, kIc 1], 0), ([], 23)),
  (50, [0, 1, 2, 3, 4], ([kc225, kc218, kc23], [(1, 1), (0, 800), (0, 800), kA3, (0, 800), kA3, kA3, kA3, kA3, kA3, kA3, (0, 800), kA3, (0, 800), (0, 23)], [], [kR 0, kR 2, kI 0, kIc 0, kIc 0], 0), ([], 24)),
  (50, [0, 1, 2, 3, 4], ([kc252, kc218, kc23], [(1, 1), (0, 800), (0, 800), kA3, (0, 800), kA3, kA3, kA3, kA3, kA3, kA3, (0, 23), (0, 800), kA3, (0, 800)], [], [kR 0, kR 2, kI 0, kI 11, kIc 24], 0), ([], 0))]
def xT_172 : List (Nat × xCt) := [(40, xc_148), (44, xc_150), (44, xc_164)]
theorem xv_172 : xVer0v xT_172 xHt 100000 35 xm_X3_readsHours xc_172 xu_172 [0] = true := by
  rw [← zVer0v_eq]
  decide +kernel
theorem xw_172_0 : ((xu_172.drop 0).take 1).all (xVerCs xT_172 xHt 100000 35 xm_X3_readsHours xc_172 xu_172 [0, 1] [24]) = true := by
  rw [← zVerCs_eq]
  decide +kernel
theorem xw_172_1 : ((xu_172.drop 1).take 1).all (xVerCs xT_172 xHt 100000 35 xm_X3_readsHours xc_172 xu_172 [0, 1] [0]) = true := by
  rw [← zVerCs_eq]
  decide +kernel
theorem xw_172_2 : ((xu_172.drop 2).take 1).all (xVerCs xT_172 xHt 100000 35 xm_X3_readsHours xc_172 xu_172 [0, 1] [1]) = true := by
  rw [← zVerCs_eq]
  decide +kernel
theorem xw_172_3 : ((xu_172.drop 3).take 1).all (xVerCs xT_172 xHt 100000 35 xm_X3_readsHours xc_172 xu_172 [0, 1] [2]) = true := by
  rw [← zVerCs_eq]
  decide +kernel
theorem xw_172_4 : ((xu_172.drop 4).take 1).all (xVerCs xT_172 xHt 100000 35 xm_X3_readsHours xc_172 xu_172 [0, 1] [3]) = true := by
  rw [← zVerCs_eq]
  decide +kernel
theorem xw_172_5 : ((xu_172.drop 5).take 1).all (xVerCs xT_172 xHt 100000 35 xm_X3_readsHours xc_172 xu_172 [0, 1] [4]) = true := by
  rw [← zVerCs_eq]
  decide +kernel
theorem xw_172_6 : ((xu_172.drop 6).take 1).all (xVerCs xT_172 xHt 100000 35 xm_X3_readsHours xc_172 xu_172 [0, 1] [5]) = true := by
  rw [← zVerCs_eq]
  decide +kernel
theorem xw_172_7 : ((xu_172.drop 7).take 1).all (xVerCs xT_172 xHt 100000 35 xm_X3_readsHours xc_172 xu_172 [0, 1] [6]) = true := by
  rw [← zVerCs_eq]
  decide +kernel
theorem xw_172_8 : ((xu_172.drop 8).take 1).all (xVerCs xT_172 xHt 100000 35 xm_X3_readsHours xc_172 xu_172 [0, 1] [7]) = true := by
  rw [← zVerCs_eq]
  decide +kernel
theorem xw_172_9 : ((xu_172.drop 9).take 1).all (xVerCs xT_172 xHt 100000 35 xm_X3_readsHours xc_172 xu_172 [0, 1] [8]) = true := by
  rw [← zVerCs_eq]
  decide +kernel
theorem xw_172_10 : ((xu_172.drop 10).take 1).all (xVerCs xT_172 xHt 100000 35 xm_X3_readsHours xc_172 xu_172 [0, 1] [9]) = true := by
  rw [← zVerCs_eq]
  decide +kernel
theorem xw_172_11 : ((xu_172.drop 11).take 1).all (xVerCs xT_172 xHt 100000 35 xm_X3_readsHours xc_172 xu_172 [0, 1] [10]) = true := by
  rw [← zVerCs_eq]
  decide +kernel
theorem xw_172_12 : ((xu_172.drop 12).take 1).all (xVerCs xT_172 xHt 100000 35 xm_X3_readsHours xc_172 xu_172 [0, 1] [11]) = true := by
  rw [← zVerCs_eq]
  decide +kernel
theorem xw_172_13 : ((xu_172.drop 13).take 1).all (xVerCs xT_172 xHt 100000 35 xm_X3_readsHours xc_172 xu_172 [0, 1] [12]) = true := by
  rw [← zVerCs_eq]
  decide +kernel
theorem xw_172_14 : ((xu_172.drop 14).take 1).all (xVerCs xT_172 xHt 100000 35 xm_X3_readsHours xc_172 xu_172 [0, 1] [13]) = true := by
  rw [← zVerCs_eq]
  decide +kernel
theorem xw_172_15 : ((xu_172.drop 15).take 1).all (xVerCs xT_172 xHt 100000 35 xm_X3_readsHours xc_172 xu_172 [0, 1] [14]) = true := by
  rw [← zVerCs_eq]
  decide +kernel
theorem xw_172_16 : ((xu_172.drop 16).take 1).all (xVerCs xT_172 xHt 100000 35 xm_X3_readsHours xc_172 xu_172 [0, 1] [15]) = true := by
  rw [← zVerCs_eq]
  decide +kernel
theorem xw_172_17 : ((xu_172.drop 17).take 1).all (xVerCs xT_172 xHt 100000 35 xm_X3_readsHours xc_172 xu_172 [0, 1] [16]) = true := by
  rw [← zVerCs_eq]
  decide +kernel
theorem xw_172_18 : ((xu_172.drop 18).take 1).all (xVerCs xT_172 xHt 100000 35 xm_X3_readsHours xc_172 xu_172 [0, 1] [17]) = true := by
  rw [← zVerCs_eq]
  decide +kernel
theorem xw_172_19 : ((xu_172.drop 19).take 1).all (xVerCs xT_172 xHt 100000 35 xm_X3_readsHours xc_172 xu_172 [0, 1] [18]) = true := by
  rw [← zVerCs_eq]
  decide +kernel
theorem xw_172_20 : ((xu_172.drop 20).take 1).all (xVerCs xT_172 xHt 100000 35 xm_X3_readsHours xc_172 xu_172 [0, 1] [19]) = true := by
  rw [← zVerCs_eq]
  decide +kernel
theorem xw_172_21 : ((xu_172.drop 21).take 1).all (xVerCs xT_172 xHt 100000 35 xm_X3_readsHours xc_172 xu_172 [0, 1] [20]) = true := by
  rw [← zVerCs_eq]
  decide +kernel
theorem xw_172_22 : ((xu_172.drop 22).take 1).all (xVerCs xT_172 xHt 100000 35 xm_X3_readsHours xc_172 xu_172 [0, 1] [21]) = true := by
  rw [← zVerCs_eq]
  decide +kernel
theorem xw_172_23 : ((xu_172.drop 23).take 1).all (xVerCs xT_172 xHt 100000 35 xm_X3_readsHours xc_172 xu_172 [] [22]) = true := by
  rw [← zVerCs_eq]
  decide +kernel
theorem xw_172_24 : ((xu_172.drop 24).take 1).all (xVerCs xT_172 xHt 100000 35 xm_X3_readsHours xc_172 xu_172 [0, 1] []) = true := by
  rw [← zVerCs_eq]
  decide +kernel
theorem xok_172 (l : Launch) : xCk l 35 xc_172 := ⟨xm_X3_readsHours, rfl, xVer_ok xk_all (xHt_ok l) (T := xT_172) (xTc (xok_148 l) (xTc (xok_150 l) (xTc (xok_164 l) (xTn l)))) rfl (f := 100000) (cuts := xu_172) (xVer0v_ok xv_172) (xAll0 (xAllS 0 1 (xAllCs xw_172_0) (xAllS 1 1 (xAllCs xw_172_1) (xAllS 2 1 (xAllCs xw_172_2) (xAllS 3 1 (xAllCs xw_172_3) (xAllS 4 1 (xAllCs xw_172_4) (xAllS 5 1 (xAllCs xw_172_5) (xAllS 6 1 (xAllCs xw_172_6) (xAllS 7 1 (xAllCs xw_172_7) (xAllS 8 1 (xAllCs xw_172_8) (xAllS 9 1 (xAllCs xw_172_9) (xAllS 10 1 (xAllCs xw_172_10) (xAllS 11 1 (xAllCs xw_172_11) (xAllS 12 1 (xAllCs xw_172_12) (xAllS 13 1 (xAllCs xw_172_13) (xAllS 14 1 (xAllCs xw_172_14) (xAllS 15 1 (xAllCs xw_172_15) (xAllS 16 1 (xAllCs xw_172_16) (xAllS 17 1 (xAllCs xw_172_17) (xAllS 18 1 (xAllCs xw_172_18) (xAllS 19 1 (xAllCs xw_172_19) (xAllS 20 1 (xAllCs xw_172_20) (xAllS 21 1 (xAllCs xw_172_21) (xAllS 22 1 (xAllCs xw_172_22) (xAllS 23 1 (xAllCs xw_172_23) (xAllS 24 1 (xAllCs xw_172_24) (xAllZ (by decide +kernel))))))))))))))))))))))))))))⟩
