/-! Contracts, printed by a program: part 8. -/
def kc254 : xC := kAr 0 24 [(24, kB 0 6)]
def kc255 : xC := kAr 0 24 [(23, kB 0 6), (1, kB 0 3)]
def kc256 : xC := kAr 0 24 [(22, kB 0 6), (2, kB 0 3)]
def kc257 : xC := kAr 0 24 [(21, kB 0 6), (3, kB 0 3)]
def kc258 : xC := kAr 0 24 [(20, kB 0 6), (4, kB 0 3)]
def kc259 : xC := kAr 0 24 [(19, kB 0 6), (5, kB 0 3)]
def kc260 : xC := kAr 0 24 [(18, kB 0 6), (6, kB 0 3)]
def kc261 : xC := kAr 0 24 [(17, kB 0 6), (7, kB 0 3)]
def kc262 : xC := kAr 0 24 [(16, kB 0 6), (8, kB 0 3)]
def kc263 : xC := kAr 0 24 [(15, kB 0 6), (9, kB 0 3)]
def kc264 : xC := kAr 0 24 [(14, kB 0 6), (10, kB 0 3)]
def kc265 : xC := kAr 0 24 [(13, kB 0 6), (11, kB 0 3)]
def kc266 : xC := kAr 0 24 [(12, kB 0 6), (12, kB 0 3)]
def kc267 : xC := kAr 0 24 [(11, kB 0 6), (13, kB 0 3)]
def kc268 : xC := kAr 0 24 [(10, kB 0 6), (14, kB 0 3)]
def kc269 : xC := kAr 0 24 [(9, kB 0 6), (15, kB 0 3)]
def kc270 : xC := kAr 0 24 [(8, kB 0 6), (16, kB 0 3)]
def kc271 : xC := kAr 0 24 [(7, kB 0 6), (17, kB 0 3)]
def kc272 : xC := kAr 0 24 [(6, kB 0 6), (18, kB 0 3)]
def kc273 : xC := kAr 0 24 [(5, kB 0 6), (19, kB 0 3)]
def kc274 : xC := kAr 0 24 [(4, kB 0 6), (20, kB 0 3)]
def kc275 : xC := kAr 0 24 [(3, kB 0 6), (21, kB 0 3)]
def kc276 : xC := kAr 0 24 [(2, kB 0 6), (22, kB 0 3)]
def kc277 : xC := kAr 0 24 [(1, kB 0 6), (23, kB 0 3)]
def kc278 : xC := kAr 0 24 [(23, kB 0 6), (1, kB 1 6)]
def xc_167 : xCt := (([kc226, kc218, kc224], [(1, 3), (0, 800), (0, 800), kA3, (0, 800), kA3, kA3, kA3, kA3, kA3, kA3], [], [kR 0, kR 2, kI 0], 0), [([kc223, kc218, kc254], [(1, 3), (0, 800), (0, 800), kA3, (0, 800), kA3, kA3, kA3, kA3, kA3, kA3, (0, 800), kA3, (0, 800), kA3, kA3, kA3], [], [kIc 0], 0), ([kc225, kc218, kc254], [(1, 3), (0, 800), (0, 800), kA3, (0, 800), kA3, kA3, kA3, kA3, kA3, kA3, (0, 800), kA3, (0, 800), kA3], [], [kIc 1], 0)], 8)
def xu_167 : List xCu := [(50, [0, 1, 2, 3, 4], ([kc228, kc218, kc255], [(1, 3), (0, 800), (0, 800), kA3, (0, 800), kA3, kA3, kA3, kA3, kA3, kA3, (0, 23), (0, 800), kA3, (0, 800), (0, 23)], [], [kR 0, kR 2, kI 0, kI 11, kIc 23], 0), ([], 1)),
  (50, [0, 1, 2, 3, 4], ([kc228, kc218, kc256], [(1, 3), (0, 800), (0, 800), kA3, (0, 800), kA3, kA3, kA3, kA3, kA3, kA3, (0, 22), (0, 800), kA3, (0, 800), (0, 23)], [], [kR 0, kR 2, kI 0, kI 11, kIc 22], 0), ([], 2)),
  (50, [0, 1, 2, 3, 4], ([kc228, kc218, kc257], [(1, 3), (0, 800), (0, 800), kA3, (0, 800), kA3, kA3, kA3, kA3, kA3, kA3, (0, 21), (0, 800), kA3, (0, 800), (0, 23)], [], [kR 0, kR 2, kI 0, kI 11, kIc 21], 0), ([], 3)),
  (50, [0, 1, 2, 3, 4], ([kc228, kc218, kc258], [(1, 3), (0, 800), (0, 800), kA3, (0, 800), kA3, kA3, kA3, kA3, kA3, kA3, (0, 20), (0, 800), kA3, (0, 800), (0, 23)], [], [kR 0, kR 2, kI 0, kI 11, kIc 20], 0), ([], 4)),
  (50, [0, 1, 2, 3, 4], ([kc228, kc218, kc259], [(1, 3), (0, 800), (0, 800), kA3, (0, 800), kA3, kA3, kA3, kA3, kA3, kA3, (0, 19), (0, 800), kA3, (0, 800), (0, 23)], [], [kR 0, kR 2, kI 0, kI 11, kIc 19], 0), ([], 5)),
  (50, [0, 1, 2, 3, 4], ([kc228, kc218, kc260], [(1, 3), (0, 800), (0, 800), kA3, (0, 800), kA3, kA3, kA3, kA3, kA3, kA3, (0, 18), (0, 800), kA3, (0, 800), (0, 23)], [], [kR 0, kR 2, kI 0, kI 11, kIc 18], 0), ([], 6)),
  (50, [0, 1, 2, 3, 4], ([kc228, kc218, kc261], [(1, 3), (0, 800), (0, 800), kA3, (0, 800), kA3, kA3, kA3, kA3, kA3, kA3, (0, 17), (0, 800), kA3, (0, 800), (0, 23)], [], [kR 0, kR 2, kI 0, kI 11, kIc 17], 0), ([], 7)),
  (50, [0, 1, 2, 3, 4], ([kc228, kc218, kc262], [(1, 3), (0, 800), (0, 800), kA3, (0, 800), kA3, kA3, kA3, kA3, kA3, kA3, (0, 16), (0, 800), kA3, (0, 800), (0, 23)], [], [kR 0, kR 2, kI 0, kI 11, kIc 16], 0), ([], 8)),
  (50, [0, 1, 2, 3, 4], ([kc228, kc218, kc263], [(1, 3), (0, 800), (0, 800), kA3, (0, 800), kA3, kA3, kA3, kA3, kA3, kA3, (0, 15), (0, 800), kA3, (0, 800), (0, 23)], [], [kR 0, kR 2, kI 0, kI 11, kIc 15], 0), ([], 9)),
  (50, [0, 1, 2, 3, 4], ([kc228, kc218, kc264], [(1, 3), (0, 800), (0, 800), kA3, (0, 800), kA3, kA3, kA3, kA3, kA3, kA3, (0, 14), (0, 800), kA3, (0, 800), (0, 23)], [], [kR 0, kR 2, kI 0, kI 11, kIc 14], 0), ([], 10)),
  (50, [0, 1, 2, 3, 4], ([kc228, kc218, kc265], [(1, 3), (0, 800), (0, 800), kA3, (0, 800), kA3, kA3, kA3, kA3, kA3, kA3, (0, 13), (0, 800), kA3, (0, 800), (0, 23)], [], [kR 0, kR 2, kI 0, kI 11, kIc 13], 0), ([], 11)),
  (50, [0, 1, 2, 3, 4], ([kc228, kc218, kc266], [(1, 3), (0, 800), (0, 800), kA3, (0, 800), kA3, kA3, kA3, kA3, kA3, kA3, (0, 12), (0, 800), kA3, (0, 800), (0, 23)], [], [kR 0, kR 2, kI 0, kI 11, kIc 12], 0), ([], 12)),
  (50, [0, 1, 2, 3, 4], ([kc228, kc218, kc267], [(1, 3), (0, 800), (0, 800), kA3, (0, 800), kA3, kA3, kA3, kA3, kA3, kA3, (0, 11), (0, 800), kA3, (0, 800), (0, 23)], [], [kR 0, kR 2, kI 0, kI 11, kIc 11], 0), ([], 13)),
  (50, [0, 1, 2, 3, 4], ([kc228, kc218, kc268], [(1, 3), (0, 800), (0, 800), kA3, (0, 800), kA3, kA3, kA3, kA3, kA3, kA3, (0, 10), (0, 800), kA3, (0, 800), (0, 23)], [], [kR 0, kR 2, kI 0, kI 11, kIc 10], 0), ([], 14)),
  (50, [0, 1, 2, 3, 4], ([kc228, kc218, kc269], [(1, 3), (0, 800), (0, 800), kA3, (0, 800), kA3, kA3, kA3, kA3, kA3, kA3, (0, 9), (0, 800), kA3, (0, 800), (0, 23)], [], [kR 0, kR 2, kI 0, kI 11, kIc 9], 0), ([], 15)),
  (50, [0, 1, 2, 3, 4], ([kc228, kc218, kc270], [(1, 3), (0, 800), (0, 800), kA3, (0, 800), kA3, kA3, kA3, kA3, kA3, kA3, (0, 8), (0, 800), kA3, (0, 800), (0, 23)], [], [kR 0, kR 2, kI 0, kI 11, kIc 8], 0), ([], 16)),
  (50, [0, 1, 2, 3, 4], ([kc228, kc218, kc271], [(1, 3), (0, 800), (0, 800), kA3, (0, 800), kA3, kA3, kA3, kA3, kA3, kA3, (0, 7), (0, 800), kA3, (0, 800), (0, 23)], [], [kR 0, kR 2, kI 0, kI 11, kIc 7], 0), ([], 17)),
  (50, [0, 1, 2, 3, 4], ([kc228, kc218, kc272], [(1, 3), (0, 800), (0, 800), kA3, (0, 800), kA3, kA3, kA3, kA3, kA3, kA3, (0, 6), (0, 800), kA3, (0, 800), (0, 23)], [], [kR 0, kR 2, kI 0, kI 11, kIc 6], 0), ([], 18)),
  (50, [0, 1, 2, 3, 4], ([kc228, kc218, kc273], [(1, 3), (0, 800), (0, 800), kA3, (0, 800), kA3, kA3, kA3, kA3, kA3, kA3, (0, 5), (0, 800), kA3, (0, 800), (0, 23)], [], [kR 0, kR 2, kI 0, kI 11, kIc 5], 0), ([], 19)),
  (50, [0, 1, 2, 3, 4], ([kc228, kc218, kc274], [(1, 3), (0, 800), (0, 800), kA3, (0, 800), kA3, kA3, kA3, kA3, kA3, kA3, (0, 4), (0, 800), kA3, (0, 800), (0, 23)], [], [kR 0, kR 2, kI 0, kI 11, kIc 4], 0), ([], 20)),
  (50, [0, 1, 2, 3, 4], ([kc228, kc218, kc275], [(1, 3), (0, 800), (0, 800), kA3, (0, 800), kA3, kA3, kA3, kA3, kA3, kA3, (0, 3), (0, 800), kA3, (0, 800), (0, 23)], [], [kR 0, kR 2, kI 0, kI 11, kIc 3], 0), ([], 21)),
  (50, [0, 1, 2, 3, 4], ([kc228, kc218, kc276], [(1, 3), (0, 800), (0, 800), kA3, (0, 800), kA3, kA3, kA3, kA3, kA3, kA3, (0, 2), (0, 800), kA3, (0, 800), (0, 23)], [], [kR 0, kR 2, kI 0, kI 11, kIc 2], 0), ([], 22)),
  (50, [0, 1, 2, 3, 4], ([kc228, kc218, kc277], [(1, 3), (0, 800), (0, 800), kA3, (0, 800), kA3, kA3, kA3, kA3, kA3, kA3, (0, 1), (0, 800), kA3, (0, 800), (0, 23)], [], [kR 0, kR 2, kI 0, kI 11, kIc 1], 0), ([], 23)),
  (50, [0, 1, 2, 3, 4], ([kc225, kc218, kc224], [(1, 3), (0, 800), (0, 800), kA3, (0, 800), kA3, kA3, kA3, kA3, kA3, kA3, (0, 800), kA3, (0, 800), (0, 23)], [], [kR 0, kR 2, kI 0, kIc 0, kIc 0], 0), ([], 24)),
  (50, [0, 1, 2, 3, 4], ([kc252, kc218, kc278], [(1, 3), (0, 800), (0, 800), kA3, (0, 800), kA3, kA3, kA3, kA3, kA3, kA3, (0, 23), (0, 800), kA3, (0, 800)], [], [kR 0, kR 2, kI 0, kI 11, kIc 24], 0), ([], 0))]
def xT_167 : List (Nat × xCt) := [(40, xc_148), (44, xc_150), (44, xc_164)]
theorem xv_167 : xVer0v xT_167 xHt 100000 35 xm_X3_readsHours xc_167 xu_167 [0] = true := by
  rw [← zVer0v_eq]
  decide +kernel
theorem xw_167_0 : ((xu_167.drop 0).take 1).all (xVerCs xT_167 xHt 100000 35 xm_X3_readsHours xc_167 xu_167 [0, 1] [24]) = true := by
  rw [← zVerCs_eq]
  decide +kernel
theorem xw_167_1 : ((xu_167.drop 1).take 1).all (xVerCs xT_167 xHt 100000 35 xm_X3_readsHours xc_167 xu_167 [0, 1] [0]) = true := by
  rw [← zVerCs_eq]
  decide +kernel
theorem xw_167_2 : ((xu_167.drop 2).take 1).all (xVerCs xT_167 xHt 100000 35 xm_X3_readsHours xc_167 xu_167 [0, 1] [1]) = true := by
  rw [← zVerCs_eq]
  decide +kernel
theorem xw_167_3 : ((xu_167.drop 3).take 1).all (xVerCs xT_167 xHt 100000 35 xm_X3_readsHours xc_167 xu_167 [0, 1] [2]) = true := by
  rw [← zVerCs_eq]
  decide +kernel
theorem xw_167_4 : ((xu_167.drop 4).take 1).all (xVerCs xT_167 xHt 100000 35 xm_X3_readsHours xc_167 xu_167 [0, 1] [3]) = true := by
  rw [← zVerCs_eq]
  decide +kernel
theorem xw_167_5 : ((xu_167.drop 5).take 1).all (xVerCs xT_167 xHt 100000 35 xm_X3_readsHours xc_167 xu_167 [0, 1] [4]) = true := by
  rw [← zVerCs_eq]
  decide +kernel
theorem xw_167_6 : ((xu_167.drop 6).take 1).all (xVerCs xT_167 xHt 100000 35 xm_X3_readsHours xc_167 xu_167 [0, 1] [5]) = true := by
  rw [← zVerCs_eq]
  decide +kernel
theorem xw_167_7 : ((xu_167.drop 7).take 1).all (xVerCs xT_167 xHt 100000 35 xm_X3_readsHours xc_167 xu_167 [0, 1] [6]) = true := by
  rw [← zVerCs_eq]
  decide +kernel
theorem xw_167_8 : ((xu_167.drop 8).take 1).all (xVerCs xT_167 xHt 100000 35 xm_X3_readsHours xc_167 xu_167 [0, 1] [7]) = true := by
  rw [← zVerCs_eq]
  decide +kernel
theorem xw_167_9 : ((xu_167.drop 9).take 1).all (xVerCs xT_167 xHt 100000 35 xm_X3_readsHours xc_167 xu_167 [0, 1] [8]) = true := by
  rw [← zVerCs_eq]
  decide +kernel
theorem xw_167_10 : ((xu_167.drop 10).take 1).all (xVerCs xT_167 xHt 100000 35 xm_X3_readsHours xc_167 xu_167 [0, 1] [9]) = true := by
  rw [← zVerCs_eq]
  decide +kernel
theorem xw_167_11 : ((xu_167.drop 11).take 1).all (xVerCs xT_167 xHt 100000 35 xm_X3_readsHours xc_167 xu_167 [0, 1] [10]) = true := by
  rw [← zVerCs_eq]
  decide +kernel
theorem xw_167_12 : ((xu_167.drop 12).take 1).all (xVerCs xT_167 xHt 100000 35 xm_X3_readsHours xc_167 xu_167 [0, 1] [11]) = true := by
  rw [← zVerCs_eq]
  decide +kernel
theorem xw_167_13 : ((xu_167.drop 13).take 1).all (xVerCs xT_167 xHt 100000 35 xm_X3_readsHours xc_167 xu_167 [0, 1] [12]) = true := by
  rw [← zVerCs_eq]
  decide +kernel
theorem xw_167_14 : ((xu_167.drop 14).take 1).all (xVerCs xT_167 xHt 100000 35 xm_X3_readsHours xc_167 xu_167 [0, 1] [13]) = true := by
  rw [← zVerCs_eq]
  decide +kernel
theorem xw_167_15 : ((xu_167.drop 15).take 1).all (xVerCs xT_167 xHt 100000 35 xm_X3_readsHours xc_167 xu_167 [0, 1] [14]) = true := by
  rw [← zVerCs_eq]
  decide +kernel
theorem xw_167_16 : ((xu_167.drop 16).take 1).all (xVerCs xT_167 xHt 100000 35 xm_X3_readsHours xc_167 xu_167 [0, 1] [15]) = true := by
  rw [← zVerCs_eq]
  decide +kernel
theorem xw_167_17 : ((xu_167.drop 17).take 1).all (xVerCs xT_167 xHt 100000 35 xm_X3_readsHours xc_167 xu_167 [0, 1] [16]) = true := by
  rw [← zVerCs_eq]
  decide +kernel
theorem xw_167_18 : ((xu_167.drop 18).take 1).all (xVerCs xT_167 xHt 100000 35 xm_X3_readsHours xc_167 xu_167 [0, 1] [17]) = true := by
  rw [← zVerCs_eq]
  decide +kernel
theorem xw_167_19 : ((xu_167.drop 19).take 1).all (xVerCs xT_167 xHt 100000 35 xm_X3_readsHours xc_167 xu_167 [0, 1] [18]) = true := by
  rw [← zVerCs_eq]
  decide +kernel
theorem xw_167_20 : ((xu_167.drop 20).take 1).all (xVerCs xT_167 xHt 100000 35 xm_X3_readsHours xc_167 xu_167 [0, 1] [19]) = true := by
  rw [← zVerCs_eq]
  decide +kernel
theorem xw_167_21 : ((xu_167.drop 21).take 1).all (xVerCs xT_167 xHt 100000 35 xm_X3_readsHours xc_167 xu_167 [0, 1] [20]) = true := by
  rw [← zVerCs_eq]
  decide +kernel
theorem xw_167_22 : ((xu_167.drop 22).take 1).all (xVerCs xT_167 xHt 100000 35 xm_X3_readsHours xc_167 xu_167 [0, 1] [21]) = true := by
  rw [← zVerCs_eq]
  decide +kernel
theorem xw_167_23 : ((xu_167.drop 23).take 1).all (xVerCs xT_167 xHt 100000 35 xm_X3_readsHours xc_167 xu_167 [] [22]) = true := by
  rw [← zVerCs_eq]
  decide +kernel
theorem xw_167_24 : ((xu_167.drop 24).take 1).all (xVerCs xT_167 xHt 100000 35 xm_X3_readsHours xc_167 xu_167 [0, 1] []) = true := by
  rw [← zVerCs_eq]
  decide +kernel
theorem xok_167 (l : Launch) : xCk l 35 xc_167 := ⟨xm_X3_readsHours, rfl, xVer_ok xk_all (xHt_ok l) (T := xT_167) (xTc (xok_148 l) (xTc (xok_150 l) (xTc (xok_164 l) (xTn l)))) rfl (f := 100000) (cuts := xu_167) (xVer0v_ok xv_167) (xAll0 (xAllS 0 1 (xAllCs xw_167_0) (xAllS 1 1 (xAllCs xw_167_1) (xAllS 2 1 (xAllCs xw_167_2) (xAllS 3 1 (xAllCs xw_167_3) (xAllS 4 1 (xAllCs xw_167_4) (xAllS 5 1 (xAllCs xw_167_5) (xAllS 6 1 (xAllCs xw_167_6) (xAllS 7 1 (xAllCs xw_167_7) (xAllS 8 1 (xAllCs xw_167_8) (xAllS 9 1 (xAllCs xw_167_9) (xAllS 10 1 (xAllCs xw_167_10) (xAllS 11 1 (xAllCs xw_167_11) (xAllS 12 1 (xAllCs xw_167_12) (xAllS 13 1 (xAllCs xw_167_13) (xAllS 14 1 (xAllCs xw_167_14) (xAllS 15 1 (xAllCs xw_167_15) (xAllS 16 1 (xAllCs xw_167_16) (xAllS 17 1 (xAllCs xw_167_17) (xAllS 18 1 (xAllCs xw_167_18) (xAllS 19 1 (xAllCs xw_167_19) (xAllS 20 1 (xAllCs xw_167_20) (xAllS 21 1 (xAllCs xw_167_21) (xAllS 22 1 (xAllCs xw_167_22) (xAllS 23 1 (xAllCs xw_167_23) (xAllS 24 1 (xAllCs xw_167_24) (xAllZ (by decide +kernel))))))))))))))))))))))))))))⟩
def kc279 : xC := kAr 0 24 [(23, kB 0 9), (1, kB 0 6)]
def kc280 : xC := kAr 0 24 [(22, kB 0 9), (2, kB 0 6)]
def kc281 : xC := kAr 0 24 [(21, kB 0 9), (3, kB 0 6)]
def kc282 : xC := kAr 0 24 [(20, kB 0 9), (4, kB 0 6)]
def kc283 : xC := kAr 0 24 [(19, kB 0 9), (5, kB 0 6)]
def kc284 : xC := kAr 0 24 [(18, kB 0 9), (6, kB 0 6)]
def kc285 : xC := kAr 0 24 [(17, kB 0 9), (7, kB 0 6)]
def kc286 : xC := kAr 0 24 [(16, kB 0 9), (8, kB 0 6)]
def kc287 : xC := kAr 0 24 [(15, kB 0 9), (9, kB 0 6)]
def kc288 : xC := kAr 0 24 [(14, kB 0 9), (10, kB 0 6)]
def kc289 : xC := kAr 0 24 [(13, kB 0 9), (11, kB 0 6)]
def kc290 : xC := kAr 0 24 [(12, kB 0 9), (12, kB 0 6)]
def kc291 : xC := kAr 0 24 [(11, kB 0 9), (13, kB 0 6)]
def kc292 : xC := kAr 0 24 [(10, kB 0 9), (14, kB 0 6)]
def kc293 : xC := kAr 0 24 [(9, kB 0 9), (15, kB 0 6)]
def kc294 : xC := kAr 0 24 [(8, kB 0 9), (16, kB 0 6)]
def kc295 : xC := kAr 0 24 [(7, kB 0 9), (17, kB 0 6)]
def kc296 : xC := kAr 0 24 [(6, kB 0 9), (18, kB 0 6)]
def kc297 : xC := kAr 0 24 [(5, kB 0 9), (19, kB 0 6)]
def kc298 : xC := kAr 0 24 [(4, kB 0 9), (20, kB 0 6)]
def kc299 : xC := kAr 0 24 [(3, kB 0 9), (21, kB 0 6)]
def kc300 : xC := kAr 0 24 [(2, kB 0 9), (22, kB 0 6)]
def kc301 : xC := kAr 0 24 [(1, kB 0 9), (23, kB 0 6)]
def kc302 : xC := kAr 0 24 [(23, kB 0 9), (1, kB 1 9)]
def xc_168 : xCt := (([kc226, kc218, kc254], [(1, 3), (0, 800), (0, 800), kA3, (0, 800), kA3, kA3, kA3, kA3, kA3, kA3], [], [kR 0, kR 2, kI 0], 0), [([kc223, kc218, kc22], [(1, 3), (0, 800), (0, 800), kA3, (0, 800), kA3, kA3, kA3, kA3, kA3, kA3, (0, 800), kA3, (0, 800), kA3, kA3, kA3], [], [kIc 0], 0), ([kc225, kc218, kc22], [(1, 3), (0, 800), (0, 800), kA3, (0, 800), kA3, kA3, kA3, kA3, kA3, kA3, (0, 800), kA3, (0, 800), kA3], [], [kIc 1], 0)], 8)
def xu_168 : List xCu := [(50, [0, 1, 2, 3, 4], ([kc228, kc218, kc279], [(1, 3), (0, 800), (0, 800), kA3, (0, 800), kA3, kA3, kA3, kA3, kA3, kA3, (0, 23), (0, 800), kA3, (0, 800), (0, 23)], [], [kR 0, kR 2, kI 0, kI 11, kIc 23], 0), ([], 1)),
  (50, [0, 1, 2, 3, 4], ([kc228, kc218, kc280], [(1, 3), (0, 800), (0, 800), kA3, (0, 800), kA3, kA3, kA3, kA3, kA3, kA3, (0, 22), (0, 800), kA3, (0, 800), (0, 23)], [], [kR 0, kR 2, kI 0, kI 11, kIc 22], 0), ([], 2)),
  (50, [0, 1, 2, 3, 4], ([kc228, kc218, kc281], [(1, 3), (0, 800), (0, 800), kA3, (0, 800), kA3, kA3, kA3, kA3, kA3, kA3, (0, 21), (0, 800), kA3, (0, 800), (0, 23)], [], [kR 0, kR 2, kI 0, kI 11, kIc 21], 0), ([], 3)),
  (50, [0, 1, 2, 3, 4], ([kc228, kc218, kc282], [(1, 3), (0, 800), (0, 800), kA3, (0, 800), kA3, kA3, kA3, kA3, kA3, kA3, (0, 20), (0, 800), kA3, (0, 800), (0, 23)], [], [kR 0, kR 2, kI 0, kI 11, kIc 20], 0), ([], 4)),
  (50, [0, 1, 2, 3, 4], ([kc228, kc218, kc283], [(1, 3), (0, 800), (0, 800), kA3, (0, 800), kA3, kA3, kA3, kA3, kA3, kA3, (0, 19), (0, 800), kA3, (0, 800), (0, 23)], [], [kR 0, kR 2, kI 0, kI 11, kIc 19], 0), ([], 5)),
  (50, [0, 1, 2, 3, 4], ([kc228, kc218, kc284], [(1, 3), (0, 800), (0, 800), kA3, (0, 800), kA3, kA3, kA3, kA3, kA3, kA3, (0, 18), (0, 800), kA3, (0, 800), (0, 23)], [], [kR 0, kR 2, kI 0, kI 11, kIc 18], 0), ([], 6)),
  (50, [0, 1, 2, 3, 4], ([kc228, kc218, kc285], [(1, 3), (0, 800), (0, 800), kA3, (0, 800), kA3, kA3, kA3, kA3, kA3, kA3, (0, 17), (0, 800), kA3, (0, 800), (0, 23)], [], [kR 0, kR 2, kI 0, kI 11, kIc 17], 0), ([], 7)),
  (50, [0, 1, 2, 3, 4], ([kc228, kc218, kc286], [(1, 3), (0, 800), (0, 800), kA3, (0, 800), kA3, kA3, kA3, kA3, kA3, kA3, (0, 16), (0, 800), kA3, (0, 800), (0, 23)], [], [kR 0, kR 2, kI 0, kI 11, kIc 16], 0), ([], 8)),
  (50, [0, 1, 2, 3, 4], ([kc228, kc218, kc287], [(1, 3), (0, 800), (0, 800), kA3, (0, 800), kA3, kA3, kA3, kA3, kA3, kA3, (0, 15), (0, 800), kA3, (0, 800), (0, 23)], [], [kR 0, kR 2, kI 0, kI 11, kIc 15], 0), ([], 9)),
  (50, [0, 1, 2, 3, 4], ([kc228, kc218, kc288], [(1, 3), (0, 800), (0, 800), kA3, (0, 800), kA3, kA3, kA3, kA3, kA3, kA3, (0, 14), (0, 800), kA3, (0, 800), (0, 23)], [], [kR 0, kR 2, kI 0, kI 11, kIc 14], 0), ([], 10)),
  (50, [0, 1, 2, 3, 4], ([kc228, kc218, kc289], [(1, 3), (0, 800), (0, 800), kA3, (0, 800), kA3, kA3, kA3, kA3, kA3, kA3, (0, 13), (0, 800), kA3, (0, 800), (0, 23)], [], [kR 0, kR 2, kI 0, kI 11, kIc 13], 0), ([], 11)),
  (50, [0, 1, 2, 3, 4], ([kc228, kc218, kc290], [(1, 3), (0, 800), (0, 800), kA3, (0, 800), kA3, kA3, kA3, kA3, kA3, kA3, (0, 12), (0, 800), kA3, (0, 800), (0, 23)], [], [kR 0, kR 2, kI 0, kI 11, kIc 12], 0), ([], 12)),
  (50, [0, 1, 2, 3, 4], ([kc228, kc218, kc291], [(1, 3), (0, 800), (0, 800), kA3, (0, 800), kA3, kA3, kA3, kA3, kA3, kA3, (0, 11), (0, 800), kA3, (0, 800), (0, 23)], [], [kR 0, kR 2, kI 0, kI 11, kIc 11], 0), ([], 13)),
  (50, [0, 1, 2, 3, 4], ([kc228, kc218, kc292], [(1, 3), (0, 800), (0, 800), kA3, (0, 800), kA3, kA3, kA3, kA3, kA3, kA3, (0, 10), (0, 800), kA3, (0, 800), (0, 23)], [], [kR 0, kR 2, kI 0, kI 11, kIc 10], 0), ([], 14)),
  (50, [0, 1, 2, 3, 4], ([kc228, kc218, kc293], [(1, 3), (0, 800), (0, 800), kA3, (0, 800), kA3, kA3, kA3, kA3, kA3, kA3, (0, 9), (0, 800), kA3, (0, 800), (0, 23)], [], [kR 0, kR 2, kI 0, kI 11, kIc 9], 0), ([], 15)),
  (50, [0, 1, 2, 3, 4], ([kc228, kc218, kc294], [(1, 3), (0, 800), (0, 800), kA3, (0, 800), kA3, kA3, kA3, kA3, kA3, kA3, (0, 8), (0, 800), kA3, (0, 800), (0, 23)], [], [kR 0, kR 2, kI 0, kI 11, kIc 8], 0), ([], 16)),
  (50, [0, 1, 2, 3, 4], ([kc228, kc218, kc295], [(1, 3), (0, 800), (0, 800), kA3, (0, 800), kA3, kA3, kA3, kA3, kA3, kA3, (0, 7), (0, 800), kA3, (0, 800), (0, 23)], [], [kR 0, kR 2, kI 0, kI 11, kIc 7], 0), ([], 17)),
  (50, [0, 1, 2, 3, 4], ([kc228, kc218, kc296], [(1, 3), (0, 800), (0, 800), kA3, (0, 800), kA3, kA3, kA3, kA3, kA3, kA3, (0, 6), (0, 800), kA3, (0, 800), (0, 23)], [], [kR 0, kR 2, kI 0, kI 11, kIc 6], 0), ([], 18)),
  (50, [0, 1, 2, 3, 4], ([kc228, kc218, kc297], [(1, 3), (0, 800), (0, 800), kA3, (0, 800), kA3, kA3, kA3, kA3, kA3, kA3, (0, 5), (0, 800), kA3, (0, 800), (0, 23)], [], [kR 0, kR 2, kI 0, kI 11, kIc 5], 0), ([], 19)),
  (50, [0, 1, 2, 3, 4], ([kc228, kc218, kc298], [(1, 3), (0, 800), (0, 800), kA3, (0, 800), kA3, kA3, kA3, kA3, kA3, kA3, (0, 4), (0, 800), kA3, (0, 800), (0, 23)], [], [kR 0, kR 2, kI 0, kI 11, kIc 4], 0), ([], 20)),
  (50, [0, 1, 2, 3, 4], ([kc228, kc218, kc299], [(1, 3), (0, 800), (0, 800), kA3, (0, 800), kA3, kA3, kA3, kA3, kA3, kA3, (0, 3), (0, 800), kA3, (0, 800), (0, 23)], [], [kR 0, kR 2, kI 0, kI 11, kIc 3], 0), ([], 21)),
  (50, [0, 1, 2, 3, 4], ([kc228, kc218, kc300], [(1, 3), (0, 800), (0, 800), kA3, (0, 800), kA3, kA3, kA3, kA3, kA3, kA3, (0, 2), (0, 800), kA3, (0, 800), (0, 23)], [], [kR 0, kR 2, kI 0, kI 11, kIc 2], 0), ([], 22)),
  (50, [0, 1, 2, 3, 4], ([kc228, kc218, kc301], [(1, 3), (0, 800), (0, 800), kA3, (0, 800), kA3, kA3, kA3, kA3, kA3, kA3, (0, 1), (0, 800), kA3, (0, 800), (0, 23)], [], [kR 0, kR 2, kI 0, kI 11, kIc 1], 0), ([], 23)),
  (50, [0, 1, 2, 3, 4], ([kc225, kc218, kc254], [(1, 3), (0, 800), (0, 800), kA3, (0, 800), kA3, kA3, kA3, kA3, kA3, kA3, (0, 800), kA3, (0, 800), (0, 23)], [], [kR 0, kR 2, kI 0, kIc 0, kIc 0], 0), ([], 24)),
  (50, [0, 1, 2, 3, 4], ([kc252, kc218, kc302], [(1, 3), (0, 800), (0, 800), kA3, (0, 800), kA3, kA3, kA3, kA3, kA3, kA3, (0, 23), (0, 800), kA3, (0, 800)], [], [kR 0, kR 2, kI 0, kI 11, kIc 24], 0), ([], 0))]
def xT_168 : List (Nat × xCt) := [(40, xc_148), (44, xc_150), (44, xc_164)]
theorem xv_168 : xVer0v xT_168 xHt 100000 35 xm_X3_readsHours xc_168 xu_168 [0] = true := by
  rw [← zVer0v_eq]
  decide +kernel
theorem xw_168_0 : ((xu_168.drop 0).take 1).all (xVerCs xT_168 xHt 100000 35 xm_X3_readsHours xc_168 xu_168 [0, 1] [24]) = true := by
  rw [← zVerCs_eq]
  decide +kernel
theorem xw_168_1 : ((xu_168.drop 1).take 1).all (xVerCs xT_168 xHt 100000 35 xm_X3_readsHours xc_168 xu_168 [0, 1] [0]) = true := by
  rw [← zVerCs_eq]
  decide +kernel
theorem xw_168_2 : ((xu_168.drop 2).take 1).all (xVerCs xT_168 xHt 100000 35 xm_X3_readsHours xc_168 xu_168 [0, 1] [1]) = true := by
  rw [← zVerCs_eq]
  decide +kernel
theorem xw_168_3 : ((xu_168.drop 3).take 1).all (xVerCs xT_168 xHt 100000 35 xm_X3_readsHours xc_168 xu_168 [0, 1] [2]) = true := by
  rw [← zVerCs_eq]
  decide +kernel
theorem xw_168_4 : ((xu_168.drop 4).take 1).all (xVerCs xT_168 xHt 100000 35 xm_X3_readsHours xc_168 xu_168 [0, 1] [3]) = true := by
  rw [← zVerCs_eq]
  decide +kernel
theorem xw_168_5 : ((xu_168.drop 5).take 1).all (xVerCs xT_168 xHt 100000 35 xm_X3_readsHours xc_168 xu_168 [0, 1] [4]) = true := by
  rw [← zVerCs_eq]
  decide +kernel
theorem xw_168_6 : ((xu_168.drop 6).take 1).all (xVerCs xT_168 xHt 100000 35 xm_X3_readsHours xc_168 xu_168 [0, 1] [5]) = true := by
  rw [← zVerCs_eq]
  decide +kernel
theorem xw_168_7 : ((xu_168.drop 7).take 1).all (xVerCs xT_168 xHt 100000 35 xm_X3_readsHours xc_168 xu_168 [0, 1] [6]) = true := by
  rw [← zVerCs_eq]
  decide +kernel
theorem xw_168_8 : ((xu_168.drop 8).take 1).all (xVerCs xT_168 xHt 100000 35 xm_X3_readsHours xc_168 xu_168 [0, 1] [7]) = true := by
  rw [← zVerCs_eq]
  decide +kernel
theorem xw_168_9 : ((xu_168.drop 9).take 1).all (xVerCs xT_168 xHt 100000 35 xm_X3_readsHours xc_168 xu_168 [0, 1] [8]) = true := by
  rw [← zVerCs_eq]
  decide +kernel
theorem xw_168_10 : ((xu_168.drop 10).take 1).all (xVerCs xT_168 xHt 100000 35 xm_X3_readsHours xc_168 xu_168 [0, 1] [9]) = true := by
  rw [← zVerCs_eq]
  decide +kernel
theorem xw_168_11 : ((xu_168.drop 11).take 1).all (xVerCs xT_168 xHt 100000 35 xm_X3_readsHours xc_168 xu_168 [0, 1] [10]) = true := by
  rw [← zVerCs_eq]
  decide +kernel
theorem xw_168_12 : ((xu_168.drop 12).take 1).all (xVerCs xT_168 xHt 100000 35 xm_X3_readsHours xc_168 xu_168 [0, 1] [11]) = true := by
  rw [← zVerCs_eq]
  decide +kernel
theorem xw_168_13 : ((xu_168.drop 13).take 1).all (xVerCs xT_168 xHt 100000 35 xm_X3_readsHours xc_168 xu_168 [0, 1] [12]) = true := by
  rw [← zVerCs_eq]
  decide +kernel
theorem xw_168_14 : ((xu_168.drop 14).take 1).all (xVerCs xT_168 xHt 100000 35 xm_X3_readsHours xc_168 xu_168 [0, 1] [13]) = true := by
  rw [← zVerCs_eq]
  decide +kernel
theorem xw_168_15 : ((xu_168.drop 15).take 1).all (xVerCs xT_168 xHt 100000 35 xm_X3_readsHours xc_168 xu_168 [0, 1] [14]) = true := by
  rw [← zVerCs_eq]
  decide +kernel
theorem xw_168_16 : ((xu_168.drop 16).take 1).all (xVerCs xT_168 xHt 100000 35 xm_X3_readsHours xc_168 xu_168 [0, 1] [15]) = true := by
  rw [← zVerCs_eq]
  decide +kernel
theorem xw_168_17 : ((xu_168.drop 17).take 1).all (xVerCs xT_168 xHt 100000 35 xm_X3_readsHours xc_168 xu_168 [0, 1] [16]) = true := by
  rw [← zVerCs_eq]
  decide +kernel
theorem xw_168_18 : ((xu_168.drop 18).take 1).all (xVerCs xT_168 xHt 100000 35 xm_X3_readsHours xc_168 xu_168 [0, 1] [17]) = true := by
  rw [← zVerCs_eq]
  decide +kernel
theorem xw_168_19 : ((xu_168.drop 19).take 1).all (xVerCs xT_168 xHt 100000 35 xm_X3_readsHours xc_168 xu_168 [0, 1] [18]) = true := by
  rw [← zVerCs_eq]
  decide +kernel
theorem xw_168_20 : ((xu_168.drop 20).take 1).all (xVerCs xT_168 xHt 100000 35 xm_X3_readsHours xc_168 xu_168 [0, 1] [19]) = true := by
  rw [← zVerCs_eq]
  decide +kernel
theorem xw_168_21 : ((xu_168.drop 21).take 1).all (xVerCs xT_168 xHt 100000 35 xm_X3_readsHours xc_168 xu_168 [0, 1] [20]) = true := by
  rw [← zVerCs_eq]
  decide +kernel
theorem xw_168_22 : ((xu_168.drop 22).take 1).all (xVerCs xT_168 xHt 100000 35 xm_X3_readsHours xc_168 xu_168 [0, 1] [21]) = true := by
  rw [← zVerCs_eq]
  decide +kernel
theorem xw_168_23 : ((xu_168.drop 23).take 1).all (xVerCs xT_168 xHt 100000 35 xm_X3_readsHours xc_168 xu_168 [] [22]) = true := by
  rw [← zVerCs_eq]
  decide +kernel
theorem xw_168_24 : ((xu_168.drop 24).take 1).all (xVerCs xT_168 xHt 100000 35 xm_X3_readsHours xc_168 xu_168 [0, 1] []) = true := by
  rw [← zVerCs_eq]
  decide +kernel
theorem xok_168 (l : Launch) : xCk l 35 xc_168 := ⟨xm_X3_readsHours, rfl, xVer_ok xk_all (xHt_ok l) (T := xT_168) (xTc (xok_148 l) (xTc (xok_150 l) (xTc (xok_164 l) (xTn l)))) rfl (f := 100000) (cuts := xu_168) (xVer0v_ok xv_168) (xAll0 (xAllS 0 1 (xAllCs xw_168_0) (xAllS 1 1 (xAllCs xw_168_1) (xAllS 2 1 (xAllCs xw_168_2) (xAllS 3 1 (xAllCs xw_168_3) (xAllS 4 1 (xAllCs xw_168_4) (xAllS 5 1 (xAllCs xw_168_5) (xAllS 6 1 (xAllCs xw_168_6) (xAllS 7 1 (xAllCs xw_168_7) (xAllS 8 1 (xAllCs xw_168_8) (xAllS 9 1 (xAllCs xw_168_9) (xAllS 10 1 (xAllCs xw_168_10) (xAllS 11 1 (xAllCs xw_168_11) (xAllS 12 1 (xAllCs xw_168_12) (xAllS 13 1 (xAllCs xw_168_13) (xAllS 14 1 (xAllCs xw_168_14) (xAllS 15 1 (xAllCs xw_168_15) (xAllS 16 1 (xAllCs xw_168_16) (xAllS 17 1 (xAllCs xw_168_17) (xAllS 18 1 (xAllCs xw_168_18) (xAllS 19 1 (xAllCs xw_168_19) (xAllS 20 1 (xAllCs xw_168_20) (xAllS 21 1 (xAllCs xw_168_21) (xAllS 22 1 (xAllCs xw_168_22) (xAllS 23 1 (xAllCs xw_168_23) (xAllS 24 1 (xAllCs xw_168_24) (xAllZ (by decide +kernel))))))))))))))))))))))))))))⟩
def kc303 : xC := kAr 0 24 [(23, kB 0 9), (1, kB 0 0)]
def kc304 : xC := kAr 0 24 [(22, kB 0 9), (2, kB 0 0)]
def kc305 : xC := kAr 0 24 [(21, kB 0 9), (3, kB 0 0)]
def kc306 : xC := kAr 0 24 [(20, kB 0 9), (4, kB 0 0)]
def kc307 : xC := kAr 0 24 [(19, kB 0 9), (5, kB 0 0)]
def kc308 : xC := kAr 0 24 [(18, kB 0 9), (6, kB 0 0)]
def kc309 : xC := kAr 0 24 [(17, kB 0 9), (7, kB 0 0)]
def kc310 : xC := kAr 0 24 [(16, kB 0 9), (8, kB 0 0)]
def kc311 : xC := kAr 0 24 [(15, kB 0 9), (9, kB 0 0)]
def kc312 : xC := kAr 0 24 [(14, kB 0 9), (10, kB 0 0)]
def kc313 : xC := kAr 0 24 [(13, kB 0 9), (11, kB 0 0)]
def kc314 : xC := kAr 0 24 [(12, kB 0 9), (12, kB 0 0)]
def kc315 : xC := kAr 0 24 [(11, kB 0 9), (13, kB 0 0)]
def kc316 : xC := kAr 0 24 [(10, kB 0 9), (14, kB 0 0)]
def kc317 : xC := kAr 0 24 [(9, kB 0 9), (15, kB 0 0)]
def kc318 : xC := kAr 0 24 [(8, kB 0 9), (16, kB 0 0)]
def kc319 : xC := kAr 0 24 [(7, kB 0 9), (17, kB 0 0)]
def kc320 : xC := kAr 0 24 [(6, kB 0 9), (18, kB 0 0)]
def kc321 : xC := kAr 0 24 [(5, kB 0 9), (19, kB 0 0)]
def kc322 : xC := kAr 0 24 [(4, kB 0 9), (20, kB 0 0)]
def kc323 : xC := kAr 0 24 [(3, kB 0 9), (21, kB 0 0)]
def kc324 : xC := kAr 0 24 [(2, kB 0 9), (22, kB 0 0)]
def kc325 : xC := kAr 0 24 [(1, kB 0 9), (23, kB 0 0)]
def kc326 : xC := kAr 0 24 [(23, kB 0 9), (1, kS 0)]
def xc_169 : xCt := (([kc226, kc218, kc227], [(1, 9), (0, 800), (0, 800), kA3, (0, 800), kA3, kA3, kA3, kA3, kA3, kA3], [], [kR 0, kR 2, kI 0], 0), [([kc223, kc218, kc22], [(1, 9), (0, 800), (0, 800), kA3, (0, 800), kA3, kA3, kA3, kA3, kA3, kA3, (0, 800), kA3, (0, 800), kA3, kA3, kA3], [], [kIc 0], 0), ([kc225, kc218, kc22], [(1, 9), (0, 800), (0, 800), kA3, (0, 800), kA3, kA3, kA3, kA3, kA3, kA3, (0, 800), kA3, (0, 800), kA3], [], [kIc 1], 0)], 8)
def xu_169 : List xCu := [(50, [0, 1, 2, 3, 4], ([kc228, kc218, kc303], [(1, 9), (0, 800), (0, 800), kA3, (0, 800), kA3, kA3, kA3, kA3, kA3, kA3, (0, 23), (0, 800), kA3, (0, 800), (0, 23)], [], [kR 0, kR 2, kI 0, kI 11, kIc 23], 0), ([], 1)),
  (50, [0, 1, 2, 3, 4], ([kc228, kc218, kc304], [(1, 9), (0, 800), (0, 800), kA3, (0, 800), kA3, kA3, kA3, kA3, kA3, kA3, (0, 22), (0, 800), kA3, (0, 800), (0, 23)], [], [kR 0, kR 2, kI 0, kI 11, kIc 22], 0), ([], 2)),
  (50, [0, 1, 2, 3, 4], ([kc228, kc218, kc305], [(1, 9), (0, 800), (0, 800), kA3, (0, 800), kA3, kA3, kA3, kA3, kA3, kA3, (0, 21), (0, 800), kA3, (0, 800), (0, 23)], [], [kR 0, kR 2, kI 0, kI 11, kIc 21], 0), ([], 3)),
  (50, [0, 1, 2, 3, 4], ([kc228, kc218, kc306], [(1, 9), (0, 800), (0, 800), kA3, (0, 800), kA3, kA3, kA3, kA3, kA3, kA3, (0, 20), (0, 800), kA3, (0, 800), (0, 23)], [], [kR 0, kR 2, kI 0, kI 11, kIc 20], 0), ([], 4)),
  (50, [0, 1, 2, 3, 4], ([kc228, kc218, kc307], [(1, 9), (0, 800), (0, 800), kA3, (0, 800), kA3, kA3, kA3, kA3, kA3, kA3, (0, 19), (0, 800), kA3, (0, 800), (0, 23)], [], [kR 0, kR 2, kI 0, kI 11, kIc 19], 0), ([], 5)),
  (50, [0, 1, 2, 3, 4], ([kc228, kc218, kc308], [(1, 9), (0, 800), (0, 800), kA3, (0, 800), kA3, kA3, kA3, kA3, kA3, kA3, (0, 18), (0, 800), kA3, (0, 800), (0, 23)], [], [kR 0, kR 2, kI 0, kI 11, kIc 18], 0), ([], 6)),
  (50, [0, 1, 2, 3, 4], ([kc228, kc218, kc309], [(1, 9), (0, 800), (0, 800), kA3, (0, 800), kA3, kA3, kA3, kA3, kA3, kA3, (0, 17), (0, 800), kA3, (0, 800), (0, 23)], [], [kR 0, kR 2, kI 0, kI 11, kIc 17], 0), ([], 7)),
  (50, [0, 1, 2, 3, 4], ([kc228, kc218, kc310], [(1, 9), (0, 800), (0, 800), kA3, (0, 800), kA3, kA3, kA3, kA3, kA3, kA3, (0, 16), (0, 800), kA3, (0, 800), (0, 23)], [], [kR 0, kR 2, kI 0, kI 11, kIc 16], 0), ([], 8)),
  (50, [0, 1, 2, 3, 4], ([kc228, kc218, kc311], [(1, 9), (0, 800), (0, 800), kA3, (0, 800), kA3, kA3, kA3, kA3, kA3, kA3, (0, 15), (0, 800), kA3, (0, 800), (0, 23)], [], [kR 0, kR 2, kI 0, kI 11, kIc 15], 0), ([], 9)),
  (50, [0, 1, 2, 3, 4], ([kc228, kc218, kc312], [(1, 9), (0, 800), (0, 800), kA3, (0, 800), kA3, kA3, kA3, kA3, kA3, kA3, (0, 14), (0, 800), kA3, (0, 800), (0, 23)], [], [kR 0, kR 2, kI 0, kI 11, kIc 14], 0), ([], 10)),
  (50, [0, 1, 2, 3, 4], ([kc228, kc218, kc313], [(1, 9), (0, 800), (0, 800), kA3, (0, 800), kA3, kA3, kA3, kA3, kA3, kA3, (0, 13), (0, 800), kA3, (0, 800), (0, 23)], [], [kR 0, kR 2, kI 0, kI 11, kIc 13], 0), ([], 11)),
  (50, [0, 1, 2, 3, 4], ([kc228, kc218, kc314], [(1, 9), (0, 800), (0, 800), kA3, (0, 800), kA3, kA3, kA3, kA3, kA3, kA3, (0, 12), (0, 800), kA3, (0, 800), (0, 23)], [], [kR 0, kR 2, kI 0, kI 11, kIc 12], 0), ([], 12)),
  (50, [0, 1, 2, 3, 4], ([kc228, kc218, kc315], [(1, 9), (0, 800), (0, 800), kA3, (0, 800), kA3, kA3, kA3, kA3, kA3, kA3, (0, 11), (0, 800), kA3, (0, 800), (0, 23)], [], [kR 0, kR 2, kI 0, kI 11, kIc 11], 0), ([], 13)),
  (50, [0, 1, 2, 3, 4], ([kc228, kc218, kc316], [(1, 9), (0, 800), (0, 800), kA3, (0, 800), kA3, kA3, kA3, kA3, kA3, kA3, (0, 10), (0, 800), kA3, (0, 800), (0, 23)], [], [kR 0, kR 2, kI 0, kI 11, kIc 10], 0), ([], 14)),
  (50, [0, 1, 2, 3, 4], ([kc228, kc218, kc317], [(1, 9), (0, 800), (0, 800), kA3, (0, 800), kA3, kA3, kA3, kA3, kA3, kA3, (0, 9), (0, 800), kA3, (0, 800), (0, 23)], [], [kR 0, kR 2, kI 0, kI 11, kIc 9], 0), ([], 15)),
  (50, [0, 1, 2, 3, 4], ([kc228, kc218, kc318], [(1, 9), (0, 800), (0, 800), kA3, (0, 800), kA3, kA3, kA3, kA3, kA3, kA3, (0, 8), (0, 800), kA3, (0, 800), (0, 23)], [], [kR 0, kR 2, kI 0, kI 11, kIc 8], 0), ([], 16)),
  (50, [0, 1, 2, 3, 4], ([kc228, kc218, kc319], [(1, 9), (0, 800), (0, 800), kA3, (0, 800), kA3, kA3, kA3, kA3, kA3, kA3, (0, 7), (0, 800), kA3, (0, 800), (0, 23)], [], [kR 0, kR 2, kI 0, kI 11, kIc 7], 0), ([], 17)),
  (50, [0, 1, 2, 3, 4], ([kc228, kc218, kc320], [(1, 9), (0, 800), (0, 800), kA3, (0, 800), kA3, kA3, kA3, kA3, kA3, kA3, (0, 6), (0, 800), kA3, (0, 800), (0, 23)], [], [kR 0, kR 2, kI 0, kI 11, kIc 6], 0), ([], 18)),
  (50, [0, 1, 2, 3, 4], ([kc228, kc218, kc321], [(1, 9), (0, 800), (0, 800), kA3, (0, 800), kA3, kA3, kA3, kA3, kA3, kA3, (0, 5), (0, 800), kA3, (0, 800), (0, 23)], [], [kR 0, kR 2, kI 0, kI 11, kIc 5], 0), ([], 19)),
  (50, [0, 1, 2, 3, 4], ([kc228, kc218, kc322], [(1, 9), (0, 800), (0, 800), kA3, (0, 800), kA3, kA3, kA3, kA3, kA3, kA3, (0, 4), (0, 800), kA3, (0, 800), (0, 23)], [], [kR 0, kR 2, kI 0, kI 11, kIc 4], 0), ([], 20)),
  (50, [0, 1, 2, 3, 4], ([kc228, kc218, kc323], [(1, 9), (0, 800), (0, 800), kA3, (0, 800), kA3, kA3, kA3, kA3, kA3, kA3, (0, 3), (0, 800), kA3, (0, 800), (0, 23)], [], [kR 0, kR 2, kI 0, kI 11, kIc 3], 0), ([], 21)),
  (50, [0, 1, 2, 3, 4], ([kc228, kc218, kc324], [(1, 9), (0, 800), (0, 800), kA3, (0, 800), kA3, kA3, kA3, kA3, kA3, kA3, (0, 2), (0, 800), kA3, (0, 800), (0, 23)], [], [kR 0, kR 2, kI 0, kI 11, kIc 2], 0), ([], 22)),
  (50, [0, 1, 2, 3, 4], ([kc228, kc218, kc325], [(1, 9), (0, 800), (0, 800), kA3, (0, 800), kA3, kA3, kA3, kA3, kA3, kA3, (0, 1), (0, 800), kA3, (0, 800), (0, 23)], [], [kR 0, kR 2, kI 0, kI 11, kIc 1], 0), ([], 23)),
  (50, [0, 1, 2, 3, 4], ([kc225, kc218, kc227], [(1, 9), (0, 800), (0, 800), kA3, (0, 800), kA3, kA3, kA3, kA3, kA3, kA3, (0, 800), kA3, (0, 800), (0, 23)], [], [kR 0, kR 2, kI 0, kIc 0, kIc 0], 0), ([], 24)),
  (50, [0, 1, 2, 3, 4], ([kc252, kc218, kc326], [(1, 9), (0, 800), (0, 800), kA3, (0, 800), kA3, kA3, kA3, kA3, kA3, kA3, (0, 23), (0, 800), kA3, (0, 800)], [], [kR 0, kR 2, kI 0, kI 11, kIc 24], 0), ([], 0))]
def xT_169 : List (Nat × xCt) := [(40, xc_148), (44, xc_150), (44, xc_164)]
theorem xv_169 : xVer0v xT_169 xHt 100000 35 xm_X3_readsHours xc_169 xu_169 [0] = true := by
  rw [← zVer0v_eq]
  decide +kernel
theorem xw_169_0 : ((xu_169.drop 0).take 1).all (xVerCs xT_169 xHt 100000 35 xm_X3_readsHours xc_169 xu_169 [0, 1] [24]) = true := by
  rw [← zVerCs_eq]
  decide +kernel
theorem xw_169_1 : ((xu_169.drop 1).take 1).all (xVerCs xT_169 xHt 100000 35 xm_X3_readsHours xc_169 xu_169 [0, 1] [0]) = true := by
  rw [← zVerCs_eq]
  decide +kernel
theorem xw_169_2 : ((xu_169.drop 2).take 1).all (xVerCs xT_169 xHt 100000 35 xm_X3_readsHours xc_169 xu_169 [0, 1] [1]) = true := by
  rw [← zVerCs_eq]
  decide +kernel
theorem xw_169_3 : ((xu_169.drop 3).take 1).all (xVerCs xT_169 xHt 100000 35 xm_X3_readsHours xc_169 xu_169 [0, 1] [2]) = true := by
  rw [← zVerCs_eq]
  decide +kernel
theorem xw_169_4 : ((xu_169.drop 4).take 1).all (xVerCs xT_169 xHt 100000 35 xm_X3_readsHours xc_169 xu_169 [0, 1] [3]) = true := by
  rw [← zVerCs_eq]
  decide +kernel
theorem xw_169_5 : ((xu_169.drop 5).take 1).all (xVerCs xT_169 xHt 100000 35 xm_X3_readsHours xc_169 xu_169 [0, 1] [4]) = true := by
  rw [← zVerCs_eq]
  decide +kernel
theorem xw_169_6 : ((xu_169.drop 6).take 1).all (xVerCs xT_169 xHt 100000 35 xm_X3_readsHours xc_169 xu_169 [0, 1] [5]) = true := by
  rw [← zVerCs_eq]
  decide +kernel
theorem xw_169_7 : ((xu_169.drop 7).take 1).all (xVerCs xT_169 xHt 100000 35 xm_X3_readsHours xc_169 xu_169 [0, 1] [6]) = true := by
  rw [← zVerCs_eq]
  decide +kernel
theorem xw_169_8 : ((xu_169.drop 8).take 1).all (xVerCs xT_169 xHt 100000 35 xm_X3_readsHours xc_169 xu_169 [0, 1] [7]) = true := by
  rw [← zVerCs_eq]
  decide +kernel
theorem xw_169_9 : ((xu_169.drop 9).take 1).all (xVerCs xT_169 xHt 100000 35 xm_X3_readsHours xc_169 xu_169 [0, 1] [8]) = true := by
  rw [← zVerCs_eq]
  decide +kernel
theorem xw_169_10 : ((xu_169.drop 10).take 1).all (xVerCs xT_169 xHt 100000 35 xm_X3_readsHours xc_169 xu_169 [0, 1] [9]) = true := by
  rw [← zVerCs_eq]
  decide +kernel
theorem xw_169_11 : ((xu_169.drop 11).take 1).all (xVerCs xT_169 xHt 100000 35 xm_X3_readsHours xc_169 xu_169 [0, 1] [10]) = true := by
  rw [← zVerCs_eq]
  decide +kernel
theorem xw_169_12 : ((xu_169.drop 12).take 1).all (xVerCs xT_169 xHt 100000 35 xm_X3_readsHours xc_169 xu_169 [0, 1] [11]) = true := by
  rw [← zVerCs_eq]
  decide +kernel
theorem xw_169_13 : ((xu_169.drop 13).take 1).all (xVerCs xT_169 xHt 100000 35 xm_X3_readsHours xc_169 xu_169 [0, 1] [12]) = true := by
  rw [← zVerCs_eq]
  decide +kernel
theorem xw_169_14 : ((xu_169.drop 14).take 1).all (xVerCs xT_169 xHt 100000 35 xm_X3_readsHours xc_169 xu_169 [0, 1] [13]) = true := by
  rw [← zVerCs_eq]
  decide +kernel
theorem xw_169_15 : ((xu_169.drop 15).take 1).all (xVerCs xT_169 xHt 100000 35 xm_X3_readsHours xc_169 xu_169 [0, 1] [14]) = true := by
  rw [← zVerCs_eq]
  decide +kernel
theorem xw_169_16 : ((xu_169.drop 16).take 1).all (xVerCs xT_169 xHt 100000 35 xm_X3_readsHours xc_169 xu_169 [0, 1] [15]) = true := by
  rw [← zVerCs_eq]
  decide +kernel
theorem xw_169_17 : ((xu_169.drop 17).take 1).all (xVerCs xT_169 xHt 100000 35 xm_X3_readsHours xc_169 xu_169 [0, 1] [16]) = true := by
  rw [← zVerCs_eq]
  decide +kernel
theorem xw_169_18 : ((xu_169.drop 18).take 1).all (xVerCs xT_169 xHt 100000 35 xm_X3_readsHours xc_169 xu_169 [0, 1] [17]) = true := by
  rw [← zVerCs_eq]
  decide +kernel
theorem xw_169_19 : ((xu_169.drop 19).take 1).all (xVerCs xT_169 xHt 100000 35 xm_X3_readsHours xc_169 xu_169 [0, 1] [18]) = true := by
  rw [← zVerCs_eq]
  decide +kernel
theorem xw_169_20 : ((xu_169.drop 20).take 1).all (xVerCs xT_169 xHt 100000 35 xm_X3_readsHours xc_169 xu_169 [0, 1] [19]) = true := by
  rw [← zVerCs_eq]
  decide +kernel
theorem xw_169_21 : ((xu_169.drop 21).take 1).all (xVerCs xT_169 xHt 100000 35 xm_X3_readsHours xc_169 xu_169 [0, 1] [20]) = true := by
  rw [← zVerCs_eq]
  decide +kernel
theorem xw_169_22 : ((xu_169.drop 22).take 1).all (xVerCs xT_169 xHt 100000 35 xm_X3_readsHours xc_169 xu_169 [0, 1] [21]) = true := by
  rw [← zVerCs_eq]
  decide +kernel
theorem xw_169_23 : ((xu_169.drop 23).take 1).all (xVerCs xT_169 xHt 100000 35 xm_X3_readsHours xc_169 xu_169 [] [22]) = true := by
  rw [← zVerCs_eq]
  decide +kernel
theorem xw_169_24 : ((xu_169.drop 24).take 1).all (xVerCs xT_169 xHt 100000 35 xm_X3_readsHours xc_169 xu_169 [0, 1] []) = true := by
  rw [← zVerCs_eq]
  decide +kernel
theorem xok_169 (l : Launch) : xCk l 35 xc_169 := ⟨xm_X3_readsHours, rfl, xVer_ok xk_all (xHt_ok l) (T := xT_169) (xTc (xok_148 l) (xTc (xok_150 l) (xTc (xok_164 l) (xTn l)))) rfl (f := 100000) (cuts := xu_169) (xVer0v_ok xv_169) (xAll0 (xAllS 0 1 (xAllCs xw_169_0) (xAllS 1 1 (xAllCs xw_169_1) (xAllS 2 1 (xAllCs xw_169_2) (xAllS 3 1 (xAllCs xw_169_3) (xAllS 4 1 (xAllCs xw_169_4) (xAllS 5 1 (xAllCs xw_169_5) (xAllS 6 1 (xAllCs xw_169_6) (xAllS 7 1 (xAllCs xw_169_7) (xAllS 8 1 (xAllCs xw_169_8) (xAllS 9 1 (xAllCs xw_169_9) (xAllS 10 1 (xAllCs xw_169_10) (xAllS 11 1 (xAllCs xw_169_11) (xAllS 12 1 (xAllCs xw_169_12) (xAllS 13 1 (xAllCs xw_169_13) (xAllS 14 1 (xAllCs xw_169_14) (xAllS 15 1 (xAllCs xw_169_15) (xAllS 16 1 (xAllCs xw_169_16) (xAllS 17 1 (xAllCs xw_169_17) (xAllS 18 1 (xAllCs xw_169_18) (xAllS 19 1 (xAllCs xw_169_19) (xAllS 20 1 (xAllCs xw_169_20) (xAllS 21 1 (xAllCs xw_169_21) (xAllS 22 1 (xAllCs xw_169_22) (xAllS 23 1 (xAllCs xw_169_23) (xAllS 24 1 (xAllCs xw_169_24) (xAllZ (by decide +kernel))))))))))))))))))))))))))))⟩
