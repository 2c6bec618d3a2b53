/-! Contracts, printed by a program: part 8. -/
def kc219 : xC := kAr 0 24 [(24, kB 0 6)]
def kc220 : xC := kAr 0 24 [(23, kB 0 6), (1, kB 0 3)]
def kc221 : xC := kAr 0 24 [(22, kB 0 6), (2, kB 0 3)]
def kc222 : xC := kAr 0 24 [(21, kB 0 6), (3, kB 0 3)]
def kc223 : xC := kAr 0 24 [(20, kB 0 6), (4, kB 0 3)]
def kc224 : xC := kAr 0 24 [(19, kB 0 6), (5, kB 0 3)]
def kc225 : xC := kAr 0 24 [(18, kB 0 6), (6, kB 0 3)]
def kc226 : xC := kAr 0 24 [(17, kB 0 6), (7, kB 0 3)]
def kc227 : xC := kAr 0 24 [(16, kB 0 6), (8, kB 0 3)]
def kc228 : xC := kAr 0 24 [(15, kB 0 6), (9, kB 0 3)]
def kc229 : xC := kAr 0 24 [(14, kB 0 6), (10, kB 0 3)]
def kc230 : xC := kAr 0 24 [(13, kB 0 6), (11, kB 0 3)]
def kc231 : xC := kAr 0 24 [(12, kB 0 6), (12, kB 0 3)]
def kc232 : xC := kAr 0 24 [(11, kB 0 6), (13, kB 0 3)]
def kc233 : xC := kAr 0 24 [(10, kB 0 6), (14, kB 0 3)]
def kc234 : xC := kAr 0 24 [(9, kB 0 6), (15, kB 0 3)]
def kc235 : xC := kAr 0 24 [(8, kB 0 6), (16, kB 0 3)]
def kc236 : xC := kAr 0 24 [(7, kB 0 6), (17, kB 0 3)]
def kc237 : xC := kAr 0 24 [(6, kB 0 6), (18, kB 0 3)]
def kc238 : xC := kAr 0 24 [(5, kB 0 6), (19, kB 0 3)]
def kc239 : xC := kAr 0 24 [(4, kB 0 6), (20, kB 0 3)]
def kc240 : xC := kAr 0 24 [(3, kB 0 6), (21, kB 0 3)]
def kc241 : xC := kAr 0 24 [(2, kB 0 6), (22, kB 0 3)]
def kc242 : xC := kAr 0 24 [(1, kB 0 6), (23, kB 0 3)]
def kc243 : xC := kAr 0 24 [(23, kB 0 6), (1, kB 1 6)]
def xc_167 : xCt := (([kc186, kc185, kc191], [(0, 800), (0, 800), kA3, (0, 800), kA3, kA3, kA3, kA3, kA3, kA3, (1, 3)], [], [kR 0, kR 2, kI 10], 0), [([kc190, kc185, kc219], [(0, 800), (0, 800), kA3, (0, 800), kA3, kA3, kA3, kA3, kA3, kA3, (1, 3), (0, 800), kA3, (0, 800), kA3, kA3, kA3], [], [kIc 0], 0), ([kc192, kc185, kc219], [(0, 800), (0, 800), kA3, (0, 800), kA3, kA3, kA3, kA3, kA3, kA3, (1, 3), (0, 800), kA3, (0, 800), kA3], [], [kIc 1], 0)], 8)
def xu_167 : List xCu := [(50, [0, 1, 2, 3, 4], ([kc192, kc185, kc220], [(0, 800), (0, 800), kA3, (0, 800), kA3, kA3, kA3, kA3, kA3, kA3, (1, 3), (0, 800), kA3, (0, 800), (0, 23), (0, 23)], [], [kR 0, kR 2, kI 10, kI 15, kIc 23], 0), ([], 1)),
  (50, [0, 1, 2, 3, 4], ([kc192, kc185, kc221], [(0, 800), (0, 800), kA3, (0, 800), kA3, kA3, kA3, kA3, kA3, kA3, (1, 3), (0, 800), kA3, (0, 800), (0, 23), (0, 22)], [], [kR 0, kR 2, kI 10, kI 15, kIc 22], 0), ([], 2)),
  (50, [0, 1, 2, 3, 4], ([kc192, kc185, kc222], [(0, 800), (0, 800), kA3, (0, 800), kA3, kA3, kA3, kA3, kA3, kA3, (1, 3), (0, 800), kA3, (0, 800), (0, 23), (0, 21)], [], [kR 0, kR 2, kI 10, kI 15, kIc 21], 0), ([], 3)),
  (50, [0, 1, 2, 3, 4], ([kc192, kc185, kc223], [(0, 800), (0, 800), kA3, (0, 800), kA3, kA3, kA3, kA3, kA3, kA3, (1, 3), (0, 800), kA3, (0, 800), (0, 23), (0, 20)], [], [kR 0, kR 2, kI 10, kI 15, kIc 20], 0), ([], 4)),
  (50, [0, 1, 2, 3, 4], ([kc192, kc185, kc224], [(0, 800), (0, 800), kA3, (0, 800), kA3, kA3, kA3, kA3, kA3, kA3, (1, 3), (0, 800), kA3, (0, 800), (0, 23), (0, 19)], [], [kR 0, kR 2, kI 10, kI 15, kIc 19], 0), ([], 5)),
  (50, [0, 1, 2, 3, 4], ([kc192, kc185, kc225], [(0, 800), (0, 800), kA3, (0, 800), kA3, kA3, kA3, kA3, kA3, kA3, (1, 3), (0, 800), kA3, (0, 800), (0, 23), (0, 18)], [], [kR 0, kR 2, kI 10, kI 15, kIc 18], 0), ([], 6)),
  (50, [0, 1, 2, 3, 4], ([kc192, kc185, kc226], [(0, 800), (0, 800), kA3, (0, 800), kA3, kA3, kA3, kA3, kA3, kA3, (1, 3), (0, 800), kA3, (0, 800), (0, 23), (0, 17)], [], [kR 0, kR 2, kI 10, kI 15, kIc 17], 0), ([], 7)),
  (50, [0, 1, 2, 3, 4], ([kc192, kc185, kc227], [(0, 800), (0, 800), kA3, (0, 800), kA3, kA3, kA3, kA3, kA3, kA3, (1, 3), (0, 800), kA3, (0, 800), (0, 23), (0, 16)], [], [kR 0, kR 2, kI 10, kI 15, kIc 16], 0), ([], 8)),
  (50, [0, 1, 2, 3, 4], ([kc192, kc185, kc228], [(0, 800), (0, 800), kA3, (0, 800), kA3, kA3, kA3, kA3, kA3, kA3, (1, 3), (0, 800), kA3, (0, 800), (0, 23), (0, 15)], [], [kR 0, kR 2, kI 10, kI 15, kIc 15], 0), ([], 9)),
  (50, [0, 1, 2, 3, 4], ([kc192, kc185, kc229], [(0, 800), (0, 800), kA3, (0, 800), kA3, kA3, kA3, kA3, kA3, kA3, (1, 3), (0, 800), kA3, (0, 800), (0, 23), (0, 14)], [], [kR 0, kR 2, kI 10, kI 15, kIc 14], 0), ([], 10)),
  (50, [0, 1, 2, 3, 4], ([kc192, kc185, kc230], [(0, 800), (0, 800), kA3, (0, 800), kA3, kA3, kA3, kA3, kA3, kA3, (1, 3), (0, 800), kA3, (0, 800), (0, 23), (0, 13)], [], [kR 0, kR 2, kI 10, kI 15, kIc 13], 0), ([], 11)),
  (50, [0, 1, 2, 3, 4], ([kc192, kc185, kc231], [(0, 800), (0, 800), kA3, (0, 800), kA3, kA3, kA3, kA3, kA3, kA3, (1, 3), (0, 800), kA3, (0, 800), (0, 23), (0, 12)], [], [kR 0, kR 2, kI 10, kI 15, kIc 12], 0), ([], 12)),
  (50, [0, 1, 2, 3, 4], ([kc192, kc185, kc232], [(0, 800), (0, 800), kA3, (0, 800), kA3, kA3, kA3, kA3, kA3, kA3, (1, 3), (0, 800), kA3, (0, 800), (0, 23), (0, 11)], [], [kR 0, kR 2, kI 10, kI 15, kIc 11], 0), ([], 13)),
  (50, [0, 1, 2, 3, 4], ([kc192, kc185, kc233], [(0, 800), (0, 800), kA3, (0, 800), kA3, kA3, kA3, kA3, kA3, kA3, (1, 3), (0, 800), kA3, (0, 800), (0, 23), (0, 10)], [], [kR 0, kR 2, kI 10, kI 15, kIc 10], 0), ([], 14)),
  (50, [0, 1, 2, 3, 4], ([kc192, kc185, kc234], [(0, 800), (0, 800), kA3, (0, 800), kA3, kA3, kA3, kA3, kA3, kA3, (1, 3), (0, 800), kA3, (0, 800), (0, 23), (0, 9)], [], [kR 0, kR 2, kI 10, kI 15, kIc 9], 0), ([], 15)),
  (50, [0, 1, 2, 3, 4], ([kc192, kc185, kc235], [(0, 800), (0, 800), kA3, (0, 800), kA3, kA3, kA3, kA3, kA3, kA3, (1, 3), (0, 800), kA3, (0, 800), (0, 23), (0, 8)], [], [kR 0, kR 2, kI 10, kI 15, kIc 8], 0), ([], 16)),
  (50, [0, 1, 2, 3, 4], ([kc192, kc185, kc236], [(0, 800), (0, 800), kA3, (0, 800), kA3, kA3, kA3, kA3, kA3, kA3, (1, 3), (0, 800), kA3, (0, 800), (0, 23), (0, 7)], [], [kR 0, kR 2, kI 10, kI 15, kIc 7], 0), ([], 17)),
  (50, [0, 1, 2, 3, 4], ([kc192, kc185, kc237], [(0, 800), (0, 800), kA3, (0, 800), kA3, kA3, kA3, kA3, kA3, kA3, (1, 3), (0, 800), kA3, (0, 800), (0, 23), (0, 6)], [], [kR 0, kR 2, kI 10, kI 15, kIc 6], 0), ([], 18)),
  (50, [0, 1, 2, 3, 4], ([kc192, kc185, kc238], [(0, 800), (0, 800), kA3, (0, 800), kA3, kA3, kA3, kA3, kA3, kA3, (1, 3), (0, 800), kA3, (0, 800), (0, 23), (0, 5)], [], [kR 0, kR 2, kI 10, kI 15, kIc 5], 0), ([], 19)),
  (50, [0, 1, 2, 3, 4], ([kc192, kc185, kc239], [(0, 800), (0, 800), kA3, (0, 800), kA3, kA3, kA3, kA3, kA3, kA3, (1, 3), (0, 800), kA3, (0, 800), (0, 23), (0, 4)], [], [kR 0, kR 2, kI 10, kI 15, kIc 4], 0), ([], 20)),
  (50, [0, 1, 2, 3, 4], ([kc192, kc185, kc240], [(0, 800), (0, 800), kA3, (0, 800), kA3, kA3, kA3, kA3, kA3, kA3, (1, 3), (0, 800), kA3, (0, 800), (0, 23), (0, 3)], [], [kR 0, kR 2, kI 10, kI 15, kIc 3], 0), ([], 21)),
  (50, [0, 1, 2, 3, 4], ([kc192, kc185, kc241], [(0, 800), (0, 800), kA3, (0, 800), kA3, kA3, kA3, kA3, kA3, kA3, (1, 3), (0, 800), kA3, (0, 800), (0, 23), (0, 2)], [], [kR 0, kR 2, kI 10, kI 15, kIc 2], 0), ([], 22)),
  (50, [0, 1, 2, 3, 4], ([kc192, kc185, kc242], [(0, 800), (0, 800), kA3, (0, 800), kA3, kA3, kA3, kA3, kA3, kA3, (1, 3), (0, 800), kA3, (0, 800), (0, 23), (0, 1)], [], [kR 0, kR 2, kI 10, kI 15, kIc 1], 0), ([], 23)),
  (50, [0, 1, 2, 3, 4], ([kc192, kc185, kc191], [(0, 800), (0, 800), kA3, (0, 800), kA3, kA3, kA3, kA3, kA3, kA3, (1, 3), (0, 800), kA3, (0, 800), (0, 23)], [], [kR 0, kR 2, kI 10, kIc 0, kIc 0], 0), ([], 24)),
  (50, [0, 1, 2, 3, 4], ([kc217, kc185, kc243], [(0, 800), (0, 800), kA3, (0, 800), kA3, kA3, kA3, kA3, kA3, kA3, (1, 3), (0, 800), kA3, (0, 800), (0, 23)], [], [kR 0, kR 2, kI 10, kI 14, kIc 24], 0), ([], 0))]
def xT_167 : List (Nat × xCt) := [(40, xc_148), (44, xc_150), (44, xc_164)]
theorem xv_167 : xVer0v xT_167 xHt 100000 35 xm_X3_readsHours xc_167 xu_167 [0] = true := by decide +kernel
theorem xw_167_0 : ((xu_167.drop 0).take 1).all (xVerCs xT_167 xHt 100000 35 xm_X3_readsHours xc_167 xu_167 [0, 1] [24]) = true := by decide +kernel
theorem xw_167_1 : ((xu_167.drop 1).take 1).all (xVerCs xT_167 xHt 100000 35 xm_X3_readsHours xc_167 xu_167 [0, 1] [0]) = true := by decide +kernel
theorem xw_167_2 : ((xu_167.drop 2).take 1).all (xVerCs xT_167 xHt 100000 35 xm_X3_readsHours xc_167 xu_167 [0, 1] [1]) = true := by decide +kernel
theorem xw_167_3 : ((xu_167.drop 3).take 1).all (xVerCs xT_167 xHt 100000 35 xm_X3_readsHours xc_167 xu_167 [0, 1] [2]) = true := by decide +kernel
theorem xw_167_4 : ((xu_167.drop 4).take 1).all (xVerCs xT_167 xHt 100000 35 xm_X3_readsHours xc_167 xu_167 [0, 1] [3]) = true := by decide +kernel
theorem xw_167_5 : ((xu_167.drop 5).take 1).all (xVerCs xT_167 xHt 100000 35 xm_X3_readsHours xc_167 xu_167 [0, 1] [4]) = true := by decide +kernel
theorem xw_167_6 : ((xu_167.drop 6).take 1).all (xVerCs xT_167 xHt 100000 35 xm_X3_readsHours xc_167 xu_167 [0, 1] [5]) = true := by decide +kernel
theorem xw_167_7 : ((xu_167.drop 7).take 1).all (xVerCs xT_167 xHt 100000 35 xm_X3_readsHours xc_167 xu_167 [0, 1] [6]) = true := by decide +kernel
theorem xw_167_8 : ((xu_167.drop 8).take 1).all (xVerCs xT_167 xHt 100000 35 xm_X3_readsHours xc_167 xu_167 [0, 1] [7]) = true := by decide +kernel
theorem xw_167_9 : ((xu_167.drop 9).take 1).all (xVerCs xT_167 xHt 100000 35 xm_X3_readsHours xc_167 xu_167 [0, 1] [8]) = true := by decide +kernel
theorem xw_167_10 : ((xu_167.drop 10).take 1).all (xVerCs xT_167 xHt 100000 35 xm_X3_readsHours xc_167 xu_167 [0, 1] [9]) = true := by decide +kernel
theorem xw_167_11 : ((xu_167.drop 11).take 1).all (xVerCs xT_167 xHt 100000 35 xm_X3_readsHours xc_167 xu_167 [0, 1] [10]) = true := by decide +kernel
theorem xw_167_12 : ((xu_167.drop 12).take 1).all (xVerCs xT_167 xHt 100000 35 xm_X3_readsHours xc_167 xu_167 [0, 1] [11]) = true := by decide +kernel
theorem xw_167_13 : ((xu_167.drop 13).take 1).all (xVerCs xT_167 xHt 100000 35 xm_X3_readsHours xc_167 xu_167 [0, 1] [12]) = true := by decide +kernel
theorem xw_167_14 : ((xu_167.drop 14).take 1).all (xVerCs xT_167 xHt 100000 35 xm_X3_readsHours xc_167 xu_167 [0, 1] [13]) = true := by decide +kernel
theorem xw_167_15 : ((xu_167.drop 15).take 1).all (xVerCs xT_167 xHt 100000 35 xm_X3_readsHours xc_167 xu_167 [0, 1] [14]) = true := by decide +kernel
theorem xw_167_16 : ((xu_167.drop 16).take 1).all (xVerCs xT_167 xHt 100000 35 xm_X3_readsHours xc_167 xu_167 [0, 1] [15]) = true := by decide +kernel
theorem xw_167_17 : ((xu_167.drop 17).take 1).all (xVerCs xT_167 xHt 100000 35 xm_X3_readsHours xc_167 xu_167 [0, 1] [16]) = true := by decide +kernel
theorem xw_167_18 : ((xu_167.drop 18).take 1).all (xVerCs xT_167 xHt 100000 35 xm_X3_readsHours xc_167 xu_167 [0, 1] [17]) = true := by decide +kernel
theorem xw_167_19 : ((xu_167.drop 19).take 1).all (xVerCs xT_167 xHt 100000 35 xm_X3_readsHours xc_167 xu_167 [0, 1] [18]) = true := by decide +kernel
theorem xw_167_20 : ((xu_167.drop 20).take 1).all (xVerCs xT_167 xHt 100000 35 xm_X3_readsHours xc_167 xu_167 [0, 1] [19]) = true := by decide +kernel
theorem xw_167_21 : ((xu_167.drop 21).take 1).all (xVerCs xT_167 xHt 100000 35 xm_X3_readsHours xc_167 xu_167 [0, 1] [20]) = true := by decide +kernel
theorem xw_167_22 : ((xu_167.drop 22).take 1).all (xVerCs xT_167 xHt 100000 35 xm_X3_readsHours xc_167 xu_167 [0, 1] [21]) = true := by decide +kernel
theorem xw_167_23 : ((xu_167.drop 23).take 1).all (xVerCs xT_167 xHt 100000 35 xm_X3_readsHours xc_167 xu_167 [] [22]) = true := by decide +kernel
theorem xw_167_24 : ((xu_167.drop 24).take 1).all (xVerCs xT_167 xHt 100000 35 xm_X3_readsHours xc_167 xu_167 [0, 1] []) = true := by decide +kernel
theorem xok_167 (l : Launch) : xCk l 35 xc_167 := ⟨xm_X3_readsHours, rfl, xVer_ok xk_all (xHt_ok l) (T := xT_167) (xTc (xok_148 l) (xTc (xok_150 l) (xTc (xok_164 l) (xTn l)))) rfl (f := 100000) (cuts := xu_167) (xVer0v_ok xv_167) (xAll0 (xAllS 0 1 (xAllCs xw_167_0) (xAllS 1 1 (xAllCs xw_167_1) (xAllS 2 1 (xAllCs xw_167_2) (xAllS 3 1 (xAllCs xw_167_3) (xAllS 4 1 (xAllCs xw_167_4) (xAllS 5 1 (xAllCs xw_167_5) (xAllS 6 1 (xAllCs xw_167_6) (xAllS 7 1 (xAllCs xw_167_7) (xAllS 8 1 (xAllCs xw_167_8) (xAllS 9 1 (xAllCs xw_167_9) (xAllS 10 1 (xAllCs xw_167_10) (xAllS 11 1 (xAllCs xw_167_11) (xAllS 12 1 (xAllCs xw_167_12) (xAllS 13 1 (xAllCs xw_167_13) (xAllS 14 1 (xAllCs xw_167_14) (xAllS 15 1 (xAllCs xw_167_15) (xAllS 16 1 (xAllCs xw_167_16) (xAllS 17 1 (xAllCs xw_167_17) (xAllS 18 1 (xAllCs xw_167_18) (xAllS 19 1 (xAllCs xw_167_19) (xAllS 20 1 (xAllCs xw_167_20) (xAllS 21 1 (xAllCs xw_167_21) (xAllS 22 1 (xAllCs xw_167_22) (xAllS 23 1 (xAllCs xw_167_23) (xAllS 24 1 (xAllCs xw_167_24) (xAllZ (by decide +kernel))))))))))))))))))))))))))))⟩
def kc244 : xC := kAr 0 24 [(23, kB 0 9), (1, kB 0 6)]
def kc245 : xC := kAr 0 24 [(22, kB 0 9), (2, kB 0 6)]
def kc246 : xC := kAr 0 24 [(21, kB 0 9), (3, kB 0 6)]
def kc247 : xC := kAr 0 24 [(20, kB 0 9), (4, kB 0 6)]
def kc248 : xC := kAr 0 24 [(19, kB 0 9), (5, kB 0 6)]
def kc249 : xC := kAr 0 24 [(18, kB 0 9), (6, kB 0 6)]
def kc250 : xC := kAr 0 24 [(17, kB 0 9), (7, kB 0 6)]
def kc251 : xC := kAr 0 24 [(16, kB 0 9), (8, kB 0 6)]
def kc252 : xC := kAr 0 24 [(15, kB 0 9), (9, kB 0 6)]
def kc253 : xC := kAr 0 24 [(14, kB 0 9), (10, kB 0 6)]
def kc254 : xC := kAr 0 24 [(13, kB 0 9), (11, kB 0 6)]
def kc255 : xC := kAr 0 24 [(12, kB 0 9), (12, kB 0 6)]
def kc256 : xC := kAr 0 24 [(11, kB 0 9), (13, kB 0 6)]
def kc257 : xC := kAr 0 24 [(10, kB 0 9), (14, kB 0 6)]
def kc258 : xC := kAr 0 24 [(9, kB 0 9), (15, kB 0 6)]
def kc259 : xC := kAr 0 24 [(8, kB 0 9), (16, kB 0 6)]
def kc260 : xC := kAr 0 24 [(7, kB 0 9), (17, kB 0 6)]
def kc261 : xC := kAr 0 24 [(6, kB 0 9), (18, kB 0 6)]
def kc262 : xC := kAr 0 24 [(5, kB 0 9), (19, kB 0 6)]
def kc263 : xC := kAr 0 24 [(4, kB 0 9), (20, kB 0 6)]
def kc264 : xC := kAr 0 24 [(3, kB 0 9), (21, kB 0 6)]
def kc265 : xC := kAr 0 24 [(2, kB 0 9), (22, kB 0 6)]
def kc266 : xC := kAr 0 24 [(1, kB 0 9), (23, kB 0 6)]
def kc267 : xC := kAr 0 24 [(23, kB 0 9), (1, kB 1 9)]
def xc_168 : xCt := (([kc186, kc185, kc219], [(0, 800), (0, 800), kA3, (0, 800), kA3, kA3, kA3, kA3, kA3, kA3, (1, 3)], [], [kR 0, kR 2, kI 10], 0), [([kc190, kc185, kc19], [(0, 800), (0, 800), kA3, (0, 800), kA3, kA3, kA3, kA3, kA3, kA3, (1, 3), (0, 800), kA3, (0, 800), kA3, kA3, kA3], [], [kIc 0], 0), ([kc192, kc185, kc19], [(0, 800), (0, 800), kA3, (0, 800), kA3, kA3, kA3, kA3, kA3, kA3, (1, 3), (0, 800), kA3, (0, 800), kA3], [], [kIc 1], 0)], 8)
def xu_168 : List xCu := [(50, [0, 1, 2, 3, 4], ([kc192, kc185, kc244], [(0, 800), (0, 800), kA3, (0, 800), kA3, kA3, kA3, kA3, kA3, kA3, (1, 3), (0, 800), kA3, (0, 800), (0, 23), (0, 23)], [], [kR 0, kR 2, kI 10, kI 15, kIc 23], 0), ([], 1)),
  (50, [0, 1, 2, 3, 4], ([kc192, kc185, kc245], [(0, 800), (0, 800), kA3, (0, 800), kA3, kA3, kA3, kA3, kA3, kA3, (1, 3), (0, 800), kA3, (0, 800), (0, 23), (0, 22)], [], [kR 0, kR 2, kI 10, kI 15, kIc 22], 0), ([], 2)),
  (50, [0, 1, 2, 3, 4], ([kc192, kc185, kc246], [(0, 800), (0, 800), kA3, (0, 800), kA3, kA3, kA3, kA3, kA3, kA3, (1, 3), (0, 800), kA3, (0, 800), (0, 23), (0, 21)], [], [kR 0, kR 2, kI 10, kI 15, kIc 21], 0), ([], 3)),
  (50, [0, 1, 2, 3, 4], ([kc192, kc185, kc247], [(0, 800), (0, 800), kA3, (0, 800), kA3, kA3, kA3, kA3, kA3, kA3, (1, 3), (0, 800), kA3, (0, 800), (0, 23), (0, 20)], [], [kR 0, kR 2, kI 10, kI 15, kIc 20], 0), ([], 4)),
  (50, [0, 1, 2, 3, 4], ([kc192, kc185, kc248], [(0, 800), (0, 800), kA3, (0, 800), kA3, kA3, kA3, kA3, kA3, kA3, (1, 3), (0, 800), kA3, (0, 800), (0, 23), (0, 19)], [], [kR 0, kR 2, kI 10, kI 15, kIc 19], 0), ([], 5)),
  (50, [0, 1, 2, 3, 4], ([kc192, kc185, kc249], [(0, 800), (0, 800), kA3, (0, 800), kA3, kA3, kA3, kA3, kA3, kA3, (1, 3), (0, 800), kA3, (0, 800), (0, 23), (0, 18)], [], [kR 0, kR 2, kI 10, kI 15, kIc 18], 0), ([], 6)),
  (50, [0, 1, 2, 3, 4], ([kc192, kc185, kc250], [(0, 800), (0, 800), kA3, (0, 800), kA3, kA3, kA3, kA3, kA3, kA3, (1, 3), (0, 800), kA3, (0, 800), (0, 23), (0, 17)], [], [kR 0, kR 2, kI 10, kI 15, kIc 17], 0), ([], 7)),
  (50, [0, 1, 2, 3, 4], ([kc192, kc185, kc251], [(0, 800), (0, 800), kA3, (0, 800), kA3, kA3, kA3, kA3, kA3, kA3, (1, 3), (0, 800), kA3, (0, 800), (0, 23), (0, 16)], [], [kR 0, kR 2, kI 10, kI 15, kIc 16], 0), ([], 8)),
  (50, [0, 1, 2, 3, 4], ([kc192, kc185, kc252], [(0, 800), (0, 800), kA3, (0, 800), kA3, kA3, kA3, kA3, kA3, kA3, (1, 3), (0, 800), kA3, (0, 800), (0, 23), (0, 15)], [], [kR 0, kR 2, kI 10, kI 15, kIc 15], 0), ([], 9)),
  (50, [0, 1, 2, 3, 4], ([kc192, kc185, kc253], [(0, 800), (0, 800), kA3, (0, 800), kA3, kA3, kA3, kA3, kA3, kA3, (1, 3), (0, 800), kA3, (0, 800), (0, 23), (0, 14)], [], [kR 0, kR 2, kI 10, kI 15, kIc 14], 0), ([], 10)),
  (50, [0, 1, 2, 3, 4], ([kc192, kc185, kc254], [(0, 800), (0, 800), kA3, (0, 800), kA3, kA3, kA3, kA3, kA3, kA3, (1, 3), (0, 800), kA3, (0, 800), (0, 23), (0, 13)], [], [kR 0, kR 2, kI 10, kI 15, kIc 13], 0), ([], 11)),
  (50, [0, 1, 2, 3, 4], ([kc192, kc185, kc255], [(0, 800), (0, 800), kA3, (0, 800), kA3, kA3, kA3, kA3, kA3, kA3, (1, 3), (0, 800), kA3, (0, 800), (0, 23), (0, 12)], [], [kR 0, kR 2, kI 10, kI 15, kIc 12], 0), ([], 12)),
  (50, [0, 1, 2, 3, 4], ([kc192, kc185, kc256], [(0, 800), (0, 800), kA3, (0, 800), kA3, kA3, kA3, kA3, kA3, kA3, (1, 3), (0, 800), kA3, (0, 800), (0, 23), (0, 11)], [], [kR 0, kR 2, kI 10, kI 15, kIc 11], 0), ([], 13)),
  (50, [0, 1, 2, 3, 4], ([kc192, kc185, kc257], [(0, 800), (0, 800), kA3, (0, 800), kA3, kA3, kA3, kA3, kA3, kA3, (1, 3), (0, 800), kA3, (0, 800), (0, 23), (0, 10)], [], [kR 0, kR 2, kI 10, kI 15, kIc 10], 0), ([], 14)),
  (50, [0, 1, 2, 3, 4], ([kc192, kc185, kc258], [(0, 800), (0, 800), kA3, (0, 800), kA3, kA3, kA3, kA3, kA3, kA3, (1, 3), (0, 800), kA3, (0, 800), (0, 23), (0, 9)], [], [kR 0, kR 2, kI 10, kI 15, kIc 9], 0), ([], 15)),
  (50, [0, 1, 2, 3, 4], ([kc192, kc185, kc259], [(0, 800), (0, 800), kA3, (0, 800), kA3, kA3, kA3, kA3, kA3, kA3, (1, 3), (0, 800), kA3, (0, 800), (0, 23), (0, 8)], [], [kR 0, kR 2, kI 10, kI 15, kIc 8], 0), ([], 16)),
  (50, [0, 1, 2, 3, 4], ([kc192, kc185, kc260], [(0, 800), (0, 800), kA3, (0, 800), kA3, kA3, kA3, kA3, kA3, kA3, (1, 3), (0, 800), kA3, (0, 800), (0, 23), (0, 7)], [], [kR 0, kR 2, kI 10, kI 15, kIc 7], 0), ([], 17)),
  (50, [0, 1, 2, 3, 4], ([kc192, kc185, kc261], [(0, 800), (0, 800), kA3, (0, 800), kA3, kA3, kA3, kA3, kA3, kA3, (1, 3), (0, 800), kA3, (0, 800), (0, 23), (0, 6)], [], [kR 0, kR 2, kI 10, kI 15, kIc 6], 0), ([], 18)),
  (50, [0, 1, 2, 3, 4], ([kc192, kc185, kc262], [(0, 800), (0, 800), kA3, (0, 800), kA3, kA3, kA3, kA3, kA3, kA3, (1, 3), (0, 800), kA3, (0, 800), (0, 23), (0, 5)], [], [kR 0, kR 2, kI 10, kI 15, kIc 5], 0), ([], 19)),
  (50, [0, 1, 2, 3, 4], ([kc192, kc185, kc263], [(0, 800), (0, 800), kA3, (0, 800), kA3, kA3, kA3, kA3, kA3, kA3, (1, 3), (0, 800), kA3, (0, 800), (0, 23), (0, 4)], [], [kR 0, kR 2, kI 10, kI 15, kIc 4], 0), ([], 20)),
  (50, [0, 1, 2, 3, 4], ([kc192, kc185, kc264], [(0, 800), (0, 800), kA3, (0, 800), kA3, kA3, kA3, kA3, kA3, kA3, (1, 3), (0, 800), kA3, (0, 800), (0, 23), (0, 3)], [], [kR 0, kR 2, kI 10, kI 15, kIc 3], 0), ([], 21)),
  (50, [0, 1, 2, 3, 4], ([kc192, kc185, kc265], [(0, 800), (0, 800), kA3, (0, 800), kA3, kA3, kA3, kA3, kA3, kA3, (1, 3), (0, 800), kA3, (0, 800), (0, 23), (0, 2)], [], [kR 0, kR 2, kI 10, kI 15, kIc 2], 0), ([], 22)),
  (50, [0, 1, 2, 3, 4], ([kc192, kc185, kc266], [(0, 800), (0, 800), kA3, (0, 800), kA3, kA3, kA3, kA3, kA3, kA3, (1, 3), (0, 800), kA3, (0, 800), (0, 23), (0, 1)], [], [kR 0, kR 2, kI 10, kI 15, kIc 1], 0), ([], 23)),
  (50, [0, 1, 2, 3, 4], ([kc192, kc185, kc219], [(0, 800), (0, 800), kA3, (0, 800), kA3, kA3, kA3, kA3, kA3, kA3, (1, 3), (0, 800), kA3, (0, 800), (0, 23)], [], [kR 0, kR 2, kI 10, kIc 0, kIc 0], 0), ([], 24)),
  (50, [0, 1, 2, 3, 4], ([kc217, kc185, kc267], [(0, 800), (0, 800), kA3, (0, 800), kA3, kA3, kA3, kA3, kA3, kA3, (1, 3), (0, 800), kA3, (0, 800), (0, 23)], [], [kR 0, kR 2, kI 10, kI 14, kIc 24], 0), ([], 0))]
def xT_168 : List (Nat × xCt) := [(40, xc_148), (44, xc_150), (44, xc_164)]
theorem xv_168 : xVer0v xT_168 xHt 100000 35 xm_X3_readsHours xc_168 xu_168 [0] = true := by decide +kernel
theorem xw_168_0 : ((xu_168.drop 0).take 1).all (xVerCs xT_168 xHt 100000 35 xm_X3_readsHours xc_168 xu_168 [0, 1] [24]) = true := by decide +kernel
theorem xw_168_1 : ((xu_168.drop 1).take 1).all (xVerCs xT_168 xHt 100000 35 xm_X3_readsHours xc_168 xu_168 [0, 1] [0]) = true := by decide +kernel
theorem xw_168_2 : ((xu_168.drop 2).take 1).all (xVerCs xT_168 xHt 100000 35 xm_X3_readsHours xc_168 xu_168 [0, 1] [1]) = true := by decide +kernel
theorem xw_168_3 : ((xu_168.drop 3).take 1).all (xVerCs xT_168 xHt 100000 35 xm_X3_readsHours xc_168 xu_168 [0, 1] [2]) = true := by decide +kernel
theorem xw_168_4 : ((xu_168.drop 4).take 1).all (xVerCs xT_168 xHt 100000 35 xm_X3_readsHours xc_168 xu_168 [0, 1] [3]) = true := by decide +kernel
theorem xw_168_5 : ((xu_168.drop 5).take 1).all (xVerCs xT_168 xHt 100000 35 xm_X3_readsHours xc_168 xu_168 [0, 1] [4]) = true := by decide +kernel
theorem xw_168_6 : ((xu_168.drop 6).take 1).all (xVerCs xT_168 xHt 100000 35 xm_X3_readsHours xc_168 xu_168 [0, 1] [5]) = true := by decide +kernel
theorem xw_168_7 : ((xu_168.drop 7).take 1).all (xVerCs xT_168 xHt 100000 35 xm_X3_readsHours xc_168 xu_168 [0, 1] [6]) = true := by decide +kernel
theorem xw_168_8 : ((xu_168.drop 8).take 1).all (xVerCs xT_168 xHt 100000 35 xm_X3_readsHours xc_168 xu_168 [0, 1] [7]) = true := by decide +kernel
theorem xw_168_9 : ((xu_168.drop 9).take 1).all (xVerCs xT_168 xHt 100000 35 xm_X3_readsHours xc_168 xu_168 [0, 1] [8]) = true := by decide +kernel
theorem xw_168_10 : ((xu_168.drop 10).take 1).all (xVerCs xT_168 xHt 100000 35 xm_X3_readsHours xc_168 xu_168 [0, 1] [9]) = true := by decide +kernel
theorem xw_168_11 : ((xu_168.drop 11).take 1).all (xVerCs xT_168 xHt 100000 35 xm_X3_readsHours xc_168 xu_168 [0, 1] [10]) = true := by decide +kernel
theorem xw_168_12 : ((xu_168.drop 12).take 1).all (xVerCs xT_168 xHt 100000 35 xm_X3_readsHours xc_168 xu_168 [0, 1] [11]) = true := by decide +kernel
theorem xw_168_13 : ((xu_168.drop 13).take 1).all (xVerCs xT_168 xHt 100000 35 xm_X3_readsHours xc_168 xu_168 [0, 1] [12]) = true := by decide +kernel
theorem xw_168_14 : ((xu_168.drop 14).take 1).all (xVerCs xT_168 xHt 100000 35 xm_X3_readsHours xc_168 xu_168 [0, 1] [13]) = true := by decide +kernel
theorem xw_168_15 : ((xu_168.drop 15).take 1).all (xVerCs xT_168 xHt 100000 35 xm_X3_readsHours xc_168 xu_168 [0, 1] [14]) = true := by decide +kernel
theorem xw_168_16 : ((xu_168.drop 16).take 1).all (xVerCs xT_168 xHt 100000 35 xm_X3_readsHours xc_168 xu_168 [0, 1] [15]) = true := by decide +kernel
theorem xw_168_17 : ((xu_168.drop 17).take 1).all (xVerCs xT_168 xHt 100000 35 xm_X3_readsHours xc_168 xu_168 [0, 1] [16]) = true := by decide +kernel
theorem xw_168_18 : ((xu_168.drop 18).take 1).all (xVerCs xT_168 xHt 100000 35 xm_X3_readsHours xc_168 xu_168 [0, 1] [17]) = true := by decide +kernel
theorem xw_168_19 : ((xu_168.drop 19).take 1).all (xVerCs xT_168 xHt 100000 35 xm_X3_readsHours xc_168 xu_168 [0, 1] [18]) = true := by decide +kernel
theorem xw_168_20 : ((xu_168.drop 20).take 1).all (xVerCs xT_168 xHt 100000 35 xm_X3_readsHours xc_168 xu_168 [0, 1] [19]) = true := by decide +kernel
theorem xw_168_21 : ((xu_168.drop 21).take 1).all (xVerCs xT_168 xHt 100000 35 xm_X3_readsHours xc_168 xu_168 [0, 1] [20]) = true := by decide +kernel
theorem xw_168_22 : ((xu_168.drop 22).take 1).all (xVerCs xT_168 xHt 100000 35 xm_X3_readsHours xc_168 xu_168 [0, 1] [21]) = true := by decide +kernel
theorem xw_168_23 : ((xu_168.drop 23).take 1).all (xVerCs xT_168 xHt 100000 35 xm_X3_readsHours xc_168 xu_168 [] [22]) = true := by decide +kernel
theorem xw_168_24 : ((xu_168.drop 24).take 1).all (xVerCs xT_168 xHt 100000 35 xm_X3_readsHours xc_168 xu_168 [0, 1] []) = true := by decide +kernel
theorem xok_168 (l : Launch) : xCk l 35 xc_168 := ⟨xm_X3_readsHours, rfl, xVer_ok xk_all (xHt_ok l) (T := xT_168) (xTc (xok_148 l) (xTc (xok_150 l) (xTc (xok_164 l) (xTn l)))) rfl (f := 100000) (cuts := xu_168) (xVer0v_ok xv_168) (xAll0 (xAllS 0 1 (xAllCs xw_168_0) (xAllS 1 1 (xAllCs xw_168_1) (xAllS 2 1 (xAllCs xw_168_2) (xAllS 3 1 (xAllCs xw_168_3) (xAllS 4 1 (xAllCs xw_168_4) (xAllS 5 1 (xAllCs xw_168_5) (xAllS 6 1 (xAllCs xw_168_6) (xAllS 7 1 (xAllCs xw_168_7) (xAllS 8 1 (xAllCs xw_168_8) (xAllS 9 1 (xAllCs xw_168_9) (xAllS 10 1 (xAllCs xw_168_10) (xAllS 11 1 (xAllCs xw_168_11) (xAllS 12 1 (xAllCs xw_168_12) (xAllS 13 1 (xAllCs xw_168_13) (xAllS 14 1 (xAllCs xw_168_14) (xAllS 15 1 (xAllCs xw_168_15) (xAllS 16 1 (xAllCs xw_168_16) (xAllS 17 1 (xAllCs xw_168_17) (xAllS 18 1 (xAllCs xw_168_18) (xAllS 19 1 (xAllCs xw_168_19) (xAllS 20 1 (xAllCs xw_168_20) (xAllS 21 1 (xAllCs xw_168_21) (xAllS 22 1 (xAllCs xw_168_22) (xAllS 23 1 (xAllCs xw_168_23) (xAllS 24 1 (xAllCs xw_168_24) (xAllZ (by decide +kernel))))))))))))))))))))))))))))⟩
def kc268 : xC := kAr 0 24 [(23, kB 0 9), (1, kB 0 0)]
def kc269 : xC := kAr 0 24 [(22, kB 0 9), (2, kB 0 0)]
def kc270 : xC := kAr 0 24 [(21, kB 0 9), (3, kB 0 0)]
def kc271 : xC := kAr 0 24 [(20, kB 0 9), (4, kB 0 0)]
def kc272 : xC := kAr 0 24 [(19, kB 0 9), (5, kB 0 0)]
def kc273 : xC := kAr 0 24 [(18, kB 0 9), (6, kB 0 0)]
def kc274 : xC := kAr 0 24 [(17, kB 0 9), (7, kB 0 0)]
def kc275 : xC := kAr 0 24 [(16, kB 0 9), (8, kB 0 0)]
def kc276 : xC := kAr 0 24 [(15, kB 0 9), (9, kB 0 0)]
def kc277 : xC := kAr 0 24 [(14, kB 0 9), (10, kB 0 0)]
def kc278 : xC := kAr 0 24 [(13, kB 0 9), (11, kB 0 0)]
def kc279 : xC := kAr 0 24 [(12, kB 0 9), (12, kB 0 0)]
def kc280 : xC := kAr 0 24 [(11, kB 0 9), (13, kB 0 0)]
def kc281 : xC := kAr 0 24 [(10, kB 0 9), (14, kB 0 0)]
def kc282 : xC := kAr 0 24 [(9, kB 0 9), (15, kB 0 0)]
def kc283 : xC := kAr 0 24 [(8, kB 0 9), (16, kB 0 0)]
def kc284 : xC := kAr 0 24 [(7, kB 0 9), (17, kB 0 0)]
def kc285 : xC := kAr 0 24 [(6, kB 0 9), (18, kB 0 0)]
def kc286 : xC := kAr 0 24 [(5, kB 0 9), (19, kB 0 0)]
def kc287 : xC := kAr 0 24 [(4, kB 0 9), (20, kB 0 0)]
def kc288 : xC := kAr 0 24 [(3, kB 0 9), (21, kB 0 0)]
def kc289 : xC := kAr 0 24 [(2, kB 0 9), (22, kB 0 0)]
def kc290 : xC := kAr 0 24 [(1, kB 0 9), (23, kB 0 0)]
def kc291 : xC := kAr 0 24 [(23, kB 0 9), (1, kS 10)]
def xc_169 : xCt := (([kc186, kc185, kc193], [(0, 800), (0, 800), kA3, (0, 800), kA3, kA3, kA3, kA3, kA3, kA3, (1, 9)], [], [kR 0, kR 2, kI 10], 0), [([kc190, kc185, kc19], [(0, 800), (0, 800), kA3, (0, 800), kA3, kA3, kA3, kA3, kA3, kA3, (1, 9), (0, 800), kA3, (0, 800), kA3, kA3, kA3], [], [kIc 0], 0), ([kc192, kc185, kc19], [(0, 800), (0, 800), kA3, (0, 800), kA3, kA3, kA3, kA3, kA3, kA3, (1, 9), (0, 800), kA3, (0, 800), kA3], [], [kIc 1], 0)], 8)
def xu_169 : List xCu := [(50, [0, 1, 2, 3, 4], ([kc192, kc185, kc268], [(0, 800), (0, 800), kA3, (0, 800), kA3, kA3, kA3, kA3, kA3, kA3, (1, 9), (0, 800), kA3, (0, 800), (0, 23), (0, 23)], [], [kR 0, kR 2, kI 10, kI 15, kIc 23], 0), ([], 1)),
  (50, [0, 1, 2, 3, 4], ([kc192, kc185, kc269], [(0, 800), (0, 800), kA3, (0, 800), kA3, kA3, kA3, kA3, kA3, kA3, (1, 9), (0, 800), kA3, (0, 800), (0, 23), (0, 22)], [], [kR 0, kR 2, kI 10, kI 15, kIc 22], 0), ([], 2)),
  (50, [0, 1, 2, 3, 4], ([kc192, kc185, kc270], [(0, 800), (0, 800), kA3, (0, 800), kA3, kA3, kA3, kA3, kA3, kA3, (1, 9), (0, 800), kA3, (0, 800), (0, 23), (0, 21)], [], [kR 0, kR 2, kI 10, kI 15, kIc 21], 0), ([], 3)),
  (50, [0, 1, 2, 3, 4], ([kc192, kc185, kc271], [(0, 800), (0, 800), kA3, (0, 800), kA3, kA3, kA3, kA3, kA3, kA3, (1, 9), (0, 800), kA3, (0, 800), (0, 23), (0, 20)], [], [kR 0, kR 2, kI 10, kI 15, kIc 20], 0), ([], 4)),
  (50, [0, 1, 2, 3, 4], ([kc192, kc185, kc272], [(0, 800), (0, 800), kA3, (0, 800), kA3, kA3, kA3, kA3, kA3, kA3, (1, 9), (0, 800), kA3, (0, 800), (0, 23), (0, 19)], [], [kR 0, kR 2, kI 10, kI 15, kIc 19], 0), ([], 5)),
  (50, [0, 1, 2, 3, 4], ([kc192, kc185, kc273], [(0, 800), (0, 800), kA3, (0, 800), kA3, kA3, kA3, kA3, kA3, kA3, (1, 9), (0, 800), kA3, (0, 800), (0, 23), (0, 18)], [], [kR 0, kR 2, kI 10, kI 15, kIc 18], 0), ([], 6)),
  (50, [0, 1, 2, 3, 4], ([kc192, kc185, kc274], [(0, 800), (0, 800), kA3, (0, 800), kA3, kA3, kA3, kA3, kA3, kA3, (1, 9), (0, 800), kA3, (0, 800), (0, 23), (0, 17)], [], [kR 0, kR 2, kI 10, kI 15, kIc 17], 0), ([], 7)),
  (50, [0, 1, 2, 3, 4], ([kc192, kc185, kc275], [(0, 800), (0, 800), kA3, (0, 800), kA3, kA3, kA3, kA3, kA3, kA3, (1, 9), (0, 800), kA3, (0, 800), (0, 23), (0, 16)], [], [kR 0, kR 2, kI 10, kI 15, kIc 16], 0), ([], 8)),
  (50, [0, 1, 2, 3, 4], ([kc192, kc185, kc276], [(0, 800), (0, 800), kA3, (0, 800), kA3, kA3, kA3, kA3, kA3, kA3, (1, 9), (0, 800), kA3, (0, 800), (0, 23), (0, 15)], [], [kR 0, kR 2, kI 10, kI 15, kIc 15], 0), ([], 9)),
  (50, [0, 1, 2, 3, 4], ([kc192, kc185, kc277], [(0, 800), (0, 800), kA3, (0, 800), kA3, kA3, kA3, kA3, kA3, kA3, (1, 9), (0, 800), kA3, (0, 800), (0, 23), (0, 14)], [], [kR 0, kR 2, kI 10, kI 15, kIc 14], 0), ([], 10)),
  (50, [0, 1, 2, 3, 4], ([kc192, kc185, kc278], [(0, 800), (0, 800), kA3, (0, 800), kA3, kA3, kA3, kA3, kA3, kA3, (1, 9), (0, 800), kA3, (0, 800), (0, 23), (0, 13)], [], [kR 0, kR 2, kI 10, kI 15, kIc 13], 0), ([], 11)),
  (50, [0, 1, 2, 3, 4], ([kc192, kc185, kc279], [(0, 800), (0, 800), kA3, (0, 800), kA3, kA3, kA3, kA3, kA3, kA3, (1, 9), (0, 800), kA3, (0, 800), (0, 23), (0, 12)], [], [kR 0, kR 2, kI 10, kI 15, kIc 12], 0), ([], 12)),
  (50, [0, 1, 2, 3, 4], ([kc192, kc185, kc280], [(0, 800), (0, 800), kA3, (0, 800), kA3, kA3, kA3, kA3, kA3, kA3, (1, 9), (0, 800), kA3, (0, 800), (0, 23), (0, 11)], [], [kR 0, kR 2, kI 10, kI 15, kIc 11], 0), ([], 13)),
  (50, [0, 1, 2, 3, 4], ([kc192, kc185, kc281], [(0, 800), (0, 800), kA3, (0, 800), kA3, kA3, kA3, kA3, kA3, kA3, (1, 9), (0, 800), kA3, (0, 800), (0, 23), (0, 10)], [], [kR 0, kR 2, kI 10, kI 15, kIc 10], 0), ([], 14)),
  (50, [0, 1, 2, 3, 4], ([kc192, kc185, kc282], [(0, 800), (0, 800), kA3, (0, 800), kA3, kA3, kA3, kA3, kA3, kA3, (1, 9), (0, 800), kA3, (0, 800), (0, 23), (0, 9)], [], [kR 0, kR 2, kI 10, kI 15, kIc 9], 0), ([], 15)),
  (50, [0, 1, 2, 3, 4], ([kc192, kc185, kc283], [(0, 800), (0, 800), kA3, (0, 800), kA3, kA3, kA3, kA3, kA3, kA3, (1, 9), (0, 800), kA3, (0, 800), (0, 23), (0, 8)], [], [kR 0, kR 2, kI 10, kI 15, kIc 8], 0), ([], 16)),
  (50, [0, 1, 2, 3, 4], ([kc192, kc185, kc284], [(0, 800), (0, 800), kA3, (0, 800), kA3, kA3, kA3, kA3, kA3, kA3, (1, 9), (0, 800), kA3, (0, 800), (0, 23), (0, 7)], [], [kR 0, kR 2, kI 10, kI 15, kIc 7], 0), ([], 17)),
  (50, [0, 1, 2, 3, 4], ([kc192, kc185, kc285], [(0, 800), (0, 800), kA3, (0, 800), kA3, kA3, kA3, kA3, kA3, kA3, (1, 9), (0, 800), kA3, (0, 800), (0, 23), (0, 6)], [], [kR 0, kR 2, kI 10, kI 15, kIc 6], 0), ([], 18)),
  (50, [0, 1, 2, 3, 4], ([kc192, kc185, kc286], [(0, 800), (0, 800), kA3, (0, 800), kA3, kA3, kA3, kA3, kA3, kA3, (1, 9), (0, 800), kA3, (0, 800), (0, 23), (0, 5)], [], [kR 0, kR 2, kI 10, kI 15, kIc 5], 0), ([], 19)),
  (50, [0, 1, 2, 3, 4], ([kc192, kc185, kc287], [(0, 800), (0, 800), kA3, (0, 800), kA3, kA3, kA3, kA3, kA3, kA3, (1, 9), (0, 800), kA3, (0, 800), (0, 23), (0, 4)], [], [kR 0, kR 2, kI 10, kI 15, kIc 4], 0), ([], 20)),
  (50, [0, 1, 2, 3, 4], ([kc192, kc185, kc288], [(0, 800), (0, 800), kA3, (0, 800), kA3, kA3, kA3, kA3, kA3, kA3, (1, 9), (0, 800), kA3, (0, 800), (0, 23), (0, 3)], [], [kR 0, kR 2, kI 10, kI 15, kIc 3], 0), ([], 21)),
  (50, [0, 1, 2, 3, 4], ([kc192, kc185, kc289], [(0, 800), (0, 800), kA3, (0, 800), kA3, kA3, kA3, kA3, kA3, kA3, (1, 9), (0, 800), kA3, (0, 800), (0, 23), (0, 2)], [], [kR 0, kR 2, kI 10, kI 15, kIc 2], 0), ([], 22)),
  (50, [0, 1, 2, 3, 4], ([kc192, kc185, kc290], [(0, 800), (0, 800), kA3, (0, 800), kA3, kA3, kA3, kA3, kA3, kA3, (1, 9), (0, 800), kA3, (0, 800), (0, 23), (0, 1)], [], [kR 0, kR 2, kI 10, kI 15, kIc 1], 0), ([], 23)),
  (50, [0, 1, 2, 3, 4], ([kc192, kc185, kc193], [(0, 800), (0, 800), kA3, (0, 800), kA3, kA3, kA3, kA3, kA3, kA3, (1, 9), (0, 800), kA3, (0, 800), (0, 23)], [], [kR 0, kR 2, kI 10, kIc 0, kIc 0], 0), ([], 24)),
  (50, [0, 1, 2, 3, 4], ([kc217, kc185, kc291], [(0, 800), (0, 800), kA3, (0, 800), kA3, kA3, kA3, kA3, kA3, kA3, (1, 9), (0, 800), kA3, (0, 800), (0, 23)], [], [kR 0, kR 2, kI 10, kI 14, kIc 24], 0), ([], 0))]
def xT_169 : List (Nat × xCt) := [(40, xc_148), (44, xc_150), (44, xc_164)]
theorem xv_169 : xVer0v xT_169 xHt 100000 35 xm_X3_readsHours xc_169 xu_169 [0] = true := by decide +kernel
theorem xw_169_0 : ((xu_169.drop 0).take 1).all (xVerCs xT_169 xHt 100000 35 xm_X3_readsHours xc_169 xu_169 [0, 1] [24]) = true := by decide +kernel
theorem xw_169_1 : ((xu_169.drop 1).take 1).all (xVerCs xT_169 xHt 100000 35 xm_X3_readsHours xc_169 xu_169 [0, 1] [0]) = true := by decide +kernel
theorem xw_169_2 : ((xu_169.drop 2).take 1).all (xVerCs xT_169 xHt 100000 35 xm_X3_readsHours xc_169 xu_169 [0, 1] [1]) = true := by decide +kernel
theorem xw_169_3 : ((xu_169.drop 3).take 1).all (xVerCs xT_169 xHt 100000 35 xm_X3_readsHours xc_169 xu_169 [0, 1] [2]) = true := by decide +kernel
theorem xw_169_4 : ((xu_169.drop 4).take 1).all (xVerCs xT_169 xHt 100000 35 xm_X3_readsHours xc_169 xu_169 [0, 1] [3]) = true := by decide +kernel
theorem xw_169_5 : ((xu_169.drop 5).take 1).all (xVerCs xT_169 xHt 100000 35 xm_X3_readsHours xc_169 xu_169 [0, 1] [4]) = true := by decide +kernel
theorem xw_169_6 : ((xu_169.drop 6).take 1).all (xVerCs xT_169 xHt 100000 35 xm_X3_readsHours xc_169 xu_169 [0, 1] [5]) = true := by decide +kernel
theorem xw_169_7 : ((xu_169.drop 7).take 1).all (xVerCs xT_169 xHt 100000 35 xm_X3_readsHours xc_169 xu_169 [0, 1] [6]) = true := by decide +kernel
theorem xw_169_8 : ((xu_169.drop 8).take 1).all (xVerCs xT_169 xHt 100000 35 xm_X3_readsHours xc_169 xu_169 [0, 1] [7]) = true := by decide +kernel
theorem xw_169_9 : ((xu_169.drop 9).take 1).all (xVerCs xT_169 xHt 100000 35 xm_X3_readsHours xc_169 xu_169 [0, 1] [8]) = true := by decide +kernel
theorem xw_169_10 : ((xu_169.drop 10).take 1).all (xVerCs xT_169 xHt 100000 35 xm_X3_readsHours xc_169 xu_169 [0, 1] [9]) = true := by decide +kernel
theorem xw_169_11 : ((xu_169.drop 11).take 1).all (xVerCs xT_169 xHt 100000 35 xm_X3_readsHours xc_169 xu_169 [0, 1] [10]) = true := by decide +kernel
theorem xw_169_12 : ((xu_169.drop 12).take 1).all (xVerCs xT_169 xHt 100000 35 xm_X3_readsHours xc_169 xu_169 [0, 1] [11]) = true := by decide +kernel
theorem xw_169_13 : ((xu_169.drop 13).take 1).all (xVerCs xT_169 xHt 100000 35 xm_X3_readsHours xc_169 xu_169 [0, 1] [12]) = true := by decide +kernel
theorem xw_169_14 : ((xu_169.drop 14).take 1).all (xVerCs xT_169 xHt 100000 35 xm_X3_readsHours xc_169 xu_169 [0, 1] [13]) = true := by decide +kernel
theorem xw_169_15 : ((xu_169.drop 15).take 1).all (xVerCs xT_169 xHt 100000 35 xm_X3_readsHours xc_169 xu_169 [0, 1] [14]) = true := by decide +kernel
theorem xw_169_16 : ((xu_169.drop 16).take 1).all (xVerCs xT_169 xHt 100000 35 xm_X3_readsHours xc_169 xu_169 [0, 1] [15]) = true := by decide +kernel
theorem xw_169_17 : ((xu_169.drop 17).take 1).all (xVerCs xT_169 xHt 100000 35 xm_X3_readsHours xc_169 xu_169 [0, 1] [16]) = true := by decide +kernel
theorem xw_169_18 : ((xu_169.drop 18).take 1).all (xVerCs xT_169 xHt 100000 35 xm_X3_readsHours xc_169 xu_169 [0, 1] [17]) = true := by decide +kernel
theorem xw_169_19 : ((xu_169.drop 19).take 1).all (xVerCs xT_169 xHt 100000 35 xm_X3_readsHours xc_169 xu_169 [0, 1] [18]) = true := by decide +kernel
theorem xw_169_20 : ((xu_169.drop 20).take 1).all (xVerCs xT_169 xHt 100000 35 xm_X3_readsHours xc_169 xu_169 [0, 1] [19]) = true := by decide +kernel
theorem xw_169_21 : ((xu_169.drop 21).take 1).all (xVerCs xT_169 xHt 100000 35 xm_X3_readsHours xc_169 xu_169 [0, 1] [20]) = true := by decide +kernel
theorem xw_169_22 : ((xu_169.drop 22).take 1).all (xVerCs xT_169 xHt 100000 35 xm_X3_readsHours xc_169 xu_169 [0, 1] [21]) = true := by decide +kernel
theorem xw_169_23 : ((xu_169.drop 23).take 1).all (xVerCs xT_169 xHt 100000 35 xm_X3_readsHours xc_169 xu_169 [] [22]) = true := by decide +kernel
theorem xw_169_24 : ((xu_169.drop 24).take 1).all (xVerCs xT_169 xHt 100000 35 xm_X3_readsHours xc_169 xu_169 [0, 1] []) = true := by decide +kernel
theorem xok_169 (l : Launch) : xCk l 35 xc_169 := ⟨xm_X3_readsHours, rfl, xVer_ok xk_all (xHt_ok l) (T := xT_169) (xTc (xok_148 l) (xTc (xok_150 l) (xTc (xok_164 l) (xTn l)))) rfl (f := 100000) (cuts := xu_169) (xVer0v_ok xv_169) (xAll0 (xAllS 0 1 (xAllCs xw_169_0) (xAllS 1 1 (xAllCs xw_169_1) (xAllS 2 1 (xAllCs xw_169_2) (xAllS 3 1 (xAllCs xw_169_3) (xAllS 4 1 (xAllCs xw_169_4) (xAllS 5 1 (xAllCs xw_169_5) (xAllS 6 1 (xAllCs xw_169_6) (xAllS 7 1 (xAllCs xw_169_7) (xAllS 8 1 (xAllCs xw_169_8) (xAllS 9 1 (xAllCs xw_169_9) (xAllS 10 1 (xAllCs xw_169_10) (xAllS 11 1 (xAllCs xw_169_11) (xAllS 12 1 (xAllCs xw_169_12) (xAllS 13 1 (xAllCs xw_169_13) (xAllS 14 1 (xAllCs xw_169_14) (xAllS 15 1 (xAllCs xw_169_15) (xAllS 16 1 (xAllCs xw_169_16) (xAllS 17 1 (xAllCs xw_169_17) (xAllS 18 1 (xAllCs xw_169_18) (xAllS 19 1 (xAllCs xw_169_19) (xAllS 20 1 (xAllCs xw_169_20) (xAllS 21 1 (xAllCs xw_169_21) (xAllS 22 1 (xAllCs xw_169_22) (xAllS 23 1 (xAllCs xw_169_23) (xAllS 24 1 (xAllCs xw_169_24) (xAllZ (by decide +kernel))))))))))))))))))))))))))))⟩
