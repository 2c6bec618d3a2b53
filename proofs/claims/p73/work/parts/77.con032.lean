/-! Contracts, printed by a program: part 32. -/
def xc_562 : xCt := (([kc537], [(24, 24), (0, 4), (0, 4)], [], [kR 0, kI 0, kI 1, kI 2], 0), [([kc537], [(24, 24), (0, 4), (0, 4)], [], [], 0)], 0)
def xu_562 : List xCu := [(3, [0, 1, 2, 3, 4], ([kc537], [(24, 24), (0, 4), (0, 4), (0, 24)], [], [kR 0, kI 0, kI 1, kI 2, kI 3], 0), ([(3, (-1))], 24))]
def xT_562 : List (Nat × xCt) := []
theorem xv_562 : xVer0 xT_562 xHt 100000 215 xm_X10_copyRow xc_562 xu_562 = true := by
  rw [← zVer0_eq]
  decide +kernel
theorem xw_562_0 : ((xu_562.drop 0).take 1).all (xVerC xT_562 xHt 100000 215 xm_X10_copyRow xc_562 xu_562) = true := by
  rw [← zVerC_eq]
  decide +kernel
theorem xok_562 (l : Launch) : xCk l 215 xc_562 := ⟨xm_X10_copyRow, rfl, xVer_ok xk_all (xHt_ok l) (T := xT_562) (xTn l) rfl (f := 100000) (cuts := xu_562) xv_562 (xAll0 (xAllS 0 1 xw_562_0 (xAllZ (by decide +kernel))))⟩
def xc_563 : xCt := (([kc536], [(24, 24), (0, 4), (0, 4)], [], [kR 0, kI 0, kI 1, kI 2], 0), [([kc536], [(24, 24), (0, 4), (0, 4)], [], [], 0)], 0)
def xu_563 : List xCu := [(3, [0, 1, 2, 3, 4], ([kc536], [(24, 24), (0, 4), (0, 4), (0, 24)], [], [kR 0, kI 0, kI 1, kI 2, kI 3], 0), ([(3, (-1))], 24))]
def xT_563 : List (Nat × xCt) := []
theorem xv_563 : xVer0 xT_563 xHt 100000 215 xm_X10_copyRow xc_563 xu_563 = true := by
  rw [← zVer0_eq]
  decide +kernel
theorem xw_563_0 : ((xu_563.drop 0).take 1).all (xVerC xT_563 xHt 100000 215 xm_X10_copyRow xc_563 xu_563) = true := by
  rw [← zVerC_eq]
  decide +kernel
theorem xok_563 (l : Launch) : xCk l 215 xc_563 := ⟨xm_X10_copyRow, rfl, xVer_ok xk_all (xHt_ok l) (T := xT_563) (xTn l) rfl (f := 100000) (cuts := xu_563) xv_563 (xAll0 (xAllS 0 1 xw_563_0 (xAllZ (by decide +kernel))))⟩
def xc_564 : xCt := (([kc527], [(24, 24), (0, 4), (0, 4)], [], [kR 0, kI 0, kI 1, kI 2], 0), [([kc527], [(24, 24), (0, 4), (0, 4)], [], [], 0)], 0)
def xu_564 : List xCu := [(3, [0, 1, 2, 3, 4], ([kc527], [(24, 24), (0, 4), (0, 4), (0, 24)], [], [kR 0, kI 0, kI 1, kI 2, kI 3], 0), ([(3, (-1))], 24))]
def xT_564 : List (Nat × xCt) := []
theorem xv_564 : xVer0 xT_564 xHt 100000 215 xm_X10_copyRow xc_564 xu_564 = true := by
  rw [← zVer0_eq]
  decide +kernel
theorem xw_564_0 : ((xu_564.drop 0).take 1).all (xVerC xT_564 xHt 100000 215 xm_X10_copyRow xc_564 xu_564) = true := by
  rw [← zVerC_eq]
  decide +kernel
theorem xok_564 (l : Launch) : xCk l 215 xc_564 := ⟨xm_X10_copyRow, rfl, xVer_ok xk_all (xHt_ok l) (T := xT_564) (xTn l) rfl (f := 100000) (cuts := xu_564) xv_564 (xAll0 (xAllS 0 1 xw_564_0 (xAllZ (by decide +kernel))))⟩
def xc_565 : xCt := (([kc538], [(24, 24), (0, 4), (0, 4)], [], [kR 0, kI 0, kI 1, kI 2], 0), [([kc538], [(24, 24), (0, 4), (0, 4)], [], [], 0)], 0)
def xu_565 : List xCu := [(3, [0, 1, 2, 3, 4], ([kc538], [(24, 24), (0, 4), (0, 4), (0, 24)], [], [kR 0, kI 0, kI 1, kI 2, kI 3], 0), ([(3, (-1))], 24))]
def xT_565 : List (Nat × xCt) := []
theorem xv_565 : xVer0 xT_565 xHt 100000 215 xm_X10_copyRow xc_565 xu_565 = true := by
  rw [← zVer0_eq]
  decide +kernel
theorem xw_565_0 : ((xu_565.drop 0).take 1).all (xVerC xT_565 xHt 100000 215 xm_X10_copyRow xc_565 xu_565) = true := by
  rw [← zVerC_eq]
  decide +kernel
theorem xok_565 (l : Launch) : xCk l 215 xc_565 := ⟨xm_X10_copyRow, rfl, xVer_ok xk_all (xHt_ok l) (T := xT_565) (xTn l) rfl (f := 100000) (cuts := xu_565) xv_565 (xAll0 (xAllS 0 1 xw_565_0 (xAllZ (by decide +kernel))))⟩
def xc_566 : xCt := (([kc540], [(90, 90), (0, 4), (0, 4)], [], [kR 0, kI 0, kI 1, kI 2], 0), [([kc540], [(90, 90), (0, 4), (0, 4)], [], [], 0)], 0)
def xu_566 : List xCu := [(3, [0, 1, 2, 3, 4], ([kc540], [(90, 90), (0, 4), (0, 4), (0, 90)], [], [kR 0, kI 0, kI 1, kI 2, kI 3], 0), ([(3, (-1))], 90))]
def xT_566 : List (Nat × xCt) := []
theorem xv_566 : xVer0 xT_566 xHt 100000 215 xm_X10_copyRow xc_566 xu_566 = true := by
  rw [← zVer0_eq]
  decide +kernel
theorem xw_566_0 : ((xu_566.drop 0).take 1).all (xVerC xT_566 xHt 100000 215 xm_X10_copyRow xc_566 xu_566) = true := by
  rw [← zVerC_eq]
  decide +kernel
theorem xok_566 (l : Launch) : xCk l 215 xc_566 := ⟨xm_X10_copyRow, rfl, xVer_ok xk_all (xHt_ok l) (T := xT_566) (xTn l) rfl (f := 100000) (cuts := xu_566) xv_566 (xAll0 (xAllS 0 1 xw_566_0 (xAllZ (by decide +kernel))))⟩
def kc929 : xC := kO 10 [kI 3, kX 20, kX 21, kX 22, kX 23, kR 1, kI 4, kI 30, kI 31, kI 32, kI 33, kJ 34, kI 35, kI 36, kI 11, kI 12, kX 24, kX 25, kX 26, kX 27, kX 28, kX 29, kX 30, kX 31, kI 13, kI 14, kI 15, kI 16, kI 17, kI 18, kI 19, kX 32, kX 33, kX 34, kX 35, kX 36, kX 37, kX 38, kI 20, kX 39, kX 40, kI 21, kI 22, kI 23, kX 41, kX 42, kX 43, kX 44, kX 45, kI 24, kI 25, kI 26, kI 27, kI 28, kI 29, kX 46]
def kc930 : xC := kO 10 [kI 3, kX 20, kX 21, kX 22, kX 23, kR 1, kI 4, kI 31, kI 32, kI 33, kI 34, kJ 35, kIc 0, kI 10, kI 11, kI 12, kX 24, kX 25, kX 26, kX 27, kX 28, kX 29, kX 30, kX 31, kI 13, kI 14, kI 15, kI 16, kI 17, kI 18, kI 19, kX 32, kX 33, kX 34, kX 35, kX 36, kX 37, kX 38, kI 20, kX 39, kX 40, kI 21, kI 22, kI 23, kX 41, kX 42, kX 43, kX 44, kX 45, kI 24, kI 25, kI 26, kI 27, kI 28, kI 29, kX 46]
def kc931 : xC := kO 10 [kI 3, kX 20, kX 21, kX 22, kX 23, kR 1, kI 4, kI 31, kI 32, kI 33, kIc 0, kJc 0, kIc 0, kI 10, kI 11, kI 12, kX 24, kX 25, kX 26, kX 27, kX 28, kX 29, kX 30, kX 31, kI 13, kI 14, kI 15, kI 16, kI 17, kI 18, kI 19, kX 32, kX 33, kX 34, kX 35, kX 36, kX 37, kX 38, kI 20, kX 39, kX 40, kI 21, kI 22, kI 23, kX 41, kX 42, kX 43, kX 44, kX 45, kI 24, kI 25, kI 26, kI 27, kI 28, kI 29, kX 46]
def kc932 : xC := kO 10 [kI 3, kX 20, kX 21, kX 22, kX 23, kR 1, kI 4, kI 5, kI 6, kI 7, kI 8, kJ 9, kIc 0, kI 10, kI 11, kI 12, kX 24, kX 25, kX 26, kX 27, kX 28, kX 29, kX 30, kX 31, kI 13, kI 14, kI 15, kI 16, kI 17, kI 18, kI 19, kX 32, kX 33, kX 34, kX 35, kX 36, kX 37, kX 38, kI 20, kX 39, kX 40, kI 21, kI 22, kI 23, kX 41, kX 42, kX 43, kX 44, kX 45, kI 24, kI 25, kI 26, kI 27, kI 28, kI 29, kX 46]
def xc_567 : xCt := (([kc932, kc218], [kA6, (1, 1), (24, 24), kA3, (0, 800), (0, 800), kA3, kA3, kA3, kA6, kA3, kA3, kA3, kA3, kA3, kA3, kA3, kA3, kA3, kA3, kA3, kA3, kA3, kA3, kA3, kA3, kA3, kA3, kA3, kA3], [([(5, (-1)), (4, 1)], 0)], [kR 0, kJ 0, kI 1, kI 2], 27), [([kc929, kc218], [kA6, (1, 1), (24, 24), kA3, (0, 800), (0, 800), kA3, kA3, kA3, kA6, kA3, kA3, kA3, kA3, kA3, kA3, kA3, kA3, kA3, kA3, kA3, kA3, kA3, kA3, kA3, kA3, kA3, kA3, kA3, kA3, (0, 800), kA3, kA3, kA3, kA6, (1, 2), kA3], [([(30, (-1)), (4, 1)], 0), ([(30, 1), (5, (-1))], 0)], [kI 1], 27), ([kc930, kc218], [kA6, (1, 1), (24, 24), kA3, (0, 800), (0, 800), kA3, kA3, kA3, kA6, kA3, kA3, kA3, kA3, kA3, kA3, kA3, kA3, kA3, kA3, kA3, kA3, kA3, kA3, kA3, kA3, kA3, kA3, kA3, kA3, (1, 24), (0, 800), (0, 2), kA3, kA3, kA6], [([(31, (-1)), (4, 1)], 0), ([(31, 1), (5, (-1))], 0)], [kI 30], 27), ([kc931, kc218], [kA6, (1, 1), (24, 24), kA3, (0, 800), (0, 800), kA3, kA3, kA3, kA6, kA3, kA3, kA3, kA3, kA3, kA3, kA3, kA3, kA3, kA3, kA3, kA3, kA3, kA3, kA3, kA3, kA3, kA3, kA3, kA3, (1, 24), (0, 800), (3, 4), kA3], [([(31, (-1)), (4, 1)], 0), ([(31, 1), (5, (-1))], (-1))], [kI 30], 27)], 4)
def xu_567 : List xCu := []
def xT_567 : List (Nat × xCt) := [(194, xc_247)]
theorem xv_567 : xVer0 xT_567 xHt 100000 201 xm_X10_number_ xc_567 xu_567 = true := by
  rw [← zVer0_eq]
  decide +kernel
theorem xok_567 (l : Launch) : xCk l 201 xc_567 := ⟨xm_X10_number_, rfl, xVer_ok xk_all (xHt_ok l) (T := xT_567) (xTc (xok_247 l) (xTn l)) rfl (f := 100000) (cuts := xu_567) xv_567 (fun Cu h => absurd h List.not_mem_nil)⟩
def xc_568 : xCt := (([kc932, kc218], [kA6, (0, 0), (3, 3), kA3, (0, 800), (0, 800), kA3, kA3, kA3, kA6, kA3, kA3, kA3, kA3, kA3, kA3, kA3, kA3, kA3, kA3, kA3, kA3, kA3, kA3, kA3, kA3, kA3, kA3, kA3, kA3], [([(5, (-1)), (4, 1)], 0)], [kR 0, kJ 0, kI 1, kI 2], 27), [([kc929, kc218], [kA6, (0, 0), (3, 3), kA3, (0, 800), (0, 800), kA3, kA3, kA3, kA6, kA3, kA3, kA3, kA3, kA3, kA3, kA3, kA3, kA3, kA3, kA3, kA3, kA3, kA3, kA3, kA3, kA3, kA3, kA3, kA3, (0, 800), kA3, kA3, kA3, kA6, (1, 2), kA3], [([(30, (-1)), (4, 1)], 0), ([(30, 1), (5, (-1))], 0)], [kI 1], 27), ([kc930, kc218], [kA6, (0, 0), (3, 3), kA3, (0, 800), (0, 800), kA3, kA3, kA3, kA6, kA3, kA3, kA3, kA3, kA3, kA3, kA3, kA3, kA3, kA3, kA3, kA3, kA3, kA3, kA3, kA3, kA3, kA3, kA3, kA3, (0, 3), (0, 800), (0, 2), kA3, kA3, kA6], [([(31, (-1)), (4, 1)], 0), ([(31, 1), (5, (-1))], 0)], [kI 30], 27), ([kc931, kc218], [kA6, (0, 0), (3, 3), kA3, (0, 800), (0, 800), kA3, kA3, kA3, kA6, kA3, kA3, kA3, kA3, kA3, kA3, kA3, kA3, kA3, kA3, kA3, kA3, kA3, kA3, kA3, kA3, kA3, kA3, kA3, kA3, (0, 3), (0, 800), (3, 4), kA3], [([(31, (-1)), (4, 1)], 0), ([(31, 1), (5, (-1))], (-1))], [kI 30], 27)], 4)
def xu_568 : List xCu := []
def xT_568 : List (Nat × xCt) := [(194, xc_247)]
theorem xv_568 : xVer0 xT_568 xHt 100000 201 xm_X10_number_ xc_568 xu_568 = true := by
  rw [← zVer0_eq]
  decide +kernel
theorem xok_568 (l : Launch) : xCk l 201 xc_568 := ⟨xm_X10_number_, rfl, xVer_ok xk_all (xHt_ok l) (T := xT_568) (xTc (xok_247 l) (xTn l)) rfl (f := 100000) (cuts := xu_568) xv_568 (fun Cu h => absurd h List.not_mem_nil)⟩
def xc_569 : xCt := (([kc932, kc218], [kA6, (0, 0), (60, 60), kA3, (0, 800), (0, 800), kA3, kA3, kA3, kA6, kA3, kA3, kA3, kA3, kA3, kA3, kA3, kA3, kA3, kA3, kA3, kA3, kA3, kA3, kA3, kA3, kA3, kA3, kA3, kA3], [([(5, (-1)), (4, 1)], 0)], [kR 0, kJ 0, kI 1, kI 2], 27), [([kc929, kc218], [kA6, (0, 0), (60, 60), kA3, (0, 800), (0, 800), kA3, kA3, kA3, kA6, kA3, kA3, kA3, kA3, kA3, kA3, kA3, kA3, kA3, kA3, kA3, kA3, kA3, kA3, kA3, kA3, kA3, kA3, kA3, kA3, (0, 800), kA3, kA3, kA3, kA6, (1, 2), kA3], [([(30, (-1)), (4, 1)], 0), ([(30, 1), (5, (-1))], 0)], [kI 1], 27), ([kc930, kc218], [kA6, (0, 0), (60, 60), kA3, (0, 800), (0, 800), kA3, kA3, kA3, kA6, kA3, kA3, kA3, kA3, kA3, kA3, kA3, kA3, kA3, kA3, kA3, kA3, kA3, kA3, kA3, kA3, kA3, kA3, kA3, kA3, (0, 60), (0, 800), (0, 2), kA3, kA3, kA6], [([(31, (-1)), (4, 1)], 0), ([(31, 1), (5, (-1))], 0)], [kI 30], 27), ([kc931, kc218], [kA6, (0, 0), (60, 60), kA3, (0, 800), (0, 800), kA3, kA3, kA3, kA6, kA3, kA3, kA3, kA3, kA3, kA3, kA3, kA3, kA3, kA3, kA3, kA3, kA3, kA3, kA3, kA3, kA3, kA3, kA3, kA3, (0, 60), (0, 800), (3, 4), kA3], [([(31, (-1)), (4, 1)], 0), ([(31, 1), (5, (-1))], (-1))], [kI 30], 27)], 4)
def xu_569 : List xCu := []
def xT_569 : List (Nat × xCt) := [(194, xc_247)]
theorem xv_569 : xVer0 xT_569 xHt 100000 201 xm_X10_number_ xc_569 xu_569 = true := by
  rw [← zVer0_eq]
  decide +kernel
theorem xok_569 (l : Launch) : xCk l 201 xc_569 := ⟨xm_X10_number_, rfl, xVer_ok xk_all (xHt_ok l) (T := xT_569) (xTc (xok_247 l) (xTn l)) rfl (f := 100000) (cuts := xu_569) xv_569 (fun Cu h => absurd h List.not_mem_nil)⟩
def xc_570 : xCt := (([kc932, kc218], [kA6, (0, 0), (9, 9), kA3, (0, 800), (0, 800), kA3, kA3, kA3, kA6, kA3, kA3, kA3, kA3, kA3, kA3, kA3, kA3, kA3, kA3, kA3, kA3, kA3, kA3, kA3, kA3, kA3, kA3, kA3, kA3], [([(5, (-1)), (4, 1)], 0)], [kR 0, kJ 0, kI 1, kI 2], 27), [([kc929, kc218], [kA6, (0, 0), (9, 9), kA3, (0, 800), (0, 800), kA3, kA3, kA3, kA6, kA3, kA3, kA3, kA3, kA3, kA3, kA3, kA3, kA3, kA3, kA3, kA3, kA3, kA3, kA3, kA3, kA3, kA3, kA3, kA3, (0, 800), kA3, kA3, kA3, kA6, (1, 2), kA3], [([(30, (-1)), (4, 1)], 0), ([(30, 1), (5, (-1))], 0)], [kI 1], 27), ([kc930, kc218], [kA6, (0, 0), (9, 9), kA3, (0, 800), (0, 800), kA3, kA3, kA3, kA6, kA3, kA3, kA3, kA3, kA3, kA3, kA3, kA3, kA3, kA3, kA3, kA3, kA3, kA3, kA3, kA3, kA3, kA3, kA3, kA3, (0, 9), (0, 800), (0, 2), kA3, kA3, kA6], [([(31, (-1)), (4, 1)], 0), ([(31, 1), (5, (-1))], 0)], [kI 30], 27), ([kc931, kc218], [kA6, (0, 0), (9, 9), kA3, (0, 800), (0, 800), kA3, kA3, kA3, kA6, kA3, kA3, kA3, kA3, kA3, kA3, kA3, kA3, kA3, kA3, kA3, kA3, kA3, kA3, kA3, kA3, kA3, kA3, kA3, kA3, (0, 9), (0, 800), (3, 4), kA3], [([(31, (-1)), (4, 1)], 0), ([(31, 1), (5, (-1))], (-1))], [kI 30], 27)], 4)
def xu_570 : List xCu := []
def xT_570 : List (Nat × xCt) := [(194, xc_247)]
theorem xv_570 : xVer0 xT_570 xHt 100000 201 xm_X10_number_ xc_570 xu_570 = true := by
  rw [← zVer0_eq]
  decide +kernel
theorem xok_570 (l : Launch) : xCk l 201 xc_570 := ⟨xm_X10_number_, rfl, xVer_ok xk_all (xHt_ok l) (T := xT_570) (xTc (xok_247 l) (xTn l)) rfl (f := 100000) (cuts := xu_570) xv_570 (fun Cu h => absurd h List.not_mem_nil)⟩
def xc_571 : xCt := (([kc932, kc218], [kA6, (0, 0), (10, 10), kA3, (0, 800), (0, 800), kA3, kA3, kA3, kA6, kA3, kA3, kA3, kA3, kA3, kA3, kA3, kA3, kA3, kA3, kA3, kA3, kA3, kA3, kA3, kA3, kA3, kA3, kA3, kA3], [([(5, (-1)), (4, 1)], 0)], [kR 0, kJ 0, kI 1, kI 2], 27), [([kc929, kc218], [kA6, (0, 0), (10, 10), kA3, (0, 800), (0, 800), kA3, kA3, kA3, kA6, kA3, kA3, kA3, kA3, kA3, kA3, kA3, kA3, kA3, kA3, kA3, kA3, kA3, kA3, kA3, kA3, kA3, kA3, kA3, kA3, (0, 800), kA3, kA3, kA3, kA6, (1, 2), kA3], [([(30, (-1)), (4, 1)], 0), ([(30, 1), (5, (-1))], 0)], [kI 1], 27), ([kc930, kc218], [kA6, (0, 0), (10, 10), kA3, (0, 800), (0, 800), kA3, kA3, kA3, kA6, kA3, kA3, kA3, kA3, kA3, kA3, kA3, kA3, kA3, kA3, kA3, kA3, kA3, kA3, kA3, kA3, kA3, kA3, kA3, kA3, (0, 10), (0, 800), (0, 2), kA3, kA3, kA6], [([(31, (-1)), (4, 1)], 0), ([(31, 1), (5, (-1))], 0)], [kI 30], 27), ([kc931, kc218], [kA6, (0, 0), (10, 10), kA3, (0, 800), (0, 800), kA3, kA3, kA3, kA6, kA3, kA3, kA3, kA3, kA3, kA3, kA3, kA3, kA3, kA3, kA3, kA3, kA3, kA3, kA3, kA3, kA3, kA3, kA3, kA3, (0, 10), (0, 800), (3, 4), kA3], [([(31, (-1)), (4, 1)], 0), ([(31, 1), (5, (-1))], (-1))], [kI 30], 27)], 4)
def xu_571 : List xCu := []
def xT_571 : List (Nat × xCt) := [(194, xc_247)]
theorem xv_571 : xVer0 xT_571 xHt 100000 201 xm_X10_number_ xc_571 xu_571 = true := by
  rw [← zVer0_eq]
  decide +kernel
theorem xok_571 (l : Launch) : xCk l 201 xc_571 := ⟨xm_X10_number_, rfl, xVer_ok xk_all (xHt_ok l) (T := xT_571) (xTc (xok_247 l) (xTn l)) rfl (f := 100000) (cuts := xu_571) xv_571 (fun Cu h => absurd h List.not_mem_nil)⟩
def xc_572 : xCt := (([kc932, kc218], [kA6, (0, 0), (99, 99), kA3, (0, 800), (0, 800), kA3, kA3, kA3, kA6, kA3, kA3, kA3, kA3, kA3, kA3, kA3, kA3, kA3, kA3, kA3, kA3, kA3, kA3, kA3, kA3, kA3, kA3, kA3, kA3], [([(5, (-1)), (4, 1)], 0)], [kR 0, kJ 0, kI 1, kI 2], 27), [([kc929, kc218], [kA6, (0, 0), (99, 99), kA3, (0, 800), (0, 800), kA3, kA3, kA3, kA6, kA3, kA3, kA3, kA3, kA3, kA3, kA3, kA3, kA3, kA3, kA3, kA3, kA3, kA3, kA3, kA3, kA3, kA3, kA3, kA3, (0, 800), kA3, kA3, kA3, kA6, (1, 2), kA3], [([(30, (-1)), (4, 1)], 0), ([(30, 1), (5, (-1))], 0)], [kI 1], 27), ([kc930, kc218], [kA6, (0, 0), (99, 99), kA3, (0, 800), (0, 800), kA3, kA3, kA3, kA6, kA3, kA3, kA3, kA3, kA3, kA3, kA3, kA3, kA3, kA3, kA3, kA3, kA3, kA3, kA3, kA3, kA3, kA3, kA3, kA3, (0, 99), (0, 800), (0, 2), kA3, kA3, kA6], [([(31, (-1)), (4, 1)], 0), ([(31, 1), (5, (-1))], 0)], [kI 30], 27), ([kc931, kc218], [kA6, (0, 0), (99, 99), kA3, (0, 800), (0, 800), kA3, kA3, kA3, kA6, kA3, kA3, kA3, kA3, kA3, kA3, kA3, kA3, kA3, kA3, kA3, kA3, kA3, kA3, kA3, kA3, kA3, kA3, kA3, kA3, (0, 99), (0, 800), (3, 4), kA3], [([(31, (-1)), (4, 1)], 0), ([(31, 1), (5, (-1))], (-1))], [kI 30], 27)], 4)
def xu_572 : List xCu := []
def xT_572 : List (Nat × xCt) := [(194, xc_247)]
theorem xv_572 : xVer0 xT_572 xHt 100000 201 xm_X10_number_ xc_572 xu_572 = true := by
  rw [← zVer0_eq]
  decide +kernel
theorem xok_572 (l : Launch) : xCk l 201 xc_572 := ⟨xm_X10_number_, rfl, xVer_ok xk_all (xHt_ok l) (T := xT_572) (xTc (xok_247 l) (xTn l)) rfl (f := 100000) (cuts := xu_572) xv_572 (fun Cu h => absurd h List.not_mem_nil)⟩
def xc_573 : xCt := (([kc932, kc218], [kA6, (1, 1), (60, 60), kA3, (0, 800), (0, 800), kA3, kA3, kA3, kA6, kA3, kA3, kA3, kA3, kA3, kA3, kA3, kA3, kA3, kA3, kA3, kA3, kA3, kA3, kA3, kA3, kA3, kA3, kA3, kA3], [([(5, (-1)), (4, 1)], 0)], [kR 0, kJ 0, kI 1, kI 2], 27), [([kc929, kc218], [kA6, (1, 1), (60, 60), kA3, (0, 800), (0, 800), kA3, kA3, kA3, kA6, kA3, kA3, kA3, kA3, kA3, kA3, kA3, kA3, kA3, kA3, kA3, kA3, kA3, kA3, kA3, kA3, kA3, kA3, kA3, kA3, (0, 800), kA3, kA3, kA3, kA6, (1, 2), kA3], [([(30, (-1)), (4, 1)], 0), ([(30, 1), (5, (-1))], 0)], [kI 1], 27), ([kc930, kc218], [kA6, (1, 1), (60, 60), kA3, (0, 800), (0, 800), kA3, kA3, kA3, kA6, kA3, kA3, kA3, kA3, kA3, kA3, kA3, kA3, kA3, kA3, kA3, kA3, kA3, kA3, kA3, kA3, kA3, kA3, kA3, kA3, (1, 60), (0, 800), (0, 2), kA3, kA3, kA6], [([(31, (-1)), (4, 1)], 0), ([(31, 1), (5, (-1))], 0)], [kI 30], 27), ([kc931, kc218], [kA6, (1, 1), (60, 60), kA3, (0, 800), (0, 800), kA3, kA3, kA3, kA6, kA3, kA3, kA3, kA3, kA3, kA3, kA3, kA3, kA3, kA3, kA3, kA3, kA3, kA3, kA3, kA3, kA3, kA3, kA3, kA3, (1, 60), (0, 800), (3, 4), kA3], [([(31, (-1)), (4, 1)], 0), ([(31, 1), (5, (-1))], (-1))], [kI 30], 27)], 4)
def xu_573 : List xCu := []
def xT_573 : List (Nat × xCt) := [(194, xc_247)]
theorem xv_573 : xVer0 xT_573 xHt 100000 201 xm_X10_number_ xc_573 xu_573 = true := by
  rw [← zVer0_eq]
  decide +kernel
theorem xok_573 (l : Launch) : xCk l 201 xc_573 := ⟨xm_X10_number_, rfl, xVer_ok xk_all (xHt_ok l) (T := xT_573) (xTc (xok_247 l) (xTn l)) rfl (f := 100000) (cuts := xu_573) xv_573 (fun Cu h => absurd h List.not_mem_nil)⟩
def xc_574 : xCt := (([kc932, kc218], [kA6, (0, 23), (23, 23), kA3, (0, 800), (0, 800), kA3, kA3, kA3, kA6, kA3, kA3, kA3, kA3, kA3, kA3, kA3, kA3, kA3, kA3, kA3, kA3, kA3, kA3, kA3, kA3, kA3, kA3, kA3, kA3], [([(5, (-1)), (4, 1)], 0)], [kR 0, kJ 0, kI 1, kI 2], 27), [([kc929, kc218], [kA6, (0, 23), (23, 23), kA3, (0, 800), (0, 800), kA3, kA3, kA3, kA6, kA3, kA3, kA3, kA3, kA3, kA3, kA3, kA3, kA3, kA3, kA3, kA3, kA3, kA3, kA3, kA3, kA3, kA3, kA3, kA3, (0, 800), kA3, kA3, kA3, kA6, (1, 2), kA3], [([(30, (-1)), (4, 1)], 0), ([(30, 1), (5, (-1))], 0)], [kI 1], 27), ([kc930, kc218], [kA6, (0, 23), (23, 23), kA3, (0, 800), (0, 800), kA3, kA3, kA3, kA6, kA3, kA3, kA3, kA3, kA3, kA3, kA3, kA3, kA3, kA3, kA3, kA3, kA3, kA3, kA3, kA3, kA3, kA3, kA3, kA3, (0, 23), (0, 800), (0, 2), kA3, kA3, kA6], [([(31, (-1)), (4, 1)], 0), ([(31, 1), (5, (-1))], 0)], [kI 30], 27), ([kc931, kc218], [kA6, (0, 23), (23, 23), kA3, (0, 800), (0, 800), kA3, kA3, kA3, kA6, kA3, kA3, kA3, kA3, kA3, kA3, kA3, kA3, kA3, kA3, kA3, kA3, kA3, kA3, kA3, kA3, kA3, kA3, kA3, kA3, (0, 23), (0, 800), (3, 4), kA3], [([(31, (-1)), (4, 1)], 0), ([(31, 1), (5, (-1))], (-1))], [kI 30], 27)], 4)
def xu_574 : List xCu := []
def xT_574 : List (Nat × xCt) := [(194, xc_247)]
theorem xv_574 : xVer0 xT_574 xHt 100000 201 xm_X10_number_ xc_574 xu_574 = true := by
  rw [← zVer0_eq]
  decide +kernel
theorem xok_574 (l : Launch) : xCk l 201 xc_574 := ⟨xm_X10_number_, rfl, xVer_ok xk_all (xHt_ok l) (T := xT_574) (xTc (xok_247 l) (xTn l)) rfl (f := 100000) (cuts := xu_574) xv_574 (fun Cu h => absurd h List.not_mem_nil)⟩
def kc933 : xC := kO 10 [kI 2, kX 20, kX 21, kX 22, kX 23, kR 1, kI 3, kI 4, kI 5, kI 6, kI 7, kJ 8, kI 29, kI 6, kI 10, kI 11, kX 24, kX 25, kX 26, kX 27, kX 28, kX 29, kX 30, kX 31, kI 12, kI 13, kI 14, kI 15, kI 16, kI 17, kI 18, kX 32, kX 33, kX 34, kX 35, kX 36, kX 37, kX 38, kI 19, kX 39, kX 40, kI 20, kI 21, kI 22, kX 41, kX 42, kX 43, kX 44, kX 45, kI 23, kI 24, kI 25, kI 26, kI 27, kI 28, kX 46]
def kc934 : xC := kO 10 [kI 2, kX 20, kX 21, kX 22, kX 23, kR 1, kI 3, kI 30, kI 31, kI 32, kI 33, kJ 34, kIc 0, kI 9, kI 10, kI 11, kX 24, kX 25, kX 26, kX 27, kX 28, kX 29, kX 30, kX 31, kI 12, kI 13, kI 14, kI 15, kI 16, kI 17, kI 18, kX 32, kX 33, kX 34, kX 35, kX 36, kX 37, kX 38, kI 19, kX 39, kX 40, kI 20, kI 21, kI 22, kX 41, kX 42, kX 43, kX 44, kX 45, kI 23, kI 24, kI 25, kI 26, kI 27, kI 28, kX 46]
def kc935 : xC := kO 10 [kI 2, kX 20, kX 21, kX 22, kX 23, kR 1, kI 3, kI 30, kI 31, kI 32, kIc 0, kJc 0, kIc 0, kI 9, kI 10, kI 11, kX 24, kX 25, kX 26, kX 27, kX 28, kX 29, kX 30, kX 31, kI 12, kI 13, kI 14, kI 15, kI 16, kI 17, kI 18, kX 32, kX 33, kX 34, kX 35, kX 36, kX 37, kX 38, kI 19, kX 39, kX 40, kI 20, kI 21, kI 22, kX 41, kX 42, kX 43, kX 44, kX 45, kI 23, kI 24, kI 25, kI 26, kI 27, kI 28, kX 46]
def kc936 : xC := kO 10 [kI 2, kX 20, kX 21, kX 22, kX 23, kR 1, kI 3, kI 4, kI 5, kI 6, kI 7, kJ 8, kIc 0, kI 9, kI 10, kI 11, kX 24, kX 25, kX 26, kX 27, kX 28, kX 29, kX 30, kX 31, kI 12, kI 13, kI 14, kI 15, kI 16, kI 17, kI 18, kX 32, kX 33, kX 34, kX 35, kX 36, kX 37, kX 38, kI 19, kX 39, kX 40, kI 20, kI 21, kI 22, kX 41, kX 42, kX 43, kX 44, kX 45, kI 23, kI 24, kI 25, kI 26, kI 27, kI 28, kX 46]
def xc_575 : xCt := (([kc936, kc218], [(1, 1), (3, 3), kA3, (0, 800), (0, 800), kA3, kA3, kA3, kA6, kA3, kA3, kA3, kA3, kA3, kA3, kA3, kA3, kA3, kA3, kA3, kA3, kA3, kA3, kA3, kA3, kA3, kA3, kA3, kA3], [([(4, (-1)), (3, 1)], 0)], [kR 0, kI 0, kI 1], 27), [([kc933, kc218], [(1, 1), (3, 3), kA3, (0, 800), (0, 800), kA3, kA3, kA3, kA6, kA3, kA3, kA3, kA3, kA3, kA3, kA3, kA3, kA3, kA3, kA3, kA3, kA3, kA3, kA3, kA3, kA3, kA3, kA3, kA3, (1, 2)], [([(4, (-1)), (3, 1)], 0), ([], 0)], [kI 0], 27), ([kc934, kc218], [(1, 1), (3, 3), kA3, (0, 800), (0, 800), kA3, kA3, kA3, kA6, kA3, kA3, kA3, kA3, kA3, kA3, kA3, kA3, kA3, kA3, kA3, kA3, kA3, kA3, kA3, kA3, kA3, kA3, kA3, kA3, (1, 3), (0, 800), (0, 2), kA3, kA3, kA6], [([(30, (-1)), (3, 1)], 0), ([(30, 1), (4, (-1))], 0)], [kI 29], 27), ([kc935, kc218], [(1, 1), (3, 3), kA3, (0, 800), (0, 800), kA3, kA3, kA3, kA6, kA3, kA3, kA3, kA3, kA3, kA3, kA3, kA3, kA3, kA3, kA3, kA3, kA3, kA3, kA3, kA3, kA3, kA3, kA3, kA3, (1, 3), (0, 800), (3, 4), kA3], [([(30, (-1)), (3, 1)], 0), ([(30, 1), (4, (-1))], (-1))], [kI 29], 27)], 2)
def xu_575 : List xCu := []
def xT_575 : List (Nat × xCt) := [(194, xc_247)]
theorem xv_575 : xVer0 xT_575 xHt 100000 200 xm_X10_number xc_575 xu_575 = true := by
  rw [← zVer0_eq]
  decide +kernel
theorem xok_575 (l : Launch) : xCk l 200 xc_575 := ⟨xm_X10_number, rfl, xVer_ok xk_all (xHt_ok l) (T := xT_575) (xTc (xok_247 l) (xTn l)) rfl (f := 100000) (cuts := xu_575) xv_575 (fun Cu h => absurd h List.not_mem_nil)⟩
def xc_576 : xCt := (([kc936, kc218], [(1, 1), (9, 9), kA3, (0, 800), (0, 800), kA3, kA3, kA3, kA6, kA3, kA3, kA3, kA3, kA3, kA3, kA3, kA3, kA3, kA3, kA3, kA3, kA3, kA3, kA3, kA3, kA3, kA3, kA3, kA3], [([(4, (-1)), (3, 1)], 0)], [kR 0, kI 0, kI 1], 27), [([kc933, kc218], [(1, 1), (9, 9), kA3, (0, 800), (0, 800), kA3, kA3, kA3, kA6, kA3, kA3, kA3, kA3, kA3, kA3, kA3, kA3, kA3, kA3, kA3, kA3, kA3, kA3, kA3, kA3, kA3, kA3, kA3, kA3, (1, 2)], [([(4, (-1)), (3, 1)], 0), ([], 0)], [kI 0], 27), ([kc934, kc218], [(1, 1), (9, 9), kA3, (0, 800), (0, 800), kA3, kA3, kA3, kA6, kA3, kA3, kA3, kA3, kA3, kA3, kA3, kA3, kA3, kA3, kA3, kA3, kA3, kA3, kA3, kA3, kA3, kA3, kA3, kA3, (1, 9), (0, 800), (0, 2), kA3, kA3, kA6], [([(30, (-1)), (3, 1)], 0), ([(30, 1), (4, (-1))], 0)], [kI 29], 27), ([kc935, kc218], [(1, 1), (9, 9), kA3, (0, 800), (0, 800), kA3, kA3, kA3, kA6, kA3, kA3, kA3, kA3, kA3, kA3, kA3, kA3, kA3, kA3, kA3, kA3, kA3, kA3, kA3, kA3, kA3, kA3, kA3, kA3, (1, 9), (0, 800), (3, 4), kA3], [([(30, (-1)), (3, 1)], 0), ([(30, 1), (4, (-1))], (-1))], [kI 29], 27)], 2)
def xu_576 : List xCu := []
def xT_576 : List (Nat × xCt) := [(194, xc_247)]
theorem xv_576 : xVer0 xT_576 xHt 100000 200 xm_X10_number xc_576 xu_576 = true := by
  rw [← zVer0_eq]
  decide +kernel
theorem xok_576 (l : Launch) : xCk l 200 xc_576 := ⟨xm_X10_number, rfl, xVer_ok xk_all (xHt_ok l) (T := xT_576) (xTc (xok_247 l) (xTn l)) rfl (f := 100000) (cuts := xu_576) xv_576 (fun Cu h => absurd h List.not_mem_nil)⟩
def kc937 : xC := kO 10 [kI 0, kX 20, kX 21, kX 22, kX 23, kR 1, kI 1, kI 44, kI 45, kI 46, kI 47, kJ 48, kI 49, kI 50, kI 8, kI 9, kX 24, kR 2, kR 3, kX 25, kX 26, kX 27, kX 28, kX 29, kI 10, kI 11, kI 12, kI 13, kI 14, kI 15, kI 16, kX 30, kX 31, kX 32, kX 33, kX 34, kX 35, kX 36, kI 17, kX 37, kX 38, kI 18, kI 19, kI 20, kX 39, kX 40, kX 41, kX 42, kX 43, kI 21, kI 22, kI 23, kI 24, kI 25, kI 26, kX 44]
def kc938 : xC := kAr 0 55 [(1, kS 27), (5, kB3), (1, kS 28), (1, kS 29), (3, kB3), (1, kS 30), (5, kB3), (1, kS 31), (1, kS 32), (3, kB3), (1, kS 33), (5, kB3), (1, kS 34), (1, kS 35), (3, kB3), (1, kS 36), (5, kB3), (1, kS 37), (1, kS 38), (3, kB3), (1, kS 39), (5, kB3), (1, kSo 40 1), (1, kS 41), (1, kS 42), (1, kS 43), (1, kB3)]
def kc939 : xC := kO 10 [kI 0, kX 20, kX 21, kX 22, kX 23, kR 1, kI 1, kI 44, kI 45, kI 46, kI 47, kJ 48, kIc 0, kI 7, kI 8, kI 9, kX 24, kR 2, kR 3, kX 25, kX 26, kX 27, kX 28, kX 29, kI 10, kI 11, kI 12, kI 13, kI 14, kI 15, kI 16, kX 30, kX 31, kX 32, kX 33, kX 34, kX 35, kX 36, kI 17, kX 37, kX 38, kI 18, kI 19, kI 20, kX 39, kX 40, kX 41, kX 42, kX 43, kI 21, kI 22, kI 23, kI 24, kI 25, kI 26, kX 44]
def kc940 : xC := kO 10 [kI 0, kX 20, kX 21, kX 22, kX 23, kR 1, kI 1, kI 44, kI 45, kI 46, kIc 0, kJc 0, kIc 0, kI 7, kI 8, kI 9, kX 24, kR 2, kR 3, kX 25, kX 26, kX 27, kX 28, kX 29, kI 10, kI 11, kI 12, kI 13, kI 14, kI 15, kI 16, kX 30, kX 31, kX 32, kX 33, kX 34, kX 35, kX 36, kI 17, kX 37, kX 38, kI 18, kI 19, kI 20, kX 39, kX 40, kX 41, kX 42, kX 43, kI 21, kI 22, kI 23, kI 24, kI 25, kI 26, kX 44]
def kc941 : xC := kO 10 [kI 0, kX 20, kX 21, kX 22, kX 23, kR 1, kI 1, kI 2, kI 3, kI 4, kI 5, kJ 6, kIc 0, kI 7, kI 8, kI 9, kX 24, kR 2, kR 3, kX 25, kX 26, kX 27, kX 28, kX 29, kI 10, kI 11, kI 12, kI 13, kI 14, kI 15, kI 16, kX 30, kX 31, kX 32, kX 33, kX 34, kX 35, kX 36, kI 17, kX 37, kX 38, kI 18, kI 19, kI 20, kX 39, kX 40, kX 41, kX 42, kX 43, kI 21, kI 22, kI 23, kI 24, kI 25, kI 26, kX 44]
def kc942 : xC := kAr 0 55 [(1, kS 27), (5, kB3), (1, kS 28), (1, kS 29), (3, kB3), (1, kS 30), (5, kB3), (1, kS 31), (1, kS 32), (3, kB3), (1, kS 33), (5, kB3), (1, kS 34), (1, kS 35), (3, kB3), (1, kS 36), (5, kB3), (1, kS 37), (1, kS 38), (3, kB3), (1, kS 39), (5, kB3), (1, kS 40), (1, kS 41), (1, kS 42), (1, kS 43), (1, kB3)]
def kc943 : xC := kO 10 [kI 0, kX 20, kX 21, kX 22, kX 23, kR 1, kI 1, kI 45, kI 46, kI 47, kIc 0, kJc 0, kIc 0, kI 7, kI 8, kI 9, kX 24, kR 2, kR 3, kX 25, kX 26, kX 27, kX 28, kX 29, kI 10, kI 11, kI 12, kI 13, kI 14, kI 15, kI 16, kX 30, kX 31, kX 32, kX 33, kX 34, kX 35, kX 36, kI 17, kX 37, kX 38, kI 18, kI 19, kI 20, kX 39, kX 40, kX 41, kX 42, kX 43, kI 21, kI 22, kI 23, kI 24, kI 25, kI 26, kX 44]
def kc944 : xC := kO 10 [kI 0, kX 20, kX 21, kX 22, kX 23, kR 1, kI 1, kI 45, kI 46, kI 47, kI 48, kJ 49, kIc 0, kI 7, kI 8, kI 9, kX 24, kR 2, kR 3, kX 25, kX 26, kX 27, kX 28, kX 29, kI 10, kI 11, kI 12, kI 13, kI 14, kI 15, kI 16, kX 30, kX 31, kX 32, kX 33, kX 34, kX 35, kX 36, kI 17, kX 37, kX 38, kI 18, kI 19, kI 20, kX 39, kX 40, kX 41, kX 42, kX 43, kI 21, kI 22, kI 23, kI 24, kI 25, kI 26, kX 44]
def kc945 : xC := kO 10 [kI 0, kX 20, kX 21, kX 22, kX 23, kR 1, kI 1, kI 45, kI 46, kI 47, kI 48, kJ 49, kI 50, kI 51, kI 8, kI 9, kX 24, kR 2, kR 3, kX 25, kX 26, kX 27, kX 28, kX 29, kI 10, kI 11, kI 12, kI 13, kI 14, kI 15, kI 16, kX 30, kX 31, kX 32, kX 33, kX 34, kX 35, kX 36, kI 17, kX 37, kX 38, kI 18, kI 19, kI 20, kX 39, kX 40, kX 41, kX 42, kX 43, kI 21, kI 22, kI 23, kI 24, kI 25, kI 26, kX 44]
def xc_577 : xCt := (([kc941, kc218, kc942, kc527], [kA3, (0, 800), (0, 800), kA3, kA3, kA3, kA6, kA3, kA3, kA3, kA3, kA3, kA3, kA3, kA3, kA3, kA3, kA3, kA3, kA3, kA3, kA3, kA3, kA3, kA3, kA3, kA3, (0, 24), (0, 6), (0, 30), (0, 24), (0, 6), (0, 30), (0, 24), (0, 6), (0, 30), (0, 24), (0, 6), (0, 30), (0, 24), (0, 5), (0, 30), kA3, kA3], [([(2, (-1)), (1, 1)], 0)], [kR 0], 25), [([kc937, kc218, kc938, kc527], [kA3, (0, 800), (0, 800), kA3, kA3, kA3, kA6, kA3, kA3, kA3, kA3, kA3, kA3, kA3, kA3, kA3, kA3, kA3, kA3, kA3, kA3, kA3, kA3, kA3, kA3, kA3, kA3, (0, 24), (0, 6), (0, 30), (0, 24), (0, 6), (0, 30), (0, 24), (0, 6), (0, 30), (0, 24), (0, 6), (0, 30), (0, 24), (0, 5), (0, 30), kA3, kA3, (0, 800), kA3, kA3, kA3, kA6, (1, 2), kA3], [([(44, (-1)), (1, 1)], 0), ([(44, 1), (2, (-1))], 0)], [], 25), ([kc939, kc218, kc938, kc527], [kA3, (0, 800), (0, 800), kA3, kA3, kA3, kA6, kA3, kA3, kA3, kA3, kA3, kA3, kA3, kA3, kA3, kA3, kA3, kA3, kA3, kA3, kA3, kA3, kA3, kA3, kA3, kA3, (0, 24), (0, 6), (0, 30), (0, 24), (0, 6), (0, 30), (0, 24), (0, 6), (0, 30), (0, 24), (0, 6), (0, 30), (0, 24), (0, 5), (0, 30), kA3, kA3, (0, 800), (0, 2), kA3, kA3, kA6], [([(44, (-1)), (1, 1)], 0), ([(44, 1), (2, (-1))], 0)], [], 25), ([kc940, kc218, kc938, kc527], [kA3, (0, 800), (0, 800), kA3, kA3, kA3, kA6, kA3, kA3, kA3, kA3, kA3, kA3, kA3, kA3, kA3, kA3, kA3, kA3, kA3, kA3, kA3, kA3, kA3, kA3, kA3, kA3, (0, 24), (0, 6), (0, 30), (0, 24), (0, 6), (0, 30), (0, 24), (0, 6), (0, 30), (0, 24), (0, 6), (0, 30), (0, 24), (0, 5), (0, 30), kA3, kA3, (0, 800), (3, 4), kA3], [([(44, (-1)), (1, 1)], 0), ([(44, 1), (2, (-1))], (-1))], [], 25)], 5)
def xu_577 : List xCu := [(28, [0, 1], ([kc943, kc218, kc942, kc527], [kA3, (0, 800), (0, 800), kA3, kA3, kA3, kA6, kA3, kA3, kA3, kA3, kA3, kA3, kA3, kA3, kA3, kA3, kA3, kA3, kA3, kA3, kA3, kA3, kA3, kA3, kA3, kA3, (0, 24), (0, 6), (0, 30), (0, 24), (0, 6), (0, 30), (0, 24), (0, 6), (0, 30), (0, 24), (0, 6), (0, 30), (0, 24), (0, 5), (0, 30), kA3, kA3, (96, 116), (0, 800), (3, 4), kA3], [([(2, (-1)), (1, 1)], 0), ([(45, (-1)), (1, 1)], 0), ([(45, 1), (2, (-1))], (-1))], [kR 0, kI 44], 25), ([], 172)),
  (28, [0, 1], ([kc944, kc218, kc942, kc527], [kA3, (0, 800), (0, 800), kA3, kA3, kA3, kA6, kA3, kA3, kA3, kA3, kA3, kA3, kA3, kA3, kA3, kA3, kA3, kA3, kA3, kA3, kA3, kA3, kA3, kA3, kA3, kA3, (0, 24), (0, 6), (0, 30), (0, 24), (0, 6), (0, 30), (0, 24), (0, 6), (0, 30), (0, 24), (0, 6), (0, 30), (0, 24), (0, 5), (0, 30), kA3, kA3, (96, 116), (0, 800), (0, 2), kA3, kA3, kA6], [([(2, (-1)), (1, 1)], 0), ([(45, (-1)), (1, 1)], 0), ([(45, 1), (2, (-1))], 0)], [kR 0, kI 44], 25), ([], 172)),
  (28, [0, 1], ([kc945, kc218, kc942, kc527], [kA3, (0, 800), (0, 800), kA3, kA3, kA3, kA6, kA3, kA3, kA3, kA3, kA3, kA3, kA3, kA3, kA3, kA3, kA3, kA3, kA3, kA3, kA3, kA3, kA3, kA3, kA3, kA3, (0, 24), (0, 6), (0, 30), (0, 24), (0, 6), (0, 30), (0, 24), (0, 6), (0, 30), (0, 24), (0, 6), (0, 30), (0, 24), (0, 5), (0, 30), kA3, kA3, (96, 116), (0, 800), kA3, kA3, kA3, kA6, (1, 2), kA3], [([(2, (-1)), (1, 1)], 0), ([(45, (-1)), (1, 1)], 0), ([(45, 1), (2, (-1))], 0)], [kR 0, kI 44], 25), ([], 172)),
  (46, [0, 1], ([kc943, kc218, kc942, kc527], [kA3, (0, 800), (0, 800), kA3, kA3, kA3, kA6, kA3, kA3, kA3, kA3, kA3, kA3, kA3, kA3, kA3, kA3, kA3, kA3, kA3, kA3, kA3, kA3, kA3, kA3, kA3, kA3, (0, 24), (0, 6), (0, 30), (0, 24), (0, 6), (0, 30), (0, 24), (0, 6), (0, 30), (0, 24), (0, 6), (0, 30), (0, 24), (0, 5), (0, 30), kA3, kA3, (96, 116), (0, 800), (3, 4), kA3], [([(2, (-1)), (1, 1)], 0), ([(45, (-1)), (1, 1)], 0), ([(45, 1), (2, (-1))], (-1))], [kR 0, kI 44], 25), ([], 154)),
  (46, [0, 1], ([kc944, kc218, kc942, kc527], [kA3, (0, 800), (0, 800), kA3, kA3, kA3, kA6, kA3, kA3, kA3, kA3, kA3, kA3, kA3, kA3, kA3, kA3, kA3, kA3, kA3, kA3, kA3, kA3, kA3, kA3, kA3, kA3, (0, 24), (0, 6), (0, 30), (0, 24), (0, 6), (0, 30), (0, 24), (0, 6), (0, 30), (0, 24), (0, 6), (0, 30), (0, 24), (0, 5), (0, 30), kA3, kA3, (96, 116), (0, 800), (0, 2), kA3, kA3, kA6], [([(2, (-1)), (1, 1)], 0), ([(45, (-1)), (1, 1)], 0), ([(45, 1), (2, (-1))], 0)], [kR 0, kI 44], 25), ([], 154)),
  (46, [0, 1], ([kc945, kc218, kc942, kc527], [kA3, (0, 800), (0, 800), kA3, kA3, kA3, kA6, kA3, kA3, kA3, kA3, kA3, kA3, kA3, kA3, kA3, kA3, kA3, kA3, kA3, kA3, kA3, kA3, kA3, kA3, kA3, kA3, (0, 24), (0, 6), (0, 30), (0, 24), (0, 6), (0, 30), (0, 24), (0, 6), (0, 30), (0, 24), (0, 6), (0, 30), (0, 24), (0, 5), (0, 30), kA3, kA3, (96, 116), (0, 800), kA3, kA3, kA3, kA6, (1, 2), kA3], [([(2, (-1)), (1, 1)], 0), ([(45, (-1)), (1, 1)], 0), ([(45, 1), (2, (-1))], 0)], [kR 0, kI 44], 25), ([], 154)),
  (64, [0, 1], ([kc943, kc218, kc942, kc527], [kA3, (0, 800), (0, 800), kA3, kA3, kA3, kA6, kA3, kA3, kA3, kA3, kA3, kA3, kA3, kA3, kA3, kA3, kA3, kA3, kA3, kA3, kA3, kA3, kA3, kA3, kA3, kA3, (0, 24), (0, 6), (0, 30), (0, 24), (0, 6), (0, 30), (0, 24), (0, 6), (0, 30), (0, 24), (0, 6), (0, 30), (0, 24), (0, 5), (0, 30), kA3, kA3, (96, 116), (0, 800), (3, 4), kA3], [([(2, (-1)), (1, 1)], 0), ([(45, (-1)), (1, 1)], 0), ([(45, 1), (2, (-1))], (-1))], [kR 0, kI 44], 25), ([], 136)),
  (64, [0, 1], ([kc944, kc218, kc942, kc527], [kA3, (0, 800), (0, 800), kA3, kA3, kA3, kA6, kA3, kA3, kA3, kA3, kA3, kA3, kA3, kA3, kA3, kA3, kA3, kA3, kA3, kA3, kA3, kA3, kA3, kA3, kA3, kA3, (0, 24), (0, 6), (0, 30), (0, 24), (0, 6), (0, 30), (0, 24), (0, 6), (0, 30), (0, 24), (0, 6), (0, 30), (0, 24), (0, 5), (0, 30), kA3, kA3, (96, 116), (0, 800), (0, 2), kA3, kA3, kA6], [([(2, (-1)), (1, 1)], 0), ([(45, (-1)), (1, 1)], 0), ([(45, 1), (2, (-1))], 0)], [kR 0, kI 44], 25), ([], 136)),
  (64, [0, 1], ([kc945, kc218, kc942, kc527], [kA3, (0, 800), (0, 800), kA3, kA3, kA3, kA6, kA3, kA3, kA3, kA3, kA3, kA3, kA3, kA3, kA3, kA3, kA3, kA3, kA3, kA3, kA3, kA3, kA3, kA3, kA3, kA3, (0, 24), (0, 6), (0, 30), (0, 24), (0, 6), (0, 30), (0, 24), (0, 6), (0, 30), (0, 24), (0, 6), (0, 30), (0, 24), (0, 5), (0, 30), kA3, kA3, (96, 116), (0, 800), kA3, kA3, kA3, kA6, (1, 2), kA3], [([(2, (-1)), (1, 1)], 0), ([(45, (-1)), (1, 1)], 0), ([(45, 1), (2, (-1))], 0)], [kR 0, kI 44], 25), ([], 136))]
def xT_577 : List (Nat × xCt) := [(194, xc_247), (201, xc_570), (201, xc_572), (201, xc_573)]
theorem xv_577 : xVer0 xT_577 xHt 100000 208 xm_X10_manLine xc_577 xu_577 = true := by
  rw [← zVer0_eq]
  decide +kernel
theorem xw_577_0 : ((xu_577.drop 0).take 9).all (xVerC xT_577 xHt 100000 208 xm_X10_manLine xc_577 xu_577) = true := by
  rw [← zVerC_eq]
  decide +kernel
theorem xok_577 (l : Launch) : xCk l 208 xc_577 := ⟨xm_X10_manLine, rfl, xVer_ok xk_all (xHt_ok l) (T := xT_577) (xTc (xok_247 l) (xTc (xok_570 l) (xTc (xok_572 l) (xTc (xok_573 l) (xTn l))))) rfl (f := 100000) (cuts := xu_577) xv_577 (xAll0 (xAllS 0 9 xw_577_0 (xAllZ (by decide +kernel))))⟩
def kc946 : xC := kO 10 [kI 0, kX 20, kX 21, kX 22, kX 23, kR 1, kI 1, kI 44, kI 45, kI 46, kI 47, kJ 48, kI 49, kI 50, kI 8, kI 9, kX 24, kR 2, kX 25, kX 26, kX 27, kX 28, kX 29, kX 30, kI 10, kI 11, kI 12, kI 13, kI 14, kI 15, kI 16, kX 31, kX 32, kX 33, kX 34, kX 35, kX 36, kX 37, kI 17, kX 38, kX 39, kI 18, kI 19, kI 20, kX 40, kX 41, kX 42, kX 43, kX 44, kI 21, kI 22, kI 23, kI 24, kI 25, kI 26, kX 45]
def kc947 : xC := kAr 0 55 [(1, kS 27), (5, kB3), (1, kS 28), (1, kS 29), (3, kB3), (1, kS 30), (5, kB3), (1, kS 31), (1, kS 32), (3, kB3), (1, kS 33), (5, kB3), (1, kS 34), (1, kS 35), (3, kB3), (1, kS 36), (5, kB3), (1, kS 37), (1, kS 38), (3, kB3), (1, kS 51), (5, kB3), (1, kS 40), (1, kS 41), (1, kS 42), (1, kS 43), (1, kB3)]
def kc948 : xC := kO 10 [kI 0, kX 20, kX 21, kX 22, kX 23, kR 1, kI 1, kI 44, kI 45, kI 46, kI 47, kJ 48, kIc 0, kI 7, kI 8, kI 9, kX 24, kR 2, kX 25, kX 26, kX 27, kX 28, kX 29, kX 30, kI 10, kI 11, kI 12, kI 13, kI 14, kI 15, kI 16, kX 31, kX 32, kX 33, kX 34, kX 35, kX 36, kX 37, kI 17, kX 38, kX 39, kI 18, kI 19, kI 20, kX 40, kX 41, kX 42, kX 43, kX 44, kI 21, kI 22, kI 23, kI 24, kI 25, kI 26, kX 45]
def kc949 : xC := kAr 0 55 [(1, kS 27), (5, kB3), (1, kS 28), (1, kS 29), (3, kB3), (1, kS 30), (5, kB3), (1, kS 31), (1, kS 32), (3, kB3), (1, kS 33), (5, kB3), (1, kS 34), (1, kS 35), (3, kB3), (1, kS 36), (5, kB3), (1, kS 37), (1, kS 38), (3, kB3), (1, kS 49), (5, kB3), (1, kS 40), (1, kS 41), (1, kS 42), (1, kS 43), (1, kB3)]
def kc950 : xC := kO 10 [kI 0, kX 20, kX 21, kX 22, kX 23, kR 1, kI 1, kI 44, kI 45, kI 46, kIc 0, kJc 0, kIc 0, kI 7, kI 8, kI 9, kX 24, kR 2, kX 25, kX 26, kX 27, kX 28, kX 29, kX 30, kI 10, kI 11, kI 12, kI 13, kI 14, kI 15, kI 16, kX 31, kX 32, kX 33, kX 34, kX 35, kX 36, kX 37, kI 17, kX 38, kX 39, kI 18, kI 19, kI 20, kX 40, kX 41, kX 42, kX 43, kX 44, kI 21, kI 22, kI 23, kI 24, kI 25, kI 26, kX 45]
def kc951 : xC := kAr 0 55 [(1, kS 27), (5, kB3), (1, kS 28), (1, kS 29), (3, kB3), (1, kS 30), (5, kB3), (1, kS 31), (1, kS 32), (3, kB3), (1, kS 33), (5, kB3), (1, kS 34), (1, kS 35), (3, kB3), (1, kS 36), (5, kB3), (1, kS 37), (1, kS 38), (3, kB3), (1, kS 47), (5, kB3), (1, kS 40), (1, kS 41), (1, kS 42), (1, kS 43), (1, kB3)]
def kc952 : xC := kO 10 [kI 0, kX 20, kX 21, kX 22, kX 23, kR 1, kI 1, kI 2, kI 3, kI 4, kI 5, kJ 6, kIc 0, kI 7, kI 8, kI 9, kX 24, kR 2, kX 25, kX 26, kX 27, kX 28, kX 29, kX 30, kI 10, kI 11, kI 12, kI 13, kI 14, kI 15, kI 16, kX 31, kX 32, kX 33, kX 34, kX 35, kX 36, kX 37, kI 17, kX 38, kX 39, kI 18, kI 19, kI 20, kX 40, kX 41, kX 42, kX 43, kX 44, kI 21, kI 22, kI 23, kI 24, kI 25, kI 26, kX 45]
def kc953 : xC := kAr 0 55 [(1, kS 27), (5, kB3), (1, kS 28), (1, kS 29), (3, kB3), (1, kS 30), (5, kB3), (1, kS 31), (1, kS 32), (3, kB3), (1, kS 33), (5, kB3), (1, kS 34), (1, kS 35), (3, kB3), (1, kS 36), (5, kB3), (1, kS 37), (1, kS 38), (3, kB3), (1, kSc 1), (5, kB3), (1, kS 40), (1, kS 41), (1, kS 42), (1, kS 43), (1, kB3)]
def xc_578 : xCt := (([kc952, kc218, kc942], [kA3, (0, 800), (0, 800), kA3, kA3, kA3, kA6, kA3, kA3, kA3, kA3, kA3, kA3, kA3, kA3, kA3, kA3, kA3, kA3, kA3, kA3, kA3, kA3, kA3, kA3, kA3, kA3, (0, 24), (0, 6), (0, 30), (0, 24), (0, 6), (0, 30), (0, 24), (0, 6), (0, 30), (0, 24), (0, 6), (0, 30), (0, 24), (0, 6), (0, 30), kA3, kA3], [([(2, (-1)), (1, 1)], 0)], [kR 0], 26), [([kc946, kc218, kc947], [kA3, (0, 800), (0, 800), kA3, kA3, kA3, kA6, kA3, kA3, kA3, kA3, kA3, kA3, kA3, kA3, kA3, kA3, kA3, kA3, kA3, kA3, kA3, kA3, kA3, kA3, kA3, kA3, (0, 24), (0, 6), (0, 30), (0, 24), (0, 6), (0, 30), (0, 24), (0, 6), (0, 30), (0, 24), (0, 6), (0, 30), (0, 24), (0, 6), (0, 30), kA3, kA3, (0, 800), kA3, kA3, kA3, kA6, (1, 2), kA3, (1, 24)], [([(44, (-1)), (1, 1)], 0), ([(44, 1), (2, (-1))], 0)], [], 26), ([kc948, kc218, kc949], [kA3, (0, 800), (0, 800), kA3, kA3, kA3, kA6, kA3, kA3, kA3, kA3, kA3, kA3, kA3, kA3, kA3, kA3, kA3, kA3, kA3, kA3, kA3, kA3, kA3, kA3, kA3, kA3, (0, 24), (0, 6), (0, 30), (0, 24), (0, 6), (0, 30), (0, 24), (0, 6), (0, 30), (0, 24), (0, 6), (0, 30), (0, 24), (0, 6), (0, 30), kA3, kA3, (0, 800), (0, 2), kA3, kA3, kA6, (1, 24)], [([(44, (-1)), (1, 1)], 0), ([(44, 1), (2, (-1))], 0)], [], 26), ([kc950, kc218, kc951], [kA3, (0, 800), (0, 800), kA3, kA3, kA3, kA6, kA3, kA3, kA3, kA3, kA3, kA3, kA3, kA3, kA3, kA3, kA3, kA3, kA3, kA3, kA3, kA3, kA3, kA3, kA3, kA3, (0, 24), (0, 6), (0, 30), (0, 24), (0, 6), (0, 30), (0, 24), (0, 6), (0, 30), (0, 24), (0, 6), (0, 30), (0, 24), (0, 6), (0, 30), kA3, kA3, (0, 800), (3, 4), kA3, (1, 24)], [([(44, (-1)), (1, 1)], 0), ([(44, 1), (2, (-1))], (-1))], [], 26)], 5)
def xu_578 : List xCu := [(22, [0], ([kc946, kc218, kc953], [kA3, (0, 800), (0, 800), kA3, kA3, kA3, kA6, kA3, kA3, kA3, kA3, kA3, kA3, kA3, kA3, kA3, kA3, kA3, kA3, kA3, kA3, kA3, kA3, kA3, kA3, kA3, kA3, (0, 24), (0, 6), (0, 30), (0, 24), (0, 6), (0, 30), (0, 24), (0, 6), (0, 30), (0, 24), (0, 6), (0, 30), (0, 24), (0, 6), (0, 30), kA3, kA3, (0, 800), kA3, kA3, kA3, kA6, (1, 2), kA3], [([(2, (-1)), (1, 1)], 0), ([(44, (-1)), (1, 1)], 0), ([(44, 1), (2, (-1))], 0)], [kR 0], 26), ([], 178)),
  (22, [0], ([kc950, kc218, kc951], [kA3, (0, 800), (0, 800), (1, 1), kA3, kA3, (73877930591, 73877930591), kA3, kA3, kA3, kA3, kA3, kA3, kA3, kA3, kA3, kA3, kA3, kA3, kA3, kA3, kA3, kA3, kA3, kA3, kA3, kA3, (0, 24), (0, 6), (0, 30), (0, 24), (0, 6), (0, 30), (0, 24), (0, 6), (0, 30), (0, 24), (0, 6), (0, 30), (0, 24), (0, 6), (0, 30), kA3, kA3, (0, 800), (3, 4), kA3, (1, 24)], [([(2, (-1)), (1, 1)], 0), ([(44, (-1)), (1, 1)], 0), ([(44, 1), (2, (-1))], (-1))], [kR 0], 26), ([], 178)),
  (22, [0], ([kc948, kc218, kc949], [kA3, (0, 800), (0, 800), (1, 1), kA3, kA3, (73877930591, 73877930591), kA3, kA3, kA3, kA3, kA3, kA3, kA3, kA3, kA3, kA3, kA3, kA3, kA3, kA3, kA3, kA3, kA3, kA3, kA3, kA3, (0, 24), (0, 6), (0, 30), (0, 24), (0, 6), (0, 30), (0, 24), (0, 6), (0, 30), (0, 24), (0, 6), (0, 30), (0, 24), (0, 6), (0, 30), kA3, kA3, (0, 800), (0, 2), kA3, kA3, kA6, (1, 24)], [([(2, (-1)), (1, 1)], 0), ([(44, (-1)), (1, 1)], 0), ([(44, 1), (2, (-1))], 0)], [kR 0], 26), ([], 178)),
  (36, [0], ([kc946, kc218, kc947], [kA3, (0, 800), (0, 800), kA3, kA3, kA3, kA6, kA3, kA3, kA3, kA3, kA3, kA3, kA3, kA3, kA3, kA3, kA3, kA3, kA3, kA3, kA3, kA3, kA3, kA3, kA3, kA3, (0, 24), (0, 6), (0, 30), (0, 24), (0, 6), (0, 30), (0, 24), (0, 6), (0, 30), (0, 24), (0, 6), (0, 30), (0, 24), (0, 6), (0, 30), kA3, kA3, (0, 800), kA3, kA3, kA3, kA6, (1, 2), kA3, (1, 24)], [([(2, (-1)), (1, 1)], 0), ([(44, (-1)), (1, 1)], 0), ([(44, 1), (2, (-1))], 0)], [kR 0], 26), ([], 164)),
  (36, [0], ([kc950, kc218, kc951], [kA3, (0, 800), (0, 800), (1, 1), kA3, kA3, (73877930591, 73877930591), kA3, kA3, kA3, kA3, kA3, kA3, kA3, kA3, kA3, kA3, kA3, kA3, kA3, kA3, kA3, kA3, kA3, kA3, kA3, kA3, (0, 24), (0, 6), (0, 30), (0, 24), (0, 6), (0, 30), (0, 24), (0, 6), (0, 30), (0, 24), (0, 6), (0, 30), (0, 24), (0, 6), (0, 30), kA3, kA3, (0, 800), (3, 4), kA3, (1, 24)], [([(2, (-1)), (1, 1)], 0), ([(44, (-1)), (1, 1)], 0), ([(44, 1), (2, (-1))], (-1))], [kR 0], 26), ([], 164)),
  (36, [0], ([kc948, kc218, kc949], [kA3, (0, 800), (0, 800), (1, 1), kA3, kA3, (73877930591, 73877930591), kA3, kA3, kA3, kA3, kA3, kA3, kA3, kA3, kA3, kA3, kA3, kA3, kA3, kA3, kA3, kA3, kA3, kA3, kA3, kA3, (0, 24), (0, 6), (0, 30), (0, 24), (0, 6), (0, 30), (0, 24), (0, 6), (0, 30), (0, 24), (0, 6), (0, 30), (0, 24), (0, 6), (0, 30), kA3, kA3, (0, 800), (0, 2), kA3, kA3, kA6, (1, 24)], [([(2, (-1)), (1, 1)], 0), ([(44, (-1)), (1, 1)], 0), ([(44, 1), (2, (-1))], 0)], [kR 0], 26), ([], 164)),
  (50, [0], ([kc946, kc218, kc947], [kA3, (0, 800), (0, 800), kA3, kA3, kA3, kA6, kA3, kA3, kA3, kA3, kA3, kA3, kA3, kA3, kA3, kA3, kA3, kA3, kA3, kA3, kA3, kA3, kA3, kA3, kA3, kA3, (0, 24), (0, 6), (0, 30), (0, 24), (0, 6), (0, 30), (0, 24), (0, 6), (0, 30), (0, 24), (0, 6), (0, 30), (0, 24), (0, 6), (0, 30), kA3, kA3, (0, 800), kA3, kA3, kA3, kA6, (1, 2), kA3, (1, 24)], [([(2, (-1)), (1, 1)], 0), ([(44, (-1)), (1, 1)], 0), ([(44, 1), (2, (-1))], 0)], [kR 0], 26), ([], 150)),
  (50, [0], ([kc950, kc218, kc951], [kA3, (0, 800), (0, 800), (1, 1), kA3, kA3, (73877930591, 73877930591), kA3, kA3, kA3, kA3, kA3, kA3, kA3, kA3, kA3, kA3, kA3, kA3, kA3, kA3, kA3, kA3, kA3, kA3, kA3, kA3, (0, 24), (0, 6), (0, 30), (0, 24), (0, 6), (0, 30), (0, 24), (0, 6), (0, 30), (0, 24), (0, 6), (0, 30), (0, 24), (0, 6), (0, 30), kA3, kA3, (0, 800), (3, 4), kA3, (1, 24)], [([(2, (-1)), (1, 1)], 0), ([(44, (-1)), (1, 1)], 0), ([(44, 1), (2, (-1))], (-1))], [kR 0], 26), ([], 150)),
  (50, [0], ([kc948, kc218, kc949], [kA3, (0, 800), (0, 800), (1, 1), kA3, kA3, (73877930591, 73877930591), kA3, kA3, kA3, kA3, kA3, kA3, kA3, kA3, kA3, kA3, kA3, kA3, kA3, kA3, kA3, kA3, kA3, kA3, kA3, kA3, (0, 24), (0, 6), (0, 30), (0, 24), (0, 6), (0, 30), (0, 24), (0, 6), (0, 30), (0, 24), (0, 6), (0, 30), (0, 24), (0, 6), (0, 30), kA3, kA3, (0, 800), (0, 2), kA3, kA3, kA6, (1, 24)], [([(2, (-1)), (1, 1)], 0), ([(44, (-1)), (1, 1)], 0), ([(44, 1), (2, (-1))], 0)], [kR 0], 26), ([], 150)),
  (65, [0], ([kc946, kc218, kc947], [kA3, (0, 800), (0, 800), kA3, kA3, kA3, kA6, kA3, kA3, kA3, kA3, kA3, kA3, kA3, kA3, kA3, kA3, kA3, kA3, kA3, kA3, kA3, kA3, kA3, kA3, kA3, kA3, (0, 24), (0, 6), (0, 30), (0, 24), (0, 6), (0, 30), (0, 24), (0, 6), (0, 30), (0, 24), (0, 6), (0, 30), (0, 24), (0, 6), (0, 30), kA3, kA3, (0, 800), kA3, kA3, kA3, kA6, (1, 2), kA3, (1, 24)], [([(2, (-1)), (1, 1)], 0), ([(44, (-1)), (1, 1)], 0), ([(44, 1), (2, (-1))], 0)], [kR 0], 26), ([], 135)),
  (65, [0], ([kc950, kc218, kc951], [kA3, (0, 800), (0, 800), (1, 1), kA3, kA3, (73877930591, 73877930591), kA3, kA3, kA3, kA3, kA3, kA3, kA3, kA3, kA3, kA3, kA3, kA3, kA3, kA3, kA3, kA3, kA3, kA3, kA3, kA3, (0, 24), (0, 6), (0, 30), (0, 24), (0, 6), (0, 30), (0, 24), (0, 6), (0, 30), (0, 24), (0, 6), (0, 30), (0, 24), (0, 6), (0, 30), kA3, kA3, (0, 800), (3, 4), kA3, (1, 24)], [([(2, (-1)), (1, 1)], 0), ([(44, (-1)), (1, 1)], 0), ([(44, 1), (2, (-1))], (-1))], [kR 0], 26), ([], 135)),
  (65, [0], ([kc948, kc218, kc949], [kA3, (0, 800), (0, 800), (1, 1), kA3, kA3, (73877930591, 73877930591), kA3, kA3, kA3, kA3, kA3, kA3, kA3, kA3, kA3, kA3, kA3, kA3, kA3, kA3, kA3, kA3, kA3, kA3, kA3, kA3, (0, 24), (0, 6), (0, 30), (0, 24), (0, 6), (0, 30), (0, 24), (0, 6), (0, 30), (0, 24), (0, 6), (0, 30), (0, 24), (0, 6), (0, 30), kA3, kA3, (0, 800), (0, 2), kA3, kA3, kA6, (1, 24)], [([(2, (-1)), (1, 1)], 0), ([(44, (-1)), (1, 1)], 0), ([(44, 1), (2, (-1))], 0)], [kR 0], 26), ([], 135)),
  (80, [0], ([kc946, kc218, kc947], [kA3, (0, 800), (0, 800), kA3, kA3, kA3, kA6, kA3, kA3, kA3, kA3, kA3, kA3, kA3, kA3, kA3, kA3, kA3, kA3, kA3, kA3, kA3, kA3, kA3, kA3, kA3, kA3, (0, 24), (0, 6), (0, 30), (0, 24), (0, 6), (0, 30), (0, 24), (0, 6), (0, 30), (0, 24), (0, 6), (0, 30), (0, 24), (0, 6), (0, 30), kA3, kA3, (0, 800), kA3, kA3, kA3, kA6, (1, 2), kA3, (1, 24)], [([(2, (-1)), (1, 1)], 0), ([(44, (-1)), (1, 1)], 0), ([(44, 1), (2, (-1))], 0)], [kR 0], 26), ([], 120)),
  (80, [0], ([kc950, kc218, kc951], [kA3, (0, 800), (0, 800), (1, 1), kA3, kA3, (73877930591, 73877930591), kA3, kA3, kA3, kA3, kA3, kA3, kA3, kA3, kA3, kA3, kA3, kA3, kA3, kA3, kA3, kA3, kA3, kA3, kA3, kA3, (0, 24), (0, 6), (0, 30), (0, 24), (0, 6), (0, 30), (0, 24), (0, 6), (0, 30), (0, 24), (0, 6), (0, 30), (0, 24), (0, 6), (0, 30), kA3, kA3, (0, 800), (3, 4), kA3, (1, 24)], [([(2, (-1)), (1, 1)], 0), ([(44, (-1)), (1, 1)], 0), ([(44, 1), (2, (-1))], (-1))], [kR 0], 26), ([], 120)),
  (80, [0], ([kc948, kc218, kc949], [kA3, (0, 800), (0, 800), (1, 1), kA3, kA3, (73877930591, 73877930591), kA3, kA3, kA3, kA3, kA3, kA3, kA3, kA3, kA3, kA3, kA3, kA3, kA3, kA3, kA3, kA3, kA3, kA3, kA3, kA3, (0, 24), (0, 6), (0, 30), (0, 24), (0, 6), (0, 30), (0, 24), (0, 6), (0, 30), (0, 24), (0, 6), (0, 30), (0, 24), (0, 6), (0, 30), kA3, kA3, (0, 800), (0, 2), kA3, kA3, kA6, (1, 24)], [([(2, (-1)), (1, 1)], 0), ([(44, (-1)), (1, 1)], 0), ([(44, 1), (2, (-1))], 0)], [kR 0], 26), ([], 120))]
def xT_578 : List (Nat × xCt) := [(194, xc_247), (201, xc_567), (201, xc_568), (201, xc_569), (201, xc_570), (201, xc_571)]
theorem xv_578 : xVer0 xT_578 xHt 100000 213 xm_X10_garrisonLine xc_578 xu_578 = true := by
  rw [← zVer0_eq]
  decide +kernel
theorem xw_578_0 : ((xu_578.drop 0).take 12).all (xVerC xT_578 xHt 100000 213 xm_X10_garrisonLine xc_578 xu_578) = true := by
  rw [← zVerC_eq]
  decide +kernel
theorem xw_578_12 : ((xu_578.drop 12).take 3).all (xVerC xT_578 xHt 100000 213 xm_X10_garrisonLine xc_578 xu_578) = true := by
  rw [← zVerC_eq]
  decide +kernel
theorem xok_578 (l : Launch) : xCk l 213 xc_578 := ⟨xm_X10_garrisonLine, rfl, xVer_ok xk_all (xHt_ok l) (T := xT_578) (xTc (xok_247 l) (xTc (xok_567 l) (xTc (xok_568 l) (xTc (xok_569 l) (xTc (xok_570 l) (xTc (xok_571 l) (xTn l))))))) rfl (f := 100000) (cuts := xu_578) xv_578 (xAll0 (xAllS 0 12 xw_578_0 (xAllS 12 3 xw_578_12 (xAllZ (by decide +kernel)))))⟩
def kc954 : xC := kO 10 [kI 2, kX 20, kX 21, kX 22, kX 23, kR 1, kI 3, kI 45, kI 46, kI 47, kI 48, kJ 49, kI 50, kI 51, kI 10, kI 11, kX 24, kR 2, kX 25, kX 26, kR 3, kX 27, kX 28, kX 29, kI 12, kI 13, kI 14, kI 15, kI 16, kI 17, kI 18, kX 30, kX 31, kX 32, kX 33, kX 34, kX 35, kX 36, kI 19, kX 37, kX 38, kI 20, kI 21, kI 22, kX 39, kX 40, kX 41, kX 42, kX 43, kI 23, kI 24, kI 25, kI 26, kI 27, kI 28, kX 44]
def kc955 : xC := kAr 0 55 [(1, kS 29), (5, kB3), (1, kS 30), (1, kS 31), (3, kB3), (1, kS 32), (5, kB3), (1, kS 33), (1, kS 34), (3, kB3), (1, kS 35), (5, kB3), (1, kS 36), (1, kS 37), (3, kB3), (1, kS 38), (5, kB3), (1, kS 39), (1, kS 40), (3, kB3), (1, kS 41), (5, kB3), (1, kS 42), (1, kS 43), (1, kS 44), (1, kSc 1), (1, kB3)]
def kc956 : xC := kAr 0 120 [(96, kB 0 9), (24, kB 0 0)]
def kb86 : List xB := [(9, 9), (1, 3), kA3, (0, 800), (0, 800), kA3, kA3, kA3, kA6, kA3, kA3, kA3, kA3, kA3, kA3, kA3, kA3, kA3, kA3, kA3, kA3, kA3, kA3, kA3, kA3, kA3, kA3, kA3, kA3, (0, 24), (0, 6), (0, 30), (0, 24), (0, 6), (0, 30), (0, 24), (0, 6), (0, 30), (0, 24), (0, 6), (0, 30), (0, 24), (0, 6), (0, 30), kA3, (0, 800), kA3, kA3, kA3, kA6, (1, 2), kA3]
def kc957 : xC := kO 10 [kI 2, kX 20, kX 21, kX 22, kX 23, kR 1, kI 3, kI 45, kI 46, kI 47, kI 48, kJ 49, kIc 0, kI 9, kI 10, kI 11, kX 24, kR 2, kX 25, kX 26, kR 3, kX 27, kX 28, kX 29, kI 12, kI 13, kI 14, kI 15, kI 16, kI 17, kI 18, kX 30, kX 31, kX 32, kX 33, kX 34, kX 35, kX 36, kI 19, kX 37, kX 38, kI 20, kI 21, kI 22, kX 39, kX 40, kX 41, kX 42, kX 43, kI 23, kI 24, kI 25, kI 26, kI 27, kI 28, kX 44]
def kc958 : xC := kAr 0 120 [(96, kB 0 9), (24, kB 0 3)]
def kb87 : List xB := [(9, 9), (1, 3), kA3, (0, 800), (0, 800), kA3, kA3, kA3, kA6, kA3, kA3, kA3, kA3, kA3, kA3, kA3, kA3, kA3, kA3, kA3, kA3, kA3, kA3, kA3, kA3, kA3, kA3, kA3, kA3, (0, 24), (0, 6), (0, 30), (0, 24), (0, 6), (0, 30), (0, 24), (0, 6), (0, 30), (0, 24), (0, 6), (0, 30), (0, 24), (0, 6), (0, 30), kA3, (0, 800), (0, 2), kA3, kA3, kA6]
def kc959 : xC := kO 10 [kI 2, kX 20, kX 21, kX 22, kX 23, kR 1, kI 3, kI 45, kI 46, kI 47, kIc 0, kJc 0, kIc 0, kI 9, kI 10, kI 11, kX 24, kR 2, kX 25, kX 26, kR 3, kX 27, kX 28, kX 29, kI 12, kI 13, kI 14, kI 15, kI 16, kI 17, kI 18, kX 30, kX 31, kX 32, kX 33, kX 34, kX 35, kX 36, kI 19, kX 37, kX 38, kI 20, kI 21, kI 22, kX 39, kX 40, kX 41, kX 42, kX 43, kI 23, kI 24, kI 25, kI 26, kI 27, kI 28, kX 44]
def kb88 : List xB := [(9, 9), (1, 3), kA3, (0, 800), (0, 800), kA3, kA3, kA3, kA6, kA3, kA3, kA3, kA3, kA3, kA3, kA3, kA3, kA3, kA3, kA3, kA3, kA3, kA3, kA3, kA3, kA3, kA3, kA3, kA3, (0, 24), (0, 6), (0, 30), (0, 24), (0, 6), (0, 30), (0, 24), (0, 6), (0, 30), (0, 24), (0, 6), (0, 30), (0, 24), (0, 6), (0, 30), kA3, (0, 800), (3, 4), kA3]
def xe_579_0 : xPt := ([kc954, kc218, kc955, kc956], kb86, [([(45, (-1)), (3, 1)], 0), ([(45, 1), (4, (-1))], 0)], [], 25)
def xe_579_1 : xPt := ([kc957, kc218, kc955, kc958], kb87, [([(45, (-1)), (3, 1)], 0), ([(45, 1), (4, (-1))], 0)], [], 25)
def xe_579_2 : xPt := ([kc959, kc218, kc955, kc958], kb88, [([(45, (-1)), (3, 1)], 0), ([(45, 1), (4, (-1))], (-1))], [], 25)
def kc960 : xC := kO 10 [kI 2, kX 20, kX 21, kX 22, kX 23, kR 1, kI 3, kI 4, kI 5, kI 6, kI 7, kJ 8, kIc 0, kI 9, kI 10, kI 11, kX 24, kR 2, kX 25, kX 26, kR 3, kX 27, kX 28, kX 29, kI 12, kI 13, kI 14, kI 15, kI 16, kI 17, kI 18, kX 30, kX 31, kX 32, kX 33, kX 34, kX 35, kX 36, kI 19, kX 37, kX 38, kI 20, kI 21, kI 22, kX 39, kX 40, kX 41, kX 42, kX 43, kI 23, kI 24, kI 25, kI 26, kI 27, kI 28, kX 44]
def kc961 : xC := kAr 0 55 [(1, kS 29), (5, kB3), (1, kS 30), (1, kS 31), (3, kB3), (1, kS 32), (5, kB3), (1, kS 33), (1, kS 34), (3, kB3), (1, kS 35), (5, kB3), (1, kS 36), (1, kS 37), (3, kB3), (1, kS 38), (5, kB3), (1, kS 39), (1, kS 40), (3, kB3), (1, kS 41), (5, kB3), (1, kS 42), (1, kS 43), (1, kS 44), (1, kSc 0), (1, kB3)]
def kb89 : List xB := [(9, 9), (1, 3), kA3, (0, 800), (0, 800), kA3, kA3, kA3, kA6, kA3, kA3, kA3, kA3, kA3, kA3, kA3, kA3, kA3, kA3, kA3, kA3, kA3, kA3, kA3, kA3, kA3, kA3, kA3, kA3, (0, 24), (0, 6), (0, 30), (0, 24), (0, 6), (0, 30), (0, 24), (0, 6), (0, 30), (0, 24), (0, 6), (0, 30), (0, 24), (0, 6), (0, 30), kA3]
def kc962 : xC := kO 10 [kI 2, kX 20, kX 21, kX 22, kX 23, kR 1, kI 3, kI 47, kI 48, kI 49, kIc 0, kJc 0, kIc 0, kI 9, kI 10, kI 11, kX 24, kR 2, kX 25, kX 26, kR 3, kX 27, kX 28, kX 29, kI 12, kI 13, kI 14, kI 15, kI 16, kI 17, kI 18, kX 30, kX 31, kX 32, kX 33, kX 34, kX 35, kX 36, kI 19, kX 37, kX 38, kI 20, kI 21, kI 22, kX 39, kX 40, kX 41, kX 42, kX 43, kI 23, kI 24, kI 25, kI 26, kI 27, kI 28, kX 44]
def kc963 : xC := kAr 0 120 [(96, kB 0 9), (23, kB 0 3), (1, kB 0 0)]
def kb90 : List xB := [(9, 9), (1, 3), kA3, (0, 800), (0, 800), kA3, kA3, kA3, kA6, kA3, kA3, kA3, kA3, kA3, kA3, kA3, kA3, kA3, kA3, kA3, kA3, kA3, kA3, kA3, kA3, kA3, kA3, kA3, kA3, (0, 24), (0, 6), (0, 30), (0, 24), (0, 6), (0, 30), (0, 24), (0, 6), (0, 30), (0, 24), (0, 6), (0, 30), (0, 24), (0, 6), (0, 30), kA3, (0, 23), (0, 23), (0, 800), (3, 4), kA3]
def kc964 : xC := kAr 0 120 [(96, kB 0 9), (22, kB 0 3), (2, kB 0 0)]
def kb91 : List xB := [(9, 9), (1, 3), kA3, (0, 800), (0, 800), kA3, kA3, kA3, kA6, kA3, kA3, kA3, kA3, kA3, kA3, kA3, kA3, kA3, kA3, kA3, kA3, kA3, kA3, kA3, kA3, kA3, kA3, kA3, kA3, (0, 24), (0, 6), (0, 30), (0, 24), (0, 6), (0, 30), (0, 24), (0, 6), (0, 30), (0, 24), (0, 6), (0, 30), (0, 24), (0, 6), (0, 30), kA3, (0, 22), (0, 23), (0, 800), (3, 4), kA3]
def kc965 : xC := kAr 0 120 [(96, kB 0 9), (21, kB 0 3), (3, kB 0 0)]
def kb92 : List xB := [(9, 9), (1, 3), kA3, (0, 800), (0, 800), kA3, kA3, kA3, kA6, kA3, kA3, kA3, kA3, kA3, kA3, kA3, kA3, kA3, kA3, kA3, kA3, kA3, kA3, kA3, kA3, kA3, kA3, kA3, kA3, (0, 24), (0, 6), (0, 30), (0, 24), (0, 6), (0, 30), (0, 24), (0, 6), (0, 30), (0, 24), (0, 6), (0, 30), (0, 24), (0, 6), (0, 30), kA3, (0, 21), (0, 23), (0, 800), (3, 4), kA3]
def kc966 : xC := kAr 0 120 [(96, kB 0 9), (20, kB 0 3), (4, kB 0 0)]
def kb93 : List xB := [(9, 9), (1, 3), kA3, (0, 800), (0, 800), kA3, kA3, kA3, kA6, kA3, kA3, kA3, kA3, kA3, kA3, kA3, kA3, kA3, kA3, kA3, kA3, kA3, kA3, kA3, kA3, kA3, kA3, kA3, kA3, (0, 24), (0, 6), (0, 30), (0, 24), (0, 6), (0, 30), (0, 24), (0, 6), (0, 30), (0, 24), (0, 6), (0, 30), (0, 24), (0, 6), (0, 30), kA3, (0, 20), (0, 23), (0, 800), (3, 4), kA3]
def kc967 : xC := kAr 0 120 [(96, kB 0 9), (19, kB 0 3), (5, kB 0 0)]
def kb94 : List xB := [(9, 9), (1, 3), kA3, (0, 800), (0, 800), kA3, kA3, kA3, kA6, kA3, kA3, kA3, kA3, kA3, kA3, kA3, kA3, kA3, kA3, kA3, kA3, kA3, kA3, kA3, kA3, kA3, kA3, kA3, kA3, (0, 24), (0, 6), (0, 30), (0, 24), (0, 6), (0, 30), (0, 24), (0, 6), (0, 30), (0, 24), (0, 6), (0, 30), (0, 24), (0, 6), (0, 30), kA3, (0, 19), (0, 23), (0, 800), (3, 4), kA3]
def kc968 : xC := kAr 0 120 [(96, kB 0 9), (18, kB 0 3), (6, kB 0 0)]
def kb95 : List xB := [(9, 9), (1, 3), kA3, (0, 800), (0, 800), kA3, kA3, kA3, kA6, kA3, kA3, kA3, kA3, kA3, kA3, kA3, kA3, kA3, kA3, kA3, kA3, kA3, kA3, kA3, kA3, kA3, kA3, kA3, kA3, (0, 24), (0, 6), (0, 30), (0, 24), (0, 6), (0, 30), (0, 24), (0, 6), (0, 30), (0, 24), (0, 6), (0, 30), (0, 24), (0, 6), (0, 30), kA3, (0, 18), (0, 23), (0, 800), (3, 4), kA3]
def kc969 : xC := kAr 0 120 [(96, kB 0 9), (17, kB 0 3), (7, kB 0 0)]
def kb96 : List xB := [(9, 9), (1, 3), kA3, (0, 800), (0, 800), kA3, kA3, kA3, kA6, kA3, kA3, kA3, kA3, kA3, kA3, kA3, kA3, kA3, kA3, kA3, kA3, kA3, kA3, kA3, kA3, kA3, kA3, kA3, kA3, (0, 24), (0, 6), (0, 30), (0, 24), (0, 6), (0, 30), (0, 24), (0, 6), (0, 30), (0, 24), (0, 6), (0, 30), (0, 24), (0, 6), (0, 30), kA3, (0, 17), (0, 23), (0, 800), (3, 4), kA3]
def kc970 : xC := kAr 0 120 [(96, kB 0 9), (16, kB 0 3), (8, kB 0 0)]
def kb97 : List xB := [(9, 9), (1, 3), kA3, (0, 800), (0, 800), kA3, kA3, kA3, kA6, kA3, kA3, kA3, kA3, kA3, kA3, kA3, kA3, kA3, kA3, kA3, kA3, kA3, kA3, kA3, kA3, kA3, kA3, kA3, kA3, (0, 24), (0, 6), (0, 30), (0, 24), (0, 6), (0, 30), (0, 24), (0, 6), (0, 30), (0, 24), (0, 6), (0, 30), (0, 24), (0, 6), (0, 30), kA3, (0, 16), (0, 23), (0, 800), (3, 4), kA3]
def kc971 : xC := kAr 0 120 [(96, kB 0 9), (15, kB 0 3), (9, kB 0 0)]
def kb98 : List xB := [(9, 9), (1, 3), kA3, (0, 800), (0, 800), kA3, kA3, kA3, kA6, kA3, kA3, kA3, kA3, kA3, kA3, kA3, kA3, kA3, kA3, kA3, kA3, kA3, kA3, kA3, kA3, kA3, kA3, kA3, kA3, (0, 24), (0, 6), (0, 30), (0, 24), (0, 6), (0, 30), (0, 24), (0, 6), (0, 30), (0, 24), (0, 6), (0, 30), (0, 24), (0, 6), (0, 30), kA3, (0, 15), (0, 23), (0, 800), (3, 4), kA3]
def kc972 : xC := kAr 0 120 [(96, kB 0 9), (14, kB 0 3), (10, kB 0 0)]
def kb99 : List xB := [(9, 9), (1, 3), kA3, (0, 800), (0, 800), kA3, kA3, kA3, kA6, kA3, kA3, kA3, kA3, kA3, kA3, kA3, kA3, kA3, kA3, kA3, kA3, kA3, kA3, kA3, kA3, kA3, kA3, kA3, kA3, (0, 24), (0, 6), (0, 30), (0, 24), (0, 6), (0, 30), (0, 24), (0, 6), (0, 30), (0, 24), (0, 6), (0, 30), (0, 24), (0, 6), (0, 30), kA3, (0, 14), (0, 23), (0, 800), (3, 4), kA3]
def kc973 : xC := kAr 0 120 [(96, kB 0 9), (13, kB 0 3), (11, kB 0 0)]
def kb100 : List xB := [(9, 9), (1, 3), kA3, (0, 800), (0, 800), kA3, kA3, kA3, kA6, kA3, kA3, kA3, kA3, kA3, kA3, kA3, kA3, kA3, kA3, kA3, kA3, kA3, kA3, kA3, kA3, kA3, kA3, kA3, kA3, (0, 24), (0, 6), (0, 30), (0, 24), (0, 6), (0, 30), (0, 24), (0, 6), (0, 30), (0, 24), (0, 6), (0, 30), (0, 24), (0, 6), (0, 30), kA3, (0, 13), (0, 23), (0, 800), (3, 4), kA3]
def kc974 : xC := kAr 0 120 [(96, kB 0 9), (12, kB 0 3), (12, kB 0 0)]
def kb101 : List xB := [(9, 9), (1, 3), kA3, (0, 800), (0, 800), kA3, kA3, kA3, kA6, kA3, kA3, kA3, kA3, kA3, kA3, kA3, kA3, kA3, kA3, kA3, kA3, kA3, kA3, kA3, kA3, kA3, kA3, kA3, kA3, (0, 24), (0, 6), (0, 30), (0, 24), (0, 6), (0, 30), (0, 24), (0, 6), (0, 30), (0, 24), (0, 6), (0, 30), (0, 24), (0, 6), (0, 30), kA3, (0, 12), (0, 23), (0, 800), (3, 4), kA3]
def kc975 : xC := kAr 0 120 [(96, kB 0 9), (11, kB 0 3), (13, kB 0 0)]
def kb102 : List xB := [(9, 9), (1, 3), kA3, (0, 800), (0, 800), kA3, kA3, kA3, kA6, kA3, kA3, kA3, kA3, kA3, kA3, kA3, kA3, kA3, kA3, kA3, kA3, kA3, kA3, kA3, kA3, kA3, kA3, kA3, kA3, (0, 24), (0, 6), (0, 30), (0, 24), (0, 6), (0, 30), (0, 24), (0, 6), (0, 30), (0, 24), (0, 6), (0, 30), (0, 24), (0, 6), (0, 30), kA3, (0, 11), (0, 23), (0, 800), (3, 4), kA3]
def kc976 : xC := kAr 0 120 [(96, kB 0 9), (10, kB 0 3), (14, kB 0 0)]
def kb103 : List xB := [(9, 9), (1, 3), kA3, (0, 800), (0, 800), kA3, kA3, kA3, kA6, kA3, kA3, kA3, kA3, kA3, kA3, kA3, kA3, kA3, kA3, kA3, kA3, kA3, kA3, kA3, kA3, kA3, kA3, kA3, kA3, (0, 24), (0, 6), (0, 30), (0, 24), (0, 6), (0, 30), (0, 24), (0, 6), (0, 30), (0, 24), (0, 6), (0, 30), (0, 24), (0, 6), (0, 30), kA3, (0, 10), (0, 23), (0, 800), (3, 4), kA3]
def kc977 : xC := kAr 0 120 [(96, kB 0 9), (9, kB 0 3), (15, kB 0 0)]
def kb104 : List xB := [(9, 9), (1, 3), kA3, (0, 800), (0, 800), kA3, kA3, kA3, kA6, kA3, kA3, kA3, kA3, kA3, kA3, kA3, kA3, kA3, kA3, kA3, kA3, kA3, kA3, kA3, kA3, kA3, kA3, kA3, kA3, (0, 24), (0, 6), (0, 30), (0, 24), (0, 6), (0, 30), (0, 24), (0, 6), (0, 30), (0, 24), (0, 6), (0, 30), (0, 24), (0, 6), (0, 30), kA3, (0, 9), (0, 23), (0, 800), (3, 4), kA3]
def kc978 : xC := kAr 0 120 [(96, kB 0 9), (8, kB 0 3), (16, kB 0 0)]
def kb105 : List xB := [(9, 9), (1, 3), kA3, (0, 800), (0, 800), kA3, kA3, kA3, kA6, kA3, kA3, kA3, kA3, kA3, kA3, kA3, kA3, kA3, kA3, kA3, kA3, kA3, kA3, kA3, kA3, kA3, kA3, kA3, kA3, (0, 24), (0, 6), (0, 30), (0, 24), (0, 6), (0, 30), (0, 24), (0, 6), (0, 30), (0, 24), (0, 6), (0, 30), (0, 24), (0, 6), (0, 30), kA3, (0, 8), (0, 23), (0, 800), (3, 4), kA3]
def kc979 : xC := kAr 0 120 [(96, kB 0 9), (7, kB 0 3), (17, kB 0 0)]
def kb106 : List xB := [(9, 9), (1, 3), kA3, (0, 800), (0, 800), kA3, kA3, kA3, kA6, kA3, kA3, kA3, kA3, kA3, kA3, kA3, kA3, kA3, kA3, kA3, kA3, kA3, kA3, kA3, kA3, kA3, kA3, kA3, kA3, (0, 24), (0, 6), (0, 30), (0, 24), (0, 6), (0, 30), (0, 24), (0, 6), (0, 30), (0, 24), (0, 6), (0, 30), (0, 24), (0, 6), (0, 30), kA3, (0, 7), (0, 23), (0, 800), (3, 4), kA3]
def kc980 : xC := kAr 0 120 [(96, kB 0 9), (6, kB 0 3), (18, kB 0 0)]
def kb107 : List xB := [(9, 9), (1, 3), kA3, (0, 800), (0, 800), kA3, kA3, kA3, kA6, kA3, kA3, kA3, kA3, kA3, kA3, kA3, kA3, kA3, kA3, kA3, kA3, kA3, kA3, kA3, kA3, kA3, kA3, kA3, kA3, (0, 24), (0, 6), (0, 30), (0, 24), (0, 6), (0, 30), (0, 24), (0, 6), (0, 30), (0, 24), (0, 6), (0, 30), (0, 24), (0, 6), (0, 30), kA3, (0, 6), (0, 23), (0, 800), (3, 4), kA3]
def kc981 : xC := kAr 0 120 [(96, kB 0 9), (5, kB 0 3), (19, kB 0 0)]
def kb108 : List xB := [(9, 9), (1, 3), kA3, (0, 800), (0, 800), kA3, kA3, kA3, kA6, kA3, kA3, kA3, kA3, kA3, kA3, kA3, kA3, kA3, kA3, kA3, kA3, kA3, kA3, kA3, kA3, kA3, kA3, kA3, kA3, (0, 24), (0, 6), (0, 30), (0, 24), (0, 6), (0, 30), (0, 24), (0, 6), (0, 30), (0, 24), (0, 6), (0, 30), (0, 24), (0, 6), (0, 30), kA3, (0, 5), (0, 23), (0, 800), (3, 4), kA3]
def kc982 : xC := kAr 0 120 [(96, kB 0 9), (4, kB 0 3), (20, kB 0 0)]
def kb109 : List xB := [(9, 9), (1, 3), kA3, (0, 800), (0, 800), kA3, kA3, kA3, kA6, kA3, kA3, kA3, kA3, kA3, kA3, kA3, kA3, kA3, kA3, kA3, kA3, kA3, kA3, kA3, kA3, kA3, kA3, kA3, kA3, (0, 24), (0, 6), (0, 30), (0, 24), (0, 6), (0, 30), (0, 24), (0, 6), (0, 30), (0, 24), (0, 6), (0, 30), (0, 24), (0, 6), (0, 30), kA3, (0, 4), (0, 23), (0, 800), (3, 4), kA3]
def kc983 : xC := kAr 0 120 [(96, kB 0 9), (3, kB 0 3), (21, kB 0 0)]
def kb110 : List xB := [(9, 9), (1, 3), kA3, (0, 800), (0, 800), kA3, kA3, kA3, kA6, kA3, kA3, kA3, kA3, kA3, kA3, kA3, kA3, kA3, kA3, kA3, kA3, kA3, kA3, kA3, kA3, kA3, kA3, kA3, kA3, (0, 24), (0, 6), (0, 30), (0, 24), (0, 6), (0, 30), (0, 24), (0, 6), (0, 30), (0, 24), (0, 6), (0, 30), (0, 24), (0, 6), (0, 30), kA3, (0, 3), (0, 23), (0, 800), (3, 4), kA3]
def kc984 : xC := kAr 0 120 [(96, kB 0 9), (2, kB 0 3), (22, kB 0 0)]
def kb111 : List xB := [(9, 9), (1, 3), kA3, (0, 800), (0, 800), kA3, kA3, kA3, kA6, kA3, kA3, kA3, kA3, kA3, kA3, kA3, kA3, kA3, kA3, kA3, kA3, kA3, kA3, kA3, kA3, kA3, kA3, kA3, kA3, (0, 24), (0, 6), (0, 30), (0, 24), (0, 6), (0, 30), (0, 24), (0, 6), (0, 30), (0, 24), (0, 6), (0, 30), (0, 24), (0, 6), (0, 30), kA3, (0, 2), (0, 23), (0, 800), (3, 4), kA3]
def kc985 : xC := kAr 0 120 [(96, kB 0 9), (1, kB 0 3), (23, kB 0 0)]
def kb112 : List xB := [(9, 9), (1, 3), kA3, (0, 800), (0, 800), kA3, kA3, kA3, kA6, kA3, kA3, kA3, kA3, kA3, kA3, kA3, kA3, kA3, kA3, kA3, kA3, kA3, kA3, kA3, kA3, kA3, kA3, kA3, kA3, (0, 24), (0, 6), (0, 30), (0, 24), (0, 6), (0, 30), (0, 24), (0, 6), (0, 30), (0, 24), (0, 6), (0, 30), (0, 24), (0, 6), (0, 30), kA3, (0, 1), (0, 23), (0, 800), (3, 4), kA3]
def kc986 : xC := kO 10 [kI 2, kX 20, kX 21, kX 22, kX 23, kR 1, kI 3, kI 46, kI 47, kI 48, kIc 0, kJc 0, kIc 0, kI 9, kI 10, kI 11, kX 24, kR 2, kX 25, kX 26, kR 3, kX 27, kX 28, kX 29, kI 12, kI 13, kI 14, kI 15, kI 16, kI 17, kI 18, kX 30, kX 31, kX 32, kX 33, kX 34, kX 35, kX 36, kI 19, kX 37, kX 38, kI 20, kI 21, kI 22, kX 39, kX 40, kX 41, kX 42, kX 43, kI 23, kI 24, kI 25, kI 26, kI 27, kI 28, kX 44]
def kb113 : List xB := [(9, 9), (1, 3), kA3, (0, 800), (0, 800), kA3, kA3, kA3, kA6, kA3, kA3, kA3, kA3, kA3, kA3, kA3, kA3, kA3, kA3, kA3, kA3, kA3, kA3, kA3, kA3, kA3, kA3, kA3, kA3, (0, 24), (0, 6), (0, 30), (0, 24), (0, 6), (0, 30), (0, 24), (0, 6), (0, 30), (0, 24), (0, 6), (0, 30), (0, 24), (0, 6), (0, 30), kA3, (0, 23), (0, 800), (3, 4), kA3]
def kc987 : xC := kO 10 [kI 2, kX 20, kX 21, kX 22, kX 23, kR 1, kI 3, kI 47, kI 48, kI 49, kI 50, kJ 51, kIc 0, kI 9, kI 10, kI 11, kX 24, kR 2, kX 25, kX 26, kR 3, kX 27, kX 28, kX 29, kI 12, kI 13, kI 14, kI 15, kI 16, kI 17, kI 18, kX 30, kX 31, kX 32, kX 33, kX 34, kX 35, kX 36, kI 19, kX 37, kX 38, kI 20, kI 21, kI 22, kX 39, kX 40, kX 41, kX 42, kX 43, kI 23, kI 24, kI 25, kI 26, kI 27, kI 28, kX 44]
def kb114 : List xB := [(9, 9), (1, 3), kA3, (0, 800), (0, 800), kA3, kA3, kA3, kA6, kA3, kA3, kA3, kA3, kA3, kA3, kA3, kA3, kA3, kA3, kA3, kA3, kA3, kA3, kA3, kA3, kA3, kA3, kA3, kA3, (0, 24), (0, 6), (0, 30), (0, 24), (0, 6), (0, 30), (0, 24), (0, 6), (0, 30), (0, 24), (0, 6), (0, 30), (0, 24), (0, 6), (0, 30), kA3, (0, 23), (0, 23), (0, 800), (0, 2), kA3, kA3, kA6]
def kb115 : List xB := [(9, 9), (1, 3), kA3, (0, 800), (0, 800), kA3, kA3, kA3, kA6, kA3, kA3, kA3, kA3, kA3, kA3, kA3, kA3, kA3, kA3, kA3, kA3, kA3, kA3, kA3, kA3, kA3, kA3, kA3, kA3, (0, 24), (0, 6), (0, 30), (0, 24), (0, 6), (0, 30), (0, 24), (0, 6), (0, 30), (0, 24), (0, 6), (0, 30), (0, 24), (0, 6), (0, 30), kA3, (0, 22), (0, 23), (0, 800), (0, 2), kA3, kA3, kA6]
def kb116 : List xB := [(9, 9), (1, 3), kA3, (0, 800), (0, 800), kA3, kA3, kA3, kA6, kA3, kA3, kA3, kA3, kA3, kA3, kA3, kA3, kA3, kA3, kA3, kA3, kA3, kA3, kA3, kA3, kA3, kA3, kA3, kA3, (0, 24), (0, 6), (0, 30), (0, 24), (0, 6), (0, 30), (0, 24), (0, 6), (0, 30), (0, 24), (0, 6), (0, 30), (0, 24), (0, 6), (0, 30), kA3, (0, 21), (0, 23), (0, 800), (0, 2), kA3, kA3, kA6]
def kb117 : List xB := [(9, 9), (1, 3), kA3, (0, 800), (0, 800), kA3, kA3, kA3, kA6, kA3, kA3, kA3, kA3, kA3, kA3, kA3, kA3, kA3, kA3, kA3, kA3, kA3, kA3, kA3, kA3, kA3, kA3, kA3, kA3, (0, 24), (0, 6), (0, 30), (0, 24), (0, 6), (0, 30), (0, 24), (0, 6), (0, 30), (0, 24), (0, 6), (0, 30), (0, 24), (0, 6), (0, 30), kA3, (0, 20), (0, 23), (0, 800), (0, 2), kA3, kA3, kA6]
def kb118 : List xB := [(9, 9), (1, 3), kA3, (0, 800), (0, 800), kA3, kA3, kA3, kA6, kA3, kA3, kA3, kA3, kA3, kA3, kA3, kA3, kA3, kA3, kA3, kA3, kA3, kA3, kA3, kA3, kA3, kA3, kA3, kA3, (0, 24), (0, 6), (0, 30), (0, 24), (0, 6), (0, 30), (0, 24), (0, 6), (0, 30), (0, 24), (0, 6), (0, 30), (0, 24), (0, 6), (0, 30), kA3, (0, 19), (0, 23), (0, 800), (0, 2), kA3, kA3, kA6]
def kb119 : List xB := [(9, 9), (1, 3), kA3, (0, 800), (0, 800), kA3, kA3, kA3, kA6, kA3, kA3, kA3, kA3, kA3, kA3, kA3, kA3, kA3, kA3, kA3, kA3, kA3, kA3, kA3, kA3, kA3, kA3, kA3, kA3, (0, 24), (0, 6), (0, 30), (0, 24), (0, 6), (0, 30), (0, 24), (0, 6), (0, 30), (0, 24), (0, 6), (0, 30), (0, 24), (0, 6), (0, 30), kA3, (0, 18), (0, 23), (0, 800), (0, 2), kA3, kA3, kA6]
def kb120 : List xB := [(9, 9), (1, 3), kA3, (0, 800), (0, 800), kA3, kA3, kA3, kA6, kA3, kA3, kA3, kA3, kA3, kA3, kA3, kA3, kA3, kA3, kA3, kA3, kA3, kA3, kA3, kA3, kA3, kA3, kA3, kA3, (0, 24), (0, 6), (0, 30), (0, 24), (0, 6), (0, 30), (0, 24), (0, 6), (0, 30), (0, 24), (0, 6), (0, 30), (0, 24), (0, 6), (0, 30), kA3, (0, 17), (0, 23), (0, 800), (0, 2), kA3, kA3, kA6]
def kb121 : List xB := [(9, 9), (1, 3), kA3, (0, 800), (0, 800), kA3, kA3, kA3, kA6, kA3, kA3, kA3, kA3, kA3, kA3, kA3, kA3, kA3, kA3, kA3, kA3, kA3, kA3, kA3, kA3, kA3, kA3, kA3, kA3, (0, 24), (0, 6), (0, 30), (0, 24), (0, 6), (0, 30), (0, 24), (0, 6), (0, 30), (0, 24), (0, 6), (0, 30), (0, 24), (0, 6), (0, 30), kA3, (0, 16), (0, 23), (0, 800), (0, 2), kA3, kA3, kA6]
def kb122 : List xB := [(9, 9), (1, 3), kA3, (0, 800), (0, 800), kA3, kA3, kA3, kA6, kA3, kA3, kA3, kA3, kA3, kA3, kA3, kA3, kA3, kA3, kA3, kA3, kA3, kA3, kA3, kA3, kA3, kA3, kA3, kA3, (0, 24), (0, 6), (0, 30), (0, 24), (0, 6), (0, 30), (0, 24), (0, 6), (0, 30), (0, 24), (0, 6), (0, 30), (0, 24), (0, 6), (0, 30), kA3, (0, 15), (0, 23), (0, 800), (0, 2), kA3, kA3, kA6]
def kb123 : List xB := [(9, 9), (1, 3), kA3, (0, 800), (0, 800), kA3, kA3, kA3, kA6, kA3, kA3, kA3, kA3, kA3, kA3, kA3, kA3, kA3, kA3, kA3, kA3, kA3, kA3, kA3, kA3, kA3, kA3, kA3, kA3, (0, 24), (0, 6), (0, 30), (0, 24), (0, 6), (0, 30), (0, 24), (0, 6), (0, 30), (0, 24), (0, 6), (0, 30), (0, 24), (0, 6), (0, 30), kA3, (0, 14), (0, 23), (0, 800), (0, 2), kA3, kA3, kA6]
def kb124 : List xB := [(9, 9), (1, 3), kA3, (0, 800), (0, 800), kA3, kA3, kA3, kA6, kA3, kA3, kA3, kA3, kA3, kA3, kA3, kA3, kA3, kA3, kA3, kA3, kA3, kA3, kA3, kA3, kA3, kA3, kA3, kA3, (0, 24), (0, 6), (0, 30), (0, 24), (0, 6), (0, 30), (0, 24), (0, 6), (0, 30), (0, 24), (0, 6), (0, 30), (0, 24), (0, 6), (0, 30), kA3, (0, 13), (0, 23), (0, 800), (0, 2), kA3, kA3, kA6]
def kb125 : List xB := [(9, 9), (1, 3), kA3, (0, 800), (0, 800), kA3, kA3, kA3, kA6, kA3, kA3, kA3, kA3, kA3, kA3, kA3, kA3, kA3, kA3, kA3, kA3, kA3, kA3, kA3, kA3, kA3, kA3, kA3, kA3, (0, 24), (0, 6), (0, 30), (0, 24), (0, 6), (0, 30), (0, 24), (0, 6), (0, 30), (0, 24), (0, 6), (0, 30), (0, 24), (0, 6), (0, 30), kA3, (0, 12), (0, 23), (0, 800), (0, 2), kA3, kA3, kA6]
def kb126 : List xB := [(9, 9), (1, 3), kA3, (0, 800), (0, 800), kA3, kA3, kA3, kA6, kA3, kA3, kA3, kA3, kA3, kA3, kA3, kA3, kA3, kA3, kA3, kA3, kA3, kA3, kA3, kA3, kA3, kA3, kA3, kA3, (0, 24), (0, 6), (0, 30), (0, 24), (0, 6), (0, 30), (0, 24), (0, 6), (0, 30), (0, 24), (0, 6), (0, 30), (0, 24), (0, 6), (0, 30), kA3, (0, 11), (0, 23), (0, 800), (0, 2), kA3, kA3, kA6]
def kb127 : List xB := [(9, 9), (1, 3), kA3, (0, 800), (0, 800), kA3, kA3, kA3, kA6, kA3, kA3, kA3, kA3, kA3, kA3, kA3, kA3, kA3, kA3, kA3, kA3, kA3, kA3, kA3, kA3, kA3, kA3, kA3, kA3, (0, 24), (0, 6), (0, 30), (0, 24), (0, 6), (0, 30), (0, 24), (0, 6), (0, 30), (0, 24), (0, 6), (0, 30), (0, 24), (0, 6), (0, 30), kA3, (0, 10), (0, 23), (0, 800), (0, 2), kA3, kA3, kA6]
def kb128 : List xB := [(9, 9), (1, 3), kA3, (0, 800), (0, 800), kA3, kA3, kA3, kA6, kA3, kA3, kA3, kA3, kA3, kA3, kA3, kA3, kA3, kA3, kA3, kA3, kA3, kA3, kA3, kA3, kA3, kA3, kA3, kA3, (0, 24), (0, 6), (0, 30), (0, 24), (0, 6), (0, 30), (0, 24), (0, 6), (0, 30), (0, 24), (0, 6), (0, 30), (0, 24), (0, 6), (0, 30), kA3, (0, 9), (0, 23), (0, 800), (0, 2), kA3, kA3, kA6]
def kb129 : List xB := [(9, 9), (1, 3), kA3, (0, 800), (0, 800), kA3, kA3, kA3, kA6, kA3, kA3, kA3, kA3, kA3, kA3, kA3, kA3, kA3, kA3, kA3, kA3, kA3, kA3, kA3, kA3, kA3, kA3, kA3, kA3, (0, 24), (0, 6), (0, 30), (0, 24), (0, 6), (0, 30), (0, 24), (0, 6), (0, 30), (0, 24), (0, 6), (0, 30), (0, 24), (0, 6), (0, 30), kA3, (0, 8), (0, 23), (0, 800), (0, 2), kA3, kA3, kA6]
def kb130 : List xB := [(9, 9), (1, 3), kA3, (0, 800), (0, 800), kA3, kA3, kA3, kA6, kA3, kA3, kA3, kA3, kA3, kA3, kA3, kA3, kA3, kA3, kA3, kA3, kA3, kA3, kA3, kA3, kA3, kA3, kA3, kA3, (0, 24), (0, 6), (0, 30), (0, 24), (0, 6), (0, 30), (0, 24), (0, 6), (0, 30), (0, 24), (0, 6), (0, 30), (0, 24), (0, 6), (0, 30), kA3, (0, 7), (0, 23), (0, 800), (0, 2), kA3, kA3, kA6]
def kb131 : List xB := [(9, 9), (1, 3), kA3, (0, 800), (0, 800), kA3, kA3, kA3, kA6, kA3, kA3, kA3, kA3, kA3, kA3, kA3, kA3, kA3, kA3, kA3, kA3, kA3, kA3, kA3, kA3, kA3, kA3, kA3, kA3, (0, 24), (0, 6), (0, 30), (0, 24), (0, 6), (0, 30), (0, 24), (0, 6), (0, 30), (0, 24), (0, 6), (0, 30), (0, 24), (0, 6), (0, 30), kA3, (0, 6), (0, 23), (0, 800), (0, 2), kA3, kA3, kA6]
def kb132 : List xB := [(9, 9), (1, 3), kA3, (0, 800), (0, 800), kA3, kA3, kA3, kA6, kA3, kA3, kA3, kA3, kA3, kA3, kA3, kA3, kA3, kA3, kA3, kA3, kA3, kA3, kA3, kA3, kA3, kA3, kA3, kA3, (0, 24), (0, 6), (0, 30), (0, 24), (0, 6), (0, 30), (0, 24), (0, 6), (0, 30), (0, 24), (0, 6), (0, 30), (0, 24), (0, 6), (0, 30), kA3, (0, 5), (0, 23), (0, 800), (0, 2), kA3, kA3, kA6]
def kb133 : List xB := [(9, 9), (1, 3), kA3, (0, 800), (0, 800), kA3, kA3, kA3, kA6, kA3, kA3, kA3, kA3, kA3, kA3, kA3, kA3, kA3, kA3, kA3, kA3, kA3, kA3, kA3, kA3, kA3, kA3, kA3, kA3, (0, 24), (0, 6), (0, 30), (0, 24), (0, 6), (0, 30), (0, 24), (0, 6), (0, 30), (0, 24), (0, 6), (0, 30), (0, 24), (0, 6), (0, 30), kA3, (0, 4), (0, 23), (0, 800), (0, 2), kA3, kA3, kA6]
def kb134 : List xB := [(9, 9), (1, 3), kA3, (0, 800), (0, 800), kA3, kA3, kA3, kA6, kA3, kA3, kA3, kA3, kA3, kA3, kA3, kA3, kA3, kA3, kA3, kA3, kA3, kA3, kA3, kA3, kA3, kA3, kA3, kA3, (0, 24), (0, 6), (0, 30), (0, 24), (0, 6), (0, 30), (0, 24), (0, 6), (0, 30), (0, 24), (0, 6), (0, 30), (0, 24), (0, 6), (0, 30), kA3, (0, 3), (0, 23), (0, 800), (0, 2), kA3, kA3, kA6]
def kb135 : List xB := [(9, 9), (1, 3), kA3, (0, 800), (0, 800), kA3, kA3, kA3, kA6, kA3, kA3, kA3, kA3, kA3, kA3, kA3, kA3, kA3, kA3, kA3, kA3, kA3, kA3, kA3, kA3, kA3, kA3, kA3, kA3, (0, 24), (0, 6), (0, 30), (0, 24), (0, 6), (0, 30), (0, 24), (0, 6), (0, 30), (0, 24), (0, 6), (0, 30), (0, 24), (0, 6), (0, 30), kA3, (0, 2), (0, 23), (0, 800), (0, 2), kA3, kA3, kA6]
def kb136 : List xB := [(9, 9), (1, 3), kA3, (0, 800), (0, 800), kA3, kA3, kA3, kA6, kA3, kA3, kA3, kA3, kA3, kA3, kA3, kA3, kA3, kA3, kA3, kA3, kA3, kA3, kA3, kA3, kA3, kA3, kA3, kA3, (0, 24), (0, 6), (0, 30), (0, 24), (0, 6), (0, 30), (0, 24), (0, 6), (0, 30), (0, 24), (0, 6), (0, 30), (0, 24), (0, 6), (0, 30), kA3, (0, 1), (0, 23), (0, 800), (0, 2), kA3, kA3, kA6]
def kc988 : xC := kO 10 [kI 2, kX 20, kX 21, kX 22, kX 23, kR 1, kI 3, kI 46, kI 47, kI 48, kI 49, kJ 50, kIc 0, kI 9, kI 10, kI 11, kX 24, kR 2, kX 25, kX 26, kR 3, kX 27, kX 28, kX 29, kI 12, kI 13, kI 14, kI 15, kI 16, kI 17, kI 18, kX 30, kX 31, kX 32, kX 33, kX 34, kX 35, kX 36, kI 19, kX 37, kX 38, kI 20, kI 21, kI 22, kX 39, kX 40, kX 41, kX 42, kX 43, kI 23, kI 24, kI 25, kI 26, kI 27, kI 28, kX 44]
def kb137 : List xB := [(9, 9), (1, 3), kA3, (0, 800), (0, 800), kA3, kA3, kA3, kA6, kA3, kA3, kA3, kA3, kA3, kA3, kA3, kA3, kA3, kA3, kA3, kA3, kA3, kA3, kA3, kA3, kA3, kA3, kA3, kA3, (0, 24), (0, 6), (0, 30), (0, 24), (0, 6), (0, 30), (0, 24), (0, 6), (0, 30), (0, 24), (0, 6), (0, 30), (0, 24), (0, 6), (0, 30), kA3, (0, 23), (0, 800), (0, 2), kA3, kA3, kA6]
def kc989 : xC := kAr 0 120 [(96, kB 0 9), (23, kB 0 3), (1, kS 1)]
def xq_579_0 : xCu := (29, [0, 1, 2, 3, 4, 5, 6], ([kc962, kc218, kc961, kc963], kb90, [([(4, (-1)), (3, 1)], 0), ([(47, (-1)), (3, 1)], 0), ([(47, 1), (4, (-1))], (-1))], [kR 0, kR 3, kI 0, kI 1, kI 45, kI 46, kIc 23], 25), ([], 1))
def xq_579_1 : xCu := (29, [0, 1, 2, 3, 4, 5, 6], ([kc962, kc218, kc961, kc964], kb91, [([(4, (-1)), (3, 1)], 0), ([(47, (-1)), (3, 1)], 0), ([(47, 1), (4, (-1))], (-1))], [kR 0, kR 3, kI 0, kI 1, kI 45, kI 46, kIc 22], 25), ([], 2))
def xq_579_2 : xCu := (29, [0, 1, 2, 3, 4, 5, 6], ([kc962, kc218, kc961, kc965], kb92, [([(4, (-1)), (3, 1)], 0), ([(47, (-1)), (3, 1)], 0), ([(47, 1), (4, (-1))], (-1))], [kR 0, kR 3, kI 0, kI 1, kI 45, kI 46, kIc 21], 25), ([], 3))
def xq_579_3 : xCu := (29, [0, 1, 2, 3, 4, 5, 6], ([kc962, kc218, kc961, kc966], kb93, [([(4, (-1)), (3, 1)], 0), ([(47, (-1)), (3, 1)], 0), ([(47, 1), (4, (-1))], (-1))], [kR 0, kR 3, kI 0, kI 1, kI 45, kI 46, kIc 20], 25), ([], 4))
def xq_579_4 : xCu := (29, [0, 1, 2, 3, 4, 5, 6], ([kc962, kc218, kc961, kc967], kb94, [([(4, (-1)), (3, 1)], 0), ([(47, (-1)), (3, 1)], 0), ([(47, 1), (4, (-1))], (-1))], [kR 0, kR 3, kI 0, kI 1, kI 45, kI 46, kIc 19], 25), ([], 5))
def xq_579_5 : xCu := (29, [0, 1, 2, 3, 4, 5, 6], ([kc962, kc218, kc961, kc968], kb95, [([(4, (-1)), (3, 1)], 0), ([(47, (-1)), (3, 1)], 0), ([(47, 1), (4, (-1))], (-1))], [kR 0, kR 3, kI 0, kI 1, kI 45, kI 46, kIc 18], 25), ([], 6))
def xq_579_6 : xCu := (29, [0, 1, 2, 3, 4, 5, 6], ([kc962, kc218, kc961, kc969], kb96, [([(4, (-1)), (3, 1)], 0), ([(47, (-1)), (3, 1)], 0), ([(47, 1), (4, (-1))], (-1))], [kR 0, kR 3, kI 0, kI 1, kI 45, kI 46, kIc 17], 25), ([], 7))
def xq_579_7 : xCu := (29, [0, 1, 2, 3, 4, 5, 6], ([kc962, kc218, kc961, kc970], kb97, [([(4, (-1)), (3, 1)], 0), ([(47, (-1)), (3, 1)], 0), ([(47, 1), (4, (-1))], (-1))], [kR 0, kR 3, kI 0, kI 1, kI 45, kI 46, kIc 16], 25), ([], 8))
def xq_579_8 : xCu := (29, [0, 1, 2, 3, 4, 5, 6], ([kc962, kc218, kc961, kc971], kb98, [([(4, (-1)), (3, 1)], 0), ([(47, (-1)), (3, 1)], 0), ([(47, 1), (4, (-1))], (-1))], [kR 0, kR 3, kI 0, kI 1, kI 45, kI 46, kIc 15], 25), ([], 9))
def xq_579_9 : xCu := (29, [0, 1, 2, 3, 4, 5, 6], ([kc962, kc218, kc961, kc972], kb99, [([(4, (-1)), (3, 1)], 0), ([(47, (-1)), (3, 1)], 0), ([(47, 1), (4, (-1))], (-1))], [kR 0, kR 3, kI 0, kI 1, kI 45, kI 46, kIc 14], 25), ([], 10))
def xq_579_10 : xCu := (29, [0, 1, 2, 3, 4, 5, 6], ([kc962, kc218, kc961, kc973], kb100, [([(4, (-1)), (3, 1)], 0), ([(47, (-1)), (3, 1)], 0), ([(47, 1), (4, (-1))], (-1))], [kR 0, kR 3, kI 0, kI 1, kI 45, kI 46, kIc 13], 25), ([], 11))
def xq_579_11 : xCu := (29, [0, 1, 2, 3, 4, 5, 6], ([kc962, kc218, kc961, kc974], kb101, [([(4, (-1)), (3, 1)], 0), ([(47, (-1)), (3, 1)], 0), ([(47, 1), (4, (-1))], (-1))], [kR 0, kR 3, kI 0, kI 1, kI 45, kI 46, kIc 12], 25), ([], 12))
def xq_579_12 : xCu := (29, [0, 1, 2, 3, 4, 5, 6], ([kc962, kc218, kc961, kc975], kb102, [([(4, (-1)), (3, 1)], 0), ([(47, (-1)), (3, 1)], 0), ([(47, 1), (4, (-1))], (-1))], [kR 0, kR 3, kI 0, kI 1, kI 45, kI 46, kIc 11], 25), ([], 13))
def xq_579_13 : xCu := (29, [0, 1, 2, 3, 4, 5, 6], ([kc962, kc218, kc961, kc976], kb103, [([(4, (-1)), (3, 1)], 0), ([(47, (-1)), (3, 1)], 0), ([(47, 1), (4, (-1))], (-1))], [kR 0, kR 3, kI 0, kI 1, kI 45, kI 46, kIc 10], 25), ([], 14))
def xq_579_14 : xCu := (29, [0, 1, 2, 3, 4, 5, 6], ([kc962, kc218, kc961, kc977], kb104, [([(4, (-1)), (3, 1)], 0), ([(47, (-1)), (3, 1)], 0), ([(47, 1), (4, (-1))], (-1))], [kR 0, kR 3, kI 0, kI 1, kI 45, kI 46, kIc 9], 25), ([], 15))
def xq_579_15 : xCu := (29, [0, 1, 2, 3, 4, 5, 6], ([kc962, kc218, kc961, kc978], kb105, [([(4, (-1)), (3, 1)], 0), ([(47, (-1)), (3, 1)], 0), ([(47, 1), (4, (-1))], (-1))], [kR 0, kR 3, kI 0, kI 1, kI 45, kI 46, kIc 8], 25), ([], 16))
def xq_579_16 : xCu := (29, [0, 1, 2, 3, 4, 5, 6], ([kc962, kc218, kc961, kc979], kb106, [([(4, (-1)), (3, 1)], 0), ([(47, (-1)), (3, 1)], 0), ([(47, 1), (4, (-1))], (-1))], [kR 0, kR 3, kI 0, kI 1, kI 45, kI 46, kIc 7], 25), ([], 17))
def xq_579_17 : xCu := (29, [0, 1, 2, 3, 4, 5, 6], ([kc962, kc218, kc961, kc980], kb107, [([(4, (-1)), (3, 1)], 0), ([(47, (-1)), (3, 1)], 0), ([(47, 1), (4, (-1))], (-1))], [kR 0, kR 3, kI 0, kI 1, kI 45, kI 46, kIc 6], 25), ([], 18))
def xq_579_18 : xCu := (29, [0, 1, 2, 3, 4, 5, 6], ([kc962, kc218, kc961, kc981], kb108, [([(4, (-1)), (3, 1)], 0), ([(47, (-1)), (3, 1)], 0), ([(47, 1), (4, (-1))], (-1))], [kR 0, kR 3, kI 0, kI 1, kI 45, kI 46, kIc 5], 25), ([], 19))
def xq_579_19 : xCu := (29, [0, 1, 2, 3, 4, 5, 6], ([kc962, kc218, kc961, kc982], kb109, [([(4, (-1)), (3, 1)], 0), ([(47, (-1)), (3, 1)], 0), ([(47, 1), (4, (-1))], (-1))], [kR 0, kR 3, kI 0, kI 1, kI 45, kI 46, kIc 4], 25), ([], 20))
def xq_579_20 : xCu := (29, [0, 1, 2, 3, 4, 5, 6], ([kc962, kc218, kc961, kc983], kb110, [([(4, (-1)), (3, 1)], 0), ([(47, (-1)), (3, 1)], 0), ([(47, 1), (4, (-1))], (-1))], [kR 0, kR 3, kI 0, kI 1, kI 45, kI 46, kIc 3], 25), ([], 21))
def xq_579_21 : xCu := (29, [0, 1, 2, 3, 4, 5, 6], ([kc962, kc218, kc961, kc984], kb111, [([(4, (-1)), (3, 1)], 0), ([(47, (-1)), (3, 1)], 0), ([(47, 1), (4, (-1))], (-1))], [kR 0, kR 3, kI 0, kI 1, kI 45, kI 46, kIc 2], 25), ([], 22))
def xq_579_22 : xCu := (29, [0, 1, 2, 3, 4, 5, 6], ([kc962, kc218, kc961, kc985], kb112, [([(4, (-1)), (3, 1)], 0), ([(47, (-1)), (3, 1)], 0), ([(47, 1), (4, (-1))], (-1))], [kR 0, kR 3, kI 0, kI 1, kI 45, kI 46, kIc 1], 25), ([], 23))
def xq_579_23 : xCu := (29, [0, 1, 2, 3, 4, 5, 6], ([kc986, kc218, kc961, kc956], kb113, [([(4, (-1)), (3, 1)], 0), ([(46, (-1)), (3, 1)], 0), ([(46, 1), (4, (-1))], (-1))], [kR 0, kR 3, kI 0, kI 1, kIc 0, kI 45, kIc 0], 25), ([], 24))
def xq_579_24 : xCu := (29, [0, 1, 2, 3, 4, 5, 6], ([kc987, kc218, kc961, kc963], kb114, [([(4, (-1)), (3, 1)], 0), ([(47, (-1)), (3, 1)], 0), ([(47, 1), (4, (-1))], 0)], [kR 0, kR 3, kI 0, kI 1, kI 45, kI 46, kIc 23], 25), ([], 1))
def xq_579_25 : xCu := (29, [0, 1, 2, 3, 4, 5, 6], ([kc987, kc218, kc961, kc964], kb115, [([(4, (-1)), (3, 1)], 0), ([(47, (-1)), (3, 1)], 0), ([(47, 1), (4, (-1))], 0)], [kR 0, kR 3, kI 0, kI 1, kI 45, kI 46, kIc 22], 25), ([], 2))
def xq_579_26 : xCu := (29, [0, 1, 2, 3, 4, 5, 6], ([kc987, kc218, kc961, kc965], kb116, [([(4, (-1)), (3, 1)], 0), ([(47, (-1)), (3, 1)], 0), ([(47, 1), (4, (-1))], 0)], [kR 0, kR 3, kI 0, kI 1, kI 45, kI 46, kIc 21], 25), ([], 3))
def xq_579_27 : xCu := (29, [0, 1, 2, 3, 4, 5, 6], ([kc987, kc218, kc961, kc966], kb117, [([(4, (-1)), (3, 1)], 0), ([(47, (-1)), (3, 1)], 0), ([(47, 1), (4, (-1))], 0)], [kR 0, kR 3, kI 0, kI 1, kI 45, kI 46, kIc 20], 25), ([], 4))
def xq_579_28 : xCu := (29, [0, 1, 2, 3, 4, 5, 6], ([kc987, kc218, kc961, kc967], kb118, [([(4, (-1)), (3, 1)], 0), ([(47, (-1)), (3, 1)], 0), ([(47, 1), (4, (-1))], 0)], [kR 0, kR 3, kI 0, kI 1, kI 45, kI 46, kIc 19], 25), ([], 5))
def xq_579_29 : xCu := (29, [0, 1, 2, 3, 4, 5, 6], ([kc987, kc218, kc961, kc968], kb119, [([(4, (-1)), (3, 1)], 0), ([(47, (-1)), (3, 1)], 0), ([(47, 1), (4, (-1))], 0)], [kR 0, kR 3, kI 0, kI 1, kI 45, kI 46, kIc 18], 25), ([], 6))
def xq_579_30 : xCu := (29, [0, 1, 2, 3, 4, 5, 6], ([kc987, kc218, kc961, kc969], kb120, [([(4, (-1)), (3, 1)], 0), ([(47, (-1)), (3, 1)], 0), ([(47, 1), (4, (-1))], 0)], [kR 0, kR 3, kI 0, kI 1, kI 45, kI 46, kIc 17], 25), ([], 7))
def xq_579_31 : xCu := (29, [0, 1, 2, 3, 4, 5, 6], ([kc987, kc218, kc961, kc970], kb121, [([(4, (-1)), (3, 1)], 0), ([(47, (-1)), (3, 1)], 0), ([(47, 1), (4, (-1))], 0)], [kR 0, kR 3, kI 0, kI 1, kI 45, kI 46, kIc 16], 25), ([], 8))
def xq_579_32 : xCu := (29, [0, 1, 2, 3, 4, 5, 6], ([kc987, kc218, kc961, kc971], kb122, [([(4, (-1)), (3, 1)], 0), ([(47, (-1)), (3, 1)], 0), ([(47, 1), (4, (-1))], 0)], [kR 0, kR 3, kI 0, kI 1, kI 45, kI 46, kIc 15], 25), ([], 9))
def xq_579_33 : xCu := (29, [0, 1, 2, 3, 4, 5, 6], ([kc987, kc218, kc961, kc972], kb123, [([(4, (-1)), (3, 1)], 0), ([(47, (-1)), (3, 1)], 0), ([(47, 1), (4, (-1))], 0)], [kR 0, kR 3, kI 0, kI 1, kI 45, kI 46, kIc 14], 25), ([], 10))
def xq_579_34 : xCu := (29, [0, 1, 2, 3, 4, 5, 6], ([kc987, kc218, kc961, kc973], kb124, [([(4, (-1)), (3, 1)], 0), ([(47, (-1)), (3, 1)], 0), ([(47, 1), (4, (-1))], 0)], [kR 0, kR 3, kI 0, kI 1, kI 45, kI 46, kIc 13], 25), ([], 11))
def xq_579_35 : xCu := (29, [0, 1, 2, 3, 4, 5, 6], ([kc987, kc218, kc961, kc974], kb125, [([(4, (-1)), (3, 1)], 0), ([(47, (-1)), (3, 1)], 0), ([(47, 1), (4, (-1))], 0)], [kR 0, kR 3, kI 0, kI 1, kI 45, kI 46, kIc 12], 25), ([], 12))
def xq_579_36 : xCu := (29, [0, 1, 2, 3, 4, 5, 6], ([kc987, kc218, kc961, kc975], kb126, [([(4, (-1)), (3, 1)], 0), ([(47, (-1)), (3, 1)], 0), ([(47, 1), (4, (-1))], 0)], [kR 0, kR 3, kI 0, kI 1, kI 45, kI 46, kIc 11], 25), ([], 13))
def xq_579_37 : xCu := (29, [0, 1, 2, 3, 4, 5, 6], ([kc987, kc218, kc961, kc976], kb127, [([(4, (-1)), (3, 1)], 0), ([(47, (-1)), (3, 1)], 0), ([(47, 1), (4, (-1))], 0)], [kR 0, kR 3, kI 0, kI 1, kI 45, kI 46, kIc 10], 25), ([], 14))
def xq_579_38 : xCu := (29, [0, 1, 2, 3, 4, 5, 6], ([kc987, kc218, kc961, kc977], kb128, [([(4, (-1)), (3, 1)], 0), ([(47, (-1)), (3, 1)], 0), ([(47, 1), (4, (-1))], 0)], [kR 0, kR 3, kI 0, kI 1, kI 45, kI 46, kIc 9], 25), ([], 15))
def xq_579_39 : xCu := (29, [0, 1, 2, 3, 4, 5, 6], ([kc987, kc218, kc961, kc978], kb129, [([(4, (-1)), (3, 1)], 0), ([(47, (-1)), (3, 1)], 0), ([(47, 1), (4, (-1))], 0)], [kR 0, kR 3, kI 0, kI 1, kI 45, kI 46, kIc 8], 25), ([], 16))
def xq_579_40 : xCu := (29, [0, 1, 2, 3, 4, 5, 6], ([kc987, kc218, kc961, kc979], kb130, [([(4, (-1)), (3, 1)], 0), ([(47, (-1)), (3, 1)], 0), ([(47, 1), (4, (-1))], 0)], [kR 0, kR 3, kI 0, kI 1, kI 45, kI 46, kIc 7], 25), ([], 17))
def xq_579_41 : xCu := (29, [0, 1, 2, 3, 4, 5, 6], ([kc987, kc218, kc961, kc980], kb131, [([(4, (-1)), (3, 1)], 0), ([(47, (-1)), (3, 1)], 0), ([(47, 1), (4, (-1))], 0)], [kR 0, kR 3, kI 0, kI 1, kI 45, kI 46, kIc 6], 25), ([], 18))
def xq_579_42 : xCu := (29, [0, 1, 2, 3, 4, 5, 6], ([kc987, kc218, kc961, kc981], kb132, [([(4, (-1)), (3, 1)], 0), ([(47, (-1)), (3, 1)], 0), ([(47, 1), (4, (-1))], 0)], [kR 0, kR 3, kI 0, kI 1, kI 45, kI 46, kIc 5], 25), ([], 19))
def xq_579_43 : xCu := (29, [0, 1, 2, 3, 4, 5, 6], ([kc987, kc218, kc961, kc982], kb133, [([(4, (-1)), (3, 1)], 0), ([(47, (-1)), (3, 1)], 0), ([(47, 1), (4, (-1))], 0)], [kR 0, kR 3, kI 0, kI 1, kI 45, kI 46, kIc 4], 25), ([], 20))
def xq_579_44 : xCu := (29, [0, 1, 2, 3, 4, 5, 6], ([kc987, kc218, kc961, kc983], kb134, [([(4, (-1)), (3, 1)], 0), ([(47, (-1)), (3, 1)], 0), ([(47, 1), (4, (-1))], 0)], [kR 0, kR 3, kI 0, kI 1, kI 45, kI 46, kIc 3], 25), ([], 21))
def xq_579_45 : xCu := (29, [0, 1, 2, 3, 4, 5, 6], ([kc987, kc218, kc961, kc984], kb135, [([(4, (-1)), (3, 1)], 0), ([(47, (-1)), (3, 1)], 0), ([(47, 1), (4, (-1))], 0)], [kR 0, kR 3, kI 0, kI 1, kI 45, kI 46, kIc 2], 25), ([], 22))
def xq_579_46 : xCu := (29, [0, 1, 2, 3, 4, 5, 6], ([kc987, kc218, kc961, kc985], kb136, [([(4, (-1)), (3, 1)], 0), ([(47, (-1)), (3, 1)], 0), ([(47, 1), (4, (-1))], 0)], [kR 0, kR 3, kI 0, kI 1, kI 45, kI 46, kIc 1], 25), ([], 23))
def xq_579_47 : xCu := (29, [0, 1, 2, 3, 4, 5, 6], ([kc988, kc218, kc961, kc956], kb137, [([(4, (-1)), (3, 1)], 0), ([(46, (-1)), (3, 1)], 0), ([(46, 1), (4, (-1))], 0)], [kR 0, kR 3, kI 0, kI 1, kIc 0, kI 45, kIc 0], 25), ([], 24))
def xq_579_48 : xCu := (29, [0, 1, 2, 3, 4, 5, 6], ([kc954, kc218, kc961, kc956], kb86, [([(4, (-1)), (3, 1)], 0), ([(45, (-1)), (3, 1)], 0), ([(45, 1), (4, (-1))], 0)], [kR 0, kR 3, kI 0, kI 1, kIc 23, kIc 23, kIc 23], 25), ([], 1))
def xq_579_49 : xCu := (29, [0, 1, 2, 3, 4, 5, 6], ([kc954, kc218, kc961, kc956], kb86, [([(4, (-1)), (3, 1)], 0), ([(45, (-1)), (3, 1)], 0), ([(45, 1), (4, (-1))], 0)], [kR 0, kR 3, kI 0, kI 1, kIc 22, kIc 22, kIc 22], 25), ([], 2))
def xq_579_50 : xCu := (29, [0, 1, 2, 3, 4, 5, 6], ([kc954, kc218, kc961, kc956], kb86, [([(4, (-1)), (3, 1)], 0), ([(45, (-1)), (3, 1)], 0), ([(45, 1), (4, (-1))], 0)], [kR 0, kR 3, kI 0, kI 1, kIc 21, kIc 21, kIc 21], 25), ([], 3))
def xq_579_51 : xCu := (29, [0, 1, 2, 3, 4, 5, 6], ([kc954, kc218, kc961, kc956], kb86, [([(4, (-1)), (3, 1)], 0), ([(45, (-1)), (3, 1)], 0), ([(45, 1), (4, (-1))], 0)], [kR 0, kR 3, kI 0, kI 1, kIc 20, kIc 20, kIc 20], 25), ([], 4))
def xq_579_52 : xCu := (29, [0, 1, 2, 3, 4, 5, 6], ([kc954, kc218, kc961, kc956], kb86, [([(4, (-1)), (3, 1)], 0), ([(45, (-1)), (3, 1)], 0), ([(45, 1), (4, (-1))], 0)], [kR 0, kR 3, kI 0, kI 1, kIc 19, kIc 19, kIc 19], 25), ([], 5))
def xq_579_53 : xCu := (29, [0, 1, 2, 3, 4, 5, 6], ([kc954, kc218, kc961, kc956], kb86, [([(4, (-1)), (3, 1)], 0), ([(45, (-1)), (3, 1)], 0), ([(45, 1), (4, (-1))], 0)], [kR 0, kR 3, kI 0, kI 1, kIc 18, kIc 18, kIc 18], 25), ([], 6))
def xq_579_54 : xCu := (29, [0, 1, 2, 3, 4, 5, 6], ([kc954, kc218, kc961, kc956], kb86, [([(4, (-1)), (3, 1)], 0), ([(45, (-1)), (3, 1)], 0), ([(45, 1), (4, (-1))], 0)], [kR 0, kR 3, kI 0, kI 1, kIc 17, kIc 17, kIc 17], 25), ([], 7))
def xq_579_55 : xCu := (29, [0, 1, 2, 3, 4, 5, 6], ([kc954, kc218, kc961, kc956], kb86, [([(4, (-1)), (3, 1)], 0), ([(45, (-1)), (3, 1)], 0), ([(45, 1), (4, (-1))], 0)], [kR 0, kR 3, kI 0, kI 1, kIc 16, kIc 16, kIc 16], 25), ([], 8))
def xq_579_56 : xCu := (29, [0, 1, 2, 3, 4, 5, 6], ([kc954, kc218, kc961, kc956], kb86, [([(4, (-1)), (3, 1)], 0), ([(45, (-1)), (3, 1)], 0), ([(45, 1), (4, (-1))], 0)], [kR 0, kR 3, kI 0, kI 1, kIc 15, kIc 15, kIc 15], 25), ([], 9))
def xq_579_57 : xCu := (29, [0, 1, 2, 3, 4, 5, 6], ([kc954, kc218, kc961, kc956], kb86, [([(4, (-1)), (3, 1)], 0), ([(45, (-1)), (3, 1)], 0), ([(45, 1), (4, (-1))], 0)], [kR 0, kR 3, kI 0, kI 1, kIc 14, kIc 14, kIc 14], 25), ([], 10))
def xq_579_58 : xCu := (29, [0, 1, 2, 3, 4, 5, 6], ([kc954, kc218, kc961, kc956], kb86, [([(4, (-1)), (3, 1)], 0), ([(45, (-1)), (3, 1)], 0), ([(45, 1), (4, (-1))], 0)], [kR 0, kR 3, kI 0, kI 1, kIc 13, kIc 13, kIc 13], 25), ([], 11))
def xq_579_59 : xCu := (29, [0, 1, 2, 3, 4, 5, 6], ([kc954, kc218, kc961, kc956], kb86, [([(4, (-1)), (3, 1)], 0), ([(45, (-1)), (3, 1)], 0), ([(45, 1), (4, (-1))], 0)], [kR 0, kR 3, kI 0, kI 1, kIc 12, kIc 12, kIc 12], 25), ([], 12))
def xq_579_60 : xCu := (29, [0, 1, 2, 3, 4, 5, 6], ([kc954, kc218, kc961, kc956], kb86, [([(4, (-1)), (3, 1)], 0), ([(45, (-1)), (3, 1)], 0), ([(45, 1), (4, (-1))], 0)], [kR 0, kR 3, kI 0, kI 1, kIc 11, kIc 11, kIc 11], 25), ([], 13))
def xq_579_61 : xCu := (29, [0, 1, 2, 3, 4, 5, 6], ([kc954, kc218, kc961, kc956], kb86, [([(4, (-1)), (3, 1)], 0), ([(45, (-1)), (3, 1)], 0), ([(45, 1), (4, (-1))], 0)], [kR 0, kR 3, kI 0, kI 1, kIc 10, kIc 10, kIc 10], 25), ([], 14))
def xq_579_62 : xCu := (29, [0, 1, 2, 3, 4, 5, 6], ([kc954, kc218, kc961, kc956], kb86, [([(4, (-1)), (3, 1)], 0), ([(45, (-1)), (3, 1)], 0), ([(45, 1), (4, (-1))], 0)], [kR 0, kR 3, kI 0, kI 1, kIc 9, kIc 9, kIc 9], 25), ([], 15))
def xq_579_63 : xCu := (29, [0, 1, 2, 3, 4, 5, 6], ([kc954, kc218, kc961, kc956], kb86, [([(4, (-1)), (3, 1)], 0), ([(45, (-1)), (3, 1)], 0), ([(45, 1), (4, (-1))], 0)], [kR 0, kR 3, kI 0, kI 1, kIc 8, kIc 8, kIc 8], 25), ([], 16))
def xq_579_64 : xCu := (29, [0, 1, 2, 3, 4, 5, 6], ([kc954, kc218, kc961, kc956], kb86, [([(4, (-1)), (3, 1)], 0), ([(45, (-1)), (3, 1)], 0), ([(45, 1), (4, (-1))], 0)], [kR 0, kR 3, kI 0, kI 1, kIc 7, kIc 7, kIc 7], 25), ([], 17))
def xq_579_65 : xCu := (29, [0, 1, 2, 3, 4, 5, 6], ([kc954, kc218, kc961, kc956], kb86, [([(4, (-1)), (3, 1)], 0), ([(45, (-1)), (3, 1)], 0), ([(45, 1), (4, (-1))], 0)], [kR 0, kR 3, kI 0, kI 1, kIc 6, kIc 6, kIc 6], 25), ([], 18))
def xq_579_66 : xCu := (29, [0, 1, 2, 3, 4, 5, 6], ([kc954, kc218, kc961, kc956], kb86, [([(4, (-1)), (3, 1)], 0), ([(45, (-1)), (3, 1)], 0), ([(45, 1), (4, (-1))], 0)], [kR 0, kR 3, kI 0, kI 1, kIc 5, kIc 5, kIc 5], 25), ([], 19))
def xq_579_67 : xCu := (29, [0, 1, 2, 3, 4, 5, 6], ([kc954, kc218, kc961, kc956], kb86, [([(4, (-1)), (3, 1)], 0), ([(45, (-1)), (3, 1)], 0), ([(45, 1), (4, (-1))], 0)], [kR 0, kR 3, kI 0, kI 1, kIc 4, kIc 4, kIc 4], 25), ([], 20))
def xq_579_68 : xCu := (29, [0, 1, 2, 3, 4, 5, 6], ([kc954, kc218, kc961, kc956], kb86, [([(4, (-1)), (3, 1)], 0), ([(45, (-1)), (3, 1)], 0), ([(45, 1), (4, (-1))], 0)], [kR 0, kR 3, kI 0, kI 1, kIc 3, kIc 3, kIc 3], 25), ([], 21))
def xq_579_69 : xCu := (29, [0, 1, 2, 3, 4, 5, 6], ([kc954, kc218, kc961, kc956], kb86, [([(4, (-1)), (3, 1)], 0), ([(45, (-1)), (3, 1)], 0), ([(45, 1), (4, (-1))], 0)], [kR 0, kR 3, kI 0, kI 1, kIc 2, kIc 2, kIc 2], 25), ([], 22))
def xq_579_70 : xCu := (29, [0, 1, 2, 3, 4, 5, 6], ([kc954, kc218, kc961, kc956], kb86, [([(4, (-1)), (3, 1)], 0), ([(45, (-1)), (3, 1)], 0), ([(45, 1), (4, (-1))], 0)], [kR 0, kR 3, kI 0, kI 1, kIc 1, kIc 1, kIc 1], 25), ([], 23))
def xq_579_71 : xCu := (29, [0, 1, 2, 3, 4, 5, 6], ([kc954, kc218, kc961, kc956], kb86, [([(4, (-1)), (3, 1)], 0), ([(45, (-1)), (3, 1)], 0), ([(45, 1), (4, (-1))], 0)], [kR 0, kR 3, kI 0, kI 1, kIc 0, kIc 0, kIc 0], 25), ([], 24))
def xq_579_72 : xCu := (29, [0, 1, 2, 3, 4, 5, 6], ([kc986, kc218, kc961, kc989], kb113, [([(4, (-1)), (3, 1)], 0), ([(46, (-1)), (3, 1)], 0), ([(46, 1), (4, (-1))], (-1))], [kR 0, kR 3, kI 0, kI 1, kI 45, kIc 23, kIc 24], 25), ([], 0))
def xq_579_73 : xCu := (29, [0, 1, 2, 3, 4, 5, 6], ([kc988, kc218, kc961, kc989], kb137, [([(4, (-1)), (3, 1)], 0), ([(46, (-1)), (3, 1)], 0), ([(46, 1), (4, (-1))], 0)], [kR 0, kR 3, kI 0, kI 1, kI 45, kIc 23, kIc 24], 25), ([], 0))
def xc_579 : xCt := (([kc960, kc218, kc961, kc956], kb89, [([(4, (-1)), (3, 1)], 0)], [kR 0, kR 3, kI 0, kI 1], 25), [xe_579_0, xe_579_1, xe_579_2], 5)
def xu_579 : List xCu := [xq_579_0,
  xq_579_1,
  xq_579_2,
  xq_579_3,
  xq_579_4,
  xq_579_5,
  xq_579_6,
  xq_579_7,
  xq_579_8,
  xq_579_9,
  xq_579_10,
  xq_579_11,
  xq_579_12,
  xq_579_13,
  xq_579_14,
  xq_579_15,
  xq_579_16,
  xq_579_17,
  xq_579_18,
  xq_579_19,
  xq_579_20,
  xq_579_21,
  xq_579_22,
  xq_579_23,
  xq_579_24,
  xq_579_25,
  xq_579_26,
  xq_579_27,
  xq_579_28,
  xq_579_29,
  xq_579_30,
  xq_579_31,
  xq_579_32,
  xq_579_33,
  xq_579_34,
  xq_579_35,
  xq_579_36,
  xq_579_37,
  xq_579_38,
  xq_579_39,
  xq_579_40,
  xq_579_41,
  xq_579_42,
  xq_579_43,
  xq_579_44,
  xq_579_45,
  xq_579_46,
  xq_579_47,
  xq_579_48,
  xq_579_49,
  xq_579_50,
  xq_579_51,
  xq_579_52,
  xq_579_53,
  xq_579_54,
  xq_579_55,
  xq_579_56,
  xq_579_57,
  xq_579_58,
  xq_579_59,
  xq_579_60,
  xq_579_61,
  xq_579_62,
  xq_579_63,
  xq_579_64,
  xq_579_65,
  xq_579_66,
  xq_579_67,
  xq_579_68,
  xq_579_69,
  xq_579_70,
  xq_579_71,
  xq_579_72,
  xq_579_73]
def xT_579 : List (Nat × xCt) := [(201, xc_574)]
theorem xn_579 : Nat.ble (xsum xc_579.1.2.2.2.1) xm_X10_spanLine.nl = true := by decide +kernel
theorem xv_579_0 : xStP xT_579 xHt 100000 209 xm_X10_spanLine xc_579 xu_579 [] 0 18 = true := by
  rw [← zStP_eq]
  decide +kernel
theorem xv_579_18 : xStP xT_579 xHt 100000 209 xm_X10_spanLine xc_579 xu_579 [] 18 18 = true := by
  rw [← zStP_eq]
  decide +kernel
theorem xv_579_36 : xStP xT_579 xHt 100000 209 xm_X10_spanLine xc_579 xu_579 [] 36 18 = true := by
  rw [← zStP_eq]
  decide +kernel
theorem xv_579_54 : xStP xT_579 xHt 100000 209 xm_X10_spanLine xc_579 xu_579 [] 54 18 = true := by
  rw [← zStP_eq]
  decide +kernel
theorem xv_579_72 : xStP xT_579 xHt 100000 209 xm_X10_spanLine xc_579 xu_579 [] 72 18 = true := by
  rw [← zStP_eq]
  decide +kernel
theorem xv_579_90 : xStP xT_579 xHt 100000 209 xm_X10_spanLine xc_579 xu_579 [] 90 18 = true := by
  rw [← zStP_eq]
  decide +kernel
theorem xv_579_108 : xStP xT_579 xHt 100000 209 xm_X10_spanLine xc_579 xu_579 [] 108 18 = true := by
  rw [← zStP_eq]
  decide +kernel
theorem xv_579_126 : xStP xT_579 xHt 100000 209 xm_X10_spanLine xc_579 xu_579 [] 126 18 = true := by
  rw [← zStP_eq]
  decide +kernel
theorem xv_579_144 : xStP xT_579 xHt 100000 209 xm_X10_spanLine xc_579 xu_579 [] 144 18 = true := by
  rw [← zStP_eq]
  decide +kernel
theorem xz_579 : xStL xT_579 xHt 100000 209 xm_X10_spanLine xc_579 xu_579 162 = true := by
  rw [← zStL_eq]
  decide +kernel
theorem xw_579_0 : ((xu_579.drop 0).take 1).all (xVerCs xT_579 xHt 100000 209 xm_X10_spanLine xc_579 xu_579 [2] [72]) = true := by
  rw [← zVerCs_eq]
  decide +kernel
theorem xw_579_1 : ((xu_579.drop 1).take 1).all (xVerCs xT_579 xHt 100000 209 xm_X10_spanLine xc_579 xu_579 [2] [0]) = true := by
  rw [← zVerCs_eq]
  decide +kernel
theorem xw_579_2 : ((xu_579.drop 2).take 1).all (xVerCs xT_579 xHt 100000 209 xm_X10_spanLine xc_579 xu_579 [2] [1]) = true := by
  rw [← zVerCs_eq]
  decide +kernel
theorem xw_579_3 : ((xu_579.drop 3).take 1).all (xVerCs xT_579 xHt 100000 209 xm_X10_spanLine xc_579 xu_579 [2] [2]) = true := by
  rw [← zVerCs_eq]
  decide +kernel
theorem xw_579_4 : ((xu_579.drop 4).take 1).all (xVerCs xT_579 xHt 100000 209 xm_X10_spanLine xc_579 xu_579 [2] [3]) = true := by
  rw [← zVerCs_eq]
  decide +kernel
theorem xw_579_5 : ((xu_579.drop 5).take 1).all (xVerCs xT_579 xHt 100000 209 xm_X10_spanLine xc_579 xu_579 [2] [4]) = true := by
  rw [← zVerCs_eq]
  decide +kernel
theorem xw_579_6 : ((xu_579.drop 6).take 1).all (xVerCs xT_579 xHt 100000 209 xm_X10_spanLine xc_579 xu_579 [2] [5]) = true := by
  rw [← zVerCs_eq]
  decide +kernel
theorem xw_579_7 : ((xu_579.drop 7).take 1).all (xVerCs xT_579 xHt 100000 209 xm_X10_spanLine xc_579 xu_579 [2] [6]) = true := by
  rw [← zVerCs_eq]
  decide +kernel
theorem xw_579_8 : ((xu_579.drop 8).take 1).all (xVerCs xT_579 xHt 100000 209 xm_X10_spanLine xc_579 xu_579 [2] [7]) = true := by
  rw [← zVerCs_eq]
  decide +kernel
theorem xw_579_9 : ((xu_579.drop 9).take 1).all (xVerCs xT_579 xHt 100000 209 xm_X10_spanLine xc_579 xu_579 [2] [8]) = true := by
  rw [← zVerCs_eq]
  decide +kernel
theorem xw_579_10 : ((xu_579.drop 10).take 1).all (xVerCs xT_579 xHt 100000 209 xm_X10_spanLine xc_579 xu_579 [2] [9]) = true := by
  rw [← zVerCs_eq]
  decide +kernel
theorem xw_579_11 : ((xu_579.drop 11).take 1).all (xVerCs xT_579 xHt 100000 209 xm_X10_spanLine xc_579 xu_579 [2] [10]) = true := by
  rw [← zVerCs_eq]
  decide +kernel
theorem xw_579_12 : ((xu_579.drop 12).take 1).all (xVerCs xT_579 xHt 100000 209 xm_X10_spanLine xc_579 xu_579 [2] [11]) = true := by
  rw [← zVerCs_eq]
  decide +kernel
theorem xw_579_13 : ((xu_579.drop 13).take 1).all (xVerCs xT_579 xHt 100000 209 xm_X10_spanLine xc_579 xu_579 [2] [12]) = true := by
  rw [← zVerCs_eq]
  decide +kernel
theorem xw_579_14 : ((xu_579.drop 14).take 1).all (xVerCs xT_579 xHt 100000 209 xm_X10_spanLine xc_579 xu_579 [2] [13]) = true := by
  rw [← zVerCs_eq]
  decide +kernel
theorem xw_579_15 : ((xu_579.drop 15).take 1).all (xVerCs xT_579 xHt 100000 209 xm_X10_spanLine xc_579 xu_579 [2] [14]) = true := by
  rw [← zVerCs_eq]
  decide +kernel
theorem xw_579_16 : ((xu_579.drop 16).take 1).all (xVerCs xT_579 xHt 100000 209 xm_X10_spanLine xc_579 xu_579 [2] [15]) = true := by
  rw [← zVerCs_eq]
  decide +kernel
theorem xw_579_17 : ((xu_579.drop 17).take 1).all (xVerCs xT_579 xHt 100000 209 xm_X10_spanLine xc_579 xu_579 [2] [16]) = true := by
  rw [← zVerCs_eq]
  decide +kernel
theorem xw_579_18 : ((xu_579.drop 18).take 1).all (xVerCs xT_579 xHt 100000 209 xm_X10_spanLine xc_579 xu_579 [2] [17]) = true := by
  rw [← zVerCs_eq]
  decide +kernel
theorem xw_579_19 : ((xu_579.drop 19).take 1).all (xVerCs xT_579 xHt 100000 209 xm_X10_spanLine xc_579 xu_579 [2] [18]) = true := by
  rw [← zVerCs_eq]
  decide +kernel
theorem xw_579_20 : ((xu_579.drop 20).take 1).all (xVerCs xT_579 xHt 100000 209 xm_X10_spanLine xc_579 xu_579 [2] [19]) = true := by
  rw [← zVerCs_eq]
  decide +kernel
theorem xw_579_21 : ((xu_579.drop 21).take 1).all (xVerCs xT_579 xHt 100000 209 xm_X10_spanLine xc_579 xu_579 [2] [20]) = true := by
  rw [← zVerCs_eq]
  decide +kernel
theorem xw_579_22 : ((xu_579.drop 22).take 1).all (xVerCs xT_579 xHt 100000 209 xm_X10_spanLine xc_579 xu_579 [2] [21]) = true := by
  rw [← zVerCs_eq]
  decide +kernel
theorem xw_579_23 : ((xu_579.drop 23).take 1).all (xVerCs xT_579 xHt 100000 209 xm_X10_spanLine xc_579 xu_579 [] [22]) = true := by
  rw [← zVerCs_eq]
  decide +kernel
theorem xw_579_24 : ((xu_579.drop 24).take 1).all (xVerCs xT_579 xHt 100000 209 xm_X10_spanLine xc_579 xu_579 [1] [73]) = true := by
  rw [← zVerCs_eq]
  decide +kernel
theorem xw_579_25 : ((xu_579.drop 25).take 1).all (xVerCs xT_579 xHt 100000 209 xm_X10_spanLine xc_579 xu_579 [1] [24]) = true := by
  rw [← zVerCs_eq]
  decide +kernel
theorem xw_579_26 : ((xu_579.drop 26).take 1).all (xVerCs xT_579 xHt 100000 209 xm_X10_spanLine xc_579 xu_579 [1] [25]) = true := by
  rw [← zVerCs_eq]
  decide +kernel
theorem xw_579_27 : ((xu_579.drop 27).take 1).all (xVerCs xT_579 xHt 100000 209 xm_X10_spanLine xc_579 xu_579 [1] [26]) = true := by
  rw [← zVerCs_eq]
  decide +kernel
theorem xw_579_28 : ((xu_579.drop 28).take 1).all (xVerCs xT_579 xHt 100000 209 xm_X10_spanLine xc_579 xu_579 [1] [27]) = true := by
  rw [← zVerCs_eq]
  decide +kernel
theorem xw_579_29 : ((xu_579.drop 29).take 1).all (xVerCs xT_579 xHt 100000 209 xm_X10_spanLine xc_579 xu_579 [1] [28]) = true := by
  rw [← zVerCs_eq]
  decide +kernel
theorem xw_579_30 : ((xu_579.drop 30).take 1).all (xVerCs xT_579 xHt 100000 209 xm_X10_spanLine xc_579 xu_579 [1] [29]) = true := by
  rw [← zVerCs_eq]
  decide +kernel
theorem xw_579_31 : ((xu_579.drop 31).take 1).all (xVerCs xT_579 xHt 100000 209 xm_X10_spanLine xc_579 xu_579 [1] [30]) = true := by
  rw [← zVerCs_eq]
  decide +kernel
theorem xw_579_32 : ((xu_579.drop 32).take 1).all (xVerCs xT_579 xHt 100000 209 xm_X10_spanLine xc_579 xu_579 [1] [31]) = true := by
  rw [← zVerCs_eq]
  decide +kernel
theorem xw_579_33 : ((xu_579.drop 33).take 1).all (xVerCs xT_579 xHt 100000 209 xm_X10_spanLine xc_579 xu_579 [1] [32]) = true := by
  rw [← zVerCs_eq]
  decide +kernel
theorem xw_579_34 : ((xu_579.drop 34).take 1).all (xVerCs xT_579 xHt 100000 209 xm_X10_spanLine xc_579 xu_579 [1] [33]) = true := by
  rw [← zVerCs_eq]
  decide +kernel
theorem xw_579_35 : ((xu_579.drop 35).take 1).all (xVerCs xT_579 xHt 100000 209 xm_X10_spanLine xc_579 xu_579 [1] [34]) = true := by
  rw [← zVerCs_eq]
  decide +kernel
theorem xw_579_36 : ((xu_579.drop 36).take 1).all (xVerCs xT_579 xHt 100000 209 xm_X10_spanLine xc_579 xu_579 [1] [35]) = true := by
  rw [← zVerCs_eq]
  decide +kernel
theorem xw_579_37 : ((xu_579.drop 37).take 1).all (xVerCs xT_579 xHt 100000 209 xm_X10_spanLine xc_579 xu_579 [1] [36]) = true := by
  rw [← zVerCs_eq]
  decide +kernel
theorem xw_579_38 : ((xu_579.drop 38).take 1).all (xVerCs xT_579 xHt 100000 209 xm_X10_spanLine xc_579 xu_579 [1] [37]) = true := by
  rw [← zVerCs_eq]
  decide +kernel
theorem xw_579_39 : ((xu_579.drop 39).take 1).all (xVerCs xT_579 xHt 100000 209 xm_X10_spanLine xc_579 xu_579 [1] [38]) = true := by
  rw [← zVerCs_eq]
  decide +kernel
theorem xw_579_40 : ((xu_579.drop 40).take 1).all (xVerCs xT_579 xHt 100000 209 xm_X10_spanLine xc_579 xu_579 [1] [39]) = true := by
  rw [← zVerCs_eq]
  decide +kernel
theorem xw_579_41 : ((xu_579.drop 41).take 1).all (xVerCs xT_579 xHt 100000 209 xm_X10_spanLine xc_579 xu_579 [1] [40]) = true := by
  rw [← zVerCs_eq]
  decide +kernel
theorem xw_579_42 : ((xu_579.drop 42).take 1).all (xVerCs xT_579 xHt 100000 209 xm_X10_spanLine xc_579 xu_579 [1] [41]) = true := by
  rw [← zVerCs_eq]
  decide +kernel
theorem xw_579_43 : ((xu_579.drop 43).take 1).all (xVerCs xT_579 xHt 100000 209 xm_X10_spanLine xc_579 xu_579 [1] [42]) = true := by
  rw [← zVerCs_eq]
  decide +kernel
theorem xw_579_44 : ((xu_579.drop 44).take 1).all (xVerCs xT_579 xHt 100000 209 xm_X10_spanLine xc_579 xu_579 [1] [43]) = true := by
  rw [← zVerCs_eq]
  decide +kernel
theorem xw_579_45 : ((xu_579.drop 45).take 1).all (xVerCs xT_579 xHt 100000 209 xm_X10_spanLine xc_579 xu_579 [1] [44]) = true := by
  rw [← zVerCs_eq]
  decide +kernel
theorem xw_579_46 : ((xu_579.drop 46).take 1).all (xVerCs xT_579 xHt 100000 209 xm_X10_spanLine xc_579 xu_579 [1] [45]) = true := by
  rw [← zVerCs_eq]
  decide +kernel
theorem xw_579_47 : ((xu_579.drop 47).take 1).all (xVerCs xT_579 xHt 100000 209 xm_X10_spanLine xc_579 xu_579 [] [46]) = true := by
  rw [← zVerCs_eq]
  decide +kernel
theorem xw_579_48 : ((xu_579.drop 48).take 1).all (xVerCs xT_579 xHt 100000 209 xm_X10_spanLine xc_579 xu_579 [0] []) = true := by
  rw [← zVerCs_eq]
  decide +kernel
theorem xw_579_49 : ((xu_579.drop 49).take 1).all (xVerCs xT_579 xHt 100000 209 xm_X10_spanLine xc_579 xu_579 [0] []) = true := by
  rw [← zVerCs_eq]
  decide +kernel
theorem xw_579_50 : ((xu_579.drop 50).take 1).all (xVerCs xT_579 xHt 100000 209 xm_X10_spanLine xc_579 xu_579 [0] []) = true := by
  rw [← zVerCs_eq]
  decide +kernel
theorem xw_579_51 : ((xu_579.drop 51).take 1).all (xVerCs xT_579 xHt 100000 209 xm_X10_spanLine xc_579 xu_579 [0] []) = true := by
  rw [← zVerCs_eq]
  decide +kernel
theorem xw_579_52 : ((xu_579.drop 52).take 1).all (xVerCs xT_579 xHt 100000 209 xm_X10_spanLine xc_579 xu_579 [0] []) = true := by
  rw [← zVerCs_eq]
  decide +kernel
theorem xw_579_53 : ((xu_579.drop 53).take 1).all (xVerCs xT_579 xHt 100000 209 xm_X10_spanLine xc_579 xu_579 [0] []) = true := by
  rw [← zVerCs_eq]
  decide +kernel
theorem xw_579_54 : ((xu_579.drop 54).take 1).all (xVerCs xT_579 xHt 100000 209 xm_X10_spanLine xc_579 xu_579 [0] []) = true := by
  rw [← zVerCs_eq]
  decide +kernel
theorem xw_579_55 : ((xu_579.drop 55).take 1).all (xVerCs xT_579 xHt 100000 209 xm_X10_spanLine xc_579 xu_579 [0] []) = true := by
  rw [← zVerCs_eq]
  decide +kernel
theorem xw_579_56 : ((xu_579.drop 56).take 1).all (xVerCs xT_579 xHt 100000 209 xm_X10_spanLine xc_579 xu_579 [0] []) = true := by
  rw [← zVerCs_eq]
  decide +kernel
theorem xw_579_57 : ((xu_579.drop 57).take 1).all (xVerCs xT_579 xHt 100000 209 xm_X10_spanLine xc_579 xu_579 [0] []) = true := by
  rw [← zVerCs_eq]
  decide +kernel
theorem xw_579_58 : ((xu_579.drop 58).take 1).all (xVerCs xT_579 xHt 100000 209 xm_X10_spanLine xc_579 xu_579 [0] []) = true := by
  rw [← zVerCs_eq]
  decide +kernel
theorem xw_579_59 : ((xu_579.drop 59).take 1).all (xVerCs xT_579 xHt 100000 209 xm_X10_spanLine xc_579 xu_579 [0] []) = true := by
  rw [← zVerCs_eq]
  decide +kernel
theorem xw_579_60 : ((xu_579.drop 60).take 1).all (xVerCs xT_579 xHt 100000 209 xm_X10_spanLine xc_579 xu_579 [0] []) = true := by
  rw [← zVerCs_eq]
  decide +kernel
theorem xw_579_61 : ((xu_579.drop 61).take 1).all (xVerCs xT_579 xHt 100000 209 xm_X10_spanLine xc_579 xu_579 [0] []) = true := by
  rw [← zVerCs_eq]
  decide +kernel
theorem xw_579_62 : ((xu_579.drop 62).take 1).all (xVerCs xT_579 xHt 100000 209 xm_X10_spanLine xc_579 xu_579 [0] []) = true := by
  rw [← zVerCs_eq]
  decide +kernel
theorem xw_579_63 : ((xu_579.drop 63).take 1).all (xVerCs xT_579 xHt 100000 209 xm_X10_spanLine xc_579 xu_579 [0] []) = true := by
  rw [← zVerCs_eq]
  decide +kernel
theorem xw_579_64 : ((xu_579.drop 64).take 1).all (xVerCs xT_579 xHt 100000 209 xm_X10_spanLine xc_579 xu_579 [0] []) = true := by
  rw [← zVerCs_eq]
  decide +kernel
theorem xw_579_65 : ((xu_579.drop 65).take 1).all (xVerCs xT_579 xHt 100000 209 xm_X10_spanLine xc_579 xu_579 [0] []) = true := by
  rw [← zVerCs_eq]
  decide +kernel
theorem xw_579_66 : ((xu_579.drop 66).take 1).all (xVerCs xT_579 xHt 100000 209 xm_X10_spanLine xc_579 xu_579 [0] []) = true := by
  rw [← zVerCs_eq]
  decide +kernel
theorem xw_579_67 : ((xu_579.drop 67).take 1).all (xVerCs xT_579 xHt 100000 209 xm_X10_spanLine xc_579 xu_579 [0] []) = true := by
  rw [← zVerCs_eq]
  decide +kernel
theorem xw_579_68 : ((xu_579.drop 68).take 1).all (xVerCs xT_579 xHt 100000 209 xm_X10_spanLine xc_579 xu_579 [0] []) = true := by
  rw [← zVerCs_eq]
  decide +kernel
theorem xw_579_69 : ((xu_579.drop 69).take 1).all (xVerCs xT_579 xHt 100000 209 xm_X10_spanLine xc_579 xu_579 [0] []) = true := by
  rw [← zVerCs_eq]
  decide +kernel
theorem xw_579_70 : ((xu_579.drop 70).take 1).all (xVerCs xT_579 xHt 100000 209 xm_X10_spanLine xc_579 xu_579 [0] []) = true := by
  rw [← zVerCs_eq]
  decide +kernel
theorem xw_579_71 : ((xu_579.drop 71).take 1).all (xVerCs xT_579 xHt 100000 209 xm_X10_spanLine xc_579 xu_579 [0] []) = true := by
  rw [← zVerCs_eq]
  decide +kernel
theorem xw_579_72 : ((xu_579.drop 72).take 1).all (xVerCs xT_579 xHt 100000 209 xm_X10_spanLine xc_579 xu_579 [2] []) = true := by
  rw [← zVerCs_eq]
  decide +kernel
theorem xw_579_73 : ((xu_579.drop 73).take 1).all (xVerCs xT_579 xHt 100000 209 xm_X10_spanLine xc_579 xu_579 [1] []) = true := by
  rw [← zVerCs_eq]
  decide +kernel
theorem xok_579 (l : Launch) : xCk l 209 xc_579 := ⟨xm_X10_spanLine, rfl, xVer_ok xk_all (xHt_ok l) (T := xT_579) (xTc (xok_574 l) (xTn l)) rfl (f := 100000) (cuts := xu_579) (xStE (es := []) xn_579 (xStS xv_579_0 (xStS xv_579_18 (xStS xv_579_36 (xStS xv_579_54 (xStS xv_579_72 (xStS xv_579_90 (xStS xv_579_108 (xStS xv_579_126 (xStS xv_579_144 (xStZ xz_579))))))))))) (xAll0 (xAllS 0 1 (xAllCs xw_579_0) (xAllS 1 1 (xAllCs xw_579_1) (xAllS 2 1 (xAllCs xw_579_2) (xAllS 3 1 (xAllCs xw_579_3) (xAllS 4 1 (xAllCs xw_579_4) (xAllS 5 1 (xAllCs xw_579_5) (xAllS 6 1 (xAllCs xw_579_6) (xAllS 7 1 (xAllCs xw_579_7) (xAllS 8 1 (xAllCs xw_579_8) (xAllS 9 1 (xAllCs xw_579_9) (xAllS 10 1 (xAllCs xw_579_10) (xAllS 11 1 (xAllCs xw_579_11) (xAllS 12 1 (xAllCs xw_579_12) (xAllS 13 1 (xAllCs xw_579_13) (xAllS 14 1 (xAllCs xw_579_14) (xAllS 15 1 (xAllCs xw_579_15) (xAllS 16 1 (xAllCs xw_579_16) (xAllS 17 1 (xAllCs xw_579_17) (xAllS 18 1 (xAllCs xw_579_18) (xAllS 19 1 (xAllCs xw_579_19) (xAllS 20 1 (xAllCs xw_579_20) (xAllS 21 1 (xAllCs xw_579_21) (xAllS 22 1 (xAllCs xw_579_22) (xAllS 23 1 (xAllCs xw_579_23) (xAllS 24 1 (xAllCs xw_579_24) (xAllS 25 1 (xAllCs xw_579_25) (xAllS 26 1 (xAllCs xw_579_26) (xAllS 27 1 (xAllCs xw_579_27) (xAllS 28 1 (xAllCs xw_579_28) (xAllS 29 1 (xAllCs xw_579_29) (xAllS 30 1 (xAllCs xw_579_30) (xAllS 31 1 (xAllCs xw_579_31) (xAllS 32 1 (xAllCs xw_579_32) (xAllS 33 1 (xAllCs xw_579_33) (xAllS 34 1 (xAllCs xw_579_34) (xAllS 35 1 (xAllCs xw_579_35) (xAllS 36 1 (xAllCs xw_579_36) (xAllS 37 1 (xAllCs xw_579_37) (xAllS 38 1 (xAllCs xw_579_38) (xAllS 39 1 (xAllCs xw_579_39) (xAllS 40 1 (xAllCs xw_579_40) (xAllS 41 1 (xAllCs xw_579_41) (xAllS 42 1 (xAllCs xw_579_42) (xAllS 43 1 (xAllCs xw_579_43) (xAllS 44 1 (xAllCs xw_579_44) (xAllS 45 1 (xAllCs xw_579_45) (xAllS 46 1 (xAllCs xw_579_46) (xAllS 47 1 (xAllCs xw_579_47) (xAllS 48 1 (xAllCs xw_579_48) (xAllS 49 1 (xAllCs xw_579_49) (xAllS 50 1 (xAllCs xw_579_50) (xAllS 51 1 (xAllCs xw_579_51) (xAllS 52 1 (xAllCs xw_579_52) (xAllS 53 1 (xAllCs xw_579_53) (xAllS 54 1 (xAllCs xw_579_54) (xAllS 55 1 (xAllCs xw_579_55) (xAllS 56 1 (xAllCs xw_579_56) (xAllS 57 1 (xAllCs xw_579_57) (xAllS 58 1 (xAllCs xw_579_58) (xAllS 59 1 (xAllCs xw_579_59) (xAllS 60 1 (xAllCs xw_579_60) (xAllS 61 1 (xAllCs xw_579_61) (xAllS 62 1 (xAllCs xw_579_62) (xAllS 63 1 (xAllCs xw_579_63) (xAllS 64 1 (xAllCs xw_579_64) (xAllS 65 1 (xAllCs xw_579_65) (xAllS 66 1 (xAllCs xw_579_66) (xAllS 67 1 (xAllCs xw_579_67) (xAllS 68 1 (xAllCs xw_579_68) (xAllS 69 1 (xAllCs xw_579_69) (xAllS 70 1 (xAllCs xw_579_70) (xAllS 71 1 (xAllCs xw_579_71) (xAllS 72 1 (xAllCs xw_579_72) (xAllS 73 1 (xAllCs xw_579_73) (xAllZ (by decide +kernel)))))))))))))))))))))))))))))))))))))))))))))))))))))))))))))))))))))))))))))⟩
