/-! Contracts, printed by a program: part 5. -/
def xc_116 : xCt := (([kc213, kc214, kc28, kc215, kc148], [kA3, kA3, kA3, kA3, kA3, kA3, kA3, kA3, (15, 17)], [], [kR 0, kR 3], 9), [([kc213, kc214, kc28, kc215, kc148], [kA3, kA3, kA3, kA3, kA3, kA3, kA3, kA3, (15, 17), (0, 1)], [], [kI 9], 9)], 1)
def xu_116 : List xCu := []
def xT_116 : List (Nat × xCt) := []
theorem xv_116 : xVer0 xT_116 xHt 100000 91 xm_X7_agreesByTriples xc_116 xu_116 = true := by
  rw [← zVer0_eq]
  decide +kernel
theorem xok_116 (l : Launch) : xCk l 91 xc_116 := ⟨xm_X7_agreesByTriples, rfl, xVer_ok xk_all (xHt_ok l) (T := xT_116) (xTn l) rfl (f := 100000) (cuts := xu_116) xv_116 (fun Cu h => absurd h List.not_mem_nil)⟩
def xc_117 : xCt := (([kc211, kc53, kc48, kc13, kc20, kc31, kc14, kc21, kc22, kc23, kc15, kc4, kc5, kc56, kc14, kc14, kc16, kc0, kc28, kc23, kc23, kc14, kc216, kc148], [kA3, kA3, kA3, kA3, kA3, kA3, (0, 6), (0, 30), kA3, (0, 24), kA3, kA3, kA3, (15, 17)], [], [kR 0, kR 22], 1), [([kc211, kc53, kc48, kc13, kc20, kc31, kc14, kc21, kc22, kc23, kc15, kc4, kc5, kc64, kc14, kc14, kc16, kc0, kc28, kc23, kc23, kc14, kc216, kc148], [kA3, kA3, kA3, kA3, kA3, kA3, (0, 6), (0, 30), kA3, (0, 24), kA3, kA3, kA3, (15, 17), kA3, kA3], [], [kI 14], 1)], 4)
def xu_117 : List xCu := [(11, [0, 1, 2, 3], ([kc211, kc53, kc48, kc13, kc20, kc31, kc14, kc21, kc22, kc23, kc15, kc4, kc5, kc58, kc14, kc14, kc16, kc0, kc28, kc23, kc23, kc14, kc216, kc148], [kA3, kA3, kA3, kA3, kA3, kA3, (0, 6), (0, 30), kA3, (0, 24), kA3, kA3, kA3, (15, 17), kA3, (0, 4), kA3], [], [kR 0, kR 22, kI 14, kI 15], 1), ([(15, (-1))], 4))]
def xT_117 : List (Nat × xCt) := [(61, xc_7), (64, xc_13), (91, xc_116)]
theorem xv_117 : xVer0 xT_117 xHt 100000 90 xm_X7_lawsOf xc_117 xu_117 = true := by
  rw [← zVer0_eq]
  decide +kernel
theorem xw_117_0 : ((xu_117.drop 0).take 1).all (xVerC xT_117 xHt 100000 90 xm_X7_lawsOf xc_117 xu_117) = true := by
  rw [← zVerC_eq]
  decide +kernel
theorem xok_117 (l : Launch) : xCk l 90 xc_117 := ⟨xm_X7_lawsOf, rfl, xVer_ok xk_all (xHt_ok l) (T := xT_117) (xTc (xok_7 l) (xTc (xok_13 l) (xTc (xok_116 l) (xTn l)))) rfl (f := 100000) (cuts := xu_117) xv_117 (xAll0 (xAllS 0 1 xw_117_0 (xAllZ (by decide +kernel))))⟩
def xc_118 : xCt := (([kc213, kc214, kc28, kc215, kc149], [kA3, kA3, kA3, kA3, kA3, kA3, kA3, kA3, (18, 20)], [], [kR 0, kR 3], 9), [([kc213, kc214, kc28, kc215, kc149], [kA3, kA3, kA3, kA3, kA3, kA3, kA3, kA3, (18, 20), (0, 1)], [], [kI 9], 9)], 1)
def xu_118 : List xCu := []
def xT_118 : List (Nat × xCt) := []
theorem xv_118 : xVer0 xT_118 xHt 100000 91 xm_X7_agreesByTriples xc_118 xu_118 = true := by
  rw [← zVer0_eq]
  decide +kernel
theorem xok_118 (l : Launch) : xCk l 91 xc_118 := ⟨xm_X7_agreesByTriples, rfl, xVer_ok xk_all (xHt_ok l) (T := xT_118) (xTn l) rfl (f := 100000) (cuts := xu_118) xv_118 (fun Cu h => absurd h List.not_mem_nil)⟩
def xc_119 : xCt := (([kc211, kc53, kc48, kc13, kc20, kc31, kc14, kc21, kc22, kc23, kc15, kc4, kc5, kc56, kc14, kc14, kc16, kc0, kc28, kc23, kc23, kc14, kc216, kc149], [kA3, kA3, kA3, kA3, kA3, kA3, (0, 6), (0, 30), kA3, (0, 24), kA3, kA3, kA3, (18, 20)], [], [kR 0, kR 22], 1), [([kc211, kc53, kc48, kc13, kc20, kc31, kc14, kc21, kc22, kc23, kc15, kc4, kc5, kc64, kc14, kc14, kc16, kc0, kc28, kc23, kc23, kc14, kc216, kc149], [kA3, kA3, kA3, kA3, kA3, kA3, (0, 6), (0, 30), kA3, (0, 24), kA3, kA3, kA3, (18, 20), kA3, kA3], [], [kI 14], 1)], 4)
def xu_119 : List xCu := [(11, [0, 1, 2, 3], ([kc211, kc53, kc48, kc13, kc20, kc31, kc14, kc21, kc22, kc23, kc15, kc4, kc5, kc58, kc14, kc14, kc16, kc0, kc28, kc23, kc23, kc14, kc216, kc149], [kA3, kA3, kA3, kA3, kA3, kA3, (0, 6), (0, 30), kA3, (0, 24), kA3, kA3, kA3, (18, 20), kA3, (0, 4), kA3], [], [kR 0, kR 22, kI 14, kI 15], 1), ([(15, (-1))], 4))]
def xT_119 : List (Nat × xCt) := [(61, xc_7), (64, xc_13), (91, xc_118)]
theorem xv_119 : xVer0 xT_119 xHt 100000 90 xm_X7_lawsOf xc_119 xu_119 = true := by
  rw [← zVer0_eq]
  decide +kernel
theorem xw_119_0 : ((xu_119.drop 0).take 1).all (xVerC xT_119 xHt 100000 90 xm_X7_lawsOf xc_119 xu_119) = true := by
  rw [← zVerC_eq]
  decide +kernel
theorem xok_119 (l : Launch) : xCk l 90 xc_119 := ⟨xm_X7_lawsOf, rfl, xVer_ok xk_all (xHt_ok l) (T := xT_119) (xTc (xok_7 l) (xTc (xok_13 l) (xTc (xok_118 l) (xTn l)))) rfl (f := 100000) (cuts := xu_119) xv_119 (xAll0 (xAllS 0 1 xw_119_0 (xAllZ (by decide +kernel))))⟩
def xc_120 : xCt := (([kc213, kc214, kc28, kc215, kc150], [kA3, kA3, kA3, kA3, kA3, kA3, kA3, kA3, (21, 23)], [], [kR 0, kR 3], 9), [([kc213, kc214, kc28, kc215, kc150], [kA3, kA3, kA3, kA3, kA3, kA3, kA3, kA3, (21, 23), (0, 1)], [], [kI 9], 9)], 1)
def xu_120 : List xCu := []
def xT_120 : List (Nat × xCt) := []
theorem xv_120 : xVer0 xT_120 xHt 100000 91 xm_X7_agreesByTriples xc_120 xu_120 = true := by
  rw [← zVer0_eq]
  decide +kernel
theorem xok_120 (l : Launch) : xCk l 91 xc_120 := ⟨xm_X7_agreesByTriples, rfl, xVer_ok xk_all (xHt_ok l) (T := xT_120) (xTn l) rfl (f := 100000) (cuts := xu_120) xv_120 (fun Cu h => absurd h List.not_mem_nil)⟩
def xc_121 : xCt := (([kc211, kc53, kc48, kc13, kc20, kc31, kc14, kc21, kc22, kc23, kc15, kc4, kc5, kc56, kc14, kc14, kc16, kc0, kc28, kc23, kc23, kc14, kc216, kc150], [kA3, kA3, kA3, kA3, kA3, kA3, (0, 6), (0, 30), kA3, (0, 24), kA3, kA3, kA3, (21, 23)], [], [kR 0, kR 22], 1), [([kc211, kc53, kc48, kc13, kc20, kc31, kc14, kc21, kc22, kc23, kc15, kc4, kc5, kc64, kc14, kc14, kc16, kc0, kc28, kc23, kc23, kc14, kc216, kc150], [kA3, kA3, kA3, kA3, kA3, kA3, (0, 6), (0, 30), kA3, (0, 24), kA3, kA3, kA3, (21, 23), kA3, kA3], [], [kI 14], 1)], 4)
def xu_121 : List xCu := [(11, [0, 1, 2, 3], ([kc211, kc53, kc48, kc13, kc20, kc31, kc14, kc21, kc22, kc23, kc15, kc4, kc5, kc58, kc14, kc14, kc16, kc0, kc28, kc23, kc23, kc14, kc216, kc150], [kA3, kA3, kA3, kA3, kA3, kA3, (0, 6), (0, 30), kA3, (0, 24), kA3, kA3, kA3, (21, 23), kA3, (0, 4), kA3], [], [kR 0, kR 22, kI 14, kI 15], 1), ([(15, (-1))], 4))]
def xT_121 : List (Nat × xCt) := [(61, xc_7), (64, xc_13), (91, xc_120)]
theorem xv_121 : xVer0 xT_121 xHt 100000 90 xm_X7_lawsOf xc_121 xu_121 = true := by
  rw [← zVer0_eq]
  decide +kernel
theorem xw_121_0 : ((xu_121.drop 0).take 1).all (xVerC xT_121 xHt 100000 90 xm_X7_lawsOf xc_121 xu_121) = true := by
  rw [← zVerC_eq]
  decide +kernel
theorem xok_121 (l : Launch) : xCk l 90 xc_121 := ⟨xm_X7_lawsOf, rfl, xVer_ok xk_all (xHt_ok l) (T := xT_121) (xTc (xok_7 l) (xTc (xok_13 l) (xTc (xok_120 l) (xTn l)))) rfl (f := 100000) (cuts := xu_121) xv_121 (xAll0 (xAllS 0 1 xw_121_0 (xAllZ (by decide +kernel))))⟩
def xc_122 : xCt := (([kc213, kc214, kc28, kc215, kc151], [kA3, kA3, kA3, kA3, kA3, kA3, kA3, kA3, (24, 26)], [], [kR 0, kR 3], 9), [([kc213, kc214, kc28, kc215, kc151], [kA3, kA3, kA3, kA3, kA3, kA3, kA3, kA3, (24, 26), (0, 1)], [], [kI 9], 9)], 1)
def xu_122 : List xCu := []
def xT_122 : List (Nat × xCt) := []
theorem xv_122 : xVer0 xT_122 xHt 100000 91 xm_X7_agreesByTriples xc_122 xu_122 = true := by
  rw [← zVer0_eq]
  decide +kernel
theorem xok_122 (l : Launch) : xCk l 91 xc_122 := ⟨xm_X7_agreesByTriples, rfl, xVer_ok xk_all (xHt_ok l) (T := xT_122) (xTn l) rfl (f := 100000) (cuts := xu_122) xv_122 (fun Cu h => absurd h List.not_mem_nil)⟩
def xc_123 : xCt := (([kc211, kc53, kc48, kc13, kc20, kc31, kc14, kc21, kc22, kc23, kc15, kc4, kc5, kc56, kc14, kc14, kc16, kc0, kc28, kc23, kc23, kc14, kc216, kc151], [kA3, kA3, kA3, kA3, kA3, kA3, (0, 6), (0, 30), kA3, (0, 24), kA3, kA3, kA3, (24, 26)], [], [kR 0, kR 22], 1), [([kc211, kc53, kc48, kc13, kc20, kc31, kc14, kc21, kc22, kc23, kc15, kc4, kc5, kc64, kc14, kc14, kc16, kc0, kc28, kc23, kc23, kc14, kc216, kc151], [kA3, kA3, kA3, kA3, kA3, kA3, (0, 6), (0, 30), kA3, (0, 24), kA3, kA3, kA3, (24, 26), kA3, kA3], [], [kI 14], 1)], 4)
def xu_123 : List xCu := [(11, [0, 1, 2, 3], ([kc211, kc53, kc48, kc13, kc20, kc31, kc14, kc21, kc22, kc23, kc15, kc4, kc5, kc58, kc14, kc14, kc16, kc0, kc28, kc23, kc23, kc14, kc216, kc151], [kA3, kA3, kA3, kA3, kA3, kA3, (0, 6), (0, 30), kA3, (0, 24), kA3, kA3, kA3, (24, 26), kA3, (0, 4), kA3], [], [kR 0, kR 22, kI 14, kI 15], 1), ([(15, (-1))], 4))]
def xT_123 : List (Nat × xCt) := [(61, xc_7), (64, xc_13), (91, xc_122)]
theorem xv_123 : xVer0 xT_123 xHt 100000 90 xm_X7_lawsOf xc_123 xu_123 = true := by
  rw [← zVer0_eq]
  decide +kernel
theorem xw_123_0 : ((xu_123.drop 0).take 1).all (xVerC xT_123 xHt 100000 90 xm_X7_lawsOf xc_123 xu_123) = true := by
  rw [← zVerC_eq]
  decide +kernel
theorem xok_123 (l : Launch) : xCk l 90 xc_123 := ⟨xm_X7_lawsOf, rfl, xVer_ok xk_all (xHt_ok l) (T := xT_123) (xTc (xok_7 l) (xTc (xok_13 l) (xTc (xok_122 l) (xTn l)))) rfl (f := 100000) (cuts := xu_123) xv_123 (xAll0 (xAllS 0 1 xw_123_0 (xAllZ (by decide +kernel))))⟩
def xc_124 : xCt := (([kc213, kc214, kc28, kc215, kc152], [kA3, kA3, kA3, kA3, kA3, kA3, kA3, kA3, (27, 29)], [], [kR 0, kR 3], 9), [([kc213, kc214, kc28, kc215, kc152], [kA3, kA3, kA3, kA3, kA3, kA3, kA3, kA3, (27, 29), (0, 1)], [], [kI 9], 9)], 1)
def xu_124 : List xCu := []
def xT_124 : List (Nat × xCt) := []
theorem xv_124 : xVer0 xT_124 xHt 100000 91 xm_X7_agreesByTriples xc_124 xu_124 = true := by
  rw [← zVer0_eq]
  decide +kernel
theorem xok_124 (l : Launch) : xCk l 91 xc_124 := ⟨xm_X7_agreesByTriples, rfl, xVer_ok xk_all (xHt_ok l) (T := xT_124) (xTn l) rfl (f := 100000) (cuts := xu_124) xv_124 (fun Cu h => absurd h List.not_mem_nil)⟩
def xc_125 : xCt := (([kc211, kc53, kc48, kc13, kc20, kc31, kc14, kc21, kc22, kc23, kc15, kc4, kc5, kc56, kc14, kc14, kc16, kc0, kc28, kc23, kc23, kc14, kc216, kc152], [kA3, kA3, kA3, kA3, kA3, kA3, (0, 6), (0, 30), kA3, (0, 24), kA3, kA3, kA3, (27, 29)], [], [kR 0, kR 22], 1), [([kc211, kc53, kc48, kc13, kc20, kc31, kc14, kc21, kc22, kc23, kc15, kc4, kc5, kc64, kc14, kc14, kc16, kc0, kc28, kc23, kc23, kc14, kc216, kc152], [kA3, kA3, kA3, kA3, kA3, kA3, (0, 6), (0, 30), kA3, (0, 24), kA3, kA3, kA3, (27, 29), kA3, kA3], [], [kI 14], 1)], 4)
def xu_125 : List xCu := [(11, [0, 1, 2, 3], ([kc211, kc53, kc48, kc13, kc20, kc31, kc14, kc21, kc22, kc23, kc15, kc4, kc5, kc58, kc14, kc14, kc16, kc0, kc28, kc23, kc23, kc14, kc216, kc152], [kA3, kA3, kA3, kA3, kA3, kA3, (0, 6), (0, 30), kA3, (0, 24), kA3, kA3, kA3, (27, 29), kA3, (0, 4), kA3], [], [kR 0, kR 22, kI 14, kI 15], 1), ([(15, (-1))], 4))]
def xT_125 : List (Nat × xCt) := [(61, xc_7), (64, xc_13), (91, xc_124)]
theorem xv_125 : xVer0 xT_125 xHt 100000 90 xm_X7_lawsOf xc_125 xu_125 = true := by
  rw [← zVer0_eq]
  decide +kernel
theorem xw_125_0 : ((xu_125.drop 0).take 1).all (xVerC xT_125 xHt 100000 90 xm_X7_lawsOf xc_125 xu_125) = true := by
  rw [← zVerC_eq]
  decide +kernel
theorem xok_125 (l : Launch) : xCk l 90 xc_125 := ⟨xm_X7_lawsOf, rfl, xVer_ok xk_all (xHt_ok l) (T := xT_125) (xTc (xok_7 l) (xTc (xok_13 l) (xTc (xok_124 l) (xTn l)))) rfl (f := 100000) (cuts := xu_125) xv_125 (xAll0 (xAllS 0 1 xw_125_0 (xAllZ (by decide +kernel))))⟩
def xc_126 : xCt := (([kc213, kc214, kc28, kc215, kc154], [kA3, kA3, kA3, kA3, kA3, kA3, kA3, kA3, (30, 32)], [], [kR 0, kR 3], 9), [([kc213, kc214, kc28, kc215, kc154], [kA3, kA3, kA3, kA3, kA3, kA3, kA3, kA3, (30, 32), (0, 1)], [], [kI 9], 9)], 1)
def xu_126 : List xCu := []
def xT_126 : List (Nat × xCt) := []
theorem xv_126 : xVer0 xT_126 xHt 100000 91 xm_X7_agreesByTriples xc_126 xu_126 = true := by
  rw [← zVer0_eq]
  decide +kernel
theorem xok_126 (l : Launch) : xCk l 91 xc_126 := ⟨xm_X7_agreesByTriples, rfl, xVer_ok xk_all (xHt_ok l) (T := xT_126) (xTn l) rfl (f := 100000) (cuts := xu_126) xv_126 (fun Cu h => absurd h List.not_mem_nil)⟩
def xc_127 : xCt := (([kc211, kc53, kc48, kc13, kc20, kc31, kc14, kc21, kc22, kc23, kc15, kc4, kc5, kc56, kc14, kc14, kc16, kc0, kc28, kc23, kc23, kc14, kc216, kc154], [kA3, kA3, kA3, kA3, kA3, kA3, (0, 6), (0, 30), kA3, (0, 24), kA3, kA3, kA3, (30, 32)], [], [kR 0, kR 22], 1), [([kc211, kc53, kc48, kc13, kc20, kc31, kc14, kc21, kc22, kc23, kc15, kc4, kc5, kc64, kc14, kc14, kc16, kc0, kc28, kc23, kc23, kc14, kc216, kc154], [kA3, kA3, kA3, kA3, kA3, kA3, (0, 6), (0, 30), kA3, (0, 24), kA3, kA3, kA3, (30, 32), kA3, kA3], [], [kI 14], 1)], 4)
def xu_127 : List xCu := [(11, [0, 1, 2, 3], ([kc211, kc53, kc48, kc13, kc20, kc31, kc14, kc21, kc22, kc23, kc15, kc4, kc5, kc58, kc14, kc14, kc16, kc0, kc28, kc23, kc23, kc14, kc216, kc154], [kA3, kA3, kA3, kA3, kA3, kA3, (0, 6), (0, 30), kA3, (0, 24), kA3, kA3, kA3, (30, 32), kA3, (0, 4), kA3], [], [kR 0, kR 22, kI 14, kI 15], 1), ([(15, (-1))], 4))]
def xT_127 : List (Nat × xCt) := [(61, xc_7), (64, xc_13), (91, xc_126)]
theorem xv_127 : xVer0 xT_127 xHt 100000 90 xm_X7_lawsOf xc_127 xu_127 = true := by
  rw [← zVer0_eq]
  decide +kernel
theorem xw_127_0 : ((xu_127.drop 0).take 1).all (xVerC xT_127 xHt 100000 90 xm_X7_lawsOf xc_127 xu_127) = true := by
  rw [← zVerC_eq]
  decide +kernel
theorem xok_127 (l : Launch) : xCk l 90 xc_127 := ⟨xm_X7_lawsOf, rfl, xVer_ok xk_all (xHt_ok l) (T := xT_127) (xTc (xok_7 l) (xTc (xok_13 l) (xTc (xok_126 l) (xTn l)))) rfl (f := 100000) (cuts := xu_127) xv_127 (xAll0 (xAllS 0 1 xw_127_0 (xAllZ (by decide +kernel))))⟩
def xc_128 : xCt := (([kc213, kc214, kc28, kc215, kc155], [kA3, kA3, kA3, kA3, kA3, kA3, kA3, kA3, (33, 35)], [], [kR 0, kR 3], 9), [([kc213, kc214, kc28, kc215, kc155], [kA3, kA3, kA3, kA3, kA3, kA3, kA3, kA3, (33, 35), (0, 1)], [], [kI 9], 9)], 1)
def xu_128 : List xCu := []
def xT_128 : List (Nat × xCt) := []
theorem xv_128 : xVer0 xT_128 xHt 100000 91 xm_X7_agreesByTriples xc_128 xu_128 = true := by
  rw [← zVer0_eq]
  decide +kernel
theorem xok_128 (l : Launch) : xCk l 91 xc_128 := ⟨xm_X7_agreesByTriples, rfl, xVer_ok xk_all (xHt_ok l) (T := xT_128) (xTn l) rfl (f := 100000) (cuts := xu_128) xv_128 (fun Cu h => absurd h List.not_mem_nil)⟩
def xc_129 : xCt := (([kc211, kc53, kc48, kc13, kc20, kc31, kc14, kc21, kc22, kc23, kc15, kc4, kc5, kc56, kc14, kc14, kc16, kc0, kc28, kc23, kc23, kc14, kc216, kc155], [kA3, kA3, kA3, kA3, kA3, kA3, (0, 6), (0, 30), kA3, (0, 24), kA3, kA3, kA3, (33, 35)], [], [kR 0, kR 22], 1), [([kc211, kc53, kc48, kc13, kc20, kc31, kc14, kc21, kc22, kc23, kc15, kc4, kc5, kc64, kc14, kc14, kc16, kc0, kc28, kc23, kc23, kc14, kc216, kc155], [kA3, kA3, kA3, kA3, kA3, kA3, (0, 6), (0, 30), kA3, (0, 24), kA3, kA3, kA3, (33, 35), kA3, kA3], [], [kI 14], 1)], 4)
def xu_129 : List xCu := [(11, [0, 1, 2, 3], ([kc211, kc53, kc48, kc13, kc20, kc31, kc14, kc21, kc22, kc23, kc15, kc4, kc5, kc58, kc14, kc14, kc16, kc0, kc28, kc23, kc23, kc14, kc216, kc155], [kA3, kA3, kA3, kA3, kA3, kA3, (0, 6), (0, 30), kA3, (0, 24), kA3, kA3, kA3, (33, 35), kA3, (0, 4), kA3], [], [kR 0, kR 22, kI 14, kI 15], 1), ([(15, (-1))], 4))]
def xT_129 : List (Nat × xCt) := [(61, xc_7), (64, xc_13), (91, xc_128)]
theorem xv_129 : xVer0 xT_129 xHt 100000 90 xm_X7_lawsOf xc_129 xu_129 = true := by
  rw [← zVer0_eq]
  decide +kernel
theorem xw_129_0 : ((xu_129.drop 0).take 1).all (xVerC xT_129 xHt 100000 90 xm_X7_lawsOf xc_129 xu_129) = true := by
  rw [← zVerC_eq]
  decide +kernel
theorem xok_129 (l : Launch) : xCk l 90 xc_129 := ⟨xm_X7_lawsOf, rfl, xVer_ok xk_all (xHt_ok l) (T := xT_129) (xTc (xok_7 l) (xTc (xok_13 l) (xTc (xok_128 l) (xTn l)))) rfl (f := 100000) (cuts := xu_129) xv_129 (xAll0 (xAllS 0 1 xw_129_0 (xAllZ (by decide +kernel))))⟩
def xc_130 : xCt := (([kc213, kc214, kc28, kc215, kc156], [kA3, kA3, kA3, kA3, kA3, kA3, kA3, kA3, (36, 38)], [], [kR 0, kR 3], 9), [([kc213, kc214, kc28, kc215, kc156], [kA3, kA3, kA3, kA3, kA3, kA3, kA3, kA3, (36, 38), (0, 1)], [], [kI 9], 9)], 1)
def xu_130 : List xCu := []
def xT_130 : List (Nat × xCt) := []
theorem xv_130 : xVer0 xT_130 xHt 100000 91 xm_X7_agreesByTriples xc_130 xu_130 = true := by
  rw [← zVer0_eq]
  decide +kernel
theorem xok_130 (l : Launch) : xCk l 91 xc_130 := ⟨xm_X7_agreesByTriples, rfl, xVer_ok xk_all (xHt_ok l) (T := xT_130) (xTn l) rfl (f := 100000) (cuts := xu_130) xv_130 (fun Cu h => absurd h List.not_mem_nil)⟩
def xc_131 : xCt := (([kc211, kc53, kc48, kc13, kc20, kc31, kc14, kc21, kc22, kc23, kc15, kc4, kc5, kc56, kc14, kc14, kc16, kc0, kc28, kc23, kc23, kc14, kc216, kc156], [kA3, kA3, kA3, kA3, kA3, kA3, (0, 6), (0, 30), kA3, (0, 24), kA3, kA3, kA3, (36, 38)], [], [kR 0, kR 22], 1), [([kc211, kc53, kc48, kc13, kc20, kc31, kc14, kc21, kc22, kc23, kc15, kc4, kc5, kc64, kc14, kc14, kc16, kc0, kc28, kc23, kc23, kc14, kc216, kc156], [kA3, kA3, kA3, kA3, kA3, kA3, (0, 6), (0, 30), kA3, (0, 24), kA3, kA3, kA3, (36, 38), kA3, kA3], [], [kI 14], 1)], 4)
def xu_131 : List xCu := [(11, [0, 1, 2, 3], ([kc211, kc53, kc48, kc13, kc20, kc31, kc14, kc21, kc22, kc23, kc15, kc4, kc5, kc58, kc14, kc14, kc16, kc0, kc28, kc23, kc23, kc14, kc216, kc156], [kA3, kA3, kA3, kA3, kA3, kA3, (0, 6), (0, 30), kA3, (0, 24), kA3, kA3, kA3, (36, 38), kA3, (0, 4), kA3], [], [kR 0, kR 22, kI 14, kI 15], 1), ([(15, (-1))], 4))]
def xT_131 : List (Nat × xCt) := [(61, xc_7), (64, xc_13), (91, xc_130)]
theorem xv_131 : xVer0 xT_131 xHt 100000 90 xm_X7_lawsOf xc_131 xu_131 = true := by
  rw [← zVer0_eq]
  decide +kernel
theorem xw_131_0 : ((xu_131.drop 0).take 1).all (xVerC xT_131 xHt 100000 90 xm_X7_lawsOf xc_131 xu_131) = true := by
  rw [← zVerC_eq]
  decide +kernel
theorem xok_131 (l : Launch) : xCk l 90 xc_131 := ⟨xm_X7_lawsOf, rfl, xVer_ok xk_all (xHt_ok l) (T := xT_131) (xTc (xok_7 l) (xTc (xok_13 l) (xTc (xok_130 l) (xTn l)))) rfl (f := 100000) (cuts := xu_131) xv_131 (xAll0 (xAllS 0 1 xw_131_0 (xAllZ (by decide +kernel))))⟩
def xc_132 : xCt := (([kc213, kc214, kc28, kc215, kc157], [kA3, kA3, kA3, kA3, kA3, kA3, kA3, kA3, (39, 41)], [], [kR 0, kR 3], 9), [([kc213, kc214, kc28, kc215, kc157], [kA3, kA3, kA3, kA3, kA3, kA3, kA3, kA3, (39, 41), (0, 1)], [], [kI 9], 9)], 1)
def xu_132 : List xCu := []
def xT_132 : List (Nat × xCt) := []
theorem xv_132 : xVer0 xT_132 xHt 100000 91 xm_X7_agreesByTriples xc_132 xu_132 = true := by
  rw [← zVer0_eq]
  decide +kernel
theorem xok_132 (l : Launch) : xCk l 91 xc_132 := ⟨xm_X7_agreesByTriples, rfl, xVer_ok xk_all (xHt_ok l) (T := xT_132) (xTn l) rfl (f := 100000) (cuts := xu_132) xv_132 (fun Cu h => absurd h List.not_mem_nil)⟩
def xc_133 : xCt := (([kc211, kc53, kc48, kc13, kc20, kc31, kc14, kc21, kc22, kc23, kc15, kc4, kc5, kc56, kc14, kc14, kc16, kc0, kc28, kc23, kc23, kc14, kc216, kc157], [kA3, kA3, kA3, kA3, kA3, kA3, (0, 6), (0, 30), kA3, (0, 24), kA3, kA3, kA3, (39, 41)], [], [kR 0, kR 22], 1), [([kc211, kc53, kc48, kc13, kc20, kc31, kc14, kc21, kc22, kc23, kc15, kc4, kc5, kc64, kc14, kc14, kc16, kc0, kc28, kc23, kc23, kc14, kc216, kc157], [kA3, kA3, kA3, kA3, kA3, kA3, (0, 6), (0, 30), kA3, (0, 24), kA3, kA3, kA3, (39, 41), kA3, kA3], [], [kI 14], 1)], 4)
def xu_133 : List xCu := [(11, [0, 1, 2, 3], ([kc211, kc53, kc48, kc13, kc20, kc31, kc14, kc21, kc22, kc23, kc15, kc4, kc5, kc58, kc14, kc14, kc16, kc0, kc28, kc23, kc23, kc14, kc216, kc157], [kA3, kA3, kA3, kA3, kA3, kA3, (0, 6), (0, 30), kA3, (0, 24), kA3, kA3, kA3, (39, 41), kA3, (0, 4), kA3], [], [kR 0, kR 22, kI 14, kI 15], 1), ([(15, (-1))], 4))]
def xT_133 : List (Nat × xCt) := [(61, xc_7), (64, xc_13), (91, xc_132)]
theorem xv_133 : xVer0 xT_133 xHt 100000 90 xm_X7_lawsOf xc_133 xu_133 = true := by
  rw [← zVer0_eq]
  decide +kernel
theorem xw_133_0 : ((xu_133.drop 0).take 1).all (xVerC xT_133 xHt 100000 90 xm_X7_lawsOf xc_133 xu_133) = true := by
  rw [← zVerC_eq]
  decide +kernel
theorem xok_133 (l : Launch) : xCk l 90 xc_133 := ⟨xm_X7_lawsOf, rfl, xVer_ok xk_all (xHt_ok l) (T := xT_133) (xTc (xok_7 l) (xTc (xok_13 l) (xTc (xok_132 l) (xTn l)))) rfl (f := 100000) (cuts := xu_133) xv_133 (xAll0 (xAllS 0 1 xw_133_0 (xAllZ (by decide +kernel))))⟩
def xc_134 : xCt := (([kc213, kc214, kc28, kc215, kc158], [kA3, kA3, kA3, kA3, kA3, kA3, kA3, kA3, (42, 44)], [], [kR 0, kR 3], 9), [([kc213, kc214, kc28, kc215, kc158], [kA3, kA3, kA3, kA3, kA3, kA3, kA3, kA3, (42, 44), (0, 1)], [], [kI 9], 9)], 1)
def xu_134 : List xCu := []
def xT_134 : List (Nat × xCt) := []
theorem xv_134 : xVer0 xT_134 xHt 100000 91 xm_X7_agreesByTriples xc_134 xu_134 = true := by
  rw [← zVer0_eq]
  decide +kernel
theorem xok_134 (l : Launch) : xCk l 91 xc_134 := ⟨xm_X7_agreesByTriples, rfl, xVer_ok xk_all (xHt_ok l) (T := xT_134) (xTn l) rfl (f := 100000) (cuts := xu_134) xv_134 (fun Cu h => absurd h List.not_mem_nil)⟩
