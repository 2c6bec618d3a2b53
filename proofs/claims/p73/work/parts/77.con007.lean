/-! Contracts, printed by a program: part 7. -/
def xc_147 : xCt := (([kc211, kc53, kc48, kc13, kc20, kc31, kc14, kc21, kc22, kc23, kc15, kc4, kc5, kc56, kc14, kc14, kc16, kc0, kc28, kc23, kc23, kc14, kc216, kc165], [kA3, kA3, kA3, kA3, kA3, kA3, (0, 6), (0, 30), kA3, (0, 24), kA3, kA3, kA3, (60, 60)], [], [kR 0, kR 22], 1), [([kc211, kc53, kc48, kc13, kc20, kc31, kc14, kc21, kc22, kc23, kc15, kc4, kc5, kc64, kc14, kc14, kc16, kc0, kc28, kc23, kc23, kc14, kc216, kc165], [kA3, kA3, kA3, kA3, kA3, kA3, (0, 6), (0, 30), kA3, (0, 24), kA3, kA3, kA3, (60, 60), kA3, kA3], [], [kI 14], 1)], 4)
def xu_147 : List xCu := [(11, [0, 1, 2, 3], ([kc211, kc53, kc48, kc13, kc20, kc31, kc14, kc21, kc22, kc23, kc15, kc4, kc5, kc58, kc14, kc14, kc16, kc0, kc28, kc23, kc23, kc14, kc216, kc165], [kA3, kA3, kA3, kA3, kA3, kA3, (0, 6), (0, 30), kA3, (0, 24), kA3, kA3, kA3, (60, 60), kA3, (0, 4), kA3], [], [kR 0, kR 22, kI 14, kI 15], 1), ([(15, (-1))], 4))]
def xT_147 : List (Nat × xCt) := [(61, xc_7), (64, xc_13), (91, xc_146)]
theorem xv_147 : xVer0 xT_147 xHt 100000 90 xm_X7_lawsOf xc_147 xu_147 = true := by
  rw [← zVer0_eq]
  decide +kernel
theorem xw_147_0 : ((xu_147.drop 0).take 1).all (xVerC xT_147 xHt 100000 90 xm_X7_lawsOf xc_147 xu_147) = true := by
  rw [← zVerC_eq]
  decide +kernel
theorem xok_147 (l : Launch) : xCk l 90 xc_147 := ⟨xm_X7_lawsOf, rfl, xVer_ok xk_all (xHt_ok l) (T := xT_147) (xTc (xok_7 l) (xTc (xok_13 l) (xTc (xok_146 l) (xTn l)))) rfl (f := 100000) (cuts := xu_147) xv_147 (xAll0 (xAllS 0 1 xw_147_0 (xAllZ (by decide +kernel))))⟩
def kc217 : xC := kO 3 [kR 1, kI 0, kI 10, kI 11, kI 12, kI 13, kI 5, kI 6, kI 7, kI 8, kI 9]
def kc218 : xC := kAr 1 800 [(800, kB (-128) 127)]
def kc219 : xC := kO 3 [kR 1, kI 0, kI 1, kI 2, kI 3, kI 4, kI 5, kI 6, kI 7, kI 8, kI 9]
def kc220 : xC := kO 3 [kR 1, kI 0, kI 10, kI 2, kI 3, kI 4, kI 5, kI 6, kI 7, kI 8, kI 9]
def kc221 : xC := kO 3 [kR 1, kI 0, kI 10, kIc 2, kI 11, kI 12, kI 5, kI 6, kI 7, kI 8, kI 9]
def kc222 : xC := kO 3 [kR 1, kI 0, kI 10, kIc 1, kI 11, kI 4, kI 5, kI 6, kI 7, kI 8, kI 9]
def xc_148 : xCt := (([kc219, kc218], [(0, 800), (0, 800), kA3, (0, 800), kA3, kA3, kA3, kA3, kA3, kA3], [], [kR 0], 0), [([kc217, kc218], [(0, 800), (0, 800), kA3, (0, 800), kA3, kA3, kA3, kA3, kA3, kA3, (0, 800), kA3, (0, 800), kA3], [], [], 0)], 1)
def xu_148 : List xCu := [(0, [0], ([kc220, kc218], [(1, 800), (0, 799), kA3, (0, 800), kA3, kA3, kA3, kA3, kA3, kA3, (0, 800)], [], [kR 0], 0), ([(10, (-1))], 200800)),
  (150, [0], ([kc221, kc218], [(1, 800), (0, 799), kA3, (0, 800), kA3, kA3, kA3, kA3, kA3, kA3, (0, 800), (0, 800), kA3], [], [kR 0], 0), ([(10, (-1))], 800)),
  (86, [0], ([kc222, kc218], [(1, 800), (0, 799), kA3, (0, 800), kA3, kA3, kA3, kA3, kA3, kA3, (0, 800), (0, 800)], [], [kR 0], 0), ([(10, (-1))], 100800))]
def xT_148 : List (Nat × xCt) := []
theorem xv_148 : xVer0 xT_148 xHt 100000 40 xm_X3_takeToken xc_148 xu_148 = true := by
  rw [← zVer0_eq]
  decide +kernel
theorem xw_148_0 : ((xu_148.drop 0).take 3).all (xVerC xT_148 xHt 100000 40 xm_X3_takeToken xc_148 xu_148) = true := by
  rw [← zVerC_eq]
  decide +kernel
theorem xok_148 (l : Launch) : xCk l 40 xc_148 := ⟨xm_X3_takeToken, rfl, xVer_ok xk_all (xHt_ok l) (T := xT_148) (xTn l) rfl (f := 100000) (cuts := xu_148) xv_148 (xAll0 (xAllS 0 3 xw_148_0 (xAllZ (by decide +kernel))))⟩
def xc_149 : xCt := (([kc219, kc218], [(0, 800), (0, 800), kA3, (0, 800), kA3, kA3, kA3, kA3, kA3, kA3], [], [kR 0, kX 1], 0), [([kc219, kc218], [(0, 800), (0, 800), kA3, (0, 800), kA3, kA3, kA3, kA3, kA3, kA3], [], [kIc 0], 0), ([kc219, kc218], [(0, 800), (0, 800), kA3, (0, 800), kA3, kA3, kA3, kA3, kA3, kA3], [], [kIc 1], 0)], 6)
def xu_149 : List xCu := []
def xT_149 : List (Nat × xCt) := []
theorem xv_149 : xVer0 xT_149 xHt 100000 44 xm_X3_isWord xc_149 xu_149 = true := by
  rw [← zVer0_eq]
  decide +kernel
theorem xok_149 (l : Launch) : xCk l 44 xc_149 := ⟨xm_X3_isWord, rfl, xVer_ok xk_all (xHt_ok l) (T := xT_149) (xTn l) rfl (f := 100000) (cuts := xu_149) xv_149 (fun Cu h => absurd h List.not_mem_nil)⟩
def xc_150 : xCt := (([kc219, kc218], [(0, 800), (0, 800), kA3, (0, 800), kA3, kA3, kA3, kA3, kA3, kA3], [], [kR 0, kX 2], 0), [([kc219, kc218], [(0, 800), (0, 800), kA3, (0, 800), kA3, kA3, kA3, kA3, kA3, kA3], [], [kIc 0], 0), ([kc219, kc218], [(0, 800), (0, 800), kA3, (0, 800), kA3, kA3, kA3, kA3, kA3, kA3], [], [kIc 1], 0)], 6)
def xu_150 : List xCu := []
def xT_150 : List (Nat × xCt) := []
theorem xv_150 : xVer0 xT_150 xHt 100000 44 xm_X3_isWord xc_150 xu_150 = true := by
  rw [← zVer0_eq]
  decide +kernel
theorem xok_150 (l : Launch) : xCk l 44 xc_150 := ⟨xm_X3_isWord, rfl, xVer_ok xk_all (xHt_ok l) (T := xT_150) (xTn l) rfl (f := 100000) (cuts := xu_150) xv_150 (fun Cu h => absurd h List.not_mem_nil)⟩
def xc_151 : xCt := (([kc219, kc218], [(0, 800), (0, 800), kA3, (0, 800), kA3, kA3, kA3, kA3, kA3, kA3], [], [kR 0, kX 3], 0), [([kc219, kc218], [(0, 800), (0, 800), kA3, (0, 800), kA3, kA3, kA3, kA3, kA3, kA3], [], [kIc 0], 0), ([kc219, kc218], [(0, 800), (0, 800), kA3, (0, 800), kA3, kA3, kA3, kA3, kA3, kA3], [], [kIc 1], 0)], 6)
def xu_151 : List xCu := []
def xT_151 : List (Nat × xCt) := []
theorem xv_151 : xVer0 xT_151 xHt 100000 44 xm_X3_isWord xc_151 xu_151 = true := by
  rw [← zVer0_eq]
  decide +kernel
theorem xok_151 (l : Launch) : xCk l 44 xc_151 := ⟨xm_X3_isWord, rfl, xVer_ok xk_all (xHt_ok l) (T := xT_151) (xTn l) rfl (f := 100000) (cuts := xu_151) xv_151 (fun Cu h => absurd h List.not_mem_nil)⟩
def xc_152 : xCt := (([kc219, kc218], [(0, 800), (0, 800), kA3, (0, 800), kA3, kA3, kA3, kA3, kA3, kA3], [], [kR 0, kX 4], 0), [([kc219, kc218], [(0, 800), (0, 800), kA3, (0, 800), kA3, kA3, kA3, kA3, kA3, kA3], [], [kIc 0], 0), ([kc219, kc218], [(0, 800), (0, 800), kA3, (0, 800), kA3, kA3, kA3, kA3, kA3, kA3], [], [kIc 1], 0)], 6)
def xu_152 : List xCu := []
def xT_152 : List (Nat × xCt) := []
theorem xv_152 : xVer0 xT_152 xHt 100000 44 xm_X3_isWord xc_152 xu_152 = true := by
  rw [← zVer0_eq]
  decide +kernel
theorem xok_152 (l : Launch) : xCk l 44 xc_152 := ⟨xm_X3_isWord, rfl, xVer_ok xk_all (xHt_ok l) (T := xT_152) (xTn l) rfl (f := 100000) (cuts := xu_152) xv_152 (fun Cu h => absurd h List.not_mem_nil)⟩
def xc_153 : xCt := (([kc219, kc218], [(0, 800), (0, 800), kA3, (0, 800), kA3, kA3, kA3, kA3, kA3, kA3], [], [kR 0, kX 5], 0), [([kc219, kc218], [(0, 800), (0, 800), kA3, (0, 800), kA3, kA3, kA3, kA3, kA3, kA3], [], [kIc 0], 0), ([kc219, kc218], [(0, 800), (0, 800), kA3, (0, 800), kA3, kA3, kA3, kA3, kA3, kA3], [], [kIc 1], 0)], 6)
def xu_153 : List xCu := []
def xT_153 : List (Nat × xCt) := []
theorem xv_153 : xVer0 xT_153 xHt 100000 44 xm_X3_isWord xc_153 xu_153 = true := by
  rw [← zVer0_eq]
  decide +kernel
theorem xok_153 (l : Launch) : xCk l 44 xc_153 := ⟨xm_X3_isWord, rfl, xVer_ok xk_all (xHt_ok l) (T := xT_153) (xTn l) rfl (f := 100000) (cuts := xu_153) xv_153 (fun Cu h => absurd h List.not_mem_nil)⟩
def xc_154 : xCt := (([kc219, kc218], [(0, 800), (0, 800), kA3, (0, 800), kA3, kA3, kA3, kA3, kA3, kA3], [], [kR 0, kX 6], 0), [([kc219, kc218], [(0, 800), (0, 800), kA3, (0, 800), kA3, kA3, kA3, kA3, kA3, kA3], [], [kIc 0], 0), ([kc219, kc218], [(0, 800), (0, 800), kA3, (0, 800), kA3, kA3, kA3, kA3, kA3, kA3], [], [kIc 1], 0)], 6)
def xu_154 : List xCu := []
def xT_154 : List (Nat × xCt) := []
theorem xv_154 : xVer0 xT_154 xHt 100000 44 xm_X3_isWord xc_154 xu_154 = true := by
  rw [← zVer0_eq]
  decide +kernel
theorem xok_154 (l : Launch) : xCk l 44 xc_154 := ⟨xm_X3_isWord, rfl, xVer_ok xk_all (xHt_ok l) (T := xT_154) (xTn l) rfl (f := 100000) (cuts := xu_154) xv_154 (fun Cu h => absurd h List.not_mem_nil)⟩
def xc_155 : xCt := (([kc219, kc218], [(0, 800), (0, 800), kA3, (0, 800), kA3, kA3, kA3, kA3, kA3, kA3], [], [kR 0, kX 7], 0), [([kc219, kc218], [(0, 800), (0, 800), kA3, (0, 800), kA3, kA3, kA3, kA3, kA3, kA3], [], [kIc 0], 0), ([kc219, kc218], [(0, 800), (0, 800), kA3, (0, 800), kA3, kA3, kA3, kA3, kA3, kA3], [], [kIc 1], 0)], 6)
def xu_155 : List xCu := []
def xT_155 : List (Nat × xCt) := []
theorem xv_155 : xVer0 xT_155 xHt 100000 44 xm_X3_isWord xc_155 xu_155 = true := by
  rw [← zVer0_eq]
  decide +kernel
theorem xok_155 (l : Launch) : xCk l 44 xc_155 := ⟨xm_X3_isWord, rfl, xVer_ok xk_all (xHt_ok l) (T := xT_155) (xTn l) rfl (f := 100000) (cuts := xu_155) xv_155 (fun Cu h => absurd h List.not_mem_nil)⟩
def xc_156 : xCt := (([kc219, kc218], [(0, 800), (0, 800), kA3, (0, 800), kA3, kA3, kA3, kA3, kA3, kA3], [], [kR 0, kX 8], 0), [([kc219, kc218], [(0, 800), (0, 800), kA3, (0, 800), kA3, kA3, kA3, kA3, kA3, kA3], [], [kIc 0], 0), ([kc219, kc218], [(0, 800), (0, 800), kA3, (0, 800), kA3, kA3, kA3, kA3, kA3, kA3], [], [kIc 1], 0)], 6)
def xu_156 : List xCu := []
def xT_156 : List (Nat × xCt) := []
theorem xv_156 : xVer0 xT_156 xHt 100000 44 xm_X3_isWord xc_156 xu_156 = true := by
  rw [← zVer0_eq]
  decide +kernel
theorem xok_156 (l : Launch) : xCk l 44 xc_156 := ⟨xm_X3_isWord, rfl, xVer_ok xk_all (xHt_ok l) (T := xT_156) (xTn l) rfl (f := 100000) (cuts := xu_156) xv_156 (fun Cu h => absurd h List.not_mem_nil)⟩
def xc_157 : xCt := (([kc219, kc218], [(0, 800), (0, 800), kA3, (0, 800), kA3, kA3, kA3, kA3, kA3, kA3], [], [kR 0, kX 9], 0), [([kc219, kc218], [(0, 800), (0, 800), kA3, (0, 800), kA3, kA3, kA3, kA3, kA3, kA3], [], [kIc 0], 0), ([kc219, kc218], [(0, 800), (0, 800), kA3, (0, 800), kA3, kA3, kA3, kA3, kA3, kA3], [], [kIc 1], 0)], 6)
def xu_157 : List xCu := []
def xT_157 : List (Nat × xCt) := []
theorem xv_157 : xVer0 xT_157 xHt 100000 44 xm_X3_isWord xc_157 xu_157 = true := by
  rw [← zVer0_eq]
  decide +kernel
theorem xok_157 (l : Launch) : xCk l 44 xc_157 := ⟨xm_X3_isWord, rfl, xVer_ok xk_all (xHt_ok l) (T := xT_157) (xTn l) rfl (f := 100000) (cuts := xu_157) xv_157 (fun Cu h => absurd h List.not_mem_nil)⟩
def xc_158 : xCt := (([kc219, kc218], [(0, 800), (0, 800), kA3, (0, 800), kA3, kA3, kA3, kA3, kA3, kA3], [], [kR 0, kX 10], 0), [([kc219, kc218], [(0, 800), (0, 800), kA3, (0, 800), kA3, kA3, kA3, kA3, kA3, kA3], [], [kIc 0], 0), ([kc219, kc218], [(0, 800), (0, 800), kA3, (0, 800), kA3, kA3, kA3, kA3, kA3, kA3], [], [kIc 1], 0)], 6)
def xu_158 : List xCu := []
def xT_158 : List (Nat × xCt) := []
theorem xv_158 : xVer0 xT_158 xHt 100000 44 xm_X3_isWord xc_158 xu_158 = true := by
  rw [← zVer0_eq]
  decide +kernel
theorem xok_158 (l : Launch) : xCk l 44 xc_158 := ⟨xm_X3_isWord, rfl, xVer_ok xk_all (xHt_ok l) (T := xT_158) (xTn l) rfl (f := 100000) (cuts := xu_158) xv_158 (fun Cu h => absurd h List.not_mem_nil)⟩
def xc_159 : xCt := (([kc219, kc218], [(0, 800), (0, 800), kA3, (0, 800), kA3, kA3, kA3, kA3, kA3, kA3], [], [kR 0, kX 11], 0), [([kc219, kc218], [(0, 800), (0, 800), kA3, (0, 800), kA3, kA3, kA3, kA3, kA3, kA3], [], [kIc 0], 0), ([kc219, kc218], [(0, 800), (0, 800), kA3, (0, 800), kA3, kA3, kA3, kA3, kA3, kA3], [], [kIc 1], 0)], 6)
def xu_159 : List xCu := []
def xT_159 : List (Nat × xCt) := []
theorem xv_159 : xVer0 xT_159 xHt 100000 44 xm_X3_isWord xc_159 xu_159 = true := by
  rw [← zVer0_eq]
  decide +kernel
theorem xok_159 (l : Launch) : xCk l 44 xc_159 := ⟨xm_X3_isWord, rfl, xVer_ok xk_all (xHt_ok l) (T := xT_159) (xTn l) rfl (f := 100000) (cuts := xu_159) xv_159 (fun Cu h => absurd h List.not_mem_nil)⟩
def xc_160 : xCt := (([kc219, kc218], [(0, 800), (0, 800), kA3, (0, 800), kA3, kA3, kA3, kA3, kA3, kA3], [], [kR 0, kX 12], 0), [([kc219, kc218], [(0, 800), (0, 800), kA3, (0, 800), kA3, kA3, kA3, kA3, kA3, kA3], [], [kIc 0], 0), ([kc219, kc218], [(0, 800), (0, 800), kA3, (0, 800), kA3, kA3, kA3, kA3, kA3, kA3], [], [kIc 1], 0)], 6)
def xu_160 : List xCu := []
def xT_160 : List (Nat × xCt) := []
theorem xv_160 : xVer0 xT_160 xHt 100000 44 xm_X3_isWord xc_160 xu_160 = true := by
  rw [← zVer0_eq]
  decide +kernel
theorem xok_160 (l : Launch) : xCk l 44 xc_160 := ⟨xm_X3_isWord, rfl, xVer_ok xk_all (xHt_ok l) (T := xT_160) (xTn l) rfl (f := 100000) (cuts := xu_160) xv_160 (fun Cu h => absurd h List.not_mem_nil)⟩
def xc_161 : xCt := (([kc219, kc218], [(0, 800), (0, 800), kA3, (0, 800), kA3, kA3, kA3, kA3, kA3, kA3], [], [kR 0, kX 13], 0), [([kc219, kc218], [(0, 800), (0, 800), kA3, (0, 800), kA3, kA3, kA3, kA3, kA3, kA3], [], [kIc 0], 0), ([kc219, kc218], [(0, 800), (0, 800), kA3, (0, 800), kA3, kA3, kA3, kA3, kA3, kA3], [], [kIc 1], 0)], 6)
def xu_161 : List xCu := []
def xT_161 : List (Nat × xCt) := []
theorem xv_161 : xVer0 xT_161 xHt 100000 44 xm_X3_isWord xc_161 xu_161 = true := by
  rw [← zVer0_eq]
  decide +kernel
theorem xok_161 (l : Launch) : xCk l 44 xc_161 := ⟨xm_X3_isWord, rfl, xVer_ok xk_all (xHt_ok l) (T := xT_161) (xTn l) rfl (f := 100000) (cuts := xu_161) xv_161 (fun Cu h => absurd h List.not_mem_nil)⟩
def xc_162 : xCt := (([kc219, kc218], [(0, 800), (0, 800), kA3, (0, 800), kA3, kA3, kA3, kA3, kA3, kA3], [], [kR 0, kX 14], 0), [([kc219, kc218], [(0, 800), (0, 800), kA3, (0, 800), kA3, kA3, kA3, kA3, kA3, kA3], [], [kIc 0], 0), ([kc219, kc218], [(0, 800), (0, 800), kA3, (0, 800), kA3, kA3, kA3, kA3, kA3, kA3], [], [kIc 1], 0)], 6)
def xu_162 : List xCu := []
def xT_162 : List (Nat × xCt) := []
theorem xv_162 : xVer0 xT_162 xHt 100000 44 xm_X3_isWord xc_162 xu_162 = true := by
  rw [← zVer0_eq]
  decide +kernel
theorem xok_162 (l : Launch) : xCk l 44 xc_162 := ⟨xm_X3_isWord, rfl, xVer_ok xk_all (xHt_ok l) (T := xT_162) (xTn l) rfl (f := 100000) (cuts := xu_162) xv_162 (fun Cu h => absurd h List.not_mem_nil)⟩
def xc_163 : xCt := (([kc219, kc218], [(0, 800), (0, 800), kA3, (0, 800), kA3, kA3, kA3, kA3, kA3, kA3], [], [kR 0, kX 15], 0), [([kc219, kc218], [(0, 800), (0, 800), kA3, (0, 800), kA3, kA3, kA3, kA3, kA3, kA3], [], [kIc 0], 0), ([kc219, kc218], [(0, 800), (0, 800), kA3, (0, 800), kA3, kA3, kA3, kA3, kA3, kA3], [], [kIc 1], 0)], 6)
def xu_163 : List xCu := []
def xT_163 : List (Nat × xCt) := []
theorem xv_163 : xVer0 xT_163 xHt 100000 44 xm_X3_isWord xc_163 xu_163 = true := by
  rw [← zVer0_eq]
  decide +kernel
theorem xok_163 (l : Launch) : xCk l 44 xc_163 := ⟨xm_X3_isWord, rfl, xVer_ok xk_all (xHt_ok l) (T := xT_163) (xTn l) rfl (f := 100000) (cuts := xu_163) xv_163 (fun Cu h => absurd h List.not_mem_nil)⟩
def xc_164 : xCt := (([kc219, kc218], [(0, 800), (0, 800), kA3, (0, 800), kA3, kA3, kA3, kA3, kA3, kA3], [], [kR 0, kX 16], 0), [([kc219, kc218], [(0, 800), (0, 800), kA3, (0, 800), kA3, kA3, kA3, kA3, kA3, kA3], [], [kIc 0], 0), ([kc219, kc218], [(0, 800), (0, 800), kA3, (0, 800), kA3, kA3, kA3, kA3, kA3, kA3], [], [kIc 1], 0)], 6)
def xu_164 : List xCu := []
def xT_164 : List (Nat × xCt) := []
theorem xv_164 : xVer0 xT_164 xHt 100000 44 xm_X3_isWord xc_164 xu_164 = true := by
  rw [← zVer0_eq]
  decide +kernel
theorem xok_164 (l : Launch) : xCk l 44 xc_164 := ⟨xm_X3_isWord, rfl, xVer_ok xk_all (xHt_ok l) (T := xT_164) (xTn l) rfl (f := 100000) (cuts := xu_164) xv_164 (fun Cu h => absurd h List.not_mem_nil)⟩
def xc_165 : xCt := (([kc219, kc218], [(0, 800), (0, 800), kA3, (0, 800), kA3, kA3, kA3, kA3, kA3, kA3], [], [kR 0, kX 17], 0), [([kc219, kc218], [(0, 800), (0, 800), kA3, (0, 800), kA3, kA3, kA3, kA3, kA3, kA3], [], [kIc 0], 0), ([kc219, kc218], [(0, 800), (0, 800), kA3, (0, 800), kA3, kA3, kA3, kA3, kA3, kA3], [], [kIc 1], 0)], 6)
def xu_165 : List xCu := []
def xT_165 : List (Nat × xCt) := []
theorem xv_165 : xVer0 xT_165 xHt 100000 44 xm_X3_isWord xc_165 xu_165 = true := by
  rw [← zVer0_eq]
  decide +kernel
theorem xok_165 (l : Launch) : xCk l 44 xc_165 := ⟨xm_X3_isWord, rfl, xVer_ok xk_all (xHt_ok l) (T := xT_165) (xTn l) rfl (f := 100000) (cuts := xu_165) xv_165 (fun Cu h => absurd h List.not_mem_nil)⟩
def xSubL {α : Type} (L : List α) (ix : List Nat) : List α := ix.filterMap (fun i => L[i]?)
noncomputable def zSubL {α : Type} (L : List α) (ix : List Nat) : List α := ix.filterMap (fun i => (znth L (i)))
theorem zSubL_eq : @zSubL = @xSubL := by
  delta zSubL xSubL
  simp only [znth_eq] <;> rfl
theorem xSubL_mem {α : Type} {L : List α} {ix : List Nat} : ∀ x ∈ xSubL L ix, x ∈ L := by
  intro x hx
  unfold xSubL at hx
  obtain ⟨i, -, hi⟩ := List.mem_filterMap.mp hx
  exact List.mem_of_getElem? hi
theorem xChkO_sub {xn n0 nc nx : Nat} {rt : Option FieldType} {E E' : List xPt} {cuts cuts' : List xCu} {ms : Option xLn} {o : xO2} (hE : ∀ x ∈ E', x ∈ E) (hC : ∀ x ∈ cuts', x ∈ cuts) (h : xChkO xn n0 nc nx rt E' cuts' ms o = true) : xChkO xn n0 nc nx rt E cuts ms o = true := by
  unfold xChkO at h ⊢
  cases hb : Nat.ble 110 o.1.2.2.1 with
  | true =>
    rw [hb] at h
    simp only [cond_true, Bool.and_eq_true] at h ⊢
    obtain ⟨e, he, hc⟩ := List.any_eq_true.mp h.2
    exact ⟨h.1, List.any_eq_true.mpr ⟨e, hE e he, hc⟩⟩
  | false =>
    rw [hb] at h
    simp only [cond_false] at h ⊢
    generalize o.2.1.2.2.2.1 = L1 at h ⊢
    generalize o.2.1.2.2.2.2.1 = L2 at h ⊢
    generalize o.2.1.2.2.2.2.2 = L3 at h ⊢
    cases L1 with
    | cons a t => first | exact absurd h (by simp) | exact (Bool.false_ne_true h).elim | (cases L2 <;> cases L3 <;> exact (Bool.false_ne_true h).elim)
    | nil => cases L2 with
      | succ n => first | exact absurd h (by simp) | exact (Bool.false_ne_true h).elim | (cases L3 <;> exact (Bool.false_ne_true h).elim)
      | zero => cases L3 with
        | succ n => first | exact absurd h (by simp) | exact (Bool.false_ne_true h).elim
        | zero =>
          try dsimp only at h ⊢
          obtain ⟨e, he, hc⟩ := List.any_eq_true.mp h
          exact List.any_eq_true.mpr ⟨e, hC e he, hc⟩
def xFromS (T : List (Nat × xCt)) (ht : List (Nat × xHl)) (f d j : Nat) (M : xMd) (c : xCt) (cuts : List xCu) (es cs : List Nat) (ms : Option xLn) (pc : Nat) (P : xPt) (loc : List (Nat × xV)) : Bool := match xRun2 xMt xTb T ht (20 + c.1.2.2.2.2) f 0 d none (cuts.map Prod.fst) M (xHof ht j) pc (xSeek M.pg pc) P.1 P.2.1 P.2.2.1 loc [] 0 0 with
  | none => false
  | some outs => outs.all (xChkO (20 + c.1.2.2.2.2) c.1.2.1.length c.1.1.length c.1.2.2.2.2 M.rt (xSubL c.2.1 es) (xSubL cuts cs) ms)
noncomputable def zFromS (T : List (Nat × xCt)) (ht : List (Nat × xHl)) (f d j : Nat) (M : xMd) (c : xCt) (cuts : List xCu) (es cs : List Nat) (ms : Option xLn) (pc : Nat) (P : xPt) (loc : List (Nat × xV)) : Bool := match zRun2 xMt xTb T ht (20 + c.1.2.2.2.2) f 0 d none (cuts.map Prod.fst) M (zHof ht j) pc (zSeek M.pg pc) P.1 P.2.1 P.2.2.1 loc [] 0 0 with
  | none => false
  | some outs => (zall (zChkO (20 + c.1.2.2.2.2) (zlen c.1.2.1) (zlen c.1.1) c.1.2.2.2.2 M.rt (zSubL c.2.1 es) (zSubL cuts cs) ms) outs)
theorem zFromS_eq : @zFromS = @xFromS := by
  delta zFromS xFromS
  simp only [zlen_eq, zall_eq, zSeek_eq, zHof_eq, zRun2_eq, zChkO_eq, zSubL_eq] <;> rfl
theorem xFromS_ok {T : List (Nat × xCt)} {ht : List (Nat × xHl)} {f d j : Nat} {M : xMd} {c : xCt} {cuts : List xCu} {es cs : List Nat} {ms : Option xLn} {pc : Nat} {P : xPt} {loc : List (Nat × xV)} (h : xFromS T ht f d j M c cuts es cs ms pc P loc = true) : xFrom T ht f d j M c cuts ms pc P loc = true := by
  unfold xFromS at h
  unfold xFrom
  split at h
  · cases h
  · rename_i outs hr
    rw [hr]
    dsimp only
    apply List.all_eq_true.mpr
    intro o ho
    exact xChkO_sub xSubL_mem xSubL_mem (List.all_eq_true.mp h o ho)
def xVer0s (T : List (Nat × xCt)) (ht : List (Nat × xHl)) (f j : Nat) (M : xMd) (c : xCt) (cuts : List xCu) (es cs : List Nat) : Bool := Nat.ble (xsum c.1.2.2.2.1) M.nl && xFromS T ht f c.2.2 j M c cuts es cs none 0 c.1 (xArgs 0 c.1.2.2.2.1)
noncomputable def zVer0s (T : List (Nat × xCt)) (ht : List (Nat × xHl)) (f j : Nat) (M : xMd) (c : xCt) (cuts : List xCu) (es cs : List Nat) : Bool := Nat.ble (xsum c.1.2.2.2.1) M.nl && zFromS T ht f c.2.2 j M c cuts es cs none 0 c.1 (xArgs 0 c.1.2.2.2.1)
theorem zVer0s_eq : @zVer0s = @xVer0s := by
  delta zVer0s xVer0s
  simp only [zFromS_eq] <;> rfl
theorem xVer0s_ok {T : List (Nat × xCt)} {ht : List (Nat × xHl)} {f j : Nat} {M : xMd} {c : xCt} {cuts : List xCu} {es cs : List Nat} (h : xVer0s T ht f j M c cuts es cs = true) : xVer0 T ht f j M c cuts = true := by
  unfold xVer0s at h
  unfold xVer0
  rw [Bool.and_eq_true] at h ⊢
  exact ⟨h.1, xFromS_ok h.2⟩
def xVerCs (T : List (Nat × xCt)) (ht : List (Nat × xHl)) (f j : Nat) (M : xMd) (c : xCt) (cuts : List xCu) (es cs : List Nat) (C : xCu) : Bool := xlPos C.2.2.1.2.1 C.2.2.2 && xFromS T ht f c.2.2 j M c cuts es cs (some C.2.2.2) C.1 C.2.2.1 (C.2.1.zip C.2.2.1.2.2.2.1)
noncomputable def zVerCs (T : List (Nat × xCt)) (ht : List (Nat × xHl)) (f j : Nat) (M : xMd) (c : xCt) (cuts : List xCu) (es cs : List Nat) (C : xCu) : Bool := zlPos C.2.2.1.2.1 C.2.2.2 && zFromS T ht f c.2.2 j M c cuts es cs (some C.2.2.2) C.1 C.2.2.1 (C.2.1.zip C.2.2.1.2.2.2.1)
theorem zVerCs_eq : @zVerCs = @xVerCs := by
  delta zVerCs xVerCs
  simp only [zlPos_eq, zFromS_eq] <;> rfl
theorem xVerCs_ok {T : List (Nat × xCt)} {ht : List (Nat × xHl)} {f j : Nat} {M : xMd} {c : xCt} {cuts : List xCu} {es cs : List Nat} {C : xCu} (h : xVerCs T ht f j M c cuts es cs C = true) : xVerC T ht f j M c cuts C = true := by
  unfold xVerCs at h
  unfold xVerC
  rw [Bool.and_eq_true] at h ⊢
  exact ⟨h.1, xFromS_ok h.2⟩
theorem xAllCs {T : List (Nat × xCt)} {ht : List (Nat × xHl)} {f j : Nat} {M : xMd} {c : xCt} {cuts L : List xCu} {es cs : List Nat} (h : L.all (xVerCs T ht f j M c cuts es cs) = true) : L.all (xVerC T ht f j M c cuts) = true := List.all_eq_true.mpr (fun C hC => xVerCs_ok (List.all_eq_true.mp h C hC))
def xQV (σ : List xB) : List xV → List xV → Bool
  | .inl a :: t, .inl (none, c) :: u => (match xrg σ a with
    | some r => xle c r.1 && xle r.2 c
    | none => true) && xQV σ t u
  | _ :: t, _ :: u => xQV σ t u
  | _, _ => true
noncomputable def zQV (σ : List xB) : List xV → List xV → Bool
  | .inl a :: t, .inl (none, c) :: u => (match zrg σ a with
    | some r => zle c r.1 && zle r.2 c
    | none => true) && zQV σ t u
  | _ :: t, _ :: u => zQV σ t u
  | _, _ => true
theorem zQV_eq : @zQV = @xQV := by
  delta zQV xQV
  delta zQV._f xQV._f
  simp only [zle_eq, zrg_eq] <;> rfl
def xQk (o : xO2) (C : xCu) : Bool := match xlocs o.2.1.2.2.1 C.2.1 with
  | none => false
  | some vs => xQV o.2.1.2.1 vs C.2.2.1.2.2.2.1
noncomputable def zQk (o : xO2) (C : xCu) : Bool := match zlocs o.2.1.2.2.1 C.2.1 with
  | none => false
  | some vs => zQV o.2.1.2.1 vs C.2.2.1.2.2.2.1
theorem zQk_eq : @zQk = @xQk := by
  delta zQk xQk
  simp only [zlocs_eq, zQV_eq] <;> rfl
def xFromV (T : List (Nat × xCt)) (ht : List (Nat × xHl)) (f d j : Nat) (M : xMd) (c : xCt) (cuts : List xCu) (es : List Nat) (ms : Option xLn) (pc : Nat) (P : xPt) (loc : List (Nat × xV)) : Bool := match xRun2 xMt xTb T ht (20 + c.1.2.2.2.2) f 0 d none (cuts.map Prod.fst) M (xHof ht j) pc (xSeek M.pg pc) P.1 P.2.1 P.2.2.1 loc [] 0 0 with
  | none => false
  | some outs => outs.all (fun o => xChkO (20 + c.1.2.2.2.2) c.1.2.1.length c.1.1.length c.1.2.2.2.2 M.rt (xSubL c.2.1 es) (cuts.filter (xQk o)) ms o)
noncomputable def zFromV (T : List (Nat × xCt)) (ht : List (Nat × xHl)) (f d j : Nat) (M : xMd) (c : xCt) (cuts : List xCu) (es : List Nat) (ms : Option xLn) (pc : Nat) (P : xPt) (loc : List (Nat × xV)) : Bool := match zRun2 xMt xTb T ht (20 + c.1.2.2.2.2) f 0 d none (cuts.map Prod.fst) M (zHof ht j) pc (zSeek M.pg pc) P.1 P.2.1 P.2.2.1 loc [] 0 0 with
  | none => false
  | some outs => (zall (fun o => zChkO (20 + c.1.2.2.2.2) (zlen c.1.2.1) (zlen c.1.1) c.1.2.2.2.2 M.rt (zSubL c.2.1 es) (cuts.filter (zQk o)) ms o) outs)
theorem zFromV_eq : @zFromV = @xFromV := by
  delta zFromV xFromV
  simp only [zlen_eq, zall_eq, zSeek_eq, zHof_eq, zRun2_eq, zChkO_eq, zSubL_eq, zQk_eq] <;> rfl
theorem xFromV_ok {T : List (Nat × xCt)} {ht : List (Nat × xHl)} {f d j : Nat} {M : xMd} {c : xCt} {cuts : List xCu} {es : List Nat} {ms : Option xLn} {pc : Nat} {P : xPt} {loc : List (Nat × xV)} (h : xFromV T ht f d j M c cuts es ms pc P loc = true) : xFrom T ht f d j M c cuts ms pc P loc = true := by
  unfold xFromV at h
  unfold xFrom
  split at h
  · cases h
  · rename_i outs hr
    rw [hr]
    dsimp only
    apply List.all_eq_true.mpr
    intro o ho
    exact xChkO_sub xSubL_mem (fun x hx => (List.mem_filter.mp hx).1) (List.all_eq_true.mp h o ho)
def xVer0v (T : List (Nat × xCt)) (ht : List (Nat × xHl)) (f j : Nat) (M : xMd) (c : xCt) (cuts : List xCu) (es : List Nat) : Bool := Nat.ble (xsum c.1.2.2.2.1) M.nl && xFromV T ht f c.2.2 j M c cuts es none 0 c.1 (xArgs 0 c.1.2.2.2.1)
noncomputable def zVer0v (T : List (Nat × xCt)) (ht : List (Nat × xHl)) (f j : Nat) (M : xMd) (c : xCt) (cuts : List xCu) (es : List Nat) : Bool := Nat.ble (xsum c.1.2.2.2.1) M.nl && zFromV T ht f c.2.2 j M c cuts es none 0 c.1 (xArgs 0 c.1.2.2.2.1)
theorem zVer0v_eq : @zVer0v = @xVer0v := by
  delta zVer0v xVer0v
  simp only [zFromV_eq] <;> rfl
theorem xVer0v_ok {T : List (Nat × xCt)} {ht : List (Nat × xHl)} {f j : Nat} {M : xMd} {c : xCt} {cuts : List xCu} {es : List Nat} (h : xVer0v T ht f j M c cuts es = true) : xVer0 T ht f j M c cuts = true := by
  unfold xVer0v at h
  unfold xVer0
  rw [Bool.and_eq_true] at h ⊢
  exact ⟨h.1, xFromV_ok h.2⟩
section XPP
variable (T : List (Nat × xCt)) (ht : List (Nat × xHl)) (f j : Nat) (M : xMd) (c : xCt) (cuts : List xCu) (es : List Nat)
def xStR : Option (List xO2) := xRun2 xMt xTb T ht (20 + c.1.2.2.2.2) f 0 c.2.2 none (cuts.map Prod.fst) M (xHof ht j) 0 (xSeek M.pg 0) c.1.1 c.1.2.1 c.1.2.2.1 (xArgs 0 c.1.2.2.2.1) [] 0 0
noncomputable def zStR : Option (List xO2) := zRun2 xMt xTb T ht (20 + c.1.2.2.2.2) f 0 c.2.2 none (cuts.map Prod.fst) M (zHof ht j) 0 (zSeek M.pg 0) c.1.1 c.1.2.1 c.1.2.2.1 (xArgs 0 c.1.2.2.2.1) [] 0 0
theorem zStR_eq : @zStR = @xStR := by
  delta zStR xStR
  simp only [zSeek_eq, zHof_eq, zRun2_eq] <;> rfl
def xStC (o : xO2) : Bool := xChkO (20 + c.1.2.2.2.2) c.1.2.1.length c.1.1.length c.1.2.2.2.2 M.rt (xSubL c.2.1 es) (cuts.filter (xQk o)) none o
noncomputable def zStC (o : xO2) : Bool := zChkO (20 + c.1.2.2.2.2) (zlen c.1.2.1) (zlen c.1.1) c.1.2.2.2.2 M.rt (zSubL c.2.1 es) (cuts.filter (zQk o)) none o
theorem zStC_eq : @zStC = @xStC := by
  delta zStC xStC
  simp only [zlen_eq, zChkO_eq, zSubL_eq, zQk_eq] <;> rfl
def xStP (a n : Nat) : Bool := match xStR T ht f j M c cuts with
  | none => false
  | some outs => ((outs.drop a).take n).all (xStC M c cuts es)
noncomputable def zStP (a n : Nat) : Bool := match zStR T ht f j M c cuts with
  | none => false
  | some outs => ((outs.drop a).take n).all (zStC M c cuts es)
theorem zStP_eq : @zStP = @xStP := by
  delta zStP xStP
  simp only [zStR_eq, zStC_eq] <;> rfl
def xStL (a : Nat) : Bool := match xStR T ht f j M c cuts with
  | none => false
  | some outs => Nat.ble outs.length a
noncomputable def zStL (a : Nat) : Bool := match zStR T ht f j M c cuts with
  | none => false
  | some outs => Nat.ble (zlen outs) a
theorem zStL_eq : @zStL = @xStL := by
  delta zStL xStL
  simp only [zlen_eq, zStR_eq] <;> rfl
def xStF (a : Nat) : Prop := ∃ outs, xStR T ht f j M c cuts = some outs ∧ (outs.drop a).all (xStC M c cuts es) = true
noncomputable def zStF (a : Nat) : Prop := ∃ outs, zStR T ht f j M c cuts = some outs ∧ (outs.drop a).all (zStC M c cuts es) = true
theorem zStF_eq : @zStF = @xStF := by
  delta zStF xStF
  simp only [zStR_eq, zStC_eq] <;> rfl
end XPP
theorem xStZ {T : List (Nat × xCt)} {ht : List (Nat × xHl)} {f j : Nat} {M : xMd} {c : xCt} {cuts : List xCu} {es : List Nat} {a : Nat} (h : xStL T ht f j M c cuts a = true) : xStF T ht f j M c cuts es a := by
  unfold xStL at h
  split at h
  · cases h
  · rename_i outs ho
    refine ⟨outs, ho, ?_⟩
    rw [List.drop_of_length_le (Nat.le_of_ble_eq_true h)]
    rfl
theorem xStS {T : List (Nat × xCt)} {ht : List (Nat × xHl)} {f j : Nat} {M : xMd} {c : xCt} {cuts : List xCu} {es : List Nat} {a n : Nat} (h1 : xStP T ht f j M c cuts es a n = true) (h2 : xStF T ht f j M c cuts es (a + n)) : xStF T ht f j M c cuts es a := by
  obtain ⟨outs, ho, h2⟩ := h2
  unfold xStP at h1
  rw [ho] at h1
  exact ⟨outs, ho, xAllS a n h1 h2⟩
theorem xStE {T : List (Nat × xCt)} {ht : List (Nat × xHl)} {f j : Nat} {M : xMd} {c : xCt} {cuts : List xCu} {es : List Nat} (hs : Nat.ble (xsum c.1.2.2.2.1) M.nl = true) (h : xStF T ht f j M c cuts es 0) : xVer0 T ht f j M c cuts = true := by
  obtain ⟨outs, ho, h⟩ := h
  rw [List.drop_zero] at h
  unfold xVer0
  rw [Bool.and_eq_true]
  refine ⟨hs, ?_⟩
  unfold xFrom
  unfold xStR at ho
  rw [ho]
  dsimp only
  apply List.all_eq_true.mpr
  intro o hoo
  have h3 := List.all_eq_true.mp h o hoo
  unfold xStC at h3
  exact xChkO_sub xSubL_mem (fun x hx => (List.mem_filter.mp hx).1) h3
def kc223 : xC := kO 3 [kR 1, kI 1, kI 11, kI 12, kI 13, kI 14, kI 6, kI 7, kI 8, kI 15, kI 16]
def kc224 : xC := kAr 0 24 [(24, kB 0 3)]
def kc225 : xC := kO 3 [kR 1, kI 1, kI 11, kI 12, kI 13, kI 14, kI 6, kI 7, kI 8, kI 9, kI 10]
def kc226 : xC := kO 3 [kR 1, kI 1, kI 2, kI 3, kI 4, kI 5, kI 6, kI 7, kI 8, kI 9, kI 10]
def kc227 : xC := kAr 0 24 [(24, kB 0 0)]
def kc228 : xC := kO 3 [kR 1, kI 1, kI 12, kI 13, kI 14, kI 15, kI 6, kI 7, kI 8, kI 9, kI 10]
def kc229 : xC := kAr 0 24 [(23, kB 0 3), (1, kB 0 0)]
def kc230 : xC := kAr 0 24 [(22, kB 0 3), (2, kB 0 0)]
def kc231 : xC := kAr 0 24 [(21, kB 0 3), (3, kB 0 0)]
def kc232 : xC := kAr 0 24 [(20, kB 0 3), (4, kB 0 0)]
def kc233 : xC := kAr 0 24 [(19, kB 0 3), (5, kB 0 0)]
def kc234 : xC := kAr 0 24 [(18, kB 0 3), (6, kB 0 0)]
def kc235 : xC := kAr 0 24 [(17, kB 0 3), (7, kB 0 0)]
def kc236 : xC := kAr 0 24 [(16, kB 0 3), (8, kB 0 0)]
def kc237 : xC := kAr 0 24 [(15, kB 0 3), (9, kB 0 0)]
def kc238 : xC := kAr 0 24 [(14, kB 0 3), (10, kB 0 0)]
def kc239 : xC := kAr 0 24 [(13, kB 0 3), (11, kB 0 0)]
def kc240 : xC := kAr 0 24 [(12, kB 0 3), (12, kB 0 0)]
def kc241 : xC := kAr 0 24 [(11, kB 0 3), (13, kB 0 0)]
def kc242 : xC := kAr 0 24 [(10, kB 0 3), (14, kB 0 0)]
def kc243 : xC := kAr 0 24 [(9, kB 0 3), (15, kB 0 0)]
def kc244 : xC := kAr 0 24 [(8, kB 0 3), (16, kB 0 0)]
def kc245 : xC := kAr 0 24 [(7, kB 0 3), (17, kB 0 0)]
def kc246 : xC := kAr 0 24 [(6, kB 0 3), (18, kB 0 0)]
def kc247 : xC := kAr 0 24 [(5, kB 0 3), (19, kB 0 0)]
def kc248 : xC := kAr 0 24 [(4, kB 0 3), (20, kB 0 0)]
def kc249 : xC := kAr 0 24 [(3, kB 0 3), (21, kB 0 0)]
def kc250 : xC := kAr 0 24 [(2, kB 0 3), (22, kB 0 0)]
def kc251 : xC := kAr 0 24 [(1, kB 0 3), (23, kB 0 0)]
def kc252 : xC := kO 3 [kR 1, kI 1, kI 12, kI 13, kI 14, kIc 23, kI 6, kI 7, kI 8, kI 9, kI 10]
def kc253 : xC := kAr 0 24 [(23, kB 0 3), (1, kS 0)]
def xc_166 : xCt := (([kc226, kc218, kc227], [(1, 3), (0, 800), (0, 800), kA3, (0, 800), kA3, kA3, kA3, kA3, kA3, kA3], [], [kR 0, kR 2, kI 0], 0), [([kc223, kc218, kc224], [(1, 3), (0, 800), (0, 800), kA3, (0, 800), kA3, kA3, kA3, kA3, kA3, kA3, (0, 800), kA3, (0, 800), kA3, kA3, kA3], [], [kIc 0], 0), ([kc225, kc218, kc224], [(1, 3), (0, 800), (0, 800), kA3, (0, 800), kA3, kA3, kA3, kA3, kA3, kA3, (0, 800), kA3, (0, 800), kA3], [], [kIc 1], 0)], 8)
def xu_166 : List xCu := [(50, [0, 1, 2, 3, 4], ([kc228, kc218, kc229], [(1, 3), (0, 800), (0, 800), kA3, (0, 800), kA3, kA3, kA3, kA3, kA3, kA3, (0, 23), (0, 800), kA3, (0, 800), (0, 23)], [], [kR 0, kR 2, kI 0, kI 11, kIc 23], 0), ([], 1)),
  (50, [0, 1, 2, 3, 4], ([kc228, kc218, kc230], [(1, 3), (0, 800), (0, 800), kA3, (0, 800), kA3, kA3, kA3, kA3, kA3, kA3, (0, 22), (0, 800), kA3, (0, 800), (0, 23)], [], [kR 0, kR 2, kI 0, kI 11, kIc 22], 0), ([], 2)),
  (50, [0, 1, 2, 3, 4], ([kc228, kc218, kc231], [(1, 3), (0, 800), (0, 800), kA3, (0, 800), kA3, kA3, kA3, kA3, kA3, kA3, (0, 21), (0, 800), kA3, (0, 800), (0, 23)], [], [kR 0, kR 2, kI 0, kI 11, kIc 21], 0), ([], 3)),
  (50, [0, 1, 2, 3, 4], ([kc228, kc218, kc232], [(1, 3), (0, 800), (0, 800), kA3, (0, 800), kA3, kA3, kA3, kA3, kA3, kA3, (0, 20), (0, 800), kA3, (0, 800), (0, 23)], [], [kR 0, kR 2, kI 0, kI 11, kIc 20], 0), ([], 4)),
  (50, [0, 1, 2, 3, 4], ([kc228, kc218, kc233], [(1, 3), (0, 800), (0, 800), kA3, (0, 800), kA3, kA3, kA3, kA3, kA3, kA3, (0, 19), (0, 800), kA3, (0, 800), (0, 23)], [], [kR 0, kR 2, kI 0, kI 11, kIc 19], 0), ([], 5)),
  (50, [0, 1, 2, 3, 4], ([kc228, kc218, kc234], [(1, 3), (0, 800), (0, 800), kA3, (0, 800), kA3, kA3, kA3, kA3, kA3, kA3, (0, 18), (0, 800), kA3, (0, 800), (0, 23)], [], [kR 0, kR 2, kI 0, kI 11, kIc 18], 0), ([], 6)),
  (50, [0, 1, 2, 3, 4], ([kc228, kc218, kc235], [(1, 3), (0, 800), (0, 800), kA3, (0, 800), kA3, kA3, kA3, kA3, kA3, kA3, (0, 17), (0, 800), kA3, (0, 800), (0, 23)], [], [kR 0, kR 2, kI 0, kI 11, kIc 17], 0), ([], 7)),
  (50, [0, 1, 2, 3, 4], ([kc228, kc218, kc236], [(1, 3), (0, 800), (0, 800), kA3, (0, 800), kA3, kA3, kA3, kA3, kA3, kA3, (0, 16), (0, 800), kA3, (0, 800), (0, 23)], [], [kR 0, kR 2, kI 0, kI 11, kIc 16], 0), ([], 8)),
  (50, [0, 1, 2, 3, 4], ([kc228, kc218, kc237], [(1, 3), (0, 800), (0, 800), kA3, (0, 800), kA3, kA3, kA3, kA3, kA3, kA3, (0, 15), (0, 800), kA3, (0, 800), (0, 23)], [], [kR 0, kR 2, kI 0, kI 11, kIc 15], 0), ([], 9)),
  (50, [0, 1, 2, 3, 4], ([kc228, kc218, kc238], [(1, 3), (0, 800), (0, 800), kA3, (0, 800), kA3, kA3, kA3, kA3, kA3, kA3, (0, 14), (0, 800), kA3, (0, 800), (0, 23)], [], [kR 0, kR 2, kI 0, kI 11, kIc 14], 0), ([], 10)),
  (50, [0, 1, 2, 3, 4], ([kc228, kc218, kc239], [(1, 3), (0, 800), (0, 800), kA3, (0, 800), kA3, kA3, kA3, kA3, kA3, kA3, (0, 13), (0, 800), kA3, (0, 800), (0, 23)], [], [kR 0, kR 2, kI 0, kI 11, kIc 13], 0), ([], 11)),
  (50, [0, 1, 2, 3, 4], ([kc228, kc218, kc240], [(1, 3), (0, 800), (0, 800), kA3, (0, 800), kA3, kA3, kA3, kA3, kA3, kA3, (0, 12), (0, 800), kA3, (0, 800), (0, 23)], [], [kR 0, kR 2, kI 0, kI 11, kIc 12], 0), ([], 12)),
  (50, [0, 1, 2, 3, 4], ([kc228, kc218, kc241], [(1, 3), (0, 800), (0, 800), kA3, (0, 800), kA3, kA3, kA3, kA3, kA3, kA3, (0, 11), (0, 800), kA3, (0, 800), (0, 23)], [], [kR 0, kR 2, kI 0, kI 11, kIc 11], 0), ([], 13)),
  (50, [0, 1, 2, 3, 4], ([kc228, kc218, kc242], [(1, 3), (0, 800), (0, 800), kA3, (0, 800), kA3, kA3, kA3, kA3, kA3, kA3, (0, 10), (0, 800), kA3, (0, 800), (0, 23)], [], [kR 0, kR 2, kI 0, kI 11, kIc 10], 0), ([], 14)),
  (50, [0, 1, 2, 3, 4], ([kc228, kc218, kc243], [(1, 3), (0, 800), (0, 800), kA3, (0, 800), kA3, kA3, kA3, kA3, kA3, kA3, (0, 9), (0, 800), kA3, (0, 800), (0, 23)], [], [kR 0, kR 2, kI 0, kI 11, kIc 9], 0), ([], 15)),
  (50, [0, 1, 2, 3, 4], ([kc228, kc218, kc244], [(1, 3), (0, 800), (0, 800), kA3, (0, 800), kA3, kA3, kA3, kA3, kA3, kA3, (0, 8), (0, 800), kA3, (0, 800), (0, 23)], [], [kR 0, kR 2, kI 0, kI 11, kIc 8], 0), ([], 16)),
  (50, [0, 1, 2, 3, 4], ([kc228, kc218, kc245], [(1, 3), (0, 800), (0, 800), kA3, (0, 800), kA3, kA3, kA3, kA3, kA3, kA3, (0, 7), (0, 800), kA3, (0, 800), (0, 23)], [], [kR 0, kR 2, kI 0, kI 11, kIc 7], 0), ([], 17)),
  (50, [0, 1, 2, 3, 4], ([kc228, kc218, kc246], [(1, 3), (0, 800), (0, 800), kA3, (0, 800), kA3, kA3, kA3, kA3, kA3, kA3, (0, 6), (0, 800), kA3, (0, 800), (0, 23)], [], [kR 0, kR 2, kI 0, kI 11, kIc 6], 0), ([], 18)),
  (50, [0, 1, 2, 3, 4], ([kc228, kc218, kc247], [(1, 3), (0, 800), (0, 800), kA3, (0, 800), kA3, kA3, kA3, kA3, kA3, kA3, (0, 5), (0, 800), kA3, (0, 800), (0, 23)], [], [kR 0, kR 2, kI 0, kI 11, kIc 5], 0), ([], 19)),
  (50, [0, 1, 2, 3, 4], ([kc228, kc218, kc248], [(1, 3), (0, 800), (0, 800), kA3, (0, 800), kA3, kA3, kA3, kA3, kA3, kA3, (0, 4), (0, 800), kA3, (0, 800), (0, 23)], [], [kR 0, kR 2, kI 0, kI 11, kIc 4], 0), ([], 20)),
  (50, [0, 1, 2, 3, 4], ([kc228, kc218, kc249], [(1, 3), (0, 800), (0, 800), kA3, (0, 800), kA3, kA3, kA3, kA3, kA3, kA3, (0, 3), (0, 800), kA3, (0, 800), (0, 23)], [], [kR 0, kR 2, kI 0, kI 11, kIc 3], 0), ([], 21)),
  (50, [0, 1, 2, 3, 4], ([kc228, kc218, kc250], [(1, 3), (0, 800), (0, 800), kA3, (0, 800), kA3, kA3, kA3, kA3, kA3, kA3, (0, 2), (0, 800), kA3, (0, 800), (0, 23)], [], [kR 0, kR 2, kI 0, kI 11, kIc 2], 0), ([], 22)),
  (50, [0, 1, 2, 3, 4], ([kc228, kc218, kc251], [(1, 3), (0, 800), (0, 800), kA3, (0, 800), kA3, kA3, kA3, kA3, kA3, kA3, (0, 1), (0, 800), kA3, (0, 800), (0, 23)], [], [kR 0, kR 2, kI 0, kI 11, kIc 1], 0), ([], 23)),
  (50, [0, 1, 2, 3, 4], ([kc225, kc218, kc227], [(1, 3), (0, 800), (0, 800), kA3, (0, 800), kA3, kA3, kA3, kA3, kA3, kA3, (0, 800), kA3, (0, 800), (0, 23)], [], [kR 0, kR 2, kI 0, kIc 0, kIc 0], 0), ([], 24)),
  (50, [0, 1, 2, 3, 4], ([kc252, kc218, kc253], [(1, 3), (0, 800), (0, 800), kA3, (0, 800), kA3, kA3, kA3, kA3, kA3, kA3, (0, 23), (0, 800), kA3, (0, 800)], [], [kR 0, kR 2, kI 0, kI 11, kIc 24], 0), ([], 0))]
def xT_166 : List (Nat × xCt) := [(40, xc_148), (44, xc_150), (44, xc_164)]
theorem xv_166 : xVer0v xT_166 xHt 100000 35 xm_X3_readsHours xc_166 xu_166 [0] = true := by
  rw [← zVer0v_eq]
  decide +kernel
theorem xw_166_0 : ((xu_166.drop 0).take 1).all (xVerCs xT_166 xHt 100000 35 xm_X3_readsHours xc_166 xu_166 [0, 1] [24]) = true := by
  rw [← zVerCs_eq]
  decide +kernel
theorem xw_166_1 : ((xu_166.drop 1).take 1).all (xVerCs xT_166 xHt 100000 35 xm_X3_readsHours xc_166 xu_166 [0, 1] [0]) = true := by
  rw [← zVerCs_eq]
  decide +kernel
theorem xw_166_2 : ((xu_166.drop 2).take 1).all (xVerCs xT_166 xHt 100000 35 xm_X3_readsHours xc_166 xu_166 [0, 1] [1]) = true := by
  rw [← zVerCs_eq]
  decide +kernel
theorem xw_166_3 : ((xu_166.drop 3).take 1).all (xVerCs xT_166 xHt 100000 35 xm_X3_readsHours xc_166 xu_166 [0, 1] [2]) = true := by
  rw [← zVerCs_eq]
  decide +kernel
theorem xw_166_4 : ((xu_166.drop 4).take 1).all (xVerCs xT_166 xHt 100000 35 xm_X3_readsHours xc_166 xu_166 [0, 1] [3]) = true := by
  rw [← zVerCs_eq]
  decide +kernel
theorem xw_166_5 : ((xu_166.drop 5).take 1).all (xVerCs xT_166 xHt 100000 35 xm_X3_readsHours xc_166 xu_166 [0, 1] [4]) = true := by
  rw [← zVerCs_eq]
  decide +kernel
theorem xw_166_6 : ((xu_166.drop 6).take 1).all (xVerCs xT_166 xHt 100000 35 xm_X3_readsHours xc_166 xu_166 [0, 1] [5]) = true := by
  rw [← zVerCs_eq]
  decide +kernel
theorem xw_166_7 : ((xu_166.drop 7).take 1).all (xVerCs xT_166 xHt 100000 35 xm_X3_readsHours xc_166 xu_166 [0, 1] [6]) = true := by
  rw [← zVerCs_eq]
  decide +kernel
theorem xw_166_8 : ((xu_166.drop 8).take 1).all (xVerCs xT_166 xHt 100000 35 xm_X3_readsHours xc_166 xu_166 [0, 1] [7]) = true := by
  rw [← zVerCs_eq]
  decide +kernel
theorem xw_166_9 : ((xu_166.drop 9).take 1).all (xVerCs xT_166 xHt 100000 35 xm_X3_readsHours xc_166 xu_166 [0, 1] [8]) = true := by
  rw [← zVerCs_eq]
  decide +kernel
theorem xw_166_10 : ((xu_166.drop 10).take 1).all (xVerCs xT_166 xHt 100000 35 xm_X3_readsHours xc_166 xu_166 [0, 1] [9]) = true := by
  rw [← zVerCs_eq]
  decide +kernel
theorem xw_166_11 : ((xu_166.drop 11).take 1).all (xVerCs xT_166 xHt 100000 35 xm_X3_readsHours xc_166 xu_166 [0, 1] [10]) = true := by
  rw [← zVerCs_eq]
  decide +kernel
theorem xw_166_12 : ((xu_166.drop 12).take 1).all (xVerCs xT_166 xHt 100000 35 xm_X3_readsHours xc_166 xu_166 [0, 1] [11]) = true := by
  rw [← zVerCs_eq]
  decide +kernel
theorem xw_166_13 : ((xu_166.drop 13).take 1).all (xVerCs xT_166 xHt 100000 35 xm_X3_readsHours xc_166 xu_166 [0, 1] [12]) = true := by
  rw [← zVerCs_eq]
  decide +kernel
theorem xw_166_14 : ((xu_166.drop 14).take 1).all (xVerCs xT_166 xHt 100000 35 xm_X3_readsHours xc_166 xu_166 [0, 1] [13]) = true := by
  rw [← zVerCs_eq]
  decide +kernel
theorem xw_166_15 : ((xu_166.drop 15).take 1).all (xVerCs xT_166 xHt 100000 35 xm_X3_readsHours xc_166 xu_166 [0, 1] [14]) = true := by
  rw [← zVerCs_eq]
  decide +kernel
theorem xw_166_16 : ((xu_166.drop 16).take 1).all (xVerCs xT_166 xHt 100000 35 xm_X3_readsHours xc_166 xu_166 [0, 1] [15]) = true := by
  rw [← zVerCs_eq]
  decide +kernel
theorem xw_166_17 : ((xu_166.drop 17).take 1).all (xVerCs xT_166 xHt 100000 35 xm_X3_readsHours xc_166 xu_166 [0, 1] [16]) = true := by
  rw [← zVerCs_eq]
  decide +kernel
theorem xw_166_18 : ((xu_166.drop 18).take 1).all (xVerCs xT_166 xHt 100000 35 xm_X3_readsHours xc_166 xu_166 [0, 1] [17]) = true := by
  rw [← zVerCs_eq]
  decide +kernel
theorem xw_166_19 : ((xu_166.drop 19).take 1).all (xVerCs xT_166 xHt 100000 35 xm_X3_readsHours xc_166 xu_166 [0, 1] [18]) = true := by
  rw [← zVerCs_eq]
  decide +kernel
theorem xw_166_20 : ((xu_166.drop 20).take 1).all (xVerCs xT_166 xHt 100000 35 xm_X3_readsHours xc_166 xu_166 [0, 1] [19]) = true := by
  rw [← zVerCs_eq]
  decide +kernel
theorem xw_166_21 : ((xu_166.drop 21).take 1).all (xVerCs xT_166 xHt 100000 35 xm_X3_readsHours xc_166 xu_166 [0, 1] [20]) = true := by
  rw [← zVerCs_eq]
  decide +kernel
theorem xw_166_22 : ((xu_166.drop 22).take 1).all (xVerCs xT_166 xHt 100000 35 xm_X3_readsHours xc_166 xu_166 [0, 1] [21]) = true := by
  rw [← zVerCs_eq]
  decide +kernel
theorem xw_166_23 : ((xu_166.drop 23).take 1).all (xVerCs xT_166 xHt 100000 35 xm_X3_readsHours xc_166 xu_166 [] [22]) = true := by
  rw [← zVerCs_eq]
  decide +kernel
theorem xw_166_24 : ((xu_166.drop 24).take 1).all (xVerCs xT_166 xHt 100000 35 xm_X3_readsHours xc_166 xu_166 [0, 1] []) = true := by
  rw [← zVerCs_eq]
  decide +kernel
theorem xok_166 (l : Launch) : xCk l 35 xc_166 := ⟨xm_X3_readsHours, rfl, xVer_ok xk_all (xHt_ok l) (T := xT_166) (xTc (xok_148 l) (xTc (xok_150 l) (xTc (xok_164 l) (xTn l)))) rfl (f := 100000) (cuts := xu_166) (xVer0v_ok xv_166) (xAll0 (xAllS 0 1 (xAllCs xw_166_0) (xAllS 1 1 (xAllCs xw_166_1) (xAllS 2 1 (xAllCs xw_166_2) (xAllS 3 1 (xAllCs xw_166_3) (xAllS 4 1 (xAllCs xw_166_4) (xAllS 5 1 (xAllCs xw_166_5) (xAllS 6 1 (xAllCs xw_166_6) (xAllS 7 1 (xAllCs xw_166_7) (xAllS 8 1 (xAllCs xw_166_8) (xAllS 9 1 (xAllCs xw_166_9) (xAllS 10 1 (xAllCs xw_166_10) (xAllS 11 1 (xAllCs xw_166_11) (xAllS 12 1 (xAllCs xw_166_12) (xAllS 13 1 (xAllCs xw_166_13) (xAllS 14 1 (xAllCs xw_166_14) (xAllS 15 1 (xAllCs xw_166_15) (xAllS 16 1 (xAllCs xw_166_16) (xAllS 17 1 (xAllCs xw_166_17) (xAllS 18 1 (xAllCs xw_166_18) (xAllS 19 1 (xAllCs xw_166_19) (xAllS 20 1 (xAllCs xw_166_20) (xAllS 21 1 (xAllCs xw_166_21) (xAllS 22 1 (xAllCs xw_166_22) (xAllS 23 1 (xAllCs xw_166_23) (xAllS 24 1 (xAllCs xw_166_24) (xAllZ (by decide +kernel))))))))))))))))))))))))))))⟩
