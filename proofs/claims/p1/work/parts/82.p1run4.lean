theorem xp_row_l : xp_case 70 (-2147483648) (-1) = true := by decide +kernel
theorem xp_row_h : xp_case 70 4 2147483647 = true := by decide +kernel
theorem xp_w0 : xp_case 70 0 0 = true := by decide +kernel
theorem xp_w1 : xp_case 70 1 1 = true := by decide +kernel
