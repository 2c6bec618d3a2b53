theorem xp_w2 : xp_case 70 2 2 = true := by decide +kernel
theorem xp_w3 : xp_case 70 3 3 = true := by decide +kernel
