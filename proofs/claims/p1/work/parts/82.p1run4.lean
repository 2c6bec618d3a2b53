theorem xp_row_l : xp_case 70 (-2147483648) (-1) = true := by decide +kernel
theorem xp_row_h : xp_case 70 61 2147483647 = true := by decide +kernel
theorem xp_w0 : ∀ i, i < 6 → xp_case 70 (Int.ofNat (0 + i)) (Int.ofNat (0 + i)) = true := by decide +kernel
theorem xp_w6 : ∀ i, i < 6 → xp_case 70 (Int.ofNat (6 + i)) (Int.ofNat (6 + i)) = true := by decide +kernel
theorem xp_w12 : ∀ i, i < 6 → xp_case 70 (Int.ofNat (12 + i)) (Int.ofNat (12 + i)) = true := by decide +kernel
theorem xp_w18 : ∀ i, i < 6 → xp_case 70 (Int.ofNat (18 + i)) (Int.ofNat (18 + i)) = true := by decide +kernel
theorem xp_w24 : ∀ i, i < 6 → xp_case 70 (Int.ofNat (24 + i)) (Int.ofNat (24 + i)) = true := by decide +kernel
theorem xp_w30 : ∀ i, i < 6 → xp_case 70 (Int.ofNat (30 + i)) (Int.ofNat (30 + i)) = true := by decide +kernel
