theorem xp_g0 : ∀ i, i < 3 → xp_case (0 + i) (-2147483648) 2147483647 = true := by decide +kernel
theorem xp_g3 : ∀ i, i < 1 → xp_case (3 + i) (-2147483648) 2147483647 = true := by decide +kernel
theorem xp_g4 : ∀ i, i < 12 → xp_case (4 + i) (-2147483648) 2147483647 = true := by decide +kernel
theorem xp_g16 : ∀ i, i < 12 → xp_case (16 + i) (-2147483648) 2147483647 = true := by decide +kernel
