theorem xp_g28 : ∀ i, i < 12 → xp_case (28 + i) (-2147483648) 2147483647 = true := by decide +kernel
theorem xp_g40 : ∀ i, i < 12 → xp_case (40 + i) (-2147483648) 2147483647 = true := by decide +kernel
theorem xp_g52 : ∀ i, i < 8 → xp_case (52 + i) (-2147483648) 2147483647 = true := by decide +kernel
theorem xp_g60 : ∀ i, i < 8 → xp_case (60 + i) (-2147483648) 2147483647 = true := by decide +kernel
