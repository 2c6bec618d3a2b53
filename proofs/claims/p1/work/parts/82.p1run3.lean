theorem xp_g68 : ∀ i, i < 1 → xp_case (68 + i) (-2147483648) 2147483647 = true := by decide +kernel
theorem xp_g69 : ∀ i, i < 1 → xp_case (69 + i) (-2147483648) 2147483647 = true := by decide +kernel
theorem xp_g71 : ∀ i, i < 2 → xp_case (71 + i) (-2147483648) 2147483647 = true := by decide +kernel
