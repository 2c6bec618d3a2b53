theorem xp_w36 : ∀ i, i < 6 → xp_case 70 (Int.ofNat (36 + i)) (Int.ofNat (36 + i)) = true := by decide +kernel
theorem xp_w42 : ∀ i, i < 6 → xp_case 70 (Int.ofNat (42 + i)) (Int.ofNat (42 + i)) = true := by decide +kernel
theorem xp_w48 : ∀ i, i < 6 → xp_case 70 (Int.ofNat (48 + i)) (Int.ofNat (48 + i)) = true := by decide +kernel
theorem xp_w54 : ∀ i, i < 6 → xp_case 70 (Int.ofNat (54 + i)) (Int.ofNat (54 + i)) = true := by decide +kernel
theorem xp_w60 : ∀ i, i < 1 → xp_case 70 (Int.ofNat (60 + i)) (Int.ofNat (60 + i)) = true := by decide +kernel
