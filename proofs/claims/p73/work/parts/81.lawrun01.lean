/-! Roads of the law. -/
theorem lp_g0 : ∀ i, i < 4 → lp_L (0 + i) (lp_S (0 + i)) = true := by
  rw [← zlp_L_eq, ← zlp_S_eq]
  decide +kernel
theorem lp_g4 : ∀ i, i < 4 → lp_L (4 + i) (lp_S (4 + i)) = true := by
  rw [← zlp_L_eq, ← zlp_S_eq]
  decide +kernel
theorem lp_g8 : ∀ i, i < 4 → lp_L (8 + i) (lp_S (8 + i)) = true := by
  rw [← zlp_L_eq, ← zlp_S_eq]
  decide +kernel
theorem lp_g12 : ∀ i, i < 4 → lp_L (12 + i) (lp_S (12 + i)) = true := by
  rw [← zlp_L_eq, ← zlp_S_eq]
  decide +kernel
theorem lp_g16 : ∀ i, i < 4 → lp_L (16 + i) (lp_S (16 + i)) = true := by
  rw [← zlp_L_eq, ← zlp_S_eq]
  decide +kernel
theorem lp_g20 : ∀ i, i < 4 → lp_L (20 + i) (lp_S (20 + i)) = true := by
  rw [← zlp_L_eq, ← zlp_S_eq]
  decide +kernel
theorem lp_g24 : ∀ i, i < 4 → lp_L (24 + i) (lp_S (24 + i)) = true := by
  rw [← zlp_L_eq, ← zlp_S_eq]
  decide +kernel
theorem lp_g28 : ∀ i, i < 4 → lp_L (28 + i) (lp_S (28 + i)) = true := by
  rw [← zlp_L_eq, ← zlp_S_eq]
  decide +kernel
theorem lp_g32 : ∀ i, i < 4 → lp_L (32 + i) (lp_S (32 + i)) = true := by
  rw [← zlp_L_eq, ← zlp_S_eq]
  decide +kernel
theorem lp_g36 : ∀ i, i < 4 → lp_L (36 + i) (lp_S (36 + i)) = true := by
  rw [← zlp_L_eq, ← zlp_S_eq]
  decide +kernel
theorem lp_g40 : ∀ i, i < 4 → lp_L (40 + i) (lp_S (40 + i)) = true := by
  rw [← zlp_L_eq, ← zlp_S_eq]
  decide +kernel
