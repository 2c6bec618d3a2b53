/-! Roads of the law. -/
theorem lp_g44 : ∀ i, i < 4 → lp_L (44 + i) (lp_S (44 + i)) = true := by
  rw [← zlp_L_eq, ← zlp_S_eq]
  decide +kernel
theorem lp_g48 : ∀ i, i < 4 → lp_L (48 + i) (lp_S (48 + i)) = true := by
  rw [← zlp_L_eq, ← zlp_S_eq]
  decide +kernel
theorem lp_g52 : ∀ i, i < 4 → lp_L (52 + i) (lp_S (52 + i)) = true := by
  rw [← zlp_L_eq, ← zlp_S_eq]
  decide +kernel
theorem lp_g56 : ∀ i, i < 4 → lp_L (56 + i) (lp_S (56 + i)) = true := by
  rw [← zlp_L_eq, ← zlp_S_eq]
  decide +kernel
theorem lp_g60 : ∀ i, i < 4 → lp_L (60 + i) (lp_S (60 + i)) = true := by
  rw [← zlp_L_eq, ← zlp_S_eq]
  decide +kernel
theorem lp_g64 : ∀ i, i < 2 → lp_L (64 + i) (lp_S (64 + i)) = true := by
  rw [← zlp_L_eq, ← zlp_S_eq]
  decide +kernel
theorem lp_g66 : ∀ i, i < 1 → lp_L (66 + i) (lp_S (66 + i)) = true := by
  rw [← zlp_L_eq, ← zlp_S_eq]
  decide +kernel
theorem lp_g67 : ∀ i, i < 1 → lp_L (67 + i) (lp_S (67 + i)) = true := by
  rw [← zlp_L_eq, ← zlp_S_eq]
  decide +kernel
theorem lp_l68 : lp_L 68 (lp_S 68) = true := by
  rw [← zlp_L_eq, ← zlp_S_eq]
  decide +kernel
theorem lp_t68 : lp_I 68 := by
  unfold lp_I
  exact lgT_leaf lp_l68
theorem lp_g69 : ∀ i, i < 1 → lp_L (69 + i) (lp_S (69 + i)) = true := by
  rw [← zlp_L_eq, ← zlp_S_eq]
  decide +kernel
theorem lp_l70_0 : lp_L 70 (lgL 118 0 (lp_S 70)) = true := by
  rw [← zlp_L_eq, ← zlp_S_eq]
  decide +kernel
theorem lp_l70_1 : lp_L 70 (lgA lp_G0.2.1 (lgL 118 1 (lgL 118 2 (lgL 118 4 (lgR 118 0 (lp_S 70)))))) = true := by
  rw [← zlp_L_eq, ← zlp_S_eq]
  decide +kernel
theorem lp_l70_2 : lp_L 70 (lgA lp_G0.2.2 (lgL 118 1 (lgL 118 2 (lgL 118 4 (lgR 118 0 (lp_S 70)))))) = true := by
  rw [← zlp_L_eq, ← zlp_S_eq]
  decide +kernel
