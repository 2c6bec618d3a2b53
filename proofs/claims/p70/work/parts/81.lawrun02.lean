/-! Roads of the law. -/
theorem lp_g44 : ∀ i, i < 4 → lp_L (44 + i) (lp_S (44 + i)) = true := by
  rw [← zlp_L_eq, ← zlp_S_eq]
  decide +kernel
theorem lp_g48 : ∀ i, i < 4 → lp_L (48 + i) (lp_S (48 + i)) = true := by
  rw [← zlp_L_eq, ← zlp_S_eq]
  decide +kernel
theorem lp_g52 : ∀ i, i < 4 → lp_L (52 + i) (lp_S (52 + i)) = true := by
  rw [← zlp_L_eq, ← zlp_S_eq]
  decide +kernel
theorem lp_g56 : ∀ i, i < 4 → lp_L (56 + i) (lp_S (56 + i)) = true := by
  rw [← zlp_L_eq, ← zlp_S_eq]
  decide +kernel
theorem lp_g60 : ∀ i, i < 4 → lp_L (60 + i) (lp_S (60 + i)) = true := by
  rw [← zlp_L_eq, ← zlp_S_eq]
  decide +kernel
theorem lp_g64 : ∀ i, i < 2 → lp_L (64 + i) (lp_S (64 + i)) = true := by
  rw [← zlp_L_eq, ← zlp_S_eq]
  decide +kernel
theorem lp_g66 : ∀ i, i < 1 → lp_L (66 + i) (lp_S (66 + i)) = true := by
  rw [← zlp_L_eq, ← zlp_S_eq]
  decide +kernel
theorem lp_g67 : ∀ i, i < 1 → lp_L (67 + i) (lp_S (67 + i)) = true := by
  rw [← zlp_L_eq, ← zlp_S_eq]
  decide +kernel
theorem lp_l68_0 : lp_L 68 (lgL 118 1 (lgL 117 1 (lgL 116 1 (lp_S 68)))) = true := by
  rw [← zlp_L_eq, ← zlp_S_eq]
  decide +kernel
theorem lp_l68_1 : lp_L 68 (lgR 118 1 (lgL 117 1 (lgL 116 1 (lp_S 68)))) = true := by
  rw [← zlp_L_eq, ← zlp_S_eq]
  decide +kernel
theorem lp_l68_2 : lp_L 68 (lgL 118 1 (lgR 117 1 (lgL 116 1 (lp_S 68)))) = true := by
  rw [← zlp_L_eq, ← zlp_S_eq]
  decide +kernel
theorem lp_l68_3 : lp_L 68 (lgR 118 1 (lgR 117 1 (lgL 116 1 (lp_S 68)))) = true := by
  rw [← zlp_L_eq, ← zlp_S_eq]
  decide +kernel
