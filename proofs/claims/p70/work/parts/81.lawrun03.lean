/-! Roads of the law. -/
theorem lp_l68_4 : lp_L 68 (lgL 118 1 (lgL 117 1 (lgR 116 1 (lp_S 68)))) = true := by
  rw [← zlp_L_eq, ← zlp_S_eq]
  decide +kernel
theorem lp_l68_5 : lp_L 68 (lgR 118 1 (lgL 117 1 (lgR 116 1 (lp_S 68)))) = true := by
  rw [← zlp_L_eq, ← zlp_S_eq]
  decide +kernel
theorem lp_l68_6 : lp_L 68 (lgL 118 1 (lgR 117 1 (lgR 116 1 (lp_S 68)))) = true := by
  rw [← zlp_L_eq, ← zlp_S_eq]
  decide +kernel
theorem lp_l68_7 : lp_L 68 (lgR 118 1 (lgR 117 1 (lgR 116 1 (lp_S 68)))) = true := by
  rw [← zlp_L_eq, ← zlp_S_eq]
  decide +kernel
theorem lp_t68 : lp_I 68 := by
  unfold lp_I
  exact lgT_cut 116 1 (lgT_cut 117 1 (lgT_cut 118 1 (lgT_leaf lp_l68_0) (lgT_leaf lp_l68_1)) (lgT_cut 118 1 (lgT_leaf lp_l68_2) (lgT_leaf lp_l68_3))) (lgT_cut 117 1 (lgT_cut 118 1 (lgT_leaf lp_l68_4) (lgT_leaf lp_l68_5)) (lgT_cut 118 1 (lgT_leaf lp_l68_6) (lgT_leaf lp_l68_7)))
theorem lp_l69_0 : lp_L 69 (lgL 118 1 (lgL 117 1 (lgL 116 1 (lp_S 69)))) = true := by
  rw [← zlp_L_eq, ← zlp_S_eq]
  decide +kernel
theorem lp_l69_1 : lp_L 69 (lgR 118 1 (lgL 117 1 (lgL 116 1 (lp_S 69)))) = true := by
  rw [← zlp_L_eq, ← zlp_S_eq]
  decide +kernel
theorem lp_l69_2 : lp_L 69 (lgL 118 1 (lgR 117 1 (lgL 116 1 (lp_S 69)))) = true := by
  rw [← zlp_L_eq, ← zlp_S_eq]
  decide +kernel
theorem lp_l69_3 : lp_L 69 (lgR 118 1 (lgR 117 1 (lgL 116 1 (lp_S 69)))) = true := by
  rw [← zlp_L_eq, ← zlp_S_eq]
  decide +kernel
theorem lp_l69_4 : lp_L 69 (lgL 118 1 (lgL 117 1 (lgR 116 1 (lp_S 69)))) = true := by
  rw [← zlp_L_eq, ← zlp_S_eq]
  decide +kernel
theorem lp_l69_5 : lp_L 69 (lgR 118 1 (lgL 117 1 (lgR 116 1 (lp_S 69)))) = true := by
  rw [← zlp_L_eq, ← zlp_S_eq]
  decide +kernel
