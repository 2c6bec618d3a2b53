/-! Roads of the law. -/
theorem lp_l70_3 : lp_L 70 (lgA lp_G1.2.1 (lgR 118 1 (lgL 118 2 (lgL 118 4 (lgR 118 0 (lp_S 70)))))) = true := by
  rw [← zlp_L_eq, ← zlp_S_eq]
  decide +kernel
theorem lp_l70_4 : lp_L 70 (lgA lp_G1.2.2 (lgR 118 1 (lgL 118 2 (lgL 118 4 (lgR 118 0 (lp_S 70)))))) = true := by
  rw [← zlp_L_eq, ← zlp_S_eq]
  decide +kernel
theorem lp_l70_5 : lp_L 70 (lgA lp_G2.2.1 (lgL 118 3 (lgR 118 2 (lgL 118 4 (lgR 118 0 (lp_S 70)))))) = true := by
  rw [← zlp_L_eq, ← zlp_S_eq]
  decide +kernel
theorem lp_l70_6 : lp_L 70 (lgA lp_G2.2.2 (lgL 118 3 (lgR 118 2 (lgL 118 4 (lgR 118 0 (lp_S 70)))))) = true := by
  rw [← zlp_L_eq, ← zlp_S_eq]
  decide +kernel
theorem lp_l70_7 : lp_L 70 (lgA lp_G3.2.1 (lgR 118 3 (lgR 118 2 (lgL 118 4 (lgR 118 0 (lp_S 70)))))) = true := by
  rw [← zlp_L_eq, ← zlp_S_eq]
  decide +kernel
theorem lp_l70_8 : lp_L 70 (lgA lp_G3.2.2 (lgR 118 3 (lgR 118 2 (lgL 118 4 (lgR 118 0 (lp_S 70)))))) = true := by
  rw [← zlp_L_eq, ← zlp_S_eq]
  decide +kernel
theorem lp_l70_9 : lp_L 70 (lgR 118 4 (lgR 118 0 (lp_S 70))) = true := by
  rw [← zlp_L_eq, ← zlp_S_eq]
  decide +kernel
theorem lp_t70 : lp_I 70 := by
  unfold lp_I
  exact lgT_cut 118 0 (lgT_leaf lp_l70_0) (lgT_cut 118 4 (lgT_cut 118 2 (lgT_cut 118 1 (lgT_grp lp_G0 lp_m0 (lgT_leaf lp_l70_1) (lgT_leaf lp_l70_2)) (lgT_grp lp_G1 lp_m1 (lgT_leaf lp_l70_3) (lgT_leaf lp_l70_4))) (lgT_cut 118 3 (lgT_grp lp_G2 lp_m2 (lgT_leaf lp_l70_5) (lgT_leaf lp_l70_6)) (lgT_grp lp_G3 lp_m3 (lgT_leaf lp_l70_7) (lgT_leaf lp_l70_8)))) (lgT_leaf lp_l70_9))
theorem lp_g71 : ∀ i, i < 1 → lp_L (71 + i) (lp_S (71 + i)) = true := by
  rw [← zlp_L_eq, ← zlp_S_eq]
  decide +kernel
theorem lp_l72_0 : lp_L 72 (lgL 118 0 (lp_S 72)) = true := by
  rw [← zlp_L_eq, ← zlp_S_eq]
  decide +kernel
theorem lp_l72_1 : lp_L 72 (lgL 120 0 (lgA lp_G0.2.1 (lgL 118 1 (lgL 118 2 (lgL 118 4 (lgR 118 0 (lp_S 72))))))) = true := by
  rw [← zlp_L_eq, ← zlp_S_eq]
  decide +kernel
theorem lp_l72_2 : lp_L 72 (lgL 120 1 (lgL 120 2 (lgL 120 4 (lgR 120 0 (lgA lp_G0.2.1 (lgL 118 1 (lgL 118 2 (lgL 118 4 (lgR 118 0 (lp_S 72)))))))))) = true := by
  rw [← zlp_L_eq, ← zlp_S_eq]
  decide +kernel
