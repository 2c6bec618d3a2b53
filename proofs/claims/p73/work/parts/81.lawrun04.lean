/-! Roads of the law. -/
theorem lp_l72_3 : lp_L 72 (lgA lp_G1.2.1 (lgR 120 1 (lgL 120 2 (lgL 120 4 (lgR 120 0 (lgA lp_G0.2.1 (lgL 118 1 (lgL 118 2 (lgL 118 4 (lgR 118 0 (lp_S 72))))))))))) = true := by
  rw [← zlp_L_eq, ← zlp_S_eq]
  decide +kernel
theorem lp_l72_4 : lp_L 72 (lgA lp_G1.2.2 (lgR 120 1 (lgL 120 2 (lgL 120 4 (lgR 120 0 (lgA lp_G0.2.1 (lgL 118 1 (lgL 118 2 (lgL 118 4 (lgR 118 0 (lp_S 72))))))))))) = true := by
  rw [← zlp_L_eq, ← zlp_S_eq]
  decide +kernel
theorem lp_l72_5 : lp_L 72 (lgA lp_G2.2.1 (lgL 120 3 (lgR 120 2 (lgL 120 4 (lgR 120 0 (lgA lp_G0.2.1 (lgL 118 1 (lgL 118 2 (lgL 118 4 (lgR 118 0 (lp_S 72))))))))))) = true := by
  rw [← zlp_L_eq, ← zlp_S_eq]
  decide +kernel
theorem lp_l72_6 : lp_L 72 (lgA lp_G2.2.2 (lgL 120 3 (lgR 120 2 (lgL 120 4 (lgR 120 0 (lgA lp_G0.2.1 (lgL 118 1 (lgL 118 2 (lgL 118 4 (lgR 118 0 (lp_S 72))))))))))) = true := by
  rw [← zlp_L_eq, ← zlp_S_eq]
  decide +kernel
theorem lp_l72_7 : lp_L 72 (lgA lp_G3.2.1 (lgR 120 3 (lgR 120 2 (lgL 120 4 (lgR 120 0 (lgA lp_G0.2.1 (lgL 118 1 (lgL 118 2 (lgL 118 4 (lgR 118 0 (lp_S 72))))))))))) = true := by
  rw [← zlp_L_eq, ← zlp_S_eq]
  decide +kernel
theorem lp_l72_8 : lp_L 72 (lgA lp_G3.2.2 (lgR 120 3 (lgR 120 2 (lgL 120 4 (lgR 120 0 (lgA lp_G0.2.1 (lgL 118 1 (lgL 118 2 (lgL 118 4 (lgR 118 0 (lp_S 72))))))))))) = true := by
  rw [← zlp_L_eq, ← zlp_S_eq]
  decide +kernel
theorem lp_l72_9 : lp_L 72 (lgR 120 4 (lgR 120 0 (lgA lp_G0.2.1 (lgL 118 1 (lgL 118 2 (lgL 118 4 (lgR 118 0 (lp_S 72)))))))) = true := by
  rw [← zlp_L_eq, ← zlp_S_eq]
  decide +kernel
theorem lp_l72_10 : lp_L 72 (lgL 120 0 (lgA lp_G0.2.2 (lgL 118 1 (lgL 118 2 (lgL 118 4 (lgR 118 0 (lp_S 72))))))) = true := by
  rw [← zlp_L_eq, ← zlp_S_eq]
  decide +kernel
theorem lp_l72_11 : lp_L 72 (lgL 120 1 (lgL 120 2 (lgL 120 4 (lgR 120 0 (lgA lp_G0.2.2 (lgL 118 1 (lgL 118 2 (lgL 118 4 (lgR 118 0 (lp_S 72)))))))))) = true := by
  rw [← zlp_L_eq, ← zlp_S_eq]
  decide +kernel
theorem lp_l72_12 : lp_L 72 (lgR 120 1 (lgL 120 2 (lgL 120 4 (lgR 120 0 (lgA lp_G0.2.2 (lgL 118 1 (lgL 118 2 (lgL 118 4 (lgR 118 0 (lp_S 72)))))))))) = true := by
  rw [← zlp_L_eq, ← zlp_S_eq]
  decide +kernel
theorem lp_l72_13 : lp_L 72 (lgL 120 3 (lgR 120 2 (lgL 120 4 (lgR 120 0 (lgA lp_G0.2.2 (lgL 118 1 (lgL 118 2 (lgL 118 4 (lgR 118 0 (lp_S 72)))))))))) = true := by
  rw [← zlp_L_eq, ← zlp_S_eq]
  decide +kernel
theorem lp_l72_14 : lp_L 72 (lgR 120 3 (lgR 120 2 (lgL 120 4 (lgR 120 0 (lgA lp_G0.2.2 (lgL 118 1 (lgL 118 2 (lgL 118 4 (lgR 118 0 (lp_S 72)))))))))) = true := by
  rw [← zlp_L_eq, ← zlp_S_eq]
  decide +kernel
theorem lp_l72_15 : lp_L 72 (lgR 120 4 (lgR 120 0 (lgA lp_G0.2.2 (lgL 118 1 (lgL 118 2 (lgL 118 4 (lgR 118 0 (lp_S 72)))))))) = true := by
  rw [← zlp_L_eq, ← zlp_S_eq]
  decide +kernel
theorem lp_l72_16 : lp_L 72 (lgL 120 0 (lgA lp_G1.2.1 (lgR 118 1 (lgL 118 2 (lgL 118 4 (lgR 118 0 (lp_S 72))))))) = true := by
  rw [← zlp_L_eq, ← zlp_S_eq]
  decide +kernel
