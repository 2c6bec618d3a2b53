/-! Roads of the law. -/
theorem lp_l72_17 : lp_L 72 (lgA lp_G0.2.1 (lgL 120 1 (lgL 120 2 (lgL 120 4 (lgR 120 0 (lgA lp_G1.2.1 (lgR 118 1 (lgL 118 2 (lgL 118 4 (lgR 118 0 (lp_S 72))))))))))) = true := by
  rw [← zlp_L_eq, ← zlp_S_eq]
  decide +kernel
theorem lp_l72_18 : lp_L 72 (lgA lp_G0.2.2 (lgL 120 1 (lgL 120 2 (lgL 120 4 (lgR 120 0 (lgA lp_G1.2.1 (lgR 118 1 (lgL 118 2 (lgL 118 4 (lgR 118 0 (lp_S 72))))))))))) = true := by
  rw [← zlp_L_eq, ← zlp_S_eq]
  decide +kernel
theorem lp_l72_19 : lp_L 72 (lgR 120 1 (lgL 120 2 (lgL 120 4 (lgR 120 0 (lgA lp_G1.2.1 (lgR 118 1 (lgL 118 2 (lgL 118 4 (lgR 118 0 (lp_S 72)))))))))) = true := by
  rw [← zlp_L_eq, ← zlp_S_eq]
  decide +kernel
theorem lp_l72_20 : lp_L 72 (lgA lp_G2.2.1 (lgL 120 3 (lgR 120 2 (lgL 120 4 (lgR 120 0 (lgA lp_G1.2.1 (lgR 118 1 (lgL 118 2 (lgL 118 4 (lgR 118 0 (lp_S 72))))))))))) = true := by
  rw [← zlp_L_eq, ← zlp_S_eq]
  decide +kernel
theorem lp_l72_21 : lp_L 72 (lgA lp_G2.2.2 (lgL 120 3 (lgR 120 2 (lgL 120 4 (lgR 120 0 (lgA lp_G1.2.1 (lgR 118 1 (lgL 118 2 (lgL 118 4 (lgR 118 0 (lp_S 72))))))))))) = true := by
  rw [← zlp_L_eq, ← zlp_S_eq]
  decide +kernel
theorem lp_l72_22 : lp_L 72 (lgA lp_G3.2.1 (lgR 120 3 (lgR 120 2 (lgL 120 4 (lgR 120 0 (lgA lp_G1.2.1 (lgR 118 1 (lgL 118 2 (lgL 118 4 (lgR 118 0 (lp_S 72))))))))))) = true := by
  rw [← zlp_L_eq, ← zlp_S_eq]
  decide +kernel
theorem lp_l72_23 : lp_L 72 (lgA lp_G3.2.2 (lgR 120 3 (lgR 120 2 (lgL 120 4 (lgR 120 0 (lgA lp_G1.2.1 (lgR 118 1 (lgL 118 2 (lgL 118 4 (lgR 118 0 (lp_S 72))))))))))) = true := by
  rw [← zlp_L_eq, ← zlp_S_eq]
  decide +kernel
theorem lp_l72_24 : lp_L 72 (lgR 120 4 (lgR 120 0 (lgA lp_G1.2.1 (lgR 118 1 (lgL 118 2 (lgL 118 4 (lgR 118 0 (lp_S 72)))))))) = true := by
  rw [← zlp_L_eq, ← zlp_S_eq]
  decide +kernel
theorem lp_l72_25 : lp_L 72 (lgL 120 0 (lgA lp_G1.2.2 (lgR 118 1 (lgL 118 2 (lgL 118 4 (lgR 118 0 (lp_S 72))))))) = true := by
  rw [← zlp_L_eq, ← zlp_S_eq]
  decide +kernel
theorem lp_l72_26 : lp_L 72 (lgL 120 1 (lgL 120 2 (lgL 120 4 (lgR 120 0 (lgA lp_G1.2.2 (lgR 118 1 (lgL 118 2 (lgL 118 4 (lgR 118 0 (lp_S 72)))))))))) = true := by
  rw [← zlp_L_eq, ← zlp_S_eq]
  decide +kernel
theorem lp_l72_27 : lp_L 72 (lgR 120 1 (lgL 120 2 (lgL 120 4 (lgR 120 0 (lgA lp_G1.2.2 (lgR 118 1 (lgL 118 2 (lgL 118 4 (lgR 118 0 (lp_S 72)))))))))) = true := by
  rw [← zlp_L_eq, ← zlp_S_eq]
  decide +kernel
theorem lp_l72_28 : lp_L 72 (lgL 120 3 (lgR 120 2 (lgL 120 4 (lgR 120 0 (lgA lp_G1.2.2 (lgR 118 1 (lgL 118 2 (lgL 118 4 (lgR 118 0 (lp_S 72)))))))))) = true := by
  rw [← zlp_L_eq, ← zlp_S_eq]
  decide +kernel
theorem lp_l72_29 : lp_L 72 (lgR 120 3 (lgR 120 2 (lgL 120 4 (lgR 120 0 (lgA lp_G1.2.2 (lgR 118 1 (lgL 118 2 (lgL 118 4 (lgR 118 0 (lp_S 72)))))))))) = true := by
  rw [← zlp_L_eq, ← zlp_S_eq]
  decide +kernel
