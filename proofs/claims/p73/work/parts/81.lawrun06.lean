/-! Roads of the law. -/
theorem lp_l72_30 : lp_L 72 (lgR 120 4 (lgR 120 0 (lgA lp_G1.2.2 (lgR 118 1 (lgL 118 2 (lgL 118 4 (lgR 118 0 (lp_S 72)))))))) = true := by
  rw [← zlp_L_eq, ← zlp_S_eq]
  decide +kernel
theorem lp_l72_31 : lp_L 72 (lgL 120 0 (lgA lp_G2.2.1 (lgL 118 3 (lgR 118 2 (lgL 118 4 (lgR 118 0 (lp_S 72))))))) = true := by
  rw [← zlp_L_eq, ← zlp_S_eq]
  decide +kernel
theorem lp_l72_32 : lp_L 72 (lgA lp_G0.2.1 (lgL 120 1 (lgL 120 2 (lgL 120 4 (lgR 120 0 (lgA lp_G2.2.1 (lgL 118 3 (lgR 118 2 (lgL 118 4 (lgR 118 0 (lp_S 72))))))))))) = true := by
  rw [← zlp_L_eq, ← zlp_S_eq]
  decide +kernel
theorem lp_l72_33 : lp_L 72 (lgA lp_G0.2.2 (lgL 120 1 (lgL 120 2 (lgL 120 4 (lgR 120 0 (lgA lp_G2.2.1 (lgL 118 3 (lgR 118 2 (lgL 118 4 (lgR 118 0 (lp_S 72))))))))))) = true := by
  rw [← zlp_L_eq, ← zlp_S_eq]
  decide +kernel
theorem lp_l72_34 : lp_L 72 (lgA lp_G1.2.1 (lgR 120 1 (lgL 120 2 (lgL 120 4 (lgR 120 0 (lgA lp_G2.2.1 (lgL 118 3 (lgR 118 2 (lgL 118 4 (lgR 118 0 (lp_S 72))))))))))) = true := by
  rw [← zlp_L_eq, ← zlp_S_eq]
  decide +kernel
theorem lp_l72_35 : lp_L 72 (lgA lp_G1.2.2 (lgR 120 1 (lgL 120 2 (lgL 120 4 (lgR 120 0 (lgA lp_G2.2.1 (lgL 118 3 (lgR 118 2 (lgL 118 4 (lgR 118 0 (lp_S 72))))))))))) = true := by
  rw [← zlp_L_eq, ← zlp_S_eq]
  decide +kernel
theorem lp_l72_36 : lp_L 72 (lgL 120 3 (lgR 120 2 (lgL 120 4 (lgR 120 0 (lgA lp_G2.2.1 (lgL 118 3 (lgR 118 2 (lgL 118 4 (lgR 118 0 (lp_S 72)))))))))) = true := by
  rw [← zlp_L_eq, ← zlp_S_eq]
  decide +kernel
theorem lp_l72_37 : lp_L 72 (lgA lp_G3.2.1 (lgR 120 3 (lgR 120 2 (lgL 120 4 (lgR 120 0 (lgA lp_G2.2.1 (lgL 118 3 (lgR 118 2 (lgL 118 4 (lgR 118 0 (lp_S 72))))))))))) = true := by
  rw [← zlp_L_eq, ← zlp_S_eq]
  decide +kernel
theorem lp_l72_38 : lp_L 72 (lgA lp_G3.2.2 (lgR 120 3 (lgR 120 2 (lgL 120 4 (lgR 120 0 (lgA lp_G2.2.1 (lgL 118 3 (lgR 118 2 (lgL 118 4 (lgR 118 0 (lp_S 72))))))))))) = true := by
  rw [← zlp_L_eq, ← zlp_S_eq]
  decide +kernel
theorem lp_l72_39 : lp_L 72 (lgR 120 4 (lgR 120 0 (lgA lp_G2.2.1 (lgL 118 3 (lgR 118 2 (lgL 118 4 (lgR 118 0 (lp_S 72)))))))) = true := by
  rw [← zlp_L_eq, ← zlp_S_eq]
  decide +kernel
theorem lp_l72_40 : lp_L 72 (lgL 120 0 (lgA lp_G2.2.2 (lgL 118 3 (lgR 118 2 (lgL 118 4 (lgR 118 0 (lp_S 72))))))) = true := by
  rw [← zlp_L_eq, ← zlp_S_eq]
  decide +kernel
theorem lp_l72_41 : lp_L 72 (lgL 120 1 (lgL 120 2 (lgL 120 4 (lgR 120 0 (lgA lp_G2.2.2 (lgL 118 3 (lgR 118 2 (lgL 118 4 (lgR 118 0 (lp_S 72)))))))))) = true := by
  rw [← zlp_L_eq, ← zlp_S_eq]
  decide +kernel
theorem lp_l72_42 : lp_L 72 (lgR 120 1 (lgL 120 2 (lgL 120 4 (lgR 120 0 (lgA lp_G2.2.2 (lgL 118 3 (lgR 118 2 (lgL 118 4 (lgR 118 0 (lp_S 72)))))))))) = true := by
  rw [← zlp_L_eq, ← zlp_S_eq]
  decide +kernel
