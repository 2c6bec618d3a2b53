/-! Roads of the law. -/
theorem lp_l72_43 : lp_L 72 (lgL 120 3 (lgR 120 2 (lgL 120 4 (lgR 120 0 (lgA lp_G2.2.2 (lgL 118 3 (lgR 118 2 (lgL 118 4 (lgR 118 0 (lp_S 72)))))))))) = true := by
  rw [← zlp_L_eq, ← zlp_S_eq]
  decide +kernel
theorem lp_l72_44 : lp_L 72 (lgR 120 3 (lgR 120 2 (lgL 120 4 (lgR 120 0 (lgA lp_G2.2.2 (lgL 118 3 (lgR 118 2 (lgL 118 4 (lgR 118 0 (lp_S 72)))))))))) = true := by
  rw [← zlp_L_eq, ← zlp_S_eq]
  decide +kernel
theorem lp_l72_45 : lp_L 72 (lgR 120 4 (lgR 120 0 (lgA lp_G2.2.2 (lgL 118 3 (lgR 118 2 (lgL 118 4 (lgR 118 0 (lp_S 72)))))))) = true := by
  rw [← zlp_L_eq, ← zlp_S_eq]
  decide +kernel
theorem lp_l72_46 : lp_L 72 (lgL 120 0 (lgA lp_G3.2.1 (lgR 118 3 (lgR 118 2 (lgL 118 4 (lgR 118 0 (lp_S 72))))))) = true := by
  rw [← zlp_L_eq, ← zlp_S_eq]
  decide +kernel
theorem lp_l72_47 : lp_L 72 (lgA lp_G0.2.1 (lgL 120 1 (lgL 120 2 (lgL 120 4 (lgR 120 0 (lgA lp_G3.2.1 (lgR 118 3 (lgR 118 2 (lgL 118 4 (lgR 118 0 (lp_S 72))))))))))) = true := by
  rw [← zlp_L_eq, ← zlp_S_eq]
  decide +kernel
theorem lp_l72_48 : lp_L 72 (lgA lp_G0.2.2 (lgL 120 1 (lgL 120 2 (lgL 120 4 (lgR 120 0 (lgA lp_G3.2.1 (lgR 118 3 (lgR 118 2 (lgL 118 4 (lgR 118 0 (lp_S 72))))))))))) = true := by
  rw [← zlp_L_eq, ← zlp_S_eq]
  decide +kernel
theorem lp_l72_49 : lp_L 72 (lgA lp_G1.2.1 (lgR 120 1 (lgL 120 2 (lgL 120 4 (lgR 120 0 (lgA lp_G3.2.1 (lgR 118 3 (lgR 118 2 (lgL 118 4 (lgR 118 0 (lp_S 72))))))))))) = true := by
  rw [← zlp_L_eq, ← zlp_S_eq]
  decide +kernel
theorem lp_l72_50 : lp_L 72 (lgA lp_G1.2.2 (lgR 120 1 (lgL 120 2 (lgL 120 4 (lgR 120 0 (lgA lp_G3.2.1 (lgR 118 3 (lgR 118 2 (lgL 118 4 (lgR 118 0 (lp_S 72))))))))))) = true := by
  rw [← zlp_L_eq, ← zlp_S_eq]
  decide +kernel
theorem lp_l72_51 : lp_L 72 (lgA lp_G2.2.1 (lgL 120 3 (lgR 120 2 (lgL 120 4 (lgR 120 0 (lgA lp_G3.2.1 (lgR 118 3 (lgR 118 2 (lgL 118 4 (lgR 118 0 (lp_S 72))))))))))) = true := by
  rw [← zlp_L_eq, ← zlp_S_eq]
  decide +kernel
theorem lp_l72_52 : lp_L 72 (lgA lp_G2.2.2 (lgL 120 3 (lgR 120 2 (lgL 120 4 (lgR 120 0 (lgA lp_G3.2.1 (lgR 118 3 (lgR 118 2 (lgL 118 4 (lgR 118 0 (lp_S 72))))))))))) = true := by
  rw [← zlp_L_eq, ← zlp_S_eq]
  decide +kernel
theorem lp_l72_53 : lp_L 72 (lgR 120 3 (lgR 120 2 (lgL 120 4 (lgR 120 0 (lgA lp_G3.2.1 (lgR 118 3 (lgR 118 2 (lgL 118 4 (lgR 118 0 (lp_S 72)))))))))) = true := by
  rw [← zlp_L_eq, ← zlp_S_eq]
  decide +kernel
theorem lp_l72_54 : lp_L 72 (lgR 120 4 (lgR 120 0 (lgA lp_G3.2.1 (lgR 118 3 (lgR 118 2 (lgL 118 4 (lgR 118 0 (lp_S 72)))))))) = true := by
  rw [← zlp_L_eq, ← zlp_S_eq]
  decide +kernel
theorem lp_l72_55 : lp_L 72 (lgL 120 0 (lgA lp_G3.2.2 (lgR 118 3 (lgR 118 2 (lgL 118 4 (lgR 118 0 (lp_S 72))))))) = true := by
  rw [← zlp_L_eq, ← zlp_S_eq]
  decide +kernel
