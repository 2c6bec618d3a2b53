/-! The law makes both objects; it comes to its switch. -/
theorem lp_h0 : lp_e0 lp_r0 = true := by
  rw [← zlp_r0_eq, ← zlp_e0_eq]
  decide +kernel
theorem lp_k0 : lp_P0.2.1[0]? = some (0, 3072) := by decide +kernel
theorem lp_n0 : lp_gs.all lgSane = true := by decide +kernel
theorem lp_a0 : lgH1 lp_T xHt lp_hl lp_P0 lp_gs 0 122 5715 300 = true := by
  rw [← zlgH1_eq]
  decide +kernel
theorem lp_b0 : lqH2 lp_T xHt lp_hl 0 122 5715 300 lp_P0 73 = true := by
  rw [← zlqH2_eq]
  decide +kernel
