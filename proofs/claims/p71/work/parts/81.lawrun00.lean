/-! The law makes both objects. -/
theorem lp_h0 : lp_e0 lp_r0 = true := by decide +kernel
