/-! Roads of the law, pattern 0. -/
theorem lp_k0 : lp_P0.2.1[0]? = some (0, 3072) := by decide +kernel
theorem lp_a0 : lqH1 lp_T xHt lp_hl lp_Q0 0 122 5715 300 lp_P0 = true := by decide +kernel
theorem lp_b0 : lqH2 lp_T xHt lp_hl 0 122 5715 300 lp_P0 73 = true := by decide +kernel
theorem lp_g0_0 : ∀ i, i < 6 → lqCase lp_T xHt lp_hl lp_Q0 0 122 5715 300 lp_P0 (0 + i) = true := by decide +kernel
theorem lp_g0_6 : ∀ i, i < 6 → lqCase lp_T xHt lp_hl lp_Q0 0 122 5715 300 lp_P0 (6 + i) = true := by decide +kernel
theorem lp_g0_12 : ∀ i, i < 6 → lqCase lp_T xHt lp_hl lp_Q0 0 122 5715 300 lp_P0 (12 + i) = true := by decide +kernel
theorem lp_g0_18 : ∀ i, i < 6 → lqCase lp_T xHt lp_hl lp_Q0 0 122 5715 300 lp_P0 (18 + i) = true := by decide +kernel
theorem lp_g0_24 : ∀ i, i < 6 → lqCase lp_T xHt lp_hl lp_Q0 0 122 5715 300 lp_P0 (24 + i) = true := by decide +kernel
theorem lp_g0_30 : ∀ i, i < 6 → lqCase lp_T xHt lp_hl lp_Q0 0 122 5715 300 lp_P0 (30 + i) = true := by decide +kernel
theorem lp_g0_36 : ∀ i, i < 6 → lqCase lp_T xHt lp_hl lp_Q0 0 122 5715 300 lp_P0 (36 + i) = true := by decide +kernel
theorem lp_g0_42 : ∀ i, i < 6 → lqCase lp_T xHt lp_hl lp_Q0 0 122 5715 300 lp_P0 (42 + i) = true := by decide +kernel
theorem lp_g0_48 : ∀ i, i < 6 → lqCase lp_T xHt lp_hl lp_Q0 0 122 5715 300 lp_P0 (48 + i) = true := by decide +kernel
theorem lp_g0_54 : ∀ i, i < 6 → lqCase lp_T xHt lp_hl lp_Q0 0 122 5715 300 lp_P0 (54 + i) = true := by decide +kernel
theorem lp_g0_60 : ∀ i, i < 6 → lqCase lp_T xHt lp_hl lp_Q0 0 122 5715 300 lp_P0 (60 + i) = true := by decide +kernel
theorem lp_g0_66 : ∀ i, i < 6 → lqCase lp_T xHt lp_hl lp_Q0 0 122 5715 300 lp_P0 (66 + i) = true := by decide +kernel
theorem lp_g0_72 : ∀ i, i < 1 → lqCase lp_T xHt lp_hl lp_Q0 0 122 5715 300 lp_P0 (72 + i) = true := by decide +kernel
theorem lp_all0 (k : Nat) (hk : k < 73) : lqCase lp_T xHt lp_hl lp_Q0 0 122 5715 300 lp_P0 k = true := by
  by_cases h0 : 0 ≤ k ∧ k < 0 + 6
  · exact x_shift (P := fun k => lqCase lp_T xHt lp_hl lp_Q0 0 122 5715 300 lp_P0 k = true) lp_g0_0 h0.1 h0.2
  by_cases h6 : 6 ≤ k ∧ k < 6 + 6
  · exact x_shift (P := fun k => lqCase lp_T xHt lp_hl lp_Q0 0 122 5715 300 lp_P0 k = true) lp_g0_6 h6.1 h6.2
  by_cases h12 : 12 ≤ k ∧ k < 12 + 6
  · exact x_shift (P := fun k => lqCase lp_T xHt lp_hl lp_Q0 0 122 5715 300 lp_P0 k = true) lp_g0_12 h12.1 h12.2
  by_cases h18 : 18 ≤ k ∧ k < 18 + 6
  · exact x_shift (P := fun k => lqCase lp_T xHt lp_hl lp_Q0 0 122 5715 300 lp_P0 k = true) lp_g0_18 h18.1 h18.2
  by_cases h24 : 24 ≤ k ∧ k < 24 + 6
  · exact x_shift (P := fun k => lqCase lp_T xHt lp_hl lp_Q0 0 122 5715 300 lp_P0 k = true) lp_g0_24 h24.1 h24.2
  by_cases h30 : 30 ≤ k ∧ k < 30 + 6
  · exact x_shift (P := fun k => lqCase lp_T xHt lp_hl lp_Q0 0 122 5715 300 lp_P0 k = true) lp_g0_30 h30.1 h30.2
  by_cases h36 : 36 ≤ k ∧ k < 36 + 6
  · exact x_shift (P := fun k => lqCase lp_T xHt lp_hl lp_Q0 0 122 5715 300 lp_P0 k = true) lp_g0_36 h36.1 h36.2
  by_cases h42 : 42 ≤ k ∧ k < 42 + 6
  · exact x_shift (P := fun k => lqCase lp_T xHt lp_hl lp_Q0 0 122 5715 300 lp_P0 k = true) lp_g0_42 h42.1 h42.2
  by_cases h48 : 48 ≤ k ∧ k < 48 + 6
  · exact x_shift (P := fun k => lqCase lp_T xHt lp_hl lp_Q0 0 122 5715 300 lp_P0 k = true) lp_g0_48 h48.1 h48.2
  by_cases h54 : 54 ≤ k ∧ k < 54 + 6
  · exact x_shift (P := fun k => lqCase lp_T xHt lp_hl lp_Q0 0 122 5715 300 lp_P0 k = true) lp_g0_54 h54.1 h54.2
  by_cases h60 : 60 ≤ k ∧ k < 60 + 6
  · exact x_shift (P := fun k => lqCase lp_T xHt lp_hl lp_Q0 0 122 5715 300 lp_P0 k = true) lp_g0_60 h60.1 h60.2
  by_cases h66 : 66 ≤ k ∧ k < 66 + 6
  · exact x_shift (P := fun k => lqCase lp_T xHt lp_hl lp_Q0 0 122 5715 300 lp_P0 k = true) lp_g0_66 h66.1 h66.2
  by_cases h72 : 72 ≤ k ∧ k < 72 + 1
  · exact x_shift (P := fun k => lqCase lp_T xHt lp_hl lp_Q0 0 122 5715 300 lp_P0 k = true) lp_g0_72 h72.1 h72.2
  exfalso
  omega
theorem lp_R0 : lwRound lp_T xHt lp_hl lp_Ps 0 122 5715 100000 300 lp_P0 := lq_round (n := 73) (fun q hq => by
  unfold lp_Q0 at hq
  unfold lp_Ps
  simp only [List.mem_cons, List.not_mem_nil, or_false] at hq ⊢
  rcases hq with rfl | rfl | rfl | rfl <;> simp) lp_k0 lp_a0 lp_b0 lp_all0
