/-! Roads of the law, pattern 6. -/
theorem lp_k6 : lp_P6.2.1[0]? = some (0, 3072) := by decide +kernel
theorem lp_a6 : lqH1 lp_T xHt lp_hl lp_Q6 0 122 5715 300 lp_P6 = true := by decide +kernel
theorem lp_b6 : lqH2 lp_T xHt lp_hl 0 122 5715 300 lp_P6 73 = true := by decide +kernel
theorem lp_g6_0 : ∀ i, i < 6 → lqCase lp_T xHt lp_hl lp_Q6 0 122 5715 300 lp_P6 (0 + i) = true := by decide +kernel
theorem lp_g6_6 : ∀ i, i < 6 → lqCase lp_T xHt lp_hl lp_Q6 0 122 5715 300 lp_P6 (6 + i) = true := by decide +kernel
theorem lp_g6_12 : ∀ i, i < 6 → lqCase lp_T xHt lp_hl lp_Q6 0 122 5715 300 lp_P6 (12 + i) = true := by decide +kernel
theorem lp_g6_18 : ∀ i, i < 6 → lqCase lp_T xHt lp_hl lp_Q6 0 122 5715 300 lp_P6 (18 + i) = true := by decide +kernel
theorem lp_g6_24 : ∀ i, i < 6 → lqCase lp_T xHt lp_hl lp_Q6 0 122 5715 300 lp_P6 (24 + i) = true := by decide +kernel
theorem lp_g6_30 : ∀ i, i < 6 → lqCase lp_T xHt lp_hl lp_Q6 0 122 5715 300 lp_P6 (30 + i) = true := by decide +kernel
theorem lp_g6_36 : ∀ i, i < 6 → lqCase lp_T xHt lp_hl lp_Q6 0 122 5715 300 lp_P6 (36 + i) = true := by decide +kernel
theorem lp_g6_42 : ∀ i, i < 6 → lqCase lp_T xHt lp_hl lp_Q6 0 122 5715 300 lp_P6 (42 + i) = true := by decide +kernel
theorem lp_g6_48 : ∀ i, i < 6 → lqCase lp_T xHt lp_hl lp_Q6 0 122 5715 300 lp_P6 (48 + i) = true := by decide +kernel
theorem lp_g6_54 : ∀ i, i < 6 → lqCase lp_T xHt lp_hl lp_Q6 0 122 5715 300 lp_P6 (54 + i) = true := by decide +kernel
theorem lp_g6_60 : ∀ i, i < 6 → lqCase lp_T xHt lp_hl lp_Q6 0 122 5715 300 lp_P6 (60 + i) = true := by decide +kernel
theorem lp_g6_66 : ∀ i, i < 6 → lqCase lp_T xHt lp_hl lp_Q6 0 122 5715 300 lp_P6 (66 + i) = true := by decide +kernel
theorem lp_g6_72 : ∀ i, i < 1 → lqCase lp_T xHt lp_hl lp_Q6 0 122 5715 300 lp_P6 (72 + i) = true := by decide +kernel
theorem lp_all6 (k : Nat) (hk : k < 73) : lqCase lp_T xHt lp_hl lp_Q6 0 122 5715 300 lp_P6 k = true := by
  by_cases h0 : 0 ≤ k ∧ k < 0 + 6
  · exact x_shift (P := fun k => lqCase lp_T xHt lp_hl lp_Q6 0 122 5715 300 lp_P6 k = true) lp_g6_0 h0.1 h0.2
  by_cases h6 : 6 ≤ k ∧ k < 6 + 6
  · exact x_shift (P := fun k => lqCase lp_T xHt lp_hl lp_Q6 0 122 5715 300 lp_P6 k = true) lp_g6_6 h6.1 h6.2
  by_cases h12 : 12 ≤ k ∧ k < 12 + 6
  · exact x_shift (P := fun k => lqCase lp_T xHt lp_hl lp_Q6 0 122 5715 300 lp_P6 k = true) lp_g6_12 h12.1 h12.2
  by_cases h18 : 18 ≤ k ∧ k < 18 + 6
  · exact x_shift (P := fun k => lqCase lp_T xHt lp_hl lp_Q6 0 122 5715 300 lp_P6 k = true) lp_g6_18 h18.1 h18.2
  by_cases h24 : 24 ≤ k ∧ k < 24 + 6
  · exact x_shift (P := fun k => lqCase lp_T xHt lp_hl lp_Q6 0 122 5715 300 lp_P6 k = true) lp_g6_24 h24.1 h24.2
  by_cases h30 : 30 ≤ k ∧ k < 30 + 6
  · exact x_shift (P := fun k => lqCase lp_T xHt lp_hl lp_Q6 0 122 5715 300 lp_P6 k = true) lp_g6_30 h30.1 h30.2
  by_cases h36 : 36 ≤ k ∧ k < 36 + 6
  · exact x_shift (P := fun k => lqCase lp_T xHt lp_hl lp_Q6 0 122 5715 300 lp_P6 k = true) lp_g6_36 h36.1 h36.2
  by_cases h42 : 42 ≤ k ∧ k < 42 + 6
  · exact x_shift (P := fun k => lqCase lp_T xHt lp_hl lp_Q6 0 122 5715 300 lp_P6 k = true) lp_g6_42 h42.1 h42.2
  by_cases h48 : 48 ≤ k ∧ k < 48 + 6
  · exact x_shift (P := fun k => lqCase lp_T xHt lp_hl lp_Q6 0 122 5715 300 lp_P6 k = true) lp_g6_48 h48.1 h48.2
  by_cases h54 : 54 ≤ k ∧ k < 54 + 6
  · exact x_shift (P := fun k => lqCase lp_T xHt lp_hl lp_Q6 0 122 5715 300 lp_P6 k = true) lp_g6_54 h54.1 h54.2
  by_cases h60 : 60 ≤ k ∧ k < 60 + 6
  · exact x_shift (P := fun k => lqCase lp_T xHt lp_hl lp_Q6 0 122 5715 300 lp_P6 k = true) lp_g6_60 h60.1 h60.2
  by_cases h66 : 66 ≤ k ∧ k < 66 + 6
  · exact x_shift (P := fun k => lqCase lp_T xHt lp_hl lp_Q6 0 122 5715 300 lp_P6 k = true) lp_g6_66 h66.1 h66.2
  by_cases h72 : 72 ≤ k ∧ k < 72 + 1
  · exact x_shift (P := fun k => lqCase lp_T xHt lp_hl lp_Q6 0 122 5715 300 lp_P6 k = true) lp_g6_72 h72.1 h72.2
  exfalso
  omega
theorem lp_R6 : lwRound lp_T xHt lp_hl lp_Ps 0 122 5715 100000 300 lp_P6 := lq_round (n := 73) (fun q hq => by
  unfold lp_Q6 at hq
  unfold lp_Ps
  simp only [List.mem_cons, List.not_mem_nil, or_false] at hq ⊢
  rcases hq with rfl | rfl <;> simp) lp_k6 lp_a6 lp_b6 lp_all6
