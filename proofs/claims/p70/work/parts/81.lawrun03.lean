/-! Roads of the law, pattern 2. -/
theorem lp_k2 : lp_P2.2.1[0]? = some (0, 3072) := by decide +kernel
theorem lp_a2 : lqH1 lp_T xHt lp_hl lp_Q2 0 122 5715 300 lp_P2 = true := by decide +kernel
theorem lp_b2 : lqH2 lp_T xHt lp_hl 0 122 5715 300 lp_P2 73 = true := by decide +kernel
theorem lp_g2_0 : ∀ i, i < 6 → lqCase lp_T xHt lp_hl lp_Q2 0 122 5715 300 lp_P2 (0 + i) = true := by decide +kernel
theorem lp_g2_6 : ∀ i, i < 6 → lqCase lp_T xHt lp_hl lp_Q2 0 122 5715 300 lp_P2 (6 + i) = true := by decide +kernel
theorem lp_g2_12 : ∀ i, i < 6 → lqCase lp_T xHt lp_hl lp_Q2 0 122 5715 300 lp_P2 (12 + i) = true := by decide +kernel
theorem lp_g2_18 : ∀ i, i < 6 → lqCase lp_T xHt lp_hl lp_Q2 0 122 5715 300 lp_P2 (18 + i) = true := by decide +kernel
theorem lp_g2_24 : ∀ i, i < 6 → lqCase lp_T xHt lp_hl lp_Q2 0 122 5715 300 lp_P2 (24 + i) = true := by decide +kernel
theorem lp_g2_30 : ∀ i, i < 6 → lqCase lp_T xHt lp_hl lp_Q2 0 122 5715 300 lp_P2 (30 + i) = true := by decide +kernel
theorem lp_g2_36 : ∀ i, i < 6 → lqCase lp_T xHt lp_hl lp_Q2 0 122 5715 300 lp_P2 (36 + i) = true := by decide +kernel
theorem lp_g2_42 : ∀ i, i < 6 → lqCase lp_T xHt lp_hl lp_Q2 0 122 5715 300 lp_P2 (42 + i) = true := by decide +kernel
theorem lp_g2_48 : ∀ i, i < 6 → lqCase lp_T xHt lp_hl lp_Q2 0 122 5715 300 lp_P2 (48 + i) = true := by decide +kernel
theorem lp_g2_54 : ∀ i, i < 6 → lqCase lp_T xHt lp_hl lp_Q2 0 122 5715 300 lp_P2 (54 + i) = true := by decide +kernel
theorem lp_g2_60 : ∀ i, i < 6 → lqCase lp_T xHt lp_hl lp_Q2 0 122 5715 300 lp_P2 (60 + i) = true := by decide +kernel
theorem lp_g2_66 : ∀ i, i < 6 → lqCase lp_T xHt lp_hl lp_Q2 0 122 5715 300 lp_P2 (66 + i) = true := by decide +kernel
theorem lp_g2_72 : ∀ i, i < 1 → lqCase lp_T xHt lp_hl lp_Q2 0 122 5715 300 lp_P2 (72 + i) = true := by decide +kernel
theorem lp_all2 (k : Nat) (hk : k < 73) : lqCase lp_T xHt lp_hl lp_Q2 0 122 5715 300 lp_P2 k = true := by
  by_cases h0 : 0 ≤ k ∧ k < 0 + 6
  · exact x_shift (P := fun k => lqCase lp_T xHt lp_hl lp_Q2 0 122 5715 300 lp_P2 k = true) lp_g2_0 h0.1 h0.2
  by_cases h6 : 6 ≤ k ∧ k < 6 + 6
  · exact x_shift (P := fun k => lqCase lp_T xHt lp_hl lp_Q2 0 122 5715 300 lp_P2 k = true) lp_g2_6 h6.1 h6.2
  by_cases h12 : 12 ≤ k ∧ k < 12 + 6
  · exact x_shift (P := fun k => lqCase lp_T xHt lp_hl lp_Q2 0 122 5715 300 lp_P2 k = true) lp_g2_12 h12.1 h12.2
  by_cases h18 : 18 ≤ k ∧ k < 18 + 6
  · exact x_shift (P := fun k => lqCase lp_T xHt lp_hl lp_Q2 0 122 5715 300 lp_P2 k = true) lp_g2_18 h18.1 h18.2
  by_cases h24 : 24 ≤ k ∧ k < 24 + 6
  · exact x_shift (P := fun k => lqCase lp_T xHt lp_hl lp_Q2 0 122 5715 300 lp_P2 k = true) lp_g2_24 h24.1 h24.2
  by_cases h30 : 30 ≤ k ∧ k < 30 + 6
  · exact x_shift (P := fun k => lqCase lp_T xHt lp_hl lp_Q2 0 122 5715 300 lp_P2 k = true) lp_g2_30 h30.1 h30.2
  by_cases h36 : 36 ≤ k ∧ k < 36 + 6
  · exact x_shift (P := fun k => lqCase lp_T xHt lp_hl lp_Q2 0 122 5715 300 lp_P2 k = true) lp_g2_36 h36.1 h36.2
  by_cases h42 : 42 ≤ k ∧ k < 42 + 6
  · exact x_shift (P := fun k => lqCase lp_T xHt lp_hl lp_Q2 0 122 5715 300 lp_P2 k = true) lp_g2_42 h42.1 h42.2
  by_cases h48 : 48 ≤ k ∧ k < 48 + 6
  · exact x_shift (P := fun k => lqCase lp_T xHt lp_hl lp_Q2 0 122 5715 300 lp_P2 k = true) lp_g2_48 h48.1 h48.2
  by_cases h54 : 54 ≤ k ∧ k < 54 + 6
  · exact x_shift (P := fun k => lqCase lp_T xHt lp_hl lp_Q2 0 122 5715 300 lp_P2 k = true) lp_g2_54 h54.1 h54.2
  by_cases h60 : 60 ≤ k ∧ k < 60 + 6
  · exact x_shift (P := fun k => lqCase lp_T xHt lp_hl lp_Q2 0 122 5715 300 lp_P2 k = true) lp_g2_60 h60.1 h60.2
  by_cases h66 : 66 ≤ k ∧ k < 66 + 6
  · exact x_shift (P := fun k => lqCase lp_T xHt lp_hl lp_Q2 0 122 5715 300 lp_P2 k = true) lp_g2_66 h66.1 h66.2
  by_cases h72 : 72 ≤ k ∧ k < 72 + 1
  · exact x_shift (P := fun k => lqCase lp_T xHt lp_hl lp_Q2 0 122 5715 300 lp_P2 k = true) lp_g2_72 h72.1 h72.2
  exfalso
  omega
theorem lp_R2 : lwRound lp_T xHt lp_hl lp_Ps 0 122 5715 100000 300 lp_P2 := lq_round (n := 73) (fun q hq => by
  unfold lp_Q2 at hq
  unfold lp_Ps
  simp only [List.mem_cons, List.not_mem_nil, or_false] at hq ⊢
  rcases hq with rfl | rfl | rfl <;> simp) lp_k2 lp_a2 lp_b2 lp_all2
