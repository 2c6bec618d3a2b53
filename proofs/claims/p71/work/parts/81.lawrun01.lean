/-! Roads of the law, pattern 0. -/
theorem lp_k0 : lp_P0.2.1[0]? = some (0, 3072) := by decide +kernel
theorem lp_a0 : lqH1 lp_T xHt lp_hl lp_Q0 0 122 5715 300 lp_P0 = true := by decide +kernel
theorem lp_b0 : lqH2 lp_T xHt lp_hl 0 122 5715 300 lp_P0 73 = true := by decide +kernel
theorem lp_g0_0 : ∀ i, i < 4 → lqCase lp_T xHt lp_hl lp_Q0 0 122 5715 300 lp_P0 (0 + i) = true := by decide +kernel
theorem lp_g0_4 : ∀ i, i < 4 → lqCase lp_T xHt lp_hl lp_Q0 0 122 5715 300 lp_P0 (4 + i) = true := by decide +kernel
theorem lp_g0_8 : ∀ i, i < 4 → lqCase lp_T xHt lp_hl lp_Q0 0 122 5715 300 lp_P0 (8 + i) = true := by decide +kernel
theorem lp_g0_12 : ∀ i, i < 4 → lqCase lp_T xHt lp_hl lp_Q0 0 122 5715 300 lp_P0 (12 + i) = true := by decide +kernel
theorem lp_g0_16 : ∀ i, i < 4 → lqCase lp_T xHt lp_hl lp_Q0 0 122 5715 300 lp_P0 (16 + i) = true := by decide +kernel
theorem lp_g0_20 : ∀ i, i < 4 → lqCase lp_T xHt lp_hl lp_Q0 0 122 5715 300 lp_P0 (20 + i) = true := by decide +kernel
theorem lp_g0_24 : ∀ i, i < 4 → lqCase lp_T xHt lp_hl lp_Q0 0 122 5715 300 lp_P0 (24 + i) = true := by decide +kernel
theorem lp_g0_28 : ∀ i, i < 4 → lqCase lp_T xHt lp_hl lp_Q0 0 122 5715 300 lp_P0 (28 + i) = true := by decide +kernel
theorem lp_g0_32 : ∀ i, i < 4 → lqCase lp_T xHt lp_hl lp_Q0 0 122 5715 300 lp_P0 (32 + i) = true := by decide +kernel
theorem lp_g0_36 : ∀ i, i < 4 → lqCase lp_T xHt lp_hl lp_Q0 0 122 5715 300 lp_P0 (36 + i) = true := by decide +kernel
theorem lp_g0_40 : ∀ i, i < 4 → lqCase lp_T xHt lp_hl lp_Q0 0 122 5715 300 lp_P0 (40 + i) = true := by decide +kernel
theorem lp_g0_44 : ∀ i, i < 4 → lqCase lp_T xHt lp_hl lp_Q0 0 122 5715 300 lp_P0 (44 + i) = true := by decide +kernel
theorem lp_g0_48 : ∀ i, i < 4 → lqCase lp_T xHt lp_hl lp_Q0 0 122 5715 300 lp_P0 (48 + i) = true := by decide +kernel
theorem lp_g0_52 : ∀ i, i < 4 → lqCase lp_T xHt lp_hl lp_Q0 0 122 5715 300 lp_P0 (52 + i) = true := by decide +kernel
theorem lp_g0_56 : ∀ i, i < 4 → lqCase lp_T xHt lp_hl lp_Q0 0 122 5715 300 lp_P0 (56 + i) = true := by decide +kernel
theorem lp_g0_60 : ∀ i, i < 4 → lqCase lp_T xHt lp_hl lp_Q0 0 122 5715 300 lp_P0 (60 + i) = true := by decide +kernel
theorem lp_g0_64 : ∀ i, i < 2 → lqCase lp_T xHt lp_hl lp_Q0 0 122 5715 300 lp_P0 (64 + i) = true := by decide +kernel
theorem lp_g0_66 : ∀ i, i < 1 → lqCase lp_T xHt lp_hl lp_Q0 0 122 5715 300 lp_P0 (66 + i) = true := by decide +kernel
theorem lp_g0_67 : ∀ i, i < 1 → lqCase lp_T xHt lp_hl lp_Q0 0 122 5715 300 lp_P0 (67 + i) = true := by decide +kernel
theorem lp_g0_68 : ∀ i, i < 1 → lqCase lp_T xHt lp_hl lp_Q0 0 122 5715 300 lp_P0 (68 + i) = true := by decide +kernel
theorem lp_g0_69 : ∀ i, i < 1 → lqCase lp_T xHt lp_hl lp_Q0 0 122 5715 300 lp_P0 (69 + i) = true := by decide +kernel
theorem lp_p0_70_0 : lqPart lp_T xHt lp_hl lp_Q0 0 122 5715 300 lp_P0 70 0 12 = true := by decide +kernel
theorem lp_p0_70_12 : lqPart lp_T xHt lp_hl lp_Q0 0 122 5715 300 lp_P0 70 12 12 = true := by decide +kernel
theorem lp_z0_70 : lqLast lp_T xHt lp_hl 0 122 5715 300 lp_P0 70 24 = true := by decide +kernel
theorem lp_g0_70 : ∀ i, i < 1 → lqCase lp_T xHt lp_hl lp_Q0 0 122 5715 300 lp_P0 (70 + i) = true := fun i hi => by
  have e : i = 0 := by omega
  subst e
  exact lqE (lqS lp_p0_70_0 (lqS lp_p0_70_12 (lqZ lp_z0_70)))
theorem lp_g0_71 : ∀ i, i < 1 → lqCase lp_T xHt lp_hl lp_Q0 0 122 5715 300 lp_P0 (71 + i) = true := by decide +kernel
theorem lp_g0_72 : ∀ i, i < 1 → lqCase lp_T xHt lp_hl lp_Q0 0 122 5715 300 lp_P0 (72 + i) = true := by decide +kernel
theorem lp_all0 (k : Nat) (hk : k < 73) : lqCase lp_T xHt lp_hl lp_Q0 0 122 5715 300 lp_P0 k = true := by
  by_cases h0 : 0 ≤ k ∧ k < 0 + 4
  · exact x_shift (P := fun k => lqCase lp_T xHt lp_hl lp_Q0 0 122 5715 300 lp_P0 k = true) lp_g0_0 h0.1 h0.2
  by_cases h4 : 4 ≤ k ∧ k < 4 + 4
  · exact x_shift (P := fun k => lqCase lp_T xHt lp_hl lp_Q0 0 122 5715 300 lp_P0 k = true) lp_g0_4 h4.1 h4.2
  by_cases h8 : 8 ≤ k ∧ k < 8 + 4
  · exact x_shift (P := fun k => lqCase lp_T xHt lp_hl lp_Q0 0 122 5715 300 lp_P0 k = true) lp_g0_8 h8.1 h8.2
  by_cases h12 : 12 ≤ k ∧ k < 12 + 4
  · exact x_shift (P := fun k => lqCase lp_T xHt lp_hl lp_Q0 0 122 5715 300 lp_P0 k = true) lp_g0_12 h12.1 h12.2
  by_cases h16 : 16 ≤ k ∧ k < 16 + 4
  · exact x_shift (P := fun k => lqCase lp_T xHt lp_hl lp_Q0 0 122 5715 300 lp_P0 k = true) lp_g0_16 h16.1 h16.2
  by_cases h20 : 20 ≤ k ∧ k < 20 + 4
  · exact x_shift (P := fun k => lqCase lp_T xHt lp_hl lp_Q0 0 122 5715 300 lp_P0 k = true) lp_g0_20 h20.1 h20.2
  by_cases h24 : 24 ≤ k ∧ k < 24 + 4
  · exact x_shift (P := fun k => lqCase lp_T xHt lp_hl lp_Q0 0 122 5715 300 lp_P0 k = true) lp_g0_24 h24.1 h24.2
  by_cases h28 : 28 ≤ k ∧ k < 28 + 4
  · exact x_shift (P := fun k => lqCase lp_T xHt lp_hl lp_Q0 0 122 5715 300 lp_P0 k = true) lp_g0_28 h28.1 h28.2
  by_cases h32 : 32 ≤ k ∧ k < 32 + 4
  · exact x_shift (P := fun k => lqCase lp_T xHt lp_hl lp_Q0 0 122 5715 300 lp_P0 k = true) lp_g0_32 h32.1 h32.2
  by_cases h36 : 36 ≤ k ∧ k < 36 + 4
  · exact x_shift (P := fun k => lqCase lp_T xHt lp_hl lp_Q0 0 122 5715 300 lp_P0 k = true) lp_g0_36 h36.1 h36.2
  by_cases h40 : 40 ≤ k ∧ k < 40 + 4
  · exact x_shift (P := fun k => lqCase lp_T xHt lp_hl lp_Q0 0 122 5715 300 lp_P0 k = true) lp_g0_40 h40.1 h40.2
  by_cases h44 : 44 ≤ k ∧ k < 44 + 4
  · exact x_shift (P := fun k => lqCase lp_T xHt lp_hl lp_Q0 0 122 5715 300 lp_P0 k = true) lp_g0_44 h44.1 h44.2
  by_cases h48 : 48 ≤ k ∧ k < 48 + 4
  · exact x_shift (P := fun k => lqCase lp_T xHt lp_hl lp_Q0 0 122 5715 300 lp_P0 k = true) lp_g0_48 h48.1 h48.2
  by_cases h52 : 52 ≤ k ∧ k < 52 + 4
  · exact x_shift (P := fun k => lqCase lp_T xHt lp_hl lp_Q0 0 122 5715 300 lp_P0 k = true) lp_g0_52 h52.1 h52.2
  by_cases h56 : 56 ≤ k ∧ k < 56 + 4
  · exact x_shift (P := fun k => lqCase lp_T xHt lp_hl lp_Q0 0 122 5715 300 lp_P0 k = true) lp_g0_56 h56.1 h56.2
  by_cases h60 : 60 ≤ k ∧ k < 60 + 4
  · exact x_shift (P := fun k => lqCase lp_T xHt lp_hl lp_Q0 0 122 5715 300 lp_P0 k = true) lp_g0_60 h60.1 h60.2
  by_cases h64 : 64 ≤ k ∧ k < 64 + 2
  · exact x_shift (P := fun k => lqCase lp_T xHt lp_hl lp_Q0 0 122 5715 300 lp_P0 k = true) lp_g0_64 h64.1 h64.2
  by_cases h66 : 66 ≤ k ∧ k < 66 + 1
  · exact x_shift (P := fun k => lqCase lp_T xHt lp_hl lp_Q0 0 122 5715 300 lp_P0 k = true) lp_g0_66 h66.1 h66.2
  by_cases h67 : 67 ≤ k ∧ k < 67 + 1
  · exact x_shift (P := fun k => lqCase lp_T xHt lp_hl lp_Q0 0 122 5715 300 lp_P0 k = true) lp_g0_67 h67.1 h67.2
  by_cases h68 : 68 ≤ k ∧ k < 68 + 1
  · exact x_shift (P := fun k => lqCase lp_T xHt lp_hl lp_Q0 0 122 5715 300 lp_P0 k = true) lp_g0_68 h68.1 h68.2
  by_cases h69 : 69 ≤ k ∧ k < 69 + 1
  · exact x_shift (P := fun k => lqCase lp_T xHt lp_hl lp_Q0 0 122 5715 300 lp_P0 k = true) lp_g0_69 h69.1 h69.2
  by_cases h70 : 70 ≤ k ∧ k < 70 + 1
  · exact x_shift (P := fun k => lqCase lp_T xHt lp_hl lp_Q0 0 122 5715 300 lp_P0 k = true) lp_g0_70 h70.1 h70.2
  by_cases h71 : 71 ≤ k ∧ k < 71 + 1
  · exact x_shift (P := fun k => lqCase lp_T xHt lp_hl lp_Q0 0 122 5715 300 lp_P0 k = true) lp_g0_71 h71.1 h71.2
  by_cases h72 : 72 ≤ k ∧ k < 72 + 1
  · exact x_shift (P := fun k => lqCase lp_T xHt lp_hl lp_Q0 0 122 5715 300 lp_P0 k = true) lp_g0_72 h72.1 h72.2
  exfalso
  omega
theorem lp_R0 : lwRound lp_T xHt lp_hl lp_Ps 0 122 5715 100000 300 lp_P0 := lq_round (n := 73) (fun q hq => by
  unfold lp_Q0 at hq
  unfold lp_Ps
  simp only [List.mem_cons, List.not_mem_nil, or_false] at hq ⊢
  rcases hq with rfl <;> simp) lp_k0 lp_a0 lp_b0 lp_all0
