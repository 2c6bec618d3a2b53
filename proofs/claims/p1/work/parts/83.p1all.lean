theorem x_shift {P : Nat → Prop} {a n : Nat} (h : ∀ i, i < n → P (a + i)) {k : Nat} (h1 : a ≤ k) (h2 : k < a + n) : P k := by
  have := h (k - a) (by omega)
  rwa [show a + (k - a) = k by omega] at this
theorem xp_rest (k : Nat) (hk : k < 73) (h70 : ¬ k = 70) : xp_case k (-2147483648) 2147483647 = true := by
  by_cases h0 : 0 ≤ k ∧ k < 3
  · exact x_shift (P := fun k => xp_case k (-2147483648) 2147483647 = true) xp_g0 h0.1 h0.2
  by_cases h3 : 3 ≤ k ∧ k < 4
  · exact x_shift (P := fun k => xp_case k (-2147483648) 2147483647 = true) xp_g3 h3.1 h3.2
  by_cases h4 : 4 ≤ k ∧ k < 16
  · exact x_shift (P := fun k => xp_case k (-2147483648) 2147483647 = true) xp_g4 h4.1 h4.2
  by_cases h16 : 16 ≤ k ∧ k < 28
  · exact x_shift (P := fun k => xp_case k (-2147483648) 2147483647 = true) xp_g16 h16.1 h16.2
  by_cases h28 : 28 ≤ k ∧ k < 40
  · exact x_shift (P := fun k => xp_case k (-2147483648) 2147483647 = true) xp_g28 h28.1 h28.2
  by_cases h40 : 40 ≤ k ∧ k < 52
  · exact x_shift (P := fun k => xp_case k (-2147483648) 2147483647 = true) xp_g40 h40.1 h40.2
  by_cases h52 : 52 ≤ k ∧ k < 60
  · exact x_shift (P := fun k => xp_case k (-2147483648) 2147483647 = true) xp_g52 h52.1 h52.2
  by_cases h60 : 60 ≤ k ∧ k < 68
  · exact x_shift (P := fun k => xp_case k (-2147483648) 2147483647 = true) xp_g60 h60.1 h60.2
  by_cases h68 : 68 ≤ k ∧ k < 69
  · exact x_shift (P := fun k => xp_case k (-2147483648) 2147483647 = true) xp_g68 h68.1 h68.2
  by_cases h69 : 69 ≤ k ∧ k < 70
  · exact x_shift (P := fun k => xp_case k (-2147483648) 2147483647 = true) xp_g69 h69.1 h69.2
  by_cases h71 : 71 ≤ k ∧ k < 73
  · exact x_shift (P := fun k => xp_case k (-2147483648) 2147483647 = true) xp_g71 h71.1 h71.2
  exfalso
  omega
