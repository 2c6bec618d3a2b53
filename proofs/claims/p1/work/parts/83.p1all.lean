theorem x_shift {P : Nat → Prop} {a n : Nat} (h : ∀ i, i < n → P (a + i)) {k : Nat} (h1 : a ≤ k) (h2 : k < a + n) : P k := by
  have := h (k - a) (by omega)
  rwa [show a + (k - a) = k by omega] at this
theorem xp_rest (k : Nat) (hk : k < 73) (h70 : ¬ k = 70) : xp_case k (-2147483648) 2147483647 = true := by
  by_cases h0 : 0 ≤ k ∧ k < 3
  · exact x_shift (P := fun k => xp_case k (-2147483648) 2147483647 = true) xp_g0 h0.1 h0.2
  by_cases h3 : 3 ≤ k ∧ k < 4
  · exact x_shift (P := fun k => xp_case k (-2147483648) 2147483647 = true) xp_g3 h3.1 h3.2
  by_cases h4 : 4 ≤ k ∧ k < 16
  · exact x_shift (P := fun k => xp_case k (-2147483648) 2147483647 = true) xp_g4 h4.1 h4.2
  by_cases h16 : 16 ≤ k ∧ k < 28
  · exact x_shift (P := fun k => xp_case k (-2147483648) 2147483647 = true) xp_g16 h16.1 h16.2
  by_cases h28 : 28 ≤ k ∧ k < 40
  · exact x_shift (P := fun k => xp_case k (-2147483648) 2147483647 = true) xp_g28 h28.1 h28.2
  by_cases h40 : 40 ≤ k ∧ k < 52
  · exact x_shift (P := fun k => xp_case k (-2147483648) 2147483647 = true) xp_g40 h40.1 h40.2
  by_cases h52 : 52 ≤ k ∧ k < 60
  · exact x_shift (P := fun k => xp_case k (-2147483648) 2147483647 = true) xp_g52 h52.1 h52.2
  by_cases h60 : 60 ≤ k ∧ k < 68
  · exact x_shift (P := fun k => xp_case k (-2147483648) 2147483647 = true) xp_g60 h60.1 h60.2
  by_cases h68 : 68 ≤ k ∧ k < 69
  · exact x_shift (P := fun k => xp_case k (-2147483648) 2147483647 = true) xp_g68 h68.1 h68.2
  by_cases h69 : 69 ≤ k ∧ k < 70
  · exact x_shift (P := fun k => xp_case k (-2147483648) 2147483647 = true) xp_g69 h69.1 h69.2
  by_cases h71 : 71 ≤ k ∧ k < 73
  · exact x_shift (P := fun k => xp_case k (-2147483648) 2147483647 = true) xp_g71 h71.1 h71.2
  exfalso
  omega
theorem xp_row (k : Nat) (hk : k ≤ 60) : xp_case 70 (Int.ofNat k) (Int.ofNat k) = true := by
  by_cases h0 : 0 ≤ k ∧ k < 6
  · exact x_shift (P := fun k => xp_case 70 (Int.ofNat k) (Int.ofNat k) = true) xp_w0 h0.1 h0.2
  by_cases h6 : 6 ≤ k ∧ k < 12
  · exact x_shift (P := fun k => xp_case 70 (Int.ofNat k) (Int.ofNat k) = true) xp_w6 h6.1 h6.2
  by_cases h12 : 12 ≤ k ∧ k < 18
  · exact x_shift (P := fun k => xp_case 70 (Int.ofNat k) (Int.ofNat k) = true) xp_w12 h12.1 h12.2
  by_cases h18 : 18 ≤ k ∧ k < 24
  · exact x_shift (P := fun k => xp_case 70 (Int.ofNat k) (Int.ofNat k) = true) xp_w18 h18.1 h18.2
  by_cases h24 : 24 ≤ k ∧ k < 30
  · exact x_shift (P := fun k => xp_case 70 (Int.ofNat k) (Int.ofNat k) = true) xp_w24 h24.1 h24.2
  by_cases h30 : 30 ≤ k ∧ k < 36
  · exact x_shift (P := fun k => xp_case 70 (Int.ofNat k) (Int.ofNat k) = true) xp_w30 h30.1 h30.2
  by_cases h36 : 36 ≤ k ∧ k < 42
  · exact x_shift (P := fun k => xp_case 70 (Int.ofNat k) (Int.ofNat k) = true) xp_w36 h36.1 h36.2
  by_cases h42 : 42 ≤ k ∧ k < 48
  · exact x_shift (P := fun k => xp_case 70 (Int.ofNat k) (Int.ofNat k) = true) xp_w42 h42.1 h42.2
  by_cases h48 : 48 ≤ k ∧ k < 54
  · exact x_shift (P := fun k => xp_case 70 (Int.ofNat k) (Int.ofNat k) = true) xp_w48 h48.1 h48.2
  by_cases h54 : 54 ≤ k ∧ k < 60
  · exact x_shift (P := fun k => xp_case 70 (Int.ofNat k) (Int.ofNat k) = true) xp_w54 h54.1 h54.2
  by_cases h60 : 60 ≤ k ∧ k < 61
  · exact x_shift (P := fun k => xp_case 70 (Int.ofNat k) (Int.ofNat k) = true) xp_w60 h60.1 h60.2
  exfalso
  omega
