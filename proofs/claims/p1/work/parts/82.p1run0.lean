theorem xp_h0 : (match xp_one xp_r0 with
  | some q => Nat.beq q.1.1 18
  | none => false) = true := by decide +kernel
theorem xp_h1 : ∀ n, n < 6 → xp_end ((none, 0) :: xp_is.take n) (xp_short n) = true := by decide +kernel
theorem xp_h2 : (match xp_one xp_r1 with
  | some q => Nat.beq q.1.1 33 && Nat.ble 80 q.1.2.2.1
  | none => false) = true := by decide +kernel
theorem xp_h3 : xp_L.length = 73 := by decide +kernel
