/-! Lists, piece by piece; the hints' rows. -/
theorem xAllS {α : Type} {f : α → Bool} {l : List α} (a n : Nat) (h1 : ((l.drop a).take n).all f = true) (h2 : (l.drop (a + n)).all f = true) : (l.drop a).all f = true := by
  rw [← List.take_append_drop n (l.drop a), List.all_append, h1, List.drop_drop, h2]
  rfl
theorem xAllZ {α : Type} {f : α → Bool} {l : List α} {a : Nat} (h : Nat.ble l.length a = true) : (l.drop a).all f = true := by
  rw [List.drop_of_length_le (Nat.le_of_ble_eq_true h)]
  rfl
theorem xAll0 {α : Type} {f : α → Bool} {l : List α} (h : (l.drop 0).all f = true) : ∀ x ∈ l, f x = true := List.all_eq_true.mp (by simpa using h)
