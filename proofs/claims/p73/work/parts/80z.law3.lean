/-! A call of the law with many roads: its roads some at a time. -/
section LQ3
variable (T : List (Nat × xCt)) (ht : List (Nat × xHl)) (hl : xHl) (Qs : List xPt) (ki c0 n0 d : Nat) (P : xPt)
def lqOuts (k : Nat) : Option (List xO2) := match lqSw T ht hl ki c0 n0 d P with
  | some w => (match w.1[k]? with
    | some r => lqRun T ht hl ki d P (lqOb T ht hl ki c0 n0 d P) w.2 r
    | none => none)
  | none => none
def lqPart (k a n : Nat) : Bool := match lqOuts T ht hl ki c0 n0 d P k with
  | some outs => ((outs.drop a).take n).all (lwChk Qs c0 n0 (some ([(ki, -1)], 3072)))
  | none => false
def lqLast (k a : Nat) : Bool := match lqOuts T ht hl ki c0 n0 d P k with
  | some outs => Nat.ble outs.length a
  | none => false
def lqFrom (k a : Nat) : Prop := ∃ outs, lqOuts T ht hl ki c0 n0 d P k = some outs ∧ (outs.drop a).all (lwChk Qs c0 n0 (some ([(ki, -1)], 3072))) = true
end LQ3
theorem lqZ {T : List (Nat × xCt)} {ht : List (Nat × xHl)} {hl : xHl} {Qs : List xPt} {ki c0 n0 d : Nat} {P : xPt} {k a : Nat} (h : lqLast T ht hl ki c0 n0 d P k a = true) : lqFrom T ht hl Qs ki c0 n0 d P k a := by
  unfold lqLast at h
  split at h
  · rename_i outs ho
    refine ⟨outs, ho, ?_⟩
    rw [List.drop_of_length_le (Nat.le_of_ble_eq_true h)]
    rfl
  · cases h
theorem lqS {T : List (Nat × xCt)} {ht : List (Nat × xHl)} {hl : xHl} {Qs : List xPt} {ki c0 n0 d : Nat} {P : xPt} {k a n : Nat} (h1 : lqPart T ht hl Qs ki c0 n0 d P k a n = true) (h2 : lqFrom T ht hl Qs ki c0 n0 d P k (a + n)) : lqFrom T ht hl Qs ki c0 n0 d P k a := by
  obtain ⟨outs, ho, h2⟩ := h2
  unfold lqPart at h1
  rw [ho] at h1
  exact ⟨outs, ho, xAllS a n h1 h2⟩
theorem lqE {T : List (Nat × xCt)} {ht : List (Nat × xHl)} {hl : xHl} {Qs : List xPt} {ki c0 n0 d : Nat} {P : xPt} {k : Nat} (h : lqFrom T ht hl Qs ki c0 n0 d P k 0) : lqCase T ht hl Qs ki c0 n0 d P k = true := by
  obtain ⟨outs, ho, h⟩ := h
  rw [List.drop_zero] at h
  unfold lqOuts at ho
  unfold lqCase
  split at ho
  · rename_i w hw
    rw [hw]
    dsimp only
    split at ho
    · rename_i r hr
      rw [hr]
      dsimp only
      unfold lqEnd
      rw [ho]
      exact h
    · cases ho
  · cases ho
