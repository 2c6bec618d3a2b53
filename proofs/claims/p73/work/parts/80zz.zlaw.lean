/-! Quicker copies: roads in parts. -/
section LQ3
variable (T : List (Nat × xCt)) (ht : List (Nat × xHl)) (hl : xHl) (Qs : List xPt) (ki c0 n0 d : Nat) (P : xPt)
noncomputable def zlqOuts (k : Nat) : Option (List xO2) := match zlqSw T ht hl ki c0 n0 d P with
  | some w => (match (znth w.1 (k)) with
    | some r => zlqRun T ht hl ki d P (zlqOb T ht hl ki c0 n0 d P) w.2 r
    | none => none)
  | none => none
theorem zlqOuts_eq : @zlqOuts = @lqOuts := by
  delta zlqOuts lqOuts
  simp only [znth_eq, zlqOb_eq, zlqSw_eq, zlqRun_eq] <;> rfl
noncomputable def zlqPart (k a n : Nat) : Bool := match zlqOuts T ht hl ki c0 n0 d P k with
  | some outs => ((outs.drop a).take n).all (zlwChk Qs c0 n0 (some ([(ki, -1)], 3072)))
  | none => false
theorem zlqPart_eq : @zlqPart = @lqPart := by
  delta zlqPart lqPart
  simp only [zlwChk_eq, zlqOuts_eq] <;> rfl
noncomputable def zlqLast (k a : Nat) : Bool := match zlqOuts T ht hl ki c0 n0 d P k with
  | some outs => Nat.ble (zlen outs) a
  | none => false
theorem zlqLast_eq : @zlqLast = @lqLast := by
  delta zlqLast lqLast
  simp only [zlen_eq, zlqOuts_eq] <;> rfl
end LQ3
