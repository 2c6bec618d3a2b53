/-! From the law's entry to its end. -/
theorem lp_s0 : ∃ outs0, xRun2 xMt xTb lp_T xHt 20 100000 0 300 none [18] xm_law2 lp_hl 0 (xSeek xm_law2.pg 0) [] [] [] [(0, .inr (.inr (.inr 0)))] [] 0 0 = some outs0 ∧ ∀ o ∈ outs0, lgChk lp_P0 lp_gs false 122 5715 none o = true := by
  have h := lp_h0
  unfold lp_e0 at h
  split at h
  · rename_i outs hq
    exact ⟨outs, hq, List.all_eq_true.mp h⟩
  · cases h
theorem whole_start {p : Program} {e : Env} {s : State} {m : MethodId} {below : List Frame} {meth : Method} {c : Code} (l : Launch) (hflags : l.flags = flags0) {b L : Nat} {xs : Nat → Int32} (hL : L ≤ 3072) (C0 : lw_At p s m meth c b L xs) : W p l e room_1 s m #[Value.ref b] below meth c s.heap [] 0 0 (lw_Z below #[Value.ref b] s) (entryFrame m ([Value.ref b] : List Value).toArray 4) := by
  obtain ⟨outs0, g0, g0c⟩ := lp_s0
  exact lg_all (T := lp_T) (ht := xHt) (hl := lp_hl) (lp_Tok l) (xHt_ok l) (xHt_law l xm_law2) (G := lp_P0) (gs := lp_gs) (ki := 0) (c0 := 122) (n0 := 5715) (d := 300) (nk := 73) (outs0 := outs0) (by decide) (Nat.le_of_ble_eq_true rfl) (Nat.le_of_ble_eq_true rfl) lp_R g0 g0c hL C0
