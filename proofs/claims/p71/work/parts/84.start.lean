/-! From the law's entry to its end. -/
theorem lp_all_ : ∀ P ∈ lp_Ps, lwRound lp_T xHt lp_hl lp_Ps 0 122 5715 100000 300 P := List.forall_mem_cons.mpr ⟨lp_R0, fun _ h => absurd h List.not_mem_nil⟩
theorem lp_s0 : ∃ outs0, xRun2 xMt xTb lp_T xHt 20 100000 0 300 none [18] xm_law2 lp_hl 0 (xSeek xm_law2.pg 0) [] [] [] [(0, .inr (.inr (.inr 0)))] [] 0 0 = some outs0 ∧ ∀ o ∈ outs0, lwChk [lp_P0] 122 5715 none o = true := by
  have h := lp_h0
  unfold lp_e0 at h
  split at h
  · rename_i outs hq
    exact ⟨outs, hq, List.all_eq_true.mp h⟩
  · cases h
theorem lwChk_more {Qs Ps : List xPt} {c0 n0 : Nat} {ms : Option xLn} {o : xO2} (hs : ∀ q ∈ Qs, q ∈ Ps) (h : lwChk Qs c0 n0 ms o = true) : lwChk Ps c0 n0 ms o = true := by
  unfold lwChk at h ⊢
  cases hb : Nat.ble 110 o.1.2.2.1 with
  | true => rw [hb] at h; exact h
  | false =>
    rw [hb] at h
    simp only [cond_false, Bool.and_eq_true] at h ⊢
    refine ⟨h.1, ?_⟩
    have h2 := h.2
    split at h2
    · simp only [Bool.and_eq_true] at h2 ⊢
      refine ⟨h2.1, h2.2.1, ?_⟩
      have h3 := h2.2.2
      split at h3
      · cases h3
      · obtain ⟨P, hP, hc⟩ := List.any_eq_true.mp h3
        exact List.any_eq_true.mpr ⟨P, hs P hP, hc⟩
    · cases h2
theorem whole_start {p : Program} {e : Env} {s : State} {m : MethodId} {below : List Frame} {meth : Method} {c : Code} (l : Launch) (hflags : l.flags = flags0) {b L : Nat} {xs : Nat → Int32} (hL : L ≤ 3072) (C0 : lw_At p s m meth c b L xs) : W p l e room_1 s m #[Value.ref b] below meth c s.heap [] 0 0 (lw_Z below #[Value.ref b] s) (entryFrame m ([Value.ref b] : List Value).toArray 4) := by
  obtain ⟨outs0, g0, g0c⟩ := lp_s0
  exact lw_all (T := lp_T) (ht := xHt) (hl := lp_hl) (lp_Tok l) (xHt_ok l) (xHt_law l xm_law2) (Ps := lp_Ps) (ki := 0) (c0 := 122) (n0 := 5715) (f := 100000) (d := 300) (outs0 := outs0) (by decide) (Nat.le_of_ble_eq_true rfl) (Nat.le_of_ble_eq_true rfl) lp_all_ g0 (fun o ho => lwChk_more (fun q hq => by
    have := List.mem_singleton.mp hq
    subst this
    exact List.mem_cons_self) (g0c o ho)) hL C0
