/-! One round of the law's loop from one pattern: the kernel's tries put together. -/
section LQ
variable (T : List (Nat × xCt)) (ht : List (Nat × xHl)) (hl : xHl) (Qs : List xPt) (ki c0 n0 d : Nat) (P : xPt)
def lqR1 : Option (List xO2) := xRun2 xMt xTb T ht 20 100000 0 d (some (lwSk P.2.1.length ki)) [33] xm_law2 hl 18 (xSeek xm_law2.pg 18) P.1 (P.2.1 ++ lwB) P.2.2.1 (([0, 1, 2, 3] : List Nat).zip P.2.2.2.1) [] c0 n0
def lqNo : xO2 := ((0, 0, 0, 0, 0, 0), (([], [], [], [], 0, 0), []))
def lqOb : xO2 := match lqR1 T ht hl ki c0 n0 d P with
  | some [_, b] => b
  | _ => lqNo
def lqSw : Option (List (Nat × List xB) × List xV) := xFB xTb [] (lqOb T ht hl ki c0 n0 d P).1 (lqOb T ht hl ki c0 n0 d P).2.1.2.1 (lqOb T ht hl ki c0 n0 d P).2.1.2.2.2.1
def lqEnd (r : Option (List xO2)) : Bool := match r with
  | some outs => outs.all (lwChk Qs c0 n0 (some ([(ki, -1)], 3072)))
  | none => false
def lqRun (o : xO2) (t : List xV) (r : Nat × List xB) : Option (List xO2) := xRun2 xMt xTb T ht 20 100000 1 d (some (lwSk P.2.1.length ki)) [18] xm_law2 hl r.1 (xSeek xm_law2.pg r.1) o.2.1.1 r.2 o.2.2 o.2.1.2.2.1 t o.2.1.2.2.2.2.1 o.2.1.2.2.2.2.2
def lqCase (k : Nat) : Bool := match lqSw T ht hl ki c0 n0 d P with
  | some w => (match w.1[k]? with
    | some r => lqEnd Qs ki c0 n0 (lqRun T ht hl ki d P (lqOb T ht hl ki c0 n0 d P) w.2 r)
    | none => false)
  | none => false
def lqH1 : Bool := match lqR1 T ht hl ki c0 n0 d P with
  | some [a, b] => lwChk Qs c0 n0 (some ([(ki, -1)], 3072)) a && Nat.ble 80 b.1.2.2.1
  | _ => false
def lqH2 (n : Nat) : Bool := match lqSw T ht hl ki c0 n0 d P with
  | some w => Nat.beq w.1.length n
  | none => false
end LQ
theorem lqEnd_ok {Qs : List xPt} {ki c0 n0 : Nat} {r : Option (List xO2)} (h : lqEnd Qs ki c0 n0 r = true) : ∃ outs, r = some outs ∧ ∀ o ∈ outs, lwChk Qs c0 n0 (some ([(ki, -1)], 3072)) o = true := by
  unfold lqEnd at h
  split at h
  · rename_i outs
    exact ⟨outs, rfl, List.all_eq_true.mp h⟩
  · cases h
theorem lq_round {T : List (Nat × xCt)} {ht : List (Nat × xHl)} {hl : xHl} {Ps Qs : List xPt} {ki c0 n0 d n : Nat} {P : xPt} (hQ : ∀ q ∈ Qs, q ∈ Ps) (hki : P.2.1[ki]? = some (0, 3072)) (h1 : lqH1 T ht hl Qs ki c0 n0 d P = true) (h2 : lqH2 T ht hl ki c0 n0 d P n = true) (h3 : ∀ k, k < n → lqCase T ht hl Qs ki c0 n0 d P k = true) : lwRound T ht hl Ps ki c0 n0 100000 d P := by
  unfold lqH1 at h1
  split at h1
  · rename_i a b hr
    rw [Bool.and_eq_true] at h1
    have eb : lqOb T ht hl ki c0 n0 d P = b := by
      unfold lqOb
      rw [hr]
    refine ⟨hki, Qs, [a, b], hQ, hr, fun o ho => ?_⟩
    rcases List.mem_cons.mp ho with rfl | ho
    · exact Or.inl h1.1
    · have := List.mem_singleton.mp ho
      subst this
      refine Or.inr ⟨Nat.le_of_ble_eq_true h1.2, ?_⟩
      unfold lqH2 at h2
      cases hs : lqSw T ht hl ki c0 n0 d P with
      | none => rw [hs] at h2; cases h2
      | some w =>
        rw [hs] at h2
        have hn := Nat.eq_of_beq_eq_true h2
        refine ⟨w.1, w.2, ?_, fun r hr0 => ?_⟩
        · have hs2 := hs
          unfold lqSw at hs2
          rw [eb] at hs2
          exact hs2
        · obtain ⟨k, hk⟩ := x_mem_tys hr0
          have hkn : k < n := by
            rw [← hn]
            exact (List.getElem?_eq_some_iff.mp hk).1
          have h := h3 k hkn
          unfold lqCase at h
          rw [hs] at h
          dsimp only at h
          rw [hk] at h
          dsimp only at h
          rw [eb] at h
          exact lqEnd_ok h
  · cases h1
theorem x_shift {P : Nat → Prop} {a n : Nat} (h : ∀ i, i < n → P (a + i)) {k : Nat} (h1 : a ≤ k) (h2 : k < a + n) : P k := by
  have := h (k - a) (by omega)
  rwa [show a + (k - a) = k by omega] at this
