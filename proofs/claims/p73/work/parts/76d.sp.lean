/-! The rows that the programs leave out stand in the code. -/
def xSpB (M : xMd) (q : Nat × (Nat × Nat)) : Bool := decide (M.yy.cls = "StarchGarrison$Reader") && (match q.2.1 with
  | 20 => (match xStrs[q.2.2]? with
    | some r => decide (decode M.cc q.1 = .ok (.ldc r.1, 2))
    | none => false)
  | 21 => (match q.2.2 with
    | 0 => decide (decode M.cc q.1 = .ok (.getstatic 112, 3))
    | 1 => decide (decode M.cc q.1 = .ok (.getstatic 115, 3))
    | _ => false)
  | 22 => decide (decode M.cc q.1 = .ok (.invokevirtual 179, 3))
  | 23 => decide (decode M.cc q.1 = .ok (.invokevirtual 184, 3))
  | _ => false)
theorem xSpB_ok {l : Launch} {M : xMd} {q : Nat × (Nat × Nat)} (h : xSpB M q = true) : xSpLaw l M q := by
  unfold xSpB at h
  rw [Bool.and_eq_true] at h
  obtain ⟨h1, h2⟩ := h
  have h1 := of_decide_eq_true h1
  split at h2
  · rename_i hk
    split at h2
    · rename_i r hr
      exact @xSp20 l M q r.1 r.2 hk h1 hr (of_decide_eq_true h2)
    · cases h2
  · rename_i hk
    split at h2
    · rename_i ha
      exact @xSp21 l M q hk h1 (Or.inl ⟨ha, of_decide_eq_true h2⟩)
    · rename_i ha
      exact @xSp21 l M q hk h1 (Or.inr ⟨ha, of_decide_eq_true h2⟩)
    · cases h2
  · rename_i hk
    exact @xSp22 l M q hk h1 (of_decide_eq_true h2)
  · rename_i hk
    exact @xSp23 l M q hk h1 (of_decide_eq_true h2)
  · cases h2
theorem xSp30 {l : Launch} {M : xMd} {q : Nat × (Nat × Nat)} (hk : 30 ≤ q.2.1) : xSpLaw l M q := by
  intro p e R s m args below meth c H locs Q ls st ρ ad ex D A d nc ns len σ σ' stk stk' h loc hv
  exfalso
  generalize q.2.1 = kd at hk hv
  unfold xSpec at hv
  split at hv
  · omega
  · omega
  · omega
  · omega
  · cases hv
def xSpA (ht : List (Nat × xHl)) : Bool := ht.all (fun p => p.2.all (fun q => (Nat.blt q.2.1 20 || Nat.ble 30 q.2.1) || (match xMt[p.1]? with
  | some M => xSpB M q
  | none => false)))
theorem xHof_mem : ∀ {ht : List (Nat × xHl)} {j : Nat} {q : Nat × (Nat × Nat)}, q ∈ xHof ht j → ∃ hl, (j, hl) ∈ ht ∧ q ∈ hl
  | [], j, q, h => absurd h List.not_mem_nil
  | p :: t, j, q, h => by
    unfold xHof at h
    cases hb : Nat.beq p.1 j with
    | true =>
      rw [hb] at h
      have e := Nat.eq_of_beq_eq_true hb
      obtain ⟨p1, p2⟩ := p
      have e : p1 = j := e
      subst e
      exact ⟨p2, List.mem_cons_self, h⟩
    | false =>
      rw [hb] at h
      obtain ⟨hl, h1, h2⟩ := xHof_mem (show q ∈ xHof t j from h)
      exact ⟨hl, List.mem_cons_of_mem _ h1, h2⟩
theorem xSpA_ok : xSpA xHt = true := by decide +kernel
theorem xHt_ok (l : Launch) : ∀ (j : Nat) (M : xMd), xMt[j]? = some M → ∀ q ∈ xHof xHt j, 20 ≤ q.2.1 → xSpLaw l M q := by
  intro j M hM q hq h20
  obtain ⟨hl, h1, h2⟩ := xHof_mem hq
  have h := List.all_eq_true.mp (List.all_eq_true.mp xSpA_ok _ h1) _ h2
  rw [Bool.or_eq_true, Bool.or_eq_true] at h
  rcases h with (h | h) | h
  · have := x_blt h
    omega
  · exact @xSp30 l M q (Nat.le_of_ble_eq_true h)
  · dsimp only at h
    rw [hM] at h
    exact @xSpB_ok l M q h
theorem xHt_law (l : Launch) (M : xMd) : ∀ q ∈ xHof xHt 9999, 20 ≤ q.2.1 → xSpLaw l M q := by
  have h : (xHof xHt 9999).all (fun q => Nat.blt q.2.1 20) = true := by decide +kernel
  intro q hq h20
  have := x_blt (List.all_eq_true.mp h q hq)
  omega
