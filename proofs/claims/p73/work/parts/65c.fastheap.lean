/-! The fast steps on the heap, of branches, and those that make cells. -/
/-- on the heap: the cells, the bounds and the stack behind it, each that they can be -/
def xFC (scr : List xI) (q : xQ) (h : List xC) (σ : List xB) (stk : List xV) : Option (List (List xC × (List xB × List xV))) := match q.2.2.1 with
  | 50 => (match stk with
    | u :: t => bif Nat.beq q.2.1 3 then (match xGetf h q.2.2.2.1 q.2.2.2.2.1 u with
      | some v => some [(h, σ, v :: t)]
      | none => none) else none
    | [] => none)
  | 51 => (match stk with
    | u :: t => bif Nat.beq q.2.1 3 then (match xGetf h q.2.2.2.1 q.2.2.2.2.1 u with
      | some v => some [(h, σ, v :: t)]
      | none => none) else none
    | [] => none)
  | 52 => (match stk with
    | v :: u :: t => bif Nat.beq q.2.1 3 then (match xPutf h q.2.2.2.1 q.2.2.2.2.1 v u with
      | some h' => some [(h', σ, t)]
      | none => none) else none
    | _ => none)
  | 53 => (match stk with
    | v :: u :: t => bif Nat.beq q.2.1 3 then (match xPutf h q.2.2.2.1 q.2.2.2.2.1 v u with
      | some h' => some [(h', σ, t)]
      | none => none) else none
    | _ => none)
  | 54 => (match stk with
    | v :: u :: t => bif Nat.beq q.2.1 3 then (match xPutf h q.2.2.2.1 q.2.2.2.2.1 v u with
      | some h' => some [(h', σ, t)]
      | none => none) else none
    | _ => none)
  | 55 => (match stk with
    | .inl i :: u :: t => bif Nat.beq q.2.1 1 then (match xAld 0 σ h i u with
      | some r => some [(h, r.2, r.1 :: t)]
      | none => none) else none
    | _ => none)
  | 56 => (match stk with
    | .inl i :: u :: t => bif Nat.beq q.2.1 1 then (match xAld 1 σ h i u with
      | some r => some [(h, r.2, r.1 :: t)]
      | none => none) else none
    | _ => none)
  | 57 => (match stk with
    | .inl i :: u :: t => bif Nat.beq q.2.1 1 then (match xAld 2 σ h i u with
      | some r => some [(h, r.2, r.1 :: t)]
      | none => none) else none
    | _ => none)
  | 58 => (match stk with
    | v :: .inl i :: u :: t => bif Nat.beq q.2.1 1 then (match xAst 0 σ h v i u with
      | some h' => some [(h', σ, t)]
      | none => none) else none
    | _ => none)
  | 59 => (match stk with
    | v :: .inl i :: u :: t => bif Nat.beq q.2.1 1 then (match xAst 1 σ h v i u with
      | some h' => some [(h', σ, t)]
      | none => none) else none
    | _ => none)
  | 60 => (match stk with
    | v :: .inl i :: u :: t => bif Nat.beq q.2.1 1 then (match xAst 2 σ h v i u with
      | some h' => some [(h', σ, t)]
      | none => none) else none
    | _ => none)
  | 61 => (match stk with
    | u :: t => bif Nat.beq q.2.1 1 then (match xLen h u with
      | some v => some [(h, σ, v :: t)]
      | none => none) else none
    | [] => none)
  | 62 => (match stk with
    | .inl i :: u :: t => bif Nat.beq q.2.1 1 then (match xAald σ h i u with
      | some L => some (L.map (fun r => (h, r.1, (.inr (.inr (.inl r.2)) : xV) :: t)))
      | none => none) else none
    | _ => none)
  | 63 => (match stk with
    | v :: .inl i :: u :: t => bif Nat.beq q.2.1 1 then (match xAast σ h v i u with
      | some h' => some [(h', σ, t)]
      | none => none) else none
    | _ => none)
  | 64 => (match stk with
    | .inl i :: u :: t => bif Nat.beq q.2.1 1 then (match xSld scr σ i u with
      | some r => some [(h, σ, .inl r :: t)]
      | none => none) else none
    | _ => none)
  | 65 => (match stk with
    | u :: t => bif Nat.beq q.2.1 1 then (match xSln scr u with
      | some v => some [(h, σ, v :: t)]
      | none => none) else none
    | [] => none)
  | _ => none
theorem x_len {α : Type} {len k : Nat} {x : Option α} {y : α} (h : (bif Nat.beq len k then x else none) = some y) : len = k ∧ x = some y := by
  obtain ⟨a, b⟩ := x_bifO h
  exact ⟨Nat.eq_of_beq_eq_true a, b⟩
theorem x_beq (k : Nat) : Nat.beq k k = true := Nat.beq_refl k
theorem xFC_eq {tb : xTbl} {scr : List xI} {q : xQ} {h : List xC} {σ : List xB} {loc : List (Nat × xV)} {stk : List xV} {nc ns : Nat} {L : List (List xC × (List xB × List xV))} (hv : xFC scr q h σ stk = some L) : xStepC scr (xMkP tb q) (h, σ, loc, stk, nc, ns) = some (L.map (fun r => (q.1 + q.2.1, (r.1, r.2.1, loc, r.2.2, nc, ns)))) := by
  obtain ⟨pc, len, g, a, b, n⟩ := q
  unfold xFC at hv
  dsimp only at hv
  split at hv
  · show xStepC scr (pc, len, .getfield n.toNat, 10, a, b, n) _ = _
    unfold xStepC
    split at hv
    · obtain ⟨rfl, hv⟩ := x_len hv
      dsimp only
      split at hv
      · rename_i v hvv; rw [hvv]; cases hv; rfl
      · cases hv
    · cases hv
  · show xStepC scr (pc, len, .getfield n.toNat, 11, a, b, n) _ = _
    unfold xStepC
    split at hv
    · obtain ⟨rfl, hv⟩ := x_len hv
      dsimp only
      split at hv
      · rename_i v hvv; rw [hvv]; cases hv; rfl
      · cases hv
    · cases hv
  · show xStepC scr (pc, len, .putfield n.toNat, 12, a, b, n) _ = _
    unfold xStepC
    split at hv
    · obtain ⟨rfl, hv⟩ := x_len hv
      dsimp only
      split at hv
      · rename_i v hvv; rw [hvv]; cases hv; rfl
      · cases hv
    · cases hv
  · show xStepC scr (pc, len, .putfield n.toNat, 13, a, b, n) _ = _
    unfold xStepC
    split at hv
    · obtain ⟨rfl, hv⟩ := x_len hv
      dsimp only
      split at hv
      · rename_i v hvv; rw [hvv]; cases hv; rfl
      · cases hv
    · cases hv
  · show xStepC scr (pc, len, .putfield n.toNat, 14, a, b, n) _ = _
    unfold xStepC
    split at hv
    · obtain ⟨rfl, hv⟩ := x_len hv
      dsimp only
      split at hv
      · rename_i v hvv; rw [hvv]; cases hv; rfl
      · cases hv
    · cases hv
  · show xStepC scr (pc, len, .iaload, 60, a, b, n) _ = _
    unfold xStepC
    split at hv
    · obtain ⟨rfl, hv⟩ := x_len hv
      dsimp only
      split at hv
      · rename_i v hvv; rw [hvv]; cases hv; rfl
      · cases hv
    · cases hv
  · show xStepC scr (pc, len, .baload, 60, a, b, n) _ = _
    unfold xStepC
    split at hv
    · obtain ⟨rfl, hv⟩ := x_len hv
      dsimp only
      split at hv
      · rename_i v hvv; rw [hvv]; cases hv; rfl
      · cases hv
    · cases hv
  · show xStepC scr (pc, len, .laload, 60, a, b, n) _ = _
    unfold xStepC
    split at hv
    · obtain ⟨rfl, hv⟩ := x_len hv
      dsimp only
      split at hv
      · rename_i v hvv; rw [hvv]; cases hv; rfl
      · cases hv
    · cases hv
  · show xStepC scr (pc, len, .iastore, 60, a, b, n) _ = _
    unfold xStepC
    split at hv
    · obtain ⟨rfl, hv⟩ := x_len hv
      dsimp only
      split at hv
      · rename_i v hvv; rw [hvv]; cases hv; rfl
      · cases hv
    · cases hv
  · show xStepC scr (pc, len, .bastore, 60, a, b, n) _ = _
    unfold xStepC
    split at hv
    · obtain ⟨rfl, hv⟩ := x_len hv
      dsimp only
      split at hv
      · rename_i v hvv; rw [hvv]; cases hv; rfl
      · cases hv
    · cases hv
  · show xStepC scr (pc, len, .lastore, 60, a, b, n) _ = _
    unfold xStepC
    split at hv
    · obtain ⟨rfl, hv⟩ := x_len hv
      dsimp only
      split at hv
      · rename_i v hvv; rw [hvv]; cases hv; rfl
      · cases hv
    · cases hv
  · show xStepC scr (pc, len, .arraylength, 60, a, b, n) _ = _
    unfold xStepC
    split at hv
    · obtain ⟨rfl, hv⟩ := x_len hv
      dsimp only
      split at hv
      · rename_i v hvv; rw [hvv]; cases hv; rfl
      · cases hv
    · cases hv
  · show xStepC scr (pc, len, .aaload, 60, a, b, n) _ = _
    unfold xStepC
    split at hv
    · obtain ⟨rfl, hv⟩ := x_len hv
      dsimp only
      split at hv
      · rename_i v hvv; rw [hvv]; cases hv; rw [List.map_map]; rfl
      · cases hv
    · cases hv
  · show xStepC scr (pc, len, .aastore, 60, a, b, n) _ = _
    unfold xStepC
    split at hv
    · obtain ⟨rfl, hv⟩ := x_len hv
      dsimp only
      split at hv
      · rename_i v hvv; rw [hvv]; cases hv; rfl
      · cases hv
    · cases hv
  · show xStepC scr (pc, len, .iaload, 33, a, b, n) _ = _
    unfold xStepC
    split at hv
    · obtain ⟨rfl, hv⟩ := x_len hv
      dsimp only
      split at hv
      · rename_i v hvv; rw [hvv]; cases hv; rfl
      · cases hv
    · cases hv
  · show xStepC scr (pc, len, .arraylength, 34, a, b, n) _ = _
    unfold xStepC
    split at hv
    · obtain ⟨rfl, hv⟩ := x_len hv
      dsimp only
      split at hv
      · rename_i v hvv; rw [hvv]; cases hv; rfl
      · cases hv
    · cases hv
  · cases hv
/-- branches: the roads on, and the stack there -/
def xFB (tb : xTbl) (nx : List xQ) (q : xQ) (σ : List xB) (stk : List xV) : Option (List (Nat × List xB) × List xV) :=
  bif Nat.blt q.2.2.1 86 then (match stk with
    | .inl b :: .inl a :: t => bif Nat.beq q.2.1 3 then (match xCond (xCd (q.2.2.1 - 80)) σ a b q.1 q.2.2.2.2.2 with
      | some L => some (L, t)
      | none => none) else none
    | _ => none) else (bif Nat.blt q.2.2.1 92 then (match stk with
    | .inl a :: t => bif Nat.beq q.2.1 3 then (match xCond (xCd (q.2.2.1 - 86)) σ a (none, 0) q.1 q.2.2.2.2.2 with
      | some L => some (L, t)
      | none => none) else none
    | _ => none) else (match q.2.2.1 with
  | 92 => (match stk with
    | .inr (.inl b) :: .inr (.inl a) :: t => (match nx with
      | e2 :: _ => bif (Nat.ble 86 e2.2.2.1 && Nat.blt e2.2.2.1 92) && (Nat.beq q.2.1 1 && (Nat.beq e2.2.1 3 && Nat.beq e2.1 (q.1 + 1))) then (match xCond (xCd (e2.2.2.1 - 86)) σ a b (q.1 + 1) e2.2.2.2.2.2 with
          | some L => some (L, t)
          | none => none) else none
      | [] => none)
    | _ => none)
  | 93 => bif Nat.beq q.2.1 3 then (match xtg q.1 q.2.2.2.2.2 with
    | some t => some ([(t, σ)], stk)
    | none => none) else none
  | 94 => (match stk with
    | .inl a :: t => (match tb[q.2.2.2.1]? with
      | some w => (match xTab σ a q.1 w.1 w.2.1 w.2.2.1 w.2.2.2.toList with
        | some L => some (L, t)
        | none => none)
      | none => none)
    | _ => none)
  | _ => none))
theorem xFB_eq {tb : xTbl} {nx : List xQ} {q : xQ} {h : List xC} {σ : List xB} {loc : List (Nat × xV)} {stk stk' : List xV} {nc ns : Nat} {L : List (Nat × List xB)} (hg : 80 ≤ q.2.2.1) (hv : xFB tb nx q σ stk = some (L, stk')) : xStepB (nx.map (xMkP tb)) (xMkP tb q) (h, σ, loc, stk, nc, ns) = some (L.map (fun r => (r.1, (h, r.2, loc, stk', nc, ns)))) := by
  obtain ⟨pc, len, g, a, b, n⟩ := q
  dsimp only at hg
  unfold xFB at hv
  dsimp only at hv
  have b50 : Nat.blt g 50 = false := by
    cases hq : Nat.blt g 50 with
    | false => rfl
    | true => exact absurd (x_blt hq) (by omega)
  have b80 : Nat.ble 80 g = true := Nat.ble_eq_true_of_le hg
  cases h1 : Nat.blt g 86 with
  | true =>
    rw [h1] at hv
    simp only [cond_true] at hv
    have e : xMkI tb g a n = .if_icmp (xCd (g - 80)) n := by
      unfold xMkI
      rw [b50, b80, h1]
      rfl
    unfold xStepB xMkP
    dsimp only
    rw [e]
    dsimp only
    split at hv
    · obtain ⟨rfl, hv⟩ := x_len hv
      dsimp only
      split at hv
      · rename_i v hvv; rw [hvv]; cases hv; rfl
      · cases hv
    · cases hv
  | false =>
    rw [h1] at hv
    simp only [cond_false] at hv
    have b86 : Nat.ble 86 g = true := Nat.ble_eq_true_of_le (x_nblt h1)
    cases h2 : Nat.blt g 92 with
    | true =>
      rw [h2] at hv
      simp only [cond_true] at hv
      have e : xMkI tb g a n = .ifCond (xCd (g - 86)) n := by
        unfold xMkI
        rw [b50, b80, h1, b86, h2]
        rfl
      unfold xStepB xMkP
      dsimp only
      rw [e]
      dsimp only
      split at hv
      · obtain ⟨rfl, hv⟩ := x_len hv
        dsimp only
        split at hv
        · rename_i v hvv; rw [hvv]; cases hv; rfl
        · cases hv
      · cases hv
    | false =>
      rw [h2] at hv
      simp only [cond_false] at hv
      split at hv
      · split at hv
        · rename_i bb aa t
          split at hv
          · rename_i e2 nx'
            obtain ⟨pc2, len2, g2, a2, b2, n2⟩ := e2
            dsimp only at hv
            obtain ⟨hc, hv⟩ := x_bifO hv
            rw [Bool.and_eq_true, Bool.and_eq_true] at hc
            obtain ⟨⟨c1, c2⟩, c3⟩ := hc
            obtain ⟨c3, c4, c5⟩ := x_and3 c3
            have c3' := Nat.eq_of_beq_eq_true c3
            have k1 := Nat.le_of_ble_eq_true c1
            have d50 : Nat.blt g2 50 = false := by
              cases hq : Nat.blt g2 50 with
              | false => rfl
              | true => exact absurd (x_blt hq) (by omega)
            have d86 : Nat.blt g2 86 = false := by
              cases hq : Nat.blt g2 86 with
              | false => rfl
              | true => exact absurd (x_blt hq) (by omega)
            have e : xMkI tb g2 a2 n2 = .ifCond (xCd (g2 - 86)) n2 := by
              unfold xMkI
              rw [d50, d86, c1, c2, Bool.and_false]
              rfl
            show xStepB (xMkP tb (pc2, len2, g2, a2, b2, n2) :: nx'.map (xMkP tb)) (pc, len, .lcmp, 60, a, b, n) _ = _
            unfold xStepB xMkP
            dsimp only
            rw [e]
            dsimp only
            rw [c3, c4, c5]
            simp only [Bool.and_self, cond_true]
            split at hv
            · rename_i v hvv; rw [hvv]; cases hv; rfl
            · cases hv
          · cases hv
        · cases hv
      · obtain ⟨rfl, hv⟩ := x_len hv
        show xStepB _ (pc, 3, .goto n, 60, a, b, n) _ = _
        unfold xStepB
        dsimp only
        split at hv
        · rename_i v hvv; rw [hvv]; cases hv; rfl
        · cases hv
      · split at hv
        · rename_i aa t
          split at hv
          · rename_i w hw
            have e : xMkI tb 94 a n = .tableswitch w.1 w.2.1 w.2.2.1 w.2.2.2 := by
              show (match tb[a]? with
                | some t => Instr.tableswitch t.1 t.2.1 t.2.2.1 t.2.2.2
                | none => .nop) = _
              rw [hw]
            unfold xStepB xMkP
            dsimp only
            rw [e]
            dsimp only
            split at hv
            · rename_i v hvv; rw [hvv]; cases hv; rfl
            · cases hv
          · cases hv
        · cases hv
      · cases hv
/-- what makes cells, loads constants, calls what the kit knows -/
def xFD (d RC RS : Nat) (q : xQ) (h : List xC) (σ : List xB) (stk : List xV) (nc ns : Nat) : Option (List xC × (List xB × (List xV × (Nat × Nat)))) := match q.2.2.1 with
  | 66 => (match xcl[q.2.2.2.1]? with
    | some r => bif Nat.beq q.2.1 3 && (Nat.ble r.2.2 60 && (Nat.ble (nc + 1) RC && Nat.ble (ns + r.2.2) RS)) then some (h ++ [.inl (q.2.2.2.1, xdf q.2.2.2.1 r.2.2)], σ, (.inr (.inr (.inl (some h.length))) : xV) :: stk, nc + 1, ns + r.2.2) else none
    | none => none)
  | 67 => (match stk with
    | .inl (none, .ofNat n) :: t => bif Nat.beq q.2.1 2 && (Nat.blt n 1000000 && (Nat.ble (nc + 1) RC && Nat.ble (ns + n) RS)) then some (h ++ [xnewC 0 n], σ, (.inr (.inr (.inl (some h.length))) : xV) :: t, nc + 1, ns + n) else none
    | _ => none)
  | 68 => (match stk with
    | .inl (none, .ofNat n) :: t => bif Nat.beq q.2.1 2 && (Nat.blt n 1000000 && (Nat.ble (nc + 1) RC && Nat.ble (ns + n) RS)) then some (h ++ [xnewC 1 n], σ, (.inr (.inr (.inl (some h.length))) : xV) :: t, nc + 1, ns + n) else none
    | _ => none)
  | 69 => (match stk with
    | .inl (none, .ofNat n) :: t => bif Nat.beq q.2.1 2 && (Nat.blt n 1000000 && (Nat.ble (nc + 1) RC && Nat.ble (ns + n) RS)) then some (h ++ [xnewC 2 n], σ, (.inr (.inr (.inl (some h.length))) : xV) :: t, nc + 1, ns + n) else none
    | _ => none)
  | 70 => (match stk with
    | .inl (none, .ofNat n) :: t => bif Nat.beq q.2.1 2 && (Nat.blt n 1000000 && (Nat.ble (nc + 1) RC && Nat.ble (ns + n) RS)) then some (h ++ [xnewC 3 n], σ, (.inr (.inr (.inl (some h.length))) : xV) :: t, nc + 1, ns + n) else none
    | _ => none)
  | 71 => (match stk with
    | .inl (none, .ofNat n) :: t => bif Nat.beq q.2.1 3 && (Nat.blt n 1000000 && (Nat.ble (nc + 1) RC && Nat.ble (ns + n) RS)) then some (h ++ [.inr (.inr (.inr (q.2.2.2.1, List.replicate n none)))], σ, (.inr (.inr (.inl (some h.length))) : xV) :: t, nc + 1, ns + n) else none
    | _ => none)
  | 72 => bif Nat.beq q.2.1 2 && (xle (-2147483648) q.2.2.2.2.2 && xle q.2.2.2.2.2 2147483647) then some (h, σ, .inl (none, q.2.2.2.2.2) :: stk, nc, ns) else none
  | 73 => bif Nat.beq q.2.1 3 && (xle (-2147483648) q.2.2.2.2.2 && xle q.2.2.2.2.2 2147483647) then some (h, σ, .inl (none, q.2.2.2.2.2) :: stk, nc, ns) else none
  | 74 => bif Nat.beq q.2.1 3 && (xle (-9223372036854775808) q.2.2.2.2.2 && xle q.2.2.2.2.2 9223372036854775807) then some (h, σ, .inr (.inl (none, q.2.2.2.2.2)) :: stk, nc, ns) else none
  | 75 => (match stk with
    | .inr (.inr (.inl (some _))) :: t => bif Nat.beq q.2.1 3 && (Nat.blt 0 d && Nat.ble (xsum t) 8) then some (h, σ, t, nc, ns) else none
    | _ => none)
  | 76 => (match stk with
    | .inl b :: .inl a :: t => bif Nat.beq q.2.1 3 && (Nat.blt 0 d && Nat.ble (xsum t) 8) then (match xMax σ a b with
      | some r => some (h, r.2, .inl r.1 :: t, nc, ns)
      | none => none) else none
    | _ => none)
  | 77 => (match stk with
    | .inl b :: .inl a :: t => bif Nat.beq q.2.1 3 && (Nat.blt 0 d && Nat.ble (xsum t) 8) then (match xMin σ a b with
      | some r => some (h, r.2, .inl r.1 :: t, nc, ns)
      | none => none) else none
    | _ => none)
  | 78 => (match stk with
    | .inr (.inl b) :: .inr (.inl a) :: t => bif Nat.beq q.2.1 3 && (Nat.blt 0 d && Nat.ble (xsum t) 8) then (match xMin σ a b with
      | some r => some (h, r.2, .inr (.inl r.1) :: t, nc, ns)
      | none => none) else none
    | _ => none)
  | 79 => (match stk with
    | .inl n :: .inl dp :: v :: .inl sp :: u :: t => bif Nat.beq q.2.1 3 && (Nat.blt 0 d && Nat.ble (xsum t) 8) then (match xCpy σ h n dp v sp u with
      | some h' => some (h', σ, t, nc, ns)
      | none => none) else none
    | _ => none)
  | _ => none
theorem x_len2 {α : Type} {len k : Nat} {c : Bool} {x : Option α} {y : α} (h : (bif Nat.beq len k && c then x else none) = some y) : len = k ∧ c = true ∧ x = some y := by
  obtain ⟨a, b⟩ := x_bifO h
  rw [Bool.and_eq_true] at a
  exact ⟨Nat.eq_of_beq_eq_true a.1, a.2, b⟩
theorem xFD_eq {tb : xTbl} {d RC RS : Nat} {q : xQ} {h h' : List xC} {σ σ' : List xB} {loc : List (Nat × xV)} {stk stk' : List xV} {nc ns nc' ns' : Nat} (hv : xFD d RC RS q h σ stk nc ns = some (h', σ', stk', nc', ns')) : xStepD d RC RS (xMkP tb q) (h, σ, loc, stk, nc, ns) = some [(q.1 + q.2.1, (h', σ', loc, stk', nc', ns'))] := by
  obtain ⟨pc, len, g, a, b, n⟩ := q
  unfold xFD at hv
  dsimp only at hv
  split at hv
  · show xStepD d RC RS (pc, len, .new n.toNat, 60, a, b, n) _ = _
    unfold xStepD
    dsimp only
    split at hv
    · rename_i r hr
      rw [hr]
      obtain ⟨rfl, hc, hv⟩ := x_len2 hv
      dsimp only
      rw [hc]
      cases hv
      rfl
    · cases hv
  · show xStepD d RC RS (pc, len, .newarray .int, 60, a, b, n) _ = _
    unfold xStepD
    dsimp only
    split at hv
    · obtain ⟨rfl, hc, hv⟩ := x_len2 hv
      show (bif Nat.beq 2 2 && _ then _ else none) = _
      rw [hc]
      cases hv
      rfl
    · cases hv
  · show xStepD d RC RS (pc, len, .newarray .byte, 60, a, b, n) _ = _
    unfold xStepD
    dsimp only
    split at hv
    · obtain ⟨rfl, hc, hv⟩ := x_len2 hv
      show (bif Nat.beq 2 2 && _ then _ else none) = _
      rw [hc]
      cases hv
      rfl
    · cases hv
  · show xStepD d RC RS (pc, len, .newarray .boolean, 60, a, b, n) _ = _
    unfold xStepD
    dsimp only
    split at hv
    · obtain ⟨rfl, hc, hv⟩ := x_len2 hv
      show (bif Nat.beq 2 2 && _ then _ else none) = _
      rw [hc]
      cases hv
      rfl
    · cases hv
  · show xStepD d RC RS (pc, len, .newarray .long, 60, a, b, n) _ = _
    unfold xStepD
    dsimp only
    split at hv
    · obtain ⟨rfl, hc, hv⟩ := x_len2 hv
      show (bif Nat.beq 2 2 && _ then _ else none) = _
      rw [hc]
      cases hv
      rfl
    · cases hv
  · show xStepD d RC RS (pc, len, .anewarray n.toNat, 60, a, b, n) _ = _
    unfold xStepD
    dsimp only
    split at hv
    · obtain ⟨rfl, hc, hv⟩ := x_len2 hv
      dsimp only
      rw [hc]
      cases hv
      rfl
    · cases hv
  · show xStepD d RC RS (pc, len, .ldc a, 60, a, b, n) _ = _
    unfold xStepD
    dsimp only
    obtain ⟨rfl, hc, hv⟩ := x_len2 hv
    rw [hc]
    cases hv
    rfl
  · show xStepD d RC RS (pc, len, .ldc_w a, 60, a, b, n) _ = _
    unfold xStepD
    dsimp only
    obtain ⟨rfl, hc, hv⟩ := x_len2 hv
    rw [hc]
    cases hv
    rfl
  · show xStepD d RC RS (pc, len, .ldc2_w a, 60, a, b, n) _ = _
    unfold xStepD
    dsimp only
    obtain ⟨rfl, hc, hv⟩ := x_len2 hv
    rw [hc]
    cases hv
    rfl
  · show xStepD d RC RS (pc, len, .invokespecial n.toNat, 50, a, b, n) _ = _
    unfold xStepD
    dsimp only
    split at hv
    · obtain ⟨rfl, hc, hv⟩ := x_len2 hv
      dsimp only
      rw [hc]
      cases hv
      rfl
    · cases hv
  · show xStepD d RC RS (pc, len, .invokestatic n.toNat, 51, a, b, n) _ = _
    unfold xStepD
    dsimp only
    split at hv
    · obtain ⟨rfl, hc, hv⟩ := x_len2 hv
      show (bif Nat.beq 3 3 && _ then _ else none) = _
      rw [hc]
      simp only [Bool.and_self, cond_true, x_beq]
      split at hv
      · rename_i r hr; rw [hr]; cases hv; rfl
      · cases hv
    · cases hv
  · show xStepD d RC RS (pc, len, .invokestatic n.toNat, 52, a, b, n) _ = _
    unfold xStepD
    dsimp only
    split at hv
    · obtain ⟨rfl, hc, hv⟩ := x_len2 hv
      show (bif Nat.beq 3 3 && _ then _ else none) = _
      rw [hc]
      simp only [Bool.and_self, cond_true, x_beq]
      split at hv
      · rename_i r hr; rw [hr]; cases hv; rfl
      · cases hv
    · cases hv
  · show xStepD d RC RS (pc, len, .invokestatic n.toNat, 53, a, b, n) _ = _
    unfold xStepD
    dsimp only
    split at hv
    · obtain ⟨rfl, hc, hv⟩ := x_len2 hv
      show (bif Nat.beq 3 3 && _ then _ else none) = _
      rw [hc]
      simp only [Bool.and_self, cond_true, x_beq]
      split at hv
      · rename_i r hr; rw [hr]; cases hv; rfl
      · cases hv
    · cases hv
  · show xStepD d RC RS (pc, len, .invokestatic n.toNat, 54, a, b, n) _ = _
    unfold xStepD
    dsimp only
    split at hv
    · obtain ⟨rfl, hc, hv⟩ := x_len2 hv
      show (bif Nat.beq 3 3 && _ then _ else none) = _
      rw [hc]
      simp only [Bool.and_self, cond_true, x_beq]
      split at hv
      · rename_i r hr; rw [hr]; cases hv; rfl
      · cases hv
    · cases hv
  · cases hv
