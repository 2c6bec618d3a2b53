/-! Each step is the machine's. -/
section XS
variable {p : Program} {l : Launch} {e : Env} {R : Room} {s : State} {m : MethodId} {args : Array Value} {below : List Frame} {meth : Method} {c : Code} {H : Heap} {locs : List Loc} {Q : State → Prop} {cc : ByteArray} {ls : Array Slot} {st : List Value} {ρ : List Int} {ad ex : List Nat} {nL RC RS d : Nat} {scr : List xI} {D : va_G} {A : Nat → Prop} {own : String} {S : xS} {er : xP} {L : List (Nat × xS)} {nx : List xP}
theorem xStepA_ok (hv : xStepA nL er S = some L) (C : xCtx p s m args c cc nL own) (hd : decode cc er.1 = .ok (er.2.2.1, er.2.1)) (hr : xRel D A s nL RC RS scr ex ρ ad S H locs ls st)
    (k : ∀ q ∈ L, ∀ ρ' ad' H' locs' ls' st', xX ρ ρ' → xX ad ad' → xRel D A s nL RC RS scr ex ρ' ad' q.2 H' locs' ls' st' → W p l e R s m args below meth c H' locs' q.2.2.2.2.2.1 q.2.2.2.2.2.2 Q (F0 m q.1 ls' st')) : W p l e R s m args below meth c H locs S.2.2.2.2.1 S.2.2.2.2.2 Q (F0 m er.1 ls st) := by
  obtain ⟨hx, hb, -⟩ := id C
  obtain ⟨pc, len, ins, g, ea, eb, en⟩ := er
  obtain ⟨h, σ, loc, stk, nc, ns⟩ := S
  obtain ⟨hS, hL, hst, hw, hc1, hc2, hsc⟩ := hr
  dsimp only at hS hL hst hw hc1 hc2 hd
  unfold xStepA at hv
  dsimp only at hv ⊢
  split at hv
  · split at hv
    · rename_i v hvv
      cases hv
      exact xConst_ok (ρ := ρ) (ad := ad) (ex := ex) hvv hx hb hd (fun w hwv => k _ (List.mem_singleton.mpr rfl) ρ ad H locs ls _ (xX.rf ρ) (xX.rf ad) ⟨hS, hL, ⟨hwv, hst⟩, hw, hc1, hc2, hsc⟩)
    · cases hv
  · split at hv
    · rename_i v hvv
      cases hv
      exact xLoad_ok hvv hx hb hd hL (fun w hwv => k _ (List.mem_singleton.mpr rfl) ρ ad H locs ls _ (xX.rf ρ) (xX.rf ad) ⟨hS, hL, ⟨hwv, hst⟩, hw, hc1, hc2, hsc⟩)
    · cases hv
  · split at hv
    · rename_i v t
      split at hv
      · rename_i loc' hloc
        cases hv
        obtain ⟨w, t', rfl, q1, q2⟩ := hst.cons
        exact xSto_ok hloc hx hb hd hL q1 (fun ls' hl' => k _ (List.mem_singleton.mpr rfl) ρ ad H locs ls' _ (xX.rf ρ) (xX.rf ad) ⟨hS, hl', q2, hw, hc1, hc2, hsc⟩)
      · cases hv
    · cases hv
  · split at hv
    · rename_i j n
      obtain ⟨e1, hv⟩ := x_bifO hv
      have e1 := Nat.eq_of_beq_eq_true e1
      subst e1
      split at hv
      · rename_i r hrr
        obtain ⟨r1, r2⟩ := r
        cases hv
        exact xIinc_ok hrr hx hb hd hS hL (fun ρ' ls' hX hS' hL' => k _ (List.mem_singleton.mpr rfl) ρ' ad H locs ls' st hX (xX.rf ad) ⟨hS', hL', hst.mono (xv.mono hX (xX.rf ad)), hw.mono hX, hc1, hc2, hsc.mono hX⟩)
      · cases hv
    · cases hv
  · split at hv
    · rename_i b a t
      obtain ⟨e1, hv⟩ := x_bifO hv
      have e1 := Nat.eq_of_beq_eq_true e1
      split at hv
      · rename_i r hrr
        cases hv
        obtain ⟨w1, t1, rfl, ⟨y, rfl, q1⟩, q2⟩ := hst.cons
        obtain ⟨w2, t2, rfl, ⟨x, rfl, q3⟩, q4⟩ := q2.cons
        exact xBinI_ok hrr e1 hx hb hd hS q3 q1 (fun z ρ' hX hS' hz => k _ (List.mem_singleton.mpr rfl) ρ' ad H locs ls _ hX (xX.rf ad) ⟨hS', hL.mono hX (xX.rf ad), ⟨⟨z, rfl, hz⟩, q4.mono (xv.mono hX (xX.rf ad))⟩, hw.mono hX, hc1, hc2, hsc.mono hX⟩)
      · cases hv
    · cases hv
  · split at hv
    · rename_i b a t
      obtain ⟨e1, hv⟩ := x_bifO hv
      have e1 := Nat.eq_of_beq_eq_true e1
      split at hv
      · rename_i r hrr
        cases hv
        obtain ⟨w1, t1, rfl, ⟨y, rfl, q1⟩, q2⟩ := hst.cons
        obtain ⟨w2, t2, rfl, ⟨x, rfl, q3⟩, q4⟩ := q2.cons
        exact xBinL_ok hrr e1 hx hb hd hS q3 q1 (fun z ρ' hX hS' hz => k _ (List.mem_singleton.mpr rfl) ρ' ad H locs ls _ hX (xX.rf ad) ⟨hS', hL.mono hX (xX.rf ad), ⟨⟨z, rfl, hz⟩, q4.mono (xv.mono hX (xX.rf ad))⟩, hw.mono hX, hc1, hc2, hsc.mono hX⟩)
      · cases hv
    · cases hv
  · split at hv
    · rename_i b a t
      obtain ⟨e1, hv⟩ := x_bifO hv
      have e1 := Nat.eq_of_beq_eq_true e1
      split at hv
      · rename_i r hrr
        cases hv
        obtain ⟨w1, t1, rfl, ⟨y, rfl, q1⟩, q2⟩ := hst.cons
        obtain ⟨w2, t2, rfl, ⟨x, rfl, q3⟩, q4⟩ := q2.cons
        exact xShL_ok hrr e1 hx hb hd hS q3 q1 (fun z ρ' hX hS' hz => k _ (List.mem_singleton.mpr rfl) ρ' ad H locs ls _ hX (xX.rf ad) ⟨hS', hL.mono hX (xX.rf ad), ⟨⟨z, rfl, hz⟩, q4.mono (xv.mono hX (xX.rf ad))⟩, hw.mono hX, hc1, hc2, hsc.mono hX⟩)
      · cases hv
    · cases hv
  · split at hv
    · rename_i a t
      obtain ⟨e1, hv⟩ := x_bifO hv
      have e1 := Nat.eq_of_beq_eq_true e1
      split at hv
      · rename_i r hrr
        cases hv
        obtain ⟨w1, t1, rfl, ⟨y, rfl, q1⟩, q2⟩ := hst.cons
        exact xUnI_ok (ad := ad) (ex := ex) hrr e1 hx hb hd hS q1 (fun w ρ' hX hS' hz => k _ (List.mem_singleton.mpr rfl) ρ' ad H locs ls _ hX (xX.rf ad) ⟨hS', hL.mono hX (xX.rf ad), ⟨hz, q2.mono (xv.mono hX (xX.rf ad))⟩, hw.mono hX, hc1, hc2, hsc.mono hX⟩)
      · cases hv
    · cases hv
  · split at hv
    · rename_i a t
      split at hv
      · obtain ⟨e1, hv⟩ := x_bifO hv
        have e1 := Nat.eq_of_beq_eq_true e1
        subst e1
        split at hv
        · rename_i r hrr
          cases hv
          obtain ⟨w1, t1, rfl, ⟨y, rfl, q1⟩, q2⟩ := hst.cons
          exact xL2i_ok hrr hx hb hd hS q1 (fun z ρ' hX hS' hz => k _ (List.mem_singleton.mpr rfl) ρ' ad H locs ls _ hX (xX.rf ad) ⟨hS', hL.mono hX (xX.rf ad), ⟨⟨z, rfl, hz⟩, q2.mono (xv.mono hX (xX.rf ad))⟩, hw.mono hX, hc1, hc2, hsc.mono hX⟩)
        · cases hv
      · cases hv
    · cases hv
  · obtain ⟨e1, hv⟩ := x_bifO hv
    have e1 := Nat.eq_of_beq_eq_true e1
    split at hv
    · rename_i t ht
      cases hv
      exact xStk_ok ht e1 hx hb hd hst (fun st' hst' => k _ (List.mem_singleton.mpr rfl) ρ ad H locs ls _ (xX.rf ρ) (xX.rf ad) ⟨hS, hL, hst', hw, hc1, hc2, hsc⟩)
    · cases hv
  · cases hv
theorem xRoads_mem {t : List xV} {L : List (Nat × List xB)} {q : Nat × List xB} (h : q ∈ L) : (q.1, (S.1, q.2, S.2.2.1, t, S.2.2.2.2)) ∈ xRoads S t L := List.mem_map.mpr ⟨q, h, rfl⟩
theorem xStepB_ok (hv : xStepB nx er S = some L) (C : xCtx p s m args c cc nL own) (hd : decode cc er.1 = .ok (er.2.2.1, er.2.1)) (hsn : xSane own false er = true ∨ xSane own true er = true) (hnx : ∀ e2 ∈ nx, decode cc e2.1 = .ok (e2.2.2.1, e2.2.1)) (hr : xRel D A s nL RC RS scr ex ρ ad S H locs ls st)
    (k : ∀ q ∈ L, ∀ ρ' ad' H' locs' ls' st', xX ρ ρ' → xX ad ad' → xRel D A s nL RC RS scr ex ρ' ad' q.2 H' locs' ls' st' → W p l e R s m args below meth c H' locs' q.2.2.2.2.2.1 q.2.2.2.2.2.2 Q (F0 m q.1 ls' st')) : W p l e R s m args below meth c H locs S.2.2.2.2.1 S.2.2.2.2.2 Q (F0 m er.1 ls st) := by
  obtain ⟨hx, hb, -⟩ := id C
  obtain ⟨pc, len, ins, g, ea, eb, en⟩ := er
  obtain ⟨h, σ, loc, stk, nc, ns⟩ := S
  obtain ⟨hS, hL, hst, hw, hc1, hc2, hsc⟩ := hr
  dsimp only at hS hL hst hw hc1 hc2 hd
  unfold xStepB at hv
  dsimp only at hv ⊢
  split at hv
  · rename_i cd off
    split at hv
    · rename_i b a t
      obtain ⟨e1, hv⟩ := x_bifO hv
      have e1 := Nat.eq_of_beq_eq_true e1
      subst e1
      split at hv
      · rename_i L' hL'
        cases hv
        obtain ⟨w1, t1, rfl, ⟨y, rfl, q1⟩, q2⟩ := hst.cons
        obtain ⟨w2, t2, rfl, ⟨x, rfl, q3⟩, q4⟩ := q2.cons
        exact xIcmp_ok hL' hx hb hd hS q3 q1 (fun q hq hS' => k _ (xRoads_mem hq) ρ ad H locs ls _ (xX.rf ρ) (xX.rf ad) ⟨hS', hL, q4, hw, hc1, hc2, hsc⟩)
      · cases hv
    · cases hv
  · rename_i cd off
    split at hv
    · rename_i a t
      obtain ⟨e1, hv⟩ := x_bifO hv
      have e1 := Nat.eq_of_beq_eq_true e1
      subst e1
      split at hv
      · rename_i L' hL'
        cases hv
        obtain ⟨w1, t1, rfl, ⟨y, rfl, q1⟩, q2⟩ := hst.cons
        exact xIfc_ok hL' hx hb hd hS q1 (fun q hq hS' => k _ (xRoads_mem hq) ρ ad H locs ls _ (xX.rf ρ) (xX.rf ad) ⟨hS', hL, q2, hw, hc1, hc2, hsc⟩)
      · cases hv
    · cases hv
  · split at hv
    · rename_i b a t
      split at hv
      · rename_i e2 nx'
        split at hv
        · rename_i cd off hins
          obtain ⟨e0, hv2⟩ := x_bifO hv
          clear hv
          rename _ = some L => hv
          obtain ⟨e1, e3, e4⟩ := x_and3 e0
          clear e0
          have e1 := Nat.eq_of_beq_eq_true e1
          have e3 := Nat.eq_of_beq_eq_true e3
          have e4 := Nat.eq_of_beq_eq_true e4
          subst e1
          have hd2 := hnx e2 List.mem_cons_self
          rw [e3, e4, hins] at hd2
          split at hv
          · rename_i L' hL'
            cases hv
            obtain ⟨w1, t1, rfl, ⟨y, rfl, q1⟩, q2⟩ := hst.cons
            obtain ⟨w2, t2, rfl, ⟨x, rfl, q3⟩, q4⟩ := q2.cons
            exact xLcmp_ok hL' hx hb hd hd2 hS q3 q1 (fun q hq hS' => k _ (xRoads_mem hq) ρ ad H locs ls _ (xX.rf ρ) (xX.rf ad) ⟨hS', hL, q4, hw, hc1, hc2, hsc⟩)
          · cases hv
        · cases hv
      · cases hv
    · cases hv
  · rename_i off
    obtain ⟨e1, hv⟩ := x_bifO hv
    have e1 := Nat.eq_of_beq_eq_true e1
    subst e1
    split at hv
    · rename_i t ht
      cases hv
      exact lv_goto hx hb hd (xtg_ok ht) (k _ (List.mem_singleton.mpr rfl) ρ ad H locs ls st (xX.rf ρ) (xX.rf ad) ⟨hS, hL, hst, hw, hc1, hc2, hsc⟩)
    · cases hv
  · rename_i dd lo hi offs
    split at hv
    · rename_i a t
      split at hv
      · rename_i L' hL'
        cases hv
        obtain ⟨w1, t1, rfl, ⟨y, rfl, q1⟩, q2⟩ := hst.cons
        have hh : hi = lo + (offs.toList.length : Int) - 1 := by
          rcases hsn with hsn | hsn <;> exact of_decide_eq_true hsn
        exact xTab_ok hL' hh hx hb hd hS q1 (fun q hq hS' => k _ (xRoads_mem hq) ρ ad H locs ls _ (xX.rf ρ) (xX.rf ad) ⟨hS', hL, q2, hw, hc1, hc2, hsc⟩)
      · cases hv
    · cases hv
  · cases hv
theorem xStepC_ok {ini : Bool} {y : MethodName} (hv : xStepC scr er S = some L) (C : xCtx p s m args c cc nL own) (hok : xRowOk own ini cc y er) (hini : ini = true → meth.name = "<init>") (hr : xRel D A s nL RC RS scr ex ρ ad S H locs ls st)
    (k : ∀ q ∈ L, ∀ ρ' ad' H' locs' ls' st', xX ρ ρ' → xX ad ad' → xRel D A s nL RC RS scr ex ρ' ad' q.2 H' locs' ls' st' → W p l e R s m args below meth c H' locs' q.2.2.2.2.2.1 q.2.2.2.2.2.2 Q (F0 m q.1 ls' st')) : W p l e R s m args below meth c H locs S.2.2.2.2.1 S.2.2.2.2.2 Q (F0 m er.1 ls st) := by
  obtain ⟨hx, hb, -⟩ := id C
  obtain ⟨hd, hnd, hsn⟩ := hok
  obtain ⟨pc, len, ins, g, ea, eb, en⟩ := er
  obtain ⟨h, σ, loc, stk, nc, ns⟩ := S
  obtain ⟨hS, hL, hst, hw, hc1, hc2, hsc⟩ := hr
  dsimp only at hS hL hst hw hc1 hc2 hd
  unfold xStepC at hv
  unfold xNeed at hnd
  unfold xSane at hsn
  dsimp only at hv hnd hsn ⊢
  split at hv
  · rename_i idx
    dsimp only at hnd hsn
    split at hv
    · rename_i u t
      obtain ⟨e1, hv⟩ := x_bifO hv
      have e1 := Nat.eq_of_beq_eq_true e1
      subst e1
      split at hv
      · rename_i v hvv
        cases hv
        obtain ⟨w1, t1, rfl, q1, q2⟩ := hst.cons
        split at hnd
        · exact xGetf_ok (nest := 0) hvv C hd hsn (hnd _ (List.mem_singleton.mpr rfl)) q1 hw (fun w' hw' => k _ (List.mem_singleton.mpr rfl) ρ ad H locs ls _ (xX.rf ρ) (xX.rf ad) ⟨hS, hL, ⟨hw', q2⟩, hw, hc1, hc2, hsc⟩)
        · exact xGetf_ok (nest := 1) hvv C hd hsn (hnd _ (List.mem_singleton.mpr rfl)) q1 hw (fun w' hw' => k _ (List.mem_singleton.mpr rfl) ρ ad H locs ls _ (xX.rf ρ) (xX.rf ad) ⟨hS, hL, ⟨hw', q2⟩, hw, hc1, hc2, hsc⟩)
      · cases hv
    · cases hv
  · rename_i idx
    dsimp only at hnd hsn
    split at hv
    · rename_i v u t
      obtain ⟨e1, hv⟩ := x_bifO hv
      have e1 := Nat.eq_of_beq_eq_true e1
      subst e1
      split at hv
      · rename_i h' hvv
        cases hv
        obtain ⟨w1, t1, rfl, q1, q2⟩ := hst.cons
        obtain ⟨w2, t2, rfl, q3, q4⟩ := q2.cons
        have fin : ∀ H' locs', xWd D A s H' locs' ρ ad ex h' → W p l e R s m args below meth c H' locs' nc ns Q (F0 m (pc + 3) ls t2) := fun H' locs' hw' => k _ (List.mem_singleton.mpr rfl) ρ ad H' locs' ls _ (xX.rf ρ) (xX.rf ad) ⟨hS, hL, q4, hw', hc1, hc2, hsc⟩
        split at hsn
        · rw [Bool.and_eq_true, Bool.and_eq_true, Bool.and_eq_true, Bool.and_eq_true] at hsn
          obtain ⟨s1, s2, s3, s4, s5⟩ := hsn
          have s3 := of_decide_eq_true s3
          refine xPutf_ok (nest := 0) hvv C hd s1 (hnd _ (List.mem_singleton.mpr rfl)) (Or.inr ⟨s2, rfl, s3, hini s4, fun Cn T N hc => ?_⟩) q1 q3 hw fin
          unfold xDecl at s5
          rw [hc] at s5
          exact of_decide_eq_true s5
        · rw [Bool.and_eq_true] at hsn
          have hf : xFF ea eb = false := by
            have := hsn.2
            cases hq : xFF ea eb with
            | false => rfl
            | true => rw [hq] at this; cases this
          split at hnd
          · exact xPutf_ok (nest := 1) hvv C hd hsn.1 (hnd _ (List.mem_singleton.mpr rfl)) (Or.inl hf) q1 q3 hw fin
          · exact xPutf_ok (nest := 0) hvv C hd hsn.1 (hnd _ (List.mem_singleton.mpr rfl)) (Or.inl hf) q1 q3 hw fin
      · cases hv
    · cases hv
  · split at hv
    · rename_i i u t
      obtain ⟨e1, hv⟩ := x_bifO hv
      have e1 := Nat.eq_of_beq_eq_true e1
      subst e1
      obtain ⟨w1, t1, rfl, ⟨x, rfl, q1⟩, q2⟩ := hst.cons
      obtain ⟨w2, t2, rfl, q3, q4⟩ := q2.cons
      split at hv
      · split at hv
        · rename_i r hrr
          cases hv
          exact xSld_ok hrr C hd hS hsc q1 q3 hw (fun w' hw' => k _ (List.mem_singleton.mpr rfl) ρ ad H locs ls _ (xX.rf ρ) (xX.rf ad) ⟨hS, hL, ⟨hw', q4⟩, hw, hc1, hc2, hsc⟩)
        · cases hv
      · split at hv
        · rename_i r hrr
          cases hv
          exact xAld_ok (t := 0) hrr C hd hS q1 q3 hw (fun w' ρ' hX hS' hw' => k _ (List.mem_singleton.mpr rfl) ρ' ad H locs ls _ hX (xX.rf ad) ⟨hS', hL.mono hX (xX.rf ad), ⟨hw', q4.mono (xv.mono hX (xX.rf ad))⟩, hw.mono hX, hc1, hc2, hsc.mono hX⟩)
        · cases hv
    · cases hv
  · split at hv
    · rename_i i u t
      obtain ⟨e1, hv⟩ := x_bifO hv
      have e1 := Nat.eq_of_beq_eq_true e1
      subst e1
      obtain ⟨w1, t1, rfl, ⟨x, rfl, q1⟩, q2⟩ := hst.cons
      obtain ⟨w2, t2, rfl, q3, q4⟩ := q2.cons
      split at hv
      · rename_i r hrr
        cases hv
        exact xAld_ok (t := 1) hrr C hd hS q1 q3 hw (fun w' ρ' hX hS' hw' => k _ (List.mem_singleton.mpr rfl) ρ' ad H locs ls _ hX (xX.rf ad) ⟨hS', hL.mono hX (xX.rf ad), ⟨hw', q4.mono (xv.mono hX (xX.rf ad))⟩, hw.mono hX, hc1, hc2, hsc.mono hX⟩)
      · cases hv
    · cases hv
  · split at hv
    · rename_i i u t
      obtain ⟨e1, hv⟩ := x_bifO hv
      have e1 := Nat.eq_of_beq_eq_true e1
      subst e1
      obtain ⟨w1, t1, rfl, ⟨x, rfl, q1⟩, q2⟩ := hst.cons
      obtain ⟨w2, t2, rfl, q3, q4⟩ := q2.cons
      split at hv
      · rename_i r hrr
        cases hv
        exact xAld_ok (t := 2) hrr C hd hS q1 q3 hw (fun w' ρ' hX hS' hw' => k _ (List.mem_singleton.mpr rfl) ρ' ad H locs ls _ hX (xX.rf ad) ⟨hS', hL.mono hX (xX.rf ad), ⟨hw', q4.mono (xv.mono hX (xX.rf ad))⟩, hw.mono hX, hc1, hc2, hsc.mono hX⟩)
      · cases hv
    · cases hv
  · split at hv
    · rename_i v i u t
      obtain ⟨e1, hv⟩ := x_bifO hv
      have e1 := Nat.eq_of_beq_eq_true e1
      subst e1
      obtain ⟨w1, t1, rfl, q1, q2⟩ := hst.cons
      obtain ⟨w2, t2, rfl, ⟨x, rfl, q3⟩, q4⟩ := q2.cons
      obtain ⟨w3, t3, rfl, q5, q6⟩ := q4.cons
      split at hv
      · rename_i h' hrr
        cases hv
        exact xAst_ok (t := 0) hrr C hd hS q1 q3 q5 hw (fun H' locs' hw' => k _ (List.mem_singleton.mpr rfl) ρ ad H' locs' ls _ (xX.rf ρ) (xX.rf ad) ⟨hS, hL, q6, hw', hc1, hc2, hsc⟩)
      · cases hv
    · cases hv
  · split at hv
    · rename_i v i u t
      obtain ⟨e1, hv⟩ := x_bifO hv
      have e1 := Nat.eq_of_beq_eq_true e1
      subst e1
      obtain ⟨w1, t1, rfl, q1, q2⟩ := hst.cons
      obtain ⟨w2, t2, rfl, ⟨x, rfl, q3⟩, q4⟩ := q2.cons
      obtain ⟨w3, t3, rfl, q5, q6⟩ := q4.cons
      split at hv
      · rename_i h' hrr
        cases hv
        exact xAst_ok (t := 1) hrr C hd hS q1 q3 q5 hw (fun H' locs' hw' => k _ (List.mem_singleton.mpr rfl) ρ ad H' locs' ls _ (xX.rf ρ) (xX.rf ad) ⟨hS, hL, q6, hw', hc1, hc2, hsc⟩)
      · cases hv
    · cases hv
  · split at hv
    · rename_i v i u t
      obtain ⟨e1, hv⟩ := x_bifO hv
      have e1 := Nat.eq_of_beq_eq_true e1
      subst e1
      obtain ⟨w1, t1, rfl, q1, q2⟩ := hst.cons
      obtain ⟨w2, t2, rfl, ⟨x, rfl, q3⟩, q4⟩ := q2.cons
      obtain ⟨w3, t3, rfl, q5, q6⟩ := q4.cons
      split at hv
      · rename_i h' hrr
        cases hv
        exact xAst_ok (t := 2) hrr C hd hS q1 q3 q5 hw (fun H' locs' hw' => k _ (List.mem_singleton.mpr rfl) ρ ad H' locs' ls _ (xX.rf ρ) (xX.rf ad) ⟨hS, hL, q6, hw', hc1, hc2, hsc⟩)
      · cases hv
    · cases hv
  · split at hv
    · rename_i u t
      obtain ⟨e1, hv⟩ := x_bifO hv
      have e1 := Nat.eq_of_beq_eq_true e1
      subst e1
      obtain ⟨w1, t1, rfl, q1, q2⟩ := hst.cons
      split at hv
      · split at hv
        · rename_i v hvv
          cases hv
          exact xSln_ok hvv C hd hsc q1 hw (fun w' hw' => k _ (List.mem_singleton.mpr rfl) ρ ad H locs ls _ (xX.rf ρ) (xX.rf ad) ⟨hS, hL, ⟨hw', q2⟩, hw, hc1, hc2, hsc⟩)
        · cases hv
      · split at hv
        · rename_i v hvv
          cases hv
          exact xLen_ok hvv C hd q1 hw (fun w' hw' => k _ (List.mem_singleton.mpr rfl) ρ ad H locs ls _ (xX.rf ρ) (xX.rf ad) ⟨hS, hL, ⟨hw', q2⟩, hw, hc1, hc2, hsc⟩)
        · cases hv
    · cases hv
  · split at hv
    · rename_i i u t
      obtain ⟨e1, hv⟩ := x_bifO hv
      have e1 := Nat.eq_of_beq_eq_true e1
      subst e1
      obtain ⟨w1, t1, rfl, ⟨x, rfl, q1⟩, q2⟩ := hst.cons
      obtain ⟨w2, t2, rfl, q3, q4⟩ := q2.cons
      split at hv
      · rename_i L' hL'
        cases hv
        exact xAald_ok hL' C hd hS q1 q3 hw (fun q hq w' hS' hw' => k _ (List.mem_map.mpr ⟨q, hq, rfl⟩) ρ ad H locs ls _ (xX.rf ρ) (xX.rf ad) ⟨hS', hL, ⟨hw', q4⟩, hw, hc1, hc2, hsc⟩)
      · cases hv
    · cases hv
  · split at hv
    · rename_i v i u t
      obtain ⟨e1, hv⟩ := x_bifO hv
      have e1 := Nat.eq_of_beq_eq_true e1
      subst e1
      obtain ⟨w1, t1, rfl, q1, q2⟩ := hst.cons
      obtain ⟨w2, t2, rfl, ⟨x, rfl, q3⟩, q4⟩ := q2.cons
      obtain ⟨w3, t3, rfl, q5, q6⟩ := q4.cons
      split at hv
      · rename_i h' hrr
        cases hv
        exact xAast_ok hrr C hd hS q1 q3 q5 hw (fun H' locs' hw' => k _ (List.mem_singleton.mpr rfl) ρ ad H' locs' ls _ (xX.rf ρ) (xX.rf ad) ⟨hS, hL, q6, hw', hc1, hc2, hsc⟩)
      · cases hv
    · cases hv
  · cases hv
end XS
