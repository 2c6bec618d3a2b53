/-! THE LAW: its loop over the contracts. -/
def xp_ok (q : xQ × xS) : Bool := match q.1.2.2.1, q.1.2.1, q.2.2.2.2.1 with
  | 110, 1, [.inl (none, .ofNat 1)] => true
  | _, _, _ => false
/-- the law as a method of the table, its room as the claim has it -/
def xm_law2 : xMd := (yL_law, cL_law, 4, ret, 1, 600000, 7302249, 0, 99, xq_L_law)
theorem xk_law2 : xRows xm_law2 := xk_law
theorem xCtx_law2 {p : Program} {s : State} {m : MethodId} {meth : Method} {c : Code} {b L : Nat} {xs : Nat → Int32} (C0 : lw_At p s m meth c b L xs) : xCtx p s m #[Value.ref b] c xm_law2.cc xm_law2.nl xm_law2.yy.cls := xCtx_law C0
/-- an end of a run of the law: 1 is answered, or the loop's head is come to as the pattern says -/
def lwChk (Ps : List xPt) (c0 n0 : Nat) (ms : Option xLn) (o : xO2) : Bool := bif Nat.ble 110 o.1.2.2.1 then xp_ok (o.1, o.2.1) else Nat.beq o.1.1 18 && (match o.2.1.2.2.2.1 with
  | [] => Nat.beq o.2.1.2.2.2.2.1 c0 && (Nat.beq o.2.1.2.2.2.2.2 n0 && (match xlocs o.2.1.2.2.1 [0, 1, 2, 3] with
    | none => false
    | some vs => Ps.any (fun P => match xPFL o.2.1.1 o.2.1.2.1 o.2.2 vs P with
      | none => false
      | some r => (match ms with
        | none => true
        | some m0 => (match xlT r.1 m0 with
          | none => false
          | some g => xent o.2.1.2.1 o.2.2 12 (xlA (-1) (m0.1, m0.2 - 1) g))))))
  | _ => false)
def lwB : List xB := [(0, 3072), (-2147483648, 2147483647), (-2147483648, 2147483647), (-2147483648, 2147483647), (-2147483648, 2147483647), (-2147483648, 2147483647), (-2147483648, 2147483647)]
def lwSk (n ki : Nat) : xSk := ((some n, 0), (some ki, 0), [(some (n + 1), 0), (some (n + 2), 0), (some (n + 3), 0), (some (n + 4), 0), (some (n + 5), 0), (some (n + 6), 0)])
theorem xSt.app {ρ ρ2 : List Int} {σ σ2 : List xB} (h1 : xSt ρ σ) (h2 : xSt ρ2 σ2) : xSt (ρ ++ ρ2) (σ ++ σ2) := by
  refine ⟨by simp [h1.1, h2.1], fun k r z hr hz => ?_⟩
  by_cases hk : k < σ.length
  · rw [List.getElem?_append_left hk] at hr
    rw [List.getElem?_append_left (by rw [← h1.1]; exact hk)] at hz
    exact h1.2 k r z hr hz
  · rw [List.getElem?_append_right (by omega)] at hr
    rw [List.getElem?_append_right (by rw [← h1.1]; omega), ← h1.1] at hz
    exact h2.2 _ r z hr hz
theorem lwB_ok {L : Nat} (hL : L ≤ 3072) (f : Nat → Int32) : xSt [(L : Int), (f 0).toInt, (f 1).toInt, (f 2).toInt, (f 3).toInt, (f 4).toInt, (f 5).toInt] lwB := by
  refine ⟨rfl, fun k r z hr hz => ?_⟩
  match k, hr, hz with
  | 0, hr, hz => cases hr; cases hz; dsimp only; omega
  | 1, hr, hz => cases hr; cases hz; exact x_b32 _
  | 2, hr, hz => cases hr; cases hz; exact x_b32 _
  | 3, hr, hz => cases hr; cases hz; exact x_b32 _
  | 4, hr, hz => cases hr; cases hz; exact x_b32 _
  | 5, hr, hz => cases hr; cases hz; exact x_b32 _
  | 6, hr, hz => cases hr; cases hz; exact x_b32 _
  | k + 7, hr, _ => simp [lwB] at hr
theorem lw_xe {ρ : List Int} {n : Nat} (hn : ρ.length = n) (t : List Int) (k : Nat) {z : Int} (h : t[k]? = some z) : xe (ρ ++ t) (some (n + k), 0) = some z := by
  simp only [xe]
  rw [List.getElem?_append_right (by omega), show n + k - ρ.length = k by omega, h]
  simp
theorem lw_fin {p : Program} {l : Launch} {e : Env} {s : State} {m : MethodId} {below : List Frame} {meth : Method} {c : Code} {b : Nat} {D : va_G} (hx : p.tables.exec = Jvm.exec) (hb : c.code = code) (hr : meth.sig.returnType = ret) (hlocks : meth.locks = false) {ex : List Nat} {q : xQ × xS} (hq : xp_ok q = true) (hm : q.1 ∈ xm_law2.pg) {ρ : List Int} {ad : List Nat} {H : Heap} {locs : List Loc} {ls : Array Slot} {st : List Value} (hrel : xRel D (fun q : Nat => s.heap.size ≤ q) s xm_law2.nl xm_law2.mc xm_law2.ms [] ex ρ ad q.2 H locs ls st) : W p l e room_1 s m #[Value.ref b] below meth c H locs q.2.2.2.2.2.1 q.2.2.2.2.2.2 (lw_Z below #[Value.ref b] s) (F0 m q.1.1 ls st) := by
  obtain ⟨qS, qL, qst, qw, qc1, qc2, -⟩ := hrel
  have hd : decode code q.1.1 = .ok (xMkI xTb q.1.2.2.1 q.1.2.2.2.1 q.1.2.2.2.2.2, q.1.2.1) := (xk_law2 q.1 hm).1.1
  obtain ⟨ws, tys, qK, qP, qD, qSS, qh⟩ := qw
  unfold xp_ok at hq
  split at hq
  · rename_i hg hlen hstk
    rw [hg, hlen] at hd
    rw [hstk] at qst
    obtain ⟨w, t', rfl, ⟨z, rfl, hz⟩, qn⟩ := qst.cons
    have := qn.nil
    subst this
    have hz1 : z = 1 := by
      have hz : some (1 : Int) = some z.toInt := hz
      have d1 : (1 : Int32).toInt = 1 := rfl
      have hz := Option.some.inj hz
      exact Int32.toInt_inj.mp (by rw [d1, ← hz])
    subst hz1
    refine va_forget (fun q hq => qSS.2.2 q hq) ?_
    refine W.widen (k := 600000) (n := 7302249) qc1 qc2 ?_
    exact lw_ret hx hb hr hlocks hd
  · cases hq
/-- the loop's head, as the pattern says -/
def lwAt (P : xPt) (D : va_G) (A : Nat → Prop) (s : State) (ex : List Nat) (ρ : List Int) (ad : List Nat) (H : Heap) (locs : List Loc) (ls : Array Slot) : Prop := xSt ρ P.2.1 ∧ xFs ρ P.2.2.1 ∧ xLo ρ ad ex 4 (([0, 1, 2, 3] : List Nat).zip P.2.2.2.1) ls ∧ xWd D A s H locs ρ ad ex P.1
/-- what an end of a run says -/
theorem lwChk_ok {Ps : List xPt} {c0 n0 : Nat} {ms : Option xLn} {o : xO2} {D : va_G} {A : Nat → Prop} {s : State} {ex ad : List Nat} {ρ : List Int} {H : Heap} {locs : List Loc} {ls : Array Slot} {st : List Value} {mc mS : Nat} (h : lwChk Ps c0 n0 ms o = true) (h20 : 20 ≤ ex.length) (hr : xRel D A s 4 mc mS [] ex ρ ad o.2.1 H locs ls st) (hF : xFs ρ o.2.2) : xp_ok (o.1, o.2.1) = true ∨ (o.1.1 = 18 ∧ st = [] ∧ o.2.1.2.2.2.2.1 = c0 ∧ o.2.1.2.2.2.2.2 = n0 ∧ ∃ P ∈ Ps, ∃ ρp adp exp, (∀ k, k < 20 → exp[k]? = ex[k]?) ∧ exp.length = 20 ∧ lwAt P D A s exp ρp adp H locs ls ∧ ∀ m0 z, ms = some m0 → xlv ρ m0 = some z → ∃ z', xlv ρp m0 = some z' ∧ z' ≤ z - 1) := by
  unfold lwChk at h
  cases h110 : Nat.ble 110 o.1.2.2.1 with
  | true =>
    rw [h110] at h
    exact Or.inl h
  | false =>
    rw [h110] at h
    simp only [cond_false, Bool.and_eq_true] at h
    obtain ⟨hpc, h⟩ := h
    obtain ⟨qS, qL, qst, qw, qc1, qc2, -⟩ := hr
    obtain ⟨ws, tys, qK, qP, qD, qSS, qh⟩ := id qw
    split at h
    · rename_i hstk
      rw [hstk] at qst
      have := qst.nil
      subst this
      simp only [Bool.and_eq_true] at h
      obtain ⟨h1, h2, h⟩ := h
      split at h
      · cases h
      · rename_i vs hvs
        obtain ⟨P, hPm, h⟩ := List.any_eq_true.mp h
        split at h
        · cases h
        · rename_i r hfit
          obtain ⟨θ, φ, κ⟩ := r
          obtain ⟨vals, v1, v2⟩ := xlocs_ok qL hvs
          obtain ⟨φ0, hfit⟩ := xPFL_ok hfit
          obtain ⟨-, -, lk, ρp, adp, wsp, hfits⟩ := xPFit_ok h20 h20 qS hF qh v1 hfit
          obtain ⟨f1, f2, f3, f4, f5, f6, f7, f8, f9, f10⟩ := id hfits
          obtain ⟨lv, ⟨lv1, lv2, lv3⟩, -⟩ := id qL
          have hk0 : κ.length = 0 := by
            have := lk.1
            simpa using this.symm
          refine Or.inr ⟨Nat.eq_of_beq_eq_true hpc, rfl, Nat.eq_of_beq_eq_true h1, Nat.eq_of_beq_eq_true h2, P, hPm, ρp, adp, _, fun k hk => f9.1 k hk, by rw [f10, hk0], ⟨f1, f2, xLo_mk lv1 lv2 v2 f4, ⟨wsp, tys, qK, ?_, ?_, qSS, f3⟩⟩, fun m0 z hm0 hz => ?_⟩
          · intro k2 q2 hq2
            obtain ⟨j2, -, g2⟩ := f8 k2 q2 hq2
            exact qP j2 q2 g2
          · refine ⟨fun i1 j1 p2 q2 hi hj e2 => ?_, fun k2 q2 hq2 => ?_⟩
            · obtain ⟨i', a1, a2⟩ := f8 i1 p2 hi
              obtain ⟨j', a3, a4⟩ := f8 j1 q2 hj
              have := qD.1 i' j' p2 q2 a2 a4 e2
              subst this
              exact f7 i1 j1 i' a1 a3
            · obtain ⟨j2, -, g2⟩ := f8 k2 q2 hq2
              exact qD.2 j2 q2 g2
          · rw [hm0] at h
            dsimp only at h
            split at h
            · cases h
            · rename_i g hg
              obtain ⟨z', w1, w2⟩ := xlT_ok f5 hg
              refine ⟨z', w1, ?_⟩
              obtain ⟨x, x1, x2⟩ := xlv_inv hz
              have g1 : xlv ρ (m0.1, m0.2 - 1) = some (x + (m0.2 - 1)) := xlv_mk (L := (m0.1, m0.2 - 1)) x1
              have := xent_ok qS hF h (xlA_ok (k := -1) g1 w2)
              omega
    · cases h
/-- one round of the loop from one of its patterns, as the kernel tries it -/
def lwRound (T : List (Nat × xCt)) (ht : List (Nat × xHl)) (hl : xHl) (Ps : List xPt) (ki c0 n0 f d : Nat) (P : xPt) : Prop := P.2.1[ki]? = some (0, 3072) ∧ ∃ (Qs : List xPt) (outs1 : List xO2), (∀ q ∈ Qs, q ∈ Ps) ∧
  xRun2 xMt xTb T ht 20 f 0 d (some (lwSk P.2.1.length ki)) [33] xm_law2 hl 18 (xSeek xm_law2.pg 18) P.1 (P.2.1 ++ lwB) P.2.2.1 (([0, 1, 2, 3] : List Nat).zip P.2.2.2.1) [] c0 n0 = some outs1 ∧
  (∀ o ∈ outs1, lwChk Qs c0 n0 (some ([(ki, -1)], 3072)) o = true ∨ (80 ≤ o.1.2.2.1 ∧ ∃ LL t, xFB xTb [] o.1 o.2.1.2.1 o.2.1.2.2.2.1 = some (LL, t) ∧ ∀ r ∈ LL, ∃ outs2, xRun2 xMt xTb T ht 20 f 1 d (some (lwSk P.2.1.length ki)) [18] xm_law2 hl r.1 (xSeek xm_law2.pg r.1) o.2.1.1 r.2 o.2.2 o.2.1.2.2.1 t o.2.1.2.2.2.2.1 o.2.1.2.2.2.2.2 = some outs2 ∧ ∀ o2 ∈ outs2, lwChk Qs c0 n0 (some ([(ki, -1)], 3072)) o2 = true))
theorem lw_round {l : Launch} {T : List (Nat × xCt)} {ht : List (Nat × xHl)} {hl : xHl} (hT : xCtsOk l T) (hH : ∀ (j : Nat) (M : xMd), xMt[j]? = some M → ∀ q ∈ xHof ht j, 20 ≤ q.2.1 → xSpLaw l M q) (hhl : ∀ q ∈ hl, 20 ≤ q.2.1 → xSpLaw l xm_law2 q) {Ps : List xPt} {ki c0 n0 f d : Nat} (hd : d ≤ 2000) (hc0 : c0 ≤ xm_law2.mc) (hn0 : n0 ≤ xm_law2.ms) (hall : ∀ P ∈ Ps, lwRound T ht hl Ps ki c0 n0 f d P)
    {p : Program} {e : Env} {s : State} {m : MethodId} {below : List Frame} {meth : Method} {c : Code} {b L : Nat} {xs : Nat → Int32} (hL : L ≤ 3072) (C0 : lw_At p s m meth c b L xs) {D : va_G} :
    ∀ (n : Nat) (P : xPt) (ex : List Nat) (ρ : List Int) (ad : List Nat) (H : Heap) (locs : List Loc) (ls : Array Slot), P ∈ Ps → ex[0]? = some b → ex.length = 20 → xGlo (fun q : Nat => s.heap.size ≤ q) s ex → lwAt P D (fun q : Nat => s.heap.size ≤ q) s ex ρ ad H locs ls → (∀ z, ρ[ki]? = some z → 3072 - z ≤ n) → W p l e room_1 s m #[Value.ref b] below meth c H locs c0 n0 (lw_Z below #[Value.ref b] s) (F0 m 18 ls []) := by
  have C := xCtx_law2 C0
  obtain ⟨hx, hb, hr, hml, hown, hts, hX, hbl, hlocks, hgv⟩ := id C0
  have hA : ∀ q : Nat, s.heap.size ≤ q → (fun q : Nat => s.heap.size ≤ q) q := fun _ h => h
  have hini : (Nat.beq xm_law2.kd 2) = true → meth.name = "<init>" := fun h => absurd h (by decide)
  have r1 : d ≤ room_1.frames := Nat.le_trans hd (Nat.le_of_ble_eq_true rfl)
  have r2 : 40 * d ≤ room_1.locals := Nat.le_trans (Nat.mul_le_mul_left 40 hd) (Nat.le_of_ble_eq_true rfl)
  have r3 : xm_law2.mc ≤ room_1.cells := Nat.le_of_ble_eq_true rfl
  have r4 : xm_law2.ms ≤ room_1.slots := Nat.le_of_ble_eq_true rfl
  -- one round, whatever is known of the next
  have body : ∀ (P : xPt) (ex : List Nat) (ρ : List Int) (ad : List Nat) (H : Heap) (locs : List Loc) (ls : Array Slot) (zi : Nat), P ∈ Ps → ex[0]? = some b → ex.length = 20 → xGlo (fun q : Nat => s.heap.size ≤ q) s ex → lwAt P D (fun q : Nat => s.heap.size ≤ q) s ex ρ ad H locs ls → ρ[ki]? = some (zi : Int) →
      (∀ (P2 : xPt) (ex2 : List Nat) (ρ2 : List Int) (ad2 : List Nat) (H2 : Heap) (locs2 : List Loc) (ls2 : Array Slot), P2 ∈ Ps → ex2[0]? = some b → ex2.length = 20 → xGlo (fun q : Nat => s.heap.size ≤ q) s ex2 → lwAt P2 D (fun q : Nat => s.heap.size ≤ q) s ex2 ρ2 ad2 H2 locs2 ls2 → (∀ z2, ρ2[ki]? = some z2 → 3072 - z2 ≤ 3072 - (zi : Int) - 1) → W p l e room_1 s m #[Value.ref b] below meth c H2 locs2 c0 n0 (lw_Z below #[Value.ref b] s) (F0 m 18 ls2 [])) →
      W p l e room_1 s m #[Value.ref b] below meth c H locs c0 n0 (lw_Z below #[Value.ref b] s) (F0 m 18 ls []) := by
    intro P ex ρ ad H locs ls zi hPs hex0 hexl hgl hat hzi kk
    obtain ⟨hki, Qs, outs1, hQs, h1, h2⟩ := hall P hPs
    obtain ⟨hS, hF, hLo, hW⟩ := hat
    have hX0 : xX ρ (ρ ++ [(L : Int), (xs (zi + 0)).toInt, (xs (zi + 1)).toInt, (xs (zi + 2)).toInt, (xs (zi + 3)).toInt, (xs (zi + 4)).toInt, (xs (zi + 5)).toInt]) := ⟨_, rfl⟩
    have hlen : ρ.length = P.2.1.length := hS.1.symm
    have hbA : ¬ (fun q : Nat => s.heap.size ≤ q) b := Nat.not_le.mpr hbl
    have hscl : xScl (fun q : Nat => s.heap.size ≤ q) s (ρ ++ [(L : Int), (xs (zi + 0)).toInt, (xs (zi + 1)).toInt, (xs (zi + 2)).toInt, (xs (zi + 3)).toInt, (xs (zi + 4)).toInt, (xs (zi + 5)).toInt]) ex (some (lwSk P.2.1.length ki)) := by
      refine Or.inr ⟨(some P.2.1.length, 0), (some ki, 0), _, L, zi, xs, rfl, by rw [xexa_at hex0]; exact hX, by rw [xexa_at hex0]; exact hbl, by rw [xexa_at hex0]; exact hbA, hL, lw_xe (k := 0) hlen _ rfl, ?_, ?_⟩
      · refine xe.mono hX0 ?_
        simp only [xe, hzi]
        simp
      · intro j v hv
        match j, hv with
        | 0, hv => cases hv; exact lw_xe (k := 1) hlen _ rfl
        | 1, hv => cases hv; exact lw_xe (k := 2) hlen _ rfl
        | 2, hv => cases hv; exact lw_xe (k := 3) hlen _ rfl
        | 3, hv => cases hv; exact lw_xe (k := 4) hlen _ rfl
        | 4, hv => cases hv; exact lw_xe (k := 5) hlen _ rfl
        | 5, hv => cases hv; exact lw_xe (k := 6) hlen _ rfl
        | j + 6, hv => simp at hv
    have hSS : xSt (ρ ++ [(L : Int), (xs (zi + 0)).toInt, (xs (zi + 1)).toInt, (xs (zi + 2)).toInt, (xs (zi + 3)).toInt, (xs (zi + 4)).toInt, (xs (zi + 5)).toInt]) (P.2.1 ++ lwB) := hS.app (lwB_ok hL (fun k => xs (zi + k)))
    have hm0 : ∀ ρ', xX (ρ ++ [(L : Int), (xs (zi + 0)).toInt, (xs (zi + 1)).toInt, (xs (zi + 2)).toInt, (xs (zi + 3)).toInt, (xs (zi + 4)).toInt, (xs (zi + 5)).toInt]) ρ' → xlv ρ' ([(ki, -1)], 3072) = some (-1 * (zi : Int) + 0 + 3072) := fun ρ' hX' => by
      have h0 : xlE ρ [(ki, -1)] = some (-1 * (zi : Int) + 0) := xlE_cons hzi rfl
      exact xlv.mono (hX0.tr hX') (xlv_mk (L := ([(ki, -1)], 3072)) h0)
    -- an end of a run
    have fin : ∀ (o : xO2) (ρ' : List Int) (ad' : List Nat) (H' : Heap) (locs' : List Loc) (ls' : Array Slot) (st' : List Value), lwChk Qs c0 n0 (some ([(ki, -1)], 3072)) o = true → o.1 ∈ xm_law2.pg → xX (ρ ++ [(L : Int), (xs (zi + 0)).toInt, (xs (zi + 1)).toInt, (xs (zi + 2)).toInt, (xs (zi + 3)).toInt, (xs (zi + 4)).toInt, (xs (zi + 5)).toInt]) ρ' → xRel D (fun q : Nat => s.heap.size ≤ q) s xm_law2.nl xm_law2.mc xm_law2.ms [] ex ρ' ad' o.2.1 H' locs' ls' st' → xFs ρ' o.2.2 → W p l e room_1 s m #[Value.ref b] below meth c H' locs' o.2.1.2.2.2.2.1 o.2.1.2.2.2.2.2 (lw_Z below #[Value.ref b] s) (F0 m o.1.1 ls' st') := by
      intro o ρ' ad' H' locs' ls' st' hchk hm hX' hr' hF'
      rcases lwChk_ok hchk (by omega) hr' hF' with h | ⟨e1, e2, e3, e4, P2, hP2, ρp, adp, exp, x1, x2, hat', hms⟩
      · exact lw_fin hx hb hr hlocks h hm hr'
      · rw [e1, e2, e3, e4]
        refine kk P2 exp ρp adp H' locs' ls' (hQs P2 hP2) (by rw [x1 0 (by omega)]; exact hex0) x2 (hgl.call rfl (State.WarmedH.refl s) va_S.rf (fun _ q => q) x1 (by omega)) hat' (fun z2 hz2 => ?_)
        obtain ⟨z', w1, w2⟩ := hms _ _ rfl (hm0 ρ' hX')
        have h0 : xlv ρp ([(ki, -1)], 3072) = some (-1 * z2 + 0 + 3072) := xlv_mk (L := ([(ki, -1)], 3072)) (xlE_cons hz2 rfl)
        rw [w1] at h0
        have h0 := Option.some.inj h0
        omega
    refine xRun2_ok xk_all l hT hH f 0 d (some (lwSk P.2.1.length ki)) [33] xm_law2 hl 18 (xSeek xm_law2.pg 18) P.1 (P.2.1 ++ lwB) P.2.2.1 _ [] c0 n0 outs1 h1 xk_law2 hhl (fun z hz => xSeek_sub z hz) (fun er nx he => xSeek_pc he) C hini hA r1 r2 r3 r4 hgl (by omega) hscl ⟨hSS, hLo.mono hX0 (xX.rf ad), trivial, hW.mono hX0, hc0, hn0, Or.inl rfl⟩ (hF.mono hX0) (fun o ho hm ρ' ad' H' locs' ls' st' hX1 hX2 hr' hF' => ?_)
    rcases h2 o ho with h | ⟨h80, LL, t, hFB, hroads⟩
    · exact fin o ρ' ad' H' locs' ls' st' h hm hX1 hr' hF'
    · obtain ⟨oe, ⟨oh, oσ, ol, os, oc, on⟩, oF⟩ := o
      have hok := (xk_law2 oe hm).1
      refine xStepB_ok (nx := []) (xFB_eq (tb := xTb) (h := oh) (loc := ol) (nc := oc) (ns := on) h80 hFB) C hok.1 (Or.inl hok.2.2) (fun e2 h2 => absurd h2 List.not_mem_nil) hr' (fun z hz ρ3 ad3 H3 locs3 ls3 st3 hZ1 hZ2 hrel3 => ?_)
      obtain ⟨r, hr0, rfl⟩ := List.mem_map.mp hz
      obtain ⟨outs2, hrun2, hch2⟩ := hroads r hr0
      exact xRun2_ok xk_all l hT hH f 1 d (some (lwSk P.2.1.length ki)) [18] xm_law2 hl r.1 (xSeek xm_law2.pg r.1) _ _ _ _ _ _ _ outs2 hrun2 xk_law2 hhl (fun z hz => xSeek_sub z hz) (fun er nx he => xSeek_pc he) C hini hA r1 r2 r3 r4 hgl (by omega) (hscl.mono (hX1.tr hZ1)) hrel3 (hF'.mono hZ1) (fun o2 ho2 hm2 ρ4 ad4 H4 locs4 ls4 st4 hV1 hV2 hr4 hF4 => fin o2 ρ4 ad4 H4 locs4 ls4 st4 (hch2 o2 ho2) hm2 ((hX1.tr hZ1).tr hV1) hr4 hF4)
  have kisome : ∀ (P : xPt) (ρ : List Int), P ∈ Ps → xSt ρ P.2.1 → ∃ zi : Nat, ρ[ki]? = some (zi : Int) ∧ (zi : Int) ≤ 3072 := fun P ρ hPs hS => by
    have hki := (hall P hPs).1
    have hlt : ki < ρ.length := by
      rw [← hS.1]
      exact (List.getElem?_eq_some_iff.mp hki).1
    have hz := hS.2 ki _ ρ[ki] hki (List.getElem?_eq_getElem hlt)
    dsimp only at hz
    refine ⟨ρ[ki].toNat, ?_, by omega⟩
    rw [List.getElem?_eq_getElem hlt]
    congr 1
    omega
  intro n
  induction n with
  | zero =>
    intro P ex ρ ad H locs ls hPs hex0 hexl hgl hat hz
    obtain ⟨zi, hzi, hzb⟩ := kisome P ρ hPs hat.1
    refine body P ex ρ ad H locs ls zi hPs hex0 hexl hgl hat hzi (fun P2 ex2 ρ2 ad2 H2 locs2 ls2 g0 g1 g2 g3 g4 g5 => ?_)
    obtain ⟨z2, hz2, hz3⟩ := kisome P2 ρ2 g0 g4.1
    have := g5 _ hz2
    have := hz _ hzi
    exfalso
    omega
  | succ n ih =>
    intro P ex ρ ad H locs ls hPs hex0 hexl hgl hat hz
    obtain ⟨zi, hzi, hzb⟩ := kisome P ρ hPs hat.1
    refine body P ex ρ ad H locs ls zi hPs hex0 hexl hgl hat hzi (fun P2 ex2 ρ2 ad2 H2 locs2 ls2 g0 g1 g2 g3 g4 g5 => ih P2 ex2 ρ2 ad2 H2 locs2 ls2 g0 g1 g2 g3 g4 (fun z hz2 => ?_))
    have := g5 _ hz2
    have := hz _ hzi
    omega
/-- from the entry to the loop's head, and on -/
theorem lw_all {l : Launch} {T : List (Nat × xCt)} {ht : List (Nat × xHl)} {hl : xHl} (hT : xCtsOk l T) (hH : ∀ (j : Nat) (M : xMd), xMt[j]? = some M → ∀ q ∈ xHof ht j, 20 ≤ q.2.1 → xSpLaw l M q) (hhl : ∀ q ∈ hl, 20 ≤ q.2.1 → xSpLaw l xm_law2 q) {Ps : List xPt} {ki c0 n0 f d : Nat} {outs0 : List xO2} (hd : d ≤ 2000) (hc0 : c0 ≤ xm_law2.mc) (hn0 : n0 ≤ xm_law2.ms) (hall : ∀ P ∈ Ps, lwRound T ht hl Ps ki c0 n0 f d P)
    (h0 : xRun2 xMt xTb T ht 20 f 0 d none [18] xm_law2 hl 0 (xSeek xm_law2.pg 0) [] [] [] [(0, .inr (.inr (.inr 0)))] [] 0 0 = some outs0) (h0c : ∀ o ∈ outs0, lwChk Ps c0 n0 none o = true)
    {p : Program} {e : Env} {s : State} {m : MethodId} {below : List Frame} {meth : Method} {c : Code} {b L : Nat} {xs : Nat → Int32} (hL : L ≤ 3072) (C0 : lw_At p s m meth c b L xs) : W p l e room_1 s m #[Value.ref b] below meth c s.heap [] 0 0 (lw_Z below #[Value.ref b] s) (entryFrame m ([Value.ref b] : List Value).toArray 4) := by
  have C := xCtx_law2 C0
  obtain ⟨hx, hb, hr, hml, hown, hts, hX, hbl, hlocks, hgv⟩ := id C0
  obtain ⟨D, hK⟩ := xD_ex hts
  have hA : ∀ q : Nat, s.heap.size ≤ q → (fun q : Nat => s.heap.size ≤ q) q := fun _ h => h
  obtain ⟨ex, hex0, hexl, hgl⟩ := xGlo_start (b := b) (A := fun q : Nat => s.heap.size ≤ q) hts hgv (fun a ha => Nat.not_le.mpr ha)
  have hP : va_P D xcl [] s.heap := fun k q h => by simp at h
  have hD : va_D (fun q : Nat => s.heap.size ≤ q) [] := ⟨fun i j p q h => by simp at h, fun k q h => by simp at h⟩
  have hini : (Nat.beq xm_law2.kd 2) = true → meth.name = "<init>" := fun h => absurd h (by decide)
  have r1 : d ≤ room_1.frames := Nat.le_trans hd (Nat.le_of_ble_eq_true rfl)
  have r2 : 40 * d ≤ room_1.locals := Nat.le_trans (Nat.mul_le_mul_left 40 hd) (Nat.le_of_ble_eq_true rfl)
  have r3 : xm_law2.mc ≤ room_1.cells := Nat.le_of_ble_eq_true rfl
  have r4 : xm_law2.ms ≤ room_1.slots := Nat.le_of_ble_eq_true rfl
  have hl0 := lv_entry ([.ref b]) (n := 4) (Nat.le_of_ble_eq_true rfl)
  rw [lg_entry_eq]
  generalize (lg_sl ([.ref b]) ++ List.replicate (4 - (lg_sl ([.ref b])).length) Slot.unset).toArray = ls at hl0 ⊢
  have hl0 : lv_has ls 4 [(0, .ref b)] := hl0
  refine xRun2_ok xk_all l hT hH f 0 d none [18] xm_law2 hl 0 (xSeek xm_law2.pg 0) [] [] [] _ [] 0 0 outs0 h0 xk_law2 hhl (fun z hz => xSeek_sub z hz) (fun er nx he => xSeek_pc he) C hini hA r1 r2 r3 r4 hgl (by omega) (Or.inl rfl) (ρ := []) (ad := []) ⟨⟨rfl, fun k r z hr => by simp at hr⟩, ⟨_, hl0, ⟨⟨rfl, b, hex0, rfl⟩, trivial⟩⟩, trivial, ⟨[], [], hK, hP, hD, va_S.rf, rfl, trivial⟩, Nat.zero_le _, Nat.zero_le _, Or.inl rfl⟩ (fun q hq => absurd hq List.not_mem_nil) (fun o ho hm ρ' ad' H' locs' ls' st' hX1 hX2 hr' hF' => ?_)
  rcases lwChk_ok (h0c o ho) (by omega) hr' hF' with h | ⟨e1, e2, e3, e4, P, hPs, ρp, adp, exp, x1, x2, hat', -⟩
  · exact lw_fin hx hb hr hlocks h hm hr'
  · rw [e1, e2, e3, e4]
    refine lw_round hT hH hhl hd hc0 hn0 hall hL C0 3072 P exp ρp adp H' locs' ls' hPs (by rw [x1 0 (by omega)]; exact hex0) x2 (hgl.call rfl (State.WarmedH.refl s) va_S.rf (fun _ q => q) x1 (by omega)) hat' (fun z hz => ?_)
    have hb3 := hat'.1.2 ki _ z (hall P hPs).1 hz
    dsimp only at hb3
    omega
