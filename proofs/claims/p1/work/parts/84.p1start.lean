/-! From the law's entry to its end. -/
theorem xp_fin {p : Program} {l : Launch} {e : Env} {s : State} {m : MethodId} {below : List Frame} {meth : Method} {c : Code} {b : Nat} {D : va_G} (hx : p.tables.exec = Jvm.exec) (hb : c.code = code) (hr : meth.sig.returnType = ret) (hlocks : meth.locks = false) {scr : List xI} {ex : List Nat} {q : xQ × xS} (hq : xp_ok q = true) (hm : q.1 ∈ xm_L_law.pg) {ρ : List Int} {ad : List Nat} {H : Heap} {locs : List Loc} {ls : Array Slot} {st : List Value} (hrel : xRel D (fun q : Nat => s.heap.size ≤ q) s xm_L_law.nl xm_L_law.mc xm_L_law.ms scr ex ρ ad q.2 H locs ls st) : W p l e room_1 s m #[Value.ref b] below meth c H locs q.2.2.2.2.2.1 q.2.2.2.2.2.2 (lw_Z below #[Value.ref b] s) (F0 m q.1.1 ls st) := by
  obtain ⟨qS, qL, qst, qw, qc1, qc2, -⟩ := hrel
  have hd : decode code q.1.1 = .ok (xMkI xTb q.1.2.2.1 q.1.2.2.2.1 q.1.2.2.2.2.2, q.1.2.1) := (xk_law q.1 hm).1.1
  obtain ⟨ws, tys, qK, qP, qD, qSS, qh⟩ := qw
  unfold xp_ok at hq
  split at hq
  · rename_i hg hlen hstk
    rw [hg, hlen] at hd
    rw [hstk] at qst
    obtain ⟨w, t', rfl, ⟨z, rfl, hz⟩, qn⟩ := qst.cons
    have := qn.nil
    subst this
    have hz1 : z = 1 := by
      have hz : some (1 : Int) = some z.toInt := hz
      have d1 : (1 : Int32).toInt = 1 := rfl
      have hz := Option.some.inj hz
      exact Int32.toInt_inj.mp (by rw [d1, ← hz])
    subst hz1
    refine va_forget (fun q hq => qSS.2.2 q hq) ?_
    refine W.widen (k := 600000) (n := 7302250) qc1 qc2 ?_
    exact lw_ret hx hb hr hlocks hd
  · cases hq
/-- a switch -/
theorem xSwitch_atS {l : Launch} {scr : List xI} {M : xMd} {er : xQ} (S : xS) (L : List (Nat × List xB)) (t : List xV) (hg : 80 ≤ er.2.2.1) (hF : xFB xTb [] er S.2.1 S.2.2.2.1 = some (L, t)) (hRw : xRows M) (hm : er ∈ M.pg) (hkd : Nat.beq M.kd 2 = false)
    {p : Program} {e : Env} {R : Room} {s : State} {m : MethodId} {args : Array Value} {below : List Frame} {meth : Method} {c : Code} {H : Heap} {locs : List Loc} {Q : State → Prop} {ls : Array Slot} {st : List Value} {ρ : List Int} {ad ex : List Nat} {D : va_G} {A : Nat → Prop}
    (C : xCtx p s m args c M.cc M.nl M.yy.cls) (hr : xRel D A s M.nl M.mc M.ms scr ex ρ ad S H locs ls st)
    (k : ∀ r ∈ L, ∀ ρ' ad' H' locs' ls' st', xX ρ ρ' → xX ad ad' → xRel D A s M.nl M.mc M.ms scr ex ρ' ad' (S.1, r.2, S.2.2.1, t, S.2.2.2.2.1, S.2.2.2.2.2) H' locs' ls' st' → W p l e R s m args below meth c H' locs' S.2.2.2.2.1 S.2.2.2.2.2 Q (F0 m r.1 ls' st')) : W p l e R s m args below meth c H locs S.2.2.2.2.1 S.2.2.2.2.2 Q (F0 m er.1 ls st) := by
  obtain ⟨h, σ, loc, stk, nc, ns⟩ := S
  have hok := (hRw er hm).1
  rw [hkd] at hok
  refine xStepB_ok (nx := []) (xFB_eq (tb := xTb) (h := h) (loc := loc) (nc := nc) (ns := ns) hg hF) C hok.1 (Or.inl hok.2.2) (fun e2 h2 => absurd h2 List.not_mem_nil) hr (fun z hz ρ3 ad3 H3 locs3 ls3 st3 hZ1 hZ2 hrel3 => ?_)
  obtain ⟨r, hr0, rfl⟩ := List.mem_map.mp hz
  exact k r hr0 ρ3 ad3 H3 locs3 ls3 st3 hZ1 hZ2 hrel3
theorem xp_ends {scr : List xI} {r : Option (List (xQ × xS))} (h : xp_end scr r = true) : ∃ outs, r = some outs ∧ ∀ q ∈ outs, xp_ok q = true := by
  unfold xp_end at h
  split at h
  · rename_i outs
    exact ⟨outs, rfl, List.all_eq_true.mp h⟩
  · cases h
theorem xp_elt (xs : Nat → Int32) : ∀ (j : Nat) (a : xI), xp_is[j]? = some a → xe [(xs 0).toInt, (xs 1).toInt, (xs 2).toInt, (xs 3).toInt, (xs 4).toInt, (xs 5).toInt] a = some (xs j).toInt
  | 0, _, h => by cases h; simp [xe]
  | 1, _, h => by cases h; simp [xe]
  | 2, _, h => by cases h; simp [xe]
  | 3, _, h => by cases h; simp [xe]
  | 4, _, h => by cases h; simp [xe]
  | 5, _, h => by cases h; simp [xe]
  | j + 6, _, h => by simp [xp_is] at h
theorem xp_st (xs : Nat → Int32) : xSt [(xs 0).toInt, (xs 1).toInt, (xs 2).toInt, (xs 3).toInt, (xs 4).toInt, (xs 5).toInt] xp_σ := by
  refine ⟨rfl, fun k r z hr hz => ?_⟩
  match k, hr, hz with
  | 0, hr, hz => cases hr; cases hz; exact x_b32 _
  | 1, hr, hz => cases hr; cases hz; exact x_b32 _
  | 2, hr, hz => cases hr; cases hz; exact x_b32 _
  | 3, hr, hz => cases hr; cases hz; exact x_b32 _
  | 4, hr, hz => cases hr; cases hz; exact x_b32 _
  | 5, hr, hz => cases hr; cases hz; exact x_b32 _
  | k + 6, hr, _ => simp [xp_σ] at hr
/-- every number lies between two of the row -/
theorem xp_cover (z : Int32) : ∀ k, k < 73 → ∃ lo hi, lo ≤ z.toInt ∧ z.toInt ≤ hi ∧ xp_case k lo hi = true := by
  intro k hk
  have hz := x_b32 z
  by_cases h70 : k = 70
  · subst h70
    by_cases h1 : z.toInt < 0
    · exact ⟨-2147483648, -1, by omega, by omega, xp_row_l⟩
    · by_cases h2 : 3 < z.toInt
      · exact ⟨4, 2147483647, by omega, by omega, xp_row_h⟩
      · rcases (show z.toInt = 0 ∨ z.toInt = 1 ∨ z.toInt = 2 ∨ z.toInt = 3 by omega) with q | q | q | q
        · exact ⟨0, 0, by omega, by omega, xp_w0⟩
        · exact ⟨1, 1, by omega, by omega, xp_w1⟩
        · exact ⟨2, 2, by omega, by omega, xp_w2⟩
        · exact ⟨3, 3, by omega, by omega, xp_w3⟩
  · exact ⟨-2147483648, 2147483647, hz.1, hz.2, xp_rest k hk h70⟩
/-- the law from its loop's head on, both objects made -/
theorem xp_main {p : Program} {l : Launch} {e : Env} {s : State} {m : MethodId} {below : List Frame} {meth : Method} {c : Code} {b L : Nat} {xs : Nat → Int32} (hL : L ≤ 6) (C0 : lw_At p s m meth c b L xs) {D : va_G} (S0 S1 : xS) (e1 : xQ) (LL : List (Nat × List xB)) (tt : List xV)
    (hshort : ∀ n, n < 6 → ∃ outs, xRun xMt xTb ((none, 0) :: xp_is.take n) [] 100 20 xm_L_law (xSeek xm_L_law.pg 18) S0.1 S0.2.1 S0.2.2.1 S0.2.2.2.1 S0.2.2.2.2.1 S0.2.2.2.2.2 = some outs ∧ ∀ q ∈ outs, xp_ok q = true)
    (h6 : xRun xMt xTb xp_scr [33] 100 20 xm_L_law (xSeek xm_L_law.pg 18) S0.1 S0.2.1 S0.2.2.1 S0.2.2.2.1 S0.2.2.2.2.1 S0.2.2.2.2.2 = some [(e1, S1)]) (hg1 : 80 ≤ e1.2.2.1) (hF : xFB xTb [] e1 S1.2.1 S1.2.2.2.1 = some (LL, tt))
    (hcov : ∀ r ∈ LL, ∃ lo hi outs, lo ≤ (xs 1).toInt ∧ (xs 1).toInt ≤ hi ∧ xRun xMt xTb xp_scr [] 20000 20 xm_L_law (xSeek xm_L_law.pg r.1) S1.1 (xput r.2 (some 1, 0) lo hi) S1.2.2.1 tt S1.2.2.2.2.1 S1.2.2.2.2.2 = some outs ∧ ∀ q ∈ outs, xp_ok q = true)
    {ρ : List Int} {ad : List Nat} {H : Heap} {locs : List Loc} {ls : Array Slot} {st : List Value} (hX1 : xX [(xs 0).toInt, (xs 1).toInt, (xs 2).toInt, (xs 3).toInt, (xs 4).toInt, (xs 5).toInt] ρ) (hrel : xRel D (fun q : Nat => s.heap.size ≤ q) s xm_L_law.nl xm_L_law.mc xm_L_law.ms [] [b] ρ ad S0 H locs ls st) :
    W p l e room_1 s m #[Value.ref b] below meth c H locs S0.2.2.2.2.1 S0.2.2.2.2.2 (lw_Z below #[Value.ref b] s) (F0 m 18 ls st) := by
  have C := xCtx_law C0
  obtain ⟨hx, hb, hr, hml, hown, hts, hX, hbl, hlocks, hgv⟩ := id C0
  have hA : ∀ q : Nat, s.heap.size ≤ q → (fun q : Nat => s.heap.size ≤ q) q := fun _ h => h
  have hbA : ¬ (fun q : Nat => s.heap.size ≤ q) b := Nat.not_le.mpr hbl
  have hini : (Nat.beq xm_L_law.kd 2) = true → meth.name = "<init>" := fun h => absurd h (by decide)
  have r1 : 20 ≤ room_1.frames := by decide
  have r2 : 40 * 20 ≤ room_1.locals := by decide
  have r3 : xm_L_law.mc ≤ room_1.cells := Nat.le_of_ble_eq_true rfl
  have r4 : xm_L_law.ms ≤ room_1.slots := Nat.le_of_ble_eq_true rfl
  obtain ⟨h0, σ0, l0, t0, c0, n0⟩ := S0
  obtain ⟨h1, σ1, l1, t1, c1, n1⟩ := S1
  obtain ⟨a1, a2, a3, a4, a5, a6, -⟩ := hrel
  have hscr : xScr (fun q : Nat => s.heap.size ≤ q) s ρ [b] ((none, 0) :: xp_is.take L) := by
    refine Or.inr ⟨_, _, b, xs, rfl, rfl, ?_, hbl, hbA, fun j a ha => xe.mono hX1 (xp_elt xs j a ?_)⟩
    · have : (xp_is.take L).length = L := by
        rw [List.length_take]
        exact Nat.min_eq_left hL
      rw [this]
      exact hX
    · rw [List.getElem?_take] at ha
      split at ha
      · exact ha
      · cases ha
  by_cases hL6 : L < 6
  · obtain ⟨outs, ho1, ho2⟩ := hshort L hL6
    refine xRun_at xk_all ho1 xk_law C hini hA r1 r2 r3 r4 ⟨a1, a2, a3, a4, a5, a6, hscr⟩ (fun q hq hm ρ2 ad2 H2 locs2 ls2 st2 hY1 hY2 hrel2 => ?_)
    exact xp_fin hx hb hr hlocks (ho2 q hq) hm hrel2
  · have hL6 : L = 6 := by omega
    subst hL6
    have e6 : xp_is.take 6 = xp_is := rfl
    rw [e6] at hscr
    refine xRun_at xk_all h6 xk_law C hini hA r1 r2 r3 r4 ⟨a1, a2, a3, a4, a5, a6, hscr⟩ (fun q hq hm ρ2 ad2 H2 locs2 ls2 st2 hY1 hY2 hrel2 => ?_)
    have := List.mem_singleton.mp hq
    subst this
    refine xSwitch_atS _ LL tt hg1 hF xk_law hm rfl C hrel2 (fun r hr0 ρ3 ad3 H3 locs3 ls3 st3 hZ1 hZ2 hrel3 => ?_)
    obtain ⟨lo, hi, outs, d1, d2, ho1, ho2⟩ := hcov r hr0
    obtain ⟨b1, b2, b3, b4, b5, b6, b7⟩ := hrel3
    have h3e : xe ρ3 (some 1, 0) = some (xs 1).toInt := xe.mono (hX1.tr (hY1.tr hZ1)) (xp_elt xs 1 (some 1, 0) rfl)
    refine xRun_at xk_all ho1 xk_law C hini hA r1 r2 r3 r4 ⟨xput_ok b1 h3e d1 d2, b2, b3, b4, b5, b6, b7⟩ (fun q hq hm ρ4 ad4 H4 locs4 ls4 st4 hV1 hV2 hrel4 => ?_)
    exact xp_fin hx hb hr hlocks (ho2 q hq) hm hrel4
theorem xp_k0 : ∃ S0 : xS, ∃ e0 : xQ, xp_r0 = some [(e0, S0)] ∧ e0.1 = 18 ∧ S0 = xp_S0 := by
  have h := xp_h0
  split at h
  · rename_i q hq
    exact ⟨q.2, q.1, xp_one_ok hq, Nat.eq_of_beq_eq_true h, by unfold xp_S0; rw [hq]⟩
  · cases h
theorem xp_k1 : xp_r1 = some [(xp_e1, xp_S1)] ∧ 80 ≤ xp_e1.2.2.1 := by
  have h := xp_h2
  split at h
  · rename_i q hq
    rw [Bool.and_eq_true] at h
    have e1 : xp_e1 = q.1 := by unfold xp_e1; rw [hq]
    have e2 : xp_S1 = q.2 := by unfold xp_S1; rw [hq]
    rw [e1, e2]
    exact ⟨xp_one_ok hq, Nat.le_of_ble_eq_true h.2⟩
  · cases h
theorem xp_k2 : xFB xTb [] xp_e1 xp_S1.2.1 xp_S1.2.2.2.1 = some (xp_L, xp_t) := by
  have h := xp_h3
  show xp_sw = _
  unfold xp_L xp_t
  unfold xp_L at h
  cases hq : xp_sw with
  | none => rw [hq] at h; cases h
  | some w => rfl
theorem xp_k3 (z : Int32) : ∀ r ∈ xp_L, ∃ lo hi outs, lo ≤ z.toInt ∧ z.toInt ≤ hi ∧ xRun xMt xTb xp_scr [] 20000 20 xm_L_law (xSeek xm_L_law.pg r.1) xp_S1.1 (xput r.2 (some 1, 0) lo hi) xp_S1.2.2.1 xp_t xp_S1.2.2.2.2.1 xp_S1.2.2.2.2.2 = some outs ∧ ∀ q ∈ outs, xp_ok q = true := by
  intro r hr
  obtain ⟨k, hk⟩ := x_mem_tys hr
  have hk73 : k < 73 := by
    have := (List.getElem?_eq_some_iff.mp hk).1
    rw [xp_h3] at this
    exact this
  obtain ⟨lo, hi, c1, c2, c3⟩ := xp_cover z k hk73
  obtain ⟨outs, ho1, ho2⟩ := xp_ends c3
  unfold xp_run at ho1
  rw [hk] at ho1
  exact ⟨lo, hi, outs, c1, c2, ho1, ho2⟩
theorem whole_start {p : Program} {e : Env} {s : State} {m : MethodId} {below : List Frame} {meth : Method} {c : Code} (l : Launch) (hflags : l.flags = flags0) {b L : Nat} {xs : Nat → Int32} (hL : L ≤ 6) (C0 : lw_At p s m meth c b L xs) : W p l e room_1 s m #[Value.ref b] below meth c s.heap [] 0 0 (lw_Z below #[Value.ref b] s) (entryFrame m ([Value.ref b] : List Value).toArray 4) := by
  have C := xCtx_law C0
  obtain ⟨hx, hb, hr, hml, hown, hts, hX, hbl, hlocks, hgv⟩ := id C0
  obtain ⟨D, hK⟩ := xD_ex hts
  have hA : ∀ q : Nat, s.heap.size ≤ q → (fun q : Nat => s.heap.size ≤ q) q := fun _ h => h
  have hP : va_P D xcl [] s.heap := fun k q h => by simp at h
  have hD : va_D (fun q : Nat => s.heap.size ≤ q) [] := ⟨fun i j p q h => by simp at h, fun k q h => by simp at h⟩
  have hini : (Nat.beq xm_L_law.kd 2) = true → meth.name = "<init>" := fun h => absurd h (by decide)
  have r1 : 20 ≤ room_1.frames := by decide
  have r2 : 40 * 20 ≤ room_1.locals := by decide
  have r3 : xm_L_law.mc ≤ room_1.cells := Nat.le_of_ble_eq_true rfl
  have r4 : xm_L_law.ms ≤ room_1.slots := Nat.le_of_ble_eq_true rfl
  have hl := lv_entry ([.ref b]) (n := 4) (Nat.le_of_ble_eq_true rfl)
  rw [lg_entry_eq]
  generalize (lg_sl ([.ref b]) ++ List.replicate (4 - (lg_sl ([.ref b])).length) Slot.unset).toArray = ls at hl ⊢
  have hl : lv_has ls 4 [(0, .ref b)] := hl
  have hrel0 : xRel D (fun q : Nat => s.heap.size ≤ q) s xm_L_law.nl xm_L_law.mc xm_L_law.ms [] [b] [(xs 0).toInt, (xs 1).toInt, (xs 2).toInt, (xs 3).toInt, (xs 4).toInt, (xs 5).toInt] [] ([], xp_σ, [(0, .inr (.inr (.inr 0)))], [], 0, 0) s.heap [] ls [] :=
    ⟨xp_st xs, ⟨_, hl, ⟨⟨rfl, b, rfl, rfl⟩, trivial⟩⟩, trivial, ⟨[], [], hK, hP, hD, va_S.rf, rfl, trivial⟩, Nat.zero_le _, Nat.zero_le _, Or.inl rfl⟩
  obtain ⟨S0, e0, k1, k2, k3⟩ := xp_k0
  have hshort : ∀ n, n < 6 → ∃ outs, xRun xMt xTb ((none, 0) :: xp_is.take n) [] 100 20 xm_L_law (xSeek xm_L_law.pg 18) S0.1 S0.2.1 S0.2.2.1 S0.2.2.2.1 S0.2.2.2.2.1 S0.2.2.2.2.2 = some outs ∧ ∀ q ∈ outs, xp_ok q = true := by
    rw [k3]
    exact fun n hn => xp_ends (xp_h1 n hn)
  have h6 : xRun xMt xTb xp_scr [33] 100 20 xm_L_law (xSeek xm_L_law.pg 18) S0.1 S0.2.1 S0.2.2.1 S0.2.2.2.1 S0.2.2.2.2.1 S0.2.2.2.2.2 = some [(xp_e1, xp_S1)] := by
    rw [k3]
    exact xp_k1.1
  clear k3
  refine xRun_at xk_all k1 xk_law C hini hA r1 r2 r3 r4 hrel0 (fun q hq hm ρ1 ad1 H1 locs1 ls1 st1 hX1 hX2 hrel1 => ?_)
  have := List.mem_singleton.mp hq
  subst this
  rw [k2]
  exact xp_main hL C0 S0 xp_S1 xp_e1 xp_L xp_t hshort h6 xp_k1.2 xp_k2 (xp_k3 (xs 1)) hX1 hrel1
