/-! THE RUN WITH CONTRACTS AND HINTS IS THE MACHINE'S. -/
theorem xVA {A : Nat → Prop} {s : State} {H : Heap} {locs : List Loc} {ws wsp : va_W} {φ : List Nat} (hA : ∀ q, s.heap.size ≤ q → A q) (hS : va_S A s.heap H locs) (hD : va_D A ws) (hf : ∀ (k : Nat) (y : Nat × va_E), wsp[k]? = some y → ∃ j : Nat, φ[k]? = some j ∧ ws[j]? = some y) : ∀ q, va_A wsp H.size q → A q := by
  intro q hq
  rcases hq with ⟨k, e, hk⟩ | hq
  · obtain ⟨j, -, h2⟩ := hf k _ hk
    exact hD.2 j _ h2
  · exact hA q (Nat.le_trans hS.1 hq)
/-- THE RUN'S LAW, with contracts -/
theorem xRun2_ok (hM : ∀ M ∈ xMt, xMok M) (l : Launch) {T : List (Nat × xCt)} (hT : xCtsOk l T) {ht : List (Nat × xHl)} (hH : ∀ (j : Nat) (M : xMd), xMt[j]? = some M → ∀ q ∈ xHof ht j, 20 ≤ q.2.1 → xSpLaw l M q) {xn : Nat} : ∀ (f fl d : Nat) (scl : Option xSk) (ct : List Nat) (M : xMd) (hl : xHl) (pc : Nat) (prog : List xQ) (h : List xC) (σ : List xB) (F : xF) (loc : List (Nat × xV)) (stk : List xV) (nc ns : Nat) (outs : List xO2), xRun2 xMt xTb T ht xn f fl d scl ct M hl pc prog h σ F loc stk nc ns = some outs → xRows M → (∀ q ∈ hl, 20 ≤ q.2.1 → xSpLaw l M q) → (∀ er ∈ prog, er ∈ M.pg) → (∀ (er : xQ) (nx : List xQ), prog = er :: nx → er.1 = pc) →
    ∀ {p : Program} {e : Env} {R : Room} {s : State} {m : MethodId} {args : Array Value} {below : List Frame} {meth : Method} {c : Code} {H : Heap} {locs : List Loc} {Q : State → Prop} {ls : Array Slot} {st : List Value} {ρ : List Int} {ad ex : List Nat} {D : va_G} {A : Nat → Prop},
    xCtx p s m args c M.cc M.nl M.yy.cls → ((Nat.beq M.kd 2) = true → meth.name = "<init>") → (∀ q, s.heap.size ≤ q → A q) → d ≤ R.frames → 40 * d ≤ R.locals → M.mc ≤ R.cells → M.ms ≤ R.slots → xGlo A s ex → xn ≤ ex.length → xScl A s ρ ex scl → xRel D A s M.nl M.mc M.ms [] ex ρ ad (h, σ, loc, stk, nc, ns) H locs ls st → xFs ρ F →
    (∀ q ∈ outs, q.1 ∈ M.pg → ∀ ρ' ad' H' locs' ls' st', xX ρ ρ' → xX ad ad' → xRel D A s M.nl M.mc M.ms [] ex ρ' ad' q.2.1 H' locs' ls' st' → xFs ρ' q.2.2 → W p l e R s m args below meth c H' locs' q.2.1.2.2.2.2.1 q.2.1.2.2.2.2.2 Q (F0 m q.1.1 ls' st')) →
    W p l e R s m args below meth c H locs nc ns Q (F0 m pc ls st) := by
  intro f
  induction f with
  | zero =>
    intro fl d scl ct M hl pc prog h σ F loc stk nc ns outs hv
    unfold xRun2 at hv
    cases hv
  | succ f ih =>
    intro fl d scl ct M hl pc prog h σ F loc stk nc ns outs hv hRw hhl hpr hpc p e R s m args below meth c H locs Q ls st ρ ad ex D A C hini hA hRf hRl hRC hRS hgl hxn hsl hr hF k
    -- going on at a place
    have on : ∀ (fl2 pc2 : Nat) (pr2 : List xQ) (S2 : xS) (F2 : xF) (x : List xO2) (d2 : Nat), d2 = d → xRun2 xMt xTb T ht xn f fl2 d2 scl ct M hl pc2 pr2 S2.1 S2.2.1 F2 S2.2.2.1 S2.2.2.2.1 S2.2.2.2.2.1 S2.2.2.2.2.2 = some x → (∀ er ∈ pr2, er ∈ M.pg) → (∀ (er : xQ) (nx : List xQ), pr2 = er :: nx → er.1 = pc2) → (∀ b ∈ x, b ∈ outs) → ∀ ρ' ad' H' locs' ls' st', xX ρ ρ' → xX ad ad' → xRel D A s M.nl M.mc M.ms [] ex ρ' ad' S2 H' locs' ls' st' → xFs ρ' F2 → W p l e R s m args below meth c H' locs' S2.2.2.2.2.1 S2.2.2.2.2.2 Q (F0 m pc2 ls' st') := by
      intro fl2 pc2 pr2 S2 F2 x d2 hd2 hx1 hp1 hp2 hx2 ρ' ad' H' locs' ls' st' hX1 hX2 hr' hF'
      subst hd2
      obtain ⟨h2, σ2, l2, s2, c2, n2⟩ := S2
      exact ih fl2 d2 scl ct M hl pc2 pr2 h2 σ2 F2 l2 s2 c2 n2 x hx1 hRw hhl hp1 hp2 C hini hA hRf hRl hRC hRS hgl hxn (hsl.mono hX1) hr' hF' (fun q2 hq2 hm2 ρ2 ad2 H2 locs2 ls2 st2 hY1 hY2 hr2 hF2 => k q2 (hx2 q2 hq2) hm2 ρ2 ad2 H2 locs2 ls2 st2 (hX1.tr hY1) (hX2.tr hY2) hr2 hF2)
    cases prog with
    | nil =>
      unfold xRun2 at hv
      split at hv
      · cases hv
      · rename_i q hq
        obtain ⟨q1, q2, q3⟩ := xHp2_ok hq
        split at hv
        · cases hv
        · rename_i len σ' stk' hsp
          obtain ⟨hS, hL, hst, hw, hc1, hc2, hsc⟩ := id hr
          have key : W p l e R s m args below meth c H locs nc ns Q (F0 m q.1 ls st) := hhl q q1 q3 (p := p) (e := e) (R := R) (s := s) (m := m) (args := args) (below := below) (meth := meth) (c := c) (H := H) (locs := locs) (Q := Q) (ls := ls) (st := st) (ρ := ρ) (ad := ad) (ex := ex) (D := D) (A := A) (nc := nc) (ns := ns) (h := h) (loc := loc) hsp C hgl hRf hRl (Nat.le_trans hc1 hRC) (Nat.le_trans hc2 hRS) hS hL hst hw (fun ρ' H' locs' st' hX hS' hst' hw' => by
            rw [q2]
            exact on 1 (pc + len) (xSeek M.pg (pc + len)) (h, σ', loc, stk', nc, ns) F outs d rfl hv (fun z hz => xSeek_sub z hz) (fun er nx he => xSeek_pc he) (fun b hb => hb) ρ' ad H' locs' ls st' hX (xX.rf ad) ⟨hS', hL.mono hX (xX.rf ad), hst', hw'.mono hX, hc1, hc2, Or.inl rfl⟩ (hF.mono hX))
          rw [q2] at key
          exact key
    | cons er nx =>
    have her := hpr er List.mem_cons_self
    have hpc0 := hpc er nx rfl
    obtain ⟨hok, hck⟩ := hRw er her
    have sub1 : ∀ (t : Nat), ∀ z ∈ xGo M.pg nx t, z ∈ M.pg := fun t z hz => xGo_sub (pc := t) (fun z2 h2 => hpr z2 (List.mem_cons_of_mem _ h2)) z hz
    unfold xRun2 at hv
    rw [← hpc0]
    cases hstop : (Nat.ble 110 er.2.2.1 || (Nat.beq fl 1 && ct.any (Nat.beq er.1))) with
    | true =>
      rw [hstop] at hv
      simp only [cond_true, Option.some.injEq] at hv
      subst hv
      exact k (er, _) (List.mem_singleton.mpr rfl) her ρ ad H locs ls st (xX.rf ρ) (xX.rf ad) hr hF
    | false =>
      rw [hstop] at hv
      simp only [cond_false] at hv
      have hnx0 : ∀ e2 ∈ nx, decode M.cc e2.1 = .ok (xMkI xTb e2.2.2.1 e2.2.2.2.1 e2.2.2.2.2.2, e2.2.1) := fun e2 h2 => (hRw e2 (hpr e2 (List.mem_cons_of_mem _ h2))).1.1
      have hnx : ∀ e2 ∈ nx.map (xMkP xTb), decode M.cc e2.1 = .ok (e2.2.2.1, e2.2.1) := fun e2 h2 => by
        obtain ⟨z, hz, rfl⟩ := List.mem_map.mp h2
        exact (hRw z (hpr z (List.mem_cons_of_mem _ hz))).1.1
      split at hv
      · rename_i q hq
        split at hv
        · cases hv
        · rename_i L hL0
          obtain ⟨hS, hL, hst, hw, hc1, hc2, hsc⟩ := id hr
          obtain ⟨τ, t1, t2⟩ := xRef_ok hL0 hS hF hL hst
          obtain ⟨x, hx1, hx2⟩ := xCat_ok hv τ t1
          rw [hpc0]
          exact on 2 pc (er :: nx) (h, τ, loc, stk, nc, ns) F x d rfl hx1 hpr hpc hx2 ρ ad H locs ls st (xX.rf ρ) (xX.rf ad) ⟨t2, hL, hst, hw, hc1, hc2, hsc⟩ hF
      · split at hv
        · split at hv
          · cases hv
          · rename_i LL hrr
            exact xHs_ok hrr C hgl hsl hok hnx0 hRf hRl hr hF (fun r hrm ρ' H' locs' st' hX hr' hF' => by
              obtain ⟨x, hx1, hx2⟩ := xCat_ok hv r hrm
              exact on 1 r.1 (xGo M.pg nx r.1) (r.2.1, r.2.2.1, loc, r.2.2.2.2, nc, ns) r.2.2.2.1 x d rfl hx1 (sub1 _) (fun er' nx' he => xGo_pc he) hx2 ρ' ad H' locs' ls st' hX (xX.rf ad) hr' hF')
        · cases h50 : Nat.blt er.2.2.1 50 with
          | true =>
            rw [h50] at hv
            simp only [cond_true] at hv
            split at hv
            · cases hv
            · rename_i σ' loc' stk' hF0
              refine xStepA_ok (xFA_eq (tb := xTb) (h := h) (nc := nc) (ns := ns) (x_blt h50) hF0) C hok.1 hr (fun q hq ρ' ad' H' locs' ls' st' hX1 hX2 hr' => ?_)
              have := List.mem_singleton.mp hq
              subst this
              exact on 1 _ _ _ F outs d rfl hv (sub1 _) (fun er' nx' he => xGo_pc he) (fun b hb => hb) ρ' ad' H' locs' ls' st' hX1 hX2 hr' (hF.mono hX1)
          | false =>
           rw [h50] at hv
           simp only [cond_false] at hv
           cases h66 : Nat.blt er.2.2.1 66 with
           | true =>
            rw [h66] at hv
            simp only [cond_true] at hv
            split at hv
            · cases hv
            · rename_i L hF0
              refine xStepC_ok (xFC_eq (tb := xTb) (loc := loc) (nc := nc) (ns := ns) hF0) C hok hini hr (fun q hq ρ' ad' H' locs' ls' st' hX1 hX2 hr' => ?_)
              obtain ⟨z, hz, rfl⟩ := List.mem_map.mp hq
              obtain ⟨x, hx1, hx2⟩ := xCat_ok hv z hz
              exact on 1 _ _ _ F x d rfl hx1 (sub1 _) (fun er' nx' he => xGo_pc he) hx2 ρ' ad' H' locs' ls' st' hX1 hX2 hr' (hF.mono hX1)
           | false =>
            rw [h66] at hv
            simp only [cond_false] at hv
            cases h80 : Nat.blt er.2.2.1 80 with
            | true =>
             rw [h80] at hv
             simp only [cond_true] at hv
             split at hv
             · cases hv
             · rename_i h' σ' stk' nc' ns' hF0
               refine xStepD_ok (xFD_eq (tb := xTb) (loc := loc) hF0) C hok hA hRf hRl hRC hRS hr (fun q hq ρ' ad' H' locs' ls' st' hX1 hX2 hr' => ?_)
               have := List.mem_singleton.mp hq
               subst this
               exact on 1 _ _ _ F outs d rfl hv (sub1 _) (fun er' nx' he => xGo_pc he) (fun b hb => hb) ρ' ad' H' locs' ls' st' hX1 hX2 hr' (hF.mono hX1)
            | false =>
             rw [h80] at hv
             simp only [cond_false] at hv
             have h80' := x_nblt h80
             cases h100 : Nat.blt er.2.2.1 100 with
             | true =>
              rw [h100] at hv
              simp only [cond_true] at hv
              split at hv
              · rename_i a b t htw
                obtain ⟨hlt, hstk⟩ := xTwo_ok htw
                subst hstk
                obtain ⟨hl3, hv⟩ := x_bifO hv
                have hl3 := Nat.eq_of_beq_eq_true hl3
                split at hv
                · cases hv
                · rename_i L hL0
                  obtain ⟨hS, hL, hst, hw, hc1, hc2, hsc⟩ := id hr
                  obtain ⟨w1, t1, rfl, ⟨y1, rfl, q1⟩, q2⟩ := xAll2.cons hst
                  obtain ⟨w2, t2, rfl, ⟨x1, rfl, q3⟩, q4⟩ := q2.cons
                  have hd0 : decode M.cc er.1 = .ok (xMkI xTb er.2.2.1 er.2.2.2.1 er.2.2.2.2.2, er.2.1) := hok.1
                  have hmk : xMkI xTb er.2.2.1 er.2.2.2.1 er.2.2.2.2.2 = .if_icmp (xCd (er.2.2.1 - 80)) er.2.2.2.2.2 := by
                    generalize er.2.2.1 = g at *
                    rcases (show g = 80 ∨ g = 81 ∨ g = 82 ∨ g = 83 ∨ g = 84 ∨ g = 85 by omega) with q | q | q | q | q | q <;> subst q <;> rfl
                  rw [hmk, hl3] at hd0
                  refine xIcmpF_ok hL0 C.1 C.2.1 hd0 hS hF q3 q1 (fun q hq hS' hF' => ?_)
                  obtain ⟨x, hx1, hx2⟩ := xCat_ok hv q hq
                  exact on 1 q.1 (xGo M.pg nx q.1) (h, q.2.1, loc, t, nc, ns) q.2.2 x d rfl hx1 (sub1 _) (fun er' nx' he => xGo_pc he) hx2 ρ ad H locs ls _ (xX.rf ρ) (xX.rf ad) ⟨hS', hL, q4, hw, hc1, hc2, hsc⟩ hF'
              · split at hv
                · cases hv
                · rename_i L stk' hF0
                  have hsn : xSane M.yy.cls false (xMkP xTb er) = true ∨ xSane M.yy.cls true (xMkP xTb er) = true := by
                    have := hok.2.2
                    cases hkk : Nat.beq M.kd 2 with
                    | true => rw [hkk] at this; exact Or.inr this
                    | false => rw [hkk] at this; exact Or.inl this
                  refine xStepB_ok (xFB_eq (tb := xTb) (h := h) (loc := loc) (nc := nc) (ns := ns) h80' hF0) C hok.1 hsn hnx hr (fun q hq ρ' ad' H' locs' ls' st' hX1 hX2 hr' => ?_)
                  obtain ⟨z, hz, rfl⟩ := List.mem_map.mp hq
                  obtain ⟨x, hx1, hx2⟩ := xCat_ok hv z hz
                  exact on 1 _ _ _ F x d rfl hx1 (sub1 _) (fun er' nx' he => xGo_pc he) hx2 ρ' ad' H' locs' ls' st' hX1 hX2 hr' (hF.mono hX1)
             | false =>
              rw [h100] at hv
              simp only [cond_false] at hv
              have h110 : Nat.ble 110 er.2.2.1 = false := by
                cases hq : Nat.ble 110 er.2.2.1 with
                | false => rfl
                | true => rw [hq] at hstop; cases hstop
              unfold xCallOk at hck
              rw [h100, h110] at hck
              simp only [Bool.or_self, cond_false] at hck
              split at hv
              · cases hv
              · rename_i d'
                split at hv
                · cases hv
                · rename_i M' hM'
                  rw [hM'] at hck
                  dsimp only at hck
                  split at hv
                  · cases hv
                  · rename_i as r htk
                    obtain ⟨hchk, hv⟩ := x_bifO hv
                    rw [Bool.and_eq_true, Bool.and_eq_true, Bool.and_eq_true] at hchk
                    obtain ⟨⟨⟨c1, c2⟩, c3⟩, c4⟩ := hchk
                    obtain ⟨c4, c5, c6⟩ := x_and3 c4
                    have c1 := Nat.le_of_ble_eq_true c1
                    have c2 := Nat.le_of_ble_eq_true c2
                    have c4 := Nat.eq_of_beq_eq_true c4
                    have c5 := Nat.le_of_ble_eq_true c5
                    have c6 := Nat.le_of_ble_eq_true c6
                    have hmM : M' ∈ xMt := List.mem_of_getElem? hM'
                    obtain ⟨hRw', hnl', hpl', hds', hcw', hiw', hk0', hk1', hk2'⟩ := hM M' hmM
                    obtain ⟨hx, hb, hml, hown, hg, hn0⟩ := id C
                    obtain ⟨hS, hL, hst, hw, hc1, hc2, hsc⟩ := id hr
                    obtain ⟨As, rest, a1, a2, a3, a4⟩ := xtake_ok (aw := []) htk trivial hst
                    rw [List.append_nil] at a1
                    have hsum := xsum_ok a2
                    have hsl2 := xsl_len a1
                    obtain ⟨ws0, tys0, hK0, hP0, hD0, hSS0, hh0⟩ := id hw
                    split at hv
                    · rename_i ends hus
                      obtain ⟨ct0, hct1, hct2⟩ := xUseT_ok hus
                      obtain ⟨M2, hM2, hctok⟩ := hT _ hct1
                      have hM2 : xMt[er.2.2.2.1]? = some M2 := hM2
                      rw [hM'] at hM2
                      cases hM2
                      unfold xUse at hct2
                      obtain ⟨hd1, hct2⟩ := x_bifO hct2
                      have hd1 := Nat.le_of_ble_eq_true hd1
                      split at hct2
                      · cases hct2
                      · rename_i θ φ κ hfit
                        obtain ⟨-, -, lk, ρp, adp, wsp, hfits⟩ := xPFit_ok hgl.1 hxn hS hF hh0 a1 hfit
                        have hkl : κ.length = ct0.1.2.2.2.2 := by
                          have := lk.1
                          simpa using this.symm
                        obtain ⟨f1, f2, f3, f4, f5, f6, f7, f8, f9, f10⟩ := id hfits
                        have hA2 := xVA (H := H) (locs := locs) hA hSS0 hD0 f8
                        have hMet := hctok D (va_A wsp H.size) ρp adp (ex.take 20 ++ κ.map (xra ad ex)) As d' hd1
                        have hPp : va_P D xcl wsp H := fun k2 q2 hq2 => by
                          obtain ⟨j, -, h2⟩ := f8 k2 q2 hq2
                          exact hP0 j q2 h2
                        have hDp : va_D (va_A wsp H.size) wsp := by
                          refine ⟨fun i j p2 q2 hi hj e2 => ?_, fun k2 q2 hq2 => Or.inl ⟨k2, q2.2, hq2⟩⟩
                          obtain ⟨i', g1, g2⟩ := f8 i p2 hi
                          obtain ⟨j', g3, g4⟩ := f8 j q2 hj
                          have := hD0.1 i' j' p2 q2 g2 g4 e2
                          subst this
                          exact f7 i j i' g1 g3
                        refine xInvoke hM l C hok hM' hck hRf hRl ⟨Nat.le_trans c5 hRC, Nat.le_trans c6 hRS⟩ c3 c4 (by omega) a1 a3 a4 hL hw hMet xPreP.blind (fun U hU hWU => ?_) (fun q _ hq => hA2 q hq) hA2 (fun v t H1 locs1 ht1 hvm hpost hkp hSS1 => ?_)
                        · refine ⟨f1, f2, f4, ⟨fun q hq => Or.inr (by rw [← hU]; exact hq), fun w hw hn => xNest_warm hWU w hn (hn0 w hw hn), ⟨wsp, tys0, hK0.moved hWU.alike, by rw [hU]; exact hPp, hDp, va_S.rf, f3⟩⟩, hgl.call hU hWU hSS0 hA2 (fun k2 hk2 => f9.1 k2 hk2) (by rw [f10]; omega), by rw [f10, hkl]⟩
                        · obtain ⟨E, hE, ρe, eX, eS, eF, ev, wse, tyse, eK, eP, eh⟩ := hpost
                          obtain ⟨kE, hkE⟩ := List.getElem?_of_mem hE
                          obtain ⟨-, kget⟩ := xtL_get hct2
                          obtain ⟨q, hq1, hq2⟩ := kget kE E hkE
                          obtain ⟨x, hx1, hx2⟩ := xCat_ok hv q (List.mem_of_getElem? hq2)
                          rw [ht1] at eP
                          obtain ⟨ρ', ws', g1, g2, g3, g4, g5, g6, g7⟩ := xEnd_ok (A := A) hS hF hh0 hP0 hD0 hfits eX eS eF eh eP hkp hq1
                          refine on 1 (er.1 + 3) (xGo M.pg nx (er.1 + 3)) (q.1, q.2.1, loc, q.2.2.2 ++ r, nc + M'.mc, ns + M'.ms) q.2.2.1 x (d' + 1) rfl hx1 (sub1 _) (fun er' nx' he => xGo_pc he) hx2 ρ' ad H1 locs1 ls _ g1 (xX.rf ad) ⟨g2, hL.mono g1 (xX.rf ad), (g4 _ ev).app (a2.mono (xv.mono g1 (xX.rf ad))), ⟨ws', tys0 ++ tyse, ?_, g6, g7, hSS1, g5⟩, c5, c6, Or.inl rfl⟩ g3
                          have eK2 := eK.moved hvm.symm
                          refine ⟨hK0.1, fun k2 q2 hk2 => ?_⟩
                          rcases List.mem_append.mp (List.mem_of_getElem? hk2) with hm2 | hm2
                          · obtain ⟨k3, hk3⟩ := List.getElem?_of_mem hm2
                            exact hK0.2 k3 q2 hk3
                          · obtain ⟨k3, hk3⟩ := List.getElem?_of_mem hm2
                            exact eK2.2 k3 q2 hk3
                    · split at hv
                      · cases hv
                      · rename_i couts hcr
                        obtain ⟨hrets, hv⟩ := x_bifO hv
                        have hMet : Met l M'.yy (Jvm.Cond.code M'.yy M'.cc M'.nl M'.rt :: xU) { frames := d', cells := M'.mc, slots := M'.ms, locals := 40 * d' } (fun v U => v = As.toArray ∧ (xPre D A ρ ad ex h U ∧ xGlo A U ex)) (fun _ st oc t => (∃ v, oc = .returned v ∧ ∃ q ∈ couts, ∃ ρ' ad', xX ρ ρ' ∧ xX ad ad' ∧ xSt ρ' q.2.1.2.1 ∧ xFs ρ' q.2.2 ∧ xAll2 (xv ρ' ad' ex) q.2.1.2.2.2.1 v.toList ∧ ∃ ws tys, va_K D xcl tys t ∧ va_P D xcl ws t.heap ∧ va_D A ws ∧ xHp ρ' ad' ex tys q.2.1.1 ws) ∧ va_F A st t) M'.mc M'.ms A := by
                          refine Met.ofW (cc := M'.cc) (maxL := M'.nl) (ret := M'.rt) hpl' rfl ?_
                          intro p2 e2 s2 m2 args2 below2 meth2 c2' s₁2 B hml2 hv2
                          obtain ⟨rfl, ⟨hA2, hN2, hW2⟩, hgl2⟩ := hv2
                          have hts2 := atoms_spec (ws := Jvm.Cond.code M'.yy M'.cc M'.nl M'.rt :: xU) B.pre
                          have C2 : xCtx p2 s2 m2 As.toArray c2' M'.cc M'.nl M'.yy.cls := ⟨B.exec, B.bytes, hml2, findClass_of_methodNamed B.named, fun w hw hgw => hts2 w (List.mem_cons_of_mem _ (xU_mem hw hgw)), hN2⟩
                          have hl2 := lv_entry As (n := M'.nl) (by rw [hsl2]; exact c2)
                          rw [lg_entry_eq]
                          refine ih 1 d' none [] M' (xHof ht er.2.2.2.1) 0 (xSeek M'.pg 0) h σ F (xArgs 0 as) [] 0 0 couts hcr hRw' (hH _ M' hM') (fun z hz => xSeek_sub z hz) (fun er' nx' he => xSeek_pc he) C2
                            (fun hk => by
                              have hk2 := hk2' (Nat.eq_of_beq_eq_true hk)
                              rw [(name_of_methodNamed B.named B.method).1]
                              exact hk2.2.1) hA2 (Nat.le_refl _) (Nat.le_refl _) (Nat.le_refl _) (Nat.le_refl _) hgl2 hxn (Or.inl rfl)
                            ⟨hS, ⟨_, hl2, xArgs_ok a1⟩, trivial, hW2, Nat.zero_le _, Nat.zero_le _, Or.inl rfl⟩ hF (fun q hq hmq ρ' ad' H' locs' ls' st' hX1 hX2 hrq hFq => ?_)
                          obtain ⟨qS, qL, qst, qw, qc1, qc2, -⟩ := hrq
                          obtain ⟨ws, tys, qK, qP, qD, qSS, qh⟩ := qw
                          refine W.widen qc1 qc2 ?_
                          exact xRetW B.exec B.bytes B.returns B.notSynchronized (List.all_eq_true.mp hrets q hq) (hRw' q.1 hmq).1.1 qS qst qSS.2.2 (fun v hvv t ht2 hWt => ⟨⟨v, rfl, q, hq, ρ', ad', hX1, hX2, qS, hFq, hvv, ws, tys, qK.moved hWt.alike, by rw [ht2]; exact qP, qD, qh⟩, qSS.F ht2⟩)
                        refine xInvoke hM l C hok hM' hck hRf hRl ⟨Nat.le_trans c5 hRC, Nat.le_trans c6 hRS⟩ c3 c4 (by omega) a1 a3 a4 hL hw hMet ?_ (fun U hU hWU => ?_) (fun q _ hq => hq) (fun q hq => hq) (fun v t H1 locs1 ht1 hvm hpost hkp hSS1 => ?_)
                        · intro a U g mk hp
                          obtain ⟨h1, ⟨h2, h3, h4⟩, h5⟩ := hp
                          exact ⟨h1, ⟨h2, fun w hw hn => xNest_same (u := U) (U := U.calling g mk a) rfl w hn (h3 w hw hn), h4.alikeU (U := U.calling g mk a) rfl (Vm.Alike.refl U.vm)⟩, h5.same (U := U.calling g mk a) rfl rfl⟩
                        · exact ⟨⟨fun q hq => hA q (Nat.le_trans hSS0.1 (by rw [← hU]; exact hq)), fun w hw hn => xNest_warm hWU w hn (hn0 w hw hn), hw.alikeU hU hWU.alike⟩, hgl.call hU hWU hSS0 (fun _ q => q) (fun _ _ => rfl) hgl.1⟩
                        · obtain ⟨q, hq, ρ', ad', hX1, hX2, pS, pF, pst, ws, tys, pK, pP, pD, ph⟩ := hpost
                          obtain ⟨x, hx1, hx2⟩ := xCat_ok hv q hq
                          exact on 1 (er.1 + 3) (xGo M.pg nx (er.1 + 3)) (q.2.1.1, q.2.1.2.1, loc, q.2.1.2.2.2.1 ++ r, nc + M'.mc, ns + M'.ms) q.2.2 x (d' + 1) rfl hx1 (sub1 _) (fun er' nx' he => xGo_pc he) hx2 ρ' ad' H1 locs1 ls _ hX1 hX2 ⟨pS, hL.mono hX1 hX2, pst.app (a2.mono (xv.mono hX1 hX2)), ⟨ws, tys, pK.moved hvm.symm, by rw [← ht1]; exact pP, pD, hSS1, ph⟩, c5, c6, Or.inl rfl⟩ pF
