/-! THE RUN IS THE MACHINE'S. -/
theorem xRun_nil {mt : List xMd} {tb : xTbl} {scr : List xI} {ct : List Nat} {f d : Nat} {M : xMd} {h : List xC} {σ : List xB} {loc : List (Nat × xV)} {stk : List xV} {nc ns : Nat} {outs : List (xQ × xS)} (hv : xRun mt tb scr ct f d M [] h σ loc stk nc ns = some outs) : False := by
  cases f with
  | zero => unfold xRun at hv; cases hv
  | succ f => unfold xRun at hv; cases hv
/-- calls: the group fits the method's kind -/
def xCallOk (e : xQ) : Bool := bif Nat.blt e.2.2.1 100 || Nat.ble 110 e.2.2.1 then true else (match xMt[e.2.2.2.1]? with
  | none => false
  | some M => (match e.2.2.1 with
    | 100 => Nat.beq M.kd 0
    | 101 => Nat.beq M.kd 0
    | 102 => Nat.beq M.kd 1
    | 103 => Nat.beq M.kd 1
    | 104 => Nat.beq M.kd 2
    | 105 => Nat.beq M.kd 2
    | _ => false))
/-- the rows of a method -/
def xRows (M : xMd) : Prop := ∀ e ∈ M.pg, xRowOk M.yy.cls (Nat.beq M.kd 2) M.cc (xYof e) (xMkP xTb e) ∧ xCallOk e = true
/-- a method of the table -/
def xMok (M : xMd) : Prop := xRows M ∧ M.nl ≤ 21 ∧ plainName M.yy.cls = true ∧ (M.yy.cls ≠ "java/lang/invoke/MethodHandle" ∧ M.yy.cls ≠ "java/lang/invoke/VarHandle" ∧ (parseMethodDescriptor M.yy.desc).map (fun d => d.parameters.length) = some M.na) ∧ Jvm.Cond.code M.yy M.cc M.nl M.rt ∈ lw_tbl ∧ Jvm.Cond.initialized M.yy.cls ∈ lw_tbl ∧
  (M.kd = 0 → Jvm.Cond.static M.yy ∈ lw_tbl) ∧ (M.kd = 1 → Jvm.Cond.instanceMethod M.yy ∈ lw_tbl ∧ Jvm.Cond.selects M.yy.cls M.yy M.yy ∈ lw_tbl ∧ ∃ T N, xcl[M.ci]? = some (M.yy.cls, T, N)) ∧ (M.kd = 2 → Jvm.Cond.instanceMethod M.yy ∈ lw_tbl ∧ M.yy.name = "<init>" ∧ M.rt = none)
section XR
variable {p : Program} {l : Launch} {e : Env} {R : Room} {s : State} {m : MethodId} {args : Array Value} {below : List Frame} {meth : Method} {c : Code} {H : Heap} {locs : List Loc} {cells slots : Nat} {Q : State → Prop} {pc : Nat} {ls : Array Slot} {rest st0 : List Value} {a : Array Value} {A0 A1 : Nat → Prop} {H0 : Heap} {mc ms : Nat} {free : Addr → Prop}
/-- behind a call, whatever it answers -/
theorem xCall {Post : Option Value → State → Prop} (hr : va_Run p l e R s m args below meth c H locs cells slots mc ms (F0 m pc ls st0) rest (fun st oc t => (∃ v, oc = .returned v ∧ Post v t) ∧ va_F A1 st t) free) (hS : va_S A0 H0 H locs) (hA : ∀ q, q < H.size → A1 q → A0 q) (hf : ∀ q, free q → A0 q)
    (kk : ∀ (v : Option Value) (t : State) (H1 : Heap) (locs1 : List Loc), t.heap = H1 → s.vm.Alike t.vm → Post v t → va_S A0 H0 H1 locs1 → W p l e R s m args below meth c H1 locs1 (cells + mc) (slots + ms) Q (F0 m (pc + 3) ls (v.toList ++ rest))) : W p l e R s m args below meth c H locs cells slots Q (F0 m pc ls st0) := by
  intro T hT X
  obtain ⟨v, st₀, t, T', L, h0, X', hL, e1, e2, ⟨⟨r, hv, hp⟩, hz, hk⟩, st⟩ := hr T hT X
  cases hv
  rw [h0] at hz hk
  obtain ⟨t2, a1, b1⟩ := kk v t T'.heap (locs ++ L) e1.symm (by rw [← e2]; exact X'.warmed.alike) hp
    ⟨Nat.le_trans hS.1 (by rw [e1]; exact hz), fun q h1 h2 => by rw [e1, hk q (Nat.lt_of_lt_of_le h1 hS.1) (fun z => h2 (hA q (Nat.lt_of_lt_of_le h1 hS.1) z))]; exact hS.2.1 q h1 h2, fun q hq => by
      rcases List.mem_append.mp hq with h | h
      · exact hS.2.2 q h
      · exact hf _ (hL q h)⟩ T' rfl X'
  exact ⟨t2, st t2 a1, b1⟩
end XR
theorem xNest_warm {s U : State} (hW : s.WarmedH U.vm) : ∀ (w : Jvm.Cond), xNest w = true → va_Nw w s → va_Nw w U := by
  intro w hn hw
  unfold xNest at hn
  split at hn
  · exact va_Nw.warmF hW hw
  · exact va_Nw.warmM hW hw
  · exact va_AO.moved hW.alike hw
  · cases hn
theorem xNest_same {u U : State} (h : u.vm = U.vm) : ∀ (w : Jvm.Cond), xNest w = true → va_Nw w u → va_Nw w U := by
  intro w hn hw
  unfold xNest at hn
  split at hn
  · exact va_Nw.same rfl h hw
  · exact va_Nw.same rfl h hw
  · exact va_AO.moved (by rw [h]; exact Vm.Alike.refl _) hw
  · cases hn
/-- all words of the tables that are good, and one more, are among them -/
theorem xGoodIn {ws : List Jvm.Cond} (h : ∀ w ∈ ws, w ∈ lw_tbl ∧ goodWord w = true) : GoodIn xU ws := fun w hw => ⟨xU_mem (h w hw).1 (h w hw).2, good_of_word (h w hw).2⟩
/-- what holds where a method begins -/
def xPre (D : va_G) (A : Nat → Prop) (ρ : List Int) (ad ex : List Nat) (h : List xC) (U : State) : Prop := (∀ q, U.heap.size ≤ q → A q) ∧ (∀ w ∈ lw_tbl, xNest w = true → va_Nw w U) ∧ xWd D A U U.heap [] ρ ad ex h
/-- what holds where it has ended -/
def xPost (D : va_G) (A : Nat → Prop) (ρ : List Int) (ad ex : List Nat) (outs : List (xQ × xS)) (v : Option Value) (t : State) : Prop := ∃ q ∈ outs, ∃ ρ' ad', xX ρ ρ' ∧ xX ad ad' ∧ xSt ρ' q.2.2.1 ∧ xAll2 (xv ρ' ad' ex) q.2.2.2.2.1 v.toList ∧ ∃ ws tys, va_K D xcl tys t ∧ va_P D xcl ws t.heap ∧ va_D A ws ∧ xHp ρ' ad' ex tys q.2.1 ws
theorem xWd.alikeU {D : va_G} {A : Nat → Prop} {u U : State} {H : Heap} {ρ : List Int} {ad ex : List Nat} {h : List xC} {locs : List Loc} (hw : xWd D A u H locs ρ ad ex h) (hU : U.heap = H) (hvm : u.vm.Alike U.vm) : xWd D A U U.heap [] ρ ad ex h := by
  obtain ⟨ws, tys, hK, hP, hD, hS, hh⟩ := hw
  exact ⟨ws, tys, hK.moved hvm, by rw [hU]; exact hP, hD, va_S.rf, hh⟩
theorem xPre.blind {D : va_G} {A : Nat → Prop} {ρ : List Int} {ad ex : List Nat} {h : List xC} {vs : Array Value} : FrameBlind (fun v U => v = vs ∧ xPre D A ρ ad ex h U) := by
  intro a U g mk hp
  obtain ⟨h1, h2, h3, h4⟩ := hp
  exact ⟨h1, h2, fun w hw hn => xNest_same (u := U) (U := U.calling g mk a) rfl w hn (h3 w hw hn), h4.alikeU (U := U.calling g mk a) rfl (Vm.Alike.refl U.vm)⟩
/-- THE RUN'S LAW -/
theorem xRun_ok (hM : ∀ M ∈ xMt, xMok M) (l : Launch) : ∀ (f d : Nat) (scr : List xI) (ct : List Nat) (M : xMd) (prog : List xQ) (h : List xC) (σ : List xB) (loc : List (Nat × xV)) (stk : List xV) (nc ns : Nat) (outs : List (xQ × xS)), xRun xMt xTb scr ct f d M prog h σ loc stk nc ns = some outs → xRows M → (∀ er ∈ prog, er ∈ M.pg) →
    ∀ {p : Program} {e : Env} {R : Room} {s : State} {m : MethodId} {args : Array Value} {below : List Frame} {meth : Method} {c : Code} {H : Heap} {locs : List Loc} {Q : State → Prop} {ls : Array Slot} {st : List Value} {ρ : List Int} {ad ex : List Nat} {D : va_G} {A : Nat → Prop},
    xCtx p s m args c M.cc M.nl M.yy.cls → ((Nat.beq M.kd 2) = true → meth.name = "<init>") → (∀ q, s.heap.size ≤ q → A q) → d ≤ R.frames → 40 * d ≤ R.locals → M.mc ≤ R.cells → M.ms ≤ R.slots → xRel D A s M.nl M.mc M.ms scr ex ρ ad (h, σ, loc, stk, nc, ns) H locs ls st →
    (∀ q ∈ outs, q.1 ∈ M.pg → ∀ ρ' ad' H' locs' ls' st', xX ρ ρ' → xX ad ad' → xRel D A s M.nl M.mc M.ms scr ex ρ' ad' q.2 H' locs' ls' st' → W p l e R s m args below meth c H' locs' q.2.2.2.2.2.1 q.2.2.2.2.2.2 Q (F0 m q.1.1 ls' st')) →
    ∀ (er : xQ) (nx : List xQ), prog = er :: nx → W p l e R s m args below meth c H locs nc ns Q (F0 m er.1 ls st) := by
  intro f
  induction f with
  | zero =>
    intro d scr ct M prog h σ loc stk nc ns outs hv
    unfold xRun at hv
    cases hv
  | succ f ih =>
    intro d scr ct M prog h σ loc stk nc ns outs hv hRw hpr p e R s m args below meth c H locs Q ls st ρ ad ex D A C hini hA hRf hRl hRC hRS hr k er nx hpe
    subst hpe
    have her := hpr er List.mem_cons_self
    obtain ⟨hok, hck⟩ := hRw er her
    unfold xRun at hv
    cases hstop : (Nat.ble 110 er.2.2.1 || ct.any (Nat.beq er.1)) with
    | true =>
      rw [hstop] at hv
      simp only [cond_true, Option.some.injEq] at hv
      subst hv
      exact k (er, _) (List.mem_singleton.mpr rfl) her ρ ad H locs ls st (xX.rf ρ) (xX.rf ad) hr
    | false =>
      rw [hstop] at hv
      simp only [cond_false] at hv
      have hnx : ∀ e2 ∈ nx.map (xMkP xTb), decode M.cc e2.1 = .ok (e2.2.2.1, e2.2.1) := fun e2 h2 => by
        obtain ⟨z, hz, rfl⟩ := List.mem_map.mp h2
        exact (hRw z (hpr z (List.mem_cons_of_mem _ hz))).1.1
      -- going on at a place
      have on : ∀ (q : Nat × xS) (x : List (xQ × xS)) (d2 : Nat), d2 = d → xRun xMt xTb scr ct f d2 M (xGo M.pg nx q.1) q.2.1 q.2.2.1 q.2.2.2.1 q.2.2.2.2.1 q.2.2.2.2.2.1 q.2.2.2.2.2.2 = some x → (∀ b ∈ x, b ∈ outs) → ∀ ρ' ad' H' locs' ls' st', xX ρ ρ' → xX ad ad' → xRel D A s M.nl M.mc M.ms scr ex ρ' ad' q.2 H' locs' ls' st' → W p l e R s m args below meth c H' locs' q.2.2.2.2.2.1 q.2.2.2.2.2.2 Q (F0 m q.1 ls' st') := by
        intro q x d2 hd2 hx1 hx2 ρ' ad' H' locs' ls' st' hX1 hX2 hr'
        subst hd2
        obtain ⟨qpc, qh, qσ, ql, qs, qc, qn⟩ := q
        cases hg : xGo M.pg nx qpc with
        | nil => dsimp only at hx1; rw [hg] at hx1; exact (xRun_nil hx1).elim
        | cons er' nx' =>
          have hpc := xGo_pc hg
          dsimp only at hx1 ⊢
          rw [hg] at hx1
          rw [← hpc]
          refine ih d2 scr ct M (er' :: nx') qh qσ ql qs qc qn x hx1 hRw (fun z hz => xGo_sub (pc := qpc) (fun z2 h2 => hpr z2 (List.mem_cons_of_mem _ h2)) z (by rw [hg]; exact hz)) C hini hA hRf hRl hRC hRS hr' (fun q2 hq2 hm2 ρ2 ad2 H2 locs2 ls2 st2 hY1 hY2 hr2 => ?_) er' nx' rfl
          exact k q2 (hx2 q2 hq2) hm2 ρ2 ad2 H2 locs2 ls2 st2 (hX1.tr hY1) (hX2.tr hY2) hr2
      cases h50 : Nat.blt er.2.2.1 50 with
      | true =>
        rw [h50] at hv
        simp only [cond_true] at hv
        split at hv
        · cases hv
        · rename_i σ' loc' stk' hF
          refine xStepA_ok (xFA_eq (tb := xTb) (h := h) (nc := nc) (ns := ns) (x_blt h50) hF) C hok.1 hr (fun q hq ρ' ad' H' locs' ls' st' hX1 hX2 hr' => ?_)
          have := List.mem_singleton.mp hq
          subst this
          exact on _ outs d rfl hv (fun b hb => hb) ρ' ad' H' locs' ls' st' hX1 hX2 hr'
      | false =>
       rw [h50] at hv
       simp only [cond_false] at hv
       cases h66 : Nat.blt er.2.2.1 66 with
       | true =>
        rw [h66] at hv
        simp only [cond_true] at hv
        split at hv
        · cases hv
        · rename_i L hF
          refine xStepC_ok (xFC_eq (tb := xTb) (loc := loc) (nc := nc) (ns := ns) hF) C hok hini hr (fun q hq ρ' ad' H' locs' ls' st' hX1 hX2 hr' => ?_)
          obtain ⟨z, hz, rfl⟩ := List.mem_map.mp hq
          obtain ⟨x, hx1, hx2⟩ := xCat_ok hv z hz
          exact on _ x d rfl hx1 hx2 ρ' ad' H' locs' ls' st' hX1 hX2 hr'
       | false =>
        rw [h66] at hv
        simp only [cond_false] at hv
        cases h80 : Nat.blt er.2.2.1 80 with
        | true =>
         rw [h80] at hv
         simp only [cond_true] at hv
         split at hv
         · cases hv
         · rename_i h' σ' stk' nc' ns' hF
           refine xStepD_ok (xFD_eq (tb := xTb) (loc := loc) hF) C hok hA hRf hRl hRC hRS hr (fun q hq ρ' ad' H' locs' ls' st' hX1 hX2 hr' => ?_)
           have := List.mem_singleton.mp hq
           subst this
           exact on _ outs d rfl hv (fun b hb => hb) ρ' ad' H' locs' ls' st' hX1 hX2 hr'
        | false =>
         rw [h80] at hv
         simp only [cond_false] at hv
         cases h100 : Nat.blt er.2.2.1 100 with
         | true =>
          rw [h100] at hv
          simp only [cond_true] at hv
          split at hv
          · cases hv
          · rename_i L stk' hF
            have hsn : xSane M.yy.cls false (xMkP xTb er) = true ∨ xSane M.yy.cls true (xMkP xTb er) = true := by
              have := hok.2.2
              cases hkk : Nat.beq M.kd 2 with
              | true => rw [hkk] at this; exact Or.inr this
              | false => rw [hkk] at this; exact Or.inl this
            refine xStepB_ok (xFB_eq (tb := xTb) (h := h) (loc := loc) (nc := nc) (ns := ns) (x_nblt h80) hF) C hok.1 hsn hnx hr (fun q hq ρ' ad' H' locs' ls' st' hX1 hX2 hr' => ?_)
            obtain ⟨z, hz, rfl⟩ := List.mem_map.mp hq
            obtain ⟨x, hx1, hx2⟩ := xCat_ok hv z hz
            exact on _ x d rfl hx1 hx2 ρ' ad' H' locs' ls' st' hX1 hX2 hr'
         | false =>
          rw [h100] at hv
          simp only [cond_false] at hv
          have h110 : Nat.ble 110 er.2.2.1 = false := by
            cases hq : Nat.ble 110 er.2.2.1 with
            | false => rfl
            | true => rw [hq] at hstop; cases hstop
          unfold xCallOk at hck
          rw [h100, h110] at hck
          simp only [Bool.or_self, cond_false] at hck
          split at hv
          · cases hv
          · rename_i d'
            split at hv
            · cases hv
            · rename_i M' hM'
              rw [hM'] at hck
              dsimp only at hck
              split at hv
              · cases hv
              · rename_i as r htk
                obtain ⟨hchk, hv⟩ := x_bifO hv
                split at hv
                · cases hv
                · rename_i couts hcr
                  obtain ⟨hrets, hv⟩ := x_bifO hv
                  rw [Bool.and_eq_true, Bool.and_eq_true, Bool.and_eq_true] at hchk
                  obtain ⟨⟨⟨c1, c2⟩, c3⟩, c4⟩ := hchk
                  obtain ⟨c4, c5, c6⟩ := x_and3 c4
                  have c1 := Nat.le_of_ble_eq_true c1
                  have c2 := Nat.le_of_ble_eq_true c2
                  have c4 := Nat.eq_of_beq_eq_true c4
                  have c5 := Nat.le_of_ble_eq_true c5
                  have c6 := Nat.le_of_ble_eq_true c6
                  have hmM : M' ∈ xMt := List.mem_of_getElem? hM'
                  obtain ⟨hRw', hnl', hpl', hds', hcw', hiw', hk0', hk1', hk2'⟩ := hM M' hmM
                  have hyo : xYof er = M'.yy := by
                    unfold xYof
                    rw [hM']
                  obtain ⟨hdec, hnd, -⟩ := hok
                  rw [hyo] at hnd
                  obtain ⟨hx, hb, hml, hown, hg, hn0⟩ := id C
                  obtain ⟨hS, hL, hst, hw, hc1, hc2, hsc⟩ := id hr
                  obtain ⟨As, rest, a1, a2, a3, a4⟩ := xtake_ok (aw := []) htk trivial hst
                  rw [List.append_nil] at a1
                  have hsum := xsum_ok a2
                  have hsl := xsl_len a1
                  -- the callee's contract
                  have hMet : Met l M'.yy (Jvm.Cond.code M'.yy M'.cc M'.nl M'.rt :: xU) { frames := d', cells := M'.mc, slots := M'.ms, locals := 40 * d' } (fun v U => v = As.toArray ∧ xPre D A ρ ad ex h U) (fun _ st oc t => (∃ v, oc = .returned v ∧ xPost D A ρ ad ex couts v t) ∧ va_F A st t) M'.mc M'.ms A := by
                    refine Met.ofW (cc := M'.cc) (maxL := M'.nl) (ret := M'.rt) hpl' rfl ?_
                    intro p2 e2 s2 m2 args2 below2 meth2 c2' s₁2 B hml2 hv2
                    obtain ⟨rfl, hA2, hN2, hW2⟩ := hv2
                    have hts2 := atoms_spec (ws := Jvm.Cond.code M'.yy M'.cc M'.nl M'.rt :: xU) B.pre
                    have C2 : xCtx p2 s2 m2 As.toArray c2' M'.cc M'.nl M'.yy.cls := ⟨B.exec, B.bytes, hml2, findClass_of_methodNamed B.named, fun w hw hgw => hts2 w (List.mem_cons_of_mem _ (xU_mem hw hgw)), hN2⟩
                    have hl2 := lv_entry As (n := M'.nl) (by rw [hsl]; exact c2)
                    rw [lg_entry_eq]
                    have hlocks2 := B.notSynchronized
                    have hr2 := B.returns
                    cases hsk : xSeek M'.pg 0 with
                    | nil => rw [hsk] at hcr; exact (xRun_nil hcr).elim
                    | cons er2 nx2 =>
                      have hpc2 := xSeek_pc hsk
                      rw [hsk] at hcr
                      have goal := ih d' [] [] M' (er2 :: nx2) h σ (xArgs 0 as) [] 0 0 couts hcr hRw' (fun z hz => xSeek_sub (pc := 0) z (by rw [hsk]; exact hz)) (p := p2) (e := e2) (R := { frames := d', cells := M'.mc, slots := M'.ms, locals := 40 * d' }) (s := s2) (m := m2) (args := As.toArray) (below := below2) (meth := meth2) (c := c2') (H := s2.heap) (locs := []) (Q := MQ below2 (fun _ st oc t => (∃ v, oc = .returned v ∧ xPost D A ρ ad ex couts v t) ∧ va_F A st t) As.toArray s2 M'.mc M'.ms A) (ls := ((lg_sl As ++ List.replicate (M'.nl - (lg_sl As).length) Slot.unset).toArray)) (st := []) (ρ := ρ) (ad := ad) (ex := ex) (D := D) (A := A) C2
                        (fun hk => by
                          have hk2 := hk2' (Nat.eq_of_beq_eq_true hk)
                          rw [(name_of_methodNamed B.named B.method).1]
                          exact hk2.2.1) hA2 (Nat.le_refl _) (Nat.le_refl _) (Nat.le_refl _) (Nat.le_refl _)
                        ⟨hS, ⟨_, hl2, xArgs_ok a1⟩, trivial, hW2, Nat.zero_le _, Nat.zero_le _, Or.inl rfl⟩ ?_ er2 nx2 rfl
                      · rw [hpc2] at goal
                        exact goal
                      · intro q hq hmq ρ' ad' H' locs' ls' st' hX1 hX2 hrq
                        obtain ⟨qS, qL, qst, qw, qc1, qc2, -⟩ := hrq
                        have hdq : decode M'.cc q.1.1 = .ok (xMkI xTb q.1.2.2.1 q.1.2.2.2.1 q.1.2.2.2.2.2, q.1.2.1) := (hRw' q.1 hmq).1.1
                        have hret := List.all_eq_true.mp hrets q hq
                        obtain ⟨ws, tys, qK, qP, qD, qSS, qh⟩ := qw
                        refine W.widen qc1 qc2 ?_
                        have fin : ∀ (v : Option Value), xAll2 (xv ρ' ad' ex) q.2.2.2.2.1 v.toList → ∀ t : State, t.heap = H' → s2.WarmedH t.vm → ((∃ v', Outcome.returned v = .returned v' ∧ xPost D A ρ ad ex couts v' t) ∧ va_F A s2 t) := fun v hvv t ht hWt =>
                          ⟨⟨v, rfl, q, hq, ρ', ad', hX1, hX2, qS, hvv, ws, tys, qK.moved hWt.alike, by rw [ht]; exact qP, qD, qh⟩, qSS.F ht⟩
                        unfold xRet at hret
                        rw [Bool.and_eq_true] at hret
                        obtain ⟨hl1, hret⟩ := hret
                        have hl1 := Nat.eq_of_beq_eq_true hl1
                        rw [hl1] at hdq
                        split at hret
                        · rename_i hins hrt hstk
                          rw [hins] at hdq
                          rw [hstk] at qst fin
                          have := qst.nil
                          subst this
                          exact W.vret B.exec B.bytes (hr2.trans hrt) (fin none trivial) qSS.2.2 hdq hlocks2
                        · rename_i v0 hins hrt hstk
                          rw [hins] at hdq
                          rw [hstk] at qst fin
                          obtain ⟨w, t', rfl, ⟨z, rfl, hz⟩, qn⟩ := qst.cons
                          have := qn.nil
                          subst this
                          exact W.iret B.exec B.bytes (hr2.trans hrt) (fin (some (.int z)) ⟨⟨z, rfl, hz⟩, trivial⟩) qSS.2.2 hdq hlocks2
                        · rename_i v0 hins hrt hstk
                          rw [hins] at hdq
                          rw [hstk] at qst fin
                          obtain ⟨w, t', rfl, ⟨z, rfl, hz⟩, qn⟩ := qst.cons
                          have := qn.nil
                          subst this
                          split at hret
                          · rename_i rr hrr
                            rw [Bool.and_eq_true, xle_iff, xle_iff] at hret
                            have hzz := xrg_ok qS hz hrr
                            exact W.zret B.exec B.bytes (hr2.trans hrt) (x_narZ (by omega) (by omega)) (fin (some (.int z)) ⟨⟨z, rfl, hz⟩, trivial⟩) qSS.2.2 hdq hlocks2
                          · cases hret
                        · rename_i v0 hins hrt hstk
                          rw [hins] at hdq
                          rw [hstk] at qst fin
                          obtain ⟨w, t', rfl, ⟨z, rfl, hz⟩, qn⟩ := qst.cons
                          have := qn.nil
                          subst this
                          exact W.lret B.exec B.bytes (hr2.trans hrt) (fin (some (.long z)) ⟨⟨z, rfl, hz⟩, trivial⟩) qSS.2.2 hdq hlocks2
                        · rename_i o0 v0 hins hrt hstk
                          rw [hins] at hdq
                          rw [hstk] at qst fin
                          obtain ⟨w, t', rfl, hz, qn⟩ := qst.cons
                          have := qn.nil
                          subst this
                          refine W.aret B.exec B.bytes (hr2.trans hrt) (Or.inl ⟨_, rfl⟩) ?_ (fin (some w) ⟨hz, trivial⟩) qSS.2.2 hdq hlocks2
                          rcases v0 with (_ | v0) | v0
                          · exact Or.inl hz
                          · obtain ⟨z, -, hz⟩ := hz
                            exact Or.inr ⟨z, hz⟩
                          · obtain ⟨z, -, hz⟩ := hz
                            exact Or.inr ⟨z, hz⟩
                        · rename_i o0 v0 hins hrt hstk
                          rw [hins] at hdq
                          rw [hstk] at qst fin
                          obtain ⟨w, t', rfl, hz, qn⟩ := qst.cons
                          have := qn.nil
                          subst this
                          refine W.aret B.exec B.bytes (hr2.trans hrt) (Or.inr ⟨_, rfl⟩) ?_ (fin (some w) ⟨hz, trivial⟩) qSS.2.2 hdq hlocks2
                          rcases v0 with (_ | v0) | v0
                          · exact Or.inl hz
                          · obtain ⟨z, -, hz⟩ := hz
                            exact Or.inr ⟨z, hz⟩
                          · obtain ⟨z, -, hz⟩ := hz
                            exact Or.inr ⟨z, hz⟩
                        · cases hret
                  -- behind the call
                  have after : ∀ (v : Option Value) (t : State) (H1 : Heap) (locs1 : List Loc), t.heap = H1 → s.vm.Alike t.vm → xPost D A ρ ad ex couts v t → va_S A s.heap H1 locs1 → W p l e R s m args below meth c H1 locs1 (nc + M'.mc) (ns + M'.ms) Q (F0 m (er.1 + 3) ls (v.toList ++ rest)) := by
                    intro v t H1 locs1 ht hvm hpost hSS1
                    obtain ⟨q, hq, ρ', ad', hX1, hX2, pS, pst, ws, tys, pK, pP, pD, ph⟩ := hpost
                    obtain ⟨x, hx1, hx2⟩ := xCat_ok hv q hq
                    cases hgo : xGo M.pg nx (er.1 + 3) with
                    | nil => rw [hgo] at hx1; exact (xRun_nil hx1).elim
                    | cons er' nx' =>
                      have hpc := xGo_pc hgo
                      rw [hgo] at hx1
                      rw [← hpc]
                      refine ih (d' + 1) scr ct M (er' :: nx') _ _ _ _ _ _ x hx1 hRw (fun z hz => xGo_sub (pc := er.1 + 3) (fun z2 h2 => hpr z2 (List.mem_cons_of_mem _ h2)) z (by rw [hgo]; exact hz)) C hini hA hRf hRl hRC hRS (ρ := ρ') (ad := ad') ?_ (fun q2 hq2 hm2 ρ2 ad2 H2 locs2 ls2 st2 hY1 hY2 hr2 => k q2 (hx2 q2 hq2) hm2 ρ2 ad2 H2 locs2 ls2 st2 (hX1.tr hY1) (hX2.tr hY2) hr2) er' nx' rfl
                      exact ⟨pS, hL.mono hX1 hX2, pst.app (a2.mono (xv.mono hX1 hX2)), ⟨ws, tys, pK.moved hvm.symm, by rw [← ht]; exact pP, pD, hSS1, ph⟩, c5, c6, hsc.mono hX1⟩
                  obtain ⟨ws0, tys0, hK0, hP0, hD0, hSS0, hh0⟩ := id hw
                  have hpreU : ∀ U : State, U.heap = H → s.WarmedH U.vm → xPre D A ρ ad ex h U := fun U hU hWU =>
                    ⟨fun q hq => hA q (Nat.le_trans hSS0.1 (by rw [← hU]; exact hq)), fun w hw hn => xNest_warm hWU w hn (hn0 w hw hn), hw.alikeU hU hWU.alike⟩
                  have hsz := hL.size
                  have hdec0 : decode M.cc er.1 = .ok (xMkI xTb er.2.2.1 er.2.2.2.1 er.2.2.2.2.2, er.2.1) := hdec
                  rw [c4] at hdec0
                  have hroom : ({ frames := d', cells := M'.mc, slots := M'.ms, locals := 40 * d' } : Room).frames + 1 ≤ R.frames ∧ 8 + (M'.nl + 11) + ({ frames := d', cells := M'.mc, slots := M'.ms, locals := 40 * d' } : Room).locals ≤ R.locals := ⟨by dsimp only; omega, by dsimp only; omega⟩
                  have hcells : nc + M'.mc ≤ R.cells ∧ ns + M'.ms ≤ R.slots := ⟨Nat.le_trans c5 hRC, Nat.le_trans c6 hRS⟩
                  have hgi : GoodIn xU (Jvm.Cond.code M'.yy M'.cc M'.nl M'.rt :: xU) := xGoodIn (fun w hw => by
                    rcases List.mem_cons.mp hw with rfl | hw
                    · exact ⟨hcw', rfl⟩
                    · exact xU_of hw)
                  have hmr : 2 * (F0 m er.1 ls st).monitorRoom + (rest.map fun v => v.category).sum ≤ 8 := by
                    show 2 * 0 + (rest.map fun v => v.category).sum ≤ 8
                    omega
                  have hnd0 : ∀ w ∈ xNeed M.yy.cls M'.yy (er.1, er.2.1, xMkI xTb er.2.2.1 er.2.2.2.1 er.2.2.2.2.2, xGrp er.2.2.1, er.2.2.2.1, er.2.2.2.2.1, er.2.2.2.2.2), w ∈ lw_tbl := hnd
                  -- of an object: the receiver
                  have recv : xStat er.2.2.1 = false → ∃ (b j : Nat) (As' : List Value), As = Value.ref b :: As' ∧ As'.length = M'.na ∧ st = As'.reverse ++ Value.ref b :: rest ∧ ((∃ T1 N1, xcl[M'.ci]? = some (M'.yy.cls, T1, N1)) → ∃ cellB : Cell, H[b]? = some cellB ∧ cellB.vm.isStatics = false ∧ s.vm.findClass M'.yy.cls = some cellB.cls) := by
                    intro hns
                    rw [hns] at a4 c3
                    simp only [cond_false, Bool.false_or] at a4 c3
                    unfold xRecv at c3
                    split at c3
                    · rename_i j as' _
                      split at c3
                      · rename_i o ho
                        have c3 := Nat.eq_of_beq_eq_true c3
                        obtain ⟨w0, As', hAs, ⟨b, hb0, hw0⟩, a1'⟩ := a1.cons
                        subst hw0
                        subst hAs
                        refine ⟨b, j, As', rfl, by simpa using a4, by rw [a3, List.reverse_cons, List.append_assoc]; rfl, ?_⟩
                        intro hcl
                        obtain ⟨T1, N1, hcl1⟩ := hcl
                        obtain ⟨yy, y1, vs, rfl, -⟩ := hh0.at ho hb0
                        rw [c3] at y1
                        exact va_recv hK0 hP0 (ci := M'.ci) (q0 := j) hcl1 y1
                      · cases c3
                    · cases c3
                  split at hck
                  · rename_i hg0
                    have hkd := Nat.eq_of_beq_eq_true hck
                    rw [hg0] at a4 hdec0 hnd0
                    have hw1 : Jvm.Cond.methodLink M.yy.cls er.2.2.2.2.2.toNat M'.yy ∈ lw_tbl := hnd0 _ (List.mem_singleton.mpr rfl)
                    have hcb : CallB R s args M.yy.cls er.2.2.2.2.2.toNat M'.yy M'.cc M'.nl M'.rt (Jvm.Cond.code M'.yy M'.cc M'.nl M'.rt :: xU) { frames := d', cells := M'.mc, slots := M'.ms, locals := 40 * d' } M'.mc M'.ms M'.na := callB_of M'.na C.u hgi rfl rfl rfl (hg _ hiw' rfl) (hg _ hw1 rfl) hds' hroom
                    exact xCall (va_runS (As := As) (rest := rest) ⟨hx, hb, hml, hown, C.u⟩ hMet ⟨hcb, hg _ (hk0' hkd) rfl⟩ ⟨xPre.blind, fun U hU hWU => ⟨rfl, hpreU U hU hWU⟩⟩ rfl a4 hsz a3 hmr hdec0 hcells) hSS0 (fun q _ hq => hq) (fun q hq => hq) after
                  · rename_i hg0
                    have hkd := Nat.eq_of_beq_eq_true hck
                    rw [hg0] at a4 hdec0 hnd0
                    have hw1 : Jvm.Cond.methodLinkNest M.yy.cls er.2.2.2.2.2.toNat M'.yy "StarchGarrison" ∈ lw_tbl := hnd0 _ (List.mem_singleton.mpr rfl)
                    have hcb : va_CN R s args M.yy.cls er.2.2.2.2.2.toNat M'.yy "StarchGarrison" M'.cc M'.nl M'.rt (Jvm.Cond.code M'.yy M'.cc M'.nl M'.rt :: xU) { frames := d', cells := M'.mc, slots := M'.ms, locals := 40 * d' } M'.mc M'.ms M'.na := va_cnB M'.na C.u hgi rfl rfl rfl (hn0 _ hw1 rfl) (hg _ hiw' rfl) hds' hroom
                    exact xCall (va_runSN (As := As) (rest := rest) ⟨hx, hb, hml, hown, C.u⟩ hMet ⟨hcb, hg _ (hk0' hkd) rfl, trivial⟩ ⟨xPre.blind, fun U hU hWU => ⟨rfl, hpreU U hU hWU⟩⟩ rfl a4 hsz a3 hmr hdec0 hcells) hSS0 (fun q _ hq => hq) (fun q hq => hq) after
                  · rename_i hg0
                    have hkd := Nat.eq_of_beq_eq_true hck
                    obtain ⟨hi1, hse1, hcl1⟩ := hk1' hkd
                    obtain ⟨b, j, As', rfl, a4', a3', hrc⟩ := recv (by rw [hg0]; rfl)
                    rw [hg0] at hdec0 hnd0
                    have hw1 : Jvm.Cond.methodLink M.yy.cls er.2.2.2.2.2.toNat M'.yy ∈ lw_tbl := hnd0 _ (List.mem_singleton.mpr rfl)
                    have hcb : CallB R s args M.yy.cls er.2.2.2.2.2.toNat M'.yy M'.cc M'.nl M'.rt (Jvm.Cond.code M'.yy M'.cc M'.nl M'.rt :: xU) { frames := d', cells := M'.mc, slots := M'.ms, locals := 40 * d' } M'.mc M'.ms M'.na := callB_of M'.na C.u hgi rfl rfl rfl (hg _ hiw' rfl) (hg _ hw1 rfl) hds' hroom
                    exact xCall (va_runV (C := M'.yy.cls) (b := b) (As := As') (rest := rest) ⟨hx, hb, hml, hown, C.u⟩ hMet ⟨hcb, hg _ hi1 rfl, hg _ hse1 rfl⟩ ⟨xPre.blind, hrc hcl1, fun U hU hWU => ⟨rfl, hpreU U hU hWU⟩⟩ rfl a4' hsz a3' hmr hdec0 hcells) hSS0 (fun q _ hq => hq) (fun q hq => hq) after
                  · rename_i hg0
                    have hkd := Nat.eq_of_beq_eq_true hck
                    obtain ⟨hi1, hse1, hcl1⟩ := hk1' hkd
                    obtain ⟨b, j, As', rfl, a4', a3', hrc⟩ := recv (by rw [hg0]; rfl)
                    rw [hg0] at hdec0 hnd0
                    have hw1 : Jvm.Cond.methodLinkNest M.yy.cls er.2.2.2.2.2.toNat M'.yy "StarchGarrison" ∈ lw_tbl := hnd0 _ (List.mem_singleton.mpr rfl)
                    have hcb : va_CN R s args M.yy.cls er.2.2.2.2.2.toNat M'.yy "StarchGarrison" M'.cc M'.nl M'.rt (Jvm.Cond.code M'.yy M'.cc M'.nl M'.rt :: xU) { frames := d', cells := M'.mc, slots := M'.ms, locals := 40 * d' } M'.mc M'.ms M'.na := va_cnB M'.na C.u hgi rfl rfl rfl (hn0 _ hw1 rfl) (hg _ hiw' rfl) hds' hroom
                    exact xCall (va_runVN (C := M'.yy.cls) (b := b) (As := As') (rest := rest) ⟨hx, hb, hml, hown, C.u⟩ hMet ⟨hcb, hg _ hi1 rfl, hg _ hse1 rfl⟩ ⟨xPre.blind, hrc hcl1, fun U hU hWU => ⟨rfl, hpreU U hU hWU⟩⟩ rfl a4' hsz a3' hmr hdec0 hcells) hSS0 (fun q _ hq => hq) (fun q hq => hq) after
                  · rename_i hg0
                    have hkd := Nat.eq_of_beq_eq_true hck
                    obtain ⟨hi1, hnm1, hrt1⟩ := hk2' hkd
                    obtain ⟨b, j, As', rfl, a4', a3', hrc⟩ := recv (by rw [hg0]; rfl)
                    rw [hg0] at hdec0 hnd0
                    rw [hrt1] at hMet hgi
                    have hw1 : Jvm.Cond.methodLink M.yy.cls er.2.2.2.2.2.toNat M'.yy ∈ lw_tbl := hnd0 _ (List.mem_singleton.mpr rfl)
                    have hcb : CallB R s args M.yy.cls er.2.2.2.2.2.toNat M'.yy M'.cc M'.nl none (Jvm.Cond.code M'.yy M'.cc M'.nl none :: xU) { frames := d', cells := M'.mc, slots := M'.ms, locals := 40 * d' } M'.mc M'.ms M'.na := callB_of M'.na C.u hgi rfl rfl rfl (hg _ hiw' rfl) (hg _ hw1 rfl) hds' hroom
                    exact xCall (va_runI (b := b) (As := As') (rest := rest) ⟨hx, hb, hml, hown, C.u⟩ hMet ⟨hcb, hnm1, hg _ hi1 rfl⟩ ⟨xPre.blind, fun U hU hWU => ⟨rfl, hpreU U hU hWU⟩⟩ rfl a4' hsz a3' hmr hdec0 hcells) hSS0 (fun q _ hq => hq) (fun q hq => hq) after
                  · rename_i hg0
                    have hkd := Nat.eq_of_beq_eq_true hck
                    obtain ⟨hi1, hnm1, hrt1⟩ := hk2' hkd
                    obtain ⟨b, j, As', rfl, a4', a3', hrc⟩ := recv (by rw [hg0]; rfl)
                    rw [hg0] at hdec0 hnd0
                    rw [hrt1] at hMet hgi
                    have hw1 : Jvm.Cond.methodLinkNest M.yy.cls er.2.2.2.2.2.toNat M'.yy "StarchGarrison" ∈ lw_tbl := hnd0 _ (List.mem_singleton.mpr rfl)
                    have hcb : va_CN R s args M.yy.cls er.2.2.2.2.2.toNat M'.yy "StarchGarrison" M'.cc M'.nl none (Jvm.Cond.code M'.yy M'.cc M'.nl none :: xU) { frames := d', cells := M'.mc, slots := M'.ms, locals := 40 * d' } M'.mc M'.ms M'.na := va_cnB M'.na C.u hgi rfl rfl rfl (hn0 _ hw1 rfl) (hg _ hiw' rfl) hds' hroom
                    exact xCall (va_runIN (b := b) (As := As') (rest := rest) ⟨hx, hb, hml, hown, C.u⟩ hMet ⟨hcb, hnm1, hg _ hi1 rfl⟩ ⟨xPre.blind, fun U hU hWU => ⟨rfl, hpreU U hU hWU⟩⟩ rfl a4' hsz a3' hmr hdec0 hcells) hSS0 (fun q _ hq => hq) (fun q hq => hq) after
                  · cases hck
