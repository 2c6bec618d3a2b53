/-! A call, whatever is known of the callee. -/
section XI
variable {p : Program} {l : Launch} {e : Env} {R : Room} {s : State} {m : MethodId} {args : Array Value} {below : List Frame} {meth : Method} {c : Code} {H : Heap} {locs : List Loc} {cells slots : Nat} {Q : State → Prop} {pc : Nat} {ls : Array Slot} {rest st0 : List Value} {a : Array Value} {A0 A1 : Nat → Prop} {H0 : Heap} {mc ms : Nat} {free : Addr → Prop}
/-- behind a call: the answer, and what stayed -/
theorem xCall2 {Post : Option Value → State → Prop} (hr : va_Run p l e R s m args below meth c H locs cells slots mc ms (F0 m pc ls st0) rest (fun st oc t => (∃ v, oc = .returned v ∧ Post v t) ∧ va_F A1 st t) free) (hS : va_S A0 H0 H locs) (hA : ∀ q, q < H.size → A1 q → A0 q) (hf : ∀ q, free q → A0 q)
    (kk : ∀ (v : Option Value) (t : State) (H1 : Heap) (locs1 : List Loc), t.heap = H1 → s.vm.Alike t.vm → Post v t → (∀ q : Nat, q < H.size → ¬ A1 q → H1[q]? = H[q]?) → va_S A0 H0 H1 locs1 → W p l e R s m args below meth c H1 locs1 (cells + mc) (slots + ms) Q (F0 m (pc + 3) ls (v.toList ++ rest))) : W p l e R s m args below meth c H locs cells slots Q (F0 m pc ls st0) := by
  intro T hT X
  obtain ⟨v, st₀, t, T', L, h0, X', hL, e1, e2, ⟨⟨r, hv, hp⟩, hz, hk⟩, st⟩ := hr T hT X
  cases hv
  rw [h0] at hz hk
  obtain ⟨t2, a1, b1⟩ := kk v t T'.heap (locs ++ L) e1.symm (by rw [← e2]; exact X'.warmed.alike) hp (fun q h1 h2 => by rw [e1]; exact hk q h1 h2)
    ⟨Nat.le_trans hS.1 (by rw [e1]; exact hz), fun q h1 h2 => by rw [e1, hk q (Nat.lt_of_lt_of_le h1 hS.1) (fun z => h2 (hA q (Nat.lt_of_lt_of_le h1 hS.1) z))]; exact hS.2.1 q h1 h2, fun q hq => by
      rcases List.mem_append.mp hq with h | h
      · exact hS.2.2 q h
      · exact hf _ (hL q h)⟩ T' rfl X'
  exact ⟨t2, st t2 a1, b1⟩
end XI
/-- A CALL: of a method whose contract is known -/
theorem xInvoke (hM : ∀ M ∈ xMt, xMok M) (l : Launch) {p : Program} {e : Env} {R : Room} {s : State} {m : MethodId} {args : Array Value} {below : List Frame} {meth : Method} {c : Code} {H : Heap} {locs : List Loc} {Q : State → Prop} {ls : Array Slot} {st rest As : List Value} {ρ : List Int} {ad ex : List Nat} {D : va_G} {A A1 : Nat → Prop} {M M' : xMd} {er : xQ} {d' nc ns : Nat} {h : List xC} {as : List xV} {loc : List (Nat × xV)} {Pre : State → Prop} {Post : Option Value → State → Prop}
    (C : xCtx p s m args c M.cc M.nl M.yy.cls) (hok : xRowOk M.yy.cls (Nat.beq M.kd 2) M.cc (xYof er) (xMkP xTb er)) (hM' : xMt[er.2.2.2.1]? = some M') (hck : (match er.2.2.1 with
    | 100 => Nat.beq M'.kd 0
    | 101 => Nat.beq M'.kd 0
    | 102 => Nat.beq M'.kd 1
    | 103 => Nat.beq M'.kd 1
    | 104 => Nat.beq M'.kd 2
    | 105 => Nat.beq M'.kd 2
    | _ => false) = true) (hRf : d' + 1 ≤ R.frames) (hRl : 40 * (d' + 1) ≤ R.locals) (hcells : nc + M'.mc ≤ R.cells ∧ ns + M'.ms ≤ R.slots) (c3 : (xStat er.2.2.1 || xRecv h M'.ci as) = true) (c4 : er.2.1 = 3) (hsumr : (rest.map fun v => v.category).sum ≤ 8) (a1 : xAll2 (xv ρ ad ex) as As) (a3 : st = As.reverse ++ rest) (a4 : As.length = (bif xStat er.2.2.1 then M'.na else M'.na + 1)) (hL : xLo ρ ad ex M.nl loc ls) (hw : xWd D A s H locs ρ ad ex h)
    (hMet : Met l M'.yy (Jvm.Cond.code M'.yy M'.cc M'.nl M'.rt :: xU) { frames := d', cells := M'.mc, slots := M'.ms, locals := 40 * d' } (fun v U => v = As.toArray ∧ Pre U) (fun _ st oc t => (∃ v, oc = .returned v ∧ Post v t) ∧ va_F A1 st t) M'.mc M'.ms A1) (hbl : FrameBlind (fun v U => v = As.toArray ∧ Pre U)) (hpreU : ∀ U : State, U.heap = H → s.WarmedH U.vm → Pre U) (hA1 : ∀ q, q < H.size → A1 q → A q) (hA2 : ∀ q, A1 q → A q)
    (after : ∀ (v : Option Value) (t : State) (H1 : Heap) (locs1 : List Loc), t.heap = H1 → s.vm.Alike t.vm → Post v t → (∀ q : Nat, q < H.size → ¬ A1 q → H1[q]? = H[q]?) → va_S A s.heap H1 locs1 → W p l e R s m args below meth c H1 locs1 (nc + M'.mc) (ns + M'.ms) Q (F0 m (er.1 + 3) ls (v.toList ++ rest))) : W p l e R s m args below meth c H locs nc ns Q (F0 m er.1 ls st) := by
  have hmM : M' ∈ xMt := List.mem_of_getElem? hM'
  obtain ⟨hRw', hnl', hpl', hds', hcw', hiw', hk0', hk1', hk2'⟩ := hM M' hmM
  have hyo : xYof er = M'.yy := by
    unfold xYof
    rw [hM']
  obtain ⟨hdec, hnd, -⟩ := hok
  rw [hyo] at hnd
  obtain ⟨hx, hb, hml, hown, hg, hn0⟩ := id C
  obtain ⟨ws0, tys0, hK0, hP0, hD0, hSS0, hh0⟩ := id hw
  have hsz := hL.size
  have hdec0 : decode M.cc er.1 = .ok (xMkI xTb er.2.2.1 er.2.2.2.1 er.2.2.2.2.2, er.2.1) := hdec
  rw [c4] at hdec0
  have hroom : ({ frames := d', cells := M'.mc, slots := M'.ms, locals := 40 * d' } : Room).frames + 1 ≤ R.frames ∧ 8 + (M'.nl + 11) + ({ frames := d', cells := M'.mc, slots := M'.ms, locals := 40 * d' } : Room).locals ≤ R.locals := ⟨by dsimp only; omega, by dsimp only; omega⟩
  have hgi : GoodIn xU (Jvm.Cond.code M'.yy M'.cc M'.nl M'.rt :: xU) := xGoodIn (fun w hw => by
    rcases List.mem_cons.mp hw with rfl | hw
    · exact ⟨hcw', rfl⟩
    · exact xU_of hw)
  have hmr : 2 * (F0 m er.1 ls st).monitorRoom + (rest.map fun v => v.category).sum ≤ 8 := by
    show 2 * 0 + (rest.map fun v => v.category).sum ≤ 8
    omega
  have hnd0 : ∀ w ∈ xNeed M.yy.cls M'.yy (er.1, er.2.1, xMkI xTb er.2.2.1 er.2.2.2.1 er.2.2.2.2.2, xGrp er.2.2.1, er.2.2.2.1, er.2.2.2.2.1, er.2.2.2.2.2), w ∈ lw_tbl := hnd
  -- of an object: the receiver
  have recv : xStat er.2.2.1 = false → ∃ (b j : Nat) (As' : List Value), As = Value.ref b :: As' ∧ As'.length = M'.na ∧ st = As'.reverse ++ Value.ref b :: rest ∧ ((∃ T1 N1, xcl[M'.ci]? = some (M'.yy.cls, T1, N1)) → ∃ cellB : Cell, H[b]? = some cellB ∧ cellB.vm.isStatics = false ∧ s.vm.findClass M'.yy.cls = some cellB.cls) := by
    intro hns
    rw [hns] at a4 c3
    simp only [cond_false, Bool.false_or] at a4 c3
    unfold xRecv at c3
    split at c3
    · rename_i j as'
      split at c3
      · rename_i o ho
        have c3 := Nat.eq_of_beq_eq_true c3
        obtain ⟨w0, As', hAs, ⟨b, hb0, hw0⟩, a1'⟩ := a1.cons
        subst hw0
        subst hAs
        refine ⟨b, j, As', rfl, by simpa using a4, by rw [a3, List.reverse_cons, List.append_assoc]; rfl, ?_⟩
        intro hcl
        obtain ⟨T1, N1, hcl1⟩ := hcl
        obtain ⟨yy, y1, vs, rfl, -⟩ := hh0.at ho hb0
        rw [c3] at y1
        exact va_recv hK0 hP0 (ci := M'.ci) (q0 := j) hcl1 y1
      · cases c3
    · cases c3
  split at hck
  · rename_i hg0
    have hkd := Nat.eq_of_beq_eq_true hck
    rw [hg0] at a4 hdec0 hnd0
    have hw1 : Jvm.Cond.methodLink M.yy.cls er.2.2.2.2.2.toNat M'.yy ∈ lw_tbl := hnd0 _ (List.mem_singleton.mpr rfl)
    have hcb : CallB R s args M.yy.cls er.2.2.2.2.2.toNat M'.yy M'.cc M'.nl M'.rt (Jvm.Cond.code M'.yy M'.cc M'.nl M'.rt :: xU) { frames := d', cells := M'.mc, slots := M'.ms, locals := 40 * d' } M'.mc M'.ms M'.na := callB_of M'.na C.u hgi rfl rfl rfl (hg _ hiw' rfl) (hg _ hw1 rfl) hds' hroom
    exact xCall2 (va_runS (As := As) (rest := rest) ⟨hx, hb, hml, hown, C.u⟩ hMet ⟨hcb, hg _ (hk0' hkd) rfl⟩ ⟨hbl, fun U hU hWU => ⟨rfl, hpreU U hU hWU⟩⟩ rfl a4 hsz a3 hmr hdec0 hcells) hSS0 hA1 hA2 after
  · rename_i hg0
    have hkd := Nat.eq_of_beq_eq_true hck
    rw [hg0] at a4 hdec0 hnd0
    have hw1 : Jvm.Cond.methodLinkNest M.yy.cls er.2.2.2.2.2.toNat M'.yy "StarchGarrison" ∈ lw_tbl := hnd0 _ (List.mem_singleton.mpr rfl)
    have hcb : va_CN R s args M.yy.cls er.2.2.2.2.2.toNat M'.yy "StarchGarrison" M'.cc M'.nl M'.rt (Jvm.Cond.code M'.yy M'.cc M'.nl M'.rt :: xU) { frames := d', cells := M'.mc, slots := M'.ms, locals := 40 * d' } M'.mc M'.ms M'.na := va_cnB M'.na C.u hgi rfl rfl rfl (hn0 _ hw1 rfl) (hg _ hiw' rfl) hds' hroom
    exact xCall2 (va_runSN (As := As) (rest := rest) ⟨hx, hb, hml, hown, C.u⟩ hMet ⟨hcb, hg _ (hk0' hkd) rfl, trivial⟩ ⟨hbl, fun U hU hWU => ⟨rfl, hpreU U hU hWU⟩⟩ rfl a4 hsz a3 hmr hdec0 hcells) hSS0 hA1 hA2 after
  · rename_i hg0
    have hkd := Nat.eq_of_beq_eq_true hck
    obtain ⟨hi1, hse1, hcl1⟩ := hk1' hkd
    obtain ⟨b, j, As', rfl, a4', a3', hrc⟩ := recv (by rw [hg0]; rfl)
    rw [hg0] at hdec0 hnd0
    have hw1 : Jvm.Cond.methodLink M.yy.cls er.2.2.2.2.2.toNat M'.yy ∈ lw_tbl := hnd0 _ (List.mem_singleton.mpr rfl)
    have hcb : CallB R s args M.yy.cls er.2.2.2.2.2.toNat M'.yy M'.cc M'.nl M'.rt (Jvm.Cond.code M'.yy M'.cc M'.nl M'.rt :: xU) { frames := d', cells := M'.mc, slots := M'.ms, locals := 40 * d' } M'.mc M'.ms M'.na := callB_of M'.na C.u hgi rfl rfl rfl (hg _ hiw' rfl) (hg _ hw1 rfl) hds' hroom
    exact xCall2 (va_runV (C := M'.yy.cls) (b := b) (As := As') (rest := rest) ⟨hx, hb, hml, hown, C.u⟩ hMet ⟨hcb, hg _ hi1 rfl, hg _ hse1 rfl⟩ ⟨hbl, hrc hcl1, fun U hU hWU => ⟨rfl, hpreU U hU hWU⟩⟩ rfl a4' hsz a3' hmr hdec0 hcells) hSS0 hA1 hA2 after
  · rename_i hg0
    have hkd := Nat.eq_of_beq_eq_true hck
    obtain ⟨hi1, hse1, hcl1⟩ := hk1' hkd
    obtain ⟨b, j, As', rfl, a4', a3', hrc⟩ := recv (by rw [hg0]; rfl)
    rw [hg0] at hdec0 hnd0
    have hw1 : Jvm.Cond.methodLinkNest M.yy.cls er.2.2.2.2.2.toNat M'.yy "StarchGarrison" ∈ lw_tbl := hnd0 _ (List.mem_singleton.mpr rfl)
    have hcb : va_CN R s args M.yy.cls er.2.2.2.2.2.toNat M'.yy "StarchGarrison" M'.cc M'.nl M'.rt (Jvm.Cond.code M'.yy M'.cc M'.nl M'.rt :: xU) { frames := d', cells := M'.mc, slots := M'.ms, locals := 40 * d' } M'.mc M'.ms M'.na := va_cnB M'.na C.u hgi rfl rfl rfl (hn0 _ hw1 rfl) (hg _ hiw' rfl) hds' hroom
    exact xCall2 (va_runVN (C := M'.yy.cls) (b := b) (As := As') (rest := rest) ⟨hx, hb, hml, hown, C.u⟩ hMet ⟨hcb, hg _ hi1 rfl, hg _ hse1 rfl⟩ ⟨hbl, hrc hcl1, fun U hU hWU => ⟨rfl, hpreU U hU hWU⟩⟩ rfl a4' hsz a3' hmr hdec0 hcells) hSS0 hA1 hA2 after
  · rename_i hg0
    have hkd := Nat.eq_of_beq_eq_true hck
    obtain ⟨hi1, hnm1, hrt1⟩ := hk2' hkd
    obtain ⟨b, j, As', rfl, a4', a3', hrc⟩ := recv (by rw [hg0]; rfl)
    rw [hg0] at hdec0 hnd0
    rw [hrt1] at hMet hgi
    have hw1 : Jvm.Cond.methodLink M.yy.cls er.2.2.2.2.2.toNat M'.yy ∈ lw_tbl := hnd0 _ (List.mem_singleton.mpr rfl)
    have hcb : CallB R s args M.yy.cls er.2.2.2.2.2.toNat M'.yy M'.cc M'.nl none (Jvm.Cond.code M'.yy M'.cc M'.nl none :: xU) { frames := d', cells := M'.mc, slots := M'.ms, locals := 40 * d' } M'.mc M'.ms M'.na := callB_of M'.na C.u hgi rfl rfl rfl (hg _ hiw' rfl) (hg _ hw1 rfl) hds' hroom
    exact xCall2 (va_runI (b := b) (As := As') (rest := rest) ⟨hx, hb, hml, hown, C.u⟩ hMet ⟨hcb, hnm1, hg _ hi1 rfl⟩ ⟨hbl, fun U hU hWU => ⟨rfl, hpreU U hU hWU⟩⟩ rfl a4' hsz a3' hmr hdec0 hcells) hSS0 hA1 hA2 after
  · rename_i hg0
    have hkd := Nat.eq_of_beq_eq_true hck
    obtain ⟨hi1, hnm1, hrt1⟩ := hk2' hkd
    obtain ⟨b, j, As', rfl, a4', a3', hrc⟩ := recv (by rw [hg0]; rfl)
    rw [hg0] at hdec0 hnd0
    rw [hrt1] at hMet hgi
    have hw1 : Jvm.Cond.methodLinkNest M.yy.cls er.2.2.2.2.2.toNat M'.yy "StarchGarrison" ∈ lw_tbl := hnd0 _ (List.mem_singleton.mpr rfl)
    have hcb : va_CN R s args M.yy.cls er.2.2.2.2.2.toNat M'.yy "StarchGarrison" M'.cc M'.nl none (Jvm.Cond.code M'.yy M'.cc M'.nl none :: xU) { frames := d', cells := M'.mc, slots := M'.ms, locals := 40 * d' } M'.mc M'.ms M'.na := va_cnB M'.na C.u hgi rfl rfl rfl (hn0 _ hw1 rfl) (hg _ hiw' rfl) hds' hroom
    exact xCall2 (va_runIN (b := b) (As := As') (rest := rest) ⟨hx, hb, hml, hown, C.u⟩ hMet ⟨hcb, hnm1, hg _ hi1 rfl⟩ ⟨hbl, fun U hU hWU => ⟨rfl, hpreU U hU hWU⟩⟩ rfl a4' hsz a3' hmr hdec0 hcells) hSS0 hA1 hA2 after
  · cases hck
