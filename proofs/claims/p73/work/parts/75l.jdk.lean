/-! Calls of the JDK's methods that write nothing. -/
abbrev xNo : Nat → Prop := fun _ => False
section XJ
variable {p : Program} {l : Launch} {e : Env} {R : Room} {s : State} {m : MethodId} {args : Array Value} {below : List Frame} {meth : Method} {c : Code} {H : Heap} {locs : List Loc} {nc ns : Nat} {Q : State → Prop} {cc0 : ByteArray} {pc : Nat} {ls : Array Slot} {rest : List Value} {A : Nat → Prop} {H0 : Heap} {own : String}
theorem xJsub (hu : ∀ w ∈ lw_tbl, goodWord w = true → w.before args s = true) : ∀ w ∈ xU, w.before args s = true := fun w hw => hu w (xU_of hw).1 (xU_of hw).2
theorem xJgood {w0 : Jvm.Cond} (h : w0 ∈ lw_tbl) (hg : goodWord w0 = true) : GoodIn xU (w0 :: xU) := xGoodIn (fun w hw => by
  rcases List.mem_cons.mp hw with rfl | hw
  · exact ⟨h, hg⟩
  · exact xU_of hw)
theorem xJcallV (hx : p.tables.exec = Jvm.exec) (hb : c.code = cc0) (hml : c.maxLocals = ls.size) (hown : s.vm.findClass own = some m.cls) (hu : ∀ w ∈ lw_tbl, goodWord w = true → w.before args s = true) {y : MethodName} {cc : ByteArray} {nl na idx d' b : Nat} {rt : Option FieldType} {As : List Value} {Pre : State → Prop} {Post : Option Value → State → Prop}
    (hcw : Jvm.Cond.code y cc nl rt ∈ lw_tbl) (hiw : Jvm.Cond.initialized y.cls ∈ lw_tbl) (hin : Jvm.Cond.instanceMethod y ∈ lw_tbl) (hse : Jvm.Cond.selects y.cls y y ∈ lw_tbl) (hlk : Jvm.Cond.methodLink own idx y ∈ lw_tbl) (hds : y.cls ≠ "java/lang/invoke/MethodHandle" ∧ y.cls ≠ "java/lang/invoke/VarHandle" ∧ (parseMethodDescriptor y.desc).map (fun d => d.parameters.length) = some na)
    (hMet : Met l y (Jvm.Cond.code y cc nl rt :: xU) { frames := d', cells := 0, slots := 0, locals := 40 * d' } (fun v U => v = (Value.ref b :: As).toArray ∧ Pre U) (fun _ st oc t => (∃ v, oc = .returned v ∧ Post v t) ∧ va_F xNo st t) 0 0 xNo) (hbl : FrameBlind (fun v U => v = (Value.ref b :: As).toArray ∧ Pre U)) (hrc : ∃ cellB : Cell, H[b]? = some cellB ∧ cellB.vm.isStatics = false ∧ s.vm.findClass y.cls = some cellB.cls) (hpre : ∀ U : State, U.heap = H → s.WarmedH U.vm → Pre U) (hS : va_S A H0 H locs) (hRf : d' + 1 ≤ R.frames) (hRl : 40 * (d' + 1) ≤ R.locals) (hnl : nl ≤ 21) (hsum : (rest.map fun v => v.category).sum ≤ 8) (hlen : As.length = na) (hc1 : nc ≤ R.cells) (hc2 : ns ≤ R.slots) (hd : decode cc0 pc = .ok (.invokevirtual idx, 3))
    (kk : ∀ (v : Option Value) (t : State) (H1 : Heap) (locs1 : List Loc), t.heap = H1 → Post v t → (∀ q : Nat, q < H.size → H1[q]? = H[q]?) → va_S A H0 H1 locs1 → W p l e R s m args below meth c H1 locs1 nc ns Q (F0 m (pc + 3) ls (v.toList ++ rest))) : W p l e R s m args below meth c H locs nc ns Q (F0 m pc ls (As.reverse ++ .ref b :: rest)) := by
  have hcb : CallB R s args own idx y cc nl rt (Jvm.Cond.code y cc nl rt :: xU) { frames := d', cells := 0, slots := 0, locals := 40 * d' } 0 0 na := callB_of na (xJsub hu) (xJgood hcw rfl) rfl rfl rfl (hu _ hiw rfl) (hu _ hlk rfl) hds ⟨by dsimp only; omega, by dsimp only; omega⟩
  exact xCall2 (va_runV (C := y.cls) (b := b) (As := As) (rest := rest) ⟨hx, hb, hml, hown, xJsub hu⟩ hMet ⟨hcb, hu _ hin rfl, hu _ hse rfl⟩ ⟨hbl, hrc, fun U hU hWU => ⟨rfl, hpre U hU hWU⟩⟩ rfl hlen rfl rfl (by show 2 * 0 + (rest.map fun v => v.category).sum ≤ 8; omega) hd ⟨by omega, by omega⟩) hS (fun _ _ h => h.elim) (fun _ h => h.elim) (fun v t H1 locs1 h1 _ h3 h4 h5 => kk v t H1 locs1 h1 h3 (fun q hq => h4 q hq (fun h => h)) h5)
theorem xJcallS (hx : p.tables.exec = Jvm.exec) (hb : c.code = cc0) (hml : c.maxLocals = ls.size) (hown : s.vm.findClass own = some m.cls) (hu : ∀ w ∈ lw_tbl, goodWord w = true → w.before args s = true) {y : MethodName} {cc : ByteArray} {nl na idx d' : Nat} {rt : Option FieldType} {As : List Value} {Pre : State → Prop} {Post : Option Value → State → Prop}
    (hcw : Jvm.Cond.code y cc nl rt ∈ lw_tbl) (hiw : Jvm.Cond.initialized y.cls ∈ lw_tbl) (hst : Jvm.Cond.static y ∈ lw_tbl) (hlk : Jvm.Cond.methodLink own idx y ∈ lw_tbl) (hds : y.cls ≠ "java/lang/invoke/MethodHandle" ∧ y.cls ≠ "java/lang/invoke/VarHandle" ∧ (parseMethodDescriptor y.desc).map (fun d => d.parameters.length) = some na)
    (hMet : Met l y (Jvm.Cond.code y cc nl rt :: xU) { frames := d', cells := 0, slots := 0, locals := 40 * d' } (fun v U => v = As.toArray ∧ Pre U) (fun _ st oc t => (∃ v, oc = .returned v ∧ Post v t) ∧ va_F xNo st t) 0 0 xNo) (hbl : FrameBlind (fun v U => v = As.toArray ∧ Pre U)) (hpre : ∀ U : State, U.heap = H → s.WarmedH U.vm → Pre U) (hS : va_S A H0 H locs) (hRf : d' + 1 ≤ R.frames) (hRl : 40 * (d' + 1) ≤ R.locals) (hnl : nl ≤ 21) (hsum : (rest.map fun v => v.category).sum ≤ 8) (hlen : As.length = na) (hc1 : nc ≤ R.cells) (hc2 : ns ≤ R.slots) (hd : decode cc0 pc = .ok (.invokestatic idx, 3))
    (kk : ∀ (v : Option Value) (t : State) (H1 : Heap) (locs1 : List Loc), t.heap = H1 → Post v t → (∀ q : Nat, q < H.size → H1[q]? = H[q]?) → va_S A H0 H1 locs1 → W p l e R s m args below meth c H1 locs1 nc ns Q (F0 m (pc + 3) ls (v.toList ++ rest))) : W p l e R s m args below meth c H locs nc ns Q (F0 m pc ls (As.reverse ++ rest)) := by
  have hcb : CallB R s args own idx y cc nl rt (Jvm.Cond.code y cc nl rt :: xU) { frames := d', cells := 0, slots := 0, locals := 40 * d' } 0 0 na := callB_of na (xJsub hu) (xJgood hcw rfl) rfl rfl rfl (hu _ hiw rfl) (hu _ hlk rfl) hds ⟨by dsimp only; omega, by dsimp only; omega⟩
  exact xCall2 (va_runS (As := As) (rest := rest) ⟨hx, hb, hml, hown, xJsub hu⟩ hMet ⟨hcb, hu _ hst rfl⟩ ⟨hbl, fun U hU hWU => ⟨rfl, hpre U hU hWU⟩⟩ rfl hlen rfl rfl (by show 2 * 0 + (rest.map fun v => v.category).sum ≤ 8; omega) hd ⟨by omega, by omega⟩) hS (fun _ _ h => h.elim) (fun _ h => h.elim) (fun v t H1 locs1 h1 _ h3 h4 h5 => kk v t H1 locs1 h1 h3 (fun q hq => h4 q hq (fun h => h)) h5)
end XJ
theorem xGloBlind {A : Nat → Prop} {ex : List Nat} {vs : Array Value} : FrameBlind (fun v U => v = vs ∧ xGlo A U ex) := by
  intro a U g mk hp
  exact ⟨hp.1, hp.2.same (U := U.calling g mk a) rfl rfl⟩
theorem xGloIn {A : Nat → Prop} {s : State} {ex : List Nat} {H : Heap} {locs : List Loc} (h : xGlo A s ex) (hS : va_S A s.heap H locs) : ∀ U : State, U.heap = H → s.WarmedH U.vm → xGlo A U ex := fun U hU hW => h.call hU hW hS (fun _ q => q) (fun _ _ => rfl) h.1
/-- what a JDK method's start gives -/
theorem xJws {w0 : Jvm.Cond} {args : Array Value} {s : State} (h : ∀ w ∈ (w0 :: xU), w.before args s = true) : ∀ w ∈ lw_tbl, goodWord w = true → w.before args s = true := fun w hw hg => h w (List.mem_cons_of_mem _ (xU_mem hw hg))
theorem xSrf {A : Nat → Prop} {H : Heap} : va_S A H H [] := va_S.rf
/-- coder: 0 -/
theorem xJ_cod (l : Launch) (d : Nat) {A : Nat → Prop} {ex : List Nat} {k : Nat} (hk : k < 17) : Met l yJ0_coder_7d493 (Jvm.Cond.code yJ0_coder_7d493 cJ0_coder_7d493 1 (some .byte) :: xU) { frames := d, cells := 0, slots := 0, locals := 40 * d } (fun v U => v = ([.ref (xexa ex (k + 1))] : List Value).toArray ∧ xGlo A U ex) (fun _ st oc t => (∃ v, oc = .returned v ∧ v = some (.int 0)) ∧ va_F xNo st t) 0 0 xNo := by
  refine Met.ofW (cc := cJ0_coder_7d493) (maxL := 1) (ret := some .byte) (by decide) rfl ?_
  intro p e s m args below meth c s₁ B hml hv
  obtain ⟨rfl, hgl⟩ := hv
  have hu := xJws (atoms_spec (ws := Jvm.Cond.code yJ0_coder_7d493 cJ0_coder_7d493 1 (some .byte) :: xU) B.pre)
  have hx := B.exec
  have hb := B.bytes
  have hown := findClass_of_methodNamed B.named
  obtain ⟨-, -, -, ⟨adV, hs⟩, -, hcs, -⟩ := id hgl
  have hl := lv_entry ([.ref (xexa ex (k + 1))]) (n := 1) (Nat.le_of_ble_eq_true rfl)
  rw [lg_entry_eq]
  generalize (lg_sl ([.ref (xexa ex (k + 1))]) ++ List.replicate (1 - (lg_sl ([.ref (xexa ex (k + 1))])).length) Slot.unset).toArray = ls at hl ⊢
  have hl : lv_has ls 1 [(0, .ref (xexa ex (k + 1)))] := hl
  refine va_gets (A := A) hx hb hcs xSrf hown (hu _ xj_f1 rfl) (fun _ q => q) (by decide +kernel) ?_
  refine lv_if_eq hx hb (off := 10) (tgt := 13) (by decide +kernel) (by decide) (fun h => absurd h (by decide)) (fun _ => ?_)
  refine lv_aload_n hx hb (k := 0) (by decide +kernel) rfl (lv_at hl 0 rfl) ?_
  refine vk_getf (A := A) hx hb (hs.1 k hk).2.1 xSrf hown (hu _ xj_f2 rfl) (fun _ q => q) (by decide +kernel) ?_
  refine lv_goto hx hb (off := 4) (tgt := 14) (by decide +kernel) (by decide) ?_
  exact W.zret (ty := .byte) hx hb B.returns (by decide) (fun t ht hW => ⟨⟨_, rfl, rfl⟩, by rw [va_F, ht]; exact ⟨Nat.le_refl _, fun _ _ _ => rfl⟩⟩) (fun q hq => absurd hq List.not_mem_nil) (by decide +kernel) B.notSynchronized
/-- isLatin1: 1 -/
theorem xJ_lat (l : Launch) (d : Nat) {A : Nat → Prop} {ex : List Nat} {k : Nat} (hk : k < 17) : Met l yJ0_isLatin1_aae02 (Jvm.Cond.code yJ0_isLatin1_aae02 cJ0_isLatin1_aae02 1 (some .boolean) :: xU) { frames := d, cells := 0, slots := 0, locals := 40 * d } (fun v U => v = ([.ref (xexa ex (k + 1))] : List Value).toArray ∧ xGlo A U ex) (fun _ st oc t => (∃ v, oc = .returned v ∧ v = some (.int 1)) ∧ va_F xNo st t) 0 0 xNo := by
  refine Met.ofW (cc := cJ0_isLatin1_aae02) (maxL := 1) (ret := some .boolean) (by decide) rfl ?_
  intro p e s m args below meth c s₁ B hml hv
  obtain ⟨rfl, hgl⟩ := hv
  have hu := xJws (atoms_spec (ws := Jvm.Cond.code yJ0_isLatin1_aae02 cJ0_isLatin1_aae02 1 (some .boolean) :: xU) B.pre)
  have hx := B.exec
  have hb := B.bytes
  have hown := findClass_of_methodNamed B.named
  obtain ⟨-, -, -, ⟨adV, hs⟩, -, hcs, -⟩ := id hgl
  have hl := lv_entry ([.ref (xexa ex (k + 1))]) (n := 1) (Nat.le_of_ble_eq_true rfl)
  rw [lg_entry_eq]
  generalize (lg_sl ([.ref (xexa ex (k + 1))]) ++ List.replicate (1 - (lg_sl ([.ref (xexa ex (k + 1))])).length) Slot.unset).toArray = ls at hl ⊢
  have hl : lv_has ls 1 [(0, .ref (xexa ex (k + 1)))] := hl
  refine va_gets (A := A) hx hb hcs xSrf hown (hu _ xj_f1 rfl) (fun _ q => q) (by decide +kernel) ?_
  refine lv_if_eq hx hb (off := 14) (tgt := 17) (by decide +kernel) (by decide) (fun h => absurd h (by decide)) (fun _ => ?_)
  refine lv_aload_n hx hb (k := 0) (by decide +kernel) rfl (lv_at hl 0 rfl) ?_
  refine vk_getf (A := A) hx hb (hs.1 k hk).2.1 xSrf hown (hu _ xj_f2 rfl) (fun _ q => q) (by decide +kernel) ?_
  refine lv_if_ne hx hb (off := 7) (tgt := 17) (by decide +kernel) (by decide) (fun h => absurd rfl h) (fun _ => ?_)
  refine lv_iconst hx hb (show decode cJ0_isLatin1_aae02 13 = .ok (.iconst 1, 1) by decide +kernel) rfl ?_
  refine lv_goto hx hb (off := 4) (tgt := 18) (by decide +kernel) (by decide) ?_
  exact W.zret (ty := .boolean) hx hb B.returns (by decide) (fun t ht hW => ⟨⟨_, rfl, by decide⟩, by rw [va_F, ht]; exact ⟨Nat.le_refl _, fun _ _ _ => rfl⟩⟩) (fun q hq => absurd hq List.not_mem_nil) (by decide +kernel) B.notSynchronized
