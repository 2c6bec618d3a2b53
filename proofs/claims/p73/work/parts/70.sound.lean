/-! THE RUN IS THE MACHINE'S. -/
/-- calls: the group fits the method's kind -/
def xCallOk (e : xQ) : Bool := bif Nat.blt e.2.2.1 100 || Nat.ble 110 e.2.2.1 then true else (match xMt[e.2.2.2.1]? with
  | none => false
  | some M => (match e.2.2.1 with
    | 100 => Nat.beq M.kd 0
    | 101 => Nat.beq M.kd 0
    | 102 => Nat.beq M.kd 1
    | 103 => Nat.beq M.kd 1
    | 104 => Nat.beq M.kd 2
    | 105 => Nat.beq M.kd 2
    | _ => false))
/-- the rows of a method -/
def xRows (M : xMd) : Prop := ∀ e ∈ M.pg, xRowOk M.yy.cls (Nat.beq M.kd 2) M.cc (xYof e) (xMkP xTb e) ∧ xCallOk e = true
/-- a method of the table -/
def xMok (M : xMd) : Prop := xRows M ∧ M.nl ≤ 21 ∧ plainName M.yy.cls = true ∧ (M.yy.cls ≠ "java/lang/invoke/MethodHandle" ∧ M.yy.cls ≠ "java/lang/invoke/VarHandle" ∧ (parseMethodDescriptor M.yy.desc).map (fun d => d.parameters.length) = some M.na) ∧ Jvm.Cond.code M.yy M.cc M.nl M.rt ∈ lw_tbl ∧ Jvm.Cond.initialized M.yy.cls ∈ lw_tbl ∧
  (M.kd = 0 → Jvm.Cond.static M.yy ∈ lw_tbl) ∧ (M.kd = 1 → Jvm.Cond.instanceMethod M.yy ∈ lw_tbl ∧ Jvm.Cond.selects M.yy.cls M.yy M.yy ∈ lw_tbl ∧ ∃ T N, xcl[M.ci]? = some (M.yy.cls, T, N)) ∧ (M.kd = 2 → Jvm.Cond.instanceMethod M.yy ∈ lw_tbl ∧ M.yy.name = "<init>" ∧ M.rt = none)
section XR
variable {p : Program} {l : Launch} {e : Env} {R : Room} {s : State} {m : MethodId} {args : Array Value} {below : List Frame} {meth : Method} {c : Code} {H : Heap} {locs : List Loc} {cells slots : Nat} {Q : State → Prop} {pc : Nat} {ls : Array Slot} {rest st0 : List Value} {a : Array Value} {A0 A1 : Nat → Prop} {H0 : Heap} {mc ms : Nat} {free : Addr → Prop}
/-- behind a call, whatever it answers -/
theorem xCall {Post : Option Value → State → Prop} (hr : va_Run p l e R s m args below meth c H locs cells slots mc ms (F0 m pc ls st0) rest (fun st oc t => (∃ v, oc = .returned v ∧ Post v t) ∧ va_F A1 st t) free) (hS : va_S A0 H0 H locs) (hA : ∀ q, q < H.size → A1 q → A0 q) (hf : ∀ q, free q → A0 q)
    (kk : ∀ (v : Option Value) (t : State) (H1 : Heap) (locs1 : List Loc), t.heap = H1 → s.vm.Alike t.vm → Post v t → va_S A0 H0 H1 locs1 → W p l e R s m args below meth c H1 locs1 (cells + mc) (slots + ms) Q (F0 m (pc + 3) ls (v.toList ++ rest))) : W p l e R s m args below meth c H locs cells slots Q (F0 m pc ls st0) := by
  intro T hT X
  obtain ⟨v, st₀, t, T', L, h0, X', hL, e1, e2, ⟨⟨r, hv, hp⟩, hz, hk⟩, st⟩ := hr T hT X
  cases hv
  rw [h0] at hz hk
  obtain ⟨t2, a1, b1⟩ := kk v t T'.heap (locs ++ L) e1.symm (by rw [← e2]; exact X'.warmed.alike) hp
    ⟨Nat.le_trans hS.1 (by rw [e1]; exact hz), fun q h1 h2 => by rw [e1, hk q (Nat.lt_of_lt_of_le h1 hS.1) (fun z => h2 (hA q (Nat.lt_of_lt_of_le h1 hS.1) z))]; exact hS.2.1 q h1 h2, fun q hq => by
      rcases List.mem_append.mp hq with h | h
      · exact hS.2.2 q h
      · exact hf _ (hL q h)⟩ T' rfl X'
  exact ⟨t2, st t2 a1, b1⟩
end XR
theorem xNest_warm {s U : State} (hW : s.WarmedH U.vm) : ∀ (w : Jvm.Cond), xNest w = true → va_Nw w s → va_Nw w U := by
  intro w hn hw
  unfold xNest at hn
  split at hn
  · exact va_Nw.warmF hW hw
  · exact va_Nw.warmM hW hw
  · exact va_AO.moved hW.alike hw
  · cases hn
theorem xNest_same {u U : State} (h : u.vm = U.vm) : ∀ (w : Jvm.Cond), xNest w = true → va_Nw w u → va_Nw w U := by
  intro w hn hw
  unfold xNest at hn
  split at hn
  · exact va_Nw.same rfl h hw
  · exact va_Nw.same rfl h hw
  · exact va_AO.moved (by rw [h]; exact Vm.Alike.refl _) hw
  · cases hn
/-- all words of the tables that are good, and one more, are among them -/
theorem xGoodIn {ws : List Jvm.Cond} (h : ∀ w ∈ ws, w ∈ lw_tbl ∧ goodWord w = true) : GoodIn xU ws := fun w hw => ⟨xU_mem (h w hw).1 (h w hw).2, good_of_word (h w hw).2⟩
/-- what holds where a method begins -/
def xPre (D : va_G) (A : Nat → Prop) (ρ : List Int) (ad ex : List Nat) (h : List xC) (U : State) : Prop := (∀ q, U.heap.size ≤ q → A q) ∧ (∀ w ∈ lw_tbl, xNest w = true → va_Nw w U) ∧ xWd D A U U.heap [] ρ ad ex h
/-- what holds where it has ended -/
def xPost (D : va_G) (A : Nat → Prop) (ρ : List Int) (ad ex : List Nat) (outs : List (xQ × xS)) (v : Option Value) (t : State) : Prop := ∃ q ∈ outs, ∃ ρ' ad', xX ρ ρ' ∧ xX ad ad' ∧ xSt ρ' q.2.2.1 ∧ xAll2 (xv ρ' ad' ex) q.2.2.2.2.1 v.toList ∧ ∃ ws tys, va_K D xcl tys t ∧ va_P D xcl ws t.heap ∧ va_D A ws ∧ xHp ρ' ad' ex tys q.2.1 ws
theorem xWd.alikeU {D : va_G} {A : Nat → Prop} {u U : State} {H : Heap} {ρ : List Int} {ad ex : List Nat} {h : List xC} {locs : List Loc} (hw : xWd D A u H locs ρ ad ex h) (hU : U.heap = H) (hvm : u.vm.Alike U.vm) : xWd D A U U.heap [] ρ ad ex h := by
  obtain ⟨ws, tys, hK, hP, hD, hS, hh⟩ := hw
  exact ⟨ws, tys, hK.moved hvm, by rw [hU]; exact hP, hD, va_S.rf, hh⟩
theorem xPre.blind {D : va_G} {A : Nat → Prop} {ρ : List Int} {ad ex : List Nat} {h : List xC} {vs : Array Value} : FrameBlind (fun v U => v = vs ∧ xPre D A ρ ad ex h U) := by
  intro a U g mk hp
  obtain ⟨h1, h2, h3, h4⟩ := hp
  exact ⟨h1, h2, fun w hw hn => xNest_same (u := U) (U := U.calling g mk a) rfl w hn (h3 w hw hn), h4.alikeU (U := U.calling g mk a) rfl (Vm.Alike.refl U.vm)⟩
