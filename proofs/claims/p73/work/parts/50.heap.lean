/-! The world, and the instructions that read and write it. -/
def xHp (ρ : List Int) (ad ex : List Nat) (tys : List (ClassId × FieldType)) (h : List xC) (ws : va_W) : Prop := ws.map Prod.fst = ad ∧ xAll2 (fun x q => xcell xcn ρ ad ex tys x q.2) h ws
def xWd (D : va_G) (A : Nat → Prop) (s : State) (H : Heap) (locs : List Loc) (ρ : List Int) (ad ex : List Nat) (h : List xC) : Prop :=
  ∃ (ws : va_W) (tys : List (ClassId × FieldType)), va_K D xcl tys s ∧ va_P D xcl ws H ∧ va_D A ws ∧ va_S A s.heap H locs ∧ xHp ρ ad ex tys h ws
theorem xWd.mono {D : va_G} {A : Nat → Prop} {s : State} {H : Heap} {locs : List Loc} {ρ ρ' : List Int} {ad ex : List Nat} {h : List xC} (hX : xX ρ ρ') (hw : xWd D A s H locs ρ ad ex h) : xWd D A s H locs ρ' ad ex h := by
  obtain ⟨ws, tys, hK, hP, hD, hS, e, hh⟩ := hw
  exact ⟨ws, tys, hK, hP, hD, hS, e, hh.mono (fun a b hab => xcell.mono hX (xX.rf ad) (fun _ q => q) a b.2 hab)⟩
/-- a method's surroundings: the machine, its code, the words of the tables -/
def xCtx (p : Program) (s : State) (m : MethodId) (args : Array Value) (c : Code) (cc : ByteArray) (nL : Nat) (own : String) : Prop :=
  p.tables.exec = Jvm.exec ∧ c.code = cc ∧ c.maxLocals = nL ∧ s.vm.findClass own = some m.cls ∧ (∀ w ∈ lw_tbl, goodWord w = true → w.before args s = true) ∧ (∀ w ∈ lw_tbl, xNest w = true → va_Nw w s)
/-- the words that every method has -/
def xU : List Jvm.Cond := lw_tbl.filter goodWord
theorem xU_mem {w : Jvm.Cond} (h : w ∈ lw_tbl) (g : goodWord w = true) : w ∈ xU := List.mem_filter.mpr ⟨h, g⟩
theorem xU_of {w : Jvm.Cond} (h : w ∈ xU) : w ∈ lw_tbl ∧ goodWord w = true := List.mem_filter.mp h
section XH
variable {p : Program} {l : Launch} {e : Env} {R : Room} {s : State} {m : MethodId} {args : Array Value} {below : List Frame} {meth : Method} {c : Code} {H : Heap} {locs : List Loc} {cells slots : Nat} {Q : State → Prop} {cc : ByteArray} {pc : Nat} {ls : Array Slot} {st rest : List Value} {ρ : List Int} {ad ex : List Nat} {nL : Nat} {loc : List (Nat × xV)} {σ : List xB} {len : Nat} {i : Instr} {D : va_G} {A : Nat → Prop} {own : String} {h : List xC}
theorem xCtx.u (C : xCtx p s m args c cc nL own) : ∀ w ∈ xU, w.before args s = true := fun w hw => C.2.2.2.2.1 w (xU_of hw).1 (xU_of hw).2
/-- a cell of the world, and the machine's -/
theorem xHp.at {tys : List (ClassId × FieldType)} {ws : va_W} (hh : xHp ρ ad ex tys h ws) {k q : Nat} {x : xC} (hk : h[k]? = some x) (hq : ad[k]? = some q) : ∃ y, ws[k]? = some (q, y) ∧ xcell xcn ρ ad ex tys x y := by
  obtain ⟨b, h1, h2⟩ := hh.2.get hk
  obtain ⟨a, y⟩ := b
  have h3 : (ws.map Prod.fst)[k]? = some a := by rw [List.getElem?_map, h1]; rfl
  rw [hh.1, hq] at h3
  cases h3
  exact ⟨y, h1, h2⟩
theorem xHp.put {tys : List (ClassId × FieldType)} {ws : va_W} (hh : xHp ρ ad ex tys h ws) {k q : Nat} {x : xC} {y : va_E} (hq : ad[k]? = some q) (hx : xcell xcn ρ ad ex tys x y) : xHp ρ ad ex tys (h.set k x) (ws.set k (q, y)) := by
  refine ⟨?_, hh.2.set k hx⟩
  rw [List.map_set, hh.1]
  apply List.ext_getElem?
  intro j
  by_cases hj : k = j
  · subst hj
    rw [List.getElem?_set_self', hq]
    rfl
  · rw [List.getElem?_set_ne hj]
def xGetf (h : List xC) (a b : Nat) (v : xV) : Option xV := match v with
  | .inr (.inr (.inl (some j))) => (match h[j]? with
    | some (.inl o) => bif Nat.beq o.1 a then o.2[b]? else none
    | _ => none)
  | _ => none
/-- the link of a field: plain (0), or a nest mate's -/
def xFW (own : String) (idx a b nest : Nat) : Jvm.Cond := match xcl[a]? with
  | some r => (match nest with
    | 0 => .fieldLink own idx (r.2.1 b).1 (r.2.1 b).2.1 (r.2.1 b).2.2.1
    | _ => .fieldLinkNest own idx (r.2.1 b).1 (r.2.1 b).2.1 (r.2.1 b).2.2.1 "StarchGarrison")
  | none => .tt
def xFN (a b : Nat) : Bool := match xcl[a]? with
  | some r => Nat.blt b r.2.2
  | none => false
theorem xFN_ok {a b : Nat} (h : xFN a b = true) : ∃ C T N, xcl[a]? = some (C, T, N) ∧ b < N := by
  unfold xFN at h
  split at h
  · rename_i r hr
    exact ⟨r.1, r.2.1, r.2.2, hr, x_blt h⟩
  · cases h
theorem xGetf_ok {a b idx nest : Nat} {v v' : xV} {w : Value} (hv : xGetf h a b v = some v') (C : xCtx p s m args c cc nL own) (hd : decode cc pc = .ok (.getfield idx, 3)) (hN : xFN a b = true) (hW : xFW own idx a b nest ∈ lw_tbl) (hw : xv ρ ad ex v w) (hh : xWd D A s H locs ρ ad ex h)
    (k : ∀ w', xv ρ ad ex v' w' → W p l e R s m args below meth c H locs cells slots Q (F0 m (pc + 3) ls (w' :: rest))) : W p l e R s m args below meth c H locs cells slots Q (F0 m pc ls (w :: rest)) := by
  obtain ⟨hx, hb, -, hown, hg, hn⟩ := id C
  unfold xGetf at hv
  split at hv
  · rename_i j
    split at hv
    · rename_i o ho
      obtain ⟨e1, hv⟩ := x_bifO hv
      have e1 := Nat.eq_of_beq_eq_true e1
      obtain ⟨q, hq, rfl⟩ := hw
      obtain ⟨ws, tys, hK, hP, hD, hS, hh⟩ := hh
      obtain ⟨y, y1, vs, rfl, y3⟩ := hh.at ho hq
      obtain ⟨w', w1, w2⟩ := y3.get hv
      obtain ⟨Cn, T, N, hc, hbN⟩ := xFN_ok hN
      have hcl := xcl_ok a Cn T N hc
      rw [e1] at y1
      have hin : ∀ w ∈ u_ws Cn T N, w ∈ xU := fun w q => xU_mem (hcl.1 w q).1 (hcl.1 w q).2
      unfold xFW at hW
      rw [hc] at hW
      dsimp only at hW
      split at hW
      · exact va_get (D := D) (C := Cn) (T := T) (N := N) hx hb C.u hin hown hK hP j y1 hc b hbN (hg _ hW rfl) (fun _ q => q) w1 hd (k w' w2)
      · exact va_getN (D := D) (C := Cn) (T := T) (N := N) hx hb C.u hin hown hK hP j y1 hc b hbN (va_Nw.use rfl (hn _ hW rfl)) (fun _ q => q) w1 hd (k w' w2)
    · cases hv
  · cases hv
def xfitV (ty : FieldType) (v : xV) : Bool := match ty, v with
  | .int, .inl _ => true
  | .long, .inr (.inl _) => true
  | .object _, .inr (.inr _) => true
  | .array _, .inr (.inr _) => true
  | _, _ => false
theorem xfitV_ok {ty : FieldType} {v : xV} {w : Value} (hf : xfitV ty v = true) (hw : xv ρ ad ex v w) : narrow ty w = w ∧ fits ty w = true := by
  unfold xfitV at hf
  split at hf
  · obtain ⟨x, rfl, -⟩ := hw
    exact ⟨rfl, rfl⟩
  · obtain ⟨x, rfl, -⟩ := hw
    exact ⟨rfl, rfl⟩
  · rename_i u
    rcases u with (_ | u) | u
    · have hw : w = .null := hw
      subst hw
      exact ⟨rfl, rfl⟩
    · obtain ⟨x, -, rfl⟩ := hw
      exact ⟨rfl, rfl⟩
    · obtain ⟨x, -, rfl⟩ := hw
      exact ⟨rfl, rfl⟩
  · rename_i u
    rcases u with (_ | u) | u
    · have hw : w = .null := hw
      subst hw
      exact ⟨rfl, rfl⟩
    · obtain ⟨x, -, rfl⟩ := hw
      exact ⟨rfl, rfl⟩
    · obtain ⟨x, -, rfl⟩ := hw
      exact ⟨rfl, rfl⟩
  · cases hf
/-- the flag of a final field -/
def xFF (a b : Nat) : Bool := match xcl[a]? with
  | some r => (r.2.1 b).2.2.2
  | none => false
def xPutf (h : List xC) (a b : Nat) (v u : xV) : Option (List xC) := match u with
  | .inr (.inr (.inl (some j))) => (match h[j]? with
    | some (.inl o) => bif Nat.beq o.1 a && (Nat.blt b o.2.length && xfitV (xct a b) v) then some (h.set j (.inl (o.1, o.2.set b v))) else none
    | _ => none)
  | _ => none
theorem xPutf_ok {a b idx nest : Nat} {v u : xV} {w wu : Value} {h' : List xC} (hv : xPutf h a b v u = some h') (C : xCtx p s m args c cc nL own) (hd : decode cc pc = .ok (.putfield idx, 3)) (hN : xFN a b = true) (hW : xFW own idx a b nest ∈ lw_tbl) (hF : xFF a b = false ∨ (xFF a b = true ∧ nest = 0 ∧ own = xcn a ∧ meth.name = "<init>" ∧ ∀ Cn T N, xcl[a]? = some (Cn, T, N) → (T b).1 = Cn)) (hw : xv ρ ad ex v w) (hwu : xv ρ ad ex u wu) (hh : xWd D A s H locs ρ ad ex h)
    (k : ∀ H' locs', xWd D A s H' locs' ρ ad ex h' → W p l e R s m args below meth c H' locs' cells slots Q (F0 m (pc + 3) ls rest)) : W p l e R s m args below meth c H locs cells slots Q (F0 m pc ls (w :: wu :: rest)) := by
  obtain ⟨hx, hb, -, hown, hg, hn⟩ := id C
  unfold xPutf at hv
  split at hv
  · rename_i j
    split at hv
    · rename_i o ho
      obtain ⟨e1, hv⟩ := x_bif hv
      obtain ⟨e1, e2, e3⟩ := x_and3 e1
      have e1 := Nat.eq_of_beq_eq_true e1
      have e2 := x_blt e2
      obtain ⟨q, hq, rfl⟩ := hwu
      obtain ⟨ws, tys, hK, hP, hD, hS, hh⟩ := hh
      obtain ⟨y, y1, vs, rfl, y3⟩ := hh.at ho hq
      obtain ⟨Cn, T, N, hc, hbN⟩ := xFN_ok hN
      have hcl := xcl_ok a Cn T N hc
      obtain ⟨hf1, hf2⟩ := xfitV_ok e3 hw
      have hin : ∀ w ∈ u_ws Cn T N, w ∈ xU := fun w q => xU_mem (hcl.1 w q).1 (hcl.1 w q).2
      have hlen : b < vs.length := by rw [← y3.len]; exact e2
      have hcell : xcell xcn ρ ad ex tys (.inl (o.1, o.2.set b v)) (.inr (a, vs.set b w)) := ⟨vs.set b w, by rw [e1], y3.set b hw⟩
      rw [e1] at y1
      unfold xFW at hW
      rw [hc] at hW
      have hFe : xFF a b = (T b).2.2.2 := by unfold xFF; rw [hc]
      rw [hFe] at hF
      dsimp only at hW
      have fin : ∀ (H1 : Heap) (locs1 : List Loc), va_P D xcl (ws.set j (q, .inr (a, vs.set b w))) H1 → va_D A (ws.set j (q, .inr (a, vs.set b w))) → va_S A s.heap H1 locs1 → W p l e R s m args below meth c H1 locs1 cells slots Q (F0 m (pc + 3) ls rest) := fun H1 locs1 g1 g2 g3 => by
        refine k H1 locs1 ⟨_, tys, hK, g1, g2, g3, ?_⟩
        rw [← hv]
        exact hh.put hq hcell
      split at hW
      · rcases hF with hF | ⟨hF, -, ho1, hi1, hi2⟩
        · exact va_put (D := D) (C := Cn) (T := T) (N := N) (ty := xct a b) hx hb C.u hin (xct a) hcl.2.1 hcl.2.2.1 hown hK hP hD hS j y1 hc b hbN (hg _ hW rfl) (fun _ q => q) hF (hcl.2.1 b hbN) hf1 hf2 hlen hd fin
        · exact va_putF (D := D) (C := Cn) (T := T) (N := N) (ty := xct a b) hx hb C.u hin (xct a) hcl.2.1 hcl.2.2.1 hown hK hP hD hS j y1 hc b hbN (hg _ hW rfl) (fun _ q => q) hF hi1 (by rw [hi2 Cn T N hc, ho1, hcl.2.2.2]) (hcl.2.1 b hbN) hf1 hf2 hlen hd fin
      · rename_i nx hnx
        rcases hF with hF | ⟨hF, h0, -⟩
        · exact va_putN (D := D) (C := Cn) (T := T) (N := N) (ty := xct a b) hx hb C.u hin (xct a) hcl.2.1 hcl.2.2.1 hown hK hP hD hS j y1 hc b hbN (va_Nw.use rfl (hn _ hW rfl)) (fun _ q => q) hF (hcl.2.1 b hbN) hf1 hf2 hlen hd fin
        · exact absurd h0 (fun q => hnx q)
    · cases hv
  · cases hv
/-- an element of an array is loaded; t: the instruction's kind (0 ints, 1 bytes and booleans, 2 longs) -/
def xAld (t : Nat) (σ : List xB) (h : List xC) (i : xI) (u : xV) : Option (xV × List xB) := match u with
  | .inr (.inr (.inl (some j))) => (match h[j]? with
    | some (.inr (.inl a)) => bif (match t with
        | 0 => Nat.beq a.1 0
        | 1 => Nat.blt 0 a.1
        | _ => false) then (match xLd σ a.2.2 a.2.1 i with
      | some r => some (.inl r.1, r.2)
      | none => none) else none
    | some (.inr (.inr (.inl a))) => bif Nat.beq t 2 then (match xLd σ a.2 a.1 i with
      | some r => some (.inr (.inl r.1), r.2)
      | none => none) else none
    | _ => none)
  | _ => none
theorem x_mem_tys {α : Type} {l : List α} {a : α} (h : a ∈ l) : ∃ k : Nat, l[k]? = some a := List.getElem?_of_mem h
theorem x_tn (i : Int32) : i.toNatClampNeg = i.toInt.toNat := rfl
def xAldI : Nat → Instr
  | 0 => .iaload
  | 1 => .baload
  | _ => .laload
theorem xAld_ok {t : Nat} {ix : xI} {u : xV} {x : Int32} {wu : Value} {r : xV × List xB} (hv : xAld t σ h ix u = some r) (C : xCtx p s m args c cc nL own) (hd : decode cc pc = .ok (xAldI t, 1)) (hS : xSt ρ σ) (hi : xe ρ ix = some x.toInt) (hwu : xv ρ ad ex u wu) (hh : xWd D A s H locs ρ ad ex h)
    (k : ∀ w ρ', xX ρ ρ' → xSt ρ' r.2 → xv ρ' ad ex r.1 w → W p l e R s m args below meth c H locs cells slots Q (F0 m (pc + 1) ls (w :: rest))) : W p l e R s m args below meth c H locs cells slots Q (F0 m pc ls (.int x :: wu :: rest)) := by
  obtain ⟨hx, hb, -, hown, hg, hn⟩ := id C
  rcases u with u | u | (_ | j) | u <;> first | (simp [xAld] at hv; done) | skip
  · unfold xAld at hv
    dsimp only at hv
    split at hv
    · rename_i a ha
      obtain ⟨q, hq, rfl⟩ := hwu
      obtain ⟨ws, tys, hK, hP, hD, hSS, hh⟩ := hh
      obtain ⟨e1, hv⟩ := x_bifO hv
      obtain ⟨y, y1, cA, f, rfl, y2, y3⟩ := hh.at ha hq
      obtain ⟨t0, ht0⟩ := x_mem_tys y2
      split at hv
      · rename_i r' hr'
        obtain ⟨z1, z2, ρ', g1, g2, g3⟩ := xLd_ok hr' hS hi y3
        cases hv
        have hin : vp_in x a.2.1 := vp_in_iff.mpr ⟨z1, z2⟩
        obtain ⟨ty, an, ag⟩ := a
        match t, e1, hd with
        | 0, e1, hd =>
          have e1 : ty = 0 := Nat.eq_of_beq_eq_true e1
          subst e1
          exact va_iald hx hb hK hP j t0 y1 ht0 hin hd (k _ ρ' g1 g2 ⟨_, rfl, g3⟩)
        | 1, e1, hd =>
          match ty, e1, ht0, y1 with
          | 0, e1, _, _ => cases e1
          | 1, _, ht0, y1 => exact va_bald hx hb hK hP j t0 y1 ht0 hin hd (k _ ρ' g1 g2 ⟨_, rfl, g3⟩)
          | ty + 2, _, ht0, y1 => exact va_zald hx hb hK hP j t0 y1 ht0 hin hd (k _ ρ' g1 g2 ⟨_, rfl, g3⟩)
        | t + 2, e1, hd => cases e1
      · cases hv
    · rename_i a ha
      obtain ⟨q, hq, rfl⟩ := hwu
      obtain ⟨ws, tys, hK, hP, hD, hSS, hh⟩ := hh
      obtain ⟨e1, hv⟩ := x_bifO hv
      have e1 := Nat.eq_of_beq_eq_true e1
      subst e1
      obtain ⟨y, y1, cA, f, rfl, y2, y3⟩ := hh.at ha hq
      obtain ⟨t0, ht0⟩ := x_mem_tys y2
      split at hv
      · rename_i r' hr'
        obtain ⟨z1, z2, ρ', g1, g2, g3⟩ := xLd_ok hr' hS hi y3
        cases hv
        have hin : vp_in x a.1 := vp_in_iff.mpr ⟨z1, z2⟩
        exact va_lald hx hb hK hP j t0 y1 ht0 hin hd (k _ ρ' g1 g2 ⟨_, rfl, g3⟩)
      · cases hv
    · cases hv
/-- an element of an array is stored -/
def xAst (t : Nat) (σ : List xB) (h : List xC) (v : xV) (i : xI) (u : xV) : Option (List xC) := match u with
  | .inr (.inr (.inl (some j))) => (match h[j]?, v with
    | some (.inr (.inl a)), .inl b => bif (match t with
        | 0 => Nat.beq a.1 0
        | 1 => (match xrg σ b with
          | some r => (match a.1 with
            | 0 => false
            | 1 => xle (-128) r.1 && xle r.2 127
            | _ => xle 0 r.1 && xle r.2 1)
          | none => false)
        | _ => false) then (match xSta σ a.2.2 a.2.1 i b with
      | some gs => some (h.set j (.inr (.inl (a.1, a.2.1, gs))))
      | none => none) else none
    | some (.inr (.inr (.inl a))), .inr (.inl b) => bif Nat.beq t 2 then (match xSta σ a.2 a.1 i b with
      | some gs => some (h.set j (.inr (.inr (.inl (a.1, gs)))))
      | none => none) else none
    | _, _ => none)
  | _ => none
theorem x_narB {y : Int32} (h1 : -128 ≤ y.toInt) (h2 : y.toInt ≤ 127) : vp_nar .byte y = y := by
  rw [vp_nar_byte]
  apply Int32.toInt_inj.mp
  rw [Int8.toInt_toInt32, Int32.toInt_toInt8, Int.bmod_eq_of_le (by omega) (by omega)]
theorem x_narZ {y : Int32} (h1 : 0 ≤ y.toInt) (h2 : y.toInt ≤ 1) : narrow .boolean (.int y) = .int y := by
  have h : y = 0 ∨ y = 1 := by
    have d0 : (0 : Int32).toInt = 0 := rfl
    have d1 : (1 : Int32).toInt = 1 := rfl
    rcases (show y.toInt = 0 ∨ y.toInt = 1 by omega) with q | q
    · exact Or.inl (Int32.toInt_inj.mp (by rw [q, d0]))
    · exact Or.inr (Int32.toInt_inj.mp (by rw [q, d1]))
  rcases h with rfl | rfl <;> rfl
theorem x_narZ2 {y : Int32} (h1 : 0 ≤ y.toInt) (h2 : y.toInt ≤ 1) : vp_nar .boolean y = y := by
  unfold vp_nar
  rw [x_narZ h1 h2]
def xAstI : Nat → Instr
  | 0 => .iastore
  | 1 => .bastore
  | _ => .lastore
theorem xAst_ok {t : Nat} {v : xV} {w : Value} {ix : xI} {u : xV} {x : Int32} {wu : Value} {h' : List xC} (hv : xAst t σ h v ix u = some h') (C : xCtx p s m args c cc nL own) (hd : decode cc pc = .ok (xAstI t, 1)) (hS : xSt ρ σ) (hw : xv ρ ad ex v w) (hi : xe ρ ix = some x.toInt) (hwu : xv ρ ad ex u wu) (hh : xWd D A s H locs ρ ad ex h)
    (k : ∀ H' locs', xWd D A s H' locs' ρ ad ex h' → W p l e R s m args below meth c H' locs' cells slots Q (F0 m (pc + 1) ls rest)) : W p l e R s m args below meth c H locs cells slots Q (F0 m pc ls (w :: .int x :: wu :: rest)) := by
  obtain ⟨hx, hb, -, hown, hg, hn⟩ := id C
  rcases u with u | u | (_ | j) | u <;> first | (simp [xAst] at hv; done) | skip
  · unfold xAst at hv
    dsimp only at hv
    split at hv
    · rename_i a b ha
      obtain ⟨q, hq, rfl⟩ := hwu
      obtain ⟨ws, tys, hK, hP, hD, hSS, hh⟩ := hh
      obtain ⟨e1, hv⟩ := x_bifO hv
      obtain ⟨y, y1, cA, f, rfl, y2, y3⟩ := hh.at ha hq
      obtain ⟨t0, ht0⟩ := x_mem_tys y2
      obtain ⟨z, rfl, hz⟩ := hw
      split at hv
      · rename_i gs hgs
        obtain ⟨z1, z2, g3⟩ := xSta_ok hgs hS hi hz y3
        cases hv
        have hin : vp_in x a.2.1 := vp_in_iff.mpr ⟨z1, z2⟩
        have fin : ∀ (H1 : Heap) (locs1 : List Loc), va_P D xcl (ws.set j (q, .inl (cA, a.2.1, .inl (upd f x.toNatClampNeg z)))) H1 → va_D A (ws.set j (q, .inl (cA, a.2.1, .inl (upd f x.toNatClampNeg z)))) → va_S A s.heap H1 locs1 → W p l e R s m args below meth c H1 locs1 cells slots Q (F0 m (pc + 1) ls rest) := fun H1 locs1 k1 k2 k3 => by
          refine k H1 locs1 ⟨_, tys, hK, k1, k2, k3, hh.put hq ?_⟩
          refine ⟨cA, _, rfl, y2, fun jj hjj => ?_⟩
          obtain ⟨uu, u1, u2⟩ := g3 jj hjj
          refine ⟨uu, u1, ?_⟩
          have : (upd f x.toNatClampNeg z jj).toInt = if jj = x.toInt.toNat then z.toInt else (f jj).toInt := by
            unfold upd
            rw [x_tn]
            by_cases hq : jj = x.toInt.toNat
            · rw [if_pos hq, if_pos hq]
            · rw [if_neg hq, if_neg hq]
          show xel ρ uu (upd f x.toNatClampNeg z jj).toInt
          rw [this]
          exact u2
        obtain ⟨ty, an, ag⟩ := a
        match t, e1, hd with
        | 0, e1, hd =>
          have e1 : ty = 0 := Nat.eq_of_beq_eq_true e1
          subst e1
          exact va_iast hx hb hK hP hD hSS j t0 y1 ht0 hin hd fin
        | 1, e1, hd =>
          dsimp only at e1
          cases hr : xrg σ b with
          | none => rw [hr] at e1; cases e1
          | some r =>
            rw [hr] at e1
            have hbz := xrg_ok hS hz hr
            match ty, e1, ht0, y1, fin with
            | 0, e1, _, _, _ => cases e1
            | 1, e1, ht0, y1, fin =>
              have e1 : (xle (-128) r.1 && xle r.2 127) = true := e1
              rw [Bool.and_eq_true, xle_iff, xle_iff] at e1
              refine va_bast hx hb hK hP hD hSS j t0 y1 ht0 hin hd (x := z) ?_
              rw [x_narB (by omega) (by omega)]
              exact fin
            | ty + 2, e1, ht0, y1, fin =>
              have e1 : (xle 0 r.1 && xle r.2 1) = true := e1
              rw [Bool.and_eq_true, xle_iff, xle_iff] at e1
              refine va_zast hx hb hK hP hD hSS j t0 y1 ht0 hin hd (x := z) ?_
              rw [x_narZ2 (by omega) (by omega)]
              exact fin
        | t + 2, e1, hd => cases e1
      · cases hv
    · rename_i a b ha
      obtain ⟨q, hq, rfl⟩ := hwu
      obtain ⟨ws, tys, hK, hP, hD, hSS, hh⟩ := hh
      obtain ⟨e1, hv⟩ := x_bifO hv
      have e1 := Nat.eq_of_beq_eq_true e1
      subst e1
      obtain ⟨y, y1, cA, f, rfl, y2, y3⟩ := hh.at ha hq
      obtain ⟨t0, ht0⟩ := x_mem_tys y2
      obtain ⟨z, rfl, hz⟩ := hw
      split at hv
      · rename_i gs hgs
        obtain ⟨z1, z2, g3⟩ := xSta_ok hgs hS hi hz y3
        cases hv
        have hin : vp_in x a.1 := vp_in_iff.mpr ⟨z1, z2⟩
        refine va_last hx hb hK hP hD hSS j t0 y1 ht0 hin hd (fun H1 locs1 k1 k2 k3 => ?_)
        refine k H1 locs1 ⟨_, tys, hK, k1, k2, k3, hh.put hq ?_⟩
        refine ⟨cA, _, rfl, y2, fun jj hjj => ?_⟩
        obtain ⟨uu, u1, u2⟩ := g3 jj hjj
        refine ⟨uu, u1, ?_⟩
        have : (vp_updL f x.toNatClampNeg z jj).toInt = if jj = x.toInt.toNat then z.toInt else (f jj).toInt := by
          unfold vp_updL
          rw [x_tn]
          by_cases hq : jj = x.toInt.toNat
          · rw [if_pos hq, if_pos hq]
          · rw [if_neg hq, if_neg hq]
        show xel ρ uu (vp_updL f x.toNatClampNeg z jj).toInt
        rw [this]
        exact u2
      · cases hv
    · cases hv
/-- an array's length -/
def xLen (h : List xC) (u : xV) : Option xV := match u with
  | .inr (.inr (.inl (some j))) => (match h[j]? with
    | some (.inr (.inl a)) => bif Nat.blt a.2.1 1000000 then some (.inl (none, Int.ofNat a.2.1)) else none
    | some (.inr (.inr (.inl a))) => bif Nat.blt a.1 1000000 then some (.inl (none, Int.ofNat a.1)) else none
    | _ => none)
  | _ => none
theorem x_nat32 {n : Nat} (h : n < 1000000) : (Int32.ofNat n).toInt = (n : Int) := nI_toInt (by omega)
theorem xLen_ok {u v : xV} {wu : Value} (hv : xLen h u = some v) (C : xCtx p s m args c cc nL own) (hd : decode cc pc = .ok (.arraylength, 1)) (hwu : xv ρ ad ex u wu) (hh : xWd D A s H locs ρ ad ex h)
    (k : ∀ w, xv ρ ad ex v w → W p l e R s m args below meth c H locs cells slots Q (F0 m (pc + 1) ls (w :: rest))) : W p l e R s m args below meth c H locs cells slots Q (F0 m pc ls (wu :: rest)) := by
  obtain ⟨hx, hb, -, hown, hg, hn⟩ := id C
  rcases u with u | u | (_ | j) | u <;> first | (simp [xLen] at hv; done) | skip
  · unfold xLen at hv
    dsimp only at hv
    split at hv
    · rename_i a ha
      obtain ⟨q, hq, rfl⟩ := hwu
      obtain ⟨ws, tys, hK, hP, hD, hSS, hh⟩ := hh
      obtain ⟨e1, hv⟩ := x_bif hv
      subst hv
      obtain ⟨y, y1, cA, f, rfl, y2, y3⟩ := hh.at ha hq
      obtain ⟨t0, ht0⟩ := x_mem_tys y2
      exact va_alen hx hb hK hP j t0 y1 ht0 rfl hd (k _ ⟨_, rfl, by rw [x_nat32 (x_blt e1)]; rfl⟩)
    · rename_i a ha
      obtain ⟨q, hq, rfl⟩ := hwu
      obtain ⟨ws, tys, hK, hP, hD, hSS, hh⟩ := hh
      obtain ⟨e1, hv⟩ := x_bif hv
      subst hv
      obtain ⟨y, y1, cA, f, rfl, y2, y3⟩ := hh.at ha hq
      obtain ⟨t0, ht0⟩ := x_mem_tys y2
      exact va_alen hx hb hK hP j t0 y1 ht0 rfl hd (k _ ⟨_, rfl, by rw [x_nat32 (x_blt e1)]; rfl⟩)
    · cases hv
/-- an element of an array of cells: each that it can be -/
def xCasesGo (σ : List xB) (i : xI) (r : xB) : Int → List (Option Nat) → List (List xB × Option Nat)
  | _, [] => []
  | j, o :: t => bif xle r.1 j && xle j r.2 then (xput σ i j j, o) :: xCasesGo σ i r (j + 1) t else xCasesGo σ i r (j + 1) t
theorem xCasesGo_ok {ix : xI} {r : xB} {z : Int} (hz : r.1 ≤ z ∧ z ≤ r.2) : ∀ {es : List (Option Nat)} {j : Int} {n : Nat} {o : Option Nat}, es[n]? = some o → z = j + n → (xput σ ix z z, o) ∈ xCasesGo σ ix r j es
  | [], _, _, _, h, _ => by simp at h
  | x :: t, j, 0, o, h, hn => by
    simp at h
    subst h
    have e : z = j := by omega
    unfold xCasesGo
    rw [xle_iff.mpr (show r.1 ≤ j by omega), xle_iff.mpr (show j ≤ r.2 by omega), e]
    exact List.mem_cons_self
  | x :: t, j, n + 1, o, h, hn => by
    simp at h
    have := xCasesGo_ok (ix := ix) hz h (show z = j + 1 + n by omega)
    unfold xCasesGo
    cases (xle r.1 j && xle j r.2) with
    | true => exact List.mem_cons_of_mem _ this
    | false => exact this
def xAald (σ : List xB) (h : List xC) (i : xI) (u : xV) : Option (List (List xB × Option Nat)) := match u with
  | .inr (.inr (.inl (some j))) => (match h[j]? with
    | some (.inr (.inr (.inr a))) => (match xrg σ i with
      | some r => bif xle 0 r.1 && xle r.2 (Int.ofNat a.2.length - 1) then some (xCasesGo σ i r 0 a.2) else none
      | none => none)
    | _ => none)
  | _ => none
theorem xAald_ok {ix : xI} {u : xV} {x : Int32} {wu : Value} {L : List (List xB × Option Nat)} (hv : xAald σ h ix u = some L) (C : xCtx p s m args c cc nL own) (hd : decode cc pc = .ok (.aaload, 1)) (hS : xSt ρ σ) (hi : xe ρ ix = some x.toInt) (hwu : xv ρ ad ex u wu) (hh : xWd D A s H locs ρ ad ex h)
    (k : ∀ q ∈ L, ∀ w, xSt ρ q.1 → xv ρ ad ex (.inr (.inr (.inl q.2))) w → W p l e R s m args below meth c H locs cells slots Q (F0 m (pc + 1) ls (w :: rest))) : W p l e R s m args below meth c H locs cells slots Q (F0 m pc ls (.int x :: wu :: rest)) := by
  obtain ⟨hx, hb, -, hown, hg, hn⟩ := id C
  rcases u with u | u | (_ | j) | u <;> first | (simp [xAald] at hv; done) | skip
  · unfold xAald at hv
    dsimp only at hv
    split at hv
    · rename_i a ha
      obtain ⟨q, hq, rfl⟩ := hwu
      obtain ⟨ws, tys, hK, hP, hD, hSS, hh⟩ := hh
      split at hv
      · rename_i r hr
        obtain ⟨e1, hv⟩ := x_bif hv
        subst hv
        rw [Bool.and_eq_true, xle_iff, xle_iff] at e1
        have hz := xrg_ok hS hi hr
        obtain ⟨y, y1, cA, f, rfl, y2, y3⟩ := hh.at ha hq
        obtain ⟨t0, ht0⟩ := x_mem_tys y2
        have el : (Int.ofNat a.2.length : Int) = (a.2.length : Int) := rfl
        have hin : vp_in x a.2.length := vp_in_iff.mpr ⟨by omega, by omega⟩
        obtain ⟨o, ho⟩ : ∃ o, a.2[x.toInt.toNat]? = some o := ⟨_, List.getElem?_eq_getElem (by omega)⟩
        refine va_aldq hx hb hK hP j t0 y1 ht0 hin hd ?_
        have hm := xCasesGo_ok (σ := σ) (ix := ix) hz ho (show x.toInt = 0 + (x.toInt.toNat : Int) by omega)
        refine k _ hm _ (xput_ok hS hi (Int.le_refl _) (Int.le_refl _)) ?_
        have ho2 := y3 _ o ho
        rw [x_tn]
        cases o with
        | none =>
          have ho2 : f x.toInt.toNat = none := ho2
          rw [ho2]
          rfl
        | some b =>
          obtain ⟨qq, q1, q2⟩ := ho2
          rw [q2]
          exact ⟨qq, q1, rfl⟩
      · cases hv
    · cases hv
/-- a cell is put into an array of cells, at a known place -/
def xAast (σ : List xB) (h : List xC) (v : xV) (i : xI) (u : xV) : Option (List xC) := match u, v with
  | .inr (.inr (.inl (some j))), .inr (.inr (.inl (some jv))) => (match h[j]?, h[jv]? with
    | some (.inr (.inr (.inr a))), some (.inl o) => (match xrg σ i with
      | some r => bif (Nat.beq o.1 a.1 && Nat.blt o.1 11) && (xeq r.1 r.2 && (xle 0 r.1 && xle r.2 (Int.ofNat a.2.length - 1))) then some (h.set j (.inr (.inr (.inr (a.1, a.2.set r.1.toNat (some jv)))))) else none
      | none => none)
    | _, _ => none)
  | _, _ => none
theorem xAast_ok {v : xV} {w : Value} {ix : xI} {u : xV} {x : Int32} {wu : Value} {h' : List xC} (hv : xAast σ h v ix u = some h') (C : xCtx p s m args c cc nL own) (hd : decode cc pc = .ok (.aastore, 1)) (hS : xSt ρ σ) (hw : xv ρ ad ex v w) (hi : xe ρ ix = some x.toInt) (hwu : xv ρ ad ex u wu) (hh : xWd D A s H locs ρ ad ex h)
    (k : ∀ H' locs', xWd D A s H' locs' ρ ad ex h' → W p l e R s m args below meth c H' locs' cells slots Q (F0 m (pc + 1) ls rest)) : W p l e R s m args below meth c H locs cells slots Q (F0 m pc ls (w :: .int x :: wu :: rest)) := by
  obtain ⟨hx, hb, -, hown, hg, hn⟩ := id C
  rcases u with u | u | (_ | j) | u <;> first | (simp [xAast] at hv; done) | skip
  rcases v with v | v | (_ | jv) | v <;> first | (simp [xAast] at hv; done) | skip
  · unfold xAast at hv
    dsimp only at hv
    split at hv
    · rename_i a o ha ho
      obtain ⟨q, hq, rfl⟩ := hwu
      obtain ⟨qv, hqv, rfl⟩ := hw
      obtain ⟨ws, tys, hK, hP, hD, hSS, hh⟩ := hh
      split at hv
      · rename_i r hr
        obtain ⟨e1, hv⟩ := x_bif hv
        subst hv
        rw [Bool.and_eq_true, Bool.and_eq_true, Bool.and_eq_true, Bool.and_eq_true, xle_iff, xle_iff, xeq_iff] at e1
        obtain ⟨⟨e1, e0⟩, e2, e3, e4⟩ := e1
        have e0 := x_blt e0
        have e1 := Nat.eq_of_beq_eq_true e1
        have hz := xrg_ok hS hi hr
        have ez : r.1 = x.toInt := by omega
        obtain ⟨y, y1, cA, f, rfl, y2, y3⟩ := hh.at ha hq
        obtain ⟨yv, v1, vs, rfl, v3⟩ := hh.at ho hqv
        obtain ⟨t0, ht0⟩ := x_mem_tys y2
        obtain ⟨rc, hrc⟩ : ∃ rc, xcl[o.1]? = some rc := ⟨_, List.getElem?_eq_getElem (by simpa [xcl] using e0)⟩
        have hcn : xcn a.1 = rc.1 := by
          unfold xcn
          rw [← e1, hrc]
        rw [hcn] at ht0
        have el : (Int.ofNat a.2.length : Int) = (a.2.length : Int) := rfl
        have hin : vp_in x a.2.length := vp_in_iff.mpr ⟨by omega, by omega⟩
        refine va_astq hx hb hK hP hD hSS j t0 jv o.1 y1 ht0 v1 hrc hin hd (fun H1 locs1 k1 k2 k3 => ?_)
        refine k H1 locs1 ⟨_, tys, hK, k1, k2, k3, hh.put hq ?_⟩
        refine ⟨cA, va_up f x.toNatClampNeg (some qv), by rw [List.length_set], y2, fun jj oo hoo => ?_⟩
        rw [ez] at hoo
        by_cases hj : x.toInt.toNat = jj
        · subst hj
          rw [List.getElem?_set_self (by omega)] at hoo
          cases hoo
          refine ⟨qv, hqv, ?_⟩
          unfold va_up
          rw [x_tn, if_pos rfl]
        · rw [List.getElem?_set_ne hj] at hoo
          have hoo2 := y3 jj oo hoo
          have eu : va_up f x.toNatClampNeg (some qv) jj = f jj := by
            unfold va_up
            rw [x_tn, if_neg (fun q => hj q.symm)]
          cases oo with
          | none =>
            show va_up f x.toNatClampNeg (some qv) jj = none
            rw [eu]
            exact hoo2
          | some b =>
            obtain ⟨b1, b2, b3⟩ := hoo2
            exact ⟨b1, b2, by rw [eu]; exact b3⟩
      · cases hv
    · cases hv
end XH
