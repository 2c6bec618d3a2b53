/-! Making cells; constants of the pool; the script; the library's own methods. -/
def xdv : FieldType → xV
  | .long => .inr (.inl (none, 0))
  | .object _ => .inr (.inr (.inl none))
  | .array _ => .inr (.inr (.inl none))
  | _ => .inl (none, 0)
def xdok : FieldType → Bool
  | .float => false
  | .double => false
  | _ => true
theorem xdv_ok {ρ : List Int} {ad ex : List Nat} {ty : FieldType} (h : xdok ty = true) : xv ρ ad ex (xdv ty) (defaultValue ty) := by
  cases ty <;> first | (cases h; done) | exact ⟨0, rfl, rfl⟩ | rfl
theorem xct_ok : ∀ ci, ci < 11 → ∀ k, k < 60 → xdok (xct ci k) = true := by decide +kernel
def xdf (ci N : Nat) : List xV := (List.range N).map (fun k => xdv (xct ci k))
section XM
variable {p : Program} {l : Launch} {e : Env} {R : Room} {s : State} {m : MethodId} {args : Array Value} {below : List Frame} {meth : Method} {c : Code} {H : Heap} {locs : List Loc} {cells slots : Nat} {Q : State → Prop} {cc : ByteArray} {pc : Nat} {ls : Array Slot} {st rest : List Value} {ρ : List Int} {ad ex : List Nat} {nL : Nat} {loc : List (Nat × xV)} {σ : List xB} {len : Nat} {i : Instr} {D : va_G} {A : Nat → Prop} {own : String} {h : List xC}
theorem xAll2_map {α β γ : Type} {P : β → γ → Prop} {f : α → β} {g : α → γ} : ∀ {L : List α}, (∀ x ∈ L, P (f x) (g x)) → xAll2 P (L.map f) (L.map g)
  | [], _ => trivial
  | _ :: _, h => ⟨h _ List.mem_cons_self, xAll2_map (fun x q => h x (List.mem_cons_of_mem _ q))⟩
/-- the world, a cell more -/
theorem xHp.push {tys tys' : List (ClassId × FieldType)} {ws : va_W} (hh : xHp ρ ad ex tys h ws) {q : Nat} {x : xC} {y : va_E} (ht : ∀ z ∈ tys, z ∈ tys') (hx : xcell xcn ρ (ad ++ [q]) ex tys' x y) : xHp ρ (ad ++ [q]) ex tys' (h ++ [x]) (ws ++ [(q, y)]) := by
  refine ⟨by rw [List.map_append, hh.1]; rfl, (hh.2.mono (fun a b hab => xcell.mono (xX.rf ρ) ⟨[q], rfl⟩ ht a b.2 hab)).app ⟨hx, trivial⟩⟩
theorem xHp.lenAd {tys : List (ClassId × FieldType)} {ws : va_W} (hh : xHp ρ ad ex tys h ws) : ad.length = h.length := by
  rw [← hh.1, List.length_map, hh.2.len]
theorem x_lastAd {q : Nat} (hl : ad.length = h.length) : (ad ++ [q])[h.length]? = some q := by
  rw [← hl, List.getElem?_concat_length]
/-- a new object of class a, of N fields -/
theorem xNew_ok {a N idx : Nat} {C : String} {T : u_T} (hc : xcl[a]? = some (C, T, N)) (hN60 : N ≤ 60) (Cx : xCtx p s m args c cc nL own) (hd : decode cc pc = .ok (.new idx, 3)) (h1 : Jvm.Cond.classLink own idx C ∈ lw_tbl) (h2 : Jvm.Cond.instantiable C N ∈ lw_tbl) (h3 : Jvm.Cond.initialized C ∈ lw_tbl) (hA : ∀ q, s.heap.size ≤ q → A q) (hcells : cells + 1 ≤ R.cells) (hslots : slots + N ≤ R.slots) (hh : xWd D A s H locs ρ ad ex h)
    (k : ∀ H' q, xWd D A s H' locs ρ (ad ++ [q]) ex (h ++ [.inl (a, xdf a N)]) → (ad ++ [q])[h.length]? = some q → W p l e R s m args below meth c H' locs (cells + 1) (slots + N) Q (F0 m (pc + 3) ls (.ref q :: rest))) : W p l e R s m args below meth c H locs cells slots Q (F0 m pc ls rest) := by
  obtain ⟨hx, hb, -, hown, hg, hn⟩ := id Cx
  obtain ⟨ws, tys, hK, hP, hD, hS, hh⟩ := hh
  have hcl := xcl_ok a C T N hc
  have ha : a < 11 := by
    have := (List.getElem?_eq_some_iff.mp hc).1
    simpa [xcl] using this
  have hin : ∀ w ∈ u_ws C T N, w ∈ xU := fun w q => xU_mem (hcl.1 w q).1 (hcl.1 w q).2
  refine va_new (ci := a) (fs := (List.range N).map (fun k => defaultValue (xct a k))) (C := C) (T := T) (N := N) hx hb Cx.u hin (xct a) hcl.2.1 hown (hg _ h1 rfl) (hg _ h2 rfl) (hg _ h3 rfl) hK hP hD hS hA hc (fun j hj => ?_) hcells hslots hd (fun q H1 k1 k2 k3 => ?_)
  · unfold vp_V
    rw [List.getD_eq_getElem?_getD, List.getElem?_map, List.getElem?_range hj]
    rfl
  · refine k H1 q ⟨_, tys, hK, k1, k2, k3, hh.push (fun z hz => hz) ?_⟩ (x_lastAd hh.lenAd)
    exact ⟨_, rfl, xAll2_map (fun x hx => xdv_ok (xct_ok a ha x (by rw [List.mem_range] at hx; omega)))⟩
def xat : ArrayType → Option Nat
  | .int => some 0
  | .byte => some 1
  | .boolean => some 2
  | .long => some 3
  | _ => none
def xnewC (t n : Nat) : xC := match t with
  | 3 => .inr (.inr (.inl (n, [(n, .inl (none, 0))])))
  | t => .inr (.inl (t, n, [(n, .inl (none, 0))]))
theorem xarr0 {n : Nat} {f : Nat → Int} (hf : ∀ j, f j = 0) : xarr ρ [(n, .inl (none, 0))] n f := fun j hj => by
  refine ⟨.inl (none, 0), ?_, ?_⟩
  · rw [xseg_cons, if_pos hj]
  · show xe ρ (none, 0) = some (f j)
    rw [hf j]
    rfl
/-- a new array of numbers -/
theorem xNewa_ok {at0 : ArrayType} {t n : Nat} {x : Int32} (ht : xat at0 = some t) (Cx : xCtx p s m args c cc nL own) (hd : decode cc pc = .ok (.newarray at0, 2)) (h1 : Jvm.Cond.arrayClass (newarray.typeOf at0) ∈ lw_tbl) (hA : ∀ q, s.heap.size ≤ q → A q) (hn : x.toInt = (n : Int)) (hsm : n < 1000000) (hcells : cells + 1 ≤ R.cells) (hslots : slots + n ≤ R.slots) (hh : xWd D A s H locs ρ ad ex h)
    (k : ∀ H' q, xWd D A s H' locs ρ (ad ++ [q]) ex (h ++ [xnewC t n]) → (ad ++ [q])[h.length]? = some q → W p l e R s m args below meth c H' locs (cells + 1) (slots + n) Q (F0 m (pc + 2) ls (.ref q :: rest))) : W p l e R s m args below meth c H locs cells slots Q (F0 m pc ls (.int x :: rest)) := by
  obtain ⟨hx, hb, -, hown, hg, hn0⟩ := id Cx
  obtain ⟨ws, tys, hK, hP, hD, hS, hh⟩ := hh
  have hneg : ¬ x < 0 := by
    rw [Int32.lt_iff_toInt_lt, hn]
    have : (0 : Int32).toInt = 0 := rfl
    omega
  have hN : x.toNatClampNeg = n := by
    rw [x_tn, hn]
    omega
  have fin : ∀ (ty : FieldType) (a0 : vp_A), newarray.typeOf at0 = ty → (∀ cA : ClassId, vp_cell cA a0 = arrV cA n (fun _ => defaultValue ty)) → n * componentBytes ty ≤ 536870912 → (∀ (q : Nat) (cA : ClassId), xcell xcn ρ (ad ++ [q]) ex (tys ++ [(cA, ty)]) (xnewC t n) (.inl (cA, a0))) → W p l e R s m args below meth c H locs cells slots Q (F0 m pc ls (.int x :: rest)) := by
    intro ty a0 hty ha hby hcell
    refine va_newa (atype := at0) (ty := ty) (a0 := a0) hx hb (hg _ h1 rfl) hty hK hP hD hS hA ha hneg hN hby hcells hslots hd (fun q cA H1 k0 k1 k2 k3 => ?_)
    exact k H1 q ⟨_, _, k0, k1, k2, k3, hh.push (fun z hz => List.mem_append_left _ hz) (hcell q cA)⟩ (x_lastAd hh.lenAd)
  cases at0 with
  | int =>
    cases ht
    exact fin .int (n, .inl (fun _ => 0)) rfl (fun _ => rfl) (by show n * 4 ≤ _; omega) (fun q cA => ⟨cA, _, rfl, List.mem_append_right _ (List.mem_singleton.mpr rfl), xarr0 (fun _ => rfl)⟩)
  | byte =>
    cases ht
    exact fin .byte (n, .inl (fun _ => 0)) rfl (fun _ => rfl) (by show n * 1 ≤ _; omega) (fun q cA => ⟨cA, _, rfl, List.mem_append_right _ (List.mem_singleton.mpr rfl), xarr0 (fun _ => rfl)⟩)
  | boolean =>
    cases ht
    exact fin .boolean (n, .inl (fun _ => 0)) rfl (fun _ => rfl) (by show n * 1 ≤ _; omega) (fun q cA => ⟨cA, _, rfl, List.mem_append_right _ (List.mem_singleton.mpr rfl), xarr0 (fun _ => rfl)⟩)
  | long =>
    cases ht
    exact fin .long (n, .inr (.inl (fun _ => 0))) rfl (fun _ => rfl) (by show n * 8 ≤ _; omega) (fun q cA => ⟨cA, _, rfl, List.mem_append_right _ (List.mem_singleton.mpr rfl), xarr0 (fun _ => rfl)⟩)
  | char => cases ht
  | short => cases ht
  | float => cases ht
  | double => cases ht
/-- a new array of cells of class a -/
theorem xNewq_ok {a n idx : Nat} {x : Int32} (Cx : xCtx p s m args c cc nL own) (hd : decode cc pc = .ok (.anewarray idx, 3)) (h1 : Jvm.Cond.classLink own idx (xcn a) ∈ lw_tbl) (h2 : Jvm.Cond.arrayOver (.object (xcn a)) ∈ lw_tbl) (hA : ∀ q, s.heap.size ≤ q → A q) (hn : x.toInt = (n : Int)) (hsm : n < 1000000) (hcells : cells + 1 ≤ R.cells) (hslots : slots + n ≤ R.slots) (hh : xWd D A s H locs ρ ad ex h)
    (k : ∀ H' q, xWd D A s H' locs ρ (ad ++ [q]) ex (h ++ [.inr (.inr (.inr (a, List.replicate n none)))]) → (ad ++ [q])[h.length]? = some q → W p l e R s m args below meth c H' locs (cells + 1) (slots + n) Q (F0 m (pc + 3) ls (.ref q :: rest))) : W p l e R s m args below meth c H locs cells slots Q (F0 m pc ls (.int x :: rest)) := by
  obtain ⟨hx, hb, -, hown, hg, hn0⟩ := id Cx
  obtain ⟨ws, tys, hK, hP, hD, hS, hh⟩ := hh
  have hneg : ¬ x < 0 := by
    rw [Int32.lt_iff_toInt_lt, hn]
    have : (0 : Int32).toInt = 0 := rfl
    omega
  have hN : x.toNatClampNeg = n := by
    rw [x_tn, hn]
    omega
  refine va_newq hx hb hown (hg _ h1 rfl) (hn0 _ h2 rfl) hK hP hD hS hA hneg hN (by omega) hcells hslots hd (fun q cA H1 k0 k1 k2 k3 => ?_)
  refine k H1 q ⟨_, _, k0, k1, k2, k3, hh.push (fun z hz => List.mem_append_left _ hz) ?_⟩ (x_lastAd hh.lenAd)
  refine ⟨cA, fun _ => none, by rw [List.length_replicate], List.mem_append_right _ (List.mem_singleton.mpr rfl), fun j o ho => ?_⟩
  have : o = none := by
    have := List.mem_of_getElem? ho
    exact List.eq_of_mem_replicate this
  subst this
  rfl
/-- constants of the pool -/
theorem xLdc_ok {idx : Nat} {n : Int} (Cx : xCtx p s m args c cc nL own) (hr : -2147483648 ≤ n ∧ n ≤ 2147483647) (hd : decode cc pc = .ok (.ldc idx, 2)) (h1 : Jvm.Cond.constant own idx (Int32.ofInt n) ∈ lw_tbl)
    (k : ∀ w, xv ρ ad ex (.inl (none, n)) w → W p l e R s m args below meth c H locs cells slots Q (F0 m (pc + 2) ls (w :: rest))) : W p l e R s m args below meth c H locs cells slots Q (F0 m pc ls rest) := by
  obtain ⟨hx, hb, -, hown, hg, hn0⟩ := id Cx
  exact lv_ldc hx hb hown (hg _ h1 rfl) hd (k _ ⟨_, rfl, by rw [x_of32 hr.1 hr.2]; rfl⟩)
theorem xLdcw_ok {idx : Nat} {n : Int} (Cx : xCtx p s m args c cc nL own) (hr : -2147483648 ≤ n ∧ n ≤ 2147483647) (hd : decode cc pc = .ok (.ldc_w idx, 3)) (h1 : Jvm.Cond.constant own idx (Int32.ofInt n) ∈ lw_tbl)
    (k : ∀ w, xv ρ ad ex (.inl (none, n)) w → W p l e R s m args below meth c H locs cells slots Q (F0 m (pc + 3) ls (w :: rest))) : W p l e R s m args below meth c H locs cells slots Q (F0 m pc ls rest) := by
  obtain ⟨hx, hb, -, hown, hg, hn0⟩ := id Cx
  exact lv_ldcw hx hb hown (hg _ h1 rfl) hd (k _ ⟨_, rfl, by rw [x_of32 hr.1 hr.2]; rfl⟩)
theorem xLdc2_ok {idx : Nat} {n : Int} (Cx : xCtx p s m args c cc nL own) (hr : -9223372036854775808 ≤ n ∧ n ≤ 9223372036854775807) (hd : decode cc pc = .ok (.ldc2_w idx, 3)) (h1 : Jvm.Cond.constantLong own idx (Int64.ofInt n) ∈ lw_tbl)
    (k : ∀ w, xv ρ ad ex (.inr (.inl (none, n))) w → W p l e R s m args below meth c H locs cells slots Q (F0 m (pc + 3) ls (w :: rest))) : W p l e R s m args below meth c H locs cells slots Q (F0 m pc ls rest) := by
  obtain ⟨hx, hb, -, hown, hg, hn0⟩ := id Cx
  exact lv_ldc2 hx hb hown (hg _ h1 rfl) hd (k _ ⟨_, rfl, by rw [x_of64 hr.1 hr.2]; rfl⟩)
/-- the script, where this method has it: its ints stand behind the first of scr -/
def xScr (A : Nat → Prop) (s : State) (ρ : List Int) (ex : List Nat) (scr : List xI) : Prop := scr = [] ∨ ∃ (a0 : xI) (is : List xI) (b : Nat) (xs : Nat → Int32), scr = a0 :: is ∧ ex[0]? = some b ∧ va_X b is.length xs s s.heap ∧ b < s.heap.size ∧ ¬ A b ∧ ∀ (j : Nat) (a : xI), is[j]? = some a → xe ρ a = some (xs j).toInt
theorem xScr.mono {ρ' : List Int} {scr : List xI} (hX : xX ρ ρ') (hs : xScr A s ρ ex scr) : xScr A s ρ' ex scr := by
  rcases hs with hs | ⟨a0, is, b, xs, h0, h1, h2, h3, h4, h5⟩
  · exact Or.inl hs
  · exact Or.inr ⟨a0, is, b, xs, h0, h1, h2, h3, h4, fun j a ha => xe.mono hX (h5 j a ha)⟩
def xSld (scr : List xI) (σ : List xB) (i : xI) (u : xV) : Option xI := match u with
  | .inr (.inr (.inr 0)) => (match scr with
    | _ :: is => (match xrg σ i with
      | some r => bif xeq r.1 r.2 && xle 0 r.1 then is[r.1.toNat]? else none
      | none => none)
    | [] => none)
  | _ => none
theorem xSld_ok {scr : List xI} {ix : xI} {u : xV} {x : Int32} {wu : Value} {r : xI} (hv : xSld scr σ ix u = some r) (C : xCtx p s m args c cc nL own) (hd : decode cc pc = .ok (.iaload, 1)) (hS : xSt ρ σ) (hs : xScr A s ρ ex scr) (hi : xe ρ ix = some x.toInt) (hwu : xv ρ ad ex u wu) (hh : xWd D A s H locs ρ ad ex h)
    (k : ∀ w, xv ρ ad ex (.inl r) w → W p l e R s m args below meth c H locs cells slots Q (F0 m (pc + 1) ls (w :: rest))) : W p l e R s m args below meth c H locs cells slots Q (F0 m pc ls (.int x :: wu :: rest)) := by
  obtain ⟨hx, hb, -, hown, hg, hn⟩ := id C
  obtain ⟨ws, tys, hK, hP, hD, hSS, hh⟩ := hh
  unfold xSld at hv
  split at hv
  · rcases hs with hs | ⟨a0, is, b, xs, h0, h1, h2, h3, h4, h5⟩
    · rw [hs] at hv
      cases hv
    · rw [h0] at hv
      dsimp only at hv
      split at hv
      · rename_i q hq
        obtain ⟨e1, hv⟩ := x_bifO hv
        rw [Bool.and_eq_true, xeq_iff, xle_iff] at e1
        have hz := xrg_ok hS hi hq
        have ez : q.1 = x.toInt := by omega
        rw [ez] at hv
        obtain ⟨b0, hb0, rfl⟩ := hwu
        rw [h1] at hb0
        cases hb0
        have hlt : x.toInt.toNat < is.length := (List.getElem?_eq_some_iff.mp hv).1
        have hin : vp_in x is.length := vp_in_iff.mpr ⟨by omega, by omega⟩
        exact va_sld hx hb h2 h3 h4 hSS hin hd (k _ ⟨_, rfl, h5 _ _ hv⟩)
      · cases hv
  · cases hv
def xSln (scr : List xI) (u : xV) : Option xV := match u with
  | .inr (.inr (.inr 0)) => (match scr with
    | _ :: is => bif Nat.blt is.length 1000000 then some (.inl (none, Int.ofNat is.length)) else none
    | [] => none)
  | _ => none
theorem xSln_ok {scr : List xI} {u v : xV} {wu : Value} (hv : xSln scr u = some v) (C : xCtx p s m args c cc nL own) (hd : decode cc pc = .ok (.arraylength, 1)) (hs : xScr A s ρ ex scr) (hwu : xv ρ ad ex u wu) (hh : xWd D A s H locs ρ ad ex h)
    (k : ∀ w, xv ρ ad ex v w → W p l e R s m args below meth c H locs cells slots Q (F0 m (pc + 1) ls (w :: rest))) : W p l e R s m args below meth c H locs cells slots Q (F0 m pc ls (wu :: rest)) := by
  obtain ⟨hx, hb, -, hown, hg, hn⟩ := id C
  obtain ⟨ws, tys, hK, hP, hD, hSS, hh⟩ := hh
  unfold xSln at hv
  split at hv
  · rcases hs with hs | ⟨a0, is, b, xs, h0, h1, h2, h3, h4, h5⟩
    · rw [hs] at hv
      cases hv
    · rw [h0] at hv
      dsimp only at hv
      obtain ⟨e1, hv⟩ := x_bif hv
      subst hv
      obtain ⟨b0, hb0, rfl⟩ := hwu
      rw [h1] at hb0
      cases hb0
      exact va_slen hx hb h2 h3 h4 hSS hd (k _ ⟨_, rfl, by rw [x_nat32 (x_blt e1)]; rfl⟩)
  · cases hv
/-- the lesser, the greater of two numbers -/
def xMin (σ : List xB) (a b : xI) : xR := match xrg σ a with
  | none => none
  | some ra => match xrg σ b with
    | none => none
    | some rb => bif xle ra.2 rb.1 then some (a, σ) else (bif xle rb.2 ra.1 then some (b, σ) else some (xmk σ (xmin ra.1 rb.1) (xmin ra.2 rb.2)))
theorem xMin_ok {a b : xI} {r : xI × List xB} {z1 z2 : Int} (hv : xMin σ a b = some r) (hS : xSt ρ σ) (h1 : xe ρ a = some z1) (h2 : xe ρ b = some z2) : xGood ρ r (if z2 < z1 then z2 else z1) := by
  unfold xMin at hv
  cases ha : xrg σ a with
  | none => rw [ha] at hv; cases hv
  | some ra =>
    cases hb : xrg σ b with
    | none => rw [ha, hb] at hv; cases hv
    | some rb =>
      rw [ha, hb] at hv
      have q1 := xrg_ok hS h1 ha
      have q2 := xrg_ok hS h2 hb
      dsimp only at hv
      cases c1 : xle ra.2 rb.1 with
      | true =>
        rw [c1] at hv
        cases hv
        have := xle_iff.mp c1
        exact ⟨ρ, xX.rf ρ, hS, by rw [if_neg (by omega)]; exact h1⟩
      | false =>
        rw [c1] at hv
        simp only [cond_false] at hv
        cases c2 : xle rb.2 ra.1 with
        | true =>
          rw [c2] at hv
          cases hv
          have := xle_iff.mp c2
          refine ⟨ρ, xX.rf ρ, hS, ?_⟩
          rw [h2]
          congr 1
          split <;> omega
        | false =>
          rw [c2] at hv
          cases hv
          have a1 := xmin_l ra.1 rb.1
          have a2 := xmin_r ra.1 rb.1
          have a3 : (if z2 < z1 then z2 else z1) ≤ xmin ra.2 rb.2 := xmin_le1 (by split <;> omega) (by split <;> omega)
          exact xmk_ok hS (by split <;> omega) a3
def xMax (σ : List xB) (a b : xI) : xR := match xrg σ a with
  | none => none
  | some ra => match xrg σ b with
    | none => none
    | some rb => bif xle rb.2 ra.1 then some (a, σ) else (bif xle ra.2 rb.1 then some (b, σ) else some (xmk σ (xmax ra.1 rb.1) (xmax ra.2 rb.2)))
theorem xMax_ok {a b : xI} {r : xI × List xB} {z1 z2 : Int} (hv : xMax σ a b = some r) (hS : xSt ρ σ) (h1 : xe ρ a = some z1) (h2 : xe ρ b = some z2) : xGood ρ r (if z1 < z2 then z2 else z1) := by
  unfold xMax at hv
  cases ha : xrg σ a with
  | none => rw [ha] at hv; cases hv
  | some ra =>
    cases hb : xrg σ b with
    | none => rw [ha, hb] at hv; cases hv
    | some rb =>
      rw [ha, hb] at hv
      have q1 := xrg_ok hS h1 ha
      have q2 := xrg_ok hS h2 hb
      dsimp only at hv
      cases c1 : xle rb.2 ra.1 with
      | true =>
        rw [c1] at hv
        cases hv
        have := xle_iff.mp c1
        exact ⟨ρ, xX.rf ρ, hS, by rw [if_neg (by omega)]; exact h1⟩
      | false =>
        rw [c1] at hv
        simp only [cond_false] at hv
        cases c2 : xle ra.2 rb.1 with
        | true =>
          rw [c2] at hv
          cases hv
          have := xle_iff.mp c2
          refine ⟨ρ, xX.rf ρ, hS, ?_⟩
          rw [h2]
          congr 1
          split <;> omega
        | false =>
          rw [c2] at hv
          cases hv
          have a1 := xmax_l ra.2 rb.2
          have a2 := xmax_r ra.2 rb.2
          have a3 : xmax ra.1 rb.1 ≤ (if z1 < z2 then z2 else z1) := xmax_le1 (by split <;> omega) (by split <;> omega)
          exact xmk_ok hS a3 (by split <;> omega)
theorem x_min32 (x y : Int32) : (if y < x then y else x).toInt = if y.toInt < x.toInt then y.toInt else x.toInt := by
  by_cases hq : y < x
  · rw [if_pos hq, if_pos (Int32.lt_iff_toInt_lt.mp hq)]
  · rw [if_neg hq, if_neg (fun q => hq (Int32.lt_iff_toInt_lt.mpr q))]
theorem x_max32 (x y : Int32) : (if x < y then y else x).toInt = if x.toInt < y.toInt then y.toInt else x.toInt := by
  by_cases hq : x < y
  · rw [if_pos hq, if_pos (Int32.lt_iff_toInt_lt.mp hq)]
  · rw [if_neg hq, if_neg (fun q => hq (Int32.lt_iff_toInt_lt.mpr q))]
theorem x_min64 (x y : Int64) : (if y < x then y else x).toInt = if y.toInt < x.toInt then y.toInt else x.toInt := by
  by_cases hq : y < x
  · rw [if_pos hq, if_pos (Int64.lt_iff_toInt_lt.mp hq)]
  · rw [if_neg hq, if_neg (fun q => hq (Int64.lt_iff_toInt_lt.mpr q))]
theorem x_nfw : nativeFrameWords "java/lang/System" "arraycopy" 5 = 7 := by decide +kernel
/-- a whole array of ints into another of the same length -/
def xCpy (σ : List xB) (h : List xC) (n dp : xI) (v : xV) (sp : xI) (u : xV) : Option (List xC) := match u, v with
  | .inr (.inr (.inl (some js))), .inr (.inr (.inl (some jd))) => (match h[js]?, h[jd]? with
    | some (.inr (.inl a)), some (.inr (.inl b)) => (match xrg σ n, xrg σ dp, xrg σ sp with
      | some rn, some rd, some rs => bif (Nat.beq a.1 0 && Nat.beq b.1 0) && ((Nat.beq a.2.1 b.2.1 && xeq rn.1 (Int.ofNat a.2.1)) && ((xeq rn.1 rn.2 && xeq rd.1 rd.2) && ((xeq rs.1 rs.2 && xeq rd.1 0) && xeq rs.1 0))) then some (h.set jd (.inr (.inl (b.1, b.2.1, a.2.2)))) else none
      | _, _, _ => none)
    | _, _ => none)
  | _, _ => none
theorem xCpy_ok {n dp sp : xI} {v u : xV} {xn xd xp : Int32} {wv wu : Value} {h' : List xC} {idx : Nat} (hv : xCpy σ h n dp v sp u = some h') (C : xCtx p s m args c cc nL own) (hsz : ls.size = nL) (hd : decode cc pc = .ok (.invokestatic idx, 3)) (h1 : Jvm.Cond.methodLink own idx arraycopyName ∈ lw_tbl) (h2 : Jvm.Cond.native arraycopyName ∈ lw_tbl) (h3 : Jvm.Cond.static arraycopyName ∈ lw_tbl) (h4 : Jvm.Cond.initialized "java/lang/System" ∈ lw_tbl) (hfr : 1 ≤ R.frames) (hlo : (rest.map fun v => v.category).sum + 18 ≤ R.locals)
    (hS : xSt ρ σ) (hn : xe ρ n = some xn.toInt) (hdp : xe ρ dp = some xd.toInt) (hsp : xe ρ sp = some xp.toInt) (hwv : xv ρ ad ex v wv) (hwu : xv ρ ad ex u wu) (hh : xWd D A s H locs ρ ad ex h)
    (k : ∀ H' locs', xWd D A s H' locs' ρ ad ex h' → W p l e R s m args below meth c H' locs' cells slots Q (F0 m (pc + 3) ls rest)) : W p l e R s m args below meth c H locs cells slots Q (F0 m pc ls (.int xn :: .int xd :: wv :: .int xp :: wu :: rest)) := by
  obtain ⟨hx, hb, hml, hown, hg, hn0⟩ := id C
  rcases u with u | u | (_ | js) | u <;> first | (simp [xCpy] at hv; done) | skip
  rcases v with v | v | (_ | jd) | v <;> first | (simp [xCpy] at hv; done) | skip
  unfold xCpy at hv
  dsimp only at hv
  split at hv
  · rename_i a b ha hb2
    split at hv
    · rename_i rn rd rs hrn hrd hrs
      obtain ⟨e1, hv⟩ := x_bif hv
      subst hv
      simp only [Bool.and_eq_true, xeq_iff] at e1
      obtain ⟨⟨e1, e2⟩, ⟨e3, e4⟩, ⟨e5, e6⟩, ⟨e7, e8⟩, e9⟩ := e1
      have f1 := Nat.eq_of_beq_eq_true e1
      have f2 := Nat.eq_of_beq_eq_true e2
      have f3 := Nat.eq_of_beq_eq_true e3
      clear e1 e2 e3
      have zn := xrg_ok hS hn hrn
      have zd := xrg_ok hS hdp hrd
      have zs := xrg_ok hS hsp hrs
      have en : (Int.ofNat a.2.1 : Int) = (a.2.1 : Int) := rfl
      have xn0 : xn.toInt = (a.2.1 : Int) := by omega
      have xd0 : xd.toInt = 0 := by omega
      have xp0 : xp.toInt = 0 := by omega
      have d0 : (0 : Int32).toInt = 0 := rfl
      obtain ⟨qd, hqd, rfl⟩ := hwv
      obtain ⟨qs, hqs, rfl⟩ := hwu
      obtain ⟨ws, tys, hK, hP, hD, hSS, hh⟩ := hh
      obtain ⟨ya, ya1, cA, f, rfl, ya2, ya3⟩ := hh.at ha hqs
      obtain ⟨yb, yb1, cB, g, rfl, yb2, yb3⟩ := hh.at hb2 hqd
      obtain ⟨t0, ht0⟩ := x_mem_tys ya2
      obtain ⟨t1, ht1⟩ := x_mem_tys yb2
      obtain ⟨ty, an, ag⟩ := a
      obtain ⟨ty2, bn, bg⟩ := b
      dsimp only at f1 f2 f3 xn0 ya1 yb1 ya3 yb3
      subst f1; subst f2; subst f3
      have tn : xn.toNatClampNeg = an := by rw [x_tn, xn0]; omega
      have td : xd.toNatClampNeg = 0 := by rw [x_tn, xd0]; omega
      have tp : xp.toNatClampNeg = 0 := by rw [x_tn, xp0]; omega
      refine va_copyi (ty := .int) hx hb (by rw [hml, hsz]) hown (hg _ h1 rfl) (hg _ h2 rfl) (hg _ h3 rfl) (hg _ h4 rfl) hK hP hD hSS js jd t0 t1 ya1 yb1 ht0 ht1 rfl (by rw [Int32.lt_iff_toInt_lt]; omega) (by rw [Int32.lt_iff_toInt_lt]; omega) (by rw [Int32.lt_iff_toInt_lt]; omega) (by omega) (by omega) (fun _ _ => rfl) hfr (by rw [x_nfw]; omega) hd (fun H1 locs1 k1 k2 k3 => ?_)
      refine k H1 locs1 ⟨_, tys, hK, k1, k2, k3, hh.put hqd ?_⟩
      refine ⟨cB, _, rfl, yb2, fun j hj => ?_⟩
      obtain ⟨uu, u1, u2⟩ := ya3 j hj
      refine ⟨uu, u1, ?_⟩
      show xel ρ uu (va_cpy f g xp.toNatClampNeg xd.toNatClampNeg xn.toNatClampNeg j).toInt
      have : va_cpy f g xp.toNatClampNeg xd.toNatClampNeg xn.toNatClampNeg j = f j := by
        unfold va_cpy
        rw [tn, td, tp, if_pos ⟨Nat.zero_le _, by have : j < an := hj; omega⟩]
        congr 1
        omega
      rw [this]
      exact u2
    · cases hv
  · cases hv
end XM
