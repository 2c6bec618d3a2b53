/-! Instructions that touch neither the heap nor the place in the code. -/
theorem xAll2.filter {α β : Type} {R : α → β → Prop} {p : α → Bool} {q : β → Bool} (hpq : ∀ a b, R a b → p a = q b) : ∀ {l : List α} {r : List β}, xAll2 R l r → xAll2 R (l.filter p) (r.filter q)
  | [], [], _ => trivial
  | a :: as, b :: bs, h => by
    have e := hpq a b h.1
    cases hp : p a with
    | true =>
      rw [List.filter_cons_of_pos hp, List.filter_cons_of_pos (by rw [← e]; exact hp)]
      exact ⟨h.1, xAll2.filter hpq h.2⟩
    | false =>
      rw [List.filter_cons_of_neg (by rw [hp]; decide), List.filter_cons_of_neg (by rw [← e, hp]; decide)]
      exact xAll2.filter hpq h.2
  | [], _ :: _, h => h.elim
  | _ :: _, [], h => h.elim
/-- the locals -/
def xLo (ρ : List Int) (ad ex : List Nat) (nL : Nat) (loc : List (Nat × xV)) (ls : Array Slot) : Prop := ∃ lv : List (Nat × Value), lv_has ls nL lv ∧ xAll2 (fun q r => q.1 = r.1 ∧ xv ρ ad ex q.2 r.2) loc lv
theorem xLo.mono {ρ ρ' : List Int} {ad ad' ex : List Nat} {nL : Nat} {loc : List (Nat × xV)} {ls : Array Slot} (h1 : xX ρ ρ') (h2 : xX ad ad') (h : xLo ρ ad ex nL loc ls) : xLo ρ' ad' ex nL loc ls := by
  obtain ⟨lv, a, b⟩ := h
  exact ⟨lv, a, b.mono (fun q r hq => ⟨hq.1, xv.mono h1 h2 _ _ hq.2⟩)⟩
def xget : List (Nat × xV) → Nat → Option xV
  | [], _ => none
  | q :: t, i => bif Nat.beq q.1 i then some q.2 else xget t i
theorem xget_mem : ∀ {loc : List (Nat × xV)} {i : Nat} {v : xV}, xget loc i = some v → ∃ k : Nat, loc[k]? = some (i, v)
  | [], _, _, h => by cases h
  | q :: t, i, v, h => by
    unfold xget at h
    cases hb : Nat.beq q.1 i with
    | true =>
      rw [hb] at h
      simp only [cond_true, Option.some.injEq] at h
      have := Nat.eq_of_beq_eq_true hb
      refine ⟨0, ?_⟩
      obtain ⟨a, b⟩ := q
      dsimp only at h this
      subst h; subst this
      rfl
    | false =>
      rw [hb] at h
      obtain ⟨k, hk⟩ := xget_mem (show xget t i = some v from h)
      exact ⟨k + 1, by simpa using hk⟩
theorem xLo.get {ρ : List Int} {ad ex : List Nat} {nL : Nat} {loc : List (Nat × xV)} {ls : Array Slot} (h : xLo ρ ad ex nL loc ls) {i : Nat} {v : xV} (hv : xget loc i = some v) : ∃ w, ls[i]? = some (.val w) ∧ xv ρ ad ex v w := by
  obtain ⟨lv, a, b⟩ := h
  obtain ⟨k, hk⟩ := xget_mem hv
  obtain ⟨r, h1, h2, h3⟩ := b.get hk
  obtain ⟨j, w⟩ := r
  dsimp only at h2 h3
  subst h2
  exact ⟨w, lv_at a k h1, h3⟩
def xsto1 (loc : List (Nat × xV)) (i : Nat) (v : xV) : List (Nat × xV) := (i, v) :: loc.filter (fun q => !(q.1 == i) && !(q.1 + 1 == i && xcat q.2 == 2))
def xsto2 (loc : List (Nat × xV)) (i : Nat) (v : xV) : List (Nat × xV) := (i, v) :: loc.filter (fun q => !(q.1 == i) && (!(q.1 == i + 1) && !(q.1 + 1 == i && xcat q.2 == 2)))
theorem xLo.size {ρ : List Int} {ad ex : List Nat} {nL : Nat} {loc : List (Nat × xV)} {ls : Array Slot} (h : xLo ρ ad ex nL loc ls) : ls.size = nL := by
  obtain ⟨lv, a, b⟩ := h
  exact a.1
section XO
variable {p : Program} {l : Launch} {e : Env} {R : Room} {s : State} {m : MethodId} {args : Array Value} {below : List Frame} {meth : Method} {c : Code} {H : Heap} {locs : List Loc} {cells slots : Nat} {Q : State → Prop} {cc : ByteArray} {pc : Nat} {ls : Array Slot} {st rest : List Value} {ρ : List Int} {ad ex : List Nat} {nL : Nat} {loc : List (Nat × xV)} {σ : List xB} {len : Nat} {i : Instr}
def xConst (i : Instr) (len : Nat) : Option xV := match i with
  | .iconst n => bif Nat.beq len 1 && (xle (-128) n && xle n 127) then some (.inl (none, n)) else none
  | .bipush n => bif Nat.beq len 2 && (xle (-128) n && xle n 127) then some (.inl (none, n)) else none
  | .sipush n => bif Nat.beq len 3 && (xle (-32768) n && xle n 32767) then some (.inl (none, n)) else none
  | .lconst n => bif Nat.beq len 1 then some (.inr (.inl (none, Int.ofNat n.val))) else none
  | _ => none
theorem x_and3 {a b c : Bool} (h : (a && (b && c)) = true) : a = true ∧ b = true ∧ c = true := by
  rw [Bool.and_eq_true, Bool.and_eq_true] at h
  exact h
theorem x_bif {α : Type} {b : Bool} {x y : α} (h : (bif b then some x else none) = some y) : b = true ∧ x = y := by
  cases b
  · cases h
  · exact ⟨rfl, Option.some.inj h⟩
theorem x_bifO {α : Type} {b : Bool} {x : Option α} {y : α} (h : (bif b then x else none) = some y) : b = true ∧ x = some y := by
  cases b
  · cases h
  · exact ⟨rfl, h⟩
theorem xConst_ok {v : xV} (hv : xConst i len = some v) (hx : p.tables.exec = Jvm.exec) (hb : c.code = cc) (hd : decode cc pc = .ok (i, len))
    (k : ∀ w, xv ρ ad ex v w → W p l e R s m args below meth c H locs cells slots Q (F0 m (pc + len) ls (w :: rest))) : W p l e R s m args below meth c H locs cells slots Q (F0 m pc ls rest) := by
  unfold xConst at hv
  split at hv
  · rename_i n
    obtain ⟨h1, h2⟩ := x_bif hv
    obtain ⟨g1, g2, g3⟩ := x_and3 h1
    have e1 := Nat.eq_of_beq_eq_true g1
    rw [xle_iff] at g2 g3
    subst e1; subst h2
    exact lv_iconst hx hb hd rfl (k _ ⟨_, rfl, by rw [x_of32 (by omega) (by omega)]; rfl⟩)
  · rename_i n
    obtain ⟨h1, h2⟩ := x_bif hv
    obtain ⟨g1, g2, g3⟩ := x_and3 h1
    have e1 := Nat.eq_of_beq_eq_true g1
    rw [xle_iff] at g2 g3
    subst e1; subst h2
    refine lv_bipush hx hb hd rfl (k _ ⟨_, rfl, ?_⟩)
    rw [Int8.toInt_toInt32, Int8.toInt_ofInt_of_le (by omega) (by omega)]
    rfl
  · rename_i n
    obtain ⟨h1, h2⟩ := x_bif hv
    obtain ⟨g1, g2, g3⟩ := x_and3 h1
    have e1 := Nat.eq_of_beq_eq_true g1
    rw [xle_iff] at g2 g3
    subst e1; subst h2
    refine lv_sipush hx hb hd rfl (k _ ⟨_, rfl, ?_⟩)
    rw [Int16.toInt_toInt32, Int16.toInt_ofInt_of_le (by omega) (by omega)]
    rfl
  · rename_i n
    obtain ⟨h1, h2⟩ := x_bif hv
    have e1 := Nat.eq_of_beq_eq_true h1
    subst e1; subst h2
    refine lv_lconst hx hb hd rfl (k _ ⟨_, rfl, ?_⟩)
    have := n.isLt
    rw [Int64.toInt_ofNat_of_lt (by omega)]
    rfl
  · cases hv
/-- what is loaded from a local, its kind by the instruction -/
def xLoad (i : Instr) (len : Nat) (loc : List (Nat × xV)) : Option xV := match i with
  | .iload_n k => bif Nat.beq len 1 then (match xget loc k.val with
    | some (.inl a) => some (.inl a)
    | _ => none) else none
  | .iload k => bif Nat.beq len 2 then (match xget loc k with
    | some (.inl a) => some (.inl a)
    | _ => none) else none
  | .aload_n k => bif Nat.beq len 1 then (match xget loc k.val with
    | some (.inr (.inr (.inl (some a)))) => some (.inr (.inr (.inl (some a))))
    | some (.inr (.inr (.inr a))) => some (.inr (.inr (.inr a)))
    | _ => none) else none
  | .aload k => bif Nat.beq len 2 then (match xget loc k with
    | some (.inr (.inr (.inl (some a)))) => some (.inr (.inr (.inl (some a))))
    | some (.inr (.inr (.inr a))) => some (.inr (.inr (.inr a)))
    | _ => none) else none
  | .lload_n k => bif Nat.beq len 1 then (match xget loc k.val with
    | some (.inr (.inl a)) => some (.inr (.inl a))
    | _ => none) else none
  | .lload k => bif Nat.beq len 2 then (match xget loc k with
    | some (.inr (.inl a)) => some (.inr (.inl a))
    | _ => none) else none
  | _ => none
theorem xLoad_ok {v : xV} (hv : xLoad i len loc = some v) (hx : p.tables.exec = Jvm.exec) (hb : c.code = cc) (hd : decode cc pc = .ok (i, len)) (hL : xLo ρ ad ex nL loc ls)
    (k : ∀ w, xv ρ ad ex v w → W p l e R s m args below meth c H locs cells slots Q (F0 m (pc + len) ls (w :: rest))) : W p l e R s m args below meth c H locs cells slots Q (F0 m pc ls rest) := by
  unfold xLoad at hv
  split at hv
  · obtain ⟨h1, h2⟩ := x_bifO hv
    have e1 := Nat.eq_of_beq_eq_true h1
    subst e1
    split at h2
    · rename_i a hg
      obtain ⟨w, hw1, x, rfl, hw2⟩ := hL.get hg
      cases h2
      exact lv_iload_n hx hb hd rfl hw1 (k _ ⟨x, rfl, hw2⟩)
    · cases h2
  · obtain ⟨h1, h2⟩ := x_bifO hv
    have e1 := Nat.eq_of_beq_eq_true h1
    subst e1
    split at h2
    · rename_i a hg
      obtain ⟨w, hw1, x, rfl, hw2⟩ := hL.get hg
      cases h2
      exact lv_iload hx hb hd hw1 (k _ ⟨x, rfl, hw2⟩)
    · cases h2
  · obtain ⟨h1, h2⟩ := x_bifO hv
    have e1 := Nat.eq_of_beq_eq_true h1
    subst e1
    split at h2
    · rename_i a hg
      obtain ⟨w, hw1, x, hw2, rfl⟩ := hL.get hg
      cases h2
      exact lv_aload_n hx hb hd rfl hw1 (k _ ⟨x, hw2, rfl⟩)
    · rename_i a hg
      obtain ⟨w, hw1, x, hw2, rfl⟩ := hL.get hg
      cases h2
      exact lv_aload_n hx hb hd rfl hw1 (k _ ⟨x, hw2, rfl⟩)
    · cases h2
  · obtain ⟨h1, h2⟩ := x_bifO hv
    have e1 := Nat.eq_of_beq_eq_true h1
    subst e1
    split at h2
    · rename_i a hg
      obtain ⟨w, hw1, x, hw2, rfl⟩ := hL.get hg
      cases h2
      exact lv_aload hx hb hd hw1 (k _ ⟨x, hw2, rfl⟩)
    · rename_i a hg
      obtain ⟨w, hw1, x, hw2, rfl⟩ := hL.get hg
      cases h2
      exact lv_aload hx hb hd hw1 (k _ ⟨x, hw2, rfl⟩)
    · cases h2
  · obtain ⟨h1, h2⟩ := x_bifO hv
    have e1 := Nat.eq_of_beq_eq_true h1
    subst e1
    split at h2
    · rename_i a hg
      obtain ⟨w, hw1, x, rfl, hw2⟩ := hL.get hg
      cases h2
      exact lv_lload_n hx hb hd rfl hw1 (k _ ⟨x, rfl, hw2⟩)
    · cases h2
  · obtain ⟨h1, h2⟩ := x_bifO hv
    have e1 := Nat.eq_of_beq_eq_true h1
    subst e1
    split at h2
    · rename_i a hg
      obtain ⟨w, hw1, x, rfl, hw2⟩ := hL.get hg
      cases h2
      exact lv_lload hx hb hd hw1 (k _ ⟨x, rfl, hw2⟩)
    · cases h2
  · cases hv
/-- a store: the kind of the value by the instruction -/
def xSto (i : Instr) (len : Nat) (nL : Nat) (loc : List (Nat × xV)) (v : xV) : Option (List (Nat × xV)) := match i with
  | .istore_n k => bif Nat.beq len 1 && Nat.blt k.val nL then (match v with
    | .inl _ => some (xsto1 loc k.val v)
    | _ => none) else none
  | .istore k => bif Nat.beq len 2 && Nat.blt k nL then (match v with
    | .inl _ => some (xsto1 loc k v)
    | _ => none) else none
  | .astore_n k => bif Nat.beq len 1 && Nat.blt k.val nL then (match v with
    | .inr (.inr (.inl (some _))) => some (xsto1 loc k.val v)
    | _ => none) else none
  | .astore k => bif Nat.beq len 2 && Nat.blt k nL then (match v with
    | .inr (.inr (.inl (some _))) => some (xsto1 loc k v)
    | _ => none) else none
  | .lstore_n k => bif Nat.beq len 1 && Nat.blt (k.val + 1) nL then (match v with
    | .inr (.inl _) => some (xsto2 loc k.val v)
    | _ => none) else none
  | .lstore k => bif Nat.beq len 2 && Nat.blt (k + 1) nL then (match v with
    | .inr (.inl _) => some (xsto2 loc k v)
    | _ => none) else none
  | _ => none
theorem x_blt {a b : Nat} (h : Nat.blt a b = true) : a < b := by
  unfold Nat.blt at h
  exact Nat.le_of_ble_eq_true h
theorem xLo_f1 {lv : List (Nat × Value)} {j : Nat} (h2 : xAll2 (fun q r => q.1 = r.1 ∧ xv ρ ad ex q.2 r.2) loc lv) {v : xV} {w : Value} (hv : xv ρ ad ex v w) : xAll2 (fun q r => q.1 = r.1 ∧ xv ρ ad ex q.2 r.2) (xsto1 loc j v) ((j, w) :: lv.filter (fun q => !(q.1 == j) && !(q.1 + 1 == j && q.2.category == 2))) :=
  ⟨⟨rfl, hv⟩, h2.filter (fun a b hab => by rw [hab.1, hab.2.cat])⟩
theorem xLo_f2 {lv : List (Nat × Value)} {j : Nat} (h2 : xAll2 (fun q r => q.1 = r.1 ∧ xv ρ ad ex q.2 r.2) loc lv) {v : xV} {w : Value} (hv : xv ρ ad ex v w) : xAll2 (fun q r => q.1 = r.1 ∧ xv ρ ad ex q.2 r.2) (xsto2 loc j v) ((j, w) :: lv.filter (fun q => !(q.1 == j) && (!(q.1 == j + 1) && !(q.1 + 1 == j && q.2.category == 2)))) :=
  ⟨⟨rfl, hv⟩, h2.filter (fun a b hab => by rw [hab.1, hab.2.cat])⟩
theorem xSto_ok {v : xV} {w : Value} {loc' : List (Nat × xV)} (hv : xSto i len nL loc v = some loc') (hx : p.tables.exec = Jvm.exec) (hb : c.code = cc) (hd : decode cc pc = .ok (i, len)) (hL : xLo ρ ad ex nL loc ls) (hw : xv ρ ad ex v w)
    (k : ∀ ls', xLo ρ ad ex nL loc' ls' → W p l e R s m args below meth c H locs cells slots Q (F0 m (pc + len) ls' rest)) : W p l e R s m args below meth c H locs cells slots Q (F0 m pc ls (w :: rest)) := by
  obtain ⟨lv, hl, h2⟩ := hL
  unfold xSto at hv
  split at hv
  · obtain ⟨h1, h3⟩ := x_bifO hv
    rw [Bool.and_eq_true] at h1
    have e1 := Nat.eq_of_beq_eq_true h1.1
    subst e1
    split at h3
    · cases h3
      obtain ⟨x, rfl, hw2⟩ := hw
      exact lv_istore_n hx hb hd rfl hl (x_blt h1.2) rfl (fun ls' h' => k ls' ⟨_, h', xLo_f1 h2 ⟨x, rfl, hw2⟩⟩)
    · cases h3
  · obtain ⟨h1, h3⟩ := x_bifO hv
    rw [Bool.and_eq_true] at h1
    have e1 := Nat.eq_of_beq_eq_true h1.1
    subst e1
    split at h3
    · cases h3
      obtain ⟨x, rfl, hw2⟩ := hw
      exact lv_istore hx hb hd hl (x_blt h1.2) rfl (fun ls' h' => k ls' ⟨_, h', xLo_f1 h2 ⟨x, rfl, hw2⟩⟩)
    · cases h3
  · obtain ⟨h1, h3⟩ := x_bifO hv
    rw [Bool.and_eq_true] at h1
    have e1 := Nat.eq_of_beq_eq_true h1.1
    subst e1
    split at h3
    · cases h3
      obtain ⟨x, hw2, rfl⟩ := hw
      exact lv_astore_n hx hb hd rfl hl (x_blt h1.2) rfl (fun ls' h' => k ls' ⟨_, h', xLo_f1 h2 ⟨x, hw2, rfl⟩⟩)
    · cases h3
  · obtain ⟨h1, h3⟩ := x_bifO hv
    rw [Bool.and_eq_true] at h1
    have e1 := Nat.eq_of_beq_eq_true h1.1
    subst e1
    split at h3
    · cases h3
      obtain ⟨x, hw2, rfl⟩ := hw
      exact lv_astore hx hb hd hl (x_blt h1.2) rfl (fun ls' h' => k ls' ⟨_, h', xLo_f1 h2 ⟨x, hw2, rfl⟩⟩)
    · cases h3
  · obtain ⟨h1, h3⟩ := x_bifO hv
    rw [Bool.and_eq_true] at h1
    have e1 := Nat.eq_of_beq_eq_true h1.1
    subst e1
    split at h3
    · cases h3
      obtain ⟨x, rfl, hw2⟩ := hw
      exact lv_lstore_n hx hb hd rfl hl (x_blt h1.2) rfl (fun ls' h' => k ls' ⟨_, h', xLo_f2 h2 ⟨x, rfl, hw2⟩⟩)
    · cases h3
  · obtain ⟨h1, h3⟩ := x_bifO hv
    rw [Bool.and_eq_true] at h1
    have e1 := Nat.eq_of_beq_eq_true h1.1
    subst e1
    split at h3
    · cases h3
      obtain ⟨x, rfl, hw2⟩ := hw
      exact lv_lstore hx hb hd hl (x_blt h1.2) rfl (fun ls' h' => k ls' ⟨_, h', xLo_f2 h2 ⟨x, rfl, hw2⟩⟩)
    · cases h3
  · cases hv
def xIinc (j : Nat) (n : Int) (nL : Nat) (σ : List xB) (loc : List (Nat × xV)) : Option (List xB × List (Nat × xV)) := bif Nat.blt j nL && (xle (-32768) n && xle n 32767) then (match xget loc j with
  | some (.inl a) => (match xadd (-2147483648) 2147483647 σ a (none, n) with
    | some r => some (r.2, xsto1 loc j (.inl r.1))
    | none => none)
  | _ => none) else none
theorem xIinc_ok {j : Nat} {n : Int} {σ' : List xB} {loc' : List (Nat × xV)} (hv : xIinc j n nL σ loc = some (σ', loc')) (hx : p.tables.exec = Jvm.exec) (hb : c.code = cc) (hd : decode cc pc = .ok (.iinc j n, 3)) (hS : xSt ρ σ) (hL : xLo ρ ad ex nL loc ls)
    (k : ∀ ρ' ls', xX ρ ρ' → xSt ρ' σ' → xLo ρ' ad ex nL loc' ls' → W p l e R s m args below meth c H locs cells slots Q (F0 m (pc + 3) ls' rest)) : W p l e R s m args below meth c H locs cells slots Q (F0 m pc ls rest) := by
  unfold xIinc at hv
  obtain ⟨h1, h3⟩ := x_bifO hv
  obtain ⟨g1, g2, g3⟩ := x_and3 h1
  rw [xle_iff] at g2 g3
  split at h3
  · rename_i a hg
    split at h3
    · rename_i r hr
      cases h3
      obtain ⟨lv, hl, h2⟩ := hL
      obtain ⟨q, hq⟩ := xget_mem hg
      obtain ⟨t, ht, ht1, x, ht2, ht3⟩ := h2.get hq
      obtain ⟨tj, tw⟩ := t
      dsimp only at ht1 ht2
      subst ht1; subst ht2
      have hn : (Int32.ofInt n).toInt = n := x_of32 (by omega) (by omega)
      obtain ⟨ρ', hX, hS', hE⟩ := xadd_ok (w := (x + Int32.ofInt n).toInt) hr hS ht3 (show xe ρ (none, n) = some n from rfl) (x_b32 _) (fun e1 e2 => by
        rw [x_add32 (by rw [hn]; omega) (by rw [hn]; omega), hn])
      refine lv_iinc (k := q) hx hb hd hl ht rfl (x_blt g1) rfl (fun ls' h' => k ρ' ls' hX hS' ⟨_, h', ?_⟩)
      exact xLo_f1 (h2.mono (fun q r hq => ⟨hq.1, xv.mono hX (xX.rf ad) _ _ hq.2⟩)) ⟨_, rfl, hE⟩
    · cases h3
  · cases h3
/-- two ints -/
def xBinI (i : Instr) (σ : List xB) (a b : xI) : xR := match i with
  | .iadd => xadd (-2147483648) 2147483647 σ a b
  | .isub => xsub (-2147483648) 2147483647 σ a b
  | .imul => xop2 (xmulB (-2147483648) 2147483647) σ a b
  | .iand => xop2 (xandB (-2147483648) 2147483647) σ a b
  | .ior => xop2 (fun _ _ => (-2147483648, 2147483647)) σ a b
  | .ixor => xop2 (fun _ _ => (-2147483648, 2147483647)) σ a b
  | .ishl => xop2 (fun _ _ => (-2147483648, 2147483647)) σ a b
  | .ishr => xop2 (fun r _ => xnearB r) σ a b
  | .idiv => (match xrg σ b with
    | some rb => bif xle 1 rb.1 then xop2 (fun r _ => xnearB r) σ a b else none
    | none => none)
  | .irem => (match xrg σ b with
    | some rb => bif xle 1 rb.1 then xop2 xremB σ a b else none
    | none => none)
  | _ => none
theorem x_pos32 {rb : xB} {b : xI} {y : Int32} (hS : xSt ρ σ) (hy : xe ρ b = some y.toInt) (hr : xrg σ b = some rb) (h : xle 1 rb.1 = true) : 0 < y.toInt := by
  have := xrg_ok hS hy hr
  have := xle_iff.mp h
  omega
theorem x_pos64 {rb : xB} {b : xI} {y : Int64} (hS : xSt ρ σ) (hy : xe ρ b = some y.toInt) (hr : xrg σ b = some rb) (h : xle 1 rb.1 = true) : 0 < y.toInt := by
  have := xrg_ok hS hy hr
  have := xle_iff.mp h
  omega
theorem xBinI_ok {a b : xI} {r : xI × List xB} {x y : Int32} (hv : xBinI i σ a b = some r) (hlen : len = 1) (hx : p.tables.exec = Jvm.exec) (hb : c.code = cc) (hd : decode cc pc = .ok (i, len)) (hS : xSt ρ σ) (ha : xe ρ a = some x.toInt) (hb2 : xe ρ b = some y.toInt)
    (k : ∀ (z : Int32) ρ', xX ρ ρ' → xSt ρ' r.2 → xe ρ' r.1 = some z.toInt → W p l e R s m args below meth c H locs cells slots Q (F0 m (pc + len) ls (.int z :: rest))) : W p l e R s m args below meth c H locs cells slots Q (F0 m pc ls (.int y :: .int x :: rest)) := by
  subst hlen
  unfold xBinI at hv
  split at hv
  · obtain ⟨ρ', h1, h2, h3⟩ := xadd_ok (w := (x + y).toInt) hv hS ha hb2 (x_b32 _) (fun e1 e2 => x_add32 e1 e2)
    exact lv_iadd hx hb hd (k _ ρ' h1 h2 h3)
  · obtain ⟨ρ', h1, h2, h3⟩ := xsub_ok (w := (x - y).toInt) hv hS ha hb2 (x_b32 _) (fun e1 e2 => x_sub32 e1 e2)
    exact lv_isub hx hb hd (k _ ρ' h1 h2 h3)
  · obtain ⟨ρ', h1, h2, h3⟩ := xop2_ok (w := (x * y).toInt) hv hS ha hb2 (fun ra rb _ g1 g2 => xmulB_ok g1 g2 (x_b32 _) (fun e1 e2 => x_mul32 e1 e2))
    exact lv_imul hx hb hd (k _ ρ' h1 h2 h3)
  · obtain ⟨ρ', h1, h2, h3⟩ := xop2_ok (w := (x &&& y).toInt) hv hS ha hb2 (fun ra rb _ g1 g2 => xandB_ok g1 g2 (x_b32 _) (fun e1 => by rw [x_and32c]; exact x_and32 e1) (fun e1 => x_and32 e1))
    exact lv_iand hx hb hd (k _ ρ' h1 h2 h3)
  · obtain ⟨ρ', h1, h2, h3⟩ := xop2_ok (w := (x ||| y).toInt) hv hS ha hb2 (fun ra rb _ g1 g2 => x_b32 _)
    exact lv_ior hx hb hd (k _ ρ' h1 h2 h3)
  · obtain ⟨ρ', h1, h2, h3⟩ := xop2_ok (w := (x ^^^ y).toInt) hv hS ha hb2 (fun ra rb _ g1 g2 => x_b32 _)
    exact lv_ixor hx hb hd (k _ ρ' h1 h2 h3)
  · obtain ⟨ρ', h1, h2, h3⟩ := xop2_ok (w := (x <<< (y &&& 31)).toInt) hv hS ha hb2 (fun ra rb _ g1 g2 => x_b32 _)
    exact lv_ishl hx hb hd (k _ ρ' h1 h2 h3)
  · obtain ⟨ρ', h1, h2, h3⟩ := xop2_ok (w := (x >>> (y &&& 31)).toInt) hv hS ha hb2 (fun ra rb _ g1 g2 => xnearB_ok g1 (x_shr32 _ _).1 (x_shr32 _ _).2)
    exact lv_ishr hx hb hd (k _ ρ' h1 h2 h3)
  · split at hv
    · rename_i rb hrb
      obtain ⟨g, hv⟩ := x_bifO hv
      have hp := x_pos32 hS hb2 hrb g
      obtain ⟨ρ', h1, h2, h3⟩ := xop2_ok (w := (x / y).toInt) hv hS ha hb2 (fun ra rb _ g1 g2 => by
        rw [x_div32 hp]
        exact xnearB_ok g1 (x_tdiv hp).1 (x_tdiv hp).2)
      exact lv_idiv hx hb hd (fun q => by rw [q] at hp; exact absurd hp (by decide)) (k _ ρ' h1 h2 h3)
    · cases hv
  · split at hv
    · rename_i rb hrb
      obtain ⟨g, hv⟩ := x_bifO hv
      have hp := x_pos32 hS hb2 hrb g
      obtain ⟨ρ', h1, h2, h3⟩ := xop2_ok (w := (x - x / y * y).toInt) hv hS ha hb2 (fun ra rb _ g1 g2 => by
        rw [x_rem32 hp]
        exact xremB_ok g1 g2 hp)
      exact lv_irem hx hb hd (fun q => by rw [q] at hp; exact absurd hp (by decide)) (k _ ρ' h1 h2 h3)
    · cases hv
  · cases hv
/-- two longs -/
def xBinL (i : Instr) (σ : List xB) (a b : xI) : xR := match i with
  | .ladd => xadd (-9223372036854775808) 9223372036854775807 σ a b
  | .lsub => xsub (-9223372036854775808) 9223372036854775807 σ a b
  | .lmul => xop2 (xmulB (-9223372036854775808) 9223372036854775807) σ a b
  | .land => xop2 (xandB (-9223372036854775808) 9223372036854775807) σ a b
  | .lor => xop2 (fun _ _ => (-9223372036854775808, 9223372036854775807)) σ a b
  | .lxor => xop2 (fun _ _ => (-9223372036854775808, 9223372036854775807)) σ a b
  | .ldiv => (match xrg σ b with
    | some rb => bif xle 1 rb.1 then xop2 (fun r _ => xnearB r) σ a b else none
    | none => none)
  | .lrem => (match xrg σ b with
    | some rb => bif xle 1 rb.1 then xop2 xremB σ a b else none
    | none => none)
  | _ => none
theorem xBinL_ok {a b : xI} {r : xI × List xB} {x y : Int64} (hv : xBinL i σ a b = some r) (hlen : len = 1) (hx : p.tables.exec = Jvm.exec) (hb : c.code = cc) (hd : decode cc pc = .ok (i, len)) (hS : xSt ρ σ) (ha : xe ρ a = some x.toInt) (hb2 : xe ρ b = some y.toInt)
    (k : ∀ (z : Int64) ρ', xX ρ ρ' → xSt ρ' r.2 → xe ρ' r.1 = some z.toInt → W p l e R s m args below meth c H locs cells slots Q (F0 m (pc + len) ls (.long z :: rest))) : W p l e R s m args below meth c H locs cells slots Q (F0 m pc ls (.long y :: .long x :: rest)) := by
  subst hlen
  unfold xBinL at hv
  split at hv
  · obtain ⟨ρ', h1, h2, h3⟩ := xadd_ok (w := (x + y).toInt) hv hS ha hb2 (x_b64 _) (fun e1 e2 => x_add64 e1 e2)
    exact lv_ladd hx hb hd (k _ ρ' h1 h2 h3)
  · obtain ⟨ρ', h1, h2, h3⟩ := xsub_ok (w := (x - y).toInt) hv hS ha hb2 (x_b64 _) (fun e1 e2 => x_sub64 e1 e2)
    exact lv_lsub hx hb hd (k _ ρ' h1 h2 h3)
  · obtain ⟨ρ', h1, h2, h3⟩ := xop2_ok (w := (x * y).toInt) hv hS ha hb2 (fun ra rb _ g1 g2 => xmulB_ok g1 g2 (x_b64 _) (fun e1 e2 => x_mul64 e1 e2))
    exact lv_lmul hx hb hd (k _ ρ' h1 h2 h3)
  · obtain ⟨ρ', h1, h2, h3⟩ := xop2_ok (w := (x &&& y).toInt) hv hS ha hb2 (fun ra rb _ g1 g2 => xandB_ok g1 g2 (x_b64 _) (fun e1 => by rw [x_and64c]; exact x_and64 e1) (fun e1 => x_and64 e1))
    exact lv_land hx hb hd (k _ ρ' h1 h2 h3)
  · obtain ⟨ρ', h1, h2, h3⟩ := xop2_ok (w := (x ||| y).toInt) hv hS ha hb2 (fun ra rb _ g1 g2 => x_b64 _)
    exact lv_lor hx hb hd (k _ ρ' h1 h2 h3)
  · obtain ⟨ρ', h1, h2, h3⟩ := xop2_ok (w := (x ^^^ y).toInt) hv hS ha hb2 (fun ra rb _ g1 g2 => x_b64 _)
    exact lv_lxor hx hb hd (k _ ρ' h1 h2 h3)
  · split at hv
    · rename_i rb hrb
      obtain ⟨g, hv⟩ := x_bifO hv
      have hp := x_pos64 hS hb2 hrb g
      obtain ⟨ρ', h1, h2, h3⟩ := xop2_ok (w := (x / y).toInt) hv hS ha hb2 (fun ra rb _ g1 g2 => by
        rw [x_div64 hp]
        exact xnearB_ok g1 (x_tdiv hp).1 (x_tdiv hp).2)
      exact lv_ldiv hx hb hd (fun q => by rw [q] at hp; exact absurd hp (by decide)) (k _ ρ' h1 h2 h3)
    · cases hv
  · split at hv
    · rename_i rb hrb
      obtain ⟨g, hv⟩ := x_bifO hv
      have hp := x_pos64 hS hb2 hrb g
      obtain ⟨ρ', h1, h2, h3⟩ := xop2_ok (w := (x - x / y * y).toInt) hv hS ha hb2 (fun ra rb _ g1 g2 => by
        rw [x_rem64 hp]
        exact xremB_ok g1 g2 hp)
      exact lv_lrem hx hb hd (fun q => by rw [q] at hp; exact absurd hp (by decide)) (k _ ρ' h1 h2 h3)
    · cases hv
  · cases hv
/-- a long and an int -/
def xShL (i : Instr) (σ : List xB) (a b : xI) : xR := match i with
  | .lshl => xop2 (fun _ _ => (-9223372036854775808, 9223372036854775807)) σ a b
  | .lshr => xop2 (fun r _ => xnearB r) σ a b
  | _ => none
theorem xShL_ok {a b : xI} {r : xI × List xB} {x : Int64} {y : Int32} (hv : xShL i σ a b = some r) (hlen : len = 1) (hx : p.tables.exec = Jvm.exec) (hb : c.code = cc) (hd : decode cc pc = .ok (i, len)) (hS : xSt ρ σ) (ha : xe ρ a = some x.toInt) (hb2 : xe ρ b = some y.toInt)
    (k : ∀ (z : Int64) ρ', xX ρ ρ' → xSt ρ' r.2 → xe ρ' r.1 = some z.toInt → W p l e R s m args below meth c H locs cells slots Q (F0 m (pc + len) ls (.long z :: rest))) : W p l e R s m args below meth c H locs cells slots Q (F0 m pc ls (.int y :: .long x :: rest)) := by
  subst hlen
  unfold xShL at hv
  split at hv
  · obtain ⟨ρ', h1, h2, h3⟩ := xop2_ok (w := (x <<< (y.toInt64 &&& 63)).toInt) hv hS ha hb2 (fun ra rb _ g1 g2 => x_b64 _)
    exact lv_lshl hx hb hd rfl (k _ ρ' h1 h2 h3)
  · obtain ⟨ρ', h1, h2, h3⟩ := xop2_ok (w := (x >>> (y.toInt64 &&& 63)).toInt) hv hS ha hb2 (fun ra rb _ g1 g2 => xnearB_ok g1 (x_shr64 _ _).1 (x_shr64 _ _).2)
    exact lv_lshr hx hb hd rfl (k _ ρ' h1 h2 h3)
  · cases hv
/-- one int -/
def xUnI (i : Instr) (σ : List xB) (a : xI) : Option (xV × List xB) := match i with
  | .i2l => some (.inr (.inl a), σ)
  | .i2b => (match xcut (-128) 127 σ a with
    | some r => some (.inl r.1, r.2)
    | none => none)
  | .i2s => (match xcut (-32768) 32767 σ a with
    | some r => some (.inl r.1, r.2)
    | none => none)
  | _ => none
theorem xUnI_ok {a : xI} {r : xV × List xB} {x : Int32} (hv : xUnI i σ a = some r) (hlen : len = 1) (hx : p.tables.exec = Jvm.exec) (hb : c.code = cc) (hd : decode cc pc = .ok (i, len)) (hS : xSt ρ σ) (ha : xe ρ a = some x.toInt)
    (k : ∀ (w : Value) ρ', xX ρ ρ' → xSt ρ' r.2 → xv ρ' ad ex r.1 w → W p l e R s m args below meth c H locs cells slots Q (F0 m (pc + len) ls (w :: rest))) : W p l e R s m args below meth c H locs cells slots Q (F0 m pc ls (.int x :: rest)) := by
  subst hlen
  unfold xUnI at hv
  split at hv
  · cases hv
    exact lv_i2l hx hb hd rfl (k _ ρ (xX.rf ρ) hS ⟨_, rfl, by rw [Int32.toInt_toInt64]; exact ha⟩)
  · split at hv
    · rename_i q hq
      cases hv
      have hw : -128 ≤ x.toInt8.toInt32.toInt ∧ x.toInt8.toInt32.toInt ≤ 127 := by
        rw [Int8.toInt_toInt32]
        have h1 := x.toInt8.le_toInt
        have h2 := x.toInt8.toInt_lt
        constructor <;> omega
      obtain ⟨ρ', h1, h2, h3⟩ := xcut_ok (w := x.toInt8.toInt32.toInt) hq hS ha hw (fun e1 e2 => by
        rw [Int8.toInt_toInt32, Int32.toInt_toInt8]
        rw [Int.bmod_eq_of_le (by omega) (by omega)])
      exact lv_i2b hx hb hd rfl (k _ ρ' h1 h2 ⟨_, rfl, h3⟩)
    · cases hv
  · split at hv
    · rename_i q hq
      cases hv
      have hw : -32768 ≤ x.toInt16.toInt32.toInt ∧ x.toInt16.toInt32.toInt ≤ 32767 := by
        rw [Int16.toInt_toInt32]
        have h1 := x.toInt16.le_toInt
        have h2 := x.toInt16.toInt_lt
        constructor <;> omega
      obtain ⟨ρ', h1, h2, h3⟩ := xcut_ok (w := x.toInt16.toInt32.toInt) hq hS ha hw (fun e1 e2 => by
        rw [Int16.toInt_toInt32, Int32.toInt_toInt16]
        rw [Int.bmod_eq_of_le (by omega) (by omega)])
      exact lv_i2s hx hb hd rfl (k _ ρ' h1 h2 ⟨_, rfl, h3⟩)
    · cases hv
  · cases hv
theorem xL2i_ok {a : xI} {r : xI × List xB} {x : Int64} (hv : xcut (-2147483648) 2147483647 σ a = some r) (hx : p.tables.exec = Jvm.exec) (hb : c.code = cc) (hd : decode cc pc = .ok (.l2i, 1)) (hS : xSt ρ σ) (ha : xe ρ a = some x.toInt)
    (k : ∀ (z : Int32) ρ', xX ρ ρ' → xSt ρ' r.2 → xe ρ' r.1 = some z.toInt → W p l e R s m args below meth c H locs cells slots Q (F0 m (pc + 1) ls (.int z :: rest))) : W p l e R s m args below meth c H locs cells slots Q (F0 m pc ls (.long x :: rest)) := by
  obtain ⟨ρ', h1, h2, h3⟩ := xcut_ok (w := x.toInt32.toInt) hv hS ha (x_b32 _) (fun e1 e2 => by
    rw [Int64.toInt_toInt32]
    rw [Int.bmod_eq_of_le (by omega) (by omega)])
  exact lv_l2i hx hb hd rfl (k _ ρ' h1 h2 h3)
/-- the stack alone -/
def xStk (i : Instr) (stk : List xV) : Option (List xV) := match i with
  | .dup => (match stk with
    | v :: t => bif Nat.beq (xcat v) 1 then some (v :: v :: t) else none
    | _ => none)
  | .pop => (match stk with
    | v :: t => bif Nat.beq (xcat v) 1 then some t else none
    | _ => none)
  | .pop2 => (match stk with
    | v :: t => bif Nat.beq (xcat v) 2 then some t else none
    | _ => none)
  | .dup2 => (match stk with
    | v :: u :: t => bif Nat.beq (xcat v) 1 && Nat.beq (xcat u) 1 then some (v :: u :: v :: u :: t) else none
    | _ => none)
  | .dup_x1 => (match stk with
    | v :: u :: t => bif Nat.beq (xcat v) 1 && Nat.beq (xcat u) 1 then some (v :: u :: v :: t) else none
    | _ => none)
  | _ => none
theorem xStk_ok {stk stk' : List xV} (hv : xStk i stk = some stk') (hlen : len = 1) (hx : p.tables.exec = Jvm.exec) (hb : c.code = cc) (hd : decode cc pc = .ok (i, len)) (hst : xAll2 (xv ρ ad ex) stk st)
    (k : ∀ st', xAll2 (xv ρ ad ex) stk' st' → W p l e R s m args below meth c H locs cells slots Q (F0 m (pc + len) ls st')) : W p l e R s m args below meth c H locs cells slots Q (F0 m pc ls st) := by
  subst hlen
  unfold xStk at hv
  split at hv
  · split at hv
    · obtain ⟨h1, h2⟩ := x_bif hv
      subst h2
      obtain ⟨w, t, rfl, q1, q2⟩ := hst.cons
      exact lv_dup hx hb hd (by rw [q1.cat]; exact Nat.eq_of_beq_eq_true h1) (k _ ⟨q1, q1, q2⟩)
    · cases hv
  · split at hv
    · obtain ⟨h1, h2⟩ := x_bif hv
      subst h2
      obtain ⟨w, t, rfl, q1, q2⟩ := hst.cons
      exact lv_pop hx hb hd (by rw [q1.cat]; exact Nat.eq_of_beq_eq_true h1) (k _ q2)
    · cases hv
  · split at hv
    · obtain ⟨h1, h2⟩ := x_bif hv
      subst h2
      obtain ⟨w, t, rfl, q1, q2⟩ := hst.cons
      exact lv_pop2_2 hx hb hd (by rw [q1.cat]; exact Nat.eq_of_beq_eq_true h1) (k _ q2)
    · cases hv
  · split at hv
    · obtain ⟨h1, h2⟩ := x_bif hv
      subst h2
      rw [Bool.and_eq_true] at h1
      obtain ⟨w, t, rfl, q1, q2⟩ := hst.cons
      obtain ⟨w2, t2, rfl, q3, q4⟩ := q2.cons
      exact lv_dup2_11 hx hb hd (by rw [q1.cat]; exact Nat.eq_of_beq_eq_true h1.1) (by rw [q3.cat]; exact Nat.eq_of_beq_eq_true h1.2) (k _ ⟨q1, q3, q1, q3, q4⟩)
    · cases hv
  · split at hv
    · obtain ⟨h1, h2⟩ := x_bif hv
      subst h2
      rw [Bool.and_eq_true] at h1
      obtain ⟨w, t, rfl, q1, q2⟩ := hst.cons
      obtain ⟨w2, t2, rfl, q3, q4⟩ := q2.cons
      exact lv_dup_x1 hx hb hd (by rw [q1.cat]; exact Nat.eq_of_beq_eq_true h1.1) (by rw [q3.cat]; exact Nat.eq_of_beq_eq_true h1.2) (k _ ⟨q1, q3, q1, q4⟩)
    · cases hv
  · cases hv
end XO
