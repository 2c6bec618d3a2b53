/-! The symbolic executor: what it speaks of. Numbers are a symbol and an offset, symbols have bounds; a world is a list of cells. -/
/-- a number: a constant (none, c), or a symbol's value and c -/
abbrev xI : Type := Option Nat × Int
/-- bounds -/
abbrev xB : Type := Int × Int
/-- a value: an int, a long, a cell of the world (none: null), a cell outside it -/
abbrev xV : Type := xI ⊕ (xI ⊕ (Option Nat ⊕ Nat))
/-- a stretch of an array: how many elements, and what each is -/
abbrev xG : Type := Nat × (xI ⊕ xB)
/-- a cell: an object (class, fields), an array of ints (type, length, stretches), of longs (length, stretches), of cells (class, cells) -/
abbrev xC : Type := (Nat × List xV) ⊕ ((Nat × (Nat × List xG)) ⊕ ((Nat × List xG) ⊕ (Nat × List (Option Nat))))
def xle (a b : Int) : Bool := match b - a with
  | .ofNat _ => true
  | .negSucc _ => false
theorem xle_iff {a b : Int} : xle a b = true ↔ a ≤ b := by
  unfold xle
  cases h : b - a with
  | ofNat n =>
    have : (Int.ofNat n : Int) = (n : Int) := rfl
    simp
    omega
  | negSucc n =>
    have : Int.negSucc n = -((n : Int) + 1) := Int.negSucc_eq n
    simp
    omega
theorem xle_not {a b : Int} (h : xle a b = false) : b < a := by
  rcases Int.lt_or_le b a with q | q
  · exact q
  · rw [xle_iff.mpr q] at h
    cases h
def xeq (a b : Int) : Bool := xle a b && xle b a
theorem xeq_iff {a b : Int} : xeq a b = true ↔ a = b := by
  unfold xeq
  rw [Bool.and_eq_true, xle_iff, xle_iff]
  omega
def xmin (a b : Int) : Int := bif xle a b then a else b
def xmax (a b : Int) : Int := bif xle a b then b else a
theorem xmin_le1 {z a b : Int} (h1 : z ≤ a) (h2 : z ≤ b) : z ≤ xmin a b := by
  unfold xmin; cases xle a b <;> simp <;> omega
theorem xmax_le1 {z a b : Int} (h1 : a ≤ z) (h2 : b ≤ z) : xmax a b ≤ z := by
  unfold xmax; cases xle a b <;> simp <;> omega
theorem xmin_l (a b : Int) : xmin a b ≤ a := by
  unfold xmin
  cases h : xle a b
  · have := xle_not h
    simp; omega
  · simp
theorem xmin_r (a b : Int) : xmin a b ≤ b := by
  unfold xmin
  cases h : xle a b
  · simp
  · have := xle_iff.mp h
    simp; omega
theorem xmax_l (a b : Int) : a ≤ xmax a b := by
  unfold xmax
  cases h : xle a b
  · simp
  · have := xle_iff.mp h
    simp; omega
theorem xmax_r (a b : Int) : b ≤ xmax a b := by
  unfold xmax
  cases h : xle a b
  · have := xle_not h
    simp; omega
  · simp
/-- what a number is, when the symbols are ρ -/
def xe (ρ : List Int) (a : xI) : Option Int := match a.1 with
  | none => some a.2
  | some k => match ρ[k]? with
    | some z => some (z + a.2)
    | none => none
/-- its bounds, when the symbols' are σ -/
def xrg (σ : List xB) (a : xI) : Option xB := match a.1 with
  | none => some (a.2, a.2)
  | some k => match σ[k]? with
    | some r => some (r.1 + a.2, r.2 + a.2)
    | none => none
def xSt (ρ : List Int) (σ : List xB) : Prop := σ.length = ρ.length ∧ ∀ (k : Nat) (r : xB) (z : Int), σ[k]? = some r → ρ[k]? = some z → r.1 ≤ z ∧ z ≤ r.2
def xX {α : Type} (a b : List α) : Prop := ∃ t, b = a ++ t
theorem xX.rf {α : Type} (a : List α) : xX a a := ⟨[], by simp⟩
theorem xX.tr {α : Type} {a b c : List α} (h1 : xX a b) (h2 : xX b c) : xX a c := by
  obtain ⟨t, rfl⟩ := h1
  obtain ⟨u, rfl⟩ := h2
  exact ⟨t ++ u, by simp⟩
theorem xX.at {α : Type} {a b : List α} (h : xX a b) {k : Nat} {z : α} (hk : a[k]? = some z) : b[k]? = some z := by
  obtain ⟨t, rfl⟩ := h
  have hlt : k < a.length := (List.getElem?_eq_some_iff.mp hk).1
  rw [List.getElem?_append_left hlt, hk]
theorem xe.mono {ρ ρ' : List Int} (h : xX ρ ρ') {a : xI} {z : Int} (hz : xe ρ a = some z) : xe ρ' a = some z := by
  obtain ⟨o, c⟩ := a
  cases o with
  | none => exact hz
  | some k =>
    simp only [xe] at hz ⊢
    cases hk : ρ[k]? with
    | none => rw [hk] at hz; cases hz
    | some w => rw [hk] at hz; rw [h.at hk]; exact hz
theorem xrg_ok {ρ : List Int} {σ : List xB} (h : xSt ρ σ) {a : xI} {z : Int} {r : xB} (hz : xe ρ a = some z) (hr : xrg σ a = some r) : r.1 ≤ z ∧ z ≤ r.2 := by
  obtain ⟨o, c⟩ := a
  cases o with
  | none =>
    simp only [xe, xrg, Option.some.injEq] at hz hr
    subst hz; subst hr
    exact ⟨Int.le_refl _, Int.le_refl _⟩
  | some k =>
    simp only [xe, xrg] at hz hr
    cases hk : ρ[k]? with
    | none => rw [hk] at hz; cases hz
    | some w =>
      cases hs : σ[k]? with
      | none => rw [hs] at hr; cases hr
      | some q =>
        rw [hk] at hz; rw [hs] at hr
        have := h.2 k q w hs hk
        simp only [Option.some.injEq] at hz hr
        subst hz; subst hr
        dsimp only
        omega
/-- a number between bounds: a constant, or a fresh symbol -/
def xmk (σ : List xB) (lo hi : Int) : xI × List xB := bif xeq lo hi then ((none, lo), σ) else ((some σ.length, 0), σ ++ [(lo, hi)])
theorem xSt.push {ρ : List Int} {σ : List xB} (h : xSt ρ σ) {lo hi z : Int} (h1 : lo ≤ z) (h2 : z ≤ hi) : xSt (ρ ++ [z]) (σ ++ [(lo, hi)]) := by
  refine ⟨by simp [h.1], fun k r w hr hw => ?_⟩
  rcases Nat.lt_trichotomy k σ.length with q | q | q
  · rw [List.getElem?_append_left q] at hr
    rw [List.getElem?_append_left (by rw [← h.1]; exact q)] at hw
    exact h.2 k r w hr hw
  · subst q
    rw [List.getElem?_concat_length] at hr
    rw [h.1, List.getElem?_concat_length] at hw
    cases hr; cases hw
    exact ⟨h1, h2⟩
  · rw [List.getElem?_eq_none (by simp; omega)] at hr
    cases hr
theorem xmk_ok {ρ : List Int} {σ : List xB} (h : xSt ρ σ) {lo hi z : Int} (h1 : lo ≤ z) (h2 : z ≤ hi) : ∃ ρ', xX ρ ρ' ∧ xSt ρ' (xmk σ lo hi).2 ∧ xe ρ' (xmk σ lo hi).1 = some z := by
  unfold xmk
  cases hq : xeq lo hi
  · refine ⟨ρ ++ [z], ⟨[z], rfl⟩, h.push h1 h2, ?_⟩
    simp only [cond_false, xe]
    rw [h.1, List.getElem?_concat_length]
    simp
  · have he := xeq_iff.mp hq
    refine ⟨ρ, xX.rf ρ, h, ?_⟩
    simp only [cond_true, xe]
    congr 1
    omega
/-- a number's symbol gets bounds -/
def xput (σ : List xB) (a : xI) (lo hi : Int) : List xB := match a.1 with
  | none => σ
  | some k => σ.set k (lo - a.2, hi - a.2)
theorem xput_ok {ρ : List Int} {σ : List xB} (h : xSt ρ σ) {a : xI} {z lo hi : Int} (hz : xe ρ a = some z) (h1 : lo ≤ z) (h2 : z ≤ hi) : xSt ρ (xput σ a lo hi) := by
  obtain ⟨o, c⟩ := a
  cases o with
  | none => exact h
  | some k =>
    refine ⟨by simp [xput, h.1], fun j r w hr hw => ?_⟩
    simp only [xput] at hr
    by_cases hj : k = j
    · subst hj
      rw [List.getElem?_set_self' ] at hr
      simp only [xe] at hz
      rw [hw] at hz
      cases hs : σ[k]? with
      | none => rw [hs] at hr; cases hr
      | some q =>
        rw [hs] at hr
        have hr : (lo - c, hi - c) = r := Option.some.inj hr
        simp only [Option.some.injEq] at hz
        subst hr
        dsimp only at hz ⊢
        omega
    · rw [List.getElem?_set_ne hj] at hr
      exact h.2 j r w hr hw
theorem xput_len (σ : List xB) (a : xI) (lo hi : Int) : (xput σ a lo hi).length = σ.length := by
  obtain ⟨o, c⟩ := a
  cases o <;> simp [xput]
/-- two lists, one by one -/
def xAll2 {α β : Type} (R : α → β → Prop) : List α → List β → Prop
  | [], [] => True
  | a :: as, b :: bs => R a b ∧ xAll2 R as bs
  | _, _ => False
theorem xAll2.nil {α β : Type} {R : α → β → Prop} {l : List β} (h : xAll2 R [] l) : l = [] := by
  cases l with
  | nil => rfl
  | cons a t => exact h.elim
theorem xAll2.cons {α β : Type} {R : α → β → Prop} {a : α} {as : List α} {l : List β} (h : xAll2 R (a :: as) l) : ∃ b bs, l = b :: bs ∧ R a b ∧ xAll2 R as bs := by
  cases l with
  | nil => exact h.elim
  | cons b t => exact ⟨b, t, rfl, h.1, h.2⟩
theorem xAll2.mono {α β : Type} {R R' : α → β → Prop} (hR : ∀ a b, R a b → R' a b) : ∀ {l : List α} {r : List β}, xAll2 R l r → xAll2 R' l r
  | [], [], _ => trivial
  | _ :: _, _ :: _, h => ⟨hR _ _ h.1, xAll2.mono hR h.2⟩
  | [], _ :: _, h => h.elim
  | _ :: _, [], h => h.elim
theorem xAll2.len {α β : Type} {R : α → β → Prop} : ∀ {l : List α} {r : List β}, xAll2 R l r → l.length = r.length
  | [], [], _ => rfl
  | _ :: _, _ :: _, h => by simp [xAll2.len h.2]
  | [], _ :: _, h => h.elim
  | _ :: _, [], h => h.elim
theorem xAll2.get {α β : Type} {R : α → β → Prop} : ∀ {l : List α} {r : List β}, xAll2 R l r → ∀ {k : Nat} {a : α}, l[k]? = some a → ∃ b, r[k]? = some b ∧ R a b
  | [], [], _, k, a, hk => by simp at hk
  | x :: xs, y :: ys, h, 0, a, hk => by
    simp at hk
    subst hk
    exact ⟨y, by simp, h.1⟩
  | x :: xs, y :: ys, h, k + 1, a, hk => by
    simp at hk
    obtain ⟨b, h1, h2⟩ := xAll2.get h.2 hk
    exact ⟨b, by simpa using h1, h2⟩
  | [], _ :: _, h, _, _, _ => h.elim
  | _ :: _, [], h, _, _, _ => h.elim
theorem xAll2.set {α β : Type} {R : α → β → Prop} : ∀ {l : List α} {r : List β}, xAll2 R l r → ∀ (k : Nat) {a : α} {b : β}, R a b → xAll2 R (l.set k a) (r.set k b)
  | [], [], _, _, _, _, _ => trivial
  | _ :: _, _ :: _, h, 0, _, _, hab => ⟨hab, h.2⟩
  | _ :: _, _ :: _, h, k + 1, _, _, hab => ⟨h.1, xAll2.set h.2 k hab⟩
  | [], _ :: _, h, _, _, _, _ => h.elim
  | _ :: _, [], h, _, _, _, _ => h.elim
theorem xAll2.app {α β : Type} {R : α → β → Prop} : ∀ {l : List α} {r : List β}, xAll2 R l r → ∀ {l' : List α} {r' : List β}, xAll2 R l' r' → xAll2 R (l ++ l') (r ++ r')
  | [], [], _, _, _, h => h
  | _ :: _, _ :: _, h, _, _, h' => ⟨h.1, xAll2.app h.2 h'⟩
  | [], _ :: _, h, _, _, _ => h.elim
  | _ :: _, [], h, _, _, _ => h.elim
/-- a value of the executor and the machine's -/
def xv (ρ : List Int) (ad : List Nat) (ex : List Nat) : xV → Value → Prop
  | .inl a, w => ∃ x : Int32, w = .int x ∧ xe ρ a = some x.toInt
  | .inr (.inl a), w => ∃ x : Int64, w = .long x ∧ xe ρ a = some x.toInt
  | .inr (.inr (.inl none)), w => w = .null
  | .inr (.inr (.inl (some i))), w => ∃ q : Nat, ad[i]? = some q ∧ w = .ref q
  | .inr (.inr (.inr k)), w => ∃ q : Nat, ex[k]? = some q ∧ w = .ref q
theorem xv.mono {ρ ρ' : List Int} {ad ad' ex : List Nat} (h1 : xX ρ ρ') (h2 : xX ad ad') : ∀ (v : xV) (w : Value), xv ρ ad ex v w → xv ρ' ad' ex v w
  | .inl _, _, ⟨x, e, h⟩ => ⟨x, e, xe.mono h1 h⟩
  | .inr (.inl _), _, ⟨x, e, h⟩ => ⟨x, e, xe.mono h1 h⟩
  | .inr (.inr (.inl none)), _, h => h
  | .inr (.inr (.inl (some _))), _, ⟨q, h, e⟩ => ⟨q, h2.at h, e⟩
  | .inr (.inr (.inr _)), _, h => h
/-- how many words a value takes -/
def xcat : xV → Nat
  | .inr (.inl _) => 2
  | _ => 1
theorem xv.cat {ρ : List Int} {ad ex : List Nat} : ∀ {v : xV} {w : Value}, xv ρ ad ex v w → w.category = xcat v
  | .inl _, _, ⟨x, e, _⟩ => by subst e; rfl
  | .inr (.inl _), _, ⟨x, e, _⟩ => by subst e; rfl
  | .inr (.inr (.inl none)), _, h => by have h : _ = Value.null := h; subst h; rfl
  | .inr (.inr (.inl (some _))), _, ⟨q, h, e⟩ => by subst e; rfl
  | .inr (.inr (.inr _)), _, ⟨q, h, e⟩ => by subst e; rfl
/-- what stands at a place of an array -/
def xseg : List xG → Nat → Option (xI ⊕ xB)
  | [], _ => none
  | g :: t, j => bif Nat.blt j g.1 then some g.2 else xseg t (j - g.1)
/-- an element and what is said of it -/
def xel (ρ : List Int) (u : xI ⊕ xB) (z : Int) : Prop := match u with
  | .inl a => xe ρ a = some z
  | .inr r => r.1 ≤ z ∧ z ≤ r.2
theorem xel.mono {ρ ρ' : List Int} (h : xX ρ ρ') {u : xI ⊕ xB} {z : Int} (hz : xel ρ u z) : xel ρ' u z := by
  cases u with
  | inl a => exact xe.mono h hz
  | inr r => exact hz
def xarr (ρ : List Int) (gs : List xG) (n : Nat) (f : Nat → Int) : Prop := ∀ j, j < n → ∃ u, xseg gs j = some u ∧ xel ρ u (f j)
theorem xarr.mono {ρ ρ' : List Int} (h : xX ρ ρ') {gs : List xG} {n : Nat} {f : Nat → Int} (hz : xarr ρ gs n f) : xarr ρ' gs n f := fun j hj => by
  obtain ⟨u, h1, h2⟩ := hz j hj
  exact ⟨u, h1, h2.mono h⟩
/-- the types of arrays by their numbers -/
def xty : Nat → FieldType
  | 0 => .int
  | 1 => .byte
  | _ => .boolean
/-- a cell of the executor and the machine's; tys: the array classes that are known; cn: the classes' names -/
def xcell (cn : Nat → String) (ρ : List Int) (ad ex : List Nat) (tys : List (ClassId × FieldType)) : xC → va_E → Prop
  | .inl o, e => ∃ vs : List Value, e = .inr (o.1, vs) ∧ xAll2 (xv ρ ad ex) o.2 vs
  | .inr (.inl a), e => ∃ (cA : ClassId) (f : Nat → Int32), e = .inl (cA, a.2.1, .inl f) ∧ (cA, xty a.1) ∈ tys ∧ xarr ρ a.2.2 a.2.1 (fun j => (f j).toInt)
  | .inr (.inr (.inl a)), e => ∃ (cA : ClassId) (f : Nat → Int64), e = .inl (cA, a.1, .inr (.inl f)) ∧ (cA, FieldType.long) ∈ tys ∧ xarr ρ a.2 a.1 (fun j => (f j).toInt)
  | .inr (.inr (.inr a)), e => ∃ (cA : ClassId) (f : Nat → Option Nat), e = .inl (cA, a.2.length, .inr (.inr (.inr (.inr f)))) ∧ (cA, FieldType.object (cn a.1)) ∈ tys ∧ ∀ (j : Nat) (o : Option Nat), a.2[j]? = some o → match o with
    | none => f j = none
    | some i => ∃ q, ad[i]? = some q ∧ f j = some q
theorem xcell.mono {cn : Nat → String} {ρ ρ' : List Int} {ad ad' ex : List Nat} {tys tys' : List (ClassId × FieldType)} (h1 : xX ρ ρ') (h2 : xX ad ad') (h3 : ∀ q ∈ tys, q ∈ tys') : ∀ (x : xC) (e : va_E), xcell cn ρ ad ex tys x e → xcell cn ρ' ad' ex tys' x e
  | .inl _, _, ⟨vs, e, h⟩ => ⟨vs, e, h.mono (xv.mono h1 h2)⟩
  | .inr (.inl _), _, ⟨cA, f, e, h, g⟩ => ⟨cA, f, e, h3 _ h, g.mono h1⟩
  | .inr (.inr (.inl _)), _, ⟨cA, f, e, h, g⟩ => ⟨cA, f, e, h3 _ h, g.mono h1⟩
  | .inr (.inr (.inr _)), _, ⟨cA, f, e, h, g⟩ => ⟨cA, f, e, h3 _ h, fun j o ho => by
      have := g j o ho
      cases o with
      | none => exact this
      | some i => exact let ⟨q, a, b⟩ := this; ⟨q, h2.at a, b⟩⟩
