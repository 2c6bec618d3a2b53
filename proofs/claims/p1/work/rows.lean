section
/-! The symbolic executor: what it speaks of. Numbers are a symbol and an offset, symbols have bounds; a world is a list of cells. -/
/-- a number: a constant (none, c), or a symbol's value and c -/
abbrev xI : Type := Option Nat × Int
/-- bounds -/
abbrev xB : Type := Int × Int
/-- a value: an int, a long, a cell of the world (none: null), a cell outside it -/
abbrev xV : Type := xI ⊕ (xI ⊕ (Option Nat ⊕ Nat))
/-- a stretch of an array: how many elements, and what each is -/
abbrev xG : Type := Nat × (xI ⊕ xB)
/-- a cell: an object (class, fields), an array of ints (type, length, stretches), of longs (length, stretches), of cells (class, cells) -/
abbrev xC : Type := (Nat × List xV) ⊕ ((Nat × (Nat × List xG)) ⊕ ((Nat × List xG) ⊕ (Nat × List (Option Nat))))
def xle (a b : Int) : Bool := match b - a with
  | .ofNat _ => true
  | .negSucc _ => false
theorem xle_iff {a b : Int} : xle a b = true ↔ a ≤ b := by
  unfold xle
  cases h : b - a with
  | ofNat n =>
    have : (Int.ofNat n : Int) = (n : Int) := rfl
    simp
    omega
  | negSucc n =>
    have : Int.negSucc n = -((n : Int) + 1) := Int.negSucc_eq n
    simp
    omega
theorem xle_not {a b : Int} (h : xle a b = false) : b < a := by
  rcases Int.lt_or_le b a with q | q
  · exact q
  · rw [xle_iff.mpr q] at h
    cases h
def xeq (a b : Int) : Bool := xle a b && xle b a
theorem xeq_iff {a b : Int} : xeq a b = true ↔ a = b := by
  unfold xeq
  rw [Bool.and_eq_true, xle_iff, xle_iff]
  omega
def xmin (a b : Int) : Int := bif xle a b then a else b
def xmax (a b : Int) : Int := bif xle a b then b else a
theorem xmin_le1 {z a b : Int} (h1 : z ≤ a) (h2 : z ≤ b) : z ≤ xmin a b := by
  unfold xmin; cases xle a b <;> simp <;> omega
theorem xmax_le1 {z a b : Int} (h1 : a ≤ z) (h2 : b ≤ z) : xmax a b ≤ z := by
  unfold xmax; cases xle a b <;> simp <;> omega
theorem xmin_l (a b : Int) : xmin a b ≤ a := by
  unfold xmin
  cases h : xle a b
  · have := xle_not h
    simp; omega
  · simp
theorem xmin_r (a b : Int) : xmin a b ≤ b := by
  unfold xmin
  cases h : xle a b
  · simp
  · have := xle_iff.mp h
    simp; omega
theorem xmax_l (a b : Int) : a ≤ xmax a b := by
  unfold xmax
  cases h : xle a b
  · simp
  · have := xle_iff.mp h
    simp; omega
theorem xmax_r (a b : Int) : b ≤ xmax a b := by
  unfold xmax
  cases h : xle a b
  · have := xle_not h
    simp; omega
  · simp
/-- what a number is, when the symbols are ρ -/
def xe (ρ : List Int) (a : xI) : Option Int := match a.1 with
  | none => some a.2
  | some k => match ρ[k]? with
    | some z => some (z + a.2)
    | none => none
/-- its bounds, when the symbols' are σ -/
def xrg (σ : List xB) (a : xI) : Option xB := match a.1 with
  | none => some (a.2, a.2)
  | some k => match σ[k]? with
    | some r => some (r.1 + a.2, r.2 + a.2)
    | none => none
def xSt (ρ : List Int) (σ : List xB) : Prop := σ.length = ρ.length ∧ ∀ (k : Nat) (r : xB) (z : Int), σ[k]? = some r → ρ[k]? = some z → r.1 ≤ z ∧ z ≤ r.2
def xX {α : Type} (a b : List α) : Prop := ∃ t, b = a ++ t
theorem xX.rf {α : Type} (a : List α) : xX a a := ⟨[], by simp⟩
theorem xX.tr {α : Type} {a b c : List α} (h1 : xX a b) (h2 : xX b c) : xX a c := by
  obtain ⟨t, rfl⟩ := h1
  obtain ⟨u, rfl⟩ := h2
  exact ⟨t ++ u, by simp⟩
theorem xX.at {α : Type} {a b : List α} (h : xX a b) {k : Nat} {z : α} (hk : a[k]? = some z) : b[k]? = some z := by
  obtain ⟨t, rfl⟩ := h
  have hlt : k < a.length := (List.getElem?_eq_some_iff.mp hk).1
  rw [List.getElem?_append_left hlt, hk]
theorem xe.mono {ρ ρ' : List Int} (h : xX ρ ρ') {a : xI} {z : Int} (hz : xe ρ a = some z) : xe ρ' a = some z := by
  obtain ⟨o, c⟩ := a
  cases o with
  | none => exact hz
  | some k =>
    simp only [xe] at hz ⊢
    cases hk : ρ[k]? with
    | none => rw [hk] at hz; cases hz
    | some w => rw [hk] at hz; rw [h.at hk]; exact hz
theorem xrg_ok {ρ : List Int} {σ : List xB} (h : xSt ρ σ) {a : xI} {z : Int} {r : xB} (hz : xe ρ a = some z) (hr : xrg σ a = some r) : r.1 ≤ z ∧ z ≤ r.2 := by
  obtain ⟨o, c⟩ := a
  cases o with
  | none =>
    simp only [xe, xrg, Option.some.injEq] at hz hr
    subst hz; subst hr
    exact ⟨Int.le_refl _, Int.le_refl _⟩
  | some k =>
    simp only [xe, xrg] at hz hr
    cases hk : ρ[k]? with
    | none => rw [hk] at hz; cases hz
    | some w =>
      cases hs : σ[k]? with
      | none => rw [hs] at hr; cases hr
      | some q =>
        rw [hk] at hz; rw [hs] at hr
        have := h.2 k q w hs hk
        simp only [Option.some.injEq] at hz hr
        subst hz; subst hr
        dsimp only
        omega
/-- a number between bounds: a constant, or a fresh symbol -/
def xmk (σ : List xB) (lo hi : Int) : xI × List xB := bif xeq lo hi then ((none, lo), σ) else ((some σ.length, 0), σ ++ [(lo, hi)])
theorem xSt.push {ρ : List Int} {σ : List xB} (h : xSt ρ σ) {lo hi z : Int} (h1 : lo ≤ z) (h2 : z ≤ hi) : xSt (ρ ++ [z]) (σ ++ [(lo, hi)]) := by
  refine ⟨by simp [h.1], fun k r w hr hw => ?_⟩
  rcases Nat.lt_trichotomy k σ.length with q | q | q
  · rw [List.getElem?_append_left q] at hr
    rw [List.getElem?_append_left (by rw [← h.1]; exact q)] at hw
    exact h.2 k r w hr hw
  · subst q
    rw [List.getElem?_concat_length] at hr
    rw [h.1, List.getElem?_concat_length] at hw
    cases hr; cases hw
    exact ⟨h1, h2⟩
  · rw [List.getElem?_eq_none (by simp; omega)] at hr
    cases hr
theorem xmk_ok {ρ : List Int} {σ : List xB} (h : xSt ρ σ) {lo hi z : Int} (h1 : lo ≤ z) (h2 : z ≤ hi) : ∃ ρ', xX ρ ρ' ∧ xSt ρ' (xmk σ lo hi).2 ∧ xe ρ' (xmk σ lo hi).1 = some z := by
  unfold xmk
  cases hq : xeq lo hi
  · refine ⟨ρ ++ [z], ⟨[z], rfl⟩, h.push h1 h2, ?_⟩
    simp only [cond_false, xe]
    rw [h.1, List.getElem?_concat_length]
    simp
  · have he := xeq_iff.mp hq
    refine ⟨ρ, xX.rf ρ, h, ?_⟩
    simp only [cond_true, xe]
    congr 1
    omega
/-- a number's symbol gets bounds -/
def xput (σ : List xB) (a : xI) (lo hi : Int) : List xB := match a.1 with
  | none => σ
  | some k => σ.set k (lo - a.2, hi - a.2)
theorem xput_ok {ρ : List Int} {σ : List xB} (h : xSt ρ σ) {a : xI} {z lo hi : Int} (hz : xe ρ a = some z) (h1 : lo ≤ z) (h2 : z ≤ hi) : xSt ρ (xput σ a lo hi) := by
  obtain ⟨o, c⟩ := a
  cases o with
  | none => exact h
  | some k =>
    refine ⟨by simp [xput, h.1], fun j r w hr hw => ?_⟩
    simp only [xput] at hr
    by_cases hj : k = j
    · subst hj
      rw [List.getElem?_set_self' ] at hr
      simp only [xe] at hz
      rw [hw] at hz
      cases hs : σ[k]? with
      | none => rw [hs] at hr; cases hr
      | some q =>
        rw [hs] at hr
        have hr : (lo - c, hi - c) = r := Option.some.inj hr
        simp only [Option.some.injEq] at hz
        subst hr
        dsimp only at hz ⊢
        omega
    · rw [List.getElem?_set_ne hj] at hr
      exact h.2 j r w hr hw
theorem xput_len (σ : List xB) (a : xI) (lo hi : Int) : (xput σ a lo hi).length = σ.length := by
  obtain ⟨o, c⟩ := a
  cases o <;> simp [xput]
/-- two lists, one by one -/
def xAll2 {α β : Type} (R : α → β → Prop) : List α → List β → Prop
  | [], [] => True
  | a :: as, b :: bs => R a b ∧ xAll2 R as bs
  | _, _ => False
theorem xAll2.nil {α β : Type} {R : α → β → Prop} {l : List β} (h : xAll2 R [] l) : l = [] := by
  cases l with
  | nil => rfl
  | cons a t => exact h.elim
theorem xAll2.cons {α β : Type} {R : α → β → Prop} {a : α} {as : List α} {l : List β} (h : xAll2 R (a :: as) l) : ∃ b bs, l = b :: bs ∧ R a b ∧ xAll2 R as bs := by
  cases l with
  | nil => exact h.elim
  | cons b t => exact ⟨b, t, rfl, h.1, h.2⟩
theorem xAll2.mono {α β : Type} {R R' : α → β → Prop} (hR : ∀ a b, R a b → R' a b) : ∀ {l : List α} {r : List β}, xAll2 R l r → xAll2 R' l r
  | [], [], _ => trivial
  | _ :: _, _ :: _, h => ⟨hR _ _ h.1, xAll2.mono hR h.2⟩
  | [], _ :: _, h => h.elim
  | _ :: _, [], h => h.elim
theorem xAll2.len {α β : Type} {R : α → β → Prop} : ∀ {l : List α} {r : List β}, xAll2 R l r → l.length = r.length
  | [], [], _ => rfl
  | _ :: _, _ :: _, h => by simp [xAll2.len h.2]
  | [], _ :: _, h => h.elim
  | _ :: _, [], h => h.elim
theorem xAll2.get {α β : Type} {R : α → β → Prop} : ∀ {l : List α} {r : List β}, xAll2 R l r → ∀ {k : Nat} {a : α}, l[k]? = some a → ∃ b, r[k]? = some b ∧ R a b
  | [], [], _, k, a, hk => by simp at hk
  | x :: xs, y :: ys, h, 0, a, hk => by
    simp at hk
    subst hk
    exact ⟨y, by simp, h.1⟩
  | x :: xs, y :: ys, h, k + 1, a, hk => by
    simp at hk
    obtain ⟨b, h1, h2⟩ := xAll2.get h.2 hk
    exact ⟨b, by simpa using h1, h2⟩
  | [], _ :: _, h, _, _, _ => h.elim
  | _ :: _, [], h, _, _, _ => h.elim
theorem xAll2.set {α β : Type} {R : α → β → Prop} : ∀ {l : List α} {r : List β}, xAll2 R l r → ∀ (k : Nat) {a : α} {b : β}, R a b → xAll2 R (l.set k a) (r.set k b)
  | [], [], _, _, _, _, _ => trivial
  | _ :: _, _ :: _, h, 0, _, _, hab => ⟨hab, h.2⟩
  | _ :: _, _ :: _, h, k + 1, _, _, hab => ⟨h.1, xAll2.set h.2 k hab⟩
  | [], _ :: _, h, _, _, _, _ => h.elim
  | _ :: _, [], h, _, _, _, _ => h.elim
theorem xAll2.app {α β : Type} {R : α → β → Prop} : ∀ {l : List α} {r : List β}, xAll2 R l r → ∀ {l' : List α} {r' : List β}, xAll2 R l' r' → xAll2 R (l ++ l') (r ++ r')
  | [], [], _, _, _, h => h
  | _ :: _, _ :: _, h, _, _, h' => ⟨h.1, xAll2.app h.2 h'⟩
  | [], _ :: _, h, _, _, _ => h.elim
  | _ :: _, [], h, _, _, _ => h.elim
/-- a value of the executor and the machine's -/
def xv (ρ : List Int) (ad : List Nat) (ex : List Nat) : xV → Value → Prop
  | .inl a, w => ∃ x : Int32, w = .int x ∧ xe ρ a = some x.toInt
  | .inr (.inl a), w => ∃ x : Int64, w = .long x ∧ xe ρ a = some x.toInt
  | .inr (.inr (.inl none)), w => w = .null
  | .inr (.inr (.inl (some i))), w => ∃ q : Nat, ad[i]? = some q ∧ w = .ref q
  | .inr (.inr (.inr k)), w => ∃ q : Nat, ex[k]? = some q ∧ w = .ref q
theorem xv.mono {ρ ρ' : List Int} {ad ad' ex : List Nat} (h1 : xX ρ ρ') (h2 : xX ad ad') : ∀ (v : xV) (w : Value), xv ρ ad ex v w → xv ρ' ad' ex v w
  | .inl _, _, ⟨x, e, h⟩ => ⟨x, e, xe.mono h1 h⟩
  | .inr (.inl _), _, ⟨x, e, h⟩ => ⟨x, e, xe.mono h1 h⟩
  | .inr (.inr (.inl none)), _, h => h
  | .inr (.inr (.inl (some _))), _, ⟨q, h, e⟩ => ⟨q, h2.at h, e⟩
  | .inr (.inr (.inr _)), _, h => h
/-- how many words a value takes -/
def xcat : xV → Nat
  | .inr (.inl _) => 2
  | _ => 1
theorem xv.cat {ρ : List Int} {ad ex : List Nat} : ∀ {v : xV} {w : Value}, xv ρ ad ex v w → w.category = xcat v
  | .inl _, _, ⟨x, e, _⟩ => by subst e; rfl
  | .inr (.inl _), _, ⟨x, e, _⟩ => by subst e; rfl
  | .inr (.inr (.inl none)), _, h => by have h : _ = Value.null := h; subst h; rfl
  | .inr (.inr (.inl (some _))), _, ⟨q, h, e⟩ => by subst e; rfl
  | .inr (.inr (.inr _)), _, ⟨q, h, e⟩ => by subst e; rfl
/-- what stands at a place of an array -/
def xseg : List xG → Nat → Option (xI ⊕ xB)
  | [], _ => none
  | g :: t, j => bif Nat.blt j g.1 then some g.2 else xseg t (j - g.1)
/-- an element and what is said of it -/
def xel (ρ : List Int) (u : xI ⊕ xB) (z : Int) : Prop := match u with
  | .inl a => xe ρ a = some z
  | .inr r => r.1 ≤ z ∧ z ≤ r.2
theorem xel.mono {ρ ρ' : List Int} (h : xX ρ ρ') {u : xI ⊕ xB} {z : Int} (hz : xel ρ u z) : xel ρ' u z := by
  cases u with
  | inl a => exact xe.mono h hz
  | inr r => exact hz
def xarr (ρ : List Int) (gs : List xG) (n : Nat) (f : Nat → Int) : Prop := ∀ j, j < n → ∃ u, xseg gs j = some u ∧ xel ρ u (f j)
theorem xarr.mono {ρ ρ' : List Int} (h : xX ρ ρ') {gs : List xG} {n : Nat} {f : Nat → Int} (hz : xarr ρ gs n f) : xarr ρ' gs n f := fun j hj => by
  obtain ⟨u, h1, h2⟩ := hz j hj
  exact ⟨u, h1, h2.mono h⟩
/-- the types of arrays by their numbers -/
def xty : Nat → FieldType
  | 0 => .int
  | 1 => .byte
  | _ => .boolean
/-- a cell of the executor and the machine's; tys: the array classes that are known; cn: the classes' names -/
def xcell (cn : Nat → String) (ρ : List Int) (ad ex : List Nat) (tys : List (ClassId × FieldType)) : xC → va_E → Prop
  | .inl o, e => ∃ vs : List Value, e = .inr (o.1, vs) ∧ xAll2 (xv ρ ad ex) o.2 vs
  | .inr (.inl a), e => ∃ (cA : ClassId) (f : Nat → Int32), e = .inl (cA, a.2.1, .inl f) ∧ (cA, xty a.1) ∈ tys ∧ xarr ρ a.2.2 a.2.1 (fun j => (f j).toInt)
  | .inr (.inr (.inl a)), e => ∃ (cA : ClassId) (f : Nat → Int64), e = .inl (cA, a.1, .inr (.inl f)) ∧ (cA, FieldType.long) ∈ tys ∧ xarr ρ a.2 a.1 (fun j => (f j).toInt)
  | .inr (.inr (.inr a)), e => ∃ (cA : ClassId) (f : Nat → Option Nat), e = .inl (cA, a.2.length, .inr (.inr (.inr (.inr f)))) ∧ (cA, FieldType.object (cn a.1)) ∈ tys ∧ ∀ (j : Nat) (o : Option Nat), a.2[j]? = some o → match o with
    | none => f j = none
    | some i => ∃ q, ad[i]? = some q ∧ f j = some q
theorem xcell.mono {cn : Nat → String} {ρ ρ' : List Int} {ad ad' ex : List Nat} {tys tys' : List (ClassId × FieldType)} (h1 : xX ρ ρ') (h2 : xX ad ad') (h3 : ∀ q ∈ tys, q ∈ tys') : ∀ (x : xC) (e : va_E), xcell cn ρ ad ex tys x e → xcell cn ρ' ad' ex tys' x e
  | .inl _, _, ⟨vs, e, h⟩ => ⟨vs, e, h.mono (xv.mono h1 h2)⟩
  | .inr (.inl _), _, ⟨cA, f, e, h, g⟩ => ⟨cA, f, e, h3 _ h, g.mono h1⟩
  | .inr (.inr (.inl _)), _, ⟨cA, f, e, h, g⟩ => ⟨cA, f, e, h3 _ h, g.mono h1⟩
  | .inr (.inr (.inr _)), _, ⟨cA, f, e, h, g⟩ => ⟨cA, f, e, h3 _ h, fun j o ho => by
      have := g j o ho
      cases o with
      | none => exact this
      | some i => exact let ⟨q, a, b⟩ := this; ⟨q, h2.at a, b⟩⟩
end
section
/-! The executor's arithmetic, and that it holds what the machine makes. -/
theorem x_b32 (x : Int32) : -2147483648 ≤ x.toInt ∧ x.toInt ≤ 2147483647 := by
  have h1 := x.le_toInt
  have h2 := x.toInt_lt
  constructor <;> omega
theorem x_b64 (x : Int64) : -9223372036854775808 ≤ x.toInt ∧ x.toInt ≤ 9223372036854775807 := by
  have h1 := x.le_toInt
  have h2 := x.toInt_lt
  constructor <;> omega
theorem x_of32 {z : Int} (h1 : -2147483648 ≤ z) (h2 : z ≤ 2147483647) : (Int32.ofInt z).toInt = z := Int32.toInt_ofInt_of_le (by omega) (by omega)
theorem x_of64 {z : Int} (h1 : -9223372036854775808 ≤ z) (h2 : z ≤ 9223372036854775807) : (Int64.ofInt z).toInt = z := Int64.toInt_ofInt_of_le (by omega) (by omega)
theorem x_add32 {x y : Int32} (h1 : -2147483648 ≤ x.toInt + y.toInt) (h2 : x.toInt + y.toInt ≤ 2147483647) : (x + y).toInt = x.toInt + y.toInt := by
  have h : x + y = Int32.ofInt (x.toInt + y.toInt) := by simp
  rw [h, x_of32 h1 h2]
theorem x_sub32 {x y : Int32} (h1 : -2147483648 ≤ x.toInt - y.toInt) (h2 : x.toInt - y.toInt ≤ 2147483647) : (x - y).toInt = x.toInt - y.toInt := by
  have h : x - y = Int32.ofInt (x.toInt - y.toInt) := by simp
  rw [h, x_of32 h1 h2]
theorem x_mul32 {x y : Int32} (h1 : -2147483648 ≤ x.toInt * y.toInt) (h2 : x.toInt * y.toInt ≤ 2147483647) : (x * y).toInt = x.toInt * y.toInt := by
  have h : x * y = Int32.ofInt (x.toInt * y.toInt) := by simp
  rw [h, x_of32 h1 h2]
theorem x_add64 {x y : Int64} (h1 : -9223372036854775808 ≤ x.toInt + y.toInt) (h2 : x.toInt + y.toInt ≤ 9223372036854775807) : (x + y).toInt = x.toInt + y.toInt := by
  have h : x + y = Int64.ofInt (x.toInt + y.toInt) := by simp
  rw [h, x_of64 h1 h2]
theorem x_sub64 {x y : Int64} (h1 : -9223372036854775808 ≤ x.toInt - y.toInt) (h2 : x.toInt - y.toInt ≤ 9223372036854775807) : (x - y).toInt = x.toInt - y.toInt := by
  have h : x - y = Int64.ofInt (x.toInt - y.toInt) := by simp
  rw [h, x_of64 h1 h2]
theorem x_mul64 {x y : Int64} (h1 : -9223372036854775808 ≤ x.toInt * y.toInt) (h2 : x.toInt * y.toInt ≤ 9223372036854775807) : (x * y).toInt = x.toInt * y.toInt := by
  have h : x * y = Int64.ofInt (x.toInt * y.toInt) := by simp
  rw [h, x_of64 h1 h2]
theorem x_bvand {n : Nat} {x y : BitVec n} (h : 0 ≤ y.toInt) : 0 ≤ (x &&& y).toInt ∧ (x &&& y).toInt ≤ y.toInt := by
  have hm : y.msb = false := by
    cases hq : y.msb with
    | false => rfl
    | true =>
      have := BitVec.toInt_neg_of_msb_true hq
      omega
  have hm2 : (x &&& y).msb = false := by rw [BitVec.msb_and, hm, Bool.and_false]
  rw [BitVec.toInt_eq_toNat_of_msb hm, BitVec.toInt_eq_toNat_of_msb hm2, BitVec.toNat_and]
  have := Nat.and_le_right (n := x.toNat) (m := y.toNat)
  omega
theorem x_and32 {x y : Int32} (h : 0 ≤ y.toInt) : 0 ≤ (x &&& y).toInt ∧ (x &&& y).toInt ≤ y.toInt := by
  show 0 ≤ (x &&& y).toBitVec.toInt ∧ (x &&& y).toBitVec.toInt ≤ y.toBitVec.toInt
  rw [Int32.toBitVec_and]
  exact x_bvand h
theorem x_and64 {x y : Int64} (h : 0 ≤ y.toInt) : 0 ≤ (x &&& y).toInt ∧ (x &&& y).toInt ≤ y.toInt := by
  show 0 ≤ (x &&& y).toBitVec.toInt ∧ (x &&& y).toBitVec.toInt ≤ y.toBitVec.toInt
  rw [Int64.toBitVec_and]
  exact x_bvand h
theorem x_and32c (x y : Int32) : x &&& y = y &&& x := Int32.and_comm x y
theorem x_and64c (x y : Int64) : x &&& y = y &&& x := Int64.and_comm x y
theorem x_shri (z : Int) (n : Nat) : (0 ≤ z → 0 ≤ z >>> n ∧ z >>> n ≤ z) ∧ (z ≤ 0 → z ≤ z >>> n ∧ z >>> n ≤ 0) := by
  rw [Int.shiftRight_eq_div_pow]
  have hp : (0 : Int) < ((2 ^ n : Nat) : Int) := by
    have := Nat.two_pow_pos n
    omega
  constructor
  · intro h
    refine ⟨Int.ediv_nonneg h (by omega), Int.ediv_le_self _ h⟩
  · intro h
    constructor
    · have h1 : z * 1 ≥ z * ((2 ^ n : Nat) : Int) := Int.mul_le_mul_of_nonpos_left h (by omega)
      rw [Int.le_ediv_iff_mul_le hp]
      omega
    · exact Int.ediv_nonpos_of_nonpos_of_neg h (by omega)
theorem x_shr32 (x y : Int32) : (0 ≤ x.toInt → 0 ≤ (x >>> y).toInt ∧ (x >>> y).toInt ≤ x.toInt) ∧ (x.toInt ≤ 0 → x.toInt ≤ (x >>> y).toInt ∧ (x >>> y).toInt ≤ 0) := by
  have h : (x >>> y).toInt = x.toInt >>> (y.toBitVec.smod 32).toNat := by
    show (x >>> y).toBitVec.toInt = _
    rw [Int32.toBitVec_shiftRight, BitVec.sshiftRight', BitVec.toInt_sshiftRight]
    rfl
  rw [h]
  exact x_shri _ _
theorem x_shr64 (x y : Int64) : (0 ≤ x.toInt → 0 ≤ (x >>> y).toInt ∧ (x >>> y).toInt ≤ x.toInt) ∧ (x.toInt ≤ 0 → x.toInt ≤ (x >>> y).toInt ∧ (x >>> y).toInt ≤ 0) := by
  have h : (x >>> y).toInt = x.toInt >>> (y.toBitVec.smod 64).toNat := by
    show (x >>> y).toBitVec.toInt = _
    rw [Int64.toBitVec_shiftRight, BitVec.sshiftRight', BitVec.toInt_sshiftRight]
    rfl
  rw [h]
  exact x_shri _ _
/-- division by what is above 0 -/
theorem x_tdiv {a b : Int} (hb : 0 < b) : (0 ≤ a → 0 ≤ a.tdiv b ∧ a.tdiv b ≤ a) ∧ (a ≤ 0 → a ≤ a.tdiv b ∧ a.tdiv b ≤ 0) := by
  have key : ∀ c : Int, 0 ≤ c → 0 ≤ c.tdiv b ∧ c.tdiv b ≤ c := by
    intro c hc
    rw [Int.tdiv_eq_ediv_of_nonneg hc]
    exact ⟨Int.ediv_nonneg hc (by omega), Int.ediv_le_self _ hc⟩
  refine ⟨key a, fun ha => ?_⟩
  have := key (-a) (by omega)
  rw [Int.neg_tdiv] at this
  omega
theorem x_div32 {x y : Int32} (hy : 0 < y.toInt) : (x / y).toInt = x.toInt.tdiv y.toInt := Int32.toInt_div_of_ne_right x y (fun h => by rw [h] at hy; exact absurd hy (by decide))
theorem x_div64 {x y : Int64} (hy : 0 < y.toInt) : (x / y).toInt = x.toInt.tdiv y.toInt := Int64.toInt_div_of_ne_right x y (fun h => by rw [h] at hy; exact absurd hy (by decide))
theorem x_tm {a b : Int} (hb : 0 < b) : (0 ≤ a → 0 ≤ a.tmod b ∧ a.tmod b ≤ a ∧ a.tmod b < b) ∧ (-b < a.tmod b ∧ a.tmod b < b) := by
  refine ⟨fun ha => ?_, tmod_bounds hb⟩
  rw [Int.tmod_eq_emod_of_nonneg ha]
  have h1 := Int.mul_ediv_add_emod a b
  have h2 : 0 ≤ b * (a / b) := Int.mul_nonneg (by omega) (Int.ediv_nonneg ha (by omega))
  exact ⟨Int.emod_nonneg a (by omega), by omega, Int.emod_lt_of_pos a hb⟩
theorem x_rem32 {x y : Int32} (hy : 0 < y.toInt) : (x - x / y * y).toInt = x.toInt.tmod y.toInt := by
  have hx := x_b32 x
  have hyb := x_b32 y
  have hd := x_div32 (x := x) hy
  have hm := Int.mul_tdiv_add_tmod x.toInt y.toInt
  have hb := x_tm (a := x.toInt) hy
  have hq := x_tdiv (a := x.toInt) hy
  have e1 : x - x / y * y = Int32.ofInt (x.toInt - x.toInt.tdiv y.toInt * y.toInt) := by
    rw [Int32.ofInt_sub, Int32.ofInt_mul, ← hd, Int32.ofInt_toInt, Int32.ofInt_toInt, Int32.ofInt_toInt]
  have e2 : x.toInt - x.toInt.tdiv y.toInt * y.toInt = x.toInt.tmod y.toInt := by
    rw [Int.mul_comm]
    omega
  rw [e1, e2]
  exact x_of32 (by omega) (by omega)
theorem x_rem64 {x y : Int64} (hy : 0 < y.toInt) : (x - x / y * y).toInt = x.toInt.tmod y.toInt := by
  have hx := x_b64 x
  have hyb := x_b64 y
  have hd := x_div64 (x := x) hy
  have hm := Int.mul_tdiv_add_tmod x.toInt y.toInt
  have hb := x_tm (a := x.toInt) hy
  have e1 : x - x / y * y = Int64.ofInt (x.toInt - x.toInt.tdiv y.toInt * y.toInt) := by
    rw [Int64.ofInt_sub, Int64.ofInt_mul, ← hd, Int64.ofInt_toInt, Int64.ofInt_toInt, Int64.ofInt_toInt]
  have e2 : x.toInt - x.toInt.tdiv y.toInt * y.toInt = x.toInt.tmod y.toInt := by
    rw [Int.mul_comm]
    omega
  rw [e1, e2]
  exact x_of64 (by omega) (by omega)
/-- a product between bounds -/
theorem x_mul1 {z a b c : Int} (h1 : a ≤ z) (h2 : z ≤ b) : (a * c ≤ z * c ∧ z * c ≤ b * c) ∨ (b * c ≤ z * c ∧ z * c ≤ a * c) := by
  rcases Int.le_total 0 c with h | h
  · exact Or.inl ⟨Int.mul_le_mul_of_nonneg_right h1 h, Int.mul_le_mul_of_nonneg_right h2 h⟩
  · exact Or.inr ⟨Int.mul_le_mul_of_nonpos_right h2 h, Int.mul_le_mul_of_nonpos_right h1 h⟩
def xmulB (L H : Int) (r q : xB) : xB :=
  let lo := xmin (xmin (r.1 * q.1) (r.1 * q.2)) (xmin (r.2 * q.1) (r.2 * q.2))
  let hi := xmax (xmax (r.1 * q.1) (r.1 * q.2)) (xmax (r.2 * q.1) (r.2 * q.2))
  bif xle L lo && xle hi H then (lo, hi) else (L, H)
theorem xmulB_ok {L H z1 z2 w : Int} {r q : xB} (h1 : r.1 ≤ z1 ∧ z1 ≤ r.2) (h2 : q.1 ≤ z2 ∧ z2 ≤ q.2) (hw : L ≤ w ∧ w ≤ H) (he : L ≤ z1 * z2 → z1 * z2 ≤ H → w = z1 * z2) : (xmulB L H r q).1 ≤ w ∧ w ≤ (xmulB L H r q).2 := by
  unfold xmulB
  have a1 := xmin_l (xmin (r.1 * q.1) (r.1 * q.2)) (xmin (r.2 * q.1) (r.2 * q.2))
  have a2 := xmin_r (xmin (r.1 * q.1) (r.1 * q.2)) (xmin (r.2 * q.1) (r.2 * q.2))
  have a3 := xmin_l (r.1 * q.1) (r.1 * q.2)
  have a4 := xmin_r (r.1 * q.1) (r.1 * q.2)
  have a5 := xmin_l (r.2 * q.1) (r.2 * q.2)
  have a6 := xmin_r (r.2 * q.1) (r.2 * q.2)
  have b1 := xmax_l (xmax (r.1 * q.1) (r.1 * q.2)) (xmax (r.2 * q.1) (r.2 * q.2))
  have b2 := xmax_r (xmax (r.1 * q.1) (r.1 * q.2)) (xmax (r.2 * q.1) (r.2 * q.2))
  have b3 := xmax_l (r.1 * q.1) (r.1 * q.2)
  have b4 := xmax_r (r.1 * q.1) (r.1 * q.2)
  have b5 := xmax_l (r.2 * q.1) (r.2 * q.2)
  have b6 := xmax_r (r.2 * q.1) (r.2 * q.2)
  generalize xmin (xmin (r.1 * q.1) (r.1 * q.2)) (xmin (r.2 * q.1) (r.2 * q.2)) = lo at *
  generalize xmax (xmax (r.1 * q.1) (r.1 * q.2)) (xmax (r.2 * q.1) (r.2 * q.2)) = hi at *
  generalize xmin (r.1 * q.1) (r.1 * q.2) = m1 at *
  generalize xmin (r.2 * q.1) (r.2 * q.2) = m2 at *
  generalize xmax (r.1 * q.1) (r.1 * q.2) = m3 at *
  generalize xmax (r.2 * q.1) (r.2 * q.2) = m4 at *
  dsimp only
  cases hc : (xle L lo && xle hi H)
  · exact hw
  · rw [Bool.and_eq_true, xle_iff, xle_iff] at hc
    have c1 := x_mul1 (c := z2) h1.1 h1.2
    have c2 := x_mul1 (c := r.1) h2.1 h2.2
    have c3 := x_mul1 (c := r.2) h2.1 h2.2
    rw [Int.mul_comm q.1, Int.mul_comm q.2, Int.mul_comm z2] at c2 c3
    generalize z1 * z2 = pz at *
    generalize r.1 * z2 = p1 at *
    generalize r.2 * z2 = p2 at *
    generalize r.1 * q.1 = p3 at *
    generalize r.1 * q.2 = p4 at *
    generalize r.2 * q.1 = p5 at *
    generalize r.2 * q.2 = p6 at *
    have hl : lo ≤ pz ∧ pz ≤ hi := by omega
    have := he (by omega) (by omega)
    simp only [cond_true]
    omega
def xandB (L H : Int) (r q : xB) : xB :=
  bif xle 0 r.1 then (bif xle 0 q.1 then (0, xmin r.2 q.2) else (0, r.2)) else (bif xle 0 q.1 then (0, q.2) else (L, H))
theorem xandB_ok {L H z1 z2 w : Int} {r q : xB} (h1 : r.1 ≤ z1 ∧ z1 ≤ r.2) (h2 : q.1 ≤ z2 ∧ z2 ≤ q.2) (hw : L ≤ w ∧ w ≤ H) (e1 : 0 ≤ z1 → 0 ≤ w ∧ w ≤ z1) (e2 : 0 ≤ z2 → 0 ≤ w ∧ w ≤ z2) : (xandB L H r q).1 ≤ w ∧ w ≤ (xandB L H r q).2 := by
  unfold xandB
  cases a : xle 0 r.1 <;> cases b : xle 0 q.1
  · exact hw
  · have := xle_iff.mp b
    simp only [cond_true, cond_false]
    omega
  · have := xle_iff.mp a
    simp only [cond_true, cond_false]
    omega
  · have ha := xle_iff.mp a
    have hb := xle_iff.mp b
    simp only [cond_true]
    exact ⟨by omega, xmin_le1 (by omega) (by omega)⟩
/-- nearer to 0: a shift to the right, a division by what is above 0 -/
def xnearB (r : xB) : xB := (xmin r.1 0, xmax r.2 0)
theorem xnearB_ok {z w : Int} {r : xB} (h : r.1 ≤ z ∧ z ≤ r.2) (e1 : 0 ≤ z → 0 ≤ w ∧ w ≤ z) (e2 : z ≤ 0 → z ≤ w ∧ w ≤ 0) : (xnearB r).1 ≤ w ∧ w ≤ (xnearB r).2 := by
  unfold xnearB
  have a1 := xmin_l r.1 0
  have a2 := xmin_r r.1 0
  have a3 := xmax_l r.2 0
  have a4 := xmax_r r.2 0
  dsimp only
  omega
def xremB (r q : xB) : xB := bif xle 0 r.1 then (0, xmin r.2 (q.2 - 1)) else (1 - q.2, q.2 - 1)
theorem xremB_ok {z1 z2 : Int} {r q : xB} (h1 : r.1 ≤ z1 ∧ z1 ≤ r.2) (h2 : q.1 ≤ z2 ∧ z2 ≤ q.2) (hp : 0 < z2) : (xremB r q).1 ≤ z1.tmod z2 ∧ z1.tmod z2 ≤ (xremB r q).2 := by
  have hb := x_tm (a := z1) hp
  unfold xremB
  cases a : xle 0 r.1
  · simp only [cond_false]
    omega
  · have := xle_iff.mp a
    have hq := hb.1 (by omega)
    simp only [cond_true]
    exact ⟨hq.1, xmin_le1 (by omega) (by omega)⟩
/-- what an operation answers: a number, and the bounds -/
abbrev xR : Type := Option (xI × List xB)
def xGood (ρ : List Int) (r : xI × List xB) (w : Int) : Prop := ∃ ρ', xX ρ ρ' ∧ xSt ρ' r.2 ∧ xe ρ' r.1 = some w
def xadd (L H : Int) (σ : List xB) (a b : xI) : xR := match xrg σ a with
  | none => none
  | some ra => match xrg σ b with
    | none => none
    | some rb => bif xle L (ra.1 + rb.1) && xle (ra.2 + rb.2) H then (match a.1 with
        | none => some ((b.1, b.2 + a.2), σ)
        | some _ => match b.1 with
          | none => some ((a.1, a.2 + b.2), σ)
          | some _ => some (xmk σ (ra.1 + rb.1) (ra.2 + rb.2))) else some (xmk σ L H)
theorem xe_off {ρ : List Int} {o : Option Nat} {c d z : Int} (h : xe ρ (o, c) = some z) : xe ρ (o, c + d) = some (z + d) := by
  cases o with
  | none =>
    simp only [xe, Option.some.injEq] at h ⊢
    omega
  | some k =>
    simp only [xe] at h ⊢
    cases hk : ρ[k]? with
    | none => rw [hk] at h; cases h
    | some w =>
      rw [hk] at h
      simp only [Option.some.injEq] at h ⊢
      omega
theorem xadd_ok {L H : Int} {ρ : List Int} {σ : List xB} {a b : xI} {r : xI × List xB} {z1 z2 w : Int} (hr : xadd L H σ a b = some r) (hs : xSt ρ σ) (h1 : xe ρ a = some z1) (h2 : xe ρ b = some z2) (hw : L ≤ w ∧ w ≤ H) (he : L ≤ z1 + z2 → z1 + z2 ≤ H → w = z1 + z2) : xGood ρ r w := by
  unfold xadd at hr
  cases ha : xrg σ a with
  | none => rw [ha] at hr; cases hr
  | some ra =>
    cases hb : xrg σ b with
    | none => rw [ha, hb] at hr; cases hr
    | some rb =>
      rw [ha, hb] at hr
      have q1 := xrg_ok hs h1 ha
      have q2 := xrg_ok hs h2 hb
      dsimp only at hr
      cases hc : (xle L (ra.1 + rb.1) && xle (ra.2 + rb.2) H)
      · rw [hc] at hr
        simp only [cond_false, Option.some.injEq] at hr
        subst hr
        exact xmk_ok hs hw.1 hw.2
      · rw [hc] at hr
        rw [Bool.and_eq_true, xle_iff, xle_iff] at hc
        have e := he (by omega) (by omega)
        subst e
        simp only [cond_true] at hr
        obtain ⟨oa, ca⟩ := a
        obtain ⟨ob, cb⟩ := b
        cases oa with
        | none =>
          simp only [Option.some.injEq] at hr
          subst hr
          simp only [xe, Option.some.injEq] at h1
          subst h1
          refine ⟨ρ, xX.rf ρ, hs, ?_⟩
          have := xe_off (d := ca) h2
          rw [this]
          congr 1
          omega
        | some k =>
          cases ob with
          | none =>
            simp only [Option.some.injEq] at hr
            subst hr
            simp only [xe, Option.some.injEq] at h2
            subst h2
            exact ⟨ρ, xX.rf ρ, hs, xe_off h1⟩
          | some j =>
            simp only [Option.some.injEq] at hr
            subst hr
            exact xmk_ok hs (by omega) (by omega)
def xsub (L H : Int) (σ : List xB) (a b : xI) : xR := match xrg σ a with
  | none => none
  | some ra => match xrg σ b with
    | none => none
    | some rb => bif xle L (ra.1 - rb.2) && xle (ra.2 - rb.1) H then (match b.1 with
        | none => some ((a.1, a.2 + (- b.2)), σ)
        | some _ => some (xmk σ (ra.1 - rb.2) (ra.2 - rb.1))) else some (xmk σ L H)
theorem xsub_ok {L H : Int} {ρ : List Int} {σ : List xB} {a b : xI} {r : xI × List xB} {z1 z2 w : Int} (hr : xsub L H σ a b = some r) (hs : xSt ρ σ) (h1 : xe ρ a = some z1) (h2 : xe ρ b = some z2) (hw : L ≤ w ∧ w ≤ H) (he : L ≤ z1 - z2 → z1 - z2 ≤ H → w = z1 - z2) : xGood ρ r w := by
  unfold xsub at hr
  cases ha : xrg σ a with
  | none => rw [ha] at hr; cases hr
  | some ra =>
    cases hb : xrg σ b with
    | none => rw [ha, hb] at hr; cases hr
    | some rb =>
      rw [ha, hb] at hr
      have q1 := xrg_ok hs h1 ha
      have q2 := xrg_ok hs h2 hb
      dsimp only at hr
      cases hc : (xle L (ra.1 - rb.2) && xle (ra.2 - rb.1) H)
      · rw [hc] at hr
        simp only [cond_false, Option.some.injEq] at hr
        subst hr
        exact xmk_ok hs hw.1 hw.2
      · rw [hc] at hr
        rw [Bool.and_eq_true, xle_iff, xle_iff] at hc
        have e := he (by omega) (by omega)
        subst e
        simp only [cond_true] at hr
        obtain ⟨oa, ca⟩ := a
        obtain ⟨ob, cb⟩ := b
        cases ob with
        | none =>
          simp only [Option.some.injEq] at hr
          subst hr
          simp only [xe, Option.some.injEq] at h2
          subst h2
          exact ⟨ρ, xX.rf ρ, hs, xe_off h1⟩
        | some j =>
          simp only [Option.some.injEq] at hr
          subst hr
          exact xmk_ok hs (by omega) (by omega)
/-- an operation of which only bounds are told -/
def xop2 (g : xB → xB → xB) (σ : List xB) (a b : xI) : xR := match xrg σ a with
  | none => none
  | some ra => match xrg σ b with
    | none => none
    | some rb => some (xmk σ (g ra rb).1 (g ra rb).2)
theorem xop2_ok {g : xB → xB → xB} {ρ : List Int} {σ : List xB} {a b : xI} {r : xI × List xB} {z1 z2 w : Int} (hr : xop2 g σ a b = some r) (hs : xSt ρ σ) (h1 : xe ρ a = some z1) (h2 : xe ρ b = some z2) (hw : ∀ ra rb : xB, xrg σ b = some rb → ra.1 ≤ z1 ∧ z1 ≤ ra.2 → rb.1 ≤ z2 ∧ z2 ≤ rb.2 → (g ra rb).1 ≤ w ∧ w ≤ (g ra rb).2) : xGood ρ r w := by
  unfold xop2 at hr
  cases ha : xrg σ a with
  | none => rw [ha] at hr; cases hr
  | some ra =>
    cases hb : xrg σ b with
    | none => rw [ha, hb] at hr; cases hr
    | some rb =>
      rw [ha, hb] at hr
      have q := hw ra rb hb (xrg_ok hs h1 ha) (xrg_ok hs h2 hb)
      simp only [Option.some.injEq] at hr
      subst hr
      exact xmk_ok hs q.1 q.2
/-- a cut to bounds: within them the number itself, else any between them -/
def xcut (L H : Int) (σ : List xB) (a : xI) : xR := match xrg σ a with
  | none => none
  | some ra => bif xle L ra.1 && xle ra.2 H then some (a, σ) else some (xmk σ L H)
theorem xcut_ok {L H : Int} {ρ : List Int} {σ : List xB} {a : xI} {r : xI × List xB} {z w : Int} (hr : xcut L H σ a = some r) (hs : xSt ρ σ) (h1 : xe ρ a = some z) (hw : L ≤ w ∧ w ≤ H) (he : L ≤ z → z ≤ H → w = z) : xGood ρ r w := by
  unfold xcut at hr
  cases ha : xrg σ a with
  | none => rw [ha] at hr; cases hr
  | some ra =>
    rw [ha] at hr
    have q := xrg_ok hs h1 ha
    dsimp only at hr
    cases hc : (xle L ra.1 && xle ra.2 H)
    · rw [hc] at hr
      simp only [cond_false, Option.some.injEq] at hr
      subst hr
      exact xmk_ok hs hw.1 hw.2
    · rw [hc] at hr
      rw [Bool.and_eq_true, xle_iff, xle_iff] at hc
      simp only [cond_true, Option.some.injEq] at hr
      subst hr
      exact ⟨ρ, xX.rf ρ, hs, by rw [he (by omega) (by omega)]; exact h1⟩
end
section
/-! Instructions that touch neither the heap nor the place in the code. -/
theorem xAll2.filter {α β : Type} {R : α → β → Prop} {p : α → Bool} {q : β → Bool} (hpq : ∀ a b, R a b → p a = q b) : ∀ {l : List α} {r : List β}, xAll2 R l r → xAll2 R (l.filter p) (r.filter q)
  | [], [], _ => trivial
  | a :: as, b :: bs, h => by
    have e := hpq a b h.1
    cases hp : p a with
    | true =>
      rw [List.filter_cons_of_pos hp, List.filter_cons_of_pos (by rw [← e]; exact hp)]
      exact ⟨h.1, xAll2.filter hpq h.2⟩
    | false =>
      rw [List.filter_cons_of_neg (by rw [hp]; decide), List.filter_cons_of_neg (by rw [← e, hp]; decide)]
      exact xAll2.filter hpq h.2
  | [], _ :: _, h => h.elim
  | _ :: _, [], h => h.elim
/-- the locals -/
def xLo (ρ : List Int) (ad ex : List Nat) (nL : Nat) (loc : List (Nat × xV)) (ls : Array Slot) : Prop := ∃ lv : List (Nat × Value), lv_has ls nL lv ∧ xAll2 (fun q r => q.1 = r.1 ∧ xv ρ ad ex q.2 r.2) loc lv
theorem xLo.mono {ρ ρ' : List Int} {ad ad' ex : List Nat} {nL : Nat} {loc : List (Nat × xV)} {ls : Array Slot} (h1 : xX ρ ρ') (h2 : xX ad ad') (h : xLo ρ ad ex nL loc ls) : xLo ρ' ad' ex nL loc ls := by
  obtain ⟨lv, a, b⟩ := h
  exact ⟨lv, a, b.mono (fun q r hq => ⟨hq.1, xv.mono h1 h2 _ _ hq.2⟩)⟩
def xget : List (Nat × xV) → Nat → Option xV
  | [], _ => none
  | q :: t, i => bif Nat.beq q.1 i then some q.2 else xget t i
theorem xget_mem : ∀ {loc : List (Nat × xV)} {i : Nat} {v : xV}, xget loc i = some v → ∃ k : Nat, loc[k]? = some (i, v)
  | [], _, _, h => by cases h
  | q :: t, i, v, h => by
    unfold xget at h
    cases hb : Nat.beq q.1 i with
    | true =>
      rw [hb] at h
      simp only [cond_true, Option.some.injEq] at h
      have := Nat.eq_of_beq_eq_true hb
      refine ⟨0, ?_⟩
      obtain ⟨a, b⟩ := q
      dsimp only at h this
      subst h; subst this
      rfl
    | false =>
      rw [hb] at h
      obtain ⟨k, hk⟩ := xget_mem (show xget t i = some v from h)
      exact ⟨k + 1, by simpa using hk⟩
theorem xLo.get {ρ : List Int} {ad ex : List Nat} {nL : Nat} {loc : List (Nat × xV)} {ls : Array Slot} (h : xLo ρ ad ex nL loc ls) {i : Nat} {v : xV} (hv : xget loc i = some v) : ∃ w, ls[i]? = some (.val w) ∧ xv ρ ad ex v w := by
  obtain ⟨lv, a, b⟩ := h
  obtain ⟨k, hk⟩ := xget_mem hv
  obtain ⟨r, h1, h2, h3⟩ := b.get hk
  obtain ⟨j, w⟩ := r
  dsimp only at h2 h3
  subst h2
  exact ⟨w, lv_at a k h1, h3⟩
def xsto1 (loc : List (Nat × xV)) (i : Nat) (v : xV) : List (Nat × xV) := (i, v) :: loc.filter (fun q => !(q.1 == i) && !(q.1 + 1 == i && xcat q.2 == 2))
def xsto2 (loc : List (Nat × xV)) (i : Nat) (v : xV) : List (Nat × xV) := (i, v) :: loc.filter (fun q => !(q.1 == i) && (!(q.1 == i + 1) && !(q.1 + 1 == i && xcat q.2 == 2)))
theorem xLo.size {ρ : List Int} {ad ex : List Nat} {nL : Nat} {loc : List (Nat × xV)} {ls : Array Slot} (h : xLo ρ ad ex nL loc ls) : ls.size = nL := by
  obtain ⟨lv, a, b⟩ := h
  exact a.1
section XO
variable {p : Program} {l : Launch} {e : Env} {R : Room} {s : State} {m : MethodId} {args : Array Value} {below : List Frame} {meth : Method} {c : Code} {H : Heap} {locs : List Loc} {cells slots : Nat} {Q : State → Prop} {cc : ByteArray} {pc : Nat} {ls : Array Slot} {st rest : List Value} {ρ : List Int} {ad ex : List Nat} {nL : Nat} {loc : List (Nat × xV)} {σ : List xB} {len : Nat} {i : Instr}
def xConst (i : Instr) (len : Nat) : Option xV := match i with
  | .iconst n => bif Nat.beq len 1 && (xle (-128) n && xle n 127) then some (.inl (none, n)) else none
  | .bipush n => bif Nat.beq len 2 && (xle (-128) n && xle n 127) then some (.inl (none, n)) else none
  | .sipush n => bif Nat.beq len 3 && (xle (-32768) n && xle n 32767) then some (.inl (none, n)) else none
  | .lconst n => bif Nat.beq len 1 then some (.inr (.inl (none, Int.ofNat n.val))) else none
  | _ => none
theorem x_and3 {a b c : Bool} (h : (a && (b && c)) = true) : a = true ∧ b = true ∧ c = true := by
  rw [Bool.and_eq_true, Bool.and_eq_true] at h
  exact h
theorem x_bif {α : Type} {b : Bool} {x y : α} (h : (bif b then some x else none) = some y) : b = true ∧ x = y := by
  cases b
  · cases h
  · exact ⟨rfl, Option.some.inj h⟩
theorem x_bifO {α : Type} {b : Bool} {x : Option α} {y : α} (h : (bif b then x else none) = some y) : b = true ∧ x = some y := by
  cases b
  · cases h
  · exact ⟨rfl, h⟩
theorem xConst_ok {v : xV} (hv : xConst i len = some v) (hx : p.tables.exec = Jvm.exec) (hb : c.code = cc) (hd : decode cc pc = .ok (i, len))
    (k : ∀ w, xv ρ ad ex v w → W p l e R s m args below meth c H locs cells slots Q (F0 m (pc + len) ls (w :: rest))) : W p l e R s m args below meth c H locs cells slots Q (F0 m pc ls rest) := by
  unfold xConst at hv
  split at hv
  · rename_i n
    obtain ⟨h1, h2⟩ := x_bif hv
    obtain ⟨g1, g2, g3⟩ := x_and3 h1
    have e1 := Nat.eq_of_beq_eq_true g1
    rw [xle_iff] at g2 g3
    subst e1; subst h2
    exact lv_iconst hx hb hd rfl (k _ ⟨_, rfl, by rw [x_of32 (by omega) (by omega)]; rfl⟩)
  · rename_i n
    obtain ⟨h1, h2⟩ := x_bif hv
    obtain ⟨g1, g2, g3⟩ := x_and3 h1
    have e1 := Nat.eq_of_beq_eq_true g1
    rw [xle_iff] at g2 g3
    subst e1; subst h2
    refine lv_bipush hx hb hd rfl (k _ ⟨_, rfl, ?_⟩)
    rw [Int8.toInt_toInt32, Int8.toInt_ofInt_of_le (by omega) (by omega)]
    rfl
  · rename_i n
    obtain ⟨h1, h2⟩ := x_bif hv
    obtain ⟨g1, g2, g3⟩ := x_and3 h1
    have e1 := Nat.eq_of_beq_eq_true g1
    rw [xle_iff] at g2 g3
    subst e1; subst h2
    refine lv_sipush hx hb hd rfl (k _ ⟨_, rfl, ?_⟩)
    rw [Int16.toInt_toInt32, Int16.toInt_ofInt_of_le (by omega) (by omega)]
    rfl
  · rename_i n
    obtain ⟨h1, h2⟩ := x_bif hv
    have e1 := Nat.eq_of_beq_eq_true h1
    subst e1; subst h2
    refine lv_lconst hx hb hd rfl (k _ ⟨_, rfl, ?_⟩)
    have := n.isLt
    rw [Int64.toInt_ofNat_of_lt (by omega)]
    rfl
  · cases hv
/-- what is loaded from a local, its kind by the instruction -/
def xLoad (i : Instr) (len : Nat) (loc : List (Nat × xV)) : Option xV := match i with
  | .iload_n k => bif Nat.beq len 1 then (match xget loc k.val with
    | some (.inl a) => some (.inl a)
    | _ => none) else none
  | .iload k => bif Nat.beq len 2 then (match xget loc k with
    | some (.inl a) => some (.inl a)
    | _ => none) else none
  | .aload_n k => bif Nat.beq len 1 then (match xget loc k.val with
    | some (.inr (.inr (.inl (some a)))) => some (.inr (.inr (.inl (some a))))
    | some (.inr (.inr (.inr a))) => some (.inr (.inr (.inr a)))
    | _ => none) else none
  | .aload k => bif Nat.beq len 2 then (match xget loc k with
    | some (.inr (.inr (.inl (some a)))) => some (.inr (.inr (.inl (some a))))
    | some (.inr (.inr (.inr a))) => some (.inr (.inr (.inr a)))
    | _ => none) else none
  | .lload_n k => bif Nat.beq len 1 then (match xget loc k.val with
    | some (.inr (.inl a)) => some (.inr (.inl a))
    | _ => none) else none
  | .lload k => bif Nat.beq len 2 then (match xget loc k with
    | some (.inr (.inl a)) => some (.inr (.inl a))
    | _ => none) else none
  | _ => none
theorem xLoad_ok {v : xV} (hv : xLoad i len loc = some v) (hx : p.tables.exec = Jvm.exec) (hb : c.code = cc) (hd : decode cc pc = .ok (i, len)) (hL : xLo ρ ad ex nL loc ls)
    (k : ∀ w, xv ρ ad ex v w → W p l e R s m args below meth c H locs cells slots Q (F0 m (pc + len) ls (w :: rest))) : W p l e R s m args below meth c H locs cells slots Q (F0 m pc ls rest) := by
  unfold xLoad at hv
  split at hv
  · obtain ⟨h1, h2⟩ := x_bifO hv
    have e1 := Nat.eq_of_beq_eq_true h1
    subst e1
    split at h2
    · rename_i a hg
      obtain ⟨w, hw1, x, rfl, hw2⟩ := hL.get hg
      cases h2
      exact lv_iload_n hx hb hd rfl hw1 (k _ ⟨x, rfl, hw2⟩)
    · cases h2
  · obtain ⟨h1, h2⟩ := x_bifO hv
    have e1 := Nat.eq_of_beq_eq_true h1
    subst e1
    split at h2
    · rename_i a hg
      obtain ⟨w, hw1, x, rfl, hw2⟩ := hL.get hg
      cases h2
      exact lv_iload hx hb hd hw1 (k _ ⟨x, rfl, hw2⟩)
    · cases h2
  · obtain ⟨h1, h2⟩ := x_bifO hv
    have e1 := Nat.eq_of_beq_eq_true h1
    subst e1
    split at h2
    · rename_i a hg
      obtain ⟨w, hw1, x, hw2, rfl⟩ := hL.get hg
      cases h2
      exact lv_aload_n hx hb hd rfl hw1 (k _ ⟨x, hw2, rfl⟩)
    · rename_i a hg
      obtain ⟨w, hw1, x, hw2, rfl⟩ := hL.get hg
      cases h2
      exact lv_aload_n hx hb hd rfl hw1 (k _ ⟨x, hw2, rfl⟩)
    · cases h2
  · obtain ⟨h1, h2⟩ := x_bifO hv
    have e1 := Nat.eq_of_beq_eq_true h1
    subst e1
    split at h2
    · rename_i a hg
      obtain ⟨w, hw1, x, hw2, rfl⟩ := hL.get hg
      cases h2
      exact lv_aload hx hb hd hw1 (k _ ⟨x, hw2, rfl⟩)
    · rename_i a hg
      obtain ⟨w, hw1, x, hw2, rfl⟩ := hL.get hg
      cases h2
      exact lv_aload hx hb hd hw1 (k _ ⟨x, hw2, rfl⟩)
    · cases h2
  · obtain ⟨h1, h2⟩ := x_bifO hv
    have e1 := Nat.eq_of_beq_eq_true h1
    subst e1
    split at h2
    · rename_i a hg
      obtain ⟨w, hw1, x, rfl, hw2⟩ := hL.get hg
      cases h2
      exact lv_lload_n hx hb hd rfl hw1 (k _ ⟨x, rfl, hw2⟩)
    · cases h2
  · obtain ⟨h1, h2⟩ := x_bifO hv
    have e1 := Nat.eq_of_beq_eq_true h1
    subst e1
    split at h2
    · rename_i a hg
      obtain ⟨w, hw1, x, rfl, hw2⟩ := hL.get hg
      cases h2
      exact lv_lload hx hb hd hw1 (k _ ⟨x, rfl, hw2⟩)
    · cases h2
  · cases hv
/-- a store: the kind of the value by the instruction -/
def xSto (i : Instr) (len : Nat) (nL : Nat) (loc : List (Nat × xV)) (v : xV) : Option (List (Nat × xV)) := match i with
  | .istore_n k => bif Nat.beq len 1 && Nat.blt k.val nL then (match v with
    | .inl _ => some (xsto1 loc k.val v)
    | _ => none) else none
  | .istore k => bif Nat.beq len 2 && Nat.blt k nL then (match v with
    | .inl _ => some (xsto1 loc k v)
    | _ => none) else none
  | .astore_n k => bif Nat.beq len 1 && Nat.blt k.val nL then (match v with
    | .inr (.inr (.inl (some _))) => some (xsto1 loc k.val v)
    | _ => none) else none
  | .astore k => bif Nat.beq len 2 && Nat.blt k nL then (match v with
    | .inr (.inr (.inl (some _))) => some (xsto1 loc k v)
    | _ => none) else none
  | .lstore_n k => bif Nat.beq len 1 && Nat.blt (k.val + 1) nL then (match v with
    | .inr (.inl _) => some (xsto2 loc k.val v)
    | _ => none) else none
  | .lstore k => bif Nat.beq len 2 && Nat.blt (k + 1) nL then (match v with
    | .inr (.inl _) => some (xsto2 loc k v)
    | _ => none) else none
  | _ => none
theorem x_blt {a b : Nat} (h : Nat.blt a b = true) : a < b := by
  unfold Nat.blt at h
  exact Nat.le_of_ble_eq_true h
theorem xLo_f1 {lv : List (Nat × Value)} {j : Nat} (h2 : xAll2 (fun q r => q.1 = r.1 ∧ xv ρ ad ex q.2 r.2) loc lv) {v : xV} {w : Value} (hv : xv ρ ad ex v w) : xAll2 (fun q r => q.1 = r.1 ∧ xv ρ ad ex q.2 r.2) (xsto1 loc j v) ((j, w) :: lv.filter (fun q => !(q.1 == j) && !(q.1 + 1 == j && q.2.category == 2))) :=
  ⟨⟨rfl, hv⟩, h2.filter (fun a b hab => by rw [hab.1, hab.2.cat])⟩
theorem xLo_f2 {lv : List (Nat × Value)} {j : Nat} (h2 : xAll2 (fun q r => q.1 = r.1 ∧ xv ρ ad ex q.2 r.2) loc lv) {v : xV} {w : Value} (hv : xv ρ ad ex v w) : xAll2 (fun q r => q.1 = r.1 ∧ xv ρ ad ex q.2 r.2) (xsto2 loc j v) ((j, w) :: lv.filter (fun q => !(q.1 == j) && (!(q.1 == j + 1) && !(q.1 + 1 == j && q.2.category == 2)))) :=
  ⟨⟨rfl, hv⟩, h2.filter (fun a b hab => by rw [hab.1, hab.2.cat])⟩
theorem xSto_ok {v : xV} {w : Value} {loc' : List (Nat × xV)} (hv : xSto i len nL loc v = some loc') (hx : p.tables.exec = Jvm.exec) (hb : c.code = cc) (hd : decode cc pc = .ok (i, len)) (hL : xLo ρ ad ex nL loc ls) (hw : xv ρ ad ex v w)
    (k : ∀ ls', xLo ρ ad ex nL loc' ls' → W p l e R s m args below meth c H locs cells slots Q (F0 m (pc + len) ls' rest)) : W p l e R s m args below meth c H locs cells slots Q (F0 m pc ls (w :: rest)) := by
  obtain ⟨lv, hl, h2⟩ := hL
  unfold xSto at hv
  split at hv
  · obtain ⟨h1, h3⟩ := x_bifO hv
    rw [Bool.and_eq_true] at h1
    have e1 := Nat.eq_of_beq_eq_true h1.1
    subst e1
    split at h3
    · cases h3
      obtain ⟨x, rfl, hw2⟩ := hw
      exact lv_istore_n hx hb hd rfl hl (x_blt h1.2) rfl (fun ls' h' => k ls' ⟨_, h', xLo_f1 h2 ⟨x, rfl, hw2⟩⟩)
    · cases h3
  · obtain ⟨h1, h3⟩ := x_bifO hv
    rw [Bool.and_eq_true] at h1
    have e1 := Nat.eq_of_beq_eq_true h1.1
    subst e1
    split at h3
    · cases h3
      obtain ⟨x, rfl, hw2⟩ := hw
      exact lv_istore hx hb hd hl (x_blt h1.2) rfl (fun ls' h' => k ls' ⟨_, h', xLo_f1 h2 ⟨x, rfl, hw2⟩⟩)
    · cases h3
  · obtain ⟨h1, h3⟩ := x_bifO hv
    rw [Bool.and_eq_true] at h1
    have e1 := Nat.eq_of_beq_eq_true h1.1
    subst e1
    split at h3
    · cases h3
      obtain ⟨x, hw2, rfl⟩ := hw
      exact lv_astore_n hx hb hd rfl hl (x_blt h1.2) rfl (fun ls' h' => k ls' ⟨_, h', xLo_f1 h2 ⟨x, hw2, rfl⟩⟩)
    · cases h3
  · obtain ⟨h1, h3⟩ := x_bifO hv
    rw [Bool.and_eq_true] at h1
    have e1 := Nat.eq_of_beq_eq_true h1.1
    subst e1
    split at h3
    · cases h3
      obtain ⟨x, hw2, rfl⟩ := hw
      exact lv_astore hx hb hd hl (x_blt h1.2) rfl (fun ls' h' => k ls' ⟨_, h', xLo_f1 h2 ⟨x, hw2, rfl⟩⟩)
    · cases h3
  · obtain ⟨h1, h3⟩ := x_bifO hv
    rw [Bool.and_eq_true] at h1
    have e1 := Nat.eq_of_beq_eq_true h1.1
    subst e1
    split at h3
    · cases h3
      obtain ⟨x, rfl, hw2⟩ := hw
      exact lv_lstore_n hx hb hd rfl hl (x_blt h1.2) rfl (fun ls' h' => k ls' ⟨_, h', xLo_f2 h2 ⟨x, rfl, hw2⟩⟩)
    · cases h3
  · obtain ⟨h1, h3⟩ := x_bifO hv
    rw [Bool.and_eq_true] at h1
    have e1 := Nat.eq_of_beq_eq_true h1.1
    subst e1
    split at h3
    · cases h3
      obtain ⟨x, rfl, hw2⟩ := hw
      exact lv_lstore hx hb hd hl (x_blt h1.2) rfl (fun ls' h' => k ls' ⟨_, h', xLo_f2 h2 ⟨x, rfl, hw2⟩⟩)
    · cases h3
  · cases hv
def xIinc (j : Nat) (n : Int) (nL : Nat) (σ : List xB) (loc : List (Nat × xV)) : Option (List xB × List (Nat × xV)) := bif Nat.blt j nL && (xle (-32768) n && xle n 32767) then (match xget loc j with
  | some (.inl a) => (match xadd (-2147483648) 2147483647 σ a (none, n) with
    | some r => some (r.2, xsto1 loc j (.inl r.1))
    | none => none)
  | _ => none) else none
theorem xIinc_ok {j : Nat} {n : Int} {σ' : List xB} {loc' : List (Nat × xV)} (hv : xIinc j n nL σ loc = some (σ', loc')) (hx : p.tables.exec = Jvm.exec) (hb : c.code = cc) (hd : decode cc pc = .ok (.iinc j n, 3)) (hS : xSt ρ σ) (hL : xLo ρ ad ex nL loc ls)
    (k : ∀ ρ' ls', xX ρ ρ' → xSt ρ' σ' → xLo ρ' ad ex nL loc' ls' → W p l e R s m args below meth c H locs cells slots Q (F0 m (pc + 3) ls' rest)) : W p l e R s m args below meth c H locs cells slots Q (F0 m pc ls rest) := by
  unfold xIinc at hv
  obtain ⟨h1, h3⟩ := x_bifO hv
  obtain ⟨g1, g2, g3⟩ := x_and3 h1
  rw [xle_iff] at g2 g3
  split at h3
  · rename_i a hg
    split at h3
    · rename_i r hr
      cases h3
      obtain ⟨lv, hl, h2⟩ := hL
      obtain ⟨q, hq⟩ := xget_mem hg
      obtain ⟨t, ht, ht1, x, ht2, ht3⟩ := h2.get hq
      obtain ⟨tj, tw⟩ := t
      dsimp only at ht1 ht2
      subst ht1; subst ht2
      have hn : (Int32.ofInt n).toInt = n := x_of32 (by omega) (by omega)
      obtain ⟨ρ', hX, hS', hE⟩ := xadd_ok (w := (x + Int32.ofInt n).toInt) hr hS ht3 (show xe ρ (none, n) = some n from rfl) (x_b32 _) (fun e1 e2 => by
        rw [x_add32 (by rw [hn]; omega) (by rw [hn]; omega), hn])
      refine lv_iinc (k := q) hx hb hd hl ht rfl (x_blt g1) rfl (fun ls' h' => k ρ' ls' hX hS' ⟨_, h', ?_⟩)
      exact xLo_f1 (h2.mono (fun q r hq => ⟨hq.1, xv.mono hX (xX.rf ad) _ _ hq.2⟩)) ⟨_, rfl, hE⟩
    · cases h3
  · cases h3
/-- two ints -/
def xBinI (i : Instr) (σ : List xB) (a b : xI) : xR := match i with
  | .iadd => xadd (-2147483648) 2147483647 σ a b
  | .isub => xsub (-2147483648) 2147483647 σ a b
  | .imul => xop2 (xmulB (-2147483648) 2147483647) σ a b
  | .iand => xop2 (xandB (-2147483648) 2147483647) σ a b
  | .ior => xop2 (fun _ _ => (-2147483648, 2147483647)) σ a b
  | .ixor => xop2 (fun _ _ => (-2147483648, 2147483647)) σ a b
  | .ishl => xop2 (fun _ _ => (-2147483648, 2147483647)) σ a b
  | .ishr => xop2 (fun r _ => xnearB r) σ a b
  | .idiv => (match xrg σ b with
    | some rb => bif xle 1 rb.1 then xop2 (fun r _ => xnearB r) σ a b else none
    | none => none)
  | .irem => (match xrg σ b with
    | some rb => bif xle 1 rb.1 then xop2 xremB σ a b else none
    | none => none)
  | _ => none
theorem x_pos32 {rb : xB} {b : xI} {y : Int32} (hS : xSt ρ σ) (hy : xe ρ b = some y.toInt) (hr : xrg σ b = some rb) (h : xle 1 rb.1 = true) : 0 < y.toInt := by
  have := xrg_ok hS hy hr
  have := xle_iff.mp h
  omega
theorem x_pos64 {rb : xB} {b : xI} {y : Int64} (hS : xSt ρ σ) (hy : xe ρ b = some y.toInt) (hr : xrg σ b = some rb) (h : xle 1 rb.1 = true) : 0 < y.toInt := by
  have := xrg_ok hS hy hr
  have := xle_iff.mp h
  omega
theorem xBinI_ok {a b : xI} {r : xI × List xB} {x y : Int32} (hv : xBinI i σ a b = some r) (hlen : len = 1) (hx : p.tables.exec = Jvm.exec) (hb : c.code = cc) (hd : decode cc pc = .ok (i, len)) (hS : xSt ρ σ) (ha : xe ρ a = some x.toInt) (hb2 : xe ρ b = some y.toInt)
    (k : ∀ (z : Int32) ρ', xX ρ ρ' → xSt ρ' r.2 → xe ρ' r.1 = some z.toInt → W p l e R s m args below meth c H locs cells slots Q (F0 m (pc + len) ls (.int z :: rest))) : W p l e R s m args below meth c H locs cells slots Q (F0 m pc ls (.int y :: .int x :: rest)) := by
  subst hlen
  unfold xBinI at hv
  split at hv
  · obtain ⟨ρ', h1, h2, h3⟩ := xadd_ok (w := (x + y).toInt) hv hS ha hb2 (x_b32 _) (fun e1 e2 => x_add32 e1 e2)
    exact lv_iadd hx hb hd (k _ ρ' h1 h2 h3)
  · obtain ⟨ρ', h1, h2, h3⟩ := xsub_ok (w := (x - y).toInt) hv hS ha hb2 (x_b32 _) (fun e1 e2 => x_sub32 e1 e2)
    exact lv_isub hx hb hd (k _ ρ' h1 h2 h3)
  · obtain ⟨ρ', h1, h2, h3⟩ := xop2_ok (w := (x * y).toInt) hv hS ha hb2 (fun ra rb _ g1 g2 => xmulB_ok g1 g2 (x_b32 _) (fun e1 e2 => x_mul32 e1 e2))
    exact lv_imul hx hb hd (k _ ρ' h1 h2 h3)
  · obtain ⟨ρ', h1, h2, h3⟩ := xop2_ok (w := (x &&& y).toInt) hv hS ha hb2 (fun ra rb _ g1 g2 => xandB_ok g1 g2 (x_b32 _) (fun e1 => by rw [x_and32c]; exact x_and32 e1) (fun e1 => x_and32 e1))
    exact lv_iand hx hb hd (k _ ρ' h1 h2 h3)
  · obtain ⟨ρ', h1, h2, h3⟩ := xop2_ok (w := (x ||| y).toInt) hv hS ha hb2 (fun ra rb _ g1 g2 => x_b32 _)
    exact lv_ior hx hb hd (k _ ρ' h1 h2 h3)
  · obtain ⟨ρ', h1, h2, h3⟩ := xop2_ok (w := (x ^^^ y).toInt) hv hS ha hb2 (fun ra rb _ g1 g2 => x_b32 _)
    exact lv_ixor hx hb hd (k _ ρ' h1 h2 h3)
  · obtain ⟨ρ', h1, h2, h3⟩ := xop2_ok (w := (x <<< (y &&& 31)).toInt) hv hS ha hb2 (fun ra rb _ g1 g2 => x_b32 _)
    exact lv_ishl hx hb hd (k _ ρ' h1 h2 h3)
  · obtain ⟨ρ', h1, h2, h3⟩ := xop2_ok (w := (x >>> (y &&& 31)).toInt) hv hS ha hb2 (fun ra rb _ g1 g2 => xnearB_ok g1 (x_shr32 _ _).1 (x_shr32 _ _).2)
    exact lv_ishr hx hb hd (k _ ρ' h1 h2 h3)
  · split at hv
    · rename_i rb hrb
      obtain ⟨g, hv⟩ := x_bifO hv
      have hp := x_pos32 hS hb2 hrb g
      obtain ⟨ρ', h1, h2, h3⟩ := xop2_ok (w := (x / y).toInt) hv hS ha hb2 (fun ra rb _ g1 g2 => by
        rw [x_div32 hp]
        exact xnearB_ok g1 (x_tdiv hp).1 (x_tdiv hp).2)
      exact lv_idiv hx hb hd (fun q => by rw [q] at hp; exact absurd hp (by decide)) (k _ ρ' h1 h2 h3)
    · cases hv
  · split at hv
    · rename_i rb hrb
      obtain ⟨g, hv⟩ := x_bifO hv
      have hp := x_pos32 hS hb2 hrb g
      obtain ⟨ρ', h1, h2, h3⟩ := xop2_ok (w := (x - x / y * y).toInt) hv hS ha hb2 (fun ra rb _ g1 g2 => by
        rw [x_rem32 hp]
        exact xremB_ok g1 g2 hp)
      exact lv_irem hx hb hd (fun q => by rw [q] at hp; exact absurd hp (by decide)) (k _ ρ' h1 h2 h3)
    · cases hv
  · cases hv
/-- two longs -/
def xBinL (i : Instr) (σ : List xB) (a b : xI) : xR := match i with
  | .ladd => xadd (-9223372036854775808) 9223372036854775807 σ a b
  | .lsub => xsub (-9223372036854775808) 9223372036854775807 σ a b
  | .lmul => xop2 (xmulB (-9223372036854775808) 9223372036854775807) σ a b
  | .land => xop2 (xandB (-9223372036854775808) 9223372036854775807) σ a b
  | .lor => xop2 (fun _ _ => (-9223372036854775808, 9223372036854775807)) σ a b
  | .lxor => xop2 (fun _ _ => (-9223372036854775808, 9223372036854775807)) σ a b
  | .ldiv => (match xrg σ b with
    | some rb => bif xle 1 rb.1 then xop2 (fun r _ => xnearB r) σ a b else none
    | none => none)
  | .lrem => (match xrg σ b with
    | some rb => bif xle 1 rb.1 then xop2 xremB σ a b else none
    | none => none)
  | _ => none
theorem xBinL_ok {a b : xI} {r : xI × List xB} {x y : Int64} (hv : xBinL i σ a b = some r) (hlen : len = 1) (hx : p.tables.exec = Jvm.exec) (hb : c.code = cc) (hd : decode cc pc = .ok (i, len)) (hS : xSt ρ σ) (ha : xe ρ a = some x.toInt) (hb2 : xe ρ b = some y.toInt)
    (k : ∀ (z : Int64) ρ', xX ρ ρ' → xSt ρ' r.2 → xe ρ' r.1 = some z.toInt → W p l e R s m args below meth c H locs cells slots Q (F0 m (pc + len) ls (.long z :: rest))) : W p l e R s m args below meth c H locs cells slots Q (F0 m pc ls (.long y :: .long x :: rest)) := by
  subst hlen
  unfold xBinL at hv
  split at hv
  · obtain ⟨ρ', h1, h2, h3⟩ := xadd_ok (w := (x + y).toInt) hv hS ha hb2 (x_b64 _) (fun e1 e2 => x_add64 e1 e2)
    exact lv_ladd hx hb hd (k _ ρ' h1 h2 h3)
  · obtain ⟨ρ', h1, h2, h3⟩ := xsub_ok (w := (x - y).toInt) hv hS ha hb2 (x_b64 _) (fun e1 e2 => x_sub64 e1 e2)
    exact lv_lsub hx hb hd (k _ ρ' h1 h2 h3)
  · obtain ⟨ρ', h1, h2, h3⟩ := xop2_ok (w := (x * y).toInt) hv hS ha hb2 (fun ra rb _ g1 g2 => xmulB_ok g1 g2 (x_b64 _) (fun e1 e2 => x_mul64 e1 e2))
    exact lv_lmul hx hb hd (k _ ρ' h1 h2 h3)
  · obtain ⟨ρ', h1, h2, h3⟩ := xop2_ok (w := (x &&& y).toInt) hv hS ha hb2 (fun ra rb _ g1 g2 => xandB_ok g1 g2 (x_b64 _) (fun e1 => by rw [x_and64c]; exact x_and64 e1) (fun e1 => x_and64 e1))
    exact lv_land hx hb hd (k _ ρ' h1 h2 h3)
  · obtain ⟨ρ', h1, h2, h3⟩ := xop2_ok (w := (x ||| y).toInt) hv hS ha hb2 (fun ra rb _ g1 g2 => x_b64 _)
    exact lv_lor hx hb hd (k _ ρ' h1 h2 h3)
  · obtain ⟨ρ', h1, h2, h3⟩ := xop2_ok (w := (x ^^^ y).toInt) hv hS ha hb2 (fun ra rb _ g1 g2 => x_b64 _)
    exact lv_lxor hx hb hd (k _ ρ' h1 h2 h3)
  · split at hv
    · rename_i rb hrb
      obtain ⟨g, hv⟩ := x_bifO hv
      have hp := x_pos64 hS hb2 hrb g
      obtain ⟨ρ', h1, h2, h3⟩ := xop2_ok (w := (x / y).toInt) hv hS ha hb2 (fun ra rb _ g1 g2 => by
        rw [x_div64 hp]
        exact xnearB_ok g1 (x_tdiv hp).1 (x_tdiv hp).2)
      exact lv_ldiv hx hb hd (fun q => by rw [q] at hp; exact absurd hp (by decide)) (k _ ρ' h1 h2 h3)
    · cases hv
  · split at hv
    · rename_i rb hrb
      obtain ⟨g, hv⟩ := x_bifO hv
      have hp := x_pos64 hS hb2 hrb g
      obtain ⟨ρ', h1, h2, h3⟩ := xop2_ok (w := (x - x / y * y).toInt) hv hS ha hb2 (fun ra rb _ g1 g2 => by
        rw [x_rem64 hp]
        exact xremB_ok g1 g2 hp)
      exact lv_lrem hx hb hd (fun q => by rw [q] at hp; exact absurd hp (by decide)) (k _ ρ' h1 h2 h3)
    · cases hv
  · cases hv
/-- a long and an int -/
def xShL (i : Instr) (σ : List xB) (a b : xI) : xR := match i with
  | .lshl => xop2 (fun _ _ => (-9223372036854775808, 9223372036854775807)) σ a b
  | .lshr => xop2 (fun r _ => xnearB r) σ a b
  | _ => none
theorem xShL_ok {a b : xI} {r : xI × List xB} {x : Int64} {y : Int32} (hv : xShL i σ a b = some r) (hlen : len = 1) (hx : p.tables.exec = Jvm.exec) (hb : c.code = cc) (hd : decode cc pc = .ok (i, len)) (hS : xSt ρ σ) (ha : xe ρ a = some x.toInt) (hb2 : xe ρ b = some y.toInt)
    (k : ∀ (z : Int64) ρ', xX ρ ρ' → xSt ρ' r.2 → xe ρ' r.1 = some z.toInt → W p l e R s m args below meth c H locs cells slots Q (F0 m (pc + len) ls (.long z :: rest))) : W p l e R s m args below meth c H locs cells slots Q (F0 m pc ls (.int y :: .long x :: rest)) := by
  subst hlen
  unfold xShL at hv
  split at hv
  · obtain ⟨ρ', h1, h2, h3⟩ := xop2_ok (w := (x <<< (y.toInt64 &&& 63)).toInt) hv hS ha hb2 (fun ra rb _ g1 g2 => x_b64 _)
    exact lv_lshl hx hb hd rfl (k _ ρ' h1 h2 h3)
  · obtain ⟨ρ', h1, h2, h3⟩ := xop2_ok (w := (x >>> (y.toInt64 &&& 63)).toInt) hv hS ha hb2 (fun ra rb _ g1 g2 => xnearB_ok g1 (x_shr64 _ _).1 (x_shr64 _ _).2)
    exact lv_lshr hx hb hd rfl (k _ ρ' h1 h2 h3)
  · cases hv
/-- one int -/
def xUnI (i : Instr) (σ : List xB) (a : xI) : Option (xV × List xB) := match i with
  | .i2l => some (.inr (.inl a), σ)
  | .i2b => (match xcut (-128) 127 σ a with
    | some r => some (.inl r.1, r.2)
    | none => none)
  | .i2s => (match xcut (-32768) 32767 σ a with
    | some r => some (.inl r.1, r.2)
    | none => none)
  | _ => none
theorem xUnI_ok {a : xI} {r : xV × List xB} {x : Int32} (hv : xUnI i σ a = some r) (hlen : len = 1) (hx : p.tables.exec = Jvm.exec) (hb : c.code = cc) (hd : decode cc pc = .ok (i, len)) (hS : xSt ρ σ) (ha : xe ρ a = some x.toInt)
    (k : ∀ (w : Value) ρ', xX ρ ρ' → xSt ρ' r.2 → xv ρ' ad ex r.1 w → W p l e R s m args below meth c H locs cells slots Q (F0 m (pc + len) ls (w :: rest))) : W p l e R s m args below meth c H locs cells slots Q (F0 m pc ls (.int x :: rest)) := by
  subst hlen
  unfold xUnI at hv
  split at hv
  · cases hv
    exact lv_i2l hx hb hd rfl (k _ ρ (xX.rf ρ) hS ⟨_, rfl, by rw [Int32.toInt_toInt64]; exact ha⟩)
  · split at hv
    · rename_i q hq
      cases hv
      have hw : -128 ≤ x.toInt8.toInt32.toInt ∧ x.toInt8.toInt32.toInt ≤ 127 := by
        rw [Int8.toInt_toInt32]
        have h1 := x.toInt8.le_toInt
        have h2 := x.toInt8.toInt_lt
        constructor <;> omega
      obtain ⟨ρ', h1, h2, h3⟩ := xcut_ok (w := x.toInt8.toInt32.toInt) hq hS ha hw (fun e1 e2 => by
        rw [Int8.toInt_toInt32, Int32.toInt_toInt8]
        rw [Int.bmod_eq_of_le (by omega) (by omega)])
      exact lv_i2b hx hb hd rfl (k _ ρ' h1 h2 ⟨_, rfl, h3⟩)
    · cases hv
  · split at hv
    · rename_i q hq
      cases hv
      have hw : -32768 ≤ x.toInt16.toInt32.toInt ∧ x.toInt16.toInt32.toInt ≤ 32767 := by
        rw [Int16.toInt_toInt32]
        have h1 := x.toInt16.le_toInt
        have h2 := x.toInt16.toInt_lt
        constructor <;> omega
      obtain ⟨ρ', h1, h2, h3⟩ := xcut_ok (w := x.toInt16.toInt32.toInt) hq hS ha hw (fun e1 e2 => by
        rw [Int16.toInt_toInt32, Int32.toInt_toInt16]
        rw [Int.bmod_eq_of_le (by omega) (by omega)])
      exact lv_i2s hx hb hd rfl (k _ ρ' h1 h2 ⟨_, rfl, h3⟩)
    · cases hv
  · cases hv
theorem xL2i_ok {a : xI} {r : xI × List xB} {x : Int64} (hv : xcut (-2147483648) 2147483647 σ a = some r) (hx : p.tables.exec = Jvm.exec) (hb : c.code = cc) (hd : decode cc pc = .ok (.l2i, 1)) (hS : xSt ρ σ) (ha : xe ρ a = some x.toInt)
    (k : ∀ (z : Int32) ρ', xX ρ ρ' → xSt ρ' r.2 → xe ρ' r.1 = some z.toInt → W p l e R s m args below meth c H locs cells slots Q (F0 m (pc + 1) ls (.int z :: rest))) : W p l e R s m args below meth c H locs cells slots Q (F0 m pc ls (.long x :: rest)) := by
  obtain ⟨ρ', h1, h2, h3⟩ := xcut_ok (w := x.toInt32.toInt) hv hS ha (x_b32 _) (fun e1 e2 => by
    rw [Int64.toInt_toInt32]
    rw [Int.bmod_eq_of_le (by omega) (by omega)])
  exact lv_l2i hx hb hd rfl (k _ ρ' h1 h2 h3)
/-- the stack alone -/
def xStk (i : Instr) (stk : List xV) : Option (List xV) := match i with
  | .dup => (match stk with
    | v :: t => bif Nat.beq (xcat v) 1 then some (v :: v :: t) else none
    | _ => none)
  | .pop => (match stk with
    | v :: t => bif Nat.beq (xcat v) 1 then some t else none
    | _ => none)
  | .pop2 => (match stk with
    | v :: t => bif Nat.beq (xcat v) 2 then some t else none
    | _ => none)
  | .dup2 => (match stk with
    | v :: u :: t => bif Nat.beq (xcat v) 1 && Nat.beq (xcat u) 1 then some (v :: u :: v :: u :: t) else none
    | _ => none)
  | .dup_x1 => (match stk with
    | v :: u :: t => bif Nat.beq (xcat v) 1 && Nat.beq (xcat u) 1 then some (v :: u :: v :: t) else none
    | _ => none)
  | _ => none
theorem xStk_ok {stk stk' : List xV} (hv : xStk i stk = some stk') (hlen : len = 1) (hx : p.tables.exec = Jvm.exec) (hb : c.code = cc) (hd : decode cc pc = .ok (i, len)) (hst : xAll2 (xv ρ ad ex) stk st)
    (k : ∀ st', xAll2 (xv ρ ad ex) stk' st' → W p l e R s m args below meth c H locs cells slots Q (F0 m (pc + len) ls st')) : W p l e R s m args below meth c H locs cells slots Q (F0 m pc ls st) := by
  subst hlen
  unfold xStk at hv
  split at hv
  · split at hv
    · obtain ⟨h1, h2⟩ := x_bif hv
      subst h2
      obtain ⟨w, t, rfl, q1, q2⟩ := hst.cons
      exact lv_dup hx hb hd (by rw [q1.cat]; exact Nat.eq_of_beq_eq_true h1) (k _ ⟨q1, q1, q2⟩)
    · cases hv
  · split at hv
    · obtain ⟨h1, h2⟩ := x_bif hv
      subst h2
      obtain ⟨w, t, rfl, q1, q2⟩ := hst.cons
      exact lv_pop hx hb hd (by rw [q1.cat]; exact Nat.eq_of_beq_eq_true h1) (k _ q2)
    · cases hv
  · split at hv
    · obtain ⟨h1, h2⟩ := x_bif hv
      subst h2
      obtain ⟨w, t, rfl, q1, q2⟩ := hst.cons
      exact lv_pop2_2 hx hb hd (by rw [q1.cat]; exact Nat.eq_of_beq_eq_true h1) (k _ q2)
    · cases hv
  · split at hv
    · obtain ⟨h1, h2⟩ := x_bif hv
      subst h2
      rw [Bool.and_eq_true] at h1
      obtain ⟨w, t, rfl, q1, q2⟩ := hst.cons
      obtain ⟨w2, t2, rfl, q3, q4⟩ := q2.cons
      exact lv_dup2_11 hx hb hd (by rw [q1.cat]; exact Nat.eq_of_beq_eq_true h1.1) (by rw [q3.cat]; exact Nat.eq_of_beq_eq_true h1.2) (k _ ⟨q1, q3, q1, q3, q4⟩)
    · cases hv
  · split at hv
    · obtain ⟨h1, h2⟩ := x_bif hv
      subst h2
      rw [Bool.and_eq_true] at h1
      obtain ⟨w, t, rfl, q1, q2⟩ := hst.cons
      obtain ⟨w2, t2, rfl, q3, q4⟩ := q2.cons
      exact lv_dup_x1 hx hb hd (by rw [q1.cat]; exact Nat.eq_of_beq_eq_true h1.1) (by rw [q3.cat]; exact Nat.eq_of_beq_eq_true h1.2) (k _ ⟨q1, q3, q1, q4⟩)
    · cases hv
  · cases hv
end XO
end
section
/-! Branches: what a condition says of the bounds. -/
def xltR (σ : List xB) (a b : xI) : List (List xB) := match xrg σ a with
  | none => [σ]
  | some ra => match xrg σ b with
    | none => [σ]
    | some rb => bif xle ra.1 (xmin ra.2 (rb.2 - 1)) && xle (xmax rb.1 (ra.1 + 1)) rb.2 then [xput (xput σ a ra.1 (xmin ra.2 (rb.2 - 1))) b (xmax rb.1 (ra.1 + 1)) rb.2] else []
theorem xltR_ok {ρ : List Int} {σ : List xB} {a b : xI} {z1 z2 : Int} (hS : xSt ρ σ) (h1 : xe ρ a = some z1) (h2 : xe ρ b = some z2) (h : z1 < z2) : ∃ τ ∈ xltR σ a b, xSt ρ τ := by
  unfold xltR
  cases ha : xrg σ a with
  | none => exact ⟨σ, List.mem_singleton.mpr rfl, hS⟩
  | some ra =>
    cases hb : xrg σ b with
    | none => exact ⟨σ, List.mem_singleton.mpr rfl, hS⟩
    | some rb =>
      have q1 := xrg_ok hS h1 ha
      have q2 := xrg_ok hS h2 hb
      have m1 : z1 ≤ xmin ra.2 (rb.2 - 1) := xmin_le1 (by omega) (by omega)
      have m2 : xmax rb.1 (ra.1 + 1) ≤ z2 := xmax_le1 (by omega) (by omega)
      dsimp only
      rw [xle_iff.mpr (show ra.1 ≤ xmin ra.2 (rb.2 - 1) by omega), xle_iff.mpr (show xmax rb.1 (ra.1 + 1) ≤ rb.2 by omega)]
      exact ⟨_, List.mem_singleton.mpr rfl, xput_ok (xput_ok hS h1 q1.1 m1) h2 m2 q2.2⟩
def xleR (σ : List xB) (a b : xI) : List (List xB) := match xrg σ a with
  | none => [σ]
  | some ra => match xrg σ b with
    | none => [σ]
    | some rb => bif xle ra.1 (xmin ra.2 rb.2) && xle (xmax rb.1 ra.1) rb.2 then [xput (xput σ a ra.1 (xmin ra.2 rb.2)) b (xmax rb.1 ra.1) rb.2] else []
theorem xleR_ok {ρ : List Int} {σ : List xB} {a b : xI} {z1 z2 : Int} (hS : xSt ρ σ) (h1 : xe ρ a = some z1) (h2 : xe ρ b = some z2) (h : z1 ≤ z2) : ∃ τ ∈ xleR σ a b, xSt ρ τ := by
  unfold xleR
  cases ha : xrg σ a with
  | none => exact ⟨σ, List.mem_singleton.mpr rfl, hS⟩
  | some ra =>
    cases hb : xrg σ b with
    | none => exact ⟨σ, List.mem_singleton.mpr rfl, hS⟩
    | some rb =>
      have q1 := xrg_ok hS h1 ha
      have q2 := xrg_ok hS h2 hb
      have m1 : z1 ≤ xmin ra.2 rb.2 := xmin_le1 (by omega) (by omega)
      have m2 : xmax rb.1 ra.1 ≤ z2 := xmax_le1 (by omega) (by omega)
      dsimp only
      rw [xle_iff.mpr (show ra.1 ≤ xmin ra.2 rb.2 by omega), xle_iff.mpr (show xmax rb.1 ra.1 ≤ rb.2 by omega)]
      exact ⟨_, List.mem_singleton.mpr rfl, xput_ok (xput_ok hS h1 q1.1 m1) h2 m2 q2.2⟩
def xeqR (σ : List xB) (a b : xI) : List (List xB) := match xrg σ a with
  | none => [σ]
  | some ra => match xrg σ b with
    | none => [σ]
    | some rb => bif xle (xmax ra.1 rb.1) (xmin ra.2 rb.2) then [xput (xput σ a (xmax ra.1 rb.1) (xmin ra.2 rb.2)) b (xmax ra.1 rb.1) (xmin ra.2 rb.2)] else []
theorem xeqR_ok {ρ : List Int} {σ : List xB} {a b : xI} {z1 z2 : Int} (hS : xSt ρ σ) (h1 : xe ρ a = some z1) (h2 : xe ρ b = some z2) (h : z1 = z2) : ∃ τ ∈ xeqR σ a b, xSt ρ τ := by
  unfold xeqR
  cases ha : xrg σ a with
  | none => exact ⟨σ, List.mem_singleton.mpr rfl, hS⟩
  | some ra =>
    cases hb : xrg σ b with
    | none => exact ⟨σ, List.mem_singleton.mpr rfl, hS⟩
    | some rb =>
      have q1 := xrg_ok hS h1 ha
      have q2 := xrg_ok hS h2 hb
      have m1 : z1 ≤ xmin ra.2 rb.2 := xmin_le1 (by omega) (by omega)
      have m2 : xmax ra.1 rb.1 ≤ z1 := xmax_le1 (by omega) (by omega)
      dsimp only
      rw [xle_iff.mpr (show xmax ra.1 rb.1 ≤ xmin ra.2 rb.2 by omega)]
      exact ⟨_, List.mem_singleton.mpr rfl, xput_ok (xput_ok hS h1 m2 m1) h2 (by omega) (by omega)⟩
/-- a number isn't a constant c: its bounds without c at their ends -/
def xneC (σ : List xB) (a : xI) (ra : xB) (c : Int) : List (List xB) :=
  bif xeq ra.1 c then (bif xle (c + 1) ra.2 then [xput σ a (c + 1) ra.2] else []) else (bif xeq ra.2 c then (bif xle ra.1 (c - 1) then [xput σ a ra.1 (c - 1)] else []) else [σ])
theorem xneC_ok {ρ : List Int} {σ : List xB} {a : xI} {ra : xB} {c z : Int} (hS : xSt ρ σ) (h1 : xe ρ a = some z) (hr : ra.1 ≤ z ∧ z ≤ ra.2) (h : ¬ z = c) : ∃ τ ∈ xneC σ a ra c, xSt ρ τ := by
  unfold xneC
  cases e1 : xeq ra.1 c
  · cases e2 : xeq ra.2 c
    · exact ⟨σ, List.mem_singleton.mpr rfl, hS⟩
    · have e2 := xeq_iff.mp e2
      simp only [cond_true, cond_false]
      rw [xle_iff.mpr (show ra.1 ≤ c - 1 by omega)]
      exact ⟨_, List.mem_singleton.mpr rfl, xput_ok hS h1 hr.1 (by omega)⟩
  · have e1 := xeq_iff.mp e1
    simp only [cond_true]
    rw [xle_iff.mpr (show c + 1 ≤ ra.2 by omega)]
    exact ⟨_, List.mem_singleton.mpr rfl, xput_ok hS h1 (by omega) hr.2⟩
def xneR (σ : List xB) (a b : xI) : List (List xB) := match xrg σ a with
  | none => [σ]
  | some ra => match xrg σ b with
    | none => [σ]
    | some rb => bif xeq rb.1 rb.2 then xneC σ a ra rb.1 else (bif xeq ra.1 ra.2 then xneC σ b rb ra.1 else [σ])
theorem xneR_ok {ρ : List Int} {σ : List xB} {a b : xI} {z1 z2 : Int} (hS : xSt ρ σ) (h1 : xe ρ a = some z1) (h2 : xe ρ b = some z2) (h : ¬ z1 = z2) : ∃ τ ∈ xneR σ a b, xSt ρ τ := by
  unfold xneR
  cases ha : xrg σ a with
  | none => exact ⟨σ, List.mem_singleton.mpr rfl, hS⟩
  | some ra =>
    cases hb : xrg σ b with
    | none => exact ⟨σ, List.mem_singleton.mpr rfl, hS⟩
    | some rb =>
      have q1 := xrg_ok hS h1 ha
      have q2 := xrg_ok hS h2 hb
      dsimp only
      cases e1 : xeq rb.1 rb.2
      · cases e2 : xeq ra.1 ra.2
        · exact ⟨σ, List.mem_singleton.mpr rfl, hS⟩
        · have e2 := xeq_iff.mp e2
          exact xneC_ok hS h2 q2 (by omega)
      · have e1 := xeq_iff.mp e1
        exact xneC_ok hS h1 q1 (by omega)
/-- taken, and not taken -/
def xIf (c : Jvm.ClassFile.Cond) (σ : List xB) (a b : xI) : List (List xB) × List (List xB) := match c with
  | .eq => (xeqR σ a b, xneR σ a b)
  | .ne => (xneR σ a b, xeqR σ a b)
  | .lt => (xltR σ a b, xleR σ b a)
  | .ge => (xleR σ b a, xltR σ a b)
  | .gt => (xltR σ b a, xleR σ a b)
  | .le => (xleR σ a b, xltR σ b a)
/-- a jump's aim -/
def xtg (pc : Nat) (off : Int) : Option Nat := match Int.ofNat pc + off with
  | .ofNat t => some t
  | .negSucc _ => none
theorem xtg_ok {pc : Nat} {off : Int} {t : Nat} (h : xtg pc off = some t) : (pc : Int) + off = (t : Int) := by
  unfold xtg at h
  split at h
  · rename_i q hq
    cases h
    exact hq
  · cases h
/-- the roads on from a condition: where to, and the bounds there -/
def xCond (c : Jvm.ClassFile.Cond) (σ : List xB) (a b : xI) (pc : Nat) (off : Int) : Option (List (Nat × List xB)) := match xtg pc off with
  | none => none
  | some t => some ((xIf c σ a b).1.map (fun τ => (t, τ)) ++ (xIf c σ a b).2.map (fun τ => (pc + 3, τ)))
section XB
variable {p : Program} {l : Launch} {e : Env} {R : Room} {s : State} {m : MethodId} {args : Array Value} {below : List Frame} {meth : Method} {c : Code} {H : Heap} {locs : List Loc} {cells slots : Nat} {Q : State → Prop} {cc : ByteArray} {pc : Nat} {ls : Array Slot} {st rest : List Value} {ρ : List Int} {ad ex : List Nat} {nL : Nat} {loc : List (Nat × xV)} {σ : List xB} {len : Nat} {i : Instr}
theorem xIf_split {cd : Jvm.ClassFile.Cond} {a b : xI} {off : Int} {L : List (Nat × List xB)} {t : Nat} (ht : xtg pc off = some t) (hv : xCond cd σ a b pc off = some L) :
    (∀ τ ∈ (xIf cd σ a b).1, (t, τ) ∈ L) ∧ (∀ τ ∈ (xIf cd σ a b).2, (pc + 3, τ) ∈ L) := by
  unfold xCond at hv
  rw [ht] at hv
  cases hv
  exact ⟨fun τ h => List.mem_append_left _ (List.mem_map.mpr ⟨τ, h, rfl⟩), fun τ h => List.mem_append_right _ (List.mem_map.mpr ⟨τ, h, rfl⟩)⟩
theorem xIcmp_ok {cd : Jvm.ClassFile.Cond} {a b : xI} {x y : Int32} {off : Int} {L : List (Nat × List xB)} (hv : xCond cd σ a b pc off = some L) (hx : p.tables.exec = Jvm.exec) (hb : c.code = cc) (hd : decode cc pc = .ok (.if_icmp cd off, 3)) (hS : xSt ρ σ) (ha : xe ρ a = some x.toInt) (hb2 : xe ρ b = some y.toInt)
    (k : ∀ q ∈ L, xSt ρ q.2 → W p l e R s m args below meth c H locs cells slots Q (F0 m q.1 ls rest)) : W p l e R s m args below meth c H locs cells slots Q (F0 m pc ls (.int y :: .int x :: rest)) := by
  cases ht : xtg pc off with
  | none => unfold xCond at hv; rw [ht] at hv; cases hv
  | some t =>
    obtain ⟨k1, k2⟩ := xIf_split ht hv
    have hT := xtg_ok ht
    have go1 : ∀ {P : Prop}, (P → ∃ τ ∈ (xIf cd σ a b).1, xSt ρ τ) → P → W p l e R s m args below meth c H locs cells slots Q (F0 m t ls rest) := fun f h => by
      obtain ⟨τ, g1, g2⟩ := f h
      exact k _ (k1 τ g1) g2
    have go2 : ∀ {P : Prop}, (P → ∃ τ ∈ (xIf cd σ a b).2, xSt ρ τ) → P → W p l e R s m args below meth c H locs cells slots Q (F0 m (pc + 3) ls rest) := fun f h => by
      obtain ⟨τ, g1, g2⟩ := f h
      exact k _ (k2 τ g1) g2
    cases cd with
    | eq => exact lv_icmp_eq hx hb hd hT (go1 fun h => xeqR_ok hS ha hb2 (by rw [h])) (go2 fun h => xneR_ok hS ha hb2 (fun q => h (Int32.toInt_inj.mp q)))
    | ne => exact lv_icmp_ne hx hb hd hT (go1 fun h => xneR_ok hS ha hb2 (fun q => h (Int32.toInt_inj.mp q))) (go2 fun h => xeqR_ok hS ha hb2 (by rw [h]))
    | lt => exact lv_icmp_lt hx hb hd hT (go1 fun h => xltR_ok hS ha hb2 (Int32.lt_iff_toInt_lt.mp h)) (go2 fun h => xleR_ok hS hb2 ha (by rw [Int32.lt_iff_toInt_lt] at h; omega))
    | ge => exact lv_icmp_ge hx hb hd hT (go1 fun h => xleR_ok hS hb2 ha (Int32.le_iff_toInt_le.mp h)) (go2 fun h => xltR_ok hS ha hb2 (by rw [Int32.le_iff_toInt_le] at h; omega))
    | gt => exact lv_icmp_gt hx hb hd hT (go1 fun h => xltR_ok hS hb2 ha (Int32.lt_iff_toInt_lt.mp h)) (go2 fun h => xleR_ok hS ha hb2 (by rw [Int32.lt_iff_toInt_lt] at h; omega))
    | le => exact lv_icmp_le hx hb hd hT (go1 fun h => xleR_ok hS ha hb2 (Int32.le_iff_toInt_le.mp h)) (go2 fun h => xltR_ok hS hb2 ha (by rw [Int32.le_iff_toInt_le] at h; omega))
theorem xIfc_ok {cd : Jvm.ClassFile.Cond} {a : xI} {x : Int32} {off : Int} {L : List (Nat × List xB)} (hv : xCond cd σ a (none, 0) pc off = some L) (hx : p.tables.exec = Jvm.exec) (hb : c.code = cc) (hd : decode cc pc = .ok (.ifCond cd off, 3)) (hS : xSt ρ σ) (ha : xe ρ a = some x.toInt)
    (k : ∀ q ∈ L, xSt ρ q.2 → W p l e R s m args below meth c H locs cells slots Q (F0 m q.1 ls rest)) : W p l e R s m args below meth c H locs cells slots Q (F0 m pc ls (.int x :: rest)) := by
  have hb2 : xe ρ (none, 0) = some (0 : Int32).toInt := rfl
  have z0 : (0 : Int32).toInt = 0 := rfl
  cases ht : xtg pc off with
  | none => unfold xCond at hv; rw [ht] at hv; cases hv
  | some t =>
    obtain ⟨k1, k2⟩ := xIf_split ht hv
    have hT := xtg_ok ht
    have go1 : ∀ {P : Prop}, (P → ∃ τ ∈ (xIf cd σ a (none, 0)).1, xSt ρ τ) → P → W p l e R s m args below meth c H locs cells slots Q (F0 m t ls rest) := fun f h => by
      obtain ⟨τ, g1, g2⟩ := f h
      exact k _ (k1 τ g1) g2
    have go2 : ∀ {P : Prop}, (P → ∃ τ ∈ (xIf cd σ a (none, 0)).2, xSt ρ τ) → P → W p l e R s m args below meth c H locs cells slots Q (F0 m (pc + 3) ls rest) := fun f h => by
      obtain ⟨τ, g1, g2⟩ := f h
      exact k _ (k2 τ g1) g2
    cases cd with
    | eq => exact lv_if_eq hx hb hd hT (go1 fun h => xeqR_ok hS ha hb2 (by rw [h])) (go2 fun h => xneR_ok hS ha hb2 (fun q => h (Int32.toInt_inj.mp q)))
    | ne => exact lv_if_ne hx hb hd hT (go1 fun h => xneR_ok hS ha hb2 (fun q => h (Int32.toInt_inj.mp q))) (go2 fun h => xeqR_ok hS ha hb2 (by rw [h]))
    | lt => exact lv_if_lt hx hb hd hT (go1 fun h => xltR_ok hS ha hb2 (Int32.lt_iff_toInt_lt.mp h)) (go2 fun h => xleR_ok hS hb2 ha (by rw [Int32.lt_iff_toInt_lt] at h; omega))
    | ge => exact lv_if_ge hx hb hd hT (go1 fun h => xleR_ok hS hb2 ha (Int32.le_iff_toInt_le.mp h)) (go2 fun h => xltR_ok hS ha hb2 (by rw [Int32.le_iff_toInt_le] at h; omega))
    | gt => exact lv_if_gt hx hb hd hT (go1 fun h => xltR_ok hS hb2 ha (Int32.lt_iff_toInt_lt.mp h)) (go2 fun h => xleR_ok hS ha hb2 (by rw [Int32.lt_iff_toInt_lt] at h; omega))
    | le => exact lv_if_le hx hb hd hT (go1 fun h => xleR_ok hS ha hb2 (Int32.le_iff_toInt_le.mp h)) (go2 fun h => xltR_ok hS hb2 ha (by rw [Int32.le_iff_toInt_le] at h; omega))
theorem x_lcmp (x y : Int64) : (lg_cmp x y = 1 ∧ y.toInt < x.toInt) ∨ (lg_cmp x y = 0 ∧ x.toInt = y.toInt) ∨ (lg_cmp x y = -1 ∧ x.toInt < y.toInt) := by
  unfold lg_cmp
  by_cases h : x > y
  · rw [if_pos h]
    exact Or.inl ⟨rfl, Int64.lt_iff_toInt_lt.mp h⟩
  · rw [if_neg h]
    by_cases h2 : x = y
    · rw [if_pos h2]
      exact Or.inr (Or.inl ⟨rfl, by rw [h2]⟩)
    · rw [if_neg h2]
      refine Or.inr (Or.inr ⟨rfl, ?_⟩)
      have h3 : ¬ y.toInt < x.toInt := fun q => h (Int64.lt_iff_toInt_lt.mpr q)
      have h4 : ¬ x.toInt = y.toInt := fun q => h2 (Int64.toInt_inj.mp q)
      omega
/-- a comparison of two longs, and the branch behind it -/
theorem xLcmp_ok {cd : Jvm.ClassFile.Cond} {a b : xI} {x y : Int64} {off : Int} {L : List (Nat × List xB)} (hv : xCond cd σ a b (pc + 1) off = some L) (hx : p.tables.exec = Jvm.exec) (hb : c.code = cc) (hd0 : decode cc pc = .ok (.lcmp, 1)) (hd : decode cc (pc + 1) = .ok (.ifCond cd off, 3)) (hS : xSt ρ σ) (ha : xe ρ a = some x.toInt) (hb2 : xe ρ b = some y.toInt)
    (k : ∀ q ∈ L, xSt ρ q.2 → W p l e R s m args below meth c H locs cells slots Q (F0 m q.1 ls rest)) : W p l e R s m args below meth c H locs cells slots Q (F0 m pc ls (.long y :: .long x :: rest)) := by
  refine W.lcmp hx hb hd0 ?_
  cases ht : xtg (pc + 1) off with
  | none => unfold xCond at hv; rw [ht] at hv; cases hv
  | some t =>
    obtain ⟨k1, k2⟩ := xIf_split ht hv
    have hT := xtg_ok ht
    have go1 : ∀ {P : Prop}, (P → ∃ τ ∈ (xIf cd σ a b).1, xSt ρ τ) → P → W p l e R s m args below meth c H locs cells slots Q (F0 m t ls rest) := fun f h => by
      obtain ⟨τ, g1, g2⟩ := f h
      exact k _ (k1 τ g1) g2
    have go2 : ∀ {P : Prop}, (P → ∃ τ ∈ (xIf cd σ a b).2, xSt ρ τ) → P → W p l e R s m args below meth c H locs cells slots Q (F0 m (pc + 1 + 3) ls rest) := fun f h => by
      obtain ⟨τ, g1, g2⟩ := f h
      exact k _ (k2 τ g1) g2
    have d1 : ¬ (1 : Int32) = 0 := by decide
    have d2 : ¬ (-1 : Int32) = 0 := by decide
    have d3 : ¬ (1 : Int32) < 0 := by decide
    have d4 : ¬ (0 : Int32) < 0 := by decide
    have d5 : (-1 : Int32) < 0 := by decide
    have d6 : (0 : Int32) ≤ 1 := by decide
    have d7 : (0 : Int32) ≤ 0 := by decide
    have d8 : ¬ (0 : Int32) ≤ -1 := by decide
    have d9 : (0 : Int32) < 1 := by decide
    have d10 : ¬ (0 : Int32) < -1 := by decide
    have d11 : ¬ (1 : Int32) ≤ 0 := by decide
    have d12 : (-1 : Int32) ≤ 0 := by decide
    rcases x_lcmp x y with ⟨e1, e2⟩ | ⟨e1, e2⟩ | ⟨e1, e2⟩ <;> rw [e1] <;> cases cd with
    | eq => first
      | exact lv_if_eq hx hb hd hT (go1 fun h => absurd h (by assumption)) (go2 fun h => xneR_ok hS ha hb2 (by omega))
      | exact lv_if_eq hx hb hd hT (go1 fun h => xeqR_ok hS ha hb2 (by omega)) (go2 fun h => absurd rfl h)
    | ne => first
      | exact lv_if_ne hx hb hd hT (go1 fun h => xneR_ok hS ha hb2 (by omega)) (go2 fun h => absurd h (by assumption))
      | exact lv_if_ne hx hb hd hT (go1 fun h => absurd rfl h) (go2 fun h => xeqR_ok hS ha hb2 (by omega))
    | lt => first
      | exact lv_if_lt hx hb hd hT (go1 fun h => xltR_ok hS ha hb2 (by omega)) (go2 fun h => absurd (by assumption) h)
      | exact lv_if_lt hx hb hd hT (go1 fun h => absurd h (by assumption)) (go2 fun h => xleR_ok hS hb2 ha (by omega))
    | ge => first
      | exact lv_if_ge hx hb hd hT (go1 fun h => xleR_ok hS hb2 ha (by omega)) (go2 fun h => absurd (by assumption) h)
      | exact lv_if_ge hx hb hd hT (go1 fun h => absurd h (by assumption)) (go2 fun h => xltR_ok hS ha hb2 (by omega))
    | gt => first
      | exact lv_if_gt hx hb hd hT (go1 fun h => xltR_ok hS hb2 ha (by omega)) (go2 fun h => absurd (by assumption) h)
      | exact lv_if_gt hx hb hd hT (go1 fun h => absurd h (by assumption)) (go2 fun h => xleR_ok hS ha hb2 (by omega))
    | le => first
      | exact lv_if_le hx hb hd hT (go1 fun h => xleR_ok hS ha hb2 (by omega)) (go2 fun h => absurd (by assumption) h)
      | exact lv_if_le hx hb hd hT (go1 fun h => absurd h (by assumption)) (go2 fun h => xltR_ok hS hb2 ha (by omega))
/-- a table: each row that the number can be -/
def xTabGo (σ : List xB) (a : xI) (pc : Nat) (r : xB) : Int → List Int → Option (List (Nat × List xB))
  | _, [] => some []
  | j, off :: t => match xTabGo σ a pc r (j + 1) t with
    | none => none
    | some L => bif xle r.1 j && xle j r.2 then (match xtg pc off with
      | none => none
      | some q => some ((q, xput σ a j j) :: L)) else some L
def xTab (σ : List xB) (a : xI) (pc : Nat) (d lo hi : Int) (offs : List Int) : Option (List (Nat × List xB)) := match xrg σ a with
  | none => none
  | some r => match xtg pc d with
    | none => none
    | some q => match xTabGo σ a pc r lo offs with
      | none => none
      | some L => some ((bif xle r.1 (lo - 1) then [(q, xput σ a r.1 (xmin r.2 (lo - 1)))] else []) ++ ((bif xle (hi + 1) r.2 then [(q, xput σ a (xmax r.1 (hi + 1)) r.2)] else []) ++ L))
theorem xTabGo_ok {a : xI} {r : xB} {z : Int} (hz : r.1 ≤ z ∧ z ≤ r.2) : ∀ {offs : List Int} {j : Int} {L : List (Nat × List xB)}, xTabGo σ a pc r j offs = some L → ∀ {n : Nat} {off : Int}, offs[n]? = some off → z = j + n → ∃ q, xtg pc off = some q ∧ (q, xput σ a z z) ∈ L
  | [], _, _, _, _, _, h, _ => by simp at h
  | o :: t, j, L, hv, n, off, h, hn => by
    unfold xTabGo at hv
    split at hv
    · cases hv
    · rename_i L' hL'
      cases n with
      | zero =>
        simp at h
        subst h
        have e : z = j := by omega
        rw [xle_iff.mpr (show r.1 ≤ j by omega), xle_iff.mpr (show j ≤ r.2 by omega)] at hv
        simp only [Bool.and_self, cond_true] at hv
        split at hv
        · cases hv
        · rename_i q hq
          cases hv
          exact ⟨q, hq, by rw [e]; exact List.mem_cons_self⟩
      | succ n =>
        simp at h
        obtain ⟨q, h1, h2⟩ := xTabGo_ok hz hL' h (by omega)
        refine ⟨q, h1, ?_⟩
        cases hc : (xle r.1 j && xle j r.2) with
        | true =>
          rw [hc] at hv
          simp only [cond_true] at hv
          split at hv
          · cases hv
          · cases hv
            exact List.mem_cons_of_mem _ h2
        | false =>
          rw [hc] at hv
          simp only [cond_false, Option.some.injEq] at hv
          subst hv
          exact h2
theorem xTab_ok {a : xI} {x : Int32} {d lo hi : Int} {offs : Array Int} {L : List (Nat × List xB)} (hv : xTab σ a pc d lo hi offs.toList = some L) (hh : hi = lo + (offs.toList.length : Int) - 1) (hx : p.tables.exec = Jvm.exec) (hb : c.code = cc) (hd : decode cc pc = .ok (.tableswitch d lo hi offs, len)) (hS : xSt ρ σ) (ha : xe ρ a = some x.toInt)
    (k : ∀ q ∈ L, xSt ρ q.2 → W p l e R s m args below meth c H locs cells slots Q (F0 m q.1 ls rest)) : W p l e R s m args below meth c H locs cells slots Q (F0 m pc ls (.int x :: rest)) := by
  unfold xTab at hv
  split at hv
  · cases hv
  · rename_i r hr
    split at hv
    · cases hv
    · rename_i q hq
      split at hv
      · cases hv
      · rename_i L' hL'
        have hz := xrg_ok hS ha hr
        cases hv
        by_cases h1 : x.toInt < lo
        · refine lv_tableOut hx hb hd (Or.inl h1) (xtg_ok hq) ?_
          refine k (q, xput σ a r.1 (xmin r.2 (lo - 1))) ?_ (xput_ok hS ha hz.1 (xmin_le1 hz.2 (by omega)))
          rw [xle_iff.mpr (show r.1 ≤ lo - 1 by omega)]
          exact List.mem_append_left _ (List.mem_singleton.mpr rfl)
        · by_cases h2 : hi < x.toInt
          · refine lv_tableOut hx hb hd (Or.inr h2) (xtg_ok hq) ?_
            refine k (q, xput σ a (xmax r.1 (hi + 1)) r.2) ?_ (xput_ok hS ha (xmax_le1 hz.1 (by omega)) hz.2)
            rw [xle_iff.mpr (show hi + 1 ≤ r.2 by omega)]
            exact List.mem_append_right _ (List.mem_append_left _ (List.mem_singleton.mpr rfl))
          · have hn : (x.toInt - lo).toNat < offs.toList.length := by omega
            obtain ⟨off, hoff⟩ : ∃ off, offs.toList[(x.toInt - lo).toNat]? = some off := ⟨_, List.getElem?_eq_getElem hn⟩
            obtain ⟨t, g1, g2⟩ := xTabGo_ok hz hL' hoff (by omega)
            refine lv_tableIn hx hb hd h1 h2 (by rw [← Array.getElem?_toList]; exact hoff) (xtg_ok g1) ?_
            exact k _ (List.mem_append_right _ (List.mem_append_right _ g2)) (xput_ok hS ha (Int.le_refl _) (Int.le_refl _))
end XB
end
