/-! Patterns: a state that fits one. -/
/-- the same symbol -/
def xsy (a b : xI) : Bool := match a.1, b.1 with
  | some i, some j => Nat.beq i j
  | none, none => true
  | _, _ => false
theorem xsy_ok {a b : xI} (h : xsy a b = true) : a.1 = b.1 := by
  obtain ⟨o, c⟩ := a
  obtain ⟨o', c'⟩ := b
  cases o <;> cases o' <;> simp only [xsy] at h
  · rfl
  · cases h
  · cases h
  · rw [Nat.eq_of_beq_eq_true h]
theorem xe_same {ρ : List Int} {a b : xI} {z : Int} (h : a.1 = b.1) (hz : xe ρ a = some z) : xe ρ b = some (z + (b.2 - a.2)) := by
  obtain ⟨o, c⟩ := a
  obtain ⟨o', c'⟩ := b
  have h : o = o' := h
  subst h
  have := xe_off (d := c' - c) hz
  have e : c + (c' - c) = c' := by omega
  rw [e] at this
  exact this
/-- what symbols and cells of a pattern stand for -/
abbrev xTh : Type := List (Option xI)
abbrev xPh : Type := List (Option Nat)
def xLe {α : Type} (θ θ' : List (Option α)) : Prop := θ.length = θ'.length ∧ ∀ (k : Nat) (b : α), θ[k]? = some (some b) → θ'[k]? = some (some b)
theorem xLe.rf {α : Type} (θ : List (Option α)) : xLe θ θ := ⟨rfl, fun _ _ h => h⟩
theorem xLe.tr {α : Type} {a b c : List (Option α)} (h1 : xLe a b) (h2 : xLe b c) : xLe a c := ⟨h1.1.trans h2.1, fun k x h => h2.2 k x (h1.2 k x h)⟩
theorem xLe.set {α : Type} {θ : List (Option α)} {k : Nat} {b : α} (h : θ[k]? = some none) : xLe θ (θ.set k (some b)) := by
  refine ⟨by simp, fun j x hx => ?_⟩
  by_cases hj : k = j
  · subst hj
    rw [h] at hx
    cases hx
  · rw [List.getElem?_set_ne hj]
    exact hx
/-- the symbols' values of a pattern, out of those of the state -/
def xThv (ρ : List Int) (θ : xTh) (ρp : List Int) : Prop := θ.length = ρp.length ∧ ∀ (k : Nat) (b : xI), θ[k]? = some (some b) → ∃ z, xe ρ b = some z ∧ ρp[k]? = some z
def xPhv (ad : List Nat) (φ : xPh) (adp : List Nat) : Prop := φ.length = adp.length ∧ ∀ (k : Nat) (j : Nat), φ[k]? = some (some j) → ∃ q, ad[j]? = some q ∧ adp[k]? = some q
def xmI (σ : List xB) (θ : xTh) (p a : xI) : Option xTh := match p.1 with
  | none => (match xrg σ a with
    | some r => bif xeq r.1 p.2 && xeq r.2 p.2 then some θ else none
    | none => none)
  | some k => (match θ[k]? with
    | some none => some (θ.set k (some (a.1, a.2 - p.2)))
    | some (some b) => bif xsy a b && xeq a.2 (b.2 + p.2) then some θ else none
    | none => none)
theorem xmI_ok {ρ : List Int} {σ : List xB} {θ θ' : xTh} {p a : xI} (hS : xSt ρ σ) (h : xmI σ θ p a = some θ') : xLe θ θ' ∧ ∀ {θ2 : xTh} {ρp : List Int} {z : Int}, xLe θ' θ2 → xThv ρ θ2 ρp → xe ρ a = some z → xe ρp p = some z := by
  obtain ⟨o, c⟩ := p
  cases o with
  | none =>
    simp only [xmI] at h
    split at h
    · rename_i r hr
      obtain ⟨hb, rfl⟩ := x_bif h
      rw [Bool.and_eq_true, xeq_iff, xeq_iff] at hb
      refine ⟨xLe.rf θ, fun _ _ hz => ?_⟩
      have := xrg_ok hS hz hr
      simp only [xe]
      congr 1
      omega
    · cases h
  | some k =>
    simp only [xmI] at h
    split at h
    · rename_i hk
      cases h
      refine ⟨xLe.set hk, fun {θ2 ρp z} h2 hv hz => ?_⟩
      have hlt : k < θ.length := (List.getElem?_eq_some_iff.mp hk).1
      obtain ⟨y, h3, h4⟩ := hv.2 k (a.1, a.2 - c) (h2.2 k _ (by rw [List.getElem?_set_self' ]; rw [hk]; rfl))
      have h5 := xe_same (a := a) (b := (a.1, a.2 - c)) rfl hz
      rw [h3] at h5
      cases h5
      simp only [xe]
      rw [h4]
      dsimp only
      congr 1
      omega
    · rename_i b hk
      obtain ⟨hb, rfl⟩ := x_bif h
      rw [Bool.and_eq_true, xeq_iff] at hb
      refine ⟨xLe.rf θ, fun {θ2 ρp z} h2 hv hz => ?_⟩
      obtain ⟨y, h3, h4⟩ := hv.2 k b (h2.2 k b hk)
      have h5 := xe_same (a := a) (b := b) (xsy_ok hb.1) hz
      rw [h3] at h5
      cases h5
      simp only [xe]
      rw [h4]
      dsimp only
      congr 1
      omega
    · cases h
def xmR (φ : xPh) (i j : Nat) : Option xPh := match φ[i]? with
  | some none => some (φ.set i (some j))
  | some (some k) => bif Nat.beq k j then some φ else none
  | none => none
theorem xmR_ok {ad : List Nat} {φ φ' : xPh} {i j : Nat} (h : xmR φ i j = some φ') : xLe φ φ' ∧ ∀ {φ2 : xPh} {adp : List Nat} {q : Nat}, xLe φ' φ2 → xPhv ad φ2 adp → ad[j]? = some q → adp[i]? = some q := by
  unfold xmR at h
  split at h
  · rename_i hk
    cases h
    refine ⟨xLe.set hk, fun {φ2 adp q} h2 hv hq => ?_⟩
    obtain ⟨y, h3, h4⟩ := hv.2 i j (h2.2 i j (by rw [List.getElem?_set_self']; rw [hk]; rfl))
    rw [hq] at h3
    cases h3
    exact h4
  · rename_i k hk
    obtain ⟨hb, rfl⟩ := x_bif h
    have hb := Nat.eq_of_beq_eq_true hb
    subst hb
    refine ⟨xLe.rf φ, fun {φ2 adp q} h2 hv hq => ?_⟩
    obtain ⟨y, h3, h4⟩ := hv.2 i k (h2.2 i k hk)
    rw [hq] at h3
    cases h3
    exact h4
  · cases h
/-- refs outside: what the pattern's refs 20, 21 .. stand for -/
abbrev xKp : Type := List (Option xV)
def xrq (ad ex : List Nat) : xV → Nat → Prop
  | .inr (.inr (.inl (some i))), q => ad[i]? = some q
  | .inr (.inr (.inr k)), q => ex[k]? = some q
  | _, _ => False
theorem xrq_v {ρ : List Int} {ad ex : List Nat} : ∀ {v : xV} {q : Nat}, xrq ad ex v q → xv ρ ad ex v (.ref q)
  | .inl _, _, h => h.elim
  | .inr (.inl _), _, h => h.elim
  | .inr (.inr (.inl none)), _, h => h.elim
  | .inr (.inr (.inl (some i))), q, h => ⟨q, h, rfl⟩
  | .inr (.inr (.inr k)), q, h => ⟨q, h, rfl⟩
theorem xrq_of {ρ : List Int} {ad ex : List Nat} : ∀ {v : xV} {q q' : Nat}, xrq ad ex v q → xv ρ ad ex v (.ref q') → q' = q
  | .inl _, _, _, h, _ => h.elim
  | .inr (.inl _), _, _, h, _ => h.elim
  | .inr (.inr (.inl none)), _, _, h, _ => h.elim
  | .inr (.inr (.inl (some i))), q, q', h, hv => by
    obtain ⟨z, h1, h2⟩ := hv
    have h : ad[i]? = some q := h
    rw [h] at h1
    cases h1
    cases h2
    rfl
  | .inr (.inr (.inr k)), q, q', h, hv => by
    obtain ⟨z, h1, h2⟩ := hv
    have h : ex[k]? = some q := h
    rw [h] at h1
    cases h1
    cases h2
    rfl
/-- the pattern's outside refs, out of the state's -/
def xKv (ad ex : List Nat) (κ : xKp) (exp : List Nat) : Prop := (∀ k, k < 20 → exp[k]? = ex[k]?) ∧ ∀ (k : Nat) (v : xV), κ[k]? = some (some v) → ∃ q, xrq ad ex v q ∧ exp[20 + k]? = some q
/-- two refs are one -/
def xsr : xV → xV → Bool
  | .inr (.inr (.inl (some i))), .inr (.inr (.inl (some j))) => Nat.beq i j
  | .inr (.inr (.inr i)), .inr (.inr (.inr j)) => Nat.beq i j
  | _, _ => false
theorem xsr_ok : ∀ {v w : xV}, xsr v w = true → v = w
  | .inr (.inr (.inl (some i))), .inr (.inr (.inl (some j))), h => by rw [Nat.eq_of_beq_eq_true h]
  | .inr (.inr (.inr i)), .inr (.inr (.inr j)), h => by rw [Nat.eq_of_beq_eq_true h]
  | .inl _, _, h => by cases h
  | .inr (.inl _), _, h => by cases h
  | .inr (.inr (.inl none)), _, h => by cases h
  | .inr (.inr (.inl (some _))), .inl _, h => by cases h
  | .inr (.inr (.inl (some _))), .inr (.inl _), h => by cases h
  | .inr (.inr (.inl (some _))), .inr (.inr (.inl none)), h => by cases h
  | .inr (.inr (.inl (some _))), .inr (.inr (.inr _)), h => by cases h
  | .inr (.inr (.inr _)), .inl _, h => by cases h
  | .inr (.inr (.inr _)), .inr (.inl _), h => by cases h
  | .inr (.inr (.inr _)), .inr (.inr (.inl _)), h => by cases h
def xisr : xV → Bool
  | .inr (.inr (.inl (some _))) => true
  | .inr (.inr (.inr _)) => true
  | _ => false
def xmX (κ : xKp) (k : Nat) (a : xV) : Option xKp := bif Nat.blt k 20 then (match a with
    | .inr (.inr (.inr j)) => bif Nat.beq k j then some κ else none
    | _ => none) else (match κ[k - 20]? with
    | some none => bif xisr a then some (κ.set (k - 20) (some a)) else none
    | some (some b) => bif xsr a b then some κ else none
    | none => none)
theorem xmX_ok {ρ : List Int} {ad ex : List Nat} {κ κ' : xKp} {k : Nat} {a : xV} (h : xmX κ k a = some κ') : xLe κ κ' ∧ ∀ {κ2 : xKp} {exp : List Nat} {ρp : List Int} {adp : List Nat} {w : Value}, xLe κ' κ2 → xKv ad ex κ2 exp → xv ρ ad ex a w → xv ρp adp exp (.inr (.inr (.inr k))) w := by
  unfold xmX at h
  cases hk : Nat.blt k 20 with
  | true =>
    rw [hk] at h
    simp only [cond_true] at h
    split at h
    · rename_i j
      obtain ⟨hb, rfl⟩ := x_bif h
      have hb := Nat.eq_of_beq_eq_true hb
      subst hb
      refine ⟨xLe.rf κ, fun _ hv hw => ?_⟩
      obtain ⟨q, h1, e⟩ := hw
      exact ⟨q, by rw [hv.1 k (x_blt hk)]; exact h1, e⟩
    · cases h
  | false =>
    have hge : 20 ≤ k := by
      rcases Nat.lt_or_ge k 20 with q | q
      · have : Nat.blt k 20 = true := by
          unfold Nat.blt
          exact Nat.ble_eq_true_of_le q
        rw [this] at hk
        cases hk
      · exact q
    have e20 : 20 + (k - 20) = k := by omega
    have fin : ∀ {b : xV} {κ2 : xKp} {exp : List Nat} {ρp : List Int} {adp : List Nat} {w : Value}, κ2[k - 20]? = some (some b) → xKv ad ex κ2 exp → xv ρ ad ex b w → xisr b = true → xv ρp adp exp (.inr (.inr (.inr k))) w := by
      intro b κ2 exp ρp adp w h1 hv hw hi
      obtain ⟨q, g1, g2⟩ := hv.2 (k - 20) b h1
      rw [e20] at g2
      have : ∃ q', w = .ref q' := by
        unfold xisr at hi
        split at hi
        · obtain ⟨q', -, e⟩ := hw
          exact ⟨q', e⟩
        · obtain ⟨q', -, e⟩ := hw
          exact ⟨q', e⟩
        · cases hi
      obtain ⟨q', rfl⟩ := this
      have := xrq_of g1 hw
      subst this
      exact ⟨q', g2, rfl⟩
    rw [hk] at h
    simp only [cond_false] at h
    split at h
    · rename_i hn
      obtain ⟨hb, rfl⟩ := x_bif h
      exact ⟨xLe.set hn, fun h2 hv hw => fin (h2.2 (k - 20) a (by rw [List.getElem?_set_self']; rw [hn]; rfl)) hv hw hb⟩
    · rename_i b hn
      obtain ⟨hb, rfl⟩ := x_bif h
      have e := xsr_ok hb
      subst e
      have hi : xisr a = true := by
        unfold xsr at hb
        split at hb
        · rfl
        · rfl
        · cases hb
      exact ⟨xLe.rf κ, fun h2 hv hw => fin (h2.2 (k - 20) a hn) hv hw hi⟩
    · cases h
/-- what is known: symbols, cells, outside refs -/
abbrev xT3 : Type := xTh × (xPh × xKp)
/-- a value -/
def xmV (σ : List xB) (t : xT3) : xV → xV → Option xT3
  | .inl p, .inl a => (match xmI σ t.1 p a with
    | some θ => some (θ, t.2)
    | none => none)
  | .inr (.inl p), .inr (.inl a) => (match xmI σ t.1 p a with
    | some θ => some (θ, t.2)
    | none => none)
  | .inr (.inr (.inl none)), .inr (.inr (.inl none)) => some t
  | .inr (.inr (.inl (some i))), .inr (.inr (.inl (some j))) => (match xmR t.2.1 i j with
    | some φ => some (t.1, φ, t.2.2)
    | none => none)
  | .inr (.inr (.inr k)), a => (match xmX t.2.2 k a with
    | some κ => some (t.1, t.2.1, κ)
    | none => none)
  | _, _ => none
def xL3 (t t' : xT3) : Prop := xLe t.1 t'.1 ∧ xLe t.2.1 t'.2.1 ∧ xLe t.2.2 t'.2.2
theorem xL3.rf (t : xT3) : xL3 t t := ⟨xLe.rf _, xLe.rf _, xLe.rf _⟩
theorem xL3.tr {a b c : xT3} (h1 : xL3 a b) (h2 : xL3 b c) : xL3 a c := ⟨h1.1.tr h2.1, h1.2.1.tr h2.2.1, h1.2.2.tr h2.2.2⟩
/-- all symbols, cells and outside refs stand for something -/
def xVal (ρ : List Int) (ad ex : List Nat) (t : xT3) (ρp : List Int) (adp exp : List Nat) : Prop := xThv ρ t.1 ρp ∧ xPhv ad t.2.1 adp ∧ xKv ad ex t.2.2 exp
theorem xmV_ok {ρ : List Int} {ad ex : List Nat} {σ : List xB} (hS : xSt ρ σ) {t t' : xT3} : ∀ {p a : xV}, xmV σ t p a = some t' → xL3 t t' ∧ ∀ {t2 : xT3} {ρp : List Int} {adp exp : List Nat} {w : Value}, xL3 t' t2 → xVal ρ ad ex t2 ρp adp exp → xv ρ ad ex a w → xv ρp adp exp p w
  | .inl p, .inl a, h => by
    simp only [xmV] at h
    split at h
    · rename_i θ hθ
      cases h
      obtain ⟨h1, h2⟩ := xmI_ok hS hθ
      refine ⟨⟨h1, xLe.rf _, xLe.rf _⟩, fun hl hv hw => ?_⟩
      obtain ⟨x, e, hx⟩ := hw
      exact ⟨x, e, h2 hl.1 hv.1 hx⟩
    · cases h
  | .inr (.inl p), .inr (.inl a), h => by
    simp only [xmV] at h
    split at h
    · rename_i θ hθ
      cases h
      obtain ⟨h1, h2⟩ := xmI_ok hS hθ
      refine ⟨⟨h1, xLe.rf _, xLe.rf _⟩, fun hl hv hw => ?_⟩
      obtain ⟨x, e, hx⟩ := hw
      exact ⟨x, e, h2 hl.1 hv.1 hx⟩
    · cases h
  | .inr (.inr (.inl none)), .inr (.inr (.inl none)), h => by
    simp only [xmV, Option.some.injEq] at h
    subst h
    exact ⟨xL3.rf t, fun _ _ hw => hw⟩
  | .inr (.inr (.inl (some i))), .inr (.inr (.inl (some j))), h => by
    simp only [xmV] at h
    split at h
    · rename_i φ hφ
      cases h
      obtain ⟨h1, h2⟩ := xmR_ok (ad := ad) hφ
      refine ⟨⟨xLe.rf _, h1, xLe.rf _⟩, fun hl hv hw => ?_⟩
      obtain ⟨q, hq, e⟩ := hw
      exact ⟨q, h2 hl.2.1 hv.2.1 hq, e⟩
    · cases h
  | .inr (.inr (.inr k)), a, h => by
    have h : (match xmX t.2.2 k a with
      | some κ => some (t.1, t.2.1, κ)
      | none => none) = some t' := by
      cases a with
      | inl _ => exact h
      | inr a => rcases a with a | (_ | a) | a <;> exact h
    split at h
    · rename_i κ hκ
      cases h
      obtain ⟨h1, h2⟩ := xmX_ok (ρ := ρ) (ad := ad) (ex := ex) hκ
      exact ⟨⟨xLe.rf _, xLe.rf _, h1⟩, fun hl hv hw => h2 hl.2.2 hv.2.2 hw⟩
    · cases h
  | .inl _, .inr _, h => by cases h
  | .inr (.inl _), .inl _, h => by cases h
  | .inr (.inl _), .inr (.inr _), h => by cases h
  | .inr (.inr (.inl none)), .inl _, h => by cases h
  | .inr (.inr (.inl none)), .inr (.inl _), h => by cases h
  | .inr (.inr (.inl none)), .inr (.inr (.inl (some _))), h => by cases h
  | .inr (.inr (.inl none)), .inr (.inr (.inr _)), h => by cases h
  | .inr (.inr (.inl (some _))), .inl _, h => by cases h
  | .inr (.inr (.inl (some _))), .inr (.inl _), h => by cases h
  | .inr (.inr (.inl (some _))), .inr (.inr (.inl none)), h => by cases h
  | .inr (.inr (.inl (some _))), .inr (.inr (.inr _)), h => by cases h
/-- values, one by one -/
def xmVs (σ : List xB) : xT3 → List xV → List xV → Option xT3
  | t, [], [] => some t
  | t, p :: ps, a :: as => (match xmV σ t p a with
    | some t' => xmVs σ t' ps as
    | none => none)
  | _, _, _ => none
theorem xmVs_ok {ρ : List Int} {ad ex : List Nat} {σ : List xB} (hS : xSt ρ σ) : ∀ {t t' : xT3} {ps as : List xV}, xmVs σ t ps as = some t' → xL3 t t' ∧ ∀ {t2 : xT3} {ρp : List Int} {adp exp : List Nat} {ws : List Value}, xL3 t' t2 → xVal ρ ad ex t2 ρp adp exp → xAll2 (xv ρ ad ex) as ws → xAll2 (xv ρp adp exp) ps ws
  | t, t', [], [], h => by
    simp only [xmVs, Option.some.injEq] at h
    subst h
    refine ⟨xL3.rf t, fun _ _ hw => ?_⟩
    have := hw.nil
    subst this
    trivial
  | t, t', p :: ps, a :: as, h => by
    simp only [xmVs] at h
    split at h
    · rename_i t1 h1
      obtain ⟨l1, k1⟩ := xmV_ok (ad := ad) (ex := ex) hS h1
      obtain ⟨l2, k2⟩ := xmVs_ok (ad := ad) (ex := ex) hS h
      refine ⟨l1.tr l2, fun hl hv hw => ?_⟩
      obtain ⟨w, ws', rfl, hw1, hw2⟩ := hw.cons
      exact ⟨k1 (l2.tr hl) hv hw1, k2 hl hv hw2⟩
    · cases h
  | t, t', [], _ :: _, h => by cases h
  | t, t', _ :: _, [], h => by cases h
