/-! Patterns: elements of arrays, cells, the heap. -/
def xmE (σ : List xB) (θ : xTh) : (xI ⊕ xB) → (xI ⊕ xB) → Option xTh
  | .inr r, u => (match xelr σ u with
    | some q => bif xle r.1 q.1 && xle q.2 r.2 then some θ else none
    | none => none)
  | .inl p, .inl a => xmI σ θ p a
  | .inl p, .inr q => (match p.1 with
    | none => bif xeq q.1 p.2 && xeq q.2 p.2 then some θ else none
    | some _ => none)
theorem xmE_ok {ρ : List Int} {σ : List xB} (hS : xSt ρ σ) {θ θ' : xTh} : ∀ {p u : xI ⊕ xB}, xmE σ θ p u = some θ' → xLe θ θ' ∧ ∀ {θ2 : xTh} {ρp : List Int} {z : Int}, xLe θ' θ2 → xThv ρ θ2 ρp → xel ρ u z → xel ρp p z
  | .inr r, u, h => by
    simp only [xmE] at h
    split at h
    · rename_i q hq
      obtain ⟨hb, rfl⟩ := x_bif h
      rw [Bool.and_eq_true, xle_iff, xle_iff] at hb
      refine ⟨xLe.rf θ, fun _ _ hz => ?_⟩
      have := xelr_ok hS hz hq
      show r.1 ≤ _ ∧ _ ≤ r.2
      omega
    · cases h
  | .inl p, .inl a, h => by
    obtain ⟨h1, h2⟩ := xmI_ok hS (show xmI σ θ p a = some θ' from h)
    exact ⟨h1, fun hl hv hz => h2 hl hv hz⟩
  | .inl (none, c), .inr q, h => by
    simp only [xmE] at h
    obtain ⟨hb, rfl⟩ := x_bif h
    rw [Bool.and_eq_true, xeq_iff, xeq_iff] at hb
    refine ⟨xLe.rf θ, fun {θ2 ρp z} _ _ hz => ?_⟩
    have hz : q.1 ≤ z ∧ z ≤ q.2 := hz
    show xe ρp (none, c) = some z
    simp only [xe]
    congr 1
    omega
  | .inl (some k, c), .inr q, h => by cases h
def xmG (σ : List xB) : Nat → xTh → List xG → List xG → Option xTh
  | 0, _, _, _ => none
  | _ + 1, θ, [], [] => some θ
  | f + 1, θ, g :: ps, v :: us => (match xmE σ θ g.2 v.2 with
    | none => none
    | some θ' => bif Nat.beq g.1 v.1 then xmG σ f θ' ps us else (bif Nat.blt g.1 v.1 then xmG σ f θ' ps ((v.1 - g.1, v.2) :: us) else xmG σ f θ' ((g.1 - v.1, g.2) :: ps) us))
  | _ + 1, _, [], _ :: _ => none
  | _ + 1, _, _ :: _, [] => none
theorem x_nblt2 {a b : Nat} (h : Nat.blt a b = false) : b ≤ a := by
  rcases Nat.lt_or_ge a b with q | q
  · have : Nat.blt a b = true := by
      unfold Nat.blt
      exact Nat.ble_eq_true_of_le q
    rw [this] at h
    cases h
  · exact q
theorem xmG_ok {ρ : List Int} {σ : List xB} (hS : xSt ρ σ) : ∀ {f : Nat} {θ θ' : xTh} {ps us : List xG}, xmG σ f θ ps us = some θ' → xLe θ θ' ∧ ∀ {θ2 : xTh} {ρp : List Int}, xLe θ' θ2 → xThv ρ θ2 ρp → ∀ (j : Nat) (u : xI ⊕ xB) (z : Int), xseg us j = some u → xel ρ u z → ∃ p, xseg ps j = some p ∧ xel ρp p z
  | 0, _, _, _, _, h => by cases h
  | f + 1, θ, θ', [], [], h => by
    simp only [xmG, Option.some.injEq] at h
    subst h
    exact ⟨xLe.rf θ, fun _ _ j u z hu => by cases hu⟩
  | f + 1, θ, θ', g :: ps, v :: us, h => by
    simp only [xmG] at h
    split at h
    · cases h
    · rename_i θ1 h1
      obtain ⟨l1, k1⟩ := xmE_ok hS h1
      cases hb : Nat.beq g.1 v.1 with
      | true =>
        rw [hb] at h
        simp only [cond_true] at h
        have e := Nat.eq_of_beq_eq_true hb
        obtain ⟨l2, k2⟩ := xmG_ok hS h
        refine ⟨l1.tr l2, fun hl hv j u z hu hz => ?_⟩
        rw [xseg_cons] at hu ⊢
        by_cases hj : j < v.1
        · rw [if_pos hj] at hu
          cases hu
          rw [if_pos (by omega)]
          exact ⟨g.2, rfl, k1 (l2.tr hl) hv hz⟩
        · rw [if_neg hj] at hu
          rw [if_neg (by omega), e]
          exact k2 hl hv _ u z hu hz
      | false =>
        rw [hb] at h
        simp only [cond_false] at h
        cases hc : Nat.blt g.1 v.1 with
        | true =>
          rw [hc] at h
          simp only [cond_true] at h
          have e := x_blt hc
          obtain ⟨l2, k2⟩ := xmG_ok hS h
          refine ⟨l1.tr l2, fun hl hv j u z hu hz => ?_⟩
          rw [xseg_cons] at hu ⊢
          by_cases hj : j < g.1
          · rw [if_pos (by omega)] at hu
            cases hu
            rw [if_pos hj]
            exact ⟨g.2, rfl, k1 (l2.tr hl) hv hz⟩
          · rw [if_neg hj]
            refine k2 hl hv (j - g.1) u z ?_ hz
            rw [xseg_cons]
            dsimp only
            by_cases hj2 : j < v.1
            · rw [if_pos hj2] at hu
              rw [if_pos (by omega)]
              exact hu
            · rw [if_neg hj2] at hu
              rw [if_neg (by omega)]
              have : j - g.1 - (v.1 - g.1) = j - v.1 := by omega
              rw [this]
              exact hu
        | false =>
          rw [hc] at h
          simp only [cond_false] at h
          have e := x_nblt2 hc
          obtain ⟨l2, k2⟩ := xmG_ok hS h
          refine ⟨l1.tr l2, fun hl hv j u z hu hz => ?_⟩
          rw [xseg_cons] at hu ⊢
          by_cases hj : j < v.1
          · rw [if_pos hj] at hu
            cases hu
            rw [if_pos (by omega)]
            exact ⟨g.2, rfl, k1 (l2.tr hl) hv hz⟩
          · rw [if_neg hj] at hu
            obtain ⟨p, hp, hz'⟩ := k2 hl hv (j - v.1) u z hu hz
            rw [xseg_cons] at hp
            dsimp only at hp
            by_cases hj2 : j < g.1
            · rw [if_pos (by omega)] at hp
              rw [if_pos hj2]
              exact ⟨p, hp, hz'⟩
            · rw [if_neg (by omega)] at hp
              rw [if_neg hj2]
              have : j - v.1 - (g.1 - v.1) = j - g.1 := by omega
              rw [this] at hp
              exact ⟨p, hp, hz'⟩
  | f + 1, θ, θ', [], _ :: _, h => by cases h
  | f + 1, θ, θ', _ :: _, [], h => by cases h
theorem xmG_arr {ρ : List Int} {σ : List xB} (hS : xSt ρ σ) {f : Nat} {θ θ' θ2 : xTh} {ps us : List xG} {ρp : List Int} (h : xmG σ f θ ps us = some θ') (hl : xLe θ' θ2) (hv : xThv ρ θ2 ρp) {n : Nat} {g : Nat → Int} (hz : xarr ρ us n g) : xarr ρp ps n g := fun j hj => by
  obtain ⟨u, h1, h2⟩ := hz j hj
  exact (xmG_ok hS h).2 hl hv j u (g j) h1 h2
/-- cells of arrays of cells -/
def xmOs : xPh → List (Option Nat) → List (Option Nat) → Option xPh
  | φ, [], [] => some φ
  | φ, none :: ps, none :: us => xmOs φ ps us
  | φ, some i :: ps, some j :: us => (match xmR φ i j with
    | some φ' => xmOs φ' ps us
    | none => none)
  | _, _, _ => none
theorem xmOs_ok {ad : List Nat} : ∀ {φ φ' : xPh} {ps us : List (Option Nat)}, xmOs φ ps us = some φ' → xLe φ φ' ∧ ps.length = us.length ∧ ∀ {φ2 : xPh} {adp : List Nat}, xLe φ' φ2 → xPhv ad φ2 adp → ∀ (f : Nat → Option Nat), (∀ (j : Nat) (o : Option Nat), us[j]? = some o → match o with
    | none => f j = none
    | some i => ∃ q, ad[i]? = some q ∧ f j = some q) → ∀ (j : Nat) (o : Option Nat), ps[j]? = some o → match o with
    | none => f j = none
    | some i => ∃ q, adp[i]? = some q ∧ f j = some q
  | φ, φ', [], [], h => by
    simp only [xmOs, Option.some.injEq] at h
    subst h
    exact ⟨xLe.rf φ, rfl, fun _ _ f _ j o ho => by simp at ho⟩
  | φ, φ', none :: ps, none :: us, h => by
    obtain ⟨l1, n1, k1⟩ := xmOs_ok (ad := ad) (show xmOs φ ps us = some φ' from h)
    refine ⟨l1, by simp [n1], fun hl hv f hf j o ho => ?_⟩
    cases j with
    | zero =>
      simp at ho
      subst ho
      exact hf 0 none (by simp)
    | succ j => exact k1 hl hv (fun j => f (j + 1)) (fun j o ho => hf (j + 1) o (by simpa using ho)) j o (by simpa using ho)
  | φ, φ', some i :: ps, some i' :: us, h => by
    simp only [xmOs] at h
    split at h
    · rename_i φ1 h1
      obtain ⟨l0, k0⟩ := xmR_ok (ad := ad) h1
      obtain ⟨l1, n1, k1⟩ := xmOs_ok (ad := ad) h
      refine ⟨l0.tr l1, by simp [n1], fun hl hv f hf j o ho => ?_⟩
      cases j with
      | zero =>
        simp at ho
        subst ho
        obtain ⟨q, hq, e⟩ := hf 0 (some i') (by simp)
        exact ⟨q, k0 (l1.tr hl) hv hq, e⟩
      | succ j => exact k1 hl hv (fun j => f (j + 1)) (fun j o ho => hf (j + 1) o (by simpa using ho)) j o (by simpa using ho)
    · cases h
  | φ, φ', [], _ :: _, h => by cases h
  | φ, φ', none :: _, [], h => by cases h
  | φ, φ', none :: _, some _ :: _, h => by cases h
  | φ, φ', some _ :: _, [], h => by cases h
  | φ, φ', some _ :: _, none :: _, h => by cases h
/-- a cell -/
def xmC (σ : List xB) (t : xT3) : xC → xC → Option xT3
  | .inl o, .inl o' => bif Nat.beq o.1 o'.1 then xmVs σ t o.2 o'.2 else none
  | .inr (.inl a), .inr (.inl b) => bif Nat.beq a.1 b.1 && Nat.beq a.2.1 b.2.1 then (match xmG σ 600 t.1 a.2.2 b.2.2 with
    | some θ => some (θ, t.2)
    | none => none) else none
  | .inr (.inr (.inl a)), .inr (.inr (.inl b)) => bif Nat.beq a.1 b.1 then (match xmG σ 600 t.1 a.2 b.2 with
    | some θ => some (θ, t.2)
    | none => none) else none
  | .inr (.inr (.inr a)), .inr (.inr (.inr b)) => bif Nat.beq a.1 b.1 then (match xmOs t.2.1 a.2 b.2 with
    | some φ => some (t.1, φ, t.2.2)
    | none => none) else none
  | _, _ => none
theorem xmC_ok {cn : Nat → String} {ρ : List Int} {ad ex : List Nat} {tys : List (ClassId × FieldType)} {σ : List xB} (hS : xSt ρ σ) {t t' : xT3} : ∀ {p x : xC}, xmC σ t p x = some t' → xL3 t t' ∧ ∀ {t2 : xT3} {ρp : List Int} {adp exp : List Nat} {e : va_E}, xL3 t' t2 → xVal ρ ad ex t2 ρp adp exp → xcell cn ρ ad ex tys x e → xcell cn ρp adp exp tys p e
  | .inl o, .inl o', h => by
    obtain ⟨hb, h⟩ := x_bifO (show (bif Nat.beq o.1 o'.1 then xmVs σ t o.2 o'.2 else none) = some t' from h)
    have e := Nat.eq_of_beq_eq_true hb
    obtain ⟨l1, k1⟩ := xmVs_ok (ad := ad) (ex := ex) hS h
    refine ⟨l1, fun hl hv hc => ?_⟩
    obtain ⟨vs, e1, hvs⟩ := hc
    exact ⟨vs, by rw [e1, e], k1 hl hv hvs⟩
  | .inr (.inl a), .inr (.inl b), h => by
    simp only [xmC] at h
    obtain ⟨hb, h⟩ := x_bifO h
    rw [Bool.and_eq_true] at hb
    have e1 := Nat.eq_of_beq_eq_true hb.1
    have e2 := Nat.eq_of_beq_eq_true hb.2
    split at h
    · rename_i θ hθ
      cases h
      refine ⟨⟨(xmG_ok hS hθ).1, xLe.rf _, xLe.rf _⟩, fun hl hv hc => ?_⟩
      obtain ⟨cA, f, q1, q2, q3⟩ := hc
      exact ⟨cA, f, by rw [q1, e2], by rw [e1]; exact q2, by rw [e2]; exact xmG_arr hS hθ hl.1 hv.1 q3⟩
    · cases h
  | .inr (.inr (.inl a)), .inr (.inr (.inl b)), h => by
    simp only [xmC] at h
    obtain ⟨hb, h⟩ := x_bifO h
    have e1 := Nat.eq_of_beq_eq_true hb
    split at h
    · rename_i θ hθ
      cases h
      refine ⟨⟨(xmG_ok hS hθ).1, xLe.rf _, xLe.rf _⟩, fun hl hv hc => ?_⟩
      obtain ⟨cA, f, q1, q2, q3⟩ := hc
      exact ⟨cA, f, by rw [q1, e1], q2, by rw [e1]; exact xmG_arr hS hθ hl.1 hv.1 q3⟩
    · cases h
  | .inr (.inr (.inr a)), .inr (.inr (.inr b)), h => by
    simp only [xmC] at h
    obtain ⟨hb, h⟩ := x_bifO h
    have e1 := Nat.eq_of_beq_eq_true hb
    split at h
    · rename_i φ hφ
      cases h
      obtain ⟨l1, n1, k1⟩ := xmOs_ok (ad := ad) hφ
      refine ⟨⟨xLe.rf _, l1, xLe.rf _⟩, fun hl hv hc => ?_⟩
      obtain ⟨cA, f, q1, q2, q3⟩ := hc
      exact ⟨cA, f, by rw [q1, n1], by rw [e1]; exact q2, k1 hl.2.1 hv.2.1 f q3⟩
    · cases h
  | .inl _, .inr _, h => by cases h
  | .inr (.inl _), .inl _, h => by cases h
  | .inr (.inl _), .inr (.inr _), h => by cases h
  | .inr (.inr (.inl _)), .inl _, h => by cases h
  | .inr (.inr (.inl _)), .inr (.inl _), h => by cases h
  | .inr (.inr (.inl _)), .inr (.inr (.inr _)), h => by cases h
  | .inr (.inr (.inr _)), .inl _, h => by cases h
  | .inr (.inr (.inr _)), .inr (.inl _), h => by cases h
  | .inr (.inr (.inr _)), .inr (.inr (.inl _)), h => by cases h
/-- all cells of a pattern, from the i-th on -/
def xmH (σ : List xB) (h : List xC) : Nat → List xC → xT3 → Option xT3
  | _, [], t => some t
  | i, p :: ps, t => (match t.2.1[i]? with
    | some (some j) => (match h[j]? with
      | some x => (match xmC σ t p x with
        | some t' => xmH σ h (i + 1) ps t'
        | none => none)
      | none => none)
    | _ => none)
theorem xmH_ok {ρ : List Int} {ad ex : List Nat} {tys : List (ClassId × FieldType)} {σ : List xB} {h : List xC} {ws : va_W} (hS : xSt ρ σ) (hh : xHp ρ ad ex tys h ws) : ∀ {ps : List xC} {i : Nat} {t t' : xT3}, xmH σ h i ps t = some t' → xL3 t t' ∧ ∀ {t2 : xT3} {ρp : List Int} {adp exp : List Nat}, xL3 t' t2 → xVal ρ ad ex t2 ρp adp exp → ∀ (n : Nat) (p : xC), ps[n]? = some p → ∃ j y, t2.2.1[i + n]? = some (some j) ∧ ws[j]? = some y ∧ ad[j]? = some y.1 ∧ xcell xcn ρp adp exp tys p y.2
  | [], i, t, t', hv => by
    simp only [xmH, Option.some.injEq] at hv
    subst hv
    exact ⟨xL3.rf t, fun _ _ n p hp => by simp at hp⟩
  | p :: ps, i, t, t', hv => by
    simp only [xmH] at hv
    split at hv
    · rename_i j hj
      split at hv
      · rename_i x hx
        split at hv
        · rename_i t1 h1
          obtain ⟨l1, k1⟩ := xmC_ok (cn := xcn) (ad := ad) (ex := ex) (tys := tys) hS h1
          obtain ⟨l2, k2⟩ := xmH_ok hS hh hv
          refine ⟨l1.tr l2, fun {t2 ρp adp exp} hl hva n p' hp => ?_⟩
          cases n with
          | zero =>
            simp at hp
            subst hp
            obtain ⟨y, hy1, hy2⟩ := hh.2.get hx
            refine ⟨j, y, ?_, hy1, ?_, k1 (l2.tr hl) hva hy2⟩
            · exact ((l1.tr l2).tr hl).2.1.2 i j hj
            · have : (ws.map Prod.fst)[j]? = some y.1 := by rw [List.getElem?_map, hy1]; rfl
              rw [hh.1] at this
              exact this
          | succ n =>
            obtain ⟨j', y, q1, q2⟩ := k2 hl hva n p' (by simpa using hp)
            refine ⟨j', y, ?_, q2⟩
            have : i + (n + 1) = i + 1 + n := by omega
            rw [this]
            exact q1
        · cases hv
      · cases hv
    · cases hv
