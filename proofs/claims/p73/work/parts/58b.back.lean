/-! The ends of a contract in the caller's world. -/
theorem xtG_seg {θ : List xI} : ∀ {gs gs' : List xG}, xtL (xtG θ) gs = some gs' → ∀ (j : Nat) (u : xI ⊕ xB), xseg gs j = some u → ∃ u', xtE θ u = some u' ∧ xseg gs' j = some u'
  | [], gs', h, j, u, hu => by cases hu
  | g :: t, gs', h, j, u, hu => by
    simp only [xtL] at h
    split at h
    · rename_i b hb
      split at h
      · rename_i l hl
        cases h
        unfold xtG at hb
        split at hb
        · rename_i v hv
          cases hb
          rw [xseg_cons] at hu ⊢
          dsimp only
          by_cases hj : j < g.1
          · rw [if_pos hj] at hu ⊢
            cases hu
            exact ⟨v, hv, rfl⟩
          · rw [if_neg hj] at hu ⊢
            exact xtG_seg hl _ u hu
        · cases hb
      · cases h
    · cases h
theorem xtE_ok {ρ ρp : List Int} {θ : List xI} (hv : xThv ρ (θ.map some) ρp) : ∀ {u u' : xI ⊕ xB} {z : Int}, xtE θ u = some u' → xel ρp u z → xel ρ u' z
  | .inl a, u', z, h, hz => by
    simp only [xtE] at h
    split at h
    · rename_i b hb
      cases h
      exact xsub1_v hv hb hz
    · cases h
  | .inr r, u', z, h, hz => by
    simp only [xtE, Option.some.injEq] at h
    subst h
    exact hz
theorem xtG_arr {ρ ρp : List Int} {θ : List xI} (hv : xThv ρ (θ.map some) ρp) {gs gs' : List xG} (h : xtL (xtG θ) gs = some gs') {n : Nat} {f : Nat → Int} (ha : xarr ρp gs n f) : xarr ρ gs' n f := fun j hj => by
  obtain ⟨u, h1, h2⟩ := ha j hj
  obtain ⟨u', h3, h4⟩ := xtG_seg h j u h1
  exact ⟨u', h4, xtE_ok hv h3 h2⟩
theorem xtC_ok {cn : Nat → String} {ρ ρp : List Int} {ad adp ex exp : List Nat} {tys : List (ClassId × FieldType)} {θ : List xI} {φ : List Nat} {κ : List xV} (hv : xThv ρ (θ.map some) ρp) (hp : xPhv ad (φ.map some) adp) (hk : xKv ad ex (κ.map some) exp) : ∀ {c c' : xC} {e : va_E}, xtC θ φ κ c = some c' → xcell cn ρp adp exp tys c e → xcell cn ρ ad ex tys c' e
  | .inl o, c', e, h, hc => by
    simp only [xtC] at h
    split at h
    · rename_i vs hvs
      cases h
      obtain ⟨ws, e1, hw⟩ := hc
      exact ⟨ws, e1, xtL_ok (R := xv ρp adp exp) (R' := xv ρ ad ex) (fun a b c h1 h2 => xtV_ok hv hp hk h1 h2) hvs hw⟩
    · cases h
  | .inr (.inl a), c', e, h, hc => by
    simp only [xtC] at h
    split at h
    · rename_i gs hgs
      cases h
      obtain ⟨cA, f, e1, e2, e3⟩ := hc
      exact ⟨cA, f, e1, e2, xtG_arr hv hgs e3⟩
    · cases h
  | .inr (.inr (.inl a)), c', e, h, hc => by
    simp only [xtC] at h
    split at h
    · rename_i gs hgs
      cases h
      obtain ⟨cA, f, e1, e2, e3⟩ := hc
      exact ⟨cA, f, e1, e2, xtG_arr hv hgs e3⟩
    · cases h
  | .inr (.inr (.inr a)), c', e, h, hc => by
    simp only [xtC] at h
    split at h
    · rename_i os hos
      cases h
      obtain ⟨cA, f, e1, e2, e3⟩ := hc
      obtain ⟨n1, k1⟩ := xtL_get hos
      refine ⟨cA, f, by rw [e1, n1], e2, fun j o ho => ?_⟩
      have hlt : j < a.2.length := by
        rw [n1]
        exact (List.getElem?_eq_some_iff.mp ho).1
      obtain ⟨b, h1, h2⟩ := k1 j a.2[j] (List.getElem?_eq_getElem hlt)
      rw [ho] at h2
      cases h2
      have h3 := e3 j a.2[j] (List.getElem?_eq_getElem hlt)
      cases hq : a.2[j] with
      | none =>
        rw [hq] at h1 h3
        simp only [xtO, Option.some.injEq] at h1
        subst h1
        exact h3
      | some i =>
        rw [hq] at h1 h3
        simp only [xtO] at h1
        split at h1
        · rename_i j' hj'
          cases h1
          obtain ⟨q, hq1, hq2⟩ := h3
          obtain ⟨q', h4, h5⟩ := hp.2 i j' (by rw [List.getElem?_map, hj']; rfl)
          rw [hq1] at h5
          cases h5
          exact ⟨q, h4, hq2⟩
        · cases h1
    · cases h
/-- the machine's cells put back -/
def xwback : List (Nat × va_E) → List Nat → va_W → va_W
  | y :: ys, j :: js, ws => xwback ys js (ws.set j y)
  | _, _, ws => ws
theorem xback_ok {ρ ρp : List Int} {ad adp ex exp : List Nat} {tys : List (ClassId × FieldType)} {θ : List xI} {φ : List Nat} {κ : List xV} (hv : xThv ρ (θ.map some) ρp) (hp : xPhv ad (φ.map some) adp) (hk : xKv ad ex (κ.map some) exp) : ∀ {cs : List xC} {js : List Nat} {h h' : List xC} {ys : List (Nat × va_E)} {ws : va_W}, xback θ φ κ cs js h = some h' → xHp ρ ad ex tys h ws → xAll2 (fun x (q : Nat × va_E) => xcell xcn ρp adp exp tys x q.2) cs ys → xAll2 (fun (j : Nat) (q : Nat × va_E) => ad[j]? = some q.1) js ys → xHp ρ ad ex tys h' (xwback ys js ws)
  | [], [], h, h', ys, ws, hb, hh, hc, hj => by
    simp only [xback, Option.some.injEq] at hb
    subst hb
    have := hc.nil
    subst this
    exact hh
  | c :: cs, j :: js, h, h', ys, ws, hb, hh, hc, hj => by
    simp only [xback] at hb
    split at hb
    · rename_i c' hc'
      obtain ⟨y, ys', rfl, c1, c2⟩ := hc.cons
      have j1 := hj.1
      have j2 := hj.2
      show xHp ρ ad ex tys h' (xwback ys' js (ws.set j y))
      exact xback_ok hv hp hk hb (hh.put (q := y.1) j1 (xtC_ok hv hp hk hc' c1)) c2 j2
    · cases hb
  | [], _ :: _, h, h', ys, ws, hb, hh, hc, hj => by cases hb
  | _ :: _, [], h, h', ys, ws, hb, hh, hc, hj => by cases hb
/-- what stands at a place, when cells are put back -/
theorem xwback_at : ∀ {ys : List (Nat × va_E)} {js : List Nat} {ws : va_W} {k : Nat} {q : Nat × va_E}, (xwback ys js ws)[k]? = some q → (∃ i : Nat, js[i]? = some k ∧ ys[i]? = some q) ∨ ((∀ i : Nat, i < ys.length → js[i]? ≠ some k) ∧ ws[k]? = some q)
  | [], js, ws, k, q, h => by
    cases js <;> exact Or.inr ⟨fun i hi => absurd hi (Nat.not_lt_zero i), h⟩
  | y :: ys, [], ws, k, q, h => Or.inr ⟨fun i _ => by simp, h⟩
  | y :: ys, j :: js, ws, k, q, h => by
    rcases xwback_at (show (xwback ys js (ws.set j y))[k]? = some q from h) with ⟨i, h1, h2⟩ | ⟨h1, h2⟩
    · exact Or.inl ⟨i + 1, by simpa using h1, by simpa using h2⟩
    · by_cases hk : j = k
      · subst hk
        rw [List.getElem?_set_self'] at h2
        cases hw : ws[j]? with
        | none => rw [hw] at h2; cases h2
        | some w =>
          rw [hw] at h2
          have h2 : y = q := Option.some.inj h2
          subst h2
          exact Or.inl ⟨0, by simp, by simp⟩
      · rw [List.getElem?_set_ne hk] at h2
        refine Or.inr ⟨fun i hi => ?_, h2⟩
        cases i with
        | zero => simpa using hk
        | succ i => simpa using h1 i (by simpa using hi)
