/-! The same test of a pattern, quicker for the kernel: symbols are told in the order in which they are met; bounds and symbols are looked up in rows of eight. -/
def xRw8 {α : Type} : Nat → List α → List (List α)
  | 0, _ => []
  | f + 1, l => l.take 8 :: xRw8 f (l.drop 8)
def xLk {α : Type} (cs : List (List α)) (k : Nat) : Option α := match cs[k / 8]? with
  | some c => c[k % 8]?
  | none => none
def xLx {α : Type} (l : List α) : List (List α) := xRw8 (l.length / 8 + 1) l
theorem xLk_go {α : Type} : ∀ (f : Nat) (l : List α) (k : Nat), l.length ≤ 8 * f → xLk (xRw8 f l) k = l[k]?
  | 0, l, k, h => by
    have : l = [] := List.eq_nil_of_length_eq_zero (by omega)
    subst this
    simp [xLk, xRw8]
  | f + 1, l, k, h => by
    by_cases hk : k < 8
    · have e1 : k / 8 = 0 := Nat.div_eq_of_lt hk
      have e2 : k % 8 = k := Nat.mod_eq_of_lt hk
      unfold xLk
      rw [e1, e2]
      simp only [xRw8, List.getElem?_cons_zero]
      rw [List.getElem?_take, if_pos hk]
    · have e1 : k / 8 = (k - 8) / 8 + 1 := by omega
      have e2 : k % 8 = (k - 8) % 8 := by omega
      have ih := xLk_go f (l.drop 8) (k - 8) (by rw [List.length_drop]; omega)
      unfold xLk at ih ⊢
      rw [e1, e2]
      simp only [xRw8, List.getElem?_cons_succ]
      rw [ih, List.getElem?_drop, show 8 + (k - 8) = k by omega]
theorem xLk_ok {α : Type} (l : List α) (k : Nat) : xLk (xLx l) k = l[k]? := xLk_go _ l k (by omega)
def xrgC (cs : List (List xB)) (a : xI) : Option xB := match a.1 with
  | none => some (a.2, a.2)
  | some k => match xLk cs k with
    | some r => some (r.1 + a.2, r.2 + a.2)
    | none => none
theorem xrgC_eq (σ : List xB) (a : xI) : xrgC (xLx σ) a = xrg σ a := by
  obtain ⟨o, c⟩ := a
  cases o with
  | none => rfl
  | some k =>
    simp only [xrgC, xrg, xLk_ok] <;> rfl
def xelrC (cs : List (List xB)) (u : xI ⊕ xB) : Option xB := match u with
  | .inl a => xrgC cs a
  | .inr r => some r
theorem xelrC_eq (σ : List xB) (u : xI ⊕ xB) : xelrC (xLx σ) u = xelr σ u := by
  cases u with
  | inl a => exact xrgC_eq σ a
  | inr r => rfl
def xidI : Nat → Nat → xTh → xTh
  | 0, _, r => r
  | n + 1, k, r => some (some k, 0) :: xidI n (k + 1) r
def xidN : Nat → Nat → xPh
  | 0, _ => []
  | n + 1, k => some k :: xidN n (k + 1)
theorem xidI_at : ∀ {n k : Nat} {r : xTh} {i : Nat}, i < n → (xidI n k r)[i]? = some (some (some (k + i), 0))
  | 0, _, _, i, h => absurd h (Nat.not_lt_zero i)
  | n + 1, k, r, 0, _ => by simp [xidI]
  | n + 1, k, r, i + 1, h => by
    have := xidI_at (n := n) (k := k + 1) (r := r) (i := i) (by omega)
    simp only [xidI, List.getElem?_cons_succ]
    rw [this]
    have e : k + 1 + i = k + (i + 1) := by omega
    rw [e]
theorem xidN_at : ∀ {n k i : Nat}, i < n → (xidN n k)[i]? = some (some (k + i))
  | 0, _, i, h => absurd h (Nat.not_lt_zero i)
  | n + 1, k, 0, _ => by simp [xidN]
  | n + 1, k, i + 1, h => by
    have := xidN_at (n := n) (k := k + 1) (i := i) (by omega)
    simp only [xidN, List.getElem?_cons_succ]
    rw [this]
    have e : k + 1 + i = k + (i + 1) := by omega
    rw [e]
theorem xidN_len : ∀ (n k : Nat), (xidN n k).length = n
  | 0, _ => rfl
  | n + 1, k => by simp [xidN, xidN_len n]
theorem xidI_ge : ∀ {n k : Nat} {r : xTh} {i : Nat}, (xidI n k r)[n + i]? = r[i]?
  | 0, k, r, i => by simp [xidI]
  | n + 1, k, r, i => by
    have := xidI_ge (n := n) (k := k + 1) (r := r) (i := i)
    rw [show n + 1 + i = n + i + 1 by omega]
    simp only [xidI, List.getElem?_cons_succ]
    exact this
theorem xidI_set : ∀ {n k : Nat} {r : xTh} {i : Nat} {v : Option xI}, (xidI n k r).set (n + i) v = xidI n k (r.set i v)
  | 0, k, r, i, v => by simp [xidI]
  | n + 1, k, r, i, v => by
    have := xidI_set (n := n) (k := k + 1) (r := r) (i := i) (v := v)
    rw [show n + 1 + i = n + i + 1 by omega]
    simp only [xidI, List.set_cons_succ]
    rw [this]
def xidL : Nat → Nat → List xI → List xI
  | 0, _, r => r
  | n + 1, k, r => (some k, 0) :: xidL n (k + 1) r
theorem xidL_map : ∀ {n k : Nat} {r : List xI}, (xidL n k r).map some = xidI n k (r.map some)
  | 0, _, _ => rfl
  | n + 1, k, r => by
    simp only [xidL, xidI, List.map_cons]
    rw [xidL_map]
/-- what is told so far, as the test has it -/
def xTw (n0 : Nat) (acc : List xI) (m : Nat) : xTh := xidI n0 0 (acc.reverse.map some ++ List.replicate m none)
abbrev xA2 : Type := Nat × List xI
def xmIF (cs : List (List xB)) (n0 : Nat) (s : xA2) (p a : xI) : Option xA2 := match p.1 with
  | none => (match xrgC cs a with
    | some r => bif xeq r.1 p.2 && xeq r.2 p.2 then some s else none
    | none => none)
  | some k => bif Nat.blt k n0 then (match a.1 with
      | some j => bif Nat.beq j k && xeq a.2 p.2 then some s else none
      | none => none)
    else (bif Nat.beq k s.1 then some (s.1 + 1, (a.1, a.2 - p.2) :: s.2)
      else (bif Nat.blt k s.1 then (match s.2[s.1 - 1 - k]? with
        | some b => bif xsy a b && xeq a.2 (b.2 + p.2) then some s else none
        | none => none) else none))
/-- the quick step is the slow one -/
def xSm (n0 : Nat) (s s' : xA2) (f : xTh → Option xTh) : Prop := s.1 = n0 + s.2.length → (s'.1 = n0 + s'.2.length ∧ s.2.length ≤ s'.2.length ∧ ∀ m, f (xTw n0 s.2 (m + (s'.2.length - s.2.length))) = some (xTw n0 s'.2 m))
theorem xSm_same {n0 : Nat} {s : xA2} {f : xTh → Option xTh} (h : s.1 = n0 + s.2.length → ∀ m, f (xTw n0 s.2 m) = some (xTw n0 s.2 m)) : xSm n0 s s f := fun hs => ⟨hs, Nat.le_refl _, fun m => by
  rw [Nat.sub_self, Nat.add_zero]
  exact h hs m⟩
theorem x_bifS {α : Type} {c : Bool} {x y : α} (h : (bif c then some x else none) = some y) : c = true ∧ x = y := by
  cases c with
  | true => exact ⟨rfl, Option.some.inj h⟩
  | false => cases h
theorem xmIF_ok {σ : List xB} {n0 : Nat} {s s' : xA2} {p a : xI} (h : xmIF (xLx σ) n0 s p a = some s') : xSm n0 s s' (fun θ => xmI σ θ p a) := by
  obtain ⟨o, c⟩ := p
  cases o with
  | none =>
    simp only [xmIF, xrgC_eq] at h
    split at h
    · rename_i r hr
      obtain ⟨hb, rfl⟩ := x_bifS h
      refine xSm_same (fun _ m => ?_)
      simp only [xmI]
      rw [hr]
      dsimp only
      rw [hb]
      rfl
    · cases h
  | some k =>
    simp only [xmIF] at h
    cases hk : Nat.blt k n0 with
    | true =>
      rw [hk] at h
      simp only [cond_true] at h
      have hlt : k < n0 := by
        unfold Nat.blt at hk
        exact Nat.le_of_ble_eq_true hk
      split at h
      · rename_i j hj
        obtain ⟨hb, rfl⟩ := x_bifS h
        rw [Bool.and_eq_true, xeq_iff] at hb
        have hjk := Nat.eq_of_beq_eq_true hb.1
        subst hjk
        refine xSm_same (fun _ m => ?_)
        have e : (xTw n0 s.2 m)[j]? = some (some (some (0 + j), 0)) := xidI_at hlt
        simp only [xmI]
        rw [e]
        dsimp only
        have e1 : xsy a (some (0 + j), 0) = true := by
          simp only [xsy]
          rw [hj]
          simp
        have e2 : xeq a.2 (0 + c) = true := by
          rw [xeq_iff]
          have := hb.2
          omega
        rw [e1, e2]
        rfl
      · cases h
    | false =>
      rw [hk] at h
      simp only [cond_false] at h
      have hge : n0 ≤ k := x_nblt2 hk
      cases hn : Nat.beq k s.1 with
      | true =>
        rw [hn] at h
        simp only [cond_true, Option.some.injEq] at h
        subst h
        intro hs
        have hkn := Nat.eq_of_beq_eq_true hn
        refine ⟨?_, ?_, fun m => ?_⟩
        · simp only [List.length_cons]
          omega
        · simp only [List.length_cons]
          omega
        · have hl : ((a.1, a.2 - c) :: s.2).length - s.2.length = 1 := by
            simp only [List.length_cons]
            omega
          dsimp only
          rw [hl]
          have ek : k = n0 + s.2.length := by omega
          have e : (xTw n0 s.2 (m + 1))[k]? = some none := by
            unfold xTw
            rw [ek, xidI_ge, List.getElem?_append_right (by simp)]
            simp
          simp only [xmI]
          rw [e]
          dsimp only
          unfold xTw
          rw [ek, xidI_set]
          congr 2
          rw [List.set_append_right _ _ (by simp)]
          simp [List.replicate_succ]
      | false =>
        rw [hn] at h
        simp only [cond_false] at h
        cases hl : Nat.blt k s.1 with
        | false => rw [hl] at h; cases h
        | true =>
          rw [hl] at h
          simp only [cond_true] at h
          have hlt : k < s.1 := by
            unfold Nat.blt at hl
            exact Nat.le_of_ble_eq_true hl
          split at h
          · rename_i b hb0
            obtain ⟨hb, rfl⟩ := x_bifS h
            refine xSm_same (fun hs m => ?_)
            have e : (xTw n0 s.2 m)[k]? = some (some b) := by
              unfold xTw
              rw [show k = n0 + (k - n0) by omega, xidI_ge, List.getElem?_append_left (by simp; omega), List.getElem?_map, List.getElem?_reverse (by omega)]
              rw [show s.2.length - 1 - (k - n0) = s.1 - 1 - k by omega, hb0]
              rfl
            simp only [xmI]
            rw [e]
            dsimp only
            rw [hb]
            rfl
          · cases h
def xmEF (cs : List (List xB)) (n0 : Nat) (s : xA2) : (xI ⊕ xB) → (xI ⊕ xB) → Option xA2
  | .inr r, u => (match xelrC cs u with
    | some q => bif xle r.1 q.1 && xle q.2 r.2 then some s else none
    | none => none)
  | .inl p, .inl a => xmIF cs n0 s p a
  | .inl p, .inr q => (match p.1 with
    | none => bif xeq q.1 p.2 && xeq q.2 p.2 then some s else none
    | some _ => none)
theorem xmEF_ok {σ : List xB} {n0 : Nat} {s s' : xA2} : ∀ {p u : xI ⊕ xB}, xmEF (xLx σ) n0 s p u = some s' → xSm n0 s s' (fun θ => xmE σ θ p u)
  | .inr r, u, h => by
    simp only [xmEF, xelrC_eq] at h
    split at h
    · rename_i q hq
      obtain ⟨hb, rfl⟩ := x_bifS h
      refine xSm_same (fun _ m => ?_)
      simp only [xmE]
      rw [hq]
      dsimp only
      rw [hb]
      rfl
    · cases h
  | .inl p, .inl a, h => xmIF_ok (show xmIF (xLx σ) n0 s p a = some s' from h)
  | .inl (none, c), .inr q, h => by
    simp only [xmEF] at h
    obtain ⟨hb, rfl⟩ := x_bifS h
    refine xSm_same (fun _ m => ?_)
    simp only [xmE]
    rw [hb]
    rfl
  | .inl (some k, c), .inr q, h => by cases h
theorem xSm_comp {n0 : Nat} {s s1 s2 : xA2} {f g k : xTh → Option xTh} (h1 : xSm n0 s s1 f) (h2 : xSm n0 s1 s2 g) (hk : ∀ θ θ', f θ = some θ' → k θ = g θ') : xSm n0 s s2 k := fun hs => by
  obtain ⟨a1, a2, a3⟩ := h1 hs
  obtain ⟨b1, b2, b3⟩ := h2 a1
  refine ⟨b1, by omega, fun m => ?_⟩
  have q := a3 (m + (s2.2.length - s1.2.length))
  rw [show m + (s2.2.length - s1.2.length) + (s1.2.length - s.2.length) = m + (s2.2.length - s.2.length) by omega] at q
  rw [hk _ _ q]
  exact b3 m
def xmGF (cs : List (List xB)) (n0 : Nat) : Nat → xA2 → List xG → List xG → Option xA2
  | 0, _, _, _ => none
  | _ + 1, s, [], [] => some s
  | f + 1, s, g :: ps, v :: us => (match xmEF cs n0 s g.2 v.2 with
    | none => none
    | some s' => bif Nat.beq g.1 v.1 then xmGF cs n0 f s' ps us else (bif Nat.blt g.1 v.1 then xmGF cs n0 f s' ps ((v.1 - g.1, v.2) :: us) else xmGF cs n0 f s' ((g.1 - v.1, g.2) :: ps) us))
  | _ + 1, _, [], _ :: _ => none
  | _ + 1, _, _ :: _, [] => none
theorem xmGF_ok {σ : List xB} {n0 : Nat} : ∀ {f : Nat} {s s' : xA2} {ps us : List xG}, xmGF (xLx σ) n0 f s ps us = some s' → xSm n0 s s' (fun θ => xmG σ f θ ps us)
  | 0, _, _, _, _, h => by cases h
  | f + 1, s, s', [], [], h => by
    simp only [xmGF, Option.some.injEq] at h
    subst h
    exact xSm_same (fun _ m => by simp only [xmG])
  | f + 1, s, s', [], _ :: _, h => by cases h
  | f + 1, s, s', _ :: _, [], h => by cases h
  | f + 1, s, s', g :: ps, v :: us, h => by
    simp only [xmGF] at h
    split at h
    · cases h
    · rename_i s1 h1
      cases hb : Nat.beq g.1 v.1 with
      | true =>
        rw [hb] at h
        simp only [cond_true] at h
        refine xSm_comp (xmEF_ok h1) (xmGF_ok h) (fun θ θ' he => ?_)
        have he : xmE σ θ g.2 v.2 = some θ' := he
        simp only [xmG, he, hb, cond_true]
      | false =>
        rw [hb] at h
        simp only [cond_false] at h
        cases hb2 : Nat.blt g.1 v.1 with
        | true =>
          rw [hb2] at h
          simp only [cond_true] at h
          refine xSm_comp (xmEF_ok h1) (xmGF_ok h) (fun θ θ' he => ?_)
          have he : xmE σ θ g.2 v.2 = some θ' := he
          simp only [xmG, he, hb, hb2, cond_true, cond_false]
        | false =>
          rw [hb2] at h
          simp only [cond_false] at h
          refine xSm_comp (xmEF_ok h1) (xmGF_ok h) (fun θ θ' he => ?_)
          have he : xmE σ θ g.2 v.2 = some θ' := he
          simp only [xmG, he, hb, hb2, cond_true, cond_false]
/-! Values, cells, the heap. -/
abbrev xA3 : Type := xA2 × (xPh × xKp)
/-- c: 0 where cells are looked for, else how many cells there are, each at its own place -/
def xmRF (c : Nat) (φ : xPh) (i j : Nat) : Option xPh := match c with
  | 0 => xmR φ i j
  | c' + 1 => bif Nat.beq i j && Nat.ble i c' then some φ else none
theorem xmRF_ok {c : Nat} {φ φ' : xPh} {i j : Nat} (h : xmRF c φ i j = some φ') (hc : c = 0 ∨ φ = xidN c 0) : xmR φ i j = some φ' ∧ (c = 0 ∨ φ' = xidN c 0) := by
  cases c with
  | zero => exact ⟨h, Or.inl rfl⟩
  | succ c' =>
    have hφ : φ = xidN (c' + 1) 0 := by
      rcases hc with hc | hc
      · exact absurd hc (by omega)
      · exact hc
    simp only [xmRF] at h
    obtain ⟨hb, rfl⟩ := x_bifS h
    rw [Bool.and_eq_true] at hb
    have e := Nat.eq_of_beq_eq_true hb.1
    have hle := Nat.le_of_ble_eq_true hb.2
    subst e
    refine ⟨?_, Or.inr hφ⟩
    have e1 : φ[i]? = some (some (0 + i)) := by
      rw [hφ]
      exact xidN_at (by omega)
    unfold xmR
    rw [e1]
    dsimp only
    rw [Nat.zero_add, Nat.beq_refl]
    rfl
def xmVF (cs : List (List xB)) (n0 c : Nat) (t : xA3) : xV → xV → Option xA3
  | .inl p, .inl a => (match xmIF cs n0 t.1 p a with
    | some s => some (s, t.2)
    | none => none)
  | .inr (.inl p), .inr (.inl a) => (match xmIF cs n0 t.1 p a with
    | some s => some (s, t.2)
    | none => none)
  | .inr (.inr (.inl none)), .inr (.inr (.inl none)) => some t
  | .inr (.inr (.inl (some i))), .inr (.inr (.inl (some j))) => (match xmRF c t.2.1 i j with
    | some φ => some (t.1, φ, t.2.2)
    | none => none)
  | .inr (.inr (.inr k)), a => (match xmX t.2.2 k a with
    | some κ => some (t.1, t.2.1, κ)
    | none => none)
  | _, _ => none
/-- the same for what is told of symbols, cells, refs outside -/
def xS3 (n0 c : Nat) (t t' : xA3) (f : xT3 → Option xT3) : Prop := t.1.1 = n0 + t.1.2.length → (c = 0 ∨ t.2.1 = xidN c 0) → (t'.1.1 = n0 + t'.1.2.length ∧ t.1.2.length ≤ t'.1.2.length ∧ (c = 0 ∨ t'.2.1 = xidN c 0) ∧ ∀ m, f (xTw n0 t.1.2 (m + (t'.1.2.length - t.1.2.length)), t.2) = some (xTw n0 t'.1.2 m, t'.2))
theorem xS3_sm {n0 c : Nat} {t : xA3} {s' : xA2} {f : xTh → Option xTh} {k : xT3 → Option xT3} (h : xSm n0 t.1 s' f) (hk : ∀ θ θ', f θ = some θ' → k (θ, t.2) = some (θ', t.2)) : xS3 n0 c t (s', t.2) k := fun hs hc => by
  obtain ⟨a1, a2, a3⟩ := h hs
  exact ⟨a1, a2, hc, fun m => hk _ _ (a3 m)⟩
theorem xS3_same {n0 c : Nat} {t : xA3} {q : xPh × xKp} {k : xT3 → Option xT3} (hc : (c = 0 ∨ t.2.1 = xidN c 0) → (c = 0 ∨ q.1 = xidN c 0)) (hk : (c = 0 ∨ t.2.1 = xidN c 0) → ∀ θ, k (θ, t.2) = some (θ, q)) : xS3 n0 c t (t.1, q) k := fun hs h => ⟨hs, Nat.le_refl _, hc h, fun m => by
  rw [Nat.sub_self, Nat.add_zero]
  exact hk h _⟩
theorem xS3_comp {n0 c : Nat} {t t1 t2 : xA3} {f g k : xT3 → Option xT3} (h1 : xS3 n0 c t t1 f) (h2 : xS3 n0 c t1 t2 g) (hk : ∀ θ θ', f θ = some θ' → k θ = g θ') : xS3 n0 c t t2 k := fun hs hc => by
  obtain ⟨a1, a2, a4, a3⟩ := h1 hs hc
  obtain ⟨b1, b2, b4, b3⟩ := h2 a1 a4
  refine ⟨b1, by omega, b4, fun m => ?_⟩
  have q := a3 (m + (t2.1.2.length - t1.1.2.length))
  rw [show m + (t2.1.2.length - t1.1.2.length) + (t1.1.2.length - t.1.2.length) = m + (t2.1.2.length - t.1.2.length) by omega] at q
  rw [hk _ _ q]
  exact b3 m
theorem xmVF_ok {σ : List xB} {n0 c : Nat} {t t' : xA3} : ∀ {p a : xV}, xmVF (xLx σ) n0 c t p a = some t' → xS3 n0 c t t' (fun θ => xmV σ θ p a)
  | .inl p, .inl a, h => by
    simp only [xmVF] at h
    split at h
    · rename_i s hs
      cases h
      refine xS3_sm (xmIF_ok hs) (fun θ θ' he => ?_)
      have he : xmI σ θ p a = some θ' := he
      simp only [xmV, he]
    · cases h
  | .inr (.inl p), .inr (.inl a), h => by
    simp only [xmVF] at h
    split at h
    · rename_i s hs
      cases h
      refine xS3_sm (xmIF_ok hs) (fun θ θ' he => ?_)
      have he : xmI σ θ p a = some θ' := he
      simp only [xmV, he]
    · cases h
  | .inr (.inr (.inl none)), .inr (.inr (.inl none)), h => by
    simp only [xmVF, Option.some.injEq] at h
    subst h
    exact xS3_same (t := t) (q := t.2) (fun h => h) (fun _ θ => by simp only [xmV])
  | .inr (.inr (.inl (some i))), .inr (.inr (.inl (some j))), h => by
    simp only [xmVF] at h
    split at h
    · rename_i φ hφ
      cases h
      refine xS3_same (t := t) (q := (φ, t.2.2)) (fun hc => (xmRF_ok hφ hc).2) (fun hc θ => ?_)
      simp only [xmV, (xmRF_ok hφ hc).1]
    · cases h
  | .inr (.inr (.inr k)), a, h => by
    have h : (match xmX t.2.2 k a with
      | some κ => some (t.1, t.2.1, κ)
      | none => none) = some t' := by
      cases a with
      | inl x => simpa only [xmVF] using h
      | inr a => cases a with
        | inl x => simpa only [xmVF] using h
        | inr a => cases a with
          | inl x => cases x <;> simpa only [xmVF] using h
          | inr x => simpa only [xmVF] using h
    split at h
    · rename_i κ hκ
      cases h
      refine xS3_same (t := t) (q := (t.2.1, κ)) (fun h => h) (fun _ θ => ?_)
      cases a with
      | inl x => simp only [xmV, hκ]
      | inr a => cases a with
        | inl x => simp only [xmV, hκ]
        | inr a => cases a with
          | inl x => cases x <;> simp only [xmV, hκ]
          | inr x => simp only [xmV, hκ]
    · cases h
  | .inl _, .inr _, h => by cases h
  | .inr (.inl _), .inl _, h => by cases h
  | .inr (.inl _), .inr (.inr _), h => by cases h
  | .inr (.inr (.inl none)), .inl _, h => by cases h
  | .inr (.inr (.inl none)), .inr (.inl _), h => by cases h
  | .inr (.inr (.inl none)), .inr (.inr (.inl (some _))), h => by cases h
  | .inr (.inr (.inl none)), .inr (.inr (.inr _)), h => by cases h
  | .inr (.inr (.inl (some _))), .inl _, h => by cases h
  | .inr (.inr (.inl (some _))), .inr (.inl _), h => by cases h
  | .inr (.inr (.inl (some _))), .inr (.inr (.inl none)), h => by cases h
  | .inr (.inr (.inl (some _))), .inr (.inr (.inr _)), h => by cases h
def xmVsF (cs : List (List xB)) (n0 c : Nat) : xA3 → List xV → List xV → Option xA3
  | t, [], [] => some t
  | t, p :: ps, a :: as => (match xmVF cs n0 c t p a with
    | some t' => xmVsF cs n0 c t' ps as
    | none => none)
  | _, _, _ => none
theorem xmVsF_ok {σ : List xB} {n0 c : Nat} : ∀ {t t' : xA3} {ps as : List xV}, xmVsF (xLx σ) n0 c t ps as = some t' → xS3 n0 c t t' (fun θ => xmVs σ θ ps as)
  | t, t', [], [], h => by
    simp only [xmVsF, Option.some.injEq] at h
    subst h
    exact xS3_same (t := t) (q := t.2) (fun h => h) (fun _ θ => by simp only [xmVs])
  | t, t', p :: ps, a :: as, h => by
    simp only [xmVsF] at h
    split at h
    · rename_i t1 h1
      refine xS3_comp (xmVF_ok h1) (xmVsF_ok h) (fun θ θ' he => ?_)
      have he : xmV σ θ p a = some θ' := he
      simp only [xmVs, he]
    · cases h
  | t, t', [], _ :: _, h => by cases h
  | t, t', _ :: _, [], h => by cases h
def xmOsF (c : Nat) : xPh → List (Option Nat) → List (Option Nat) → Option xPh
  | φ, [], [] => some φ
  | φ, none :: ps, none :: us => xmOsF c φ ps us
  | φ, some i :: ps, some j :: us => (match xmRF c φ i j with
    | some φ' => xmOsF c φ' ps us
    | none => none)
  | _, _, _ => none
theorem xmOsF_ok {c : Nat} : ∀ {φ φ' : xPh} {ps us : List (Option Nat)}, xmOsF c φ ps us = some φ' → (c = 0 ∨ φ = xidN c 0) → xmOs φ ps us = some φ' ∧ (c = 0 ∨ φ' = xidN c 0)
  | φ, φ', [], [], h, hc => by
    simp only [xmOsF, Option.some.injEq] at h
    subst h
    exact ⟨by simp only [xmOs], hc⟩
  | φ, φ', none :: ps, none :: us, h, hc => by
    simp only [xmOsF] at h
    simp only [xmOs]
    exact xmOsF_ok h hc
  | φ, φ', some i :: ps, some j :: us, h, hc => by
    simp only [xmOsF] at h
    split at h
    · rename_i φ1 h1
      obtain ⟨a1, a2⟩ := xmRF_ok h1 hc
      simp only [xmOs]
      rw [a1]
      exact xmOsF_ok h a2
    · cases h
  | φ, φ', [], _ :: _, h, _ => by cases h
  | φ, φ', none :: _, [], h, _ => by cases h
  | φ, φ', some _ :: _, [], h, _ => by cases h
  | φ, φ', none :: _, some _ :: _, h, _ => by cases h
  | φ, φ', some _ :: _, none :: _, h, _ => by cases h
def xmCF (cs : List (List xB)) (n0 c : Nat) (t : xA3) : xC → xC → Option xA3
  | .inl o, .inl o' => bif Nat.beq o.1 o'.1 then xmVsF cs n0 c t o.2 o'.2 else none
  | .inr (.inl a), .inr (.inl b) => bif Nat.beq a.1 b.1 && Nat.beq a.2.1 b.2.1 then (match xmGF cs n0 600 t.1 a.2.2 b.2.2 with
    | some s => some (s, t.2)
    | none => none) else none
  | .inr (.inr (.inl a)), .inr (.inr (.inl b)) => bif Nat.beq a.1 b.1 then (match xmGF cs n0 600 t.1 a.2 b.2 with
    | some s => some (s, t.2)
    | none => none) else none
  | .inr (.inr (.inr a)), .inr (.inr (.inr b)) => bif Nat.beq a.1 b.1 then (match xmOsF c t.2.1 a.2 b.2 with
    | some φ => some (t.1, φ, t.2.2)
    | none => none) else none
  | _, _ => none
theorem x_bifN {α : Type} {c : Bool} {x : Option α} {y : α} (h : (bif c then x else none) = some y) : c = true ∧ x = some y := by
  cases c with
  | true => exact ⟨rfl, h⟩
  | false => cases h
theorem xmCF_ok {σ : List xB} {n0 c : Nat} {t t' : xA3} : ∀ {p x : xC}, xmCF (xLx σ) n0 c t p x = some t' → xS3 n0 c t t' (fun θ => xmC σ θ p x)
  | .inl o, .inl o', h => by
    simp only [xmCF] at h
    obtain ⟨hb, h⟩ := x_bifN h
    have := xmVsF_ok h
    intro hs hc
    obtain ⟨a1, a2, a3, a4⟩ := this hs hc
    refine ⟨a1, a2, a3, fun m => ?_⟩
    simp only [xmC]
    rw [hb]
    exact a4 m
  | .inr (.inl a), .inr (.inl b), h => by
    simp only [xmCF] at h
    obtain ⟨hb, h⟩ := x_bifN h
    split at h
    · rename_i s hs
      cases h
      refine xS3_sm (xmGF_ok hs) (fun θ θ' he => ?_)
      have he : xmG σ 600 θ a.2.2 b.2.2 = some θ' := he
      simp only [xmC, hb, cond_true, he]
    · cases h
  | .inr (.inr (.inl a)), .inr (.inr (.inl b)), h => by
    simp only [xmCF] at h
    obtain ⟨hb, h⟩ := x_bifN h
    split at h
    · rename_i s hs
      cases h
      refine xS3_sm (xmGF_ok hs) (fun θ θ' he => ?_)
      have he : xmG σ 600 θ a.2 b.2 = some θ' := he
      simp only [xmC, hb, cond_true, he]
    · cases h
  | .inr (.inr (.inr a)), .inr (.inr (.inr b)), h => by
    simp only [xmCF] at h
    obtain ⟨hb, h⟩ := x_bifN h
    split at h
    · rename_i φ hφ
      cases h
      refine xS3_same (t := t) (q := (φ, t.2.2)) (fun hc => (xmOsF_ok hφ hc).2) (fun hc θ => ?_)
      simp only [xmC, hb, cond_true, (xmOsF_ok hφ hc).1]
    · cases h
  | .inl _, .inr _, h => by cases h
  | .inr (.inl _), .inl _, h => by cases h
  | .inr (.inl _), .inr (.inr _), h => by cases h
  | .inr (.inr (.inl _)), .inl _, h => by cases h
  | .inr (.inr (.inl _)), .inr (.inl _), h => by cases h
  | .inr (.inr (.inl _)), .inr (.inr (.inr _)), h => by cases h
  | .inr (.inr (.inr _)), .inl _, h => by cases h
  | .inr (.inr (.inr _)), .inr (.inl _), h => by cases h
  | .inr (.inr (.inr _)), .inr (.inr (.inl _)), h => by cases h
/-- cells that are looked for -/
def xmHF (cs : List (List xB)) (n0 : Nat) (hs : List (List xC)) : Nat → List xC → xA3 → Option xA3
  | _, [], t => some t
  | i, p :: ps, t => (match t.2.1[i]? with
    | some (some j) => (match xLk hs j with
      | some x => (match xmCF cs n0 0 t p x with
        | some t' => xmHF cs n0 hs (i + 1) ps t'
        | none => none)
      | none => none)
    | _ => none)
theorem xmHF_ok {σ : List xB} {n0 : Nat} {h : List xC} : ∀ {ps : List xC} {i : Nat} {t t' : xA3}, xmHF (xLx σ) n0 (xLx h) i ps t = some t' → xS3 n0 0 t t' (fun θ => xmH σ h i ps θ)
  | [], i, t, t', hh => by
    simp only [xmHF, Option.some.injEq] at hh
    subst hh
    exact xS3_same (t := t) (q := t.2) (fun h => h) (fun _ θ => by simp only [xmH])
  | p :: ps, i, t, t', hh => by
    simp only [xmHF, xLk_ok] at hh
    split at hh
    · rename_i j hj
      split at hh
      · rename_i x hx
        split at hh
        · rename_i t1 h1
          intro hs hc
          obtain ⟨a1, a2, a4, a3⟩ := xmCF_ok h1 hs hc
          obtain ⟨b1, b2, b4, b3⟩ := xmHF_ok hh a1 a4
          refine ⟨b1, by omega, b4, fun m => ?_⟩
          have q := a3 (m + (t'.1.2.length - t1.1.2.length))
          rw [show m + (t'.1.2.length - t1.1.2.length) + (t1.1.2.length - t.1.2.length) = m + (t'.1.2.length - t.1.2.length) by omega] at q
          have q : xmC σ (xTw n0 t.1.2 (m + (t'.1.2.length - t.1.2.length)), t.2) p x = _ := q
          simp only [xmH]
          rw [hj]
          dsimp only
          rw [hx]
          dsimp only
          rw [q]
          exact b3 m
        · cases hh
      · cases hh
    · cases hh
/-- cells that are each at its own place -/
def xmHI (cs : List (List xB)) (n0 c : Nat) : List xC → List xC → xA3 → Option xA3
  | [], _, t => some t
  | p :: ps, x :: xs, t => (match xmCF cs n0 c t p x with
    | some t' => xmHI cs n0 c ps xs t'
    | none => none)
  | _ :: _, [], _ => none
theorem xmHI_ok {σ : List xB} {n0 c : Nat} {h : List xC} (hc0 : c ≠ 0) : ∀ {ps xs : List xC} {i : Nat} {t t' : xA3}, xmHI (xLx σ) n0 c ps xs t = some t' → xs = h.drop i → i + ps.length ≤ c → xS3 n0 c t t' (fun θ => xmH σ h i ps θ)
  | [], xs, i, t, t', hh, _, _ => by
    simp only [xmHI, Option.some.injEq] at hh
    subst hh
    exact xS3_same (t := t) (q := t.2) (fun h => h) (fun _ θ => by simp only [xmH])
  | p :: ps, [], i, t, t', hh, _, _ => by cases hh
  | p :: ps, x :: xs, i, t, t', hh, hx, hi => by
    simp only [xmHI] at hh
    split at hh
    · rename_i t1 h1
      intro hs hc
      obtain ⟨a1, a2, a4, a3⟩ := xmCF_ok h1 hs hc
      have hxi : h[i]? = some x := by
        have : (h.drop i)[0]? = some x := by
          rw [← hx]
          rfl
        rw [List.getElem?_drop] at this
        exact this
      have hxs : xs = h.drop (i + 1) := by
        have : (h.drop i).drop 1 = xs := by
          rw [← hx]
          rfl
        rw [List.drop_drop] at this
        exact this.symm
      have hlen : i + (p :: ps).length = i + ps.length + 1 := by simp only [List.length_cons]; omega
      obtain ⟨b1, b2, b4, b3⟩ := xmHI_ok hc0 hh hxs (by omega) a1 a4
      refine ⟨b1, by omega, b4, fun m => ?_⟩
      have q := a3 (m + (t'.1.2.length - t1.1.2.length))
      rw [show m + (t'.1.2.length - t1.1.2.length) + (t1.1.2.length - t.1.2.length) = m + (t'.1.2.length - t.1.2.length) by omega] at q
      have q : xmC σ (xTw n0 t.1.2 (m + (t'.1.2.length - t.1.2.length)), t.2) p x = _ := q
      have hj : t.2.1[i]? = some (some i) := by
        rcases hc with hc | hc
        · exact absurd hc hc0
        · rw [hc, xidN_at (by omega), Nat.zero_add]
      simp only [xmH]
      rw [hj]
      dsimp only
      rw [hxi]
      dsimp only
      rw [q]
      exact b3 m
    · cases hh
/-! Bounds. -/
def xInC (cs : List (List xB)) : List xI → List xB → Bool
  | [], [] => true
  | a :: as, r :: rs => (match xrgC cs a with
    | some q => xle r.1 q.1 && (xle q.2 r.2 && xInC cs as rs)
    | none => false)
  | _, _ => false
theorem xInC_ok {σ : List xB} : ∀ {θ : List xI} {τ : List xB}, xInC (xLx σ) θ τ = xIn σ θ τ
  | [], [] => rfl
  | a :: as, r :: rs => by
    simp only [xInC, xIn, xrgC_eq, xInC_ok (θ := as) (τ := rs)] <;> rfl
  | [], _ :: _ => rfl
  | _ :: _, [] => rfl
def xIn0 : Nat → List xB → List xB → Option (List xB)
  | 0, _, τ => some τ
  | n + 1, q :: s, r :: t => bif xle r.1 q.1 && xle q.2 r.2 then xIn0 n s t else none
  | _ + 1, _, _ => none
theorem xIn0_ok {σ : List xB} {θ : List xI} : ∀ {n k : Nat} {s τ τ' : List xB}, xIn0 n s τ = some τ' → s = σ.drop k → xIn σ θ τ' = true → xIn σ (xidL n k θ) τ = true
  | 0, k, s, τ, τ', h, _, h2 => by
    simp only [xIn0, Option.some.injEq] at h
    subst h
    exact h2
  | n + 1, k, [], τ, τ', h, _, _ => by cases h
  | n + 1, k, q :: s, [], τ', h, _, _ => by cases h
  | n + 1, k, q :: s, r :: t, τ', h, hs, h2 => by
    simp only [xIn0] at h
    obtain ⟨hb, h⟩ := x_bifN h
    rw [Bool.and_eq_true, xle_iff, xle_iff] at hb
    have hq : σ[k]? = some q := by
      have : (σ.drop k)[0]? = some q := by
        rw [← hs]
        rfl
      rw [List.getElem?_drop] at this
      exact this
    have hs2 : s = σ.drop (k + 1) := by
      have : (σ.drop k).drop 1 = s := by
        rw [← hs]
        rfl
      rw [List.drop_drop] at this
      exact this.symm
    simp only [xidL, xIn, xrg]
    rw [hq]
    dsimp only
    rw [Bool.and_eq_true, Bool.and_eq_true, xle_iff, xle_iff]
    exact ⟨by omega, by omega, xIn0_ok h hs2 h2⟩
theorem xTot_map {α : Type} : ∀ (l : List α), xTot (l.map some) = some l
  | [] => rfl
  | a :: t => by
    simp only [List.map_cons, xTot]
    rw [xTot_map t]
theorem xnd_up : ∀ {l : List Nat} {s : Nat}, (∀ (i a : Nat), l[i]? = some a → a = s + i) → xnd l = true
  | [], _, _ => rfl
  | a :: t, s, h => by
    have h0 : a = s + 0 := h 0 a (by simp)
    have ht : ∀ (i b : Nat), t[i]? = some b → b = s + 1 + i := fun i b hb => by
      have := h (i + 1) b (by simpa using hb)
      omega
    simp only [xnd]
    rw [Bool.and_eq_true]
    refine ⟨?_, xnd_up ht⟩
    cases hc : t.any (Nat.beq a) with
    | false => rfl
    | true =>
      obtain ⟨b, hb, hab⟩ := List.any_eq_true.mp hc
      have := Nat.eq_of_beq_eq_true hab
      subst this
      obtain ⟨i, hi⟩ := List.getElem?_of_mem hb
      have := ht i a hi
      omega
/-- THE TEST, quicker. n0: so many symbols are themselves; c: as above -/
def xPFF (nx n0 c : Nat) (h : List xC) (σ : List xB) (F : xF) (vs : List xV) (φ0 : xPh) (κ0 : xKp) (P : xPt) : Option (List xI × (List Nat × List xV)) := match xmVsF (xLx σ) n0 c ((n0, []), φ0, κ0) P.2.2.2.1 vs with
  | none => none
  | some t1 => (match (bif Nat.beq c 0 then xmHF (xLx σ) n0 (xLx h) 0 P.1 t1 else bif Nat.beq P.1.length c then xmHI (xLx σ) n0 c P.1 h t1 else none) with
    | none => none
    | some t2 => bif Nat.beq t2.1.1 P.2.1.length then (match xTot t2.2.1 with
      | none => none
      | some φ => (match xTot t2.2.2 with
        | none => none
        | some κ => bif Nat.beq φ.length P.1.length && ((bif Nat.beq c 0 then xnd φ else true) && (κ.all (xKin h.length nx) && ((match xIn0 n0 σ P.2.1 with
            | some τ => xInC (xLx σ) t2.1.2.reverse τ
            | none => false) && xFin σ F (xidL n0 0 t2.1.2.reverse) P.2.2.1))) then some (xidL n0 0 t2.1.2.reverse, φ, κ) else none)) else none)
theorem xPFF_ok {nx n0 c : Nat} {h : List xC} {σ : List xB} {F : xF} {vs : List xV} {φ0 : xPh} {κ0 : xKp} {P : xPt} {r : List xI × (List Nat × List xV)} (hc : c = 0 ∨ φ0 = xidN c 0) (hf : xPFF nx n0 c h σ F vs φ0 κ0 P = some r) : xPFit nx h σ F vs (xidI n0 0 (List.replicate (P.2.1.length - n0) none), φ0, κ0) P = some r := by
  unfold xPFF at hf
  split at hf
  · cases hf
  · rename_i t1 h1
    split at hf
    · cases hf
    · rename_i t2 h2
      obtain ⟨hn, hf⟩ := x_bifN hf
      have hn := Nat.eq_of_beq_eq_true hn
      obtain ⟨a1, a2, a3, a4⟩ := xmVsF_ok h1 (by simp) hc
      have hH : t2.1.1 = n0 + t2.1.2.length ∧ t1.1.2.length ≤ t2.1.2.length ∧ (c = 0 ∨ t2.2.1 = xidN c 0) ∧ ∀ m, xmH σ h 0 P.1 (xTw n0 t1.1.2 (m + (t2.1.2.length - t1.1.2.length)), t1.2) = some (xTw n0 t2.1.2 m, t2.2) := by
        cases hc0 : Nat.beq c 0 with
        | true =>
          rw [hc0] at h2
          simp only [cond_true] at h2
          have e := Nat.eq_of_beq_eq_true hc0
          subst e
          exact xmHF_ok h2 a1 a3
        | false =>
          rw [hc0] at h2
          simp only [cond_false] at h2
          obtain ⟨hl, h2⟩ := x_bifN h2
          have hl := Nat.eq_of_beq_eq_true hl
          have hne : c ≠ 0 := fun e => by
            subst e
            simp at hc0
          exact xmHI_ok (i := 0) hne h2 (by simp) (by omega) a1 a3
      obtain ⟨b1, b2, b3, b4⟩ := hH
      have q1 := a4 (0 + (t2.1.2.length - t1.1.2.length))
      have q2 := b4 0
      simp only [List.length_nil, Nat.sub_zero] at q1
      have e0 : 0 + (t2.1.2.length - t1.1.2.length) + t1.1.2.length = P.2.1.length - n0 := by omega
      rw [e0] at q1
      have e1 : xTw n0 ([] : List xI) (P.2.1.length - n0) = xidI n0 0 (List.replicate (P.2.1.length - n0) none) := by
        unfold xTw
        simp
      rw [e1] at q1
      have e2 : xTw n0 t2.1.2 0 = (xidL n0 0 t2.1.2.reverse).map some := by
        unfold xTw
        rw [xidL_map]
        simp
      rw [e2] at q2
      split at hf
      · cases hf
      · rename_i φ hφ
        split at hf
        · cases hf
        · rename_i κ hκ
          obtain ⟨hb, rfl⟩ := x_bifS hf
          simp only [Bool.and_eq_true] at hb
          obtain ⟨c1, c2, c3, c4, c5⟩ := hb
          have hnd : xnd φ = true := by
            cases hc0 : Nat.beq c 0 with
            | true =>
              rw [hc0] at c2
              exact c2
            | false =>
              have hne : c ≠ 0 := fun e => by
                subst e
                simp at hc0
              rcases b3 with b3 | b3
              · exact absurd b3 hne
              · refine xnd_up (s := 0) (fun i a hi => ?_)
                have e3 := xTot_ok hφ
                rw [b3] at e3
                have e4 : (φ.map some)[i]? = some (some a) := by
                  rw [List.getElem?_map, hi]
                  rfl
                rw [← e3] at e4
                have hlt : i < c := by
                  have := (List.getElem?_eq_some_iff.mp e4).1
                  rw [xidN_len] at this
                  exact this
                rw [xidN_at hlt] at e4
                have := Option.some.inj (Option.some.inj e4)
                omega
          have hin : xIn σ (xidL n0 0 t2.1.2.reverse) P.2.1 = true := by
            split at c4
            · rename_i τ hτ
              rw [xInC_ok] at c4
              exact xIn0_ok hτ (by simp) c4
            · cases c4
          unfold xPFit
          have q1 : xmVs σ (xidI n0 0 (List.replicate (P.2.1.length - n0) none), φ0, κ0) P.2.2.2.1 vs = _ := q1
          rw [q1]
          dsimp only
          rw [q2]
          dsimp only
          rw [xTot_map]
          dsimp only
          rw [hφ]
          dsimp only
          rw [hκ]
          dsimp only
          rw [c1, hnd, c3, hin, c5]
          rfl
/-- cells at their own places, else looked for -/
def xPFL (h : List xC) (σ : List xB) (F : xF) (vs : List xV) (P : xPt) : Option (List xI × (List Nat × List xV)) := match xPFF 20 0 P.1.length h σ F vs (xidN P.1.length 0) [] P with
  | some r => some r
  | none => xPFF 20 0 0 h σ F vs (List.replicate P.1.length none) [] P
theorem xPFL_ok {h : List xC} {σ : List xB} {F : xF} {vs : List xV} {P : xPt} {r : List xI × (List Nat × List xV)} (hf : xPFL h σ F vs P = some r) : ∃ φ0, xPFit 20 h σ F vs (List.replicate P.2.1.length none, φ0, []) P = some r := by
  unfold xPFL at hf
  split at hf
  · rename_i r' hr
    cases hf
    exact ⟨_, xPFF_ok (Or.inr rfl) hr⟩
  · exact ⟨_, xPFF_ok (Or.inl rfl) hf⟩
/-! Ends of a contract. -/
def xsub1C (ct : List (List xI)) (a : xI) : Option xI := match a.1 with
  | none => some a
  | some k => (match xLk ct k with
    | some b => some (b.1, b.2 + a.2)
    | none => none)
theorem xsub1C_eq (θ : List xI) (a : xI) : xsub1C (xLx θ) a = xsub1 θ a := by
  obtain ⟨o, c⟩ := a
  cases o with
  | none => rfl
  | some k =>
    simp only [xsub1C, xsub1, xLk_ok] <;> rfl
def xtEC (ct : List (List xI)) : (xI ⊕ xB) → Option (xI ⊕ xB)
  | .inl a => (match xsub1C ct a with
    | some b => some (.inl b)
    | none => none)
  | .inr r => some (.inr r)
theorem xtEC_eq (θ : List xI) : xtEC (xLx θ) = xtE θ := by
  funext u
  cases u with
  | inl a => simp only [xtEC, xtE, xsub1C_eq] <;> rfl
  | inr r => rfl
def xtVC (ct : List (List xI)) (φ : List Nat) (κ : List xV) : xV → Option xV
  | .inl a => (match xsub1C ct a with
    | some b => some (.inl b)
    | none => none)
  | .inr (.inl a) => (match xsub1C ct a with
    | some b => some (.inr (.inl b))
    | none => none)
  | .inr (.inr (.inl none)) => some (.inr (.inr (.inl none)))
  | .inr (.inr (.inl (some i))) => (match φ[i]? with
    | some j => some (.inr (.inr (.inl (some j))))
    | none => none)
  | .inr (.inr (.inr k)) => bif Nat.blt k 20 then some (.inr (.inr (.inr k))) else κ[k - 20]?
theorem xtVC_eq (θ : List xI) (φ : List Nat) (κ : List xV) : xtVC (xLx θ) φ κ = xtV θ φ κ := by
  funext v
  cases v with
  | inl a => simp only [xtVC, xtV, xsub1C_eq] <;> rfl
  | inr v => cases v with
    | inl a => simp only [xtVC, xtV, xsub1C_eq] <;> rfl
    | inr v => cases v with
      | inl o => cases o <;> rfl
      | inr k => rfl
def xtGC (ct : List (List xI)) (g : xG) : Option xG := match xtEC ct g.2 with
  | some u => some (g.1, u)
  | none => none
theorem xtGC_eq (θ : List xI) : xtGC (xLx θ) = xtG θ := by
  funext g
  simp only [xtGC, xtG, xtEC_eq] <;> rfl
def xtCC (ct : List (List xI)) (φ : List Nat) (κ : List xV) : xC → Option xC
  | .inl o => (match xtL (xtVC ct φ κ) o.2 with
    | some vs => some (.inl (o.1, vs))
    | none => none)
  | .inr (.inl a) => (match xtL (xtGC ct) a.2.2 with
    | some gs => some (.inr (.inl (a.1, a.2.1, gs)))
    | none => none)
  | .inr (.inr (.inl a)) => (match xtL (xtGC ct) a.2 with
    | some gs => some (.inr (.inr (.inl (a.1, gs))))
    | none => none)
  | .inr (.inr (.inr a)) => (match xtL (xtO φ) a.2 with
    | some os => some (.inr (.inr (.inr (a.1, os))))
    | none => none)
theorem xtCC_eq (θ : List xI) (φ : List Nat) (κ : List xV) : xtCC (xLx θ) φ κ = xtC θ φ κ := by
  funext c
  cases c with
  | inl o => simp only [xtCC, xtC, xtVC_eq] <;> rfl
  | inr c => cases c with
    | inl a => simp only [xtCC, xtC, xtGC_eq] <;> rfl
    | inr c => cases c with
      | inl a => simp only [xtCC, xtC, xtGC_eq] <;> rfl
      | inr a => rfl
def xbackC (ct : List (List xI)) (φ : List Nat) (κ : List xV) : List xC → List Nat → List xC → Option (List xC)
  | [], [], h => some h
  | c :: cs, j :: js, h => (match xtCC ct φ κ c with
    | some c' => xbackC ct φ κ cs js (h.set j c')
    | none => none)
  | _, _, _ => none
theorem xbackC_eq (θ : List xI) (φ : List Nat) (κ : List xV) : ∀ (cs : List xC) (js : List Nat) (h : List xC), xbackC (xLx θ) φ κ cs js h = xback θ φ κ cs js h
  | [], [], h => rfl
  | [], _ :: _, h => rfl
  | _ :: _, [], h => rfl
  | c :: cs, j :: js, h => by
    simp only [xbackC, xback, xtCC_eq]
    cases hc : xtC θ φ κ c with
    | none => rfl
    | some c' => exact xbackC_eq θ φ κ cs js _
def xEndF (h : List xC) (σ : List xB) (F : xF) (n0 : Nat) (θ : List xI) (φ : List Nat) (κ : List xV) (P : xPt) : Option (List xC × (List xB × (xF × List xV))) :=
  let new := P.2.1.drop n0
  let θ' := θ ++ xfresh σ.length new.length
  match xbackC (xLx θ') φ κ P.1 φ h with
  | none => none
  | some h' => (match xtL (xlT θ') P.2.2.1 with
    | none => none
    | some G => (match xtL (xtVC (xLx θ') φ κ) P.2.2.2.1 with
      | none => none
      | some vs => some (h', σ ++ new, G ++ F, vs)))
theorem xEndF_eq (h : List xC) (σ : List xB) (F : xF) (n0 : Nat) (θ : List xI) (φ : List Nat) (κ : List xV) (P : xPt) : xEndF h σ F n0 θ φ κ P = xEnd h σ F n0 θ φ κ P := by
  simp only [xEndF, xEnd, xbackC_eq, xtVC_eq] <;> rfl
def xUseF (nx : Nat) (h : List xC) (σ : List xB) (F : xF) (d : Nat) (as : List xV) (c : xCt) : Option (List (List xC × (List xB × (xF × List xV)))) :=
  bif Nat.ble c.2.2 d then (match xPFF nx 0 0 h σ F as (List.replicate c.1.1.length none) (List.replicate c.1.2.2.2.2 none) c.1 with
    | none => none
    | some (θ, φ, κ) => xtL (xEndF h σ F c.1.2.1.length θ φ κ) c.2.1) else none
theorem xUseF_ok {nx : Nat} {h : List xC} {σ : List xB} {F : xF} {d : Nat} {as : List xV} {c : xCt} {r : List (List xC × (List xB × (xF × List xV)))} (hu : xUseF nx h σ F d as c = some r) : xUse nx h σ F d as c = some r := by
  unfold xUseF at hu
  obtain ⟨hb, hu⟩ := x_bifN hu
  split at hu
  · cases hu
  · rename_i θ φ κ hf
    have hf := xPFF_ok (Or.inl rfl) hf
    have e : xidI 0 0 (List.replicate (c.1.2.1.length - 0) none) = List.replicate c.1.2.1.length none := rfl
    rw [e] at hf
    unfold xUse
    rw [hb]
    simp only [cond_true]
    rw [hf]
    dsimp only
    have e2 : xEndF h σ F c.1.2.1.length θ φ κ = xEnd h σ F c.1.2.1.length θ φ κ := by
      funext P
      exact xEndF_eq h σ F c.1.2.1.length θ φ κ P
    rw [← e2]
    exact hu
