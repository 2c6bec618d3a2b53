/-! Stretches of arrays: read, written. -/
def xsame : (xI ⊕ xB) → (xI ⊕ xB) → Bool
  | .inl a, .inl b => (match a.1, b.1 with
    | none, none => xeq a.2 b.2
    | some i, some j => Nat.beq i j && xeq a.2 b.2
    | _, _ => false)
  | .inr r, .inr q => xeq r.1 q.1 && xeq r.2 q.2
  | _, _ => false
theorem xsame_ok : ∀ {x u : xI ⊕ xB}, xsame x u = true → x = u
  | .inl (none, c), .inl (none, d), h => by
    have := xeq_iff.mp (show xeq c d = true from h)
    rw [this]
  | .inl (some i, c), .inl (some j, d), h => by
    have h : (Nat.beq i j && xeq c d) = true := h
    rw [Bool.and_eq_true] at h
    rw [Nat.eq_of_beq_eq_true h.1, xeq_iff.mp h.2]
  | .inr (a, b), .inr (c, d), h => by
    have h : (xeq a c && xeq b d) = true := h
    rw [Bool.and_eq_true] at h
    rw [xeq_iff.mp h.1, xeq_iff.mp h.2]
  | .inl (none, _), .inl (some _, _), h => by cases h
  | .inl (some _, _), .inl (none, _), h => by cases h
  | .inl _, .inr _, h => by cases h
  | .inr _, .inl _, h => by cases h
def xpre (n : Nat) (x : xI ⊕ xB) (t : List xG) : List xG := match n with
  | 0 => t
  | n + 1 => (n + 1, x) :: t
theorem xseg_cons (g : xG) (t : List xG) (j : Nat) : xseg (g :: t) j = if j < g.1 then some g.2 else xseg t (j - g.1) := by
  show (bif Nat.blt j g.1 then some g.2 else xseg t (j - g.1)) = _
  by_cases h : j < g.1
  · rw [if_pos h]
    have : Nat.blt j g.1 = true := by
      unfold Nat.blt
      exact Nat.ble_eq_true_of_le h
    rw [this]
    rfl
  · rw [if_neg h]
    have : Nat.blt j g.1 = false := by
      cases hb : Nat.blt j g.1 with
      | false => rfl
      | true => exact absurd (x_blt hb) h
    rw [this]
    rfl
theorem xseg_pre (n : Nat) (x : xI ⊕ xB) (t : List xG) (k : Nat) : xseg (xpre n x t) k = if k < n then some x else xseg t (k - n) := by
  cases n with
  | zero => simp [xpre]
  | succ n => exact xseg_cons (n + 1, x) t k
def xsset : List xG → Nat → (xI ⊕ xB) → List xG
  | [], _, _ => []
  | g :: t, j, u => bif Nat.blt j g.1 then (bif xsame g.2 u then g :: t else xpre j g.2 ((1, u) :: xpre (g.1 - j - 1) g.2 t)) else g :: xsset t (j - g.1) u
theorem xseg_set : ∀ (gs : List xG) (j : Nat) (u : xI ⊕ xB) (k : Nat), (∃ x, xseg gs j = some x) → xseg (xsset gs j u) k = if k = j then some u else xseg gs k
  | [], _, _, _, h => by
    obtain ⟨x, h⟩ := h
    cases h
  | g :: t, j, u, k, h => by
    unfold xsset
    cases hb : Nat.blt j g.1 with
    | true =>
      have hj := x_blt hb
      simp only [cond_true]
      cases hs : xsame g.2 u with
      | true =>
        have e := xsame_ok hs
        simp only [cond_true]
        by_cases hk : k = j
        · rw [if_pos hk, hk, xseg_cons, if_pos hj, e]
        · rw [if_neg hk]
      | false =>
        simp only [cond_false]
        rw [xseg_pre]
        by_cases hk : k = j
        · subst hk
          rw [if_neg (Nat.lt_irrefl k), if_pos rfl, xseg_cons]
          simp
        · rw [if_neg hk, xseg_cons g t k]
          by_cases h1 : k < j
          · rw [if_pos h1, if_pos (by omega)]
          · rw [if_neg h1, xseg_cons, if_neg (by simp; omega), xseg_pre]
            simp only
            by_cases h2 : k < g.1
            · rw [if_pos h2, if_pos (by omega)]
            · rw [if_neg h2, if_neg (by omega)]
              congr 1
              omega
    | false =>
      have hj : ¬ j < g.1 := fun q => by
        have : Nat.blt j g.1 = true := by
          unfold Nat.blt
          exact Nat.ble_eq_true_of_le q
        rw [hb] at this
        cases this
      simp only [cond_false]
      rw [xseg_cons, xseg_cons]
      have hx : ∃ x, xseg t (j - g.1) = some x := by
        obtain ⟨x, h⟩ := h
        rw [xseg_cons, if_neg hj] at h
        exact ⟨x, h⟩
      by_cases h1 : k < g.1
      · rw [if_pos h1, if_pos h1, if_neg (by omega)]
      · rw [if_neg h1, if_neg h1, xseg_set t (j - g.1) u (k - g.1) hx]
        by_cases h2 : k = j
        · rw [if_pos h2, if_pos (by omega)]
        · rw [if_neg h2, if_neg (by omega)]
/-- bounds of what stands at a place -/
def xelr (σ : List xB) (u : xI ⊕ xB) : Option xB := match u with
  | .inl a => xrg σ a
  | .inr r => some r
theorem xelr_ok {ρ : List Int} {σ : List xB} (hS : xSt ρ σ) {u : xI ⊕ xB} {z : Int} {q : xB} (h : xel ρ u z) (hq : xelr σ u = some q) : q.1 ≤ z ∧ z ≤ q.2 := by
  cases u with
  | inl a => exact xrg_ok hS h hq
  | inr r => cases hq; exact h
def xjn (q r : xB) : xB := (xmin q.1 r.1, xmax q.2 r.2)
theorem xjn_l {q r : xB} {z : Int} (h : q.1 ≤ z ∧ z ≤ q.2) : (xjn q r).1 ≤ z ∧ z ≤ (xjn q r).2 := by
  have h1 := xmin_l q.1 r.1
  have h2 := xmax_l q.2 r.2
  unfold xjn
  dsimp only
  omega
theorem xjn_r {q r : xB} {z : Int} (h : r.1 ≤ z ∧ z ≤ r.2) : (xjn q r).1 ≤ z ∧ z ≤ (xjn q r).2 := by
  have h1 := xmin_r q.1 r.1
  have h2 := xmax_r q.2 r.2
  unfold xjn
  dsimp only
  omega
/-- one of several places is written: each of them may be as before -/
def xsweak (σ : List xB) : List xG → Int → Int → xB → Option (List xG)
  | [], _, _, _ => some []
  | g :: t, lo, hi, r => match xsweak σ t (lo - Int.ofNat g.1) (hi - Int.ofNat g.1) r with
    | none => none
    | some t' => bif xle 0 hi && xle lo (Int.ofNat g.1 - 1) then (match xelr σ g.2 with
      | none => none
      | some q => some ((g.1, .inr (xjn q r)) :: t')) else some (g :: t')
theorem xsweak_ok {ρ : List Int} {σ : List xB} (hS : xSt ρ σ) {r : xB} : ∀ {gs gs' : List xG} {lo hi : Int}, xsweak σ gs lo hi r = some gs' → ∀ {k : Nat} {x : xI ⊕ xB} {z : Int}, xseg gs k = some x → xel ρ x z → ∃ x', xseg gs' k = some x' ∧ xel ρ x' z ∧ (lo ≤ k → (k : Int) ≤ hi → ∀ z', r.1 ≤ z' → z' ≤ r.2 → xel ρ x' z')
  | [], _, _, _, _, _, _, _, h, _ => by cases h
  | g :: t, gs', lo, hi, hv, k, x, z, hx, hz => by
    unfold xsweak at hv
    split at hv
    · cases hv
    · rename_i t' ht'
      rw [xseg_cons] at hx
      cases hc : (xle 0 hi && xle lo (Int.ofNat g.1 - 1)) with
      | true =>
        rw [hc] at hv
        simp only [cond_true] at hv
        split at hv
        · cases hv
        · rename_i q hq
          cases hv
          rw [xseg_cons]
          by_cases h1 : k < g.1
          · rw [if_pos h1] at hx
            rw [if_pos h1]
            cases hx
            exact ⟨_, rfl, xjn_l (xelr_ok hS hz hq), fun _ _ z' a b => xjn_r ⟨a, b⟩⟩
          · rw [if_neg h1] at hx
            rw [if_neg h1]
            obtain ⟨x', e1, e2, e3⟩ := xsweak_ok hS ht' hx hz
            refine ⟨x', e1, e2, fun a b => e3 ?_ ?_⟩
            · have : (Int.ofNat g.1 : Int) = (g.1 : Int) := rfl
              omega
            · have : (Int.ofNat g.1 : Int) = (g.1 : Int) := rfl
              omega
      | false =>
        rw [hc] at hv
        simp only [cond_false, Option.some.injEq] at hv
        subst hv
        rw [xseg_cons]
        by_cases h1 : k < g.1
        · rw [if_pos h1] at hx
          rw [if_pos h1]
          cases hx
          refine ⟨_, rfl, hz, fun a b => ?_⟩
          exfalso
          have c1 : xle 0 hi = true := xle_iff.mpr (by omega)
          have c2 : xle lo (Int.ofNat g.1 - 1) = true := xle_iff.mpr (by
            have : (Int.ofNat g.1 : Int) = (g.1 : Int) := rfl
            omega)
          rw [c1, c2] at hc
          cases hc
        · rw [if_neg h1] at hx
          rw [if_neg h1]
          obtain ⟨x', e1, e2, e3⟩ := xsweak_ok hS ht' hx hz
          refine ⟨x', e1, e2, fun a b => e3 ?_ ?_⟩
          · have : (Int.ofNat g.1 : Int) = (g.1 : Int) := rfl
            omega
          · have : (Int.ofNat g.1 : Int) = (g.1 : Int) := rfl
            omega
/-- bounds of all places between two -/
def xsjoin (σ : List xB) : List xG → Int → Int → Option (Option xB)
  | [], _, _ => some none
  | g :: t, lo, hi => match xsjoin σ t (lo - Int.ofNat g.1) (hi - Int.ofNat g.1) with
    | none => none
    | some acc => bif xle 0 hi && xle lo (Int.ofNat g.1 - 1) then (match xelr σ g.2 with
      | none => none
      | some q => some (some (match acc with
        | none => q
        | some r => xjn q r))) else some acc
theorem xsjoin_ok {ρ : List Int} {σ : List xB} (hS : xSt ρ σ) : ∀ {gs : List xG} {lo hi : Int} {o : Option xB}, xsjoin σ gs lo hi = some o → ∀ {k : Nat} {x : xI ⊕ xB} {z : Int}, xseg gs k = some x → xel ρ x z → lo ≤ k → (k : Int) ≤ hi → ∃ q, o = some q ∧ q.1 ≤ z ∧ z ≤ q.2
  | [], _, _, _, _, _, _, _, h, _, _, _ => by cases h
  | g :: t, lo, hi, o, hv, k, x, z, hx, hz, a, b => by
    unfold xsjoin at hv
    split at hv
    · cases hv
    · rename_i acc hacc
      rw [xseg_cons] at hx
      have eg : (Int.ofNat g.1 : Int) = (g.1 : Int) := rfl
      by_cases h1 : k < g.1
      · rw [if_pos h1] at hx
        cases hx
        rw [xle_iff.mpr (show (0 : Int) ≤ hi by omega), xle_iff.mpr (show lo ≤ Int.ofNat g.1 - 1 by omega)] at hv
        simp only [Bool.and_self, cond_true] at hv
        split at hv
        · cases hv
        · rename_i q hq
          have hb := xelr_ok hS hz hq
          cases hv
          cases acc with
          | none => exact ⟨q, rfl, hb⟩
          | some r => exact ⟨_, rfl, xjn_l hb⟩
      · rw [if_neg h1] at hx
        obtain ⟨q, e1, e2⟩ := xsjoin_ok hS hacc hx hz (by omega) (by omega)
        subst e1
        cases hc : (xle 0 hi && xle lo (Int.ofNat g.1 - 1)) with
        | true =>
          rw [hc] at hv
          simp only [cond_true] at hv
          split at hv
          · cases hv
          · rename_i q' hq'
            cases hv
            exact ⟨_, rfl, xjn_r e2⟩
        | false =>
          rw [hc] at hv
          simp only [cond_false, Option.some.injEq] at hv
          subst hv
          exact ⟨q, rfl, e2⟩
/-- a place of an array of n is read -/
def xLd (σ : List xB) (gs : List xG) (n : Nat) (i : xI) : xR := match xrg σ i with
  | none => none
  | some r => bif xle 0 r.1 && xle r.2 (Int.ofNat n - 1) then (bif xeq r.1 r.2 then (match xseg gs r.1.toNat with
      | some (.inl a) => some (a, σ)
      | some (.inr q) => some (xmk σ q.1 q.2)
      | none => none) else (match xsjoin σ gs r.1 r.2 with
      | some (some q) => some (xmk σ q.1 q.2)
      | _ => none)) else none
theorem xLd_ok {ρ : List Int} {σ : List xB} {gs : List xG} {n : Nat} {i : xI} {r : xI × List xB} {z : Int} {f : Nat → Int} (hv : xLd σ gs n i = some r) (hS : xSt ρ σ) (hi : xe ρ i = some z) (hf : xarr ρ gs n f) : 0 ≤ z ∧ z < n ∧ xGood ρ r (f z.toNat) := by
  unfold xLd at hv
  split at hv
  · cases hv
  · rename_i q hq
    have hb := xrg_ok hS hi hq
    obtain ⟨h1, hv⟩ := x_bifO hv
    rw [Bool.and_eq_true, xle_iff, xle_iff] at h1
    have en : (Int.ofNat n : Int) = (n : Int) := rfl
    have hz : 0 ≤ z ∧ z < n := by omega
    refine ⟨hz.1, hz.2, ?_⟩
    obtain ⟨u, hu, hel⟩ := hf z.toNat (by omega)
    cases hc : xeq q.1 q.2 with
    | true =>
      rw [hc] at hv
      simp only [cond_true] at hv
      have := xeq_iff.mp hc
      have e : q.1 = z := by omega
      rw [e, hu] at hv
      split at hv
      · rename_i a ha
        cases ha
        cases hv
        exact ⟨ρ, xX.rf ρ, hS, hel⟩
      · rename_i b hb2
        cases hb2
        cases hv
        exact xmk_ok hS hel.1 hel.2
      · cases hv
    | false =>
      rw [hc] at hv
      simp only [cond_false] at hv
      split at hv
      · rename_i w hw
        cases hv
        obtain ⟨w', e1, e2⟩ := xsjoin_ok hS hw hu hel (by omega) (by omega)
        cases e1
        exact xmk_ok hS e2.1 e2.2
      · cases hv
/-- a place of an array of n is written -/
def xSta (σ : List xB) (gs : List xG) (n : Nat) (i v : xI) : Option (List xG) := match xrg σ i with
  | none => none
  | some r => bif xle 0 r.1 && xle r.2 (Int.ofNat n - 1) then (bif xeq r.1 r.2 then some (xsset gs r.1.toNat (.inl v)) else (match xrg σ v with
      | some q => xsweak σ gs r.1 r.2 q
      | none => none)) else none
theorem xSta_ok {ρ : List Int} {σ : List xB} {gs gs' : List xG} {n : Nat} {i v : xI} {z y : Int} {f : Nat → Int} (hv : xSta σ gs n i v = some gs') (hS : xSt ρ σ) (hi : xe ρ i = some z) (hy : xe ρ v = some y) (hf : xarr ρ gs n f) : 0 ≤ z ∧ z < n ∧ xarr ρ gs' n (fun k => if k = z.toNat then y else f k) := by
  unfold xSta at hv
  split at hv
  · cases hv
  · rename_i q hq
    have hb := xrg_ok hS hi hq
    obtain ⟨h1, hv⟩ := x_bifO hv
    rw [Bool.and_eq_true, xle_iff, xle_iff] at h1
    have en : (Int.ofNat n : Int) = (n : Int) := rfl
    have hz : 0 ≤ z ∧ z < n := by omega
    refine ⟨hz.1, hz.2, fun k hk => ?_⟩
    obtain ⟨u, hu, hel⟩ := hf k hk
    cases hc : xeq q.1 q.2 with
    | true =>
      rw [hc] at hv
      simp only [cond_true, Option.some.injEq] at hv
      have := xeq_iff.mp hc
      have e : q.1 = z := by omega
      subst hv
      rw [e]
      obtain ⟨u0, hu0, -⟩ := hf z.toNat (by omega)
      rw [xseg_set gs z.toNat (.inl v) k ⟨u0, hu0⟩]
      by_cases h2 : k = z.toNat
      · rw [if_pos h2]
        refine ⟨_, rfl, ?_⟩
        simp only [if_pos h2]
        exact hy
      · rw [if_neg h2]
        refine ⟨u, hu, ?_⟩
        simp only [if_neg h2]
        exact hel
    | false =>
      rw [hc] at hv
      simp only [cond_false] at hv
      split at hv
      · rename_i w hw
        have hyb := xrg_ok hS hy hw
        obtain ⟨x', e1, e2, e3⟩ := xsweak_ok hS hv hu hel
        refine ⟨x', e1, ?_⟩
        by_cases h2 : k = z.toNat
        · simp only [if_pos h2]
          exact e3 (by omega) (by omega) y hyb.1 hyb.2
        · simp only [if_neg h2]
          exact e2
      · cases hv
