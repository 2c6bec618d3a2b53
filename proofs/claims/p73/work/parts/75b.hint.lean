/-! Steps that a hint asks for: a sum's facts, an element written back, an index held by facts, shifts of 1 and 2, divisors below 0, the script. -/
/-- what such a step gives: the next place, cells, bounds, facts, stack -/
abbrev xHS : Type := Nat × (List xC × (List xB × (xF × List xV)))
/-- a sum or a difference of two numbers, with its facts -/
def xDef (L H : Int) (ad : Bool) (σ : List xB) (F : xF) (a b : xI) : Option (xI × (List xB × xF)) := match (bif ad then xadd L H σ a b else xsub L H σ a b) with
  | none => none
  | some r => (match xrg σ a with
    | none => none
    | some ra => (match xrg σ b with
      | none => none
      | some rb => bif xle L (bif ad then ra.1 + rb.1 else ra.1 - rb.2) && xle (bif ad then ra.2 + rb.2 else ra.2 - rb.1) H then
          (let g := xlA (-1) (xlA (bif ad then 1 else -1) (xln a) (xln b)) (xln r.1); some (r.1, r.2, g :: xlA (-1) ([], 0) g :: F)) else some (r.1, r.2, F)))
theorem xDef_ok {L H : Int} {ad : Bool} {ρ : List Int} {σ : List xB} {F : xF} {a b : xI} {r : xI × (List xB × xF)} {z1 z2 w : Int} (hr : xDef L H ad σ F a b = some r) (hS : xSt ρ σ) (hF : xFs ρ F) (h1 : xe ρ a = some z1) (h2 : xe ρ b = some z2) (hw : L ≤ w ∧ w ≤ H) (he : L ≤ (bif ad then z1 + z2 else z1 - z2) → (bif ad then z1 + z2 else z1 - z2) ≤ H → w = (bif ad then z1 + z2 else z1 - z2)) : ∃ ρ', xX ρ ρ' ∧ xSt ρ' r.2.1 ∧ xe ρ' r.1 = some w ∧ xFs ρ' r.2.2 := by
  unfold xDef at hr
  split at hr
  · cases hr
  · rename_i q hq
    have hg : xGood ρ q w := by
      cases ad with
      | true => exact xadd_ok hq hS h1 h2 hw he
      | false => exact xsub_ok hq hS h1 h2 hw he
    obtain ⟨ρ', g1, g2, g3⟩ := hg
    split at hr
    · cases hr
    · rename_i ra hra
      split at hr
      · cases hr
      · rename_i rb hrb
        have q1 := xrg_ok hS h1 hra
        have q2 := xrg_ok hS h2 hrb
        cases hc : (xle L (bif ad then ra.1 + rb.1 else ra.1 - rb.2) && xle (bif ad then ra.2 + rb.2 else ra.2 - rb.1) H) with
        | false =>
          rw [hc] at hr
          cases hr
          exact ⟨ρ', g1, g2, g3, hF.mono g1⟩
        | true =>
          rw [hc] at hr
          simp only [cond_true, Option.some.injEq] at hr
          subst hr
          rw [Bool.and_eq_true, xle_iff, xle_iff] at hc
          have hz : w = (bif ad then z1 + z2 else z1 - z2) := by
            cases ad with
            | true => simp only [cond_true] at hc he ⊢; exact he (by omega) (by omega)
            | false => simp only [cond_false] at hc he ⊢; exact he (by omega) (by omega)
          have e1 := xlA_ok (k := bif ad then 1 else -1) (xln_ok (xe.mono g1 h1)) (xln_ok (xe.mono g1 h2))
          have e2 := xlA_ok (k := -1) e1 (xln_ok g3)
          have e3 := xlA_ok (k := -1) (show xlv ρ' ([], 0) = some 0 from rfl) e2
          refine ⟨ρ', g1, g2, g3, ((hF.mono g1).cons e3 ?_).cons e2 ?_⟩
          · cases ad with
            | true => simp only [cond_true] at hz ⊢; omega
            | false => simp only [cond_false] at hz ⊢; omega
          · cases ad with
            | true => simp only [cond_true] at hz ⊢; omega
            | false => simp only [cond_false] at hz ⊢; omega
/-- an element at a known place becomes a symbol there -/
def xLdw (σ : List xB) (gs : List xG) (n : Nat) (i : xI) : Option (xI × (List xB × List xG)) := match xrg σ i with
  | none => none
  | some r => bif xeq r.1 r.2 && (xle 0 r.1 && xle r.2 (Int.ofNat n - 1)) then (match xseg gs r.1.toNat with
    | some (.inl a) => some (a, σ, gs)
    | some (.inr q) => (match xmk σ q.1 q.2 with
      | v => some (v.1, v.2, xsset gs r.1.toNat (.inl v.1)))
    | none => none) else (match xLd σ gs n i with
      | some q => some (q.1, q.2, gs)
      | none => none)
theorem xLdw_ok {ρ : List Int} {σ : List xB} {gs : List xG} {n : Nat} {i : xI} {r : xI × (List xB × List xG)} {z : Int} {f : Nat → Int} (hv : xLdw σ gs n i = some r) (hS : xSt ρ σ) (hi : xe ρ i = some z) (hf : xarr ρ gs n f) : 0 ≤ z ∧ z < n ∧ ∃ ρ', xX ρ ρ' ∧ xSt ρ' r.2.1 ∧ xe ρ' r.1 = some (f z.toNat) ∧ xarr ρ' r.2.2 n f := by
  unfold xLdw at hv
  split at hv
  · cases hv
  · rename_i q hq
    have hz := xrg_ok hS hi hq
    have en : (Int.ofNat n : Int) = (n : Int) := rfl
    cases hc : (xeq q.1 q.2 && (xle 0 q.1 && xle q.2 (Int.ofNat n - 1))) with
    | true =>
      rw [hc] at hv
      rw [Bool.and_eq_true, Bool.and_eq_true, xeq_iff, xle_iff, xle_iff] at hc
      simp only [cond_true] at hv
      have e : q.1 = z := by omega
      refine ⟨by omega, by omega, ?_⟩
      obtain ⟨u, u1, u2⟩ := hf z.toNat (by omega)
      rw [e] at hv
      split at hv
      · rename_i a ha
        cases hv
        rw [ha] at u1
        cases u1
        exact ⟨ρ, xX.rf ρ, hS, u2, hf⟩
      · rename_i b hb
        rw [hb] at u1
        cases u1
        simp only [Option.some.injEq] at hv
        subst hv
        obtain ⟨ρ', g1, g2, g3⟩ := xmk_ok (z := f z.toNat) hS u2.1 u2.2
        refine ⟨ρ', g1, g2, g3, fun j hj => ?_⟩
        obtain ⟨w, w1, w2⟩ := hf j hj
        dsimp only
        rw [xseg_set gs z.toNat _ j ⟨_, hb⟩]
        by_cases hjz : j = z.toNat
        · rw [if_pos hjz]
          exact ⟨_, rfl, by rw [hjz]; exact g3⟩
        · rw [if_neg hjz]
          exact ⟨w, w1, w2.mono g1⟩
      · cases hv
    | false =>
      rw [hc] at hv
      simp only [cond_false] at hv
      split at hv
      · rename_i q2 hq2
        cases hv
        obtain ⟨a1, a2, ρ', g1, g2, g3⟩ := xLd_ok hq2 hS hi hf
        exact ⟨a1, a2, ρ', g1, g2, g3, hf.mono g1⟩
      · cases hv
/-- an index by facts -/
def xIx (σ : List xB) (F : xF) (n : Nat) (i : xI) : Bool := xent σ F 6 (xln i) && xent σ F 6 (xlle i (none, Int.ofNat n) 1)
theorem xIx_ok {ρ : List Int} {σ : List xB} {F : xF} {n : Nat} {i : xI} {z : Int} (hv : xIx σ F n i = true) (hS : xSt ρ σ) (hF : xFs ρ F) (hi : xe ρ i = some z) : 0 ≤ z ∧ z < n := by
  unfold xIx at hv
  rw [Bool.and_eq_true] at hv
  have h1 := xent_ok hS hF hv.1 (xln_ok hi)
  have h2 := xent_ok hS hF hv.2 (xlle_ok hi (show xe ρ (none, Int.ofNat n) = some (n : Int) from rfl))
  omega
def xLdr (σ : List xB) (F : xF) (gs : List xG) (n : Nat) (i : xI) : xR := bif xIx σ F n i then (match xsjoin σ gs 0 (Int.ofNat n - 1) with
  | some (some q) => some (xmk σ q.1 q.2)
  | _ => none) else none
theorem xLdr_ok {ρ : List Int} {σ : List xB} {F : xF} {gs : List xG} {n : Nat} {i : xI} {r : xI × List xB} {z : Int} {f : Nat → Int} (hv : xLdr σ F gs n i = some r) (hS : xSt ρ σ) (hF : xFs ρ F) (hi : xe ρ i = some z) (hf : xarr ρ gs n f) : 0 ≤ z ∧ z < n ∧ xGood ρ r (f z.toNat) := by
  unfold xLdr at hv
  obtain ⟨h1, hv⟩ := x_bifO hv
  have hz := xIx_ok h1 hS hF hi
  refine ⟨hz.1, hz.2, ?_⟩
  split at hv
  · rename_i q hq
    cases hv
    obtain ⟨u, u1, u2⟩ := hf z.toNat (by omega)
    have en : (Int.ofNat n : Int) = (n : Int) := rfl
    obtain ⟨q', e, g1⟩ := xsjoin_ok hS hq u1 u2 (by omega) (by omega)
    cases e
    exact xmk_ok hS g1.1 g1.2
  · cases hv
def xStr (σ : List xB) (F : xF) (gs : List xG) (n : Nat) (i v : xI) : Option (List xG) := bif xIx σ F n i then (match xrg σ v with
  | some r => xsweak σ gs 0 (Int.ofNat n - 1) r
  | none => none) else none
theorem xStr_ok {ρ : List Int} {σ : List xB} {F : xF} {gs gs' : List xG} {n : Nat} {i v : xI} {z y : Int} {f : Nat → Int} (hv : xStr σ F gs n i v = some gs') (hS : xSt ρ σ) (hF : xFs ρ F) (hi : xe ρ i = some z) (hy : xe ρ v = some y) (hf : xarr ρ gs n f) : 0 ≤ z ∧ z < n ∧ xarr ρ gs' n (fun k => if k = z.toNat then y else f k) := by
  unfold xStr at hv
  obtain ⟨h1, hv⟩ := x_bifO hv
  have hz := xIx_ok h1 hS hF hi
  refine ⟨hz.1, hz.2, fun j hj => ?_⟩
  split at hv
  · rename_i r hr
    have hb := xrg_ok hS hy hr
    obtain ⟨u, u1, u2⟩ := hf j hj
    have en : (Int.ofNat n : Int) = (n : Int) := rfl
    obtain ⟨x', g1, g2, g3⟩ := xsweak_ok hS hv u1 u2
    refine ⟨x', g1, ?_⟩
    dsimp only
    by_cases hjz : j = z.toNat
    · rw [if_pos hjz]
      exact g3 (by omega) (by omega) y hb.1 hb.2
    · rw [if_neg hjz]
      exact g2
  · cases hv
