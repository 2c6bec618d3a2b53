/-! Linear facts: a sum of symbols, each with its factor, and a number: at least 0. -/
abbrev xLn : Type := List (Nat × Int) × Int
abbrev xF : Type := List xLn
def xlE (ρ : List Int) : List (Nat × Int) → Option Int
  | [] => some 0
  | q :: t => (match ρ[q.1]? with
    | none => none
    | some z => (match xlE ρ t with
      | none => none
      | some w => some (q.2 * z + w)))
def xlv (ρ : List Int) (L : xLn) : Option Int := match xlE ρ L.1 with
  | none => none
  | some z => some (z + L.2)
def xFs (ρ : List Int) (F : xF) : Prop := ∀ q ∈ F, ∃ z, xlv ρ q = some z ∧ 0 ≤ z
theorem xlE_cons {ρ : List Int} {k : Nat} {c z w : Int} {t : List (Nat × Int)} (h1 : ρ[k]? = some z) (h2 : xlE ρ t = some w) : xlE ρ ((k, c) :: t) = some (c * z + w) := by
  simp only [xlE, h1, h2]
theorem xlE_inv {ρ : List Int} {k : Nat} {c x : Int} {t : List (Nat × Int)} (h : xlE ρ ((k, c) :: t) = some x) : ∃ z w, ρ[k]? = some z ∧ xlE ρ t = some w ∧ x = c * z + w := by
  simp only [xlE] at h
  split at h
  · cases h
  · rename_i z hz
    split at h
    · cases h
    · rename_i w hw
      cases h
      exact ⟨z, w, hz, hw, rfl⟩
theorem xlE.mono {ρ ρ' : List Int} (h : xX ρ ρ') : ∀ {l : List (Nat × Int)} {x : Int}, xlE ρ l = some x → xlE ρ' l = some x
  | [], _, hx => hx
  | (k, c) :: t, x, hx => by
    obtain ⟨z, w, h1, h2, rfl⟩ := xlE_inv hx
    exact xlE_cons (h.at h1) (xlE.mono h h2)
theorem xlv_inv {ρ : List Int} {L : xLn} {x : Int} (h : xlv ρ L = some x) : ∃ z, xlE ρ L.1 = some z ∧ x = z + L.2 := by
  unfold xlv at h
  split at h
  · cases h
  · rename_i z hz
    cases h
    exact ⟨z, hz, rfl⟩
theorem xlv_mk {ρ : List Int} {L : xLn} {z : Int} (h : xlE ρ L.1 = some z) : xlv ρ L = some (z + L.2) := by
  unfold xlv
  rw [h]
theorem xlv.mono {ρ ρ' : List Int} (h : xX ρ ρ') {L : xLn} {x : Int} (hx : xlv ρ L = some x) : xlv ρ' L = some x := by
  obtain ⟨z, h1, rfl⟩ := xlv_inv hx
  exact xlv_mk (xlE.mono h h1)
theorem xFs.mono {ρ ρ' : List Int} (h : xX ρ ρ') {F : xF} (hF : xFs ρ F) : xFs ρ' F := fun q hq => by
  obtain ⟨z, h1, h2⟩ := hF q hq
  exact ⟨z, xlv.mono h h1, h2⟩
/-- factors times k -/
def xlK (k : Int) : List (Nat × Int) → List (Nat × Int)
  | [] => []
  | q :: t => (q.1, k * q.2) :: xlK k t
theorem xlK_ok {ρ : List Int} {k : Int} : ∀ {b : List (Nat × Int)} {y : Int}, xlE ρ b = some y → xlE ρ (xlK k b) = some (k * y)
  | [], y, h => by
    simp only [xlE, Option.some.injEq] at h
    subst h
    simp [xlK, xlE]
  | (j, d) :: b, y, h => by
    obtain ⟨z, w, h1, h2, rfl⟩ := xlE_inv h
    have := xlE_cons (c := k * d) h1 (xlK_ok (k := k) h2)
    show xlE ρ ((j, k * d) :: xlK k b) = _
    rw [this, Int.mul_add, Int.mul_assoc]
/-- a and k times b, symbols falling -/
def xlM (k : Int) : Nat → List (Nat × Int) → List (Nat × Int) → List (Nat × Int)
  | 0, a, b => a ++ xlK k b
  | _ + 1, [], b => xlK k b
  | _ + 1, q :: a, [] => q :: a
  | f + 1, q :: a, r :: b => bif Nat.beq q.1 r.1 then (bif xeq (q.2 + k * r.2) 0 then xlM k f a b else (q.1, q.2 + k * r.2) :: xlM k f a b) else (bif Nat.blt r.1 q.1 then q :: xlM k f a (r :: b) else (r.1, k * r.2) :: xlM k f (q :: a) b)
theorem xlE_app {ρ : List Int} : ∀ {a b : List (Nat × Int)} {x y : Int}, xlE ρ a = some x → xlE ρ b = some y → xlE ρ (a ++ b) = some (x + y)
  | [], b, x, y, h1, h2 => by
    simp only [xlE, Option.some.injEq] at h1
    subst h1
    simpa using h2
  | (j, d) :: a, b, x, y, h1, h2 => by
    obtain ⟨z, w, g1, g2, rfl⟩ := xlE_inv h1
    have := xlE_cons (c := d) g1 (xlE_app g2 h2)
    show xlE ρ ((j, d) :: (a ++ b)) = _
    rw [this, Int.add_assoc]
theorem xlM_ok {ρ : List Int} {k : Int} : ∀ {f : Nat} {a b : List (Nat × Int)} {x y : Int}, xlE ρ a = some x → xlE ρ b = some y → xlE ρ (xlM k f a b) = some (x + k * y)
  | 0, a, b, x, y, h1, h2 => xlE_app h1 (xlK_ok h2)
  | f + 1, [], b, x, y, h1, h2 => by
    simp only [xlE, Option.some.injEq] at h1
    subst h1
    have := xlK_ok (k := k) h2
    show xlE ρ (xlK k b) = _
    rw [this]
    congr 1
    omega
  | f + 1, q :: a, [], x, y, h1, h2 => by
    simp only [xlE, Option.some.injEq] at h2
    subst h2
    show xlE ρ (q :: a) = _
    rw [h1, Int.mul_zero, Int.add_zero]
  | f + 1, (i, c) :: a, (j, d) :: b, x, y, h1, h2 => by
    obtain ⟨z1, w1, g1, g2, rfl⟩ := xlE_inv h1
    obtain ⟨z2, w2, g3, g4, rfl⟩ := xlE_inv h2
    unfold xlM
    cases hb : Nat.beq i j with
    | true =>
      have e := Nat.eq_of_beq_eq_true hb
      subst e
      rw [g1] at g3
      cases g3
      have ih := xlM_ok (k := k) (f := f) g2 g4
      simp only [cond_true]
      have ee : c * z1 + w1 + k * (d * z1 + w2) = (c + k * d) * z1 + (w1 + k * w2) := by
        rw [Int.mul_add, Int.add_mul, Int.mul_assoc]
        omega
      cases hz : xeq (c + k * d) 0 with
      | true =>
        have hz := xeq_iff.mp hz
        simp only [cond_true]
        rw [ih, ee, hz, Int.zero_mul, Int.zero_add]
      | false =>
        simp only [cond_false]
        rw [xlE_cons g1 ih, ee]
    | false =>
      simp only [cond_false]
      cases hc : Nat.blt j i with
      | true =>
        simp only [cond_true]
        rw [xlE_cons g1 (xlM_ok (k := k) (f := f) g2 h2)]
        congr 1
        omega
      | false =>
        simp only [cond_false]
        rw [xlE_cons g3 (xlM_ok (k := k) (f := f) h1 g4), Int.mul_add, Int.mul_assoc]
        congr 1
        omega
def xlA (k : Int) (L M : xLn) : xLn := (xlM k 40 L.1 M.1, L.2 + k * M.2)
theorem xlA_ok {ρ : List Int} {k : Int} {L M : xLn} {x y : Int} (h1 : xlv ρ L = some x) (h2 : xlv ρ M = some y) : xlv ρ (xlA k L M) = some (x + k * y) := by
  obtain ⟨z1, g1, rfl⟩ := xlv_inv h1
  obtain ⟨z2, g2, rfl⟩ := xlv_inv h2
  have := xlv_mk (L := xlA k L M) (xlM_ok (k := k) (f := 40) g1 g2)
  rw [this]
  show some (z1 + k * z2 + (L.2 + k * M.2)) = _
  rw [Int.mul_add]
  congr 1
  omega
/-- a number as a sum -/
def xln (a : xI) : xLn := match a.1 with
  | none => ([], a.2)
  | some k => ([(k, 1)], a.2)
theorem xln_ok {ρ : List Int} {a : xI} {z : Int} (h : xe ρ a = some z) : xlv ρ (xln a) = some z := by
  obtain ⟨o, c⟩ := a
  cases o with
  | none =>
    simp only [xe, Option.some.injEq] at h
    subst h
    simp [xln, xlv, xlE]
  | some k =>
    simp only [xe] at h
    cases hk : ρ[k]? with
    | none => rw [hk] at h; cases h
    | some w =>
      rw [hk] at h
      simp only [Option.some.injEq] at h
      subst h
      have := xlv_mk (L := ([(k, 1)], c)) (xlE_cons (c := 1) hk (show xlE ρ [] = some 0 from rfl))
      show xlv ρ ([(k, 1)], c) = _
      rw [this]
      congr 1
      dsimp only
      omega
/-- b less a less d, at least 0: a and d is at most b -/
def xlle (a b : xI) (d : Int) : xLn := let L := xlA (-1) (xln b) (xln a); (L.1, L.2 - d)
theorem xlle_ok {ρ : List Int} {a b : xI} {d z w : Int} (h1 : xe ρ a = some z) (h2 : xe ρ b = some w) : xlv ρ (xlle a b d) = some (w - z - d) := by
  have h := xlA_ok (k := -1) (xln_ok h2) (xln_ok h1)
  obtain ⟨x, g1, g2⟩ := xlv_inv h
  have := xlv_mk (L := xlle a b d) g1
  rw [this]
  show some (x + ((xlA (-1) (xln b) (xln a)).2 - d)) = _
  congr 1
  omega
/-- the least that a sum can be, and the greatest -/
def xlL (σ : List xB) : List (Nat × Int) → Option Int
  | [] => some 0
  | q :: t => (match σ[q.1]? with
    | none => none
    | some r => (match xlL σ t with
      | none => none
      | some w => some ((bif xle 0 q.2 then q.2 * r.1 else q.2 * r.2) + w)))
def xlU (σ : List xB) : List (Nat × Int) → Option Int
  | [] => some 0
  | q :: t => (match σ[q.1]? with
    | none => none
    | some r => (match xlU σ t with
      | none => none
      | some w => some ((bif xle 0 q.2 then q.2 * r.2 else q.2 * r.1) + w)))
theorem x_lo1 {c z : Int} {r : xB} (h : r.1 ≤ z ∧ z ≤ r.2) : (bif xle 0 c then c * r.1 else c * r.2) ≤ c * z ∧ c * z ≤ (bif xle 0 c then c * r.2 else c * r.1) := by
  cases hc : xle 0 c with
  | true =>
    have := xle_iff.mp hc
    exact ⟨Int.mul_le_mul_of_nonneg_left h.1 this, Int.mul_le_mul_of_nonneg_left h.2 this⟩
  | false =>
    have := xle_not hc
    exact ⟨Int.mul_le_mul_of_nonpos_left (by omega) h.2, Int.mul_le_mul_of_nonpos_left (by omega) h.1⟩
theorem xlL_ok {ρ : List Int} {σ : List xB} (hS : xSt ρ σ) : ∀ {l : List (Nat × Int)} {x w : Int}, xlE ρ l = some x → xlL σ l = some w → w ≤ x
  | [], x, w, h1, h2 => by
    simp only [xlE, xlL, Option.some.injEq] at h1 h2
    omega
  | (k, c) :: t, x, w, h1, h2 => by
    obtain ⟨z, y, g1, g2, rfl⟩ := xlE_inv h1
    simp only [xlL] at h2
    split at h2
    · cases h2
    · rename_i r hr
      split at h2
      · cases h2
      · rename_i v hv
        cases h2
        have := xlL_ok hS g2 hv
        have := (x_lo1 (c := c) (hS.2 k r z hr g1)).1
        omega
theorem xlU_ok {ρ : List Int} {σ : List xB} (hS : xSt ρ σ) : ∀ {l : List (Nat × Int)} {x w : Int}, xlE ρ l = some x → xlU σ l = some w → x ≤ w
  | [], x, w, h1, h2 => by
    simp only [xlE, xlU, Option.some.injEq] at h1 h2
    omega
  | (k, c) :: t, x, w, h1, h2 => by
    obtain ⟨z, y, g1, g2, rfl⟩ := xlE_inv h1
    simp only [xlU] at h2
    split at h2
    · cases h2
    · rename_i r hr
      split at h2
      · cases h2
      · rename_i v hv
        cases h2
        have := xlU_ok hS g2 hv
        have := (x_lo1 (c := c) (hS.2 k r z hr g1)).2
        omega
def xlPos (σ : List xB) (g : xLn) : Bool := match xlL σ g.1 with
  | some w => xle 0 (w + g.2)
  | none => false
/-- at least 0: by the bounds; or the first symbol goes out by a fact, or by its bound -/
def xent (σ : List xB) (F : xF) : Nat → xLn → Bool
  | 0, g => xlPos σ g
  | n + 1, g => xlPos σ g || (match g.1 with
    | [] => false
    | q :: t => F.any (fun f => f.1.any (fun r => Nat.beq r.1 q.1 && xeq r.2 q.2) && xent σ F n (xlA (-1) g f)) || (match σ[q.1]? with
      | none => false
      | some r => xent σ F n (t, g.2 + (bif xle 0 q.2 then q.2 * r.1 else q.2 * r.2))))
theorem xlPos_ok {ρ : List Int} {σ : List xB} {g : xLn} {z : Int} (hS : xSt ρ σ) (h : xlPos σ g = true) (hz : xlv ρ g = some z) : 0 ≤ z := by
  unfold xlPos at h
  obtain ⟨x, h1, rfl⟩ := xlv_inv hz
  split at h
  · rename_i w hw
    have := xle_iff.mp h
    have := xlL_ok hS h1 hw
    omega
  · cases h
theorem xent_ok {ρ : List Int} {σ : List xB} {F : xF} (hS : xSt ρ σ) (hF : xFs ρ F) : ∀ {n : Nat} {g : xLn} {z : Int}, xent σ F n g = true → xlv ρ g = some z → 0 ≤ z
  | 0, g, z, h, hz => xlPos_ok hS h hz
  | n + 1, g, z, h, hz => by
    unfold xent at h
    rw [Bool.or_eq_true] at h
    rcases h with h | h
    · exact xlPos_ok hS h hz
    · split at h
      · cases h
      · rename_i q t hg
        rw [Bool.or_eq_true] at h
        rcases h with h | h
        · obtain ⟨f, hf, hc⟩ := List.any_eq_true.mp h
          rw [Bool.and_eq_true] at hc
          obtain ⟨y, h1, h2⟩ := hF f hf
          have := xent_ok hS hF hc.2 (xlA_ok (k := -1) hz h1)
          omega
        · split at h
          · cases h
          · rename_i r hr
            obtain ⟨x, h1, rfl⟩ := xlv_inv hz
            rw [hg] at h1
            obtain ⟨a, w, g1, g2, rfl⟩ := xlE_inv (k := q.1) (c := q.2) h1
            have := xent_ok hS hF h (xlv_mk (L := (t, g.2 + (bif xle 0 q.2 then q.2 * r.1 else q.2 * r.2))) g2)
            have := (x_lo1 (c := q.2) (hS.2 q.1 r a hr g1)).1
            dsimp only at *
            omega
