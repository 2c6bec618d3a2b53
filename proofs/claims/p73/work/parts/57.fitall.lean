/-! Patterns: the whole test. -/
theorem xe_def {ρ : List Int} {σ : List xB} {a : xI} {r : xB} (hS : xSt ρ σ) (hr : xrg σ a = some r) : ∃ z, xe ρ a = some z := by
  obtain ⟨o, c⟩ := a
  cases o with
  | none => exact ⟨c, rfl⟩
  | some k =>
    simp only [xrg] at hr
    cases hk : σ[k]? with
    | none => rw [hk] at hr; cases hr
    | some q =>
      have hlt : k < σ.length := (List.getElem?_eq_some_iff.mp hk).1
      rw [hS.1] at hlt
      refine ⟨ρ[k] + c, ?_⟩
      simp only [xe]
      rw [List.getElem?_eq_getElem hlt]
/-- all are there -/
def xTot {α : Type} : List (Option α) → Option (List α)
  | [] => some []
  | some a :: t => (match xTot t with
    | some l => some (a :: l)
    | none => none)
  | none :: _ => none
theorem xTot_ok {α : Type} : ∀ {θ : List (Option α)} {l : List α}, xTot θ = some l → θ = l.map some
  | [], l, h => by
    simp only [xTot, Option.some.injEq] at h
    subst h
    rfl
  | some a :: t, l, h => by
    simp only [xTot] at h
    split at h
    · rename_i l' hl
      cases h
      rw [xTot_ok hl]
      rfl
    · cases h
  | none :: _, l, h => by cases h
/-- within the pattern's bounds -/
def xIn (σ : List xB) : List xI → List xB → Bool
  | [], [] => true
  | a :: as, r :: rs => (match xrg σ a with
    | some q => xle r.1 q.1 && (xle q.2 r.2 && xIn σ as rs)
    | none => false)
  | _, _ => false
theorem xIn_ok {ρ : List Int} {σ : List xB} (hS : xSt ρ σ) : ∀ {θ : List xI} {τ : List xB}, xIn σ θ τ = true → ∃ ρp, xSt ρp τ ∧ xThv ρ (θ.map some) ρp
  | [], [], _ => ⟨[], ⟨rfl, fun k r z h => by simp at h⟩, rfl, fun k b h => by simp at h⟩
  | a :: as, r :: rs, h => by
    simp only [xIn] at h
    split at h
    · rename_i q hq
      rw [Bool.and_eq_true, Bool.and_eq_true, xle_iff, xle_iff] at h
      obtain ⟨h1, h2, h3⟩ := h
      obtain ⟨z, hz⟩ := xe_def hS hq
      have hb := xrg_ok hS hz hq
      obtain ⟨ρp, p1, p2⟩ := xIn_ok hS h3
      refine ⟨z :: ρp, ⟨by simp [p1.1], fun k r' z' hr hz' => ?_⟩, by simpa using p2.1, fun k b hk => ?_⟩
      · cases k with
        | zero =>
          simp at hr hz'
          subst hr; subst hz'
          omega
        | succ k => exact p1.2 k r' z' (by simpa using hr) (by simpa using hz')
      · cases k with
        | zero =>
          simp at hk
          subst hk
          exact ⟨z, hz, by simp⟩
        | succ k =>
          obtain ⟨z', q1, q2⟩ := p2.2 k b (by simpa using hk)
          exact ⟨z', q1, by simpa using q2⟩
    · cases h
  | [], _ :: _, h => by cases h
  | _ :: _, [], h => by cases h
/-- a pattern's number in the state's words -/
def xsub1 (θ : List xI) (a : xI) : Option xI := match a.1 with
  | none => some a
  | some k => (match θ[k]? with
    | some b => some (b.1, b.2 + a.2)
    | none => none)
theorem xsub1_ok {ρ ρp : List Int} {θ : List xI} (hv : xThv ρ (θ.map some) ρp) {a b : xI} (h : xsub1 θ a = some b) : ∃ z, xe ρ b = some z ∧ xe ρp a = some z := by
  obtain ⟨o, c⟩ := a
  cases o with
  | none =>
    simp only [xsub1, Option.some.injEq] at h
    subst h
    exact ⟨c, rfl, rfl⟩
  | some k =>
    simp only [xsub1] at h
    split at h
    · rename_i d hd
      cases h
      obtain ⟨z, h1, h2⟩ := hv.2 k d (by rw [List.getElem?_map, hd]; rfl)
      refine ⟨z + c, xe_off h1, ?_⟩
      simp only [xe]
      rw [h2]
    · cases h
/-- a pattern's sum in the state's words -/
def xlS (θ : List xI) : List (Nat × Int) → xLn → Option xLn
  | [], acc => some acc
  | q :: t, acc => (match θ[q.1]? with
    | some b => xlS θ t (xlA q.2 acc (xln b))
    | none => none)
theorem xlS_ok {ρ ρp : List Int} {θ : List xI} (hv : xThv ρ (θ.map some) ρp) : ∀ {l : List (Nat × Int)} {acc r : xLn} {w : Int}, xlS θ l acc = some r → xlv ρ acc = some w → ∃ z, xlE ρp l = some z ∧ xlv ρ r = some (w + z)
  | [], acc, r, w, h, hw => by
    simp only [xlS, Option.some.injEq] at h
    subst h
    exact ⟨0, rfl, by rw [hw, Int.add_zero]⟩
  | (s, c) :: t, acc, r, w, h, hw => by
    simp only [xlS] at h
    split at h
    · rename_i b hb
      obtain ⟨y, h1, h2⟩ := hv.2 s b (by rw [List.getElem?_map, hb]; rfl)
      obtain ⟨z, g1, g2⟩ := xlS_ok hv h (xlA_ok (k := c) hw (xln_ok h1))
      refine ⟨c * y + z, xlE_cons h2 g1, ?_⟩
      rw [g2, Int.add_assoc]
    · cases h
def xlT (θ : List xI) (g : xLn) : Option xLn := xlS θ g.1 ([], g.2)
theorem xlT_ok {ρ ρp : List Int} {θ : List xI} (hv : xThv ρ (θ.map some) ρp) {g r : xLn} (h : xlT θ g = some r) : ∃ z, xlv ρp g = some z ∧ xlv ρ r = some z := by
  obtain ⟨z, h1, h2⟩ := xlS_ok hv h (w := g.2) (by simp [xlv, xlE])
  exact ⟨z + g.2, xlv_mk h1, by rw [h2]; congr 1; omega⟩
def xFin (σ : List xB) (F : xF) (θ : List xI) (G : xF) : Bool := G.all (fun q => match xlT θ q with
  | some g => xent σ F 12 g
  | none => false)
theorem xFin_ok {ρ ρp : List Int} {σ : List xB} {F G : xF} {θ : List xI} (hS : xSt ρ σ) (hF : xFs ρ F) (hv : xThv ρ (θ.map some) ρp) (h : xFin σ F θ G = true) : xFs ρp G := fun q hq => by
  have := List.all_eq_true.mp h q hq
  split at this
  · rename_i g hg
    obtain ⟨z, h1, h2⟩ := xlT_ok hv hg
    exact ⟨z, h1, xent_ok hS hF this h2⟩
  · cases this
def xnd : List Nat → Bool
  | [] => true
  | a :: t => !(t.any (Nat.beq a)) && xnd t
theorem xnd_ok : ∀ {l : List Nat}, xnd l = true → ∀ (i j : Nat) (a : Nat), l[i]? = some a → l[j]? = some a → i = j
  | [], _, i, j, a, h, _ => by simp at h
  | b :: t, h, i, j, a, hi, hj => by
    simp only [xnd, Bool.and_eq_true, Bool.not_eq_true'] at h
    have hn : ∀ k, t[k]? = some b → False := fun k hk => by
      have : t.any (Nat.beq b) = true := List.any_eq_true.mpr ⟨b, List.mem_of_getElem? hk, Nat.beq_refl b⟩
      rw [h.1] at this
      cases this
    cases i with
    | zero =>
      cases j with
      | zero => rfl
      | succ j =>
        simp at hi hj
        subst hi
        exact (hn j hj).elim
    | succ i =>
      cases j with
      | zero =>
        simp at hi hj
        subst hj
        exact (hn i hi).elim
      | succ j =>
        simp at hi hj
        rw [xnd_ok h.2 i j a hi hj]
/-- a pattern: cells, bounds, facts, values; how many outside refs -/
abbrev xPt : Type := List xC × (List xB × (xF × (List xV × Nat)))
/-- a ref that there is: a cell, or one outside -/
def xKin (n nx : Nat) : xV → Bool
  | .inr (.inr (.inl (some i))) => Nat.blt i n
  | .inr (.inr (.inr k)) => Nat.blt k nx
  | _ => false
/-- THE TEST. nx: how many refs outside there are. The state: cells, bounds, facts, values; t: what is known beforehand -/
def xPFit (nx : Nat) (h : List xC) (σ : List xB) (F : xF) (vs : List xV) (t : xT3) (P : xPt) : Option (List xI × (List Nat × List xV)) := match xmVs σ t P.2.2.2.1 vs with
  | none => none
  | some t1 => (match xmH σ h 0 P.1 t1 with
    | none => none
    | some t2 => (match xTot t2.1 with
      | none => none
      | some θ => (match xTot t2.2.1 with
        | none => none
        | some φ => (match xTot t2.2.2 with
          | none => none
          | some κ => bif Nat.beq φ.length P.1.length && (xnd φ && (κ.all (xKin h.length nx) && (xIn σ θ P.2.1 && xFin σ F θ P.2.2.1))) then some (θ, φ, κ) else none))))
/-- what it says -/
def xFits (ρ : List Int) (ad ex : List Nat) (tys : List (ClassId × FieldType)) (ws : va_W) (vals : List Value) (θ : List xI) (φ : List Nat) (κ : List xV) (P : xPt) (ρp : List Int) (adp exp : List Nat) (wsp : va_W) : Prop :=
  xSt ρp P.2.1 ∧ xFs ρp P.2.2.1 ∧ xHp ρp adp exp tys P.1 wsp ∧ xAll2 (xv ρp adp exp) P.2.2.2.1 vals ∧ xThv ρ (θ.map some) ρp ∧ φ.length = P.1.length ∧ (∀ (i j a : Nat), φ[i]? = some a → φ[j]? = some a → i = j) ∧ (∀ (k : Nat) (y : Nat × va_E), wsp[k]? = some y → ∃ j : Nat, φ[k]? = some j ∧ ws[j]? = some y) ∧ xKv ad ex (κ.map some) exp ∧ exp.length = 20 + κ.length
theorem xmH_cell {ρ : List Int} {σ : List xB} (hS : xSt ρ σ) {h : List xC} : ∀ {ps : List xC} {i : Nat} {t t' : xT3}, xmH σ h i ps t = some t' → xLe t.2.1 t'.2.1 ∧ ∀ n, n < ps.length → ∀ j, t'.2.1[i + n]? = some (some j) → ∃ x, h[j]? = some x
  | [], i, t, t', hv => by
    simp only [xmH, Option.some.injEq] at hv
    subst hv
    exact ⟨xLe.rf _, fun n hn => absurd hn (Nat.not_lt_zero n)⟩
  | p :: ps, i, t, t', hv => by
    simp only [xmH] at hv
    split at hv
    · rename_i j0 hj
      split at hv
      · rename_i x hx
        split at hv
        · rename_i t1 h1
          obtain ⟨l2, k2⟩ := xmH_cell hS hv
          have l1 : xLe t.2.1 t1.2.1 := (xmC_ok (cn := xcn) (ad := []) (ex := []) (tys := []) hS h1).1.2.1
          refine ⟨l1.tr l2, fun n hn j hj' => ?_⟩
          cases n with
          | zero =>
            have := (l1.tr l2).2 i j0 hj
            rw [Nat.add_zero] at hj'
            rw [hj'] at this
            cases this
            exact ⟨x, hx⟩
          | succ n =>
            have e : i + (n + 1) = i + 1 + n := by omega
            rw [e] at hj'
            exact k2 n (by simpa using hn) j hj'
        · cases hv
      · cases hv
    · cases hv
theorem xAll2_of {α β : Type} {R : α → β → Prop} : ∀ {l : List α} {r : List β}, l.length = r.length → (∀ (k : Nat) (a : α), l[k]? = some a → ∃ b, r[k]? = some b ∧ R a b) → xAll2 R l r
  | [], [], _, _ => trivial
  | a :: l, b :: r, hn, h => by
    refine ⟨?_, xAll2_of (by simpa using hn) (fun k x hx => ?_)⟩
    · obtain ⟨b', h1, h2⟩ := h 0 a (by simp)
      simp at h1
      subst h1
      exact h2
    · obtain ⟨b', h1, h2⟩ := h (k + 1) x (by simpa using hx)
      exact ⟨b', by simpa using h1, h2⟩
  | [], _ :: _, hn, _ => by simp at hn
  | _ :: _, [], hn, _ => by simp at hn
/-- the address of a ref -/
def xra (ad ex : List Nat) : xV → Nat
  | .inr (.inr (.inl (some i))) => (ad[i]?).getD 0
  | .inr (.inr (.inr k)) => (ex[k]?).getD 0
  | _ => 0
/-- all refs of a list stand for something -/
def xKok (ad ex : List Nat) (κ : List xV) : Prop := ∀ v ∈ κ, ∃ q, xrq ad ex v q
theorem xra_ok {ad ex : List Nat} : ∀ {v : xV} {q : Nat}, xrq ad ex v q → xra ad ex v = q
  | .inl _, _, h => h.elim
  | .inr (.inl _), _, h => h.elim
  | .inr (.inr (.inl none)), _, h => h.elim
  | .inr (.inr (.inl (some i))), q, h => by
    have h : ad[i]? = some q := h
    simp [xra, h]
  | .inr (.inr (.inr k)), q, h => by
    have h : ex[k]? = some q := h
    simp [xra, h]
theorem xKv_mk {ad ex : List Nat} {κ : List xV} (h20 : 20 ≤ ex.length) (h : xKok ad ex κ) : xKv ad ex (κ.map some) (ex.take 20 ++ κ.map (xra ad ex)) ∧ (ex.take 20 ++ κ.map (xra ad ex)).length = 20 + κ.length := by
  have hl : (ex.take 20).length = 20 := by rw [List.length_take]; omega
  refine ⟨⟨fun k hk => ?_, fun k v hv => ?_⟩, by rw [List.length_append, hl, List.length_map]⟩
  · rw [List.getElem?_append_left (by omega), List.getElem?_take, if_pos hk]
  · rw [List.getElem?_map] at hv
    cases hc : κ[k]? with
    | none => rw [hc] at hv; cases hv
    | some v' =>
      rw [hc] at hv
      cases hv
      obtain ⟨q, hq⟩ := h v (List.mem_of_getElem? hc)
      refine ⟨q, hq, ?_⟩
      rw [List.getElem?_append_right (by omega), hl, Nat.add_sub_cancel_left, List.getElem?_map, hc]
      simp [xra_ok hq]
theorem xKok_of {ρ : List Int} {ad ex : List Nat} {tys : List (ClassId × FieldType)} {ws : va_W} {h : List xC} {nx : Nat} {κ : List xV} (hh : xHp ρ ad ex tys h ws) (hx : nx ≤ ex.length) (hk : κ.all (xKin h.length nx) = true) : xKok ad ex κ := fun v hv => by
  have := List.all_eq_true.mp hk v hv
  have hl := hh.lenAd
  unfold xKin at this
  split at this
  · rename_i i
    have hi := x_blt this
    exact ⟨ad[i]'(by omega), List.getElem?_eq_getElem (by omega)⟩
  · rename_i k
    have hi := x_blt this
    exact ⟨ex[k]'(by omega), List.getElem?_eq_getElem (by omega)⟩
  · cases this
theorem xPFit_ok {ρ : List Int} {ad ex : List Nat} {tys : List (ClassId × FieldType)} {ws : va_W} {h : List xC} {σ : List xB} {F : xF} {vs : List xV} {vals : List Value} {t : xT3} {P : xPt} {θ : List xI} {φ : List Nat} {κ : List xV} {nx : Nat} (h20 : 20 ≤ ex.length) (hnx : nx ≤ ex.length) (hS : xSt ρ σ) (hF : xFs ρ F) (hh : xHp ρ ad ex tys h ws) (hvs : xAll2 (xv ρ ad ex) vs vals) (hv : xPFit nx h σ F vs t P = some (θ, φ, κ)) :
    xLe t.1 (θ.map some) ∧ xLe t.2.1 (φ.map some) ∧ xLe t.2.2 (κ.map some) ∧ ∃ ρp adp wsp, xFits ρ ad ex tys ws vals θ φ κ P ρp adp (ex.take 20 ++ κ.map (xra ad ex)) wsp := by
  unfold xPFit at hv
  split at hv
  · cases hv
  · rename_i t1 h1
    split at hv
    · cases hv
    · rename_i t2 h2
      split at hv
      · cases hv
      · rename_i θ' hθ
        split at hv
        · cases hv
        · rename_i φ' hφ
          split at hv
          · cases hv
          · rename_i κ' hκ
            obtain ⟨hb, e⟩ := x_bif hv
            cases e
            rw [Bool.and_eq_true, Bool.and_eq_true, Bool.and_eq_true, Bool.and_eq_true] at hb
            obtain ⟨b1, b2, b5, b3, b4⟩ := hb
            have b1 := Nat.eq_of_beq_eq_true b1
            have e1 := xTot_ok hθ
            have e2 := xTot_ok hφ
            have e3 := xTot_ok hκ
            obtain ⟨l1, k1⟩ := xmVs_ok (ad := ad) (ex := ex) hS h1
            obtain ⟨l2, k2⟩ := xmH_ok hS hh h2
            have lt := l1.tr l2
            obtain ⟨ρp, p1, p2⟩ := xIn_ok hS b3
            obtain ⟨-, k3⟩ := xmH_cell hS h2
            obtain ⟨hK, hKl⟩ := xKv_mk (ad := ad) h20 (xKok_of hh hnx b5)
            have hal : ∀ (k j : Nat), φ[k]? = some j → ∃ y, ws[j]? = some y ∧ ad[j]? = some y.1 := fun k j hk => by
              have hlt : k < P.1.length := by
                rw [← b1]
                exact (List.getElem?_eq_some_iff.mp hk).1
              obtain ⟨x, hx⟩ := k3 k hlt j (by rw [Nat.zero_add, e2, List.getElem?_map, hk]; rfl)
              obtain ⟨y, hy1, hy2⟩ := hh.2.get hx
              refine ⟨y, hy1, ?_⟩
              have : (ws.map Prod.fst)[j]? = some y.1 := by rw [List.getElem?_map, hy1]; rfl
              rw [hh.1] at this
              exact this
            let dw : Nat × va_E := (0, .inr (0, []))
            let wsp : va_W := φ.map (fun j => (ws[j]?).getD dw)
            let adp : List Nat := φ.map (fun j => (ad[j]?).getD 0)
            have hw1 : ∀ (k j : Nat) (y : Nat × va_E), φ[k]? = some j → ws[j]? = some y → wsp[k]? = some y := fun k j y hk hy => by
              show (φ.map _)[k]? = _
              rw [List.getElem?_map, hk]
              simp [hy]
            have ha1 : ∀ (k j q : Nat), φ[k]? = some j → ad[j]? = some q → adp[k]? = some q := fun k j q hk hq => by
              show (φ.map _)[k]? = _
              rw [List.getElem?_map, hk]
              simp [hq]
            have hPv : xPhv ad t2.2.1 adp := by
              rw [e2]
              refine ⟨by simp [adp], fun k j hk => ?_⟩
              rw [List.getElem?_map] at hk
              cases hf : φ[k]? with
              | none => rw [hf] at hk; cases hk
              | some j' =>
                rw [hf] at hk
                cases hk
                obtain ⟨y, -, hy⟩ := hal k j hf
                exact ⟨y.1, hy, ha1 k j y.1 hf hy⟩
            have hVl : xVal ρ ad ex t2 ρp adp (ex.take 20 ++ κ.map (xra ad ex)) := ⟨by rw [e1]; exact p2, hPv, by rw [e3]; exact hK⟩
            refine ⟨by rw [← e1]; exact lt.1, by rw [← e2]; exact lt.2.1, by rw [← e3]; exact lt.2.2, ρp, adp, wsp, p1, xFin_ok hS hF p2 b4, ⟨?_, ?_⟩, k1 l2 hVl hvs, p2, b1, xnd_ok b2, ?_, hK, hKl⟩
            · apply List.ext_getElem?
              intro k
              show ((φ.map _).map _)[k]? = (φ.map _)[k]?
              rw [List.getElem?_map, List.getElem?_map, List.getElem?_map]
              cases hf : φ[k]? with
              | none => rfl
              | some j =>
                obtain ⟨y, hy1, hy2⟩ := hal k j hf
                simp [hy1, hy2]
            · refine xAll2_of (by simp [wsp, b1]) (fun k p hp => ?_)
              obtain ⟨j, y, q1, q2, -, q4⟩ := k2 (xL3.rf t2) hVl k p hp
              rw [Nat.zero_add, e2, List.getElem?_map] at q1
              cases hf : φ[k]? with
              | none => rw [hf] at q1; cases q1
              | some j' =>
                rw [hf] at q1
                cases q1
                exact ⟨y, hw1 k j y hf q2, q4⟩
            · intro k y hy
              have hy : (φ.map (fun j => (ws[j]?).getD dw))[k]? = some y := hy
              rw [List.getElem?_map] at hy
              cases hf : φ[k]? with
              | none => rw [hf] at hy; cases hy
              | some j =>
                obtain ⟨y', hy1, -⟩ := hal k j hf
                rw [hf] at hy
                simp [hy1] at hy
                subst hy
                exact ⟨j, rfl, hy1⟩
