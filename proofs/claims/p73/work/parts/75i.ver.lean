/-! A contract is tried: from its beginning and from each cut to its ends and cuts. -/
/-- a cut: its place, the numbers of the locals that are told, the pattern, the measure -/
abbrev xCu : Type := Nat × (List Nat × (xPt × xLn))
def xidX : Nat → Nat → xKp
  | 0, _ => []
  | n + 1, k => some (.inr (.inr (.inr k))) :: xidX n (k + 1)
theorem xidX_at : ∀ {n k i : Nat}, i < n → (xidX n k)[i]? = some (some (.inr (.inr (.inr (k + i)))))
  | 0, _, i, h => absurd h (Nat.not_lt_zero i)
  | n + 1, k, 0, _ => by simp [xidX]
  | n + 1, k, i + 1, h => by
    have := xidX_at (n := n) (k := k + 1) (i := i) (by omega)
    simp only [xidX, List.getElem?_cons_succ]
    rw [this]
    have e : k + 1 + i = k + (i + 1) := by omega
    rw [e]
theorem xidX_len : ∀ (n k : Nat), (xidX n k).length = n
  | 0, _ => rfl
  | n + 1, k => by simp [xidX, xidX_len n]
/-- the values of locals -/
def xlocs (loc : List (Nat × xV)) : List Nat → Option (List xV)
  | [] => some []
  | k :: t => (match xget loc k with
    | none => none
    | some v => (match xlocs loc t with
      | none => none
      | some vs => some (v :: vs)))
theorem xlocs_ok {ρ : List Int} {ad ex : List Nat} {nL : Nat} {loc : List (Nat × xV)} {ls : Array Slot} (hL : xLo ρ ad ex nL loc ls) : ∀ {li : List Nat} {vs : List xV}, xlocs loc li = some vs → ∃ vals : List Value, xAll2 (xv ρ ad ex) vs vals ∧ xAll2 (fun (k : Nat) (w : Value) => ls[k]? = some (.val w)) li vals
  | [], vs, h => by
    cases h
    exact ⟨[], trivial, trivial⟩
  | k :: t, vs, h => by
    unfold xlocs at h
    split at h
    · cases h
    · rename_i v hv
      split at h
      · cases h
      · rename_i vs' hvs
        cases h
        obtain ⟨w, h1, h2⟩ := hL.get hv
        obtain ⟨vals, g1, g2⟩ := xlocs_ok hL hvs
        exact ⟨w :: vals, ⟨h2, g1⟩, ⟨h1, g2⟩⟩
theorem xLo_mk {ρ : List Int} {ad ex : List Nat} {nL : Nat} {ls : Array Slot} (hs : ls.size = nL) (hw : lv_wf ls) {li : List Nat} {vs : List xV} {vals : List Value} (h1 : xAll2 (fun (k : Nat) (w : Value) => ls[k]? = some (.val w)) li vals) (h2 : xAll2 (xv ρ ad ex) vs vals) : xLo ρ ad ex nL (li.zip vs) ls := by
  refine ⟨li.zip vals, ⟨hs, hw, ?_⟩, ?_⟩
  · induction li generalizing vals vs with
    | nil => intro q hq; simp at hq
    | cons k t ih =>
      obtain ⟨w, t', rfl, g1, g2⟩ := h1.cons
      intro q hq
      rw [List.zip_cons_cons] at hq
      rcases List.mem_cons.mp hq with rfl | hq
      · exact g1
      · cases vs with
        | nil => exact h2.elim
        | cons v vs' => exact ih g2 h2.2 q hq
  · clear hs hw
    induction li generalizing vals vs with
    | nil => simp [xAll2]
    | cons k t ih =>
      obtain ⟨w, t', rfl, g1, g2⟩ := h1.cons
      cases vs with
      | nil => exact h2.elim
      | cons v vs' =>
        rw [List.zip_cons_cons, List.zip_cons_cons]
        exact ⟨⟨rfl, h2.1⟩, ih g2 h2.2⟩
/-- a state fits a pattern that goes on from the same beginning -/
def xFitI (xn n0 nc nx : Nat) (h : List xC) (σ : List xB) (F : xF) (vs : List xV) (E : xPt) : Option (List xI × (List Nat × List xV)) := bif Nat.beq E.1.length nc && (Nat.beq E.2.2.2.2 nx && Nat.ble n0 E.2.1.length) then xPFF xn n0 nc h σ F vs (xidN nc 0) (xidX nx 20) E else none
theorem xFitI_ok {xn n0 nc nx : Nat} {h : List xC} {σ : List xB} {F : xF} {vs : List xV} {E : xPt} {θ : List xI} {φ : List Nat} {κ : List xV} {ρ0 ρ : List Int} {ad0 ad ex : List Nat} {tys : List (ClassId × FieldType)} {ws : va_W} {vals : List Value} (hv : xFitI xn n0 nc nx h σ F vs E = some (θ, φ, κ)) (h20 : 20 ≤ ex.length) (hnx : xn ≤ ex.length) (hex : ex.length = 20 + nx) (hn0 : ρ0.length = n0) (had : ad0.length = nc) (hX : xX ρ0 ρ) (hXa : xX ad0 ad) (hS : xSt ρ σ) (hF : xFs ρ F) (hh : xHp ρ ad ex tys h ws) (hvs : xAll2 (xv ρ ad ex) vs vals) :
    ∃ ρp wsp, xX ρ0 ρp ∧ xSt ρp E.2.1 ∧ xFs ρp E.2.2.1 ∧ xHp ρp ad0 ex tys E.1 wsp ∧ xAll2 (xv ρp ad0 ex) E.2.2.2.1 vals ∧ xThv ρ (θ.map some) ρp ∧ (∀ (i j a : Nat), φ[i]? = some a → φ[j]? = some a → i = j) ∧ (∀ (k : Nat) (y : Nat × va_E), wsp[k]? = some y → ∃ j : Nat, φ[k]? = some j ∧ ws[j]? = some y) := by
  unfold xFitI at hv
  obtain ⟨hc, hv⟩ := x_bifO hv
  simp only [Bool.and_eq_true] at hc
  obtain ⟨c1, c2, c3⟩ := hc
  have c1 := Nat.eq_of_beq_eq_true c1
  have c2 := Nat.eq_of_beq_eq_true c2
  have c3 := Nat.le_of_ble_eq_true c3
  have hv := xPFF_ok (Or.inr rfl) hv
  obtain ⟨l1, l2, l3, ρp, adp, wsp, hfits⟩ := xPFit_ok h20 hnx hS hF hh hvs hv
  obtain ⟨f1, f2, f3, f4, f5, f6, f7, f8, f9, f10⟩ := id hfits
  dsimp only at l1 l2 l3
  -- the refs outside are themselves
  have hκl : κ.length = nx := by
    have := l3.1
    rw [xidX_len] at this
    simpa using this.symm
  have hexp : ex.take 20 ++ κ.map (xra ad ex) = ex := by
    apply List.ext_getElem?
    intro k
    by_cases hk : k < 20
    · rw [List.getElem?_append_left (by rw [List.length_take]; omega), List.getElem?_take, if_pos hk]
    · have hl : (ex.take 20).length = 20 := by rw [List.length_take]; omega
      rw [List.getElem?_append_right (by omega), hl, List.getElem?_map]
      by_cases hk2 : k - 20 < nx
      · have := l3.2 (k - 20) _ (xidX_at (n := nx) (k := 20) hk2)
        rw [List.getElem?_map] at this
        cases hc : κ[k - 20]? with
        | none => rw [hc] at this; cases this
        | some v =>
          rw [hc] at this
          have this : some v = some _ := Option.some.inj this
          cases this
          have e : 20 + (k - 20) = k := by omega
          simp only [xra, e, Option.map_some]
          rw [List.getElem?_eq_getElem (by omega)]
          rfl
      · rw [List.getElem?_eq_none (by omega), List.getElem?_eq_none (by omega)]
        rfl
  -- the cells are themselves
  have hphi : ∀ i, i < nc → φ[i]? = some i := fun i hi => by
    have := l2.2 i _ (xidN_at (n := nc) (k := 0) hi)
    rw [List.getElem?_map] at this
    cases hc : φ[i]? with
    | none => rw [hc] at this; cases this
    | some v =>
      rw [hc] at this
      have this : some v = some (0 + i) := Option.some.inj this
      rw [this, Nat.zero_add]
  have hadp : adp = ad0 := by
    have hle : adp.length = nc := by
      rw [← f3.1, List.length_map, ← f3.2.len, c1]
    apply List.ext_getElem?
    intro k
    by_cases hk : k < nc
    · have hw : k < wsp.length := by rw [← f3.2.len, c1]; exact hk
      obtain ⟨j, g1, g2⟩ := f8 k wsp[k] (List.getElem?_eq_getElem hw)
      rw [hphi k hk] at g1
      cases g1
      have e1 : adp[k]? = some wsp[k].1 := by
        rw [← f3.1, List.getElem?_map, List.getElem?_eq_getElem hw]
        rfl
      have e2 : ad[k]? = some wsp[k].1 := by
        rw [← hh.1, List.getElem?_map, g2]
        rfl
      have e3 : ad0[k]? = some ad0[k] := List.getElem?_eq_getElem (by omega)
      have e4 := hXa.at e3
      rw [e2] at e4
      rw [e1, e3, ← e4]
    · rw [List.getElem?_eq_none (by omega), List.getElem?_eq_none (by omega)]
  -- the first symbols are themselves
  have hXp : xX ρ0 ρp := by
    refine ⟨ρp.drop n0, ?_⟩
    have hlp : ρp.length = E.2.1.length := f1.1.symm
    have ht : ρp.take n0 = ρ0 := by
      apply List.ext_getElem?
      intro k
      rw [List.getElem?_take]
      by_cases hk : k < n0
      · rw [if_pos hk]
        have h1 := l1.2 k _ (xidI_at (n := n0) (k := 0) hk)
        obtain ⟨z, g1, g2⟩ := f5.2 k _ h1
        have e3 : ρ0[k]? = some ρ0[k] := List.getElem?_eq_getElem (by omega)
        have e4 := hX.at e3
        simp only [xe, Nat.zero_add, e4, Int.add_zero, Option.some.injEq] at g1
        rw [g2, e3, g1]
      · rw [if_neg hk, List.getElem?_eq_none (by omega)]
    rw [← ht, List.take_append_drop]
  rw [hexp, hadp] at f3 f4
  exact ⟨ρp, wsp, hXp, f1, f2, f3, f4, f5, f7, f8⟩
/-- one end of a run: a return that fits an end, or a cut whose measure falls -/
def xChkO (xn n0 nc nx : Nat) (rt : Option FieldType) (E : List xPt) (cuts : List xCu) (ms : Option xLn) (o : xO2) : Bool :=
  bif Nat.ble 110 o.1.2.2.1 then xRet rt (o.1, o.2.1) && E.any (fun e => (xFitI xn n0 nc nx o.2.1.1 o.2.1.2.1 o.2.2 o.2.1.2.2.2.1 e).isSome)
  else (match o.2.1.2.2.2.1, o.2.1.2.2.2.2.1, o.2.1.2.2.2.2.2 with
    | [], 0, 0 => cuts.any (fun C => Nat.beq C.1 o.1.1 && (match xlocs o.2.1.2.2.1 C.2.1 with
      | none => false
      | some vs => (match xFitI xn n0 nc nx o.2.1.1 o.2.1.2.1 o.2.2 vs C.2.2.1 with
        | none => false
        | some r => (match ms with
          | none => true
          | some m0 => (match xlT r.1 C.2.2.2 with
            | none => false
            | some g => xent o.2.1.2.1 o.2.2 12 (xlA (-1) (m0.1, m0.2 - 1) g))))))
    | _, _, _ => false)
/-- how a run from a state ends -/
def xFrom (T : List (Nat × xCt)) (ht : List (Nat × xHl)) (f d j : Nat) (M : xMd) (c : xCt) (cuts : List xCu) (ms : Option xLn) (pc : Nat) (P : xPt) (loc : List (Nat × xV)) : Bool := match xRun2 xMt xTb T ht (20 + c.1.2.2.2.2) f 0 d none (cuts.map Prod.fst) M (xHof ht j) pc (xSeek M.pg pc) P.1 P.2.1 P.2.2.1 loc [] 0 0 with
  | none => false
  | some outs => outs.all (xChkO (20 + c.1.2.2.2.2) c.1.2.1.length c.1.1.length c.1.2.2.2.2 M.rt c.2.1 cuts ms)
/-- the beginning -/
def xVer0 (T : List (Nat × xCt)) (ht : List (Nat × xHl)) (f j : Nat) (M : xMd) (c : xCt) (cuts : List xCu) : Bool := Nat.ble (xsum c.1.2.2.2.1) M.nl && xFrom T ht f c.2.2 j M c cuts none 0 c.1 (xArgs 0 c.1.2.2.2.1)
/-- a cut -/
def xVerC (T : List (Nat × xCt)) (ht : List (Nat × xHl)) (f j : Nat) (M : xMd) (c : xCt) (cuts : List xCu) (C : xCu) : Bool := xlPos C.2.2.1.2.1 C.2.2.2 && xFrom T ht f c.2.2 j M c cuts (some C.2.2.2) C.1 C.2.2.1 (C.2.1.zip C.2.2.1.2.2.2.1)
