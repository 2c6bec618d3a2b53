/-! Branches that compare two symbols: facts. -/
abbrev xRF : Type := List (List xB × xF)
def xltF (σ : List xB) (F : xF) (a b : xI) : xRF := (xltR σ a b).map (fun τ => (τ, xlle a b 1 :: F))
def xleF (σ : List xB) (F : xF) (a b : xI) : xRF := (xleR σ a b).map (fun τ => (τ, xlle a b 0 :: F))
def xeqF (σ : List xB) (F : xF) (a b : xI) : xRF := (xeqR σ a b).map (fun τ => (τ, xlle a b 0 :: xlle b a 0 :: F))
def xneF (σ : List xB) (F : xF) (a b : xI) : xRF := bif xent σ F 2 (xlle a b 0) then xltF σ F a b else (bif xent σ F 2 (xlle b a 0) then xltF σ F b a else (xneR σ a b).map (fun τ => (τ, F)))
section XF
variable {ρ : List Int} {σ : List xB} {F : xF} {a b : xI} {z1 z2 : Int}
theorem xFs.cons {L : xLn} {z : Int} (hF : xFs ρ F) (h1 : xlv ρ L = some z) (h2 : 0 ≤ z) : xFs ρ (L :: F) := fun q hq => by
  rcases List.mem_cons.mp hq with rfl | hq
  · exact ⟨z, h1, h2⟩
  · exact hF q hq
theorem xltF_ok (hS : xSt ρ σ) (hF : xFs ρ F) (h1 : xe ρ a = some z1) (h2 : xe ρ b = some z2) (h : z1 < z2) : ∃ τ ∈ xltF σ F a b, xSt ρ τ.1 ∧ xFs ρ τ.2 := by
  obtain ⟨τ, g1, g2⟩ := xltR_ok hS h1 h2 h
  exact ⟨_, List.mem_map.mpr ⟨τ, g1, rfl⟩, g2, hF.cons (xlle_ok h1 h2) (by omega)⟩
theorem xleF_ok (hS : xSt ρ σ) (hF : xFs ρ F) (h1 : xe ρ a = some z1) (h2 : xe ρ b = some z2) (h : z1 ≤ z2) : ∃ τ ∈ xleF σ F a b, xSt ρ τ.1 ∧ xFs ρ τ.2 := by
  obtain ⟨τ, g1, g2⟩ := xleR_ok hS h1 h2 h
  exact ⟨_, List.mem_map.mpr ⟨τ, g1, rfl⟩, g2, hF.cons (xlle_ok h1 h2) (by omega)⟩
theorem xeqF_ok (hS : xSt ρ σ) (hF : xFs ρ F) (h1 : xe ρ a = some z1) (h2 : xe ρ b = some z2) (h : z1 = z2) : ∃ τ ∈ xeqF σ F a b, xSt ρ τ.1 ∧ xFs ρ τ.2 := by
  obtain ⟨τ, g1, g2⟩ := xeqR_ok hS h1 h2 h
  exact ⟨_, List.mem_map.mpr ⟨τ, g1, rfl⟩, g2, (hF.cons (xlle_ok h2 h1) (by omega)).cons (xlle_ok h1 h2) (by omega)⟩
theorem xneF_ok (hS : xSt ρ σ) (hF : xFs ρ F) (h1 : xe ρ a = some z1) (h2 : xe ρ b = some z2) (h : ¬ z1 = z2) : ∃ τ ∈ xneF σ F a b, xSt ρ τ.1 ∧ xFs ρ τ.2 := by
  unfold xneF
  cases e1 : xent σ F 2 (xlle a b 0) with
  | true =>
    have := xent_ok hS hF e1 (xlle_ok h1 h2)
    exact xltF_ok hS hF h1 h2 (by omega)
  | false =>
    cases e2 : xent σ F 2 (xlle b a 0) with
    | true =>
      have := xent_ok hS hF e2 (xlle_ok h2 h1)
      exact xltF_ok hS hF h2 h1 (by omega)
    | false =>
      obtain ⟨τ, g1, g2⟩ := xneR_ok hS h1 h2 h
      exact ⟨(τ, F), List.mem_map.mpr ⟨τ, g1, rfl⟩, g2, hF⟩
end XF
def xIfF (c : Jvm.ClassFile.Cond) (σ : List xB) (F : xF) (a b : xI) : xRF × xRF := match c with
  | .eq => (xeqF σ F a b, xneF σ F a b)
  | .ne => (xneF σ F a b, xeqF σ F a b)
  | .lt => (xltF σ F a b, xleF σ F b a)
  | .ge => (xleF σ F b a, xltF σ F a b)
  | .gt => (xltF σ F b a, xleF σ F a b)
  | .le => (xleF σ F a b, xltF σ F b a)
def xCondF (c : Jvm.ClassFile.Cond) (σ : List xB) (F : xF) (a b : xI) (pc : Nat) (off : Int) : Option (List (Nat × (List xB × xF))) := match xtg pc off with
  | none => none
  | some t => some ((xIfF c σ F a b).1.map (fun τ => (t, τ)) ++ (xIfF c σ F a b).2.map (fun τ => (pc + 3, τ)))
section XG
variable {p : Program} {l : Launch} {e : Env} {R : Room} {s : State} {m : MethodId} {args : Array Value} {below : List Frame} {meth : Method} {c : Code} {H : Heap} {locs : List Loc} {cells slots : Nat} {Q : State → Prop} {cc : ByteArray} {pc : Nat} {ls : Array Slot} {st rest : List Value} {ρ : List Int} {σ : List xB} {F : xF}
theorem xIcmpF_ok {cd : Jvm.ClassFile.Cond} {a b : xI} {x y : Int32} {off : Int} {L : List (Nat × (List xB × xF))} (hv : xCondF cd σ F a b pc off = some L) (hx : p.tables.exec = Jvm.exec) (hb : c.code = cc) (hd : decode cc pc = .ok (.if_icmp cd off, 3)) (hS : xSt ρ σ) (hF : xFs ρ F) (ha : xe ρ a = some x.toInt) (hb2 : xe ρ b = some y.toInt)
    (k : ∀ q ∈ L, xSt ρ q.2.1 → xFs ρ q.2.2 → W p l e R s m args below meth c H locs cells slots Q (F0 m q.1 ls rest)) : W p l e R s m args below meth c H locs cells slots Q (F0 m pc ls (.int y :: .int x :: rest)) := by
  unfold xCondF at hv
  cases ht : xtg pc off with
  | none => rw [ht] at hv; cases hv
  | some t =>
    rw [ht] at hv
    cases hv
    have hT := xtg_ok ht
    have go1 : ∀ {P : Prop}, (P → ∃ τ ∈ (xIfF cd σ F a b).1, xSt ρ τ.1 ∧ xFs ρ τ.2) → P → W p l e R s m args below meth c H locs cells slots Q (F0 m t ls rest) := fun f h => by
      obtain ⟨τ, g1, g2, g3⟩ := f h
      exact k (t, τ) (List.mem_append_left _ (List.mem_map.mpr ⟨τ, g1, rfl⟩)) g2 g3
    have go2 : ∀ {P : Prop}, (P → ∃ τ ∈ (xIfF cd σ F a b).2, xSt ρ τ.1 ∧ xFs ρ τ.2) → P → W p l e R s m args below meth c H locs cells slots Q (F0 m (pc + 3) ls rest) := fun f h => by
      obtain ⟨τ, g1, g2, g3⟩ := f h
      exact k (pc + 3, τ) (List.mem_append_right _ (List.mem_map.mpr ⟨τ, g1, rfl⟩)) g2 g3
    cases cd with
    | eq => exact lv_icmp_eq hx hb hd hT (go1 fun h => xeqF_ok hS hF ha hb2 (by rw [h])) (go2 fun h => xneF_ok hS hF ha hb2 (fun q => h (Int32.toInt_inj.mp q)))
    | ne => exact lv_icmp_ne hx hb hd hT (go1 fun h => xneF_ok hS hF ha hb2 (fun q => h (Int32.toInt_inj.mp q))) (go2 fun h => xeqF_ok hS hF ha hb2 (by rw [h]))
    | lt => exact lv_icmp_lt hx hb hd hT (go1 fun h => xltF_ok hS hF ha hb2 (Int32.lt_iff_toInt_lt.mp h)) (go2 fun h => xleF_ok hS hF hb2 ha (by rw [Int32.lt_iff_toInt_lt] at h; omega))
    | ge => exact lv_icmp_ge hx hb hd hT (go1 fun h => xleF_ok hS hF hb2 ha (Int32.le_iff_toInt_le.mp h)) (go2 fun h => xltF_ok hS hF ha hb2 (by rw [Int32.le_iff_toInt_le] at h; omega))
    | gt => exact lv_icmp_gt hx hb hd hT (go1 fun h => xltF_ok hS hF hb2 ha (Int32.lt_iff_toInt_lt.mp h)) (go2 fun h => xleF_ok hS hF ha hb2 (by rw [Int32.lt_iff_toInt_lt] at h; omega))
    | le => exact lv_icmp_le hx hb hd hT (go1 fun h => xleF_ok hS hF ha hb2 (Int32.le_iff_toInt_le.mp h)) (go2 fun h => xltF_ok hS hF hb2 ha (by rw [Int32.le_iff_toInt_le] at h; omega))
end XG
/-! Bounds out of facts. -/
/-- a fact, factor by factor: 0 is at most the rest's greatest and c times the symbol -/
def xT1 (c0 u : Int) (q : Nat × Int) (σ : List xB) : List xB := match σ[q.1]? with
  | none => σ
  | some r => bif xle 1 q.2 then (let nl := - ((u + c0 - q.2 * r.2) / q.2); bif xle nl r.1 then σ else σ.set q.1 (nl, r.2)) else (bif xle q.2 (-1) then (let nh := (u + c0 - q.2 * r.1) / (- q.2); bif xle r.2 nh then σ else σ.set q.1 (r.1, nh)) else σ)
theorem xSt.set {ρ : List Int} {σ : List xB} (h : xSt ρ σ) {k : Nat} {z lo hi : Int} (hz : ρ[k]? = some z) (h1 : lo ≤ z) (h2 : z ≤ hi) : xSt ρ (σ.set k (lo, hi)) := by
  refine ⟨by rw [List.length_set]; exact h.1, fun j r w hr hw => ?_⟩
  by_cases hj : k = j
  · subst hj
    rw [List.getElem?_set_self'] at hr
    rw [hz] at hw
    cases hw
    cases hs : σ[k]? with
    | none => rw [hs] at hr; cases hr
    | some q =>
      rw [hs] at hr
      have hr : (lo, hi) = r := Option.some.inj hr
      subst hr
      exact ⟨h1, h2⟩
  · rw [List.getElem?_set_ne hj] at hr
    exact h.2 j r w hr hw
theorem x_dlo {c z M : Int} (hc : 1 ≤ c) (h : 0 ≤ c * z + M) : - (M / c) ≤ z := by
  have h1 : M < (M / c + 1) * c := Int.lt_ediv_add_one_mul_self M (by omega)
  rcases Int.lt_or_le z (- (M / c)) with q | q
  · have h2 : z + 1 ≤ - (M / c) := q
    have h3 : c * (z + 1) ≤ c * (- (M / c)) := Int.mul_le_mul_of_nonneg_left h2 (by omega)
    rw [Int.mul_add, Int.mul_one] at h3
    rw [Int.add_mul, Int.one_mul, Int.mul_comm (M / c) c] at h1
    rw [Int.mul_neg] at h3
    omega
  · exact q
theorem x_dhi {c z M : Int} (hc : 1 ≤ c) (h : 0 ≤ M - c * z) : z ≤ M / c := by
  have := x_dlo (c := c) (z := - z) (M := M) hc (by rw [Int.mul_neg]; omega)
  omega
theorem xT1_ok {ρ : List Int} {σ : List xB} (hS : xSt ρ σ) {l : List (Nat × Int)} {c0 u x : Int} {q : Nat × Int} (hq : q ∈ l) (hx : xlE ρ l = some x) (h0 : 0 ≤ x + c0) (hu : xlU σ l = some u) : xSt ρ (xT1 c0 u q σ) := by
  -- the rest of the sum is at most u less what the symbol's own part can be
  have key : ∀ {l : List (Nat × Int)} {x u : Int}, q ∈ l → xlE ρ l = some x → xlU σ l = some u → ∃ z r, ρ[q.1]? = some z ∧ σ[q.1]? = some r ∧ x - q.2 * z ≤ u - (bif xle 0 q.2 then q.2 * r.2 else q.2 * r.1) := by
    intro l
    induction l with
    | nil => intro x u hq; cases hq
    | cons p t ih =>
      intro x u hq hx hu
      obtain ⟨k, c⟩ := p
      obtain ⟨z, w, g1, g2, rfl⟩ := xlE_inv hx
      simp only [xlU] at hu
      split at hu
      · cases hu
      · rename_i r hr
        split at hu
        · cases hu
        · rename_i v hv
          cases hu
          rcases List.mem_cons.mp hq with rfl | hq
          · refine ⟨z, r, g1, hr, ?_⟩
            have := xlU_ok hS g2 hv
            dsimp only
            omega
          · obtain ⟨z', r', k1, k2, k3⟩ := ih hq g2 hv
            refine ⟨z', r', k1, k2, ?_⟩
            have := (x_lo1 (c := c) (hS.2 k r z hr g1)).2
            omega
  obtain ⟨z, r, g1, g2, g3⟩ := key hq hx hu
  have hb := hS.2 q.1 r z g2 g1
  unfold xT1
  rw [g2]
  dsimp only
  cases h1 : xle 1 q.2 with
  | true =>
    have c1 := xle_iff.mp h1
    simp only [cond_true]
    cases h2 : xle (- ((u + c0 - q.2 * r.2) / q.2)) r.1 with
    | true => exact hS
    | false =>
      have e : xle 0 q.2 = true := xle_iff.mpr (by omega)
      rw [e] at g3
      exact hS.set g1 (x_dlo c1 (by simp only [cond_true] at g3; omega)) hb.2
  | false =>
    simp only [cond_false]
    cases h2 : xle q.2 (-1) with
    | false => exact hS
    | true =>
      have c1 := xle_iff.mp h2
      simp only [cond_true]
      cases h3 : xle r.2 ((u + c0 - q.2 * r.1) / (- q.2)) with
      | true => exact hS
      | false =>
        have e : xle 0 q.2 = false := by
          cases he : xle 0 q.2 with
          | false => rfl
          | true => have := xle_iff.mp he; omega
        rw [e] at g3
        refine hS.set g1 hb.1 (x_dhi (c := - q.2) (by omega) ?_)
        simp only [cond_false] at g3
        rw [Int.neg_mul]
        omega
/-- one fact, each of its symbols in turn -/
def xT2 (f : xLn) : List (Nat × Int) → List xB → List xB
  | [], σ => σ
  | q :: t, σ => (match xlU σ f.1 with
    | none => σ
    | some u => xT2 f t (xT1 f.2 u q σ))
theorem xT2_ok {ρ : List Int} {f : xLn} {z : Int} (hz : xlv ρ f = some z) (h0 : 0 ≤ z) : ∀ {l : List (Nat × Int)} {σ : List xB}, (∀ q ∈ l, q ∈ f.1) → xSt ρ σ → xSt ρ (xT2 f l σ)
  | [], σ, _, hS => hS
  | q :: t, σ, hl, hS => by
    obtain ⟨x, hx, rfl⟩ := xlv_inv hz
    unfold xT2
    split
    · exact hS
    · rename_i u hu
      exact xT2_ok hz h0 (fun q' h' => hl q' (List.mem_cons_of_mem _ h')) (xT1_ok hS (hl q List.mem_cons_self) hx h0 hu)
def xT3s : xF → List xB → List xB
  | [], σ => σ
  | f :: t, σ => xT3s t (xT2 f f.1 σ)
theorem xT3s_ok {ρ : List Int} : ∀ {F : xF} {σ : List xB}, xFs ρ F → xSt ρ σ → xSt ρ (xT3s F σ)
  | [], σ, _, hS => hS
  | f :: t, σ, hF, hS => by
    obtain ⟨z, h1, h2⟩ := hF f List.mem_cons_self
    exact xT3s_ok (F := t) (fun q hq => hF q (List.mem_cons_of_mem _ hq)) (xT2_ok h1 h2 (fun _ h => h) hS)
/-- twice; a symbol whose bounds are none: the state can't be -/
def xTight (F : xF) (σ : List xB) : Option (List xB) := let τ := xT3s F (xT3s F σ); bif τ.all (fun r => xle r.1 r.2) then some τ else none
theorem xTight_ok {ρ : List Int} {F : xF} {σ : List xB} (hF : xFs ρ F) (hS : xSt ρ σ) : ∃ τ, xTight F σ = some τ ∧ xSt ρ τ := by
  have h := xT3s_ok hF (xT3s_ok hF hS)
  refine ⟨_, ?_, h⟩
  unfold xTight
  have : (xT3s F (xT3s F σ)).all (fun r => xle r.1 r.2) = true := by
    apply List.all_eq_true.mpr
    intro r hr
    obtain ⟨k, hk⟩ := List.getElem?_of_mem hr
    have hlt : k < ρ.length := by
      rw [← h.1]
      exact (List.getElem?_eq_some_iff.mp hk).1
    have := h.2 k r ρ[k] hk (List.getElem?_eq_getElem hlt)
    exact xle_iff.mpr (by omega)
  dsimp only
  rw [this]
  rfl
