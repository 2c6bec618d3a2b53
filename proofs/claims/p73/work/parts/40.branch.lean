/-! Branches: what a condition says of the bounds. -/
def xltR (σ : List xB) (a b : xI) : List (List xB) := match xrg σ a with
  | none => [σ]
  | some ra => match xrg σ b with
    | none => [σ]
    | some rb => bif xle ra.1 (xmin ra.2 (rb.2 - 1)) && xle (xmax rb.1 (ra.1 + 1)) rb.2 then [xput (xput σ a ra.1 (xmin ra.2 (rb.2 - 1))) b (xmax rb.1 (ra.1 + 1)) rb.2] else []
theorem xltR_ok {ρ : List Int} {σ : List xB} {a b : xI} {z1 z2 : Int} (hS : xSt ρ σ) (h1 : xe ρ a = some z1) (h2 : xe ρ b = some z2) (h : z1 < z2) : ∃ τ ∈ xltR σ a b, xSt ρ τ := by
  unfold xltR
  cases ha : xrg σ a with
  | none => exact ⟨σ, List.mem_singleton.mpr rfl, hS⟩
  | some ra =>
    cases hb : xrg σ b with
    | none => exact ⟨σ, List.mem_singleton.mpr rfl, hS⟩
    | some rb =>
      have q1 := xrg_ok hS h1 ha
      have q2 := xrg_ok hS h2 hb
      have m1 : z1 ≤ xmin ra.2 (rb.2 - 1) := xmin_le1 (by omega) (by omega)
      have m2 : xmax rb.1 (ra.1 + 1) ≤ z2 := xmax_le1 (by omega) (by omega)
      dsimp only
      rw [xle_iff.mpr (show ra.1 ≤ xmin ra.2 (rb.2 - 1) by omega), xle_iff.mpr (show xmax rb.1 (ra.1 + 1) ≤ rb.2 by omega)]
      exact ⟨_, List.mem_singleton.mpr rfl, xput_ok (xput_ok hS h1 q1.1 m1) h2 m2 q2.2⟩
def xleR (σ : List xB) (a b : xI) : List (List xB) := match xrg σ a with
  | none => [σ]
  | some ra => match xrg σ b with
    | none => [σ]
    | some rb => bif xle ra.1 (xmin ra.2 rb.2) && xle (xmax rb.1 ra.1) rb.2 then [xput (xput σ a ra.1 (xmin ra.2 rb.2)) b (xmax rb.1 ra.1) rb.2] else []
theorem xleR_ok {ρ : List Int} {σ : List xB} {a b : xI} {z1 z2 : Int} (hS : xSt ρ σ) (h1 : xe ρ a = some z1) (h2 : xe ρ b = some z2) (h : z1 ≤ z2) : ∃ τ ∈ xleR σ a b, xSt ρ τ := by
  unfold xleR
  cases ha : xrg σ a with
  | none => exact ⟨σ, List.mem_singleton.mpr rfl, hS⟩
  | some ra =>
    cases hb : xrg σ b with
    | none => exact ⟨σ, List.mem_singleton.mpr rfl, hS⟩
    | some rb =>
      have q1 := xrg_ok hS h1 ha
      have q2 := xrg_ok hS h2 hb
      have m1 : z1 ≤ xmin ra.2 rb.2 := xmin_le1 (by omega) (by omega)
      have m2 : xmax rb.1 ra.1 ≤ z2 := xmax_le1 (by omega) (by omega)
      dsimp only
      rw [xle_iff.mpr (show ra.1 ≤ xmin ra.2 rb.2 by omega), xle_iff.mpr (show xmax rb.1 ra.1 ≤ rb.2 by omega)]
      exact ⟨_, List.mem_singleton.mpr rfl, xput_ok (xput_ok hS h1 q1.1 m1) h2 m2 q2.2⟩
def xeqR (σ : List xB) (a b : xI) : List (List xB) := match xrg σ a with
  | none => [σ]
  | some ra => match xrg σ b with
    | none => [σ]
    | some rb => bif xle (xmax ra.1 rb.1) (xmin ra.2 rb.2) then [xput (xput σ a (xmax ra.1 rb.1) (xmin ra.2 rb.2)) b (xmax ra.1 rb.1) (xmin ra.2 rb.2)] else []
theorem xeqR_ok {ρ : List Int} {σ : List xB} {a b : xI} {z1 z2 : Int} (hS : xSt ρ σ) (h1 : xe ρ a = some z1) (h2 : xe ρ b = some z2) (h : z1 = z2) : ∃ τ ∈ xeqR σ a b, xSt ρ τ := by
  unfold xeqR
  cases ha : xrg σ a with
  | none => exact ⟨σ, List.mem_singleton.mpr rfl, hS⟩
  | some ra =>
    cases hb : xrg σ b with
    | none => exact ⟨σ, List.mem_singleton.mpr rfl, hS⟩
    | some rb =>
      have q1 := xrg_ok hS h1 ha
      have q2 := xrg_ok hS h2 hb
      have m1 : z1 ≤ xmin ra.2 rb.2 := xmin_le1 (by omega) (by omega)
      have m2 : xmax ra.1 rb.1 ≤ z1 := xmax_le1 (by omega) (by omega)
      dsimp only
      rw [xle_iff.mpr (show xmax ra.1 rb.1 ≤ xmin ra.2 rb.2 by omega)]
      exact ⟨_, List.mem_singleton.mpr rfl, xput_ok (xput_ok hS h1 m2 m1) h2 (by omega) (by omega)⟩
/-- a number isn't a constant c: its bounds without c at their ends -/
def xneC (σ : List xB) (a : xI) (ra : xB) (c : Int) : List (List xB) :=
  bif xeq ra.1 c then (bif xle (c + 1) ra.2 then [xput σ a (c + 1) ra.2] else []) else (bif xeq ra.2 c then (bif xle ra.1 (c - 1) then [xput σ a ra.1 (c - 1)] else []) else (bif xle ra.1 c && xle c ra.2 then [xput σ a ra.1 (c - 1), xput σ a (c + 1) ra.2] else [σ]))
theorem xneC_ok {ρ : List Int} {σ : List xB} {a : xI} {ra : xB} {c z : Int} (hS : xSt ρ σ) (h1 : xe ρ a = some z) (hr : ra.1 ≤ z ∧ z ≤ ra.2) (h : ¬ z = c) : ∃ τ ∈ xneC σ a ra c, xSt ρ τ := by
  unfold xneC
  cases e1 : xeq ra.1 c
  · cases e2 : xeq ra.2 c
    · simp only [cond_false]
      cases e3 : (xle ra.1 c && xle c ra.2)
      · exact ⟨σ, List.mem_singleton.mpr rfl, hS⟩
      · simp only [cond_true]
        rcases (show z ≤ c - 1 ∨ c + 1 ≤ z by omega) with q | q
        · exact ⟨_, List.mem_cons_self, xput_ok hS h1 hr.1 q⟩
        · exact ⟨_, List.mem_cons_of_mem _ (List.mem_singleton.mpr rfl), xput_ok hS h1 q hr.2⟩
    · have e2 := xeq_iff.mp e2
      simp only [cond_true, cond_false]
      rw [xle_iff.mpr (show ra.1 ≤ c - 1 by omega)]
      exact ⟨_, List.mem_singleton.mpr rfl, xput_ok hS h1 hr.1 (by omega)⟩
  · have e1 := xeq_iff.mp e1
    simp only [cond_true]
    rw [xle_iff.mpr (show c + 1 ≤ ra.2 by omega)]
    exact ⟨_, List.mem_singleton.mpr rfl, xput_ok hS h1 (by omega) hr.2⟩
def xneR (σ : List xB) (a b : xI) : List (List xB) := match xrg σ a with
  | none => [σ]
  | some ra => match xrg σ b with
    | none => [σ]
    | some rb => bif xeq rb.1 rb.2 then xneC σ a ra rb.1 else (bif xeq ra.1 ra.2 then xneC σ b rb ra.1 else [σ])
theorem xneR_ok {ρ : List Int} {σ : List xB} {a b : xI} {z1 z2 : Int} (hS : xSt ρ σ) (h1 : xe ρ a = some z1) (h2 : xe ρ b = some z2) (h : ¬ z1 = z2) : ∃ τ ∈ xneR σ a b, xSt ρ τ := by
  unfold xneR
  cases ha : xrg σ a with
  | none => exact ⟨σ, List.mem_singleton.mpr rfl, hS⟩
  | some ra =>
    cases hb : xrg σ b with
    | none => exact ⟨σ, List.mem_singleton.mpr rfl, hS⟩
    | some rb =>
      have q1 := xrg_ok hS h1 ha
      have q2 := xrg_ok hS h2 hb
      dsimp only
      cases e1 : xeq rb.1 rb.2
      · cases e2 : xeq ra.1 ra.2
        · exact ⟨σ, List.mem_singleton.mpr rfl, hS⟩
        · have e2 := xeq_iff.mp e2
          exact xneC_ok hS h2 q2 (by omega)
      · have e1 := xeq_iff.mp e1
        exact xneC_ok hS h1 q1 (by omega)
/-- taken, and not taken -/
def xIf (c : Jvm.ClassFile.Cond) (σ : List xB) (a b : xI) : List (List xB) × List (List xB) := match c with
  | .eq => (xeqR σ a b, xneR σ a b)
  | .ne => (xneR σ a b, xeqR σ a b)
  | .lt => (xltR σ a b, xleR σ b a)
  | .ge => (xleR σ b a, xltR σ a b)
  | .gt => (xltR σ b a, xleR σ a b)
  | .le => (xleR σ a b, xltR σ b a)
/-- a jump's aim -/
def xtg (pc : Nat) (off : Int) : Option Nat := match Int.ofNat pc + off with
  | .ofNat t => some t
  | .negSucc _ => none
theorem xtg_ok {pc : Nat} {off : Int} {t : Nat} (h : xtg pc off = some t) : (pc : Int) + off = (t : Int) := by
  unfold xtg at h
  split at h
  · rename_i q hq
    cases h
    exact hq
  · cases h
/-- the roads on from a condition: where to, and the bounds there -/
def xCond (c : Jvm.ClassFile.Cond) (σ : List xB) (a b : xI) (pc : Nat) (off : Int) : Option (List (Nat × List xB)) := match xtg pc off with
  | none => none
  | some t => some ((xIf c σ a b).1.map (fun τ => (t, τ)) ++ (xIf c σ a b).2.map (fun τ => (pc + 3, τ)))
section XB
variable {p : Program} {l : Launch} {e : Env} {R : Room} {s : State} {m : MethodId} {args : Array Value} {below : List Frame} {meth : Method} {c : Code} {H : Heap} {locs : List Loc} {cells slots : Nat} {Q : State → Prop} {cc : ByteArray} {pc : Nat} {ls : Array Slot} {st rest : List Value} {ρ : List Int} {ad ex : List Nat} {nL : Nat} {loc : List (Nat × xV)} {σ : List xB} {len : Nat} {i : Instr}
theorem xIf_split {cd : Jvm.ClassFile.Cond} {a b : xI} {off : Int} {L : List (Nat × List xB)} {t : Nat} (ht : xtg pc off = some t) (hv : xCond cd σ a b pc off = some L) :
    (∀ τ ∈ (xIf cd σ a b).1, (t, τ) ∈ L) ∧ (∀ τ ∈ (xIf cd σ a b).2, (pc + 3, τ) ∈ L) := by
  unfold xCond at hv
  rw [ht] at hv
  cases hv
  exact ⟨fun τ h => List.mem_append_left _ (List.mem_map.mpr ⟨τ, h, rfl⟩), fun τ h => List.mem_append_right _ (List.mem_map.mpr ⟨τ, h, rfl⟩)⟩
theorem xIcmp_ok {cd : Jvm.ClassFile.Cond} {a b : xI} {x y : Int32} {off : Int} {L : List (Nat × List xB)} (hv : xCond cd σ a b pc off = some L) (hx : p.tables.exec = Jvm.exec) (hb : c.code = cc) (hd : decode cc pc = .ok (.if_icmp cd off, 3)) (hS : xSt ρ σ) (ha : xe ρ a = some x.toInt) (hb2 : xe ρ b = some y.toInt)
    (k : ∀ q ∈ L, xSt ρ q.2 → W p l e R s m args below meth c H locs cells slots Q (F0 m q.1 ls rest)) : W p l e R s m args below meth c H locs cells slots Q (F0 m pc ls (.int y :: .int x :: rest)) := by
  cases ht : xtg pc off with
  | none => unfold xCond at hv; rw [ht] at hv; cases hv
  | some t =>
    obtain ⟨k1, k2⟩ := xIf_split ht hv
    have hT := xtg_ok ht
    have go1 : ∀ {P : Prop}, (P → ∃ τ ∈ (xIf cd σ a b).1, xSt ρ τ) → P → W p l e R s m args below meth c H locs cells slots Q (F0 m t ls rest) := fun f h => by
      obtain ⟨τ, g1, g2⟩ := f h
      exact k _ (k1 τ g1) g2
    have go2 : ∀ {P : Prop}, (P → ∃ τ ∈ (xIf cd σ a b).2, xSt ρ τ) → P → W p l e R s m args below meth c H locs cells slots Q (F0 m (pc + 3) ls rest) := fun f h => by
      obtain ⟨τ, g1, g2⟩ := f h
      exact k _ (k2 τ g1) g2
    cases cd with
    | eq => exact lv_icmp_eq hx hb hd hT (go1 fun h => xeqR_ok hS ha hb2 (by rw [h])) (go2 fun h => xneR_ok hS ha hb2 (fun q => h (Int32.toInt_inj.mp q)))
    | ne => exact lv_icmp_ne hx hb hd hT (go1 fun h => xneR_ok hS ha hb2 (fun q => h (Int32.toInt_inj.mp q))) (go2 fun h => xeqR_ok hS ha hb2 (by rw [h]))
    | lt => exact lv_icmp_lt hx hb hd hT (go1 fun h => xltR_ok hS ha hb2 (Int32.lt_iff_toInt_lt.mp h)) (go2 fun h => xleR_ok hS hb2 ha (by rw [Int32.lt_iff_toInt_lt] at h; omega))
    | ge => exact lv_icmp_ge hx hb hd hT (go1 fun h => xleR_ok hS hb2 ha (Int32.le_iff_toInt_le.mp h)) (go2 fun h => xltR_ok hS ha hb2 (by rw [Int32.le_iff_toInt_le] at h; omega))
    | gt => exact lv_icmp_gt hx hb hd hT (go1 fun h => xltR_ok hS hb2 ha (Int32.lt_iff_toInt_lt.mp h)) (go2 fun h => xleR_ok hS ha hb2 (by rw [Int32.lt_iff_toInt_lt] at h; omega))
    | le => exact lv_icmp_le hx hb hd hT (go1 fun h => xleR_ok hS ha hb2 (Int32.le_iff_toInt_le.mp h)) (go2 fun h => xltR_ok hS hb2 ha (by rw [Int32.le_iff_toInt_le] at h; omega))
theorem xIfc_ok {cd : Jvm.ClassFile.Cond} {a : xI} {x : Int32} {off : Int} {L : List (Nat × List xB)} (hv : xCond cd σ a (none, 0) pc off = some L) (hx : p.tables.exec = Jvm.exec) (hb : c.code = cc) (hd : decode cc pc = .ok (.ifCond cd off, 3)) (hS : xSt ρ σ) (ha : xe ρ a = some x.toInt)
    (k : ∀ q ∈ L, xSt ρ q.2 → W p l e R s m args below meth c H locs cells slots Q (F0 m q.1 ls rest)) : W p l e R s m args below meth c H locs cells slots Q (F0 m pc ls (.int x :: rest)) := by
  have hb2 : xe ρ (none, 0) = some (0 : Int32).toInt := rfl
  have z0 : (0 : Int32).toInt = 0 := rfl
  cases ht : xtg pc off with
  | none => unfold xCond at hv; rw [ht] at hv; cases hv
  | some t =>
    obtain ⟨k1, k2⟩ := xIf_split ht hv
    have hT := xtg_ok ht
    have go1 : ∀ {P : Prop}, (P → ∃ τ ∈ (xIf cd σ a (none, 0)).1, xSt ρ τ) → P → W p l e R s m args below meth c H locs cells slots Q (F0 m t ls rest) := fun f h => by
      obtain ⟨τ, g1, g2⟩ := f h
      exact k _ (k1 τ g1) g2
    have go2 : ∀ {P : Prop}, (P → ∃ τ ∈ (xIf cd σ a (none, 0)).2, xSt ρ τ) → P → W p l e R s m args below meth c H locs cells slots Q (F0 m (pc + 3) ls rest) := fun f h => by
      obtain ⟨τ, g1, g2⟩ := f h
      exact k _ (k2 τ g1) g2
    cases cd with
    | eq => exact lv_if_eq hx hb hd hT (go1 fun h => xeqR_ok hS ha hb2 (by rw [h])) (go2 fun h => xneR_ok hS ha hb2 (fun q => h (Int32.toInt_inj.mp q)))
    | ne => exact lv_if_ne hx hb hd hT (go1 fun h => xneR_ok hS ha hb2 (fun q => h (Int32.toInt_inj.mp q))) (go2 fun h => xeqR_ok hS ha hb2 (by rw [h]))
    | lt => exact lv_if_lt hx hb hd hT (go1 fun h => xltR_ok hS ha hb2 (Int32.lt_iff_toInt_lt.mp h)) (go2 fun h => xleR_ok hS hb2 ha (by rw [Int32.lt_iff_toInt_lt] at h; omega))
    | ge => exact lv_if_ge hx hb hd hT (go1 fun h => xleR_ok hS hb2 ha (Int32.le_iff_toInt_le.mp h)) (go2 fun h => xltR_ok hS ha hb2 (by rw [Int32.le_iff_toInt_le] at h; omega))
    | gt => exact lv_if_gt hx hb hd hT (go1 fun h => xltR_ok hS hb2 ha (Int32.lt_iff_toInt_lt.mp h)) (go2 fun h => xleR_ok hS ha hb2 (by rw [Int32.lt_iff_toInt_lt] at h; omega))
    | le => exact lv_if_le hx hb hd hT (go1 fun h => xleR_ok hS ha hb2 (Int32.le_iff_toInt_le.mp h)) (go2 fun h => xltR_ok hS hb2 ha (by rw [Int32.le_iff_toInt_le] at h; omega))
theorem x_lcmp (x y : Int64) : (lg_cmp x y = 1 ∧ y.toInt < x.toInt) ∨ (lg_cmp x y = 0 ∧ x.toInt = y.toInt) ∨ (lg_cmp x y = -1 ∧ x.toInt < y.toInt) := by
  unfold lg_cmp
  by_cases h : x > y
  · rw [if_pos h]
    exact Or.inl ⟨rfl, Int64.lt_iff_toInt_lt.mp h⟩
  · rw [if_neg h]
    by_cases h2 : x = y
    · rw [if_pos h2]
      exact Or.inr (Or.inl ⟨rfl, by rw [h2]⟩)
    · rw [if_neg h2]
      refine Or.inr (Or.inr ⟨rfl, ?_⟩)
      have h3 : ¬ y.toInt < x.toInt := fun q => h (Int64.lt_iff_toInt_lt.mpr q)
      have h4 : ¬ x.toInt = y.toInt := fun q => h2 (Int64.toInt_inj.mp q)
      omega
/-- a comparison of two longs, and the branch behind it -/
theorem xLcmp_ok {cd : Jvm.ClassFile.Cond} {a b : xI} {x y : Int64} {off : Int} {L : List (Nat × List xB)} (hv : xCond cd σ a b (pc + 1) off = some L) (hx : p.tables.exec = Jvm.exec) (hb : c.code = cc) (hd0 : decode cc pc = .ok (.lcmp, 1)) (hd : decode cc (pc + 1) = .ok (.ifCond cd off, 3)) (hS : xSt ρ σ) (ha : xe ρ a = some x.toInt) (hb2 : xe ρ b = some y.toInt)
    (k : ∀ q ∈ L, xSt ρ q.2 → W p l e R s m args below meth c H locs cells slots Q (F0 m q.1 ls rest)) : W p l e R s m args below meth c H locs cells slots Q (F0 m pc ls (.long y :: .long x :: rest)) := by
  refine W.lcmp hx hb hd0 ?_
  cases ht : xtg (pc + 1) off with
  | none => unfold xCond at hv; rw [ht] at hv; cases hv
  | some t =>
    obtain ⟨k1, k2⟩ := xIf_split ht hv
    have hT := xtg_ok ht
    have go1 : ∀ {P : Prop}, (P → ∃ τ ∈ (xIf cd σ a b).1, xSt ρ τ) → P → W p l e R s m args below meth c H locs cells slots Q (F0 m t ls rest) := fun f h => by
      obtain ⟨τ, g1, g2⟩ := f h
      exact k _ (k1 τ g1) g2
    have go2 : ∀ {P : Prop}, (P → ∃ τ ∈ (xIf cd σ a b).2, xSt ρ τ) → P → W p l e R s m args below meth c H locs cells slots Q (F0 m (pc + 1 + 3) ls rest) := fun f h => by
      obtain ⟨τ, g1, g2⟩ := f h
      exact k _ (k2 τ g1) g2
    have d1 : ¬ (1 : Int32) = 0 := by decide
    have d2 : ¬ (-1 : Int32) = 0 := by decide
    have d3 : ¬ (1 : Int32) < 0 := by decide
    have d4 : ¬ (0 : Int32) < 0 := by decide
    have d5 : (-1 : Int32) < 0 := by decide
    have d6 : (0 : Int32) ≤ 1 := by decide
    have d7 : (0 : Int32) ≤ 0 := by decide
    have d8 : ¬ (0 : Int32) ≤ -1 := by decide
    have d9 : (0 : Int32) < 1 := by decide
    have d10 : ¬ (0 : Int32) < -1 := by decide
    have d11 : ¬ (1 : Int32) ≤ 0 := by decide
    have d12 : (-1 : Int32) ≤ 0 := by decide
    rcases x_lcmp x y with ⟨e1, e2⟩ | ⟨e1, e2⟩ | ⟨e1, e2⟩ <;> rw [e1] <;> cases cd with
    | eq => first
      | exact lv_if_eq hx hb hd hT (go1 fun h => absurd h (by assumption)) (go2 fun h => xneR_ok hS ha hb2 (by omega))
      | exact lv_if_eq hx hb hd hT (go1 fun h => xeqR_ok hS ha hb2 (by omega)) (go2 fun h => absurd rfl h)
    | ne => first
      | exact lv_if_ne hx hb hd hT (go1 fun h => xneR_ok hS ha hb2 (by omega)) (go2 fun h => absurd h (by assumption))
      | exact lv_if_ne hx hb hd hT (go1 fun h => absurd rfl h) (go2 fun h => xeqR_ok hS ha hb2 (by omega))
    | lt => first
      | exact lv_if_lt hx hb hd hT (go1 fun h => xltR_ok hS ha hb2 (by omega)) (go2 fun h => absurd (by assumption) h)
      | exact lv_if_lt hx hb hd hT (go1 fun h => absurd h (by assumption)) (go2 fun h => xleR_ok hS hb2 ha (by omega))
    | ge => first
      | exact lv_if_ge hx hb hd hT (go1 fun h => xleR_ok hS hb2 ha (by omega)) (go2 fun h => absurd (by assumption) h)
      | exact lv_if_ge hx hb hd hT (go1 fun h => absurd h (by assumption)) (go2 fun h => xltR_ok hS ha hb2 (by omega))
    | gt => first
      | exact lv_if_gt hx hb hd hT (go1 fun h => xltR_ok hS hb2 ha (by omega)) (go2 fun h => absurd (by assumption) h)
      | exact lv_if_gt hx hb hd hT (go1 fun h => absurd h (by assumption)) (go2 fun h => xleR_ok hS ha hb2 (by omega))
    | le => first
      | exact lv_if_le hx hb hd hT (go1 fun h => xleR_ok hS ha hb2 (by omega)) (go2 fun h => absurd (by assumption) h)
      | exact lv_if_le hx hb hd hT (go1 fun h => absurd h (by assumption)) (go2 fun h => xltR_ok hS hb2 ha (by omega))
/-- a table: each row that the number can be -/
def xTabGo (σ : List xB) (a : xI) (pc : Nat) (r : xB) : Int → List Int → Option (List (Nat × List xB))
  | _, [] => some []
  | j, off :: t => match xTabGo σ a pc r (j + 1) t with
    | none => none
    | some L => bif xle r.1 j && xle j r.2 then (match xtg pc off with
      | none => none
      | some q => some ((q, xput σ a j j) :: L)) else some L
def xTab (σ : List xB) (a : xI) (pc : Nat) (d lo hi : Int) (offs : List Int) : Option (List (Nat × List xB)) := match xrg σ a with
  | none => none
  | some r => match xtg pc d with
    | none => none
    | some q => match xTabGo σ a pc r lo offs with
      | none => none
      | some L => some ((bif xle r.1 (lo - 1) then [(q, xput σ a r.1 (xmin r.2 (lo - 1)))] else []) ++ ((bif xle (hi + 1) r.2 then [(q, xput σ a (xmax r.1 (hi + 1)) r.2)] else []) ++ L))
theorem xTabGo_ok {a : xI} {r : xB} {z : Int} (hz : r.1 ≤ z ∧ z ≤ r.2) : ∀ {offs : List Int} {j : Int} {L : List (Nat × List xB)}, xTabGo σ a pc r j offs = some L → ∀ {n : Nat} {off : Int}, offs[n]? = some off → z = j + n → ∃ q, xtg pc off = some q ∧ (q, xput σ a z z) ∈ L
  | [], _, _, _, _, _, h, _ => by simp at h
  | o :: t, j, L, hv, n, off, h, hn => by
    unfold xTabGo at hv
    split at hv
    · cases hv
    · rename_i L' hL'
      cases n with
      | zero =>
        simp at h
        subst h
        have e : z = j := by omega
        rw [xle_iff.mpr (show r.1 ≤ j by omega), xle_iff.mpr (show j ≤ r.2 by omega)] at hv
        simp only [Bool.and_self, cond_true] at hv
        split at hv
        · cases hv
        · rename_i q hq
          cases hv
          exact ⟨q, hq, by rw [e]; exact List.mem_cons_self⟩
      | succ n =>
        simp at h
        obtain ⟨q, h1, h2⟩ := xTabGo_ok hz hL' h (by omega)
        refine ⟨q, h1, ?_⟩
        cases hc : (xle r.1 j && xle j r.2) with
        | true =>
          rw [hc] at hv
          simp only [cond_true] at hv
          split at hv
          · cases hv
          · cases hv
            exact List.mem_cons_of_mem _ h2
        | false =>
          rw [hc] at hv
          simp only [cond_false, Option.some.injEq] at hv
          subst hv
          exact h2
theorem xTab_ok {a : xI} {x : Int32} {d lo hi : Int} {offs : Array Int} {L : List (Nat × List xB)} (hv : xTab σ a pc d lo hi offs.toList = some L) (hh : hi = lo + (offs.toList.length : Int) - 1) (hx : p.tables.exec = Jvm.exec) (hb : c.code = cc) (hd : decode cc pc = .ok (.tableswitch d lo hi offs, len)) (hS : xSt ρ σ) (ha : xe ρ a = some x.toInt)
    (k : ∀ q ∈ L, xSt ρ q.2 → W p l e R s m args below meth c H locs cells slots Q (F0 m q.1 ls rest)) : W p l e R s m args below meth c H locs cells slots Q (F0 m pc ls (.int x :: rest)) := by
  unfold xTab at hv
  split at hv
  · cases hv
  · rename_i r hr
    split at hv
    · cases hv
    · rename_i q hq
      split at hv
      · cases hv
      · rename_i L' hL'
        have hz := xrg_ok hS ha hr
        cases hv
        by_cases h1 : x.toInt < lo
        · refine lv_tableOut hx hb hd (Or.inl h1) (xtg_ok hq) ?_
          refine k (q, xput σ a r.1 (xmin r.2 (lo - 1))) ?_ (xput_ok hS ha hz.1 (xmin_le1 hz.2 (by omega)))
          rw [xle_iff.mpr (show r.1 ≤ lo - 1 by omega)]
          exact List.mem_append_left _ (List.mem_singleton.mpr rfl)
        · by_cases h2 : hi < x.toInt
          · refine lv_tableOut hx hb hd (Or.inr h2) (xtg_ok hq) ?_
            refine k (q, xput σ a (xmax r.1 (hi + 1)) r.2) ?_ (xput_ok hS ha (xmax_le1 hz.1 (by omega)) hz.2)
            rw [xle_iff.mpr (show hi + 1 ≤ r.2 by omega)]
            exact List.mem_append_right _ (List.mem_append_left _ (List.mem_singleton.mpr rfl))
          · have hn : (x.toInt - lo).toNat < offs.toList.length := by omega
            obtain ⟨off, hoff⟩ : ∃ off, offs.toList[(x.toInt - lo).toNat]? = some off := ⟨_, List.getElem?_eq_getElem hn⟩
            obtain ⟨t, g1, g2⟩ := xTabGo_ok hz hL' hoff (by omega)
            refine lv_tableIn hx hb hd h1 h2 (by rw [← Array.getElem?_toList]; exact hoff) (xtg_ok g1) ?_
            exact k _ (List.mem_append_right _ (List.mem_append_right _ g2)) (xput_ok hS ha (Int.le_refl _) (Int.le_refl _))
end XB
