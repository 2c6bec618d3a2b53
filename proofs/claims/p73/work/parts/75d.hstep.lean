/-! Hinted steps are the machine's. -/
section XHN
variable {p : Program} {l : Launch} {e : Env} {R : Room} {s : State} {m : MethodId} {args : Array Value} {below : List Frame} {meth : Method} {c : Code} {H : Heap} {locs : List Loc} {Q : State → Prop} {cc : ByteArray} {ls : Array Slot} {st : List Value} {ρ : List Int} {ad ex : List Nat} {nL RC RS nc ns d : Nat} {D : va_G} {A : Nat → Prop} {own : String} {h : List xC} {σ : List xB} {F : xF} {loc : List (Nat × xV)} {stk : List xV} {er : xQ} {nx : List xQ} {r : xHS} {ini : Bool} {y : MethodName} {scl : Option xSk}
/-- 4: a sum, a difference -/
def xH4 (e : xQ) (h : List xC) (σ : List xB) (F : xF) (stk : List xV) : Option xHS := bif Nat.beq e.2.1 1 then (match e.2.2.1, stk with
  | 17, .inl b :: .inl a :: t => (match xDef (-2147483648) 2147483647 true σ F a b with
    | some r => some (e.1 + 1, h, r.2.1, r.2.2, .inl r.1 :: t)
    | none => none)
  | 18, .inl b :: .inl a :: t => (match xDef (-2147483648) 2147483647 false σ F a b with
    | some r => some (e.1 + 1, h, r.2.1, r.2.2, .inl r.1 :: t)
    | none => none)
  | 27, .inr (.inl b) :: .inr (.inl a) :: t => (match xDef (-9223372036854775808) 9223372036854775807 true σ F a b with
    | some r => some (e.1 + 1, h, r.2.1, r.2.2, .inr (.inl r.1) :: t)
    | none => none)
  | 28, .inr (.inl b) :: .inr (.inl a) :: t => (match xDef (-9223372036854775808) 9223372036854775807 false σ F a b with
    | some r => some (e.1 + 1, h, r.2.1, r.2.2, .inr (.inl r.1) :: t)
    | none => none)
  | _, _ => none) else none
theorem xH4_ok (hv : xH4 er h σ F stk = some r) (C : xCtx p s m args c cc nL own) (hd0 : decode cc er.1 = .ok (xMkI xTb er.2.2.1 er.2.2.2.1 er.2.2.2.2.2, er.2.1)) (hr : xRel D A s nL RC RS [] ex ρ ad (h, σ, loc, stk, nc, ns) H locs ls st) (hF : xFs ρ F)
    (k : ∀ ρ' H' locs' st', xX ρ ρ' → xRel D A s nL RC RS [] ex ρ' ad (r.2.1, r.2.2.1, loc, r.2.2.2.2, nc, ns) H' locs' ls st' → xFs ρ' r.2.2.2.1 → W p l e R s m args below meth c H' locs' nc ns Q (F0 m r.1 ls st')) : W p l e R s m args below meth c H locs nc ns Q (F0 m er.1 ls st) := by
  obtain ⟨hx, hb, -⟩ := id C
  obtain ⟨hS, hL, hst, hw, hc1, hc2, hsc⟩ := hr
  unfold xH4 at hv
  obtain ⟨e1, hv⟩ := x_bifO hv
  have e1 := Nat.eq_of_beq_eq_true e1
  rw [e1] at hd0
  have fin : ∀ (ρ' : List Int) (σ' : List xB) (F' : xF) (v : xV) (t : List xV) (w : Value) (t2 : List Value), xX ρ ρ' → xSt ρ' σ' → xFs ρ' F' → xv ρ' ad ex v w → xAll2 (xv ρ ad ex) t t2 → (∀ ρ' H' locs' st', xX ρ ρ' → xRel D A s nL RC RS [] ex ρ' ad (h, σ', loc, v :: t, nc, ns) H' locs' ls st' → xFs ρ' F' → W p l e R s m args below meth c H' locs' nc ns Q (F0 m (er.1 + 1) ls st')) → W p l e R s m args below meth c H locs nc ns Q (F0 m (er.1 + 1) ls (w :: t2)) := fun ρ' σ' F' v t w t2 hX hS' hF' hv' q4 k' => k' ρ' H locs _ hX ⟨hS', hL.mono hX (xX.rf ad), ⟨hv', q4.mono (xv.mono hX (xX.rf ad))⟩, hw.mono hX, hc1, hc2, hsc.mono hX⟩ hF'
  split at hv
  · rename_i b a t hg hstk
    split at hv
    · rename_i q hq
      cases hv
      rw [hg] at hd0
      obtain ⟨w1, t1, rfl, ⟨y, rfl, q1⟩, q2⟩ := xAll2.cons hst
      obtain ⟨w2, t2, rfl, ⟨x, rfl, q3⟩, q4⟩ := q2.cons
      obtain ⟨ρ', h1, h2, h3, h4⟩ := xDef_ok (w := (x + y).toInt) hq hS hF q3 q1 (x_b32 _) (fun e1 e2 => x_add32 e1 e2)
      exact lv_iadd hx hb hd0 (fin ρ' _ _ (.inl q.1) t _ t2 h1 h2 h4 ⟨_, rfl, h3⟩ q4 k)
    · cases hv
  · rename_i b a t hg hstk
    split at hv
    · rename_i q hq
      cases hv
      rw [hg] at hd0
      obtain ⟨w1, t1, rfl, ⟨y, rfl, q1⟩, q2⟩ := xAll2.cons hst
      obtain ⟨w2, t2, rfl, ⟨x, rfl, q3⟩, q4⟩ := q2.cons
      obtain ⟨ρ', h1, h2, h3, h4⟩ := xDef_ok (w := (x - y).toInt) hq hS hF q3 q1 (x_b32 _) (fun e1 e2 => x_sub32 e1 e2)
      exact lv_isub hx hb hd0 (fin ρ' _ _ (.inl q.1) t _ t2 h1 h2 h4 ⟨_, rfl, h3⟩ q4 k)
    · cases hv
  · rename_i b a t hg hstk
    split at hv
    · rename_i q hq
      cases hv
      rw [hg] at hd0
      obtain ⟨w1, t1, rfl, ⟨y, rfl, q1⟩, q2⟩ := xAll2.cons hst
      obtain ⟨w2, t2, rfl, ⟨x, rfl, q3⟩, q4⟩ := q2.cons
      obtain ⟨ρ', h1, h2, h3, h4⟩ := xDef_ok (w := (x + y).toInt) hq hS hF q3 q1 (x_b64 _) (fun e1 e2 => x_add64 e1 e2)
      exact lv_ladd hx hb hd0 (fin ρ' _ _ (.inr (.inl q.1)) t _ t2 h1 h2 h4 ⟨_, rfl, h3⟩ q4 k)
    · cases hv
  · rename_i b a t hg hstk
    split at hv
    · rename_i q hq
      cases hv
      rw [hg] at hd0
      obtain ⟨w1, t1, rfl, ⟨y, rfl, q1⟩, q2⟩ := xAll2.cons hst
      obtain ⟨w2, t2, rfl, ⟨x, rfl, q3⟩, q4⟩ := q2.cons
      obtain ⟨ρ', h1, h2, h3, h4⟩ := xDef_ok (w := (x - y).toInt) hq hS hF q3 q1 (x_b64 _) (fun e1 e2 => x_sub64 e1 e2)
      exact lv_lsub hx hb hd0 (fin ρ' _ _ (.inr (.inl q.1)) t _ t2 h1 h2 h4 ⟨_, rfl, h3⟩ q4 k)
    · cases hv
  · cases hv
/-- 5, 6: an element of longs at a known place becomes a symbol; an index by facts; a store by facts -/
def xH5 (e : xQ) (h : List xC) (σ : List xB) (F : xF) (stk : List xV) : Option xHS := match e.2.2.1, e.2.1, stk with
  | 57, 1, .inl i :: .inr (.inr (.inl (some j))) :: t => (match h[j]? with
    | some (.inr (.inr (.inl a))) => (match xLdw σ a.2 a.1 i with
      | some r => some (e.1 + 1, h.set j (.inr (.inr (.inl (a.1, r.2.2)))), r.2.1, F, .inr (.inl r.1) :: t)
      | none => none)
    | _ => none)
  | _, _, _ => none
theorem xH5_ok (hv : xH5 er h σ F stk = some r) (C : xCtx p s m args c cc nL own) (hd0 : decode cc er.1 = .ok (xMkI xTb er.2.2.1 er.2.2.2.1 er.2.2.2.2.2, er.2.1)) (hr : xRel D A s nL RC RS [] ex ρ ad (h, σ, loc, stk, nc, ns) H locs ls st) (hF : xFs ρ F)
    (k : ∀ ρ' H' locs' st', xX ρ ρ' → xRel D A s nL RC RS [] ex ρ' ad (r.2.1, r.2.2.1, loc, r.2.2.2.2, nc, ns) H' locs' ls st' → xFs ρ' r.2.2.2.1 → W p l e R s m args below meth c H' locs' nc ns Q (F0 m r.1 ls st')) : W p l e R s m args below meth c H locs nc ns Q (F0 m er.1 ls st) := by
  obtain ⟨hx, hb, -⟩ := id C
  obtain ⟨hS, hL, hst, hw, hc1, hc2, hsc⟩ := hr
  unfold xH5 at hv
  split at hv
  · rename_i i j t hg hlen
    rw [hg, hlen] at hd0
    split at hv
    · rename_i a ha
      split at hv
      · rename_i q hq
        cases hv
        obtain ⟨w1, t1, rfl, ⟨x, rfl, q1⟩, q2⟩ := xAll2.cons hst
        obtain ⟨w2, t2, rfl, ⟨b, hb2, rfl⟩, q4⟩ := q2.cons
        obtain ⟨ws, tys, hK, hP, hD, hSS, hh⟩ := id hw
        obtain ⟨ye, y1, cA, f, rfl, y2, y3⟩ := hh.at ha hb2
        obtain ⟨t0, ht0⟩ := x_mem_tys y2
        obtain ⟨z1, z2, ρ', g1, g2, g3, g4⟩ := xLdw_ok hq hS q1 y3
        have hin : vp_in x a.1 := vp_in_iff.mpr ⟨z1, z2⟩
        refine va_lald hx hb hK hP j t0 y1 ht0 hin hd0 (k ρ' H locs _ g1 ⟨g2, hL.mono g1 (xX.rf ad), ⟨⟨_, rfl, g3⟩, q4.mono (xv.mono g1 (xX.rf ad))⟩, ?_, hc1, hc2, hsc.mono g1⟩ (hF.mono g1))
        have hh' : xHp ρ' ad ex tys h ws := ⟨hh.1, hh.2.mono (fun a b hab => xcell.mono g1 (xX.rf ad) (fun _ q => q) a b.2 hab)⟩
        refine ⟨ws, tys, hK, hP, hD, hSS, ?_⟩
        have hput := hh'.put (x := .inr (.inr (.inl (a.1, q.2.2)))) (y := .inl (cA, a.1, .inr (.inl f))) hb2 ⟨cA, f, rfl, y2, g4⟩
        have e1 : ws.set j (b, .inl (cA, a.1, .inr (.inl f))) = ws := by
          apply List.ext_getElem?
          intro i2
          by_cases hi2 : j = i2
          · subst hi2
            rw [List.getElem?_set_self', y1]
            rfl
          · rw [List.getElem?_set_ne hi2]
        rw [e1] at hput
        exact hput
      · cases hv
    · cases hv
  · cases hv
def xH6 (e : xQ) (h : List xC) (σ : List xB) (F : xF) (stk : List xV) : Option xHS := match e.2.2.1, e.2.1, stk with
  | 57, 1, .inl i :: .inr (.inr (.inl (some j))) :: t => (match h[j]? with
    | some (.inr (.inr (.inl a))) => (match xLdr σ F a.2 a.1 i with
      | some r => some (e.1 + 1, h, r.2, F, .inr (.inl r.1) :: t)
      | none => none)
    | _ => none)
  | 60, 1, .inr (.inl v) :: .inl i :: .inr (.inr (.inl (some j))) :: t => (match h[j]? with
    | some (.inr (.inr (.inl a))) => (match xStr σ F a.2 a.1 i v with
      | some gs => some (e.1 + 1, h.set j (.inr (.inr (.inl (a.1, gs)))), σ, F, t)
      | none => none)
    | _ => none)
  | _, _, _ => none
theorem xH6_ok (hv : xH6 er h σ F stk = some r) (C : xCtx p s m args c cc nL own) (hd0 : decode cc er.1 = .ok (xMkI xTb er.2.2.1 er.2.2.2.1 er.2.2.2.2.2, er.2.1)) (hr : xRel D A s nL RC RS [] ex ρ ad (h, σ, loc, stk, nc, ns) H locs ls st) (hF : xFs ρ F)
    (k : ∀ ρ' H' locs' st', xX ρ ρ' → xRel D A s nL RC RS [] ex ρ' ad (r.2.1, r.2.2.1, loc, r.2.2.2.2, nc, ns) H' locs' ls st' → xFs ρ' r.2.2.2.1 → W p l e R s m args below meth c H' locs' nc ns Q (F0 m r.1 ls st')) : W p l e R s m args below meth c H locs nc ns Q (F0 m er.1 ls st) := by
  obtain ⟨hx, hb, -⟩ := id C
  obtain ⟨hS, hL, hst, hw, hc1, hc2, hsc⟩ := hr
  unfold xH6 at hv
  split at hv
  · rename_i i j t hg hlen
    rw [hg, hlen] at hd0
    split at hv
    · rename_i a ha
      split at hv
      · rename_i q hq
        cases hv
        obtain ⟨w1, t1, rfl, ⟨x, rfl, q1⟩, q2⟩ := xAll2.cons hst
        obtain ⟨w2, t2, rfl, ⟨b, hb2, rfl⟩, q4⟩ := q2.cons
        obtain ⟨ws, tys, hK, hP, hD, hSS, hh⟩ := id hw
        obtain ⟨ye, y1, cA, f, rfl, y2, y3⟩ := hh.at ha hb2
        obtain ⟨t0, ht0⟩ := x_mem_tys y2
        obtain ⟨z1, z2, ρ', g1, g2, g3⟩ := xLdr_ok hq hS hF q1 y3
        have hin : vp_in x a.1 := vp_in_iff.mpr ⟨z1, z2⟩
        exact va_lald hx hb hK hP j t0 y1 ht0 hin hd0 (k ρ' H locs _ g1 ⟨g2, hL.mono g1 (xX.rf ad), ⟨⟨_, rfl, g3⟩, q4.mono (xv.mono g1 (xX.rf ad))⟩, hw.mono g1, hc1, hc2, hsc.mono g1⟩ (hF.mono g1))
      · cases hv
    · cases hv
  · rename_i v i j t hg hlen
    rw [hg, hlen] at hd0
    split at hv
    · rename_i a ha
      split at hv
      · rename_i gs hgs
        cases hv
        obtain ⟨w0, t0', rfl, ⟨z, rfl, q0⟩, q9⟩ := xAll2.cons hst
        obtain ⟨w1, t1, rfl, ⟨x, rfl, q1⟩, q2⟩ := q9.cons
        obtain ⟨w2, t2, rfl, ⟨b, hb2, rfl⟩, q4⟩ := q2.cons
        obtain ⟨ws, tys, hK, hP, hD, hSS, hh⟩ := id hw
        obtain ⟨ye, y1, cA, f, rfl, y2, y3⟩ := hh.at ha hb2
        obtain ⟨t0, ht0⟩ := x_mem_tys y2
        obtain ⟨z1, z2, g3⟩ := xStr_ok hgs hS hF q1 q0 y3
        have hin : vp_in x a.1 := vp_in_iff.mpr ⟨z1, z2⟩
        refine va_last hx hb hK hP hD hSS j t0 y1 ht0 hin hd0 (fun H1 locs1 k1 k2 k3 => ?_)
        refine k ρ H1 locs1 _ (xX.rf ρ) ⟨hS, hL, q4, ⟨_, tys, hK, k1, k2, k3, hh.put hb2 ?_⟩, hc1, hc2, hsc⟩ hF
        refine ⟨cA, _, rfl, y2, fun jj hjj => ?_⟩
        obtain ⟨uu, u1, u2⟩ := g3 jj hjj
        refine ⟨uu, u1, ?_⟩
        have : (vp_updL f x.toNatClampNeg z jj).toInt = if jj = x.toInt.toNat then z.toInt else (f jj).toInt := by
          unfold vp_updL
          rw [x_tn]
          by_cases hq : jj = x.toInt.toNat
          · rw [if_pos hq, if_pos hq]
          · rw [if_neg hq, if_neg hq]
        show xel ρ uu (vp_updL f x.toNatClampNeg z jj).toInt
        rw [this]
        exact u2
      · cases hv
    · cases hv
  · cases hv
end XHN
