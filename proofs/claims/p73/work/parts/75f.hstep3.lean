/-! Hinted steps: copies of longs, the script; and all of them by their number. -/
section XHN
variable {p : Program} {l : Launch} {e : Env} {R : Room} {s : State} {m : MethodId} {args : Array Value} {below : List Frame} {meth : Method} {c : Code} {H : Heap} {locs : List Loc} {Q : State → Prop} {cc : ByteArray} {ls : Array Slot} {st : List Value} {ρ : List Int} {ad ex : List Nat} {nL RC RS nc ns d : Nat} {D : va_G} {A : Nat → Prop} {own : String} {h : List xC} {σ : List xB} {F : xF} {loc : List (Nat × xV)} {stk : List xV} {er : xQ} {nx : List xQ} {r : xHS} {ini : Bool} {y : MethodName} {scl : Option xSk}
/-- n and sp are at most L -/
def xFc (σ : List xB) (F : xF) (L : Nat) (sp n : xI) : Bool := xent σ F 6 (xlA (-1) (xlA (-1) ([], Int.ofNat L) (xln sp)) (xln n))
theorem xFc_ok {L : Nat} {sp n : xI} {z1 z2 : Int} (hv : xFc σ F L sp n = true) (hS : xSt ρ σ) (hF : xFs ρ F) (h1 : xe ρ sp = some z1) (h2 : xe ρ n = some z2) : z1 + z2 ≤ L := by
  have e1 := xlA_ok (k := -1) (show xlv ρ ([], Int.ofNat L) = some (0 + Int.ofNat L) from rfl) (xln_ok h1)
  have e2 := xlA_ok (k := -1) e1 (xln_ok h2)
  have := xent_ok hS hF hv e2
  have el : (Int.ofNat L : Int) = (L : Int) := rfl
  omega
/-- 11: a stretch of longs is copied -/
def xH11 (d : Nat) (e : xQ) (h : List xC) (σ : List xB) (F : xF) (stk : List xV) : Option xHS := match e.2.2.1, e.2.1, stk with
  | 79, 3, .inl n :: .inl dp :: .inr (.inr (.inl (some jd))) :: .inl sp :: .inr (.inr (.inl (some js))) :: t => (match h[js]?, h[jd]? with
    | some (.inr (.inr (.inl a))), some (.inr (.inr (.inl b))) => (match xrg σ n, xrg σ dp, xrg σ sp with
      | some rn, some rd, some rs => bif (Nat.blt 0 d && Nat.ble (xsum t) 8) && ((xle 0 rn.1 && (xle 0 rd.1 && xle 0 rs.1)) && (xFc σ F a.1 sp n && xFc σ F b.1 dp n)) then (match xsjoin σ a.2 0 (Int.ofNat a.1 - 1), xsjoin σ b.2 0 (Int.ofNat b.1 - 1) with
        | some (some q), some (some q2) => some (e.1 + 3, h.set jd (.inr (.inr (.inl (b.1, [(b.1, .inr (xjn q q2))])))), σ, F, t)
        | _, _ => none) else none
      | _, _, _ => none)
    | _, _ => none)
  | _, _, _ => none
theorem xH11_ok (hv : xH11 d er h σ F stk = some r) (C : xCtx p s m args c cc nL own) (hok : xRowOk own ini cc y (xMkP xTb er)) (hRf : d ≤ R.frames) (hRl : 40 * d ≤ R.locals) (hr : xRel D A s nL RC RS [] ex ρ ad (h, σ, loc, stk, nc, ns) H locs ls st) (hF : xFs ρ F)
    (k : ∀ ρ' H' locs' st', xX ρ ρ' → xRel D A s nL RC RS [] ex ρ' ad (r.2.1, r.2.2.1, loc, r.2.2.2.2, nc, ns) H' locs' ls st' → xFs ρ' r.2.2.2.1 → W p l e R s m args below meth c H' locs' nc ns Q (F0 m r.1 ls st')) : W p l e R s m args below meth c H locs nc ns Q (F0 m er.1 ls st) := by
  obtain ⟨hx, hb, hml, hown, hg0, hn0⟩ := id C
  obtain ⟨hS, hL, hst, hw, hc1, hc2, hsc⟩ := hr
  obtain ⟨hd0, hnd, -⟩ := hok
  have hd0 : decode cc er.1 = .ok (xMkI xTb er.2.2.1 er.2.2.2.1 er.2.2.2.2.2, er.2.1) := hd0
  have hnd : ∀ w ∈ xNeed own y (er.1, er.2.1, xMkI xTb er.2.2.1 er.2.2.2.1 er.2.2.2.2.2, xGrp er.2.2.1, er.2.2.2.1, er.2.2.2.2.1, er.2.2.2.2.2), w ∈ lw_tbl := hnd
  unfold xH11 at hv
  split at hv
  · rename_i n dp jd sp js t hg hlen
    rw [hg, hlen] at hd0
    rw [hg] at hnd
    have hnd : ∀ w ∈ ([.methodLink own er.2.2.2.2.2.toNat arraycopyName, .native arraycopyName, .static arraycopyName, .initialized "java/lang/System"] : List Jvm.Cond), w ∈ lw_tbl := hnd
    split at hv
    · rename_i a b ha hb2
      split at hv
      · rename_i rn rd rs hrn hrd hrs
        obtain ⟨hc, hv⟩ := x_bifO hv
        split at hv
        · rename_i q q2 hq hq2
          cases hv
          simp only [Bool.and_eq_true, xle_iff] at hc
          obtain ⟨⟨c1, c2⟩, ⟨c3, c4, c5⟩, c6, c7⟩ := hc
          have c1 := x_blt c1
          have c2 := Nat.le_of_ble_eq_true c2
          obtain ⟨w1, t1, rfl, ⟨xn, rfl, q1⟩, p2⟩ := xAll2.cons hst
          obtain ⟨w2, t2, rfl, ⟨xd, rfl, q3⟩, p4⟩ := p2.cons
          obtain ⟨w3, t3, rfl, ⟨qd, hqd, rfl⟩, p6⟩ := p4.cons
          obtain ⟨w4, t4, rfl, ⟨xp, rfl, q7⟩, p8⟩ := p6.cons
          obtain ⟨w5, t5, rfl, ⟨qs, hqs, rfl⟩, p10⟩ := p8.cons
          have hsum := xsum_ok p10
          have zn := xrg_ok hS q1 hrn
          have zd := xrg_ok hS q3 hrd
          have zs := xrg_ok hS q7 hrs
          have f1 := xFc_ok c6 hS hF q7 q1
          have f2 := xFc_ok c7 hS hF q3 q1
          have d0 : (0 : Int32).toInt = 0 := rfl
          obtain ⟨ws, tys, hK, hP, hD, hSS, hh⟩ := id hw
          obtain ⟨ya, ya1, cA, f, rfl, ya2, ya3⟩ := hh.at ha hqs
          obtain ⟨yb, yb1, cB, g, rfl, yb2, yb3⟩ := hh.at hb2 hqd
          obtain ⟨t0, ht0⟩ := x_mem_tys ya2
          obtain ⟨t1, ht1⟩ := x_mem_tys yb2
          have tn := x_tn xn
          have td := x_tn xd
          have tp := x_tn xp
          refine va_copyl (ty := .long) hx hb (by rw [hml, hL.size]) hown (hg0 _ (hnd _ (by simp)) rfl) (hg0 _ (hnd _ (by simp)) rfl) (hg0 _ (hnd _ (by simp)) rfl) (hg0 _ (hnd _ (by simp)) rfl) hK hP hD hSS js jd t0 t1 ya1 yb1 ht0 ht1 rfl (by rw [Int32.lt_iff_toInt_lt]; omega) (by rw [Int32.lt_iff_toInt_lt]; omega) (by rw [Int32.lt_iff_toInt_lt]; omega) (by omega) (by omega) (fun _ _ => rfl) (by omega) (by rw [x_nfw]; omega) hd0 (fun H1 locs1 k1 k2 k3 => ?_)
          refine k ρ H1 locs1 _ (xX.rf ρ) ⟨hS, hL, p10, ⟨_, tys, hK, k1, k2, k3, hh.put hqd ?_⟩, hc1, hc2, hsc⟩ hF
          refine ⟨cB, _, rfl, yb2, fun j hj => ?_⟩
          have hj : j < b.1 := hj
          refine ⟨.inr (xjn q q2), by rw [xseg_cons, if_pos hj], ?_⟩
          have ea : (Int.ofNat a.1 : Int) = (a.1 : Int) := rfl
          have eb : (Int.ofNat b.1 : Int) = (b.1 : Int) := rfl
          show (xjn q q2).1 ≤ (va_cpy f g xp.toNatClampNeg xd.toNatClampNeg xn.toNatClampNeg j).toInt ∧ (va_cpy f g xp.toNatClampNeg xd.toNatClampNeg xn.toNatClampNeg j).toInt ≤ (xjn q q2).2
          unfold va_cpy
          split
          · rename_i hin
            have hlt : xp.toNatClampNeg + (j - xd.toNatClampNeg) < a.1 := by omega
            obtain ⟨u, u1, u2⟩ := ya3 _ hlt
            obtain ⟨q', e, g1⟩ := xsjoin_ok hS hq u1 u2 (by omega) (by omega)
            cases e
            exact xjn_l g1
          · obtain ⟨u, u1, u2⟩ := yb3 j hj
            obtain ⟨q', e, g1⟩ := xsjoin_ok hS hq2 u1 u2 (by omega) (by omega)
            cases e
            exact xjn_r g1
        · cases hv
      · cases hv
    · cases hv
  · cases hv
/-- 12: an int of the script; 13: its length -/
def xH12 (scl : Option xSk) (e : xQ) (h : List xC) (σ : List xB) (F : xF) (stk : List xV) : Option xHS := match scl, e.2.2.1, e.2.1, stk with
  | some q, 64, 1, .inl i :: .inr (.inr (.inr 0)) :: t => bif xsy i q.2.1 && xent σ F 6 (xlle i q.1 1) then (match i.2 - q.2.1.2 with
    | .ofNat j => (match q.2.2[j]? with
      | some v => some (e.1 + 1, h, σ, F, .inl v :: t)
      | none => none)
    | .negSucc _ => none) else none
  | some q, 65, 1, .inr (.inr (.inr 0)) :: t => some (e.1 + 1, h, σ, F, .inl q.1 :: t)
  | _, _, _, _ => none
theorem xH12_ok (hv : xH12 scl er h σ F stk = some r) (C : xCtx p s m args c cc nL own) (hsl : xScl A s ρ ex scl) (hd0 : decode cc er.1 = .ok (xMkI xTb er.2.2.1 er.2.2.2.1 er.2.2.2.2.2, er.2.1)) (hr : xRel D A s nL RC RS [] ex ρ ad (h, σ, loc, stk, nc, ns) H locs ls st) (hF : xFs ρ F)
    (k : ∀ ρ' H' locs' st', xX ρ ρ' → xRel D A s nL RC RS [] ex ρ' ad (r.2.1, r.2.2.1, loc, r.2.2.2.2, nc, ns) H' locs' ls st' → xFs ρ' r.2.2.2.1 → W p l e R s m args below meth c H' locs' nc ns Q (F0 m r.1 ls st')) : W p l e R s m args below meth c H locs nc ns Q (F0 m er.1 ls st) := by
  obtain ⟨hx, hb, -⟩ := id C
  obtain ⟨hS, hL, hst, hw, hc1, hc2, hsc⟩ := hr
  obtain ⟨ws, tys, hK, hP, hD, hSS, hh⟩ := id hw
  unfold xH12 at hv
  split at hv
  · rename_i q i t hg hlen
    rw [hg, hlen] at hd0
    obtain ⟨hc, hv⟩ := x_bifO hv
    rw [Bool.and_eq_true] at hc
    split at hv
    · rename_i j hj
      split at hv
      · rename_i v hv0
        cases hv
        obtain ⟨w1, t1, rfl, ⟨x, rfl, q1⟩, q2⟩ := xAll2.cons hst
        obtain ⟨w2, t2, rfl, ⟨b, hb2, rfl⟩, q4⟩ := q2.cons
        rcases hsl with hsl | ⟨a', b', es, L, z, xs, e1, e2, e3, e4, e5, e6, e7, e8⟩
        · cases hsl
        · cases e1
          dsimp only at hc hj hv0
          rw [xexa_at hb2] at e2 e3 e4
          have hi : xe ρ i = some ((z : Int) + (i.2 - b'.2)) := xe_same (xsy_ok hc.1).symm e7
          have hj : i.2 - b'.2 = (j : Int) := hj
          rw [hj, q1] at hi
          have hi := Option.some.inj hi
          have z2 := xent_ok hS hF hc.2 (xlle_ok q1 e6)
          have hn : x.toNatClampNeg = z + j := by rw [x_tn]; omega
          refine va_sld hx hb e2 e3 e4 hSS (vp_in_iff.mpr ⟨by omega, by omega⟩) hd0 (k ρ H locs _ (xX.rf ρ) ⟨hS, hL, ⟨⟨_, rfl, ?_⟩, q4⟩, hw, hc1, hc2, hsc⟩ hF)
          rw [hn]
          exact e8 j v hv0
      · cases hv
    · cases hv
  · rename_i q t hg hlen
    rw [hg, hlen] at hd0
    cases hv
    obtain ⟨w2, t2, rfl, ⟨b, hb2, rfl⟩, q4⟩ := xAll2.cons hst
    rcases hsl with hsl | ⟨a', b', es, L, z, xs, e1, e2, e3, e4, e5, e6, e7, e8⟩
    · cases hsl
    · cases e1
      rw [xexa_at hb2] at e2 e3 e4
      exact va_slen hx hb e2 e3 e4 hSS hd0 (k ρ H locs _ (xX.rf ρ) ⟨hS, hL, ⟨⟨_, rfl, by rw [x_nat32 (by omega)]; exact e6⟩, q4⟩, hw, hc1, hc2, hsc⟩ hF)
  · cases hv
/-- 10: bits of small constants -/
theorem x_bits : ∀ a : Nat, a < 8 → ∀ b : Nat, b < 8 → (Int32.ofNat a &&& Int32.ofNat b).toInt = Int.ofNat (Nat.land a b) ∧ (Int32.ofNat a ||| Int32.ofNat b).toInt = Int.ofNat (Nat.lor a b) ∧ (Int32.ofNat a >>> (Int32.ofNat b &&& 31)).toInt = Int.ofNat (Nat.shiftRight a b) := by decide
/-- a number that is a constant below 8 -/
def xC8 (σ : List xB) (a : xI) : Option Nat := match xrg σ a with
  | none => none
  | some r => bif xeq r.1 r.2 && (xle 0 r.1 && xle r.1 7) then some r.1.toNat else none
theorem xC8_ok {a : xI} {x : Int32} {k : Nat} (hv : xC8 σ a = some k) (hS : xSt ρ σ) (hx : xe ρ a = some x.toInt) : k < 8 ∧ x = Int32.ofNat k := by
  unfold xC8 at hv
  split at hv
  · cases hv
  · rename_i r hr
    obtain ⟨hc, hv⟩ := x_bif hv
    subst hv
    rw [Bool.and_eq_true, Bool.and_eq_true, xeq_iff, xle_iff, xle_iff] at hc
    have hz := xrg_ok hS hx hr
    refine ⟨by omega, Int32.toInt_inj.mp ?_⟩
    rw [x_nat32 (n := r.1.toNat) (by omega)]
    omega
def xH10 (e : xQ) (h : List xC) (σ : List xB) (F : xF) (stk : List xV) : Option xHS := match e.2.1, stk with
  | 1, .inl b :: .inl a :: t => (match xC8 σ a, xC8 σ b with
    | some i, some j => (match e.2.2.1 with
      | 20 => some (e.1 + 1, h, σ, F, .inl (none, Int.ofNat (Nat.land i j)) :: t)
      | 21 => some (e.1 + 1, h, σ, F, .inl (none, Int.ofNat (Nat.lor i j)) :: t)
      | 24 => some (e.1 + 1, h, σ, F, .inl (none, Int.ofNat (Nat.shiftRight i j)) :: t)
      | _ => none)
    | _, _ => bif Nat.ble 17 e.2.2.1 && Nat.blt e.2.2.1 27 then (match xBinIF e.2.2.1 σ a b with
      | some q => some (e.1 + 1, h, q.2, F, .inl q.1 :: t)
      | none => none) else none)
  | _, _ => none
theorem xH10_ok (hv : xH10 er h σ F stk = some r) (C : xCtx p s m args c cc nL own) (hd0 : decode cc er.1 = .ok (xMkI xTb er.2.2.1 er.2.2.2.1 er.2.2.2.2.2, er.2.1)) (hr : xRel D A s nL RC RS [] ex ρ ad (h, σ, loc, stk, nc, ns) H locs ls st) (hF : xFs ρ F)
    (k : ∀ ρ' H' locs' st', xX ρ ρ' → xRel D A s nL RC RS [] ex ρ' ad (r.2.1, r.2.2.1, loc, r.2.2.2.2, nc, ns) H' locs' ls st' → xFs ρ' r.2.2.2.1 → W p l e R s m args below meth c H' locs' nc ns Q (F0 m r.1 ls st')) : W p l e R s m args below meth c H locs nc ns Q (F0 m er.1 ls st) := by
  obtain ⟨hx, hb, -⟩ := id C
  obtain ⟨hS, hL, hst, hw, hc1, hc2, hsc⟩ := hr
  unfold xH10 at hv
  split at hv
  · rename_i b a t hlen
    rw [hlen] at hd0
    obtain ⟨w1, t1, rfl, ⟨yy, rfl, q1⟩, q2⟩ := xAll2.cons hst
    obtain ⟨w2, t2, rfl, ⟨x, rfl, q3⟩, q4⟩ := q2.cons
    split at hv
    · rename_i i j hi hj
      obtain ⟨i8, ei⟩ := xC8_ok hi hS q3
      obtain ⟨j8, ej⟩ := xC8_ok hj hS q1
      obtain ⟨b1, b2, b3⟩ := x_bits i i8 j j8
      rw [← ei, ← ej] at b1 b2 b3
      split at hv
      · rename_i hg
        rw [hg] at hd0
        cases hv
        exact lv_iand hx hb hd0 (k ρ H locs _ (xX.rf ρ) ⟨hS, hL, ⟨⟨_, rfl, by rw [b1]; rfl⟩, q4⟩, hw, hc1, hc2, hsc⟩ hF)
      · rename_i hg
        rw [hg] at hd0
        cases hv
        exact lv_ior hx hb hd0 (k ρ H locs _ (xX.rf ρ) ⟨hS, hL, ⟨⟨_, rfl, by rw [b2]; rfl⟩, q4⟩, hw, hc1, hc2, hsc⟩ hF)
      · rename_i hg
        rw [hg] at hd0
        cases hv
        exact lv_ishr hx hb hd0 (k ρ H locs _ (xX.rf ρ) ⟨hS, hL, ⟨⟨_, rfl, by rw [b3]; rfl⟩, q4⟩, hw, hc1, hc2, hsc⟩ hF)
      · cases hv
    · obtain ⟨hc, hv⟩ := x_bifO hv
      rw [Bool.and_eq_true] at hc
      split at hv
      · rename_i q hq
        cases hv
        rw [xBinIF_eq (tb := xTb) (a := er.2.2.2.1) (n := er.2.2.2.2.2) (Nat.le_of_ble_eq_true hc.1) (x_blt hc.2)] at hq
        exact xBinI_ok hq rfl hx hb hd0 hS q3 q1 (fun z ρ' g1 g2 g3 => k ρ' H locs _ g1 ⟨g2, hL.mono g1 (xX.rf ad), ⟨⟨_, rfl, g3⟩, q4.mono (xv.mono g1 (xX.rf ad))⟩, hw.mono g1, hc1, hc2, hsc.mono g1⟩ (hF.mono g1))
      · cases hv
  · cases hv
/-- two longs are compared, with facts -/
theorem xLcmpF_ok {cd : Jvm.ClassFile.Cond} {a b : xI} {x y : Int64} {off : Int} {pc : Nat} {rest : List Value} {L : List (Nat × (List xB × xF))} (hv : xCondF cd σ F a b (pc + 1) off = some L) (hx : p.tables.exec = Jvm.exec) (hb : c.code = cc) (hd0 : decode cc pc = .ok (.lcmp, 1)) (hd : decode cc (pc + 1) = .ok (.ifCond cd off, 3)) (hS : xSt ρ σ) (hF : xFs ρ F) (ha : xe ρ a = some x.toInt) (hb2 : xe ρ b = some y.toInt)
    (k : ∀ q ∈ L, xSt ρ q.2.1 → xFs ρ q.2.2 → W p l e R s m args below meth c H locs nc ns Q (F0 m q.1 ls rest)) : W p l e R s m args below meth c H locs nc ns Q (F0 m pc ls (.long y :: .long x :: rest)) := by
  refine W.lcmp hx hb hd0 ?_
  unfold xCondF at hv
  cases ht : xtg (pc + 1) off with
  | none => rw [ht] at hv; cases hv
  | some t =>
    rw [ht] at hv
    cases hv
    have hT := xtg_ok ht
    have go1 : ∀ {P : Prop}, (P → ∃ τ ∈ (xIfF cd σ F a b).1, xSt ρ τ.1 ∧ xFs ρ τ.2) → P → W p l e R s m args below meth c H locs nc ns Q (F0 m t ls rest) := fun f h => by
      obtain ⟨τ, g1, g2, g3⟩ := f h
      exact k (t, τ) (List.mem_append_left _ (List.mem_map.mpr ⟨τ, g1, rfl⟩)) g2 g3
    have go2 : ∀ {P : Prop}, (P → ∃ τ ∈ (xIfF cd σ F a b).2, xSt ρ τ.1 ∧ xFs ρ τ.2) → P → W p l e R s m args below meth c H locs nc ns Q (F0 m (pc + 1 + 3) ls rest) := fun f h => by
      obtain ⟨τ, g1, g2, g3⟩ := f h
      exact k (pc + 1 + 3, τ) (List.mem_append_right _ (List.mem_map.mpr ⟨τ, g1, rfl⟩)) g2 g3
    have d1 : ¬ (1 : Int32) = 0 := by decide
    have d2 : ¬ (-1 : Int32) = 0 := by decide
    have d3 : ¬ (1 : Int32) < 0 := by decide
    have d4 : ¬ (0 : Int32) < 0 := by decide
    have d5 : (-1 : Int32) < 0 := by decide
    have d6 : (0 : Int32) ≤ 1 := by decide
    have d7 : (0 : Int32) ≤ 0 := by decide
    have d8 : ¬ (0 : Int32) ≤ -1 := by decide
    have d9 : (0 : Int32) < 1 := by decide
    have d10 : ¬ (0 : Int32) < -1 := by decide
    have d11 : ¬ (1 : Int32) ≤ 0 := by decide
    have d12 : (-1 : Int32) ≤ 0 := by decide
    rcases x_lcmp x y with ⟨e1, e2⟩ | ⟨e1, e2⟩ | ⟨e1, e2⟩ <;> rw [e1] <;> cases cd with
    | eq => first
      | exact lv_if_eq hx hb hd hT (go1 fun h => absurd h (by assumption)) (go2 fun h => xneF_ok hS hF ha hb2 (by omega))
      | exact lv_if_eq hx hb hd hT (go1 fun h => xeqF_ok hS hF ha hb2 (by omega)) (go2 fun h => absurd rfl h)
    | ne => first
      | exact lv_if_ne hx hb hd hT (go1 fun h => xneF_ok hS hF ha hb2 (by omega)) (go2 fun h => absurd h (by assumption))
      | exact lv_if_ne hx hb hd hT (go1 fun h => absurd rfl h) (go2 fun h => xeqF_ok hS hF ha hb2 (by omega))
    | lt => first
      | exact lv_if_lt hx hb hd hT (go1 fun h => xltF_ok hS hF ha hb2 (by omega)) (go2 fun h => absurd (by assumption) h)
      | exact lv_if_lt hx hb hd hT (go1 fun h => absurd h (by assumption)) (go2 fun h => xleF_ok hS hF hb2 ha (by omega))
    | ge => first
      | exact lv_if_ge hx hb hd hT (go1 fun h => xleF_ok hS hF hb2 ha (by omega)) (go2 fun h => absurd (by assumption) h)
      | exact lv_if_ge hx hb hd hT (go1 fun h => absurd h (by assumption)) (go2 fun h => xltF_ok hS hF ha hb2 (by omega))
    | gt => first
      | exact lv_if_gt hx hb hd hT (go1 fun h => xltF_ok hS hF hb2 ha (by omega)) (go2 fun h => absurd (by assumption) h)
      | exact lv_if_gt hx hb hd hT (go1 fun h => absurd h (by assumption)) (go2 fun h => xleF_ok hS hF ha hb2 (by omega))
    | le => first
      | exact lv_if_le hx hb hd hT (go1 fun h => xleF_ok hS hF ha hb2 (by omega)) (go2 fun h => absurd (by assumption) h)
      | exact lv_if_le hx hb hd hT (go1 fun h => absurd h (by assumption)) (go2 fun h => xltF_ok hS hF hb2 ha (by omega))
/-- two symbols that are not one -/
def xTwoS (a b : xI) : Bool := match a.1, b.1 with
  | some i, some j => !(Nat.beq i j)
  | _, _ => false
/-- 14: a comparison of longs, with facts where two symbols are compared -/
def xH14 (e : xQ) (nx : List xQ) (h : List xC) (σ : List xB) (F : xF) (stk : List xV) : Option (List xHS) := match e.2.2.1, e.2.1, stk, nx with
  | 92, 1, .inr (.inl b) :: .inr (.inl a) :: t, e2 :: _ => bif Nat.ble 86 e2.2.2.1 && (Nat.blt e2.2.2.1 92 && (Nat.beq e2.1 (e.1 + 1) && Nat.beq e2.2.1 3)) then (bif xTwoS a b then (match xCondF (xCd (e2.2.2.1 - 86)) σ F a b (e.1 + 1) e2.2.2.2.2.2 with
    | some L => some (L.map (fun q => (q.1, h, q.2.1, q.2.2, t)))
    | none => none) else (match xCond (xCd (e2.2.2.1 - 86)) σ a b (e.1 + 1) e2.2.2.2.2.2 with
    | some L => some (L.map (fun q => (q.1, h, q.2, F, t)))
    | none => none)) else none
  | _, _, _, _ => none
theorem xH14_ok {LL : List xHS} (hv : xH14 er nx h σ F stk = some LL) (C : xCtx p s m args c cc nL own) (hd0 : decode cc er.1 = .ok (xMkI xTb er.2.2.1 er.2.2.2.1 er.2.2.2.2.2, er.2.1)) (hnx : ∀ e2 ∈ nx, decode cc e2.1 = .ok (xMkI xTb e2.2.2.1 e2.2.2.2.1 e2.2.2.2.2.2, e2.2.1)) (hr : xRel D A s nL RC RS [] ex ρ ad (h, σ, loc, stk, nc, ns) H locs ls st) (hF : xFs ρ F)
    (k : ∀ r ∈ LL, ∀ ρ' H' locs' st', xX ρ ρ' → xRel D A s nL RC RS [] ex ρ' ad (r.2.1, r.2.2.1, loc, r.2.2.2.2, nc, ns) H' locs' ls st' → xFs ρ' r.2.2.2.1 → W p l e R s m args below meth c H' locs' nc ns Q (F0 m r.1 ls st')) : W p l e R s m args below meth c H locs nc ns Q (F0 m er.1 ls st) := by
  obtain ⟨hx, hb, -⟩ := id C
  obtain ⟨hS, hL, hst, hw, hc1, hc2, hsc⟩ := hr
  unfold xH14 at hv
  split at hv
  · rename_i b a t e2 nx' hg hlen
    rw [hg, hlen] at hd0
    obtain ⟨hc, hv⟩ := x_bifO hv
    simp only [Bool.and_eq_true] at hc
    obtain ⟨c1, c2, c3, c4⟩ := hc
    have h2 := hnx e2 (by simp)
    rw [xMkI_if (Nat.le_of_ble_eq_true c1) (x_blt c2), Nat.eq_of_beq_eq_true c3, Nat.eq_of_beq_eq_true c4] at h2
    obtain ⟨w1, t1, rfl, ⟨y1, rfl, q1⟩, q2⟩ := xAll2.cons hst
    obtain ⟨w2, t2, rfl, ⟨x1, rfl, q3⟩, q4⟩ := q2.cons
    obtain ⟨-, hv⟩ | ⟨-, hv⟩ := x_bif2 hv
    · split at hv
      · rename_i L hL0
        cases hv
        exact xLcmpF_ok hL0 hx hb hd0 h2 hS hF q3 q1 (fun q hq hS' hF' => k _ (List.mem_map.mpr ⟨q, hq, rfl⟩) ρ H locs _ (xX.rf ρ) ⟨hS', hL, q4, hw, hc1, hc2, hsc⟩ hF')
      · cases hv
    · split at hv
      · rename_i L hL0
        cases hv
        exact xLcmp_ok hL0 hx hb hd0 h2 hS q3 q1 (fun q hq hS' => k _ (List.mem_map.mpr ⟨q, hq, rfl⟩) ρ H locs _ (xX.rf ρ) ⟨hS', hL, q4, hw, hc1, hc2, hsc⟩ hF)
      · cases hv
  · cases hv
/-- 15: equal, below or above, with facts -/
def xNe3 (σ : List xB) (F : xF) (a b : xI) : xRF := bif xsy a b && xeq a.2 b.2 then [] else xltF σ F a b ++ xltF σ F b a
theorem xNe3_ok {a b : xI} {z1 z2 : Int} (hS : xSt ρ σ) (hF : xFs ρ F) (h1 : xe ρ a = some z1) (h2 : xe ρ b = some z2) (h : ¬ z1 = z2) : ∃ τ ∈ xNe3 σ F a b, xSt ρ τ.1 ∧ xFs ρ τ.2 := by
  unfold xNe3
  cases hc : (xsy a b && xeq a.2 b.2) with
  | true =>
    rw [Bool.and_eq_true, xeq_iff] at hc
    have := xe_same (xsy_ok hc.1) h1
    rw [h2] at this
    have := Option.some.inj this
    exfalso
    omega
  | false =>
    rcases Int.lt_or_le z1 z2 with q | q
    · obtain ⟨τ, g1, g2⟩ := xltF_ok hS hF h1 h2 q
      exact ⟨τ, List.mem_append_left _ g1, g2⟩
    · obtain ⟨τ, g1, g2⟩ := xltF_ok hS hF h2 h1 (show z2 < z1 by omega)
      exact ⟨τ, List.mem_append_right _ g1, g2⟩
def xH15 (e : xQ) (h : List xC) (σ : List xB) (F : xF) (stk : List xV) : Option (List xHS) := match e.2.2.1, e.2.1, stk with
  | 80, 3, .inl b :: .inl a :: t => (match xtg e.1 e.2.2.2.2.2 with
    | some g => some ((xeqF σ F a b).map (fun q => (g, h, q.1, q.2, t)) ++ (xNe3 σ F a b).map (fun q => (e.1 + 3, h, q.1, q.2, t)))
    | none => none)
  | 81, 3, .inl b :: .inl a :: t => (match xtg e.1 e.2.2.2.2.2 with
    | some g => some ((xNe3 σ F a b).map (fun q => (g, h, q.1, q.2, t)) ++ (xeqF σ F a b).map (fun q => (e.1 + 3, h, q.1, q.2, t)))
    | none => none)
  | _, _, _ => none
theorem xH15_ok {LL : List xHS} (hv : xH15 er h σ F stk = some LL) (C : xCtx p s m args c cc nL own) (hd0 : decode cc er.1 = .ok (xMkI xTb er.2.2.1 er.2.2.2.1 er.2.2.2.2.2, er.2.1)) (hr : xRel D A s nL RC RS [] ex ρ ad (h, σ, loc, stk, nc, ns) H locs ls st) (hF : xFs ρ F)
    (k : ∀ r ∈ LL, ∀ ρ' H' locs' st', xX ρ ρ' → xRel D A s nL RC RS [] ex ρ' ad (r.2.1, r.2.2.1, loc, r.2.2.2.2, nc, ns) H' locs' ls st' → xFs ρ' r.2.2.2.1 → W p l e R s m args below meth c H' locs' nc ns Q (F0 m r.1 ls st')) : W p l e R s m args below meth c H locs nc ns Q (F0 m er.1 ls st) := by
  obtain ⟨hx, hb, -⟩ := id C
  obtain ⟨hS, hL, hst, hw, hc1, hc2, hsc⟩ := hr
  unfold xH15 at hv
  split at hv
  · rename_i b a t hg hlen
    rw [hg, hlen] at hd0
    obtain ⟨w1, t1, rfl, ⟨y1, rfl, q1⟩, q2⟩ := xAll2.cons hst
    obtain ⟨w2, t2, rfl, ⟨x1, rfl, q3⟩, q4⟩ := q2.cons
    split at hv
    · rename_i g ht
      cases hv
      have fin : ∀ (q : xHS), q ∈ (xeqF σ F a b).map (fun q => ((g, h, q.1, q.2, t) : xHS)) ++ (xNe3 σ F a b).map (fun q => ((er.1 + 3, h, q.1, q.2, t) : xHS)) → q.2.1 = h → q.2.2.2.2 = t → xSt ρ q.2.2.1 → xFs ρ q.2.2.2.1 → W p l e R s m args below meth c H locs nc ns Q (F0 m q.1 ls t2) := fun q hq e1 e2 hS' hF' => k q hq ρ H locs t2 (xX.rf ρ) (by rw [e1, e2]; exact ⟨hS', hL, q4, hw, hc1, hc2, hsc⟩) hF'
      refine lv_icmp_eq hx hb hd0 (xtg_ok ht) (fun e0 => ?_) (fun e0 => ?_)
      · obtain ⟨τ, g1, g2, g3⟩ := xeqF_ok hS hF q3 q1 (show x1.toInt = y1.toInt by rw [e0])
        exact fin (g, h, τ.1, τ.2, t) (List.mem_append_left _ (List.mem_map.mpr ⟨τ, g1, rfl⟩)) rfl rfl g2 g3
      · obtain ⟨τ, g1, g2, g3⟩ := xNe3_ok hS hF q3 q1 (fun q => e0 (Int32.toInt_inj.mp q))
        exact fin (er.1 + 3, h, τ.1, τ.2, t) (List.mem_append_right _ (List.mem_map.mpr ⟨τ, g1, rfl⟩)) rfl rfl g2 g3
    · cases hv
  · rename_i b a t hg hlen
    rw [hg, hlen] at hd0
    obtain ⟨w1, t1, rfl, ⟨y1, rfl, q1⟩, q2⟩ := xAll2.cons hst
    obtain ⟨w2, t2, rfl, ⟨x1, rfl, q3⟩, q4⟩ := q2.cons
    split at hv
    · rename_i g ht
      cases hv
      have fin : ∀ (q : xHS), q ∈ (xNe3 σ F a b).map (fun q => ((g, h, q.1, q.2, t) : xHS)) ++ (xeqF σ F a b).map (fun q => ((er.1 + 3, h, q.1, q.2, t) : xHS)) → q.2.1 = h → q.2.2.2.2 = t → xSt ρ q.2.2.1 → xFs ρ q.2.2.2.1 → W p l e R s m args below meth c H locs nc ns Q (F0 m q.1 ls t2) := fun q hq e1 e2 hS' hF' => k q hq ρ H locs t2 (xX.rf ρ) (by rw [e1, e2]; exact ⟨hS', hL, q4, hw, hc1, hc2, hsc⟩) hF'
      refine lv_icmp_ne hx hb hd0 (xtg_ok ht) (fun e0 => ?_) (fun e0 => ?_)
      · obtain ⟨τ, g1, g2, g3⟩ := xNe3_ok hS hF q3 q1 (fun q => e0 (Int32.toInt_inj.mp q))
        exact fin (g, h, τ.1, τ.2, t) (List.mem_append_left _ (List.mem_map.mpr ⟨τ, g1, rfl⟩)) rfl rfl g2 g3
      · obtain ⟨τ, g1, g2, g3⟩ := xeqF_ok hS hF q3 q1 (show x1.toInt = y1.toInt by rw [e0])
        exact fin (er.1 + 3, h, τ.1, τ.2, t) (List.mem_append_right _ (List.mem_map.mpr ⟨τ, g1, rfl⟩)) rfl rfl g2 g3
    · cases hv
  · cases hv
def xOne1 (r : Option xHS) : Option (List xHS) := match r with
  | some q => some [q]
  | none => none
theorem xOne1_ok {r : Option xHS} {L : List xHS} (h : xOne1 r = some L) : ∃ q, r = some q ∧ L = [q] := by
  unfold xOne1 at h
  split at h
  · rename_i q
    cases h
    exact ⟨q, rfl, rfl⟩
  · cases h
/-- all of them -/
def xHs (scl : Option xSk) (d kd : Nat) (nx : List xQ) (e : xQ) (h : List xC) (σ : List xB) (F : xF) (stk : List xV) : Option (List xHS) := match kd with
  | 4 => xOne1 (xH4 e h σ F stk)
  | 5 => xOne1 (xH5 e h σ F stk)
  | 6 => xOne1 (xH6 e h σ F stk)
  | 7 => xOne1 (xH7 e nx h σ F stk)
  | 8 => xOne1 (xH8 e h σ F stk)
  | 9 => xOne1 (xH9 e h σ F stk)
  | 10 => xOne1 (xH10 e h σ F stk)
  | 11 => xOne1 (xH11 d e h σ F stk)
  | 12 => xOne1 (xH12 scl e h σ F stk)
  | 14 => xH14 e nx h σ F stk
  | 15 => xH15 e h σ F stk
  | _ => none
theorem xHs_ok {kd : Nat} {LL : List xHS} (hv : xHs scl d kd nx er h σ F stk = some LL) (C : xCtx p s m args c cc nL own) (hgl : xGlo A s ex) (hsl : xScl A s ρ ex scl) (hok : xRowOk own ini cc y (xMkP xTb er)) (hnx : ∀ e2 ∈ nx, decode cc e2.1 = .ok (xMkI xTb e2.2.2.1 e2.2.2.2.1 e2.2.2.2.2.2, e2.2.1)) (hRf : d ≤ R.frames) (hRl : 40 * d ≤ R.locals) (hr : xRel D A s nL RC RS [] ex ρ ad (h, σ, loc, stk, nc, ns) H locs ls st) (hF : xFs ρ F)
    (k : ∀ r ∈ LL, ∀ ρ' H' locs' st', xX ρ ρ' → xRel D A s nL RC RS [] ex ρ' ad (r.2.1, r.2.2.1, loc, r.2.2.2.2, nc, ns) H' locs' ls st' → xFs ρ' r.2.2.2.1 → W p l e R s m args below meth c H' locs' nc ns Q (F0 m r.1 ls st')) : W p l e R s m args below meth c H locs nc ns Q (F0 m er.1 ls st) := by
  have hd0 : decode cc er.1 = .ok (xMkI xTb er.2.2.1 er.2.2.2.1 er.2.2.2.2.2, er.2.1) := hok.1
  have one : ∀ q : xHS, LL = [q] → ∀ ρ' H' locs' st', xX ρ ρ' → xRel D A s nL RC RS [] ex ρ' ad (q.2.1, q.2.2.1, loc, q.2.2.2.2, nc, ns) H' locs' ls st' → xFs ρ' q.2.2.2.1 → W p l e R s m args below meth c H' locs' nc ns Q (F0 m q.1 ls st') := fun q hq => k q (by rw [hq]; exact List.mem_singleton.mpr rfl)
  unfold xHs at hv
  split at hv
  · obtain ⟨q, h1, h2⟩ := xOne1_ok hv
    exact xH4_ok h1 C hd0 hr hF (one q h2)
  · obtain ⟨q, h1, h2⟩ := xOne1_ok hv
    exact xH5_ok h1 C hd0 hr hF (one q h2)
  · obtain ⟨q, h1, h2⟩ := xOne1_ok hv
    exact xH6_ok h1 C hd0 hr hF (one q h2)
  · obtain ⟨q, h1, h2⟩ := xOne1_ok hv
    exact xH7_ok h1 C hd0 hnx hr hF (one q h2)
  · obtain ⟨q, h1, h2⟩ := xOne1_ok hv
    exact xH8_ok h1 C hgl hd0 hr hF (one q h2)
  · obtain ⟨q, h1, h2⟩ := xOne1_ok hv
    exact xH9_ok h1 C hd0 hr hF (one q h2)
  · obtain ⟨q, h1, h2⟩ := xOne1_ok hv
    exact xH10_ok h1 C hd0 hr hF (one q h2)
  · obtain ⟨q, h1, h2⟩ := xOne1_ok hv
    exact xH11_ok h1 C hok hRf hRl hr hF (one q h2)
  · obtain ⟨q, h1, h2⟩ := xOne1_ok hv
    exact xH12_ok h1 C hsl hd0 hr hF (one q h2)
  · exact xH14_ok hv C hd0 hnx hr hF k
  · exact xH15_ok hv C hd0 hr hF k
  · cases hv
end XHN
