/-! Hinted steps: copies of longs, the script; and all of them by their number. -/
section XHN
variable {p : Program} {l : Launch} {e : Env} {R : Room} {s : State} {m : MethodId} {args : Array Value} {below : List Frame} {meth : Method} {c : Code} {H : Heap} {locs : List Loc} {Q : State → Prop} {cc : ByteArray} {ls : Array Slot} {st : List Value} {ρ : List Int} {ad ex : List Nat} {nL RC RS nc ns d : Nat} {D : va_G} {A : Nat → Prop} {own : String} {h : List xC} {σ : List xB} {F : xF} {loc : List (Nat × xV)} {stk : List xV} {er : xQ} {nx : List xQ} {r : xHS} {ini : Bool} {y : MethodName} {scl : Option xSk}
/-- n and sp are at most L -/
def xFc (σ : List xB) (F : xF) (L : Nat) (sp n : xI) : Bool := xent σ F 6 (xlA (-1) (xlA (-1) ([], Int.ofNat L) (xln sp)) (xln n))
theorem xFc_ok {L : Nat} {sp n : xI} {z1 z2 : Int} (hv : xFc σ F L sp n = true) (hS : xSt ρ σ) (hF : xFs ρ F) (h1 : xe ρ sp = some z1) (h2 : xe ρ n = some z2) : z1 + z2 ≤ L := by
  have e1 := xlA_ok (k := -1) (show xlv ρ ([], Int.ofNat L) = some (0 + Int.ofNat L) from rfl) (xln_ok h1)
  have e2 := xlA_ok (k := -1) e1 (xln_ok h2)
  have := xent_ok hS hF hv e2
  have el : (Int.ofNat L : Int) = (L : Int) := rfl
  omega
/-- 11: a stretch of longs is copied -/
def xH11 (d : Nat) (e : xQ) (h : List xC) (σ : List xB) (F : xF) (stk : List xV) : Option xHS := match e.2.2.1, e.2.1, stk with
  | 79, 3, .inl n :: .inl dp :: .inr (.inr (.inl (some jd))) :: .inl sp :: .inr (.inr (.inl (some js))) :: t => (match h[js]?, h[jd]? with
    | some (.inr (.inr (.inl a))), some (.inr (.inr (.inl b))) => (match xrg σ n, xrg σ dp, xrg σ sp with
      | some rn, some rd, some rs => bif (Nat.blt 0 d && Nat.ble (xsum t) 8) && ((xle 0 rn.1 && (xle 0 rd.1 && xle 0 rs.1)) && (xFc σ F a.1 sp n && xFc σ F b.1 dp n)) then (match xsjoin σ a.2 0 (Int.ofNat a.1 - 1), xsjoin σ b.2 0 (Int.ofNat b.1 - 1) with
        | some (some q), some (some q2) => some (e.1 + 3, h.set jd (.inr (.inr (.inl (b.1, [(b.1, .inr (xjn q q2))])))), σ, F, t)
        | _, _ => none) else none
      | _, _, _ => none)
    | _, _ => none)
  | _, _, _ => none
theorem xH11_ok (hv : xH11 d er h σ F stk = some r) (C : xCtx p s m args c cc nL own) (hok : xRowOk own ini cc y (xMkP xTb er)) (hRf : d ≤ R.frames) (hRl : 40 * d ≤ R.locals) (hr : xRel D A s nL RC RS [] ex ρ ad (h, σ, loc, stk, nc, ns) H locs ls st) (hF : xFs ρ F)
    (k : ∀ ρ' H' locs' st', xX ρ ρ' → xRel D A s nL RC RS [] ex ρ' ad (r.2.1, r.2.2.1, loc, r.2.2.2.2, nc, ns) H' locs' ls st' → xFs ρ' r.2.2.2.1 → W p l e R s m args below meth c H' locs' nc ns Q (F0 m r.1 ls st')) : W p l e R s m args below meth c H locs nc ns Q (F0 m er.1 ls st) := by
  obtain ⟨hx, hb, hml, hown, hg0, hn0⟩ := id C
  obtain ⟨hS, hL, hst, hw, hc1, hc2, hsc⟩ := hr
  obtain ⟨hd0, hnd, -⟩ := hok
  have hd0 : decode cc er.1 = .ok (xMkI xTb er.2.2.1 er.2.2.2.1 er.2.2.2.2.2, er.2.1) := hd0
  have hnd : ∀ w ∈ xNeed own y (er.1, er.2.1, xMkI xTb er.2.2.1 er.2.2.2.1 er.2.2.2.2.2, xGrp er.2.2.1, er.2.2.2.1, er.2.2.2.2.1, er.2.2.2.2.2), w ∈ lw_tbl := hnd
  unfold xH11 at hv
  split at hv
  · rename_i n dp jd sp js t hg hlen
    rw [hg, hlen] at hd0
    rw [hg] at hnd
    have hnd : ∀ w ∈ ([.methodLink own er.2.2.2.2.2.toNat arraycopyName, .native arraycopyName, .static arraycopyName, .initialized "java/lang/System"] : List Jvm.Cond), w ∈ lw_tbl := hnd
    split at hv
    · rename_i a b ha hb2
      split at hv
      · rename_i rn rd rs hrn hrd hrs
        obtain ⟨hc, hv⟩ := x_bifO hv
        split at hv
        · rename_i q q2 hq hq2
          cases hv
          simp only [Bool.and_eq_true, xle_iff] at hc
          obtain ⟨⟨c1, c2⟩, ⟨c3, c4, c5⟩, c6, c7⟩ := hc
          have c1 := x_blt c1
          have c2 := Nat.le_of_ble_eq_true c2
          obtain ⟨w1, t1, rfl, ⟨xn, rfl, q1⟩, p2⟩ := xAll2.cons hst
          obtain ⟨w2, t2, rfl, ⟨xd, rfl, q3⟩, p4⟩ := p2.cons
          obtain ⟨w3, t3, rfl, ⟨qd, hqd, rfl⟩, p6⟩ := p4.cons
          obtain ⟨w4, t4, rfl, ⟨xp, rfl, q7⟩, p8⟩ := p6.cons
          obtain ⟨w5, t5, rfl, ⟨qs, hqs, rfl⟩, p10⟩ := p8.cons
          have hsum := xsum_ok p10
          have zn := xrg_ok hS q1 hrn
          have zd := xrg_ok hS q3 hrd
          have zs := xrg_ok hS q7 hrs
          have f1 := xFc_ok c6 hS hF q7 q1
          have f2 := xFc_ok c7 hS hF q3 q1
          have d0 : (0 : Int32).toInt = 0 := rfl
          obtain ⟨ws, tys, hK, hP, hD, hSS, hh⟩ := id hw
          obtain ⟨ya, ya1, cA, f, rfl, ya2, ya3⟩ := hh.at ha hqs
          obtain ⟨yb, yb1, cB, g, rfl, yb2, yb3⟩ := hh.at hb2 hqd
          obtain ⟨t0, ht0⟩ := x_mem_tys ya2
          obtain ⟨t1, ht1⟩ := x_mem_tys yb2
          have tn := x_tn xn
          have td := x_tn xd
          have tp := x_tn xp
          refine va_copyl (ty := .long) hx hb (by rw [hml, hL.size]) hown (hg0 _ (hnd _ (by simp)) rfl) (hg0 _ (hnd _ (by simp)) rfl) (hg0 _ (hnd _ (by simp)) rfl) (hg0 _ (hnd _ (by simp)) rfl) hK hP hD hSS js jd t0 t1 ya1 yb1 ht0 ht1 rfl (by rw [Int32.lt_iff_toInt_lt]; omega) (by rw [Int32.lt_iff_toInt_lt]; omega) (by rw [Int32.lt_iff_toInt_lt]; omega) (by omega) (by omega) (fun _ _ => rfl) (by omega) (by rw [x_nfw]; omega) hd0 (fun H1 locs1 k1 k2 k3 => ?_)
          refine k ρ H1 locs1 _ (xX.rf ρ) ⟨hS, hL, p10, ⟨_, tys, hK, k1, k2, k3, hh.put hqd ?_⟩, hc1, hc2, hsc⟩ hF
          refine ⟨cB, _, rfl, yb2, fun j hj => ?_⟩
          have hj : j < b.1 := hj
          refine ⟨.inr (xjn q q2), by rw [xseg_cons, if_pos hj], ?_⟩
          have ea : (Int.ofNat a.1 : Int) = (a.1 : Int) := rfl
          have eb : (Int.ofNat b.1 : Int) = (b.1 : Int) := rfl
          show (xjn q q2).1 ≤ (va_cpy f g xp.toNatClampNeg xd.toNatClampNeg xn.toNatClampNeg j).toInt ∧ (va_cpy f g xp.toNatClampNeg xd.toNatClampNeg xn.toNatClampNeg j).toInt ≤ (xjn q q2).2
          unfold va_cpy
          split
          · rename_i hin
            have hlt : xp.toNatClampNeg + (j - xd.toNatClampNeg) < a.1 := by omega
            obtain ⟨u, u1, u2⟩ := ya3 _ hlt
            obtain ⟨q', e, g1⟩ := xsjoin_ok hS hq u1 u2 (by omega) (by omega)
            cases e
            exact xjn_l g1
          · obtain ⟨u, u1, u2⟩ := yb3 j hj
            obtain ⟨q', e, g1⟩ := xsjoin_ok hS hq2 u1 u2 (by omega) (by omega)
            cases e
            exact xjn_r g1
        · cases hv
      · cases hv
    · cases hv
  · cases hv
/-- 12: an int of the script; 13: its length -/
def xH12 (scl : Option xSk) (e : xQ) (h : List xC) (σ : List xB) (F : xF) (stk : List xV) : Option xHS := match scl, e.2.2.1, e.2.1, stk with
  | some q, 64, 1, .inl i :: .inr (.inr (.inr 0)) :: t => bif xsy i q.2.1 && xent σ F 6 (xlle i q.1 1) then (match i.2 - q.2.1.2 with
    | .ofNat j => (match q.2.2[j]? with
      | some v => some (e.1 + 1, h, σ, F, .inl v :: t)
      | none => none)
    | .negSucc _ => none) else none
  | some q, 65, 1, .inr (.inr (.inr 0)) :: t => some (e.1 + 1, h, σ, F, .inl q.1 :: t)
  | _, _, _, _ => none
theorem xH12_ok (hv : xH12 scl er h σ F stk = some r) (C : xCtx p s m args c cc nL own) (hsl : xScl A s ρ ex scl) (hd0 : decode cc er.1 = .ok (xMkI xTb er.2.2.1 er.2.2.2.1 er.2.2.2.2.2, er.2.1)) (hr : xRel D A s nL RC RS [] ex ρ ad (h, σ, loc, stk, nc, ns) H locs ls st) (hF : xFs ρ F)
    (k : ∀ ρ' H' locs' st', xX ρ ρ' → xRel D A s nL RC RS [] ex ρ' ad (r.2.1, r.2.2.1, loc, r.2.2.2.2, nc, ns) H' locs' ls st' → xFs ρ' r.2.2.2.1 → W p l e R s m args below meth c H' locs' nc ns Q (F0 m r.1 ls st')) : W p l e R s m args below meth c H locs nc ns Q (F0 m er.1 ls st) := by
  obtain ⟨hx, hb, -⟩ := id C
  obtain ⟨hS, hL, hst, hw, hc1, hc2, hsc⟩ := hr
  obtain ⟨ws, tys, hK, hP, hD, hSS, hh⟩ := id hw
  unfold xH12 at hv
  split at hv
  · rename_i q i t hg hlen
    rw [hg, hlen] at hd0
    obtain ⟨hc, hv⟩ := x_bifO hv
    rw [Bool.and_eq_true] at hc
    split at hv
    · rename_i j hj
      split at hv
      · rename_i v hv0
        cases hv
        obtain ⟨w1, t1, rfl, ⟨x, rfl, q1⟩, q2⟩ := xAll2.cons hst
        obtain ⟨w2, t2, rfl, ⟨b, hb2, rfl⟩, q4⟩ := q2.cons
        rcases hsl with hsl | ⟨a', b', es, L, z, xs, e1, e2, e3, e4, e5, e6, e7, e8⟩
        · cases hsl
        · cases e1
          dsimp only at hc hj hv0
          rw [xexa_at hb2] at e2 e3 e4
          have hi : xe ρ i = some ((z : Int) + (i.2 - b'.2)) := xe_same (xsy_ok hc.1).symm e7
          have hj : i.2 - b'.2 = (j : Int) := hj
          rw [hj, q1] at hi
          have hi := Option.some.inj hi
          have z2 := xent_ok hS hF hc.2 (xlle_ok q1 e6)
          have hn : x.toNatClampNeg = z + j := by rw [x_tn]; omega
          refine va_sld hx hb e2 e3 e4 hSS (vp_in_iff.mpr ⟨by omega, by omega⟩) hd0 (k ρ H locs _ (xX.rf ρ) ⟨hS, hL, ⟨⟨_, rfl, ?_⟩, q4⟩, hw, hc1, hc2, hsc⟩ hF)
          rw [hn]
          exact e8 j v hv0
      · cases hv
    · cases hv
  · rename_i q t hg hlen
    rw [hg, hlen] at hd0
    cases hv
    obtain ⟨w2, t2, rfl, ⟨b, hb2, rfl⟩, q4⟩ := xAll2.cons hst
    rcases hsl with hsl | ⟨a', b', es, L, z, xs, e1, e2, e3, e4, e5, e6, e7, e8⟩
    · cases hsl
    · cases e1
      rw [xexa_at hb2] at e2 e3 e4
      exact va_slen hx hb e2 e3 e4 hSS hd0 (k ρ H locs _ (xX.rf ρ) ⟨hS, hL, ⟨⟨_, rfl, by rw [x_nat32 (by omega)]; exact e6⟩, q4⟩, hw, hc1, hc2, hsc⟩ hF)
  · cases hv
/-- all of them -/
def xHs (scl : Option xSk) (d kd : Nat) (nx : List xQ) (e : xQ) (h : List xC) (σ : List xB) (F : xF) (stk : List xV) : Option xHS := match kd with
  | 4 => xH4 e h σ F stk
  | 5 => xH5 e h σ F stk
  | 6 => xH6 e h σ F stk
  | 7 => xH7 e nx h σ F stk
  | 8 => xH8 e h σ F stk
  | 9 => xH9 e h σ F stk
  | 11 => xH11 d e h σ F stk
  | 12 => xH12 scl e h σ F stk
  | _ => none
theorem xHs_ok {kd : Nat} (hv : xHs scl d kd nx er h σ F stk = some r) (C : xCtx p s m args c cc nL own) (hgl : xGlo A s ex) (hsl : xScl A s ρ ex scl) (hok : xRowOk own ini cc y (xMkP xTb er)) (hnx : ∀ e2 ∈ nx, decode cc e2.1 = .ok (xMkI xTb e2.2.2.1 e2.2.2.2.1 e2.2.2.2.2.2, e2.2.1)) (hRf : d ≤ R.frames) (hRl : 40 * d ≤ R.locals) (hr : xRel D A s nL RC RS [] ex ρ ad (h, σ, loc, stk, nc, ns) H locs ls st) (hF : xFs ρ F)
    (k : ∀ ρ' H' locs' st', xX ρ ρ' → xRel D A s nL RC RS [] ex ρ' ad (r.2.1, r.2.2.1, loc, r.2.2.2.2, nc, ns) H' locs' ls st' → xFs ρ' r.2.2.2.1 → W p l e R s m args below meth c H' locs' nc ns Q (F0 m r.1 ls st')) : W p l e R s m args below meth c H locs nc ns Q (F0 m er.1 ls st) := by
  have hd0 : decode cc er.1 = .ok (xMkI xTb er.2.2.1 er.2.2.2.1 er.2.2.2.2.2, er.2.1) := hok.1
  unfold xHs at hv
  split at hv
  · exact xH4_ok hv C hd0 hr hF k
  · exact xH5_ok hv C hd0 hr hF k
  · exact xH6_ok hv C hd0 hr hF k
  · exact xH7_ok hv C hd0 hnx hr hF k
  · exact xH8_ok hv C hgl hd0 hr hF k
  · exact xH9_ok hv C hd0 hr hF k
  · exact xH11_ok hv C hok hRf hRl hr hF k
  · exact xH12_ok hv C hsl hd0 hr hF k
  · cases hv
end XHN
