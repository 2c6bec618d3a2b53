/-! Hinted steps, the rest: a comparison as one number, the arrays of settings, shifts, divisors below 0, copies of longs, the script. -/
theorem xMkI_if {tb : xTbl} {g a : Nat} {n : Int} (h1 : 86 ≤ g) (h2 : g < 92) : xMkI tb g a n = .ifCond (xCd (g - 86)) n := by
  rcases (show g = 86 ∨ g = 87 ∨ g = 88 ∨ g = 89 ∨ g = 90 ∨ g = 91 by omega) with q | q | q | q | q | q <;> subst q <;> rfl
def xtb0 : List xG := [(1, .inl (none, 1)), (5, .inl (none, 0))]
def xtb1 : List xG := [(1, .inl (none, 24)), (2, .inl (none, 3)), (1, .inl (none, 60)), (1, .inl (none, 9)), (1, .inl (none, 10))]
theorem xtb0_ok (ρ : List Int) : xarr ρ xtb0 6 (fun j => (xsta0.getD j 0).toInt)
  | 0, _ => ⟨_, rfl, rfl⟩
  | 1, _ => ⟨_, rfl, rfl⟩
  | 2, _ => ⟨_, rfl, rfl⟩
  | 3, _ => ⟨_, rfl, rfl⟩
  | 4, _ => ⟨_, rfl, rfl⟩
  | 5, _ => ⟨_, rfl, rfl⟩
  | j + 6, h => absurd h (by omega)
theorem xtb1_ok (ρ : List Int) : xarr ρ xtb1 6 (fun j => (xsta1.getD j 0).toInt)
  | 0, _ => ⟨_, rfl, rfl⟩
  | 1, _ => ⟨_, rfl, rfl⟩
  | 2, _ => ⟨_, rfl, rfl⟩
  | 3, _ => ⟨_, rfl, rfl⟩
  | 4, _ => ⟨_, rfl, rfl⟩
  | 5, _ => ⟨_, rfl, rfl⟩
  | j + 6, h => absurd h (by omega)
theorem x_bif2 {α : Type} {b : Bool} {x y : Option α} {z : α} (h : (bif b then x else y) = some z) : (b = true ∧ x = some z) ∨ (b = false ∧ y = some z) := by
  cases b
  · exact Or.inr ⟨rfl, h⟩
  · exact Or.inl ⟨rfl, h⟩
theorem x_shl1 : ∀ k : Nat, k < 25 → ((1 : Int32) <<< (Int32.ofNat k &&& 31)).toInt = (2 : Int) ^ k ∧ ((2 : Int32) <<< (Int32.ofNat k &&& 31)).toInt = 2 * (2 : Int) ^ k := by decide
theorem x_pow2 {a b : Nat} (h : a ≤ b) : (2 : Int) ^ a ≤ (2 : Int) ^ b := by
  have := Nat.pow_le_pow_right (n := 2) (by decide) h
  have e1 : ((2 ^ a : Nat) : Int) = (2 : Int) ^ a := by simp
  have e2 : ((2 ^ b : Nat) : Int) = (2 : Int) ^ b := by simp
  omega
section XHN
variable {p : Program} {l : Launch} {e : Env} {R : Room} {s : State} {m : MethodId} {args : Array Value} {below : List Frame} {meth : Method} {c : Code} {H : Heap} {locs : List Loc} {Q : State → Prop} {cc : ByteArray} {ls : Array Slot} {st : List Value} {ρ : List Int} {ad ex : List Nat} {nL RC RS nc ns d : Nat} {D : va_G} {A : Nat → Prop} {own : String} {h : List xC} {σ : List xB} {F : xF} {loc : List (Nat × xV)} {stk : List xV} {er : xQ} {nx : List xQ} {r : xHS} {ini : Bool} {y : MethodName} {scl : Option xSk}
/-- 7: lcmp, a branch, two constants: one number -/
def xH7 (e : xQ) (nx : List xQ) (h : List xC) (σ : List xB) (F : xF) (stk : List xV) : Option xHS := match e.2.2.1, e.2.1, stk, nx with
  | 92, 1, .inr (.inl _) :: .inr (.inl _) :: t, e2 :: e3 :: e4 :: e5 :: _ =>
    bif (Nat.ble 86 e2.2.2.1 && (Nat.blt e2.2.2.1 92 && (Nat.beq e2.1 (e.1 + 1) && (Nat.beq e2.2.1 3 && xeq e2.2.2.2.2.2 7)))) && ((Nat.beq e3.2.2.1 0 && (Nat.beq e3.1 (e.1 + 4) && (Nat.beq e3.2.1 1 && (xle (-128) e3.2.2.2.2.2 && xle e3.2.2.2.2.2 127)))) && ((Nat.beq e4.2.2.1 93 && (Nat.beq e4.1 (e.1 + 5) && (Nat.beq e4.2.1 3 && xeq e4.2.2.2.2.2 4))) && (Nat.beq e5.2.2.1 0 && (Nat.beq e5.1 (e.1 + 8) && (Nat.beq e5.2.1 1 && (xle (-128) e5.2.2.2.2.2 && xle e5.2.2.2.2.2 127)))))) then
      some (e.1 + 9, h, (xmk σ (xmin e3.2.2.2.2.2 e5.2.2.2.2.2) (xmax e3.2.2.2.2.2 e5.2.2.2.2.2)).2, F, .inl (xmk σ (xmin e3.2.2.2.2.2 e5.2.2.2.2.2) (xmax e3.2.2.2.2.2 e5.2.2.2.2.2)).1 :: t) else none
  | _, _, _, _ => none
theorem xH7_ok (hv : xH7 er nx h σ F stk = some r) (C : xCtx p s m args c cc nL own) (hd0 : decode cc er.1 = .ok (xMkI xTb er.2.2.1 er.2.2.2.1 er.2.2.2.2.2, er.2.1)) (hnx : ∀ e2 ∈ nx, decode cc e2.1 = .ok (xMkI xTb e2.2.2.1 e2.2.2.2.1 e2.2.2.2.2.2, e2.2.1)) (hr : xRel D A s nL RC RS [] ex ρ ad (h, σ, loc, stk, nc, ns) H locs ls st) (hF : xFs ρ F)
    (k : ∀ ρ' H' locs' st', xX ρ ρ' → xRel D A s nL RC RS [] ex ρ' ad (r.2.1, r.2.2.1, loc, r.2.2.2.2, nc, ns) H' locs' ls st' → xFs ρ' r.2.2.2.1 → W p l e R s m args below meth c H' locs' nc ns Q (F0 m r.1 ls st')) : W p l e R s m args below meth c H locs nc ns Q (F0 m er.1 ls st) := by
  obtain ⟨hx, hb, -⟩ := id C
  obtain ⟨hS, hL, hst, hw, hc1, hc2, hsc⟩ := hr
  unfold xH7 at hv
  split at hv
  · rename_i b a t e2 e3 e4 e5 nx' hg hlen
    rw [hg, hlen] at hd0
    obtain ⟨hc, hv⟩ := x_bif hv
    subst hv
    simp only [Bool.and_eq_true] at hc
    obtain ⟨⟨a1, a2, a3, a4, a5⟩, ⟨b1, b2, b3, b4, b5⟩, ⟨c1, c2, c3, c4⟩, ⟨d1, d2, d3, d4, d5⟩⟩ := hc
    have a1 := Nat.le_of_ble_eq_true a1
    have a2 := x_blt a2
    have a3 := Nat.eq_of_beq_eq_true a3
    have a4 := Nat.eq_of_beq_eq_true a4
    have a5 := xeq_iff.mp a5
    have b1 := Nat.eq_of_beq_eq_true b1
    have b2 := Nat.eq_of_beq_eq_true b2
    have b3 := Nat.eq_of_beq_eq_true b3
    have c1 := Nat.eq_of_beq_eq_true c1
    have c2 := Nat.eq_of_beq_eq_true c2
    have c3 := Nat.eq_of_beq_eq_true c3
    have c4 := xeq_iff.mp c4
    have d1 := Nat.eq_of_beq_eq_true d1
    have d2 := Nat.eq_of_beq_eq_true d2
    have d3 := Nat.eq_of_beq_eq_true d3
    have h2 := hnx e2 (by simp)
    have h3 := hnx e3 (by simp)
    have h4 := hnx e4 (by simp)
    have h5 := hnx e5 (by simp)
    rw [xMkI_if a1 a2, a3, a4, a5] at h2
    rw [b1, b2, b3] at h3
    rw [c1, c2, c3, c4] at h4
    rw [d1, d2, d3] at h5
    obtain ⟨w1, t1, rfl, ⟨yy, rfl, q1⟩, q2⟩ := xAll2.cons hst
    obtain ⟨w2, t2, rfl, ⟨x, rfl, q3⟩, q4⟩ := q2.cons
    have fin : ∀ z : Int, (z = e3.2.2.2.2.2 ∨ z = e5.2.2.2.2.2) → ∀ w, xv ρ ad ex (.inl (none, z)) w → W p l e R s m args below meth c H locs nc ns Q (F0 m (er.1 + 9) ls (w :: t2)) := by
      intro z hz w hwz
      obtain ⟨x', rfl, hx'⟩ := hwz
      have hx' : some z = some x'.toInt := hx'
      have hx' := Option.some.inj hx'
      have l1 : xmin e3.2.2.2.2.2 e5.2.2.2.2.2 ≤ z := by
        have := xmin_l e3.2.2.2.2.2 e5.2.2.2.2.2
        have := xmin_r e3.2.2.2.2.2 e5.2.2.2.2.2
        rcases hz with rfl | rfl <;> omega
      have l2 : z ≤ xmax e3.2.2.2.2.2 e5.2.2.2.2.2 := by
        have := xmax_l e3.2.2.2.2.2 e5.2.2.2.2.2
        have := xmax_r e3.2.2.2.2.2 e5.2.2.2.2.2
        rcases hz with rfl | rfl <;> omega
      obtain ⟨ρ', g1, g2, g3⟩ := xmk_ok hS l1 l2
      refine k ρ' H locs _ g1 ⟨g2, hL.mono g1 (xX.rf ad), ⟨⟨x', rfl, by rw [← hx']; exact g3⟩, q4.mono (xv.mono g1 (xX.rf ad))⟩, hw.mono g1, hc1, hc2, hsc.mono g1⟩ (hF.mono g1)
    have k1 : W p l e R s m args below meth c H locs nc ns Q (F0 m (er.1 + 8) ls t2) := by
      refine xConst_ok (ρ := ρ) (ad := ad) (ex := ex) (i := .iconst e5.2.2.2.2.2) (len := 1) (v := .inl (none, e5.2.2.2.2.2)) ?_ hx hb h5 (fun w hw' => fin _ (Or.inr rfl) w hw')
      unfold xConst
      dsimp only
      rw [d4, d5]
      rfl
    have k2 : W p l e R s m args below meth c H locs nc ns Q (F0 m (er.1 + 1 + 3) ls t2) := by
      refine xConst_ok (ρ := ρ) (ad := ad) (ex := ex) (i := .iconst e3.2.2.2.2.2) (len := 1) (v := .inl (none, e3.2.2.2.2.2)) ?_ hx hb h3 (fun w hw' => ?_)
      · unfold xConst
        dsimp only
        rw [b4, b5]
        rfl
      · exact lv_goto hx hb h4 (show ((er.1 + 5 : Nat) : Int) + 4 = ((er.1 + 9 : Nat) : Int) by omega) (fin _ (Or.inl rfl) w hw')
    refine W.lcmp hx hb hd0 ?_
    have hT : ((er.1 + 1 : Nat) : Int) + 7 = ((er.1 + 8 : Nat) : Int) := by omega
    cases hcd : xCd (e2.2.2.1 - 86) with
    | eq => rw [hcd] at h2; exact lv_if_eq hx hb h2 hT (fun _ => k1) (fun _ => k2)
    | ne => rw [hcd] at h2; exact lv_if_ne hx hb h2 hT (fun _ => k1) (fun _ => k2)
    | lt => rw [hcd] at h2; exact lv_if_lt hx hb h2 hT (fun _ => k1) (fun _ => k2)
    | ge => rw [hcd] at h2; exact lv_if_ge hx hb h2 hT (fun _ => k1) (fun _ => k2)
    | gt => rw [hcd] at h2; exact lv_if_gt hx hb h2 hT (fun _ => k1) (fun _ => k2)
    | le => rw [hcd] at h2; exact lv_if_le hx hb h2 hT (fun _ => k1) (fun _ => k2)
  · cases hv
/-- 8: an element of the arrays of settings -/
def xH8 (e : xQ) (h : List xC) (σ : List xB) (F : xF) (stk : List xV) : Option xHS := match e.2.2.1, e.2.1, stk with
  | 55, 1, .inl i :: .inr (.inr (.inr 18)) :: t => (match xLd σ xtb0 6 i with
    | some r => some (e.1 + 1, h, r.2, F, .inl r.1 :: t)
    | none => none)
  | 55, 1, .inl i :: .inr (.inr (.inr 19)) :: t => (match xLd σ xtb1 6 i with
    | some r => some (e.1 + 1, h, r.2, F, .inl r.1 :: t)
    | none => none)
  | _, _, _ => none
theorem xH8_ok (hv : xH8 er h σ F stk = some r) (C : xCtx p s m args c cc nL own) (hgl : xGlo A s ex) (hd0 : decode cc er.1 = .ok (xMkI xTb er.2.2.1 er.2.2.2.1 er.2.2.2.2.2, er.2.1)) (hr : xRel D A s nL RC RS [] ex ρ ad (h, σ, loc, stk, nc, ns) H locs ls st) (hF : xFs ρ F)
    (k : ∀ ρ' H' locs' st', xX ρ ρ' → xRel D A s nL RC RS [] ex ρ' ad (r.2.1, r.2.2.1, loc, r.2.2.2.2, nc, ns) H' locs' ls st' → xFs ρ' r.2.2.2.1 → W p l e R s m args below meth c H' locs' nc ns Q (F0 m r.1 ls st')) : W p l e R s m args below meth c H locs nc ns Q (F0 m er.1 ls st) := by
  obtain ⟨hx, hb, -⟩ := id C
  obtain ⟨hS, hL, hst, hw, hc1, hc2, hsc⟩ := hr
  obtain ⟨ws, tys, hK, hP, hD, hSS, hh⟩ := id hw
  obtain ⟨gl1, ⟨-, g18⟩, ⟨-, g19⟩, -⟩ := hgl
  unfold xH8 at hv
  split at hv
  · rename_i i t hg hlen
    rw [hg, hlen] at hd0
    split at hv
    · rename_i q hq
      cases hv
      obtain ⟨w1, t1, rfl, ⟨x, rfl, q1⟩, q2⟩ := xAll2.cons hst
      obtain ⟨w2, t2, rfl, ⟨b, hb2, rfl⟩, q4⟩ := q2.cons
      rw [xexa_at hb2] at g18
      obtain ⟨z1, z2, ρ', g1, g2, g3⟩ := xLd_ok hq hS q1 (xtb0_ok ρ)
      exact va_ti hx hb g18 hSS (vp_in_iff.mpr ⟨z1, z2⟩) rfl hd0 (k ρ' H locs _ g1 ⟨g2, hL.mono g1 (xX.rf ad), ⟨⟨_, rfl, g3⟩, q4.mono (xv.mono g1 (xX.rf ad))⟩, hw.mono g1, hc1, hc2, hsc.mono g1⟩ (hF.mono g1))
    · cases hv
  · rename_i i t hg hlen
    rw [hg, hlen] at hd0
    split at hv
    · rename_i q hq
      cases hv
      obtain ⟨w1, t1, rfl, ⟨x, rfl, q1⟩, q2⟩ := xAll2.cons hst
      obtain ⟨w2, t2, rfl, ⟨b, hb2, rfl⟩, q4⟩ := q2.cons
      rw [xexa_at hb2] at g19
      obtain ⟨z1, z2, ρ', g1, g2, g3⟩ := xLd_ok hq hS q1 (xtb1_ok ρ)
      exact va_ti hx hb g19 hSS (vp_in_iff.mpr ⟨z1, z2⟩) rfl hd0 (k ρ' H locs _ g1 ⟨g2, hL.mono g1 (xX.rf ad), ⟨⟨_, rfl, g3⟩, q4.mono (xv.mono g1 (xX.rf ad))⟩, hw.mono g1, hc1, hc2, hsc.mono g1⟩ (hF.mono g1))
    · cases hv
  · cases hv
/-- 9: 1 or 2 shifted by a small number; 10: divisors below 0 -/
def xH9 (e : xQ) (h : List xC) (σ : List xB) (F : xF) (stk : List xV) : Option xHS := match e.2.2.1, e.2.1, stk with
  | 23, 1, .inl b :: .inl a :: t => (match xrg σ a with
    | none => none
    | some ra => (match xrg σ b with
      | none => none
      | some rb => bif (xeq ra.1 ra.2 && (xle 1 ra.1 && xle ra.1 2)) && (xle 0 rb.1 && xle rb.2 24) then some (e.1 + 1, h, (xmk σ (ra.1 * 2 ^ rb.1.toNat) (ra.1 * 2 ^ rb.2.toNat)).2, F, .inl (xmk σ (ra.1 * 2 ^ rb.1.toNat) (ra.1 * 2 ^ rb.2.toNat)).1 :: t) else (match xBinIF 23 σ a b with
        | some q => some (e.1 + 1, h, q.2, F, .inl q.1 :: t)
        | none => none)))
  | 33, 1, .inr (.inl b) :: .inr (.inl a) :: t => (match xrg σ b with
    | none => none
    | some rb => bif xle rb.2 (-1) then some (e.1 + 1, h, (xmk σ (-9223372036854775808) 9223372036854775807).2, F, .inr (.inl (xmk σ (-9223372036854775808) 9223372036854775807).1) :: t) else (match xBinLF 33 σ a b with
      | some q => some (e.1 + 1, h, q.2, F, .inr (.inl q.1) :: t)
      | none => none))
  | 34, 1, .inr (.inl b) :: .inr (.inl a) :: t => (match xrg σ b with
    | none => none
    | some rb => bif xle rb.2 (-1) then some (e.1 + 1, h, (xmk σ (-9223372036854775808) 9223372036854775807).2, F, .inr (.inl (xmk σ (-9223372036854775808) 9223372036854775807).1) :: t) else (match xBinLF 34 σ a b with
      | some q => some (e.1 + 1, h, q.2, F, .inr (.inl q.1) :: t)
      | none => none))
  | _, _, _ => none
theorem xH9_ok (hv : xH9 er h σ F stk = some r) (C : xCtx p s m args c cc nL own) (hd0 : decode cc er.1 = .ok (xMkI xTb er.2.2.1 er.2.2.2.1 er.2.2.2.2.2, er.2.1)) (hr : xRel D A s nL RC RS [] ex ρ ad (h, σ, loc, stk, nc, ns) H locs ls st) (hF : xFs ρ F)
    (k : ∀ ρ' H' locs' st', xX ρ ρ' → xRel D A s nL RC RS [] ex ρ' ad (r.2.1, r.2.2.1, loc, r.2.2.2.2, nc, ns) H' locs' ls st' → xFs ρ' r.2.2.2.1 → W p l e R s m args below meth c H' locs' nc ns Q (F0 m r.1 ls st')) : W p l e R s m args below meth c H locs nc ns Q (F0 m er.1 ls st) := by
  obtain ⟨hx, hb, -⟩ := id C
  obtain ⟨hS, hL, hst, hw, hc1, hc2, hsc⟩ := hr
  unfold xH9 at hv
  split at hv
  · rename_i b a t hg hlen
    rw [hg, hlen] at hd0
    split at hv
    · cases hv
    · rename_i ra hra
      split at hv
      · cases hv
      · rename_i rb hrb
        obtain ⟨hc, hv⟩ | ⟨hc, hv⟩ := x_bif2 hv
        rotate_left
        · split at hv
          · rename_i q hq
            cases hv
            obtain ⟨w1, t1, rfl, ⟨yy, rfl, q1⟩, q2⟩ := xAll2.cons hst
            obtain ⟨w2, t2, rfl, ⟨x, rfl, q3⟩, q4⟩ := q2.cons
            rw [xBinIF_eq (tb := xTb) (a := er.2.2.2.1) (n := er.2.2.2.2.2) (by omega) (by omega)] at hq
            exact xBinI_ok hq rfl hx hb hd0 hS q3 q1 (fun z ρ' g1 g2 g3 => k ρ' H locs _ g1 ⟨g2, hL.mono g1 (xX.rf ad), ⟨⟨_, rfl, g3⟩, q4.mono (xv.mono g1 (xX.rf ad))⟩, hw.mono g1, hc1, hc2, hsc.mono g1⟩ (hF.mono g1))
          · cases hv
        cases hv
        simp only [Bool.and_eq_true, xeq_iff, xle_iff] at hc
        obtain ⟨⟨c1, c2, c3⟩, c4, c5⟩ := hc
        obtain ⟨w1, t1, rfl, ⟨yy, rfl, q1⟩, q2⟩ := xAll2.cons hst
        obtain ⟨w2, t2, rfl, ⟨x, rfl, q3⟩, q4⟩ := q2.cons
        have za := xrg_ok hS q3 hra
        have zb := xrg_ok hS q1 hrb
        have ey : yy = Int32.ofNat yy.toInt.toNat := by
          apply Int32.toInt_inj.mp
          rw [x_nat32 (n := yy.toInt.toNat) (by omega)]
          omega
        have hk := x_shl1 yy.toInt.toNat (by omega)
        rw [← ey] at hk
        have p1 : (2 : Int) ^ rb.1.toNat ≤ 2 ^ yy.toInt.toNat := x_pow2 (by omega)
        have p2 : (2 : Int) ^ yy.toInt.toNat ≤ 2 ^ rb.2.toNat := x_pow2 (by omega)
        have hres : ra.1 * 2 ^ rb.1.toNat ≤ (x <<< (yy &&& 31)).toInt ∧ (x <<< (yy &&& 31)).toInt ≤ ra.1 * 2 ^ rb.2.toNat := by
          have d1 : (1 : Int32).toInt = 1 := rfl
          have d2 : (2 : Int32).toInt = 2 := rfl
          rcases (show ra.1 = 1 ∨ ra.1 = 2 by omega) with q | q
          · have ex1 : x = 1 := Int32.toInt_inj.mp (by rw [d1]; omega)
            rw [ex1, hk.1, q]
            omega
          · have ex1 : x = 2 := Int32.toInt_inj.mp (by rw [d2]; omega)
            rw [ex1, hk.2, q]
            omega
        obtain ⟨ρ', g1, g2, g3⟩ := xmk_ok hS hres.1 hres.2
        exact lv_ishl hx hb hd0 (k ρ' H locs _ g1 ⟨g2, hL.mono g1 (xX.rf ad), ⟨⟨_, rfl, g3⟩, q4.mono (xv.mono g1 (xX.rf ad))⟩, hw.mono g1, hc1, hc2, hsc.mono g1⟩ (hF.mono g1))
  · rename_i b a t hg hlen
    rw [hg, hlen] at hd0
    split at hv
    · cases hv
    · rename_i rb hrb
      obtain ⟨hc, hv⟩ | ⟨hc, hv⟩ := x_bif2 hv
      rotate_left
      · split at hv
        · rename_i q hq
          cases hv
          obtain ⟨w1, t1, rfl, ⟨yy, rfl, q1⟩, q2⟩ := xAll2.cons hst
          obtain ⟨w2, t2, rfl, ⟨x, rfl, q3⟩, q4⟩ := q2.cons
          rw [xBinLF_eq (tb := xTb) (a := er.2.2.2.1) (n := er.2.2.2.2.2) (by omega) (by omega)] at hq
          exact xBinL_ok hq rfl hx hb hd0 hS q3 q1 (fun z ρ' g1 g2 g3 => k ρ' H locs _ g1 ⟨g2, hL.mono g1 (xX.rf ad), ⟨⟨_, rfl, g3⟩, q4.mono (xv.mono g1 (xX.rf ad))⟩, hw.mono g1, hc1, hc2, hsc.mono g1⟩ (hF.mono g1))
        · cases hv
      cases hv
      have hc := xle_iff.mp hc
      obtain ⟨w1, t1, rfl, ⟨yy, rfl, q1⟩, q2⟩ := xAll2.cons hst
      obtain ⟨w2, t2, rfl, ⟨x, rfl, q3⟩, q4⟩ := q2.cons
      have zb := xrg_ok hS q1 hrb
      obtain ⟨ρ', g1, g2, g3⟩ := xmk_ok (z := (x / yy).toInt) hS (x_b64 _).1 (x_b64 _).2
      exact lv_ldiv hx hb hd0 (fun q => by
        rw [q] at zb
        have d0 : (0 : Int64).toInt = 0 := rfl
        omega) (k ρ' H locs _ g1 ⟨g2, hL.mono g1 (xX.rf ad), ⟨⟨_, rfl, g3⟩, q4.mono (xv.mono g1 (xX.rf ad))⟩, hw.mono g1, hc1, hc2, hsc.mono g1⟩ (hF.mono g1))
  · rename_i b a t hg hlen
    rw [hg, hlen] at hd0
    split at hv
    · cases hv
    · rename_i rb hrb
      obtain ⟨hc, hv⟩ | ⟨hc, hv⟩ := x_bif2 hv
      rotate_left
      · split at hv
        · rename_i q hq
          cases hv
          obtain ⟨w1, t1, rfl, ⟨yy, rfl, q1⟩, q2⟩ := xAll2.cons hst
          obtain ⟨w2, t2, rfl, ⟨x, rfl, q3⟩, q4⟩ := q2.cons
          rw [xBinLF_eq (tb := xTb) (a := er.2.2.2.1) (n := er.2.2.2.2.2) (by omega) (by omega)] at hq
          exact xBinL_ok hq rfl hx hb hd0 hS q3 q1 (fun z ρ' g1 g2 g3 => k ρ' H locs _ g1 ⟨g2, hL.mono g1 (xX.rf ad), ⟨⟨_, rfl, g3⟩, q4.mono (xv.mono g1 (xX.rf ad))⟩, hw.mono g1, hc1, hc2, hsc.mono g1⟩ (hF.mono g1))
        · cases hv
      cases hv
      have hc := xle_iff.mp hc
      obtain ⟨w1, t1, rfl, ⟨yy, rfl, q1⟩, q2⟩ := xAll2.cons hst
      obtain ⟨w2, t2, rfl, ⟨x, rfl, q3⟩, q4⟩ := q2.cons
      have zb := xrg_ok hS q1 hrb
      obtain ⟨ρ', g1, g2, g3⟩ := xmk_ok (z := (x - x / yy * yy).toInt) hS (x_b64 _).1 (x_b64 _).2
      exact lv_lrem hx hb hd0 (fun q => by
        rw [q] at zb
        have d0 : (0 : Int64).toInt = 0 := rfl
        omega) (k ρ' H locs _ g1 ⟨g2, hL.mono g1 (xX.rf ad), ⟨⟨_, rfl, g3⟩, q4.mono (xv.mono g1 (xX.rf ad))⟩, hw.mono g1, hc1, hc2, hsc.mono g1⟩ (hF.mono g1))
  · cases hv
end XHN
