/-! THE RUN WITH CONTRACTS AND HINTS. -/
abbrev xO2 : Type := xQ × (xS × xF)
/-- hints of a method: a place, a kind, a number -/
abbrev xHl : Type := List (Nat × (Nat × Nat))
def xHr : xHl → Nat → Option (Nat × Nat)
  | [], _ => none
  | q :: t, pc => bif Nat.beq q.1 pc && Nat.blt q.2.1 4 then some q.2 else xHr t pc
def xHq : xHl → Nat → Nat
  | [], _ => 0
  | q :: t, pc => bif Nat.beq q.1 pc && (Nat.blt 3 q.2.1 && Nat.blt q.2.1 20) then q.2.1 else xHq t pc
def xHp2 : xHl → Nat → Option (Nat × (Nat × Nat))
  | [], _ => none
  | q :: t, pc => bif Nat.beq q.1 pc && Nat.ble 20 q.2.1 then some q else xHp2 t pc
theorem xHp2_ok : ∀ {hl : xHl} {pc : Nat} {q : Nat × (Nat × Nat)}, xHp2 hl pc = some q → q ∈ hl ∧ q.1 = pc ∧ 20 ≤ q.2.1
  | [], pc, q, h => by cases h
  | a :: t, pc, q, h => by
    unfold xHp2 at h
    cases hb : (Nat.beq a.1 pc && Nat.ble 20 a.2.1) with
    | true =>
      rw [hb] at h
      simp only [cond_true, Option.some.injEq] at h
      subst h
      rw [Bool.and_eq_true] at hb
      exact ⟨List.mem_cons_self, Nat.eq_of_beq_eq_true hb.1, Nat.le_of_ble_eq_true hb.2⟩
    | false =>
      rw [hb] at h
      obtain ⟨h1, h2⟩ := xHp2_ok (show xHp2 t pc = some q from h)
      exact ⟨List.mem_cons_of_mem _ h1, h2⟩
/-- the hints of a method by its number -/
def xHof : List (Nat × xHl) → Nat → xHl
  | [], _ => []
  | q :: t, j => bif Nat.beq q.1 j then q.2 else xHof t j
/-- a number's bounds into its values -/
def xSpl (σ : List xB) (v : xI) : Nat → Int → List (List xB)
  | 0, z => [xput σ v z z]
  | n + 1, z => xput σ v z z :: xSpl σ v n (z + 1)
theorem xSpl_mem {σ : List xB} {v : xI} : ∀ {n : Nat} {z w : Int}, z ≤ w → w ≤ z + n → xput σ v w w ∈ xSpl σ v n z
  | 0, z, w, h1, h2 => by
    have : w = z := by omega
    subst this
    exact List.mem_singleton.mpr rfl
  | n + 1, z, w, h1, h2 => by
    unfold xSpl
    by_cases h : w = z
    · subst h
      exact List.mem_cons_self
    · exact List.mem_cons_of_mem _ (xSpl_mem (by omega) (by omega))
def xSplit (σ : List xB) (v : xI) : Option (List (List xB)) := match xrg σ v with
  | none => none
  | some r => (match r.2 - r.1 with
    | .ofNat n => bif Nat.ble n 800 then some (xSpl σ v n r.1) else none
    | .negSucc _ => none)
theorem xSplit_ok {ρ : List Int} {σ : List xB} {v : xI} {z : Int} {L : List (List xB)} (hv : xSplit σ v = some L) (hS : xSt ρ σ) (hz : xe ρ v = some z) : ∃ τ ∈ L, xSt ρ τ := by
  unfold xSplit at hv
  split at hv
  · cases hv
  · rename_i r hr
    have hb := xrg_ok hS hz hr
    split at hv
    · rename_i n hn
      obtain ⟨-, hv⟩ := x_bif hv
      subst hv
      have hn : r.2 - r.1 = (n : Int) := hn
      exact ⟨_, xSpl_mem (w := z) hb.1 (by omega), xput_ok hS hz (Int.le_refl _) (Int.le_refl _)⟩
    · cases hv
/-- a number's bounds into: below 0, each of 0 .. n - 1, n and above -/
def xReg (σ : List xB) (v : xI) (n : Nat) : Option (List (List xB)) := match xrg σ v with
  | none => none
  | some r => some ((bif xle r.1 (-1) then [xput σ v r.1 (xmin r.2 (-1))] else []) ++ ((xSpl σ v n 0) ++ (bif xle (Int.ofNat n + 1) r.2 then [xput σ v (xmax r.1 (Int.ofNat n + 1)) r.2] else [])))
theorem xReg_ok {ρ : List Int} {σ : List xB} {v : xI} {z : Int} {n : Nat} {L : List (List xB)} (hv : xReg σ v n = some L) (hS : xSt ρ σ) (hz : xe ρ v = some z) : ∃ τ ∈ L, xSt ρ τ := by
  unfold xReg at hv
  split at hv
  · cases hv
  · rename_i r hr
    have hb := xrg_ok hS hz hr
    cases hv
    have en : (Int.ofNat n : Int) = (n : Int) := rfl
    by_cases h1 : z ≤ -1
    · rw [xle_iff.mpr (show r.1 ≤ -1 by omega)]
      exact ⟨_, List.mem_append_left _ (List.mem_singleton.mpr rfl), xput_ok hS hz hb.1 (xmin_le1 hb.2 h1)⟩
    · by_cases h2 : z ≤ n
      · exact ⟨_, List.mem_append_right _ (List.mem_append_left _ (xSpl_mem (w := z) (by omega) (by omega))), xput_ok hS hz (Int.le_refl _) (Int.le_refl _)⟩
      · rw [xle_iff.mpr (show Int.ofNat n + 1 ≤ r.2 by omega)]
        exact ⟨_, List.mem_append_right _ (List.mem_append_right _ (List.mem_singleton.mpr rfl)), xput_ok hS hz (xmax_le1 hb.1 (by omega)) hb.2⟩
/-- facts that can't be: one whose contrary is entailed -/
def xContra (σ : List xB) (F : xF) : Bool := F.any (fun f => xent σ F 4 (xlA (-1) ([], -1) f))
theorem xContra_ok {ρ : List Int} {σ : List xB} {F : xF} (h : xContra σ F = true) (hS : xSt ρ σ) (hF : xFs ρ F) : False := by
  obtain ⟨f, hf, hc⟩ := List.any_eq_true.mp h
  obtain ⟨z, h1, h2⟩ := hF f hf
  have := xent_ok hS hF hc (xlA_ok (k := -1) (show xlv ρ ([], -1) = some (0 + -1) from rfl) h1)
  omega
/-- what a state can be, by a hint -/
def xRef (kd arg : Nat) (σ : List xB) (F : xF) (loc : List (Nat × xV)) (stk : List xV) : Option (List (List xB)) := match kd with
  | 1 => (match xTight F σ with
    | none => some []
    | some τ => some [τ])
  | 2 => (match xget loc arg with
    | some (.inl a) => xSplit σ a
    | _ => none)
  | 3 => (match stk with
    | .inl a :: _ => (match arg with
      | 0 => xSplit σ a
      | n + 1 => xReg σ a n)
    | _ => none)
  | 0 => (match xTight F σ with
    | none => some []
    | some τ => bif xContra τ F then some [] else some [τ])
  | _ => none
theorem xRef_ok {kd arg : Nat} {σ : List xB} {F : xF} {loc : List (Nat × xV)} {stk : List xV} {L : List (List xB)} {ρ : List Int} {ad ex : List Nat} {nL : Nat} {ls : Array Slot} {st : List Value} (hv : xRef kd arg σ F loc stk = some L) (hS : xSt ρ σ) (hF : xFs ρ F) (hL : xLo ρ ad ex nL loc ls) (hst : xAll2 (xv ρ ad ex) stk st) : ∃ τ ∈ L, xSt ρ τ := by
  unfold xRef at hv
  split at hv
  · obtain ⟨τ, h1, h2⟩ := xTight_ok hF hS
    rw [h1] at hv
    cases hv
    exact ⟨τ, List.mem_singleton.mpr rfl, h2⟩
  · split at hv
    · rename_i a ha
      obtain ⟨w, -, x, -, hx⟩ := hL.get ha
      exact xSplit_ok hv hS hx
    · cases hv
  · split at hv
    · obtain ⟨w, t, -, ⟨x, -, hx⟩, -⟩ := hst.cons
      split at hv
      · exact xSplit_ok hv hS hx
      · exact xReg_ok hv hS hx
    · cases hv
  · obtain ⟨τ, h1, h2⟩ := xTight_ok hF hS
    rw [h1] at hv
    dsimp only at hv
    cases hc : xContra τ F with
    | true => exact (xContra_ok hc h2 hF).elim
    | false =>
      rw [hc] at hv
      cases hv
      exact ⟨τ, List.mem_singleton.mpr rfl, h2⟩
  · cases hv
/-- rows that the programs leave out: a text (20), an array of settings (21), a text's length (22), its letter (23) -/
def xSpec (d kd arg : Nat) (σ : List xB) (stk : List xV) : Option (Nat × (List xB × List xV)) := match kd with
  | 20 => bif Nat.blt arg 17 then some (2, σ, .inr (.inr (.inr (arg + 1))) :: stk) else none
  | 21 => bif Nat.blt arg 2 then some (3, σ, .inr (.inr (.inr (arg + 18))) :: stk) else none
  | 22 => (match stk with
    | .inr (.inr (.inr (k + 1))) :: t => bif Nat.blt 5 d && Nat.ble (xsum t) 8 then (match xslen[k]? with
      | some n => some (3, σ, .inl (none, Int.ofNat n) :: t)
      | none => none) else none
    | _ => none)
  | 23 => (match stk with
    | .inl i :: .inr (.inr (.inr (k + 1))) :: t => bif Nat.blt 5 d && Nat.ble (xsum t) 8 then (match xslen[k]?, xrg σ i with
      | some n, some r => bif xle 0 r.1 && xle r.2 (Int.ofNat n - 1) then some (3, (xmk σ 0 65535).2, .inl (xmk σ 0 65535).1 :: t) else none
      | _, _ => none) else none
    | _ => none)
  | _ => none
/-- what such a row is -/
def xSpLaw (l : Launch) (M : xMd) (q : Nat × (Nat × Nat)) : Prop := ∀ {p : Program} {e : Env} {R : Room} {s : State} {m : MethodId} {args : Array Value} {below : List Frame} {meth : Method} {c : Code} {H : Heap} {locs : List Loc} {Q : State → Prop} {ls : Array Slot} {st : List Value} {ρ : List Int} {ad ex : List Nat} {D : va_G} {A : Nat → Prop} {d nc ns len : Nat} {σ σ' : List xB} {stk stk' : List xV} {h : List xC} {loc : List (Nat × xV)},
  xSpec d q.2.1 q.2.2 σ stk = some (len, σ', stk') → xCtx p s m args c M.cc M.nl M.yy.cls → xGlo A s ex → d ≤ R.frames → 40 * d ≤ R.locals → nc ≤ R.cells → ns ≤ R.slots → xSt ρ σ → xLo ρ ad ex M.nl loc ls → xAll2 (xv ρ ad ex) stk st → xWd D A s H locs ρ ad ex h →
  (∀ ρ' H' locs' st', xX ρ ρ' → xSt ρ' σ' → xAll2 (xv ρ' ad ex) stk' st' → xWd D A s H' locs' ρ ad ex h → W p l e R s m args below meth c H' locs' nc ns Q (F0 m (q.1 + len) ls st')) → W p l e R s m args below meth c H locs nc ns Q (F0 m q.1 ls st)
/-- a look ahead: a number of an argument's field (30), or of an array's element there (31; the place is the second argument), lies within the pattern's bounds -/
def xPrb (σ : List xB) (h : List xC) (as : List xV) (P : xPt) (kd a fi : Nat) : Bool := match P.2.2.2.1[a]?, as[a]? with
  | some (.inr (.inr (.inl (some i)))), some (.inr (.inr (.inl (some j)))) => (match P.1[i]?, h[j]? with
    | some (.inl o), some (.inl o') => (match kd, o.2[fi]?, o'.2[fi]? with
      | 30, some (.inl (some k, _)), some (.inl x) => (match P.2.1[k]?, xrg σ x with
        | some r, some q => xle r.1 q.1 && xle q.2 r.2
        | _, _ => true)
      | 31, some (.inr (.inr (.inl (some i2)))), some (.inr (.inr (.inl (some j2)))) => (match P.1[i2]?, h[j2]?, (as[(1 : Nat)]? : Option xV) with
        | some (.inr (.inl pa)), some (.inr (.inl sa)), some (.inl x) => (match xrg σ x with
          | some r => (match xseg pa.2.2 r.1.toNat, xseg sa.2.2 r.1.toNat with
            | some (.inl (some k, _)), some u => (match P.2.1[k]?, xelr σ u with
              | some r2, some q => xle r2.1 q.1 && xle q.2 r2.2
              | _, _ => true)
            | _, _ => true)
          | none => true)
        | _, _, _ => true)
      | _, _, _ => true)
    | _, _ => true)
  | _, _ => true
def xPrbs (σ : List xB) (h : List xC) (as : List xV) (P : xPt) : xHl → Bool
  | [] => true
  | q :: t => (Nat.blt q.2.1 30 || xPrb σ h as P q.2.1 q.1 q.2.2) && xPrbs σ h as P t
def xUseT (xn : Nat) (h : List xC) (σ : List xB) (F : xF) (d : Nat) (as : List xV) (j : Nat) (pr : xHl) : List (Nat × xCt) → Option (List (List xC × (List xB × (xF × List xV))))
  | [] => none
  | q :: t => bif Nat.beq q.1 j && xPrbs σ h as q.2.1 pr then (match xUseF xn h σ F d as q.2 with
    | some r => some r
    | none => xUseT xn h σ F d as j pr t) else xUseT xn h σ F d as j pr t
theorem xUseT_ok {xn : Nat} {h : List xC} {σ : List xB} {F : xF} {d : Nat} {as : List xV} {j : Nat} {pr : xHl} : ∀ {T : List (Nat × xCt)} {r : List (List xC × (List xB × (xF × List xV)))}, xUseT xn h σ F d as j pr T = some r → ∃ c, (j, c) ∈ T ∧ xUse xn h σ F d as c = some r
  | [], r, h => by cases h
  | q :: t, r, h => by
    unfold xUseT at h
    cases hb : (Nat.beq q.1 j && xPrbs σ _ as q.2.1 pr) with
    | true =>
      rw [hb] at h
      rw [Bool.and_eq_true] at hb
      have e := Nat.eq_of_beq_eq_true hb.1
      simp only [cond_true] at h
      split at h
      · rename_i r' hr
        cases h
        obtain ⟨q1, q2⟩ := q
        have e : q1 = j := e
        subst e
        exact ⟨q2, List.mem_cons_self, xUseF_ok hr⟩
      · obtain ⟨c, h1, h2⟩ := xUseT_ok h
        exact ⟨c, List.mem_cons_of_mem _ h1, h2⟩
    | false =>
      rw [hb] at h
      obtain ⟨c, h1, h2⟩ := xUseT_ok (show xUseT xn _ σ F d as j pr t = some r from h)
      exact ⟨c, List.mem_cons_of_mem _ h1, h2⟩
/-- two symbols are compared -/
def xTwo (g : Nat) (stk : List xV) : Option (xI × (xI × List xV)) := bif Nat.blt g 86 then (match stk with
  | .inl (some i, u) :: .inl (some j, v) :: t => bif Nat.beq i j then none else some ((some j, v), (some i, u), t)
  | _ => none) else none
theorem xTwo_ok {g : Nat} {stk t : List xV} {a b : xI} (h : xTwo g stk = some (a, b, t)) : g < 86 ∧ stk = .inl b :: .inl a :: t := by
  unfold xTwo at h
  cases hg : Nat.blt g 86 with
  | false => rw [hg] at h; cases h
  | true =>
    rw [hg] at h
    simp only [cond_true] at h
    split at h
    · rename_i i u j v t'
      cases hb : Nat.beq i j with
      | true => rw [hb] at h; cases h
      | false =>
        rw [hb] at h
        simp only [cond_false, Option.some.injEq, Prod.mk.injEq] at h
        obtain ⟨h1, h2, h3⟩ := h
        subst h1; subst h2; subst h3
        exact ⟨x_blt hg, rfl⟩
    · cases h
/-- mt: methods; tb: switches; T: contracts; ht: hints; xn: how many refs outside; fuel; fl: 0 at the beginning, 1 on the way, 2 behind a hint; depth; script's length; cuts; method; its hints; place; program; state -/
def xRun2 (mt : List xMd) (tb : xTbl) (T : List (Nat × xCt)) (ht : List (Nat × xHl)) (xn : Nat) : Nat → Nat → Nat → Option xSk → List Nat → xMd → xHl → Nat → List xQ → List xC → List xB → xF → List (Nat × xV) → List xV → Nat → Nat → Option (List xO2)
  | 0, _, _, _, _, _, _, _, _, _, _, _, _, _, _, _ => none
  | f + 1, _, d, scl, ct, M, hl, pc, [], h, σ, F, loc, stk, nc, ns => (match xHp2 hl pc with
    | none => none
    | some q => (match xSpec d q.2.1 q.2.2 σ stk with
      | none => none
      | some (len, σ', stk') => xRun2 mt tb T ht xn f 1 d scl ct M hl (pc + len) (xSeek M.pg (pc + len)) h σ' F loc stk' nc ns))
  | f + 1, fl, d, scl, ct, M, hl, pc, e :: nx, h, σ, F, loc, stk, nc, ns => bif Nat.ble 110 e.2.2.1 || (Nat.beq fl 1 && ct.any (Nat.beq e.1)) then some [(e, ((h, σ, loc, stk, nc, ns), F))] else (match (bif Nat.beq fl 2 then none else xHr hl e.1) with
    | some q => (match xRef q.1 q.2 σ F loc stk with
      | none => none
      | some L => xCat (fun τ => xRun2 mt tb T ht xn f 2 d scl ct M hl pc (e :: nx) h τ F loc stk nc ns) L)
    | none => (match xHq hl e.1 with
      | kd + 1 => (match xHs scl d (kd + 1) nx e h σ F stk with
        | none => none
        | some L => xCat (fun r => xRun2 mt tb T ht xn f 1 d scl ct M hl r.1 (xGo M.pg nx r.1) r.2.1 r.2.2.1 r.2.2.2.1 loc r.2.2.2.2 nc ns) L)
      | 0 => bif Nat.blt e.2.2.1 50 then (match xFA M.nl e σ loc stk with
      | none => none
      | some (σ', loc', stk') => xRun2 mt tb T ht xn f 1 d scl ct M hl (e.1 + e.2.1) (xGo M.pg nx (e.1 + e.2.1)) h σ' F loc' stk' nc ns) else (bif Nat.blt e.2.2.1 66 then (match xFC [] e h σ stk with
      | none => none
      | some L => xCat (fun q => xRun2 mt tb T ht xn f 1 d scl ct M hl (e.1 + e.2.1) (xGo M.pg nx (e.1 + e.2.1)) q.1 q.2.1 F loc q.2.2 nc ns) L) else (bif Nat.blt e.2.2.1 80 then (match xFD d M.mc M.ms e h σ stk nc ns with
      | none => none
      | some (h', σ', stk', nc', ns') => xRun2 mt tb T ht xn f 1 d scl ct M hl (e.1 + e.2.1) (xGo M.pg nx (e.1 + e.2.1)) h' σ' F loc stk' nc' ns') else (bif Nat.blt e.2.2.1 100 then (match xTwo e.2.2.1 stk with
      | some (a, b, t) => bif Nat.beq e.2.1 3 then (match xCondF (xCd (e.2.2.1 - 80)) σ F a b e.1 e.2.2.2.2.2 with
        | none => none
        | some L => xCat (fun q => xRun2 mt tb T ht xn f 1 d scl ct M hl q.1 (xGo M.pg nx q.1) h q.2.1 q.2.2 loc t nc ns) L) else none
      | none => (match xFB tb nx e σ stk with
        | none => none
        | some (L, stk') => xCat (fun q => xRun2 mt tb T ht xn f 1 d scl ct M hl q.1 (xGo M.pg nx q.1) h q.2 F loc stk' nc ns) L)) else (match d with
      | 0 => none
      | d' + 1 => (match mt[e.2.2.2.1]? with
        | none => none
        | some M' => (match xtake (bif xStat e.2.2.1 then M'.na else M'.na + 1) [] stk with
          | none => none
          | some (as, r) => bif ((Nat.ble (xsum r) 8 && Nat.ble (xsum as) M'.nl) && (xStat e.2.2.1 || xRecv h M'.ci as)) && (Nat.beq e.2.1 3 && (Nat.ble (nc + M'.mc) M.mc && Nat.ble (ns + M'.ms) M.ms)) then
              (match xUseT xn h σ F d' as e.2.2.2.1 (xHof ht e.2.2.2.1) T with
              | some ends => xCat (fun q => xRun2 mt tb T ht xn f 1 (d' + 1) scl ct M hl (e.1 + 3) (xGo M.pg nx (e.1 + 3)) q.1 q.2.1 q.2.2.1 loc (q.2.2.2 ++ r) (nc + M'.mc) (ns + M'.ms)) ends
              | none => (match xRun2 mt tb T ht xn f 1 d' none [] M' (xHof ht e.2.2.2.1) 0 (xSeek M'.pg 0) h σ F (xArgs 0 as) [] 0 0 with
                | none => none
                | some outs => bif outs.all (fun q => xRet M'.rt (q.1, q.2.1)) then xCat (fun q => xRun2 mt tb T ht xn f 1 (d' + 1) scl ct M hl (e.1 + 3) (xGo M.pg nx (e.1 + 3)) q.2.1.1 q.2.1.2.1 q.2.2 loc (q.2.1.2.2.2.1 ++ r) (nc + M'.mc) (ns + M'.ms)) outs else none)) else none))))))))
/-- what holds where a contract begins, and where it ends -/
def xPreP (D : va_G) (A : Nat → Prop) (ρ : List Int) (ad ex : List Nat) (P : xPt) (As : List Value) (U : State) : Prop := xSt ρ P.2.1 ∧ xFs ρ P.2.2.1 ∧ xAll2 (xv ρ ad ex) P.2.2.2.1 As ∧ xPre D A ρ ad ex P.1 U ∧ xGlo A U ex ∧ ex.length = 20 + P.2.2.2.2
def xPostP (D : va_G) (A : Nat → Prop) (ρ : List Int) (ad ex : List Nat) (ends : List xPt) (v : Option Value) (t : State) : Prop := ∃ E ∈ ends, ∃ ρ', xX ρ ρ' ∧ xSt ρ' E.2.1 ∧ xFs ρ' E.2.2.1 ∧ xAll2 (xv ρ' ad ex) E.2.2.2.1 v.toList ∧ ∃ ws tys, va_K D xcl tys t ∧ va_P D xcl ws t.heap ∧ xHp ρ' ad ex tys E.1 ws
/-- a contract is kept -/
def xCtOk (l : Launch) (M' : xMd) (c : xCt) : Prop := ∀ (D : va_G) (A : Nat → Prop) (ρ : List Int) (ad ex : List Nat) (As : List Value) (d' : Nat), c.2.2 ≤ d' → Met l M'.yy (Jvm.Cond.code M'.yy M'.cc M'.nl M'.rt :: xU) { frames := d', cells := M'.mc, slots := M'.ms, locals := 40 * d' } (fun v U => v = As.toArray ∧ xPreP D A ρ ad ex c.1 As U) (fun _ st oc t => (∃ v, oc = .returned v ∧ xPostP D A ρ ad ex c.2.1 v t) ∧ va_F A st t) M'.mc M'.ms A
def xCtsOk (l : Launch) (T : List (Nat × xCt)) : Prop := ∀ q ∈ T, ∃ M', xMt[q.1]? = some M' ∧ xCtOk l M' q.2
theorem xPreP.blind {D : va_G} {A : Nat → Prop} {ρ : List Int} {ad ex : List Nat} {P : xPt} {As : List Value} {vs : Array Value} : FrameBlind (fun v U => v = vs ∧ xPreP D A ρ ad ex P As U) := by
  intro a U g mk hp
  obtain ⟨h1, q1, q2, q3, ⟨h2, h3, h4⟩, h5, h6⟩ := hp
  exact ⟨h1, q1, q2, q3, ⟨h2, fun w hw hn => xNest_same (u := U) (U := U.calling g mk a) rfl w hn (h3 w hw hn), h4.alikeU (U := U.calling g mk a) rfl (Vm.Alike.refl U.vm)⟩, h5.same (U := U.calling g mk a) rfl rfl, h6⟩
/-- a return -/
theorem xRetW {p : Program} {l : Launch} {e : Env} {R : Room} {s : State} {m : MethodId} {args : Array Value} {below : List Frame} {meth : Method} {c : Code} {H : Heap} {locs : List Loc} {A : Nat → Prop} {cc : ByteArray} {ret : Option FieldType} {Qc : Array Value → State → Outcome → State → Prop} {mc ms : Nat} {ls : Array Slot} {st : List Value} {ρ : List Int} {ad ex : List Nat} {q : xQ} {S : xS} (hx : p.tables.exec = Jvm.exec) (hb : c.code = cc) (hr2 : meth.sig.returnType = ret) (hlk : meth.locks = false) (hret : xRet ret (q, S) = true) (hdq : decode cc q.1 = .ok (xMkI xTb q.2.2.1 q.2.2.2.1 q.2.2.2.2.2, q.2.1)) (qS : xSt ρ S.2.1) (qst : xAll2 (xv ρ ad ex) S.2.2.2.1 st) (hlocs : ∀ q ∈ locs, A q.base)
    (fin : ∀ v : Option Value, xAll2 (xv ρ ad ex) S.2.2.2.1 v.toList → ∀ t : State, t.heap = H → s.WarmedH t.vm → Qc args s (.returned v) t) : W p l e R s m args below meth c H locs mc ms (MQ below Qc args s mc ms A) (F0 m q.1 ls st) := by
  unfold xRet at hret
  rw [Bool.and_eq_true] at hret
  obtain ⟨hl1, hret⟩ := hret
  have hl1 : q.2.1 = 1 := Nat.eq_of_beq_eq_true hl1
  rw [hl1] at hdq
  dsimp only at hret
  split at hret
  · rename_i hins hstk
    rw [hins] at hdq
    rw [hstk] at qst fin
    have := qst.nil
    subst this
    exact W.vret hx hb hr2 (fin none trivial) hlocs hdq hlk
  · rename_i v0 hins hstk
    rw [hins] at hdq
    rw [hstk] at qst fin
    obtain ⟨w, t', rfl, ⟨z, rfl, hz⟩, qn⟩ := qst.cons
    have := qn.nil
    subst this
    exact W.iret hx hb hr2 (fin (some (.int z)) ⟨⟨z, rfl, hz⟩, trivial⟩) hlocs hdq hlk
  · rename_i v0 hins hstk
    rw [hins] at hdq
    rw [hstk] at qst fin
    obtain ⟨w, t', rfl, ⟨z, rfl, hz⟩, qn⟩ := qst.cons
    have := qn.nil
    subst this
    split at hret
    · rename_i rr hrr
      rw [Bool.and_eq_true, xle_iff, xle_iff] at hret
      have hzz := xrg_ok qS hz hrr
      exact W.zret hx hb hr2 (x_narZ (by omega) (by omega)) (fin (some (.int z)) ⟨⟨z, rfl, hz⟩, trivial⟩) hlocs hdq hlk
    · cases hret
  · rename_i v0 hins hstk
    rw [hins] at hdq
    rw [hstk] at qst fin
    obtain ⟨w, t', rfl, ⟨z, rfl, hz⟩, qn⟩ := qst.cons
    have := qn.nil
    subst this
    exact W.lret hx hb hr2 (fin (some (.long z)) ⟨⟨z, rfl, hz⟩, trivial⟩) hlocs hdq hlk
  · rename_i o0 v0 hins hstk
    rw [hins] at hdq
    rw [hstk] at qst fin
    obtain ⟨w, t', rfl, hz, qn⟩ := qst.cons
    have := qn.nil
    subst this
    refine W.aret hx hb hr2 (Or.inl ⟨_, rfl⟩) ?_ (fin (some w) ⟨hz, trivial⟩) hlocs hdq hlk
    rcases v0 with (_ | v0) | v0
    · exact Or.inl hz
    · obtain ⟨z, -, hz⟩ := hz
      exact Or.inr ⟨z, hz⟩
    · obtain ⟨z, -, hz⟩ := hz
      exact Or.inr ⟨z, hz⟩
  · rename_i o0 v0 hins hstk
    rw [hins] at hdq
    rw [hstk] at qst fin
    obtain ⟨w, t', rfl, hz, qn⟩ := qst.cons
    have := qn.nil
    subst this
    refine W.aret hx hb hr2 (Or.inr ⟨_, rfl⟩) ?_ (fin (some w) ⟨hz, trivial⟩) hlocs hdq hlk
    rcases v0 with (_ | v0) | v0
    · exact Or.inl hz
    · obtain ⟨z, -, hz⟩ := hz
      exact Or.inr ⟨z, hz⟩
    · obtain ⟨z, -, hz⟩ := hz
      exact Or.inr ⟨z, hz⟩
  · cases hret
