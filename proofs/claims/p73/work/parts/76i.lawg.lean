/-! The law's loop by ONE pattern, some of whose symbols are tied in groups: a round leaves a group as it was, or leaves it as one of its two options says. -/
/-- an option: bounds of symbols, facts -/
abbrev lgV : Type := List (Nat × xB) × xF
/-- a group: its symbols, its two options -/
abbrev lgG : Type := List Nat × (lgV × lgV)
def lgVok (ρ : List Int) (V : lgV) : Prop := (∀ q ∈ V.1, ∃ z, ρ[q.1]? = some z ∧ q.2.1 ≤ z ∧ z ≤ q.2.2) ∧ xFs ρ V.2
def lgOk (ρ : List Int) (g : lgG) : Prop := lgVok ρ g.2.1 ∨ lgVok ρ g.2.2
def lgHas (S : List Nat) (k : Nat) : Bool := S.any (fun j => Nat.beq j k)
def lgVs (S : List Nat) (V : lgV) : Bool := V.1.all (fun q => lgHas S q.1) && V.2.all (fun f => f.1.all (fun q => lgHas S q.1))
def lgSane (g : lgG) : Bool := lgVs g.1 g.2.1 && lgVs g.1 g.2.2
theorem lgHas_ok {S : List Nat} {k : Nat} (h : lgHas S k = true) : k ∈ S := by
  obtain ⟨j, h1, h2⟩ := List.any_eq_true.mp h
  have := Nat.eq_of_beq_eq_true h2
  subst this
  exact h1
theorem lgVok.mono {ρ ρ' : List Int} {V : lgV} (hX : xX ρ ρ') (h : lgVok ρ V) : lgVok ρ' V := by
  refine ⟨fun q hq => ?_, h.2.mono hX⟩
  obtain ⟨z, h1, h2⟩ := h.1 q hq
  exact ⟨z, hX.at h1, h2⟩
theorem lgOk.mono {ρ ρ' : List Int} {g : lgG} (hX : xX ρ ρ') (h : lgOk ρ g) : lgOk ρ' g := by
  rcases h with h | h
  · exact Or.inl (h.mono hX)
  · exact Or.inr (h.mono hX)
theorem xlE_agree {ρ ρp : List Int} {S : List Nat} (h : ∀ k ∈ S, ρp[k]? = ρ[k]?) : ∀ {l : List (Nat × Int)}, (∀ q ∈ l, q.1 ∈ S) → xlE ρp l = xlE ρ l
  | [], _ => rfl
  | q :: t, hq => by
    have h1 := h q.1 (hq q List.mem_cons_self)
    have h2 := xlE_agree h (l := t) (fun x hx => hq x (List.mem_cons_of_mem _ hx))
    simp only [xlE]
    rw [h1, h2]
theorem lgVok_agree {ρ ρp : List Int} {S : List Nat} {V : lgV} (h : ∀ k ∈ S, ρp[k]? = ρ[k]?) (hs : lgVs S V = true) (hv : lgVok ρ V) : lgVok ρp V := by
  unfold lgVs at hs
  rw [Bool.and_eq_true] at hs
  refine ⟨fun q hq => ?_, fun f hf => ?_⟩
  · rw [h q.1 (lgHas_ok (List.all_eq_true.mp hs.1 q hq))]
    exact hv.1 q hq
  · obtain ⟨z, h1, h2⟩ := hv.2 f hf
    refine ⟨z, ?_, h2⟩
    have e := xlE_agree h (l := f.1) (fun q hq => lgHas_ok (List.all_eq_true.mp (List.all_eq_true.mp hs.2 f hf) q hq))
    unfold xlv at h1 ⊢
    rw [e]
    exact h1
theorem lgOk_agree {ρ ρp : List Int} {g : lgG} (h : ∀ k ∈ g.1, ρp[k]? = ρ[k]?) (hs : lgSane g = true) (hv : lgOk ρ g) : lgOk ρp g := by
  unfold lgSane at hs
  rw [Bool.and_eq_true] at hs
  rcases hv with hv | hv
  · exact Or.inl (lgVok_agree h hs.1 hv)
  · exact Or.inr (lgVok_agree h hs.2 hv)
/-- the group's symbols are themselves -/
def lgTie (θ : List xI) (S : List Nat) : Bool := S.all (fun k => match θ[k]? with
  | some (some j, .ofNat 0) => Nat.beq j k
  | _ => false)
theorem lgTie_ok {ρ ρp : List Int} {θ : List xI} {S : List Nat} (hv : xThv ρ (θ.map some) ρp) (h : lgTie θ S = true) : ∀ k ∈ S, ρp[k]? = ρ[k]? := fun k hk => by
  have := List.all_eq_true.mp h k hk
  split at this
  · rename_i j hj
    have := Nat.eq_of_beq_eq_true this
    subst this
    have h1 : (θ.map some)[j]? = some (some (some j, (.ofNat 0 : Int))) := by
      rw [List.getElem?_map, hj]
      rfl
    obtain ⟨z, g1, g2⟩ := hv.2 j _ h1
    rw [g2]
    simp only [xe] at g1
    cases hc : ρ[j]? with
    | none => rw [hc] at g1; cases g1
    | some y =>
      rw [hc] at g1
      have g1 := Option.some.inj g1
      have e : (Int.ofNat 0 : Int) = 0 := rfl
      rw [e] at g1
      congr 1
      omega
  · cases this
/-- an option that the state entails -/
def lgOpt (σ : List xB) (F : xF) (θ : List xI) (V : lgV) : Bool := V.1.all (fun q => match θ[q.1]? with
  | some a => (match xrg σ a with
    | some r => xle q.2.1 r.1 && xle r.2 q.2.2
    | none => false)
  | none => false) && xFin σ F θ V.2
theorem lgOpt_ok {ρ ρp : List Int} {σ : List xB} {F : xF} {θ : List xI} {V : lgV} (hS : xSt ρ σ) (hF : xFs ρ F) (hv : xThv ρ (θ.map some) ρp) (h : lgOpt σ F θ V = true) : lgVok ρp V := by
  unfold lgOpt at h
  rw [Bool.and_eq_true] at h
  refine ⟨fun q hq => ?_, xFin_ok hS hF hv h.2⟩
  have h1 := List.all_eq_true.mp h.1 q hq
  split at h1
  · rename_i a ha
    split at h1
    · rename_i r hr
      rw [Bool.and_eq_true, xle_iff, xle_iff] at h1
      have h2 : (θ.map some)[q.1]? = some (some a) := by
        rw [List.getElem?_map, ha]
        rfl
      obtain ⟨z, g1, g2⟩ := hv.2 q.1 _ h2
      have hb := xrg_ok hS g1 hr
      exact ⟨z, g2, by omega, by omega⟩
    · cases h1
  · cases h1
def lgGrp (tie : Bool) (σ : List xB) (F : xF) (θ : List xI) (g : lgG) : Bool := (tie && lgTie θ g.1) || (lgOpt σ F θ g.2.1 || lgOpt σ F θ g.2.2)
/-- an end of a run of the law -/
def lgChk (G : xPt) (gs : List lgG) (tie : Bool) (c0 n0 : Nat) (ms : Option xLn) (o : xO2) : Bool := bif Nat.ble 110 o.1.2.2.1 then xp_ok (o.1, o.2.1) else Nat.beq o.1.1 18 && (match o.2.1.2.2.2.1 with
  | [] => Nat.beq o.2.1.2.2.2.2.1 c0 && (Nat.beq o.2.1.2.2.2.2.2 n0 && (match xlocs o.2.1.2.2.1 [0, 1, 2, 3] with
    | none => false
    | some vs => (match xPFL o.2.1.1 o.2.1.2.1 o.2.2 vs G with
      | none => false
      | some r => gs.all (lgGrp tie o.2.1.2.1 o.2.2 r.1) && (match ms with
        | none => true
        | some m0 => (match xlT r.1 m0 with
          | none => false
          | some g => xent o.2.1.2.1 o.2.2 12 (xlA (-1) (m0.1, m0.2 - 1) g))))))
  | _ => false)
theorem lgChk_ok {G : xPt} {gs : List lgG} {tie : Bool} {c0 n0 : Nat} {ms : Option xLn} {o : xO2} {D : va_G} {A : Nat → Prop} {s : State} {ex ad : List Nat} {ρ : List Int} {H : Heap} {locs : List Loc} {ls : Array Slot} {st : List Value} {mc mS : Nat} (hsane : gs.all lgSane = true) (h : lgChk G gs tie c0 n0 ms o = true) (h20 : 20 ≤ ex.length) (hr : xRel D A s 4 mc mS [] ex ρ ad o.2.1 H locs ls st) (hF : xFs ρ o.2.2) (hg : tie = true → ∀ g ∈ gs, lgOk ρ g) : xp_ok (o.1, o.2.1) = true ∨ (o.1.1 = 18 ∧ st = [] ∧ o.2.1.2.2.2.2.1 = c0 ∧ o.2.1.2.2.2.2.2 = n0 ∧ ∃ ρp adp exp, (∀ k, k < 20 → exp[k]? = ex[k]?) ∧ exp.length = 20 ∧ lwAt G D A s exp ρp adp H locs ls ∧ (∀ g ∈ gs, lgOk ρp g) ∧ ∀ m0 z, ms = some m0 → xlv ρ m0 = some z → ∃ z', xlv ρp m0 = some z' ∧ z' ≤ z - 1) := by
  unfold lgChk at h
  cases h110 : Nat.ble 110 o.1.2.2.1 with
  | true =>
    rw [h110] at h
    exact Or.inl h
  | false =>
    rw [h110] at h
    simp only [cond_false, Bool.and_eq_true] at h
    obtain ⟨hpc, h⟩ := h
    obtain ⟨qS, qL, qst, qw, qc1, qc2, -⟩ := hr
    obtain ⟨ws, tys, qK, qP, qD, qSS, qh⟩ := id qw
    split at h
    · rename_i hstk
      rw [hstk] at qst
      have := qst.nil
      subst this
      simp only [Bool.and_eq_true] at h
      obtain ⟨h1, h2, h⟩ := h
      split at h
      · cases h
      · rename_i vs hvs
        split at h
        · cases h
        · rename_i r hfit
          rw [Bool.and_eq_true] at h
          obtain ⟨hgr, h⟩ := h
          obtain ⟨θ, φ, κ⟩ := r
          obtain ⟨vals, v1, v2⟩ := xlocs_ok qL hvs
          obtain ⟨φ0, hfit⟩ := xPFL_ok hfit
          obtain ⟨-, -, lk, ρp, adp, wsp, hfits⟩ := xPFit_ok h20 h20 qS hF qh v1 hfit
          obtain ⟨f1, f2, f3, f4, f5, f6, f7, f8, f9, f10⟩ := id hfits
          obtain ⟨lv, ⟨lv1, lv2, lv3⟩, -⟩ := id qL
          have hk0 : κ.length = 0 := by
            have := lk.1
            simpa using this.symm
          refine Or.inr ⟨Nat.eq_of_beq_eq_true hpc, rfl, Nat.eq_of_beq_eq_true h1, Nat.eq_of_beq_eq_true h2, ρp, adp, _, fun k hk => f9.1 k hk, by rw [f10, hk0], ⟨f1, f2, xLo_mk lv1 lv2 v2 f4, ⟨wsp, tys, qK, ?_, ?_, qSS, f3⟩⟩, fun g hgm => ?_, fun m0 z hm0 hz => ?_⟩
          · intro k2 q2 hq2
            obtain ⟨j2, -, g2⟩ := f8 k2 q2 hq2
            exact qP j2 q2 g2
          · refine ⟨fun i1 j1 p2 q2 hi hj e2 => ?_, fun k2 q2 hq2 => ?_⟩
            · obtain ⟨i', a1, a2⟩ := f8 i1 p2 hi
              obtain ⟨j', a3, a4⟩ := f8 j1 q2 hj
              have := qD.1 i' j' p2 q2 a2 a4 e2
              subst this
              exact f7 i1 j1 i' a1 a3
            · obtain ⟨j2, -, g2⟩ := f8 k2 q2 hq2
              exact qD.2 j2 q2 g2
          · have hgg := List.all_eq_true.mp hgr g hgm
            unfold lgGrp at hgg
            rw [Bool.or_eq_true, Bool.or_eq_true, Bool.and_eq_true] at hgg
            rcases hgg with ⟨ht, htie⟩ | hgg | hgg
            · exact lgOk_agree (lgTie_ok f5 htie) (List.all_eq_true.mp hsane g hgm) (hg ht g hgm)
            · exact Or.inl (lgOpt_ok qS hF f5 hgg)
            · exact Or.inr (lgOpt_ok qS hF f5 hgg)
          · rw [hm0] at h
            dsimp only at h
            split at h
            · cases h
            · rename_i g hg2
              obtain ⟨z', w1, w2⟩ := xlT_ok f5 hg2
              refine ⟨z', w1, ?_⟩
              obtain ⟨x, x1, x2⟩ := xlv_inv hz
              have g1 : xlv ρ (m0.1, m0.2 - 1) = some (x + (m0.2 - 1)) := xlv_mk (L := (m0.1, m0.2 - 1)) x1
              have := xent_ok qS hF h (xlA_ok (k := -1) g1 w2)
              omega
    · cases h
/-! Trees of cuts. -/
def lgL (k : Nat) (c : Int) (s : List xB × xF) : List xB × xF := (match s.1[k]? with
  | some r => s.1.set k (r.1, c - 1)
  | none => s.1, s.2)
def lgR (k : Nat) (c : Int) (s : List xB × xF) : List xB × xF := (match s.1[k]? with
  | some r => s.1.set k (c, r.2)
  | none => s.1, s.2)
def lgSet : List (Nat × xB) → List xB → List xB
  | [], σ => σ
  | q :: t, σ => lgSet t (σ.set q.1 q.2)
def lgA (V : lgV) (s : List xB × xF) : List xB × xF := (lgSet V.1 s.1, V.2 ++ s.2)
theorem lgSet_ok {ρ : List Int} : ∀ {L : List (Nat × xB)} {σ : List xB}, (∀ q ∈ L, ∃ z, ρ[q.1]? = some z ∧ q.2.1 ≤ z ∧ z ≤ q.2.2) → xSt ρ σ → xSt ρ (lgSet L σ)
  | [], _, _, hS => hS
  | q :: t, σ, h, hS => by
    obtain ⟨z, h1, h2, h3⟩ := h q List.mem_cons_self
    exact lgSet_ok (L := t) (fun x hx => h x (List.mem_cons_of_mem _ hx)) (hS.set h1 h2 h3)
/-- a tree of cuts whose leaves are tried: whatever goes up from the leaves comes to its root -/
def lgT (leaf : List xB × xF → Prop) (gs : List lgG) (s : List xB × xF) : Prop := ∀ Q : List xB × xF → Prop, (∀ s, leaf s → Q s) → (∀ s k c, Q (lgL k c s) → Q (lgR k c s) → Q s) → (∀ s g, g ∈ gs → Q (lgA g.2.1 s) → Q (lgA g.2.2 s) → Q s) → Q s
theorem lgT_leaf {leaf : List xB × xF → Prop} {gs : List lgG} {s : List xB × xF} (h : leaf s) : lgT leaf gs s := fun _ h1 _ _ => h1 s h
theorem lgT_cut {leaf : List xB × xF → Prop} {gs : List lgG} {s : List xB × xF} (k : Nat) (c : Int) (a : lgT leaf gs (lgL k c s)) (b : lgT leaf gs (lgR k c s)) : lgT leaf gs s := fun Q h1 h2 h3 => h2 s k c (a Q h1 h2 h3) (b Q h1 h2 h3)
theorem lgT_grp {leaf : List xB × xF → Prop} {gs : List lgG} {s : List xB × xF} (g : lgG) (hg : g ∈ gs) (a : lgT leaf gs (lgA g.2.1 s)) (b : lgT leaf gs (lgA g.2.2 s)) : lgT leaf gs s := fun Q h1 h2 h3 => h3 s g hg (a Q h1 h2 h3) (b Q h1 h2 h3)
theorem lgT_ok {leaf : List xB × xF → Prop} {gs : List lgG} {ρ : List Int} (hg : ∀ g ∈ gs, lgOk ρ g) {s : List xB × xF} (h : lgT leaf gs s) : xSt ρ s.1 → xFs ρ s.2 → ∃ s', leaf s' ∧ xSt ρ s'.1 ∧ xFs ρ s'.2 := by
  refine h (fun s => xSt ρ s.1 → xFs ρ s.2 → ∃ s', leaf s' ∧ xSt ρ s'.1 ∧ xFs ρ s'.2) (fun s hs h1 h2 => ⟨s, hs, h1, h2⟩) (fun s k c ih1 ih2 h1 h2 => ?_) (fun s g hm ih1 ih2 h1 h2 => ?_)
  · cases hs : s.1[k]? with
    | none =>
      refine ih1 ?_ h2
      unfold lgL
      rw [hs]
      exact h1
    | some r =>
      have hlt : k < ρ.length := by
        rw [← h1.1]
        exact (List.getElem?_eq_some_iff.mp hs).1
      have hz : ρ[k]? = some ρ[k] := List.getElem?_eq_getElem hlt
      have hb := h1.2 k r _ hs hz
      by_cases hc : ρ[k] ≤ c - 1
      · refine ih1 ?_ h2
        unfold lgL
        rw [hs]
        exact h1.set hz hb.1 hc
      · refine ih2 ?_ h2
        unfold lgR
        rw [hs]
        exact h1.set hz (by omega) hb.2
  · rcases hg g hm with hv | hv
    · refine ih1 (lgSet_ok hv.1 h1) (fun q hq => ?_)
      rcases List.mem_append.mp hq with hq | hq
      · exact hv.2 q hq
      · exact h2 q hq
    · refine ih2 (lgSet_ok hv.1 h1) (fun q hq => ?_)
      rcases List.mem_append.mp hq with hq | hq
      · exact hv.2 q hq
      · exact h2 q hq
section LG
variable (T : List (Nat × xCt)) (ht : List (Nat × xHl)) (hl : xHl) (G : xPt) (gs : List lgG) (ki c0 n0 d : Nat)
def lgS0 (k : Nat) : List xB × xF := match lqSw T ht hl ki c0 n0 d G with
  | some w => (match w.1[k]? with
    | some r => (r.2, (lqOb T ht hl ki c0 n0 d G).2.2)
    | none => ([], []))
  | none => ([], [])
/-- the roads from a leaf of the k-th case -/
def lgOuts (k : Nat) (s : List xB × xF) : Option (List xO2) := match lqSw T ht hl ki c0 n0 d G with
  | some w => (match w.1[k]? with
    | some r => (match xTight s.2 s.1 with
      | none => some []
      | some τ => xRun2 xMt xTb T ht 20 100000 1 d (some (lwSk G.2.1.length ki)) [18] xm_law2 hl r.1 (xSeek xm_law2.pg r.1) (lqOb T ht hl ki c0 n0 d G).2.1.1 τ s.2 (lqOb T ht hl ki c0 n0 d G).2.1.2.2.1 w.2 (lqOb T ht hl ki c0 n0 d G).2.1.2.2.2.2.1 (lqOb T ht hl ki c0 n0 d G).2.1.2.2.2.2.2)
    | none => none)
  | none => none
def lgC (o : xO2) : Bool := lgChk G gs true c0 n0 (some ([(ki, -1)], 3072)) o
def lgLeaf (k : Nat) (s : List xB × xF) : Bool := match lgOuts T ht hl G ki c0 n0 d k s with
  | some outs => outs.all (lgC G gs ki c0 n0)
  | none => false
def lgPart (k : Nat) (s : List xB × xF) (a n : Nat) : Bool := match lgOuts T ht hl G ki c0 n0 d k s with
  | some outs => ((outs.drop a).take n).all (lgC G gs ki c0 n0)
  | none => false
def lgLast (k : Nat) (s : List xB × xF) (a : Nat) : Bool := match lgOuts T ht hl G ki c0 n0 d k s with
  | some outs => Nat.ble outs.length a
  | none => false
def lgFrom (k : Nat) (s : List xB × xF) (a : Nat) : Prop := ∃ outs, lgOuts T ht hl G ki c0 n0 d k s = some outs ∧ (outs.drop a).all (lgC G gs ki c0 n0) = true
def lgH1 : Bool := match lqR1 T ht hl ki c0 n0 d G with
  | some [a, b] => lgC G gs ki c0 n0 a && Nat.ble 80 b.1.2.2.1
  | _ => false
/-- one round of the loop, as the kernel tries it -/
def lgRound (n : Nat) : Prop := G.2.1[ki]? = some (0, 3072) ∧ gs.all lgSane = true ∧ lgH1 T ht hl G gs ki c0 n0 d = true ∧ lqH2 T ht hl ki c0 n0 d G n = true ∧ ∀ k, k < n → lgT (fun s => lgLeaf T ht hl G gs ki c0 n0 d k s = true) gs (lgS0 T ht hl G ki c0 n0 d k)
end LG
theorem lgZ {T : List (Nat × xCt)} {ht : List (Nat × xHl)} {hl : xHl} {G : xPt} {gs : List lgG} {ki c0 n0 d k a : Nat} {s : List xB × xF} (h : lgLast T ht hl G ki c0 n0 d k s a = true) : lgFrom T ht hl G gs ki c0 n0 d k s a := by
  unfold lgLast at h
  split at h
  · rename_i outs ho
    refine ⟨outs, ho, ?_⟩
    rw [List.drop_of_length_le (Nat.le_of_ble_eq_true h)]
    rfl
  · cases h
theorem lgS {T : List (Nat × xCt)} {ht : List (Nat × xHl)} {hl : xHl} {G : xPt} {gs : List lgG} {ki c0 n0 d k a n : Nat} {s : List xB × xF} (h1 : lgPart T ht hl G gs ki c0 n0 d k s a n = true) (h2 : lgFrom T ht hl G gs ki c0 n0 d k s (a + n)) : lgFrom T ht hl G gs ki c0 n0 d k s a := by
  obtain ⟨outs, ho, h2⟩ := h2
  unfold lgPart at h1
  rw [ho] at h1
  exact ⟨outs, ho, xAllS a n h1 h2⟩
theorem lgE {T : List (Nat × xCt)} {ht : List (Nat × xHl)} {hl : xHl} {G : xPt} {gs : List lgG} {ki c0 n0 d k : Nat} {s : List xB × xF} (h : lgFrom T ht hl G gs ki c0 n0 d k s 0) : lgLeaf T ht hl G gs ki c0 n0 d k s = true := by
  obtain ⟨outs, ho, h⟩ := h
  rw [List.drop_zero] at h
  unfold lgLeaf
  rw [ho]
  exact h
theorem lg_round {l : Launch} {T : List (Nat × xCt)} {ht : List (Nat × xHl)} {hl : xHl} (hT : xCtsOk l T) (hH : ∀ (j : Nat) (M : xMd), xMt[j]? = some M → ∀ q ∈ xHof ht j, 20 ≤ q.2.1 → xSpLaw l M q) (hhl : ∀ q ∈ hl, 20 ≤ q.2.1 → xSpLaw l xm_law2 q) {G : xPt} {gs : List lgG} {ki c0 n0 d nk : Nat} (hd : d ≤ 2000) (hc0 : c0 ≤ xm_law2.mc) (hn0 : n0 ≤ xm_law2.ms) (hall : lgRound T ht hl G gs ki c0 n0 d nk)
    {p : Program} {e : Env} {s : State} {m : MethodId} {below : List Frame} {meth : Method} {c : Code} {b L : Nat} {xs : Nat → Int32} (hL : L ≤ 3072) (C0 : lw_At p s m meth c b L xs) {D : va_G} :
    ∀ (n : Nat) (ex : List Nat) (ρ : List Int) (ad : List Nat) (H : Heap) (locs : List Loc) (ls : Array Slot), ex[0]? = some b → ex.length = 20 → xGlo (fun q : Nat => s.heap.size ≤ q) s ex → lwAt G D (fun q : Nat => s.heap.size ≤ q) s ex ρ ad H locs ls → (∀ g ∈ gs, lgOk ρ g) → (∀ z, ρ[ki]? = some z → 3072 - z ≤ n) → W p l e room_1 s m #[Value.ref b] below meth c H locs c0 n0 (lw_Z below #[Value.ref b] s) (F0 m 18 ls []) := by
  have C := xCtx_law2 C0
  obtain ⟨hx, hb, hr, hml, hown, hts, hX, hbl, hlocks, hgv⟩ := id C0
  have hA : ∀ q : Nat, s.heap.size ≤ q → (fun q : Nat => s.heap.size ≤ q) q := fun _ h => h
  have hini : (Nat.beq xm_law2.kd 2) = true → meth.name = "<init>" := fun h => absurd h (by decide)
  have r1 : d ≤ room_1.frames := Nat.le_trans hd (Nat.le_of_ble_eq_true rfl)
  have r2 : 40 * d ≤ room_1.locals := Nat.le_trans (Nat.mul_le_mul_left 40 hd) (Nat.le_of_ble_eq_true rfl)
  have r3 : xm_law2.mc ≤ room_1.cells := Nat.le_of_ble_eq_true rfl
  have r4 : xm_law2.ms ≤ room_1.slots := Nat.le_of_ble_eq_true rfl
  obtain ⟨hki, hsane, hH1, hH2, hcase⟩ := hall
  -- one round, whatever is known of the next
  have body : ∀ (ex : List Nat) (ρ : List Int) (ad : List Nat) (H : Heap) (locs : List Loc) (ls : Array Slot) (zi : Nat), ex[0]? = some b → ex.length = 20 → xGlo (fun q : Nat => s.heap.size ≤ q) s ex → lwAt G D (fun q : Nat => s.heap.size ≤ q) s ex ρ ad H locs ls → (∀ g ∈ gs, lgOk ρ g) → ρ[ki]? = some (zi : Int) →
      (∀ (ex2 : List Nat) (ρ2 : List Int) (ad2 : List Nat) (H2 : Heap) (locs2 : List Loc) (ls2 : Array Slot), ex2[0]? = some b → ex2.length = 20 → xGlo (fun q : Nat => s.heap.size ≤ q) s ex2 → lwAt G D (fun q : Nat => s.heap.size ≤ q) s ex2 ρ2 ad2 H2 locs2 ls2 → (∀ g ∈ gs, lgOk ρ2 g) → (∀ z2, ρ2[ki]? = some z2 → 3072 - z2 ≤ 3072 - (zi : Int) - 1) → W p l e room_1 s m #[Value.ref b] below meth c H2 locs2 c0 n0 (lw_Z below #[Value.ref b] s) (F0 m 18 ls2 [])) →
      W p l e room_1 s m #[Value.ref b] below meth c H locs c0 n0 (lw_Z below #[Value.ref b] s) (F0 m 18 ls []) := by
    intro ex ρ ad H locs ls zi hex0 hexl hgl hat hgr hzi kk
    obtain ⟨hS, hF, hLo, hW⟩ := hat
    have hX0 : xX ρ (ρ ++ [(L : Int), (xs (zi + 0)).toInt, (xs (zi + 1)).toInt, (xs (zi + 2)).toInt, (xs (zi + 3)).toInt, (xs (zi + 4)).toInt, (xs (zi + 5)).toInt]) := ⟨_, rfl⟩
    have hlen : ρ.length = G.2.1.length := hS.1.symm
    have hbA : ¬ (fun q : Nat => s.heap.size ≤ q) b := Nat.not_le.mpr hbl
    have hscl : xScl (fun q : Nat => s.heap.size ≤ q) s (ρ ++ [(L : Int), (xs (zi + 0)).toInt, (xs (zi + 1)).toInt, (xs (zi + 2)).toInt, (xs (zi + 3)).toInt, (xs (zi + 4)).toInt, (xs (zi + 5)).toInt]) ex (some (lwSk G.2.1.length ki)) := by
      refine Or.inr ⟨(some G.2.1.length, 0), (some ki, 0), _, L, zi, xs, rfl, by rw [xexa_at hex0]; exact hX, by rw [xexa_at hex0]; exact hbl, by rw [xexa_at hex0]; exact hbA, hL, lw_xe (k := 0) hlen _ rfl, ?_, ?_⟩
      · refine xe.mono hX0 ?_
        simp only [xe, hzi]
        simp
      · intro j v hv
        match j, hv with
        | 0, hv => cases hv; exact lw_xe (k := 1) hlen _ rfl
        | 1, hv => cases hv; exact lw_xe (k := 2) hlen _ rfl
        | 2, hv => cases hv; exact lw_xe (k := 3) hlen _ rfl
        | 3, hv => cases hv; exact lw_xe (k := 4) hlen _ rfl
        | 4, hv => cases hv; exact lw_xe (k := 5) hlen _ rfl
        | 5, hv => cases hv; exact lw_xe (k := 6) hlen _ rfl
        | j + 6, hv => simp at hv
    have hSS : xSt (ρ ++ [(L : Int), (xs (zi + 0)).toInt, (xs (zi + 1)).toInt, (xs (zi + 2)).toInt, (xs (zi + 3)).toInt, (xs (zi + 4)).toInt, (xs (zi + 5)).toInt]) (G.2.1 ++ lwB) := hS.app (lwB_ok hL (fun k => xs (zi + k)))
    have hm0 : ∀ ρ', xX (ρ ++ [(L : Int), (xs (zi + 0)).toInt, (xs (zi + 1)).toInt, (xs (zi + 2)).toInt, (xs (zi + 3)).toInt, (xs (zi + 4)).toInt, (xs (zi + 5)).toInt]) ρ' → xlv ρ' ([(ki, -1)], 3072) = some (-1 * (zi : Int) + 0 + 3072) := fun ρ' hX' => by
      have h0 : xlE ρ [(ki, -1)] = some (-1 * (zi : Int) + 0) := xlE_cons hzi rfl
      exact xlv.mono (hX0.tr hX') (xlv_mk (L := ([(ki, -1)], 3072)) h0)
    -- an end of a run
    have fin : ∀ (o : xO2) (ρ' : List Int) (ad' : List Nat) (H' : Heap) (locs' : List Loc) (ls' : Array Slot) (st' : List Value), lgC G gs ki c0 n0 o = true → o.1 ∈ xm_law2.pg → xX (ρ ++ [(L : Int), (xs (zi + 0)).toInt, (xs (zi + 1)).toInt, (xs (zi + 2)).toInt, (xs (zi + 3)).toInt, (xs (zi + 4)).toInt, (xs (zi + 5)).toInt]) ρ' → xRel D (fun q : Nat => s.heap.size ≤ q) s xm_law2.nl xm_law2.mc xm_law2.ms [] ex ρ' ad' o.2.1 H' locs' ls' st' → xFs ρ' o.2.2 → W p l e room_1 s m #[Value.ref b] below meth c H' locs' o.2.1.2.2.2.2.1 o.2.1.2.2.2.2.2 (lw_Z below #[Value.ref b] s) (F0 m o.1.1 ls' st') := by
      intro o ρ' ad' H' locs' ls' st' hchk hm hX' hr' hF'
      unfold lgC at hchk
      rcases lgChk_ok hsane hchk (by omega) hr' hF' (fun _ g hgm => (hgr g hgm).mono (hX0.tr hX')) with h | ⟨e1, e2, e3, e4, ρp, adp, exp, x1, x2, hat', hgr', hms⟩
      · exact lw_fin hx hb hr hlocks h hm hr'
      · rw [e1, e2, e3, e4]
        refine kk exp ρp adp H' locs' ls' (by rw [x1 0 (by omega)]; exact hex0) x2 (hgl.call rfl (State.WarmedH.refl s) va_S.rf (fun _ q => q) x1 (by omega)) hat' hgr' (fun z2 hz2 => ?_)
        obtain ⟨z', w1, w2⟩ := hms _ _ rfl (hm0 ρ' hX')
        have h0 : xlv ρp ([(ki, -1)], 3072) = some (-1 * z2 + 0 + 3072) := xlv_mk (L := ([(ki, -1)], 3072)) (xlE_cons hz2 rfl)
        rw [w1] at h0
        have h0 := Option.some.inj h0
        omega
    unfold lgH1 at hH1
    split at hH1
    · rename_i a b1 hR1
      rw [Bool.and_eq_true] at hH1
      have eb : lqOb T ht hl ki c0 n0 d G = b1 := by
        unfold lqOb
        rw [hR1]
      refine xRun2_ok xk_all l hT hH 100000 0 d (some (lwSk G.2.1.length ki)) [33] xm_law2 hl 18 (xSeek xm_law2.pg 18) G.1 (G.2.1 ++ lwB) G.2.2.1 _ [] c0 n0 [a, b1] hR1 xk_law2 hhl (fun z hz => xSeek_sub z hz) (fun er nx he => xSeek_pc he) C hini hA r1 r2 r3 r4 hgl (by omega) hscl ⟨hSS, hLo.mono hX0 (xX.rf ad), trivial, hW.mono hX0, hc0, hn0, Or.inl rfl⟩ (hF.mono hX0) (fun o ho hm ρ' ad' H' locs' ls' st' hX1 hX2 hr' hF' => ?_)
      rcases List.mem_cons.mp ho with rfl | ho
      · exact fin _ ρ' ad' H' locs' ls' st' hH1.1 hm hX1 hr' hF'
      · have := List.mem_singleton.mp ho
        subst this
        unfold lqH2 at hH2
        cases hs : lqSw T ht hl ki c0 n0 d G with
        | none => rw [hs] at hH2; cases hH2
        | some w =>
          rw [hs] at hH2
          have hn := Nat.eq_of_beq_eq_true hH2
          have hFB := hs
          unfold lqSw at hFB
          rw [eb] at hFB
          have h80 := Nat.le_of_ble_eq_true hH1.2
          obtain ⟨oe, ⟨oh, oσ, ol, os, oc, on⟩, oF⟩ := o
          obtain ⟨LL, t⟩ := w
          have hok := (xk_law2 oe hm).1
          refine xStepB_ok (nx := []) (xFB_eq (tb := xTb) (h := oh) (loc := ol) (nc := oc) (ns := on) h80 hFB) C hok.1 (Or.inl hok.2.2) (fun e2 h2 => absurd h2 List.not_mem_nil) hr' (fun z hz ρ3 ad3 H3 locs3 ls3 st3 hZ1 hZ2 hrel3 => ?_)
          obtain ⟨r, hr0, rfl⟩ := List.mem_map.mp hz
          obtain ⟨k, hk⟩ := x_mem_tys hr0
          have hkn : k < nk := by
            rw [← hn]
            exact (List.getElem?_eq_some_iff.mp hk).1
          have hgr3 : ∀ g ∈ gs, lgOk ρ3 g := fun g hgm => (hgr g hgm).mono ((hX0.tr hX1).tr hZ1)
          have hsk : lgS0 T ht hl G ki c0 n0 d k = (r.2, oF) := by
            unfold lgS0
            rw [hs]
            dsimp only
            rw [hk]
            dsimp only
            rw [eb]
          have hF3 : xFs ρ3 oF := hF'.mono hZ1
          have hc := hcase k hkn
          rw [hsk] at hc
          obtain ⟨s', hleaf, hS3, hFs3⟩ := lgT_ok hgr3 hc hrel3.1 hF3
          unfold lgLeaf at hleaf
          split at hleaf
          · rename_i outs2 hruns
            unfold lgOuts at hruns
            rw [hs] at hruns
            dsimp only at hruns
            rw [hk] at hruns
            dsimp only at hruns
            rw [eb] at hruns
            obtain ⟨τ, hτ, hSτ⟩ := xTight_ok hFs3 hS3
            rw [hτ] at hruns
            dsimp only at hruns
            exact xRun2_ok xk_all l hT hH 100000 1 d (some (lwSk G.2.1.length ki)) [18] xm_law2 hl r.1 (xSeek xm_law2.pg r.1) _ _ _ _ _ _ _ outs2 hruns xk_law2 hhl (fun z hz => xSeek_sub z hz) (fun er nx he => xSeek_pc he) C hini hA r1 r2 r3 r4 hgl (by omega) (hscl.mono (hX1.tr hZ1)) ⟨hSτ, hrel3.2⟩ hFs3 (fun o2 ho2 hm2 ρ4 ad4 H4 locs4 ls4 st4 hV1 hV2 hr4 hF4 => fin o2 ρ4 ad4 H4 locs4 ls4 st4 (List.all_eq_true.mp hleaf o2 ho2) hm2 ((hX1.tr hZ1).tr hV1) hr4 hF4)
          · cases hleaf
    · cases hH1
  have kisome : ∀ (ρ : List Int), xSt ρ G.2.1 → ∃ zi : Nat, ρ[ki]? = some (zi : Int) ∧ (zi : Int) ≤ 3072 := fun ρ hS => by
    have hlt : ki < ρ.length := by
      rw [← hS.1]
      exact (List.getElem?_eq_some_iff.mp hki).1
    have hz := hS.2 ki _ ρ[ki] hki (List.getElem?_eq_getElem hlt)
    dsimp only at hz
    refine ⟨ρ[ki].toNat, ?_, by omega⟩
    rw [List.getElem?_eq_getElem hlt]
    congr 1
    omega
  intro n
  induction n with
  | zero =>
    intro ex ρ ad H locs ls hex0 hexl hgl hat hgr hz
    obtain ⟨zi, hzi, hzb⟩ := kisome ρ hat.1
    refine body ex ρ ad H locs ls zi hex0 hexl hgl hat hgr hzi (fun ex2 ρ2 ad2 H2 locs2 ls2 g1 g2 g3 g4 _ g5 => ?_)
    obtain ⟨z2, hz2, hz3⟩ := kisome ρ2 g4.1
    have := g5 _ hz2
    have := hz _ hzi
    exfalso
    omega
  | succ n ih =>
    intro ex ρ ad H locs ls hex0 hexl hgl hat hgr hz
    obtain ⟨zi, hzi, hzb⟩ := kisome ρ hat.1
    refine body ex ρ ad H locs ls zi hex0 hexl hgl hat hgr hzi (fun ex2 ρ2 ad2 H2 locs2 ls2 g1 g2 g3 g4 g6 g5 => ih ex2 ρ2 ad2 H2 locs2 ls2 g1 g2 g3 g4 g6 (fun z hz2 => ?_))
    have := g5 _ hz2
    have := hz _ hzi
    omega
/-- from the entry to the loop's head, and on -/
theorem lg_all {l : Launch} {T : List (Nat × xCt)} {ht : List (Nat × xHl)} {hl : xHl} (hT : xCtsOk l T) (hH : ∀ (j : Nat) (M : xMd), xMt[j]? = some M → ∀ q ∈ xHof ht j, 20 ≤ q.2.1 → xSpLaw l M q) (hhl : ∀ q ∈ hl, 20 ≤ q.2.1 → xSpLaw l xm_law2 q) {G : xPt} {gs : List lgG} {ki c0 n0 d nk f : Nat} {outs0 : List xO2} (hd : d ≤ 2000) (hc0 : c0 ≤ xm_law2.mc) (hn0 : n0 ≤ xm_law2.ms) (hall : lgRound T ht hl G gs ki c0 n0 d nk)
    (h0 : xRun2 xMt xTb T ht 20 f 0 d none [18] xm_law2 hl 0 (xSeek xm_law2.pg 0) [] [] [] [(0, .inr (.inr (.inr 0)))] [] 0 0 = some outs0) (h0c : ∀ o ∈ outs0, lgChk G gs false c0 n0 none o = true)
    {p : Program} {e : Env} {s : State} {m : MethodId} {below : List Frame} {meth : Method} {c : Code} {b L : Nat} {xs : Nat → Int32} (hL : L ≤ 3072) (C0 : lw_At p s m meth c b L xs) : W p l e room_1 s m #[Value.ref b] below meth c s.heap [] 0 0 (lw_Z below #[Value.ref b] s) (entryFrame m ([Value.ref b] : List Value).toArray 4) := by
  have C := xCtx_law2 C0
  obtain ⟨hx, hb, hr, hml, hown, hts, hX, hbl, hlocks, hgv⟩ := id C0
  obtain ⟨D, hK⟩ := xD_ex hts
  have hA : ∀ q : Nat, s.heap.size ≤ q → (fun q : Nat => s.heap.size ≤ q) q := fun _ h => h
  obtain ⟨ex, hex0, hexl, hgl⟩ := xGlo_start (b := b) (A := fun q : Nat => s.heap.size ≤ q) hts hgv (fun a ha => Nat.not_le.mpr ha)
  have hP : va_P D xcl [] s.heap := fun k q h => by simp at h
  have hD : va_D (fun q : Nat => s.heap.size ≤ q) [] := ⟨fun i j p q h => by simp at h, fun k q h => by simp at h⟩
  have hini : (Nat.beq xm_law2.kd 2) = true → meth.name = "<init>" := fun h => absurd h (by decide)
  have r1 : d ≤ room_1.frames := Nat.le_trans hd (Nat.le_of_ble_eq_true rfl)
  have r2 : 40 * d ≤ room_1.locals := Nat.le_trans (Nat.mul_le_mul_left 40 hd) (Nat.le_of_ble_eq_true rfl)
  have r3 : xm_law2.mc ≤ room_1.cells := Nat.le_of_ble_eq_true rfl
  have r4 : xm_law2.ms ≤ room_1.slots := Nat.le_of_ble_eq_true rfl
  have hl0 := lv_entry ([.ref b]) (n := 4) (Nat.le_of_ble_eq_true rfl)
  rw [lg_entry_eq]
  generalize (lg_sl ([.ref b]) ++ List.replicate (4 - (lg_sl ([.ref b])).length) Slot.unset).toArray = ls at hl0 ⊢
  have hl0 : lv_has ls 4 [(0, .ref b)] := hl0
  refine xRun2_ok xk_all l hT hH f 0 d none [18] xm_law2 hl 0 (xSeek xm_law2.pg 0) [] [] [] _ [] 0 0 outs0 h0 xk_law2 hhl (fun z hz => xSeek_sub z hz) (fun er nx he => xSeek_pc he) C hini hA r1 r2 r3 r4 hgl (by omega) (Or.inl rfl) (ρ := []) (ad := []) ⟨⟨rfl, fun k r z hr => by simp at hr⟩, ⟨_, hl0, ⟨⟨rfl, b, hex0, rfl⟩, trivial⟩⟩, trivial, ⟨[], [], hK, hP, hD, va_S.rf, rfl, trivial⟩, Nat.zero_le _, Nat.zero_le _, Or.inl rfl⟩ (fun q hq => absurd hq List.not_mem_nil) (fun o ho hm ρ' ad' H' locs' ls' st' hX1 hX2 hr' hF' => ?_)
  rcases lgChk_ok hall.2.1 (h0c o ho) (by omega) hr' hF' (fun h => absurd h (by decide)) with h | ⟨e1, e2, e3, e4, ρp, adp, exp, x1, x2, hat', hgr', -⟩
  · exact lw_fin hx hb hr hlocks h hm hr'
  · rw [e1, e2, e3, e4]
    refine lg_round hT hH hhl hd hc0 hn0 hall hL C0 3072 exp ρp adp H' locs' ls' (by rw [x1 0 (by omega)]; exact hex0) x2 (hgl.call rfl (State.WarmedH.refl s) va_S.rf (fun _ q => q) x1 (by omega)) hat' hgr' (fun z hz => ?_)
    have hb3 := hat'.1.2 ki _ z hall.1 hz
    dsimp only at hb3
    omega
