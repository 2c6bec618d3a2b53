/-! A contract that stood its trial is kept. -/
section XVO
variable {l : Launch} {T : List (Nat × xCt)} {ht : List (Nat × xHl)} {j : Nat} {M : xMd} {ct : xCt} {cuts : List xCu}
/-- what a contract's end is, for the machine -/
abbrev xQc (D : va_G) (A : Nat → Prop) (ρ : List Int) (ad ex : List Nat) (ends : List xPt) : Array Value → State → Outcome → State → Prop := fun _ st oc t => (∃ v, oc = .returned v ∧ xPostP D A ρ ad ex ends v t) ∧ va_F A st t
/-- a run from a state: the cuts are gone on from by what is known of them -/
theorem xFrom_ok (hM : ∀ M ∈ xMt, xMok M) (hT : xCtsOk l T) (hH : ∀ (j : Nat) (M : xMd), xMt[j]? = some M → ∀ q ∈ xHof ht j, 20 ≤ q.2.1 → xSpLaw l M q) (hMj : xMt[j]? = some M) {f d pc : Nat} {ms : Option xLn} {P : xPt} {loc : List (Nat × xV)} (hv : xFrom T ht f d j M ct cuts ms pc P loc = true)
    {p : Program} {e : Env} {R : Room} {s : State} {m : MethodId} {args : Array Value} {below : List Frame} {meth : Method} {c : Code} {H : Heap} {locs : List Loc} {ls : Array Slot} {ρ0 ρ : List Int} {ad0 ex : List Nat} {D : va_G} {A : Nat → Prop}
    (C : xCtx p s m args c M.cc M.nl M.yy.cls) (hini : (Nat.beq M.kd 2) = true → meth.name = "<init>") (hA : ∀ q, s.heap.size ≤ q → A q) (hRf : d ≤ R.frames) (hRl : 40 * d ≤ R.locals) (hRC : M.mc ≤ R.cells) (hRS : M.ms ≤ R.slots) (hgl : xGlo A s ex) (hex : ex.length = 20 + ct.1.2.2.2.2) (hret : meth.sig.returnType = M.rt) (hlk : meth.locks = false)
    (hn0 : ρ0.length = ct.1.2.1.length) (had : ad0.length = ct.1.1.length) (hX0 : xX ρ0 ρ) (hS : xSt ρ P.2.1) (hF : xFs ρ P.2.2.1) (hL : xLo ρ ad0 ex M.nl loc ls) (hw : xWd D A s H locs ρ ad0 ex P.1)
    (hms : ∀ m0, ms = some m0 → ∃ z, xlv ρ m0 = some z)
    (kc : ∀ Cu ∈ cuts, ∀ (ρp : List Int) (H' : Heap) (locs' : List Loc) (ls' : Array Slot), xX ρ0 ρp → xSt ρp Cu.2.2.1.2.1 → xFs ρp Cu.2.2.1.2.2.1 → xLo ρp ad0 ex M.nl (Cu.2.1.zip Cu.2.2.1.2.2.2.1) ls' → xWd D A s H' locs' ρp ad0 ex Cu.2.2.1.1 → (∀ m0 z, ms = some m0 → xlv ρ m0 = some z → ∃ z', xlv ρp Cu.2.2.2 = some z' ∧ z' ≤ z - 1) → W p l e R s m args below meth c H' locs' 0 0 (MQ below (xQc D A ρ0 ad0 ex ct.2.1) args s M.mc M.ms A) (F0 m Cu.1 ls' [])) :
    W p l e R s m args below meth c H locs 0 0 (MQ below (xQc D A ρ0 ad0 ex ct.2.1) args s M.mc M.ms A) (F0 m pc ls []) := by
  unfold xFrom at hv
  split at hv
  · cases hv
  · rename_i outs hrun
    have hall := List.all_eq_true.mp hv
    have hmM : M ∈ xMt := List.mem_of_getElem? hMj
    have hRw := (hM M hmM).1
    refine xRun2_ok hM l hT hH f 0 d none (cuts.map Prod.fst) M (xHof ht j) pc (xSeek M.pg pc) P.1 P.2.1 P.2.2.1 loc [] 0 0 outs hrun hRw (hH j M hMj) (fun z hz => xSeek_sub z hz) (fun er nx he => xSeek_pc he) C hini hA hRf hRl hRC hRS hgl (by rw [hex]; exact Nat.le_refl _) (Or.inl rfl) ⟨hS, hL, trivial, hw, Nat.zero_le _, Nat.zero_le _, Or.inl rfl⟩ hF ?_
    intro q hq hmq ρ' ad' H' locs' ls' st' hX1 hX2 hr' hF'
    have hchk := hall q hq
    obtain ⟨qS, qL, qst, qw, qc1, qc2, -⟩ := hr'
    obtain ⟨ws, tys, qK, qP, qD, qSS, qh⟩ := id qw
    unfold xChkO at hchk
    cases h110 : Nat.ble 110 q.1.2.2.1 with
    | true =>
      rw [h110] at hchk
      simp only [cond_true, Bool.and_eq_true] at hchk
      obtain ⟨hrt, hfit⟩ := hchk
      obtain ⟨E, hE, hfit⟩ := List.any_eq_true.mp hfit
      obtain ⟨⟨θ, φ, κ⟩, hfit⟩ := Option.isSome_iff_exists.mp hfit
      refine W.widen qc1 qc2 ?_
      refine xRetW C.1 C.2.1 hret hlk hrt (hRw q.1 hmq).1.1 qS qst qSS.2.2 (fun v hvv t ht2 hWt => ?_)
      obtain ⟨ρp, wsp, g1, g2, g3, g4, g5, g6, g7, g8⟩ := xFitI_ok hfit hgl.1 (by rw [hex]; exact Nat.le_refl _) hex hn0 had (hX0.tr hX1) hX2 qS hF' qh hvv
      refine ⟨⟨v, rfl, E, hE, ρp, g1, g2, g3, g5, wsp, tys, qK.moved hWt.alike, ?_, g4⟩, qSS.F ht2⟩
      intro k2 q2 hq2
      obtain ⟨j2, -, h2⟩ := g8 k2 q2 hq2
      rw [ht2]
      exact qP j2 q2 h2
    | false =>
      rw [h110] at hchk
      simp only [cond_false] at hchk
      split at hchk
      · rename_i e1 e2 e3
        rw [e1] at qst
        have := qst.nil
        subst this
        obtain ⟨Cu, hCu, hcc⟩ := List.any_eq_true.mp hchk
        rw [Bool.and_eq_true] at hcc
        obtain ⟨hpc, hcc⟩ := hcc
        have hpc := Nat.eq_of_beq_eq_true hpc
        split at hcc
        · cases hcc
        · rename_i vs hvs
          split at hcc
          · cases hcc
          · rename_i r hfit
            obtain ⟨θ, φ, κ⟩ := r
            obtain ⟨vals, v1, v2⟩ := xlocs_ok qL hvs
            obtain ⟨ρp, wsp, g1, g2, g3, g4, g5, g6, g7, g8⟩ := xFitI_ok hfit hgl.1 (by rw [hex]; exact Nat.le_refl _) hex hn0 had (hX0.tr hX1) hX2 qS hF' qh v1
            obtain ⟨lv, ⟨lv1, lv2, lv3⟩, -⟩ := id qL
            rw [e2, e3, ← hpc]
            refine kc Cu hCu ρp H' locs' ls' g1 g2 g3 (xLo_mk lv1 lv2 v2 g5) ⟨wsp, tys, qK, ?_, ?_, qSS, g4⟩ (fun m0 z hm0 hz => ?_)
            · intro k2 q2 hq2
              obtain ⟨j2, -, h2⟩ := g8 k2 q2 hq2
              exact qP j2 q2 h2
            · refine ⟨fun i1 j1 p2 q2 hi hj e2 => ?_, fun k2 q2 hq2 => ?_⟩
              · obtain ⟨i', a1, a2⟩ := g8 i1 p2 hi
                obtain ⟨j', a3, a4⟩ := g8 j1 q2 hj
                have := qD.1 i' j' p2 q2 a2 a4 e2
                subst this
                exact g7 i1 j1 i' a1 a3
              · obtain ⟨j2, -, h2⟩ := g8 k2 q2 hq2
                exact qD.2 j2 q2 h2
            · rw [hm0] at hcc
              dsimp only at hcc
              split at hcc
              · cases hcc
              · rename_i g hg
                obtain ⟨z', w1, w2⟩ := xlT_ok g6 hg
                refine ⟨z', w1, ?_⟩
                have hz' := xlv.mono hX1 hz
                obtain ⟨x, x1, x2⟩ := xlv_inv hz'
                have h1 : xlv ρ' (m0.1, m0.2 - 1) = some (x + (m0.2 - 1)) := xlv_mk (L := (m0.1, m0.2 - 1)) x1
                have := xent_ok qS hF' hcc (xlA_ok (k := -1) h1 w2)
                omega
      · cases hchk
theorem xlv_of {ρ : List Int} {σ : List xB} (hS : xSt ρ σ) : ∀ {g : List (Nat × Int)} {w : Int}, xlL σ g = some w → ∃ z, xlE ρ g = some z
  | [], w, _ => ⟨0, rfl⟩
  | (k, c) :: t, w, h => by
    simp only [xlL] at h
    split at h
    · cases h
    · rename_i r hr
      split at h
      · cases h
      · rename_i v hv
        obtain ⟨z, hz⟩ := xlv_of hS hv
        have hlt : k < ρ.length := by
          rw [← hS.1]
          exact (List.getElem?_eq_some_iff.mp hr).1
        exact ⟨_, xlE_cons (List.getElem?_eq_getElem hlt) hz⟩
/-- A CONTRACT THAT STOOD ITS TRIAL IS KEPT -/
theorem xVer_ok (hM : ∀ M ∈ xMt, xMok M) (hH : ∀ (j : Nat) (M : xMd), xMt[j]? = some M → ∀ q ∈ xHof ht j, 20 ≤ q.2.1 → xSpLaw l M q) (hT : xCtsOk l T) (hMj : xMt[j]? = some M) {f : Nat} (h0 : xVer0 T ht f j M ct cuts = true) (hC : ∀ Cu ∈ cuts, xVerC T ht f j M ct cuts Cu = true) : xCtOk l M ct := by
  intro D A ρ0 ad0 ex As d' hd'
  have hmM : M ∈ xMt := List.mem_of_getElem? hMj
  obtain ⟨hRw', hnl', hpl', hds', hcw', hiw', hk0', hk1', hk2'⟩ := hM M hmM
  refine Met.ofW (cc := M.cc) (maxL := M.nl) (ret := M.rt) hpl' rfl ?_
  intro p e s m args below meth c s₁ B hml hv2
  obtain ⟨rfl, hS0, hF0, hvals, ⟨hA, hN, hW⟩, hgl, hex⟩ := hv2
  have hts := atoms_spec (ws := Jvm.Cond.code M.yy M.cc M.nl M.rt :: xU) B.pre
  have C : xCtx p s m As.toArray c M.cc M.nl M.yy.cls := ⟨B.exec, B.bytes, hml, findClass_of_methodNamed B.named, fun w hw hgw => hts w (List.mem_cons_of_mem _ (xU_mem hw hgw)), hN⟩
  have hini : (Nat.beq M.kd 2) = true → meth.name = "<init>" := fun hk => by
    have hk2 := hk2' (Nat.eq_of_beq_eq_true hk)
    rw [(name_of_methodNamed B.named B.method).1]
    exact hk2.2.1
  have hn0 : ρ0.length = ct.1.2.1.length := hS0.1.symm
  obtain ⟨ws0, tys0, hK0, hP0, hD0, hSS0, hh0⟩ := id hW
  have had : ad0.length = ct.1.1.length := hh0.lenAd
  have hRl : 40 * ct.2.2 ≤ 40 * d' := Nat.mul_le_mul_left 40 hd'
  -- the cuts, by their measure
  have cutW : ∀ (n : Nat), ∀ Cu ∈ cuts, ∀ (ρp : List Int) (H' : Heap) (locs' : List Loc) (ls' : Array Slot), xX ρ0 ρp → xSt ρp Cu.2.2.1.2.1 → xFs ρp Cu.2.2.1.2.2.1 → xLo ρp ad0 ex M.nl (Cu.2.1.zip Cu.2.2.1.2.2.2.1) ls' → xWd D A s H' locs' ρp ad0 ex Cu.2.2.1.1 → (∀ z, xlv ρp Cu.2.2.2 = some z → z ≤ n) → W p l e { frames := d', cells := M.mc, slots := M.ms, locals := 40 * d' } s m As.toArray below meth c H' locs' 0 0 (MQ below (xQc D A ρ0 ad0 ex ct.2.1) As.toArray s M.mc M.ms A) (F0 m Cu.1 ls' []) := by
    intro n
    induction n with
    | zero =>
      intro Cu hCu ρp H' locs' ls' hX hS hF hL hw hz
      have hc := hC Cu hCu
      unfold xVerC at hc
      rw [Bool.and_eq_true] at hc
      have hm : ∃ z, xlv ρp Cu.2.2.2 = some z := by
        have := hc.1
        unfold xlPos at this
        split at this
        · rename_i w hw0
          obtain ⟨z, h1⟩ := xlv_of hS hw0
          exact ⟨_, xlv_mk h1⟩
        · cases this
      refine xFrom_ok hM hT hH hMj hc.2 C hini hA hd' hRl (Nat.le_refl _) (Nat.le_refl _) hgl hex B.returns B.notSynchronized hn0 had hX hS hF hL hw (fun m0 hm0 => by cases hm0; exact hm) (fun Cu2 hCu2 ρ2 H2 locs2 ls2 hX2 hS2 hF2 hL2 hw2 hm2 => ?_)
      obtain ⟨z, hz0⟩ := hm
      obtain ⟨z', q1, q2⟩ := hm2 _ z rfl hz0
      have hc2 := hC Cu2 hCu2
      unfold xVerC at hc2
      rw [Bool.and_eq_true] at hc2
      have := xlPos_ok hS2 hc2.1 q1
      have := hz z hz0
      exfalso
      omega
    | succ n ih =>
      intro Cu hCu ρp H' locs' ls' hX hS hF hL hw hz
      have hc := hC Cu hCu
      unfold xVerC at hc
      rw [Bool.and_eq_true] at hc
      have hm : ∃ z, xlv ρp Cu.2.2.2 = some z := by
        have := hc.1
        unfold xlPos at this
        split at this
        · rename_i w hw0
          obtain ⟨z, h1⟩ := xlv_of hS hw0
          exact ⟨_, xlv_mk h1⟩
        · cases this
      refine xFrom_ok hM hT hH hMj hc.2 C hini hA hd' hRl (Nat.le_refl _) (Nat.le_refl _) hgl hex B.returns B.notSynchronized hn0 had hX hS hF hL hw (fun m0 hm0 => by cases hm0; exact hm) (fun Cu2 hCu2 ρ2 H2 locs2 ls2 hX2 hS2 hF2 hL2 hw2 hm2 => ?_)
      obtain ⟨z, hz0⟩ := hm
      obtain ⟨z', q1, q2⟩ := hm2 _ z rfl hz0
      refine ih Cu2 hCu2 ρ2 H2 locs2 ls2 hX2 hS2 hF2 hL2 hw2 (fun z2 hz2 => ?_)
      rw [q1] at hz2
      cases hz2
      have := hz z hz0
      omega
  unfold xVer0 at h0
  rw [Bool.and_eq_true] at h0
  have hsl := xsl_len hvals
  have hl := lv_entry As (n := M.nl) (by rw [hsl]; exact Nat.le_of_ble_eq_true h0.1)
  rw [lg_entry_eq]
  refine xFrom_ok hM hT hH hMj h0.2 C hini hA hd' hRl (Nat.le_refl _) (Nat.le_refl _) hgl hex B.returns B.notSynchronized hn0 had (xX.rf ρ0) hS0 hF0 ⟨_, hl, xArgs_ok hvals⟩ hW (fun m0 hm0 => by cases hm0) (fun Cu2 hCu2 ρ2 H2 locs2 ls2 hX2 hS2 hF2 hL2 hw2 hm2 => ?_)
  have hc := hC Cu2 hCu2
  unfold xVerC at hc
  rw [Bool.and_eq_true] at hc
  have hm : ∃ z, xlv ρ2 Cu2.2.2.2 = some z := by
    have := hc.1
    unfold xlPos at this
    split at this
    · rename_i w hw0
      obtain ⟨z, h1⟩ := xlv_of hS2 hw0
      exact ⟨_, xlv_mk h1⟩
    · cases this
  obtain ⟨z, hz0⟩ := hm
  refine cutW z.toNat Cu2 hCu2 ρ2 H2 locs2 ls2 hX2 hS2 hF2 hL2 hw2 (fun z2 hz2 => ?_)
  rw [hz0] at hz2
  cases hz2
  omega
end XVO
/-- lists of kept contracts -/
theorem xTn (l : Launch) : xCtsOk l [] := fun q hq => absurd hq List.not_mem_nil
def xCk (l : Launch) (j : Nat) (c : xCt) : Prop := ∃ M, xMt[j]? = some M ∧ xCtOk l M c
theorem xTc {l : Launch} {j : Nat} {c : xCt} {T : List (Nat × xCt)} (h1 : xCk l j c) (h2 : xCtsOk l T) : xCtsOk l ((j, c) :: T) := fun q hq => by
  rcases List.mem_cons.mp hq with rfl | hq
  · exact h1
  · exact h2 q hq
