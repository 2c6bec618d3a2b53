/-! Trials cut by the regions of an argument; ends that can't fit are passed over by their facts. -/
def xRegL (σ : List xB) (k n : Nat) : List (List xB) := match xReg σ (some k, 0) n with
  | some L => L
  | none => []
theorem xRegL_ok {ρ : List Int} {σ : List xB} {k n : Nat} (hk : Nat.blt k σ.length = true) (hS : xSt ρ σ) : ∃ τ ∈ xRegL σ k n, xSt ρ τ := by
  have hk := x_blt hk
  have hk2 : k < ρ.length := by rw [← hS.1]; exact hk
  have hz : xe ρ (some k, 0) = some (ρ[k] + 0) := by
    simp only [xe]
    rw [List.getElem?_eq_getElem hk2]
  unfold xRegL
  cases hq : xReg σ (some k, 0) n with
  | some L => exact xReg_ok hq hS hz
  | none =>
    unfold xReg at hq
    split at hq
    · rename_i hr
      simp only [xrg] at hr
      rw [List.getElem?_eq_getElem hk] at hr
      cases hr
    · cases hq
/-- the facts of an end over the first symbols -/
def xQuick (n0 : Nat) (σ : List xB) (F : xF) (E : xPt) : Bool := E.2.2.1.all (fun f => f.1.any (fun q => Nat.ble n0 q.1) || xent σ F 12 f)
def xChkQ (xn n0 nc nx : Nat) (rt : Option FieldType) (E : List xPt) (cuts : List xCu) (ms : Option xLn) (o : xO2) : Bool :=
  bif Nat.ble 110 o.1.2.2.1 then xRet rt (o.1, o.2.1) && E.any (fun e => xQuick n0 o.2.1.2.1 o.2.2 e && (xFitI xn n0 nc nx o.2.1.1 o.2.1.2.1 o.2.2 o.2.1.2.2.2.1 e).isSome)
  else xChkO xn n0 nc nx rt E cuts ms o
theorem xChkQ_ok {xn n0 nc nx : Nat} {rt : Option FieldType} {E : List xPt} {cuts : List xCu} {ms : Option xLn} {o : xO2} (h : xChkQ xn n0 nc nx rt E cuts ms o = true) : xChkO xn n0 nc nx rt E cuts ms o = true := by
  unfold xChkQ at h
  cases hb : Nat.ble 110 o.1.2.2.1 with
  | false => rw [hb] at h; exact h
  | true =>
    rw [hb] at h
    simp only [cond_true, Bool.and_eq_true] at h
    unfold xChkO
    rw [hb]
    simp only [cond_true, Bool.and_eq_true]
    refine ⟨h.1, ?_⟩
    obtain ⟨e, he, hc⟩ := List.any_eq_true.mp h.2
    rw [Bool.and_eq_true] at hc
    exact List.any_eq_true.mpr ⟨e, he, hc.2⟩
def xFromQ (T : List (Nat × xCt)) (ht : List (Nat × xHl)) (f d j : Nat) (M : xMd) (c : xCt) (cuts : List xCu) (ms : Option xLn) (pc : Nat) (P : xPt) (loc : List (Nat × xV)) : Bool := match xRun2 xMt xTb T ht (20 + c.1.2.2.2.2) f 0 d none (cuts.map Prod.fst) M (xHof ht j) pc (xSeek M.pg pc) P.1 P.2.1 P.2.2.1 loc [] 0 0 with
  | none => false
  | some outs => outs.all (xChkQ (20 + c.1.2.2.2.2) c.1.2.1.length c.1.1.length c.1.2.2.2.2 M.rt c.2.1 cuts ms)
theorem xFromQ_ok {T : List (Nat × xCt)} {ht : List (Nat × xHl)} {f d j : Nat} {M : xMd} {c : xCt} {cuts : List xCu} {ms : Option xLn} {pc : Nat} {P : xPt} {loc : List (Nat × xV)} (h : xFromQ T ht f d j M c cuts ms pc P loc = true) : xFrom T ht f d j M c cuts ms pc P loc = true := by
  unfold xFromQ at h
  unfold xFrom
  split at h
  · cases h
  · rename_i outs hr
    rw [hr]
    dsimp only
    apply List.all_eq_true.mpr
    intro o ho
    exact xChkQ_ok (List.all_eq_true.mp h o ho)
section XVR
variable {l : Launch} {T : List (Nat × xCt)} {ht : List (Nat × xHl)} {j : Nat} {M : xMd} {ct : xCt} {cuts : List xCu}
/-- one region of an argument -/
def xVerR (T : List (Nat × xCt)) (ht : List (Nat × xHl)) (f j : Nat) (M : xMd) (c : xCt) (cuts : List xCu) (τ : List xB) : Bool := xFromQ T ht f c.2.2 j M c cuts none 0 (c.1.1, τ, c.1.2.2) (xArgs 0 c.1.2.2.2.1)
/-- A CONTRACT THAT STOOD ITS TRIAL, REGION BY REGION, IS KEPT -/
theorem xVer_okR (hM : ∀ M ∈ xMt, xMok M) (hH : ∀ (j : Nat) (M : xMd), xMt[j]? = some M → ∀ q ∈ xHof ht j, 20 ≤ q.2.1 → xSpLaw l M q) (hT : xCtsOk l T) (hMj : xMt[j]? = some M) {f k n : Nat} (hs : (Nat.ble (xsum ct.1.2.2.2.1) M.nl && Nat.blt k ct.1.2.1.length) = true) (h0 : ∀ τ ∈ xRegL ct.1.2.1 k n, xVerR T ht f j M ct cuts τ = true) (hC : ∀ Cu ∈ cuts, xVerC T ht f j M ct cuts Cu = true) : xCtOk l M ct := by
  intro D A ρ0 ad0 ex As d' hd'
  have hmM : M ∈ xMt := List.mem_of_getElem? hMj
  obtain ⟨hRw', hnl', hpl', hds', hcw', hiw', hk0', hk1', hk2'⟩ := hM M hmM
  refine Met.ofW (cc := M.cc) (maxL := M.nl) (ret := M.rt) hpl' rfl ?_
  intro p e s m args below meth c s₁ B hml hv2
  obtain ⟨rfl, hS0, hF0, hvals, ⟨hA, hN, hW⟩, hgl, hex⟩ := hv2
  have hts := atoms_spec (ws := Jvm.Cond.code M.yy M.cc M.nl M.rt :: xU) B.pre
  have C : xCtx p s m As.toArray c M.cc M.nl M.yy.cls := ⟨B.exec, B.bytes, hml, findClass_of_methodNamed B.named, fun w hw hgw => hts w (List.mem_cons_of_mem _ (xU_mem hw hgw)), hN⟩
  have hini : (Nat.beq M.kd 2) = true → meth.name = "<init>" := fun hk => by
    have hk2 := hk2' (Nat.eq_of_beq_eq_true hk)
    rw [(name_of_methodNamed B.named B.method).1]
    exact hk2.2.1
  have hn0 : ρ0.length = ct.1.2.1.length := hS0.1.symm
  obtain ⟨ws0, tys0, hK0, hP0, hD0, hSS0, hh0⟩ := id hW
  have had : ad0.length = ct.1.1.length := hh0.lenAd
  have hRl : 40 * ct.2.2 ≤ 40 * d' := Nat.mul_le_mul_left 40 hd'
  have hm : ∀ Cu ∈ cuts, ∀ ρp, xSt ρp Cu.2.2.1.2.1 → ∃ z, xlv ρp Cu.2.2.2 = some z := fun Cu hCu ρp hS => by
    have hc := hC Cu hCu
    unfold xVerC at hc
    rw [Bool.and_eq_true] at hc
    have := hc.1
    unfold xlPos at this
    split at this
    · rename_i w hw0
      obtain ⟨z, h1⟩ := xlv_of hS hw0
      exact ⟨_, xlv_mk h1⟩
    · cases this
  have cutW : ∀ (n : Nat), ∀ Cu ∈ cuts, ∀ (ρp : List Int) (H' : Heap) (locs' : List Loc) (ls' : Array Slot), xX ρ0 ρp → xSt ρp Cu.2.2.1.2.1 → xFs ρp Cu.2.2.1.2.2.1 → xLo ρp ad0 ex M.nl (Cu.2.1.zip Cu.2.2.1.2.2.2.1) ls' → xWd D A s H' locs' ρp ad0 ex Cu.2.2.1.1 → (∀ z, xlv ρp Cu.2.2.2 = some z → z ≤ n) → W p l e { frames := d', cells := M.mc, slots := M.ms, locals := 40 * d' } s m As.toArray below meth c H' locs' 0 0 (MQ below (xQc D A ρ0 ad0 ex ct.2.1) As.toArray s M.mc M.ms A) (F0 m Cu.1 ls' []) := by
    intro n
    induction n with
    | zero =>
      intro Cu hCu ρp H' locs' ls' hX hS hF hL hw hz
      have hc := hC Cu hCu
      unfold xVerC at hc
      rw [Bool.and_eq_true] at hc
      refine xFrom_ok hM hT hH hMj hc.2 C hini hA hd' hRl (Nat.le_refl _) (Nat.le_refl _) hgl hex B.returns B.notSynchronized hn0 had hX hS hF hL hw (fun m0 hm0 => by cases hm0; exact hm Cu hCu ρp hS) (fun Cu2 hCu2 ρ2 H2 locs2 ls2 hX2 hS2 hF2 hL2 hw2 hm2 => ?_)
      obtain ⟨z, hz0⟩ := hm Cu hCu ρp hS
      obtain ⟨z', q1, q2⟩ := hm2 _ z rfl hz0
      have hc2 := hC Cu2 hCu2
      unfold xVerC at hc2
      rw [Bool.and_eq_true] at hc2
      have := xlPos_ok hS2 hc2.1 q1
      have := hz z hz0
      exfalso
      omega
    | succ n ih =>
      intro Cu hCu ρp H' locs' ls' hX hS hF hL hw hz
      have hc := hC Cu hCu
      unfold xVerC at hc
      rw [Bool.and_eq_true] at hc
      refine xFrom_ok hM hT hH hMj hc.2 C hini hA hd' hRl (Nat.le_refl _) (Nat.le_refl _) hgl hex B.returns B.notSynchronized hn0 had hX hS hF hL hw (fun m0 hm0 => by cases hm0; exact hm Cu hCu ρp hS) (fun Cu2 hCu2 ρ2 H2 locs2 ls2 hX2 hS2 hF2 hL2 hw2 hm2 => ?_)
      obtain ⟨z, hz0⟩ := hm Cu hCu ρp hS
      obtain ⟨z', q1, q2⟩ := hm2 _ z rfl hz0
      refine ih Cu2 hCu2 ρ2 H2 locs2 ls2 hX2 hS2 hF2 hL2 hw2 (fun z2 hz2 => ?_)
      rw [q1] at hz2
      cases hz2
      have := hz z hz0
      omega
  rw [Bool.and_eq_true] at hs
  obtain ⟨τ, hτ, hSτ⟩ := xRegL_ok (n := n) hs.2 hS0
  have h0 := xFromQ_ok (h0 τ hτ)
  have hsl := xsl_len hvals
  have hl := lv_entry As (n := M.nl) (by rw [hsl]; exact Nat.le_of_ble_eq_true hs.1)
  rw [lg_entry_eq]
  refine xFrom_ok hM hT hH hMj h0 C hini hA hd' hRl (Nat.le_refl _) (Nat.le_refl _) hgl hex B.returns B.notSynchronized hn0 had (xX.rf ρ0) hSτ hF0 ⟨_, hl, xArgs_ok hvals⟩ hW (fun m0 hm0 => by cases hm0) (fun Cu2 hCu2 ρ2 H2 locs2 ls2 hX2 hS2 hF2 hL2 hw2 hm2 => ?_)
  obtain ⟨z, hz0⟩ := hm Cu2 hCu2 ρ2 hS2
  refine cutW z.toNat Cu2 hCu2 ρ2 H2 locs2 ls2 hX2 hS2 hF2 hL2 hw2 (fun z2 hz2 => ?_)
  rw [hz0] at hz2
  cases hz2
  omega
end XVR
