/-! Contracts, printed by a program: part 11. -/
def xVerRs (T : List (Nat × xCt)) (ht : List (Nat × xHl)) (f j : Nat) (M : xMd) (c : xCt) (cuts : List xCu) (es cs : List Nat) (τ : List xB) : Bool := xFromS T ht f c.2.2 j M c cuts es cs none 0 (c.1.1, τ, c.1.2.2) (xArgs 0 c.1.2.2.2.1)
noncomputable def zVerRs (T : List (Nat × xCt)) (ht : List (Nat × xHl)) (f j : Nat) (M : xMd) (c : xCt) (cuts : List xCu) (es cs : List Nat) (τ : List xB) : Bool := zFromS T ht f c.2.2 j M c cuts es cs none 0 (c.1.1, τ, c.1.2.2) (xArgs 0 c.1.2.2.2.1)
theorem zVerRs_eq : @zVerRs = @xVerRs := by
  delta zVerRs xVerRs
  simp only [zFromS_eq] <;> rfl
theorem xRgO {α : Type} {L : List α} {f : α → Bool} {P : α → Prop} (hf : ∀ x, f x = true → P x) (h : L.all f = true) : ∀ x ∈ L, P x := fun x hx => hf x (List.all_eq_true.mp h x hx)
theorem xRgS {α : Type} {P : α → Prop} {l : List α} (a n : Nat) (h1 : ∀ x ∈ (l.drop a).take n, P x) (h2 : ∀ x ∈ l.drop (a + n), P x) : ∀ x ∈ l.drop a, P x := by
  intro x hx
  rw [← List.take_append_drop n (l.drop a), List.drop_drop] at hx
  rcases List.mem_append.mp hx with h | h
  · exact h1 x h
  · exact h2 x h
theorem xRgZ {α : Type} {P : α → Prop} {l : List α} {a : Nat} (h : Nat.ble l.length a = true) : ∀ x ∈ l.drop a, P x := by
  rw [List.drop_of_length_le (Nat.le_of_ble_eq_true h)]
  intro x hx
  exact absurd hx List.not_mem_nil
theorem xRg0 {α : Type} {P : α → Prop} {l : List α} (h : ∀ x ∈ l.drop 0, P x) : ∀ x ∈ l, P x := by simpa using h
theorem xVer_okRU {l : Launch} {T : List (Nat × xCt)} {ht : List (Nat × xHl)} {j : Nat} {M : xMd} {ct : xCt} {cuts : List xCu} (hM : ∀ M ∈ xMt, xMok M) (hH : ∀ (j : Nat) (M : xMd), xMt[j]? = some M → ∀ q ∈ xHof ht j, 20 ≤ q.2.1 → xSpLaw l M q) (hT : xCtsOk l T) (hMj : xMt[j]? = some M) {f k n : Nat} (hs : (Nat.ble (xsum ct.1.2.2.2.1) M.nl && Nat.blt k ct.1.2.1.length) = true) (h0 : ∀ τ ∈ xRegL ct.1.2.1 k n, ∃ T' : List (Nat × xCt), xCtsOk l T' ∧ xFrom T' ht f ct.2.2 j M ct cuts none 0 (ct.1.1, τ, ct.1.2.2) (xArgs 0 ct.1.2.2.2.1) = true) (hC : ∀ Cu ∈ cuts, xVerC T ht f j M ct cuts Cu = true) : xCtOk l M ct := by
  intro D A ρ0 ad0 ex As d' hd'
  have hmM : M ∈ xMt := List.mem_of_getElem? hMj
  obtain ⟨hRw', hnl', hpl', hds', hcw', hiw', hk0', hk1', hk2'⟩ := hM M hmM
  refine Met.ofW (cc := M.cc) (maxL := M.nl) (ret := M.rt) hpl' rfl ?_
  intro p e s m args below meth c s₁ B hml hv2
  obtain ⟨rfl, hS0, hF0, hvals, ⟨hA, hN, hW⟩, hgl, hex⟩ := hv2
  have hts := atoms_spec (ws := Jvm.Cond.code M.yy M.cc M.nl M.rt :: xU) B.pre
  have C : xCtx p s m As.toArray c M.cc M.nl M.yy.cls := ⟨B.exec, B.bytes, hml, findClass_of_methodNamed B.named, fun w hw hgw => hts w (List.mem_cons_of_mem _ (xU_mem hw hgw)), hN⟩
  have hini : (Nat.beq M.kd 2) = true → meth.name = "<init>" := fun hk => by
    have hk2 := hk2' (Nat.eq_of_beq_eq_true hk)
    rw [(name_of_methodNamed B.named B.method).1]
    exact hk2.2.1
  have hn0 : ρ0.length = ct.1.2.1.length := hS0.1.symm
  obtain ⟨ws0, tys0, hK0, hP0, hD0, hSS0, hh0⟩ := id hW
  have had : ad0.length = ct.1.1.length := hh0.lenAd
  have hRl : 40 * ct.2.2 ≤ 40 * d' := Nat.mul_le_mul_left 40 hd'
  have hm : ∀ Cu ∈ cuts, ∀ ρp, xSt ρp Cu.2.2.1.2.1 → ∃ z, xlv ρp Cu.2.2.2 = some z := fun Cu hCu ρp hS => by
    have hc := hC Cu hCu
    unfold xVerC at hc
    rw [Bool.and_eq_true] at hc
    have := hc.1
    unfold xlPos at this
    split at this
    · rename_i w hw0
      obtain ⟨z, h1⟩ := xlv_of hS hw0
      exact ⟨_, xlv_mk h1⟩
    · cases this
  have cutW : ∀ (n : Nat), ∀ Cu ∈ cuts, ∀ (ρp : List Int) (H' : Heap) (locs' : List Loc) (ls' : Array Slot), xX ρ0 ρp → xSt ρp Cu.2.2.1.2.1 → xFs ρp Cu.2.2.1.2.2.1 → xLo ρp ad0 ex M.nl (Cu.2.1.zip Cu.2.2.1.2.2.2.1) ls' → xWd D A s H' locs' ρp ad0 ex Cu.2.2.1.1 → (∀ z, xlv ρp Cu.2.2.2 = some z → z ≤ n) → W p l e { frames := d', cells := M.mc, slots := M.ms, locals := 40 * d' } s m As.toArray below meth c H' locs' 0 0 (MQ below (xQc D A ρ0 ad0 ex ct.2.1) As.toArray s M.mc M.ms A) (F0 m Cu.1 ls' []) := by
    intro n
    induction n with
    | zero =>
      intro Cu hCu ρp H' locs' ls' hX hS hF hL hw hz
      have hc := hC Cu hCu
      unfold xVerC at hc
      rw [Bool.and_eq_true] at hc
      refine xFrom_ok hM hT hH hMj hc.2 C hini hA hd' hRl (Nat.le_refl _) (Nat.le_refl _) hgl hex B.returns B.notSynchronized hn0 had hX hS hF hL hw (fun m0 hm0 => by cases hm0; exact hm Cu hCu ρp hS) (fun Cu2 hCu2 ρ2 H2 locs2 ls2 hX2 hS2 hF2 hL2 hw2 hm2 => ?_)
      obtain ⟨z, hz0⟩ := hm Cu hCu ρp hS
      obtain ⟨z', q1, q2⟩ := hm2 _ z rfl hz0
      have hc2 := hC Cu2 hCu2
      unfold xVerC at hc2
      rw [Bool.and_eq_true] at hc2
      have := xlPos_ok hS2 hc2.1 q1
      have := hz z hz0
      exfalso
      omega
    | succ n ih =>
      intro Cu hCu ρp H' locs' ls' hX hS hF hL hw hz
      have hc := hC Cu hCu
      unfold xVerC at hc
      rw [Bool.and_eq_true] at hc
      refine xFrom_ok hM hT hH hMj hc.2 C hini hA hd' hRl (Nat.le_refl _) (Nat.le_refl _) hgl hex B.returns B.notSynchronized hn0 had hX hS hF hL hw (fun m0 hm0 => by cases hm0; exact hm Cu hCu ρp hS) (fun Cu2 hCu2 ρ2 H2 locs2 ls2 hX2 hS2 hF2 hL2 hw2 hm2 => ?_)
      obtain ⟨z, hz0⟩ := hm Cu hCu ρp hS
      obtain ⟨z', q1, q2⟩ := hm2 _ z rfl hz0
      refine ih Cu2 hCu2 ρ2 H2 locs2 ls2 hX2 hS2 hF2 hL2 hw2 (fun z2 hz2 => ?_)
      rw [q1] at hz2
      cases hz2
      have := hz z hz0
      omega
  rw [Bool.and_eq_true] at hs
  obtain ⟨τ, hτ, hSτ⟩ := xRegL_ok (n := n) hs.2 hS0
  obtain ⟨T', hT', h0⟩ := h0 τ hτ
  have hsl := xsl_len hvals
  have hl := lv_entry As (n := M.nl) (by rw [hsl]; exact Nat.le_of_ble_eq_true hs.1)
  rw [lg_entry_eq]
  refine xFrom_ok hM hT' hH hMj h0 C hini hA hd' hRl (Nat.le_refl _) (Nat.le_refl _) hgl hex B.returns B.notSynchronized hn0 had (xX.rf ρ0) hSτ hF0 ⟨_, hl, xArgs_ok hvals⟩ hW (fun m0 hm0 => by cases hm0) (fun Cu2 hCu2 ρ2 H2 locs2 ls2 hX2 hS2 hF2 hL2 hw2 hm2 => ?_)
  obtain ⟨z, hz0⟩ := hm Cu2 hCu2 ρ2 hS2
  refine cutW z.toNat Cu2 hCu2 ρ2 H2 locs2 ls2 hX2 hS2 hF2 hL2 hw2 (fun z2 hz2 => ?_)
  rw [hz0] at hz2
  cases hz2
  omega
def kc406 : xC := kO 9 [kX 20, kI 2, kR 1, kX 21, kX 22, kX 23, kI 3, kR 13, kR 22, kX 24, kX 25, kX 26, kR 31, kX 27]
def kc407 : xC := kO 2 [kI 4, kI 5, kR 2, kR 3, kR 4, kR 5, kR 6, kR 7, kR 8, kR 9, kI 6, kR 10, kR 11, kR 12, kI 7]
def kc408 : xC := kQr 4 [some 14, some 16, some 18, some 20]
def kc409 : xC := kO 4 [kI 9, kI 10, kR 15]
def kc410 : xC := kO 4 [kI 11, kI 12, kR 17]
def kc411 : xC := kO 4 [kI 13, kI 14, kR 19]
def kc412 : xC := kO 4 [kI 15, kI 16, kR 21]
def kc413 : xC := kO 6 [kR 1, kR 23, kR 24, kR 25, kR 26, kI 17, kI 18, kR 27, kR 28, kR 29, kR 30]
def kc414 : xC := kO 7 [kR 1, kR 22, kI 19, kI 20, kI 21, kI 22, kI 23, kR 32]
def kc415 : xC := kO 6 [kR 1, kR 23, kR 24, kR 25, kR 26, kI 24, kIc 0, kR 27, kR 28, kR 29, kR 30]
def kc416 : xC := kO 7 [kR 1, kR 22, kI 25, kI 26, kI 27, kI 28, kI 29, kR 32]
def xc_174 : xCt := (([kc406, kc407, kc90, kc13, kc20, kc31, kc14, kc21, kc22, kc23, kc15, kc4, kc5, kc408, kc409, kc2, kc410, kc2, kc411, kc2, kc412, kc2, kc413, kc14, kc14, kc16, kc0, kc28, kc23, kc23, kc14, kc414, kc23], [kA3, kA3, (0, 800), kA3, kA3, (0, 6), (0, 30), kA3, (0, 24), kA3, ((-1), 60), kA3, ((-1), 60), kA3, ((-1), 60), kA3, ((-1), 60), kA3, kA3, kA3, kA3, kA3, kA3, kA3], [([(8, 6), (5, (-1))], 0)], [kR 0, kI 0, kI 1], 8), [([kc406, kc407, kc90, kc13, kc20, kc31, kc14, kc21, kc22, kc23, kc15, kc4, kc5, kc408, kc409, kc2, kc410, kc2, kc411, kc2, kc412, kc2, kc413, kc14, kc14, kc16, kc0, kc28, kc23, kc23, kc14, kc414, kc23], [kA3, kA3, (0, 800), kA3, kA3, (0, 6), (0, 30), kA3, (0, 24), kA3, ((-1), 60), kA3, ((-1), 60), kA3, ((-1), 60), kA3, ((-1), 60), kA3, kA3, kA3, kA3, kA3, kA3, kA3], [], [kIc (-2)], 8), ([kc406, kc407, kc90, kc13, kc20, kc31, kc14, kc21, kc22, kc23, kc15, kc4, kc5, kc408, kc409, kc2, kc410, kc2, kc411, kc2, kc412, kc2, kc413, kc14, kc14, kc16, kc0, kc28, kc23, kc23, kc14, kc414, kc23], [kA3, kA3, (0, 800), kA3, kA3, (0, 6), (0, 30), kA3, (0, 24), kA3, ((-1), 60), kA3, ((-1), 60), kA3, ((-1), 60), kA3, ((-1), 60), kA3, kA3, kA3, kA3, kA3, kA3, kA3], [], [kIc (-6)], 8), ([kc406, kc407, kc90, kc13, kc20, kc31, kc14, kc21, kc22, kc23, kc15, kc4, kc5, kc408, kc409, kc2, kc410, kc2, kc411, kc2, kc412, kc2, kc415, kc14, kc14, kc16, kc0, kc28, kc23, kc23, kc14, kc416, kc23], [kA3, kA3, (0, 800), kA3, kA3, (0, 6), (0, 30), kA3, (0, 24), kA3, ((-1), 60), kA3, ((-1), 60), kA3, ((-1), 60), kA3, ((-1), 60), kA3, kA3, kA3, kA3, kA3, kA3, kA3, kA3, kA3, kA3, kA3, kA3, kA3], [], [kIc 0], 8)], 5)
def xu_174 : List xCu := []
def xT_174 : List (Nat × xCt) := []
theorem xs_174 : (Nat.ble (xsum xc_174.1.2.2.2.1) xm_X9_sight.nl && Nat.blt 0 xc_174.1.2.1.length) = true := by decide +kernel
def xT_174_0 : List (Nat × xCt) := []
theorem xv_174_0 : (((xRegL xc_174.1.2.1 0 3).drop 0).take 1).all (xVerRs xT_174_0 xHt 100000 148 xm_X9_sight xc_174 xu_174 [0] []) = true := by
  rw [← zRegL_eq, ← zVerRs_eq]
  decide +kernel
def xT_174_1 : List (Nat × xCt) := [(84, xc_42), (86, xc_45), (86, xc_47), (86, xc_49), (86, xc_51), (86, xc_53), (86, xc_55), (86, xc_57), (86, xc_59), (86, xc_61), (86, xc_63), (86, xc_65), (86, xc_67), (86, xc_69), (86, xc_71), (86, xc_73), (86, xc_75), (86, xc_77), (86, xc_79), (86, xc_81), (86, xc_83), (86, xc_85), (86, xc_87), (86, xc_89), (86, xc_91), (86, xc_93), (86, xc_95), (86, xc_97), (86, xc_99), (86, xc_101), (86, xc_103), (86, xc_105)]
theorem xv_174_1 : (((xRegL xc_174.1.2.1 0 3).drop 1).take 1).all (xVerRs xT_174_1 xHt 100000 148 xm_X9_sight xc_174 xu_174 [0, 1, 2] []) = true := by
  rw [← zRegL_eq, ← zVerRs_eq]
  decide +kernel
def xT_174_2 : List (Nat × xCt) := [(84, xc_42), (86, xc_45), (86, xc_47), (86, xc_49), (86, xc_51), (86, xc_53), (86, xc_55), (86, xc_57), (86, xc_59), (86, xc_61), (86, xc_63), (86, xc_65), (86, xc_67), (86, xc_69), (86, xc_71), (86, xc_73), (86, xc_75), (86, xc_77), (86, xc_79), (86, xc_81), (86, xc_83), (86, xc_85), (86, xc_87), (86, xc_89), (86, xc_91), (86, xc_93), (86, xc_95), (86, xc_97), (86, xc_99), (86, xc_101), (86, xc_103), (86, xc_105)]
theorem xv_174_2 : (((xRegL xc_174.1.2.1 0 3).drop 2).take 1).all (xVerRs xT_174_2 xHt 100000 148 xm_X9_sight xc_174 xu_174 [0, 1, 2] []) = true := by
  rw [← zRegL_eq, ← zVerRs_eq]
  decide +kernel
def xT_174_3 : List (Nat × xCt) := [(84, xc_42), (86, xc_45), (86, xc_47), (86, xc_49), (86, xc_51), (86, xc_53), (86, xc_55), (86, xc_57), (86, xc_59), (86, xc_61), (86, xc_63), (86, xc_65), (86, xc_67), (86, xc_69), (86, xc_71), (86, xc_73), (86, xc_75), (86, xc_77), (86, xc_79), (86, xc_81), (86, xc_83), (86, xc_85), (86, xc_87), (86, xc_89), (86, xc_91), (86, xc_93), (86, xc_95), (86, xc_97), (86, xc_99), (86, xc_101), (86, xc_103), (86, xc_105)]
theorem xv_174_3 : (((xRegL xc_174.1.2.1 0 3).drop 3).take 1).all (xVerRs xT_174_3 xHt 100000 148 xm_X9_sight xc_174 xu_174 [0, 1, 2] []) = true := by
  rw [← zRegL_eq, ← zVerRs_eq]
  decide +kernel
def xT_174_4 : List (Nat × xCt) := [(84, xc_42), (86, xc_45), (86, xc_47), (86, xc_49), (86, xc_51), (86, xc_53), (86, xc_55), (86, xc_57), (86, xc_59), (86, xc_61), (86, xc_63), (86, xc_65), (86, xc_67), (86, xc_69), (86, xc_71), (86, xc_73), (86, xc_75), (86, xc_77), (86, xc_79), (86, xc_81), (86, xc_83), (86, xc_85), (86, xc_87), (86, xc_89), (86, xc_91), (86, xc_93), (86, xc_95), (86, xc_97), (86, xc_99), (86, xc_101), (86, xc_103), (86, xc_105)]
theorem xv_174_4 : (((xRegL xc_174.1.2.1 0 3).drop 4).take 1).all (xVerRs xT_174_4 xHt 100000 148 xm_X9_sight xc_174 xu_174 [0, 1, 2] []) = true := by
  rw [← zRegL_eq, ← zVerRs_eq]
  decide +kernel
def xT_174_5 : List (Nat × xCt) := []
theorem xv_174_5 : (((xRegL xc_174.1.2.1 0 3).drop 5).take 1).all (xVerRs xT_174_5 xHt 100000 148 xm_X9_sight xc_174 xu_174 [0] []) = true := by
  rw [← zRegL_eq, ← zVerRs_eq]
  decide +kernel
theorem xok_174 (l : Launch) : xCk l 148 xc_174 := ⟨xm_X9_sight, rfl, xVer_okRU xk_all (xHt_ok l) (T := xT_174) (xTn l) rfl (f := 100000) (k := 0) (n := 3) (cuts := xu_174) xs_174 (xRg0 (xRgS 0 1 (xRgO (fun τ h => ⟨xT_174_0, xTn l, xFromS_ok h⟩) xv_174_0) (xRgS 1 1 (xRgO (fun τ h => ⟨xT_174_1, xTc (xok_42 l) (xTc (xok_45 l) (xTc (xok_47 l) (xTc (xok_49 l) (xTc (xok_51 l) (xTc (xok_53 l) (xTc (xok_55 l) (xTc (xok_57 l) (xTc (xok_59 l) (xTc (xok_61 l) (xTc (xok_63 l) (xTc (xok_65 l) (xTc (xok_67 l) (xTc (xok_69 l) (xTc (xok_71 l) (xTc (xok_73 l) (xTc (xok_75 l) (xTc (xok_77 l) (xTc (xok_79 l) (xTc (xok_81 l) (xTc (xok_83 l) (xTc (xok_85 l) (xTc (xok_87 l) (xTc (xok_89 l) (xTc (xok_91 l) (xTc (xok_93 l) (xTc (xok_95 l) (xTc (xok_97 l) (xTc (xok_99 l) (xTc (xok_101 l) (xTc (xok_103 l) (xTc (xok_105 l) (xTn l)))))))))))))))))))))))))))))))), xFromS_ok h⟩) xv_174_1) (xRgS 2 1 (xRgO (fun τ h => ⟨xT_174_2, xTc (xok_42 l) (xTc (xok_45 l) (xTc (xok_47 l) (xTc (xok_49 l) (xTc (xok_51 l) (xTc (xok_53 l) (xTc (xok_55 l) (xTc (xok_57 l) (xTc (xok_59 l) (xTc (xok_61 l) (xTc (xok_63 l) (xTc (xok_65 l) (xTc (xok_67 l) (xTc (xok_69 l) (xTc (xok_71 l) (xTc (xok_73 l) (xTc (xok_75 l) (xTc (xok_77 l) (xTc (xok_79 l) (xTc (xok_81 l) (xTc (xok_83 l) (xTc (xok_85 l) (xTc (xok_87 l) (xTc (xok_89 l) (xTc (xok_91 l) (xTc (xok_93 l) (xTc (xok_95 l) (xTc (xok_97 l) (xTc (xok_99 l) (xTc (xok_101 l) (xTc (xok_103 l) (xTc (xok_105 l) (xTn l)))))))))))))))))))))))))))))))), xFromS_ok h⟩) xv_174_2) (xRgS 3 1 (xRgO (fun τ h => ⟨xT_174_3, xTc (xok_42 l) (xTc (xok_45 l) (xTc (xok_47 l) (xTc (xok_49 l) (xTc (xok_51 l) (xTc (xok_53 l) (xTc (xok_55 l) (xTc (xok_57 l) (xTc (xok_59 l) (xTc (xok_61 l) (xTc (xok_63 l) (xTc (xok_65 l) (xTc (xok_67 l) (xTc (xok_69 l) (xTc (xok_71 l) (xTc (xok_73 l) (xTc (xok_75 l) (xTc (xok_77 l) (xTc (xok_79 l) (xTc (xok_81 l) (xTc (xok_83 l) (xTc (xok_85 l) (xTc (xok_87 l) (xTc (xok_89 l) (xTc (xok_91 l) (xTc (xok_93 l) (xTc (xok_95 l) (xTc (xok_97 l) (xTc (xok_99 l) (xTc (xok_101 l) (xTc (xok_103 l) (xTc (xok_105 l) (xTn l)))))))))))))))))))))))))))))))), xFromS_ok h⟩) xv_174_3) (xRgS 4 1 (xRgO (fun τ h => ⟨xT_174_4, xTc (xok_42 l) (xTc (xok_45 l) (xTc (xok_47 l) (xTc (xok_49 l) (xTc (xok_51 l) (xTc (xok_53 l) (xTc (xok_55 l) (xTc (xok_57 l) (xTc (xok_59 l) (xTc (xok_61 l) (xTc (xok_63 l) (xTc (xok_65 l) (xTc (xok_67 l) (xTc (xok_69 l) (xTc (xok_71 l) (xTc (xok_73 l) (xTc (xok_75 l) (xTc (xok_77 l) (xTc (xok_79 l) (xTc (xok_81 l) (xTc (xok_83 l) (xTc (xok_85 l) (xTc (xok_87 l) (xTc (xok_89 l) (xTc (xok_91 l) (xTc (xok_93 l) (xTc (xok_95 l) (xTc (xok_97 l) (xTc (xok_99 l) (xTc (xok_101 l) (xTc (xok_103 l) (xTc (xok_105 l) (xTn l)))))))))))))))))))))))))))))))), xFromS_ok h⟩) xv_174_4) (xRgS 5 1 (xRgO (fun τ h => ⟨xT_174_5, xTn l, xFromS_ok h⟩) xv_174_5) (xRgZ (by decide +kernel))))))))) (fun Cu h => absurd h List.not_mem_nil)⟩
def kc417 : xC := kO 9 [kR 1, kI 8, kX 20, kX 21, kX 22, kX 23, kI 6, kX 24, kX 25, kX 26, kX 27, kX 28, kX 29, kX 30]
def kc418 : xC := kO 9 [kR 1, kI 5, kX 20, kX 21, kX 22, kX 23, kI 6, kX 24, kX 25, kX 26, kX 27, kX 28, kX 29, kX 30]
def xc_175 : xCt := (([kc418, kc218], [kA3, kA3, kA3, kA3, kA3, (0, 800), kA3], [], [kR 0, kI 0, kI 1, kI 2, kI 3, kI 4], 11), [([kc417, kc218], [kA3, kA3, kA3, kA3, kA3, (0, 800), kA3, ((-1), 800), (0, 800)], [], [kI 7], 11)], 1)
def xu_175 : List xCu := []
def xT_175 : List (Nat × xCt) := []
theorem xv_175 : xVer0 xT_175 xHt 100000 100 xm_X9_feed xc_175 xu_175 = true := by
  rw [← zVer0_eq]
  decide +kernel
theorem xok_175 (l : Launch) : xCk l 100 xc_175 := ⟨xm_X9_feed, rfl, xVer_ok xk_all (xHt_ok l) (T := xT_175) (xTn l) rfl (f := 100000) (cuts := xu_175) xv_175 (fun Cu h => absurd h List.not_mem_nil)⟩
def kc419 : xC := kO 9 [kX 20, kI 4, kX 21, kX 22, kX 23, kX 24, kI 2, kX 25, kX 26, kX 27, kX 28, kX 29, kX 30, kX 31]
def kc420 : xC := kO 9 [kX 20, kI 1, kX 21, kX 22, kX 23, kX 24, kI 2, kX 25, kX 26, kX 27, kX 28, kX 29, kX 30, kX 31]
def xc_176 : xCt := (([kc420], [kA3, (0, 800), kA3], [], [kR 0, kI 0], 12), [([kc419], [kA3, (0, 800), kA3, ((-1), 800), (0, 800)], [], [kI 3], 12)], 0)
def xu_176 : List xCu := []
def xT_176 : List (Nat × xCt) := []
theorem xv_176 : xVer0 xT_176 xHt 100000 102 xm_X9_end xc_176 xu_176 = true := by
  rw [← zVer0_eq]
  decide +kernel
theorem xok_176 (l : Launch) : xCk l 102 xc_176 := ⟨xm_X9_end, rfl, xVer_ok xk_all (xHt_ok l) (T := xT_176) (xTn l) rfl (f := 100000) (cuts := xu_176) xv_176 (fun Cu h => absurd h List.not_mem_nil)⟩
def kc421 : xC := kO 9 [kR 1, kI 23, kR 2, kR 14, kR 26, kX 20, kI 1, kX 21, kX 22, kX 23, kX 24, kX 25, kX 26, kX 27]
def kc422 : xC := kO 2 [kI 24, kI 25, kR 3, kR 4, kR 5, kR 6, kR 7, kR 8, kR 9, kR 10, kI 26, kR 11, kR 12, kR 13, kI 27]
def kc423 : xC := kO 2 [kI 29, kI 30, kR 15, kR 16, kR 17, kR 18, kR 19, kR 20, kR 21, kR 22, kIc 0, kR 23, kR 24, kR 25, kI 31]
def kc424 : xC := kAr 0 6 [(1, kS 32), (5, kB3)]
def kc425 : xC := kO 3 [kR 1, kI 0, kI 33, kI 34, kI 35, kI 36, kI 37, kI 38, kI 39, kI 40, kI 41]
def kc426 : xC := kO 9 [kR 1, kI 0, kR 2, kR 14, kR 26, kX 20, kI 1, kX 21, kX 22, kX 23, kX 24, kX 25, kX 26, kX 27]
def kc427 : xC := kO 2 [kI 2, kI 3, kR 3, kR 4, kR 5, kR 6, kR 7, kR 8, kR 9, kR 10, kI 4, kR 11, kR 12, kR 13, kI 5]
def kc428 : xC := kO 2 [kI 7, kI 8, kR 15, kR 16, kR 17, kR 18, kR 19, kR 20, kR 21, kR 22, kI 9, kR 23, kR 24, kR 25, kI 10]
def kc429 : xC := kO 3 [kR 1, kI 12, kI 13, kI 14, kI 15, kI 16, kI 17, kI 18, kI 19, kI 20, kI 21]
def xc_177 : xCt := (([kc426, kc218, kc427, kc12, kc13, kc20, kc31, kc14, kc21, kc22, kc23, kc15, kc4, kc5, kc428, kc108, kc13, kc20, kc31, kc14, kc21, kc22, kc23, kc15, kc4, kc5, kc429], [(0, 800), kA3, kA3, (0, 6), (0, 30), kA3, (0, 24), kA3, (0, 6), (0, 30), kA3, (0, 24), (0, 800), (0, 800), kA3, (0, 800), kA3, kA3, kA3, kA3, kA3, kA3], [([(6, 6), (3, (-1))], 0)], [kR 0], 8), [([kc421, kc218, kc422, kc378, kc13, kc20, kc31, kc14, kc21, kc22, kc23, kc15, kc4, kc5, kc423, kc424, kc13, kc20, kc31, kc14, kc21, kc22, kc23, kc15, kc4, kc5, kc425], [(0, 800), kA3, kA3, (0, 6), (0, 30), kA3, (0, 24), kA3, (0, 6), (0, 30), kA3, (0, 24), (0, 800), (0, 800), kA3, (0, 800), kA3, kA3, kA3, kA3, kA3, kA3, kA3, (0, 800), kA3, (0, 6), (0, 30), kA3, (0, 24), kA3, (0, 6), kA3, (0, 24), (0, 800), kA3, (0, 800), kA3, kA3, kA3, kA3, kA3, kA3], [([(28, 6), (25, (-1))], 0)], [kI 22], 8)], 12)
def xu_177 : List xCu := []
def xT_177 : List (Nat × xCt) := [(29, xc_173)]
theorem xv_177 : xVer0 xT_177 xHt 100000 103 xm_X9_garrison xc_177 xu_177 = true := by
  rw [← zVer0_eq]
  decide +kernel
theorem xok_177 (l : Launch) : xCk l 103 xc_177 := ⟨xm_X9_garrison, rfl, xVer_ok xk_all (xHt_ok l) (T := xT_177) (xTc (xok_173 l) (xTn l)) rfl (f := 100000) (cuts := xu_177) xv_177 (fun Cu h => absurd h List.not_mem_nil)⟩
def kc430 : xC := kO 9 [kX 20, kI 1, kX 21, kX 22, kR 1, kX 23, kI 2, kX 24, kX 25, kX 26, kX 27, kX 28, kX 29, kX 30]
def kc431 : xC := kO 3 [kX 20, kI 3, kI 4, kI 5, kI 6, kI 7, kI 8, kI 9, kI 10, kI 11, kI 12]
def xc_178 : xCt := (([kc430, kc431], [kA3, (0, 800), kA3, (0, 800), (0, 800), kA3, (0, 800), kA3, kA3, kA3, kA3, kA3, kA3], [], [kR 0, kI 0], 11), [([kc430, kc431], [kA3, (0, 800), kA3, (0, 800), (0, 800), kA3, (0, 800), kA3, kA3, kA3, kA3, kA3, kA3, kA3], [], [kI 13], 11)], 0)
def xu_178 : List xCu := []
def xT_178 : List (Nat × xCt) := []
theorem xv_178 : xVer0 xT_178 xHt 100000 104 xm_X9_fault xc_178 xu_178 = true := by
  rw [← zVer0_eq]
  decide +kernel
theorem xok_178 (l : Launch) : xCk l 104 xc_178 := ⟨xm_X9_fault, rfl, xVer_ok xk_all (xHt_ok l) (T := xT_178) (xTn l) rfl (f := 100000) (cuts := xu_178) xv_178 (fun Cu h => absurd h List.not_mem_nil)⟩
def kc432 : xC := kO 9 [kX 20, kI 2, kR 1, kX 21, kX 22, kX 23, kI 3, kX 24, kX 25, kX 26, kX 27, kX 28, kX 29, kX 30]
def kc433 : xC := kO 2 [kI 4, kI 5, kX 31, kR 2, kR 3, kR 4, kR 5, kX 32, kX 33, kX 34, kI 6, kX 35, kX 36, kX 37, kI 7]
def xc_179 : xCt := (([kc432, kc433, kc13, kc20, kc31, kc14], [kA3, kA3, (0, 800), kA3, kA3, (0, 6), (0, 30), kA3], [], [kR 0, kI 0, kI 1], 18), [([kc432, kc433, kc13, kc20, kc31, kc14], [kA3, kA3, (0, 800), kA3, kA3, (0, 6), (0, 30), kA3, kA3], [], [kI 8], 18)], 1)
def xu_179 : List xCu := []
def xT_179 : List (Nat × xCt) := []
theorem xv_179 : xVer0 xT_179 xHt 100000 105 xm_X9_man xc_179 xu_179 = true := by
  rw [← zVer0_eq]
  decide +kernel
theorem xok_179 (l : Launch) : xCk l 105 xc_179 := ⟨xm_X9_man, rfl, xVer_ok xk_all (xHt_ok l) (T := xT_179) (xTn l) rfl (f := 100000) (cuts := xu_179) xv_179 (fun Cu h => absurd h List.not_mem_nil)⟩
def kc434 : xC := kO 9 [kX 20, kI 1, kR 1, kX 21, kX 22, kX 23, kI 2, kX 24, kX 25, kX 26, kX 27, kX 28, kX 29, kX 30]
def kc435 : xC := kO 2 [kI 3, kI 4, kR 2, kX 31, kX 32, kX 33, kX 34, kR 3, kX 35, kX 36, kI 5, kX 37, kX 38, kX 39, kI 6]
def xc_180 : xCt := (([kc434, kc435, kc36, kc21], [kA3, (0, 800), kA3, kA3, (0, 6), (0, 30), kA3, (0, 24)], [([(7, 6), (4, (-1))], 0)], [kR 0, kI 0], 20), [([kc434, kc435, kc36, kc21], [kA3, (0, 800), kA3, kA3, (0, 6), (0, 30), kA3, (0, 24), ((-2), 27)], [], [kI 8], 20)], 1)
def xu_180 : List xCu := []
def xT_180 : List (Nat × xCt) := []
theorem xv_180 : xVer0 xT_180 xHt 100000 106 xm_X9_rain xc_180 xu_180 = true := by
  rw [← zVer0_eq]
  decide +kernel
theorem xok_180 (l : Launch) : xCk l 106 xc_180 := ⟨xm_X9_rain, rfl, xVer_ok xk_all (xHt_ok l) (T := xT_180) (xTn l) rfl (f := 100000) (cuts := xu_180) xv_180 (fun Cu h => absurd h List.not_mem_nil)⟩
def kc436 : xC := kO 2 [kI 3, kI 4, kR 2, kX 31, kX 32, kX 33, kX 34, kX 35, kR 3, kX 36, kI 5, kX 37, kX 38, kX 39, kI 6]
def xc_181 : xCt := (([kc434, kc436, kc36, kc22], [kA3, (0, 800), kA3, kA3, (0, 6), (0, 30), kA3, (0, 24)], [([(7, 6), (4, (-1))], 0)], [kR 0, kI 0], 20), [([kc434, kc436, kc36, kc22], [kA3, (0, 800), kA3, kA3, (0, 6), (0, 30), kA3, (0, 24), ((-2), 9)], [], [kI 8], 20)], 1)
def xu_181 : List xCu := []
def xT_181 : List (Nat × xCt) := []
theorem xv_181 : xVer0 xT_181 xHt 100000 107 xm_X9_heat xc_181 xu_181 = true := by
  rw [← zVer0_eq]
  decide +kernel
theorem xok_181 (l : Launch) : xCk l 107 xc_181 := ⟨xm_X9_heat, rfl, xVer_ok xk_all (xHt_ok l) (T := xT_181) (xTn l) rfl (f := 100000) (cuts := xu_181) xv_181 (fun Cu h => absurd h List.not_mem_nil)⟩
def kc437 : xC := kO 9 [kX 20, kI 0, kR 1, kX 21, kX 22, kX 23, kI 1, kX 24, kX 25, kX 26, kX 27, kX 28, kX 29, kX 30]
def kc438 : xC := kO 2 [kI 2, kI 3, kR 2, kX 31, kX 32, kX 33, kX 34, kX 35, kX 36, kR 3, kI 4, kX 37, kX 38, kX 39, kI 5]
def xc_182 : xCt := (([kc437, kc438, kc12, kc23], [(0, 800), kA3, kA3, (0, 6), (0, 30), kA3, (0, 24)], [([(6, 6), (3, (-1))], 0)], [kR 0], 20), [([kc437, kc438, kc12, kc23], [(0, 800), kA3, kA3, (0, 6), (0, 30), kA3, (0, 24), kA3], [], [kI 7], 20)], 1)
def xu_182 : List xCu := [(17, [0, 1, 2], ([kc437, kc438, kc12, kc23], [(0, 800), kA3, (1, kW), (0, 6), (0, 30), kA3, (0, 24), kA3, (0, 24)], [([(6, 6), (3, (-1))], 0)], [kR 0, kI 7, kI 8], 20), ([(8, (-1))], 24))]
def xT_182 : List (Nat × xCt) := []
theorem xv_182 : xVer0 xT_182 xHt 100000 108 xm_X9_frosts xc_182 xu_182 = true := by
  rw [← zVer0_eq]
  decide +kernel
theorem xw_182_0 : ((xu_182.drop 0).take 1).all (xVerC xT_182 xHt 100000 108 xm_X9_frosts xc_182 xu_182) = true := by
  rw [← zVerC_eq]
  decide +kernel
theorem xok_182 (l : Launch) : xCk l 108 xc_182 := ⟨xm_X9_frosts, rfl, xVer_ok xk_all (xHt_ok l) (T := xT_182) (xTn l) rfl (f := 100000) (cuts := xu_182) xv_182 (xAll0 (xAllS 0 1 xw_182_0 (xAllZ (by decide +kernel))))⟩
def kc439 : xC := kO 9 [kX 20, kI 2, kR 1, kX 21, kX 22, kX 23, kI 3, kX 24, kR 13, kX 25, kX 26, kX 27, kX 28, kX 29]
def kc440 : xC := kO 6 [kR 1, kR 14, kR 15, kR 16, kR 17, kI 12, kI 13, kR 18, kR 19, kR 20, kR 21]
def kc441 : xC := kO 6 [kR 1, kR 14, kR 15, kR 16, kR 17, kI 9, kI 10, kR 18, kR 19, kR 20, kR 21]
def xc_183 : xCt := (([kc439, kc407, kc90, kc13, kc20, kc31, kc14, kc21, kc22, kc23, kc15, kc4, kc5, kc441, kc14, kc14, kc16, kc0, kc28, kc23, kc23, kc14], [kA3, kA3, (0, 800), kA3, kA3, (0, 6), (0, 30), kA3, (0, 24), kA3, kA3], [([(8, 6), (5, (-1))], 0)], [kR 0, kI 0, kI 1], 10), [([kc439, kc407, kc90, kc13, kc20, kc31, kc14, kc21, kc22, kc23, kc15, kc4, kc5, kc440, kc14, kc14, kc16, kc0, kc28, kc23, kc23, kc14], [kA3, kA3, (0, 800), kA3, kA3, (0, 6), (0, 30), kA3, (0, 24), kA3, kA3, (kM, 99), kA3, kA3], [], [kI 11], 10)], 5)
def xu_183 : List xCu := []
def xT_183 : List (Nat × xCt) := [(61, xc_7), (64, xc_13)]
theorem xv_183 : xVer0 xT_183 xHt 100000 109 xm_X9_stiff xc_183 xu_183 = true := by
  rw [← zVer0_eq]
  decide +kernel
theorem xok_183 (l : Launch) : xCk l 109 xc_183 := ⟨xm_X9_stiff, rfl, xVer_ok xk_all (xHt_ok l) (T := xT_183) (xTc (xok_7 l) (xTc (xok_13 l) (xTn l))) rfl (f := 100000) (cuts := xu_183) xv_183 (fun Cu h => absurd h List.not_mem_nil)⟩
def xc_184 : xCt := (([kc439, kc407, kc90, kc13, kc20, kc31, kc14, kc21, kc22, kc23, kc15, kc4, kc5, kc441, kc14, kc14, kc16, kc0, kc28, kc23, kc23, kc14], [kA3, kA3, (0, 800), kA3, kA3, (0, 6), (0, 30), kA3, (0, 24), kA3, kA3], [([(8, 6), (5, (-1))], 0)], [kR 0, kI 0, kI 1], 10), [([kc439, kc407, kc90, kc13, kc20, kc31, kc14, kc21, kc22, kc23, kc15, kc4, kc5, kc440, kc14, kc14, kc16, kc0, kc28, kc23, kc23, kc14], [kA3, kA3, (0, 800), kA3, kA3, (0, 6), (0, 30), kA3, (0, 24), kA3, kA3, kA3, kA3, kA3], [], [kI 11], 10)], 5)
def xu_184 : List xCu := []
def xT_184 : List (Nat × xCt) := [(61, xc_7), (69, xc_9), (64, xc_13)]
theorem xv_184 : xVer0 xT_184 xHt 100000 110 xm_X9_loses xc_184 xu_184 = true := by
  rw [← zVer0_eq]
  decide +kernel
theorem xok_184 (l : Launch) : xCk l 110 xc_184 := ⟨xm_X9_loses, rfl, xVer_ok xk_all (xHt_ok l) (T := xT_184) (xTc (xok_7 l) (xTc (xok_9 l) (xTc (xok_13 l) (xTn l)))) rfl (f := 100000) (cuts := xu_184) xv_184 (fun Cu h => absurd h List.not_mem_nil)⟩
def kc442 : xC := kO 9 [kX 20, kI 1, kR 1, kX 21, kX 22, kX 23, kI 2, kX 24, kR 13, kX 25, kX 26, kX 27, kX 28, kX 29]
def kc443 : xC := kO 2 [kI 3, kI 4, kR 2, kR 3, kR 4, kR 5, kR 6, kR 7, kR 8, kR 9, kI 5, kR 10, kR 11, kR 12, kI 6]
def kc444 : xC := kO 6 [kR 1, kR 14, kR 15, kR 16, kR 17, kI 8, kI 9, kR 18, kR 19, kR 20, kR 21]
def xc_185 : xCt := (([kc442, kc443, kc36, kc13, kc20, kc31, kc14, kc21, kc22, kc23, kc15, kc4, kc5, kc444, kc14, kc14, kc16, kc0, kc28, kc23, kc23, kc14], [kA3, (0, 800), kA3, kA3, (0, 6), (0, 30), kA3, (0, 24), kA3, kA3], [([(7, 6), (4, (-1))], 0)], [kR 0, kI 0], 10), [([kc442, kc443, kc36, kc13, kc20, kc31, kc14, kc21, kc22, kc23, kc15, kc4, kc5, kc63, kc14, kc14, kc16, kc0, kc28, kc23, kc23, kc14], [kA3, (0, 800), kA3, kA3, (0, 6), (0, 30), kA3, (0, 24), kA3, kA3, ((-2), 63), kA3, kA3], [], [kI 10], 10)], 5)
def xu_185 : List xCu := []
def xT_185 : List (Nat × xCt) := [(61, xc_7), (64, xc_13)]
theorem xv_185 : xVer0 xT_185 xHt 100000 111 xm_X9_stands xc_185 xu_185 = true := by
  rw [← zVer0_eq]
  decide +kernel
theorem xok_185 (l : Launch) : xCk l 111 xc_185 := ⟨xm_X9_stands, rfl, xVer_ok xk_all (xHt_ok l) (T := xT_185) (xTc (xok_7 l) (xTc (xok_13 l) (xTn l))) rfl (f := 100000) (cuts := xu_185) xv_185 (fun Cu h => absurd h List.not_mem_nil)⟩
def xc_186 : xCt := (([kc442, kc443, kc36, kc13, kc20, kc31, kc14, kc21, kc22, kc23, kc15, kc4, kc5, kc444, kc14, kc14, kc16, kc0, kc28, kc23, kc23, kc14], [kA3, (0, 800), kA3, kA3, (0, 6), (0, 30), kA3, (0, 24), kA3, kA3], [([(7, 6), (4, (-1))], 0)], [kR 0, kI 0], 10), [([kc442, kc443, kc36, kc13, kc20, kc31, kc14, kc21, kc22, kc23, kc15, kc4, kc5, kc63, kc14, kc14, kc16, kc0, kc28, kc23, kc23, kc14], [kA3, (0, 800), kA3, kA3, (0, 6), (0, 30), kA3, (0, 24), kA3, kA3, ((-2), 23), kA3, kA3], [], [kI 10], 10)], 5)
def xu_186 : List xCu := []
def xT_186 : List (Nat × xCt) := [(61, xc_7), (64, xc_13), (74, xc_15)]
theorem xv_186 : xVer0 xT_186 xHt 100000 112 xm_X9_gives xc_186 xu_186 = true := by
  rw [← zVer0_eq]
  decide +kernel
theorem xok_186 (l : Launch) : xCk l 112 xc_186 := ⟨xm_X9_gives, rfl, xVer_ok xk_all (xHt_ok l) (T := xT_186) (xTc (xok_7 l) (xTc (xok_13 l) (xTc (xok_15 l) (xTn l)))) rfl (f := 100000) (cuts := xu_186) xv_186 (fun Cu h => absurd h List.not_mem_nil)⟩
def xc_187 : xCt := (([kc442, kc443, kc36, kc13, kc20, kc31, kc14, kc21, kc22, kc23, kc15, kc4, kc5, kc444, kc14, kc14, kc16, kc0, kc28, kc23, kc23, kc14], [kA3, (0, 800), kA3, kA3, (0, 6), (0, 30), kA3, (0, 24), kA3, kA3], [([(7, 6), (4, (-1))], 0)], [kR 0, kI 0], 10), [([kc442, kc443, kc36, kc13, kc20, kc31, kc14, kc21, kc22, kc23, kc15, kc4, kc5, kc63, kc14, kc14, kc16, kc0, kc28, kc23, kc23, kc14], [kA3, (0, 800), kA3, kA3, (0, 6), (0, 30), kA3, (0, 24), kA3, kA3, kA3, kA3, kA3], [], [kI 10], 10)], 5)
def xu_187 : List xCu := []
def xT_187 : List (Nat × xCt) := [(61, xc_7), (64, xc_13), (75, xc_16)]
theorem xv_187 : xVer0 xT_187 xHt 100000 113 xm_X9_hours xc_187 xu_187 = true := by
  rw [← zVer0_eq]
  decide +kernel
theorem xok_187 (l : Launch) : xCk l 113 xc_187 := ⟨xm_X9_hours, rfl, xVer_ok xk_all (xHt_ok l) (T := xT_187) (xTc (xok_7 l) (xTc (xok_13 l) (xTc (xok_16 l) (xTn l)))) rfl (f := 100000) (cuts := xu_187) xv_187 (fun Cu h => absurd h List.not_mem_nil)⟩
def xc_188 : xCt := (([kc442, kc443, kc36, kc13, kc20, kc31, kc14, kc21, kc22, kc23, kc15, kc4, kc5, kc444, kc14, kc14, kc16, kc0, kc28, kc23, kc23, kc14], [kA3, (0, 800), kA3, kA3, (0, 6), (0, 30), kA3, (0, 24), kA3, kA3], [([(7, 6), (4, (-1))], 0)], [kR 0, kI 0], 10), [([kc442, kc443, kc36, kc13, kc20, kc31, kc14, kc21, kc22, kc23, kc15, kc4, kc5, kc63, kc14, kc14, kc16, kc0, kc28, kc23, kc23, kc14], [kA3, (0, 800), kA3, kA3, (0, 6), (0, 30), kA3, (0, 24), kA3, kA3, kA3, kA3, kA3], [], [kI 10], 10)], 5)
def xu_188 : List xCu := []
def xT_188 : List (Nat × xCt) := [(61, xc_7), (64, xc_13)]
theorem xv_188 : xVer0 xT_188 xHt 100000 114 xm_X9_cracks xc_188 xu_188 = true := by
  rw [← zVer0_eq]
  decide +kernel
theorem xok_188 (l : Launch) : xCk l 114 xc_188 := ⟨xm_X9_cracks, rfl, xVer_ok xk_all (xHt_ok l) (T := xT_188) (xTc (xok_7 l) (xTc (xok_13 l) (xTn l))) rfl (f := 100000) (cuts := xu_188) xv_188 (fun Cu h => absurd h List.not_mem_nil)⟩
def kc445 : xC := kO 9 [kX 20, kI 0, kR 1, kX 21, kX 22, kX 23, kI 1, kX 24, kR 13, kX 25, kX 26, kX 27, kX 28, kX 29]
def xc_189 : xCt := (([kc445, kc68, kc12, kc13, kc20, kc31, kc14, kc21, kc22, kc23, kc15, kc4, kc5, kc70, kc14, kc14, kc16, kc0, kc28, kc23, kc23, kc14], [(0, 800), kA3, kA3, (0, 6), (0, 30), kA3, (0, 24), kA3, kA3], [([(6, 6), (3, (-1))], 0)], [kR 0], 10), [([kc445, kc68, kc12, kc13, kc20, kc31, kc14, kc21, kc22, kc23, kc15, kc4, kc5, kc56, kc14, kc14, kc16, kc0, kc28, kc23, kc23, kc14], [(0, 800), kA3, kA3, (0, 6), (0, 30), kA3, (0, 24), kA3, kA3, kA3, kA3, kA3], [], [kI 9], 10)], 5)
def xu_189 : List xCu := [(24, [0, 1, 2], ([kc445, kc68, kc12, kc13, kc20, kc31, kc14, kc21, kc22, kc23, kc15, kc4, kc5, kc86, kc14, kc14, kc16, kc0, kc28, kc23, kc23, kc14], [(0, 800), kA3, (1, kW), (0, 6), (0, 30), kA3, (0, 24), kA3, kA3, kA3, (0, 6), kA3], [([(6, 6), (3, (-1))], 0)], [kR 0, kI 9, kI 10], 10), ([(10, (-1))], 6))]
def xT_189 : List (Nat × xCt) := [(61, xc_7), (64, xc_13)]
theorem xv_189 : xVer0 xT_189 xHt 100000 115 xm_X9_broken xc_189 xu_189 = true := by
  rw [← zVer0_eq]
  decide +kernel
theorem xw_189_0 : ((xu_189.drop 0).take 1).all (xVerC xT_189 xHt 100000 115 xm_X9_broken xc_189 xu_189) = true := by
  rw [← zVerC_eq]
  decide +kernel
theorem xok_189 (l : Launch) : xCk l 115 xc_189 := ⟨xm_X9_broken, rfl, xVer_ok xk_all (xHt_ok l) (T := xT_189) (xTc (xok_7 l) (xTc (xok_13 l) (xTn l))) rfl (f := 100000) (cuts := xu_189) xv_189 (xAll0 (xAllS 0 1 xw_189_0 (xAllZ (by decide +kernel))))⟩
def xc_190 : xCt := (([kc442, kc443, kc36, kc13, kc20, kc31, kc14, kc21, kc22, kc23, kc15, kc4, kc5, kc444, kc14, kc14, kc16, kc0, kc28, kc23, kc23, kc14], [kA3, (0, 800), kA3, kA3, (0, 6), (0, 30), kA3, (0, 24), kA3, kA3], [([(7, 6), (4, (-1))], 0)], [kR 0, kI 0], 10), [([kc442, kc443, kc36, kc13, kc20, kc31, kc14, kc21, kc22, kc23, kc15, kc4, kc5, kc63, kc14, kc14, kc16, kc0, kc28, kc23, kc23, kc14], [kA3, (0, 800), kA3, kA3, (0, 6), (0, 30), kA3, (0, 24), kA3, kA3, ((-2), kW), kA3, kA3], [], [kI 10], 10)], 5)
def xu_190 : List xCu := []
def xT_190 : List (Nat × xCt) := [(61, xc_7), (64, xc_13), (76, xc_17)]
theorem xv_190 : xVer0 xT_190 xHt 100000 116 xm_X9_gap xc_190 xu_190 = true := by
  rw [← zVer0_eq]
  decide +kernel
theorem xok_190 (l : Launch) : xCk l 116 xc_190 := ⟨xm_X9_gap, rfl, xVer_ok xk_all (xHt_ok l) (T := xT_190) (xTc (xok_7 l) (xTc (xok_13 l) (xTc (xok_17 l) (xTn l)))) rfl (f := 100000) (cuts := xu_190) xv_190 (fun Cu h => absurd h List.not_mem_nil)⟩
def xc_191 : xCt := (([kc445, kc68, kc12, kc13, kc20, kc31, kc14, kc21, kc22, kc23, kc15, kc4, kc5, kc70, kc14, kc14, kc16, kc0, kc28, kc23, kc23, kc14], [(0, 800), kA3, kA3, (0, 6), (0, 30), kA3, (0, 24), kA3, kA3], [([(6, 6), (3, (-1))], 0)], [kR 0], 10), [([kc445, kc68, kc12, kc13, kc20, kc31, kc14, kc21, kc22, kc23, kc15, kc4, kc5, kc56, kc14, kc14, kc16, kc0, kc28, kc23, kc23, kc14], [(0, 800), kA3, kA3, (0, 6), (0, 30), kA3, (0, 24), kA3, kA3, kA3, kA3, kA3], [], [kI 9], 10)], 5)
def xu_191 : List xCu := [(24, [0, 1, 2], ([kc445, kc68, kc12, kc13, kc20, kc31, kc14, kc21, kc22, kc23, kc15, kc4, kc5, kc86, kc14, kc14, kc16, kc0, kc28, kc23, kc23, kc14], [(0, 800), kA3, (1, kW), (0, 6), (0, 30), kA3, (0, 24), kA3, kA3, kA3, (0, 24), kA3], [([(6, 6), (3, (-1))], 0)], [kR 0, kI 9, kI 10], 10), ([(10, (-1))], 24))]
def xT_191 : List (Nat × xCt) := [(61, xc_7), (64, xc_13), (76, xc_17)]
theorem xv_191 : xVer0 xT_191 xHt 100000 117 xm_X9_holds xc_191 xu_191 = true := by
  rw [← zVer0_eq]
  decide +kernel
theorem xw_191_0 : ((xu_191.drop 0).take 1).all (xVerC xT_191 xHt 100000 117 xm_X9_holds xc_191 xu_191) = true := by
  rw [← zVerC_eq]
  decide +kernel
theorem xok_191 (l : Launch) : xCk l 117 xc_191 := ⟨xm_X9_holds, rfl, xVer_ok xk_all (xHt_ok l) (T := xT_191) (xTc (xok_7 l) (xTc (xok_13 l) (xTc (xok_17 l) (xTn l)))) rfl (f := 100000) (cuts := xu_191) xv_191 (xAll0 (xAllS 0 1 xw_191_0 (xAllZ (by decide +kernel))))⟩
def xc_192 : xCt := (([kc445, kc68, kc12, kc13, kc20, kc31, kc14, kc21, kc22, kc23, kc15, kc4, kc5, kc70, kc14, kc14, kc16, kc0, kc28, kc23, kc23, kc14], [(0, 800), kA3, kA3, (0, 6), (0, 30), kA3, (0, 24), kA3, kA3], [([(6, 6), (3, (-1))], 0)], [kR 0], 10), [([kc445, kc68, kc12, kc13, kc20, kc31, kc14, kc21, kc22, kc23, kc15, kc4, kc5, kc56, kc14, kc14, kc16, kc0, kc28, kc23, kc23, kc14], [(0, 800), kA3, kA3, (0, 6), (0, 30), kA3, (0, 24), kA3, kA3, ((-2), 23), kA3, kA3], [], [kI 9], 10)], 6)
def xu_192 : List xCu := []
def xT_192 : List (Nat × xCt) := [(61, xc_7), (78, xc_18)]
theorem xv_192 : xVer0 xT_192 xHt 100000 118 xm_X9_falls xc_192 xu_192 = true := by
  rw [← zVer0_eq]
  decide +kernel
theorem xok_192 (l : Launch) : xCk l 118 xc_192 := ⟨xm_X9_falls, rfl, xVer_ok xk_all (xHt_ok l) (T := xT_192) (xTc (xok_7 l) (xTc (xok_18 l) (xTn l))) rfl (f := 100000) (cuts := xu_192) xv_192 (fun Cu h => absurd h List.not_mem_nil)⟩
def xc_193 : xCt := (([kc442, kc443, kc36, kc13, kc20, kc31, kc14, kc21, kc22, kc23, kc15, kc4, kc5, kc444, kc14, kc14, kc16, kc0, kc28, kc23, kc23, kc14], [kA3, (0, 800), kA3, kA3, (0, 6), (0, 30), kA3, (0, 24), kA3, kA3], [([(7, 6), (4, (-1))], 0)], [kR 0, kI 0], 10), [([kc442, kc443, kc36, kc13, kc20, kc31, kc14, kc21, kc22, kc23, kc15, kc4, kc5, kc63, kc14, kc14, kc16, kc0, kc28, kc23, kc23, kc14], [kA3, (0, 800), kA3, kA3, (0, 6), (0, 30), kA3, (0, 24), kA3, kA3, ((-2), 5), kA3, kA3], [], [kI 10], 10)], 5)
def xu_193 : List xCu := [(25, [0, 1, 2, 3], ([kc442, kc443, kc36, kc13, kc20, kc31, kc14, kc21, kc22, kc23, kc15, kc4, kc5, kc72, kc14, kc14, kc16, kc0, kc28, kc23, kc23, kc14], [(0, 23), (0, 800), kA3, kA3, (0, 6), (0, 30), kA3, (1, 24), kA3, kA3, ((-1), 5), (0, 6), kA3], [([(7, 6), (4, (-1))], 0)], [kR 0, kI 0, kI 10, kI 11], 10), ([(11, (-1))], 6))]
def xT_193 : List (Nat × xCt) := [(61, xc_7), (64, xc_13)]
theorem xv_193 : xVer0 xT_193 xHt 100000 119 xm_X9_weakest xc_193 xu_193 = true := by
  rw [← zVer0_eq]
  decide +kernel
theorem xw_193_0 : ((xu_193.drop 0).take 1).all (xVerC xT_193 xHt 100000 119 xm_X9_weakest xc_193 xu_193) = true := by
  rw [← zVerC_eq]
  decide +kernel
theorem xok_193 (l : Launch) : xCk l 119 xc_193 := ⟨xm_X9_weakest, rfl, xVer_ok xk_all (xHt_ok l) (T := xT_193) (xTc (xok_7 l) (xTc (xok_13 l) (xTn l))) rfl (f := 100000) (cuts := xu_193) xv_193 (xAll0 (xAllS 0 1 xw_193_0 (xAllZ (by decide +kernel))))⟩
def xc_194 : xCt := (([kc442, kc443, kc36, kc13, kc20, kc31, kc14, kc21, kc22, kc23, kc15, kc4, kc5, kc444, kc14, kc14, kc16, kc0, kc28, kc23, kc23, kc14], [kA3, (0, 800), kA3, kA3, (0, 6), (0, 30), kA3, (0, 24), kA3, kA3], [([(7, 6), (4, (-1))], 0)], [kR 0, kI 0], 10), [([kc442, kc443, kc36, kc13, kc20, kc31, kc14, kc21, kc22, kc23, kc15, kc4, kc5, kc63, kc14, kc14, kc16, kc0, kc28, kc23, kc23, kc14], [kA3, (0, 800), kA3, kA3, (0, 6), (0, 30), kA3, (0, 24), kA3, kA3, kA3, kA3, kA3], [], [kI 10], 10)], 5)
def xu_194 : List xCu := [(25, [0, 1, 2, 3], ([kc442, kc443, kc36, kc13, kc20, kc31, kc14, kc21, kc22, kc23, kc15, kc4, kc5, kc72, kc14, kc14, kc16, kc0, kc28, kc23, kc23, kc14], [(0, 23), (0, 800), kA3, kA3, (0, 6), (0, 30), kA3, (1, 24), kA3, kA3, kA3, (0, 6), kA3], [([(7, 6), (4, (-1))], 0)], [kR 0, kI 0, kI 10, kI 11], 10), ([(11, (-1))], 6))]
def xT_194 : List (Nat × xCt) := [(61, xc_7), (64, xc_13)]
theorem xv_194 : xVer0 xT_194 xHt 100000 120 xm_X9_all xc_194 xu_194 = true := by
  rw [← zVer0_eq]
  decide +kernel
theorem xw_194_0 : ((xu_194.drop 0).take 1).all (xVerC xT_194 xHt 100000 120 xm_X9_all xc_194 xu_194) = true := by
  rw [← zVerC_eq]
  decide +kernel
theorem xok_194 (l : Launch) : xCk l 120 xc_194 := ⟨xm_X9_all, rfl, xVer_ok xk_all (xHt_ok l) (T := xT_194) (xTc (xok_7 l) (xTc (xok_13 l) (xTn l))) rfl (f := 100000) (cuts := xu_194) xv_194 (xAll0 (xAllS 0 1 xw_194_0 (xAllZ (by decide +kernel))))⟩
def xc_195 : xCt := (([kc439, kc407, kc90, kc13, kc20, kc31, kc14, kc21, kc22, kc23, kc15, kc4, kc5, kc441, kc14, kc14, kc16, kc0, kc28, kc23, kc23, kc14], [kA3, kA3, (0, 800), kA3, kA3, (0, 6), (0, 30), kA3, (0, 24), kA3, kA3], [([(8, 6), (5, (-1))], 0)], [kR 0, kI 0, kI 1], 10), [([kc439, kc407, kc90, kc13, kc20, kc31, kc14, kc21, kc22, kc23, kc15, kc4, kc5, kc440, kc14, kc14, kc16, kc0, kc28, kc23, kc23, kc14], [kA3, kA3, (0, 800), kA3, kA3, (0, 6), (0, 30), kA3, (0, 24), kA3, kA3, kA3, kA3, kA3], [], [kI 11], 10)], 5)
def xu_195 : List xCu := []
def xT_195 : List (Nat × xCt) := [(61, xc_7), (64, xc_13)]
theorem xv_195 : xVer0 xT_195 xHt 100000 121 xm_X9_spare xc_195 xu_195 = true := by
  rw [← zVer0_eq]
  decide +kernel
theorem xok_195 (l : Launch) : xCk l 121 xc_195 := ⟨xm_X9_spare, rfl, xVer_ok xk_all (xHt_ok l) (T := xT_195) (xTc (xok_7 l) (xTc (xok_13 l) (xTn l))) rfl (f := 100000) (cuts := xu_195) xv_195 (fun Cu h => absurd h List.not_mem_nil)⟩
def xc_196 : xCt := (([kc442, kc443, kc36, kc13, kc20, kc31, kc14, kc21, kc22, kc23, kc15, kc4, kc5, kc444, kc14, kc14, kc16, kc0, kc28, kc23, kc23, kc14], [kA3, (0, 800), kA3, kA3, (0, 6), (0, 30), kA3, (0, 24), kA3, kA3], [([(7, 6), (4, (-1))], 0)], [kR 0, kI 0], 10), [([kc442, kc443, kc36, kc13, kc20, kc31, kc14, kc21, kc22, kc23, kc15, kc4, kc5, kc63, kc14, kc14, kc16, kc0, kc28, kc23, kc23, kc14], [kA3, (0, 800), kA3, kA3, (0, 6), (0, 30), kA3, (0, 24), kA3, kA3, ((-2), 5), kA3, kA3], [], [kI 10], 10)], 5)
def xu_196 : List xCu := [(25, [0, 1, 2, 3], ([kc442, kc443, kc36, kc13, kc20, kc31, kc14, kc21, kc22, kc23, kc15, kc4, kc5, kc72, kc14, kc14, kc16, kc0, kc28, kc23, kc23, kc14], [(0, 23), (0, 800), kA3, kA3, (0, 6), (0, 30), kA3, (1, 24), kA3, kA3, ((-1), 5), (0, 6), kA3], [([(7, 6), (4, (-1))], 0)], [kR 0, kI 0, kI 10, kI 11], 10), ([(11, (-1))], 6))]
def xT_196 : List (Nat × xCt) := [(61, xc_7), (64, xc_13)]
theorem xv_196 : xVer0 xT_196 xHt 100000 122 xm_X9_stiffest xc_196 xu_196 = true := by
  rw [← zVer0_eq]
  decide +kernel
theorem xw_196_0 : ((xu_196.drop 0).take 1).all (xVerC xT_196 xHt 100000 122 xm_X9_stiffest xc_196 xu_196) = true := by
  rw [← zVerC_eq]
  decide +kernel
theorem xok_196 (l : Launch) : xCk l 122 xc_196 := ⟨xm_X9_stiffest, rfl, xVer_ok xk_all (xHt_ok l) (T := xT_196) (xTc (xok_7 l) (xTc (xok_13 l) (xTn l))) rfl (f := 100000) (cuts := xu_196) xv_196 (xAll0 (xAllS 0 1 xw_196_0 (xAllZ (by decide +kernel))))⟩
def xc_197 : xCt := (([kc442, kc443, kc36, kc13, kc20, kc31, kc14, kc21, kc22, kc23, kc15, kc4, kc5, kc444, kc14, kc14, kc16, kc0, kc28, kc23, kc23, kc14], [kA3, (0, 800), kA3, kA3, (0, 6), (0, 30), kA3, (0, 24), kA3, kA3], [([(7, 6), (4, (-1))], 0)], [kR 0, kI 0], 10), [([kc442, kc443, kc36, kc13, kc20, kc31, kc14, kc21, kc22, kc23, kc15, kc4, kc5, kc63, kc14, kc14, kc16, kc0, kc28, kc23, kc23, kc14], [kA3, (0, 800), kA3, kA3, (0, 6), (0, 30), kA3, (0, 24), kA3, kA3, kA3, kA3, kA3], [], [kI 10], 10)], 5)
def xu_197 : List xCu := []
def xT_197 : List (Nat × xCt) := [(61, xc_7), (64, xc_13)]
theorem xv_197 : xVer0 xT_197 xHt 100000 123 xm_X9_sags xc_197 xu_197 = true := by
  rw [← zVer0_eq]
  decide +kernel
theorem xok_197 (l : Launch) : xCk l 123 xc_197 := ⟨xm_X9_sags, rfl, xVer_ok xk_all (xHt_ok l) (T := xT_197) (xTc (xok_7 l) (xTc (xok_13 l) (xTn l))) rfl (f := 100000) (cuts := xu_197) xv_197 (fun Cu h => absurd h List.not_mem_nil)⟩
def xc_198 : xCt := (([kc445, kc68, kc12, kc13, kc20, kc31, kc14, kc21, kc22, kc23, kc15, kc4, kc5, kc70, kc14, kc14, kc16, kc0, kc28, kc23, kc23, kc14], [(0, 800), kA3, kA3, (0, 6), (0, 30), kA3, (0, 24), kA3, kA3], [([(6, 6), (3, (-1))], 0)], [kR 0], 10), [([kc445, kc68, kc12, kc13, kc20, kc31, kc14, kc21, kc22, kc23, kc15, kc4, kc5, kc56, kc14, kc14, kc16, kc0, kc28, kc23, kc23, kc14], [(0, 800), kA3, kA3, (0, 6), (0, 30), kA3, (0, 24), kA3, kA3, ((-2), kW), kA3, kA3], [], [kI 9], 10)], 5)
def xu_198 : List xCu := [(26, [0, 1, 2, 3], ([kc445, kc68, kc12, kc13, kc20, kc31, kc14, kc21, kc22, kc23, kc15, kc4, kc5, kc72, kc14, kc14, kc16, kc0, kc28, kc23, kc23, kc14], [(0, 800), kA3, (1, kW), (0, 6), (0, 30), kA3, (0, 24), kA3, kA3, (0, kW), kA3, (0, 24), kA3], [([(6, 6), (3, (-1))], 0)], [kR 0, kI 9, kI 10, kI 11], 10), ([(11, (-1))], 24))]
def xT_198 : List (Nat × xCt) := [(61, xc_7), (64, xc_13), (76, xc_17)]
theorem xv_198 : xVer0 xT_198 xHt 100000 124 xm_X9_spell xc_198 xu_198 = true := by
  rw [← zVer0_eq]
  decide +kernel
theorem xw_198_0 : ((xu_198.drop 0).take 1).all (xVerC xT_198 xHt 100000 124 xm_X9_spell xc_198 xu_198) = true := by
  rw [← zVerC_eq]
  decide +kernel
theorem xok_198 (l : Launch) : xCk l 124 xc_198 := ⟨xm_X9_spell, rfl, xVer_ok xk_all (xHt_ok l) (T := xT_198) (xTc (xok_7 l) (xTc (xok_13 l) (xTc (xok_17 l) (xTn l)))) rfl (f := 100000) (cuts := xu_198) xv_198 (xAll0 (xAllS 0 1 xw_198_0 (xAllZ (by decide +kernel))))⟩
def xc_199 : xCt := (([kc442, kc443, kc36, kc13, kc20, kc31, kc14, kc21, kc22, kc23, kc15, kc4, kc5, kc444, kc14, kc14, kc16, kc0, kc28, kc23, kc23, kc14], [kA3, (0, 800), kA3, kA3, (0, 6), (0, 30), kA3, (0, 24), kA3, kA3], [([(7, 6), (4, (-1))], 0)], [kR 0, kI 0], 10), [([kc442, kc443, kc36, kc13, kc20, kc31, kc14, kc21, kc22, kc23, kc15, kc4, kc5, kc63, kc14, kc14, kc16, kc0, kc28, kc23, kc23, kc14], [kA3, (0, 800), kA3, kA3, (0, 6), (0, 30), kA3, (0, 24), kA3, kA3, kA3, kA3, kA3], [], [kI 10], 10)], 5)
def xu_199 : List xCu := [(25, [0, 1, 2, 3], ([kc442, kc443, kc36, kc13, kc20, kc31, kc14, kc21, kc22, kc23, kc15, kc4, kc5, kc72, kc14, kc14, kc16, kc0, kc28, kc23, kc23, kc14], [(0, 5), (0, 800), kA3, kA3, (1, 6), (0, 30), kA3, (0, 24), kA3, kA3, kA3, (1, 24), kA3], [([(7, 6), (4, (-1))], 0)], [kR 0, kI 0, kI 10, kI 11], 10), ([(11, (-1))], 24))]
def xT_199 : List (Nat × xCt) := [(61, xc_7), (64, xc_13)]
theorem xv_199 : xVer0 xT_199 xHt 100000 125 xm_X9_rises xc_199 xu_199 = true := by
  rw [← zVer0_eq]
  decide +kernel
theorem xw_199_0 : ((xu_199.drop 0).take 1).all (xVerC xT_199 xHt 100000 125 xm_X9_rises xc_199 xu_199) = true := by
  rw [← zVerC_eq]
  decide +kernel
theorem xok_199 (l : Launch) : xCk l 125 xc_199 := ⟨xm_X9_rises, rfl, xVer_ok xk_all (xHt_ok l) (T := xT_199) (xTc (xok_7 l) (xTc (xok_13 l) (xTn l))) rfl (f := 100000) (cuts := xu_199) xv_199 (xAll0 (xAllS 0 1 xw_199_0 (xAllZ (by decide +kernel))))⟩
def xc_200 : xCt := (([kc442, kc443, kc36, kc13, kc20, kc31, kc14, kc21, kc22, kc23, kc15, kc4, kc5, kc444, kc14, kc14, kc16, kc0, kc28, kc23, kc23, kc14], [kA3, (0, 800), kA3, kA3, (0, 6), (0, 30), kA3, (0, 24), kA3, kA3], [([(7, 6), (4, (-1))], 0)], [kR 0, kI 0], 10), [([kc442, kc443, kc36, kc13, kc20, kc31, kc14, kc21, kc22, kc23, kc15, kc4, kc5, kc63, kc14, kc14, kc16, kc0, kc28, kc23, kc23, kc14], [kA3, (0, 800), kA3, kA3, (0, 6), (0, 30), kA3, (0, 24), kA3, kA3, kA3, kA3, kA3], [], [kI 10], 10)], 5)
def xu_200 : List xCu := [(25, [0, 1, 2, 3], ([kc442, kc443, kc36, kc13, kc20, kc31, kc14, kc21, kc22, kc23, kc15, kc4, kc5, kc72, kc14, kc14, kc16, kc0, kc28, kc23, kc23, kc14], [(0, 5), (0, 800), kA3, kA3, (1, 6), (0, 30), kA3, (0, 24), kA3, kA3, kA3, (0, 23), kA3], [([(7, 6), (4, (-1))], 0)], [kR 0, kI 0, kI 10, kI 11], 10), ([(11, (-1))], 23))]
def xT_200 : List (Nat × xCt) := [(61, xc_7), (69, xc_9), (64, xc_13)]
theorem xv_200 : xVer0 xT_200 xHt 100000 126 xm_X9_lost xc_200 xu_200 = true := by
  rw [← zVer0_eq]
  decide +kernel
theorem xw_200_0 : ((xu_200.drop 0).take 1).all (xVerC xT_200 xHt 100000 126 xm_X9_lost xc_200 xu_200) = true := by
  rw [← zVerC_eq]
  decide +kernel
theorem xok_200 (l : Launch) : xCk l 126 xc_200 := ⟨xm_X9_lost, rfl, xVer_ok xk_all (xHt_ok l) (T := xT_200) (xTc (xok_7 l) (xTc (xok_9 l) (xTc (xok_13 l) (xTn l)))) rfl (f := 100000) (cuts := xu_200) xv_200 (xAll0 (xAllS 0 1 xw_200_0 (xAllZ (by decide +kernel))))⟩
def kc446 : xC := kO 2 [kI 2, kI 3, kR 2, kX 31, kX 32, kX 33, kX 34, kR 3, kX 35, kR 4, kI 4, kX 36, kX 37, kX 38, kI 5]
def xc_201 : xCt := (([kc437, kc446, kc12, kc21, kc23], [(0, 800), kA3, kA3, (0, 6), (0, 30), kA3, (0, 24)], [([(6, 6), (3, (-1))], 0)], [kR 0], 19), [([kc437, kc446, kc12, kc21, kc23], [(0, 800), kA3, kA3, (0, 6), (0, 30), kA3, (0, 24), kA3], [], [kI 7], 19)], 1)
def xu_201 : List xCu := [(17, [0, 1, 2], ([kc437, kc446, kc12, kc21, kc23], [(0, 800), kA3, (1, kW), (0, 6), (0, 30), kA3, (0, 24), kA3, (0, 24)], [([(6, 6), (3, (-1))], 0)], [kR 0, kI 7, kI 8], 19), ([(8, (-1))], 24))]
def xT_201 : List (Nat × xCt) := []
theorem xv_201 : xVer0 xT_201 xHt 100000 127 xm_X9_dry xc_201 xu_201 = true := by
  rw [← zVer0_eq]
  decide +kernel
theorem xw_201_0 : ((xu_201.drop 0).take 1).all (xVerC xT_201 xHt 100000 127 xm_X9_dry xc_201 xu_201) = true := by
  rw [← zVerC_eq]
  decide +kernel
theorem xok_201 (l : Launch) : xCk l 127 xc_201 := ⟨xm_X9_dry, rfl, xVer_ok xk_all (xHt_ok l) (T := xT_201) (xTn l) rfl (f := 100000) (cuts := xu_201) xv_201 (xAll0 (xAllS 0 1 xw_201_0 (xAllZ (by decide +kernel))))⟩
def xc_202 : xCt := (([kc445, kc68, kc12, kc13, kc20, kc31, kc14, kc21, kc22, kc23, kc15, kc4, kc5, kc70, kc14, kc14, kc16, kc0, kc28, kc23, kc23, kc14], [(0, 800), kA3, kA3, (0, 6), (0, 30), kA3, (0, 24), kA3, kA3], [([(6, 6), (3, (-1))], 0)], [kR 0], 10), [([kc445, kc68, kc12, kc13, kc20, kc31, kc14, kc21, kc22, kc23, kc15, kc4, kc5, kc56, kc14, kc14, kc16, kc0, kc28, kc23, kc23, kc14], [(0, 800), kA3, kA3, (0, 6), (0, 30), kA3, (0, 24), kA3, kA3, ((-2), 5), kA3, kA3], [], [kI 9], 10)], 5)
def xu_202 : List xCu := [(26, [0, 1, 2, 3], ([kc445, kc68, kc12, kc13, kc20, kc31, kc14, kc21, kc22, kc23, kc15, kc4, kc5, kc72, kc14, kc14, kc16, kc0, kc28, kc23, kc23, kc14], [(0, 800), kA3, (1, kW), (0, 6), (0, 30), kA3, (0, 24), kA3, kA3, ((-1), 5), (0, kW), (0, 6), kA3], [([(6, 6), (3, (-1))], 0)], [kR 0, kI 9, kI 10, kI 11], 10), ([(11, (-1))], 6))]
def xT_202 : List (Nat × xCt) := [(61, xc_7), (64, xc_13), (75, xc_16)]
theorem xv_202 : xVer0 xT_202 xHt 100000 128 xm_X9_drummer xc_202 xu_202 = true := by
  rw [← zVer0_eq]
  decide +kernel
theorem xw_202_0 : ((xu_202.drop 0).take 1).all (xVerC xT_202 xHt 100000 128 xm_X9_drummer xc_202 xu_202) = true := by
  rw [← zVerC_eq]
  decide +kernel
theorem xok_202 (l : Launch) : xCk l 128 xc_202 := ⟨xm_X9_drummer, rfl, xVer_ok xk_all (xHt_ok l) (T := xT_202) (xTc (xok_7 l) (xTc (xok_13 l) (xTc (xok_16 l) (xTn l)))) rfl (f := 100000) (cuts := xu_202) xv_202 (xAll0 (xAllS 0 1 xw_202_0 (xAllZ (by decide +kernel))))⟩
def xc_203 : xCt := (([kc442, kc443, kc36, kc13, kc20, kc31, kc14, kc21, kc22, kc23, kc15, kc4, kc5, kc444, kc14, kc14, kc16, kc0, kc28, kc23, kc23, kc14], [kA3, (0, 800), kA3, kA3, (0, 6), (0, 30), kA3, (0, 24), kA3, kA3], [([(7, 6), (4, (-1))], 0)], [kR 0, kI 0], 10), [([kc442, kc443, kc36, kc13, kc20, kc31, kc14, kc21, kc22, kc23, kc15, kc4, kc5, kc63, kc14, kc14, kc16, kc0, kc28, kc23, kc23, kc14], [kA3, (0, 800), kA3, kA3, (0, 6), (0, 30), kA3, (0, 24), kA3, kA3, ((-2), 60), kA3, kA3], [], [kI 10], 10)], 5)
def xu_203 : List xCu := [(26, [0, 1, 2, 3], ([kc442, kc443, kc36, kc13, kc20, kc31, kc14, kc21, kc22, kc23, kc15, kc4, kc5, kc72, kc14, kc14, kc16, kc0, kc28, kc23, kc23, kc14], [(0, 5), (0, 800), kA3, kA3, (1, 6), (0, 30), kA3, (0, 24), kA3, kA3, (kM, 60), (0, 24), kA3], [([(7, 6), (4, (-1))], 0)], [kR 0, kI 0, kI 10, kI 11], 10), ([(11, (-1))], 24))]
def xT_203 : List (Nat × xCt) := [(61, xc_7), (64, xc_13)]
theorem xv_203 : xVer0 xT_203 xHt 100000 129 xm_X9_bears xc_203 xu_203 = true := by
  rw [← zVer0_eq]
  decide +kernel
theorem xw_203_0 : ((xu_203.drop 0).take 1).all (xVerC xT_203 xHt 100000 129 xm_X9_bears xc_203 xu_203) = true := by
  rw [← zVerC_eq]
  decide +kernel
theorem xok_203 (l : Launch) : xCk l 129 xc_203 := ⟨xm_X9_bears, rfl, xVer_ok xk_all (xHt_ok l) (T := xT_203) (xTc (xok_7 l) (xTc (xok_13 l) (xTn l))) rfl (f := 100000) (cuts := xu_203) xv_203 (xAll0 (xAllS 0 1 xw_203_0 (xAllZ (by decide +kernel))))⟩
def xc_204 : xCt := (([kc442, kc443, kc36, kc13, kc20, kc31, kc14, kc21, kc22, kc23, kc15, kc4, kc5, kc444, kc14, kc14, kc16, kc0, kc28, kc23, kc23, kc14], [kA3, (0, 800), kA3, kA3, (0, 6), (0, 30), kA3, (0, 24), kA3, kA3], [([(7, 6), (4, (-1))], 0)], [kR 0, kI 0], 10), [([kc442, kc443, kc36, kc13, kc20, kc31, kc14, kc21, kc22, kc23, kc15, kc4, kc5, kc63, kc14, kc14, kc16, kc0, kc28, kc23, kc23, kc14], [kA3, (0, 800), kA3, kA3, (0, 6), (0, 30), kA3, (0, 24), kA3, kA3, ((-2), 23), kA3, kA3], [], [kI 10], 10)], 4)
def xu_204 : List xCu := []
def xT_204 : List (Nat × xCt) := [(61, xc_7), (64, xc_13), (74, xc_15)]
theorem xv_204 : xVer0 xT_204 xHt 100000 130 xm_X9_boil xc_204 xu_204 = true := by
  rw [← zVer0_eq]
  decide +kernel
theorem xok_204 (l : Launch) : xCk l 130 xc_204 := ⟨xm_X9_boil, rfl, xVer_ok xk_all (xHt_ok l) (T := xT_204) (xTc (xok_7 l) (xTc (xok_13 l) (xTc (xok_15 l) (xTn l)))) rfl (f := 100000) (cuts := xu_204) xv_204 (fun Cu h => absurd h List.not_mem_nil)⟩
def xc_205 : xCt := (([kc439, kc407, kc90, kc13, kc20, kc31, kc14, kc21, kc22, kc23, kc15, kc4, kc5, kc441, kc14, kc14, kc16, kc0, kc28, kc23, kc23, kc14], [kA3, kA3, (0, 800), kA3, kA3, (0, 6), (0, 30), kA3, (0, 24), kA3, kA3], [([(8, 6), (5, (-1))], 0)], [kR 0, kI 0, kI 1], 10), [([kc439, kc407, kc90, kc13, kc20, kc31, kc14, kc21, kc22, kc23, kc15, kc4, kc5, kc440, kc14, kc14, kc16, kc0, kc28, kc23, kc23, kc14], [kA3, kA3, (0, 800), kA3, kA3, (0, 6), (0, 30), kA3, (0, 24), kA3, kA3, kA3, kA3, kA3], [], [kI 11], 10)], 5)
def xu_205 : List xCu := []
def xT_205 : List (Nat × xCt) := [(61, xc_7), (64, xc_13), (75, xc_16)]
theorem xv_205 : xVer0 xT_205 xHt 100000 131 xm_X9_gain xc_205 xu_205 = true := by
  rw [← zVer0_eq]
  decide +kernel
theorem xok_205 (l : Launch) : xCk l 131 xc_205 := ⟨xm_X9_gain, rfl, xVer_ok xk_all (xHt_ok l) (T := xT_205) (xTc (xok_7 l) (xTc (xok_13 l) (xTc (xok_16 l) (xTn l)))) rfl (f := 100000) (cuts := xu_205) xv_205 (fun Cu h => absurd h List.not_mem_nil)⟩
def xc_206 : xCt := (([kc442, kc443, kc36, kc13, kc20, kc31, kc14, kc21, kc22, kc23, kc15, kc4, kc5, kc444, kc14, kc14, kc16, kc0, kc28, kc23, kc23, kc14], [kA3, (0, 800), kA3, kA3, (0, 6), (0, 30), kA3, (0, 24), kA3, kA3], [([(7, 6), (4, (-1))], 0)], [kR 0, kI 0], 10), [([kc442, kc443, kc36, kc13, kc20, kc31, kc14, kc21, kc22, kc23, kc15, kc4, kc5, kc63, kc14, kc14, kc16, kc0, kc28, kc23, kc23, kc14], [kA3, (0, 800), kA3, kA3, (0, 6), (0, 30), kA3, (0, 24), kA3, kA3, ((-2), 5), kA3, kA3], [], [kI 10], 10)], 5)
def xu_206 : List xCu := [(34, [0, 1, 2, 3, 4], ([kc442, kc443, kc36, kc13, kc20, kc31, kc14, kc21, kc22, kc23, kc15, kc4, kc5, kc75, kc14, kc14, kc16, kc0, kc28, kc23, kc23, kc14], [(0, 23), (0, 800), kA3, kA3, (0, 6), (0, 30), kA3, (1, 24), kA3, kA3, (0, 24), ((-1), 5), (0, 6), kA3], [([(7, 6), (4, (-1))], 0)], [kR 0, kI 0, kI 10, kI 11, kI 12], 10), ([(12, (-1))], 6))]
def xT_206 : List (Nat × xCt) := [(61, xc_7), (78, xc_18)]
theorem xv_206 : xVer0 xT_206 xHt 100000 132 xm_X9_helps xc_206 xu_206 = true := by
  rw [← zVer0_eq]
  decide +kernel
theorem xw_206_0 : ((xu_206.drop 0).take 1).all (xVerC xT_206 xHt 100000 132 xm_X9_helps xc_206 xu_206) = true := by
  rw [← zVerC_eq]
  decide +kernel
theorem xok_206 (l : Launch) : xCk l 132 xc_206 := ⟨xm_X9_helps, rfl, xVer_ok xk_all (xHt_ok l) (T := xT_206) (xTc (xok_7 l) (xTc (xok_18 l) (xTn l))) rfl (f := 100000) (cuts := xu_206) xv_206 (xAll0 (xAllS 0 1 xw_206_0 (xAllZ (by decide +kernel))))⟩
def kc447 : xC := kO 2 [kI 3, kI 4, kR 2, kX 31, kX 32, kX 33, kX 34, kX 35, kX 36, kX 37, kI 5, kX 38, kR 3, kR 4, kI 6]
def xc_207 : xCt := (([kc434, kc447, kc36, kc4, kc5], [kA3, (0, 800), kA3, kA3, (0, 6), (0, 30), kA3, (0, 24)], [([(7, 6), (4, (-1))], 0)], [kR 0, kI 0], 19), [([kc434, kc447, kc36, kc4, kc5], [kA3, (0, 800), kA3, kA3, (0, 6), (0, 30), kA3, (0, 24), kA3], [], [kI 8], 19)], 3)
def xu_207 : List xCu := []
def xT_207 : List (Nat × xCt) := [(25, xc_4)]
theorem xv_207 : xVer0 xT_207 xHt 100000 133 xm_X9_stock xc_207 xu_207 = true := by
  rw [← zVer0_eq]
  decide +kernel
theorem xok_207 (l : Launch) : xCk l 133 xc_207 := ⟨xm_X9_stock, rfl, xVer_ok xk_all (xHt_ok l) (T := xT_207) (xTc (xok_4 l) (xTn l)) rfl (f := 100000) (cuts := xu_207) xv_207 (fun Cu h => absurd h List.not_mem_nil)⟩
def kc448 : xC := kO 2 [kI 2, kI 3, kR 2, kX 31, kX 32, kX 33, kX 34, kX 35, kX 36, kX 37, kI 4, kX 38, kR 3, kR 4, kI 5]
def xc_208 : xCt := (([kc437, kc448, kc12, kc4, kc5], [(0, 800), kA3, kA3, (0, 6), (0, 30), kA3, (0, 24)], [([(6, 6), (3, (-1))], 0)], [kR 0], 19), [([kc437, kc448, kc12, kc4, kc5], [(0, 800), kA3, kA3, (0, 6), (0, 30), kA3, (0, 24), kA3], [], [kI 7], 19)], 3)
def xu_208 : List xCu := []
def xT_208 : List (Nat × xCt) := [(26, xc_5)]
theorem xv_208 : xVer0 xT_208 xHt 100000 134 xm_X9_eaten xc_208 xu_208 = true := by
  rw [← zVer0_eq]
  decide +kernel
theorem xok_208 (l : Launch) : xCk l 134 xc_208 := ⟨xm_X9_eaten, rfl, xVer_ok xk_all (xHt_ok l) (T := xT_208) (xTc (xok_5 l) (xTn l)) rfl (f := 100000) (cuts := xu_208) xv_208 (fun Cu h => absurd h List.not_mem_nil)⟩
def xc_209 : xCt := (([kc437, kc448, kc12, kc4, kc5], [(0, 800), kA3, kA3, (0, 6), (0, 30), kA3, (0, 24)], [([(6, 6), (3, (-1))], 0)], [kR 0], 19), [([kc437, kc448, kc12, kc4, kc5], [(0, 800), kA3, kA3, (0, 6), (0, 30), kA3, (0, 24), ((-2), 23)], [], [kI 7], 19)], 3)
def xu_209 : List xCu := [(15, [0, 1], ([kc437, kc448, kc12, kc4, kc5], [(0, 800), kA3, (1, kW), (0, 6), (0, 30), kA3, (0, 24), (0, 24)], [([(6, 6), (3, (-1))], 0)], [kR 0, kI 7], 19), ([(7, (-1))], 24))]
def xT_209 : List (Nat × xCt) := [(25, xc_4)]
theorem xv_209 : xVer0 xT_209 xHt 100000 135 xm_X9_empty xc_209 xu_209 = true := by
  rw [← zVer0_eq]
  decide +kernel
theorem xw_209_0 : ((xu_209.drop 0).take 1).all (xVerC xT_209 xHt 100000 135 xm_X9_empty xc_209 xu_209) = true := by
  rw [← zVerC_eq]
  decide +kernel
theorem xok_209 (l : Launch) : xCk l 135 xc_209 := ⟨xm_X9_empty, rfl, xVer_ok xk_all (xHt_ok l) (T := xT_209) (xTc (xok_4 l) (xTn l)) rfl (f := 100000) (cuts := xu_209) xv_209 (xAll0 (xAllS 0 1 xw_209_0 (xAllZ (by decide +kernel))))⟩
def xc_210 : xCt := (([kc439, kc407, kc90, kc13, kc20, kc31, kc14, kc21, kc22, kc23, kc15, kc4, kc5, kc441, kc14, kc14, kc16, kc0, kc28, kc23, kc23, kc14], [kA3, kA3, (0, 800), kA3, kA3, (0, 6), (0, 30), kA3, (0, 24), kA3, kA3], [([(8, 6), (5, (-1))], 0)], [kR 0, kI 0, kI 1], 10), [([kc439, kc407, kc90, kc13, kc20, kc31, kc14, kc21, kc22, kc23, kc15, kc4, kc5, kc440, kc14, kc14, kc16, kc0, kc28, kc23, kc23, kc14], [kA3, kA3, (0, 800), kA3, kA3, (0, 6), (0, 30), kA3, (0, 24), kA3, kA3, ((-2), 99), kA3, kA3], [], [kI 11], 10)], 4)
def xu_210 : List xCu := [(34, [0, 1, 2, 3], ([kc439, kc407, kc90, kc13, kc20, kc31, kc14, kc21, kc22, kc23, kc15, kc4, kc5, kc72, kc14, kc14, kc16, kc0, kc28, kc23, kc23, kc14], [(0, 5), (0, 23), (0, 800), kA3, kA3, (1, 6), (0, 30), kA3, (1, 24), kA3, kA3, (0, 100), kA3], [([(8, 6), (5, (-1))], 0)], [kR 0, kI 0, kI 1, kI 11], 10), ([(11, (-1))], 100))]
def xT_210 : List (Nat × xCt) := [(61, xc_7), (81, xc_19)]
theorem xv_210 : xVer0 xT_210 xHt 100000 136 xm_X9_wants xc_210 xu_210 = true := by
  rw [← zVer0_eq]
  decide +kernel
theorem xw_210_0 : ((xu_210.drop 0).take 1).all (xVerC xT_210 xHt 100000 136 xm_X9_wants xc_210 xu_210) = true := by
  rw [← zVerC_eq]
  decide +kernel
theorem xok_210 (l : Launch) : xCk l 136 xc_210 := ⟨xm_X9_wants, rfl, xVer_ok xk_all (xHt_ok l) (T := xT_210) (xTc (xok_7 l) (xTc (xok_19 l) (xTn l))) rfl (f := 100000) (cuts := xu_210) xv_210 (xAll0 (xAllS 0 1 xw_210_0 (xAllZ (by decide +kernel))))⟩
def kc449 : xC := kO 9 [kX 20, kI 1, kR 1, kX 21, kX 22, kX 23, kI 2, kX 24, kR 13, kR 22, kX 25, kX 26, kX 27, kX 28]
def kc450 : xC := kO 5 [kR 1, kR 13, kR 23, kR 24, kI 17, kI 18, kI 19, kI 20]
def kc451 : xC := kO 5 [kR 1, kR 13, kR 23, kR 24, kI 10, kI 11, kI 12, kI 13]
def xc_211 : xCt := (([kc449, kc443, kc36, kc13, kc20, kc31, kc14, kc21, kc22, kc23, kc15, kc4, kc5, kc444, kc14, kc14, kc16, kc0, kc28, kc23, kc23, kc14, kc451, kc14, kc14], [kA3, (0, 800), kA3, kA3, (0, 6), (0, 30), kA3, (0, 24), kA3, kA3, kA3, kA3, kA3, kA3], [([(7, 6), (4, (-1))], 0)], [kR 0, kI 0], 9), [([kc449, kc443, kc36, kc13, kc20, kc31, kc14, kc21, kc22, kc23, kc15, kc4, kc5, kc103, kc14, kc14, kc16, kc0, kc28, kc23, kc23, kc14, kc450, kc14, kc14], [kA3, (0, 800), kA3, kA3, (0, 6), (0, 30), kA3, (0, 24), kA3, kA3, kA3, kA3, kA3, kA3, kA3, kA3, kA3, kA3, kA3, kA3, kA3], [], [kI 14], 9)], 6)
def xu_211 : List xCu := []
def xT_211 : List (Nat × xCt) := [(51, xc_23)]
theorem xv_211 : xVer0 xT_211 xHt 100000 137 xm_X9_hold xc_211 xu_211 = true := by
  rw [← zVer0_eq]
  decide +kernel
theorem xok_211 (l : Launch) : xCk l 137 xc_211 := ⟨xm_X9_hold, rfl, xVer_ok xk_all (xHt_ok l) (T := xT_211) (xTc (xok_23 l) (xTn l)) rfl (f := 100000) (cuts := xu_211) xv_211 (fun Cu h => absurd h List.not_mem_nil)⟩
def kc452 : xC := kO 9 [kX 20, kI 2, kR 1, kX 21, kX 22, kX 23, kI 3, kX 24, kR 13, kR 22, kX 25, kX 26, kX 27, kX 28]
def kc453 : xC := kO 5 [kR 1, kR 13, kR 23, kR 24, kI 18, kI 19, kI 20, kI 21]
def kc454 : xC := kO 5 [kR 1, kR 13, kR 23, kR 24, kI 11, kI 12, kI 13, kI 14]
def xc_212 : xCt := (([kc452, kc407, kc90, kc13, kc20, kc31, kc14, kc21, kc22, kc23, kc15, kc4, kc5, kc441, kc14, kc14, kc16, kc0, kc28, kc23, kc23, kc14, kc454, kc14, kc14], [kA3, kA3, (0, 800), kA3, kA3, (0, 6), (0, 30), kA3, (0, 24), kA3, kA3, kA3, kA3, kA3, kA3], [([(8, 6), (5, (-1))], 0)], [kR 0, kI 0, kI 1], 9), [([kc452, kc407, kc90, kc13, kc20, kc31, kc14, kc21, kc22, kc23, kc15, kc4, kc5, kc54, kc14, kc14, kc16, kc0, kc28, kc23, kc23, kc14, kc453, kc14, kc14], [kA3, kA3, (0, 800), kA3, kA3, (0, 6), (0, 30), kA3, (0, 24), kA3, kA3, kA3, kA3, kA3, kA3, kA3, kA3, kA3, kA3, kA3, kA3, kA3], [], [kI 15], 9)], 6)
def xu_212 : List xCu := []
def xT_212 : List (Nat × xCt) := [(51, xc_23)]
theorem xv_212 : xVer0 xT_212 xHt 100000 139 xm_X9_share xc_212 xu_212 = true := by
  rw [← zVer0_eq]
  decide +kernel
theorem xok_212 (l : Launch) : xCk l 139 xc_212 := ⟨xm_X9_share, rfl, xVer_ok xk_all (xHt_ok l) (T := xT_212) (xTc (xok_23 l) (xTn l)) rfl (f := 100000) (cuts := xu_212) xv_212 (fun Cu h => absurd h List.not_mem_nil)⟩
def xc_213 : xCt := (([kc449, kc443, kc36, kc13, kc20, kc31, kc14, kc21, kc22, kc23, kc15, kc4, kc5, kc444, kc14, kc14, kc16, kc0, kc28, kc23, kc23, kc14, kc451, kc14, kc14], [kA3, (0, 800), kA3, kA3, (0, 6), (0, 30), kA3, (0, 24), kA3, kA3, kA3, kA3, kA3, kA3], [([(7, 6), (4, (-1))], 0)], [kR 0, kI 0], 9), [([kc449, kc443, kc36, kc13, kc20, kc31, kc14, kc21, kc22, kc23, kc15, kc4, kc5, kc103, kc14, kc14, kc16, kc0, kc28, kc23, kc23, kc14, kc450, kc14, kc14], [kA3, (0, 800), kA3, kA3, (0, 6), (0, 30), kA3, (0, 24), kA3, kA3, kA3, kA3, kA3, kA3, kA3, kA3, kA3, kA3, kA3, kA3, kA3], [], [kI 14], 9)], 6)
def xu_213 : List xCu := []
def xT_213 : List (Nat × xCt) := [(51, xc_23)]
theorem xv_213 : xVer0 xT_213 xHt 100000 140 xm_X9_shares xc_213 xu_213 = true := by
  rw [← zVer0_eq]
  decide +kernel
theorem xok_213 (l : Launch) : xCk l 140 xc_213 := ⟨xm_X9_shares, rfl, xVer_ok xk_all (xHt_ok l) (T := xT_213) (xTc (xok_23 l) (xTn l)) rfl (f := 100000) (cuts := xu_213) xv_213 (fun Cu h => absurd h List.not_mem_nil)⟩
