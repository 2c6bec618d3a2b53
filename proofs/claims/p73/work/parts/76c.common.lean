/-! common: Euclid, by hand: it ends within 128 frames, and answers what is not 0. -/
theorem x_rem64n {x y : Int64} (hy : ¬ y = 0) : (x - x / y * y).toInt = x.toInt.tmod y.toInt := by
  by_cases hm : x = Int64.minValue ∧ y = -1
  · obtain ⟨rfl, rfl⟩ := hm
    decide
  · have hd : (x / y).toInt = x.toInt.tdiv y.toInt := by
      by_cases h1 : y = -1
      · exact Int64.toInt_div_of_ne_left x y (fun h => hm ⟨h, h1⟩)
      · exact Int64.toInt_div_of_ne_right x y h1
    have hx := x_b64 x
    have hmm := Int.mul_tdiv_add_tmod x.toInt y.toInt
    have e1 : x - x / y * y = Int64.ofInt (x.toInt - x.toInt.tdiv y.toInt * y.toInt) := by
      rw [Int64.ofInt_sub, Int64.ofInt_mul, ← hd, Int64.ofInt_toInt, Int64.ofInt_toInt, Int64.ofInt_toInt]
    have e2 : x.toInt - x.toInt.tdiv y.toInt * y.toInt = x.toInt.tmod y.toInt := by
      rw [Int.mul_comm]
      omega
    have hb : (x.toInt.tmod y.toInt).natAbs ≤ x.toInt.natAbs := by
      rw [Int.natAbs_tmod]
      exact Nat.mod_le _ _
    have hs : x.toInt ≤ 0 → x.toInt.tmod y.toInt ≤ 0 := fun h => by
      have := Int.tmod_nonneg y.toInt (show 0 ≤ -x.toInt by omega)
      rw [Int.neg_tmod] at this
      omega
    rw [e1, e2]
    exact x_of64 (by omega) (by omega)
theorem xCm_mem14 : ((14, 3, 100, 314, 0, 458) : xQ) ∈ xm_X10_common.pg := by decide +kernel
def xCmMet (l : Launch) (d : Nat) (x y : Int64) : Prop := ∀ (D : va_G) (A : Nat → Prop) (ex : List Nat), Met l xm_X10_common.yy (Jvm.Cond.code xm_X10_common.yy xm_X10_common.cc xm_X10_common.nl xm_X10_common.rt :: xU) { frames := d, cells := xm_X10_common.mc, slots := xm_X10_common.ms, locals := 40 * d } (fun v U => v = ([.long x, .long y] : List Value).toArray ∧ (xPre D A [] [] ex [] U ∧ xGlo A U ex)) (fun _ st oc t => (∃ v, oc = .returned v ∧ ∃ z : Int64, v = some (.long z) ∧ z ≠ 0) ∧ va_F A st t) xm_X10_common.mc xm_X10_common.ms A
theorem xCm_step (l : Launch) {d : Nat} {x y : Int64} (hxy : y = 0 → x ≠ 0) (hrec : y ≠ 0 → xCmMet l d y (x - x / y * y))
    {p : Program} {e : Env} {R : Room} {s : State} {m : MethodId} {args : Array Value} {below : List Frame} {meth : Method} {c : Code} {ls : Array Slot} {D : va_G} {A : Nat → Prop} {ex : List Nat} {Qc : Array Value → State → Outcome → State → Prop}
    (C : xCtx p s m args c xm_X10_common.cc xm_X10_common.nl xm_X10_common.yy.cls) (hret : meth.sig.returnType = some .long) (hlk : meth.locks = false) (hA : ∀ q, s.heap.size ≤ q → A q) (hW : xWd D A s s.heap [] [] [] ex []) (hgl : xGlo A s ex) (hRf : y ≠ 0 → d + 1 ≤ R.frames) (hRl : y ≠ 0 → 40 * (d + 1) ≤ R.locals) (hl : lv_has ls 4 [(0, .long x), (2, .long y)])
    (fin : ∀ (z : Int64) (t : State), z ≠ 0 → s.WarmedH t.vm → va_F A s t → Qc args s (.returned (some (.long z))) t) : W p l e R s m args below meth c s.heap [] 0 0 (MQ below Qc args s 0 0 A) (F0 m 0 ls []) := by
  obtain ⟨hx, hb, hml, hown, hg, hn0⟩ := id C
  have hb : c.code = cX10_common := hb
  obtain ⟨ws0, tys0, hK0, hP0, hD0, hSS0, hh0⟩ := id hW
  refine lv_lload_n hx hb (k := 2) (by decide +kernel) rfl (lv_at hl 1 rfl) ?_
  refine lv_lconst hx hb (show decode cX10_common 1 = .ok (.lconst 0, 1) by decide +kernel) rfl ?_
  refine W.lcmp hx hb (by decide +kernel) ?_
  have d0 : (Int64.ofNat 0).toInt = 0 := rfl
  have z0 : (0 : Int64).toInt = 0 := rfl
  have go : ¬ y = 0 → W p l e R s m args below meth c s.heap [] 0 0 (MQ below Qc args s 0 0 A) (F0 m 10 ls []) := fun hy => by
    refine lv_lload_n hx hb (k := 2) (by decide +kernel) rfl (lv_at hl 1 rfl) ?_
    refine lv_lload_n hx hb (k := 0) (by decide +kernel) rfl (lv_at hl 0 rfl) ?_
    refine lv_lload_n hx hb (k := 2) (by decide +kernel) rfl (lv_at hl 1 rfl) ?_
    refine lv_lrem hx hb (by decide +kernel) hy ?_
    have hrow := ((xk_all xm_X10_common (List.mem_of_getElem? (i := 314) rfl)).1 _ xCm_mem14).1
    refine xInvoke xk_all l (M := xm_X10_common) (M' := xm_X10_common) (er := (14, 3, 100, 314, 0, 458)) (D := D) (A := A) (A1 := A) (d' := d) (nc := 0) (ns := 0) (h := []) (ρ := [y.toInt, (x - x / y * y).toInt]) (ad := []) (ex := ex) (as := [.inr (.inl (some 0, 0)), .inr (.inl (some 1, 0))]) (As := [.long y, .long (x - x / y * y)]) (rest := []) (loc := []) (Pre := fun U => xPre D A [] [] ex [] U ∧ xGlo A U ex) (Post := fun v _ => ∃ z : Int64, v = some (.long z) ∧ z ≠ 0) C hrow rfl (by decide) (hRf hy) (hRl hy) ⟨Nat.zero_le _, Nat.zero_le _⟩ rfl rfl (Nat.zero_le _) ⟨⟨y, rfl, by simp [xe]⟩, ⟨x - x / y * y, rfl, by simp [xe]⟩, trivial⟩ rfl rfl ⟨[], ⟨hl.1, hl.2.1, fun q hq => absurd hq List.not_mem_nil⟩, trivial⟩ (hW.mono ⟨_, rfl⟩) (hrec hy D A ex) ?_ (fun U hU hWU => ?_) (fun q _ hq => hq) (fun q hq => hq) (fun v t H1 locs1 ht1 hvm hpost hkp hSS1 => ?_)
    · intro a U g mk hp
      obtain ⟨h1, ⟨h2, h3, h4⟩, h5⟩ := hp
      exact ⟨h1, ⟨h2, fun w hw hn => xNest_same (u := U) (U := U.calling g mk a) rfl w hn (h3 w hw hn), h4.alikeU (U := U.calling g mk a) rfl (Vm.Alike.refl U.vm)⟩, h5.same (U := U.calling g mk a) rfl rfl⟩
    · exact ⟨⟨fun q hq => hA q (by rw [← hU]; exact hq), fun w hw hn => xNest_warm hWU w hn (hn0 w hw hn), hW.alikeU hU hWU.alike⟩, hgl.call hU hWU hSS0 (fun _ q => q) (fun _ _ => rfl) hgl.1⟩
    · obtain ⟨z, rfl, hz⟩ := hpost
      exact W.lret hx hb hret (fun t2 ht2 hWt => fin z t2 hz hWt (hSS1.F ht2)) hSS1.2.2 (by decide +kernel) hlk
  rcases x_lcmp y (Int64.ofNat 0) with ⟨e1, e2⟩ | ⟨e1, e2⟩ | ⟨e1, e2⟩
  · refine lv_if_ne hx hb (off := 7) (tgt := 10) (by decide +kernel) (by decide) (fun _ => go (fun h => by rw [h, d0, z0] at e2; exact absurd e2 (by decide))) (fun h => ?_)
    have e1 : lg_cmp y (Int64.ofNat 0) = 0 := h
    rcases x_lcmp y (Int64.ofNat 0) with ⟨f1, -⟩ | ⟨f1, f2⟩ | ⟨f1, -⟩
    · rw [f1] at e1; exact absurd e1 (by decide)
    · omega
    · rw [f1] at e1; exact absurd e1 (by decide)
  · have hy : y = 0 := Int64.toInt_inj.mp (by rw [e2, d0, z0])
    refine lv_if_ne hx hb (off := 7) (tgt := 10) (by decide +kernel) (by decide) (fun h => absurd e1 h) (fun _ => ?_)
    refine lv_lload_n hx hb (k := 0) (by decide +kernel) rfl (lv_at hl 0 rfl) ?_
    refine lv_goto hx hb (off := 10) (tgt := 17) (by decide +kernel) (by decide) ?_
    exact W.lret hx hb hret (fun t ht hWt => fin x t (hxy hy) hWt (hSS0.F ht)) hSS0.2.2 (by decide +kernel) hlk
  · refine lv_if_ne hx hb (off := 7) (tgt := 10) (by decide +kernel) (by decide) (fun _ => go (fun h => by rw [h, d0, z0] at e2; exact absurd e2 (by decide))) (fun h => ?_)
    have e1 : lg_cmp y (Int64.ofNat 0) = 0 := h
    rcases x_lcmp y (Int64.ofNat 0) with ⟨f1, -⟩ | ⟨f1, f2⟩ | ⟨f1, -⟩
    · rw [f1] at e1; exact absurd e1 (by decide)
    · omega
    · rw [f1] at e1; exact absurd e1 (by decide)
theorem xCm_one (l : Launch) {d : Nat} {x y : Int64} (hxy : y = 0 → x ≠ 0) (hd : y ≠ 0 → ∃ d1, d1 + 1 ≤ d ∧ xCmMet l d1 y (x - x / y * y)) : xCmMet l d x y := by
  intro D A ex
  obtain ⟨hRw', hnl', hpl', hds', hcw', hiw', hk0', hk1', hk2'⟩ := xk_all xm_X10_common (List.mem_of_getElem? (i := 314) rfl)
  refine Met.ofW (cc := xm_X10_common.cc) (maxL := xm_X10_common.nl) (ret := xm_X10_common.rt) hpl' rfl ?_
  intro p e s m args below meth c s₁ B hml hv2
  obtain ⟨rfl, ⟨hA, hN, hW⟩, hgl⟩ := hv2
  have hts := atoms_spec (ws := Jvm.Cond.code xm_X10_common.yy xm_X10_common.cc xm_X10_common.nl xm_X10_common.rt :: xU) B.pre
  have C : xCtx p s m ([.long x, .long y] : List Value).toArray c xm_X10_common.cc xm_X10_common.nl xm_X10_common.yy.cls := ⟨B.exec, B.bytes, hml, findClass_of_methodNamed B.named, fun w hw hgw => hts w (List.mem_cons_of_mem _ (xU_mem hw hgw)), hN⟩
  have hl := lv_entry ([.long x, .long y]) (n := 4) (Nat.le_of_ble_eq_true rfl)
  show W p l e _ s m _ below meth c s.heap [] 0 0 _ (entryFrame m ([.long x, .long y] : List Value).toArray 4)
  rw [lg_entry_eq]
  have fin : ∀ (z : Int64) (t : State), z ≠ 0 → s.WarmedH t.vm → va_F A s t → ((∃ v, Outcome.returned (some (.long z)) = .returned v ∧ ∃ z' : Int64, v = some (.long z') ∧ z' ≠ 0) ∧ va_F A s t) := fun z t hz _ hF => ⟨⟨_, rfl, z, rfl, hz⟩, hF⟩
  by_cases hy : y = 0
  · exact xCm_step l (d := 0) hxy (fun h => absurd hy h) C B.returns B.notSynchronized hA hW hgl (fun h => absurd hy h) (fun h => absurd hy h) hl fin
  · obtain ⟨d1, h1, h2⟩ := hd hy
    exact xCm_step l (d := d1) hxy (fun _ => h2) C B.returns B.notSynchronized hA hW hgl (fun _ => h1) (fun _ => by show 40 * (d1 + 1) ≤ 40 * d; omega) hl fin
theorem x_mod_half {a b : Nat} (h1 : b ≤ a) (h2 : 0 < b) : a % b ≤ a - b := by
  rw [Nat.mod_eq_sub_mod h1]
  exact Nat.mod_le _ _
theorem xCm_all (l : Launch) : ∀ (k d : Nat), 2 * k ≤ d → ∀ (x y : Int64), y.toInt.natAbs < 2 ^ k → (y = 0 → x ≠ 0) → xCmMet l d x y := by
  intro k
  have z0 : (0 : Int64).toInt = 0 := rfl
  have nz : ∀ y : Int64, y ≠ 0 → 0 < y.toInt.natAbs := fun y hy => by
    rcases Nat.eq_zero_or_pos y.toInt.natAbs with h | h
    · exact absurd (Int64.toInt_inj.mp (by rw [z0]; omega)) hy
    · exact h
  induction k with
  | zero =>
    intro d _ x y hy hxy
    exact xCm_one l hxy (fun h => by
      have := nz y h
      have : (2 : Nat) ^ 0 = 1 := rfl
      omega)
  | succ k ih =>
    intro d hd x y hy hxy
    refine xCm_one l hxy (fun hy0 => ⟨d - 1, by omega, ?_⟩)
    have hp : (2 : Nat) ^ (k + 1) = 2 ^ k + 2 ^ k := by rw [Nat.pow_succ]; omega
    have hr : (x - x / y * y).toInt.natAbs = x.toInt.natAbs % y.toInt.natAbs := by rw [x_rem64n hy0, Int.natAbs_tmod]
    have hlt := Nat.mod_lt x.toInt.natAbs (nz y hy0)
    by_cases hs : (x - x / y * y).toInt.natAbs < 2 ^ k
    · exact ih (d - 1) (by omega) y _ hs (fun _ => hy0)
    · refine xCm_one l (fun _ => hy0) (fun hr0 => ⟨d - 2, by omega, ?_⟩)
      have hr2 : (y - y / (x - x / y * y) * (x - x / y * y)).toInt.natAbs = y.toInt.natAbs % (x - x / y * y).toInt.natAbs := by rw [x_rem64n hr0, Int.natAbs_tmod]
      have hh := x_mod_half (a := y.toInt.natAbs) (b := (x - x / y * y).toInt.natAbs) (by omega) (nz _ hr0)
      exact ih (d - 2) (by omega) _ _ (by omega) (fun _ => hr0)
def xcCommon : xCt := (([], [kA6, (1, kWl)], [], [kJ 0, kJ 1], 0), [([], [kA6, (1, kWl), (1, kWl)], [], [kJ 2], 0), ([], [kA6, (1, kWl), (kMl, (-1))], [], [kJ 2], 0)], 200)
theorem xCommon_ok (l : Launch) : xCk l 314 xcCommon := by
  refine ⟨xm_X10_common, rfl, ?_⟩
  intro D A ρ0 ad0 ex As d' hd'
  have hd' : 200 ≤ d' := hd'
  obtain ⟨hRw', hnl', hpl', hds', hcw', hiw', hk0', hk1', hk2'⟩ := xk_all xm_X10_common (List.mem_of_getElem? (i := 314) rfl)
  refine Met.ofW (cc := xm_X10_common.cc) (maxL := xm_X10_common.nl) (ret := xm_X10_common.rt) hpl' rfl ?_
  intro p e s m args below meth c s₁ B hml hv2
  obtain ⟨rfl, hS0, hF0, hvals, ⟨hA, hN, hW⟩, hgl, hex⟩ := hv2
  obtain ⟨w1, t1, rfl, ⟨x, rfl, q1⟩, p2⟩ := xAll2.cons (show xAll2 (xv ρ0 ad0 ex) [kJ 0, kJ 1] As from hvals)
  obtain ⟨w2, t2, rfl, ⟨y, rfl, q3⟩, p4⟩ := p2.cons
  have := p4.nil
  subst this
  have hyb := xrg_ok (r := (1 + 0, kWl + 0)) hS0 q3 rfl
  have z0 : (0 : Int64).toInt = 0 := rfl
  have hy : ¬ y = 0 := fun h => by
    rw [h, z0] at hyb
    have := hyb.1
    omega
  have hts := atoms_spec (ws := Jvm.Cond.code xm_X10_common.yy xm_X10_common.cc xm_X10_common.nl xm_X10_common.rt :: xU) B.pre
  have C : xCtx p s m ([.long x, .long y] : List Value).toArray c xm_X10_common.cc xm_X10_common.nl xm_X10_common.yy.cls := ⟨B.exec, B.bytes, hml, findClass_of_methodNamed B.named, fun w hw hgw => hts w (List.mem_cons_of_mem _ (xU_mem hw hgw)), hN⟩
  obtain ⟨ws0, tys0, hK0, hP0, hD0, hSS0, hh0⟩ := id hW
  have hK00 : va_K D xcl [] s := ⟨hK0.1, fun k q h => by simp at h⟩
  have hW0 : xWd D A s s.heap [] [] [] ex [] := ⟨[], [], hK00, fun k q h => by simp at h, ⟨fun i j p q h => by simp at h, fun k q h => by simp at h⟩, va_S.rf, rfl, trivial⟩
  have hl := lv_entry ([.long x, .long y]) (n := 4) (Nat.le_of_ble_eq_true rfl)
  show W p l e _ s m _ below meth c s.heap [] 0 0 _ (entryFrame m ([.long x, .long y] : List Value).toArray 4)
  rw [lg_entry_eq]
  have had : ad0 = [] := by
    have := hh0.lenAd
    exact List.eq_nil_of_length_eq_zero this
  subst had
  refine xCm_step l (d := d' - 1) (fun h => absurd h hy) (fun _ => xCm_all l 64 (d' - 1) (by omega) _ _ ?_ (fun _ => hy)) C B.returns B.notSynchronized hA hW0 hgl (fun _ => by show d' - 1 + 1 ≤ d'; omega) (fun _ => by show 40 * (d' - 1 + 1) ≤ 40 * d'; omega) hl (fun z t hz hWt hF => ?_)
  · have := x_b64 (x - x / y * y)
    have hp : (2 : Nat) ^ 64 = 18446744073709551616 := by decide
    rw [hp]
    omega
  · have hzb := x_b64 z
    have hz0 : ¬ z.toInt = 0 := fun h => hz (Int64.toInt_inj.mp (by rw [h, z0]))
    have hw : ∃ ws tys, va_K D xcl tys t ∧ va_P D xcl ws t.heap ∧ xHp (ρ0 ++ [z.toInt]) [] ex tys [] ws := ⟨[], [], hK00.moved hWt.alike, fun k q h => by simp at h, rfl, trivial⟩
    have hlen : ρ0.length = 2 := hS0.1.symm
    have hv3 : xAll2 (xv (ρ0 ++ [z.toInt]) [] ex) [kJ 2] [.long z] := by
      refine ⟨⟨z, rfl, ?_⟩, trivial⟩
      simp only [xe]
      rw [← hlen, List.getElem?_concat_length]
      simp
    refine ⟨⟨_, rfl, ?_⟩, hF⟩
    rcases Int.lt_or_le z.toInt 0 with h | h
    · exact ⟨_, by unfold xcCommon; exact List.mem_cons_of_mem _ List.mem_cons_self, ρ0 ++ [z.toInt], ⟨_, rfl⟩, xSt.push hS0 (z := z.toInt) (lo := kMl) (hi := -1) (by unfold kMl; omega) (by omega), fun q hq => absurd hq List.not_mem_nil, hv3, hw⟩
    · exact ⟨_, by unfold xcCommon; exact List.mem_cons_self, ρ0 ++ [z.toInt], ⟨_, rfl⟩, xSt.push hS0 (z := z.toInt) (lo := 1) (hi := kWl) (by omega) (by unfold kWl; omega), fun q hq => absurd hq List.not_mem_nil, hv3, hw⟩
