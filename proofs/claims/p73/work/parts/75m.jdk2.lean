/-! The JDK's methods of texts: an index is tried, a letter is read, a length. -/
theorem x_char (x : Int32) : 0 ≤ ((x.toUInt32 % 65536).toInt32).toInt ∧ ((x.toUInt32 % 65536).toInt32).toInt ≤ 65535 := by
  rw [pk_char, nI_toInt (by have := Nat.mod_lt x.toBitVec.toNat (show 65536 > 0 by decide); omega)]
  have := Nat.mod_lt x.toBitVec.toNat (show 65536 > 0 by decide)
  omega
/-- the index is good: nothing happens -/
theorem xJ_chk3 (l : Launch) (d : Nat) {i n : Int32} {w : Value} (hw : w = .null ∨ ∃ t, w = .ref t) (h0 : ¬ i < 0) (h1 : i < n) : Met l yJ3_checkIndex_8e157 (Jvm.Cond.code yJ3_checkIndex_8e157 cJ3_checkIndex_8e157 3 (some .int) :: xU) { frames := d, cells := 0, slots := 0, locals := 40 * d } (fun v U => v = ([.int i, .int n, w] : List Value).toArray ∧ True) (fun _ st oc t => (∃ v, oc = .returned v ∧ v = some (.int i)) ∧ va_F xNo st t) 0 0 xNo := by
  refine Met.ofW (cc := cJ3_checkIndex_8e157) (maxL := 3) (ret := some .int) (by decide) rfl ?_
  intro p e s m args below meth c s₁ B hml hv
  obtain ⟨rfl, -⟩ := hv
  have hx := B.exec
  have hb := B.bytes
  have hlen : (lg_sl ([.int i, .int n, w])).length ≤ 3 := by
    rcases hw with rfl | ⟨t, rfl⟩ <;> exact Nat.le_of_ble_eq_true rfl
  have hl := lv_entry ([.int i, .int n, w]) (n := 3) hlen
  rw [lg_entry_eq]
  generalize (lg_sl ([.int i, .int n, w]) ++ List.replicate (3 - (lg_sl ([.int i, .int n, w])).length) Slot.unset).toArray = ls at hl ⊢
  have hl : lv_has ls 3 [(0, .int i), (1, .int n), (2, w)] := hl
  refine lv_iload_n hx hb (k := 0) (by decide +kernel) rfl (lv_at hl 0 rfl) ?_
  refine lv_if_lt hx hb (off := 8) (tgt := 9) (by decide +kernel) (by decide) (fun h => absurd h h0) (fun _ => ?_)
  refine lv_iload_n hx hb (k := 0) (by decide +kernel) rfl (lv_at hl 0 rfl) ?_
  refine lv_iload_n hx hb (k := 1) (by decide +kernel) rfl (lv_at hl 1 rfl) ?_
  refine lv_icmp_lt hx hb (off := 10) (tgt := 16) (by decide +kernel) (by decide) (fun _ => ?_) (fun h => absurd h1 h)
  refine lv_iload_n hx hb (k := 0) (by decide +kernel) rfl (lv_at hl 0 rfl) ?_
  exact W.iret hx hb B.returns (fun t ht hW => ⟨⟨_, rfl, rfl⟩, by rw [va_F, ht]; exact ⟨Nat.le_refl _, fun _ _ _ => rfl⟩⟩) (fun q hq => absurd hq List.not_mem_nil) (by decide +kernel) B.notSynchronized
theorem xBlindT {vs : Array Value} : FrameBlind (fun v (_ : State) => v = vs ∧ True) := fun a U g mk hp => hp
theorem xF0 {s t : State} {H1 : Heap} (ht : t.heap = H1) (h1 : s.heap.size ≤ H1.size) (h2 : ∀ q : Nat, q < s.heap.size → H1[q]? = s.heap[q]?) : va_F xNo s t := by
  rw [va_F, ht]
  exact ⟨h1, fun q hq _ => h2 q hq⟩
theorem xSw {A : Nat → Prop} {H0 H : Heap} {locs : List Loc} (h : va_S xNo H0 H locs) : va_S A H0 H locs := ⟨h.1, fun q hq _ => h.2.1 q hq (fun z => z), fun q hq => (h.2.2 q hq).elim⟩
theorem xJ_chk (l : Launch) (d : Nat) (hd : 1 ≤ d) {A : Nat → Prop} {ex : List Nat} {i n : Int32} (h0 : ¬ i < 0) (h1 : i < n) : Met l yJ0_checkIndex_df160 (Jvm.Cond.code yJ0_checkIndex_df160 cJ0_checkIndex_df160 2 none :: xU) { frames := d, cells := 0, slots := 0, locals := 40 * d } (fun v U => v = ([.int i, .int n] : List Value).toArray ∧ xGlo A U ex) (fun _ st oc t => (∃ v, oc = .returned v ∧ v = none) ∧ va_F xNo st t) 0 0 xNo := by
  refine Met.ofW (cc := cJ0_checkIndex_df160) (maxL := 2) (ret := none) (by decide) rfl ?_
  intro p e s m args below meth c s₁ B hml hv
  obtain ⟨rfl, hgl⟩ := hv
  have hu := xJws (atoms_spec (ws := Jvm.Cond.code yJ0_checkIndex_df160 cJ0_checkIndex_df160 2 none :: xU) B.pre)
  have hx := B.exec
  have hb := B.bytes
  have hown := findClass_of_methodNamed B.named
  obtain ⟨-, -, -, -, -, -, hzq⟩ := id hgl
  have hl := lv_entry ([.int i, .int n]) (n := 2) (Nat.le_of_ble_eq_true rfl)
  rw [lg_entry_eq]
  generalize (lg_sl ([.int i, .int n]) ++ List.replicate (2 - (lg_sl ([.int i, .int n])).length) Slot.unset).toArray = ls at hl ⊢
  have hl : lv_has ls 2 [(0, .int i), (1, .int n)] := hl
  have hsz : c.maxLocals = ls.size := by rw [hml, hl.1]
  have go : ∀ w : Value, (w = .null ∨ ∃ t, w = .ref t) → W p l e { frames := d, cells := 0, slots := 0, locals := 40 * d } s m ([.int i, .int n] : List Value).toArray below meth c s.heap [] 0 0 (MQ below (fun _ st oc t => (∃ v, oc = .returned v ∧ v = none) ∧ va_F xNo st t) ([.int i, .int n] : List Value).toArray s 0 0 xNo) (F0 m 5 ls [w, .int n, .int i]) := by
    intro w hw
    refine xJcallS (A := xNo) (As := [.int i, .int n, w]) (rest := []) (d' := d - 1) (nl := 3) hx hb hsz hown hu xj_chk3_c xj_chk3_n xj_chk3_s xj_l7 (na := 3) (by decide) (xJ_chk3 l (d - 1) hw h0 h1) xBlindT (fun _ _ _ => trivial) (H0 := s.heap) xSrf (by show d - 1 + 1 ≤ d; omega) (by show 40 * (d - 1 + 1) ≤ 40 * d; omega) (by decide) (by decide) rfl (Nat.zero_le _) (Nat.zero_le _) (by decide +kernel) (fun v t H1 locs1 ht hv hk hS1 => ?_)
    subst hv
    refine lv_pop hx hb (va := .int i) (by decide +kernel) rfl ?_
    exact W.vret hx hb B.returns (fun t2 ht2 hW => ⟨⟨_, rfl, rfl⟩, xF0 ht2 hS1.1 hk⟩) (fun q hq => hS1.2.2 q hq) (by decide +kernel) B.notSynchronized
  refine lv_iload_n hx hb (k := 0) (by decide +kernel) rfl (lv_at hl 0 rfl) ?_
  refine lv_iload_n hx hb (k := 1) (by decide +kernel) rfl (lv_at hl 1 rfl) ?_
  rcases hzq with hz | ⟨t, hz⟩
  · exact va_gets (A := A) hx hb hz xSrf hown (hu _ xj_f4 rfl) (fun _ q => q) (by decide +kernel) (go .null (Or.inl rfl))
  · exact va_gets (A := A) hx hb hz xSrf hown (hu _ xj_f4 rfl) (fun _ q => q) (by decide +kernel) (go (.ref t) (Or.inr ⟨t, rfl⟩))
/-- a letter: between 0 and 65535 -/
abbrev xLetter (v : Option Value) : Prop := ∃ z : Int32, v = some (.int z) ∧ 0 ≤ z.toInt ∧ z.toInt ≤ 65535
theorem xJ_cha1 (l : Launch) (d : Nat) (hd : 2 ≤ d) {A : Nat → Prop} {ex : List Nat} {adV : Nat → Nat} {k : Nat} (hk : k < 17) {i : Int32} {n : Nat} (hn : xslen.getD k 0 = n) (hin : vp_in i n) (hn2 : n < 1000) : Met l yJ1_charAt_3b067 (Jvm.Cond.code yJ1_charAt_3b067 cJ1_charAt_3b067 2 (some .char) :: xU) { frames := d, cells := 0, slots := 0, locals := 40 * d } (fun v U => v = ([.ref (adV k), .int i] : List Value).toArray ∧ (xGlo A U ex ∧ vk_S 17 xslen xsbyt (fun i => xexa ex (i + 1)) adV A U U.heap)) (fun _ st oc t => (∃ v, oc = .returned v ∧ xLetter v) ∧ va_F xNo st t) 0 0 xNo := by
  refine Met.ofW (cc := cJ1_charAt_3b067) (maxL := 2) (ret := some .char) (by decide) rfl ?_
  intro p e s m args below meth c s₁ B hml hv
  obtain ⟨rfl, hgl, hs⟩ := hv
  have hu := xJws (atoms_spec (ws := Jvm.Cond.code yJ1_charAt_3b067 cJ1_charAt_3b067 2 (some .char) :: xU) B.pre)
  have hx := B.exec
  have hb := B.bytes
  have hown := findClass_of_methodNamed B.named
  have hT := (hs.1 k hk).2.2.2
  rw [hn] at hT
  have hl := lv_entry ([.ref (adV k), .int i]) (n := 2) (Nat.le_of_ble_eq_true rfl)
  rw [lg_entry_eq]
  generalize (lg_sl ([.ref (adV k), .int i]) ++ List.replicate (2 - (lg_sl ([.ref (adV k), .int i])).length) Slot.unset).toArray = ls at hl ⊢
  have hl : lv_has ls 2 [(0, .ref (adV k)), (1, .int i)] := hl
  have hsz : c.maxLocals = ls.size := by rw [hml, hl.1]
  have hz := vp_in_iff.mp hin
  have en : (Int32.ofNat n).toInt = (n : Int) := x_nat32 (by omega)
  have d0 : (0 : Int32).toInt = 0 := rfl
  refine lv_iload_n hx hb (k := 1) (by decide +kernel) rfl (lv_at hl 1 rfl) ?_
  refine lv_aload_n hx hb (k := 0) (by decide +kernel) rfl (lv_at hl 0 rfl) ?_
  refine va_tlen (A := A) hx hb hT xSrf rfl (by decide +kernel) ?_
  refine xJcallS (A := xNo) (As := [.int i, .int (Int32.ofNat n)]) (rest := []) (d' := d - 1) (nl := 2) hx hb hsz hown hu xj_chk_c xj_chk_n xj_chk_s xj_l6 (na := 2) (by decide) (xJ_chk l (d - 1) (by omega) (A := A) (ex := ex) (by rw [Int32.lt_iff_toInt_lt]; omega) (by rw [Int32.lt_iff_toInt_lt]; omega)) xGloBlind (xGloIn hgl xSrf) (H0 := s.heap) xSrf (by show d - 1 + 1 ≤ d; omega) (by show 40 * (d - 1 + 1) ≤ 40 * d; omega) (by decide) (by decide) rfl (Nat.zero_le _) (Nat.zero_le _) (by decide +kernel) (fun v t H1 locs1 ht hv hk2 hS1 => ?_)
  subst hv
  refine lv_aload_n hx hb (k := 0) (by decide +kernel) rfl (lv_at hl 0 rfl) ?_
  refine lv_iload_n hx hb (k := 1) (by decide +kernel) rfl (lv_at hl 1 rfl) ?_
  refine va_tb (A := A) hx hb hT (xSw hS1) hin rfl (by decide +kernel) ?_
  refine lv_sipush hx hb (show decode cJ1_charAt_3b067 9 = .ok (.sipush 255, 3) by decide +kernel) rfl ?_
  refine lv_iand hx hb (by decide +kernel) ?_
  refine lv_i2c hx hb (by decide +kernel) rfl ?_
  exact W.zret (ty := .char) hx hb B.returns (pk_nc _) (fun t2 ht2 hW => ⟨⟨_, rfl, _, rfl, x_char _⟩, xF0 ht2 hS1.1 hk2⟩) (fun q hq => hS1.2.2 q hq) (by decide +kernel) B.notSynchronized
/-- String.charAt -/
theorem xJ_cha (l : Launch) (d : Nat) (hd : 3 ≤ d) {A : Nat → Prop} {ex : List Nat} {k : Nat} (hk : k < 17) {i : Int32} {n : Nat} (hn : xslen.getD k 0 = n) (hin : vp_in i n) (hn2 : n < 1000) : Met l yJ0_charAt_5068e (Jvm.Cond.code yJ0_charAt_5068e cJ0_charAt_5068e 2 (some .char) :: xU) { frames := d, cells := 0, slots := 0, locals := 40 * d } (fun v U => v = ([.ref (xexa ex (k + 1)), .int i] : List Value).toArray ∧ xGlo A U ex) (fun _ st oc t => (∃ v, oc = .returned v ∧ xLetter v) ∧ va_F xNo st t) 0 0 xNo := by
  refine Met.ofW (cc := cJ0_charAt_5068e) (maxL := 2) (ret := some .char) (by decide) rfl ?_
  intro p e s m args below meth c s₁ B hml hv
  obtain ⟨rfl, hgl⟩ := hv
  have hu := xJws (atoms_spec (ws := Jvm.Cond.code yJ0_charAt_5068e cJ0_charAt_5068e 2 (some .char) :: xU) B.pre)
  have hx := B.exec
  have hb := B.bytes
  have hown := findClass_of_methodNamed B.named
  obtain ⟨-, -, -, ⟨adV, hs⟩, -, -, -⟩ := id hgl
  have hl := lv_entry ([.ref (xexa ex (k + 1)), .int i]) (n := 2) (Nat.le_of_ble_eq_true rfl)
  rw [lg_entry_eq]
  generalize (lg_sl ([.ref (xexa ex (k + 1)), .int i]) ++ List.replicate (2 - (lg_sl ([.ref (xexa ex (k + 1)), .int i])).length) Slot.unset).toArray = ls at hl ⊢
  have hl : lv_has ls 2 [(0, .ref (xexa ex (k + 1))), (1, .int i)] := hl
  have hsz : c.maxLocals = ls.size := by rw [hml, hl.1]
  refine lv_aload_n hx hb (k := 0) (by decide +kernel) rfl (lv_at hl 0 rfl) ?_
  refine xJcallV (A := xNo) (As := []) (rest := []) (d' := d - 1) (nl := 1) (b := xexa ex (k + 1)) hx hb hsz hown hu xj_lat_c xj_lat_n xj_lat_i xj_lat_v xj_l4 (na := 0) (by decide) (xJ_lat l (d - 1) (A := A) (ex := ex) hk) xGloBlind (vk_recv (adK := fun i => xexa ex (i + 1)) (i := k) hs hk xSrf) (xGloIn hgl xSrf) (H0 := s.heap) xSrf (by show d - 1 + 1 ≤ d; omega) (by show 40 * (d - 1 + 1) ≤ 40 * d; omega) (by decide) (by decide) rfl (Nat.zero_le _) (Nat.zero_le _) (by decide +kernel) (fun v t H1 locs1 ht hv hk1 hS1 => ?_)
  subst hv
  refine lv_if_eq hx hb (off := 12) (tgt := 16) (by decide +kernel) (by decide) (fun h => absurd h (by decide)) (fun _ => ?_)
  refine lv_aload_n hx hb (k := 0) (by decide +kernel) rfl (lv_at hl 0 rfl) ?_
  refine vk_getf (A := A) hx hb (hs.1 k hk).2.2.1 (xSw hS1) hown (hu _ xj_f3 rfl) (fun _ q => q) (by decide +kernel) ?_
  refine lv_iload_n hx hb (k := 1) (by decide +kernel) rfl (lv_at hl 1 rfl) ?_
  refine xJcallS (A := xNo) (As := [.ref (adV k), .int i]) (rest := []) (d' := d - 1) (nl := 2) hx hb hsz hown hu xj_cha1_c xj_cha1_n xj_cha1_s xj_l5 (na := 2) (by decide) (xJ_cha1 l (d - 1) (by omega) (A := A) (ex := ex) (adV := adV) hk hn hin hn2) ?_ (fun U hU hW => ⟨xGloIn hgl (xSw hS1) U hU hW, by rw [hU]; exact ((hs.kept (xSw (A := A) hS1).2.1).moved hW.alike)⟩) (H0 := s.heap) hS1 (by show d - 1 + 1 ≤ d; omega) (by show 40 * (d - 1 + 1) ≤ 40 * d; omega) (by decide) (by decide) rfl (Nat.zero_le _) (Nat.zero_le _) (by decide +kernel) (fun v t2 H2 locs2 ht2 hv hk2 hS2 => ?_)
  · intro a U g mk hp
    exact ⟨hp.1, hp.2.1.same (U := U.calling g mk a) rfl rfl, hp.2.2.moved (Vm.Alike.refl U.vm)⟩
  obtain ⟨z, rfl, z1, z2⟩ := hv
  refine W.zret (ty := .char) hx hb B.returns ?_ (fun t3 ht3 hW => ⟨⟨_, rfl, z, rfl, z1, z2⟩, xF0 ht3 hS2.1 (fun q hq => by rw [hk2 q (Nat.lt_of_lt_of_le hq hS1.1), hk1 q hq])⟩) (fun q hq => hS2.2.2 q hq) (by decide +kernel) B.notSynchronized
  have ez : z = nI z.toInt.toNat := by
    apply Int32.toInt_inj.mp
    rw [nI_toInt (by omega)]
    omega
  rw [ez]
  exact (pk_charN (by omega)).1
/-- String.length -/
theorem xJ_len (l : Launch) (d : Nat) (hd : 1 ≤ d) {A : Nat → Prop} {ex : List Nat} {k : Nat} (hk : k < 17) {n : Nat} (hn : xslen.getD k 0 = n) : Met l yJ0_length_8abf5 (Jvm.Cond.code yJ0_length_8abf5 cJ0_length_8abf5 1 (some .int) :: xU) { frames := d, cells := 0, slots := 0, locals := 40 * d } (fun v U => v = ([.ref (xexa ex (k + 1))] : List Value).toArray ∧ xGlo A U ex) (fun _ st oc t => (∃ v, oc = .returned v ∧ v = some (.int (Int32.ofNat n))) ∧ va_F xNo st t) 0 0 xNo := by
  refine Met.ofW (cc := cJ0_length_8abf5) (maxL := 1) (ret := some .int) (by decide) rfl ?_
  intro p e s m args below meth c s₁ B hml hv
  obtain ⟨rfl, hgl⟩ := hv
  have hu := xJws (atoms_spec (ws := Jvm.Cond.code yJ0_length_8abf5 cJ0_length_8abf5 1 (some .int) :: xU) B.pre)
  have hx := B.exec
  have hb := B.bytes
  have hown := findClass_of_methodNamed B.named
  obtain ⟨-, -, -, ⟨adV, hs⟩, -, -, -⟩ := id hgl
  have hT := (hs.1 k hk).2.2.2
  rw [hn] at hT
  have hl := lv_entry ([.ref (xexa ex (k + 1))]) (n := 1) (Nat.le_of_ble_eq_true rfl)
  rw [lg_entry_eq]
  generalize (lg_sl ([.ref (xexa ex (k + 1))]) ++ List.replicate (1 - (lg_sl ([.ref (xexa ex (k + 1))])).length) Slot.unset).toArray = ls at hl ⊢
  have hl : lv_has ls 1 [(0, .ref (xexa ex (k + 1)))] := hl
  have hsz : c.maxLocals = ls.size := by rw [hml, hl.1]
  refine lv_aload_n hx hb (k := 0) (by decide +kernel) rfl (lv_at hl 0 rfl) ?_
  refine vk_getf (A := A) hx hb (hs.1 k hk).2.2.1 xSrf hown (hu _ xj_f3 rfl) (fun _ q => q) (by decide +kernel) ?_
  refine va_tlen (A := A) hx hb hT xSrf rfl (by decide +kernel) ?_
  refine lv_aload_n hx hb (k := 0) (by decide +kernel) rfl (lv_at hl 0 rfl) ?_
  refine xJcallV (A := xNo) (As := []) (rest := [.int (Int32.ofNat n)]) (d' := d - 1) (nl := 1) (b := xexa ex (k + 1)) hx hb hsz hown hu xj_cod_c xj_cod_n xj_cod_i xj_cod_v xj_l3 (na := 0) (by decide) (xJ_cod l (d - 1) (A := A) (ex := ex) hk) xGloBlind (vk_recv (adK := fun i => xexa ex (i + 1)) (i := k) hs hk xSrf) (xGloIn hgl xSrf) (H0 := s.heap) xSrf (by show d - 1 + 1 ≤ d; omega) (by show 40 * (d - 1 + 1) ≤ 40 * d; omega) (by decide) (by simp [Value.category]) rfl (Nat.zero_le _) (Nat.zero_le _) (by decide +kernel) (fun v t H1 locs1 ht hv hk1 hS1 => ?_)
  subst hv
  refine lv_ishr hx hb (by decide +kernel) ?_
  have e : Int32.ofNat n >>> ((0 : Int32) &&& 31) = Int32.ofNat n := by
    have h0 : ((0 : Int32) &&& 31) = 0 := by decide
    rw [h0]
    apply Int32.toBitVec_inj.mp
    rw [Int32.toBitVec_shiftRight, BitVec.sshiftRight']
    have h1 : (BitVec.smod (0 : Int32).toBitVec 32).toNat = 0 := by decide
    rw [h1, BitVec.sshiftRight_zero]
  rw [e]
  exact W.iret hx hb B.returns (fun t2 ht2 hW => ⟨⟨_, rfl, rfl⟩, xF0 ht2 hS1.1 hk1⟩) (fun q hq => hS1.2.2 q hq) (by decide +kernel) B.notSynchronized
