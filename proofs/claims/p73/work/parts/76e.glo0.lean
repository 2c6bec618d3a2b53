/-! The beginning: the texts, the arrays of settings, the JDK's statics as the Statement gives them. -/
def xFlat : List Jvm.Cond := flatC (Jvm.Cond.and given_1 narrow_1)
def xTm (i : Nat) : Jvm.Term := .string "StarchGarrison$Reader" (xStrs.getD i (0, "")).1
abbrev xTv (i : Nat) : Jvm.Term := .field (xTm i) "java/lang/String" "value" "[B"
abbrev xTs0 : Jvm.Term := .static "StarchGarrison" "SETTING_LEAST" "[I"
abbrev xTs1 : Jvm.Term := .static "StarchGarrison" "SETTING_MOST" "[I"
theorem xgl_1a0 : Jvm.Cond.arrayOf xTs0 .int ∈ xFlat := List.mem_of_getElem? (i := 10) (by decide +kernel)
theorem xgl_1l0 : Jvm.Cond.eq (.length xTs0) (.int 6) ∈ xFlat := List.mem_of_getElem? (i := 11) (by decide +kernel)
theorem xgl_1a1 : Jvm.Cond.arrayOf xTs1 .int ∈ xFlat := List.mem_of_getElem? (i := 19) (by decide +kernel)
theorem xgl_1l1 : Jvm.Cond.eq (.length xTs1) (.int 6) ∈ xFlat := List.mem_of_getElem? (i := 20) (by decide +kernel)
theorem xgl_2f0 : (List.range 6).map (fun j => Jvm.Cond.eq (.elem xTs0 (.int (Int32.ofNat j))) (.int (xsta0.getD j 0))) = [12, 13, 14, 15, 16, 17].filterMap (fun i => xFlat[i]?) := by decide +kernel
theorem xgl_2f1 : (List.range 6).map (fun j => Jvm.Cond.eq (.elem xTs1 (.int (Int32.ofNat j))) (.int (xsta1.getD j 0))) = [21, 22, 23, 24, 25, 26].filterMap (fun i => xFlat[i]?) := by decide +kernel
theorem xgl_3a : Jvm.Cond.eq (.static "java/lang/String" "COMPACT_STRINGS" "Z") (.int 1) ∈ xFlat := List.mem_of_getElem? (i := 4) (by decide +kernel)
theorem xgl_3b : Jvm.Cond.isRef (.static "jdk/internal/util/Preconditions" "SIOOBE_FORMATTER" "Ljava/util/function/BiFunction;") ∈ xFlat := List.mem_of_getElem? (i := 5) (by decide +kernel)
theorem xgl_4a : (List.range 17).map (fun i => Jvm.Cond.exactly (xTm i) "java/lang/String") = [203, 244, 308, 80, 49, 285, 61, 71, 135, 184, 121, 90, 224, 149, 166, 265, 105].filterMap (fun i => xFlat[i]?) := by decide +kernel
theorem xgl_4b : (List.range 17).map (fun i => Jvm.Cond.eq (.field (xTm i) "java/lang/String" "coder" "B") (.int 0)) = [204, 245, 309, 81, 50, 286, 62, 72, 136, 185, 122, 91, 225, 150, 167, 266, 106].filterMap (fun i => xFlat[i]?) := by decide +kernel
theorem xgl_4c : (List.range 17).map (fun i => Jvm.Cond.arrayOf (xTv i) .byte) = [205, 246, 310, 82, 51, 287, 63, 73, 137, 186, 123, 92, 226, 151, 168, 267, 107].filterMap (fun i => xFlat[i]?) := by decide +kernel
theorem xgl_4d : (List.range 17).map (fun i => Jvm.Cond.eq (.length (xTv i)) (.int (Int32.ofNat (xslen.getD i 0)))) = [206, 247, 311, 83, 52, 288, 64, 74, 138, 187, 124, 93, 227, 152, 169, 268, 108].filterMap (fun i => xFlat[i]?) := by decide +kernel
theorem xgl_5_0 : (List.range 6).map (fun j => Jvm.Cond.eq (.elem (xTv 0) (.int (Int32.ofNat j))) (.int ((xsbyt.getD 0 []).getD j 0))) = [207, 208, 209, 210, 211, 212].filterMap (fun i => xFlat[i]?) := by decide +kernel
theorem xgl_5_1 : (List.range 4).map (fun j => Jvm.Cond.eq (.elem (xTv 1) (.int (Int32.ofNat j))) (.int ((xsbyt.getD 1 []).getD j 0))) = [248, 249, 250, 251].filterMap (fun i => xFlat[i]?) := by decide +kernel
theorem xgl_5_2 : (List.range 5).map (fun j => Jvm.Cond.eq (.elem (xTv 2) (.int (Int32.ofNat j))) (.int ((xsbyt.getD 2 []).getD j 0))) = [312, 313, 314, 315, 316].filterMap (fun i => xFlat[i]?) := by decide +kernel
theorem xgl_5_3 : (List.range 3).map (fun j => Jvm.Cond.eq (.elem (xTv 3) (.int (Int32.ofNat j))) (.int ((xsbyt.getD 3 []).getD j 0))) = [84, 85, 86].filterMap (fun i => xFlat[i]?) := by decide +kernel
theorem xgl_5_4 : (List.range 8).map (fun j => Jvm.Cond.eq (.elem (xTv 4) (.int (Int32.ofNat j))) (.int ((xsbyt.getD 4 []).getD j 0))) = [53, 54, 55, 56, 57, 58, 59, 60].filterMap (fun i => xFlat[i]?) := by decide +kernel
theorem xgl_5_5 : (List.range 4).map (fun j => Jvm.Cond.eq (.elem (xTv 5) (.int (Int32.ofNat j))) (.int ((xsbyt.getD 5 []).getD j 0))) = [289, 290, 291, 292].filterMap (fun i => xFlat[i]?) := by decide +kernel
theorem xgl_5_6 : (List.range 5).map (fun j => Jvm.Cond.eq (.elem (xTv 6) (.int (Int32.ofNat j))) (.int ((xsbyt.getD 6 []).getD j 0))) = [65, 66, 67, 68, 69].filterMap (fun i => xFlat[i]?) := by decide +kernel
theorem xgl_5_7 : (List.range 3).map (fun j => Jvm.Cond.eq (.elem (xTv 7) (.int (Int32.ofNat j))) (.int ((xsbyt.getD 7 []).getD j 0))) = [75, 76, 77].filterMap (fun i => xFlat[i]?) := by decide +kernel
theorem xgl_5_8 : (List.range 3).map (fun j => Jvm.Cond.eq (.elem (xTv 8) (.int (Int32.ofNat j))) (.int ((xsbyt.getD 8 []).getD j 0))) = [139, 140, 141].filterMap (fun i => xFlat[i]?) := by decide +kernel
theorem xgl_5_9 : (List.range 5).map (fun j => Jvm.Cond.eq (.elem (xTv 9) (.int (Int32.ofNat j))) (.int ((xsbyt.getD 9 []).getD j 0))) = [188, 189, 190, 191, 192].filterMap (fun i => xFlat[i]?) := by decide +kernel
theorem xgl_5_10 : (List.range 4).map (fun j => Jvm.Cond.eq (.elem (xTv 10) (.int (Int32.ofNat j))) (.int ((xsbyt.getD 10 []).getD j 0))) = [125, 126, 127, 128].filterMap (fun i => xFlat[i]?) := by decide +kernel
theorem xgl_5_11 : (List.range 7).map (fun j => Jvm.Cond.eq (.elem (xTv 11) (.int (Int32.ofNat j))) (.int ((xsbyt.getD 11 []).getD j 0))) = [94, 95, 96, 97, 98, 99, 100].filterMap (fun i => xFlat[i]?) := by decide +kernel
theorem xgl_5_12 : (List.range 4).map (fun j => Jvm.Cond.eq (.elem (xTv 12) (.int (Int32.ofNat j))) (.int ((xsbyt.getD 12 []).getD j 0))) = [228, 229, 230, 231].filterMap (fun i => xFlat[i]?) := by decide +kernel
theorem xgl_5_13 : (List.range 5).map (fun j => Jvm.Cond.eq (.elem (xTv 13) (.int (Int32.ofNat j))) (.int ((xsbyt.getD 13 []).getD j 0))) = [153, 154, 155, 156, 157].filterMap (fun i => xFlat[i]?) := by decide +kernel
theorem xgl_5_14 : (List.range 5).map (fun j => Jvm.Cond.eq (.elem (xTv 14) (.int (Int32.ofNat j))) (.int ((xsbyt.getD 14 []).getD j 0))) = [170, 171, 172, 173, 174].filterMap (fun i => xFlat[i]?) := by decide +kernel
theorem xgl_5_15 : (List.range 2).map (fun j => Jvm.Cond.eq (.elem (xTv 15) (.int (Int32.ofNat j))) (.int ((xsbyt.getD 15 []).getD j 0))) = [269, 270].filterMap (fun i => xFlat[i]?) := by decide +kernel
theorem xgl_5_16 : (List.range 7).map (fun j => Jvm.Cond.eq (.elem (xTv 16) (.int (Int32.ofNat j))) (.int ((xsbyt.getD 16 []).getD j 0))) = [109, 110, 111, 112, 113, 114, 115].filterMap (fun i => xFlat[i]?) := by decide +kernel
def xPrs : List (Nat × Nat) := [(0, 1), (0, 2), (0, 5), (0, 12), (0, 15), (1, 2), (1, 5), (1, 15), (3, 0), (3, 1), (3, 2), (3, 5), (3, 8), (3, 9), (3, 10), (3, 11), (3, 12), (3, 13), (3, 14), (3, 15), (3, 16), (4, 0), (4, 1), (4, 2), (4, 3), (4, 5), (4, 6), (4, 7), (4, 8), (4, 9), (4, 10), (4, 11), (4, 12), (4, 13), (4, 14), (4, 15), (4, 16), (5, 2), (6, 0), (6, 1), (6, 2), (6, 3), (6, 5), (6, 7), (6, 8), (6, 9), (6, 10), (6, 11), (6, 12), (6, 13), (6, 14), (6, 15), (6, 16), (7, 0), (7, 1), (7, 2), (7, 3), (7, 5), (7, 8), (7, 9), (7, 10), (7, 11), (7, 12), (7, 13), (7, 14), (7, 15), (7, 16), (8, 0), (8, 1), (8, 2), (8, 5), (8, 9), (8, 12), (8, 13), (8, 14), (8, 15), (9, 0), (9, 1), (9, 2), (9, 5), (9, 12), (9, 15), (10, 0), (10, 1), (10, 2), (10, 5), (10, 8), (10, 9), (10, 12), (10, 13), (10, 14), (10, 15), (11, 0), (11, 1), (11, 2), (11, 5), (11, 8), (11, 9), (11, 10), (11, 12), (11, 13), (11, 14), (11, 15), (11, 16), (12, 1), (12, 2), (12, 5), (12, 15), (13, 0), (13, 1), (13, 2), (13, 5), (13, 9), (13, 12), (13, 14), (13, 15), (14, 0), (14, 1), (14, 2), (14, 5), (14, 9), (14, 12), (14, 15), (15, 2), (15, 5), (16, 0), (16, 1), (16, 2), (16, 5), (16, 8), (16, 9), (16, 10), (16, 12), (16, 13), (16, 14), (16, 15)]
theorem xgl_6a : (xPrs).map (fun q => Jvm.Cond.not (Jvm.Cond.eq (xTm q.1) (xTm q.2))) = [263, 328, 304, 243, 282, 330, 306, 284, 216, 255, 320, 296, 145, 196, 132, 104, 235, 161, 178, 274, 119, 213, 252, 317, 87, 293, 70, 78, 142, 193, 129, 101, 232, 158, 175, 271, 116, 332, 214, 253, 318, 88, 294, 79, 143, 194, 130, 102, 233, 159, 176, 272, 117, 215, 254, 319, 89, 295, 144, 195, 131, 103, 234, 160, 177, 273, 118, 220, 259, 324, 300, 200, 239, 165, 182, 278, 223, 262, 327, 303, 242, 281, 219, 258, 323, 299, 148, 199, 238, 164, 181, 277, 217, 256, 321, 297, 146, 197, 133, 236, 162, 179, 275, 120, 264, 329, 305, 283, 221, 260, 325, 301, 201, 240, 183, 279, 222, 261, 326, 302, 202, 241, 280, 331, 307, 218, 257, 322, 298, 147, 198, 134, 237, 163, 180, 276].filterMap (fun i => xFlat[i]?) := by decide +kernel
theorem xgl_6c : (List.range 17).all (fun i => (List.range 17).all (fun j => Nat.beq i j || (xPrs.any (fun q => Nat.beq q.1 i && Nat.beq q.2 j) || xPrs.any (fun q => Nat.beq q.1 j && Nat.beq q.2 i)))) = true := by decide +kernel
theorem xPrs_any {i j : Nat} (h : xPrs.any (fun q => Nat.beq q.1 i && Nat.beq q.2 j) = true) : (i, j) ∈ xPrs := by
  obtain ⟨q, hq, hc⟩ := List.any_eq_true.mp h
  rw [Bool.and_eq_true] at hc
  obtain ⟨a, b⟩ := q
  have e1 : a = i := Nat.eq_of_beq_eq_true hc.1
  have e2 : b = j := Nat.eq_of_beq_eq_true hc.2
  subst e1; subst e2
  exact hq
theorem xgl_6b : ∀ i, i < 17 → ∀ j, j < 17 → i ≠ j → (i, j) ∈ xPrs ∨ (j, i) ∈ xPrs := by
  intro i hi j hj hij
  have h := List.all_eq_true.mp (List.all_eq_true.mp xgl_6c i (List.mem_range.mpr hi)) j (List.mem_range.mpr hj)
  rw [Bool.or_eq_true, Bool.or_eq_true] at h
  rcases h with h | h | h
  · exact absurd (Nat.eq_of_beq_eq_true h) hij
  · exact Or.inl (xPrs_any h)
  · exact Or.inr (xPrs_any h)
theorem xfl_mem {α : Type} {l : List α} {f : α → Jvm.Cond} {ps : List Nat} (h : l.map f = ps.filterMap (fun i => xFlat[i]?)) {a : α} (ha : a ∈ l) : f a ∈ xFlat := by
  have : f a ∈ ps.filterMap (fun i => xFlat[i]?) := by
    rw [← h]
    exact List.mem_map.mpr ⟨a, ha, rfl⟩
  obtain ⟨i, -, hi⟩ := List.mem_filterMap.mp this
  exact List.mem_of_getElem? hi
theorem xgl_5 : ∀ i, i < 17 → ∀ j, j < xslen.getD i 0 → Jvm.Cond.eq (.elem (xTv i) (.int (Int32.ofNat j))) (.int ((xsbyt.getD i []).getD j 0)) ∈ xFlat := by
  intro i hi j hj
  match i, hi, hj with
  | 0, _, hj => exact xfl_mem xgl_5_0 (List.mem_range.mpr hj)
  | 1, _, hj => exact xfl_mem xgl_5_1 (List.mem_range.mpr hj)
  | 2, _, hj => exact xfl_mem xgl_5_2 (List.mem_range.mpr hj)
  | 3, _, hj => exact xfl_mem xgl_5_3 (List.mem_range.mpr hj)
  | 4, _, hj => exact xfl_mem xgl_5_4 (List.mem_range.mpr hj)
  | 5, _, hj => exact xfl_mem xgl_5_5 (List.mem_range.mpr hj)
  | 6, _, hj => exact xfl_mem xgl_5_6 (List.mem_range.mpr hj)
  | 7, _, hj => exact xfl_mem xgl_5_7 (List.mem_range.mpr hj)
  | 8, _, hj => exact xfl_mem xgl_5_8 (List.mem_range.mpr hj)
  | 9, _, hj => exact xfl_mem xgl_5_9 (List.mem_range.mpr hj)
  | 10, _, hj => exact xfl_mem xgl_5_10 (List.mem_range.mpr hj)
  | 11, _, hj => exact xfl_mem xgl_5_11 (List.mem_range.mpr hj)
  | 12, _, hj => exact xfl_mem xgl_5_12 (List.mem_range.mpr hj)
  | 13, _, hj => exact xfl_mem xgl_5_13 (List.mem_range.mpr hj)
  | 14, _, hj => exact xfl_mem xgl_5_14 (List.mem_range.mpr hj)
  | 15, _, hj => exact xfl_mem xgl_5_15 (List.mem_range.mpr hj)
  | 16, _, hj => exact xfl_mem xgl_5_16 (List.mem_range.mpr hj)
  | i + 17, hi, _ => exact absurd hi (by omega)
theorem xgl_7 : (∀ q ∈ xStrs, Jvm.Cond.stringRef "StarchGarrison$Reader" q.1 q.2 ∈ lw_tbl) := by
  have h : xStrs.map (fun q => Jvm.Cond.stringRef "StarchGarrison$Reader" q.1 q.2) = [713, 723, 726, 681, 619, 725, 679, 680, 705, 712, 684, 682, 714, 710, 711, 724, 683].filterMap (fun i => lw_tbl[i]?) := by decide +kernel
  intro q hq
  have : Jvm.Cond.stringRef "StarchGarrison$Reader" q.1 q.2 ∈ [713, 723, 726, 681, 619, 725, 679, 680, 705, 712, 684, 682, 714, 710, 711, 724, 683].filterMap (fun i => lw_tbl[i]?) := by
    rw [← h]
    exact List.mem_map.mpr ⟨q, hq, rfl⟩
  obtain ⟨i, -, hi⟩ := List.mem_filterMap.mp this
  exact List.mem_of_getElem? hi
theorem xgl_8 : Jvm.Cond.laysStatic "StarchGarrison" "SETTING_LEAST" "[I" ∈ lw_tbl := List.mem_of_getElem? (i := 694) (by decide +kernel)
theorem xgl_9 : Jvm.Cond.laysStatic "StarchGarrison" "SETTING_MOST" "[I" ∈ lw_tbl := List.mem_of_getElem? (i := 696) (by decide +kernel)
theorem xgl_10 : Jvm.Cond.laysStatic "java/lang/String" "COMPACT_STRINGS" "Z" ∈ lw_tbl := List.mem_of_getElem? (i := 633) (by decide +kernel)
theorem xgl_11 : Jvm.Cond.laysStatic "jdk/internal/util/Preconditions" "SIOOBE_FORMATTER" "Ljava/util/function/BiFunction;" ∈ lw_tbl := List.mem_of_getElem? (i := 649) (by decide +kernel)
theorem xgl_12 : Jvm.Cond.initialized "java/lang/String" ∈ lw_tbl := List.mem_of_getElem? (i := 171) (by decide +kernel)
theorem xgl_13 : Jvm.Cond.initialized "jdk/internal/util/Preconditions" ∈ lw_tbl := List.mem_of_getElem? (i := 173) (by decide +kernel)
theorem xgl_14 : Jvm.Cond.initialized "StarchGarrison" ∈ lw_tbl := List.mem_of_getElem? (i := 158) (by decide +kernel)
theorem xGlo_start {args : Array Value} {s : State} {b : Nat} {A : Nat → Prop} (hts : ∀ w ∈ lw_tbl, w.before args s = true) (hgv : (Jvm.Cond.and given_1 narrow_1).before args s = true) (hA : ∀ a : Nat, a < s.heap.size → ¬ A a) : ∃ ex : List Nat, ex[0]? = some b ∧ ex.length = 20 ∧ xGlo A s ex := by
  have hs : ∀ c ∈ xFlat, c.before args s = true := flat_of_before _ hgv
  obtain ⟨t18, e18, T18⟩ := va_Tof (tm := xTs0) (ty := .int) (N := 6) (f := fun j => .int (xsta0.getD j 0)) (A := A) (by decide) (hs _ xgl_1a0) (va_eqt (hs _ xgl_1l0)) (fun j hj => va_eqt (hs _ (xfl_mem xgl_2f0 (List.mem_range.mpr hj)))) hA
  obtain ⟨t19, e19, T19⟩ := va_Tof (tm := xTs1) (ty := .int) (N := 6) (f := fun j => .int (xsta1.getD j 0)) (A := A) (by decide) (hs _ xgl_1a1) (va_eqt (hs _ xgl_1l1)) (fun j hj => va_eqt (hs _ (xfl_mem xgl_2f1 (List.mem_range.mpr hj)))) hA
  obtain ⟨adK, adV, hS, hK⟩ := vk_Sof (args := args) (s := s) (N := 17) (tm := xTm) (len := xslen) (byt := xsbyt) (A := A) (by decide) (fun i hi => hs _ (xfl_mem xgl_4a (List.mem_range.mpr hi))) (fun i hi => hs _ (xfl_mem xgl_4b (List.mem_range.mpr hi))) (fun i hi => hs _ (xfl_mem xgl_4c (List.mem_range.mpr hi))) (fun i hi => hs _ (xfl_mem xgl_4d (List.mem_range.mpr hi))) (fun i hi j hj => hs _ (xgl_5 i hi j hj)) (fun i j hi hj hij => (xgl_6b i hi j hj hij).imp (fun h => hs _ (xfl_mem xgl_6a h)) (fun h => hs _ (xfl_mem xgl_6a h))) hA
  refine ⟨b :: ((List.range 17).map adK ++ [t18, t19]), rfl, by simp, ?_⟩
  have hx : ∀ i, i < 17 → xexa (b :: ((List.range 17).map adK ++ [t18, t19])) (i + 1) = adK i := fun i hi => by
    unfold xexa
    rw [List.getElem?_cons_succ, List.getElem?_append_left (by simp; exact hi), List.getElem?_map, List.getElem?_range hi]
    rfl
  have h18 : xexa (b :: ((List.range 17).map adK ++ [t18, t19])) 18 = t18 := by
    unfold xexa
    rw [List.getElem?_cons_succ, List.getElem?_append_right (by simp)]
    simp
  have h19 : xexa (b :: ((List.range 17).map adK ++ [t18, t19])) 19 = t19 := by
    unfold xexa
    rw [List.getElem?_cons_succ, List.getElem?_append_right (by simp)]
    simp
  refine ⟨by simp, ?_, ?_, ⟨adV, ?_⟩, ?_, ?_, ?_⟩
  · rw [h18]
    exact ⟨va_Zof (hts _ xgl_8) (hts _ xgl_14) e18 hA, T18⟩
  · rw [h19]
    exact ⟨va_Zof (hts _ xgl_9) (hts _ xgl_14) e19 hA, T19⟩
  · refine ⟨fun i hi => ?_, fun i j hi hj e => hS.2 i j hi hj ?_⟩
    · have := hS.1 i hi
      dsimp only
      rw [hx i hi]
      exact this
    · have e : xexa (b :: ((List.range 17).map adK ++ [t18, t19])) (i + 1) = xexa (b :: ((List.range 17).map adK ++ [t18, t19])) (j + 1) := e
      rw [hx i hi, hx j hj] at e
      exact e
  · intro i q hq
    have hi : i < 17 := (List.getElem?_eq_some_iff.mp hq).1
    rw [hx i hi]
    refine vk_R.of (A := args) (hts _ (xgl_7 q (List.mem_of_getElem? hq))) ?_
    have := hK i hi
    unfold xTm at this
    rw [List.getD_eq_getElem?_getD, hq] at this
    exact this
  · exact va_Zof (hts _ xgl_10) (hts _ xgl_12) (va_eqi (hs _ xgl_3a)) hA
  · exact va_Zqof (hts _ xgl_11) (hts _ xgl_13) (hs _ xgl_3b) hA
