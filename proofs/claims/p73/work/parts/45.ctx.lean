/-! The classes of the world, their fields' types, their words. -/
abbrev xcl : List vw_C := [(RX0, TX0, 5), (RX1, TX1, 5), (RX2, TX2, 15), (RX3, TX3, 11), (RX4, TX4, 3), (RX5, TX5, 8), (RX6, TX6, 11), (RX7, TX7, 8), (RX8, TX8, 4), (RX9, TX9, 14), (RX10, TX10, 56)]
def xct : Nat → Nat → FieldType
  | 0 => tyX0
  | 1 => tyX1
  | 2 => tyX2
  | 3 => tyX3
  | 4 => tyX4
  | 5 => tyX5
  | 6 => tyX6
  | 7 => tyX7
  | 8 => tyX8
  | 9 => tyX9
  | _ => tyX10
def xcn (i : Nat) : String := match xcl[i]? with
  | some r => r.1
  | none => ""
def xNest : Jvm.Cond → Bool
  | .fieldLinkNest .. => true
  | .methodLinkNest .. => true
  | .arrayOver (.object _) => true
  | _ => false
theorem xw_0 : ∀ w ∈ u_ws RX0 TX0 5, w ∈ lw_tbl ∧ goodWord w = true := by
  intro w hw
  have h1 : u_ws RX0 TX0 5 = [463, 465, 467, 469, 471].filterMap (fun i => lw_tbl[i]?) := by decide +kernel
  have h2 : (u_ws RX0 TX0 5).all goodWord = true := by decide +kernel
  refine ⟨?_, List.all_eq_true.mp h2 w hw⟩
  rw [h1] at hw
  obtain ⟨i, -, hi⟩ := List.mem_filterMap.mp hw
  exact List.mem_of_getElem? hi
theorem xw_1 : ∀ w ∈ u_ws RX1 TX1 5, w ∈ lw_tbl ∧ goodWord w = true := by
  intro w hw
  have h1 : u_ws RX1 TX1 5 = [441, 443, 445, 447, 449].filterMap (fun i => lw_tbl[i]?) := by decide +kernel
  have h2 : (u_ws RX1 TX1 5).all goodWord = true := by decide +kernel
  refine ⟨?_, List.all_eq_true.mp h2 w hw⟩
  rw [h1] at hw
  obtain ⟨i, -, hi⟩ := List.mem_filterMap.mp hw
  exact List.mem_of_getElem? hi
theorem xw_2 : ∀ w ∈ u_ws RX2 TX2 15, w ∈ lw_tbl ∧ goodWord w = true := by
  intro w hw
  have h1 : u_ws RX2 TX2 15 = [246, 248, 250, 252, 254, 256, 258, 260, 262, 264, 266, 268, 270, 272, 274].filterMap (fun i => lw_tbl[i]?) := by decide +kernel
  have h2 : (u_ws RX2 TX2 15).all goodWord = true := by decide +kernel
  refine ⟨?_, List.all_eq_true.mp h2 w hw⟩
  rw [h1] at hw
  obtain ⟨i, -, hi⟩ := List.mem_filterMap.mp hw
  exact List.mem_of_getElem? hi
theorem xw_3 : ∀ w ∈ u_ws RX3 TX3 11, w ∈ lw_tbl ∧ goodWord w = true := by
  intro w hw
  have h1 : u_ws RX3 TX3 11 = [298, 300, 302, 304, 306, 308, 310, 312, 314, 316, 318].filterMap (fun i => lw_tbl[i]?) := by decide +kernel
  have h2 : (u_ws RX3 TX3 11).all goodWord = true := by decide +kernel
  refine ⟨?_, List.all_eq_true.mp h2 w hw⟩
  rw [h1] at hw
  obtain ⟨i, -, hi⟩ := List.mem_filterMap.mp hw
  exact List.mem_of_getElem? hi
theorem xw_4 : ∀ w ∈ u_ws RX4 TX4 3, w ∈ lw_tbl ∧ goodWord w = true := by
  intro w hw
  have h1 : u_ws RX4 TX4 3 = [337, 339, 341].filterMap (fun i => lw_tbl[i]?) := by decide +kernel
  have h2 : (u_ws RX4 TX4 3).all goodWord = true := by decide +kernel
  refine ⟨?_, List.all_eq_true.mp h2 w hw⟩
  rw [h1] at hw
  obtain ⟨i, -, hi⟩ := List.mem_filterMap.mp hw
  exact List.mem_of_getElem? hi
theorem xw_5 : ∀ w ∈ u_ws RX5 TX5 8, w ∈ lw_tbl ∧ goodWord w = true := by
  intro w hw
  have h1 : u_ws RX5 TX5 8 = [411, 413, 415, 417, 419, 421, 423, 425].filterMap (fun i => lw_tbl[i]?) := by decide +kernel
  have h2 : (u_ws RX5 TX5 8).all goodWord = true := by decide +kernel
  refine ⟨?_, List.all_eq_true.mp h2 w hw⟩
  rw [h1] at hw
  obtain ⟨i, -, hi⟩ := List.mem_filterMap.mp hw
  exact List.mem_of_getElem? hi
theorem xw_6 : ∀ w ∈ u_ws RX6 TX6 11, w ∈ lw_tbl ∧ goodWord w = true := by
  intro w hw
  have h1 : u_ws RX6 TX6 11 = [372, 374, 376, 378, 380, 382, 384, 386, 388, 390, 392].filterMap (fun i => lw_tbl[i]?) := by decide +kernel
  have h2 : (u_ws RX6 TX6 11).all goodWord = true := by decide +kernel
  refine ⟨?_, List.all_eq_true.mp h2 w hw⟩
  rw [h1] at hw
  obtain ⟨i, -, hi⟩ := List.mem_filterMap.mp hw
  exact List.mem_of_getElem? hi
theorem xw_7 : ∀ w ∈ u_ws RX7 TX7 8, w ∈ lw_tbl ∧ goodWord w = true := by
  intro w hw
  have h1 : u_ws RX7 TX7 8 = [493, 495, 497, 499, 501, 503, 505, 507].filterMap (fun i => lw_tbl[i]?) := by decide +kernel
  have h2 : (u_ws RX7 TX7 8).all goodWord = true := by decide +kernel
  refine ⟨?_, List.all_eq_true.mp h2 w hw⟩
  rw [h1] at hw
  obtain ⟨i, -, hi⟩ := List.mem_filterMap.mp hw
  exact List.mem_of_getElem? hi
theorem xw_8 : ∀ w ∈ u_ws RX8 TX8 4, w ∈ lw_tbl ∧ goodWord w = true := by
  intro w hw
  have h1 : u_ws RX8 TX8 4 = [520, 522, 524, 526].filterMap (fun i => lw_tbl[i]?) := by decide +kernel
  have h2 : (u_ws RX8 TX8 4).all goodWord = true := by decide +kernel
  refine ⟨?_, List.all_eq_true.mp h2 w hw⟩
  rw [h1] at hw
  obtain ⟨i, -, hi⟩ := List.mem_filterMap.mp hw
  exact List.mem_of_getElem? hi
theorem xw_9 : ∀ w ∈ u_ws RX9 TX9 14, w ∈ lw_tbl ∧ goodWord w = true := by
  intro w hw
  have h1 : u_ws RX9 TX9 14 = [543, 545, 547, 549, 551, 553, 555, 557, 559, 561, 563, 565, 567, 569].filterMap (fun i => lw_tbl[i]?) := by decide +kernel
  have h2 : (u_ws RX9 TX9 14).all goodWord = true := by decide +kernel
  refine ⟨?_, List.all_eq_true.mp h2 w hw⟩
  rw [h1] at hw
  obtain ⟨i, -, hi⟩ := List.mem_filterMap.mp hw
  exact List.mem_of_getElem? hi
theorem xw_10 : ∀ w ∈ u_ws RX10 TX10 56, w ∈ lw_tbl ∧ goodWord w = true := by
  intro w hw
  have h1 : u_ws RX10 TX10 56 = [1459, 1461, 1463, 1465, 1467, 1469, 1471, 1473, 1475, 1477, 1479, 1481, 1483, 1485, 1487, 1489, 1491, 1493, 1495, 1497, 1499, 1501, 1503, 1505, 1507, 1509, 1511, 1513, 1515, 1517, 1519, 1521, 1523, 1525, 1527, 1529, 1531, 1533, 1535, 1537, 1539, 1541, 1543, 1545, 1547, 1549, 1551, 1553, 1555, 1557, 1559, 1561, 1563, 1565, 1567, 1569].filterMap (fun i => lw_tbl[i]?) := by decide +kernel
  have h2 : (u_ws RX10 TX10 56).all goodWord = true := by decide +kernel
  refine ⟨?_, List.all_eq_true.mp h2 w hw⟩
  rw [h1] at hw
  obtain ⟨i, -, hi⟩ := List.mem_filterMap.mp hw
  exact List.mem_of_getElem? hi
/-- what is known of a class of the list -/
def xClOk (ci : Nat) (C : String) (T : u_T) (N : Nat) : Prop := (∀ w ∈ u_ws C T N, w ∈ lw_tbl ∧ goodWord w = true) ∧ (∀ k, k < N → parseFieldDescriptor (T k).2.2.1 = some (xct ci k)) ∧ (∀ a, a < N → ∀ b, b < N → a ≠ b → (T a).2.1 ≠ (T b).2.1) ∧ C = xcn ci
theorem xcl_ok : ∀ (ci : Nat) (C : String) (T : u_T) (N : Nat), xcl[ci]? = some (C, T, N) → xClOk ci C T N
  | 0, _, _, _, h => by cases h; exact ⟨xw_0, tyX0_ok, nmX0, rfl⟩
  | 1, _, _, _, h => by cases h; exact ⟨xw_1, tyX1_ok, nmX1, rfl⟩
  | 2, _, _, _, h => by cases h; exact ⟨xw_2, tyX2_ok, nmX2, rfl⟩
  | 3, _, _, _, h => by cases h; exact ⟨xw_3, tyX3_ok, nmX3, rfl⟩
  | 4, _, _, _, h => by cases h; exact ⟨xw_4, tyX4_ok, nmX4, rfl⟩
  | 5, _, _, _, h => by cases h; exact ⟨xw_5, tyX5_ok, nmX5, rfl⟩
  | 6, _, _, _, h => by cases h; exact ⟨xw_6, tyX6_ok, nmX6, rfl⟩
  | 7, _, _, _, h => by cases h; exact ⟨xw_7, tyX7_ok, nmX7, rfl⟩
  | 8, _, _, _, h => by cases h; exact ⟨xw_8, tyX8_ok, nmX8, rfl⟩
  | 9, _, _, _, h => by cases h; exact ⟨xw_9, tyX9_ok, nmX9, rfl⟩
  | 10, _, _, _, h => by cases h; exact ⟨xw_10, tyX10_ok, nmX10, rfl⟩
  | k + 11, _, _, _, h => by simp [xcl] at h
