/-! The law's rows, fifty at a time. -/
def xChunk (P : List xQ) (n i : Nat) : List xQ := (P.drop (n * i)).take n
theorem xChunk_mem {P : List xQ} {n m : Nat} (hn : 0 < n) (hm : P.length ≤ n * m) {e : xQ} (he : e ∈ P) : ∃ i, i < m ∧ e ∈ xChunk P n i := by
  obtain ⟨j, hj⟩ := List.getElem?_of_mem he
  have hlt := (List.getElem?_eq_some_iff.mp hj).1
  have hd := Nat.div_add_mod j n
  have hr := Nat.mod_lt j hn
  refine ⟨j / n, ?_, ?_⟩
  · apply Nat.div_lt_of_lt_mul
    omega
  · apply List.mem_of_getElem? (i := j % n)
    unfold xChunk
    rw [List.getElem?_take, if_pos hr, List.getElem?_drop, hd]
    exact hj
def xGoodChunk (M : xMd) (L : List xQ) : Prop := xChk M.yy.cls (Nat.beq M.kd 2) M.cc L = true ∧ ∃ ps : List Nat, L.flatMap (fun e => xNeed M.yy.cls (xYof e) (xMkP xTb e)) = ps.filterMap (fun i => lw_tbl[i]?)
theorem xRows_chunks {M : xMd} {n m : Nat} (hn : 0 < n) (hm : M.pg.length ≤ n * m) (h : ∀ i, i < m → xGoodChunk M (xChunk M.pg n i)) : xRows M := by
  intro e he
  obtain ⟨i, hi, hm⟩ := xChunk_mem hn hm he
  obtain ⟨h1, ps, h2⟩ := h i hi
  have h := List.all_eq_true.mp h1 e hm
  rw [Bool.and_eq_true, Bool.and_eq_true] at h
  refine ⟨⟨of_decide_eq_true h.1, fun w hw => ?_, h.2.1⟩, h.2.2⟩
  have : w ∈ (xChunk M.pg n i).flatMap (fun e => xNeed M.yy.cls (xYof e) (xMkP xTb e)) := List.mem_flatMap.mpr ⟨e, hm, hw⟩
  rw [h2] at this
  obtain ⟨i, -, hi⟩ := List.mem_filterMap.mp this
  exact List.mem_of_getElem? hi
theorem xlw_0 : xGoodChunk xm_L_law (xChunk xm_L_law.pg 50 0) := ⟨by decide +kernel, [176, 177, 158, 178, 1397, 1398, 168, 1399, 572], by decide +kernel⟩
theorem xlw_1 : xGoodChunk xm_L_law (xChunk xm_L_law.pg 50 1) := ⟨by decide +kernel, [1595, 580, 1603, 584], by decide +kernel⟩
theorem xlw_2 : xGoodChunk xm_L_law (xChunk xm_L_law.pg 50 2) := ⟨by decide +kernel, [1611, 734, 1607, 738, 1724], by decide +kernel⟩
theorem xlw_3 : xGoodChunk xm_L_law (xChunk xm_L_law.pg 50 3) := ⟨by decide +kernel, [746, 1736, 754, 1748, 758, 1752, 774], by decide +kernel⟩
theorem xlw_4 : xGoodChunk xm_L_law (xChunk xm_L_law.pg 50 4) := ⟨by decide +kernel, [1760, 821, 1806, 829], by decide +kernel⟩
theorem xlw_5 : xGoodChunk xm_L_law (xChunk xm_L_law.pg 50 5) := ⟨by decide +kernel, [1810, 841, 1822, 853, 1830, 861], by decide +kernel⟩
theorem xlw_6 : xGoodChunk xm_L_law (xChunk xm_L_law.pg 50 6) := ⟨by decide +kernel, [1838, 865, 1842, 869, 1846, 877, 1854, 886, 1862], by decide +kernel⟩
theorem xlw_7 : xGoodChunk xm_L_law (xChunk xm_L_law.pg 50 7) := ⟨by decide +kernel, [904, 1874, 908, 1878, 912], by decide +kernel⟩
theorem xlw_8 : xGoodChunk xm_L_law (xChunk xm_L_law.pg 50 8) := ⟨by decide +kernel, [1882, 916, 1886, 920, 1890, 924, 1894], by decide +kernel⟩
theorem xlw_9 : xGoodChunk xm_L_law (xChunk xm_L_law.pg 50 9) := ⟨by decide +kernel, [929, 1898, 934, 1902, 939, 1906, 943, 1910], by decide +kernel⟩
theorem xlw_10 : xGoodChunk xm_L_law (xChunk xm_L_law.pg 50 10) := ⟨by decide +kernel, [947, 1914, 951, 1918, 956], by decide +kernel⟩
theorem xlw_11 : xGoodChunk xm_L_law (xChunk xm_L_law.pg 50 11) := ⟨by decide +kernel, [1922, 964, 1930, 969, 1934, 986, 1942], by decide +kernel⟩
theorem xlw_12 : xGoodChunk xm_L_law (xChunk xm_L_law.pg 50 12) := ⟨by decide +kernel, [994, 1946, 998, 1950, 1006, 1954], by decide +kernel⟩
theorem xlw_13 : xGoodChunk xm_L_law (xChunk xm_L_law.pg 50 13) := ⟨by decide +kernel, [1047, 1971, 1051, 1975], by decide +kernel⟩
theorem xlw_14 : xGoodChunk xm_L_law (xChunk xm_L_law.pg 50 14) := ⟨by decide +kernel, [1055, 1979, 1063, 1983, 1082, 1995, 1086, 1999, 1094], by decide +kernel⟩
theorem xlw_15 : xGoodChunk xm_L_law (xChunk xm_L_law.pg 50 15) := ⟨by decide +kernel, [2007, 1129, 2023, 1138], by decide +kernel⟩
theorem xlw_16 : xGoodChunk xm_L_law (xChunk xm_L_law.pg 50 16) := ⟨by decide +kernel, [2027, 1180, 2043, 1184], by decide +kernel⟩
theorem xlw_17 : xGoodChunk xm_L_law (xChunk xm_L_law.pg 50 17) := ⟨by decide +kernel, [2047, 1188, 2051, 1196], by decide +kernel⟩
theorem xlw_18 : xGoodChunk xm_L_law (xChunk xm_L_law.pg 50 18) := ⟨by decide +kernel, [2055, 1200, 2059, 1204], by decide +kernel⟩
theorem xlw_19 : xGoodChunk xm_L_law (xChunk xm_L_law.pg 50 19) := ⟨by decide +kernel, [2063, 1221, 2076, 1225, 2084, 1229], by decide +kernel⟩
theorem xlw_20 : xGoodChunk xm_L_law (xChunk xm_L_law.pg 50 20) := ⟨by decide +kernel, [2088, 1245], by decide +kernel⟩
theorem xlw_21 : xGoodChunk xm_L_law (xChunk xm_L_law.pg 50 21) := ⟨by decide +kernel, [2100, 1252, 2107], by decide +kernel⟩
theorem xlw_22 : xGoodChunk xm_L_law (xChunk xm_L_law.pg 50 22) := ⟨by decide +kernel, [1290, 2130, 1294], by decide +kernel⟩
theorem xlw_23 : xGoodChunk xm_L_law (xChunk xm_L_law.pg 50 23) := ⟨by decide +kernel, [2134, 1298, 2159], by decide +kernel⟩
theorem xlw_24 : xGoodChunk xm_L_law (xChunk xm_L_law.pg 50 24) := ⟨by decide +kernel, [1314, 2168, 1318, 2172, 1322, 2176, 1326], by decide +kernel⟩
theorem xlw_25 : xGoodChunk xm_L_law (xChunk xm_L_law.pg 50 25) := ⟨by decide +kernel, [2138, 1343, 2154], by decide +kernel⟩
theorem xlw_26 : xGoodChunk xm_L_law (xChunk xm_L_law.pg 50 26) := ⟨by decide +kernel, [1347, 2180, 1355, 2185, 1363], by decide +kernel⟩
theorem xlw_27 : xGoodChunk xm_L_law (xChunk xm_L_law.pg 50 27) := ⟨by decide +kernel, [2190, 1367, 2195, 1371], by decide +kernel⟩
theorem xlw_28 : xGoodChunk xm_L_law (xChunk xm_L_law.pg 50 28) := ⟨by decide +kernel, [1573, 2199, 1380], by decide +kernel⟩
theorem xlw_29 : xGoodChunk xm_L_law (xChunk xm_L_law.pg 50 29) := ⟨by decide +kernel, [2199, 1584, 1388], by decide +kernel⟩
theorem xlw_30 : xGoodChunk xm_L_law (xChunk xm_L_law.pg 50 30) := ⟨by decide +kernel, [1591], by decide +kernel⟩
theorem xk_law : xRows xm_L_law := by
  refine xRows_chunks (n := 50) (m := 31) (by decide) (by decide +kernel) ?_
  intro i hi
  match i, hi with
  | 0, _ => exact xlw_0
  | 1, _ => exact xlw_1
  | 2, _ => exact xlw_2
  | 3, _ => exact xlw_3
  | 4, _ => exact xlw_4
  | 5, _ => exact xlw_5
  | 6, _ => exact xlw_6
  | 7, _ => exact xlw_7
  | 8, _ => exact xlw_8
  | 9, _ => exact xlw_9
  | 10, _ => exact xlw_10
  | 11, _ => exact xlw_11
  | 12, _ => exact xlw_12
  | 13, _ => exact xlw_13
  | 14, _ => exact xlw_14
  | 15, _ => exact xlw_15
  | 16, _ => exact xlw_16
  | 17, _ => exact xlw_17
  | 18, _ => exact xlw_18
  | 19, _ => exact xlw_19
  | 20, _ => exact xlw_20
  | 21, _ => exact xlw_21
  | 22, _ => exact xlw_22
  | 23, _ => exact xlw_23
  | 24, _ => exact xlw_24
  | 25, _ => exact xlw_25
  | 26, _ => exact xlw_26
  | 27, _ => exact xlw_27
  | 28, _ => exact xlw_28
  | 29, _ => exact xlw_29
  | 30, _ => exact xlw_30
  | i + 31, h => exact absurd h (by omega)
