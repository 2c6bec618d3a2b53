/-! What lies outside every world: the texts, the two arrays of settings, the JDK's statics. -/
def xStrs : List (Nat × String) := [(158, "boiled"), (162, "from"), (97, "frost"), (136, "gap"), (61, "garrison"), (92, "heat"), (132, "hours"), (134, "law"), (74, "man"), (154, "needs"), (142, "odds"), (138, "packets"), (82, "rain"), (144, "stiff"), (149, "sweat"), (164, "to"), (140, "weevils")]
def xslen : List Nat := [6, 4, 5, 3, 8, 4, 5, 3, 3, 5, 4, 7, 4, 5, 5, 2, 7]
def xsbyt : List (List Int32) := [[98, 111, 105, 108, 101, 100], [102, 114, 111, 109], [102, 114, 111, 115, 116], [103, 97, 112], [103, 97, 114, 114, 105, 115, 111, 110], [104, 101, 97, 116], [104, 111, 117, 114, 115], [108, 97, 119], [109, 97, 110], [110, 101, 101, 100, 115], [111, 100, 100, 115], [112, 97, 99, 107, 101, 116, 115], [114, 97, 105, 110], [115, 116, 105, 102, 102], [115, 119, 101, 97, 116], [116, 111], [119, 101, 101, 118, 105, 108, 115]]
def xsta0 : List Int32 := [1, 0, 0, 0, 0, 0]
def xsta1 : List Int32 := [24, 3, 3, 60, 9, 10]
/-- the address of a ref outside -/
def xexa (ex : List Nat) (k : Nat) : Nat := (ex[k]?).getD 0
def xGlo (A : Nat → Prop) (s : State) (ex : List Nat) : Prop := 20 ≤ ex.length ∧
  (va_Z "StarchGarrison" "SETTING_LEAST" "[I" (.ref (xexa ex 18)) A s s.heap ∧ va_T .int (xexa ex 18) 6 (fun j => .int (xsta0.getD j 0)) A s s.heap) ∧
  (va_Z "StarchGarrison" "SETTING_MOST" "[I" (.ref (xexa ex 19)) A s s.heap ∧ va_T .int (xexa ex 19) 6 (fun j => .int (xsta1.getD j 0)) A s s.heap) ∧
  (∃ adV : Nat → Nat, vk_S 17 xslen xsbyt (fun i => xexa ex (i + 1)) adV A s s.heap) ∧
  (∀ (i : Nat) (q : Nat × String), xStrs[i]? = some q → vk_R "StarchGarrison$Reader" q.1 q.2 (xexa ex (i + 1)) s) ∧
  va_Z "java/lang/String" "COMPACT_STRINGS" "Z" (.int 1) A s s.heap ∧ va_Zq "jdk/internal/util/Preconditions" "SIOOBE_FORMATTER" "Ljava/util/function/BiFunction;" A s s.heap
theorem xGlo.call {A B : Nat → Prop} {s U : State} {ex ex' : List Nat} {H : Heap} {locs : List Loc} (h : xGlo A s ex) (hU : U.heap = H) (hW : s.WarmedH U.vm) (hS : va_S A s.heap H locs) (hB : ∀ q, B q → A q) (hx : ∀ k, k < 20 → ex'[k]? = ex[k]?) (hl : 20 ≤ ex'.length) : xGlo B U ex' := by
  obtain ⟨h1, h2, h3, ⟨adV, h4⟩, h5, h6, h7⟩ := h
  have hv := hW.alike
  have ea : ∀ k, k < 20 → xexa ex' k = xexa ex k := fun k hk => by unfold xexa; rw [hx k hk]
  have hs : ∀ i, i < 17 → xexa ex' (i + 1) = xexa ex (i + 1) := fun i hi => ea _ (by omega)
  refine ⟨hl, ?_, ?_, ⟨adV, ?_⟩, ?_, ?_, ?_⟩
  · rw [ea 18 (by omega), hU]
    exact ⟨((h2.1.kept hS.2.1).narrow hB).moved hv, ((h2.2.kept hS.2.1).narrow hB).moved hv⟩
  · rw [ea 19 (by omega), hU]
    exact ⟨((h3.1.kept hS.2.1).narrow hB).moved hv, ((h3.2.kept hS.2.1).narrow hB).moved hv⟩
  · have g := ((h4.kept hS.2.1).narrow hB).moved hv
    rw [hU]
    refine ⟨fun i hi => ?_, fun i j hi hj e => g.2 i j hi hj ?_⟩
    · have := g.1 i hi
      dsimp only at this ⊢
      rw [hs i hi]
      exact this
    · have e : xexa ex' (i + 1) = xexa ex' (j + 1) := e
      rw [hs i hi, hs j hj] at e
      exact e
  · intro i q hq
    have hi : i < 17 := (List.getElem?_eq_some_iff.mp hq).1
    rw [hs i hi]
    exact (h5 i q hq).warm hW
  · rw [hU]
    exact ((h6.kept hS.2.1).narrow hB).moved hv
  · rw [hU]
    exact ((h7.kept hS.2.1).narrow hB).moved hv
theorem xGlo.same {A : Nat → Prop} {s U : State} {ex : List Nat} (h : xGlo A s ex) (h1 : U.heap = s.heap) (h2 : U.vm = s.vm) : xGlo A U ex := by
  obtain ⟨g1, g2, g3, ⟨adV, g4⟩, g5, g6, g7⟩ := h
  have hv : s.vm.Alike U.vm := by rw [h2]; exact Vm.Alike.refl _
  refine ⟨g1, ?_, ?_, ⟨adV, ?_⟩, ?_, ?_, ?_⟩
  · rw [h1]; exact ⟨g2.1.moved hv, g2.2.moved hv⟩
  · rw [h1]; exact ⟨g3.1.moved hv, g3.2.moved hv⟩
  · rw [h1]; exact g4.moved hv
  · intro i q hq
    exact (g5 i q hq).same h2
  · rw [h1]; exact g6.moved hv
  · rw [h1]; exact g7.moved hv
/-- the script: its length, a place in it, the ints from there on, as numbers of the state -/
abbrev xSk : Type := xI × (xI × List xI)
def xScl (A : Nat → Prop) (s : State) (ρ : List Int) (ex : List Nat) (scl : Option xSk) : Prop := scl = none ∨ ∃ (a b : xI) (es : List xI) (L z : Nat) (xs : Nat → Int32), scl = some (a, b, es) ∧ va_X (xexa ex 0) L xs s s.heap ∧ xexa ex 0 < s.heap.size ∧ ¬ A (xexa ex 0) ∧ L ≤ 3072 ∧ xe ρ a = some (L : Int) ∧ xe ρ b = some (z : Int) ∧ ∀ (j : Nat) (v : xI), es[j]? = some v → xe ρ v = some (xs (z + j)).toInt
theorem xScl.mono {A : Nat → Prop} {s : State} {ρ ρ' : List Int} {ex : List Nat} {scl : Option xSk} (hX : xX ρ ρ') (h : xScl A s ρ ex scl) : xScl A s ρ' ex scl := by
  rcases h with h | ⟨a, b, es, L, z, xs, h1, h2, h3, h4, h5, h6, h7, h8⟩
  · exact Or.inl h
  · exact Or.inr ⟨a, b, es, L, z, xs, h1, h2, h3, h4, h5, xe.mono hX h6, xe.mono hX h7, fun j v hv => xe.mono hX (h8 j v hv)⟩
theorem xexa_at {ex : List Nat} {k q : Nat} (h : ex[k]? = some q) : xexa ex k = q := by
  unfold xexa
  rw [h]
  rfl
