/-! The rows stand in the code, their words in the tables. -/
def xChk (own : String) (ini : Bool) (cc : ByteArray) (P : List xQ) : Bool := P.all (fun e => decide (decode cc e.1 = .ok ((xMkP xTb e).2.2.1, (xMkP xTb e).2.1)) && (xSane own ini (xMkP xTb e) && xCallOk e))
theorem xRows_of {M : xMd} (h1 : xChk M.yy.cls (Nat.beq M.kd 2) M.cc M.pg = true) (ps : List Nat) (h2 : M.pg.flatMap (fun e => xNeed M.yy.cls (xYof e) (xMkP xTb e)) = ps.filterMap (fun i => lw_tbl[i]?)) : xRows M := by
  intro e he
  have h := List.all_eq_true.mp h1 e he
  rw [Bool.and_eq_true, Bool.and_eq_true] at h
  refine ⟨⟨of_decide_eq_true h.1, fun w hw => ?_, h.2.1⟩, h.2.2⟩
  have : w ∈ M.pg.flatMap (fun e => xNeed M.yy.cls (xYof e) (xMkP xTb e)) := List.mem_flatMap.mpr ⟨e, he, hw⟩
  rw [h2] at this
  obtain ⟨i, -, hi⟩ := List.mem_filterMap.mp this
  exact List.mem_of_getElem? hi
/-- the words of a method's own -/
def xOwn (M : xMd) : List Jvm.Cond := [.code M.yy M.cc M.nl M.rt, .initialized M.yy.cls] ++ (match M.kd with
  | 0 => [.static M.yy]
  | 1 => [.instanceMethod M.yy, .selects M.yy.cls M.yy M.yy]
  | _ => [.instanceMethod M.yy])
def xFit (M : xMd) : Bool := decide (M.nl ≤ 21) && (plainName M.yy.cls && (decide (M.yy.cls ≠ "java/lang/invoke/MethodHandle") && (decide (M.yy.cls ≠ "java/lang/invoke/VarHandle") && (decide ((parseMethodDescriptor M.yy.desc).map (fun d => d.parameters.length) = some M.na) && (match M.kd with
  | 0 => true
  | 1 => (match xcl[M.ci]? with
    | some r => decide (r.1 = M.yy.cls)
    | none => false)
  | 2 => decide (M.yy.name = "<init>") && decide (M.rt = none)
  | _ => false)))))
theorem xMok_of {M : xMd} (h1 : xChk M.yy.cls (Nat.beq M.kd 2) M.cc M.pg = true) (ps : List Nat) (h2 : M.pg.flatMap (fun e => xNeed M.yy.cls (xYof e) (xMkP xTb e)) = ps.filterMap (fun i => lw_tbl[i]?)) (qs : List Nat) (h3 : xOwn M = qs.filterMap (fun i => lw_tbl[i]?)) (h4 : xFit M = true) : xMok M := by
  have own : ∀ w ∈ xOwn M, w ∈ lw_tbl := fun w hw => by
    rw [h3] at hw
    obtain ⟨i, -, hi⟩ := List.mem_filterMap.mp hw
    exact List.mem_of_getElem? hi
  unfold xFit at h4
  rw [Bool.and_eq_true, Bool.and_eq_true, Bool.and_eq_true, Bool.and_eq_true, Bool.and_eq_true] at h4
  obtain ⟨f1, f2, f3, f4, f5, f6⟩ := h4
  unfold xOwn at own
  refine ⟨xRows_of h1 ps h2, of_decide_eq_true f1, f2, ⟨of_decide_eq_true f3, of_decide_eq_true f4, of_decide_eq_true f5⟩, own _ (by simp), own _ (by simp), fun hk => ?_, fun hk => ?_, fun hk => ?_⟩
  · rw [hk] at own
    exact own _ (by simp)
  · rw [hk] at own f6
    have f6 : (match xcl[M.ci]? with
      | some r => decide (r.1 = M.yy.cls)
      | none => false) = true := f6
    split at f6
    · rename_i r hr
      obtain ⟨C, T, N⟩ := r
      have f6 : C = M.yy.cls := of_decide_eq_true f6
      subst f6
      exact ⟨own _ (by simp), own _ (by simp), T, N, hr⟩
    · cases f6
  · rw [hk] at own f6
    have f6 : (decide (M.yy.name = "<init>") && decide (M.rt = none)) = true := f6
    rw [Bool.and_eq_true] at f6
    exact ⟨own _ (by simp), of_decide_eq_true f6.1, of_decide_eq_true f6.2⟩
