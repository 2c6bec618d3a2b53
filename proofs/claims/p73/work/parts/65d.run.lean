/-! Programs, calls, and the run. -/
/-- a method: its name, code, locals, answer's type, how many arguments (the receiver aside), cells and slots that it makes, its kind (0 static, 1 of an object, 2 a constructor), its class's number, its program -/
abbrev xMd : Type := MethodName × (ByteArray × (Nat × (Option FieldType × (Nat × (Nat × (Nat × (Nat × (Nat × List xQ))))))))
abbrev xMd.yy (M : xMd) : MethodName := M.1
abbrev xMd.cc (M : xMd) : ByteArray := M.2.1
abbrev xMd.nl (M : xMd) : Nat := M.2.2.1
abbrev xMd.rt (M : xMd) : Option FieldType := M.2.2.2.1
abbrev xMd.na (M : xMd) : Nat := M.2.2.2.2.1
abbrev xMd.mc (M : xMd) : Nat := M.2.2.2.2.2.1
abbrev xMd.ms (M : xMd) : Nat := M.2.2.2.2.2.2.1
abbrev xMd.kd (M : xMd) : Nat := M.2.2.2.2.2.2.2.1
abbrev xMd.ci (M : xMd) : Nat := M.2.2.2.2.2.2.2.2.1
abbrev xMd.pg (M : xMd) : List xQ := M.2.2.2.2.2.2.2.2.2
/-- arguments as locals -/
def xArgs : Nat → List xV → List (Nat × xV)
  | _, [] => []
  | i, v :: t => (i, v) :: xArgs (i + xcat v) t
theorem xArgs_ok {ρ : List Int} {ad ex : List Nat} : ∀ {vs : List xV} {ws : List Value} {i : Nat}, xAll2 (xv ρ ad ex) vs ws → xAll2 (fun q r => q.1 = r.1 ∧ xv ρ ad ex q.2 r.2) (xArgs i vs) (lv_args i ws)
  | [], [], _, _ => trivial
  | v :: vs, w :: ws, i, h => by
    have hc := h.1.cat
    have e : (if w.category = 2 then i + 2 else i + 1) = i + xcat v := by
      rw [hc]
      rcases v with v | v | (_ | v) | v <;> rfl
    refine ⟨⟨rfl, h.1⟩, ?_⟩
    rw [e]
    exact xArgs_ok h.2
  | [], _ :: _, _, h => h.elim
  | _ :: _, [], _, h => h.elim
theorem xsl_len {ρ : List Int} {ad ex : List Nat} : ∀ {vs : List xV} {ws : List Value}, xAll2 (xv ρ ad ex) vs ws → (lg_sl ws).length = xsum vs
  | [], [], _ => rfl
  | v :: vs, w :: ws, h => by
    have hc := h.1.cat
    have ih := xsl_len h.2
    unfold lg_sl at ih ⊢
    rw [List.flatMap_cons, List.length_append, ih]
    show _ = xcat v + xsum vs
    congr 1
    rw [hc]
    rcases v with v | v | (_ | v) | v <;> rfl
  | [], _ :: _, h => h.elim
  | _ :: _, [], h => h.elim
/-- n values off the stack, the last one first: the arguments in their order, and the rest -/
def xtake : Nat → List xV → List xV → Option (List xV × List xV)
  | 0, acc, t => some (acc, t)
  | n + 1, acc, v :: t => xtake n (v :: acc) t
  | _ + 1, _, [] => none
theorem xtake_ok {ρ : List Int} {ad ex : List Nat} : ∀ {n : Nat} {acc t as r : List xV} {aw st : List Value}, xtake n acc t = some (as, r) → xAll2 (xv ρ ad ex) acc aw → xAll2 (xv ρ ad ex) t st → ∃ As rest, xAll2 (xv ρ ad ex) as (As ++ aw) ∧ xAll2 (xv ρ ad ex) r rest ∧ st = As.reverse ++ rest ∧ As.length = n
  | 0, acc, t, as, r, aw, st, h, h1, h2 => by
    cases h
    exact ⟨[], st, h1, h2, rfl, rfl⟩
  | n + 1, acc, [], as, r, aw, st, h, h1, h2 => by cases h
  | n + 1, acc, v :: t, as, r, aw, st, h, h1, h2 => by
    obtain ⟨w, t', rfl, q1, q2⟩ := h2.cons
    obtain ⟨As, rest, e1, e2, e3, e4⟩ := xtake_ok (show xtake n (v :: acc) t = some (as, r) from h) (show xAll2 (xv ρ ad ex) (v :: acc) (w :: aw) from ⟨q1, h1⟩) q2
    refine ⟨As ++ [w], rest, ?_, e2, ?_, ?_⟩
    · rw [List.append_assoc]
      exact e1
    · rw [List.reverse_append, e3]
      rfl
    · rw [List.length_append, e4]
      rfl
/-- a return: its kind by the answer's type -/
def xRet (ret : Option FieldType) (q : xQ × xS) : Bool := Nat.beq q.1.2.1 1 && (match q.1.2.2.1, ret, q.2.2.2.2.1 with
  | 113, none, [] => true
  | 110, some .int, [.inl _] => true
  | 110, some .boolean, [.inl a] => (match xrg q.2.2.1 a with
    | some r => xle 0 r.1 && xle r.2 1
    | none => false)
  | 111, some .long, [.inr (.inl _)] => true
  | 112, some (.object _), [.inr (.inr _)] => true
  | 112, some (.array _), [.inr (.inr _)] => true
  | _, _, _ => false)
/-- the program from a place on -/
def xSeek : List xQ → Nat → List xQ
  | [], _ => []
  | e :: t, pc => bif Nat.beq e.1 pc then e :: t else xSeek t pc
theorem xSeek_sub : ∀ {P : List xQ} {pc : Nat}, ∀ e ∈ xSeek P pc, e ∈ P
  | [], _, e, h => h
  | x :: t, pc, e, h => by
    unfold xSeek at h
    cases hb : Nat.beq x.1 pc with
    | true => rw [hb] at h; exact h
    | false => rw [hb] at h; exact List.mem_cons_of_mem _ (xSeek_sub e h)
theorem xSeek_pc : ∀ {P : List xQ} {pc : Nat} {e : xQ} {t : List xQ}, xSeek P pc = e :: t → e.1 = pc
  | [], _, _, _, h => by cases h
  | x :: t, pc, e, t', h => by
    unfold xSeek at h
    cases hb : Nat.beq x.1 pc with
    | true =>
      rw [hb] at h
      cases h
      exact Nat.eq_of_beq_eq_true hb
    | false => rw [hb] at h; exact xSeek_pc (show xSeek t pc = e :: t' from h)
def xGo (P nx : List xQ) (pc : Nat) : List xQ := match nx with
  | e :: _ => bif Nat.beq e.1 pc then nx else xSeek P pc
  | [] => xSeek P pc
theorem xGo_sub {P nx : List xQ} {pc : Nat} (h : ∀ e ∈ nx, e ∈ P) : ∀ e ∈ xGo P nx pc, e ∈ P := by
  intro e he
  unfold xGo at he
  split at he
  · rename_i x t
    cases hb : Nat.beq x.1 pc with
    | true => rw [hb] at he; exact h e he
    | false => rw [hb] at he; exact xSeek_sub e he
  · exact xSeek_sub e he
theorem xGo_pc {P nx : List xQ} {pc : Nat} {e : xQ} {t : List xQ} (h : xGo P nx pc = e :: t) : e.1 = pc := by
  unfold xGo at h
  split at h
  · rename_i x t'
    cases hb : Nat.beq x.1 pc with
    | true =>
      rw [hb] at h
      cases h
      exact Nat.eq_of_beq_eq_true hb
    | false => rw [hb] at h; exact xSeek_pc h
  · exact xSeek_pc h
/-- all roads, or none; one road is gone on without a word -/
def xCat {α β : Type} (f : α → Option (List β)) : List α → Option (List β)
  | [] => some []
  | [a] => f a
  | a :: b :: t => match f a with
    | none => none
    | some x => match xCat f (b :: t) with
      | none => none
      | some y => some (x ++ y)
theorem xCat_ok {α β : Type} {f : α → Option (List β)} : ∀ {L : List α} {r : List β}, xCat f L = some r → ∀ a ∈ L, ∃ x, f a = some x ∧ ∀ b ∈ x, b ∈ r
  | [], _, _, a, h => absurd h List.not_mem_nil
  | [c], r, hv, a, h => by
    have : a = c := List.mem_singleton.mp h
    subst this
    exact ⟨r, hv, fun b hb => hb⟩
  | c :: c2 :: t, r, hv, a, h => by
    unfold xCat at hv
    split at hv
    · cases hv
    · rename_i x hx
      split at hv
      · cases hv
      · rename_i y hy
        cases hv
        rcases List.mem_cons.mp h with rfl | h
        · exact ⟨x, hx, fun b hb => List.mem_append_left _ hb⟩
        · obtain ⟨z, h1, h2⟩ := xCat_ok hy a h
          exact ⟨z, h1, fun b hb => List.mem_append_right _ (h2 b hb)⟩
def xStat (g : Nat) : Bool := Nat.blt g 102
/-- the receiver is a cell of the method's class -/
def xRecv (h : List xC) (ci : Nat) (as : List xV) : Bool := match as with
  | .inr (.inr (.inl (some j))) :: _ => (match h[j]? with
    | some (.inl o) => Nat.beq o.1 ci
    | _ => false)
  | _ => false
