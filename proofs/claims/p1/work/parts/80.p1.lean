/-! THE LAW OF p1: one call on a fresh object. -/
def xp_f : xB := (-2147483648, 2147483647)
def xp_σ : List xB := [xp_f, xp_f, xp_f, xp_f, xp_f, xp_f]
def xp_is : List xI := [(some 0, 0), (some 1, 0), (some 2, 0), (some 3, 0), (some 4, 0), (some 5, 0)]
def xp_scr : List xI := (none, 0) :: xp_is
def xp_one (r : Option (List (xQ × xS))) : Option (xQ × xS) := match r with
  | some [q] => some q
  | _ => none
theorem xp_one_ok {r : Option (List (xQ × xS))} {q : xQ × xS} (h : xp_one r = some q) : r = some [q] := by
  unfold xp_one at h
  split at h
  · cases h; rfl
  · cases h
/-- both objects are made: the law at its loop's head -/
def xp_r0 : Option (List (xQ × xS)) := xRun xMt xTb [] [18] 5000 20 xm_L_law (xSeek xq_L_law 0) [] xp_σ [(0, .inr (.inr (.inr 0)))] [] 0 0
def xp_S0 : xS := match xp_one xp_r0 with
  | some q => q.2
  | none => ([], [], [], [], 0, 0)
/-- from there, with a script of fewer than 6 ints, to the end -/
def xp_ok (q : xQ × xS) : Bool := match q.1.2.2.1, q.1.2.1, q.2.2.2.2.1 with
  | 110, 1, [.inl (none, .ofNat 1)] => true
  | _, _, _ => false
def xp_end (scr : List xI) (r : Option (List (xQ × xS))) : Bool := match r with
  | some outs => outs.all xp_ok
  | none => false
def xp_short (n : Nat) : Option (List (xQ × xS)) := xRun xMt xTb ((none, 0) :: xp_is.take n) [] 100 20 xm_L_law (xSeek xq_L_law 18) xp_S0.1 xp_S0.2.1 xp_S0.2.2.1 xp_S0.2.2.2.1 xp_S0.2.2.2.2.1 xp_S0.2.2.2.2.2
/-- with 6 ints, to the switch -/
def xp_r1 : Option (List (xQ × xS)) := xRun xMt xTb xp_scr [33] 100 20 xm_L_law (xSeek xq_L_law 18) xp_S0.1 xp_S0.2.1 xp_S0.2.2.1 xp_S0.2.2.2.1 xp_S0.2.2.2.2.1 xp_S0.2.2.2.2.2
def xp_e1 : xQ := match xp_one xp_r1 with
  | some q => q.1
  | none => (0, 0, 0, 0, 0, 0)
def xp_S1 : xS := match xp_one xp_r1 with
  | some q => q.2
  | none => ([], [], [], [], 0, 0)
/-- the roads of the switch -/
def xp_sw : Option (List (Nat × List xB) × List xV) := xFB xTb [] xp_e1 xp_S1.2.1 xp_S1.2.2.2.1
def xp_L : List (Nat × List xB) := match xp_sw with
  | some r => r.1
  | none => []
def xp_t : List xV := match xp_sw with
  | some r => r.2
  | none => []
/-- road k, the second int between two numbers -/
def xp_run (k : Nat) (lo hi : Int) : Option (List (xQ × xS)) := match xp_L[k]? with
  | some r => xRun xMt xTb xp_scr [] 20000 20 xm_L_law (xSeek xq_L_law r.1) xp_S1.1 (xput r.2 (some 1, 0) lo hi) xp_S1.2.2.1 xp_t xp_S1.2.2.2.2.1 xp_S1.2.2.2.2.2
  | none => none
def xp_case (k : Nat) (lo hi : Int) : Bool := xp_end xp_scr (xp_run k lo hi)
