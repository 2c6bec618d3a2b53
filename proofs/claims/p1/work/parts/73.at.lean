/-- the run from a place on -/
theorem xRun_at (hM : ∀ M ∈ xMt, xMok M) {l : Launch} {f d : Nat} {scr : List xI} {ct : List Nat} {M : xMd} {pc : Nat} {h : List xC} {σ : List xB} {loc : List (Nat × xV)} {stk : List xV} {nc ns : Nat} {outs : List (xQ × xS)} (hv : xRun xMt xTb scr ct f d M (xSeek M.pg pc) h σ loc stk nc ns = some outs) (hRw : xRows M)
    {p : Program} {e : Env} {R : Room} {s : State} {m : MethodId} {args : Array Value} {below : List Frame} {meth : Method} {c : Code} {H : Heap} {locs : List Loc} {Q : State → Prop} {ls : Array Slot} {st : List Value} {ρ : List Int} {ad ex : List Nat} {D : va_G} {A : Nat → Prop}
    (C : xCtx p s m args c M.cc M.nl M.yy.cls) (hini : (Nat.beq M.kd 2) = true → meth.name = "<init>") (hA : ∀ q, s.heap.size ≤ q → A q) (h1 : d ≤ R.frames) (h2 : 40 * d ≤ R.locals) (h3 : M.mc ≤ R.cells) (h4 : M.ms ≤ R.slots) (hr : xRel D A s M.nl M.mc M.ms scr ex ρ ad (h, σ, loc, stk, nc, ns) H locs ls st)
    (k : ∀ q ∈ outs, q.1 ∈ M.pg → ∀ ρ' ad' H' locs' ls' st', xX ρ ρ' → xX ad ad' → xRel D A s M.nl M.mc M.ms scr ex ρ' ad' q.2 H' locs' ls' st' → W p l e R s m args below meth c H' locs' q.2.2.2.2.2.1 q.2.2.2.2.2.2 Q (F0 m q.1.1 ls' st')) : W p l e R s m args below meth c H locs nc ns Q (F0 m pc ls st) := by
  cases hsk : xSeek M.pg pc with
  | nil => rw [hsk] at hv; exact (xRun_nil hv).elim
  | cons er nx =>
    have hpc := xSeek_pc hsk
    rw [hsk] at hv
    have := xRun_ok hM l f d scr ct M (er :: nx) h σ loc stk nc ns outs hv hRw (fun z hz => xSeek_sub (pc := pc) z (by rw [hsk]; exact hz)) C hini hA h1 h2 h3 h4 hr k er nx rfl
    rw [hpc] at this
    exact this
