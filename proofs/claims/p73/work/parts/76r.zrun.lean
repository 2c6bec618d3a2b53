/-! Quicker copies of the executor, each the same function. -/
noncomputable def zrg (σ : List xB) (a : xI) : Option xB := Option.rec (motive := fun _ => Option xB) (some (a.2, a.2)) (fun k => Option.rec (motive := fun _ => Option xB) none (fun r => some (zadI r.1 a.2, zadI r.2 a.2)) (znth σ k)) a.1
theorem zrg_eq : zrg = xrg := by
  funext σ a
  obtain ⟨o, c⟩ := a
  cases o with
  | none => rfl
  | some k =>
    simp only [zrg, xrg, znth_eq, zadI_eq]
    cases σ[k]? <;> rfl
noncomputable def zmk (σ : List xB) (lo hi : Int) : xI × List xB := bif zeq lo hi then ((none, lo), σ) else ((some (zlen σ), 0), zapp σ [(lo, hi)])
theorem zmk_eq : @zmk = @xmk := by
  delta zmk xmk
  simp only [zlen_eq, zapp_eq, zeq_eq] <;> rfl
noncomputable def zput (σ : List xB) (a : xI) (lo hi : Int) : List xB := match a.1 with
  | none => σ
  | some k => (zset σ k (lo - a.2, hi - a.2))
theorem zput_eq : @zput = @xput := by
  delta zput xput
  simp only [zset_eq] <;> rfl
noncomputable def zmulB (L H : Int) (r q : xB) : xB :=
  let lo := zmin (zmin (r.1 * q.1) (r.1 * q.2)) (zmin (r.2 * q.1) (r.2 * q.2))
  let hi := zmax (zmax (r.1 * q.1) (r.1 * q.2)) (zmax (r.2 * q.1) (r.2 * q.2))
  bif zle L lo && zle hi H then (lo, hi) else (L, H)
theorem zmulB_eq : @zmulB = @xmulB := by
  delta zmulB xmulB
  simp only [zle_eq, zmin_eq, zmax_eq] <;> rfl
noncomputable def zandB (L H : Int) (r q : xB) : xB :=
  bif zle 0 r.1 then (bif zle 0 q.1 then (0, zmin r.2 q.2) else (0, r.2)) else (bif zle 0 q.1 then (0, q.2) else (L, H))
theorem zandB_eq : @zandB = @xandB := by
  delta zandB xandB
  simp only [zle_eq, zmin_eq] <;> rfl
noncomputable def znearB (r : xB) : xB := (zmin r.1 0, zmax r.2 0)
theorem znearB_eq : @znearB = @xnearB := by
  delta znearB xnearB
  simp only [zmin_eq, zmax_eq] <;> rfl
noncomputable def zremB (r q : xB) : xB := bif zle 0 r.1 then (0, zmin r.2 (q.2 - 1)) else (1 - q.2, q.2 - 1)
theorem zremB_eq : @zremB = @xremB := by
  delta zremB xremB
  simp only [zle_eq, zmin_eq] <;> rfl
noncomputable def zadd (L H : Int) (σ : List xB) (a b : xI) : xR := match zrg σ a with
  | none => none
  | some ra => match zrg σ b with
    | none => none
    | some rb => bif zle L (ra.1 + rb.1) && zle (ra.2 + rb.2) H then (match a.1 with
        | none => some ((b.1, b.2 + a.2), σ)
        | some _ => match b.1 with
          | none => some ((a.1, a.2 + b.2), σ)
          | some _ => some (zmk σ (ra.1 + rb.1) (ra.2 + rb.2))) else some (zmk σ L H)
theorem zadd_eq : @zadd = @xadd := by
  delta zadd xadd
  simp only [zle_eq, zrg_eq, zmk_eq] <;> rfl
noncomputable def zsub (L H : Int) (σ : List xB) (a b : xI) : xR := match zrg σ a with
  | none => none
  | some ra => match zrg σ b with
    | none => none
    | some rb => bif zle L (ra.1 - rb.2) && zle (ra.2 - rb.1) H then (match b.1 with
        | none => some ((a.1, a.2 + (- b.2)), σ)
        | some _ => some (zmk σ (ra.1 - rb.2) (ra.2 - rb.1))) else some (zmk σ L H)
theorem zsub_eq : @zsub = @xsub := by
  delta zsub xsub
  simp only [zle_eq, zrg_eq, zmk_eq] <;> rfl
noncomputable def zop2 (g : xB → xB → xB) (σ : List xB) (a b : xI) : xR := match zrg σ a with
  | none => none
  | some ra => match zrg σ b with
    | none => none
    | some rb => some (zmk σ (g ra rb).1 (g ra rb).2)
theorem zop2_eq : @zop2 = @xop2 := by
  delta zop2 xop2
  simp only [zrg_eq, zmk_eq] <;> rfl
noncomputable def zcut (L H : Int) (σ : List xB) (a : xI) : xR := match zrg σ a with
  | none => none
  | some ra => bif zle L ra.1 && zle ra.2 H then some (a, σ) else some (zmk σ L H)
theorem zcut_eq : @zcut = @xcut := by
  delta zcut xcut
  simp only [zle_eq, zrg_eq, zmk_eq] <;> rfl
noncomputable def zIinc (j : Nat) (n : Int) (nL : Nat) (σ : List xB) (loc : List (Nat × xV)) : Option (List xB × List (Nat × xV)) := bif Nat.blt j nL && (zle (-32768) n && zle n 32767) then (match zget loc j with
  | some (.inl a) => (match zadd (-2147483648) 2147483647 σ a (none, n) with
    | some r => some (r.2, zsto1 loc j (.inl r.1))
    | none => none)
  | _ => none) else none
theorem zIinc_eq : @zIinc = @xIinc := by
  delta zIinc xIinc
  simp only [zle_eq, zadd_eq, zget_eq, zsto1_eq] <;> rfl
noncomputable def zltR (σ : List xB) (a b : xI) : List (List xB) := match zrg σ a with
  | none => [σ]
  | some ra => match zrg σ b with
    | none => [σ]
    | some rb => bif zle ra.1 (zmin ra.2 (rb.2 - 1)) && zle (zmax rb.1 (ra.1 + 1)) rb.2 then [zput (zput σ a ra.1 (zmin ra.2 (rb.2 - 1))) b (zmax rb.1 (ra.1 + 1)) rb.2] else []
theorem zltR_eq : @zltR = @xltR := by
  delta zltR xltR
  simp only [zle_eq, zmin_eq, zmax_eq, zrg_eq, zput_eq] <;> rfl
noncomputable def zleR (σ : List xB) (a b : xI) : List (List xB) := match zrg σ a with
  | none => [σ]
  | some ra => match zrg σ b with
    | none => [σ]
    | some rb => bif zle ra.1 (zmin ra.2 rb.2) && zle (zmax rb.1 ra.1) rb.2 then [zput (zput σ a ra.1 (zmin ra.2 rb.2)) b (zmax rb.1 ra.1) rb.2] else []
theorem zleR_eq : @zleR = @xleR := by
  delta zleR xleR
  simp only [zle_eq, zmin_eq, zmax_eq, zrg_eq, zput_eq] <;> rfl
noncomputable def zeqR (σ : List xB) (a b : xI) : List (List xB) := match zrg σ a with
  | none => [σ]
  | some ra => match zrg σ b with
    | none => [σ]
    | some rb => bif zle (zmax ra.1 rb.1) (zmin ra.2 rb.2) then [zput (zput σ a (zmax ra.1 rb.1) (zmin ra.2 rb.2)) b (zmax ra.1 rb.1) (zmin ra.2 rb.2)] else []
theorem zeqR_eq : @zeqR = @xeqR := by
  delta zeqR xeqR
  simp only [zle_eq, zmin_eq, zmax_eq, zrg_eq, zput_eq] <;> rfl
noncomputable def zneC (σ : List xB) (a : xI) (ra : xB) (c : Int) : List (List xB) :=
  bif zeq ra.1 c then (bif zle (c + 1) ra.2 then [zput σ a (c + 1) ra.2] else []) else (bif zeq ra.2 c then (bif zle ra.1 (c - 1) then [zput σ a ra.1 (c - 1)] else []) else (bif zle ra.1 c && zle c ra.2 then [zput σ a ra.1 (c - 1), zput σ a (c + 1) ra.2] else [σ]))
theorem zneC_eq : @zneC = @xneC := by
  delta zneC xneC
  simp only [zle_eq, zeq_eq, zput_eq] <;> rfl
noncomputable def zneR (σ : List xB) (a b : xI) : List (List xB) := match zrg σ a with
  | none => [σ]
  | some ra => match zrg σ b with
    | none => [σ]
    | some rb => bif zeq rb.1 rb.2 then zneC σ a ra rb.1 else (bif zeq ra.1 ra.2 then zneC σ b rb ra.1 else [σ])
theorem zneR_eq : @zneR = @xneR := by
  delta zneR xneR
  simp only [zeq_eq, zrg_eq, zneC_eq] <;> rfl
noncomputable def zIf (c : Jvm.ClassFile.Cond) (σ : List xB) (a b : xI) : List (List xB) × List (List xB) := match c with
  | .eq => (zeqR σ a b, zneR σ a b)
  | .ne => (zneR σ a b, zeqR σ a b)
  | .lt => (zltR σ a b, zleR σ b a)
  | .ge => (zleR σ b a, zltR σ a b)
  | .gt => (zltR σ b a, zleR σ a b)
  | .le => (zleR σ a b, zltR σ b a)
theorem zIf_eq : @zIf = @xIf := by
  delta zIf xIf
  simp only [zltR_eq, zleR_eq, zeqR_eq, zneR_eq] <;> rfl
noncomputable def zCond (c : Jvm.ClassFile.Cond) (σ : List xB) (a b : xI) (pc : Nat) (off : Int) : Option (List (Nat × List xB)) := match xtg pc off with
  | none => none
  | some t => some ((zIf c σ a b).1.map (fun τ => (t, τ)) ++ (zIf c σ a b).2.map (fun τ => (pc + 3, τ)))
theorem zCond_eq : @zCond = @xCond := by
  delta zCond xCond
  simp only [zIf_eq] <;> rfl
noncomputable def zTabGo (σ : List xB) (a : xI) (pc : Nat) (r : xB) : Int → List Int → Option (List (Nat × List xB))
  | _, [] => some []
  | j, off :: t => match zTabGo σ a pc r (j + 1) t with
    | none => none
    | some L => bif zle r.1 j && zle j r.2 then (match xtg pc off with
      | none => none
      | some q => some ((q, zput σ a j j) :: L)) else some L
theorem zTabGo_eq : @zTabGo = @xTabGo := by
  delta zTabGo xTabGo
  delta zTabGo._f xTabGo._f
  simp only [zle_eq, zput_eq] <;> rfl
noncomputable def zTab (σ : List xB) (a : xI) (pc : Nat) (d lo hi : Int) (offs : List Int) : Option (List (Nat × List xB)) := match zrg σ a with
  | none => none
  | some r => match xtg pc d with
    | none => none
    | some q => match zTabGo σ a pc r lo offs with
      | none => none
      | some L => some ((bif zle r.1 (lo - 1) then [(q, zput σ a r.1 (zmin r.2 (lo - 1)))] else []) ++ ((bif zle (hi + 1) r.2 then [(q, zput σ a (zmax r.1 (hi + 1)) r.2)] else []) ++ L))
theorem zTab_eq : @zTab = @xTab := by
  delta zTab xTab
  simp only [zle_eq, zmin_eq, zmax_eq, zrg_eq, zput_eq, zTabGo_eq] <;> rfl
noncomputable def zsame : (xI ⊕ xB) → (xI ⊕ xB) → Bool
  | .inl a, .inl b => (match a.1, b.1 with
    | none, none => zeq a.2 b.2
    | some i, some j => Nat.beq i j && zeq a.2 b.2
    | _, _ => false)
  | .inr r, .inr q => zeq r.1 q.1 && zeq r.2 q.2
  | _, _ => false
theorem zsame_eq : @zsame = @xsame := by
  delta zsame xsame
  simp only [zeq_eq] <;> rfl
noncomputable def zsset : List xG → Nat → (xI ⊕ xB) → List xG
  | [], _, _ => []
  | g :: t, j, u => bif Nat.blt j g.1 then (bif zsame g.2 u then g :: t else xpre j g.2 ((1, u) :: xpre (g.1 - j - 1) g.2 t)) else g :: zsset t (j - g.1) u
theorem zsset_eq : @zsset = @xsset := by
  delta zsset xsset
  delta zsset._f xsset._f
  simp only [zsame_eq] <;> rfl
noncomputable def zelr (σ : List xB) (u : xI ⊕ xB) : Option xB := match u with
  | .inl a => zrg σ a
  | .inr r => some r
theorem zelr_eq : @zelr = @xelr := by
  delta zelr xelr
  simp only [zrg_eq] <;> rfl
noncomputable def zjn (q r : xB) : xB := (zmin q.1 r.1, zmax q.2 r.2)
theorem zjn_eq : @zjn = @xjn := by
  delta zjn xjn
  simp only [zmin_eq, zmax_eq] <;> rfl
noncomputable def zsweak (σ : List xB) : List xG → Int → Int → xB → Option (List xG)
  | [], _, _, _ => some []
  | g :: t, lo, hi, r => match zsweak σ t (lo - Int.ofNat g.1) (hi - Int.ofNat g.1) r with
    | none => none
    | some t' => bif zle 0 hi && zle lo (Int.ofNat g.1 - 1) then (match zelr σ g.2 with
      | none => none
      | some q => some ((g.1, .inr (zjn q r)) :: t')) else some (g :: t')
theorem zsweak_eq : @zsweak = @xsweak := by
  delta zsweak xsweak
  delta zsweak._f xsweak._f
  simp only [zle_eq, zelr_eq, zjn_eq] <;> rfl
noncomputable def zsjoin (σ : List xB) : List xG → Int → Int → Option (Option xB)
  | [], _, _ => some none
  | g :: t, lo, hi => match zsjoin σ t (lo - Int.ofNat g.1) (hi - Int.ofNat g.1) with
    | none => none
    | some acc => bif zle 0 hi && zle lo (Int.ofNat g.1 - 1) then (match zelr σ g.2 with
      | none => none
      | some q => some (some (match acc with
        | none => q
        | some r => zjn q r))) else some acc
theorem zsjoin_eq : @zsjoin = @xsjoin := by
  delta zsjoin xsjoin
  delta zsjoin._f xsjoin._f
  simp only [zle_eq, zelr_eq, zjn_eq] <;> rfl
noncomputable def zLd (σ : List xB) (gs : List xG) (n : Nat) (i : xI) : xR := match zrg σ i with
  | none => none
  | some r => bif zle 0 r.1 && zle r.2 (Int.ofNat n - 1) then (bif zeq r.1 r.2 then (match zseg gs r.1.toNat with
      | some (.inl a) => some (a, σ)
      | some (.inr q) => some (zmk σ q.1 q.2)
      | none => none) else (match zsjoin σ gs r.1 r.2 with
      | some (some q) => some (zmk σ q.1 q.2)
      | _ => none)) else none
theorem zLd_eq : @zLd = @xLd := by
  delta zLd xLd
  simp only [zle_eq, zeq_eq, zrg_eq, zmk_eq, zseg_eq, zsjoin_eq] <;> rfl
noncomputable def zSta (σ : List xB) (gs : List xG) (n : Nat) (i v : xI) : Option (List xG) := match zrg σ i with
  | none => none
  | some r => bif zle 0 r.1 && zle r.2 (Int.ofNat n - 1) then (bif zeq r.1 r.2 then some (zsset gs r.1.toNat (.inl v)) else (match zrg σ v with
      | some q => zsweak σ gs r.1 r.2 q
      | none => none)) else none
theorem zSta_eq : @zSta = @xSta := by
  delta zSta xSta
  simp only [zle_eq, zeq_eq, zrg_eq, zsset_eq, zsweak_eq] <;> rfl
noncomputable def zGetf (h : List xC) (a b : Nat) (v : xV) : Option xV := match v with
  | .inr (.inr (.inl (some j))) => (match (znth h (j)) with
    | some (.inl o) => bif Nat.beq o.1 a then (znth o.2 (b)) else none
    | _ => none)
  | _ => none
theorem zGetf_eq : @zGetf = @xGetf := by
  delta zGetf xGetf
  simp only [znth_eq] <;> rfl
noncomputable def zPutf (h : List xC) (a b : Nat) (v u : xV) : Option (List xC) := match u with
  | .inr (.inr (.inl (some j))) => (match (znth h (j)) with
    | some (.inl o) => bif Nat.beq o.1 a && (Nat.blt b (zlen o.2) && xfitV (xct a b) v) then some ((zset h j (.inl (o.1, (zset o.2 b v))))) else none
    | _ => none)
  | _ => none
theorem zPutf_eq : @zPutf = @xPutf := by
  delta zPutf xPutf
  simp only [znth_eq, zlen_eq, zset_eq] <;> rfl
noncomputable def zAld (t : Nat) (σ : List xB) (h : List xC) (i : xI) (u : xV) : Option (xV × List xB) := match u with
  | .inr (.inr (.inl (some j))) => (match (znth h (j)) with
    | some (.inr (.inl a)) => bif (match t with
        | 0 => Nat.beq a.1 0
        | 1 => Nat.blt 0 a.1
        | _ => false) then (match zLd σ a.2.2 a.2.1 i with
      | some r => some (.inl r.1, r.2)
      | none => none) else none
    | some (.inr (.inr (.inl a))) => bif Nat.beq t 2 then (match zLd σ a.2 a.1 i with
      | some r => some (.inr (.inl r.1), r.2)
      | none => none) else none
    | _ => none)
  | _ => none
theorem zAld_eq : @zAld = @xAld := by
  delta zAld xAld
  simp only [znth_eq, zLd_eq] <;> rfl
noncomputable def zAst (t : Nat) (σ : List xB) (h : List xC) (v : xV) (i : xI) (u : xV) : Option (List xC) := match u with
  | .inr (.inr (.inl (some j))) => (match (znth h (j)), v with
    | some (.inr (.inl a)), .inl b => bif (match t with
        | 0 => Nat.beq a.1 0
        | 1 => (match zrg σ b with
          | some r => (match a.1 with
            | 0 => false
            | 1 => zle (-128) r.1 && zle r.2 127
            | _ => zle 0 r.1 && zle r.2 1)
          | none => false)
        | _ => false) then (match zSta σ a.2.2 a.2.1 i b with
      | some gs => some ((zset h j (.inr (.inl (a.1, a.2.1, gs)))))
      | none => none) else none
    | some (.inr (.inr (.inl a))), .inr (.inl b) => bif Nat.beq t 2 then (match zSta σ a.2 a.1 i b with
      | some gs => some ((zset h j (.inr (.inr (.inl (a.1, gs))))))
      | none => none) else none
    | _, _ => none)
  | _ => none
theorem zAst_eq : @zAst = @xAst := by
  delta zAst xAst
  simp only [znth_eq, zset_eq, zle_eq, zrg_eq, zSta_eq] <;> rfl
noncomputable def zLen (h : List xC) (u : xV) : Option xV := match u with
  | .inr (.inr (.inl (some j))) => (match (znth h (j)) with
    | some (.inr (.inl a)) => bif Nat.blt a.2.1 1000000 then some (.inl (none, Int.ofNat a.2.1)) else none
    | some (.inr (.inr (.inl a))) => bif Nat.blt a.1 1000000 then some (.inl (none, Int.ofNat a.1)) else none
    | _ => none)
  | _ => none
theorem zLen_eq : @zLen = @xLen := by
  delta zLen xLen
  simp only [znth_eq] <;> rfl
noncomputable def zCasesGo (σ : List xB) (i : xI) (r : xB) : Int → List (Option Nat) → List (List xB × Option Nat)
  | _, [] => []
  | j, o :: t => bif zle r.1 j && zle j r.2 then (zput σ i j j, o) :: zCasesGo σ i r (j + 1) t else zCasesGo σ i r (j + 1) t
theorem zCasesGo_eq : @zCasesGo = @xCasesGo := by
  delta zCasesGo xCasesGo
  delta zCasesGo._f xCasesGo._f
  simp only [zle_eq, zput_eq] <;> rfl
noncomputable def zAald (σ : List xB) (h : List xC) (i : xI) (u : xV) : Option (List (List xB × Option Nat)) := match u with
  | .inr (.inr (.inl (some j))) => (match (znth h (j)) with
    | some (.inr (.inr (.inr a))) => (match zrg σ i with
      | some r => bif zle 0 r.1 && zle r.2 (Int.ofNat (zlen a.2) - 1) then some (zCasesGo σ i r 0 a.2) else none
      | none => none)
    | _ => none)
  | _ => none
theorem zAald_eq : @zAald = @xAald := by
  delta zAald xAald
  simp only [znth_eq, zlen_eq, zle_eq, zrg_eq, zCasesGo_eq] <;> rfl
noncomputable def zAast (σ : List xB) (h : List xC) (v : xV) (i : xI) (u : xV) : Option (List xC) := match u, v with
  | .inr (.inr (.inl (some j))), .inr (.inr (.inl (some jv))) => (match (znth h (j)), (znth h (jv)) with
    | some (.inr (.inr (.inr a))), some (.inl o) => (match zrg σ i with
      | some r => bif (Nat.beq o.1 a.1 && Nat.blt o.1 11) && (zeq r.1 r.2 && (zle 0 r.1 && zle r.2 (Int.ofNat (zlen a.2) - 1))) then some ((zset h j (.inr (.inr (.inr (a.1, (zset a.2 r.1.toNat (some jv)))))))) else none
      | none => none)
    | _, _ => none)
  | _, _ => none
theorem zAast_eq : @zAast = @xAast := by
  delta zAast xAast
  simp only [znth_eq, zlen_eq, zset_eq, zle_eq, zeq_eq, zrg_eq] <;> rfl
noncomputable def zSld (scr : List xI) (σ : List xB) (i : xI) (u : xV) : Option xI := match u with
  | .inr (.inr (.inr 0)) => (match scr with
    | _ :: is => (match zrg σ i with
      | some r => bif zeq r.1 r.2 && zle 0 r.1 then (znth is (r.1.toNat)) else none
      | none => none)
    | [] => none)
  | _ => none
theorem zSld_eq : @zSld = @xSld := by
  delta zSld xSld
  simp only [znth_eq, zle_eq, zeq_eq, zrg_eq] <;> rfl
noncomputable def zSln (scr : List xI) (u : xV) : Option xV := match u with
  | .inr (.inr (.inr 0)) => (match scr with
    | _ :: is => bif Nat.blt (zlen is) 1000000 then some (.inl (none, Int.ofNat (zlen is))) else none
    | [] => none)
  | _ => none
theorem zSln_eq : @zSln = @xSln := by
  delta zSln xSln
  simp only [zlen_eq] <;> rfl
noncomputable def zMin (σ : List xB) (a b : xI) : xR := match zrg σ a with
  | none => none
  | some ra => match zrg σ b with
    | none => none
    | some rb => bif zle ra.2 rb.1 then some (a, σ) else (bif zle rb.2 ra.1 then some (b, σ) else some (zmk σ (zmin ra.1 rb.1) (zmin ra.2 rb.2)))
theorem zMin_eq : @zMin = @xMin := by
  delta zMin xMin
  simp only [zle_eq, zmin_eq, zrg_eq, zmk_eq] <;> rfl
noncomputable def zMax (σ : List xB) (a b : xI) : xR := match zrg σ a with
  | none => none
  | some ra => match zrg σ b with
    | none => none
    | some rb => bif zle rb.2 ra.1 then some (a, σ) else (bif zle ra.2 rb.1 then some (b, σ) else some (zmk σ (zmax ra.1 rb.1) (zmax ra.2 rb.2)))
theorem zMax_eq : @zMax = @xMax := by
  delta zMax xMax
  simp only [zle_eq, zmax_eq, zrg_eq, zmk_eq] <;> rfl
noncomputable def zCpy (σ : List xB) (h : List xC) (n dp : xI) (v : xV) (sp : xI) (u : xV) : Option (List xC) := match u, v with
  | .inr (.inr (.inl (some js))), .inr (.inr (.inl (some jd))) => (match (znth h (js)), (znth h (jd)) with
    | some (.inr (.inl a)), some (.inr (.inl b)) => (match zrg σ n, zrg σ dp, zrg σ sp with
      | some rn, some rd, some rs => bif (Nat.beq a.1 0 && Nat.beq b.1 0) && ((Nat.beq a.2.1 b.2.1 && zeq rn.1 (Int.ofNat a.2.1)) && ((zeq rn.1 rn.2 && zeq rd.1 rd.2) && ((zeq rs.1 rs.2 && zeq rd.1 0) && zeq rs.1 0))) then some ((zset h jd (.inr (.inl (b.1, b.2.1, a.2.2))))) else none
      | _, _, _ => none)
    | _, _ => none)
  | _, _ => none
theorem zCpy_eq : @zCpy = @xCpy := by
  delta zCpy xCpy
  simp only [znth_eq, zset_eq, zeq_eq, zrg_eq] <;> rfl
noncomputable def zlM (k : Int) : Nat → List (Nat × Int) → List (Nat × Int) → List (Nat × Int)
  | 0, a, b => a ++ xlK k b
  | _ + 1, [], b => xlK k b
  | _ + 1, q :: a, [] => q :: a
  | f + 1, q :: a, r :: b => bif Nat.beq q.1 r.1 then (bif zeq (q.2 + k * r.2) 0 then zlM k f a b else (q.1, q.2 + k * r.2) :: zlM k f a b) else (bif Nat.blt r.1 q.1 then q :: zlM k f a (r :: b) else (r.1, k * r.2) :: zlM k f (q :: a) b)
theorem zlM_eq : @zlM = @xlM := by
  delta zlM xlM
  delta zlM._f xlM._f
  simp only [zeq_eq] <;> rfl
noncomputable def zlA (k : Int) (L M : xLn) : xLn := (zlM k 40 L.1 M.1, L.2 + k * M.2)
theorem zlA_eq : @zlA = @xlA := by
  delta zlA xlA
  simp only [zlM_eq] <;> rfl
noncomputable def zlle (a b : xI) (d : Int) : xLn := let L := zlA (-1) (xln b) (xln a); (L.1, L.2 - d)
theorem zlle_eq : @zlle = @xlle := by
  delta zlle xlle
  simp only [zlA_eq] <;> rfl
noncomputable def zlL (σ : List xB) : List (Nat × Int) → Option Int
  | [] => some 0
  | q :: t => (match (znth σ (q.1)) with
    | none => none
    | some r => (match zlL σ t with
      | none => none
      | some w => some ((bif zle 0 q.2 then q.2 * r.1 else q.2 * r.2) + w)))
theorem zlL_eq : @zlL = @xlL := by
  delta zlL xlL
  delta zlL._f xlL._f
  simp only [znth_eq, zle_eq] <;> rfl
noncomputable def zlU (σ : List xB) : List (Nat × Int) → Option Int
  | [] => some 0
  | q :: t => (match (znth σ (q.1)) with
    | none => none
    | some r => (match zlU σ t with
      | none => none
      | some w => some ((bif zle 0 q.2 then q.2 * r.2 else q.2 * r.1) + w)))
theorem zlU_eq : @zlU = @xlU := by
  delta zlU xlU
  delta zlU._f xlU._f
  simp only [znth_eq, zle_eq] <;> rfl
noncomputable def zlPos (σ : List xB) (g : xLn) : Bool := match zlL σ g.1 with
  | some w => zle 0 (w + g.2)
  | none => false
theorem zlPos_eq : @zlPos = @xlPos := by
  delta zlPos xlPos
  simp only [zle_eq, zlL_eq] <;> rfl
noncomputable def zent (σ : List xB) (F : xF) : Nat → xLn → Bool
  | 0, g => zlPos σ g
  | n + 1, g => zlPos σ g || (match g.1 with
    | [] => false
    | q :: t => (zany (fun f => (zany (fun r => Nat.beq r.1 q.1 && zeq r.2 q.2) f.1) && zent σ F n (zlA (-1) g f)) F) || (match (znth σ (q.1)) with
      | none => false
      | some r => zent σ F n (t, g.2 + (bif zle 0 q.2 then q.2 * r.1 else q.2 * r.2))))
theorem zent_eq : @zent = @xent := by
  delta zent xent
  delta zent._f xent._f
  simp only [znth_eq, zany_eq, zle_eq, zeq_eq, zlA_eq, zlPos_eq] <;> rfl
noncomputable def zmR (φ : xPh) (i j : Nat) : Option xPh := match (znth φ (i)) with
  | some none => some ((zset φ i (some j)))
  | some (some k) => bif Nat.beq k j then some φ else none
  | none => none
theorem zmR_eq : @zmR = @xmR := by
  delta zmR xmR
  simp only [znth_eq, zset_eq] <;> rfl
noncomputable def zmX (κ : xKp) (k : Nat) (a : xV) : Option xKp := bif Nat.blt k 20 then (match a with
    | .inr (.inr (.inr j)) => bif Nat.beq k j then some κ else none
    | _ => none) else (match (znth κ (k - 20)) with
    | some none => bif xisr a then some ((zset κ (k - 20) (some a))) else none
    | some (some b) => bif xsr a b then some κ else none
    | none => none)
theorem zmX_eq : @zmX = @xmX := by
  delta zmX xmX
  simp only [znth_eq, zset_eq] <;> rfl
noncomputable def zTot {α : Type} (θ : List (Option α)) : Option (List α) := List.rec (motive := fun _ => Option (List α)) (some []) (fun o _ ih => Option.rec (motive := fun _ => Option (List α)) none (fun a => Option.rec (motive := fun _ => Option (List α)) none (fun l => some (a :: l)) ih) o) θ
theorem zTot_eq {α : Type} : ∀ (θ : List (Option α)), zTot θ = xTot θ
  | [] => rfl
  | none :: t => rfl
  | some a :: t => by
    show Option.rec (motive := fun _ => Option (List α)) none (fun l => some (a :: l)) (zTot t) = _
    rw [zTot_eq t]
    simp only [xTot]
    cases xTot t <;> rfl
noncomputable def zlS (θ : List xI) : List (Nat × Int) → xLn → Option xLn
  | [], acc => some acc
  | q :: t, acc => (match (znth θ (q.1)) with
    | some b => zlS θ t (zlA q.2 acc (xln b))
    | none => none)
theorem zlS_eq : @zlS = @xlS := by
  delta zlS xlS
  delta zlS._f xlS._f
  simp only [znth_eq, zlA_eq] <;> rfl
noncomputable def zlT (θ : List xI) (g : xLn) : Option xLn := zlS θ g.1 ([], g.2)
theorem zlT_eq : @zlT = @xlT := by
  delta zlT xlT
  simp only [zlS_eq] <;> rfl
noncomputable def zFin (σ : List xB) (F : xF) (θ : List xI) (G : xF) : Bool := (zall (fun q => match zlT θ q with
  | some g => zent σ F 12 g
  | none => false) G)
theorem zFin_eq : @zFin = @xFin := by
  delta zFin xFin
  simp only [zall_eq, zent_eq, zlT_eq] <;> rfl
noncomputable def znd : List Nat → Bool
  | [] => true
  | a :: t => !((zany (Nat.beq a) t)) && znd t
theorem znd_eq : @znd = @xnd := by
  delta znd xnd
  delta znd._f xnd._f
  simp only [zany_eq] <;> rfl
noncomputable def ztL {α β : Type} (f : α → Option β) (l : List α) : Option (List β) := List.rec (motive := fun _ => Option (List β)) (some []) (fun a _ ih => Option.rec (motive := fun _ => Option (List β)) none (fun b => Option.rec (motive := fun _ => Option (List β)) none (fun l => some (b :: l)) ih) (f a)) l
theorem ztL_eq {α β : Type} (f : α → Option β) : ∀ (l : List α), ztL f l = xtL f l
  | [] => rfl
  | a :: t => by
    show Option.rec (motive := fun _ => Option (List β)) none (fun b => Option.rec (motive := fun _ => Option (List β)) none (fun l => some (b :: l)) (ztL f t)) (f a) = _
    rw [ztL_eq f t]
    simp only [xtL]
    cases f a with
    | none => rfl
    | some b => cases xtL f t <;> rfl
noncomputable def ztO (φ : List Nat) : Option Nat → Option (Option Nat)
  | none => some none
  | some i => (match (znth φ (i)) with
    | some j => some (some j)
    | none => none)
theorem ztO_eq : @ztO = @xtO := by
  delta ztO xtO
  simp only [znth_eq] <;> rfl
noncomputable def zltF (σ : List xB) (F : xF) (a b : xI) : xRF := (zltR σ a b).map (fun τ => (τ, zlle a b 1 :: F))
theorem zltF_eq : @zltF = @xltF := by
  delta zltF xltF
  simp only [zltR_eq, zlle_eq] <;> rfl
noncomputable def zleF (σ : List xB) (F : xF) (a b : xI) : xRF := (zleR σ a b).map (fun τ => (τ, zlle a b 0 :: F))
theorem zleF_eq : @zleF = @xleF := by
  delta zleF xleF
  simp only [zleR_eq, zlle_eq] <;> rfl
noncomputable def zeqF (σ : List xB) (F : xF) (a b : xI) : xRF := (zeqR σ a b).map (fun τ => (τ, zlle a b 0 :: zlle b a 0 :: F))
theorem zeqF_eq : @zeqF = @xeqF := by
  delta zeqF xeqF
  simp only [zeqR_eq, zlle_eq] <;> rfl
noncomputable def zneF (σ : List xB) (F : xF) (a b : xI) : xRF := bif zent σ F 2 (zlle a b 0) then zltF σ F a b else (bif zent σ F 2 (zlle b a 0) then zltF σ F b a else (zneR σ a b).map (fun τ => (τ, F)))
theorem zneF_eq : @zneF = @xneF := by
  delta zneF xneF
  simp only [zneR_eq, zlle_eq, zent_eq, zltF_eq] <;> rfl
noncomputable def zIfF (c : Jvm.ClassFile.Cond) (σ : List xB) (F : xF) (a b : xI) : xRF × xRF := match c with
  | .eq => (zeqF σ F a b, zneF σ F a b)
  | .ne => (zneF σ F a b, zeqF σ F a b)
  | .lt => (zltF σ F a b, zleF σ F b a)
  | .ge => (zleF σ F b a, zltF σ F a b)
  | .gt => (zltF σ F b a, zleF σ F a b)
  | .le => (zleF σ F a b, zltF σ F b a)
theorem zIfF_eq : @zIfF = @xIfF := by
  delta zIfF xIfF
  simp only [zltF_eq, zleF_eq, zeqF_eq, zneF_eq] <;> rfl
noncomputable def zCondF (c : Jvm.ClassFile.Cond) (σ : List xB) (F : xF) (a b : xI) (pc : Nat) (off : Int) : Option (List (Nat × (List xB × xF))) := match xtg pc off with
  | none => none
  | some t => some ((zIfF c σ F a b).1.map (fun τ => (t, τ)) ++ (zIfF c σ F a b).2.map (fun τ => (pc + 3, τ)))
theorem zCondF_eq : @zCondF = @xCondF := by
  delta zCondF xCondF
  simp only [zIfF_eq] <;> rfl
noncomputable def zT1 (c0 u : Int) (q : Nat × Int) (σ : List xB) : List xB := match (znth σ (q.1)) with
  | none => σ
  | some r => bif zle 1 q.2 then (let nl := - ((u + c0 - q.2 * r.2) / q.2); bif zle nl r.1 then σ else (zset σ q.1 (nl, r.2))) else (bif zle q.2 (-1) then (let nh := (u + c0 - q.2 * r.1) / (- q.2); bif zle r.2 nh then σ else (zset σ q.1 (r.1, nh))) else σ)
theorem zT1_eq : @zT1 = @xT1 := by
  delta zT1 xT1
  simp only [znth_eq, zset_eq, zle_eq] <;> rfl
noncomputable def zT2 (f : xLn) : List (Nat × Int) → List xB → List xB
  | [], σ => σ
  | q :: t, σ => (match zlU σ f.1 with
    | none => σ
    | some u => zT2 f t (zT1 f.2 u q σ))
theorem zT2_eq : @zT2 = @xT2 := by
  delta zT2 xT2
  delta zT2._f xT2._f
  simp only [zlU_eq, zT1_eq] <;> rfl
noncomputable def zT3s : xF → List xB → List xB
  | [], σ => σ
  | f :: t, σ => zT3s t (zT2 f f.1 σ)
theorem zT3s_eq : @zT3s = @xT3s := by
  delta zT3s xT3s
  delta zT3s._f xT3s._f
  simp only [zT2_eq] <;> rfl
noncomputable def zTight (F : xF) (σ : List xB) : Option (List xB) := let τ := zT3s F (zT3s F σ); bif (zall (fun r => zle r.1 r.2) τ) then some τ else none
theorem zTight_eq : @zTight = @xTight := by
  delta zTight xTight
  simp only [zall_eq, zle_eq, zT3s_eq] <;> rfl
noncomputable def zRw8 {α : Type} (f : Nat) (l : List α) : List (List α) := Nat.rec (motive := fun _ => List α → List (List α)) (fun _ => []) (fun _ ih l => ztk l 8 :: ih (zdr l 8)) f l
theorem zRw8_eq {α : Type} : ∀ (f : Nat) (l : List α), zRw8 f l = xRw8 f l
  | 0, _ => rfl
  | f + 1, l => by
    show ztk l 8 :: zRw8 f (zdr l 8) = _
    rw [zRw8_eq f, ztk_eq, zdr_eq]
    rfl
noncomputable def zLk {α : Type} (cs : List (List α)) (k : Nat) : Option α := Option.rec (motive := fun _ => Option α) none (fun c => znth c (Nat.mod k 8)) (znth cs (Nat.div k 8))
theorem zLk_eq {α : Type} (cs : List (List α)) (k : Nat) : zLk cs k = xLk cs k := by
  simp only [zLk, xLk, znth_eq]
  show Option.rec (motive := fun _ => Option α) none (fun c => c[k % 8]?) (cs[k / 8]?) = _
  cases cs[k / 8]? <;> rfl
noncomputable def zLx {α : Type} (l : List α) : List (List α) := zRw8 (Nat.succ (Nat.div (zlen l) 8)) l
theorem zLx_eq {α : Type} (l : List α) : zLx l = xLx l := by
  simp only [zLx, xLx, zRw8_eq, zlen_eq]
  rfl
noncomputable def zrgC (cs : List (List xB)) (a : xI) : Option xB := Option.rec (motive := fun _ => Option xB) (some (a.2, a.2)) (fun k => Option.rec (motive := fun _ => Option xB) none (fun r => some (zadI r.1 a.2, zadI r.2 a.2)) (zLk cs k)) a.1
theorem zrgC_eq : zrgC = xrgC := by
  funext cs a
  obtain ⟨o, c⟩ := a
  cases o with
  | none => rfl
  | some k =>
    simp only [zrgC, xrgC, zLk_eq, zadI_eq]
    cases xLk cs k <;> rfl
noncomputable def zelrC (cs : List (List xB)) (u : xI ⊕ xB) : Option xB := match u with
  | .inl a => zrgC cs a
  | .inr r => some r
theorem zelrC_eq : @zelrC = @xelrC := by
  delta zelrC xelrC
  simp only [zrgC_eq] <;> rfl
noncomputable def zidL (n k : Nat) (r : List xI) : List xI := Nat.rec (motive := fun _ => Nat → List xI) (fun _ => r) (fun _ ih k => (some k, 0) :: ih (Nat.succ k)) n k
theorem zidL_go : ∀ (n k : Nat) (r : List xI), zidL n k r = xidL n k r
  | 0, _, _ => rfl
  | n + 1, k, r => congrArg (List.cons (some k, 0)) (zidL_go n (k + 1) r)
theorem zidL_eq : zidL = xidL := by
  funext n k r
  exact zidL_go n k r
noncomputable def zmI0 (cs : List (List xB)) (s : xA2) (c : Int) (a : xI) : Option xA2 := Option.rec (motive := fun _ => Option xA2) none (fun r => Bool.rec (motive := fun _ => Option xA2) none (Bool.rec (motive := fun _ => Option xA2) none (some s) (zeq r.2 c)) (zeq r.1 c)) (zrgC cs a)
noncomputable def zmI1 (s : xA2) (k : Nat) (c : Int) (a : xI) : Option xA2 := Option.rec (motive := fun _ => Option xA2) none (fun j => Bool.rec (motive := fun _ => Option xA2) none (Bool.rec (motive := fun _ => Option xA2) none (some s) (zeq a.2 c)) (Nat.beq j k)) a.1
noncomputable def zmI2 (s : xA2) (k : Nat) (p a : xI) : Option xA2 := Bool.rec (motive := fun _ => Option xA2) (Bool.rec (motive := fun _ => Option xA2) none (Option.rec (motive := fun _ => Option xA2) none (fun b => Bool.rec (motive := fun _ => Option xA2) none (Bool.rec (motive := fun _ => Option xA2) none (some s) (zeq a.2 (zadI b.2 p.2))) (xsy a b)) (znth s.2 (Nat.sub (Nat.sub s.1 1) k))) (Nat.blt k s.1)) (some (Nat.succ s.1, (a.1, zsuI a.2 p.2) :: s.2)) (Nat.beq k s.1)
noncomputable def zmIF (cs : List (List xB)) (n0 : Nat) (s : xA2) (p a : xI) : Option xA2 := Option.rec (motive := fun _ => Option xA2) (zmI0 cs s p.2 a) (fun k => Bool.rec (motive := fun _ => Option xA2) (zmI2 s k p a) (zmI1 s k p.2 a) (Nat.blt k n0)) p.1
theorem z_and {α : Type} (x y : Bool) (a b : α) : Bool.rec (motive := fun _ => α) b (Bool.rec (motive := fun _ => α) b a y) x = bif x && y then a else b := by
  cases x <;> cases y <;> rfl
theorem z_andc {α : Type} (x y : Bool) (a b : α) : (bif x && y then a else b) = bif x then (bif y then a else b) else b := by
  cases x <;> rfl
theorem zmIF_eq : zmIF = xmIF := by
  funext cs n0 s p a
  obtain ⟨po, pc⟩ := p
  cases po with
  | none =>
    show zmI0 cs s pc a = _
    simp only [zmI0, xmIF, zrgC_eq, zeq_eq, z_and]
    cases xrgC cs a <;> rfl
  | some k =>
    show Bool.rec (motive := fun _ => Option xA2) (zmI2 s k (some k, pc) a) (zmI1 s k pc a) (Nat.blt k n0) = _
    simp only [xmIF, z_bif, zmI1, zmI2, znth_eq, zeq_eq, zadI_eq, zsuI_eq, z_andc]
    obtain ⟨ao, ac⟩ := a
    cases Nat.blt k n0 with
    | true => cases ao <;> rfl
    | false =>
      simp only [cond_false]
      cases Nat.beq k s.1 with
      | true => rfl
      | false =>
        simp only [cond_false]
        cases Nat.blt k s.1 with
        | false => rfl
        | true =>
          simp only [cond_true]
          show Option.rec (motive := fun _ => Option xA2) none (fun b => bif xsy (ao, ac) b then (bif xeq ac (b.2 + pc) then some s else none) else none) (s.2[s.1 - 1 - k]?) = _
          cases s.2[s.1 - 1 - k]? <;> rfl
noncomputable def zmE0 (cs : List (List xB)) (s : xA2) (r : xB) (u : xI ⊕ xB) : Option xA2 := Option.rec (motive := fun _ => Option xA2) none (fun q => Bool.rec (motive := fun _ => Option xA2) none (Bool.rec (motive := fun _ => Option xA2) none (some s) (zle q.2 r.2)) (zle r.1 q.1)) (zelrC cs u)
noncomputable def zmE1 (s : xA2) (p : xI) (q : xB) : Option xA2 := Option.rec (motive := fun _ => Option xA2) (Bool.rec (motive := fun _ => Option xA2) none (Bool.rec (motive := fun _ => Option xA2) none (some s) (zeq q.2 p.2)) (zeq q.1 p.2)) (fun _ => none) p.1
noncomputable def zmEF (cs : List (List xB)) (n0 : Nat) (s : xA2) (p u : xI ⊕ xB) : Option xA2 := Sum.rec (motive := fun _ => Option xA2) (fun p => Sum.rec (motive := fun _ => Option xA2) (fun a => zmIF cs n0 s p a) (fun q => zmE1 s p q) u) (fun r => zmE0 cs s r u) p
theorem zmEF_eq : zmEF = xmEF := by
  funext cs n0 s p u
  cases p with
  | inl p =>
    cases u with
    | inl a =>
      show zmIF cs n0 s p a = xmIF cs n0 s p a
      rw [zmIF_eq]
    | inr q =>
      show zmE1 s p q = _
      simp only [zmE1, xmEF, zeq_eq, z_and]
      obtain ⟨po, pc⟩ := p
      cases po <;> rfl
  | inr r =>
    show zmE0 cs s r u = _
    simp only [zmE0, xmEF, zelrC_eq, zle_eq, z_and]
    cases xelrC cs u <;> rfl
noncomputable def zmGF (cs : List (List xB)) (n0 : Nat) (f : Nat) (s : xA2) (ps us : List xG) : Option xA2 := Nat.rec (motive := fun _ => xA2 → List xG → List xG → Option xA2) (fun _ _ _ => none) (fun _ ih s ps us => List.rec (motive := fun _ => Option xA2) (List.rec (motive := fun _ => Option xA2) (some s) (fun _ _ _ => none) us) (fun g ps' _ => List.rec (motive := fun _ => Option xA2) none (fun v us' _ => Option.rec (motive := fun _ => Option xA2) none (fun s' => Bool.rec (motive := fun _ => Option xA2) (Bool.rec (motive := fun _ => Option xA2) (ih s' ((Nat.sub g.1 v.1, g.2) :: ps') us') (ih s' ps' ((Nat.sub v.1 g.1, v.2) :: us')) (Nat.blt g.1 v.1)) (ih s' ps' us') (Nat.beq g.1 v.1)) (zmEF cs n0 s g.2 v.2)) us) ps) f s ps us
theorem zmGF_go (cs : List (List xB)) (n0 : Nat) : ∀ (f : Nat) (s : xA2) (ps us : List xG), zmGF cs n0 f s ps us = xmGF cs n0 f s ps us
  | 0, _, _, _ => rfl
  | f + 1, s, [], [] => rfl
  | f + 1, s, [], _ :: _ => rfl
  | f + 1, s, _ :: _, [] => rfl
  | f + 1, s, g :: ps, v :: us => by
    show Option.rec (motive := fun _ => Option xA2) none (fun s' => Bool.rec (motive := fun _ => Option xA2) (Bool.rec (motive := fun _ => Option xA2) (zmGF cs n0 f s' ((g.1 - v.1, g.2) :: ps) us) (zmGF cs n0 f s' ps ((v.1 - g.1, v.2) :: us)) (Nat.blt g.1 v.1)) (zmGF cs n0 f s' ps us) (Nat.beq g.1 v.1)) (zmEF cs n0 s g.2 v.2) = _
    simp only [xmGF, zmGF_go cs n0 f, zmEF_eq, z_bif]
    cases xmEF cs n0 s g.2 v.2 <;> rfl
theorem zmGF_eq : zmGF = xmGF := by
  funext cs n0 f s ps us
  exact zmGF_go cs n0 f s ps us
noncomputable def zmRF (c : Nat) (φ : xPh) (i j : Nat) : Option xPh := Nat.rec (motive := fun _ => Option xPh) (zmR φ i j) (fun c' _ => Bool.rec (motive := fun _ => Option xPh) none (Bool.rec (motive := fun _ => Option xPh) none (some φ) (Nat.ble i c')) (Nat.beq i j)) c
theorem zmRF_eq : zmRF = xmRF := by
  funext c φ i j
  cases c with
  | zero =>
    show zmR φ i j = xmR φ i j
    rw [zmR_eq]
  | succ c' =>
    simp only [zmRF, xmRF, z_and]
noncomputable def zmV0 (cs : List (List xB)) (n0 : Nat) (t : xA3) (p a : xI) : Option xA3 := Option.rec (motive := fun _ => Option xA3) none (fun s => some (s, t.2)) (zmIF cs n0 t.1 p a)
noncomputable def zmV2 (c : Nat) (t : xA3) (p a : Option Nat) : Option xA3 := Option.rec (motive := fun _ => Option xA3) (Option.rec (motive := fun _ => Option xA3) (some t) (fun _ => none) a) (fun i => Option.rec (motive := fun _ => Option xA3) none (fun j => Option.rec (motive := fun _ => Option xA3) none (fun φ => some (t.1, φ, t.2.2)) (zmRF c t.2.1 i j)) a) p
noncomputable def zmV3 (t : xA3) (k : Nat) (a : xV) : Option xA3 := Option.rec (motive := fun _ => Option xA3) none (fun κ => some (t.1, t.2.1, κ)) (zmX t.2.2 k a)
noncomputable def zmVF (cs : List (List xB)) (n0 c : Nat) (t : xA3) (p a : xV) : Option xA3 := Sum.rec (motive := fun _ => Option xA3) (fun p => Sum.rec (motive := fun _ => Option xA3) (fun a => zmV0 cs n0 t p a) (fun _ => none) a) (fun p => Sum.rec (motive := fun _ => Option xA3) (fun p => Sum.rec (motive := fun _ => Option xA3) (fun _ => none) (fun a => Sum.rec (motive := fun _ => Option xA3) (fun a => zmV0 cs n0 t p a) (fun _ => none) a) a) (fun p => Sum.rec (motive := fun _ => Option xA3) (fun p => Sum.rec (motive := fun _ => Option xA3) (fun _ => none) (fun a => Sum.rec (motive := fun _ => Option xA3) (fun _ => none) (fun a => Sum.rec (motive := fun _ => Option xA3) (fun a => zmV2 c t p a) (fun _ => none) a) a) a) (fun k => zmV3 t k a) p) p) p
theorem zmV0_ok {cs : List (List xB)} {n0 : Nat} {t : xA3} {p a : xI} : zmV0 cs n0 t p a = (match xmIF cs n0 t.1 p a with
    | some s => some (s, t.2)
    | none => none) := by
  unfold zmV0
  rw [zmIF_eq]
  cases xmIF cs n0 t.1 p a <;> rfl
theorem zmV3_ok {t : xA3} {k : Nat} {a : xV} : zmV3 t k a = (match xmX t.2.2 k a with
    | some κ => some (t.1, t.2.1, κ)
    | none => none) := by
  unfold zmV3
  rw [zmX_eq]
  cases xmX t.2.2 k a <;> rfl
theorem zmVF_eq : zmVF = xmVF := by
  funext cs n0 c t p a
  rcases p with p | p | (_ | i) | k
  · rcases a with a | a
    · exact zmV0_ok.trans (by simp only [xmVF] <;> rfl)
    · rfl
  · rcases a with a | a | a
    · rfl
    · exact zmV0_ok.trans (by simp only [xmVF] <;> rfl)
    · rfl
  · rcases a with a | a | (_ | j) | a <;> rfl
  · rcases a with a | a | (_ | j) | a
    · rfl
    · rfl
    · rfl
    · show Option.rec (motive := fun _ => Option xA3) none (fun φ => some (t.1, φ, t.2.2)) (zmRF c t.2.1 i j) = _
      simp only [xmVF, zmRF_eq]
      cases xmRF c t.2.1 i j <;> rfl
    · rfl
  · refine Eq.trans (show _ = zmV3 t k a from rfl) (zmV3_ok.trans ?_)
    rcases a with a | a | (_ | j) | a <;> simp only [xmVF] <;> rfl
noncomputable def zmVsF (cs : List (List xB)) (n0 c : Nat) (t : xA3) (ps as : List xV) : Option xA3 := List.rec (motive := fun _ => List xV → xA3 → Option xA3) (fun as t => List.rec (motive := fun _ => Option xA3) (some t) (fun _ _ _ => none) as) (fun p _ ih as t => List.rec (motive := fun _ => Option xA3) none (fun a as' _ => Option.rec (motive := fun _ => Option xA3) none (fun t' => ih as' t') (zmVF cs n0 c t p a)) as) ps as t
theorem zmVsF_go (cs : List (List xB)) (n0 c : Nat) : ∀ (t : xA3) (ps as : List xV), zmVsF cs n0 c t ps as = xmVsF cs n0 c t ps as
  | t, [], [] => rfl
  | t, [], _ :: _ => rfl
  | t, _ :: _, [] => rfl
  | t, p :: ps, a :: as => by
    show Option.rec (motive := fun _ => Option xA3) none (fun t' => zmVsF cs n0 c t' ps as) (zmVF cs n0 c t p a) = _
    simp only [xmVsF, zmVF_eq]
    cases xmVF cs n0 c t p a with
    | none => rfl
    | some t' => exact zmVsF_go cs n0 c t' ps as
theorem zmVsF_eq : zmVsF = xmVsF := by
  funext cs n0 c t ps as
  exact zmVsF_go cs n0 c t ps as
noncomputable def zmOsF (c : Nat) (φ : xPh) (ps us : List (Option Nat)) : Option xPh := List.rec (motive := fun _ => List (Option Nat) → xPh → Option xPh) (fun us φ => List.rec (motive := fun _ => Option xPh) (some φ) (fun _ _ _ => none) us) (fun p _ ih us φ => List.rec (motive := fun _ => Option xPh) none (fun u us' _ => Option.rec (motive := fun _ => Option xPh) (Option.rec (motive := fun _ => Option xPh) (ih us' φ) (fun _ => none) u) (fun i => Option.rec (motive := fun _ => Option xPh) none (fun j => Option.rec (motive := fun _ => Option xPh) none (fun φ' => ih us' φ') (zmRF c φ i j)) u) p) us) ps us φ
theorem zmOsF_go (c : Nat) : ∀ (φ : xPh) (ps us : List (Option Nat)), zmOsF c φ ps us = xmOsF c φ ps us
  | φ, [], [] => rfl
  | φ, [], _ :: _ => rfl
  | φ, none :: _, [] => rfl
  | φ, some _ :: _, [] => rfl
  | φ, none :: ps, none :: us => by
    show zmOsF c φ ps us = _
    rw [zmOsF_go c φ ps us]
    simp only [xmOsF]
  | φ, none :: ps, some j :: us => rfl
  | φ, some i :: ps, none :: us => rfl
  | φ, some i :: ps, some j :: us => by
    show Option.rec (motive := fun _ => Option xPh) none (fun φ' => zmOsF c φ' ps us) (zmRF c φ i j) = _
    simp only [xmOsF, zmRF_eq]
    cases xmRF c φ i j with
    | none => rfl
    | some φ' => exact zmOsF_go c φ' ps us
theorem zmOsF_eq : zmOsF = xmOsF := by
  funext c φ ps us
  exact zmOsF_go c φ ps us
noncomputable def zmC0 (cs : List (List xB)) (n0 c : Nat) (t : xA3) (o o' : Nat × List xV) : Option xA3 := Bool.rec (motive := fun _ => Option xA3) none (zmVsF cs n0 c t o.2 o'.2) (Nat.beq o.1 o'.1)
noncomputable def zmC1 (cs : List (List xB)) (n0 : Nat) (t : xA3) (a b : Nat × (Nat × List xG)) : Option xA3 := Bool.rec (motive := fun _ => Option xA3) none (Bool.rec (motive := fun _ => Option xA3) none (Option.rec (motive := fun _ => Option xA3) none (fun s => some (s, t.2)) (zmGF cs n0 600 t.1 a.2.2 b.2.2)) (Nat.beq a.2.1 b.2.1)) (Nat.beq a.1 b.1)
noncomputable def zmC2 (cs : List (List xB)) (n0 : Nat) (t : xA3) (a b : Nat × List xG) : Option xA3 := Bool.rec (motive := fun _ => Option xA3) none (Option.rec (motive := fun _ => Option xA3) none (fun s => some (s, t.2)) (zmGF cs n0 600 t.1 a.2 b.2)) (Nat.beq a.1 b.1)
noncomputable def zmC3 (c : Nat) (t : xA3) (a b : Nat × List (Option Nat)) : Option xA3 := Bool.rec (motive := fun _ => Option xA3) none (Option.rec (motive := fun _ => Option xA3) none (fun φ => some (t.1, φ, t.2.2)) (zmOsF c t.2.1 a.2 b.2)) (Nat.beq a.1 b.1)
noncomputable def zmCF (cs : List (List xB)) (n0 c : Nat) (t : xA3) (p x : xC) : Option xA3 := Sum.rec (motive := fun _ => Option xA3) (fun o => Sum.rec (motive := fun _ => Option xA3) (fun o' => zmC0 cs n0 c t o o') (fun _ => none) x) (fun p => Sum.rec (motive := fun _ => Option xA3) (fun a => Sum.rec (motive := fun _ => Option xA3) (fun _ => none) (fun x => Sum.rec (motive := fun _ => Option xA3) (fun b => zmC1 cs n0 t a b) (fun _ => none) x) x) (fun p => Sum.rec (motive := fun _ => Option xA3) (fun a => Sum.rec (motive := fun _ => Option xA3) (fun _ => none) (fun x => Sum.rec (motive := fun _ => Option xA3) (fun _ => none) (fun x => Sum.rec (motive := fun _ => Option xA3) (fun b => zmC2 cs n0 t a b) (fun _ => none) x) x) x) (fun a => Sum.rec (motive := fun _ => Option xA3) (fun _ => none) (fun x => Sum.rec (motive := fun _ => Option xA3) (fun _ => none) (fun x => Sum.rec (motive := fun _ => Option xA3) (fun _ => none) (fun b => zmC3 c t a b) x) x) x) p) p) p
theorem zmCF_eq : zmCF = xmCF := by
  funext cs n0 c t p x
  rcases p with a | a | a | a
  · rcases x with b | b | b | b
    · show zmC0 cs n0 c t a b = _
      simp only [zmC0, xmCF, zmVsF_eq, z_bif]
    · rfl
    · rfl
    · rfl
  · rcases x with b | b | b | b
    · rfl
    · show zmC1 cs n0 t a b = _
      simp only [zmC1, xmCF, zmGF_eq, z_and]
      cases xmGF cs n0 600 t.1 a.2.2 b.2.2 <;> rfl
    · rfl
    · rfl
  · rcases x with b | b | b | b
    · rfl
    · rfl
    · show zmC2 cs n0 t a b = _
      simp only [zmC2, xmCF, zmGF_eq, z_bif]
      cases xmGF cs n0 600 t.1 a.2 b.2 <;> rfl
    · rfl
  · rcases x with b | b | b | b
    · rfl
    · rfl
    · rfl
    · show zmC3 c t a b = _
      simp only [zmC3, xmCF, zmOsF_eq, z_bif]
      cases xmOsF c t.2.1 a.2 b.2 <;> rfl
noncomputable def zmHF (cs : List (List xB)) (n0 : Nat) (hs : List (List xC)) (i : Nat) (ps : List xC) (t : xA3) : Option xA3 := List.rec (motive := fun _ => Nat → xA3 → Option xA3) (fun _ t => some t) (fun p _ ih i t => Option.rec (motive := fun _ => Option xA3) none (fun o => Option.rec (motive := fun _ => Option xA3) none (fun j => Option.rec (motive := fun _ => Option xA3) none (fun x => Option.rec (motive := fun _ => Option xA3) none (fun t' => ih (Nat.succ i) t') (zmCF cs n0 0 t p x)) (zLk hs j)) o) (znth t.2.1 i)) ps i t
theorem zmHF_go (cs : List (List xB)) (n0 : Nat) (hs : List (List xC)) : ∀ (i : Nat) (ps : List xC) (t : xA3), zmHF cs n0 hs i ps t = xmHF cs n0 hs i ps t
  | _, [], _ => rfl
  | i, p :: ps, t => by
    show Option.rec (motive := fun _ => Option xA3) none (fun o => Option.rec (motive := fun _ => Option xA3) none (fun j => Option.rec (motive := fun _ => Option xA3) none (fun x => Option.rec (motive := fun _ => Option xA3) none (fun t' => zmHF cs n0 hs (i + 1) ps t') (zmCF cs n0 0 t p x)) (zLk hs j)) o) (znth t.2.1 i) = _
    simp only [xmHF, znth_eq, zLk_eq, zmCF_eq, zmHF_go cs n0 hs (i + 1) ps]
    cases t.2.1[i]? with
    | none => rfl
    | some o =>
      cases o with
      | none => rfl
      | some j =>
        dsimp only
        cases xLk hs j with
        | none => rfl
        | some x =>
          dsimp only
          cases xmCF cs n0 0 t p x <;> rfl
theorem zmHF_eq : zmHF = xmHF := by
  funext cs n0 hs i ps t
  exact zmHF_go cs n0 hs i ps t
noncomputable def zmHI (cs : List (List xB)) (n0 c : Nat) (ps xs : List xC) (t : xA3) : Option xA3 := List.rec (motive := fun _ => List xC → xA3 → Option xA3) (fun _ t => some t) (fun p _ ih xs t => List.rec (motive := fun _ => Option xA3) none (fun x xs' _ => Option.rec (motive := fun _ => Option xA3) none (fun t' => ih xs' t') (zmCF cs n0 c t p x)) xs) ps xs t
theorem zmHI_go (cs : List (List xB)) (n0 c : Nat) : ∀ (ps xs : List xC) (t : xA3), zmHI cs n0 c ps xs t = xmHI cs n0 c ps xs t
  | [], _, _ => by
    simp only [xmHI]
    rfl
  | _ :: _, [], _ => rfl
  | p :: ps, x :: xs, t => by
    show Option.rec (motive := fun _ => Option xA3) none (fun t' => zmHI cs n0 c ps xs t') (zmCF cs n0 c t p x) = _
    simp only [xmHI, zmCF_eq]
    cases xmCF cs n0 c t p x with
    | none => rfl
    | some t' => exact zmHI_go cs n0 c ps xs t'
theorem zmHI_eq : zmHI = xmHI := by
  funext cs n0 c ps xs t
  exact zmHI_go cs n0 c ps xs t
noncomputable def zInC (cs : List (List xB)) (as : List xI) (rs : List xB) : Bool := List.rec (motive := fun _ => List xB → Bool) (fun rs => List.rec (motive := fun _ => Bool) true (fun _ _ _ => false) rs) (fun a _ ih rs => List.rec (motive := fun _ => Bool) false (fun r rs' _ => Option.rec (motive := fun _ => Bool) false (fun q => Bool.rec (motive := fun _ => Bool) false (Bool.rec (motive := fun _ => Bool) false (ih rs') (zle q.2 r.2)) (zle r.1 q.1)) (zrgC cs a)) rs) as rs
theorem zInC_go (cs : List (List xB)) : ∀ (as : List xI) (rs : List xB), zInC cs as rs = xInC cs as rs
  | [], [] => rfl
  | [], _ :: _ => rfl
  | _ :: _, [] => rfl
  | a :: as, r :: rs => by
    show Option.rec (motive := fun _ => Bool) false (fun q => Bool.rec (motive := fun _ => Bool) false (Bool.rec (motive := fun _ => Bool) false (zInC cs as rs) (zle q.2 r.2)) (zle r.1 q.1)) (zrgC cs a) = _
    simp only [xInC, zrgC_eq, zle_eq, zInC_go cs as rs]
    cases xrgC cs a with
    | none => rfl
    | some q =>
      dsimp only
      cases xle r.1 q.1 <;> cases xle q.2 r.2 <;> rfl
theorem zInC_eq : zInC = xInC := by
  funext cs as rs
  exact zInC_go cs as rs
noncomputable def zIn0 (n : Nat) (s τ : List xB) : Option (List xB) := Nat.rec (motive := fun _ => List xB → List xB → Option (List xB)) (fun _ τ => some τ) (fun _ ih s τ => List.rec (motive := fun _ => Option (List xB)) none (fun q s' _ => List.rec (motive := fun _ => Option (List xB)) none (fun r t _ => Bool.rec (motive := fun _ => Option (List xB)) none (Bool.rec (motive := fun _ => Option (List xB)) none (ih s' t) (zle q.2 r.2)) (zle r.1 q.1)) τ) s) n s τ
theorem zIn0_go : ∀ (n : Nat) (s τ : List xB), zIn0 n s τ = xIn0 n s τ
  | 0, _, _ => by
    simp only [xIn0]
    rfl
  | n + 1, [], _ => by
    simp only [xIn0]
    rfl
  | n + 1, q :: s, [] => rfl
  | n + 1, q :: s, r :: t => by
    show Bool.rec (motive := fun _ => Option (List xB)) none (Bool.rec (motive := fun _ => Option (List xB)) none (zIn0 n s t) (zle q.2 r.2)) (zle r.1 q.1) = _
    simp only [xIn0, zle_eq, z_and, zIn0_go n s t]
theorem zIn0_eq : zIn0 = xIn0 := by
  funext n s τ
  exact zIn0_go n s τ
noncomputable def zPFF (nx n0 c : Nat) (h : List xC) (σ : List xB) (F : xF) (vs : List xV) (φ0 : xPh) (κ0 : xKp) (P : xPt) : Option (List xI × (List Nat × List xV)) := match zmVsF (zLx σ) n0 c ((n0, []), φ0, κ0) P.2.2.2.1 vs with
  | none => none
  | some t1 => (match (bif Nat.beq c 0 then zmHF (zLx σ) n0 (zLx h) 0 P.1 t1 else bif Nat.beq (zlen P.1) c then zmHI (zLx σ) n0 c P.1 h t1 else none) with
    | none => none
    | some t2 => bif Nat.beq t2.1.1 (zlen P.2.1) then (match zTot t2.2.1 with
      | none => none
      | some φ => (match zTot t2.2.2 with
        | none => none
        | some κ => bif Nat.beq (zlen φ) (zlen P.1) && ((bif Nat.beq c 0 then znd φ else true) && ((zall (xKin (zlen h) nx) κ) && ((match zIn0 n0 σ P.2.1 with
            | some τ => zInC (zLx σ) (zrev t2.1.2) τ
            | none => false) && zFin σ F (zidL n0 0 (zrev t2.1.2)) P.2.2.1))) then some (zidL n0 0 (zrev t2.1.2), φ, κ) else none)) else none)
theorem zPFF_eq : @zPFF = @xPFF := by
  delta zPFF xPFF
  simp only [zrev_eq, zlen_eq, zall_eq, zTot_eq, zFin_eq, znd_eq, zLx_eq, zidL_eq, zmVsF_eq, zmHF_eq, zmHI_eq, zInC_eq, zIn0_eq] <;> rfl
noncomputable def zPFL (h : List xC) (σ : List xB) (F : xF) (vs : List xV) (P : xPt) : Option (List xI × (List Nat × List xV)) := match zPFF 20 0 (zlen P.1) h σ F vs (xidN (zlen P.1) 0) [] P with
  | some r => some r
  | none => zPFF 20 0 0 h σ F vs (List.replicate (zlen P.1) none) [] P
theorem zPFL_eq : @zPFL = @xPFL := by
  delta zPFL xPFL
  simp only [zlen_eq, zPFF_eq] <;> rfl
noncomputable def zsub1C (ct : List (List xI)) (a : xI) : Option xI := match a.1 with
  | none => some a
  | some k => (match zLk ct k with
    | some b => some (b.1, b.2 + a.2)
    | none => none)
theorem zsub1C_eq : @zsub1C = @xsub1C := by
  delta zsub1C xsub1C
  simp only [zLk_eq] <;> rfl
noncomputable def ztEC (ct : List (List xI)) : (xI ⊕ xB) → Option (xI ⊕ xB)
  | .inl a => (match zsub1C ct a with
    | some b => some (.inl b)
    | none => none)
  | .inr r => some (.inr r)
theorem ztEC_eq : @ztEC = @xtEC := by
  delta ztEC xtEC
  simp only [zsub1C_eq] <;> rfl
noncomputable def ztVC (ct : List (List xI)) (φ : List Nat) (κ : List xV) : xV → Option xV
  | .inl a => (match zsub1C ct a with
    | some b => some (.inl b)
    | none => none)
  | .inr (.inl a) => (match zsub1C ct a with
    | some b => some (.inr (.inl b))
    | none => none)
  | .inr (.inr (.inl none)) => some (.inr (.inr (.inl none)))
  | .inr (.inr (.inl (some i))) => (match (znth φ (i)) with
    | some j => some (.inr (.inr (.inl (some j))))
    | none => none)
  | .inr (.inr (.inr k)) => bif Nat.blt k 20 then some (.inr (.inr (.inr k))) else (znth κ (k - 20))
theorem ztVC_eq : @ztVC = @xtVC := by
  delta ztVC xtVC
  simp only [znth_eq, zsub1C_eq] <;> rfl
noncomputable def ztGC (ct : List (List xI)) (g : xG) : Option xG := match ztEC ct g.2 with
  | some u => some (g.1, u)
  | none => none
theorem ztGC_eq : @ztGC = @xtGC := by
  delta ztGC xtGC
  simp only [ztEC_eq] <;> rfl
noncomputable def ztCC (ct : List (List xI)) (φ : List Nat) (κ : List xV) : xC → Option xC
  | .inl o => (match ztL (ztVC ct φ κ) o.2 with
    | some vs => some (.inl (o.1, vs))
    | none => none)
  | .inr (.inl a) => (match ztL (ztGC ct) a.2.2 with
    | some gs => some (.inr (.inl (a.1, a.2.1, gs)))
    | none => none)
  | .inr (.inr (.inl a)) => (match ztL (ztGC ct) a.2 with
    | some gs => some (.inr (.inr (.inl (a.1, gs))))
    | none => none)
  | .inr (.inr (.inr a)) => (match ztL (ztO φ) a.2 with
    | some os => some (.inr (.inr (.inr (a.1, os))))
    | none => none)
theorem ztCC_eq : @ztCC = @xtCC := by
  delta ztCC xtCC
  simp only [ztL_eq, ztO_eq, ztVC_eq, ztGC_eq] <;> rfl
noncomputable def zbackC (ct : List (List xI)) (φ : List Nat) (κ : List xV) : List xC → List Nat → List xC → Option (List xC)
  | [], [], h => some h
  | c :: cs, j :: js, h => (match ztCC ct φ κ c with
    | some c' => zbackC ct φ κ cs js ((zset h j c'))
    | none => none)
  | _, _, _ => none
theorem zbackC_eq : @zbackC = @xbackC := by
  delta zbackC xbackC
  delta zbackC._f xbackC._f
  simp only [zset_eq, ztCC_eq] <;> rfl
noncomputable def zEndF (h : List xC) (σ : List xB) (F : xF) (n0 : Nat) (θ : List xI) (φ : List Nat) (κ : List xV) (P : xPt) : Option (List xC × (List xB × (xF × List xV))) :=
  let new := P.2.1.drop n0
  let θ' := zapp θ (xfresh (zlen σ) (zlen new))
  match zbackC (zLx θ') φ κ P.1 φ h with
  | none => none
  | some h' => (match ztL (zlT θ') P.2.2.1 with
    | none => none
    | some G => (match ztL (ztVC (zLx θ') φ κ) P.2.2.2.1 with
      | none => none
      | some vs => some (h', zapp σ new, zapp G F, vs)))
theorem zEndF_eq : @zEndF = @xEndF := by
  delta zEndF xEndF
  simp only [zlen_eq, zapp_eq, zlT_eq, ztL_eq, zLx_eq, ztVC_eq, zbackC_eq] <;> rfl
noncomputable def zUseF (nx : Nat) (h : List xC) (σ : List xB) (F : xF) (d : Nat) (as : List xV) (c : xCt) : Option (List (List xC × (List xB × (xF × List xV)))) :=
  bif Nat.ble c.2.2 d then (match zPFF nx 0 0 h σ F as (List.replicate (zlen c.1.1) none) (List.replicate c.1.2.2.2.2 none) c.1 with
    | none => none
    | some (θ, φ, κ) => ztL (zEndF h σ F (zlen c.1.2.1) θ φ κ) c.2.1) else none
theorem zUseF_eq : @zUseF = @xUseF := by
  delta zUseF xUseF
  simp only [zlen_eq, ztL_eq, zPFF_eq, zEndF_eq] <;> rfl
noncomputable def zConstF (g len a : Nat) (n : Int) : Option xV := match g with
  | 0 => bif Nat.beq len 1 && (zle (-128) n && zle n 127) then some (.inl (none, n)) else none
  | 1 => bif Nat.beq len 2 && (zle (-128) n && zle n 127) then some (.inl (none, n)) else none
  | 2 => bif Nat.beq len 3 && (zle (-32768) n && zle n 32767) then some (.inl (none, n)) else none
  | _ => bif Nat.beq len 1 then some (.inr (.inl (none, Int.ofNat (a % 2)))) else none
theorem zConstF_eq : @zConstF = @xConstF := by
  delta zConstF xConstF
  simp only [zle_eq] <;> rfl
noncomputable def zLoadF (g len a : Nat) (loc : List (Nat × xV)) : Option xV := match g with
  | 4 => bif Nat.beq len 1 then (match zget loc (a % 4) with
    | some (.inl a) => some (.inl a)
    | _ => none) else none
  | 5 => bif Nat.beq len 2 then (match zget loc a with
    | some (.inl a) => some (.inl a)
    | _ => none) else none
  | 6 => bif Nat.beq len 1 then (match zget loc (a % 4) with
    | some (.inr (.inr (.inl (some a)))) => some (.inr (.inr (.inl (some a))))
    | some (.inr (.inr (.inr a))) => some (.inr (.inr (.inr a)))
    | _ => none) else none
  | 7 => bif Nat.beq len 2 then (match zget loc a with
    | some (.inr (.inr (.inl (some a)))) => some (.inr (.inr (.inl (some a))))
    | some (.inr (.inr (.inr a))) => some (.inr (.inr (.inr a)))
    | _ => none) else none
  | 8 => bif Nat.beq len 1 then (match zget loc (a % 4) with
    | some (.inr (.inl a)) => some (.inr (.inl a))
    | _ => none) else none
  | _ => bif Nat.beq len 2 then (match zget loc a with
    | some (.inr (.inl a)) => some (.inr (.inl a))
    | _ => none) else none
theorem zLoadF_eq : @zLoadF = @xLoadF := by
  delta zLoadF xLoadF
  simp only [zget_eq] <;> rfl
noncomputable def zStoF (g len nL a : Nat) (loc : List (Nat × xV)) (v : xV) : Option (List (Nat × xV)) := match g with
  | 10 => bif Nat.beq len 1 && Nat.blt (a % 4) nL then (match v with
    | .inl _ => some (zsto1 loc (a % 4) v)
    | _ => none) else none
  | 11 => bif Nat.beq len 2 && Nat.blt a nL then (match v with
    | .inl _ => some (zsto1 loc a v)
    | _ => none) else none
  | 12 => bif Nat.beq len 1 && Nat.blt (a % 4) nL then (match v with
    | .inr (.inr (.inl (some _))) => some (zsto1 loc (a % 4) v)
    | _ => none) else none
  | 13 => bif Nat.beq len 2 && Nat.blt a nL then (match v with
    | .inr (.inr (.inl (some _))) => some (zsto1 loc a v)
    | _ => none) else none
  | 14 => bif Nat.beq len 1 && Nat.blt (a % 4 + 1) nL then (match v with
    | .inr (.inl _) => some (zsto2 loc (a % 4) v)
    | _ => none) else none
  | _ => bif Nat.beq len 2 && Nat.blt (a + 1) nL then (match v with
    | .inr (.inl _) => some (zsto2 loc a v)
    | _ => none) else none
theorem zStoF_eq : @zStoF = @xStoF := by
  delta zStoF xStoF
  simp only [zsto1_eq, zsto2_eq] <;> rfl
noncomputable def zBinIF (g : Nat) (σ : List xB) (a b : xI) : xR := match g with
  | 17 => zadd (-2147483648) 2147483647 σ a b
  | 18 => zsub (-2147483648) 2147483647 σ a b
  | 19 => zop2 (zmulB (-2147483648) 2147483647) σ a b
  | 20 => zop2 (zandB (-2147483648) 2147483647) σ a b
  | 21 => zop2 (fun _ _ => (-2147483648, 2147483647)) σ a b
  | 22 => zop2 (fun _ _ => (-2147483648, 2147483647)) σ a b
  | 23 => zop2 (fun _ _ => (-2147483648, 2147483647)) σ a b
  | 24 => zop2 (fun r _ => znearB r) σ a b
  | 25 => (match zrg σ b with
    | some rb => bif zle 1 rb.1 then zop2 (fun r _ => znearB r) σ a b else none
    | none => none)
  | _ => (match zrg σ b with
    | some rb => bif zle 1 rb.1 then zop2 zremB σ a b else none
    | none => none)
theorem zBinIF_eq : @zBinIF = @xBinIF := by
  delta zBinIF xBinIF
  simp only [zle_eq, zrg_eq, zmulB_eq, zandB_eq, znearB_eq, zremB_eq, zadd_eq, zsub_eq, zop2_eq] <;> rfl
noncomputable def zBinLF (g : Nat) (σ : List xB) (a b : xI) : xR := match g with
  | 27 => zadd (-9223372036854775808) 9223372036854775807 σ a b
  | 28 => zsub (-9223372036854775808) 9223372036854775807 σ a b
  | 29 => zop2 (zmulB (-9223372036854775808) 9223372036854775807) σ a b
  | 30 => zop2 (zandB (-9223372036854775808) 9223372036854775807) σ a b
  | 31 => zop2 (fun _ _ => (-9223372036854775808, 9223372036854775807)) σ a b
  | 32 => zop2 (fun _ _ => (-9223372036854775808, 9223372036854775807)) σ a b
  | 33 => (match zrg σ b with
    | some rb => bif zle 1 rb.1 then zop2 (fun r _ => znearB r) σ a b else none
    | none => none)
  | _ => (match zrg σ b with
    | some rb => bif zle 1 rb.1 then zop2 zremB σ a b else none
    | none => none)
theorem zBinLF_eq : @zBinLF = @xBinLF := by
  delta zBinLF xBinLF
  simp only [zle_eq, zrg_eq, zmulB_eq, zandB_eq, znearB_eq, zremB_eq, zadd_eq, zsub_eq, zop2_eq] <;> rfl
noncomputable def zShLF (g : Nat) (σ : List xB) (a b : xI) : xR := match g with
  | 35 => zop2 (fun _ _ => (-9223372036854775808, 9223372036854775807)) σ a b
  | _ => zop2 (fun r _ => znearB r) σ a b
theorem zShLF_eq : @zShLF = @xShLF := by
  delta zShLF xShLF
  simp only [znearB_eq, zop2_eq] <;> rfl
noncomputable def zUnIF (g : Nat) (σ : List xB) (a : xI) : Option (xV × List xB) := match g with
  | 37 => some (.inr (.inl a), σ)
  | 38 => (match zcut (-128) 127 σ a with
    | some r => some (.inl r.1, r.2)
    | none => none)
  | _ => (match zcut (-32768) 32767 σ a with
    | some r => some (.inl r.1, r.2)
    | none => none)
theorem zUnIF_eq : @zUnIF = @xUnIF := by
  delta zUnIF xUnIF
  simp only [zcut_eq] <;> rfl
noncomputable def zFA (nL : Nat) (q : xQ) (σ : List xB) (loc : List (Nat × xV)) (stk : List xV) : Option (List xB × (List (Nat × xV) × List xV)) :=
  bif Nat.blt q.2.2.1 4 then (match zConstF q.2.2.1 q.2.1 q.2.2.2.1 q.2.2.2.2.2 with
    | some v => some (σ, loc, v :: stk)
    | none => none) else (bif Nat.blt q.2.2.1 10 then (match zLoadF q.2.2.1 q.2.1 q.2.2.2.1 loc with
    | some v => some (σ, loc, v :: stk)
    | none => none) else (bif Nat.blt q.2.2.1 16 then (match stk with
    | v :: t => (match zStoF q.2.2.1 q.2.1 nL q.2.2.2.1 loc v with
      | some loc' => some (σ, loc', t)
      | none => none)
    | [] => none) else (bif Nat.blt q.2.2.1 17 then (bif Nat.beq q.2.1 3 then (match zIinc q.2.2.2.1 q.2.2.2.2.2 nL σ loc with
    | some r => some (r.1, r.2, stk)
    | none => none) else none) else (bif Nat.blt q.2.2.1 27 then (match stk with
    | .inl b :: .inl a :: t => bif Nat.beq q.2.1 1 then (match zBinIF q.2.2.1 σ a b with
      | some r => some (r.2, loc, .inl r.1 :: t)
      | none => none) else none
    | _ => none) else (bif Nat.blt q.2.2.1 35 then (match stk with
    | .inr (.inl b) :: .inr (.inl a) :: t => bif Nat.beq q.2.1 1 then (match zBinLF q.2.2.1 σ a b with
      | some r => some (r.2, loc, .inr (.inl r.1) :: t)
      | none => none) else none
    | _ => none) else (bif Nat.blt q.2.2.1 37 then (match stk with
    | .inl b :: .inr (.inl a) :: t => bif Nat.beq q.2.1 1 then (match zShLF q.2.2.1 σ a b with
      | some r => some (r.2, loc, .inr (.inl r.1) :: t)
      | none => none) else none
    | _ => none) else (bif Nat.blt q.2.2.1 40 then (match stk with
    | .inl a :: t => bif Nat.beq q.2.1 1 then (match zUnIF q.2.2.1 σ a with
      | some r => some (r.2, loc, r.1 :: t)
      | none => none) else none
    | _ => none) else (bif Nat.blt q.2.2.1 41 then (match stk with
    | .inr (.inl a) :: t => bif Nat.beq q.2.1 1 then (match zcut (-2147483648) 2147483647 σ a with
      | some r => some (r.2, loc, .inl r.1 :: t)
      | none => none) else none
    | _ => none) else (bif Nat.beq q.2.1 1 then (match xStkF q.2.2.1 stk with
    | some t => some (σ, loc, t)
    | none => none) else none)))))))))
theorem zFA_eq : @zFA = @xFA := by
  delta zFA xFA
  simp only [zcut_eq, zIinc_eq, zConstF_eq, zLoadF_eq, zStoF_eq, zBinIF_eq, zBinLF_eq, zShLF_eq, zUnIF_eq] <;> rfl
noncomputable def zFC (scr : List xI) (q : xQ) (h : List xC) (σ : List xB) (stk : List xV) : Option (List (List xC × (List xB × List xV))) := match q.2.2.1 with
  | 50 => (match stk with
    | u :: t => bif Nat.beq q.2.1 3 then (match zGetf h q.2.2.2.1 q.2.2.2.2.1 u with
      | some v => some [(h, σ, v :: t)]
      | none => none) else none
    | [] => none)
  | 51 => (match stk with
    | u :: t => bif Nat.beq q.2.1 3 then (match zGetf h q.2.2.2.1 q.2.2.2.2.1 u with
      | some v => some [(h, σ, v :: t)]
      | none => none) else none
    | [] => none)
  | 52 => (match stk with
    | v :: u :: t => bif Nat.beq q.2.1 3 then (match zPutf h q.2.2.2.1 q.2.2.2.2.1 v u with
      | some h' => some [(h', σ, t)]
      | none => none) else none
    | _ => none)
  | 53 => (match stk with
    | v :: u :: t => bif Nat.beq q.2.1 3 then (match zPutf h q.2.2.2.1 q.2.2.2.2.1 v u with
      | some h' => some [(h', σ, t)]
      | none => none) else none
    | _ => none)
  | 54 => (match stk with
    | v :: u :: t => bif Nat.beq q.2.1 3 then (match zPutf h q.2.2.2.1 q.2.2.2.2.1 v u with
      | some h' => some [(h', σ, t)]
      | none => none) else none
    | _ => none)
  | 55 => (match stk with
    | .inl i :: u :: t => bif Nat.beq q.2.1 1 then (match zAld 0 σ h i u with
      | some r => some [(h, r.2, r.1 :: t)]
      | none => none) else none
    | _ => none)
  | 56 => (match stk with
    | .inl i :: u :: t => bif Nat.beq q.2.1 1 then (match zAld 1 σ h i u with
      | some r => some [(h, r.2, r.1 :: t)]
      | none => none) else none
    | _ => none)
  | 57 => (match stk with
    | .inl i :: u :: t => bif Nat.beq q.2.1 1 then (match zAld 2 σ h i u with
      | some r => some [(h, r.2, r.1 :: t)]
      | none => none) else none
    | _ => none)
  | 58 => (match stk with
    | v :: .inl i :: u :: t => bif Nat.beq q.2.1 1 then (match zAst 0 σ h v i u with
      | some h' => some [(h', σ, t)]
      | none => none) else none
    | _ => none)
  | 59 => (match stk with
    | v :: .inl i :: u :: t => bif Nat.beq q.2.1 1 then (match zAst 1 σ h v i u with
      | some h' => some [(h', σ, t)]
      | none => none) else none
    | _ => none)
  | 60 => (match stk with
    | v :: .inl i :: u :: t => bif Nat.beq q.2.1 1 then (match zAst 2 σ h v i u with
      | some h' => some [(h', σ, t)]
      | none => none) else none
    | _ => none)
  | 61 => (match stk with
    | u :: t => bif Nat.beq q.2.1 1 then (match zLen h u with
      | some v => some [(h, σ, v :: t)]
      | none => none) else none
    | [] => none)
  | 62 => (match stk with
    | .inl i :: u :: t => bif Nat.beq q.2.1 1 then (match zAald σ h i u with
      | some L => some (L.map (fun r => (h, r.1, (.inr (.inr (.inl r.2)) : xV) :: t)))
      | none => none) else none
    | _ => none)
  | 63 => (match stk with
    | v :: .inl i :: u :: t => bif Nat.beq q.2.1 1 then (match zAast σ h v i u with
      | some h' => some [(h', σ, t)]
      | none => none) else none
    | _ => none)
  | 64 => (match stk with
    | .inl i :: u :: t => bif Nat.beq q.2.1 1 then (match zSld scr σ i u with
      | some r => some [(h, σ, .inl r :: t)]
      | none => none) else none
    | _ => none)
  | 65 => (match stk with
    | u :: t => bif Nat.beq q.2.1 1 then (match zSln scr u with
      | some v => some [(h, σ, v :: t)]
      | none => none) else none
    | [] => none)
  | _ => none
theorem zFC_eq : @zFC = @xFC := by
  delta zFC xFC
  simp only [zGetf_eq, zPutf_eq, zAld_eq, zAst_eq, zLen_eq, zAald_eq, zAast_eq, zSld_eq, zSln_eq] <;> rfl
noncomputable def zFB (tb : xTbl) (nx : List xQ) (q : xQ) (σ : List xB) (stk : List xV) : Option (List (Nat × List xB) × List xV) :=
  bif Nat.blt q.2.2.1 86 then (match stk with
    | .inl b :: .inl a :: t => bif Nat.beq q.2.1 3 then (match zCond (xCd (q.2.2.1 - 80)) σ a b q.1 q.2.2.2.2.2 with
      | some L => some (L, t)
      | none => none) else none
    | _ => none) else (bif Nat.blt q.2.2.1 92 then (match stk with
    | .inl a :: t => bif Nat.beq q.2.1 3 then (match zCond (xCd (q.2.2.1 - 86)) σ a (none, 0) q.1 q.2.2.2.2.2 with
      | some L => some (L, t)
      | none => none) else none
    | _ => none) else (match q.2.2.1 with
  | 92 => (match stk with
    | .inr (.inl b) :: .inr (.inl a) :: t => (match nx with
      | e2 :: _ => bif (Nat.ble 86 e2.2.2.1 && Nat.blt e2.2.2.1 92) && (Nat.beq q.2.1 1 && (Nat.beq e2.2.1 3 && Nat.beq e2.1 (q.1 + 1))) then (match zCond (xCd (e2.2.2.1 - 86)) σ a b (q.1 + 1) e2.2.2.2.2.2 with
          | some L => some (L, t)
          | none => none) else none
      | [] => none)
    | _ => none)
  | 93 => bif Nat.beq q.2.1 3 then (match xtg q.1 q.2.2.2.2.2 with
    | some t => some ([(t, σ)], stk)
    | none => none) else none
  | 94 => (match stk with
    | .inl a :: t => (match (znth tb (q.2.2.2.1)) with
      | some w => (match zTab σ a q.1 w.1 w.2.1 w.2.2.1 w.2.2.2.toList with
        | some L => some (L, t)
        | none => none)
      | none => none)
    | _ => none)
  | _ => none))
theorem zFB_eq : @zFB = @xFB := by
  delta zFB xFB
  simp only [znth_eq, zCond_eq, zTab_eq] <;> rfl
noncomputable def zFD (d RC RS : Nat) (q : xQ) (h : List xC) (σ : List xB) (stk : List xV) (nc ns : Nat) : Option (List xC × (List xB × (List xV × (Nat × Nat)))) := match q.2.2.1 with
  | 66 => (match (znth xcl (q.2.2.2.1)) with
    | some r => bif Nat.beq q.2.1 3 && (Nat.ble r.2.2 60 && (Nat.ble (nc + 1) RC && Nat.ble (ns + r.2.2) RS)) then some (h ++ [.inl (q.2.2.2.1, xdf q.2.2.2.1 r.2.2)], σ, (.inr (.inr (.inl (some (zlen h)))) : xV) :: stk, nc + 1, ns + r.2.2) else none
    | none => none)
  | 67 => (match stk with
    | .inl (none, .ofNat n) :: t => bif Nat.beq q.2.1 2 && (Nat.blt n 1000000 && (Nat.ble (nc + 1) RC && Nat.ble (ns + n) RS)) then some (h ++ [xnewC 0 n], σ, (.inr (.inr (.inl (some (zlen h)))) : xV) :: t, nc + 1, ns + n) else none
    | _ => none)
  | 68 => (match stk with
    | .inl (none, .ofNat n) :: t => bif Nat.beq q.2.1 2 && (Nat.blt n 1000000 && (Nat.ble (nc + 1) RC && Nat.ble (ns + n) RS)) then some (h ++ [xnewC 1 n], σ, (.inr (.inr (.inl (some (zlen h)))) : xV) :: t, nc + 1, ns + n) else none
    | _ => none)
  | 69 => (match stk with
    | .inl (none, .ofNat n) :: t => bif Nat.beq q.2.1 2 && (Nat.blt n 1000000 && (Nat.ble (nc + 1) RC && Nat.ble (ns + n) RS)) then some (h ++ [xnewC 2 n], σ, (.inr (.inr (.inl (some (zlen h)))) : xV) :: t, nc + 1, ns + n) else none
    | _ => none)
  | 70 => (match stk with
    | .inl (none, .ofNat n) :: t => bif Nat.beq q.2.1 2 && (Nat.blt n 1000000 && (Nat.ble (nc + 1) RC && Nat.ble (ns + n) RS)) then some (h ++ [xnewC 3 n], σ, (.inr (.inr (.inl (some (zlen h)))) : xV) :: t, nc + 1, ns + n) else none
    | _ => none)
  | 71 => (match stk with
    | .inl (none, .ofNat n) :: t => bif Nat.beq q.2.1 3 && (Nat.blt n 1000000 && (Nat.ble (nc + 1) RC && Nat.ble (ns + n) RS)) then some (h ++ [.inr (.inr (.inr (q.2.2.2.1, List.replicate n none)))], σ, (.inr (.inr (.inl (some (zlen h)))) : xV) :: t, nc + 1, ns + n) else none
    | _ => none)
  | 72 => bif Nat.beq q.2.1 2 && (zle (-2147483648) q.2.2.2.2.2 && zle q.2.2.2.2.2 2147483647) then some (h, σ, .inl (none, q.2.2.2.2.2) :: stk, nc, ns) else none
  | 73 => bif Nat.beq q.2.1 3 && (zle (-2147483648) q.2.2.2.2.2 && zle q.2.2.2.2.2 2147483647) then some (h, σ, .inl (none, q.2.2.2.2.2) :: stk, nc, ns) else none
  | 74 => bif Nat.beq q.2.1 3 && (zle (-9223372036854775808) q.2.2.2.2.2 && zle q.2.2.2.2.2 9223372036854775807) then some (h, σ, .inr (.inl (none, q.2.2.2.2.2)) :: stk, nc, ns) else none
  | 75 => (match stk with
    | .inr (.inr (.inl (some _))) :: t => bif Nat.beq q.2.1 3 && (Nat.blt 0 d && Nat.ble (xsum t) 8) then some (h, σ, t, nc, ns) else none
    | _ => none)
  | 76 => (match stk with
    | .inl b :: .inl a :: t => bif Nat.beq q.2.1 3 && (Nat.blt 0 d && Nat.ble (xsum t) 8) then (match zMax σ a b with
      | some r => some (h, r.2, .inl r.1 :: t, nc, ns)
      | none => none) else none
    | _ => none)
  | 77 => (match stk with
    | .inl b :: .inl a :: t => bif Nat.beq q.2.1 3 && (Nat.blt 0 d && Nat.ble (xsum t) 8) then (match zMin σ a b with
      | some r => some (h, r.2, .inl r.1 :: t, nc, ns)
      | none => none) else none
    | _ => none)
  | 78 => (match stk with
    | .inr (.inl b) :: .inr (.inl a) :: t => bif Nat.beq q.2.1 3 && (Nat.blt 0 d && Nat.ble (xsum t) 8) then (match zMin σ a b with
      | some r => some (h, r.2, .inr (.inl r.1) :: t, nc, ns)
      | none => none) else none
    | _ => none)
  | 79 => (match stk with
    | .inl n :: .inl dp :: v :: .inl sp :: u :: t => bif Nat.beq q.2.1 3 && (Nat.blt 0 d && Nat.ble (xsum t) 8) then (match zCpy σ h n dp v sp u with
      | some h' => some (h', σ, t, nc, ns)
      | none => none) else none
    | _ => none)
  | _ => none
theorem zFD_eq : @zFD = @xFD := by
  delta zFD xFD
  simp only [znth_eq, zlen_eq, zle_eq, zMin_eq, zMax_eq, zCpy_eq] <;> rfl
noncomputable def zRet (ret : Option FieldType) (q : xQ × xS) : Bool := Nat.beq q.1.2.1 1 && (match q.1.2.2.1, ret, q.2.2.2.2.1 with
  | 113, none, [] => true
  | 110, some .int, [.inl _] => true
  | 110, some .boolean, [.inl a] => (match zrg q.2.2.1 a with
    | some r => zle 0 r.1 && zle r.2 1
    | none => false)
  | 111, some .long, [.inr (.inl _)] => true
  | 112, some (.object _), [.inr (.inr _)] => true
  | 112, some (.array _), [.inr (.inr _)] => true
  | _, _, _ => false)
theorem zRet_eq : @zRet = @xRet := by
  delta zRet xRet
  simp only [zle_eq, zrg_eq] <;> rfl
noncomputable def zCat {α β : Type} (f : α → Option (List β)) (l : List α) : Option (List β) := List.rec (motive := fun _ => Option (List β)) (some []) (fun a t ih => List.rec (motive := fun _ => Option (List β)) (f a) (fun _ _ _ => Option.rec (motive := fun _ => Option (List β)) none (fun x => Option.rec (motive := fun _ => Option (List β)) none (fun y => some (zapp x y)) ih) (f a)) t) l
theorem zCat_eq {α β : Type} (f : α → Option (List β)) : ∀ (l : List α), zCat f l = xCat f l
  | [] => rfl
  | [a] => rfl
  | a :: b :: t => by
    show Option.rec (motive := fun _ => Option (List β)) none (fun x => Option.rec (motive := fun _ => Option (List β)) none (fun y => some (zapp x y)) (zCat f (b :: t))) (f a) = _
    rw [zCat_eq f (b :: t)]
    simp only [xCat, zapp_eq]
    cases f a with
    | none => rfl
    | some x =>
      dsimp only
      cases xCat f (b :: t) <;> rfl
noncomputable def zRecv (h : List xC) (ci : Nat) (as : List xV) : Bool := match as with
  | .inr (.inr (.inl (some j))) :: _ => (match (znth h (j)) with
    | some (.inl o) => Nat.beq o.1 ci
    | _ => false)
  | _ => false
theorem zRecv_eq : @zRecv = @xRecv := by
  delta zRecv xRecv
  simp only [znth_eq] <;> rfl
noncomputable def zDef (L H : Int) (ad : Bool) (σ : List xB) (F : xF) (a b : xI) : Option (xI × (List xB × xF)) := match (bif ad then zadd L H σ a b else zsub L H σ a b) with
  | none => none
  | some r => (match zrg σ a with
    | none => none
    | some ra => (match zrg σ b with
      | none => none
      | some rb => bif zle L (bif ad then ra.1 + rb.1 else ra.1 - rb.2) && zle (bif ad then ra.2 + rb.2 else ra.2 - rb.1) H then
          (let g := zlA (-1) (zlA (bif ad then 1 else -1) (xln a) (xln b)) (xln r.1); some (r.1, r.2, g :: zlA (-1) ([], 0) g :: F)) else some (r.1, r.2, F)))
theorem zDef_eq : @zDef = @xDef := by
  delta zDef xDef
  simp only [zle_eq, zrg_eq, zadd_eq, zsub_eq, zlA_eq] <;> rfl
noncomputable def zLdw (σ : List xB) (gs : List xG) (n : Nat) (i : xI) : Option (xI × (List xB × List xG)) := match zrg σ i with
  | none => none
  | some r => bif zeq r.1 r.2 && (zle 0 r.1 && zle r.2 (Int.ofNat n - 1)) then (match zseg gs r.1.toNat with
    | some (.inl a) => some (a, σ, gs)
    | some (.inr q) => (match zmk σ q.1 q.2 with
      | v => some (v.1, v.2, zsset gs r.1.toNat (.inl v.1)))
    | none => none) else (match zLd σ gs n i with
      | some q => some (q.1, q.2, gs)
      | none => none)
theorem zLdw_eq : @zLdw = @xLdw := by
  delta zLdw xLdw
  simp only [zle_eq, zeq_eq, zrg_eq, zmk_eq, zseg_eq, zsset_eq, zLd_eq] <;> rfl
noncomputable def zIx (σ : List xB) (F : xF) (n : Nat) (i : xI) : Bool := zent σ F 6 (xln i) && zent σ F 6 (zlle i (none, Int.ofNat n) 1)
theorem zIx_eq : @zIx = @xIx := by
  delta zIx xIx
  simp only [zlle_eq, zent_eq] <;> rfl
noncomputable def zLdr (σ : List xB) (F : xF) (gs : List xG) (n : Nat) (i : xI) : xR := bif zIx σ F n i then (match zsjoin σ gs 0 (Int.ofNat n - 1) with
  | some (some q) => some (zmk σ q.1 q.2)
  | _ => none) else none
theorem zLdr_eq : @zLdr = @xLdr := by
  delta zLdr xLdr
  simp only [zmk_eq, zsjoin_eq, zIx_eq] <;> rfl
noncomputable def zStr (σ : List xB) (F : xF) (gs : List xG) (n : Nat) (i v : xI) : Option (List xG) := bif zIx σ F n i then (match zrg σ v with
  | some r => zsweak σ gs 0 (Int.ofNat n - 1) r
  | none => none) else none
theorem zStr_eq : @zStr = @xStr := by
  delta zStr xStr
  simp only [zrg_eq, zsweak_eq, zIx_eq] <;> rfl
noncomputable def zH4 (e : xQ) (h : List xC) (σ : List xB) (F : xF) (stk : List xV) : Option xHS := bif Nat.beq e.2.1 1 then (match e.2.2.1, stk with
  | 17, .inl b :: .inl a :: t => (match zDef (-2147483648) 2147483647 true σ F a b with
    | some r => some (e.1 + 1, h, r.2.1, r.2.2, .inl r.1 :: t)
    | none => none)
  | 18, .inl b :: .inl a :: t => (match zDef (-2147483648) 2147483647 false σ F a b with
    | some r => some (e.1 + 1, h, r.2.1, r.2.2, .inl r.1 :: t)
    | none => none)
  | 27, .inr (.inl b) :: .inr (.inl a) :: t => (match zDef (-9223372036854775808) 9223372036854775807 true σ F a b with
    | some r => some (e.1 + 1, h, r.2.1, r.2.2, .inr (.inl r.1) :: t)
    | none => none)
  | 28, .inr (.inl b) :: .inr (.inl a) :: t => (match zDef (-9223372036854775808) 9223372036854775807 false σ F a b with
    | some r => some (e.1 + 1, h, r.2.1, r.2.2, .inr (.inl r.1) :: t)
    | none => none)
  | _, _ => none) else none
theorem zH4_eq : @zH4 = @xH4 := by
  delta zH4 xH4
  simp only [zDef_eq] <;> rfl
noncomputable def zH5 (e : xQ) (h : List xC) (σ : List xB) (F : xF) (stk : List xV) : Option xHS := match e.2.2.1, e.2.1, stk with
  | 57, 1, .inl i :: .inr (.inr (.inl (some j))) :: t => (match (znth h (j)) with
    | some (.inr (.inr (.inl a))) => (match zLdw σ a.2 a.1 i with
      | some r => some (e.1 + 1, (zset h j (.inr (.inr (.inl (a.1, r.2.2))))), r.2.1, F, .inr (.inl r.1) :: t)
      | none => none)
    | _ => none)
  | _, _, _ => none
theorem zH5_eq : @zH5 = @xH5 := by
  delta zH5 xH5
  simp only [znth_eq, zset_eq, zLdw_eq] <;> rfl
noncomputable def zH6 (e : xQ) (h : List xC) (σ : List xB) (F : xF) (stk : List xV) : Option xHS := match e.2.2.1, e.2.1, stk with
  | 57, 1, .inl i :: .inr (.inr (.inl (some j))) :: t => (match (znth h (j)) with
    | some (.inr (.inr (.inl a))) => (match zLdr σ F a.2 a.1 i with
      | some r => some (e.1 + 1, h, r.2, F, .inr (.inl r.1) :: t)
      | none => none)
    | _ => none)
  | 60, 1, .inr (.inl v) :: .inl i :: .inr (.inr (.inl (some j))) :: t => (match (znth h (j)) with
    | some (.inr (.inr (.inl a))) => (match zStr σ F a.2 a.1 i v with
      | some gs => some (e.1 + 1, (zset h j (.inr (.inr (.inl (a.1, gs))))), σ, F, t)
      | none => none)
    | _ => none)
  | _, _, _ => none
theorem zH6_eq : @zH6 = @xH6 := by
  delta zH6 xH6
  simp only [znth_eq, zset_eq, zLdr_eq, zStr_eq] <;> rfl
noncomputable def zH7 (e : xQ) (nx : List xQ) (h : List xC) (σ : List xB) (F : xF) (stk : List xV) : Option xHS := match e.2.2.1, e.2.1, stk, nx with
  | 92, 1, .inr (.inl _) :: .inr (.inl _) :: t, e2 :: e3 :: e4 :: e5 :: _ =>
    bif (Nat.ble 86 e2.2.2.1 && (Nat.blt e2.2.2.1 92 && (Nat.beq e2.1 (e.1 + 1) && (Nat.beq e2.2.1 3 && zeq e2.2.2.2.2.2 7)))) && ((Nat.beq e3.2.2.1 0 && (Nat.beq e3.1 (e.1 + 4) && (Nat.beq e3.2.1 1 && (zle (-128) e3.2.2.2.2.2 && zle e3.2.2.2.2.2 127)))) && ((Nat.beq e4.2.2.1 93 && (Nat.beq e4.1 (e.1 + 5) && (Nat.beq e4.2.1 3 && zeq e4.2.2.2.2.2 4))) && (Nat.beq e5.2.2.1 0 && (Nat.beq e5.1 (e.1 + 8) && (Nat.beq e5.2.1 1 && (zle (-128) e5.2.2.2.2.2 && zle e5.2.2.2.2.2 127)))))) then
      some (e.1 + 9, h, (zmk σ (zmin e3.2.2.2.2.2 e5.2.2.2.2.2) (zmax e3.2.2.2.2.2 e5.2.2.2.2.2)).2, F, .inl (zmk σ (zmin e3.2.2.2.2.2 e5.2.2.2.2.2) (zmax e3.2.2.2.2.2 e5.2.2.2.2.2)).1 :: t) else none
  | _, _, _, _ => none
theorem zH7_eq : @zH7 = @xH7 := by
  delta zH7 xH7
  simp only [zle_eq, zeq_eq, zmin_eq, zmax_eq, zmk_eq] <;> rfl
noncomputable def zH8 (e : xQ) (h : List xC) (σ : List xB) (F : xF) (stk : List xV) : Option xHS := match e.2.2.1, e.2.1, stk with
  | 55, 1, .inl i :: .inr (.inr (.inr 18)) :: t => (match zLd σ xtb0 6 i with
    | some r => some (e.1 + 1, h, r.2, F, .inl r.1 :: t)
    | none => none)
  | 55, 1, .inl i :: .inr (.inr (.inr 19)) :: t => (match zLd σ xtb1 6 i with
    | some r => some (e.1 + 1, h, r.2, F, .inl r.1 :: t)
    | none => none)
  | _, _, _ => none
theorem zH8_eq : @zH8 = @xH8 := by
  delta zH8 xH8
  simp only [zLd_eq] <;> rfl
noncomputable def zH9 (e : xQ) (h : List xC) (σ : List xB) (F : xF) (stk : List xV) : Option xHS := match e.2.2.1, e.2.1, stk with
  | 23, 1, .inl b :: .inl a :: t => (match zrg σ a with
    | none => none
    | some ra => (match zrg σ b with
      | none => none
      | some rb => bif (zeq ra.1 ra.2 && (zle 1 ra.1 && zle ra.1 2)) && (zle 0 rb.1 && zle rb.2 24) then some (e.1 + 1, h, (zmk σ (ra.1 * 2 ^ rb.1.toNat) (ra.1 * 2 ^ rb.2.toNat)).2, F, .inl (zmk σ (ra.1 * 2 ^ rb.1.toNat) (ra.1 * 2 ^ rb.2.toNat)).1 :: t) else (match zBinIF 23 σ a b with
        | some q => some (e.1 + 1, h, q.2, F, .inl q.1 :: t)
        | none => none)))
  | 33, 1, .inr (.inl b) :: .inr (.inl a) :: t => (match zrg σ b with
    | none => none
    | some rb => bif zle rb.2 (-1) then some (e.1 + 1, h, (zmk σ (-9223372036854775808) 9223372036854775807).2, F, .inr (.inl (zmk σ (-9223372036854775808) 9223372036854775807).1) :: t) else (match zBinLF 33 σ a b with
      | some q => some (e.1 + 1, h, q.2, F, .inr (.inl q.1) :: t)
      | none => none))
  | 34, 1, .inr (.inl b) :: .inr (.inl a) :: t => (match zrg σ b with
    | none => none
    | some rb => bif zle rb.2 (-1) then some (e.1 + 1, h, (zmk σ (-9223372036854775808) 9223372036854775807).2, F, .inr (.inl (zmk σ (-9223372036854775808) 9223372036854775807).1) :: t) else (match zBinLF 34 σ a b with
      | some q => some (e.1 + 1, h, q.2, F, .inr (.inl q.1) :: t)
      | none => none))
  | _, _, _ => none
theorem zH9_eq : @zH9 = @xH9 := by
  delta zH9 xH9
  simp only [zle_eq, zeq_eq, zrg_eq, zmk_eq, zBinIF_eq, zBinLF_eq] <;> rfl
noncomputable def zFc (σ : List xB) (F : xF) (L : Nat) (sp n : xI) : Bool := zent σ F 6 (zlA (-1) (zlA (-1) ([], Int.ofNat L) (xln sp)) (xln n))
theorem zFc_eq : @zFc = @xFc := by
  delta zFc xFc
  simp only [zlA_eq, zent_eq] <;> rfl
noncomputable def zH11 (d : Nat) (e : xQ) (h : List xC) (σ : List xB) (F : xF) (stk : List xV) : Option xHS := match e.2.2.1, e.2.1, stk with
  | 79, 3, .inl n :: .inl dp :: .inr (.inr (.inl (some jd))) :: .inl sp :: .inr (.inr (.inl (some js))) :: t => (match (znth h (js)), (znth h (jd)) with
    | some (.inr (.inr (.inl a))), some (.inr (.inr (.inl b))) => (match zrg σ n, zrg σ dp, zrg σ sp with
      | some rn, some rd, some rs => bif (Nat.blt 0 d && Nat.ble (xsum t) 8) && ((zle 0 rn.1 && (zle 0 rd.1 && zle 0 rs.1)) && (zFc σ F a.1 sp n && zFc σ F b.1 dp n)) then (match zsjoin σ a.2 0 (Int.ofNat a.1 - 1), zsjoin σ b.2 0 (Int.ofNat b.1 - 1) with
        | some (some q), some (some q2) => some (e.1 + 3, (zset h jd (.inr (.inr (.inl (b.1, [(b.1, .inr (zjn q q2))]))))), σ, F, t)
        | _, _ => none) else none
      | _, _, _ => none)
    | _, _ => none)
  | _, _, _ => none
theorem zH11_eq : @zH11 = @xH11 := by
  delta zH11 xH11
  simp only [znth_eq, zset_eq, zle_eq, zrg_eq, zjn_eq, zsjoin_eq, zFc_eq] <;> rfl
noncomputable def zH12 (scl : Option xSk) (e : xQ) (h : List xC) (σ : List xB) (F : xF) (stk : List xV) : Option xHS := match scl, e.2.2.1, e.2.1, stk with
  | some q, 64, 1, .inl i :: .inr (.inr (.inr 0)) :: t => bif xsy i q.2.1 && zent σ F 6 (zlle i q.1 1) then (match i.2 - q.2.1.2 with
    | .ofNat j => (match (znth q.2.2 (j)) with
      | some v => some (e.1 + 1, h, σ, F, .inl v :: t)
      | none => none)
    | .negSucc _ => none) else none
  | some q, 65, 1, .inr (.inr (.inr 0)) :: t => some (e.1 + 1, h, σ, F, .inl q.1 :: t)
  | _, _, _, _ => none
theorem zH12_eq : @zH12 = @xH12 := by
  delta zH12 xH12
  simp only [znth_eq, zlle_eq, zent_eq] <;> rfl
noncomputable def zC8 (σ : List xB) (a : xI) : Option Nat := match zrg σ a with
  | none => none
  | some r => bif zeq r.1 r.2 && (zle 0 r.1 && zle r.1 7) then some r.1.toNat else none
theorem zC8_eq : @zC8 = @xC8 := by
  delta zC8 xC8
  simp only [zle_eq, zeq_eq, zrg_eq] <;> rfl
noncomputable def zH10 (e : xQ) (h : List xC) (σ : List xB) (F : xF) (stk : List xV) : Option xHS := match e.2.1, stk with
  | 1, .inl b :: .inl a :: t => (match zC8 σ a, zC8 σ b with
    | some i, some j => (match e.2.2.1 with
      | 20 => some (e.1 + 1, h, σ, F, .inl (none, Int.ofNat (Nat.land i j)) :: t)
      | 21 => some (e.1 + 1, h, σ, F, .inl (none, Int.ofNat (Nat.lor i j)) :: t)
      | 24 => some (e.1 + 1, h, σ, F, .inl (none, Int.ofNat (Nat.shiftRight i j)) :: t)
      | _ => none)
    | _, _ => bif Nat.ble 17 e.2.2.1 && Nat.blt e.2.2.1 27 then (match zBinIF e.2.2.1 σ a b with
      | some q => some (e.1 + 1, h, q.2, F, .inl q.1 :: t)
      | none => none) else none)
  | _, _ => none
theorem zH10_eq : @zH10 = @xH10 := by
  delta zH10 xH10
  simp only [zBinIF_eq, zC8_eq] <;> rfl
noncomputable def zH14 (e : xQ) (nx : List xQ) (h : List xC) (σ : List xB) (F : xF) (stk : List xV) : Option (List xHS) := match e.2.2.1, e.2.1, stk, nx with
  | 92, 1, .inr (.inl b) :: .inr (.inl a) :: t, e2 :: _ => bif Nat.ble 86 e2.2.2.1 && (Nat.blt e2.2.2.1 92 && (Nat.beq e2.1 (e.1 + 1) && Nat.beq e2.2.1 3)) then (bif xTwoS a b then (match zCondF (xCd (e2.2.2.1 - 86)) σ F a b (e.1 + 1) e2.2.2.2.2.2 with
    | some L => some (L.map (fun q => (q.1, h, q.2.1, q.2.2, t)))
    | none => none) else (match zCond (xCd (e2.2.2.1 - 86)) σ a b (e.1 + 1) e2.2.2.2.2.2 with
    | some L => some (L.map (fun q => (q.1, h, q.2, F, t)))
    | none => none)) else none
  | _, _, _, _ => none
theorem zH14_eq : @zH14 = @xH14 := by
  delta zH14 xH14
  simp only [zCond_eq, zCondF_eq] <;> rfl
noncomputable def zNe3 (σ : List xB) (F : xF) (a b : xI) : xRF := bif xsy a b && zeq a.2 b.2 then [] else zltF σ F a b ++ zltF σ F b a
theorem zNe3_eq : @zNe3 = @xNe3 := by
  delta zNe3 xNe3
  simp only [zeq_eq, zltF_eq] <;> rfl
noncomputable def zH15 (e : xQ) (h : List xC) (σ : List xB) (F : xF) (stk : List xV) : Option (List xHS) := match e.2.2.1, e.2.1, stk with
  | 80, 3, .inl b :: .inl a :: t => (match xtg e.1 e.2.2.2.2.2 with
    | some g => some ((zeqF σ F a b).map (fun q => (g, h, q.1, q.2, t)) ++ (zNe3 σ F a b).map (fun q => (e.1 + 3, h, q.1, q.2, t)))
    | none => none)
  | 81, 3, .inl b :: .inl a :: t => (match xtg e.1 e.2.2.2.2.2 with
    | some g => some ((zNe3 σ F a b).map (fun q => (g, h, q.1, q.2, t)) ++ (zeqF σ F a b).map (fun q => (e.1 + 3, h, q.1, q.2, t)))
    | none => none)
  | _, _, _ => none
theorem zH15_eq : @zH15 = @xH15 := by
  delta zH15 xH15
  simp only [zeqF_eq, zNe3_eq] <;> rfl
noncomputable def zHs (scl : Option xSk) (d kd : Nat) (nx : List xQ) (e : xQ) (h : List xC) (σ : List xB) (F : xF) (stk : List xV) : Option (List xHS) := match kd with
  | 4 => xOne1 (zH4 e h σ F stk)
  | 5 => xOne1 (zH5 e h σ F stk)
  | 6 => xOne1 (zH6 e h σ F stk)
  | 7 => xOne1 (zH7 e nx h σ F stk)
  | 8 => xOne1 (zH8 e h σ F stk)
  | 9 => xOne1 (zH9 e h σ F stk)
  | 10 => xOne1 (zH10 e h σ F stk)
  | 11 => xOne1 (zH11 d e h σ F stk)
  | 12 => xOne1 (zH12 scl e h σ F stk)
  | 14 => zH14 e nx h σ F stk
  | 15 => zH15 e h σ F stk
  | _ => none
theorem zHs_eq : @zHs = @xHs := by
  delta zHs xHs
  simp only [zH4_eq, zH5_eq, zH6_eq, zH7_eq, zH8_eq, zH9_eq, zH11_eq, zH12_eq, zH10_eq, zH14_eq, zH15_eq] <;> rfl
noncomputable def zSpl (σ : List xB) (v : xI) : Nat → Int → List (List xB)
  | 0, z => [zput σ v z z]
  | n + 1, z => zput σ v z z :: zSpl σ v n (z + 1)
theorem zSpl_eq : @zSpl = @xSpl := by
  delta zSpl xSpl
  delta zSpl._f xSpl._f
  simp only [zput_eq] <;> rfl
noncomputable def zSplit (σ : List xB) (v : xI) : Option (List (List xB)) := match zrg σ v with
  | none => none
  | some r => (match r.2 - r.1 with
    | .ofNat n => bif Nat.ble n 800 then some (zSpl σ v n r.1) else none
    | .negSucc _ => none)
theorem zSplit_eq : @zSplit = @xSplit := by
  delta zSplit xSplit
  simp only [zrg_eq, zSpl_eq] <;> rfl
noncomputable def zReg (σ : List xB) (v : xI) (n : Nat) : Option (List (List xB)) := match zrg σ v with
  | none => none
  | some r => some ((bif zle r.1 (-1) then [zput σ v r.1 (zmin r.2 (-1))] else []) ++ ((zSpl σ v n 0) ++ (bif zle (Int.ofNat n + 1) r.2 then [zput σ v (zmax r.1 (Int.ofNat n + 1)) r.2] else [])))
theorem zReg_eq : @zReg = @xReg := by
  delta zReg xReg
  simp only [zle_eq, zmin_eq, zmax_eq, zrg_eq, zput_eq, zSpl_eq] <;> rfl
noncomputable def zContra (σ : List xB) (F : xF) : Bool := (zany (fun f => zent σ F 4 (zlA (-1) ([], -1) f)) F)
theorem zContra_eq : @zContra = @xContra := by
  delta zContra xContra
  simp only [zany_eq, zlA_eq, zent_eq] <;> rfl
noncomputable def zRef (kd arg : Nat) (σ : List xB) (F : xF) (loc : List (Nat × xV)) (stk : List xV) : Option (List (List xB)) := match kd with
  | 1 => (match zTight F σ with
    | none => some []
    | some τ => some [τ])
  | 2 => (match zget loc arg with
    | some (.inl a) => zSplit σ a
    | _ => none)
  | 3 => (match stk with
    | .inl a :: _ => (match arg with
      | 0 => zSplit σ a
      | n + 1 => zReg σ a n)
    | _ => none)
  | 0 => (match zTight F σ with
    | none => some []
    | some τ => bif zContra τ F then some [] else some [τ])
  | _ => none
theorem zRef_eq : @zRef = @xRef := by
  delta zRef xRef
  simp only [zget_eq, zTight_eq, zSplit_eq, zReg_eq, zContra_eq] <;> rfl
noncomputable def zSpec (d kd arg : Nat) (σ : List xB) (stk : List xV) : Option (Nat × (List xB × List xV)) := match kd with
  | 20 => bif Nat.blt arg 17 then some (2, σ, .inr (.inr (.inr (arg + 1))) :: stk) else none
  | 21 => bif Nat.blt arg 2 then some (3, σ, .inr (.inr (.inr (arg + 18))) :: stk) else none
  | 22 => (match stk with
    | .inr (.inr (.inr (k + 1))) :: t => bif Nat.blt 5 d && Nat.ble (xsum t) 8 then (match (znth xslen (k)) with
      | some n => some (3, σ, .inl (none, Int.ofNat n) :: t)
      | none => none) else none
    | _ => none)
  | 23 => (match stk with
    | .inl i :: .inr (.inr (.inr (k + 1))) :: t => bif Nat.blt 5 d && Nat.ble (xsum t) 8 then (match (znth xslen (k)), zrg σ i with
      | some n, some r => bif zle 0 r.1 && zle r.2 (Int.ofNat n - 1) then some (3, (zmk σ 0 65535).2, .inl (zmk σ 0 65535).1 :: t) else none
      | _, _ => none) else none
    | _ => none)
  | _ => none
theorem zSpec_eq : @zSpec = @xSpec := by
  delta zSpec xSpec
  simp only [znth_eq, zle_eq, zrg_eq, zmk_eq] <;> rfl
noncomputable def zPrb (σ : List xB) (h : List xC) (as : List xV) (P : xPt) (kd a fi : Nat) : Bool := match (znth P.2.2.2.1 (a)), (znth as (a)) with
  | some (.inr (.inr (.inl (some i)))), some (.inr (.inr (.inl (some j)))) => (match (znth P.1 (i)), (znth h (j)) with
    | some (.inl o), some (.inl o') => (match kd, (znth o.2 (fi)), (znth o'.2 (fi)) with
      | 30, some (.inl (some k, _)), some (.inl x) => (match (znth P.2.1 (k)), zrg σ x with
        | some r, some q => zle r.1 q.1 && zle q.2 r.2
        | _, _ => true)
      | 31, some (.inr (.inr (.inl (some i2)))), some (.inr (.inr (.inl (some j2)))) => (match (znth P.1 (i2)), (znth h (j2)), ((znth as ((1 : Nat))) : Option xV) with
        | some (.inr (.inl pa)), some (.inr (.inl sa)), some (.inl x) => (match zrg σ x with
          | some r => (match zseg pa.2.2 r.1.toNat, zseg sa.2.2 r.1.toNat with
            | some (.inl (some k, _)), some u => (match (znth P.2.1 (k)), zelr σ u with
              | some r2, some q => zle r2.1 q.1 && zle q.2 r2.2
              | _, _ => true)
            | _, _ => true)
          | none => true)
        | _, _, _ => true)
      | _, _, _ => true)
    | _, _ => true)
  | _, _ => true
theorem zPrb_eq : @zPrb = @xPrb := by
  delta zPrb xPrb
  simp only [znth_eq, zle_eq, zrg_eq, zseg_eq, zelr_eq] <;> rfl
noncomputable def zPrbs (σ : List xB) (h : List xC) (as : List xV) (P : xPt) : xHl → Bool
  | [] => true
  | q :: t => (Nat.blt q.2.1 30 || zPrb σ h as P q.2.1 q.1 q.2.2) && zPrbs σ h as P t
theorem zPrbs_eq : @zPrbs = @xPrbs := by
  delta zPrbs xPrbs
  delta zPrbs._f xPrbs._f
  simp only [zPrb_eq] <;> rfl
noncomputable def zUseT (xn : Nat) (h : List xC) (σ : List xB) (F : xF) (d : Nat) (as : List xV) (j : Nat) (pr : xHl) : List (Nat × xCt) → Option (List (List xC × (List xB × (xF × List xV))))
  | [] => none
  | q :: t => bif Nat.beq q.1 j && zPrbs σ h as q.2.1 pr then (match zUseF xn h σ F d as q.2 with
    | some r => some r
    | none => zUseT xn h σ F d as j pr t) else zUseT xn h σ F d as j pr t
theorem zUseT_eq : @zUseT = @xUseT := by
  delta zUseT xUseT
  delta zUseT._f xUseT._f
  simp only [zUseF_eq, zPrbs_eq] <;> rfl
noncomputable def zRun2O (mt : List xMd) (tb : xTbl) (T : List (Nat × xCt)) (ht : List (Nat × xHl)) (xn : Nat) : Nat → Nat → Nat → Option xSk → List Nat → xMd → xHl → Nat → List xQ → List xC → List xB → xF → List (Nat × xV) → List xV → Nat → Nat → Option (List xO2)
  | 0, _, _, _, _, _, _, _, _, _, _, _, _, _, _, _ => none
  | f + 1, _, d, scl, ct, M, hl, pc, [], h, σ, F, loc, stk, nc, ns => (match xHp2 hl pc with
    | none => none
    | some q => (match zSpec d q.2.1 q.2.2 σ stk with
      | none => none
      | some (len, σ', stk') => zRun2O mt tb T ht xn f 1 d scl ct M hl (pc + len) (zSeek M.pg (pc + len)) h σ' F loc stk' nc ns))
  | f + 1, fl, d, scl, ct, M, hl, pc, e :: nx, h, σ, F, loc, stk, nc, ns => bif Nat.ble 110 e.2.2.1 || (Nat.beq fl 1 && (zany (Nat.beq e.1) ct)) then some [(e, ((h, σ, loc, stk, nc, ns), F))] else (match (bif Nat.beq fl 2 then none else zHr hl e.1) with
    | some q => (match zRef q.1 q.2 σ F loc stk with
      | none => none
      | some L => zCat (fun τ => zRun2O mt tb T ht xn f 2 d scl ct M hl pc (e :: nx) h τ F loc stk nc ns) L)
    | none => (match zHq hl e.1 with
      | kd + 1 => (match zHs scl d (kd + 1) nx e h σ F stk with
        | none => none
        | some L => zCat (fun r => zRun2O mt tb T ht xn f 1 d scl ct M hl r.1 (zGo M.pg nx r.1) r.2.1 r.2.2.1 r.2.2.2.1 loc r.2.2.2.2 nc ns) L)
      | 0 => bif Nat.blt e.2.2.1 50 then (match zFA M.nl e σ loc stk with
      | none => none
      | some (σ', loc', stk') => zRun2O mt tb T ht xn f 1 d scl ct M hl (e.1 + e.2.1) (zGo M.pg nx (e.1 + e.2.1)) h σ' F loc' stk' nc ns) else (bif Nat.blt e.2.2.1 66 then (match zFC [] e h σ stk with
      | none => none
      | some L => zCat (fun q => zRun2O mt tb T ht xn f 1 d scl ct M hl (e.1 + e.2.1) (zGo M.pg nx (e.1 + e.2.1)) q.1 q.2.1 F loc q.2.2 nc ns) L) else (bif Nat.blt e.2.2.1 80 then (match zFD d M.mc M.ms e h σ stk nc ns with
      | none => none
      | some (h', σ', stk', nc', ns') => zRun2O mt tb T ht xn f 1 d scl ct M hl (e.1 + e.2.1) (zGo M.pg nx (e.1 + e.2.1)) h' σ' F loc stk' nc' ns') else (bif Nat.blt e.2.2.1 100 then (match xTwo e.2.2.1 stk with
      | some (a, b, t) => bif Nat.beq e.2.1 3 then (match zCondF (xCd (e.2.2.1 - 80)) σ F a b e.1 e.2.2.2.2.2 with
        | none => none
        | some L => zCat (fun q => zRun2O mt tb T ht xn f 1 d scl ct M hl q.1 (zGo M.pg nx q.1) h q.2.1 q.2.2 loc t nc ns) L) else none
      | none => (match zFB tb nx e σ stk with
        | none => none
        | some (L, stk') => zCat (fun q => zRun2O mt tb T ht xn f 1 d scl ct M hl q.1 (zGo M.pg nx q.1) h q.2 F loc stk' nc ns) L)) else (match d with
      | 0 => none
      | d' + 1 => (match (znth mt (e.2.2.2.1)) with
        | none => none
        | some M' => (match xtake (bif xStat e.2.2.1 then M'.na else M'.na + 1) [] stk with
          | none => none
          | some (as, r) => bif ((Nat.ble (xsum r) 8 && Nat.ble (xsum as) M'.nl) && (xStat e.2.2.1 || zRecv h M'.ci as)) && (Nat.beq e.2.1 3 && (Nat.ble (nc + M'.mc) M.mc && Nat.ble (ns + M'.ms) M.ms)) then
              (match zUseT xn h σ F d' as e.2.2.2.1 (zHof ht e.2.2.2.1) T with
              | some ends => zCat (fun q => zRun2O mt tb T ht xn f 1 (d' + 1) scl ct M hl (e.1 + 3) (zGo M.pg nx (e.1 + 3)) q.1 q.2.1 q.2.2.1 loc (zapp q.2.2.2 r) (nc + M'.mc) (ns + M'.ms)) ends
              | none => (match zRun2O mt tb T ht xn f 1 d' none [] M' (zHof ht e.2.2.2.1) 0 (zSeek M'.pg 0) h σ F (xArgs 0 as) [] 0 0 with
                | none => none
                | some outs => bif (zall (fun q => zRet M'.rt (q.1, q.2.1)) outs) then zCat (fun q => zRun2O mt tb T ht xn f 1 (d' + 1) scl ct M hl (e.1 + 3) (zGo M.pg nx (e.1 + 3)) q.2.1.1 q.2.1.2.1 q.2.2 loc (zapp q.2.1.2.2.2.1 r) (nc + M'.mc) (ns + M'.ms)) outs else none)) else none))))))))
theorem zRun2O_eq : @zRun2O = @xRun2 := by
  delta zRun2O xRun2
  delta zRun2O._f xRun2._f
  simp only [znth_eq, zapp_eq, zany_eq, zall_eq, zCondF_eq, zFA_eq, zFC_eq, zFB_eq, zFD_eq, zRet_eq, zSeek_eq, zGo_eq, zCat_eq, zRecv_eq, zHs_eq, zHr_eq, zHq_eq, zHof_eq, zRef_eq, zSpec_eq, zUseT_eq] <;> rfl
abbrev zRT : Type := Nat → Nat → Option xSk → List Nat → xMd → xHl → Nat → List xQ → List xC → List xB → xF → List (Nat × xV) → List xV → Nat → Nat → Option (List xO2)
abbrev zOL : Type := Option (List xO2)
noncomputable def zR0 (rc : zRT) (d : Nat) (scl : Option xSk) (ct : List Nat) (M : xMd) (hl : xHl) (pc : Nat) (h : List xC) (σ : List xB) (F : xF) (loc : List (Nat × xV)) (stk : List xV) (nc ns : Nat) : zOL := match xHp2 hl pc with
    | none => none
    | some q => (match zSpec d q.2.1 q.2.2 σ stk with
      | none => none
      | some (len, σ', stk') => rc 1 d scl ct M hl (pc + len) (zSeek M.pg (pc + len)) h σ' F loc stk' nc ns)
noncomputable def zRA (rc : zRT) (d : Nat) (scl : Option xSk) (ct : List Nat) (M : xMd) (hl : xHl) (e : xQ) (nx : List xQ) (h : List xC) (σ : List xB) (F : xF) (loc : List (Nat × xV)) (stk : List xV) (nc ns : Nat) : zOL := Option.rec (motive := fun _ => zOL) none (fun r => rc 1 d scl ct M hl (e.1 + e.2.1) (zGo M.pg nx (e.1 + e.2.1)) h r.1 F r.2.1 r.2.2 nc ns) (zFA M.nl e σ loc stk)
noncomputable def zRC (rc : zRT) (d : Nat) (scl : Option xSk) (ct : List Nat) (M : xMd) (hl : xHl) (e : xQ) (nx : List xQ) (h : List xC) (σ : List xB) (F : xF) (loc : List (Nat × xV)) (stk : List xV) (nc ns : Nat) : zOL := Option.rec (motive := fun _ => zOL) none (fun L => zCat (fun q => rc 1 d scl ct M hl (e.1 + e.2.1) (zGo M.pg nx (e.1 + e.2.1)) q.1 q.2.1 F loc q.2.2 nc ns) L) (zFC [] e h σ stk)
noncomputable def zRD (rc : zRT) (d : Nat) (scl : Option xSk) (ct : List Nat) (M : xMd) (hl : xHl) (e : xQ) (nx : List xQ) (h : List xC) (σ : List xB) (F : xF) (loc : List (Nat × xV)) (stk : List xV) (nc ns : Nat) : zOL := Option.rec (motive := fun _ => zOL) none (fun r => rc 1 d scl ct M hl (e.1 + e.2.1) (zGo M.pg nx (e.1 + e.2.1)) r.1 r.2.1 F loc r.2.2.1 r.2.2.2.1 r.2.2.2.2) (zFD d M.mc M.ms e h σ stk nc ns)
noncomputable def zRB1 (rc : zRT) (d : Nat) (scl : Option xSk) (ct : List Nat) (M : xMd) (hl : xHl) (e : xQ) (nx : List xQ) (h : List xC) (σ : List xB) (F : xF) (loc : List (Nat × xV)) (nc ns : Nat) (r : xI × (xI × List xV)) : zOL := Bool.rec (motive := fun _ => zOL) none (Option.rec (motive := fun _ => zOL) none (fun L => zCat (fun q => rc 1 d scl ct M hl q.1 (zGo M.pg nx q.1) h q.2.1 q.2.2 loc r.2.2 nc ns) L) (zCondF (xCd (e.2.2.1 - 80)) σ F r.1 r.2.1 e.1 e.2.2.2.2.2)) (Nat.beq e.2.1 3)
noncomputable def zRB (tb : xTbl) (rc : zRT) (d : Nat) (scl : Option xSk) (ct : List Nat) (M : xMd) (hl : xHl) (e : xQ) (nx : List xQ) (h : List xC) (σ : List xB) (F : xF) (loc : List (Nat × xV)) (stk : List xV) (nc ns : Nat) : zOL := Option.rec (motive := fun _ => zOL) (Option.rec (motive := fun _ => zOL) none (fun r => zCat (fun q => rc 1 d scl ct M hl q.1 (zGo M.pg nx q.1) h q.2 F loc r.2 nc ns) r.1) (zFB tb nx e σ stk)) (fun r => zRB1 rc d scl ct M hl e nx h σ F loc nc ns r) (xTwo e.2.2.1 stk)
noncomputable def zRV (mt : List xMd) (T : List (Nat × xCt)) (ht : List (Nat × xHl)) (xn : Nat) (rc : zRT) (d : Nat) (scl : Option xSk) (ct : List Nat) (M : xMd) (hl : xHl) (e : xQ) (nx : List xQ) (h : List xC) (σ : List xB) (F : xF) (loc : List (Nat × xV)) (stk : List xV) (nc ns : Nat) : zOL := match d with
      | 0 => none
      | d' + 1 => (match (znth mt (e.2.2.2.1)) with
        | none => none
        | some M' => (match xtake (bif xStat e.2.2.1 then M'.na else M'.na + 1) [] stk with
          | none => none
          | some (as, r) => bif ((Nat.ble (xsum r) 8 && Nat.ble (xsum as) M'.nl) && (xStat e.2.2.1 || zRecv h M'.ci as)) && (Nat.beq e.2.1 3 && (Nat.ble (nc + M'.mc) M.mc && Nat.ble (ns + M'.ms) M.ms)) then
              (match zUseT xn h σ F d' as e.2.2.2.1 (zHof ht e.2.2.2.1) T with
              | some ends => zCat (fun q => rc 1 (d' + 1) scl ct M hl (e.1 + 3) (zGo M.pg nx (e.1 + 3)) q.1 q.2.1 q.2.2.1 loc (zapp q.2.2.2 r) (nc + M'.mc) (ns + M'.ms)) ends
              | none => (match rc 1 d' none [] M' (zHof ht e.2.2.2.1) 0 (zSeek M'.pg 0) h σ F (xArgs 0 as) [] 0 0 with
                | none => none
                | some outs => bif (zall (fun q => zRet M'.rt (q.1, q.2.1)) outs) then zCat (fun q => rc 1 (d' + 1) scl ct M hl (e.1 + 3) (zGo M.pg nx (e.1 + 3)) q.2.1.1 q.2.1.2.1 q.2.2 loc (zapp q.2.1.2.2.2.1 r) (nc + M'.mc) (ns + M'.ms)) outs else none)) else none))
noncomputable def zR4 (mt : List xMd) (tb : xTbl) (T : List (Nat × xCt)) (ht : List (Nat × xHl)) (xn : Nat) (rc : zRT) (d : Nat) (scl : Option xSk) (ct : List Nat) (M : xMd) (hl : xHl) (e : xQ) (nx : List xQ) (h : List xC) (σ : List xB) (F : xF) (loc : List (Nat × xV)) (stk : List xV) (nc ns : Nat) : zOL := Bool.rec (motive := fun _ => zOL) (Bool.rec (motive := fun _ => zOL) (Bool.rec (motive := fun _ => zOL) (Bool.rec (motive := fun _ => zOL) (zRV mt T ht xn rc d scl ct M hl e nx h σ F loc stk nc ns) (zRB tb rc d scl ct M hl e nx h σ F loc stk nc ns) (Nat.blt e.2.2.1 100)) (zRD rc d scl ct M hl e nx h σ F loc stk nc ns) (Nat.blt e.2.2.1 80)) (zRC rc d scl ct M hl e nx h σ F loc stk nc ns) (Nat.blt e.2.2.1 66)) (zRA rc d scl ct M hl e nx h σ F loc stk nc ns) (Nat.blt e.2.2.1 50)
noncomputable def zR3 (rc : zRT) (d : Nat) (scl : Option xSk) (ct : List Nat) (M : xMd) (hl : xHl) (e : xQ) (nx : List xQ) (h : List xC) (σ : List xB) (F : xF) (loc : List (Nat × xV)) (stk : List xV) (nc ns kd : Nat) : zOL := Option.rec (motive := fun _ => zOL) none (fun L => zCat (fun r => rc 1 d scl ct M hl r.1 (zGo M.pg nx r.1) r.2.1 r.2.2.1 r.2.2.2.1 loc r.2.2.2.2 nc ns) L) (zHs scl d (kd + 1) nx e h σ F stk)
noncomputable def zR2 (mt : List xMd) (tb : xTbl) (T : List (Nat × xCt)) (ht : List (Nat × xHl)) (xn : Nat) (rc : zRT) (fl d : Nat) (scl : Option xSk) (ct : List Nat) (M : xMd) (hl : xHl) (pc : Nat) (e : xQ) (nx : List xQ) (h : List xC) (σ : List xB) (F : xF) (loc : List (Nat × xV)) (stk : List xV) (nc ns : Nat) : zOL := Option.rec (motive := fun _ => zOL) (Nat.rec (motive := fun _ => zOL) (zR4 mt tb T ht xn rc d scl ct M hl e nx h σ F loc stk nc ns) (fun kd _ => zR3 rc d scl ct M hl e nx h σ F loc stk nc ns kd) (zHq hl e.1)) (fun q => Option.rec (motive := fun _ => zOL) none (fun L => zCat (fun τ => rc 2 d scl ct M hl pc (e :: nx) h τ F loc stk nc ns) L) (zRef q.1 q.2 σ F loc stk)) (Bool.rec (motive := fun _ => Option (Nat × Nat)) (zHr hl e.1) none (Nat.beq fl 2))
noncomputable def zR1 (mt : List xMd) (tb : xTbl) (T : List (Nat × xCt)) (ht : List (Nat × xHl)) (xn : Nat) (rc : zRT) (fl d : Nat) (scl : Option xSk) (ct : List Nat) (M : xMd) (hl : xHl) (pc : Nat) (e : xQ) (nx : List xQ) (h : List xC) (σ : List xB) (F : xF) (loc : List (Nat × xV)) (stk : List xV) (nc ns : Nat) : zOL := Bool.rec (motive := fun _ => zOL) (zR2 mt tb T ht xn rc fl d scl ct M hl pc e nx h σ F loc stk nc ns) (some [(e, ((h, σ, loc, stk, nc, ns), F))]) (Bool.rec (motive := fun _ => Bool) (Bool.rec (motive := fun _ => Bool) false (zany (Nat.beq e.1) ct) (Nat.beq fl 1)) true (Nat.ble 110 e.2.2.1))
noncomputable def zRun2 (mt : List xMd) (tb : xTbl) (T : List (Nat × xCt)) (ht : List (Nat × xHl)) (xn f : Nat) : zRT := Nat.rec (motive := fun _ => zRT) (fun _ _ _ _ _ _ _ _ _ _ _ _ _ _ _ => none) (fun _ rc fl d scl ct M hl pc P h σ F loc stk nc ns => List.rec (motive := fun _ => zOL) (zR0 rc d scl ct M hl pc h σ F loc stk nc ns) (fun e nx _ => zR1 mt tb T ht xn rc fl d scl ct M hl pc e nx h σ F loc stk nc ns) P) f
theorem zRun2_go (mt : List xMd) (tb : xTbl) (T : List (Nat × xCt)) (ht : List (Nat × xHl)) (xn : Nat) : ∀ f, zRun2 mt tb T ht xn f = zRun2O mt tb T ht xn f
  | 0 => by
    funext fl d scl ct M hl pc P h σ F loc stk nc ns
    cases P <;> rfl
  | f + 1 => by
    funext fl d scl ct M hl pc P h σ F loc stk nc ns
    cases P with
    | nil =>
      show zR0 (zRun2 mt tb T ht xn f) d scl ct M hl pc h σ F loc stk nc ns = _
      rw [zRun2_go mt tb T ht xn f]
      rfl
    | cons e nx =>
      show zR1 mt tb T ht xn (zRun2 mt tb T ht xn f) fl d scl ct M hl pc e nx h σ F loc stk nc ns = _
      rw [zRun2_go mt tb T ht xn f]
      simp only [zRun2O]
      generalize zRun2O mt tb T ht xn f = rc
      unfold zR1
      have hc : Bool.rec (motive := fun _ => Bool) (Bool.rec (motive := fun _ => Bool) false (zany (Nat.beq e.1) ct) (Nat.beq fl 1)) true (Nat.ble 110 e.2.2.1) = (Nat.ble 110 e.2.2.1 || (Nat.beq fl 1 && zany (Nat.beq e.1) ct)) := by
        cases Nat.ble 110 e.2.2.1 <;> cases Nat.beq fl 1 <;> rfl
      rw [hc, z_bif]
      generalize (Nat.ble 110 e.2.2.1 || (Nat.beq fl 1 && zany (Nat.beq e.1) ct)) = C
      cases C with
      | true => rfl
      | false =>
        simp only [cond_false]
        unfold zR2
        rw [z_bif (Nat.beq fl 2)]
        generalize (bif Nat.beq fl 2 then none else zHr hl e.1) = O
        cases O with
        | some q =>
          dsimp only
          cases zRef q.1 q.2 σ F loc stk <;> rfl
        | none =>
          dsimp only
          generalize zHq hl e.1 = K
          cases K with
          | succ kd =>
            show zR3 rc d scl ct M hl e nx h σ F loc stk nc ns kd = _
            unfold zR3
            dsimp only
            cases zHs scl d (kd + 1) nx e h σ F stk <;> rfl
          | zero =>
            show zR4 mt tb T ht xn rc d scl ct M hl e nx h σ F loc stk nc ns = _
            unfold zR4
            rw [z_bif, z_bif, z_bif, z_bif]
            dsimp only
            cases Nat.blt e.2.2.1 50 with
            | true =>
              simp only [cond_true]
              unfold zRA
              cases zFA M.nl e σ loc stk <;> rfl
            | false =>
              simp only [cond_false]
              cases Nat.blt e.2.2.1 66 with
              | true =>
                simp only [cond_true]
                unfold zRC
                cases zFC [] e h σ stk <;> rfl
              | false =>
                simp only [cond_false]
                cases Nat.blt e.2.2.1 80 with
                | true =>
                  simp only [cond_true]
                  unfold zRD
                  cases zFD d M.mc M.ms e h σ stk nc ns <;> rfl
                | false =>
                  simp only [cond_false]
                  cases Nat.blt e.2.2.1 100 with
                  | true =>
                    simp only [cond_true]
                    unfold zRB
                    cases xTwo e.2.2.1 stk with
                    | none =>
                      dsimp only
                      cases zFB tb nx e σ stk <;> rfl
                    | some r =>
                      obtain ⟨a, b, t⟩ := r
                      dsimp only
                      unfold zRB1
                      dsimp only
                      cases Nat.beq e.2.1 3 with
                      | false => rfl
                      | true =>
                        simp only [cond_true]
                        cases zCondF (xCd (e.2.2.1 - 80)) σ F a b e.1 e.2.2.2.2.2 <;> rfl
                  | false =>
                    simp only [cond_false]
                    unfold zRV
                    rfl
theorem zRun2_eq : zRun2 = xRun2 := by
  funext mt tb T ht xn f
  rw [zRun2_go, zRun2O_eq]
noncomputable def zlocs (loc : List (Nat × xV)) : List Nat → Option (List xV)
  | [] => some []
  | k :: t => (match zget loc k with
    | none => none
    | some v => (match zlocs loc t with
      | none => none
      | some vs => some (v :: vs)))
theorem zlocs_eq : @zlocs = @xlocs := by
  delta zlocs xlocs
  delta zlocs._f xlocs._f
  simp only [zget_eq] <;> rfl
noncomputable def zFitI (xn n0 nc nx : Nat) (h : List xC) (σ : List xB) (F : xF) (vs : List xV) (E : xPt) : Option (List xI × (List Nat × List xV)) := bif Nat.beq (zlen E.1) nc && (Nat.beq E.2.2.2.2 nx && Nat.ble n0 (zlen E.2.1)) then zPFF xn n0 nc h σ F vs (xidN nc 0) (xidX nx 20) E else none
theorem zFitI_eq : @zFitI = @xFitI := by
  delta zFitI xFitI
  simp only [zlen_eq, zPFF_eq] <;> rfl
noncomputable def zChkO (xn n0 nc nx : Nat) (rt : Option FieldType) (E : List xPt) (cuts : List xCu) (ms : Option xLn) (o : xO2) : Bool :=
  bif Nat.ble 110 o.1.2.2.1 then zRet rt (o.1, o.2.1) && (zany (fun e => (zFitI xn n0 nc nx o.2.1.1 o.2.1.2.1 o.2.2 o.2.1.2.2.2.1 e).isSome) E)
  else (match o.2.1.2.2.2.1, o.2.1.2.2.2.2.1, o.2.1.2.2.2.2.2 with
    | [], 0, 0 => (zany (fun C => Nat.beq C.1 o.1.1 && (match zlocs o.2.1.2.2.1 C.2.1 with
      | none => false
      | some vs => (match zFitI xn n0 nc nx o.2.1.1 o.2.1.2.1 o.2.2 vs C.2.2.1 with
        | none => false
        | some r => (match ms with
          | none => true
          | some m0 => (match zlT r.1 C.2.2.2 with
            | none => false
            | some g => zent o.2.1.2.1 o.2.2 12 (zlA (-1) (m0.1, m0.2 - 1) g)))))) cuts)
    | _, _, _ => false)
theorem zChkO_eq : @zChkO = @xChkO := by
  delta zChkO xChkO
  simp only [zany_eq, zlA_eq, zent_eq, zlT_eq, zRet_eq, zlocs_eq, zFitI_eq] <;> rfl
noncomputable def zFrom (T : List (Nat × xCt)) (ht : List (Nat × xHl)) (f d j : Nat) (M : xMd) (c : xCt) (cuts : List xCu) (ms : Option xLn) (pc : Nat) (P : xPt) (loc : List (Nat × xV)) : Bool := match zRun2 xMt xTb T ht (20 + c.1.2.2.2.2) f 0 d none (cuts.map Prod.fst) M (zHof ht j) pc (zSeek M.pg pc) P.1 P.2.1 P.2.2.1 loc [] 0 0 with
  | none => false
  | some outs => (zall (zChkO (20 + c.1.2.2.2.2) (zlen c.1.2.1) (zlen c.1.1) c.1.2.2.2.2 M.rt c.2.1 cuts ms) outs)
theorem zFrom_eq : @zFrom = @xFrom := by
  delta zFrom xFrom
  simp only [zlen_eq, zall_eq, zSeek_eq, zHof_eq, zRun2_eq, zChkO_eq] <;> rfl
noncomputable def zVer0 (T : List (Nat × xCt)) (ht : List (Nat × xHl)) (f j : Nat) (M : xMd) (c : xCt) (cuts : List xCu) : Bool := Nat.ble (xsum c.1.2.2.2.1) M.nl && zFrom T ht f c.2.2 j M c cuts none 0 c.1 (xArgs 0 c.1.2.2.2.1)
theorem zVer0_eq : @zVer0 = @xVer0 := by
  delta zVer0 xVer0
  simp only [zFrom_eq] <;> rfl
noncomputable def zVerC (T : List (Nat × xCt)) (ht : List (Nat × xHl)) (f j : Nat) (M : xMd) (c : xCt) (cuts : List xCu) (C : xCu) : Bool := zlPos C.2.2.1.2.1 C.2.2.2 && zFrom T ht f c.2.2 j M c cuts (some C.2.2.2) C.1 C.2.2.1 (C.2.1.zip C.2.2.1.2.2.2.1)
theorem zVerC_eq : @zVerC = @xVerC := by
  delta zVerC xVerC
  simp only [zlPos_eq, zFrom_eq] <;> rfl
noncomputable def zRegL (σ : List xB) (k n : Nat) : List (List xB) := match zReg σ (some k, 0) n with
  | some L => L
  | none => []
theorem zRegL_eq : @zRegL = @xRegL := by
  delta zRegL xRegL
  simp only [zReg_eq] <;> rfl
noncomputable def zQuick (n0 : Nat) (σ : List xB) (F : xF) (E : xPt) : Bool := (zall (fun f => (zany (fun q => Nat.ble n0 q.1) f.1) || zent σ F 12 f) E.2.2.1)
theorem zQuick_eq : @zQuick = @xQuick := by
  delta zQuick xQuick
  simp only [zany_eq, zall_eq, zent_eq] <;> rfl
noncomputable def zChkQ (xn n0 nc nx : Nat) (rt : Option FieldType) (E : List xPt) (cuts : List xCu) (ms : Option xLn) (o : xO2) : Bool :=
  bif Nat.ble 110 o.1.2.2.1 then zRet rt (o.1, o.2.1) && (zany (fun e => zQuick n0 o.2.1.2.1 o.2.2 e && (zFitI xn n0 nc nx o.2.1.1 o.2.1.2.1 o.2.2 o.2.1.2.2.2.1 e).isSome) E)
  else zChkO xn n0 nc nx rt E cuts ms o
theorem zChkQ_eq : @zChkQ = @xChkQ := by
  delta zChkQ xChkQ
  simp only [zany_eq, zRet_eq, zFitI_eq, zChkO_eq, zQuick_eq] <;> rfl
noncomputable def zFromQ (T : List (Nat × xCt)) (ht : List (Nat × xHl)) (f d j : Nat) (M : xMd) (c : xCt) (cuts : List xCu) (ms : Option xLn) (pc : Nat) (P : xPt) (loc : List (Nat × xV)) : Bool := match zRun2 xMt xTb T ht (20 + c.1.2.2.2.2) f 0 d none (cuts.map Prod.fst) M (zHof ht j) pc (zSeek M.pg pc) P.1 P.2.1 P.2.2.1 loc [] 0 0 with
  | none => false
  | some outs => (zall (zChkQ (20 + c.1.2.2.2.2) (zlen c.1.2.1) (zlen c.1.1) c.1.2.2.2.2 M.rt c.2.1 cuts ms) outs)
theorem zFromQ_eq : @zFromQ = @xFromQ := by
  delta zFromQ xFromQ
  simp only [zlen_eq, zall_eq, zSeek_eq, zHof_eq, zRun2_eq, zChkQ_eq] <;> rfl
noncomputable def zVerR (T : List (Nat × xCt)) (ht : List (Nat × xHl)) (f j : Nat) (M : xMd) (c : xCt) (cuts : List xCu) (τ : List xB) : Bool := zFromQ T ht f c.2.2 j M c cuts none 0 (c.1.1, τ, c.1.2.2) (xArgs 0 c.1.2.2.2.1)
theorem zVerR_eq : @zVerR = @xVerR := by
  delta zVerR xVerR
  simp only [zFromQ_eq] <;> rfl
