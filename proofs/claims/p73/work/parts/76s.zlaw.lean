/-! Quicker copies: the law. -/
noncomputable def zlwChk (Ps : List xPt) (c0 n0 : Nat) (ms : Option xLn) (o : xO2) : Bool := bif Nat.ble 110 o.1.2.2.1 then xp_ok (o.1, o.2.1) else Nat.beq o.1.1 18 && (match o.2.1.2.2.2.1 with
  | [] => Nat.beq o.2.1.2.2.2.2.1 c0 && (Nat.beq o.2.1.2.2.2.2.2 n0 && (match zlocs o.2.1.2.2.1 [0, 1, 2, 3] with
    | none => false
    | some vs => (zany (fun P => match zPFL o.2.1.1 o.2.1.2.1 o.2.2 vs P with
      | none => false
      | some r => (match ms with
        | none => true
        | some m0 => (match zlT r.1 m0 with
          | none => false
          | some g => zent o.2.1.2.1 o.2.2 12 (zlA (-1) (m0.1, m0.2 - 1) g)))) Ps)))
  | _ => false)
theorem zlwChk_eq : @zlwChk = @lwChk := by
  delta zlwChk lwChk
  simp only [zany_eq, zlA_eq, zent_eq, zlT_eq, zPFL_eq, zlocs_eq] <;> rfl
section LQ
variable (T : List (Nat × xCt)) (ht : List (Nat × xHl)) (hl : xHl) (Qs : List xPt) (ki c0 n0 d : Nat) (P : xPt)
noncomputable def zlqR1 : Option (List xO2) := zRun2 xMt xTb T ht 20 100000 0 d (some (lwSk (zlen P.2.1) ki)) [33] xm_law2 hl 18 (zSeek xm_law2.pg 18) P.1 (zapp P.2.1 lwB) P.2.2.1 (([0, 1, 2, 3] : List Nat).zip P.2.2.2.1) [] c0 n0
theorem zlqR1_eq : @zlqR1 = @lqR1 := by
  delta zlqR1 lqR1
  simp only [zlen_eq, zapp_eq, zSeek_eq, zRun2_eq] <;> rfl
noncomputable def zlqOb : xO2 := match zlqR1 T ht hl ki c0 n0 d P with
  | some [_, b] => b
  | _ => lqNo
theorem zlqOb_eq : @zlqOb = @lqOb := by
  delta zlqOb lqOb
  simp only [zlqR1_eq] <;> rfl
noncomputable def zlqSw : Option (List (Nat × List xB) × List xV) := zFB xTb [] (zlqOb T ht hl ki c0 n0 d P).1 (zlqOb T ht hl ki c0 n0 d P).2.1.2.1 (zlqOb T ht hl ki c0 n0 d P).2.1.2.2.2.1
theorem zlqSw_eq : @zlqSw = @lqSw := by
  delta zlqSw lqSw
  simp only [zFB_eq, zlqOb_eq] <;> rfl
noncomputable def zlqEnd (r : Option (List xO2)) : Bool := match r with
  | some outs => (zall (zlwChk Qs c0 n0 (some ([(ki, -1)], 3072))) outs)
  | none => false
theorem zlqEnd_eq : @zlqEnd = @lqEnd := by
  delta zlqEnd lqEnd
  simp only [zall_eq, zlwChk_eq] <;> rfl
noncomputable def zlqRun (o : xO2) (t : List xV) (r : Nat × List xB) : Option (List xO2) := zRun2 xMt xTb T ht 20 100000 1 d (some (lwSk (zlen P.2.1) ki)) [18] xm_law2 hl r.1 (zSeek xm_law2.pg r.1) o.2.1.1 r.2 o.2.2 o.2.1.2.2.1 t o.2.1.2.2.2.2.1 o.2.1.2.2.2.2.2
theorem zlqRun_eq : @zlqRun = @lqRun := by
  delta zlqRun lqRun
  simp only [zlen_eq, zSeek_eq, zRun2_eq] <;> rfl
noncomputable def zlqCase (k : Nat) : Bool := match zlqSw T ht hl ki c0 n0 d P with
  | some w => (match (znth w.1 (k)) with
    | some r => zlqEnd Qs ki c0 n0 (zlqRun T ht hl ki d P (zlqOb T ht hl ki c0 n0 d P) w.2 r)
    | none => false)
  | none => false
theorem zlqCase_eq : @zlqCase = @lqCase := by
  delta zlqCase lqCase
  simp only [znth_eq, zlqOb_eq, zlqSw_eq, zlqEnd_eq, zlqRun_eq] <;> rfl
noncomputable def zlqH1 : Bool := match zlqR1 T ht hl ki c0 n0 d P with
  | some [a, b] => zlwChk Qs c0 n0 (some ([(ki, -1)], 3072)) a && Nat.ble 80 b.1.2.2.1
  | _ => false
theorem zlqH1_eq : @zlqH1 = @lqH1 := by
  delta zlqH1 lqH1
  simp only [zlwChk_eq, zlqR1_eq] <;> rfl
noncomputable def zlqH2 (n : Nat) : Bool := match zlqSw T ht hl ki c0 n0 d P with
  | some w => Nat.beq (zlen w.1) n
  | none => false
theorem zlqH2_eq : @zlqH2 = @lqH2 := by
  delta zlqH2 lqH2
  simp only [zlen_eq, zlqSw_eq] <;> rfl
end LQ
noncomputable def zlgTie (θ : List xI) (S : List Nat) : Bool := (zall (fun k => match (znth θ (k)) with
  | some (some j, .ofNat 0) => Nat.beq j k
  | _ => false) S)
theorem zlgTie_eq : @zlgTie = @lgTie := by
  delta zlgTie lgTie
  simp only [znth_eq, zall_eq] <;> rfl
noncomputable def zlgOpt (σ : List xB) (F : xF) (θ : List xI) (V : lgV) : Bool := (zall (fun q => match (znth θ (q.1)) with
  | some a => (match zrg σ a with
    | some r => zle q.2.1 r.1 && zle r.2 q.2.2
    | none => false)
  | none => false) V.1) && zFin σ F θ V.2
theorem zlgOpt_eq : @zlgOpt = @lgOpt := by
  delta zlgOpt lgOpt
  simp only [znth_eq, zall_eq, zle_eq, zrg_eq, zFin_eq] <;> rfl
noncomputable def zlgGrp (tie : Bool) (σ : List xB) (F : xF) (θ : List xI) (g : lgG) : Bool := (tie && zlgTie θ g.1) || (zlgOpt σ F θ g.2.1 || zlgOpt σ F θ g.2.2)
theorem zlgGrp_eq : @zlgGrp = @lgGrp := by
  delta zlgGrp lgGrp
  simp only [zlgTie_eq, zlgOpt_eq] <;> rfl
noncomputable def zlgChk (G : xPt) (gs : List lgG) (tie : Bool) (c0 n0 : Nat) (ms : Option xLn) (o : xO2) : Bool := bif Nat.ble 110 o.1.2.2.1 then xp_ok (o.1, o.2.1) else Nat.beq o.1.1 18 && (match o.2.1.2.2.2.1 with
  | [] => Nat.beq o.2.1.2.2.2.2.1 c0 && (Nat.beq o.2.1.2.2.2.2.2 n0 && (match zlocs o.2.1.2.2.1 [0, 1, 2, 3] with
    | none => false
    | some vs => (match zPFL o.2.1.1 o.2.1.2.1 o.2.2 vs G with
      | none => false
      | some r => (zall (zlgGrp tie o.2.1.2.1 o.2.2 r.1) gs) && (match ms with
        | none => true
        | some m0 => (match zlT r.1 m0 with
          | none => false
          | some g => zent o.2.1.2.1 o.2.2 12 (zlA (-1) (m0.1, m0.2 - 1) g))))))
  | _ => false)
theorem zlgChk_eq : @zlgChk = @lgChk := by
  delta zlgChk lgChk
  simp only [zall_eq, zlA_eq, zent_eq, zlT_eq, zPFL_eq, zlocs_eq, zlgGrp_eq] <;> rfl
section LG
variable (T : List (Nat × xCt)) (ht : List (Nat × xHl)) (hl : xHl) (G : xPt) (gs : List lgG) (ki c0 n0 d : Nat)
noncomputable def zlgS0 (k : Nat) : List xB × xF := match zlqSw T ht hl ki c0 n0 d G with
  | some w => (match (znth w.1 (k)) with
    | some r => (r.2, (zlqOb T ht hl ki c0 n0 d G).2.2)
    | none => ([], []))
  | none => ([], [])
theorem zlgS0_eq : @zlgS0 = @lgS0 := by
  delta zlgS0 lgS0
  simp only [znth_eq, zlqOb_eq, zlqSw_eq] <;> rfl
noncomputable def zlgOuts (k : Nat) (s : List xB × xF) : Option (List xO2) := match zlqSw T ht hl ki c0 n0 d G with
  | some w => (match (znth w.1 (k)) with
    | some r => (match zTight s.2 s.1 with
      | none => some []
      | some τ => zRun2 xMt xTb T ht 20 100000 1 d (some (lwSk (zlen G.2.1) ki)) [18] xm_law2 hl r.1 (zSeek xm_law2.pg r.1) (zlqOb T ht hl ki c0 n0 d G).2.1.1 τ s.2 (zlqOb T ht hl ki c0 n0 d G).2.1.2.2.1 w.2 (zlqOb T ht hl ki c0 n0 d G).2.1.2.2.2.2.1 (zlqOb T ht hl ki c0 n0 d G).2.1.2.2.2.2.2)
    | none => none)
  | none => none
theorem zlgOuts_eq : @zlgOuts = @lgOuts := by
  delta zlgOuts lgOuts
  simp only [znth_eq, zlen_eq, zTight_eq, zSeek_eq, zRun2_eq, zlqOb_eq, zlqSw_eq] <;> rfl
noncomputable def zlgC (o : xO2) : Bool := zlgChk G gs true c0 n0 (some ([(ki, -1)], 3072)) o
theorem zlgC_eq : @zlgC = @lgC := by
  delta zlgC lgC
  simp only [zlgChk_eq] <;> rfl
noncomputable def zlgLeaf (k : Nat) (s : List xB × xF) : Bool := match zlgOuts T ht hl G ki c0 n0 d k s with
  | some outs => (zall (zlgC G gs ki c0 n0) outs)
  | none => false
theorem zlgLeaf_eq : @zlgLeaf = @lgLeaf := by
  delta zlgLeaf lgLeaf
  simp only [zall_eq, zlgOuts_eq, zlgC_eq] <;> rfl
noncomputable def zlgPart (k : Nat) (s : List xB × xF) (a n : Nat) : Bool := match zlgOuts T ht hl G ki c0 n0 d k s with
  | some outs => ((outs.drop a).take n).all (zlgC G gs ki c0 n0)
  | none => false
theorem zlgPart_eq : @zlgPart = @lgPart := by
  delta zlgPart lgPart
  simp only [zlgOuts_eq, zlgC_eq] <;> rfl
noncomputable def zlgLast (k : Nat) (s : List xB × xF) (a : Nat) : Bool := match zlgOuts T ht hl G ki c0 n0 d k s with
  | some outs => Nat.ble (zlen outs) a
  | none => false
theorem zlgLast_eq : @zlgLast = @lgLast := by
  delta zlgLast lgLast
  simp only [zlen_eq, zlgOuts_eq] <;> rfl
noncomputable def zlgH1 : Bool := match zlqR1 T ht hl ki c0 n0 d G with
  | some [a, b] => zlgC G gs ki c0 n0 a && Nat.ble 80 b.1.2.2.1
  | _ => false
theorem zlgH1_eq : @zlgH1 = @lgH1 := by
  delta zlgH1 lgH1
  simp only [zlqR1_eq, zlgC_eq] <;> rfl
end LG
