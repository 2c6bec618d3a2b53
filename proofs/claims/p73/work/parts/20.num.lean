/-! The executor's arithmetic, and that it holds what the machine makes. -/
theorem x_b32 (x : Int32) : -2147483648 ≤ x.toInt ∧ x.toInt ≤ 2147483647 := by
  have h1 := x.le_toInt
  have h2 := x.toInt_lt
  constructor <;> omega
theorem x_b64 (x : Int64) : -9223372036854775808 ≤ x.toInt ∧ x.toInt ≤ 9223372036854775807 := by
  have h1 := x.le_toInt
  have h2 := x.toInt_lt
  constructor <;> omega
theorem x_of32 {z : Int} (h1 : -2147483648 ≤ z) (h2 : z ≤ 2147483647) : (Int32.ofInt z).toInt = z := Int32.toInt_ofInt_of_le (by omega) (by omega)
theorem x_of64 {z : Int} (h1 : -9223372036854775808 ≤ z) (h2 : z ≤ 9223372036854775807) : (Int64.ofInt z).toInt = z := Int64.toInt_ofInt_of_le (by omega) (by omega)
theorem x_add32 {x y : Int32} (h1 : -2147483648 ≤ x.toInt + y.toInt) (h2 : x.toInt + y.toInt ≤ 2147483647) : (x + y).toInt = x.toInt + y.toInt := by
  have h : x + y = Int32.ofInt (x.toInt + y.toInt) := by simp
  rw [h, x_of32 h1 h2]
theorem x_sub32 {x y : Int32} (h1 : -2147483648 ≤ x.toInt - y.toInt) (h2 : x.toInt - y.toInt ≤ 2147483647) : (x - y).toInt = x.toInt - y.toInt := by
  have h : x - y = Int32.ofInt (x.toInt - y.toInt) := by simp
  rw [h, x_of32 h1 h2]
theorem x_mul32 {x y : Int32} (h1 : -2147483648 ≤ x.toInt * y.toInt) (h2 : x.toInt * y.toInt ≤ 2147483647) : (x * y).toInt = x.toInt * y.toInt := by
  have h : x * y = Int32.ofInt (x.toInt * y.toInt) := by simp
  rw [h, x_of32 h1 h2]
theorem x_add64 {x y : Int64} (h1 : -9223372036854775808 ≤ x.toInt + y.toInt) (h2 : x.toInt + y.toInt ≤ 9223372036854775807) : (x + y).toInt = x.toInt + y.toInt := by
  have h : x + y = Int64.ofInt (x.toInt + y.toInt) := by simp
  rw [h, x_of64 h1 h2]
theorem x_sub64 {x y : Int64} (h1 : -9223372036854775808 ≤ x.toInt - y.toInt) (h2 : x.toInt - y.toInt ≤ 9223372036854775807) : (x - y).toInt = x.toInt - y.toInt := by
  have h : x - y = Int64.ofInt (x.toInt - y.toInt) := by simp
  rw [h, x_of64 h1 h2]
theorem x_mul64 {x y : Int64} (h1 : -9223372036854775808 ≤ x.toInt * y.toInt) (h2 : x.toInt * y.toInt ≤ 9223372036854775807) : (x * y).toInt = x.toInt * y.toInt := by
  have h : x * y = Int64.ofInt (x.toInt * y.toInt) := by simp
  rw [h, x_of64 h1 h2]
theorem x_bvand {n : Nat} {x y : BitVec n} (h : 0 ≤ y.toInt) : 0 ≤ (x &&& y).toInt ∧ (x &&& y).toInt ≤ y.toInt := by
  have hm : y.msb = false := by
    cases hq : y.msb with
    | false => rfl
    | true =>
      have := BitVec.toInt_neg_of_msb_true hq
      omega
  have hm2 : (x &&& y).msb = false := by rw [BitVec.msb_and, hm, Bool.and_false]
  rw [BitVec.toInt_eq_toNat_of_msb hm, BitVec.toInt_eq_toNat_of_msb hm2, BitVec.toNat_and]
  have := Nat.and_le_right (n := x.toNat) (m := y.toNat)
  omega
theorem x_and32 {x y : Int32} (h : 0 ≤ y.toInt) : 0 ≤ (x &&& y).toInt ∧ (x &&& y).toInt ≤ y.toInt := by
  show 0 ≤ (x &&& y).toBitVec.toInt ∧ (x &&& y).toBitVec.toInt ≤ y.toBitVec.toInt
  rw [Int32.toBitVec_and]
  exact x_bvand h
theorem x_and64 {x y : Int64} (h : 0 ≤ y.toInt) : 0 ≤ (x &&& y).toInt ∧ (x &&& y).toInt ≤ y.toInt := by
  show 0 ≤ (x &&& y).toBitVec.toInt ∧ (x &&& y).toBitVec.toInt ≤ y.toBitVec.toInt
  rw [Int64.toBitVec_and]
  exact x_bvand h
theorem x_and32c (x y : Int32) : x &&& y = y &&& x := Int32.and_comm x y
theorem x_and64c (x y : Int64) : x &&& y = y &&& x := Int64.and_comm x y
theorem x_shri (z : Int) (n : Nat) : (0 ≤ z → 0 ≤ z >>> n ∧ z >>> n ≤ z) ∧ (z ≤ 0 → z ≤ z >>> n ∧ z >>> n ≤ 0) := by
  rw [Int.shiftRight_eq_div_pow]
  have hp : (0 : Int) < ((2 ^ n : Nat) : Int) := by
    have := Nat.two_pow_pos n
    omega
  constructor
  · intro h
    refine ⟨Int.ediv_nonneg h (by omega), Int.ediv_le_self _ h⟩
  · intro h
    constructor
    · have h1 : z * 1 ≥ z * ((2 ^ n : Nat) : Int) := Int.mul_le_mul_of_nonpos_left h (by omega)
      rw [Int.le_ediv_iff_mul_le hp]
      omega
    · exact Int.ediv_nonpos_of_nonpos_of_neg h (by omega)
theorem x_shr32 (x y : Int32) : (0 ≤ x.toInt → 0 ≤ (x >>> y).toInt ∧ (x >>> y).toInt ≤ x.toInt) ∧ (x.toInt ≤ 0 → x.toInt ≤ (x >>> y).toInt ∧ (x >>> y).toInt ≤ 0) := by
  have h : (x >>> y).toInt = x.toInt >>> (y.toBitVec.smod 32).toNat := by
    show (x >>> y).toBitVec.toInt = _
    rw [Int32.toBitVec_shiftRight, BitVec.sshiftRight', BitVec.toInt_sshiftRight]
    rfl
  rw [h]
  exact x_shri _ _
theorem x_shr64 (x y : Int64) : (0 ≤ x.toInt → 0 ≤ (x >>> y).toInt ∧ (x >>> y).toInt ≤ x.toInt) ∧ (x.toInt ≤ 0 → x.toInt ≤ (x >>> y).toInt ∧ (x >>> y).toInt ≤ 0) := by
  have h : (x >>> y).toInt = x.toInt >>> (y.toBitVec.smod 64).toNat := by
    show (x >>> y).toBitVec.toInt = _
    rw [Int64.toBitVec_shiftRight, BitVec.sshiftRight', BitVec.toInt_sshiftRight]
    rfl
  rw [h]
  exact x_shri _ _
/-- division by what is above 0 -/
theorem x_tdiv {a b : Int} (hb : 0 < b) : (0 ≤ a → 0 ≤ a.tdiv b ∧ a.tdiv b ≤ a) ∧ (a ≤ 0 → a ≤ a.tdiv b ∧ a.tdiv b ≤ 0) := by
  have key : ∀ c : Int, 0 ≤ c → 0 ≤ c.tdiv b ∧ c.tdiv b ≤ c := by
    intro c hc
    rw [Int.tdiv_eq_ediv_of_nonneg hc]
    exact ⟨Int.ediv_nonneg hc (by omega), Int.ediv_le_self _ hc⟩
  refine ⟨key a, fun ha => ?_⟩
  have := key (-a) (by omega)
  rw [Int.neg_tdiv] at this
  omega
theorem x_div32 {x y : Int32} (hy : 0 < y.toInt) : (x / y).toInt = x.toInt.tdiv y.toInt := Int32.toInt_div_of_ne_right x y (fun h => by rw [h] at hy; exact absurd hy (by decide))
theorem x_div64 {x y : Int64} (hy : 0 < y.toInt) : (x / y).toInt = x.toInt.tdiv y.toInt := Int64.toInt_div_of_ne_right x y (fun h => by rw [h] at hy; exact absurd hy (by decide))
theorem x_tm {a b : Int} (hb : 0 < b) : (0 ≤ a → 0 ≤ a.tmod b ∧ a.tmod b ≤ a ∧ a.tmod b < b) ∧ (-b < a.tmod b ∧ a.tmod b < b) := by
  refine ⟨fun ha => ?_, tmod_bounds hb⟩
  rw [Int.tmod_eq_emod_of_nonneg ha]
  have h1 := Int.mul_ediv_add_emod a b
  have h2 : 0 ≤ b * (a / b) := Int.mul_nonneg (by omega) (Int.ediv_nonneg ha (by omega))
  exact ⟨Int.emod_nonneg a (by omega), by omega, Int.emod_lt_of_pos a hb⟩
theorem x_rem32 {x y : Int32} (hy : 0 < y.toInt) : (x - x / y * y).toInt = x.toInt.tmod y.toInt := by
  have hx := x_b32 x
  have hyb := x_b32 y
  have hd := x_div32 (x := x) hy
  have hm := Int.mul_tdiv_add_tmod x.toInt y.toInt
  have hb := x_tm (a := x.toInt) hy
  have hq := x_tdiv (a := x.toInt) hy
  have e1 : x - x / y * y = Int32.ofInt (x.toInt - x.toInt.tdiv y.toInt * y.toInt) := by
    rw [Int32.ofInt_sub, Int32.ofInt_mul, ← hd, Int32.ofInt_toInt, Int32.ofInt_toInt, Int32.ofInt_toInt]
  have e2 : x.toInt - x.toInt.tdiv y.toInt * y.toInt = x.toInt.tmod y.toInt := by
    rw [Int.mul_comm]
    omega
  rw [e1, e2]
  exact x_of32 (by omega) (by omega)
theorem x_rem64 {x y : Int64} (hy : 0 < y.toInt) : (x - x / y * y).toInt = x.toInt.tmod y.toInt := by
  have hx := x_b64 x
  have hyb := x_b64 y
  have hd := x_div64 (x := x) hy
  have hm := Int.mul_tdiv_add_tmod x.toInt y.toInt
  have hb := x_tm (a := x.toInt) hy
  have e1 : x - x / y * y = Int64.ofInt (x.toInt - x.toInt.tdiv y.toInt * y.toInt) := by
    rw [Int64.ofInt_sub, Int64.ofInt_mul, ← hd, Int64.ofInt_toInt, Int64.ofInt_toInt, Int64.ofInt_toInt]
  have e2 : x.toInt - x.toInt.tdiv y.toInt * y.toInt = x.toInt.tmod y.toInt := by
    rw [Int.mul_comm]
    omega
  rw [e1, e2]
  exact x_of64 (by omega) (by omega)
/-- a product between bounds -/
theorem x_mul1 {z a b c : Int} (h1 : a ≤ z) (h2 : z ≤ b) : (a * c ≤ z * c ∧ z * c ≤ b * c) ∨ (b * c ≤ z * c ∧ z * c ≤ a * c) := by
  rcases Int.le_total 0 c with h | h
  · exact Or.inl ⟨Int.mul_le_mul_of_nonneg_right h1 h, Int.mul_le_mul_of_nonneg_right h2 h⟩
  · exact Or.inr ⟨Int.mul_le_mul_of_nonpos_right h2 h, Int.mul_le_mul_of_nonpos_right h1 h⟩
def xmulB (L H : Int) (r q : xB) : xB :=
  let lo := xmin (xmin (r.1 * q.1) (r.1 * q.2)) (xmin (r.2 * q.1) (r.2 * q.2))
  let hi := xmax (xmax (r.1 * q.1) (r.1 * q.2)) (xmax (r.2 * q.1) (r.2 * q.2))
  bif xle L lo && xle hi H then (lo, hi) else (L, H)
theorem xmulB_ok {L H z1 z2 w : Int} {r q : xB} (h1 : r.1 ≤ z1 ∧ z1 ≤ r.2) (h2 : q.1 ≤ z2 ∧ z2 ≤ q.2) (hw : L ≤ w ∧ w ≤ H) (he : L ≤ z1 * z2 → z1 * z2 ≤ H → w = z1 * z2) : (xmulB L H r q).1 ≤ w ∧ w ≤ (xmulB L H r q).2 := by
  unfold xmulB
  have a1 := xmin_l (xmin (r.1 * q.1) (r.1 * q.2)) (xmin (r.2 * q.1) (r.2 * q.2))
  have a2 := xmin_r (xmin (r.1 * q.1) (r.1 * q.2)) (xmin (r.2 * q.1) (r.2 * q.2))
  have a3 := xmin_l (r.1 * q.1) (r.1 * q.2)
  have a4 := xmin_r (r.1 * q.1) (r.1 * q.2)
  have a5 := xmin_l (r.2 * q.1) (r.2 * q.2)
  have a6 := xmin_r (r.2 * q.1) (r.2 * q.2)
  have b1 := xmax_l (xmax (r.1 * q.1) (r.1 * q.2)) (xmax (r.2 * q.1) (r.2 * q.2))
  have b2 := xmax_r (xmax (r.1 * q.1) (r.1 * q.2)) (xmax (r.2 * q.1) (r.2 * q.2))
  have b3 := xmax_l (r.1 * q.1) (r.1 * q.2)
  have b4 := xmax_r (r.1 * q.1) (r.1 * q.2)
  have b5 := xmax_l (r.2 * q.1) (r.2 * q.2)
  have b6 := xmax_r (r.2 * q.1) (r.2 * q.2)
  generalize xmin (xmin (r.1 * q.1) (r.1 * q.2)) (xmin (r.2 * q.1) (r.2 * q.2)) = lo at *
  generalize xmax (xmax (r.1 * q.1) (r.1 * q.2)) (xmax (r.2 * q.1) (r.2 * q.2)) = hi at *
  generalize xmin (r.1 * q.1) (r.1 * q.2) = m1 at *
  generalize xmin (r.2 * q.1) (r.2 * q.2) = m2 at *
  generalize xmax (r.1 * q.1) (r.1 * q.2) = m3 at *
  generalize xmax (r.2 * q.1) (r.2 * q.2) = m4 at *
  dsimp only
  cases hc : (xle L lo && xle hi H)
  · exact hw
  · rw [Bool.and_eq_true, xle_iff, xle_iff] at hc
    have c1 := x_mul1 (c := z2) h1.1 h1.2
    have c2 := x_mul1 (c := r.1) h2.1 h2.2
    have c3 := x_mul1 (c := r.2) h2.1 h2.2
    rw [Int.mul_comm q.1, Int.mul_comm q.2, Int.mul_comm z2] at c2 c3
    generalize z1 * z2 = pz at *
    generalize r.1 * z2 = p1 at *
    generalize r.2 * z2 = p2 at *
    generalize r.1 * q.1 = p3 at *
    generalize r.1 * q.2 = p4 at *
    generalize r.2 * q.1 = p5 at *
    generalize r.2 * q.2 = p6 at *
    have hl : lo ≤ pz ∧ pz ≤ hi := by omega
    have := he (by omega) (by omega)
    simp only [cond_true]
    omega
def xandB (L H : Int) (r q : xB) : xB :=
  bif xle 0 r.1 then (bif xle 0 q.1 then (0, xmin r.2 q.2) else (0, r.2)) else (bif xle 0 q.1 then (0, q.2) else (L, H))
theorem xandB_ok {L H z1 z2 w : Int} {r q : xB} (h1 : r.1 ≤ z1 ∧ z1 ≤ r.2) (h2 : q.1 ≤ z2 ∧ z2 ≤ q.2) (hw : L ≤ w ∧ w ≤ H) (e1 : 0 ≤ z1 → 0 ≤ w ∧ w ≤ z1) (e2 : 0 ≤ z2 → 0 ≤ w ∧ w ≤ z2) : (xandB L H r q).1 ≤ w ∧ w ≤ (xandB L H r q).2 := by
  unfold xandB
  cases a : xle 0 r.1 <;> cases b : xle 0 q.1
  · exact hw
  · have := xle_iff.mp b
    simp only [cond_true, cond_false]
    omega
  · have := xle_iff.mp a
    simp only [cond_true, cond_false]
    omega
  · have ha := xle_iff.mp a
    have hb := xle_iff.mp b
    simp only [cond_true]
    exact ⟨by omega, xmin_le1 (by omega) (by omega)⟩
/-- nearer to 0: a shift to the right, a division by what is above 0 -/
def xnearB (r : xB) : xB := (xmin r.1 0, xmax r.2 0)
theorem xnearB_ok {z w : Int} {r : xB} (h : r.1 ≤ z ∧ z ≤ r.2) (e1 : 0 ≤ z → 0 ≤ w ∧ w ≤ z) (e2 : z ≤ 0 → z ≤ w ∧ w ≤ 0) : (xnearB r).1 ≤ w ∧ w ≤ (xnearB r).2 := by
  unfold xnearB
  have a1 := xmin_l r.1 0
  have a2 := xmin_r r.1 0
  have a3 := xmax_l r.2 0
  have a4 := xmax_r r.2 0
  dsimp only
  omega
def xremB (r q : xB) : xB := bif xle 0 r.1 then (0, xmin r.2 (q.2 - 1)) else (1 - q.2, q.2 - 1)
theorem xremB_ok {z1 z2 : Int} {r q : xB} (h1 : r.1 ≤ z1 ∧ z1 ≤ r.2) (h2 : q.1 ≤ z2 ∧ z2 ≤ q.2) (hp : 0 < z2) : (xremB r q).1 ≤ z1.tmod z2 ∧ z1.tmod z2 ≤ (xremB r q).2 := by
  have hb := x_tm (a := z1) hp
  unfold xremB
  cases a : xle 0 r.1
  · simp only [cond_false]
    omega
  · have := xle_iff.mp a
    have hq := hb.1 (by omega)
    simp only [cond_true]
    exact ⟨hq.1, xmin_le1 (by omega) (by omega)⟩
/-- what an operation answers: a number, and the bounds -/
abbrev xR : Type := Option (xI × List xB)
def xGood (ρ : List Int) (r : xI × List xB) (w : Int) : Prop := ∃ ρ', xX ρ ρ' ∧ xSt ρ' r.2 ∧ xe ρ' r.1 = some w
def xadd (L H : Int) (σ : List xB) (a b : xI) : xR := match xrg σ a with
  | none => none
  | some ra => match xrg σ b with
    | none => none
    | some rb => bif xle L (ra.1 + rb.1) && xle (ra.2 + rb.2) H then (match a.1 with
        | none => some ((b.1, b.2 + a.2), σ)
        | some _ => match b.1 with
          | none => some ((a.1, a.2 + b.2), σ)
          | some _ => some (xmk σ (ra.1 + rb.1) (ra.2 + rb.2))) else some (xmk σ L H)
theorem xe_off {ρ : List Int} {o : Option Nat} {c d z : Int} (h : xe ρ (o, c) = some z) : xe ρ (o, c + d) = some (z + d) := by
  cases o with
  | none =>
    simp only [xe, Option.some.injEq] at h ⊢
    omega
  | some k =>
    simp only [xe] at h ⊢
    cases hk : ρ[k]? with
    | none => rw [hk] at h; cases h
    | some w =>
      rw [hk] at h
      simp only [Option.some.injEq] at h ⊢
      omega
theorem xadd_ok {L H : Int} {ρ : List Int} {σ : List xB} {a b : xI} {r : xI × List xB} {z1 z2 w : Int} (hr : xadd L H σ a b = some r) (hs : xSt ρ σ) (h1 : xe ρ a = some z1) (h2 : xe ρ b = some z2) (hw : L ≤ w ∧ w ≤ H) (he : L ≤ z1 + z2 → z1 + z2 ≤ H → w = z1 + z2) : xGood ρ r w := by
  unfold xadd at hr
  cases ha : xrg σ a with
  | none => rw [ha] at hr; cases hr
  | some ra =>
    cases hb : xrg σ b with
    | none => rw [ha, hb] at hr; cases hr
    | some rb =>
      rw [ha, hb] at hr
      have q1 := xrg_ok hs h1 ha
      have q2 := xrg_ok hs h2 hb
      dsimp only at hr
      cases hc : (xle L (ra.1 + rb.1) && xle (ra.2 + rb.2) H)
      · rw [hc] at hr
        simp only [cond_false, Option.some.injEq] at hr
        subst hr
        exact xmk_ok hs hw.1 hw.2
      · rw [hc] at hr
        rw [Bool.and_eq_true, xle_iff, xle_iff] at hc
        have e := he (by omega) (by omega)
        subst e
        simp only [cond_true] at hr
        obtain ⟨oa, ca⟩ := a
        obtain ⟨ob, cb⟩ := b
        cases oa with
        | none =>
          simp only [Option.some.injEq] at hr
          subst hr
          simp only [xe, Option.some.injEq] at h1
          subst h1
          refine ⟨ρ, xX.rf ρ, hs, ?_⟩
          have := xe_off (d := ca) h2
          rw [this]
          congr 1
          omega
        | some k =>
          cases ob with
          | none =>
            simp only [Option.some.injEq] at hr
            subst hr
            simp only [xe, Option.some.injEq] at h2
            subst h2
            exact ⟨ρ, xX.rf ρ, hs, xe_off h1⟩
          | some j =>
            simp only [Option.some.injEq] at hr
            subst hr
            exact xmk_ok hs (by omega) (by omega)
def xsub (L H : Int) (σ : List xB) (a b : xI) : xR := match xrg σ a with
  | none => none
  | some ra => match xrg σ b with
    | none => none
    | some rb => bif xle L (ra.1 - rb.2) && xle (ra.2 - rb.1) H then (match b.1 with
        | none => some ((a.1, a.2 + (- b.2)), σ)
        | some _ => some (xmk σ (ra.1 - rb.2) (ra.2 - rb.1))) else some (xmk σ L H)
theorem xsub_ok {L H : Int} {ρ : List Int} {σ : List xB} {a b : xI} {r : xI × List xB} {z1 z2 w : Int} (hr : xsub L H σ a b = some r) (hs : xSt ρ σ) (h1 : xe ρ a = some z1) (h2 : xe ρ b = some z2) (hw : L ≤ w ∧ w ≤ H) (he : L ≤ z1 - z2 → z1 - z2 ≤ H → w = z1 - z2) : xGood ρ r w := by
  unfold xsub at hr
  cases ha : xrg σ a with
  | none => rw [ha] at hr; cases hr
  | some ra =>
    cases hb : xrg σ b with
    | none => rw [ha, hb] at hr; cases hr
    | some rb =>
      rw [ha, hb] at hr
      have q1 := xrg_ok hs h1 ha
      have q2 := xrg_ok hs h2 hb
      dsimp only at hr
      cases hc : (xle L (ra.1 - rb.2) && xle (ra.2 - rb.1) H)
      · rw [hc] at hr
        simp only [cond_false, Option.some.injEq] at hr
        subst hr
        exact xmk_ok hs hw.1 hw.2
      · rw [hc] at hr
        rw [Bool.and_eq_true, xle_iff, xle_iff] at hc
        have e := he (by omega) (by omega)
        subst e
        simp only [cond_true] at hr
        obtain ⟨oa, ca⟩ := a
        obtain ⟨ob, cb⟩ := b
        cases ob with
        | none =>
          simp only [Option.some.injEq] at hr
          subst hr
          simp only [xe, Option.some.injEq] at h2
          subst h2
          exact ⟨ρ, xX.rf ρ, hs, xe_off h1⟩
        | some j =>
          simp only [Option.some.injEq] at hr
          subst hr
          exact xmk_ok hs (by omega) (by omega)
/-- an operation of which only bounds are told -/
def xop2 (g : xB → xB → xB) (σ : List xB) (a b : xI) : xR := match xrg σ a with
  | none => none
  | some ra => match xrg σ b with
    | none => none
    | some rb => some (xmk σ (g ra rb).1 (g ra rb).2)
theorem xop2_ok {g : xB → xB → xB} {ρ : List Int} {σ : List xB} {a b : xI} {r : xI × List xB} {z1 z2 w : Int} (hr : xop2 g σ a b = some r) (hs : xSt ρ σ) (h1 : xe ρ a = some z1) (h2 : xe ρ b = some z2) (hw : ∀ ra rb : xB, xrg σ b = some rb → ra.1 ≤ z1 ∧ z1 ≤ ra.2 → rb.1 ≤ z2 ∧ z2 ≤ rb.2 → (g ra rb).1 ≤ w ∧ w ≤ (g ra rb).2) : xGood ρ r w := by
  unfold xop2 at hr
  cases ha : xrg σ a with
  | none => rw [ha] at hr; cases hr
  | some ra =>
    cases hb : xrg σ b with
    | none => rw [ha, hb] at hr; cases hr
    | some rb =>
      rw [ha, hb] at hr
      have q := hw ra rb hb (xrg_ok hs h1 ha) (xrg_ok hs h2 hb)
      simp only [Option.some.injEq] at hr
      subst hr
      exact xmk_ok hs q.1 q.2
/-- a cut to bounds: within them the number itself, else any between them -/
def xcut (L H : Int) (σ : List xB) (a : xI) : xR := match xrg σ a with
  | none => none
  | some ra => bif xle L ra.1 && xle ra.2 H then some (a, σ) else some (xmk σ L H)
theorem xcut_ok {L H : Int} {ρ : List Int} {σ : List xB} {a : xI} {r : xI × List xB} {z w : Int} (hr : xcut L H σ a = some r) (hs : xSt ρ σ) (h1 : xe ρ a = some z) (hw : L ≤ w ∧ w ≤ H) (he : L ≤ z → z ≤ H → w = z) : xGood ρ r w := by
  unfold xcut at hr
  cases ha : xrg σ a with
  | none => rw [ha] at hr; cases hr
  | some ra =>
    rw [ha] at hr
    have q := xrg_ok hs h1 ha
    dsimp only at hr
    cases hc : (xle L ra.1 && xle ra.2 H)
    · rw [hc] at hr
      simp only [cond_false, Option.some.injEq] at hr
      subst hr
      exact xmk_ok hs hw.1 hw.2
    · rw [hc] at hr
      rw [Bool.and_eq_true, xle_iff, xle_iff] at hc
      simp only [cond_true, Option.some.injEq] at hr
      subst hr
      exact ⟨ρ, xX.rf ρ, hs, by rw [he (by omega) (by omega)]; exact h1⟩
