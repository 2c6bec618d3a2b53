/-! The rows that the programs leave out. -/
theorem xKeepW {D : va_G} {A : Nat → Prop} {s : State} {H H1 : Heap} {locs locs1 : List Loc} {ρ : List Int} {ad ex : List Nat} {h : List xC} (hw : xWd D A s H locs ρ ad ex h) (hk : ∀ q : Nat, q < H.size → H1[q]? = H[q]?) (hS : va_S A s.heap H1 locs1) : xWd D A s H1 locs1 ρ ad ex h := by
  obtain ⟨ws, tys, hK, hP, hD, hS0, hh⟩ := hw
  exact ⟨ws, tys, hK, fun k q hq => (hP k q hq).kept (hk q.1 (hP k q hq).lt), hD, hS, hh⟩
theorem xex_at {ex : List Nat} (h : 20 ≤ ex.length) {k : Nat} (hk : k < 20) : ex[k]? = some (xexa ex k) := by
  unfold xexa
  rw [List.getElem?_eq_getElem (by omega)]
  rfl
theorem xSp20 {l : Launch} {M : xMd} {q : Nat × (Nat × Nat)} {idx : Nat} {tx : String} (hk : q.2.1 = 20) (hcls : M.yy.cls = "StarchGarrison$Reader") (hs : xStrs[q.2.2]? = some (idx, tx)) (hd : decode M.cc q.1 = .ok (.ldc idx, 2)) : xSpLaw l M q := by
  intro p e R s m args below meth c H locs Q ls st ρ ad ex D A d nc ns len σ σ' stk stk' h loc hv C hgl hRf hRl hc1 hc2 hS hL hst hw k
  obtain ⟨hx, hb, hml, hown, hg, hn⟩ := id C
  rw [hk] at hv
  unfold xSpec at hv
  obtain ⟨e1, hv⟩ := x_bif hv
  have e1 := x_blt e1
  cases hv
  rw [hcls] at hown
  exact va_ldcS hx hb hown (hgl.2.2.2.2.1 _ _ hs) hd (k ρ H locs _ (xX.rf ρ) hS ⟨⟨_, xex_at hgl.1 (by omega), rfl⟩, hst⟩ hw)
theorem xSp21 {l : Launch} {M : xMd} {q : Nat × (Nat × Nat)} (hk : q.2.1 = 21) (hcls : M.yy.cls = "StarchGarrison$Reader") (hd : (q.2.2 = 0 ∧ decode M.cc q.1 = .ok (.getstatic 112, 3)) ∨ (q.2.2 = 1 ∧ decode M.cc q.1 = .ok (.getstatic 115, 3))) : xSpLaw l M q := by
  intro p e R s m args below meth c H locs Q ls st ρ ad ex D A d nc ns len σ σ' stk stk' h loc hv C hgl hRf hRl hc1 hc2 hS hL hst hw k
  obtain ⟨hx, hb, hml, hown, hg, hn⟩ := id C
  obtain ⟨ws, tys, hK, hP, hD, hSS, hh⟩ := id hw
  rw [hk] at hv
  unfold xSpec at hv
  obtain ⟨e1, hv⟩ := x_bif hv
  cases hv
  rw [hcls] at hown
  rcases hd with ⟨e0, hd⟩ | ⟨e0, hd⟩
  · rw [e0] at k
    exact va_getsN hx hb hgl.2.1.1 hSS hown (va_Nw.use rfl (hn _ xj_s0 rfl)) (fun _ q => q) hd (k ρ H locs _ (xX.rf ρ) hS ⟨⟨_, xex_at hgl.1 (by omega), rfl⟩, hst⟩ hw)
  · rw [e0] at k
    exact va_getsN hx hb hgl.2.2.1.1 hSS hown (va_Nw.use rfl (hn _ xj_s1 rfl)) (fun _ q => q) hd (k ρ H locs _ (xX.rf ρ) hS ⟨⟨_, xex_at hgl.1 (by omega), rfl⟩, hst⟩ hw)
theorem x_slen : ∀ k n, xslen[k]? = some n → xslen.getD k 0 = n ∧ n < 1000 ∧ k < 17 := by
  intro k n h
  have hk : k < 17 := (List.getElem?_eq_some_iff.mp h).1
  have e : xslen.getD k 0 = n := by rw [List.getD_eq_getElem?_getD, h]; rfl
  refine ⟨e, ?_, hk⟩
  have : ∀ k, k < 17 → xslen.getD k 0 < 1000 := by decide
  rw [← e]
  exact this k hk
theorem xSpec22 (d arg : Nat) (σ : List xB) (stk : List xV) : xSpec d 22 arg σ stk = (match stk with
    | .inr (.inr (.inr (k + 1))) :: t => bif Nat.blt 5 d && Nat.ble (xsum t) 8 then (match xslen[k]? with
      | some n => some (3, σ, .inl (none, Int.ofNat n) :: t)
      | none => none) else none
    | _ => none) := rfl
theorem xSpec23 (d arg : Nat) (σ : List xB) (stk : List xV) : xSpec d 23 arg σ stk = (match stk with
    | .inl i :: .inr (.inr (.inr (k + 1))) :: t => bif Nat.blt 5 d && Nat.ble (xsum t) 8 then (match xslen[k]?, xrg σ i with
      | some n, some r => bif xle 0 r.1 && xle r.2 (Int.ofNat n - 1) then some (3, (xmk σ 0 65535).2, .inl (xmk σ 0 65535).1 :: t) else none
      | _, _ => none) else none
    | _ => none) := rfl
theorem xSp22 {l : Launch} {M : xMd} {q : Nat × (Nat × Nat)} (hk : q.2.1 = 22) (hcls : M.yy.cls = "StarchGarrison$Reader") (hd : decode M.cc q.1 = .ok (.invokevirtual 179, 3)) : xSpLaw l M q := by
  intro p e R s m args below meth c H locs Q ls st ρ ad ex D A d nc ns len σ σ' stk stk' h loc hv C hgl hRf hRl hc1 hc2 hS hL hst hw k
  obtain ⟨hx, hb, hml, hown, hg, hn⟩ := id C
  obtain ⟨ws, tys, hK, hP, hD, hSS, hh⟩ := id hw
  rw [hk, xSpec22] at hv
  split at hv
  · rename_i k0 t
    obtain ⟨e1, hv⟩ := x_bifO hv
    rw [Bool.and_eq_true] at e1
    have e2 := x_blt e1.1
    have e3 := Nat.le_of_ble_eq_true e1.2
    split at hv
    · rename_i n hn0
      cases hv
      obtain ⟨n1, n2, n3⟩ := x_slen k0 n hn0
      rw [hcls] at hown
      obtain ⟨w1, t1, rfl, ⟨b, hb2, rfl⟩, q2⟩ := hst.cons
      have hb3 : xexa ex (k0 + 1) = b := xexa_at hb2
      subst hb3
      obtain ⟨-, -, -, ⟨adV, hs⟩, -, -, -⟩ := id hgl
      refine xJcallV (A := A) (As := []) (rest := t1) (d' := d - 1) (nl := 1) (b := xexa ex (k0 + 1)) hx hb (by rw [hml, hL.size]) hown hg xj_len_c xj_len_n xj_len_i xj_len_v xj_l1 (na := 0) (by decide) (xJ_len l (d - 1) (by omega) (A := A) (ex := ex) n3 n1) xGloBlind (vk_recv (adK := fun i => xexa ex (i + 1)) (i := k0) hs n3 hSS) (xGloIn hgl hSS) (H0 := s.heap) hSS (by omega) (by omega) (by decide) (by rw [xsum_ok q2]; exact e3) rfl hc1 hc2 hd (fun v t2 H1 locs1 ht hv hk1 hS1 => ?_)
      subst hv
      exact k ρ H1 locs1 _ (xX.rf ρ) hS ⟨⟨_, rfl, by rw [x_nat32 (by omega)]; rfl⟩, q2⟩ (xKeepW hw hk1 hS1)
    · cases hv
  · cases hv
theorem xSp23 {l : Launch} {M : xMd} {q : Nat × (Nat × Nat)} (hk : q.2.1 = 23) (hcls : M.yy.cls = "StarchGarrison$Reader") (hd : decode M.cc q.1 = .ok (.invokevirtual 184, 3)) : xSpLaw l M q := by
  intro p e R s m args below meth c H locs Q ls st ρ ad ex D A d nc ns len σ σ' stk stk' h loc hv C hgl hRf hRl hc1 hc2 hS hL hst hw k
  obtain ⟨hx, hb, hml, hown, hg, hn⟩ := id C
  obtain ⟨ws, tys, hK, hP, hD, hSS, hh⟩ := id hw
  rw [hk, xSpec23] at hv
  split at hv
  · rename_i i k0 t
    obtain ⟨e1, hv⟩ := x_bifO hv
    rw [Bool.and_eq_true] at e1
    have e2 := x_blt e1.1
    have e3 := Nat.le_of_ble_eq_true e1.2
    split at hv
    · rename_i n r hn0 hr
      obtain ⟨e4, hv⟩ := x_bif hv
      cases hv
      rw [Bool.and_eq_true, xle_iff, xle_iff] at e4
      obtain ⟨n1, n2, n3⟩ := x_slen k0 n hn0
      rw [hcls] at hown
      obtain ⟨w0, t0, rfl, ⟨x, rfl, q0⟩, q1⟩ := hst.cons
      obtain ⟨w1, t1, rfl, ⟨b, hb2, rfl⟩, q2⟩ := q1.cons
      have hb3 : xexa ex (k0 + 1) = b := xexa_at hb2
      subst hb3
      have hz := xrg_ok hS q0 hr
      have en : (Int.ofNat n : Int) = (n : Int) := rfl
      obtain ⟨-, -, -, ⟨adV, hs⟩, -, -, -⟩ := id hgl
      refine xJcallV (A := A) (As := [.int x]) (rest := t1) (d' := d - 1) (nl := 2) (b := xexa ex (k0 + 1)) hx hb (by rw [hml, hL.size]) hown hg xj_cha_c xj_cha_n xj_cha_i xj_cha_v xj_l2 (na := 1) (by decide) (xJ_cha l (d - 1) (by omega) (A := A) (ex := ex) n3 n1 (vp_in_iff.mpr ⟨by omega, by omega⟩) n2) xGloBlind (vk_recv (adK := fun i => xexa ex (i + 1)) (i := k0) hs n3 hSS) (xGloIn hgl hSS) (H0 := s.heap) hSS (by omega) (by omega) (by decide) (by rw [xsum_ok q2]; exact e3) rfl hc1 hc2 hd (fun v t2 H1 locs1 ht hv hk1 hS1 => ?_)
      obtain ⟨z, rfl, z1, z2⟩ := hv
      obtain ⟨ρ', g1, g2, g3⟩ := xmk_ok hS z1 z2
      exact k ρ' H1 locs1 _ g1 g2 ⟨⟨_, rfl, g3⟩, q2.mono (xv.mono g1 (xX.rf ad))⟩ (xKeepW hw hk1 hS1)
    · cases hv
  · cases hv
