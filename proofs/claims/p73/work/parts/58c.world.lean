/-! The caller's world behind a contract's call. -/
theorem xfresh_at : ∀ (k n i : Nat), i < k → (xfresh n k)[i]? = some (some (n + i), 0)
  | 0, _, i, h => absurd h (Nat.not_lt_zero i)
  | k + 1, n, 0, _ => by simp [xfresh]
  | k + 1, n, i + 1, h => by
    have := xfresh_at k (n + 1) i (by omega)
    simp only [xfresh, List.getElem?_cons_succ]
    rw [this]
    have e : n + 1 + i = n + (i + 1) := by omega
    rw [e]
theorem xfresh_len : ∀ (k n : Nat), (xfresh n k).length = k
  | 0, _ => rfl
  | k + 1, n => by simp [xfresh, xfresh_len k]
/-- the symbols behind the call -/
theorem xEnd_sym {ρ ρp ρe : List Int} {σ τ : List xB} {θ : List xI} {n0 : Nat} (hS : xSt ρ σ) (hv : xThv ρ (θ.map some) ρp) (hn : ρp.length = n0) (hX : xX ρp ρe) (hE : xSt ρe τ) : xX ρ (ρ ++ ρe.drop n0) ∧ xSt (ρ ++ ρe.drop n0) (σ ++ τ.drop n0) ∧ xThv (ρ ++ ρe.drop n0) ((θ ++ xfresh σ.length (τ.drop n0).length).map some) ρe := by
  have hlen : τ.length = ρe.length := hE.1
  have hθ : θ.length = n0 := by rw [← hn, ← hv.1]; simp
  have hge : n0 ≤ ρe.length := by
    obtain ⟨u, rfl⟩ := hX
    rw [← hn]
    simp
  refine ⟨⟨_, rfl⟩, ⟨by simp [hS.1, hlen], fun k r z hr hz => ?_⟩, ⟨?_, fun k b hk => ?_⟩⟩
  · by_cases hk : k < σ.length
    · rw [List.getElem?_append_left hk] at hr
      rw [List.getElem?_append_left (by rw [← hS.1]; exact hk)] at hz
      exact hS.2 k r z hr hz
    · rw [List.getElem?_append_right (by omega), List.getElem?_drop] at hr
      rw [List.getElem?_append_right (by rw [← hS.1]; omega), List.getElem?_drop, ← hS.1] at hz
      exact hE.2 _ r z hr hz
  · simp [xfresh_len, hθ, hlen]
    omega
  · rw [List.getElem?_map] at hk
    cases hc : (θ ++ xfresh σ.length (τ.drop n0).length)[k]? with
    | none => rw [hc] at hk; cases hk
    | some b' =>
      rw [hc] at hk
      cases hk
      by_cases hkk : k < θ.length
      · rw [List.getElem?_append_left hkk] at hc
        obtain ⟨z, h1, h2⟩ := hv.2 k b (by rw [List.getElem?_map, hc]; rfl)
        exact ⟨z, xe.mono ⟨_, rfl⟩ h1, hX.at h2⟩
      · rw [List.getElem?_append_right (by omega)] at hc
        have hlt : k - θ.length < (τ.drop n0).length := by
          have := (List.getElem?_eq_some_iff.mp hc).1
          rw [xfresh_len] at this
          exact this
        rw [xfresh_at _ _ _ hlt] at hc
        cases hc
        have hlt2 : k < ρe.length := by
          rw [List.length_drop] at hlt
          omega
        refine ⟨ρe[k], ?_, List.getElem?_eq_getElem hlt2⟩
        simp only [xe]
        rw [List.getElem?_append_right (by rw [← hS.1]; omega), List.getElem?_drop]
        have e : n0 + (σ.length + (k - θ.length) - ρ.length) = k := by rw [← hS.1]; omega
        rw [e, List.getElem?_eq_getElem hlt2]
        simp
theorem xFits.phv {ρ : List Int} {ad ex : List Nat} {tys : List (ClassId × FieldType)} {h : List xC} {ws : va_W} {vals : List Value} {θ : List xI} {φ : List Nat} {κ : List xV} {P : xPt} {ρp : List Int} {adp exp : List Nat} {wsp : va_W} (hh : xHp ρ ad ex tys h ws) (hf : xFits ρ ad ex tys ws vals θ φ κ P ρp adp exp wsp) : xPhv ad (φ.map some) adp := by
  obtain ⟨-, -, f3, -, -, f6, -, f8, -, -⟩ := hf
  have hl : wsp.length = φ.length := by rw [f6, ← f3.2.len]
  refine ⟨by rw [← f3.1]; simp [hl], fun k j hk => ?_⟩
  rw [List.getElem?_map] at hk
  cases hc : φ[k]? with
  | none => rw [hc] at hk; cases hk
  | some j' =>
    rw [hc] at hk
    cases hk
    have hlt : k < wsp.length := by rw [hl]; exact (List.getElem?_eq_some_iff.mp hc).1
    obtain ⟨j2, h1, h2⟩ := f8 k wsp[k] (List.getElem?_eq_getElem hlt)
    rw [hc] at h1
    cases h1
    refine ⟨wsp[k].1, ?_, ?_⟩
    · rw [← hh.1, List.getElem?_map, h2]
      rfl
    · rw [← f3.1, List.getElem?_map, List.getElem?_eq_getElem hlt]
      rfl
/-- THE WORLD BEHIND THE CALL -/
theorem xEnd_ok {D : va_G} {A : Nat → Prop} {ρ : List Int} {ad ex : List Nat} {tys tyse : List (ClassId × FieldType)} {h : List xC} {ws wse : va_W} {vals : List Value} {θ : List xI} {φ : List Nat} {κ : List xV} {P E : xPt} {ρp ρe : List Int} {adp exp : List Nat} {wsp : va_W} {σ : List xB} {F : xF} {H H1 : Heap} {r : List xC × (List xB × (xF × List xV))}
    (hS : xSt ρ σ) (hF : xFs ρ F) (hh : xHp ρ ad ex tys h ws) (hP : va_P D xcl ws H) (hD : va_D A ws) (hf : xFits ρ ad ex tys ws vals θ φ κ P ρp adp exp wsp) (hX : xX ρp ρe) (eS : xSt ρe E.2.1) (eF : xFs ρe E.2.2.1) (eh : xHp ρe adp exp tyse E.1 wse) (eP : va_P D xcl wse H1) (hk : ∀ q : Nat, q < H.size → ¬ va_A wsp H.size q → H1[q]? = H[q]?) (hv : xEnd h σ F P.2.1.length θ φ κ E = some r) :
    ∃ ρ' ws', xX ρ ρ' ∧ xSt ρ' r.2.1 ∧ xFs ρ' r.2.2.1 ∧ (∀ vs, xAll2 (xv ρe adp exp) E.2.2.2.1 vs → xAll2 (xv ρ' ad ex) r.2.2.2 vs) ∧ xHp ρ' ad ex (tys ++ tyse) r.1 ws' ∧ va_P D xcl ws' H1 ∧ va_D A ws' := by
  have hph := xFits.phv hh hf
  obtain ⟨f1, f2, f3, f4, f5, f6, f7, f8, f9, f10⟩ := id hf
  obtain ⟨s1, s2, s3⟩ := xEnd_sym hS f5 f1.1.symm hX eS
  simp only [xEnd] at hv
  split at hv
  · cases hv
  · rename_i h' hb
    split at hv
    · cases hv
    · rename_i G hG
      split at hv
      · cases hv
      · rename_i vs hvs
        cases hv
        have hl : wsp.length = φ.length := by rw [f6, ← f3.2.len]
        have hle : wse.length = φ.length := by
          have e1 : wse.length = adp.length := by rw [← eh.1]; simp
          have e2 : wsp.length = adp.length := by rw [← f3.1]; simp
          omega
        have hj : xAll2 (fun (j : Nat) (q : Nat × va_E) => ad[j]? = some q.1) φ wse := xAll2_of hle.symm (fun k j hkj => by
          obtain ⟨q, q1, q2⟩ := hph.2 k j (by rw [List.getElem?_map, hkj]; rfl)
          have hlt : k < wse.length := by rw [hle]; exact (List.getElem?_eq_some_iff.mp hkj).1
          refine ⟨wse[k], List.getElem?_eq_getElem hlt, ?_⟩
          rw [← eh.1, List.getElem?_map, List.getElem?_eq_getElem hlt] at q2
          have q2 : wse[k].1 = q := Option.some.inj q2
          rw [q1, q2])
        have hh2 : xHp (ρ ++ ρe.drop P.2.1.length) ad ex (tys ++ tyse) h ws := ⟨hh.1, hh.2.mono (fun a b hab => xcell.mono s1 (xX.rf ad) (fun q hq => List.mem_append_left _ hq) a b.2 hab)⟩
        have eh2 : xAll2 (fun x (q : Nat × va_E) => xcell xcn ρe adp exp (tys ++ tyse) x q.2) E.1 wse := eh.2.mono (fun a b hab => xcell.mono (xX.rf ρe) (xX.rf adp) (fun q hq => List.mem_append_right _ hq) a b.2 hab)
        have hH := xback_ok (ex := ex) (tys := tys ++ tyse) s3 hph (show xKv ad ex (κ.map some) exp from f9) hb hh2 eh2 hj
        refine ⟨_, xwback wse φ ws, s1, s2, ?_, fun vs' hvs' => xtL_ok (R := xv ρe adp exp) (fun a b c h1 h2 => xtV_ok s3 hph f9 h1 h2) hvs hvs', hH, ?_, ?_⟩
        · intro q hq
          rcases List.mem_append.mp hq with hq | hq
          · obtain ⟨k, hkq⟩ := List.getElem?_of_mem hq
            obtain ⟨n1, k1⟩ := xtL_get hG
            have hlt : k < E.2.2.1.length := by rw [n1]; exact (List.getElem?_eq_some_iff.mp hkq).1
            obtain ⟨b, h1, h2⟩ := k1 k E.2.2.1[k] (List.getElem?_eq_getElem hlt)
            rw [hkq] at h2
            cases h2
            obtain ⟨z, g1, g2⟩ := eF E.2.2.1[k] (List.getElem_mem hlt)
            obtain ⟨z', g3, g4⟩ := xlT_ok s3 h1
            rw [g1] at g3
            cases g3
            exact ⟨z, g4, g2⟩
          · exact hF.mono s1 q hq
        · intro k q hkq
          rcases xwback_at hkq with ⟨i, h1, h2⟩ | ⟨h1, h2⟩
          · exact eP i q h2
          · refine (hP k q h2).kept (hk q.1 (hP k q h2).lt (fun ha => ?_))
            rcases ha with ⟨i, e, hi⟩ | ha
            · obtain ⟨j, g1, g2⟩ := f8 i (q.1, e) hi
              have := hD.1 j k (q.1, e) q g2 h2 rfl
              subst this
              exact h1 i (by rw [hle]; exact (List.getElem?_eq_some_iff.mp g1).1) g1
            · exact absurd (hP k q h2).lt (Nat.not_lt.mpr ha)
        · have hm : (xwback wse φ ws).map Prod.fst = ws.map Prod.fst := by rw [hH.1, hh.1]
          have old : ∀ (i : Nat) (q : Nat × va_E), (xwback wse φ ws)[i]? = some q → ∃ q0, ws[i]? = some q0 ∧ q0.1 = q.1 := fun i q hi => by
            have h1 : ((xwback wse φ ws).map Prod.fst)[i]? = some q.1 := by rw [List.getElem?_map, hi]; rfl
            rw [hm, List.getElem?_map] at h1
            cases hw : ws[i]? with
            | none => rw [hw] at h1; cases h1
            | some q0 =>
              rw [hw] at h1
              exact ⟨q0, rfl, Option.some.inj h1⟩
          refine ⟨fun i j p q hi hj' e => ?_, fun k q hk' => ?_⟩
          · obtain ⟨p0, a1, a2⟩ := old i p hi
            obtain ⟨q0, b1, b2⟩ := old j q hj'
            exact hD.1 i j p0 q0 a1 b1 (by rw [a2, b2, e])
          · obtain ⟨q0, b1, b2⟩ := old k q hk'
            rw [← b2]
            exact hD.2 k q0 b1
