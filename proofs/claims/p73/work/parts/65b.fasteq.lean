/-! The fast steps are the steps. -/
section XFE
variable {tb : xTbl} {a len nL : Nat} {n : Int} {loc : List (Nat × xV)} {stk : List xV} {σ : List xB}
theorem xConstF_eq : ∀ {g : Nat}, g < 4 → xConstF g len a n = xConst (xMkI tb g a n) len
  | 0, _ => rfl
  | 1, _ => rfl
  | 2, _ => rfl
  | 3, _ => rfl
  | g + 4, h => absurd h (by omega)
theorem xLoadF_eq : ∀ {g : Nat}, 4 ≤ g → g < 10 → xLoadF g len a loc = xLoad (xMkI tb g a n) len loc
  | 4, _, _ => rfl
  | 5, _, _ => rfl
  | 6, _, _ => rfl
  | 7, _, _ => rfl
  | 8, _, _ => rfl
  | 9, _, _ => rfl
  | 0, h, _ => absurd h (by omega)
  | 1, h, _ => absurd h (by omega)
  | 2, h, _ => absurd h (by omega)
  | 3, h, _ => absurd h (by omega)
  | g + 10, _, h => absurd h (by omega)
theorem xStoF_eq {v : xV} : ∀ {g : Nat}, 10 ≤ g → g < 16 → xStoF g len nL a loc v = xSto (xMkI tb g a n) len nL loc v := by
  intro g h1 h2
  rcases (show g = 10 ∨ g = 11 ∨ g = 12 ∨ g = 13 ∨ g = 14 ∨ g = 15 by omega) with rfl | rfl | rfl | rfl | rfl | rfl <;> rfl
theorem xBinIF_eq {x y : xI} : ∀ {g : Nat}, 17 ≤ g → g < 27 → xBinIF g σ x y = xBinI (xMkI tb g a n) σ x y := by
  intro g h1 h2
  rcases (show g = 17 ∨ g = 18 ∨ g = 19 ∨ g = 20 ∨ g = 21 ∨ g = 22 ∨ g = 23 ∨ g = 24 ∨ g = 25 ∨ g = 26 by omega) with rfl | rfl | rfl | rfl | rfl | rfl | rfl | rfl | rfl | rfl <;> rfl
theorem xBinLF_eq {x y : xI} : ∀ {g : Nat}, 27 ≤ g → g < 35 → xBinLF g σ x y = xBinL (xMkI tb g a n) σ x y := by
  intro g h1 h2
  rcases (show g = 27 ∨ g = 28 ∨ g = 29 ∨ g = 30 ∨ g = 31 ∨ g = 32 ∨ g = 33 ∨ g = 34 by omega) with rfl | rfl | rfl | rfl | rfl | rfl | rfl | rfl <;> rfl
theorem xShLF_eq {x y : xI} : ∀ {g : Nat}, 35 ≤ g → g < 37 → xShLF g σ x y = xShL (xMkI tb g a n) σ x y := by
  intro g h1 h2
  rcases (show g = 35 ∨ g = 36 by omega) with rfl | rfl <;> rfl
theorem xUnIF_eq {x : xI} : ∀ {g : Nat}, 37 ≤ g → g < 40 → xUnIF g σ x = xUnI (xMkI tb g a n) σ x := by
  intro g h1 h2
  rcases (show g = 37 ∨ g = 38 ∨ g = 39 by omega) with rfl | rfl | rfl <;> rfl
theorem xStkF_eq : ∀ {g : Nat}, 41 ≤ g → g < 46 → xStkF g stk = xStk (xMkI tb g a n) stk := by
  intro g h1 h2
  rcases (show g = 41 ∨ g = 42 ∨ g = 43 ∨ g = 44 ∨ g = 45 by omega) with rfl | rfl | rfl | rfl | rfl <;> rfl
theorem x_nblt {a b : Nat} (h : Nat.blt a b = false) : b ≤ a := by
  rcases Nat.lt_or_ge a b with q | q
  · have : Nat.blt a b = true := by
      unfold Nat.blt
      exact Nat.ble_eq_true_of_le q
    rw [h] at this
    cases this
  · exact q
theorem xFA_eq {q : xQ} {h : List xC} {nc ns : Nat} {σ' : List xB} {loc' : List (Nat × xV)} {stk' : List xV} (hg : q.2.2.1 < 50) (hv : xFA nL q σ loc stk = some (σ', loc', stk')) : xStepA nL (xMkP tb q) (h, σ, loc, stk, nc, ns) = some [(q.1 + q.2.1, (h, σ', loc', stk', nc, ns))] := by
  obtain ⟨pc, len, g, a, b, n⟩ := q
  dsimp only at hg
  unfold xFA at hv
  dsimp only at hv
  unfold xStepA xMkP
  dsimp only
  cases h1 : Nat.blt g 4 with
  | true =>
    have e : xGrp g = 0 := by unfold xGrp; rw [h1]; rfl
    rw [h1] at hv
    simp only [cond_true] at hv
    rw [e, ← xConstF_eq (x_blt h1)]
    try dsimp only
    split at hv
    · rename_i v hvv
      rw [hvv]
      cases hv
      rfl
    · cases hv
  | false =>
    rw [h1] at hv
    simp only [cond_false] at hv
    cases h2 : Nat.blt g 10 with
    | true =>
      have e : xGrp g = 1 := by unfold xGrp; rw [h1, h2]; rfl
      rw [h2] at hv
      simp only [cond_true] at hv
      rw [e, ← xLoadF_eq (x_nblt h1) (x_blt h2)]
      try dsimp only
      split at hv
      · rename_i v hvv
        rw [hvv]
        cases hv
        rfl
      · cases hv
    | false =>
      rw [h2] at hv
      simp only [cond_false] at hv
      cases h3 : Nat.blt g 16 with
      | true =>
        have e : xGrp g = 2 := by unfold xGrp; rw [h1, h2, h3]; rfl
        rw [h3] at hv
        simp only [cond_true] at hv
        rw [e]
        try dsimp only
        split at hv
        · rename_i v t
          try dsimp only
          rw [← xStoF_eq (x_nblt h2) (x_blt h3)]
          split at hv
          · rename_i l' hl'
            rw [hl']
            cases hv
            rfl
          · cases hv
        · cases hv
      | false =>
        rw [h3] at hv
        simp only [cond_false] at hv
        cases h4 : Nat.blt g 17 with
        | true =>
          have e : xGrp g = 3 := by unfold xGrp; rw [h1, h2, h3, h4]; rfl
          rw [h4] at hv
          simp only [cond_true] at hv
          have hg16 : g = 16 := by
            have := x_nblt h3
            have := x_blt h4
            omega
          subst hg16
          rw [e]
          try dsimp only
          obtain ⟨e1, hv2⟩ := x_bifO hv
          show (bif Nat.beq len 3 then _ else none) = _
          rw [e1]
          have e1 := Nat.eq_of_beq_eq_true e1
          subst e1
          simp only [cond_true]
          split at hv2
          · rename_i r hr
            rw [hr]
            cases hv2
            rfl
          · cases hv2
        | false =>
          rw [h4] at hv
          simp only [cond_false] at hv
          cases h5 : Nat.blt g 27 with
          | true =>
            have e : xGrp g = 4 := by unfold xGrp; rw [h1, h2, h3, h4, h5]; rfl
            rw [h5] at hv
            simp only [cond_true] at hv
            rw [e]
            try dsimp only
            split at hv
            · obtain ⟨e1, hv2⟩ := x_bifO hv
              try dsimp only
              rw [e1, ← xBinIF_eq (x_nblt h4) (x_blt h5)]
              simp only [cond_true]
              split at hv2
              · rename_i r hr
                rw [hr]
                cases hv2
                rfl
              · cases hv2
            · cases hv
          | false =>
            rw [h5] at hv
            simp only [cond_false] at hv
            cases h6 : Nat.blt g 35 with
            | true =>
              have e : xGrp g = 5 := by unfold xGrp; rw [h1, h2, h3, h4, h5, h6]; rfl
              rw [h6] at hv
              simp only [cond_true] at hv
              rw [e]
              try dsimp only
              split at hv
              · obtain ⟨e1, hv2⟩ := x_bifO hv
                try dsimp only
                rw [e1, ← xBinLF_eq (x_nblt h5) (x_blt h6)]
                simp only [cond_true]
                split at hv2
                · rename_i r hr
                  rw [hr]
                  cases hv2
                  rfl
                · cases hv2
              · cases hv
            | false =>
              rw [h6] at hv
              simp only [cond_false] at hv
              cases h7 : Nat.blt g 37 with
              | true =>
                have e : xGrp g = 6 := by unfold xGrp; rw [h1, h2, h3, h4, h5, h6, h7]; rfl
                rw [h7] at hv
                simp only [cond_true] at hv
                rw [e]
                try dsimp only
                split at hv
                · obtain ⟨e1, hv2⟩ := x_bifO hv
                  try dsimp only
                  rw [e1, ← xShLF_eq (x_nblt h6) (x_blt h7)]
                  simp only [cond_true]
                  split at hv2
                  · rename_i r hr
                    rw [hr]
                    cases hv2
                    rfl
                  · cases hv2
                · cases hv
              | false =>
                rw [h7] at hv
                simp only [cond_false] at hv
                cases h8 : Nat.blt g 40 with
                | true =>
                  have e : xGrp g = 7 := by unfold xGrp; rw [h1, h2, h3, h4, h5, h6, h7, h8]; rfl
                  rw [h8] at hv
                  simp only [cond_true] at hv
                  rw [e]
                  try dsimp only
                  split at hv
                  · obtain ⟨e1, hv2⟩ := x_bifO hv
                    try dsimp only
                    rw [e1, ← xUnIF_eq (x_nblt h7) (x_blt h8)]
                    simp only [cond_true]
                    split at hv2
                    · rename_i r hr
                      rw [hr]
                      cases hv2
                      rfl
                    · cases hv2
                  · cases hv
                | false =>
                  rw [h8] at hv
                  simp only [cond_false] at hv
                  cases h9 : Nat.blt g 41 with
                  | true =>
                    have e : xGrp g = 8 := by unfold xGrp; rw [h1, h2, h3, h4, h5, h6, h7, h8, h9]; rfl
                    rw [h9] at hv
                    simp only [cond_true] at hv
                    have hg40 : g = 40 := by
                      have := x_nblt h8
                      have := x_blt h9
                      omega
                    subst hg40
                    rw [e]
                    try dsimp only
                    split at hv
                    · obtain ⟨e1, hv2⟩ := x_bifO hv
                      try dsimp only
                      show (bif Nat.beq len 1 then _ else none) = _
                      rw [e1]
                      have e1 := Nat.eq_of_beq_eq_true e1
                      subst e1
                      simp only [cond_true]
                      split at hv2
                      · rename_i r hr
                        rw [hr]
                        cases hv2
                        rfl
                      · cases hv2
                    · cases hv
                  | false =>
                    rw [h9] at hv
                    simp only [cond_false] at hv
                    have h10 : Nat.blt g 50 = true := by
                      unfold Nat.blt
                      exact Nat.ble_eq_true_of_le hg
                    have e : xGrp g = 9 := by unfold xGrp; rw [h1, h2, h3, h4, h5, h6, h7, h8, h9, h10]; rfl
                    rw [e]
                    try dsimp only
                    obtain ⟨e1, hv2⟩ := x_bifO hv
                    rw [e1]
                    simp only [cond_true]
                    by_cases hg46 : g < 46
                    · rw [← xStkF_eq (x_nblt h9) hg46]
                      split at hv2
                      · rename_i r hr
                        rw [hr]
                        cases hv2
                        rfl
                      · cases hv2
                    · exfalso
                      rcases (show g = 46 ∨ g = 47 ∨ g = 48 ∨ g = 49 by omega) with rfl | rfl | rfl | rfl <;> cases hv2
end XFE
