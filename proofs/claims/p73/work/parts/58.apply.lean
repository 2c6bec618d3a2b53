/-! A contract in place of a call: its ends in the caller's words. -/
/-- a contract: how it begins (values: the arguments, the receiver first), how it ends (the first symbols are those of the beginning; values: the answer), how deep it goes -/
abbrev xCt : Type := xPt × (List xPt × Nat)
def xtE (θ : List xI) : (xI ⊕ xB) → Option (xI ⊕ xB)
  | .inl a => (match xsub1 θ a with
    | some b => some (.inl b)
    | none => none)
  | .inr r => some (.inr r)
def xtV (θ : List xI) (φ : List Nat) (κ : List xV) : xV → Option xV
  | .inl a => (match xsub1 θ a with
    | some b => some (.inl b)
    | none => none)
  | .inr (.inl a) => (match xsub1 θ a with
    | some b => some (.inr (.inl b))
    | none => none)
  | .inr (.inr (.inl none)) => some (.inr (.inr (.inl none)))
  | .inr (.inr (.inl (some i))) => (match φ[i]? with
    | some j => some (.inr (.inr (.inl (some j))))
    | none => none)
  | .inr (.inr (.inr k)) => bif Nat.blt k 20 then some (.inr (.inr (.inr k))) else κ[k - 20]?
def xtL {α β : Type} (f : α → Option β) : List α → Option (List β)
  | [] => some []
  | a :: t => (match f a with
    | some b => (match xtL f t with
      | some l => some (b :: l)
      | none => none)
    | none => none)
theorem xtL_ok {α β γ : Type} {f : α → Option β} {R : α → γ → Prop} {R' : β → γ → Prop} (hf : ∀ a b c, f a = some b → R a c → R' b c) : ∀ {l : List α} {r : List β} {cs : List γ}, xtL f l = some r → xAll2 R l cs → xAll2 R' r cs
  | [], r, cs, h, hc => by
    simp only [xtL, Option.some.injEq] at h
    subst h
    have := hc.nil
    subst this
    trivial
  | a :: t, r, cs, h, hc => by
    simp only [xtL] at h
    split at h
    · rename_i b hb
      split at h
      · rename_i l hl
        cases h
        obtain ⟨c, cs', rfl, h1, h2⟩ := hc.cons
        exact ⟨hf a b c hb h1, xtL_ok hf hl h2⟩
      · cases h
    · cases h
theorem xtL_get {α β : Type} {f : α → Option β} : ∀ {l : List α} {r : List β}, xtL f l = some r → l.length = r.length ∧ ∀ (k : Nat) (a : α), l[k]? = some a → ∃ b, f a = some b ∧ r[k]? = some b
  | [], r, h => by
    simp only [xtL, Option.some.injEq] at h
    subst h
    exact ⟨rfl, fun k a ha => by simp at ha⟩
  | a :: t, r, h => by
    simp only [xtL] at h
    split at h
    · rename_i b hb
      split at h
      · rename_i l hl
        cases h
        obtain ⟨n1, k1⟩ := xtL_get hl
        refine ⟨by simp [n1], fun k x hx => ?_⟩
        cases k with
        | zero =>
          simp at hx
          subst hx
          exact ⟨b, hb, by simp⟩
        | succ k =>
          obtain ⟨y, h1, h2⟩ := k1 k x (by simpa using hx)
          exact ⟨y, h1, by simpa using h2⟩
      · cases h
    · cases h
def xtG (θ : List xI) (g : xG) : Option xG := match xtE θ g.2 with
  | some u => some (g.1, u)
  | none => none
def xtO (φ : List Nat) : Option Nat → Option (Option Nat)
  | none => some none
  | some i => (match φ[i]? with
    | some j => some (some j)
    | none => none)
def xtC (θ : List xI) (φ : List Nat) (κ : List xV) : xC → Option xC
  | .inl o => (match xtL (xtV θ φ κ) o.2 with
    | some vs => some (.inl (o.1, vs))
    | none => none)
  | .inr (.inl a) => (match xtL (xtG θ) a.2.2 with
    | some gs => some (.inr (.inl (a.1, a.2.1, gs)))
    | none => none)
  | .inr (.inr (.inl a)) => (match xtL (xtG θ) a.2 with
    | some gs => some (.inr (.inr (.inl (a.1, gs))))
    | none => none)
  | .inr (.inr (.inr a)) => (match xtL (xtO φ) a.2 with
    | some os => some (.inr (.inr (.inr (a.1, os))))
    | none => none)
/-- cells put back at their places -/
def xback (θ : List xI) (φ : List Nat) (κ : List xV) : List xC → List Nat → List xC → Option (List xC)
  | [], [], h => some h
  | c :: cs, j :: js, h => (match xtC θ φ κ c with
    | some c' => xback θ φ κ cs js (h.set j c')
    | none => none)
  | _, _, _ => none
/-- fresh symbols behind those that there are -/
def xfresh (n : Nat) : Nat → List xI
  | 0 => []
  | k + 1 => (some n, 0) :: xfresh (n + 1) k
/-- one end of a contract: cells, bounds, facts, the answer -/
def xEnd (h : List xC) (σ : List xB) (F : xF) (n0 : Nat) (θ : List xI) (φ : List Nat) (κ : List xV) (P : xPt) : Option (List xC × (List xB × (xF × List xV))) :=
  let new := P.2.1.drop n0
  let θ' := θ ++ xfresh σ.length new.length
  match xback θ' φ κ P.1 φ h with
  | none => none
  | some h' => (match xtL (xlT θ') P.2.2.1 with
    | none => none
    | some G => (match xtL (xtV θ' φ κ) P.2.2.2.1 with
      | none => none
      | some vs => some (h', σ ++ new, G ++ F, vs)))
/-- all ends of a contract that fits -/
def xUse (nx : Nat) (h : List xC) (σ : List xB) (F : xF) (d : Nat) (as : List xV) (c : xCt) : Option (List (List xC × (List xB × (xF × List xV)))) :=
  bif Nat.ble c.2.2 d then (match xPFit nx h σ F as (List.replicate c.1.2.1.length none, List.replicate c.1.1.length none, List.replicate c.1.2.2.2.2 none) c.1 with
    | none => none
    | some (θ, φ, κ) => xtL (xEnd h σ F c.1.2.1.length θ φ κ) c.2.1) else none
theorem xsub1_v {ρ ρp : List Int} {θ : List xI} (hv : xThv ρ (θ.map some) ρp) {a b : xI} {z : Int} (h : xsub1 θ a = some b) (hz : xe ρp a = some z) : xe ρ b = some z := by
  obtain ⟨y, h1, h2⟩ := xsub1_ok hv h
  rw [hz] at h2
  cases h2
  exact h1
theorem xtV_ok {ρ ρp : List Int} {ad adp ex exp : List Nat} {θ : List xI} {φ : List Nat} {κ : List xV} (hv : xThv ρ (θ.map some) ρp) (hp : xPhv ad (φ.map some) adp) (hk : xKv ad ex (κ.map some) exp) : ∀ {a b : xV} {w : Value}, xtV θ φ κ a = some b → xv ρp adp exp a w → xv ρ ad ex b w
  | .inl a, b, w, h, hw => by
    simp only [xtV] at h
    split at h
    · rename_i c hc
      cases h
      obtain ⟨x, e, hx⟩ := hw
      exact ⟨x, e, xsub1_v hv hc hx⟩
    · cases h
  | .inr (.inl a), b, w, h, hw => by
    simp only [xtV] at h
    split at h
    · rename_i c hc
      cases h
      obtain ⟨x, e, hx⟩ := hw
      exact ⟨x, e, xsub1_v hv hc hx⟩
    · cases h
  | .inr (.inr (.inl none)), b, w, h, hw => by
    simp only [xtV, Option.some.injEq] at h
    subst h
    exact hw
  | .inr (.inr (.inl (some i))), b, w, h, hw => by
    simp only [xtV] at h
    split at h
    · rename_i j hj
      cases h
      obtain ⟨q, hq, e⟩ := hw
      obtain ⟨q', h1, h2⟩ := hp.2 i j (by rw [List.getElem?_map, hj]; rfl)
      rw [hq] at h2
      cases h2
      exact ⟨q, h1, e⟩
    · cases h
  | .inr (.inr (.inr k)), b, w, h, hw => by
    simp only [xtV] at h
    obtain ⟨q, hq, e⟩ := hw
    cases hb : Nat.blt k 20 with
    | true =>
      rw [hb] at h
      simp only [cond_true, Option.some.injEq] at h
      subst h
      exact ⟨q, by rw [← hk.1 k (x_blt hb)]; exact hq, e⟩
    | false =>
      rw [hb] at h
      simp only [cond_false] at h
      have hge := x_nblt2 hb
      obtain ⟨q', h1, h2⟩ := hk.2 (k - 20) b (by rw [List.getElem?_map, h]; rfl)
      have e20 : 20 + (k - 20) = k := by omega
      rw [e20, hq] at h2
      cases h2
      subst e
      exact xrq_v h1
