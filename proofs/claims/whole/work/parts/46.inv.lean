/-! THE TIE between the class's cells and the reference's -/
def rng (x : Int32) (a b : Int) : Prop := a ≤ x.toInt ∧ x.toInt ≤ b
/-- the leads of what lies to the north, east, south and west of a cell: a cell's or a side's film; and its warmth -/
def nbC (X Y : Nat) (τ : Nat → Nat → Int32) (d i j : Nat) : Int32 :=
  if d = 0 then (if j = 0 then τ 3 0 else τ 0 (10 * (j - 1) + i)) else if d = 1 then (if i + 1 = X then τ 3 1 else τ 0 (10 * j + (i + 1))) else if d = 2 then (if j + 1 = Y then τ 3 2 else τ 0 (10 * (j + 1) + i)) else (if i = 0 then τ 3 3 else τ 0 (10 * j + (i - 1)))
def gD (X Y : Nat) (τ : Nat → Nat → Int32) (d i j : Nat) : Int := (cpl (τ 0 (10 * j + i)) (nbC X Y τ d i j)).toInt
def GG (X Y : Nat) (τ : Nat → Nat → Int32) (i j : Nat) : Int := gD X Y τ 0 i j + gD X Y τ 1 i j + gD X Y τ 2 i j + gD X Y τ 3 i j
def RC (X Y : Nat) (σ τ : Nat → Nat → Int32) : Prop :=
  (∀ i j, i < X → j < Y → σ 0 (pl X i j) = τ 0 (10 * j + i) ∧ rng (τ 0 (10 * j + i)) 0 20) ∧
  (∀ k, k < 100 → ¬ (k % 10 < X ∧ k / 10 < Y) → τ 0 k = 0) ∧
  (∀ sd, sd < 4 → σ 6 sd = τ 2 sd ∧ σ 7 sd = τ 3 sd ∧ rng (τ 2 sd) (-10000) 10000 ∧ rng (τ 3 sd) 0 20) ∧
  (∀ sd k, sd < 4 → k < cAlong X Y sd → σ 0 (bdA X Y sd k) = τ 3 sd ∧ σ 1 (bdA X Y sd k) = τ 2 sd)
def SE (X Y : Nat) (σ τ : Nat → Nat → Int32) : Prop :=
  σ 8 0 = τ 5 2 ∧ σ 8 1 = τ 5 3 ∧ rng (τ 5 2) (-10000) 10000 ∧ rng (τ 5 3) (-10000) 10000 ∧ (τ 5 2).toInt ≤ (τ 5 3).toInt ∧
  ∀ i j, i < X → j < Y → σ 1 (pl X i j) = τ 1 (10 * j + i) ∧ rng (τ 1 (10 * j + i)) (τ 5 2).toInt (τ 5 3).toInt ∧ (σ 4 (pl X i j)).toInt = GG X Y τ i j
def RI (X Y : Nat) (σ : Nat → Nat → Int32) (hh : Nat → Int64) (hw : Nat → Int32) (n : Int32) (τ : Nat → Nat → Int32) (ℓ : Nat → Nat → Int64) : Prop :=
  RC X Y σ τ ∧ ((σ 8 2 = 0 ∧ τ 5 1 = 0) ∨ (σ 8 2 = 1 ∧ τ 5 1 = 1 ∧ SE X Y σ τ)) ∧ hh = ℓ 0 ∧ hw = τ 4 ∧ ∃ jn, jn ≤ 10 ∧ n = nI jn ∧ τ 5 4 = nI jn
theorem up_at (τ : Nat → Nat → Int32) (a k : Nat) (v : Int32) : up2 τ a k v a k = v := by
  unfold up2
  rw [show Nat.beq a a = true from Nat.beq_refl a]
  show upd (τ a) k v k = v
  unfold upd
  simp
theorem cmp_ok (go : Nat → Int64) (v : Int64) : lg_cmp (vp_updL go 0 v 0) v = 0 := by
  have e1 : vp_updL go 0 v 0 = v := by unfold vp_updL; simp
  rw [e1]
  unfold lg_cmp
  simp
abbrev okR (f lo mL : Nat) : Prop := f + 1 ≤ 10 ∧ 8 + (mL + 11) + lo ≤ 386
/-- one call of the law, on both sides: both throw, or both answer the same -/
def StG {α : Type} (out : α → Int64) (val : α → Value) (z : Value) (l : Launch) (D : va_G) (cI cJ : ClassId) (ab ad : Nat → Nat) (ao : Nat) (am : Nat → Nat) (sa : Nat → Nat) (X Y : Nat) (yL : MethodName) (wsL : List Cond) (mL : Nat) (y2 : MethodName) (ws2 : List Cond) (m2 : Nat) (as : List Value)
    (σ : Nat → Nat → Int32) (hh : Nat → Int64) (hw : Nat → Int32) (n : Int32) (τ : Nat → Nat → Int32) (ℓ : Nat → Nat → Int64) : Prop :=
  ((∃ f lo, okR f lo mL ∧ ∀ go, nMet l yL wsL f lo D (tY cI cJ) sa (wL ab ad ao cI cJ X Y σ hh hw n go) (.ref (ab 0) :: (as ++ [.ref ao]))) ∧
    (∃ f lo, okR f lo m2 ∧ wMet l y2 ws2 f lo D (tY cI cJ) (wM am cI cJ X Y τ ℓ) (wM am cI cJ X Y (up2 τ 5 0 1) ℓ) (.ref (am 6) :: as) (some z))) ∨
  ∃ (σ' : Nat → Nat → Int32) (hh' : Nat → Int64) (hw' : Nat → Int32) (n' : Int32) (τ' : Nat → Nat → Int32) (ℓ' : Nat → Nat → Int64) (v : α), RI X Y σ' hh' hw' n' τ' ℓ' ∧ τ' 5 0 = 0 ∧
    (∃ f lo, okR f lo mL ∧ ∀ go, wMet l yL wsL f lo D (tY cI cJ) (wL ab ad ao cI cJ X Y σ hh hw n go) (wL ab ad ao cI cJ X Y σ' hh' hw' n' (vp_updL go 0 (out v))) (.ref (ab 0) :: (as ++ [.ref ao])) (some (.int 0))) ∧
    (∃ f lo, okR f lo m2 ∧ wMet l y2 ws2 f lo D (tY cI cJ) (wM am cI cJ X Y τ ℓ) (wM am cI cJ X Y τ' ℓ') (.ref (am 6) :: as) (some (val v)))
abbrev outB (v : Int32) : Int64 := if v = 0 then 0 else 1
theorem RI_fault {X Y : Nat} {σ : Nat → Nat → Int32} {hh : Nat → Int64} {hw : Nat → Int32} {n : Int32} {τ : Nat → Nat → Int32} {ℓ : Nat → Nat → Int64} (h : RI X Y σ hh hw n τ ℓ) (v : Int32) : RI X Y σ hh hw n (up2 τ 5 0 v) ℓ := by
  have e : ∀ a k, ¬ (a = 5 ∧ k = 0) → up2 τ 5 0 v a k = τ a k := by
    intro a k hne
    unfold up2
    by_cases h5 : a = 5
    · subst h5
      rw [show Nat.beq 5 5 = true from rfl]
      show upd (τ 5) 0 v k = τ 5 k
      unfold upd
      have : k ≠ 0 := fun h => hne ⟨rfl, h⟩
      simp [this]
    · have : Nat.beq a 5 = false := by
        cases hq : Nat.beq a 5
        · rfl
        · exact absurd (Nat.eq_of_beq_eq_true hq) h5
      rw [this]; rfl
  have r : ∀ a, ¬ a = 5 → up2 τ 5 0 v a = τ a := fun a ha => funext fun k => e a k (fun h => ha h.1)
  have e51 := e 5 1 (by decide)
  have e52 := e 5 2 (by decide)
  have e53 := e 5 3 (by decide)
  have e54 := e 5 4 (by decide)
  unfold RI RC SE GG gD nbC at *
  rw [r 0 (by decide), r 1 (by decide), r 2 (by decide), r 3 (by decide), r 4 (by decide), e51, e52, e53, e54]
  exact h
