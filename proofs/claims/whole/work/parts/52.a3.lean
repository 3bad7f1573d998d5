theorem nine_i : (-1000000 : Int32).toInt = -1000000 := by rfl
theorem nine {x : Int32} (h : -10000 ≤ x.toInt) : ¬ x = -1000000 := fun q => by
  have h9 : x.toInt = -1000000 := (congrArg Int32.toInt q).trans nine_i
  rw [h9] at h
  exact absurd h (by decide)
theorem side_cell {X Y : Nat} (hB : 1 ≤ X ∧ X ≤ 10 ∧ 1 ≤ Y ∧ Y ≤ 10) (τ : Nat → Nat → Int32) {sd k : Nat} (hsd : sd < 4) (hk : k < cAlong X Y sd) : ∃ i j, i < X ∧ j < Y ∧ clA X Y sd k = pl X i j ∧ faceM X Y τ sd k = wOf τ i j := by
  rcases (show sd = 0 ∨ sd = 1 ∨ sd = 2 ∨ sd = 3 by omega) with rfl | rfl | rfl | rfl
  · exact ⟨k, 0, hk, by omega, rfl, rfl⟩
  · exact ⟨X - 1, k, by omega, hk, rfl, rfl⟩
  · exact ⟨k, Y - 1, hk, by omega, rfl, rfl⟩
  · exact ⟨0, k, by omega, hk, rfl, rfl⟩
/-- the faces of a side, on both sides of the tie -/
theorem side_face {X Y : Nat} (hB : 1 ≤ X ∧ X ≤ 10 ∧ 1 ≤ Y ∧ Y ≤ 10) {σ τ : Nat → Nat → Int32} (hC : RC X Y σ τ) (hE : SE X Y σ τ) {sd k : Nat} (hsd : sd < 4) (hk : k < cAlong X Y sd) : (faceM X Y τ sd k = (-1000000) ↔ σ 0 (clA X Y sd k) ≤ 0) ∧ (¬ σ 0 (clA X Y sd k) ≤ 0 → faceM X Y τ sd k = σ 1 (clA X Y sd k)) ∧ rng (σ 1 (clA X Y sd k)) (τ 5 2).toInt (τ 5 3).toInt := by
  obtain ⟨i, j, hi, hj, e1, e2⟩ := side_cell hB τ hsd hk
  obtain ⟨h0, r0⟩ := hC.1 i j hi hj
  obtain ⟨h1, r1, -⟩ := hE.2.2.2.2.2 i j hi hj
  rw [e1, e2, h0, h1]
  unfold wOf
  have rl := hE.2.2.1
  by_cases h : τ 0 (10 * j + i) ≤ 0
  · rw [if_pos h]
    exact ⟨⟨fun _ => h, fun _ => rfl⟩, fun q => absurd h q, r1⟩
  · rw [if_neg h]
    refine ⟨⟨fun q => ?_, fun q => absurd q h⟩, fun _ => rfl, r1⟩
    exact absurd q (nine (by unfold rng at r1 rl; omega))
theorem fd_0 {α : Type} (f : Nat → α → α) (a : α) : fd f a 0 = a := rfl
theorem fd_s {α : Type} (f : Nat → α → α) (a : α) (n : Nat) : fd f a (n + 1) = f n (fd f a n) := rfl
theorem cold_eq {c w f : Nat → Int32} : ∀ n, (∀ k, k < n → ((f k = (-1000000) ↔ c k ≤ 0) ∧ (¬ c k ≤ 0 → f k = w k))) → fd (coldF c w) none n = fd (coldG f) none n ∧ ∀ q, fd (coldF c w) none n = some q → q < n ∧ ¬ c q ≤ 0 := by
  intro n
  induction n with
  | zero => intro _; rw [fd_0, fd_0]; exact ⟨rfl, fun q h => by cases h⟩
  | succ n ih =>
    intro hk
    obtain ⟨i1, i2⟩ := ih fun k h => hk k (by omega)
    obtain ⟨k1, k2⟩ := hk n (by omega)
    rw [fd_s, fd_s, ← i1]
    generalize fd (coldF c w) none n = b at i2
    unfold coldF coldG
    by_cases h : c n ≤ 0
    · rw [if_pos h, if_pos (k1.mpr h)]
      exact ⟨rfl, fun q hq => ⟨by have := (i2 q hq).1; omega, (i2 q hq).2⟩⟩
    · rw [if_neg h, if_neg (fun q => h (k1.mp q))]
      cases b with
      | none => exact ⟨rfl, fun q hq => by cases hq; exact ⟨by omega, h⟩⟩
      | some q =>
        obtain ⟨q1, q2⟩ := i2 q rfl
        have e1 := (hk q (by omega)).2 q2
        have e2 := k2 h
        show (if w q ≤ w n then some q else some n) = (if f q ≤ f n then some q else some n) ∧ ∀ r, (if w q ≤ w n then some q else some n) = some r → r < n + 1 ∧ ¬ c r ≤ 0
        rw [e1, e2]
        refine ⟨rfl, fun r hr => ?_⟩
        by_cases h3 : w q ≤ w n
        · rw [if_pos h3] at hr; cases hr; exact ⟨by omega, q2⟩
        · rw [if_neg h3] at hr; cases hr; exact ⟨by omega, h⟩
theorem A_cold {X Y : Nat} (hB : 1 ≤ X ∧ X ≤ 10 ∧ 1 ≤ Y ∧ Y ≤ 10) {σ τ : Nat → Nat → Int32} (hC : RC X Y σ τ) (hE : SE X Y σ τ) (sd : Nat) (hsd : sd < 4) : coldS X Y σ sd = mCd X Y τ sd ∧ ∀ q, coldS X Y σ sd = some q → q < cAlong X Y sd ∧ ¬ σ 0 (clA X Y sd q) ≤ 0 :=
  cold_eq (cAlong X Y sd) (fun k hk => by have := side_face hB hC hE hsd hk; exact ⟨this.1, this.2.1⟩)
theorem A_least {X Y : Nat} (hB : 1 ≤ X ∧ X ≤ 10 ∧ 1 ≤ Y ∧ Y ≤ 10) {σ τ : Nat → Nat → Int32} (hC : RC X Y σ τ) (hE : SE X Y σ τ) (sd wh : Nat) (hsd : sd < 4) : cLeast X Y σ sd wh = mLeast X Y τ sd wh := by
  obtain ⟨h1, h2⟩ := A_cold hB hC hE sd hsd
  unfold cLeast mLeast
  rw [← h1]
  cases hq : coldS X Y σ sd with
  | none => rfl
  | some q =>
    obtain ⟨a1, a2⟩ := h2 q hq
    have := (side_face hB hC hE hsd a1).2.1 a2
    show (if wh = 0 then σ 1 (clA X Y sd q) else nI q) = (if wh = 0 then faceM X Y τ sd q else nI q)
    rw [this]
/-! the greatest common divisor's steps -/
def gP (p : Int32 × Int32) (n : Nat) : Int32 × Int32 := fd (fun _ p => gS p) p n
theorem gP_s (p : Int32 × Int32) : ∀ n, gP p (n + 1) = gP (gS p) n := by
  intro n
  induction n with
  | zero => rfl
  | succ n ih =>
    show gS (gP p (n + 1)) = gS (gP (gS p) n)
    rw [ih]
theorem gS_e {x y : Nat} (hx : x < 2 ^ 31) (hy : y < 2 ^ 31) (h0 : ¬ y = 0) : gS (nI x, nI y) = (nI y, nI (x % y)) := by
  unfold gS
  rw [if_neg (show ¬ nI y = 0 from fun q => h0 ((nI_eq (b := 0) hy (by omega)).mp q))]
  show (nI y, nI x - nI x / nI y * nI y) = _
  rw [pk_rem hx (by omega) hy]
theorem gP_0 (x : Int32) : ∀ n, gP (x, 0) n = (x, 0) := by
  intro n
  induction n with
  | zero => rfl
  | succ n ih => show gS (gP (x, 0) n) = _; rw [ih]; rfl
theorem gP_end : ∀ (k x y : Nat), x < 2 ^ 31 → y < 2 ^ 31 → y < 2 ^ k → ∃ z, gP (nI x, nI y) (2 * k + 1) = (z, 0) := by
  intro k
  induction k with
  | zero =>
    intro x y _ _ h
    have : y = 0 := by omega
    subst this
    exact ⟨nI x, gP_0 _ _⟩
  | succ k ih =>
    intro x y hx hy h
    by_cases h0 : y = 0
    · subst h0; exact ⟨nI x, gP_0 _ _⟩
    · rw [show 2 * (k + 1) + 1 = (2 * k + 1 + 1) + 1 by omega, gP_s, gS_e hx hy h0, gP_s]
      have hr : x % y < y := Nat.mod_lt _ (by omega)
      by_cases h1 : x % y = 0
      · rw [h1]
        exact ⟨nI y, by show gP (gS (nI y, 0)) (2 * k + 1) = _; exact gP_0 _ _⟩
      · rw [gS_e hy (by omega) h1]
        have h2 : y % (x % y) < x % y := Nat.mod_lt _ (by omega)
        have h3 : y % (x % y) + x % y ≤ y := by
          have h4 := Nat.div_add_mod y (x % y)
          have h5 : 1 ≤ y / (x % y) := Nat.div_pos (by omega) (by omega)
          have h6 : (x % y) * 1 ≤ (x % y) * (y / (x % y)) := Nat.mul_le_mul_left _ h5
          omega
        exact ih _ _ (by omega) (by omega) (by rw [Nat.pow_succ] at h; omega)
theorem gP_nz {p : Int32 × Int32} (h : ¬ (p.1 = 0 ∧ p.2 = 0)) : ∀ n, ¬ ((gP p n).1 = 0 ∧ (gP p n).2 = 0) := by
  intro n
  induction n with
  | zero => exact h
  | succ n ih =>
    show ¬ ((gS (gP p n)).1 = 0 ∧ (gS (gP p n)).2 = 0)
    generalize gP p n = q at ih
    unfold gS
    by_cases h0 : q.2 = 0
    · rw [if_pos h0]; exact ih
    · rw [if_neg h0]; exact fun z => h0 z.1
theorem n_g_e (a b : Int32) (n : Nat) : n_g a b n = gP (a, b) n := rfl
theorem A_factor {X Y : Nat} (hB : 1 ≤ X ∧ X ≤ 10 ∧ 1 ≤ Y ∧ Y ≤ 10) {σ τ : Nat → Nat → Int32} (hC : RC X Y σ τ) (hE : SE X Y σ τ) (sd : Nat) (hsd : sd < 4) : ∃ M, (n_g (mAb X Y τ sd) (mAl X Y τ sd) M).2 = 0 ∧ (¬ (n_g (mAb X Y τ sd) (mAl X Y τ sd) M).1 = 0) ∧ cFac X Y σ sd 0 = mAb X Y τ sd / mG X Y τ sd M ∧ cFac X Y σ sd 1 = mAl X Y τ sd / mG X Y τ sd M := by
  obtain ⟨h1, h2⟩ := A_cold hB hC hE sd hsd
  have hE' := hE
  obtain ⟨l1, l2, rl, rh, hlh, -⟩ := hE'
  unfold rng at rl rh
  have triv : mAb X Y τ sd = 0 → mAl X Y τ sd = 1 → cBe X Y σ sd = 0 → ∃ M, (n_g (mAb X Y τ sd) (mAl X Y τ sd) M).2 = 0 ∧ (¬ (n_g (mAb X Y τ sd) (mAl X Y τ sd) M).1 = 0) ∧ cFac X Y σ sd 0 = mAb X Y τ sd / mG X Y τ sd M ∧ cFac X Y σ sd 1 = mAl X Y τ sd / mG X Y τ sd M := by
    intro e1 e2 e3
    refine ⟨1, ?_⟩
    unfold cFac mG
    rw [e1, e2, if_pos e3, if_pos e3]
    exact ⟨by decide, by decide, by decide, by decide⟩
  cases hq : coldS X Y σ sd with
  | none =>
    refine triv ?_ ?_ ?_
    · unfold mAb; rw [← h1, hq]; split <;> rfl
    · unfold mAl; rw [← h1, hq]
    · unfold cBe; rw [hq]
  | some q =>
    obtain ⟨a1, a2⟩ := h2 q hq
    obtain ⟨-, s2, s3⟩ := side_face hB hC hE hsd a1
    unfold rng at s3
    by_cases ht : τ 5 3 = τ 5 2
    · refine triv ?_ ?_ ?_
      · unfold mAb; rw [if_pos ht]
      · unfold mAl; rw [← h1, hq]; exact if_pos ht
      · unfold cBe; rw [hq]
        show σ 8 1 - σ 8 0 = 0
        rw [l1, l2, ht]; exact Int32.sub_self _
    · have e1 : mAb X Y τ sd = σ 1 (clA X Y sd q) - τ 5 2 := by
        unfold mAb; rw [if_neg ht, ← h1, hq]
        show faceM X Y τ sd q - τ 5 2 = _
        rw [s2 a2]
      have e2 : mAl X Y τ sd = τ 5 3 - τ 5 2 := by
        unfold mAl; rw [← h1, hq]; exact if_neg ht
      have e3 : cAb X Y σ sd = mAb X Y τ sd := by
        unfold cAb; rw [hq, e1]
        show σ 1 (clA X Y sd q) - σ 8 0 = _
        rw [l1]
      have e4 : cBe X Y σ sd = mAl X Y τ sd := by
        unfold cBe; rw [hq, e2]
        show σ 8 1 - σ 8 0 = _
        rw [l1, l2]
      have i1 : (mAb X Y τ sd).toInt = (σ 1 (clA X Y sd q)).toInt - (τ 5 2).toInt := by rw [e1]; exact m32 (by omega) (by omega)
      have i2 : (mAl X Y τ sd).toInt = (τ 5 3).toInt - (τ 5 2).toInt := by rw [e2]; exact m32 (by omega) (by omega)
      have hne : (τ 5 3).toInt ≠ (τ 5 2).toInt := fun z => ht (Int32.toInt_inj.mp z)
      have hb0 : ¬ mAl X Y τ sd = 0 := fun z => by rw [z, i0] at i2; omega
      have n1 : mAb X Y τ sd = nI (mAb X Y τ sd).toInt.toNat := (nI_back _ (by omega)).symm
      have n2 : mAl X Y τ sd = nI (mAl X Y τ sd).toInt.toNat := (nI_back _ (by omega)).symm
      obtain ⟨z, hz⟩ := gP_end 15 (mAb X Y τ sd).toInt.toNat (mAl X Y τ sd).toInt.toNat (by omega) (by omega) (by omega)
      rw [← n1, ← n2] at hz
      have hz2 : (n_g (mAb X Y τ sd) (mAl X Y τ sd) 31).2 = 0 := by rw [n_g_e, hz]
      have h64 := g_stop hz2 64 (by decide)
      have hz3 : (n_g (mAb X Y τ sd) (mAl X Y τ sd) 64).2 = 0 := by rw [h64]; exact hz2
      have hnz : ¬ (n_g (mAb X Y τ sd) (mAl X Y τ sd) 64).1 = 0 := fun w => gP_nz (p := (mAb X Y τ sd, mAl X Y τ sd)) (fun w => hb0 w.2) 64 ⟨w, hz3⟩
      have e5 : cG X Y σ sd = mG X Y τ sd 64 := by unfold cG mG; rw [e3, e4]
      have e6 : ¬ cG X Y σ sd = 0 := by rw [e5]; exact hnz
      refine ⟨64, hz3, hnz, ?_, ?_⟩
      · unfold cFac
        rw [if_neg (by rw [e4]; exact hb0), if_neg e6, if_pos rfl, e3, e5]
      · unfold cFac
        rw [if_neg (by rw [e4]; exact hb0), if_neg e6, if_neg (by decide), e4, e5]
