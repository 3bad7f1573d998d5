theorem A_warmth {X Y : Nat} (hB : 1 ≤ X ∧ X ≤ 10 ∧ 1 ≤ Y ∧ Y ≤ 10) {σ τ : Nat → Nat → Int32} (hC : RC X Y σ τ) (hE : SE X Y σ τ) (i j : Nat) (hi : i < X) (hj : j < Y) : wAt X σ i j = wOf τ i j := by
  unfold wAt wOf
  rw [(hC.1 i j hi hj).1, (hE.2.2.2.2.2 i j hi hj).1]
theorem A_colder {X Y : Nat} (hB : 1 ≤ X ∧ X ≤ 10 ∧ 1 ≤ Y ∧ Y ≤ 10) {σ τ : Nat → Nat → Int32} (hC : RC X Y σ τ) (hE : SE X Y σ τ) (wt : Int32) : n_countColder X σ wt Y = n_mco X τ wt Y := by
  unfold n_countColder n_mco
  refine fd_congr fun j hj a => ?_
  unfold n_countColderR0 n_mcoR
  refine fd_congr fun i hi a => ?_
  rw [A_warmth hB hC hE i j hi hj, (hC.1 i j hi hj).1]
  unfold wOf
  by_cases h : τ 0 (10 * j + i) ≤ 0
  · rw [if_pos h, if_pos h]; exact Int32.add_zero a
  · rw [if_neg h, if_neg h, if_neg h]
    by_cases h2 : wt ≤ τ 1 (10 * j + i)
    · rw [if_pos h2, if_pos h2]; exact Int32.add_zero a
    · rw [if_neg h2, if_neg h2]
theorem mmi_iff (X Y : Nat) (τ : Nat → Nat → Int32) (ax : Nat) : ∀ n, n_mmi X Y τ ax n = 1 ↔ ∀ j, j < n → ∀ i, i < X → wOf τ i j = miR X Y τ ax i j := by
  have row : ∀ (j : Nat) (a : Int32), (a = 0 ∨ a = 1) → ∀ n, (n_mmiR X Y τ ax j a n = 0 ∨ n_mmiR X Y τ ax j a n = 1) ∧ (n_mmiR X Y τ ax j a n = 1 ↔ a = 1 ∧ ∀ i, i < n → wOf τ i j = miR X Y τ ax i j) := by
    intro j a ha n
    induction n with
    | zero => exact ⟨ha, ⟨fun h => ⟨h, fun i hi => by omega⟩, fun h => h.1⟩⟩
    | succ n ih =>
      obtain ⟨i1, i2⟩ := ih
      have e : n_mmiR X Y τ ax j a (n + 1) = if n_mmiR X Y τ ax j a n = 0 then 0 else if wOf τ n j = miR X Y τ ax n j then 1 else 0 := rfl
      rw [e]
      by_cases h0 : n_mmiR X Y τ ax j a n = 0
      · rw [if_pos h0]
        refine ⟨Or.inl rfl, ⟨fun h => absurd h (by decide), fun h => ?_⟩⟩
        have := i2.mpr ⟨h.1, fun i hi => h.2 i (by omega)⟩
        rw [h0] at this
        exact absurd this (by decide)
      · rw [if_neg h0]
        have h1 : n_mmiR X Y τ ax j a n = 1 := i1.resolve_left h0
        by_cases h2 : wOf τ n j = miR X Y τ ax n j
        · rw [if_pos h2]
          refine ⟨Or.inr rfl, ⟨fun _ => ⟨(i2.mp h1).1, fun i hi => ?_⟩, fun _ => rfl⟩⟩
          rcases (show i < n ∨ i = n by omega) with q | q
          · exact (i2.mp h1).2 i q
          · rw [q]; exact h2
        · rw [if_neg h2]
          exact ⟨Or.inl rfl, ⟨fun h => absurd h (by decide), fun h => absurd (h.2 n (by omega)) h2⟩⟩
  intro n
  induction n with
  | zero => exact ⟨fun _ j hj => by omega, fun _ => rfl⟩
  | succ n ih =>
    have e : n_mmi X Y τ ax (n + 1) = n_mmiR X Y τ ax n (n_mmi X Y τ ax n) X := rfl
    rw [e, (row n _ (mmi_01 X Y τ ax n) X).2, ih]
    constructor
    · intro h j hj i hi
      rcases (show j < n ∨ j = n by omega) with q | q
      · exact h.1 j q i hi
      · rw [q]; exact h.2 i hi
    · intro h
      exact ⟨fun j hj => h j (by omega), fun i hi => h n (by omega) i hi⟩
theorem bI_mmi {P : Prop} {X Y : Nat} {τ : Nat → Nat → Int32} {ax : Nat} (h : P ↔ n_mmi X Y τ ax Y = 1) : bI P = n_mmi X Y τ ax Y := by
  by_cases hp : P
  · rw [← bI_t hp, h.mp hp]
  · rw [← bI_f hp]
    rcases mmi_01 X Y τ ax Y with q | q
    · exact q.symm
    · exact absurd (h.mpr q) hp
theorem A_mirr0 {X Y : Nat} (hB : 1 ≤ X ∧ X ≤ 10 ∧ 1 ≤ Y ∧ Y ≤ 10) {σ τ : Nat → Nat → Int32} (hC : RC X Y σ τ) (hE : SE X Y σ τ) : bI (∀ j', j' < Y → ∀ i', i' < X → wAt X σ i' j' = wAt X σ (X - 1 - i') j') = n_mmi X Y τ 0 Y := by
  refine bI_mmi ?_
  rw [mmi_iff]
  constructor
  · intro h j hj i hi
    have := h j hj i hi
    rw [A_warmth hB hC hE i j hi hj, A_warmth hB hC hE (X - 1 - i) j (by omega) hj] at this
    exact this
  · intro h j hj i hi
    rw [A_warmth hB hC hE i j hi hj, A_warmth hB hC hE (X - 1 - i) j (by omega) hj]
    exact h j hj i hi
theorem A_mirr1 {X Y : Nat} (hB : 1 ≤ X ∧ X ≤ 10 ∧ 1 ≤ Y ∧ Y ≤ 10) {σ τ : Nat → Nat → Int32} (hC : RC X Y σ τ) (hE : SE X Y σ τ) : bI (∀ j', j' < Y → ∀ i', i' < X → wAt X σ i' j' = wAt X σ i' (Y - 1 - j')) = n_mmi X Y τ 1 Y := by
  refine bI_mmi ?_
  rw [mmi_iff]
  constructor
  · intro h j hj i hi
    have := h j hj i hi
    rw [A_warmth hB hC hE i j hi hj, A_warmth hB hC hE i (Y - 1 - j) hi (by omega)] at this
    exact this
  · intro h j hj i hi
    rw [A_warmth hB hC hE i j hi hj, A_warmth hB hC hE i (Y - 1 - j) hi (by omega)]
    exact h j hj i hi
theorem upL0 (ℓ : Nat → Nat → Int64) (k : Nat) (v : Int64) : upL ℓ 1 k v 0 = ℓ 0 := rfl
theorem add_0 (X Y : Nat) (τ : Nat → Nat → Int32) (own i j : Int32) (ℓ : Nat → Nat → Int64) : f_add X Y τ own i j ℓ 0 = ℓ 0 := by
  unfold f_add; split
  · rfl
  · rw [upL0, upL0]
theorem made_0 (X Y : Nat) (τ : Nat → Nat → Int32) (i j : Nat) (ℓ : Nat → Nat → Int64) : f_made X Y τ i j ℓ 0 = ℓ 0 := by
  unfold f_made n_md
  refine fd_inv (fun _ (q : Nat → Nat → Int64) => q 0 = ℓ 0) ?_ 4 (fun sd _ q h => by unfold f_mds; rw [upL0, upL0]; exact h)
  unfold f_md4
  rw [add_0, add_0, add_0, add_0, upL0, upL0]
theorem A_td (X Y : Nat) (τ : Nat → Nat → Int32) (ℓ : Nat → Nat → Int64) (n : Nat) : (n_td X Y τ ℓ n).2.2 0 = ℓ 0 := by
  unfold n_td
  refine fd_inv (a := ((0, 0, ℓ) : TS)) (fun _ (q : TS) => q.2.2 0 = ℓ 0) rfl n (fun j _ q h => ?_)
  unfold f_tdR
  refine fd_inv (fun _ (q : TS) => q.2.2 0 = ℓ 0) h X (fun i _ q h => ?_)
  unfold f_tdS; split
  · exact h
  · exact (made_0 X Y τ i j q.2.2).trans h
theorem A_sumw {X Y : Nat} (hB : 1 ≤ X ∧ X ≤ 10 ∧ 1 ≤ Y ∧ Y ≤ 10) {σ τ : Nat → Nat → Int32} (hC : RC X Y σ τ) (hE : SE X Y σ τ) (ℓ : Nat → Nat → Int64) : n_sumOfWarmths X σ Y = (n_td X Y τ ℓ Y).1 := by
  unfold n_sumOfWarmths n_td
  refine fd_rel (a := (0 : Int64)) (b := ((0, 0, ℓ) : TS)) (fun _ (x : Int64) (y : TS) => x = y.1) rfl Y (fun j hj x y h => ?_)
  unfold n_sumOfWarmthsR0 f_tdR
  refine fd_rel (fun _ (x : Int64) (y : TS) => x = y.1) h X (fun i hi x y h => ?_)
  rw [A_warmth hB hC hE i j hi hj, (hC.1 i j hi hj).1]
  unfold f_tdS wOf
  by_cases h2 : τ 0 (10 * j + i) ≤ 0
  · rw [if_pos h2, if_pos h2, h]; exact Int64.add_zero _
  · rw [if_neg h2, if_neg h2, if_neg h2, h]
