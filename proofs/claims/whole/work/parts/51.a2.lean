theorem nI_inj {a b : Nat} (ha : a < 2 ^ 31) (hb : b < 2 ^ 31) : nI a = nI b ↔ a = b := nI_eq ha hb
/-- what one cell beside a side brings to its flow -/
def flT (τ : Nat → Nat → Int32) (sd i j : Nat) : Int64 := (cpl (τ 0 (10 * j + i)) (τ 3 sd)).toInt64 * (τ 2 sd - τ 1 (10 * j + i)).toInt64
theorem flT_e {X Y : Nat} {σ τ : Nat → Nat → Int32} (hC : RC X Y σ τ) (hE : SE X Y σ τ) {sd i j : Nat} (hsd : sd < 4) (hi : i < X) (hj : j < Y) : (cpl (σ 0 (pl X i j)) (σ 7 sd) * (σ 6 sd - σ 1 (pl X i j))).toInt64 = flT τ sd i j := by
  obtain ⟨h6, h7, r2, r3⟩ := hC.2.2.1 sd hsd
  obtain ⟨h0, r0⟩ := hC.1 i j hi hj
  obtain ⟨l1, l2, rl, rh, hlh, hc⟩ := hE
  obtain ⟨h1, r1, -⟩ := hc i j hi hj
  rw [h6, h7, h0, h1]
  unfold flT
  have hb := cpl_b r0 r3
  unfold rng at *
  have hm : (τ 2 sd - τ 1 (10 * j + i)).toInt = (τ 2 sd).toInt - (τ 1 (10 * j + i)).toInt := m32 (by omega) (by omega)
  have hp := mul_b (a := (cpl (τ 0 (10 * j + i)) (τ 3 sd)).toInt) (b := (τ 2 sd - τ 1 (10 * j + i)).toInt) (A := 20) (B := 20000) ⟨by omega, by omega⟩ ⟨by omega, by omega⟩
  apply Int64.toInt_inj.mp
  rw [w64, t32 (by omega) (by omega), t64 (by rw [w64, w64]; omega) (by rw [w64, w64]; omega), w64, w64]
theorem if10 {P Q : Prop} [Decidable P] (h : P ↔ Q) : ((if P then (1 : Int32) else 0) = 0) ↔ ¬ Q := by
  by_cases hp : P
  · rw [if_pos hp]; exact ⟨fun q => absurd q (by decide), fun q => absurd (h.mp hp) q⟩
  · rw [if_neg hp]; exact ⟨fun _ q => hp (h.mpr q), fun _ => rfl⟩
theorem bes0 {X Y i j : Nat} (hB : 1 ≤ X ∧ X ≤ 10 ∧ 1 ≤ Y ∧ Y ≤ 10) (hi : i < X) (hj : j < Y) : (mBes X Y (nI 0) (nI i) (nI j) = 0) ↔ ¬ j = 0 := by
  unfold mBes
  rw [if_pos (by rfl)]
  exact if10 (nI_inj (b := 0) (by omega) (by omega))
theorem bes1 {X Y i j : Nat} (hB : 1 ≤ X ∧ X ≤ 10 ∧ 1 ≤ Y ∧ Y ≤ 10) (hi : i < X) (hj : j < Y) : (mBes X Y (nI 1) (nI i) (nI j) = 0) ↔ ¬ i = X - 1 := by
  unfold mBes
  rw [if_neg (by decide), if_pos (by rfl), show nI X - 1 = nI (X - 1) from pk_sub (b := 1) hB.1]
  exact if10 (nI_inj (by omega) (by omega))
theorem bes2 {X Y i j : Nat} (hB : 1 ≤ X ∧ X ≤ 10 ∧ 1 ≤ Y ∧ Y ≤ 10) (hi : i < X) (hj : j < Y) : (mBes X Y (nI 2) (nI i) (nI j) = 0) ↔ ¬ j = Y - 1 := by
  unfold mBes
  rw [if_neg (by decide), if_neg (by decide), if_pos (by rfl), show nI Y - 1 = nI (Y - 1) from pk_sub (b := 1) hB.2.2.1]
  exact if10 (nI_inj (by omega) (by omega))
theorem bes3 {X Y i j : Nat} (hB : 1 ≤ X ∧ X ≤ 10 ∧ 1 ≤ Y ∧ Y ≤ 10) (hi : i < X) (hj : j < Y) : (mBes X Y (nI 3) (nI i) (nI j) = 0) ↔ ¬ i = 0 := by
  unfold mBes
  rw [if_neg (by decide), if_neg (by decide), if_neg (by decide)]
  exact if10 (nI_inj (b := 0) (by omega) (by omega))
/-- a side whose cells make a row -/
theorem mFl_row {X Y : Nat} {τ : Nat → Nat → Int32} {sd j0 : Nat} (hj0 : j0 < Y) (h : ∀ i j, i < X → j < Y → ((mBes X Y (nI sd) (nI i) (nI j) = 0) ↔ ¬ j = j0)) : mFl X Y τ sd = fd (fun i a => a + flT τ sd i j0) 0 X := by
  unfold mFl mFlI
  have key := fd_inv (f := fun j a => mFlR X Y τ sd j a X) (a := (0 : Int64)) (fun j x => x = if j0 < j then fd (fun i a => a + flT τ sd i j0) 0 X else 0) (by rw [if_neg (by omega)]) Y (fun j hj x e => by
    by_cases hc : j = j0
    · subst hc
      rw [if_neg (by omega)] at e
      rw [if_pos (by omega), e]
      unfold mFlR
      refine fd_congr fun i hi a => ?_
      rw [if_neg (fun q => (h i j hi hj).mp q rfl)]; rfl
    · have e2 : mFlR X Y τ sd j x X = x := by
        unfold mFlR
        refine fd_id fun i hi a => ?_
        rw [if_pos ((h i j hi hj).mpr hc)]
      rw [e2, e]
      by_cases h2 : j0 < j
      · rw [if_pos h2, if_pos (by omega)]
      · rw [if_neg h2, if_neg (by omega)])
  rw [key, if_pos hj0]
/-- a side whose cells make a column -/
theorem mFl_col {X Y : Nat} {τ : Nat → Nat → Int32} {sd i0 : Nat} (hi0 : i0 < X) (h : ∀ i j, i < X → j < Y → ((mBes X Y (nI sd) (nI i) (nI j) = 0) ↔ ¬ i = i0)) : mFl X Y τ sd = fd (fun j a => a + flT τ sd i0 j) 0 Y := by
  unfold mFl mFlI
  refine fd_congr fun j hj a => ?_
  unfold mFlR
  have e1 : fd (fun i a => if mBes X Y (nI sd) (nI i) (nI j) = 0 then a else a + (cpl (τ 0 (10 * j + i)) (τ 3 sd)).toInt64 * (τ 2 sd - τ 1 (10 * j + i)).toInt64) a X = fd (fun i a => if ¬ mBes X Y (nI sd) (nI i) (nI j) = 0 then a + flT τ sd i j else a) a X := by
    refine fd_congr fun i hi a => ?_
    by_cases hc : mBes X Y (nI sd) (nI i) (nI j) = 0
    · rw [if_pos hc, if_neg (fun q => q hc)]
    · rw [if_neg hc, if_pos hc]; rfl
  rw [e1]
  exact fd_one (t := fun i => flT τ sd i j) hi0 (fun i hi => by
    constructor
    · intro q
      exact Decidable.byContradiction fun z => q ((h i j hi hj).mpr z)
    · intro q z
      exact (h i j hi hj).mp z q)
theorem A_flow {X Y : Nat} (hB : 1 ≤ X ∧ X ≤ 10 ∧ 1 ≤ Y ∧ Y ≤ 10) {σ τ : Nat → Nat → Int32} (hC : RC X Y σ τ) (hE : SE X Y σ τ) (sd : Nat) (hsd : sd < 4) : flowS X Y σ sd = mFl X Y τ sd := by
  unfold flowS n_flow
  rcases (show sd = 0 ∨ sd = 1 ∨ sd = 2 ∨ sd = 3 by omega) with rfl | rfl | rfl | rfl
  · rw [mFl_row (j0 := 0) (by omega) (fun i j hi hj => bes0 hB hi hj)]
    refine fd_congr fun k hk a => ?_
    have e : clA X Y 0 k = pl X k 0 := rfl
    rw [e, flT_e hC hE hsd hk (by omega)]
  · rw [mFl_col (i0 := X - 1) (by omega) (fun i j hi hj => bes1 hB hi hj)]
    refine fd_congr fun k hk a => ?_
    have e : clA X Y 1 k = pl X (X - 1) k := rfl
    rw [e, flT_e hC hE hsd (by omega) hk]
  · rw [mFl_row (j0 := Y - 1) (by omega) (fun i j hi hj => bes2 hB hi hj)]
    refine fd_congr fun k hk a => ?_
    have e : clA X Y 2 k = pl X k (Y - 1) := rfl
    rw [e, flT_e hC hE hsd hk (by omega)]
  · rw [mFl_col (i0 := 0) (by omega) (fun i j hi hj => bes3 hB hi hj)]
    refine fd_congr fun k hk a => ?_
    have e : clA X Y 3 k = pl X 0 k := rfl
    rw [e, flT_e hC hE hsd (by omega) hk]
theorem lg_le (x : Int64) : (lg_cmp x 0 ≤ 0) ↔ x ≤ 0 := lg_cmp_le x 0
theorem A_heat {X Y : Nat} (hB : 1 ≤ X ∧ X ≤ 10 ∧ 1 ≤ Y ∧ Y ≤ 10) {σ τ : Nat → Nat → Int32} (hC : RC X Y σ τ) (hE : SE X Y σ τ) : n_heat X Y σ 4 = n_mh X Y τ 4 := by
  unfold n_heat n_mh
  refine fd_congr fun sd hsd a => ?_
  rw [A_flow hB hC hE sd hsd]
  generalize mFl X Y τ sd = x
  have h0 : (0 : Int64).toInt = 0 := rfl
  by_cases h1 : lg_cmp x 0 ≤ 0
  · rw [if_pos h1]
    have h2 := (lg_le x).mp h1
    by_cases h3 : x < 0
    · rw [if_pos h3]; exact Int64.add_zero a
    · rw [if_neg h3]
      have : x = 0 := by
        apply Int64.toInt_inj.mp
        rw [Int64.le_iff_toInt_le] at h2
        rw [Int64.lt_iff_toInt_lt] at h3
        omega
      rw [this]; exact Int64.add_zero a
  · rw [if_neg h1, if_neg]
    intro h3
    apply h1
    rw [lg_le, Int64.le_iff_toInt_le]
    rw [Int64.lt_iff_toInt_lt] at h3
    omega
theorem A_rest {X Y : Nat} (hB : 1 ≤ X ∧ X ≤ 10 ∧ 1 ≤ Y ∧ Y ≤ 10) {σ τ : Nat → Nat → Int32} (hC : RC X Y σ τ) (hE : SE X Y σ τ) : n_rest X Y σ 4 = mFl X Y τ 0 + mFl X Y τ 1 + mFl X Y τ 2 + mFl X Y τ 3 := by
  show ((((0 : Int64) + flowS X Y σ 0) + flowS X Y σ 1) + flowS X Y σ 2) + flowS X Y σ 3 = _
  rw [A_flow hB hC hE 0 (by decide), A_flow hB hC hE 1 (by decide), A_flow hB hC hE 2 (by decide), A_flow hB hC hE 3 (by decide), Int64.zero_add]
