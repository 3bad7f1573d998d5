/-! the class's sweeps -/
theorem up_e (τ : Nat → Nat → Int32) (a k : Nat) (v : Int32) (b j : Nat) : up2 τ a k v b j = if b = a ∧ j = k then v else τ b j := by
  by_cases h : b = a ∧ j = k
  · rw [if_pos h]; obtain ⟨rfl, rfl⟩ := h; exact up_at _ _ _ _
  · rw [if_neg h]; exact up_ne h
theorem uq {m A B s t : Nat} (hs : s < m) (ht : t < m) (h : A * m + s = B * m + t) : A = B ∧ s = t := by
  have h1 : (A * m + s) / m = A := by rw [Nat.mul_comm, Nat.mul_add_div (by omega), Nat.div_eq_of_lt hs]; rfl
  have h2 : (B * m + t) / m = B := by rw [Nat.mul_comm, Nat.mul_add_div (by omega), Nat.div_eq_of_lt ht]; rfl
  have h3 : A = B := by rw [← h1, ← h2, h]
  exact ⟨h3, by rw [h3] at h; omega⟩
theorem pl_at {X a b A t : Nat} (ha : a < X) (ht : t < X + 2) : pl X a b = A * (X + 2) + t ↔ (b + 1 = A ∧ a + 1 = t) := by
  unfold pl
  constructor
  · intro h
    exact uq (m := X + 2) (by omega) ht (by omega)
  · rintro ⟨rfl, rfl⟩; omega
theorem pl_iff {X a b i j : Nat} (ha : a < X) (hi : i < X) : pl X a b = pl X i j ↔ (a = i ∧ b = j) := by
  have : pl X i j = (j + 1) * (X + 2) + (i + 1) := by unfold pl; omega
  rw [this, pl_at ha (by omega)]
  omega
theorem pl_E {X a b i j : Nat} (ha : a < X) (hi : i < X) : pl X a b = pl X i j + 1 ↔ (a = i + 1 ∧ b = j) := by
  have : pl X i j + 1 = (j + 1) * (X + 2) + (i + 2) := by unfold pl; omega
  rw [this, pl_at ha (by omega)]
  omega
theorem pl_W {X a b i j : Nat} (ha : a < X) (hi : i < X) : pl X a b = pl X i j - 1 ↔ (a + 1 = i ∧ b = j) := by
  have : pl X i j - 1 = (j + 1) * (X + 2) + i := by unfold pl; omega
  rw [this, pl_at ha (by omega)]
  omega
theorem pl_S {X a b i j : Nat} (ha : a < X) (hi : i < X) : pl X a b = pl X i j + (X + 2) ↔ (a = i ∧ b = j + 1) := by
  have : pl X i j + (X + 2) = (j + 1 + 1) * (X + 2) + (i + 1) := by unfold pl; rw [Nat.succ_mul (j + 1)]; omega
  rw [this, pl_at ha (by omega)]
  omega
theorem pl_N2 {X a b i j : Nat} (ha : a < X) (hi : i < X) : pl X a b = pl X i j - (X + 2) ↔ (a = i ∧ b + 1 = j) := by
  have : pl X i j - (X + 2) = j * (X + 2) + (i + 1) := by unfold pl; rw [Nat.succ_mul]; omega
  rw [this, pl_at ha (by omega)]
  omega
theorem raise_row {X : Nat} {σ : Nat → Nat → Int32} {c : Nat} {st : Int32} {a : Nat} (h1 : ¬ a = 1) (h5 : ¬ a = 5) : f_raise X σ c st a = σ a := by
  unfold f_raise
  rw [up_row h5, up_row h5, up_row h5, up_row h5, up_row h5, up_row h1]
theorem raise_1 {X : Nat} {σ : Nat → Nat → Int32} {c : Nat} {st : Int32} (p : Nat) : f_raise X σ c st 1 p = if p = c then σ 1 c + st else σ 1 p := by
  unfold f_raise
  rw [up_row (by decide), up_row (by decide), up_row (by decide), up_row (by decide), up_row (by decide), up_e]
  by_cases h : p = c
  · rw [if_pos ⟨rfl, h⟩, if_pos h]
  · rw [if_neg (fun q => h q.2), if_neg h]
theorem raise_5 {X : Nat} {σ : Nat → Nat → Int32} {c : Nat} {st : Int32} (hX : 1 ≤ X) (hc : X + 2 ≤ c) (p : Nat) : f_raise X σ c st 5 p = if p = c then σ 5 c - st * σ 4 c else if p = c + 1 then σ 5 p + st * σ 2 c else if p = c - 1 then σ 5 p + st * σ 2 (c - 1) else if p = c + (X + 2) then σ 5 p + st * σ 3 c else if p = c - (X + 2) then σ 5 p + st * σ 3 (c - (X + 2)) else σ 5 p := by
  have n1 : ¬ c + 1 = c := by omega
  have n2 : ¬ c - 1 = c := by omega
  have n3 : ¬ c - 1 = c + 1 := by omega
  have n4 : ¬ c + (X + 2) = c := by omega
  have n5 : ¬ c + (X + 2) = c + 1 := by omega
  have n6 : ¬ c + (X + 2) = c - 1 := by omega
  have n7 : ¬ c - (X + 2) = c := by omega
  have n8 : ¬ c - (X + 2) = c + 1 := by omega
  have n9 : ¬ c - (X + 2) = c - 1 := by omega
  have n10 : ¬ c - (X + 2) = c + (X + 2) := by omega
  have m1 : ¬ c = c + 1 := by omega
  have m2 : ¬ c = c - 1 := by omega
  have m4 : ¬ c = c + (X + 2) := by omega
  have m7 : ¬ c = c - (X + 2) := by omega
  have m3 : ¬ c + 1 = c - 1 := by omega
  have m5 : ¬ c + 1 = c + (X + 2) := by omega
  have m8 : ¬ c + 1 = c - (X + 2) := by omega
  have m6 : ¬ c - 1 = c + (X + 2) := by omega
  have m9 : ¬ c - 1 = c - (X + 2) := by omega
  have m10 : ¬ c + (X + 2) = c - (X + 2) := by omega
  have d54 : ¬ (4 : Nat) = 5 := by decide
  have d52 : ¬ (2 : Nat) = 5 := by decide
  have d53 : ¬ (3 : Nat) = 5 := by decide
  have d51 : ¬ (5 : Nat) = 1 := by decide
  have d41 : ¬ (4 : Nat) = 1 := by decide
  have d21 : ¬ (2 : Nat) = 1 := by decide
  have d31 : ¬ (3 : Nat) = 1 := by decide
  unfold f_raise
  simp only [up_e, true_and, false_and, if_false, if_true, n1, n2, n3, n4, n5, n6, n7, n8, n9, n10, d54, d52, d53, d51, d41, d21, d31]
  by_cases h1 : p = c
  · subst h1; simp only [m1, m2, m4, m7, if_false, if_true]
  by_cases h2 : p = c + 1
  · subst h2; simp only [n1, m3, m5, m8, if_false, if_true]
  by_cases h3 : p = c - 1
  · subst h3; simp only [n2, n3, m6, m9, if_false, if_true]
  by_cases h4 : p = c + (X + 2)
  · subst h4; simp only [n4, n5, n6, m10, if_false, if_true]
  by_cases h5 : p = c - (X + 2)
  · subst h5; simp only [n7, n8, n9, n10, if_false, if_true]
  simp only [h1, h2, h3, h4, h5, if_false]
/-- what lies beside a cell, seen from there -/
theorem nw_v0 {X Y : Nat} {τ : Nat → Nat → Int32} {u : Nat → Nat → Int} {a b : Nat} (h : ¬ b = 0) : nw X Y τ u 0 a b = u a (b - 1) := by unfold nw; rw [if_pos rfl, if_neg h]
theorem nw_v1 {X Y : Nat} {τ : Nat → Nat → Int32} {u : Nat → Nat → Int} {a b : Nat} (h : ¬ a + 1 = X) : nw X Y τ u 1 a b = u (a + 1) b := by unfold nw; rw [if_neg (by decide), if_pos rfl, if_neg h]
theorem nw_v2 {X Y : Nat} {τ : Nat → Nat → Int32} {u : Nat → Nat → Int} {a b : Nat} (h : ¬ b + 1 = Y) : nw X Y τ u 2 a b = u a (b + 1) := by unfold nw; rw [if_neg (by decide), if_neg (by decide), if_pos rfl, if_neg h]
theorem nw_v3 {X Y : Nat} {τ : Nat → Nat → Int32} {u : Nat → Nat → Int} {a b : Nat} (h : ¬ a = 0) : nw X Y τ u 3 a b = u (a - 1) b := by unfold nw; rw [if_neg (by decide), if_neg (by decide), if_neg (by decide), if_neg h]
theorem nw_s0 {X Y : Nat} {τ : Nat → Nat → Int32} {u : Nat → Nat → Int} {a b : Nat} (h : b = 0) : nw X Y τ u 0 a b = (τ 2 0).toInt := by unfold nw; rw [if_pos rfl, if_pos h]
theorem nw_s1 {X Y : Nat} {τ : Nat → Nat → Int32} {u : Nat → Nat → Int} {a b : Nat} (h : a + 1 = X) : nw X Y τ u 1 a b = (τ 2 1).toInt := by unfold nw; rw [if_neg (by decide), if_pos rfl, if_pos h]
theorem nw_s2 {X Y : Nat} {τ : Nat → Nat → Int32} {u : Nat → Nat → Int} {a b : Nat} (h : b + 1 = Y) : nw X Y τ u 2 a b = (τ 2 2).toInt := by unfold nw; rw [if_neg (by decide), if_neg (by decide), if_pos rfl, if_pos h]
theorem nw_s3 {X Y : Nat} {τ : Nat → Nat → Int32} {u : Nat → Nat → Int} {a b : Nat} (h : a = 0) : nw X Y τ u 3 a b = (τ 2 3).toInt := by unfold nw; rw [if_neg (by decide), if_neg (by decide), if_neg (by decide), if_pos h]
theorem nw_up0 {X Y : Nat} {τ : Nat → Nat → Int32} {u : Nat → Nat → Int} {i j a b : Nat} {x : Int} : nw X Y τ (upC u i j x) 0 a b = if ¬ b = 0 ∧ a = i ∧ b = j + 1 then x else nw X Y τ u 0 a b := by
  by_cases h : b = 0
  · rw [nw_s0 h, nw_s0 h, if_neg (fun q => q.1 h)]
  · rw [nw_v0 h, nw_v0 h]
    unfold upC
    by_cases h2 : a = i ∧ b - 1 = j
    · rw [if_pos h2, if_pos ⟨h, by omega⟩]
    · rw [if_neg h2, if_neg (fun q => h2 (by omega))]
theorem nw_up1 {X Y : Nat} {τ : Nat → Nat → Int32} {u : Nat → Nat → Int} {i j a b : Nat} {x : Int} : nw X Y τ (upC u i j x) 1 a b = if ¬ a + 1 = X ∧ a + 1 = i ∧ b = j then x else nw X Y τ u 1 a b := by
  by_cases h : a + 1 = X
  · rw [nw_s1 h, nw_s1 h, if_neg (fun q => q.1 h)]
  · rw [nw_v1 h, nw_v1 h]
    unfold upC
    by_cases h2 : a + 1 = i ∧ b = j
    · rw [if_pos h2, if_pos ⟨h, by omega⟩]
    · rw [if_neg h2, if_neg (fun q => h2 (by omega))]
theorem nw_up2 {X Y : Nat} {τ : Nat → Nat → Int32} {u : Nat → Nat → Int} {i j a b : Nat} {x : Int} : nw X Y τ (upC u i j x) 2 a b = if ¬ b + 1 = Y ∧ a = i ∧ b + 1 = j then x else nw X Y τ u 2 a b := by
  by_cases h : b + 1 = Y
  · rw [nw_s2 h, nw_s2 h, if_neg (fun q => q.1 h)]
  · rw [nw_v2 h, nw_v2 h]
    unfold upC
    by_cases h2 : a = i ∧ b + 1 = j
    · rw [if_pos h2, if_pos ⟨h, by omega⟩]
    · rw [if_neg h2, if_neg (fun q => h2 (by omega))]
theorem nw_up3 {X Y : Nat} {τ : Nat → Nat → Int32} {u : Nat → Nat → Int} {i j a b : Nat} {x : Int} : nw X Y τ (upC u i j x) 3 a b = if ¬ a = 0 ∧ a = i + 1 ∧ b = j then x else nw X Y τ u 3 a b := by
  by_cases h : a = 0
  · rw [nw_s3 h, nw_s3 h, if_neg (fun q => q.1 h)]
  · rw [nw_v3 h, nw_v3 h]
    unfold upC
    by_cases h2 : a - 1 = i ∧ b = j
    · rw [if_pos h2, if_pos ⟨h, by omega⟩]
    · rw [if_neg h2, if_neg (fun q => h2 (by omega))]
/-- G is the same from both sides -/
theorem gD_ew {X Y : Nat} {τ : Nat → Nat → Int32} (hT : TB X Y τ) {i j : Nat} (hi : i + 1 < X) (hj : j < Y) : gD X Y τ 3 (i + 1) j = gD X Y τ 1 i j := by
  unfold gD nbC
  rw [if_neg (by decide), if_neg (by decide), if_neg (by decide), if_neg (by omega), if_neg (by decide), if_pos rfl, if_neg (by omega), Nat.add_sub_cancel]
  rw [(cpl_b (hT.1 (i + 1) j hi hj) (hT.1 i j (by omega) hj)).2.2.1]
theorem gD_ns {X Y : Nat} {τ : Nat → Nat → Int32} (hT : TB X Y τ) {i j : Nat} (hi : i < X) (hj : j + 1 < Y) : gD X Y τ 0 i (j + 1) = gD X Y τ 2 i j := by
  unfold gD nbC
  rw [if_pos rfl, if_neg (by omega), if_neg (by decide), if_neg (by decide), if_pos rfl, if_neg (by omega), Nat.add_sub_cancel]
  rw [(cpl_b (hT.1 i (j + 1) hi hj) (hT.1 i j hi (by omega))).2.2.1]
def GX (X Y : Nat) (τ0 σ : Nat → Nat → Int32) : Prop := ∀ i j, i < X → j < Y → (σ 4 (pl X i j)).toInt = GG X Y τ0 i j ∧ (σ 2 (pl X i j)).toInt = gD X Y τ0 1 i j ∧ (σ 2 (pl X i j - 1)).toInt = gD X Y τ0 3 i j ∧ (σ 3 (pl X i j)).toInt = gD X Y τ0 2 i j ∧ (σ 3 (pl X i j - (X + 2))).toInt = gD X Y τ0 0 i j
def CR (X Y : Nat) (τ0 σ : Nat → Nat → Int32) (u : Nat → Nat → Int) : Prop := ∀ i j, i < X → j < Y → (σ 1 (pl X i j)).toInt = u i j ∧ (σ 5 (pl X i j)).toInt = PP X Y τ0 u i j - GG X Y τ0 i j * u i j
def KS (X Y : Nat) (σ0 σ : Nat → Nat → Int32) : Prop := (∀ a, ¬ a = 1 → ¬ a = 5 → σ a = σ0 a) ∧ ∀ p, (∀ i j, i < X → j < Y → ¬ p = pl X i j) → σ 1 p = σ0 1 p
theorem nwu_b {X Y : Nat} {τ : Nat → Nat → Int32} (hT : TB X Y τ) {u : Nat → Nat → Int} (hu : ∀ i j, i < X → j < Y → -10000 ≤ u i j ∧ u i j ≤ 10000) {i j : Nat} (hi : i < X) (hj : j < Y) (d : Nat) : -10000 ≤ nw X Y τ u d i j ∧ nw X Y τ u d i j ≤ 10000 := by
  unfold nw
  by_cases d0 : d = 0
  · rw [if_pos d0]; split
    · exact (hT.2 0 (by decide)).1
    · exact hu i (j - 1) hi (by omega)
  · rw [if_neg d0]
    by_cases d1 : d = 1
    · rw [if_pos d1]; split
      · exact (hT.2 1 (by decide)).1
      · exact hu (i + 1) j (by omega) hj
    · rw [if_neg d1]
      by_cases d2 : d = 2
      · rw [if_pos d2]; split
        · exact (hT.2 2 (by decide)).1
        · exact hu i (j + 1) hi (by omega)
      · rw [if_neg d2]; split
        · exact (hT.2 3 (by decide)).1
        · exact hu (i - 1) j (by omega) hj
theorem sur_b {X Y : Nat} {τ : Nat → Nat → Int32} (hT : TB X Y τ) {u : Nat → Nat → Int} (hu : ∀ i j, i < X → j < Y → -10000 ≤ u i j ∧ u i j ≤ 10000) {i j : Nat} (hi : i < X) (hj : j < Y) : -1600000 ≤ PP X Y τ u i j - GG X Y τ i j * u i j ∧ PP X Y τ u i j - GG X Y τ i j * u i j ≤ 1600000 := by
  have h1 := PP_b hT hi hj (nwu_b hT hu hi hj)
  have h2 := GG_b hT hi hj
  have h3 := mul_b (a := GG X Y τ i j) (b := u i j) (A := 80) (B := 10000) ⟨by omega, by omega⟩ (hu i j hi hj)
  omega
