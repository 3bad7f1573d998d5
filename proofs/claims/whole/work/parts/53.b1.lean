/-! THE LEAST STATE, in whole numbers -/
/-- the warmth of what lies beside a cell -/
def nw (X Y : Nat) (τ : Nat → Nat → Int32) (u : Nat → Nat → Int) (d i j : Nat) : Int :=
  if d = 0 then (if j = 0 then (τ 2 0).toInt else u i (j - 1)) else if d = 1 then (if i + 1 = X then (τ 2 1).toInt else u (i + 1) j) else if d = 2 then (if j + 1 = Y then (τ 2 2).toInt else u i (j + 1)) else (if i = 0 then (τ 2 3).toInt else u (i - 1) j)
def PP (X Y : Nat) (τ : Nat → Nat → Int32) (u : Nat → Nat → Int) (i j : Nat) : Int := gD X Y τ 0 i j * nw X Y τ u 0 i j + gD X Y τ 1 i j * nw X Y τ u 1 i j + gD X Y τ 2 i j * nw X Y τ u 2 i j + gD X Y τ 3 i j * nw X Y τ u 3 i j
def FF (X Y : Nat) (τ : Nat → Nat → Int32) (lw : Int) (u : Nat → Nat → Int) (i j : Nat) : Int := if GG X Y τ i j = 0 then lw else PP X Y τ u i j / GG X Y τ i j
/-- the leads and the films of the reference are between their bounds -/
def TB (X Y : Nat) (τ : Nat → Nat → Int32) : Prop := (∀ i j, i < X → j < Y → rng (τ 0 (10 * j + i)) 0 20) ∧ (∀ sd, sd < 4 → rng (τ 2 sd) (-10000) 10000 ∧ rng (τ 3 sd) 0 20)
theorem RC_TB {X Y : Nat} {σ τ : Nat → Nat → Int32} (h : RC X Y σ τ) : TB X Y τ := ⟨fun i j hi hj => (h.1 i j hi hj).2, fun sd hsd => ⟨(h.2.2.1 sd hsd).2.2.1, (h.2.2.1 sd hsd).2.2.2⟩⟩
theorem nbC_b {X Y : Nat} {τ : Nat → Nat → Int32} (h : TB X Y τ) {i j : Nat} (hi : i < X) (hj : j < Y) (d : Nat) : rng (nbC X Y τ d i j) 0 20 := by
  unfold nbC
  by_cases d0 : d = 0
  · rw [if_pos d0]; split
    · exact (h.2 0 (by decide)).2
    · exact h.1 i (j - 1) hi (by omega)
  · rw [if_neg d0]
    by_cases d1 : d = 1
    · rw [if_pos d1]; split
      · exact (h.2 1 (by decide)).2
      · exact h.1 (i + 1) j (by omega) hj
    · rw [if_neg d1]
      by_cases d2 : d = 2
      · rw [if_pos d2]; split
        · exact (h.2 2 (by decide)).2
        · exact h.1 i (j + 1) hi (by omega)
      · rw [if_neg d2]; split
        · exact (h.2 3 (by decide)).2
        · exact h.1 (i - 1) j (by omega) hj
theorem gD_b {X Y : Nat} {τ : Nat → Nat → Int32} (h : TB X Y τ) {i j : Nat} (hi : i < X) (hj : j < Y) (d : Nat) : 0 ≤ gD X Y τ d i j ∧ gD X Y τ d i j ≤ 20 := by
  have := cpl_b (h.1 i j hi hj) (nbC_b h hi hj d)
  exact ⟨this.1, this.2.1⟩
theorem GG_b {X Y : Nat} {τ : Nat → Nat → Int32} (h : TB X Y τ) {i j : Nat} (hi : i < X) (hj : j < Y) : 0 ≤ GG X Y τ i j ∧ GG X Y τ i j ≤ 80 := by
  have h0 := gD_b h hi hj 0
  have h1 := gD_b h hi hj 1
  have h2 := gD_b h hi hj 2
  have h3 := gD_b h hi hj 3
  unfold GG; omega
/-- warmer beside it, warmer it -/
theorem nw_mono {X Y : Nat} {τ : Nat → Nat → Int32} {u v : Nat → Nat → Int} (h : ∀ i j, i < X → j < Y → u i j ≤ v i j) {i j : Nat} (hi : i < X) (hj : j < Y) (d : Nat) : nw X Y τ u d i j ≤ nw X Y τ v d i j := by
  unfold nw
  by_cases d0 : d = 0
  · rw [if_pos d0, if_pos d0]; split
    · exact Int.le_refl _
    · exact h i (j - 1) hi (by omega)
  · rw [if_neg d0, if_neg d0]
    by_cases d1 : d = 1
    · rw [if_pos d1, if_pos d1]; split
      · exact Int.le_refl _
      · exact h (i + 1) j (by omega) hj
    · rw [if_neg d1, if_neg d1]
      by_cases d2 : d = 2
      · rw [if_pos d2, if_pos d2]; split
        · exact Int.le_refl _
        · exact h i (j + 1) hi (by omega)
      · rw [if_neg d2, if_neg d2]; split
        · exact Int.le_refl _
        · exact h (i - 1) j (by omega) hj
theorem FF_mono {X Y : Nat} {τ : Nat → Nat → Int32} (hT : TB X Y τ) {lw : Int} {u v : Nat → Nat → Int} (h : ∀ i j, i < X → j < Y → u i j ≤ v i j) {i j : Nat} (hi : i < X) (hj : j < Y) : FF X Y τ lw u i j ≤ FF X Y τ lw v i j := by
  unfold FF
  split
  · exact Int.le_refl _
  · have hg := GG_b hT hi hj
    refine Int.ediv_le_ediv (by omega) ?_
    unfold PP
    have m : ∀ d, gD X Y τ d i j * nw X Y τ u d i j ≤ gD X Y τ d i j * nw X Y τ v d i j := fun d => Int.mul_le_mul_of_nonneg_left (nw_mono h hi hj d) (gD_b hT hi hj d).1
    have m0 := m 0; have m1 := m 1; have m2 := m 2; have m3 := m 3
    omega
def Pst (X Y : Nat) (τ : Nat → Nat → Int32) (lw : Int) (u : Nat → Nat → Int) : Prop := ∀ i j, i < X → j < Y → FF X Y τ lw u i j ≤ u i j
def Lst (X Y : Nat) (τ : Nat → Nat → Int32) (lw : Int) (u : Nat → Nat → Int) : Prop := (∀ i j, i < X → j < Y → lw ≤ u i j) ∧ ∀ v, (∀ i j, i < X → j < Y → lw ≤ v i j) → Pst X Y τ lw v → ∀ i j, i < X → j < Y → u i j ≤ v i j
def upC (u : Nat → Nat → Int) (i j : Nat) (x : Int) : Nat → Nat → Int := fun a b => if a = i ∧ b = j then x else u a b
theorem Lst_0 (X Y : Nat) (τ : Nat → Nat → Int32) (lw : Int) : Lst X Y τ lw (fun _ _ => lw) := ⟨fun _ _ _ _ => Int.le_refl _, fun v h _ i j hi hj => h i j hi hj⟩
theorem Lst_up {X Y : Nat} {τ : Nat → Nat → Int32} (hT : TB X Y τ) {lw : Int} {u : Nat → Nat → Int} (h : Lst X Y τ lw u) {i j : Nat} (hi : i < X) (hj : j < Y) (hr : u i j ≤ FF X Y τ lw u i j) : Lst X Y τ lw (upC u i j (FF X Y τ lw u i j)) := by
  refine ⟨fun a b ha hb => ?_, fun v h1 h2 a b ha hb => ?_⟩
  · unfold upC; split
    · have := h.1 i j hi hj; omega
    · exact h.1 a b ha hb
  · have hle := h.2 v h1 h2
    unfold upC; split
    · rename_i q
      obtain ⟨rfl, rfl⟩ := q
      exact Int.le_trans (FF_mono hT hle hi hj) (h2 a b hi hj)
    · exact hle a b ha hb
theorem Lst_one {X Y : Nat} {τ : Nat → Nat → Int32} {lw : Int} {u v : Nat → Nat → Int} (hu : Lst X Y τ lw u) (pu : Pst X Y τ lw u) (hv : Lst X Y τ lw v) (pv : Pst X Y τ lw v) : ∀ i j, i < X → j < Y → u i j = v i j := fun i j hi hj =>
  Int.le_antisymm (hu.2 v hv.1 pv i j hi hj) (hv.2 u hu.1 pu i j hi hj)
/-- LOW and HIGH as they are asked for -/
def LH (τ : Nat → Nat → Int32) (lw hg : Int) : Prop := lw ≤ hg ∧ ∀ sd, sd < 4 → 0 < (τ 3 sd).toInt → (τ 2 sd).toInt ≤ hg
theorem cpl_0 {a b : Int32} (h : b.toInt ≤ 0) : (cpl a b).toInt = 0 := by
  unfold cpl
  by_cases h1 : a ≤ 0
  · rw [if_pos h1]; rfl
  · rw [if_neg h1, if_pos ((le0 b).mpr h)]; rfl
theorem Pst_hi {X Y : Nat} {τ : Nat → Nat → Int32} (hT : TB X Y τ) {lw hg : Int} (h : LH τ lw hg) : Pst X Y τ lw (fun _ _ => hg) := by
  intro i j hi hj
  unfold FF
  split
  · exact h.1
  · rename_i hne
    have hG := GG_b hT hi hj
    have key : ∀ d, d < 4 → gD X Y τ d i j * nw X Y τ (fun _ _ => hg) d i j ≤ gD X Y τ d i j * hg := by
      intro d hd
      have hside : ∀ sd, sd < 4 → nbC X Y τ d i j = τ 3 sd → gD X Y τ d i j * (τ 2 sd).toInt ≤ gD X Y τ d i j * hg := by
        intro sd hsd e
        by_cases hp : 0 < (τ 3 sd).toInt
        · exact Int.mul_le_mul_of_nonneg_left (h.2 sd hsd hp) (gD_b hT hi hj d).1
        · have : gD X Y τ d i j = 0 := by
            unfold gD; rw [e]; exact cpl_0 (by omega)
          rw [this]; omega
      rcases (show d = 0 ∨ d = 1 ∨ d = 2 ∨ d = 3 by omega) with rfl | rfl | rfl | rfl
      · by_cases q : j = 0
        · have e : nw X Y τ (fun _ _ => hg) 0 i j = (τ 2 0).toInt := by unfold nw; rw [if_pos rfl, if_pos q]
          rw [e]; exact hside 0 (by decide) (by unfold nbC; rw [if_pos rfl, if_pos q])
        · have e : nw X Y τ (fun _ _ => hg) 0 i j = hg := by unfold nw; rw [if_pos rfl, if_neg q]
          rw [e]; exact Int.le_refl _
      · by_cases q : i + 1 = X
        · have e : nw X Y τ (fun _ _ => hg) 1 i j = (τ 2 1).toInt := by unfold nw; rw [if_neg (by decide), if_pos rfl, if_pos q]
          rw [e]; exact hside 1 (by decide) (by unfold nbC; rw [if_neg (by decide), if_pos rfl, if_pos q])
        · have e : nw X Y τ (fun _ _ => hg) 1 i j = hg := by unfold nw; rw [if_neg (by decide), if_pos rfl, if_neg q]
          rw [e]; exact Int.le_refl _
      · by_cases q : j + 1 = Y
        · have e : nw X Y τ (fun _ _ => hg) 2 i j = (τ 2 2).toInt := by unfold nw; rw [if_neg (by decide), if_neg (by decide), if_pos rfl, if_pos q]
          rw [e]; exact hside 2 (by decide) (by unfold nbC; rw [if_neg (by decide), if_neg (by decide), if_pos rfl, if_pos q])
        · have e : nw X Y τ (fun _ _ => hg) 2 i j = hg := by unfold nw; rw [if_neg (by decide), if_neg (by decide), if_pos rfl, if_neg q]
          rw [e]; exact Int.le_refl _
      · by_cases q : i = 0
        · have e : nw X Y τ (fun _ _ => hg) 3 i j = (τ 2 3).toInt := by unfold nw; rw [if_neg (by decide), if_neg (by decide), if_neg (by decide), if_pos q]
          rw [e]; exact hside 3 (by decide) (by unfold nbC; rw [if_neg (by decide), if_neg (by decide), if_neg (by decide), if_pos q])
        · have e : nw X Y τ (fun _ _ => hg) 3 i j = hg := by unfold nw; rw [if_neg (by decide), if_neg (by decide), if_neg (by decide), if_neg q]
          rw [e]; exact Int.le_refl _
    have hs : PP X Y τ (fun _ _ => hg) i j ≤ GG X Y τ i j * hg := by
      have k0 := key 0 (by decide); have k1 := key 1 (by decide); have k2 := key 2 (by decide); have k3 := key 3 (by decide)
      unfold PP GG
      rw [Int.add_mul, Int.add_mul, Int.add_mul]
      omega
    have := Int.ediv_le_ediv (c := GG X Y τ i j) (by omega) hs
    rw [Int.mul_ediv_cancel_left _ hne] at this
    exact this
theorem Lst_hi {X Y : Nat} {τ : Nat → Nat → Int32} (hT : TB X Y τ) {lw hg : Int} (h : LH τ lw hg) {u : Nat → Nat → Int} (hu : Lst X Y τ lw u) : ∀ i j, i < X → j < Y → lw ≤ u i j ∧ u i j ≤ hg := fun i j hi hj => ⟨hu.1 i j hi hj, hu.2 _ (fun _ _ _ _ => h.1) (Pst_hi hT h) i j hi hj⟩
/-! the sum over all cells -/
def Srow (u : Nat → Nat → Int) (j : Nat) (n : Nat) : Int := fd (fun i a => a + u i j) 0 n
def Sall (X : Nat) (u : Nat → Nat → Int) (n : Nat) : Int := fd (fun j a => a + Srow u j X) 0 n
theorem Srow_up {u : Nat → Nat → Int} {i j b : Nat} {x : Int} (n : Nat) : Srow (upC u i j x) b n = Srow u b n + (if b = j ∧ i < n then x - u i j else 0) := by
  induction n with
  | zero => unfold Srow; rw [fd_0, fd_0, if_neg (by omega)]; rfl
  | succ n ih =>
    have e1 : Srow (upC u i j x) b (n + 1) = Srow (upC u i j x) b n + upC u i j x n b := rfl
    have e2 : Srow u b (n + 1) = Srow u b n + u n b := rfl
    rw [e1, e2, ih]
    unfold upC
    by_cases h1 : n = i ∧ b = j
    · obtain ⟨rfl, rfl⟩ := h1
      have q1 : (if n = n ∧ b = b then x else u n b) = x := if_pos ⟨rfl, rfl⟩
      have q2 : (if b = b ∧ n < n then x - u n b else 0) = 0 := if_neg (fun z => absurd z.2 (Nat.lt_irrefl _))
      have q3 : (if b = b ∧ n < n + 1 then x - u n b else 0) = x - u n b := if_pos ⟨rfl, Nat.lt_succ_self _⟩
      rw [q1, q2, q3]; omega
    · have q1 : (if n = i ∧ b = j then x else u n b) = u n b := if_neg h1
      rw [q1]
      by_cases h2 : b = j ∧ i < n
      · have q2 : (if b = j ∧ i < n then x - u i j else 0) = x - u i j := if_pos h2
        have q3 : (if b = j ∧ i < n + 1 then x - u i j else 0) = x - u i j := if_pos ⟨h2.1, by omega⟩
        rw [q2, q3]; omega
      · have q2 : (if b = j ∧ i < n then x - u i j else 0) = 0 := if_neg h2
        have q3 : (if b = j ∧ i < n + 1 then x - u i j else 0) = 0 := if_neg (by omega)
        rw [q2, q3]; omega
theorem Sall_up {X : Nat} {u : Nat → Nat → Int} {i j : Nat} {x : Int} (hi : i < X) (n : Nat) : Sall X (upC u i j x) n = Sall X u n + (if j < n then x - u i j else 0) := by
  induction n with
  | zero => unfold Sall; rw [fd_0, fd_0, if_neg (by omega)]; rfl
  | succ n ih =>
    have e1 : Sall X (upC u i j x) (n + 1) = Sall X (upC u i j x) n + Srow (upC u i j x) n X := rfl
    have e2 : Sall X u (n + 1) = Sall X u n + Srow u n X := rfl
    rw [e1, e2, ih, Srow_up]
    by_cases h1 : n = j
    · subst h1
      have q1 : (if n < n then x - u i n else 0) = 0 := if_neg (Nat.lt_irrefl _)
      have q2 : (if n = n ∧ i < X then x - u i n else 0) = x - u i n := if_pos ⟨rfl, hi⟩
      have q3 : (if n < n + 1 then x - u i n else 0) = x - u i n := if_pos (Nat.lt_succ_self _)
      rw [q1, q2, q3]; omega
    · have q2 : (if n = j ∧ i < X then x - u i j else 0) = 0 := if_neg (fun q => h1 q.1)
      rw [q2]
      by_cases h2 : j < n
      · have q1 : (if j < n then x - u i j else 0) = x - u i j := if_pos h2
        have q3 : (if j < n + 1 then x - u i j else 0) = x - u i j := if_pos (by omega)
        rw [q1, q3]; omega
      · have q1 : (if j < n then x - u i j else 0) = 0 := if_neg h2
        have q3 : (if j < n + 1 then x - u i j else 0) = 0 := if_neg (by omega)
        rw [q1, q3]; omega
theorem Srow_le {u : Nat → Nat → Int} {j : Nat} {c : Int} (n : Nat) (h : ∀ i, i < n → u i j ≤ c) : Srow u j n ≤ n * c := by
  induction n with
  | zero => show (0 : Int) ≤ _; simp
  | succ n ih =>
    have e2 : Srow u j (n + 1) = Srow u j n + u n j := rfl
    have := ih fun i hi => h i (by omega)
    have := h n (by omega)
    rw [e2]
    have e3 : ((n + 1 : Nat) : Int) * c = (n : Int) * c + c := by push_cast; rw [Int.add_mul, Int.one_mul]
    rw [e3]; omega
theorem Sall_le {X : Nat} {u : Nat → Nat → Int} {c : Int} (n : Nat) (h : ∀ i j, i < X → j < n → u i j ≤ c) : Sall X u n ≤ n * (X * c) := by
  induction n with
  | zero => show (0 : Int) ≤ _; simp
  | succ n ih =>
    have e2 : Sall X u (n + 1) = Sall X u n + Srow u n X := rfl
    have := ih fun i j hi hj => h i j hi (by omega)
    have := Srow_le (u := u) (j := n) (c := c) X fun i hi => h i n hi (by omega)
    rw [e2]
    have e3 : ((n + 1 : Nat) : Int) * ((X : Int) * c) = (n : Int) * ((X : Int) * c) + (X : Int) * c := by push_cast; rw [Int.add_mul, Int.one_mul]
    rw [e3]; omega
theorem Srow_c (j : Nat) (c : Int) (n : Nat) : Srow (fun _ _ => c) j n = n * c := by
  induction n with
  | zero => show (0 : Int) = _; simp
  | succ n ih =>
    have e2 : Srow (fun _ _ => c) j (n + 1) = Srow (fun _ _ => c) j n + c := rfl
    rw [e2, ih]; push_cast; rw [Int.add_mul, Int.one_mul]
theorem Sall_c (X : Nat) (c : Int) (n : Nat) : Sall X (fun _ _ => c) n = n * (X * c) := by
  induction n with
  | zero => show (0 : Int) = _; simp
  | succ n ih =>
    have e2 : Sall X (fun _ _ => c) (n + 1) = Sall X (fun _ _ => c) n + Srow (fun _ _ => c) n X := rfl
    rw [e2, ih, Srow_c]; push_cast; rw [Int.add_mul, Int.one_mul]
