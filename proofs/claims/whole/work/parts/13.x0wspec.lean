/-! what the methods of a Section that write do -/
def f_weigh (X : Nat) (σ : Nat → Nat → Int32) (c : Nat) : Nat → Nat → Int32 := up2 (up2 σ 4 c (σ 2 c + σ 2 (c - 1) + σ 3 c + σ 3 (c - (X + 2)))) 5 c (σ 2 c * (σ 1 (c + 1) - σ 8 0) + σ 2 (c - 1) * (σ 1 (c - 1) - σ 8 0) + σ 3 c * (σ 1 (c + (X + 2)) - σ 8 0) + σ 3 (c - (X + 2)) * (σ 1 (c - (X + 2)) - σ 8 0))
def f_raise (X : Nat) (σ : Nat → Nat → Int32) (c : Nat) (st : Int32) : Nat → Nat → Int32 :=
  let σ1 := up2 σ 1 c (σ 1 c + st)
  let σ2 := up2 σ1 5 c (σ1 5 c - st * σ1 4 c)
  let σ3 := up2 σ2 5 (c + 1) (σ2 5 (c + 1) + st * σ2 2 c)
  let σ4 := up2 σ3 5 (c - 1) (σ3 5 (c - 1) + st * σ3 2 (c - 1))
  let σ5 := up2 σ4 5 (c + (X + 2)) (σ4 5 (c + (X + 2)) + st * σ4 3 c)
  up2 σ5 5 (c - (X + 2)) (σ5 5 (c - (X + 2)) + st * σ5 3 (c - (X + 2)))
def f_fillR (X : Nat) (i0 j : Nat) (v : Int32) (σ : Nat → Nat → Int32) (n : Nat) : Nat → Nat → Int32 := fd (fun t σ => up2 σ 0 (pl X (i0 + t) j) v) σ n
def f_fillA (X : Nat) (i0 j0 w : Nat) (v : Int32) (σ : Nat → Nat → Int32) (n : Nat) : Nat → Nat → Int32 := fd (fun u σ => f_fillR X i0 (j0 + u) v σ w) σ n
def f_fill (X : Nat) (i0 j0 i1 j1 : Nat) (v : Int32) (σ : Nat → Nat → Int32) : Nat → Nat → Int32 := up2 (f_fillA X i0 j0 (i1 + 1 - i0) v σ (j1 + 1 - j0)) 8 2 0
theorem nI_le2 {a b : Nat} (h : a ≤ b) (hb : b < 2 ^ 31) (c : nI b < nI a) : False := nI_nlt h hb c
/-- the border's place beside a cell at a side -/
def bdA (X Y sd k : Nat) : Nat := if sd = 0 then k + 1 else if sd = 1 then pl X X k else if sd = 2 then pl X k Y else pl X 0 k - 1
theorem bdA_e {X Y sd k : Nat} (hB : 1 ≤ X ∧ X ≤ 10 ∧ 1 ≤ Y ∧ Y ≤ 10) (h : sd < 4) (hk : k < cAlong X Y sd) : nI (clA X Y sd k) + outw X sd = nI (bdA X Y sd k) ∧ bdA X Y sd k < (X + 2) * (Y + 2) := by
  unfold clA outw bdA cAlong at *
  rcases (show sd = 0 ∨ sd = 1 ∨ sd = 2 ∨ sd = 3 by omega) with rfl | rfl | rfl | rfl
  · simp at hk ⊢
    have h1 := pl_lt (X := X) (Y := Y) (i := k) (j := 0) hk (by omega)
    refine ⟨?_, by omega⟩
    have h2 : pl X k 0 = (X + 2) + (k + 1) := by unfold pl; omega
    rw [h2, ← nI_add]
    have : ∀ a b : Int32, a + b + -a = b := fun a b => by rw [Int32.add_comm a b, Int32.add_assoc, Int32.add_right_neg, Int32.add_zero]
    exact this _ _
  · simp at hk ⊢
    have h1 := pl_lt (X := X) (Y := Y) (i := X - 1) (j := k) (by omega) hk
    have h2 : pl X X k = pl X (X - 1) k + 1 := by unfold pl; omega
    exact ⟨by rw [h2]; exact nI_1 _, by omega⟩
  · simp at hk ⊢
    have h1 := pl_lt (X := X) (Y := Y) (i := k) (j := Y - 1) hk (by omega)
    have h2 : pl X k Y = pl X k (Y - 1) + (X + 2) := by
      unfold pl
      have : (Y + 1) * (X + 2) = (Y - 1 + 1) * (X + 2) + (X + 2) := by
        rw [show Y + 1 = (Y - 1 + 1) + 1 by omega, Nat.succ_mul]
      omega
    exact ⟨by rw [h2]; exact nI_add _ _, by omega⟩
  · simp at hk ⊢
    have h1 := pl_lt (X := X) (Y := Y) (i := 0) (j := k) (by omega) hk
    refine ⟨?_, by omega⟩
    have := pk_m1 (pl X 0 k - 1)
    rw [show pl X 0 k - 1 + 1 = pl X 0 k by omega] at this
    exact this
def f_csI (X Y sd : Nat) (w f : Int32) (σ : Nat → Nat → Int32) (n : Nat) : Nat → Nat → Int32 := fd (fun k σ => up2 (up2 σ 0 (bdA X Y sd k) f) 1 (bdA X Y sd k) w) σ n
def f_cs (X Y sd : Nat) (w f : Int32) (σ : Nat → Nat → Int32) : Nat → Nat → Int32 := up2 (f_csI X Y sd w f (up2 (up2 σ 6 sd w) 7 sd f) (cAlong X Y sd)) 8 2 0
def f_lhS (sd : Nat) (p : Int32 × (Nat → Nat → Int32)) : Int32 × (Nat → Nat → Int32) := if p.2 7 sd ≤ 0 then p else
  let σ1 := up2 p.2 8 0 (if p.1 = 0 then p.2 6 sd else (if p.2 6 sd < p.2 8 0 then p.2 6 sd else p.2 8 0))
  (1, up2 σ1 8 1 (if p.1 = 0 then σ1 6 sd else (if σ1 8 1 < σ1 6 sd then σ1 6 sd else σ1 8 1)))
def n_lh (σ : Nat → Nat → Int32) (n : Nat) : Int32 × (Nat → Nat → Int32) := fd f_lhS (0, up2 (up2 σ 8 0 0) 8 1 0) n
def f_lh (σ : Nat → Nat → Int32) : Nat → Nat → Int32 := (n_lh σ 4).2
def mI (t : Nat) : Int32 := nI t + (-1)
theorem mI_1 (t : Nat) : mI t + Int32.ofInt 1 = mI (t + 1) := by
  unfold mI
  have : Int32.ofInt 1 = nI 1 := by decide
  rw [this, Int32.add_assoc, Int32.add_comm (-1), ← Int32.add_assoc, nI_add]
theorem mI_T {n : Nat} (hn : n < 2 ^ 31) : nI n ≤ mI (n + 1) := by unfold mI; rw [pk_m1]; exact nI_le (Nat.le_refl _) hn
theorem mI_F {n t : Nat} (h : t < n + 1) (hn : n < 2 ^ 31) : ¬ nI n ≤ mI t := by
  unfold mI
  rcases Nat.eq_zero_or_pos t with rfl | h0
  · intro h
    have h1 := Int32.le_iff_toInt_le.mp h
    rw [nI_toInt hn] at h1
    have : (nI 0 + (-1) : Int32).toInt = -1 := by decide
    omega
  · rw [show t = (t - 1) + 1 by omega, pk_m1]; exact nI_ge (by omega) hn
def plE (X t j : Nat) : Nat := (j + 1) * (X + 2) + t
def plS (X i u : Nat) : Nat := u * (X + 2) + i + 1
theorem plE_e (X t j : Nat) : (nI j + 1) * nI (X + 2) + mI t + 1 = nI (plE X t j) := by
  unfold mI plE
  have h : ((1 : Int32)) = nI 1 := rfl
  have h2 : ∀ a b : Int32, a + (b + (-1)) + 1 = a + b := fun a b => by
    rw [← Int32.add_assoc, Int32.add_assoc (a + b), show ((-1 : Int32) + 1) = 0 by decide, Int32.add_zero]
  rw [h2, h, nI_add, pk_mul, nI_add]
theorem plS_e (X i u : Nat) : (mI u + 1) * nI (X + 2) + nI i + 1 = nI (plS X i u) := by
  unfold mI plS
  have h : ((1 : Int32)) = nI 1 := rfl
  rw [Int32.add_assoc (nI u), show ((-1 : Int32) + 1) = 0 by decide, Int32.add_zero, h, pk_mul, nI_add, nI_add]
theorem plE_lt {X Y t j : Nat} (ht : t < X + 1) (hj : j < Y) : plE X t j + 1 < (X + 2) * (Y + 2) := by
  have := pl_lt (X := X + 1) (Y := Y) (i := t) (j := j) (by omega) hj
  have h1 : (j + 1 + 1) * (X + 2) ≤ (Y + 1) * (X + 2) := Nat.mul_le_mul_right _ (by omega)
  have h2 : (Y + 1) * (X + 2) + (X + 2) = (X + 2) * (Y + 2) := by rw [← Nat.succ_mul, Nat.mul_comm]
  have h3 : (j + 1 + 1) * (X + 2) = (j + 1) * (X + 2) + (X + 2) := Nat.succ_mul _ _
  unfold plE; omega
theorem plS_lt {X Y i u : Nat} (hi : i < X) (hu : u < Y + 1) : plS X i u + (X + 2) < (X + 2) * (Y + 2) := by
  have h1 : (u + 1) * (X + 2) ≤ (Y + 1) * (X + 2) := Nat.mul_le_mul_right _ (by omega)
  have h2 : (Y + 1) * (X + 2) + (X + 2) = (X + 2) * (Y + 2) := by rw [← Nat.succ_mul, Nat.mul_comm]
  have h3 : (u + 1) * (X + 2) = u * (X + 2) + (X + 2) := Nat.succ_mul _ _
  unfold plS; omega
def f_jeR (X j : Nat) (σ : Nat → Nat → Int32) (n : Nat) : Nat → Nat → Int32 := fd (fun t σ => up2 σ 2 (plE X t j) (cpl (σ 0 (plE X t j)) (σ 0 (plE X t j + 1)))) σ n
def f_je (X : Nat) (σ : Nat → Nat → Int32) (n : Nat) : Nat → Nat → Int32 := fd (fun j σ => f_jeR X j σ (X + 1)) σ n
def f_jsR (X u : Nat) (σ : Nat → Nat → Int32) (n : Nat) : Nat → Nat → Int32 := fd (fun i σ => up2 σ 3 (plS X i u) (cpl (σ 0 (plS X i u)) (σ 0 (plS X i u + (X + 2))))) σ n
def f_js (X : Nat) (σ : Nat → Nat → Int32) (n : Nat) : Nat → Nat → Int32 := fd (fun u σ => f_jsR X u σ X) σ n
def f_jn (X Y : Nat) (σ : Nat → Nat → Int32) : Nat → Nat → Int32 := f_js X (f_je X σ Y) (Y + 1)
def f_slR (X j : Nat) (σ : Nat → Nat → Int32) (n : Nat) : Nat → Nat → Int32 := fd (fun i σ => up2 σ 1 (pl X i j) (σ 8 0)) σ n
def f_sl (X : Nat) (σ : Nat → Nat → Int32) (n : Nat) : Nat → Nat → Int32 := fd (fun j σ => f_slR X j σ X) σ n
def f_wgR (X j : Nat) (σ : Nat → Nat → Int32) (n : Nat) : Nat → Nat → Int32 := fd (fun i σ => f_weigh X σ (pl X i j)) σ n
def f_wg (X : Nat) (σ : Nat → Nat → Int32) (n : Nat) : Nat → Nat → Int32 := fd (fun j σ => f_wgR X j σ X) σ n
def f_start (X Y : Nat) (σ : Nat → Nat → Int32) : Nat → Nat → Int32 := f_wg X (f_sl X σ Y) Y
def f_raS (X j i : Nat) (p : Int32 × (Nat → Nat → Int32)) : Int32 × (Nat → Nat → Int32) := if p.2 4 (pl X i j) ≤ 0 then p else if p.2 5 (pl X i j) < p.2 4 (pl X i j) then p else (1, f_raise X p.2 (pl X i j) (p.2 5 (pl X i j) / p.2 4 (pl X i j)))
def f_raR (X j : Nat) (p : Int32 × (Nat → Nat → Int32)) (n : Nat) : Int32 × (Nat → Nat → Int32) := fd (fun i p => f_raS X j i p) p n
def n_ra (X : Nat) (σ : Nat → Nat → Int32) (n : Nat) : Int32 × (Nat → Nat → Int32) := fd (fun j p => f_raR X j p X) (0, σ) n
theorem ra_01 (X : Nat) (σ : Nat → Nat → Int32) (n : Nat) : (n_ra X σ n).1 = 0 ∨ (n_ra X σ n).1 = 1 := by
  have key : ∀ (j : Nat) (p : Int32 × (Nat → Nat → Int32)) (n : Nat), p.1 = 0 ∨ p.1 = 1 → (f_raR X j p n).1 = 0 ∨ (f_raR X j p n).1 = 1 := by
    intro j p n h
    induction n with
    | zero => exact h
    | succ n ih =>
      show (f_raS X j n (f_raR X j p n)).1 = 0 ∨ (f_raS X j n (f_raR X j p n)).1 = 1
      unfold f_raS
      split
      · exact ih
      · split
        · exact ih
        · exact Or.inr rfl
  induction n with
  | zero => exact Or.inl rfl
  | succ n ih => exact key n _ X ih
theorem ra_n (X : Nat) (σ : Nat → Nat → Int32) (n : Nat) : narrow .boolean (.int (n_ra X σ n).1) = .int (n_ra X σ n).1 := by
  rcases ra_01 X σ n with h | h <;> rw [h] <;> rfl
theorem pl_0 (X i j : Nat) : pl X 0 j + i = pl X i j := by unfold pl; omega
theorem i_div0 {x : Int32} (h : ¬ x ≤ 0) : ¬ x = 0 := fun e => h (by rw [e]; decide)
def f_swS (X Y : Nat) (p : Int32 × (Nat → Nat → Int32)) : Int32 × (Nat → Nat → Int32) := if p.1 = 0 then p else n_ra X p.2 Y
def n_sw (X Y : Nat) (σ : Nat → Nat → Int32) (n : Nat) : Int32 × (Nat → Nat → Int32) := fd (fun _ p => f_swS X Y p) (1, σ) n
theorem sw_stop {X Y : Nat} {σ : Nat → Nat → Int32} {i : Nat} (h : (n_sw X Y σ i).1 = 0) : ∀ n, i ≤ n → n_sw X Y σ n = n_sw X Y σ i := by
  intro n hn
  induction n with
  | zero => have : i = 0 := by omega
            rw [this]
  | succ n ih =>
    rcases Nat.lt_or_ge n i with q | q
    · have : i = n + 1 := by omega
      rw [this]
    · have e := ih q
      show f_swS X Y (n_sw X Y σ n) = _
      rw [e]; unfold f_swS; rw [if_pos h]
def f_pre (X Y : Nat) (σ : Nat → Nat → Int32) : Nat → Nat → Int32 := f_start X Y (f_jn X Y (f_lh σ))
def f_most (X Y : Nat) (σ : Nat → Nat → Int32) : Int32 := nI (X * Y) * (σ 8 1 - σ 8 0) + 1
def f_settle (X Y : Nat) (σ : Nat → Nat → Int32) : Nat → Nat → Int32 := if σ 8 2 = 0 then up2 (n_sw X Y (f_pre X Y σ) (f_most X Y (f_pre X Y σ)).toNatClampNeg).2 8 2 1 else σ
theorem cl_T (M : Int32) : M ≤ nI M.toNatClampNeg := by
  rcases (show M.toInt < 0 ∨ 0 ≤ M.toInt by omega) with h | h
  · apply Int32.le_iff_toInt_le.mpr
    have : M.toNatClampNeg = 0 := by
      show M.toInt.toNat = 0
      omega
    rw [this]
    show M.toInt ≤ 0
    omega
  · obtain ⟨j, hj, rfl⟩ := nI_of (x := M) (fun hh => by have := Int32.lt_iff_toInt_lt.mp hh; have e0 : (0 : Int32).toInt = 0 := rfl; omega)
    rw [nI_clamp hj]; exact nI_le (Nat.le_refl _) hj
theorem cl_F {M : Int32} {i : Nat} (h : i < M.toNatClampNeg) : ¬ M ≤ nI i := by
  rcases (show M.toInt < 0 ∨ 0 ≤ M.toInt by omega) with h2 | h2
  · have : M.toNatClampNeg = 0 := by show M.toInt.toNat = 0; omega
    omega
  · obtain ⟨j, hj, rfl⟩ := nI_of (x := M) (fun hh => by have := Int32.lt_iff_toInt_lt.mp hh; have e0 : (0 : Int32).toInt = 0 := rfl; omega)
    rw [nI_clamp hj] at h
    exact nI_ge h hj
