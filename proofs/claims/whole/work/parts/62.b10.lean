/-! a box, and how many cells are there -/
theorem fd_add {α : Type} (f : Nat → α → α) (a : α) (n : Nat) : ∀ k, fd f a (n + k) = fd (fun i a => f (n + i) a) (fd f a n) k := by
  intro k
  induction k with
  | zero => rfl
  | succ k ih => rw [show n + (k + 1) = n + k + 1 by omega, fd_s, ih, fd_s]
theorem fd_block {α : Type} (f : Nat → α → α) (a : α) : ∀ m, fd f a (10 * m) = fd (fun j a => fd (fun i a => f (10 * j + i) a) a 10) a m := by
  intro m
  induction m with
  | zero => rfl
  | succ m ih =>
    rw [show 10 * (m + 1) = 10 * m + 10 by omega, fd_add, ih]
    rfl
theorem count_e {X Y : Nat} (hB : 1 ≤ X ∧ X ≤ 10 ∧ 1 ≤ Y ∧ Y ≤ 10) {σ τ : Nat → Nat → Int32} (hC : RC X Y σ τ) : n_countThere X σ Y = n_mc τ 100 := by
  unfold n_mc
  rw [show (100 : Nat) = 10 * 10 from rfl, fd_block]
  have hz : ∀ i j, i < 10 → j < 10 → ¬ (i < X ∧ j < Y) → τ 0 (10 * j + i) ≤ 0 := fun i j hi hj h => by
    rw [hC.2.1 (10 * j + i) (by omega) (fun q => h ⟨by omega, by omega⟩)]; decide
  have e1 : fd (fun j a => fd (fun i a => if τ 0 (10 * j + i) ≤ 0 then a else a + 1) a 10) (0 : Int32) 10 = fd (fun j a => fd (fun i a => if τ 0 (10 * j + i) ≤ 0 then a else a + 1) a 10) (0 : Int32) Y := by
    have e : (10 : Nat) = Y + (10 - Y) := by omega
    have := fd_add (fun j a => fd (fun i a => if τ 0 (10 * j + i) ≤ 0 then a else a + 1) a 10) (0 : Int32) Y (10 - Y)
    rw [← e] at this
    rw [this]
    refine fd_id fun t ht a => ?_
    exact fd_id fun i hi a => if_pos (hz i (Y + t) hi (by omega) (by omega))
  rw [e1]
  unfold n_countThere
  refine fd_congr fun j hj a => ?_
  unfold n_countThereR0
  have e2 : fd (fun i a => if τ 0 (10 * j + i) ≤ 0 then a else a + 1) a 10 = fd (fun i a => if τ 0 (10 * j + i) ≤ 0 then a else a + 1) a X := by
    have e : (10 : Nat) = X + (10 - X) := by omega
    have := fd_add (fun i a => if τ 0 (10 * j + i) ≤ 0 then a else a + 1) a X (10 - X)
    rw [← e] at this
    rw [this]
    exact fd_id fun t ht a => if_pos (hz (X + t) j (by omega) (by omega) (by omega))
  rw [e2]
  refine fd_congr fun i hi a => ?_
  rw [(hC.1 i j hi hj).1]
  by_cases h : τ 0 (10 * j + i) ≤ 0
  · rw [if_pos h, if_pos h]; exact Int32.add_zero a
  · rw [if_neg h, if_neg h]
theorem F_box {X Y : Nat} (hB : 1 ≤ X ∧ X ≤ 10 ∧ 1 ≤ Y ∧ Y ≤ 10) {σ : Nat → Nat → Int32} {hh : Nat → Int64} {hw : Nat → Int32} {n : Int32} {τ : Nat → Nat → Int32} {ℓ : Nat → Nat → Int64} (hR : RI X Y σ hh hw n τ ℓ) (i0 j0 i1 j1 : Nat) (v : Int32) (hi : i0 ≤ i1) (hi1 : i1 < X) (hj : j0 ≤ j1) (hj1 : j1 < Y) (hv : rng v 0 20) : n_countThere X (f_fill X i0 j0 i1 j1 v σ) Y = n_mc (f_mbox i0 j0 i1 j1 v τ) 100 ∧ RI X Y (f_fill X i0 j0 i1 j1 v σ) hh hw n (f_mbox i0 j0 i1 j1 v τ) ℓ ∧ (f_mbox i0 j0 i1 j1 v τ) 5 0 = 0 := by
  obtain ⟨a1, a2, a3⟩ := fd2 0 (i1 + 1 - i0) (fun t u => pl X (i0 + t) (j0 + u)) (fun _ _ _ => v) (fun _ _ _ _ _ => rfl) σ (j1 + 1 - j0) (fun t u t' u' h1 _ h2 _ e => by
    have := (pl_iff (X := X) (show i0 + t < X by omega) (show i0 + t' < X by omega)).mp e
    omega)
  have ea : fd (fun u σ => fd (fun t σ => up2 σ 0 (pl X (i0 + t) (j0 + u)) v) σ (i1 + 1 - i0)) σ (j1 + 1 - j0) = f_fillA X i0 j0 (i1 + 1 - i0) v σ (j1 + 1 - j0) := rfl
  rw [ea] at a1 a2 a3
  have ef : f_fill X i0 j0 i1 j1 v σ = up2 (f_fillA X i0 j0 (i1 + 1 - i0) v σ (j1 + 1 - j0)) 8 2 0 := rfl
  obtain ⟨b1, b2, b3⟩ := fd2 0 (i1 + 1 - i0) (fun t u => 10 * (j0 + u) + (i0 + t)) (fun _ _ _ => v) (fun _ _ _ _ _ => rfl) (up2 (up2 τ 5 0 0) 5 1 0) (j1 + 1 - j0) (fun t u t' u' h1 _ h2 _ e => by omega)
  have eb : fd (fun u σ => fd (fun t σ => up2 σ 0 (10 * (j0 + u) + (i0 + t)) v) σ (i1 + 1 - i0)) (up2 (up2 τ 5 0 0) 5 1 0) (j1 + 1 - j0) = f_mbox i0 j0 i1 j1 v τ := rfl
  rw [eb] at b1 b2 b3
  rw [ef]
  generalize f_fillA X i0 j0 (i1 + 1 - i0) v σ (j1 + 1 - j0) = ρ at a1 a2 a3
  generalize f_mbox i0 j0 i1 j1 v τ = κ at b1 b2 b3
  obtain ⟨hC, hfl, ehh, ehw, jn, hjn, en, et⟩ := hR
  have k50 : κ 5 0 = 0 := by rw [b1 5 (by decide), up_ne (by decide)]; exact up_at _ _ _ _
  have k51 : κ 5 1 = 0 := by rw [b1 5 (by decide)]; exact up_at _ _ _ _
  have k54 : κ 5 4 = τ 5 4 := by rw [b1 5 (by decide), up_ne (by decide), up_ne (by decide)]
  have kr : ∀ a, ¬ a = 0 → ¬ a = 5 → κ a = τ a := fun a h0 h5 => by rw [b1 a h0, up_row h5, up_row h5]
  have k0 : up2 (up2 τ 5 0 0) 5 1 0 0 = τ 0 := by rw [up_row (by decide), up_row (by decide)]
  have s0 : up2 ρ 8 2 0 0 = ρ 0 := up_row (by decide)
  have sr : ∀ a, ¬ a = 0 → ¬ a = 8 → up2 ρ 8 2 0 a = σ a := fun a h0 h8 => by rw [up_row h8]; exact a1 a h0
  have s82 : up2 ρ 8 2 0 8 2 = 0 := up_at _ _ _ _
  generalize up2 ρ 8 2 0 = σ' at s0 sr s82
  have hC' : RC X Y σ' κ := by
    refine ⟨fun a b ha hb => ?_, fun k hk hn => ?_, fun sd hsd => ?_, fun sd k hsd hk => ?_⟩
    · rw [s0]
      by_cases q : i0 ≤ a ∧ a ≤ i1 ∧ j0 ≤ b ∧ b ≤ j1
      · have e1 := a2 (a - i0) (b - j0) (by omega) (by omega)
        have e2 := b2 (a - i0) (b - j0) (by omega) (by omega)
        have e1 : ρ 0 (pl X (i0 + (a - i0)) (j0 + (b - j0))) = v := e1
        have e2 : κ 0 (10 * (j0 + (b - j0)) + (i0 + (a - i0))) = v := e2
        rw [show i0 + (a - i0) = a by omega, show j0 + (b - j0) = b by omega] at e1 e2
        rw [e1, e2]; exact ⟨rfl, hv⟩
      · rw [a3 (pl X a b) (fun t u ht hu z => by
            have := (pl_iff (X := X) ha (show i0 + t < X by omega)).mp z
            omega), b3 (10 * b + a) (fun t u ht hu z => by omega), k0]
        exact hC.1 a b ha hb
    · rw [b3 k (fun t u ht hu z => hn ⟨by omega, by omega⟩), k0]; exact hC.2.1 k hk hn
    · rw [sr 6 (by decide) (by decide), sr 7 (by decide) (by decide), kr 2 (by decide) (by decide), kr 3 (by decide) (by decide)]; exact hC.2.2.1 sd hsd
    · rw [s0, sr 1 (by decide) (by decide), kr 2 (by decide) (by decide), kr 3 (by decide) (by decide), a3 _ (fun t u ht hu => bd_ne hB hsd hk (by omega) (by omega))]
      exact hC.2.2.2 sd k hsd hk
  exact ⟨count_e hB hC', ⟨hC', Or.inl ⟨s82, k51⟩, ehh, by rw [kr 4 (by decide) (by decide)]; exact ehw, jn, hjn, en, by rw [k54]; exact et⟩, k50⟩
/-! a side -/
def bdR (X Y sd k : Nat) : Nat × Nat := if sd = 0 then (0, k + 1) else if sd = 1 then (k + 1, X + 1) else if sd = 2 then (Y + 1, k + 1) else (k + 1, 0)
theorem bd_rep {X Y sd k : Nat} (hsd : sd < 4) (hk : k < cAlong X Y sd) : bdA X Y sd k = (bdR X Y sd k).1 * (X + 2) + (bdR X Y sd k).2 ∧ (bdR X Y sd k).2 < X + 2 := by
  rcases (show sd = 0 ∨ sd = 1 ∨ sd = 2 ∨ sd = 3 by omega) with rfl | rfl | rfl | rfl
  · have hk : k < X := hk
    exact ⟨by show k + 1 = 0 * (X + 2) + (k + 1); omega, by show k + 1 < X + 2; omega⟩
  · exact ⟨by show pl X X k = (k + 1) * (X + 2) + (X + 1); unfold pl; omega, by show X + 1 < X + 2; omega⟩
  · have hk : k < X := hk
    exact ⟨by show pl X k Y = (Y + 1) * (X + 2) + (k + 1); unfold pl; omega, by show k + 1 < X + 2; omega⟩
  · exact ⟨by show pl X 0 k - 1 = (k + 1) * (X + 2) + 0; unfold pl; omega, by show 0 < X + 2; omega⟩
theorem bd_sd {X Y : Nat} {sd k sd' k' : Nat} (hsd : sd < 4) (hk : k < cAlong X Y sd) (hsd' : sd' < 4) (hk' : k' < cAlong X Y sd') (h : bdA X Y sd k = bdA X Y sd' k') : sd = sd' := by
  obtain ⟨e1, l1⟩ := bd_rep hsd hk
  obtain ⟨e2, l2⟩ := bd_rep hsd' hk'
  have := uq l1 l2 (by rw [← e1, ← e2]; exact h)
  rcases (show sd = 0 ∨ sd = 1 ∨ sd = 2 ∨ sd = 3 by omega) with rfl | rfl | rfl | rfl <;> rcases (show sd' = 0 ∨ sd' = 1 ∨ sd' = 2 ∨ sd' = 3 by omega) with rfl | rfl | rfl | rfl <;> first
    | rfl
    | (exfalso; simp [bdR, cAlong] at this hk hk'; done)
    | (exfalso; simp [bdR, cAlong] at this hk hk'; omega)
theorem csI_e (X Y sd : Nat) (w f : Int32) (σ : Nat → Nat → Int32) (n : Nat) : (∀ a, ¬ a = 0 → ¬ a = 1 → f_csI X Y sd w f σ n a = σ a) ∧ (∀ k, k < n → f_csI X Y sd w f σ n 0 (bdA X Y sd k) = f ∧ f_csI X Y sd w f σ n 1 (bdA X Y sd k) = w) ∧ (∀ p, (∀ k, k < n → ¬ p = bdA X Y sd k) → f_csI X Y sd w f σ n 0 p = σ 0 p ∧ f_csI X Y sd w f σ n 1 p = σ 1 p) := by
  induction n with
  | zero => exact ⟨fun _ _ _ => rfl, fun k h => by omega, fun _ _ => ⟨rfl, rfl⟩⟩
  | succ n ih =>
    obtain ⟨i1, i2, i3⟩ := ih
    have e : f_csI X Y sd w f σ (n + 1) = up2 (up2 (f_csI X Y sd w f σ n) 0 (bdA X Y sd n) f) 1 (bdA X Y sd n) w := rfl
    rw [e]
    generalize f_csI X Y sd w f σ n = ρ at i1 i2 i3
    have r0 : ∀ p, up2 (up2 ρ 0 (bdA X Y sd n) f) 1 (bdA X Y sd n) w 0 p = if p = bdA X Y sd n then f else ρ 0 p := fun p => by
      rw [up_row (by decide), up_e]
      by_cases h : p = bdA X Y sd n
      · rw [if_pos ⟨rfl, h⟩, if_pos h]
      · rw [if_neg (fun q => h q.2), if_neg h]
    have r1 : ∀ p, up2 (up2 ρ 0 (bdA X Y sd n) f) 1 (bdA X Y sd n) w 1 p = if p = bdA X Y sd n then w else ρ 1 p := fun p => by
      rw [up_e, up_row (by decide)]
      by_cases h : p = bdA X Y sd n
      · rw [if_pos ⟨rfl, h⟩, if_pos h]
      · rw [if_neg (fun q => h q.2), if_neg h]
    refine ⟨fun a h0 h1 => by rw [up_row h1, up_row h0]; exact i1 a h0 h1, fun k hk => ?_, fun p hp => ?_⟩
    · rw [r0, r1]
      by_cases h : bdA X Y sd k = bdA X Y sd n
      · rw [if_pos h, if_pos h]; exact ⟨rfl, rfl⟩
      · rw [if_neg h, if_neg h]
        exact i2 k (by
          rcases (show k < n ∨ k = n by omega) with q | q
          · exact q
          · exact absurd (by rw [q]) h)
    · rw [r0, r1, if_neg (hp n (by omega)), if_neg (hp n (by omega))]
      exact i3 p fun k hk => hp k (by omega)
theorem F_side {X Y : Nat} (hB : 1 ≤ X ∧ X ≤ 10 ∧ 1 ≤ Y ∧ Y ≤ 10) {σ : Nat → Nat → Int32} {hh : Nat → Int64} {hw : Nat → Int32} {n : Int32} {τ : Nat → Nat → Int32} {ℓ : Nat → Nat → Int64} (hR : RI X Y σ hh hw n τ ℓ) (sd : Nat) (w f : Int32) (hsd : sd < 4) (hw1 : rng w (-10000) 10000) (hf : rng f 0 20) : σ 7 sd = τ 3 sd ∧ RI X Y (f_cs X Y sd w f σ) hh hw n (up2 (up2 (up2 (up2 τ 5 0 0) 5 1 0) 2 sd w) 3 sd f) ℓ ∧ (up2 (up2 (up2 (up2 τ 5 0 0) 5 1 0) 2 sd w) 3 sd f) 5 0 = 0 := by
  obtain ⟨hC, hfl, ehh, ehw, jn, hjn, en, et⟩ := hR
  refine ⟨(hC.2.2.1 sd hsd).2.1, ?_⟩
  obtain ⟨i1, i2, i3⟩ := csI_e X Y sd w f (up2 (up2 σ 6 sd w) 7 sd f) (cAlong X Y sd)
  have ef : f_cs X Y sd w f σ = up2 (f_csI X Y sd w f (up2 (up2 σ 6 sd w) 7 sd f) (cAlong X Y sd)) 8 2 0 := rfl
  rw [ef]
  generalize f_csI X Y sd w f (up2 (up2 σ 6 sd w) 7 sd f) (cAlong X Y sd) = ρ at i1 i2 i3
  have z0 : up2 (up2 σ 6 sd w) 7 sd f 0 = σ 0 := by rw [up_row (by decide), up_row (by decide)]
  have z1 : up2 (up2 σ 6 sd w) 7 sd f 1 = σ 1 := by rw [up_row (by decide), up_row (by decide)]
  rw [z0, z1] at i3
  have s0 : up2 ρ 8 2 0 0 = ρ 0 := up_row (by decide)
  have s1 : up2 ρ 8 2 0 1 = ρ 1 := up_row (by decide)
  have s6 : up2 ρ 8 2 0 6 = upd (σ 6) sd w := by rw [up_row (by decide), i1 6 (by decide) (by decide), up_row (by decide), up_own]
  have s7 : up2 ρ 8 2 0 7 = upd (σ 7) sd f := by rw [up_row (by decide), i1 7 (by decide) (by decide), up_own, up_row (by decide)]
  have s82 : up2 ρ 8 2 0 8 2 = 0 := up_at _ _ _ _
  have k0 : up2 (up2 (up2 (up2 τ 5 0 0) 5 1 0) 2 sd w) 3 sd f 0 = τ 0 := by rw [up_row (by decide), up_row (by decide), up_row (by decide), up_row (by decide)]
  have k4 : up2 (up2 (up2 (up2 τ 5 0 0) 5 1 0) 2 sd w) 3 sd f 4 = τ 4 := by rw [up_row (by decide), up_row (by decide), up_row (by decide), up_row (by decide)]
  have k2 : up2 (up2 (up2 (up2 τ 5 0 0) 5 1 0) 2 sd w) 3 sd f 2 = upd (τ 2) sd w := by rw [up_row (by decide), up_own, up_row (by decide), up_row (by decide)]
  have k3 : up2 (up2 (up2 (up2 τ 5 0 0) 5 1 0) 2 sd w) 3 sd f 3 = upd (τ 3) sd f := by rw [up_own, up_row (by decide), up_row (by decide), up_row (by decide)]
  have k50 : up2 (up2 (up2 (up2 τ 5 0 0) 5 1 0) 2 sd w) 3 sd f 5 0 = 0 := by rw [up_row (by decide), up_row (by decide), up_ne (by decide), up_at]
  have k51 : up2 (up2 (up2 (up2 τ 5 0 0) 5 1 0) 2 sd w) 3 sd f 5 1 = 0 := by rw [up_row (by decide), up_row (by decide), up_at]
  have k54 : up2 (up2 (up2 (up2 τ 5 0 0) 5 1 0) 2 sd w) 3 sd f 5 4 = τ 5 4 := by rw [up_row (by decide), up_row (by decide), up_ne (by decide), up_ne (by decide)]
  generalize up2 (up2 (up2 (up2 τ 5 0 0) 5 1 0) 2 sd w) 3 sd f = κ at k0 k2 k3 k4 k50 k51 k54
  generalize up2 ρ 8 2 0 = σ' at s0 s1 s6 s7 s82
  have ud : ∀ (g : Nat → Int32) (x : Int32) (s : Nat), upd g sd x s = if s = sd then x else g s := fun g x s => by
    unfold upd
    by_cases h : s = sd
    · simp [h]
    · simp [h]
  refine ⟨⟨⟨fun a b ha hb => ?_, fun k hk hn => ?_, fun s hs => ?_, fun s k hs hk => ?_⟩, Or.inl ⟨s82, k51⟩, ehh, by rw [k4]; exact ehw, jn, hjn, en, by rw [k54]; exact et⟩, k50⟩
  · rw [s0, k0, (i3 _ (fun k hk z => bd_ne hB hsd hk ha hb z.symm)).1]; exact hC.1 a b ha hb
  · rw [k0]; exact hC.2.1 k hk hn
  · rw [s6, s7, k2, k3, ud, ud, ud, ud]
    by_cases h : s = sd
    · rw [if_pos h, if_pos h, if_pos h, if_pos h]; exact ⟨rfl, rfl, hw1, hf⟩
    · rw [if_neg h, if_neg h, if_neg h, if_neg h]; exact hC.2.2.1 s hs
  · rw [s0, s1, k2, k3, ud, ud]
    by_cases h : s = sd
    · subst h
      rw [if_pos rfl, if_pos rfl]; exact i2 k hk
    · rw [if_neg h, if_neg h]
      have := i3 (bdA X Y s k) (fun k' hk' z => h (bd_sd hs hk hsd hk' z))
      rw [this.1, this.2]; exact hC.2.2.2 s k hs hk
