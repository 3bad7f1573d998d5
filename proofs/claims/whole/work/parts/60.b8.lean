/-! the class's state before its sweeps -/
def nbP (X d i j : Nat) : Nat := if d = 0 then pl X i j - (X + 2) else if d = 1 then pl X i j + 1 else if d = 2 then pl X i j + (X + 2) else pl X i j - 1
theorem nb_cell {X Y : Nat} {d i j : Nat} (hi : i < X) (hj : j < Y) (hd : d < 4) : (∃ a b, a < X ∧ b < Y ∧ nbP X d i j = pl X a b ∧ (∀ (τ : Nat → Nat → Int32), nbC X Y τ d i j = τ 0 (10 * b + a)) ∧ (∀ (τ : Nat → Nat → Int32) (u : Nat → Nat → Int), nw X Y τ u d i j = u a b)) ∨ (∃ k, k < cAlong X Y d ∧ nbP X d i j = bdA X Y d k ∧ (∀ (τ : Nat → Nat → Int32), nbC X Y τ d i j = τ 3 d) ∧ (∀ (τ : Nat → Nat → Int32) (u : Nat → Nat → Int), nw X Y τ u d i j = (τ 2 d).toInt)) := by
  have hpl := pl_lt (X := X) (Y := Y) hi hj
  rcases (show d = 0 ∨ d = 1 ∨ d = 2 ∨ d = 3 by omega) with rfl | rfl | rfl | rfl
  · by_cases q : j = 0
    · subst q
      exact Or.inr ⟨i, hi, by show pl X i 0 - (X + 2) = i + 1; unfold pl; omega, fun τ => by unfold nbC; rw [if_pos rfl, if_pos rfl], fun τ u => nw_s0 rfl⟩
    · refine Or.inl ⟨i, j - 1, hi, by omega, ?_, fun τ => by unfold nbC; rw [if_pos rfl, if_neg q], fun τ u => nw_v0 q⟩
      exact ((pl_N2 hi hi).mpr ⟨rfl, by omega⟩).symm
  · by_cases q : i + 1 = X
    · refine Or.inr ⟨j, hj, ?_, fun τ => by unfold nbC; rw [if_neg (by decide), if_pos rfl, if_pos q], fun τ u => nw_s1 q⟩
      show pl X i j + 1 = pl X X j
      unfold pl; omega
    · refine Or.inl ⟨i + 1, j, by omega, hj, ?_, fun τ => by unfold nbC; rw [if_neg (by decide), if_pos rfl, if_neg q], fun τ u => nw_v1 q⟩
      exact ((pl_E (by omega) hi).mpr ⟨rfl, rfl⟩).symm
  · by_cases q : j + 1 = Y
    · refine Or.inr ⟨i, hi, ?_, fun τ => by unfold nbC; rw [if_neg (by decide), if_neg (by decide), if_pos rfl, if_pos q], fun τ u => nw_s2 q⟩
      show pl X i j + (X + 2) = pl X i Y
      subst q; unfold pl; rw [Nat.succ_mul (j + 1)]; omega
    · refine Or.inl ⟨i, j + 1, hi, by omega, ?_, fun τ => by unfold nbC; rw [if_neg (by decide), if_neg (by decide), if_pos rfl, if_neg q], fun τ u => nw_v2 q⟩
      exact ((pl_S hi hi).mpr ⟨rfl, rfl⟩).symm
  · by_cases q : i = 0
    · subst q
      exact Or.inr ⟨j, hj, rfl, fun τ => by unfold nbC; rw [if_neg (by decide), if_neg (by decide), if_neg (by decide), if_pos rfl], fun τ u => nw_s3 rfl⟩
    · refine Or.inl ⟨i - 1, j, by omega, hj, ?_, fun τ => by unfold nbC; rw [if_neg (by decide), if_neg (by decide), if_neg (by decide), if_neg q], fun τ u => nw_v3 q⟩
      exact ((pl_W (by omega) hi).mpr ⟨by omega, rfl⟩).symm
/-- a border's place is no cell's -/
theorem bd_ne {X Y : Nat} (hB : 1 ≤ X ∧ X ≤ 10 ∧ 1 ≤ Y ∧ Y ≤ 10) {sd k a b : Nat} (hsd : sd < 4) (hk : k < cAlong X Y sd) (ha : a < X) (hb : b < Y) : ¬ bdA X Y sd k = pl X a b := by
  intro h
  have h := h.symm
  rcases (show sd = 0 ∨ sd = 1 ∨ sd = 2 ∨ sd = 3 by omega) with rfl | rfl | rfl | rfl
  · have hk : k < X := hk
    have h : pl X a b = k + 1 := h
    have := (pl_at (X := X) (a := a) (b := b) (A := 0) (t := k + 1) ha (by omega)).mp (by omega)
    omega
  · have hk : k < Y := hk
    have h : pl X a b = pl X X k := h
    have e : pl X X k = (k + 1) * (X + 2) + (X + 1) := by unfold pl; omega
    have := (pl_at (X := X) (a := a) (b := b) ha (by omega)).mp (h.trans e)
    omega
  · have hk : k < X := hk
    have h : pl X a b = pl X k Y := h
    have := (pl_iff ha hk).mp h
    omega
  · have hk : k < Y := hk
    have h : pl X a b = pl X 0 k - 1 := h
    have := (pl_W ha (show 0 < X by omega)).mp h
    omega
theorem nb0 {X Y : Nat} {σ τ : Nat → Nat → Int32} (hC : RC X Y σ τ) {d i j : Nat} (hi : i < X) (hj : j < Y) (hd : d < 4) : σ 0 (nbP X d i j) = nbC X Y τ d i j := by
  rcases nb_cell (X := X) (Y := Y) hi hj hd with ⟨a, b, ha, hb, e, e2, -⟩ | ⟨k, hk, e, e2, -⟩
  · rw [e, e2]; exact (hC.1 a b ha hb).1
  · rw [e, e2]; exact (hC.2.2.2 d k hd hk).1
theorem plE_1 (X i j : Nat) : plE X (i + 1) j = pl X i j := by unfold plE pl; omega
theorem plE_0 (X i j : Nat) : plE X i j = pl X i j - 1 := by unfold plE pl; omega
theorem plS_1 (X i j : Nat) : plS X i (j + 1) = pl X i j := by unfold plS pl; omega
theorem plS_0 (X i j : Nat) : plS X i j = pl X i j - (X + 2) := by unfold plS pl; rw [Nat.succ_mul]; omega
theorem jn_e (X Y : Nat) (ρ : Nat → Nat → Int32) : (∀ a, ¬ a = 2 → ¬ a = 3 → f_jn X Y ρ a = ρ a) ∧ (∀ t j, t < X + 1 → j < Y → f_jn X Y ρ 2 (plE X t j) = cpl (ρ 0 (plE X t j)) (ρ 0 (plE X t j + 1))) ∧ (∀ i u, i < X → u < Y + 1 → f_jn X Y ρ 3 (plS X i u) = cpl (ρ 0 (plS X i u)) (ρ 0 (plS X i u + (X + 2)))) := by
  obtain ⟨a1, a2, -⟩ := fd2 2 (X + 1) (fun t j => plE X t j) (fun t j σ => cpl (σ 0 (plE X t j)) (σ 0 (plE X t j + 1))) (fun t j σ σ' h => by rw [h 0 (by decide)]) ρ Y (fun t j t' j' h1 _ h2 _ e => by
    have := uq (m := X + 2) (A := j + 1) (B := j' + 1) (s := t) (t := t') (by omega) (by omega) e
    omega)
  have ej : fd (fun j σ => fd (fun t σ => up2 σ 2 (plE X t j) (cpl (σ 0 (plE X t j)) (σ 0 (plE X t j + 1)))) σ (X + 1)) ρ Y = f_je X ρ Y := rfl
  rw [ej] at a1 a2
  obtain ⟨b1, b2, -⟩ := fd2 3 X (fun i u => plS X i u) (fun i u σ => cpl (σ 0 (plS X i u)) (σ 0 (plS X i u + (X + 2)))) (fun t j σ σ' h => by rw [h 0 (by decide)]) (f_je X ρ Y) (Y + 1) (fun t j t' j' h1 _ h2 _ e => by
    have := uq (m := X + 2) (A := j) (B := j') (s := t + 1) (t := t' + 1) (by omega) (by omega) (by unfold plS at e; omega)
    omega)
  have ek : fd (fun j σ => fd (fun t σ => up2 σ 3 (plS X t j) (cpl (σ 0 (plS X t j)) (σ 0 (plS X t j + (X + 2))))) σ X) (f_je X ρ Y) (Y + 1) = f_jn X Y ρ := rfl
  rw [ek] at b1 b2
  refine ⟨fun a h2 h3 => (b1 a h3).trans (a1 a h2), fun t j ht hj => ?_, fun i u hi hu => ?_⟩
  · rw [b1 2 (by decide)]; exact a2 t j ht hj
  · rw [b2 i u hi hu, a1 0 (by decide)]
theorem sl_e (X Y : Nat) (ρ : Nat → Nat → Int32) : (∀ a, ¬ a = 1 → f_sl X ρ Y a = ρ a) ∧ (∀ i j, i < X → j < Y → f_sl X ρ Y 1 (pl X i j) = ρ 8 0) ∧ (∀ p, (∀ i j, i < X → j < Y → ¬ p = pl X i j) → f_sl X ρ Y 1 p = ρ 1 p) :=
  fd2 1 X (fun i j => pl X i j) (fun _ _ σ => σ 8 0) (fun t j σ σ' h => by rw [h 8 (by decide)]) ρ Y (fun t j t' j' h1 _ h2 _ e => (pl_iff h1 h2).mp e)
def wgA (X : Nat) (σ : Nat → Nat → Int32) (c : Nat) : Int32 := σ 2 c + σ 2 (c - 1) + σ 3 c + σ 3 (c - (X + 2))
def wgB (X : Nat) (σ : Nat → Nat → Int32) (c : Nat) : Int32 := σ 2 c * (σ 1 (c + 1) - σ 8 0) + σ 2 (c - 1) * (σ 1 (c - 1) - σ 8 0) + σ 3 c * (σ 1 (c + (X + 2)) - σ 8 0) + σ 3 (c - (X + 2)) * (σ 1 (c - (X + 2)) - σ 8 0)
def WgP (X Y : Nat) (ρ : Nat → Nat → Int32) (Dn : Nat → Nat → Prop) (σ : Nat → Nat → Int32) : Prop := (∀ a, ¬ a = 4 → ¬ a = 5 → σ a = ρ a) ∧ ∀ i j, i < X → j < Y → Dn i j → σ 4 (pl X i j) = wgA X ρ (pl X i j) ∧ σ 5 (pl X i j) = wgB X ρ (pl X i j)
theorem wg_s {X Y : Nat} {ρ σ : Nat → Nat → Int32} {Dn Dm : Nat → Nat → Prop} (h : WgP X Y ρ Dn σ) {i j : Nat} (hi : i < X) (hj : j < Y) (hD : ∀ a b, a < X → b < Y → Dm a b → Dn a b ∨ (a = i ∧ b = j)) : WgP X Y ρ Dm (f_weigh X σ (pl X i j)) := by
  have eA : σ 2 (pl X i j) + σ 2 (pl X i j - 1) + σ 3 (pl X i j) + σ 3 (pl X i j - (X + 2)) = wgA X ρ (pl X i j) := by
    unfold wgA; rw [h.1 2 (by decide) (by decide), h.1 3 (by decide) (by decide)]
  have eB : wgB X σ (pl X i j) = wgB X ρ (pl X i j) := by
    unfold wgB; rw [h.1 2 (by decide) (by decide), h.1 3 (by decide) (by decide), h.1 1 (by decide) (by decide), h.1 8 (by decide) (by decide)]
  have ef : f_weigh X σ (pl X i j) = up2 (up2 σ 4 (pl X i j) (wgA X ρ (pl X i j))) 5 (pl X i j) (wgB X ρ (pl X i j)) := by
    rw [← eB, ← eA]; rfl
  rw [ef]
  refine ⟨fun a h4 h5 => by rw [up_row h5, up_row h4]; exact h.1 a h4 h5, fun a b ha hb hd => ?_⟩
  by_cases q : a = i ∧ b = j
  · obtain ⟨rfl, rfl⟩ := q
    exact ⟨by rw [up_row (by decide), up_at], up_at _ _ _ _⟩
  · have hne : ¬ pl X a b = pl X i j := fun z => q ((pl_iff ha hi).mp z)
    have hd' := (hD a b ha hb hd).resolve_right q
    rw [up_row (by decide), up_ne (fun z => hne z.2), up_ne (fun z => hne z.2), up_row (by decide)]
    exact h.2 a b ha hb hd'
theorem wg_e (X Y : Nat) (ρ : Nat → Nat → Int32) : WgP X Y ρ (fun _ _ => True) (f_wg X ρ Y) := by
  have key := fd_inv (f := fun j σ => f_wgR X j σ X) (a := ρ) (fun j σ => WgP X Y ρ (fun _ b => b < j) σ) ⟨fun _ _ _ => rfl, fun _ _ _ _ h => by omega⟩ Y (fun j hj σ h => by
    have row := fd_inv (f := fun i σ => f_weigh X σ (pl X i j)) (a := σ) (fun i σ => WgP X Y ρ (fun a b => b < j ∨ (b = j ∧ a < i)) σ) ⟨h.1, fun a b ha hb hd => h.2 a b ha hb (by omega)⟩ X (fun i hi σ h => wg_s h hi hj (fun a b _ _ hd => by omega))
    exact ⟨row.1, fun a b ha hb hd => row.2 a b ha hb (by omega)⟩)
  exact ⟨key.1, fun a b ha hb _ => key.2 a b ha hb hb⟩
/-- all of it -/
theorem pre_e {X Y : Nat} (hB : 1 ≤ X ∧ X ≤ 10 ∧ 1 ≤ Y ∧ Y ≤ 10) {σ τ : Nat → Nat → Int32} (hC : RC X Y σ τ) (hl : rng (f_lh σ 8 0) (-10000) 10000) (hrow : ∀ a, ¬ a = 8 → f_lh σ a = σ a) :
    GX X Y τ (f_pre X Y σ) ∧ CR X Y τ (f_pre X Y σ) (fun _ _ => (f_lh σ 8 0).toInt) ∧ (∀ a, (a = 0 ∨ a = 6 ∨ a = 7) → f_pre X Y σ a = σ a) ∧ f_pre X Y σ 8 = f_lh σ 8 ∧ (∀ p, (∀ i j, i < X → j < Y → ¬ p = pl X i j) → f_pre X Y σ 1 p = σ 1 p) := by
  have hT := RC_TB hC
  obtain ⟨j1, j2, j3⟩ := jn_e X Y (f_lh σ)
  obtain ⟨s1, s2, s3⟩ := sl_e X Y (f_jn X Y (f_lh σ))
  obtain ⟨w1, w2⟩ := wg_e X Y (f_sl X (f_jn X Y (f_lh σ)) Y)
  have ep : f_pre X Y σ = f_wg X (f_sl X (f_jn X Y (f_lh σ)) Y) Y := rfl
  generalize hρ3 : f_sl X (f_jn X Y (f_lh σ)) Y = ρ3 at s1 s2 s3 w1 w2 ep
  generalize hρ2 : f_jn X Y (f_lh σ) = ρ2 at j1 j2 j3 s1 s2 s3
  rw [ep]
  generalize hρ4 : f_wg X ρ3 Y = ρ4 at w1 w2
  have z0 : f_lh σ 0 = σ 0 := hrow 0 (by decide)
  have e8 : ρ3 8 0 = f_lh σ 8 0 := by rw [s1 8 (by decide), j1 8 (by decide) (by decide)]
  -- the four G
  have g : ∀ i j, i < X → j < Y → (ρ3 2 (pl X i j)).toInt = gD X Y τ 1 i j ∧ (ρ3 2 (pl X i j - 1)).toInt = gD X Y τ 3 i j ∧ (ρ3 3 (pl X i j)).toInt = gD X Y τ 2 i j ∧ (ρ3 3 (pl X i j - (X + 2))).toInt = gD X Y τ 0 i j := by
    intro i j hi hj
    have own := (hC.1 i j hi hj)
    have hpl := pl_lt (X := X) (Y := Y) hi hj
    rw [s1 2 (by decide), s1 3 (by decide)]
    refine ⟨?_, ?_, ?_, ?_⟩
    · rw [← plE_1, j2 (i + 1) j (by omega) hj, plE_1, z0, own.1]
      unfold gD; rw [← nb0 hC hi hj (show 1 < 4 by decide)]; rfl
    · rw [← plE_0, j2 i j (by omega) hj, plE_0, z0, show pl X i j - 1 + 1 = pl X i j by omega, own.1]
      have hn := nb0 hC hi hj (show 3 < 4 by decide)
      have hn : σ 0 (pl X i j - 1) = nbC X Y τ 3 i j := hn
      rw [hn]
      unfold gD
      rw [(cpl_b own.2 (nbC_b hT hi hj 3)).2.2.1]
    · rw [← plS_1, j3 i (j + 1) hi (by omega), plS_1, z0, own.1]
      unfold gD; rw [← nb0 hC hi hj (show 2 < 4 by decide)]; rfl
    · rw [← plS_0, j3 i j hi (by omega), plS_0, z0, show pl X i j - (X + 2) + (X + 2) = pl X i j by omega, own.1]
      have hn : σ 0 (pl X i j - (X + 2)) = nbC X Y τ 0 i j := nb0 hC hi hj (show 0 < 4 by decide)
      rw [hn]
      unfold gD
      rw [(cpl_b own.2 (nbC_b hT hi hj 0)).2.2.1]
  -- the warmths beside
  have nwv : ∀ i j d, i < X → j < Y → d < 4 → (ρ3 1 (nbP X d i j)).toInt = nw X Y τ (fun _ _ => (f_lh σ 8 0).toInt) d i j := by
    intro i j d hi hj hd
    rcases nb_cell (X := X) (Y := Y) hi hj hd with ⟨a, b, ha, hb, e, -, e2⟩ | ⟨k, hk, e, -, e2⟩
    · rw [e, e2, s2 a b ha hb, j1 8 (by decide) (by decide)]
    · rw [e, e2, s3 _ (fun a b ha hb => bd_ne hB hd hk ha hb), j1 1 (by decide) (by decide), hrow 1 (by decide), (hC.2.2.2 d k hd hk).2]
  have gx : GX X Y τ ρ4 := by
    intro i j hi hj
    obtain ⟨a4, -⟩ := w2 i j hi hj trivial
    obtain ⟨q1, q2, q3, q4⟩ := g i j hi hj
    have b0 := gD_b hT hi hj 0; have b1 := gD_b hT hi hj 1; have b2 := gD_b hT hi hj 2; have b3 := gD_b hT hi hj 3
    refine ⟨?_, by rw [w1 2 (by decide) (by decide)]; exact q1, by rw [w1 2 (by decide) (by decide)]; exact q2, by rw [w1 3 (by decide) (by decide)]; exact q3, by rw [w1 3 (by decide) (by decide)]; exact q4⟩
    rw [a4]
    unfold wgA GG
    have p1 : (ρ3 2 (pl X i j) + ρ3 2 (pl X i j - 1)).toInt = gD X Y τ 1 i j + gD X Y τ 3 i j := by rw [p32 (by rw [q1, q2]; omega) (by rw [q1, q2]; omega), q1, q2]
    have p2 : (ρ3 2 (pl X i j) + ρ3 2 (pl X i j - 1) + ρ3 3 (pl X i j)).toInt = gD X Y τ 1 i j + gD X Y τ 3 i j + gD X Y τ 2 i j := by rw [p32 (by rw [p1, q3]; omega) (by rw [p1, q3]; omega), p1, q3]
    rw [p32 (by rw [p2, q4]; omega) (by rw [p2, q4]; omega), p2, q4]
    omega
  refine ⟨gx, ?_, fun a ha => ?_, ?_, fun p hp => ?_⟩
  · intro i j hi hj
    obtain ⟨-, a5⟩ := w2 i j hi hj trivial
    obtain ⟨q1, q2, q3, q4⟩ := g i j hi hj
    refine ⟨by rw [w1 1 (by decide) (by decide), s2 i j hi hj, j1 8 (by decide) (by decide)], ?_⟩
    rw [a5]
    unfold wgB
    rw [e8]
    unfold rng at hl
    have hub : ∀ i j, i < X → j < Y → -10000 ≤ (fun _ _ : Nat => (f_lh σ 8 0).toInt) i j ∧ (fun _ _ : Nat => (f_lh σ 8 0).toInt) i j ≤ 10000 := fun _ _ _ _ => hl
    have nb := nwu_b hT hub hi hj
    have t : ∀ (d : Nat) (w c : Int32), d < 4 → w.toInt = gD X Y τ d i j → c = ρ3 1 (nbP X d i j) → (w * (c - f_lh σ 8 0)).toInt = gD X Y τ d i j * (nw X Y τ (fun _ _ => (f_lh σ 8 0).toInt) d i j - (f_lh σ 8 0).toInt) ∧ (-400000 ≤ gD X Y τ d i j * (nw X Y τ (fun _ _ => (f_lh σ 8 0).toInt) d i j - (f_lh σ 8 0).toInt) ∧ gD X Y τ d i j * (nw X Y τ (fun _ _ => (f_lh σ 8 0).toInt) d i j - (f_lh σ 8 0).toInt) ≤ 400000) := by
      intro d w c hd hw hc
      have n1 := nwv i j d hi hj hd
      have n2 := nb d
      have gb := gD_b hT hi hj d
      have hm : (c - f_lh σ 8 0).toInt = nw X Y τ (fun _ _ => (f_lh σ 8 0).toInt) d i j - (f_lh σ 8 0).toInt := by
        rw [hc, m32 (by rw [n1]; omega) (by rw [n1]; omega), n1]
      have hp := mul_b (a := gD X Y τ d i j) (b := nw X Y τ (fun _ _ => (f_lh σ 8 0).toInt) d i j - (f_lh σ 8 0).toInt) (A := 20) (B := 20000) ⟨by omega, by omega⟩ ⟨by omega, by omega⟩
      exact ⟨by rw [t32 (by rw [hw, hm]; omega) (by rw [hw, hm]; omega), hw, hm], by omega⟩
    obtain ⟨t1, u1⟩ := t 1 _ _ (by decide) q1 (rfl : ρ3 1 (pl X i j + 1) = _)
    obtain ⟨t3, u3⟩ := t 3 _ _ (by decide) q2 (rfl : ρ3 1 (pl X i j - 1) = _)
    obtain ⟨t2, u2⟩ := t 2 _ _ (by decide) q3 (rfl : ρ3 1 (pl X i j + (X + 2)) = _)
    obtain ⟨t0, u0⟩ := t 0 _ _ (by decide) q4 (rfl : ρ3 1 (pl X i j - (X + 2)) = _)
    have p1 := p32 (a := ρ3 2 (pl X i j) * (ρ3 1 (pl X i j + 1) - f_lh σ 8 0)) (b := ρ3 2 (pl X i j - 1) * (ρ3 1 (pl X i j - 1) - f_lh σ 8 0)) (by rw [t1, t3]; omega) (by rw [t1, t3]; omega)
    have p2 := p32 (a := ρ3 2 (pl X i j) * (ρ3 1 (pl X i j + 1) - f_lh σ 8 0) + ρ3 2 (pl X i j - 1) * (ρ3 1 (pl X i j - 1) - f_lh σ 8 0)) (b := ρ3 3 (pl X i j) * (ρ3 1 (pl X i j + (X + 2)) - f_lh σ 8 0)) (by rw [p1, t1, t3, t2]; omega) (by rw [p1, t1, t3, t2]; omega)
    rw [p32 (by rw [p2, p1, t1, t3, t2, t0]; omega) (by rw [p2, p1, t1, t3, t2, t0]; omega), p2, p1, t1, t3, t2, t0]
    unfold PP GG
    rw [Int.add_mul, Int.add_mul, Int.add_mul, Int.mul_sub, Int.mul_sub, Int.mul_sub, Int.mul_sub]
    generalize (f_lh σ 8 0).toInt = w
    dsimp only
    omega
  · rcases ha with rfl | rfl | rfl
    · rw [w1 0 (by decide) (by decide), s1 0 (by decide), j1 0 (by decide) (by decide)]; exact z0
    · rw [w1 6 (by decide) (by decide), s1 6 (by decide), j1 6 (by decide) (by decide)]; exact hrow 6 (by decide)
    · rw [w1 7 (by decide) (by decide), s1 7 (by decide), j1 7 (by decide) (by decide)]; exact hrow 7 (by decide)
  · rw [w1 8 (by decide) (by decide), s1 8 (by decide), j1 8 (by decide) (by decide)]
  · rw [w1 1 (by decide) (by decide), s3 p hp, j1 1 (by decide) (by decide), hrow 1 (by decide)]
