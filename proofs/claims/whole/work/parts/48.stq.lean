theorem mIn_rng {v : Int32} {a b : Int32} (h : ¬ mIn v a b = 0) : rng v a.toInt b.toInt := by
  unfold mIn at h
  by_cases h1 : v < a
  · rw [if_pos h1] at h; exact absurd rfl h
  · rw [if_neg h1] at h
    by_cases h2 : b < v
    · rw [if_pos h2] at h; exact absurd rfl h
    · rw [Int32.lt_iff_toInt_lt] at h1 h2
      exact ⟨by omega, by omega⟩
theorem mIn_4 {v : Int32} (h : ¬ mIn v 0 3 = 0) : ∃ sd, sd < 4 ∧ v = nI sd := by
  have h1 : rng v 0 3 := mIn_rng h
  exact ⟨v.toInt.toNat, by have := h1.1; have := h1.2; omega, (nI_back v h1.1).symm⟩
theorem mIn_2 {v : Int32} (h : ¬ mIn v 0 1 = 0) : v = nI 0 ∨ v = nI 1 := by
  have h1 : rng v 0 1 := mIn_rng h
  have e := nI_back v h1.1
  rcases (show v.toInt.toNat = 0 ∨ v.toInt.toNat = 1 by have := h1.1; have := h1.2; omega) with q | q <;> rw [q] at e
  · exact Or.inl e.symm
  · exact Or.inr e.symm
theorem mIn_44 {v : Int32} (h : ¬ mIn v 0 3 = 0) : v = nI 0 ∨ v = nI 1 ∨ v = nI 2 ∨ v = nI 3 := by
  obtain ⟨sd, h1, rfl⟩ := mIn_4 h
  rcases (show sd = 0 ∨ sd = 1 ∨ sd = 2 ∨ sd = 3 by omega) with rfl | rfl | rfl | rfl <;> simp
theorem vBox_of {X Y : Nat} (hB : 1 ≤ X ∧ X ≤ 10 ∧ 1 ≤ Y ∧ Y ≤ 10) {a1 a2 a3 a4 a5 : Int32} (h : ¬ vBox X Y a1 a2 a3 a4 a5 = 0) : ∃ i0 j0 i1 j1 : Nat, a1 = nI i0 ∧ a2 = nI j0 ∧ a3 = nI i1 ∧ a4 = nI j1 ∧ i0 ≤ i1 ∧ i1 < X ∧ j0 ≤ j1 ∧ j1 < Y ∧ ¬ mIn a5 0 20 = 0 := by
  unfold vBox at h
  by_cases c1 : mCell X Y a1 a2 = 0
  · rw [if_pos c1] at h; exact absurd rfl h
  by_cases c2 : mCell X Y a3 a4 = 0
  · rw [if_neg c1, if_pos c2] at h; exact absurd rfl h
  by_cases c3 : a3 < a1
  · rw [if_neg c1, if_neg c2, if_pos c3] at h; exact absurd rfl h
  by_cases c4 : a4 < a2
  · rw [if_neg c1, if_neg c2, if_neg c3, if_pos c4] at h; exact absurd rfl h
  by_cases c5 : mIn a5 0 20 = 0
  · rw [if_neg c1, if_neg c2, if_neg c3, if_neg c4, if_pos c5] at h; exact absurd rfl h
  obtain ⟨i0, j0, b1, b2, e1, e2⟩ := mCell_of hB c1
  obtain ⟨i1, j1, b3, b4, e3, e4⟩ := mCell_of hB c2
  subst e1 e2 e3 e4
  refine ⟨i0, j0, i1, j1, rfl, rfl, rfl, rfl, ?_, b3, ?_, b4, c5⟩
  · rcases Nat.lt_or_ge i1 i0 with q | q
    · exact absurd (nI_lt q (by omega)) c3
    · exact q
  · rcases Nat.lt_or_ge j1 j0 with q | q
    · exact absurd (nI_lt q (by omega)) c4
    · exact q
theorem vSide_of {a1 a2 a3 : Int32} (h : ¬ vSide a1 a2 a3 = 0) : (∃ sd, sd < 4 ∧ a1 = nI sd) ∧ ¬ mIn a2 (-10000) 10000 = 0 ∧ ¬ mIn a3 0 20 = 0 := by
  unfold vSide at h
  by_cases c1 : mIn a1 0 3 = 0
  · rw [if_pos c1] at h; exact absurd rfl h
  by_cases c2 : mIn a2 (-10000) 10000 = 0
  · rw [if_neg c1, if_pos c2] at h; exact absurd rfl h
  by_cases c3 : mIn a3 0 20 = 0
  · rw [if_neg c1, if_neg c2, if_pos c3] at h; exact absurd rfl h
  exact ⟨mIn_4 c1, c2, c3⟩
theorem vTwo_of {a1 a2 : Int32} (h : ¬ vTwo a1 a2 = 0) : (∃ sd, sd < 4 ∧ a1 = nI sd) ∧ (a2 = nI 0 ∨ a2 = nI 1) := by
  unfold vTwo at h
  by_cases c1 : mIn a1 0 3 = 0
  · rw [if_pos c1] at h; exact absurd rfl h
  by_cases c2 : mIn a2 0 1 = 0
  · rw [if_neg c1, if_pos c2] at h; exact absurd rfl h
  exact ⟨mIn_4 c1, mIn_2 c2⟩
theorem mIn_jn {v : Int32} {jn : Nat} (hj : jn ≤ 10) (h : ¬ mIn v 0 (nI jn - 1) = 0) : ∃ k, k < 10 ∧ v = nI k := by
  rcases Nat.eq_zero_or_pos jn with rfl | h0
  · have h1 := mIn_rng h
    have e1 : (nI 0 - 1 : Int32).toInt = -1 := by decide
    have := h1.1; have := h1.2
    have e0 : (0 : Int32).toInt = 0 := rfl
    omega
  · obtain ⟨a, ha, e⟩ := mIn_of hj h0 h
    exact ⟨a, by omega, e⟩
theorem vLen_of {n a1 a2 : Int32} (h : ¬ vLen n a1 a2 = 0) : ¬ mIn a1 0 (n - 1) = 0 ∧ ¬ mIn a2 0 1000 = 0 := by
  unfold vLen at h
  by_cases c1 : mIn a1 0 (n - 1) = 0
  · rw [if_pos c1] at h; exact absurd rfl h
  by_cases c2 : mIn a2 0 1000 = 0
  · rw [if_neg c1, if_pos c2] at h; exact absurd rfl h
  exact ⟨c1, c2⟩
/-! a joint made, a length changed: the tie -/
theorem up_ne {τ : Nat → Nat → Int32} {a k : Nat} {v : Int32} {b j : Nat} (h : ¬ (b = a ∧ j = k)) : up2 τ a k v b j = τ b j := by
  unfold up2
  by_cases h5 : b = a
  · subst h5
    rw [show Nat.beq b b = true from Nat.beq_refl b]
    show upd (τ b) k v j = τ b j
    unfold upd
    have : j ≠ k := fun q => h ⟨rfl, q⟩
    simp [this]
  · have : Nat.beq b a = false := by
      cases hq : Nat.beq b a
      · rfl
      · exact absurd (Nat.eq_of_beq_eq_true hq) h5
    rw [this]; rfl
theorem up_row {τ : Nat → Nat → Int32} {a k : Nat} {v : Int32} {b : Nat} (h : ¬ b = a) : up2 τ a k v b = τ b := funext fun j => up_ne (fun q => h q.1)
theorem up_own (τ : Nat → Nat → Int32) (a k : Nat) (v : Int32) : up2 τ a k v a = upd (τ a) k v := by
  unfold up2; rw [show Nat.beq a a = true from Nat.beq_refl a]; rfl
/-- the tie speaks of these cells of the reference alone -/
theorem RI_same {X Y : Nat} {σ : Nat → Nat → Int32} {hh hh' : Nat → Int64} {hw hw' : Nat → Int32} {n n' : Int32} {τ τ' : Nat → Nat → Int32} {ℓ ℓ' : Nat → Nat → Int64} (h : RI X Y σ hh hw n τ ℓ) (r0 : τ' 0 = τ 0) (r1 : τ' 1 = τ 1) (r2 : τ' 2 = τ 2) (r3 : τ' 3 = τ 3) (e1 : τ' 5 1 = τ 5 1) (e2 : τ' 5 2 = τ 5 2) (e3 : τ' 5 3 = τ 5 3) (q1 : hh' = ℓ' 0) (q2 : hw' = τ' 4) (q3 : ∃ jn, jn ≤ 10 ∧ n' = nI jn ∧ τ' 5 4 = nI jn) : RI X Y σ hh' hw' n' τ' ℓ' := by
  unfold RI RC SE GG gD nbC at *
  rw [r0, r1, r2, r3, e1, e2, e3]
  exact ⟨h.1, h.2.1, q1, q2, q3⟩
theorem F_joint {X Y : Nat} {σ : Nat → Nat → Int32} {hh : Nat → Int64} {hw : Nat → Int32} {n : Int32} {q : MS} (h : RI X Y σ hh hw n q.1 q.2) (v : Int64) (jn : Nat) (hj : jn < 10) : RI X Y σ (vp_updL hh jn v) (upd hw jn 0) (nI (jn + 1)) (f_mj q v jn).1 (f_mj q v jn).2 ∧ (f_mj q v jn).1 5 0 = q.1 5 0 := by
  refine ⟨RI_same h ?_ ?_ ?_ ?_ ?_ ?_ ?_ ?_ ?_ ⟨jn + 1, by omega, rfl, up_at (up2 q.1 4 jn 0) 5 4 (nI (jn + 1))⟩, ?_⟩
  · show up2 (up2 q.1 4 jn 0) 5 4 (nI (jn + 1)) 0 = _
    rw [up_row (by decide), up_row (by decide)]
  · show up2 (up2 q.1 4 jn 0) 5 4 (nI (jn + 1)) 1 = _
    rw [up_row (by decide), up_row (by decide)]
  · show up2 (up2 q.1 4 jn 0) 5 4 (nI (jn + 1)) 2 = _
    rw [up_row (by decide), up_row (by decide)]
  · show up2 (up2 q.1 4 jn 0) 5 4 (nI (jn + 1)) 3 = _
    rw [up_row (by decide), up_row (by decide)]
  · show up2 (up2 q.1 4 jn 0) 5 4 (nI (jn + 1)) 5 1 = _
    rw [up_ne (by decide), up_row (by decide)]
  · show up2 (up2 q.1 4 jn 0) 5 4 (nI (jn + 1)) 5 2 = _
    rw [up_ne (by decide), up_row (by decide)]
  · show up2 (up2 q.1 4 jn 0) 5 4 (nI (jn + 1)) 5 3 = _
    rw [up_ne (by decide), up_row (by decide)]
  · show vp_updL hh jn v = upL q.2 0 jn v 0
    unfold upL
    rw [h.2.2.1]; rfl
  · show upd hw jn 0 = up2 (up2 q.1 4 jn 0) 5 4 (nI (jn + 1)) 4
    rw [up_row (by decide), up_own, h.2.2.2.1]
  · show up2 (up2 q.1 4 jn 0) 5 4 (nI (jn + 1)) 5 0 = _
    rw [up_ne (by decide), up_row (by decide)]
theorem F_length {X Y : Nat} {σ : Nat → Nat → Int32} {hh : Nat → Int64} {hw : Nat → Int32} {n : Int32} {τ : Nat → Nat → Int32} {ℓ : Nat → Nat → Int64} (h : RI X Y σ hh hw n τ ℓ) (k : Nat) (v : Int32) : RI X Y σ hh (upd hw k v) n (up2 (up2 τ 5 0 0) 4 k v) ℓ ∧ (up2 (up2 τ 5 0 0) 4 k v) 5 0 = 0 := by
  refine ⟨RI_same h ?_ ?_ ?_ ?_ ?_ ?_ ?_ h.2.2.1 ?_ ?_, ?_⟩
  · rw [up_row (by decide), up_row (by decide)]
  · rw [up_row (by decide), up_row (by decide)]
  · rw [up_row (by decide), up_row (by decide)]
  · rw [up_row (by decide), up_row (by decide)]
  · rw [up_row (by decide), up_ne (by decide)]
  · rw [up_row (by decide), up_ne (by decide)]
  · rw [up_row (by decide), up_ne (by decide)]
  · rw [up_own, up_row (by decide), h.2.2.2.1]
  · rw [up_row (by decide), up_ne (by decide)]; exact h.2.2.2.2
  · rw [up_row (by decide)]; exact up_at _ _ _ _
