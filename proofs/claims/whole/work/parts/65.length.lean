set_option maxRecDepth 20000 in
theorem st_length (l : Launch) (hst : l.stackTraces = false) (D : va_G) (cI cJ : ClassId) (ab ad : Nat → Nat) (ao : Nat) (am sa : Nat → Nat) {X Y : Nat} (hB : 1 ≤ X ∧ X ≤ 10 ∧ 1 ≤ Y ∧ Y ≤ 10) {σ : Nat → Nat → Int32} {hh : Nat → Int64} {hw : Nat → Int32} {n : Int32} {τ : Nat → Nat → Int32} {ℓ : Nat → Nat → Int64} (hR : RI X Y σ hh hw n τ ℓ) (a1 a2 : Int32) : StG (α := Int32) Int32.toInt64 Value.int (.int 0) l D cI cJ ab ad ao am sa X Y yL_length wsL_length 5 yX2_length wsX2_length 4 [.int a1, .int a2] σ hh hw n τ ℓ := by
  obtain ⟨jn, hj, en, et⟩ := hR.2.2.2.2
  by_cases hv : vLen n a1 a2 = 0
  · exact Or.inl ⟨⟨_, _, by decide, fun go => h_length_no l D cI cJ ab ad X Y σ hh hw n ao go sa a1 a2 (t_X1_length l D cI cJ ab ad X Y σ hh hw n hB sa hst a1 a2 hv)⟩, _, _, by decide, k_X2_length_no l D cI cJ am X Y τ ℓ hB a1 a2 (by rw [et, ← en]; exact hv)⟩
  · obtain ⟨h1, h2⟩ := vLen_of hv
    obtain ⟨k, hk, rfl⟩ := mIn_jn hj (by rw [← en]; exact h1)
    have e1 : hw k = τ 4 k := by rw [hR.2.2.2.1]
    have hR3 := F_length hR k a2
    exact Or.inr ⟨σ, hh, (upd hw k a2), n, (up2 (up2 τ 5 0 0) 4 k a2), ℓ, (τ 4 k), hR3.1, hR3.2, ⟨_, _, by decide, fun go => h_length_ok l D cI cJ ab ad X Y σ hh hw n ao go σ hh (upd hw k a2) n _ _ _ (by rw [← e1]; exact k_X1_length_ok l D cI cJ ab ad X Y σ hh hw n hB k a2 hk h1 h2)⟩, _, _, by decide, (k_X2_length_ok l D cI cJ am X Y τ ℓ hB k a2 (by rw [et, ← en]; exact hv) hk)⟩
