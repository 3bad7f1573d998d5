set_option maxRecDepth 20000 in
theorem st_side (l : Launch) (hst : l.stackTraces = false) (D : va_G) (cI cJ : ClassId) (ab ad : Nat → Nat) (ao : Nat) (am sa : Nat → Nat) {X Y : Nat} (hB : 1 ≤ X ∧ X ≤ 10 ∧ 1 ≤ Y ∧ Y ≤ 10) {σ : Nat → Nat → Int32} {hh : Nat → Int64} {hw : Nat → Int32} {n : Int32} {τ : Nat → Nat → Int32} {ℓ : Nat → Nat → Int64} (hR : RI X Y σ hh hw n τ ℓ) (a1 a2 a3 : Int32) : StG (α := Int32) Int32.toInt64 Value.int (.int 0) l D cI cJ ab ad ao am sa X Y yL_side wsL_side 6 yX2_side wsX2_side 5 [.int a1, .int a2, .int a3] σ hh hw n τ ℓ := by
  by_cases hv : vSide a1 a2 a3 = 0
  · exact Or.inl ⟨⟨_, _, by decide, fun go => h_side_no l D cI cJ ab ad X Y σ hh hw n ao go sa a1 a2 a3 (t_X1_side l D cI cJ ab ad X Y σ hh hw n hB sa hst a1 a2 a3 hv)⟩, _, _, by decide, k_X2_side_no l D cI cJ am X Y τ ℓ hB a1 a2 a3 hv⟩
  · obtain ⟨⟨sd, hsd, rfl⟩, h2, h3⟩ := vSide_of hv
    obtain ⟨e1, hR', hf'⟩ := F_side hB hR sd a2 a3 hsd (mIn_rng h2) (mIn_rng h3)
    exact Or.inr ⟨(f_cs X Y sd a2 a3 σ), hh, hw, n, (up2 (up2 (up2 (up2 τ 5 0 0) 5 1 0) 2 sd a2) 3 sd a3), ℓ, (τ 3 sd), hR', hf', ⟨_, _, by decide, fun go => h_side_ok l D cI cJ ab ad X Y σ hh hw n ao go (f_cs X Y sd a2 a3 σ) hh hw n _ _ _ _ (by rw [← e1]; exact k_X1_side_ok l D cI cJ ab ad X Y σ hh hw n hB sd a2 a3 hsd h2 h3)⟩, _, _, by decide, (k_X2_side_ok l D cI cJ am X Y τ ℓ hB sd a2 a3 hv hsd)⟩
