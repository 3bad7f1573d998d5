set_option maxRecDepth 20000 in
theorem st_leads (l : Launch) (hst : l.stackTraces = false) (D : va_G) (cI cJ : ClassId) (ab ad : Nat → Nat) (ao : Nat) (am sa : Nat → Nat) {X Y : Nat} (hB : 1 ≤ X ∧ X ≤ 10 ∧ 1 ≤ Y ∧ Y ≤ 10) {σ : Nat → Nat → Int32} {hh : Nat → Int64} {hw : Nat → Int32} {n : Int32} {τ : Nat → Nat → Int32} {ℓ : Nat → Nat → Int64} (hR : RI X Y σ hh hw n τ ℓ) (a1 a2 : Int32) : StG (α := Int32) Int32.toInt64 Value.int (.int 0) l D cI cJ ab ad ao am sa X Y yL_leads wsL_leads 5 yX2_leads wsX2_leads 3 [.int a1, .int a2] σ hh hw n τ ℓ := by
  by_cases hv : mCell X Y a1 a2 = 0
  · exact Or.inl ⟨⟨_, _, by decide, fun go => h_leads_no l D cI cJ ab ad X Y σ hh hw n ao go sa a1 a2 (t_X1_leads l D cI cJ ab ad X Y σ hh hw n hB sa hst a1 a2 hv)⟩, _, _, by decide, k_X2_leads_no l D cI cJ am X Y τ ℓ hB a1 a2 hv⟩
  · obtain ⟨i, j, hi, hj, rfl, rfl⟩ := mCell_of hB hv
    have e1 := (hR.1.1 i j hi hj).1
    exact Or.inr ⟨σ, hh, hw, n, (up2 τ 5 0 0), ℓ, (τ 0 (10 * j + i)), (RI_fault hR 0), (up_at τ 5 0 0), ⟨_, _, by decide, fun go => h_leads_ok l D cI cJ ab ad X Y σ hh hw n ao go σ hh hw n _ _ _ (by rw [← e1]; exact k_X1_leads_ok l D cI cJ ab ad X Y σ hh hw n hB i j hi hj)⟩, _, _, by decide, (k_X2_leads_ok l D cI cJ am X Y τ ℓ hB i j hv hi hj)⟩
