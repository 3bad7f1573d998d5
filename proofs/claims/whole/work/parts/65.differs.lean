set_option maxRecDepth 20000 in
theorem st_differs (l : Launch) (hst : l.stackTraces = false) (D : va_G) (cI cJ : ClassId) (ab ad : Nat → Nat) (ao : Nat) (am sa : Nat → Nat) {X Y : Nat} (hB : 1 ≤ X ∧ X ≤ 10 ∧ 1 ≤ Y ∧ Y ≤ 10) {σ : Nat → Nat → Int32} {hh : Nat → Int64} {hw : Nat → Int32} {n : Int32} {τ : Nat → Nat → Int32} {ℓ : Nat → Nat → Int64} (hR : RI X Y σ hh hw n τ ℓ) (a1 : Int32) : StG (α := Int64) id Value.long (.long 0) l D cI cJ ab ad ao am sa X Y yL_differs wsL_differs 4 yX2_differs wsX2_differs 2 [.int a1] σ hh hw n τ ℓ := by
  obtain ⟨jn, hj, en, et⟩ := hR.2.2.2.2
  by_cases hv : mIn a1 0 (n - 1) = 0
  · exact Or.inl ⟨⟨_, _, by decide, fun go => h_differs_no l D cI cJ ab ad X Y σ hh hw n ao go sa a1 (t_X1_differs l D cI cJ ab ad X Y σ hh hw n hB sa hst a1 hv)⟩, _, _, by decide, k_X2_differs_no l D cI cJ am X Y τ ℓ hB a1 (by rw [et, ← en]; exact hv)⟩
  · obtain ⟨k, hk, rfl⟩ := mIn_jn hj (by rw [← en]; exact hv)
    obtain ⟨N, hN, hR', hE, hf'⟩ := F_settle hB hR
    have e1 : n_heat X Y (f_settle X Y σ) 4 - hh k = n_mh X Y (f_mset X Y N (up2 τ 5 0 0, ℓ)).1 4 - (f_mset X Y N (up2 τ 5 0 0, ℓ)).2 0 k := by rw [A_heat hB hR'.1 hE, hR'.2.2.1]
    exact Or.inr ⟨(f_settle X Y σ), hh, hw, n, ((f_mset X Y N (up2 τ 5 0 0, ℓ)).1), ((f_mset X Y N (up2 τ 5 0 0, ℓ)).2), (n_mh X Y (f_mset X Y N (up2 τ 5 0 0, ℓ)).1 4 - (f_mset X Y N (up2 τ 5 0 0, ℓ)).2 0 k), hR', hf', ⟨_, _, by decide, fun go => h_differs_ok l D cI cJ ab ad X Y σ hh hw n ao go (f_settle X Y σ) hh hw n _ _ (by rw [← e1]; exact k_X1_differs_ok l D cI cJ ab ad X Y σ hh hw n hB k hk hv)⟩, _, _, by decide, (k_X2_differs_ok l D cI cJ am X Y τ ℓ hB k N (by rw [et, ← en]; exact hv) hk hN)⟩
