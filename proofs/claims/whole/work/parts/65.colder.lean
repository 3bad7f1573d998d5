set_option maxRecDepth 20000 in
theorem st_colder (l : Launch) (hst : l.stackTraces = false) (D : va_G) (cI cJ : ClassId) (ab ad : Nat → Nat) (ao : Nat) (am sa : Nat → Nat) {X Y : Nat} (hB : 1 ≤ X ∧ X ≤ 10 ∧ 1 ≤ Y ∧ Y ≤ 10) {σ : Nat → Nat → Int32} {hh : Nat → Int64} {hw : Nat → Int32} {n : Int32} {τ : Nat → Nat → Int32} {ℓ : Nat → Nat → Int64} (hR : RI X Y σ hh hw n τ ℓ) (a1 : Int32) : StG (α := Int32) Int32.toInt64 Value.int (.int 0) l D cI cJ ab ad ao am sa X Y yL_colder wsL_colder 4 yX2_colder wsX2_colder 5 [.int a1] σ hh hw n τ ℓ := by
  by_cases hv : mIn a1 (-10000) 10000 = 0
  · exact Or.inl ⟨⟨_, _, by decide, fun go => h_colder_no l D cI cJ ab ad X Y σ hh hw n ao go sa a1 (t_X1_colder l D cI cJ ab ad X Y σ hh hw n hB sa hst a1 hv)⟩, _, _, by decide, k_X2_colder_no l D cI cJ am X Y τ ℓ hB a1 hv⟩
  · obtain ⟨N, hN, hR', hE, hf'⟩ := F_settle hB hR
    have e1 := A_colder hB hR'.1 hE a1
    exact Or.inr ⟨(f_settle X Y σ), hh, hw, n, ((f_mset X Y N (up2 τ 5 0 0, ℓ)).1), ((f_mset X Y N (up2 τ 5 0 0, ℓ)).2), (n_mco X (f_mset X Y N (up2 τ 5 0 0, ℓ)).1 a1 Y), hR', hf', ⟨_, _, by decide, fun go => h_colder_ok l D cI cJ ab ad X Y σ hh hw n ao go (f_settle X Y σ) hh hw n _ _ (by rw [← e1]; exact k_X1_colder_ok l D cI cJ ab ad X Y σ hh hw n hB a1 hv)⟩, _, _, by decide, (k_X2_colder_ok l D cI cJ am X Y τ ℓ hB a1 N hv hN)⟩
