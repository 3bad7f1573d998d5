set_option maxRecDepth 20000 in
theorem st_factor (l : Launch) (hst : l.stackTraces = false) (D : va_G) (cI cJ : ClassId) (ab ad : Nat → Nat) (ao : Nat) (am sa : Nat → Nat) {X Y : Nat} (hB : 1 ≤ X ∧ X ≤ 10 ∧ 1 ≤ Y ∧ Y ≤ 10) {σ : Nat → Nat → Int32} {hh : Nat → Int64} {hw : Nat → Int32} {n : Int32} {τ : Nat → Nat → Int32} {ℓ : Nat → Nat → Int64} (hR : RI X Y σ hh hw n τ ℓ) (a1 a2 : Int32) : StG (α := Int32) Int32.toInt64 Value.int (.int 0) l D cI cJ ab ad ao am sa X Y yL_factor wsL_factor 5 yX2_factor wsX2_factor 9 [.int a1, .int a2] σ hh hw n τ ℓ := by
  by_cases hv : vTwo a1 a2 = 0
  · exact Or.inl ⟨⟨_, _, by decide, fun go => h_factor_no l D cI cJ ab ad X Y σ hh hw n ao go sa a1 a2 (t_X1_factor l D cI cJ ab ad X Y σ hh hw n hB sa hst a1 a2 hv)⟩, _, _, by decide, k_X2_factor_no l D cI cJ am X Y τ ℓ hB a1 a2 hv⟩
  · obtain ⟨⟨sd, hsd, rfl⟩, h2⟩ := vTwo_of hv
    obtain ⟨N, hN, hR', hE, hf'⟩ := F_settle hB hR
    obtain ⟨M, hM1, hM2, eF0, eF1⟩ := A_factor hB hR'.1 hE sd hsd
    rcases h2 with rfl | rfl
    · have e1 := eF0
      exact Or.inr ⟨(f_settle X Y σ), hh, hw, n, ((f_mset X Y N (up2 τ 5 0 0, ℓ)).1), ((f_mset X Y N (up2 τ 5 0 0, ℓ)).2), (mAb X Y (f_mset X Y N (up2 τ 5 0 0, ℓ)).1 sd / mG X Y (f_mset X Y N (up2 τ 5 0 0, ℓ)).1 sd M), hR', hf', ⟨_, _, by decide, fun go => h_factor0_ok l D cI cJ ab ad X Y σ hh hw n ao go (f_settle X Y σ) hh hw n _ _ _ (by rw [← e1]; exact k_X1_factor0_ok l D cI cJ ab ad X Y σ hh hw n hB sd hsd)⟩, _, _, by decide, (k_X2_factor0_ok l D cI cJ am X Y τ ℓ hB sd N M hv hsd hN hM1 hM2)⟩
    · have e1 := eF1
      exact Or.inr ⟨(f_settle X Y σ), hh, hw, n, ((f_mset X Y N (up2 τ 5 0 0, ℓ)).1), ((f_mset X Y N (up2 τ 5 0 0, ℓ)).2), (mAl X Y (f_mset X Y N (up2 τ 5 0 0, ℓ)).1 sd / mG X Y (f_mset X Y N (up2 τ 5 0 0, ℓ)).1 sd M), hR', hf', ⟨_, _, by decide, fun go => h_factor1_ok l D cI cJ ab ad X Y σ hh hw n ao go (f_settle X Y σ) hh hw n _ _ _ (by rw [← e1]; exact k_X1_factor1_ok l D cI cJ ab ad X Y σ hh hw n hB sd hsd)⟩, _, _, by decide, (k_X2_factor1_ok l D cI cJ am X Y τ ℓ hB sd N M hv hsd hN hM1 hM2)⟩
