set_option maxRecDepth 20000 in
theorem st_mirrored (l : Launch) (hst : l.stackTraces = false) (D : va_G) (cI cJ : ClassId) (ab ad : Nat → Nat) (ao : Nat) (am sa : Nat → Nat) {X Y : Nat} (hB : 1 ≤ X ∧ X ≤ 10 ∧ 1 ≤ Y ∧ Y ≤ 10) {σ : Nat → Nat → Int32} {hh : Nat → Int64} {hw : Nat → Int32} {n : Int32} {τ : Nat → Nat → Int32} {ℓ : Nat → Nat → Int64} (hR : RI X Y σ hh hw n τ ℓ) (a1 : Int32) : StG (α := Int32) outB Value.int (.int 0) l D cI cJ ab ad ao am sa X Y yL_mirrored wsL_mirrored 4 yX2_mirrored wsX2_mirrored 5 [.int a1] σ hh hw n τ ℓ := by
  by_cases hv : mIn a1 0 1 = 0
  · exact Or.inl ⟨⟨_, _, by decide, fun go => h_mirrored_no l D cI cJ ab ad X Y σ hh hw n ao go sa a1 (t_X1_mirrored l D cI cJ ab ad X Y σ hh hw n hB sa hst a1 hv)⟩, _, _, by decide, k_X2_mirrored_no l D cI cJ am X Y τ ℓ hB a1 hv⟩
  · have h2 := mIn_2 hv
    obtain ⟨N, hN, hR', hE, hf'⟩ := F_settle hB hR
    rcases h2 with rfl | rfl
    · have e1 := A_mirr0 hB hR'.1 hE
      exact Or.inr ⟨(f_settle X Y σ), hh, hw, n, ((f_mset X Y N (up2 τ 5 0 0, ℓ)).1), ((f_mset X Y N (up2 τ 5 0 0, ℓ)).2), (n_mmi X Y (f_mset X Y N (up2 τ 5 0 0, ℓ)).1 0 Y), hR', hf', ⟨_, _, by decide, fun go => h_mirrored0_ok l D cI cJ ab ad X Y σ hh hw n ao go (f_settle X Y σ) hh hw n _ _ (by rw [← e1]; exact k_X1_mirrored0_ok l D cI cJ ab ad X Y σ hh hw n hB)⟩, _, _, by decide, (k_X2_mirrored0_ok l D cI cJ am X Y τ ℓ hB N hv hN)⟩
    · have e1 := A_mirr1 hB hR'.1 hE
      exact Or.inr ⟨(f_settle X Y σ), hh, hw, n, ((f_mset X Y N (up2 τ 5 0 0, ℓ)).1), ((f_mset X Y N (up2 τ 5 0 0, ℓ)).2), (n_mmi X Y (f_mset X Y N (up2 τ 5 0 0, ℓ)).1 1 Y), hR', hf', ⟨_, _, by decide, fun go => h_mirrored1_ok l D cI cJ ab ad X Y σ hh hw n ao go (f_settle X Y σ) hh hw n _ _ (by rw [← e1]; exact k_X1_mirrored1_ok l D cI cJ ab ad X Y σ hh hw n hB)⟩, _, _, by decide, (k_X2_mirrored1_ok l D cI cJ am X Y τ ℓ hB N hv hN)⟩
