set_option maxRecDepth 20000 in
theorem st_joint (l : Launch) (hst : l.stackTraces = false) (D : va_G) (cI cJ : ClassId) (ab ad : Nat → Nat) (ao : Nat) (am sa : Nat → Nat) {X Y : Nat} (hB : 1 ≤ X ∧ X ≤ 10 ∧ 1 ≤ Y ∧ Y ≤ 10) {σ : Nat → Nat → Int32} {hh : Nat → Int64} {hw : Nat → Int32} {n : Int32} {τ : Nat → Nat → Int32} {ℓ : Nat → Nat → Int64} (hR : RI X Y σ hh hw n τ ℓ)  : StG (α := Int32) Int32.toInt64 Value.int (.int 0) l D cI cJ ab ad ao am sa X Y yL_joint wsL_joint 3 yX2_joint wsX2_joint 1 [] σ hh hw n τ ℓ := by
  obtain ⟨jn, hj, en, et⟩ := hR.2.2.2.2
  by_cases hv : vJoint n = 0
  · exact Or.inl ⟨⟨_, _, by decide, fun go => h_joint_no l D cI cJ ab ad X Y σ hh hw n ao go sa  (t_X1_joint l D cI cJ ab ad X Y σ hh hw n hB sa hst  hv)⟩, _, _, by decide, k_X2_joint_no l D cI cJ am X Y τ ℓ hB  (by rw [et, ← en]; exact hv)⟩
  · have hj9 : jn < 10 := by
      rcases Nat.lt_or_ge jn 10 with q | q
      · exact q
      · exact absurd (by unfold vJoint; rw [en, show jn = 10 by omega]; rfl) hv
    obtain ⟨N, hN, hR', hE, hf'⟩ := F_settle hB hR
    have e1 := A_heat hB hR'.1 hE
    have ej : (f_mset X Y N (up2 τ 5 0 0, ℓ)).1 5 4 = nI jn := by
      obtain ⟨j2, -, e2, e3⟩ := hR'.2.2.2.2
      rw [e3, ← e2, en]
    have hR3 := F_joint hR' (n_mh X Y (f_mset X Y N (up2 τ 5 0 0, ℓ)).1 4) jn hj9
    exact Or.inr ⟨(f_settle X Y σ), (vp_updL hh jn (n_mh X Y (f_mset X Y N (up2 τ 5 0 0, ℓ)).1 4)), (upd hw jn 0), (nI (jn + 1)), ((f_mj (f_mset X Y N (up2 τ 5 0 0, ℓ)) (n_mh X Y (f_mset X Y N (up2 τ 5 0 0, ℓ)).1 4) jn).1), ((f_mj (f_mset X Y N (up2 τ 5 0 0, ℓ)) (n_mh X Y (f_mset X Y N (up2 τ 5 0 0, ℓ)).1 4) jn).2), (nI jn), hR3.1, (hR3.2.trans hf'), ⟨_, _, by decide, fun go => h_joint_ok l D cI cJ ab ad X Y σ hh hw n ao go (f_settle X Y σ) (vp_updL hh jn (n_mh X Y (f_mset X Y N (up2 τ 5 0 0, ℓ)).1 4)) (upd hw jn 0) (nI (jn + 1))  _ (by rw [← e1]; exact k_X1_joint_ok l D cI cJ ab ad X Y σ hh hw n hB jn en hj9)⟩, _, _, by decide, (k_X2_joint_ok l D cI cJ am X Y τ ℓ hB jn N (by rw [et, ← en]; exact hv) et hj9 hN ej)⟩
