/-! THE STATE on both sides -/
theorem GG_row {X Y : Nat} {τ τ0 : Nat → Nat → Int32} (h0 : τ 0 = τ0 0) (h3 : τ 3 = τ0 3) (i j : Nat) : GG X Y τ i j = GG X Y τ0 i j := by
  unfold GG gD nbC; rw [h0, h3]
theorem GX_row {X Y : Nat} {τ τ0 σ : Nat → Nat → Int32} (h0 : τ 0 = τ0 0) (h3 : τ 3 = τ0 3) (h : GX X Y τ σ) : GX X Y τ0 σ := by
  unfold GX GG gD nbC at *; rw [← h0, ← h3]; exact h
theorem CR_row {X Y : Nat} {τ τ0 σ : Nat → Nat → Int32} {u : Nat → Nat → Int} (h0 : τ 0 = τ0 0) (h2 : τ 2 = τ0 2) (h3 : τ 3 = τ0 3) (h : CR X Y τ σ u) : CR X Y τ0 σ u := by
  unfold CR PP GG gD nbC nw at *; rw [← h0, ← h2, ← h3]; exact h
theorem most_e {X Y : Nat} (hB : 1 ≤ X ∧ X ≤ 10 ∧ 1 ≤ Y ∧ Y ≤ 10) {σ : Nat → Nat → Int32} (h0 : rng (σ 8 0) (-10000) 10000) (h1 : rng (σ 8 1) (-10000) 10000) (h : (σ 8 0).toInt ≤ (σ 8 1).toInt) : (Y : Int) * (X * (σ 8 1).toInt) < Y * (X * (σ 8 0).toInt) + ((f_most X Y σ).toNatClampNeg : Nat) := by
  unfold rng at h0 h1
  have e1 : (σ 8 1 - σ 8 0).toInt = (σ 8 1).toInt - (σ 8 0).toInt := m32 (by omega) (by omega)
  have hXY := XY_lt hB
  have e2 : (nI (X * Y)).toInt = ((X * Y : Nat) : Int) := nI_toInt (by omega)
  have hb := mul_b (a := ((X * Y : Nat) : Int)) (b := (σ 8 1).toInt - (σ 8 0).toInt) (A := 100) (B := 20000) ⟨by omega, by omega⟩ ⟨by omega, by omega⟩
  have e3 : (nI (X * Y) * (σ 8 1 - σ 8 0)).toInt = ((X * Y : Nat) : Int) * ((σ 8 1).toInt - (σ 8 0).toInt) := by rw [t32 (by rw [e1, e2]; omega) (by rw [e1, e2]; omega), e1, e2]
  have i1 : (1 : Int32).toInt = 1 := rfl
  have e4 : (f_most X Y σ).toInt = ((X * Y : Nat) : Int) * ((σ 8 1).toInt - (σ 8 0).toInt) + 1 := by
    unfold f_most
    rw [p32 (by rw [e3, i1]; omega) (by rw [e3, i1]; omega), e3, i1]
  have hnn : 0 ≤ ((X * Y : Nat) : Int) * ((σ 8 1).toInt - (σ 8 0).toInt) := Int.mul_nonneg (by omega) (by omega)
  have e5 : ((f_most X Y σ).toNatClampNeg : Int) = ((X * Y : Nat) : Int) * ((σ 8 1).toInt - (σ 8 0).toInt) + 1 := by
    show (((f_most X Y σ).toInt.toNat : Nat) : Int) = _
    rw [e4]; omega
  rw [e5]
  have e6 : ((X * Y : Nat) : Int) * ((σ 8 1).toInt - (σ 8 0).toInt) = (Y : Int) * (X * (σ 8 1).toInt) - Y * (X * (σ 8 0).toInt) := by
    push_cast
    rw [Int.mul_comm (X : Int) (Y : Int), Int.mul_assoc, Int.mul_sub, Int.mul_sub]
  rw [e6]
  omega
theorem mf_e (κ : Nat → Nat → Int32) : (∀ a, ¬ a = 1 → n_mf κ 100 a = κ a) ∧ (∀ k, k < 100 → n_mf κ 100 1 k = κ 5 2) := by
  obtain ⟨a, b, -⟩ := fd1 1 (fun k => k) (fun _ σ => σ 5 2) (fun t σ σ' h => by rw [h 5 (by decide)]) κ 100 (fun t t' _ _ e => e)
  exact ⟨a, b⟩
theorem F_settle {X Y : Nat} (hB : 1 ≤ X ∧ X ≤ 10 ∧ 1 ≤ Y ∧ Y ≤ 10) {σ : Nat → Nat → Int32} {hh : Nat → Int64} {hw : Nat → Int32} {n : Int32} {τ : Nat → Nat → Int32} {ℓ : Nat → Nat → Int64} (hR : RI X Y σ hh hw n τ ℓ) : ∃ N, MT X Y (up2 τ 5 0 0, ℓ) N ∧ RI X Y (f_settle X Y σ) hh hw n (f_mset X Y N (up2 τ 5 0 0, ℓ)).1 (f_mset X Y N (up2 τ 5 0 0, ℓ)).2 ∧ SE X Y (f_settle X Y σ) (f_mset X Y N (up2 τ 5 0 0, ℓ)).1 ∧ (f_mset X Y N (up2 τ 5 0 0, ℓ)).1 5 0 = 0 := by
  have hR1 := RI_fault hR 0
  have t50 : up2 τ 5 0 0 5 0 = 0 := up_at _ _ _ _
  generalize up2 τ 5 0 0 = τ1 at hR1 t50 ⊢
  clear hR τ
  obtain ⟨hC, hfl, ehh, ehw, jn, hj, en, et⟩ := hR1
  rcases hfl with ⟨s82, t51⟩ | ⟨s82, t51, hE⟩
  · -- it is not settled
    have h6 : ∀ sd, sd < 4 → σ 6 sd = τ1 2 sd ∧ σ 7 sd = τ1 3 sd ∧ rng (τ1 2 sd) (-10000) 10000 := fun sd hsd => ⟨(hC.2.2.1 sd hsd).1, (hC.2.2.1 sd hsd).2.1, (hC.2.2.1 sd hsd).2.2.1⟩
    have hLs := LHs_4 h6
    have elh : f_lh σ = (n_lh σ 4).2 := rfl
    have emst : f_mst τ1 = n_mf (n_ml τ1 4).2 100 := rfl
    obtain ⟨lf, lf01, l0, l1, lr, l82, kr, k50, k51, k54, kb1, kb2, kb3, kc1, kc2⟩ := hLs
    rw [← elh] at l0 l1 lr l82
    generalize (n_ml τ1 4).2 = κ at emst l0 l1 kr k50 k51 k54 kb1 kb2 kb3 kc2
    obtain ⟨m1, m2⟩ := mf_e κ
    rw [← emst] at m1 m2
    have hset : f_mset X Y = fun N q => if q.1 5 1 = 0 then (n_ms X Y (f_mst q.1, q.2) N).2 else q := rfl
    generalize hτ0 : f_mst τ1 = τ0 at m1 m2
    have r0 : τ0 0 = τ1 0 := by rw [m1 0 (by decide), kr 0 (by decide)]
    have r2 : τ0 2 = τ1 2 := by rw [m1 2 (by decide), kr 2 (by decide)]
    have r3 : τ0 3 = τ1 3 := by rw [m1 3 (by decide), kr 3 (by decide)]
    have r4 : τ0 4 = τ1 4 := by rw [m1 4 (by decide), kr 4 (by decide)]
    have r5 : τ0 5 = κ 5 := m1 5 (by decide)
    have hT0 : TB X Y τ0 := TB_row r0 r2 r3 (RC_TB hC)
    have e52 : τ0 5 2 = f_lh σ 8 0 := by rw [r5, l0]
    have e53 : τ0 5 3 = f_lh σ 8 1 := by rw [r5, l1]
    rw [← r5] at kb1 kb2 kb3 kc2
    have hL : LH τ0 (τ0 5 2).toInt (τ0 5 3).toInt := ⟨kb3, fun sd hsd hp => by
      rw [r3] at hp
      rw [r2]
      by_cases z : (n_lh σ 4).1 = 0
      · have := kc1 z sd hsd; omega
      · exact (kc2 z sd hsd hp).2⟩
    have hr : -10000 ≤ (τ0 5 2).toInt ∧ (τ0 5 3).toInt ≤ 10000 := ⟨kb1.1, kb2.2⟩
    -- the reference
    have hAG : AG X Y (uT τ0) (fun _ _ => (τ0 5 2).toInt) := fun i j hi hj => by
      show (τ0 1 (10 * j + i)).toInt = (τ0 5 2).toInt
      rw [m2 _ (i10 hB hi hj), r5]
    have hN : (Y : Int) * (X * (τ0 5 3).toInt) < Y * (X * (τ0 5 2).toInt) + (((Y : Int) * (X * (τ0 5 3).toInt) - Y * (X * (τ0 5 2).toInt) + 1).toNat : Nat) := by
      generalize (Y : Int) * (X * (τ0 5 3).toInt) = A
      generalize (Y : Int) * (X * (τ0 5 2).toInt) = B
      omega
    generalize ((Y : Int) * (X * (τ0 5 3).toInt) - Y * (X * (τ0 5 2).toInt) + 1).toNat = N at hN
    obtain ⟨q1, q2, u', q3, q4, q5⟩ := ms_e hB hT0 hL hr (h0 := ℓ 0) (q := (τ0, ℓ)) ⟨fun _ _ => rfl, rfl⟩ hAG N hN
    -- the class
    have hrl : rng (f_lh σ 8 0) (-10000) 10000 := by rw [← e52]; exact kb1
    obtain ⟨p1, p2, p3, p4, p5⟩ := pre_e hB hC hrl lr
    have es : f_settle X Y σ = up2 (n_sw X Y (f_pre X Y σ) (f_most X Y (f_pre X Y σ)).toNatClampNeg).2 8 2 1 := if_pos s82
    generalize f_pre X Y σ = σp at p1 p2 p3 p4 p5 es
    have s80 : σp 8 0 = τ0 5 2 := by rw [p4, e52]
    have s81 : σp 8 1 = τ0 5 3 := by rw [p4, e53]
    have hN2 := most_e (σ := σp) hB (by rw [s80]; exact kb1) (by rw [s81]; exact kb2) (by rw [s80, s81]; exact kb3)
    rw [s80, s81] at hN2
    have p1' := GX_row r0.symm r3.symm p1
    have p2' := CR_row r0.symm r2.symm r3.symm p2
    rw [← e52] at p2'
    obtain ⟨c1, u, c2, c3, c4⟩ := sw_e hB hT0 p1' hL hr p2' _ hN2
    have huu := Lst_one c3 c4 q4 q5
    rw [es]
    generalize (n_sw X Y σp (f_most X Y σp).toNatClampNeg).2 = σn at c1 c2
    have em : f_mset X Y N (τ1, ℓ) = (n_ms X Y (τ0, ℓ) N).2 := by
      have : f_mset X Y N (τ1, ℓ) = (n_ms X Y (f_mst τ1, ℓ) N).2 := if_pos t51
      rw [this, hτ0]
    refine ⟨N, fun _ => ?_, ?_⟩
    · show (n_ms X Y (f_mst τ1, ℓ) N).1 = 0
      rw [hτ0]; exact q1
    rw [em]
    generalize hq : (n_ms X Y (τ0, ℓ) N).2 = q at q2 q3
    obtain ⟨τn, ℓn⟩ := q
    obtain ⟨q2a, q2b⟩ := q2
    dsimp only at q2a q2b q3 ⊢
    have n0 : τn 0 = τ1 0 := (q2a 0 (by decide)).trans r0
    have n2 : τn 2 = τ1 2 := (q2a 2 (by decide)).trans r2
    have n3 : τn 3 = τ1 3 := (q2a 3 (by decide)).trans r3
    have n4 : τn 4 = τ1 4 := (q2a 4 (by decide)).trans r4
    have n5 : τn 5 = τ0 5 := q2a 5 (by decide)
    have g0 : up2 σn 8 2 1 0 = σ 0 := by rw [up_row (by decide), c1.1 0 (by decide) (by decide)]; exact p3 0 (Or.inl rfl)
    have g6 : up2 σn 8 2 1 6 = σ 6 := by rw [up_row (by decide), c1.1 6 (by decide) (by decide)]; exact p3 6 (Or.inr (Or.inl rfl))
    have g7 : up2 σn 8 2 1 7 = σ 7 := by rw [up_row (by decide), c1.1 7 (by decide) (by decide)]; exact p3 7 (Or.inr (Or.inr rfl))
    have g1 : up2 σn 8 2 1 1 = σn 1 := up_row (by decide)
    have g4 : up2 σn 8 2 1 4 = σn 4 := up_row (by decide)
    have g80 : up2 σn 8 2 1 8 0 = τn 5 2 := by rw [up_ne (by decide), c1.1 8 (by decide) (by decide), s80, n5]
    have g81 : up2 σn 8 2 1 8 1 = τn 5 3 := by rw [up_ne (by decide), c1.1 8 (by decide) (by decide), s81, n5]
    have g82 : up2 σn 8 2 1 8 2 = 1 := up_at _ _ _ _
    generalize up2 σn 8 2 1 = σ' at g0 g6 g7 g1 g4 g80 g81 g82
    have hSE : SE X Y σ' τn := by
      refine ⟨g80, g81, by rw [n5]; exact kb1, by rw [n5]; exact kb2, by rw [n5]; exact kb3, fun i j hi hj => ?_⟩
      have a1 := (c2 i j hi hj).1
      have a2 : (τn 1 (10 * j + i)).toInt = u' i j := q3 i j hi hj
      have a3 := huu i j hi hj
      have a4 := Lst_hi hT0 hL q4 i j hi hj
      refine ⟨?_, ?_, ?_⟩
      · rw [g1]; apply Int32.toInt_inj.mp; rw [a1, a2, a3]
      · rw [n5]; unfold rng; rw [a2]; exact a4
      · rw [g4, GG_row (q2a 0 (by decide)) (q2a 3 (by decide)), c1.1 4 (by decide) (by decide)]
        exact (p1' i j hi hj).1
    refine ⟨⟨⟨fun i j hi hj => ?_, fun k hk hn => ?_, fun sd hsd => ?_, fun sd k hsd hk => ?_⟩, Or.inr ⟨g82, by rw [n5, r5]; exact k51, hSE⟩, by rw [q2b]; exact ehh, by rw [n4]; exact ehw, jn, hj, en, by rw [n5, r5, k54]; exact et⟩, hSE, by rw [n5, r5, k50]; exact t50⟩
    · rw [g0, n0]; exact hC.1 i j hi hj
    · rw [n0]; exact hC.2.1 k hk hn
    · rw [g6, g7, n2, n3]; exact hC.2.2.1 sd hsd
    · rw [g0, g1, n2, n3, c1.2 _ (fun a b ha hb => bd_ne hB hsd hk ha hb), p5 _ (fun a b ha hb => bd_ne hB hsd hk ha hb)]
      exact hC.2.2.2 sd k hsd hk
  · -- it is settled
    have es : f_settle X Y σ = σ := if_neg (by rw [s82]; decide)
    have em : f_mset X Y 0 (τ1, ℓ) = (τ1, ℓ) := if_neg (by show ¬ τ1 5 1 = 0; rw [t51]; decide)
    refine ⟨0, fun z => ?_, ?_⟩
    · have z : τ1 5 1 = 0 := z
      rw [t51] at z
      exact absurd z (by decide)
    rw [es, em]
    exact ⟨⟨hC, Or.inr ⟨s82, t51, hE⟩, ehh, ehw, jn, hj, en, et⟩, hE, t50⟩
