theorem div32 {a b : Int32} (h1 : 0 ≤ a.toInt) (h2 : 0 < b.toInt) : (a / b).toInt = a.toInt / b.toInt := by
  rw [Int32.toInt_div, Int.tdiv_eq_ediv_of_nonneg h1]
  have e1 := Int.ediv_le_self b.toInt h1
  have e2 := Int.ediv_nonneg h1 (Int.le_of_lt h2)
  have e3 := a.toInt_lt
  exact Int.bmod_eq_of_le (by omega) (by omega)
/-- a cell that rises -/
theorem raise_e {X Y : Nat} (hB : 1 ≤ X ∧ X ≤ 10 ∧ 1 ≤ Y ∧ Y ≤ 10) {τ0 : Nat → Nat → Int32} (hT : TB X Y τ0) {σ : Nat → Nat → Int32} (hG : GX X Y τ0 σ) {u : Nat → Nat → Int} (hu : ∀ i j, i < X → j < Y → -10000 ≤ u i j ∧ u i j ≤ 10000) (hC : CR X Y τ0 σ u) {i j : Nat} (hi : i < X) (hj : j < Y) {st : Int32} {x : Int} (hx : x = u i j + st.toInt) (hxb : -10000 ≤ x ∧ x ≤ 10000) : CR X Y τ0 (f_raise X σ (pl X i j) st) (upC u i j x) := by
  have hpl := pl_lt (X := X) (Y := Y) hi hj
  have hub := hu i j hi hj
  have hst : -20000 ≤ st.toInt ∧ st.toInt ≤ 20000 := by omega
  obtain ⟨g4, g2, g2', g3, g3'⟩ := hG i j hi hj
  have m : ∀ g : Int, 0 ≤ g ∧ g ≤ 80 → -1600000 ≤ st.toInt * g ∧ st.toInt * g ≤ 1600000 := fun g hg => by
    have := mul_b (a := st.toInt) (b := g) (A := 20000) (B := 80) ⟨by omega, by omega⟩ ⟨by omega, by omega⟩
    omega
  -- what comes to a cell beside it
  have plus : ∀ (a b p : Nat) (w : Int32) (g : Int), a < X → b < Y → p = pl X a b → w.toInt = g → 0 ≤ g ∧ g ≤ 80 → (σ 5 p + st * w).toInt = PP X Y τ0 u a b - GG X Y τ0 a b * u a b + g * (x - u i j) := by
    intro a b p w g ha hb hp hw hg
    have hs := sur_b hT hu ha hb
    have h5 := (hC a b ha hb).2
    have hm := m g hg
    have e1 : (st * w).toInt = st.toInt * g := by rw [t32 (by rw [hw]; omega) (by rw [hw]; omega), hw]
    rw [hp, p32 (by rw [h5, e1]; omega) (by rw [h5, e1]; omega), h5, e1]
    have e2 : x - u i j = st.toInt := by omega
    rw [e2, Int.mul_comm st.toInt g]
  intro a b ha hb
  refine ⟨?_, ?_⟩
  · rw [raise_1]
    unfold upC
    by_cases h : a = i ∧ b = j
    · rw [if_pos ((pl_iff ha hi).mpr h), if_pos h]
      have h1 := (hC i j hi hj).1
      rw [p32 (by rw [h1]; omega) (by rw [h1]; omega), h1, hx]
    · rw [if_neg (fun q => h ((pl_iff ha hi).mp q)), if_neg h]
      exact (hC a b ha hb).1
  · rw [raise_5 hB.1 hpl.2]
    have hgd := fun d => gD_b hT ha hb d
    unfold PP
    rw [nw_up0, nw_up1, nw_up2, nw_up3]
    by_cases h1 : a = i ∧ b = j
    · obtain ⟨rfl, rfl⟩ := h1
      rw [if_pos rfl, if_neg (fun q => by omega), if_neg (fun q => by omega), if_neg (fun q => by omega), if_neg (fun q => by omega)]
      have h5 := (hC a b ha hb).2
      have hs := sur_b hT hu ha hb
      have hGb := GG_b hT ha hb
      have hm := m (GG X Y τ0 a b) hGb
      have e1 : (st * σ 4 (pl X a b)).toInt = st.toInt * GG X Y τ0 a b := by rw [t32 (by rw [g4]; omega) (by rw [g4]; omega), g4]
      have e2 : upC u a b x a b = x := if_pos ⟨rfl, rfl⟩
      rw [m32 (by rw [h5, e1]; omega) (by rw [h5, e1]; omega), h5, e1, e2, hx, Int.mul_add, Int.mul_comm st.toInt]
      unfold PP
      omega
    have eu : upC u i j x a b = u a b := if_neg h1
    rw [eu, if_neg (fun q => h1 ((pl_iff ha hi).mp q))]
    by_cases h2 : a = i + 1 ∧ b = j
    · obtain ⟨rfl, rfl⟩ := h2
      rw [if_pos ((pl_E ha hi).mpr ⟨rfl, rfl⟩), if_neg (fun q => by omega), if_neg (fun q => by omega), if_neg (fun q => by omega), if_pos ⟨by omega, rfl, rfl⟩]
      have e := plus (i + 1) b (pl X (i + 1) b) (σ 2 (pl X i b)) (gD X Y τ0 1 i b) ha hb rfl g2 (by have := gD_b hT hi hj 1; omega)
      rw [e, ← gD_ew hT ha hj]
      have e3 : nw X Y τ0 u 3 (i + 1) b = u i b := by rw [nw_v3 (by omega)]; rfl
      unfold PP
      rw [e3, Int.mul_sub]
      omega
    rw [if_neg (fun q => h2 ((pl_E ha hi).mp q))]
    by_cases h3 : a + 1 = i ∧ b = j
    · obtain ⟨rfl, rfl⟩ := h3
      rw [if_pos ((pl_W ha hi).mpr ⟨rfl, rfl⟩), if_neg (fun q => by omega), if_pos ⟨by omega, rfl, rfl⟩, if_neg (fun q => by omega), if_neg (fun q => by omega)]
      have e := plus a b (pl X a b) (σ 2 (pl X (a + 1) b - 1)) (gD X Y τ0 3 (a + 1) b) ha hb rfl g2' (by have := gD_b hT hi hj 3; omega)
      rw [e, gD_ew hT hi hj]
      have e3 : nw X Y τ0 u 1 a b = u (a + 1) b := nw_v1 (by omega)
      unfold PP
      rw [e3, Int.mul_sub]
      omega
    rw [if_neg (fun q => h3 ((pl_W ha hi).mp q))]
    by_cases h4 : a = i ∧ b = j + 1
    · obtain ⟨rfl, rfl⟩ := h4
      rw [if_pos ((pl_S ha hi).mpr ⟨rfl, rfl⟩), if_pos ⟨by omega, rfl, rfl⟩, if_neg (fun q => by omega), if_neg (fun q => by omega), if_neg (fun q => by omega)]
      have e := plus a (j + 1) (pl X a (j + 1)) (σ 3 (pl X a j)) (gD X Y τ0 2 a j) ha hb rfl g3 (by have := gD_b hT hi hj 2; omega)
      rw [e, ← gD_ns hT ha hb]
      have e3 : nw X Y τ0 u 0 a (j + 1) = u a j := by rw [nw_v0 (by omega)]; rfl
      unfold PP
      rw [e3, Int.mul_sub]
      omega
    rw [if_neg (fun q => h4 ((pl_S ha hi).mp q))]
    by_cases h5 : a = i ∧ b + 1 = j
    · obtain ⟨rfl, rfl⟩ := h5
      rw [if_pos ((pl_N2 ha hi).mpr ⟨rfl, rfl⟩), if_neg (fun q => by omega), if_neg (fun q => by omega), if_pos ⟨by omega, rfl, rfl⟩, if_neg (fun q => by omega)]
      have e := plus a b (pl X a b) (σ 3 (pl X a (b + 1) - (X + 2))) (gD X Y τ0 0 a (b + 1)) ha hb rfl g3' (by have := gD_b hT hi hj 0; omega)
      rw [e, gD_ns hT ha hj]
      have e3 : nw X Y τ0 u 2 a b = u a (b + 1) := nw_v2 (by omega)
      unfold PP
      rw [e3, Int.mul_sub]
      omega
    rw [if_neg (fun q => h5 ((pl_N2 ha hi).mp q)), if_neg (fun q => h4 q.2), if_neg (fun q => h3 q.2), if_neg (fun q => h5 q.2), if_neg (fun q => h2 q.2)]
    exact (hC a b ha hb).2
theorem GX_ks {X Y : Nat} {τ0 σ0 σ : Nat → Nat → Int32} (h : GX X Y τ0 σ0) (hK : KS X Y σ0 σ) : GX X Y τ0 σ := by
  unfold GX
  rw [hK.1 4 (by decide) (by decide), hK.1 2 (by decide) (by decide), hK.1 3 (by decide) (by decide)]
  exact h
theorem KS_raise {X Y : Nat} {σ0 σ : Nat → Nat → Int32} (hK : KS X Y σ0 σ) {i j : Nat} (hi : i < X) (hj : j < Y) (st : Int32) : KS X Y σ0 (f_raise X σ (pl X i j) st) := by
  refine ⟨fun a h1 h5 => ?_, fun p hp => ?_⟩
  · rw [raise_row h1 h5]; exact hK.1 a h1 h5
  · rw [raise_1, if_neg (hp i j hi hj)]; exact hK.2 p hp
/-- one cell of a sweep -/
theorem raS_e {X Y : Nat} (hB : 1 ≤ X ∧ X ≤ 10 ∧ 1 ≤ Y ∧ Y ≤ 10) {τ0 σ0 : Nat → Nat → Int32} (hT : TB X Y τ0) (hG0 : GX X Y τ0 σ0) {lw hg : Int} (hL : LH τ0 lw hg) (hr : -10000 ≤ lw ∧ hg ≤ 10000) {σ : Nat → Nat → Int32} (hK : KS X Y σ0 σ) {u0 u : Nat → Nat → Int} (hC : CR X Y τ0 σ u) {fl : Int32} {Dn Dm : Nat → Nat → Prop} (hS : SW X Y τ0 lw u0 fl u Dn) {i j : Nat} (hi : i < X) (hj : j < Y) (hD : ∀ a b, a < X → b < Y → Dm a b → Dn a b ∨ (a = i ∧ b = j)) :
    KS X Y σ0 (f_raS X j i (fl, σ)).2 ∧ ∃ u', CR X Y τ0 (f_raS X j i (fl, σ)).2 u' ∧ SW X Y τ0 lw u0 (f_raS X j i (fl, σ)).1 u' Dm := by
  have hG := GX_ks hG0 hK
  obtain ⟨g4, -⟩ := hG i j hi hj
  obtain ⟨c1, c5⟩ := hC i j hi hj
  have hGb := GG_b hT hi hj
  have hbd := Lst_hi hT hL hS.1
  have hu : ∀ i j, i < X → j < Y → -10000 ≤ u i j ∧ u i j ≤ 10000 := fun a b ha hb => by have := hbd a b ha hb; omega
  by_cases h1 : σ 4 (pl X i j) ≤ 0
  · have ef : f_raS X j i (fl, σ) = (fl, σ) := if_pos h1
    rw [ef]
    refine ⟨hK, u, hC, SW_keep hT hS hi hj ?_ hD⟩
    rw [le0, g4] at h1
    unfold FF
    rw [if_pos (by omega)]
    exact hS.1.1 i j hi hj
  · have h1' : 0 < GG X Y τ0 i j := by rw [le0, g4] at h1; omega
    have hne : GG X Y τ0 i j ≠ 0 := by omega
    have eF : FF X Y τ0 lw u i j = (PP X Y τ0 u i j - GG X Y τ0 i j * u i j) / GG X Y τ0 i j + u i j := by
      unfold FF
      rw [if_neg hne]
      have e1 : PP X Y τ0 u i j = (PP X Y τ0 u i j - GG X Y τ0 i j * u i j) + GG X Y τ0 i j * u i j := by omega
      have e2 := Int.add_mul_ediv_left (PP X Y τ0 u i j - GG X Y τ0 i j * u i j) (u i j) hne
      rw [← e1] at e2
      exact e2
    by_cases h2 : σ 5 (pl X i j) < σ 4 (pl X i j)
    · have ef : f_raS X j i (fl, σ) = (fl, σ) := by
        unfold f_raS; rw [if_neg h1, if_pos h2]
      rw [ef]
      refine ⟨hK, u, hC, SW_keep hT hS hi hj ?_ hD⟩
      rw [Int32.lt_iff_toInt_lt, c5, g4] at h2
      rw [eF]
      have := Int.ediv_lt_of_lt_mul (a := PP X Y τ0 u i j - GG X Y τ0 i j * u i j) (b := 1) (c := GG X Y τ0 i j) h1' (by omega)
      omega
    · have ef : f_raS X j i (fl, σ) = (1, f_raise X σ (pl X i j) (σ 5 (pl X i j) / σ 4 (pl X i j))) := by
        unfold f_raS; rw [if_neg h1, if_neg h2]
      rw [ef]
      rw [Int32.lt_iff_toInt_lt, c5, g4] at h2
      have hd : (σ 5 (pl X i j) / σ 4 (pl X i j)).toInt = (PP X Y τ0 u i j - GG X Y τ0 i j * u i j) / GG X Y τ0 i j := by
        rw [div32 (by rw [c5]; omega) (by rw [g4]; omega), c5, g4]
      have h3 : 1 ≤ (PP X Y τ0 u i j - GG X Y τ0 i j * u i j) / GG X Y τ0 i j := by
        have := Int.ediv_le_ediv (c := GG X Y τ0 i j) h1' (show GG X Y τ0 i j ≤ PP X Y τ0 u i j - GG X Y τ0 i j * u i j by omega)
        rw [Int.ediv_self hne] at this
        exact this
      have hS' := SW_up (Dm := Dm) hT hS hi hj (by rw [eF]; omega)
      have hxb := Lst_hi hT hL hS'.1 i j hi hj
      have ex : upC u i j (FF X Y τ0 lw u i j) i j = FF X Y τ0 lw u i j := if_pos ⟨rfl, rfl⟩
      rw [ex] at hxb
      exact ⟨KS_raise hK hi hj _, _, raise_e hB hT hG hu hC hi hj (by rw [hd, eF]; omega) (by omega), hS'⟩
/-- a sweep -/
theorem ra_e {X Y : Nat} (hB : 1 ≤ X ∧ X ≤ 10 ∧ 1 ≤ Y ∧ Y ≤ 10) {τ0 σ0 : Nat → Nat → Int32} (hT : TB X Y τ0) (hG0 : GX X Y τ0 σ0) {lw hg : Int} (hL : LH τ0 lw hg) (hr : -10000 ≤ lw ∧ hg ≤ 10000) {σ : Nat → Nat → Int32} (hK : KS X Y σ0 σ) {u : Nat → Nat → Int} (hC : CR X Y τ0 σ u) (hS : Lst X Y τ0 lw u) :
    KS X Y σ0 (n_ra X σ Y).2 ∧ ∃ u', CR X Y τ0 (n_ra X σ Y).2 u' ∧ SW X Y τ0 lw u (n_ra X σ Y).1 u' (fun _ _ => True) := by
  have key := fd_inv (f := fun j p => f_raR X j p X) (a := ((0, σ) : Int32 × (Nat → Nat → Int32))) (fun j p => KS X Y σ0 p.2 ∧ ∃ u', CR X Y τ0 p.2 u' ∧ SW X Y τ0 lw u p.1 u' (fun _ b => b < j))
    ⟨hK, u, hC, by
      have z := SW_0 hS
      exact ⟨z.1, z.2.1, fun w => ⟨(z.2.2.1 w).1, fun a b _ _ hd => by omega⟩, z.2.2.2⟩⟩ Y (fun j hj p hp => by
      have row := fd_inv (f := fun i p => f_raS X j i p) (a := p) (fun i p => KS X Y σ0 p.2 ∧ ∃ u', CR X Y τ0 p.2 u' ∧ SW X Y τ0 lw u p.1 u' (fun a b => b < j ∨ (b = j ∧ a < i)))
        (by
          obtain ⟨p1, u', p2, p3⟩ := hp
          exact ⟨p1, u', p2, p3.1, p3.2.1, fun w => ⟨(p3.2.2.1 w).1, fun a b ha hb hd => (p3.2.2.1 w).2 a b ha hb (by omega)⟩, p3.2.2.2⟩) X (fun i hi p hp => by
          obtain ⟨fl, σ'⟩ := p
          obtain ⟨p1, u', p2, p3⟩ := hp
          exact raS_e hB hT hG0 hL hr p1 p2 p3 hi hj (fun a b _ _ hd => by omega))
      obtain ⟨p1, u', p2, p3⟩ := row
      exact ⟨p1, u', p2, p3.1, p3.2.1, fun w => ⟨(p3.2.2.1 w).1, fun a b ha hb hd => (p3.2.2.1 w).2 a b ha hb (by omega)⟩, p3.2.2.2⟩)
  obtain ⟨p1, u', p2, p3⟩ := key
  exact ⟨p1, u', p2, p3.1, p3.2.1, fun w => ⟨(p3.2.2.1 w).1, fun a b ha hb _ => (p3.2.2.1 w).2 a b ha hb hb⟩, p3.2.2.2⟩
theorem sw_e {X Y : Nat} (hB : 1 ≤ X ∧ X ≤ 10 ∧ 1 ≤ Y ∧ Y ≤ 10) {τ0 σ0 : Nat → Nat → Int32} (hT : TB X Y τ0) (hG0 : GX X Y τ0 σ0) {lw hg : Int} (hL : LH τ0 lw hg) (hr : -10000 ≤ lw ∧ hg ≤ 10000) (hC : CR X Y τ0 σ0 (fun _ _ => lw)) (N : Nat) (hN : (Y : Int) * (X * hg) < Y * (X * lw) + N) :
    KS X Y σ0 (n_sw X Y σ0 N).2 ∧ ∃ u, CR X Y τ0 (n_sw X Y σ0 N).2 u ∧ Lst X Y τ0 lw u ∧ Pst X Y τ0 lw u := by
  have key := fd_inv (f := fun _ p => f_swS X Y p) (a := ((1, σ0) : Int32 × (Nat → Nat → Int32))) (fun m p => KS X Y σ0 p.2 ∧ ∃ u, CR X Y τ0 p.2 u ∧ Lst X Y τ0 lw u ∧ (p.1 = 0 → Pst X Y τ0 lw u) ∧ (¬ p.1 = 0 → (Y : Int) * (X * lw) + (m : Nat) ≤ Sall X u Y))
    ⟨⟨fun _ _ _ => rfl, fun _ _ => rfl⟩, _, hC, Lst_0 _ _ _ _, fun z => absurd (show (1 : Int32) = 0 from z) (by decide), fun _ => by rw [Sall_c]; simp⟩ N (fun m _ p hp => by
      obtain ⟨fl, σ'⟩ := p
      obtain ⟨p1, u, p2, p3, p4, p5⟩ := hp
      by_cases z : fl = 0
      · have e1 : f_swS X Y (fl, σ') = (fl, σ') := if_pos z
        rw [e1]
        exact ⟨p1, u, p2, p3, p4, fun w => absurd z w⟩
      · have e1 : f_swS X Y (fl, σ') = n_ra X σ' Y := if_neg z
        rw [e1]
        obtain ⟨r1, u', r2, r3⟩ := ra_e hB hT hG0 hL hr p1 p2 p3
        refine ⟨r1, u', r2, r3.1, fun w => ?_, fun w => ?_⟩
        · have z2 := r3.2.2.1 w
          exact Pst_ag hT z2.1.symm (fun i j hi hj => z2.2 i j hi hj trivial)
        · have z2 := r3.2.2.2 w
          have z3 := p5 z
          push_cast
          omega)
  have key2 : KS X Y σ0 (n_sw X Y σ0 N).2 ∧ ∃ u, CR X Y τ0 (n_sw X Y σ0 N).2 u ∧ Lst X Y τ0 lw u ∧ ((n_sw X Y σ0 N).1 = 0 → Pst X Y τ0 lw u) ∧ (¬ (n_sw X Y σ0 N).1 = 0 → (Y : Int) * (X * lw) + (N : Nat) ≤ Sall X u Y) := key
  obtain ⟨k1, u, k2, k3, k4, k5⟩ := key2
  refine ⟨k1, u, k2, k3, ?_⟩
  rcases Decidable.em ((n_sw X Y σ0 N).1 = 0) with z | z
  · exact k4 z
  · have h1 := k5 z
    have h2 := Sall_le (X := X) (u := u) (c := hg) Y (fun i j hi hj => (Lst_hi hT hL k3 i j hi hj).2)
    omega
