theorem eq0_32 (x : Int32) : x = 0 ↔ x.toInt = 0 := ⟨fun h => by rw [h]; rfl, fun h => Int32.toInt_inj.mp (by rw [h]; rfl)⟩
theorem eq0_64 (x : Int64) : x = 0 ↔ x.toInt = 0 := ⟨fun h => by rw [h]; rfl, fun h => Int64.toInt_inj.mp (by rw [h]; rfl)⟩
theorem SE_W {X Y : Nat} {σ τ : Nat → Nat → Int32} (hE : SE X Y σ τ) : WBd X Y τ := fun i j hi hj => by
  have h := (hE.2.2.2.2.2 i j hi hj).2.1
  have h1 := hE.2.2.1; have h2 := hE.2.2.2.1
  unfold rng at *
  omega
theorem A_alone {X Y : Nat} (hB : 1 ≤ X ∧ X ≤ 10 ∧ 1 ≤ Y ∧ Y ≤ 10) {σ τ : Nat → Nat → Int32} (hC : RC X Y σ τ) (hE : SE X Y σ τ) (ℓ : Nat → Nat → Int64) : n_countAlone X σ Y = (n_td X Y τ ℓ Y).2.1 := by
  unfold n_countAlone n_td
  refine fd_rel (a := (0 : Int32)) (b := ((0, 0, ℓ) : TS)) (fun _ (x : Int32) (y : TS) => x = y.2.1) rfl Y (fun j hj x y h => ?_)
  unfold n_countAloneR0 f_tdR
  refine fd_rel (fun _ (x : Int32) (y : TS) => x = y.2.1) h X (fun i hi x y h => ?_)
  rw [(hC.1 i j hi hj).1]
  unfold f_tdS
  by_cases h2 : τ 0 (10 * j + i) ≤ 0
  · rw [if_pos h2, if_pos h2, h]; exact Int32.add_zero _
  · rw [if_neg h2, if_neg h2]
    show x + _ = (if lg_cmp (f_made X Y τ i j y.2.2 1 1) 0 = 0 then y.2.1 + 1 else y.2.1)
    have e1 := (hE.2.2.2.2.2 i j hi hj).2.2
    have e2 := (made_e hB (RC_TB hC) (SE_W hE) hi hj y.2.2).2
    have hiff : (σ 4 (pl X i j) = 0) ↔ (lg_cmp (f_made X Y τ i j y.2.2 1 1) 0 = 0) := by
      rw [lg_cmp_eq, eq0_32, eq0_64, e1, e2]
    by_cases h3 : σ 4 (pl X i j) = 0
    · rw [if_pos h3, if_pos (hiff.mp h3), h]
    · rw [if_neg h3, if_neg (fun q => h3 (hiff.mpr q)), h]; exact Int32.add_zero _
/-! states that agree on the cells -/
def AG (X Y : Nat) (u v : Nat → Nat → Int) : Prop := ∀ i j, i < X → j < Y → u i j = v i j
theorem AG.le {X Y : Nat} {u v : Nat → Nat → Int} (h : AG X Y u v) : ∀ i j, i < X → j < Y → u i j ≤ v i j := fun i j hi hj => Int.le_of_eq (h i j hi hj)
theorem AG.symm {X Y : Nat} {u v : Nat → Nat → Int} (h : AG X Y u v) : AG X Y v u := fun i j hi hj => (h i j hi hj).symm
theorem AG.trans {X Y : Nat} {u v w : Nat → Nat → Int} (h : AG X Y u v) (h2 : AG X Y v w) : AG X Y u w := fun i j hi hj => (h i j hi hj).trans (h2 i j hi hj)
theorem FF_ag {X Y : Nat} {τ : Nat → Nat → Int32} (hT : TB X Y τ) {lw : Int} {u v : Nat → Nat → Int} (h : AG X Y u v) {i j : Nat} (hi : i < X) (hj : j < Y) : FF X Y τ lw u i j = FF X Y τ lw v i j :=
  Int.le_antisymm (FF_mono hT h.le hi hj) (FF_mono hT h.symm.le hi hj)
theorem Lst_ag {X Y : Nat} {τ : Nat → Nat → Int32} {lw : Int} {u v : Nat → Nat → Int} (h : AG X Y u v) (hu : Lst X Y τ lw u) : Lst X Y τ lw v :=
  ⟨fun i j hi hj => by rw [← h i j hi hj]; exact hu.1 i j hi hj, fun w h1 h2 i j hi hj => by rw [← h i j hi hj]; exact hu.2 w h1 h2 i j hi hj⟩
theorem Pst_ag {X Y : Nat} {τ : Nat → Nat → Int32} (hT : TB X Y τ) {lw : Int} {u v : Nat → Nat → Int} (h : AG X Y u v) (hu : Pst X Y τ lw u) : Pst X Y τ lw v := fun i j hi hj => by
  rw [← FF_ag hT h hi hj, ← h i j hi hj]; exact hu i j hi hj
theorem Srow_ag {u v : Nat → Nat → Int} {j n : Nat} (h : ∀ i, i < n → u i j = v i j) : Srow u j n = Srow v j n := fd_congr fun i hi a => by rw [h i hi]
theorem Sall_ag {X Y : Nat} {u v : Nat → Nat → Int} (h : AG X Y u v) : Sall X u Y = Sall X v Y := fd_congr fun j hj a => by rw [Srow_ag fun i hi => h i j hi hj]
/-- within a sweep that began at u0: has something risen, and which cells have been looked at -/
def SW (X Y : Nat) (τ : Nat → Nat → Int32) (lw : Int) (u0 : Nat → Nat → Int) (fl : Int32) (u : Nat → Nat → Int) (Dn : Nat → Nat → Prop) : Prop :=
  Lst X Y τ lw u ∧ (fl = 0 ∨ fl = 1) ∧ (fl = 0 → AG X Y u u0 ∧ ∀ i j, i < X → j < Y → Dn i j → FF X Y τ lw u0 i j ≤ u0 i j) ∧ (¬ fl = 0 → Sall X u0 Y + 1 ≤ Sall X u Y)
theorem SW_0 {X Y : Nat} {τ : Nat → Nat → Int32} {lw : Int} {u : Nat → Nat → Int} (h : Lst X Y τ lw u) : SW X Y τ lw u 0 u (fun _ _ => False) :=
  ⟨h, Or.inl rfl, fun _ => ⟨fun _ _ _ _ => rfl, fun _ _ _ _ q => q.elim⟩, fun q => absurd rfl q⟩
theorem SW_ag {X Y : Nat} {τ : Nat → Nat → Int32} {lw : Int} {u0 u v : Nat → Nat → Int} {fl : Int32} {Dn : Nat → Nat → Prop} (h : SW X Y τ lw u0 fl u Dn) (e : AG X Y u v) : SW X Y τ lw u0 fl v Dn :=
  ⟨Lst_ag e h.1, h.2.1, fun q => ⟨e.symm.trans (h.2.2.1 q).1, (h.2.2.1 q).2⟩, fun q => by rw [← Sall_ag e]; exact h.2.2.2 q⟩
theorem SW_keep {X Y : Nat} {τ : Nat → Nat → Int32} (hT : TB X Y τ) {lw : Int} {u0 u : Nat → Nat → Int} {fl : Int32} {Dn Dm : Nat → Nat → Prop} (h : SW X Y τ lw u0 fl u Dn) {i j : Nat} (hi : i < X) (hj : j < Y) (hk : FF X Y τ lw u i j ≤ u i j) (hD : ∀ a b, a < X → b < Y → Dm a b → Dn a b ∨ (a = i ∧ b = j)) : SW X Y τ lw u0 fl u Dm := by
  refine ⟨h.1, h.2.1, fun q => ⟨(h.2.2.1 q).1, fun a b ha hb hd => ?_⟩, h.2.2.2⟩
  rcases hD a b ha hb hd with z | ⟨rfl, rfl⟩
  · exact (h.2.2.1 q).2 a b ha hb z
  · rw [← FF_ag hT (h.2.2.1 q).1 hi hj, ← (h.2.2.1 q).1 a b hi hj]; exact hk
theorem SW_up {X Y : Nat} {τ : Nat → Nat → Int32} (hT : TB X Y τ) {lw : Int} {u0 u : Nat → Nat → Int} {fl : Int32} {Dn Dm : Nat → Nat → Prop} (h : SW X Y τ lw u0 fl u Dn) {i j : Nat} (hi : i < X) (hj : j < Y) (hk : u i j < FF X Y τ lw u i j) : SW X Y τ lw u0 1 (upC u i j (FF X Y τ lw u i j)) Dm := by
  refine ⟨Lst_up hT h.1 hi hj (by omega), Or.inr rfl, fun q => absurd q (by decide), fun _ => ?_⟩
  rw [Sall_up hi, if_pos hj]
  rcases h.2.1 with q | q
  · rw [← Sall_ag (h.2.2.1 q).1]; omega
  · have := h.2.2.2 (by rw [q]; decide)
    omega
/-! the reference: one cell -/
theorem div64 {a b : Int64} (h1 : -1000000000 ≤ a.toInt ∧ a.toInt ≤ 1000000000) (h2 : 0 < b.toInt) : (a / b).toInt = a.toInt.tdiv b.toInt := by
  rw [Int64.toInt_div]
  have hb : -1000000000 ≤ a.toInt.tdiv b.toInt ∧ a.toInt.tdiv b.toInt ≤ 1000000000 := by
    rcases Int.le_total 0 a.toInt with q | q
    · rw [Int.tdiv_eq_ediv_of_nonneg q]
      have := Int.ediv_le_self b.toInt q
      have := Int.ediv_nonneg q (Int.le_of_lt h2)
      omega
    · have e : a.toInt.tdiv b.toInt = -((-a.toInt).tdiv b.toInt) := by rw [Int.neg_tdiv, Int.neg_neg]
      rw [e, Int.tdiv_eq_ediv_of_nonneg (show 0 ≤ -a.toInt by omega)]
      have := Int.ediv_le_self b.toInt (show 0 ≤ -a.toInt by omega)
      have := Int.ediv_nonneg (show 0 ≤ -a.toInt by omega) (Int.le_of_lt h2)
      omega
  exact Int.bmod_eq_of_le (by omega) (by omega)
theorem ediv_of {a b q r : Int} (hb : 0 < b) (h : r + b * q = a) (h0 : 0 ≤ r) (h1 : r < b) : a / b = q := ((Int.ediv_emod_unique hb).mpr ⟨h, h0, h1⟩).1
theorem flo_e {p w : Int64} (h1 : -1000000000 ≤ p.toInt ∧ p.toInt ≤ 1000000000) (h2 : 0 < w.toInt) (h3 : w.toInt ≤ 1000) : (flo p w).toInt = p.toInt / w.toInt := by
  unfold flo
  have hd := div64 h1 h2
  have h0 : (0 : Int64).toInt = 0 := rfl
  by_cases hp : 0 ≤ lg_cmp p 0
  · rw [if_pos hp, hd]
    have : 0 ≤ p.toInt := by
      have := Int64.le_iff_toInt_le.mp ((lg_cmp_ge p 0).mp hp)
      omega
    exact Int.tdiv_eq_ediv_of_nonneg this
  · rw [if_neg hp]
    have hn : p.toInt < 0 := by
      rcases Int.lt_or_le p.toInt 0 with q | q
      · exact q
      · exact absurd ((lg_cmp_ge p 0).mpr (Int64.le_iff_toInt_le.mpr (by omega))) hp
    have hm := Int.mul_tdiv_add_tmod p.toInt w.toInt
    have hr : -w.toInt < p.toInt.tmod w.toInt ∧ p.toInt.tmod w.toInt ≤ 0 := by
      have e : p.toInt.tmod w.toInt = -((-p.toInt).tmod w.toInt) := by rw [Int.neg_tmod, Int.neg_neg]
      rw [e, Int.tmod_eq_emod_of_nonneg (by omega)]
      have := Int.emod_nonneg (-p.toInt) (show w.toInt ≠ 0 by omega)
      have := Int.emod_lt_of_pos (-p.toInt) h2
      omega
    have hbq : -1000000000 ≤ p.toInt.tdiv w.toInt ∧ p.toInt.tdiv w.toInt ≤ 0 := by
      have e : p.toInt.tdiv w.toInt = -((-p.toInt).tdiv w.toInt) := by rw [Int.neg_tdiv, Int.neg_neg]
      rw [e, Int.tdiv_eq_ediv_of_nonneg (show 0 ≤ -p.toInt by omega)]
      have := Int.ediv_le_self w.toInt (show 0 ≤ -p.toInt by omega)
      have := Int.ediv_nonneg (show 0 ≤ -p.toInt by omega) (Int.le_of_lt h2)
      omega
    have hmul : (p / w * w).toInt = p.toInt.tdiv w.toInt * w.toInt := by
      have := mul_b (a := p.toInt.tdiv w.toInt) (b := w.toInt) (A := 1000000000) (B := 1000) ⟨by omega, by omega⟩ ⟨by omega, by omega⟩
      rw [t64 (by rw [hd]; omega) (by rw [hd]; omega), hd]
    have hc : w.toInt * p.toInt.tdiv w.toInt = p.toInt.tdiv w.toInt * w.toInt := Int.mul_comm _ _
    by_cases hz : lg_cmp (p / w * w) p = 0
    · rw [if_pos hz, hd]
      have e := congrArg Int64.toInt ((lg_cmp_eq _ _).mp hz)
      rw [hmul] at e
      exact (ediv_of (r := 0) h2 (by omega) (by omega) h2).symm
    · rw [if_neg hz, m64 (by rw [hd]; have : (1 : Int64).toInt = 1 := rfl; omega) (by rw [hd]; have : (1 : Int64).toInt = 1 := rfl; omega), hd]
      have hne : p.toInt.tdiv w.toInt * w.toInt ≠ p.toInt := fun q => hz ((lg_cmp_eq _ _).mpr (Int64.toInt_inj.mp (by rw [hmul]; exact q)))
      have e1 : (1 : Int64).toInt = 1 := rfl
      rw [e1]
      have e2 : w.toInt * (p.toInt.tdiv w.toInt - 1) = w.toInt * p.toInt.tdiv w.toInt - w.toInt := by rw [Int.mul_sub, Int.mul_one]
      exact (ediv_of (r := w.toInt + p.toInt.tmod w.toInt) h2 (by omega) (by omega) (by omega)).symm
theorem PP_b {X Y : Nat} {τ : Nat → Nat → Int32} (hT : TB X Y τ) {u : Nat → Nat → Int} {i j : Nat} (hi : i < X) (hj : j < Y) (hn : ∀ d, -10000 ≤ nw X Y τ u d i j ∧ nw X Y τ u d i j ≤ 10000) : -(GG X Y τ i j * 10000) ≤ PP X Y τ u i j ∧ PP X Y τ u i j ≤ GG X Y τ i j * 10000 := by
  have k : ∀ d, -(gD X Y τ d i j * 10000) ≤ gD X Y τ d i j * nw X Y τ u d i j ∧ gD X Y τ d i j * nw X Y τ u d i j ≤ gD X Y τ d i j * 10000 := fun d => by
    have h1 := Int.mul_le_mul_of_nonneg_left (hn d).2 (gD_b hT hi hj d).1
    have h2 := Int.mul_le_mul_of_nonneg_left (hn d).1 (gD_b hT hi hj d).1
    have e : gD X Y τ d i j * -10000 = -(gD X Y τ d i j * 10000) := by rw [Int.mul_neg]
    omega
  have k0 := k 0; have k1 := k 1; have k2 := k 2; have k3 := k 3
  unfold PP GG
  rw [Int.add_mul, Int.add_mul, Int.add_mul]
  omega
theorem vmade_e {X Y : Nat} (hB : 1 ≤ X ∧ X ≤ 10 ∧ 1 ≤ Y ∧ Y ≤ 10) {τ : Nat → Nat → Int32} (hT : TB X Y τ) (hW : WBd X Y τ) {i j : Nat} (hi : i < X) (hj : j < Y) (ℓ : Nat → Nat → Int64) : (v_made τ (f_made X Y τ i j ℓ)).toInt = FF X Y τ (τ 5 2).toInt (uT τ) i j := by
  obtain ⟨e1, e2⟩ := made_e hB hT hW hi hj ℓ
  have hG := GG_b hT hi hj
  have hp := PP_b hT hi hj (nw_b hT hW hi hj)
  unfold v_made FF
  by_cases h : GG X Y τ i j = 0
  · rw [if_pos h, if_pos ((lg_cmp_eq _ _).mpr ((eq0_64 _).mpr (by rw [e2]; exact h)))]
  · rw [if_neg h, if_neg (fun q => h (by rw [← e2]; exact (eq0_64 _).mp ((lg_cmp_eq _ _).mp q)))]
    have hf := flo_e (p := f_made X Y τ i j ℓ 1 0) (w := f_made X Y τ i j ℓ 1 1) (by rw [e1]; omega) (by rw [e2]; omega) (by rw [e2]; omega)
    rw [e1, e2] at hf
    have hq : -10000 ≤ PP X Y τ (uT τ) i j / GG X Y τ i j ∧ PP X Y τ (uT τ) i j / GG X Y τ i j ≤ 10000 := by
      have a1 := Int.ediv_le_ediv (c := GG X Y τ i j) (by omega) hp.2
      have a2 := Int.ediv_le_ediv (c := GG X Y τ i j) (by omega) hp.1
      rw [Int.mul_ediv_cancel_left _ h] at a1
      rw [← Int.mul_neg, Int.mul_ediv_cancel_left _ h] at a2
      exact ⟨a2, a1⟩
    rw [Int64.toInt_toInt32, hf, Int.bmod_eq_of_le (by omega) (by omega)]
