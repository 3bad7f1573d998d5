/-! rows that are filled -/
theorem fd1 (r : Nat) (pos : Nat → Nat) (v : Nat → (Nat → Nat → Int32) → Int32) (hv : ∀ t σ σ', (∀ a, ¬ a = r → σ a = σ' a) → v t σ = v t σ') (σ : Nat → Nat → Int32) : ∀ n, (∀ t t', t < n → t' < n → pos t = pos t' → t = t') →
    (∀ a, ¬ a = r → fd (fun t σ => up2 σ r (pos t) (v t σ)) σ n a = σ a) ∧ (∀ t, t < n → fd (fun t σ => up2 σ r (pos t) (v t σ)) σ n r (pos t) = v t σ) ∧ (∀ p, (∀ t, t < n → ¬ p = pos t) → fd (fun t σ => up2 σ r (pos t) (v t σ)) σ n r p = σ r p) := by
  intro n
  induction n with
  | zero => intro _; exact ⟨fun _ _ => rfl, fun t h => by omega, fun _ _ => rfl⟩
  | succ n ih =>
    intro hinj
    obtain ⟨i1, i2, i3⟩ := ih fun t t' h h' => hinj t t' (by omega) (by omega)
    rw [fd_s]
    generalize fd (fun t σ => up2 σ r (pos t) (v t σ)) σ n = ρ at i1 i2 i3
    refine ⟨fun a ha => by rw [up_row ha]; exact i1 a ha, fun t ht => ?_, fun p hp => ?_⟩
    · rcases (show t < n ∨ t = n by omega) with q | q
      · rw [up_ne (fun z => by have := hinj t n ht (by omega) z.2; omega)]; exact i2 t q
      · rw [q, up_at]; exact hv n ρ σ i1
    · rw [up_ne (fun z => hp n (by omega) z.2)]; exact i3 p fun t ht => hp t (by omega)
theorem fd2 (r w : Nat) (pos : Nat → Nat → Nat) (v : Nat → Nat → (Nat → Nat → Int32) → Int32) (hv : ∀ t j σ σ', (∀ a, ¬ a = r → σ a = σ' a) → v t j σ = v t j σ') (σ : Nat → Nat → Int32) : ∀ n, (∀ t j t' j', t < w → j < n → t' < w → j' < n → pos t j = pos t' j' → t = t' ∧ j = j') →
    (∀ a, ¬ a = r → fd (fun j σ => fd (fun t σ => up2 σ r (pos t j) (v t j σ)) σ w) σ n a = σ a) ∧ (∀ t j, t < w → j < n → fd (fun j σ => fd (fun t σ => up2 σ r (pos t j) (v t j σ)) σ w) σ n r (pos t j) = v t j σ) ∧ (∀ p, (∀ t j, t < w → j < n → ¬ p = pos t j) → fd (fun j σ => fd (fun t σ => up2 σ r (pos t j) (v t j σ)) σ w) σ n r p = σ r p) := by
  intro n
  induction n with
  | zero => intro _; exact ⟨fun _ _ => rfl, fun t j _ h => by omega, fun _ _ => rfl⟩
  | succ n ih =>
    intro hinj
    obtain ⟨i1, i2, i3⟩ := ih fun t j t' j' a b c d => hinj t j t' j' a (by omega) c (by omega)
    rw [fd_s]
    generalize fd (fun j σ => fd (fun t σ => up2 σ r (pos t j) (v t j σ)) σ w) σ n = ρ at i1 i2 i3
    obtain ⟨k1, k2, k3⟩ := fd1 r (fun t => pos t n) (fun t σ => v t n σ) (fun t σ σ' h => hv t n σ σ' h) ρ w (fun t t' h h' e => (hinj t n t' n h (by omega) h' (by omega) e).1)
    refine ⟨fun a ha => (k1 a ha).trans (i1 a ha), fun t j ht hj => ?_, fun p hp => ?_⟩
    · rcases (show j < n ∨ j = n by omega) with q | q
      · rw [k3 _ (fun t' ht' z => by have := (hinj t j t' n ht hj ht' (by omega) z).2; omega)]; exact i2 t j ht q
      · rw [q]; exact (k2 t ht).trans (hv t n ρ σ i1)
    · rw [k3 p fun t ht => hp t n ht (by omega)]; exact i3 p fun t j ht hj => hp t j ht (by omega)
/-! LOW and HIGH on both sides -/
def LHs (σ τ : Nat → Nat → Int32) (sd : Nat) (p q : Int32 × (Nat → Nat → Int32)) : Prop :=
  p.1 = q.1 ∧ (p.1 = 0 ∨ p.1 = 1) ∧ p.2 8 0 = q.2 5 2 ∧ p.2 8 1 = q.2 5 3 ∧ (∀ a, ¬ a = 8 → p.2 a = σ a) ∧ p.2 8 2 = σ 8 2 ∧ (∀ a, ¬ a = 5 → q.2 a = τ a) ∧ q.2 5 0 = τ 5 0 ∧ q.2 5 1 = 1 ∧ q.2 5 4 = τ 5 4 ∧
  rng (q.2 5 2) (-10000) 10000 ∧ rng (q.2 5 3) (-10000) 10000 ∧ (q.2 5 2).toInt ≤ (q.2 5 3).toInt ∧ (p.1 = 0 → ∀ s, s < sd → (τ 3 s).toInt ≤ 0) ∧ (¬ p.1 = 0 → ∀ s, s < sd → 0 < (τ 3 s).toInt → (q.2 5 2).toInt ≤ (τ 2 s).toInt ∧ (τ 2 s).toInt ≤ (q.2 5 3).toInt)
theorem LHs_s {σ τ : Nat → Nat → Int32} (h6 : ∀ sd, sd < 4 → σ 6 sd = τ 2 sd ∧ σ 7 sd = τ 3 sd ∧ rng (τ 2 sd) (-10000) 10000) {sd : Nat} (hsd : sd < 4) {p q : Int32 × (Nat → Nat → Int32)} (h : LHs σ τ sd p q) : LHs σ τ (sd + 1) (f_lhS sd p) (f_mlS sd q) := by
  obtain ⟨fl, ρ⟩ := p
  obtain ⟨fq, κ⟩ := q
  obtain ⟨e1, h01, e2, e3, r1, r2, r3, r4, r5, r6, b1, b2, b3, c1, c2⟩ := h
  dsimp only at e1 h01 e2 e3 r1 r2 r3 r4 r5 r6 b1 b2 b3 c1 c2
  obtain ⟨s6, s7, sb⟩ := h6 sd hsd
  have ρ6 : ρ 6 sd = τ 2 sd := by rw [r1 6 (by decide)]; exact s6
  have ρ7 : ρ 7 sd = τ 3 sd := by rw [r1 7 (by decide)]; exact s7
  have κ2 : κ 2 sd = τ 2 sd := by rw [r3 2 (by decide)]
  have κ3 : κ 3 sd = τ 3 sd := by rw [r3 3 (by decide)]
  subst e1
  by_cases hc : τ 3 sd ≤ 0
  · have ep : f_lhS sd (fl, ρ) = (fl, ρ) := if_pos (by show ρ 7 sd ≤ 0; rw [ρ7]; exact hc)
    have eq : f_mlS sd (fl, κ) = (fl, κ) := if_pos (by show κ 3 sd ≤ 0; rw [κ3]; exact hc)
    rw [ep, eq]
    have hc' := (le0 _).mp hc
    refine ⟨rfl, h01, e2, e3, r1, r2, r3, r4, r5, r6, b1, b2, b3, fun z s hs => ?_, fun z s hs hp => ?_⟩
    · rcases (show s < sd ∨ s = sd by omega) with w | w
      · exact c1 z s w
      · rw [w]; exact hc'
    · rcases (show s < sd ∨ s = sd by omega) with w | w
      · exact c2 z s w hp
      · rw [w] at hp; omega
  · -- the side counts
    have lowE : (if fl = 0 then ρ 6 sd else if ρ 6 sd < ρ 8 0 then ρ 6 sd else ρ 8 0) = (if fl = 0 then κ 2 sd else if κ 2 sd ≤ κ 5 2 then κ 2 sd else κ 5 2) := by
      rw [ρ6, κ2, e2]
      by_cases z : fl = 0
      · rw [if_pos z, if_pos z]
      · rw [if_neg z, if_neg z]
        by_cases w : τ 2 sd < κ 5 2
        · rw [if_pos w, if_pos (Int32.le_iff_toInt_le.mpr (by have := Int32.lt_iff_toInt_lt.mp w; omega))]
        · rw [if_neg w]
          by_cases w2 : τ 2 sd ≤ κ 5 2
          · rw [if_pos w2]
            apply Int32.toInt_inj.mp
            have := Int32.le_iff_toInt_le.mp w2
            rw [Int32.lt_iff_toInt_lt] at w
            omega
          · rw [if_neg w2]
    have highE : (if fl = 0 then ρ 6 sd else if ρ 8 1 < ρ 6 sd then ρ 6 sd else ρ 8 1) = (if fl = 0 then κ 2 sd else if κ 5 3 ≤ κ 2 sd then κ 2 sd else κ 5 3) := by
      rw [ρ6, κ2, e3]
      by_cases z : fl = 0
      · rw [if_pos z, if_pos z]
      · rw [if_neg z, if_neg z]
        by_cases w : κ 5 3 < τ 2 sd
        · rw [if_pos w, if_pos (Int32.le_iff_toInt_le.mpr (by have := Int32.lt_iff_toInt_lt.mp w; omega))]
        · rw [if_neg w]
          by_cases w2 : κ 5 3 ≤ τ 2 sd
          · rw [if_pos w2]
            apply Int32.toInt_inj.mp
            have := Int32.le_iff_toInt_le.mp w2
            rw [Int32.lt_iff_toInt_lt] at w
            omega
          · rw [if_neg w2]
    have ep : f_lhS sd (fl, ρ) = (1, up2 (up2 ρ 8 0 (if fl = 0 then ρ 6 sd else if ρ 6 sd < ρ 8 0 then ρ 6 sd else ρ 8 0)) 8 1 (if fl = 0 then ρ 6 sd else if ρ 8 1 < ρ 6 sd then ρ 6 sd else ρ 8 1)) := by
      unfold f_lhS
      rw [if_neg (by show ¬ ρ 7 sd ≤ 0; rw [ρ7]; exact hc)]
      have q1 : ∀ v, up2 ρ 8 0 v 6 = ρ 6 := fun v => up_row (by decide)
      have q2 : ∀ v, up2 ρ 8 0 v 8 1 = ρ 8 1 := fun v => up_ne (by decide)
      dsimp only
      rw [q1, q2]
    have eq : f_mlS sd (fl, κ) = (1, up2 (up2 κ 5 2 (if fl = 0 then κ 2 sd else if κ 2 sd ≤ κ 5 2 then κ 2 sd else κ 5 2)) 5 3 (if fl = 0 then κ 2 sd else if κ 5 3 ≤ κ 2 sd then κ 2 sd else κ 5 3)) := by
      unfold f_mlS
      rw [if_neg (by show ¬ κ 3 sd ≤ 0; rw [κ3]; exact hc)]
      have q1 : ∀ v, up2 κ 5 2 v 2 = κ 2 := fun v => up_row (by decide)
      have q2 : ∀ v, up2 κ 5 2 v 5 3 = κ 5 3 := fun v => up_ne (by decide)
      dsimp only
      rw [q1, q2]
    rw [ep, eq, lowE, highE]
    rw [κ2]
    generalize hlo : (if fl = 0 then τ 2 sd else if τ 2 sd ≤ κ 5 2 then τ 2 sd else κ 5 2) = lo
    generalize hhi : (if fl = 0 then τ 2 sd else if κ 5 3 ≤ τ 2 sd then τ 2 sd else κ 5 3) = hi
    have f1 : lo.toInt ≤ (τ 2 sd).toInt ∧ (τ 2 sd).toInt ≤ hi.toInt ∧ (¬ fl = 0 → lo.toInt ≤ (κ 5 2).toInt ∧ (κ 5 3).toInt ≤ hi.toInt) ∧ (lo = τ 2 sd ∨ lo = κ 5 2) ∧ (hi = τ 2 sd ∨ hi = κ 5 3) := by
      by_cases z : fl = 0
      · rw [if_pos z] at hlo hhi
        rw [← hlo, ← hhi]
        exact ⟨Int.le_refl _, Int.le_refl _, fun w => absurd z w, Or.inl rfl, Or.inl rfl⟩
      · rw [if_neg z] at hlo hhi
        have a1 : lo.toInt ≤ (τ 2 sd).toInt ∧ lo.toInt ≤ (κ 5 2).toInt ∧ (lo = τ 2 sd ∨ lo = κ 5 2) := by
          by_cases w : τ 2 sd ≤ κ 5 2
          · rw [if_pos w] at hlo; rw [← hlo]; exact ⟨Int.le_refl _, Int32.le_iff_toInt_le.mp w, Or.inl rfl⟩
          · rw [if_neg w] at hlo; rw [← hlo]
            rw [Int32.le_iff_toInt_le] at w
            exact ⟨by omega, Int.le_refl _, Or.inr rfl⟩
        have a2 : (τ 2 sd).toInt ≤ hi.toInt ∧ (κ 5 3).toInt ≤ hi.toInt ∧ (hi = τ 2 sd ∨ hi = κ 5 3) := by
          by_cases w : κ 5 3 ≤ τ 2 sd
          · rw [if_pos w] at hhi; rw [← hhi]; exact ⟨Int.le_refl _, Int32.le_iff_toInt_le.mp w, Or.inl rfl⟩
          · rw [if_neg w] at hhi; rw [← hhi]
            rw [Int32.le_iff_toInt_le] at w
            exact ⟨by omega, Int.le_refl _, Or.inr rfl⟩
        exact ⟨a1.1, a2.1, fun _ => ⟨a1.2.1, a2.2.1⟩, a1.2.2, a2.2.2⟩
    have p80 : up2 (up2 ρ 8 0 lo) 8 1 hi 8 0 = lo := by rw [up_ne (by decide), up_at]
    have p81 : up2 (up2 ρ 8 0 lo) 8 1 hi 8 1 = hi := up_at _ _ _ _
    have k52 : up2 (up2 κ 5 2 lo) 5 3 hi 5 2 = lo := by rw [up_ne (by decide), up_at]
    have k53 : up2 (up2 κ 5 2 lo) 5 3 hi 5 3 = hi := up_at _ _ _ _
    refine ⟨rfl, Or.inr rfl, by dsimp only; rw [p80, k52], by dsimp only; rw [p81, k53], fun a ha => ?_, ?_, fun a ha => ?_, ?_, ?_, ?_, ?_, ?_, ?_, fun z => absurd (show (1 : Int32) = 0 from z) (by decide), fun _ s hs hp => ?_⟩
    · show up2 (up2 ρ 8 0 lo) 8 1 hi a = σ a
      rw [up_row ha, up_row ha]; exact r1 a ha
    · show up2 (up2 ρ 8 0 lo) 8 1 hi 8 2 = σ 8 2
      rw [up_ne (by decide), up_ne (by decide)]; exact r2
    · show up2 (up2 κ 5 2 lo) 5 3 hi a = τ a
      rw [up_row ha, up_row ha]; exact r3 a ha
    · show up2 (up2 κ 5 2 lo) 5 3 hi 5 0 = τ 5 0
      rw [up_ne (by decide), up_ne (by decide)]; exact r4
    · show up2 (up2 κ 5 2 lo) 5 3 hi 5 1 = 1
      rw [up_ne (by decide), up_ne (by decide)]; exact r5
    · show up2 (up2 κ 5 2 lo) 5 3 hi 5 4 = τ 5 4
      rw [up_ne (by decide), up_ne (by decide)]; exact r6
    · show rng (up2 (up2 κ 5 2 lo) 5 3 hi 5 2) (-10000) 10000
      rw [k52]; rcases f1.2.2.2.1 with w | w <;> rw [w]
      · exact sb
      · exact b1
    · show rng (up2 (up2 κ 5 2 lo) 5 3 hi 5 3) (-10000) 10000
      rw [k53]; rcases f1.2.2.2.2 with w | w <;> rw [w]
      · exact sb
      · exact b2
    · show (up2 (up2 κ 5 2 lo) 5 3 hi 5 2).toInt ≤ (up2 (up2 κ 5 2 lo) 5 3 hi 5 3).toInt
      rw [k52, k53]; have := f1.1; have := f1.2.1; omega
    · show (up2 (up2 κ 5 2 lo) 5 3 hi 5 2).toInt ≤ (τ 2 s).toInt ∧ (τ 2 s).toInt ≤ (up2 (up2 κ 5 2 lo) 5 3 hi 5 3).toInt
      rw [k52, k53]
      rcases (show s < sd ∨ s = sd by omega) with w | w
      · by_cases z : fl = 0
        · have := c1 z s w; omega
        · have h1 := c2 z s w hp
          have h2 := f1.2.2.1 z
          omega
      · rw [w]; exact ⟨f1.1, f1.2.1⟩
theorem LHs_4 {σ τ : Nat → Nat → Int32} (h6 : ∀ sd, sd < 4 → σ 6 sd = τ 2 sd ∧ σ 7 sd = τ 3 sd ∧ rng (τ 2 sd) (-10000) 10000) : LHs σ τ 4 (n_lh σ 4) (n_ml τ 4) := by
  refine fd_rel (f := f_lhS) (g := f_mlS) (a := ((0, up2 (up2 σ 8 0 0) 8 1 0) : Int32 × (Nat → Nat → Int32))) (b := ((0, up2 (up2 (up2 τ 5 1 1) 5 2 0) 5 3 0) : Int32 × (Nat → Nat → Int32))) (fun sd p q => LHs σ τ sd p q) ?_ 4 (fun sd hsd p q h => LHs_s h6 hsd h)
  have k52 : up2 (up2 (up2 τ 5 1 1) 5 2 0) 5 3 0 5 2 = 0 := by rw [up_ne (by decide), up_at]
  have k53 : up2 (up2 (up2 τ 5 1 1) 5 2 0) 5 3 0 5 3 = 0 := up_at _ _ _ _
  have r0 : rng (0 : Int32) (-10000) 10000 := by unfold rng; decide
  refine ⟨rfl, Or.inl rfl, ?_, ?_, fun a ha => ?_, ?_, fun a ha => ?_, ?_, ?_, ?_, ?_, ?_, ?_, fun _ s hs => by omega, fun z => absurd rfl z⟩
  · show up2 (up2 σ 8 0 0) 8 1 0 8 0 = up2 (up2 (up2 τ 5 1 1) 5 2 0) 5 3 0 5 2
    rw [k52, up_ne (by decide), up_at]
  · show up2 (up2 σ 8 0 0) 8 1 0 8 1 = up2 (up2 (up2 τ 5 1 1) 5 2 0) 5 3 0 5 3
    rw [k53, up_at]
  · show up2 (up2 σ 8 0 0) 8 1 0 a = σ a
    rw [up_row ha, up_row ha]
  · show up2 (up2 σ 8 0 0) 8 1 0 8 2 = σ 8 2
    rw [up_ne (by decide), up_ne (by decide)]
  · show up2 (up2 (up2 τ 5 1 1) 5 2 0) 5 3 0 a = τ a
    rw [up_row ha, up_row ha, up_row ha]
  · show up2 (up2 (up2 τ 5 1 1) 5 2 0) 5 3 0 5 0 = τ 5 0
    rw [up_ne (by decide), up_ne (by decide), up_ne (by decide)]
  · show up2 (up2 (up2 τ 5 1 1) 5 2 0) 5 3 0 5 1 = 1
    rw [up_ne (by decide), up_ne (by decide), up_at]
  · show up2 (up2 (up2 τ 5 1 1) 5 2 0) 5 3 0 5 4 = τ 5 4
    rw [up_ne (by decide), up_ne (by decide), up_ne (by decide)]
  · show rng (up2 (up2 (up2 τ 5 1 1) 5 2 0) 5 3 0 5 2) _ _
    rw [k52]; exact r0
  · show rng (up2 (up2 (up2 τ 5 1 1) 5 2 0) 5 3 0 5 3) _ _
    rw [k53]; exact r0
  · show (up2 (up2 (up2 τ 5 1 1) 5 2 0) 5 3 0 5 2).toInt ≤ (up2 (up2 (up2 τ 5 1 1) 5 2 0) 5 3 0 5 3).toInt
    rw [k52, k53]; exact Int.le_refl _
