/-! the reference's rounds -/
theorem FF_row {X Y : Nat} {τ τ0 : Nat → Nat → Int32} (h0 : τ 0 = τ0 0) (h2 : τ 2 = τ0 2) (h3 : τ 3 = τ0 3) (lw : Int) (u : Nat → Nat → Int) (i j : Nat) : FF X Y τ lw u i j = FF X Y τ0 lw u i j := by
  unfold FF GG PP gD nbC nw; rw [h0, h2, h3]
theorem TB_row {X Y : Nat} {τ τ0 : Nat → Nat → Int32} (h0 : τ 0 = τ0 0) (h2 : τ 2 = τ0 2) (h3 : τ 3 = τ0 3) (h : TB X Y τ0) : TB X Y τ := by
  unfold TB at *; rw [h0, h2, h3]; exact h
def MR (τ0 : Nat → Nat → Int32) (h0 : Nat → Int64) (q : MS) : Prop := (∀ a, ¬ a = 1 → q.1 a = τ0 a) ∧ q.2 0 = h0
theorem up_self (τ : Nat → Nat → Int32) (a k : Nat) : up2 τ a k (τ a k) = τ := by
  funext b j
  by_cases h : b = a ∧ j = k
  · obtain ⟨rfl, rfl⟩ := h; exact up_at _ _ _ _
  · exact up_ne h
theorem uT_W {X Y : Nat} {τ : Nat → Nat → Int32} {lw hg : Int} {u : Nat → Nat → Int} (hr : -10000 ≤ lw ∧ hg ≤ 10000) (hb : ∀ i j, i < X → j < Y → lw ≤ u i j ∧ u i j ≤ hg) (e : AG X Y (uT τ) u) : WBd X Y τ := fun i j hi hj => by
  have h1 : (τ 1 (10 * j + i)).toInt = u i j := e i j hi hj
  have h2 := hb i j hi hj
  unfold rng
  omega
theorem warms_e {X Y : Nat} (hB : 1 ≤ X ∧ X ≤ 10 ∧ 1 ≤ Y ∧ Y ≤ 10) {τ0 : Nat → Nat → Int32} (hT : TB X Y τ0) {hg : Int} (hL : LH τ0 (τ0 5 2).toInt hg) (hr : -10000 ≤ (τ0 5 2).toInt ∧ hg ≤ 10000) {h0 : Nat → Int64} {q : MS} (hM : MR τ0 h0 q) {u0 u : Nat → Nat → Int} (e : AG X Y (uT q.1) u) {fl : Int32} {Dn Dm : Nat → Nat → Prop} (hS : SW X Y τ0 (τ0 5 2).toInt u0 fl u Dn) {k : Nat} (hk : k < X * Y) (hD : ∀ a b, a < X → b < Y → Dm a b → Dn a b ∨ (a = k % X ∧ b = k / X)) :
    MR τ0 h0 (f_go1 X Y k (fl, q)).2 ∧ ∃ u', AG X Y (uT (f_go1 X Y k (fl, q)).2.1) u' ∧ SW X Y τ0 (τ0 5 2).toInt u0 (f_go1 X Y k (fl, q)).1 u' Dm := by
  obtain ⟨ki, kj, -⟩ := km hB hk
  have hfl : (if fl = 0 then (0 : Int32) else 1) = fl := by
    rcases hS.2.1 with z | z <;> rw [z] <;> rfl
  have r0 := hM.1 0 (by decide)
  have r2 := hM.1 2 (by decide)
  have r3 := hM.1 3 (by decide)
  have r5 := hM.1 5 (by decide)
  have hTq : TB X Y q.1 := TB_row r0 r2 r3 hT
  have hbd := Lst_hi hT hL hS.1
  have hWq : WBd X Y q.1 := uT_W hr hbd e
  have hv : (f_warmsV X Y k q).toInt = FF X Y τ0 (τ0 5 2).toInt u (k % X) (k / X) := by
    unfold f_warmsV
    rw [vmade_e hB hTq hWq ki kj, FF_row r0 r2 r3, r5, FF_ag hT e ki kj]
  have hu : (q.1 1 (wIx X k)).toInt = u (k % X) (k / X) := e (k % X) (k / X) ki kj
  by_cases c1 : q.1 0 (wIx X k) = 0
  · have ew : f_warms X Y k q = (0, q) := if_pos c1
    have ef : f_go1 X Y k (fl, q) = (fl, q) := by
      unfold f_go1
      rw [ew]
      show ((if (0 : Int32) = 0 then if fl = 0 then 0 else 1 else 1), q) = (fl, q)
      rw [if_pos rfl, hfl]
    rw [ef]
    refine ⟨hM, u, e, SW_keep hT hS ki kj ?_ hD⟩
    have hg0 : ∀ d, gD X Y τ0 d (k % X) (k / X) = 0 := fun d => by
      unfold gD
      have e0 : τ0 0 (10 * (k / X) + k % X) = 0 := by rw [← r0]; exact c1
      exact (cpl_b (hT.1 _ _ ki kj) (nbC_b hT ki kj d)).2.2.2 (by rw [e0]; decide)
    have hG : GG X Y τ0 (k % X) (k / X) = 0 := by unfold GG; rw [hg0, hg0, hg0, hg0]; rfl
    unfold FF
    rw [if_pos hG]
    exact hS.1.1 _ _ ki kj
  · by_cases c2 : f_warmsV X Y k q ≤ q.1 1 (wIx X k)
    · have ew : f_warms X Y k q = (0, (q.1, f_made X Y q.1 (k % X) (k / X) q.2)) := by
        unfold f_warms; rw [if_neg c1, if_pos c2, up_self]
      have ef : f_go1 X Y k (fl, q) = (fl, (q.1, f_made X Y q.1 (k % X) (k / X) q.2)) := by
        unfold f_go1
        rw [ew]
        show ((if (0 : Int32) = 0 then if fl = 0 then 0 else 1 else 1), (q.1, f_made X Y q.1 (k % X) (k / X) q.2)) = _
        rw [if_pos rfl, hfl]
      rw [ef]
      refine ⟨⟨hM.1, (made_0 X Y q.1 _ _ q.2).trans hM.2⟩, u, e, SW_keep hT hS ki kj ?_ hD⟩
      rw [Int32.le_iff_toInt_le, hv, hu] at c2
      exact c2
    · have ew : f_warms X Y k q = (1, (up2 q.1 1 (wIx X k) (f_warmsV X Y k q), f_made X Y q.1 (k % X) (k / X) q.2)) := by
        unfold f_warms; rw [if_neg c1, if_neg c2]
      have ef : f_go1 X Y k (fl, q) = (1, (up2 q.1 1 (wIx X k) (f_warmsV X Y k q), f_made X Y q.1 (k % X) (k / X) q.2)) := by
        unfold f_go1
        rw [ew]
        show ((if (1 : Int32) = 0 then if fl = 0 then 0 else 1 else 1), (up2 q.1 1 (wIx X k) (f_warmsV X Y k q), f_made X Y q.1 (k % X) (k / X) q.2)) = _
        rw [if_neg (by decide)]
      rw [ef]
      rw [Int32.le_iff_toInt_le, hv, hu] at c2
      refine ⟨⟨fun a ha => ?_, (made_0 X Y q.1 _ _ q.2).trans hM.2⟩, upC u (k % X) (k / X) (FF X Y τ0 (τ0 5 2).toInt u (k % X) (k / X)), fun a b ha hb => ?_, SW_up hT hS ki kj (by omega)⟩
      · show up2 q.1 1 (wIx X k) (f_warmsV X Y k q) a = τ0 a
        rw [up_row ha]; exact hM.1 a ha
      · show (up2 q.1 1 (wIx X k) (f_warmsV X Y k q) 1 (10 * b + a)).toInt = upC u (k % X) (k / X) (FF X Y τ0 (τ0 5 2).toInt u (k % X) (k / X)) a b
        unfold upC
        by_cases hq : a = k % X ∧ b = k / X
        · rw [if_pos hq, hq.1, hq.2]
          have : up2 q.1 1 (wIx X k) (f_warmsV X Y k q) 1 (10 * (k / X) + k % X) = f_warmsV X Y k q := up_at _ _ _ _
          rw [this, hv]
        · rw [if_neg hq, up_ne]
          · exact e a b ha hb
          · intro z
            have z2 : 10 * b + a = 10 * (k / X) + k % X := z.2
            exact hq ⟨by omega, by omega⟩
theorem rnd_e {X Y : Nat} (hB : 1 ≤ X ∧ X ≤ 10 ∧ 1 ≤ Y ∧ Y ≤ 10) {τ0 : Nat → Nat → Int32} (hT : TB X Y τ0) {hg : Int} (hL : LH τ0 (τ0 5 2).toInt hg) (hr : -10000 ≤ (τ0 5 2).toInt ∧ hg ≤ 10000) {h0 : Nat → Int64} {q : MS} (hM : MR τ0 h0 q) {u : Nat → Nat → Int} (e : AG X Y (uT q.1) u) (hS : Lst X Y τ0 (τ0 5 2).toInt u) :
    MR τ0 h0 (f_rnd X Y q).2 ∧ ∃ u', AG X Y (uT (f_rnd X Y q).2.1) u' ∧ SW X Y τ0 (τ0 5 2).toInt u (f_rnd X Y q).1 u' (fun _ _ => True) := by
  have up : MR τ0 h0 (n_up X Y q (X * Y)).2 ∧ ∃ u', AG X Y (uT (n_up X Y q (X * Y)).2.1) u' ∧ SW X Y τ0 (τ0 5 2).toInt u (n_up X Y q (X * Y)).1 u' (fun _ _ => True) := by
    have key := fd_inv (f := fun k p => f_go1 X Y k p) (a := ((0, q) : Int32 × MS)) (fun k p => MR τ0 h0 p.2 ∧ ∃ u', AG X Y (uT p.2.1) u' ∧ SW X Y τ0 (τ0 5 2).toInt u p.1 u' (fun a b => ∃ k', k' < k ∧ a = k' % X ∧ b = k' / X))
      ⟨hM, u, e, by
        have z := SW_0 hS
        exact ⟨z.1, z.2.1, fun w => ⟨(z.2.2.1 w).1, fun a b _ _ hd => by obtain ⟨k', hk', -⟩ := hd; omega⟩, z.2.2.2⟩⟩ (X * Y) (fun k hk p hp => by
        obtain ⟨fl, q'⟩ := p
        obtain ⟨p1, u', p2, p3⟩ := hp
        exact warms_e hB hT hL hr p1 p2 p3 hk (fun a b _ _ hd => by
          obtain ⟨k', hk', z⟩ := hd
          rcases (show k' < k ∨ k' = k by omega) with w | w
          · exact Or.inl ⟨k', w, z⟩
          · rw [w] at z; exact Or.inr z))
    obtain ⟨k1, u', k2, k3⟩ := key
    refine ⟨k1, u', k2, k3.1, k3.2.1, fun z => ⟨(k3.2.2.1 z).1, fun a b ha hb _ => (k3.2.2.1 z).2 a b ha hb ⟨b * X + a, ?_, ?_, ?_⟩⟩, k3.2.2.2⟩
    · have : (b + 1) * X ≤ Y * X := Nat.mul_le_mul_right _ hb
      rw [Nat.succ_mul, Nat.mul_comm Y X] at this
      omega
    · rw [Nat.mul_comm, Nat.mul_add_mod, Nat.mod_eq_of_lt ha]
    · rw [Nat.mul_comm, Nat.mul_add_div (by omega), Nat.div_eq_of_lt ha]; rfl
  unfold f_rnd n_dn
  obtain ⟨w1, w2⟩ := up
  refine fd_inv (f := fun t p => f_go1 X Y (X * Y - t - 1) p) (a := n_up X Y q (X * Y)) (fun _ p => MR τ0 h0 p.2 ∧ ∃ u', AG X Y (uT p.2.1) u' ∧ SW X Y τ0 (τ0 5 2).toInt u p.1 u' (fun _ _ => True)) ⟨w1, w2⟩ (X * Y) (fun t ht p hp => ?_)
  obtain ⟨fl, q'⟩ := p
  obtain ⟨p1, u', p2, p3⟩ := hp
  exact warms_e hB hT hL hr p1 p2 p3 (by omega) (fun a b _ _ _ => Or.inl trivial)
/-- after so many rounds -/
theorem ms_e {X Y : Nat} (hB : 1 ≤ X ∧ X ≤ 10 ∧ 1 ≤ Y ∧ Y ≤ 10) {τ0 : Nat → Nat → Int32} (hT : TB X Y τ0) {hg : Int} (hL : LH τ0 (τ0 5 2).toInt hg) (hr : -10000 ≤ (τ0 5 2).toInt ∧ hg ≤ 10000) {h0 : Nat → Int64} {q : MS} (hM : MR τ0 h0 q) (e : AG X Y (uT q.1) (fun _ _ => (τ0 5 2).toInt)) (N : Nat) (hN : (Y : Int) * (X * hg) < Y * (X * (τ0 5 2).toInt) + N) :
    (n_ms X Y q N).1 = 0 ∧ MR τ0 h0 (n_ms X Y q N).2 ∧ ∃ u, AG X Y (uT (n_ms X Y q N).2.1) u ∧ Lst X Y τ0 (τ0 5 2).toInt u ∧ Pst X Y τ0 (τ0 5 2).toInt u := by
  have key := fd_inv (f := fun _ p => if p.1 = 0 then p else f_rnd X Y p.2) (a := ((1, q) : Int32 × MS)) (fun m p => MR τ0 h0 p.2 ∧ ∃ u, AG X Y (uT p.2.1) u ∧ Lst X Y τ0 (τ0 5 2).toInt u ∧ (p.1 = 0 → Pst X Y τ0 (τ0 5 2).toInt u) ∧ (¬ p.1 = 0 → (Y : Int) * (X * (τ0 5 2).toInt) + (m : Nat) ≤ Sall X u Y))
    ⟨hM, _, e, Lst_0 _ _ _ _, fun z => absurd (show (1 : Int32) = 0 from z) (by decide), fun _ => by rw [Sall_c]; simp⟩ N (fun m _ p hp => by
      obtain ⟨fl, q'⟩ := p
      obtain ⟨p1, u, p2, p3, p4, p5⟩ := hp
      by_cases z : fl = 0
      · have e1 : (if (fl, q').1 = 0 then (fl, q') else f_rnd X Y (fl, q').2) = (fl, q') := if_pos z
        rw [e1]
        exact ⟨p1, u, p2, p3, p4, fun w => absurd z w⟩
      · have e1 : (if (fl, q').1 = 0 then (fl, q') else f_rnd X Y (fl, q').2) = f_rnd X Y q' := if_neg z
        rw [e1]
        obtain ⟨r1, u', r2, r3⟩ := rnd_e hB hT hL hr p1 p2 p3
        refine ⟨r1, u', r2, r3.1, fun w => ?_, fun w => ?_⟩
        · have z2 := r3.2.2.1 w
          exact Pst_ag hT z2.1.symm (fun i j hi hj => z2.2 i j hi hj trivial)
        · have z2 := r3.2.2.2 w
          have z3 := p5 z
          push_cast
          omega)
  have key2 : MR τ0 h0 (n_ms X Y q N).2 ∧ ∃ u, AG X Y (uT (n_ms X Y q N).2.1) u ∧ Lst X Y τ0 (τ0 5 2).toInt u ∧ ((n_ms X Y q N).1 = 0 → Pst X Y τ0 (τ0 5 2).toInt u) ∧ (¬ (n_ms X Y q N).1 = 0 → (Y : Int) * (X * (τ0 5 2).toInt) + (N : Nat) ≤ Sall X u Y) := key
  obtain ⟨k1, u, k2, k3, k4, k5⟩ := key2
  have hz : (n_ms X Y q N).1 = 0 := by
    rcases Decidable.em ((n_ms X Y q N).1 = 0) with z | z
    · exact z
    · have h1 := k5 z
      have h2 := Sall_le (X := X) (u := u) (c := hg) Y (fun i j hi hj => (Lst_hi hT hL k3 i j hi hj).2)
      omega
  exact ⟨hz, k1, u, k2, k3, k4 hz⟩
