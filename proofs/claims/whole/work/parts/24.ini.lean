
/-! MAKING: rows of ints and longs of the one class, the grid's size -/
theorem arr_one {D : va_G} {cl : List vw_C} {cI cJ cA : ClassId} {s : State} (hK : va_K D cl (tY cI cJ ++ [(cA, .int)]) s) : cA = cI := by
  have h1 := (hK.2 0 (cI, .int) rfl).2
  have h2 := (hK.2 2 (cA, .int) rfl).2
  exact Option.some.inj (Eq.trans (Eq.symm h2) h1)
theorem arr_onel {D : va_G} {cl : List vw_C} {cI cJ cA : ClassId} {s : State} (hK : va_K D cl (tY cI cJ ++ [(cA, .long)]) s) : cA = cJ := by
  have h1 := (hK.2 1 (cJ, .long) rfl).2
  have h2 := (hK.2 2 (cA, .long) rfl).2
  exact Option.some.inj (Eq.trans (Eq.symm h2) h1)
theorem cb_int {k : Nat} (hk : k ≤ 1000) : k * componentBytes FieldType.int ≤ 536870912 := Nat.le_trans (Nat.mul_le_mul hk (show componentBytes FieldType.int ≤ 8 by decide)) (by decide)
theorem cb_long {k : Nat} (hk : k ≤ 1000) : k * componentBytes FieldType.long ≤ 536870912 := Nat.le_trans (Nat.mul_le_mul hk (show componentBytes FieldType.long ≤ 8 by decide)) (by decide)
section
variable {p : Program} {l : Launch} {e : Env} {R : Room} {s : State} {m : MethodId} {args : Array Value} {below : List Frame} {meth : Method} {c : Code} {H : Heap} {locs : List Loc} {cells slots : Nat} {Q : State → Prop}
variable {cc : ByteArray} {pc : Nat} {ls : Array Slot} {rest : List Value} {D : va_G} {A : Nat → Prop} {ws : va_W} {H0 : Heap} {cI cJ : ClassId}
theorem a_newi (hx : p.tables.exec = Jvm.exec) (hb : c.code = cc) (harr : (Cond.arrayClass .int).before args s = true) (hK : va_K D vwCl (tY cI cJ) s) (hP : va_P D vwCl ws H) (hD : va_D A ws) (hS : va_S A H0 H locs) (hA : ∀ q, H0.size ≤ q → A q) {n : Int32} (k : Nat) (hn : n = nI k) (hk : k ≤ 1000) (c1 s1 : Nat) (hc : cells + 1 ≤ c1) (hs : slots + k ≤ s1) (hc1 : c1 ≤ R.cells) (hs1 : s1 ≤ R.slots) (hdg : decode cc pc = .ok (.newarray .int, 2))
    (kk : ∀ (q : Nat) (H1 : Heap), va_P D vwCl (ws ++ [(q, .inl (cI, k, .inl (fun _ => 0)))]) H1 → va_D A (ws ++ [(q, .inl (cI, k, .inl (fun _ => 0)))]) → va_S A H0 H1 locs →
      W p l e R s m args below meth c H1 locs c1 s1 Q (F0 m (pc + 2) ls (.ref q :: rest))) : W p l e R s m args below meth c H locs cells slots Q (F0 m pc ls (.int n :: rest)) := by
  subst hn
  refine va_newa hx hb (atype := .int) (ty := .int) harr rfl hK hP hD hS hA (N' := k) (a0 := (k, .inl (fun _ => 0))) (fun _ => rfl) (nI_pos (by omega)) (nI_clamp (by omega)) (cb_int hk) (by omega) (by omega) hdg (fun q cA H1 hK1 hP1 hD1 hS1 => ?_)
  have e1 := arr_one hK1
  subst e1
  exact W.widen (k := c1) (n := s1) hc hs (kk q H1 hP1 hD1 hS1)
theorem a_newl (hx : p.tables.exec = Jvm.exec) (hb : c.code = cc) (harr : (Cond.arrayClass .long).before args s = true) (hK : va_K D vwCl (tY cI cJ) s) (hP : va_P D vwCl ws H) (hD : va_D A ws) (hS : va_S A H0 H locs) (hA : ∀ q, H0.size ≤ q → A q) {n : Int32} (k : Nat) (hn : n = nI k) (hk : k ≤ 1000) (c1 s1 : Nat) (hc : cells + 1 ≤ c1) (hs : slots + k ≤ s1) (hc1 : c1 ≤ R.cells) (hs1 : s1 ≤ R.slots) (hdg : decode cc pc = .ok (.newarray .long, 2))
    (kk : ∀ (q : Nat) (H1 : Heap), va_P D vwCl (ws ++ [(q, .inl (cJ, k, .inr (.inl (fun _ => 0))))]) H1 → va_D A (ws ++ [(q, .inl (cJ, k, .inr (.inl (fun _ => 0))))]) → va_S A H0 H1 locs →
      W p l e R s m args below meth c H1 locs c1 s1 Q (F0 m (pc + 2) ls (.ref q :: rest))) : W p l e R s m args below meth c H locs cells slots Q (F0 m pc ls (.int n :: rest)) := by
  subst hn
  refine va_newa hx hb (atype := .long) (ty := .long) harr rfl hK hP hD hS hA (N' := k) (a0 := (k, .inr (.inl (fun _ => 0)))) (fun _ => rfl) (nI_pos (by omega)) (nI_clamp (by omega)) (cb_long hk) (by omega) (by omega) hdg (fun q cA H1 hK1 hP1 hD1 hS1 => ?_)
  have e1 := arr_onel hK1
  subst e1
  exact W.widen (k := c1) (n := s1) hc hs (kk q H1 hP1 hD1 hS1)
end
/-- a size's number: at least 1, at most 10 -/
def clp (x : Int32) : Nat := if x < 1 then 1 else if 10 < x then 10 else x.toInt.toNat
theorem clp_r (x : Int32) (h1 : ¬ x < 1) (h2 : ¬ 10 < x) : 1 ≤ x.toInt ∧ x.toInt ≤ 10 := by
  rw [Int32.lt_iff_toInt_lt] at h1 h2
  have e1 : (1 : Int32).toInt = 1 := rfl
  have e2 : (10 : Int32).toInt = 10 := rfl
  omega
theorem clp_b (x : Int32) : 1 ≤ clp x ∧ clp x ≤ 10 := by
  unfold clp
  by_cases h1 : x < 1
  · rw [if_pos h1]; omega
  · rw [if_neg h1]
    by_cases h2 : 10 < x
    · rw [if_pos h2]; omega
    · rw [if_neg h2]; have := clp_r x h1 h2; omega
theorem nI_back (x : Int32) (h : 0 ≤ x.toInt) : nI x.toInt.toNat = x := by
  apply Int32.toInt_inj.mp
  have h2 := x.toInt_lt
  rw [nI_toInt (by omega)]
  omega
theorem clp_m (x : Int32) : (if x < 1 then (1 : Int32) else if 10 < x then 10 else x) = nI (clp x) := by
  unfold clp
  by_cases h1 : x < 1
  · rw [if_pos h1, if_pos h1]; rfl
  · rw [if_neg h1, if_neg h1]
    by_cases h2 : 10 < x
    · rw [if_pos h2, if_pos h2]; rfl
    · rw [if_neg h2, if_neg h2]; exact (nI_back x (by have := clp_r x h1 h2; omega)).symm
theorem clp_c (x : Int32) : (if (1 : Int32) < (if x < 10 then x else 10) then (if x < 10 then x else 10) else 1) = nI (clp x) := by
  rw [← clp_m]
  by_cases h1 : x < 1
  · rw [if_pos h1]
    have : x < 10 := by rw [Int32.lt_iff_toInt_lt] at h1 ⊢; have e1 : (1 : Int32).toInt = 1 := rfl; have e2 : (10 : Int32).toInt = 10 := rfl; omega
    rw [if_pos this, if_neg]; rw [Int32.lt_iff_toInt_lt] at h1 ⊢; omega
  · rw [if_neg h1]
    by_cases h3 : x < 10
    · have h2 : ¬ 10 < x := by rw [Int32.lt_iff_toInt_lt] at h3 ⊢; omega
      rw [if_pos h3, if_neg h2]
      by_cases h4 : 1 < x
      · rw [if_pos h4]
      · rw [if_neg h4]
        apply Int32.toInt_inj.mp
        rw [Int32.lt_iff_toInt_lt] at h1 h4
        have e1 : (1 : Int32).toInt = 1 := rfl
        omega
    · rw [if_neg h3, if_pos (by decide)]
      by_cases h2 : 10 < x
      · rw [if_pos h2]
      · rw [if_neg h2]
        apply Int32.toInt_inj.mp
        rw [Int32.lt_iff_toInt_lt] at h2 h3
        have e1 : (10 : Int32).toInt = 10 := rfl
        omega
theorem arr_K {D : va_G} {cl : List vw_C} {args : Array Value} {s : State} (hK : va_K D cl [] s) (h1 : (Cond.arrayClass .int).before args s = true) (h2 : (Cond.arrayClass .long).before args s = true) : ∃ cI cJ, va_K D cl (tY cI cJ) s := by
  obtain ⟨c1, k1, m1, a1, a2, a3⟩ := Cond.arrayClass_spec h1
  obtain ⟨c2, k2, m2, b1, b2, b3⟩ := Cond.arrayClass_spec h2
  refine ⟨c1, c2, hK.1, fun k q hk => ?_⟩
  rcases (show k = 0 ∨ k = 1 ∨ 2 ≤ k by omega) with rfl | rfl | h
  · cases hk
    exact ⟨fun n z => ⟨fun k h => (by cases h), k1, a2, m1, a3⟩, a1⟩
  · cases hk
    exact ⟨fun n z => ⟨fun k h => (by cases h), k2, b2, m2, b3⟩, b1⟩
  · rw [List.getElem?_eq_none (by exact h)] at hk
    cases hk
