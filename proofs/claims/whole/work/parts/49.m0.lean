/-! FOLDS AND NUMBERS -/
theorem fd_inv {α : Type} {f : Nat → α → α} {a : α} (P : Nat → α → Prop) (h0 : P 0 a) : ∀ n, (∀ i, i < n → ∀ a, P i a → P (i + 1) (f i a)) → P n (fd f a n) := by
  intro n
  induction n with
  | zero => intro _; exact h0
  | succ n ih => intro hs; exact hs n (by omega) _ (ih fun i hi => hs i (by omega))
theorem fd_rel {α β : Type} {f : Nat → α → α} {g : Nat → β → β} {a : α} {b : β} (P : Nat → α → β → Prop) (h0 : P 0 a b) : ∀ n, (∀ i, i < n → ∀ a b, P i a b → P (i + 1) (f i a) (g i b)) → P n (fd f a n) (fd g b n) := by
  intro n
  induction n with
  | zero => intro _; exact h0
  | succ n ih => intro hs; exact hs n (by omega) _ _ (ih fun i hi => hs i (by omega))
theorem fd_congr {α : Type} {f g : Nat → α → α} {a : α} {n : Nat} (h : ∀ i, i < n → ∀ a, f i a = g i a) : fd f a n = fd g a n :=
  fd_rel (fun _ x y => x = y) rfl n (fun i hi x y e => by rw [e]; exact h i hi y)
theorem fd_id {α : Type} {f : Nat → α → α} {a : α} {n : Nat} (h : ∀ i, i < n → ∀ a, f i a = a) : fd f a n = a :=
  fd_inv (fun _ x => x = a) rfl n (fun i hi x e => by rw [h i hi]; exact e)
/-- one place alone adds -/
theorem fd_one {t : Nat → Int64} {c : Nat → Prop} [DecidablePred c] {a : Int64} {n k0 : Nat} (hk : k0 < n) (h1 : ∀ i, i < n → (c i ↔ i = k0)) : fd (fun i a => if c i then a + t i else a) a n = a + t k0 := by
  have key := fd_inv (f := fun i a => if c i then a + t i else a) (a := a) (fun i x => x = if k0 < i then a + t k0 else a) (by rw [if_neg (by omega)]) n (fun i hi x e => by
    show (if c i then x + t i else x) = _
    by_cases hc : c i
    · have e1 := (h1 i hi).mp hc
      subst e1
      rw [if_pos hc, e, if_neg (by omega), if_pos (by omega)]
    · have e1 : i ≠ k0 := fun q => hc ((h1 i hi).mpr q)
      rw [if_neg hc, e]
      by_cases h2 : k0 < i
      · rw [if_pos h2, if_pos (by omega)]
      · rw [if_neg h2, if_neg (by omega)])
  rw [key, if_pos hk]
theorem i0 : (0 : Int32).toInt = 0 := rfl
theorem le0 (x : Int32) : x ≤ 0 ↔ x.toInt ≤ 0 := by rw [Int32.le_iff_toInt_le, i0]
theorem t32 {a b : Int32} (h : -2147483648 ≤ a.toInt * b.toInt) (h2 : a.toInt * b.toInt < 2147483648) : (a * b).toInt = a.toInt * b.toInt := by
  rw [Int32.toInt_mul, Int.bmod_eq_of_le (by omega) (by omega)]
theorem p32 {a b : Int32} (h : -2147483648 ≤ a.toInt + b.toInt) (h2 : a.toInt + b.toInt < 2147483648) : (a + b).toInt = a.toInt + b.toInt := by
  rw [Int32.toInt_add, Int.bmod_eq_of_le (by omega) (by omega)]
theorem m32 {a b : Int32} (h : -2147483648 ≤ a.toInt - b.toInt) (h2 : a.toInt - b.toInt < 2147483648) : (a - b).toInt = a.toInt - b.toInt := by
  rw [Int32.toInt_sub, Int.bmod_eq_of_le (by omega) (by omega)]
theorem t64 {a b : Int64} (h : -9000000000000000000 ≤ a.toInt * b.toInt) (h2 : a.toInt * b.toInt < 9000000000000000000) : (a * b).toInt = a.toInt * b.toInt := by
  rw [Int64.toInt_mul, Int.bmod_eq_of_le (by omega) (by omega)]
theorem p64 {a b : Int64} (h : -9000000000000000000 ≤ a.toInt + b.toInt) (h2 : a.toInt + b.toInt < 9000000000000000000) : (a + b).toInt = a.toInt + b.toInt := by
  rw [Int64.toInt_add, Int.bmod_eq_of_le (by omega) (by omega)]
theorem m64 {a b : Int64} (h : -9000000000000000000 ≤ a.toInt - b.toInt) (h2 : a.toInt - b.toInt < 9000000000000000000) : (a - b).toInt = a.toInt - b.toInt := by
  rw [Int64.toInt_sub, Int.bmod_eq_of_le (by omega) (by omega)]
theorem w64 (a : Int32) : a.toInt64.toInt = a.toInt := Int32.toInt_toInt64 a
/-- a product of numbers between bounds -/
theorem mul_b {a b A B : Int} (ha : -A ≤ a ∧ a ≤ A) (hb : -B ≤ b ∧ b ≤ B) : -(A * B) ≤ a * b ∧ a * b ≤ A * B := by
  have hA : 0 ≤ A := by omega
  have h1 : (a.natAbs : Int) ≤ A := by omega
  have h2 : (b.natAbs : Int) ≤ B := by omega
  have h3 : ((a * b).natAbs : Int) = (a.natAbs : Int) * (b.natAbs : Int) := by rw [Int.natAbs_mul]; push_cast; rfl
  have h4 : (a.natAbs : Int) * (b.natAbs : Int) ≤ A * B := Int.mul_le_mul h1 h2 (by omega) hA
  omega
/-- G of two numbers of leads -/
theorem cpl_b {a b : Int32} (ha : rng a 0 20) (hb : rng b 0 20) : 0 ≤ (cpl a b).toInt ∧ (cpl a b).toInt ≤ 20 ∧ cpl a b = cpl b a ∧ (a.toInt ≤ 0 → (cpl a b).toInt = 0) := by
  have hsa : a = nI a.toInt.toNat := (nI_back a ha.1).symm
  have hsb : b = nI b.toInt.toNat := (nI_back b hb.1).symm
  have h1 : a.toInt.toNat ≤ 20 := by have := ha.2; omega
  have h2 : b.toInt.toNat ≤ 20 := by have := hb.2; omega
  have hz : a.toInt ≤ 0 → a.toInt.toNat = 0 := by omega
  have key : ∀ x, x ≤ 20 → ∀ y, y ≤ 20 → 0 ≤ (cpl (nI x) (nI y)).toInt ∧ (cpl (nI x) (nI y)).toInt ≤ 20 ∧ cpl (nI x) (nI y) = cpl (nI y) (nI x) ∧ (x = 0 → (cpl (nI x) (nI y)).toInt = 0) := by decide +kernel
  rw [hsa, hsb]
  have := key _ h1 _ h2
  refine ⟨this.1, this.2.1, this.2.2.1, fun h => this.2.2.2 ?_⟩
  rw [← hsa] at h
  exact hz h
