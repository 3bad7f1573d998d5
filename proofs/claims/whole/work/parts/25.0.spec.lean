/-- addresses by their number -/
def lk9 (L : List Nat) (k : Nat) : Nat := L.getD k 0
abbrev σ0 : Nat → Nat → Int32 := fun _ _ => 0
abbrev ℓ0 : Nat → Nat → Int64 := fun _ _ => 0
theorem N9 {X Y : Nat} (hB : 1 ≤ X ∧ X ≤ 10 ∧ 1 ≤ Y ∧ Y ≤ 10) : (X + 2) * (Y + 2) ≤ 144 := Nat.le_trans (Nat.mul_le_mul (show X + 2 ≤ 12 by omega) (show Y + 2 ≤ 12 by omega)) (by decide)
