/-! the cells of a BridgeCells: its own, and its Section's -/
abbrev wBh (ab ad : Nat → Nat) (cI cJ : ClassId) (hh : Nat → Int64) (hw : Nat → Int32) (n : Int32) : va_W := [(ab 0, .inr (1, [.ref (ad 8), .ref (ab 1), .ref (ab 2), .int n])), (ab 1, .inl (cJ, 10, .inr (.inl hh))), (ab 2, .inl (cI, 10, .inl hw))]
abbrev wB (ab ad : Nat → Nat) (cI cJ : ClassId) (X Y : Nat) (σ : Nat → Nat → Int32) (hh : Nat → Int64) (hw : Nat → Int32) (n : Int32) : va_W := wBh ab ad cI cJ hh hw n ++ (wS ad cI X Y σ ++ [])
theorem wB_D {A : Nat → Prop} {ab ad : Nat → Nat} {cI cJ : ClassId} {X Y : Nat} {σ : Nat → Nat → Int32} {hh : Nat → Int64} {hw : Nat → Int32} {n : Int32} (h : va_D A (wB ab ad cI cJ X Y σ hh hw n)) (σ' : Nat → Nat → Int32) (hh' : Nat → Int64) (hw' : Nat → Int32) (n' : Int32) : va_D A (wB ab ad cI cJ X Y σ' hh' hw' n') := aw_fst (ws := wB ab ad cI cJ X Y σ hh hw n) (by rfl) h
theorem hlds_e {X Y : Nat} (hB : 1 ≤ X ∧ X ≤ 10 ∧ 1 ≤ Y ∧ Y ≤ 10) (i j : Int32) : hlds X Y i j = mCell X Y i j := by
  have key : ∀ (n : Nat) (v : Int32), 1 ≤ n → n ≤ 10 → (nI n ≤ v ↔ nI n - 1 < v) := by
    intro n v h1 h2
    rw [show nI n - 1 = nI (n - 1) from pk_sub (b := 1) h1, Int32.le_iff_toInt_le, Int32.lt_iff_toInt_lt, nI_toInt (by omega), nI_toInt (by omega)]
    omega
  unfold hlds mCell mIn
  by_cases a1 : i < 0
  · simp [a1]
  · by_cases a2 : nI X ≤ i
    · simp [a1, a2, (key X i hB.1 hB.2.1).mp a2]
    · have a3 : ¬ nI X - 1 < i := fun h => a2 ((key X i hB.1 hB.2.1).mpr h)
      by_cases b1 : j < 0
      · simp [a1, a2, a3, b1]
      · by_cases b2 : nI Y ≤ j
        · simp [a1, a2, a3, b1, b2, (key Y j hB.2.2.1 hB.2.2.2).mp b2]
        · have b3 : ¬ nI Y - 1 < j := fun h => b2 ((key Y j hB.2.2.1 hB.2.2.2).mpr h)
          simp [a1, a2, a3, b1, b2, b3]
theorem hl_in {X Y i j : Nat} (hB : 1 ≤ X ∧ X ≤ 10 ∧ 1 ≤ Y ∧ Y ≤ 10) (hi : i < X) (hj : j < Y) : hlds X Y (nI i) (nI j) = 1 := by rw [hlds_e hB]; exact mCell_in hB hi hj
theorem sd_in {sd : Nat} (h : sd < 4) : mIn (nI sd) 0 3 = 1 := by
  unfold mIn; rw [if_neg (nI_pos (by omega)), if_neg]; exact nI_nlt (a := 3) (b := sd) (by omega) (by omega)
theorem ne10 {x : Int32} (h : x = 1) : ¬ x = 0 := by rw [h]; decide
def cLeast (X Y : Nat) (σ : Nat → Nat → Int32) (sd wh : Nat) : Int32 := match coldS X Y σ sd with
  | none => (-1000000)
  | some q => if wh = 0 then σ 1 (clA X Y sd q) else nI q
def cAb (X Y : Nat) (σ : Nat → Nat → Int32) (sd : Nat) : Int32 := match coldS X Y σ sd with
  | none => 0
  | some q => σ 1 (clA X Y sd q) - σ 8 0
def cBe (X Y : Nat) (σ : Nat → Nat → Int32) (sd : Nat) : Int32 := match coldS X Y σ sd with
  | none => 0
  | some _ => σ 8 1 - σ 8 0
def cG (X Y : Nat) (σ : Nat → Nat → Int32) (sd : Nat) : Int32 := (n_g (cAb X Y σ sd) (cBe X Y σ sd) 64).1
def cFac (X Y : Nat) (σ : Nat → Nat → Int32) (sd part : Nat) : Int32 := if cBe X Y σ sd = 0 then (if part = 0 then 0 else 1) else if cG X Y σ sd = 0 then (if part = 0 then 0 else 1) else if part = 0 then cAb X Y σ sd / cG X Y σ sd else cBe X Y σ sd / cG X Y σ sd
