/-! what the methods of a Section that read answer, road by road as their code has it -/
theorem pl_e (X i j : Nat) : (nI j + 1) * nI (X + 2) + nI i + 1 = nI (pl X i j) := by
  have h : ((1 : Int32)) = nI 1 := rfl
  rw [h, nI_add, pk_mul, nI_add, nI_add]; rfl
def hlds (X Y : Nat) (i j : Int32) : Int32 := if i < 0 then 0 else if nI X ≤ i then 0 else if j < 0 then 0 else if nI Y ≤ j then 0 else 1
def cpl (a b : Int32) : Int32 := if a ≤ 0 then 0 else if b ≤ 0 then 0 else 2 * a * b / (a + b)
theorem cpl_ne {a b : Int32} (ha : ¬ a ≤ 0) (hb : ¬ b ≤ 0) : ¬ a + b = 0 := by
  intro h
  have h1 := congrArg Int32.toInt h
  rw [Int32.toInt_add] at h1
  have ha' : ¬ a.toInt ≤ 0 := fun h => ha (Int32.le_iff_toInt_le.mpr h)
  have hb' : ¬ b.toInt ≤ 0 := fun h => hb (Int32.le_iff_toInt_le.mpr h)
  have a2 := a.toInt_lt
  have b2 := b.toInt_lt
  have e0 : (0 : Int32).toInt = 0 := rfl
  rw [e0] at h1
  rcases (show a.toInt + b.toInt < 2 ^ 31 ∨ 2 ^ 31 ≤ a.toInt + b.toInt by omega) with q | q
  · rw [Int.bmod_eq_of_le (by omega) (by omega)] at h1; omega
  · have : (a.toInt + b.toInt).bmod (2 ^ 32) = a.toInt + b.toInt - 2 ^ 32 := by
      rw [Int.bmod_def]; omega
    rw [this] at h1; omega
def wAt (X : Nat) (σ : Nat → Nat → Int32) (i j : Nat) : Int32 := if σ 0 (pl X i j) ≤ 0 then (-1000000) else σ 1 (pl X i j)
def cAlong (X Y sd : Nat) : Nat := if sd = 0 then X else if sd = 2 then X else Y
def clA (X Y sd k : Nat) : Nat := if sd = 0 then pl X k 0 else if sd = 1 then pl X (X - 1) k else if sd = 2 then pl X k (Y - 1) else pl X 0 k
def outw (X sd : Nat) : Int32 := if sd = 0 then -nI (X + 2) else if sd = 1 then 1 else if sd = 2 then nI (X + 2) else (-1)
theorem clA_in {X Y sd k : Nat} (hB : 1 ≤ X ∧ X ≤ 10 ∧ 1 ≤ Y ∧ Y ≤ 10) (h : sd < 4) (hk : k < cAlong X Y sd) : clA X Y sd k < (X + 2) * (Y + 2) := by
  unfold clA cAlong at *
  rcases (show sd = 0 ∨ sd = 1 ∨ sd = 2 ∨ sd = 3 by omega) with rfl | rfl | rfl | rfl
  · simp at hk ⊢; exact pl_in hk (by omega)
  · simp at hk ⊢; exact pl_in (by omega) hk
  · simp at hk ⊢; exact pl_in hk (by omega)
  · simp at hk ⊢; exact pl_in (by omega) hk
theorem sd_toInt {sd : Nat} (h : sd < 4) : (nI sd).toInt = (sd : Int) := nI_toInt (by omega)
theorem nI0_of {n : Nat} (h : n < 4) (e : nI n = 0) : n = 0 := (nI_eq (b := 0) (by omega) (by omega)).mp e
theorem nI2_of {n : Nat} (h : n < 4) (e : nI n = 2) : n = 2 := (nI_eq (b := 2) (by omega) (by omega)).mp e
def n_countThereR0 (X : Nat) (σ : Nat → Nat → Int32) (j : Nat) (a : Int32) (n : Nat) : Int32 := fd (fun i a => a + (if σ 0 (pl X i j) ≤ 0 then 0 else 1)) a n
def n_countThere (X : Nat) (σ : Nat → Nat → Int32) (n : Nat) : Int32 := fd (fun j a => n_countThereR0 X σ j a X) 0 n
def n_countAloneR0 (X : Nat) (σ : Nat → Nat → Int32) (j : Nat) (a : Int32) (n : Nat) : Int32 := fd (fun i a => a + (if σ 0 (pl X i j) ≤ 0 then 0 else if σ 4 (pl X i j) = 0 then 1 else 0)) a n
def n_countAlone (X : Nat) (σ : Nat → Nat → Int32) (n : Nat) : Int32 := fd (fun j a => n_countAloneR0 X σ j a X) 0 n
def n_countColderR0 (X : Nat) (σ : Nat → Nat → Int32) (wt : Int32) (j : Nat) (a : Int32) (n : Nat) : Int32 := fd (fun i a => a + (if σ 0 (pl X i j) ≤ 0 then 0 else if wt ≤ wAt X σ i j then 0 else 1)) a n
def n_countColder (X : Nat) (σ : Nat → Nat → Int32) (wt : Int32) (n : Nat) : Int32 := fd (fun j a => n_countColderR0 X σ wt j a X) 0 n
def n_sumOfWarmthsR0 (X : Nat) (σ : Nat → Nat → Int32) (j : Nat) (a : Int64) (n : Nat) : Int64 := fd (fun i a => a + (if σ 0 (pl X i j) ≤ 0 then 0 else (wAt X σ i j).toInt64)) a n
def n_sumOfWarmths (X : Nat) (σ : Nat → Nat → Int32) (n : Nat) : Int64 := fd (fun j a => n_sumOfWarmthsR0 X σ j a X) 0 n
noncomputable def bI (P : Prop) : Int32 := @ite _ P (Classical.propDecidable P) 1 0
theorem bI_t {P : Prop} (h : P) : 1 = bI P := by unfold bI; rw [if_pos h]
theorem bI_f {P : Prop} (h : ¬ P) : 0 = bI P := by unfold bI; rw [if_neg h]
theorem bI_n (P : Prop) : narrow .boolean (.int (bI P)) = .int (bI P) := by
  by_cases h : P
  · rw [← bI_t h]; rfl
  · rw [← bI_f h]; rfl
def n_flow (X Y : Nat) (σ : Nat → Nat → Int32) (sd n : Nat) : Int64 := fd (fun k a => a + (cpl (σ 0 (clA X Y sd k)) (σ 7 sd) * (σ 6 sd - σ 1 (clA X Y sd k))).toInt64) 0 n
def flowS (X Y : Nat) (σ : Nat → Nat → Int32) (sd : Nat) : Int64 := n_flow X Y σ sd (cAlong X Y sd)
theorem cA_le {X Y sd : Nat} (hB : 1 ≤ X ∧ X ≤ 10 ∧ 1 ≤ Y ∧ Y ≤ 10) : cAlong X Y sd ≤ 10 := by
  unfold cAlong; split <;> (try split) <;> omega
def n_heat (X Y : Nat) (σ : Nat → Nat → Int32) (n : Nat) : Int64 := fd (fun sd a => a + (if flowS X Y σ sd < 0 then 0 else flowS X Y σ sd)) 0 n
def n_rest (X Y : Nat) (σ : Nat → Nat → Int32) (n : Nat) : Int64 := fd (fun sd a => a + flowS X Y σ sd) 0 n
def bO : Option Nat → Int32
  | none => (-1)
  | some k => nI k
def coldF (c w : Nat → Int32) (k : Nat) (b : Option Nat) : Option Nat := if c k ≤ 0 then b else match b with
  | none => some k
  | some q => if w q ≤ w k then b else some k
def n_cold (X Y : Nat) (σ : Nat → Nat → Int32) (sd n : Nat) : Option Nat := fd (coldF (fun k => σ 0 (clA X Y sd k)) (fun k => σ 1 (clA X Y sd k))) none n
theorem cold_lt {c w : Nat → Int32} {n q : Nat} (h : fd (coldF c w) none n = some q) : q < n := by
  induction n generalizing q with
  | zero => cases h
  | succ n ih =>
    have h : coldF c w n (fd (coldF c w) none n) = some q := h
    unfold coldF at h
    split at h
    · have := ih h; omega
    · split at h
      · cases h; omega
      · rename_i q' hq'
        split at h
        · have := ih h; omega
        · cases h; omega
theorem n_cold_s (X Y : Nat) (σ : Nat → Nat → Int32) (sd k : Nat) : n_cold X Y σ sd (k + 1) = coldF (fun k => σ 0 (clA X Y sd k)) (fun k => σ 1 (clA X Y sd k)) k (n_cold X Y σ sd k) := rfl
def coldS (X Y : Nat) (σ : Nat → Nat → Int32) (sd : Nat) : Option Nat := n_cold X Y σ sd (cAlong X Y sd)
