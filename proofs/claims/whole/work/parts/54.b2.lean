/-! the reference's sums over what lies beside a cell -/
theorem uL0 (ℓ : Nat → Nat → Int64) (A B : Int64) : upL (upL ℓ 1 0 A) 1 1 B 1 0 = A := by simp [upL, vp_updL]
theorem uL1 (ℓ : Nat → Nat → Int64) (A B : Int64) : upL (upL ℓ 1 0 A) 1 1 B 1 1 = B := by simp [upL, vp_updL]
def Adds (ℓ ℓ' : Nat → Nat → Int64) (g w : Int) : Prop := (ℓ' 1 0).toInt = (ℓ 1 0).toInt + g * w ∧ (ℓ' 1 1).toInt = (ℓ 1 1).toInt + g
def Bd (ℓ : Nat → Nat → Int64) (b : Int) : Prop := (-(b * 200000) ≤ (ℓ 1 0).toInt ∧ (ℓ 1 0).toInt ≤ b * 200000) ∧ (-(b * 20) ≤ (ℓ 1 1).toInt ∧ (ℓ 1 1).toInt ≤ b * 20)
theorem Bd_s {ℓ ℓ' : Nat → Nat → Int64} {g w b : Int} (h : Bd ℓ b) (hg : 0 ≤ g ∧ g ≤ 20) (hw : -10000 ≤ w ∧ w ≤ 10000) (ha : Adds ℓ ℓ' g w) : Bd ℓ' (b + 1) := by
  have hp := mul_b (a := g) (b := w) (A := 20) (B := 10000) ⟨by omega, by omega⟩ ⟨by omega, by omega⟩
  unfold Bd Adds at *
  rw [ha.1, ha.2]
  omega
theorem Adds_of {ℓ : Nat → Nat → Int64} {c w : Int32} {b : Int} (hb : Bd ℓ b) (hb9 : 0 ≤ b ∧ b ≤ 8) (hc : 0 ≤ c.toInt ∧ c.toInt ≤ 20) (hw : rng w (-10000) 10000) : Adds ℓ (upL (upL ℓ 1 0 (ℓ 1 0 + c.toInt64 * w.toInt64)) 1 1 (ℓ 1 1 + c.toInt64)) c.toInt w.toInt := by
  have hp := mul_b (a := c.toInt) (b := w.toInt) (A := 20) (B := 10000) ⟨by omega, by omega⟩ hw
  unfold Adds
  unfold Bd at hb
  rw [uL0, uL1]
  have e1 : (c.toInt64 * w.toInt64).toInt = c.toInt * w.toInt := by
    rw [t64 (by rw [w64, w64]; omega) (by rw [w64, w64]; omega), w64, w64]
  exact ⟨by rw [p64 (by rw [e1]; omega) (by rw [e1]; omega), e1], by rw [p64 (by rw [w64]; omega) (by rw [w64]; omega), w64]⟩
theorem Adds_0 (ℓ : Nat → Nat → Int64) (w : Int) : Adds ℓ ℓ 0 w := by unfold Adds; rw [Int.zero_mul]; omega
/-- is it a cell that lies there? -/
abbrev isC (X Y d i j : Nat) : Prop := (d = 0 → ¬ j = 0) ∧ (d = 1 → ¬ i + 1 = X) ∧ (d = 2 → ¬ j + 1 = Y) ∧ (d = 3 → ¬ i = 0)
def gc (X Y : Nat) (τ : Nat → Nat → Int32) (d i j : Nat) : Int := if isC X Y d i j then gD X Y τ d i j else 0
def gs (X Y : Nat) (τ : Nat → Nat → Int32) (d i j : Nat) : Int := if isC X Y d i j then 0 else gD X Y τ d i j
def uT (τ : Nat → Nat → Int32) : Nat → Nat → Int := fun i j => (τ 1 (10 * j + i)).toInt
def WBd (X Y : Nat) (τ : Nat → Nat → Int32) : Prop := ∀ i j, i < X → j < Y → rng (τ 1 (10 * j + i)) (-10000) 10000
theorem nw_b {X Y : Nat} {τ : Nat → Nat → Int32} (hT : TB X Y τ) (hW : WBd X Y τ) {i j : Nat} (hi : i < X) (hj : j < Y) (d : Nat) : -10000 ≤ nw X Y τ (uT τ) d i j ∧ nw X Y τ (uT τ) d i j ≤ 10000 := by
  unfold nw
  by_cases d0 : d = 0
  · rw [if_pos d0]; split
    · exact (hT.2 0 (by decide)).1
    · exact hW i (j - 1) hi (by omega)
  · rw [if_neg d0]
    by_cases d1 : d = 1
    · rw [if_pos d1]; split
      · exact (hT.2 1 (by decide)).1
      · exact hW (i + 1) j (by omega) hj
    · rw [if_neg d1]
      by_cases d2 : d = 2
      · rw [if_pos d2]; split
        · exact (hT.2 2 (by decide)).1
        · exact hW i (j + 1) hi (by omega)
      · rw [if_neg d2]; split
        · exact (hT.2 3 (by decide)).1
        · exact hW (i - 1) j (by omega) hj
theorem add_cell {X Y : Nat} (hB : 1 ≤ X ∧ X ≤ 10 ∧ 1 ≤ Y ∧ Y ≤ 10) {τ : Nat → Nat → Int32} (hT : TB X Y τ) (hW : WBd X Y τ) {own : Int32} (ho : rng own 0 20) {a b : Nat} (ha : a < X) (hb : b < Y) {ℓ : Nat → Nat → Int64} {z : Int} (h : Bd ℓ z) (hz : 0 ≤ z ∧ z ≤ 8) : Adds ℓ (f_add X Y τ own (nI a) (nI b) ℓ) (cpl own (τ 0 (10 * b + a))).toInt (uT τ a b) := by
  unfold f_add
  rw [if_neg (by rw [mCell_in hB ha hb]; decide), ix_e a b (by omega) (by omega)]
  have := cpl_b ho (hT.1 a b ha hb)
  exact Adds_of h hz ⟨this.1, this.2.1⟩ (hW a b ha hb)
theorem mC_w {X Y : Nat} (j : Int32) : mCell X Y (nI 0 - 1) j = 0 := by
  unfold mCell
  rw [if_pos]
  unfold mIn
  rw [if_pos (by decide)]
theorem mC_n {X Y : Nat} (i : Int32) : mCell X Y i (nI 0 - 1) = 0 := by
  unfold mCell
  split
  · rfl
  · rw [if_pos]
    unfold mIn
    rw [if_pos (by decide)]
theorem mIn_hi {n : Nat} (h : 1 ≤ n ∧ n ≤ 10) : mIn (nI n) 0 (nI n - 1) = 0 := by
  unfold mIn
  rw [if_neg (nI_pos (by omega)), if_pos]
  rw [show nI n - 1 = nI (n - 1) from pk_sub (b := 1) h.1]
  exact nI_lt (by omega) (by omega)
theorem mC_e {X Y : Nat} (hB : 1 ≤ X ∧ X ≤ 10 ∧ 1 ≤ Y ∧ Y ≤ 10) (j : Int32) : mCell X Y (nI X) j = 0 := by
  unfold mCell
  rw [if_pos (mIn_hi ⟨hB.1, hB.2.1⟩)]
theorem mC_s {X Y : Nat} (hB : 1 ≤ X ∧ X ≤ 10 ∧ 1 ≤ Y ∧ Y ≤ 10) (i : Int32) : mCell X Y i (nI Y) = 0 := by
  unfold mCell
  split
  · rfl
  · rw [if_pos (mIn_hi hB.2.2)]
theorem add_none {X Y : Nat} {τ : Nat → Nat → Int32} {own i j : Int32} {ℓ : Nat → Nat → Int64} (h : mCell X Y i j = 0) (w : Int) : Adds ℓ (f_add X Y τ own i j ℓ) 0 w := by
  unfold f_add; rw [if_pos h]; exact Adds_0 _ _
theorem add_3 {X Y : Nat} (hB : 1 ≤ X ∧ X ≤ 10 ∧ 1 ≤ Y ∧ Y ≤ 10) {τ : Nat → Nat → Int32} (hT : TB X Y τ) (hW : WBd X Y τ) {i j : Nat} (hi : i < X) (hj : j < Y) {ℓ : Nat → Nat → Int64} {z : Int} (h : Bd ℓ z) (hz : 0 ≤ z ∧ z ≤ 8) : Adds ℓ (f_add X Y τ (τ 0 (10 * j + i)) (nI i - 1) (nI j) ℓ) (gc X Y τ 3 i j) (nw X Y τ (uT τ) 3 i j) := by
  by_cases q : i = 0
  · have e : gc X Y τ 3 i j = 0 := if_neg (fun z => z.2.2.2 rfl q)
    rw [e, q]; exact add_none (mC_w _) _
  · have e : gc X Y τ 3 i j = gD X Y τ 3 i j := if_pos ⟨fun z => absurd z (by decide), fun z => absurd z (by decide), fun z => absurd z (by decide), fun _ => q⟩
    have e2 : nw X Y τ (uT τ) 3 i j = uT τ (i - 1) j := by unfold nw; rw [if_neg (by decide), if_neg (by decide), if_neg (by decide), if_neg q]
    have e3 : gD X Y τ 3 i j = (cpl (τ 0 (10 * j + i)) (τ 0 (10 * j + (i - 1)))).toInt := by unfold gD nbC; rw [if_neg (by decide), if_neg (by decide), if_neg (by decide), if_neg q]
    rw [e, e2, e3, show nI i - 1 = nI (i - 1) from pk_sub (b := 1) (by omega)]
    exact add_cell hB hT hW (hT.1 i j hi hj) (by omega) hj h hz
theorem add_1 {X Y : Nat} (hB : 1 ≤ X ∧ X ≤ 10 ∧ 1 ≤ Y ∧ Y ≤ 10) {τ : Nat → Nat → Int32} (hT : TB X Y τ) (hW : WBd X Y τ) {i j : Nat} (hi : i < X) (hj : j < Y) {ℓ : Nat → Nat → Int64} {z : Int} (h : Bd ℓ z) (hz : 0 ≤ z ∧ z ≤ 8) : Adds ℓ (f_add X Y τ (τ 0 (10 * j + i)) (nI i + 1) (nI j) ℓ) (gc X Y τ 1 i j) (nw X Y τ (uT τ) 1 i j) := by
  have e0 : nI i + 1 = nI (i + 1) := nI_add i 1
  by_cases q : i + 1 = X
  · have e : gc X Y τ 1 i j = 0 := if_neg (fun z => z.2.1 rfl q)
    rw [e, e0, q]; exact add_none (mC_e hB _) _
  · have e : gc X Y τ 1 i j = gD X Y τ 1 i j := if_pos ⟨fun z => absurd z (by decide), fun _ => q, fun z => absurd z (by decide), fun z => absurd z (by decide)⟩
    have e2 : nw X Y τ (uT τ) 1 i j = uT τ (i + 1) j := by unfold nw; rw [if_neg (by decide), if_pos rfl, if_neg q]
    have e3 : gD X Y τ 1 i j = (cpl (τ 0 (10 * j + i)) (τ 0 (10 * j + (i + 1)))).toInt := by unfold gD nbC; rw [if_neg (by decide), if_pos rfl, if_neg q]
    rw [e, e2, e3, e0]
    exact add_cell hB hT hW (hT.1 i j hi hj) (by omega) hj h hz
theorem add_c0 {X Y : Nat} (hB : 1 ≤ X ∧ X ≤ 10 ∧ 1 ≤ Y ∧ Y ≤ 10) {τ : Nat → Nat → Int32} (hT : TB X Y τ) (hW : WBd X Y τ) {i j : Nat} (hi : i < X) (hj : j < Y) {ℓ : Nat → Nat → Int64} {z : Int} (h : Bd ℓ z) (hz : 0 ≤ z ∧ z ≤ 8) : Adds ℓ (f_add X Y τ (τ 0 (10 * j + i)) (nI i) (nI j - 1) ℓ) (gc X Y τ 0 i j) (nw X Y τ (uT τ) 0 i j) := by
  by_cases q : j = 0
  · have e : gc X Y τ 0 i j = 0 := if_neg (fun z => z.1 rfl q)
    rw [e, q]; exact add_none (mC_n _) _
  · have e : gc X Y τ 0 i j = gD X Y τ 0 i j := if_pos ⟨fun _ => q, fun z => absurd z (by decide), fun z => absurd z (by decide), fun z => absurd z (by decide)⟩
    have e2 : nw X Y τ (uT τ) 0 i j = uT τ i (j - 1) := by unfold nw; rw [if_pos rfl, if_neg q]
    have e3 : gD X Y τ 0 i j = (cpl (τ 0 (10 * j + i)) (τ 0 (10 * (j - 1) + i))).toInt := by unfold gD nbC; rw [if_pos rfl, if_neg q]
    rw [e, e2, e3, show nI j - 1 = nI (j - 1) from pk_sub (b := 1) (by omega)]
    exact add_cell hB hT hW (hT.1 i j hi hj) hi (by omega) h hz
theorem add_2 {X Y : Nat} (hB : 1 ≤ X ∧ X ≤ 10 ∧ 1 ≤ Y ∧ Y ≤ 10) {τ : Nat → Nat → Int32} (hT : TB X Y τ) (hW : WBd X Y τ) {i j : Nat} (hi : i < X) (hj : j < Y) {ℓ : Nat → Nat → Int64} {z : Int} (h : Bd ℓ z) (hz : 0 ≤ z ∧ z ≤ 8) : Adds ℓ (f_add X Y τ (τ 0 (10 * j + i)) (nI i) (nI j + 1) ℓ) (gc X Y τ 2 i j) (nw X Y τ (uT τ) 2 i j) := by
  have e0 : nI j + 1 = nI (j + 1) := nI_add j 1
  by_cases q : j + 1 = Y
  · have e : gc X Y τ 2 i j = 0 := if_neg (fun z => z.2.2.1 rfl q)
    rw [e, e0, q]; exact add_none (mC_s hB _) _
  · have e : gc X Y τ 2 i j = gD X Y τ 2 i j := if_pos ⟨fun z => absurd z (by decide), fun z => absurd z (by decide), fun _ => q, fun z => absurd z (by decide)⟩
    have e2 : nw X Y τ (uT τ) 2 i j = uT τ i (j + 1) := by unfold nw; rw [if_neg (by decide), if_neg (by decide), if_pos rfl, if_neg q]
    have e3 : gD X Y τ 2 i j = (cpl (τ 0 (10 * j + i)) (τ 0 (10 * (j + 1) + i))).toInt := by unfold gD nbC; rw [if_neg (by decide), if_neg (by decide), if_pos rfl, if_neg q]
    rw [e, e2, e3, e0]
    exact add_cell hB hT hW (hT.1 i j hi hj) hi (by omega) h hz
/-- a side's part -/
theorem add_side {X Y : Nat} (hB : 1 ≤ X ∧ X ≤ 10 ∧ 1 ≤ Y ∧ Y ≤ 10) {τ : Nat → Nat → Int32} (hT : TB X Y τ) (hW : WBd X Y τ) {i j : Nat} (hi : i < X) (hj : j < Y) {ℓ : Nat → Nat → Int64} {z : Int} (h : Bd ℓ z) (hz : 0 ≤ z ∧ z ≤ 8) {sd : Nat} (hsd : sd < 4) : Adds ℓ (f_mds X Y τ i j sd ℓ) (gs X Y τ sd i j) (nw X Y τ (uT τ) sd i j) := by
  have key : ∀ (P : Prop) [Decidable P], ((mBes X Y (nI sd) (nI i) (nI j) = 0) ↔ ¬ P) → (isC X Y sd i j ↔ ¬ P) → (P → nbC X Y τ sd i j = τ 3 sd) → (P → nw X Y τ (uT τ) sd i j = (τ 2 sd).toInt) → Adds ℓ (f_mds X Y τ i j sd ℓ) (gs X Y τ sd i j) (nw X Y τ (uT τ) sd i j) := by
    intro P _ h1 h2 h3 h4
    by_cases hp : P
    · have e1 : gs X Y τ sd i j = gD X Y τ sd i j := if_neg (fun q => h2.mp q hp)
      have e2 : gD X Y τ sd i j = (cpl (τ 0 (10 * j + i)) (τ 3 sd)).toInt := by unfold gD; rw [h3 hp]
      rw [e1, e2, h4 hp]
      unfold f_mds
      rw [if_neg (fun q => h1.mp q hp)]
      have := cpl_b (hT.1 i j hi hj) (hT.2 sd hsd).2
      exact Adds_of h hz ⟨this.1, this.2.1⟩ (hT.2 sd hsd).1
    · have e1 : gs X Y τ sd i j = 0 := if_pos (h2.mpr hp)
      rw [e1]
      unfold f_mds
      rw [if_pos (h1.mpr hp)]
      have := Adds_of (c := 0) (w := τ 2 sd) h hz ⟨by decide, by decide⟩ (hT.2 sd hsd).1
      unfold Adds at this ⊢
      rw [i0, Int.zero_mul] at this
      rw [Int.zero_mul]
      exact this
  rcases (show sd = 0 ∨ sd = 1 ∨ sd = 2 ∨ sd = 3 by omega) with rfl | rfl | rfl | rfl
  · exact key (j = 0) (bes0 hB hi hj) ⟨fun q => q.1 rfl, fun q => ⟨fun _ => q, fun z => absurd z (by decide), fun z => absurd z (by decide), fun z => absurd z (by decide)⟩⟩ (fun q => by unfold nbC; rw [if_pos rfl, if_pos q]) (fun q => by unfold nw; rw [if_pos rfl, if_pos q])
  · exact key (i = X - 1) (bes1 hB hi hj) ⟨fun q z => q.2.1 rfl (by omega), fun q => ⟨fun z => absurd z (by decide), fun _ z => q (by omega), fun z => absurd z (by decide), fun z => absurd z (by decide)⟩⟩ (fun q => by unfold nbC; rw [if_neg (by decide), if_pos rfl, if_pos (by omega)]) (fun q => by unfold nw; rw [if_neg (by decide), if_pos rfl, if_pos (by omega)])
  · exact key (j = Y - 1) (bes2 hB hi hj) ⟨fun q z => q.2.2.1 rfl (by omega), fun q => ⟨fun z => absurd z (by decide), fun z => absurd z (by decide), fun _ z => q (by omega), fun z => absurd z (by decide)⟩⟩ (fun q => by unfold nbC; rw [if_neg (by decide), if_neg (by decide), if_pos rfl, if_pos (by omega)]) (fun q => by unfold nw; rw [if_neg (by decide), if_neg (by decide), if_pos rfl, if_pos (by omega)])
  · exact key (i = 0) (bes3 hB hi hj) ⟨fun q => q.2.2.2 rfl, fun q => ⟨fun z => absurd z (by decide), fun z => absurd z (by decide), fun z => absurd z (by decide), fun _ => q⟩⟩ (fun q => by unfold nbC; rw [if_neg (by decide), if_neg (by decide), if_neg (by decide), if_pos q]) (fun q => by unfold nw; rw [if_neg (by decide), if_neg (by decide), if_neg (by decide), if_pos q])
theorem gc_b {X Y : Nat} {τ : Nat → Nat → Int32} (hT : TB X Y τ) {i j : Nat} (hi : i < X) (hj : j < Y) (d : Nat) : (0 ≤ gc X Y τ d i j ∧ gc X Y τ d i j ≤ 20) ∧ (0 ≤ gs X Y τ d i j ∧ gs X Y τ d i j ≤ 20) ∧ gc X Y τ d i j + gs X Y τ d i j = gD X Y τ d i j ∧ ∀ w, gc X Y τ d i j * w + gs X Y τ d i j * w = gD X Y τ d i j * w := by
  have := gD_b hT hi hj d
  unfold gc gs
  by_cases h : isC X Y d i j
  · rw [if_pos h, if_pos h]; exact ⟨this, ⟨by omega, by omega⟩, by omega, fun w => by rw [Int.zero_mul, Int.add_zero]⟩
  · rw [if_neg h, if_neg h]; exact ⟨⟨by omega, by omega⟩, this, by omega, fun w => by rw [Int.zero_mul, Int.zero_add]⟩
theorem fd_4 {α : Type} (f : Nat → α → α) (a : α) : fd f a 4 = f 3 (f 2 (f 1 (f 0 a))) := rfl
theorem made_e {X Y : Nat} (hB : 1 ≤ X ∧ X ≤ 10 ∧ 1 ≤ Y ∧ Y ≤ 10) {τ : Nat → Nat → Int32} (hT : TB X Y τ) (hW : WBd X Y τ) {i j : Nat} (hi : i < X) (hj : j < Y) (ℓ : Nat → Nat → Int64) : ((f_made X Y τ i j ℓ) 1 0).toInt = PP X Y τ (uT τ) i j ∧ ((f_made X Y τ i j ℓ) 1 1).toInt = GG X Y τ i j := by
  have b := gc_b hT hi hj
  have nb := nw_b hT hW hi hj
  have e : f_made X Y τ i j ℓ = f_mds X Y τ i j 3 (f_mds X Y τ i j 2 (f_mds X Y τ i j 1 (f_mds X Y τ i j 0 (f_md4 X Y τ i j ℓ)))) := by unfold f_made n_md; rw [fd_4]
  rw [e]
  unfold f_md4
  generalize h0 : upL (upL ℓ 1 0 0) 1 1 0 = ℓ0
  have z0 : Bd ℓ0 0 := by subst h0; unfold Bd; rw [uL0, uL1]; decide
  have v0 : (ℓ0 1 0).toInt = 0 ∧ (ℓ0 1 1).toInt = 0 := by subst h0; rw [uL0, uL1]; decide
  have a1 := add_3 hB hT hW hi hj z0 (by decide)
  have z1 := Bd_s z0 (b 3).1 (nb 3) a1
  generalize f_add X Y τ (τ 0 (10 * j + i)) (nI i - 1) (nI j) ℓ0 = ℓ1 at a1 z1 ⊢
  have a2 := add_1 hB hT hW hi hj z1 (by decide)
  have z2 := Bd_s z1 (b 1).1 (nb 1) a2
  generalize f_add X Y τ (τ 0 (10 * j + i)) (nI i + 1) (nI j) ℓ1 = ℓ2 at a2 z2 ⊢
  have a3 := add_c0 hB hT hW hi hj z2 (by decide)
  have z3 := Bd_s z2 (b 0).1 (nb 0) a3
  generalize f_add X Y τ (τ 0 (10 * j + i)) (nI i) (nI j - 1) ℓ2 = ℓ3 at a3 z3 ⊢
  have a4 := add_2 hB hT hW hi hj z3 (by decide)
  have z4 := Bd_s z3 (b 2).1 (nb 2) a4
  generalize f_add X Y τ (τ 0 (10 * j + i)) (nI i) (nI j + 1) ℓ3 = ℓ4 at a4 z4 ⊢
  have a5 := add_side hB hT hW hi hj z4 (by decide) (show 0 < 4 by decide)
  have z5 := Bd_s z4 (b 0).2.1 (nb 0) a5
  generalize f_mds X Y τ i j 0 ℓ4 = ℓ5 at a5 z5 ⊢
  have a6 := add_side hB hT hW hi hj z5 (by decide) (show 1 < 4 by decide)
  have z6 := Bd_s z5 (b 1).2.1 (nb 1) a6
  generalize f_mds X Y τ i j 1 ℓ5 = ℓ6 at a6 z6 ⊢
  have a7 := add_side hB hT hW hi hj z6 (by decide) (show 2 < 4 by decide)
  have z7 := Bd_s z6 (b 2).2.1 (nb 2) a7
  generalize f_mds X Y τ i j 2 ℓ6 = ℓ7 at a7 z7 ⊢
  have a8 := add_side hB hT hW hi hj z7 (by decide) (show 3 < 4 by decide)
  generalize f_mds X Y τ i j 3 ℓ7 = ℓ8 at a8 ⊢
  have s0 := (b 0).2.2; have s1 := (b 1).2.2; have s2 := (b 2).2.2; have s3 := (b 3).2.2
  have p0 := s0.2 (nw X Y τ (uT τ) 0 i j); have p1 := s1.2 (nw X Y τ (uT τ) 1 i j); have p2 := s2.2 (nw X Y τ (uT τ) 2 i j); have p3 := s3.2 (nw X Y τ (uT τ) 3 i j)
  unfold Adds at a1 a2 a3 a4 a5 a6 a7 a8
  unfold PP GG
  constructor
  · omega
  · omega
