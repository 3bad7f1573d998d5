/-! the cells of the reference, and what its methods do -/
def upL (ℓ : Nat → Nat → Int64) (a k : Nat) (v : Int64) : Nat → Nat → Int64 := fun b => bif Nat.beq b a then vp_updL (ℓ a) k v else ℓ b
abbrev wM (am : Nat → Nat) (cI cJ : ClassId) (X Y : Nat) (τ : Nat → Nat → Int32) (ℓ : Nat → Nat → Int64) : va_W :=
  [(am 6, .inr (2, [.int (nI X), .int (nI Y), .int (τ 5 0), .ref (am 0), .ref (am 1), .ref (am 2), .ref (am 3), .int (τ 5 1), .int (τ 5 2), .int (τ 5 3), .long (ℓ 1 0), .long (ℓ 1 1), .int (τ 5 4), .ref (am 5), .ref (am 4)])),
   (am 0, .inl (cI, 100, .inl (τ 0))), (am 1, .inl (cI, 100, .inl (τ 1))), (am 2, .inl (cI, 4, .inl (τ 2))), (am 3, .inl (cI, 4, .inl (τ 3))), (am 4, .inl (cI, 10, .inl (τ 4))), (am 5, .inl (cJ, 10, .inr (.inl (ℓ 0))))]
theorem wM_D {A : Nat → Prop} {am : Nat → Nat} {cI cJ : ClassId} {X Y : Nat} {τ : Nat → Nat → Int32} {ℓ : Nat → Nat → Int64} (h : va_D A (wM am cI cJ X Y τ ℓ)) (τ' : Nat → Nat → Int32) (ℓ' : Nat → Nat → Int64) : va_D A (wM am cI cJ X Y τ' ℓ') := aw_fst (ws := wM am cI cJ X Y τ ℓ) (by rfl) h
def mIn (v a b : Int32) : Int32 := if v < a then 0 else if b < v then 0 else 1
def mCell (X Y : Nat) (i j : Int32) : Int32 := if mIn i 0 (nI X - 1) = 0 then 0 else if mIn j 0 (nI Y - 1) = 0 then 0 else 1
theorem mIn_n (v a b : Int32) : narrow .boolean (.int (mIn v a b)) = .int (mIn v a b) := by unfold mIn; split; rfl; split <;> rfl
theorem mCell_n (X Y : Nat) (i j : Int32) : narrow .boolean (.int (mCell X Y i j)) = .int (mCell X Y i j) := by unfold mCell; split; rfl; split <;> rfl
def mBes (X Y : Nat) (s i j : Int32) : Int32 := if s = 0 then (if j = 0 then 1 else 0) else if s = 1 then (if i = nI X - 1 then 1 else 0) else if s = 2 then (if j = nI Y - 1 then 1 else 0) else if i = 0 then 1 else 0
theorem mBes_n (X Y : Nat) (s i j : Int32) : narrow .boolean (.int (mBes X Y s i j)) = .int (mBes X Y s i j) := by unfold mBes; repeat (first | rfl | split)
theorem mIn_of {v : Int32} {n : Nat} (hn : n ≤ 10) (h1 : 1 ≤ n) (h : ¬ mIn v 0 (nI n - 1) = 0) : ∃ a : Nat, a < n ∧ v = nI a := by
  unfold mIn at h
  split at h
  · exact absurd rfl h
  · rename_i h2
    split at h
    · exact absurd rfl h
    · rename_i h3
      obtain ⟨a, ha, rfl⟩ := nI_of h2
      rw [show nI n - 1 = nI (n - 1) from pk_sub (b := 1) h1] at h3
      refine ⟨a, ?_, rfl⟩
      rcases Nat.lt_or_ge a n with q | q
      · exact q
      · exact absurd (nI_lt (show n - 1 < a by omega) ha) h3
theorem mCell_of {X Y : Nat} (hB : 1 ≤ X ∧ X ≤ 10 ∧ 1 ≤ Y ∧ Y ≤ 10) {i j : Int32} (h : ¬ mCell X Y i j = 0) : ∃ a b : Nat, a < X ∧ b < Y ∧ i = nI a ∧ j = nI b := by
  unfold mCell at h
  split at h
  · exact absurd rfl h
  · rename_i h1
    split at h
    · exact absurd rfl h
    · rename_i h2
      obtain ⟨a, ha, e1⟩ := mIn_of hB.2.1 hB.1 h1
      obtain ⟨b, hb, e2⟩ := mIn_of hB.2.2.2 hB.2.2.1 h2
      exact ⟨a, b, ha, hb, e1, e2⟩
theorem mIn_in {a n : Nat} (hn : n ≤ 10) (h : a < n) : mIn (nI a) 0 (nI n - 1) = 1 := by
  unfold mIn
  rw [if_neg (nI_pos (by omega)), show nI n - 1 = nI (n - 1) from pk_sub (b := 1) (by omega), if_neg (nI_nlt (by omega) (by omega))]
theorem mCell_in {X Y a b : Nat} (hB : 1 ≤ X ∧ X ≤ 10 ∧ 1 ≤ Y ∧ Y ≤ 10) (ha : a < X) (hb : b < Y) : mCell X Y (nI a) (nI b) = 1 := by
  unfold mCell
  rw [mIn_in hB.2.1 ha, mIn_in hB.2.2.2 hb, if_neg (by decide), if_neg (by decide)]
theorem i10 {X Y i j : Nat} (hB : 1 ≤ X ∧ X ≤ 10 ∧ 1 ≤ Y ∧ Y ≤ 10) (hi : i < X) (hj : j < Y) : 10 * j + i < 100 := by omega
def wOf (τ : Nat → Nat → Int32) (i j : Nat) : Int32 := if τ 0 (10 * j + i) ≤ 0 then (-1000000) else τ 1 (10 * j + i)
def faceM (X Y : Nat) (τ : Nat → Nat → Int32) (sd k : Nat) : Int32 := if sd = 0 then wOf τ k 0 else if sd = 1 then wOf τ (X - 1) k else if sd = 2 then wOf τ k (Y - 1) else wOf τ 0 k
def mFlR (X Y : Nat) (τ : Nat → Nat → Int32) (sd j : Nat) (a : Int64) (n : Nat) : Int64 := fd (fun i a => if mBes X Y (nI sd) (nI i) (nI j) = 0 then a else a + (cpl (τ 0 (10 * j + i)) (τ 3 sd)).toInt64 * (τ 2 sd - τ 1 (10 * j + i)).toInt64) a n
def mFlI (X Y : Nat) (τ : Nat → Nat → Int32) (sd n : Nat) : Int64 := fd (fun j a => mFlR X Y τ sd j a X) 0 n
def mFl (X Y : Nat) (τ : Nat → Nat → Int32) (sd : Nat) : Int64 := mFlI X Y τ sd Y
theorem jn_if {α : Type} {c : Prop} [Decidable c] {a b d : α} (h1 : c → d = a) (h2 : ¬ c → d = b) : d = if c then a else b := by split; exact h1 ‹_›; exact h2 ‹_›
def ix (i j : Int32) : Nat := ((10 : Int32) * j + i).toNatClampNeg
theorem ix_e (a b : Nat) (ha : a < 10) (hb : b < 10) : ix (nI a) (nI b) = 10 * b + a := by
  unfold ix
  rw [show ((10 : Int32)) = nI 10 from rfl, pk_mul, nI_add, nI_clamp (by omega)]
def f_add (X Y : Nat) (τ : Nat → Nat → Int32) (own i j : Int32) (ℓ : Nat → Nat → Int64) : Nat → Nat → Int64 := if mCell X Y i j = 0 then ℓ else
  upL (upL ℓ 1 0 (ℓ 1 0 + (cpl own (τ 0 (ix i j))).toInt64 * (τ 1 (ix i j)).toInt64)) 1 1 (ℓ 1 1 + (cpl own (τ 0 (ix i j))).toInt64)
def f_mds (X Y : Nat) (τ : Nat → Nat → Int32) (i j : Nat) (sd : Nat) (ℓ : Nat → Nat → Int64) : Nat → Nat → Int64 :=
  upL (upL ℓ 1 0 (ℓ 1 0 + (if mBes X Y (nI sd) (nI i) (nI j) = 0 then 0 else cpl (τ 0 (10 * j + i)) (τ 3 sd)).toInt64 * (τ 2 sd).toInt64)) 1 1 (ℓ 1 1 + (if mBes X Y (nI sd) (nI i) (nI j) = 0 then 0 else cpl (τ 0 (10 * j + i)) (τ 3 sd)).toInt64)
def f_md4 (X Y : Nat) (τ : Nat → Nat → Int32) (i j : Nat) (ℓ : Nat → Nat → Int64) : Nat → Nat → Int64 :=
  f_add X Y τ (τ 0 (10 * j + i)) (nI i) (nI j + 1) (f_add X Y τ (τ 0 (10 * j + i)) (nI i) (nI j - 1) (f_add X Y τ (τ 0 (10 * j + i)) (nI i + 1) (nI j) (f_add X Y τ (τ 0 (10 * j + i)) (nI i - 1) (nI j) (upL (upL ℓ 1 0 0) 1 1 0))))
def n_md (X Y : Nat) (τ : Nat → Nat → Int32) (i j : Nat) (ℓ : Nat → Nat → Int64) (n : Nat) : Nat → Nat → Int64 := fd (fun sd ℓ => f_mds X Y τ i j sd ℓ) (f_md4 X Y τ i j ℓ) n
def f_made (X Y : Nat) (τ : Nat → Nat → Int32) (i j : Nat) (ℓ : Nat → Nat → Int64) : Nat → Nat → Int64 := n_md X Y τ i j ℓ 4
/-- rounded down -/
def flo (p w : Int64) : Int64 := if 0 ≤ lg_cmp p 0 then p / w else if lg_cmp (p / w * w) p = 0 then p / w else p / w - 1
def v_made (τ : Nat → Nat → Int32) (ℓ : Nat → Nat → Int64) : Int32 := if lg_cmp (ℓ 1 1) 0 = 0 then τ 5 2 else (flo (ℓ 1 0) (ℓ 1 1)).toInt32
theorem lg_ne {w : Int64} (h : ¬ lg_cmp w 0 = 0) : ¬ w = 0 := fun e => h (by rw [e]; decide)
def f_warmsV (X Y : Nat) (k : Nat) (p : (Nat → Nat → Int32) × (Nat → Nat → Int64)) : Int32 := v_made p.1 (f_made X Y p.1 (k % X) (k / X) p.2)
def wIx (X k : Nat) : Nat := 10 * (k / X) + k % X
/-- one cell: has it risen, and the state -/
def f_warms (X Y : Nat) (k : Nat) (p : (Nat → Nat → Int32) × (Nat → Nat → Int64)) : Int32 × ((Nat → Nat → Int32) × (Nat → Nat → Int64)) :=
  if p.1 0 (wIx X k) = 0 then (0, p) else if f_warmsV X Y k p ≤ p.1 1 (wIx X k) then (0, (up2 p.1 1 (wIx X k) (p.1 1 (wIx X k)), f_made X Y p.1 (k % X) (k / X) p.2))
  else (1, (up2 p.1 1 (wIx X k) (f_warmsV X Y k p), f_made X Y p.1 (k % X) (k / X) p.2))
theorem warms_01 (X Y k : Nat) (p : (Nat → Nat → Int32) × (Nat → Nat → Int64)) : (f_warms X Y k p).1 = 0 ∨ (f_warms X Y k p).1 = 1 := by
  unfold f_warms; split
  · exact Or.inl rfl
  · split
    · exact Or.inl rfl
    · exact Or.inr rfl
theorem warms_n (X Y k : Nat) (p : (Nat → Nat → Int32) × (Nat → Nat → Int64)) : narrow .boolean (.int (f_warms X Y k p).1) = .int (f_warms X Y k p).1 := by
  rcases warms_01 X Y k p with h | h <;> rw [h] <;> rfl
theorem km {X Y k : Nat} (hB : 1 ≤ X ∧ X ≤ 10 ∧ 1 ≤ Y ∧ Y ≤ 10) (hk : k < X * Y) : k % X < X ∧ k / X < Y ∧ k < 2 ^ 31 := by
  refine ⟨Nat.mod_lt _ (by omega), Nat.div_lt_of_lt_mul hk, ?_⟩
  have : X * Y ≤ 10 * 10 := Nat.mul_le_mul (by omega) (by omega)
  omega
abbrev MS : Type := (Nat → Nat → Int32) × (Nat → Nat → Int64)
def f_mlS (sd : Nat) (p : Int32 × (Nat → Nat → Int32)) : Int32 × (Nat → Nat → Int32) := if p.2 3 sd ≤ 0 then p else
  let τ1 := up2 p.2 5 2 (if p.1 = 0 then p.2 2 sd else if p.2 2 sd ≤ p.2 5 2 then p.2 2 sd else p.2 5 2)
  (1, up2 τ1 5 3 (if p.1 = 0 then τ1 2 sd else if τ1 5 3 ≤ τ1 2 sd then τ1 2 sd else τ1 5 3))
def n_ml (τ : Nat → Nat → Int32) (n : Nat) : Int32 × (Nat → Nat → Int32) := fd f_mlS (0, up2 (up2 (up2 τ 5 1 1) 5 2 0) 5 3 0) n
def n_mf (τ : Nat → Nat → Int32) (n : Nat) : Nat → Nat → Int32 := fd (fun k τ => up2 τ 1 k (τ 5 2)) τ n
def f_mst (τ : Nat → Nat → Int32) : Nat → Nat → Int32 := n_mf (n_ml τ 4).2 100
def f_go1 (X Y k : Nat) (p : Int32 × MS) : Int32 × MS := ((if (f_warms X Y k p.2).1 = 0 then if p.1 = 0 then 0 else 1 else 1), (f_warms X Y k p.2).2)
def n_up (X Y : Nat) (q : MS) (n : Nat) : Int32 × MS := fd (fun k p => f_go1 X Y k p) (0, q) n
def n_dn (X Y : Nat) (p : Int32 × MS) (n : Nat) : Int32 × MS := fd (fun t p => f_go1 X Y (X * Y - t - 1) p) p n
def f_rnd (X Y : Nat) (q : MS) : Int32 × MS := n_dn X Y (n_up X Y q (X * Y)) (X * Y)
def n_ms (X Y : Nat) (q : MS) (n : Nat) : Int32 × MS := fd (fun _ p => if p.1 = 0 then p else f_rnd X Y p.2) (1, q) n
theorem ms_stop {X Y : Nat} {q : MS} {i : Nat} (h : (n_ms X Y q i).1 = 0) : ∀ n, i ≤ n → n_ms X Y q n = n_ms X Y q i := by
  intro n hn
  induction n with
  | zero => have : i = 0 := by omega
            rw [this]
  | succ n ih =>
    rcases Nat.lt_or_ge n i with z | z
    · have : i = n + 1 := by omega
      rw [this]
    · have e := ih z
      show (if (n_ms X Y q n).1 = 0 then n_ms X Y q n else f_rnd X Y (n_ms X Y q n).2) = _
      rw [e, if_pos h]
def f_mset (X Y N : Nat) (q : MS) : MS := if q.1 5 1 = 0 then (n_ms X Y (f_mst q.1, q.2) N).2 else q
theorem mI_p {n t : Nat} (h : t < n) : mI (n - t) = nI (n - t - 1) := by
  unfold mI
  have := pk_m1 (n - t - 1)
  rw [show n - t - 1 + 1 = n - t by omega] at this
  exact this
theorem mI_sub (n : Nat) : nI n - 1 = mI (n - 0) := by unfold mI; rw [Nat.sub_zero, Int32.sub_eq_add_neg]
theorem mI_dec {n t : Nat} : nI (n - t - 1) + Int32.ofInt (-1) = mI (n - (t + 1)) := by
  unfold mI
  have : Int32.ofInt (-1) = (-1 : Int32) := by decide
  rw [this]; rfl
theorem XY_lt {X Y : Nat} (hB : 1 ≤ X ∧ X ≤ 10 ∧ 1 ≤ Y ∧ Y ≤ 10) : X * Y ≤ 100 := show X * Y ≤ 10 * 10 from Nat.mul_le_mul hB.2.1 hB.2.2.2
def vBox (X Y : Nat) (i0 j0 i1 j1 ld : Int32) : Int32 := if mCell X Y i0 j0 = 0 then 0 else if mCell X Y i1 j1 = 0 then 0 else if i1 < i0 then 0 else if j1 < j0 then 0 else if mIn ld 0 20 = 0 then 0 else 1
def vSide (s w f : Int32) : Int32 := if mIn s 0 3 = 0 then 0 else if mIn w (-10000) 10000 = 0 then 0 else if mIn f 0 20 = 0 then 0 else 1
def vTwo (s w : Int32) : Int32 := if mIn s 0 3 = 0 then 0 else if mIn w 0 1 = 0 then 0 else 1
def vJoint (n : Int32) : Int32 := if 10 ≤ n then 0 else 1
def vLen (n k m : Int32) : Int32 := if mIn k 0 (n - 1) = 0 then 0 else if mIn m 0 1000 = 0 then 0 else 1
def MT (X Y : Nat) (q : MS) (N : Nat) : Prop := q.1 5 1 = 0 → (n_ms X Y (f_mst q.1, q.2) N).1 = 0
def f_mbR (i0 j : Nat) (v : Int32) (τ : Nat → Nat → Int32) (n : Nat) : Nat → Nat → Int32 := fd (fun t τ => up2 τ 0 (10 * j + (i0 + t)) v) τ n
def f_mbA (i0 j0 w : Nat) (v : Int32) (τ : Nat → Nat → Int32) (n : Nat) : Nat → Nat → Int32 := fd (fun u τ => f_mbR i0 (j0 + u) v τ w) τ n
def f_mbox (i0 j0 i1 j1 : Nat) (v : Int32) (τ : Nat → Nat → Int32) : Nat → Nat → Int32 := f_mbA i0 j0 (i1 + 1 - i0) v (up2 (up2 τ 5 0 0) 5 1 0) (j1 + 1 - j0)
def n_mc (τ : Nat → Nat → Int32) (n : Nat) : Int32 := fd (fun k a => if τ 0 k ≤ 0 then a else a + 1) 0 n
def n_mh (X Y : Nat) (τ : Nat → Nat → Int32) (n : Nat) : Int64 := fd (fun sd a => if lg_cmp (mFl X Y τ sd) 0 ≤ 0 then a else a + mFl X Y τ sd) 0 n
/-- the loop of told: sum, how many alone, products and weights -/
abbrev TS : Type := Int64 × Int32 × (Nat → Nat → Int64)
def f_tdS (X Y : Nat) (τ : Nat → Nat → Int32) (j i : Nat) (p : TS) : TS := if τ 0 (10 * j + i) ≤ 0 then p else
  (p.1 + (τ 1 (10 * j + i)).toInt64, (if lg_cmp ((f_made X Y τ i j p.2.2) 1 1) 0 = 0 then p.2.1 + 1 else p.2.1), f_made X Y τ i j p.2.2)
def f_tdR (X Y : Nat) (τ : Nat → Nat → Int32) (j : Nat) (p : TS) (n : Nat) : TS := fd (fun i p => f_tdS X Y τ j i p) p n
def n_td (X Y : Nat) (τ : Nat → Nat → Int32) (ℓ : Nat → Nat → Int64) (n : Nat) : TS := fd (fun j p => f_tdR X Y τ j p X) (0, 0, ℓ) n
def coldG (w : Nat → Int32) (k : Nat) (b : Option Nat) : Option Nat := if w k = (-1000000) then b else match b with
  | none => some k
  | some q => if w q ≤ w k then b else some k
def n_mcd (X Y : Nat) (τ : Nat → Nat → Int32) (sd n : Nat) : Option Nat := fd (coldG (faceM X Y τ sd)) none n
theorem n_mcd_s (X Y : Nat) (τ : Nat → Nat → Int32) (sd k : Nat) : n_mcd X Y τ sd (k + 1) = coldG (faceM X Y τ sd) k (n_mcd X Y τ sd k) := rfl
theorem mcd_lt {w : Nat → Int32} {n q : Nat} (h : fd (coldG w) none n = some q) : q < n := by
  induction n generalizing q with
  | zero => cases h
  | succ n ih =>
    have h : coldG w n (fd (coldG w) none n) = some q := h
    unfold coldG at h
    split at h
    · have := ih h; omega
    · split at h
      · cases h; omega
      · split at h
        · have := ih h; omega
        · cases h; omega
def mCd (X Y : Nat) (τ : Nat → Nat → Int32) (sd : Nat) : Option Nat := n_mcd X Y τ sd (cAlong X Y sd)
theorem mod2 {sd : Nat} (h : sd < 4) : nI sd - nI sd / 2 * 2 = nI (sd % 2) := pk_rem (d := 2) (by omega) (by omega) (by omega)
theorem cA_e {X Y sd : Nat} (h : sd < 4) (c : nI (sd % 2) = 0) : nI X = nI (cAlong X Y sd) := by
  have h2 : sd % 2 = 0 := (nI_eq (b := 0) (by omega) (by omega)).mp c
  unfold cAlong; rcases (show sd = 0 ∨ sd = 2 by omega) with rfl | rfl <;> rfl
theorem cA_o {X Y sd : Nat} (h : sd < 4) (c : ¬ nI (sd % 2) = 0) : nI Y = nI (cAlong X Y sd) := by
  have h2 : sd % 2 ≠ 0 := fun e => c (by rw [e]; rfl)
  unfold cAlong; rcases (show sd = 1 ∨ sd = 3 by omega) with rfl | rfl <;> rfl
def mLeast (X Y : Nat) (τ : Nat → Nat → Int32) (sd wh : Nat) : Int32 := match mCd X Y τ sd with
  | none => (-1000000)
  | some q => if wh = 0 then faceM X Y τ sd q else nI q
def gS (p : Int32 × Int32) : Int32 × Int32 := if p.2 = 0 then p else (p.2, p.1 - p.1 / p.2 * p.2)
def n_g (a b : Int32) (n : Nat) : Int32 × Int32 := fd (fun _ p => gS p) (a, b) n
theorem g_stop {a b : Int32} {i : Nat} (h : (n_g a b i).2 = 0) : ∀ n, i ≤ n → n_g a b n = n_g a b i := by
  intro n hn
  induction n with
  | zero => have : i = 0 := by omega
            rw [this]
  | succ n ih =>
    rcases Nat.lt_or_ge n i with z | z
    · have : i = n + 1 := by omega
      rw [this]
    · have e := ih z
      show gS (n_g a b n) = _
      rw [e]; unfold gS; rw [if_pos h]
def mAb (X Y : Nat) (τ : Nat → Nat → Int32) (sd : Nat) : Int32 := if τ 5 3 = τ 5 2 then 0 else match mCd X Y τ sd with
  | none => 0
  | some q => faceM X Y τ sd q - τ 5 2
def mAl (X Y : Nat) (τ : Nat → Nat → Int32) (sd : Nat) : Int32 := match mCd X Y τ sd with
  | none => 1
  | some _ => if τ 5 3 = τ 5 2 then 1 else τ 5 3 - τ 5 2
def mG (X Y : Nat) (τ : Nat → Nat → Int32) (sd M : Nat) : Int32 := (n_g (mAb X Y τ sd) (mAl X Y τ sd) M).1
def n_mcoR (τ : Nat → Nat → Int32) (wt : Int32) (j : Nat) (a : Int32) (n : Nat) : Int32 := fd (fun i a => if τ 0 (10 * j + i) ≤ 0 then a else if wt ≤ τ 1 (10 * j + i) then a else a + 1) a n
def n_mco (X : Nat) (τ : Nat → Nat → Int32) (wt : Int32) (n : Nat) : Int32 := fd (fun j a => n_mcoR τ wt j a X) 0 n
def miR (X Y : Nat) (τ : Nat → Nat → Int32) (ax i j : Nat) : Int32 := if ax = 0 then wOf τ (X - 1 - i) j else wOf τ i (Y - 1 - j)
def n_mmiR (X Y : Nat) (τ : Nat → Nat → Int32) (ax j : Nat) (a : Int32) (n : Nat) : Int32 := fd (fun i a => if a = 0 then 0 else if wOf τ i j = miR X Y τ ax i j then 1 else 0) a n
def n_mmi (X Y : Nat) (τ : Nat → Nat → Int32) (ax n : Nat) : Int32 := fd (fun j a => n_mmiR X Y τ ax j a X) 1 n
theorem mmi_01 (X Y : Nat) (τ : Nat → Nat → Int32) (ax n : Nat) : n_mmi X Y τ ax n = 0 ∨ n_mmi X Y τ ax n = 1 := by
  have key : ∀ (j : Nat) (a : Int32) (n : Nat), a = 0 ∨ a = 1 → n_mmiR X Y τ ax j a n = 0 ∨ n_mmiR X Y τ ax j a n = 1 := by
    intro j a n h
    cases n with
    | zero => exact h
    | succ n =>
      show (if n_mmiR X Y τ ax j a n = 0 then (0 : Int32) else if wOf τ n j = miR X Y τ ax n j then 1 else 0) = 0 ∨ (if n_mmiR X Y τ ax j a n = 0 then (0 : Int32) else if wOf τ n j = miR X Y τ ax n j then 1 else 0) = 1
      split
      · exact Or.inl rfl
      · split
        · exact Or.inr rfl
        · exact Or.inl rfl
  induction n with
  | zero => exact Or.inr rfl
  | succ n ih => exact key n _ X ih
theorem mmi_n (X Y : Nat) (τ : Nat → Nat → Int32) (ax n : Nat) : narrow .boolean (.int (n_mmi X Y τ ax n)) = .int (n_mmi X Y τ ax n) := by
  rcases mmi_01 X Y τ ax n with h | h <;> rw [h] <;> rfl
def f_mj (q : MS) (h : Int64) (jn : Nat) : MS := (up2 (up2 q.1 4 jn 0) 5 4 (nI (jn + 1)), upL q.2 0 jn h)
def n_su (h : Nat → Int64) (w : Nat → Int32) (n : Nat) : Int64 := fd (fun k a => a + h k * (w k).toInt64) 0 n
