set_option maxHeartbeats 4000000 in
set_option maxRecDepth 100000 in
theorem k_X2_thrown (l : Launch) (D : va_G) (cI cJ : ClassId) (am : Nat → Nat) (X Y : Nat) (τ : Nat → Nat → Int32) (ℓ : Nat → Nat → Int64) (hB : 1 ≤ X ∧ X ≤ 10 ∧ 1 ≤ Y ∧ Y ≤ 10)   : rMet l yX2_thrown wsX2_thrown 0 0 D (tY cI cJ) (wM am cI cJ X Y τ ℓ) [.ref (am 6)] (.int (τ 5 0)) := by
  refine Met.ofW (cc := cX2_thrown) (maxL := 1) (ret := (some .int)) (by decide) rfl ?_
  intro p e s m args below meth c s₁ B hml hv
  obtain ⟨rfl, hP, hK⟩ := hv
  have hx := B.exec
  have hb := B.bytes
  have hr := B.returns
  have hts := atoms_spec (ws := wsX2_thrown) B.pre
  have hown : s.vm.findClass RX2 = some m.cls := findClass_of_methodNamed B.named
  have hlocks := B.notSynchronized
  have inX2 : ∀ w ∈ wsX20, w ∈ wsX2_thrown := by decide +kernel
  have fl36 := hts (.fieldLink RX2 36 "BridgeCellsModel" "fault" "I") (by decide +kernel)
  have hl := lv_entry ([.ref (am 6)]) (n := 1) (Nat.le_of_ble_eq_true rfl)
  rw [lg_entry_eq]
  generalize (lg_sl ([.ref (am 6)]) ++ List.replicate (1 - (lg_sl ([.ref (am 6)])).length) Slot.unset).toArray = ls at hl ⊢
  have hl : lv_has ls 1 [(0, .ref (am 6))] := hl
  refine lv_aload_n hx hb dX2_thrown_0 rfl (lv_at hl 0 rfl) ?_
  refine va_get (D := D) (cl := vwCl) (ci := 2) (v := .int (τ 5 0)) (C := RX2) (T := TX2) (N := 15) hx hb hts inX2 hown hK hP 0 rfl rfl 2 (by decide) fl36 (fun _ h9 => h9) rfl dX2_thrown_1 ?_
  exact W.iret hx hb hr (fun t ht _ => ⟨rfl, ht⟩) (fun q h => nomatch h) dX2_thrown_4
set_option maxHeartbeats 4000000 in
set_option maxRecDepth 100000 in
theorem k_X2_in (l : Launch) (D : va_G) (cI cJ : ClassId) (v a b : Int32)  : rMet l yX2_in wsX2_in 0 0 D (tY cI cJ) ([]) [.int v, .int a, .int b] (.int (mIn v a b)) := by
  refine Met.ofW (cc := cX2_in) (maxL := 3) (ret := (some .boolean)) (by decide) rfl ?_
  intro p e s m args below meth c s₁ B hml hv
  obtain ⟨rfl, hP, hK⟩ := hv
  have hx := B.exec
  have hb := B.bytes
  have hr := B.returns
  have hts := atoms_spec (ws := wsX2_in) B.pre
  have hown : s.vm.findClass RX2 = some m.cls := findClass_of_methodNamed B.named
  have hlocks := B.notSynchronized
  have hl := lv_entry ([.int v, .int a, .int b]) (n := 3) (Nat.le_of_ble_eq_true rfl)
  rw [lg_entry_eq]
  generalize (lg_sl ([.int v, .int a, .int b]) ++ List.replicate (3 - (lg_sl ([.int v, .int a, .int b])).length) Slot.unset).toArray = ls at hl ⊢
  have hl : lv_has ls 3 [(0, .int v), (1, .int a), (2, .int b)] := hl
  refine lv_iload_n hx hb dX2_in_0 rfl (lv_at hl 0 rfl) ?_
  refine lv_iload_n hx hb dX2_in_1 rfl (lv_at hl 1 rfl) ?_
  refine lv_icmp_lt (tgt := 14) hx hb dX2_in_2 (by decide) (fun c1 => ?_) (fun c1 => ?_)
  · -- 14
    refine lv_iconst (v := 0) hx hb dX2_in_14 (by decide) ?_
    refine top_eq (y := mIn v a b) (by unfold mIn; rw [if_pos c1]) ?_
    exact W.zret hx hb hr (mIn_n v a b) (fun t ht _ => ⟨rfl, ht⟩) (fun q h => nomatch h) dX2_in_15
  · -- 5
    refine lv_iload_n hx hb dX2_in_5 rfl (lv_at hl 0 rfl) ?_
    refine lv_iload_n hx hb dX2_in_6 rfl (lv_at hl 2 rfl) ?_
    refine lv_icmp_gt (tgt := 14) hx hb dX2_in_7 (by decide) (fun c2 => ?_) (fun c2 => ?_)
    · -- 14
      refine lv_iconst (v := 0) hx hb dX2_in_14 (by decide) ?_
      refine top_eq (y := mIn v a b) (by unfold mIn; rw [if_neg c1, if_pos c2]) ?_
      exact W.zret hx hb hr (mIn_n v a b) (fun t ht _ => ⟨rfl, ht⟩) (fun q h => nomatch h) dX2_in_15
    · -- 10
      refine lv_iconst (v := 1) hx hb dX2_in_10 (by decide) ?_
      refine lv_goto (tgt := 15) hx hb dX2_in_11 (by decide) ?_
      refine top_eq (y := mIn v a b) (by unfold mIn; rw [if_neg c1, if_neg c2]) ?_
      exact W.zret hx hb hr (mIn_n v a b) (fun t ht _ => ⟨rfl, ht⟩) (fun q h => nomatch h) dX2_in_15
set_option maxHeartbeats 4000000 in
set_option maxRecDepth 100000 in
theorem k_X2_isCell (l : Launch) (D : va_G) (cI cJ : ClassId) (am : Nat → Nat) (X Y : Nat) (τ : Nat → Nat → Int32) (ℓ : Nat → Nat → Int64) (hB : 1 ≤ X ∧ X ≤ 10 ∧ 1 ≤ Y ∧ Y ≤ 10) (i j : Int32)  : rMet l yX2_isCell wsX2_isCell 1 22 D (tY cI cJ) (wM am cI cJ X Y τ ℓ) [.ref (am 6), .int i, .int j] (.int (mCell X Y i j)) := by
  refine Met.ofW (cc := cX2_isCell) (maxL := 3) (ret := (some .boolean)) (by decide) rfl ?_
  intro p e s m args below meth c s₁ B hml hv
  obtain ⟨rfl, hP, hK⟩ := hv
  have hx := B.exec
  have hb := B.bytes
  have hr := B.returns
  have hts := atoms_spec (ws := wsX2_isCell) B.pre
  have hown : s.vm.findClass RX2 = some m.cls := findClass_of_methodNamed B.named
  have hlocks := B.notSynchronized
  have inX2 : ∀ w ∈ wsX20, w ∈ wsX2_isCell := by decide +kernel
  have fl29 := hts (.fieldLink RX2 29 "BridgeCellsModel" "wide" "I") (by decide +kernel)
  have fl33 := hts (.fieldLink RX2 33 "BridgeCellsModel" "high" "I") (by decide +kernel)
  have hl := lv_entry ([.ref (am 6), .int i, .int j]) (n := 3) (Nat.le_of_ble_eq_true rfl)
  rw [lg_entry_eq]
  generalize (lg_sl ([.ref (am 6), .int i, .int j]) ++ List.replicate (3 - (lg_sl ([.ref (am 6), .int i, .int j])).length) Slot.unset).toArray = ls at hl ⊢
  have hl : lv_has ls 3 [(0, .ref (am 6)), (1, .int i), (2, .int j)] := hl
  refine lv_iload_n hx hb dX2_isCell_0 rfl (lv_at hl 1 rfl) ?_
  refine lv_iconst (v := 0) hx hb dX2_isCell_1 (by decide) ?_
  refine lv_aload_n hx hb dX2_isCell_2 rfl (lv_at hl 0 rfl) ?_
  refine va_get (D := D) (cl := vwCl) (ci := 2) (v := .int (nI X)) (C := RX2) (T := TX2) (N := 15) hx hb hts inX2 hown hK hP 0 rfl rfl 0 (by decide) fl29 (fun _ h9 => h9) rfl dX2_isCell_3 ?_
  refine lv_iconst (v := 1) hx hb dX2_isCell_6 (by decide) ?_
  refine lv_isub hx hb dX2_isCell_7 ?_
  refine r_S ⟨hx, hb, hml, hown, hts⟩ (k_X2_in l D cI cJ i 0 ((nI X) - 1)) (va_cwS 3 hts gX2_isCell_X2_in rfl rfl rfl (by decide +kernel) ⟨Nat.le_of_ble_eq_true rfl, Nat.le_of_ble_eq_true rfl⟩) P_nil hK rfl hl.1 rfl (Nat.le_of_ble_eq_true rfl) dX2_isCell_8 (Nat.zero_le _) (Nat.zero_le _) ?_
  refine lv_if_eq (tgt := 32) hx hb dX2_isCell_11 (by decide) (fun c1 => ?_) (fun c1 => ?_)
  · -- 32
    refine lv_iconst (v := 0) hx hb dX2_isCell_32 (by decide) ?_
    refine top_eq (y := mCell X Y i j) (by unfold mCell; rw [if_pos c1]) ?_
    exact W.zret hx hb hr (mCell_n X Y i j) (fun t ht _ => ⟨rfl, ht⟩) (fun q h => nomatch h) dX2_isCell_33
  · -- 14
    refine lv_iload_n hx hb dX2_isCell_14 rfl (lv_at hl 2 rfl) ?_
    refine lv_iconst (v := 0) hx hb dX2_isCell_15 (by decide) ?_
    refine lv_aload_n hx hb dX2_isCell_16 rfl (lv_at hl 0 rfl) ?_
    refine va_get (D := D) (cl := vwCl) (ci := 2) (v := .int (nI Y)) (C := RX2) (T := TX2) (N := 15) hx hb hts inX2 hown hK hP 0 rfl rfl 1 (by decide) fl33 (fun _ h9 => h9) rfl dX2_isCell_17 ?_
    refine lv_iconst (v := 1) hx hb dX2_isCell_20 (by decide) ?_
    refine lv_isub hx hb dX2_isCell_21 ?_
    refine r_S ⟨hx, hb, hml, hown, hts⟩ (k_X2_in l D cI cJ j 0 ((nI Y) - 1)) (va_cwS 3 hts gX2_isCell_X2_in rfl rfl rfl (by decide +kernel) ⟨Nat.le_of_ble_eq_true rfl, Nat.le_of_ble_eq_true rfl⟩) P_nil hK rfl hl.1 rfl (Nat.le_of_ble_eq_true rfl) dX2_isCell_22 (Nat.zero_le _) (Nat.zero_le _) ?_
    refine lv_if_eq (tgt := 32) hx hb dX2_isCell_25 (by decide) (fun c2 => ?_) (fun c2 => ?_)
    · -- 32
      refine lv_iconst (v := 0) hx hb dX2_isCell_32 (by decide) ?_
      refine top_eq (y := mCell X Y i j) (by unfold mCell; rw [if_neg c1, if_pos c2]) ?_
      exact W.zret hx hb hr (mCell_n X Y i j) (fun t ht _ => ⟨rfl, ht⟩) (fun q h => nomatch h) dX2_isCell_33
    · -- 28
      refine lv_iconst (v := 1) hx hb dX2_isCell_28 (by decide) ?_
      refine lv_goto (tgt := 33) hx hb dX2_isCell_29 (by decide) ?_
      refine top_eq (y := mCell X Y i j) (by unfold mCell; rw [if_neg c1, if_neg c2]) ?_
      exact W.zret hx hb hr (mCell_n X Y i j) (fun t ht _ => ⟨rfl, ht⟩) (fun q h => nomatch h) dX2_isCell_33
set_option maxHeartbeats 4000000 in
set_option maxRecDepth 100000 in
theorem k_X2_together (l : Launch) (D : va_G) (cI cJ : ClassId) (a b : Int32)  : rMet l yX2_together wsX2_together 0 0 D (tY cI cJ) ([]) [.int a, .int b] (.int (cpl a b)) := by
  refine Met.ofW (cc := cX2_together) (maxL := 2) (ret := (some .int)) (by decide) rfl ?_
  intro p e s m args below meth c s₁ B hml hv
  obtain ⟨rfl, hP, hK⟩ := hv
  have hx := B.exec
  have hb := B.bytes
  have hr := B.returns
  have hts := atoms_spec (ws := wsX2_together) B.pre
  have hown : s.vm.findClass RX2 = some m.cls := findClass_of_methodNamed B.named
  have hlocks := B.notSynchronized
  have hl := lv_entry ([.int a, .int b]) (n := 2) (Nat.le_of_ble_eq_true rfl)
  rw [lg_entry_eq]
  generalize (lg_sl ([.int a, .int b]) ++ List.replicate (2 - (lg_sl ([.int a, .int b])).length) Slot.unset).toArray = ls at hl ⊢
  have hl : lv_has ls 2 [(0, .int a), (1, .int b)] := hl
  refine lv_iload_n hx hb dX2_together_0 rfl (lv_at hl 0 rfl) ?_
  refine lv_if_le (tgt := 20) hx hb dX2_together_1 (by decide) (fun c1 => ?_) (fun c1 => ?_)
  · -- 20
    refine lv_iconst (v := 0) hx hb dX2_together_20 (by decide) ?_
    refine top_eq (y := cpl a b) (by unfold cpl; rw [if_pos c1]) ?_
    exact W.iret hx hb hr (fun t ht _ => ⟨rfl, ht⟩) (fun q h => nomatch h) dX2_together_21
  · -- 4
    refine lv_iload_n hx hb dX2_together_4 rfl (lv_at hl 1 rfl) ?_
    refine lv_if_le (tgt := 20) hx hb dX2_together_5 (by decide) (fun c2 => ?_) (fun c2 => ?_)
    · -- 20
      refine lv_iconst (v := 0) hx hb dX2_together_20 (by decide) ?_
      refine top_eq (y := cpl a b) (by unfold cpl; rw [if_neg c1, if_pos c2]) ?_
      exact W.iret hx hb hr (fun t ht _ => ⟨rfl, ht⟩) (fun q h => nomatch h) dX2_together_21
    · -- 8
      refine lv_iconst (v := 2) hx hb dX2_together_8 (by decide) ?_
      refine lv_iload_n hx hb dX2_together_9 rfl (lv_at hl 0 rfl) ?_
      refine lv_imul hx hb dX2_together_10 ?_
      refine lv_iload_n hx hb dX2_together_11 rfl (lv_at hl 1 rfl) ?_
      refine lv_imul hx hb dX2_together_12 ?_
      refine lv_iload_n hx hb dX2_together_13 rfl (lv_at hl 0 rfl) ?_
      refine lv_iload_n hx hb dX2_together_14 rfl (lv_at hl 1 rfl) ?_
      refine lv_iadd hx hb dX2_together_15 ?_
      refine lv_idiv hx hb dX2_together_16 (cpl_ne c1 c2) ?_
      refine lv_goto (tgt := 21) hx hb dX2_together_17 (by decide) ?_
      refine top_eq (y := cpl a b) (by unfold cpl; rw [if_neg c1, if_neg c2]) ?_
      exact W.iret hx hb hr (fun t ht _ => ⟨rfl, ht⟩) (fun q h => nomatch h) dX2_together_21
set_option maxHeartbeats 4000000 in
set_option maxRecDepth 100000 in
theorem k_X2_isBeside (l : Launch) (D : va_G) (cI cJ : ClassId) (am : Nat → Nat) (X Y : Nat) (τ : Nat → Nat → Int32) (ℓ : Nat → Nat → Int64) (hB : 1 ≤ X ∧ X ≤ 10 ∧ 1 ≤ Y ∧ Y ≤ 10) (s0 i j : Int32)  : rMet l yX2_isBeside wsX2_isBeside 0 0 D (tY cI cJ) (wM am cI cJ X Y τ ℓ) [.ref (am 6), .int s0, .int i, .int j] (.int (mBes X Y s0 i j)) := by
  refine Met.ofW (cc := cX2_isBeside) (maxL := 4) (ret := (some .boolean)) (by decide) rfl ?_
  intro p e s m args below meth c s₁ B hml hv
  obtain ⟨rfl, hP, hK⟩ := hv
  have hx := B.exec
  have hb := B.bytes
  have hr := B.returns
  have hts := atoms_spec (ws := wsX2_isBeside) B.pre
  have hown : s.vm.findClass RX2 = some m.cls := findClass_of_methodNamed B.named
  have hlocks := B.notSynchronized
  have inX2 : ∀ w ∈ wsX20, w ∈ wsX2_isBeside := by decide +kernel
  have fl33 := hts (.fieldLink RX2 33 "BridgeCellsModel" "high" "I") (by decide +kernel)
  have fl29 := hts (.fieldLink RX2 29 "BridgeCellsModel" "wide" "I") (by decide +kernel)
  have hl := lv_entry ([.ref (am 6), .int s0, .int i, .int j]) (n := 4) (Nat.le_of_ble_eq_true rfl)
  rw [lg_entry_eq]
  generalize (lg_sl ([.ref (am 6), .int s0, .int i, .int j]) ++ List.replicate (4 - (lg_sl ([.ref (am 6), .int s0, .int i, .int j])).length) Slot.unset).toArray = ls at hl ⊢
  have hl : lv_has ls 4 [(0, .ref (am 6)), (1, .int s0), (2, .int i), (3, .int j)] := hl
  refine lv_iload_n hx hb dX2_isBeside_0 rfl (lv_at hl 1 rfl) ?_
  refine lv_if_ne (tgt := 16) hx hb dX2_isBeside_1 (by decide) (fun c1 => ?_) (fun c1 => ?_)
  · -- 16
    refine lv_iload_n hx hb dX2_isBeside_16 rfl (lv_at hl 1 rfl) ?_
    refine lv_iconst (v := 1) hx hb dX2_isBeside_17 (by decide) ?_
    refine lv_icmp_ne (tgt := 39) hx hb dX2_isBeside_18 (by decide) (fun c2 => ?_) (fun c2 => ?_)
    · -- 39
      refine lv_iload_n hx hb dX2_isBeside_39 rfl (lv_at hl 1 rfl) ?_
      refine lv_iconst (v := 2) hx hb dX2_isBeside_40 (by decide) ?_
      refine lv_icmp_ne (tgt := 62) hx hb dX2_isBeside_41 (by decide) (fun c3 => ?_) (fun c3 => ?_)
      · -- 62
        refine lv_iload_n hx hb dX2_isBeside_62 rfl (lv_at hl 2 rfl) ?_
        refine lv_if_ne (tgt := 70) hx hb dX2_isBeside_63 (by decide) (fun c4 => ?_) (fun c4 => ?_)
        · -- 70
          refine lv_iconst (v := 0) hx hb dX2_isBeside_70 (by decide) ?_
          refine top_eq (y := mBes X Y s0 i j) (by unfold mBes; rw [if_neg c1, if_neg c2, if_neg c3, if_neg c4]) ?_
          exact W.zret hx hb hr (mBes_n X Y s0 i j) (fun t ht _ => ⟨rfl, ht⟩) (fun q h => nomatch h) dX2_isBeside_71
        · -- 66
          refine lv_iconst (v := 1) hx hb dX2_isBeside_66 (by decide) ?_
          refine lv_goto (tgt := 71) hx hb dX2_isBeside_67 (by decide) ?_
          refine top_eq (y := mBes X Y s0 i j) (by unfold mBes; rw [if_neg c1, if_neg c2, if_neg c3, if_pos c4]) ?_
          exact W.zret hx hb hr (mBes_n X Y s0 i j) (fun t ht _ => ⟨rfl, ht⟩) (fun q h => nomatch h) dX2_isBeside_71
      · -- 44
        refine lv_iload_n hx hb dX2_isBeside_44 rfl (lv_at hl 3 rfl) ?_
        refine lv_aload_n hx hb dX2_isBeside_45 rfl (lv_at hl 0 rfl) ?_
        refine va_get (D := D) (cl := vwCl) (ci := 2) (v := .int (nI Y)) (C := RX2) (T := TX2) (N := 15) hx hb hts inX2 hown hK hP 0 rfl rfl 1 (by decide) fl33 (fun _ h9 => h9) rfl dX2_isBeside_46 ?_
        refine lv_iconst (v := 1) hx hb dX2_isBeside_49 (by decide) ?_
        refine lv_isub hx hb dX2_isBeside_50 ?_
        refine lv_icmp_ne (tgt := 58) hx hb dX2_isBeside_51 (by decide) (fun c5 => ?_) (fun c5 => ?_)
        · -- 58
          refine lv_iconst (v := 0) hx hb dX2_isBeside_58 (by decide) ?_
          refine lv_goto (tgt := 71) hx hb dX2_isBeside_59 (by decide) ?_
          refine top_eq (y := mBes X Y s0 i j) (by unfold mBes; rw [if_neg c1, if_neg c2, if_pos c3, if_neg c5]) ?_
          exact W.zret hx hb hr (mBes_n X Y s0 i j) (fun t ht _ => ⟨rfl, ht⟩) (fun q h => nomatch h) dX2_isBeside_71
        · -- 54
          refine lv_iconst (v := 1) hx hb dX2_isBeside_54 (by decide) ?_
          refine lv_goto (tgt := 71) hx hb dX2_isBeside_55 (by decide) ?_
          refine top_eq (y := mBes X Y s0 i j) (by unfold mBes; rw [if_neg c1, if_neg c2, if_pos c3, if_pos c5]) ?_
          exact W.zret hx hb hr (mBes_n X Y s0 i j) (fun t ht _ => ⟨rfl, ht⟩) (fun q h => nomatch h) dX2_isBeside_71
    · -- 21
      refine lv_iload_n hx hb dX2_isBeside_21 rfl (lv_at hl 2 rfl) ?_
      refine lv_aload_n hx hb dX2_isBeside_22 rfl (lv_at hl 0 rfl) ?_
      refine va_get (D := D) (cl := vwCl) (ci := 2) (v := .int (nI X)) (C := RX2) (T := TX2) (N := 15) hx hb hts inX2 hown hK hP 0 rfl rfl 0 (by decide) fl29 (fun _ h9 => h9) rfl dX2_isBeside_23 ?_
      refine lv_iconst (v := 1) hx hb dX2_isBeside_26 (by decide) ?_
      refine lv_isub hx hb dX2_isBeside_27 ?_
      refine lv_icmp_ne (tgt := 35) hx hb dX2_isBeside_28 (by decide) (fun c6 => ?_) (fun c6 => ?_)
      · -- 35
        refine lv_iconst (v := 0) hx hb dX2_isBeside_35 (by decide) ?_
        refine lv_goto (tgt := 71) hx hb dX2_isBeside_36 (by decide) ?_
        refine top_eq (y := mBes X Y s0 i j) (by unfold mBes; rw [if_neg c1, if_pos c2, if_neg c6]) ?_
        exact W.zret hx hb hr (mBes_n X Y s0 i j) (fun t ht _ => ⟨rfl, ht⟩) (fun q h => nomatch h) dX2_isBeside_71
      · -- 31
        refine lv_iconst (v := 1) hx hb dX2_isBeside_31 (by decide) ?_
        refine lv_goto (tgt := 71) hx hb dX2_isBeside_32 (by decide) ?_
        refine top_eq (y := mBes X Y s0 i j) (by unfold mBes; rw [if_neg c1, if_pos c2, if_pos c6]) ?_
        exact W.zret hx hb hr (mBes_n X Y s0 i j) (fun t ht _ => ⟨rfl, ht⟩) (fun q h => nomatch h) dX2_isBeside_71
  · -- 4
    refine lv_iload_n hx hb dX2_isBeside_4 rfl (lv_at hl 3 rfl) ?_
    refine lv_if_ne (tgt := 12) hx hb dX2_isBeside_5 (by decide) (fun c7 => ?_) (fun c7 => ?_)
    · -- 12
      refine lv_iconst (v := 0) hx hb dX2_isBeside_12 (by decide) ?_
      refine lv_goto (tgt := 71) hx hb dX2_isBeside_13 (by decide) ?_
      refine top_eq (y := mBes X Y s0 i j) (by unfold mBes; rw [if_pos c1, if_neg c7]) ?_
      exact W.zret hx hb hr (mBes_n X Y s0 i j) (fun t ht _ => ⟨rfl, ht⟩) (fun q h => nomatch h) dX2_isBeside_71
    · -- 8
      refine lv_iconst (v := 1) hx hb dX2_isBeside_8 (by decide) ?_
      refine lv_goto (tgt := 71) hx hb dX2_isBeside_9 (by decide) ?_
      refine top_eq (y := mBes X Y s0 i j) (by unfold mBes; rw [if_pos c1, if_pos c7]) ?_
      exact W.zret hx hb hr (mBes_n X Y s0 i j) (fun t ht _ => ⟨rfl, ht⟩) (fun q h => nomatch h) dX2_isBeside_71
set_option maxHeartbeats 4000000 in
set_option maxRecDepth 100000 in
theorem k_X2_warmthOf (l : Launch) (D : va_G) (cI cJ : ClassId) (am : Nat → Nat) (X Y : Nat) (τ : Nat → Nat → Int32) (ℓ : Nat → Nat → Int64) (hB : 1 ≤ X ∧ X ≤ 10 ∧ 1 ≤ Y ∧ Y ≤ 10) (i j : Nat) (hi : i < X) (hj : j < Y) : rMet l yX2_warmthOf wsX2_warmthOf 0 0 D (tY cI cJ) (wM am cI cJ X Y τ ℓ) [.ref (am 6), .int (nI i), .int (nI j)] (.int (wOf τ i j)) := by
  refine Met.ofW (cc := cX2_warmthOf) (maxL := 3) (ret := (some .int)) (by decide) rfl ?_
  intro p e s m args below meth c s₁ B hml hv
  obtain ⟨rfl, hP, hK⟩ := hv
  have hx := B.exec
  have hb := B.bytes
  have hr := B.returns
  have hts := atoms_spec (ws := wsX2_warmthOf) B.pre
  have hown : s.vm.findClass RX2 = some m.cls := findClass_of_methodNamed B.named
  have hlocks := B.notSynchronized
  have inX2 : ∀ w ∈ wsX20, w ∈ wsX2_warmthOf := by decide +kernel
  have fl7 := hts (.fieldLink RX2 7 "BridgeCellsModel" "leads" "[I") (by decide +kernel)
  have cn86 := hts (.constant RX2 86 (-1000000)) (by decide +kernel)
  have fl13 := hts (.fieldLink RX2 13 "BridgeCellsModel" "warm" "[I") (by decide +kernel)
  have hl := lv_entry ([.ref (am 6), .int (nI i), .int (nI j)]) (n := 3) (Nat.le_of_ble_eq_true rfl)
  rw [lg_entry_eq]
  generalize (lg_sl ([.ref (am 6), .int (nI i), .int (nI j)]) ++ List.replicate (3 - (lg_sl ([.ref (am 6), .int (nI i), .int (nI j)])).length) Slot.unset).toArray = ls at hl ⊢
  have hl : lv_has ls 3 [(0, .ref (am 6)), (1, .int (nI i)), (2, .int (nI j))] := hl
  refine lv_aload_n hx hb dX2_warmthOf_0 rfl (lv_at hl 0 rfl) ?_
  refine va_get (D := D) (cl := vwCl) (ci := 2) (v := .ref (am 0)) (C := RX2) (T := TX2) (N := 15) hx hb hts inX2 hown hK hP 0 rfl rfl 3 (by decide) fl7 (fun _ h9 => h9) rfl dX2_warmthOf_1 ?_
  refine lv_bipush (v := nI 10) hx hb dX2_warmthOf_4 (by decide) ?_
  refine lv_iload_n hx hb dX2_warmthOf_6 rfl (lv_at hl 2 rfl) ?_
  refine lv_imul hx hb dX2_warmthOf_7 ?_
  refine top_eq (y := nI (10 * j)) (pk_mul 10 j) ?_
  refine lv_iload_n hx hb dX2_warmthOf_8 rfl (lv_at hl 1 rfl) ?_
  refine lv_iadd hx hb dX2_warmthOf_9 ?_
  refine top_eq (y := nI ((10 * j) + i)) (nI_add (10 * j) i) ?_
  refine a_ld hx hb hK hP 1 0 rfl rfl ((10 * j) + i) (rfl) (i10 hB hi hj) (by decide) dX2_warmthOf_10 ?_
  refine lv_if_le (tgt := 28) hx hb dX2_warmthOf_11 (by decide) (fun c1 => ?_) (fun c1 => ?_)
  · -- 28
    refine lv_ldc hx hb hown cn86 dX2_warmthOf_28 ?_
    refine top_eq (y := wOf τ i j) (by unfold wOf; rw [if_pos c1]) ?_
    exact W.iret hx hb hr (fun t ht _ => ⟨rfl, ht⟩) (fun q h => nomatch h) dX2_warmthOf_30
  · -- 14
    refine lv_aload_n hx hb dX2_warmthOf_14 rfl (lv_at hl 0 rfl) ?_
    refine va_get (D := D) (cl := vwCl) (ci := 2) (v := .ref (am 1)) (C := RX2) (T := TX2) (N := 15) hx hb hts inX2 hown hK hP 0 rfl rfl 4 (by decide) fl13 (fun _ h9 => h9) rfl dX2_warmthOf_15 ?_
    refine lv_bipush (v := nI 10) hx hb dX2_warmthOf_18 (by decide) ?_
    refine lv_iload_n hx hb dX2_warmthOf_20 rfl (lv_at hl 2 rfl) ?_
    refine lv_imul hx hb dX2_warmthOf_21 ?_
    refine top_eq (y := nI (10 * j)) (pk_mul 10 j) ?_
    refine lv_iload_n hx hb dX2_warmthOf_22 rfl (lv_at hl 1 rfl) ?_
    refine lv_iadd hx hb dX2_warmthOf_23 ?_
    refine top_eq (y := nI ((10 * j) + i)) (nI_add (10 * j) i) ?_
    refine a_ld hx hb hK hP 2 0 rfl rfl ((10 * j) + i) (rfl) (i10 hB hi hj) (by decide) dX2_warmthOf_24 ?_
    refine lv_goto (tgt := 30) hx hb dX2_warmthOf_25 (by decide) ?_
    refine top_eq (y := wOf τ i j) (by unfold wOf; rw [if_neg c1]) ?_
    exact W.iret hx hb hr (fun t ht _ => ⟨rfl, ht⟩) (fun q h => nomatch h) dX2_warmthOf_30
set_option maxHeartbeats 4000000 in
set_option maxRecDepth 100000 in
theorem k_X2_faceOf (l : Launch) (D : va_G) (cI cJ : ClassId) (am : Nat → Nat) (X Y : Nat) (τ : Nat → Nat → Int32) (ℓ : Nat → Nat → Int64) (hB : 1 ≤ X ∧ X ≤ 10 ∧ 1 ≤ Y ∧ Y ≤ 10) (sd k : Nat) (hsd : sd < 4) (hk : k < cAlong X Y sd) : rMet l yX2_faceOf wsX2_faceOf 1 22 D (tY cI cJ) (wM am cI cJ X Y τ ℓ) [.ref (am 6), .int (nI sd), .int (nI k)] (.int (faceM X Y τ sd k)) := by
  refine Met.ofW (cc := cX2_faceOf) (maxL := 3) (ret := (some .int)) (by decide) rfl ?_
  intro p e s m args below meth c s₁ B hml hv
  obtain ⟨rfl, hP, hK⟩ := hv
  have hx := B.exec
  have hb := B.bytes
  have hr := B.returns
  have hts := atoms_spec (ws := wsX2_faceOf) B.pre
  have hown : s.vm.findClass RX2 = some m.cls := findClass_of_methodNamed B.named
  have hlocks := B.notSynchronized
  have inX2 : ∀ w ∈ wsX20, w ∈ wsX2_faceOf := by decide +kernel
  have fl29 := hts (.fieldLink RX2 29 "BridgeCellsModel" "wide" "I") (by decide +kernel)
  have fl33 := hts (.fieldLink RX2 33 "BridgeCellsModel" "high" "I") (by decide +kernel)
  have hl := lv_entry ([.ref (am 6), .int (nI sd), .int (nI k)]) (n := 3) (Nat.le_of_ble_eq_true rfl)
  rw [lg_entry_eq]
  generalize (lg_sl ([.ref (am 6), .int (nI sd), .int (nI k)]) ++ List.replicate (3 - (lg_sl ([.ref (am 6), .int (nI sd), .int (nI k)])).length) Slot.unset).toArray = ls at hl ⊢
  have hl : lv_has ls 3 [(0, .ref (am 6)), (1, .int (nI sd)), (2, .int (nI k))] := hl
  rcases (show sd = 0 ∨ sd = 1 ∨ sd = 2 ∨ sd = 3 by omega) with rfl | rfl | rfl | rfl
  · -- side 0
    have hk : k < X := hk
    refine lv_iload_n hx hb dX2_faceOf_0 rfl (lv_at hl 1 rfl) ?_
    refine lv_if_ne (tgt := 13) hx hb dX2_faceOf_1 (by decide) (fun c9 => False.elim (c9 rfl)) (fun _ => ?_)
    refine lv_aload_n hx hb dX2_faceOf_4 rfl (lv_at hl 0 rfl) ?_
    refine lv_iload_n hx hb dX2_faceOf_5 rfl (lv_at hl 2 rfl) ?_
    refine lv_iconst (v := nI 0) hx hb dX2_faceOf_6 (by decide) ?_
    refine r_V ⟨hx, hb, hml, hown, hts⟩ (k_X2_warmthOf l D cI cJ am X Y τ ℓ hB k 0 (hk) (hB.2.2.1)) (cwV 2 hts gX2_faceOf_X2_warmthOf rfl rfl rfl (by decide +kernel) ⟨Nat.le_of_ble_eq_true rfl, Nat.le_of_ble_eq_true rfl⟩) hP hK (va_recv hK hP (ci := 2) (q0 := 0) rfl rfl) rfl hl.1 rfl (Nat.le_of_ble_eq_true rfl) dX2_faceOf_7 (Nat.zero_le _) (Nat.zero_le _) ?_
    refine lv_goto (tgt := 57) hx hb dX2_faceOf_10 (by decide) ?_
    exact W.iret hx hb hr (fun t ht _ => ⟨rfl, ht⟩) (fun q h => nomatch h) dX2_faceOf_57
  · -- side 1
    have hk : k < Y := hk
    refine lv_iload_n hx hb dX2_faceOf_0 rfl (lv_at hl 1 rfl) ?_
    refine lv_if_ne (tgt := 13) hx hb dX2_faceOf_1 (by decide) (fun _ => ?_) (fun c9 => False.elim (absurd c9 (by decide)))
    refine lv_iload_n hx hb dX2_faceOf_13 rfl (lv_at hl 1 rfl) ?_
    refine lv_iconst (v := 1) hx hb dX2_faceOf_14 (by decide) ?_
    refine lv_icmp_ne (tgt := 32) hx hb dX2_faceOf_15 (by decide) (fun c9 => False.elim (c9 rfl)) (fun _ => ?_)
    refine lv_aload_n hx hb dX2_faceOf_18 rfl (lv_at hl 0 rfl) ?_
    refine lv_aload_n hx hb dX2_faceOf_19 rfl (lv_at hl 0 rfl) ?_
    refine va_get (D := D) (cl := vwCl) (ci := 2) (v := .int (nI X)) (C := RX2) (T := TX2) (N := 15) hx hb hts inX2 hown hK hP 0 rfl rfl 0 (by decide) fl29 (fun _ h9 => h9) rfl dX2_faceOf_20 ?_
    refine lv_iconst (v := 1) hx hb dX2_faceOf_23 (by decide) ?_
    refine lv_isub hx hb dX2_faceOf_24 ?_
    refine top_eq (y := nI (X - 1)) (pk_sub (b := 1) hB.1) ?_
    refine lv_iload_n hx hb dX2_faceOf_25 rfl (lv_at hl 2 rfl) ?_
    refine r_V ⟨hx, hb, hml, hown, hts⟩ (k_X2_warmthOf l D cI cJ am X Y τ ℓ hB (X - 1) k (show X - 1 < X by omega) (hk)) (cwV 2 hts gX2_faceOf_X2_warmthOf rfl rfl rfl (by decide +kernel) ⟨Nat.le_of_ble_eq_true rfl, Nat.le_of_ble_eq_true rfl⟩) hP hK (va_recv hK hP (ci := 2) (q0 := 0) rfl rfl) rfl hl.1 rfl (Nat.le_of_ble_eq_true rfl) dX2_faceOf_26 (Nat.zero_le _) (Nat.zero_le _) ?_
    refine lv_goto (tgt := 57) hx hb dX2_faceOf_29 (by decide) ?_
    exact W.iret hx hb hr (fun t ht _ => ⟨rfl, ht⟩) (fun q h => nomatch h) dX2_faceOf_57
  · -- side 2
    have hk : k < X := hk
    refine lv_iload_n hx hb dX2_faceOf_0 rfl (lv_at hl 1 rfl) ?_
    refine lv_if_ne (tgt := 13) hx hb dX2_faceOf_1 (by decide) (fun _ => ?_) (fun c9 => False.elim (absurd c9 (by decide)))
    refine lv_iload_n hx hb dX2_faceOf_13 rfl (lv_at hl 1 rfl) ?_
    refine lv_iconst (v := 1) hx hb dX2_faceOf_14 (by decide) ?_
    refine lv_icmp_ne (tgt := 32) hx hb dX2_faceOf_15 (by decide) (fun _ => ?_) (fun c9 => False.elim (absurd c9 (by decide)))
    refine lv_iload_n hx hb dX2_faceOf_32 rfl (lv_at hl 1 rfl) ?_
    refine lv_iconst (v := 2) hx hb dX2_faceOf_33 (by decide) ?_
    refine lv_icmp_ne (tgt := 51) hx hb dX2_faceOf_34 (by decide) (fun c9 => False.elim (c9 rfl)) (fun _ => ?_)
    refine lv_aload_n hx hb dX2_faceOf_37 rfl (lv_at hl 0 rfl) ?_
    refine lv_iload_n hx hb dX2_faceOf_38 rfl (lv_at hl 2 rfl) ?_
    refine lv_aload_n hx hb dX2_faceOf_39 rfl (lv_at hl 0 rfl) ?_
    refine va_get (D := D) (cl := vwCl) (ci := 2) (v := .int (nI Y)) (C := RX2) (T := TX2) (N := 15) hx hb hts inX2 hown hK hP 0 rfl rfl 1 (by decide) fl33 (fun _ h9 => h9) rfl dX2_faceOf_40 ?_
    refine lv_iconst (v := 1) hx hb dX2_faceOf_43 (by decide) ?_
    refine lv_isub hx hb dX2_faceOf_44 ?_
    refine top_eq (y := nI (Y - 1)) (pk_sub (b := 1) hB.2.2.1) ?_
    refine r_V ⟨hx, hb, hml, hown, hts⟩ (k_X2_warmthOf l D cI cJ am X Y τ ℓ hB k (Y - 1) (hk) (show Y - 1 < Y by omega)) (cwV 2 hts gX2_faceOf_X2_warmthOf rfl rfl rfl (by decide +kernel) ⟨Nat.le_of_ble_eq_true rfl, Nat.le_of_ble_eq_true rfl⟩) hP hK (va_recv hK hP (ci := 2) (q0 := 0) rfl rfl) rfl hl.1 rfl (Nat.le_of_ble_eq_true rfl) dX2_faceOf_45 (Nat.zero_le _) (Nat.zero_le _) ?_
    refine lv_goto (tgt := 57) hx hb dX2_faceOf_48 (by decide) ?_
    exact W.iret hx hb hr (fun t ht _ => ⟨rfl, ht⟩) (fun q h => nomatch h) dX2_faceOf_57
  · -- side 3
    have hk : k < Y := hk
    refine lv_iload_n hx hb dX2_faceOf_0 rfl (lv_at hl 1 rfl) ?_
    refine lv_if_ne (tgt := 13) hx hb dX2_faceOf_1 (by decide) (fun _ => ?_) (fun c9 => False.elim (absurd c9 (by decide)))
    refine lv_iload_n hx hb dX2_faceOf_13 rfl (lv_at hl 1 rfl) ?_
    refine lv_iconst (v := 1) hx hb dX2_faceOf_14 (by decide) ?_
    refine lv_icmp_ne (tgt := 32) hx hb dX2_faceOf_15 (by decide) (fun _ => ?_) (fun c9 => False.elim (absurd c9 (by decide)))
    refine lv_iload_n hx hb dX2_faceOf_32 rfl (lv_at hl 1 rfl) ?_
    refine lv_iconst (v := 2) hx hb dX2_faceOf_33 (by decide) ?_
    refine lv_icmp_ne (tgt := 51) hx hb dX2_faceOf_34 (by decide) (fun _ => ?_) (fun c9 => False.elim (absurd c9 (by decide)))
    refine lv_aload_n hx hb dX2_faceOf_51 rfl (lv_at hl 0 rfl) ?_
    refine lv_iconst (v := nI 0) hx hb dX2_faceOf_52 (by decide) ?_
    refine lv_iload_n hx hb dX2_faceOf_53 rfl (lv_at hl 2 rfl) ?_
    refine r_V ⟨hx, hb, hml, hown, hts⟩ (k_X2_warmthOf l D cI cJ am X Y τ ℓ hB 0 k (hB.1) (hk)) (cwV 2 hts gX2_faceOf_X2_warmthOf rfl rfl rfl (by decide +kernel) ⟨Nat.le_of_ble_eq_true rfl, Nat.le_of_ble_eq_true rfl⟩) hP hK (va_recv hK hP (ci := 2) (q0 := 0) rfl rfl) rfl hl.1 rfl (Nat.le_of_ble_eq_true rfl) dX2_faceOf_54 (Nat.zero_le _) (Nat.zero_le _) ?_
    exact W.iret hx hb hr (fun t ht _ => ⟨rfl, ht⟩) (fun q h => nomatch h) dX2_faceOf_57
set_option maxHeartbeats 4000000 in
set_option maxRecDepth 100000 in
theorem k_X2_flowOf (l : Launch) (D : va_G) (cI cJ : ClassId) (am : Nat → Nat) (X Y : Nat) (τ : Nat → Nat → Int32) (ℓ : Nat → Nat → Int64) (hB : 1 ≤ X ∧ X ≤ 10 ∧ 1 ≤ Y ∧ Y ≤ 10) (sd : Nat) (hsd : sd < 4) : rMet l yX2_flowOf wsX2_flowOf 1 23 D (tY cI cJ) (wM am cI cJ X Y τ ℓ) [.ref (am 6), .int (nI sd)] (.long (mFl X Y τ sd)) := by
  refine Met.ofW (cc := cX2_flowOf) (maxL := 6) (ret := (some .long)) (by decide) rfl ?_
  intro p e s m args below meth c s₁ B hml hv
  obtain ⟨rfl, hP, hK⟩ := hv
  have hx := B.exec
  have hb := B.bytes
  have hr := B.returns
  have hts := atoms_spec (ws := wsX2_flowOf) B.pre
  have hown : s.vm.findClass RX2 = some m.cls := findClass_of_methodNamed B.named
  have hlocks := B.notSynchronized
  have inX2 : ∀ w ∈ wsX20, w ∈ wsX2_flowOf := by decide +kernel
  have fl33 := hts (.fieldLink RX2 33 "BridgeCellsModel" "high" "I") (by decide +kernel)
  have fl29 := hts (.fieldLink RX2 29 "BridgeCellsModel" "wide" "I") (by decide +kernel)
  have fl7 := hts (.fieldLink RX2 7 "BridgeCellsModel" "leads" "[I") (by decide +kernel)
  have fl19 := hts (.fieldLink RX2 19 "BridgeCellsModel" "film" "[I") (by decide +kernel)
  have fl16 := hts (.fieldLink RX2 16 "BridgeCellsModel" "sideWarm" "[I") (by decide +kernel)
  have fl13 := hts (.fieldLink RX2 13 "BridgeCellsModel" "warm" "[I") (by decide +kernel)
  have hl := lv_entry ([.ref (am 6), .int (nI sd)]) (n := 6) (Nat.le_of_ble_eq_true rfl)
  rw [lg_entry_eq]
  generalize (lg_sl ([.ref (am 6), .int (nI sd)]) ++ List.replicate (6 - (lg_sl ([.ref (am 6), .int (nI sd)])).length) Slot.unset).toArray = ls at hl ⊢
  have hl : lv_has ls 6 [(0, .ref (am 6)), (1, .int (nI sd))] := hl
  refine lv_lconst (v := 0) hx hb dX2_flowOf_0 (by decide) ?_
  refine lv_lstore_n (lv' := [(2, .long 0), (0, .ref (am 6)), (1, .int (nI sd))]) hx hb dX2_flowOf_1 rfl hl (by decide) rfl (fun ls hl => ?_)
  refine lv_iconst (v := nI 0) hx hb dX2_flowOf_2 (by decide) ?_
  refine lv_istore (lv' := [(4, .int (nI 0)), (2, .long 0), (0, .ref (am 6)), (1, .int (nI sd))]) hx hb dX2_flowOf_3 hl (by decide) rfl (fun ls hl => ?_)
  refine W_lr (fun j ls => lv_has ls 6 [(2, .long (mFlI X Y τ sd j)), (4, .int (nI j)), (0, .ref (am 6)), (1, .int (nI sd))]) (Y) (0) (Nat.zero_le _) (lv_sub hl [1, 0, 2, 3] rfl) (fun ls hl => ?_) (fun j ls hj hl ih1 => ?_)
  · -- behind the loop
    refine lv_iload hx hb dX2_flowOf_5 (lv_at hl 1 rfl) ?_
    refine lv_aload_n hx hb dX2_flowOf_7 rfl (lv_at hl 2 rfl) ?_
    refine va_get (D := D) (cl := vwCl) (ci := 2) (v := .int (nI Y)) (C := RX2) (T := TX2) (N := 15) hx hb hts inX2 hown hK hP 0 rfl rfl 1 (by decide) fl33 (fun _ h9 => h9) rfl dX2_flowOf_8 ?_
    refine lv_icmp_ge (tgt := 98) hx hb dX2_flowOf_11 (by decide) (fun _ => ?_) (fun c9 => False.elim (c9 (nI_le (Nat.le_refl _) (by omega))))
    refine lv_lload_n hx hb dX2_flowOf_98 rfl (lv_at hl 0 rfl) ?_
    exact W.lret hx hb hr (fun t ht _ => ⟨rfl, ht⟩) (fun q h => nomatch h) dX2_flowOf_99
  · -- one round
    refine lv_iload hx hb dX2_flowOf_5 (lv_at hl 1 rfl) ?_
    refine lv_aload_n hx hb dX2_flowOf_7 rfl (lv_at hl 2 rfl) ?_
    refine va_get (D := D) (cl := vwCl) (ci := 2) (v := .int (nI Y)) (C := RX2) (T := TX2) (N := 15) hx hb hts inX2 hown hK hP 0 rfl rfl 1 (by decide) fl33 (fun _ h9 => h9) rfl dX2_flowOf_8 ?_
    refine lv_icmp_ge (tgt := 98) hx hb dX2_flowOf_11 (by decide) (fun c9 => False.elim (nI_ge hj (by omega) c9)) (fun _ => ?_)
    refine lv_iconst (v := nI 0) hx hb dX2_flowOf_14 (by decide) ?_
    refine lv_istore (lv' := [(5, .int (nI 0)), (2, .long (mFlI X Y τ sd j)), (4, .int (nI j)), (0, .ref (am 6)), (1, .int (nI sd))]) hx hb dX2_flowOf_15 hl (by decide) rfl (fun ls hl => ?_)
    refine W_lr (fun i ls => lv_has ls 6 [(2, .long (mFlR X Y τ sd j (mFlI X Y τ sd j) i)), (4, .int (nI j)), (5, .int (nI i)), (0, .ref (am 6)), (1, .int (nI sd))]) (X) (0) (Nat.zero_le _) (lv_sub hl [1, 2, 0, 3, 4] rfl) (fun ls hl => ?_) (fun i ls hi hl ih2 => ?_)
    · -- behind the loop
      refine lv_iload hx hb dX2_flowOf_17 (lv_at hl 2 rfl) ?_
      refine lv_aload_n hx hb dX2_flowOf_19 rfl (lv_at hl 3 rfl) ?_
      refine va_get (D := D) (cl := vwCl) (ci := 2) (v := .int (nI X)) (C := RX2) (T := TX2) (N := 15) hx hb hts inX2 hown hK hP 0 rfl rfl 0 (by decide) fl29 (fun _ h9 => h9) rfl dX2_flowOf_20 ?_
      refine lv_icmp_ge (tgt := 92) hx hb dX2_flowOf_23 (by decide) (fun _ => ?_) (fun c9 => False.elim (c9 (nI_le (Nat.le_refl _) (by omega))))
      refine a_inc hx hb (k := 1) (lv' := [(4, .int (nI (j + 1))), (2, .long (mFlR X Y τ sd j (mFlI X Y τ sd j) X)), (5, .int (nI X)), (0, .ref (am 6)), (1, .int (nI sd))]) j dX2_flowOf_92 hl rfl (by decide) rfl (fun ls hl => ?_)
      refine lv_goto (tgt := 5) hx hb dX2_flowOf_95 (by decide) ?_
      exact ih1 _ (lv_sub hl [1, 0, 3, 4] rfl)
    · -- one round
      refine lv_iload hx hb dX2_flowOf_17 (lv_at hl 2 rfl) ?_
      refine lv_aload_n hx hb dX2_flowOf_19 rfl (lv_at hl 3 rfl) ?_
      refine va_get (D := D) (cl := vwCl) (ci := 2) (v := .int (nI X)) (C := RX2) (T := TX2) (N := 15) hx hb hts inX2 hown hK hP 0 rfl rfl 0 (by decide) fl29 (fun _ h9 => h9) rfl dX2_flowOf_20 ?_
      refine lv_icmp_ge (tgt := 92) hx hb dX2_flowOf_23 (by decide) (fun c9 => False.elim (nI_ge hi (by omega) c9)) (fun _ => ?_)
      refine lv_aload_n hx hb dX2_flowOf_26 rfl (lv_at hl 3 rfl) ?_
      refine lv_iload_n hx hb dX2_flowOf_27 rfl (lv_at hl 4 rfl) ?_
      refine lv_iload hx hb dX2_flowOf_28 (lv_at hl 2 rfl) ?_
      refine lv_iload hx hb dX2_flowOf_30 (lv_at hl 1 rfl) ?_
      refine r_V ⟨hx, hb, hml, hown, hts⟩ (k_X2_isBeside l D cI cJ am X Y τ ℓ hB (nI sd) (nI i) (nI j) ) (cwV 3 hts gX2_flowOf_X2_isBeside rfl rfl rfl (by decide +kernel) ⟨Nat.le_of_ble_eq_true rfl, Nat.le_of_ble_eq_true rfl⟩) hP hK (va_recv hK hP (ci := 2) (q0 := 0) rfl rfl) rfl hl.1 rfl (Nat.le_of_ble_eq_true rfl) dX2_flowOf_32 (Nat.zero_le _) (Nat.zero_le _) ?_
      refine lv_if_eq (tgt := 86) hx hb dX2_flowOf_35 (by decide) (fun c35 => ?_) (fun c35 => ?_)
      · -- 86
        refine a_inc hx hb (k := 2) (lv' := [(5, .int (nI (i + 1))), (2, .long (mFlR X Y τ sd j (mFlI X Y τ sd j) i)), (4, .int (nI j)), (0, .ref (am 6)), (1, .int (nI sd))]) i dX2_flowOf_86 hl rfl (by decide) rfl (fun ls hl => ?_)
        refine lv_goto (tgt := 17) hx hb dX2_flowOf_89 (by decide) ?_
        have e9 : mFlR X Y τ sd j (mFlI X Y τ sd j) (i + 1) = mFlR X Y τ sd j (mFlI X Y τ sd j) i := if_pos c35
        exact ih2 _ (by rw [e9]; exact lv_sub hl [1, 2, 0, 3, 4] rfl)
      · -- 38
        refine lv_lload_n hx hb dX2_flowOf_38 rfl (lv_at hl 0 rfl) ?_
        refine lv_aload_n hx hb dX2_flowOf_39 rfl (lv_at hl 3 rfl) ?_
        refine va_get (D := D) (cl := vwCl) (ci := 2) (v := .ref (am 0)) (C := RX2) (T := TX2) (N := 15) hx hb hts inX2 hown hK hP 0 rfl rfl 3 (by decide) fl7 (fun _ h9 => h9) rfl dX2_flowOf_40 ?_
        refine lv_bipush (v := nI 10) hx hb dX2_flowOf_43 (by decide) ?_
        refine lv_iload hx hb dX2_flowOf_45 (lv_at hl 1 rfl) ?_
        refine lv_imul hx hb dX2_flowOf_47 ?_
        refine top_eq (y := nI (10 * j)) (pk_mul 10 j) ?_
        refine lv_iload hx hb dX2_flowOf_48 (lv_at hl 2 rfl) ?_
        refine lv_iadd hx hb dX2_flowOf_50 ?_
        refine top_eq (y := nI ((10 * j) + i)) (nI_add (10 * j) i) ?_
        refine a_ld hx hb hK hP 1 0 rfl rfl ((10 * j) + i) (rfl) (i10 hB hi hj) (by decide) dX2_flowOf_51 ?_
        refine lv_aload_n hx hb dX2_flowOf_52 rfl (lv_at hl 3 rfl) ?_
        refine va_get (D := D) (cl := vwCl) (ci := 2) (v := .ref (am 3)) (C := RX2) (T := TX2) (N := 15) hx hb hts inX2 hown hK hP 0 rfl rfl 6 (by decide) fl19 (fun _ h9 => h9) rfl dX2_flowOf_53 ?_
        refine lv_iload_n hx hb dX2_flowOf_56 rfl (lv_at hl 4 rfl) ?_
        refine a_ld hx hb hK hP 4 0 rfl rfl sd (rfl) (hsd) (by decide) dX2_flowOf_57 ?_
        refine r_S ⟨hx, hb, hml, hown, hts⟩ (k_X2_together l D cI cJ (τ 0 ((10 * j) + i)) (τ 3 sd)) (va_cwS 2 hts gX2_flowOf_X2_together rfl rfl rfl (by decide +kernel) ⟨Nat.le_of_ble_eq_true rfl, Nat.le_of_ble_eq_true rfl⟩) P_nil hK rfl hl.1 rfl (Nat.le_of_ble_eq_true rfl) dX2_flowOf_58 (Nat.zero_le _) (Nat.zero_le _) ?_
        refine lv_i2l (v := (cpl (τ 0 ((10 * j) + i)) (τ 3 sd)).toInt64) hx hb dX2_flowOf_61 rfl ?_
        refine lv_aload_n hx hb dX2_flowOf_62 rfl (lv_at hl 3 rfl) ?_
        refine va_get (D := D) (cl := vwCl) (ci := 2) (v := .ref (am 2)) (C := RX2) (T := TX2) (N := 15) hx hb hts inX2 hown hK hP 0 rfl rfl 5 (by decide) fl16 (fun _ h9 => h9) rfl dX2_flowOf_63 ?_
        refine lv_iload_n hx hb dX2_flowOf_66 rfl (lv_at hl 4 rfl) ?_
        refine a_ld hx hb hK hP 3 0 rfl rfl sd (rfl) (hsd) (by decide) dX2_flowOf_67 ?_
        refine lv_aload_n hx hb dX2_flowOf_68 rfl (lv_at hl 3 rfl) ?_
        refine va_get (D := D) (cl := vwCl) (ci := 2) (v := .ref (am 1)) (C := RX2) (T := TX2) (N := 15) hx hb hts inX2 hown hK hP 0 rfl rfl 4 (by decide) fl13 (fun _ h9 => h9) rfl dX2_flowOf_69 ?_
        refine lv_bipush (v := nI 10) hx hb dX2_flowOf_72 (by decide) ?_
        refine lv_iload hx hb dX2_flowOf_74 (lv_at hl 1 rfl) ?_
        refine lv_imul hx hb dX2_flowOf_76 ?_
        refine top_eq (y := nI (10 * j)) (pk_mul 10 j) ?_
        refine lv_iload hx hb dX2_flowOf_77 (lv_at hl 2 rfl) ?_
        refine lv_iadd hx hb dX2_flowOf_79 ?_
        refine top_eq (y := nI ((10 * j) + i)) (nI_add (10 * j) i) ?_
        refine a_ld hx hb hK hP 2 0 rfl rfl ((10 * j) + i) (rfl) (i10 hB hi hj) (by decide) dX2_flowOf_80 ?_
        refine lv_isub hx hb dX2_flowOf_81 ?_
        refine lv_i2l (v := ((τ 2 sd) - (τ 1 ((10 * j) + i))).toInt64) hx hb dX2_flowOf_82 rfl ?_
        refine lv_lmul hx hb dX2_flowOf_83 ?_
        refine lv_ladd hx hb dX2_flowOf_84 ?_
        refine lv_lstore_n (lv' := [(2, .long ((mFlR X Y τ sd j (mFlI X Y τ sd j) i) + (((cpl (τ 0 ((10 * j) + i)) (τ 3 sd)).toInt64) * (((τ 2 sd) - (τ 1 ((10 * j) + i))).toInt64)))), (4, .int (nI j)), (5, .int (nI i)), (0, .ref (am 6)), (1, .int (nI sd))]) hx hb dX2_flowOf_85 rfl hl (by decide) rfl (fun ls hl => ?_)
        refine a_inc hx hb (k := 2) (lv' := [(5, .int (nI (i + 1))), (2, .long ((mFlR X Y τ sd j (mFlI X Y τ sd j) i) + (((cpl (τ 0 ((10 * j) + i)) (τ 3 sd)).toInt64) * (((τ 2 sd) - (τ 1 ((10 * j) + i))).toInt64)))), (4, .int (nI j)), (0, .ref (am 6)), (1, .int (nI sd))]) i dX2_flowOf_86 hl rfl (by decide) rfl (fun ls hl => ?_)
        refine lv_goto (tgt := 17) hx hb dX2_flowOf_89 (by decide) ?_
        have e9 : mFlR X Y τ sd j (mFlI X Y τ sd j) (i + 1) = (mFlR X Y τ sd j (mFlI X Y τ sd j) i) + (((cpl (τ 0 ((10 * j) + i)) (τ 3 sd)).toInt64) * (((τ 2 sd) - (τ 1 ((10 * j) + i))).toInt64)) := if_neg c35
        exact ih2 _ (by rw [e9]; exact lv_sub hl [1, 2, 0, 3, 4] rfl)
