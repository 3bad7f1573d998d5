set_option maxHeartbeats 4000000 in
set_option maxRecDepth 100000 in
theorem k_X0_place (l : Launch) (D : va_G) (cI cJ : ClassId) (ad : Nat → Nat) (X Y : Nat) (σ : Nat → Nat → Int32) (hB : 1 ≤ X ∧ X ≤ 10 ∧ 1 ≤ Y ∧ Y ≤ 10) (i j : Int32)  : rMet l yX0_place wsX0_place 0 0 D (tY cI cJ) (wS ad cI X Y σ) [.ref (ad 8), .int i, .int j] (.int ((j + 1) * nI (X + 2) + i + 1)) := by
  refine Met.ofW (cc := cX0_place) (maxL := 3) (ret := (some .int)) (by decide) rfl ?_
  intro p e s m args below meth c s₁ B hml hv
  obtain ⟨rfl, hP, hK⟩ := hv
  have hx := B.exec
  have hb := B.bytes
  have hr := B.returns
  have hts := atoms_spec (ws := wsX0_place) B.pre
  have hown : s.vm.findClass RX0 = some m.cls := findClass_of_methodNamed B.named
  have hlocks := B.notSynchronized
  have inX0 : ∀ w ∈ wsX00, w ∈ wsX0_place := by decide +kernel
  have fl35 := hts (.fieldLink RX0 35 "BridgeCells$Section" "stride" "I") (by decide +kernel)
  have hl := lv_entry ([.ref (ad 8), .int i, .int j]) (n := 3) (Nat.le_of_ble_eq_true rfl)
  rw [lg_entry_eq]
  generalize (lg_sl ([.ref (ad 8), .int i, .int j]) ++ List.replicate (3 - (lg_sl ([.ref (ad 8), .int i, .int j])).length) Slot.unset).toArray = ls at hl ⊢
  have hl : lv_has ls 3 [(0, .ref (ad 8)), (1, .int i), (2, .int j)] := hl
  refine lv_iload_n hx hb dX0_place_0 rfl (lv_at hl 2 rfl) ?_
  refine lv_iconst (v := 1) hx hb dX0_place_1 (by decide) ?_
  refine lv_iadd hx hb dX0_place_2 ?_
  refine lv_aload_n hx hb dX0_place_3 rfl (lv_at hl 0 rfl) ?_
  refine va_get (D := D) (cl := vwCl) (ci := 0) (v := .int (nI (X + 2))) (C := RX0) (T := TX0) (N := 14) hx hb hts inX0 hown hK hP 0 rfl rfl 2 (by decide) fl35 (fun _ h9 => h9) rfl dX0_place_4 ?_
  refine lv_imul hx hb dX0_place_7 ?_
  refine lv_iload_n hx hb dX0_place_8 rfl (lv_at hl 1 rfl) ?_
  refine lv_iadd hx hb dX0_place_9 ?_
  refine lv_iconst (v := 1) hx hb dX0_place_10 (by decide) ?_
  refine lv_iadd hx hb dX0_place_11 ?_
  refine top_eq (y := (j + 1) * nI (X + 2) + i + 1) (by rw []) ?_
  exact W.iret hx hb hr (fun t ht _ => ⟨rfl, ht⟩) (fun q h => nomatch h) dX0_place_12
set_option maxHeartbeats 4000000 in
set_option maxRecDepth 100000 in
theorem k_X0_holds (l : Launch) (D : va_G) (cI cJ : ClassId) (ad : Nat → Nat) (X Y : Nat) (σ : Nat → Nat → Int32) (hB : 1 ≤ X ∧ X ≤ 10 ∧ 1 ≤ Y ∧ Y ≤ 10) (i j : Int32)  : rMet l yX0_holds wsX0_holds 0 0 D (tY cI cJ) (wS ad cI X Y σ) [.ref (ad 8), .int i, .int j] (.int (hlds X Y i j)) := by
  refine Met.ofW (cc := cX0_holds) (maxL := 3) (ret := (some .boolean)) (by decide) rfl ?_
  intro p e s m args below meth c s₁ B hml hv
  obtain ⟨rfl, hP, hK⟩ := hv
  have hx := B.exec
  have hb := B.bytes
  have hr := B.returns
  have hts := atoms_spec (ws := wsX0_holds) B.pre
  have hown : s.vm.findClass RX0 = some m.cls := findClass_of_methodNamed B.named
  have hlocks := B.notSynchronized
  have inX0 : ∀ w ∈ wsX00, w ∈ wsX0_holds := by decide +kernel
  have fl29 := hts (.fieldLink RX0 29 "BridgeCells$Section" "columns" "I") (by decide +kernel)
  have fl32 := hts (.fieldLink RX0 32 "BridgeCells$Section" "rows" "I") (by decide +kernel)
  have hl := lv_entry ([.ref (ad 8), .int i, .int j]) (n := 3) (Nat.le_of_ble_eq_true rfl)
  rw [lg_entry_eq]
  generalize (lg_sl ([.ref (ad 8), .int i, .int j]) ++ List.replicate (3 - (lg_sl ([.ref (ad 8), .int i, .int j])).length) Slot.unset).toArray = ls at hl ⊢
  have hl : lv_has ls 3 [(0, .ref (ad 8)), (1, .int i), (2, .int j)] := hl
  refine lv_iload_n hx hb dX0_holds_0 rfl (lv_at hl 1 rfl) ?_
  refine lv_if_lt (tgt := 28) hx hb dX0_holds_1 (by decide) (fun c1 => ?_) (fun c1 => ?_)
  · -- 28
    refine lv_iconst (v := 0) hx hb dX0_holds_28 (by decide) ?_
    refine top_eq (y := hlds X Y i j) (by unfold hlds; rw [if_pos c1]) ?_
    exact W.zret hx hb hr (by unfold hlds; repeat (first | rfl | split)) (fun t ht _ => ⟨rfl, ht⟩) (fun q h => nomatch h) dX0_holds_29
  · -- 4
    refine lv_iload_n hx hb dX0_holds_4 rfl (lv_at hl 1 rfl) ?_
    refine lv_aload_n hx hb dX0_holds_5 rfl (lv_at hl 0 rfl) ?_
    refine va_get (D := D) (cl := vwCl) (ci := 0) (v := .int (nI X)) (C := RX0) (T := TX0) (N := 14) hx hb hts inX0 hown hK hP 0 rfl rfl 0 (by decide) fl29 (fun _ h9 => h9) rfl dX0_holds_6 ?_
    refine lv_icmp_ge (tgt := 28) hx hb dX0_holds_9 (by decide) (fun c2 => ?_) (fun c2 => ?_)
    · -- 28
      refine lv_iconst (v := 0) hx hb dX0_holds_28 (by decide) ?_
      refine top_eq (y := hlds X Y i j) (by unfold hlds; rw [if_neg c1, if_pos c2]) ?_
      exact W.zret hx hb hr (by unfold hlds; repeat (first | rfl | split)) (fun t ht _ => ⟨rfl, ht⟩) (fun q h => nomatch h) dX0_holds_29
    · -- 12
      refine lv_iload_n hx hb dX0_holds_12 rfl (lv_at hl 2 rfl) ?_
      refine lv_if_lt (tgt := 28) hx hb dX0_holds_13 (by decide) (fun c3 => ?_) (fun c3 => ?_)
      · -- 28
        refine lv_iconst (v := 0) hx hb dX0_holds_28 (by decide) ?_
        refine top_eq (y := hlds X Y i j) (by unfold hlds; rw [if_neg c1, if_neg c2, if_pos c3]) ?_
        exact W.zret hx hb hr (by unfold hlds; repeat (first | rfl | split)) (fun t ht _ => ⟨rfl, ht⟩) (fun q h => nomatch h) dX0_holds_29
      · -- 16
        refine lv_iload_n hx hb dX0_holds_16 rfl (lv_at hl 2 rfl) ?_
        refine lv_aload_n hx hb dX0_holds_17 rfl (lv_at hl 0 rfl) ?_
        refine va_get (D := D) (cl := vwCl) (ci := 0) (v := .int (nI Y)) (C := RX0) (T := TX0) (N := 14) hx hb hts inX0 hown hK hP 0 rfl rfl 1 (by decide) fl32 (fun _ h9 => h9) rfl dX0_holds_18 ?_
        refine lv_icmp_ge (tgt := 28) hx hb dX0_holds_21 (by decide) (fun c4 => ?_) (fun c4 => ?_)
        · -- 28
          refine lv_iconst (v := 0) hx hb dX0_holds_28 (by decide) ?_
          refine top_eq (y := hlds X Y i j) (by unfold hlds; rw [if_neg c1, if_neg c2, if_neg c3, if_pos c4]) ?_
          exact W.zret hx hb hr (by unfold hlds; repeat (first | rfl | split)) (fun t ht _ => ⟨rfl, ht⟩) (fun q h => nomatch h) dX0_holds_29
        · -- 24
          refine lv_iconst (v := 1) hx hb dX0_holds_24 (by decide) ?_
          refine lv_goto (tgt := 29) hx hb dX0_holds_25 (by decide) ?_
          refine top_eq (y := hlds X Y i j) (by unfold hlds; rw [if_neg c1, if_neg c2, if_neg c3, if_neg c4]) ?_
          exact W.zret hx hb hr (by unfold hlds; repeat (first | rfl | split)) (fun t ht _ => ⟨rfl, ht⟩) (fun q h => nomatch h) dX0_holds_29
set_option maxHeartbeats 4000000 in
set_option maxRecDepth 100000 in
theorem k_X0_couple (l : Launch) (D : va_G) (cI cJ : ClassId) (a b : Int32)  : rMet l yX0_couple wsX0_couple 0 0 D (tY cI cJ) ([]) [.int a, .int b] (.int (cpl a b)) := by
  refine Met.ofW (cc := cX0_couple) (maxL := 2) (ret := (some .int)) (by decide) rfl ?_
  intro p e s m args below meth c s₁ B hml hv
  obtain ⟨rfl, hP, hK⟩ := hv
  have hx := B.exec
  have hb := B.bytes
  have hr := B.returns
  have hts := atoms_spec (ws := wsX0_couple) B.pre
  have hown : s.vm.findClass RX0 = some m.cls := findClass_of_methodNamed B.named
  have hlocks := B.notSynchronized
  have hl := lv_entry ([.int a, .int b]) (n := 2) (Nat.le_of_ble_eq_true rfl)
  rw [lg_entry_eq]
  generalize (lg_sl ([.int a, .int b]) ++ List.replicate (2 - (lg_sl ([.int a, .int b])).length) Slot.unset).toArray = ls at hl ⊢
  have hl : lv_has ls 2 [(0, .int a), (1, .int b)] := hl
  refine lv_iload_n hx hb dX0_couple_0 rfl (lv_at hl 0 rfl) ?_
  refine lv_if_le (tgt := 20) hx hb dX0_couple_1 (by decide) (fun c1 => ?_) (fun c1 => ?_)
  · -- 20
    refine lv_iconst (v := 0) hx hb dX0_couple_20 (by decide) ?_
    refine top_eq (y := cpl a b) (by unfold cpl; rw [if_pos c1]) ?_
    exact W.iret hx hb hr (fun t ht _ => ⟨rfl, ht⟩) (fun q h => nomatch h) dX0_couple_21
  · -- 4
    refine lv_iload_n hx hb dX0_couple_4 rfl (lv_at hl 1 rfl) ?_
    refine lv_if_le (tgt := 20) hx hb dX0_couple_5 (by decide) (fun c2 => ?_) (fun c2 => ?_)
    · -- 20
      refine lv_iconst (v := 0) hx hb dX0_couple_20 (by decide) ?_
      refine top_eq (y := cpl a b) (by unfold cpl; rw [if_neg c1, if_pos c2]) ?_
      exact W.iret hx hb hr (fun t ht _ => ⟨rfl, ht⟩) (fun q h => nomatch h) dX0_couple_21
    · -- 8
      refine lv_iconst (v := 2) hx hb dX0_couple_8 (by decide) ?_
      refine lv_iload_n hx hb dX0_couple_9 rfl (lv_at hl 0 rfl) ?_
      refine lv_imul hx hb dX0_couple_10 ?_
      refine lv_iload_n hx hb dX0_couple_11 rfl (lv_at hl 1 rfl) ?_
      refine lv_imul hx hb dX0_couple_12 ?_
      refine lv_iload_n hx hb dX0_couple_13 rfl (lv_at hl 0 rfl) ?_
      refine lv_iload_n hx hb dX0_couple_14 rfl (lv_at hl 1 rfl) ?_
      refine lv_iadd hx hb dX0_couple_15 ?_
      refine lv_idiv hx hb dX0_couple_16 (cpl_ne c1 c2) ?_
      refine lv_goto (tgt := 21) hx hb dX0_couple_17 (by decide) ?_
      refine top_eq (y := cpl a b) (by unfold cpl; rw [if_neg c1, if_neg c2]) ?_
      exact W.iret hx hb hr (fun t ht _ => ⟨rfl, ht⟩) (fun q h => nomatch h) dX0_couple_21
set_option maxHeartbeats 4000000 in
set_option maxRecDepth 100000 in
theorem k_X0_leadsAt (l : Launch) (D : va_G) (cI cJ : ClassId) (ad : Nat → Nat) (X Y : Nat) (σ : Nat → Nat → Int32) (hB : 1 ≤ X ∧ X ≤ 10 ∧ 1 ≤ Y ∧ Y ≤ 10) (i j : Nat) (hi : i < X) (hj : j < Y) : rMet l yX0_leadsAt wsX0_leadsAt 1 22 D (tY cI cJ) (wS ad cI X Y σ) [.ref (ad 8), .int (nI i), .int (nI j)] (.int (σ 0 (pl X i j))) := by
  refine Met.ofW (cc := cX0_leadsAt) (maxL := 3) (ret := (some .int)) (by decide) rfl ?_
  intro p e s m args below meth c s₁ B hml hv
  obtain ⟨rfl, hP, hK⟩ := hv
  have hx := B.exec
  have hb := B.bytes
  have hr := B.returns
  have hts := atoms_spec (ws := wsX0_leadsAt) B.pre
  have hown : s.vm.findClass RX0 = some m.cls := findClass_of_methodNamed B.named
  have hlocks := B.notSynchronized
  have inX0 : ∀ w ∈ wsX00, w ∈ wsX0_leadsAt := by decide +kernel
  have fl38 := hts (.fieldLink RX0 38 "BridgeCells$Section" "conduct" "[I") (by decide +kernel)
  have hl := lv_entry ([.ref (ad 8), .int (nI i), .int (nI j)]) (n := 3) (Nat.le_of_ble_eq_true rfl)
  rw [lg_entry_eq]
  generalize (lg_sl ([.ref (ad 8), .int (nI i), .int (nI j)]) ++ List.replicate (3 - (lg_sl ([.ref (ad 8), .int (nI i), .int (nI j)])).length) Slot.unset).toArray = ls at hl ⊢
  have hl : lv_has ls 3 [(0, .ref (ad 8)), (1, .int (nI i)), (2, .int (nI j))] := hl
  refine lv_aload_n hx hb dX0_leadsAt_0 rfl (lv_at hl 0 rfl) ?_
  refine va_get (D := D) (cl := vwCl) (ci := 0) (v := .ref (ad 0)) (C := RX0) (T := TX0) (N := 14) hx hb hts inX0 hown hK hP 0 rfl rfl 3 (by decide) fl38 (fun _ h9 => h9) rfl dX0_leadsAt_1 ?_
  refine lv_aload_n hx hb dX0_leadsAt_4 rfl (lv_at hl 0 rfl) ?_
  refine lv_iload_n hx hb dX0_leadsAt_5 rfl (lv_at hl 1 rfl) ?_
  refine lv_iload_n hx hb dX0_leadsAt_6 rfl (lv_at hl 2 rfl) ?_
  refine r_V ⟨hx, hb, hml, hown, hts⟩ (k_X0_place l D cI cJ ad X Y σ hB (nI i) (nI j)) (cwV 2 hts gX0_leadsAt_X0_place rfl rfl rfl (by decide +kernel) ⟨Nat.le_of_ble_eq_true rfl, Nat.le_of_ble_eq_true rfl⟩) hP hK (va_recv hK hP (ci := 0) (q0 := 0) rfl rfl) rfl hl.1 rfl (Nat.le_of_ble_eq_true rfl) dX0_leadsAt_7 (Nat.zero_le _) (Nat.zero_le _) ?_
  refine top_eq (y := nI (pl X i j)) (pl_e X i j) ?_
  refine a_ld hx hb hK hP 1 0 rfl rfl (pl X i j) (rfl) (pl_in hi hj) (pl_N hB) dX0_leadsAt_10 ?_
  exact W.iret hx hb hr (fun t ht _ => ⟨rfl, ht⟩) (fun q h => nomatch h) dX0_leadsAt_11
set_option maxHeartbeats 4000000 in
set_option maxRecDepth 100000 in
theorem k_X0_warmthAt (l : Launch) (D : va_G) (cI cJ : ClassId) (ad : Nat → Nat) (X Y : Nat) (σ : Nat → Nat → Int32) (hB : 1 ≤ X ∧ X ≤ 10 ∧ 1 ≤ Y ∧ Y ≤ 10) (i j : Nat) (hi : i < X) (hj : j < Y) : rMet l yX0_warmthAt wsX0_warmthAt 1 22 D (tY cI cJ) (wS ad cI X Y σ) [.ref (ad 8), .int (nI i), .int (nI j)] (.int (wAt X σ i j)) := by
  refine Met.ofW (cc := cX0_warmthAt) (maxL := 4) (ret := (some .int)) (by decide) rfl ?_
  intro p e s m args below meth c s₁ B hml hv
  obtain ⟨rfl, hP, hK⟩ := hv
  have hx := B.exec
  have hb := B.bytes
  have hr := B.returns
  have hts := atoms_spec (ws := wsX0_warmthAt) B.pre
  have hown : s.vm.findClass RX0 = some m.cls := findClass_of_methodNamed B.named
  have hlocks := B.notSynchronized
  have inX0 : ∀ w ∈ wsX00, w ∈ wsX0_warmthAt := by decide +kernel
  have fl38 := hts (.fieldLink RX0 38 "BridgeCells$Section" "conduct" "[I") (by decide +kernel)
  have cn60 := hts (.constant RX0 60 (-1000000)) (by decide +kernel)
  have fl41 := hts (.fieldLink RX0 41 "BridgeCells$Section" "warm" "[I") (by decide +kernel)
  have hl := lv_entry ([.ref (ad 8), .int (nI i), .int (nI j)]) (n := 4) (Nat.le_of_ble_eq_true rfl)
  rw [lg_entry_eq]
  generalize (lg_sl ([.ref (ad 8), .int (nI i), .int (nI j)]) ++ List.replicate (4 - (lg_sl ([.ref (ad 8), .int (nI i), .int (nI j)])).length) Slot.unset).toArray = ls at hl ⊢
  have hl : lv_has ls 4 [(0, .ref (ad 8)), (1, .int (nI i)), (2, .int (nI j))] := hl
  refine lv_aload_n hx hb dX0_warmthAt_0 rfl (lv_at hl 0 rfl) ?_
  refine lv_iload_n hx hb dX0_warmthAt_1 rfl (lv_at hl 1 rfl) ?_
  refine lv_iload_n hx hb dX0_warmthAt_2 rfl (lv_at hl 2 rfl) ?_
  refine r_V ⟨hx, hb, hml, hown, hts⟩ (k_X0_place l D cI cJ ad X Y σ hB (nI i) (nI j)) (cwV 2 hts gX0_warmthAt_X0_place rfl rfl rfl (by decide +kernel) ⟨Nat.le_of_ble_eq_true rfl, Nat.le_of_ble_eq_true rfl⟩) hP hK (va_recv hK hP (ci := 0) (q0 := 0) rfl rfl) rfl hl.1 rfl (Nat.le_of_ble_eq_true rfl) dX0_warmthAt_3 (Nat.zero_le _) (Nat.zero_le _) ?_
  refine top_eq (y := nI (pl X i j)) (pl_e X i j) ?_
  refine lv_istore_n (lv' := [(3, .int (nI (pl X i j))), (0, .ref (ad 8)), (1, .int (nI i)), (2, .int (nI j))]) hx hb dX0_warmthAt_6 rfl hl (by decide) rfl (fun ls hl => ?_)
  refine lv_aload_n hx hb dX0_warmthAt_7 rfl (lv_at hl 1 rfl) ?_
  refine va_get (D := D) (cl := vwCl) (ci := 0) (v := .ref (ad 0)) (C := RX0) (T := TX0) (N := 14) hx hb hts inX0 hown hK hP 0 rfl rfl 3 (by decide) fl38 (fun _ h9 => h9) rfl dX0_warmthAt_8 ?_
  refine lv_iload_n hx hb dX0_warmthAt_11 rfl (lv_at hl 0 rfl) ?_
  refine a_ld hx hb hK hP 1 0 rfl rfl (pl X i j) (rfl) (pl_in hi hj) (pl_N hB) dX0_warmthAt_12 ?_
  refine lv_if_le (tgt := 25) hx hb dX0_warmthAt_13 (by decide) (fun c1 => ?_) (fun c1 => ?_)
  · -- 25
    refine lv_ldc hx hb hown cn60 dX0_warmthAt_25 ?_
    refine top_eq (y := wAt X σ i j) (by unfold wAt; rw [if_pos c1]) ?_
    exact W.iret hx hb hr (fun t ht _ => ⟨rfl, ht⟩) (fun q h => nomatch h) dX0_warmthAt_27
  · -- 16
    refine lv_aload_n hx hb dX0_warmthAt_16 rfl (lv_at hl 1 rfl) ?_
    refine va_get (D := D) (cl := vwCl) (ci := 0) (v := .ref (ad 1)) (C := RX0) (T := TX0) (N := 14) hx hb hts inX0 hown hK hP 0 rfl rfl 4 (by decide) fl41 (fun _ h9 => h9) rfl dX0_warmthAt_17 ?_
    refine lv_iload_n hx hb dX0_warmthAt_20 rfl (lv_at hl 0 rfl) ?_
    refine a_ld hx hb hK hP 2 0 rfl rfl (pl X i j) (rfl) (pl_in hi hj) (pl_N hB) dX0_warmthAt_21 ?_
    refine lv_goto (tgt := 27) hx hb dX0_warmthAt_22 (by decide) ?_
    refine top_eq (y := wAt X σ i j) (by unfold wAt; rw [if_neg c1]) ?_
    exact W.iret hx hb hr (fun t ht _ => ⟨rfl, ht⟩) (fun q h => nomatch h) dX0_warmthAt_27
set_option maxHeartbeats 4000000 in
set_option maxRecDepth 100000 in
theorem k_X0_countAlong (l : Launch) (D : va_G) (cI cJ : ClassId) (ad : Nat → Nat) (X Y : Nat) (σ : Nat → Nat → Int32) (hB : 1 ≤ X ∧ X ≤ 10 ∧ 1 ≤ Y ∧ Y ≤ 10) (sd : Nat) (hsd : sd < 4) : rMet l yX0_countAlong wsX0_countAlong 0 0 D (tY cI cJ) (wS ad cI X Y σ) [.ref (ad 8), .int (nI sd)] (.int (nI (cAlong X Y sd))) := by
  refine Met.ofW (cc := cX0_countAlong) (maxL := 2) (ret := (some .int)) (by decide) rfl ?_
  intro p e s m args below meth c s₁ B hml hv
  obtain ⟨rfl, hP, hK⟩ := hv
  have hx := B.exec
  have hb := B.bytes
  have hr := B.returns
  have hts := atoms_spec (ws := wsX0_countAlong) B.pre
  have hown : s.vm.findClass RX0 = some m.cls := findClass_of_methodNamed B.named
  have hlocks := B.notSynchronized
  have inX0 : ∀ w ∈ wsX00, w ∈ wsX0_countAlong := by decide +kernel
  have fl29 := hts (.fieldLink RX0 29 "BridgeCells$Section" "columns" "I") (by decide +kernel)
  have fl32 := hts (.fieldLink RX0 32 "BridgeCells$Section" "rows" "I") (by decide +kernel)
  have hl := lv_entry ([.ref (ad 8), .int (nI sd)]) (n := 2) (Nat.le_of_ble_eq_true rfl)
  rw [lg_entry_eq]
  generalize (lg_sl ([.ref (ad 8), .int (nI sd)]) ++ List.replicate (2 - (lg_sl ([.ref (ad 8), .int (nI sd)])).length) Slot.unset).toArray = ls at hl ⊢
  have hl : lv_has ls 2 [(0, .ref (ad 8)), (1, .int (nI sd))] := hl
  refine lv_iload_n hx hb dX0_countAlong_0 rfl (lv_at hl 1 rfl) ?_
  refine lv_if_eq (tgt := 9) hx hb dX0_countAlong_1 (by decide) (fun c1 => ?_) (fun c1 => ?_)
  · -- 9
    refine lv_aload_n hx hb dX0_countAlong_9 rfl (lv_at hl 0 rfl) ?_
    refine va_get (D := D) (cl := vwCl) (ci := 0) (v := .int (nI X)) (C := RX0) (T := TX0) (N := 14) hx hb hts inX0 hown hK hP 0 rfl rfl 0 (by decide) fl29 (fun _ h9 => h9) rfl dX0_countAlong_10 ?_
    refine lv_goto (tgt := 20) hx hb dX0_countAlong_13 (by decide) ?_
    refine top_eq (y := nI (cAlong X Y sd)) (by unfold cAlong; rw [if_pos (nI0_of hsd c1)]) ?_
    exact W.iret hx hb hr (fun t ht _ => ⟨rfl, ht⟩) (fun q h => nomatch h) dX0_countAlong_20
  · -- 4
    refine lv_iload_n hx hb dX0_countAlong_4 rfl (lv_at hl 1 rfl) ?_
    refine lv_iconst (v := 2) hx hb dX0_countAlong_5 (by decide) ?_
    refine lv_icmp_ne (tgt := 16) hx hb dX0_countAlong_6 (by decide) (fun c2 => ?_) (fun c2 => ?_)
    · -- 16
      refine lv_aload_n hx hb dX0_countAlong_16 rfl (lv_at hl 0 rfl) ?_
      refine va_get (D := D) (cl := vwCl) (ci := 0) (v := .int (nI Y)) (C := RX0) (T := TX0) (N := 14) hx hb hts inX0 hown hK hP 0 rfl rfl 1 (by decide) fl32 (fun _ h9 => h9) rfl dX0_countAlong_17 ?_
      refine top_eq (y := nI (cAlong X Y sd)) (by unfold cAlong; rw [if_neg (fun h => c1 (by rw [h]; rfl)), if_neg (fun h => c2 (by rw [h]; rfl))]) ?_
      exact W.iret hx hb hr (fun t ht _ => ⟨rfl, ht⟩) (fun q h => nomatch h) dX0_countAlong_20
    · -- 9
      refine lv_aload_n hx hb dX0_countAlong_9 rfl (lv_at hl 0 rfl) ?_
      refine va_get (D := D) (cl := vwCl) (ci := 0) (v := .int (nI X)) (C := RX0) (T := TX0) (N := 14) hx hb hts inX0 hown hK hP 0 rfl rfl 0 (by decide) fl29 (fun _ h9 => h9) rfl dX0_countAlong_10 ?_
      refine lv_goto (tgt := 20) hx hb dX0_countAlong_13 (by decide) ?_
      refine top_eq (y := nI (cAlong X Y sd)) (by unfold cAlong; rw [if_neg (fun h => c1 (by rw [h]; rfl)), if_pos (nI2_of hsd c2)]) ?_
      exact W.iret hx hb hr (fun t ht _ => ⟨rfl, ht⟩) (fun q h => nomatch h) dX0_countAlong_20
set_option maxHeartbeats 4000000 in
set_option maxRecDepth 100000 in
theorem k_X0_cellAlong (l : Launch) (D : va_G) (cI cJ : ClassId) (ad : Nat → Nat) (X Y : Nat) (σ : Nat → Nat → Int32) (hB : 1 ≤ X ∧ X ≤ 10 ∧ 1 ≤ Y ∧ Y ≤ 10) (sd k : Nat) (hsd : sd < 4) : rMet l yX0_cellAlong wsX0_cellAlong 1 22 D (tY cI cJ) (wS ad cI X Y σ) [.ref (ad 8), .int (nI sd), .int (nI k)] (.int (nI (clA X Y sd k))) := by
  refine Met.ofW (cc := cX0_cellAlong) (maxL := 3) (ret := (some .int)) (by decide) rfl ?_
  intro p e s m args below meth c s₁ B hml hv
  obtain ⟨rfl, hP, hK⟩ := hv
  have hx := B.exec
  have hb := B.bytes
  have hr := B.returns
  have hts := atoms_spec (ws := wsX0_cellAlong) B.pre
  have hown : s.vm.findClass RX0 = some m.cls := findClass_of_methodNamed B.named
  have hlocks := B.notSynchronized
  have inX0 : ∀ w ∈ wsX00, w ∈ wsX0_cellAlong := by decide +kernel
  have fl29 := hts (.fieldLink RX0 29 "BridgeCells$Section" "columns" "I") (by decide +kernel)
  have fl32 := hts (.fieldLink RX0 32 "BridgeCells$Section" "rows" "I") (by decide +kernel)
  have hl := lv_entry ([.ref (ad 8), .int (nI sd), .int (nI k)]) (n := 3) (Nat.le_of_ble_eq_true rfl)
  rw [lg_entry_eq]
  generalize (lg_sl ([.ref (ad 8), .int (nI sd), .int (nI k)]) ++ List.replicate (3 - (lg_sl ([.ref (ad 8), .int (nI sd), .int (nI k)])).length) Slot.unset).toArray = ls at hl ⊢
  have hl : lv_has ls 3 [(0, .ref (ad 8)), (1, .int (nI sd)), (2, .int (nI k))] := hl
  refine lv_iload_n hx hb dX0_cellAlong_0 rfl (lv_at hl 1 rfl) ?_
  rcases (show sd = 0 ∨ sd = 1 ∨ sd = 2 ∨ sd = 3 by omega) with rfl | rfl | rfl | rfl
  · -- side 0
    refine lv_tableIn (tgt := 28) hx hb dX0_cellAlong_1 (by decide) (by decide) rfl (by decide) ?_
    refine lv_aload_n hx hb dX0_cellAlong_28 rfl (lv_at hl 0 rfl) ?_
    refine lv_iload_n hx hb dX0_cellAlong_29 rfl (lv_at hl 2 rfl) ?_
    refine lv_iconst (v := nI 0) hx hb dX0_cellAlong_30 (by decide) ?_
    refine r_V ⟨hx, hb, hml, hown, hts⟩ (k_X0_place l D cI cJ ad X Y σ hB (nI k) (nI 0)) (cwV 2 hts gX0_cellAlong_X0_place rfl rfl rfl (by decide +kernel) ⟨Nat.le_of_ble_eq_true rfl, Nat.le_of_ble_eq_true rfl⟩) hP hK (va_recv hK hP (ci := 0) (q0 := 0) rfl rfl) rfl hl.1 rfl (Nat.le_of_ble_eq_true rfl) dX0_cellAlong_31 (Nat.zero_le _) (Nat.zero_le _) ?_
    refine top_eq (y := nI (pl X k 0)) (pl_e X k 0) ?_
    exact W.iret hx hb hr (fun t ht _ => ⟨rfl, ht⟩) (fun q h => nomatch h) dX0_cellAlong_34
  · -- side 1
    refine lv_tableIn (tgt := 35) hx hb dX0_cellAlong_1 (by decide) (by decide) rfl (by decide) ?_
    refine lv_aload_n hx hb dX0_cellAlong_35 rfl (lv_at hl 0 rfl) ?_
    refine lv_aload_n hx hb dX0_cellAlong_36 rfl (lv_at hl 0 rfl) ?_
    refine va_get (D := D) (cl := vwCl) (ci := 0) (v := .int (nI X)) (C := RX0) (T := TX0) (N := 14) hx hb hts inX0 hown hK hP 0 rfl rfl 0 (by decide) fl29 (fun _ h9 => h9) rfl dX0_cellAlong_37 ?_
    refine lv_iconst (v := 1) hx hb dX0_cellAlong_40 (by decide) ?_
    refine lv_isub hx hb dX0_cellAlong_41 ?_
    refine top_eq (y := nI (X - 1)) (pk_sub (b := 1) hB.1) ?_
    refine lv_iload_n hx hb dX0_cellAlong_42 rfl (lv_at hl 2 rfl) ?_
    refine r_V ⟨hx, hb, hml, hown, hts⟩ (k_X0_place l D cI cJ ad X Y σ hB (nI (X - 1)) (nI k)) (cwV 2 hts gX0_cellAlong_X0_place rfl rfl rfl (by decide +kernel) ⟨Nat.le_of_ble_eq_true rfl, Nat.le_of_ble_eq_true rfl⟩) hP hK (va_recv hK hP (ci := 0) (q0 := 0) rfl rfl) rfl hl.1 rfl (Nat.le_of_ble_eq_true rfl) dX0_cellAlong_43 (Nat.zero_le _) (Nat.zero_le _) ?_
    refine top_eq (y := nI (pl X (X - 1) k)) (pl_e X (X - 1) k) ?_
    exact W.iret hx hb hr (fun t ht _ => ⟨rfl, ht⟩) (fun q h => nomatch h) dX0_cellAlong_46
  · -- side 2
    refine lv_tableIn (tgt := 47) hx hb dX0_cellAlong_1 (by decide) (by decide) rfl (by decide) ?_
    refine lv_aload_n hx hb dX0_cellAlong_47 rfl (lv_at hl 0 rfl) ?_
    refine lv_iload_n hx hb dX0_cellAlong_48 rfl (lv_at hl 2 rfl) ?_
    refine lv_aload_n hx hb dX0_cellAlong_49 rfl (lv_at hl 0 rfl) ?_
    refine va_get (D := D) (cl := vwCl) (ci := 0) (v := .int (nI Y)) (C := RX0) (T := TX0) (N := 14) hx hb hts inX0 hown hK hP 0 rfl rfl 1 (by decide) fl32 (fun _ h9 => h9) rfl dX0_cellAlong_50 ?_
    refine lv_iconst (v := 1) hx hb dX0_cellAlong_53 (by decide) ?_
    refine lv_isub hx hb dX0_cellAlong_54 ?_
    refine top_eq (y := nI (Y - 1)) (pk_sub (b := 1) hB.2.2.1) ?_
    refine r_V ⟨hx, hb, hml, hown, hts⟩ (k_X0_place l D cI cJ ad X Y σ hB (nI k) (nI (Y - 1))) (cwV 2 hts gX0_cellAlong_X0_place rfl rfl rfl (by decide +kernel) ⟨Nat.le_of_ble_eq_true rfl, Nat.le_of_ble_eq_true rfl⟩) hP hK (va_recv hK hP (ci := 0) (q0 := 0) rfl rfl) rfl hl.1 rfl (Nat.le_of_ble_eq_true rfl) dX0_cellAlong_55 (Nat.zero_le _) (Nat.zero_le _) ?_
    refine top_eq (y := nI (pl X k (Y - 1))) (pl_e X k (Y - 1)) ?_
    exact W.iret hx hb hr (fun t ht _ => ⟨rfl, ht⟩) (fun q h => nomatch h) dX0_cellAlong_58
  · -- side 3
    refine lv_tableOut (tgt := 59) hx hb dX0_cellAlong_1 (by decide) (by decide) ?_
    refine lv_aload_n hx hb dX0_cellAlong_59 rfl (lv_at hl 0 rfl) ?_
    refine lv_iconst (v := nI 0) hx hb dX0_cellAlong_60 (by decide) ?_
    refine lv_iload_n hx hb dX0_cellAlong_61 rfl (lv_at hl 2 rfl) ?_
    refine r_V ⟨hx, hb, hml, hown, hts⟩ (k_X0_place l D cI cJ ad X Y σ hB (nI 0) (nI k)) (cwV 2 hts gX0_cellAlong_X0_place rfl rfl rfl (by decide +kernel) ⟨Nat.le_of_ble_eq_true rfl, Nat.le_of_ble_eq_true rfl⟩) hP hK (va_recv hK hP (ci := 0) (q0 := 0) rfl rfl) rfl hl.1 rfl (Nat.le_of_ble_eq_true rfl) dX0_cellAlong_62 (Nat.zero_le _) (Nat.zero_le _) ?_
    refine top_eq (y := nI (pl X 0 k)) (pl_e X 0 k) ?_
    exact W.iret hx hb hr (fun t ht _ => ⟨rfl, ht⟩) (fun q h => nomatch h) dX0_cellAlong_65
set_option maxHeartbeats 4000000 in
set_option maxRecDepth 100000 in
theorem k_X0_outward (l : Launch) (D : va_G) (cI cJ : ClassId) (ad : Nat → Nat) (X Y : Nat) (σ : Nat → Nat → Int32) (hB : 1 ≤ X ∧ X ≤ 10 ∧ 1 ≤ Y ∧ Y ≤ 10) (sd : Nat) (hsd : sd < 4) : rMet l yX0_outward wsX0_outward 0 0 D (tY cI cJ) (wS ad cI X Y σ) [.ref (ad 8), .int (nI sd)] (.int (outw X sd)) := by
  refine Met.ofW (cc := cX0_outward) (maxL := 2) (ret := (some .int)) (by decide) rfl ?_
  intro p e s m args below meth c s₁ B hml hv
  obtain ⟨rfl, hP, hK⟩ := hv
  have hx := B.exec
  have hb := B.bytes
  have hr := B.returns
  have hts := atoms_spec (ws := wsX0_outward) B.pre
  have hown : s.vm.findClass RX0 = some m.cls := findClass_of_methodNamed B.named
  have hlocks := B.notSynchronized
  have inX0 : ∀ w ∈ wsX00, w ∈ wsX0_outward := by decide +kernel
  have fl35 := hts (.fieldLink RX0 35 "BridgeCells$Section" "stride" "I") (by decide +kernel)
  have hl := lv_entry ([.ref (ad 8), .int (nI sd)]) (n := 2) (Nat.le_of_ble_eq_true rfl)
  rw [lg_entry_eq]
  generalize (lg_sl ([.ref (ad 8), .int (nI sd)]) ++ List.replicate (2 - (lg_sl ([.ref (ad 8), .int (nI sd)])).length) Slot.unset).toArray = ls at hl ⊢
  have hl : lv_has ls 2 [(0, .ref (ad 8)), (1, .int (nI sd))] := hl
  refine lv_iload_n hx hb dX0_outward_0 rfl (lv_at hl 1 rfl) ?_
  rcases (show sd = 0 ∨ sd = 1 ∨ sd = 2 ∨ sd = 3 by omega) with rfl | rfl | rfl | rfl
  · -- side 0
    refine lv_tableIn (tgt := 28) hx hb dX0_outward_1 (by decide) (by decide) rfl (by decide) ?_
    refine lv_aload_n hx hb dX0_outward_28 rfl (lv_at hl 0 rfl) ?_
    refine va_get (D := D) (cl := vwCl) (ci := 0) (v := .int (nI (X + 2))) (C := RX0) (T := TX0) (N := 14) hx hb hts inX0 hown hK hP 0 rfl rfl 2 (by decide) fl35 (fun _ h9 => h9) rfl dX0_outward_29 ?_
    refine lv_ineg hx hb dX0_outward_32 ?_
    exact W.iret hx hb hr (fun t ht _ => ⟨rfl, ht⟩) (fun q h => nomatch h) dX0_outward_33
  · -- side 1
    refine lv_tableIn (tgt := 34) hx hb dX0_outward_1 (by decide) (by decide) rfl (by decide) ?_
    refine lv_iconst (v := 1) hx hb dX0_outward_34 (by decide) ?_
    exact W.iret hx hb hr (fun t ht _ => ⟨rfl, ht⟩) (fun q h => nomatch h) dX0_outward_35
  · -- side 2
    refine lv_tableIn (tgt := 36) hx hb dX0_outward_1 (by decide) (by decide) rfl (by decide) ?_
    refine lv_aload_n hx hb dX0_outward_36 rfl (lv_at hl 0 rfl) ?_
    refine va_get (D := D) (cl := vwCl) (ci := 0) (v := .int (nI (X + 2))) (C := RX0) (T := TX0) (N := 14) hx hb hts inX0 hown hK hP 0 rfl rfl 2 (by decide) fl35 (fun _ h9 => h9) rfl dX0_outward_37 ?_
    exact W.iret hx hb hr (fun t ht _ => ⟨rfl, ht⟩) (fun q h => nomatch h) dX0_outward_40
  · -- side 3
    refine lv_tableOut (tgt := 41) hx hb dX0_outward_1 (by decide) (by decide) ?_
    refine lv_iconst (v := (-1)) hx hb dX0_outward_41 (by decide) ?_
    exact W.iret hx hb hr (fun t ht _ => ⟨rfl, ht⟩) (fun q h => nomatch h) dX0_outward_42
set_option maxHeartbeats 4000000 in
set_option maxRecDepth 100000 in
theorem k_X0_highAboveLow (l : Launch) (D : va_G) (cI cJ : ClassId) (ad : Nat → Nat) (X Y : Nat) (σ : Nat → Nat → Int32) (hB : 1 ≤ X ∧ X ≤ 10 ∧ 1 ≤ Y ∧ Y ≤ 10)   : rMet l yX0_highAboveLow wsX0_highAboveLow 0 0 D (tY cI cJ) (wS ad cI X Y σ) [.ref (ad 8)] (.int (σ 8 1 - σ 8 0)) := by
  refine Met.ofW (cc := cX0_highAboveLow) (maxL := 1) (ret := (some .int)) (by decide) rfl ?_
  intro p e s m args below meth c s₁ B hml hv
  obtain ⟨rfl, hP, hK⟩ := hv
  have hx := B.exec
  have hb := B.bytes
  have hr := B.returns
  have hts := atoms_spec (ws := wsX0_highAboveLow) B.pre
  have hown : s.vm.findClass RX0 = some m.cls := findClass_of_methodNamed B.named
  have hlocks := B.notSynchronized
  have inX0 : ∀ w ∈ wsX00, w ∈ wsX0_highAboveLow := by decide +kernel
  have fl22 := hts (.fieldLink RX0 22 "BridgeCells$Section" "high" "I") (by decide +kernel)
  have fl18 := hts (.fieldLink RX0 18 "BridgeCells$Section" "low" "I") (by decide +kernel)
  have hl := lv_entry ([.ref (ad 8)]) (n := 1) (Nat.le_of_ble_eq_true rfl)
  rw [lg_entry_eq]
  generalize (lg_sl ([.ref (ad 8)]) ++ List.replicate (1 - (lg_sl ([.ref (ad 8)])).length) Slot.unset).toArray = ls at hl ⊢
  have hl : lv_has ls 1 [(0, .ref (ad 8))] := hl
  refine lv_aload_n hx hb dX0_highAboveLow_0 rfl (lv_at hl 0 rfl) ?_
  refine va_get (D := D) (cl := vwCl) (ci := 0) (v := .int (σ 8 1)) (C := RX0) (T := TX0) (N := 14) hx hb hts inX0 hown hK hP 0 rfl rfl 12 (by decide) fl22 (fun _ h9 => h9) rfl dX0_highAboveLow_1 ?_
  refine lv_aload_n hx hb dX0_highAboveLow_4 rfl (lv_at hl 0 rfl) ?_
  refine va_get (D := D) (cl := vwCl) (ci := 0) (v := .int (σ 8 0)) (C := RX0) (T := TX0) (N := 14) hx hb hts inX0 hown hK hP 0 rfl rfl 11 (by decide) fl18 (fun _ h9 => h9) rfl dX0_highAboveLow_5 ?_
  refine lv_isub hx hb dX0_highAboveLow_8 ?_
  refine top_eq (y := σ 8 1 - σ 8 0) (by rw []) ?_
  exact W.iret hx hb hr (fun t ht _ => ⟨rfl, ht⟩) (fun q h => nomatch h) dX0_highAboveLow_9
set_option maxHeartbeats 4000000 in
set_option maxRecDepth 100000 in
theorem k_X0_warmthAlong (l : Launch) (D : va_G) (cI cJ : ClassId) (ad : Nat → Nat) (X Y : Nat) (σ : Nat → Nat → Int32) (hB : 1 ≤ X ∧ X ≤ 10 ∧ 1 ≤ Y ∧ Y ≤ 10) (sd k : Nat) (hsd : sd < 4) (hk : k < cAlong X Y sd) : rMet l yX0_warmthAlong wsX0_warmthAlong 2 44 D (tY cI cJ) (wS ad cI X Y σ) [.ref (ad 8), .int (nI sd), .int (nI k)] (.int (σ 1 (clA X Y sd k))) := by
  refine Met.ofW (cc := cX0_warmthAlong) (maxL := 3) (ret := (some .int)) (by decide) rfl ?_
  intro p e s m args below meth c s₁ B hml hv
  obtain ⟨rfl, hP, hK⟩ := hv
  have hx := B.exec
  have hb := B.bytes
  have hr := B.returns
  have hts := atoms_spec (ws := wsX0_warmthAlong) B.pre
  have hown : s.vm.findClass RX0 = some m.cls := findClass_of_methodNamed B.named
  have hlocks := B.notSynchronized
  have inX0 : ∀ w ∈ wsX00, w ∈ wsX0_warmthAlong := by decide +kernel
  have fl41 := hts (.fieldLink RX0 41 "BridgeCells$Section" "warm" "[I") (by decide +kernel)
  have hl := lv_entry ([.ref (ad 8), .int (nI sd), .int (nI k)]) (n := 3) (Nat.le_of_ble_eq_true rfl)
  rw [lg_entry_eq]
  generalize (lg_sl ([.ref (ad 8), .int (nI sd), .int (nI k)]) ++ List.replicate (3 - (lg_sl ([.ref (ad 8), .int (nI sd), .int (nI k)])).length) Slot.unset).toArray = ls at hl ⊢
  have hl : lv_has ls 3 [(0, .ref (ad 8)), (1, .int (nI sd)), (2, .int (nI k))] := hl
  refine lv_aload_n hx hb dX0_warmthAlong_0 rfl (lv_at hl 0 rfl) ?_
  refine va_get (D := D) (cl := vwCl) (ci := 0) (v := .ref (ad 1)) (C := RX0) (T := TX0) (N := 14) hx hb hts inX0 hown hK hP 0 rfl rfl 4 (by decide) fl41 (fun _ h9 => h9) rfl dX0_warmthAlong_1 ?_
  refine lv_aload_n hx hb dX0_warmthAlong_4 rfl (lv_at hl 0 rfl) ?_
  refine lv_iload_n hx hb dX0_warmthAlong_5 rfl (lv_at hl 1 rfl) ?_
  refine lv_iload_n hx hb dX0_warmthAlong_6 rfl (lv_at hl 2 rfl) ?_
  refine r_V ⟨hx, hb, hml, hown, hts⟩ (k_X0_cellAlong l D cI cJ ad X Y σ hB sd k (hsd)) (cwV 2 hts gX0_warmthAlong_X0_cellAlong rfl rfl rfl (by decide +kernel) ⟨Nat.le_of_ble_eq_true rfl, Nat.le_of_ble_eq_true rfl⟩) hP hK (va_recv hK hP (ci := 0) (q0 := 0) rfl rfl) rfl hl.1 rfl (Nat.le_of_ble_eq_true rfl) dX0_warmthAlong_7 (Nat.zero_le _) (Nat.zero_le _) ?_
  refine a_ld hx hb hK hP 2 0 rfl rfl (clA X Y sd k) (rfl) (clA_in hB hsd hk) (pl_N hB) dX0_warmthAlong_10 ?_
  exact W.iret hx hb hr (fun t ht _ => ⟨rfl, ht⟩) (fun q h => nomatch h) dX0_warmthAlong_11
set_option maxHeartbeats 4000000 in
set_option maxRecDepth 100000 in
theorem k_X0_aboveLow (l : Launch) (D : va_G) (cI cJ : ClassId) (ad : Nat → Nat) (X Y : Nat) (σ : Nat → Nat → Int32) (hB : 1 ≤ X ∧ X ≤ 10 ∧ 1 ≤ Y ∧ Y ≤ 10) (sd k : Nat) (hsd : sd < 4) (hk : k < cAlong X Y sd) : rMet l yX0_aboveLow wsX0_aboveLow 3 66 D (tY cI cJ) (wS ad cI X Y σ) [.ref (ad 8), .int (nI sd), .int (nI k)] (.int (σ 1 (clA X Y sd k) - σ 8 0)) := by
  refine Met.ofW (cc := cX0_aboveLow) (maxL := 3) (ret := (some .int)) (by decide) rfl ?_
  intro p e s m args below meth c s₁ B hml hv
  obtain ⟨rfl, hP, hK⟩ := hv
  have hx := B.exec
  have hb := B.bytes
  have hr := B.returns
  have hts := atoms_spec (ws := wsX0_aboveLow) B.pre
  have hown : s.vm.findClass RX0 = some m.cls := findClass_of_methodNamed B.named
  have hlocks := B.notSynchronized
  have inX0 : ∀ w ∈ wsX00, w ∈ wsX0_aboveLow := by decide +kernel
  have fl18 := hts (.fieldLink RX0 18 "BridgeCells$Section" "low" "I") (by decide +kernel)
  have hl := lv_entry ([.ref (ad 8), .int (nI sd), .int (nI k)]) (n := 3) (Nat.le_of_ble_eq_true rfl)
  rw [lg_entry_eq]
  generalize (lg_sl ([.ref (ad 8), .int (nI sd), .int (nI k)]) ++ List.replicate (3 - (lg_sl ([.ref (ad 8), .int (nI sd), .int (nI k)])).length) Slot.unset).toArray = ls at hl ⊢
  have hl : lv_has ls 3 [(0, .ref (ad 8)), (1, .int (nI sd)), (2, .int (nI k))] := hl
  refine lv_aload_n hx hb dX0_aboveLow_0 rfl (lv_at hl 0 rfl) ?_
  refine lv_iload_n hx hb dX0_aboveLow_1 rfl (lv_at hl 1 rfl) ?_
  refine lv_iload_n hx hb dX0_aboveLow_2 rfl (lv_at hl 2 rfl) ?_
  refine r_V ⟨hx, hb, hml, hown, hts⟩ (k_X0_warmthAlong l D cI cJ ad X Y σ hB sd k (hsd) (hk)) (cwV 2 hts gX0_aboveLow_X0_warmthAlong rfl rfl rfl (by decide +kernel) ⟨Nat.le_of_ble_eq_true rfl, Nat.le_of_ble_eq_true rfl⟩) hP hK (va_recv hK hP (ci := 0) (q0 := 0) rfl rfl) rfl hl.1 rfl (Nat.le_of_ble_eq_true rfl) dX0_aboveLow_3 (Nat.zero_le _) (Nat.zero_le _) ?_
  refine lv_aload_n hx hb dX0_aboveLow_6 rfl (lv_at hl 0 rfl) ?_
  refine va_get (D := D) (cl := vwCl) (ci := 0) (v := .int (σ 8 0)) (C := RX0) (T := TX0) (N := 14) hx hb hts inX0 hown hK hP 0 rfl rfl 11 (by decide) fl18 (fun _ h9 => h9) rfl dX0_aboveLow_7 ?_
  refine lv_isub hx hb dX0_aboveLow_10 ?_
  refine top_eq (y := σ 1 (clA X Y sd k) - σ 8 0) (by rw []) ?_
  exact W.iret hx hb hr (fun t ht _ => ⟨rfl, ht⟩) (fun q h => nomatch h) dX0_aboveLow_11
set_option maxHeartbeats 4000000 in
set_option maxRecDepth 100000 in
theorem k_X0_countThere (l : Launch) (D : va_G) (cI cJ : ClassId) (ad : Nat → Nat) (X Y : Nat) (σ : Nat → Nat → Int32) (hB : 1 ≤ X ∧ X ≤ 10 ∧ 1 ≤ Y ∧ Y ≤ 10)   : rMet l yX0_countThere wsX0_countThere 2 44 D (tY cI cJ) (wS ad cI X Y σ) [.ref (ad 8)] (.int (n_countThere X σ Y)) := by
  refine Met.ofW (cc := cX0_countThere) (maxL := 4) (ret := (some .int)) (by decide) rfl ?_
  intro p e s m args below meth c s₁ B hml hv
  obtain ⟨rfl, hP, hK⟩ := hv
  have hx := B.exec
  have hb := B.bytes
  have hr := B.returns
  have hts := atoms_spec (ws := wsX0_countThere) B.pre
  have hown : s.vm.findClass RX0 = some m.cls := findClass_of_methodNamed B.named
  have hlocks := B.notSynchronized
  have inX0 : ∀ w ∈ wsX00, w ∈ wsX0_countThere := by decide +kernel
  have fl32 := hts (.fieldLink RX0 32 "BridgeCells$Section" "rows" "I") (by decide +kernel)
  have fl29 := hts (.fieldLink RX0 29 "BridgeCells$Section" "columns" "I") (by decide +kernel)
  have hl := lv_entry ([.ref (ad 8)]) (n := 4) (Nat.le_of_ble_eq_true rfl)
  rw [lg_entry_eq]
  generalize (lg_sl ([.ref (ad 8)]) ++ List.replicate (4 - (lg_sl ([.ref (ad 8)])).length) Slot.unset).toArray = ls at hl ⊢
  have hl : lv_has ls 4 [(0, .ref (ad 8))] := hl
  refine lv_iconst (v := 0) hx hb dX0_countThere_0 (by decide) ?_
  refine lv_istore_n (lv' := [(1, .int 0), (0, .ref (ad 8))]) hx hb dX0_countThere_1 rfl hl (by decide) rfl (fun ls hl => ?_)
  refine lv_iconst (v := nI 0) hx hb dX0_countThere_2 (by decide) ?_
  refine lv_istore_n (lv' := [(2, .int (nI 0)), (1, .int 0), (0, .ref (ad 8))]) hx hb dX0_countThere_3 rfl hl (by decide) rfl (fun ls hl => ?_)
  refine W_lr (fun j ls => lv_has ls 4 [(1, .int (n_countThere X σ j)), (2, .int (nI j)), (0, .ref (ad 8))]) (Y) (0) (Nat.zero_le _) (lv_sub hl [1, 0, 2] rfl) (fun ls hl => ?_) (fun j ls hj hl ih1 => ?_)
  · -- behind the loop
    refine lv_iload_n hx hb dX0_countThere_4 rfl (lv_at hl 1 rfl) ?_
    refine lv_aload_n hx hb dX0_countThere_5 rfl (lv_at hl 2 rfl) ?_
    refine va_get (D := D) (cl := vwCl) (ci := 0) (v := .int (nI Y)) (C := RX0) (T := TX0) (N := 14) hx hb hts inX0 hown hK hP 0 rfl rfl 1 (by decide) fl32 (fun _ h9 => h9) rfl dX0_countThere_6 ?_
    refine lv_icmp_ge (tgt := 51) hx hb dX0_countThere_9 (by decide) (fun _ => ?_) (fun c9 => False.elim (c9 (nI_le (Nat.le_refl _) (by omega))))
    refine lv_iload_n hx hb dX0_countThere_51 rfl (lv_at hl 0 rfl) ?_
    exact W.iret hx hb hr (fun t ht _ => ⟨rfl, ht⟩) (fun q h => nomatch h) dX0_countThere_52
  · -- one round
    refine lv_iload_n hx hb dX0_countThere_4 rfl (lv_at hl 1 rfl) ?_
    refine lv_aload_n hx hb dX0_countThere_5 rfl (lv_at hl 2 rfl) ?_
    refine va_get (D := D) (cl := vwCl) (ci := 0) (v := .int (nI Y)) (C := RX0) (T := TX0) (N := 14) hx hb hts inX0 hown hK hP 0 rfl rfl 1 (by decide) fl32 (fun _ h9 => h9) rfl dX0_countThere_6 ?_
    refine lv_icmp_ge (tgt := 51) hx hb dX0_countThere_9 (by decide) (fun c9 => False.elim (nI_ge hj (by omega) c9)) (fun _ => ?_)
    refine lv_iconst (v := nI 0) hx hb dX0_countThere_12 (by decide) ?_
    refine lv_istore_n (lv' := [(3, .int (nI 0)), (1, .int (n_countThere X σ j)), (2, .int (nI j)), (0, .ref (ad 8))]) hx hb dX0_countThere_13 rfl hl (by decide) rfl (fun ls hl => ?_)
    refine W_lr (fun i ls => lv_has ls 4 [(1, .int (n_countThereR0 X σ j (n_countThere X σ j) i)), (2, .int (nI j)), (3, .int (nI i)), (0, .ref (ad 8))]) (X) (0) (Nat.zero_le _) (lv_sub hl [1, 2, 0, 3] rfl) (fun ls hl => ?_) (fun i ls hi hl ih2 => ?_)
    · -- behind the loop
      refine lv_iload_n hx hb dX0_countThere_14 rfl (lv_at hl 2 rfl) ?_
      refine lv_aload_n hx hb dX0_countThere_15 rfl (lv_at hl 3 rfl) ?_
      refine va_get (D := D) (cl := vwCl) (ci := 0) (v := .int (nI X)) (C := RX0) (T := TX0) (N := 14) hx hb hts inX0 hown hK hP 0 rfl rfl 0 (by decide) fl29 (fun _ h9 => h9) rfl dX0_countThere_16 ?_
      refine lv_icmp_ge (tgt := 45) hx hb dX0_countThere_19 (by decide) (fun _ => ?_) (fun c9 => False.elim (c9 (nI_le (Nat.le_refl _) (by omega))))
      refine a_inc hx hb (k := 1) (lv' := [(2, .int (nI (j + 1))), (1, .int (n_countThereR0 X σ j (n_countThere X σ j) X)), (3, .int (nI X)), (0, .ref (ad 8))]) j dX0_countThere_45 hl rfl (by decide) rfl (fun ls hl => ?_)
      refine lv_goto (tgt := 4) hx hb dX0_countThere_48 (by decide) ?_
      exact ih1 _ (lv_sub hl [1, 0, 3] rfl)
    · -- one round
      refine lv_iload_n hx hb dX0_countThere_14 rfl (lv_at hl 2 rfl) ?_
      refine lv_aload_n hx hb dX0_countThere_15 rfl (lv_at hl 3 rfl) ?_
      refine va_get (D := D) (cl := vwCl) (ci := 0) (v := .int (nI X)) (C := RX0) (T := TX0) (N := 14) hx hb hts inX0 hown hK hP 0 rfl rfl 0 (by decide) fl29 (fun _ h9 => h9) rfl dX0_countThere_16 ?_
      refine lv_icmp_ge (tgt := 45) hx hb dX0_countThere_19 (by decide) (fun c9 => False.elim (nI_ge hi (by omega) c9)) (fun _ => ?_)
      refine lv_iload_n hx hb dX0_countThere_22 rfl (lv_at hl 0 rfl) ?_
      refine W_jn (β := Int32) (fun b4 => b4 = (if σ 0 (pl X i j) ≤ 0 then 0 else 1)) (fun b4 => F0 m 37 ls [.int b4, .int (n_countThereR0 X σ j (n_countThere X σ j) i)]) (fun jn3 => ?_) (fun b4 eb4 => ?_)
      · -- roads to 37
        refine lv_aload_n hx hb dX0_countThere_23 rfl (lv_at hl 3 rfl) ?_
        refine lv_iload_n hx hb dX0_countThere_24 rfl (lv_at hl 2 rfl) ?_
        refine lv_iload_n hx hb dX0_countThere_25 rfl (lv_at hl 1 rfl) ?_
        refine r_V ⟨hx, hb, hml, hown, hts⟩ (k_X0_leadsAt l D cI cJ ad X Y σ hB i j (hi) (hj)) (cwV 2 hts gX0_countThere_X0_leadsAt rfl rfl rfl (by decide +kernel) ⟨Nat.le_of_ble_eq_true rfl, Nat.le_of_ble_eq_true rfl⟩) hP hK (va_recv hK hP (ci := 0) (q0 := 0) rfl rfl) rfl hl.1 rfl (Nat.le_of_ble_eq_true rfl) dX0_countThere_26 (Nat.zero_le _) (Nat.zero_le _) ?_
        refine lv_if_le (tgt := 36) hx hb dX0_countThere_29 (by decide) (fun c5 => ?_) (fun c5 => ?_)
        · -- 36
          refine lv_iconst (v := 0) hx hb dX0_countThere_36 (by decide) ?_
          exact jn3 _ (by rw [if_pos c5])
        · -- 32
          refine lv_iconst (v := 1) hx hb dX0_countThere_32 (by decide) ?_
          refine lv_goto (tgt := 37) hx hb dX0_countThere_33 (by decide) ?_
          exact jn3 _ (by rw [if_neg c5])
      · -- on from 37
        subst eb4
        refine lv_iadd hx hb dX0_countThere_37 ?_
        refine lv_istore_n (lv' := [(1, .int ((n_countThereR0 X σ j (n_countThere X σ j) i) + (if σ 0 (pl X i j) ≤ 0 then 0 else 1))), (2, .int (nI j)), (3, .int (nI i)), (0, .ref (ad 8))]) hx hb dX0_countThere_38 rfl hl (by decide) rfl (fun ls hl => ?_)
        refine a_inc hx hb (k := 2) (lv' := [(3, .int (nI (i + 1))), (1, .int ((n_countThereR0 X σ j (n_countThere X σ j) i) + (if σ 0 (pl X i j) ≤ 0 then 0 else 1))), (2, .int (nI j)), (0, .ref (ad 8))]) i dX0_countThere_39 hl rfl (by decide) rfl (fun ls hl => ?_)
        refine lv_goto (tgt := 14) hx hb dX0_countThere_42 (by decide) ?_
        exact ih2 _ (lv_sub hl [1, 2, 0, 3] rfl)
set_option maxHeartbeats 4000000 in
set_option maxRecDepth 100000 in
theorem k_X0_countAlone (l : Launch) (D : va_G) (cI cJ : ClassId) (ad : Nat → Nat) (X Y : Nat) (σ : Nat → Nat → Int32) (hB : 1 ≤ X ∧ X ≤ 10 ∧ 1 ≤ Y ∧ Y ≤ 10)   : rMet l yX0_countAlone wsX0_countAlone 2 44 D (tY cI cJ) (wS ad cI X Y σ) [.ref (ad 8)] (.int (n_countAlone X σ Y)) := by
  refine Met.ofW (cc := cX0_countAlone) (maxL := 4) (ret := (some .int)) (by decide) rfl ?_
  intro p e s m args below meth c s₁ B hml hv
  obtain ⟨rfl, hP, hK⟩ := hv
  have hx := B.exec
  have hb := B.bytes
  have hr := B.returns
  have hts := atoms_spec (ws := wsX0_countAlone) B.pre
  have hown : s.vm.findClass RX0 = some m.cls := findClass_of_methodNamed B.named
  have hlocks := B.notSynchronized
  have inX0 : ∀ w ∈ wsX00, w ∈ wsX0_countAlone := by decide +kernel
  have fl32 := hts (.fieldLink RX0 32 "BridgeCells$Section" "rows" "I") (by decide +kernel)
  have fl29 := hts (.fieldLink RX0 29 "BridgeCells$Section" "columns" "I") (by decide +kernel)
  have fl50 := hts (.fieldLink RX0 50 "BridgeCells$Section" "weight" "[I") (by decide +kernel)
  have hl := lv_entry ([.ref (ad 8)]) (n := 4) (Nat.le_of_ble_eq_true rfl)
  rw [lg_entry_eq]
  generalize (lg_sl ([.ref (ad 8)]) ++ List.replicate (4 - (lg_sl ([.ref (ad 8)])).length) Slot.unset).toArray = ls at hl ⊢
  have hl : lv_has ls 4 [(0, .ref (ad 8))] := hl
  refine lv_iconst (v := 0) hx hb dX0_countAlone_0 (by decide) ?_
  refine lv_istore_n (lv' := [(1, .int 0), (0, .ref (ad 8))]) hx hb dX0_countAlone_1 rfl hl (by decide) rfl (fun ls hl => ?_)
  refine lv_iconst (v := nI 0) hx hb dX0_countAlone_2 (by decide) ?_
  refine lv_istore_n (lv' := [(2, .int (nI 0)), (1, .int 0), (0, .ref (ad 8))]) hx hb dX0_countAlone_3 rfl hl (by decide) rfl (fun ls hl => ?_)
  refine W_lr (fun j ls => lv_has ls 4 [(1, .int (n_countAlone X σ j)), (2, .int (nI j)), (0, .ref (ad 8))]) (Y) (0) (Nat.zero_le _) (lv_sub hl [1, 0, 2] rfl) (fun ls hl => ?_) (fun j ls hj hl ih1 => ?_)
  · -- behind the loop
    refine lv_iload_n hx hb dX0_countAlone_4 rfl (lv_at hl 1 rfl) ?_
    refine lv_aload_n hx hb dX0_countAlone_5 rfl (lv_at hl 2 rfl) ?_
    refine va_get (D := D) (cl := vwCl) (ci := 0) (v := .int (nI Y)) (C := RX0) (T := TX0) (N := 14) hx hb hts inX0 hown hK hP 0 rfl rfl 1 (by decide) fl32 (fun _ h9 => h9) rfl dX0_countAlone_6 ?_
    refine lv_icmp_ge (tgt := 65) hx hb dX0_countAlone_9 (by decide) (fun _ => ?_) (fun c9 => False.elim (c9 (nI_le (Nat.le_refl _) (by omega))))
    refine lv_iload_n hx hb dX0_countAlone_65 rfl (lv_at hl 0 rfl) ?_
    exact W.iret hx hb hr (fun t ht _ => ⟨rfl, ht⟩) (fun q h => nomatch h) dX0_countAlone_66
  · -- one round
    refine lv_iload_n hx hb dX0_countAlone_4 rfl (lv_at hl 1 rfl) ?_
    refine lv_aload_n hx hb dX0_countAlone_5 rfl (lv_at hl 2 rfl) ?_
    refine va_get (D := D) (cl := vwCl) (ci := 0) (v := .int (nI Y)) (C := RX0) (T := TX0) (N := 14) hx hb hts inX0 hown hK hP 0 rfl rfl 1 (by decide) fl32 (fun _ h9 => h9) rfl dX0_countAlone_6 ?_
    refine lv_icmp_ge (tgt := 65) hx hb dX0_countAlone_9 (by decide) (fun c9 => False.elim (nI_ge hj (by omega) c9)) (fun _ => ?_)
    refine lv_iconst (v := nI 0) hx hb dX0_countAlone_12 (by decide) ?_
    refine lv_istore_n (lv' := [(3, .int (nI 0)), (1, .int (n_countAlone X σ j)), (2, .int (nI j)), (0, .ref (ad 8))]) hx hb dX0_countAlone_13 rfl hl (by decide) rfl (fun ls hl => ?_)
    refine W_lr (fun i ls => lv_has ls 4 [(1, .int (n_countAloneR0 X σ j (n_countAlone X σ j) i)), (2, .int (nI j)), (3, .int (nI i)), (0, .ref (ad 8))]) (X) (0) (Nat.zero_le _) (lv_sub hl [1, 2, 0, 3] rfl) (fun ls hl => ?_) (fun i ls hi hl ih2 => ?_)
    · -- behind the loop
      refine lv_iload_n hx hb dX0_countAlone_14 rfl (lv_at hl 2 rfl) ?_
      refine lv_aload_n hx hb dX0_countAlone_15 rfl (lv_at hl 3 rfl) ?_
      refine va_get (D := D) (cl := vwCl) (ci := 0) (v := .int (nI X)) (C := RX0) (T := TX0) (N := 14) hx hb hts inX0 hown hK hP 0 rfl rfl 0 (by decide) fl29 (fun _ h9 => h9) rfl dX0_countAlone_16 ?_
      refine lv_icmp_ge (tgt := 59) hx hb dX0_countAlone_19 (by decide) (fun _ => ?_) (fun c9 => False.elim (c9 (nI_le (Nat.le_refl _) (by omega))))
      refine a_inc hx hb (k := 1) (lv' := [(2, .int (nI (j + 1))), (1, .int (n_countAloneR0 X σ j (n_countAlone X σ j) X)), (3, .int (nI X)), (0, .ref (ad 8))]) j dX0_countAlone_59 hl rfl (by decide) rfl (fun ls hl => ?_)
      refine lv_goto (tgt := 4) hx hb dX0_countAlone_62 (by decide) ?_
      exact ih1 _ (lv_sub hl [1, 0, 3] rfl)
    · -- one round
      refine lv_iload_n hx hb dX0_countAlone_14 rfl (lv_at hl 2 rfl) ?_
      refine lv_aload_n hx hb dX0_countAlone_15 rfl (lv_at hl 3 rfl) ?_
      refine va_get (D := D) (cl := vwCl) (ci := 0) (v := .int (nI X)) (C := RX0) (T := TX0) (N := 14) hx hb hts inX0 hown hK hP 0 rfl rfl 0 (by decide) fl29 (fun _ h9 => h9) rfl dX0_countAlone_16 ?_
      refine lv_icmp_ge (tgt := 59) hx hb dX0_countAlone_19 (by decide) (fun c9 => False.elim (nI_ge hi (by omega) c9)) (fun _ => ?_)
      refine lv_iload_n hx hb dX0_countAlone_22 rfl (lv_at hl 0 rfl) ?_
      refine W_jn (β := Int32) (fun b4 => b4 = (if σ 0 (pl X i j) ≤ 0 then 0 else if σ 4 (pl X i j) = 0 then 1 else 0)) (fun b4 => F0 m 51 ls [.int b4, .int (n_countAloneR0 X σ j (n_countAlone X σ j) i)]) (fun jn3 => ?_) (fun b4 eb4 => ?_)
      · -- roads to 51
        refine lv_aload_n hx hb dX0_countAlone_23 rfl (lv_at hl 3 rfl) ?_
        refine lv_iload_n hx hb dX0_countAlone_24 rfl (lv_at hl 2 rfl) ?_
        refine lv_iload_n hx hb dX0_countAlone_25 rfl (lv_at hl 1 rfl) ?_
        refine r_V ⟨hx, hb, hml, hown, hts⟩ (k_X0_leadsAt l D cI cJ ad X Y σ hB i j (hi) (hj)) (cwV 2 hts gX0_countAlone_X0_leadsAt rfl rfl rfl (by decide +kernel) ⟨Nat.le_of_ble_eq_true rfl, Nat.le_of_ble_eq_true rfl⟩) hP hK (va_recv hK hP (ci := 0) (q0 := 0) rfl rfl) rfl hl.1 rfl (Nat.le_of_ble_eq_true rfl) dX0_countAlone_26 (Nat.zero_le _) (Nat.zero_le _) ?_
        refine lv_if_le (tgt := 50) hx hb dX0_countAlone_29 (by decide) (fun c5 => ?_) (fun c5 => ?_)
        · -- 50
          refine lv_iconst (v := 0) hx hb dX0_countAlone_50 (by decide) ?_
          exact jn3 _ (by rw [if_pos c5])
        · -- 32
          refine lv_aload_n hx hb dX0_countAlone_32 rfl (lv_at hl 3 rfl) ?_
          refine va_get (D := D) (cl := vwCl) (ci := 0) (v := .ref (ad 4)) (C := RX0) (T := TX0) (N := 14) hx hb hts inX0 hown hK hP 0 rfl rfl 7 (by decide) fl50 (fun _ h9 => h9) rfl dX0_countAlone_33 ?_
          refine lv_aload_n hx hb dX0_countAlone_36 rfl (lv_at hl 3 rfl) ?_
          refine lv_iload_n hx hb dX0_countAlone_37 rfl (lv_at hl 2 rfl) ?_
          refine lv_iload_n hx hb dX0_countAlone_38 rfl (lv_at hl 1 rfl) ?_
          refine r_V ⟨hx, hb, hml, hown, hts⟩ (k_X0_place l D cI cJ ad X Y σ hB (nI i) (nI j)) (cwV 2 hts gX0_countAlone_X0_place rfl rfl rfl (by decide +kernel) ⟨Nat.le_of_ble_eq_true rfl, Nat.le_of_ble_eq_true rfl⟩) hP hK (va_recv hK hP (ci := 0) (q0 := 0) rfl rfl) rfl hl.1 rfl (Nat.le_of_ble_eq_true rfl) dX0_countAlone_39 (Nat.zero_le _) (Nat.zero_le _) ?_
          refine top_eq (y := nI (pl X i j)) (pl_e X i j) ?_
          refine a_ld hx hb hK hP 5 0 rfl rfl (pl X i j) (rfl) (pl_in hi hj) (pl_N hB) dX0_countAlone_42 ?_
          refine lv_if_ne (tgt := 50) hx hb dX0_countAlone_43 (by decide) (fun c6 => ?_) (fun c6 => ?_)
          · -- 50
            refine lv_iconst (v := 0) hx hb dX0_countAlone_50 (by decide) ?_
            exact jn3 _ (by rw [if_neg c5, if_neg c6])
          · -- 46
            refine lv_iconst (v := 1) hx hb dX0_countAlone_46 (by decide) ?_
            refine lv_goto (tgt := 51) hx hb dX0_countAlone_47 (by decide) ?_
            exact jn3 _ (by rw [if_neg c5, if_pos c6])
      · -- on from 51
        subst eb4
        refine lv_iadd hx hb dX0_countAlone_51 ?_
        refine lv_istore_n (lv' := [(1, .int ((n_countAloneR0 X σ j (n_countAlone X σ j) i) + (if σ 0 (pl X i j) ≤ 0 then 0 else if σ 4 (pl X i j) = 0 then 1 else 0))), (2, .int (nI j)), (3, .int (nI i)), (0, .ref (ad 8))]) hx hb dX0_countAlone_52 rfl hl (by decide) rfl (fun ls hl => ?_)
        refine a_inc hx hb (k := 2) (lv' := [(3, .int (nI (i + 1))), (1, .int ((n_countAloneR0 X σ j (n_countAlone X σ j) i) + (if σ 0 (pl X i j) ≤ 0 then 0 else if σ 4 (pl X i j) = 0 then 1 else 0))), (2, .int (nI j)), (0, .ref (ad 8))]) i dX0_countAlone_53 hl rfl (by decide) rfl (fun ls hl => ?_)
        refine lv_goto (tgt := 14) hx hb dX0_countAlone_56 (by decide) ?_
        exact ih2 _ (lv_sub hl [1, 2, 0, 3] rfl)
set_option maxHeartbeats 4000000 in
set_option maxRecDepth 100000 in
theorem k_X0_countColder (l : Launch) (D : va_G) (cI cJ : ClassId) (ad : Nat → Nat) (X Y : Nat) (σ : Nat → Nat → Int32) (hB : 1 ≤ X ∧ X ≤ 10 ∧ 1 ≤ Y ∧ Y ≤ 10) (wt : Int32)  : rMet l yX0_countColder wsX0_countColder 2 45 D (tY cI cJ) (wS ad cI X Y σ) [.ref (ad 8), .int wt] (.int (n_countColder X σ wt Y)) := by
  refine Met.ofW (cc := cX0_countColder) (maxL := 5) (ret := (some .int)) (by decide) rfl ?_
  intro p e s m args below meth c s₁ B hml hv
  obtain ⟨rfl, hP, hK⟩ := hv
  have hx := B.exec
  have hb := B.bytes
  have hr := B.returns
  have hts := atoms_spec (ws := wsX0_countColder) B.pre
  have hown : s.vm.findClass RX0 = some m.cls := findClass_of_methodNamed B.named
  have hlocks := B.notSynchronized
  have inX0 : ∀ w ∈ wsX00, w ∈ wsX0_countColder := by decide +kernel
  have fl32 := hts (.fieldLink RX0 32 "BridgeCells$Section" "rows" "I") (by decide +kernel)
  have fl29 := hts (.fieldLink RX0 29 "BridgeCells$Section" "columns" "I") (by decide +kernel)
  have hl := lv_entry ([.ref (ad 8), .int wt]) (n := 5) (Nat.le_of_ble_eq_true rfl)
  rw [lg_entry_eq]
  generalize (lg_sl ([.ref (ad 8), .int wt]) ++ List.replicate (5 - (lg_sl ([.ref (ad 8), .int wt])).length) Slot.unset).toArray = ls at hl ⊢
  have hl : lv_has ls 5 [(0, .ref (ad 8)), (1, .int wt)] := hl
  refine lv_iconst (v := 0) hx hb dX0_countColder_0 (by decide) ?_
  refine lv_istore_n (lv' := [(2, .int 0), (0, .ref (ad 8)), (1, .int wt)]) hx hb dX0_countColder_1 rfl hl (by decide) rfl (fun ls hl => ?_)
  refine lv_iconst (v := nI 0) hx hb dX0_countColder_2 (by decide) ?_
  refine lv_istore_n (lv' := [(3, .int (nI 0)), (2, .int 0), (0, .ref (ad 8)), (1, .int wt)]) hx hb dX0_countColder_3 rfl hl (by decide) rfl (fun ls hl => ?_)
  refine W_lr (fun j ls => lv_has ls 5 [(2, .int (n_countColder X σ wt j)), (3, .int (nI j)), (0, .ref (ad 8)), (1, .int wt)]) (Y) (0) (Nat.zero_le _) (lv_sub hl [1, 0, 2, 3] rfl) (fun ls hl => ?_) (fun j ls hj hl ih1 => ?_)
  · -- behind the loop
    refine lv_iload_n hx hb dX0_countColder_4 rfl (lv_at hl 1 rfl) ?_
    refine lv_aload_n hx hb dX0_countColder_5 rfl (lv_at hl 2 rfl) ?_
    refine va_get (D := D) (cl := vwCl) (ci := 0) (v := .int (nI Y)) (C := RX0) (T := TX0) (N := 14) hx hb hts inX0 hown hK hP 0 rfl rfl 1 (by decide) fl32 (fun _ h9 => h9) rfl dX0_countColder_6 ?_
    refine lv_icmp_ge (tgt := 65) hx hb dX0_countColder_9 (by decide) (fun _ => ?_) (fun c9 => False.elim (c9 (nI_le (Nat.le_refl _) (by omega))))
    refine lv_iload_n hx hb dX0_countColder_65 rfl (lv_at hl 0 rfl) ?_
    exact W.iret hx hb hr (fun t ht _ => ⟨rfl, ht⟩) (fun q h => nomatch h) dX0_countColder_66
  · -- one round
    refine lv_iload_n hx hb dX0_countColder_4 rfl (lv_at hl 1 rfl) ?_
    refine lv_aload_n hx hb dX0_countColder_5 rfl (lv_at hl 2 rfl) ?_
    refine va_get (D := D) (cl := vwCl) (ci := 0) (v := .int (nI Y)) (C := RX0) (T := TX0) (N := 14) hx hb hts inX0 hown hK hP 0 rfl rfl 1 (by decide) fl32 (fun _ h9 => h9) rfl dX0_countColder_6 ?_
    refine lv_icmp_ge (tgt := 65) hx hb dX0_countColder_9 (by decide) (fun c9 => False.elim (nI_ge hj (by omega) c9)) (fun _ => ?_)
    refine lv_iconst (v := nI 0) hx hb dX0_countColder_12 (by decide) ?_
    refine lv_istore (lv' := [(4, .int (nI 0)), (2, .int (n_countColder X σ wt j)), (3, .int (nI j)), (0, .ref (ad 8)), (1, .int wt)]) hx hb dX0_countColder_13 hl (by decide) rfl (fun ls hl => ?_)
    refine W_lr (fun i ls => lv_has ls 5 [(2, .int (n_countColderR0 X σ wt j (n_countColder X σ wt j) i)), (3, .int (nI j)), (4, .int (nI i)), (0, .ref (ad 8)), (1, .int wt)]) (X) (0) (Nat.zero_le _) (lv_sub hl [1, 2, 0, 3, 4] rfl) (fun ls hl => ?_) (fun i ls hi hl ih2 => ?_)
    · -- behind the loop
      refine lv_iload hx hb dX0_countColder_15 (lv_at hl 2 rfl) ?_
      refine lv_aload_n hx hb dX0_countColder_17 rfl (lv_at hl 3 rfl) ?_
      refine va_get (D := D) (cl := vwCl) (ci := 0) (v := .int (nI X)) (C := RX0) (T := TX0) (N := 14) hx hb hts inX0 hown hK hP 0 rfl rfl 0 (by decide) fl29 (fun _ h9 => h9) rfl dX0_countColder_18 ?_
      refine lv_icmp_ge (tgt := 59) hx hb dX0_countColder_21 (by decide) (fun _ => ?_) (fun c9 => False.elim (c9 (nI_le (Nat.le_refl _) (by omega))))
      refine a_inc hx hb (k := 1) (lv' := [(3, .int (nI (j + 1))), (2, .int (n_countColderR0 X σ wt j (n_countColder X σ wt j) X)), (4, .int (nI X)), (0, .ref (ad 8)), (1, .int wt)]) j dX0_countColder_59 hl rfl (by decide) rfl (fun ls hl => ?_)
      refine lv_goto (tgt := 4) hx hb dX0_countColder_62 (by decide) ?_
      exact ih1 _ (lv_sub hl [1, 0, 3, 4] rfl)
    · -- one round
      refine lv_iload hx hb dX0_countColder_15 (lv_at hl 2 rfl) ?_
      refine lv_aload_n hx hb dX0_countColder_17 rfl (lv_at hl 3 rfl) ?_
      refine va_get (D := D) (cl := vwCl) (ci := 0) (v := .int (nI X)) (C := RX0) (T := TX0) (N := 14) hx hb hts inX0 hown hK hP 0 rfl rfl 0 (by decide) fl29 (fun _ h9 => h9) rfl dX0_countColder_18 ?_
      refine lv_icmp_ge (tgt := 59) hx hb dX0_countColder_21 (by decide) (fun c9 => False.elim (nI_ge hi (by omega) c9)) (fun _ => ?_)
      refine lv_iload_n hx hb dX0_countColder_24 rfl (lv_at hl 0 rfl) ?_
      refine W_jn (β := Int32) (fun b4 => b4 = (if σ 0 (pl X i j) ≤ 0 then 0 else if wt ≤ wAt X σ i j then 0 else 1)) (fun b4 => F0 m 51 ls [.int b4, .int (n_countColderR0 X σ wt j (n_countColder X σ wt j) i)]) (fun jn3 => ?_) (fun b4 eb4 => ?_)
      · -- roads to 51
        refine lv_aload_n hx hb dX0_countColder_25 rfl (lv_at hl 3 rfl) ?_
        refine lv_iload hx hb dX0_countColder_26 (lv_at hl 2 rfl) ?_
        refine lv_iload_n hx hb dX0_countColder_28 rfl (lv_at hl 1 rfl) ?_
        refine r_V ⟨hx, hb, hml, hown, hts⟩ (k_X0_leadsAt l D cI cJ ad X Y σ hB i j (hi) (hj)) (cwV 2 hts gX0_countColder_X0_leadsAt rfl rfl rfl (by decide +kernel) ⟨Nat.le_of_ble_eq_true rfl, Nat.le_of_ble_eq_true rfl⟩) hP hK (va_recv hK hP (ci := 0) (q0 := 0) rfl rfl) rfl hl.1 rfl (Nat.le_of_ble_eq_true rfl) dX0_countColder_29 (Nat.zero_le _) (Nat.zero_le _) ?_
        refine lv_if_le (tgt := 50) hx hb dX0_countColder_32 (by decide) (fun c5 => ?_) (fun c5 => ?_)
        · -- 50
          refine lv_iconst (v := 0) hx hb dX0_countColder_50 (by decide) ?_
          exact jn3 _ (by rw [if_pos c5])
        · -- 35
          refine lv_aload_n hx hb dX0_countColder_35 rfl (lv_at hl 3 rfl) ?_
          refine lv_iload hx hb dX0_countColder_36 (lv_at hl 2 rfl) ?_
          refine lv_iload_n hx hb dX0_countColder_38 rfl (lv_at hl 1 rfl) ?_
          refine r_V ⟨hx, hb, hml, hown, hts⟩ (k_X0_warmthAt l D cI cJ ad X Y σ hB i j (hi) (hj)) (cwV 2 hts gX0_countColder_X0_warmthAt rfl rfl rfl (by decide +kernel) ⟨Nat.le_of_ble_eq_true rfl, Nat.le_of_ble_eq_true rfl⟩) hP hK (va_recv hK hP (ci := 0) (q0 := 0) rfl rfl) rfl hl.1 rfl (Nat.le_of_ble_eq_true rfl) dX0_countColder_39 (Nat.zero_le _) (Nat.zero_le _) ?_
          refine lv_iload_n hx hb dX0_countColder_42 rfl (lv_at hl 4 rfl) ?_
          refine lv_icmp_ge (tgt := 50) hx hb dX0_countColder_43 (by decide) (fun c6 => ?_) (fun c6 => ?_)
          · -- 50
            refine lv_iconst (v := 0) hx hb dX0_countColder_50 (by decide) ?_
            exact jn3 _ (by rw [if_neg c5, if_pos c6])
          · -- 46
            refine lv_iconst (v := 1) hx hb dX0_countColder_46 (by decide) ?_
            refine lv_goto (tgt := 51) hx hb dX0_countColder_47 (by decide) ?_
            exact jn3 _ (by rw [if_neg c5, if_neg c6])
      · -- on from 51
        subst eb4
        refine lv_iadd hx hb dX0_countColder_51 ?_
        refine lv_istore_n (lv' := [(2, .int ((n_countColderR0 X σ wt j (n_countColder X σ wt j) i) + (if σ 0 (pl X i j) ≤ 0 then 0 else if wt ≤ wAt X σ i j then 0 else 1))), (3, .int (nI j)), (4, .int (nI i)), (0, .ref (ad 8)), (1, .int wt)]) hx hb dX0_countColder_52 rfl hl (by decide) rfl (fun ls hl => ?_)
        refine a_inc hx hb (k := 2) (lv' := [(4, .int (nI (i + 1))), (2, .int ((n_countColderR0 X σ wt j (n_countColder X σ wt j) i) + (if σ 0 (pl X i j) ≤ 0 then 0 else if wt ≤ wAt X σ i j then 0 else 1))), (3, .int (nI j)), (0, .ref (ad 8)), (1, .int wt)]) i dX0_countColder_53 hl rfl (by decide) rfl (fun ls hl => ?_)
        refine lv_goto (tgt := 15) hx hb dX0_countColder_56 (by decide) ?_
        exact ih2 _ (lv_sub hl [1, 2, 0, 3, 4] rfl)
set_option maxHeartbeats 4000000 in
set_option maxRecDepth 100000 in
theorem k_X0_sumOfWarmths (l : Launch) (D : va_G) (cI cJ : ClassId) (ad : Nat → Nat) (X Y : Nat) (σ : Nat → Nat → Int32) (hB : 1 ≤ X ∧ X ≤ 10 ∧ 1 ≤ Y ∧ Y ≤ 10)   : rMet l yX0_sumOfWarmths wsX0_sumOfWarmths 2 45 D (tY cI cJ) (wS ad cI X Y σ) [.ref (ad 8)] (.long (n_sumOfWarmths X σ Y)) := by
  refine Met.ofW (cc := cX0_sumOfWarmths) (maxL := 5) (ret := (some .long)) (by decide) rfl ?_
  intro p e s m args below meth c s₁ B hml hv
  obtain ⟨rfl, hP, hK⟩ := hv
  have hx := B.exec
  have hb := B.bytes
  have hr := B.returns
  have hts := atoms_spec (ws := wsX0_sumOfWarmths) B.pre
  have hown : s.vm.findClass RX0 = some m.cls := findClass_of_methodNamed B.named
  have hlocks := B.notSynchronized
  have inX0 : ∀ w ∈ wsX00, w ∈ wsX0_sumOfWarmths := by decide +kernel
  have fl32 := hts (.fieldLink RX0 32 "BridgeCells$Section" "rows" "I") (by decide +kernel)
  have fl29 := hts (.fieldLink RX0 29 "BridgeCells$Section" "columns" "I") (by decide +kernel)
  have hl := lv_entry ([.ref (ad 8)]) (n := 5) (Nat.le_of_ble_eq_true rfl)
  rw [lg_entry_eq]
  generalize (lg_sl ([.ref (ad 8)]) ++ List.replicate (5 - (lg_sl ([.ref (ad 8)])).length) Slot.unset).toArray = ls at hl ⊢
  have hl : lv_has ls 5 [(0, .ref (ad 8))] := hl
  refine lv_lconst (v := 0) hx hb dX0_sumOfWarmths_0 (by decide) ?_
  refine lv_lstore_n (lv' := [(1, .long 0), (0, .ref (ad 8))]) hx hb dX0_sumOfWarmths_1 rfl hl (by decide) rfl (fun ls hl => ?_)
  refine lv_iconst (v := nI 0) hx hb dX0_sumOfWarmths_2 (by decide) ?_
  refine lv_istore_n (lv' := [(3, .int (nI 0)), (1, .long 0), (0, .ref (ad 8))]) hx hb dX0_sumOfWarmths_3 rfl hl (by decide) rfl (fun ls hl => ?_)
  refine W_lr (fun j ls => lv_has ls 5 [(1, .long (n_sumOfWarmths X σ j)), (3, .int (nI j)), (0, .ref (ad 8))]) (Y) (0) (Nat.zero_le _) (lv_sub hl [1, 0, 2] rfl) (fun ls hl => ?_) (fun j ls hj hl ih1 => ?_)
  · -- behind the loop
    refine lv_iload_n hx hb dX0_sumOfWarmths_4 rfl (lv_at hl 1 rfl) ?_
    refine lv_aload_n hx hb dX0_sumOfWarmths_5 rfl (lv_at hl 2 rfl) ?_
    refine va_get (D := D) (cl := vwCl) (ci := 0) (v := .int (nI Y)) (C := RX0) (T := TX0) (N := 14) hx hb hts inX0 hown hK hP 0 rfl rfl 1 (by decide) fl32 (fun _ h9 => h9) rfl dX0_sumOfWarmths_6 ?_
    refine lv_icmp_ge (tgt := 61) hx hb dX0_sumOfWarmths_9 (by decide) (fun _ => ?_) (fun c9 => False.elim (c9 (nI_le (Nat.le_refl _) (by omega))))
    refine lv_lload_n hx hb dX0_sumOfWarmths_61 rfl (lv_at hl 0 rfl) ?_
    exact W.lret hx hb hr (fun t ht _ => ⟨rfl, ht⟩) (fun q h => nomatch h) dX0_sumOfWarmths_62
  · -- one round
    refine lv_iload_n hx hb dX0_sumOfWarmths_4 rfl (lv_at hl 1 rfl) ?_
    refine lv_aload_n hx hb dX0_sumOfWarmths_5 rfl (lv_at hl 2 rfl) ?_
    refine va_get (D := D) (cl := vwCl) (ci := 0) (v := .int (nI Y)) (C := RX0) (T := TX0) (N := 14) hx hb hts inX0 hown hK hP 0 rfl rfl 1 (by decide) fl32 (fun _ h9 => h9) rfl dX0_sumOfWarmths_6 ?_
    refine lv_icmp_ge (tgt := 61) hx hb dX0_sumOfWarmths_9 (by decide) (fun c9 => False.elim (nI_ge hj (by omega) c9)) (fun _ => ?_)
    refine lv_iconst (v := nI 0) hx hb dX0_sumOfWarmths_12 (by decide) ?_
    refine lv_istore (lv' := [(4, .int (nI 0)), (1, .long (n_sumOfWarmths X σ j)), (3, .int (nI j)), (0, .ref (ad 8))]) hx hb dX0_sumOfWarmths_13 hl (by decide) rfl (fun ls hl => ?_)
    refine W_lr (fun i ls => lv_has ls 5 [(1, .long (n_sumOfWarmthsR0 X σ j (n_sumOfWarmths X σ j) i)), (3, .int (nI j)), (4, .int (nI i)), (0, .ref (ad 8))]) (X) (0) (Nat.zero_le _) (lv_sub hl [1, 2, 0, 3] rfl) (fun ls hl => ?_) (fun i ls hi hl ih2 => ?_)
    · -- behind the loop
      refine lv_iload hx hb dX0_sumOfWarmths_15 (lv_at hl 2 rfl) ?_
      refine lv_aload_n hx hb dX0_sumOfWarmths_17 rfl (lv_at hl 3 rfl) ?_
      refine va_get (D := D) (cl := vwCl) (ci := 0) (v := .int (nI X)) (C := RX0) (T := TX0) (N := 14) hx hb hts inX0 hown hK hP 0 rfl rfl 0 (by decide) fl29 (fun _ h9 => h9) rfl dX0_sumOfWarmths_18 ?_
      refine lv_icmp_ge (tgt := 55) hx hb dX0_sumOfWarmths_21 (by decide) (fun _ => ?_) (fun c9 => False.elim (c9 (nI_le (Nat.le_refl _) (by omega))))
      refine a_inc hx hb (k := 1) (lv' := [(3, .int (nI (j + 1))), (1, .long (n_sumOfWarmthsR0 X σ j (n_sumOfWarmths X σ j) X)), (4, .int (nI X)), (0, .ref (ad 8))]) j dX0_sumOfWarmths_55 hl rfl (by decide) rfl (fun ls hl => ?_)
      refine lv_goto (tgt := 4) hx hb dX0_sumOfWarmths_58 (by decide) ?_
      exact ih1 _ (lv_sub hl [1, 0, 3] rfl)
    · -- one round
      refine lv_iload hx hb dX0_sumOfWarmths_15 (lv_at hl 2 rfl) ?_
      refine lv_aload_n hx hb dX0_sumOfWarmths_17 rfl (lv_at hl 3 rfl) ?_
      refine va_get (D := D) (cl := vwCl) (ci := 0) (v := .int (nI X)) (C := RX0) (T := TX0) (N := 14) hx hb hts inX0 hown hK hP 0 rfl rfl 0 (by decide) fl29 (fun _ h9 => h9) rfl dX0_sumOfWarmths_18 ?_
      refine lv_icmp_ge (tgt := 55) hx hb dX0_sumOfWarmths_21 (by decide) (fun c9 => False.elim (nI_ge hi (by omega) c9)) (fun _ => ?_)
      refine lv_lload_n hx hb dX0_sumOfWarmths_24 rfl (lv_at hl 0 rfl) ?_
      refine W_jn (β := Int64) (fun b4 => b4 = (if σ 0 (pl X i j) ≤ 0 then 0 else (wAt X σ i j).toInt64)) (fun b4 => F0 m 47 ls [.long b4, .long (n_sumOfWarmthsR0 X σ j (n_sumOfWarmths X σ j) i)]) (fun jn3 => ?_) (fun b4 eb4 => ?_)
      · -- roads to 47
        refine lv_aload_n hx hb dX0_sumOfWarmths_25 rfl (lv_at hl 3 rfl) ?_
        refine lv_iload hx hb dX0_sumOfWarmths_26 (lv_at hl 2 rfl) ?_
        refine lv_iload_n hx hb dX0_sumOfWarmths_28 rfl (lv_at hl 1 rfl) ?_
        refine r_V ⟨hx, hb, hml, hown, hts⟩ (k_X0_leadsAt l D cI cJ ad X Y σ hB i j (hi) (hj)) (cwV 2 hts gX0_sumOfWarmths_X0_leadsAt rfl rfl rfl (by decide +kernel) ⟨Nat.le_of_ble_eq_true rfl, Nat.le_of_ble_eq_true rfl⟩) hP hK (va_recv hK hP (ci := 0) (q0 := 0) rfl rfl) rfl hl.1 rfl (Nat.le_of_ble_eq_true rfl) dX0_sumOfWarmths_29 (Nat.zero_le _) (Nat.zero_le _) ?_
        refine lv_if_le (tgt := 46) hx hb dX0_sumOfWarmths_32 (by decide) (fun c5 => ?_) (fun c5 => ?_)
        · -- 46
          refine lv_lconst (v := 0) hx hb dX0_sumOfWarmths_46 (by decide) ?_
          exact jn3 _ (by rw [if_pos c5])
        · -- 35
          refine lv_aload_n hx hb dX0_sumOfWarmths_35 rfl (lv_at hl 3 rfl) ?_
          refine lv_iload hx hb dX0_sumOfWarmths_36 (lv_at hl 2 rfl) ?_
          refine lv_iload_n hx hb dX0_sumOfWarmths_38 rfl (lv_at hl 1 rfl) ?_
          refine r_V ⟨hx, hb, hml, hown, hts⟩ (k_X0_warmthAt l D cI cJ ad X Y σ hB i j (hi) (hj)) (cwV 2 hts gX0_sumOfWarmths_X0_warmthAt rfl rfl rfl (by decide +kernel) ⟨Nat.le_of_ble_eq_true rfl, Nat.le_of_ble_eq_true rfl⟩) hP hK (va_recv hK hP (ci := 0) (q0 := 0) rfl rfl) rfl hl.1 rfl (Nat.le_of_ble_eq_true rfl) dX0_sumOfWarmths_39 (Nat.zero_le _) (Nat.zero_le _) ?_
          refine lv_i2l (v := (wAt X σ i j).toInt64) hx hb dX0_sumOfWarmths_42 rfl ?_
          refine lv_goto (tgt := 47) hx hb dX0_sumOfWarmths_43 (by decide) ?_
          exact jn3 _ (by rw [if_neg c5])
      · -- on from 47
        subst eb4
        refine lv_ladd hx hb dX0_sumOfWarmths_47 ?_
        refine lv_lstore_n (lv' := [(1, .long ((n_sumOfWarmthsR0 X σ j (n_sumOfWarmths X σ j) i) + (if σ 0 (pl X i j) ≤ 0 then 0 else (wAt X σ i j).toInt64))), (3, .int (nI j)), (4, .int (nI i)), (0, .ref (ad 8))]) hx hb dX0_sumOfWarmths_48 rfl hl (by decide) rfl (fun ls hl => ?_)
        refine a_inc hx hb (k := 2) (lv' := [(4, .int (nI (i + 1))), (1, .long ((n_sumOfWarmthsR0 X σ j (n_sumOfWarmths X σ j) i) + (if σ 0 (pl X i j) ≤ 0 then 0 else (wAt X σ i j).toInt64))), (3, .int (nI j)), (0, .ref (ad 8))]) i dX0_sumOfWarmths_49 hl rfl (by decide) rfl (fun ls hl => ?_)
        refine lv_goto (tgt := 15) hx hb dX0_sumOfWarmths_52 (by decide) ?_
        exact ih2 _ (lv_sub hl [1, 2, 0, 3] rfl)
set_option maxHeartbeats 4000000 in
set_option maxRecDepth 100000 in
theorem k_X0_rowsMirror (l : Launch) (D : va_G) (cI cJ : ClassId) (ad : Nat → Nat) (X Y : Nat) (σ : Nat → Nat → Int32) (hB : 1 ≤ X ∧ X ≤ 10 ∧ 1 ≤ Y ∧ Y ≤ 10)   : rMet l yX0_rowsMirror wsX0_rowsMirror 2 45 D (tY cI cJ) (wS ad cI X Y σ) [.ref (ad 8)] (.int (bI (∀ j', j' < Y → ∀ i', i' < X → wAt X σ i' j' = wAt X σ (X - 1 - i') j'))) := by
  refine Met.ofW (cc := cX0_rowsMirror) (maxL := 3) (ret := (some .boolean)) (by decide) rfl ?_
  intro p e s m args below meth c s₁ B hml hv
  obtain ⟨rfl, hP, hK⟩ := hv
  have hx := B.exec
  have hb := B.bytes
  have hr := B.returns
  have hts := atoms_spec (ws := wsX0_rowsMirror) B.pre
  have hown : s.vm.findClass RX0 = some m.cls := findClass_of_methodNamed B.named
  have hlocks := B.notSynchronized
  have inX0 : ∀ w ∈ wsX00, w ∈ wsX0_rowsMirror := by decide +kernel
  have fl32 := hts (.fieldLink RX0 32 "BridgeCells$Section" "rows" "I") (by decide +kernel)
  have fl29 := hts (.fieldLink RX0 29 "BridgeCells$Section" "columns" "I") (by decide +kernel)
  have hl := lv_entry ([.ref (ad 8)]) (n := 3) (Nat.le_of_ble_eq_true rfl)
  rw [lg_entry_eq]
  generalize (lg_sl ([.ref (ad 8)]) ++ List.replicate (3 - (lg_sl ([.ref (ad 8)])).length) Slot.unset).toArray = ls at hl ⊢
  have hl : lv_has ls 3 [(0, .ref (ad 8))] := hl
  refine lv_iconst (v := nI 0) hx hb dX0_rowsMirror_0 (by decide) ?_
  refine lv_istore_n (lv' := [(1, .int (nI 0)), (0, .ref (ad 8))]) hx hb dX0_rowsMirror_1 rfl hl (by decide) rfl (fun ls hl => ?_)
  refine W_lr (fun j ls => (∀ j', j' < j → ∀ i', i' < X → wAt X σ i' j' = wAt X σ (X - 1 - i') j') ∧ lv_has ls 3 [(1, .int (nI j)), (0, .ref (ad 8))]) (Y) (0) (Nat.zero_le _) ⟨fun _ h => absurd h (Nat.not_lt_zero _), lv_sub hl [0, 1] rfl⟩ (fun ls hq => ?_) (fun j ls hj hq ih1 => ?_)
  · -- behind the loop
    obtain ⟨hqj, hl⟩ := hq
    refine lv_iload_n hx hb dX0_rowsMirror_2 rfl (lv_at hl 0 rfl) ?_
    refine lv_aload_n hx hb dX0_rowsMirror_3 rfl (lv_at hl 1 rfl) ?_
    refine va_get (D := D) (cl := vwCl) (ci := 0) (v := .int (nI Y)) (C := RX0) (T := TX0) (N := 14) hx hb hts inX0 hown hK hP 0 rfl rfl 1 (by decide) fl32 (fun _ h9 => h9) rfl dX0_rowsMirror_4 ?_
    refine lv_icmp_ge (tgt := 56) hx hb dX0_rowsMirror_7 (by decide) (fun _ => ?_) (fun c9 => False.elim (c9 (nI_le (Nat.le_refl _) (by omega))))
    refine lv_iconst (v := 1) hx hb dX0_rowsMirror_56 (by decide) ?_
    refine top_eq (y := bI (∀ j', j' < Y → ∀ i', i' < X → wAt X σ i' j' = wAt X σ (X - 1 - i') j')) (bI_t hqj) ?_
    exact W.zret hx hb hr (bI_n _) (fun t ht _ => ⟨rfl, ht⟩) (fun q h => nomatch h) dX0_rowsMirror_57
  · -- one round
    obtain ⟨hqj, hl⟩ := hq
    refine lv_iload_n hx hb dX0_rowsMirror_2 rfl (lv_at hl 0 rfl) ?_
    refine lv_aload_n hx hb dX0_rowsMirror_3 rfl (lv_at hl 1 rfl) ?_
    refine va_get (D := D) (cl := vwCl) (ci := 0) (v := .int (nI Y)) (C := RX0) (T := TX0) (N := 14) hx hb hts inX0 hown hK hP 0 rfl rfl 1 (by decide) fl32 (fun _ h9 => h9) rfl dX0_rowsMirror_4 ?_
    refine lv_icmp_ge (tgt := 56) hx hb dX0_rowsMirror_7 (by decide) (fun c9 => False.elim (nI_ge hj (by omega) c9)) (fun _ => ?_)
    refine lv_iconst (v := nI 0) hx hb dX0_rowsMirror_10 (by decide) ?_
    refine lv_istore_n (lv' := [(2, .int (nI 0)), (1, .int (nI j)), (0, .ref (ad 8))]) hx hb dX0_rowsMirror_11 rfl hl (by decide) rfl (fun ls hl => ?_)
    refine W_lr (fun i ls => (∀ i', i' < i → wAt X σ i' j = wAt X σ (X - 1 - i') j) ∧ lv_has ls 3 [(1, .int (nI j)), (2, .int (nI i)), (0, .ref (ad 8))]) (X) (0) (Nat.zero_le _) ⟨fun _ h => absurd h (Nat.not_lt_zero _), lv_sub hl [1, 0, 2] rfl⟩ (fun ls hq => ?_) (fun i ls hi hq ih2 => ?_)
    · -- behind the loop
      obtain ⟨hqi, hl⟩ := hq
      refine lv_iload_n hx hb dX0_rowsMirror_12 rfl (lv_at hl 1 rfl) ?_
      refine lv_aload_n hx hb dX0_rowsMirror_13 rfl (lv_at hl 2 rfl) ?_
      refine va_get (D := D) (cl := vwCl) (ci := 0) (v := .int (nI X)) (C := RX0) (T := TX0) (N := 14) hx hb hts inX0 hown hK hP 0 rfl rfl 0 (by decide) fl29 (fun _ h9 => h9) rfl dX0_rowsMirror_14 ?_
      refine lv_icmp_ge (tgt := 50) hx hb dX0_rowsMirror_17 (by decide) (fun _ => ?_) (fun c9 => False.elim (c9 (nI_le (Nat.le_refl _) (by omega))))
      refine a_inc hx hb (k := 0) (lv' := [(1, .int (nI (j + 1))), (2, .int (nI X)), (0, .ref (ad 8))]) j dX0_rowsMirror_50 hl rfl (by decide) rfl (fun ls hl => ?_)
      refine lv_goto (tgt := 2) hx hb dX0_rowsMirror_53 (by decide) ?_
      exact ih1 _ ⟨fun j' h i' h2 => (Nat.lt_succ_iff_lt_or_eq.mp h).elim (fun h => hqj j' h i' h2) (fun h => by rw [h]; exact hqi i' h2), lv_sub hl [0, 2] rfl⟩
    · -- one round
      obtain ⟨hqi, hl⟩ := hq
      refine lv_iload_n hx hb dX0_rowsMirror_12 rfl (lv_at hl 1 rfl) ?_
      refine lv_aload_n hx hb dX0_rowsMirror_13 rfl (lv_at hl 2 rfl) ?_
      refine va_get (D := D) (cl := vwCl) (ci := 0) (v := .int (nI X)) (C := RX0) (T := TX0) (N := 14) hx hb hts inX0 hown hK hP 0 rfl rfl 0 (by decide) fl29 (fun _ h9 => h9) rfl dX0_rowsMirror_14 ?_
      refine lv_icmp_ge (tgt := 50) hx hb dX0_rowsMirror_17 (by decide) (fun c9 => False.elim (nI_ge hi (by omega) c9)) (fun _ => ?_)
      refine lv_aload_n hx hb dX0_rowsMirror_20 rfl (lv_at hl 2 rfl) ?_
      refine lv_iload_n hx hb dX0_rowsMirror_21 rfl (lv_at hl 1 rfl) ?_
      refine lv_iload_n hx hb dX0_rowsMirror_22 rfl (lv_at hl 0 rfl) ?_
      refine r_V ⟨hx, hb, hml, hown, hts⟩ (k_X0_warmthAt l D cI cJ ad X Y σ hB i j (hi) (hj)) (cwV 2 hts gX0_rowsMirror_X0_warmthAt rfl rfl rfl (by decide +kernel) ⟨Nat.le_of_ble_eq_true rfl, Nat.le_of_ble_eq_true rfl⟩) hP hK (va_recv hK hP (ci := 0) (q0 := 0) rfl rfl) rfl hl.1 rfl (Nat.le_of_ble_eq_true rfl) dX0_rowsMirror_23 (Nat.zero_le _) (Nat.zero_le _) ?_
      refine lv_aload_n hx hb dX0_rowsMirror_26 rfl (lv_at hl 2 rfl) ?_
      refine lv_aload_n hx hb dX0_rowsMirror_27 rfl (lv_at hl 2 rfl) ?_
      refine va_get (D := D) (cl := vwCl) (ci := 0) (v := .int (nI X)) (C := RX0) (T := TX0) (N := 14) hx hb hts inX0 hown hK hP 0 rfl rfl 0 (by decide) fl29 (fun _ h9 => h9) rfl dX0_rowsMirror_28 ?_
      refine lv_iconst (v := 1) hx hb dX0_rowsMirror_31 (by decide) ?_
      refine lv_isub hx hb dX0_rowsMirror_32 ?_
      refine top_eq (y := nI (X - 1)) (pk_sub (b := 1) hB.1) ?_
      refine lv_iload_n hx hb dX0_rowsMirror_33 rfl (lv_at hl 1 rfl) ?_
      refine lv_isub hx hb dX0_rowsMirror_34 ?_
      refine top_eq (y := nI (X - 1 - i)) (pk_sub (show i ≤ X - 1 by omega)) ?_
      refine lv_iload_n hx hb dX0_rowsMirror_35 rfl (lv_at hl 0 rfl) ?_
      refine r_V ⟨hx, hb, hml, hown, hts⟩ (k_X0_warmthAt l D cI cJ ad X Y σ hB (X - 1 - i) j (by omega) (hj)) (cwV 2 hts gX0_rowsMirror_X0_warmthAt rfl rfl rfl (by decide +kernel) ⟨Nat.le_of_ble_eq_true rfl, Nat.le_of_ble_eq_true rfl⟩) hP hK (va_recv hK hP (ci := 0) (q0 := 0) rfl rfl) rfl hl.1 rfl (Nat.le_of_ble_eq_true rfl) dX0_rowsMirror_36 (Nat.zero_le _) (Nat.zero_le _) ?_
      refine lv_icmp_eq (tgt := 44) hx hb dX0_rowsMirror_39 (by decide) (fun c39 => ?_) (fun c39 => ?_)
      · -- 44
        refine a_inc hx hb (k := 1) (lv' := [(2, .int (nI (i + 1))), (1, .int (nI j)), (0, .ref (ad 8))]) i dX0_rowsMirror_44 hl rfl (by decide) rfl (fun ls hl => ?_)
        refine lv_goto (tgt := 12) hx hb dX0_rowsMirror_47 (by decide) ?_
        exact ih2 _ ⟨fun i' h => (Nat.lt_succ_iff_lt_or_eq.mp h).elim (hqi i') (fun h => by rw [h]; exact c39), lv_sub hl [1, 0, 2] rfl⟩
      · -- 42
        refine lv_iconst (v := 0) hx hb dX0_rowsMirror_42 (by decide) ?_
        refine top_eq (y := bI (∀ j', j' < Y → ∀ i', i' < X → wAt X σ i' j' = wAt X σ (X - 1 - i') j')) (bI_f (fun h => c39 (h j hj i hi))) ?_
        exact W.zret hx hb hr (bI_n _) (fun t ht _ => ⟨rfl, ht⟩) (fun q h => nomatch h) dX0_rowsMirror_43
set_option maxHeartbeats 4000000 in
set_option maxRecDepth 100000 in
theorem k_X0_columnsMirror (l : Launch) (D : va_G) (cI cJ : ClassId) (ad : Nat → Nat) (X Y : Nat) (σ : Nat → Nat → Int32) (hB : 1 ≤ X ∧ X ≤ 10 ∧ 1 ≤ Y ∧ Y ≤ 10)   : rMet l yX0_columnsMirror wsX0_columnsMirror 2 45 D (tY cI cJ) (wS ad cI X Y σ) [.ref (ad 8)] (.int (bI (∀ j', j' < Y → ∀ i', i' < X → wAt X σ i' j' = wAt X σ i' (Y - 1 - j')))) := by
  refine Met.ofW (cc := cX0_columnsMirror) (maxL := 3) (ret := (some .boolean)) (by decide) rfl ?_
  intro p e s m args below meth c s₁ B hml hv
  obtain ⟨rfl, hP, hK⟩ := hv
  have hx := B.exec
  have hb := B.bytes
  have hr := B.returns
  have hts := atoms_spec (ws := wsX0_columnsMirror) B.pre
  have hown : s.vm.findClass RX0 = some m.cls := findClass_of_methodNamed B.named
  have hlocks := B.notSynchronized
  have inX0 : ∀ w ∈ wsX00, w ∈ wsX0_columnsMirror := by decide +kernel
  have fl32 := hts (.fieldLink RX0 32 "BridgeCells$Section" "rows" "I") (by decide +kernel)
  have fl29 := hts (.fieldLink RX0 29 "BridgeCells$Section" "columns" "I") (by decide +kernel)
  have hl := lv_entry ([.ref (ad 8)]) (n := 3) (Nat.le_of_ble_eq_true rfl)
  rw [lg_entry_eq]
  generalize (lg_sl ([.ref (ad 8)]) ++ List.replicate (3 - (lg_sl ([.ref (ad 8)])).length) Slot.unset).toArray = ls at hl ⊢
  have hl : lv_has ls 3 [(0, .ref (ad 8))] := hl
  refine lv_iconst (v := nI 0) hx hb dX0_columnsMirror_0 (by decide) ?_
  refine lv_istore_n (lv' := [(1, .int (nI 0)), (0, .ref (ad 8))]) hx hb dX0_columnsMirror_1 rfl hl (by decide) rfl (fun ls hl => ?_)
  refine W_lr (fun j ls => (∀ j', j' < j → ∀ i', i' < X → wAt X σ i' j' = wAt X σ i' (Y - 1 - j')) ∧ lv_has ls 3 [(1, .int (nI j)), (0, .ref (ad 8))]) (Y) (0) (Nat.zero_le _) ⟨fun _ h => absurd h (Nat.not_lt_zero _), lv_sub hl [0, 1] rfl⟩ (fun ls hq => ?_) (fun j ls hj hq ih1 => ?_)
  · -- behind the loop
    obtain ⟨hqj, hl⟩ := hq
    refine lv_iload_n hx hb dX0_columnsMirror_2 rfl (lv_at hl 0 rfl) ?_
    refine lv_aload_n hx hb dX0_columnsMirror_3 rfl (lv_at hl 1 rfl) ?_
    refine va_get (D := D) (cl := vwCl) (ci := 0) (v := .int (nI Y)) (C := RX0) (T := TX0) (N := 14) hx hb hts inX0 hown hK hP 0 rfl rfl 1 (by decide) fl32 (fun _ h9 => h9) rfl dX0_columnsMirror_4 ?_
    refine lv_icmp_ge (tgt := 56) hx hb dX0_columnsMirror_7 (by decide) (fun _ => ?_) (fun c9 => False.elim (c9 (nI_le (Nat.le_refl _) (by omega))))
    refine lv_iconst (v := 1) hx hb dX0_columnsMirror_56 (by decide) ?_
    refine top_eq (y := bI (∀ j', j' < Y → ∀ i', i' < X → wAt X σ i' j' = wAt X σ i' (Y - 1 - j'))) (bI_t hqj) ?_
    exact W.zret hx hb hr (bI_n _) (fun t ht _ => ⟨rfl, ht⟩) (fun q h => nomatch h) dX0_columnsMirror_57
  · -- one round
    obtain ⟨hqj, hl⟩ := hq
    refine lv_iload_n hx hb dX0_columnsMirror_2 rfl (lv_at hl 0 rfl) ?_
    refine lv_aload_n hx hb dX0_columnsMirror_3 rfl (lv_at hl 1 rfl) ?_
    refine va_get (D := D) (cl := vwCl) (ci := 0) (v := .int (nI Y)) (C := RX0) (T := TX0) (N := 14) hx hb hts inX0 hown hK hP 0 rfl rfl 1 (by decide) fl32 (fun _ h9 => h9) rfl dX0_columnsMirror_4 ?_
    refine lv_icmp_ge (tgt := 56) hx hb dX0_columnsMirror_7 (by decide) (fun c9 => False.elim (nI_ge hj (by omega) c9)) (fun _ => ?_)
    refine lv_iconst (v := nI 0) hx hb dX0_columnsMirror_10 (by decide) ?_
    refine lv_istore_n (lv' := [(2, .int (nI 0)), (1, .int (nI j)), (0, .ref (ad 8))]) hx hb dX0_columnsMirror_11 rfl hl (by decide) rfl (fun ls hl => ?_)
    refine W_lr (fun i ls => (∀ i', i' < i → wAt X σ i' j = wAt X σ i' (Y - 1 - j)) ∧ lv_has ls 3 [(1, .int (nI j)), (2, .int (nI i)), (0, .ref (ad 8))]) (X) (0) (Nat.zero_le _) ⟨fun _ h => absurd h (Nat.not_lt_zero _), lv_sub hl [1, 0, 2] rfl⟩ (fun ls hq => ?_) (fun i ls hi hq ih2 => ?_)
    · -- behind the loop
      obtain ⟨hqi, hl⟩ := hq
      refine lv_iload_n hx hb dX0_columnsMirror_12 rfl (lv_at hl 1 rfl) ?_
      refine lv_aload_n hx hb dX0_columnsMirror_13 rfl (lv_at hl 2 rfl) ?_
      refine va_get (D := D) (cl := vwCl) (ci := 0) (v := .int (nI X)) (C := RX0) (T := TX0) (N := 14) hx hb hts inX0 hown hK hP 0 rfl rfl 0 (by decide) fl29 (fun _ h9 => h9) rfl dX0_columnsMirror_14 ?_
      refine lv_icmp_ge (tgt := 50) hx hb dX0_columnsMirror_17 (by decide) (fun _ => ?_) (fun c9 => False.elim (c9 (nI_le (Nat.le_refl _) (by omega))))
      refine a_inc hx hb (k := 0) (lv' := [(1, .int (nI (j + 1))), (2, .int (nI X)), (0, .ref (ad 8))]) j dX0_columnsMirror_50 hl rfl (by decide) rfl (fun ls hl => ?_)
      refine lv_goto (tgt := 2) hx hb dX0_columnsMirror_53 (by decide) ?_
      exact ih1 _ ⟨fun j' h i' h2 => (Nat.lt_succ_iff_lt_or_eq.mp h).elim (fun h => hqj j' h i' h2) (fun h => by rw [h]; exact hqi i' h2), lv_sub hl [0, 2] rfl⟩
    · -- one round
      obtain ⟨hqi, hl⟩ := hq
      refine lv_iload_n hx hb dX0_columnsMirror_12 rfl (lv_at hl 1 rfl) ?_
      refine lv_aload_n hx hb dX0_columnsMirror_13 rfl (lv_at hl 2 rfl) ?_
      refine va_get (D := D) (cl := vwCl) (ci := 0) (v := .int (nI X)) (C := RX0) (T := TX0) (N := 14) hx hb hts inX0 hown hK hP 0 rfl rfl 0 (by decide) fl29 (fun _ h9 => h9) rfl dX0_columnsMirror_14 ?_
      refine lv_icmp_ge (tgt := 50) hx hb dX0_columnsMirror_17 (by decide) (fun c9 => False.elim (nI_ge hi (by omega) c9)) (fun _ => ?_)
      refine lv_aload_n hx hb dX0_columnsMirror_20 rfl (lv_at hl 2 rfl) ?_
      refine lv_iload_n hx hb dX0_columnsMirror_21 rfl (lv_at hl 1 rfl) ?_
      refine lv_iload_n hx hb dX0_columnsMirror_22 rfl (lv_at hl 0 rfl) ?_
      refine r_V ⟨hx, hb, hml, hown, hts⟩ (k_X0_warmthAt l D cI cJ ad X Y σ hB i j (hi) (hj)) (cwV 2 hts gX0_columnsMirror_X0_warmthAt rfl rfl rfl (by decide +kernel) ⟨Nat.le_of_ble_eq_true rfl, Nat.le_of_ble_eq_true rfl⟩) hP hK (va_recv hK hP (ci := 0) (q0 := 0) rfl rfl) rfl hl.1 rfl (Nat.le_of_ble_eq_true rfl) dX0_columnsMirror_23 (Nat.zero_le _) (Nat.zero_le _) ?_
      refine lv_aload_n hx hb dX0_columnsMirror_26 rfl (lv_at hl 2 rfl) ?_
      refine lv_iload_n hx hb dX0_columnsMirror_27 rfl (lv_at hl 1 rfl) ?_
      refine lv_aload_n hx hb dX0_columnsMirror_28 rfl (lv_at hl 2 rfl) ?_
      refine va_get (D := D) (cl := vwCl) (ci := 0) (v := .int (nI Y)) (C := RX0) (T := TX0) (N := 14) hx hb hts inX0 hown hK hP 0 rfl rfl 1 (by decide) fl32 (fun _ h9 => h9) rfl dX0_columnsMirror_29 ?_
      refine lv_iconst (v := 1) hx hb dX0_columnsMirror_32 (by decide) ?_
      refine lv_isub hx hb dX0_columnsMirror_33 ?_
      refine top_eq (y := nI (Y - 1)) (pk_sub (b := 1) hB.2.2.1) ?_
      refine lv_iload_n hx hb dX0_columnsMirror_34 rfl (lv_at hl 0 rfl) ?_
      refine lv_isub hx hb dX0_columnsMirror_35 ?_
      refine top_eq (y := nI (Y - 1 - j)) (pk_sub (show j ≤ Y - 1 by omega)) ?_
      refine r_V ⟨hx, hb, hml, hown, hts⟩ (k_X0_warmthAt l D cI cJ ad X Y σ hB i (Y - 1 - j) (hi) (by omega)) (cwV 2 hts gX0_columnsMirror_X0_warmthAt rfl rfl rfl (by decide +kernel) ⟨Nat.le_of_ble_eq_true rfl, Nat.le_of_ble_eq_true rfl⟩) hP hK (va_recv hK hP (ci := 0) (q0 := 0) rfl rfl) rfl hl.1 rfl (Nat.le_of_ble_eq_true rfl) dX0_columnsMirror_36 (Nat.zero_le _) (Nat.zero_le _) ?_
      refine lv_icmp_eq (tgt := 44) hx hb dX0_columnsMirror_39 (by decide) (fun c39 => ?_) (fun c39 => ?_)
      · -- 44
        refine a_inc hx hb (k := 1) (lv' := [(2, .int (nI (i + 1))), (1, .int (nI j)), (0, .ref (ad 8))]) i dX0_columnsMirror_44 hl rfl (by decide) rfl (fun ls hl => ?_)
        refine lv_goto (tgt := 12) hx hb dX0_columnsMirror_47 (by decide) ?_
        exact ih2 _ ⟨fun i' h => (Nat.lt_succ_iff_lt_or_eq.mp h).elim (hqi i') (fun h => by rw [h]; exact c39), lv_sub hl [1, 0, 2] rfl⟩
      · -- 42
        refine lv_iconst (v := 0) hx hb dX0_columnsMirror_42 (by decide) ?_
        refine top_eq (y := bI (∀ j', j' < Y → ∀ i', i' < X → wAt X σ i' j' = wAt X σ i' (Y - 1 - j'))) (bI_f (fun h => c39 (h j hj i hi))) ?_
        exact W.zret hx hb hr (bI_n _) (fun t ht _ => ⟨rfl, ht⟩) (fun q h => nomatch h) dX0_columnsMirror_43
set_option maxHeartbeats 4000000 in
set_option maxRecDepth 100000 in
theorem k_X0_flowOf (l : Launch) (D : va_G) (cI cJ : ClassId) (ad : Nat → Nat) (X Y : Nat) (σ : Nat → Nat → Int32) (hB : 1 ≤ X ∧ X ≤ 10 ∧ 1 ≤ Y ∧ Y ≤ 10) (sd : Nat) (hsd : sd < 4) : rMet l yX0_flowOf wsX0_flowOf 2 44 D (tY cI cJ) (wS ad cI X Y σ) [.ref (ad 8), .int (nI sd)] (.long (flowS X Y σ sd)) := by
  refine Met.ofW (cc := cX0_flowOf) (maxL := 7) (ret := (some .long)) (by decide) rfl ?_
  intro p e s m args below meth c s₁ B hml hv
  obtain ⟨rfl, hP, hK⟩ := hv
  have hx := B.exec
  have hb := B.bytes
  have hr := B.returns
  have hts := atoms_spec (ws := wsX0_flowOf) B.pre
  have hown : s.vm.findClass RX0 = some m.cls := findClass_of_methodNamed B.named
  have hlocks := B.notSynchronized
  have inX0 : ∀ w ∈ wsX00, w ∈ wsX0_flowOf := by decide +kernel
  have fl38 := hts (.fieldLink RX0 38 "BridgeCells$Section" "conduct" "[I") (by decide +kernel)
  have fl15 := hts (.fieldLink RX0 15 "BridgeCells$Section" "sideFilm" "[I") (by decide +kernel)
  have fl9 := hts (.fieldLink RX0 9 "BridgeCells$Section" "sideWarmth" "[I") (by decide +kernel)
  have fl41 := hts (.fieldLink RX0 41 "BridgeCells$Section" "warm" "[I") (by decide +kernel)
  have hl := lv_entry ([.ref (ad 8), .int (nI sd)]) (n := 7) (Nat.le_of_ble_eq_true rfl)
  rw [lg_entry_eq]
  generalize (lg_sl ([.ref (ad 8), .int (nI sd)]) ++ List.replicate (7 - (lg_sl ([.ref (ad 8), .int (nI sd)])).length) Slot.unset).toArray = ls at hl ⊢
  have hl : lv_has ls 7 [(0, .ref (ad 8)), (1, .int (nI sd))] := hl
  have hc9 := cA_le (sd := sd) hB
  refine lv_lconst (v := 0) hx hb dX0_flowOf_0 (by decide) ?_
  refine lv_lstore_n (lv' := [(2, .long 0), (0, .ref (ad 8)), (1, .int (nI sd))]) hx hb dX0_flowOf_1 rfl hl (by decide) rfl (fun ls hl => ?_)
  refine lv_aload_n hx hb dX0_flowOf_2 rfl (lv_at hl 1 rfl) ?_
  refine lv_iload_n hx hb dX0_flowOf_3 rfl (lv_at hl 2 rfl) ?_
  refine r_V ⟨hx, hb, hml, hown, hts⟩ (k_X0_countAlong l D cI cJ ad X Y σ hB sd (hsd)) (cwV 1 hts gX0_flowOf_X0_countAlong rfl rfl rfl (by decide +kernel) ⟨Nat.le_of_ble_eq_true rfl, Nat.le_of_ble_eq_true rfl⟩) hP hK (va_recv hK hP (ci := 0) (q0 := 0) rfl rfl) rfl hl.1 rfl (Nat.le_of_ble_eq_true rfl) dX0_flowOf_4 (Nat.zero_le _) (Nat.zero_le _) ?_
  refine lv_istore (lv' := [(4, .int (nI (cAlong X Y sd))), (2, .long 0), (0, .ref (ad 8)), (1, .int (nI sd))]) hx hb dX0_flowOf_7 hl (by decide) rfl (fun ls hl => ?_)
  refine lv_iconst (v := nI 0) hx hb dX0_flowOf_9 (by decide) ?_
  refine lv_istore (lv' := [(5, .int (nI 0)), (4, .int (nI (cAlong X Y sd))), (2, .long 0), (0, .ref (ad 8)), (1, .int (nI sd))]) hx hb dX0_flowOf_10 hl (by decide) rfl (fun ls hl => ?_)
  refine W_lr (fun k ls => lv_has ls 7 [(2, .long (n_flow X Y σ sd k)), (5, .int (nI k)), (0, .ref (ad 8)), (1, .int (nI sd)), (4, .int (nI (cAlong X Y sd)))]) (cAlong X Y sd) (0) (Nat.zero_le _) (lv_sub hl [2, 0, 3, 4, 1] rfl) (fun ls hl => ?_) (fun k ls hk hl ih1 => ?_)
  · -- behind the loop
    refine lv_iload hx hb dX0_flowOf_12 (lv_at hl 1 rfl) ?_
    refine lv_iload hx hb dX0_flowOf_14 (lv_at hl 4 rfl) ?_
    refine lv_icmp_ge (tgt := 69) hx hb dX0_flowOf_16 (by decide) (fun _ => ?_) (fun c9 => False.elim (c9 (nI_le (Nat.le_refl _) (by omega))))
    refine lv_lload_n hx hb dX0_flowOf_69 rfl (lv_at hl 0 rfl) ?_
    exact W.lret hx hb hr (fun t ht _ => ⟨rfl, ht⟩) (fun q h => nomatch h) dX0_flowOf_70
  · -- one round
    refine lv_iload hx hb dX0_flowOf_12 (lv_at hl 1 rfl) ?_
    refine lv_iload hx hb dX0_flowOf_14 (lv_at hl 4 rfl) ?_
    refine lv_icmp_ge (tgt := 69) hx hb dX0_flowOf_16 (by decide) (fun c9 => False.elim (nI_ge hk (by omega) c9)) (fun _ => ?_)
    refine lv_aload_n hx hb dX0_flowOf_19 rfl (lv_at hl 2 rfl) ?_
    refine lv_iload_n hx hb dX0_flowOf_20 rfl (lv_at hl 3 rfl) ?_
    refine lv_iload hx hb dX0_flowOf_21 (lv_at hl 1 rfl) ?_
    refine r_V ⟨hx, hb, hml, hown, hts⟩ (k_X0_cellAlong l D cI cJ ad X Y σ hB sd k (hsd)) (cwV 2 hts gX0_flowOf_X0_cellAlong rfl rfl rfl (by decide +kernel) ⟨Nat.le_of_ble_eq_true rfl, Nat.le_of_ble_eq_true rfl⟩) hP hK (va_recv hK hP (ci := 0) (q0 := 0) rfl rfl) rfl hl.1 rfl (Nat.le_of_ble_eq_true rfl) dX0_flowOf_23 (Nat.zero_le _) (Nat.zero_le _) ?_
    refine lv_istore (lv' := [(6, .int (nI (clA X Y sd k))), (2, .long (n_flow X Y σ sd k)), (5, .int (nI k)), (0, .ref (ad 8)), (1, .int (nI sd)), (4, .int (nI (cAlong X Y sd)))]) hx hb dX0_flowOf_26 hl (by decide) rfl (fun ls hl => ?_)
    refine lv_lload_n hx hb dX0_flowOf_28 rfl (lv_at hl 1 rfl) ?_
    refine lv_aload_n hx hb dX0_flowOf_29 rfl (lv_at hl 3 rfl) ?_
    refine va_get (D := D) (cl := vwCl) (ci := 0) (v := .ref (ad 0)) (C := RX0) (T := TX0) (N := 14) hx hb hts inX0 hown hK hP 0 rfl rfl 3 (by decide) fl38 (fun _ h9 => h9) rfl dX0_flowOf_30 ?_
    refine lv_iload hx hb dX0_flowOf_33 (lv_at hl 0 rfl) ?_
    refine a_ld hx hb hK hP 1 0 rfl rfl (clA X Y sd k) (rfl) (clA_in hB hsd hk) (pl_N hB) dX0_flowOf_35 ?_
    refine lv_aload_n hx hb dX0_flowOf_36 rfl (lv_at hl 3 rfl) ?_
    refine va_get (D := D) (cl := vwCl) (ci := 0) (v := .ref (ad 7)) (C := RX0) (T := TX0) (N := 14) hx hb hts inX0 hown hK hP 0 rfl rfl 10 (by decide) fl15 (fun _ h9 => h9) rfl dX0_flowOf_37 ?_
    refine lv_iload_n hx hb dX0_flowOf_40 rfl (lv_at hl 4 rfl) ?_
    refine a_ld hx hb hK hP 8 0 rfl rfl sd (rfl) (hsd) (by decide) dX0_flowOf_41 ?_
    refine r_S ⟨hx, hb, hml, hown, hts⟩ (k_X0_couple l D cI cJ (σ 0 (clA X Y sd k)) (σ 7 sd)) (va_cwS 2 hts gX0_flowOf_X0_couple rfl rfl rfl (by decide +kernel) ⟨Nat.le_of_ble_eq_true rfl, Nat.le_of_ble_eq_true rfl⟩) P_nil hK rfl hl.1 rfl (Nat.le_of_ble_eq_true rfl) dX0_flowOf_42 (Nat.zero_le _) (Nat.zero_le _) ?_
    refine lv_aload_n hx hb dX0_flowOf_45 rfl (lv_at hl 3 rfl) ?_
    refine va_get (D := D) (cl := vwCl) (ci := 0) (v := .ref (ad 6)) (C := RX0) (T := TX0) (N := 14) hx hb hts inX0 hown hK hP 0 rfl rfl 9 (by decide) fl9 (fun _ h9 => h9) rfl dX0_flowOf_46 ?_
    refine lv_iload_n hx hb dX0_flowOf_49 rfl (lv_at hl 4 rfl) ?_
    refine a_ld hx hb hK hP 7 0 rfl rfl sd (rfl) (hsd) (by decide) dX0_flowOf_50 ?_
    refine lv_aload_n hx hb dX0_flowOf_51 rfl (lv_at hl 3 rfl) ?_
    refine va_get (D := D) (cl := vwCl) (ci := 0) (v := .ref (ad 1)) (C := RX0) (T := TX0) (N := 14) hx hb hts inX0 hown hK hP 0 rfl rfl 4 (by decide) fl41 (fun _ h9 => h9) rfl dX0_flowOf_52 ?_
    refine lv_iload hx hb dX0_flowOf_55 (lv_at hl 0 rfl) ?_
    refine a_ld hx hb hK hP 2 0 rfl rfl (clA X Y sd k) (rfl) (clA_in hB hsd hk) (pl_N hB) dX0_flowOf_57 ?_
    refine lv_isub hx hb dX0_flowOf_58 ?_
    refine lv_imul hx hb dX0_flowOf_59 ?_
    refine lv_i2l (v := ((cpl (σ 0 (clA X Y sd k)) (σ 7 sd)) * ((σ 6 sd) - (σ 1 (clA X Y sd k)))).toInt64) hx hb dX0_flowOf_60 rfl ?_
    refine lv_ladd hx hb dX0_flowOf_61 ?_
    refine lv_lstore_n (lv' := [(2, .long ((n_flow X Y σ sd k) + (((cpl (σ 0 (clA X Y sd k)) (σ 7 sd)) * ((σ 6 sd) - (σ 1 (clA X Y sd k)))).toInt64))), (6, .int (nI (clA X Y sd k))), (5, .int (nI k)), (0, .ref (ad 8)), (1, .int (nI sd)), (4, .int (nI (cAlong X Y sd)))]) hx hb dX0_flowOf_62 rfl hl (by decide) rfl (fun ls hl => ?_)
    refine a_inc hx hb (k := 2) (lv' := [(5, .int (nI (k + 1))), (2, .long ((n_flow X Y σ sd k) + (((cpl (σ 0 (clA X Y sd k)) (σ 7 sd)) * ((σ 6 sd) - (σ 1 (clA X Y sd k)))).toInt64))), (6, .int (nI (clA X Y sd k))), (0, .ref (ad 8)), (1, .int (nI sd)), (4, .int (nI (cAlong X Y sd)))]) k dX0_flowOf_63 hl rfl (by decide) rfl (fun ls hl => ?_)
    refine lv_goto (tgt := 12) hx hb dX0_flowOf_66 (by decide) ?_
    exact ih1 _ (lv_sub hl [1, 0, 3, 4, 5] rfl)
set_option maxHeartbeats 4000000 in
set_option maxRecDepth 100000 in
theorem k_X0_heat (l : Launch) (D : va_G) (cI cJ : ClassId) (ad : Nat → Nat) (X Y : Nat) (σ : Nat → Nat → Int32) (hB : 1 ≤ X ∧ X ≤ 10 ∧ 1 ≤ Y ∧ Y ≤ 10)   : rMet l yX0_heat wsX0_heat 3 70 D (tY cI cJ) (wS ad cI X Y σ) [.ref (ad 8)] (.long (n_heat X Y σ 4)) := by
  refine Met.ofW (cc := cX0_heat) (maxL := 4) (ret := (some .long)) (by decide) rfl ?_
  intro p e s m args below meth c s₁ B hml hv
  obtain ⟨rfl, hP, hK⟩ := hv
  have hx := B.exec
  have hb := B.bytes
  have hr := B.returns
  have hts := atoms_spec (ws := wsX0_heat) B.pre
  have hown : s.vm.findClass RX0 = some m.cls := findClass_of_methodNamed B.named
  have hlocks := B.notSynchronized
  have ml97 := hts (.methodLink RX0 97 Lib.MathLoose.max_long.x) (by decide +kernel)
  have ms_max1 := hts (.static Lib.MathLoose.max_long.x) (by decide +kernel)
  have mi := hts (.initialized "java/lang/Math") (by decide +kernel)
  have mc_max1 := hts (.code Lib.MathLoose.max_long.x Lib.MathLoose.max_long.code 4 (some .long)) (by decide +kernel)
  have hl := lv_entry ([.ref (ad 8)]) (n := 4) (Nat.le_of_ble_eq_true rfl)
  rw [lg_entry_eq]
  generalize (lg_sl ([.ref (ad 8)]) ++ List.replicate (4 - (lg_sl ([.ref (ad 8)])).length) Slot.unset).toArray = ls at hl ⊢
  have hl : lv_has ls 4 [(0, .ref (ad 8))] := hl
  refine lv_lconst (v := 0) hx hb dX0_heat_0 (by decide) ?_
  refine lv_lstore_n (lv' := [(1, .long 0), (0, .ref (ad 8))]) hx hb dX0_heat_1 rfl hl (by decide) rfl (fun ls hl => ?_)
  refine lv_iconst (v := nI 0) hx hb dX0_heat_2 (by decide) ?_
  refine lv_istore_n (lv' := [(3, .int (nI 0)), (1, .long 0), (0, .ref (ad 8))]) hx hb dX0_heat_3 rfl hl (by decide) rfl (fun ls hl => ?_)
  refine W_lr (fun sd ls => lv_has ls 4 [(1, .long (n_heat X Y σ sd)), (3, .int (nI sd)), (0, .ref (ad 8))]) (4) (0) (Nat.zero_le _) (lv_sub hl [1, 0, 2] rfl) (fun ls hl => ?_) (fun sd ls hsd hl ih1 => ?_)
  · -- behind the loop
    refine lv_iload_n hx hb dX0_heat_4 rfl (lv_at hl 1 rfl) ?_
    refine lv_iconst (v := nI 4) hx hb dX0_heat_5 (by decide) ?_
    refine lv_icmp_ge (tgt := 27) hx hb dX0_heat_6 (by decide) (fun _ => ?_) (fun c9 => False.elim (c9 (nI_le (Nat.le_refl _) (by decide))))
    refine lv_lload_n hx hb dX0_heat_27 rfl (lv_at hl 0 rfl) ?_
    exact W.lret hx hb hr (fun t ht _ => ⟨rfl, ht⟩) (fun q h => nomatch h) dX0_heat_28
  · -- one round
    refine lv_iload_n hx hb dX0_heat_4 rfl (lv_at hl 1 rfl) ?_
    refine lv_iconst (v := nI 4) hx hb dX0_heat_5 (by decide) ?_
    refine lv_icmp_ge (tgt := 27) hx hb dX0_heat_6 (by decide) (fun c9 => False.elim (nI_ge hsd (by decide) c9)) (fun _ => ?_)
    refine lv_lload_n hx hb dX0_heat_9 rfl (lv_at hl 0 rfl) ?_
    refine lv_lconst (v := 0) hx hb dX0_heat_10 (by decide) ?_
    refine lv_aload_n hx hb dX0_heat_11 rfl (lv_at hl 2 rfl) ?_
    refine lv_iload_n hx hb dX0_heat_12 rfl (lv_at hl 1 rfl) ?_
    refine r_V ⟨hx, hb, hml, hown, hts⟩ (k_X0_flowOf l D cI cJ ad X Y σ hB sd (hsd)) (cwV 1 hts gX0_heat_X0_flowOf rfl rfl rfl (by decide +kernel) ⟨Nat.le_of_ble_eq_true rfl, Nat.le_of_ble_eq_true rfl⟩) hP hK (va_recv hK hP (ci := 0) (q0 := 0) rfl rfl) rfl hl.1 rfl (Nat.le_of_ble_eq_true rfl) dX0_heat_13 (Nat.zero_le _) (Nat.zero_le _) ?_
    refine va_mmax_long hx hb (by rw [hml]; exact hl.1.symm) hown ml97 ms_max1 mi mc_max1 (Nat.le_of_ble_eq_true rfl) (Nat.le_of_ble_eq_true rfl) (Nat.zero_le _) (Nat.zero_le _) dX0_heat_16 ?_
    refine lv_ladd hx hb dX0_heat_19 ?_
    refine lv_lstore_n (lv' := [(1, .long ((n_heat X Y σ sd) + (if flowS X Y σ sd < 0 then 0 else flowS X Y σ sd))), (3, .int (nI sd)), (0, .ref (ad 8))]) hx hb dX0_heat_20 rfl hl (by decide) rfl (fun ls hl => ?_)
    refine a_inc hx hb (k := 1) (lv' := [(3, .int (nI (sd + 1))), (1, .long ((n_heat X Y σ sd) + (if flowS X Y σ sd < 0 then 0 else flowS X Y σ sd))), (0, .ref (ad 8))]) sd dX0_heat_21 hl rfl (by decide) rfl (fun ls hl => ?_)
    refine lv_goto (tgt := 4) hx hb dX0_heat_24 (by decide) ?_
    exact ih1 _ (lv_sub hl [1, 0, 2] rfl)
set_option maxHeartbeats 4000000 in
set_option maxRecDepth 100000 in
theorem k_X0_rest (l : Launch) (D : va_G) (cI cJ : ClassId) (ad : Nat → Nat) (X Y : Nat) (σ : Nat → Nat → Int32) (hB : 1 ≤ X ∧ X ≤ 10 ∧ 1 ≤ Y ∧ Y ≤ 10)   : rMet l yX0_rest wsX0_rest 3 70 D (tY cI cJ) (wS ad cI X Y σ) [.ref (ad 8)] (.long (n_rest X Y σ 4)) := by
  refine Met.ofW (cc := cX0_rest) (maxL := 4) (ret := (some .long)) (by decide) rfl ?_
  intro p e s m args below meth c s₁ B hml hv
  obtain ⟨rfl, hP, hK⟩ := hv
  have hx := B.exec
  have hb := B.bytes
  have hr := B.returns
  have hts := atoms_spec (ws := wsX0_rest) B.pre
  have hown : s.vm.findClass RX0 = some m.cls := findClass_of_methodNamed B.named
  have hlocks := B.notSynchronized
  have hl := lv_entry ([.ref (ad 8)]) (n := 4) (Nat.le_of_ble_eq_true rfl)
  rw [lg_entry_eq]
  generalize (lg_sl ([.ref (ad 8)]) ++ List.replicate (4 - (lg_sl ([.ref (ad 8)])).length) Slot.unset).toArray = ls at hl ⊢
  have hl : lv_has ls 4 [(0, .ref (ad 8))] := hl
  refine lv_lconst (v := 0) hx hb dX0_rest_0 (by decide) ?_
  refine lv_lstore_n (lv' := [(1, .long 0), (0, .ref (ad 8))]) hx hb dX0_rest_1 rfl hl (by decide) rfl (fun ls hl => ?_)
  refine lv_iconst (v := nI 0) hx hb dX0_rest_2 (by decide) ?_
  refine lv_istore_n (lv' := [(3, .int (nI 0)), (1, .long 0), (0, .ref (ad 8))]) hx hb dX0_rest_3 rfl hl (by decide) rfl (fun ls hl => ?_)
  refine W_lr (fun sd ls => lv_has ls 4 [(1, .long (n_rest X Y σ sd)), (3, .int (nI sd)), (0, .ref (ad 8))]) (4) (0) (Nat.zero_le _) (lv_sub hl [1, 0, 2] rfl) (fun ls hl => ?_) (fun sd ls hsd hl ih1 => ?_)
  · -- behind the loop
    refine lv_iload_n hx hb dX0_rest_4 rfl (lv_at hl 1 rfl) ?_
    refine lv_iconst (v := nI 4) hx hb dX0_rest_5 (by decide) ?_
    refine lv_icmp_ge (tgt := 23) hx hb dX0_rest_6 (by decide) (fun _ => ?_) (fun c9 => False.elim (c9 (nI_le (Nat.le_refl _) (by decide))))
    refine lv_lload_n hx hb dX0_rest_23 rfl (lv_at hl 0 rfl) ?_
    exact W.lret hx hb hr (fun t ht _ => ⟨rfl, ht⟩) (fun q h => nomatch h) dX0_rest_24
  · -- one round
    refine lv_iload_n hx hb dX0_rest_4 rfl (lv_at hl 1 rfl) ?_
    refine lv_iconst (v := nI 4) hx hb dX0_rest_5 (by decide) ?_
    refine lv_icmp_ge (tgt := 23) hx hb dX0_rest_6 (by decide) (fun c9 => False.elim (nI_ge hsd (by decide) c9)) (fun _ => ?_)
    refine lv_lload_n hx hb dX0_rest_9 rfl (lv_at hl 0 rfl) ?_
    refine lv_aload_n hx hb dX0_rest_10 rfl (lv_at hl 2 rfl) ?_
    refine lv_iload_n hx hb dX0_rest_11 rfl (lv_at hl 1 rfl) ?_
    refine r_V ⟨hx, hb, hml, hown, hts⟩ (k_X0_flowOf l D cI cJ ad X Y σ hB sd (hsd)) (cwV 1 hts gX0_rest_X0_flowOf rfl rfl rfl (by decide +kernel) ⟨Nat.le_of_ble_eq_true rfl, Nat.le_of_ble_eq_true rfl⟩) hP hK (va_recv hK hP (ci := 0) (q0 := 0) rfl rfl) rfl hl.1 rfl (Nat.le_of_ble_eq_true rfl) dX0_rest_12 (Nat.zero_le _) (Nat.zero_le _) ?_
    refine lv_ladd hx hb dX0_rest_15 ?_
    refine lv_lstore_n (lv' := [(1, .long ((n_rest X Y σ sd) + (flowS X Y σ sd))), (3, .int (nI sd)), (0, .ref (ad 8))]) hx hb dX0_rest_16 rfl hl (by decide) rfl (fun ls hl => ?_)
    refine a_inc hx hb (k := 1) (lv' := [(3, .int (nI (sd + 1))), (1, .long ((n_rest X Y σ sd) + (flowS X Y σ sd))), (0, .ref (ad 8))]) sd dX0_rest_17 hl rfl (by decide) rfl (fun ls hl => ?_)
    refine lv_goto (tgt := 4) hx hb dX0_rest_20 (by decide) ?_
    exact ih1 _ (lv_sub hl [1, 0, 2] rfl)
set_option maxHeartbeats 4000000 in
set_option maxRecDepth 100000 in
theorem k_X0_coldestAlong (l : Launch) (D : va_G) (cI cJ : ClassId) (ad : Nat → Nat) (X Y : Nat) (σ : Nat → Nat → Int32) (hB : 1 ≤ X ∧ X ≤ 10 ∧ 1 ≤ Y ∧ Y ≤ 10) (sd : Nat) (hsd : sd < 4) : rMet l yX0_coldestAlong wsX0_coldestAlong 3 66 D (tY cI cJ) (wS ad cI X Y σ) [.ref (ad 8), .int (nI sd)] (.int (bO (coldS X Y σ sd))) := by
  refine Met.ofW (cc := cX0_coldestAlong) (maxL := 6) (ret := (some .int)) (by decide) rfl ?_
  intro p e s m args below meth c s₁ B hml hv
  obtain ⟨rfl, hP, hK⟩ := hv
  have hx := B.exec
  have hb := B.bytes
  have hr := B.returns
  have hts := atoms_spec (ws := wsX0_coldestAlong) B.pre
  have hown : s.vm.findClass RX0 = some m.cls := findClass_of_methodNamed B.named
  have hlocks := B.notSynchronized
  have inX0 : ∀ w ∈ wsX00, w ∈ wsX0_coldestAlong := by decide +kernel
  have fl38 := hts (.fieldLink RX0 38 "BridgeCells$Section" "conduct" "[I") (by decide +kernel)
  have hl := lv_entry ([.ref (ad 8), .int (nI sd)]) (n := 6) (Nat.le_of_ble_eq_true rfl)
  rw [lg_entry_eq]
  generalize (lg_sl ([.ref (ad 8), .int (nI sd)]) ++ List.replicate (6 - (lg_sl ([.ref (ad 8), .int (nI sd)])).length) Slot.unset).toArray = ls at hl ⊢
  have hl : lv_has ls 6 [(0, .ref (ad 8)), (1, .int (nI sd))] := hl
  have hc9 := cA_le (sd := sd) hB
  refine lv_iconst (v := bO none) hx hb dX0_coldestAlong_0 (by decide) ?_
  refine lv_istore_n (lv' := [(2, .int (bO none)), (0, .ref (ad 8)), (1, .int (nI sd))]) hx hb dX0_coldestAlong_1 rfl hl (by decide) rfl (fun ls hl => ?_)
  refine lv_aload_n hx hb dX0_coldestAlong_2 rfl (lv_at hl 1 rfl) ?_
  refine lv_iload_n hx hb dX0_coldestAlong_3 rfl (lv_at hl 2 rfl) ?_
  refine r_V ⟨hx, hb, hml, hown, hts⟩ (k_X0_countAlong l D cI cJ ad X Y σ hB sd (hsd)) (cwV 1 hts gX0_coldestAlong_X0_countAlong rfl rfl rfl (by decide +kernel) ⟨Nat.le_of_ble_eq_true rfl, Nat.le_of_ble_eq_true rfl⟩) hP hK (va_recv hK hP (ci := 0) (q0 := 0) rfl rfl) rfl hl.1 rfl (Nat.le_of_ble_eq_true rfl) dX0_coldestAlong_4 (Nat.zero_le _) (Nat.zero_le _) ?_
  refine lv_istore_n (lv' := [(3, .int (nI (cAlong X Y sd))), (2, .int (bO none)), (0, .ref (ad 8)), (1, .int (nI sd))]) hx hb dX0_coldestAlong_7 rfl hl (by decide) rfl (fun ls hl => ?_)
  refine lv_iconst (v := nI 0) hx hb dX0_coldestAlong_8 (by decide) ?_
  refine lv_istore (lv' := [(4, .int (nI 0)), (3, .int (nI (cAlong X Y sd))), (2, .int (bO none)), (0, .ref (ad 8)), (1, .int (nI sd))]) hx hb dX0_coldestAlong_9 hl (by decide) rfl (fun ls hl => ?_)
  refine W_lr (fun k ls => lv_has ls 6 [(2, .int (bO (n_cold X Y σ sd k))), (4, .int (nI k)), (0, .ref (ad 8)), (1, .int (nI sd)), (3, .int (nI (cAlong X Y sd)))]) (cAlong X Y sd) 0 (Nat.zero_le _) (lv_sub hl [2, 0, 3, 4, 1] rfl) (fun ls hl => ?_) (fun k ls hk hl ih1 => ?_)
  · -- behind
    refine lv_iload hx hb dX0_coldestAlong_11 (lv_at hl 1 rfl) ?_
    refine lv_iload_n hx hb dX0_coldestAlong_13 rfl (lv_at hl 4 rfl) ?_
    refine lv_icmp_ge (tgt := 73) hx hb dX0_coldestAlong_14 (by decide) (fun _ => ?_) (fun c9 => False.elim (c9 (nI_le (Nat.le_refl _) (by omega))))
    refine lv_iload_n hx hb dX0_coldestAlong_73 rfl (lv_at hl 0 rfl) ?_
    exact W.iret hx hb hr (fun t ht _ => ⟨rfl, ht⟩) (fun q h => nomatch h) dX0_coldestAlong_74
  · -- one round
    refine lv_iload hx hb dX0_coldestAlong_11 (lv_at hl 1 rfl) ?_
    refine lv_iload_n hx hb dX0_coldestAlong_13 rfl (lv_at hl 4 rfl) ?_
    refine lv_icmp_ge (tgt := 73) hx hb dX0_coldestAlong_14 (by decide) (fun c9 => False.elim (nI_ge hk (by omega) c9)) (fun _ => ?_)
    refine lv_aload_n hx hb dX0_coldestAlong_17 rfl (lv_at hl 2 rfl) ?_
    refine va_get (D := D) (cl := vwCl) (ci := 0) (v := .ref (ad 0)) (C := RX0) (T := TX0) (N := 14) hx hb hts inX0 hown hK hP 0 rfl rfl 3 (by decide) fl38 (fun _ h9 => h9) rfl dX0_coldestAlong_18 ?_
    refine lv_aload_n hx hb dX0_coldestAlong_21 rfl (lv_at hl 2 rfl) ?_
    refine lv_iload_n hx hb dX0_coldestAlong_22 rfl (lv_at hl 3 rfl) ?_
    refine lv_iload hx hb dX0_coldestAlong_23 (lv_at hl 1 rfl) ?_
    refine r_V ⟨hx, hb, hml, hown, hts⟩ (k_X0_cellAlong l D cI cJ ad X Y σ hB sd k (hsd)) (cwV 2 hts gX0_coldestAlong_X0_cellAlong rfl rfl rfl (by decide +kernel) ⟨Nat.le_of_ble_eq_true rfl, Nat.le_of_ble_eq_true rfl⟩) hP hK (va_recv hK hP (ci := 0) (q0 := 0) rfl rfl) rfl hl.1 rfl (Nat.le_of_ble_eq_true rfl) dX0_coldestAlong_25 (Nat.zero_le _) (Nat.zero_le _) ?_
    refine a_ld hx hb hK hP 1 0 rfl rfl (clA X Y sd k) (rfl) (clA_in hB hsd hk) (pl_N hB) dX0_coldestAlong_28 ?_
    refine lv_if_le (tgt := 36) hx hb dX0_coldestAlong_29 (by decide) (fun c29 => ?_) (fun c29 => ?_)
    · -- 36
      refine lv_iconst (v := 0) hx hb dX0_coldestAlong_36 (by decide) ?_
      refine lv_istore (lv' := [(5, .int 0), (2, .int (bO (n_cold X Y σ sd k))), (4, .int (nI k)), (0, .ref (ad 8)), (1, .int (nI sd)), (3, .int (nI (cAlong X Y sd)))]) hx hb dX0_coldestAlong_37 hl (by decide) rfl (fun ls hl => ?_)
      refine lv_iload hx hb dX0_coldestAlong_39 (lv_at hl 0 rfl) ?_
      refine lv_if_eq (tgt := 67) hx hb dX0_coldestAlong_41 (by decide) (fun _ => ?_) (fun c9 => (c9 rfl).elim)
      refine a_inc hx hb (k := 2) (lv' := [(4, .int (nI (k + 1))), (5, .int 0), (2, .int (bO (n_cold X Y σ sd k))), (0, .ref (ad 8)), (1, .int (nI sd)), (3, .int (nI (cAlong X Y sd)))]) k dX0_coldestAlong_67 hl rfl (by decide) rfl (fun ls hl => ?_)
      refine lv_goto (tgt := 11) hx hb dX0_coldestAlong_70 (by decide) ?_
      have e9 : n_cold X Y σ sd (k + 1) = n_cold X Y σ sd k := by rw [n_cold_s]; unfold coldF; rw [if_pos c29]
      exact ih1 _ (by rw [e9]; exact lv_sub hl [2, 0, 3, 4, 5] rfl)
    · -- 32
      refine lv_iconst (v := 1) hx hb dX0_coldestAlong_32 (by decide) ?_
      refine lv_goto (tgt := 37) hx hb dX0_coldestAlong_33 (by decide) ?_
      refine lv_istore (lv' := [(5, .int 1), (2, .int (bO (n_cold X Y σ sd k))), (4, .int (nI k)), (0, .ref (ad 8)), (1, .int (nI sd)), (3, .int (nI (cAlong X Y sd)))]) hx hb dX0_coldestAlong_37 hl (by decide) rfl (fun ls hl => ?_)
      refine lv_iload hx hb dX0_coldestAlong_39 (lv_at hl 0 rfl) ?_
      refine lv_if_eq (tgt := 67) hx hb dX0_coldestAlong_41 (by decide) (fun c9 => absurd c9 (by decide)) (fun _ => ?_)
      rcases hq : n_cold X Y σ sd k with _ | q
      · -- none
        rw [hq] at hl
        have hl : lv_has ls 6 [(5, .int 1), (2, .int (bO none)), (4, .int (nI k)), (0, .ref (ad 8)), (1, .int (nI sd)), (3, .int (nI (cAlong X Y sd)))] := hl
        refine lv_iload_n hx hb dX0_coldestAlong_44 rfl (lv_at hl 1 rfl) ?_
        refine lv_if_lt (tgt := 64) hx hb dX0_coldestAlong_45 (by decide) (fun _ => ?_) (fun c9 => (c9 (by decide)).elim)
        refine lv_iload hx hb dX0_coldestAlong_64 (lv_at hl 2 rfl) ?_
        refine lv_istore_n (lv' := [(2, .int (nI k)), (5, .int 1), (4, .int (nI k)), (0, .ref (ad 8)), (1, .int (nI sd)), (3, .int (nI (cAlong X Y sd)))]) hx hb dX0_coldestAlong_66 rfl hl (by decide) rfl (fun ls hl => ?_)
        refine a_inc hx hb (k := 2) (lv' := [(4, .int (nI (k + 1))), (2, .int (nI k)), (5, .int 1), (0, .ref (ad 8)), (1, .int (nI sd)), (3, .int (nI (cAlong X Y sd)))]) k dX0_coldestAlong_67 hl rfl (by decide) rfl (fun ls hl => ?_)
        refine lv_goto (tgt := 11) hx hb dX0_coldestAlong_70 (by decide) ?_
        have e9 : n_cold X Y σ sd (k + 1) = some k := by rw [n_cold_s]; rw [hq]; unfold coldF; rw [if_neg c29]
        exact ih1 _ (by rw [e9]; exact lv_sub hl [1, 0, 3, 4, 5] rfl)
      · -- some
        rw [hq] at hl
        have hl : lv_has ls 6 [(5, .int 1), (2, .int (nI q)), (4, .int (nI k)), (0, .ref (ad 8)), (1, .int (nI sd)), (3, .int (nI (cAlong X Y sd)))] := hl
        have hq2 : q < cAlong X Y sd := Nat.lt_trans (cold_lt hq) hk
        refine lv_iload_n hx hb dX0_coldestAlong_44 rfl (lv_at hl 1 rfl) ?_
        refine lv_if_lt (tgt := 64) hx hb dX0_coldestAlong_45 (by decide) (fun c9 => (nI_pos (by omega) c9).elim) (fun _ => ?_)
        refine lv_aload_n hx hb dX0_coldestAlong_48 rfl (lv_at hl 3 rfl) ?_
        refine lv_iload_n hx hb dX0_coldestAlong_49 rfl (lv_at hl 4 rfl) ?_
        refine lv_iload hx hb dX0_coldestAlong_50 (lv_at hl 2 rfl) ?_
        refine r_V ⟨hx, hb, hml, hown, hts⟩ (k_X0_warmthAlong l D cI cJ ad X Y σ hB sd k (hsd) (hk)) (cwV 2 hts gX0_coldestAlong_X0_warmthAlong rfl rfl rfl (by decide +kernel) ⟨Nat.le_of_ble_eq_true rfl, Nat.le_of_ble_eq_true rfl⟩) hP hK (va_recv hK hP (ci := 0) (q0 := 0) rfl rfl) rfl hl.1 rfl (Nat.le_of_ble_eq_true rfl) dX0_coldestAlong_52 (Nat.zero_le _) (Nat.zero_le _) ?_
        refine lv_aload_n hx hb dX0_coldestAlong_55 rfl (lv_at hl 3 rfl) ?_
        refine lv_iload_n hx hb dX0_coldestAlong_56 rfl (lv_at hl 4 rfl) ?_
        refine lv_iload_n hx hb dX0_coldestAlong_57 rfl (lv_at hl 1 rfl) ?_
        refine r_V ⟨hx, hb, hml, hown, hts⟩ (k_X0_warmthAlong l D cI cJ ad X Y σ hB sd q (hsd) (hq2)) (cwV 2 hts gX0_coldestAlong_X0_warmthAlong rfl rfl rfl (by decide +kernel) ⟨Nat.le_of_ble_eq_true rfl, Nat.le_of_ble_eq_true rfl⟩) hP hK (va_recv hK hP (ci := 0) (q0 := 0) rfl rfl) rfl hl.1 rfl (Nat.le_of_ble_eq_true rfl) dX0_coldestAlong_58 (Nat.zero_le _) (Nat.zero_le _) ?_
        refine lv_icmp_ge (tgt := 67) hx hb dX0_coldestAlong_61 (by decide) (fun c61 => ?_) (fun c61 => ?_)
        · -- 67
          refine a_inc hx hb (k := 2) (lv' := [(4, .int (nI (k + 1))), (5, .int 1), (2, .int (nI q)), (0, .ref (ad 8)), (1, .int (nI sd)), (3, .int (nI (cAlong X Y sd)))]) k dX0_coldestAlong_67 hl rfl (by decide) rfl (fun ls hl => ?_)
          refine lv_goto (tgt := 11) hx hb dX0_coldestAlong_70 (by decide) ?_
          have e9 : n_cold X Y σ sd (k + 1) = some q := by rw [n_cold_s]; rw [hq]; unfold coldF; rw [if_neg c29]; simp only; rw [if_pos c61]
          exact ih1 _ (by rw [e9]; exact lv_sub hl [2, 0, 3, 4, 5] rfl)
        · -- 64
          refine lv_iload hx hb dX0_coldestAlong_64 (lv_at hl 2 rfl) ?_
          refine lv_istore_n (lv' := [(2, .int (nI k)), (5, .int 1), (4, .int (nI k)), (0, .ref (ad 8)), (1, .int (nI sd)), (3, .int (nI (cAlong X Y sd)))]) hx hb dX0_coldestAlong_66 rfl hl (by decide) rfl (fun ls hl => ?_)
          refine a_inc hx hb (k := 2) (lv' := [(4, .int (nI (k + 1))), (2, .int (nI k)), (5, .int 1), (0, .ref (ad 8)), (1, .int (nI sd)), (3, .int (nI (cAlong X Y sd)))]) k dX0_coldestAlong_67 hl rfl (by decide) rfl (fun ls hl => ?_)
          refine lv_goto (tgt := 11) hx hb dX0_coldestAlong_70 (by decide) ?_
          have e9 : n_cold X Y σ sd (k + 1) = some k := by rw [n_cold_s]; rw [hq]; unfold coldF; rw [if_neg c29]; simp only; rw [if_neg c61]
          exact ih1 _ (by rw [e9]; exact lv_sub hl [1, 0, 3, 4, 5] rfl)
