set_option maxHeartbeats 4000000 in
set_option maxRecDepth 100000 in
theorem k_X0_raiseAll (l : Launch) (D : va_G) (cI cJ : ClassId) (ad : Nat → Nat) (X Y : Nat) (σ : Nat → Nat → Int32) (hB : 1 ≤ X ∧ X ≤ 10 ∧ 1 ≤ Y ∧ Y ≤ 10)   : wMet l yX0_raiseAll wsX0_raiseAll 1 22 D (tY cI cJ) (wS ad cI X Y σ) (wS ad cI X Y ((n_ra X σ Y).2)) [.ref (ad 8)] (some (.int (n_ra X σ Y).1)) := by
  refine Met.ofW (cc := cX0_raiseAll) (maxL := 5) (ret := (some .boolean)) (by decide) rfl ?_
  intro p e s m args below meth c s₁ B hml hv
  obtain ⟨rfl, hP, hK, hD0⟩ := hv
  have hx := B.exec
  have hb := B.bytes
  have hr := B.returns
  have hts := atoms_spec (ws := wsX0_raiseAll) B.pre
  have hown : s.vm.findClass RX0 = some m.cls := findClass_of_methodNamed B.named
  have hlocks := B.notSynchronized
  have inX0 : ∀ w ∈ wsX00, w ∈ wsX0_raiseAll := by decide +kernel
  have fl32 := hts (.fieldLink RX0 32 "BridgeCells$Section" "rows" "I") (by decide +kernel)
  have fl29 := hts (.fieldLink RX0 29 "BridgeCells$Section" "columns" "I") (by decide +kernel)
  have fl50 := hts (.fieldLink RX0 50 "BridgeCells$Section" "weight" "[I") (by decide +kernel)
  have fl53 := hts (.fieldLink RX0 53 "BridgeCells$Section" "surplus" "[I") (by decide +kernel)
  have hl := lv_entry ([.ref (ad 8)]) (n := 5) (Nat.le_of_ble_eq_true rfl)
  rw [lg_entry_eq]
  generalize (lg_sl ([.ref (ad 8)]) ++ List.replicate (5 - (lg_sl ([.ref (ad 8)])).length) Slot.unset).toArray = ls at hl ⊢
  have hl : lv_has ls 5 [(0, .ref (ad 8))] := hl
  have hD := aw_D hD0
  generalize hAe : aw (wS ad cI X Y σ) = A at hD ⊢
  have hS : va_S A s.heap s.heap [] := va_S.rf
  have hN9 := pl_N hB
  refine lv_iconst (v := 0) hx hb dX0_raiseAll_0 (by decide) ?_
  refine lv_istore_n (lv' := [(1, .int 0), (0, .ref (ad 8))]) hx hb dX0_raiseAll_1 rfl hl (by decide) rfl (fun ls hl => ?_)
  refine lv_iconst (v := nI 0) hx hb dX0_raiseAll_2 (by decide) ?_
  refine lv_istore_n (lv' := [(2, .int (nI 0)), (1, .int 0), (0, .ref (ad 8))]) hx hb dX0_raiseAll_3 rfl hl (by decide) rfl (fun ls hl => ?_)
  refine W_lw (fun j ls H locs => lv_has ls 5 [(1, .int ((n_ra X σ j).1)), (2, .int (nI j)), (0, .ref (ad 8))] ∧ va_P D vwCl (wS ad cI X Y ((n_ra X σ j).2)) H ∧ va_S A s.heap H locs) (Y) (0) (Nat.zero_le _) ⟨lv_sub hl [1, 0, 2] rfl, hP, hS⟩ (fun ls H locs hq => ?_) (fun j ls H locs hj hq ih1 => ?_)
  · -- behind the loop
    obtain ⟨hl, hP, hS⟩ := hq
    have hD : va_D A (wS ad cI X Y ((n_ra X σ Y).2)) := wS_D hD _
    refine lv_iload_n hx hb dX0_raiseAll_4 rfl (lv_at hl 1 rfl) ?_
    refine lv_aload_n hx hb dX0_raiseAll_5 rfl (lv_at hl 2 rfl) ?_
    refine va_get (D := D) (cl := vwCl) (ci := 0) (v := .int (nI Y)) (C := RX0) (T := TX0) (N := 14) hx hb hts inX0 hown hK hP 0 rfl rfl 1 (by decide) fl32 (fun _ h9 => h9) rfl dX0_raiseAll_6 ?_
    refine lv_icmp_ge (tgt := 95) hx hb dX0_raiseAll_9 (by decide) (fun _ => ?_) (fun c9 => False.elim (c9 (nI_le (Nat.le_refl _) (by omega))))
    refine lv_iload_n hx hb dX0_raiseAll_95 rfl (lv_at hl 0 rfl) ?_
    exact W.zret hx hb hr (ra_n X σ Y) (fun t ht _ => ⟨rfl, by rw [ht]; exact hP, by rw [hAe]; exact hS.F ht⟩) hS.2.2 dX0_raiseAll_96
  · -- one round
    obtain ⟨hl, hP, hS⟩ := hq
    have hD : va_D A (wS ad cI X Y ((n_ra X σ j).2)) := wS_D hD _
    refine lv_iload_n hx hb dX0_raiseAll_4 rfl (lv_at hl 1 rfl) ?_
    refine lv_aload_n hx hb dX0_raiseAll_5 rfl (lv_at hl 2 rfl) ?_
    refine va_get (D := D) (cl := vwCl) (ci := 0) (v := .int (nI Y)) (C := RX0) (T := TX0) (N := 14) hx hb hts inX0 hown hK hP 0 rfl rfl 1 (by decide) fl32 (fun _ h9 => h9) rfl dX0_raiseAll_6 ?_
    refine lv_icmp_ge (tgt := 95) hx hb dX0_raiseAll_9 (by decide) (fun c9 => False.elim (nI_ge hj (by omega) c9)) (fun _ => ?_)
    refine lv_aload_n hx hb dX0_raiseAll_12 rfl (lv_at hl 2 rfl) ?_
    refine lv_iconst (v := nI 0) hx hb dX0_raiseAll_13 (by decide) ?_
    refine lv_iload_n hx hb dX0_raiseAll_14 rfl (lv_at hl 1 rfl) ?_
    refine r_V ⟨hx, hb, hml, hown, hts⟩ (k_X0_place l D cI cJ ad X Y ((n_ra X σ j).2) hB (nI 0) (nI j)) (cwV 2 hts gX0_raiseAll_X0_place rfl rfl rfl (by decide +kernel) ⟨Nat.le_of_ble_eq_true rfl, Nat.le_of_ble_eq_true rfl⟩) hP hK (va_recv hK hP (ci := 0) (q0 := 0) rfl rfl) rfl hl.1 rfl (Nat.le_of_ble_eq_true rfl) dX0_raiseAll_15 (Nat.zero_le _) (Nat.zero_le _) ?_
    refine top_eq (y := nI (pl X 0 j)) (pl_e X 0 j) ?_
    refine lv_istore_n (lv' := [(3, .int (nI (pl X 0 j))), (1, .int ((n_ra X σ j).1)), (2, .int (nI j)), (0, .ref (ad 8))]) hx hb dX0_raiseAll_18 rfl hl (by decide) rfl (fun ls hl => ?_)
    refine lv_iload_n hx hb dX0_raiseAll_19 rfl (lv_at hl 0 rfl) ?_
    refine lv_istore (lv' := [(4, .int (nI (pl X 0 j))), (3, .int (nI (pl X 0 j))), (1, .int ((n_ra X σ j).1)), (2, .int (nI j)), (0, .ref (ad 8))]) hx hb dX0_raiseAll_20 hl (by decide) rfl (fun ls hl => ?_)
    have hp9 := pl_lt (X := X) (Y := Y) (i := 0) (j := j) (by omega) hj
    have hpX := pl_0 X X j
    refine W_lw (fun i ls H locs => lv_has ls 5 [(1, .int ((f_raR X j (n_ra X σ j) i).1)), (2, .int (nI j)), (3, .int (nI (pl X 0 j))), (4, .int (nI (pl X i j))), (0, .ref (ad 8))] ∧ va_P D vwCl (wS ad cI X Y ((f_raR X j (n_ra X σ j) i).2)) H ∧ va_S A s.heap H locs) (X) (0) (Nat.zero_le _) ⟨lv_sub hl [2, 3, 1, 0, 4] rfl, hP, hS⟩ (fun ls H locs hq => ?_) (fun i ls H locs hi hq ih2 => ?_)
    · -- behind the loop
      obtain ⟨hl, hP, hS⟩ := hq
      have hD : va_D A (wS ad cI X Y ((f_raR X j (n_ra X σ j) X).2)) := wS_D hD _
      refine lv_iload hx hb dX0_raiseAll_22 (lv_at hl 3 rfl) ?_
      refine lv_iload_n hx hb dX0_raiseAll_24 rfl (lv_at hl 2 rfl) ?_
      refine lv_aload_n hx hb dX0_raiseAll_25 rfl (lv_at hl 4 rfl) ?_
      refine va_get (D := D) (cl := vwCl) (ci := 0) (v := .int (nI X)) (C := RX0) (T := TX0) (N := 14) hx hb hts inX0 hown hK hP 0 rfl rfl 0 (by decide) fl29 (fun _ h9 => h9) rfl dX0_raiseAll_26 ?_
      refine lv_iadd hx hb dX0_raiseAll_29 ?_
      refine top_eq (y := nI ((pl X 0 j) + X)) (nI_add (pl X 0 j) X) ?_
      refine lv_icmp_ge (tgt := 89) hx hb dX0_raiseAll_30 (by decide) (fun _ => ?_) (fun c9 => False.elim (c9 (nI_le (by omega) (by omega))))
      refine a_inc hx hb (k := 1) (lv' := [(2, .int (nI (j + 1))), (1, .int ((f_raR X j (n_ra X σ j) X).1)), (3, .int (nI (pl X 0 j))), (4, .int (nI (pl X X j))), (0, .ref (ad 8))]) j dX0_raiseAll_89 hl rfl (by decide) rfl (fun ls hl => ?_)
      refine lv_goto (tgt := 4) hx hb dX0_raiseAll_92 (by decide) ?_
      exact ih1 _ _ _ ⟨lv_sub hl [1, 0, 4] rfl, hP, hS⟩
    · -- one round
      obtain ⟨hl, hP, hS⟩ := hq
      have hD : va_D A (wS ad cI X Y ((f_raR X j (n_ra X σ j) i).2)) := wS_D hD _
      refine lv_iload hx hb dX0_raiseAll_22 (lv_at hl 3 rfl) ?_
      refine lv_iload_n hx hb dX0_raiseAll_24 rfl (lv_at hl 2 rfl) ?_
      refine lv_aload_n hx hb dX0_raiseAll_25 rfl (lv_at hl 4 rfl) ?_
      refine va_get (D := D) (cl := vwCl) (ci := 0) (v := .int (nI X)) (C := RX0) (T := TX0) (N := 14) hx hb hts inX0 hown hK hP 0 rfl rfl 0 (by decide) fl29 (fun _ h9 => h9) rfl dX0_raiseAll_26 ?_
      refine lv_iadd hx hb dX0_raiseAll_29 ?_
      refine top_eq (y := nI ((pl X 0 j) + X)) (nI_add (pl X 0 j) X) ?_
      refine lv_icmp_ge (tgt := 89) hx hb dX0_raiseAll_30 (by decide) (fun c9 => False.elim (nI_ge (by have := pl_0 X i j; omega) (by omega) c9)) (fun _ => ?_)
      refine lv_aload_n hx hb dX0_raiseAll_33 rfl (lv_at hl 4 rfl) ?_
      refine va_get (D := D) (cl := vwCl) (ci := 0) (v := .ref (ad 4)) (C := RX0) (T := TX0) (N := 14) hx hb hts inX0 hown hK hP 0 rfl rfl 7 (by decide) fl50 (fun _ h9 => h9) rfl dX0_raiseAll_34 ?_
      refine lv_iload hx hb dX0_raiseAll_37 (lv_at hl 3 rfl) ?_
      refine a_ld hx hb hK hP 5 0 rfl rfl (pl X i j) (rfl) (pl_in hi hj) (pl_N hB) dX0_raiseAll_39 ?_
      refine lv_if_le (tgt := 83) hx hb dX0_raiseAll_40 (by decide) (fun c40 => ?_) (fun c40 => ?_)
      · -- 83
        refine a_inc hx hb (k := 3) (lv' := [(4, .int (nI ((pl X i j) + 1))), (1, .int ((f_raR X j (n_ra X σ j) i).1)), (2, .int (nI j)), (3, .int (nI (pl X 0 j))), (0, .ref (ad 8))]) (pl X i j) dX0_raiseAll_83 hl rfl (by decide) rfl (fun ls hl => ?_)
        refine lv_goto (tgt := 22) hx hb dX0_raiseAll_86 (by decide) ?_
        have e9 : f_raR X j (n_ra X σ j) (i + 1) = f_raR X j (n_ra X σ j) i := by show f_raS X j i (f_raR X j (n_ra X σ j) i) = _; unfold f_raS; rw [if_pos c40]
        exact ih2 _ _ _ ⟨by rw [e9]; exact lv_sub hl [1, 2, 3, 0, 4] rfl, by rw [e9]; exact hP, hS⟩
      · -- 43
        refine lv_aload_n hx hb dX0_raiseAll_43 rfl (lv_at hl 4 rfl) ?_
        refine va_get (D := D) (cl := vwCl) (ci := 0) (v := .ref (ad 5)) (C := RX0) (T := TX0) (N := 14) hx hb hts inX0 hown hK hP 0 rfl rfl 8 (by decide) fl53 (fun _ h9 => h9) rfl dX0_raiseAll_44 ?_
        refine lv_iload hx hb dX0_raiseAll_47 (lv_at hl 3 rfl) ?_
        refine a_ld hx hb hK hP 6 0 rfl rfl (pl X i j) (rfl) (pl_in hi hj) (pl_N hB) dX0_raiseAll_49 ?_
        refine lv_aload_n hx hb dX0_raiseAll_50 rfl (lv_at hl 4 rfl) ?_
        refine va_get (D := D) (cl := vwCl) (ci := 0) (v := .ref (ad 4)) (C := RX0) (T := TX0) (N := 14) hx hb hts inX0 hown hK hP 0 rfl rfl 7 (by decide) fl50 (fun _ h9 => h9) rfl dX0_raiseAll_51 ?_
        refine lv_iload hx hb dX0_raiseAll_54 (lv_at hl 3 rfl) ?_
        refine a_ld hx hb hK hP 5 0 rfl rfl (pl X i j) (rfl) (pl_in hi hj) (pl_N hB) dX0_raiseAll_56 ?_
        refine lv_icmp_lt (tgt := 83) hx hb dX0_raiseAll_57 (by decide) (fun c57 => ?_) (fun c57 => ?_)
        · -- 83
          refine a_inc hx hb (k := 3) (lv' := [(4, .int (nI ((pl X i j) + 1))), (1, .int ((f_raR X j (n_ra X σ j) i).1)), (2, .int (nI j)), (3, .int (nI (pl X 0 j))), (0, .ref (ad 8))]) (pl X i j) dX0_raiseAll_83 hl rfl (by decide) rfl (fun ls hl => ?_)
          refine lv_goto (tgt := 22) hx hb dX0_raiseAll_86 (by decide) ?_
          have e9 : f_raR X j (n_ra X σ j) (i + 1) = f_raR X j (n_ra X σ j) i := by show f_raS X j i (f_raR X j (n_ra X σ j) i) = _; unfold f_raS; rw [if_neg c40, if_pos c57]
          exact ih2 _ _ _ ⟨by rw [e9]; exact lv_sub hl [1, 2, 3, 0, 4] rfl, by rw [e9]; exact hP, hS⟩
        · -- 60
          refine lv_aload_n hx hb dX0_raiseAll_60 rfl (lv_at hl 4 rfl) ?_
          refine lv_iload hx hb dX0_raiseAll_61 (lv_at hl 3 rfl) ?_
          refine lv_aload_n hx hb dX0_raiseAll_63 rfl (lv_at hl 4 rfl) ?_
          refine va_get (D := D) (cl := vwCl) (ci := 0) (v := .ref (ad 5)) (C := RX0) (T := TX0) (N := 14) hx hb hts inX0 hown hK hP 0 rfl rfl 8 (by decide) fl53 (fun _ h9 => h9) rfl dX0_raiseAll_64 ?_
          refine lv_iload hx hb dX0_raiseAll_67 (lv_at hl 3 rfl) ?_
          refine a_ld hx hb hK hP 6 0 rfl rfl (pl X i j) (rfl) (pl_in hi hj) (pl_N hB) dX0_raiseAll_69 ?_
          refine lv_aload_n hx hb dX0_raiseAll_70 rfl (lv_at hl 4 rfl) ?_
          refine va_get (D := D) (cl := vwCl) (ci := 0) (v := .ref (ad 4)) (C := RX0) (T := TX0) (N := 14) hx hb hts inX0 hown hK hP 0 rfl rfl 7 (by decide) fl50 (fun _ h9 => h9) rfl dX0_raiseAll_71 ?_
          refine lv_iload hx hb dX0_raiseAll_74 (lv_at hl 3 rfl) ?_
          refine a_ld hx hb hK hP 5 0 rfl rfl (pl X i j) (rfl) (pl_in hi hj) (pl_N hB) dX0_raiseAll_76 ?_
          refine lv_idiv hx hb dX0_raiseAll_77 (i_div0 c40) ?_
          refine w_V (A := A) ⟨hx, hb, hml, hown, hts⟩ (k_X0_raise l D cI cJ ad X Y ((f_raR X j (n_ra X σ j) i).2) hB (pl X i j) ((((f_raR X j (n_ra X σ j) i).2) 5 (pl X i j)) / (((f_raR X j (n_ra X σ j) i).2) 4 (pl X i j))) ((pl_lt hi hj).2) ((pl_lt hi hj).1)) (cwV 2 hts gX0_raiseAll_X0_raise rfl rfl rfl (by decide +kernel) ⟨Nat.le_of_ble_eq_true rfl, Nat.le_of_ble_eq_true rfl⟩) ([]) ([]) hP hD hS hK (va_recv hK hP (ci := 0) (q0 := 0) rfl rfl) rfl hl.1 rfl (Nat.le_of_ble_eq_true rfl) dX0_raiseAll_78 (Nat.zero_le _) (Nat.zero_le _) (fun H locs hP hS => ?_)
          have hP : va_P D vwCl (wS ad cI X Y (f_raise X ((f_raR X j (n_ra X σ j) i).2) (pl X i j) ((((f_raR X j (n_ra X σ j) i).2) 5 (pl X i j)) / (((f_raR X j (n_ra X σ j) i).2) 4 (pl X i j))))) H := hP
          have hD : va_D A (wS ad cI X Y (f_raise X ((f_raR X j (n_ra X σ j) i).2) (pl X i j) ((((f_raR X j (n_ra X σ j) i).2) 5 (pl X i j)) / (((f_raR X j (n_ra X σ j) i).2) 4 (pl X i j))))) := wS_D hD _
          refine lv_iconst (v := 1) hx hb dX0_raiseAll_81 (by decide) ?_
          refine lv_istore_n (lv' := [(1, .int 1), (2, .int (nI j)), (3, .int (nI (pl X 0 j))), (4, .int (nI (pl X i j))), (0, .ref (ad 8))]) hx hb dX0_raiseAll_82 rfl hl (by decide) rfl (fun ls hl => ?_)
          refine a_inc hx hb (k := 3) (lv' := [(4, .int (nI ((pl X i j) + 1))), (1, .int 1), (2, .int (nI j)), (3, .int (nI (pl X 0 j))), (0, .ref (ad 8))]) (pl X i j) dX0_raiseAll_83 hl rfl (by decide) rfl (fun ls hl => ?_)
          refine lv_goto (tgt := 22) hx hb dX0_raiseAll_86 (by decide) ?_
          have e9 : f_raR X j (n_ra X σ j) (i + 1) = (1, f_raise X ((f_raR X j (n_ra X σ j) i).2) (pl X i j) ((((f_raR X j (n_ra X σ j) i).2) 5 (pl X i j)) / (((f_raR X j (n_ra X σ j) i).2) 4 (pl X i j)))) := by show f_raS X j i (f_raR X j (n_ra X σ j) i) = _; unfold f_raS; rw [if_neg c40, if_neg c57]
          exact ih2 _ _ _ ⟨by rw [e9]; exact lv_sub hl [1, 2, 3, 0, 4] rfl, by rw [e9]; exact hP, hS⟩
