set_option maxHeartbeats 4000000 in
set_option maxRecDepth 100000 in
theorem k_X0_startAtLow (l : Launch) (D : va_G) (cI cJ : ClassId) (ad : Nat → Nat) (X Y : Nat) (σ : Nat → Nat → Int32) (hB : 1 ≤ X ∧ X ≤ 10 ∧ 1 ≤ Y ∧ Y ≤ 10)   : wMet l yX0_startAtLow wsX0_startAtLow 1 25 D (tY cI cJ) (wS ad cI X Y σ) (wS ad cI X Y (f_start X Y σ)) [.ref (ad 8)] none := by
  refine Met.ofW (cc := cX0_startAtLow) (maxL := 3) (ret := none) (by decide) rfl ?_
  intro p e s m args below meth c s₁ B hml hv
  obtain ⟨rfl, hP, hK, hD0⟩ := hv
  have hx := B.exec
  have hb := B.bytes
  have hr := B.returns
  have hts := atoms_spec (ws := wsX0_startAtLow) B.pre
  have hown : s.vm.findClass RX0 = some m.cls := findClass_of_methodNamed B.named
  have hlocks := B.notSynchronized
  have inX0 : ∀ w ∈ wsX00, w ∈ wsX0_startAtLow := by decide +kernel
  have fl32 := hts (.fieldLink RX0 32 "BridgeCells$Section" "rows" "I") (by decide +kernel)
  have fl29 := hts (.fieldLink RX0 29 "BridgeCells$Section" "columns" "I") (by decide +kernel)
  have fl41 := hts (.fieldLink RX0 41 "BridgeCells$Section" "warm" "[I") (by decide +kernel)
  have fl18 := hts (.fieldLink RX0 18 "BridgeCells$Section" "low" "I") (by decide +kernel)
  have hl := lv_entry ([.ref (ad 8)]) (n := 3) (Nat.le_of_ble_eq_true rfl)
  rw [lg_entry_eq]
  generalize (lg_sl ([.ref (ad 8)]) ++ List.replicate (3 - (lg_sl ([.ref (ad 8)])).length) Slot.unset).toArray = ls at hl ⊢
  have hl : lv_has ls 3 [(0, .ref (ad 8))] := hl
  have hD := aw_D hD0
  generalize hAe : aw (wS ad cI X Y σ) = A at hD ⊢
  have hS : va_S A s.heap s.heap [] := va_S.rf
  refine lv_iconst (v := nI 0) hx hb dX0_startAtLow_0 (by decide) ?_
  refine lv_istore_n (lv' := [(1, .int (nI 0)), (0, .ref (ad 8))]) hx hb dX0_startAtLow_1 rfl hl (by decide) rfl (fun ls hl => ?_)
  refine W_lw (fun j ls H locs => lv_has ls 3 [(1, .int (nI j)), (0, .ref (ad 8))] ∧ va_P D vwCl (wS ad cI X Y (f_sl X σ j)) H ∧ va_S A s.heap H locs) (Y) (0) (Nat.zero_le _) ⟨lv_sub hl [0, 1] rfl, hP, hS⟩ (fun ls H locs hq => ?_) (fun j ls H locs hj hq ih1 => ?_)
  · -- behind the loop
    obtain ⟨hl, hP, hS⟩ := hq
    have hD : va_D A (wS ad cI X Y (f_sl X σ Y)) := wS_D hD _
    refine lv_iload_n hx hb dX0_startAtLow_2 rfl (lv_at hl 0 rfl) ?_
    refine lv_aload_n hx hb dX0_startAtLow_3 rfl (lv_at hl 1 rfl) ?_
    refine va_get (D := D) (cl := vwCl) (ci := 0) (v := .int (nI Y)) (C := RX0) (T := TX0) (N := 14) hx hb hts inX0 hown hK hP 0 rfl rfl 1 (by decide) fl32 (fun _ h9 => h9) rfl dX0_startAtLow_4 ?_
    refine lv_icmp_ge (tgt := 47) hx hb dX0_startAtLow_7 (by decide) (fun _ => ?_) (fun c9 => False.elim (c9 (nI_le (Nat.le_refl _) (by omega))))
    refine lv_iconst (v := nI 0) hx hb dX0_startAtLow_47 (by decide) ?_
    refine lv_istore_n (lv' := [(1, .int (nI 0)), (0, .ref (ad 8))]) hx hb dX0_startAtLow_48 rfl hl (by decide) rfl (fun ls hl => ?_)
    refine W_lw (fun j ls H locs => lv_has ls 3 [(1, .int (nI j)), (0, .ref (ad 8))] ∧ va_P D vwCl (wS ad cI X Y (f_wg X (f_sl X σ Y) j)) H ∧ va_S A s.heap H locs) (Y) (0) (Nat.zero_le _) ⟨lv_sub hl [0, 1] rfl, hP, hS⟩ (fun ls H locs hq => ?_) (fun j ls H locs hj hq ih2 => ?_)
    · -- behind the loop
      obtain ⟨hl, hP, hS⟩ := hq
      have hD : va_D A (wS ad cI X Y (f_wg X (f_sl X σ Y) Y)) := wS_D hD _
      refine lv_iload_n hx hb dX0_startAtLow_49 rfl (lv_at hl 0 rfl) ?_
      refine lv_aload_n hx hb dX0_startAtLow_50 rfl (lv_at hl 1 rfl) ?_
      refine va_get (D := D) (cl := vwCl) (ci := 0) (v := .int (nI Y)) (C := RX0) (T := TX0) (N := 14) hx hb hts inX0 hown hK hP 0 rfl rfl 1 (by decide) fl32 (fun _ h9 => h9) rfl dX0_startAtLow_51 ?_
      refine lv_icmp_ge (tgt := 89) hx hb dX0_startAtLow_54 (by decide) (fun _ => ?_) (fun c9 => False.elim (c9 (nI_le (Nat.le_refl _) (by omega))))
      exact W.vret hx hb hr (fun t ht _ => ⟨rfl, by rw [ht]; exact hP, by rw [hAe]; exact hS.F ht⟩) hS.2.2 dX0_startAtLow_89
    · -- one round
      obtain ⟨hl, hP, hS⟩ := hq
      have hD : va_D A (wS ad cI X Y (f_wg X (f_sl X σ Y) j)) := wS_D hD _
      refine lv_iload_n hx hb dX0_startAtLow_49 rfl (lv_at hl 0 rfl) ?_
      refine lv_aload_n hx hb dX0_startAtLow_50 rfl (lv_at hl 1 rfl) ?_
      refine va_get (D := D) (cl := vwCl) (ci := 0) (v := .int (nI Y)) (C := RX0) (T := TX0) (N := 14) hx hb hts inX0 hown hK hP 0 rfl rfl 1 (by decide) fl32 (fun _ h9 => h9) rfl dX0_startAtLow_51 ?_
      refine lv_icmp_ge (tgt := 89) hx hb dX0_startAtLow_54 (by decide) (fun c9 => False.elim (nI_ge hj (by omega) c9)) (fun _ => ?_)
      refine lv_iconst (v := nI 0) hx hb dX0_startAtLow_57 (by decide) ?_
      refine lv_istore_n (lv' := [(2, .int (nI 0)), (1, .int (nI j)), (0, .ref (ad 8))]) hx hb dX0_startAtLow_58 rfl hl (by decide) rfl (fun ls hl => ?_)
      refine W_lw (fun i ls H locs => lv_has ls 3 [(1, .int (nI j)), (2, .int (nI i)), (0, .ref (ad 8))] ∧ va_P D vwCl (wS ad cI X Y (f_wgR X j (f_wg X (f_sl X σ Y) j) i)) H ∧ va_S A s.heap H locs) (X) (0) (Nat.zero_le _) ⟨lv_sub hl [1, 0, 2] rfl, hP, hS⟩ (fun ls H locs hq => ?_) (fun i ls H locs hi hq ih3 => ?_)
      · -- behind the loop
        obtain ⟨hl, hP, hS⟩ := hq
        have hD : va_D A (wS ad cI X Y (f_wgR X j (f_wg X (f_sl X σ Y) j) X)) := wS_D hD _
        refine lv_iload_n hx hb dX0_startAtLow_59 rfl (lv_at hl 1 rfl) ?_
        refine lv_aload_n hx hb dX0_startAtLow_60 rfl (lv_at hl 2 rfl) ?_
        refine va_get (D := D) (cl := vwCl) (ci := 0) (v := .int (nI X)) (C := RX0) (T := TX0) (N := 14) hx hb hts inX0 hown hK hP 0 rfl rfl 0 (by decide) fl29 (fun _ h9 => h9) rfl dX0_startAtLow_61 ?_
        refine lv_icmp_ge (tgt := 83) hx hb dX0_startAtLow_64 (by decide) (fun _ => ?_) (fun c9 => False.elim (c9 (nI_le (Nat.le_refl _) (by omega))))
        refine a_inc hx hb (k := 0) (lv' := [(1, .int (nI (j + 1))), (2, .int (nI X)), (0, .ref (ad 8))]) j dX0_startAtLow_83 hl rfl (by decide) rfl (fun ls hl => ?_)
        refine lv_goto (tgt := 49) hx hb dX0_startAtLow_86 (by decide) ?_
        exact ih2 _ _ _ ⟨lv_sub hl [0, 2] rfl, hP, hS⟩
      · -- one round
        obtain ⟨hl, hP, hS⟩ := hq
        have hD : va_D A (wS ad cI X Y (f_wgR X j (f_wg X (f_sl X σ Y) j) i)) := wS_D hD _
        refine lv_iload_n hx hb dX0_startAtLow_59 rfl (lv_at hl 1 rfl) ?_
        refine lv_aload_n hx hb dX0_startAtLow_60 rfl (lv_at hl 2 rfl) ?_
        refine va_get (D := D) (cl := vwCl) (ci := 0) (v := .int (nI X)) (C := RX0) (T := TX0) (N := 14) hx hb hts inX0 hown hK hP 0 rfl rfl 0 (by decide) fl29 (fun _ h9 => h9) rfl dX0_startAtLow_61 ?_
        refine lv_icmp_ge (tgt := 83) hx hb dX0_startAtLow_64 (by decide) (fun c9 => False.elim (nI_ge hi (by omega) c9)) (fun _ => ?_)
        refine lv_aload_n hx hb dX0_startAtLow_67 rfl (lv_at hl 2 rfl) ?_
        refine lv_aload_n hx hb dX0_startAtLow_68 rfl (lv_at hl 2 rfl) ?_
        refine lv_iload_n hx hb dX0_startAtLow_69 rfl (lv_at hl 1 rfl) ?_
        refine lv_iload_n hx hb dX0_startAtLow_70 rfl (lv_at hl 0 rfl) ?_
        refine r_V ⟨hx, hb, hml, hown, hts⟩ (k_X0_place l D cI cJ ad X Y (f_wgR X j (f_wg X (f_sl X σ Y) j) i) hB (nI i) (nI j)) (cwV 2 hts gX0_startAtLow_X0_place rfl rfl rfl (by decide +kernel) ⟨Nat.le_of_ble_eq_true rfl, Nat.le_of_ble_eq_true rfl⟩) hP hK (va_recv hK hP (ci := 0) (q0 := 0) rfl rfl) rfl hl.1 rfl (Nat.le_of_ble_eq_true rfl) dX0_startAtLow_71 (Nat.zero_le _) (Nat.zero_le _) ?_
        refine top_eq (y := nI (pl X i j)) (pl_e X i j) ?_
        refine w_V (A := A) ⟨hx, hb, hml, hown, hts⟩ (k_X0_weigh l D cI cJ ad X Y (f_wgR X j (f_wg X (f_sl X σ Y) j) i) hB (pl X i j) ((pl_lt hi hj).2) ((pl_lt hi hj).1)) (cwV 1 hts gX0_startAtLow_X0_weigh rfl rfl rfl (by decide +kernel) ⟨Nat.le_of_ble_eq_true rfl, Nat.le_of_ble_eq_true rfl⟩) ([]) ([]) hP hD hS hK (va_recv hK hP (ci := 0) (q0 := 0) rfl rfl) rfl hl.1 rfl (Nat.le_of_ble_eq_true rfl) dX0_startAtLow_74 (Nat.zero_le _) (Nat.zero_le _) (fun H locs hP hS => ?_)
        have hP : va_P D vwCl (wS ad cI X Y (f_weigh X (f_wgR X j (f_wg X (f_sl X σ Y) j) i) (pl X i j))) H := hP
        have hD : va_D A (wS ad cI X Y (f_weigh X (f_wgR X j (f_wg X (f_sl X σ Y) j) i) (pl X i j))) := wS_D hD _
        refine a_inc hx hb (k := 1) (lv' := [(2, .int (nI (i + 1))), (1, .int (nI j)), (0, .ref (ad 8))]) i dX0_startAtLow_77 hl rfl (by decide) rfl (fun ls hl => ?_)
        refine lv_goto (tgt := 59) hx hb dX0_startAtLow_80 (by decide) ?_
        exact ih3 _ _ _ ⟨lv_sub hl [1, 0, 2] rfl, hP, hS⟩
  · -- one round
    obtain ⟨hl, hP, hS⟩ := hq
    have hD : va_D A (wS ad cI X Y (f_sl X σ j)) := wS_D hD _
    refine lv_iload_n hx hb dX0_startAtLow_2 rfl (lv_at hl 0 rfl) ?_
    refine lv_aload_n hx hb dX0_startAtLow_3 rfl (lv_at hl 1 rfl) ?_
    refine va_get (D := D) (cl := vwCl) (ci := 0) (v := .int (nI Y)) (C := RX0) (T := TX0) (N := 14) hx hb hts inX0 hown hK hP 0 rfl rfl 1 (by decide) fl32 (fun _ h9 => h9) rfl dX0_startAtLow_4 ?_
    refine lv_icmp_ge (tgt := 47) hx hb dX0_startAtLow_7 (by decide) (fun c9 => False.elim (nI_ge hj (by omega) c9)) (fun _ => ?_)
    refine lv_iconst (v := nI 0) hx hb dX0_startAtLow_10 (by decide) ?_
    refine lv_istore_n (lv' := [(2, .int (nI 0)), (1, .int (nI j)), (0, .ref (ad 8))]) hx hb dX0_startAtLow_11 rfl hl (by decide) rfl (fun ls hl => ?_)
    refine W_lw (fun i ls H locs => lv_has ls 3 [(1, .int (nI j)), (2, .int (nI i)), (0, .ref (ad 8))] ∧ va_P D vwCl (wS ad cI X Y (f_slR X j (f_sl X σ j) i)) H ∧ va_S A s.heap H locs) (X) (0) (Nat.zero_le _) ⟨lv_sub hl [1, 0, 2] rfl, hP, hS⟩ (fun ls H locs hq => ?_) (fun i ls H locs hi hq ih4 => ?_)
    · -- behind the loop
      obtain ⟨hl, hP, hS⟩ := hq
      have hD : va_D A (wS ad cI X Y (f_slR X j (f_sl X σ j) X)) := wS_D hD _
      refine lv_iload_n hx hb dX0_startAtLow_12 rfl (lv_at hl 1 rfl) ?_
      refine lv_aload_n hx hb dX0_startAtLow_13 rfl (lv_at hl 2 rfl) ?_
      refine va_get (D := D) (cl := vwCl) (ci := 0) (v := .int (nI X)) (C := RX0) (T := TX0) (N := 14) hx hb hts inX0 hown hK hP 0 rfl rfl 0 (by decide) fl29 (fun _ h9 => h9) rfl dX0_startAtLow_14 ?_
      refine lv_icmp_ge (tgt := 41) hx hb dX0_startAtLow_17 (by decide) (fun _ => ?_) (fun c9 => False.elim (c9 (nI_le (Nat.le_refl _) (by omega))))
      refine a_inc hx hb (k := 0) (lv' := [(1, .int (nI (j + 1))), (2, .int (nI X)), (0, .ref (ad 8))]) j dX0_startAtLow_41 hl rfl (by decide) rfl (fun ls hl => ?_)
      refine lv_goto (tgt := 2) hx hb dX0_startAtLow_44 (by decide) ?_
      exact ih1 _ _ _ ⟨lv_sub hl [0, 2] rfl, hP, hS⟩
    · -- one round
      obtain ⟨hl, hP, hS⟩ := hq
      have hD : va_D A (wS ad cI X Y (f_slR X j (f_sl X σ j) i)) := wS_D hD _
      refine lv_iload_n hx hb dX0_startAtLow_12 rfl (lv_at hl 1 rfl) ?_
      refine lv_aload_n hx hb dX0_startAtLow_13 rfl (lv_at hl 2 rfl) ?_
      refine va_get (D := D) (cl := vwCl) (ci := 0) (v := .int (nI X)) (C := RX0) (T := TX0) (N := 14) hx hb hts inX0 hown hK hP 0 rfl rfl 0 (by decide) fl29 (fun _ h9 => h9) rfl dX0_startAtLow_14 ?_
      refine lv_icmp_ge (tgt := 41) hx hb dX0_startAtLow_17 (by decide) (fun c9 => False.elim (nI_ge hi (by omega) c9)) (fun _ => ?_)
      refine lv_aload_n hx hb dX0_startAtLow_20 rfl (lv_at hl 2 rfl) ?_
      refine va_get (D := D) (cl := vwCl) (ci := 0) (v := .ref (ad 1)) (C := RX0) (T := TX0) (N := 14) hx hb hts inX0 hown hK hP 0 rfl rfl 4 (by decide) fl41 (fun _ h9 => h9) rfl dX0_startAtLow_21 ?_
      refine lv_aload_n hx hb dX0_startAtLow_24 rfl (lv_at hl 2 rfl) ?_
      refine lv_iload_n hx hb dX0_startAtLow_25 rfl (lv_at hl 1 rfl) ?_
      refine lv_iload_n hx hb dX0_startAtLow_26 rfl (lv_at hl 0 rfl) ?_
      refine r_V ⟨hx, hb, hml, hown, hts⟩ (k_X0_place l D cI cJ ad X Y (f_slR X j (f_sl X σ j) i) hB (nI i) (nI j)) (cwV 2 hts gX0_startAtLow_X0_place rfl rfl rfl (by decide +kernel) ⟨Nat.le_of_ble_eq_true rfl, Nat.le_of_ble_eq_true rfl⟩) hP hK (va_recv hK hP (ci := 0) (q0 := 0) rfl rfl) rfl hl.1 rfl (Nat.le_of_ble_eq_true rfl) dX0_startAtLow_27 (Nat.zero_le _) (Nat.zero_le _) ?_
      refine top_eq (y := nI (pl X i j)) (pl_e X i j) ?_
      refine lv_aload_n hx hb dX0_startAtLow_30 rfl (lv_at hl 2 rfl) ?_
      refine va_get (D := D) (cl := vwCl) (ci := 0) (v := .int ((f_slR X j (f_sl X σ j) i) 8 0)) (C := RX0) (T := TX0) (N := 14) hx hb hts inX0 hown hK hP 0 rfl rfl 11 (by decide) fl18 (fun _ h9 => h9) rfl dX0_startAtLow_31 ?_
      refine a_st hx hb hK hP hD hS 2 0 rfl rfl (pl X i j) (rfl) (pl_in hi hj) (pl_N hB) dX0_startAtLow_34 (fun H locs hP hS => ?_)
      obtain ⟨σ5, eσ5⟩ : ∃ z, z = up2 (f_slR X j (f_sl X σ j) i) 1 (pl X i j) ((f_slR X j (f_sl X σ j) i) 8 0) := ⟨_, rfl⟩
      replace hP : va_P D vwCl (wS ad cI X Y σ5) H := by rw [eσ5]; exact hP
      have hP : va_P D vwCl (wS ad cI X Y σ5) H := hP
      have hD : va_D A (wS ad cI X Y σ5) := wS_D hD _
      refine a_inc hx hb (k := 1) (lv' := [(2, .int (nI (i + 1))), (1, .int (nI j)), (0, .ref (ad 8))]) i dX0_startAtLow_35 hl rfl (by decide) rfl (fun ls hl => ?_)
      refine lv_goto (tgt := 12) hx hb dX0_startAtLow_38 (by decide) ?_
      subst eσ5
      exact ih4 _ _ _ ⟨lv_sub hl [1, 0, 2] rfl, hP, hS⟩
