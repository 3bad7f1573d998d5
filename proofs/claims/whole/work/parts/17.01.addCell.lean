set_option maxHeartbeats 4000000 in
set_option maxRecDepth 100000 in
theorem k_X2_addCell (l : Launch) (D : va_G) (cI cJ : ClassId) (am : Nat → Nat) (X Y : Nat) (τ : Nat → Nat → Int32) (ℓ : Nat → Nat → Int64) (hB : 1 ≤ X ∧ X ≤ 10 ∧ 1 ≤ Y ∧ Y ≤ 10) (own i j : Int32)  : wMet l yX2_addCell wsX2_addCell 2 44 D (tY cI cJ) (wM am cI cJ X Y τ ℓ) (wM am cI cJ X Y τ (f_add X Y τ own i j ℓ)) [.ref (am 6), .int own, .int i, .int j] none := by
  refine Met.ofW (cc := cX2_addCell) (maxL := 5) (ret := none) (by decide) rfl ?_
  intro p e s m args below meth c s₁ B hml hv
  obtain ⟨rfl, hP, hK, hD0⟩ := hv
  have hx := B.exec
  have hb := B.bytes
  have hr := B.returns
  have hts := atoms_spec (ws := wsX2_addCell) B.pre
  have hown : s.vm.findClass RX2 = some m.cls := findClass_of_methodNamed B.named
  have hlocks := B.notSynchronized
  have inX2 : ∀ w ∈ wsX20, w ∈ wsX2_addCell := by decide +kernel
  have fl7 := hts (.fieldLink RX2 7 "BridgeCellsModel" "leads" "[I") (by decide +kernel)
  have fl59 := hts (.fieldLink RX2 59 "BridgeCellsModel" "products" "J") (by decide +kernel)
  have fl13 := hts (.fieldLink RX2 13 "BridgeCellsModel" "warm" "[I") (by decide +kernel)
  have fl63 := hts (.fieldLink RX2 63 "BridgeCellsModel" "weights" "J") (by decide +kernel)
  have hl := lv_entry ([.ref (am 6), .int own, .int i, .int j]) (n := 5) (Nat.le_of_ble_eq_true rfl)
  rw [lg_entry_eq]
  generalize (lg_sl ([.ref (am 6), .int own, .int i, .int j]) ++ List.replicate (5 - (lg_sl ([.ref (am 6), .int own, .int i, .int j])).length) Slot.unset).toArray = ls at hl ⊢
  have hl : lv_has ls 5 [(0, .ref (am 6)), (1, .int own), (2, .int i), (3, .int j)] := hl
  have hD := aw_D hD0
  generalize hAe : aw (wM am cI cJ X Y τ ℓ) = A at hD ⊢
  have hS : va_S A s.heap s.heap [] := va_S.rf
  refine lv_aload_n hx hb dX2_addCell_0 rfl (lv_at hl 0 rfl) ?_
  refine lv_iload_n hx hb dX2_addCell_1 rfl (lv_at hl 2 rfl) ?_
  refine lv_iload_n hx hb dX2_addCell_2 rfl (lv_at hl 3 rfl) ?_
  refine r_V ⟨hx, hb, hml, hown, hts⟩ (k_X2_isCell l D cI cJ am X Y τ ℓ hB i j ) (cwV 2 hts gX2_addCell_X2_isCell rfl rfl rfl (by decide +kernel) ⟨Nat.le_of_ble_eq_true rfl, Nat.le_of_ble_eq_true rfl⟩) hP hK (va_recv hK hP (ci := 2) (q0 := 0) rfl rfl) rfl hl.1 rfl (Nat.le_of_ble_eq_true rfl) dX2_addCell_3 (Nat.zero_le _) (Nat.zero_le _) ?_
  refine lv_if_eq (tgt := 63) hx hb dX2_addCell_6 (by decide) (fun c6 => ?_) (fun c6 => ?_)
  · -- 63
    have e9 : f_add X Y τ own i j ℓ = ℓ := if_pos c6
    exact W.vret hx hb hr (fun t ht _ => ⟨rfl, by rw [ht]; first | exact hP | (rw [e9]; exact hP), by rw [hAe]; exact hS.F ht⟩) hS.2.2 dX2_addCell_63
  · -- 9
    obtain ⟨a, b, ha, hb9, rfl, rfl⟩ := mCell_of hB c6
    have hab := i10 hB ha hb9
    refine lv_iload_n hx hb dX2_addCell_9 rfl (lv_at hl 1 rfl) ?_
    refine lv_aload_n hx hb dX2_addCell_10 rfl (lv_at hl 0 rfl) ?_
    refine va_get (D := D) (cl := vwCl) (ci := 2) (v := .ref (am 0)) (C := RX2) (T := TX2) (N := 15) hx hb hts inX2 hown hK hP 0 rfl rfl 3 (by decide) fl7 (fun _ h9 => h9) rfl dX2_addCell_11 ?_
    refine lv_bipush (v := nI 10) hx hb dX2_addCell_14 (by decide) ?_
    refine lv_iload_n hx hb dX2_addCell_16 rfl (lv_at hl 3 rfl) ?_
    refine lv_imul hx hb dX2_addCell_17 ?_
    refine top_eq (y := nI (10 * b)) (pk_mul 10 b) ?_
    refine lv_iload_n hx hb dX2_addCell_18 rfl (lv_at hl 2 rfl) ?_
    refine lv_iadd hx hb dX2_addCell_19 ?_
    refine top_eq (y := nI ((10 * b) + a)) (nI_add (10 * b) a) ?_
    refine a_ld hx hb hK hP 1 0 rfl rfl ((10 * b) + a) (rfl) (hab) (by decide) dX2_addCell_20 ?_
    refine r_S ⟨hx, hb, hml, hown, hts⟩ (k_X2_together l D cI cJ own (τ 0 ((10 * b) + a))) (va_cwS 2 hts gX2_addCell_X2_together rfl rfl rfl (by decide +kernel) ⟨Nat.le_of_ble_eq_true rfl, Nat.le_of_ble_eq_true rfl⟩) P_nil hK rfl hl.1 rfl (Nat.le_of_ble_eq_true rfl) dX2_addCell_21 (Nat.zero_le _) (Nat.zero_le _) ?_
    refine lv_istore (lv' := [(4, .int (cpl own (τ 0 ((10 * b) + a)))), (0, .ref (am 6)), (1, .int own), (2, .int (nI a)), (3, .int (nI b))]) hx hb dX2_addCell_24 hl (by decide) rfl (fun ls hl => ?_)
    refine lv_aload_n hx hb dX2_addCell_26 rfl (lv_at hl 1 rfl) ?_
    refine lv_aload_n hx hb dX2_addCell_27 rfl (lv_at hl 1 rfl) ?_
    refine va_get (D := D) (cl := vwCl) (ci := 2) (v := .long (ℓ 1 0)) (C := RX2) (T := TX2) (N := 15) hx hb hts inX2 hown hK hP 0 rfl rfl 10 (by decide) fl59 (fun _ h9 => h9) rfl dX2_addCell_28 ?_
    refine lv_iload hx hb dX2_addCell_31 (lv_at hl 0 rfl) ?_
    refine lv_i2l (v := (cpl own (τ 0 ((10 * b) + a))).toInt64) hx hb dX2_addCell_33 rfl ?_
    refine lv_aload_n hx hb dX2_addCell_34 rfl (lv_at hl 1 rfl) ?_
    refine va_get (D := D) (cl := vwCl) (ci := 2) (v := .ref (am 1)) (C := RX2) (T := TX2) (N := 15) hx hb hts inX2 hown hK hP 0 rfl rfl 4 (by decide) fl13 (fun _ h9 => h9) rfl dX2_addCell_35 ?_
    refine lv_bipush (v := nI 10) hx hb dX2_addCell_38 (by decide) ?_
    refine lv_iload_n hx hb dX2_addCell_40 rfl (lv_at hl 4 rfl) ?_
    refine lv_imul hx hb dX2_addCell_41 ?_
    refine top_eq (y := nI (10 * b)) (pk_mul 10 b) ?_
    refine lv_iload_n hx hb dX2_addCell_42 rfl (lv_at hl 3 rfl) ?_
    refine lv_iadd hx hb dX2_addCell_43 ?_
    refine top_eq (y := nI ((10 * b) + a)) (nI_add (10 * b) a) ?_
    refine a_ld hx hb hK hP 2 0 rfl rfl ((10 * b) + a) (rfl) (hab) (by decide) dX2_addCell_44 ?_
    refine lv_i2l (v := (τ 1 ((10 * b) + a)).toInt64) hx hb dX2_addCell_45 rfl ?_
    refine lv_lmul hx hb dX2_addCell_46 ?_
    refine lv_ladd hx hb dX2_addCell_47 ?_
    refine va_put (D := D) (cl := vwCl) (ci := 2) (v := .long ((ℓ 1 0) + (((cpl own (τ 0 ((10 * b) + a))).toInt64) * ((τ 1 ((10 * b) + a)).toInt64)))) (ty := .long) (C := RX2) (T := TX2) (N := 15) hx hb hts inX2 tyX2 tyX2_ok nmX2 hown hK hP hD hS 0 rfl rfl 10 (by decide) fl59 (fun _ h9 => h9) rfl (by decide +kernel) rfl rfl (Nat.le_of_ble_eq_true rfl) dX2_addCell_48 (fun H locs hP _ hS => ?_)
    obtain ⟨ℓ1, eℓ1⟩ : ∃ z, z = upL ℓ 1 0 ((ℓ 1 0) + (((cpl own (τ 0 ((10 * b) + a))).toInt64) * ((τ 1 ((10 * b) + a)).toInt64))) := ⟨_, rfl⟩
    replace hP : va_P D vwCl (wM am cI cJ X Y τ ℓ1) H := by rw [eℓ1]; exact hP
    have hP : va_P D vwCl (wM am cI cJ X Y τ ℓ1) H := hP
    have hD : va_D A (wM am cI cJ X Y τ ℓ1) := wM_D hD _ _
    refine lv_aload_n hx hb dX2_addCell_51 rfl (lv_at hl 1 rfl) ?_
    refine lv_aload_n hx hb dX2_addCell_52 rfl (lv_at hl 1 rfl) ?_
    refine va_get (D := D) (cl := vwCl) (ci := 2) (v := .long (ℓ1 1 1)) (C := RX2) (T := TX2) (N := 15) hx hb hts inX2 hown hK hP 0 rfl rfl 11 (by decide) fl63 (fun _ h9 => h9) rfl dX2_addCell_53 ?_
    refine lv_iload hx hb dX2_addCell_56 (lv_at hl 0 rfl) ?_
    refine lv_i2l (v := (cpl own (τ 0 ((10 * b) + a))).toInt64) hx hb dX2_addCell_58 rfl ?_
    refine lv_ladd hx hb dX2_addCell_59 ?_
    refine va_put (D := D) (cl := vwCl) (ci := 2) (v := .long ((ℓ1 1 1) + ((cpl own (τ 0 ((10 * b) + a))).toInt64))) (ty := .long) (C := RX2) (T := TX2) (N := 15) hx hb hts inX2 tyX2 tyX2_ok nmX2 hown hK hP hD hS 0 rfl rfl 11 (by decide) fl63 (fun _ h9 => h9) rfl (by decide +kernel) rfl rfl (Nat.le_of_ble_eq_true rfl) dX2_addCell_60 (fun H locs hP _ hS => ?_)
    obtain ⟨ℓ2, eℓ2⟩ : ∃ z, z = upL ℓ1 1 1 ((ℓ1 1 1) + ((cpl own (τ 0 ((10 * b) + a))).toInt64)) := ⟨_, rfl⟩
    replace hP : va_P D vwCl (wM am cI cJ X Y τ ℓ2) H := by rw [eℓ2]; exact hP
    have hP : va_P D vwCl (wM am cI cJ X Y τ ℓ2) H := hP
    have hD : va_D A (wM am cI cJ X Y τ ℓ2) := wM_D hD _ _
    have e9 : f_add X Y τ own (nI a) (nI b) ℓ = ℓ2 := by subst eℓ2 eℓ1; unfold f_add; rw [if_neg c6, ix_e a b (by omega) (by omega)]; rfl
    exact W.vret hx hb hr (fun t ht _ => ⟨rfl, by rw [ht]; first | exact hP | (rw [e9]; exact hP), by rw [hAe]; exact hS.F ht⟩) hS.2.2 dX2_addCell_63
