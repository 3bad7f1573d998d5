set_option maxHeartbeats 4000000 in
set_option maxRecDepth 100000 in
theorem k_X1_box_ok (l : Launch) (D : va_G) (cI cJ : ClassId) (ab ad : Nat → Nat) (X Y : Nat) (σ : Nat → Nat → Int32) (hh : Nat → Int64) (hw : Nat → Int32) (n : Int32) (hB : 1 ≤ X ∧ X ≤ 10 ∧ 1 ≤ Y ∧ Y ≤ 10) (i0 j0 i1 j1 : Nat) (v : Int32) (hi : i0 ≤ i1) (hi1 : i1 < X) (hj : j0 ≤ j1) (hj1 : j1 < Y) (hv : ¬ mIn v 0 20 = 0) : wMet l yX1_box wsX1_box 3 67 D (tY cI cJ) (wB ab ad cI cJ X Y σ hh hw n) (wB ab ad cI cJ X Y (f_fill X i0 j0 i1 j1 v σ) hh hw n) [.ref (ab 0), .int (nI i0), .int (nI j0), .int (nI i1), .int (nI j1), .int v] (some (.int (n_countThere X (f_fill X i0 j0 i1 j1 v σ) Y))) := by
  refine Met.ofW (cc := cX1_box) (maxL := 6) (ret := (some .int)) (by decide) rfl ?_
  intro p e s m args below meth c s₁ B hml hv
  obtain ⟨rfl, hP, hK, hD0⟩ := hv
  have hx := B.exec
  have hb := B.bytes
  have hr := B.returns
  have hts := atoms_spec (ws := wsX1_box) B.pre
  have hown : s.vm.findClass RX1 = some m.cls := findClass_of_methodNamed B.named
  have hlocks := B.notSynchronized
  have inX1 : ∀ w ∈ wsX10, w ∈ wsX1_box := by decide +kernel
  have fl35 := hts (.fieldLink RX1 35 "BridgeCells" "section" "LBridgeCells$Section;") (by decide +kernel)
  have hl := lv_entry ([.ref (ab 0), .int (nI i0), .int (nI j0), .int (nI i1), .int (nI j1), .int v]) (n := 6) (Nat.le_of_ble_eq_true rfl)
  rw [lg_entry_eq]
  generalize (lg_sl ([.ref (ab 0), .int (nI i0), .int (nI j0), .int (nI i1), .int (nI j1), .int v]) ++ List.replicate (6 - (lg_sl ([.ref (ab 0), .int (nI i0), .int (nI j0), .int (nI i1), .int (nI j1), .int v])).length) Slot.unset).toArray = ls at hl ⊢
  have hl : lv_has ls 6 [(0, .ref (ab 0)), (1, .int (nI i0)), (2, .int (nI j0)), (3, .int (nI i1)), (4, .int (nI j1)), (5, .int v)] := hl
  have hD := aw_D hD0
  generalize hAe : aw (wB ab ad cI cJ X Y σ hh hw n) = A at hD ⊢
  have hS : va_S A s.heap s.heap [] := va_S.rf
  refine lv_aload_n hx hb dX1_box_0 rfl (lv_at hl 0 rfl) ?_
  refine va_get (D := D) (cl := vwCl) (ci := 1) (v := .ref (ad 8)) (C := RX1) (T := TX1) (N := 4) hx hb hts inX1 hown hK hP 0 rfl rfl 0 (by decide) fl35 (fun _ h9 => h9) rfl dX1_box_1 ?_
  refine lv_iload_n hx hb dX1_box_4 rfl (lv_at hl 1 rfl) ?_
  refine lv_iload_n hx hb dX1_box_5 rfl (lv_at hl 2 rfl) ?_
  refine r_V ⟨hx, hb, hml, hown, hts⟩ (k_X0_holds l D cI cJ ad X Y σ hB (nI i0) (nI j0)) (cwV 2 hts gX1_box_X0_holds rfl rfl rfl (by decide +kernel) ⟨Nat.le_of_ble_eq_true rfl, Nat.le_of_ble_eq_true rfl⟩) (va_P_split (va_P_split hP).2).1 hK (va_recv hK hP (ci := 0) (q0 := 3) rfl rfl) rfl hl.1 rfl (Nat.le_of_ble_eq_true rfl) dX1_box_6 (Nat.zero_le _) (Nat.zero_le _) ?_
  refine lv_if_eq (tgt := 25) hx hb dX1_box_9 (by decide) (fun c9 => False.elim (ne10 (hl_in hB (show i0 < X by omega) (show j0 < Y by omega)) c9)) (fun _ => ?_)
  refine lv_aload_n hx hb dX1_box_12 rfl (lv_at hl 0 rfl) ?_
  refine va_get (D := D) (cl := vwCl) (ci := 1) (v := .ref (ad 8)) (C := RX1) (T := TX1) (N := 4) hx hb hts inX1 hown hK hP 0 rfl rfl 0 (by decide) fl35 (fun _ h9 => h9) rfl dX1_box_13 ?_
  refine lv_iload_n hx hb dX1_box_16 rfl (lv_at hl 3 rfl) ?_
  refine lv_iload hx hb dX1_box_17 (lv_at hl 4 rfl) ?_
  refine r_V ⟨hx, hb, hml, hown, hts⟩ (k_X0_holds l D cI cJ ad X Y σ hB (nI i1) (nI j1)) (cwV 2 hts gX1_box_X0_holds rfl rfl rfl (by decide +kernel) ⟨Nat.le_of_ble_eq_true rfl, Nat.le_of_ble_eq_true rfl⟩) (va_P_split (va_P_split hP).2).1 hK (va_recv hK hP (ci := 0) (q0 := 3) rfl rfl) rfl hl.1 rfl (Nat.le_of_ble_eq_true rfl) dX1_box_19 (Nat.zero_le _) (Nat.zero_le _) ?_
  refine lv_if_ne (tgt := 35) hx hb dX1_box_22 (by decide) (fun _ => ?_) (fun c9 => False.elim (ne10 (hl_in hB hi1 hj1) c9))
  refine lv_iload_n hx hb dX1_box_35 rfl (lv_at hl 1 rfl) ?_
  refine lv_iload_n hx hb dX1_box_36 rfl (lv_at hl 3 rfl) ?_
  refine lv_icmp_gt (tgt := 46) hx hb dX1_box_37 (by decide) (fun c9 => False.elim (nI_nlt hi (by omega) c9)) (fun _ => ?_)
  refine lv_iload_n hx hb dX1_box_40 rfl (lv_at hl 2 rfl) ?_
  refine lv_iload hx hb dX1_box_41 (lv_at hl 4 rfl) ?_
  refine lv_icmp_le (tgt := 56) hx hb dX1_box_43 (by decide) (fun _ => ?_) (fun c9 => False.elim (c9 (nI_le hj (by omega))))
  refine lv_iload hx hb dX1_box_56 (lv_at hl 5 rfl) ?_
  refine lv_iconst (v := 0) hx hb dX1_box_58 (by decide) ?_
  refine lv_bipush (v := 20) hx hb dX1_box_59 (by decide) ?_
  refine r_S ⟨hx, hb, hml, hown, hts⟩ (k_X1_isWithin l D cI cJ v 0 20) (va_cwS 3 hts gX1_box_X1_isWithin rfl rfl rfl (by decide +kernel) ⟨Nat.le_of_ble_eq_true rfl, Nat.le_of_ble_eq_true rfl⟩) P_nil hK rfl hl.1 rfl (Nat.le_of_ble_eq_true rfl) dX1_box_61 (Nat.zero_le _) (Nat.zero_le _) ?_
  refine lv_if_ne (tgt := 77) hx hb dX1_box_64 (by decide) (fun _ => ?_) (fun c9 => False.elim (hv c9))
  refine lv_aload_n hx hb dX1_box_77 rfl (lv_at hl 0 rfl) ?_
  refine va_get (D := D) (cl := vwCl) (ci := 1) (v := .ref (ad 8)) (C := RX1) (T := TX1) (N := 4) hx hb hts inX1 hown hK hP 0 rfl rfl 0 (by decide) fl35 (fun _ h9 => h9) rfl dX1_box_78 ?_
  refine lv_iload_n hx hb dX1_box_81 rfl (lv_at hl 1 rfl) ?_
  refine lv_iload_n hx hb dX1_box_82 rfl (lv_at hl 2 rfl) ?_
  refine lv_iload_n hx hb dX1_box_83 rfl (lv_at hl 3 rfl) ?_
  refine lv_iload hx hb dX1_box_84 (lv_at hl 4 rfl) ?_
  refine lv_iload hx hb dX1_box_86 (lv_at hl 5 rfl) ?_
  refine w_V (A := A) ⟨hx, hb, hml, hown, hts⟩ (k_X0_fill l D cI cJ ad X Y σ hB i0 j0 i1 j1 v (hi) (hi1) (hj) (hj1)) (cwV 5 hts gX1_box_X0_fill rfl rfl rfl (by decide +kernel) ⟨Nat.le_of_ble_eq_true rfl, Nat.le_of_ble_eq_true rfl⟩) (wBh ab ad cI cJ hh hw n) ([]) hP hD hS hK (va_recv hK hP (ci := 0) (q0 := 3) rfl rfl) rfl hl.1 rfl (Nat.le_of_ble_eq_true rfl) dX1_box_88 (Nat.zero_le _) (Nat.zero_le _) (fun H locs hP hS => ?_)
  have hP : va_P D vwCl (wB ab ad cI cJ X Y (f_fill X i0 j0 i1 j1 v σ) hh hw n) H := hP
  have hD : va_D A (wB ab ad cI cJ X Y (f_fill X i0 j0 i1 j1 v σ) hh hw n) := wB_D hD _ _ _ _
  refine lv_aload_n hx hb dX1_box_91 rfl (lv_at hl 0 rfl) ?_
  refine va_get (D := D) (cl := vwCl) (ci := 1) (v := .ref (ad 8)) (C := RX1) (T := TX1) (N := 4) hx hb hts inX1 hown hK hP 0 rfl rfl 0 (by decide) fl35 (fun _ h9 => h9) rfl dX1_box_92 ?_
  refine r_V ⟨hx, hb, hml, hown, hts⟩ (k_X0_countThere l D cI cJ ad X Y (f_fill X i0 j0 i1 j1 v σ) hB) (cwV 0 hts gX1_box_X0_countThere rfl rfl rfl (by decide +kernel) ⟨Nat.le_of_ble_eq_true rfl, Nat.le_of_ble_eq_true rfl⟩) (va_P_split (va_P_split hP).2).1 hK (va_recv hK hP (ci := 0) (q0 := 3) rfl rfl) rfl hl.1 rfl (Nat.le_of_ble_eq_true rfl) dX1_box_95 (Nat.zero_le _) (Nat.zero_le _) ?_
  exact W.iret hx hb hr (fun t ht _ => ⟨rfl, by rw [ht]; exact hP, by rw [hAe]; exact hS.F ht⟩) hS.2.2 dX1_box_98
