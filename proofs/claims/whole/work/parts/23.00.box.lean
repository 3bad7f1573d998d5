set_option maxHeartbeats 4000000 in
set_option maxRecDepth 100000 in
theorem t_X1_box (l : Launch) (D : va_G) (cI cJ : ClassId) (ab ad : Nat → Nat) (X Y : Nat) (σ : Nat → Nat → Int32) (hh : Nat → Int64) (hw : Nat → Int32) (n : Int32) (hB : 1 ≤ X ∧ X ≤ 10 ∧ 1 ≤ Y ∧ Y ≤ 10) (sa : Nat → Nat) (hst9 : l.stackTraces = false) (i0 j0 i1 j1 v : Int32) (hv : vBox X Y i0 j0 i1 j1 v = 0) : tMet l yX1_box wsX1_box 6 82 D (tY cI cJ) sa (wB ab ad cI cJ X Y σ hh hw n) [.ref (ab 0), .int i0, .int j0, .int i1, .int j1, .int v] nIAE := by
  refine vx_ofW (cc := cX1_box) (maxL := 6) (ret := (some .int)) (by decide) rfl ?_
  intro p e s m args below meth c s₁ B hml ht9 hv9
  obtain ⟨rfl, hP, hK, hV, hH⟩ := hv9
  have hx := B.exec
  have hb := B.bytes
  have hr := B.returns
  have hts := atoms_spec (ws := wsX1_box) B.pre
  have hown : s.vm.findClass RX1 = some m.cls := findClass_of_methodNamed B.named
  have hlocks := B.notSynchronized
  have inX1 : ∀ w ∈ wsX10, w ∈ wsX1_box := by decide +kernel
  have fl35 := hts (.fieldLink RX1 35 "BridgeCells" "section" "LBridgeCells$Section;") (by decide +kernel)
  have hin9 : ∀ w ∈ Cond.classLink RX1 43 nIAE :: Cond.initialized nIAE :: (vx_atS RX1 47 nIAE nSup).filter goodWord, w ∈ wsX1_box := by decide +kernel
  have hl := lv_entry ([.ref (ab 0), .int i0, .int j0, .int i1, .int j1, .int v]) (n := 6) (Nat.le_of_ble_eq_true rfl)
  rw [lg_entry_eq]
  generalize (lg_sl ([.ref (ab 0), .int i0, .int j0, .int i1, .int j1, .int v]) ++ List.replicate (6 - (lg_sl ([.ref (ab 0), .int i0, .int j0, .int i1, .int j1, .int v])).length) Slot.unset).toArray = ls at hl ⊢
  have hl : lv_has ls 6 [(0, .ref (ab 0)), (1, .int i0), (2, .int j0), (3, .int i1), (4, .int j1), (5, .int v)] := hl
  refine lv_aload_n hx hb dX1_box_0 rfl (lv_at hl 0 rfl) ?_
  refine va_get (D := D) (cl := vwCl) (ci := 1) (v := .ref (ad 8)) (C := RX1) (T := TX1) (N := 4) hx hb hts inX1 hown hK hP 0 rfl rfl 0 (by decide) fl35 (fun _ h9 => h9) rfl dX1_box_1 ?_
  refine lv_iload_n hx hb dX1_box_4 rfl (lv_at hl 1 rfl) ?_
  refine lv_iload_n hx hb dX1_box_5 rfl (lv_at hl 2 rfl) ?_
  refine r_V ⟨hx, hb, hml, hown, hts⟩ (k_X0_holds l D cI cJ ad X Y σ hB i0 j0) (cwV 2 hts gX1_box_X0_holds rfl rfl rfl (by decide +kernel) ⟨Nat.le_of_ble_eq_true rfl, Nat.le_of_ble_eq_true rfl⟩) (va_P_split (va_P_split hP).2).1 hK (va_recv hK hP (ci := 0) (q0 := 3) rfl rfl) rfl hl.1 rfl (Nat.le_of_ble_eq_true rfl) dX1_box_6 (Nat.zero_le _) (Nat.zero_le _) ?_
  refine lv_if_eq (tgt := 25) hx hb dX1_box_9 (by decide) (fun c9 => ?_) (fun c9 => ?_)
  · -- 25
    exact t_I (Ts := wsX1_box) hx hb hst9 hml hown hts hin9 hV hH hl hlocks ht9 45 "no such cell" (by decide) dX1_box_25 dX1_box_28 dX1_box_29 dX1_box_31 dX1_box_34 (Nat.le_of_ble_eq_true rfl) (Nat.le_of_ble_eq_true rfl) (Nat.le_of_ble_eq_true rfl) (Nat.le_of_ble_eq_true rfl)
  · -- 12
    refine lv_aload_n hx hb dX1_box_12 rfl (lv_at hl 0 rfl) ?_
    refine va_get (D := D) (cl := vwCl) (ci := 1) (v := .ref (ad 8)) (C := RX1) (T := TX1) (N := 4) hx hb hts inX1 hown hK hP 0 rfl rfl 0 (by decide) fl35 (fun _ h9 => h9) rfl dX1_box_13 ?_
    refine lv_iload_n hx hb dX1_box_16 rfl (lv_at hl 3 rfl) ?_
    refine lv_iload hx hb dX1_box_17 (lv_at hl 4 rfl) ?_
    refine r_V ⟨hx, hb, hml, hown, hts⟩ (k_X0_holds l D cI cJ ad X Y σ hB i1 j1) (cwV 2 hts gX1_box_X0_holds rfl rfl rfl (by decide +kernel) ⟨Nat.le_of_ble_eq_true rfl, Nat.le_of_ble_eq_true rfl⟩) (va_P_split (va_P_split hP).2).1 hK (va_recv hK hP (ci := 0) (q0 := 3) rfl rfl) rfl hl.1 rfl (Nat.le_of_ble_eq_true rfl) dX1_box_19 (Nat.zero_le _) (Nat.zero_le _) ?_
    refine lv_if_ne (tgt := 35) hx hb dX1_box_22 (by decide) (fun c22 => ?_) (fun c22 => ?_)
    · -- 35
      refine lv_iload_n hx hb dX1_box_35 rfl (lv_at hl 1 rfl) ?_
      refine lv_iload_n hx hb dX1_box_36 rfl (lv_at hl 3 rfl) ?_
      refine lv_icmp_gt (tgt := 46) hx hb dX1_box_37 (by decide) (fun c37 => ?_) (fun c37 => ?_)
      · -- 46
        exact t_I (Ts := wsX1_box) hx hb hst9 hml hown hts hin9 hV hH hl hlocks ht9 50 "the first column or row is behind the last one" (by decide) dX1_box_46 dX1_box_49 dX1_box_50 dX1_box_52 dX1_box_55 (Nat.le_of_ble_eq_true rfl) (Nat.le_of_ble_eq_true rfl) (Nat.le_of_ble_eq_true rfl) (Nat.le_of_ble_eq_true rfl)
      · -- 40
        refine lv_iload_n hx hb dX1_box_40 rfl (lv_at hl 2 rfl) ?_
        refine lv_iload hx hb dX1_box_41 (lv_at hl 4 rfl) ?_
        refine lv_icmp_le (tgt := 56) hx hb dX1_box_43 (by decide) (fun c43 => ?_) (fun c43 => ?_)
        · -- 56
          refine lv_iload hx hb dX1_box_56 (lv_at hl 5 rfl) ?_
          refine lv_iconst (v := 0) hx hb dX1_box_58 (by decide) ?_
          refine lv_bipush (v := 20) hx hb dX1_box_59 (by decide) ?_
          refine r_S ⟨hx, hb, hml, hown, hts⟩ (k_X1_isWithin l D cI cJ v 0 20) (va_cwS 3 hts gX1_box_X1_isWithin rfl rfl rfl (by decide +kernel) ⟨Nat.le_of_ble_eq_true rfl, Nat.le_of_ble_eq_true rfl⟩) P_nil hK rfl hl.1 rfl (Nat.le_of_ble_eq_true rfl) dX1_box_61 (Nat.zero_le _) (Nat.zero_le _) ?_
          refine lv_if_ne (tgt := 77) hx hb dX1_box_64 (by decide) (fun c64 => ?_) (fun c64 => ?_)
          · -- 77
            exact absurd hv (by unfold vBox; rw [← hlds_e hB, ← hlds_e hB, if_neg c9, if_neg c22, if_neg c37, if_neg (Int32.not_lt.mpr c43), if_neg c64]; decide)
          · -- 67
            exact t_I (Ts := wsX1_box) hx hb hst9 hml hown hts hin9 hV hH hl hlocks ht9 56 "leads is out of its bounds" (by decide) dX1_box_67 dX1_box_70 dX1_box_71 dX1_box_73 dX1_box_76 (Nat.le_of_ble_eq_true rfl) (Nat.le_of_ble_eq_true rfl) (Nat.le_of_ble_eq_true rfl) (Nat.le_of_ble_eq_true rfl)
        · -- 46
          exact t_I (Ts := wsX1_box) hx hb hst9 hml hown hts hin9 hV hH hl hlocks ht9 50 "the first column or row is behind the last one" (by decide) dX1_box_46 dX1_box_49 dX1_box_50 dX1_box_52 dX1_box_55 (Nat.le_of_ble_eq_true rfl) (Nat.le_of_ble_eq_true rfl) (Nat.le_of_ble_eq_true rfl) (Nat.le_of_ble_eq_true rfl)
    · -- 25
      exact t_I (Ts := wsX1_box) hx hb hst9 hml hown hts hin9 hV hH hl hlocks ht9 45 "no such cell" (by decide) dX1_box_25 dX1_box_28 dX1_box_29 dX1_box_31 dX1_box_34 (Nat.le_of_ble_eq_true rfl) (Nat.le_of_ble_eq_true rfl) (Nat.le_of_ble_eq_true rfl) (Nat.le_of_ble_eq_true rfl)
