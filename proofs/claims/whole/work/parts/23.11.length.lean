set_option maxHeartbeats 4000000 in
set_option maxRecDepth 100000 in
theorem t_X1_length (l : Launch) (D : va_G) (cI cJ : ClassId) (ab ad : Nat → Nat) (X Y : Nat) (σ : Nat → Nat → Int32) (hh : Nat → Int64) (hw : Nat → Int32) (n : Int32) (hB : 1 ≤ X ∧ X ≤ 10 ∧ 1 ≤ Y ∧ Y ≤ 10) (sa : Nat → Nat) (hst9 : l.stackTraces = false) (k mt : Int32) (hv : vLen n k mt = 0) : tMet l yX1_length wsX1_length 6 82 D (tY cI cJ) sa (wB ab ad cI cJ X Y σ hh hw n) [.ref (ab 0), .int k, .int mt] nIAE := by
  refine vx_ofW (cc := cX1_length) (maxL := 4) (ret := (some .int)) (by decide) rfl ?_
  intro p e s m args below meth c s₁ B hml ht9 hv9
  obtain ⟨rfl, hP, hK, hV, hH⟩ := hv9
  have hx := B.exec
  have hb := B.bytes
  have hr := B.returns
  have hts := atoms_spec (ws := wsX1_length) B.pre
  have hown : s.vm.findClass RX1 = some m.cls := findClass_of_methodNamed B.named
  have hlocks := B.notSynchronized
  have hin9 : ∀ w ∈ Cond.classLink RX1 43 nIAE :: Cond.initialized nIAE :: (vx_atS RX1 47 nIAE nSup).filter goodWord, w ∈ wsX1_length := by decide +kernel
  have hl := lv_entry ([.ref (ab 0), .int k, .int mt]) (n := 4) (Nat.le_of_ble_eq_true rfl)
  rw [lg_entry_eq]
  generalize (lg_sl ([.ref (ab 0), .int k, .int mt]) ++ List.replicate (4 - (lg_sl ([.ref (ab 0), .int k, .int mt])).length) Slot.unset).toArray = ls at hl ⊢
  have hl : lv_has ls 4 [(0, .ref (ab 0)), (1, .int k), (2, .int mt)] := hl
  refine lv_aload_n hx hb dX1_length_0 rfl (lv_at hl 0 rfl) ?_
  refine lv_iload_n hx hb dX1_length_1 rfl (lv_at hl 1 rfl) ?_
  refine r_V ⟨hx, hb, hml, hown, hts⟩ (k_X1_isJoint l D cI cJ ab ad X Y σ hh hw n hB k) (cwV 1 hts gX1_length_X1_isJoint rfl rfl rfl (by decide +kernel) ⟨Nat.le_of_ble_eq_true rfl, Nat.le_of_ble_eq_true rfl⟩) hP hK (va_recv hK hP (ci := 1) (q0 := 0) rfl rfl) rfl hl.1 rfl (Nat.le_of_ble_eq_true rfl) dX1_length_2 (Nat.zero_le _) (Nat.zero_le _) ?_
  refine lv_if_ne (tgt := 18) hx hb dX1_length_5 (by decide) (fun c5 => ?_) (fun c5 => ?_)
  · -- 18
    refine lv_iload_n hx hb dX1_length_18 rfl (lv_at hl 2 rfl) ?_
    refine lv_iconst (v := 0) hx hb dX1_length_19 (by decide) ?_
    refine lv_sipush (v := 1000) hx hb dX1_length_20 (by decide) ?_
    refine r_S ⟨hx, hb, hml, hown, hts⟩ (k_X1_isWithin l D cI cJ mt 0 1000) (va_cwS 3 hts gX1_length_X1_isWithin rfl rfl rfl (by decide +kernel) ⟨Nat.le_of_ble_eq_true rfl, Nat.le_of_ble_eq_true rfl⟩) P_nil hK rfl hl.1 rfl (Nat.le_of_ble_eq_true rfl) dX1_length_23 (Nat.zero_le _) (Nat.zero_le _) ?_
    refine lv_if_ne (tgt := 39) hx hb dX1_length_26 (by decide) (fun c26 => ?_) (fun c26 => ?_)
    · -- 39
      exact absurd hv (by unfold vLen; rw [if_neg c5, if_neg c26]; decide)
    · -- 29
      exact t_I (Ts := wsX1_length) hx hb hst9 hml hown hts hin9 hV hH hl hlocks ht9 149 "metres is out of its bounds" (by decide) dX1_length_29 dX1_length_32 dX1_length_33 dX1_length_35 dX1_length_38 (Nat.le_of_ble_eq_true rfl) (Nat.le_of_ble_eq_true rfl) (Nat.le_of_ble_eq_true rfl) (Nat.le_of_ble_eq_true rfl)
  · -- 8
    exact t_I (Ts := wsX1_length) hx hb hst9 hml hown hts hin9 hV hH hl hlocks ht9 147 "no such joint" (by decide) dX1_length_8 dX1_length_11 dX1_length_12 dX1_length_14 dX1_length_17 (Nat.le_of_ble_eq_true rfl) (Nat.le_of_ble_eq_true rfl) (Nat.le_of_ble_eq_true rfl) (Nat.le_of_ble_eq_true rfl)
