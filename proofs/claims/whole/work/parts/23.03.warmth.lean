set_option maxHeartbeats 4000000 in
set_option maxRecDepth 100000 in
theorem t_X1_warmth (l : Launch) (D : va_G) (cI cJ : ClassId) (ab ad : Nat → Nat) (X Y : Nat) (σ : Nat → Nat → Int32) (hh : Nat → Int64) (hw : Nat → Int32) (n : Int32) (hB : 1 ≤ X ∧ X ≤ 10 ∧ 1 ≤ Y ∧ Y ≤ 10) (sa : Nat → Nat) (hst9 : l.stackTraces = false) (i j : Int32) (hv : mCell X Y i j = 0) : tMet l yX1_warmth wsX1_warmth 6 82 D (tY cI cJ) sa (wB ab ad cI cJ X Y σ hh hw n) [.ref (ab 0), .int i, .int j] nIAE := by
  refine vx_ofW (cc := cX1_warmth) (maxL := 3) (ret := (some .int)) (by decide) rfl ?_
  intro p e s m args below meth c s₁ B hml ht9 hv9
  obtain ⟨rfl, hP, hK, hV, hH⟩ := hv9
  have hx := B.exec
  have hb := B.bytes
  have hr := B.returns
  have hts := atoms_spec (ws := wsX1_warmth) B.pre
  have hown : s.vm.findClass RX1 = some m.cls := findClass_of_methodNamed B.named
  have hlocks := B.notSynchronized
  have inX1 : ∀ w ∈ wsX10, w ∈ wsX1_warmth := by decide +kernel
  have fl35 := hts (.fieldLink RX1 35 "BridgeCells" "section" "LBridgeCells$Section;") (by decide +kernel)
  have hin9 : ∀ w ∈ Cond.classLink RX1 43 nIAE :: Cond.initialized nIAE :: (vx_atS RX1 47 nIAE nSup).filter goodWord, w ∈ wsX1_warmth := by decide +kernel
  have hl := lv_entry ([.ref (ab 0), .int i, .int j]) (n := 3) (Nat.le_of_ble_eq_true rfl)
  rw [lg_entry_eq]
  generalize (lg_sl ([.ref (ab 0), .int i, .int j]) ++ List.replicate (3 - (lg_sl ([.ref (ab 0), .int i, .int j])).length) Slot.unset).toArray = ls at hl ⊢
  have hl : lv_has ls 3 [(0, .ref (ab 0)), (1, .int i), (2, .int j)] := hl
  refine lv_aload_n hx hb dX1_warmth_0 rfl (lv_at hl 0 rfl) ?_
  refine va_get (D := D) (cl := vwCl) (ci := 1) (v := .ref (ad 8)) (C := RX1) (T := TX1) (N := 4) hx hb hts inX1 hown hK hP 0 rfl rfl 0 (by decide) fl35 (fun _ h9 => h9) rfl dX1_warmth_1 ?_
  refine lv_iload_n hx hb dX1_warmth_4 rfl (lv_at hl 1 rfl) ?_
  refine lv_iload_n hx hb dX1_warmth_5 rfl (lv_at hl 2 rfl) ?_
  refine r_V ⟨hx, hb, hml, hown, hts⟩ (k_X0_holds l D cI cJ ad X Y σ hB i j) (cwV 2 hts gX1_warmth_X0_holds rfl rfl rfl (by decide +kernel) ⟨Nat.le_of_ble_eq_true rfl, Nat.le_of_ble_eq_true rfl⟩) (va_P_split (va_P_split hP).2).1 hK (va_recv hK hP (ci := 0) (q0 := 3) rfl rfl) rfl hl.1 rfl (Nat.le_of_ble_eq_true rfl) dX1_warmth_6 (Nat.zero_le _) (Nat.zero_le _) ?_
  refine lv_if_ne (tgt := 22) hx hb dX1_warmth_9 (by decide) (fun c9 => ?_) (fun c9 => ?_)
  · -- 22
    exact absurd hv (by rw [← hlds_e hB]; exact c9)
  · -- 12
    exact t_I (Ts := wsX1_warmth) hx hb hst9 hml hown hts hin9 hV hH hl hlocks ht9 45 "no such cell" (by decide) dX1_warmth_12 dX1_warmth_15 dX1_warmth_16 dX1_warmth_18 dX1_warmth_21 (Nat.le_of_ble_eq_true rfl) (Nat.le_of_ble_eq_true rfl) (Nat.le_of_ble_eq_true rfl) (Nat.le_of_ble_eq_true rfl)
