set_option maxHeartbeats 4000000 in
set_option maxRecDepth 100000 in
theorem t_X1_flow (l : Launch) (D : va_G) (cI cJ : ClassId) (ab ad : Nat → Nat) (X Y : Nat) (σ : Nat → Nat → Int32) (hh : Nat → Int64) (hw : Nat → Int32) (n : Int32) (hB : 1 ≤ X ∧ X ≤ 10 ∧ 1 ≤ Y ∧ Y ≤ 10) (sa : Nat → Nat) (hst9 : l.stackTraces = false) (s0 : Int32) (hv : mIn s0 0 3 = 0) : tMet l yX1_flow wsX1_flow 6 82 D (tY cI cJ) sa (wB ab ad cI cJ X Y σ hh hw n) [.ref (ab 0), .int s0] nIAE := by
  refine vx_ofW (cc := cX1_flow) (maxL := 2) (ret := (some .long)) (by decide) rfl ?_
  intro p e s m args below meth c s₁ B hml ht9 hv9
  obtain ⟨rfl, hP, hK, hV, hH⟩ := hv9
  have hx := B.exec
  have hb := B.bytes
  have hr := B.returns
  have hts := atoms_spec (ws := wsX1_flow) B.pre
  have hown : s.vm.findClass RX1 = some m.cls := findClass_of_methodNamed B.named
  have hlocks := B.notSynchronized
  have hin9 : ∀ w ∈ Cond.classLink RX1 43 nIAE :: Cond.initialized nIAE :: (vx_atS RX1 47 nIAE nSup).filter goodWord, w ∈ wsX1_flow := by decide +kernel
  have hl := lv_entry ([.ref (ab 0), .int s0]) (n := 2) (Nat.le_of_ble_eq_true rfl)
  rw [lg_entry_eq]
  generalize (lg_sl ([.ref (ab 0), .int s0]) ++ List.replicate (2 - (lg_sl ([.ref (ab 0), .int s0])).length) Slot.unset).toArray = ls at hl ⊢
  have hl : lv_has ls 2 [(0, .ref (ab 0)), (1, .int s0)] := hl
  refine lv_iload_n hx hb dX1_flow_0 rfl (lv_at hl 1 rfl) ?_
  refine r_S ⟨hx, hb, hml, hown, hts⟩ (k_X1_isSide l D cI cJ s0) (va_cwS 1 hts gX1_flow_X1_isSide rfl rfl rfl (by decide +kernel) ⟨Nat.le_of_ble_eq_true rfl, Nat.le_of_ble_eq_true rfl⟩) P_nil hK rfl hl.1 rfl (Nat.le_of_ble_eq_true rfl) dX1_flow_1 (Nat.zero_le _) (Nat.zero_le _) ?_
  refine lv_if_ne (tgt := 17) hx hb dX1_flow_4 (by decide) (fun c4 => ?_) (fun c4 => ?_)
  · -- 17
    exact absurd hv (c4)
  · -- 7
    exact t_I (Ts := wsX1_flow) hx hb hst9 hml hown hts hin9 hV hH hl hlocks ht9 70 "no such side" (by decide) dX1_flow_7 dX1_flow_10 dX1_flow_11 dX1_flow_13 dX1_flow_16 (Nat.le_of_ble_eq_true rfl) (Nat.le_of_ble_eq_true rfl) (Nat.le_of_ble_eq_true rfl) (Nat.le_of_ble_eq_true rfl)
