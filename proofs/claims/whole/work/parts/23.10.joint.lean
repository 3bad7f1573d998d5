set_option maxHeartbeats 4000000 in
set_option maxRecDepth 100000 in
theorem t_X1_joint (l : Launch) (D : va_G) (cI cJ : ClassId) (ab ad : Nat → Nat) (X Y : Nat) (σ : Nat → Nat → Int32) (hh : Nat → Int64) (hw : Nat → Int32) (n : Int32) (hB : 1 ≤ X ∧ X ≤ 10 ∧ 1 ≤ Y ∧ Y ≤ 10) (sa : Nat → Nat) (hst9 : l.stackTraces = false)  (hv : vJoint n = 0) : tMet l yX1_joint wsX1_joint 6 82 D (tY cI cJ) sa (wB ab ad cI cJ X Y σ hh hw n) [.ref (ab 0)] nISE := by
  refine vx_ofW (cc := cX1_joint) (maxL := 1) (ret := (some .int)) (by decide) rfl ?_
  intro p e s m args below meth c s₁ B hml ht9 hv9
  obtain ⟨rfl, hP, hK, hV, hH⟩ := hv9
  have hx := B.exec
  have hb := B.bytes
  have hr := B.returns
  have hts := atoms_spec (ws := wsX1_joint) B.pre
  have hown : s.vm.findClass RX1 = some m.cls := findClass_of_methodNamed B.named
  have hlocks := B.notSynchronized
  have inX1 : ∀ w ∈ wsX10, w ∈ wsX1_joint := by decide +kernel
  have fl17 := hts (.fieldLink RX1 17 "BridgeCells" "joints" "I") (by decide +kernel)
  have hin9 : ∀ w ∈ Cond.classLink RX1 139 nISE :: Cond.initialized nISE :: (vx_atS RX1 143 nISE nSup).filter goodWord, w ∈ wsX1_joint := by decide +kernel
  have hl := lv_entry ([.ref (ab 0)]) (n := 1) (Nat.le_of_ble_eq_true rfl)
  rw [lg_entry_eq]
  generalize (lg_sl ([.ref (ab 0)]) ++ List.replicate (1 - (lg_sl ([.ref (ab 0)])).length) Slot.unset).toArray = ls at hl ⊢
  have hl : lv_has ls 1 [(0, .ref (ab 0))] := hl
  refine lv_aload_n hx hb dX1_joint_0 rfl (lv_at hl 0 rfl) ?_
  refine va_get (D := D) (cl := vwCl) (ci := 1) (v := .int n) (C := RX1) (T := TX1) (N := 4) hx hb hts inX1 hown hK hP 0 rfl rfl 3 (by decide) fl17 (fun _ h9 => h9) rfl dX1_joint_1 ?_
  refine lv_bipush (v := 10) hx hb dX1_joint_4 (by decide) ?_
  refine lv_icmp_lt (tgt := 19) hx hb dX1_joint_6 (by decide) (fun c6 => ?_) (fun c6 => ?_)
  · -- 19
    exact absurd hv (by unfold vJoint; rw [if_neg (Int32.not_le.mpr c6)]; decide)
  · -- 9
    exact t_J (Ts := wsX1_joint) hx hb hst9 hml hown hts hin9 hV hH hl hlocks ht9 141 "there are 10 joints" (by decide) dX1_joint_9 dX1_joint_12 dX1_joint_13 dX1_joint_15 dX1_joint_18 (Nat.le_of_ble_eq_true rfl) (Nat.le_of_ble_eq_true rfl) (Nat.le_of_ble_eq_true rfl) (Nat.le_of_ble_eq_true rfl)
