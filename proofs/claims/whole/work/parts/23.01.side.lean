set_option maxHeartbeats 4000000 in
set_option maxRecDepth 100000 in
theorem t_X1_side (l : Launch) (D : va_G) (cI cJ : ClassId) (ab ad : Nat → Nat) (X Y : Nat) (σ : Nat → Nat → Int32) (hh : Nat → Int64) (hw : Nat → Int32) (n : Int32) (hB : 1 ≤ X ∧ X ≤ 10 ∧ 1 ≤ Y ∧ Y ≤ 10) (sa : Nat → Nat) (hst9 : l.stackTraces = false) (s0 w f : Int32) (hv : vSide s0 w f = 0) : tMet l yX1_side wsX1_side 6 82 D (tY cI cJ) sa (wB ab ad cI cJ X Y σ hh hw n) [.ref (ab 0), .int s0, .int w, .int f] nIAE := by
  refine vx_ofW (cc := cX1_side) (maxL := 4) (ret := (some .int)) (by decide) rfl ?_
  intro p e s m args below meth c s₁ B hml ht9 hv9
  obtain ⟨rfl, hP, hK, hV, hH⟩ := hv9
  have hx := B.exec
  have hb := B.bytes
  have hr := B.returns
  have hts := atoms_spec (ws := wsX1_side) B.pre
  have hown : s.vm.findClass RX1 = some m.cls := findClass_of_methodNamed B.named
  have hlocks := B.notSynchronized
  have hin9 : ∀ w ∈ Cond.classLink RX1 43 nIAE :: Cond.initialized nIAE :: (vx_atS RX1 47 nIAE nSup).filter goodWord, w ∈ wsX1_side := by decide +kernel
  have hl := lv_entry ([.ref (ab 0), .int s0, .int w, .int f]) (n := 4) (Nat.le_of_ble_eq_true rfl)
  rw [lg_entry_eq]
  generalize (lg_sl ([.ref (ab 0), .int s0, .int w, .int f]) ++ List.replicate (4 - (lg_sl ([.ref (ab 0), .int s0, .int w, .int f])).length) Slot.unset).toArray = ls at hl ⊢
  have hl : lv_has ls 4 [(0, .ref (ab 0)), (1, .int s0), (2, .int w), (3, .int f)] := hl
  refine lv_iload_n hx hb dX1_side_0 rfl (lv_at hl 1 rfl) ?_
  refine r_S ⟨hx, hb, hml, hown, hts⟩ (k_X1_isSide l D cI cJ s0) (va_cwS 1 hts gX1_side_X1_isSide rfl rfl rfl (by decide +kernel) ⟨Nat.le_of_ble_eq_true rfl, Nat.le_of_ble_eq_true rfl⟩) P_nil hK rfl hl.1 rfl (Nat.le_of_ble_eq_true rfl) dX1_side_1 (Nat.zero_le _) (Nat.zero_le _) ?_
  refine lv_if_ne (tgt := 17) hx hb dX1_side_4 (by decide) (fun c4 => ?_) (fun c4 => ?_)
  · -- 17
    refine lv_iload_n hx hb dX1_side_17 rfl (lv_at hl 2 rfl) ?_
    refine lv_sipush (v := (-10000)) hx hb dX1_side_18 (by decide) ?_
    refine lv_sipush (v := 10000) hx hb dX1_side_21 (by decide) ?_
    refine r_S ⟨hx, hb, hml, hown, hts⟩ (k_X1_isWithin l D cI cJ w (-10000) 10000) (va_cwS 3 hts gX1_side_X1_isWithin rfl rfl rfl (by decide +kernel) ⟨Nat.le_of_ble_eq_true rfl, Nat.le_of_ble_eq_true rfl⟩) P_nil hK rfl hl.1 rfl (Nat.le_of_ble_eq_true rfl) dX1_side_24 (Nat.zero_le _) (Nat.zero_le _) ?_
    refine lv_if_ne (tgt := 40) hx hb dX1_side_27 (by decide) (fun c27 => ?_) (fun c27 => ?_)
    · -- 40
      refine lv_iload_n hx hb dX1_side_40 rfl (lv_at hl 3 rfl) ?_
      refine lv_iconst (v := 0) hx hb dX1_side_41 (by decide) ?_
      refine lv_bipush (v := 20) hx hb dX1_side_42 (by decide) ?_
      refine r_S ⟨hx, hb, hml, hown, hts⟩ (k_X1_isWithin l D cI cJ f 0 20) (va_cwS 3 hts gX1_side_X1_isWithin rfl rfl rfl (by decide +kernel) ⟨Nat.le_of_ble_eq_true rfl, Nat.le_of_ble_eq_true rfl⟩) P_nil hK rfl hl.1 rfl (Nat.le_of_ble_eq_true rfl) dX1_side_44 (Nat.zero_le _) (Nat.zero_le _) ?_
      refine lv_if_ne (tgt := 60) hx hb dX1_side_47 (by decide) (fun c47 => ?_) (fun c47 => ?_)
      · -- 60
        exact absurd hv (by unfold vSide; rw [if_neg c4, if_neg c27, if_neg c47]; decide)
      · -- 50
        exact t_I (Ts := wsX1_side) hx hb hst9 hml hown hts hin9 hV hH hl hlocks ht9 74 "film is out of its bounds" (by decide) dX1_side_50 dX1_side_53 dX1_side_54 dX1_side_56 dX1_side_59 (Nat.le_of_ble_eq_true rfl) (Nat.le_of_ble_eq_true rfl) (Nat.le_of_ble_eq_true rfl) (Nat.le_of_ble_eq_true rfl)
    · -- 30
      exact t_I (Ts := wsX1_side) hx hb hst9 hml hown hts hin9 hV hH hl hlocks ht9 72 "warmth is out of its bounds" (by decide) dX1_side_30 dX1_side_33 dX1_side_34 dX1_side_36 dX1_side_39 (Nat.le_of_ble_eq_true rfl) (Nat.le_of_ble_eq_true rfl) (Nat.le_of_ble_eq_true rfl) (Nat.le_of_ble_eq_true rfl)
  · -- 7
    exact t_I (Ts := wsX1_side) hx hb hst9 hml hown hts hin9 hV hH hl hlocks ht9 70 "no such side" (by decide) dX1_side_7 dX1_side_10 dX1_side_11 dX1_side_13 dX1_side_16 (Nat.le_of_ble_eq_true rfl) (Nat.le_of_ble_eq_true rfl) (Nat.le_of_ble_eq_true rfl) (Nat.le_of_ble_eq_true rfl)
