set_option maxHeartbeats 4000000 in
set_option maxRecDepth 100000 in
theorem t_X1_factor (l : Launch) (D : va_G) (cI cJ : ClassId) (ab ad : Nat → Nat) (X Y : Nat) (σ : Nat → Nat → Int32) (hh : Nat → Int64) (hw : Nat → Int32) (n : Int32) (hB : 1 ≤ X ∧ X ≤ 10 ∧ 1 ≤ Y ∧ Y ≤ 10) (sa : Nat → Nat) (hst9 : l.stackTraces = false) (s0 w : Int32) (hv : vTwo s0 w = 0) : tMet l yX1_factor wsX1_factor 6 82 D (tY cI cJ) sa (wB ab ad cI cJ X Y σ hh hw n) [.ref (ab 0), .int s0, .int w] nIAE := by
  refine vx_ofW (cc := cX1_factor) (maxL := 7) (ret := (some .int)) (by decide) rfl ?_
  intro p e s m args below meth c s₁ B hml ht9 hv9
  obtain ⟨rfl, hP, hK, hV, hH⟩ := hv9
  have hx := B.exec
  have hb := B.bytes
  have hr := B.returns
  have hts := atoms_spec (ws := wsX1_factor) B.pre
  have hown : s.vm.findClass RX1 = some m.cls := findClass_of_methodNamed B.named
  have hlocks := B.notSynchronized
  have hin9 : ∀ w ∈ Cond.classLink RX1 43 nIAE :: Cond.initialized nIAE :: (vx_atS RX1 47 nIAE nSup).filter goodWord, w ∈ wsX1_factor := by decide +kernel
  have hl := lv_entry ([.ref (ab 0), .int s0, .int w]) (n := 7) (Nat.le_of_ble_eq_true rfl)
  rw [lg_entry_eq]
  generalize (lg_sl ([.ref (ab 0), .int s0, .int w]) ++ List.replicate (7 - (lg_sl ([.ref (ab 0), .int s0, .int w])).length) Slot.unset).toArray = ls at hl ⊢
  have hl : lv_has ls 7 [(0, .ref (ab 0)), (1, .int s0), (2, .int w)] := hl
  refine lv_iload_n hx hb dX1_factor_0 rfl (lv_at hl 1 rfl) ?_
  refine r_S ⟨hx, hb, hml, hown, hts⟩ (k_X1_isSide l D cI cJ s0) (va_cwS 1 hts gX1_factor_X1_isSide rfl rfl rfl (by decide +kernel) ⟨Nat.le_of_ble_eq_true rfl, Nat.le_of_ble_eq_true rfl⟩) P_nil hK rfl hl.1 rfl (Nat.le_of_ble_eq_true rfl) dX1_factor_1 (Nat.zero_le _) (Nat.zero_le _) ?_
  refine lv_if_ne (tgt := 17) hx hb dX1_factor_4 (by decide) (fun c4 => ?_) (fun c4 => ?_)
  · -- 17
    refine lv_iload_n hx hb dX1_factor_17 rfl (lv_at hl 2 rfl) ?_
    refine lv_iconst (v := 0) hx hb dX1_factor_18 (by decide) ?_
    refine lv_iconst (v := 1) hx hb dX1_factor_19 (by decide) ?_
    refine r_S ⟨hx, hb, hml, hown, hts⟩ (k_X1_isWithin l D cI cJ w 0 1) (va_cwS 3 hts gX1_factor_X1_isWithin rfl rfl rfl (by decide +kernel) ⟨Nat.le_of_ble_eq_true rfl, Nat.le_of_ble_eq_true rfl⟩) P_nil hK rfl hl.1 rfl (Nat.le_of_ble_eq_true rfl) dX1_factor_20 (Nat.zero_le _) (Nat.zero_le _) ?_
    refine lv_if_ne (tgt := 36) hx hb dX1_factor_23 (by decide) (fun c23 => ?_) (fun c23 => ?_)
    · -- 36
      exact absurd hv (by unfold vTwo; rw [if_neg c4, if_neg c23]; decide)
    · -- 26
      exact t_I (Ts := wsX1_factor) hx hb hst9 hml hown hts hin9 hV hH hl hlocks ht9 116 "part is out of its bounds" (by decide) dX1_factor_26 dX1_factor_29 dX1_factor_30 dX1_factor_32 dX1_factor_35 (Nat.le_of_ble_eq_true rfl) (Nat.le_of_ble_eq_true rfl) (Nat.le_of_ble_eq_true rfl) (Nat.le_of_ble_eq_true rfl)
  · -- 7
    exact t_I (Ts := wsX1_factor) hx hb hst9 hml hown hts hin9 hV hH hl hlocks ht9 70 "no such side" (by decide) dX1_factor_7 dX1_factor_10 dX1_factor_11 dX1_factor_13 dX1_factor_16 (Nat.le_of_ble_eq_true rfl) (Nat.le_of_ble_eq_true rfl) (Nat.le_of_ble_eq_true rfl) (Nat.le_of_ble_eq_true rfl)
