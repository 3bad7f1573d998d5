set_option maxHeartbeats 4000000 in
set_option maxRecDepth 100000 in
theorem k_X1_side_ok (l : Launch) (D : va_G) (cI cJ : ClassId) (ab ad : Nat → Nat) (X Y : Nat) (σ : Nat → Nat → Int32) (hh : Nat → Int64) (hw : Nat → Int32) (n : Int32) (hB : 1 ≤ X ∧ X ≤ 10 ∧ 1 ≤ Y ∧ Y ≤ 10) (sd : Nat) (w f : Int32) (hsd : sd < 4) (hv1 : ¬ mIn w (-10000) 10000 = 0) (hv2 : ¬ mIn f 0 20 = 0) : wMet l yX1_side wsX1_side 3 71 D (tY cI cJ) (wB ab ad cI cJ X Y σ hh hw n) (wB ab ad cI cJ X Y (f_cs X Y sd w f σ) hh hw n) [.ref (ab 0), .int (nI sd), .int w, .int f] (some (.int (σ 7 sd))) := by
  refine Met.ofW (cc := cX1_side) (maxL := 4) (ret := (some .int)) (by decide) rfl ?_
  intro p e s m args below meth c s₁ B hml hv
  obtain ⟨rfl, hP, hK, hD0⟩ := hv
  have hx := B.exec
  have hb := B.bytes
  have hr := B.returns
  have hts := atoms_spec (ws := wsX1_side) B.pre
  have hown : s.vm.findClass RX1 = some m.cls := findClass_of_methodNamed B.named
  have hlocks := B.notSynchronized
  have inX1 : ∀ w ∈ wsX10, w ∈ wsX1_side := by decide +kernel
  have fl35 := hts (.fieldLink RX1 35 "BridgeCells" "section" "LBridgeCells$Section;") (by decide +kernel)
  have hl := lv_entry ([.ref (ab 0), .int (nI sd), .int w, .int f]) (n := 4) (Nat.le_of_ble_eq_true rfl)
  rw [lg_entry_eq]
  generalize (lg_sl ([.ref (ab 0), .int (nI sd), .int w, .int f]) ++ List.replicate (4 - (lg_sl ([.ref (ab 0), .int (nI sd), .int w, .int f])).length) Slot.unset).toArray = ls at hl ⊢
  have hl : lv_has ls 4 [(0, .ref (ab 0)), (1, .int (nI sd)), (2, .int w), (3, .int f)] := hl
  have hD := aw_D hD0
  generalize hAe : aw (wB ab ad cI cJ X Y σ hh hw n) = A at hD ⊢
  have hS : va_S A s.heap s.heap [] := va_S.rf
  refine lv_iload_n hx hb dX1_side_0 rfl (lv_at hl 1 rfl) ?_
  refine r_S ⟨hx, hb, hml, hown, hts⟩ (k_X1_isSide l D cI cJ (nI sd)) (va_cwS 1 hts gX1_side_X1_isSide rfl rfl rfl (by decide +kernel) ⟨Nat.le_of_ble_eq_true rfl, Nat.le_of_ble_eq_true rfl⟩) P_nil hK rfl hl.1 rfl (Nat.le_of_ble_eq_true rfl) dX1_side_1 (Nat.zero_le _) (Nat.zero_le _) ?_
  refine lv_if_ne (tgt := 17) hx hb dX1_side_4 (by decide) (fun _ => ?_) (fun c9 => False.elim (ne10 (sd_in hsd) c9))
  refine lv_iload_n hx hb dX1_side_17 rfl (lv_at hl 2 rfl) ?_
  refine lv_sipush (v := (-10000)) hx hb dX1_side_18 (by decide) ?_
  refine lv_sipush (v := 10000) hx hb dX1_side_21 (by decide) ?_
  refine r_S ⟨hx, hb, hml, hown, hts⟩ (k_X1_isWithin l D cI cJ w (-10000) 10000) (va_cwS 3 hts gX1_side_X1_isWithin rfl rfl rfl (by decide +kernel) ⟨Nat.le_of_ble_eq_true rfl, Nat.le_of_ble_eq_true rfl⟩) P_nil hK rfl hl.1 rfl (Nat.le_of_ble_eq_true rfl) dX1_side_24 (Nat.zero_le _) (Nat.zero_le _) ?_
  refine lv_if_ne (tgt := 40) hx hb dX1_side_27 (by decide) (fun _ => ?_) (fun c9 => False.elim (hv1 c9))
  refine lv_iload_n hx hb dX1_side_40 rfl (lv_at hl 3 rfl) ?_
  refine lv_iconst (v := 0) hx hb dX1_side_41 (by decide) ?_
  refine lv_bipush (v := 20) hx hb dX1_side_42 (by decide) ?_
  refine r_S ⟨hx, hb, hml, hown, hts⟩ (k_X1_isWithin l D cI cJ f 0 20) (va_cwS 3 hts gX1_side_X1_isWithin rfl rfl rfl (by decide +kernel) ⟨Nat.le_of_ble_eq_true rfl, Nat.le_of_ble_eq_true rfl⟩) P_nil hK rfl hl.1 rfl (Nat.le_of_ble_eq_true rfl) dX1_side_44 (Nat.zero_le _) (Nat.zero_le _) ?_
  refine lv_if_ne (tgt := 60) hx hb dX1_side_47 (by decide) (fun _ => ?_) (fun c9 => False.elim (hv2 c9))
  refine lv_aload_n hx hb dX1_side_60 rfl (lv_at hl 0 rfl) ?_
  refine va_get (D := D) (cl := vwCl) (ci := 1) (v := .ref (ad 8)) (C := RX1) (T := TX1) (N := 4) hx hb hts inX1 hown hK hP 0 rfl rfl 0 (by decide) fl35 (fun _ h9 => h9) rfl dX1_side_61 ?_
  refine lv_iload_n hx hb dX1_side_64 rfl (lv_at hl 1 rfl) ?_
  refine lv_iload_n hx hb dX1_side_65 rfl (lv_at hl 2 rfl) ?_
  refine lv_iload_n hx hb dX1_side_66 rfl (lv_at hl 3 rfl) ?_
  refine w_V (A := A) ⟨hx, hb, hml, hown, hts⟩ (k_X0_changeSide l D cI cJ ad X Y σ hB sd w f (hsd)) (cwV 3 hts gX1_side_X0_changeSide rfl rfl rfl (by decide +kernel) ⟨Nat.le_of_ble_eq_true rfl, Nat.le_of_ble_eq_true rfl⟩) (wBh ab ad cI cJ hh hw n) ([]) hP hD hS hK (va_recv hK hP (ci := 0) (q0 := 3) rfl rfl) rfl hl.1 rfl (Nat.le_of_ble_eq_true rfl) dX1_side_67 (Nat.zero_le _) (Nat.zero_le _) (fun H locs hP hS => ?_)
  have hP : va_P D vwCl (wB ab ad cI cJ X Y (f_cs X Y sd w f σ) hh hw n) H := hP
  have hD : va_D A (wB ab ad cI cJ X Y (f_cs X Y sd w f σ) hh hw n) := wB_D hD _ _ _ _
  exact W.iret hx hb hr (fun t ht _ => ⟨rfl, by rw [ht]; exact hP, by rw [hAe]; exact hS.F ht⟩) hS.2.2 dX1_side_70
