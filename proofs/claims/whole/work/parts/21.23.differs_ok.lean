set_option maxHeartbeats 4000000 in
set_option maxRecDepth 100000 in
theorem k_X1_differs_ok (l : Launch) (D : va_G) (cI cJ : ClassId) (ab ad : Nat → Nat) (X Y : Nat) (σ : Nat → Nat → Int32) (hh : Nat → Int64) (hw : Nat → Int32) (n : Int32) (hB : 1 ≤ X ∧ X ≤ 10 ∧ 1 ≤ Y ∧ Y ≤ 10) (k : Nat) (hk : k < 10) (hv1 : ¬ mIn (nI k) 0 (n - 1) = 0) : wMet l yX1_differs wsX1_differs 4 93 D (tY cI cJ) (wB ab ad cI cJ X Y σ hh hw n) (wB ab ad cI cJ X Y (f_settle X Y σ) hh hw n) [.ref (ab 0), .int (nI k)] (some (.long (n_heat X Y (f_settle X Y σ) 4 - hh k))) := by
  refine Met.ofW (cc := cX1_differs) (maxL := 2) (ret := (some .long)) (by decide) rfl ?_
  intro p e s m args below meth c s₁ B hml hv
  obtain ⟨rfl, hP, hK, hD0⟩ := hv
  have hx := B.exec
  have hb := B.bytes
  have hr := B.returns
  have hts := atoms_spec (ws := wsX1_differs) B.pre
  have hown : s.vm.findClass RX1 = some m.cls := findClass_of_methodNamed B.named
  have hlocks := B.notSynchronized
  have inX1 : ∀ w ∈ wsX10, w ∈ wsX1_differs := by decide +kernel
  have fl35 := hts (.fieldLink RX1 35 "BridgeCells" "section" "LBridgeCells$Section;") (by decide +kernel)
  have fl9 := hts (.fieldLink RX1 9 "BridgeCells" "jointHeats" "[J") (by decide +kernel)
  have hl := lv_entry ([.ref (ab 0), .int (nI k)]) (n := 2) (Nat.le_of_ble_eq_true rfl)
  rw [lg_entry_eq]
  generalize (lg_sl ([.ref (ab 0), .int (nI k)]) ++ List.replicate (2 - (lg_sl ([.ref (ab 0), .int (nI k)])).length) Slot.unset).toArray = ls at hl ⊢
  have hl : lv_has ls 2 [(0, .ref (ab 0)), (1, .int (nI k))] := hl
  have hD := aw_D hD0
  generalize hAe : aw (wB ab ad cI cJ X Y σ hh hw n) = A at hD ⊢
  have hS : va_S A s.heap s.heap [] := va_S.rf
  refine lv_aload_n hx hb dX1_differs_0 rfl (lv_at hl 0 rfl) ?_
  refine lv_iload_n hx hb dX1_differs_1 rfl (lv_at hl 1 rfl) ?_
  refine r_V ⟨hx, hb, hml, hown, hts⟩ (k_X1_isJoint l D cI cJ ab ad X Y σ hh hw n hB (nI k)) (cwV 1 hts gX1_differs_X1_isJoint rfl rfl rfl (by decide +kernel) ⟨Nat.le_of_ble_eq_true rfl, Nat.le_of_ble_eq_true rfl⟩) hP hK (va_recv hK hP (ci := 1) (q0 := 0) rfl rfl) rfl hl.1 rfl (Nat.le_of_ble_eq_true rfl) dX1_differs_2 (Nat.zero_le _) (Nat.zero_le _) ?_
  refine lv_if_ne (tgt := 18) hx hb dX1_differs_5 (by decide) (fun _ => ?_) (fun c9 => False.elim (hv1 c9))
  refine lv_aload_n hx hb dX1_differs_18 rfl (lv_at hl 0 rfl) ?_
  refine va_get (D := D) (cl := vwCl) (ci := 1) (v := .ref (ad 8)) (C := RX1) (T := TX1) (N := 4) hx hb hts inX1 hown hK hP 0 rfl rfl 0 (by decide) fl35 (fun _ h9 => h9) rfl dX1_differs_19 ?_
  refine w_V (A := A) ⟨hx, hb, hml, hown, hts⟩ (k_X0_settle l D cI cJ ad X Y σ hB  ) (cwV 0 hts gX1_differs_X0_settle rfl rfl rfl (by decide +kernel) ⟨Nat.le_of_ble_eq_true rfl, Nat.le_of_ble_eq_true rfl⟩) (wBh ab ad cI cJ hh hw n) ([]) hP hD hS hK (va_recv hK hP (ci := 0) (q0 := 3) rfl rfl) rfl hl.1 rfl (Nat.le_of_ble_eq_true rfl) dX1_differs_22 (Nat.zero_le _) (Nat.zero_le _) (fun H locs hP hS => ?_)
  have hP : va_P D vwCl (wB ab ad cI cJ X Y (f_settle X Y σ) hh hw n) H := hP
  have hD : va_D A (wB ab ad cI cJ X Y (f_settle X Y σ) hh hw n) := wB_D hD _ _ _ _
  refine lv_aload_n hx hb dX1_differs_25 rfl (lv_at hl 0 rfl) ?_
  refine va_get (D := D) (cl := vwCl) (ci := 1) (v := .ref (ad 8)) (C := RX1) (T := TX1) (N := 4) hx hb hts inX1 hown hK hP 0 rfl rfl 0 (by decide) fl35 (fun _ h9 => h9) rfl dX1_differs_26 ?_
  refine r_V ⟨hx, hb, hml, hown, hts⟩ (k_X0_heat l D cI cJ ad X Y (f_settle X Y σ) hB) (cwV 0 hts gX1_differs_X0_heat rfl rfl rfl (by decide +kernel) ⟨Nat.le_of_ble_eq_true rfl, Nat.le_of_ble_eq_true rfl⟩) (va_P_split (va_P_split hP).2).1 hK (va_recv hK hP (ci := 0) (q0 := 3) rfl rfl) rfl hl.1 rfl (Nat.le_of_ble_eq_true rfl) dX1_differs_29 (Nat.zero_le _) (Nat.zero_le _) ?_
  refine lv_aload_n hx hb dX1_differs_32 rfl (lv_at hl 0 rfl) ?_
  refine va_get (D := D) (cl := vwCl) (ci := 1) (v := .ref (ab 1)) (C := RX1) (T := TX1) (N := 4) hx hb hts inX1 hown hK hP 0 rfl rfl 1 (by decide) fl9 (fun _ h9 => h9) rfl dX1_differs_33 ?_
  refine lv_iload_n hx hb dX1_differs_36 rfl (lv_at hl 1 rfl) ?_
  refine a_ldl hx hb hK hP 1 1 rfl rfl k (rfl) (hk) (by decide) dX1_differs_37 ?_
  refine lv_lsub hx hb dX1_differs_38 ?_
  exact W.lret hx hb hr (fun t ht _ => ⟨rfl, by rw [ht]; exact hP, by rw [hAe]; exact hS.F ht⟩) hS.2.2 dX1_differs_39
