set_option maxHeartbeats 4000000 in
set_option maxRecDepth 100000 in
theorem k_X1_warmth_ok (l : Launch) (D : va_G) (cI cJ : ClassId) (ab ad : Nat → Nat) (X Y : Nat) (σ : Nat → Nat → Int32) (hh : Nat → Int64) (hw : Nat → Int32) (n : Int32) (hB : 1 ≤ X ∧ X ≤ 10 ∧ 1 ≤ Y ∧ Y ≤ 10) (i j : Nat) (hi : i < X) (hj : j < Y) : wMet l yX1_warmth wsX1_warmth 3 70 D (tY cI cJ) (wB ab ad cI cJ X Y σ hh hw n) (wB ab ad cI cJ X Y (f_settle X Y σ) hh hw n) [.ref (ab 0), .int (nI i), .int (nI j)] (some (.int (wAt X (f_settle X Y σ) i j))) := by
  refine Met.ofW (cc := cX1_warmth) (maxL := 3) (ret := (some .int)) (by decide) rfl ?_
  intro p e s m args below meth c s₁ B hml hv
  obtain ⟨rfl, hP, hK, hD0⟩ := hv
  have hx := B.exec
  have hb := B.bytes
  have hr := B.returns
  have hts := atoms_spec (ws := wsX1_warmth) B.pre
  have hown : s.vm.findClass RX1 = some m.cls := findClass_of_methodNamed B.named
  have hlocks := B.notSynchronized
  have inX1 : ∀ w ∈ wsX10, w ∈ wsX1_warmth := by decide +kernel
  have fl35 := hts (.fieldLink RX1 35 "BridgeCells" "section" "LBridgeCells$Section;") (by decide +kernel)
  have hl := lv_entry ([.ref (ab 0), .int (nI i), .int (nI j)]) (n := 3) (Nat.le_of_ble_eq_true rfl)
  rw [lg_entry_eq]
  generalize (lg_sl ([.ref (ab 0), .int (nI i), .int (nI j)]) ++ List.replicate (3 - (lg_sl ([.ref (ab 0), .int (nI i), .int (nI j)])).length) Slot.unset).toArray = ls at hl ⊢
  have hl : lv_has ls 3 [(0, .ref (ab 0)), (1, .int (nI i)), (2, .int (nI j))] := hl
  have hD := aw_D hD0
  generalize hAe : aw (wB ab ad cI cJ X Y σ hh hw n) = A at hD ⊢
  have hS : va_S A s.heap s.heap [] := va_S.rf
  refine lv_aload_n hx hb dX1_warmth_0 rfl (lv_at hl 0 rfl) ?_
  refine va_get (D := D) (cl := vwCl) (ci := 1) (v := .ref (ad 8)) (C := RX1) (T := TX1) (N := 4) hx hb hts inX1 hown hK hP 0 rfl rfl 0 (by decide) fl35 (fun _ h9 => h9) rfl dX1_warmth_1 ?_
  refine lv_iload_n hx hb dX1_warmth_4 rfl (lv_at hl 1 rfl) ?_
  refine lv_iload_n hx hb dX1_warmth_5 rfl (lv_at hl 2 rfl) ?_
  refine r_V ⟨hx, hb, hml, hown, hts⟩ (k_X0_holds l D cI cJ ad X Y σ hB (nI i) (nI j)) (cwV 2 hts gX1_warmth_X0_holds rfl rfl rfl (by decide +kernel) ⟨Nat.le_of_ble_eq_true rfl, Nat.le_of_ble_eq_true rfl⟩) (va_P_split (va_P_split hP).2).1 hK (va_recv hK hP (ci := 0) (q0 := 3) rfl rfl) rfl hl.1 rfl (Nat.le_of_ble_eq_true rfl) dX1_warmth_6 (Nat.zero_le _) (Nat.zero_le _) ?_
  refine lv_if_ne (tgt := 22) hx hb dX1_warmth_9 (by decide) (fun _ => ?_) (fun c9 => False.elim (ne10 (hl_in hB hi hj) c9))
  refine lv_aload_n hx hb dX1_warmth_22 rfl (lv_at hl 0 rfl) ?_
  refine va_get (D := D) (cl := vwCl) (ci := 1) (v := .ref (ad 8)) (C := RX1) (T := TX1) (N := 4) hx hb hts inX1 hown hK hP 0 rfl rfl 0 (by decide) fl35 (fun _ h9 => h9) rfl dX1_warmth_23 ?_
  refine w_V (A := A) ⟨hx, hb, hml, hown, hts⟩ (k_X0_settle l D cI cJ ad X Y σ hB  ) (cwV 0 hts gX1_warmth_X0_settle rfl rfl rfl (by decide +kernel) ⟨Nat.le_of_ble_eq_true rfl, Nat.le_of_ble_eq_true rfl⟩) (wBh ab ad cI cJ hh hw n) ([]) hP hD hS hK (va_recv hK hP (ci := 0) (q0 := 3) rfl rfl) rfl hl.1 rfl (Nat.le_of_ble_eq_true rfl) dX1_warmth_26 (Nat.zero_le _) (Nat.zero_le _) (fun H locs hP hS => ?_)
  have hP : va_P D vwCl (wB ab ad cI cJ X Y (f_settle X Y σ) hh hw n) H := hP
  have hD : va_D A (wB ab ad cI cJ X Y (f_settle X Y σ) hh hw n) := wB_D hD _ _ _ _
  refine lv_aload_n hx hb dX1_warmth_29 rfl (lv_at hl 0 rfl) ?_
  refine va_get (D := D) (cl := vwCl) (ci := 1) (v := .ref (ad 8)) (C := RX1) (T := TX1) (N := 4) hx hb hts inX1 hown hK hP 0 rfl rfl 0 (by decide) fl35 (fun _ h9 => h9) rfl dX1_warmth_30 ?_
  refine lv_iload_n hx hb dX1_warmth_33 rfl (lv_at hl 1 rfl) ?_
  refine lv_iload_n hx hb dX1_warmth_34 rfl (lv_at hl 2 rfl) ?_
  refine r_V ⟨hx, hb, hml, hown, hts⟩ (k_X0_warmthAt l D cI cJ ad X Y (f_settle X Y σ) hB i j (hi) (hj)) (cwV 2 hts gX1_warmth_X0_warmthAt rfl rfl rfl (by decide +kernel) ⟨Nat.le_of_ble_eq_true rfl, Nat.le_of_ble_eq_true rfl⟩) (va_P_split (va_P_split hP).2).1 hK (va_recv hK hP (ci := 0) (q0 := 3) rfl rfl) rfl hl.1 rfl (Nat.le_of_ble_eq_true rfl) dX1_warmth_35 (Nat.zero_le _) (Nat.zero_le _) ?_
  exact W.iret hx hb hr (fun t ht _ => ⟨rfl, by rw [ht]; exact hP, by rw [hAe]; exact hS.F ht⟩) hS.2.2 dX1_warmth_38
