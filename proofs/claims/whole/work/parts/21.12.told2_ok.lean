set_option maxHeartbeats 4000000 in
set_option maxRecDepth 100000 in
theorem k_X1_told2_ok (l : Launch) (D : va_G) (cI cJ : ClassId) (ab ad : Nat → Nat) (X Y : Nat) (σ : Nat → Nat → Int32) (hh : Nat → Int64) (hw : Nat → Int32) (n : Int32) (hB : 1 ≤ X ∧ X ≤ 10 ∧ 1 ≤ Y ∧ Y ≤ 10)   : wMet l yX1_told wsX1_told 3 70 D (tY cI cJ) (wB ab ad cI cJ X Y σ hh hw n) (wB ab ad cI cJ X Y (f_settle X Y σ) hh hw n) [.ref (ab 0), .int (nI 2)] (some (.long (n_sumOfWarmths X (f_settle X Y σ) Y))) := by
  refine Met.ofW (cc := cX1_told) (maxL := 2) (ret := (some .long)) (by decide) rfl ?_
  intro p e s m args below meth c s₁ B hml hv
  obtain ⟨rfl, hP, hK, hD0⟩ := hv
  have hx := B.exec
  have hb := B.bytes
  have hr := B.returns
  have hts := atoms_spec (ws := wsX1_told) B.pre
  have hown : s.vm.findClass RX1 = some m.cls := findClass_of_methodNamed B.named
  have hlocks := B.notSynchronized
  have inX1 : ∀ w ∈ wsX10, w ∈ wsX1_told := by decide +kernel
  have fl35 := hts (.fieldLink RX1 35 "BridgeCells" "section" "LBridgeCells$Section;") (by decide +kernel)
  have hl := lv_entry ([.ref (ab 0), .int (nI 2)]) (n := 2) (Nat.le_of_ble_eq_true rfl)
  rw [lg_entry_eq]
  generalize (lg_sl ([.ref (ab 0), .int (nI 2)]) ++ List.replicate (2 - (lg_sl ([.ref (ab 0), .int (nI 2)])).length) Slot.unset).toArray = ls at hl ⊢
  have hl : lv_has ls 2 [(0, .ref (ab 0)), (1, .int (nI 2))] := hl
  have hD := aw_D hD0
  generalize hAe : aw (wB ab ad cI cJ X Y σ hh hw n) = A at hD ⊢
  have hS : va_S A s.heap s.heap [] := va_S.rf
  refine lv_iload_n hx hb dX1_told_0 rfl (lv_at hl 1 rfl) ?_
  refine lv_iconst (v := 0) hx hb dX1_told_1 (by decide) ?_
  refine lv_iconst (v := 3) hx hb dX1_told_2 (by decide) ?_
  refine r_S ⟨hx, hb, hml, hown, hts⟩ (k_X1_isWithin l D cI cJ (nI 2) 0 3) (va_cwS 3 hts gX1_told_X1_isWithin rfl rfl rfl (by decide +kernel) ⟨Nat.le_of_ble_eq_true rfl, Nat.le_of_ble_eq_true rfl⟩) P_nil hK rfl hl.1 rfl (Nat.le_of_ble_eq_true rfl) dX1_told_3 (Nat.zero_le _) (Nat.zero_le _) ?_
  refine lv_if_ne (tgt := 19) hx hb dX1_told_6 (by decide) (fun _ => ?_) (fun c9 => False.elim (absurd c9 (by decide)))
  refine lv_aload_n hx hb dX1_told_19 rfl (lv_at hl 0 rfl) ?_
  refine va_get (D := D) (cl := vwCl) (ci := 1) (v := .ref (ad 8)) (C := RX1) (T := TX1) (N := 4) hx hb hts inX1 hown hK hP 0 rfl rfl 0 (by decide) fl35 (fun _ h9 => h9) rfl dX1_told_20 ?_
  refine w_V (A := A) ⟨hx, hb, hml, hown, hts⟩ (k_X0_settle l D cI cJ ad X Y σ hB  ) (cwV 0 hts gX1_told_X0_settle rfl rfl rfl (by decide +kernel) ⟨Nat.le_of_ble_eq_true rfl, Nat.le_of_ble_eq_true rfl⟩) (wBh ab ad cI cJ hh hw n) ([]) hP hD hS hK (va_recv hK hP (ci := 0) (q0 := 3) rfl rfl) rfl hl.1 rfl (Nat.le_of_ble_eq_true rfl) dX1_told_23 (Nat.zero_le _) (Nat.zero_le _) (fun H locs hP hS => ?_)
  have hP : va_P D vwCl (wB ab ad cI cJ X Y (f_settle X Y σ) hh hw n) H := hP
  have hD : va_D A (wB ab ad cI cJ X Y (f_settle X Y σ) hh hw n) := wB_D hD _ _ _ _
  refine lv_iload_n hx hb dX1_told_26 rfl (lv_at hl 1 rfl) ?_
  refine lv_tableIn (tgt := 68) hx hb dX1_told_27 (by decide) (by decide) rfl (by decide) ?_
  refine lv_aload_n hx hb dX1_told_68 rfl (lv_at hl 0 rfl) ?_
  refine va_get (D := D) (cl := vwCl) (ci := 1) (v := .ref (ad 8)) (C := RX1) (T := TX1) (N := 4) hx hb hts inX1 hown hK hP 0 rfl rfl 0 (by decide) fl35 (fun _ h9 => h9) rfl dX1_told_69 ?_
  refine r_V ⟨hx, hb, hml, hown, hts⟩ (k_X0_sumOfWarmths l D cI cJ ad X Y (f_settle X Y σ) hB) (cwV 0 hts gX1_told_X0_sumOfWarmths rfl rfl rfl (by decide +kernel) ⟨Nat.le_of_ble_eq_true rfl, Nat.le_of_ble_eq_true rfl⟩) (va_P_split (va_P_split hP).2).1 hK (va_recv hK hP (ci := 0) (q0 := 3) rfl rfl) rfl hl.1 rfl (Nat.le_of_ble_eq_true rfl) dX1_told_72 (Nat.zero_le _) (Nat.zero_le _) ?_
  exact W.lret hx hb hr (fun t ht _ => ⟨rfl, by rw [ht]; exact hP, by rw [hAe]; exact hS.F ht⟩) hS.2.2 dX1_told_75
