set_option maxHeartbeats 4000000 in
set_option maxRecDepth 100000 in
theorem k_X2_leads_ok (l : Launch) (D : va_G) (cI cJ : ClassId) (am : Nat → Nat) (X Y : Nat) (τ : Nat → Nat → Int32) (ℓ : Nat → Nat → Int64) (hB : 1 ≤ X ∧ X ≤ 10 ∧ 1 ≤ Y ∧ Y ≤ 10) (i j : Nat) (hv : ¬ mCell X Y (nI i) (nI j) = 0) (hi : i < X) (hj : j < Y) : wMet l yX2_leads wsX2_leads 2 44 D (tY cI cJ) (wM am cI cJ X Y τ ℓ) (wM am cI cJ X Y (up2 τ 5 0 0) ℓ) [.ref (am 6), .int (nI i), .int (nI j)] (some (.int (τ 0 (10 * j + i)))) := by
  refine Met.ofW (cc := cX2_leads) (maxL := 3) (ret := (some .int)) (by decide) rfl ?_
  intro p e s m args below meth c s₁ B hml hv
  obtain ⟨rfl, hP, hK, hD0⟩ := hv
  have hx := B.exec
  have hb := B.bytes
  have hr := B.returns
  have hts := atoms_spec (ws := wsX2_leads) B.pre
  have hown : s.vm.findClass RX2 = some m.cls := findClass_of_methodNamed B.named
  have hlocks := B.notSynchronized
  have inX2 : ∀ w ∈ wsX20, w ∈ wsX2_leads := by decide +kernel
  have fl7 := hts (.fieldLink RX2 7 "BridgeCellsModel" "leads" "[I") (by decide +kernel)
  have hl := lv_entry ([.ref (am 6), .int (nI i), .int (nI j)]) (n := 3) (Nat.le_of_ble_eq_true rfl)
  rw [lg_entry_eq]
  generalize (lg_sl ([.ref (am 6), .int (nI i), .int (nI j)]) ++ List.replicate (3 - (lg_sl ([.ref (am 6), .int (nI i), .int (nI j)])).length) Slot.unset).toArray = ls at hl ⊢
  have hl : lv_has ls 3 [(0, .ref (am 6)), (1, .int (nI i)), (2, .int (nI j))] := hl
  have hD := aw_D hD0
  generalize hAe : aw (wM am cI cJ X Y τ ℓ) = A at hD ⊢
  have hS : va_S A s.heap s.heap [] := va_S.rf
  refine lv_aload_n hx hb dX2_leads_0 rfl (lv_at hl 0 rfl) ?_
  refine lv_aload_n hx hb dX2_leads_1 rfl (lv_at hl 0 rfl) ?_
  refine lv_iload_n hx hb dX2_leads_2 rfl (lv_at hl 1 rfl) ?_
  refine lv_iload_n hx hb dX2_leads_3 rfl (lv_at hl 2 rfl) ?_
  refine r_V ⟨hx, hb, hml, hown, hts⟩ (k_X2_isCell l D cI cJ am X Y τ ℓ hB (nI i) (nI j) ) (cwV 2 hts gX2_leads_X2_isCell rfl rfl rfl (by decide +kernel) ⟨Nat.le_of_ble_eq_true rfl, Nat.le_of_ble_eq_true rfl⟩) hP hK (va_recv hK hP (ci := 2) (q0 := 0) rfl rfl) rfl hl.1 rfl (Nat.le_of_ble_eq_true rfl) dX2_leads_4 (Nat.zero_le _) (Nat.zero_le _) ?_
  refine w_V (A := A) ⟨hx, hb, hml, hown, hts⟩ (k_X2_may l D cI cJ am X Y τ ℓ hB (mCell X Y (nI i) (nI j)) (mCell_n X Y _ _)) (cwV 1 hts gX2_leads_X2_may rfl rfl rfl (by decide +kernel) ⟨Nat.le_of_ble_eq_true rfl, Nat.le_of_ble_eq_true rfl⟩) ([]) ([]) hP hD hS hK (va_recv hK hP (ci := 2) (q0 := 0) rfl rfl) rfl hl.1 rfl (Nat.le_of_ble_eq_true rfl) dX2_leads_7 (Nat.zero_le _) (Nat.zero_le _) (fun H locs hP hS => ?_)
  have hP : va_P D vwCl (wM am cI cJ X Y (up2 τ 5 0 (if (mCell X Y (nI i) (nI j)) = 0 then 1 else 0)) ℓ) H := hP
  have hD : va_D A (wM am cI cJ X Y (up2 τ 5 0 (if (mCell X Y (nI i) (nI j)) = 0 then 1 else 0)) ℓ) := wM_D hD _ _
  refine lv_if_eq (tgt := 27) hx hb dX2_leads_10 (by decide) (fun c9 => absurd c9 hv) (fun _ => ?_)
  rw [if_neg hv] at hP
  have hD : va_D A (wM am cI cJ X Y (up2 τ 5 0 0) ℓ) := wM_D hD _ _
  refine lv_aload_n hx hb dX2_leads_13 rfl (lv_at hl 0 rfl) ?_
  refine va_get (D := D) (cl := vwCl) (ci := 2) (v := .ref (am 0)) (C := RX2) (T := TX2) (N := 15) hx hb hts inX2 hown hK hP 0 rfl rfl 3 (by decide) fl7 (fun _ h9 => h9) rfl dX2_leads_14 ?_
  refine lv_bipush (v := nI 10) hx hb dX2_leads_17 (by decide) ?_
  refine lv_iload_n hx hb dX2_leads_19 rfl (lv_at hl 2 rfl) ?_
  refine lv_imul hx hb dX2_leads_20 ?_
  refine top_eq (y := nI (10 * j)) (pk_mul 10 j) ?_
  refine lv_iload_n hx hb dX2_leads_21 rfl (lv_at hl 1 rfl) ?_
  refine lv_iadd hx hb dX2_leads_22 ?_
  refine top_eq (y := nI ((10 * j) + i)) (nI_add (10 * j) i) ?_
  refine a_ld hx hb hK hP 1 0 rfl rfl ((10 * j) + i) (rfl) (i10 hB hi hj) (by decide) dX2_leads_23 ?_
  refine lv_goto (tgt := 28) hx hb dX2_leads_24 (by decide) ?_
  exact W.iret hx hb hr (fun t ht _ => ⟨rfl, by rw [ht]; exact hP, by rw [hAe]; exact hS.F ht⟩) hS.2.2 dX2_leads_28
