set_option maxHeartbeats 4000000 in
set_option maxRecDepth 100000 in
theorem k_X2_flow_ok (l : Launch) (D : va_G) (cI cJ : ClassId) (am : Nat → Nat) (X Y : Nat) (τ : Nat → Nat → Int32) (ℓ : Nat → Nat → Int64) (hB : 1 ≤ X ∧ X ≤ 10 ∧ 1 ≤ Y ∧ Y ≤ 10) (sd N : Nat) (hv : ¬ mIn (nI sd) 0 3 = 0) (hsd : sd < 4) (hN : MT X Y ((up2 τ 5 0 0), ℓ) N) : wMet l yX2_flow wsX2_flow 6 141 D (tY cI cJ) (wM am cI cJ X Y τ ℓ) (wM am cI cJ X Y ((f_mset X Y N ((up2 τ 5 0 0), ℓ)).1) ((f_mset X Y N ((up2 τ 5 0 0), ℓ)).2)) [.ref (am 6), .int (nI sd)] (some (.long (mFl X Y (f_mset X Y N ((up2 τ 5 0 0), ℓ)).1 sd))) := by
  refine Met.ofW (cc := cX2_flow) (maxL := 2) (ret := (some .long)) (by decide) rfl ?_
  intro p e s m args below meth c s₁ B hml hv
  obtain ⟨rfl, hP, hK, hD0⟩ := hv
  have hx := B.exec
  have hb := B.bytes
  have hr := B.returns
  have hts := atoms_spec (ws := wsX2_flow) B.pre
  have hown : s.vm.findClass RX2 = some m.cls := findClass_of_methodNamed B.named
  have hlocks := B.notSynchronized
  have hl := lv_entry ([.ref (am 6), .int (nI sd)]) (n := 2) (Nat.le_of_ble_eq_true rfl)
  rw [lg_entry_eq]
  generalize (lg_sl ([.ref (am 6), .int (nI sd)]) ++ List.replicate (2 - (lg_sl ([.ref (am 6), .int (nI sd)])).length) Slot.unset).toArray = ls at hl ⊢
  have hl : lv_has ls 2 [(0, .ref (am 6)), (1, .int (nI sd))] := hl
  have hD := aw_D hD0
  generalize hAe : aw (wM am cI cJ X Y τ ℓ) = A at hD ⊢
  have hS : va_S A s.heap s.heap [] := va_S.rf
  refine lv_aload_n hx hb dX2_flow_0 rfl (lv_at hl 0 rfl) ?_
  refine lv_iload_n hx hb dX2_flow_1 rfl (lv_at hl 1 rfl) ?_
  refine lv_iconst (v := 0) hx hb dX2_flow_2 (by decide) ?_
  refine lv_iconst (v := 3) hx hb dX2_flow_3 (by decide) ?_
  refine r_S ⟨hx, hb, hml, hown, hts⟩ (k_X2_in l D cI cJ (nI sd) 0 3) (va_cwS 3 hts gX2_flow_X2_in rfl rfl rfl (by decide +kernel) ⟨Nat.le_of_ble_eq_true rfl, Nat.le_of_ble_eq_true rfl⟩) P_nil hK rfl hl.1 rfl (Nat.le_of_ble_eq_true rfl) dX2_flow_4 (Nat.zero_le _) (Nat.zero_le _) ?_
  refine w_V (A := A) ⟨hx, hb, hml, hown, hts⟩ (k_X2_may l D cI cJ am X Y τ ℓ hB (mIn (nI sd) 0 3) (mIn_n _ _ _)) (cwV 1 hts gX2_flow_X2_may rfl rfl rfl (by decide +kernel) ⟨Nat.le_of_ble_eq_true rfl, Nat.le_of_ble_eq_true rfl⟩) ([]) ([]) hP hD hS hK (va_recv hK hP (ci := 2) (q0 := 0) rfl rfl) rfl hl.1 rfl (Nat.le_of_ble_eq_true rfl) dX2_flow_7 (Nat.zero_le _) (Nat.zero_le _) (fun H locs hP hS => ?_)
  have hP : va_P D vwCl (wM am cI cJ X Y (up2 τ 5 0 (if (mIn (nI sd) 0 3) = 0 then 1 else 0)) ℓ) H := hP
  have hD : va_D A (wM am cI cJ X Y (up2 τ 5 0 (if (mIn (nI sd) 0 3) = 0 then 1 else 0)) ℓ) := wM_D hD _ _
  refine lv_if_ne (tgt := 15) hx hb dX2_flow_10 (by decide) (fun _ => ?_) (fun c9 => absurd c9 hv)
  rw [if_neg hv] at hP
  have hD : va_D A (wM am cI cJ X Y (up2 τ 5 0 0) ℓ) := wM_D hD _ _
  refine lv_aload_n hx hb dX2_flow_15 rfl (lv_at hl 0 rfl) ?_
  refine w_V (A := A) ⟨hx, hb, hml, hown, hts⟩ (k_X2_settle l D cI cJ am X Y (up2 τ 5 0 0) ℓ hB N hN) (cwV 0 hts gX2_flow_X2_settle rfl rfl rfl (by decide +kernel) ⟨Nat.le_of_ble_eq_true rfl, Nat.le_of_ble_eq_true rfl⟩) ([]) ([]) hP hD hS hK (va_recv hK hP (ci := 2) (q0 := 0) rfl rfl) rfl hl.1 rfl (Nat.le_of_ble_eq_true rfl) dX2_flow_16 (Nat.zero_le _) (Nat.zero_le _) (fun H locs hP hS => ?_)
  have hP : va_P D vwCl (wM am cI cJ X Y ((f_mset X Y N (up2 τ 5 0 0, ℓ)).1) ((f_mset X Y N (up2 τ 5 0 0, ℓ)).2)) H := hP
  have hD : va_D A (wM am cI cJ X Y ((f_mset X Y N (up2 τ 5 0 0, ℓ)).1) ((f_mset X Y N (up2 τ 5 0 0, ℓ)).2)) := wM_D hD _ _
  refine lv_aload_n hx hb dX2_flow_19 rfl (lv_at hl 0 rfl) ?_
  refine lv_iload_n hx hb dX2_flow_20 rfl (lv_at hl 1 rfl) ?_
  refine r_V ⟨hx, hb, hml, hown, hts⟩ (k_X2_flowOf l D cI cJ am X Y ((f_mset X Y N (up2 τ 5 0 0, ℓ)).1) ((f_mset X Y N (up2 τ 5 0 0, ℓ)).2) hB sd (hsd)) (cwV 1 hts gX2_flow_X2_flowOf rfl rfl rfl (by decide +kernel) ⟨Nat.le_of_ble_eq_true rfl, Nat.le_of_ble_eq_true rfl⟩) hP hK (va_recv hK hP (ci := 2) (q0 := 0) rfl rfl) rfl hl.1 rfl (Nat.le_of_ble_eq_true rfl) dX2_flow_21 (Nat.zero_le _) (Nat.zero_le _) ?_
  exact W.lret hx hb hr (fun t ht _ => ⟨rfl, by rw [ht]; exact hP, by rw [hAe]; exact hS.F ht⟩) hS.2.2 dX2_flow_24
