set_option maxHeartbeats 4000000 in
set_option maxRecDepth 100000 in
theorem k_X2_differs_ok (l : Launch) (D : va_G) (cI cJ : ClassId) (am : Nat → Nat) (X Y : Nat) (τ : Nat → Nat → Int32) (ℓ : Nat → Nat → Int64) (hB : 1 ≤ X ∧ X ≤ 10 ∧ 1 ≤ Y ∧ Y ≤ 10) (k N : Nat) (hv : ¬ mIn (nI k) 0 (τ 5 4 - 1) = 0) (hk : k < 10) (hN : MT X Y ((up2 τ 5 0 0), ℓ) N) : wMet l yX2_differs wsX2_differs 7 164 D (tY cI cJ) (wM am cI cJ X Y τ ℓ) (wM am cI cJ X Y ((f_mset X Y N ((up2 τ 5 0 0), ℓ)).1) ((f_mset X Y N ((up2 τ 5 0 0), ℓ)).2)) [.ref (am 6), .int (nI k)] (some (.long (n_mh X Y (f_mset X Y N ((up2 τ 5 0 0), ℓ)).1 4 - (f_mset X Y N ((up2 τ 5 0 0), ℓ)).2 0 k))) := by
  refine Met.ofW (cc := cX2_differs) (maxL := 2) (ret := (some .long)) (by decide) rfl ?_
  intro p e s m args below meth c s₁ B hml hv
  obtain ⟨rfl, hP, hK, hD0⟩ := hv
  have hx := B.exec
  have hb := B.bytes
  have hr := B.returns
  have hts := atoms_spec (ws := wsX2_differs) B.pre
  have hown : s.vm.findClass RX2 = some m.cls := findClass_of_methodNamed B.named
  have hlocks := B.notSynchronized
  have inX2 : ∀ w ∈ wsX20, w ∈ wsX2_differs := by decide +kernel
  have fl108 := hts (.fieldLink RX2 108 "BridgeCellsModel" "joints" "I") (by decide +kernel)
  have fl22 := hts (.fieldLink RX2 22 "BridgeCellsModel" "heats" "[J") (by decide +kernel)
  have hl := lv_entry ([.ref (am 6), .int (nI k)]) (n := 2) (Nat.le_of_ble_eq_true rfl)
  rw [lg_entry_eq]
  generalize (lg_sl ([.ref (am 6), .int (nI k)]) ++ List.replicate (2 - (lg_sl ([.ref (am 6), .int (nI k)])).length) Slot.unset).toArray = ls at hl ⊢
  have hl : lv_has ls 2 [(0, .ref (am 6)), (1, .int (nI k))] := hl
  have hD := aw_D hD0
  generalize hAe : aw (wM am cI cJ X Y τ ℓ) = A at hD ⊢
  have hS : va_S A s.heap s.heap [] := va_S.rf
  refine lv_aload_n hx hb dX2_differs_0 rfl (lv_at hl 0 rfl) ?_
  refine lv_iload_n hx hb dX2_differs_1 rfl (lv_at hl 1 rfl) ?_
  refine lv_iconst (v := 0) hx hb dX2_differs_2 (by decide) ?_
  refine lv_aload_n hx hb dX2_differs_3 rfl (lv_at hl 0 rfl) ?_
  refine va_get (D := D) (cl := vwCl) (ci := 2) (v := .int (τ 5 4)) (C := RX2) (T := TX2) (N := 15) hx hb hts inX2 hown hK hP 0 rfl rfl 12 (by decide) fl108 (fun _ h9 => h9) rfl dX2_differs_4 ?_
  refine lv_iconst (v := 1) hx hb dX2_differs_7 (by decide) ?_
  refine lv_isub hx hb dX2_differs_8 ?_
  refine r_S ⟨hx, hb, hml, hown, hts⟩ (k_X2_in l D cI cJ (nI k) 0 ((τ 5 4) - 1)) (va_cwS 3 hts gX2_differs_X2_in rfl rfl rfl (by decide +kernel) ⟨Nat.le_of_ble_eq_true rfl, Nat.le_of_ble_eq_true rfl⟩) P_nil hK rfl hl.1 rfl (Nat.le_of_ble_eq_true rfl) dX2_differs_9 (Nat.zero_le _) (Nat.zero_le _) ?_
  refine w_V (A := A) ⟨hx, hb, hml, hown, hts⟩ (k_X2_may l D cI cJ am X Y τ ℓ hB (mIn (nI k) 0 ((τ 5 4) - 1)) (mIn_n _ _ _)) (cwV 1 hts gX2_differs_X2_may rfl rfl rfl (by decide +kernel) ⟨Nat.le_of_ble_eq_true rfl, Nat.le_of_ble_eq_true rfl⟩) ([]) ([]) hP hD hS hK (va_recv hK hP (ci := 2) (q0 := 0) rfl rfl) rfl hl.1 rfl (Nat.le_of_ble_eq_true rfl) dX2_differs_12 (Nat.zero_le _) (Nat.zero_le _) (fun H locs hP hS => ?_)
  have hP : va_P D vwCl (wM am cI cJ X Y (up2 τ 5 0 (if (mIn (nI k) 0 ((τ 5 4) - 1)) = 0 then 1 else 0)) ℓ) H := hP
  have hD : va_D A (wM am cI cJ X Y (up2 τ 5 0 (if (mIn (nI k) 0 ((τ 5 4) - 1)) = 0 then 1 else 0)) ℓ) := wM_D hD _ _
  refine lv_if_eq (tgt := 32) hx hb dX2_differs_15 (by decide) (fun c9 => absurd c9 hv) (fun _ => ?_)
  rw [if_neg hv] at hP
  have hD : va_D A (wM am cI cJ X Y (up2 τ 5 0 0) ℓ) := wM_D hD _ _
  refine lv_aload_n hx hb dX2_differs_18 rfl (lv_at hl 0 rfl) ?_
  refine w_V (A := A) ⟨hx, hb, hml, hown, hts⟩ (k_X2_heat l D cI cJ am X Y (up2 τ 5 0 0) ℓ hB N hN) (cwV 0 hts gX2_differs_X2_heat rfl rfl rfl (by decide +kernel) ⟨Nat.le_of_ble_eq_true rfl, Nat.le_of_ble_eq_true rfl⟩) ([]) ([]) hP hD hS hK (va_recv hK hP (ci := 2) (q0 := 0) rfl rfl) rfl hl.1 rfl (Nat.le_of_ble_eq_true rfl) dX2_differs_19 (Nat.zero_le _) (Nat.zero_le _) (fun H locs hP hS => ?_)
  have hP : va_P D vwCl (wM am cI cJ X Y ((f_mset X Y N (up2 τ 5 0 0, ℓ)).1) ((f_mset X Y N (up2 τ 5 0 0, ℓ)).2)) H := hP
  have hD : va_D A (wM am cI cJ X Y ((f_mset X Y N (up2 τ 5 0 0, ℓ)).1) ((f_mset X Y N (up2 τ 5 0 0, ℓ)).2)) := wM_D hD _ _
  refine lv_aload_n hx hb dX2_differs_22 rfl (lv_at hl 0 rfl) ?_
  refine va_get (D := D) (cl := vwCl) (ci := 2) (v := .ref (am 5)) (C := RX2) (T := TX2) (N := 15) hx hb hts inX2 hown hK hP 0 rfl rfl 13 (by decide) fl22 (fun _ h9 => h9) rfl dX2_differs_23 ?_
  refine lv_iload_n hx hb dX2_differs_26 rfl (lv_at hl 1 rfl) ?_
  refine a_ldl hx hb hK hP 6 1 rfl rfl k (rfl) (hk) (by decide) dX2_differs_27 ?_
  refine lv_lsub hx hb dX2_differs_28 ?_
  refine lv_goto (tgt := 33) hx hb dX2_differs_29 (by decide) ?_
  exact W.lret hx hb hr (fun t ht _ => ⟨rfl, by rw [ht]; exact hP, by rw [hAe]; exact hS.F ht⟩) hS.2.2 dX2_differs_33
