set_option maxHeartbeats 4000000 in
set_option maxRecDepth 100000 in
theorem k_X2_differs_no (l : Launch) (D : va_G) (cI cJ : ClassId) (am : Nat → Nat) (X Y : Nat) (τ : Nat → Nat → Int32) (ℓ : Nat → Nat → Int64) (hB : 1 ≤ X ∧ X ≤ 10 ∧ 1 ≤ Y ∧ Y ≤ 10) (k : Int32) (hv : mIn k 0 (τ 5 4 - 1) = 0) : wMet l yX2_differs wsX2_differs 1 22 D (tY cI cJ) (wM am cI cJ X Y τ ℓ) (wM am cI cJ X Y (up2 τ 5 0 1) ℓ) [.ref (am 6), .int k] (some (.long 0)) := by
  refine Met.ofW (cc := cX2_differs) (maxL := 2) (ret := (some .long)) (by decide) rfl ?_
  intro p e s m args below meth c s₁ B hml hv
  obtain ⟨rfl, hP, hK, hD0⟩ := hv
  have hx := B.exec
  have hb := B.bytes
  have hr := B.returns
  have hts := atoms_spec (ws := wsX2_differs) B.pre
  have hown : s.vm.findClass RX2 = some m.cls := findClass_of_methodNamed B.named
  have hlocks := B.notSynchronized
  have inX2 : ∀ w ∈ wsX20, w ∈ wsX2_differs := by decide +kernel
  have fl108 := hts (.fieldLink RX2 108 "BridgeCellsModel" "joints" "I") (by decide +kernel)
  have hl := lv_entry ([.ref (am 6), .int k]) (n := 2) (Nat.le_of_ble_eq_true rfl)
  rw [lg_entry_eq]
  generalize (lg_sl ([.ref (am 6), .int k]) ++ List.replicate (2 - (lg_sl ([.ref (am 6), .int k])).length) Slot.unset).toArray = ls at hl ⊢
  have hl : lv_has ls 2 [(0, .ref (am 6)), (1, .int k)] := hl
  have hD := aw_D hD0
  generalize hAe : aw (wM am cI cJ X Y τ ℓ) = A at hD ⊢
  have hS : va_S A s.heap s.heap [] := va_S.rf
  refine lv_aload_n hx hb dX2_differs_0 rfl (lv_at hl 0 rfl) ?_
  refine lv_iload_n hx hb dX2_differs_1 rfl (lv_at hl 1 rfl) ?_
  refine lv_iconst (v := 0) hx hb dX2_differs_2 (by decide) ?_
  refine lv_aload_n hx hb dX2_differs_3 rfl (lv_at hl 0 rfl) ?_
  refine va_get (D := D) (cl := vwCl) (ci := 2) (v := .int (τ 5 4)) (C := RX2) (T := TX2) (N := 15) hx hb hts inX2 hown hK hP 0 rfl rfl 12 (by decide) fl108 (fun _ h9 => h9) rfl dX2_differs_4 ?_
  refine lv_iconst (v := 1) hx hb dX2_differs_7 (by decide) ?_
  refine lv_isub hx hb dX2_differs_8 ?_
  refine r_S ⟨hx, hb, hml, hown, hts⟩ (k_X2_in l D cI cJ k 0 ((τ 5 4) - 1)) (va_cwS 3 hts gX2_differs_X2_in rfl rfl rfl (by decide +kernel) ⟨Nat.le_of_ble_eq_true rfl, Nat.le_of_ble_eq_true rfl⟩) P_nil hK rfl hl.1 rfl (Nat.le_of_ble_eq_true rfl) dX2_differs_9 (Nat.zero_le _) (Nat.zero_le _) ?_
  refine w_V (A := A) ⟨hx, hb, hml, hown, hts⟩ (k_X2_may l D cI cJ am X Y τ ℓ hB (mIn k 0 ((τ 5 4) - 1)) (mIn_n _ _ _)) (cwV 1 hts gX2_differs_X2_may rfl rfl rfl (by decide +kernel) ⟨Nat.le_of_ble_eq_true rfl, Nat.le_of_ble_eq_true rfl⟩) ([]) ([]) hP hD hS hK (va_recv hK hP (ci := 2) (q0 := 0) rfl rfl) rfl hl.1 rfl (Nat.le_of_ble_eq_true rfl) dX2_differs_12 (Nat.zero_le _) (Nat.zero_le _) (fun H locs hP hS => ?_)
  have hP : va_P D vwCl (wM am cI cJ X Y (up2 τ 5 0 (if (mIn k 0 ((τ 5 4) - 1)) = 0 then 1 else 0)) ℓ) H := hP
  have hD : va_D A (wM am cI cJ X Y (up2 τ 5 0 (if (mIn k 0 ((τ 5 4) - 1)) = 0 then 1 else 0)) ℓ) := wM_D hD _ _
  refine lv_if_eq (tgt := 32) hx hb dX2_differs_15 (by decide) (fun _ => ?_) (fun c9 => absurd hv c9)
  rw [if_pos hv] at hP
  have hD : va_D A (wM am cI cJ X Y (up2 τ 5 0 1) ℓ) := wM_D hD _ _
  refine lv_lconst (v := 0) hx hb dX2_differs_32 (by decide) ?_
  exact W.lret hx hb hr (fun t ht _ => ⟨rfl, by rw [ht]; exact hP, by rw [hAe]; exact hS.F ht⟩) hS.2.2 dX2_differs_33
