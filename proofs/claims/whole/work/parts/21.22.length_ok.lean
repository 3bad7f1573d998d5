set_option maxHeartbeats 4000000 in
set_option maxRecDepth 100000 in
theorem k_X1_length_ok (l : Launch) (D : va_G) (cI cJ : ClassId) (ab ad : Nat → Nat) (X Y : Nat) (σ : Nat → Nat → Int32) (hh : Nat → Int64) (hw : Nat → Int32) (n : Int32) (hB : 1 ≤ X ∧ X ≤ 10 ∧ 1 ≤ Y ∧ Y ≤ 10) (k : Nat) (mt : Int32) (hk : k < 10) (hv1 : ¬ mIn (nI k) 0 (n - 1) = 0) (hv2 : ¬ mIn mt 0 1000 = 0) : wMet l yX1_length wsX1_length 2 43 D (tY cI cJ) (wB ab ad cI cJ X Y σ hh hw n) (wB ab ad cI cJ X Y σ hh (upd hw k mt) n) [.ref (ab 0), .int (nI k), .int mt] (some (.int (hw k))) := by
  refine Met.ofW (cc := cX1_length) (maxL := 4) (ret := (some .int)) (by decide) rfl ?_
  intro p e s m args below meth c s₁ B hml hv
  obtain ⟨rfl, hP, hK, hD0⟩ := hv
  have hx := B.exec
  have hb := B.bytes
  have hr := B.returns
  have hts := atoms_spec (ws := wsX1_length) B.pre
  have hown : s.vm.findClass RX1 = some m.cls := findClass_of_methodNamed B.named
  have hlocks := B.notSynchronized
  have inX1 : ∀ w ∈ wsX10, w ∈ wsX1_length := by decide +kernel
  have fl13 := hts (.fieldLink RX1 13 "BridgeCells" "jointLengths" "[I") (by decide +kernel)
  have hl := lv_entry ([.ref (ab 0), .int (nI k), .int mt]) (n := 4) (Nat.le_of_ble_eq_true rfl)
  rw [lg_entry_eq]
  generalize (lg_sl ([.ref (ab 0), .int (nI k), .int mt]) ++ List.replicate (4 - (lg_sl ([.ref (ab 0), .int (nI k), .int mt])).length) Slot.unset).toArray = ls at hl ⊢
  have hl : lv_has ls 4 [(0, .ref (ab 0)), (1, .int (nI k)), (2, .int mt)] := hl
  have hD := aw_D hD0
  generalize hAe : aw (wB ab ad cI cJ X Y σ hh hw n) = A at hD ⊢
  have hS : va_S A s.heap s.heap [] := va_S.rf
  refine lv_aload_n hx hb dX1_length_0 rfl (lv_at hl 0 rfl) ?_
  refine lv_iload_n hx hb dX1_length_1 rfl (lv_at hl 1 rfl) ?_
  refine r_V ⟨hx, hb, hml, hown, hts⟩ (k_X1_isJoint l D cI cJ ab ad X Y σ hh hw n hB (nI k)) (cwV 1 hts gX1_length_X1_isJoint rfl rfl rfl (by decide +kernel) ⟨Nat.le_of_ble_eq_true rfl, Nat.le_of_ble_eq_true rfl⟩) hP hK (va_recv hK hP (ci := 1) (q0 := 0) rfl rfl) rfl hl.1 rfl (Nat.le_of_ble_eq_true rfl) dX1_length_2 (Nat.zero_le _) (Nat.zero_le _) ?_
  refine lv_if_ne (tgt := 18) hx hb dX1_length_5 (by decide) (fun _ => ?_) (fun c9 => False.elim (hv1 c9))
  refine lv_iload_n hx hb dX1_length_18 rfl (lv_at hl 2 rfl) ?_
  refine lv_iconst (v := 0) hx hb dX1_length_19 (by decide) ?_
  refine lv_sipush (v := 1000) hx hb dX1_length_20 (by decide) ?_
  refine r_S ⟨hx, hb, hml, hown, hts⟩ (k_X1_isWithin l D cI cJ mt 0 1000) (va_cwS 3 hts gX1_length_X1_isWithin rfl rfl rfl (by decide +kernel) ⟨Nat.le_of_ble_eq_true rfl, Nat.le_of_ble_eq_true rfl⟩) P_nil hK rfl hl.1 rfl (Nat.le_of_ble_eq_true rfl) dX1_length_23 (Nat.zero_le _) (Nat.zero_le _) ?_
  refine lv_if_ne (tgt := 39) hx hb dX1_length_26 (by decide) (fun _ => ?_) (fun c9 => False.elim (hv2 c9))
  refine lv_aload_n hx hb dX1_length_39 rfl (lv_at hl 0 rfl) ?_
  refine va_get (D := D) (cl := vwCl) (ci := 1) (v := .ref (ab 2)) (C := RX1) (T := TX1) (N := 4) hx hb hts inX1 hown hK hP 0 rfl rfl 2 (by decide) fl13 (fun _ h9 => h9) rfl dX1_length_40 ?_
  refine lv_iload_n hx hb dX1_length_43 rfl (lv_at hl 1 rfl) ?_
  refine a_ld hx hb hK hP 2 0 rfl rfl k (rfl) (hk) (by decide) dX1_length_44 ?_
  refine lv_istore_n (lv' := [(3, .int (hw k)), (0, .ref (ab 0)), (1, .int (nI k)), (2, .int mt)]) hx hb dX1_length_45 rfl hl (by decide) rfl (fun ls hl => ?_)
  refine lv_aload_n hx hb dX1_length_46 rfl (lv_at hl 1 rfl) ?_
  refine va_get (D := D) (cl := vwCl) (ci := 1) (v := .ref (ab 2)) (C := RX1) (T := TX1) (N := 4) hx hb hts inX1 hown hK hP 0 rfl rfl 2 (by decide) fl13 (fun _ h9 => h9) rfl dX1_length_47 ?_
  refine lv_iload_n hx hb dX1_length_50 rfl (lv_at hl 2 rfl) ?_
  refine lv_iload_n hx hb dX1_length_51 rfl (lv_at hl 3 rfl) ?_
  refine a_st hx hb hK hP hD hS 2 0 rfl rfl k (rfl) (hk) (by decide) dX1_length_52 (fun H locs hP hS => ?_)
  have hP : va_P D vwCl (wB ab ad cI cJ X Y σ hh (upd hw k mt) n) H := hP
  have hD : va_D A (wB ab ad cI cJ X Y σ hh (upd hw k mt) n) := wB_D hD _ _ _ _
  refine lv_iload_n hx hb dX1_length_53 rfl (lv_at hl 0 rfl) ?_
  exact W.iret hx hb hr (fun t ht _ => ⟨rfl, by rw [ht]; exact hP, by rw [hAe]; exact hS.F ht⟩) hS.2.2 dX1_length_54
