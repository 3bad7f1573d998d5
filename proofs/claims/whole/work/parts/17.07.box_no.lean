set_option maxHeartbeats 4000000 in
set_option maxRecDepth 100000 in
theorem k_X2_box_no (l : Launch) (D : va_G) (cI cJ : ClassId) (am : Nat → Nat) (X Y : Nat) (τ : Nat → Nat → Int32) (ℓ : Nat → Nat → Int64) (hB : 1 ≤ X ∧ X ≤ 10 ∧ 1 ≤ Y ∧ Y ≤ 10) (i0 j0 i1 j1 ld : Int32) (hv : vBox X Y i0 j0 i1 j1 ld = 0) : wMet l yX2_box wsX2_box 2 44 D (tY cI cJ) (wM am cI cJ X Y τ ℓ) (wM am cI cJ X Y (up2 τ 5 0 1) ℓ) [.ref (am 6), .int i0, .int j0, .int i1, .int j1, .int ld] (some (.int 0)) := by
  refine Met.ofW (cc := cX2_box) (maxL := 8) (ret := (some .int)) (by decide) rfl ?_
  intro p e s m args below meth c s₁ B hml hv
  obtain ⟨rfl, hP, hK, hD0⟩ := hv
  have hx := B.exec
  have hb := B.bytes
  have hr := B.returns
  have hts := atoms_spec (ws := wsX2_box) B.pre
  have hown : s.vm.findClass RX2 = some m.cls := findClass_of_methodNamed B.named
  have hlocks := B.notSynchronized
  have hl := lv_entry ([.ref (am 6), .int i0, .int j0, .int i1, .int j1, .int ld]) (n := 8) (Nat.le_of_ble_eq_true rfl)
  rw [lg_entry_eq]
  generalize (lg_sl ([.ref (am 6), .int i0, .int j0, .int i1, .int j1, .int ld]) ++ List.replicate (8 - (lg_sl ([.ref (am 6), .int i0, .int j0, .int i1, .int j1, .int ld])).length) Slot.unset).toArray = ls at hl ⊢
  have hl : lv_has ls 8 [(0, .ref (am 6)), (1, .int i0), (2, .int j0), (3, .int i1), (4, .int j1), (5, .int ld)] := hl
  have hD := aw_D hD0
  generalize hAe : aw (wM am cI cJ X Y τ ℓ) = A at hD ⊢
  have hS : va_S A s.heap s.heap [] := va_S.rf
  refine lv_aload_n hx hb dX2_box_0 rfl (lv_at hl 0 rfl) ?_
  refine W_jn (β := Int32) (fun b2 => b2 = vBox X Y i0 j0 i1 j1 ld) (fun b2 => F0 m 47 ls [.int b2, .ref (am 6)]) (fun jn1 => ?_) (fun b2 eb2 => ?_)
  · -- roads to 47
    refine lv_aload_n hx hb dX2_box_1 rfl (lv_at hl 0 rfl) ?_
    refine lv_iload_n hx hb dX2_box_2 rfl (lv_at hl 1 rfl) ?_
    refine lv_iload_n hx hb dX2_box_3 rfl (lv_at hl 2 rfl) ?_
    refine r_V ⟨hx, hb, hml, hown, hts⟩ (k_X2_isCell l D cI cJ am X Y τ ℓ hB i0 j0 ) (cwV 2 hts gX2_box_X2_isCell rfl rfl rfl (by decide +kernel) ⟨Nat.le_of_ble_eq_true rfl, Nat.le_of_ble_eq_true rfl⟩) hP hK (va_recv hK hP (ci := 2) (q0 := 0) rfl rfl) rfl hl.1 rfl (Nat.le_of_ble_eq_true rfl) dX2_box_4 (Nat.zero_le _) (Nat.zero_le _) ?_
    refine lv_if_eq (tgt := 46) hx hb dX2_box_7 (by decide) (fun c3 => ?_) (fun c3 => ?_)
    · -- 46
      refine lv_iconst (v := 0) hx hb dX2_box_46 (by decide) ?_
      exact jn1 _ (by unfold vBox; rw [if_pos c3])
    · -- 10
      refine lv_aload_n hx hb dX2_box_10 rfl (lv_at hl 0 rfl) ?_
      refine lv_iload_n hx hb dX2_box_11 rfl (lv_at hl 3 rfl) ?_
      refine lv_iload hx hb dX2_box_12 (lv_at hl 4 rfl) ?_
      refine r_V ⟨hx, hb, hml, hown, hts⟩ (k_X2_isCell l D cI cJ am X Y τ ℓ hB i1 j1 ) (cwV 2 hts gX2_box_X2_isCell rfl rfl rfl (by decide +kernel) ⟨Nat.le_of_ble_eq_true rfl, Nat.le_of_ble_eq_true rfl⟩) hP hK (va_recv hK hP (ci := 2) (q0 := 0) rfl rfl) rfl hl.1 rfl (Nat.le_of_ble_eq_true rfl) dX2_box_14 (Nat.zero_le _) (Nat.zero_le _) ?_
      refine lv_if_eq (tgt := 46) hx hb dX2_box_17 (by decide) (fun c4 => ?_) (fun c4 => ?_)
      · -- 46
        refine lv_iconst (v := 0) hx hb dX2_box_46 (by decide) ?_
        exact jn1 _ (by unfold vBox; rw [if_neg c3, if_pos c4])
      · -- 20
        refine lv_iload_n hx hb dX2_box_20 rfl (lv_at hl 1 rfl) ?_
        refine lv_iload_n hx hb dX2_box_21 rfl (lv_at hl 3 rfl) ?_
        refine lv_icmp_gt (tgt := 46) hx hb dX2_box_22 (by decide) (fun c5 => ?_) (fun c5 => ?_)
        · -- 46
          refine lv_iconst (v := 0) hx hb dX2_box_46 (by decide) ?_
          exact jn1 _ (by unfold vBox; rw [if_neg c3, if_neg c4, if_pos c5])
        · -- 25
          refine lv_iload_n hx hb dX2_box_25 rfl (lv_at hl 2 rfl) ?_
          refine lv_iload hx hb dX2_box_26 (lv_at hl 4 rfl) ?_
          refine lv_icmp_gt (tgt := 46) hx hb dX2_box_28 (by decide) (fun c6 => ?_) (fun c6 => ?_)
          · -- 46
            refine lv_iconst (v := 0) hx hb dX2_box_46 (by decide) ?_
            exact jn1 _ (by unfold vBox; rw [if_neg c3, if_neg c4, if_neg c5, if_pos c6])
          · -- 31
            refine lv_iload hx hb dX2_box_31 (lv_at hl 5 rfl) ?_
            refine lv_iconst (v := 0) hx hb dX2_box_33 (by decide) ?_
            refine lv_bipush (v := 20) hx hb dX2_box_34 (by decide) ?_
            refine r_S ⟨hx, hb, hml, hown, hts⟩ (k_X2_in l D cI cJ ld 0 20) (va_cwS 3 hts gX2_box_X2_in rfl rfl rfl (by decide +kernel) ⟨Nat.le_of_ble_eq_true rfl, Nat.le_of_ble_eq_true rfl⟩) P_nil hK rfl hl.1 rfl (Nat.le_of_ble_eq_true rfl) dX2_box_36 (Nat.zero_le _) (Nat.zero_le _) ?_
            refine lv_if_eq (tgt := 46) hx hb dX2_box_39 (by decide) (fun c7 => ?_) (fun c7 => ?_)
            · -- 46
              refine lv_iconst (v := 0) hx hb dX2_box_46 (by decide) ?_
              exact jn1 _ (by unfold vBox; rw [if_neg c3, if_neg c4, if_neg c5, if_neg c6, if_pos c7])
            · -- 42
              refine lv_iconst (v := 1) hx hb dX2_box_42 (by decide) ?_
              refine lv_goto (tgt := 47) hx hb dX2_box_43 (by decide) ?_
              exact jn1 _ (by unfold vBox; rw [if_neg c3, if_neg c4, if_neg c5, if_neg c6, if_neg c7])
  · -- on from 47
    subst eb2
    refine w_V (A := A) ⟨hx, hb, hml, hown, hts⟩ (k_X2_may l D cI cJ am X Y τ ℓ hB (vBox X Y i0 j0 i1 j1 ld) (by unfold vBox; repeat (first | rfl | split))) (cwV 1 hts gX2_box_X2_may rfl rfl rfl (by decide +kernel) ⟨Nat.le_of_ble_eq_true rfl, Nat.le_of_ble_eq_true rfl⟩) ([]) ([]) hP hD hS hK (va_recv hK hP (ci := 2) (q0 := 0) rfl rfl) rfl hl.1 rfl (Nat.le_of_ble_eq_true rfl) dX2_box_47 (Nat.zero_le _) (Nat.zero_le _) (fun H locs hP hS => ?_)
    have hP : va_P D vwCl (wM am cI cJ X Y (up2 τ 5 0 (if (vBox X Y i0 j0 i1 j1 ld) = 0 then 1 else 0)) ℓ) H := hP
    have hD : va_D A (wM am cI cJ X Y (up2 τ 5 0 (if (vBox X Y i0 j0 i1 j1 ld) = 0 then 1 else 0)) ℓ) := wM_D hD _ _
    refine lv_if_ne (tgt := 55) hx hb dX2_box_50 (by decide) (fun c9 => absurd hv c9) (fun _ => ?_)
    rw [if_pos hv] at hP
    have hD : va_D A (wM am cI cJ X Y (up2 τ 5 0 1) ℓ) := wM_D hD _ _
    refine lv_iconst (v := 0) hx hb dX2_box_53 (by decide) ?_
    exact W.iret hx hb hr (fun t ht _ => ⟨rfl, by rw [ht]; exact hP, by rw [hAe]; exact hS.F ht⟩) hS.2.2 dX2_box_54
