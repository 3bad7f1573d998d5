set_option maxHeartbeats 4000000 in
set_option maxRecDepth 100000 in
theorem k_X2_warms (l : Launch) (D : va_G) (cI cJ : ClassId) (am : Nat → Nat) (X Y : Nat) (τ : Nat → Nat → Int32) (ℓ : Nat → Nat → Int64) (hB : 1 ≤ X ∧ X ≤ 10 ∧ 1 ≤ Y ∧ Y ≤ 10) (k : Nat) (hk : k < X * Y) : wMet l yX2_warms wsX2_warms 4 93 D (tY cI cJ) (wM am cI cJ X Y τ ℓ) (wM am cI cJ X Y ((f_warms X Y k (τ, ℓ)).2.1) ((f_warms X Y k (τ, ℓ)).2.2)) [.ref (am 6), .int (nI k)] (some (.int (f_warms X Y k (τ, ℓ)).1)) := by
  refine Met.ofW (cc := cX2_warms) (maxL := 6) (ret := (some .boolean)) (by decide) rfl ?_
  intro p e s m args below meth c s₁ B hml hv
  obtain ⟨rfl, hP, hK, hD0⟩ := hv
  have hx := B.exec
  have hb := B.bytes
  have hr := B.returns
  have hts := atoms_spec (ws := wsX2_warms) B.pre
  have hown : s.vm.findClass RX2 = some m.cls := findClass_of_methodNamed B.named
  have hlocks := B.notSynchronized
  have inX2 : ∀ w ∈ wsX20, w ∈ wsX2_warms := by decide +kernel
  have fl29 := hts (.fieldLink RX2 29 "BridgeCellsModel" "wide" "I") (by decide +kernel)
  have fl7 := hts (.fieldLink RX2 7 "BridgeCellsModel" "leads" "[I") (by decide +kernel)
  have fl13 := hts (.fieldLink RX2 13 "BridgeCellsModel" "warm" "[I") (by decide +kernel)
  have hl := lv_entry ([.ref (am 6), .int (nI k)]) (n := 6) (Nat.le_of_ble_eq_true rfl)
  rw [lg_entry_eq]
  generalize (lg_sl ([.ref (am 6), .int (nI k)]) ++ List.replicate (6 - (lg_sl ([.ref (am 6), .int (nI k)])).length) Slot.unset).toArray = ls at hl ⊢
  have hl : lv_has ls 6 [(0, .ref (am 6)), (1, .int (nI k))] := hl
  have hD := aw_D hD0
  generalize hAe : aw (wM am cI cJ X Y τ ℓ) = A at hD ⊢
  have hS : va_S A s.heap s.heap [] := va_S.rf
  obtain ⟨hi, hj, hk9⟩ := km hB hk
  have hX0 : ¬ nI X = 0 := nI_ne0 hB.1 (by omega)
  refine lv_iload_n hx hb dX2_warms_0 rfl (lv_at hl 1 rfl) ?_
  refine lv_aload_n hx hb dX2_warms_1 rfl (lv_at hl 0 rfl) ?_
  refine va_get (D := D) (cl := vwCl) (ci := 2) (v := .int (nI X)) (C := RX2) (T := TX2) (N := 15) hx hb hts inX2 hown hK hP 0 rfl rfl 0 (by decide) fl29 (fun _ h9 => h9) rfl dX2_warms_2 ?_
  refine lv_irem hx hb dX2_warms_5 (hX0) ?_
  refine top_eq (y := nI (k % X)) (pk_rem hk9 hB.1 (by omega)) ?_
  refine lv_istore_n (lv' := [(2, .int (nI (k % X))), (0, .ref (am 6)), (1, .int (nI k))]) hx hb dX2_warms_6 rfl hl (by decide) rfl (fun ls hl => ?_)
  refine lv_iload_n hx hb dX2_warms_7 rfl (lv_at hl 2 rfl) ?_
  refine lv_aload_n hx hb dX2_warms_8 rfl (lv_at hl 1 rfl) ?_
  refine va_get (D := D) (cl := vwCl) (ci := 2) (v := .int (nI X)) (C := RX2) (T := TX2) (N := 15) hx hb hts inX2 hown hK hP 0 rfl rfl 0 (by decide) fl29 (fun _ h9 => h9) rfl dX2_warms_9 ?_
  refine lv_idiv hx hb dX2_warms_12 (hX0) ?_
  refine top_eq (y := nI (k / X)) (pk_div hk9 hB.1 (by omega)) ?_
  refine lv_istore_n (lv' := [(3, .int (nI (k / X))), (2, .int (nI (k % X))), (0, .ref (am 6)), (1, .int (nI k))]) hx hb dX2_warms_13 rfl hl (by decide) rfl (fun ls hl => ?_)
  refine lv_aload_n hx hb dX2_warms_14 rfl (lv_at hl 2 rfl) ?_
  refine va_get (D := D) (cl := vwCl) (ci := 2) (v := .ref (am 0)) (C := RX2) (T := TX2) (N := 15) hx hb hts inX2 hown hK hP 0 rfl rfl 3 (by decide) fl7 (fun _ h9 => h9) rfl dX2_warms_15 ?_
  refine lv_bipush (v := nI 10) hx hb dX2_warms_18 (by decide) ?_
  refine lv_iload_n hx hb dX2_warms_20 rfl (lv_at hl 0 rfl) ?_
  refine lv_imul hx hb dX2_warms_21 ?_
  refine top_eq (y := nI (10 * (k / X))) (pk_mul 10 (k / X)) ?_
  refine lv_iload_n hx hb dX2_warms_22 rfl (lv_at hl 1 rfl) ?_
  refine lv_iadd hx hb dX2_warms_23 ?_
  refine top_eq (y := nI ((10 * (k / X)) + (k % X))) (nI_add (10 * (k / X)) (k % X)) ?_
  refine a_ld hx hb hK hP 1 0 rfl rfl ((10 * (k / X)) + (k % X)) (rfl) (i10 hB hi hj) (by decide) dX2_warms_24 ?_
  refine lv_if_ne (tgt := 30) hx hb dX2_warms_25 (by decide) (fun c25 => ?_) (fun c25 => ?_)
  · -- 30
    refine lv_aload_n hx hb dX2_warms_30 rfl (lv_at hl 2 rfl) ?_
    refine lv_iload_n hx hb dX2_warms_31 rfl (lv_at hl 1 rfl) ?_
    refine lv_iload_n hx hb dX2_warms_32 rfl (lv_at hl 0 rfl) ?_
    refine w_V (A := A) ⟨hx, hb, hml, hown, hts⟩ (k_X2_made l D cI cJ am X Y τ ℓ hB (k % X) (k / X) (hi) (hj)) (cwV 2 hts gX2_warms_X2_made rfl rfl rfl (by decide +kernel) ⟨Nat.le_of_ble_eq_true rfl, Nat.le_of_ble_eq_true rfl⟩) ([]) ([]) hP hD hS hK (va_recv hK hP (ci := 2) (q0 := 0) rfl rfl) rfl hl.1 rfl (Nat.le_of_ble_eq_true rfl) dX2_warms_33 (Nat.zero_le _) (Nat.zero_le _) (fun H locs hP hS => ?_)
    have hP : va_P D vwCl (wM am cI cJ X Y τ (f_made X Y τ (k % X) (k / X) ℓ)) H := hP
    have hD : va_D A (wM am cI cJ X Y τ (f_made X Y τ (k % X) (k / X) ℓ)) := wM_D hD _ _
    refine lv_istore (lv' := [(4, .int (v_made τ (f_made X Y τ (k % X) (k / X) ℓ))), (3, .int (nI (k / X))), (2, .int (nI (k % X))), (0, .ref (am 6)), (1, .int (nI k))]) hx hb dX2_warms_36 hl (by decide) rfl (fun ls hl => ?_)
    refine lv_iload hx hb dX2_warms_38 (lv_at hl 0 rfl) ?_
    refine lv_aload_n hx hb dX2_warms_40 rfl (lv_at hl 3 rfl) ?_
    refine va_get (D := D) (cl := vwCl) (ci := 2) (v := .ref (am 1)) (C := RX2) (T := TX2) (N := 15) hx hb hts inX2 hown hK hP 0 rfl rfl 4 (by decide) fl13 (fun _ h9 => h9) rfl dX2_warms_41 ?_
    refine lv_bipush (v := nI 10) hx hb dX2_warms_44 (by decide) ?_
    refine lv_iload_n hx hb dX2_warms_46 rfl (lv_at hl 1 rfl) ?_
    refine lv_imul hx hb dX2_warms_47 ?_
    refine top_eq (y := nI (10 * (k / X))) (pk_mul 10 (k / X)) ?_
    refine lv_iload_n hx hb dX2_warms_48 rfl (lv_at hl 2 rfl) ?_
    refine lv_iadd hx hb dX2_warms_49 ?_
    refine top_eq (y := nI ((10 * (k / X)) + (k % X))) (nI_add (10 * (k / X)) (k % X)) ?_
    refine a_ld hx hb hK hP 2 0 rfl rfl ((10 * (k / X)) + (k % X)) (rfl) (i10 hB hi hj) (by decide) dX2_warms_50 ?_
    refine lv_icmp_le (tgt := 58) hx hb dX2_warms_51 (by decide) (fun c51 => ?_) (fun c51 => ?_)
    · -- 58
      refine lv_iconst (v := 0) hx hb dX2_warms_58 (by decide) ?_
      refine lv_istore (lv' := [(5, .int 0), (4, .int (v_made τ (f_made X Y τ (k % X) (k / X) ℓ))), (3, .int (nI (k / X))), (2, .int (nI (k % X))), (0, .ref (am 6)), (1, .int (nI k))]) hx hb dX2_warms_59 hl (by decide) rfl (fun ls hl => ?_)
      refine lv_aload_n hx hb dX2_warms_61 rfl (lv_at hl 4 rfl) ?_
      refine va_get (D := D) (cl := vwCl) (ci := 2) (v := .ref (am 1)) (C := RX2) (T := TX2) (N := 15) hx hb hts inX2 hown hK hP 0 rfl rfl 4 (by decide) fl13 (fun _ h9 => h9) rfl dX2_warms_62 ?_
      refine lv_bipush (v := nI 10) hx hb dX2_warms_65 (by decide) ?_
      refine lv_iload_n hx hb dX2_warms_67 rfl (lv_at hl 2 rfl) ?_
      refine lv_imul hx hb dX2_warms_68 ?_
      refine top_eq (y := nI (10 * (k / X))) (pk_mul 10 (k / X)) ?_
      refine lv_iload_n hx hb dX2_warms_69 rfl (lv_at hl 3 rfl) ?_
      refine lv_iadd hx hb dX2_warms_70 ?_
      refine top_eq (y := nI ((10 * (k / X)) + (k % X))) (nI_add (10 * (k / X)) (k % X)) ?_
      refine lv_iload hx hb dX2_warms_71 (lv_at hl 0 rfl) ?_
      refine lv_if_eq (tgt := 81) hx hb dX2_warms_73 (by decide) (fun _ => ?_) (fun c9 => absurd rfl c9)
      refine lv_aload_n hx hb dX2_warms_81 rfl (lv_at hl 4 rfl) ?_
      refine va_get (D := D) (cl := vwCl) (ci := 2) (v := .ref (am 1)) (C := RX2) (T := TX2) (N := 15) hx hb hts inX2 hown hK hP 0 rfl rfl 4 (by decide) fl13 (fun _ h9 => h9) rfl dX2_warms_82 ?_
      refine lv_bipush (v := nI 10) hx hb dX2_warms_85 (by decide) ?_
      refine lv_iload_n hx hb dX2_warms_87 rfl (lv_at hl 2 rfl) ?_
      refine lv_imul hx hb dX2_warms_88 ?_
      refine top_eq (y := nI (10 * (k / X))) (pk_mul 10 (k / X)) ?_
      refine lv_iload_n hx hb dX2_warms_89 rfl (lv_at hl 3 rfl) ?_
      refine lv_iadd hx hb dX2_warms_90 ?_
      refine top_eq (y := nI ((10 * (k / X)) + (k % X))) (nI_add (10 * (k / X)) (k % X)) ?_
      refine a_ld hx hb hK hP 2 0 rfl rfl ((10 * (k / X)) + (k % X)) (rfl) (i10 hB hi hj) (by decide) dX2_warms_91 ?_
      refine a_st hx hb hK hP hD hS 2 0 rfl rfl ((10 * (k / X)) + (k % X)) (rfl) (i10 hB hi hj) (by decide) dX2_warms_92 (fun H locs hP hS => ?_)
      obtain ⟨τ1, eτ1⟩ : ∃ z, z = up2 τ 1 ((10 * (k / X)) + (k % X)) (τ 1 ((10 * (k / X)) + (k % X))) := ⟨_, rfl⟩
      replace hP : va_P D vwCl (wM am cI cJ X Y τ1 (f_made X Y τ (k % X) (k / X) ℓ)) H := by rw [eτ1]; exact hP
      have hP : va_P D vwCl (wM am cI cJ X Y τ1 (f_made X Y τ (k % X) (k / X) ℓ)) H := hP
      have hD : va_D A (wM am cI cJ X Y τ1 (f_made X Y τ (k % X) (k / X) ℓ)) := wM_D hD _ _
      refine lv_iload hx hb dX2_warms_93 (lv_at hl 0 rfl) ?_
      have e9 : f_warms X Y k (τ, ℓ) = (0, (τ1, f_made X Y τ (k % X) (k / X) ℓ)) := by subst eτ1; exact (if_neg c25).trans (if_pos c51)
      exact W.zret hx hb hr (by first | rfl | exact warms_n X Y k (τ, ℓ)) (fun t ht _ => ⟨by rw [e9], by rw [ht]; first | exact hP | (rw [e9]; exact hP), by rw [hAe]; exact hS.F ht⟩) hS.2.2 dX2_warms_95
    · -- 54
      refine lv_iconst (v := 1) hx hb dX2_warms_54 (by decide) ?_
      refine lv_goto (tgt := 59) hx hb dX2_warms_55 (by decide) ?_
      refine lv_istore (lv' := [(5, .int 1), (4, .int (v_made τ (f_made X Y τ (k % X) (k / X) ℓ))), (3, .int (nI (k / X))), (2, .int (nI (k % X))), (0, .ref (am 6)), (1, .int (nI k))]) hx hb dX2_warms_59 hl (by decide) rfl (fun ls hl => ?_)
      refine lv_aload_n hx hb dX2_warms_61 rfl (lv_at hl 4 rfl) ?_
      refine va_get (D := D) (cl := vwCl) (ci := 2) (v := .ref (am 1)) (C := RX2) (T := TX2) (N := 15) hx hb hts inX2 hown hK hP 0 rfl rfl 4 (by decide) fl13 (fun _ h9 => h9) rfl dX2_warms_62 ?_
      refine lv_bipush (v := nI 10) hx hb dX2_warms_65 (by decide) ?_
      refine lv_iload_n hx hb dX2_warms_67 rfl (lv_at hl 2 rfl) ?_
      refine lv_imul hx hb dX2_warms_68 ?_
      refine top_eq (y := nI (10 * (k / X))) (pk_mul 10 (k / X)) ?_
      refine lv_iload_n hx hb dX2_warms_69 rfl (lv_at hl 3 rfl) ?_
      refine lv_iadd hx hb dX2_warms_70 ?_
      refine top_eq (y := nI ((10 * (k / X)) + (k % X))) (nI_add (10 * (k / X)) (k % X)) ?_
      refine lv_iload hx hb dX2_warms_71 (lv_at hl 0 rfl) ?_
      refine lv_if_eq (tgt := 81) hx hb dX2_warms_73 (by decide) (fun c9 => absurd c9 (by decide)) (fun _ => ?_)
      refine lv_iload hx hb dX2_warms_76 (lv_at hl 1 rfl) ?_
      refine lv_goto (tgt := 92) hx hb dX2_warms_78 (by decide) ?_
      refine a_st hx hb hK hP hD hS 2 0 rfl rfl ((10 * (k / X)) + (k % X)) (rfl) (i10 hB hi hj) (by decide) dX2_warms_92 (fun H locs hP hS => ?_)
      obtain ⟨τ2, eτ2⟩ : ∃ z, z = up2 τ 1 ((10 * (k / X)) + (k % X)) (v_made τ (f_made X Y τ (k % X) (k / X) ℓ)) := ⟨_, rfl⟩
      replace hP : va_P D vwCl (wM am cI cJ X Y τ2 (f_made X Y τ (k % X) (k / X) ℓ)) H := by rw [eτ2]; exact hP
      have hP : va_P D vwCl (wM am cI cJ X Y τ2 (f_made X Y τ (k % X) (k / X) ℓ)) H := hP
      have hD : va_D A (wM am cI cJ X Y τ2 (f_made X Y τ (k % X) (k / X) ℓ)) := wM_D hD _ _
      refine lv_iload hx hb dX2_warms_93 (lv_at hl 0 rfl) ?_
      have e9 : f_warms X Y k (τ, ℓ) = (1, (τ2, f_made X Y τ (k % X) (k / X) ℓ)) := by subst eτ2; exact (if_neg c25).trans (if_neg c51)
      exact W.zret hx hb hr (by first | rfl | exact warms_n X Y k (τ, ℓ)) (fun t ht _ => ⟨by rw [e9], by rw [ht]; first | exact hP | (rw [e9]; exact hP), by rw [hAe]; exact hS.F ht⟩) hS.2.2 dX2_warms_95
  · -- 28
    refine lv_iconst (v := 0) hx hb dX2_warms_28 (by decide) ?_
    have e9 : f_warms X Y k (τ, ℓ) = (0, (τ, ℓ)) := if_pos c25
    exact W.zret hx hb hr (by first | rfl | exact warms_n X Y k (τ, ℓ)) (fun t ht _ => ⟨by rw [e9], by rw [ht]; first | exact hP | (rw [e9]; exact hP), by rw [hAe]; exact hS.F ht⟩) hS.2.2 dX2_warms_29
