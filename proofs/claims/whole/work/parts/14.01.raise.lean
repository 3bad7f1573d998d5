set_option maxHeartbeats 4000000 in
set_option maxRecDepth 100000 in
theorem k_X0_raise (l : Launch) (D : va_G) (cI cJ : ClassId) (ad : Nat → Nat) (X Y : Nat) (σ : Nat → Nat → Int32) (hB : 1 ≤ X ∧ X ≤ 10 ∧ 1 ≤ Y ∧ Y ≤ 10) (kc : Nat) (st : Int32) (hc1 : X + 2 ≤ kc) (hc2 : kc + (X + 2) < (X + 2) * (Y + 2)) : wMet l yX0_raise wsX0_raise 0 0 D (tY cI cJ) (wS ad cI X Y σ) (wS ad cI X Y (f_raise X σ kc st)) [.ref (ad 8), .int (nI kc), .int st] none := by
  refine Met.ofW (cc := cX0_raise) (maxL := 3) (ret := none) (by decide) rfl ?_
  intro p e s m args below meth c s₁ B hml hv
  obtain ⟨rfl, hP, hK, hD0⟩ := hv
  have hx := B.exec
  have hb := B.bytes
  have hr := B.returns
  have hts := atoms_spec (ws := wsX0_raise) B.pre
  have hown : s.vm.findClass RX0 = some m.cls := findClass_of_methodNamed B.named
  have hlocks := B.notSynchronized
  have inX0 : ∀ w ∈ wsX00, w ∈ wsX0_raise := by decide +kernel
  have fl41 := hts (.fieldLink RX0 41 "BridgeCells$Section" "warm" "[I") (by decide +kernel)
  have fl53 := hts (.fieldLink RX0 53 "BridgeCells$Section" "surplus" "[I") (by decide +kernel)
  have fl50 := hts (.fieldLink RX0 50 "BridgeCells$Section" "weight" "[I") (by decide +kernel)
  have fl44 := hts (.fieldLink RX0 44 "BridgeCells$Section" "east" "[I") (by decide +kernel)
  have fl35 := hts (.fieldLink RX0 35 "BridgeCells$Section" "stride" "I") (by decide +kernel)
  have fl47 := hts (.fieldLink RX0 47 "BridgeCells$Section" "south" "[I") (by decide +kernel)
  have hl := lv_entry ([.ref (ad 8), .int (nI kc), .int st]) (n := 3) (Nat.le_of_ble_eq_true rfl)
  rw [lg_entry_eq]
  generalize (lg_sl ([.ref (ad 8), .int (nI kc), .int st]) ++ List.replicate (3 - (lg_sl ([.ref (ad 8), .int (nI kc), .int st])).length) Slot.unset).toArray = ls at hl ⊢
  have hl : lv_has ls 3 [(0, .ref (ad 8)), (1, .int (nI kc)), (2, .int st)] := hl
  have hD := aw_D hD0
  generalize hAe : aw (wS ad cI X Y σ) = A at hD ⊢
  have hS : va_S A s.heap s.heap [] := va_S.rf
  refine lv_aload_n hx hb dX0_raise_0 rfl (lv_at hl 0 rfl) ?_
  refine va_get (D := D) (cl := vwCl) (ci := 0) (v := .ref (ad 1)) (C := RX0) (T := TX0) (N := 14) hx hb hts inX0 hown hK hP 0 rfl rfl 4 (by decide) fl41 (fun _ h9 => h9) rfl dX0_raise_1 ?_
  refine lv_iload_n hx hb dX0_raise_4 rfl (lv_at hl 1 rfl) ?_
  refine lv_dup2_11 hx hb dX0_raise_5 rfl rfl ?_
  refine a_ld hx hb hK hP 2 0 rfl rfl kc (rfl) (by omega) (pl_N hB) dX0_raise_6 ?_
  refine lv_iload_n hx hb dX0_raise_7 rfl (lv_at hl 2 rfl) ?_
  refine lv_iadd hx hb dX0_raise_8 ?_
  refine a_st hx hb hK hP hD hS 2 0 rfl rfl kc (rfl) (by omega) (pl_N hB) dX0_raise_9 (fun H locs hP hS => ?_)
  obtain ⟨σ1, eσ1⟩ : ∃ z, z = up2 σ 1 kc ((σ 1 kc) + st) := ⟨_, rfl⟩
  replace hP : va_P D vwCl (wS ad cI X Y σ1) H := by rw [eσ1]; exact hP
  have hP : va_P D vwCl (wS ad cI X Y σ1) H := hP
  have hD : va_D A (wS ad cI X Y σ1) := wS_D hD _
  refine lv_aload_n hx hb dX0_raise_10 rfl (lv_at hl 0 rfl) ?_
  refine va_get (D := D) (cl := vwCl) (ci := 0) (v := .ref (ad 5)) (C := RX0) (T := TX0) (N := 14) hx hb hts inX0 hown hK hP 0 rfl rfl 8 (by decide) fl53 (fun _ h9 => h9) rfl dX0_raise_11 ?_
  refine lv_iload_n hx hb dX0_raise_14 rfl (lv_at hl 1 rfl) ?_
  refine lv_dup2_11 hx hb dX0_raise_15 rfl rfl ?_
  refine a_ld hx hb hK hP 6 0 rfl rfl kc (rfl) (by omega) (pl_N hB) dX0_raise_16 ?_
  refine lv_iload_n hx hb dX0_raise_17 rfl (lv_at hl 2 rfl) ?_
  refine lv_aload_n hx hb dX0_raise_18 rfl (lv_at hl 0 rfl) ?_
  refine va_get (D := D) (cl := vwCl) (ci := 0) (v := .ref (ad 4)) (C := RX0) (T := TX0) (N := 14) hx hb hts inX0 hown hK hP 0 rfl rfl 7 (by decide) fl50 (fun _ h9 => h9) rfl dX0_raise_19 ?_
  refine lv_iload_n hx hb dX0_raise_22 rfl (lv_at hl 1 rfl) ?_
  refine a_ld hx hb hK hP 5 0 rfl rfl kc (rfl) (by omega) (pl_N hB) dX0_raise_23 ?_
  refine lv_imul hx hb dX0_raise_24 ?_
  refine lv_isub hx hb dX0_raise_25 ?_
  refine a_st hx hb hK hP hD hS 6 0 rfl rfl kc (rfl) (by omega) (pl_N hB) dX0_raise_26 (fun H locs hP hS => ?_)
  obtain ⟨σ2, eσ2⟩ : ∃ z, z = up2 σ1 5 kc ((σ1 5 kc) - (st * (σ1 4 kc))) := ⟨_, rfl⟩
  replace hP : va_P D vwCl (wS ad cI X Y σ2) H := by rw [eσ2]; exact hP
  have hP : va_P D vwCl (wS ad cI X Y σ2) H := hP
  have hD : va_D A (wS ad cI X Y σ2) := wS_D hD _
  refine lv_aload_n hx hb dX0_raise_27 rfl (lv_at hl 0 rfl) ?_
  refine va_get (D := D) (cl := vwCl) (ci := 0) (v := .ref (ad 5)) (C := RX0) (T := TX0) (N := 14) hx hb hts inX0 hown hK hP 0 rfl rfl 8 (by decide) fl53 (fun _ h9 => h9) rfl dX0_raise_28 ?_
  refine lv_iload_n hx hb dX0_raise_31 rfl (lv_at hl 1 rfl) ?_
  refine lv_iconst (v := 1) hx hb dX0_raise_32 (by decide) ?_
  refine lv_iadd hx hb dX0_raise_33 ?_
  refine top_eq (y := nI (kc + 1)) (nI_add kc 1) ?_
  refine lv_dup2_11 hx hb dX0_raise_34 rfl rfl ?_
  refine a_ld hx hb hK hP 6 0 rfl rfl (kc + 1) (rfl) (by omega) (pl_N hB) dX0_raise_35 ?_
  refine lv_iload_n hx hb dX0_raise_36 rfl (lv_at hl 2 rfl) ?_
  refine lv_aload_n hx hb dX0_raise_37 rfl (lv_at hl 0 rfl) ?_
  refine va_get (D := D) (cl := vwCl) (ci := 0) (v := .ref (ad 2)) (C := RX0) (T := TX0) (N := 14) hx hb hts inX0 hown hK hP 0 rfl rfl 5 (by decide) fl44 (fun _ h9 => h9) rfl dX0_raise_38 ?_
  refine lv_iload_n hx hb dX0_raise_41 rfl (lv_at hl 1 rfl) ?_
  refine a_ld hx hb hK hP 3 0 rfl rfl kc (rfl) (by omega) (pl_N hB) dX0_raise_42 ?_
  refine lv_imul hx hb dX0_raise_43 ?_
  refine lv_iadd hx hb dX0_raise_44 ?_
  refine a_st hx hb hK hP hD hS 6 0 rfl rfl (kc + 1) (rfl) (by omega) (pl_N hB) dX0_raise_45 (fun H locs hP hS => ?_)
  obtain ⟨σ3, eσ3⟩ : ∃ z, z = up2 σ2 5 (kc + 1) ((σ2 5 (kc + 1)) + (st * (σ2 2 kc))) := ⟨_, rfl⟩
  replace hP : va_P D vwCl (wS ad cI X Y σ3) H := by rw [eσ3]; exact hP
  have hP : va_P D vwCl (wS ad cI X Y σ3) H := hP
  have hD : va_D A (wS ad cI X Y σ3) := wS_D hD _
  refine lv_aload_n hx hb dX0_raise_46 rfl (lv_at hl 0 rfl) ?_
  refine va_get (D := D) (cl := vwCl) (ci := 0) (v := .ref (ad 5)) (C := RX0) (T := TX0) (N := 14) hx hb hts inX0 hown hK hP 0 rfl rfl 8 (by decide) fl53 (fun _ h9 => h9) rfl dX0_raise_47 ?_
  refine lv_iload_n hx hb dX0_raise_50 rfl (lv_at hl 1 rfl) ?_
  refine lv_iconst (v := 1) hx hb dX0_raise_51 (by decide) ?_
  refine lv_isub hx hb dX0_raise_52 ?_
  refine top_eq (y := nI (kc - 1)) (pk_sub (b := 1) (by omega)) ?_
  refine lv_dup2_11 hx hb dX0_raise_53 rfl rfl ?_
  refine a_ld hx hb hK hP 6 0 rfl rfl (kc - 1) (rfl) (by omega) (pl_N hB) dX0_raise_54 ?_
  refine lv_iload_n hx hb dX0_raise_55 rfl (lv_at hl 2 rfl) ?_
  refine lv_aload_n hx hb dX0_raise_56 rfl (lv_at hl 0 rfl) ?_
  refine va_get (D := D) (cl := vwCl) (ci := 0) (v := .ref (ad 2)) (C := RX0) (T := TX0) (N := 14) hx hb hts inX0 hown hK hP 0 rfl rfl 5 (by decide) fl44 (fun _ h9 => h9) rfl dX0_raise_57 ?_
  refine lv_iload_n hx hb dX0_raise_60 rfl (lv_at hl 1 rfl) ?_
  refine lv_iconst (v := 1) hx hb dX0_raise_61 (by decide) ?_
  refine lv_isub hx hb dX0_raise_62 ?_
  refine top_eq (y := nI (kc - 1)) (pk_sub (b := 1) (by omega)) ?_
  refine a_ld hx hb hK hP 3 0 rfl rfl (kc - 1) (rfl) (by omega) (pl_N hB) dX0_raise_63 ?_
  refine lv_imul hx hb dX0_raise_64 ?_
  refine lv_iadd hx hb dX0_raise_65 ?_
  refine a_st hx hb hK hP hD hS 6 0 rfl rfl (kc - 1) (rfl) (by omega) (pl_N hB) dX0_raise_66 (fun H locs hP hS => ?_)
  obtain ⟨σ4, eσ4⟩ : ∃ z, z = up2 σ3 5 (kc - 1) ((σ3 5 (kc - 1)) + (st * (σ3 2 (kc - 1)))) := ⟨_, rfl⟩
  replace hP : va_P D vwCl (wS ad cI X Y σ4) H := by rw [eσ4]; exact hP
  have hP : va_P D vwCl (wS ad cI X Y σ4) H := hP
  have hD : va_D A (wS ad cI X Y σ4) := wS_D hD _
  refine lv_aload_n hx hb dX0_raise_67 rfl (lv_at hl 0 rfl) ?_
  refine va_get (D := D) (cl := vwCl) (ci := 0) (v := .ref (ad 5)) (C := RX0) (T := TX0) (N := 14) hx hb hts inX0 hown hK hP 0 rfl rfl 8 (by decide) fl53 (fun _ h9 => h9) rfl dX0_raise_68 ?_
  refine lv_iload_n hx hb dX0_raise_71 rfl (lv_at hl 1 rfl) ?_
  refine lv_aload_n hx hb dX0_raise_72 rfl (lv_at hl 0 rfl) ?_
  refine va_get (D := D) (cl := vwCl) (ci := 0) (v := .int (nI (X + 2))) (C := RX0) (T := TX0) (N := 14) hx hb hts inX0 hown hK hP 0 rfl rfl 2 (by decide) fl35 (fun _ h9 => h9) rfl dX0_raise_73 ?_
  refine lv_iadd hx hb dX0_raise_76 ?_
  refine top_eq (y := nI (kc + (X + 2))) (nI_add kc (X + 2)) ?_
  refine lv_dup2_11 hx hb dX0_raise_77 rfl rfl ?_
  refine a_ld hx hb hK hP 6 0 rfl rfl (kc + (X + 2)) (rfl) (by omega) (pl_N hB) dX0_raise_78 ?_
  refine lv_iload_n hx hb dX0_raise_79 rfl (lv_at hl 2 rfl) ?_
  refine lv_aload_n hx hb dX0_raise_80 rfl (lv_at hl 0 rfl) ?_
  refine va_get (D := D) (cl := vwCl) (ci := 0) (v := .ref (ad 3)) (C := RX0) (T := TX0) (N := 14) hx hb hts inX0 hown hK hP 0 rfl rfl 6 (by decide) fl47 (fun _ h9 => h9) rfl dX0_raise_81 ?_
  refine lv_iload_n hx hb dX0_raise_84 rfl (lv_at hl 1 rfl) ?_
  refine a_ld hx hb hK hP 4 0 rfl rfl kc (rfl) (by omega) (pl_N hB) dX0_raise_85 ?_
  refine lv_imul hx hb dX0_raise_86 ?_
  refine lv_iadd hx hb dX0_raise_87 ?_
  refine a_st hx hb hK hP hD hS 6 0 rfl rfl (kc + (X + 2)) (rfl) (by omega) (pl_N hB) dX0_raise_88 (fun H locs hP hS => ?_)
  obtain ⟨σ5, eσ5⟩ : ∃ z, z = up2 σ4 5 (kc + (X + 2)) ((σ4 5 (kc + (X + 2))) + (st * (σ4 3 kc))) := ⟨_, rfl⟩
  replace hP : va_P D vwCl (wS ad cI X Y σ5) H := by rw [eσ5]; exact hP
  have hP : va_P D vwCl (wS ad cI X Y σ5) H := hP
  have hD : va_D A (wS ad cI X Y σ5) := wS_D hD _
  refine lv_aload_n hx hb dX0_raise_89 rfl (lv_at hl 0 rfl) ?_
  refine va_get (D := D) (cl := vwCl) (ci := 0) (v := .ref (ad 5)) (C := RX0) (T := TX0) (N := 14) hx hb hts inX0 hown hK hP 0 rfl rfl 8 (by decide) fl53 (fun _ h9 => h9) rfl dX0_raise_90 ?_
  refine lv_iload_n hx hb dX0_raise_93 rfl (lv_at hl 1 rfl) ?_
  refine lv_aload_n hx hb dX0_raise_94 rfl (lv_at hl 0 rfl) ?_
  refine va_get (D := D) (cl := vwCl) (ci := 0) (v := .int (nI (X + 2))) (C := RX0) (T := TX0) (N := 14) hx hb hts inX0 hown hK hP 0 rfl rfl 2 (by decide) fl35 (fun _ h9 => h9) rfl dX0_raise_95 ?_
  refine lv_isub hx hb dX0_raise_98 ?_
  refine top_eq (y := nI (kc - (X + 2))) (pk_sub hc1) ?_
  refine lv_dup2_11 hx hb dX0_raise_99 rfl rfl ?_
  refine a_ld hx hb hK hP 6 0 rfl rfl (kc - (X + 2)) (rfl) (by omega) (pl_N hB) dX0_raise_100 ?_
  refine lv_iload_n hx hb dX0_raise_101 rfl (lv_at hl 2 rfl) ?_
  refine lv_aload_n hx hb dX0_raise_102 rfl (lv_at hl 0 rfl) ?_
  refine va_get (D := D) (cl := vwCl) (ci := 0) (v := .ref (ad 3)) (C := RX0) (T := TX0) (N := 14) hx hb hts inX0 hown hK hP 0 rfl rfl 6 (by decide) fl47 (fun _ h9 => h9) rfl dX0_raise_103 ?_
  refine lv_iload_n hx hb dX0_raise_106 rfl (lv_at hl 1 rfl) ?_
  refine lv_aload_n hx hb dX0_raise_107 rfl (lv_at hl 0 rfl) ?_
  refine va_get (D := D) (cl := vwCl) (ci := 0) (v := .int (nI (X + 2))) (C := RX0) (T := TX0) (N := 14) hx hb hts inX0 hown hK hP 0 rfl rfl 2 (by decide) fl35 (fun _ h9 => h9) rfl dX0_raise_108 ?_
  refine lv_isub hx hb dX0_raise_111 ?_
  refine top_eq (y := nI (kc - (X + 2))) (pk_sub hc1) ?_
  refine a_ld hx hb hK hP 4 0 rfl rfl (kc - (X + 2)) (rfl) (by omega) (pl_N hB) dX0_raise_112 ?_
  refine lv_imul hx hb dX0_raise_113 ?_
  refine lv_iadd hx hb dX0_raise_114 ?_
  refine a_st hx hb hK hP hD hS 6 0 rfl rfl (kc - (X + 2)) (rfl) (by omega) (pl_N hB) dX0_raise_115 (fun H locs hP hS => ?_)
  obtain ⟨σ6, eσ6⟩ : ∃ z, z = up2 σ5 5 (kc - (X + 2)) ((σ5 5 (kc - (X + 2))) + (st * (σ5 3 (kc - (X + 2))))) := ⟨_, rfl⟩
  replace hP : va_P D vwCl (wS ad cI X Y σ6) H := by rw [eσ6]; exact hP
  have hP : va_P D vwCl (wS ad cI X Y σ6) H := hP
  have hD : va_D A (wS ad cI X Y σ6) := wS_D hD _
  subst eσ6 eσ5 eσ4 eσ3 eσ2 eσ1
  exact W.vret hx hb hr (fun t ht _ => ⟨rfl, by rw [ht]; exact hP, by rw [hAe]; exact hS.F ht⟩) hS.2.2 dX0_raise_116
