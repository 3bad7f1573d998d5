set_option maxHeartbeats 4000000 in
set_option maxRecDepth 100000 in
theorem k_X0_weigh (l : Launch) (D : va_G) (cI cJ : ClassId) (ad : Nat → Nat) (X Y : Nat) (σ : Nat → Nat → Int32) (hB : 1 ≤ X ∧ X ≤ 10 ∧ 1 ≤ Y ∧ Y ≤ 10) (kc : Nat) (hc1 : X + 2 ≤ kc) (hc2 : kc + (X + 2) < (X + 2) * (Y + 2)) : wMet l yX0_weigh wsX0_weigh 0 0 D (tY cI cJ) (wS ad cI X Y σ) (wS ad cI X Y (f_weigh X σ kc)) [.ref (ad 8), .int (nI kc)] none := by
  refine Met.ofW (cc := cX0_weigh) (maxL := 6) (ret := none) (by decide) rfl ?_
  intro p e s m args below meth c s₁ B hml hv
  obtain ⟨rfl, hP, hK, hD0⟩ := hv
  have hx := B.exec
  have hb := B.bytes
  have hr := B.returns
  have hts := atoms_spec (ws := wsX0_weigh) B.pre
  have hown : s.vm.findClass RX0 = some m.cls := findClass_of_methodNamed B.named
  have hlocks := B.notSynchronized
  have inX0 : ∀ w ∈ wsX00, w ∈ wsX0_weigh := by decide +kernel
  have fl44 := hts (.fieldLink RX0 44 "BridgeCells$Section" "east" "[I") (by decide +kernel)
  have fl47 := hts (.fieldLink RX0 47 "BridgeCells$Section" "south" "[I") (by decide +kernel)
  have fl35 := hts (.fieldLink RX0 35 "BridgeCells$Section" "stride" "I") (by decide +kernel)
  have fl50 := hts (.fieldLink RX0 50 "BridgeCells$Section" "weight" "[I") (by decide +kernel)
  have fl53 := hts (.fieldLink RX0 53 "BridgeCells$Section" "surplus" "[I") (by decide +kernel)
  have fl41 := hts (.fieldLink RX0 41 "BridgeCells$Section" "warm" "[I") (by decide +kernel)
  have fl18 := hts (.fieldLink RX0 18 "BridgeCells$Section" "low" "I") (by decide +kernel)
  have hl := lv_entry ([.ref (ad 8), .int (nI kc)]) (n := 6) (Nat.le_of_ble_eq_true rfl)
  rw [lg_entry_eq]
  generalize (lg_sl ([.ref (ad 8), .int (nI kc)]) ++ List.replicate (6 - (lg_sl ([.ref (ad 8), .int (nI kc)])).length) Slot.unset).toArray = ls at hl ⊢
  have hl : lv_has ls 6 [(0, .ref (ad 8)), (1, .int (nI kc))] := hl
  have hD := aw_D hD0
  generalize hAe : aw (wS ad cI X Y σ) = A at hD ⊢
  have hS : va_S A s.heap s.heap [] := va_S.rf
  refine lv_aload_n hx hb dX0_weigh_0 rfl (lv_at hl 0 rfl) ?_
  refine va_get (D := D) (cl := vwCl) (ci := 0) (v := .ref (ad 2)) (C := RX0) (T := TX0) (N := 14) hx hb hts inX0 hown hK hP 0 rfl rfl 5 (by decide) fl44 (fun _ h9 => h9) rfl dX0_weigh_1 ?_
  refine lv_iload_n hx hb dX0_weigh_4 rfl (lv_at hl 1 rfl) ?_
  refine a_ld hx hb hK hP 3 0 rfl rfl kc (rfl) (by omega) (pl_N hB) dX0_weigh_5 ?_
  refine lv_istore_n (lv' := [(2, .int (σ 2 kc)), (0, .ref (ad 8)), (1, .int (nI kc))]) hx hb dX0_weigh_6 rfl hl (by decide) rfl (fun ls hl => ?_)
  refine lv_aload_n hx hb dX0_weigh_7 rfl (lv_at hl 1 rfl) ?_
  refine va_get (D := D) (cl := vwCl) (ci := 0) (v := .ref (ad 2)) (C := RX0) (T := TX0) (N := 14) hx hb hts inX0 hown hK hP 0 rfl rfl 5 (by decide) fl44 (fun _ h9 => h9) rfl dX0_weigh_8 ?_
  refine lv_iload_n hx hb dX0_weigh_11 rfl (lv_at hl 2 rfl) ?_
  refine lv_iconst (v := 1) hx hb dX0_weigh_12 (by decide) ?_
  refine lv_isub hx hb dX0_weigh_13 ?_
  refine top_eq (y := nI (kc - 1)) (pk_sub (b := 1) (by omega)) ?_
  refine a_ld hx hb hK hP 3 0 rfl rfl (kc - 1) (rfl) (by omega) (pl_N hB) dX0_weigh_14 ?_
  refine lv_istore_n (lv' := [(3, .int (σ 2 (kc - 1))), (2, .int (σ 2 kc)), (0, .ref (ad 8)), (1, .int (nI kc))]) hx hb dX0_weigh_15 rfl hl (by decide) rfl (fun ls hl => ?_)
  refine lv_aload_n hx hb dX0_weigh_16 rfl (lv_at hl 2 rfl) ?_
  refine va_get (D := D) (cl := vwCl) (ci := 0) (v := .ref (ad 3)) (C := RX0) (T := TX0) (N := 14) hx hb hts inX0 hown hK hP 0 rfl rfl 6 (by decide) fl47 (fun _ h9 => h9) rfl dX0_weigh_17 ?_
  refine lv_iload_n hx hb dX0_weigh_20 rfl (lv_at hl 3 rfl) ?_
  refine a_ld hx hb hK hP 4 0 rfl rfl kc (rfl) (by omega) (pl_N hB) dX0_weigh_21 ?_
  refine lv_istore (lv' := [(4, .int (σ 3 kc)), (3, .int (σ 2 (kc - 1))), (2, .int (σ 2 kc)), (0, .ref (ad 8)), (1, .int (nI kc))]) hx hb dX0_weigh_22 hl (by decide) rfl (fun ls hl => ?_)
  refine lv_aload_n hx hb dX0_weigh_24 rfl (lv_at hl 3 rfl) ?_
  refine va_get (D := D) (cl := vwCl) (ci := 0) (v := .ref (ad 3)) (C := RX0) (T := TX0) (N := 14) hx hb hts inX0 hown hK hP 0 rfl rfl 6 (by decide) fl47 (fun _ h9 => h9) rfl dX0_weigh_25 ?_
  refine lv_iload_n hx hb dX0_weigh_28 rfl (lv_at hl 4 rfl) ?_
  refine lv_aload_n hx hb dX0_weigh_29 rfl (lv_at hl 3 rfl) ?_
  refine va_get (D := D) (cl := vwCl) (ci := 0) (v := .int (nI (X + 2))) (C := RX0) (T := TX0) (N := 14) hx hb hts inX0 hown hK hP 0 rfl rfl 2 (by decide) fl35 (fun _ h9 => h9) rfl dX0_weigh_30 ?_
  refine lv_isub hx hb dX0_weigh_33 ?_
  refine top_eq (y := nI (kc - (X + 2))) (pk_sub hc1) ?_
  refine a_ld hx hb hK hP 4 0 rfl rfl (kc - (X + 2)) (rfl) (by omega) (pl_N hB) dX0_weigh_34 ?_
  refine lv_istore (lv' := [(5, .int (σ 3 (kc - (X + 2)))), (4, .int (σ 3 kc)), (3, .int (σ 2 (kc - 1))), (2, .int (σ 2 kc)), (0, .ref (ad 8)), (1, .int (nI kc))]) hx hb dX0_weigh_35 hl (by decide) rfl (fun ls hl => ?_)
  refine lv_aload_n hx hb dX0_weigh_37 rfl (lv_at hl 4 rfl) ?_
  refine va_get (D := D) (cl := vwCl) (ci := 0) (v := .ref (ad 4)) (C := RX0) (T := TX0) (N := 14) hx hb hts inX0 hown hK hP 0 rfl rfl 7 (by decide) fl50 (fun _ h9 => h9) rfl dX0_weigh_38 ?_
  refine lv_iload_n hx hb dX0_weigh_41 rfl (lv_at hl 5 rfl) ?_
  refine lv_iload_n hx hb dX0_weigh_42 rfl (lv_at hl 3 rfl) ?_
  refine lv_iload_n hx hb dX0_weigh_43 rfl (lv_at hl 2 rfl) ?_
  refine lv_iadd hx hb dX0_weigh_44 ?_
  refine lv_iload hx hb dX0_weigh_45 (lv_at hl 1 rfl) ?_
  refine lv_iadd hx hb dX0_weigh_47 ?_
  refine lv_iload hx hb dX0_weigh_48 (lv_at hl 0 rfl) ?_
  refine lv_iadd hx hb dX0_weigh_50 ?_
  refine a_st hx hb hK hP hD hS 5 0 rfl rfl kc (rfl) (by omega) (pl_N hB) dX0_weigh_51 (fun H locs hP hS => ?_)
  obtain ⟨σ1, eσ1⟩ : ∃ z, z = up2 σ 4 kc ((((σ 2 kc) + (σ 2 (kc - 1))) + (σ 3 kc)) + (σ 3 (kc - (X + 2)))) := ⟨_, rfl⟩
  replace hP : va_P D vwCl (wS ad cI X Y σ1) H := by rw [eσ1]; exact hP
  have hP : va_P D vwCl (wS ad cI X Y σ1) H := hP
  have hD : va_D A (wS ad cI X Y σ1) := wS_D hD _
  refine lv_aload_n hx hb dX0_weigh_52 rfl (lv_at hl 4 rfl) ?_
  refine va_get (D := D) (cl := vwCl) (ci := 0) (v := .ref (ad 5)) (C := RX0) (T := TX0) (N := 14) hx hb hts inX0 hown hK hP 0 rfl rfl 8 (by decide) fl53 (fun _ h9 => h9) rfl dX0_weigh_53 ?_
  refine lv_iload_n hx hb dX0_weigh_56 rfl (lv_at hl 5 rfl) ?_
  refine lv_iload_n hx hb dX0_weigh_57 rfl (lv_at hl 3 rfl) ?_
  refine lv_aload_n hx hb dX0_weigh_58 rfl (lv_at hl 4 rfl) ?_
  refine va_get (D := D) (cl := vwCl) (ci := 0) (v := .ref (ad 1)) (C := RX0) (T := TX0) (N := 14) hx hb hts inX0 hown hK hP 0 rfl rfl 4 (by decide) fl41 (fun _ h9 => h9) rfl dX0_weigh_59 ?_
  refine lv_iload_n hx hb dX0_weigh_62 rfl (lv_at hl 5 rfl) ?_
  refine lv_iconst (v := 1) hx hb dX0_weigh_63 (by decide) ?_
  refine lv_iadd hx hb dX0_weigh_64 ?_
  refine top_eq (y := nI (kc + 1)) (nI_add kc 1) ?_
  refine a_ld hx hb hK hP 2 0 rfl rfl (kc + 1) (rfl) (by omega) (pl_N hB) dX0_weigh_65 ?_
  refine lv_aload_n hx hb dX0_weigh_66 rfl (lv_at hl 4 rfl) ?_
  refine va_get (D := D) (cl := vwCl) (ci := 0) (v := .int (σ1 8 0)) (C := RX0) (T := TX0) (N := 14) hx hb hts inX0 hown hK hP 0 rfl rfl 11 (by decide) fl18 (fun _ h9 => h9) rfl dX0_weigh_67 ?_
  refine lv_isub hx hb dX0_weigh_70 ?_
  refine lv_imul hx hb dX0_weigh_71 ?_
  refine lv_iload_n hx hb dX0_weigh_72 rfl (lv_at hl 2 rfl) ?_
  refine lv_aload_n hx hb dX0_weigh_73 rfl (lv_at hl 4 rfl) ?_
  refine va_get (D := D) (cl := vwCl) (ci := 0) (v := .ref (ad 1)) (C := RX0) (T := TX0) (N := 14) hx hb hts inX0 hown hK hP 0 rfl rfl 4 (by decide) fl41 (fun _ h9 => h9) rfl dX0_weigh_74 ?_
  refine lv_iload_n hx hb dX0_weigh_77 rfl (lv_at hl 5 rfl) ?_
  refine lv_iconst (v := 1) hx hb dX0_weigh_78 (by decide) ?_
  refine lv_isub hx hb dX0_weigh_79 ?_
  refine top_eq (y := nI (kc - 1)) (pk_sub (b := 1) (by omega)) ?_
  refine a_ld hx hb hK hP 2 0 rfl rfl (kc - 1) (rfl) (by omega) (pl_N hB) dX0_weigh_80 ?_
  refine lv_aload_n hx hb dX0_weigh_81 rfl (lv_at hl 4 rfl) ?_
  refine va_get (D := D) (cl := vwCl) (ci := 0) (v := .int (σ1 8 0)) (C := RX0) (T := TX0) (N := 14) hx hb hts inX0 hown hK hP 0 rfl rfl 11 (by decide) fl18 (fun _ h9 => h9) rfl dX0_weigh_82 ?_
  refine lv_isub hx hb dX0_weigh_85 ?_
  refine lv_imul hx hb dX0_weigh_86 ?_
  refine lv_iadd hx hb dX0_weigh_87 ?_
  refine lv_iload hx hb dX0_weigh_88 (lv_at hl 1 rfl) ?_
  refine lv_aload_n hx hb dX0_weigh_90 rfl (lv_at hl 4 rfl) ?_
  refine va_get (D := D) (cl := vwCl) (ci := 0) (v := .ref (ad 1)) (C := RX0) (T := TX0) (N := 14) hx hb hts inX0 hown hK hP 0 rfl rfl 4 (by decide) fl41 (fun _ h9 => h9) rfl dX0_weigh_91 ?_
  refine lv_iload_n hx hb dX0_weigh_94 rfl (lv_at hl 5 rfl) ?_
  refine lv_aload_n hx hb dX0_weigh_95 rfl (lv_at hl 4 rfl) ?_
  refine va_get (D := D) (cl := vwCl) (ci := 0) (v := .int (nI (X + 2))) (C := RX0) (T := TX0) (N := 14) hx hb hts inX0 hown hK hP 0 rfl rfl 2 (by decide) fl35 (fun _ h9 => h9) rfl dX0_weigh_96 ?_
  refine lv_iadd hx hb dX0_weigh_99 ?_
  refine top_eq (y := nI (kc + (X + 2))) (nI_add kc (X + 2)) ?_
  refine a_ld hx hb hK hP 2 0 rfl rfl (kc + (X + 2)) (rfl) (by omega) (pl_N hB) dX0_weigh_100 ?_
  refine lv_aload_n hx hb dX0_weigh_101 rfl (lv_at hl 4 rfl) ?_
  refine va_get (D := D) (cl := vwCl) (ci := 0) (v := .int (σ1 8 0)) (C := RX0) (T := TX0) (N := 14) hx hb hts inX0 hown hK hP 0 rfl rfl 11 (by decide) fl18 (fun _ h9 => h9) rfl dX0_weigh_102 ?_
  refine lv_isub hx hb dX0_weigh_105 ?_
  refine lv_imul hx hb dX0_weigh_106 ?_
  refine lv_iadd hx hb dX0_weigh_107 ?_
  refine lv_iload hx hb dX0_weigh_108 (lv_at hl 0 rfl) ?_
  refine lv_aload_n hx hb dX0_weigh_110 rfl (lv_at hl 4 rfl) ?_
  refine va_get (D := D) (cl := vwCl) (ci := 0) (v := .ref (ad 1)) (C := RX0) (T := TX0) (N := 14) hx hb hts inX0 hown hK hP 0 rfl rfl 4 (by decide) fl41 (fun _ h9 => h9) rfl dX0_weigh_111 ?_
  refine lv_iload_n hx hb dX0_weigh_114 rfl (lv_at hl 5 rfl) ?_
  refine lv_aload_n hx hb dX0_weigh_115 rfl (lv_at hl 4 rfl) ?_
  refine va_get (D := D) (cl := vwCl) (ci := 0) (v := .int (nI (X + 2))) (C := RX0) (T := TX0) (N := 14) hx hb hts inX0 hown hK hP 0 rfl rfl 2 (by decide) fl35 (fun _ h9 => h9) rfl dX0_weigh_116 ?_
  refine lv_isub hx hb dX0_weigh_119 ?_
  refine top_eq (y := nI (kc - (X + 2))) (pk_sub hc1) ?_
  refine a_ld hx hb hK hP 2 0 rfl rfl (kc - (X + 2)) (rfl) (by omega) (pl_N hB) dX0_weigh_120 ?_
  refine lv_aload_n hx hb dX0_weigh_121 rfl (lv_at hl 4 rfl) ?_
  refine va_get (D := D) (cl := vwCl) (ci := 0) (v := .int (σ1 8 0)) (C := RX0) (T := TX0) (N := 14) hx hb hts inX0 hown hK hP 0 rfl rfl 11 (by decide) fl18 (fun _ h9 => h9) rfl dX0_weigh_122 ?_
  refine lv_isub hx hb dX0_weigh_125 ?_
  refine lv_imul hx hb dX0_weigh_126 ?_
  refine lv_iadd hx hb dX0_weigh_127 ?_
  refine a_st hx hb hK hP hD hS 6 0 rfl rfl kc (rfl) (by omega) (pl_N hB) dX0_weigh_128 (fun H locs hP hS => ?_)
  obtain ⟨σ2, eσ2⟩ : ∃ z, z = up2 σ1 5 kc (((((σ 2 kc) * ((σ1 1 (kc + 1)) - (σ1 8 0))) + ((σ 2 (kc - 1)) * ((σ1 1 (kc - 1)) - (σ1 8 0)))) + ((σ 3 kc) * ((σ1 1 (kc + (X + 2))) - (σ1 8 0)))) + ((σ 3 (kc - (X + 2))) * ((σ1 1 (kc - (X + 2))) - (σ1 8 0)))) := ⟨_, rfl⟩
  replace hP : va_P D vwCl (wS ad cI X Y σ2) H := by rw [eσ2]; exact hP
  have hP : va_P D vwCl (wS ad cI X Y σ2) H := hP
  have hD : va_D A (wS ad cI X Y σ2) := wS_D hD _
  subst eσ2 eσ1
  exact W.vret hx hb hr (fun t ht _ => ⟨rfl, by rw [ht]; exact hP, by rw [hAe]; exact hS.F ht⟩) hS.2.2 dX0_weigh_129
