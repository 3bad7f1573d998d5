set_option maxHeartbeats 4000000 in
set_option maxRecDepth 100000 in
theorem k_X0_changeSide (l : Launch) (D : va_G) (cI cJ : ClassId) (ad : Nat → Nat) (X Y : Nat) (σ : Nat → Nat → Int32) (hB : 1 ≤ X ∧ X ≤ 10 ∧ 1 ≤ Y ∧ Y ≤ 10) (sd : Nat) (w f : Int32) (hsd : sd < 4) : wMet l yX0_changeSide wsX0_changeSide 2 44 D (tY cI cJ) (wS ad cI X Y σ) (wS ad cI X Y (f_cs X Y sd w f σ)) [.ref (ad 8), .int (nI sd), .int w, .int f] (some (.int (σ 7 sd))) := by
  refine Met.ofW (cc := cX0_changeSide) (maxL := 8) (ret := (some .int)) (by decide) rfl ?_
  intro p e s m args below meth c s₁ B hml hv
  obtain ⟨rfl, hP, hK, hD0⟩ := hv
  have hx := B.exec
  have hb := B.bytes
  have hr := B.returns
  have hts := atoms_spec (ws := wsX0_changeSide) B.pre
  have hown : s.vm.findClass RX0 = some m.cls := findClass_of_methodNamed B.named
  have hlocks := B.notSynchronized
  have inX0 : ∀ w ∈ wsX00, w ∈ wsX0_changeSide := by decide +kernel
  have fl15 := hts (.fieldLink RX0 15 "BridgeCells$Section" "sideFilm" "[I") (by decide +kernel)
  have fl9 := hts (.fieldLink RX0 9 "BridgeCells$Section" "sideWarmth" "[I") (by decide +kernel)
  have fl25 := hts (.fieldLink RX0 25 "BridgeCells$Section" "settled" "Z") (by decide +kernel)
  have fl38 := hts (.fieldLink RX0 38 "BridgeCells$Section" "conduct" "[I") (by decide +kernel)
  have fl41 := hts (.fieldLink RX0 41 "BridgeCells$Section" "warm" "[I") (by decide +kernel)
  have hl := lv_entry ([.ref (ad 8), .int (nI sd), .int w, .int f]) (n := 8) (Nat.le_of_ble_eq_true rfl)
  rw [lg_entry_eq]
  generalize (lg_sl ([.ref (ad 8), .int (nI sd), .int w, .int f]) ++ List.replicate (8 - (lg_sl ([.ref (ad 8), .int (nI sd), .int w, .int f])).length) Slot.unset).toArray = ls at hl ⊢
  have hl : lv_has ls 8 [(0, .ref (ad 8)), (1, .int (nI sd)), (2, .int w), (3, .int f)] := hl
  have hD := aw_D hD0
  generalize hAe : aw (wS ad cI X Y σ) = A at hD ⊢
  have hS : va_S A s.heap s.heap [] := va_S.rf
  have hc9 := cA_le (sd := sd) hB
  refine lv_aload_n hx hb dX0_changeSide_0 rfl (lv_at hl 0 rfl) ?_
  refine va_get (D := D) (cl := vwCl) (ci := 0) (v := .ref (ad 7)) (C := RX0) (T := TX0) (N := 14) hx hb hts inX0 hown hK hP 0 rfl rfl 10 (by decide) fl15 (fun _ h9 => h9) rfl dX0_changeSide_1 ?_
  refine lv_iload_n hx hb dX0_changeSide_4 rfl (lv_at hl 1 rfl) ?_
  refine a_ld hx hb hK hP 8 0 rfl rfl sd (rfl) (hsd) (by decide) dX0_changeSide_5 ?_
  refine lv_istore (lv' := [(4, .int (σ 7 sd)), (0, .ref (ad 8)), (1, .int (nI sd)), (2, .int w), (3, .int f)]) hx hb dX0_changeSide_6 hl (by decide) rfl (fun ls hl => ?_)
  refine lv_aload_n hx hb dX0_changeSide_8 rfl (lv_at hl 1 rfl) ?_
  refine va_get (D := D) (cl := vwCl) (ci := 0) (v := .ref (ad 6)) (C := RX0) (T := TX0) (N := 14) hx hb hts inX0 hown hK hP 0 rfl rfl 9 (by decide) fl9 (fun _ h9 => h9) rfl dX0_changeSide_9 ?_
  refine lv_iload_n hx hb dX0_changeSide_12 rfl (lv_at hl 2 rfl) ?_
  refine lv_iload_n hx hb dX0_changeSide_13 rfl (lv_at hl 3 rfl) ?_
  refine a_st hx hb hK hP hD hS 7 0 rfl rfl sd (rfl) (hsd) (by decide) dX0_changeSide_14 (fun H locs hP hS => ?_)
  obtain ⟨σ1, eσ1⟩ : ∃ z, z = up2 σ 6 sd w := ⟨_, rfl⟩
  replace hP : va_P D vwCl (wS ad cI X Y σ1) H := by rw [eσ1]; exact hP
  have hP : va_P D vwCl (wS ad cI X Y σ1) H := hP
  have hD : va_D A (wS ad cI X Y σ1) := wS_D hD _
  refine lv_aload_n hx hb dX0_changeSide_15 rfl (lv_at hl 1 rfl) ?_
  refine va_get (D := D) (cl := vwCl) (ci := 0) (v := .ref (ad 7)) (C := RX0) (T := TX0) (N := 14) hx hb hts inX0 hown hK hP 0 rfl rfl 10 (by decide) fl15 (fun _ h9 => h9) rfl dX0_changeSide_16 ?_
  refine lv_iload_n hx hb dX0_changeSide_19 rfl (lv_at hl 2 rfl) ?_
  refine lv_iload_n hx hb dX0_changeSide_20 rfl (lv_at hl 4 rfl) ?_
  refine a_st hx hb hK hP hD hS 8 0 rfl rfl sd (rfl) (hsd) (by decide) dX0_changeSide_21 (fun H locs hP hS => ?_)
  obtain ⟨σ2, eσ2⟩ : ∃ z, z = up2 σ1 7 sd f := ⟨_, rfl⟩
  replace hP : va_P D vwCl (wS ad cI X Y σ2) H := by rw [eσ2]; exact hP
  have hP : va_P D vwCl (wS ad cI X Y σ2) H := hP
  have hD : va_D A (wS ad cI X Y σ2) := wS_D hD _
  refine lv_aload_n hx hb dX0_changeSide_22 rfl (lv_at hl 1 rfl) ?_
  refine lv_iload_n hx hb dX0_changeSide_23 rfl (lv_at hl 2 rfl) ?_
  refine r_V ⟨hx, hb, hml, hown, hts⟩ (k_X0_countAlong l D cI cJ ad X Y σ2 hB sd (hsd)) (cwV 1 hts gX0_changeSide_X0_countAlong rfl rfl rfl (by decide +kernel) ⟨Nat.le_of_ble_eq_true rfl, Nat.le_of_ble_eq_true rfl⟩) hP hK (va_recv hK hP (ci := 0) (q0 := 0) rfl rfl) rfl hl.1 rfl (Nat.le_of_ble_eq_true rfl) dX0_changeSide_24 (Nat.zero_le _) (Nat.zero_le _) ?_
  refine lv_istore (lv' := [(5, .int (nI (cAlong X Y sd))), (4, .int (σ 7 sd)), (0, .ref (ad 8)), (1, .int (nI sd)), (2, .int w), (3, .int f)]) hx hb dX0_changeSide_27 hl (by decide) rfl (fun ls hl => ?_)
  refine lv_iconst (v := nI 0) hx hb dX0_changeSide_29 (by decide) ?_
  refine lv_istore (lv' := [(6, .int (nI 0)), (5, .int (nI (cAlong X Y sd))), (4, .int (σ 7 sd)), (0, .ref (ad 8)), (1, .int (nI sd)), (2, .int w), (3, .int f)]) hx hb dX0_changeSide_30 hl (by decide) rfl (fun ls hl => ?_)
  refine W_lw (fun k ls H locs => lv_has ls 8 [(6, .int (nI k)), (0, .ref (ad 8)), (1, .int (nI sd)), (2, .int w), (3, .int f), (4, .int (σ 7 sd)), (5, .int (nI (cAlong X Y sd)))] ∧ va_P D vwCl (wS ad cI X Y (f_csI X Y sd w f σ2 k)) H ∧ va_S A s.heap H locs) (cAlong X Y sd) (0) (Nat.zero_le _) ⟨lv_sub hl [0, 3, 4, 5, 6, 2, 1] rfl, hP, hS⟩ (fun ls H locs hq => ?_) (fun k ls H locs hk hq ih3 => ?_)
  · -- behind the loop
    obtain ⟨hl, hP, hS⟩ := hq
    have hD : va_D A (wS ad cI X Y (f_csI X Y sd w f σ2 (cAlong X Y sd))) := wS_D hD _
    refine lv_iload hx hb dX0_changeSide_32 (lv_at hl 0 rfl) ?_
    refine lv_iload hx hb dX0_changeSide_34 (lv_at hl 6 rfl) ?_
    refine lv_icmp_ge (tgt := 76) hx hb dX0_changeSide_36 (by decide) (fun _ => ?_) (fun c9 => False.elim (c9 (nI_le (Nat.le_refl _) (by omega))))
    refine lv_aload_n hx hb dX0_changeSide_76 rfl (lv_at hl 1 rfl) ?_
    refine lv_iconst (v := 0) hx hb dX0_changeSide_77 (by decide) ?_
    refine va_put (D := D) (cl := vwCl) (ci := 0) (v := .int 0) (ty := .boolean) (C := RX0) (T := TX0) (N := 14) hx hb hts inX0 tyX0 tyX0_ok nmX0 hown hK hP hD hS 0 rfl rfl 13 (by decide) fl25 (fun _ h9 => h9) rfl (by decide +kernel) rfl rfl (Nat.le_of_ble_eq_true rfl) dX0_changeSide_78 (fun H locs hP _ hS => ?_)
    obtain ⟨σ4, eσ4⟩ : ∃ z, z = up2 (f_csI X Y sd w f σ2 (cAlong X Y sd)) 8 2 0 := ⟨_, rfl⟩
    replace hP : va_P D vwCl (wS ad cI X Y σ4) H := by rw [eσ4]; exact hP
    have hP : va_P D vwCl (wS ad cI X Y σ4) H := hP
    have hD : va_D A (wS ad cI X Y σ4) := wS_D hD _
    refine lv_iload hx hb dX0_changeSide_81 (lv_at hl 5 rfl) ?_
    subst eσ4 eσ2 eσ1
    exact W.iret hx hb hr (fun t ht _ => ⟨rfl, by rw [ht]; exact hP, by rw [hAe]; exact hS.F ht⟩) hS.2.2 dX0_changeSide_83
  · -- one round
    obtain ⟨hl, hP, hS⟩ := hq
    have hD : va_D A (wS ad cI X Y (f_csI X Y sd w f σ2 k)) := wS_D hD _
    refine lv_iload hx hb dX0_changeSide_32 (lv_at hl 0 rfl) ?_
    refine lv_iload hx hb dX0_changeSide_34 (lv_at hl 6 rfl) ?_
    refine lv_icmp_ge (tgt := 76) hx hb dX0_changeSide_36 (by decide) (fun c9 => False.elim (nI_ge hk (by omega) c9)) (fun _ => ?_)
    refine lv_aload_n hx hb dX0_changeSide_39 rfl (lv_at hl 1 rfl) ?_
    refine lv_iload_n hx hb dX0_changeSide_40 rfl (lv_at hl 2 rfl) ?_
    refine lv_iload hx hb dX0_changeSide_41 (lv_at hl 0 rfl) ?_
    refine r_V ⟨hx, hb, hml, hown, hts⟩ (k_X0_cellAlong l D cI cJ ad X Y (f_csI X Y sd w f σ2 k) hB sd k (hsd)) (cwV 2 hts gX0_changeSide_X0_cellAlong rfl rfl rfl (by decide +kernel) ⟨Nat.le_of_ble_eq_true rfl, Nat.le_of_ble_eq_true rfl⟩) hP hK (va_recv hK hP (ci := 0) (q0 := 0) rfl rfl) rfl hl.1 rfl (Nat.le_of_ble_eq_true rfl) dX0_changeSide_43 (Nat.zero_le _) (Nat.zero_le _) ?_
    refine lv_aload_n hx hb dX0_changeSide_46 rfl (lv_at hl 1 rfl) ?_
    refine lv_iload_n hx hb dX0_changeSide_47 rfl (lv_at hl 2 rfl) ?_
    refine r_V ⟨hx, hb, hml, hown, hts⟩ (k_X0_outward l D cI cJ ad X Y (f_csI X Y sd w f σ2 k) hB sd (hsd)) (cwV 1 hts gX0_changeSide_X0_outward rfl rfl rfl (by decide +kernel) ⟨Nat.le_of_ble_eq_true rfl, Nat.le_of_ble_eq_true rfl⟩) hP hK (va_recv hK hP (ci := 0) (q0 := 0) rfl rfl) rfl hl.1 rfl (Nat.le_of_ble_eq_true rfl) dX0_changeSide_48 (Nat.zero_le _) (Nat.zero_le _) ?_
    refine lv_iadd hx hb dX0_changeSide_51 ?_
    refine top_eq (y := nI (bdA X Y sd k)) ((bdA_e hB hsd hk).1) ?_
    refine lv_istore (lv' := [(7, .int (nI (bdA X Y sd k))), (6, .int (nI k)), (0, .ref (ad 8)), (1, .int (nI sd)), (2, .int w), (3, .int f), (4, .int (σ 7 sd)), (5, .int (nI (cAlong X Y sd)))]) hx hb dX0_changeSide_52 hl (by decide) rfl (fun ls hl => ?_)
    refine lv_aload_n hx hb dX0_changeSide_54 rfl (lv_at hl 2 rfl) ?_
    refine va_get (D := D) (cl := vwCl) (ci := 0) (v := .ref (ad 0)) (C := RX0) (T := TX0) (N := 14) hx hb hts inX0 hown hK hP 0 rfl rfl 3 (by decide) fl38 (fun _ h9 => h9) rfl dX0_changeSide_55 ?_
    refine lv_iload hx hb dX0_changeSide_58 (lv_at hl 0 rfl) ?_
    refine lv_iload_n hx hb dX0_changeSide_60 rfl (lv_at hl 5 rfl) ?_
    refine a_st hx hb hK hP hD hS 1 0 rfl rfl (bdA X Y sd k) (rfl) ((bdA_e hB hsd hk).2) (pl_N hB) dX0_changeSide_61 (fun H locs hP hS => ?_)
    obtain ⟨σ5, eσ5⟩ : ∃ z, z = up2 (f_csI X Y sd w f σ2 k) 0 (bdA X Y sd k) f := ⟨_, rfl⟩
    replace hP : va_P D vwCl (wS ad cI X Y σ5) H := by rw [eσ5]; exact hP
    have hP : va_P D vwCl (wS ad cI X Y σ5) H := hP
    have hD : va_D A (wS ad cI X Y σ5) := wS_D hD _
    refine lv_aload_n hx hb dX0_changeSide_62 rfl (lv_at hl 2 rfl) ?_
    refine va_get (D := D) (cl := vwCl) (ci := 0) (v := .ref (ad 1)) (C := RX0) (T := TX0) (N := 14) hx hb hts inX0 hown hK hP 0 rfl rfl 4 (by decide) fl41 (fun _ h9 => h9) rfl dX0_changeSide_63 ?_
    refine lv_iload hx hb dX0_changeSide_66 (lv_at hl 0 rfl) ?_
    refine lv_iload_n hx hb dX0_changeSide_68 rfl (lv_at hl 4 rfl) ?_
    refine a_st hx hb hK hP hD hS 2 0 rfl rfl (bdA X Y sd k) (rfl) ((bdA_e hB hsd hk).2) (pl_N hB) dX0_changeSide_69 (fun H locs hP hS => ?_)
    obtain ⟨σ6, eσ6⟩ : ∃ z, z = up2 σ5 1 (bdA X Y sd k) w := ⟨_, rfl⟩
    replace hP : va_P D vwCl (wS ad cI X Y σ6) H := by rw [eσ6]; exact hP
    have hP : va_P D vwCl (wS ad cI X Y σ6) H := hP
    have hD : va_D A (wS ad cI X Y σ6) := wS_D hD _
    refine a_inc hx hb (k := 1) (lv' := [(6, .int (nI (k + 1))), (7, .int (nI (bdA X Y sd k))), (0, .ref (ad 8)), (1, .int (nI sd)), (2, .int w), (3, .int f), (4, .int (σ 7 sd)), (5, .int (nI (cAlong X Y sd)))]) k dX0_changeSide_70 hl rfl (by decide) rfl (fun ls hl => ?_)
    refine lv_goto (tgt := 32) hx hb dX0_changeSide_73 (by decide) ?_
    subst eσ6 eσ5
    exact ih3 _ _ _ ⟨lv_sub hl [0, 2, 3, 4, 5, 6, 7] rfl, hP, hS⟩
