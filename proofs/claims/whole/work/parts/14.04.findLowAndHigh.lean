set_option maxHeartbeats 4000000 in
set_option maxRecDepth 100000 in
theorem k_X0_findLowAndHigh (l : Launch) (D : va_G) (cI cJ : ClassId) (ad : Nat → Nat) (X Y : Nat) (σ : Nat → Nat → Int32) (hB : 1 ≤ X ∧ X ≤ 10 ∧ 1 ≤ Y ∧ Y ≤ 10)   : wMet l yX0_findLowAndHigh wsX0_findLowAndHigh 1 23 D (tY cI cJ) (wS ad cI X Y σ) (wS ad cI X Y (f_lh σ)) [.ref (ad 8)] none := by
  refine Met.ofW (cc := cX0_findLowAndHigh) (maxL := 3) (ret := none) (by decide) rfl ?_
  intro p e s m args below meth c s₁ B hml hv
  obtain ⟨rfl, hP, hK, hD0⟩ := hv
  have hx := B.exec
  have hb := B.bytes
  have hr := B.returns
  have hts := atoms_spec (ws := wsX0_findLowAndHigh) B.pre
  have hown : s.vm.findClass RX0 = some m.cls := findClass_of_methodNamed B.named
  have hlocks := B.notSynchronized
  have inX0 : ∀ w ∈ wsX00, w ∈ wsX0_findLowAndHigh := by decide +kernel
  have fl18 := hts (.fieldLink RX0 18 "BridgeCells$Section" "low" "I") (by decide +kernel)
  have fl22 := hts (.fieldLink RX0 22 "BridgeCells$Section" "high" "I") (by decide +kernel)
  have fl15 := hts (.fieldLink RX0 15 "BridgeCells$Section" "sideFilm" "[I") (by decide +kernel)
  have fl9 := hts (.fieldLink RX0 9 "BridgeCells$Section" "sideWarmth" "[I") (by decide +kernel)
  have ml106 := hts (.methodLink RX0 106 Lib.Math.min.name) (by decide +kernel)
  have ms_min0 := hts (.static Lib.Math.min.name) (by decide +kernel)
  have mi := hts (.initialized "java/lang/Math") (by decide +kernel)
  have mc_min0 := hts (.code Lib.Math.min.name Lib.Math.min.code 2 (some .int)) (by decide +kernel)
  have ml109 := hts (.methodLink RX0 109 Lib.Math.max.name) (by decide +kernel)
  have ms_max0 := hts (.static Lib.Math.max.name) (by decide +kernel)
  have mc_max0 := hts (.code Lib.Math.max.name Lib.Math.max.code 2 (some .int)) (by decide +kernel)
  have hl := lv_entry ([.ref (ad 8)]) (n := 3) (Nat.le_of_ble_eq_true rfl)
  rw [lg_entry_eq]
  generalize (lg_sl ([.ref (ad 8)]) ++ List.replicate (3 - (lg_sl ([.ref (ad 8)])).length) Slot.unset).toArray = ls at hl ⊢
  have hl : lv_has ls 3 [(0, .ref (ad 8))] := hl
  have hD := aw_D hD0
  generalize hAe : aw (wS ad cI X Y σ) = A at hD ⊢
  have hS : va_S A s.heap s.heap [] := va_S.rf
  refine lv_iconst (v := 0) hx hb dX0_findLowAndHigh_0 (by decide) ?_
  refine lv_istore_n (lv' := [(1, .int 0), (0, .ref (ad 8))]) hx hb dX0_findLowAndHigh_1 rfl hl (by decide) rfl (fun ls hl => ?_)
  refine lv_aload_n hx hb dX0_findLowAndHigh_2 rfl (lv_at hl 1 rfl) ?_
  refine lv_iconst (v := 0) hx hb dX0_findLowAndHigh_3 (by decide) ?_
  refine va_put (D := D) (cl := vwCl) (ci := 0) (v := .int 0) (ty := .int) (C := RX0) (T := TX0) (N := 14) hx hb hts inX0 tyX0 tyX0_ok nmX0 hown hK hP hD hS 0 rfl rfl 11 (by decide) fl18 (fun _ h9 => h9) rfl (by decide +kernel) rfl rfl (Nat.le_of_ble_eq_true rfl) dX0_findLowAndHigh_4 (fun H locs hP _ hS => ?_)
  obtain ⟨σ1, eσ1⟩ : ∃ z, z = up2 σ 8 0 0 := ⟨_, rfl⟩
  replace hP : va_P D vwCl (wS ad cI X Y σ1) H := by rw [eσ1]; exact hP
  have hP : va_P D vwCl (wS ad cI X Y σ1) H := hP
  have hD : va_D A (wS ad cI X Y σ1) := wS_D hD _
  refine lv_aload_n hx hb dX0_findLowAndHigh_7 rfl (lv_at hl 1 rfl) ?_
  refine lv_iconst (v := 0) hx hb dX0_findLowAndHigh_8 (by decide) ?_
  refine va_put (D := D) (cl := vwCl) (ci := 0) (v := .int 0) (ty := .int) (C := RX0) (T := TX0) (N := 14) hx hb hts inX0 tyX0 tyX0_ok nmX0 hown hK hP hD hS 0 rfl rfl 12 (by decide) fl22 (fun _ h9 => h9) rfl (by decide +kernel) rfl rfl (Nat.le_of_ble_eq_true rfl) dX0_findLowAndHigh_9 (fun H locs hP _ hS => ?_)
  obtain ⟨σ2, eσ2⟩ : ∃ z, z = up2 σ1 8 1 0 := ⟨_, rfl⟩
  replace hP : va_P D vwCl (wS ad cI X Y σ2) H := by rw [eσ2]; exact hP
  have hP : va_P D vwCl (wS ad cI X Y σ2) H := hP
  have hD : va_D A (wS ad cI X Y σ2) := wS_D hD _
  refine lv_iconst (v := nI 0) hx hb dX0_findLowAndHigh_12 (by decide) ?_
  refine lv_istore_n (lv' := [(2, .int (nI 0)), (1, .int 0), (0, .ref (ad 8))]) hx hb dX0_findLowAndHigh_13 rfl hl (by decide) rfl (fun ls hl => ?_)
  subst eσ2 eσ1
  refine W_lw (fun sd ls H locs => lv_has ls 3 [(1, .int ((n_lh σ sd).1)), (2, .int (nI sd)), (0, .ref (ad 8))] ∧ va_P D vwCl (wS ad cI X Y ((n_lh σ sd).2)) H ∧ va_S A s.heap H locs) (4) (0) (Nat.zero_le _) ⟨lv_sub hl [1, 0, 2] rfl, hP, hS⟩ (fun ls H locs hq => ?_) (fun sd ls H locs hsd hq ih3 => ?_)
  · -- behind the loop
    obtain ⟨hl, hP, hS⟩ := hq
    have hD : va_D A (wS ad cI X Y ((n_lh σ 4).2)) := wS_D hD _
    refine lv_iload_n hx hb dX0_findLowAndHigh_14 rfl (lv_at hl 1 rfl) ?_
    refine lv_iconst (v := nI 4) hx hb dX0_findLowAndHigh_15 (by decide) ?_
    refine lv_icmp_ge (tgt := 96) hx hb dX0_findLowAndHigh_16 (by decide) (fun _ => ?_) (fun c9 => False.elim (c9 (nI_le (Nat.le_refl _) (by decide))))
    exact W.vret hx hb hr (fun t ht _ => ⟨rfl, by rw [ht]; exact hP, by rw [hAe]; exact hS.F ht⟩) hS.2.2 dX0_findLowAndHigh_96
  · -- one round
    obtain ⟨hl, hP, hS⟩ := hq
    have hD : va_D A (wS ad cI X Y ((n_lh σ sd).2)) := wS_D hD _
    refine lv_iload_n hx hb dX0_findLowAndHigh_14 rfl (lv_at hl 1 rfl) ?_
    refine lv_iconst (v := nI 4) hx hb dX0_findLowAndHigh_15 (by decide) ?_
    refine lv_icmp_ge (tgt := 96) hx hb dX0_findLowAndHigh_16 (by decide) (fun c9 => False.elim (nI_ge hsd (by decide) c9)) (fun _ => ?_)
    refine lv_aload_n hx hb dX0_findLowAndHigh_19 rfl (lv_at hl 2 rfl) ?_
    refine va_get (D := D) (cl := vwCl) (ci := 0) (v := .ref (ad 7)) (C := RX0) (T := TX0) (N := 14) hx hb hts inX0 hown hK hP 0 rfl rfl 10 (by decide) fl15 (fun _ h9 => h9) rfl dX0_findLowAndHigh_20 ?_
    refine lv_iload_n hx hb dX0_findLowAndHigh_23 rfl (lv_at hl 1 rfl) ?_
    refine a_ld hx hb hK hP 8 0 rfl rfl sd (rfl) (hsd) (by decide) dX0_findLowAndHigh_24 ?_
    refine lv_if_le (tgt := 90) hx hb dX0_findLowAndHigh_25 (by decide) (fun c25 => ?_) (fun c25 => ?_)
    · -- 90
      refine a_inc hx hb (k := 1) (lv' := [(2, .int (nI (sd + 1))), (1, .int ((n_lh σ sd).1)), (0, .ref (ad 8))]) sd dX0_findLowAndHigh_90 hl rfl (by decide) rfl (fun ls hl => ?_)
      refine lv_goto (tgt := 14) hx hb dX0_findLowAndHigh_93 (by decide) ?_
      have e9 : n_lh σ (sd + 1) = n_lh σ sd := by show f_lhS sd (n_lh σ sd) = _; unfold f_lhS; rw [if_pos c25]
      exact ih3 _ _ _ ⟨by rw [e9]; exact lv_sub hl [1, 0, 2] rfl, by rw [e9]; exact hP, hS⟩
    · -- 28
      refine lv_aload_n hx hb dX0_findLowAndHigh_28 rfl (lv_at hl 2 rfl) ?_
      refine W_jn (β := Int32) (fun b5 => b5 = (if (n_lh σ sd).1 = 0 then ((n_lh σ sd).2) 6 sd else (if ((n_lh σ sd).2) 6 sd < ((n_lh σ sd).2) 8 0 then ((n_lh σ sd).2) 6 sd else ((n_lh σ sd).2) 8 0))) (fun b5 => F0 m 55 ls [.int b5, .ref (ad 8)]) (fun jn4 => ?_) (fun b5 eb5 => ?_)
      · -- roads to 55
        refine lv_iload_n hx hb dX0_findLowAndHigh_29 rfl (lv_at hl 0 rfl) ?_
        refine lv_if_eq (tgt := 49) hx hb dX0_findLowAndHigh_30 (by decide) (fun c6 => ?_) (fun c6 => ?_)
        · -- 49
          refine lv_aload_n hx hb dX0_findLowAndHigh_49 rfl (lv_at hl 2 rfl) ?_
          refine va_get (D := D) (cl := vwCl) (ci := 0) (v := .ref (ad 6)) (C := RX0) (T := TX0) (N := 14) hx hb hts inX0 hown hK hP 0 rfl rfl 9 (by decide) fl9 (fun _ h9 => h9) rfl dX0_findLowAndHigh_50 ?_
          refine lv_iload_n hx hb dX0_findLowAndHigh_53 rfl (lv_at hl 1 rfl) ?_
          refine a_ld hx hb hK hP 7 0 rfl rfl sd (rfl) (hsd) (by decide) dX0_findLowAndHigh_54 ?_
          exact jn4 _ (by rw [if_pos c6])
        · -- 33
          refine lv_aload_n hx hb dX0_findLowAndHigh_33 rfl (lv_at hl 2 rfl) ?_
          refine va_get (D := D) (cl := vwCl) (ci := 0) (v := .int (((n_lh σ sd).2) 8 0)) (C := RX0) (T := TX0) (N := 14) hx hb hts inX0 hown hK hP 0 rfl rfl 11 (by decide) fl18 (fun _ h9 => h9) rfl dX0_findLowAndHigh_34 ?_
          refine lv_aload_n hx hb dX0_findLowAndHigh_37 rfl (lv_at hl 2 rfl) ?_
          refine va_get (D := D) (cl := vwCl) (ci := 0) (v := .ref (ad 6)) (C := RX0) (T := TX0) (N := 14) hx hb hts inX0 hown hK hP 0 rfl rfl 9 (by decide) fl9 (fun _ h9 => h9) rfl dX0_findLowAndHigh_38 ?_
          refine lv_iload_n hx hb dX0_findLowAndHigh_41 rfl (lv_at hl 1 rfl) ?_
          refine a_ld hx hb hK hP 7 0 rfl rfl sd (rfl) (hsd) (by decide) dX0_findLowAndHigh_42 ?_
          refine va_mmin hx hb (by rw [hml]; exact hl.1.symm) hown ml106 ms_min0 mi mc_min0 (Nat.le_of_ble_eq_true rfl) (Nat.le_of_ble_eq_true rfl) (Nat.zero_le _) (Nat.zero_le _) dX0_findLowAndHigh_43 ?_
          refine lv_goto (tgt := 55) hx hb dX0_findLowAndHigh_46 (by decide) ?_
          exact jn4 _ (by rw [if_neg c6])
      · -- on from 55
        refine va_put (D := D) (cl := vwCl) (ci := 0) (v := .int b5) (ty := .int) (C := RX0) (T := TX0) (N := 14) hx hb hts inX0 tyX0 tyX0_ok nmX0 hown hK hP hD hS 0 rfl rfl 11 (by decide) fl18 (fun _ h9 => h9) rfl (by decide +kernel) rfl rfl (Nat.le_of_ble_eq_true rfl) dX0_findLowAndHigh_55 (fun H locs hP _ hS => ?_)
        obtain ⟨σ7, eσ7⟩ : ∃ z, z = up2 ((n_lh σ sd).2) 8 0 b5 := ⟨_, rfl⟩
        replace hP : va_P D vwCl (wS ad cI X Y σ7) H := by rw [eσ7]; exact hP
        have hP : va_P D vwCl (wS ad cI X Y σ7) H := hP
        have hD : va_D A (wS ad cI X Y σ7) := wS_D hD _
        refine lv_aload_n hx hb dX0_findLowAndHigh_58 rfl (lv_at hl 2 rfl) ?_
        refine W_jn (β := Int32) (fun b9 => b9 = (if (n_lh σ sd).1 = 0 then σ7 6 sd else (if σ7 8 1 < σ7 6 sd then σ7 6 sd else σ7 8 1))) (fun b9 => F0 m 85 ls [.int b9, .ref (ad 8)]) (fun jn8 => ?_) (fun b9 eb9 => ?_)
        · -- roads to 85
          refine lv_iload_n hx hb dX0_findLowAndHigh_59 rfl (lv_at hl 0 rfl) ?_
          refine lv_if_eq (tgt := 79) hx hb dX0_findLowAndHigh_60 (by decide) (fun c10 => ?_) (fun c10 => ?_)
          · -- 79
            refine lv_aload_n hx hb dX0_findLowAndHigh_79 rfl (lv_at hl 2 rfl) ?_
            refine va_get (D := D) (cl := vwCl) (ci := 0) (v := .ref (ad 6)) (C := RX0) (T := TX0) (N := 14) hx hb hts inX0 hown hK hP 0 rfl rfl 9 (by decide) fl9 (fun _ h9 => h9) rfl dX0_findLowAndHigh_80 ?_
            refine lv_iload_n hx hb dX0_findLowAndHigh_83 rfl (lv_at hl 1 rfl) ?_
            refine a_ld hx hb hK hP 7 0 rfl rfl sd (rfl) (hsd) (by decide) dX0_findLowAndHigh_84 ?_
            exact jn8 _ (by rw [if_pos c10])
          · -- 63
            refine lv_aload_n hx hb dX0_findLowAndHigh_63 rfl (lv_at hl 2 rfl) ?_
            refine va_get (D := D) (cl := vwCl) (ci := 0) (v := .int (σ7 8 1)) (C := RX0) (T := TX0) (N := 14) hx hb hts inX0 hown hK hP 0 rfl rfl 12 (by decide) fl22 (fun _ h9 => h9) rfl dX0_findLowAndHigh_64 ?_
            refine lv_aload_n hx hb dX0_findLowAndHigh_67 rfl (lv_at hl 2 rfl) ?_
            refine va_get (D := D) (cl := vwCl) (ci := 0) (v := .ref (ad 6)) (C := RX0) (T := TX0) (N := 14) hx hb hts inX0 hown hK hP 0 rfl rfl 9 (by decide) fl9 (fun _ h9 => h9) rfl dX0_findLowAndHigh_68 ?_
            refine lv_iload_n hx hb dX0_findLowAndHigh_71 rfl (lv_at hl 1 rfl) ?_
            refine a_ld hx hb hK hP 7 0 rfl rfl sd (rfl) (hsd) (by decide) dX0_findLowAndHigh_72 ?_
            refine va_mmax hx hb (by rw [hml]; exact hl.1.symm) hown ml109 ms_max0 mi mc_max0 (Nat.le_of_ble_eq_true rfl) (Nat.le_of_ble_eq_true rfl) (Nat.zero_le _) (Nat.zero_le _) dX0_findLowAndHigh_73 ?_
            refine lv_goto (tgt := 85) hx hb dX0_findLowAndHigh_76 (by decide) ?_
            exact jn8 _ (by rw [if_neg c10])
        · -- on from 85
          refine va_put (D := D) (cl := vwCl) (ci := 0) (v := .int b9) (ty := .int) (C := RX0) (T := TX0) (N := 14) hx hb hts inX0 tyX0 tyX0_ok nmX0 hown hK hP hD hS 0 rfl rfl 12 (by decide) fl22 (fun _ h9 => h9) rfl (by decide +kernel) rfl rfl (Nat.le_of_ble_eq_true rfl) dX0_findLowAndHigh_85 (fun H locs hP _ hS => ?_)
          obtain ⟨σ11, eσ11⟩ : ∃ z, z = up2 σ7 8 1 b9 := ⟨_, rfl⟩
          replace hP : va_P D vwCl (wS ad cI X Y σ11) H := by rw [eσ11]; exact hP
          have hP : va_P D vwCl (wS ad cI X Y σ11) H := hP
          have hD : va_D A (wS ad cI X Y σ11) := wS_D hD _
          refine lv_iconst (v := 1) hx hb dX0_findLowAndHigh_88 (by decide) ?_
          refine lv_istore_n (lv' := [(1, .int 1), (2, .int (nI sd)), (0, .ref (ad 8))]) hx hb dX0_findLowAndHigh_89 rfl hl (by decide) rfl (fun ls hl => ?_)
          refine a_inc hx hb (k := 1) (lv' := [(2, .int (nI (sd + 1))), (1, .int 1), (0, .ref (ad 8))]) sd dX0_findLowAndHigh_90 hl rfl (by decide) rfl (fun ls hl => ?_)
          refine lv_goto (tgt := 14) hx hb dX0_findLowAndHigh_93 (by decide) ?_
          have e9 : n_lh σ (sd + 1) = (1, σ11) := by subst eσ11 eb9 eσ7 eb5; show f_lhS sd (n_lh σ sd) = _; unfold f_lhS; rw [if_neg c25]
          exact ih3 _ _ _ ⟨by rw [e9]; exact lv_sub hl [1, 0, 2] rfl, by rw [e9]; exact hP, hS⟩
