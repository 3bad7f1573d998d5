set_option maxHeartbeats 4000000 in
set_option maxRecDepth 100000 in
theorem k_X0_settle (l : Launch) (D : va_G) (cI cJ : ClassId) (ad : Nat → Nat) (X Y : Nat) (σ : Nat → Nat → Int32) (hB : 1 ≤ X ∧ X ≤ 10 ∧ 1 ≤ Y ∧ Y ≤ 10)   : wMet l yX0_settle wsX0_settle 2 47 D (tY cI cJ) (wS ad cI X Y σ) (wS ad cI X Y (f_settle X Y σ)) [.ref (ad 8)] none := by
  refine Met.ofW (cc := cX0_settle) (maxL := 4) (ret := none) (by decide) rfl ?_
  intro p e s m args below meth c s₁ B hml hv
  obtain ⟨rfl, hP, hK, hD0⟩ := hv
  have hx := B.exec
  have hb := B.bytes
  have hr := B.returns
  have hts := atoms_spec (ws := wsX0_settle) B.pre
  have hown : s.vm.findClass RX0 = some m.cls := findClass_of_methodNamed B.named
  have hlocks := B.notSynchronized
  have inX0 : ∀ w ∈ wsX00, w ∈ wsX0_settle := by decide +kernel
  have fl25 := hts (.fieldLink RX0 25 "BridgeCells$Section" "settled" "Z") (by decide +kernel)
  have fl29 := hts (.fieldLink RX0 29 "BridgeCells$Section" "columns" "I") (by decide +kernel)
  have fl32 := hts (.fieldLink RX0 32 "BridgeCells$Section" "rows" "I") (by decide +kernel)
  have fl22 := hts (.fieldLink RX0 22 "BridgeCells$Section" "high" "I") (by decide +kernel)
  have fl18 := hts (.fieldLink RX0 18 "BridgeCells$Section" "low" "I") (by decide +kernel)
  have hl := lv_entry ([.ref (ad 8)]) (n := 4) (Nat.le_of_ble_eq_true rfl)
  rw [lg_entry_eq]
  generalize (lg_sl ([.ref (ad 8)]) ++ List.replicate (4 - (lg_sl ([.ref (ad 8)])).length) Slot.unset).toArray = ls at hl ⊢
  have hl : lv_has ls 4 [(0, .ref (ad 8))] := hl
  have hD := aw_D hD0
  generalize hAe : aw (wS ad cI X Y σ) = A at hD ⊢
  have hS : va_S A s.heap s.heap [] := va_S.rf
  refine lv_aload_n hx hb dX0_settle_0 rfl (lv_at hl 0 rfl) ?_
  refine va_get (D := D) (cl := vwCl) (ci := 0) (v := .int (σ 8 2)) (C := RX0) (T := TX0) (N := 14) hx hb hts inX0 hown hK hP 0 rfl rfl 13 (by decide) fl25 (fun _ h9 => h9) rfl dX0_settle_1 ?_
  refine lv_if_eq (tgt := 8) hx hb dX0_settle_4 (by decide) (fun c4 => ?_) (fun c4 => ?_)
  · -- not settled
    refine lv_aload_n hx hb dX0_settle_8 rfl (lv_at hl 0 rfl) ?_
    refine w_V (A := A) ⟨hx, hb, hml, hown, hts⟩ (k_X0_findLowAndHigh l D cI cJ ad X Y σ hB  ) (cwV 0 hts gX0_settle_X0_findLowAndHigh rfl rfl rfl (by decide +kernel) ⟨Nat.le_of_ble_eq_true rfl, Nat.le_of_ble_eq_true rfl⟩) ([]) ([]) hP hD hS hK (va_recv hK hP (ci := 0) (q0 := 0) rfl rfl) rfl hl.1 rfl (Nat.le_of_ble_eq_true rfl) dX0_settle_9 (Nat.zero_le _) (Nat.zero_le _) (fun H locs hP hS => ?_)
    have hP : va_P D vwCl (wS ad cI X Y (f_lh σ)) H := hP
    have hD : va_D A (wS ad cI X Y (f_lh σ)) := wS_D hD _
    refine lv_aload_n hx hb dX0_settle_12 rfl (lv_at hl 0 rfl) ?_
    refine w_V (A := A) ⟨hx, hb, hml, hown, hts⟩ (k_X0_joinNeighbours l D cI cJ ad X Y (f_lh σ) hB  ) (cwV 0 hts gX0_settle_X0_joinNeighbours rfl rfl rfl (by decide +kernel) ⟨Nat.le_of_ble_eq_true rfl, Nat.le_of_ble_eq_true rfl⟩) ([]) ([]) hP hD hS hK (va_recv hK hP (ci := 0) (q0 := 0) rfl rfl) rfl hl.1 rfl (Nat.le_of_ble_eq_true rfl) dX0_settle_13 (Nat.zero_le _) (Nat.zero_le _) (fun H locs hP hS => ?_)
    have hP : va_P D vwCl (wS ad cI X Y (f_jn X Y (f_lh σ))) H := hP
    have hD : va_D A (wS ad cI X Y (f_jn X Y (f_lh σ))) := wS_D hD _
    refine lv_aload_n hx hb dX0_settle_16 rfl (lv_at hl 0 rfl) ?_
    refine w_V (A := A) ⟨hx, hb, hml, hown, hts⟩ (k_X0_startAtLow l D cI cJ ad X Y (f_jn X Y (f_lh σ)) hB  ) (cwV 0 hts gX0_settle_X0_startAtLow rfl rfl rfl (by decide +kernel) ⟨Nat.le_of_ble_eq_true rfl, Nat.le_of_ble_eq_true rfl⟩) ([]) ([]) hP hD hS hK (va_recv hK hP (ci := 0) (q0 := 0) rfl rfl) rfl hl.1 rfl (Nat.le_of_ble_eq_true rfl) dX0_settle_17 (Nat.zero_le _) (Nat.zero_le _) (fun H locs hP hS => ?_)
    have hP : va_P D vwCl (wS ad cI X Y (f_start X Y (f_jn X Y (f_lh σ)))) H := hP
    have hD : va_D A (wS ad cI X Y (f_start X Y (f_jn X Y (f_lh σ)))) := wS_D hD _
    have hP : va_P D vwCl (wS ad cI X Y (f_pre X Y σ)) H := hP
    have hD : va_D A (wS ad cI X Y (f_pre X Y σ)) := wS_D hD _
    refine lv_aload_n hx hb dX0_settle_20 rfl (lv_at hl 0 rfl) ?_
    refine va_get (D := D) (cl := vwCl) (ci := 0) (v := .int (nI X)) (C := RX0) (T := TX0) (N := 14) hx hb hts inX0 hown hK hP 0 rfl rfl 0 (by decide) fl29 (fun _ h9 => h9) rfl dX0_settle_21 ?_
    refine lv_aload_n hx hb dX0_settle_24 rfl (lv_at hl 0 rfl) ?_
    refine va_get (D := D) (cl := vwCl) (ci := 0) (v := .int (nI Y)) (C := RX0) (T := TX0) (N := 14) hx hb hts inX0 hown hK hP 0 rfl rfl 1 (by decide) fl32 (fun _ h9 => h9) rfl dX0_settle_25 ?_
    refine lv_imul hx hb dX0_settle_28 ?_
    refine top_eq (y := nI (X * Y)) (pk_mul X Y) ?_
    refine lv_aload_n hx hb dX0_settle_29 rfl (lv_at hl 0 rfl) ?_
    refine va_get (D := D) (cl := vwCl) (ci := 0) (v := .int ((f_pre X Y σ) 8 1)) (C := RX0) (T := TX0) (N := 14) hx hb hts inX0 hown hK hP 0 rfl rfl 12 (by decide) fl22 (fun _ h9 => h9) rfl dX0_settle_30 ?_
    refine lv_aload_n hx hb dX0_settle_33 rfl (lv_at hl 0 rfl) ?_
    refine va_get (D := D) (cl := vwCl) (ci := 0) (v := .int ((f_pre X Y σ) 8 0)) (C := RX0) (T := TX0) (N := 14) hx hb hts inX0 hown hK hP 0 rfl rfl 11 (by decide) fl18 (fun _ h9 => h9) rfl dX0_settle_34 ?_
    refine lv_isub hx hb dX0_settle_37 ?_
    refine lv_imul hx hb dX0_settle_38 ?_
    refine lv_iconst (v := 1) hx hb dX0_settle_39 (by decide) ?_
    refine lv_iadd hx hb dX0_settle_40 ?_
    refine lv_istore_n (lv' := [(1, .int (((nI (X * Y)) * (((f_pre X Y σ) 8 1) - ((f_pre X Y σ) 8 0))) + 1)), (0, .ref (ad 8))]) hx hb dX0_settle_41 rfl hl (by decide) rfl (fun ls hl => ?_)
    refine lv_iconst (v := 1) hx hb dX0_settle_42 (by decide) ?_
    refine lv_istore_n (lv' := [(2, .int 1), (1, .int (((nI (X * Y)) * (((f_pre X Y σ) 8 1) - ((f_pre X Y σ) 8 0))) + 1)), (0, .ref (ad 8))]) hx hb dX0_settle_43 rfl hl (by decide) rfl (fun ls hl => ?_)
    refine lv_iconst (v := nI 0) hx hb dX0_settle_44 (by decide) ?_
    refine lv_istore_n (lv' := [(3, .int (nI 0)), (2, .int 1), (1, .int (((nI (X * Y)) * (((f_pre X Y σ) 8 1) - ((f_pre X Y σ) 8 0))) + 1)), (0, .ref (ad 8))]) hx hb dX0_settle_45 rfl hl (by decide) rfl (fun ls hl => ?_)
    refine W_jw (β := Array Slot) (fun ls H locs => lv_has ls 4 [(0, .ref (ad 8))] ∧ va_P D vwCl (wS ad cI X Y (n_sw X Y (f_pre X Y σ) (f_most X Y (f_pre X Y σ)).toNatClampNeg).2) H ∧ va_S A s.heap H locs) (fun ls => F0 m 66 ls []) (fun jx => ?_) (fun ls H locs hq => ?_)
    · -- the sweeps
      refine W_lw (fun i ls H locs => lv_has ls 4 [(2, .int ((n_sw X Y (f_pre X Y σ) i).1)), (3, .int (nI i)), (0, .ref (ad 8)), (1, .int (f_most X Y (f_pre X Y σ)))] ∧ va_P D vwCl (wS ad cI X Y ((n_sw X Y (f_pre X Y σ) i).2)) H ∧ va_S A s.heap H locs) ((f_most X Y (f_pre X Y σ)).toNatClampNeg) (0) (Nat.zero_le _) ⟨lv_sub hl [1, 0, 3, 2] rfl, hP, hS⟩ (fun ls H locs hq => ?_) (fun i ls H locs hi hq ih1 => ?_)
      · -- behind the loop
        obtain ⟨hl, hP, hS⟩ := hq
        have hD : va_D A (wS ad cI X Y ((n_sw X Y (f_pre X Y σ) ((f_most X Y (f_pre X Y σ)).toNatClampNeg)).2)) := wS_D hD _
        refine lv_iload_n hx hb dX0_settle_46 rfl (lv_at hl 1 rfl) ?_
        refine lv_iload_n hx hb dX0_settle_47 rfl (lv_at hl 3 rfl) ?_
        refine lv_icmp_ge (tgt := 66) hx hb dX0_settle_48 (by decide) (fun _ => ?_) (fun c9 => False.elim (c9 (cl_T _)))
        exact jx _ _ _ ⟨lv_sub hl [2] rfl, hP, hS⟩
      · -- one round
        obtain ⟨hl, hP, hS⟩ := hq
        have hD : va_D A (wS ad cI X Y ((n_sw X Y (f_pre X Y σ) i).2)) := wS_D hD _
        refine lv_iload_n hx hb dX0_settle_46 rfl (lv_at hl 1 rfl) ?_
        refine lv_iload_n hx hb dX0_settle_47 rfl (lv_at hl 3 rfl) ?_
        refine lv_icmp_ge (tgt := 66) hx hb dX0_settle_48 (by decide) (fun c9 => False.elim (cl_F hi c9)) (fun _ => ?_)
        refine lv_iload_n hx hb dX0_settle_51 rfl (lv_at hl 0 rfl) ?_
        refine lv_if_eq (tgt := 66) hx hb dX0_settle_52 (by decide) (fun c52 => ?_) (fun c52 => ?_)
        · -- none has risen
          exact jx _ _ _ ⟨lv_sub hl [2] rfl, by rw [sw_stop c52 _ (Nat.le_of_lt hi)]; exact hP, hS⟩
        · -- one sweep more
          refine lv_aload_n hx hb dX0_settle_55 rfl (lv_at hl 2 rfl) ?_
          refine w_V (A := A) ⟨hx, hb, hml, hown, hts⟩ (k_X0_raiseAll l D cI cJ ad X Y ((n_sw X Y (f_pre X Y σ) i).2) hB  ) (cwV 0 hts gX0_settle_X0_raiseAll rfl rfl rfl (by decide +kernel) ⟨Nat.le_of_ble_eq_true rfl, Nat.le_of_ble_eq_true rfl⟩) ([]) ([]) hP hD hS hK (va_recv hK hP (ci := 0) (q0 := 0) rfl rfl) rfl hl.1 rfl (Nat.le_of_ble_eq_true rfl) dX0_settle_56 (Nat.zero_le _) (Nat.zero_le _) (fun H locs hP hS => ?_)
          have hP : va_P D vwCl (wS ad cI X Y ((n_ra X ((n_sw X Y (f_pre X Y σ) i).2) Y).2)) H := hP
          have hD : va_D A (wS ad cI X Y ((n_ra X ((n_sw X Y (f_pre X Y σ) i).2) Y).2)) := wS_D hD _
          refine lv_istore_n (lv' := [(2, .int ((n_ra X ((n_sw X Y (f_pre X Y σ) i).2) Y).1)), (3, .int (nI i)), (0, .ref (ad 8)), (1, .int (f_most X Y (f_pre X Y σ)))]) hx hb dX0_settle_59 rfl hl (by decide) rfl (fun ls hl => ?_)
          refine a_inc hx hb (k := 1) (lv' := [(3, .int (nI (i + 1))), (2, .int ((n_ra X ((n_sw X Y (f_pre X Y σ) i).2) Y).1)), (0, .ref (ad 8)), (1, .int (f_most X Y (f_pre X Y σ)))]) i dX0_settle_60 hl rfl (by decide) rfl (fun ls hl => ?_)
          refine lv_goto (tgt := 46) hx hb dX0_settle_63 (by decide) ?_
          have e9 : n_sw X Y (f_pre X Y σ) (i + 1) = n_ra X (n_sw X Y (f_pre X Y σ) i).2 Y := if_neg c52
          exact ih1 _ _ _ ⟨by rw [e9]; exact lv_sub hl [1, 0, 2, 3] rfl, by rw [e9]; exact hP, hS⟩
    · -- the end
      obtain ⟨hl, hP, hS⟩ := hq
      have hD : va_D A (wS ad cI X Y ((n_sw X Y (f_pre X Y σ) (f_most X Y (f_pre X Y σ)).toNatClampNeg).2)) := wS_D hD _
      refine lv_aload_n hx hb dX0_settle_66 rfl (lv_at hl 0 rfl) ?_
      refine lv_iconst (v := 1) hx hb dX0_settle_67 (by decide) ?_
      refine va_put (D := D) (cl := vwCl) (ci := 0) (v := .int 1) (ty := .boolean) (C := RX0) (T := TX0) (N := 14) hx hb hts inX0 tyX0 tyX0_ok nmX0 hown hK hP hD hS 0 rfl rfl 13 (by decide) fl25 (fun _ h9 => h9) rfl (by decide +kernel) rfl rfl (Nat.le_of_ble_eq_true rfl) dX0_settle_68 (fun H locs hP _ hS => ?_)
      obtain ⟨σ2, eσ2⟩ : ∃ z, z = up2 ((n_sw X Y (f_pre X Y σ) (f_most X Y (f_pre X Y σ)).toNatClampNeg).2) 8 2 1 := ⟨_, rfl⟩
      replace hP : va_P D vwCl (wS ad cI X Y σ2) H := by rw [eσ2]; exact hP
      have hP : va_P D vwCl (wS ad cI X Y σ2) H := hP
      have hD : va_D A (wS ad cI X Y σ2) := wS_D hD _
      have e9 : f_settle X Y σ = σ2 := by subst eσ2; unfold f_settle; rw [if_pos c4]
      exact W.vret hx hb hr (fun t ht _ => ⟨rfl, by rw [ht]; first | exact hP | (rw [e9]; exact hP), by rw [hAe]; exact hS.F ht⟩) hS.2.2 dX0_settle_71
  · -- settled
    have e9 : f_settle X Y σ = σ := by unfold f_settle; rw [if_neg c4]
    exact W.vret hx hb hr (fun t ht _ => ⟨rfl, by rw [ht]; first | exact hP | (rw [e9]; exact hP), by rw [hAe]; exact hS.F ht⟩) hS.2.2 dX0_settle_7
