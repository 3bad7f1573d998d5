set_option maxHeartbeats 4000000 in
set_option maxRecDepth 100000 in
theorem k_X2_coldest (l : Launch) (D : va_G) (cI cJ : ClassId) (am : Nat → Nat) (X Y : Nat) (τ : Nat → Nat → Int32) (ℓ : Nat → Nat → Int64) (hB : 1 ≤ X ∧ X ≤ 10 ∧ 1 ≤ Y ∧ Y ≤ 10) (sd N : Nat) (hsd : sd < 4) (hN : MT X Y (τ, ℓ) N) : wMet l yX2_coldest wsX2_coldest 6 141 D (tY cI cJ) (wM am cI cJ X Y τ ℓ) (wM am cI cJ X Y ((f_mset X Y N (τ, ℓ)).1) ((f_mset X Y N (τ, ℓ)).2)) [.ref (am 6), .int (nI sd)] (some (.int (bO (mCd X Y (f_mset X Y N (τ, ℓ)).1 sd)))) := by
  refine Met.ofW (cc := cX2_coldest) (maxL := 5) (ret := (some .int)) (by decide) rfl ?_
  intro p e s m args below meth c s₁ B hml hv
  obtain ⟨rfl, hP, hK, hD0⟩ := hv
  have hx := B.exec
  have hb := B.bytes
  have hr := B.returns
  have hts := atoms_spec (ws := wsX2_coldest) B.pre
  have hown : s.vm.findClass RX2 = some m.cls := findClass_of_methodNamed B.named
  have hlocks := B.notSynchronized
  have inX2 : ∀ w ∈ wsX20, w ∈ wsX2_coldest := by decide +kernel
  have fl33 := hts (.fieldLink RX2 33 "BridgeCellsModel" "high" "I") (by decide +kernel)
  have fl29 := hts (.fieldLink RX2 29 "BridgeCellsModel" "wide" "I") (by decide +kernel)
  have cn86 := hts (.constant RX2 86 (-1000000)) (by decide +kernel)
  have hl := lv_entry ([.ref (am 6), .int (nI sd)]) (n := 5) (Nat.le_of_ble_eq_true rfl)
  rw [lg_entry_eq]
  generalize (lg_sl ([.ref (am 6), .int (nI sd)]) ++ List.replicate (5 - (lg_sl ([.ref (am 6), .int (nI sd)])).length) Slot.unset).toArray = ls at hl ⊢
  have hl : lv_has ls 5 [(0, .ref (am 6)), (1, .int (nI sd))] := hl
  have hD := aw_D hD0
  generalize hAe : aw (wM am cI cJ X Y τ ℓ) = A at hD ⊢
  have hS : va_S A s.heap s.heap [] := va_S.rf
  have hc9 := cA_le (sd := sd) hB
  refine lv_aload_n hx hb dX2_coldest_0 rfl (lv_at hl 0 rfl) ?_
  refine w_V (A := A) ⟨hx, hb, hml, hown, hts⟩ (k_X2_settle l D cI cJ am X Y τ ℓ hB N hN) (cwV 0 hts gX2_coldest_X2_settle rfl rfl rfl (by decide +kernel) ⟨Nat.le_of_ble_eq_true rfl, Nat.le_of_ble_eq_true rfl⟩) ([]) ([]) hP hD hS hK (va_recv hK hP (ci := 2) (q0 := 0) rfl rfl) rfl hl.1 rfl (Nat.le_of_ble_eq_true rfl) dX2_coldest_1 (Nat.zero_le _) (Nat.zero_le _) (fun H locs hP hS => ?_)
  have hP : va_P D vwCl (wM am cI cJ X Y ((f_mset X Y N (τ, ℓ)).1) ((f_mset X Y N (τ, ℓ)).2)) H := hP
  have hD : va_D A (wM am cI cJ X Y ((f_mset X Y N (τ, ℓ)).1) ((f_mset X Y N (τ, ℓ)).2)) := wM_D hD _ _
  refine lv_iload_n hx hb dX2_coldest_4 rfl (lv_at hl 1 rfl) ?_
  refine lv_iconst (v := 2) hx hb dX2_coldest_5 (by decide) ?_
  refine lv_irem hx hb dX2_coldest_6 (by decide) ?_
  refine top_eq (y := nI (sd % 2)) (mod2 hsd) ?_
  refine W_jn (β := Int32) (fun b => b = nI (cAlong X Y sd)) (fun b => F0 m 21 ls [.int b]) (fun jn => ?_) (fun b eb => ?_)
  · -- how many
    refine lv_if_ne (tgt := 17) hx hb dX2_coldest_7 (by decide) (fun c7 => ?_) (fun c7 => ?_)
    · -- 17
      refine lv_aload_n hx hb dX2_coldest_17 rfl (lv_at hl 0 rfl) ?_
      refine va_get (D := D) (cl := vwCl) (ci := 2) (v := .int (nI Y)) (C := RX2) (T := TX2) (N := 15) hx hb hts inX2 hown hK hP 0 rfl rfl 1 (by decide) fl33 (fun _ h9 => h9) rfl dX2_coldest_18 ?_
      exact jn _ (cA_o hsd c7)
    · -- 10
      refine lv_aload_n hx hb dX2_coldest_10 rfl (lv_at hl 0 rfl) ?_
      refine va_get (D := D) (cl := vwCl) (ci := 2) (v := .int (nI X)) (C := RX2) (T := TX2) (N := 15) hx hb hts inX2 hown hK hP 0 rfl rfl 0 (by decide) fl29 (fun _ h9 => h9) rfl dX2_coldest_11 ?_
      refine lv_goto (tgt := 21) hx hb dX2_coldest_14 (by decide) ?_
      exact jn _ (cA_e hsd c7)
  · -- on
    subst eb
    refine lv_istore_n (lv' := [(2, .int (nI (cAlong X Y sd))), (0, .ref (am 6)), (1, .int (nI sd))]) hx hb dX2_coldest_21 rfl hl (by decide) rfl (fun ls hl => ?_)
    refine lv_iconst (v := bO none) hx hb dX2_coldest_22 (by decide) ?_
    refine lv_istore_n (lv' := [(3, .int (bO none)), (2, .int (nI (cAlong X Y sd))), (0, .ref (am 6)), (1, .int (nI sd))]) hx hb dX2_coldest_23 rfl hl (by decide) rfl (fun ls hl => ?_)
    refine lv_iconst (v := nI 0) hx hb dX2_coldest_24 (by decide) ?_
    refine lv_istore (lv' := [(4, .int (nI 0)), (3, .int (bO none)), (2, .int (nI (cAlong X Y sd))), (0, .ref (am 6)), (1, .int (nI sd))]) hx hb dX2_coldest_25 hl (by decide) rfl (fun ls hl => ?_)
    refine W_lr (fun k ls => lv_has ls 5 [(3, .int (bO (n_mcd X Y ((f_mset X Y N (τ, ℓ)).1) sd k))), (4, .int (nI k)), (0, .ref (am 6)), (1, .int (nI sd)), (2, .int (nI (cAlong X Y sd)))]) (cAlong X Y sd) 0 (Nat.zero_le _) (lv_sub hl [1, 0, 3, 4, 2] rfl) (fun ls hl => ?_) (fun k ls hk hl ih1 => ?_)
    · -- behind
      refine lv_iload hx hb dX2_coldest_27 (lv_at hl 1 rfl) ?_
      refine lv_iload_n hx hb dX2_coldest_29 rfl (lv_at hl 4 rfl) ?_
      refine lv_icmp_ge (tgt := 74) hx hb dX2_coldest_30 (by decide) (fun _ => ?_) (fun c9 => False.elim (c9 (nI_le (Nat.le_refl _) (by omega))))
      refine lv_iload_n hx hb dX2_coldest_74 rfl (lv_at hl 0 rfl) ?_
      exact W.iret hx hb hr (fun t ht _ => ⟨rfl, by rw [ht]; exact hP, by rw [hAe]; exact hS.F ht⟩) hS.2.2 dX2_coldest_75
    · -- one round
      refine lv_iload hx hb dX2_coldest_27 (lv_at hl 1 rfl) ?_
      refine lv_iload_n hx hb dX2_coldest_29 rfl (lv_at hl 4 rfl) ?_
      refine lv_icmp_ge (tgt := 74) hx hb dX2_coldest_30 (by decide) (fun c9 => False.elim (nI_ge hk (by omega) c9)) (fun _ => ?_)
      refine lv_aload_n hx hb dX2_coldest_33 rfl (lv_at hl 2 rfl) ?_
      refine lv_iload_n hx hb dX2_coldest_34 rfl (lv_at hl 3 rfl) ?_
      refine lv_iload hx hb dX2_coldest_35 (lv_at hl 1 rfl) ?_
      refine r_V ⟨hx, hb, hml, hown, hts⟩ (k_X2_faceOf l D cI cJ am X Y ((f_mset X Y N (τ, ℓ)).1) ((f_mset X Y N (τ, ℓ)).2) hB sd k (hsd) (hk)) (cwV 2 hts gX2_coldest_X2_faceOf rfl rfl rfl (by decide +kernel) ⟨Nat.le_of_ble_eq_true rfl, Nat.le_of_ble_eq_true rfl⟩) hP hK (va_recv hK hP (ci := 2) (q0 := 0) rfl rfl) rfl hl.1 rfl (Nat.le_of_ble_eq_true rfl) dX2_coldest_37 (Nat.zero_le _) (Nat.zero_le _) ?_
      refine lv_ldc hx hb hown cn86 dX2_coldest_40 ?_
      refine lv_icmp_eq (tgt := 68) hx hb dX2_coldest_42 (by decide) (fun c42 => ?_) (fun c42 => ?_)
      · -- 68
        refine a_inc hx hb (k := 1) (lv' := [(4, .int (nI (k + 1))), (3, .int (bO (n_mcd X Y ((f_mset X Y N (τ, ℓ)).1) sd k))), (0, .ref (am 6)), (1, .int (nI sd)), (2, .int (nI (cAlong X Y sd)))]) k dX2_coldest_68 hl rfl (by decide) rfl (fun ls hl => ?_)
        refine lv_goto (tgt := 27) hx hb dX2_coldest_71 (by decide) ?_
        have e9 : n_mcd X Y ((f_mset X Y N (τ, ℓ)).1) sd (k + 1) = n_mcd X Y ((f_mset X Y N (τ, ℓ)).1) sd k := by rw [n_mcd_s]; unfold coldG; rw [if_pos c42]
        exact ih1 _ (by rw [e9]; exact lv_sub hl [1, 0, 2, 3, 4] rfl)
      · -- 45
        rcases hq : n_mcd X Y ((f_mset X Y N (τ, ℓ)).1) sd k with _ | q
        · -- none
          rw [hq] at hl
          have hl : lv_has ls 5 [(3, .int (bO none)), (4, .int (nI k)), (0, .ref (am 6)), (1, .int (nI sd)), (2, .int (nI (cAlong X Y sd)))] := hl
          refine lv_iload_n hx hb dX2_coldest_45 rfl (lv_at hl 0 rfl) ?_
          refine lv_if_lt (tgt := 65) hx hb dX2_coldest_46 (by decide) (fun _ => ?_) (fun c9 => absurd (by decide) c9)
          refine lv_iload hx hb dX2_coldest_65 (lv_at hl 1 rfl) ?_
          refine lv_istore_n (lv' := [(3, .int (nI k)), (4, .int (nI k)), (0, .ref (am 6)), (1, .int (nI sd)), (2, .int (nI (cAlong X Y sd)))]) hx hb dX2_coldest_67 rfl hl (by decide) rfl (fun ls hl => ?_)
          refine a_inc hx hb (k := 1) (lv' := [(4, .int (nI (k + 1))), (3, .int (nI k)), (0, .ref (am 6)), (1, .int (nI sd)), (2, .int (nI (cAlong X Y sd)))]) k dX2_coldest_68 hl rfl (by decide) rfl (fun ls hl => ?_)
          refine lv_goto (tgt := 27) hx hb dX2_coldest_71 (by decide) ?_
          have e9 : n_mcd X Y ((f_mset X Y N (τ, ℓ)).1) sd (k + 1) = some k := by rw [n_mcd_s]; rw [hq]; unfold coldG; rw [if_neg c42]
          exact ih1 _ (by rw [e9]; exact lv_sub hl [1, 0, 2, 3, 4] rfl)
        · -- some
          rw [hq] at hl
          have hl : lv_has ls 5 [(3, .int (nI q)), (4, .int (nI k)), (0, .ref (am 6)), (1, .int (nI sd)), (2, .int (nI (cAlong X Y sd)))] := hl
          have hq2 : q < cAlong X Y sd := Nat.lt_trans (mcd_lt hq) hk
          refine lv_iload_n hx hb dX2_coldest_45 rfl (lv_at hl 0 rfl) ?_
          refine lv_if_lt (tgt := 65) hx hb dX2_coldest_46 (by decide) (fun c9 => absurd c9 (nI_pos (by omega))) (fun _ => ?_)
          refine lv_aload_n hx hb dX2_coldest_49 rfl (lv_at hl 2 rfl) ?_
          refine lv_iload_n hx hb dX2_coldest_50 rfl (lv_at hl 3 rfl) ?_
          refine lv_iload hx hb dX2_coldest_51 (lv_at hl 1 rfl) ?_
          refine r_V ⟨hx, hb, hml, hown, hts⟩ (k_X2_faceOf l D cI cJ am X Y ((f_mset X Y N (τ, ℓ)).1) ((f_mset X Y N (τ, ℓ)).2) hB sd k (hsd) (hk)) (cwV 2 hts gX2_coldest_X2_faceOf rfl rfl rfl (by decide +kernel) ⟨Nat.le_of_ble_eq_true rfl, Nat.le_of_ble_eq_true rfl⟩) hP hK (va_recv hK hP (ci := 2) (q0 := 0) rfl rfl) rfl hl.1 rfl (Nat.le_of_ble_eq_true rfl) dX2_coldest_53 (Nat.zero_le _) (Nat.zero_le _) ?_
          refine lv_aload_n hx hb dX2_coldest_56 rfl (lv_at hl 2 rfl) ?_
          refine lv_iload_n hx hb dX2_coldest_57 rfl (lv_at hl 3 rfl) ?_
          refine lv_iload_n hx hb dX2_coldest_58 rfl (lv_at hl 0 rfl) ?_
          refine r_V ⟨hx, hb, hml, hown, hts⟩ (k_X2_faceOf l D cI cJ am X Y ((f_mset X Y N (τ, ℓ)).1) ((f_mset X Y N (τ, ℓ)).2) hB sd q (hsd) (hq2)) (cwV 2 hts gX2_coldest_X2_faceOf rfl rfl rfl (by decide +kernel) ⟨Nat.le_of_ble_eq_true rfl, Nat.le_of_ble_eq_true rfl⟩) hP hK (va_recv hK hP (ci := 2) (q0 := 0) rfl rfl) rfl hl.1 rfl (Nat.le_of_ble_eq_true rfl) dX2_coldest_59 (Nat.zero_le _) (Nat.zero_le _) ?_
          refine lv_icmp_ge (tgt := 68) hx hb dX2_coldest_62 (by decide) (fun c62 => ?_) (fun c62 => ?_)
          · -- 68
            refine a_inc hx hb (k := 1) (lv' := [(4, .int (nI (k + 1))), (3, .int (nI q)), (0, .ref (am 6)), (1, .int (nI sd)), (2, .int (nI (cAlong X Y sd)))]) k dX2_coldest_68 hl rfl (by decide) rfl (fun ls hl => ?_)
            refine lv_goto (tgt := 27) hx hb dX2_coldest_71 (by decide) ?_
            have e9 : n_mcd X Y ((f_mset X Y N (τ, ℓ)).1) sd (k + 1) = some q := by rw [n_mcd_s]; rw [hq]; unfold coldG; rw [if_neg c42]; simp only; rw [if_pos c62]
            exact ih1 _ (by rw [e9]; exact lv_sub hl [1, 0, 2, 3, 4] rfl)
          · -- 65
            refine lv_iload hx hb dX2_coldest_65 (lv_at hl 1 rfl) ?_
            refine lv_istore_n (lv' := [(3, .int (nI k)), (4, .int (nI k)), (0, .ref (am 6)), (1, .int (nI sd)), (2, .int (nI (cAlong X Y sd)))]) hx hb dX2_coldest_67 rfl hl (by decide) rfl (fun ls hl => ?_)
            refine a_inc hx hb (k := 1) (lv' := [(4, .int (nI (k + 1))), (3, .int (nI k)), (0, .ref (am 6)), (1, .int (nI sd)), (2, .int (nI (cAlong X Y sd)))]) k dX2_coldest_68 hl rfl (by decide) rfl (fun ls hl => ?_)
            refine lv_goto (tgt := 27) hx hb dX2_coldest_71 (by decide) ?_
            have e9 : n_mcd X Y ((f_mset X Y N (τ, ℓ)).1) sd (k + 1) = some k := by rw [n_mcd_s]; rw [hq]; unfold coldG; rw [if_neg c42]; simp only; rw [if_neg c62]
            exact ih1 _ (by rw [e9]; exact lv_sub hl [1, 0, 2, 3, 4] rfl)
