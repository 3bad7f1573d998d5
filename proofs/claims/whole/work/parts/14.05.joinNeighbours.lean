set_option maxHeartbeats 4000000 in
set_option maxRecDepth 100000 in
theorem k_X0_joinNeighbours (l : Launch) (D : va_G) (cI cJ : ClassId) (ad : Nat → Nat) (X Y : Nat) (σ : Nat → Nat → Int32) (hB : 1 ≤ X ∧ X ≤ 10 ∧ 1 ≤ Y ∧ Y ≤ 10)   : wMet l yX0_joinNeighbours wsX0_joinNeighbours 1 22 D (tY cI cJ) (wS ad cI X Y σ) (wS ad cI X Y (f_jn X Y σ)) [.ref (ad 8)] none := by
  refine Met.ofW (cc := cX0_joinNeighbours) (maxL := 4) (ret := none) (by decide) rfl ?_
  intro p e s m args below meth c s₁ B hml hv
  obtain ⟨rfl, hP, hK, hD0⟩ := hv
  have hx := B.exec
  have hb := B.bytes
  have hr := B.returns
  have hts := atoms_spec (ws := wsX0_joinNeighbours) B.pre
  have hown : s.vm.findClass RX0 = some m.cls := findClass_of_methodNamed B.named
  have hlocks := B.notSynchronized
  have inX0 : ∀ w ∈ wsX00, w ∈ wsX0_joinNeighbours := by decide +kernel
  have fl32 := hts (.fieldLink RX0 32 "BridgeCells$Section" "rows" "I") (by decide +kernel)
  have fl29 := hts (.fieldLink RX0 29 "BridgeCells$Section" "columns" "I") (by decide +kernel)
  have fl47 := hts (.fieldLink RX0 47 "BridgeCells$Section" "south" "[I") (by decide +kernel)
  have fl38 := hts (.fieldLink RX0 38 "BridgeCells$Section" "conduct" "[I") (by decide +kernel)
  have fl35 := hts (.fieldLink RX0 35 "BridgeCells$Section" "stride" "I") (by decide +kernel)
  have fl44 := hts (.fieldLink RX0 44 "BridgeCells$Section" "east" "[I") (by decide +kernel)
  have hl := lv_entry ([.ref (ad 8)]) (n := 4) (Nat.le_of_ble_eq_true rfl)
  rw [lg_entry_eq]
  generalize (lg_sl ([.ref (ad 8)]) ++ List.replicate (4 - (lg_sl ([.ref (ad 8)])).length) Slot.unset).toArray = ls at hl ⊢
  have hl : lv_has ls 4 [(0, .ref (ad 8))] := hl
  have hD := aw_D hD0
  generalize hAe : aw (wS ad cI X Y σ) = A at hD ⊢
  have hS : va_S A s.heap s.heap [] := va_S.rf
  have hN9 := pl_N hB
  refine lv_iconst (v := nI 0) hx hb dX0_joinNeighbours_0 (by decide) ?_
  refine lv_istore_n (lv' := [(1, .int (nI 0)), (0, .ref (ad 8))]) hx hb dX0_joinNeighbours_1 rfl hl (by decide) rfl (fun ls hl => ?_)
  refine W_lw (fun j ls H locs => lv_has ls 4 [(1, .int (nI j)), (0, .ref (ad 8))] ∧ va_P D vwCl (wS ad cI X Y (f_je X σ j)) H ∧ va_S A s.heap H locs) (Y) (0) (Nat.zero_le _) ⟨lv_sub hl [0, 1] rfl, hP, hS⟩ (fun ls H locs hq => ?_) (fun j ls H locs hj hq ih1 => ?_)
  · -- behind the loop
    obtain ⟨hl, hP, hS⟩ := hq
    have hD : va_D A (wS ad cI X Y (f_je X σ Y)) := wS_D hD _
    refine lv_iload_n hx hb dX0_joinNeighbours_2 rfl (lv_at hl 0 rfl) ?_
    refine lv_aload_n hx hb dX0_joinNeighbours_3 rfl (lv_at hl 1 rfl) ?_
    refine va_get (D := D) (cl := vwCl) (ci := 0) (v := .int (nI Y)) (C := RX0) (T := TX0) (N := 14) hx hb hts inX0 hown hK hP 0 rfl rfl 1 (by decide) fl32 (fun _ h9 => h9) rfl dX0_joinNeighbours_4 ?_
    refine lv_icmp_ge (tgt := 62) hx hb dX0_joinNeighbours_7 (by decide) (fun _ => ?_) (fun c9 => False.elim (c9 (nI_le (Nat.le_refl _) (by omega))))
    refine lv_iconst (v := mI 0) hx hb dX0_joinNeighbours_62 (by decide) ?_
    refine lv_istore_n (lv' := [(1, .int (mI 0)), (0, .ref (ad 8))]) hx hb dX0_joinNeighbours_63 rfl hl (by decide) rfl (fun ls hl => ?_)
    refine W_lw (fun u ls H locs => lv_has ls 4 [(1, .int (mI u)), (0, .ref (ad 8))] ∧ va_P D vwCl (wS ad cI X Y (f_js X (f_je X σ Y) u)) H ∧ va_S A s.heap H locs) (Y + 1) (0) (Nat.zero_le _) ⟨lv_sub hl [0, 1] rfl, hP, hS⟩ (fun ls H locs hq => ?_) (fun u ls H locs hu hq ih2 => ?_)
    · -- behind the loop
      obtain ⟨hl, hP, hS⟩ := hq
      have hD : va_D A (wS ad cI X Y (f_js X (f_je X σ Y) (Y + 1))) := wS_D hD _
      refine lv_iload_n hx hb dX0_joinNeighbours_64 rfl (lv_at hl 0 rfl) ?_
      refine lv_aload_n hx hb dX0_joinNeighbours_65 rfl (lv_at hl 1 rfl) ?_
      refine va_get (D := D) (cl := vwCl) (ci := 0) (v := .int (nI Y)) (C := RX0) (T := TX0) (N := 14) hx hb hts inX0 hown hK hP 0 rfl rfl 1 (by decide) fl32 (fun _ h9 => h9) rfl dX0_joinNeighbours_66 ?_
      refine lv_icmp_ge (tgt := 127) hx hb dX0_joinNeighbours_69 (by decide) (fun _ => ?_) (fun c9 => False.elim (c9 (mI_T (n := Y) (by omega))))
      exact W.vret hx hb hr (fun t ht _ => ⟨rfl, by rw [ht]; exact hP, by rw [hAe]; exact hS.F ht⟩) hS.2.2 dX0_joinNeighbours_127
    · -- one round
      obtain ⟨hl, hP, hS⟩ := hq
      have hD : va_D A (wS ad cI X Y (f_js X (f_je X σ Y) u)) := wS_D hD _
      refine lv_iload_n hx hb dX0_joinNeighbours_64 rfl (lv_at hl 0 rfl) ?_
      refine lv_aload_n hx hb dX0_joinNeighbours_65 rfl (lv_at hl 1 rfl) ?_
      refine va_get (D := D) (cl := vwCl) (ci := 0) (v := .int (nI Y)) (C := RX0) (T := TX0) (N := 14) hx hb hts inX0 hown hK hP 0 rfl rfl 1 (by decide) fl32 (fun _ h9 => h9) rfl dX0_joinNeighbours_66 ?_
      refine lv_icmp_ge (tgt := 127) hx hb dX0_joinNeighbours_69 (by decide) (fun c9 => False.elim (mI_F hu (by omega) c9)) (fun _ => ?_)
      refine lv_iconst (v := nI 0) hx hb dX0_joinNeighbours_72 (by decide) ?_
      refine lv_istore_n (lv' := [(2, .int (nI 0)), (1, .int (mI u)), (0, .ref (ad 8))]) hx hb dX0_joinNeighbours_73 rfl hl (by decide) rfl (fun ls hl => ?_)
      refine W_lw (fun i ls H locs => lv_has ls 4 [(1, .int (mI u)), (2, .int (nI i)), (0, .ref (ad 8))] ∧ va_P D vwCl (wS ad cI X Y (f_jsR X u (f_js X (f_je X σ Y) u) i)) H ∧ va_S A s.heap H locs) (X) (0) (Nat.zero_le _) ⟨lv_sub hl [1, 0, 2] rfl, hP, hS⟩ (fun ls H locs hq => ?_) (fun i ls H locs hi hq ih3 => ?_)
      · -- behind the loop
        obtain ⟨hl, hP, hS⟩ := hq
        have hD : va_D A (wS ad cI X Y (f_jsR X u (f_js X (f_je X σ Y) u) X)) := wS_D hD _
        refine lv_iload_n hx hb dX0_joinNeighbours_74 rfl (lv_at hl 1 rfl) ?_
        refine lv_aload_n hx hb dX0_joinNeighbours_75 rfl (lv_at hl 2 rfl) ?_
        refine va_get (D := D) (cl := vwCl) (ci := 0) (v := .int (nI X)) (C := RX0) (T := TX0) (N := 14) hx hb hts inX0 hown hK hP 0 rfl rfl 0 (by decide) fl29 (fun _ h9 => h9) rfl dX0_joinNeighbours_76 ?_
        refine lv_icmp_ge (tgt := 121) hx hb dX0_joinNeighbours_79 (by decide) (fun _ => ?_) (fun c9 => False.elim (c9 (nI_le (Nat.le_refl _) (by omega))))
        refine lv_iinc (k := 0) (v := mI (u + 1)) (lv' := [(1, .int (mI (u + 1))), (2, .int (nI X)), (0, .ref (ad 8))]) hx hb dX0_joinNeighbours_121 hl rfl (mI_1 u) (by decide) rfl (fun ls hl => ?_)
        refine lv_goto (tgt := 64) hx hb dX0_joinNeighbours_124 (by decide) ?_
        exact ih2 _ _ _ ⟨lv_sub hl [0, 2] rfl, hP, hS⟩
      · -- one round
        obtain ⟨hl, hP, hS⟩ := hq
        have hD : va_D A (wS ad cI X Y (f_jsR X u (f_js X (f_je X σ Y) u) i)) := wS_D hD _
        refine lv_iload_n hx hb dX0_joinNeighbours_74 rfl (lv_at hl 1 rfl) ?_
        refine lv_aload_n hx hb dX0_joinNeighbours_75 rfl (lv_at hl 2 rfl) ?_
        refine va_get (D := D) (cl := vwCl) (ci := 0) (v := .int (nI X)) (C := RX0) (T := TX0) (N := 14) hx hb hts inX0 hown hK hP 0 rfl rfl 0 (by decide) fl29 (fun _ h9 => h9) rfl dX0_joinNeighbours_76 ?_
        refine lv_icmp_ge (tgt := 121) hx hb dX0_joinNeighbours_79 (by decide) (fun c9 => False.elim (nI_ge hi (by omega) c9)) (fun _ => ?_)
        refine lv_aload_n hx hb dX0_joinNeighbours_82 rfl (lv_at hl 2 rfl) ?_
        refine lv_iload_n hx hb dX0_joinNeighbours_83 rfl (lv_at hl 1 rfl) ?_
        refine lv_iload_n hx hb dX0_joinNeighbours_84 rfl (lv_at hl 0 rfl) ?_
        refine r_V ⟨hx, hb, hml, hown, hts⟩ (k_X0_place l D cI cJ ad X Y (f_jsR X u (f_js X (f_je X σ Y) u) i) hB (nI i) (mI u)) (cwV 2 hts gX0_joinNeighbours_X0_place rfl rfl rfl (by decide +kernel) ⟨Nat.le_of_ble_eq_true rfl, Nat.le_of_ble_eq_true rfl⟩) hP hK (va_recv hK hP (ci := 0) (q0 := 0) rfl rfl) rfl hl.1 rfl (Nat.le_of_ble_eq_true rfl) dX0_joinNeighbours_85 (Nat.zero_le _) (Nat.zero_le _) ?_
        refine top_eq (y := nI (plS X i u)) (plS_e X i u) ?_
        refine lv_istore_n (lv' := [(3, .int (nI (plS X i u))), (1, .int (mI u)), (2, .int (nI i)), (0, .ref (ad 8))]) hx hb dX0_joinNeighbours_88 rfl hl (by decide) rfl (fun ls hl => ?_)
        refine lv_aload_n hx hb dX0_joinNeighbours_89 rfl (lv_at hl 3 rfl) ?_
        refine va_get (D := D) (cl := vwCl) (ci := 0) (v := .ref (ad 3)) (C := RX0) (T := TX0) (N := 14) hx hb hts inX0 hown hK hP 0 rfl rfl 6 (by decide) fl47 (fun _ h9 => h9) rfl dX0_joinNeighbours_90 ?_
        refine lv_iload_n hx hb dX0_joinNeighbours_93 rfl (lv_at hl 0 rfl) ?_
        refine lv_aload_n hx hb dX0_joinNeighbours_94 rfl (lv_at hl 3 rfl) ?_
        refine va_get (D := D) (cl := vwCl) (ci := 0) (v := .ref (ad 0)) (C := RX0) (T := TX0) (N := 14) hx hb hts inX0 hown hK hP 0 rfl rfl 3 (by decide) fl38 (fun _ h9 => h9) rfl dX0_joinNeighbours_95 ?_
        refine lv_iload_n hx hb dX0_joinNeighbours_98 rfl (lv_at hl 0 rfl) ?_
        refine a_ld hx hb hK hP 1 0 rfl rfl (plS X i u) (rfl) (by have := plS_lt hi hu; omega) (pl_N hB) dX0_joinNeighbours_99 ?_
        refine lv_aload_n hx hb dX0_joinNeighbours_100 rfl (lv_at hl 3 rfl) ?_
        refine va_get (D := D) (cl := vwCl) (ci := 0) (v := .ref (ad 0)) (C := RX0) (T := TX0) (N := 14) hx hb hts inX0 hown hK hP 0 rfl rfl 3 (by decide) fl38 (fun _ h9 => h9) rfl dX0_joinNeighbours_101 ?_
        refine lv_iload_n hx hb dX0_joinNeighbours_104 rfl (lv_at hl 0 rfl) ?_
        refine lv_aload_n hx hb dX0_joinNeighbours_105 rfl (lv_at hl 3 rfl) ?_
        refine va_get (D := D) (cl := vwCl) (ci := 0) (v := .int (nI (X + 2))) (C := RX0) (T := TX0) (N := 14) hx hb hts inX0 hown hK hP 0 rfl rfl 2 (by decide) fl35 (fun _ h9 => h9) rfl dX0_joinNeighbours_106 ?_
        refine lv_iadd hx hb dX0_joinNeighbours_109 ?_
        refine top_eq (y := nI ((plS X i u) + (X + 2))) (nI_add (plS X i u) (X + 2)) ?_
        refine a_ld hx hb hK hP 1 0 rfl rfl ((plS X i u) + (X + 2)) (rfl) (plS_lt hi hu) (pl_N hB) dX0_joinNeighbours_110 ?_
        refine r_S ⟨hx, hb, hml, hown, hts⟩ (k_X0_couple l D cI cJ ((f_jsR X u (f_js X (f_je X σ Y) u) i) 0 (plS X i u)) ((f_jsR X u (f_js X (f_je X σ Y) u) i) 0 ((plS X i u) + (X + 2)))) (va_cwS 2 hts gX0_joinNeighbours_X0_couple rfl rfl rfl (by decide +kernel) ⟨Nat.le_of_ble_eq_true rfl, Nat.le_of_ble_eq_true rfl⟩) P_nil hK rfl hl.1 rfl (Nat.le_of_ble_eq_true rfl) dX0_joinNeighbours_111 (Nat.zero_le _) (Nat.zero_le _) ?_
        refine a_st hx hb hK hP hD hS 4 0 rfl rfl (plS X i u) (rfl) (by have := plS_lt hi hu; omega) (pl_N hB) dX0_joinNeighbours_114 (fun H locs hP hS => ?_)
        obtain ⟨σ4, eσ4⟩ : ∃ z, z = up2 (f_jsR X u (f_js X (f_je X σ Y) u) i) 3 (plS X i u) (cpl ((f_jsR X u (f_js X (f_je X σ Y) u) i) 0 (plS X i u)) ((f_jsR X u (f_js X (f_je X σ Y) u) i) 0 ((plS X i u) + (X + 2)))) := ⟨_, rfl⟩
        replace hP : va_P D vwCl (wS ad cI X Y σ4) H := by rw [eσ4]; exact hP
        have hP : va_P D vwCl (wS ad cI X Y σ4) H := hP
        have hD : va_D A (wS ad cI X Y σ4) := wS_D hD _
        refine a_inc hx hb (k := 2) (lv' := [(2, .int (nI (i + 1))), (3, .int (nI (plS X i u))), (1, .int (mI u)), (0, .ref (ad 8))]) i dX0_joinNeighbours_115 hl rfl (by decide) rfl (fun ls hl => ?_)
        refine lv_goto (tgt := 74) hx hb dX0_joinNeighbours_118 (by decide) ?_
        subst eσ4
        exact ih3 _ _ _ ⟨lv_sub hl [2, 0, 3] rfl, hP, hS⟩
  · -- one round
    obtain ⟨hl, hP, hS⟩ := hq
    have hD : va_D A (wS ad cI X Y (f_je X σ j)) := wS_D hD _
    refine lv_iload_n hx hb dX0_joinNeighbours_2 rfl (lv_at hl 0 rfl) ?_
    refine lv_aload_n hx hb dX0_joinNeighbours_3 rfl (lv_at hl 1 rfl) ?_
    refine va_get (D := D) (cl := vwCl) (ci := 0) (v := .int (nI Y)) (C := RX0) (T := TX0) (N := 14) hx hb hts inX0 hown hK hP 0 rfl rfl 1 (by decide) fl32 (fun _ h9 => h9) rfl dX0_joinNeighbours_4 ?_
    refine lv_icmp_ge (tgt := 62) hx hb dX0_joinNeighbours_7 (by decide) (fun c9 => False.elim (nI_ge hj (by omega) c9)) (fun _ => ?_)
    refine lv_iconst (v := mI 0) hx hb dX0_joinNeighbours_10 (by decide) ?_
    refine lv_istore_n (lv' := [(2, .int (mI 0)), (1, .int (nI j)), (0, .ref (ad 8))]) hx hb dX0_joinNeighbours_11 rfl hl (by decide) rfl (fun ls hl => ?_)
    refine W_lw (fun t ls H locs => lv_has ls 4 [(1, .int (nI j)), (2, .int (mI t)), (0, .ref (ad 8))] ∧ va_P D vwCl (wS ad cI X Y (f_jeR X j (f_je X σ j) t)) H ∧ va_S A s.heap H locs) (X + 1) (0) (Nat.zero_le _) ⟨lv_sub hl [1, 0, 2] rfl, hP, hS⟩ (fun ls H locs hq => ?_) (fun t ls H locs ht hq ih5 => ?_)
    · -- behind the loop
      obtain ⟨hl, hP, hS⟩ := hq
      have hD : va_D A (wS ad cI X Y (f_jeR X j (f_je X σ j) (X + 1))) := wS_D hD _
      refine lv_iload_n hx hb dX0_joinNeighbours_12 rfl (lv_at hl 1 rfl) ?_
      refine lv_aload_n hx hb dX0_joinNeighbours_13 rfl (lv_at hl 2 rfl) ?_
      refine va_get (D := D) (cl := vwCl) (ci := 0) (v := .int (nI X)) (C := RX0) (T := TX0) (N := 14) hx hb hts inX0 hown hK hP 0 rfl rfl 0 (by decide) fl29 (fun _ h9 => h9) rfl dX0_joinNeighbours_14 ?_
      refine lv_icmp_ge (tgt := 56) hx hb dX0_joinNeighbours_17 (by decide) (fun _ => ?_) (fun c9 => False.elim (c9 (mI_T (n := X) (by omega))))
      refine a_inc hx hb (k := 0) (lv' := [(1, .int (nI (j + 1))), (2, .int (mI (X + 1))), (0, .ref (ad 8))]) j dX0_joinNeighbours_56 hl rfl (by decide) rfl (fun ls hl => ?_)
      refine lv_goto (tgt := 2) hx hb dX0_joinNeighbours_59 (by decide) ?_
      exact ih1 _ _ _ ⟨lv_sub hl [0, 2] rfl, hP, hS⟩
    · -- one round
      obtain ⟨hl, hP, hS⟩ := hq
      have hD : va_D A (wS ad cI X Y (f_jeR X j (f_je X σ j) t)) := wS_D hD _
      refine lv_iload_n hx hb dX0_joinNeighbours_12 rfl (lv_at hl 1 rfl) ?_
      refine lv_aload_n hx hb dX0_joinNeighbours_13 rfl (lv_at hl 2 rfl) ?_
      refine va_get (D := D) (cl := vwCl) (ci := 0) (v := .int (nI X)) (C := RX0) (T := TX0) (N := 14) hx hb hts inX0 hown hK hP 0 rfl rfl 0 (by decide) fl29 (fun _ h9 => h9) rfl dX0_joinNeighbours_14 ?_
      refine lv_icmp_ge (tgt := 56) hx hb dX0_joinNeighbours_17 (by decide) (fun c9 => False.elim (mI_F ht (by omega) c9)) (fun _ => ?_)
      refine lv_aload_n hx hb dX0_joinNeighbours_20 rfl (lv_at hl 2 rfl) ?_
      refine lv_iload_n hx hb dX0_joinNeighbours_21 rfl (lv_at hl 1 rfl) ?_
      refine lv_iload_n hx hb dX0_joinNeighbours_22 rfl (lv_at hl 0 rfl) ?_
      refine r_V ⟨hx, hb, hml, hown, hts⟩ (k_X0_place l D cI cJ ad X Y (f_jeR X j (f_je X σ j) t) hB (mI t) (nI j)) (cwV 2 hts gX0_joinNeighbours_X0_place rfl rfl rfl (by decide +kernel) ⟨Nat.le_of_ble_eq_true rfl, Nat.le_of_ble_eq_true rfl⟩) hP hK (va_recv hK hP (ci := 0) (q0 := 0) rfl rfl) rfl hl.1 rfl (Nat.le_of_ble_eq_true rfl) dX0_joinNeighbours_23 (Nat.zero_le _) (Nat.zero_le _) ?_
      refine top_eq (y := nI (plE X t j)) (plE_e X t j) ?_
      refine lv_istore_n (lv' := [(3, .int (nI (plE X t j))), (1, .int (nI j)), (2, .int (mI t)), (0, .ref (ad 8))]) hx hb dX0_joinNeighbours_26 rfl hl (by decide) rfl (fun ls hl => ?_)
      refine lv_aload_n hx hb dX0_joinNeighbours_27 rfl (lv_at hl 3 rfl) ?_
      refine va_get (D := D) (cl := vwCl) (ci := 0) (v := .ref (ad 2)) (C := RX0) (T := TX0) (N := 14) hx hb hts inX0 hown hK hP 0 rfl rfl 5 (by decide) fl44 (fun _ h9 => h9) rfl dX0_joinNeighbours_28 ?_
      refine lv_iload_n hx hb dX0_joinNeighbours_31 rfl (lv_at hl 0 rfl) ?_
      refine lv_aload_n hx hb dX0_joinNeighbours_32 rfl (lv_at hl 3 rfl) ?_
      refine va_get (D := D) (cl := vwCl) (ci := 0) (v := .ref (ad 0)) (C := RX0) (T := TX0) (N := 14) hx hb hts inX0 hown hK hP 0 rfl rfl 3 (by decide) fl38 (fun _ h9 => h9) rfl dX0_joinNeighbours_33 ?_
      refine lv_iload_n hx hb dX0_joinNeighbours_36 rfl (lv_at hl 0 rfl) ?_
      refine a_ld hx hb hK hP 1 0 rfl rfl (plE X t j) (rfl) (Nat.lt_of_succ_lt (plE_lt ht hj)) (pl_N hB) dX0_joinNeighbours_37 ?_
      refine lv_aload_n hx hb dX0_joinNeighbours_38 rfl (lv_at hl 3 rfl) ?_
      refine va_get (D := D) (cl := vwCl) (ci := 0) (v := .ref (ad 0)) (C := RX0) (T := TX0) (N := 14) hx hb hts inX0 hown hK hP 0 rfl rfl 3 (by decide) fl38 (fun _ h9 => h9) rfl dX0_joinNeighbours_39 ?_
      refine lv_iload_n hx hb dX0_joinNeighbours_42 rfl (lv_at hl 0 rfl) ?_
      refine lv_iconst (v := 1) hx hb dX0_joinNeighbours_43 (by decide) ?_
      refine lv_iadd hx hb dX0_joinNeighbours_44 ?_
      refine top_eq (y := nI ((plE X t j) + 1)) (nI_add (plE X t j) 1) ?_
      refine a_ld hx hb hK hP 1 0 rfl rfl ((plE X t j) + 1) (rfl) (plE_lt ht hj) (pl_N hB) dX0_joinNeighbours_45 ?_
      refine r_S ⟨hx, hb, hml, hown, hts⟩ (k_X0_couple l D cI cJ ((f_jeR X j (f_je X σ j) t) 0 (plE X t j)) ((f_jeR X j (f_je X σ j) t) 0 ((plE X t j) + 1))) (va_cwS 2 hts gX0_joinNeighbours_X0_couple rfl rfl rfl (by decide +kernel) ⟨Nat.le_of_ble_eq_true rfl, Nat.le_of_ble_eq_true rfl⟩) P_nil hK rfl hl.1 rfl (Nat.le_of_ble_eq_true rfl) dX0_joinNeighbours_46 (Nat.zero_le _) (Nat.zero_le _) ?_
      refine a_st hx hb hK hP hD hS 3 0 rfl rfl (plE X t j) (rfl) (Nat.lt_of_succ_lt (plE_lt ht hj)) (pl_N hB) dX0_joinNeighbours_49 (fun H locs hP hS => ?_)
      obtain ⟨σ6, eσ6⟩ : ∃ z, z = up2 (f_jeR X j (f_je X σ j) t) 2 (plE X t j) (cpl ((f_jeR X j (f_je X σ j) t) 0 (plE X t j)) ((f_jeR X j (f_je X σ j) t) 0 ((plE X t j) + 1))) := ⟨_, rfl⟩
      replace hP : va_P D vwCl (wS ad cI X Y σ6) H := by rw [eσ6]; exact hP
      have hP : va_P D vwCl (wS ad cI X Y σ6) H := hP
      have hD : va_D A (wS ad cI X Y σ6) := wS_D hD _
      refine lv_iinc (k := 2) (v := mI (t + 1)) (lv' := [(2, .int (mI (t + 1))), (3, .int (nI (plE X t j))), (1, .int (nI j)), (0, .ref (ad 8))]) hx hb dX0_joinNeighbours_50 hl rfl (mI_1 t) (by decide) rfl (fun ls hl => ?_)
      refine lv_goto (tgt := 12) hx hb dX0_joinNeighbours_53 (by decide) ?_
      subst eσ6
      exact ih5 _ _ _ ⟨lv_sub hl [2, 0, 3] rfl, hP, hS⟩
