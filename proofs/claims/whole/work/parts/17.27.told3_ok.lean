set_option maxHeartbeats 4000000 in
set_option maxRecDepth 100000 in
theorem k_X2_told3_ok (l : Launch) (D : va_G) (cI cJ : ClassId) (am : Nat → Nat) (X Y : Nat) (τ : Nat → Nat → Int32) (ℓ : Nat → Nat → Int64) (hB : 1 ≤ X ∧ X ≤ 10 ∧ 1 ≤ Y ∧ Y ≤ 10) (N : Nat) (hv : ¬ mIn (nI 3) 0 3 = 0) (hN : MT X Y ((up2 τ 5 0 0), ℓ) N) : wMet l yX2_told wsX2_told 6 141 D (tY cI cJ) (wM am cI cJ X Y τ ℓ) (wM am cI cJ X Y ((f_mset X Y N ((up2 τ 5 0 0), ℓ)).1) ((n_td X Y (f_mset X Y N ((up2 τ 5 0 0), ℓ)).1 (f_mset X Y N ((up2 τ 5 0 0), ℓ)).2 Y).2.2)) [.ref (am 6), .int (nI 3)] (some (.long ((n_td X Y (f_mset X Y N ((up2 τ 5 0 0), ℓ)).1 (f_mset X Y N ((up2 τ 5 0 0), ℓ)).2 Y).2.1).toInt64)) := by
  refine Met.ofW (cc := cX2_told) (maxL := 7) (ret := (some .long)) (by decide) rfl ?_
  intro p e s m args below meth c s₁ B hml hv
  obtain ⟨rfl, hP, hK, hD0⟩ := hv
  have hx := B.exec
  have hb := B.bytes
  have hr := B.returns
  have hts := atoms_spec (ws := wsX2_told) B.pre
  have hown : s.vm.findClass RX2 = some m.cls := findClass_of_methodNamed B.named
  have hlocks := B.notSynchronized
  have inX2 : ∀ w ∈ wsX20, w ∈ wsX2_told := by decide +kernel
  have fl33 := hts (.fieldLink RX2 33 "BridgeCellsModel" "high" "I") (by decide +kernel)
  have fl29 := hts (.fieldLink RX2 29 "BridgeCellsModel" "wide" "I") (by decide +kernel)
  have fl7 := hts (.fieldLink RX2 7 "BridgeCellsModel" "leads" "[I") (by decide +kernel)
  have fl13 := hts (.fieldLink RX2 13 "BridgeCellsModel" "warm" "[I") (by decide +kernel)
  have fl63 := hts (.fieldLink RX2 63 "BridgeCellsModel" "weights" "J") (by decide +kernel)
  have hl := lv_entry ([.ref (am 6), .int (nI 3)]) (n := 7) (Nat.le_of_ble_eq_true rfl)
  rw [lg_entry_eq]
  generalize (lg_sl ([.ref (am 6), .int (nI 3)]) ++ List.replicate (7 - (lg_sl ([.ref (am 6), .int (nI 3)])).length) Slot.unset).toArray = ls at hl ⊢
  have hl : lv_has ls 7 [(0, .ref (am 6)), (1, .int (nI 3))] := hl
  have hD := aw_D hD0
  generalize hAe : aw (wM am cI cJ X Y τ ℓ) = A at hD ⊢
  have hS : va_S A s.heap s.heap [] := va_S.rf
  refine lv_aload_n hx hb dX2_told_0 rfl (lv_at hl 0 rfl) ?_
  refine lv_iload_n hx hb dX2_told_1 rfl (lv_at hl 1 rfl) ?_
  refine lv_iconst (v := 0) hx hb dX2_told_2 (by decide) ?_
  refine lv_iconst (v := 3) hx hb dX2_told_3 (by decide) ?_
  refine r_S ⟨hx, hb, hml, hown, hts⟩ (k_X2_in l D cI cJ (nI 3) 0 3) (va_cwS 3 hts gX2_told_X2_in rfl rfl rfl (by decide +kernel) ⟨Nat.le_of_ble_eq_true rfl, Nat.le_of_ble_eq_true rfl⟩) P_nil hK rfl hl.1 rfl (Nat.le_of_ble_eq_true rfl) dX2_told_4 (Nat.zero_le _) (Nat.zero_le _) ?_
  refine w_V (A := A) ⟨hx, hb, hml, hown, hts⟩ (k_X2_may l D cI cJ am X Y τ ℓ hB (mIn (nI 3) 0 3) (mIn_n _ _ _)) (cwV 1 hts gX2_told_X2_may rfl rfl rfl (by decide +kernel) ⟨Nat.le_of_ble_eq_true rfl, Nat.le_of_ble_eq_true rfl⟩) ([]) ([]) hP hD hS hK (va_recv hK hP (ci := 2) (q0 := 0) rfl rfl) rfl hl.1 rfl (Nat.le_of_ble_eq_true rfl) dX2_told_7 (Nat.zero_le _) (Nat.zero_le _) (fun H locs hP hS => ?_)
  have hP : va_P D vwCl (wM am cI cJ X Y (up2 τ 5 0 (if (mIn (nI 3) 0 3) = 0 then 1 else 0)) ℓ) H := hP
  have hD : va_D A (wM am cI cJ X Y (up2 τ 5 0 (if (mIn (nI 3) 0 3) = 0 then 1 else 0)) ℓ) := wM_D hD _ _
  refine lv_if_ne (tgt := 15) hx hb dX2_told_10 (by decide) (fun _ => ?_) (fun c9 => absurd c9 hv)
  rw [if_neg hv] at hP
  have hD : va_D A (wM am cI cJ X Y (up2 τ 5 0 0) ℓ) := wM_D hD _ _
  refine lv_iload_n hx hb dX2_told_15 rfl (lv_at hl 1 rfl) ?_
  refine lv_if_ne (tgt := 24) hx hb dX2_told_16 (by decide) (fun _ => ?_) (fun c9 => False.elim (absurd c9 (by decide)))
  refine lv_aload_n hx hb dX2_told_24 rfl (lv_at hl 0 rfl) ?_
  refine w_V (A := A) ⟨hx, hb, hml, hown, hts⟩ (k_X2_settle l D cI cJ am X Y (up2 τ 5 0 0) ℓ hB N hN) (cwV 0 hts gX2_told_X2_settle rfl rfl rfl (by decide +kernel) ⟨Nat.le_of_ble_eq_true rfl, Nat.le_of_ble_eq_true rfl⟩) ([]) ([]) hP hD hS hK (va_recv hK hP (ci := 2) (q0 := 0) rfl rfl) rfl hl.1 rfl (Nat.le_of_ble_eq_true rfl) dX2_told_25 (Nat.zero_le _) (Nat.zero_le _) (fun H locs hP hS => ?_)
  have hP : va_P D vwCl (wM am cI cJ X Y ((f_mset X Y N (up2 τ 5 0 0, ℓ)).1) ((f_mset X Y N (up2 τ 5 0 0, ℓ)).2)) H := hP
  have hD : va_D A (wM am cI cJ X Y ((f_mset X Y N (up2 τ 5 0 0, ℓ)).1) ((f_mset X Y N (up2 τ 5 0 0, ℓ)).2)) := wM_D hD _ _
  refine lv_iload_n hx hb dX2_told_28 rfl (lv_at hl 1 rfl) ?_
  refine lv_iconst (v := nI 1) hx hb dX2_told_29 (by decide) ?_
  refine lv_icmp_ne (tgt := 57) hx hb dX2_told_30 (by decide) (fun _ => ?_) (fun c9 => False.elim (absurd c9 (by decide)))
  refine lv_lconst (v := 0) hx hb dX2_told_57 (by decide) ?_
  refine lv_lstore_n (lv' := [(2, .long 0), (0, .ref (am 6)), (1, .int (nI 3))]) hx hb dX2_told_58 rfl hl (by decide) rfl (fun ls hl => ?_)
  refine lv_iconst (v := 0) hx hb dX2_told_59 (by decide) ?_
  refine lv_istore (lv' := [(4, .int 0), (2, .long 0), (0, .ref (am 6)), (1, .int (nI 3))]) hx hb dX2_told_60 hl (by decide) rfl (fun ls hl => ?_)
  refine lv_iconst (v := nI 0) hx hb dX2_told_62 (by decide) ?_
  refine lv_istore (lv' := [(5, .int (nI 0)), (4, .int 0), (2, .long 0), (0, .ref (am 6)), (1, .int (nI 3))]) hx hb dX2_told_63 hl (by decide) rfl (fun ls hl => ?_)
  refine W_lw (fun j ls H locs => lv_has ls 7 [(2, .long ((n_td X Y ((f_mset X Y N (up2 τ 5 0 0, ℓ)).1) ((f_mset X Y N (up2 τ 5 0 0, ℓ)).2) j).1)), (4, .int ((n_td X Y ((f_mset X Y N (up2 τ 5 0 0, ℓ)).1) ((f_mset X Y N (up2 τ 5 0 0, ℓ)).2) j).2.1)), (5, .int (nI j)), (0, .ref (am 6)), (1, .int (nI 3))] ∧ va_P D vwCl (wM am cI cJ X Y ((f_mset X Y N (up2 τ 5 0 0, ℓ)).1) ((n_td X Y ((f_mset X Y N (up2 τ 5 0 0, ℓ)).1) ((f_mset X Y N (up2 τ 5 0 0, ℓ)).2) j).2.2)) H ∧ va_S A s.heap H locs) (Y) (0) (Nat.zero_le _) ⟨lv_sub hl [2, 1, 0, 3, 4] rfl, hP, hS⟩ (fun ls H locs hq => ?_) (fun j ls H locs hj hq ih1 => ?_)
  · -- behind the loop
    obtain ⟨hl, hP, hS⟩ := hq
    have hD : va_D A (wM am cI cJ X Y ((f_mset X Y N (up2 τ 5 0 0, ℓ)).1) ((n_td X Y ((f_mset X Y N (up2 τ 5 0 0, ℓ)).1) ((f_mset X Y N (up2 τ 5 0 0, ℓ)).2) Y).2.2)) := wM_D hD _ _
    refine lv_iload hx hb dX2_told_65 (lv_at hl 2 rfl) ?_
    refine lv_aload_n hx hb dX2_told_67 rfl (lv_at hl 3 rfl) ?_
    refine va_get (D := D) (cl := vwCl) (ci := 2) (v := .int (nI Y)) (C := RX2) (T := TX2) (N := 15) hx hb hts inX2 hown hK hP 0 rfl rfl 1 (by decide) fl33 (fun _ h9 => h9) rfl dX2_told_68 ?_
    refine lv_icmp_ge (tgt := 160) hx hb dX2_told_71 (by decide) (fun _ => ?_) (fun c9 => False.elim (c9 (nI_le (Nat.le_refl _) (by omega))))
    refine lv_iload_n hx hb dX2_told_160 rfl (lv_at hl 4 rfl) ?_
    refine lv_iconst (v := nI 2) hx hb dX2_told_161 (by decide) ?_
    refine lv_icmp_ne (tgt := 169) hx hb dX2_told_162 (by decide) (fun _ => ?_) (fun c9 => False.elim (absurd c9 (by decide)))
    refine lv_iload hx hb dX2_told_169 (lv_at hl 1 rfl) ?_
    refine lv_i2l (v := ((n_td X Y ((f_mset X Y N (up2 τ 5 0 0, ℓ)).1) ((f_mset X Y N (up2 τ 5 0 0, ℓ)).2) Y).2.1).toInt64) hx hb dX2_told_171 rfl ?_
    exact W.lret hx hb hr (fun t ht _ => ⟨rfl, by rw [ht]; exact hP, by rw [hAe]; exact hS.F ht⟩) hS.2.2 dX2_told_172
  · -- one round
    obtain ⟨hl, hP, hS⟩ := hq
    have hD : va_D A (wM am cI cJ X Y ((f_mset X Y N (up2 τ 5 0 0, ℓ)).1) ((n_td X Y ((f_mset X Y N (up2 τ 5 0 0, ℓ)).1) ((f_mset X Y N (up2 τ 5 0 0, ℓ)).2) j).2.2)) := wM_D hD _ _
    refine lv_iload hx hb dX2_told_65 (lv_at hl 2 rfl) ?_
    refine lv_aload_n hx hb dX2_told_67 rfl (lv_at hl 3 rfl) ?_
    refine va_get (D := D) (cl := vwCl) (ci := 2) (v := .int (nI Y)) (C := RX2) (T := TX2) (N := 15) hx hb hts inX2 hown hK hP 0 rfl rfl 1 (by decide) fl33 (fun _ h9 => h9) rfl dX2_told_68 ?_
    refine lv_icmp_ge (tgt := 160) hx hb dX2_told_71 (by decide) (fun c9 => False.elim (nI_ge hj (by omega) c9)) (fun _ => ?_)
    refine lv_iconst (v := nI 0) hx hb dX2_told_74 (by decide) ?_
    refine lv_istore (lv' := [(6, .int (nI 0)), (2, .long ((n_td X Y ((f_mset X Y N (up2 τ 5 0 0, ℓ)).1) ((f_mset X Y N (up2 τ 5 0 0, ℓ)).2) j).1)), (4, .int ((n_td X Y ((f_mset X Y N (up2 τ 5 0 0, ℓ)).1) ((f_mset X Y N (up2 τ 5 0 0, ℓ)).2) j).2.1)), (5, .int (nI j)), (0, .ref (am 6)), (1, .int (nI 3))]) hx hb dX2_told_75 hl (by decide) rfl (fun ls hl => ?_)
    refine W_lw (fun i ls H locs => lv_has ls 7 [(2, .long ((f_tdR X Y ((f_mset X Y N (up2 τ 5 0 0, ℓ)).1) j (n_td X Y ((f_mset X Y N (up2 τ 5 0 0, ℓ)).1) ((f_mset X Y N (up2 τ 5 0 0, ℓ)).2) j) i).1)), (4, .int ((f_tdR X Y ((f_mset X Y N (up2 τ 5 0 0, ℓ)).1) j (n_td X Y ((f_mset X Y N (up2 τ 5 0 0, ℓ)).1) ((f_mset X Y N (up2 τ 5 0 0, ℓ)).2) j) i).2.1)), (5, .int (nI j)), (6, .int (nI i)), (0, .ref (am 6)), (1, .int (nI 3))] ∧ va_P D vwCl (wM am cI cJ X Y ((f_mset X Y N (up2 τ 5 0 0, ℓ)).1) ((f_tdR X Y ((f_mset X Y N (up2 τ 5 0 0, ℓ)).1) j (n_td X Y ((f_mset X Y N (up2 τ 5 0 0, ℓ)).1) ((f_mset X Y N (up2 τ 5 0 0, ℓ)).2) j) i).2.2)) H ∧ va_S A s.heap H locs) (X) (0) (Nat.zero_le _) ⟨lv_sub hl [1, 2, 3, 0, 4, 5] rfl, hP, hS⟩ (fun ls H locs hq => ?_) (fun i ls H locs hi hq ih2 => ?_)
    · -- behind the loop
      obtain ⟨hl, hP, hS⟩ := hq
      have hD : va_D A (wM am cI cJ X Y ((f_mset X Y N (up2 τ 5 0 0, ℓ)).1) ((f_tdR X Y ((f_mset X Y N (up2 τ 5 0 0, ℓ)).1) j (n_td X Y ((f_mset X Y N (up2 τ 5 0 0, ℓ)).1) ((f_mset X Y N (up2 τ 5 0 0, ℓ)).2) j) X).2.2)) := wM_D hD _ _
      refine lv_iload hx hb dX2_told_77 (lv_at hl 3 rfl) ?_
      refine lv_aload_n hx hb dX2_told_79 rfl (lv_at hl 4 rfl) ?_
      refine va_get (D := D) (cl := vwCl) (ci := 2) (v := .int (nI X)) (C := RX2) (T := TX2) (N := 15) hx hb hts inX2 hown hK hP 0 rfl rfl 0 (by decide) fl29 (fun _ h9 => h9) rfl dX2_told_80 ?_
      refine lv_icmp_ge (tgt := 154) hx hb dX2_told_83 (by decide) (fun _ => ?_) (fun c9 => False.elim (c9 (nI_le (Nat.le_refl _) (by omega))))
      refine a_inc hx hb (k := 2) (lv' := [(5, .int (nI (j + 1))), (2, .long ((f_tdR X Y ((f_mset X Y N (up2 τ 5 0 0, ℓ)).1) j (n_td X Y ((f_mset X Y N (up2 τ 5 0 0, ℓ)).1) ((f_mset X Y N (up2 τ 5 0 0, ℓ)).2) j) X).1)), (4, .int ((f_tdR X Y ((f_mset X Y N (up2 τ 5 0 0, ℓ)).1) j (n_td X Y ((f_mset X Y N (up2 τ 5 0 0, ℓ)).1) ((f_mset X Y N (up2 τ 5 0 0, ℓ)).2) j) X).2.1)), (6, .int (nI X)), (0, .ref (am 6)), (1, .int (nI 3))]) j dX2_told_154 hl rfl (by decide) rfl (fun ls hl => ?_)
      refine lv_goto (tgt := 65) hx hb dX2_told_157 (by decide) ?_
      exact ih1 _ _ _ ⟨lv_sub hl [1, 2, 0, 4, 5] rfl, hP, hS⟩
    · -- one round
      obtain ⟨hl, hP, hS⟩ := hq
      have hD : va_D A (wM am cI cJ X Y ((f_mset X Y N (up2 τ 5 0 0, ℓ)).1) ((f_tdR X Y ((f_mset X Y N (up2 τ 5 0 0, ℓ)).1) j (n_td X Y ((f_mset X Y N (up2 τ 5 0 0, ℓ)).1) ((f_mset X Y N (up2 τ 5 0 0, ℓ)).2) j) i).2.2)) := wM_D hD _ _
      refine lv_iload hx hb dX2_told_77 (lv_at hl 3 rfl) ?_
      refine lv_aload_n hx hb dX2_told_79 rfl (lv_at hl 4 rfl) ?_
      refine va_get (D := D) (cl := vwCl) (ci := 2) (v := .int (nI X)) (C := RX2) (T := TX2) (N := 15) hx hb hts inX2 hown hK hP 0 rfl rfl 0 (by decide) fl29 (fun _ h9 => h9) rfl dX2_told_80 ?_
      refine lv_icmp_ge (tgt := 154) hx hb dX2_told_83 (by decide) (fun c9 => False.elim (nI_ge hi (by omega) c9)) (fun _ => ?_)
      refine lv_aload_n hx hb dX2_told_86 rfl (lv_at hl 4 rfl) ?_
      refine va_get (D := D) (cl := vwCl) (ci := 2) (v := .ref (am 0)) (C := RX2) (T := TX2) (N := 15) hx hb hts inX2 hown hK hP 0 rfl rfl 3 (by decide) fl7 (fun _ h9 => h9) rfl dX2_told_87 ?_
      refine lv_bipush (v := nI 10) hx hb dX2_told_90 (by decide) ?_
      refine lv_iload hx hb dX2_told_92 (lv_at hl 2 rfl) ?_
      refine lv_imul hx hb dX2_told_94 ?_
      refine top_eq (y := nI (10 * j)) (pk_mul 10 j) ?_
      refine lv_iload hx hb dX2_told_95 (lv_at hl 3 rfl) ?_
      refine lv_iadd hx hb dX2_told_97 ?_
      refine top_eq (y := nI ((10 * j) + i)) (nI_add (10 * j) i) ?_
      refine a_ld hx hb hK hP 1 0 rfl rfl ((10 * j) + i) (rfl) (i10 hB hi hj) (by decide) dX2_told_98 ?_
      refine lv_if_le (tgt := 148) hx hb dX2_told_99 (by decide) (fun c99 => ?_) (fun c99 => ?_)
      · -- 148
        refine a_inc hx hb (k := 3) (lv' := [(6, .int (nI (i + 1))), (2, .long ((f_tdR X Y ((f_mset X Y N (up2 τ 5 0 0, ℓ)).1) j (n_td X Y ((f_mset X Y N (up2 τ 5 0 0, ℓ)).1) ((f_mset X Y N (up2 τ 5 0 0, ℓ)).2) j) i).1)), (4, .int ((f_tdR X Y ((f_mset X Y N (up2 τ 5 0 0, ℓ)).1) j (n_td X Y ((f_mset X Y N (up2 τ 5 0 0, ℓ)).1) ((f_mset X Y N (up2 τ 5 0 0, ℓ)).2) j) i).2.1)), (5, .int (nI j)), (0, .ref (am 6)), (1, .int (nI 3))]) i dX2_told_148 hl rfl (by decide) rfl (fun ls hl => ?_)
        refine lv_goto (tgt := 77) hx hb dX2_told_151 (by decide) ?_
        have e9 : f_tdR X Y ((f_mset X Y N (up2 τ 5 0 0, ℓ)).1) j (n_td X Y ((f_mset X Y N (up2 τ 5 0 0, ℓ)).1) ((f_mset X Y N (up2 τ 5 0 0, ℓ)).2) j) (i + 1) = f_tdR X Y ((f_mset X Y N (up2 τ 5 0 0, ℓ)).1) j (n_td X Y ((f_mset X Y N (up2 τ 5 0 0, ℓ)).1) ((f_mset X Y N (up2 τ 5 0 0, ℓ)).2) j) i := if_pos c99
        exact ih2 _ _ _ ⟨by rw [e9]; exact lv_sub hl [1, 2, 3, 0, 4, 5] rfl, by rw [e9]; exact hP, hS⟩
      · -- 102
        refine lv_lload_n hx hb dX2_told_102 rfl (lv_at hl 0 rfl) ?_
        refine lv_aload_n hx hb dX2_told_103 rfl (lv_at hl 4 rfl) ?_
        refine va_get (D := D) (cl := vwCl) (ci := 2) (v := .ref (am 1)) (C := RX2) (T := TX2) (N := 15) hx hb hts inX2 hown hK hP 0 rfl rfl 4 (by decide) fl13 (fun _ h9 => h9) rfl dX2_told_104 ?_
        refine lv_bipush (v := nI 10) hx hb dX2_told_107 (by decide) ?_
        refine lv_iload hx hb dX2_told_109 (lv_at hl 2 rfl) ?_
        refine lv_imul hx hb dX2_told_111 ?_
        refine top_eq (y := nI (10 * j)) (pk_mul 10 j) ?_
        refine lv_iload hx hb dX2_told_112 (lv_at hl 3 rfl) ?_
        refine lv_iadd hx hb dX2_told_114 ?_
        refine top_eq (y := nI ((10 * j) + i)) (nI_add (10 * j) i) ?_
        refine a_ld hx hb hK hP 2 0 rfl rfl ((10 * j) + i) (rfl) (i10 hB hi hj) (by decide) dX2_told_115 ?_
        refine lv_i2l (v := (((f_mset X Y N (up2 τ 5 0 0, ℓ)).1) 1 ((10 * j) + i)).toInt64) hx hb dX2_told_116 rfl ?_
        refine lv_ladd hx hb dX2_told_117 ?_
        refine lv_lstore_n (lv' := [(2, .long (((f_tdR X Y ((f_mset X Y N (up2 τ 5 0 0, ℓ)).1) j (n_td X Y ((f_mset X Y N (up2 τ 5 0 0, ℓ)).1) ((f_mset X Y N (up2 τ 5 0 0, ℓ)).2) j) i).1) + ((((f_mset X Y N (up2 τ 5 0 0, ℓ)).1) 1 ((10 * j) + i)).toInt64))), (4, .int ((f_tdR X Y ((f_mset X Y N (up2 τ 5 0 0, ℓ)).1) j (n_td X Y ((f_mset X Y N (up2 τ 5 0 0, ℓ)).1) ((f_mset X Y N (up2 τ 5 0 0, ℓ)).2) j) i).2.1)), (5, .int (nI j)), (6, .int (nI i)), (0, .ref (am 6)), (1, .int (nI 3))]) hx hb dX2_told_118 rfl hl (by decide) rfl (fun ls hl => ?_)
        refine lv_aload_n hx hb dX2_told_119 rfl (lv_at hl 4 rfl) ?_
        refine lv_iload hx hb dX2_told_120 (lv_at hl 3 rfl) ?_
        refine lv_iload hx hb dX2_told_122 (lv_at hl 2 rfl) ?_
        refine w_V (A := A) ⟨hx, hb, hml, hown, hts⟩ (k_X2_made l D cI cJ am X Y ((f_mset X Y N (up2 τ 5 0 0, ℓ)).1) ((f_tdR X Y ((f_mset X Y N (up2 τ 5 0 0, ℓ)).1) j (n_td X Y ((f_mset X Y N (up2 τ 5 0 0, ℓ)).1) ((f_mset X Y N (up2 τ 5 0 0, ℓ)).2) j) i).2.2) hB i j (hi) (hj)) (cwV 2 hts gX2_told_X2_made rfl rfl rfl (by decide +kernel) ⟨Nat.le_of_ble_eq_true rfl, Nat.le_of_ble_eq_true rfl⟩) ([]) ([]) hP hD hS hK (va_recv hK hP (ci := 2) (q0 := 0) rfl rfl) rfl hl.1 rfl (Nat.le_of_ble_eq_true rfl) dX2_told_124 (Nat.zero_le _) (Nat.zero_le _) (fun H locs hP hS => ?_)
        have hP : va_P D vwCl (wM am cI cJ X Y ((f_mset X Y N (up2 τ 5 0 0, ℓ)).1) (f_made X Y ((f_mset X Y N (up2 τ 5 0 0, ℓ)).1) i j ((f_tdR X Y ((f_mset X Y N (up2 τ 5 0 0, ℓ)).1) j (n_td X Y ((f_mset X Y N (up2 τ 5 0 0, ℓ)).1) ((f_mset X Y N (up2 τ 5 0 0, ℓ)).2) j) i).2.2))) H := hP
        have hD : va_D A (wM am cI cJ X Y ((f_mset X Y N (up2 τ 5 0 0, ℓ)).1) (f_made X Y ((f_mset X Y N (up2 τ 5 0 0, ℓ)).1) i j ((f_tdR X Y ((f_mset X Y N (up2 τ 5 0 0, ℓ)).1) j (n_td X Y ((f_mset X Y N (up2 τ 5 0 0, ℓ)).1) ((f_mset X Y N (up2 τ 5 0 0, ℓ)).2) j) i).2.2))) := wM_D hD _ _
        refine lv_pop hx hb dX2_told_127 rfl ?_
        refine W_jn (β := Int32) (fun b4 => b4 = (if lg_cmp ((f_made X Y ((f_mset X Y N (up2 τ 5 0 0, ℓ)).1) i j ((f_tdR X Y ((f_mset X Y N (up2 τ 5 0 0, ℓ)).1) j (n_td X Y ((f_mset X Y N (up2 τ 5 0 0, ℓ)).1) ((f_mset X Y N (up2 τ 5 0 0, ℓ)).2) j) i).2.2)) 1 1) 0 = 0 then (f_tdR X Y ((f_mset X Y N (up2 τ 5 0 0, ℓ)).1) j (n_td X Y ((f_mset X Y N (up2 τ 5 0 0, ℓ)).1) ((f_mset X Y N (up2 τ 5 0 0, ℓ)).2) j) i).2.1 + 1 else (f_tdR X Y ((f_mset X Y N (up2 τ 5 0 0, ℓ)).1) j (n_td X Y ((f_mset X Y N (up2 τ 5 0 0, ℓ)).1) ((f_mset X Y N (up2 τ 5 0 0, ℓ)).2) j) i).2.1)) (fun b4 => F0 m 146 ls [.int b4]) (fun jn3 => ?_) (fun b4 eb4 => ?_)
        · -- roads to 146
          refine lv_aload_n hx hb dX2_told_128 rfl (lv_at hl 4 rfl) ?_
          refine va_get (D := D) (cl := vwCl) (ci := 2) (v := .long ((f_made X Y ((f_mset X Y N (up2 τ 5 0 0, ℓ)).1) i j ((f_tdR X Y ((f_mset X Y N (up2 τ 5 0 0, ℓ)).1) j (n_td X Y ((f_mset X Y N (up2 τ 5 0 0, ℓ)).1) ((f_mset X Y N (up2 τ 5 0 0, ℓ)).2) j) i).2.2)) 1 1)) (C := RX2) (T := TX2) (N := 15) hx hb hts inX2 hown hK hP 0 rfl rfl 11 (by decide) fl63 (fun _ h9 => h9) rfl dX2_told_129 ?_
          refine lv_lconst (v := 0) hx hb dX2_told_132 (by decide) ?_
          refine W.lcmp hx hb dX2_told_133 ?_
          refine lv_if_ne (tgt := 144) hx hb dX2_told_134 (by decide) (fun c5 => ?_) (fun c5 => ?_)
          · -- 144
            refine lv_iload hx hb dX2_told_144 (lv_at hl 1 rfl) ?_
            exact jn3 _ (by rw [if_neg c5])
          · -- 137
            refine lv_iload hx hb dX2_told_137 (lv_at hl 1 rfl) ?_
            refine lv_iconst (v := 1) hx hb dX2_told_139 (by decide) ?_
            refine lv_iadd hx hb dX2_told_140 ?_
            refine lv_goto (tgt := 146) hx hb dX2_told_141 (by decide) ?_
            exact jn3 _ (by rw [if_pos c5])
        · -- on from 146
          subst eb4
          refine lv_istore (lv' := [(4, .int (if lg_cmp ((f_made X Y ((f_mset X Y N (up2 τ 5 0 0, ℓ)).1) i j ((f_tdR X Y ((f_mset X Y N (up2 τ 5 0 0, ℓ)).1) j (n_td X Y ((f_mset X Y N (up2 τ 5 0 0, ℓ)).1) ((f_mset X Y N (up2 τ 5 0 0, ℓ)).2) j) i).2.2)) 1 1) 0 = 0 then (f_tdR X Y ((f_mset X Y N (up2 τ 5 0 0, ℓ)).1) j (n_td X Y ((f_mset X Y N (up2 τ 5 0 0, ℓ)).1) ((f_mset X Y N (up2 τ 5 0 0, ℓ)).2) j) i).2.1 + 1 else (f_tdR X Y ((f_mset X Y N (up2 τ 5 0 0, ℓ)).1) j (n_td X Y ((f_mset X Y N (up2 τ 5 0 0, ℓ)).1) ((f_mset X Y N (up2 τ 5 0 0, ℓ)).2) j) i).2.1)), (2, .long (((f_tdR X Y ((f_mset X Y N (up2 τ 5 0 0, ℓ)).1) j (n_td X Y ((f_mset X Y N (up2 τ 5 0 0, ℓ)).1) ((f_mset X Y N (up2 τ 5 0 0, ℓ)).2) j) i).1) + ((((f_mset X Y N (up2 τ 5 0 0, ℓ)).1) 1 ((10 * j) + i)).toInt64))), (5, .int (nI j)), (6, .int (nI i)), (0, .ref (am 6)), (1, .int (nI 3))]) hx hb dX2_told_146 hl (by decide) rfl (fun ls hl => ?_)
          refine a_inc hx hb (k := 3) (lv' := [(6, .int (nI (i + 1))), (4, .int (if lg_cmp ((f_made X Y ((f_mset X Y N (up2 τ 5 0 0, ℓ)).1) i j ((f_tdR X Y ((f_mset X Y N (up2 τ 5 0 0, ℓ)).1) j (n_td X Y ((f_mset X Y N (up2 τ 5 0 0, ℓ)).1) ((f_mset X Y N (up2 τ 5 0 0, ℓ)).2) j) i).2.2)) 1 1) 0 = 0 then (f_tdR X Y ((f_mset X Y N (up2 τ 5 0 0, ℓ)).1) j (n_td X Y ((f_mset X Y N (up2 τ 5 0 0, ℓ)).1) ((f_mset X Y N (up2 τ 5 0 0, ℓ)).2) j) i).2.1 + 1 else (f_tdR X Y ((f_mset X Y N (up2 τ 5 0 0, ℓ)).1) j (n_td X Y ((f_mset X Y N (up2 τ 5 0 0, ℓ)).1) ((f_mset X Y N (up2 τ 5 0 0, ℓ)).2) j) i).2.1)), (2, .long (((f_tdR X Y ((f_mset X Y N (up2 τ 5 0 0, ℓ)).1) j (n_td X Y ((f_mset X Y N (up2 τ 5 0 0, ℓ)).1) ((f_mset X Y N (up2 τ 5 0 0, ℓ)).2) j) i).1) + ((((f_mset X Y N (up2 τ 5 0 0, ℓ)).1) 1 ((10 * j) + i)).toInt64))), (5, .int (nI j)), (0, .ref (am 6)), (1, .int (nI 3))]) i dX2_told_148 hl rfl (by decide) rfl (fun ls hl => ?_)
          refine lv_goto (tgt := 77) hx hb dX2_told_151 (by decide) ?_
          have e9 : f_tdR X Y ((f_mset X Y N (up2 τ 5 0 0, ℓ)).1) j (n_td X Y ((f_mset X Y N (up2 τ 5 0 0, ℓ)).1) ((f_mset X Y N (up2 τ 5 0 0, ℓ)).2) j) (i + 1) = (((f_tdR X Y ((f_mset X Y N (up2 τ 5 0 0, ℓ)).1) j (n_td X Y ((f_mset X Y N (up2 τ 5 0 0, ℓ)).1) ((f_mset X Y N (up2 τ 5 0 0, ℓ)).2) j) i).1) + ((((f_mset X Y N (up2 τ 5 0 0, ℓ)).1) 1 ((10 * j) + i)).toInt64), (if lg_cmp ((f_made X Y ((f_mset X Y N (up2 τ 5 0 0, ℓ)).1) i j ((f_tdR X Y ((f_mset X Y N (up2 τ 5 0 0, ℓ)).1) j (n_td X Y ((f_mset X Y N (up2 τ 5 0 0, ℓ)).1) ((f_mset X Y N (up2 τ 5 0 0, ℓ)).2) j) i).2.2)) 1 1) 0 = 0 then (f_tdR X Y ((f_mset X Y N (up2 τ 5 0 0, ℓ)).1) j (n_td X Y ((f_mset X Y N (up2 τ 5 0 0, ℓ)).1) ((f_mset X Y N (up2 τ 5 0 0, ℓ)).2) j) i).2.1 + 1 else (f_tdR X Y ((f_mset X Y N (up2 τ 5 0 0, ℓ)).1) j (n_td X Y ((f_mset X Y N (up2 τ 5 0 0, ℓ)).1) ((f_mset X Y N (up2 τ 5 0 0, ℓ)).2) j) i).2.1), f_made X Y ((f_mset X Y N (up2 τ 5 0 0, ℓ)).1) i j ((f_tdR X Y ((f_mset X Y N (up2 τ 5 0 0, ℓ)).1) j (n_td X Y ((f_mset X Y N (up2 τ 5 0 0, ℓ)).1) ((f_mset X Y N (up2 τ 5 0 0, ℓ)).2) j) i).2.2)) := if_neg c99
          exact ih2 _ _ _ ⟨by rw [e9]; exact lv_sub hl [2, 1, 3, 0, 4, 5] rfl, by rw [e9]; exact hP, hS⟩
