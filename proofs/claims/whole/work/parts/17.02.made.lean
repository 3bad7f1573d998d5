set_option maxHeartbeats 4000000 in
set_option maxRecDepth 100000 in
theorem k_X2_made (l : Launch) (D : va_G) (cI cJ : ClassId) (am : Nat → Nat) (X Y : Nat) (τ : Nat → Nat → Int32) (ℓ : Nat → Nat → Int64) (hB : 1 ≤ X ∧ X ≤ 10 ∧ 1 ≤ Y ∧ Y ≤ 10) (i j : Nat) (hi : i < X) (hj : j < Y) : wMet l yX2_made wsX2_made 3 68 D (tY cI cJ) (wM am cI cJ X Y τ ℓ) (wM am cI cJ X Y τ (f_made X Y τ i j ℓ)) [.ref (am 6), .int (nI i), .int (nI j)] (some (.int (v_made τ (f_made X Y τ i j ℓ)))) := by
  refine Met.ofW (cc := cX2_made) (maxL := 6) (ret := (some .int)) (by decide) rfl ?_
  intro p e s m args below meth c s₁ B hml hv
  obtain ⟨rfl, hP, hK, hD0⟩ := hv
  have hx := B.exec
  have hb := B.bytes
  have hr := B.returns
  have hts := atoms_spec (ws := wsX2_made) B.pre
  have hown : s.vm.findClass RX2 = some m.cls := findClass_of_methodNamed B.named
  have hlocks := B.notSynchronized
  have inX2 : ∀ w ∈ wsX20, w ∈ wsX2_made := by decide +kernel
  have fl7 := hts (.fieldLink RX2 7 "BridgeCellsModel" "leads" "[I") (by decide +kernel)
  have fl59 := hts (.fieldLink RX2 59 "BridgeCellsModel" "products" "J") (by decide +kernel)
  have fl63 := hts (.fieldLink RX2 63 "BridgeCellsModel" "weights" "J") (by decide +kernel)
  have fl73 := hts (.fieldLink RX2 73 "BridgeCellsModel" "low" "I") (by decide +kernel)
  have fl19 := hts (.fieldLink RX2 19 "BridgeCellsModel" "film" "[I") (by decide +kernel)
  have fl16 := hts (.fieldLink RX2 16 "BridgeCellsModel" "sideWarm" "[I") (by decide +kernel)
  have hl := lv_entry ([.ref (am 6), .int (nI i), .int (nI j)]) (n := 6) (Nat.le_of_ble_eq_true rfl)
  rw [lg_entry_eq]
  generalize (lg_sl ([.ref (am 6), .int (nI i), .int (nI j)]) ++ List.replicate (6 - (lg_sl ([.ref (am 6), .int (nI i), .int (nI j)])).length) Slot.unset).toArray = ls at hl ⊢
  have hl : lv_has ls 6 [(0, .ref (am 6)), (1, .int (nI i)), (2, .int (nI j))] := hl
  have hD := aw_D hD0
  generalize hAe : aw (wM am cI cJ X Y τ ℓ) = A at hD ⊢
  have hS : va_S A s.heap s.heap [] := va_S.rf
  refine lv_aload_n hx hb dX2_made_0 rfl (lv_at hl 0 rfl) ?_
  refine va_get (D := D) (cl := vwCl) (ci := 2) (v := .ref (am 0)) (C := RX2) (T := TX2) (N := 15) hx hb hts inX2 hown hK hP 0 rfl rfl 3 (by decide) fl7 (fun _ h9 => h9) rfl dX2_made_1 ?_
  refine lv_bipush (v := nI 10) hx hb dX2_made_4 (by decide) ?_
  refine lv_iload_n hx hb dX2_made_6 rfl (lv_at hl 2 rfl) ?_
  refine lv_imul hx hb dX2_made_7 ?_
  refine top_eq (y := nI (10 * j)) (pk_mul 10 j) ?_
  refine lv_iload_n hx hb dX2_made_8 rfl (lv_at hl 1 rfl) ?_
  refine lv_iadd hx hb dX2_made_9 ?_
  refine top_eq (y := nI ((10 * j) + i)) (nI_add (10 * j) i) ?_
  refine a_ld hx hb hK hP 1 0 rfl rfl ((10 * j) + i) (rfl) (i10 hB hi hj) (by decide) dX2_made_10 ?_
  refine lv_istore_n (lv' := [(3, .int (τ 0 ((10 * j) + i))), (0, .ref (am 6)), (1, .int (nI i)), (2, .int (nI j))]) hx hb dX2_made_11 rfl hl (by decide) rfl (fun ls hl => ?_)
  refine lv_aload_n hx hb dX2_made_12 rfl (lv_at hl 1 rfl) ?_
  refine lv_lconst (v := 0) hx hb dX2_made_13 (by decide) ?_
  refine va_put (D := D) (cl := vwCl) (ci := 2) (v := .long 0) (ty := .long) (C := RX2) (T := TX2) (N := 15) hx hb hts inX2 tyX2 tyX2_ok nmX2 hown hK hP hD hS 0 rfl rfl 10 (by decide) fl59 (fun _ h9 => h9) rfl (by decide +kernel) rfl rfl (Nat.le_of_ble_eq_true rfl) dX2_made_14 (fun H locs hP _ hS => ?_)
  obtain ⟨ℓ1, eℓ1⟩ : ∃ z, z = upL ℓ 1 0 0 := ⟨_, rfl⟩
  replace hP : va_P D vwCl (wM am cI cJ X Y τ ℓ1) H := by rw [eℓ1]; exact hP
  have hP : va_P D vwCl (wM am cI cJ X Y τ ℓ1) H := hP
  have hD : va_D A (wM am cI cJ X Y τ ℓ1) := wM_D hD _ _
  refine lv_aload_n hx hb dX2_made_17 rfl (lv_at hl 1 rfl) ?_
  refine lv_lconst (v := 0) hx hb dX2_made_18 (by decide) ?_
  refine va_put (D := D) (cl := vwCl) (ci := 2) (v := .long 0) (ty := .long) (C := RX2) (T := TX2) (N := 15) hx hb hts inX2 tyX2 tyX2_ok nmX2 hown hK hP hD hS 0 rfl rfl 11 (by decide) fl63 (fun _ h9 => h9) rfl (by decide +kernel) rfl rfl (Nat.le_of_ble_eq_true rfl) dX2_made_19 (fun H locs hP _ hS => ?_)
  obtain ⟨ℓ2, eℓ2⟩ : ∃ z, z = upL ℓ1 1 1 0 := ⟨_, rfl⟩
  replace hP : va_P D vwCl (wM am cI cJ X Y τ ℓ2) H := by rw [eℓ2]; exact hP
  have hP : va_P D vwCl (wM am cI cJ X Y τ ℓ2) H := hP
  have hD : va_D A (wM am cI cJ X Y τ ℓ2) := wM_D hD _ _
  refine lv_aload_n hx hb dX2_made_22 rfl (lv_at hl 1 rfl) ?_
  refine lv_iload_n hx hb dX2_made_23 rfl (lv_at hl 0 rfl) ?_
  refine lv_iload_n hx hb dX2_made_24 rfl (lv_at hl 2 rfl) ?_
  refine lv_iconst (v := 1) hx hb dX2_made_25 (by decide) ?_
  refine lv_isub hx hb dX2_made_26 ?_
  refine lv_iload_n hx hb dX2_made_27 rfl (lv_at hl 3 rfl) ?_
  refine w_V (A := A) ⟨hx, hb, hml, hown, hts⟩ (k_X2_addCell l D cI cJ am X Y τ ℓ2 hB (τ 0 ((10 * j) + i)) ((nI i) - 1) (nI j) ) (cwV 3 hts gX2_made_X2_addCell rfl rfl rfl (by decide +kernel) ⟨Nat.le_of_ble_eq_true rfl, Nat.le_of_ble_eq_true rfl⟩) ([]) ([]) hP hD hS hK (va_recv hK hP (ci := 2) (q0 := 0) rfl rfl) rfl hl.1 rfl (Nat.le_of_ble_eq_true rfl) dX2_made_28 (Nat.zero_le _) (Nat.zero_le _) (fun H locs hP hS => ?_)
  have hP : va_P D vwCl (wM am cI cJ X Y τ (f_add X Y τ (τ 0 ((10 * j) + i)) ((nI i) - 1) (nI j) ℓ2)) H := hP
  have hD : va_D A (wM am cI cJ X Y τ (f_add X Y τ (τ 0 ((10 * j) + i)) ((nI i) - 1) (nI j) ℓ2)) := wM_D hD _ _
  refine lv_aload_n hx hb dX2_made_31 rfl (lv_at hl 1 rfl) ?_
  refine lv_iload_n hx hb dX2_made_32 rfl (lv_at hl 0 rfl) ?_
  refine lv_iload_n hx hb dX2_made_33 rfl (lv_at hl 2 rfl) ?_
  refine lv_iconst (v := 1) hx hb dX2_made_34 (by decide) ?_
  refine lv_iadd hx hb dX2_made_35 ?_
  refine lv_iload_n hx hb dX2_made_36 rfl (lv_at hl 3 rfl) ?_
  refine w_V (A := A) ⟨hx, hb, hml, hown, hts⟩ (k_X2_addCell l D cI cJ am X Y τ (f_add X Y τ (τ 0 ((10 * j) + i)) ((nI i) - 1) (nI j) ℓ2) hB (τ 0 ((10 * j) + i)) ((nI i) + 1) (nI j) ) (cwV 3 hts gX2_made_X2_addCell rfl rfl rfl (by decide +kernel) ⟨Nat.le_of_ble_eq_true rfl, Nat.le_of_ble_eq_true rfl⟩) ([]) ([]) hP hD hS hK (va_recv hK hP (ci := 2) (q0 := 0) rfl rfl) rfl hl.1 rfl (Nat.le_of_ble_eq_true rfl) dX2_made_37 (Nat.zero_le _) (Nat.zero_le _) (fun H locs hP hS => ?_)
  have hP : va_P D vwCl (wM am cI cJ X Y τ (f_add X Y τ (τ 0 ((10 * j) + i)) ((nI i) + 1) (nI j) (f_add X Y τ (τ 0 ((10 * j) + i)) ((nI i) - 1) (nI j) ℓ2))) H := hP
  have hD : va_D A (wM am cI cJ X Y τ (f_add X Y τ (τ 0 ((10 * j) + i)) ((nI i) + 1) (nI j) (f_add X Y τ (τ 0 ((10 * j) + i)) ((nI i) - 1) (nI j) ℓ2))) := wM_D hD _ _
  refine lv_aload_n hx hb dX2_made_40 rfl (lv_at hl 1 rfl) ?_
  refine lv_iload_n hx hb dX2_made_41 rfl (lv_at hl 0 rfl) ?_
  refine lv_iload_n hx hb dX2_made_42 rfl (lv_at hl 2 rfl) ?_
  refine lv_iload_n hx hb dX2_made_43 rfl (lv_at hl 3 rfl) ?_
  refine lv_iconst (v := 1) hx hb dX2_made_44 (by decide) ?_
  refine lv_isub hx hb dX2_made_45 ?_
  refine w_V (A := A) ⟨hx, hb, hml, hown, hts⟩ (k_X2_addCell l D cI cJ am X Y τ (f_add X Y τ (τ 0 ((10 * j) + i)) ((nI i) + 1) (nI j) (f_add X Y τ (τ 0 ((10 * j) + i)) ((nI i) - 1) (nI j) ℓ2)) hB (τ 0 ((10 * j) + i)) (nI i) ((nI j) - 1) ) (cwV 3 hts gX2_made_X2_addCell rfl rfl rfl (by decide +kernel) ⟨Nat.le_of_ble_eq_true rfl, Nat.le_of_ble_eq_true rfl⟩) ([]) ([]) hP hD hS hK (va_recv hK hP (ci := 2) (q0 := 0) rfl rfl) rfl hl.1 rfl (Nat.le_of_ble_eq_true rfl) dX2_made_46 (Nat.zero_le _) (Nat.zero_le _) (fun H locs hP hS => ?_)
  have hP : va_P D vwCl (wM am cI cJ X Y τ (f_add X Y τ (τ 0 ((10 * j) + i)) (nI i) ((nI j) - 1) (f_add X Y τ (τ 0 ((10 * j) + i)) ((nI i) + 1) (nI j) (f_add X Y τ (τ 0 ((10 * j) + i)) ((nI i) - 1) (nI j) ℓ2)))) H := hP
  have hD : va_D A (wM am cI cJ X Y τ (f_add X Y τ (τ 0 ((10 * j) + i)) (nI i) ((nI j) - 1) (f_add X Y τ (τ 0 ((10 * j) + i)) ((nI i) + 1) (nI j) (f_add X Y τ (τ 0 ((10 * j) + i)) ((nI i) - 1) (nI j) ℓ2)))) := wM_D hD _ _
  refine lv_aload_n hx hb dX2_made_49 rfl (lv_at hl 1 rfl) ?_
  refine lv_iload_n hx hb dX2_made_50 rfl (lv_at hl 0 rfl) ?_
  refine lv_iload_n hx hb dX2_made_51 rfl (lv_at hl 2 rfl) ?_
  refine lv_iload_n hx hb dX2_made_52 rfl (lv_at hl 3 rfl) ?_
  refine lv_iconst (v := 1) hx hb dX2_made_53 (by decide) ?_
  refine lv_iadd hx hb dX2_made_54 ?_
  refine w_V (A := A) ⟨hx, hb, hml, hown, hts⟩ (k_X2_addCell l D cI cJ am X Y τ (f_add X Y τ (τ 0 ((10 * j) + i)) (nI i) ((nI j) - 1) (f_add X Y τ (τ 0 ((10 * j) + i)) ((nI i) + 1) (nI j) (f_add X Y τ (τ 0 ((10 * j) + i)) ((nI i) - 1) (nI j) ℓ2))) hB (τ 0 ((10 * j) + i)) (nI i) ((nI j) + 1) ) (cwV 3 hts gX2_made_X2_addCell rfl rfl rfl (by decide +kernel) ⟨Nat.le_of_ble_eq_true rfl, Nat.le_of_ble_eq_true rfl⟩) ([]) ([]) hP hD hS hK (va_recv hK hP (ci := 2) (q0 := 0) rfl rfl) rfl hl.1 rfl (Nat.le_of_ble_eq_true rfl) dX2_made_55 (Nat.zero_le _) (Nat.zero_le _) (fun H locs hP hS => ?_)
  have hP : va_P D vwCl (wM am cI cJ X Y τ (f_add X Y τ (τ 0 ((10 * j) + i)) (nI i) ((nI j) + 1) (f_add X Y τ (τ 0 ((10 * j) + i)) (nI i) ((nI j) - 1) (f_add X Y τ (τ 0 ((10 * j) + i)) ((nI i) + 1) (nI j) (f_add X Y τ (τ 0 ((10 * j) + i)) ((nI i) - 1) (nI j) ℓ2))))) H := hP
  have hD : va_D A (wM am cI cJ X Y τ (f_add X Y τ (τ 0 ((10 * j) + i)) (nI i) ((nI j) + 1) (f_add X Y τ (τ 0 ((10 * j) + i)) (nI i) ((nI j) - 1) (f_add X Y τ (τ 0 ((10 * j) + i)) ((nI i) + 1) (nI j) (f_add X Y τ (τ 0 ((10 * j) + i)) ((nI i) - 1) (nI j) ℓ2))))) := wM_D hD _ _
  refine lv_iconst (v := nI 0) hx hb dX2_made_58 (by decide) ?_
  refine lv_istore (lv' := [(4, .int (nI 0)), (3, .int (τ 0 ((10 * j) + i))), (0, .ref (am 6)), (1, .int (nI i)), (2, .int (nI j))]) hx hb dX2_made_59 hl (by decide) rfl (fun ls hl => ?_)
  subst eℓ2 eℓ1
  refine W_lw (fun sd ls H locs => lv_has ls 6 [(4, .int (nI sd)), (0, .ref (am 6)), (1, .int (nI i)), (2, .int (nI j)), (3, .int (τ 0 (10 * j + i)))] ∧ va_P D vwCl (wM am cI cJ X Y τ (n_md X Y τ i j ℓ sd)) H ∧ va_S A s.heap H locs) (4) (0) (Nat.zero_le _) ⟨lv_sub hl [0, 2, 3, 4, 1] rfl, hP, hS⟩ (fun ls H locs hq => ?_) (fun sd ls H locs hsd hq ih3 => ?_)
  · -- behind the loop
    obtain ⟨hl, hP, hS⟩ := hq
    have hD : va_D A (wM am cI cJ X Y τ (n_md X Y τ i j ℓ 4)) := wM_D hD _ _
    refine lv_iload hx hb dX2_made_61 (lv_at hl 0 rfl) ?_
    refine lv_iconst (v := nI 4) hx hb dX2_made_63 (by decide) ?_
    refine lv_icmp_ge (tgt := 134) hx hb dX2_made_64 (by decide) (fun _ => ?_) (fun c9 => False.elim (c9 (nI_le (Nat.le_refl _) (by decide))))
    refine lv_aload_n hx hb dX2_made_134 rfl (lv_at hl 1 rfl) ?_
    refine va_get (D := D) (cl := vwCl) (ci := 2) (v := .long ((n_md X Y τ i j ℓ 4) 1 1)) (C := RX2) (T := TX2) (N := 15) hx hb hts inX2 hown hK hP 0 rfl rfl 11 (by decide) fl63 (fun _ h9 => h9) rfl dX2_made_135 ?_
    refine lv_lconst (v := 0) hx hb dX2_made_138 (by decide) ?_
    refine W.lcmp hx hb dX2_made_139 ?_
    refine lv_if_ne (tgt := 148) hx hb dX2_made_140 (by decide) (fun c140 => ?_) (fun c140 => ?_)
    · -- 148
      refine lv_aload_n hx hb dX2_made_148 rfl (lv_at hl 1 rfl) ?_
      refine va_get (D := D) (cl := vwCl) (ci := 2) (v := .long ((n_md X Y τ i j ℓ 4) 1 0)) (C := RX2) (T := TX2) (N := 15) hx hb hts inX2 hown hK hP 0 rfl rfl 10 (by decide) fl59 (fun _ h9 => h9) rfl dX2_made_149 ?_
      refine lv_aload_n hx hb dX2_made_152 rfl (lv_at hl 1 rfl) ?_
      refine va_get (D := D) (cl := vwCl) (ci := 2) (v := .long ((n_md X Y τ i j ℓ 4) 1 1)) (C := RX2) (T := TX2) (N := 15) hx hb hts inX2 hown hK hP 0 rfl rfl 11 (by decide) fl63 (fun _ h9 => h9) rfl dX2_made_153 ?_
      refine lv_ldiv hx hb dX2_made_156 (lg_ne c140) ?_
      refine lv_lstore (lv' := [(4, .long (((n_md X Y τ i j ℓ 4) 1 0) / ((n_md X Y τ i j ℓ 4) 1 1))), (0, .ref (am 6)), (1, .int (nI i)), (2, .int (nI j)), (3, .int (τ 0 (10 * j + i)))]) hx hb dX2_made_157 hl (by decide) rfl (fun ls hl => ?_)
      refine W_jn (β := Int64) (fun b5 => b5 = flo ((n_md X Y τ i j ℓ 4) 1 0) ((n_md X Y τ i j ℓ 4) 1 1)) (fun b5 => F0 m 192 ls [.long b5]) (fun jn4 => ?_) (fun b5 eb5 => ?_)
      · -- roads to 192
        refine lv_aload_n hx hb dX2_made_159 rfl (lv_at hl 1 rfl) ?_
        refine va_get (D := D) (cl := vwCl) (ci := 2) (v := .long ((n_md X Y τ i j ℓ 4) 1 0)) (C := RX2) (T := TX2) (N := 15) hx hb hts inX2 hown hK hP 0 rfl rfl 10 (by decide) fl59 (fun _ h9 => h9) rfl dX2_made_160 ?_
        refine lv_lconst (v := 0) hx hb dX2_made_163 (by decide) ?_
        refine W.lcmp hx hb dX2_made_164 ?_
        refine lv_if_ge (tgt := 190) hx hb dX2_made_165 (by decide) (fun c165 => ?_) (fun c165 => ?_)
        · -- 190
          refine lv_lload hx hb dX2_made_190 (lv_at hl 0 rfl) ?_
          exact jn4 _ (by unfold flo; rw [if_pos c165])
        · -- 168
          refine lv_lload hx hb dX2_made_168 (lv_at hl 0 rfl) ?_
          refine lv_aload_n hx hb dX2_made_170 rfl (lv_at hl 1 rfl) ?_
          refine va_get (D := D) (cl := vwCl) (ci := 2) (v := .long ((n_md X Y τ i j ℓ 4) 1 1)) (C := RX2) (T := TX2) (N := 15) hx hb hts inX2 hown hK hP 0 rfl rfl 11 (by decide) fl63 (fun _ h9 => h9) rfl dX2_made_171 ?_
          refine lv_lmul hx hb dX2_made_174 ?_
          refine lv_aload_n hx hb dX2_made_175 rfl (lv_at hl 1 rfl) ?_
          refine va_get (D := D) (cl := vwCl) (ci := 2) (v := .long ((n_md X Y τ i j ℓ 4) 1 0)) (C := RX2) (T := TX2) (N := 15) hx hb hts inX2 hown hK hP 0 rfl rfl 10 (by decide) fl59 (fun _ h9 => h9) rfl dX2_made_176 ?_
          refine W.lcmp hx hb dX2_made_179 ?_
          refine lv_if_eq (tgt := 190) hx hb dX2_made_180 (by decide) (fun c180 => ?_) (fun c180 => ?_)
          · -- 190
            refine lv_lload hx hb dX2_made_190 (lv_at hl 0 rfl) ?_
            exact jn4 _ (by unfold flo; rw [if_neg c165, if_pos c180])
          · -- 183
            refine lv_lload hx hb dX2_made_183 (lv_at hl 0 rfl) ?_
            refine lv_lconst (v := 1) hx hb dX2_made_185 (by decide) ?_
            refine lv_lsub hx hb dX2_made_186 ?_
            refine lv_goto (tgt := 192) hx hb dX2_made_187 (by decide) ?_
            exact jn4 _ (by unfold flo; rw [if_neg c165, if_neg c180])
      · -- on from 192
        subst eb5
        refine lv_l2i (v := (flo ((n_md X Y τ i j ℓ 4) 1 0) ((n_md X Y τ i j ℓ 4) 1 1)).toInt32) hx hb dX2_made_192 rfl ?_
        exact W.iret hx hb hr (fun t ht _ => ⟨by show _ = Outcome.returned (some (.int (v_made τ (n_md X Y τ i j ℓ 4)))); unfold v_made; rw [if_neg c140], by rw [ht]; exact hP, by rw [hAe]; exact hS.F ht⟩) hS.2.2 dX2_made_193
    · -- 143
      refine lv_aload_n hx hb dX2_made_143 rfl (lv_at hl 1 rfl) ?_
      refine va_get (D := D) (cl := vwCl) (ci := 2) (v := .int (τ 5 2)) (C := RX2) (T := TX2) (N := 15) hx hb hts inX2 hown hK hP 0 rfl rfl 8 (by decide) fl73 (fun _ h9 => h9) rfl dX2_made_144 ?_
      exact W.iret hx hb hr (fun t ht _ => ⟨by show _ = Outcome.returned (some (.int (v_made τ (n_md X Y τ i j ℓ 4)))); unfold v_made; rw [if_pos c140], by rw [ht]; exact hP, by rw [hAe]; exact hS.F ht⟩) hS.2.2 dX2_made_147
  · -- one round
    obtain ⟨hl, hP, hS⟩ := hq
    have hD : va_D A (wM am cI cJ X Y τ (n_md X Y τ i j ℓ sd)) := wM_D hD _ _
    refine lv_iload hx hb dX2_made_61 (lv_at hl 0 rfl) ?_
    refine lv_iconst (v := nI 4) hx hb dX2_made_63 (by decide) ?_
    refine lv_icmp_ge (tgt := 134) hx hb dX2_made_64 (by decide) (fun c9 => False.elim (nI_ge hsd (by decide) c9)) (fun _ => ?_)
    refine W_jn (β := Int32) (fun b7 => b7 = (if mBes X Y (nI sd) (nI i) (nI j) = 0 then 0 else cpl (τ 0 (10 * j + i)) (τ 3 sd))) (fun b7 => F0 m 93 ls [.int b7]) (fun jn6 => ?_) (fun b7 eb7 => ?_)
    · -- roads to 93
      refine lv_aload_n hx hb dX2_made_67 rfl (lv_at hl 1 rfl) ?_
      refine lv_iload hx hb dX2_made_68 (lv_at hl 0 rfl) ?_
      refine lv_iload_n hx hb dX2_made_70 rfl (lv_at hl 2 rfl) ?_
      refine lv_iload_n hx hb dX2_made_71 rfl (lv_at hl 3 rfl) ?_
      refine r_V ⟨hx, hb, hml, hown, hts⟩ (k_X2_isBeside l D cI cJ am X Y τ (n_md X Y τ i j ℓ sd) hB (nI sd) (nI i) (nI j) ) (cwV 3 hts gX2_made_X2_isBeside rfl rfl rfl (by decide +kernel) ⟨Nat.le_of_ble_eq_true rfl, Nat.le_of_ble_eq_true rfl⟩) hP hK (va_recv hK hP (ci := 2) (q0 := 0) rfl rfl) rfl hl.1 rfl (Nat.le_of_ble_eq_true rfl) dX2_made_72 (Nat.zero_le _) (Nat.zero_le _) ?_
      refine lv_if_eq (tgt := 92) hx hb dX2_made_75 (by decide) (fun c8 => ?_) (fun c8 => ?_)
      · -- 92
        refine lv_iconst (v := 0) hx hb dX2_made_92 (by decide) ?_
        exact jn6 _ (by rw [if_pos c8])
      · -- 78
        refine lv_iload_n hx hb dX2_made_78 rfl (lv_at hl 4 rfl) ?_
        refine lv_aload_n hx hb dX2_made_79 rfl (lv_at hl 1 rfl) ?_
        refine va_get (D := D) (cl := vwCl) (ci := 2) (v := .ref (am 3)) (C := RX2) (T := TX2) (N := 15) hx hb hts inX2 hown hK hP 0 rfl rfl 6 (by decide) fl19 (fun _ h9 => h9) rfl dX2_made_80 ?_
        refine lv_iload hx hb dX2_made_83 (lv_at hl 0 rfl) ?_
        refine a_ld hx hb hK hP 4 0 rfl rfl sd (rfl) (hsd) (by decide) dX2_made_85 ?_
        refine r_S ⟨hx, hb, hml, hown, hts⟩ (k_X2_together l D cI cJ (τ 0 (10 * j + i)) (τ 3 sd)) (va_cwS 2 hts gX2_made_X2_together rfl rfl rfl (by decide +kernel) ⟨Nat.le_of_ble_eq_true rfl, Nat.le_of_ble_eq_true rfl⟩) P_nil hK rfl hl.1 rfl (Nat.le_of_ble_eq_true rfl) dX2_made_86 (Nat.zero_le _) (Nat.zero_le _) ?_
        refine lv_goto (tgt := 93) hx hb dX2_made_89 (by decide) ?_
        exact jn6 _ (by rw [if_neg c8])
    · -- on from 93
      subst eb7
      refine lv_istore (lv' := [(5, .int (if mBes X Y (nI sd) (nI i) (nI j) = 0 then 0 else cpl (τ 0 (10 * j + i)) (τ 3 sd))), (4, .int (nI sd)), (0, .ref (am 6)), (1, .int (nI i)), (2, .int (nI j)), (3, .int (τ 0 (10 * j + i)))]) hx hb dX2_made_93 hl (by decide) rfl (fun ls hl => ?_)
      refine lv_aload_n hx hb dX2_made_95 rfl (lv_at hl 2 rfl) ?_
      refine lv_aload_n hx hb dX2_made_96 rfl (lv_at hl 2 rfl) ?_
      refine va_get (D := D) (cl := vwCl) (ci := 2) (v := .long ((n_md X Y τ i j ℓ sd) 1 0)) (C := RX2) (T := TX2) (N := 15) hx hb hts inX2 hown hK hP 0 rfl rfl 10 (by decide) fl59 (fun _ h9 => h9) rfl dX2_made_97 ?_
      refine lv_iload hx hb dX2_made_100 (lv_at hl 0 rfl) ?_
      refine lv_i2l (v := (if mBes X Y (nI sd) (nI i) (nI j) = 0 then 0 else cpl (τ 0 (10 * j + i)) (τ 3 sd)).toInt64) hx hb dX2_made_102 rfl ?_
      refine lv_aload_n hx hb dX2_made_103 rfl (lv_at hl 2 rfl) ?_
      refine va_get (D := D) (cl := vwCl) (ci := 2) (v := .ref (am 2)) (C := RX2) (T := TX2) (N := 15) hx hb hts inX2 hown hK hP 0 rfl rfl 5 (by decide) fl16 (fun _ h9 => h9) rfl dX2_made_104 ?_
      refine lv_iload hx hb dX2_made_107 (lv_at hl 1 rfl) ?_
      refine a_ld hx hb hK hP 3 0 rfl rfl sd (rfl) (hsd) (by decide) dX2_made_109 ?_
      refine lv_i2l (v := (τ 2 sd).toInt64) hx hb dX2_made_110 rfl ?_
      refine lv_lmul hx hb dX2_made_111 ?_
      refine lv_ladd hx hb dX2_made_112 ?_
      refine va_put (D := D) (cl := vwCl) (ci := 2) (v := .long (((n_md X Y τ i j ℓ sd) 1 0) + (((if mBes X Y (nI sd) (nI i) (nI j) = 0 then 0 else cpl (τ 0 (10 * j + i)) (τ 3 sd)).toInt64) * ((τ 2 sd).toInt64)))) (ty := .long) (C := RX2) (T := TX2) (N := 15) hx hb hts inX2 tyX2 tyX2_ok nmX2 hown hK hP hD hS 0 rfl rfl 10 (by decide) fl59 (fun _ h9 => h9) rfl (by decide +kernel) rfl rfl (Nat.le_of_ble_eq_true rfl) dX2_made_113 (fun H locs hP _ hS => ?_)
      obtain ⟨ℓ9, eℓ9⟩ : ∃ z, z = upL (n_md X Y τ i j ℓ sd) 1 0 (((n_md X Y τ i j ℓ sd) 1 0) + (((if mBes X Y (nI sd) (nI i) (nI j) = 0 then 0 else cpl (τ 0 (10 * j + i)) (τ 3 sd)).toInt64) * ((τ 2 sd).toInt64))) := ⟨_, rfl⟩
      replace hP : va_P D vwCl (wM am cI cJ X Y τ ℓ9) H := by rw [eℓ9]; exact hP
      have hP : va_P D vwCl (wM am cI cJ X Y τ ℓ9) H := hP
      have hD : va_D A (wM am cI cJ X Y τ ℓ9) := wM_D hD _ _
      refine lv_aload_n hx hb dX2_made_116 rfl (lv_at hl 2 rfl) ?_
      refine lv_aload_n hx hb dX2_made_117 rfl (lv_at hl 2 rfl) ?_
      refine va_get (D := D) (cl := vwCl) (ci := 2) (v := .long (ℓ9 1 1)) (C := RX2) (T := TX2) (N := 15) hx hb hts inX2 hown hK hP 0 rfl rfl 11 (by decide) fl63 (fun _ h9 => h9) rfl dX2_made_118 ?_
      refine lv_iload hx hb dX2_made_121 (lv_at hl 0 rfl) ?_
      refine lv_i2l (v := (if mBes X Y (nI sd) (nI i) (nI j) = 0 then 0 else cpl (τ 0 (10 * j + i)) (τ 3 sd)).toInt64) hx hb dX2_made_123 rfl ?_
      refine lv_ladd hx hb dX2_made_124 ?_
      refine va_put (D := D) (cl := vwCl) (ci := 2) (v := .long ((ℓ9 1 1) + ((if mBes X Y (nI sd) (nI i) (nI j) = 0 then 0 else cpl (τ 0 (10 * j + i)) (τ 3 sd)).toInt64))) (ty := .long) (C := RX2) (T := TX2) (N := 15) hx hb hts inX2 tyX2 tyX2_ok nmX2 hown hK hP hD hS 0 rfl rfl 11 (by decide) fl63 (fun _ h9 => h9) rfl (by decide +kernel) rfl rfl (Nat.le_of_ble_eq_true rfl) dX2_made_125 (fun H locs hP _ hS => ?_)
      obtain ⟨ℓ10, eℓ10⟩ : ∃ z, z = upL ℓ9 1 1 ((ℓ9 1 1) + ((if mBes X Y (nI sd) (nI i) (nI j) = 0 then 0 else cpl (τ 0 (10 * j + i)) (τ 3 sd)).toInt64)) := ⟨_, rfl⟩
      replace hP : va_P D vwCl (wM am cI cJ X Y τ ℓ10) H := by rw [eℓ10]; exact hP
      have hP : va_P D vwCl (wM am cI cJ X Y τ ℓ10) H := hP
      have hD : va_D A (wM am cI cJ X Y τ ℓ10) := wM_D hD _ _
      refine a_inc hx hb (k := 1) (lv' := [(4, .int (nI (sd + 1))), (5, .int (if mBes X Y (nI sd) (nI i) (nI j) = 0 then 0 else cpl (τ 0 (10 * j + i)) (τ 3 sd))), (0, .ref (am 6)), (1, .int (nI i)), (2, .int (nI j)), (3, .int (τ 0 (10 * j + i)))]) sd dX2_made_128 hl rfl (by decide) rfl (fun ls hl => ?_)
      refine lv_goto (tgt := 61) hx hb dX2_made_131 (by decide) ?_
      subst eℓ10 eℓ9
      exact ih3 _ _ _ ⟨lv_sub hl [0, 2, 3, 4, 5] rfl, hP, hS⟩
