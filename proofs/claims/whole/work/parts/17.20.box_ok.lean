set_option maxHeartbeats 4000000 in
set_option maxRecDepth 100000 in
theorem k_X2_box_ok (l : Launch) (D : va_G) (cI cJ : ClassId) (am : Nat → Nat) (X Y : Nat) (τ : Nat → Nat → Int32) (ℓ : Nat → Nat → Int64) (hB : 1 ≤ X ∧ X ≤ 10 ∧ 1 ≤ Y ∧ Y ≤ 10) (i0 j0 i1 j1 : Nat) (v : Int32) (hv : ¬ vBox X Y (nI i0) (nI j0) (nI i1) (nI j1) v = 0) (hi : i0 ≤ i1) (hi1 : i1 < X) (hj : j0 ≤ j1) (hj1 : j1 < Y) : wMet l yX2_box wsX2_box 2 44 D (tY cI cJ) (wM am cI cJ X Y τ ℓ) (wM am cI cJ X Y (f_mbox i0 j0 i1 j1 v τ) ℓ) [.ref (am 6), .int (nI i0), .int (nI j0), .int (nI i1), .int (nI j1), .int v] (some (.int (n_mc (f_mbox i0 j0 i1 j1 v τ) 100))) := by
  refine Met.ofW (cc := cX2_box) (maxL := 8) (ret := (some .int)) (by decide) rfl ?_
  intro p e s m args below meth c s₁ B hml hv
  obtain ⟨rfl, hP, hK, hD0⟩ := hv
  have hx := B.exec
  have hb := B.bytes
  have hr := B.returns
  have hts := atoms_spec (ws := wsX2_box) B.pre
  have hown : s.vm.findClass RX2 = some m.cls := findClass_of_methodNamed B.named
  have hlocks := B.notSynchronized
  have inX2 : ∀ w ∈ wsX20, w ∈ wsX2_box := by decide +kernel
  have fl51 := hts (.fieldLink RX2 51 "BridgeCellsModel" "isSettled" "Z") (by decide +kernel)
  have fl7 := hts (.fieldLink RX2 7 "BridgeCellsModel" "leads" "[I") (by decide +kernel)
  have hl := lv_entry ([.ref (am 6), .int (nI i0), .int (nI j0), .int (nI i1), .int (nI j1), .int v]) (n := 8) (Nat.le_of_ble_eq_true rfl)
  rw [lg_entry_eq]
  generalize (lg_sl ([.ref (am 6), .int (nI i0), .int (nI j0), .int (nI i1), .int (nI j1), .int v]) ++ List.replicate (8 - (lg_sl ([.ref (am 6), .int (nI i0), .int (nI j0), .int (nI i1), .int (nI j1), .int v])).length) Slot.unset).toArray = ls at hl ⊢
  have hl : lv_has ls 8 [(0, .ref (am 6)), (1, .int (nI i0)), (2, .int (nI j0)), (3, .int (nI i1)), (4, .int (nI j1)), (5, .int v)] := hl
  have hD := aw_D hD0
  generalize hAe : aw (wM am cI cJ X Y τ ℓ) = A at hD ⊢
  have hS : va_S A s.heap s.heap [] := va_S.rf
  refine lv_aload_n hx hb dX2_box_0 rfl (lv_at hl 0 rfl) ?_
  refine W_jn (β := Int32) (fun b2 => b2 = vBox X Y (nI i0) (nI j0) (nI i1) (nI j1) v) (fun b2 => F0 m 47 ls [.int b2, .ref (am 6)]) (fun jn1 => ?_) (fun b2 eb2 => ?_)
  · -- roads to 47
    refine lv_aload_n hx hb dX2_box_1 rfl (lv_at hl 0 rfl) ?_
    refine lv_iload_n hx hb dX2_box_2 rfl (lv_at hl 1 rfl) ?_
    refine lv_iload_n hx hb dX2_box_3 rfl (lv_at hl 2 rfl) ?_
    refine r_V ⟨hx, hb, hml, hown, hts⟩ (k_X2_isCell l D cI cJ am X Y τ ℓ hB (nI i0) (nI j0) ) (cwV 2 hts gX2_box_X2_isCell rfl rfl rfl (by decide +kernel) ⟨Nat.le_of_ble_eq_true rfl, Nat.le_of_ble_eq_true rfl⟩) hP hK (va_recv hK hP (ci := 2) (q0 := 0) rfl rfl) rfl hl.1 rfl (Nat.le_of_ble_eq_true rfl) dX2_box_4 (Nat.zero_le _) (Nat.zero_le _) ?_
    refine lv_if_eq (tgt := 46) hx hb dX2_box_7 (by decide) (fun c3 => ?_) (fun c3 => ?_)
    · -- 46
      refine lv_iconst (v := 0) hx hb dX2_box_46 (by decide) ?_
      exact jn1 _ (by unfold vBox; rw [if_pos c3])
    · -- 10
      refine lv_aload_n hx hb dX2_box_10 rfl (lv_at hl 0 rfl) ?_
      refine lv_iload_n hx hb dX2_box_11 rfl (lv_at hl 3 rfl) ?_
      refine lv_iload hx hb dX2_box_12 (lv_at hl 4 rfl) ?_
      refine r_V ⟨hx, hb, hml, hown, hts⟩ (k_X2_isCell l D cI cJ am X Y τ ℓ hB (nI i1) (nI j1) ) (cwV 2 hts gX2_box_X2_isCell rfl rfl rfl (by decide +kernel) ⟨Nat.le_of_ble_eq_true rfl, Nat.le_of_ble_eq_true rfl⟩) hP hK (va_recv hK hP (ci := 2) (q0 := 0) rfl rfl) rfl hl.1 rfl (Nat.le_of_ble_eq_true rfl) dX2_box_14 (Nat.zero_le _) (Nat.zero_le _) ?_
      refine lv_if_eq (tgt := 46) hx hb dX2_box_17 (by decide) (fun c4 => ?_) (fun c4 => ?_)
      · -- 46
        refine lv_iconst (v := 0) hx hb dX2_box_46 (by decide) ?_
        exact jn1 _ (by unfold vBox; rw [if_neg c3, if_pos c4])
      · -- 20
        refine lv_iload_n hx hb dX2_box_20 rfl (lv_at hl 1 rfl) ?_
        refine lv_iload_n hx hb dX2_box_21 rfl (lv_at hl 3 rfl) ?_
        refine lv_icmp_gt (tgt := 46) hx hb dX2_box_22 (by decide) (fun c5 => ?_) (fun c5 => ?_)
        · -- 46
          refine lv_iconst (v := 0) hx hb dX2_box_46 (by decide) ?_
          exact jn1 _ (by unfold vBox; rw [if_neg c3, if_neg c4, if_pos c5])
        · -- 25
          refine lv_iload_n hx hb dX2_box_25 rfl (lv_at hl 2 rfl) ?_
          refine lv_iload hx hb dX2_box_26 (lv_at hl 4 rfl) ?_
          refine lv_icmp_gt (tgt := 46) hx hb dX2_box_28 (by decide) (fun c6 => ?_) (fun c6 => ?_)
          · -- 46
            refine lv_iconst (v := 0) hx hb dX2_box_46 (by decide) ?_
            exact jn1 _ (by unfold vBox; rw [if_neg c3, if_neg c4, if_neg c5, if_pos c6])
          · -- 31
            refine lv_iload hx hb dX2_box_31 (lv_at hl 5 rfl) ?_
            refine lv_iconst (v := 0) hx hb dX2_box_33 (by decide) ?_
            refine lv_bipush (v := 20) hx hb dX2_box_34 (by decide) ?_
            refine r_S ⟨hx, hb, hml, hown, hts⟩ (k_X2_in l D cI cJ v 0 20) (va_cwS 3 hts gX2_box_X2_in rfl rfl rfl (by decide +kernel) ⟨Nat.le_of_ble_eq_true rfl, Nat.le_of_ble_eq_true rfl⟩) P_nil hK rfl hl.1 rfl (Nat.le_of_ble_eq_true rfl) dX2_box_36 (Nat.zero_le _) (Nat.zero_le _) ?_
            refine lv_if_eq (tgt := 46) hx hb dX2_box_39 (by decide) (fun c7 => ?_) (fun c7 => ?_)
            · -- 46
              refine lv_iconst (v := 0) hx hb dX2_box_46 (by decide) ?_
              exact jn1 _ (by unfold vBox; rw [if_neg c3, if_neg c4, if_neg c5, if_neg c6, if_pos c7])
            · -- 42
              refine lv_iconst (v := 1) hx hb dX2_box_42 (by decide) ?_
              refine lv_goto (tgt := 47) hx hb dX2_box_43 (by decide) ?_
              exact jn1 _ (by unfold vBox; rw [if_neg c3, if_neg c4, if_neg c5, if_neg c6, if_neg c7])
  · -- on from 47
    subst eb2
    refine w_V (A := A) ⟨hx, hb, hml, hown, hts⟩ (k_X2_may l D cI cJ am X Y τ ℓ hB (vBox X Y (nI i0) (nI j0) (nI i1) (nI j1) v) (by unfold vBox; repeat (first | rfl | split))) (cwV 1 hts gX2_box_X2_may rfl rfl rfl (by decide +kernel) ⟨Nat.le_of_ble_eq_true rfl, Nat.le_of_ble_eq_true rfl⟩) ([]) ([]) hP hD hS hK (va_recv hK hP (ci := 2) (q0 := 0) rfl rfl) rfl hl.1 rfl (Nat.le_of_ble_eq_true rfl) dX2_box_47 (Nat.zero_le _) (Nat.zero_le _) (fun H locs hP hS => ?_)
    have hP : va_P D vwCl (wM am cI cJ X Y (up2 τ 5 0 (if (vBox X Y (nI i0) (nI j0) (nI i1) (nI j1) v) = 0 then 1 else 0)) ℓ) H := hP
    have hD : va_D A (wM am cI cJ X Y (up2 τ 5 0 (if (vBox X Y (nI i0) (nI j0) (nI i1) (nI j1) v) = 0 then 1 else 0)) ℓ) := wM_D hD _ _
    refine lv_if_ne (tgt := 55) hx hb dX2_box_50 (by decide) (fun _ => ?_) (fun c9 => absurd c9 hv)
    rw [if_neg hv] at hP
    have hD : va_D A (wM am cI cJ X Y (up2 τ 5 0 0) ℓ) := wM_D hD _ _
    refine lv_aload_n hx hb dX2_box_55 rfl (lv_at hl 0 rfl) ?_
    refine lv_iconst (v := 0) hx hb dX2_box_56 (by decide) ?_
    refine va_put (D := D) (cl := vwCl) (ci := 2) (v := .int 0) (ty := .boolean) (C := RX2) (T := TX2) (N := 15) hx hb hts inX2 tyX2 tyX2_ok nmX2 hown hK hP hD hS 0 rfl rfl 7 (by decide) fl51 (fun _ h9 => h9) rfl (by decide +kernel) rfl rfl (Nat.le_of_ble_eq_true rfl) dX2_box_57 (fun H locs hP _ hS => ?_)
    obtain ⟨τ8, eτ8⟩ : ∃ z, z = up2 (up2 τ 5 0 0) 5 1 0 := ⟨_, rfl⟩
    replace hP : va_P D vwCl (wM am cI cJ X Y τ8 ℓ) H := by rw [eτ8]; exact hP
    have hP : va_P D vwCl (wM am cI cJ X Y τ8 ℓ) H := hP
    have hD : va_D A (wM am cI cJ X Y τ8 ℓ) := wM_D hD _ _
    refine lv_iload_n hx hb dX2_box_60 rfl (lv_at hl 2 rfl) ?_
    refine lv_istore (lv' := [(6, .int (nI j0)), (0, .ref (am 6)), (1, .int (nI i0)), (2, .int (nI j0)), (3, .int (nI i1)), (4, .int (nI j1)), (5, .int v)]) hx hb dX2_box_61 hl (by decide) rfl (fun ls hl => ?_)
    subst eτ8
    refine W_lw (fun u ls H locs => lv_has ls 8 [(6, .int (nI (j0 + u))), (0, .ref (am 6)), (1, .int (nI i0)), (3, .int (nI i1)), (4, .int (nI j1)), (5, .int v)] ∧ va_P D vwCl (wM am cI cJ X Y (f_mbA i0 j0 (i1 + 1 - i0) v (up2 (up2 τ 5 0 0) 5 1 0) u) ℓ) H ∧ va_S A s.heap H locs) (j1 + 1 - j0) (0) (Nat.zero_le _) ⟨lv_sub hl [0, 1, 2, 4, 5, 6] rfl, hP, hS⟩ (fun ls H locs hq => ?_) (fun u ls H locs hu hq ih9 => ?_)
    · -- behind the loop
      obtain ⟨hl, hP, hS⟩ := hq
      have hD : va_D A (wM am cI cJ X Y (f_mbA i0 j0 (i1 + 1 - i0) v (up2 (up2 τ 5 0 0) 5 1 0) (j1 + 1 - j0)) ℓ) := wM_D hD _ _
      refine lv_iload hx hb dX2_box_63 (lv_at hl 0 rfl) ?_
      refine lv_iload hx hb dX2_box_65 (lv_at hl 4 rfl) ?_
      refine lv_icmp_gt (tgt := 106) hx hb dX2_box_67 (by decide) (fun _ => ?_) (fun c9 => False.elim (c9 (nI_lt (by omega) (by omega))))
      refine lv_iconst (v := 0) hx hb dX2_box_106 (by decide) ?_
      refine lv_istore (lv' := [(6, .int 0), (0, .ref (am 6)), (1, .int (nI i0)), (3, .int (nI i1)), (4, .int (nI j1)), (5, .int v)]) hx hb dX2_box_107 hl (by decide) rfl (fun ls hl => ?_)
      refine lv_iconst (v := nI 0) hx hb dX2_box_109 (by decide) ?_
      refine lv_istore (lv' := [(7, .int (nI 0)), (6, .int 0), (0, .ref (am 6)), (1, .int (nI i0)), (3, .int (nI i1)), (4, .int (nI j1)), (5, .int v)]) hx hb dX2_box_110 hl (by decide) rfl (fun ls hl => ?_)
      have hP : va_P D vwCl (wM am cI cJ X Y (f_mbox i0 j0 i1 j1 v τ) ℓ) H := hP
      have hD : va_D A (wM am cI cJ X Y (f_mbox i0 j0 i1 j1 v τ) ℓ) := wM_D hD _ _
      refine W_lr (fun k ls => lv_has ls 8 [(6, .int (n_mc (f_mbox i0 j0 i1 j1 v τ) k)), (7, .int (nI k)), (0, .ref (am 6))]) (100) (0) (Nat.zero_le _) (lv_sub hl [1, 0, 2] rfl) (fun ls hl => ?_) (fun k ls hk hl ih10 => ?_)
      · -- behind the loop
        refine lv_iload hx hb dX2_box_112 (lv_at hl 1 rfl) ?_
        refine lv_bipush (v := nI 100) hx hb dX2_box_114 (by decide) ?_
        refine lv_icmp_ge (tgt := 146) hx hb dX2_box_116 (by decide) (fun _ => ?_) (fun c9 => False.elim (c9 (nI_le (Nat.le_refl _) (by decide))))
        refine lv_iload hx hb dX2_box_146 (lv_at hl 0 rfl) ?_
        exact W.iret hx hb hr (fun t ht _ => ⟨rfl, by rw [ht]; exact hP, by rw [hAe]; exact hS.F ht⟩) hS.2.2 dX2_box_148
      · -- one round
        refine lv_iload hx hb dX2_box_112 (lv_at hl 1 rfl) ?_
        refine lv_bipush (v := nI 100) hx hb dX2_box_114 (by decide) ?_
        refine lv_icmp_ge (tgt := 146) hx hb dX2_box_116 (by decide) (fun c9 => False.elim (nI_ge hk (by decide) c9)) (fun _ => ?_)
        refine W_jn (β := Int32) (fun b12 => b12 = (if (f_mbox i0 j0 i1 j1 v τ) 0 k ≤ 0 then n_mc (f_mbox i0 j0 i1 j1 v τ) k else n_mc (f_mbox i0 j0 i1 j1 v τ) k + 1)) (fun b12 => F0 m 138 ls [.int b12]) (fun jn11 => ?_) (fun b12 eb12 => ?_)
        · -- roads to 138
          refine lv_aload_n hx hb dX2_box_119 rfl (lv_at hl 2 rfl) ?_
          refine va_get (D := D) (cl := vwCl) (ci := 2) (v := .ref (am 0)) (C := RX2) (T := TX2) (N := 15) hx hb hts inX2 hown hK hP 0 rfl rfl 3 (by decide) fl7 (fun _ h9 => h9) rfl dX2_box_120 ?_
          refine lv_iload hx hb dX2_box_123 (lv_at hl 1 rfl) ?_
          refine a_ld hx hb hK hP 1 0 rfl rfl k (rfl) (hk) (by decide) dX2_box_125 ?_
          refine lv_if_le (tgt := 136) hx hb dX2_box_126 (by decide) (fun c13 => ?_) (fun c13 => ?_)
          · -- 136
            refine lv_iload hx hb dX2_box_136 (lv_at hl 0 rfl) ?_
            exact jn11 _ (by rw [if_pos c13])
          · -- 129
            refine lv_iload hx hb dX2_box_129 (lv_at hl 0 rfl) ?_
            refine lv_iconst (v := 1) hx hb dX2_box_131 (by decide) ?_
            refine lv_iadd hx hb dX2_box_132 ?_
            refine lv_goto (tgt := 138) hx hb dX2_box_133 (by decide) ?_
            exact jn11 _ (by rw [if_neg c13])
        · -- on from 138
          subst eb12
          refine lv_istore (lv' := [(6, .int (if (f_mbox i0 j0 i1 j1 v τ) 0 k ≤ 0 then n_mc (f_mbox i0 j0 i1 j1 v τ) k else n_mc (f_mbox i0 j0 i1 j1 v τ) k + 1)), (7, .int (nI k)), (0, .ref (am 6))]) hx hb dX2_box_138 hl (by decide) rfl (fun ls hl => ?_)
          refine a_inc hx hb (k := 1) (lv' := [(7, .int (nI (k + 1))), (6, .int (if (f_mbox i0 j0 i1 j1 v τ) 0 k ≤ 0 then n_mc (f_mbox i0 j0 i1 j1 v τ) k else n_mc (f_mbox i0 j0 i1 j1 v τ) k + 1)), (0, .ref (am 6))]) k dX2_box_140 hl rfl (by decide) rfl (fun ls hl => ?_)
          refine lv_goto (tgt := 112) hx hb dX2_box_143 (by decide) ?_
          exact ih10 _ (lv_sub hl [1, 0, 2] rfl)
    · -- one round
      obtain ⟨hl, hP, hS⟩ := hq
      have hD : va_D A (wM am cI cJ X Y (f_mbA i0 j0 (i1 + 1 - i0) v (up2 (up2 τ 5 0 0) 5 1 0) u) ℓ) := wM_D hD _ _
      refine lv_iload hx hb dX2_box_63 (lv_at hl 0 rfl) ?_
      refine lv_iload hx hb dX2_box_65 (lv_at hl 4 rfl) ?_
      refine lv_icmp_gt (tgt := 106) hx hb dX2_box_67 (by decide) (fun c9 => False.elim (nI_le2 (show j0 + u ≤ j1 by omega) (by omega) c9)) (fun _ => ?_)
      refine lv_iload_n hx hb dX2_box_70 rfl (lv_at hl 2 rfl) ?_
      refine lv_istore (lv' := [(7, .int (nI i0)), (6, .int (nI (j0 + u))), (0, .ref (am 6)), (1, .int (nI i0)), (3, .int (nI i1)), (4, .int (nI j1)), (5, .int v)]) hx hb dX2_box_71 hl (by decide) rfl (fun ls hl => ?_)
      refine W_lw (fun t ls H locs => lv_has ls 8 [(6, .int (nI (j0 + u))), (7, .int (nI (i0 + t))), (0, .ref (am 6)), (1, .int (nI i0)), (3, .int (nI i1)), (4, .int (nI j1)), (5, .int v)] ∧ va_P D vwCl (wM am cI cJ X Y (f_mbR i0 (j0 + u) v (f_mbA i0 j0 (i1 + 1 - i0) v (up2 (up2 τ 5 0 0) 5 1 0) u) t) ℓ) H ∧ va_S A s.heap H locs) (i1 + 1 - i0) (0) (Nat.zero_le _) ⟨lv_sub hl [1, 0, 2, 3, 4, 5, 6] rfl, hP, hS⟩ (fun ls H locs hq => ?_) (fun t ls H locs ht hq ih14 => ?_)
      · -- behind the loop
        obtain ⟨hl, hP, hS⟩ := hq
        have hD : va_D A (wM am cI cJ X Y (f_mbR i0 (j0 + u) v (f_mbA i0 j0 (i1 + 1 - i0) v (up2 (up2 τ 5 0 0) 5 1 0) u) (i1 + 1 - i0)) ℓ) := wM_D hD _ _
        refine lv_iload hx hb dX2_box_73 (lv_at hl 1 rfl) ?_
        refine lv_iload_n hx hb dX2_box_75 rfl (lv_at hl 4 rfl) ?_
        refine lv_icmp_gt (tgt := 100) hx hb dX2_box_76 (by decide) (fun _ => ?_) (fun c9 => False.elim (c9 (nI_lt (by omega) (by omega))))
        refine a_inc hx hb (k := 0) (lv' := [(6, .int (nI ((j0 + u) + 1))), (7, .int (nI (i0 + (i1 + 1 - i0)))), (0, .ref (am 6)), (1, .int (nI i0)), (3, .int (nI i1)), (4, .int (nI j1)), (5, .int v)]) (j0 + u) dX2_box_100 hl rfl (by decide) rfl (fun ls hl => ?_)
        refine lv_goto (tgt := 63) hx hb dX2_box_103 (by decide) ?_
        exact ih9 _ _ _ ⟨lv_sub hl [0, 2, 3, 4, 5, 6] rfl, hP, hS⟩
      · -- one round
        obtain ⟨hl, hP, hS⟩ := hq
        have hD : va_D A (wM am cI cJ X Y (f_mbR i0 (j0 + u) v (f_mbA i0 j0 (i1 + 1 - i0) v (up2 (up2 τ 5 0 0) 5 1 0) u) t) ℓ) := wM_D hD _ _
        refine lv_iload hx hb dX2_box_73 (lv_at hl 1 rfl) ?_
        refine lv_iload_n hx hb dX2_box_75 rfl (lv_at hl 4 rfl) ?_
        refine lv_icmp_gt (tgt := 100) hx hb dX2_box_76 (by decide) (fun c9 => False.elim (nI_le2 (show i0 + t ≤ i1 by omega) (by omega) c9)) (fun _ => ?_)
        refine lv_aload_n hx hb dX2_box_79 rfl (lv_at hl 2 rfl) ?_
        refine va_get (D := D) (cl := vwCl) (ci := 2) (v := .ref (am 0)) (C := RX2) (T := TX2) (N := 15) hx hb hts inX2 hown hK hP 0 rfl rfl 3 (by decide) fl7 (fun _ h9 => h9) rfl dX2_box_80 ?_
        refine lv_bipush (v := nI 10) hx hb dX2_box_83 (by decide) ?_
        refine lv_iload hx hb dX2_box_85 (lv_at hl 0 rfl) ?_
        refine lv_imul hx hb dX2_box_87 ?_
        refine top_eq (y := nI (10 * (j0 + u))) (pk_mul 10 (j0 + u)) ?_
        refine lv_iload hx hb dX2_box_88 (lv_at hl 1 rfl) ?_
        refine lv_iadd hx hb dX2_box_90 ?_
        refine top_eq (y := nI ((10 * (j0 + u)) + (i0 + t))) (nI_add (10 * (j0 + u)) (i0 + t)) ?_
        refine lv_iload hx hb dX2_box_91 (lv_at hl 6 rfl) ?_
        refine a_st hx hb hK hP hD hS 1 0 rfl rfl ((10 * (j0 + u)) + (i0 + t)) (rfl) (by omega) (by decide) dX2_box_93 (fun H locs hP hS => ?_)
        obtain ⟨τ15, eτ15⟩ : ∃ z, z = up2 (f_mbR i0 (j0 + u) v (f_mbA i0 j0 (i1 + 1 - i0) v (up2 (up2 τ 5 0 0) 5 1 0) u) t) 0 ((10 * (j0 + u)) + (i0 + t)) v := ⟨_, rfl⟩
        replace hP : va_P D vwCl (wM am cI cJ X Y τ15 ℓ) H := by rw [eτ15]; exact hP
        have hP : va_P D vwCl (wM am cI cJ X Y τ15 ℓ) H := hP
        have hD : va_D A (wM am cI cJ X Y τ15 ℓ) := wM_D hD _ _
        refine a_inc hx hb (k := 1) (lv' := [(7, .int (nI ((i0 + t) + 1))), (6, .int (nI (j0 + u))), (0, .ref (am 6)), (1, .int (nI i0)), (3, .int (nI i1)), (4, .int (nI j1)), (5, .int v)]) (i0 + t) dX2_box_94 hl rfl (by decide) rfl (fun ls hl => ?_)
        refine lv_goto (tgt := 73) hx hb dX2_box_97 (by decide) ?_
        subst eτ15
        exact ih14 _ _ _ ⟨lv_sub hl [1, 0, 2, 3, 4, 5, 6] rfl, hP, hS⟩
