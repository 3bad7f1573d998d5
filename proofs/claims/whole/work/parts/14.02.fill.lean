set_option maxHeartbeats 4000000 in
set_option maxRecDepth 100000 in
theorem k_X0_fill (l : Launch) (D : va_G) (cI cJ : ClassId) (ad : Nat → Nat) (X Y : Nat) (σ : Nat → Nat → Int32) (hB : 1 ≤ X ∧ X ≤ 10 ∧ 1 ≤ Y ∧ Y ≤ 10) (i0 j0 i1 j1 : Nat) (v : Int32) (hi : i0 ≤ i1) (hi1 : i1 < X) (hj : j0 ≤ j1) (hj1 : j1 < Y) : wMet l yX0_fill wsX0_fill 1 22 D (tY cI cJ) (wS ad cI X Y σ) (wS ad cI X Y (f_fill X i0 j0 i1 j1 v σ)) [.ref (ad 8), .int (nI i0), .int (nI j0), .int (nI i1), .int (nI j1), .int v] none := by
  refine Met.ofW (cc := cX0_fill) (maxL := 8) (ret := none) (by decide) rfl ?_
  intro p e s m args below meth c s₁ B hml hv
  obtain ⟨rfl, hP, hK, hD0⟩ := hv
  have hx := B.exec
  have hb := B.bytes
  have hr := B.returns
  have hts := atoms_spec (ws := wsX0_fill) B.pre
  have hown : s.vm.findClass RX0 = some m.cls := findClass_of_methodNamed B.named
  have hlocks := B.notSynchronized
  have inX0 : ∀ w ∈ wsX00, w ∈ wsX0_fill := by decide +kernel
  have fl25 := hts (.fieldLink RX0 25 "BridgeCells$Section" "settled" "Z") (by decide +kernel)
  have fl38 := hts (.fieldLink RX0 38 "BridgeCells$Section" "conduct" "[I") (by decide +kernel)
  have hl := lv_entry ([.ref (ad 8), .int (nI i0), .int (nI j0), .int (nI i1), .int (nI j1), .int v]) (n := 8) (Nat.le_of_ble_eq_true rfl)
  rw [lg_entry_eq]
  generalize (lg_sl ([.ref (ad 8), .int (nI i0), .int (nI j0), .int (nI i1), .int (nI j1), .int v]) ++ List.replicate (8 - (lg_sl ([.ref (ad 8), .int (nI i0), .int (nI j0), .int (nI i1), .int (nI j1), .int v])).length) Slot.unset).toArray = ls at hl ⊢
  have hl : lv_has ls 8 [(0, .ref (ad 8)), (1, .int (nI i0)), (2, .int (nI j0)), (3, .int (nI i1)), (4, .int (nI j1)), (5, .int v)] := hl
  have hD := aw_D hD0
  generalize hAe : aw (wS ad cI X Y σ) = A at hD ⊢
  have hS : va_S A s.heap s.heap [] := va_S.rf
  refine lv_iload_n hx hb dX0_fill_0 rfl (lv_at hl 2 rfl) ?_
  refine lv_istore (lv' := [(6, .int (nI j0)), (0, .ref (ad 8)), (1, .int (nI i0)), (2, .int (nI j0)), (3, .int (nI i1)), (4, .int (nI j1)), (5, .int v)]) hx hb dX0_fill_1 hl (by decide) rfl (fun ls hl => ?_)
  refine W_lw (fun u ls H locs => lv_has ls 8 [(6, .int (nI (j0 + u))), (0, .ref (ad 8)), (1, .int (nI i0)), (3, .int (nI i1)), (4, .int (nI j1)), (5, .int v)] ∧ va_P D vwCl (wS ad cI X Y (f_fillA X i0 j0 (i1 + 1 - i0) v σ u)) H ∧ va_S A s.heap H locs) (j1 + 1 - j0) (0) (Nat.zero_le _) ⟨lv_sub hl [0, 1, 2, 4, 5, 6] rfl, hP, hS⟩ (fun ls H locs hq => ?_) (fun u ls H locs hu hq ih1 => ?_)
  · -- behind the loop
    obtain ⟨hl, hP, hS⟩ := hq
    have hD : va_D A (wS ad cI X Y (f_fillA X i0 j0 (i1 + 1 - i0) v σ (j1 + 1 - j0))) := wS_D hD _
    refine lv_iload hx hb dX0_fill_3 (lv_at hl 0 rfl) ?_
    refine lv_iload hx hb dX0_fill_5 (lv_at hl 4 rfl) ?_
    refine lv_icmp_gt (tgt := 46) hx hb dX0_fill_7 (by decide) (fun _ => ?_) (fun c9 => False.elim (c9 (nI_lt (by omega) (by omega))))
    refine lv_aload_n hx hb dX0_fill_46 rfl (lv_at hl 1 rfl) ?_
    refine lv_iconst (v := 0) hx hb dX0_fill_47 (by decide) ?_
    refine va_put (D := D) (cl := vwCl) (ci := 0) (v := .int 0) (ty := .boolean) (C := RX0) (T := TX0) (N := 14) hx hb hts inX0 tyX0 tyX0_ok nmX0 hown hK hP hD hS 0 rfl rfl 13 (by decide) fl25 (fun _ h9 => h9) rfl (by decide +kernel) rfl rfl (Nat.le_of_ble_eq_true rfl) dX0_fill_48 (fun H locs hP _ hS => ?_)
    obtain ⟨σ2, eσ2⟩ : ∃ z, z = up2 (f_fillA X i0 j0 (i1 + 1 - i0) v σ (j1 + 1 - j0)) 8 2 0 := ⟨_, rfl⟩
    replace hP : va_P D vwCl (wS ad cI X Y σ2) H := by rw [eσ2]; exact hP
    have hP : va_P D vwCl (wS ad cI X Y σ2) H := hP
    have hD : va_D A (wS ad cI X Y σ2) := wS_D hD _
    subst eσ2
    exact W.vret hx hb hr (fun t ht _ => ⟨rfl, by rw [ht]; exact hP, by rw [hAe]; exact hS.F ht⟩) hS.2.2 dX0_fill_51
  · -- one round
    obtain ⟨hl, hP, hS⟩ := hq
    have hD : va_D A (wS ad cI X Y (f_fillA X i0 j0 (i1 + 1 - i0) v σ u)) := wS_D hD _
    refine lv_iload hx hb dX0_fill_3 (lv_at hl 0 rfl) ?_
    refine lv_iload hx hb dX0_fill_5 (lv_at hl 4 rfl) ?_
    refine lv_icmp_gt (tgt := 46) hx hb dX0_fill_7 (by decide) (fun c9 => False.elim (nI_le2 (show j0 + u ≤ j1 by omega) (by omega) c9)) (fun _ => ?_)
    refine lv_iload_n hx hb dX0_fill_10 rfl (lv_at hl 2 rfl) ?_
    refine lv_istore (lv' := [(7, .int (nI i0)), (6, .int (nI (j0 + u))), (0, .ref (ad 8)), (1, .int (nI i0)), (3, .int (nI i1)), (4, .int (nI j1)), (5, .int v)]) hx hb dX0_fill_11 hl (by decide) rfl (fun ls hl => ?_)
    refine W_lw (fun t ls H locs => lv_has ls 8 [(6, .int (nI (j0 + u))), (7, .int (nI (i0 + t))), (0, .ref (ad 8)), (1, .int (nI i0)), (3, .int (nI i1)), (4, .int (nI j1)), (5, .int v)] ∧ va_P D vwCl (wS ad cI X Y (f_fillR X i0 (j0 + u) v (f_fillA X i0 j0 (i1 + 1 - i0) v σ u) t)) H ∧ va_S A s.heap H locs) (i1 + 1 - i0) (0) (Nat.zero_le _) ⟨lv_sub hl [1, 0, 2, 3, 4, 5, 6] rfl, hP, hS⟩ (fun ls H locs hq => ?_) (fun t ls H locs ht hq ih3 => ?_)
    · -- behind the loop
      obtain ⟨hl, hP, hS⟩ := hq
      have hD : va_D A (wS ad cI X Y (f_fillR X i0 (j0 + u) v (f_fillA X i0 j0 (i1 + 1 - i0) v σ u) (i1 + 1 - i0))) := wS_D hD _
      refine lv_iload hx hb dX0_fill_13 (lv_at hl 1 rfl) ?_
      refine lv_iload_n hx hb dX0_fill_15 rfl (lv_at hl 4 rfl) ?_
      refine lv_icmp_gt (tgt := 40) hx hb dX0_fill_16 (by decide) (fun _ => ?_) (fun c9 => False.elim (c9 (nI_lt (by omega) (by omega))))
      refine a_inc hx hb (k := 0) (lv' := [(6, .int (nI ((j0 + u) + 1))), (7, .int (nI (i0 + (i1 + 1 - i0)))), (0, .ref (ad 8)), (1, .int (nI i0)), (3, .int (nI i1)), (4, .int (nI j1)), (5, .int v)]) (j0 + u) dX0_fill_40 hl rfl (by decide) rfl (fun ls hl => ?_)
      refine lv_goto (tgt := 3) hx hb dX0_fill_43 (by decide) ?_
      exact ih1 _ _ _ ⟨lv_sub hl [0, 2, 3, 4, 5, 6] rfl, hP, hS⟩
    · -- one round
      obtain ⟨hl, hP, hS⟩ := hq
      have hD : va_D A (wS ad cI X Y (f_fillR X i0 (j0 + u) v (f_fillA X i0 j0 (i1 + 1 - i0) v σ u) t)) := wS_D hD _
      refine lv_iload hx hb dX0_fill_13 (lv_at hl 1 rfl) ?_
      refine lv_iload_n hx hb dX0_fill_15 rfl (lv_at hl 4 rfl) ?_
      refine lv_icmp_gt (tgt := 40) hx hb dX0_fill_16 (by decide) (fun c9 => False.elim (nI_le2 (show i0 + t ≤ i1 by omega) (by omega) c9)) (fun _ => ?_)
      refine lv_aload_n hx hb dX0_fill_19 rfl (lv_at hl 2 rfl) ?_
      refine va_get (D := D) (cl := vwCl) (ci := 0) (v := .ref (ad 0)) (C := RX0) (T := TX0) (N := 14) hx hb hts inX0 hown hK hP 0 rfl rfl 3 (by decide) fl38 (fun _ h9 => h9) rfl dX0_fill_20 ?_
      refine lv_aload_n hx hb dX0_fill_23 rfl (lv_at hl 2 rfl) ?_
      refine lv_iload hx hb dX0_fill_24 (lv_at hl 1 rfl) ?_
      refine lv_iload hx hb dX0_fill_26 (lv_at hl 0 rfl) ?_
      refine r_V ⟨hx, hb, hml, hown, hts⟩ (k_X0_place l D cI cJ ad X Y (f_fillR X i0 (j0 + u) v (f_fillA X i0 j0 (i1 + 1 - i0) v σ u) t) hB (nI (i0 + t)) (nI (j0 + u))) (cwV 2 hts gX0_fill_X0_place rfl rfl rfl (by decide +kernel) ⟨Nat.le_of_ble_eq_true rfl, Nat.le_of_ble_eq_true rfl⟩) hP hK (va_recv hK hP (ci := 0) (q0 := 0) rfl rfl) rfl hl.1 rfl (Nat.le_of_ble_eq_true rfl) dX0_fill_28 (Nat.zero_le _) (Nat.zero_le _) ?_
      refine top_eq (y := nI (pl X (i0 + t) (j0 + u))) (pl_e X (i0 + t) (j0 + u)) ?_
      refine lv_iload hx hb dX0_fill_31 (lv_at hl 6 rfl) ?_
      refine a_st hx hb hK hP hD hS 1 0 rfl rfl (pl X (i0 + t) (j0 + u)) (rfl) (pl_in (show i0 + t < X by omega) (show j0 + u < Y by omega)) (pl_N hB) dX0_fill_33 (fun H locs hP hS => ?_)
      obtain ⟨σ4, eσ4⟩ : ∃ z, z = up2 (f_fillR X i0 (j0 + u) v (f_fillA X i0 j0 (i1 + 1 - i0) v σ u) t) 0 (pl X (i0 + t) (j0 + u)) v := ⟨_, rfl⟩
      replace hP : va_P D vwCl (wS ad cI X Y σ4) H := by rw [eσ4]; exact hP
      have hP : va_P D vwCl (wS ad cI X Y σ4) H := hP
      have hD : va_D A (wS ad cI X Y σ4) := wS_D hD _
      refine a_inc hx hb (k := 1) (lv' := [(7, .int (nI ((i0 + t) + 1))), (6, .int (nI (j0 + u))), (0, .ref (ad 8)), (1, .int (nI i0)), (3, .int (nI i1)), (4, .int (nI j1)), (5, .int v)]) (i0 + t) dX0_fill_34 hl rfl (by decide) rfl (fun ls hl => ?_)
      refine lv_goto (tgt := 13) hx hb dX0_fill_37 (by decide) ?_
      subst eσ4
      exact ih3 _ _ _ ⟨lv_sub hl [1, 0, 2, 3, 4, 5, 6] rfl, hP, hS⟩
