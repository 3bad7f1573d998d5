set_option maxHeartbeats 4000000 in
set_option maxRecDepth 100000 in
theorem k_X2_side_ok (l : Launch) (D : va_G) (cI cJ : ClassId) (am : Nat → Nat) (X Y : Nat) (τ : Nat → Nat → Int32) (ℓ : Nat → Nat → Int64) (hB : 1 ≤ X ∧ X ≤ 10 ∧ 1 ≤ Y ∧ Y ≤ 10) (sd : Nat) (w f : Int32) (hv : ¬ vSide (nI sd) w f = 0) (hsd : sd < 4) : wMet l yX2_side wsX2_side 1 22 D (tY cI cJ) (wM am cI cJ X Y τ ℓ) (wM am cI cJ X Y (up2 (up2 (up2 (up2 τ 5 0 0) 5 1 0) 2 sd w) 3 sd f) ℓ) [.ref (am 6), .int (nI sd), .int w, .int f] (some (.int (τ 3 sd))) := by
  refine Met.ofW (cc := cX2_side) (maxL := 5) (ret := (some .int)) (by decide) rfl ?_
  intro p e s m args below meth c s₁ B hml hv
  obtain ⟨rfl, hP, hK, hD0⟩ := hv
  have hx := B.exec
  have hb := B.bytes
  have hr := B.returns
  have hts := atoms_spec (ws := wsX2_side) B.pre
  have hown : s.vm.findClass RX2 = some m.cls := findClass_of_methodNamed B.named
  have hlocks := B.notSynchronized
  have inX2 : ∀ w ∈ wsX20, w ∈ wsX2_side := by decide +kernel
  have fl51 := hts (.fieldLink RX2 51 "BridgeCellsModel" "isSettled" "Z") (by decide +kernel)
  have fl19 := hts (.fieldLink RX2 19 "BridgeCellsModel" "film" "[I") (by decide +kernel)
  have fl16 := hts (.fieldLink RX2 16 "BridgeCellsModel" "sideWarm" "[I") (by decide +kernel)
  have hl := lv_entry ([.ref (am 6), .int (nI sd), .int w, .int f]) (n := 5) (Nat.le_of_ble_eq_true rfl)
  rw [lg_entry_eq]
  generalize (lg_sl ([.ref (am 6), .int (nI sd), .int w, .int f]) ++ List.replicate (5 - (lg_sl ([.ref (am 6), .int (nI sd), .int w, .int f])).length) Slot.unset).toArray = ls at hl ⊢
  have hl : lv_has ls 5 [(0, .ref (am 6)), (1, .int (nI sd)), (2, .int w), (3, .int f)] := hl
  have hD := aw_D hD0
  generalize hAe : aw (wM am cI cJ X Y τ ℓ) = A at hD ⊢
  have hS : va_S A s.heap s.heap [] := va_S.rf
  refine lv_aload_n hx hb dX2_side_0 rfl (lv_at hl 0 rfl) ?_
  refine W_jn (β := Int32) (fun b2 => b2 = vSide (nI sd) w f) (fun b2 => F0 m 38 ls [.int b2, .ref (am 6)]) (fun jn1 => ?_) (fun b2 eb2 => ?_)
  · -- roads to 38
    refine lv_iload_n hx hb dX2_side_1 rfl (lv_at hl 1 rfl) ?_
    refine lv_iconst (v := 0) hx hb dX2_side_2 (by decide) ?_
    refine lv_iconst (v := 3) hx hb dX2_side_3 (by decide) ?_
    refine r_S ⟨hx, hb, hml, hown, hts⟩ (k_X2_in l D cI cJ (nI sd) 0 3) (va_cwS 3 hts gX2_side_X2_in rfl rfl rfl (by decide +kernel) ⟨Nat.le_of_ble_eq_true rfl, Nat.le_of_ble_eq_true rfl⟩) P_nil hK rfl hl.1 rfl (Nat.le_of_ble_eq_true rfl) dX2_side_4 (Nat.zero_le _) (Nat.zero_le _) ?_
    refine lv_if_eq (tgt := 37) hx hb dX2_side_7 (by decide) (fun c3 => ?_) (fun c3 => ?_)
    · -- 37
      refine lv_iconst (v := 0) hx hb dX2_side_37 (by decide) ?_
      exact jn1 _ (by unfold vSide; rw [if_pos c3])
    · -- 10
      refine lv_iload_n hx hb dX2_side_10 rfl (lv_at hl 2 rfl) ?_
      refine lv_sipush (v := (-10000)) hx hb dX2_side_11 (by decide) ?_
      refine lv_sipush (v := 10000) hx hb dX2_side_14 (by decide) ?_
      refine r_S ⟨hx, hb, hml, hown, hts⟩ (k_X2_in l D cI cJ w (-10000) 10000) (va_cwS 3 hts gX2_side_X2_in rfl rfl rfl (by decide +kernel) ⟨Nat.le_of_ble_eq_true rfl, Nat.le_of_ble_eq_true rfl⟩) P_nil hK rfl hl.1 rfl (Nat.le_of_ble_eq_true rfl) dX2_side_17 (Nat.zero_le _) (Nat.zero_le _) ?_
      refine lv_if_eq (tgt := 37) hx hb dX2_side_20 (by decide) (fun c4 => ?_) (fun c4 => ?_)
      · -- 37
        refine lv_iconst (v := 0) hx hb dX2_side_37 (by decide) ?_
        exact jn1 _ (by unfold vSide; rw [if_neg c3, if_pos c4])
      · -- 23
        refine lv_iload_n hx hb dX2_side_23 rfl (lv_at hl 3 rfl) ?_
        refine lv_iconst (v := 0) hx hb dX2_side_24 (by decide) ?_
        refine lv_bipush (v := 20) hx hb dX2_side_25 (by decide) ?_
        refine r_S ⟨hx, hb, hml, hown, hts⟩ (k_X2_in l D cI cJ f 0 20) (va_cwS 3 hts gX2_side_X2_in rfl rfl rfl (by decide +kernel) ⟨Nat.le_of_ble_eq_true rfl, Nat.le_of_ble_eq_true rfl⟩) P_nil hK rfl hl.1 rfl (Nat.le_of_ble_eq_true rfl) dX2_side_27 (Nat.zero_le _) (Nat.zero_le _) ?_
        refine lv_if_eq (tgt := 37) hx hb dX2_side_30 (by decide) (fun c5 => ?_) (fun c5 => ?_)
        · -- 37
          refine lv_iconst (v := 0) hx hb dX2_side_37 (by decide) ?_
          exact jn1 _ (by unfold vSide; rw [if_neg c3, if_neg c4, if_pos c5])
        · -- 33
          refine lv_iconst (v := 1) hx hb dX2_side_33 (by decide) ?_
          refine lv_goto (tgt := 38) hx hb dX2_side_34 (by decide) ?_
          exact jn1 _ (by unfold vSide; rw [if_neg c3, if_neg c4, if_neg c5])
  · -- on from 38
    subst eb2
    refine w_V (A := A) ⟨hx, hb, hml, hown, hts⟩ (k_X2_may l D cI cJ am X Y τ ℓ hB (vSide (nI sd) w f) (by unfold vSide; repeat (first | rfl | split))) (cwV 1 hts gX2_side_X2_may rfl rfl rfl (by decide +kernel) ⟨Nat.le_of_ble_eq_true rfl, Nat.le_of_ble_eq_true rfl⟩) ([]) ([]) hP hD hS hK (va_recv hK hP (ci := 2) (q0 := 0) rfl rfl) rfl hl.1 rfl (Nat.le_of_ble_eq_true rfl) dX2_side_38 (Nat.zero_le _) (Nat.zero_le _) (fun H locs hP hS => ?_)
    have hP : va_P D vwCl (wM am cI cJ X Y (up2 τ 5 0 (if (vSide (nI sd) w f) = 0 then 1 else 0)) ℓ) H := hP
    have hD : va_D A (wM am cI cJ X Y (up2 τ 5 0 (if (vSide (nI sd) w f) = 0 then 1 else 0)) ℓ) := wM_D hD _ _
    refine lv_if_ne (tgt := 46) hx hb dX2_side_41 (by decide) (fun _ => ?_) (fun c9 => absurd c9 hv)
    rw [if_neg hv] at hP
    have hD : va_D A (wM am cI cJ X Y (up2 τ 5 0 0) ℓ) := wM_D hD _ _
    refine lv_aload_n hx hb dX2_side_46 rfl (lv_at hl 0 rfl) ?_
    refine lv_iconst (v := 0) hx hb dX2_side_47 (by decide) ?_
    refine va_put (D := D) (cl := vwCl) (ci := 2) (v := .int 0) (ty := .boolean) (C := RX2) (T := TX2) (N := 15) hx hb hts inX2 tyX2 tyX2_ok nmX2 hown hK hP hD hS 0 rfl rfl 7 (by decide) fl51 (fun _ h9 => h9) rfl (by decide +kernel) rfl rfl (Nat.le_of_ble_eq_true rfl) dX2_side_48 (fun H locs hP _ hS => ?_)
    obtain ⟨τ6, eτ6⟩ : ∃ z, z = up2 (up2 τ 5 0 0) 5 1 0 := ⟨_, rfl⟩
    replace hP : va_P D vwCl (wM am cI cJ X Y τ6 ℓ) H := by rw [eτ6]; exact hP
    have hP : va_P D vwCl (wM am cI cJ X Y τ6 ℓ) H := hP
    have hD : va_D A (wM am cI cJ X Y τ6 ℓ) := wM_D hD _ _
    refine lv_aload_n hx hb dX2_side_51 rfl (lv_at hl 0 rfl) ?_
    refine va_get (D := D) (cl := vwCl) (ci := 2) (v := .ref (am 3)) (C := RX2) (T := TX2) (N := 15) hx hb hts inX2 hown hK hP 0 rfl rfl 6 (by decide) fl19 (fun _ h9 => h9) rfl dX2_side_52 ?_
    refine lv_iload_n hx hb dX2_side_55 rfl (lv_at hl 1 rfl) ?_
    refine a_ld hx hb hK hP 4 0 rfl rfl sd (rfl) (hsd) (by decide) dX2_side_56 ?_
    refine lv_istore (lv' := [(4, .int (τ6 3 sd)), (0, .ref (am 6)), (1, .int (nI sd)), (2, .int w), (3, .int f)]) hx hb dX2_side_57 hl (by decide) rfl (fun ls hl => ?_)
    refine lv_aload_n hx hb dX2_side_59 rfl (lv_at hl 1 rfl) ?_
    refine va_get (D := D) (cl := vwCl) (ci := 2) (v := .ref (am 2)) (C := RX2) (T := TX2) (N := 15) hx hb hts inX2 hown hK hP 0 rfl rfl 5 (by decide) fl16 (fun _ h9 => h9) rfl dX2_side_60 ?_
    refine lv_iload_n hx hb dX2_side_63 rfl (lv_at hl 2 rfl) ?_
    refine lv_iload_n hx hb dX2_side_64 rfl (lv_at hl 3 rfl) ?_
    refine a_st hx hb hK hP hD hS 3 0 rfl rfl sd (rfl) (hsd) (by decide) dX2_side_65 (fun H locs hP hS => ?_)
    obtain ⟨τ7, eτ7⟩ : ∃ z, z = up2 τ6 2 sd w := ⟨_, rfl⟩
    replace hP : va_P D vwCl (wM am cI cJ X Y τ7 ℓ) H := by rw [eτ7]; exact hP
    have hP : va_P D vwCl (wM am cI cJ X Y τ7 ℓ) H := hP
    have hD : va_D A (wM am cI cJ X Y τ7 ℓ) := wM_D hD _ _
    refine lv_aload_n hx hb dX2_side_66 rfl (lv_at hl 1 rfl) ?_
    refine va_get (D := D) (cl := vwCl) (ci := 2) (v := .ref (am 3)) (C := RX2) (T := TX2) (N := 15) hx hb hts inX2 hown hK hP 0 rfl rfl 6 (by decide) fl19 (fun _ h9 => h9) rfl dX2_side_67 ?_
    refine lv_iload_n hx hb dX2_side_70 rfl (lv_at hl 2 rfl) ?_
    refine lv_iload_n hx hb dX2_side_71 rfl (lv_at hl 4 rfl) ?_
    refine a_st hx hb hK hP hD hS 4 0 rfl rfl sd (rfl) (hsd) (by decide) dX2_side_72 (fun H locs hP hS => ?_)
    obtain ⟨τ8, eτ8⟩ : ∃ z, z = up2 τ7 3 sd f := ⟨_, rfl⟩
    replace hP : va_P D vwCl (wM am cI cJ X Y τ8 ℓ) H := by rw [eτ8]; exact hP
    have hP : va_P D vwCl (wM am cI cJ X Y τ8 ℓ) H := hP
    have hD : va_D A (wM am cI cJ X Y τ8 ℓ) := wM_D hD _ _
    refine lv_iload hx hb dX2_side_73 (lv_at hl 0 rfl) ?_
    subst eτ8 eτ7 eτ6
    exact W.iret hx hb hr (fun t ht _ => ⟨rfl, by rw [ht]; exact hP, by rw [hAe]; exact hS.F ht⟩) hS.2.2 dX2_side_75
