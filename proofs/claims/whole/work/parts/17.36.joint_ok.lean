set_option maxHeartbeats 4000000 in
set_option maxRecDepth 100000 in
theorem k_X2_joint_ok (l : Launch) (D : va_G) (cI cJ : ClassId) (am : Nat → Nat) (X Y : Nat) (τ : Nat → Nat → Int32) (ℓ : Nat → Nat → Int64) (hB : 1 ≤ X ∧ X ≤ 10 ∧ 1 ≤ Y ∧ Y ≤ 10) (jn N : Nat) (hv : ¬ vJoint (τ 5 4) = 0) (hjn : τ 5 4 = nI jn) (hj9 : jn < 10) (hN : MT X Y ((up2 τ 5 0 0), ℓ) N) (hjm : ((f_mset X Y N ((up2 τ 5 0 0), ℓ)).1) 5 4 = nI jn) : wMet l yX2_joint wsX2_joint 7 164 D (tY cI cJ) (wM am cI cJ X Y τ ℓ) (wM am cI cJ X Y ((f_mj (f_mset X Y N ((up2 τ 5 0 0), ℓ)) (n_mh X Y (f_mset X Y N ((up2 τ 5 0 0), ℓ)).1 4) jn).1) ((f_mj (f_mset X Y N ((up2 τ 5 0 0), ℓ)) (n_mh X Y (f_mset X Y N ((up2 τ 5 0 0), ℓ)).1 4) jn).2)) [.ref (am 6)] (some (.int (nI jn))) := by
  refine Met.ofW (cc := cX2_joint) (maxL := 1) (ret := (some .int)) (by decide) rfl ?_
  intro p e s m args below meth c s₁ B hml hv
  obtain ⟨rfl, hP, hK, hD0⟩ := hv
  have hx := B.exec
  have hb := B.bytes
  have hr := B.returns
  have hts := atoms_spec (ws := wsX2_joint) B.pre
  have hown : s.vm.findClass RX2 = some m.cls := findClass_of_methodNamed B.named
  have hlocks := B.notSynchronized
  have inX2 : ∀ w ∈ wsX20, w ∈ wsX2_joint := by decide +kernel
  have fl108 := hts (.fieldLink RX2 108 "BridgeCellsModel" "joints" "I") (by decide +kernel)
  have fl22 := hts (.fieldLink RX2 22 "BridgeCellsModel" "heats" "[J") (by decide +kernel)
  have fl26 := hts (.fieldLink RX2 26 "BridgeCellsModel" "lengths" "[I") (by decide +kernel)
  have hl := lv_entry ([.ref (am 6)]) (n := 1) (Nat.le_of_ble_eq_true rfl)
  rw [lg_entry_eq]
  generalize (lg_sl ([.ref (am 6)]) ++ List.replicate (1 - (lg_sl ([.ref (am 6)])).length) Slot.unset).toArray = ls at hl ⊢
  have hl : lv_has ls 1 [(0, .ref (am 6))] := hl
  have hD := aw_D hD0
  generalize hAe : aw (wM am cI cJ X Y τ ℓ) = A at hD ⊢
  have hS : va_S A s.heap s.heap [] := va_S.rf
  refine lv_aload_n hx hb dX2_joint_0 rfl (lv_at hl 0 rfl) ?_
  refine W_jn (β := Int32) (fun b2 => b2 = vJoint (τ 5 4)) (fun b2 => F0 m 15 ls [.int b2, .ref (am 6)]) (fun jn1 => ?_) (fun b2 eb2 => ?_)
  · -- roads to 15
    refine lv_aload_n hx hb dX2_joint_1 rfl (lv_at hl 0 rfl) ?_
    refine va_get (D := D) (cl := vwCl) (ci := 2) (v := .int (τ 5 4)) (C := RX2) (T := TX2) (N := 15) hx hb hts inX2 hown hK hP 0 rfl rfl 12 (by decide) fl108 (fun _ h9 => h9) rfl dX2_joint_2 ?_
    refine lv_bipush (v := 10) hx hb dX2_joint_5 (by decide) ?_
    refine lv_icmp_ge (tgt := 14) hx hb dX2_joint_7 (by decide) (fun c3 => ?_) (fun c3 => ?_)
    · -- 14
      refine lv_iconst (v := 0) hx hb dX2_joint_14 (by decide) ?_
      exact jn1 _ (by unfold vJoint; rw [if_pos c3])
    · -- 10
      refine lv_iconst (v := 1) hx hb dX2_joint_10 (by decide) ?_
      refine lv_goto (tgt := 15) hx hb dX2_joint_11 (by decide) ?_
      exact jn1 _ (by unfold vJoint; rw [if_neg c3])
  · -- on from 15
    subst eb2
    refine w_V (A := A) ⟨hx, hb, hml, hown, hts⟩ (k_X2_may l D cI cJ am X Y τ ℓ hB (vJoint (τ 5 4)) (by unfold vJoint; repeat (first | rfl | split))) (cwV 1 hts gX2_joint_X2_may rfl rfl rfl (by decide +kernel) ⟨Nat.le_of_ble_eq_true rfl, Nat.le_of_ble_eq_true rfl⟩) ([]) ([]) hP hD hS hK (va_recv hK hP (ci := 2) (q0 := 0) rfl rfl) rfl hl.1 rfl (Nat.le_of_ble_eq_true rfl) dX2_joint_15 (Nat.zero_le _) (Nat.zero_le _) (fun H locs hP hS => ?_)
    have hP : va_P D vwCl (wM am cI cJ X Y (up2 τ 5 0 (if (vJoint (τ 5 4)) = 0 then 1 else 0)) ℓ) H := hP
    have hD : va_D A (wM am cI cJ X Y (up2 τ 5 0 (if (vJoint (τ 5 4)) = 0 then 1 else 0)) ℓ) := wM_D hD _ _
    refine lv_if_ne (tgt := 23) hx hb dX2_joint_18 (by decide) (fun _ => ?_) (fun c9 => absurd c9 hv)
    rw [if_neg hv] at hP
    have hD : va_D A (wM am cI cJ X Y (up2 τ 5 0 0) ℓ) := wM_D hD _ _
    refine lv_aload_n hx hb dX2_joint_23 rfl (lv_at hl 0 rfl) ?_
    refine va_get (D := D) (cl := vwCl) (ci := 2) (v := .ref (am 5)) (C := RX2) (T := TX2) (N := 15) hx hb hts inX2 hown hK hP 0 rfl rfl 13 (by decide) fl22 (fun _ h9 => h9) rfl dX2_joint_24 ?_
    refine lv_aload_n hx hb dX2_joint_27 rfl (lv_at hl 0 rfl) ?_
    refine va_get (D := D) (cl := vwCl) (ci := 2) (v := .int ((up2 τ 5 0 0) 5 4)) (C := RX2) (T := TX2) (N := 15) hx hb hts inX2 hown hK hP 0 rfl rfl 12 (by decide) fl108 (fun _ h9 => h9) rfl dX2_joint_28 ?_
    refine lv_aload_n hx hb dX2_joint_31 rfl (lv_at hl 0 rfl) ?_
    refine w_V (A := A) ⟨hx, hb, hml, hown, hts⟩ (k_X2_heat l D cI cJ am X Y (up2 τ 5 0 0) ℓ hB N hN) (cwV 0 hts gX2_joint_X2_heat rfl rfl rfl (by decide +kernel) ⟨Nat.le_of_ble_eq_true rfl, Nat.le_of_ble_eq_true rfl⟩) ([]) ([]) hP hD hS hK (va_recv hK hP (ci := 2) (q0 := 0) rfl rfl) rfl hl.1 rfl (Nat.le_of_ble_eq_true rfl) dX2_joint_32 (Nat.zero_le _) (Nat.zero_le _) (fun H locs hP hS => ?_)
    have hP : va_P D vwCl (wM am cI cJ X Y ((f_mset X Y N (up2 τ 5 0 0, ℓ)).1) ((f_mset X Y N (up2 τ 5 0 0, ℓ)).2)) H := hP
    have hD : va_D A (wM am cI cJ X Y ((f_mset X Y N (up2 τ 5 0 0, ℓ)).1) ((f_mset X Y N (up2 τ 5 0 0, ℓ)).2)) := wM_D hD _ _
    refine a_stl hx hb hK hP hD hS 6 1 rfl rfl jn (hjn) (hj9) (by decide) dX2_joint_35 (fun H locs hP hS => ?_)
    obtain ⟨ℓ4, eℓ4⟩ : ∃ z, z = upL ((f_mset X Y N (up2 τ 5 0 0, ℓ)).2) 0 jn (n_mh X Y (f_mset X Y N (up2 τ 5 0 0, ℓ)).1 4) := ⟨_, rfl⟩
    replace hP : va_P D vwCl (wM am cI cJ X Y ((f_mset X Y N (up2 τ 5 0 0, ℓ)).1) ℓ4) H := by rw [eℓ4]; exact hP
    have hP : va_P D vwCl (wM am cI cJ X Y ((f_mset X Y N (up2 τ 5 0 0, ℓ)).1) ℓ4) H := hP
    have hD : va_D A (wM am cI cJ X Y ((f_mset X Y N (up2 τ 5 0 0, ℓ)).1) ℓ4) := wM_D hD _ _
    refine lv_aload_n hx hb dX2_joint_36 rfl (lv_at hl 0 rfl) ?_
    refine va_get (D := D) (cl := vwCl) (ci := 2) (v := .ref (am 4)) (C := RX2) (T := TX2) (N := 15) hx hb hts inX2 hown hK hP 0 rfl rfl 14 (by decide) fl26 (fun _ h9 => h9) rfl dX2_joint_37 ?_
    refine lv_aload_n hx hb dX2_joint_40 rfl (lv_at hl 0 rfl) ?_
    refine va_get (D := D) (cl := vwCl) (ci := 2) (v := .int (((f_mset X Y N (up2 τ 5 0 0, ℓ)).1) 5 4)) (C := RX2) (T := TX2) (N := 15) hx hb hts inX2 hown hK hP 0 rfl rfl 12 (by decide) fl108 (fun _ h9 => h9) rfl dX2_joint_41 ?_
    refine lv_iconst (v := 0) hx hb dX2_joint_44 (by decide) ?_
    refine a_st hx hb hK hP hD hS 5 0 rfl rfl jn (hjm) (hj9) (by decide) dX2_joint_45 (fun H locs hP hS => ?_)
    obtain ⟨τ5, eτ5⟩ : ∃ z, z = up2 ((f_mset X Y N (up2 τ 5 0 0, ℓ)).1) 4 jn 0 := ⟨_, rfl⟩
    replace hP : va_P D vwCl (wM am cI cJ X Y τ5 ℓ4) H := by rw [eτ5]; exact hP
    have hP : va_P D vwCl (wM am cI cJ X Y τ5 ℓ4) H := hP
    have hD : va_D A (wM am cI cJ X Y τ5 ℓ4) := wM_D hD _ _
    refine lv_aload_n hx hb dX2_joint_46 rfl (lv_at hl 0 rfl) ?_
    refine lv_dup hx hb dX2_joint_47 rfl ?_
    refine va_get (D := D) (cl := vwCl) (ci := 2) (v := .int (τ5 5 4)) (C := RX2) (T := TX2) (N := 15) hx hb hts inX2 hown hK hP 0 rfl rfl 12 (by decide) fl108 (fun _ h9 => h9) rfl dX2_joint_48 ?_
    refine lv_iconst (v := 1) hx hb dX2_joint_51 (by decide) ?_
    refine lv_iadd hx hb dX2_joint_52 ?_
    refine top_eq (y := nI (jn + 1)) (by rw [show τ5 5 4 = nI jn from by rw [eτ5]; exact hjm]; exact nI_1 jn) ?_
    refine va_put (D := D) (cl := vwCl) (ci := 2) (v := .int (nI (jn + 1))) (ty := .int) (C := RX2) (T := TX2) (N := 15) hx hb hts inX2 tyX2 tyX2_ok nmX2 hown hK hP hD hS 0 rfl rfl 12 (by decide) fl108 (fun _ h9 => h9) rfl (by decide +kernel) rfl rfl (Nat.le_of_ble_eq_true rfl) dX2_joint_53 (fun H locs hP _ hS => ?_)
    obtain ⟨τ6, eτ6⟩ : ∃ z, z = up2 τ5 5 4 (nI (jn + 1)) := ⟨_, rfl⟩
    replace hP : va_P D vwCl (wM am cI cJ X Y τ6 ℓ4) H := by rw [eτ6]; exact hP
    have hP : va_P D vwCl (wM am cI cJ X Y τ6 ℓ4) H := hP
    have hD : va_D A (wM am cI cJ X Y τ6 ℓ4) := wM_D hD _ _
    refine lv_aload_n hx hb dX2_joint_56 rfl (lv_at hl 0 rfl) ?_
    refine va_get (D := D) (cl := vwCl) (ci := 2) (v := .int (τ6 5 4)) (C := RX2) (T := TX2) (N := 15) hx hb hts inX2 hown hK hP 0 rfl rfl 12 (by decide) fl108 (fun _ h9 => h9) rfl dX2_joint_57 ?_
    refine lv_iconst (v := 1) hx hb dX2_joint_60 (by decide) ?_
    refine lv_isub hx hb dX2_joint_61 ?_
    refine top_eq (y := nI jn) (by rw [show τ6 5 4 = nI (jn + 1) from by rw [eτ6]; rfl]; exact pk_sub (a := jn + 1) (b := 1) (by omega)) ?_
    have e9 : f_mj (f_mset X Y N ((up2 τ 5 0 0), ℓ)) (n_mh X Y (f_mset X Y N ((up2 τ 5 0 0), ℓ)).1 4) jn = (τ6, ℓ4) := by subst eτ6 eτ5 eℓ4; rfl
    exact W.iret hx hb hr (fun t ht _ => ⟨rfl, by rw [ht]; first | exact hP | (rw [e9]; exact hP), by rw [hAe]; exact hS.F ht⟩) hS.2.2 dX2_joint_62
