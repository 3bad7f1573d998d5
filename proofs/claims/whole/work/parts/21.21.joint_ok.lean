set_option maxHeartbeats 4000000 in
set_option maxRecDepth 100000 in
theorem k_X1_joint_ok (l : Launch) (D : va_G) (cI cJ : ClassId) (ab ad : Nat → Nat) (X Y : Nat) (σ : Nat → Nat → Int32) (hh : Nat → Int64) (hw : Nat → Int32) (n : Int32) (hB : 1 ≤ X ∧ X ≤ 10 ∧ 1 ≤ Y ∧ Y ≤ 10) (jn : Nat) (hjn : n = nI jn) (hj9 : jn < 10) : wMet l yX1_joint wsX1_joint 4 93 D (tY cI cJ) (wB ab ad cI cJ X Y σ hh hw n) (wB ab ad cI cJ X Y (f_settle X Y σ) (vp_updL hh jn (n_heat X Y (f_settle X Y σ) 4)) (upd hw jn 0) (nI (jn + 1))) [.ref (ab 0)] (some (.int (nI jn))) := by
  refine Met.ofW (cc := cX1_joint) (maxL := 1) (ret := (some .int)) (by decide) rfl ?_
  intro p e s m args below meth c s₁ B hml hv
  obtain ⟨rfl, hP, hK, hD0⟩ := hv
  have hx := B.exec
  have hb := B.bytes
  have hr := B.returns
  have hts := atoms_spec (ws := wsX1_joint) B.pre
  have hown : s.vm.findClass RX1 = some m.cls := findClass_of_methodNamed B.named
  have hlocks := B.notSynchronized
  have inX1 : ∀ w ∈ wsX10, w ∈ wsX1_joint := by decide +kernel
  have fl17 := hts (.fieldLink RX1 17 "BridgeCells" "joints" "I") (by decide +kernel)
  have fl35 := hts (.fieldLink RX1 35 "BridgeCells" "section" "LBridgeCells$Section;") (by decide +kernel)
  have fl9 := hts (.fieldLink RX1 9 "BridgeCells" "jointHeats" "[J") (by decide +kernel)
  have fl13 := hts (.fieldLink RX1 13 "BridgeCells" "jointLengths" "[I") (by decide +kernel)
  have hl := lv_entry ([.ref (ab 0)]) (n := 1) (Nat.le_of_ble_eq_true rfl)
  rw [lg_entry_eq]
  generalize (lg_sl ([.ref (ab 0)]) ++ List.replicate (1 - (lg_sl ([.ref (ab 0)])).length) Slot.unset).toArray = ls at hl ⊢
  have hl : lv_has ls 1 [(0, .ref (ab 0))] := hl
  have hD := aw_D hD0
  generalize hAe : aw (wB ab ad cI cJ X Y σ hh hw n) = A at hD ⊢
  have hS : va_S A s.heap s.heap [] := va_S.rf
  refine lv_aload_n hx hb dX1_joint_0 rfl (lv_at hl 0 rfl) ?_
  refine va_get (D := D) (cl := vwCl) (ci := 1) (v := .int n) (C := RX1) (T := TX1) (N := 4) hx hb hts inX1 hown hK hP 0 rfl rfl 3 (by decide) fl17 (fun _ h9 => h9) rfl dX1_joint_1 ?_
  refine lv_bipush (v := 10) hx hb dX1_joint_4 (by decide) ?_
  refine lv_icmp_lt (tgt := 19) hx hb dX1_joint_6 (by decide) (fun _ => ?_) (fun c9 => False.elim (c9 (by rw [hjn]; exact nI_lt (b := 10) (by omega) (by decide))))
  refine lv_aload_n hx hb dX1_joint_19 rfl (lv_at hl 0 rfl) ?_
  refine va_get (D := D) (cl := vwCl) (ci := 1) (v := .ref (ad 8)) (C := RX1) (T := TX1) (N := 4) hx hb hts inX1 hown hK hP 0 rfl rfl 0 (by decide) fl35 (fun _ h9 => h9) rfl dX1_joint_20 ?_
  refine w_V (A := A) ⟨hx, hb, hml, hown, hts⟩ (k_X0_settle l D cI cJ ad X Y σ hB  ) (cwV 0 hts gX1_joint_X0_settle rfl rfl rfl (by decide +kernel) ⟨Nat.le_of_ble_eq_true rfl, Nat.le_of_ble_eq_true rfl⟩) (wBh ab ad cI cJ hh hw n) ([]) hP hD hS hK (va_recv hK hP (ci := 0) (q0 := 3) rfl rfl) rfl hl.1 rfl (Nat.le_of_ble_eq_true rfl) dX1_joint_23 (Nat.zero_le _) (Nat.zero_le _) (fun H locs hP hS => ?_)
  have hP : va_P D vwCl (wB ab ad cI cJ X Y (f_settle X Y σ) hh hw n) H := hP
  have hD : va_D A (wB ab ad cI cJ X Y (f_settle X Y σ) hh hw n) := wB_D hD _ _ _ _
  refine lv_aload_n hx hb dX1_joint_26 rfl (lv_at hl 0 rfl) ?_
  refine va_get (D := D) (cl := vwCl) (ci := 1) (v := .ref (ab 1)) (C := RX1) (T := TX1) (N := 4) hx hb hts inX1 hown hK hP 0 rfl rfl 1 (by decide) fl9 (fun _ h9 => h9) rfl dX1_joint_27 ?_
  refine lv_aload_n hx hb dX1_joint_30 rfl (lv_at hl 0 rfl) ?_
  refine va_get (D := D) (cl := vwCl) (ci := 1) (v := .int n) (C := RX1) (T := TX1) (N := 4) hx hb hts inX1 hown hK hP 0 rfl rfl 3 (by decide) fl17 (fun _ h9 => h9) rfl dX1_joint_31 ?_
  refine lv_aload_n hx hb dX1_joint_34 rfl (lv_at hl 0 rfl) ?_
  refine va_get (D := D) (cl := vwCl) (ci := 1) (v := .ref (ad 8)) (C := RX1) (T := TX1) (N := 4) hx hb hts inX1 hown hK hP 0 rfl rfl 0 (by decide) fl35 (fun _ h9 => h9) rfl dX1_joint_35 ?_
  refine r_V ⟨hx, hb, hml, hown, hts⟩ (k_X0_heat l D cI cJ ad X Y (f_settle X Y σ) hB) (cwV 0 hts gX1_joint_X0_heat rfl rfl rfl (by decide +kernel) ⟨Nat.le_of_ble_eq_true rfl, Nat.le_of_ble_eq_true rfl⟩) (va_P_split (va_P_split hP).2).1 hK (va_recv hK hP (ci := 0) (q0 := 3) rfl rfl) rfl hl.1 rfl (Nat.le_of_ble_eq_true rfl) dX1_joint_38 (Nat.zero_le _) (Nat.zero_le _) ?_
  refine a_stl hx hb hK hP hD hS 1 1 rfl rfl jn (hjn) (hj9) (by decide) dX1_joint_41 (fun H locs hP hS => ?_)
  have hP : va_P D vwCl (wB ab ad cI cJ X Y (f_settle X Y σ) (vp_updL hh jn (n_heat X Y (f_settle X Y σ) 4)) hw n) H := hP
  have hD : va_D A (wB ab ad cI cJ X Y (f_settle X Y σ) (vp_updL hh jn (n_heat X Y (f_settle X Y σ) 4)) hw n) := wB_D hD _ _ _ _
  refine lv_aload_n hx hb dX1_joint_42 rfl (lv_at hl 0 rfl) ?_
  refine va_get (D := D) (cl := vwCl) (ci := 1) (v := .ref (ab 2)) (C := RX1) (T := TX1) (N := 4) hx hb hts inX1 hown hK hP 0 rfl rfl 2 (by decide) fl13 (fun _ h9 => h9) rfl dX1_joint_43 ?_
  refine lv_aload_n hx hb dX1_joint_46 rfl (lv_at hl 0 rfl) ?_
  refine va_get (D := D) (cl := vwCl) (ci := 1) (v := .int n) (C := RX1) (T := TX1) (N := 4) hx hb hts inX1 hown hK hP 0 rfl rfl 3 (by decide) fl17 (fun _ h9 => h9) rfl dX1_joint_47 ?_
  refine lv_iconst (v := 0) hx hb dX1_joint_50 (by decide) ?_
  refine a_st hx hb hK hP hD hS 2 0 rfl rfl jn (hjn) (hj9) (by decide) dX1_joint_51 (fun H locs hP hS => ?_)
  have hP : va_P D vwCl (wB ab ad cI cJ X Y (f_settle X Y σ) (vp_updL hh jn (n_heat X Y (f_settle X Y σ) 4)) (upd hw jn 0) n) H := hP
  have hD : va_D A (wB ab ad cI cJ X Y (f_settle X Y σ) (vp_updL hh jn (n_heat X Y (f_settle X Y σ) 4)) (upd hw jn 0) n) := wB_D hD _ _ _ _
  refine lv_aload_n hx hb dX1_joint_52 rfl (lv_at hl 0 rfl) ?_
  refine lv_dup hx hb dX1_joint_53 rfl ?_
  refine va_get (D := D) (cl := vwCl) (ci := 1) (v := .int n) (C := RX1) (T := TX1) (N := 4) hx hb hts inX1 hown hK hP 0 rfl rfl 3 (by decide) fl17 (fun _ h9 => h9) rfl dX1_joint_54 ?_
  refine lv_iconst (v := 1) hx hb dX1_joint_57 (by decide) ?_
  refine lv_iadd hx hb dX1_joint_58 ?_
  refine top_eq (y := nI (jn + 1)) (by rw [hjn]; exact nI_1 jn) ?_
  refine va_put (D := D) (cl := vwCl) (ci := 1) (v := .int (nI (jn + 1))) (ty := .int) (C := RX1) (T := TX1) (N := 4) hx hb hts inX1 tyX1 tyX1_ok nmX1 hown hK hP hD hS 0 rfl rfl 3 (by decide) fl17 (fun _ h9 => h9) rfl (by decide +kernel) rfl rfl (Nat.le_of_ble_eq_true rfl) dX1_joint_59 (fun H locs hP _ hS => ?_)
  have hP : va_P D vwCl (wB ab ad cI cJ X Y (f_settle X Y σ) (vp_updL hh jn (n_heat X Y (f_settle X Y σ) 4)) (upd hw jn 0) (nI (jn + 1))) H := hP
  have hD : va_D A (wB ab ad cI cJ X Y (f_settle X Y σ) (vp_updL hh jn (n_heat X Y (f_settle X Y σ) 4)) (upd hw jn 0) (nI (jn + 1))) := wB_D hD _ _ _ _
  refine lv_aload_n hx hb dX1_joint_62 rfl (lv_at hl 0 rfl) ?_
  refine va_get (D := D) (cl := vwCl) (ci := 1) (v := .int (nI (jn + 1))) (C := RX1) (T := TX1) (N := 4) hx hb hts inX1 hown hK hP 0 rfl rfl 3 (by decide) fl17 (fun _ h9 => h9) rfl dX1_joint_63 ?_
  refine lv_iconst (v := 1) hx hb dX1_joint_66 (by decide) ?_
  refine lv_isub hx hb dX1_joint_67 ?_
  refine top_eq (y := nI jn) (pk_sub (a := jn + 1) (b := 1) (by omega)) ?_
  exact W.iret hx hb hr (fun t ht _ => ⟨rfl, by rw [ht]; exact hP, by rw [hAe]; exact hS.F ht⟩) hS.2.2 dX1_joint_68
