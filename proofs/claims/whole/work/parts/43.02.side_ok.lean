set_option maxHeartbeats 4000000 in
set_option maxRecDepth 100000 in
theorem h_side_ok (l : Launch) (D : va_G) (cI cJ : ClassId) (ab ad : Nat → Nat) (X Y : Nat) (σ : Nat → Nat → Int32) (hh : Nat → Int64) (hw : Nat → Int32) (n : Int32) (ao : Nat) (go : Nat → Int64) (σ' : Nat → Nat → Int32) (hh' : Nat → Int64) (hw' : Nat → Int32) (n' : Int32) (a1 : Int32) (a2 : Int32) (a3 : Int32) (v : Int32) (hM : wMet l yX1_side wsX1_side 3 71 D (tY cI cJ) (wB ab ad cI cJ X Y σ hh hw n) (wB ab ad cI cJ X Y σ' hh' hw' n') [.ref (ab 0), .int a1, .int a2, .int a3] (some (.int v)))  : wMet l yL_side wsL_side 4 94 D (tY cI cJ) (wL ab ad ao cI cJ X Y σ hh hw n go) (wL ab ad ao cI cJ X Y σ' hh' hw' n' (vp_updL go 0 v.toInt64)) [.ref (ab 0), .int a1, .int a2, .int a3, .ref ao] (some (.int 0)) := by
  refine va_MetW (cc := cL_side) (maxL := 6) (ret := (some .int)) (by decide) rfl ?_
  intro p e s m args below meth c s₁ B hml hv
  obtain ⟨rfl, hP, hK, hD0⟩ := hv
  have hx := B.exec
  have hb := B.bytes
  have hr := B.returns
  have hts := atoms_spec (ws := wsL_side) B.pre
  have hown : s.vm.findClass RL = some m.cls := findClass_of_methodNamed B.named
  have hlocks := B.notSynchronized
  have hl := lv_entry ([.ref (ab 0), .int a1, .int a2, .int a3, .ref ao]) (n := 6) (Nat.le_of_ble_eq_true rfl)
  rw [lg_entry_eq]
  generalize (lg_sl ([.ref (ab 0), .int a1, .int a2, .int a3, .ref ao]) ++ List.replicate (6 - (lg_sl ([.ref (ab 0), .int a1, .int a2, .int a3, .ref ao])).length) Slot.unset).toArray = ls at hl ⊢
  have hl : lv_has ls 6 [(0, .ref (ab 0)), (1, .int a1), (2, .int a2), (3, .int a3), (4, .ref ao)] := hl
  have hD := aw_D hD0
  generalize hAe : aw (wL ab ad ao cI cJ X Y σ hh hw n go) = A at hD ⊢
  have hS : va_S A s.heap s.heap [] := va_S.rf
  refine lv_aload hx hb dL_side_0 (lv_at hl 4 rfl) ?_
  refine lv_iconst (v := nI 0) hx hb dL_side_2 (by decide) ?_
  refine lv_aload_n hx hb dL_side_3 rfl (lv_at hl 0 rfl) ?_
  refine lv_iload_n hx hb dL_side_4 rfl (lv_at hl 1 rfl) ?_
  refine lv_iload_n hx hb dL_side_5 rfl (lv_at hl 2 rfl) ?_
  refine lv_iload_n hx hb dL_side_6 rfl (lv_at hl 3 rfl) ?_
  refine w_V (A := A) ⟨hx, hb, hml, hown, hts⟩ (hM) (cwV 3 hts gL_side_X1_side rfl rfl rfl (by decide +kernel) ⟨Nat.le_of_ble_eq_true rfl, Nat.le_of_ble_eq_true rfl⟩) ([]) (wO ao cJ go) hP hD hS hK (va_recv hK hP (ci := 1) (q0 := 0) rfl rfl) rfl hl.1 rfl (Nat.le_of_ble_eq_true rfl) dL_side_7 (Nat.zero_le _) (Nat.zero_le _) (fun H locs hP hS => ?_)
  have hP : va_P D vwCl (wL ab ad ao cI cJ X Y σ' hh' hw' n' go) H := hP
  have hD : va_D A (wL ab ad ao cI cJ X Y σ' hh' hw' n' go) := wL_D hD _ _ _ _ _
  refine lv_i2l (v := v.toInt64) hx hb dL_side_10 rfl ?_
  refine a_stl hx hb hK hP hD hS 12 1 rfl rfl 0 (rfl) (by omega) (by decide) dL_side_11 (fun H locs hP hS => ?_)
  have hP : va_P D vwCl (wL ab ad ao cI cJ X Y σ' hh' hw' n' (vp_updL go 0 v.toInt64)) H := hP
  have hD : va_D A (wL ab ad ao cI cJ X Y σ' hh' hw' n' (vp_updL go 0 v.toInt64)) := wL_D hD _ _ _ _ _
  refine lv_goto (tgt := 19) hx hb dL_side_12 (by decide) ?_
  refine lv_iconst (v := 0) hx hb dL_side_19 (by decide) ?_
  exact W.iret hx hb hr (fun t ht _ => ⟨rfl, by rw [ht]; exact hP, by rw [hAe]; exact hS.F ht⟩) hS.2.2 dL_side_20
