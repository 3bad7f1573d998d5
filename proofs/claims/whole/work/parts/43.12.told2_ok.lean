set_option maxHeartbeats 4000000 in
set_option maxRecDepth 100000 in
theorem h_told2_ok (l : Launch) (D : va_G) (cI cJ : ClassId) (ab ad : Nat → Nat) (X Y : Nat) (σ : Nat → Nat → Int32) (hh : Nat → Int64) (hw : Nat → Int32) (n : Int32) (ao : Nat) (go : Nat → Int64) (σ' : Nat → Nat → Int32) (hh' : Nat → Int64) (hw' : Nat → Int32) (n' : Int32) (a1 : Int32) (v : Int64) (hM : wMet l yX1_told wsX1_told 3 70 D (tY cI cJ) (wB ab ad cI cJ X Y σ hh hw n) (wB ab ad cI cJ X Y σ' hh' hw' n') [.ref (ab 0), .int a1] (some (.long v)))  : wMet l yL_told wsL_told 4 91 D (tY cI cJ) (wL ab ad ao cI cJ X Y σ hh hw n go) (wL ab ad ao cI cJ X Y σ' hh' hw' n' (vp_updL go 0 v)) [.ref (ab 0), .int a1, .ref ao] (some (.int 0)) := by
  refine va_MetW (cc := cL_told) (maxL := 4) (ret := (some .int)) (by decide) rfl ?_
  intro p e s m args below meth c s₁ B hml hv
  obtain ⟨rfl, hP, hK, hD0⟩ := hv
  have hx := B.exec
  have hb := B.bytes
  have hr := B.returns
  have hts := atoms_spec (ws := wsL_told) B.pre
  have hown : s.vm.findClass RL = some m.cls := findClass_of_methodNamed B.named
  have hlocks := B.notSynchronized
  have hl := lv_entry ([.ref (ab 0), .int a1, .ref ao]) (n := 4) (Nat.le_of_ble_eq_true rfl)
  rw [lg_entry_eq]
  generalize (lg_sl ([.ref (ab 0), .int a1, .ref ao]) ++ List.replicate (4 - (lg_sl ([.ref (ab 0), .int a1, .ref ao])).length) Slot.unset).toArray = ls at hl ⊢
  have hl : lv_has ls 4 [(0, .ref (ab 0)), (1, .int a1), (2, .ref ao)] := hl
  have hD := aw_D hD0
  generalize hAe : aw (wL ab ad ao cI cJ X Y σ hh hw n go) = A at hD ⊢
  have hS : va_S A s.heap s.heap [] := va_S.rf
  refine lv_aload_n hx hb dL_told_0 rfl (lv_at hl 2 rfl) ?_
  refine lv_iconst (v := nI 0) hx hb dL_told_1 (by decide) ?_
  refine lv_aload_n hx hb dL_told_2 rfl (lv_at hl 0 rfl) ?_
  refine lv_iload_n hx hb dL_told_3 rfl (lv_at hl 1 rfl) ?_
  refine w_V (A := A) ⟨hx, hb, hml, hown, hts⟩ (hM) (cwV 1 hts gL_told_X1_told rfl rfl rfl (by decide +kernel) ⟨Nat.le_of_ble_eq_true rfl, Nat.le_of_ble_eq_true rfl⟩) ([]) (wO ao cJ go) hP hD hS hK (va_recv hK hP (ci := 1) (q0 := 0) rfl rfl) rfl hl.1 rfl (Nat.le_of_ble_eq_true rfl) dL_told_4 (Nat.zero_le _) (Nat.zero_le _) (fun H locs hP hS => ?_)
  have hP : va_P D vwCl (wL ab ad ao cI cJ X Y σ' hh' hw' n' go) H := hP
  have hD : va_D A (wL ab ad ao cI cJ X Y σ' hh' hw' n' go) := wL_D hD _ _ _ _ _
  refine a_stl hx hb hK hP hD hS 12 1 rfl rfl 0 (rfl) (by omega) (by decide) dL_told_7 (fun H locs hP hS => ?_)
  have hP : va_P D vwCl (wL ab ad ao cI cJ X Y σ' hh' hw' n' (vp_updL go 0 v)) H := hP
  have hD : va_D A (wL ab ad ao cI cJ X Y σ' hh' hw' n' (vp_updL go 0 v)) := wL_D hD _ _ _ _ _
  refine lv_goto (tgt := 14) hx hb dL_told_8 (by decide) ?_
  refine lv_iconst (v := 0) hx hb dL_told_14 (by decide) ?_
  exact W.iret hx hb hr (fun t ht _ => ⟨rfl, by rw [ht]; exact hP, by rw [hAe]; exact hS.F ht⟩) hS.2.2 dL_told_15
