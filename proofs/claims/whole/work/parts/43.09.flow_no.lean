set_option maxHeartbeats 4000000 in
set_option maxRecDepth 100000 in
theorem h_flow_no (l : Launch) (D : va_G) (cI cJ : ClassId) (ab ad : Nat → Nat) (X Y : Nat) (σ : Nat → Nat → Int32) (hh : Nat → Int64) (hw : Nat → Int32) (n : Int32) (ao : Nat) (go : Nat → Int64) (sa : Nat → Nat) (a1 : Int32) (hT : tMet l yX1_flow wsX1_flow 6 82 D (tY cI cJ) sa (wB ab ad cI cJ X Y σ hh hw n) [.ref (ab 0), .int a1] nIAE) : nMet l yL_flow wsL_flow 7 103 D (tY cI cJ) sa (wL ab ad ao cI cJ X Y σ hh hw n go) [.ref (ab 0), .int a1, .ref ao] := by
  refine va_MetW (cc := cL_flow) (maxL := 4) (ret := (some .int)) (by decide) rfl ?_
  intro p e s m args below meth c s₁ B hml hv
  obtain ⟨rfl, hP, hK, hV, hH⟩ := hv
  have hx := B.exec
  have hb := B.bytes
  have hr := B.returns
  have hts := atoms_spec (ws := wsL_flow) B.pre
  have hown : s.vm.findClass RL = some m.cls := findClass_of_methodNamed B.named
  have hlocks := B.notSynchronized
  have lk := hts (.classLink RL 13 nIAE) (by decide +kernel)
  have hl := lv_entry ([.ref (ab 0), .int a1, .ref ao]) (n := 4) (Nat.le_of_ble_eq_true rfl)
  rw [lg_entry_eq]
  generalize (lg_sl ([.ref (ab 0), .int a1, .ref ao]) ++ List.replicate (4 - (lg_sl ([.ref (ab 0), .int a1, .ref ao])).length) Slot.unset).toArray = ls at hl ⊢
  have hl : lv_has ls 4 [(0, .ref (ab 0)), (1, .int a1), (2, .ref ao)] := hl
  have htab := vx_table (x := yL_flow) B (hts _ List.mem_cons_self)
  refine lv_aload_n hx hb dL_flow_0 rfl (lv_at hl 2 rfl) ?_
  refine lv_iconst (v := nI 0) hx hb dL_flow_1 (by decide) ?_
  refine lv_aload_n hx hb dL_flow_2 rfl (lv_at hl 0 rfl) ?_
  refine lv_iload_n hx hb dL_flow_3 rfl (lv_at hl 1 rfl) ?_
  refine n_V ⟨hx, hb, hml, hown, hts⟩ hT (cwV 1 hts gL_flow_X1_flow rfl rfl rfl (by decide +kernel) ⟨Nat.le_of_ble_eq_true rfl, Nat.le_of_ble_eq_true rfl⟩) (va_P_split hP).1 hK hV hH (va_recv hK hP (ci := 1) (q0 := 0) rfl rfl) rfl hl.1 rfl (Nat.le_of_ble_eq_true rfl) dL_flow_4 (Nat.le_of_ble_eq_true rfl) (Nat.le_of_ble_eq_true rfl) (fun q9 ce H1 hz hk hce hcv hcl => ?_)
  refine th_catch hown { startPc := 0, endPc := 8, handlerPc := 11, catchType := 13 } [] (htab.trans rfl) (by decide) (by decide) lk (hV.at_ _ (by decide +kernel)) hce hcv hcl ?_
  refine lv_astore_n (lv' := [(3, .ref q9), (0, .ref (ab 0)), (1, .int a1), (2, .ref ao)]) hx hb dL_flow_11 rfl hl (by decide) rfl (fun ls hl => ?_)
  refine lv_iconst (v := 1) hx hb dL_flow_12 (by decide) ?_
  exact W.iret hx hb hr (fun t ht _ => ⟨rfl, by rw [ht]; exact hz, fun q h1 _ => by rw [ht]; exact hk q h1⟩) (fun q h => nomatch h) dL_flow_13
