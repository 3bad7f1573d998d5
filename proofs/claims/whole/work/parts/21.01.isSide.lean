set_option maxHeartbeats 4000000 in
set_option maxRecDepth 100000 in
theorem k_X1_isSide (l : Launch) (D : va_G) (cI cJ : ClassId) (v : Int32)  : rMet l yX1_isSide wsX1_isSide 1 22 D (tY cI cJ) ([]) [.int v] (.int (mIn v 0 3)) := by
  refine Met.ofW (cc := cX1_isSide) (maxL := 1) (ret := (some .boolean)) (by decide) rfl ?_
  intro p e s m args below meth c s₁ B hml hv
  obtain ⟨rfl, hP, hK⟩ := hv
  have hx := B.exec
  have hb := B.bytes
  have hr := B.returns
  have hts := atoms_spec (ws := wsX1_isSide) B.pre
  have hown : s.vm.findClass RX1 = some m.cls := findClass_of_methodNamed B.named
  have hlocks := B.notSynchronized
  have hl := lv_entry ([.int v]) (n := 1) (Nat.le_of_ble_eq_true rfl)
  rw [lg_entry_eq]
  generalize (lg_sl ([.int v]) ++ List.replicate (1 - (lg_sl ([.int v])).length) Slot.unset).toArray = ls at hl ⊢
  have hl : lv_has ls 1 [(0, .int v)] := hl
  refine lv_iload_n hx hb dX1_isSide_0 rfl (lv_at hl 0 rfl) ?_
  refine lv_iconst (v := 0) hx hb dX1_isSide_1 (by decide) ?_
  refine lv_iconst (v := 3) hx hb dX1_isSide_2 (by decide) ?_
  refine r_S ⟨hx, hb, hml, hown, hts⟩ (k_X1_isWithin l D cI cJ v 0 3) (va_cwS 3 hts gX1_isSide_X1_isWithin rfl rfl rfl (by decide +kernel) ⟨Nat.le_of_ble_eq_true rfl, Nat.le_of_ble_eq_true rfl⟩) P_nil hK rfl hl.1 rfl (Nat.le_of_ble_eq_true rfl) dX1_isSide_3 (Nat.zero_le _) (Nat.zero_le _) ?_
  exact W.zret hx hb hr (mIn_n _ _ _) (fun t ht _ => ⟨rfl, ht⟩) (fun q h => nomatch h) dX1_isSide_6
