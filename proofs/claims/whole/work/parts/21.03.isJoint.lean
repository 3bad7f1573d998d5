set_option maxHeartbeats 4000000 in
set_option maxRecDepth 100000 in
theorem k_X1_isJoint (l : Launch) (D : va_G) (cI cJ : ClassId) (ab ad : Nat → Nat) (X Y : Nat) (σ : Nat → Nat → Int32) (hh : Nat → Int64) (hw : Nat → Int32) (n : Int32) (hB : 1 ≤ X ∧ X ≤ 10 ∧ 1 ≤ Y ∧ Y ≤ 10) (k : Int32)  : rMet l yX1_isJoint wsX1_isJoint 1 22 D (tY cI cJ) (wB ab ad cI cJ X Y σ hh hw n) [.ref (ab 0), .int k] (.int (mIn k 0 (n - 1))) := by
  refine Met.ofW (cc := cX1_isJoint) (maxL := 2) (ret := (some .boolean)) (by decide) rfl ?_
  intro p e s m args below meth c s₁ B hml hv
  obtain ⟨rfl, hP, hK⟩ := hv
  have hx := B.exec
  have hb := B.bytes
  have hr := B.returns
  have hts := atoms_spec (ws := wsX1_isJoint) B.pre
  have hown : s.vm.findClass RX1 = some m.cls := findClass_of_methodNamed B.named
  have hlocks := B.notSynchronized
  have inX1 : ∀ w ∈ wsX10, w ∈ wsX1_isJoint := by decide +kernel
  have fl17 := hts (.fieldLink RX1 17 "BridgeCells" "joints" "I") (by decide +kernel)
  have hl := lv_entry ([.ref (ab 0), .int k]) (n := 2) (Nat.le_of_ble_eq_true rfl)
  rw [lg_entry_eq]
  generalize (lg_sl ([.ref (ab 0), .int k]) ++ List.replicate (2 - (lg_sl ([.ref (ab 0), .int k])).length) Slot.unset).toArray = ls at hl ⊢
  have hl : lv_has ls 2 [(0, .ref (ab 0)), (1, .int k)] := hl
  refine lv_iload_n hx hb dX1_isJoint_0 rfl (lv_at hl 1 rfl) ?_
  refine lv_iconst (v := 0) hx hb dX1_isJoint_1 (by decide) ?_
  refine lv_aload_n hx hb dX1_isJoint_2 rfl (lv_at hl 0 rfl) ?_
  refine va_get (D := D) (cl := vwCl) (ci := 1) (v := .int n) (C := RX1) (T := TX1) (N := 4) hx hb hts inX1 hown hK hP 0 rfl rfl 3 (by decide) fl17 (fun _ h9 => h9) rfl dX1_isJoint_3 ?_
  refine lv_iconst (v := 1) hx hb dX1_isJoint_6 (by decide) ?_
  refine lv_isub hx hb dX1_isJoint_7 ?_
  refine r_S ⟨hx, hb, hml, hown, hts⟩ (k_X1_isWithin l D cI cJ k 0 (n - 1)) (va_cwS 3 hts gX1_isJoint_X1_isWithin rfl rfl rfl (by decide +kernel) ⟨Nat.le_of_ble_eq_true rfl, Nat.le_of_ble_eq_true rfl⟩) P_nil hK rfl hl.1 rfl (Nat.le_of_ble_eq_true rfl) dX1_isJoint_8 (Nat.zero_le _) (Nat.zero_le _) ?_
  exact W.zret hx hb hr (mIn_n _ _ _) (fun t ht _ => ⟨rfl, ht⟩) (fun q h => nomatch h) dX1_isJoint_11
