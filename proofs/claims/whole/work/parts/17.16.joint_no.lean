set_option maxHeartbeats 4000000 in
set_option maxRecDepth 100000 in
theorem k_X2_joint_no (l : Launch) (D : va_G) (cI cJ : ClassId) (am : Nat → Nat) (X Y : Nat) (τ : Nat → Nat → Int32) (ℓ : Nat → Nat → Int64) (hB : 1 ≤ X ∧ X ≤ 10 ∧ 1 ≤ Y ∧ Y ≤ 10)  (hv : vJoint (τ 5 4) = 0) : wMet l yX2_joint wsX2_joint 1 21 D (tY cI cJ) (wM am cI cJ X Y τ ℓ) (wM am cI cJ X Y (up2 τ 5 0 1) ℓ) [.ref (am 6)] (some (.int 0)) := by
  refine Met.ofW (cc := cX2_joint) (maxL := 1) (ret := (some .int)) (by decide) rfl ?_
  intro p e s m args below meth c s₁ B hml hv
  obtain ⟨rfl, hP, hK, hD0⟩ := hv
  have hx := B.exec
  have hb := B.bytes
  have hr := B.returns
  have hts := atoms_spec (ws := wsX2_joint) B.pre
  have hown : s.vm.findClass RX2 = some m.cls := findClass_of_methodNamed B.named
  have hlocks := B.notSynchronized
  have inX2 : ∀ w ∈ wsX20, w ∈ wsX2_joint := by decide +kernel
  have fl108 := hts (.fieldLink RX2 108 "BridgeCellsModel" "joints" "I") (by decide +kernel)
  have hl := lv_entry ([.ref (am 6)]) (n := 1) (Nat.le_of_ble_eq_true rfl)
  rw [lg_entry_eq]
  generalize (lg_sl ([.ref (am 6)]) ++ List.replicate (1 - (lg_sl ([.ref (am 6)])).length) Slot.unset).toArray = ls at hl ⊢
  have hl : lv_has ls 1 [(0, .ref (am 6))] := hl
  have hD := aw_D hD0
  generalize hAe : aw (wM am cI cJ X Y τ ℓ) = A at hD ⊢
  have hS : va_S A s.heap s.heap [] := va_S.rf
  refine lv_aload_n hx hb dX2_joint_0 rfl (lv_at hl 0 rfl) ?_
  refine W_jn (β := Int32) (fun b2 => b2 = vJoint (τ 5 4)) (fun b2 => F0 m 15 ls [.int b2, .ref (am 6)]) (fun jn1 => ?_) (fun b2 eb2 => ?_)
  · -- roads to 15
    refine lv_aload_n hx hb dX2_joint_1 rfl (lv_at hl 0 rfl) ?_
    refine va_get (D := D) (cl := vwCl) (ci := 2) (v := .int (τ 5 4)) (C := RX2) (T := TX2) (N := 15) hx hb hts inX2 hown hK hP 0 rfl rfl 12 (by decide) fl108 (fun _ h9 => h9) rfl dX2_joint_2 ?_
    refine lv_bipush (v := 10) hx hb dX2_joint_5 (by decide) ?_
    refine lv_icmp_ge (tgt := 14) hx hb dX2_joint_7 (by decide) (fun c3 => ?_) (fun c3 => ?_)
    · -- 14
      refine lv_iconst (v := 0) hx hb dX2_joint_14 (by decide) ?_
      exact jn1 _ (by unfold vJoint; rw [if_pos c3])
    · -- 10
      refine lv_iconst (v := 1) hx hb dX2_joint_10 (by decide) ?_
      refine lv_goto (tgt := 15) hx hb dX2_joint_11 (by decide) ?_
      exact jn1 _ (by unfold vJoint; rw [if_neg c3])
  · -- on from 15
    subst eb2
    refine w_V (A := A) ⟨hx, hb, hml, hown, hts⟩ (k_X2_may l D cI cJ am X Y τ ℓ hB (vJoint (τ 5 4)) (by unfold vJoint; repeat (first | rfl | split))) (cwV 1 hts gX2_joint_X2_may rfl rfl rfl (by decide +kernel) ⟨Nat.le_of_ble_eq_true rfl, Nat.le_of_ble_eq_true rfl⟩) ([]) ([]) hP hD hS hK (va_recv hK hP (ci := 2) (q0 := 0) rfl rfl) rfl hl.1 rfl (Nat.le_of_ble_eq_true rfl) dX2_joint_15 (Nat.zero_le _) (Nat.zero_le _) (fun H locs hP hS => ?_)
    have hP : va_P D vwCl (wM am cI cJ X Y (up2 τ 5 0 (if (vJoint (τ 5 4)) = 0 then 1 else 0)) ℓ) H := hP
    have hD : va_D A (wM am cI cJ X Y (up2 τ 5 0 (if (vJoint (τ 5 4)) = 0 then 1 else 0)) ℓ) := wM_D hD _ _
    refine lv_if_ne (tgt := 23) hx hb dX2_joint_18 (by decide) (fun c9 => absurd hv c9) (fun _ => ?_)
    rw [if_pos hv] at hP
    have hD : va_D A (wM am cI cJ X Y (up2 τ 5 0 1) ℓ) := wM_D hD _ _
    refine lv_iconst (v := 0) hx hb dX2_joint_21 (by decide) ?_
    exact W.iret hx hb hr (fun t ht _ => ⟨rfl, by rw [ht]; exact hP, by rw [hAe]; exact hS.F ht⟩) hS.2.2 dX2_joint_22
