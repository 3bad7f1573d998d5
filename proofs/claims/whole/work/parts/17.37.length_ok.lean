set_option maxHeartbeats 4000000 in
set_option maxRecDepth 100000 in
theorem k_X2_length_ok (l : Launch) (D : va_G) (cI cJ : ClassId) (am : Nat → Nat) (X Y : Nat) (τ : Nat → Nat → Int32) (ℓ : Nat → Nat → Int64) (hB : 1 ≤ X ∧ X ≤ 10 ∧ 1 ≤ Y ∧ Y ≤ 10) (k : Nat) (mt : Int32) (hv : ¬ vLen (τ 5 4) (nI k) mt = 0) (hk : k < 10) : wMet l yX2_length wsX2_length 1 22 D (tY cI cJ) (wM am cI cJ X Y τ ℓ) (wM am cI cJ X Y (up2 (up2 τ 5 0 0) 4 k mt) ℓ) [.ref (am 6), .int (nI k), .int mt] (some (.int (τ 4 k))) := by
  refine Met.ofW (cc := cX2_length) (maxL := 4) (ret := (some .int)) (by decide) rfl ?_
  intro p e s m args below meth c s₁ B hml hv
  obtain ⟨rfl, hP, hK, hD0⟩ := hv
  have hx := B.exec
  have hb := B.bytes
  have hr := B.returns
  have hts := atoms_spec (ws := wsX2_length) B.pre
  have hown : s.vm.findClass RX2 = some m.cls := findClass_of_methodNamed B.named
  have hlocks := B.notSynchronized
  have inX2 : ∀ w ∈ wsX20, w ∈ wsX2_length := by decide +kernel
  have fl108 := hts (.fieldLink RX2 108 "BridgeCellsModel" "joints" "I") (by decide +kernel)
  have fl26 := hts (.fieldLink RX2 26 "BridgeCellsModel" "lengths" "[I") (by decide +kernel)
  have hl := lv_entry ([.ref (am 6), .int (nI k), .int mt]) (n := 4) (Nat.le_of_ble_eq_true rfl)
  rw [lg_entry_eq]
  generalize (lg_sl ([.ref (am 6), .int (nI k), .int mt]) ++ List.replicate (4 - (lg_sl ([.ref (am 6), .int (nI k), .int mt])).length) Slot.unset).toArray = ls at hl ⊢
  have hl : lv_has ls 4 [(0, .ref (am 6)), (1, .int (nI k)), (2, .int mt)] := hl
  have hD := aw_D hD0
  generalize hAe : aw (wM am cI cJ X Y τ ℓ) = A at hD ⊢
  have hS : va_S A s.heap s.heap [] := va_S.rf
  refine lv_aload_n hx hb dX2_length_0 rfl (lv_at hl 0 rfl) ?_
  refine W_jn (β := Int32) (fun b2 => b2 = vLen (τ 5 4) (nI k) mt) (fun b2 => F0 m 31 ls [.int b2, .ref (am 6)]) (fun jn1 => ?_) (fun b2 eb2 => ?_)
  · -- roads to 31
    refine lv_iload_n hx hb dX2_length_1 rfl (lv_at hl 1 rfl) ?_
    refine lv_iconst (v := 0) hx hb dX2_length_2 (by decide) ?_
    refine lv_aload_n hx hb dX2_length_3 rfl (lv_at hl 0 rfl) ?_
    refine va_get (D := D) (cl := vwCl) (ci := 2) (v := .int (τ 5 4)) (C := RX2) (T := TX2) (N := 15) hx hb hts inX2 hown hK hP 0 rfl rfl 12 (by decide) fl108 (fun _ h9 => h9) rfl dX2_length_4 ?_
    refine lv_iconst (v := 1) hx hb dX2_length_7 (by decide) ?_
    refine lv_isub hx hb dX2_length_8 ?_
    refine r_S ⟨hx, hb, hml, hown, hts⟩ (k_X2_in l D cI cJ (nI k) 0 ((τ 5 4) - 1)) (va_cwS 3 hts gX2_length_X2_in rfl rfl rfl (by decide +kernel) ⟨Nat.le_of_ble_eq_true rfl, Nat.le_of_ble_eq_true rfl⟩) P_nil hK rfl hl.1 rfl (Nat.le_of_ble_eq_true rfl) dX2_length_9 (Nat.zero_le _) (Nat.zero_le _) ?_
    refine lv_if_eq (tgt := 30) hx hb dX2_length_12 (by decide) (fun c3 => ?_) (fun c3 => ?_)
    · -- 30
      refine lv_iconst (v := 0) hx hb dX2_length_30 (by decide) ?_
      exact jn1 _ (by unfold vLen; rw [if_pos c3])
    · -- 15
      refine lv_iload_n hx hb dX2_length_15 rfl (lv_at hl 2 rfl) ?_
      refine lv_iconst (v := 0) hx hb dX2_length_16 (by decide) ?_
      refine lv_sipush (v := 1000) hx hb dX2_length_17 (by decide) ?_
      refine r_S ⟨hx, hb, hml, hown, hts⟩ (k_X2_in l D cI cJ mt 0 1000) (va_cwS 3 hts gX2_length_X2_in rfl rfl rfl (by decide +kernel) ⟨Nat.le_of_ble_eq_true rfl, Nat.le_of_ble_eq_true rfl⟩) P_nil hK rfl hl.1 rfl (Nat.le_of_ble_eq_true rfl) dX2_length_20 (Nat.zero_le _) (Nat.zero_le _) ?_
      refine lv_if_eq (tgt := 30) hx hb dX2_length_23 (by decide) (fun c4 => ?_) (fun c4 => ?_)
      · -- 30
        refine lv_iconst (v := 0) hx hb dX2_length_30 (by decide) ?_
        exact jn1 _ (by unfold vLen; rw [if_neg c3, if_pos c4])
      · -- 26
        refine lv_iconst (v := 1) hx hb dX2_length_26 (by decide) ?_
        refine lv_goto (tgt := 31) hx hb dX2_length_27 (by decide) ?_
        exact jn1 _ (by unfold vLen; rw [if_neg c3, if_neg c4])
  · -- on from 31
    subst eb2
    refine w_V (A := A) ⟨hx, hb, hml, hown, hts⟩ (k_X2_may l D cI cJ am X Y τ ℓ hB (vLen (τ 5 4) (nI k) mt) (by unfold vLen; repeat (first | rfl | split))) (cwV 1 hts gX2_length_X2_may rfl rfl rfl (by decide +kernel) ⟨Nat.le_of_ble_eq_true rfl, Nat.le_of_ble_eq_true rfl⟩) ([]) ([]) hP hD hS hK (va_recv hK hP (ci := 2) (q0 := 0) rfl rfl) rfl hl.1 rfl (Nat.le_of_ble_eq_true rfl) dX2_length_31 (Nat.zero_le _) (Nat.zero_le _) (fun H locs hP hS => ?_)
    have hP : va_P D vwCl (wM am cI cJ X Y (up2 τ 5 0 (if (vLen (τ 5 4) (nI k) mt) = 0 then 1 else 0)) ℓ) H := hP
    have hD : va_D A (wM am cI cJ X Y (up2 τ 5 0 (if (vLen (τ 5 4) (nI k) mt) = 0 then 1 else 0)) ℓ) := wM_D hD _ _
    refine lv_if_ne (tgt := 39) hx hb dX2_length_34 (by decide) (fun _ => ?_) (fun c9 => absurd c9 hv)
    rw [if_neg hv] at hP
    have hD : va_D A (wM am cI cJ X Y (up2 τ 5 0 0) ℓ) := wM_D hD _ _
    refine lv_aload_n hx hb dX2_length_39 rfl (lv_at hl 0 rfl) ?_
    refine va_get (D := D) (cl := vwCl) (ci := 2) (v := .ref (am 4)) (C := RX2) (T := TX2) (N := 15) hx hb hts inX2 hown hK hP 0 rfl rfl 14 (by decide) fl26 (fun _ h9 => h9) rfl dX2_length_40 ?_
    refine lv_iload_n hx hb dX2_length_43 rfl (lv_at hl 1 rfl) ?_
    refine a_ld hx hb hK hP 5 0 rfl rfl k (rfl) (hk) (by decide) dX2_length_44 ?_
    refine lv_istore_n (lv' := [(3, .int ((up2 τ 5 0 0) 4 k)), (0, .ref (am 6)), (1, .int (nI k)), (2, .int mt)]) hx hb dX2_length_45 rfl hl (by decide) rfl (fun ls hl => ?_)
    refine lv_aload_n hx hb dX2_length_46 rfl (lv_at hl 1 rfl) ?_
    refine va_get (D := D) (cl := vwCl) (ci := 2) (v := .ref (am 4)) (C := RX2) (T := TX2) (N := 15) hx hb hts inX2 hown hK hP 0 rfl rfl 14 (by decide) fl26 (fun _ h9 => h9) rfl dX2_length_47 ?_
    refine lv_iload_n hx hb dX2_length_50 rfl (lv_at hl 2 rfl) ?_
    refine lv_iload_n hx hb dX2_length_51 rfl (lv_at hl 3 rfl) ?_
    refine a_st hx hb hK hP hD hS 5 0 rfl rfl k (rfl) (hk) (by decide) dX2_length_52 (fun H locs hP hS => ?_)
    obtain ⟨τ5, eτ5⟩ : ∃ z, z = up2 (up2 τ 5 0 0) 4 k mt := ⟨_, rfl⟩
    replace hP : va_P D vwCl (wM am cI cJ X Y τ5 ℓ) H := by rw [eτ5]; exact hP
    have hP : va_P D vwCl (wM am cI cJ X Y τ5 ℓ) H := hP
    have hD : va_D A (wM am cI cJ X Y τ5 ℓ) := wM_D hD _ _
    refine lv_iload_n hx hb dX2_length_53 rfl (lv_at hl 0 rfl) ?_
    subst eτ5
    exact W.iret hx hb hr (fun t ht _ => ⟨rfl, by rw [ht]; exact hP, by rw [hAe]; exact hS.F ht⟩) hS.2.2 dX2_length_54
