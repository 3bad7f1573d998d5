set_option maxHeartbeats 4000000 in
set_option maxRecDepth 100000 in
theorem k_X2_least1_ok (l : Launch) (D : va_G) (cI cJ : ClassId) (am : Nat → Nat) (X Y : Nat) (τ : Nat → Nat → Int32) (ℓ : Nat → Nat → Int64) (hB : 1 ≤ X ∧ X ≤ 10 ∧ 1 ≤ Y ∧ Y ≤ 10) (sd N : Nat) (hv : ¬ vTwo (nI sd) (nI 1) = 0) (hsd : sd < 4) (hN : MT X Y ((up2 τ 5 0 0), ℓ) N) : wMet l yX2_least wsX2_least 7 165 D (tY cI cJ) (wM am cI cJ X Y τ ℓ) (wM am cI cJ X Y ((f_mset X Y N ((up2 τ 5 0 0), ℓ)).1) ((f_mset X Y N ((up2 τ 5 0 0), ℓ)).2)) [.ref (am 6), .int (nI sd), .int (nI 1)] (some (.int (mLeast X Y (f_mset X Y N ((up2 τ 5 0 0), ℓ)).1 sd 1))) := by
  refine Met.ofW (cc := cX2_least) (maxL := 4) (ret := (some .int)) (by decide) rfl ?_
  intro p e s m args below meth c s₁ B hml hv
  obtain ⟨rfl, hP, hK, hD0⟩ := hv
  have hx := B.exec
  have hb := B.bytes
  have hr := B.returns
  have hts := atoms_spec (ws := wsX2_least) B.pre
  have hown : s.vm.findClass RX2 = some m.cls := findClass_of_methodNamed B.named
  have hlocks := B.notSynchronized
  have cn86 := hts (.constant RX2 86 (-1000000)) (by decide +kernel)
  have hl := lv_entry ([.ref (am 6), .int (nI sd), .int (nI 1)]) (n := 4) (Nat.le_of_ble_eq_true rfl)
  rw [lg_entry_eq]
  generalize (lg_sl ([.ref (am 6), .int (nI sd), .int (nI 1)]) ++ List.replicate (4 - (lg_sl ([.ref (am 6), .int (nI sd), .int (nI 1)])).length) Slot.unset).toArray = ls at hl ⊢
  have hl : lv_has ls 4 [(0, .ref (am 6)), (1, .int (nI sd)), (2, .int (nI 1))] := hl
  have hD := aw_D hD0
  generalize hAe : aw (wM am cI cJ X Y τ ℓ) = A at hD ⊢
  have hS : va_S A s.heap s.heap [] := va_S.rf
  refine lv_aload_n hx hb dX2_least_0 rfl (lv_at hl 0 rfl) ?_
  refine W_jn (β := Int32) (fun b2 => b2 = vTwo (nI sd) (nI 1)) (fun b2 => F0 m 24 ls [.int b2, .ref (am 6)]) (fun jn1 => ?_) (fun b2 eb2 => ?_)
  · -- roads to 24
    refine lv_iload_n hx hb dX2_least_1 rfl (lv_at hl 1 rfl) ?_
    refine lv_iconst (v := 0) hx hb dX2_least_2 (by decide) ?_
    refine lv_iconst (v := 3) hx hb dX2_least_3 (by decide) ?_
    refine r_S ⟨hx, hb, hml, hown, hts⟩ (k_X2_in l D cI cJ (nI sd) 0 3) (va_cwS 3 hts gX2_least_X2_in rfl rfl rfl (by decide +kernel) ⟨Nat.le_of_ble_eq_true rfl, Nat.le_of_ble_eq_true rfl⟩) P_nil hK rfl hl.1 rfl (Nat.le_of_ble_eq_true rfl) dX2_least_4 (Nat.zero_le _) (Nat.zero_le _) ?_
    refine lv_if_eq (tgt := 23) hx hb dX2_least_7 (by decide) (fun c3 => ?_) (fun c3 => ?_)
    · -- 23
      refine lv_iconst (v := 0) hx hb dX2_least_23 (by decide) ?_
      exact jn1 _ (by unfold vTwo; rw [if_pos c3])
    · -- 10
      refine lv_iload_n hx hb dX2_least_10 rfl (lv_at hl 2 rfl) ?_
      refine lv_iconst (v := 0) hx hb dX2_least_11 (by decide) ?_
      refine lv_iconst (v := 1) hx hb dX2_least_12 (by decide) ?_
      refine r_S ⟨hx, hb, hml, hown, hts⟩ (k_X2_in l D cI cJ (nI 1) 0 1) (va_cwS 3 hts gX2_least_X2_in rfl rfl rfl (by decide +kernel) ⟨Nat.le_of_ble_eq_true rfl, Nat.le_of_ble_eq_true rfl⟩) P_nil hK rfl hl.1 rfl (Nat.le_of_ble_eq_true rfl) dX2_least_13 (Nat.zero_le _) (Nat.zero_le _) ?_
      refine lv_if_eq (tgt := 23) hx hb dX2_least_16 (by decide) (fun c4 => ?_) (fun c4 => ?_)
      · -- 23
        refine lv_iconst (v := 0) hx hb dX2_least_23 (by decide) ?_
        exact jn1 _ (by unfold vTwo; rw [if_neg c3, if_pos c4])
      · -- 19
        refine lv_iconst (v := 1) hx hb dX2_least_19 (by decide) ?_
        refine lv_goto (tgt := 24) hx hb dX2_least_20 (by decide) ?_
        exact jn1 _ (by unfold vTwo; rw [if_neg c3, if_neg c4])
  · -- on from 24
    subst eb2
    refine w_V (A := A) ⟨hx, hb, hml, hown, hts⟩ (k_X2_may l D cI cJ am X Y τ ℓ hB (vTwo (nI sd) (nI 1)) (by unfold vTwo; repeat (first | rfl | split))) (cwV 1 hts gX2_least_X2_may rfl rfl rfl (by decide +kernel) ⟨Nat.le_of_ble_eq_true rfl, Nat.le_of_ble_eq_true rfl⟩) ([]) ([]) hP hD hS hK (va_recv hK hP (ci := 2) (q0 := 0) rfl rfl) rfl hl.1 rfl (Nat.le_of_ble_eq_true rfl) dX2_least_24 (Nat.zero_le _) (Nat.zero_le _) (fun H locs hP hS => ?_)
    have hP : va_P D vwCl (wM am cI cJ X Y (up2 τ 5 0 (if (vTwo (nI sd) (nI 1)) = 0 then 1 else 0)) ℓ) H := hP
    have hD : va_D A (wM am cI cJ X Y (up2 τ 5 0 (if (vTwo (nI sd) (nI 1)) = 0 then 1 else 0)) ℓ) := wM_D hD _ _
    refine lv_if_ne (tgt := 32) hx hb dX2_least_27 (by decide) (fun _ => ?_) (fun c9 => absurd c9 hv)
    rw [if_neg hv] at hP
    have hD : va_D A (wM am cI cJ X Y (up2 τ 5 0 0) ℓ) := wM_D hD _ _
    refine lv_aload_n hx hb dX2_least_32 rfl (lv_at hl 0 rfl) ?_
    refine lv_iload_n hx hb dX2_least_33 rfl (lv_at hl 1 rfl) ?_
    refine w_V (A := A) ⟨hx, hb, hml, hown, hts⟩ (k_X2_coldest l D cI cJ am X Y (up2 τ 5 0 0) ℓ hB sd N hsd hN) (cwV 1 hts gX2_least_X2_coldest rfl rfl rfl (by decide +kernel) ⟨Nat.le_of_ble_eq_true rfl, Nat.le_of_ble_eq_true rfl⟩) ([]) ([]) hP hD hS hK (va_recv hK hP (ci := 2) (q0 := 0) rfl rfl) rfl hl.1 rfl (Nat.le_of_ble_eq_true rfl) dX2_least_34 (Nat.zero_le _) (Nat.zero_le _) (fun H locs hP hS => ?_)
    have hP : va_P D vwCl (wM am cI cJ X Y ((f_mset X Y N (up2 τ 5 0 0, ℓ)).1) ((f_mset X Y N (up2 τ 5 0 0, ℓ)).2)) H := hP
    have hD : va_D A (wM am cI cJ X Y ((f_mset X Y N (up2 τ 5 0 0, ℓ)).1) ((f_mset X Y N (up2 τ 5 0 0, ℓ)).2)) := wM_D hD _ _
    refine lv_istore_n (lv' := [(3, .int (bO (mCd X Y (f_mset X Y N (up2 τ 5 0 0, ℓ)).1 sd))), (0, .ref (am 6)), (1, .int (nI sd)), (2, .int (nI 1))]) hx hb dX2_least_37 rfl hl (by decide) rfl (fun ls hl => ?_)
    rcases hq : mCd X Y (f_mset X Y N ((up2 τ 5 0 0), ℓ)).1 sd with _ | q
    · -- none
      rw [hq] at hl
      have hl : lv_has ls 4 [(3, .int (bO none)), (0, .ref (am 6)), (1, .int (nI sd)), (2, .int (nI 1))] := hl
      refine lv_iload_n hx hb dX2_least_38 rfl (lv_at hl 0 rfl) ?_
      refine lv_if_ge (tgt := 47) hx hb dX2_least_39 (by decide) (fun c9 => False.elim (absurd c9 (by decide))) (fun _ => ?_)
      refine lv_ldc hx hb hown cn86 dX2_least_42 ?_
      refine lv_goto (tgt := 61) hx hb dX2_least_44 (by decide) ?_
      exact W.iret hx hb hr (fun t ht _ => ⟨by unfold mLeast; rw [hq]; try rfl, by rw [ht]; exact hP, by rw [hAe]; exact hS.F ht⟩) hS.2.2 dX2_least_61
    · -- some
      rw [hq] at hl
      have hl : lv_has ls 4 [(3, .int (nI q)), (0, .ref (am 6)), (1, .int (nI sd)), (2, .int (nI 1))] := hl
      have hq2 : q < cAlong X Y sd := mcd_lt hq
      have hc9 := cA_le (sd := sd) hB
      refine lv_iload_n hx hb dX2_least_38 rfl (lv_at hl 0 rfl) ?_
      refine lv_if_ge (tgt := 47) hx hb dX2_least_39 (by decide) (fun _ => ?_) (fun c9 => False.elim (c9 (nI_pos' (by omega))))
      refine lv_iload_n hx hb dX2_least_47 rfl (lv_at hl 3 rfl) ?_
      refine lv_if_ne (tgt := 60) hx hb dX2_least_48 (by decide) (fun _ => ?_) (fun c9 => False.elim (absurd c9 (by decide)))
      refine lv_iload_n hx hb dX2_least_60 rfl (lv_at hl 0 rfl) ?_
      exact W.iret hx hb hr (fun t ht _ => ⟨by unfold mLeast; rw [hq]; try rfl, by rw [ht]; exact hP, by rw [hAe]; exact hS.F ht⟩) hS.2.2 dX2_least_61
