set_option maxHeartbeats 4000000 in
set_option maxRecDepth 100000 in
theorem k_X2_factor1_ok (l : Launch) (D : va_G) (cI cJ : ClassId) (am : Nat → Nat) (X Y : Nat) (τ : Nat → Nat → Int32) (ℓ : Nat → Nat → Int64) (hB : 1 ≤ X ∧ X ≤ 10 ∧ 1 ≤ Y ∧ Y ≤ 10) (sd N M : Nat) (hv : ¬ vTwo (nI sd) (nI 1) = 0) (hsd : sd < 4) (hN : MT X Y ((up2 τ 5 0 0), ℓ) N) (hM : (n_g (mAb X Y (f_mset X Y N ((up2 τ 5 0 0), ℓ)).1 sd) (mAl X Y (f_mset X Y N ((up2 τ 5 0 0), ℓ)).1 sd) M).2 = 0) (hM1 : ¬ (n_g (mAb X Y (f_mset X Y N ((up2 τ 5 0 0), ℓ)).1 sd) (mAl X Y (f_mset X Y N ((up2 τ 5 0 0), ℓ)).1 sd) M).1 = 0) : wMet l yX2_factor wsX2_factor 7 165 D (tY cI cJ) (wM am cI cJ X Y τ ℓ) (wM am cI cJ X Y ((f_mset X Y N ((up2 τ 5 0 0), ℓ)).1) ((f_mset X Y N ((up2 τ 5 0 0), ℓ)).2)) [.ref (am 6), .int (nI sd), .int (nI 1)] (some (.int (mAl X Y (f_mset X Y N ((up2 τ 5 0 0), ℓ)).1 sd / mG X Y (f_mset X Y N ((up2 τ 5 0 0), ℓ)).1 sd M))) := by
  refine Met.ofW (cc := cX2_factor) (maxL := 9) (ret := (some .int)) (by decide) rfl ?_
  intro p e s m args below meth c s₁ B hml hv
  obtain ⟨rfl, hP, hK, hD0⟩ := hv
  have hx := B.exec
  have hb := B.bytes
  have hr := B.returns
  have hts := atoms_spec (ws := wsX2_factor) B.pre
  have hown : s.vm.findClass RX2 = some m.cls := findClass_of_methodNamed B.named
  have hlocks := B.notSynchronized
  have inX2 : ∀ w ∈ wsX20, w ∈ wsX2_factor := by decide +kernel
  have fl79 := hts (.fieldLink RX2 79 "BridgeCellsModel" "top" "I") (by decide +kernel)
  have fl73 := hts (.fieldLink RX2 73 "BridgeCellsModel" "low" "I") (by decide +kernel)
  have hl := lv_entry ([.ref (am 6), .int (nI sd), .int (nI 1)]) (n := 9) (Nat.le_of_ble_eq_true rfl)
  rw [lg_entry_eq]
  generalize (lg_sl ([.ref (am 6), .int (nI sd), .int (nI 1)]) ++ List.replicate (9 - (lg_sl ([.ref (am 6), .int (nI sd), .int (nI 1)])).length) Slot.unset).toArray = ls at hl ⊢
  have hl : lv_has ls 9 [(0, .ref (am 6)), (1, .int (nI sd)), (2, .int (nI 1))] := hl
  have hD := aw_D hD0
  generalize hAe : aw (wM am cI cJ X Y τ ℓ) = A at hD ⊢
  have hS : va_S A s.heap s.heap [] := va_S.rf
  refine lv_aload_n hx hb dX2_factor_0 rfl (lv_at hl 0 rfl) ?_
  refine W_jn (β := Int32) (fun b2 => b2 = vTwo (nI sd) (nI 1)) (fun b2 => F0 m 24 ls [.int b2, .ref (am 6)]) (fun jn1 => ?_) (fun b2 eb2 => ?_)
  · -- roads to 24
    refine lv_iload_n hx hb dX2_factor_1 rfl (lv_at hl 1 rfl) ?_
    refine lv_iconst (v := 0) hx hb dX2_factor_2 (by decide) ?_
    refine lv_iconst (v := 3) hx hb dX2_factor_3 (by decide) ?_
    refine r_S ⟨hx, hb, hml, hown, hts⟩ (k_X2_in l D cI cJ (nI sd) 0 3) (va_cwS 3 hts gX2_factor_X2_in rfl rfl rfl (by decide +kernel) ⟨Nat.le_of_ble_eq_true rfl, Nat.le_of_ble_eq_true rfl⟩) P_nil hK rfl hl.1 rfl (Nat.le_of_ble_eq_true rfl) dX2_factor_4 (Nat.zero_le _) (Nat.zero_le _) ?_
    refine lv_if_eq (tgt := 23) hx hb dX2_factor_7 (by decide) (fun c3 => ?_) (fun c3 => ?_)
    · -- 23
      refine lv_iconst (v := 0) hx hb dX2_factor_23 (by decide) ?_
      exact jn1 _ (by unfold vTwo; rw [if_pos c3])
    · -- 10
      refine lv_iload_n hx hb dX2_factor_10 rfl (lv_at hl 2 rfl) ?_
      refine lv_iconst (v := 0) hx hb dX2_factor_11 (by decide) ?_
      refine lv_iconst (v := 1) hx hb dX2_factor_12 (by decide) ?_
      refine r_S ⟨hx, hb, hml, hown, hts⟩ (k_X2_in l D cI cJ (nI 1) 0 1) (va_cwS 3 hts gX2_factor_X2_in rfl rfl rfl (by decide +kernel) ⟨Nat.le_of_ble_eq_true rfl, Nat.le_of_ble_eq_true rfl⟩) P_nil hK rfl hl.1 rfl (Nat.le_of_ble_eq_true rfl) dX2_factor_13 (Nat.zero_le _) (Nat.zero_le _) ?_
      refine lv_if_eq (tgt := 23) hx hb dX2_factor_16 (by decide) (fun c4 => ?_) (fun c4 => ?_)
      · -- 23
        refine lv_iconst (v := 0) hx hb dX2_factor_23 (by decide) ?_
        exact jn1 _ (by unfold vTwo; rw [if_neg c3, if_pos c4])
      · -- 19
        refine lv_iconst (v := 1) hx hb dX2_factor_19 (by decide) ?_
        refine lv_goto (tgt := 24) hx hb dX2_factor_20 (by decide) ?_
        exact jn1 _ (by unfold vTwo; rw [if_neg c3, if_neg c4])
  · -- on from 24
    subst eb2
    refine w_V (A := A) ⟨hx, hb, hml, hown, hts⟩ (k_X2_may l D cI cJ am X Y τ ℓ hB (vTwo (nI sd) (nI 1)) (by unfold vTwo; repeat (first | rfl | split))) (cwV 1 hts gX2_factor_X2_may rfl rfl rfl (by decide +kernel) ⟨Nat.le_of_ble_eq_true rfl, Nat.le_of_ble_eq_true rfl⟩) ([]) ([]) hP hD hS hK (va_recv hK hP (ci := 2) (q0 := 0) rfl rfl) rfl hl.1 rfl (Nat.le_of_ble_eq_true rfl) dX2_factor_24 (Nat.zero_le _) (Nat.zero_le _) (fun H locs hP hS => ?_)
    have hP : va_P D vwCl (wM am cI cJ X Y (up2 τ 5 0 (if (vTwo (nI sd) (nI 1)) = 0 then 1 else 0)) ℓ) H := hP
    have hD : va_D A (wM am cI cJ X Y (up2 τ 5 0 (if (vTwo (nI sd) (nI 1)) = 0 then 1 else 0)) ℓ) := wM_D hD _ _
    refine lv_if_ne (tgt := 32) hx hb dX2_factor_27 (by decide) (fun _ => ?_) (fun c9 => absurd c9 hv)
    rw [if_neg hv] at hP
    have hD : va_D A (wM am cI cJ X Y (up2 τ 5 0 0) ℓ) := wM_D hD _ _
    refine lv_aload_n hx hb dX2_factor_32 rfl (lv_at hl 0 rfl) ?_
    refine lv_iload_n hx hb dX2_factor_33 rfl (lv_at hl 1 rfl) ?_
    refine w_V (A := A) ⟨hx, hb, hml, hown, hts⟩ (k_X2_coldest l D cI cJ am X Y (up2 τ 5 0 0) ℓ hB sd N hsd hN) (cwV 1 hts gX2_factor_X2_coldest rfl rfl rfl (by decide +kernel) ⟨Nat.le_of_ble_eq_true rfl, Nat.le_of_ble_eq_true rfl⟩) ([]) ([]) hP hD hS hK (va_recv hK hP (ci := 2) (q0 := 0) rfl rfl) rfl hl.1 rfl (Nat.le_of_ble_eq_true rfl) dX2_factor_34 (Nat.zero_le _) (Nat.zero_le _) (fun H locs hP hS => ?_)
    have hP : va_P D vwCl (wM am cI cJ X Y ((f_mset X Y N (up2 τ 5 0 0, ℓ)).1) ((f_mset X Y N (up2 τ 5 0 0, ℓ)).2)) H := hP
    have hD : va_D A (wM am cI cJ X Y ((f_mset X Y N (up2 τ 5 0 0, ℓ)).1) ((f_mset X Y N (up2 τ 5 0 0, ℓ)).2)) := wM_D hD _ _
    refine lv_istore_n (lv' := [(3, .int (bO (mCd X Y (f_mset X Y N (up2 τ 5 0 0, ℓ)).1 sd))), (0, .ref (am 6)), (1, .int (nI sd)), (2, .int (nI 1))]) hx hb dX2_factor_37 rfl hl (by decide) rfl (fun ls hl => ?_)
    refine W_jw (β := Array Slot) (fun ls H1 L1 => lv_has ls 9 [(4, .int (mAb X Y (f_mset X Y N ((up2 τ 5 0 0), ℓ)).1 sd)), (5, .int (mAl X Y (f_mset X Y N ((up2 τ 5 0 0), ℓ)).1 sd)), (2, .int (nI 1)), (0, .ref (am 6))] ∧ H1 = H ∧ L1 = locs) (fun ls => F0 m 108 ls []) (fun jx => ?_) (fun ls H1 L1 hq9 => ?_)
    · -- above and all
      rcases hq : mCd X Y (f_mset X Y N ((up2 τ 5 0 0), ℓ)).1 sd with _ | q
      · -- none
        rw [hq] at hl
        have hl : lv_has ls 9 [(3, .int (bO none)), (0, .ref (am 6)), (1, .int (nI sd)), (2, .int (nI 1))] := hl
        refine lv_iload_n hx hb dX2_factor_38 rfl (lv_at hl 0 rfl) ?_
        refine lv_if_ge (tgt := 46) hx hb dX2_factor_39 (by decide) (fun c9 => False.elim (absurd c9 (by decide))) (fun _ => ?_)
        refine lv_iconst (v := 0) hx hb dX2_factor_42 (by decide) ?_
        refine lv_goto (tgt := 57) hx hb dX2_factor_43 (by decide) ?_
        refine lv_istore (lv' := [(4, .int 0), (3, .int (bO none)), (0, .ref (am 6)), (1, .int (nI sd)), (2, .int (nI 1))]) hx hb dX2_factor_57 hl (by decide) rfl (fun ls hl => ?_)
        refine lv_iload_n hx hb dX2_factor_59 rfl (lv_at hl 1 rfl) ?_
        refine lv_if_lt (tgt := 74) hx hb dX2_factor_60 (by decide) (fun _ => ?_) (fun c9 => False.elim (c9 (by decide)))
        refine lv_iconst (v := 1) hx hb dX2_factor_74 (by decide) ?_
        refine lv_goto (tgt := 87) hx hb dX2_factor_75 (by decide) ?_
        refine lv_istore (lv' := [(5, .int 1), (4, .int 0), (3, .int (bO none)), (0, .ref (am 6)), (1, .int (nI sd)), (2, .int (nI 1))]) hx hb dX2_factor_87 hl (by decide) rfl (fun ls hl => ?_)
        refine lv_aload_n hx hb dX2_factor_89 rfl (lv_at hl 3 rfl) ?_
        refine va_get (D := D) (cl := vwCl) (ci := 2) (v := .int (((f_mset X Y N (up2 τ 5 0 0, ℓ)).1) 5 3)) (C := RX2) (T := TX2) (N := 15) hx hb hts inX2 hown hK hP 0 rfl rfl 9 (by decide) fl79 (fun _ h9 => h9) rfl dX2_factor_90 ?_
        refine lv_aload_n hx hb dX2_factor_93 rfl (lv_at hl 3 rfl) ?_
        refine va_get (D := D) (cl := vwCl) (ci := 2) (v := .int (((f_mset X Y N (up2 τ 5 0 0, ℓ)).1) 5 2)) (C := RX2) (T := TX2) (N := 15) hx hb hts inX2 hown hK hP 0 rfl rfl 8 (by decide) fl73 (fun _ h9 => h9) rfl dX2_factor_94 ?_
        refine lv_icmp_ne (tgt := 104) hx hb dX2_factor_97 (by decide) (fun c97 => ?_) (fun c97 => ?_)
        · -- 104
          refine lv_iload hx hb dX2_factor_104 (lv_at hl 1 rfl) ?_
          refine lv_istore (lv' := [(4, .int 0), (5, .int 1), (3, .int (bO none)), (0, .ref (am 6)), (1, .int (nI sd)), (2, .int (nI 1))]) hx hb dX2_factor_106 hl (by decide) rfl (fun ls hl => ?_)
          have ea : 0 = mAb X Y (f_mset X Y N ((up2 τ 5 0 0), ℓ)).1 sd := by unfold mAb; rw [hq]; first | exact (if_neg c97).symm ▸ rfl | (simp only []; rw [if_neg c97])
          have eb9 : 1 = mAl X Y (f_mset X Y N ((up2 τ 5 0 0), ℓ)).1 sd := by unfold mAl; rw [hq]
          exact jx _ _ _ ⟨by rw [← ea, ← eb9]; exact lv_sub hl [0, 1, 5, 3] rfl, rfl, rfl⟩
        · -- 100
          refine lv_iconst (v := 0) hx hb dX2_factor_100 (by decide) ?_
          refine lv_goto (tgt := 106) hx hb dX2_factor_101 (by decide) ?_
          refine lv_istore (lv' := [(4, .int 0), (5, .int 1), (3, .int (bO none)), (0, .ref (am 6)), (1, .int (nI sd)), (2, .int (nI 1))]) hx hb dX2_factor_106 hl (by decide) rfl (fun ls hl => ?_)
          have ea : 0 = mAb X Y (f_mset X Y N ((up2 τ 5 0 0), ℓ)).1 sd := by unfold mAb; rw [hq]; first | exact (if_pos c97).symm ▸ rfl | (simp only []; rw [if_pos c97])
          have eb9 : 1 = mAl X Y (f_mset X Y N ((up2 τ 5 0 0), ℓ)).1 sd := by unfold mAl; rw [hq]
          exact jx _ _ _ ⟨by rw [← ea, ← eb9]; exact lv_sub hl [0, 1, 5, 3] rfl, rfl, rfl⟩
      · -- some
        rw [hq] at hl
        have hl : lv_has ls 9 [(3, .int (nI q)), (0, .ref (am 6)), (1, .int (nI sd)), (2, .int (nI 1))] := hl
        have hq2 : q < cAlong X Y sd := mcd_lt hq
        have hc9 := cA_le (sd := sd) hB
        refine lv_iload_n hx hb dX2_factor_38 rfl (lv_at hl 0 rfl) ?_
        refine lv_if_ge (tgt := 46) hx hb dX2_factor_39 (by decide) (fun _ => ?_) (fun c9 => False.elim (c9 (nI_pos' (by omega))))
        refine lv_aload_n hx hb dX2_factor_46 rfl (lv_at hl 1 rfl) ?_
        refine lv_iload_n hx hb dX2_factor_47 rfl (lv_at hl 2 rfl) ?_
        refine lv_iload_n hx hb dX2_factor_48 rfl (lv_at hl 0 rfl) ?_
        refine r_V ⟨hx, hb, hml, hown, hts⟩ (k_X2_faceOf l D cI cJ am X Y ((f_mset X Y N (up2 τ 5 0 0, ℓ)).1) ((f_mset X Y N (up2 τ 5 0 0, ℓ)).2) hB sd q (hsd) (hq2)) (cwV 2 hts gX2_factor_X2_faceOf rfl rfl rfl (by decide +kernel) ⟨Nat.le_of_ble_eq_true rfl, Nat.le_of_ble_eq_true rfl⟩) hP hK (va_recv hK hP (ci := 2) (q0 := 0) rfl rfl) rfl hl.1 rfl (Nat.le_of_ble_eq_true rfl) dX2_factor_49 (Nat.zero_le _) (Nat.zero_le _) ?_
        refine lv_aload_n hx hb dX2_factor_52 rfl (lv_at hl 1 rfl) ?_
        refine va_get (D := D) (cl := vwCl) (ci := 2) (v := .int (((f_mset X Y N (up2 τ 5 0 0, ℓ)).1) 5 2)) (C := RX2) (T := TX2) (N := 15) hx hb hts inX2 hown hK hP 0 rfl rfl 8 (by decide) fl73 (fun _ h9 => h9) rfl dX2_factor_53 ?_
        refine lv_isub hx hb dX2_factor_56 ?_
        refine lv_istore (lv' := [(4, .int ((faceM X Y ((f_mset X Y N (up2 τ 5 0 0, ℓ)).1) sd q) - (((f_mset X Y N (up2 τ 5 0 0, ℓ)).1) 5 2))), (3, .int (nI q)), (0, .ref (am 6)), (1, .int (nI sd)), (2, .int (nI 1))]) hx hb dX2_factor_57 hl (by decide) rfl (fun ls hl => ?_)
        refine lv_iload_n hx hb dX2_factor_59 rfl (lv_at hl 1 rfl) ?_
        refine lv_if_lt (tgt := 74) hx hb dX2_factor_60 (by decide) (fun c9 => False.elim (nI_pos (by omega) c9)) (fun _ => ?_)
        refine lv_aload_n hx hb dX2_factor_63 rfl (lv_at hl 2 rfl) ?_
        refine va_get (D := D) (cl := vwCl) (ci := 2) (v := .int (((f_mset X Y N (up2 τ 5 0 0, ℓ)).1) 5 3)) (C := RX2) (T := TX2) (N := 15) hx hb hts inX2 hown hK hP 0 rfl rfl 9 (by decide) fl79 (fun _ h9 => h9) rfl dX2_factor_64 ?_
        refine lv_aload_n hx hb dX2_factor_67 rfl (lv_at hl 2 rfl) ?_
        refine va_get (D := D) (cl := vwCl) (ci := 2) (v := .int (((f_mset X Y N (up2 τ 5 0 0, ℓ)).1) 5 2)) (C := RX2) (T := TX2) (N := 15) hx hb hts inX2 hown hK hP 0 rfl rfl 8 (by decide) fl73 (fun _ h9 => h9) rfl dX2_factor_68 ?_
        refine lv_icmp_ne (tgt := 78) hx hb dX2_factor_71 (by decide) (fun c71 => ?_) (fun c71 => ?_)
        · -- 78
          refine lv_aload_n hx hb dX2_factor_78 rfl (lv_at hl 2 rfl) ?_
          refine va_get (D := D) (cl := vwCl) (ci := 2) (v := .int (((f_mset X Y N (up2 τ 5 0 0, ℓ)).1) 5 3)) (C := RX2) (T := TX2) (N := 15) hx hb hts inX2 hown hK hP 0 rfl rfl 9 (by decide) fl79 (fun _ h9 => h9) rfl dX2_factor_79 ?_
          refine lv_aload_n hx hb dX2_factor_82 rfl (lv_at hl 2 rfl) ?_
          refine va_get (D := D) (cl := vwCl) (ci := 2) (v := .int (((f_mset X Y N (up2 τ 5 0 0, ℓ)).1) 5 2)) (C := RX2) (T := TX2) (N := 15) hx hb hts inX2 hown hK hP 0 rfl rfl 8 (by decide) fl73 (fun _ h9 => h9) rfl dX2_factor_83 ?_
          refine lv_isub hx hb dX2_factor_86 ?_
          refine lv_istore (lv' := [(5, .int ((((f_mset X Y N (up2 τ 5 0 0, ℓ)).1) 5 3) - (((f_mset X Y N (up2 τ 5 0 0, ℓ)).1) 5 2))), (4, .int ((faceM X Y ((f_mset X Y N (up2 τ 5 0 0, ℓ)).1) sd q) - (((f_mset X Y N (up2 τ 5 0 0, ℓ)).1) 5 2))), (3, .int (nI q)), (0, .ref (am 6)), (1, .int (nI sd)), (2, .int (nI 1))]) hx hb dX2_factor_87 hl (by decide) rfl (fun ls hl => ?_)
          refine lv_aload_n hx hb dX2_factor_89 rfl (lv_at hl 3 rfl) ?_
          refine va_get (D := D) (cl := vwCl) (ci := 2) (v := .int (((f_mset X Y N (up2 τ 5 0 0, ℓ)).1) 5 3)) (C := RX2) (T := TX2) (N := 15) hx hb hts inX2 hown hK hP 0 rfl rfl 9 (by decide) fl79 (fun _ h9 => h9) rfl dX2_factor_90 ?_
          refine lv_aload_n hx hb dX2_factor_93 rfl (lv_at hl 3 rfl) ?_
          refine va_get (D := D) (cl := vwCl) (ci := 2) (v := .int (((f_mset X Y N (up2 τ 5 0 0, ℓ)).1) 5 2)) (C := RX2) (T := TX2) (N := 15) hx hb hts inX2 hown hK hP 0 rfl rfl 8 (by decide) fl73 (fun _ h9 => h9) rfl dX2_factor_94 ?_
          refine lv_icmp_ne (tgt := 104) hx hb dX2_factor_97 (by decide) (fun _ => ?_) (fun c9 => absurd c9 c71)
          refine lv_iload hx hb dX2_factor_104 (lv_at hl 1 rfl) ?_
          refine lv_istore (lv' := [(4, .int ((faceM X Y ((f_mset X Y N (up2 τ 5 0 0, ℓ)).1) sd q) - (((f_mset X Y N (up2 τ 5 0 0, ℓ)).1) 5 2))), (5, .int ((((f_mset X Y N (up2 τ 5 0 0, ℓ)).1) 5 3) - (((f_mset X Y N (up2 τ 5 0 0, ℓ)).1) 5 2))), (3, .int (nI q)), (0, .ref (am 6)), (1, .int (nI sd)), (2, .int (nI 1))]) hx hb dX2_factor_106 hl (by decide) rfl (fun ls hl => ?_)
          have ea : (faceM X Y ((f_mset X Y N (up2 τ 5 0 0, ℓ)).1) sd q) - (((f_mset X Y N (up2 τ 5 0 0, ℓ)).1) 5 2) = mAb X Y (f_mset X Y N ((up2 τ 5 0 0), ℓ)).1 sd := by unfold mAb; rw [hq]; first | exact (if_neg c71).symm ▸ rfl | (simp only []; rw [if_neg c71])
          have eb9 : (((f_mset X Y N (up2 τ 5 0 0, ℓ)).1) 5 3) - (((f_mset X Y N (up2 τ 5 0 0, ℓ)).1) 5 2) = mAl X Y (f_mset X Y N ((up2 τ 5 0 0), ℓ)).1 sd := by unfold mAl; rw [hq]; simp only []; rw [if_neg c71]
          exact jx _ _ _ ⟨by rw [← ea, ← eb9]; exact lv_sub hl [0, 1, 5, 3] rfl, rfl, rfl⟩
        · -- 74
          refine lv_iconst (v := 1) hx hb dX2_factor_74 (by decide) ?_
          refine lv_goto (tgt := 87) hx hb dX2_factor_75 (by decide) ?_
          refine lv_istore (lv' := [(5, .int 1), (4, .int ((faceM X Y ((f_mset X Y N (up2 τ 5 0 0, ℓ)).1) sd q) - (((f_mset X Y N (up2 τ 5 0 0, ℓ)).1) 5 2))), (3, .int (nI q)), (0, .ref (am 6)), (1, .int (nI sd)), (2, .int (nI 1))]) hx hb dX2_factor_87 hl (by decide) rfl (fun ls hl => ?_)
          refine lv_aload_n hx hb dX2_factor_89 rfl (lv_at hl 3 rfl) ?_
          refine va_get (D := D) (cl := vwCl) (ci := 2) (v := .int (((f_mset X Y N (up2 τ 5 0 0, ℓ)).1) 5 3)) (C := RX2) (T := TX2) (N := 15) hx hb hts inX2 hown hK hP 0 rfl rfl 9 (by decide) fl79 (fun _ h9 => h9) rfl dX2_factor_90 ?_
          refine lv_aload_n hx hb dX2_factor_93 rfl (lv_at hl 3 rfl) ?_
          refine va_get (D := D) (cl := vwCl) (ci := 2) (v := .int (((f_mset X Y N (up2 τ 5 0 0, ℓ)).1) 5 2)) (C := RX2) (T := TX2) (N := 15) hx hb hts inX2 hown hK hP 0 rfl rfl 8 (by decide) fl73 (fun _ h9 => h9) rfl dX2_factor_94 ?_
          refine lv_icmp_ne (tgt := 104) hx hb dX2_factor_97 (by decide) (fun c9 => absurd c71 c9) (fun _ => ?_)
          refine lv_iconst (v := 0) hx hb dX2_factor_100 (by decide) ?_
          refine lv_goto (tgt := 106) hx hb dX2_factor_101 (by decide) ?_
          refine lv_istore (lv' := [(4, .int 0), (5, .int 1), (3, .int (nI q)), (0, .ref (am 6)), (1, .int (nI sd)), (2, .int (nI 1))]) hx hb dX2_factor_106 hl (by decide) rfl (fun ls hl => ?_)
          have ea : 0 = mAb X Y (f_mset X Y N ((up2 τ 5 0 0), ℓ)).1 sd := by unfold mAb; rw [hq]; first | exact (if_pos c71).symm ▸ rfl | (simp only []; rw [if_pos c71])
          have eb9 : 1 = mAl X Y (f_mset X Y N ((up2 τ 5 0 0), ℓ)).1 sd := by unfold mAl; rw [hq]; simp only []; rw [if_pos c71]
          exact jx _ _ _ ⟨by rw [← ea, ← eb9]; exact lv_sub hl [0, 1, 5, 3] rfl, rfl, rfl⟩
    · -- the greatest divisor
      obtain ⟨hl, rfl, rfl⟩ := hq9
      refine lv_iload hx hb dX2_factor_108 (lv_at hl 0 rfl) ?_
      refine lv_istore (lv' := [(6, .int (mAb X Y (f_mset X Y N ((up2 τ 5 0 0), ℓ)).1 sd)), (4, .int (mAb X Y (f_mset X Y N ((up2 τ 5 0 0), ℓ)).1 sd)), (5, .int (mAl X Y (f_mset X Y N ((up2 τ 5 0 0), ℓ)).1 sd)), (2, .int (nI 1)), (0, .ref (am 6))]) hx hb dX2_factor_110 hl (by decide) rfl (fun ls hl => ?_)
      refine lv_iload hx hb dX2_factor_112 (lv_at hl 2 rfl) ?_
      refine lv_istore (lv' := [(7, .int (mAl X Y (f_mset X Y N ((up2 τ 5 0 0), ℓ)).1 sd)), (6, .int (mAb X Y (f_mset X Y N ((up2 τ 5 0 0), ℓ)).1 sd)), (4, .int (mAb X Y (f_mset X Y N ((up2 τ 5 0 0), ℓ)).1 sd)), (5, .int (mAl X Y (f_mset X Y N ((up2 τ 5 0 0), ℓ)).1 sd)), (2, .int (nI 1)), (0, .ref (am 6))]) hx hb dX2_factor_114 hl (by decide) rfl (fun ls hl => ?_)
      refine W_jn (β := Array Slot) (fun ls => lv_has ls 9 [(6, .int ((n_g (mAb X Y (f_mset X Y N ((up2 τ 5 0 0), ℓ)).1 sd) (mAl X Y (f_mset X Y N ((up2 τ 5 0 0), ℓ)).1 sd) M).1)), (4, .int (mAb X Y (f_mset X Y N ((up2 τ 5 0 0), ℓ)).1 sd)), (5, .int (mAl X Y (f_mset X Y N ((up2 τ 5 0 0), ℓ)).1 sd)), (2, .int (nI 1)), (0, .ref (am 6))]) (fun ls => F0 m 139 ls []) (fun jy => ?_) (fun ls hl => ?_)
      · -- the steps
        refine W_lr (fun i ls => lv_has ls 9 [(6, .int ((n_g (mAb X Y (f_mset X Y N ((up2 τ 5 0 0), ℓ)).1 sd) (mAl X Y (f_mset X Y N ((up2 τ 5 0 0), ℓ)).1 sd) i).1)), (7, .int ((n_g (mAb X Y (f_mset X Y N ((up2 τ 5 0 0), ℓ)).1 sd) (mAl X Y (f_mset X Y N ((up2 τ 5 0 0), ℓ)).1 sd) i).2)), (4, .int (mAb X Y (f_mset X Y N ((up2 τ 5 0 0), ℓ)).1 sd)), (5, .int (mAl X Y (f_mset X Y N ((up2 τ 5 0 0), ℓ)).1 sd)), (2, .int (nI 1)), (0, .ref (am 6))]) M 0 (Nat.zero_le _) (lv_sub hl [1, 0, 2, 3, 4, 5] rfl) (fun ls hl => ?_) (fun i ls hi hl ih5 => ?_)
        · -- the last
          refine lv_iload hx hb dX2_factor_116 (lv_at hl 1 rfl) ?_
          refine lv_if_eq (tgt := 139) hx hb dX2_factor_118 (by decide) (fun _ => ?_) (fun c9 => absurd hM c9)
          exact jy _ (lv_sub hl [0, 2, 3, 4, 5] rfl)
        · -- one step
          refine lv_iload hx hb dX2_factor_116 (lv_at hl 1 rfl) ?_
          refine lv_if_eq (tgt := 139) hx hb dX2_factor_118 (by decide) (fun c118 => ?_) (fun c118 => ?_)
          · -- done
            exact jy _ (by rw [g_stop c118 _ (Nat.le_of_lt hi)]; exact lv_sub hl [0, 2, 3, 4, 5] rfl)
          · -- on
            refine lv_iload hx hb dX2_factor_121 (lv_at hl 0 rfl) ?_
            refine lv_iload hx hb dX2_factor_123 (lv_at hl 1 rfl) ?_
            refine lv_irem hx hb dX2_factor_125 (c118) ?_
            refine lv_istore (lv' := [(8, .int (((n_g (mAb X Y (f_mset X Y N ((up2 τ 5 0 0), ℓ)).1 sd) (mAl X Y (f_mset X Y N ((up2 τ 5 0 0), ℓ)).1 sd) i).1) - ((n_g (mAb X Y (f_mset X Y N ((up2 τ 5 0 0), ℓ)).1 sd) (mAl X Y (f_mset X Y N ((up2 τ 5 0 0), ℓ)).1 sd) i).1) / ((n_g (mAb X Y (f_mset X Y N ((up2 τ 5 0 0), ℓ)).1 sd) (mAl X Y (f_mset X Y N ((up2 τ 5 0 0), ℓ)).1 sd) i).2) * ((n_g (mAb X Y (f_mset X Y N ((up2 τ 5 0 0), ℓ)).1 sd) (mAl X Y (f_mset X Y N ((up2 τ 5 0 0), ℓ)).1 sd) i).2))), (6, .int ((n_g (mAb X Y (f_mset X Y N ((up2 τ 5 0 0), ℓ)).1 sd) (mAl X Y (f_mset X Y N ((up2 τ 5 0 0), ℓ)).1 sd) i).1)), (7, .int ((n_g (mAb X Y (f_mset X Y N ((up2 τ 5 0 0), ℓ)).1 sd) (mAl X Y (f_mset X Y N ((up2 τ 5 0 0), ℓ)).1 sd) i).2)), (4, .int (mAb X Y (f_mset X Y N ((up2 τ 5 0 0), ℓ)).1 sd)), (5, .int (mAl X Y (f_mset X Y N ((up2 τ 5 0 0), ℓ)).1 sd)), (2, .int (nI 1)), (0, .ref (am 6))]) hx hb dX2_factor_126 hl (by decide) rfl (fun ls hl => ?_)
            refine lv_iload hx hb dX2_factor_128 (lv_at hl 2 rfl) ?_
            refine lv_istore (lv' := [(6, .int ((n_g (mAb X Y (f_mset X Y N ((up2 τ 5 0 0), ℓ)).1 sd) (mAl X Y (f_mset X Y N ((up2 τ 5 0 0), ℓ)).1 sd) i).2)), (8, .int (((n_g (mAb X Y (f_mset X Y N ((up2 τ 5 0 0), ℓ)).1 sd) (mAl X Y (f_mset X Y N ((up2 τ 5 0 0), ℓ)).1 sd) i).1) - ((n_g (mAb X Y (f_mset X Y N ((up2 τ 5 0 0), ℓ)).1 sd) (mAl X Y (f_mset X Y N ((up2 τ 5 0 0), ℓ)).1 sd) i).1) / ((n_g (mAb X Y (f_mset X Y N ((up2 τ 5 0 0), ℓ)).1 sd) (mAl X Y (f_mset X Y N ((up2 τ 5 0 0), ℓ)).1 sd) i).2) * ((n_g (mAb X Y (f_mset X Y N ((up2 τ 5 0 0), ℓ)).1 sd) (mAl X Y (f_mset X Y N ((up2 τ 5 0 0), ℓ)).1 sd) i).2))), (7, .int ((n_g (mAb X Y (f_mset X Y N ((up2 τ 5 0 0), ℓ)).1 sd) (mAl X Y (f_mset X Y N ((up2 τ 5 0 0), ℓ)).1 sd) i).2)), (4, .int (mAb X Y (f_mset X Y N ((up2 τ 5 0 0), ℓ)).1 sd)), (5, .int (mAl X Y (f_mset X Y N ((up2 τ 5 0 0), ℓ)).1 sd)), (2, .int (nI 1)), (0, .ref (am 6))]) hx hb dX2_factor_130 hl (by decide) rfl (fun ls hl => ?_)
            refine lv_iload hx hb dX2_factor_132 (lv_at hl 1 rfl) ?_
            refine lv_istore (lv' := [(7, .int (((n_g (mAb X Y (f_mset X Y N ((up2 τ 5 0 0), ℓ)).1 sd) (mAl X Y (f_mset X Y N ((up2 τ 5 0 0), ℓ)).1 sd) i).1) - ((n_g (mAb X Y (f_mset X Y N ((up2 τ 5 0 0), ℓ)).1 sd) (mAl X Y (f_mset X Y N ((up2 τ 5 0 0), ℓ)).1 sd) i).1) / ((n_g (mAb X Y (f_mset X Y N ((up2 τ 5 0 0), ℓ)).1 sd) (mAl X Y (f_mset X Y N ((up2 τ 5 0 0), ℓ)).1 sd) i).2) * ((n_g (mAb X Y (f_mset X Y N ((up2 τ 5 0 0), ℓ)).1 sd) (mAl X Y (f_mset X Y N ((up2 τ 5 0 0), ℓ)).1 sd) i).2))), (6, .int ((n_g (mAb X Y (f_mset X Y N ((up2 τ 5 0 0), ℓ)).1 sd) (mAl X Y (f_mset X Y N ((up2 τ 5 0 0), ℓ)).1 sd) i).2)), (8, .int (((n_g (mAb X Y (f_mset X Y N ((up2 τ 5 0 0), ℓ)).1 sd) (mAl X Y (f_mset X Y N ((up2 τ 5 0 0), ℓ)).1 sd) i).1) - ((n_g (mAb X Y (f_mset X Y N ((up2 τ 5 0 0), ℓ)).1 sd) (mAl X Y (f_mset X Y N ((up2 τ 5 0 0), ℓ)).1 sd) i).1) / ((n_g (mAb X Y (f_mset X Y N ((up2 τ 5 0 0), ℓ)).1 sd) (mAl X Y (f_mset X Y N ((up2 τ 5 0 0), ℓ)).1 sd) i).2) * ((n_g (mAb X Y (f_mset X Y N ((up2 τ 5 0 0), ℓ)).1 sd) (mAl X Y (f_mset X Y N ((up2 τ 5 0 0), ℓ)).1 sd) i).2))), (4, .int (mAb X Y (f_mset X Y N ((up2 τ 5 0 0), ℓ)).1 sd)), (5, .int (mAl X Y (f_mset X Y N ((up2 τ 5 0 0), ℓ)).1 sd)), (2, .int (nI 1)), (0, .ref (am 6))]) hx hb dX2_factor_134 hl (by decide) rfl (fun ls hl => ?_)
            refine lv_goto (tgt := 116) hx hb dX2_factor_136 (by decide) ?_
            have e9 : n_g (mAb X Y (f_mset X Y N ((up2 τ 5 0 0), ℓ)).1 sd) (mAl X Y (f_mset X Y N ((up2 τ 5 0 0), ℓ)).1 sd) (i + 1) = ((n_g (mAb X Y (f_mset X Y N ((up2 τ 5 0 0), ℓ)).1 sd) (mAl X Y (f_mset X Y N ((up2 τ 5 0 0), ℓ)).1 sd) i).2, ((n_g (mAb X Y (f_mset X Y N ((up2 τ 5 0 0), ℓ)).1 sd) (mAl X Y (f_mset X Y N ((up2 τ 5 0 0), ℓ)).1 sd) i).1) - ((n_g (mAb X Y (f_mset X Y N ((up2 τ 5 0 0), ℓ)).1 sd) (mAl X Y (f_mset X Y N ((up2 τ 5 0 0), ℓ)).1 sd) i).1) / ((n_g (mAb X Y (f_mset X Y N ((up2 τ 5 0 0), ℓ)).1 sd) (mAl X Y (f_mset X Y N ((up2 τ 5 0 0), ℓ)).1 sd) i).2) * ((n_g (mAb X Y (f_mset X Y N ((up2 τ 5 0 0), ℓ)).1 sd) (mAl X Y (f_mset X Y N ((up2 τ 5 0 0), ℓ)).1 sd) i).2)) := by show gS (n_g (mAb X Y (f_mset X Y N ((up2 τ 5 0 0), ℓ)).1 sd) (mAl X Y (f_mset X Y N ((up2 τ 5 0 0), ℓ)).1 sd) i) = _; unfold gS; rw [if_neg c118]
            exact ih5 _ (by rw [e9]; exact lv_sub hl [1, 0, 3, 4, 5, 6] rfl)
      · -- the answer
        refine lv_iload_n hx hb dX2_factor_139 rfl (lv_at hl 3 rfl) ?_
        refine lv_if_ne (tgt := 151) hx hb dX2_factor_140 (by decide) (fun _ => ?_) (fun c9 => False.elim (absurd c9 (by decide)))
        refine lv_iload hx hb dX2_factor_151 (lv_at hl 2 rfl) ?_
        refine lv_iload hx hb dX2_factor_153 (lv_at hl 0 rfl) ?_
        refine lv_idiv hx hb dX2_factor_155 (hM1) ?_
        exact W.iret hx hb hr (fun t ht _ => ⟨rfl, by rw [ht]; exact hP, by rw [hAe]; exact hS.F ht⟩) hS.2.2 dX2_factor_156
