set_option maxHeartbeats 4000000 in
set_option maxRecDepth 100000 in
theorem k_X2_mirrored0_ok (l : Launch) (D : va_G) (cI cJ : ClassId) (am : Nat → Nat) (X Y : Nat) (τ : Nat → Nat → Int32) (ℓ : Nat → Nat → Int64) (hB : 1 ≤ X ∧ X ≤ 10 ∧ 1 ≤ Y ∧ Y ≤ 10) (N : Nat) (hv : ¬ mIn (nI 0) 0 1 = 0) (hN : MT X Y ((up2 τ 5 0 0), ℓ) N) : wMet l yX2_mirrored wsX2_mirrored 6 141 D (tY cI cJ) (wM am cI cJ X Y τ ℓ) (wM am cI cJ X Y ((f_mset X Y N ((up2 τ 5 0 0), ℓ)).1) ((f_mset X Y N ((up2 τ 5 0 0), ℓ)).2)) [.ref (am 6), .int (nI 0)] (some (.int (n_mmi X Y (f_mset X Y N ((up2 τ 5 0 0), ℓ)).1 0 Y))) := by
  refine Met.ofW (cc := cX2_mirrored) (maxL := 5) (ret := (some .boolean)) (by decide) rfl ?_
  intro p e s m args below meth c s₁ B hml hv
  obtain ⟨rfl, hP, hK, hD0⟩ := hv
  have hx := B.exec
  have hb := B.bytes
  have hr := B.returns
  have hts := atoms_spec (ws := wsX2_mirrored) B.pre
  have hown : s.vm.findClass RX2 = some m.cls := findClass_of_methodNamed B.named
  have hlocks := B.notSynchronized
  have inX2 : ∀ w ∈ wsX20, w ∈ wsX2_mirrored := by decide +kernel
  have fl33 := hts (.fieldLink RX2 33 "BridgeCellsModel" "high" "I") (by decide +kernel)
  have fl29 := hts (.fieldLink RX2 29 "BridgeCellsModel" "wide" "I") (by decide +kernel)
  have hl := lv_entry ([.ref (am 6), .int (nI 0)]) (n := 5) (Nat.le_of_ble_eq_true rfl)
  rw [lg_entry_eq]
  generalize (lg_sl ([.ref (am 6), .int (nI 0)]) ++ List.replicate (5 - (lg_sl ([.ref (am 6), .int (nI 0)])).length) Slot.unset).toArray = ls at hl ⊢
  have hl : lv_has ls 5 [(0, .ref (am 6)), (1, .int (nI 0))] := hl
  have hD := aw_D hD0
  generalize hAe : aw (wM am cI cJ X Y τ ℓ) = A at hD ⊢
  have hS : va_S A s.heap s.heap [] := va_S.rf
  refine lv_aload_n hx hb dX2_mirrored_0 rfl (lv_at hl 0 rfl) ?_
  refine lv_iload_n hx hb dX2_mirrored_1 rfl (lv_at hl 1 rfl) ?_
  refine lv_iconst (v := 0) hx hb dX2_mirrored_2 (by decide) ?_
  refine lv_iconst (v := 1) hx hb dX2_mirrored_3 (by decide) ?_
  refine r_S ⟨hx, hb, hml, hown, hts⟩ (k_X2_in l D cI cJ (nI 0) 0 1) (va_cwS 3 hts gX2_mirrored_X2_in rfl rfl rfl (by decide +kernel) ⟨Nat.le_of_ble_eq_true rfl, Nat.le_of_ble_eq_true rfl⟩) P_nil hK rfl hl.1 rfl (Nat.le_of_ble_eq_true rfl) dX2_mirrored_4 (Nat.zero_le _) (Nat.zero_le _) ?_
  refine w_V (A := A) ⟨hx, hb, hml, hown, hts⟩ (k_X2_may l D cI cJ am X Y τ ℓ hB (mIn (nI 0) 0 1) (mIn_n _ _ _)) (cwV 1 hts gX2_mirrored_X2_may rfl rfl rfl (by decide +kernel) ⟨Nat.le_of_ble_eq_true rfl, Nat.le_of_ble_eq_true rfl⟩) ([]) ([]) hP hD hS hK (va_recv hK hP (ci := 2) (q0 := 0) rfl rfl) rfl hl.1 rfl (Nat.le_of_ble_eq_true rfl) dX2_mirrored_7 (Nat.zero_le _) (Nat.zero_le _) (fun H locs hP hS => ?_)
  have hP : va_P D vwCl (wM am cI cJ X Y (up2 τ 5 0 (if (mIn (nI 0) 0 1) = 0 then 1 else 0)) ℓ) H := hP
  have hD : va_D A (wM am cI cJ X Y (up2 τ 5 0 (if (mIn (nI 0) 0 1) = 0 then 1 else 0)) ℓ) := wM_D hD _ _
  refine lv_if_ne (tgt := 15) hx hb dX2_mirrored_10 (by decide) (fun _ => ?_) (fun c9 => absurd c9 hv)
  rw [if_neg hv] at hP
  have hD : va_D A (wM am cI cJ X Y (up2 τ 5 0 0) ℓ) := wM_D hD _ _
  refine lv_aload_n hx hb dX2_mirrored_15 rfl (lv_at hl 0 rfl) ?_
  refine w_V (A := A) ⟨hx, hb, hml, hown, hts⟩ (k_X2_settle l D cI cJ am X Y (up2 τ 5 0 0) ℓ hB N hN) (cwV 0 hts gX2_mirrored_X2_settle rfl rfl rfl (by decide +kernel) ⟨Nat.le_of_ble_eq_true rfl, Nat.le_of_ble_eq_true rfl⟩) ([]) ([]) hP hD hS hK (va_recv hK hP (ci := 2) (q0 := 0) rfl rfl) rfl hl.1 rfl (Nat.le_of_ble_eq_true rfl) dX2_mirrored_16 (Nat.zero_le _) (Nat.zero_le _) (fun H locs hP hS => ?_)
  have hP : va_P D vwCl (wM am cI cJ X Y ((f_mset X Y N (up2 τ 5 0 0, ℓ)).1) ((f_mset X Y N (up2 τ 5 0 0, ℓ)).2)) H := hP
  have hD : va_D A (wM am cI cJ X Y ((f_mset X Y N (up2 τ 5 0 0, ℓ)).1) ((f_mset X Y N (up2 τ 5 0 0, ℓ)).2)) := wM_D hD _ _
  refine lv_iconst (v := 1) hx hb dX2_mirrored_19 (by decide) ?_
  refine lv_istore_n (lv' := [(2, .int 1), (0, .ref (am 6)), (1, .int (nI 0))]) hx hb dX2_mirrored_20 rfl hl (by decide) rfl (fun ls hl => ?_)
  refine lv_iconst (v := nI 0) hx hb dX2_mirrored_21 (by decide) ?_
  refine lv_istore_n (lv' := [(3, .int (nI 0)), (2, .int 1), (0, .ref (am 6)), (1, .int (nI 0))]) hx hb dX2_mirrored_22 rfl hl (by decide) rfl (fun ls hl => ?_)
  refine W_lr (fun j ls => lv_has ls 5 [(2, .int (n_mmi X Y ((f_mset X Y N (up2 τ 5 0 0, ℓ)).1) 0 j)), (3, .int (nI j)), (0, .ref (am 6)), (1, .int (nI 0))]) (Y) (0) (Nat.zero_le _) (lv_sub hl [1, 0, 2, 3] rfl) (fun ls hl => ?_) (fun j ls hj hl ih1 => ?_)
  · -- behind the loop
    refine lv_iload_n hx hb dX2_mirrored_23 rfl (lv_at hl 1 rfl) ?_
    refine lv_aload_n hx hb dX2_mirrored_24 rfl (lv_at hl 2 rfl) ?_
    refine va_get (D := D) (cl := vwCl) (ci := 2) (v := .int (nI Y)) (C := RX2) (T := TX2) (N := 15) hx hb hts inX2 hown hK hP 0 rfl rfl 1 (by decide) fl33 (fun _ h9 => h9) rfl dX2_mirrored_25 ?_
    refine lv_icmp_ge (tgt := 110) hx hb dX2_mirrored_28 (by decide) (fun _ => ?_) (fun c9 => False.elim (c9 (nI_le (Nat.le_refl _) (by omega))))
    refine lv_iload_n hx hb dX2_mirrored_110 rfl (lv_at hl 0 rfl) ?_
    exact W.zret hx hb hr (mmi_n _ _ _ _ _) (fun t ht _ => ⟨rfl, by rw [ht]; exact hP, by rw [hAe]; exact hS.F ht⟩) hS.2.2 dX2_mirrored_111
  · -- one round
    refine lv_iload_n hx hb dX2_mirrored_23 rfl (lv_at hl 1 rfl) ?_
    refine lv_aload_n hx hb dX2_mirrored_24 rfl (lv_at hl 2 rfl) ?_
    refine va_get (D := D) (cl := vwCl) (ci := 2) (v := .int (nI Y)) (C := RX2) (T := TX2) (N := 15) hx hb hts inX2 hown hK hP 0 rfl rfl 1 (by decide) fl33 (fun _ h9 => h9) rfl dX2_mirrored_25 ?_
    refine lv_icmp_ge (tgt := 110) hx hb dX2_mirrored_28 (by decide) (fun c9 => False.elim (nI_ge hj (by omega) c9)) (fun _ => ?_)
    refine lv_iconst (v := nI 0) hx hb dX2_mirrored_31 (by decide) ?_
    refine lv_istore (lv' := [(4, .int (nI 0)), (2, .int (n_mmi X Y ((f_mset X Y N (up2 τ 5 0 0, ℓ)).1) 0 j)), (3, .int (nI j)), (0, .ref (am 6)), (1, .int (nI 0))]) hx hb dX2_mirrored_32 hl (by decide) rfl (fun ls hl => ?_)
    refine W_lr (fun i ls => lv_has ls 5 [(2, .int (n_mmiR X Y ((f_mset X Y N (up2 τ 5 0 0, ℓ)).1) 0 j (n_mmi X Y ((f_mset X Y N (up2 τ 5 0 0, ℓ)).1) 0 j) i)), (3, .int (nI j)), (4, .int (nI i)), (0, .ref (am 6)), (1, .int (nI 0))]) (X) (0) (Nat.zero_le _) (lv_sub hl [1, 2, 0, 3, 4] rfl) (fun ls hl => ?_) (fun i ls hi hl ih2 => ?_)
    · -- behind the loop
      refine lv_iload hx hb dX2_mirrored_34 (lv_at hl 2 rfl) ?_
      refine lv_aload_n hx hb dX2_mirrored_36 rfl (lv_at hl 3 rfl) ?_
      refine va_get (D := D) (cl := vwCl) (ci := 2) (v := .int (nI X)) (C := RX2) (T := TX2) (N := 15) hx hb hts inX2 hown hK hP 0 rfl rfl 0 (by decide) fl29 (fun _ h9 => h9) rfl dX2_mirrored_37 ?_
      refine lv_icmp_ge (tgt := 104) hx hb dX2_mirrored_40 (by decide) (fun _ => ?_) (fun c9 => False.elim (c9 (nI_le (Nat.le_refl _) (by omega))))
      refine a_inc hx hb (k := 1) (lv' := [(3, .int (nI (j + 1))), (2, .int (n_mmiR X Y ((f_mset X Y N (up2 τ 5 0 0, ℓ)).1) 0 j (n_mmi X Y ((f_mset X Y N (up2 τ 5 0 0, ℓ)).1) 0 j) X)), (4, .int (nI X)), (0, .ref (am 6)), (1, .int (nI 0))]) j dX2_mirrored_104 hl rfl (by decide) rfl (fun ls hl => ?_)
      refine lv_goto (tgt := 23) hx hb dX2_mirrored_107 (by decide) ?_
      exact ih1 _ (lv_sub hl [1, 0, 3, 4] rfl)
    · -- one round
      refine lv_iload hx hb dX2_mirrored_34 (lv_at hl 2 rfl) ?_
      refine lv_aload_n hx hb dX2_mirrored_36 rfl (lv_at hl 3 rfl) ?_
      refine va_get (D := D) (cl := vwCl) (ci := 2) (v := .int (nI X)) (C := RX2) (T := TX2) (N := 15) hx hb hts inX2 hown hK hP 0 rfl rfl 0 (by decide) fl29 (fun _ h9 => h9) rfl dX2_mirrored_37 ?_
      refine lv_icmp_ge (tgt := 104) hx hb dX2_mirrored_40 (by decide) (fun c9 => False.elim (nI_ge hi (by omega) c9)) (fun _ => ?_)
      refine W_jn (β := Int32) (fun b4 => b4 = (if n_mmiR X Y ((f_mset X Y N (up2 τ 5 0 0, ℓ)).1) 0 j (n_mmi X Y ((f_mset X Y N (up2 τ 5 0 0, ℓ)).1) 0 j) i = 0 then 0 else if wOf ((f_mset X Y N (up2 τ 5 0 0, ℓ)).1) i j = wOf ((f_mset X Y N (up2 τ 5 0 0, ℓ)).1) (X - 1 - i) j then 1 else 0)) (fun b4 => F0 m 97 ls [.int b4]) (fun jn3 => ?_) (fun b4 eb4 => ?_)
      · -- roads to 97
        refine lv_iload_n hx hb dX2_mirrored_43 rfl (lv_at hl 0 rfl) ?_
        refine lv_if_eq (tgt := 96) hx hb dX2_mirrored_44 (by decide) (fun c5 => ?_) (fun c5 => ?_)
        · -- 96
          refine lv_iconst (v := 0) hx hb dX2_mirrored_96 (by decide) ?_
          exact jn3 _ (by rw [if_pos c5])
        · -- 47
          refine lv_aload_n hx hb dX2_mirrored_47 rfl (lv_at hl 3 rfl) ?_
          refine lv_iload hx hb dX2_mirrored_48 (lv_at hl 2 rfl) ?_
          refine lv_iload_n hx hb dX2_mirrored_50 rfl (lv_at hl 1 rfl) ?_
          refine r_V ⟨hx, hb, hml, hown, hts⟩ (k_X2_warmthOf l D cI cJ am X Y ((f_mset X Y N (up2 τ 5 0 0, ℓ)).1) ((f_mset X Y N (up2 τ 5 0 0, ℓ)).2) hB i j (hi) (hj)) (cwV 2 hts gX2_mirrored_X2_warmthOf rfl rfl rfl (by decide +kernel) ⟨Nat.le_of_ble_eq_true rfl, Nat.le_of_ble_eq_true rfl⟩) hP hK (va_recv hK hP (ci := 2) (q0 := 0) rfl rfl) rfl hl.1 rfl (Nat.le_of_ble_eq_true rfl) dX2_mirrored_51 (Nat.zero_le _) (Nat.zero_le _) ?_
          refine lv_iload_n hx hb dX2_mirrored_54 rfl (lv_at hl 4 rfl) ?_
          refine lv_if_ne (tgt := 75) hx hb dX2_mirrored_55 (by decide) (fun c9 => False.elim (c9 rfl)) (fun _ => ?_)
          refine lv_aload_n hx hb dX2_mirrored_58 rfl (lv_at hl 3 rfl) ?_
          refine lv_aload_n hx hb dX2_mirrored_59 rfl (lv_at hl 3 rfl) ?_
          refine va_get (D := D) (cl := vwCl) (ci := 2) (v := .int (nI X)) (C := RX2) (T := TX2) (N := 15) hx hb hts inX2 hown hK hP 0 rfl rfl 0 (by decide) fl29 (fun _ h9 => h9) rfl dX2_mirrored_60 ?_
          refine lv_iconst (v := 1) hx hb dX2_mirrored_63 (by decide) ?_
          refine lv_isub hx hb dX2_mirrored_64 ?_
          refine top_eq (y := nI (X - 1)) (pk_sub (b := 1) hB.1) ?_
          refine lv_iload hx hb dX2_mirrored_65 (lv_at hl 2 rfl) ?_
          refine lv_isub hx hb dX2_mirrored_67 ?_
          refine top_eq (y := nI (X - 1 - i)) (pk_sub (show i ≤ X - 1 by omega)) ?_
          refine lv_iload_n hx hb dX2_mirrored_68 rfl (lv_at hl 1 rfl) ?_
          refine r_V ⟨hx, hb, hml, hown, hts⟩ (k_X2_warmthOf l D cI cJ am X Y ((f_mset X Y N (up2 τ 5 0 0, ℓ)).1) ((f_mset X Y N (up2 τ 5 0 0, ℓ)).2) hB (X - 1 - i) j (by omega) (hj)) (cwV 2 hts gX2_mirrored_X2_warmthOf rfl rfl rfl (by decide +kernel) ⟨Nat.le_of_ble_eq_true rfl, Nat.le_of_ble_eq_true rfl⟩) hP hK (va_recv hK hP (ci := 2) (q0 := 0) rfl rfl) rfl hl.1 rfl (Nat.le_of_ble_eq_true rfl) dX2_mirrored_69 (Nat.zero_le _) (Nat.zero_le _) ?_
          refine lv_goto (tgt := 89) hx hb dX2_mirrored_72 (by decide) ?_
          refine lv_icmp_ne (tgt := 96) hx hb dX2_mirrored_89 (by decide) (fun c6 => ?_) (fun c6 => ?_)
          · -- 96
            refine lv_iconst (v := 0) hx hb dX2_mirrored_96 (by decide) ?_
            exact jn3 _ (by rw [if_neg c5, if_neg c6])
          · -- 92
            refine lv_iconst (v := 1) hx hb dX2_mirrored_92 (by decide) ?_
            refine lv_goto (tgt := 97) hx hb dX2_mirrored_93 (by decide) ?_
            exact jn3 _ (by rw [if_neg c5, if_pos c6])
      · -- on from 97
        subst eb4
        refine lv_istore_n (lv' := [(2, .int (if n_mmiR X Y ((f_mset X Y N (up2 τ 5 0 0, ℓ)).1) 0 j (n_mmi X Y ((f_mset X Y N (up2 τ 5 0 0, ℓ)).1) 0 j) i = 0 then 0 else if wOf ((f_mset X Y N (up2 τ 5 0 0, ℓ)).1) i j = wOf ((f_mset X Y N (up2 τ 5 0 0, ℓ)).1) (X - 1 - i) j then 1 else 0)), (3, .int (nI j)), (4, .int (nI i)), (0, .ref (am 6)), (1, .int (nI 0))]) hx hb dX2_mirrored_97 rfl hl (by decide) rfl (fun ls hl => ?_)
        refine a_inc hx hb (k := 2) (lv' := [(4, .int (nI (i + 1))), (2, .int (if n_mmiR X Y ((f_mset X Y N (up2 τ 5 0 0, ℓ)).1) 0 j (n_mmi X Y ((f_mset X Y N (up2 τ 5 0 0, ℓ)).1) 0 j) i = 0 then 0 else if wOf ((f_mset X Y N (up2 τ 5 0 0, ℓ)).1) i j = wOf ((f_mset X Y N (up2 τ 5 0 0, ℓ)).1) (X - 1 - i) j then 1 else 0)), (3, .int (nI j)), (0, .ref (am 6)), (1, .int (nI 0))]) i dX2_mirrored_98 hl rfl (by decide) rfl (fun ls hl => ?_)
        refine lv_goto (tgt := 34) hx hb dX2_mirrored_101 (by decide) ?_
        exact ih2 _ (lv_sub hl [1, 2, 0, 3, 4] rfl)
