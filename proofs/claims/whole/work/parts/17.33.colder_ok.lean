set_option maxHeartbeats 4000000 in
set_option maxRecDepth 100000 in
theorem k_X2_colder_ok (l : Launch) (D : va_G) (cI cJ : ClassId) (am : Nat → Nat) (X Y : Nat) (τ : Nat → Nat → Int32) (ℓ : Nat → Nat → Int64) (hB : 1 ≤ X ∧ X ≤ 10 ∧ 1 ≤ Y ∧ Y ≤ 10) (wt : Int32) (N : Nat) (hv : ¬ mIn wt (-10000) 10000 = 0) (hN : MT X Y ((up2 τ 5 0 0), ℓ) N) : wMet l yX2_colder wsX2_colder 6 141 D (tY cI cJ) (wM am cI cJ X Y τ ℓ) (wM am cI cJ X Y ((f_mset X Y N ((up2 τ 5 0 0), ℓ)).1) ((f_mset X Y N ((up2 τ 5 0 0), ℓ)).2)) [.ref (am 6), .int wt] (some (.int (n_mco X (f_mset X Y N ((up2 τ 5 0 0), ℓ)).1 wt Y))) := by
  refine Met.ofW (cc := cX2_colder) (maxL := 5) (ret := (some .int)) (by decide) rfl ?_
  intro p e s m args below meth c s₁ B hml hv
  obtain ⟨rfl, hP, hK, hD0⟩ := hv
  have hx := B.exec
  have hb := B.bytes
  have hr := B.returns
  have hts := atoms_spec (ws := wsX2_colder) B.pre
  have hown : s.vm.findClass RX2 = some m.cls := findClass_of_methodNamed B.named
  have hlocks := B.notSynchronized
  have inX2 : ∀ w ∈ wsX20, w ∈ wsX2_colder := by decide +kernel
  have fl33 := hts (.fieldLink RX2 33 "BridgeCellsModel" "high" "I") (by decide +kernel)
  have fl29 := hts (.fieldLink RX2 29 "BridgeCellsModel" "wide" "I") (by decide +kernel)
  have fl7 := hts (.fieldLink RX2 7 "BridgeCellsModel" "leads" "[I") (by decide +kernel)
  have fl13 := hts (.fieldLink RX2 13 "BridgeCellsModel" "warm" "[I") (by decide +kernel)
  have hl := lv_entry ([.ref (am 6), .int wt]) (n := 5) (Nat.le_of_ble_eq_true rfl)
  rw [lg_entry_eq]
  generalize (lg_sl ([.ref (am 6), .int wt]) ++ List.replicate (5 - (lg_sl ([.ref (am 6), .int wt])).length) Slot.unset).toArray = ls at hl ⊢
  have hl : lv_has ls 5 [(0, .ref (am 6)), (1, .int wt)] := hl
  have hD := aw_D hD0
  generalize hAe : aw (wM am cI cJ X Y τ ℓ) = A at hD ⊢
  have hS : va_S A s.heap s.heap [] := va_S.rf
  refine lv_aload_n hx hb dX2_colder_0 rfl (lv_at hl 0 rfl) ?_
  refine lv_iload_n hx hb dX2_colder_1 rfl (lv_at hl 1 rfl) ?_
  refine lv_sipush (v := (-10000)) hx hb dX2_colder_2 (by decide) ?_
  refine lv_sipush (v := 10000) hx hb dX2_colder_5 (by decide) ?_
  refine r_S ⟨hx, hb, hml, hown, hts⟩ (k_X2_in l D cI cJ wt (-10000) 10000) (va_cwS 3 hts gX2_colder_X2_in rfl rfl rfl (by decide +kernel) ⟨Nat.le_of_ble_eq_true rfl, Nat.le_of_ble_eq_true rfl⟩) P_nil hK rfl hl.1 rfl (Nat.le_of_ble_eq_true rfl) dX2_colder_8 (Nat.zero_le _) (Nat.zero_le _) ?_
  refine w_V (A := A) ⟨hx, hb, hml, hown, hts⟩ (k_X2_may l D cI cJ am X Y τ ℓ hB (mIn wt (-10000) 10000) (mIn_n _ _ _)) (cwV 1 hts gX2_colder_X2_may rfl rfl rfl (by decide +kernel) ⟨Nat.le_of_ble_eq_true rfl, Nat.le_of_ble_eq_true rfl⟩) ([]) ([]) hP hD hS hK (va_recv hK hP (ci := 2) (q0 := 0) rfl rfl) rfl hl.1 rfl (Nat.le_of_ble_eq_true rfl) dX2_colder_11 (Nat.zero_le _) (Nat.zero_le _) (fun H locs hP hS => ?_)
  have hP : va_P D vwCl (wM am cI cJ X Y (up2 τ 5 0 (if (mIn wt (-10000) 10000) = 0 then 1 else 0)) ℓ) H := hP
  have hD : va_D A (wM am cI cJ X Y (up2 τ 5 0 (if (mIn wt (-10000) 10000) = 0 then 1 else 0)) ℓ) := wM_D hD _ _
  refine lv_if_ne (tgt := 19) hx hb dX2_colder_14 (by decide) (fun _ => ?_) (fun c9 => absurd c9 hv)
  rw [if_neg hv] at hP
  have hD : va_D A (wM am cI cJ X Y (up2 τ 5 0 0) ℓ) := wM_D hD _ _
  refine lv_aload_n hx hb dX2_colder_19 rfl (lv_at hl 0 rfl) ?_
  refine w_V (A := A) ⟨hx, hb, hml, hown, hts⟩ (k_X2_settle l D cI cJ am X Y (up2 τ 5 0 0) ℓ hB N hN) (cwV 0 hts gX2_colder_X2_settle rfl rfl rfl (by decide +kernel) ⟨Nat.le_of_ble_eq_true rfl, Nat.le_of_ble_eq_true rfl⟩) ([]) ([]) hP hD hS hK (va_recv hK hP (ci := 2) (q0 := 0) rfl rfl) rfl hl.1 rfl (Nat.le_of_ble_eq_true rfl) dX2_colder_20 (Nat.zero_le _) (Nat.zero_le _) (fun H locs hP hS => ?_)
  have hP : va_P D vwCl (wM am cI cJ X Y ((f_mset X Y N (up2 τ 5 0 0, ℓ)).1) ((f_mset X Y N (up2 τ 5 0 0, ℓ)).2)) H := hP
  have hD : va_D A (wM am cI cJ X Y ((f_mset X Y N (up2 τ 5 0 0, ℓ)).1) ((f_mset X Y N (up2 τ 5 0 0, ℓ)).2)) := wM_D hD _ _
  refine lv_iconst (v := 0) hx hb dX2_colder_23 (by decide) ?_
  refine lv_istore_n (lv' := [(2, .int 0), (0, .ref (am 6)), (1, .int wt)]) hx hb dX2_colder_24 rfl hl (by decide) rfl (fun ls hl => ?_)
  refine lv_iconst (v := nI 0) hx hb dX2_colder_25 (by decide) ?_
  refine lv_istore_n (lv' := [(3, .int (nI 0)), (2, .int 0), (0, .ref (am 6)), (1, .int wt)]) hx hb dX2_colder_26 rfl hl (by decide) rfl (fun ls hl => ?_)
  refine W_lr (fun j ls => lv_has ls 5 [(2, .int (n_mco X ((f_mset X Y N (up2 τ 5 0 0, ℓ)).1) wt j)), (3, .int (nI j)), (0, .ref (am 6)), (1, .int wt)]) (Y) (0) (Nat.zero_le _) (lv_sub hl [1, 0, 2, 3] rfl) (fun ls hl => ?_) (fun j ls hj hl ih1 => ?_)
  · -- behind the loop
    refine lv_iload_n hx hb dX2_colder_27 rfl (lv_at hl 1 rfl) ?_
    refine lv_aload_n hx hb dX2_colder_28 rfl (lv_at hl 2 rfl) ?_
    refine va_get (D := D) (cl := vwCl) (ci := 2) (v := .int (nI Y)) (C := RX2) (T := TX2) (N := 15) hx hb hts inX2 hown hK hP 0 rfl rfl 1 (by decide) fl33 (fun _ h9 => h9) rfl dX2_colder_29 ?_
    refine lv_icmp_ge (tgt := 98) hx hb dX2_colder_32 (by decide) (fun _ => ?_) (fun c9 => False.elim (c9 (nI_le (Nat.le_refl _) (by omega))))
    refine lv_iload_n hx hb dX2_colder_98 rfl (lv_at hl 0 rfl) ?_
    exact W.iret hx hb hr (fun t ht _ => ⟨rfl, by rw [ht]; exact hP, by rw [hAe]; exact hS.F ht⟩) hS.2.2 dX2_colder_99
  · -- one round
    refine lv_iload_n hx hb dX2_colder_27 rfl (lv_at hl 1 rfl) ?_
    refine lv_aload_n hx hb dX2_colder_28 rfl (lv_at hl 2 rfl) ?_
    refine va_get (D := D) (cl := vwCl) (ci := 2) (v := .int (nI Y)) (C := RX2) (T := TX2) (N := 15) hx hb hts inX2 hown hK hP 0 rfl rfl 1 (by decide) fl33 (fun _ h9 => h9) rfl dX2_colder_29 ?_
    refine lv_icmp_ge (tgt := 98) hx hb dX2_colder_32 (by decide) (fun c9 => False.elim (nI_ge hj (by omega) c9)) (fun _ => ?_)
    refine lv_iconst (v := nI 0) hx hb dX2_colder_35 (by decide) ?_
    refine lv_istore (lv' := [(4, .int (nI 0)), (2, .int (n_mco X ((f_mset X Y N (up2 τ 5 0 0, ℓ)).1) wt j)), (3, .int (nI j)), (0, .ref (am 6)), (1, .int wt)]) hx hb dX2_colder_36 hl (by decide) rfl (fun ls hl => ?_)
    refine W_lr (fun i ls => lv_has ls 5 [(2, .int (n_mcoR ((f_mset X Y N (up2 τ 5 0 0, ℓ)).1) wt j (n_mco X ((f_mset X Y N (up2 τ 5 0 0, ℓ)).1) wt j) i)), (3, .int (nI j)), (4, .int (nI i)), (0, .ref (am 6)), (1, .int wt)]) (X) (0) (Nat.zero_le _) (lv_sub hl [1, 2, 0, 3, 4] rfl) (fun ls hl => ?_) (fun i ls hi hl ih2 => ?_)
    · -- behind the loop
      refine lv_iload hx hb dX2_colder_38 (lv_at hl 2 rfl) ?_
      refine lv_aload_n hx hb dX2_colder_40 rfl (lv_at hl 3 rfl) ?_
      refine va_get (D := D) (cl := vwCl) (ci := 2) (v := .int (nI X)) (C := RX2) (T := TX2) (N := 15) hx hb hts inX2 hown hK hP 0 rfl rfl 0 (by decide) fl29 (fun _ h9 => h9) rfl dX2_colder_41 ?_
      refine lv_icmp_ge (tgt := 92) hx hb dX2_colder_44 (by decide) (fun _ => ?_) (fun c9 => False.elim (c9 (nI_le (Nat.le_refl _) (by omega))))
      refine a_inc hx hb (k := 1) (lv' := [(3, .int (nI (j + 1))), (2, .int (n_mcoR ((f_mset X Y N (up2 τ 5 0 0, ℓ)).1) wt j (n_mco X ((f_mset X Y N (up2 τ 5 0 0, ℓ)).1) wt j) X)), (4, .int (nI X)), (0, .ref (am 6)), (1, .int wt)]) j dX2_colder_92 hl rfl (by decide) rfl (fun ls hl => ?_)
      refine lv_goto (tgt := 27) hx hb dX2_colder_95 (by decide) ?_
      exact ih1 _ (lv_sub hl [1, 0, 3, 4] rfl)
    · -- one round
      refine lv_iload hx hb dX2_colder_38 (lv_at hl 2 rfl) ?_
      refine lv_aload_n hx hb dX2_colder_40 rfl (lv_at hl 3 rfl) ?_
      refine va_get (D := D) (cl := vwCl) (ci := 2) (v := .int (nI X)) (C := RX2) (T := TX2) (N := 15) hx hb hts inX2 hown hK hP 0 rfl rfl 0 (by decide) fl29 (fun _ h9 => h9) rfl dX2_colder_41 ?_
      refine lv_icmp_ge (tgt := 92) hx hb dX2_colder_44 (by decide) (fun c9 => False.elim (nI_ge hi (by omega) c9)) (fun _ => ?_)
      refine W_jn (β := Int32) (fun b4 => b4 = (if ((f_mset X Y N (up2 τ 5 0 0, ℓ)).1) 0 (10 * j + i) ≤ 0 then n_mcoR ((f_mset X Y N (up2 τ 5 0 0, ℓ)).1) wt j (n_mco X ((f_mset X Y N (up2 τ 5 0 0, ℓ)).1) wt j) i else if wt ≤ ((f_mset X Y N (up2 τ 5 0 0, ℓ)).1) 1 (10 * j + i) then n_mcoR ((f_mset X Y N (up2 τ 5 0 0, ℓ)).1) wt j (n_mco X ((f_mset X Y N (up2 τ 5 0 0, ℓ)).1) wt j) i else n_mcoR ((f_mset X Y N (up2 τ 5 0 0, ℓ)).1) wt j (n_mco X ((f_mset X Y N (up2 τ 5 0 0, ℓ)).1) wt j) i + 1)) (fun b4 => F0 m 85 ls [.int b4]) (fun jn3 => ?_) (fun b4 eb4 => ?_)
      · -- roads to 85
        refine lv_aload_n hx hb dX2_colder_47 rfl (lv_at hl 3 rfl) ?_
        refine va_get (D := D) (cl := vwCl) (ci := 2) (v := .ref (am 0)) (C := RX2) (T := TX2) (N := 15) hx hb hts inX2 hown hK hP 0 rfl rfl 3 (by decide) fl7 (fun _ h9 => h9) rfl dX2_colder_48 ?_
        refine lv_bipush (v := nI 10) hx hb dX2_colder_51 (by decide) ?_
        refine lv_iload_n hx hb dX2_colder_53 rfl (lv_at hl 1 rfl) ?_
        refine lv_imul hx hb dX2_colder_54 ?_
        refine top_eq (y := nI (10 * j)) (pk_mul 10 j) ?_
        refine lv_iload hx hb dX2_colder_55 (lv_at hl 2 rfl) ?_
        refine lv_iadd hx hb dX2_colder_57 ?_
        refine top_eq (y := nI ((10 * j) + i)) (nI_add (10 * j) i) ?_
        refine a_ld hx hb hK hP 1 0 rfl rfl ((10 * j) + i) (rfl) (i10 hB hi hj) (by decide) dX2_colder_58 ?_
        refine lv_if_le (tgt := 84) hx hb dX2_colder_59 (by decide) (fun c5 => ?_) (fun c5 => ?_)
        · -- 84
          refine lv_iload_n hx hb dX2_colder_84 rfl (lv_at hl 0 rfl) ?_
          exact jn3 _ (by rw [if_pos c5])
        · -- 62
          refine lv_aload_n hx hb dX2_colder_62 rfl (lv_at hl 3 rfl) ?_
          refine va_get (D := D) (cl := vwCl) (ci := 2) (v := .ref (am 1)) (C := RX2) (T := TX2) (N := 15) hx hb hts inX2 hown hK hP 0 rfl rfl 4 (by decide) fl13 (fun _ h9 => h9) rfl dX2_colder_63 ?_
          refine lv_bipush (v := nI 10) hx hb dX2_colder_66 (by decide) ?_
          refine lv_iload_n hx hb dX2_colder_68 rfl (lv_at hl 1 rfl) ?_
          refine lv_imul hx hb dX2_colder_69 ?_
          refine top_eq (y := nI (10 * j)) (pk_mul 10 j) ?_
          refine lv_iload hx hb dX2_colder_70 (lv_at hl 2 rfl) ?_
          refine lv_iadd hx hb dX2_colder_72 ?_
          refine top_eq (y := nI ((10 * j) + i)) (nI_add (10 * j) i) ?_
          refine a_ld hx hb hK hP 2 0 rfl rfl ((10 * j) + i) (rfl) (i10 hB hi hj) (by decide) dX2_colder_73 ?_
          refine lv_iload_n hx hb dX2_colder_74 rfl (lv_at hl 4 rfl) ?_
          refine lv_icmp_ge (tgt := 84) hx hb dX2_colder_75 (by decide) (fun c6 => ?_) (fun c6 => ?_)
          · -- 84
            refine lv_iload_n hx hb dX2_colder_84 rfl (lv_at hl 0 rfl) ?_
            exact jn3 _ (by rw [if_neg c5, if_pos c6])
          · -- 78
            refine lv_iload_n hx hb dX2_colder_78 rfl (lv_at hl 0 rfl) ?_
            refine lv_iconst (v := 1) hx hb dX2_colder_79 (by decide) ?_
            refine lv_iadd hx hb dX2_colder_80 ?_
            refine lv_goto (tgt := 85) hx hb dX2_colder_81 (by decide) ?_
            exact jn3 _ (by rw [if_neg c5, if_neg c6])
      · -- on from 85
        subst eb4
        refine lv_istore_n (lv' := [(2, .int (if ((f_mset X Y N (up2 τ 5 0 0, ℓ)).1) 0 (10 * j + i) ≤ 0 then n_mcoR ((f_mset X Y N (up2 τ 5 0 0, ℓ)).1) wt j (n_mco X ((f_mset X Y N (up2 τ 5 0 0, ℓ)).1) wt j) i else if wt ≤ ((f_mset X Y N (up2 τ 5 0 0, ℓ)).1) 1 (10 * j + i) then n_mcoR ((f_mset X Y N (up2 τ 5 0 0, ℓ)).1) wt j (n_mco X ((f_mset X Y N (up2 τ 5 0 0, ℓ)).1) wt j) i else n_mcoR ((f_mset X Y N (up2 τ 5 0 0, ℓ)).1) wt j (n_mco X ((f_mset X Y N (up2 τ 5 0 0, ℓ)).1) wt j) i + 1)), (3, .int (nI j)), (4, .int (nI i)), (0, .ref (am 6)), (1, .int wt)]) hx hb dX2_colder_85 rfl hl (by decide) rfl (fun ls hl => ?_)
        refine a_inc hx hb (k := 2) (lv' := [(4, .int (nI (i + 1))), (2, .int (if ((f_mset X Y N (up2 τ 5 0 0, ℓ)).1) 0 (10 * j + i) ≤ 0 then n_mcoR ((f_mset X Y N (up2 τ 5 0 0, ℓ)).1) wt j (n_mco X ((f_mset X Y N (up2 τ 5 0 0, ℓ)).1) wt j) i else if wt ≤ ((f_mset X Y N (up2 τ 5 0 0, ℓ)).1) 1 (10 * j + i) then n_mcoR ((f_mset X Y N (up2 τ 5 0 0, ℓ)).1) wt j (n_mco X ((f_mset X Y N (up2 τ 5 0 0, ℓ)).1) wt j) i else n_mcoR ((f_mset X Y N (up2 τ 5 0 0, ℓ)).1) wt j (n_mco X ((f_mset X Y N (up2 τ 5 0 0, ℓ)).1) wt j) i + 1)), (3, .int (nI j)), (0, .ref (am 6)), (1, .int wt)]) i dX2_colder_86 hl rfl (by decide) rfl (fun ls hl => ?_)
        refine lv_goto (tgt := 38) hx hb dX2_colder_89 (by decide) ?_
        exact ih2 _ (lv_sub hl [1, 2, 0, 3, 4] rfl)
