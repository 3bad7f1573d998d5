set_option maxHeartbeats 4000000 in
set_option maxRecDepth 100000 in
theorem k_X2_sum (l : Launch) (D : va_G) (cI cJ : ClassId) (am : Nat → Nat) (X Y : Nat) (τ : Nat → Nat → Int32) (ℓ : Nat → Nat → Int64) (hB : 1 ≤ X ∧ X ≤ 10 ∧ 1 ≤ Y ∧ Y ≤ 10) (jn : Nat) (hjn : τ 5 4 = nI jn) (hj9 : jn ≤ 10) : wMet l yX2_sum wsX2_sum 0 0 D (tY cI cJ) (wM am cI cJ X Y τ ℓ) (wM am cI cJ X Y (up2 τ 5 0 0) ℓ) [.ref (am 6)] (some (.long (n_su (ℓ 0) (τ 4) jn))) := by
  refine Met.ofW (cc := cX2_sum) (maxL := 4) (ret := (some .long)) (by decide) rfl ?_
  intro p e s m args below meth c s₁ B hml hv
  obtain ⟨rfl, hP, hK, hD0⟩ := hv
  have hx := B.exec
  have hb := B.bytes
  have hr := B.returns
  have hts := atoms_spec (ws := wsX2_sum) B.pre
  have hown : s.vm.findClass RX2 = some m.cls := findClass_of_methodNamed B.named
  have hlocks := B.notSynchronized
  have inX2 : ∀ w ∈ wsX20, w ∈ wsX2_sum := by decide +kernel
  have fl36 := hts (.fieldLink RX2 36 "BridgeCellsModel" "fault" "I") (by decide +kernel)
  have fl108 := hts (.fieldLink RX2 108 "BridgeCellsModel" "joints" "I") (by decide +kernel)
  have fl22 := hts (.fieldLink RX2 22 "BridgeCellsModel" "heats" "[J") (by decide +kernel)
  have fl26 := hts (.fieldLink RX2 26 "BridgeCellsModel" "lengths" "[I") (by decide +kernel)
  have hl := lv_entry ([.ref (am 6)]) (n := 4) (Nat.le_of_ble_eq_true rfl)
  rw [lg_entry_eq]
  generalize (lg_sl ([.ref (am 6)]) ++ List.replicate (4 - (lg_sl ([.ref (am 6)])).length) Slot.unset).toArray = ls at hl ⊢
  have hl : lv_has ls 4 [(0, .ref (am 6))] := hl
  have hD := aw_D hD0
  generalize hAe : aw (wM am cI cJ X Y τ ℓ) = A at hD ⊢
  have hS : va_S A s.heap s.heap [] := va_S.rf
  refine lv_aload_n hx hb dX2_sum_0 rfl (lv_at hl 0 rfl) ?_
  refine lv_iconst (v := 0) hx hb dX2_sum_1 (by decide) ?_
  refine va_put (D := D) (cl := vwCl) (ci := 2) (v := .int 0) (ty := .int) (C := RX2) (T := TX2) (N := 15) hx hb hts inX2 tyX2 tyX2_ok nmX2 hown hK hP hD hS 0 rfl rfl 2 (by decide) fl36 (fun _ h9 => h9) rfl (by decide +kernel) rfl rfl (Nat.le_of_ble_eq_true rfl) dX2_sum_2 (fun H locs hP _ hS => ?_)
  obtain ⟨τ1, eτ1⟩ : ∃ z, z = up2 τ 5 0 0 := ⟨_, rfl⟩
  replace hP : va_P D vwCl (wM am cI cJ X Y τ1 ℓ) H := by rw [eτ1]; exact hP
  have hP : va_P D vwCl (wM am cI cJ X Y τ1 ℓ) H := hP
  have hD : va_D A (wM am cI cJ X Y τ1 ℓ) := wM_D hD _ _
  refine lv_lconst (v := 0) hx hb dX2_sum_5 (by decide) ?_
  refine lv_lstore_n (lv' := [(1, .long 0), (0, .ref (am 6))]) hx hb dX2_sum_6 rfl hl (by decide) rfl (fun ls hl => ?_)
  refine lv_iconst (v := nI 0) hx hb dX2_sum_7 (by decide) ?_
  refine lv_istore_n (lv' := [(3, .int (nI 0)), (1, .long 0), (0, .ref (am 6))]) hx hb dX2_sum_8 rfl hl (by decide) rfl (fun ls hl => ?_)
  subst eτ1
  have hj5 : (up2 τ 5 0 0) 5 4 = nI jn := hjn
  refine W_lr (fun k ls => lv_has ls 4 [(1, .long (n_su (ℓ 0) (τ 4) k)), (3, .int (nI k)), (0, .ref (am 6))]) jn 0 (Nat.zero_le _) (lv_sub hl [1, 0, 2] rfl) (fun ls hl => ?_) (fun k ls hk hl ih2 => ?_)
  · -- behind
    refine lv_iload_n hx hb dX2_sum_9 rfl (lv_at hl 1 rfl) ?_
    refine lv_aload_n hx hb dX2_sum_10 rfl (lv_at hl 2 rfl) ?_
    refine va_get (D := D) (cl := vwCl) (ci := 2) (v := .int ((up2 τ 5 0 0) 5 4)) (C := RX2) (T := TX2) (N := 15) hx hb hts inX2 hown hK hP 0 rfl rfl 12 (by decide) fl108 (fun _ h9 => h9) rfl dX2_sum_11 ?_
    refine lv_icmp_ge (tgt := 40) hx hb dX2_sum_14 (by decide) (fun _ => ?_) (fun c9 => absurd (by rw [hj5]; exact nI_le (Nat.le_refl _) (by omega)) c9)
    refine lv_lload_n hx hb dX2_sum_40 rfl (lv_at hl 0 rfl) ?_
    exact W.lret hx hb hr (fun t ht _ => ⟨rfl, by rw [ht]; exact hP, by rw [hAe]; exact hS.F ht⟩) hS.2.2 dX2_sum_41
  · -- one round
    refine lv_iload_n hx hb dX2_sum_9 rfl (lv_at hl 1 rfl) ?_
    refine lv_aload_n hx hb dX2_sum_10 rfl (lv_at hl 2 rfl) ?_
    refine va_get (D := D) (cl := vwCl) (ci := 2) (v := .int ((up2 τ 5 0 0) 5 4)) (C := RX2) (T := TX2) (N := 15) hx hb hts inX2 hown hK hP 0 rfl rfl 12 (by decide) fl108 (fun _ h9 => h9) rfl dX2_sum_11 ?_
    refine lv_icmp_ge (tgt := 40) hx hb dX2_sum_14 (by decide) (fun c9 => absurd c9 (by rw [hj5]; exact nI_ge hk (by omega))) (fun _ => ?_)
    refine lv_lload_n hx hb dX2_sum_17 rfl (lv_at hl 0 rfl) ?_
    refine lv_aload_n hx hb dX2_sum_18 rfl (lv_at hl 2 rfl) ?_
    refine va_get (D := D) (cl := vwCl) (ci := 2) (v := .ref (am 5)) (C := RX2) (T := TX2) (N := 15) hx hb hts inX2 hown hK hP 0 rfl rfl 13 (by decide) fl22 (fun _ h9 => h9) rfl dX2_sum_19 ?_
    refine lv_iload_n hx hb dX2_sum_22 rfl (lv_at hl 1 rfl) ?_
    refine a_ldl hx hb hK hP 6 1 rfl rfl k (rfl) (by omega) (by decide) dX2_sum_23 ?_
    refine lv_aload_n hx hb dX2_sum_24 rfl (lv_at hl 2 rfl) ?_
    refine va_get (D := D) (cl := vwCl) (ci := 2) (v := .ref (am 4)) (C := RX2) (T := TX2) (N := 15) hx hb hts inX2 hown hK hP 0 rfl rfl 14 (by decide) fl26 (fun _ h9 => h9) rfl dX2_sum_25 ?_
    refine lv_iload_n hx hb dX2_sum_28 rfl (lv_at hl 1 rfl) ?_
    refine a_ld hx hb hK hP 5 0 rfl rfl k (rfl) (by omega) (by decide) dX2_sum_29 ?_
    refine lv_i2l (v := ((up2 τ 5 0 0) 4 k).toInt64) hx hb dX2_sum_30 rfl ?_
    refine lv_lmul hx hb dX2_sum_31 ?_
    refine lv_ladd hx hb dX2_sum_32 ?_
    refine lv_lstore_n (lv' := [(1, .long ((n_su (ℓ 0) (τ 4) k) + ((ℓ 0 k) * (((up2 τ 5 0 0) 4 k).toInt64)))), (3, .int (nI k)), (0, .ref (am 6))]) hx hb dX2_sum_33 rfl hl (by decide) rfl (fun ls hl => ?_)
    refine a_inc hx hb (k := 1) (lv' := [(3, .int (nI (k + 1))), (1, .long ((n_su (ℓ 0) (τ 4) k) + ((ℓ 0 k) * (((up2 τ 5 0 0) 4 k).toInt64)))), (0, .ref (am 6))]) k dX2_sum_34 hl rfl (by decide) rfl (fun ls hl => ?_)
    refine lv_goto (tgt := 9) hx hb dX2_sum_37 (by decide) ?_
    exact ih2 _ (lv_sub hl [1, 0, 2] rfl)
