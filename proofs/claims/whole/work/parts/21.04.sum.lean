set_option maxHeartbeats 4000000 in
set_option maxRecDepth 100000 in
theorem k_X1_sum (l : Launch) (D : va_G) (cI cJ : ClassId) (ab ad : Nat → Nat) (X Y : Nat) (σ : Nat → Nat → Int32) (hh : Nat → Int64) (hw : Nat → Int32) (n : Int32) (hB : 1 ≤ X ∧ X ≤ 10 ∧ 1 ≤ Y ∧ Y ≤ 10) (jn : Nat) (hjn : n = nI jn) (hj9 : jn ≤ 10) : rMet l yX1_sum wsX1_sum 0 0 D (tY cI cJ) (wB ab ad cI cJ X Y σ hh hw n) [.ref (ab 0)] (.long (n_su hh hw jn)) := by
  refine Met.ofW (cc := cX1_sum) (maxL := 4) (ret := (some .long)) (by decide) rfl ?_
  intro p e s m args below meth c s₁ B hml hv
  obtain ⟨rfl, hP, hK⟩ := hv
  have hx := B.exec
  have hb := B.bytes
  have hr := B.returns
  have hts := atoms_spec (ws := wsX1_sum) B.pre
  have hown : s.vm.findClass RX1 = some m.cls := findClass_of_methodNamed B.named
  have hlocks := B.notSynchronized
  have inX1 : ∀ w ∈ wsX10, w ∈ wsX1_sum := by decide +kernel
  have fl17 := hts (.fieldLink RX1 17 "BridgeCells" "joints" "I") (by decide +kernel)
  have fl9 := hts (.fieldLink RX1 9 "BridgeCells" "jointHeats" "[J") (by decide +kernel)
  have fl13 := hts (.fieldLink RX1 13 "BridgeCells" "jointLengths" "[I") (by decide +kernel)
  have hl := lv_entry ([.ref (ab 0)]) (n := 4) (Nat.le_of_ble_eq_true rfl)
  rw [lg_entry_eq]
  generalize (lg_sl ([.ref (ab 0)]) ++ List.replicate (4 - (lg_sl ([.ref (ab 0)])).length) Slot.unset).toArray = ls at hl ⊢
  have hl : lv_has ls 4 [(0, .ref (ab 0))] := hl
  refine lv_lconst (v := 0) hx hb dX1_sum_0 (by decide) ?_
  refine lv_lstore_n (lv' := [(1, .long 0), (0, .ref (ab 0))]) hx hb dX1_sum_1 rfl hl (by decide) rfl (fun ls hl => ?_)
  refine lv_iconst (v := nI 0) hx hb dX1_sum_2 (by decide) ?_
  refine lv_istore_n (lv' := [(3, .int (nI 0)), (1, .long 0), (0, .ref (ab 0))]) hx hb dX1_sum_3 rfl hl (by decide) rfl (fun ls hl => ?_)
  refine W_lr (fun k ls => lv_has ls 4 [(1, .long (n_su hh hw k)), (3, .int (nI k)), (0, .ref (ab 0))]) jn 0 (Nat.zero_le _) (lv_sub hl [1, 0, 2] rfl) (fun ls hl => ?_) (fun k ls hk hl ih1 => ?_)
  · -- behind
    refine lv_iload_n hx hb dX1_sum_4 rfl (lv_at hl 1 rfl) ?_
    refine lv_aload_n hx hb dX1_sum_5 rfl (lv_at hl 2 rfl) ?_
    refine va_get (D := D) (cl := vwCl) (ci := 1) (v := .int n) (C := RX1) (T := TX1) (N := 4) hx hb hts inX1 hown hK hP 0 rfl rfl 3 (by decide) fl17 (fun _ h9 => h9) rfl dX1_sum_6 ?_
    refine lv_icmp_ge (tgt := 35) hx hb dX1_sum_9 (by decide) (fun _ => ?_) (fun c9 => absurd (by rw [hjn]; exact nI_le (Nat.le_refl _) (by omega)) c9)
    refine lv_lload_n hx hb dX1_sum_35 rfl (lv_at hl 0 rfl) ?_
    exact W.lret hx hb hr (fun t ht _ => ⟨rfl, ht⟩) (fun q h => nomatch h) dX1_sum_36
  · -- one round
    refine lv_iload_n hx hb dX1_sum_4 rfl (lv_at hl 1 rfl) ?_
    refine lv_aload_n hx hb dX1_sum_5 rfl (lv_at hl 2 rfl) ?_
    refine va_get (D := D) (cl := vwCl) (ci := 1) (v := .int n) (C := RX1) (T := TX1) (N := 4) hx hb hts inX1 hown hK hP 0 rfl rfl 3 (by decide) fl17 (fun _ h9 => h9) rfl dX1_sum_6 ?_
    refine lv_icmp_ge (tgt := 35) hx hb dX1_sum_9 (by decide) (fun c9 => absurd c9 (by rw [hjn]; exact nI_ge hk (by omega))) (fun _ => ?_)
    refine lv_lload_n hx hb dX1_sum_12 rfl (lv_at hl 0 rfl) ?_
    refine lv_aload_n hx hb dX1_sum_13 rfl (lv_at hl 2 rfl) ?_
    refine va_get (D := D) (cl := vwCl) (ci := 1) (v := .ref (ab 1)) (C := RX1) (T := TX1) (N := 4) hx hb hts inX1 hown hK hP 0 rfl rfl 1 (by decide) fl9 (fun _ h9 => h9) rfl dX1_sum_14 ?_
    refine lv_iload_n hx hb dX1_sum_17 rfl (lv_at hl 1 rfl) ?_
    refine a_ldl hx hb hK hP 1 1 rfl rfl k (rfl) (by omega) (by decide) dX1_sum_18 ?_
    refine lv_aload_n hx hb dX1_sum_19 rfl (lv_at hl 2 rfl) ?_
    refine va_get (D := D) (cl := vwCl) (ci := 1) (v := .ref (ab 2)) (C := RX1) (T := TX1) (N := 4) hx hb hts inX1 hown hK hP 0 rfl rfl 2 (by decide) fl13 (fun _ h9 => h9) rfl dX1_sum_20 ?_
    refine lv_iload_n hx hb dX1_sum_23 rfl (lv_at hl 1 rfl) ?_
    refine a_ld hx hb hK hP 2 0 rfl rfl k (rfl) (by omega) (by decide) dX1_sum_24 ?_
    refine lv_i2l (v := (hw k).toInt64) hx hb dX1_sum_25 rfl ?_
    refine lv_lmul hx hb dX1_sum_26 ?_
    refine lv_ladd hx hb dX1_sum_27 ?_
    refine lv_lstore_n (lv' := [(1, .long ((n_su hh hw k) + ((hh k) * ((hw k).toInt64)))), (3, .int (nI k)), (0, .ref (ab 0))]) hx hb dX1_sum_28 rfl hl (by decide) rfl (fun ls hl => ?_)
    refine a_inc hx hb (k := 1) (lv' := [(3, .int (nI (k + 1))), (1, .long ((n_su hh hw k) + ((hh k) * ((hw k).toInt64)))), (0, .ref (ab 0))]) k dX1_sum_29 hl rfl (by decide) rfl (fun ls hl => ?_)
    refine lv_goto (tgt := 4) hx hb dX1_sum_32 (by decide) ?_
    exact ih1 _ (lv_sub hl [1, 0, 2] rfl)
