set_option maxHeartbeats 4000000 in
set_option maxRecDepth 100000 in
theorem k_X2_heat (l : Launch) (D : va_G) (cI cJ : ClassId) (am : Nat → Nat) (X Y : Nat) (τ : Nat → Nat → Int32) (ℓ : Nat → Nat → Int64) (hB : 1 ≤ X ∧ X ≤ 10 ∧ 1 ≤ Y ∧ Y ≤ 10) (N : Nat) (hN : MT X Y (τ, ℓ) N) : wMet l yX2_heat wsX2_heat 6 141 D (tY cI cJ) (wM am cI cJ X Y τ ℓ) (wM am cI cJ X Y ((f_mset X Y N (τ, ℓ)).1) ((f_mset X Y N (τ, ℓ)).2)) [.ref (am 6)] (some (.long (n_mh X Y (f_mset X Y N (τ, ℓ)).1 4))) := by
  refine Met.ofW (cc := cX2_heat) (maxL := 4) (ret := (some .long)) (by decide) rfl ?_
  intro p e s m args below meth c s₁ B hml hv
  obtain ⟨rfl, hP, hK, hD0⟩ := hv
  have hx := B.exec
  have hb := B.bytes
  have hr := B.returns
  have hts := atoms_spec (ws := wsX2_heat) B.pre
  have hown : s.vm.findClass RX2 = some m.cls := findClass_of_methodNamed B.named
  have hlocks := B.notSynchronized
  have hl := lv_entry ([.ref (am 6)]) (n := 4) (Nat.le_of_ble_eq_true rfl)
  rw [lg_entry_eq]
  generalize (lg_sl ([.ref (am 6)]) ++ List.replicate (4 - (lg_sl ([.ref (am 6)])).length) Slot.unset).toArray = ls at hl ⊢
  have hl : lv_has ls 4 [(0, .ref (am 6))] := hl
  have hD := aw_D hD0
  generalize hAe : aw (wM am cI cJ X Y τ ℓ) = A at hD ⊢
  have hS : va_S A s.heap s.heap [] := va_S.rf
  refine lv_aload_n hx hb dX2_heat_0 rfl (lv_at hl 0 rfl) ?_
  refine w_V (A := A) ⟨hx, hb, hml, hown, hts⟩ (k_X2_settle l D cI cJ am X Y τ ℓ hB N hN) (cwV 0 hts gX2_heat_X2_settle rfl rfl rfl (by decide +kernel) ⟨Nat.le_of_ble_eq_true rfl, Nat.le_of_ble_eq_true rfl⟩) ([]) ([]) hP hD hS hK (va_recv hK hP (ci := 2) (q0 := 0) rfl rfl) rfl hl.1 rfl (Nat.le_of_ble_eq_true rfl) dX2_heat_1 (Nat.zero_le _) (Nat.zero_le _) (fun H locs hP hS => ?_)
  have hP : va_P D vwCl (wM am cI cJ X Y ((f_mset X Y N (τ, ℓ)).1) ((f_mset X Y N (τ, ℓ)).2)) H := hP
  have hD : va_D A (wM am cI cJ X Y ((f_mset X Y N (τ, ℓ)).1) ((f_mset X Y N (τ, ℓ)).2)) := wM_D hD _ _
  refine lv_lconst (v := 0) hx hb dX2_heat_4 (by decide) ?_
  refine lv_lstore_n (lv' := [(1, .long 0), (0, .ref (am 6))]) hx hb dX2_heat_5 rfl hl (by decide) rfl (fun ls hl => ?_)
  refine lv_iconst (v := nI 0) hx hb dX2_heat_6 (by decide) ?_
  refine lv_istore_n (lv' := [(3, .int (nI 0)), (1, .long 0), (0, .ref (am 6))]) hx hb dX2_heat_7 rfl hl (by decide) rfl (fun ls hl => ?_)
  refine W_lr (fun sd ls => lv_has ls 4 [(1, .long (n_mh X Y ((f_mset X Y N (τ, ℓ)).1) sd)), (3, .int (nI sd)), (0, .ref (am 6))]) (4) (0) (Nat.zero_le _) (lv_sub hl [1, 0, 2] rfl) (fun ls hl => ?_) (fun sd ls hsd hl ih1 => ?_)
  · -- behind the loop
    refine lv_iload_n hx hb dX2_heat_8 rfl (lv_at hl 1 rfl) ?_
    refine lv_iconst (v := nI 4) hx hb dX2_heat_9 (by decide) ?_
    refine lv_icmp_ge (tgt := 41) hx hb dX2_heat_10 (by decide) (fun _ => ?_) (fun c9 => False.elim (c9 (nI_le (Nat.le_refl _) (by decide))))
    refine lv_lload_n hx hb dX2_heat_41 rfl (lv_at hl 0 rfl) ?_
    exact W.lret hx hb hr (fun t ht _ => ⟨rfl, by rw [ht]; exact hP, by rw [hAe]; exact hS.F ht⟩) hS.2.2 dX2_heat_42
  · -- one round
    refine lv_iload_n hx hb dX2_heat_8 rfl (lv_at hl 1 rfl) ?_
    refine lv_iconst (v := nI 4) hx hb dX2_heat_9 (by decide) ?_
    refine lv_icmp_ge (tgt := 41) hx hb dX2_heat_10 (by decide) (fun c9 => False.elim (nI_ge hsd (by decide) c9)) (fun _ => ?_)
    refine W_jn (β := Int64) (fun b3 => b3 = (if lg_cmp (mFl X Y ((f_mset X Y N (τ, ℓ)).1) sd) 0 ≤ 0 then n_mh X Y ((f_mset X Y N (τ, ℓ)).1) sd else n_mh X Y ((f_mset X Y N (τ, ℓ)).1) sd + mFl X Y ((f_mset X Y N (τ, ℓ)).1) sd)) (fun b3 => F0 m 34 ls [.long b3]) (fun jn2 => ?_) (fun b3 eb3 => ?_)
    · -- roads to 34
      refine lv_aload_n hx hb dX2_heat_13 rfl (lv_at hl 2 rfl) ?_
      refine lv_iload_n hx hb dX2_heat_14 rfl (lv_at hl 1 rfl) ?_
      refine r_V ⟨hx, hb, hml, hown, hts⟩ (k_X2_flowOf l D cI cJ am X Y ((f_mset X Y N (τ, ℓ)).1) ((f_mset X Y N (τ, ℓ)).2) hB sd (hsd)) (cwV 1 hts gX2_heat_X2_flowOf rfl rfl rfl (by decide +kernel) ⟨Nat.le_of_ble_eq_true rfl, Nat.le_of_ble_eq_true rfl⟩) hP hK (va_recv hK hP (ci := 2) (q0 := 0) rfl rfl) rfl hl.1 rfl (Nat.le_of_ble_eq_true rfl) dX2_heat_15 (Nat.zero_le _) (Nat.zero_le _) ?_
      refine lv_lconst (v := 0) hx hb dX2_heat_18 (by decide) ?_
      refine W.lcmp hx hb dX2_heat_19 ?_
      refine lv_if_le (tgt := 33) hx hb dX2_heat_20 (by decide) (fun c4 => ?_) (fun c4 => ?_)
      · -- 33
        refine lv_lload_n hx hb dX2_heat_33 rfl (lv_at hl 0 rfl) ?_
        exact jn2 _ (by rw [if_pos c4])
      · -- 23
        refine lv_lload_n hx hb dX2_heat_23 rfl (lv_at hl 0 rfl) ?_
        refine lv_aload_n hx hb dX2_heat_24 rfl (lv_at hl 2 rfl) ?_
        refine lv_iload_n hx hb dX2_heat_25 rfl (lv_at hl 1 rfl) ?_
        refine r_V ⟨hx, hb, hml, hown, hts⟩ (k_X2_flowOf l D cI cJ am X Y ((f_mset X Y N (τ, ℓ)).1) ((f_mset X Y N (τ, ℓ)).2) hB sd (hsd)) (cwV 1 hts gX2_heat_X2_flowOf rfl rfl rfl (by decide +kernel) ⟨Nat.le_of_ble_eq_true rfl, Nat.le_of_ble_eq_true rfl⟩) hP hK (va_recv hK hP (ci := 2) (q0 := 0) rfl rfl) rfl hl.1 rfl (Nat.le_of_ble_eq_true rfl) dX2_heat_26 (Nat.zero_le _) (Nat.zero_le _) ?_
        refine lv_ladd hx hb dX2_heat_29 ?_
        refine lv_goto (tgt := 34) hx hb dX2_heat_30 (by decide) ?_
        exact jn2 _ (by rw [if_neg c4])
    · -- on from 34
      subst eb3
      refine lv_lstore_n (lv' := [(1, .long (if lg_cmp (mFl X Y ((f_mset X Y N (τ, ℓ)).1) sd) 0 ≤ 0 then n_mh X Y ((f_mset X Y N (τ, ℓ)).1) sd else n_mh X Y ((f_mset X Y N (τ, ℓ)).1) sd + mFl X Y ((f_mset X Y N (τ, ℓ)).1) sd)), (3, .int (nI sd)), (0, .ref (am 6))]) hx hb dX2_heat_34 rfl hl (by decide) rfl (fun ls hl => ?_)
      refine a_inc hx hb (k := 1) (lv' := [(3, .int (nI (sd + 1))), (1, .long (if lg_cmp (mFl X Y ((f_mset X Y N (τ, ℓ)).1) sd) 0 ≤ 0 then n_mh X Y ((f_mset X Y N (τ, ℓ)).1) sd else n_mh X Y ((f_mset X Y N (τ, ℓ)).1) sd + mFl X Y ((f_mset X Y N (τ, ℓ)).1) sd)), (0, .ref (am 6))]) sd dX2_heat_35 hl rfl (by decide) rfl (fun ls hl => ?_)
      refine lv_goto (tgt := 8) hx hb dX2_heat_38 (by decide) ?_
      exact ih1 _ (lv_sub hl [1, 0, 2] rfl)
