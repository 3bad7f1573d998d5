set_option maxHeartbeats 4000000 in
set_option maxRecDepth 100000 in
theorem k_X2_settle (l : Launch) (D : va_G) (cI cJ : ClassId) (am : Nat → Nat) (X Y : Nat) (τ : Nat → Nat → Int32) (ℓ : Nat → Nat → Int64) (hB : 1 ≤ X ∧ X ≤ 10 ∧ 1 ≤ Y ∧ Y ≤ 10) (N : Nat) (hN : τ 5 1 = 0 → (n_ms X Y (f_mst τ, ℓ) N).1 = 0) : wMet l yX2_settle wsX2_settle 5 118 D (tY cI cJ) (wM am cI cJ X Y τ ℓ) (wM am cI cJ X Y ((f_mset X Y N (τ, ℓ)).1) ((f_mset X Y N (τ, ℓ)).2)) [.ref (am 6)] none := by
  refine Met.ofW (cc := cX2_settle) (maxL := 4) (ret := none) (by decide) rfl ?_
  intro p e s m args below meth c s₁ B hml hv
  obtain ⟨rfl, hP, hK, hD0⟩ := hv
  have hx := B.exec
  have hb := B.bytes
  have hr := B.returns
  have hts := atoms_spec (ws := wsX2_settle) B.pre
  have hown : s.vm.findClass RX2 = some m.cls := findClass_of_methodNamed B.named
  have hlocks := B.notSynchronized
  have inX2 : ∀ w ∈ wsX20, w ∈ wsX2_settle := by decide +kernel
  have fl51 := hts (.fieldLink RX2 51 "BridgeCellsModel" "isSettled" "Z") (by decide +kernel)
  have fl73 := hts (.fieldLink RX2 73 "BridgeCellsModel" "low" "I") (by decide +kernel)
  have fl79 := hts (.fieldLink RX2 79 "BridgeCellsModel" "top" "I") (by decide +kernel)
  have fl29 := hts (.fieldLink RX2 29 "BridgeCellsModel" "wide" "I") (by decide +kernel)
  have fl33 := hts (.fieldLink RX2 33 "BridgeCellsModel" "high" "I") (by decide +kernel)
  have fl13 := hts (.fieldLink RX2 13 "BridgeCellsModel" "warm" "[I") (by decide +kernel)
  have fl19 := hts (.fieldLink RX2 19 "BridgeCellsModel" "film" "[I") (by decide +kernel)
  have fl16 := hts (.fieldLink RX2 16 "BridgeCellsModel" "sideWarm" "[I") (by decide +kernel)
  have hl := lv_entry ([.ref (am 6)]) (n := 4) (Nat.le_of_ble_eq_true rfl)
  rw [lg_entry_eq]
  generalize (lg_sl ([.ref (am 6)]) ++ List.replicate (4 - (lg_sl ([.ref (am 6)])).length) Slot.unset).toArray = ls at hl ⊢
  have hl : lv_has ls 4 [(0, .ref (am 6))] := hl
  have hD := aw_D hD0
  generalize hAe : aw (wM am cI cJ X Y τ ℓ) = A at hD ⊢
  have hS : va_S A s.heap s.heap [] := va_S.rf
  have hXY := XY_lt hB
  refine lv_aload_n hx hb dX2_settle_0 rfl (lv_at hl 0 rfl) ?_
  refine va_get (D := D) (cl := vwCl) (ci := 2) (v := .int (τ 5 1)) (C := RX2) (T := TX2) (N := 15) hx hb hts inX2 hown hK hP 0 rfl rfl 7 (by decide) fl51 (fun _ h9 => h9) rfl dX2_settle_1 ?_
  refine lv_if_eq (tgt := 8) hx hb dX2_settle_4 (by decide) (fun c4 => ?_) (fun c4 => ?_)
  · -- not settled
    obtain ⟨n4, h4⟩ : ∃ z : Nat, z = 4 := ⟨_, rfl⟩
    obtain ⟨n100, h100⟩ : ∃ z : Nat, z = 100 := ⟨_, rfl⟩
    obtain ⟨τs, hτs⟩ : ∃ z, z = f_mst τ := ⟨_, rfl⟩
    have e10 : f_mset X Y N (τ, ℓ) = (n_ms X Y (f_mst τ, ℓ) N).2 := if_pos c4
    replace hN := hN c4
    rw [← hτs] at hN e10
    refine lv_aload_n hx hb dX2_settle_8 rfl (lv_at hl 0 rfl) ?_
    refine lv_iconst (v := 1) hx hb dX2_settle_9 (by decide) ?_
    refine va_put (D := D) (cl := vwCl) (ci := 2) (v := .int 1) (ty := .boolean) (C := RX2) (T := TX2) (N := 15) hx hb hts inX2 tyX2 tyX2_ok nmX2 hown hK hP hD hS 0 rfl rfl 7 (by decide) fl51 (fun _ h9 => h9) rfl (by decide +kernel) rfl rfl (Nat.le_of_ble_eq_true rfl) dX2_settle_10 (fun H locs hP _ hS => ?_)
    obtain ⟨τ1, eτ1⟩ : ∃ z, z = up2 τ 5 1 1 := ⟨_, rfl⟩
    replace hP : va_P D vwCl (wM am cI cJ X Y τ1 ℓ) H := by rw [eτ1]; exact hP
    have hP : va_P D vwCl (wM am cI cJ X Y τ1 ℓ) H := hP
    have hD : va_D A (wM am cI cJ X Y τ1 ℓ) := wM_D hD _ _
    refine lv_iconst (v := 0) hx hb dX2_settle_13 (by decide) ?_
    refine lv_istore_n (lv' := [(1, .int 0), (0, .ref (am 6))]) hx hb dX2_settle_14 rfl hl (by decide) rfl (fun ls hl => ?_)
    refine lv_aload_n hx hb dX2_settle_15 rfl (lv_at hl 1 rfl) ?_
    refine lv_iconst (v := 0) hx hb dX2_settle_16 (by decide) ?_
    refine va_put (D := D) (cl := vwCl) (ci := 2) (v := .int 0) (ty := .int) (C := RX2) (T := TX2) (N := 15) hx hb hts inX2 tyX2 tyX2_ok nmX2 hown hK hP hD hS 0 rfl rfl 8 (by decide) fl73 (fun _ h9 => h9) rfl (by decide +kernel) rfl rfl (Nat.le_of_ble_eq_true rfl) dX2_settle_17 (fun H locs hP _ hS => ?_)
    obtain ⟨τ2, eτ2⟩ : ∃ z, z = up2 τ1 5 2 0 := ⟨_, rfl⟩
    replace hP : va_P D vwCl (wM am cI cJ X Y τ2 ℓ) H := by rw [eτ2]; exact hP
    have hP : va_P D vwCl (wM am cI cJ X Y τ2 ℓ) H := hP
    have hD : va_D A (wM am cI cJ X Y τ2 ℓ) := wM_D hD _ _
    refine lv_aload_n hx hb dX2_settle_20 rfl (lv_at hl 1 rfl) ?_
    refine lv_iconst (v := 0) hx hb dX2_settle_21 (by decide) ?_
    refine va_put (D := D) (cl := vwCl) (ci := 2) (v := .int 0) (ty := .int) (C := RX2) (T := TX2) (N := 15) hx hb hts inX2 tyX2 tyX2_ok nmX2 hown hK hP hD hS 0 rfl rfl 9 (by decide) fl79 (fun _ h9 => h9) rfl (by decide +kernel) rfl rfl (Nat.le_of_ble_eq_true rfl) dX2_settle_22 (fun H locs hP _ hS => ?_)
    obtain ⟨τ3, eτ3⟩ : ∃ z, z = up2 τ2 5 3 0 := ⟨_, rfl⟩
    replace hP : va_P D vwCl (wM am cI cJ X Y τ3 ℓ) H := by rw [eτ3]; exact hP
    have hP : va_P D vwCl (wM am cI cJ X Y τ3 ℓ) H := hP
    have hD : va_D A (wM am cI cJ X Y τ3 ℓ) := wM_D hD _ _
    refine lv_iconst (v := nI 0) hx hb dX2_settle_25 (by decide) ?_
    refine lv_istore_n (lv' := [(2, .int (nI 0)), (1, .int 0), (0, .ref (am 6))]) hx hb dX2_settle_26 rfl hl (by decide) rfl (fun ls hl => ?_)
    subst eτ3 eτ2 eτ1
    refine W_lw (fun sd ls H locs => lv_has ls 4 [(1, .int ((n_ml τ sd).1)), (2, .int (nI sd)), (0, .ref (am 6))] ∧ va_P D vwCl (wM am cI cJ X Y ((n_ml τ sd).2) ℓ) H ∧ va_S A s.heap H locs) (n4) (0) (Nat.zero_le _) ⟨lv_sub hl [1, 0, 2] rfl, hP, hS⟩ (fun ls H locs hq => ?_) (fun sd ls H locs hsd hq ih4 => ?_)
    · -- behind the loop
      obtain ⟨hl, hP, hS⟩ := hq
      have hD : va_D A (wM am cI cJ X Y ((n_ml τ n4).2) ℓ) := wM_D hD _ _
      refine lv_iload_n hx hb dX2_settle_27 rfl (lv_at hl 1 rfl) ?_
      refine lv_iconst (v := nI 4) hx hb dX2_settle_28 (by decide) ?_
      refine lv_icmp_ge (tgt := 117) hx hb dX2_settle_29 (by decide) (fun _ => ?_) (fun c9 => False.elim (c9 (by rw [h4]; exact nI_le (Nat.le_refl _) (by decide))))
      refine lv_iconst (v := nI 0) hx hb dX2_settle_117 (by decide) ?_
      refine lv_istore_n (lv' := [(2, .int (nI 0)), (1, .int ((n_ml τ n4).1)), (0, .ref (am 6))]) hx hb dX2_settle_118 rfl hl (by decide) rfl (fun ls hl => ?_)
      refine W_lw (fun k ls H locs => lv_has ls 4 [(2, .int (nI k)), (0, .ref (am 6))] ∧ va_P D vwCl (wM am cI cJ X Y (n_mf (n_ml τ n4).2 k) ℓ) H ∧ va_S A s.heap H locs) (n100) (0) (Nat.zero_le _) ⟨lv_sub hl [0, 2] rfl, hP, hS⟩ (fun ls H locs hq => ?_) (fun k ls H locs hk hq ih5 => ?_)
      · -- behind the loop
        obtain ⟨hl, hP, hS⟩ := hq
        have hD : va_D A (wM am cI cJ X Y (n_mf (n_ml τ n4).2 n100) ℓ) := wM_D hD _ _
        refine lv_iload_n hx hb dX2_settle_119 rfl (lv_at hl 0 rfl) ?_
        refine lv_bipush (v := nI 100) hx hb dX2_settle_120 (by decide) ?_
        refine lv_icmp_ge (tgt := 141) hx hb dX2_settle_122 (by decide) (fun _ => ?_) (fun c9 => False.elim (c9 (by rw [h100]; exact nI_le (Nat.le_refl _) (by decide))))
        refine lv_iconst (v := 1) hx hb dX2_settle_141 (by decide) ?_
        refine lv_istore_n (lv' := [(2, .int 1), (0, .ref (am 6))]) hx hb dX2_settle_142 rfl hl (by decide) rfl (fun ls hl => ?_)
        have hP : va_P D vwCl (wM am cI cJ X Y τs ℓ) H := by subst h4 h100 hτs; exact hP
        have hD : va_D A (wM am cI cJ X Y τs ℓ) := wM_D hD _ _
        refine W_jw (β := Array Slot) (fun ls H locs => lv_has ls 4 [(0, .ref (am 6))] ∧ va_P D vwCl (wM am cI cJ X Y ((n_ms X Y (τs, ℓ) N).2.1) ((n_ms X Y (τs, ℓ) N).2.2)) H ∧ va_S A s.heap H locs) (fun ls => F0 m 231 ls []) (fun jx => ?_) (fun ls H locs hq => ?_)
        · -- the rounds
          refine W_lw (fun i ls H locs => lv_has ls 4 [(2, .int ((n_ms X Y (τs, ℓ) i).1)), (0, .ref (am 6))] ∧ va_P D vwCl (wM am cI cJ X Y ((n_ms X Y (τs, ℓ) i).2.1) ((n_ms X Y (τs, ℓ) i).2.2)) H ∧ va_S A s.heap H locs) N 0 (Nat.zero_le _) ⟨lv_sub hl [0, 1] rfl, hP, hS⟩ (fun ls H locs hq => ?_) (fun i ls H locs hi hq ih6 => ?_)
          · -- the last
            obtain ⟨hl, hP, hS⟩ := hq
            refine lv_iload_n hx hb dX2_settle_143 rfl (lv_at hl 0 rfl) ?_
            refine lv_if_eq (tgt := 231) hx hb dX2_settle_144 (by decide) (fun _ => ?_) (fun c9 => absurd hN c9)
            exact jx _ _ _ ⟨lv_sub hl [1] rfl, hP, hS⟩
          · -- one round
            obtain ⟨hl, hP, hS⟩ := hq
            have hD : va_D A (wM am cI cJ X Y ((n_ms X Y (τs, ℓ) i).2.1) ((n_ms X Y (τs, ℓ) i).2.2)) := wM_D hD _ _
            refine lv_iload_n hx hb dX2_settle_143 rfl (lv_at hl 0 rfl) ?_
            refine lv_if_eq (tgt := 231) hx hb dX2_settle_144 (by decide) (fun c144 => ?_) (fun c144 => ?_)
            · -- none goes
              exact jx _ _ _ ⟨lv_sub hl [1] rfl, by rw [ms_stop c144 _ (Nat.le_of_lt hi)]; exact hP, hS⟩
            · -- on
              refine lv_iconst (v := 0) hx hb dX2_settle_147 (by decide) ?_
              refine lv_istore_n (lv' := [(2, .int 0), (0, .ref (am 6))]) hx hb dX2_settle_148 rfl hl (by decide) rfl (fun ls hl => ?_)
              refine lv_iconst (v := nI 0) hx hb dX2_settle_149 (by decide) ?_
              refine lv_istore_n (lv' := [(3, .int (nI 0)), (2, .int 0), (0, .ref (am 6))]) hx hb dX2_settle_150 rfl hl (by decide) rfl (fun ls hl => ?_)
              refine W_lw (fun k ls H locs => lv_has ls 4 [(2, .int ((n_up X Y ((n_ms X Y (τs, ℓ) i).2) k).1)), (3, .int (nI k)), (0, .ref (am 6))] ∧ va_P D vwCl (wM am cI cJ X Y ((n_up X Y ((n_ms X Y (τs, ℓ) i).2) k).2.1) ((n_up X Y ((n_ms X Y (τs, ℓ) i).2) k).2.2)) H ∧ va_S A s.heap H locs) (X * Y) (0) (Nat.zero_le _) ⟨lv_sub hl [1, 0, 2] rfl, hP, hS⟩ (fun ls H locs hq => ?_) (fun k ls H locs hk hq ih7 => ?_)
              · -- behind the loop
                obtain ⟨hl, hP, hS⟩ := hq
                have hD : va_D A (wM am cI cJ X Y ((n_up X Y ((n_ms X Y (τs, ℓ) i).2) (X * Y)).2.1) ((n_up X Y ((n_ms X Y (τs, ℓ) i).2) (X * Y)).2.2)) := wM_D hD _ _
                refine lv_iload_n hx hb dX2_settle_151 rfl (lv_at hl 1 rfl) ?_
                refine lv_aload_n hx hb dX2_settle_152 rfl (lv_at hl 2 rfl) ?_
                refine va_get (D := D) (cl := vwCl) (ci := 2) (v := .int (nI X)) (C := RX2) (T := TX2) (N := 15) hx hb hts inX2 hown hK hP 0 rfl rfl 0 (by decide) fl29 (fun _ h9 => h9) rfl dX2_settle_153 ?_
                refine lv_aload_n hx hb dX2_settle_156 rfl (lv_at hl 2 rfl) ?_
                refine va_get (D := D) (cl := vwCl) (ci := 2) (v := .int (nI Y)) (C := RX2) (T := TX2) (N := 15) hx hb hts inX2 hown hK hP 0 rfl rfl 1 (by decide) fl33 (fun _ h9 => h9) rfl dX2_settle_157 ?_
                refine lv_imul hx hb dX2_settle_160 ?_
                refine top_eq (y := nI (X * Y)) (pk_mul X Y) ?_
                refine lv_icmp_ge (tgt := 188) hx hb dX2_settle_161 (by decide) (fun _ => ?_) (fun c9 => False.elim (c9 (nI_le (Nat.le_refl _) (by omega))))
                refine lv_aload_n hx hb dX2_settle_188 rfl (lv_at hl 2 rfl) ?_
                refine va_get (D := D) (cl := vwCl) (ci := 2) (v := .int (nI X)) (C := RX2) (T := TX2) (N := 15) hx hb hts inX2 hown hK hP 0 rfl rfl 0 (by decide) fl29 (fun _ h9 => h9) rfl dX2_settle_189 ?_
                refine lv_aload_n hx hb dX2_settle_192 rfl (lv_at hl 2 rfl) ?_
                refine va_get (D := D) (cl := vwCl) (ci := 2) (v := .int (nI Y)) (C := RX2) (T := TX2) (N := 15) hx hb hts inX2 hown hK hP 0 rfl rfl 1 (by decide) fl33 (fun _ h9 => h9) rfl dX2_settle_193 ?_
                refine lv_imul hx hb dX2_settle_196 ?_
                refine top_eq (y := nI (X * Y)) (pk_mul X Y) ?_
                refine lv_iconst (v := 1) hx hb dX2_settle_197 (by decide) ?_
                refine lv_isub hx hb dX2_settle_198 ?_
                refine top_eq (y := mI (X * Y - 0)) (mI_sub (X * Y)) ?_
                refine lv_istore_n (lv' := [(3, .int (mI (X * Y - 0))), (2, .int ((n_up X Y ((n_ms X Y (τs, ℓ) i).2) (X * Y)).1)), (0, .ref (am 6))]) hx hb dX2_settle_199 rfl hl (by decide) rfl (fun ls hl => ?_)
                refine W_lw (fun t ls H locs => lv_has ls 4 [(2, .int ((n_dn X Y (n_up X Y ((n_ms X Y (τs, ℓ) i).2) (X * Y)) t).1)), (3, .int (mI (X * Y - t))), (0, .ref (am 6))] ∧ va_P D vwCl (wM am cI cJ X Y ((n_dn X Y (n_up X Y ((n_ms X Y (τs, ℓ) i).2) (X * Y)) t).2.1) ((n_dn X Y (n_up X Y ((n_ms X Y (τs, ℓ) i).2) (X * Y)) t).2.2)) H ∧ va_S A s.heap H locs) (X * Y) 0 (Nat.zero_le _) ⟨lv_sub hl [1, 0, 2] rfl, hP, hS⟩ (fun ls H locs hq => ?_) (fun t ls H locs ht hq ih8 => ?_)
                · -- behind
                  obtain ⟨hl, hP, hS⟩ := hq
                  refine lv_iload_n hx hb dX2_settle_200 rfl (lv_at hl 1 rfl) ?_
                  refine lv_if_lt (tgt := 228) hx hb dX2_settle_201 (by decide) (fun _ => ?_) (fun c9 => absurd (by rw [Nat.sub_self]; decide) c9)
                  refine lv_goto (tgt := 143) hx hb dX2_settle_228 (by decide) ?_
                  have e9 : n_ms X Y (τs, ℓ) (i + 1) = f_rnd X Y ((n_ms X Y (τs, ℓ) i).2) := if_neg c144
                  exact ih6 _ _ _ ⟨by rw [e9]; exact lv_sub hl [0, 2] rfl, by rw [e9]; exact hP, hS⟩
                · -- one cell
                  obtain ⟨hl, hP, hS⟩ := hq
                  have hD : va_D A (wM am cI cJ X Y ((n_dn X Y (n_up X Y ((n_ms X Y (τs, ℓ) i).2) (X * Y)) t).2.1) ((n_dn X Y (n_up X Y ((n_ms X Y (τs, ℓ) i).2) (X * Y)) t).2.2)) := wM_D hD _ _
                  rw [mI_p ht] at hl
                  refine lv_iload_n hx hb dX2_settle_200 rfl (lv_at hl 1 rfl) ?_
                  refine lv_if_lt (tgt := 228) hx hb dX2_settle_201 (by decide) (fun c9 => False.elim (nI_pos (by omega) c9)) (fun _ => ?_)
                  refine lv_aload_n hx hb dX2_settle_204 rfl (lv_at hl 2 rfl) ?_
                  refine lv_iload_n hx hb dX2_settle_205 rfl (lv_at hl 1 rfl) ?_
                  refine w_V (A := A) ⟨hx, hb, hml, hown, hts⟩ (k_X2_warms l D cI cJ am X Y ((n_dn X Y (n_up X Y ((n_ms X Y (τs, ℓ) i).2) (X * Y)) t).2.1) ((n_dn X Y (n_up X Y ((n_ms X Y (τs, ℓ) i).2) (X * Y)) t).2.2) hB (X * Y - t - 1) (show X * Y - t - 1 < X * Y by omega)) (cwV 1 hts gX2_settle_X2_warms rfl rfl rfl (by decide +kernel) ⟨Nat.le_of_ble_eq_true rfl, Nat.le_of_ble_eq_true rfl⟩) ([]) ([]) hP hD hS hK (va_recv hK hP (ci := 2) (q0 := 0) rfl rfl) rfl hl.1 rfl (Nat.le_of_ble_eq_true rfl) dX2_settle_206 (Nat.zero_le _) (Nat.zero_le _) (fun H locs hP hS => ?_)
                  have hP : va_P D vwCl (wM am cI cJ X Y ((f_warms X Y (X * Y - t - 1) ((n_dn X Y (n_up X Y ((n_ms X Y (τs, ℓ) i).2) (X * Y)) t).2.1, (n_dn X Y (n_up X Y ((n_ms X Y (τs, ℓ) i).2) (X * Y)) t).2.2)).2.1) ((f_warms X Y (X * Y - t - 1) ((n_dn X Y (n_up X Y ((n_ms X Y (τs, ℓ) i).2) (X * Y)) t).2.1, (n_dn X Y (n_up X Y ((n_ms X Y (τs, ℓ) i).2) (X * Y)) t).2.2)).2.2)) H := hP
                  have hD : va_D A (wM am cI cJ X Y ((f_warms X Y (X * Y - t - 1) ((n_dn X Y (n_up X Y ((n_ms X Y (τs, ℓ) i).2) (X * Y)) t).2.1, (n_dn X Y (n_up X Y ((n_ms X Y (τs, ℓ) i).2) (X * Y)) t).2.2)).2.1) ((f_warms X Y (X * Y - t - 1) ((n_dn X Y (n_up X Y ((n_ms X Y (τs, ℓ) i).2) (X * Y)) t).2.1, (n_dn X Y (n_up X Y ((n_ms X Y (τs, ℓ) i).2) (X * Y)) t).2.2)).2.2)) := wM_D hD _ _
                  refine W_jn (β := Int32) (fun b10 => b10 = (if (f_warms X Y (X * Y - t - 1) ((n_dn X Y (n_up X Y ((n_ms X Y (τs, ℓ) i).2) (X * Y)) t).2.1, (n_dn X Y (n_up X Y ((n_ms X Y (τs, ℓ) i).2) (X * Y)) t).2.2)).1 = 0 then if (n_dn X Y (n_up X Y ((n_ms X Y (τs, ℓ) i).2) (X * Y)) t).1 = 0 then 0 else 1 else 1)) (fun b10 => F0 m 221 ls [.int b10]) (fun jn9 => ?_) (fun b10 eb10 => ?_)
                  · -- roads to 221
                    refine lv_if_ne (tgt := 216) hx hb dX2_settle_209 (by decide) (fun c11 => ?_) (fun c11 => ?_)
                    · -- 216
                      refine lv_iconst (v := 1) hx hb dX2_settle_216 (by decide) ?_
                      refine lv_goto (tgt := 221) hx hb dX2_settle_217 (by decide) ?_
                      exact jn9 _ (by rw [if_neg c11])
                    · -- 212
                      refine lv_iload_n hx hb dX2_settle_212 rfl (lv_at hl 0 rfl) ?_
                      refine lv_if_eq (tgt := 220) hx hb dX2_settle_213 (by decide) (fun c12 => ?_) (fun c12 => ?_)
                      · -- 220
                        refine lv_iconst (v := 0) hx hb dX2_settle_220 (by decide) ?_
                        exact jn9 _ (by rw [if_pos c11, if_pos c12])
                      · -- 216
                        refine lv_iconst (v := 1) hx hb dX2_settle_216 (by decide) ?_
                        refine lv_goto (tgt := 221) hx hb dX2_settle_217 (by decide) ?_
                        exact jn9 _ (by rw [if_pos c11, if_neg c12])
                  · -- on from 221
                    subst eb10
                    refine lv_istore_n (lv' := [(2, .int (if (f_warms X Y (X * Y - t - 1) ((n_dn X Y (n_up X Y ((n_ms X Y (τs, ℓ) i).2) (X * Y)) t).2.1, (n_dn X Y (n_up X Y ((n_ms X Y (τs, ℓ) i).2) (X * Y)) t).2.2)).1 = 0 then if (n_dn X Y (n_up X Y ((n_ms X Y (τs, ℓ) i).2) (X * Y)) t).1 = 0 then 0 else 1 else 1)), (3, .int (nI (X * Y - t - 1))), (0, .ref (am 6))]) hx hb dX2_settle_221 rfl hl (by decide) rfl (fun ls hl => ?_)
                    refine lv_iinc (k := 1) (v := mI (X * Y - (t + 1))) (lv' := [(3, .int (mI (X * Y - (t + 1)))), (2, .int (if (f_warms X Y (X * Y - t - 1) ((n_dn X Y (n_up X Y ((n_ms X Y (τs, ℓ) i).2) (X * Y)) t).2.1, (n_dn X Y (n_up X Y ((n_ms X Y (τs, ℓ) i).2) (X * Y)) t).2.2)).1 = 0 then if (n_dn X Y (n_up X Y ((n_ms X Y (τs, ℓ) i).2) (X * Y)) t).1 = 0 then 0 else 1 else 1)), (0, .ref (am 6))]) hx hb dX2_settle_222 hl rfl (mI_dec) (by decide) rfl (fun ls hl => ?_)
                    refine lv_goto (tgt := 200) hx hb dX2_settle_225 (by decide) ?_
                    exact ih8 _ _ _ ⟨lv_sub hl [1, 0, 2] rfl, hP, hS⟩
              · -- one round
                obtain ⟨hl, hP, hS⟩ := hq
                have hD : va_D A (wM am cI cJ X Y ((n_up X Y ((n_ms X Y (τs, ℓ) i).2) k).2.1) ((n_up X Y ((n_ms X Y (τs, ℓ) i).2) k).2.2)) := wM_D hD _ _
                refine lv_iload_n hx hb dX2_settle_151 rfl (lv_at hl 1 rfl) ?_
                refine lv_aload_n hx hb dX2_settle_152 rfl (lv_at hl 2 rfl) ?_
                refine va_get (D := D) (cl := vwCl) (ci := 2) (v := .int (nI X)) (C := RX2) (T := TX2) (N := 15) hx hb hts inX2 hown hK hP 0 rfl rfl 0 (by decide) fl29 (fun _ h9 => h9) rfl dX2_settle_153 ?_
                refine lv_aload_n hx hb dX2_settle_156 rfl (lv_at hl 2 rfl) ?_
                refine va_get (D := D) (cl := vwCl) (ci := 2) (v := .int (nI Y)) (C := RX2) (T := TX2) (N := 15) hx hb hts inX2 hown hK hP 0 rfl rfl 1 (by decide) fl33 (fun _ h9 => h9) rfl dX2_settle_157 ?_
                refine lv_imul hx hb dX2_settle_160 ?_
                refine top_eq (y := nI (X * Y)) (pk_mul X Y) ?_
                refine lv_icmp_ge (tgt := 188) hx hb dX2_settle_161 (by decide) (fun c9 => False.elim (nI_ge hk (by omega) c9)) (fun _ => ?_)
                refine lv_aload_n hx hb dX2_settle_164 rfl (lv_at hl 2 rfl) ?_
                refine lv_iload_n hx hb dX2_settle_165 rfl (lv_at hl 1 rfl) ?_
                refine w_V (A := A) ⟨hx, hb, hml, hown, hts⟩ (k_X2_warms l D cI cJ am X Y ((n_up X Y ((n_ms X Y (τs, ℓ) i).2) k).2.1) ((n_up X Y ((n_ms X Y (τs, ℓ) i).2) k).2.2) hB k (hk)) (cwV 1 hts gX2_settle_X2_warms rfl rfl rfl (by decide +kernel) ⟨Nat.le_of_ble_eq_true rfl, Nat.le_of_ble_eq_true rfl⟩) ([]) ([]) hP hD hS hK (va_recv hK hP (ci := 2) (q0 := 0) rfl rfl) rfl hl.1 rfl (Nat.le_of_ble_eq_true rfl) dX2_settle_166 (Nat.zero_le _) (Nat.zero_le _) (fun H locs hP hS => ?_)
                have hP : va_P D vwCl (wM am cI cJ X Y ((f_warms X Y k ((n_up X Y ((n_ms X Y (τs, ℓ) i).2) k).2.1, (n_up X Y ((n_ms X Y (τs, ℓ) i).2) k).2.2)).2.1) ((f_warms X Y k ((n_up X Y ((n_ms X Y (τs, ℓ) i).2) k).2.1, (n_up X Y ((n_ms X Y (τs, ℓ) i).2) k).2.2)).2.2)) H := hP
                have hD : va_D A (wM am cI cJ X Y ((f_warms X Y k ((n_up X Y ((n_ms X Y (τs, ℓ) i).2) k).2.1, (n_up X Y ((n_ms X Y (τs, ℓ) i).2) k).2.2)).2.1) ((f_warms X Y k ((n_up X Y ((n_ms X Y (τs, ℓ) i).2) k).2.1, (n_up X Y ((n_ms X Y (τs, ℓ) i).2) k).2.2)).2.2)) := wM_D hD _ _
                refine W_jn (β := Int32) (fun b14 => b14 = (if (f_warms X Y k ((n_up X Y ((n_ms X Y (τs, ℓ) i).2) k).2.1, (n_up X Y ((n_ms X Y (τs, ℓ) i).2) k).2.2)).1 = 0 then if (n_up X Y ((n_ms X Y (τs, ℓ) i).2) k).1 = 0 then 0 else 1 else 1)) (fun b14 => F0 m 181 ls [.int b14]) (fun jn13 => ?_) (fun b14 eb14 => ?_)
                · -- roads to 181
                  refine lv_if_ne (tgt := 176) hx hb dX2_settle_169 (by decide) (fun c15 => ?_) (fun c15 => ?_)
                  · -- 176
                    refine lv_iconst (v := 1) hx hb dX2_settle_176 (by decide) ?_
                    refine lv_goto (tgt := 181) hx hb dX2_settle_177 (by decide) ?_
                    exact jn13 _ (by rw [if_neg c15])
                  · -- 172
                    refine lv_iload_n hx hb dX2_settle_172 rfl (lv_at hl 0 rfl) ?_
                    refine lv_if_eq (tgt := 180) hx hb dX2_settle_173 (by decide) (fun c16 => ?_) (fun c16 => ?_)
                    · -- 180
                      refine lv_iconst (v := 0) hx hb dX2_settle_180 (by decide) ?_
                      exact jn13 _ (by rw [if_pos c15, if_pos c16])
                    · -- 176
                      refine lv_iconst (v := 1) hx hb dX2_settle_176 (by decide) ?_
                      refine lv_goto (tgt := 181) hx hb dX2_settle_177 (by decide) ?_
                      exact jn13 _ (by rw [if_pos c15, if_neg c16])
                · -- on from 181
                  subst eb14
                  refine lv_istore_n (lv' := [(2, .int (if (f_warms X Y k ((n_up X Y ((n_ms X Y (τs, ℓ) i).2) k).2.1, (n_up X Y ((n_ms X Y (τs, ℓ) i).2) k).2.2)).1 = 0 then if (n_up X Y ((n_ms X Y (τs, ℓ) i).2) k).1 = 0 then 0 else 1 else 1)), (3, .int (nI k)), (0, .ref (am 6))]) hx hb dX2_settle_181 rfl hl (by decide) rfl (fun ls hl => ?_)
                  refine a_inc hx hb (k := 1) (lv' := [(3, .int (nI (k + 1))), (2, .int (if (f_warms X Y k ((n_up X Y ((n_ms X Y (τs, ℓ) i).2) k).2.1, (n_up X Y ((n_ms X Y (τs, ℓ) i).2) k).2.2)).1 = 0 then if (n_up X Y ((n_ms X Y (τs, ℓ) i).2) k).1 = 0 then 0 else 1 else 1)), (0, .ref (am 6))]) k dX2_settle_182 hl rfl (by decide) rfl (fun ls hl => ?_)
                  refine lv_goto (tgt := 151) hx hb dX2_settle_185 (by decide) ?_
                  exact ih7 _ _ _ ⟨lv_sub hl [1, 0, 2] rfl, hP, hS⟩
        · -- the end
          obtain ⟨hl, hP, hS⟩ := hq
          have e9 := e10
          exact W.vret hx hb hr (fun t ht _ => ⟨rfl, by rw [ht]; first | exact hP | (rw [e9]; exact hP), by rw [hAe]; exact hS.F ht⟩) hS.2.2 dX2_settle_231
      · -- one round
        obtain ⟨hl, hP, hS⟩ := hq
        have hD : va_D A (wM am cI cJ X Y (n_mf (n_ml τ n4).2 k) ℓ) := wM_D hD _ _
        refine lv_iload_n hx hb dX2_settle_119 rfl (lv_at hl 0 rfl) ?_
        refine lv_bipush (v := nI 100) hx hb dX2_settle_120 (by decide) ?_
        refine lv_icmp_ge (tgt := 141) hx hb dX2_settle_122 (by decide) (fun c9 => False.elim (nI_ge (show k < 100 by omega) (by decide) c9)) (fun _ => ?_)
        refine lv_aload_n hx hb dX2_settle_125 rfl (lv_at hl 1 rfl) ?_
        refine va_get (D := D) (cl := vwCl) (ci := 2) (v := .ref (am 1)) (C := RX2) (T := TX2) (N := 15) hx hb hts inX2 hown hK hP 0 rfl rfl 4 (by decide) fl13 (fun _ h9 => h9) rfl dX2_settle_126 ?_
        refine lv_iload_n hx hb dX2_settle_129 rfl (lv_at hl 0 rfl) ?_
        refine lv_aload_n hx hb dX2_settle_130 rfl (lv_at hl 1 rfl) ?_
        refine va_get (D := D) (cl := vwCl) (ci := 2) (v := .int ((n_mf (n_ml τ n4).2 k) 5 2)) (C := RX2) (T := TX2) (N := 15) hx hb hts inX2 hown hK hP 0 rfl rfl 8 (by decide) fl73 (fun _ h9 => h9) rfl dX2_settle_131 ?_
        refine a_st hx hb hK hP hD hS 2 0 rfl rfl k (rfl) (by omega) (by decide) dX2_settle_134 (fun H locs hP hS => ?_)
        obtain ⟨τ17, eτ17⟩ : ∃ z, z = up2 (n_mf (n_ml τ n4).2 k) 1 k ((n_mf (n_ml τ n4).2 k) 5 2) := ⟨_, rfl⟩
        replace hP : va_P D vwCl (wM am cI cJ X Y τ17 ℓ) H := by rw [eτ17]; exact hP
        have hP : va_P D vwCl (wM am cI cJ X Y τ17 ℓ) H := hP
        have hD : va_D A (wM am cI cJ X Y τ17 ℓ) := wM_D hD _ _
        refine a_inc hx hb (k := 0) (lv' := [(2, .int (nI (k + 1))), (0, .ref (am 6))]) k dX2_settle_135 hl rfl (by decide) rfl (fun ls hl => ?_)
        refine lv_goto (tgt := 119) hx hb dX2_settle_138 (by decide) ?_
        subst eτ17
        exact ih5 _ _ _ ⟨lv_sub hl [0, 1] rfl, hP, hS⟩
    · -- one round
      obtain ⟨hl, hP, hS⟩ := hq
      have hD : va_D A (wM am cI cJ X Y ((n_ml τ sd).2) ℓ) := wM_D hD _ _
      refine lv_iload_n hx hb dX2_settle_27 rfl (lv_at hl 1 rfl) ?_
      refine lv_iconst (v := nI 4) hx hb dX2_settle_28 (by decide) ?_
      refine lv_icmp_ge (tgt := 117) hx hb dX2_settle_29 (by decide) (fun c9 => False.elim (nI_ge (show sd < 4 by omega) (by decide) c9)) (fun _ => ?_)
      refine lv_aload_n hx hb dX2_settle_32 rfl (lv_at hl 2 rfl) ?_
      refine va_get (D := D) (cl := vwCl) (ci := 2) (v := .ref (am 3)) (C := RX2) (T := TX2) (N := 15) hx hb hts inX2 hown hK hP 0 rfl rfl 6 (by decide) fl19 (fun _ h9 => h9) rfl dX2_settle_33 ?_
      refine lv_iload_n hx hb dX2_settle_36 rfl (lv_at hl 1 rfl) ?_
      refine a_ld hx hb hK hP 4 0 rfl rfl sd (rfl) (by omega) (by decide) dX2_settle_37 ?_
      refine lv_if_le (tgt := 111) hx hb dX2_settle_38 (by decide) (fun c38 => ?_) (fun c38 => ?_)
      · -- 111
        refine a_inc hx hb (k := 1) (lv' := [(2, .int (nI (sd + 1))), (1, .int ((n_ml τ sd).1)), (0, .ref (am 6))]) sd dX2_settle_111 hl rfl (by decide) rfl (fun ls hl => ?_)
        refine lv_goto (tgt := 27) hx hb dX2_settle_114 (by decide) ?_
        have e9 : n_ml τ (sd + 1) = n_ml τ sd := by show f_mlS sd (n_ml τ sd) = _; unfold f_mlS; rw [if_pos c38]
        exact ih4 _ _ _ ⟨by rw [e9]; exact lv_sub hl [1, 0, 2] rfl, by rw [e9]; exact hP, hS⟩
      · -- 41
        refine lv_aload_n hx hb dX2_settle_41 rfl (lv_at hl 2 rfl) ?_
        refine W_jn (β := Int32) (fun b19 => b19 = (if (n_ml τ sd).1 = 0 then ((n_ml τ sd).2) 2 sd else if ((n_ml τ sd).2) 2 sd ≤ ((n_ml τ sd).2) 5 2 then ((n_ml τ sd).2) 2 sd else ((n_ml τ sd).2) 5 2)) (fun b19 => F0 m 72 ls [.int b19, .ref (am 6)]) (fun jn18 => ?_) (fun b19 eb19 => ?_)
        · -- roads to 72
          refine lv_iload_n hx hb dX2_settle_42 rfl (lv_at hl 0 rfl) ?_
          refine lv_if_eq (tgt := 66) hx hb dX2_settle_43 (by decide) (fun c20 => ?_) (fun c20 => ?_)
          · -- 66
            refine lv_aload_n hx hb dX2_settle_66 rfl (lv_at hl 2 rfl) ?_
            refine va_get (D := D) (cl := vwCl) (ci := 2) (v := .ref (am 2)) (C := RX2) (T := TX2) (N := 15) hx hb hts inX2 hown hK hP 0 rfl rfl 5 (by decide) fl16 (fun _ h9 => h9) rfl dX2_settle_67 ?_
            refine lv_iload_n hx hb dX2_settle_70 rfl (lv_at hl 1 rfl) ?_
            refine a_ld hx hb hK hP 3 0 rfl rfl sd (rfl) (by omega) (by decide) dX2_settle_71 ?_
            exact jn18 _ (by rw [if_pos c20])
          · -- 46
            refine lv_aload_n hx hb dX2_settle_46 rfl (lv_at hl 2 rfl) ?_
            refine va_get (D := D) (cl := vwCl) (ci := 2) (v := .int (((n_ml τ sd).2) 5 2)) (C := RX2) (T := TX2) (N := 15) hx hb hts inX2 hown hK hP 0 rfl rfl 8 (by decide) fl73 (fun _ h9 => h9) rfl dX2_settle_47 ?_
            refine lv_aload_n hx hb dX2_settle_50 rfl (lv_at hl 2 rfl) ?_
            refine va_get (D := D) (cl := vwCl) (ci := 2) (v := .ref (am 2)) (C := RX2) (T := TX2) (N := 15) hx hb hts inX2 hown hK hP 0 rfl rfl 5 (by decide) fl16 (fun _ h9 => h9) rfl dX2_settle_51 ?_
            refine lv_iload_n hx hb dX2_settle_54 rfl (lv_at hl 1 rfl) ?_
            refine a_ld hx hb hK hP 3 0 rfl rfl sd (rfl) (by omega) (by decide) dX2_settle_55 ?_
            refine lv_icmp_ge (tgt := 66) hx hb dX2_settle_56 (by decide) (fun c21 => ?_) (fun c21 => ?_)
            · -- 66
              refine lv_aload_n hx hb dX2_settle_66 rfl (lv_at hl 2 rfl) ?_
              refine va_get (D := D) (cl := vwCl) (ci := 2) (v := .ref (am 2)) (C := RX2) (T := TX2) (N := 15) hx hb hts inX2 hown hK hP 0 rfl rfl 5 (by decide) fl16 (fun _ h9 => h9) rfl dX2_settle_67 ?_
              refine lv_iload_n hx hb dX2_settle_70 rfl (lv_at hl 1 rfl) ?_
              refine a_ld hx hb hK hP 3 0 rfl rfl sd (rfl) (by omega) (by decide) dX2_settle_71 ?_
              exact jn18 _ (by rw [if_neg c20, if_pos c21])
            · -- 59
              refine lv_aload_n hx hb dX2_settle_59 rfl (lv_at hl 2 rfl) ?_
              refine va_get (D := D) (cl := vwCl) (ci := 2) (v := .int (((n_ml τ sd).2) 5 2)) (C := RX2) (T := TX2) (N := 15) hx hb hts inX2 hown hK hP 0 rfl rfl 8 (by decide) fl73 (fun _ h9 => h9) rfl dX2_settle_60 ?_
              refine lv_goto (tgt := 72) hx hb dX2_settle_63 (by decide) ?_
              exact jn18 _ (by rw [if_neg c20, if_neg c21])
        · -- on from 72
          refine va_put (D := D) (cl := vwCl) (ci := 2) (v := .int b19) (ty := .int) (C := RX2) (T := TX2) (N := 15) hx hb hts inX2 tyX2 tyX2_ok nmX2 hown hK hP hD hS 0 rfl rfl 8 (by decide) fl73 (fun _ h9 => h9) rfl (by decide +kernel) rfl rfl (Nat.le_of_ble_eq_true rfl) dX2_settle_72 (fun H locs hP _ hS => ?_)
          obtain ⟨τ22, eτ22⟩ : ∃ z, z = up2 ((n_ml τ sd).2) 5 2 b19 := ⟨_, rfl⟩
          replace hP : va_P D vwCl (wM am cI cJ X Y τ22 ℓ) H := by rw [eτ22]; exact hP
          have hP : va_P D vwCl (wM am cI cJ X Y τ22 ℓ) H := hP
          have hD : va_D A (wM am cI cJ X Y τ22 ℓ) := wM_D hD _ _
          refine lv_aload_n hx hb dX2_settle_75 rfl (lv_at hl 2 rfl) ?_
          refine W_jn (β := Int32) (fun b24 => b24 = (if (n_ml τ sd).1 = 0 then τ22 2 sd else if τ22 5 3 ≤ τ22 2 sd then τ22 2 sd else τ22 5 3)) (fun b24 => F0 m 106 ls [.int b24, .ref (am 6)]) (fun jn23 => ?_) (fun b24 eb24 => ?_)
          · -- roads to 106
            refine lv_iload_n hx hb dX2_settle_76 rfl (lv_at hl 0 rfl) ?_
            refine lv_if_eq (tgt := 100) hx hb dX2_settle_77 (by decide) (fun c25 => ?_) (fun c25 => ?_)
            · -- 100
              refine lv_aload_n hx hb dX2_settle_100 rfl (lv_at hl 2 rfl) ?_
              refine va_get (D := D) (cl := vwCl) (ci := 2) (v := .ref (am 2)) (C := RX2) (T := TX2) (N := 15) hx hb hts inX2 hown hK hP 0 rfl rfl 5 (by decide) fl16 (fun _ h9 => h9) rfl dX2_settle_101 ?_
              refine lv_iload_n hx hb dX2_settle_104 rfl (lv_at hl 1 rfl) ?_
              refine a_ld hx hb hK hP 3 0 rfl rfl sd (rfl) (by omega) (by decide) dX2_settle_105 ?_
              exact jn23 _ (by rw [if_pos c25])
            · -- 80
              refine lv_aload_n hx hb dX2_settle_80 rfl (lv_at hl 2 rfl) ?_
              refine va_get (D := D) (cl := vwCl) (ci := 2) (v := .int (τ22 5 3)) (C := RX2) (T := TX2) (N := 15) hx hb hts inX2 hown hK hP 0 rfl rfl 9 (by decide) fl79 (fun _ h9 => h9) rfl dX2_settle_81 ?_
              refine lv_aload_n hx hb dX2_settle_84 rfl (lv_at hl 2 rfl) ?_
              refine va_get (D := D) (cl := vwCl) (ci := 2) (v := .ref (am 2)) (C := RX2) (T := TX2) (N := 15) hx hb hts inX2 hown hK hP 0 rfl rfl 5 (by decide) fl16 (fun _ h9 => h9) rfl dX2_settle_85 ?_
              refine lv_iload_n hx hb dX2_settle_88 rfl (lv_at hl 1 rfl) ?_
              refine a_ld hx hb hK hP 3 0 rfl rfl sd (rfl) (by omega) (by decide) dX2_settle_89 ?_
              refine lv_icmp_le (tgt := 100) hx hb dX2_settle_90 (by decide) (fun c26 => ?_) (fun c26 => ?_)
              · -- 100
                refine lv_aload_n hx hb dX2_settle_100 rfl (lv_at hl 2 rfl) ?_
                refine va_get (D := D) (cl := vwCl) (ci := 2) (v := .ref (am 2)) (C := RX2) (T := TX2) (N := 15) hx hb hts inX2 hown hK hP 0 rfl rfl 5 (by decide) fl16 (fun _ h9 => h9) rfl dX2_settle_101 ?_
                refine lv_iload_n hx hb dX2_settle_104 rfl (lv_at hl 1 rfl) ?_
                refine a_ld hx hb hK hP 3 0 rfl rfl sd (rfl) (by omega) (by decide) dX2_settle_105 ?_
                exact jn23 _ (by rw [if_neg c25, if_pos c26])
              · -- 93
                refine lv_aload_n hx hb dX2_settle_93 rfl (lv_at hl 2 rfl) ?_
                refine va_get (D := D) (cl := vwCl) (ci := 2) (v := .int (τ22 5 3)) (C := RX2) (T := TX2) (N := 15) hx hb hts inX2 hown hK hP 0 rfl rfl 9 (by decide) fl79 (fun _ h9 => h9) rfl dX2_settle_94 ?_
                refine lv_goto (tgt := 106) hx hb dX2_settle_97 (by decide) ?_
                exact jn23 _ (by rw [if_neg c25, if_neg c26])
          · -- on from 106
            refine va_put (D := D) (cl := vwCl) (ci := 2) (v := .int b24) (ty := .int) (C := RX2) (T := TX2) (N := 15) hx hb hts inX2 tyX2 tyX2_ok nmX2 hown hK hP hD hS 0 rfl rfl 9 (by decide) fl79 (fun _ h9 => h9) rfl (by decide +kernel) rfl rfl (Nat.le_of_ble_eq_true rfl) dX2_settle_106 (fun H locs hP _ hS => ?_)
            obtain ⟨τ27, eτ27⟩ : ∃ z, z = up2 τ22 5 3 b24 := ⟨_, rfl⟩
            replace hP : va_P D vwCl (wM am cI cJ X Y τ27 ℓ) H := by rw [eτ27]; exact hP
            have hP : va_P D vwCl (wM am cI cJ X Y τ27 ℓ) H := hP
            have hD : va_D A (wM am cI cJ X Y τ27 ℓ) := wM_D hD _ _
            refine lv_iconst (v := 1) hx hb dX2_settle_109 (by decide) ?_
            refine lv_istore_n (lv' := [(1, .int 1), (2, .int (nI sd)), (0, .ref (am 6))]) hx hb dX2_settle_110 rfl hl (by decide) rfl (fun ls hl => ?_)
            refine a_inc hx hb (k := 1) (lv' := [(2, .int (nI (sd + 1))), (1, .int 1), (0, .ref (am 6))]) sd dX2_settle_111 hl rfl (by decide) rfl (fun ls hl => ?_)
            refine lv_goto (tgt := 27) hx hb dX2_settle_114 (by decide) ?_
            have e9 : n_ml τ (sd + 1) = (1, τ27) := by subst eτ27 eb24 eτ22 eb19; show f_mlS sd (n_ml τ sd) = _; unfold f_mlS; rw [if_neg c38]
            exact ih4 _ _ _ ⟨by rw [e9]; exact lv_sub hl [1, 0, 2] rfl, by rw [e9]; exact hP, hS⟩
  · -- settled
    have e9 : f_mset X Y N (τ, ℓ) = (τ, ℓ) := if_neg c4
    exact W.vret hx hb hr (fun t ht _ => ⟨rfl, by rw [ht]; first | exact hP | (rw [e9]; exact hP), by rw [hAe]; exact hS.F ht⟩) hS.2.2 dX2_settle_7
