set_option maxHeartbeats 4000000 in
set_option maxRecDepth 100000 in
theorem lc_sum {p : Program} {e : Env} {s : State} {m : MethodId} {below : List Frame} {meth : Method} {c : Code} (l : Launch) {b L : Nat} {xs : Nat → Int32} (hL : L ≤ 3074) (C0 : lw_At p s m meth c b L xs) {A : Nat → Prop} (hbA : ¬ A b) {D : va_G} {cI cJ : ClassId} {ab ad am sa : Nat → Nat} {ao X Y : Nat} (hB : 1 ≤ X ∧ X ≤ 10 ∧ 1 ≤ Y ∧ Y ≤ 10) (hK : va_K D vwCl (tY cI cJ) s) (hV : ThV sa s) (hH : ThH A s s.heap) (i : Nat) (hi : i + 6 ≤ L) (σ : Nat → Nat → Int32) (hh : Nat → Int64) (hw : Nat → Int32) (n : Int32) (τ : Nat → Nat → Int32) (ℓ : Nat → Nat → Int64) (go : Nat → Int64) (hR : RI X Y σ hh hw n τ ℓ)  (H : Heap) (locs : List Loc) (cells slots : Nat) (hc : cells + 1 ≤ 652116) (hs : slots + 6 ≤ 7139723) (hP : va_P D vwCl (wL ab ad ao cI cJ X Y σ hh hw n go ++ (wM am cI cJ X Y τ ℓ ++ [])) H) (hD : va_D A (wL ab ad ao cI cJ X Y σ hh hw n go ++ (wM am cI cJ X Y τ ℓ ++ []))) (hS : va_S A s.heap H locs) (ls : Array Slot) (hl : lv_has ls 8 [(1, .ref (ab 0)), (2, .ref (am 6)), (3, .ref ao), (4, .int (nI i)), (0, .ref b)]) (kk : ∀ (σ' : Nat → Nat → Int32) (hh' : Nat → Int64) (hw' : Nat → Int32) (n' : Int32) (τ' : Nat → Nat → Int32) (ℓ' : Nat → Nat → Int64) (go' : Nat → Int64) (H : Heap) (locs : List Loc) (ls : Array Slot), RI X Y σ' hh' hw' n' τ' ℓ' → va_P D vwCl (wL ab ad ao cI cJ X Y σ' hh' hw' n' go' ++ (wM am cI cJ X Y τ' ℓ' ++ [])) H → va_D A (wL ab ad ao cI cJ X Y σ' hh' hw' n' go' ++ (wM am cI cJ X Y τ' ℓ' ++ [])) → va_S A s.heap H locs → lv_has ls 8 [(1, .ref (ab 0)), (2, .ref (am 6)), (3, .ref ao), (4, .int (nI i)), (0, .ref b)] → W p l e room_1 s m #[Value.ref b] below meth c H locs (cells + 1) (slots + 6) (lw_Z below #[Value.ref b] s) (F0 m 998 ls [])) : W p l e room_1 s m #[Value.ref b] below meth c H locs cells slots (lw_Z below #[Value.ref b] s) (F0 m 984 ls []) := by
  obtain ⟨hx, hb, hr, hml, hown, hts, hX, hbl, hlocks, hgv⟩ := C0
  have hb : c.code = cL_law := hb
  have hown : s.vm.findClass RL = some m.cls := hown
  have htl : ∀ w ∈ wsL_law, w.before #[Value.ref b] s = true := fun w h => hts w (wsL_law_in w h)
  have hR1 := RI_fault hR 0
  obtain ⟨-, -, ehh, ehw, jn, hj9, hjn, hjt⟩ := hR
  refine lv_aload_n hx hb dL_law_984 rfl (lv_at hl 0 rfl) ?_
  refine r_V ⟨hx, hb, hml, hown, htl⟩ (k_X1_sum l D cI cJ ab ad X Y σ hh hw n hB jn hjn hj9) (cwV 0 htl gL_law_X1_sum rfl rfl rfl (by decide +kernel) ⟨Nat.le_of_ble_eq_true rfl, Nat.le_of_ble_eq_true rfl⟩) (va_P_split (va_P_split hP).1).1 hK (va_recv hK hP (ci := 1) (q0 := 0) rfl rfl) rfl hl.1 rfl (Nat.le_of_ble_eq_true rfl) dL_law_985 (Nat.le_of_succ_le hc) (Nat.le_trans (Nat.le_add_right _ _) hs) ?_
  refine lv_aload_n hx hb dL_law_988 rfl (lv_at hl 1 rfl) ?_
  refine w_V (A := A) ⟨hx, hb, hml, hown, htl⟩ (k_X2_sum l D cI cJ am X Y τ ℓ hB jn hjt hj9) (cwV 0 htl gL_law_X2_sum rfl rfl rfl (by decide +kernel) ⟨Nat.le_of_ble_eq_true rfl, Nat.le_of_ble_eq_true rfl⟩) (wL ab ad ao cI cJ X Y σ hh hw n go) [] hP hD hS hK (va_recv hK hP (ci := 2) (q0 := 13) rfl rfl) rfl hl.1 rfl (Nat.le_of_ble_eq_true rfl) dL_law_989 (Nat.le_of_succ_le hc) (Nat.le_trans (Nat.le_add_right _ _) hs) (fun H locs hP hS => ?_)
  have hP : va_P D vwCl (wL ab ad ao cI cJ X Y σ hh hw n go ++ (wM am cI cJ X Y (up2 τ 5 0 0) ℓ ++ [])) H := hP
  have hD : va_D A (wL ab ad ao cI cJ X Y σ hh hw n go ++ (wM am cI cJ X Y (up2 τ 5 0 0) ℓ ++ [])) := aw_fst (by rfl) hD
  refine W.lcmp hx hb dL_law_992 ?_
  refine lv_if_eq (tgt := 998) hx hb dL_law_993 (by decide) (fun _ => ?_) (fun c9 => False.elim (c9 (by rw [ehh, ehw]; unfold lg_cmp; simp)))
  refine W.widen (k := cells + 1) (n := slots + 6) (Nat.le_succ _) (Nat.le_add_right _ _) ?_
  exact kk σ hh hw n (up2 τ 5 0 0) ℓ go _ _ _ (hR1) hP hD hS (lv_sub hl [0, 1, 2, 3, 4] rfl)
