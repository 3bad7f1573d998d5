set_option maxHeartbeats 4000000 in
set_option maxRecDepth 100000 in
theorem lc_told {p : Program} {e : Env} {s : State} {m : MethodId} {below : List Frame} {meth : Method} {c : Code} (l : Launch) {b L : Nat} {xs : Nat → Int32} (hL : L ≤ 3074) (C0 : lw_At p s m meth c b L xs) {A : Nat → Prop} (hbA : ¬ A b) {D : va_G} {cI cJ : ClassId} {ab ad am sa : Nat → Nat} {ao X Y : Nat} (hB : 1 ≤ X ∧ X ≤ 10 ∧ 1 ≤ Y ∧ Y ≤ 10) (hK : va_K D vwCl (tY cI cJ) s) (hV : ThV sa s) (hH : ThH A s s.heap) (i : Nat) (hi : i + 6 ≤ L) (σ : Nat → Nat → Int32) (hh : Nat → Int64) (hw : Nat → Int32) (n : Int32) (τ : Nat → Nat → Int32) (ℓ : Nat → Nat → Int64) (go : Nat → Int64) (hR : RI X Y σ hh hw n τ ℓ) (hSt : StG (α := Int64) id Value.long (.long 0) l D cI cJ ab ad ao am sa X Y yL_told wsL_told 4 yX2_told wsX2_told 7 [.int (xs (i + 1))] σ hh hw n τ ℓ) (H : Heap) (locs : List Loc) (cells slots : Nat) (hc : cells + 1 ≤ 652116) (hs : slots + 6 ≤ 7139723) (hP : va_P D vwCl (wL ab ad ao cI cJ X Y σ hh hw n go ++ (wM am cI cJ X Y τ ℓ ++ [])) H) (hD : va_D A (wL ab ad ao cI cJ X Y σ hh hw n go ++ (wM am cI cJ X Y τ ℓ ++ []))) (hS : va_S A s.heap H locs) (ls : Array Slot) (hl : lv_has ls 8 [(1, .ref (ab 0)), (2, .ref (am 6)), (3, .ref ao), (4, .int (nI i)), (0, .ref b)]) (kk : ∀ (σ' : Nat → Nat → Int32) (hh' : Nat → Int64) (hw' : Nat → Int32) (n' : Int32) (τ' : Nat → Nat → Int32) (ℓ' : Nat → Nat → Int64) (go' : Nat → Int64) (H : Heap) (locs : List Loc) (ls : Array Slot), RI X Y σ' hh' hw' n' τ' ℓ' → va_P D vwCl (wL ab ad ao cI cJ X Y σ' hh' hw' n' go' ++ (wM am cI cJ X Y τ' ℓ' ++ [])) H → va_D A (wL ab ad ao cI cJ X Y σ' hh' hw' n' go' ++ (wM am cI cJ X Y τ' ℓ' ++ [])) → va_S A s.heap H locs → lv_has ls 8 [(1, .ref (ab 0)), (2, .ref (am 6)), (3, .ref ao), (4, .int (nI i)), (0, .ref b)] → W p l e room_1 s m #[Value.ref b] below meth c H locs (cells + 1) (slots + 6) (lw_Z below #[Value.ref b] s) (F0 m 998 ls [])) : W p l e room_1 s m #[Value.ref b] below meth c H locs cells slots (lw_Z below #[Value.ref b] s) (F0 m 507 ls []) := by
  obtain ⟨hx, hb, hr, hml, hown, hts, hX, hbl, hlocks, hgv⟩ := C0
  have hb : c.code = cL_law := hb
  have hown : s.vm.findClass RL = some m.cls := hown
  have htl : ∀ w ∈ wsL_law, w.before #[Value.ref b] s = true := fun w h => hts w (wsL_law_in w h)
  rcases hSt with ⟨⟨f1, lo1, hr1, hn1⟩, f2, lo2, hr2, hn2⟩ | ⟨σ', hh', hw', n', τ', ℓ', v, hR1, hf0, ⟨f1, lo1, hr1, hn1⟩, f2, lo2, hr2, hn2⟩
  · -- both throw
    refine lv_aload_n hx hb dL_law_507 rfl (lv_at hl 0 rfl) ?_
    refine lv_aload_n hx hb dL_law_508 rfl (lv_at hl 4 rfl) ?_
    refine lv_iload hx hb dL_law_509 (lv_at hl 3 rfl) ?_
    refine lv_iconst (v := 1) hx hb dL_law_511 (by decide) ?_
    refine lv_iadd hx hb dL_law_512 ?_
    refine top_eq (y := nI (i + 1)) (nI_add i 1) ?_
    refine va_sld hx hb hX hbl hbA hS (vp_in_nI (show (i + 1) < L by omega) (by omega)) dL_law_513 ?_
    refine top_eq (y := xs (i + 1)) (by rw [nI_clamp (by omega)]) ?_
    refine lv_aload_n hx hb dL_law_514 rfl (lv_at hl 2 rfl) ?_
    refine n_S ⟨hx, hb, hml, hown, htl⟩ (hn1 go) (vx_cwSW 3 htl gL_law_L_told rfl rfl rfl (by decide +kernel) hr1) (va_P_split hP).1 hK hV ((hH.kept hS.2.1).narrow (fun _ h => h.elim)) rfl hl.1 rfl (Nat.le_of_ble_eq_true rfl) dL_law_515 hc hs (fun H1 hz hk => ?_)
    replace hP : va_P D vwCl (wL ab ad ao cI cJ X Y σ hh hw n go ++ (wM am cI cJ X Y τ ℓ ++ [])) H1 := hP.kept (fun k q hq => hk _ ((hP k q hq).lt))
    replace hS : va_S A s.heap H1 locs := ⟨Nat.le_trans hS.1 hz, fun q h1 h2 => (hk q (Nat.lt_of_lt_of_le h1 hS.1)).trans (hS.2.1 q h1 h2), hS.2.2⟩
    clear hz hk
    generalize H1 = H at hP hS ⊢
    refine lv_istore (lv' := [(5, .int 1), (1, .ref (ab 0)), (2, .ref (am 6)), (3, .ref ao), (4, .int (nI i)), (0, .ref b)]) hx hb dL_law_518 hl (by decide) rfl (fun ls hl => ?_)
    refine lv_aload_n hx hb dL_law_520 rfl (lv_at hl 2 rfl) ?_
    refine lv_aload_n hx hb dL_law_521 rfl (lv_at hl 5 rfl) ?_
    refine lv_iload hx hb dL_law_522 (lv_at hl 4 rfl) ?_
    refine lv_iconst (v := 1) hx hb dL_law_524 (by decide) ?_
    refine lv_iadd hx hb dL_law_525 ?_
    refine top_eq (y := nI (i + 1)) (nI_add i 1) ?_
    refine va_sld hx hb hX hbl hbA hS (vp_in_nI (show (i + 1) < L by omega) (by omega)) dL_law_526 ?_
    refine top_eq (y := xs (i + 1)) (by rw [nI_clamp (by omega)]) ?_
    refine w_V (A := A) ⟨hx, hb, hml, hown, htl⟩ hn2 (cwV 1 htl gL_law_X2_told rfl rfl rfl (by decide +kernel) hr2) (wL ab ad ao cI cJ X Y σ hh hw n go) [] hP hD hS hK (va_recv hK hP (ci := 2) (q0 := 13) rfl rfl) rfl hl.1 rfl (Nat.le_of_ble_eq_true rfl) dL_law_527 hc hs (fun H locs hP hS => ?_)
    have hP : va_P D vwCl (wL ab ad ao cI cJ X Y σ hh hw n go ++ (wM am cI cJ X Y (up2 τ 5 0 1) ℓ ++ [])) H := hP
    have hD : va_D A (wL ab ad ao cI cJ X Y σ hh hw n go ++ (wM am cI cJ X Y (up2 τ 5 0 1) ℓ ++ [])) := aw_fst (by rfl) hD
    refine lv_lstore (lv' := [(6, .long 0), (5, .int 1), (1, .ref (ab 0)), (2, .ref (am 6)), (3, .ref ao), (4, .int (nI i)), (0, .ref b)]) hx hb dL_law_530 hl (by decide) rfl (fun ls hl => ?_)
    refine lv_aload_n hx hb dL_law_532 rfl (lv_at hl 3 rfl) ?_
    refine r_V ⟨hx, hb, hml, hown, htl⟩ (k_X2_thrown l D cI cJ am X Y (up2 τ 5 0 1) ℓ hB) (cwV 0 htl gL_law_X2_thrown rfl rfl rfl (by decide +kernel) ⟨Nat.le_of_ble_eq_true rfl, Nat.le_of_ble_eq_true rfl⟩) (va_P_split (va_P_split hP).2).1 hK (va_recv hK hP (ci := 2) (q0 := 13) rfl rfl) rfl hl.1 rfl (Nat.le_of_ble_eq_true rfl) dL_law_533 hc hs ?_
    refine lv_iload hx hb dL_law_536 (lv_at hl 1 rfl) ?_
    refine lv_icmp_eq (tgt := 543) hx hb dL_law_538 (by decide) (fun _ => ?_) (fun c9 => False.elim (c9 (up_at τ 5 0 1)))
    refine lv_iload hx hb dL_law_543 (lv_at hl 1 rfl) ?_
    refine lv_if_ne (tgt := 559) hx hb dL_law_545 (by decide) (fun _ => ?_) (fun c9 => False.elim (absurd c9 (by decide)))
    refine lv_goto (tgt := 998) hx hb dL_law_559 (by decide) ?_
    exact kk σ hh hw n (up2 τ 5 0 1) ℓ go _ _ _ (RI_fault hR 1) hP hD hS (lv_sub hl [2, 3, 4, 5, 6] rfl)
  · -- both answer
    refine lv_aload_n hx hb dL_law_507 rfl (lv_at hl 0 rfl) ?_
    refine lv_aload_n hx hb dL_law_508 rfl (lv_at hl 4 rfl) ?_
    refine lv_iload hx hb dL_law_509 (lv_at hl 3 rfl) ?_
    refine lv_iconst (v := 1) hx hb dL_law_511 (by decide) ?_
    refine lv_iadd hx hb dL_law_512 ?_
    refine top_eq (y := nI (i + 1)) (nI_add i 1) ?_
    refine va_sld hx hb hX hbl hbA hS (vp_in_nI (show (i + 1) < L by omega) (by omega)) dL_law_513 ?_
    refine top_eq (y := xs (i + 1)) (by rw [nI_clamp (by omega)]) ?_
    refine lv_aload_n hx hb dL_law_514 rfl (lv_at hl 2 rfl) ?_
    refine w_S (A := A) ⟨hx, hb, hml, hown, htl⟩ (hn1 go) (vx_cwSW 3 htl gL_law_L_told rfl rfl rfl (by decide +kernel) hr1) [] (wM am cI cJ X Y τ ℓ ++ []) hP hD hS hK rfl hl.1 rfl (Nat.le_of_ble_eq_true rfl) dL_law_515 (Nat.le_of_succ_le hc) (Nat.le_trans (Nat.le_add_right _ _) hs) (fun H locs hP hS => ?_)
    have hP : va_P D vwCl (wL ab ad ao cI cJ X Y σ' hh' hw' n' (vp_updL go 0 v) ++ (wM am cI cJ X Y τ ℓ ++ [])) H := hP
    have hD : va_D A (wL ab ad ao cI cJ X Y σ' hh' hw' n' (vp_updL go 0 v) ++ (wM am cI cJ X Y τ ℓ ++ [])) := aw_fst (by rfl) hD
    refine lv_istore (lv' := [(5, .int 0), (1, .ref (ab 0)), (2, .ref (am 6)), (3, .ref ao), (4, .int (nI i)), (0, .ref b)]) hx hb dL_law_518 hl (by decide) rfl (fun ls hl => ?_)
    refine lv_aload_n hx hb dL_law_520 rfl (lv_at hl 2 rfl) ?_
    refine lv_aload_n hx hb dL_law_521 rfl (lv_at hl 5 rfl) ?_
    refine lv_iload hx hb dL_law_522 (lv_at hl 4 rfl) ?_
    refine lv_iconst (v := 1) hx hb dL_law_524 (by decide) ?_
    refine lv_iadd hx hb dL_law_525 ?_
    refine top_eq (y := nI (i + 1)) (nI_add i 1) ?_
    refine va_sld hx hb hX hbl hbA hS (vp_in_nI (show (i + 1) < L by omega) (by omega)) dL_law_526 ?_
    refine top_eq (y := xs (i + 1)) (by rw [nI_clamp (by omega)]) ?_
    refine w_V (A := A) ⟨hx, hb, hml, hown, htl⟩ hn2 (cwV 1 htl gL_law_X2_told rfl rfl rfl (by decide +kernel) hr2) (wL ab ad ao cI cJ X Y σ' hh' hw' n' (vp_updL go 0 v)) [] hP hD hS hK (va_recv hK hP (ci := 2) (q0 := 13) rfl rfl) rfl hl.1 rfl (Nat.le_of_ble_eq_true rfl) dL_law_527 (Nat.le_of_succ_le hc) (Nat.le_trans (Nat.le_add_right _ _) hs) (fun H locs hP hS => ?_)
    have hP : va_P D vwCl (wL ab ad ao cI cJ X Y σ' hh' hw' n' (vp_updL go 0 v) ++ (wM am cI cJ X Y τ' ℓ' ++ [])) H := hP
    have hD : va_D A (wL ab ad ao cI cJ X Y σ' hh' hw' n' (vp_updL go 0 v) ++ (wM am cI cJ X Y τ' ℓ' ++ [])) := aw_fst (by rfl) hD
    refine lv_lstore (lv' := [(6, .long v), (5, .int 0), (1, .ref (ab 0)), (2, .ref (am 6)), (3, .ref ao), (4, .int (nI i)), (0, .ref b)]) hx hb dL_law_530 hl (by decide) rfl (fun ls hl => ?_)
    refine lv_aload_n hx hb dL_law_532 rfl (lv_at hl 3 rfl) ?_
    refine r_V ⟨hx, hb, hml, hown, htl⟩ (k_X2_thrown l D cI cJ am X Y τ' ℓ' hB) (cwV 0 htl gL_law_X2_thrown rfl rfl rfl (by decide +kernel) ⟨Nat.le_of_ble_eq_true rfl, Nat.le_of_ble_eq_true rfl⟩) (va_P_split (va_P_split hP).2).1 hK (va_recv hK hP (ci := 2) (q0 := 13) rfl rfl) rfl hl.1 rfl (Nat.le_of_ble_eq_true rfl) dL_law_533 (Nat.le_of_succ_le hc) (Nat.le_trans (Nat.le_add_right _ _) hs) ?_
    refine lv_iload hx hb dL_law_536 (lv_at hl 1 rfl) ?_
    refine lv_icmp_eq (tgt := 543) hx hb dL_law_538 (by decide) (fun _ => ?_) (fun c9 => False.elim (c9 hf0))
    refine lv_iload hx hb dL_law_543 (lv_at hl 1 rfl) ?_
    refine lv_if_ne (tgt := 559) hx hb dL_law_545 (by decide) (fun c9 => False.elim (c9 rfl)) (fun _ => ?_)
    refine lv_aload_n hx hb dL_law_548 rfl (lv_at hl 4 rfl) ?_
    refine lv_iconst (v := 0) hx hb dL_law_549 (by decide) ?_
    refine a_ldl hx hb hK hP 12 1 rfl rfl 0 (rfl) (by omega) (by decide) dL_law_550 ?_
    refine lv_lload hx hb dL_law_551 (lv_at hl 0 rfl) ?_
    refine W.lcmp hx hb dL_law_553 ?_
    refine lv_if_eq (tgt := 559) hx hb dL_law_554 (by decide) (fun _ => ?_) (fun c9 => False.elim (c9 (cmp_ok _ _)))
    refine lv_goto (tgt := 998) hx hb dL_law_559 (by decide) ?_
    refine W.widen (k := cells + 1) (n := slots + 6) (Nat.le_succ _) (Nat.le_add_right _ _) ?_
    exact kk σ' hh' hw' n' τ' ℓ' (vp_updL go 0 v) _ _ _ (hR1) hP hD hS (lv_sub hl [2, 3, 4, 5, 6] rfl)
