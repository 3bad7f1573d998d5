theorem cmp_L {L i : Nat} (hL : L ≤ 3074) (hi : i ≤ 4000) : (nI L - 6 < nI i) ↔ L < i + 6 := by
  have e1 : (nI L - 6 : Int32).toInt = (L : Int) - 6 := by
    rw [Int32.toInt_sub, nI_toInt (by omega), show (6 : Int32).toInt = 6 from rfl, Int.bmod_eq_of_le (by omega) (by omega)]
  rw [Int32.lt_iff_toInt_lt, e1, nI_toInt (by omega)]
  omega
theorem sw_c (v : Int32) : (v = nI 0 ∨ v = nI 1 ∨ v = nI 2 ∨ v = nI 3 ∨ v = nI 4 ∨ v = nI 5 ∨ v = nI 6 ∨ v = nI 7 ∨ v = nI 8 ∨ v = nI 9 ∨ v = nI 10 ∨ v = nI 11 ∨ v = nI 12 ∨ v = nI 13) ∨ (v.toInt < 0 ∨ 13 < v.toInt) := by
  by_cases h : v.toInt < 0 ∨ 13 < v.toInt
  · exact Or.inr h
  · refine Or.inl ?_
    have hv : v = nI v.toInt.toNat := (nI_back v (by omega)).symm
    have hk : v.toInt.toNat ≤ 13 := by omega
    generalize v.toInt.toNat = k at hv hk
    subst hv
    rcases (show k = 0 ∨ k = 1 ∨ k = 2 ∨ k = 3 ∨ k = 4 ∨ k = 5 ∨ k = 6 ∨ k = 7 ∨ k = 8 ∨ k = 9 ∨ k = 10 ∨ k = 11 ∨ k = 12 ∨ k = 13 by omega) with rfl | rfl | rfl | rfl | rfl | rfl | rfl | rfl | rfl | rfl | rfl | rfl | rfl | rfl <;> simp
set_option maxHeartbeats 4000000 in
set_option maxRecDepth 100000 in
theorem law_loop {p : Program} {e : Env} {s : State} {m : MethodId} {below : List Frame} {meth : Method} {c : Code} (l : Launch) {b L : Nat} {xs : Nat → Int32} (hL : L ≤ 3074) (C0 : lw_At p s m meth c b L xs) {A : Nat → Prop} (hbA : ¬ A b) {D : va_G} {cI cJ : ClassId} {ab ad am sa : Nat → Nat} {ao X Y : Nat} (hB : 1 ≤ X ∧ X ≤ 10 ∧ 1 ≤ Y ∧ Y ≤ 10) (hK : va_K D vwCl (tY cI cJ) s) (hV : ThV sa s) (hH : ThH A s s.heap) (hst : l.stackTraces = false) (hA : ∀ q, A q → s.heap.size ≤ q) : ∀ (fu k : Nat), L < 6 * (k + fu) + 8 → ∀ (σ : Nat → Nat → Int32) (hh : Nat → Int64) (hw : Nat → Int32) (n : Int32) (τ : Nat → Nat → Int32) (ℓ : Nat → Nat → Int64) (go : Nat → Int64), RI X Y σ hh hw n τ ℓ → ∀ (H : Heap) (locs : List Loc), va_P D vwCl (wL ab ad ao cI cJ X Y σ hh hw n go ++ (wM am cI cJ X Y τ ℓ ++ [])) H → va_D A (wL ab ad ao cI cJ X Y σ hh hw n go ++ (wM am cI cJ X Y τ ℓ ++ [])) → va_S A s.heap H locs → ∀ ls : Array Slot, lv_has ls 8 [(1, .ref (ab 0)), (2, .ref (am 6)), (3, .ref ao), (4, .int (nI (2 + 6 * k))), (0, .ref b)] → 6 * k ≤ 3074 → W p l e room_1 s m #[Value.ref b] below meth c H locs (40 + k) (2000 + 6 * k) (lw_Z below #[Value.ref b] s) (F0 m 43 ls []) := by
  have C1 := C0
  obtain ⟨hx, hb, hr, hml, hown, hts, hX, hbl, hlocks, hgv⟩ := C1
  have hb : c.code = cL_law := hb
  intro fu
  induction fu with
  | zero =>
    intro k hf σ hh hw n τ ℓ go hR H locs hP hD hS ls hl hk
    refine lv_iload hx hb dL_law_43 (lv_at hl 3 rfl) ?_
    refine lv_aload_n hx hb dL_law_45 rfl (lv_at hl 4 rfl) ?_
    refine va_slen hx hb hX hbl hbA hS dL_law_46 ?_
    refine lv_bipush (v := 6) hx hb dL_law_47 (by decide) ?_
    refine lv_isub hx hb dL_law_49 ?_
    refine lv_icmp_gt (tgt := 1004) hx hb dL_law_50 (by decide) (fun _ => ?_) (fun c9 => absurd ((cmp_L hL (by omega)).mpr (by omega)) c9)
    refine lv_iconst (v := 1) hx hb dL_law_1004 (by decide) ?_
    refine va_forget (fun q hq => hA _ (hS.2.2 q hq)) ?_
    refine W.widen (k := 652116) (n := 7139723) (by omega) (by omega) ?_
    exact lw_ret hx hb hr hlocks dL_law_1005
  | succ fu ih =>
    intro k hf σ hh hw n τ ℓ go hR H locs hP hD hS ls hl hk
    refine lv_iload hx hb dL_law_43 (lv_at hl 3 rfl) ?_
    refine lv_aload_n hx hb dL_law_45 rfl (lv_at hl 4 rfl) ?_
    refine va_slen hx hb hX hbl hbA hS dL_law_46 ?_
    refine lv_bipush (v := 6) hx hb dL_law_47 (by decide) ?_
    refine lv_isub hx hb dL_law_49 ?_
    refine lv_icmp_gt (tgt := 1004) hx hb dL_law_50 (by decide) (fun _ => ?_) (fun c9 => ?_)
    · refine lv_iconst (v := 1) hx hb dL_law_1004 (by decide) ?_
      refine va_forget (fun q hq => hA _ (hS.2.2 q hq)) ?_
      refine W.widen (k := 652116) (n := 7139723) (by omega) (by omega) ?_
      exact lw_ret hx hb hr hlocks dL_law_1005
    · have hi : 2 + 6 * k + 6 ≤ L := by
        rcases Nat.lt_or_ge L (2 + 6 * k + 6) with h | h
        · exact absurd ((cmp_L hL (by omega)).mpr h) c9
        · exact h
      refine lv_aload_n hx hb dL_law_53 rfl (lv_at hl 4 rfl) ?_
      refine lv_iload hx hb dL_law_54 (lv_at hl 3 rfl) ?_
      refine va_sld hx hb hX hbl hbA hS (vp_in_nI (show 2 + 6 * k < L by omega) (by omega)) dL_law_56 ?_
      refine top_eq (y := xs (2 + 6 * k)) (by rw [nI_clamp (by omega)]) ?_
      refine lv_bipush (v := 15) hx hb dL_law_57 (by decide) ?_
      refine lv_iand hx hb dL_law_59 ?_
      have back : ∀ (σ' : Nat → Nat → Int32) (hh' : Nat → Int64) (hw' : Nat → Int32) (n' : Int32) (τ' : Nat → Nat → Int32) (ℓ' : Nat → Nat → Int64) (go' : Nat → Int64) (H : Heap) (locs : List Loc) (ls : Array Slot), RI X Y σ' hh' hw' n' τ' ℓ' → va_P D vwCl (wL ab ad ao cI cJ X Y σ' hh' hw' n' go' ++ (wM am cI cJ X Y τ' ℓ' ++ [])) H → va_D A (wL ab ad ao cI cJ X Y σ' hh' hw' n' go' ++ (wM am cI cJ X Y τ' ℓ' ++ [])) → va_S A s.heap H locs → lv_has ls 8 [(1, .ref (ab 0)), (2, .ref (am 6)), (3, .ref ao), (4, .int (nI (2 + 6 * k))), (0, .ref b)] → W p l e room_1 s m #[Value.ref b] below meth c H locs (40 + k + 1) (2000 + 6 * k + 6) (lw_Z below #[Value.ref b] s) (F0 m 998 ls []) := by
        intro σ' hh' hw' n' τ' ℓ' go' H locs ls hR hP hD hS hl
        refine lv_iinc (k := 3) (v := nI (2 + 6 * (k + 1))) (lv' := [(4, .int (nI (2 + 6 * (k + 1)))), (1, .ref (ab 0)), (2, .ref (am 6)), (3, .ref ao), (0, .ref b)]) hx hb dL_law_998 hl rfl (by rw [show Int32.ofInt 6 = nI 6 by decide, nI_add]; exact congrArg nI (by omega)) (by decide) rfl (fun ls hl => ?_)
        refine lv_goto (tgt := 43) hx hb dL_law_1001 (by decide) ?_
        exact ih (k + 1) (by omega) σ' hh' hw' n' τ' ℓ' go' hR H locs hP hD hS ls (lv_sub hl [1, 2, 3, 0, 4] rfl) (by omega)
      rcases sw_c (xs (2 + 6 * k) &&& 15) with (h9 | h9 | h9 | h9 | h9 | h9 | h9 | h9 | h9 | h9 | h9 | h9 | h9 | h9) | h9
      · refine top_eq (y := nI 0) h9 ?_
        refine lv_tableIn (tgt := 132) hx hb dL_law_60 (by decide) (by decide) rfl (by decide) ?_
        exact lc_box l hL C0 hbA hB hK hV hH (2 + 6 * k) (by omega) σ hh hw n τ ℓ go hR (st_box l hst D cI cJ ab ad ao am sa hB hR (xs (2 + 6 * k + 1)) (xs (2 + 6 * k + 2)) (xs (2 + 6 * k + 3)) (xs (2 + 6 * k + 4)) (xs (2 + 6 * k + 5))) H locs (40 + k) (2000 + 6 * k) (by omega) (by omega) hP hD hS ls (lv_sub hl [0, 1, 2, 3, 4] rfl) back
      · refine top_eq (y := nI 1) h9 ?_
        refine lv_tableIn (tgt := 236) hx hb dL_law_60 (by decide) (by decide) rfl (by decide) ?_
        exact lc_side l hL C0 hbA hB hK hV hH (2 + 6 * k) (by omega) σ hh hw n τ ℓ go hR (st_side l hst D cI cJ ab ad ao am sa hB hR (xs (2 + 6 * k + 1)) (xs (2 + 6 * k + 2)) (xs (2 + 6 * k + 3))) H locs (40 + k) (2000 + 6 * k) (by omega) (by omega) hP hD hS ls (lv_sub hl [0, 1, 2, 3, 4] rfl) back
      · refine top_eq (y := nI 2) h9 ?_
        refine lv_tableIn (tgt := 316) hx hb dL_law_60 (by decide) (by decide) rfl (by decide) ?_
        exact lc_leads l hL C0 hbA hB hK hV hH (2 + 6 * k) (by omega) σ hh hw n τ ℓ go hR (st_leads l hst D cI cJ ab ad ao am sa hB hR (xs (2 + 6 * k + 1)) (xs (2 + 6 * k + 2))) H locs (40 + k) (2000 + 6 * k) (by omega) (by omega) hP hD hS ls (lv_sub hl [0, 1, 2, 3, 4] rfl) back
      · refine top_eq (y := nI 3) h9 ?_
        refine lv_tableIn (tgt := 384) hx hb dL_law_60 (by decide) (by decide) rfl (by decide) ?_
        exact lc_warmth l hL C0 hbA hB hK hV hH (2 + 6 * k) (by omega) σ hh hw n τ ℓ go hR (st_warmth l hst D cI cJ ab ad ao am sa hB hR (xs (2 + 6 * k + 1)) (xs (2 + 6 * k + 2))) H locs (40 + k) (2000 + 6 * k) (by omega) (by omega) hP hD hS ls (lv_sub hl [0, 1, 2, 3, 4] rfl) back
      · refine top_eq (y := nI 4) h9 ?_
        refine lv_tableIn (tgt := 452) hx hb dL_law_60 (by decide) (by decide) rfl (by decide) ?_
        exact lc_flow l hL C0 hbA hB hK hV hH (2 + 6 * k) (by omega) σ hh hw n τ ℓ go hR (st_flow l hst D cI cJ ab ad ao am sa hB hR (xs (2 + 6 * k + 1))) H locs (40 + k) (2000 + 6 * k) (by omega) (by omega) hP hD hS ls (lv_sub hl [0, 1, 2, 3, 4] rfl) back
      · refine top_eq (y := nI 5) h9 ?_
        refine lv_tableIn (tgt := 507) hx hb dL_law_60 (by decide) (by decide) rfl (by decide) ?_
        exact lc_told l hL C0 hbA hB hK hV hH (2 + 6 * k) (by omega) σ hh hw n τ ℓ go hR (st_told l hst D cI cJ ab ad ao am sa hB hR (xs (2 + 6 * k + 1))) H locs (40 + k) (2000 + 6 * k) (by omega) (by omega) hP hD hS ls (lv_sub hl [0, 1, 2, 3, 4] rfl) back
      · refine top_eq (y := nI 6) h9 ?_
        refine lv_tableIn (tgt := 562) hx hb dL_law_60 (by decide) (by decide) rfl (by decide) ?_
        exact lc_least l hL C0 hbA hB hK hV hH (2 + 6 * k) (by omega) σ hh hw n τ ℓ go hR (st_least l hst D cI cJ ab ad ao am sa hB hR (xs (2 + 6 * k + 1)) (xs (2 + 6 * k + 2))) H locs (40 + k) (2000 + 6 * k) (by omega) (by omega) hP hD hS ls (lv_sub hl [0, 1, 2, 3, 4] rfl) back
      · refine top_eq (y := nI 7) h9 ?_
        refine lv_tableIn (tgt := 630) hx hb dL_law_60 (by decide) (by decide) rfl (by decide) ?_
        exact lc_factor l hL C0 hbA hB hK hV hH (2 + 6 * k) (by omega) σ hh hw n τ ℓ go hR (st_factor l hst D cI cJ ab ad ao am sa hB hR (xs (2 + 6 * k + 1)) (xs (2 + 6 * k + 2))) H locs (40 + k) (2000 + 6 * k) (by omega) (by omega) hP hD hS ls (lv_sub hl [0, 1, 2, 3, 4] rfl) back
      · refine top_eq (y := nI 8) h9 ?_
        refine lv_tableIn (tgt := 698) hx hb dL_law_60 (by decide) (by decide) rfl (by decide) ?_
        exact lc_colder l hL C0 hbA hB hK hV hH (2 + 6 * k) (by omega) σ hh hw n τ ℓ go hR (st_colder l hst D cI cJ ab ad ao am sa hB hR (xs (2 + 6 * k + 1))) H locs (40 + k) (2000 + 6 * k) (by omega) (by omega) hP hD hS ls (lv_sub hl [0, 1, 2, 3, 4] rfl) back
      · refine top_eq (y := nI 9) h9 ?_
        refine lv_tableIn (tgt := 754) hx hb dL_law_60 (by decide) (by decide) rfl (by decide) ?_
        exact lc_mirrored l hL C0 hbA hB hK hV hH (2 + 6 * k) (by omega) σ hh hw n τ ℓ go hR (st_mirrored l hst D cI cJ ab ad ao am sa hB hR (xs (2 + 6 * k + 1))) H locs (40 + k) (2000 + 6 * k) (by omega) (by omega) hP hD hS ls (lv_sub hl [0, 1, 2, 3, 4] rfl) back
      · refine top_eq (y := nI 10) h9 ?_
        refine lv_tableIn (tgt := 817) hx hb dL_law_60 (by decide) (by decide) rfl (by decide) ?_
        exact lc_joint l hL C0 hbA hB hK hV hH (2 + 6 * k) (by omega) σ hh hw n τ ℓ go hR (st_joint l hst D cI cJ ab ad ao am sa hB hR ) H locs (40 + k) (2000 + 6 * k) (by omega) (by omega) hP hD hS ls (lv_sub hl [0, 1, 2, 3, 4] rfl) back
      · refine top_eq (y := nI 11) h9 ?_
        refine lv_tableIn (tgt := 861) hx hb dL_law_60 (by decide) (by decide) rfl (by decide) ?_
        exact lc_length l hL C0 hbA hB hK hV hH (2 + 6 * k) (by omega) σ hh hw n τ ℓ go hR (st_length l hst D cI cJ ab ad ao am sa hB hR (xs (2 + 6 * k + 1)) (xs (2 + 6 * k + 2))) H locs (40 + k) (2000 + 6 * k) (by omega) (by omega) hP hD hS ls (lv_sub hl [0, 1, 2, 3, 4] rfl) back
      · refine top_eq (y := nI 12) h9 ?_
        refine lv_tableIn (tgt := 929) hx hb dL_law_60 (by decide) (by decide) rfl (by decide) ?_
        exact lc_differs l hL C0 hbA hB hK hV hH (2 + 6 * k) (by omega) σ hh hw n τ ℓ go hR (st_differs l hst D cI cJ ab ad ao am sa hB hR (xs (2 + 6 * k + 1))) H locs (40 + k) (2000 + 6 * k) (by omega) (by omega) hP hD hS ls (lv_sub hl [0, 1, 2, 3, 4] rfl) back
      · refine top_eq (y := nI 13) h9 ?_
        refine lv_tableIn (tgt := 984) hx hb dL_law_60 (by decide) (by decide) rfl (by decide) ?_
        exact lc_sum l hL C0 hbA hB hK hV hH (2 + 6 * k) (by omega) σ hh hw n τ ℓ go hR H locs (40 + k) (2000 + 6 * k) (by omega) (by omega) hP hD hS ls (lv_sub hl [0, 1, 2, 3, 4] rfl) back
      · refine lv_tableOut (tgt := 998) hx hb dL_law_60 h9 (by decide) ?_
        refine W.widen (k := 40 + k + 1) (n := 2000 + 6 * k + 6) (by omega) (by omega) ?_
        exact back σ hh hw n τ ℓ go H locs ls hR hP hD hS hl
