theorem RI_init (x y : Int32) : RI (clp x) (clp y) σ0 (fun _ => 0) (fun _ => 0) 0 σ0 ℓ0 := by
  have r1 : rng (0 : Int32) 0 20 := by unfold rng; decide
  have r2 : rng (0 : Int32) (-10000) 10000 := by unfold rng; decide
  refine ⟨⟨fun i j _ _ => ⟨rfl, r1⟩, fun k _ _ => rfl, fun sd _ => ⟨rfl, rfl, r2, r1⟩, fun sd k _ _ => ⟨rfl, rfl⟩⟩, Or.inl ⟨rfl, rfl⟩, rfl, rfl, 0, by decide, rfl, rfl⟩
set_option maxHeartbeats 4000000 in
set_option maxRecDepth 100000 in
theorem whole_start {p : Program} {e : Env} {s : State} {m : MethodId} {below : List Frame} {meth : Method} {c : Code} (l : Launch) (hst : l.stackTraces = false) {b L : Nat} {xs : Nat → Int32} (hL : L ≤ 3074) (C0 : lw_At p s m meth c b L xs) : W p l e room_1 s m #[Value.ref b] below meth c s.heap [] 0 0 (lw_Z below #[Value.ref b] s) (entryFrame m ([Value.ref b] : List Value).toArray 8) := by
  have C1 := C0
  obtain ⟨hx, hb, hr, hml, hown, hts, hX, hbl, hlocks, hgv⟩ := C1
  have hb : c.code = cL_law := hb
  have hown : s.vm.findClass RL = some m.cls := hown
  have htl : ∀ w ∈ wsL_law, w.before #[Value.ref b] s = true := fun w h => hts w (wsL_law_in w h)
  obtain ⟨sa, hV⟩ := ThV_start hts hgv
  have hH : ThH (fun q : Nat => s.heap.size ≤ q) s s.heap := ThH_start hts hgv (fun a h h2 => by omega)
  have hA : ∀ q : Nat, s.heap.size ≤ q → (fun q : Nat => s.heap.size ≤ q) q := fun _ h => h
  have hbA : ¬ (fun q : Nat => s.heap.size ≤ q) b := Nat.not_le.mpr hbl
  obtain ⟨c0, iS0, hKn0⟩ := u_known (C := RX0) (T := TX0) (N := 14) (n := 14) hts inX0 (hts (.instantiable RX0 14) (by decide +kernel))
  obtain ⟨c1, iS1, hKn1⟩ := u_known (C := RX1) (T := TX1) (N := 4) (n := 4) hts inX1 (hts (.instantiable RX1 4) (by decide +kernel))
  obtain ⟨c2, iS2, hKn2⟩ := u_known (C := RX2) (T := TX2) (N := 15) (n := 15) hts inX2 (hts (.instantiable RX2 15) (by decide +kernel))
  obtain ⟨D, hKc⟩ : ∃ (D : va_G), ∀ (k : Nat) (q : vw_C), vwCl[k]? = some q → u_Kn s q.1 q.2.1 q.2.2 (D.1 k) (D.2 k) := by
    refine ⟨(fun k => if k = 0 then c0 else if k = 1 then c1 else c2, fun k => if k = 0 then iS0 else if k = 1 then iS1 else iS2), ?_⟩
    intro k q hq
    match k, hq with
    | 0, hq => cases hq; exact hKn0
    | 1, hq => cases hq; exact hKn1
    | 2, hq => cases hq; exact hKn2
    | k + 3, hq => simp [vwCl] at hq
  have hS : va_S (fun q : Nat => s.heap.size ≤ q) s.heap s.heap [] := va_S.rf
  have hK0 : va_K D vwCl [] s := ⟨hKc, fun k q h => by simp at h⟩
  obtain ⟨cI, cJ, hK⟩ := arr_K hK0 (htl (.arrayClass .int) (by decide +kernel)) (htl (.arrayClass .long) (by decide +kernel))
  have hP : va_P D vwCl [] s.heap := P_nil
  have hD : va_D (fun q : Nat => s.heap.size ≤ q) [] := ⟨fun i j p q h => by simp at h, fun k q h => by simp at h⟩
  generalize hAe : (fun q : Nat => s.heap.size ≤ q) = A at hH hA hbA hS hD
  have hAr : ∀ q, A q → s.heap.size ≤ q := fun q h => by rw [← hAe] at h; exact h
  have hl := lv_entry ([.ref b]) (n := 8) (Nat.le_of_ble_eq_true rfl)
  rw [lg_entry_eq]
  generalize (lg_sl ([.ref b]) ++ List.replicate (8 - (lg_sl ([.ref b])).length) Slot.unset).toArray = ls at hl ⊢
  have hl : lv_has ls 8 [(0, .ref b)] := hl
  refine va_new (ci := 1) (fs := [.null, .null, .null, .int 0]) (C := RX1) (T := TX1) (N := 4) hx hb htl inlX1 tyX1 tyX1_ok hown (htl (.classLink RL 8 RX1) (by decide +kernel)) (htl (.instantiable RX1 4) (by decide +kernel)) (htl (.initialized RX1) (by decide +kernel)) hK hP hD hS hA rfl (by decide +kernel) (Nat.le_of_ble_eq_true rfl) (Nat.le_of_ble_eq_true rfl) dL_law_0 (fun q1 H hP hD hS => ?_)
  refine W.widen (k := 1) (n := 4) (Nat.le_of_ble_eq_true rfl) (Nat.le_of_ble_eq_true rfl) ?_
  have hP : va_P D vwCl [(q1, .inr (1, [.null, .null, .null, .int 0]))] H := hP
  have hD : va_D A [(q1, .inr (1, [.null, .null, .null, .int 0]))] := hD
  refine lv_dup hx hb dL_law_3 rfl ?_
  refine lv_aload_n hx hb dL_law_4 rfl (lv_at hl 0 rfl) ?_
  refine lv_iconst (v := 0) hx hb dL_law_5 (by decide) ?_
  refine c_S ⟨hx, hb, hml, hown, htl⟩ hL 0 (by decide) rfl (va_cwS 2 htl gL_law_L_cell rfl rfl rfl (by decide +kernel) ⟨Nat.le_of_ble_eq_true rfl, Nat.le_of_ble_eq_true rfl⟩) hX hbl hbA hS hl.1 (Nat.le_of_ble_eq_true rfl) dL_law_6 (Nat.le_of_ble_eq_true rfl) (Nat.le_of_ble_eq_true rfl) ?_
  refine lv_aload_n hx hb dL_law_9 rfl (lv_at hl 0 rfl) ?_
  refine lv_iconst (v := 1) hx hb dL_law_10 (by decide) ?_
  refine c_S ⟨hx, hb, hml, hown, htl⟩ hL 1 (by decide) rfl (va_cwS 2 htl gL_law_L_cell rfl rfl rfl (by decide +kernel) ⟨Nat.le_of_ble_eq_true rfl, Nat.le_of_ble_eq_true rfl⟩) hX hbl hbA hS hl.1 (Nat.le_of_ble_eq_true rfl) dL_law_11 (Nat.le_of_ble_eq_true rfl) (Nat.le_of_ble_eq_true rfl) ?_
  obtain ⟨x0, ex0⟩ : ∃ z, z = xcell L xs 0 := ⟨_, rfl⟩
  obtain ⟨y0, ey0⟩ : ∃ z, z = xcell L xs 1 := ⟨_, rfl⟩
  rw [← ex0, ← ey0]
  have hPc := hP.sub (ws' := [(q1, .inr (1, [.null, .null, .null, .int 0]))]) [0] rfl
  have hDc := hD.sub (ws' := [(q1, .inr (1, [.null, .null, .null, .int 0]))]) [0] (by decide) rfl
  have hFc := va_free (wc := [(q1, .inr (1, [.null, .null, .null, .int 0]))]) hD hS hA [0] rfl
  refine va_callv (va_runI (As := [.int x0, .int y0]) (rest := [.ref q1]) ⟨hx, hb, hml, hown, htl⟩ (k_X1_init l D cI cJ q1 H.size x0 y0) (cwI 2 htl gL_law_X1_init rfl rfl rfl (htl (.initialized RX1) (by decide +kernel)) (htl (.methodLink RL 65 yX1_init) (by decide +kernel)) (htl (.instanceMethod yX1_init) (by decide +kernel)) rfl (by decide +kernel) ⟨Nat.le_of_ble_eq_true rfl, Nat.le_of_ble_eq_true rfl⟩) ⟨fun a U g mk q => by obtain ⟨q0, q1, qP, qK, qD⟩ := q; exact ⟨q0, q1, qP, va_K.moved (u := U) (U := U.calling g mk a) (Vm.Alike.refl U.vm) qK, qD⟩, fun U hU hW => ⟨rfl, by rw [hU], by rw [hU]; exact hPc, va_K.moved hW.alike hK, hDc.weaken (fun _ _ _ _ => trivial)⟩⟩ rfl rfl hl.1 rfl (lv_room (Nat.le_of_ble_eq_true rfl)) dL_law_14 ⟨Nat.le_of_ble_eq_true rfl, Nat.le_of_ble_eq_true rfl⟩) hS (fun q _ h => hFc q h) hFc (fun u t H1 locs ht hvm hw hB9 hz1 hk1 hS => ?_)
  refine W.widen (k := 12) (n := 910) (Nat.le_of_ble_eq_true rfl) (Nat.le_of_ble_eq_true rfl) ?_
  obtain ⟨ab, ad⟩ := u
  obtain ⟨hP1, hD1⟩ := hB9
  rw [ht] at hP1
  have hw : ab 0 = q1 := hw
  subst hw
  obtain ⟨hP, hD⟩ := va_join (wr := []) (w1 := wB ab ad cI cJ (clp x0) (clp y0) σ0 (fun _ => 0) (fun _ => 0) 0) hP hD [0] [] rfl rfl (by decide) (by decide) hk1 hFc hP1 hD1
  generalize H1 = H at hP hS ⊢
  have hP : va_P D vwCl (wB ab ad cI cJ (clp x0) (clp y0) σ0 (fun _ => 0) (fun _ => 0) 0) H := hP
  have hD : va_D A (wB ab ad cI cJ (clp x0) (clp y0) σ0 (fun _ => 0) (fun _ => 0) 0) := hD
  refine lv_astore_n (lv' := [(1, .ref (ab 0)), (0, .ref b)]) hx hb dL_law_17 rfl hl (by decide) rfl (fun ls hl => ?_)
  refine va_new (ci := 2) (fs := [.int 0, .int 0, .int 0, .null, .null, .null, .null, .int 0, .int 0, .int 0, .long 0, .long 0, .int 0, .null, .null]) (C := RX2) (T := TX2) (N := 15) hx hb htl inlX2 tyX2 tyX2_ok hown (htl (.classLink RL 68 RX2) (by decide +kernel)) (htl (.instantiable RX2 15) (by decide +kernel)) (htl (.initialized RX2) (by decide +kernel)) hK hP hD hS hA rfl (by decide +kernel) (Nat.le_of_ble_eq_true rfl) (Nat.le_of_ble_eq_true rfl) dL_law_18 (fun q2 H hP hD hS => ?_)
  refine W.widen (k := 13) (n := 925) (Nat.le_of_ble_eq_true rfl) (Nat.le_of_ble_eq_true rfl) ?_
  refine lv_dup hx hb dL_law_21 rfl ?_
  refine lv_aload_n hx hb dL_law_22 rfl (lv_at hl 1 rfl) ?_
  refine lv_iconst (v := 0) hx hb dL_law_23 (by decide) ?_
  refine c_S ⟨hx, hb, hml, hown, htl⟩ hL 0 (by decide) rfl (va_cwS 2 htl gL_law_L_cell rfl rfl rfl (by decide +kernel) ⟨Nat.le_of_ble_eq_true rfl, Nat.le_of_ble_eq_true rfl⟩) hX hbl hbA hS hl.1 (Nat.le_of_ble_eq_true rfl) dL_law_24 (Nat.le_of_ble_eq_true rfl) (Nat.le_of_ble_eq_true rfl) ?_
  refine lv_aload_n hx hb dL_law_27 rfl (lv_at hl 1 rfl) ?_
  refine lv_iconst (v := 1) hx hb dL_law_28 (by decide) ?_
  refine c_S ⟨hx, hb, hml, hown, htl⟩ hL 1 (by decide) rfl (va_cwS 2 htl gL_law_L_cell rfl rfl rfl (by decide +kernel) ⟨Nat.le_of_ble_eq_true rfl, Nat.le_of_ble_eq_true rfl⟩) hX hbl hbA hS hl.1 (Nat.le_of_ble_eq_true rfl) dL_law_29 (Nat.le_of_ble_eq_true rfl) (Nat.le_of_ble_eq_true rfl) ?_
  rw [← ex0, ← ey0]
  have hPc := hP.sub (ws' := [(q2, .inr (2, [.int 0, .int 0, .int 0, .null, .null, .null, .null, .int 0, .int 0, .int 0, .long 0, .long 0, .int 0, .null, .null]))]) [12] rfl
  have hDc := hD.sub (ws' := [(q2, .inr (2, [.int 0, .int 0, .int 0, .null, .null, .null, .null, .int 0, .int 0, .int 0, .long 0, .long 0, .int 0, .null, .null]))]) [12] (by decide) rfl
  have hFc := va_free (wc := [(q2, .inr (2, [.int 0, .int 0, .int 0, .null, .null, .null, .null, .int 0, .int 0, .int 0, .long 0, .long 0, .int 0, .null, .null]))]) hD hS hA [12] rfl
  refine va_callv (va_runI (As := [.int x0, .int y0]) (rest := [.ref q2]) ⟨hx, hb, hml, hown, htl⟩ (k_X2_init l D cI cJ q2 H.size x0 y0) (cwI 2 htl gL_law_X2_init rfl rfl rfl (htl (.initialized RX2) (by decide +kernel)) (htl (.methodLink RL 70 yX2_init) (by decide +kernel)) (htl (.instanceMethod yX2_init) (by decide +kernel)) rfl (by decide +kernel) ⟨Nat.le_of_ble_eq_true rfl, Nat.le_of_ble_eq_true rfl⟩) ⟨fun a U g mk q => by obtain ⟨q0, q1, qP, qK, qD⟩ := q; exact ⟨q0, q1, qP, va_K.moved (u := U) (U := U.calling g mk a) (Vm.Alike.refl U.vm) qK, qD⟩, fun U hU hW => ⟨rfl, by rw [hU], by rw [hU]; exact hPc, va_K.moved hW.alike hK, hDc.weaken (fun _ _ _ _ => trivial)⟩⟩ rfl rfl hl.1 rfl (lv_room (Nat.le_of_ble_eq_true rfl)) dL_law_32 ⟨Nat.le_of_ble_eq_true rfl, Nat.le_of_ble_eq_true rfl⟩) hS (fun q _ h => hFc q h) hFc (fun am t H1 locs ht hvm hw hB9 hz1 hk1 hS => ?_)
  refine W.widen (k := 19) (n := 1153) (Nat.le_of_ble_eq_true rfl) (Nat.le_of_ble_eq_true rfl) ?_
  obtain ⟨hP1, hD1⟩ := hB9
  rw [ht] at hP1
  have hw : am 6 = q2 := hw
  subst hw
  obtain ⟨hP, hD⟩ := va_join (wr := wB ab ad cI cJ (clp x0) (clp y0) σ0 (fun _ => 0) (fun _ => 0) 0) (w1 := wM am cI cJ (clp x0) (clp y0) σ0 ℓ0) hP hD [12] [0, 1, 2, 3, 4, 5, 6, 7, 8, 9, 10, 11] rfl rfl (by decide) (by decide) hk1 hFc hP1 hD1
  generalize H1 = H at hP hS ⊢
  refine lv_astore_n (lv' := [(2, .ref (am 6)), (1, .ref (ab 0)), (0, .ref b)]) hx hb dL_law_35 rfl hl (by decide) rfl (fun ls hl => ?_)
  refine lv_iconst (v := 1) hx hb dL_law_36 (by decide) ?_
  refine a_newl hx hb (htl (.arrayClass .long) (by decide +kernel)) hK hP hD hS hA 1 rfl (by decide) 20 1154 (Nat.le_of_ble_eq_true rfl) (Nat.le_of_ble_eq_true rfl) (Nat.le_of_ble_eq_true rfl) (Nat.le_of_ble_eq_true rfl) dL_law_37 (fun ao H hP hD hS => ?_)
  refine lv_astore_n (lv' := [(3, .ref ao), (2, .ref (am 6)), (1, .ref (ab 0)), (0, .ref b)]) hx hb dL_law_39 rfl hl (by decide) rfl (fun ls hl => ?_)
  refine lv_iconst (v := nI 2) hx hb dL_law_40 (by decide) ?_
  refine lv_istore (lv' := [(4, .int (nI 2)), (3, .ref ao), (2, .ref (am 6)), (1, .ref (ab 0)), (0, .ref b)]) hx hb dL_law_41 hl (by decide) rfl (fun ls hl => ?_)
  refine W.widen (k := 40 + 0) (n := 2000 + 6 * 0) (Nat.le_of_ble_eq_true rfl) (Nat.le_of_ble_eq_true rfl) ?_
  have hP : va_P D vwCl (wL ab ad ao cI cJ (clp x0) (clp y0) σ0 (fun _ => 0) (fun _ => 0) 0 (fun _ => 0) ++ (wM am cI cJ (clp x0) (clp y0) σ0 ℓ0 ++ [])) H := hP.sub [0, 1, 2, 3, 4, 5, 6, 7, 8, 9, 10, 11, 19, 12, 13, 14, 15, 16, 17, 18] rfl
  have hD : va_D A (wL ab ad ao cI cJ (clp x0) (clp y0) σ0 (fun _ => 0) (fun _ => 0) 0 (fun _ => 0) ++ (wM am cI cJ (clp x0) (clp y0) σ0 ℓ0 ++ [])) := hD.sub [0, 1, 2, 3, 4, 5, 6, 7, 8, 9, 10, 11, 19, 12, 13, 14, 15, 16, 17, 18] (by decide) rfl
  exact law_loop l hL C0 hbA ⟨(clp_b x0).1, (clp_b x0).2, (clp_b y0).1, (clp_b y0).2⟩ hK hV hH hst hAr 520 0 (by omega) σ0 (fun _ => 0) (fun _ => 0) 0 σ0 ℓ0 (fun _ => 0) (RI_init _ _) H locs hP hD hS ls (lv_sub hl [3, 2, 1, 0, 4] rfl) (by decide)
