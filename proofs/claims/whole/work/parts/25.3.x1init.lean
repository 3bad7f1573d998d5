set_option maxHeartbeats 4000000 in
set_option maxRecDepth 100000 in
theorem k_X1_init (l : Launch) (D : va_G) (cI cJ : ClassId)  (h0 sz : Nat) (x y : Int32) : Met l yX1_init wsX1_init { frames := 2, cells := 11, slots := 906, locals := 60 } (va_Pc [.ref h0, .int x, .int y] (fun U => U.heap.size = sz ∧ va_P D vwCl ([(h0, .inr (1, [.null, .null, .null, .int 0]))]) U.heap ∧ va_K D vwCl (tY cI cJ) U ∧ va_D (fun _ => True) ([(h0, .inr (1, [.null, .null, .null, .int 0]))]))) (va_Qv (fun (u : (Nat → Nat) × (Nat → Nat)) => u.1 0 = h0) (fun u t => va_P D vwCl (wB u.1 u.2 cI cJ (clp x) (clp y) σ0 (fun _ => 0) (fun _ => 0) 0) t.heap ∧ va_D (va_A ([(h0, .inr (1, [.null, .null, .null, .int 0]))]) sz) (wB u.1 u.2 cI cJ (clp x) (clp y) σ0 (fun _ => 0) (fun _ => 0) 0)) (va_A ([(h0, .inr (1, [.null, .null, .null, .int 0]))]) sz)) 11 906 (va_A ([(h0, .inr (1, [.null, .null, .null, .int 0]))]) sz) := by
  refine Met.ofW (cc := cX1_init) (maxL := 3) (ret := none) (by decide) rfl ?_
  intro p e s m args below meth c s₁ B hml hv
  obtain ⟨rfl, hsz, hP, hK, hD0⟩ := hv
  have hx := B.exec
  have hb := B.bytes
  have hr := B.returns
  have hts := atoms_spec (ws := wsX1_init) B.pre
  have hown : s.vm.findClass RX1 = some m.cls := findClass_of_methodNamed B.named
  have hlocks := B.notSynchronized
  have inX0 : ∀ w ∈ wsX00, w ∈ wsX1_init := by decide +kernel
  have inX1 : ∀ w ∈ wsX10, w ∈ wsX1_init := by decide +kernel
  have oi1 := hts (.methodLink RX1 1 objectInit) (by decide +kernel)
  have oi2 := hts (.instanceMethod objectInit) (by decide +kernel)
  have oi3 := hts (.code objectInit ⟨#[0xb1]⟩ 1 none) (by decide +kernel)
  have ac_long := hts (.arrayClass .long) (by decide +kernel)
  have fl9 := hts (.fieldLink RX1 9 "BridgeCells" "jointHeats" "[J") (by decide +kernel)
  have ac_int := hts (.arrayClass .int) (by decide +kernel)
  have fl13 := hts (.fieldLink RX1 13 "BridgeCells" "jointLengths" "[I") (by decide +kernel)
  have fl17 := hts (.fieldLink RX1 17 "BridgeCells" "joints" "I") (by decide +kernel)
  have cl21 := hts (.classLink RX1 21 RX0) (by decide +kernel)
  have ins0 := hts (.instantiable RX0 14) (by decide +kernel)
  have ini0 := hts (.initialized RX0) (by decide +kernel)
  have ml23 := hts (.methodLink RX1 23 Lib.Math.min.name) (by decide +kernel)
  have ms_min0 := hts (.static Lib.Math.min.name) (by decide +kernel)
  have mi := hts (.initialized "java/lang/Math") (by decide +kernel)
  have mc_min0 := hts (.code Lib.Math.min.name Lib.Math.min.code 2 (some .int)) (by decide +kernel)
  have ml29 := hts (.methodLink RX1 29 Lib.Math.max.name) (by decide +kernel)
  have ms_max0 := hts (.static Lib.Math.max.name) (by decide +kernel)
  have mc_max0 := hts (.code Lib.Math.max.name Lib.Math.max.code 2 (some .int)) (by decide +kernel)
  have ml32 := hts (.methodLink RX1 32 yX0_init) (by decide +kernel)
  have im0 := hts (.instanceMethod yX0_init) (by decide +kernel)
  have fl35 := hts (.fieldLink RX1 35 "BridgeCells" "section" "LBridgeCells$Section;") (by decide +kernel)
  have hin : meth.name = "<init>" := (name_of_methodNamed B.named B.method).1
  subst hsz
  have hD := hD0.self (sz := s.heap.size)
  generalize hAe : va_A ([(h0, .inr (1, [.null, .null, .null, .int 0]))]) s.heap.size = A at hD ⊢
  have hA : ∀ q : Nat, s.heap.size ≤ q → A q := fun q h => by rw [← hAe]; exact Or.inr h
  have hS : va_S A s.heap s.heap [] := va_S.rf
  have hl := lv_entry ([.ref h0, .int x, .int y]) (n := 3) (Nat.le_of_ble_eq_true rfl)
  rw [lg_entry_eq]
  generalize (lg_sl ([.ref h0, .int x, .int y]) ++ List.replicate (3 - (lg_sl ([.ref h0, .int x, .int y])).length) Slot.unset).toArray = ls at hl ⊢
  have hl : lv_has ls 3 [(0, .ref h0), (1, .int x), (2, .int y)] := hl
  have hP : va_P D vwCl ([(h0, .inr (1, [.null, .null, .null, .int 0]))]) s.heap := hP
  refine lv_aload_n hx hb dX1_init_0 rfl (lv_at hl 0 rfl) ?_
  refine W.objInit hx hb hown oi1 oi2 oi3 rfl (by rw [hml]; exact hl.1) rfl dX1_init_1 (Nat.le_of_ble_eq_true rfl) (Nat.le_of_ble_eq_true rfl) ?_
  refine W.eq (g2 := F0 m 4 ls []) rfl ?_
  refine lv_aload_n hx hb dX1_init_4 rfl (lv_at hl 0 rfl) ?_
  refine lv_bipush (v := 10) hx hb dX1_init_5 (by decide) ?_
  refine a_newl hx hb ac_long hK hP hD hS hA 10 rfl (by decide) 1 10 (Nat.le_of_ble_eq_true rfl) (Nat.le_of_ble_eq_true rfl) (Nat.le_of_ble_eq_true rfl) (Nat.le_of_ble_eq_true rfl) dX1_init_7 (fun q1 H hP hD hS => ?_)
  have hP : va_P D vwCl ([(h0, .inr (1, [.null, .null, .null, .int 0])), (q1, .inl (cJ, 10, .inr (.inl (fun _ => 0))))]) H := hP
  have hD : va_D A ([(h0, .inr (1, [.null, .null, .null, .int 0])), (q1, .inl (cJ, 10, .inr (.inl (fun _ => 0))))]) := hD
  refine va_putF (D := D) (cl := vwCl) (ci := 1) (v := .ref q1) (ty := (.array .long)) (C := RX1) (T := TX1) (N := 4) hx hb hts inX1 tyX1 tyX1_ok nmX1 hown hK hP hD hS 0 rfl rfl 1 (by decide) fl9 (fun _ h9 => h9) rfl hin rfl (by decide +kernel) rfl rfl (Nat.le_of_ble_eq_true rfl) dX1_init_9 (fun H locs hP _ hS => ?_)
  have hP : va_P D vwCl ([(h0, .inr (1, [.null, .ref q1, .null, .int 0])), (q1, .inl (cJ, 10, .inr (.inl (fun _ => 0))))]) H := hP
  have hD : va_D A ([(h0, .inr (1, [.null, .ref q1, .null, .int 0])), (q1, .inl (cJ, 10, .inr (.inl (fun _ => 0))))]) := aw_fst (by rfl) hD
  refine lv_aload_n hx hb dX1_init_12 rfl (lv_at hl 0 rfl) ?_
  refine lv_bipush (v := 10) hx hb dX1_init_13 (by decide) ?_
  refine a_newi hx hb ac_int hK hP hD hS hA 10 rfl (by decide) 2 20 (Nat.le_of_ble_eq_true rfl) (Nat.le_of_ble_eq_true rfl) (Nat.le_of_ble_eq_true rfl) (Nat.le_of_ble_eq_true rfl) dX1_init_15 (fun q2 H hP hD hS => ?_)
  have hP : va_P D vwCl ([(h0, .inr (1, [.null, .ref q1, .null, .int 0])), (q1, .inl (cJ, 10, .inr (.inl (fun _ => 0)))), (q2, .inl (cI, 10, .inl (fun _ => 0)))]) H := hP
  have hD : va_D A ([(h0, .inr (1, [.null, .ref q1, .null, .int 0])), (q1, .inl (cJ, 10, .inr (.inl (fun _ => 0)))), (q2, .inl (cI, 10, .inl (fun _ => 0)))]) := hD
  refine va_putF (D := D) (cl := vwCl) (ci := 1) (v := .ref q2) (ty := (.array .int)) (C := RX1) (T := TX1) (N := 4) hx hb hts inX1 tyX1 tyX1_ok nmX1 hown hK hP hD hS 0 rfl rfl 2 (by decide) fl13 (fun _ h9 => h9) rfl hin rfl (by decide +kernel) rfl rfl (Nat.le_of_ble_eq_true rfl) dX1_init_17 (fun H locs hP _ hS => ?_)
  have hP : va_P D vwCl ([(h0, .inr (1, [.null, .ref q1, .ref q2, .int 0])), (q1, .inl (cJ, 10, .inr (.inl (fun _ => 0)))), (q2, .inl (cI, 10, .inl (fun _ => 0)))]) H := hP
  have hD : va_D A ([(h0, .inr (1, [.null, .ref q1, .ref q2, .int 0])), (q1, .inl (cJ, 10, .inr (.inl (fun _ => 0)))), (q2, .inl (cI, 10, .inl (fun _ => 0)))]) := aw_fst (by rfl) hD
  refine lv_aload_n hx hb dX1_init_20 rfl (lv_at hl 0 rfl) ?_
  refine lv_iconst (v := 0) hx hb dX1_init_21 (by decide) ?_
  refine va_put (D := D) (cl := vwCl) (ci := 1) (v := .int 0) (ty := .int) (C := RX1) (T := TX1) (N := 4) hx hb hts inX1 tyX1 tyX1_ok nmX1 hown hK hP hD hS 0 rfl rfl 3 (by decide) fl17 (fun _ h9 => h9) rfl (by decide +kernel) rfl rfl (Nat.le_of_ble_eq_true rfl) dX1_init_22 (fun H locs hP _ hS => ?_)
  have hP : va_P D vwCl ([(h0, .inr (1, [.null, .ref q1, .ref q2, .int 0])), (q1, .inl (cJ, 10, .inr (.inl (fun _ => 0)))), (q2, .inl (cI, 10, .inl (fun _ => 0)))]) H := hP
  have hD : va_D A ([(h0, .inr (1, [.null, .ref q1, .ref q2, .int 0])), (q1, .inl (cJ, 10, .inr (.inl (fun _ => 0)))), (q2, .inl (cI, 10, .inl (fun _ => 0)))]) := aw_fst (by rfl) hD
  refine lv_aload_n hx hb dX1_init_25 rfl (lv_at hl 0 rfl) ?_
  refine va_new (ci := 0) (fs := [.int 0, .int 0, .int 0, .null, .null, .null, .null, .null, .null, .null, .null, .int 0, .int 0, .int 0]) (C := RX0) (T := TX0) (N := 14) hx hb hts inX0 tyX0 tyX0_ok hown cl21 ins0 ini0 hK hP hD hS hA rfl (by decide +kernel) (Nat.le_of_ble_eq_true rfl) (Nat.le_of_ble_eq_true rfl) dX1_init_26 (fun q3 H hP hD hS => ?_)
  refine W.widen (k := 3) (n := 34) (Nat.le_of_ble_eq_true rfl) (Nat.le_of_ble_eq_true rfl) ?_
  have hP : va_P D vwCl ([(h0, .inr (1, [.null, .ref q1, .ref q2, .int 0])), (q1, .inl (cJ, 10, .inr (.inl (fun _ => 0)))), (q2, .inl (cI, 10, .inl (fun _ => 0))), (q3, .inr (0, [.int 0, .int 0, .int 0, .null, .null, .null, .null, .null, .null, .null, .null, .int 0, .int 0, .int 0]))]) H := hP
  have hD : va_D A ([(h0, .inr (1, [.null, .ref q1, .ref q2, .int 0])), (q1, .inl (cJ, 10, .inr (.inl (fun _ => 0)))), (q2, .inl (cI, 10, .inl (fun _ => 0))), (q3, .inr (0, [.int 0, .int 0, .int 0, .null, .null, .null, .null, .null, .null, .null, .null, .int 0, .int 0, .int 0]))]) := hD
  refine lv_dup hx hb dX1_init_29 rfl ?_
  refine lv_iconst (v := 1) hx hb dX1_init_30 (by decide) ?_
  refine lv_bipush (v := 10) hx hb dX1_init_31 (by decide) ?_
  refine lv_iload_n hx hb dX1_init_33 rfl (lv_at hl 1 rfl) ?_
  refine va_mmin hx hb (by rw [hml]; exact hl.1.symm) hown ml23 ms_min0 mi mc_min0 (Nat.le_of_ble_eq_true rfl) (Nat.le_of_ble_eq_true rfl) (Nat.le_of_ble_eq_true rfl) (Nat.le_of_ble_eq_true rfl) dX1_init_34 ?_
  refine va_mmax hx hb (by rw [hml]; exact hl.1.symm) hown ml29 ms_max0 mi mc_max0 (Nat.le_of_ble_eq_true rfl) (Nat.le_of_ble_eq_true rfl) (Nat.le_of_ble_eq_true rfl) (Nat.le_of_ble_eq_true rfl) dX1_init_37 ?_
  refine top_eq (y := nI (clp x)) (clp_c x) ?_
  refine lv_iconst (v := 1) hx hb dX1_init_40 (by decide) ?_
  refine lv_bipush (v := 10) hx hb dX1_init_41 (by decide) ?_
  refine lv_iload_n hx hb dX1_init_43 rfl (lv_at hl 2 rfl) ?_
  refine va_mmin hx hb (by rw [hml]; exact hl.1.symm) hown ml23 ms_min0 mi mc_min0 (Nat.le_of_ble_eq_true rfl) (Nat.le_of_ble_eq_true rfl) (Nat.le_of_ble_eq_true rfl) (Nat.le_of_ble_eq_true rfl) dX1_init_44 ?_
  refine va_mmax hx hb (by rw [hml]; exact hl.1.symm) hown ml29 ms_max0 mi mc_max0 (Nat.le_of_ble_eq_true rfl) (Nat.le_of_ble_eq_true rfl) (Nat.le_of_ble_eq_true rfl) (Nat.le_of_ble_eq_true rfl) dX1_init_47 ?_
  refine top_eq (y := nI (clp y)) (clp_c y) ?_
  have hPc := hP.sub (ws' := [(q3, .inr (0, [.int 0, .int 0, .int 0, .null, .null, .null, .null, .null, .null, .null, .null, .int 0, .int 0, .int 0]))]) [3] rfl
  have hDc := hD.sub (ws' := [(q3, .inr (0, [.int 0, .int 0, .int 0, .null, .null, .null, .null, .null, .null, .null, .null, .int 0, .int 0, .int 0]))]) [3] (by decide) rfl
  have hFc := va_free (wc := [(q3, .inr (0, [.int 0, .int 0, .int 0, .null, .null, .null, .null, .null, .null, .null, .null, .int 0, .int 0, .int 0]))]) hD hS hA [3] rfl
  refine va_callv (va_runI (As := [.int (nI (clp x)), .int (nI (clp y))]) (rest := [.ref q3, .ref h0]) ⟨hx, hb, hml, hown, hts⟩ (k_X0_init l D cI cJ (clp x) (clp y) q3 H.size ⟨(clp_b x).1, (clp_b x).2, (clp_b y).1, (clp_b y).2⟩) (cwI 2 hts gX1_init_X0_init rfl rfl rfl ini0 ml32 im0 rfl (by decide +kernel) ⟨Nat.le_of_ble_eq_true rfl, Nat.le_of_ble_eq_true rfl⟩) ⟨fun a U g mk q => by obtain ⟨q0, q1, qP, qK, qD⟩ := q; exact ⟨q0, q1, qP, va_K.moved (u := U) (U := U.calling g mk a) (Vm.Alike.refl U.vm) qK, qD⟩, fun U hU hW => ⟨rfl, by rw [hU], by rw [hU]; exact hPc, va_K.moved hW.alike hK, hDc.weaken (fun _ _ _ _ => trivial)⟩⟩ rfl rfl hl.1 rfl (lv_room (Nat.le_of_ble_eq_true rfl)) dX1_init_50 ⟨Nat.le_of_ble_eq_true rfl, Nat.le_of_ble_eq_true rfl⟩) hS (fun q _ h => hFc q h) hFc (fun ad t H1 locs ht hvm hw hB9 hz1 hk1 hS => ?_)
  refine W.widen (k := 11) (n := 906) (Nat.le_of_ble_eq_true rfl) (Nat.le_of_ble_eq_true rfl) ?_
  obtain ⟨hP1, hD1⟩ := hB9
  rw [ht] at hP1
  have hw : ad 8 = q3 := hw
  subst hw
  obtain ⟨hP, hD⟩ := va_join (wr := [(h0, .inr (1, [.null, .ref q1, .ref q2, .int 0])), (q1, .inl (cJ, 10, .inr (.inl (fun _ => 0)))), (q2, .inl (cI, 10, .inl (fun _ => 0)))]) (w1 := wS ad cI (clp x) (clp y) σ0) hP hD [3] [0, 1, 2] rfl rfl (by decide) (by decide) hk1 hFc hP1 hD1
  generalize H1 = H at hP hS ⊢
  refine va_putF (D := D) (cl := vwCl) (ci := 1) (v := .ref (ad 8)) (ty := (.object "BridgeCells$Section")) (C := RX1) (T := TX1) (N := 4) hx hb hts inX1 tyX1 tyX1_ok nmX1 hown hK hP hD hS 0 rfl rfl 0 (by decide) fl35 (fun _ h9 => h9) rfl hin rfl (by decide +kernel) rfl rfl (Nat.le_of_ble_eq_true rfl) dX1_init_53 (fun H locs hP _ hS => ?_)
  have hP : va_P D vwCl ([(h0, .inr (1, [.ref (ad 8), .ref q1, .ref q2, .int 0])), (q1, .inl (cJ, 10, .inr (.inl (fun _ => 0)))), (q2, .inl (cI, 10, .inl (fun _ => 0)))] ++ wS ad cI (clp x) (clp y) σ0) H := hP
  have hD : va_D A ([(h0, .inr (1, [.ref (ad 8), .ref q1, .ref q2, .int 0])), (q1, .inl (cJ, 10, .inr (.inl (fun _ => 0)))), (q2, .inl (cI, 10, .inl (fun _ => 0)))] ++ wS ad cI (clp x) (clp y) σ0) := aw_fst (by rfl) hD
  have hP9 : va_P D vwCl (wB (lk9 [h0, q1, q2], ad).1 (lk9 [h0, q1, q2], ad).2 cI cJ (clp x) (clp y) σ0 (fun _ => 0) (fun _ => 0) 0) H := hP
  have hD9 : va_D A (wB (lk9 [h0, q1, q2], ad).1 (lk9 [h0, q1, q2], ad).2 cI cJ (clp x) (clp y) σ0 (fun _ => 0) (fun _ => 0) 0) := hD
  exact W.vret hx hb hr (fun t ht hW => ⟨⟨(lk9 [h0, q1, q2], ad), rfl, rfl, by rw [ht]; exact hP9, hD9⟩, hS.F ht⟩) hS.2.2 dX1_init_56
