set_option maxHeartbeats 4000000 in
set_option maxRecDepth 100000 in
theorem k_X2_init (l : Launch) (D : va_G) (cI cJ : ClassId)  (h0 sz : Nat) (x y : Int32) : Met l yX2_init wsX2_init { frames := 1, cells := 6, slots := 228, locals := 20 } (va_Pc [.ref h0, .int x, .int y] (fun U => U.heap.size = sz ∧ va_P D vwCl ([(h0, .inr (2, [.int 0, .int 0, .int 0, .null, .null, .null, .null, .int 0, .int 0, .int 0, .long 0, .long 0, .int 0, .null, .null]))]) U.heap ∧ va_K D vwCl (tY cI cJ) U ∧ va_D (fun _ => True) ([(h0, .inr (2, [.int 0, .int 0, .int 0, .null, .null, .null, .null, .int 0, .int 0, .int 0, .long 0, .long 0, .int 0, .null, .null]))]))) (va_Qv (fun (u : Nat → Nat) => u 6 = h0) (fun u t => va_P D vwCl (wM u cI cJ (clp x) (clp y) σ0 ℓ0) t.heap ∧ va_D (va_A ([(h0, .inr (2, [.int 0, .int 0, .int 0, .null, .null, .null, .null, .int 0, .int 0, .int 0, .long 0, .long 0, .int 0, .null, .null]))]) sz) (wM u cI cJ (clp x) (clp y) σ0 ℓ0)) (va_A ([(h0, .inr (2, [.int 0, .int 0, .int 0, .null, .null, .null, .null, .int 0, .int 0, .int 0, .long 0, .long 0, .int 0, .null, .null]))]) sz)) 6 228 (va_A ([(h0, .inr (2, [.int 0, .int 0, .int 0, .null, .null, .null, .null, .int 0, .int 0, .int 0, .long 0, .long 0, .int 0, .null, .null]))]) sz) := by
  refine Met.ofW (cc := cX2_init) (maxL := 3) (ret := none) (by decide) rfl ?_
  intro p e s m args below meth c s₁ B hml hv
  obtain ⟨rfl, hsz, hP, hK, hD0⟩ := hv
  have hx := B.exec
  have hb := B.bytes
  have hr := B.returns
  have hts := atoms_spec (ws := wsX2_init) B.pre
  have hown : s.vm.findClass RX2 = some m.cls := findClass_of_methodNamed B.named
  have hlocks := B.notSynchronized
  have inX2 : ∀ w ∈ wsX20, w ∈ wsX2_init := by decide +kernel
  have oi1 := hts (.methodLink RX2 1 objectInit) (by decide +kernel)
  have oi2 := hts (.instanceMethod objectInit) (by decide +kernel)
  have oi3 := hts (.code objectInit ⟨#[0xb1]⟩ 1 none) (by decide +kernel)
  have ac_int := hts (.arrayClass .int) (by decide +kernel)
  have fl7 := hts (.fieldLink RX2 7 "BridgeCellsModel" "leads" "[I") (by decide +kernel)
  have fl13 := hts (.fieldLink RX2 13 "BridgeCellsModel" "warm" "[I") (by decide +kernel)
  have fl16 := hts (.fieldLink RX2 16 "BridgeCellsModel" "sideWarm" "[I") (by decide +kernel)
  have fl19 := hts (.fieldLink RX2 19 "BridgeCellsModel" "film" "[I") (by decide +kernel)
  have ac_long := hts (.arrayClass .long) (by decide +kernel)
  have fl22 := hts (.fieldLink RX2 22 "BridgeCellsModel" "heats" "[J") (by decide +kernel)
  have fl26 := hts (.fieldLink RX2 26 "BridgeCellsModel" "lengths" "[I") (by decide +kernel)
  have fl29 := hts (.fieldLink RX2 29 "BridgeCellsModel" "wide" "I") (by decide +kernel)
  have fl33 := hts (.fieldLink RX2 33 "BridgeCellsModel" "high" "I") (by decide +kernel)
  have hin : meth.name = "<init>" := (name_of_methodNamed B.named B.method).1
  subst hsz
  have hD := hD0.self (sz := s.heap.size)
  generalize hAe : va_A ([(h0, .inr (2, [.int 0, .int 0, .int 0, .null, .null, .null, .null, .int 0, .int 0, .int 0, .long 0, .long 0, .int 0, .null, .null]))]) s.heap.size = A at hD ⊢
  have hA : ∀ q : Nat, s.heap.size ≤ q → A q := fun q h => by rw [← hAe]; exact Or.inr h
  have hS : va_S A s.heap s.heap [] := va_S.rf
  have hl := lv_entry ([.ref h0, .int x, .int y]) (n := 3) (Nat.le_of_ble_eq_true rfl)
  rw [lg_entry_eq]
  generalize (lg_sl ([.ref h0, .int x, .int y]) ++ List.replicate (3 - (lg_sl ([.ref h0, .int x, .int y])).length) Slot.unset).toArray = ls at hl ⊢
  have hl : lv_has ls 3 [(0, .ref h0), (1, .int x), (2, .int y)] := hl
  have hP : va_P D vwCl ([(h0, .inr (2, [.int 0, .int 0, .int 0, .null, .null, .null, .null, .int 0, .int 0, .int 0, .long 0, .long 0, .int 0, .null, .null]))]) s.heap := hP
  refine lv_aload_n hx hb dX2_init_0 rfl (lv_at hl 0 rfl) ?_
  refine W.objInit hx hb hown oi1 oi2 oi3 rfl (by rw [hml]; exact hl.1) rfl dX2_init_1 (Nat.le_of_ble_eq_true rfl) (Nat.le_of_ble_eq_true rfl) ?_
  refine W.eq (g2 := F0 m 4 ls []) rfl ?_
  refine lv_aload_n hx hb dX2_init_4 rfl (lv_at hl 0 rfl) ?_
  refine lv_bipush (v := 100) hx hb dX2_init_5 (by decide) ?_
  refine a_newi hx hb ac_int hK hP hD hS hA 100 rfl (by decide) 1 100 (Nat.le_of_ble_eq_true rfl) (Nat.le_of_ble_eq_true rfl) (Nat.le_of_ble_eq_true rfl) (Nat.le_of_ble_eq_true rfl) dX2_init_7 (fun q1 H hP hD hS => ?_)
  have hP : va_P D vwCl ([(h0, .inr (2, [.int 0, .int 0, .int 0, .null, .null, .null, .null, .int 0, .int 0, .int 0, .long 0, .long 0, .int 0, .null, .null])), (q1, .inl (cI, 100, .inl (fun _ => 0)))]) H := hP
  have hD : va_D A ([(h0, .inr (2, [.int 0, .int 0, .int 0, .null, .null, .null, .null, .int 0, .int 0, .int 0, .long 0, .long 0, .int 0, .null, .null])), (q1, .inl (cI, 100, .inl (fun _ => 0)))]) := hD
  refine va_putF (D := D) (cl := vwCl) (ci := 2) (v := .ref q1) (ty := (.array .int)) (C := RX2) (T := TX2) (N := 15) hx hb hts inX2 tyX2 tyX2_ok nmX2 hown hK hP hD hS 0 rfl rfl 3 (by decide) fl7 (fun _ h9 => h9) rfl hin rfl (by decide +kernel) rfl rfl (Nat.le_of_ble_eq_true rfl) dX2_init_9 (fun H locs hP _ hS => ?_)
  have hP : va_P D vwCl ([(h0, .inr (2, [.int 0, .int 0, .int 0, .ref q1, .null, .null, .null, .int 0, .int 0, .int 0, .long 0, .long 0, .int 0, .null, .null])), (q1, .inl (cI, 100, .inl (fun _ => 0)))]) H := hP
  have hD : va_D A ([(h0, .inr (2, [.int 0, .int 0, .int 0, .ref q1, .null, .null, .null, .int 0, .int 0, .int 0, .long 0, .long 0, .int 0, .null, .null])), (q1, .inl (cI, 100, .inl (fun _ => 0)))]) := aw_fst (by rfl) hD
  refine lv_aload_n hx hb dX2_init_12 rfl (lv_at hl 0 rfl) ?_
  refine lv_bipush (v := 100) hx hb dX2_init_13 (by decide) ?_
  refine a_newi hx hb ac_int hK hP hD hS hA 100 rfl (by decide) 2 200 (Nat.le_of_ble_eq_true rfl) (Nat.le_of_ble_eq_true rfl) (Nat.le_of_ble_eq_true rfl) (Nat.le_of_ble_eq_true rfl) dX2_init_15 (fun q2 H hP hD hS => ?_)
  have hP : va_P D vwCl ([(h0, .inr (2, [.int 0, .int 0, .int 0, .ref q1, .null, .null, .null, .int 0, .int 0, .int 0, .long 0, .long 0, .int 0, .null, .null])), (q1, .inl (cI, 100, .inl (fun _ => 0))), (q2, .inl (cI, 100, .inl (fun _ => 0)))]) H := hP
  have hD : va_D A ([(h0, .inr (2, [.int 0, .int 0, .int 0, .ref q1, .null, .null, .null, .int 0, .int 0, .int 0, .long 0, .long 0, .int 0, .null, .null])), (q1, .inl (cI, 100, .inl (fun _ => 0))), (q2, .inl (cI, 100, .inl (fun _ => 0)))]) := hD
  refine va_putF (D := D) (cl := vwCl) (ci := 2) (v := .ref q2) (ty := (.array .int)) (C := RX2) (T := TX2) (N := 15) hx hb hts inX2 tyX2 tyX2_ok nmX2 hown hK hP hD hS 0 rfl rfl 4 (by decide) fl13 (fun _ h9 => h9) rfl hin rfl (by decide +kernel) rfl rfl (Nat.le_of_ble_eq_true rfl) dX2_init_17 (fun H locs hP _ hS => ?_)
  have hP : va_P D vwCl ([(h0, .inr (2, [.int 0, .int 0, .int 0, .ref q1, .ref q2, .null, .null, .int 0, .int 0, .int 0, .long 0, .long 0, .int 0, .null, .null])), (q1, .inl (cI, 100, .inl (fun _ => 0))), (q2, .inl (cI, 100, .inl (fun _ => 0)))]) H := hP
  have hD : va_D A ([(h0, .inr (2, [.int 0, .int 0, .int 0, .ref q1, .ref q2, .null, .null, .int 0, .int 0, .int 0, .long 0, .long 0, .int 0, .null, .null])), (q1, .inl (cI, 100, .inl (fun _ => 0))), (q2, .inl (cI, 100, .inl (fun _ => 0)))]) := aw_fst (by rfl) hD
  refine lv_aload_n hx hb dX2_init_20 rfl (lv_at hl 0 rfl) ?_
  refine lv_iconst (v := 4) hx hb dX2_init_21 (by decide) ?_
  refine a_newi hx hb ac_int hK hP hD hS hA 4 rfl (by decide) 3 204 (Nat.le_of_ble_eq_true rfl) (Nat.le_of_ble_eq_true rfl) (Nat.le_of_ble_eq_true rfl) (Nat.le_of_ble_eq_true rfl) dX2_init_22 (fun q3 H hP hD hS => ?_)
  have hP : va_P D vwCl ([(h0, .inr (2, [.int 0, .int 0, .int 0, .ref q1, .ref q2, .null, .null, .int 0, .int 0, .int 0, .long 0, .long 0, .int 0, .null, .null])), (q1, .inl (cI, 100, .inl (fun _ => 0))), (q2, .inl (cI, 100, .inl (fun _ => 0))), (q3, .inl (cI, 4, .inl (fun _ => 0)))]) H := hP
  have hD : va_D A ([(h0, .inr (2, [.int 0, .int 0, .int 0, .ref q1, .ref q2, .null, .null, .int 0, .int 0, .int 0, .long 0, .long 0, .int 0, .null, .null])), (q1, .inl (cI, 100, .inl (fun _ => 0))), (q2, .inl (cI, 100, .inl (fun _ => 0))), (q3, .inl (cI, 4, .inl (fun _ => 0)))]) := hD
  refine va_putF (D := D) (cl := vwCl) (ci := 2) (v := .ref q3) (ty := (.array .int)) (C := RX2) (T := TX2) (N := 15) hx hb hts inX2 tyX2 tyX2_ok nmX2 hown hK hP hD hS 0 rfl rfl 5 (by decide) fl16 (fun _ h9 => h9) rfl hin rfl (by decide +kernel) rfl rfl (Nat.le_of_ble_eq_true rfl) dX2_init_24 (fun H locs hP _ hS => ?_)
  have hP : va_P D vwCl ([(h0, .inr (2, [.int 0, .int 0, .int 0, .ref q1, .ref q2, .ref q3, .null, .int 0, .int 0, .int 0, .long 0, .long 0, .int 0, .null, .null])), (q1, .inl (cI, 100, .inl (fun _ => 0))), (q2, .inl (cI, 100, .inl (fun _ => 0))), (q3, .inl (cI, 4, .inl (fun _ => 0)))]) H := hP
  have hD : va_D A ([(h0, .inr (2, [.int 0, .int 0, .int 0, .ref q1, .ref q2, .ref q3, .null, .int 0, .int 0, .int 0, .long 0, .long 0, .int 0, .null, .null])), (q1, .inl (cI, 100, .inl (fun _ => 0))), (q2, .inl (cI, 100, .inl (fun _ => 0))), (q3, .inl (cI, 4, .inl (fun _ => 0)))]) := aw_fst (by rfl) hD
  refine lv_aload_n hx hb dX2_init_27 rfl (lv_at hl 0 rfl) ?_
  refine lv_iconst (v := 4) hx hb dX2_init_28 (by decide) ?_
  refine a_newi hx hb ac_int hK hP hD hS hA 4 rfl (by decide) 4 208 (Nat.le_of_ble_eq_true rfl) (Nat.le_of_ble_eq_true rfl) (Nat.le_of_ble_eq_true rfl) (Nat.le_of_ble_eq_true rfl) dX2_init_29 (fun q4 H hP hD hS => ?_)
  have hP : va_P D vwCl ([(h0, .inr (2, [.int 0, .int 0, .int 0, .ref q1, .ref q2, .ref q3, .null, .int 0, .int 0, .int 0, .long 0, .long 0, .int 0, .null, .null])), (q1, .inl (cI, 100, .inl (fun _ => 0))), (q2, .inl (cI, 100, .inl (fun _ => 0))), (q3, .inl (cI, 4, .inl (fun _ => 0))), (q4, .inl (cI, 4, .inl (fun _ => 0)))]) H := hP
  have hD : va_D A ([(h0, .inr (2, [.int 0, .int 0, .int 0, .ref q1, .ref q2, .ref q3, .null, .int 0, .int 0, .int 0, .long 0, .long 0, .int 0, .null, .null])), (q1, .inl (cI, 100, .inl (fun _ => 0))), (q2, .inl (cI, 100, .inl (fun _ => 0))), (q3, .inl (cI, 4, .inl (fun _ => 0))), (q4, .inl (cI, 4, .inl (fun _ => 0)))]) := hD
  refine va_putF (D := D) (cl := vwCl) (ci := 2) (v := .ref q4) (ty := (.array .int)) (C := RX2) (T := TX2) (N := 15) hx hb hts inX2 tyX2 tyX2_ok nmX2 hown hK hP hD hS 0 rfl rfl 6 (by decide) fl19 (fun _ h9 => h9) rfl hin rfl (by decide +kernel) rfl rfl (Nat.le_of_ble_eq_true rfl) dX2_init_31 (fun H locs hP _ hS => ?_)
  have hP : va_P D vwCl ([(h0, .inr (2, [.int 0, .int 0, .int 0, .ref q1, .ref q2, .ref q3, .ref q4, .int 0, .int 0, .int 0, .long 0, .long 0, .int 0, .null, .null])), (q1, .inl (cI, 100, .inl (fun _ => 0))), (q2, .inl (cI, 100, .inl (fun _ => 0))), (q3, .inl (cI, 4, .inl (fun _ => 0))), (q4, .inl (cI, 4, .inl (fun _ => 0)))]) H := hP
  have hD : va_D A ([(h0, .inr (2, [.int 0, .int 0, .int 0, .ref q1, .ref q2, .ref q3, .ref q4, .int 0, .int 0, .int 0, .long 0, .long 0, .int 0, .null, .null])), (q1, .inl (cI, 100, .inl (fun _ => 0))), (q2, .inl (cI, 100, .inl (fun _ => 0))), (q3, .inl (cI, 4, .inl (fun _ => 0))), (q4, .inl (cI, 4, .inl (fun _ => 0)))]) := aw_fst (by rfl) hD
  refine lv_aload_n hx hb dX2_init_34 rfl (lv_at hl 0 rfl) ?_
  refine lv_bipush (v := 10) hx hb dX2_init_35 (by decide) ?_
  refine a_newl hx hb ac_long hK hP hD hS hA 10 rfl (by decide) 5 218 (Nat.le_of_ble_eq_true rfl) (Nat.le_of_ble_eq_true rfl) (Nat.le_of_ble_eq_true rfl) (Nat.le_of_ble_eq_true rfl) dX2_init_37 (fun q5 H hP hD hS => ?_)
  have hP : va_P D vwCl ([(h0, .inr (2, [.int 0, .int 0, .int 0, .ref q1, .ref q2, .ref q3, .ref q4, .int 0, .int 0, .int 0, .long 0, .long 0, .int 0, .null, .null])), (q1, .inl (cI, 100, .inl (fun _ => 0))), (q2, .inl (cI, 100, .inl (fun _ => 0))), (q3, .inl (cI, 4, .inl (fun _ => 0))), (q4, .inl (cI, 4, .inl (fun _ => 0))), (q5, .inl (cJ, 10, .inr (.inl (fun _ => 0))))]) H := hP
  have hD : va_D A ([(h0, .inr (2, [.int 0, .int 0, .int 0, .ref q1, .ref q2, .ref q3, .ref q4, .int 0, .int 0, .int 0, .long 0, .long 0, .int 0, .null, .null])), (q1, .inl (cI, 100, .inl (fun _ => 0))), (q2, .inl (cI, 100, .inl (fun _ => 0))), (q3, .inl (cI, 4, .inl (fun _ => 0))), (q4, .inl (cI, 4, .inl (fun _ => 0))), (q5, .inl (cJ, 10, .inr (.inl (fun _ => 0))))]) := hD
  refine va_putF (D := D) (cl := vwCl) (ci := 2) (v := .ref q5) (ty := (.array .long)) (C := RX2) (T := TX2) (N := 15) hx hb hts inX2 tyX2 tyX2_ok nmX2 hown hK hP hD hS 0 rfl rfl 13 (by decide) fl22 (fun _ h9 => h9) rfl hin rfl (by decide +kernel) rfl rfl (Nat.le_of_ble_eq_true rfl) dX2_init_39 (fun H locs hP _ hS => ?_)
  have hP : va_P D vwCl ([(h0, .inr (2, [.int 0, .int 0, .int 0, .ref q1, .ref q2, .ref q3, .ref q4, .int 0, .int 0, .int 0, .long 0, .long 0, .int 0, .ref q5, .null])), (q1, .inl (cI, 100, .inl (fun _ => 0))), (q2, .inl (cI, 100, .inl (fun _ => 0))), (q3, .inl (cI, 4, .inl (fun _ => 0))), (q4, .inl (cI, 4, .inl (fun _ => 0))), (q5, .inl (cJ, 10, .inr (.inl (fun _ => 0))))]) H := hP
  have hD : va_D A ([(h0, .inr (2, [.int 0, .int 0, .int 0, .ref q1, .ref q2, .ref q3, .ref q4, .int 0, .int 0, .int 0, .long 0, .long 0, .int 0, .ref q5, .null])), (q1, .inl (cI, 100, .inl (fun _ => 0))), (q2, .inl (cI, 100, .inl (fun _ => 0))), (q3, .inl (cI, 4, .inl (fun _ => 0))), (q4, .inl (cI, 4, .inl (fun _ => 0))), (q5, .inl (cJ, 10, .inr (.inl (fun _ => 0))))]) := aw_fst (by rfl) hD
  refine lv_aload_n hx hb dX2_init_42 rfl (lv_at hl 0 rfl) ?_
  refine lv_bipush (v := 10) hx hb dX2_init_43 (by decide) ?_
  refine a_newi hx hb ac_int hK hP hD hS hA 10 rfl (by decide) 6 228 (Nat.le_of_ble_eq_true rfl) (Nat.le_of_ble_eq_true rfl) (Nat.le_of_ble_eq_true rfl) (Nat.le_of_ble_eq_true rfl) dX2_init_45 (fun q6 H hP hD hS => ?_)
  have hP : va_P D vwCl ([(h0, .inr (2, [.int 0, .int 0, .int 0, .ref q1, .ref q2, .ref q3, .ref q4, .int 0, .int 0, .int 0, .long 0, .long 0, .int 0, .ref q5, .null])), (q1, .inl (cI, 100, .inl (fun _ => 0))), (q2, .inl (cI, 100, .inl (fun _ => 0))), (q3, .inl (cI, 4, .inl (fun _ => 0))), (q4, .inl (cI, 4, .inl (fun _ => 0))), (q5, .inl (cJ, 10, .inr (.inl (fun _ => 0)))), (q6, .inl (cI, 10, .inl (fun _ => 0)))]) H := hP
  have hD : va_D A ([(h0, .inr (2, [.int 0, .int 0, .int 0, .ref q1, .ref q2, .ref q3, .ref q4, .int 0, .int 0, .int 0, .long 0, .long 0, .int 0, .ref q5, .null])), (q1, .inl (cI, 100, .inl (fun _ => 0))), (q2, .inl (cI, 100, .inl (fun _ => 0))), (q3, .inl (cI, 4, .inl (fun _ => 0))), (q4, .inl (cI, 4, .inl (fun _ => 0))), (q5, .inl (cJ, 10, .inr (.inl (fun _ => 0)))), (q6, .inl (cI, 10, .inl (fun _ => 0)))]) := hD
  refine va_putF (D := D) (cl := vwCl) (ci := 2) (v := .ref q6) (ty := (.array .int)) (C := RX2) (T := TX2) (N := 15) hx hb hts inX2 tyX2 tyX2_ok nmX2 hown hK hP hD hS 0 rfl rfl 14 (by decide) fl26 (fun _ h9 => h9) rfl hin rfl (by decide +kernel) rfl rfl (Nat.le_of_ble_eq_true rfl) dX2_init_47 (fun H locs hP _ hS => ?_)
  have hP : va_P D vwCl ([(h0, .inr (2, [.int 0, .int 0, .int 0, .ref q1, .ref q2, .ref q3, .ref q4, .int 0, .int 0, .int 0, .long 0, .long 0, .int 0, .ref q5, .ref q6])), (q1, .inl (cI, 100, .inl (fun _ => 0))), (q2, .inl (cI, 100, .inl (fun _ => 0))), (q3, .inl (cI, 4, .inl (fun _ => 0))), (q4, .inl (cI, 4, .inl (fun _ => 0))), (q5, .inl (cJ, 10, .inr (.inl (fun _ => 0)))), (q6, .inl (cI, 10, .inl (fun _ => 0)))]) H := hP
  have hD : va_D A ([(h0, .inr (2, [.int 0, .int 0, .int 0, .ref q1, .ref q2, .ref q3, .ref q4, .int 0, .int 0, .int 0, .long 0, .long 0, .int 0, .ref q5, .ref q6])), (q1, .inl (cI, 100, .inl (fun _ => 0))), (q2, .inl (cI, 100, .inl (fun _ => 0))), (q3, .inl (cI, 4, .inl (fun _ => 0))), (q4, .inl (cI, 4, .inl (fun _ => 0))), (q5, .inl (cJ, 10, .inr (.inl (fun _ => 0)))), (q6, .inl (cI, 10, .inl (fun _ => 0)))]) := aw_fst (by rfl) hD
  refine lv_aload_n hx hb dX2_init_50 rfl (lv_at hl 0 rfl) ?_
  refine W_jn (β := Int32) (fun b8 => b8 = nI (clp x)) (fun b8 => F0 m 72 ls [.int b8, .ref h0]) (fun jn7 => ?_) (fun b8 eb8 => ?_)
  · -- roads to 72
    refine lv_iload_n hx hb dX2_init_51 rfl (lv_at hl 1 rfl) ?_
    refine lv_iconst (v := 1) hx hb dX2_init_52 (by decide) ?_
    refine lv_icmp_ge (tgt := 60) hx hb dX2_init_53 (by decide) (fun c51 => ?_) (fun c51 => ?_)
    · -- 60
      refine lv_iload_n hx hb dX2_init_60 rfl (lv_at hl 1 rfl) ?_
      refine lv_bipush (v := 10) hx hb dX2_init_61 (by decide) ?_
      refine lv_icmp_le (tgt := 71) hx hb dX2_init_63 (by decide) (fun d51 => ?_) (fun d51 => ?_)
      · -- 71
        refine lv_iload_n hx hb dX2_init_71 rfl (lv_at hl 1 rfl) ?_
        exact jn7 _ (by rw [← clp_m]; exact ((if_neg (Int32.not_lt.mpr c51)).trans (if_neg (Int32.not_lt.mpr d51))).symm)
      · -- 66
        refine lv_bipush (v := 10) hx hb dX2_init_66 (by decide) ?_
        refine lv_goto (tgt := 72) hx hb dX2_init_68 (by decide) ?_
        exact jn7 _ (by rw [← clp_m]; exact ((if_neg (Int32.not_lt.mpr c51)).trans (if_pos (Int32.not_le.mp d51))).symm)
    · -- 56
      refine lv_iconst (v := 1) hx hb dX2_init_56 (by decide) ?_
      refine lv_goto (tgt := 72) hx hb dX2_init_57 (by decide) ?_
      exact jn7 _ (by rw [← clp_m]; exact (if_pos (Int32.not_le.mp c51)).symm)
  · -- on from 72
    subst eb8
    refine va_putF (D := D) (cl := vwCl) (ci := 2) (v := .int (nI (clp x))) (ty := .int) (C := RX2) (T := TX2) (N := 15) hx hb hts inX2 tyX2 tyX2_ok nmX2 hown hK hP hD hS 0 rfl rfl 0 (by decide) fl29 (fun _ h9 => h9) rfl hin rfl (by decide +kernel) rfl rfl (Nat.le_of_ble_eq_true rfl) dX2_init_72 (fun H locs hP _ hS => ?_)
    have hP : va_P D vwCl ([(h0, .inr (2, [.int (nI (clp x)), .int 0, .int 0, .ref q1, .ref q2, .ref q3, .ref q4, .int 0, .int 0, .int 0, .long 0, .long 0, .int 0, .ref q5, .ref q6])), (q1, .inl (cI, 100, .inl (fun _ => 0))), (q2, .inl (cI, 100, .inl (fun _ => 0))), (q3, .inl (cI, 4, .inl (fun _ => 0))), (q4, .inl (cI, 4, .inl (fun _ => 0))), (q5, .inl (cJ, 10, .inr (.inl (fun _ => 0)))), (q6, .inl (cI, 10, .inl (fun _ => 0)))]) H := hP
    have hD : va_D A ([(h0, .inr (2, [.int (nI (clp x)), .int 0, .int 0, .ref q1, .ref q2, .ref q3, .ref q4, .int 0, .int 0, .int 0, .long 0, .long 0, .int 0, .ref q5, .ref q6])), (q1, .inl (cI, 100, .inl (fun _ => 0))), (q2, .inl (cI, 100, .inl (fun _ => 0))), (q3, .inl (cI, 4, .inl (fun _ => 0))), (q4, .inl (cI, 4, .inl (fun _ => 0))), (q5, .inl (cJ, 10, .inr (.inl (fun _ => 0)))), (q6, .inl (cI, 10, .inl (fun _ => 0)))]) := aw_fst (by rfl) hD
    refine lv_aload_n hx hb dX2_init_75 rfl (lv_at hl 0 rfl) ?_
    refine W_jn (β := Int32) (fun b10 => b10 = nI (clp y)) (fun b10 => F0 m 97 ls [.int b10, .ref h0]) (fun jn9 => ?_) (fun b10 eb10 => ?_)
    · -- roads to 97
      refine lv_iload_n hx hb dX2_init_76 rfl (lv_at hl 2 rfl) ?_
      refine lv_iconst (v := 1) hx hb dX2_init_77 (by decide) ?_
      refine lv_icmp_ge (tgt := 85) hx hb dX2_init_78 (by decide) (fun c76 => ?_) (fun c76 => ?_)
      · -- 85
        refine lv_iload_n hx hb dX2_init_85 rfl (lv_at hl 2 rfl) ?_
        refine lv_bipush (v := 10) hx hb dX2_init_86 (by decide) ?_
        refine lv_icmp_le (tgt := 96) hx hb dX2_init_88 (by decide) (fun d76 => ?_) (fun d76 => ?_)
        · -- 96
          refine lv_iload_n hx hb dX2_init_96 rfl (lv_at hl 2 rfl) ?_
          exact jn9 _ (by rw [← clp_m]; exact ((if_neg (Int32.not_lt.mpr c76)).trans (if_neg (Int32.not_lt.mpr d76))).symm)
        · -- 91
          refine lv_bipush (v := 10) hx hb dX2_init_91 (by decide) ?_
          refine lv_goto (tgt := 97) hx hb dX2_init_93 (by decide) ?_
          exact jn9 _ (by rw [← clp_m]; exact ((if_neg (Int32.not_lt.mpr c76)).trans (if_pos (Int32.not_le.mp d76))).symm)
      · -- 81
        refine lv_iconst (v := 1) hx hb dX2_init_81 (by decide) ?_
        refine lv_goto (tgt := 97) hx hb dX2_init_82 (by decide) ?_
        exact jn9 _ (by rw [← clp_m]; exact (if_pos (Int32.not_le.mp c76)).symm)
    · -- on from 97
      subst eb10
      refine va_putF (D := D) (cl := vwCl) (ci := 2) (v := .int (nI (clp y))) (ty := .int) (C := RX2) (T := TX2) (N := 15) hx hb hts inX2 tyX2 tyX2_ok nmX2 hown hK hP hD hS 0 rfl rfl 1 (by decide) fl33 (fun _ h9 => h9) rfl hin rfl (by decide +kernel) rfl rfl (Nat.le_of_ble_eq_true rfl) dX2_init_97 (fun H locs hP _ hS => ?_)
      have hP : va_P D vwCl ([(h0, .inr (2, [.int (nI (clp x)), .int (nI (clp y)), .int 0, .ref q1, .ref q2, .ref q3, .ref q4, .int 0, .int 0, .int 0, .long 0, .long 0, .int 0, .ref q5, .ref q6])), (q1, .inl (cI, 100, .inl (fun _ => 0))), (q2, .inl (cI, 100, .inl (fun _ => 0))), (q3, .inl (cI, 4, .inl (fun _ => 0))), (q4, .inl (cI, 4, .inl (fun _ => 0))), (q5, .inl (cJ, 10, .inr (.inl (fun _ => 0)))), (q6, .inl (cI, 10, .inl (fun _ => 0)))]) H := hP
      have hD : va_D A ([(h0, .inr (2, [.int (nI (clp x)), .int (nI (clp y)), .int 0, .ref q1, .ref q2, .ref q3, .ref q4, .int 0, .int 0, .int 0, .long 0, .long 0, .int 0, .ref q5, .ref q6])), (q1, .inl (cI, 100, .inl (fun _ => 0))), (q2, .inl (cI, 100, .inl (fun _ => 0))), (q3, .inl (cI, 4, .inl (fun _ => 0))), (q4, .inl (cI, 4, .inl (fun _ => 0))), (q5, .inl (cJ, 10, .inr (.inl (fun _ => 0)))), (q6, .inl (cI, 10, .inl (fun _ => 0)))]) := aw_fst (by rfl) hD
      have hP9 : va_P D vwCl (wM (lk9 [q1, q2, q3, q4, q6, q5, h0]) cI cJ (clp x) (clp y) σ0 ℓ0) H := hP.sub [0, 1, 2, 3, 4, 6, 5] rfl
      have hD9 : va_D A (wM (lk9 [q1, q2, q3, q4, q6, q5, h0]) cI cJ (clp x) (clp y) σ0 ℓ0) := hD.sub [0, 1, 2, 3, 4, 6, 5] (by decide) rfl
      exact W.vret hx hb hr (fun t ht hW => ⟨⟨(lk9 [q1, q2, q3, q4, q6, q5, h0]), rfl, rfl, by rw [ht]; exact hP9, hD9⟩, hS.F ht⟩) hS.2.2 dX2_init_100
