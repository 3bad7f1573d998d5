set_option maxHeartbeats 4000000 in
set_option maxRecDepth 100000 in
theorem k_X0_init (l : Launch) (D : va_G) (cI cJ : ClassId) (X Y : Nat) (h0 sz : Nat) (hB : 1 ≤ X ∧ X ≤ 10 ∧ 1 ≤ Y ∧ Y ≤ 10) : Met l yX0_init wsX0_init { frames := 1, cells := 8, slots := 872, locals := 20 } (va_Pc [.ref h0, .int (nI X), .int (nI Y)] (fun U => U.heap.size = sz ∧ va_P D vwCl ([(h0, .inr (0, [.int 0, .int 0, .int 0, .null, .null, .null, .null, .null, .null, .null, .null, .int 0, .int 0, .int 0]))]) U.heap ∧ va_K D vwCl (tY cI cJ) U ∧ va_D (fun _ => True) ([(h0, .inr (0, [.int 0, .int 0, .int 0, .null, .null, .null, .null, .null, .null, .null, .null, .int 0, .int 0, .int 0]))]))) (va_Qv (fun (u : Nat → Nat) => u 8 = h0) (fun u t => va_P D vwCl (wS u cI X Y σ0) t.heap ∧ va_D (va_A ([(h0, .inr (0, [.int 0, .int 0, .int 0, .null, .null, .null, .null, .null, .null, .null, .null, .int 0, .int 0, .int 0]))]) sz) (wS u cI X Y σ0)) (va_A ([(h0, .inr (0, [.int 0, .int 0, .int 0, .null, .null, .null, .null, .null, .null, .null, .null, .int 0, .int 0, .int 0]))]) sz)) 8 872 (va_A ([(h0, .inr (0, [.int 0, .int 0, .int 0, .null, .null, .null, .null, .null, .null, .null, .null, .int 0, .int 0, .int 0]))]) sz) := by
  refine Met.ofW (cc := cX0_init) (maxL := 4) (ret := none) (by decide) rfl ?_
  intro p e s m args below meth c s₁ B hml hv
  obtain ⟨rfl, hsz, hP, hK, hD0⟩ := hv
  have hx := B.exec
  have hb := B.bytes
  have hr := B.returns
  have hts := atoms_spec (ws := wsX0_init) B.pre
  have hown : s.vm.findClass RX0 = some m.cls := findClass_of_methodNamed B.named
  have hlocks := B.notSynchronized
  have inX0 : ∀ w ∈ wsX00, w ∈ wsX0_init := by decide +kernel
  have oi1 := hts (.methodLink RX0 3 objectInit) (by decide +kernel)
  have oi2 := hts (.instanceMethod objectInit) (by decide +kernel)
  have oi3 := hts (.code objectInit ⟨#[0xb1]⟩ 1 none) (by decide +kernel)
  have ac_int := hts (.arrayClass .int) (by decide +kernel)
  have fl9 := hts (.fieldLink RX0 9 "BridgeCells$Section" "sideWarmth" "[I") (by decide +kernel)
  have fl15 := hts (.fieldLink RX0 15 "BridgeCells$Section" "sideFilm" "[I") (by decide +kernel)
  have fl18 := hts (.fieldLink RX0 18 "BridgeCells$Section" "low" "I") (by decide +kernel)
  have fl22 := hts (.fieldLink RX0 22 "BridgeCells$Section" "high" "I") (by decide +kernel)
  have fl25 := hts (.fieldLink RX0 25 "BridgeCells$Section" "settled" "Z") (by decide +kernel)
  have fl29 := hts (.fieldLink RX0 29 "BridgeCells$Section" "columns" "I") (by decide +kernel)
  have fl32 := hts (.fieldLink RX0 32 "BridgeCells$Section" "rows" "I") (by decide +kernel)
  have fl35 := hts (.fieldLink RX0 35 "BridgeCells$Section" "stride" "I") (by decide +kernel)
  have fl38 := hts (.fieldLink RX0 38 "BridgeCells$Section" "conduct" "[I") (by decide +kernel)
  have fl41 := hts (.fieldLink RX0 41 "BridgeCells$Section" "warm" "[I") (by decide +kernel)
  have fl44 := hts (.fieldLink RX0 44 "BridgeCells$Section" "east" "[I") (by decide +kernel)
  have fl47 := hts (.fieldLink RX0 47 "BridgeCells$Section" "south" "[I") (by decide +kernel)
  have fl50 := hts (.fieldLink RX0 50 "BridgeCells$Section" "weight" "[I") (by decide +kernel)
  have fl53 := hts (.fieldLink RX0 53 "BridgeCells$Section" "surplus" "[I") (by decide +kernel)
  have hin : meth.name = "<init>" := (name_of_methodNamed B.named B.method).1
  subst hsz
  have hD := hD0.self (sz := s.heap.size)
  generalize hAe : va_A ([(h0, .inr (0, [.int 0, .int 0, .int 0, .null, .null, .null, .null, .null, .null, .null, .null, .int 0, .int 0, .int 0]))]) s.heap.size = A at hD ⊢
  have hA : ∀ q : Nat, s.heap.size ≤ q → A q := fun q h => by rw [← hAe]; exact Or.inr h
  have hS : va_S A s.heap s.heap [] := va_S.rf
  have hl := lv_entry ([.ref h0, .int (nI X), .int (nI Y)]) (n := 4) (Nat.le_of_ble_eq_true rfl)
  rw [lg_entry_eq]
  generalize (lg_sl ([.ref h0, .int (nI X), .int (nI Y)]) ++ List.replicate (4 - (lg_sl ([.ref h0, .int (nI X), .int (nI Y)])).length) Slot.unset).toArray = ls at hl ⊢
  have hN9 := N9 hB
  have hl : lv_has ls 4 [(0, .ref h0), (1, .int (nI X)), (2, .int (nI Y))] := hl
  have hP : va_P D vwCl ([(h0, .inr (0, [.int 0, .int 0, .int 0, .null, .null, .null, .null, .null, .null, .null, .null, .int 0, .int 0, .int 0]))]) s.heap := hP
  refine lv_aload_n hx hb dX0_init_0 rfl (lv_at hl 0 rfl) ?_
  refine W.objInit hx hb hown oi1 oi2 oi3 rfl (by rw [hml]; exact hl.1) rfl dX0_init_1 (Nat.le_of_ble_eq_true rfl) (Nat.le_of_ble_eq_true rfl) ?_
  refine W.eq (g2 := F0 m 4 ls []) rfl ?_
  refine lv_aload_n hx hb dX0_init_4 rfl (lv_at hl 0 rfl) ?_
  refine lv_iconst (v := 4) hx hb dX0_init_5 (by decide) ?_
  refine a_newi hx hb ac_int hK hP hD hS hA 4 rfl (by decide) 1 4 (Nat.le_of_ble_eq_true rfl) (Nat.le_of_ble_eq_true rfl) (Nat.le_of_ble_eq_true rfl) (Nat.le_of_ble_eq_true rfl) dX0_init_6 (fun q1 H hP hD hS => ?_)
  have hP : va_P D vwCl ([(h0, .inr (0, [.int 0, .int 0, .int 0, .null, .null, .null, .null, .null, .null, .null, .null, .int 0, .int 0, .int 0])), (q1, .inl (cI, 4, .inl (fun _ => 0)))]) H := hP
  have hD : va_D A ([(h0, .inr (0, [.int 0, .int 0, .int 0, .null, .null, .null, .null, .null, .null, .null, .null, .int 0, .int 0, .int 0])), (q1, .inl (cI, 4, .inl (fun _ => 0)))]) := hD
  refine va_putF (D := D) (cl := vwCl) (ci := 0) (v := .ref q1) (ty := (.array .int)) (C := RX0) (T := TX0) (N := 14) hx hb hts inX0 tyX0 tyX0_ok nmX0 hown hK hP hD hS 0 rfl rfl 9 (by decide) fl9 (fun _ h9 => h9) rfl hin rfl (by decide +kernel) rfl rfl (Nat.le_of_ble_eq_true rfl) dX0_init_8 (fun H locs hP _ hS => ?_)
  have hP : va_P D vwCl ([(h0, .inr (0, [.int 0, .int 0, .int 0, .null, .null, .null, .null, .null, .null, .ref q1, .null, .int 0, .int 0, .int 0])), (q1, .inl (cI, 4, .inl (fun _ => 0)))]) H := hP
  have hD : va_D A ([(h0, .inr (0, [.int 0, .int 0, .int 0, .null, .null, .null, .null, .null, .null, .ref q1, .null, .int 0, .int 0, .int 0])), (q1, .inl (cI, 4, .inl (fun _ => 0)))]) := aw_fst (by rfl) hD
  refine lv_aload_n hx hb dX0_init_11 rfl (lv_at hl 0 rfl) ?_
  refine lv_iconst (v := 4) hx hb dX0_init_12 (by decide) ?_
  refine a_newi hx hb ac_int hK hP hD hS hA 4 rfl (by decide) 2 8 (Nat.le_of_ble_eq_true rfl) (Nat.le_of_ble_eq_true rfl) (Nat.le_of_ble_eq_true rfl) (Nat.le_of_ble_eq_true rfl) dX0_init_13 (fun q2 H hP hD hS => ?_)
  have hP : va_P D vwCl ([(h0, .inr (0, [.int 0, .int 0, .int 0, .null, .null, .null, .null, .null, .null, .ref q1, .null, .int 0, .int 0, .int 0])), (q1, .inl (cI, 4, .inl (fun _ => 0))), (q2, .inl (cI, 4, .inl (fun _ => 0)))]) H := hP
  have hD : va_D A ([(h0, .inr (0, [.int 0, .int 0, .int 0, .null, .null, .null, .null, .null, .null, .ref q1, .null, .int 0, .int 0, .int 0])), (q1, .inl (cI, 4, .inl (fun _ => 0))), (q2, .inl (cI, 4, .inl (fun _ => 0)))]) := hD
  refine va_putF (D := D) (cl := vwCl) (ci := 0) (v := .ref q2) (ty := (.array .int)) (C := RX0) (T := TX0) (N := 14) hx hb hts inX0 tyX0 tyX0_ok nmX0 hown hK hP hD hS 0 rfl rfl 10 (by decide) fl15 (fun _ h9 => h9) rfl hin rfl (by decide +kernel) rfl rfl (Nat.le_of_ble_eq_true rfl) dX0_init_15 (fun H locs hP _ hS => ?_)
  have hP : va_P D vwCl ([(h0, .inr (0, [.int 0, .int 0, .int 0, .null, .null, .null, .null, .null, .null, .ref q1, .ref q2, .int 0, .int 0, .int 0])), (q1, .inl (cI, 4, .inl (fun _ => 0))), (q2, .inl (cI, 4, .inl (fun _ => 0)))]) H := hP
  have hD : va_D A ([(h0, .inr (0, [.int 0, .int 0, .int 0, .null, .null, .null, .null, .null, .null, .ref q1, .ref q2, .int 0, .int 0, .int 0])), (q1, .inl (cI, 4, .inl (fun _ => 0))), (q2, .inl (cI, 4, .inl (fun _ => 0)))]) := aw_fst (by rfl) hD
  refine lv_aload_n hx hb dX0_init_18 rfl (lv_at hl 0 rfl) ?_
  refine lv_iconst (v := 0) hx hb dX0_init_19 (by decide) ?_
  refine va_put (D := D) (cl := vwCl) (ci := 0) (v := .int 0) (ty := .int) (C := RX0) (T := TX0) (N := 14) hx hb hts inX0 tyX0 tyX0_ok nmX0 hown hK hP hD hS 0 rfl rfl 11 (by decide) fl18 (fun _ h9 => h9) rfl (by decide +kernel) rfl rfl (Nat.le_of_ble_eq_true rfl) dX0_init_20 (fun H locs hP _ hS => ?_)
  have hP : va_P D vwCl ([(h0, .inr (0, [.int 0, .int 0, .int 0, .null, .null, .null, .null, .null, .null, .ref q1, .ref q2, .int 0, .int 0, .int 0])), (q1, .inl (cI, 4, .inl (fun _ => 0))), (q2, .inl (cI, 4, .inl (fun _ => 0)))]) H := hP
  have hD : va_D A ([(h0, .inr (0, [.int 0, .int 0, .int 0, .null, .null, .null, .null, .null, .null, .ref q1, .ref q2, .int 0, .int 0, .int 0])), (q1, .inl (cI, 4, .inl (fun _ => 0))), (q2, .inl (cI, 4, .inl (fun _ => 0)))]) := aw_fst (by rfl) hD
  refine lv_aload_n hx hb dX0_init_23 rfl (lv_at hl 0 rfl) ?_
  refine lv_iconst (v := 0) hx hb dX0_init_24 (by decide) ?_
  refine va_put (D := D) (cl := vwCl) (ci := 0) (v := .int 0) (ty := .int) (C := RX0) (T := TX0) (N := 14) hx hb hts inX0 tyX0 tyX0_ok nmX0 hown hK hP hD hS 0 rfl rfl 12 (by decide) fl22 (fun _ h9 => h9) rfl (by decide +kernel) rfl rfl (Nat.le_of_ble_eq_true rfl) dX0_init_25 (fun H locs hP _ hS => ?_)
  have hP : va_P D vwCl ([(h0, .inr (0, [.int 0, .int 0, .int 0, .null, .null, .null, .null, .null, .null, .ref q1, .ref q2, .int 0, .int 0, .int 0])), (q1, .inl (cI, 4, .inl (fun _ => 0))), (q2, .inl (cI, 4, .inl (fun _ => 0)))]) H := hP
  have hD : va_D A ([(h0, .inr (0, [.int 0, .int 0, .int 0, .null, .null, .null, .null, .null, .null, .ref q1, .ref q2, .int 0, .int 0, .int 0])), (q1, .inl (cI, 4, .inl (fun _ => 0))), (q2, .inl (cI, 4, .inl (fun _ => 0)))]) := aw_fst (by rfl) hD
  refine lv_aload_n hx hb dX0_init_28 rfl (lv_at hl 0 rfl) ?_
  refine lv_iconst (v := 0) hx hb dX0_init_29 (by decide) ?_
  refine va_put (D := D) (cl := vwCl) (ci := 0) (v := .int 0) (ty := .boolean) (C := RX0) (T := TX0) (N := 14) hx hb hts inX0 tyX0 tyX0_ok nmX0 hown hK hP hD hS 0 rfl rfl 13 (by decide) fl25 (fun _ h9 => h9) rfl (by decide +kernel) rfl rfl (Nat.le_of_ble_eq_true rfl) dX0_init_30 (fun H locs hP _ hS => ?_)
  have hP : va_P D vwCl ([(h0, .inr (0, [.int 0, .int 0, .int 0, .null, .null, .null, .null, .null, .null, .ref q1, .ref q2, .int 0, .int 0, .int 0])), (q1, .inl (cI, 4, .inl (fun _ => 0))), (q2, .inl (cI, 4, .inl (fun _ => 0)))]) H := hP
  have hD : va_D A ([(h0, .inr (0, [.int 0, .int 0, .int 0, .null, .null, .null, .null, .null, .null, .ref q1, .ref q2, .int 0, .int 0, .int 0])), (q1, .inl (cI, 4, .inl (fun _ => 0))), (q2, .inl (cI, 4, .inl (fun _ => 0)))]) := aw_fst (by rfl) hD
  refine lv_aload_n hx hb dX0_init_33 rfl (lv_at hl 0 rfl) ?_
  refine lv_iload_n hx hb dX0_init_34 rfl (lv_at hl 1 rfl) ?_
  refine va_putF (D := D) (cl := vwCl) (ci := 0) (v := .int (nI X)) (ty := .int) (C := RX0) (T := TX0) (N := 14) hx hb hts inX0 tyX0 tyX0_ok nmX0 hown hK hP hD hS 0 rfl rfl 0 (by decide) fl29 (fun _ h9 => h9) rfl hin rfl (by decide +kernel) rfl rfl (Nat.le_of_ble_eq_true rfl) dX0_init_35 (fun H locs hP _ hS => ?_)
  have hP : va_P D vwCl ([(h0, .inr (0, [.int (nI X), .int 0, .int 0, .null, .null, .null, .null, .null, .null, .ref q1, .ref q2, .int 0, .int 0, .int 0])), (q1, .inl (cI, 4, .inl (fun _ => 0))), (q2, .inl (cI, 4, .inl (fun _ => 0)))]) H := hP
  have hD : va_D A ([(h0, .inr (0, [.int (nI X), .int 0, .int 0, .null, .null, .null, .null, .null, .null, .ref q1, .ref q2, .int 0, .int 0, .int 0])), (q1, .inl (cI, 4, .inl (fun _ => 0))), (q2, .inl (cI, 4, .inl (fun _ => 0)))]) := aw_fst (by rfl) hD
  refine lv_aload_n hx hb dX0_init_38 rfl (lv_at hl 0 rfl) ?_
  refine lv_iload_n hx hb dX0_init_39 rfl (lv_at hl 2 rfl) ?_
  refine va_putF (D := D) (cl := vwCl) (ci := 0) (v := .int (nI Y)) (ty := .int) (C := RX0) (T := TX0) (N := 14) hx hb hts inX0 tyX0 tyX0_ok nmX0 hown hK hP hD hS 0 rfl rfl 1 (by decide) fl32 (fun _ h9 => h9) rfl hin rfl (by decide +kernel) rfl rfl (Nat.le_of_ble_eq_true rfl) dX0_init_40 (fun H locs hP _ hS => ?_)
  have hP : va_P D vwCl ([(h0, .inr (0, [.int (nI X), .int (nI Y), .int 0, .null, .null, .null, .null, .null, .null, .ref q1, .ref q2, .int 0, .int 0, .int 0])), (q1, .inl (cI, 4, .inl (fun _ => 0))), (q2, .inl (cI, 4, .inl (fun _ => 0)))]) H := hP
  have hD : va_D A ([(h0, .inr (0, [.int (nI X), .int (nI Y), .int 0, .null, .null, .null, .null, .null, .null, .ref q1, .ref q2, .int 0, .int 0, .int 0])), (q1, .inl (cI, 4, .inl (fun _ => 0))), (q2, .inl (cI, 4, .inl (fun _ => 0)))]) := aw_fst (by rfl) hD
  refine lv_aload_n hx hb dX0_init_43 rfl (lv_at hl 0 rfl) ?_
  refine lv_iload_n hx hb dX0_init_44 rfl (lv_at hl 1 rfl) ?_
  refine lv_iconst (v := 2) hx hb dX0_init_45 (by decide) ?_
  refine lv_iadd hx hb dX0_init_46 ?_
  refine top_eq (y := nI (X + 2)) (nI_add X 2) ?_
  refine va_putF (D := D) (cl := vwCl) (ci := 0) (v := .int (nI (X + 2))) (ty := .int) (C := RX0) (T := TX0) (N := 14) hx hb hts inX0 tyX0 tyX0_ok nmX0 hown hK hP hD hS 0 rfl rfl 2 (by decide) fl35 (fun _ h9 => h9) rfl hin rfl (by decide +kernel) rfl rfl (Nat.le_of_ble_eq_true rfl) dX0_init_47 (fun H locs hP _ hS => ?_)
  have hP : va_P D vwCl ([(h0, .inr (0, [.int (nI X), .int (nI Y), .int (nI (X + 2)), .null, .null, .null, .null, .null, .null, .ref q1, .ref q2, .int 0, .int 0, .int 0])), (q1, .inl (cI, 4, .inl (fun _ => 0))), (q2, .inl (cI, 4, .inl (fun _ => 0)))]) H := hP
  have hD : va_D A ([(h0, .inr (0, [.int (nI X), .int (nI Y), .int (nI (X + 2)), .null, .null, .null, .null, .null, .null, .ref q1, .ref q2, .int 0, .int 0, .int 0])), (q1, .inl (cI, 4, .inl (fun _ => 0))), (q2, .inl (cI, 4, .inl (fun _ => 0)))]) := aw_fst (by rfl) hD
  refine lv_iload_n hx hb dX0_init_50 rfl (lv_at hl 1 rfl) ?_
  refine lv_iconst (v := 2) hx hb dX0_init_51 (by decide) ?_
  refine lv_iadd hx hb dX0_init_52 ?_
  refine top_eq (y := nI (X + 2)) (nI_add X 2) ?_
  refine lv_iload_n hx hb dX0_init_53 rfl (lv_at hl 2 rfl) ?_
  refine lv_iconst (v := 2) hx hb dX0_init_54 (by decide) ?_
  refine lv_iadd hx hb dX0_init_55 ?_
  refine top_eq (y := nI (Y + 2)) (nI_add Y 2) ?_
  refine lv_imul hx hb dX0_init_56 ?_
  refine top_eq (y := nI ((X + 2) * (Y + 2))) (pk_mul (X + 2) (Y + 2)) ?_
  refine lv_istore_n (lv' := [(3, .int (nI ((X + 2) * (Y + 2)))), (0, .ref h0), (1, .int (nI X)), (2, .int (nI Y))]) hx hb dX0_init_57 rfl hl (by decide) rfl (fun ls hl => ?_)
  refine lv_aload_n hx hb dX0_init_58 rfl (lv_at hl 1 rfl) ?_
  refine lv_iload_n hx hb dX0_init_59 rfl (lv_at hl 0 rfl) ?_
  refine a_newi hx hb ac_int hK hP hD hS hA ((X + 2) * (Y + 2)) rfl (by have := hN9; omega) 3 152 (Nat.le_of_ble_eq_true rfl) (by have := hN9; omega) (Nat.le_of_ble_eq_true rfl) (Nat.le_of_ble_eq_true rfl) dX0_init_60 (fun q3 H hP hD hS => ?_)
  have hP : va_P D vwCl ([(h0, .inr (0, [.int (nI X), .int (nI Y), .int (nI (X + 2)), .null, .null, .null, .null, .null, .null, .ref q1, .ref q2, .int 0, .int 0, .int 0])), (q1, .inl (cI, 4, .inl (fun _ => 0))), (q2, .inl (cI, 4, .inl (fun _ => 0))), (q3, .inl (cI, ((X + 2) * (Y + 2)), .inl (fun _ => 0)))]) H := hP
  have hD : va_D A ([(h0, .inr (0, [.int (nI X), .int (nI Y), .int (nI (X + 2)), .null, .null, .null, .null, .null, .null, .ref q1, .ref q2, .int 0, .int 0, .int 0])), (q1, .inl (cI, 4, .inl (fun _ => 0))), (q2, .inl (cI, 4, .inl (fun _ => 0))), (q3, .inl (cI, ((X + 2) * (Y + 2)), .inl (fun _ => 0)))]) := hD
  refine va_putF (D := D) (cl := vwCl) (ci := 0) (v := .ref q3) (ty := (.array .int)) (C := RX0) (T := TX0) (N := 14) hx hb hts inX0 tyX0 tyX0_ok nmX0 hown hK hP hD hS 0 rfl rfl 3 (by decide) fl38 (fun _ h9 => h9) rfl hin rfl (by decide +kernel) rfl rfl (Nat.le_of_ble_eq_true rfl) dX0_init_62 (fun H locs hP _ hS => ?_)
  have hP : va_P D vwCl ([(h0, .inr (0, [.int (nI X), .int (nI Y), .int (nI (X + 2)), .ref q3, .null, .null, .null, .null, .null, .ref q1, .ref q2, .int 0, .int 0, .int 0])), (q1, .inl (cI, 4, .inl (fun _ => 0))), (q2, .inl (cI, 4, .inl (fun _ => 0))), (q3, .inl (cI, ((X + 2) * (Y + 2)), .inl (fun _ => 0)))]) H := hP
  have hD : va_D A ([(h0, .inr (0, [.int (nI X), .int (nI Y), .int (nI (X + 2)), .ref q3, .null, .null, .null, .null, .null, .ref q1, .ref q2, .int 0, .int 0, .int 0])), (q1, .inl (cI, 4, .inl (fun _ => 0))), (q2, .inl (cI, 4, .inl (fun _ => 0))), (q3, .inl (cI, ((X + 2) * (Y + 2)), .inl (fun _ => 0)))]) := aw_fst (by rfl) hD
  refine lv_aload_n hx hb dX0_init_65 rfl (lv_at hl 1 rfl) ?_
  refine lv_iload_n hx hb dX0_init_66 rfl (lv_at hl 0 rfl) ?_
  refine a_newi hx hb ac_int hK hP hD hS hA ((X + 2) * (Y + 2)) rfl (by have := hN9; omega) 4 296 (Nat.le_of_ble_eq_true rfl) (by have := hN9; omega) (Nat.le_of_ble_eq_true rfl) (Nat.le_of_ble_eq_true rfl) dX0_init_67 (fun q4 H hP hD hS => ?_)
  have hP : va_P D vwCl ([(h0, .inr (0, [.int (nI X), .int (nI Y), .int (nI (X + 2)), .ref q3, .null, .null, .null, .null, .null, .ref q1, .ref q2, .int 0, .int 0, .int 0])), (q1, .inl (cI, 4, .inl (fun _ => 0))), (q2, .inl (cI, 4, .inl (fun _ => 0))), (q3, .inl (cI, ((X + 2) * (Y + 2)), .inl (fun _ => 0))), (q4, .inl (cI, ((X + 2) * (Y + 2)), .inl (fun _ => 0)))]) H := hP
  have hD : va_D A ([(h0, .inr (0, [.int (nI X), .int (nI Y), .int (nI (X + 2)), .ref q3, .null, .null, .null, .null, .null, .ref q1, .ref q2, .int 0, .int 0, .int 0])), (q1, .inl (cI, 4, .inl (fun _ => 0))), (q2, .inl (cI, 4, .inl (fun _ => 0))), (q3, .inl (cI, ((X + 2) * (Y + 2)), .inl (fun _ => 0))), (q4, .inl (cI, ((X + 2) * (Y + 2)), .inl (fun _ => 0)))]) := hD
  refine va_putF (D := D) (cl := vwCl) (ci := 0) (v := .ref q4) (ty := (.array .int)) (C := RX0) (T := TX0) (N := 14) hx hb hts inX0 tyX0 tyX0_ok nmX0 hown hK hP hD hS 0 rfl rfl 4 (by decide) fl41 (fun _ h9 => h9) rfl hin rfl (by decide +kernel) rfl rfl (Nat.le_of_ble_eq_true rfl) dX0_init_69 (fun H locs hP _ hS => ?_)
  have hP : va_P D vwCl ([(h0, .inr (0, [.int (nI X), .int (nI Y), .int (nI (X + 2)), .ref q3, .ref q4, .null, .null, .null, .null, .ref q1, .ref q2, .int 0, .int 0, .int 0])), (q1, .inl (cI, 4, .inl (fun _ => 0))), (q2, .inl (cI, 4, .inl (fun _ => 0))), (q3, .inl (cI, ((X + 2) * (Y + 2)), .inl (fun _ => 0))), (q4, .inl (cI, ((X + 2) * (Y + 2)), .inl (fun _ => 0)))]) H := hP
  have hD : va_D A ([(h0, .inr (0, [.int (nI X), .int (nI Y), .int (nI (X + 2)), .ref q3, .ref q4, .null, .null, .null, .null, .ref q1, .ref q2, .int 0, .int 0, .int 0])), (q1, .inl (cI, 4, .inl (fun _ => 0))), (q2, .inl (cI, 4, .inl (fun _ => 0))), (q3, .inl (cI, ((X + 2) * (Y + 2)), .inl (fun _ => 0))), (q4, .inl (cI, ((X + 2) * (Y + 2)), .inl (fun _ => 0)))]) := aw_fst (by rfl) hD
  refine lv_aload_n hx hb dX0_init_72 rfl (lv_at hl 1 rfl) ?_
  refine lv_iload_n hx hb dX0_init_73 rfl (lv_at hl 0 rfl) ?_
  refine a_newi hx hb ac_int hK hP hD hS hA ((X + 2) * (Y + 2)) rfl (by have := hN9; omega) 5 440 (Nat.le_of_ble_eq_true rfl) (by have := hN9; omega) (Nat.le_of_ble_eq_true rfl) (Nat.le_of_ble_eq_true rfl) dX0_init_74 (fun q5 H hP hD hS => ?_)
  have hP : va_P D vwCl ([(h0, .inr (0, [.int (nI X), .int (nI Y), .int (nI (X + 2)), .ref q3, .ref q4, .null, .null, .null, .null, .ref q1, .ref q2, .int 0, .int 0, .int 0])), (q1, .inl (cI, 4, .inl (fun _ => 0))), (q2, .inl (cI, 4, .inl (fun _ => 0))), (q3, .inl (cI, ((X + 2) * (Y + 2)), .inl (fun _ => 0))), (q4, .inl (cI, ((X + 2) * (Y + 2)), .inl (fun _ => 0))), (q5, .inl (cI, ((X + 2) * (Y + 2)), .inl (fun _ => 0)))]) H := hP
  have hD : va_D A ([(h0, .inr (0, [.int (nI X), .int (nI Y), .int (nI (X + 2)), .ref q3, .ref q4, .null, .null, .null, .null, .ref q1, .ref q2, .int 0, .int 0, .int 0])), (q1, .inl (cI, 4, .inl (fun _ => 0))), (q2, .inl (cI, 4, .inl (fun _ => 0))), (q3, .inl (cI, ((X + 2) * (Y + 2)), .inl (fun _ => 0))), (q4, .inl (cI, ((X + 2) * (Y + 2)), .inl (fun _ => 0))), (q5, .inl (cI, ((X + 2) * (Y + 2)), .inl (fun _ => 0)))]) := hD
  refine va_putF (D := D) (cl := vwCl) (ci := 0) (v := .ref q5) (ty := (.array .int)) (C := RX0) (T := TX0) (N := 14) hx hb hts inX0 tyX0 tyX0_ok nmX0 hown hK hP hD hS 0 rfl rfl 5 (by decide) fl44 (fun _ h9 => h9) rfl hin rfl (by decide +kernel) rfl rfl (Nat.le_of_ble_eq_true rfl) dX0_init_76 (fun H locs hP _ hS => ?_)
  have hP : va_P D vwCl ([(h0, .inr (0, [.int (nI X), .int (nI Y), .int (nI (X + 2)), .ref q3, .ref q4, .ref q5, .null, .null, .null, .ref q1, .ref q2, .int 0, .int 0, .int 0])), (q1, .inl (cI, 4, .inl (fun _ => 0))), (q2, .inl (cI, 4, .inl (fun _ => 0))), (q3, .inl (cI, ((X + 2) * (Y + 2)), .inl (fun _ => 0))), (q4, .inl (cI, ((X + 2) * (Y + 2)), .inl (fun _ => 0))), (q5, .inl (cI, ((X + 2) * (Y + 2)), .inl (fun _ => 0)))]) H := hP
  have hD : va_D A ([(h0, .inr (0, [.int (nI X), .int (nI Y), .int (nI (X + 2)), .ref q3, .ref q4, .ref q5, .null, .null, .null, .ref q1, .ref q2, .int 0, .int 0, .int 0])), (q1, .inl (cI, 4, .inl (fun _ => 0))), (q2, .inl (cI, 4, .inl (fun _ => 0))), (q3, .inl (cI, ((X + 2) * (Y + 2)), .inl (fun _ => 0))), (q4, .inl (cI, ((X + 2) * (Y + 2)), .inl (fun _ => 0))), (q5, .inl (cI, ((X + 2) * (Y + 2)), .inl (fun _ => 0)))]) := aw_fst (by rfl) hD
  refine lv_aload_n hx hb dX0_init_79 rfl (lv_at hl 1 rfl) ?_
  refine lv_iload_n hx hb dX0_init_80 rfl (lv_at hl 0 rfl) ?_
  refine a_newi hx hb ac_int hK hP hD hS hA ((X + 2) * (Y + 2)) rfl (by have := hN9; omega) 6 584 (Nat.le_of_ble_eq_true rfl) (by have := hN9; omega) (Nat.le_of_ble_eq_true rfl) (Nat.le_of_ble_eq_true rfl) dX0_init_81 (fun q6 H hP hD hS => ?_)
  have hP : va_P D vwCl ([(h0, .inr (0, [.int (nI X), .int (nI Y), .int (nI (X + 2)), .ref q3, .ref q4, .ref q5, .null, .null, .null, .ref q1, .ref q2, .int 0, .int 0, .int 0])), (q1, .inl (cI, 4, .inl (fun _ => 0))), (q2, .inl (cI, 4, .inl (fun _ => 0))), (q3, .inl (cI, ((X + 2) * (Y + 2)), .inl (fun _ => 0))), (q4, .inl (cI, ((X + 2) * (Y + 2)), .inl (fun _ => 0))), (q5, .inl (cI, ((X + 2) * (Y + 2)), .inl (fun _ => 0))), (q6, .inl (cI, ((X + 2) * (Y + 2)), .inl (fun _ => 0)))]) H := hP
  have hD : va_D A ([(h0, .inr (0, [.int (nI X), .int (nI Y), .int (nI (X + 2)), .ref q3, .ref q4, .ref q5, .null, .null, .null, .ref q1, .ref q2, .int 0, .int 0, .int 0])), (q1, .inl (cI, 4, .inl (fun _ => 0))), (q2, .inl (cI, 4, .inl (fun _ => 0))), (q3, .inl (cI, ((X + 2) * (Y + 2)), .inl (fun _ => 0))), (q4, .inl (cI, ((X + 2) * (Y + 2)), .inl (fun _ => 0))), (q5, .inl (cI, ((X + 2) * (Y + 2)), .inl (fun _ => 0))), (q6, .inl (cI, ((X + 2) * (Y + 2)), .inl (fun _ => 0)))]) := hD
  refine va_putF (D := D) (cl := vwCl) (ci := 0) (v := .ref q6) (ty := (.array .int)) (C := RX0) (T := TX0) (N := 14) hx hb hts inX0 tyX0 tyX0_ok nmX0 hown hK hP hD hS 0 rfl rfl 6 (by decide) fl47 (fun _ h9 => h9) rfl hin rfl (by decide +kernel) rfl rfl (Nat.le_of_ble_eq_true rfl) dX0_init_83 (fun H locs hP _ hS => ?_)
  have hP : va_P D vwCl ([(h0, .inr (0, [.int (nI X), .int (nI Y), .int (nI (X + 2)), .ref q3, .ref q4, .ref q5, .ref q6, .null, .null, .ref q1, .ref q2, .int 0, .int 0, .int 0])), (q1, .inl (cI, 4, .inl (fun _ => 0))), (q2, .inl (cI, 4, .inl (fun _ => 0))), (q3, .inl (cI, ((X + 2) * (Y + 2)), .inl (fun _ => 0))), (q4, .inl (cI, ((X + 2) * (Y + 2)), .inl (fun _ => 0))), (q5, .inl (cI, ((X + 2) * (Y + 2)), .inl (fun _ => 0))), (q6, .inl (cI, ((X + 2) * (Y + 2)), .inl (fun _ => 0)))]) H := hP
  have hD : va_D A ([(h0, .inr (0, [.int (nI X), .int (nI Y), .int (nI (X + 2)), .ref q3, .ref q4, .ref q5, .ref q6, .null, .null, .ref q1, .ref q2, .int 0, .int 0, .int 0])), (q1, .inl (cI, 4, .inl (fun _ => 0))), (q2, .inl (cI, 4, .inl (fun _ => 0))), (q3, .inl (cI, ((X + 2) * (Y + 2)), .inl (fun _ => 0))), (q4, .inl (cI, ((X + 2) * (Y + 2)), .inl (fun _ => 0))), (q5, .inl (cI, ((X + 2) * (Y + 2)), .inl (fun _ => 0))), (q6, .inl (cI, ((X + 2) * (Y + 2)), .inl (fun _ => 0)))]) := aw_fst (by rfl) hD
  refine lv_aload_n hx hb dX0_init_86 rfl (lv_at hl 1 rfl) ?_
  refine lv_iload_n hx hb dX0_init_87 rfl (lv_at hl 0 rfl) ?_
  refine a_newi hx hb ac_int hK hP hD hS hA ((X + 2) * (Y + 2)) rfl (by have := hN9; omega) 7 728 (Nat.le_of_ble_eq_true rfl) (by have := hN9; omega) (Nat.le_of_ble_eq_true rfl) (Nat.le_of_ble_eq_true rfl) dX0_init_88 (fun q7 H hP hD hS => ?_)
  have hP : va_P D vwCl ([(h0, .inr (0, [.int (nI X), .int (nI Y), .int (nI (X + 2)), .ref q3, .ref q4, .ref q5, .ref q6, .null, .null, .ref q1, .ref q2, .int 0, .int 0, .int 0])), (q1, .inl (cI, 4, .inl (fun _ => 0))), (q2, .inl (cI, 4, .inl (fun _ => 0))), (q3, .inl (cI, ((X + 2) * (Y + 2)), .inl (fun _ => 0))), (q4, .inl (cI, ((X + 2) * (Y + 2)), .inl (fun _ => 0))), (q5, .inl (cI, ((X + 2) * (Y + 2)), .inl (fun _ => 0))), (q6, .inl (cI, ((X + 2) * (Y + 2)), .inl (fun _ => 0))), (q7, .inl (cI, ((X + 2) * (Y + 2)), .inl (fun _ => 0)))]) H := hP
  have hD : va_D A ([(h0, .inr (0, [.int (nI X), .int (nI Y), .int (nI (X + 2)), .ref q3, .ref q4, .ref q5, .ref q6, .null, .null, .ref q1, .ref q2, .int 0, .int 0, .int 0])), (q1, .inl (cI, 4, .inl (fun _ => 0))), (q2, .inl (cI, 4, .inl (fun _ => 0))), (q3, .inl (cI, ((X + 2) * (Y + 2)), .inl (fun _ => 0))), (q4, .inl (cI, ((X + 2) * (Y + 2)), .inl (fun _ => 0))), (q5, .inl (cI, ((X + 2) * (Y + 2)), .inl (fun _ => 0))), (q6, .inl (cI, ((X + 2) * (Y + 2)), .inl (fun _ => 0))), (q7, .inl (cI, ((X + 2) * (Y + 2)), .inl (fun _ => 0)))]) := hD
  refine va_putF (D := D) (cl := vwCl) (ci := 0) (v := .ref q7) (ty := (.array .int)) (C := RX0) (T := TX0) (N := 14) hx hb hts inX0 tyX0 tyX0_ok nmX0 hown hK hP hD hS 0 rfl rfl 7 (by decide) fl50 (fun _ h9 => h9) rfl hin rfl (by decide +kernel) rfl rfl (Nat.le_of_ble_eq_true rfl) dX0_init_90 (fun H locs hP _ hS => ?_)
  have hP : va_P D vwCl ([(h0, .inr (0, [.int (nI X), .int (nI Y), .int (nI (X + 2)), .ref q3, .ref q4, .ref q5, .ref q6, .ref q7, .null, .ref q1, .ref q2, .int 0, .int 0, .int 0])), (q1, .inl (cI, 4, .inl (fun _ => 0))), (q2, .inl (cI, 4, .inl (fun _ => 0))), (q3, .inl (cI, ((X + 2) * (Y + 2)), .inl (fun _ => 0))), (q4, .inl (cI, ((X + 2) * (Y + 2)), .inl (fun _ => 0))), (q5, .inl (cI, ((X + 2) * (Y + 2)), .inl (fun _ => 0))), (q6, .inl (cI, ((X + 2) * (Y + 2)), .inl (fun _ => 0))), (q7, .inl (cI, ((X + 2) * (Y + 2)), .inl (fun _ => 0)))]) H := hP
  have hD : va_D A ([(h0, .inr (0, [.int (nI X), .int (nI Y), .int (nI (X + 2)), .ref q3, .ref q4, .ref q5, .ref q6, .ref q7, .null, .ref q1, .ref q2, .int 0, .int 0, .int 0])), (q1, .inl (cI, 4, .inl (fun _ => 0))), (q2, .inl (cI, 4, .inl (fun _ => 0))), (q3, .inl (cI, ((X + 2) * (Y + 2)), .inl (fun _ => 0))), (q4, .inl (cI, ((X + 2) * (Y + 2)), .inl (fun _ => 0))), (q5, .inl (cI, ((X + 2) * (Y + 2)), .inl (fun _ => 0))), (q6, .inl (cI, ((X + 2) * (Y + 2)), .inl (fun _ => 0))), (q7, .inl (cI, ((X + 2) * (Y + 2)), .inl (fun _ => 0)))]) := aw_fst (by rfl) hD
  refine lv_aload_n hx hb dX0_init_93 rfl (lv_at hl 1 rfl) ?_
  refine lv_iload_n hx hb dX0_init_94 rfl (lv_at hl 0 rfl) ?_
  refine a_newi hx hb ac_int hK hP hD hS hA ((X + 2) * (Y + 2)) rfl (by have := hN9; omega) 8 872 (Nat.le_of_ble_eq_true rfl) (by have := hN9; omega) (Nat.le_of_ble_eq_true rfl) (Nat.le_of_ble_eq_true rfl) dX0_init_95 (fun q8 H hP hD hS => ?_)
  have hP : va_P D vwCl ([(h0, .inr (0, [.int (nI X), .int (nI Y), .int (nI (X + 2)), .ref q3, .ref q4, .ref q5, .ref q6, .ref q7, .null, .ref q1, .ref q2, .int 0, .int 0, .int 0])), (q1, .inl (cI, 4, .inl (fun _ => 0))), (q2, .inl (cI, 4, .inl (fun _ => 0))), (q3, .inl (cI, ((X + 2) * (Y + 2)), .inl (fun _ => 0))), (q4, .inl (cI, ((X + 2) * (Y + 2)), .inl (fun _ => 0))), (q5, .inl (cI, ((X + 2) * (Y + 2)), .inl (fun _ => 0))), (q6, .inl (cI, ((X + 2) * (Y + 2)), .inl (fun _ => 0))), (q7, .inl (cI, ((X + 2) * (Y + 2)), .inl (fun _ => 0))), (q8, .inl (cI, ((X + 2) * (Y + 2)), .inl (fun _ => 0)))]) H := hP
  have hD : va_D A ([(h0, .inr (0, [.int (nI X), .int (nI Y), .int (nI (X + 2)), .ref q3, .ref q4, .ref q5, .ref q6, .ref q7, .null, .ref q1, .ref q2, .int 0, .int 0, .int 0])), (q1, .inl (cI, 4, .inl (fun _ => 0))), (q2, .inl (cI, 4, .inl (fun _ => 0))), (q3, .inl (cI, ((X + 2) * (Y + 2)), .inl (fun _ => 0))), (q4, .inl (cI, ((X + 2) * (Y + 2)), .inl (fun _ => 0))), (q5, .inl (cI, ((X + 2) * (Y + 2)), .inl (fun _ => 0))), (q6, .inl (cI, ((X + 2) * (Y + 2)), .inl (fun _ => 0))), (q7, .inl (cI, ((X + 2) * (Y + 2)), .inl (fun _ => 0))), (q8, .inl (cI, ((X + 2) * (Y + 2)), .inl (fun _ => 0)))]) := hD
  refine va_putF (D := D) (cl := vwCl) (ci := 0) (v := .ref q8) (ty := (.array .int)) (C := RX0) (T := TX0) (N := 14) hx hb hts inX0 tyX0 tyX0_ok nmX0 hown hK hP hD hS 0 rfl rfl 8 (by decide) fl53 (fun _ h9 => h9) rfl hin rfl (by decide +kernel) rfl rfl (Nat.le_of_ble_eq_true rfl) dX0_init_97 (fun H locs hP _ hS => ?_)
  have hP : va_P D vwCl ([(h0, .inr (0, [.int (nI X), .int (nI Y), .int (nI (X + 2)), .ref q3, .ref q4, .ref q5, .ref q6, .ref q7, .ref q8, .ref q1, .ref q2, .int 0, .int 0, .int 0])), (q1, .inl (cI, 4, .inl (fun _ => 0))), (q2, .inl (cI, 4, .inl (fun _ => 0))), (q3, .inl (cI, ((X + 2) * (Y + 2)), .inl (fun _ => 0))), (q4, .inl (cI, ((X + 2) * (Y + 2)), .inl (fun _ => 0))), (q5, .inl (cI, ((X + 2) * (Y + 2)), .inl (fun _ => 0))), (q6, .inl (cI, ((X + 2) * (Y + 2)), .inl (fun _ => 0))), (q7, .inl (cI, ((X + 2) * (Y + 2)), .inl (fun _ => 0))), (q8, .inl (cI, ((X + 2) * (Y + 2)), .inl (fun _ => 0)))]) H := hP
  have hD : va_D A ([(h0, .inr (0, [.int (nI X), .int (nI Y), .int (nI (X + 2)), .ref q3, .ref q4, .ref q5, .ref q6, .ref q7, .ref q8, .ref q1, .ref q2, .int 0, .int 0, .int 0])), (q1, .inl (cI, 4, .inl (fun _ => 0))), (q2, .inl (cI, 4, .inl (fun _ => 0))), (q3, .inl (cI, ((X + 2) * (Y + 2)), .inl (fun _ => 0))), (q4, .inl (cI, ((X + 2) * (Y + 2)), .inl (fun _ => 0))), (q5, .inl (cI, ((X + 2) * (Y + 2)), .inl (fun _ => 0))), (q6, .inl (cI, ((X + 2) * (Y + 2)), .inl (fun _ => 0))), (q7, .inl (cI, ((X + 2) * (Y + 2)), .inl (fun _ => 0))), (q8, .inl (cI, ((X + 2) * (Y + 2)), .inl (fun _ => 0)))]) := aw_fst (by rfl) hD
  have hP9 : va_P D vwCl (wS (lk9 [q3, q4, q5, q6, q7, q8, q1, q2, h0]) cI X Y σ0) H := hP.sub [0, 3, 4, 5, 6, 7, 8, 1, 2] rfl
  have hD9 : va_D A (wS (lk9 [q3, q4, q5, q6, q7, q8, q1, q2, h0]) cI X Y σ0) := hD.sub [0, 3, 4, 5, 6, 7, 8, 1, 2] (by decide) rfl
  exact W.vret hx hb hr (fun t ht hW => ⟨⟨(lk9 [q3, q4, q5, q6, q7, q8, q1, q2, h0]), rfl, rfl, by rw [ht]; exact hP9, hD9⟩, hS.F ht⟩) hS.2.2 dX0_init_100
