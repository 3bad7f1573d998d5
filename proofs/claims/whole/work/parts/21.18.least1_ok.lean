set_option maxHeartbeats 4000000 in
set_option maxRecDepth 100000 in
theorem k_X1_least1_ok (l : Launch) (D : va_G) (cI cJ : ClassId) (ab ad : Nat → Nat) (X Y : Nat) (σ : Nat → Nat → Int32) (hh : Nat → Int64) (hw : Nat → Int32) (n : Int32) (hB : 1 ≤ X ∧ X ≤ 10 ∧ 1 ≤ Y ∧ Y ≤ 10) (sd : Nat) (hsd : sd < 4) : wMet l yX1_least wsX1_least 4 91 D (tY cI cJ) (wB ab ad cI cJ X Y σ hh hw n) (wB ab ad cI cJ X Y (f_settle X Y σ) hh hw n) [.ref (ab 0), .int (nI sd), .int (nI 1)] (some (.int (cLeast X Y (f_settle X Y σ) sd 1))) := by
  refine Met.ofW (cc := cX1_least) (maxL := 4) (ret := (some .int)) (by decide) rfl ?_
  intro p e s m args below meth c s₁ B hml hv
  obtain ⟨rfl, hP, hK, hD0⟩ := hv
  have hx := B.exec
  have hb := B.bytes
  have hr := B.returns
  have hts := atoms_spec (ws := wsX1_least) B.pre
  have hown : s.vm.findClass RX1 = some m.cls := findClass_of_methodNamed B.named
  have hlocks := B.notSynchronized
  have inX1 : ∀ w ∈ wsX10, w ∈ wsX1_least := by decide +kernel
  have fl35 := hts (.fieldLink RX1 35 "BridgeCells" "section" "LBridgeCells$Section;") (by decide +kernel)
  have cn112 := hts (.constant RX1 112 (-1000000)) (by decide +kernel)
  have hl := lv_entry ([.ref (ab 0), .int (nI sd), .int (nI 1)]) (n := 4) (Nat.le_of_ble_eq_true rfl)
  rw [lg_entry_eq]
  generalize (lg_sl ([.ref (ab 0), .int (nI sd), .int (nI 1)]) ++ List.replicate (4 - (lg_sl ([.ref (ab 0), .int (nI sd), .int (nI 1)])).length) Slot.unset).toArray = ls at hl ⊢
  have hl : lv_has ls 4 [(0, .ref (ab 0)), (1, .int (nI sd)), (2, .int (nI 1))] := hl
  have hD := aw_D hD0
  generalize hAe : aw (wB ab ad cI cJ X Y σ hh hw n) = A at hD ⊢
  have hS : va_S A s.heap s.heap [] := va_S.rf
  refine lv_iload_n hx hb dX1_least_0 rfl (lv_at hl 1 rfl) ?_
  refine r_S ⟨hx, hb, hml, hown, hts⟩ (k_X1_isSide l D cI cJ (nI sd)) (va_cwS 1 hts gX1_least_X1_isSide rfl rfl rfl (by decide +kernel) ⟨Nat.le_of_ble_eq_true rfl, Nat.le_of_ble_eq_true rfl⟩) P_nil hK rfl hl.1 rfl (Nat.le_of_ble_eq_true rfl) dX1_least_1 (Nat.zero_le _) (Nat.zero_le _) ?_
  refine lv_if_ne (tgt := 17) hx hb dX1_least_4 (by decide) (fun _ => ?_) (fun c9 => False.elim (ne10 (sd_in hsd) c9))
  refine lv_iload_n hx hb dX1_least_17 rfl (lv_at hl 2 rfl) ?_
  refine lv_iconst (v := 0) hx hb dX1_least_18 (by decide) ?_
  refine lv_iconst (v := 1) hx hb dX1_least_19 (by decide) ?_
  refine r_S ⟨hx, hb, hml, hown, hts⟩ (k_X1_isWithin l D cI cJ (nI 1) 0 1) (va_cwS 3 hts gX1_least_X1_isWithin rfl rfl rfl (by decide +kernel) ⟨Nat.le_of_ble_eq_true rfl, Nat.le_of_ble_eq_true rfl⟩) P_nil hK rfl hl.1 rfl (Nat.le_of_ble_eq_true rfl) dX1_least_20 (Nat.zero_le _) (Nat.zero_le _) ?_
  refine lv_if_ne (tgt := 36) hx hb dX1_least_23 (by decide) (fun _ => ?_) (fun c9 => False.elim (absurd c9 (by decide)))
  refine lv_aload_n hx hb dX1_least_36 rfl (lv_at hl 0 rfl) ?_
  refine va_get (D := D) (cl := vwCl) (ci := 1) (v := .ref (ad 8)) (C := RX1) (T := TX1) (N := 4) hx hb hts inX1 hown hK hP 0 rfl rfl 0 (by decide) fl35 (fun _ h9 => h9) rfl dX1_least_37 ?_
  refine w_V (A := A) ⟨hx, hb, hml, hown, hts⟩ (k_X0_settle l D cI cJ ad X Y σ hB  ) (cwV 0 hts gX1_least_X0_settle rfl rfl rfl (by decide +kernel) ⟨Nat.le_of_ble_eq_true rfl, Nat.le_of_ble_eq_true rfl⟩) (wBh ab ad cI cJ hh hw n) ([]) hP hD hS hK (va_recv hK hP (ci := 0) (q0 := 3) rfl rfl) rfl hl.1 rfl (Nat.le_of_ble_eq_true rfl) dX1_least_40 (Nat.zero_le _) (Nat.zero_le _) (fun H locs hP hS => ?_)
  have hP : va_P D vwCl (wB ab ad cI cJ X Y (f_settle X Y σ) hh hw n) H := hP
  have hD : va_D A (wB ab ad cI cJ X Y (f_settle X Y σ) hh hw n) := wB_D hD _ _ _ _
  refine lv_aload_n hx hb dX1_least_43 rfl (lv_at hl 0 rfl) ?_
  refine va_get (D := D) (cl := vwCl) (ci := 1) (v := .ref (ad 8)) (C := RX1) (T := TX1) (N := 4) hx hb hts inX1 hown hK hP 0 rfl rfl 0 (by decide) fl35 (fun _ h9 => h9) rfl dX1_least_44 ?_
  refine lv_iload_n hx hb dX1_least_47 rfl (lv_at hl 1 rfl) ?_
  refine r_V ⟨hx, hb, hml, hown, hts⟩ (k_X0_coldestAlong l D cI cJ ad X Y (f_settle X Y σ) hB sd (hsd)) (cwV 1 hts gX1_least_X0_coldestAlong rfl rfl rfl (by decide +kernel) ⟨Nat.le_of_ble_eq_true rfl, Nat.le_of_ble_eq_true rfl⟩) (va_P_split (va_P_split hP).2).1 hK (va_recv hK hP (ci := 0) (q0 := 3) rfl rfl) rfl hl.1 rfl (Nat.le_of_ble_eq_true rfl) dX1_least_48 (Nat.zero_le _) (Nat.zero_le _) ?_
  refine lv_istore_n (lv' := [(3, .int (bO (coldS X Y (f_settle X Y σ) sd))), (0, .ref (ab 0)), (1, .int (nI sd)), (2, .int (nI 1))]) hx hb dX1_least_51 rfl hl (by decide) rfl (fun ls hl => ?_)
  rcases hq : coldS X Y (f_settle X Y σ) sd with _ | q
  · -- none
    rw [hq] at hl
    have hl : lv_has ls 4 [(3, .int (bO none)), (0, .ref (ab 0)), (1, .int (nI sd)), (2, .int (nI 1))] := hl
    refine lv_iload_n hx hb dX1_least_52 rfl (lv_at hl 0 rfl) ?_
    refine lv_if_ge (tgt := 59) hx hb dX1_least_53 (by decide) (fun c9 => False.elim (absurd c9 (by decide))) (fun _ => ?_)
    refine lv_ldc hx hb hown cn112 dX1_least_56 ?_
    exact W.iret hx hb hr (fun t ht _ => ⟨by unfold cLeast; rw [hq]; try rfl, by rw [ht]; exact hP, by rw [hAe]; exact hS.F ht⟩) hS.2.2 dX1_least_58
  · -- some
    rw [hq] at hl
    have hl : lv_has ls 4 [(3, .int (nI q)), (0, .ref (ab 0)), (1, .int (nI sd)), (2, .int (nI 1))] := hl
    have hq2 : q < cAlong X Y sd := cold_lt hq
    have hc9 := cA_le (sd := sd) hB
    refine lv_iload_n hx hb dX1_least_52 rfl (lv_at hl 0 rfl) ?_
    refine lv_if_ge (tgt := 59) hx hb dX1_least_53 (by decide) (fun _ => ?_) (fun c9 => False.elim (c9 (nI_pos' (by omega))))
    refine lv_iload_n hx hb dX1_least_59 rfl (lv_at hl 3 rfl) ?_
    refine lv_if_ne (tgt := 75) hx hb dX1_least_60 (by decide) (fun _ => ?_) (fun c9 => False.elim (absurd c9 (by decide)))
    refine lv_iload_n hx hb dX1_least_75 rfl (lv_at hl 0 rfl) ?_
    exact W.iret hx hb hr (fun t ht _ => ⟨by unfold cLeast; rw [hq]; try rfl, by rw [ht]; exact hP, by rw [hAe]; exact hS.F ht⟩) hS.2.2 dX1_least_76
