set_option maxHeartbeats 4000000 in
set_option maxRecDepth 100000 in
theorem k_X1_factor0_ok (l : Launch) (D : va_G) (cI cJ : ClassId) (ab ad : Nat → Nat) (X Y : Nat) (σ : Nat → Nat → Int32) (hh : Nat → Int64) (hw : Nat → Int32) (n : Int32) (hB : 1 ≤ X ∧ X ≤ 10 ∧ 1 ≤ Y ∧ Y ≤ 10) (sd : Nat) (hsd : sd < 4) : wMet l yX1_factor wsX1_factor 4 91 D (tY cI cJ) (wB ab ad cI cJ X Y σ hh hw n) (wB ab ad cI cJ X Y (f_settle X Y σ) hh hw n) [.ref (ab 0), .int (nI sd), .int (nI 0)] (some (.int (cFac X Y (f_settle X Y σ) sd 0))) := by
  refine Met.ofW (cc := cX1_factor) (maxL := 7) (ret := (some .int)) (by decide) rfl ?_
  intro p e s m args below meth c s₁ B hml hv
  obtain ⟨rfl, hP, hK, hD0⟩ := hv
  have hx := B.exec
  have hb := B.bytes
  have hr := B.returns
  have hts := atoms_spec (ws := wsX1_factor) B.pre
  have hown : s.vm.findClass RX1 = some m.cls := findClass_of_methodNamed B.named
  have hlocks := B.notSynchronized
  have inX1 : ∀ w ∈ wsX10, w ∈ wsX1_factor := by decide +kernel
  have fl35 := hts (.fieldLink RX1 35 "BridgeCells" "section" "LBridgeCells$Section;") (by decide +kernel)
  have hl := lv_entry ([.ref (ab 0), .int (nI sd), .int (nI 0)]) (n := 7) (Nat.le_of_ble_eq_true rfl)
  rw [lg_entry_eq]
  generalize (lg_sl ([.ref (ab 0), .int (nI sd), .int (nI 0)]) ++ List.replicate (7 - (lg_sl ([.ref (ab 0), .int (nI sd), .int (nI 0)])).length) Slot.unset).toArray = ls at hl ⊢
  have hl : lv_has ls 7 [(0, .ref (ab 0)), (1, .int (nI sd)), (2, .int (nI 0))] := hl
  have hD := aw_D hD0
  generalize hAe : aw (wB ab ad cI cJ X Y σ hh hw n) = A at hD ⊢
  have hS : va_S A s.heap s.heap [] := va_S.rf
  refine lv_iload_n hx hb dX1_factor_0 rfl (lv_at hl 1 rfl) ?_
  refine r_S ⟨hx, hb, hml, hown, hts⟩ (k_X1_isSide l D cI cJ (nI sd)) (va_cwS 1 hts gX1_factor_X1_isSide rfl rfl rfl (by decide +kernel) ⟨Nat.le_of_ble_eq_true rfl, Nat.le_of_ble_eq_true rfl⟩) P_nil hK rfl hl.1 rfl (Nat.le_of_ble_eq_true rfl) dX1_factor_1 (Nat.zero_le _) (Nat.zero_le _) ?_
  refine lv_if_ne (tgt := 17) hx hb dX1_factor_4 (by decide) (fun _ => ?_) (fun c9 => False.elim (ne10 (sd_in hsd) c9))
  refine lv_iload_n hx hb dX1_factor_17 rfl (lv_at hl 2 rfl) ?_
  refine lv_iconst (v := 0) hx hb dX1_factor_18 (by decide) ?_
  refine lv_iconst (v := 1) hx hb dX1_factor_19 (by decide) ?_
  refine r_S ⟨hx, hb, hml, hown, hts⟩ (k_X1_isWithin l D cI cJ (nI 0) 0 1) (va_cwS 3 hts gX1_factor_X1_isWithin rfl rfl rfl (by decide +kernel) ⟨Nat.le_of_ble_eq_true rfl, Nat.le_of_ble_eq_true rfl⟩) P_nil hK rfl hl.1 rfl (Nat.le_of_ble_eq_true rfl) dX1_factor_20 (Nat.zero_le _) (Nat.zero_le _) ?_
  refine lv_if_ne (tgt := 36) hx hb dX1_factor_23 (by decide) (fun _ => ?_) (fun c9 => False.elim (absurd c9 (by decide)))
  refine lv_aload_n hx hb dX1_factor_36 rfl (lv_at hl 0 rfl) ?_
  refine va_get (D := D) (cl := vwCl) (ci := 1) (v := .ref (ad 8)) (C := RX1) (T := TX1) (N := 4) hx hb hts inX1 hown hK hP 0 rfl rfl 0 (by decide) fl35 (fun _ h9 => h9) rfl dX1_factor_37 ?_
  refine w_V (A := A) ⟨hx, hb, hml, hown, hts⟩ (k_X0_settle l D cI cJ ad X Y σ hB  ) (cwV 0 hts gX1_factor_X0_settle rfl rfl rfl (by decide +kernel) ⟨Nat.le_of_ble_eq_true rfl, Nat.le_of_ble_eq_true rfl⟩) (wBh ab ad cI cJ hh hw n) ([]) hP hD hS hK (va_recv hK hP (ci := 0) (q0 := 3) rfl rfl) rfl hl.1 rfl (Nat.le_of_ble_eq_true rfl) dX1_factor_40 (Nat.zero_le _) (Nat.zero_le _) (fun H locs hP hS => ?_)
  have hP : va_P D vwCl (wB ab ad cI cJ X Y (f_settle X Y σ) hh hw n) H := hP
  have hD : va_D A (wB ab ad cI cJ X Y (f_settle X Y σ) hh hw n) := wB_D hD _ _ _ _
  refine lv_aload_n hx hb dX1_factor_43 rfl (lv_at hl 0 rfl) ?_
  refine va_get (D := D) (cl := vwCl) (ci := 1) (v := .ref (ad 8)) (C := RX1) (T := TX1) (N := 4) hx hb hts inX1 hown hK hP 0 rfl rfl 0 (by decide) fl35 (fun _ h9 => h9) rfl dX1_factor_44 ?_
  refine lv_iload_n hx hb dX1_factor_47 rfl (lv_at hl 1 rfl) ?_
  refine r_V ⟨hx, hb, hml, hown, hts⟩ (k_X0_coldestAlong l D cI cJ ad X Y (f_settle X Y σ) hB sd (hsd)) (cwV 1 hts gX1_factor_X0_coldestAlong rfl rfl rfl (by decide +kernel) ⟨Nat.le_of_ble_eq_true rfl, Nat.le_of_ble_eq_true rfl⟩) (va_P_split (va_P_split hP).2).1 hK (va_recv hK hP (ci := 0) (q0 := 3) rfl rfl) rfl hl.1 rfl (Nat.le_of_ble_eq_true rfl) dX1_factor_48 (Nat.zero_le _) (Nat.zero_le _) ?_
  refine lv_istore_n (lv' := [(3, .int (bO (coldS X Y (f_settle X Y σ) sd))), (0, .ref (ab 0)), (1, .int (nI sd)), (2, .int (nI 0))]) hx hb dX1_factor_51 rfl hl (by decide) rfl (fun ls hl => ?_)
  refine W_jw (β := Array Slot) (fun ls H1 L1 => lv_has ls 7 [(4, .int (cAb X Y (f_settle X Y σ) sd)), (5, .int (cBe X Y (f_settle X Y σ) sd)), (2, .int (nI 0)), (0, .ref (ab 0))] ∧ H1 = H ∧ L1 = locs) (fun ls => F0 m 88 ls []) (fun jx => ?_) (fun ls H1 L1 hq9 => ?_)
  · -- above and below
    rcases hq : coldS X Y (f_settle X Y σ) sd with _ | q
    · -- none
      rw [hq] at hl
      have hl : lv_has ls 7 [(3, .int (bO none)), (0, .ref (ab 0)), (1, .int (nI sd)), (2, .int (nI 0))] := hl
      refine lv_iload_n hx hb dX1_factor_52 rfl (lv_at hl 0 rfl) ?_
      refine lv_if_ge (tgt := 60) hx hb dX1_factor_53 (by decide) (fun c9 => False.elim (absurd c9 (by decide))) (fun _ => ?_)
      refine lv_iconst (v := 0) hx hb dX1_factor_56 (by decide) ?_
      refine lv_goto (tgt := 69) hx hb dX1_factor_57 (by decide) ?_
      refine lv_istore (lv' := [(4, .int 0), (3, .int (bO none)), (0, .ref (ab 0)), (1, .int (nI sd)), (2, .int (nI 0))]) hx hb dX1_factor_69 hl (by decide) rfl (fun ls hl => ?_)
      refine lv_iload_n hx hb dX1_factor_71 rfl (lv_at hl 1 rfl) ?_
      refine lv_if_ge (tgt := 79) hx hb dX1_factor_72 (by decide) (fun c9 => False.elim (absurd c9 (by decide))) (fun _ => ?_)
      refine lv_iconst (v := 0) hx hb dX1_factor_75 (by decide) ?_
      refine lv_goto (tgt := 86) hx hb dX1_factor_76 (by decide) ?_
      refine lv_istore (lv' := [(5, .int 0), (4, .int 0), (3, .int (bO none)), (0, .ref (ab 0)), (1, .int (nI sd)), (2, .int (nI 0))]) hx hb dX1_factor_86 hl (by decide) rfl (fun ls hl => ?_)
      have ea : 0 = cAb X Y (f_settle X Y σ) sd := by unfold cAb; rw [hq]
      have eb9 : 0 = cBe X Y (f_settle X Y σ) sd := by unfold cBe; rw [hq]
      exact jx _ _ _ ⟨by rw [← ea, ← eb9]; exact lv_sub hl [1, 0, 5, 3] rfl, rfl, rfl⟩
    · -- some
      rw [hq] at hl
      have hl : lv_has ls 7 [(3, .int (nI q)), (0, .ref (ab 0)), (1, .int (nI sd)), (2, .int (nI 0))] := hl
      have hq2 : q < cAlong X Y sd := cold_lt hq
      have hc9 := cA_le (sd := sd) hB
      refine lv_iload_n hx hb dX1_factor_52 rfl (lv_at hl 0 rfl) ?_
      refine lv_if_ge (tgt := 60) hx hb dX1_factor_53 (by decide) (fun _ => ?_) (fun c9 => False.elim (c9 (nI_pos' (by omega))))
      refine lv_aload_n hx hb dX1_factor_60 rfl (lv_at hl 1 rfl) ?_
      refine va_get (D := D) (cl := vwCl) (ci := 1) (v := .ref (ad 8)) (C := RX1) (T := TX1) (N := 4) hx hb hts inX1 hown hK hP 0 rfl rfl 0 (by decide) fl35 (fun _ h9 => h9) rfl dX1_factor_61 ?_
      refine lv_iload_n hx hb dX1_factor_64 rfl (lv_at hl 2 rfl) ?_
      refine lv_iload_n hx hb dX1_factor_65 rfl (lv_at hl 0 rfl) ?_
      refine r_V ⟨hx, hb, hml, hown, hts⟩ (k_X0_aboveLow l D cI cJ ad X Y (f_settle X Y σ) hB sd q (hsd) (hq2)) (cwV 2 hts gX1_factor_X0_aboveLow rfl rfl rfl (by decide +kernel) ⟨Nat.le_of_ble_eq_true rfl, Nat.le_of_ble_eq_true rfl⟩) (va_P_split (va_P_split hP).2).1 hK (va_recv hK hP (ci := 0) (q0 := 3) rfl rfl) rfl hl.1 rfl (Nat.le_of_ble_eq_true rfl) dX1_factor_66 (Nat.zero_le _) (Nat.zero_le _) ?_
      refine lv_istore (lv' := [(4, .int ((f_settle X Y σ) 1 (clA X Y sd q) - (f_settle X Y σ) 8 0)), (3, .int (nI q)), (0, .ref (ab 0)), (1, .int (nI sd)), (2, .int (nI 0))]) hx hb dX1_factor_69 hl (by decide) rfl (fun ls hl => ?_)
      refine lv_iload_n hx hb dX1_factor_71 rfl (lv_at hl 1 rfl) ?_
      refine lv_if_ge (tgt := 79) hx hb dX1_factor_72 (by decide) (fun _ => ?_) (fun c9 => False.elim (c9 (nI_pos' (by omega))))
      refine lv_aload_n hx hb dX1_factor_79 rfl (lv_at hl 2 rfl) ?_
      refine va_get (D := D) (cl := vwCl) (ci := 1) (v := .ref (ad 8)) (C := RX1) (T := TX1) (N := 4) hx hb hts inX1 hown hK hP 0 rfl rfl 0 (by decide) fl35 (fun _ h9 => h9) rfl dX1_factor_80 ?_
      refine r_V ⟨hx, hb, hml, hown, hts⟩ (k_X0_highAboveLow l D cI cJ ad X Y (f_settle X Y σ) hB) (cwV 0 hts gX1_factor_X0_highAboveLow rfl rfl rfl (by decide +kernel) ⟨Nat.le_of_ble_eq_true rfl, Nat.le_of_ble_eq_true rfl⟩) (va_P_split (va_P_split hP).2).1 hK (va_recv hK hP (ci := 0) (q0 := 3) rfl rfl) rfl hl.1 rfl (Nat.le_of_ble_eq_true rfl) dX1_factor_83 (Nat.zero_le _) (Nat.zero_le _) ?_
      refine lv_istore (lv' := [(5, .int ((f_settle X Y σ) 8 1 - (f_settle X Y σ) 8 0)), (4, .int ((f_settle X Y σ) 1 (clA X Y sd q) - (f_settle X Y σ) 8 0)), (3, .int (nI q)), (0, .ref (ab 0)), (1, .int (nI sd)), (2, .int (nI 0))]) hx hb dX1_factor_86 hl (by decide) rfl (fun ls hl => ?_)
      have ea : (f_settle X Y σ) 1 (clA X Y sd q) - (f_settle X Y σ) 8 0 = cAb X Y (f_settle X Y σ) sd := by unfold cAb; rw [hq]
      have eb9 : (f_settle X Y σ) 8 1 - (f_settle X Y σ) 8 0 = cBe X Y (f_settle X Y σ) sd := by unfold cBe; rw [hq]
      exact jx _ _ _ ⟨by rw [← ea, ← eb9]; exact lv_sub hl [1, 0, 5, 3] rfl, rfl, rfl⟩
  · -- the answer
    obtain ⟨hl, rfl, rfl⟩ := hq9
    refine lv_iload hx hb dX1_factor_88 (lv_at hl 0 rfl) ?_
    refine lv_iload hx hb dX1_factor_90 (lv_at hl 1 rfl) ?_
    refine r_S ⟨hx, hb, hml, hown, hts⟩ (k_X1_commonDivisor l D cI cJ (cAb X Y (f_settle X Y σ) sd) (cBe X Y (f_settle X Y σ) sd)) (va_cwS 2 hts gX1_factor_X1_commonDivisor rfl rfl rfl (by decide +kernel) ⟨Nat.le_of_ble_eq_true rfl, Nat.le_of_ble_eq_true rfl⟩) P_nil hK rfl hl.1 rfl (Nat.le_of_ble_eq_true rfl) dX1_factor_92 (Nat.zero_le _) (Nat.zero_le _) ?_
    refine lv_istore (lv' := [(6, .int ((n_g (cAb X Y (f_settle X Y σ) sd) (cBe X Y (f_settle X Y σ) sd) 64).1)), (4, .int (cAb X Y (f_settle X Y σ) sd)), (5, .int (cBe X Y (f_settle X Y σ) sd)), (2, .int (nI 0)), (0, .ref (ab 0))]) hx hb dX1_factor_95 hl (by decide) rfl (fun ls hl => ?_)
    refine lv_iload hx hb dX1_factor_97 (lv_at hl 2 rfl) ?_
    refine lv_if_eq (tgt := 107) hx hb dX1_factor_99 (by decide) (fun c99 => ?_) (fun c99 => ?_)
    · -- 107
      refine lv_iload_n hx hb dX1_factor_107 rfl (lv_at hl 3 rfl) ?_
      refine lv_if_ne (tgt := 115) hx hb dX1_factor_108 (by decide) (fun c9 => False.elim (c9 rfl)) (fun _ => ?_)
      refine lv_iconst (v := 0) hx hb dX1_factor_111 (by decide) ?_
      refine lv_goto (tgt := 116) hx hb dX1_factor_112 (by decide) ?_
      exact W.iret hx hb hr (fun t ht _ => ⟨by unfold cFac; rw [if_pos c99]; rfl, by rw [ht]; exact hP, by rw [hAe]; exact hS.F ht⟩) hS.2.2 dX1_factor_116
    · -- 102
      refine lv_iload hx hb dX1_factor_102 (lv_at hl 0 rfl) ?_
      refine lv_if_ne (tgt := 117) hx hb dX1_factor_104 (by decide) (fun c104 => ?_) (fun c104 => ?_)
      · -- 117
        refine lv_iload_n hx hb dX1_factor_117 rfl (lv_at hl 3 rfl) ?_
        refine lv_if_ne (tgt := 129) hx hb dX1_factor_118 (by decide) (fun c9 => False.elim (c9 rfl)) (fun _ => ?_)
        refine lv_iload hx hb dX1_factor_121 (lv_at hl 1 rfl) ?_
        refine lv_iload hx hb dX1_factor_123 (lv_at hl 0 rfl) ?_
        refine lv_idiv hx hb dX1_factor_125 (c104) ?_
        refine lv_goto (tgt := 134) hx hb dX1_factor_126 (by decide) ?_
        exact W.iret hx hb hr (fun t ht _ => ⟨by unfold cFac; rw [if_neg c99]; exact congrArg (fun z => Outcome.returned (some (Value.int z))) ((if_neg c104).symm), by rw [ht]; exact hP, by rw [hAe]; exact hS.F ht⟩) hS.2.2 dX1_factor_134
      · -- 107
        refine lv_iload_n hx hb dX1_factor_107 rfl (lv_at hl 3 rfl) ?_
        refine lv_if_ne (tgt := 115) hx hb dX1_factor_108 (by decide) (fun c9 => False.elim (c9 rfl)) (fun _ => ?_)
        refine lv_iconst (v := 0) hx hb dX1_factor_111 (by decide) ?_
        refine lv_goto (tgt := 116) hx hb dX1_factor_112 (by decide) ?_
        exact W.iret hx hb hr (fun t ht _ => ⟨by unfold cFac; rw [if_neg c99]; exact congrArg (fun z => Outcome.returned (some (Value.int z))) ((if_pos c104).symm), by rw [ht]; exact hP, by rw [hAe]; exact hS.F ht⟩) hS.2.2 dX1_factor_116
