set_option maxHeartbeats 4000000 in
set_option maxRecDepth 100000 in
theorem k_X2_least_no (l : Launch) (D : va_G) (cI cJ : ClassId) (am : Nat → Nat) (X Y : Nat) (τ : Nat → Nat → Int32) (ℓ : Nat → Nat → Int64) (hB : 1 ≤ X ∧ X ≤ 10 ∧ 1 ≤ Y ∧ Y ≤ 10) (s0 w : Int32) (hv : vTwo s0 w = 0) : wMet l yX2_least wsX2_least 1 22 D (tY cI cJ) (wM am cI cJ X Y τ ℓ) (wM am cI cJ X Y (up2 τ 5 0 1) ℓ) [.ref (am 6), .int s0, .int w] (some (.int 0)) := by
  refine Met.ofW (cc := cX2_least) (maxL := 4) (ret := (some .int)) (by decide) rfl ?_
  intro p e s m args below meth c s₁ B hml hv
  obtain ⟨rfl, hP, hK, hD0⟩ := hv
  have hx := B.exec
  have hb := B.bytes
  have hr := B.returns
  have hts := atoms_spec (ws := wsX2_least) B.pre
  have hown : s.vm.findClass RX2 = some m.cls := findClass_of_methodNamed B.named
  have hlocks := B.notSynchronized
  have hl := lv_entry ([.ref (am 6), .int s0, .int w]) (n := 4) (Nat.le_of_ble_eq_true rfl)
  rw [lg_entry_eq]
  generalize (lg_sl ([.ref (am 6), .int s0, .int w]) ++ List.replicate (4 - (lg_sl ([.ref (am 6), .int s0, .int w])).length) Slot.unset).toArray = ls at hl ⊢
  have hl : lv_has ls 4 [(0, .ref (am 6)), (1, .int s0), (2, .int w)] := hl
  have hD := aw_D hD0
  generalize hAe : aw (wM am cI cJ X Y τ ℓ) = A at hD ⊢
  have hS : va_S A s.heap s.heap [] := va_S.rf
  refine lv_aload_n hx hb dX2_least_0 rfl (lv_at hl 0 rfl) ?_
  refine W_jn (β := Int32) (fun b2 => b2 = vTwo s0 w) (fun b2 => F0 m 24 ls [.int b2, .ref (am 6)]) (fun jn1 => ?_) (fun b2 eb2 => ?_)
  · -- roads to 24
    refine lv_iload_n hx hb dX2_least_1 rfl (lv_at hl 1 rfl) ?_
    refine lv_iconst (v := 0) hx hb dX2_least_2 (by decide) ?_
    refine lv_iconst (v := 3) hx hb dX2_least_3 (by decide) ?_
    refine r_S ⟨hx, hb, hml, hown, hts⟩ (k_X2_in l D cI cJ s0 0 3) (va_cwS 3 hts gX2_least_X2_in rfl rfl rfl (by decide +kernel) ⟨Nat.le_of_ble_eq_true rfl, Nat.le_of_ble_eq_true rfl⟩) P_nil hK rfl hl.1 rfl (Nat.le_of_ble_eq_true rfl) dX2_least_4 (Nat.zero_le _) (Nat.zero_le _) ?_
    refine lv_if_eq (tgt := 23) hx hb dX2_least_7 (by decide) (fun c3 => ?_) (fun c3 => ?_)
    · -- 23
      refine lv_iconst (v := 0) hx hb dX2_least_23 (by decide) ?_
      exact jn1 _ (by unfold vTwo; rw [if_pos c3])
    · -- 10
      refine lv_iload_n hx hb dX2_least_10 rfl (lv_at hl 2 rfl) ?_
      refine lv_iconst (v := 0) hx hb dX2_least_11 (by decide) ?_
      refine lv_iconst (v := 1) hx hb dX2_least_12 (by decide) ?_
      refine r_S ⟨hx, hb, hml, hown, hts⟩ (k_X2_in l D cI cJ w 0 1) (va_cwS 3 hts gX2_least_X2_in rfl rfl rfl (by decide +kernel) ⟨Nat.le_of_ble_eq_true rfl, Nat.le_of_ble_eq_true rfl⟩) P_nil hK rfl hl.1 rfl (Nat.le_of_ble_eq_true rfl) dX2_least_13 (Nat.zero_le _) (Nat.zero_le _) ?_
      refine lv_if_eq (tgt := 23) hx hb dX2_least_16 (by decide) (fun c4 => ?_) (fun c4 => ?_)
      · -- 23
        refine lv_iconst (v := 0) hx hb dX2_least_23 (by decide) ?_
        exact jn1 _ (by unfold vTwo; rw [if_neg c3, if_pos c4])
      · -- 19
        refine lv_iconst (v := 1) hx hb dX2_least_19 (by decide) ?_
        refine lv_goto (tgt := 24) hx hb dX2_least_20 (by decide) ?_
        exact jn1 _ (by unfold vTwo; rw [if_neg c3, if_neg c4])
  · -- on from 24
    subst eb2
    refine w_V (A := A) ⟨hx, hb, hml, hown, hts⟩ (k_X2_may l D cI cJ am X Y τ ℓ hB (vTwo s0 w) (by unfold vTwo; repeat (first | rfl | split))) (cwV 1 hts gX2_least_X2_may rfl rfl rfl (by decide +kernel) ⟨Nat.le_of_ble_eq_true rfl, Nat.le_of_ble_eq_true rfl⟩) ([]) ([]) hP hD hS hK (va_recv hK hP (ci := 2) (q0 := 0) rfl rfl) rfl hl.1 rfl (Nat.le_of_ble_eq_true rfl) dX2_least_24 (Nat.zero_le _) (Nat.zero_le _) (fun H locs hP hS => ?_)
    have hP : va_P D vwCl (wM am cI cJ X Y (up2 τ 5 0 (if (vTwo s0 w) = 0 then 1 else 0)) ℓ) H := hP
    have hD : va_D A (wM am cI cJ X Y (up2 τ 5 0 (if (vTwo s0 w) = 0 then 1 else 0)) ℓ) := wM_D hD _ _
    refine lv_if_ne (tgt := 32) hx hb dX2_least_27 (by decide) (fun c9 => absurd hv c9) (fun _ => ?_)
    rw [if_pos hv] at hP
    have hD : va_D A (wM am cI cJ X Y (up2 τ 5 0 1) ℓ) := wM_D hD _ _
    refine lv_iconst (v := 0) hx hb dX2_least_30 (by decide) ?_
    exact W.iret hx hb hr (fun t ht _ => ⟨rfl, by rw [ht]; exact hP, by rw [hAe]; exact hS.F ht⟩) hS.2.2 dX2_least_31
