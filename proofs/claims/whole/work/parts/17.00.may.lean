set_option maxHeartbeats 4000000 in
set_option maxRecDepth 100000 in
theorem k_X2_may (l : Launch) (D : va_G) (cI cJ : ClassId) (am : Nat → Nat) (X Y : Nat) (τ : Nat → Nat → Int32) (ℓ : Nat → Nat → Int64) (hB : 1 ≤ X ∧ X ≤ 10 ∧ 1 ≤ Y ∧ Y ≤ 10) (b : Int32) (hbn : narrow .boolean (.int b) = .int b) : wMet l yX2_may wsX2_may 0 0 D (tY cI cJ) (wM am cI cJ X Y τ ℓ) (wM am cI cJ X Y (up2 τ 5 0 (if b = 0 then 1 else 0)) ℓ) [.ref (am 6), .int b] (some (.int b)) := by
  refine Met.ofW (cc := cX2_may) (maxL := 2) (ret := (some .boolean)) (by decide) rfl ?_
  intro p e s m args below meth c s₁ B hml hv
  obtain ⟨rfl, hP, hK, hD0⟩ := hv
  have hx := B.exec
  have hb := B.bytes
  have hr := B.returns
  have hts := atoms_spec (ws := wsX2_may) B.pre
  have hown : s.vm.findClass RX2 = some m.cls := findClass_of_methodNamed B.named
  have hlocks := B.notSynchronized
  have inX2 : ∀ w ∈ wsX20, w ∈ wsX2_may := by decide +kernel
  have fl36 := hts (.fieldLink RX2 36 "BridgeCellsModel" "fault" "I") (by decide +kernel)
  have hl := lv_entry ([.ref (am 6), .int b]) (n := 2) (Nat.le_of_ble_eq_true rfl)
  rw [lg_entry_eq]
  generalize (lg_sl ([.ref (am 6), .int b]) ++ List.replicate (2 - (lg_sl ([.ref (am 6), .int b])).length) Slot.unset).toArray = ls at hl ⊢
  have hl : lv_has ls 2 [(0, .ref (am 6)), (1, .int b)] := hl
  have hD := aw_D hD0
  generalize hAe : aw (wM am cI cJ X Y τ ℓ) = A at hD ⊢
  have hS : va_S A s.heap s.heap [] := va_S.rf
  refine lv_aload_n hx hb dX2_may_0 rfl (lv_at hl 0 rfl) ?_
  refine W_jn (β := Int32) (fun b2 => b2 = (if b = 0 then 1 else 0)) (fun b2 => F0 m 10 ls [.int b2, .ref (am 6)]) (fun jn1 => ?_) (fun b2 eb2 => ?_)
  · -- roads to 10
    refine lv_iload_n hx hb dX2_may_1 rfl (lv_at hl 1 rfl) ?_
    refine lv_if_eq (tgt := 9) hx hb dX2_may_2 (by decide) (fun c3 => ?_) (fun c3 => ?_)
    · -- 9
      refine lv_iconst (v := 1) hx hb dX2_may_9 (by decide) ?_
      exact jn1 _ (by rw [if_pos c3])
    · -- 5
      refine lv_iconst (v := 0) hx hb dX2_may_5 (by decide) ?_
      refine lv_goto (tgt := 10) hx hb dX2_may_6 (by decide) ?_
      exact jn1 _ (by rw [if_neg c3])
  · -- on from 10
    subst eb2
    refine va_put (D := D) (cl := vwCl) (ci := 2) (v := .int (if b = 0 then 1 else 0)) (ty := .int) (C := RX2) (T := TX2) (N := 15) hx hb hts inX2 tyX2 tyX2_ok nmX2 hown hK hP hD hS 0 rfl rfl 2 (by decide) fl36 (fun _ h9 => h9) rfl (by decide +kernel) rfl rfl (Nat.le_of_ble_eq_true rfl) dX2_may_10 (fun H locs hP _ hS => ?_)
    obtain ⟨τ4, eτ4⟩ : ∃ z, z = up2 τ 5 0 (if b = 0 then 1 else 0) := ⟨_, rfl⟩
    replace hP : va_P D vwCl (wM am cI cJ X Y τ4 ℓ) H := by rw [eτ4]; exact hP
    have hP : va_P D vwCl (wM am cI cJ X Y τ4 ℓ) H := hP
    have hD : va_D A (wM am cI cJ X Y τ4 ℓ) := wM_D hD _ _
    refine lv_iload_n hx hb dX2_may_13 rfl (lv_at hl 1 rfl) ?_
    subst eτ4
    exact W.zret hx hb hr (hbn) (fun t ht _ => ⟨rfl, by rw [ht]; exact hP, by rw [hAe]; exact hS.F ht⟩) hS.2.2 dX2_may_14
