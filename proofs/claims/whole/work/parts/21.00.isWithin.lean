set_option maxHeartbeats 4000000 in
set_option maxRecDepth 100000 in
theorem k_X1_isWithin (l : Launch) (D : va_G) (cI cJ : ClassId) (v a b : Int32)  : rMet l yX1_isWithin wsX1_isWithin 0 0 D (tY cI cJ) ([]) [.int v, .int a, .int b] (.int (mIn v a b)) := by
  refine Met.ofW (cc := cX1_isWithin) (maxL := 3) (ret := (some .boolean)) (by decide) rfl ?_
  intro p e s m args below meth c s₁ B hml hv
  obtain ⟨rfl, hP, hK⟩ := hv
  have hx := B.exec
  have hb := B.bytes
  have hr := B.returns
  have hts := atoms_spec (ws := wsX1_isWithin) B.pre
  have hown : s.vm.findClass RX1 = some m.cls := findClass_of_methodNamed B.named
  have hlocks := B.notSynchronized
  have hl := lv_entry ([.int v, .int a, .int b]) (n := 3) (Nat.le_of_ble_eq_true rfl)
  rw [lg_entry_eq]
  generalize (lg_sl ([.int v, .int a, .int b]) ++ List.replicate (3 - (lg_sl ([.int v, .int a, .int b])).length) Slot.unset).toArray = ls at hl ⊢
  have hl : lv_has ls 3 [(0, .int v), (1, .int a), (2, .int b)] := hl
  refine lv_iload_n hx hb dX1_isWithin_0 rfl (lv_at hl 0 rfl) ?_
  refine lv_iload_n hx hb dX1_isWithin_1 rfl (lv_at hl 1 rfl) ?_
  refine lv_icmp_lt (tgt := 14) hx hb dX1_isWithin_2 (by decide) (fun c1 => ?_) (fun c1 => ?_)
  · -- 14
    refine lv_iconst (v := 0) hx hb dX1_isWithin_14 (by decide) ?_
    refine top_eq (y := mIn v a b) (by unfold mIn; rw [if_pos c1]) ?_
    exact W.zret hx hb hr (mIn_n v a b) (fun t ht _ => ⟨rfl, ht⟩) (fun q h => nomatch h) dX1_isWithin_15
  · -- 5
    refine lv_iload_n hx hb dX1_isWithin_5 rfl (lv_at hl 0 rfl) ?_
    refine lv_iload_n hx hb dX1_isWithin_6 rfl (lv_at hl 2 rfl) ?_
    refine lv_icmp_gt (tgt := 14) hx hb dX1_isWithin_7 (by decide) (fun c2 => ?_) (fun c2 => ?_)
    · -- 14
      refine lv_iconst (v := 0) hx hb dX1_isWithin_14 (by decide) ?_
      refine top_eq (y := mIn v a b) (by unfold mIn; rw [if_neg c1, if_pos c2]) ?_
      exact W.zret hx hb hr (mIn_n v a b) (fun t ht _ => ⟨rfl, ht⟩) (fun q h => nomatch h) dX1_isWithin_15
    · -- 10
      refine lv_iconst (v := 1) hx hb dX1_isWithin_10 (by decide) ?_
      refine lv_goto (tgt := 15) hx hb dX1_isWithin_11 (by decide) ?_
      refine top_eq (y := mIn v a b) (by unfold mIn; rw [if_neg c1, if_neg c2]) ?_
      exact W.zret hx hb hr (mIn_n v a b) (fun t ht _ => ⟨rfl, ht⟩) (fun q h => nomatch h) dX1_isWithin_15
