set_option maxHeartbeats 4000000 in
set_option maxRecDepth 100000 in
theorem k_X1_commonDivisor (l : Launch) (D : va_G) (cI cJ : ClassId) (a b : Int32)  : rMet l yX1_commonDivisor wsX1_commonDivisor 0 0 D (tY cI cJ) ([]) [.int a, .int b] (.int ((n_g a b 64).1)) := by
  refine Met.ofW (cc := cX1_commonDivisor) (maxL := 6) (ret := (some .int)) (by decide) rfl ?_
  intro p e s m args below meth c s₁ B hml hv
  obtain ⟨rfl, hP, hK⟩ := hv
  have hx := B.exec
  have hb := B.bytes
  have hr := B.returns
  have hts := atoms_spec (ws := wsX1_commonDivisor) B.pre
  have hown : s.vm.findClass RX1 = some m.cls := findClass_of_methodNamed B.named
  have hlocks := B.notSynchronized
  have hl := lv_entry ([.int a, .int b]) (n := 6) (Nat.le_of_ble_eq_true rfl)
  rw [lg_entry_eq]
  generalize (lg_sl ([.int a, .int b]) ++ List.replicate (6 - (lg_sl ([.int a, .int b])).length) Slot.unset).toArray = ls at hl ⊢
  have hl : lv_has ls 6 [(0, .int a), (1, .int b)] := hl
  refine lv_iload_n hx hb dX1_commonDivisor_0 rfl (lv_at hl 0 rfl) ?_
  refine lv_istore_n (lv' := [(2, .int a), (0, .int a), (1, .int b)]) hx hb dX1_commonDivisor_1 rfl hl (by decide) rfl (fun ls hl => ?_)
  refine lv_iload_n hx hb dX1_commonDivisor_2 rfl (lv_at hl 2 rfl) ?_
  refine lv_istore_n (lv' := [(3, .int b), (2, .int a), (0, .int a), (1, .int b)]) hx hb dX1_commonDivisor_3 rfl hl (by decide) rfl (fun ls hl => ?_)
  refine lv_iconst (v := nI 0) hx hb dX1_commonDivisor_4 (by decide) ?_
  refine lv_istore (lv' := [(4, .int (nI 0)), (3, .int b), (2, .int a), (0, .int a), (1, .int b)]) hx hb dX1_commonDivisor_5 hl (by decide) rfl (fun ls hl => ?_)
  refine W_jn (β := Array Slot) (fun ls => lv_has ls 6 [(2, .int (n_g a b 64).1)]) (fun ls => F0 m 34 ls []) (fun jy => ?_) (fun ls hl => ?_)
  · -- the steps
    refine W_lr (fun i ls => lv_has ls 6 [(2, .int ((n_g a b i).1)), (3, .int ((n_g a b i).2)), (4, .int (nI i))]) (64) (0) (Nat.zero_le _) (lv_sub hl [2, 1, 0] rfl) (fun ls hl => ?_) (fun i ls hi hl ih1 => ?_)
    · -- behind the loop
      refine lv_iload hx hb dX1_commonDivisor_7 (lv_at hl 2 rfl) ?_
      refine lv_bipush (v := nI 64) hx hb dX1_commonDivisor_9 (by decide) ?_
      refine lv_icmp_ge (tgt := 34) hx hb dX1_commonDivisor_11 (by decide) (fun _ => ?_) (fun c9 => False.elim (c9 (nI_le (Nat.le_refl _) (by decide))))
      exact jy _ (lv_sub hl [0] rfl)
    · -- one round
      refine lv_iload hx hb dX1_commonDivisor_7 (lv_at hl 2 rfl) ?_
      refine lv_bipush (v := nI 64) hx hb dX1_commonDivisor_9 (by decide) ?_
      refine lv_icmp_ge (tgt := 34) hx hb dX1_commonDivisor_11 (by decide) (fun c9 => False.elim (nI_ge hi (by decide) c9)) (fun _ => ?_)
      refine lv_iload_n hx hb dX1_commonDivisor_14 rfl (lv_at hl 1 rfl) ?_
      refine lv_if_eq (tgt := 34) hx hb dX1_commonDivisor_15 (by decide) (fun c15 => ?_) (fun c15 => ?_)
      · -- done
        exact jy _ (by rw [g_stop c15 _ (Nat.le_of_lt hi)]; exact lv_sub hl [0] rfl)
      · -- on
        refine lv_iload_n hx hb dX1_commonDivisor_18 rfl (lv_at hl 0 rfl) ?_
        refine lv_iload_n hx hb dX1_commonDivisor_19 rfl (lv_at hl 1 rfl) ?_
        refine lv_irem hx hb dX1_commonDivisor_20 (c15) ?_
        refine lv_istore (lv' := [(5, .int (((n_g a b i).1) - ((n_g a b i).1) / ((n_g a b i).2) * ((n_g a b i).2))), (2, .int ((n_g a b i).1)), (3, .int ((n_g a b i).2)), (4, .int (nI i))]) hx hb dX1_commonDivisor_21 hl (by decide) rfl (fun ls hl => ?_)
        refine lv_iload_n hx hb dX1_commonDivisor_23 rfl (lv_at hl 2 rfl) ?_
        refine lv_istore_n (lv' := [(2, .int ((n_g a b i).2)), (5, .int (((n_g a b i).1) - ((n_g a b i).1) / ((n_g a b i).2) * ((n_g a b i).2))), (3, .int ((n_g a b i).2)), (4, .int (nI i))]) hx hb dX1_commonDivisor_24 rfl hl (by decide) rfl (fun ls hl => ?_)
        refine lv_iload hx hb dX1_commonDivisor_25 (lv_at hl 1 rfl) ?_
        refine lv_istore_n (lv' := [(3, .int (((n_g a b i).1) - ((n_g a b i).1) / ((n_g a b i).2) * ((n_g a b i).2))), (2, .int ((n_g a b i).2)), (5, .int (((n_g a b i).1) - ((n_g a b i).1) / ((n_g a b i).2) * ((n_g a b i).2))), (4, .int (nI i))]) hx hb dX1_commonDivisor_27 rfl hl (by decide) rfl (fun ls hl => ?_)
        refine a_inc hx hb (k := 3) (lv' := [(4, .int (nI (i + 1))), (3, .int (((n_g a b i).1) - ((n_g a b i).1) / ((n_g a b i).2) * ((n_g a b i).2))), (2, .int ((n_g a b i).2)), (5, .int (((n_g a b i).1) - ((n_g a b i).1) / ((n_g a b i).2) * ((n_g a b i).2)))]) i dX1_commonDivisor_28 hl rfl (by decide) rfl (fun ls hl => ?_)
        refine lv_goto (tgt := 7) hx hb dX1_commonDivisor_31 (by decide) ?_
        have e9 : n_g a b (i + 1) = ((n_g a b i).2, ((n_g a b i).1) - ((n_g a b i).1) / ((n_g a b i).2) * ((n_g a b i).2)) := if_neg c15
        exact ih1 _ (by rw [e9]; exact lv_sub hl [2, 1, 0] rfl)
  · -- the answer
    refine lv_iload_n hx hb dX1_commonDivisor_34 rfl (lv_at hl 0 rfl) ?_
    exact W.iret hx hb hr (fun t ht _ => ⟨rfl, ht⟩) (fun q h => nomatch h) dX1_commonDivisor_35
