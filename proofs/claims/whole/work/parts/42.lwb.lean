/-! THE LAW'S CALLS -/
abbrev wO (ao : Nat) (cJ : ClassId) (go : Nat → Int64) : va_W := [(ao, .inl (cJ, 1, .inr (.inl go)))]
abbrev wL (ab ad : Nat → Nat) (ao : Nat) (cI cJ : ClassId) (X Y : Nat) (σ : Nat → Nat → Int32) (hh : Nat → Int64) (hw : Nat → Int32) (n : Int32) (go : Nat → Int64) : va_W := wB ab ad cI cJ X Y σ hh hw n ++ wO ao cJ go
theorem wL_D {A : Nat → Prop} {ab ad : Nat → Nat} {ao : Nat} {cI cJ : ClassId} {X Y : Nat} {σ : Nat → Nat → Int32} {hh : Nat → Int64} {hw : Nat → Int32} {n : Int32} {go : Nat → Int64} (h : va_D A (wL ab ad ao cI cJ X Y σ hh hw n go)) (σ' : Nat → Nat → Int32) (hh' : Nat → Int64) (hw' : Nat → Int32) (n' : Int32) (go' : Nat → Int64) : va_D A (wL ab ad ao cI cJ X Y σ' hh' hw' n' go') := aw_fst (ws := wL ab ad ao cI cJ X Y σ hh hw n go) (by rfl) h
abbrev nMet (l : Launch) (y : MethodName) (wd : List Cond) (f lo : Nat) (D : va_G) (tys : List (ClassId × FieldType)) (sa : Nat → Nat) (ws : va_W) (av : List Value) : Prop := Met l y wd (tRm f lo) (tP D tys sa ws av) (fun _ st o t => o = .returned (some (.int 1)) ∧ va_F (fun _ => False) st t) 1 6 (fun _ => False)
section
variable {p : Program} {l : Launch} {e : Env} {R : Room} {s : State} {m : MethodId} {args : Array Value} {below : List Frame} {meth : Method} {c : Code} {H : Heap} {locs : List Loc} {cells slots : Nat} {Q : State → Prop}
variable {cc : ByteArray} {pc : Nat} {ls : Array Slot} {rest st0 : List Value} {D : va_G} {A : Nat → Prop} {tys : List (ClassId × FieldType)} {ws ws' wc wc' : va_W} {H0 : Heap} {sa : Nat → Nat} {cls : String}
variable {y : MethodName} {bytes : ByteArray} {maxL nL n index f lo : Nat} {ret : Option FieldType} {wd Ts : List Cond} {own C : String} {b : Addr} {As : List Value} {hh : List (Nat × Nat × Nat × Nat)}
/-- a call of a method of the class that throws -/
theorem n_V (S : CallFix p m c cc nL s args Ts own) (hM : tMet l y wd f lo D tys sa ws (.ref b :: As) cls) (cw : CallW R s args own C index y bytes maxL ret wd (tRm f lo) 1 6 n) (hP : va_P D vwCl ws H) (hK : va_K D vwCl tys s) (hV : ThV sa s) (hH : ThH (fun _ => False) s H) (hrc : ∃ cellB : Cell, H[b]? = some cellB ∧ cellB.vm.isStatics = false ∧ s.vm.findClass C = some cellB.cls)
    (hn : As.length = n) (hsize : ls.size = nL) (hst : st0 = As.reverse ++ .ref b :: rest) (hW : (rest.map fun v => v.category).sum ≤ 8) (hdg : decode cc pc = .ok (.invokevirtual index, 3)) (hc : cells + 1 ≤ R.cells) (hs : slots + 6 ≤ R.slots)
    (kk : ∀ (q : Addr) (ce : Cell) (H1 : Heap), H.size ≤ H1.size → (∀ a : Nat, a < H.size → H1[a]? = H[a]?) → H1[q]? = some ce → ce.vm = .none → s.vm.findClass cls = some ce.cls → vx_W p l e R s m args below meth c H1 locs (cells + 1) (slots + 6) Q (F0 m pc ls rest) q) : W p l e R s m args below meth c H locs cells slots Q (F0 m pc ls st0) := by
  have hr := vx_runV (e := e) (below := below) (meth := meth) (locs := locs) (cells := cells) (slots := slots) (rest := rest) (g := F0 m pc ls st0) S hM cw ⟨tP_blind _ _ _ _ _, hrc, fun U h hW => ⟨rfl, by rw [h]; exact hP, va_K.moved hW.alike hK, ThV.moved hW hV, by rw [h]; exact ThH.moved hW.alike hH⟩⟩ rfl hn hsize hst (lv_room hW) hdg ⟨hc, hs⟩
  intro T hT X
  rcases hr T hT X with ⟨v, st₀, t, T', L, h0, X', hL, e1, e2, hQ, st⟩ | ⟨q, st₀, t, T', L, E, ce, h0, X', hL, e1, e2, ⟨hE, hz, hk⟩, hce, hcv, hcl, st⟩
  · exact hQ.elim
  · have hL0 : L = [] := by
      cases L with
      | nil => rfl
      | cons q _ => exact absurd (hL q List.mem_cons_self) id
    subst hL0
    subst hE
    rw [List.append_nil] at X'
    rw [h0] at hz hk
    obtain ⟨t2, a1, b1⟩ := kk q ce T'.heap (by rw [e1]; exact hz) (fun a ha => by rw [e1]; exact hk a ha) (by rw [e1]; exact hce) hcv hcl T' rfl X'
    exact ⟨t2, st.trans a1, b1⟩
/-- the law's call of a helper whose call throws -/
theorem n_S (S : CallFix p m c cc nL s args Ts own) (hM : nMet l y wd f lo D tys sa ws As) (cw : vx_CSW R s args own index y bytes maxL ret hh wd (tRm f lo) 1 6 n) (hP : va_P D vwCl ws H) (hK : va_K D vwCl tys s) (hV : ThV sa s) (hH : ThH (fun _ => False) s H)
    (hn : As.length = n) (hsize : ls.size = nL) (hst : st0 = As.reverse ++ rest) (hW : (rest.map fun v => v.category).sum ≤ 8) (hdg : decode cc pc = .ok (.invokestatic index, 3)) (hc : cells + 1 ≤ R.cells) (hs : slots + 6 ≤ R.slots)
    (kk : ∀ (H1 : Heap), H.size ≤ H1.size → (∀ a : Nat, a < H.size → H1[a]? = H[a]?) → W p l e R s m args below meth c H1 locs (cells + 1) (slots + 6) Q (F0 m (pc + 3) ls (.int 1 :: rest))) : W p l e R s m args below meth c H locs cells slots Q (F0 m pc ls st0) := by
  have hr := vx_runSW (e := e) (below := below) (meth := meth) (locs := locs) (cells := cells) (slots := slots) (rest := rest) (g := F0 m pc ls st0) S hM cw ⟨tP_blind _ _ _ _ _, fun U h hW => ⟨rfl, by rw [h]; exact hP, va_K.moved hW.alike hK, ThV.moved hW hV, by rw [h]; exact ThH.moved hW.alike hH⟩⟩ rfl hn hsize hst (lv_room hW) hdg ⟨hc, hs⟩
  intro T hT X
  obtain ⟨v', st₀, t, T', L, h0, X', hL, e1, e2, ⟨hv, hz, hk⟩, st⟩ := hr T hT X
  cases hv
  have hL0 : L = [] := by
    cases L with
    | nil => rfl
    | cons q _ => exact absurd (hL q List.mem_cons_self) id
  subst hL0
  rw [List.append_nil] at X'
  rw [h0] at hz hk
  obtain ⟨t2, a1, b1⟩ := kk T'.heap (by rw [e1]; exact hz) (fun a ha => by rw [e1]; exact hk a ha id) T' rfl X'
  exact ⟨t2, st t2 a1, b1⟩
/-- the law's call of a helper whose call answers -/
theorem w_S {ov : Option Value} (S : CallFix p m c cc nL s args Ts own) (hM : wMet l y wd f lo D tys wc wc' As ov) (cw : vx_CSW R s args own index y bytes maxL ret hh wd (rRm f lo) 0 0 n) (wl wr : va_W) (hP : va_P D vwCl (wl ++ (wc ++ wr)) H) (hD : va_D A (wl ++ (wc ++ wr))) (hS : va_S A H0 H locs) (hK : va_K D vwCl tys s)
    (hn : As.length = n) (hsize : ls.size = nL) (hst : st0 = As.reverse ++ rest) (hW : (rest.map fun v => v.category).sum ≤ 8) (hdg : decode cc pc = .ok (.invokestatic index, 3)) (hc : cells ≤ R.cells) (hs : slots ≤ R.slots)
    (kk : ∀ (H1 : Heap) (locs1 : List Loc), va_P D vwCl (wl ++ (wc' ++ wr)) H1 → va_S A H0 H1 locs1 → W p l e R s m args below meth c H1 locs1 cells slots Q (F0 m (pc + 3) ls (ov.toList ++ rest))) : W p l e R s m args below meth c H locs cells slots Q (F0 m pc ls st0) := by
  obtain ⟨d1, d2, d3⟩ := va_D_mid hD
  obtain ⟨hPl, hPcr⟩ := va_P_split hP
  obtain ⟨hPc, hPr⟩ := va_P_split hPcr
  have hr := vx_runSW (e := e) (below := below) (meth := meth) (locs := locs) (cells := cells) (slots := slots) (rest := rest) (g := F0 m pc ls st0) S hM cw ⟨wP_blind _ _ _ _, fun U h hW => ⟨rfl, by rw [h]; exact hPc, va_K.moved hW.alike hK, d1.weaken (fun _ _ _ _ => trivial)⟩⟩ rfl hn hsize hst (lv_room hW) hdg ⟨hc, hs⟩
  intro T hT X
  obtain ⟨v', st₀, t, T', L, h0, X', hL, e1, e2, ⟨hv, hPn, hz, hk⟩, st⟩ := hr T hT X
  cases hv
  rw [h0] at hz hk
  have hkeep : ∀ q, aw wl q ∨ aw wr q → q < H.size → T'.heap[q]? = H[q]? := fun q hq hlt => by rw [e1]; exact hk q hlt (d3 q hq)
  have hP1 : va_P D vwCl (wl ++ (wc' ++ wr)) T'.heap := by
    refine va_P.app (hPl.kept fun k q hq => hkeep _ (Or.inl (aw_at hq)) (va_P_lt hPl (aw_at hq))) (va_P.app (by rw [e1]; exact hPn) (hPr.kept fun k q hq => hkeep _ (Or.inr (aw_at hq)) (va_P_lt hPr (aw_at hq))))
  obtain ⟨t2, a1, b1⟩ := kk T'.heap (locs ++ L) hP1 ⟨Nat.le_trans hS.1 (by rw [e1]; exact hz), fun q h1 h2 => by rw [e1, hk q (Nat.lt_of_lt_of_le h1 hS.1) (fun z => h2 (d2 q z))]; exact hS.2.1 q h1 h2, fun q hq => by
      rcases List.mem_append.mp hq with h | h
      · exact hS.2.2 q h
      · exact d2 _ (hL q h)⟩ T' rfl X'
  exact ⟨t2, st t2 a1, b1⟩
end
