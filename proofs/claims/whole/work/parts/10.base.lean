/-! MY OWN BASE: contracts of methods that read, and of methods that write and make nothing -/
abbrev rRm (f lo : Nat) : Room := { frames := f, cells := 0, slots := 0, locals := lo }
def aw (ws : va_W) : Nat → Prop := fun q => q ∈ ws.map Prod.fst
theorem aw_at {ws : va_W} {k : Nat} {q : Nat × va_E} (h : ws[k]? = some q) : aw ws q.1 := List.mem_map.mpr ⟨q, List.mem_of_getElem? h, rfl⟩
theorem aw_D {ws : va_W} {B : Nat → Prop} (h : va_D B ws) : va_D (aw ws) ws := ⟨h.1, fun _ _ hk => aw_at hk⟩
theorem aw_fst {ws ws' : va_W} (e : ws'.map Prod.fst = ws.map Prod.fst) {A : Nat → Prop} (h : va_D A ws) : va_D A ws' := by
  have key : ∀ (k : Nat) (q : Nat × va_E), ws'[k]? = some q → ∃ q0, ws[k]? = some q0 ∧ q0.1 = q.1 := by
    intro k q hk
    have h1 : (ws'.map Prod.fst)[k]? = some q.1 := by rw [List.getElem?_map, hk]; rfl
    rw [e, List.getElem?_map] at h1
    cases h2 : ws[k]? with
    | none => rw [h2] at h1; cases h1
    | some q0 => rw [h2] at h1; exact ⟨q0, rfl, Option.some.inj h1⟩
  refine ⟨fun i j x y hx hy hxy => ?_, fun k q hk => ?_⟩
  · obtain ⟨x0, a1, a2⟩ := key i x hx
    obtain ⟨y0, b1, b2⟩ := key j y hy
    exact h.1 i j x0 y0 a1 b1 (by rw [a2, b2, hxy])
  · obtain ⟨q0, a1, a2⟩ := key k q hk
    rw [← a2]; exact h.2 k q0 a1
theorem aw_eq {ws ws' : va_W} (e : ws'.map Prod.fst = ws.map Prod.fst) : aw ws' = aw ws := by unfold aw; rw [e]
theorem va_D_mid {A : Nat → Prop} {a b c : va_W} (h : va_D A (a ++ (b ++ c))) : va_D A b ∧ (∀ q, aw b q → A q) ∧ (∀ q, aw a q ∨ aw c q → ¬ aw b q) := by
  have e1 : ∀ (k : Nat) (q : Nat × va_E), a[k]? = some q → (a ++ (b ++ c))[k]? = some q := fun k q hk => by
    rw [List.getElem?_append_left (List.getElem?_eq_some_iff.mp hk).1]; exact hk
  have e2 : ∀ (k : Nat) (q : Nat × va_E), b[k]? = some q → (a ++ (b ++ c))[a.length + k]? = some q := fun k q hk => by
    rw [List.getElem?_append_right (by omega), Nat.add_sub_cancel_left, List.getElem?_append_left (List.getElem?_eq_some_iff.mp hk).1]; exact hk
  have e3 : ∀ (k : Nat) (q : Nat × va_E), c[k]? = some q → (a ++ (b ++ c))[a.length + (b.length + k)]? = some q := fun k q hk => by
    rw [List.getElem?_append_right (by omega), Nat.add_sub_cancel_left, List.getElem?_append_right (by omega), Nat.add_sub_cancel_left]; exact hk
  refine ⟨⟨fun i j x y hx hy hxy => ?_, fun k q hk => h.2 _ q (e2 k q hk)⟩, fun q hq => ?_, fun q hq hb => ?_⟩
  · have := h.1 _ _ x y (e2 i x hx) (e2 j y hy) hxy
    omega
  · obtain ⟨x, hx, rfl⟩ := List.mem_map.mp hq
    obtain ⟨k, hk⟩ := List.getElem?_of_mem hx
    exact h.2 _ x (e2 k x hk)
  · obtain ⟨y, hy, hyq⟩ := List.mem_map.mp hb
    obtain ⟨j, hj⟩ := List.getElem?_of_mem hy
    have hjl := (List.getElem?_eq_some_iff.mp hj).1
    rcases hq with hq | hq
    · obtain ⟨x, hx, hxq⟩ := List.mem_map.mp hq
      obtain ⟨k, hk⟩ := List.getElem?_of_mem hx
      have hkl := (List.getElem?_eq_some_iff.mp hk).1
      have := h.1 _ _ x y (e1 k x hk) (e2 j y hj) (by rw [hxq, hyq])
      omega
    · obtain ⟨x, hx, hxq⟩ := List.mem_map.mp hq
      obtain ⟨k, hk⟩ := List.getElem?_of_mem hx
      have := h.1 _ _ x y (e3 k x hk) (e2 j y hj) (by rw [hxq, hyq])
      omega
theorem va_P_split {D : va_G} {cl : List vw_C} {a b : va_W} {H : Heap} (h : va_P D cl (a ++ b) H) : va_P D cl a H ∧ va_P D cl b H := by
  refine ⟨fun k q hk => h k q ?_, fun k q hk => h (a.length + k) q ?_⟩
  · rw [List.getElem?_append_left (List.getElem?_eq_some_iff.mp hk).1]; exact hk
  · rw [List.getElem?_append_right (by omega), Nat.add_sub_cancel_left]; exact hk
theorem va_P_lt {D : va_G} {cl : List vw_C} {ws : va_W} {H : Heap} (h : va_P D cl ws H) {q : Nat} (hq : aw ws q) : q < H.size := by
  obtain ⟨x, hx, rfl⟩ := List.mem_map.mp hq
  obtain ⟨k, hk⟩ := List.getElem?_of_mem hx
  exact (h k x hk).lt
abbrev rP (D : va_G) (tys : List (ClassId × FieldType)) (ws : va_W) (av : List Value) : Array Value → State → Prop := va_Pc av (fun U => va_P D vwCl ws U.heap ∧ va_K D vwCl tys U)
abbrev rQ (v : Value) : Array Value → State → Outcome → State → Prop := fun _ st o t => o = .returned (some v) ∧ t.heap = st.heap
abbrev rMet (l : Launch) (y : MethodName) (wd : List Cond) (f lo : Nat) (D : va_G) (tys : List (ClassId × FieldType)) (ws : va_W) (av : List Value) (v : Value) : Prop := Met l y wd (rRm f lo) (rP D tys ws av) (rQ v) 0 0 (fun _ => False)
abbrev wP (D : va_G) (tys : List (ClassId × FieldType)) (ws : va_W) (av : List Value) : Array Value → State → Prop := va_Pc av (fun U => va_P D vwCl ws U.heap ∧ va_K D vwCl tys U ∧ va_D (fun _ => True) ws)
abbrev wQ (D : va_G) (ws ws' : va_W) (ov : Option Value) : Array Value → State → Outcome → State → Prop := fun _ st o t => o = .returned ov ∧ va_P D vwCl ws' t.heap ∧ va_F (aw ws) st t
abbrev wMet (l : Launch) (y : MethodName) (wd : List Cond) (f lo : Nat) (D : va_G) (tys : List (ClassId × FieldType)) (ws ws' : va_W) (av : List Value) (ov : Option Value) : Prop := Met l y wd (rRm f lo) (wP D tys ws av) (wQ D ws ws' ov) 0 0 (aw ws)
theorem rP_blind (D : va_G) (tys : List (ClassId × FieldType)) (ws : va_W) (av : List Value) : FrameBlind (rP D tys ws av) := fun a U g mk q => by
  obtain ⟨q0, qP, qK⟩ := q
  exact ⟨q0, qP, va_K.moved (u := U) (U := U.calling g mk a) (Vm.Alike.refl U.vm) qK⟩
theorem wP_blind (D : va_G) (tys : List (ClassId × FieldType)) (ws : va_W) (av : List Value) : FrameBlind (wP D tys ws av) := fun a U g mk q => by
  obtain ⟨q0, qP, qK, qD⟩ := q
  exact ⟨q0, qP, va_K.moved (u := U) (U := U.calling g mk a) (Vm.Alike.refl U.vm) qK, qD⟩
section RB
variable {p : Program} {l : Launch} {e : Env} {R : Room} {s : State} {m : MethodId} {args : Array Value} {below : List Frame} {meth : Method} {c : Code} {H : Heap} {locs : List Loc} {cells slots : Nat} {Q : State → Prop}
variable {cc : ByteArray} {pc : Nat} {ls : Array Slot} {rest st0 : List Value} {D : va_G} {A : Nat → Prop} {tys : List (ClassId × FieldType)} {ws ws' wl wr wc wc' : va_W} {H0 : Heap}
variable {y : MethodName} {bytes : ByteArray} {maxL nL n index f lo : Nat} {ret : Option FieldType} {wd Ts : List Cond} {own C : String} {b : Addr} {As : List Value}
/-- a call of a virtual method that reads -/
theorem r_V {v : Value} (S : CallFix p m c cc nL s args Ts own) (hM : rMet l y wd f lo D tys ws (.ref b :: As) v) (cw : CallW R s args own C index y bytes maxL ret wd (rRm f lo) 0 0 n) (hP : va_P D vwCl ws H) (hK : va_K D vwCl tys s) (hrc : ∃ cellB : Cell, H[b]? = some cellB ∧ cellB.vm.isStatics = false ∧ s.vm.findClass C = some cellB.cls)
    (hn : As.length = n) (hsize : ls.size = nL) (hst : st0 = As.reverse ++ .ref b :: rest) (hW : (rest.map fun v => v.category).sum ≤ 8) (hdg : decode cc pc = .ok (.invokevirtual index, 3)) (hc : cells ≤ R.cells) (hs : slots ≤ R.slots)
    (kk : W p l e R s m args below meth c H locs cells slots Q (F0 m (pc + 3) ls (v :: rest))) : W p l e R s m args below meth c H locs cells slots Q (F0 m pc ls st0) := by
  have hr := W.runV (e := e) (below := below) (meth := meth) (locs := locs) (cells := cells) (slots := slots) (rest := rest) (g := F0 m pc ls st0) S hM cw ⟨rP_blind _ _ _ _, hrc, fun U h hW => ⟨rfl, by rw [h]; exact hP, va_K.moved hW.alike hK⟩⟩ rfl hn hsize hst (lv_room hW) hdg ⟨hc, hs⟩
  intro T hT X
  obtain ⟨v', st₀, t, T', L, h0, X', hL, e1, ⟨hv, hh⟩, st⟩ := hr T hT X
  cases hv
  have hL0 : L = [] := by
    cases L with
    | nil => rfl
    | cons q _ => exact absurd (hL q List.mem_cons_self) id
  subst hL0
  rw [List.append_nil] at X'
  obtain ⟨t2, a1, b1⟩ := kk T' (by rw [e1, hh, h0]) X'
  exact ⟨t2, st t2 a1, b1⟩
/-- a call of a static method that reads -/
theorem r_S {v : Value} (S : CallFix p m c cc nL s args Ts own) (hM : rMet l y wd f lo D tys ws As v) (cw : CallB R s args own index y bytes maxL ret wd (rRm f lo) 0 0 n ∧ (Cond.static y).before args s = true) (hP : va_P D vwCl ws H) (hK : va_K D vwCl tys s)
    (hn : As.length = n) (hsize : ls.size = nL) (hst : st0 = As.reverse ++ rest) (hW : (rest.map fun v => v.category).sum ≤ 8) (hdg : decode cc pc = .ok (.invokestatic index, 3)) (hc : cells ≤ R.cells) (hs : slots ≤ R.slots)
    (kk : W p l e R s m args below meth c H locs cells slots Q (F0 m (pc + 3) ls (v :: rest))) : W p l e R s m args below meth c H locs cells slots Q (F0 m pc ls st0) := by
  have hr := W.runS (e := e) (below := below) (meth := meth) (locs := locs) (cells := cells) (slots := slots) (rest := rest) (g := F0 m pc ls st0) S hM cw ⟨rP_blind _ _ _ _, fun U h hW => ⟨rfl, by rw [h]; exact hP, va_K.moved hW.alike hK⟩⟩ rfl hn hsize hst (lv_room hW) hdg ⟨hc, hs⟩
  intro T hT X
  obtain ⟨v', st₀, t, T', L, h0, X', hL, e1, ⟨hv, hh⟩, st⟩ := hr T hT X
  cases hv
  have hL0 : L = [] := by
    cases L with
    | nil => rfl
    | cons q _ => exact absurd (hL q List.mem_cons_self) id
  subst hL0
  rw [List.append_nil] at X'
  obtain ⟨t2, a1, b1⟩ := kk T' (by rw [e1, hh, h0]) X'
  exact ⟨t2, st t2 a1, b1⟩
/-- a call of a virtual method that writes its own world, a part of the caller's -/
theorem w_V {ov : Option Value} (S : CallFix p m c cc nL s args Ts own) (hM : wMet l y wd f lo D tys wc wc' (.ref b :: As) ov) (cw : CallW R s args own C index y bytes maxL ret wd (rRm f lo) 0 0 n) (wl wr : va_W) (hP : va_P D vwCl (wl ++ (wc ++ wr)) H) (hD : va_D A (wl ++ (wc ++ wr))) (hS : va_S A H0 H locs) (hK : va_K D vwCl tys s) (hrc : ∃ cellB : Cell, H[b]? = some cellB ∧ cellB.vm.isStatics = false ∧ s.vm.findClass C = some cellB.cls)
    (hn : As.length = n) (hsize : ls.size = nL) (hst : st0 = As.reverse ++ .ref b :: rest) (hW : (rest.map fun v => v.category).sum ≤ 8) (hdg : decode cc pc = .ok (.invokevirtual index, 3)) (hc : cells ≤ R.cells) (hs : slots ≤ R.slots)
    (kk : ∀ (H1 : Heap) (locs1 : List Loc), va_P D vwCl (wl ++ (wc' ++ wr)) H1 → va_S A H0 H1 locs1 → W p l e R s m args below meth c H1 locs1 cells slots Q (F0 m (pc + 3) ls (ov.toList ++ rest))) : W p l e R s m args below meth c H locs cells slots Q (F0 m pc ls st0) := by
  obtain ⟨d1, d2, d3⟩ := va_D_mid hD
  obtain ⟨hPl, hPcr⟩ := va_P_split hP
  obtain ⟨hPc, hPr⟩ := va_P_split hPcr
  have hr := W.runV (e := e) (below := below) (meth := meth) (locs := locs) (cells := cells) (slots := slots) (rest := rest) (g := F0 m pc ls st0) S hM cw ⟨wP_blind _ _ _ _, hrc, fun U h hW => ⟨rfl, by rw [h]; exact hPc, va_K.moved hW.alike hK, d1.weaken (fun _ _ _ _ => trivial)⟩⟩ rfl hn hsize hst (lv_room hW) hdg ⟨hc, hs⟩
  intro T hT X
  obtain ⟨v', st₀, t, T', L, h0, X', hL, e1, ⟨hv, hPn, hz, hk⟩, st⟩ := hr T hT X
  cases hv
  rw [h0] at hz hk
  have hkeep : ∀ q, aw wl q ∨ aw wr q → q < H.size → T'.heap[q]? = H[q]? := fun q hq hlt => by rw [e1]; exact hk q hlt (d3 q hq)
  have hP1 : va_P D vwCl (wl ++ (wc' ++ wr)) T'.heap := by
    refine va_P.app (hPl.kept fun k q hq => hkeep _ (Or.inl (aw_at hq)) (va_P_lt hPl (aw_at hq))) (va_P.app (by rw [e1]; exact hPn) (hPr.kept fun k q hq => hkeep _ (Or.inr (aw_at hq)) (va_P_lt hPr (aw_at hq))))
  obtain ⟨t2, a1, b1⟩ := kk T'.heap (locs ++ L) hP1 ⟨Nat.le_trans hS.1 (by rw [e1]; exact hz), fun q h1 h2 => by rw [e1, hk q (Nat.lt_of_lt_of_le h1 hS.1) (fun z => h2 (d2 q z))]; exact hS.2.1 q h1 h2, fun q hq => by
      rcases List.mem_append.mp hq with h | h
      · exact hS.2.2 q h
      · exact d2 _ (hL q h)⟩ T' rfl X'
  exact ⟨t2, st t2 a1, b1⟩
/-- rows of ints, by a number -/
theorem a_ld (hx : p.tables.exec = Jvm.exec) (hb : c.code = cc) (hK : va_K D vwCl tys s) (hP : va_P D vwCl ws H) (q0 t0 : Nat) {a : Nat} {cA : ClassId} {n : Nat} {g : Nat → Int32} (ha : ws[q0]? = some (a, .inl (cA, n, .inl g))) (ht : tys[t0]? = some (cA, .int)) {i : Int32} (k : Nat) (hi : i = nI k) (hk : k < n) (hn : n < 2 ^ 31) (hdg : decode cc pc = .ok (.iaload, 1))
    (kk : W p l e R s m args below meth c H locs cells slots Q (F0 m (pc + 1) ls (.int (g k) :: rest))) : W p l e R s m args below meth c H locs cells slots Q (F0 m pc ls (.int i :: .ref a :: rest)) := by
  subst hi
  refine va_iald hx hb hK hP q0 t0 ha ht (vp_in_nI hk hn) hdg ?_
  rw [nI_clamp (by omega)]; exact kk
theorem a_st (hx : p.tables.exec = Jvm.exec) (hb : c.code = cc) (hK : va_K D vwCl tys s) (hP : va_P D vwCl ws H) (hD : va_D A ws) (hS : va_S A H0 H locs) (q0 t0 : Nat) {a : Nat} {cA : ClassId} {n : Nat} {g : Nat → Int32} (ha : ws[q0]? = some (a, .inl (cA, n, .inl g))) (ht : tys[t0]? = some (cA, .int)) {i x : Int32} (k : Nat) (hi : i = nI k) (hk : k < n) (hn : n < 2 ^ 31) (hdg : decode cc pc = .ok (.iastore, 1))
    (kk : ∀ (H1 : Heap) (locs1 : List Loc), va_P D vwCl (ws.set q0 (a, .inl (cA, n, .inl (upd g k x)))) H1 → va_S A H0 H1 locs1 → W p l e R s m args below meth c H1 locs1 cells slots Q (F0 m (pc + 1) ls rest)) : W p l e R s m args below meth c H locs cells slots Q (F0 m pc ls (.int x :: .int i :: .ref a :: rest)) := by
  subst hi
  refine va_iast hx hb hK hP hD hS q0 t0 ha ht (vp_in_nI hk hn) hdg fun H1 locs1 h1 _ h3 => ?_
  rw [nI_clamp (by omega)] at h1
  exact kk H1 locs1 h1 h3
theorem a_ldl (hx : p.tables.exec = Jvm.exec) (hb : c.code = cc) (hK : va_K D vwCl tys s) (hP : va_P D vwCl ws H) (q0 t0 : Nat) {a : Nat} {cA : ClassId} {n : Nat} {g : Nat → Int64} (ha : ws[q0]? = some (a, .inl (cA, n, .inr (.inl g)))) (ht : tys[t0]? = some (cA, .long)) {i : Int32} (k : Nat) (hi : i = nI k) (hk : k < n) (hn : n < 2 ^ 31) (hdg : decode cc pc = .ok (.laload, 1))
    (kk : W p l e R s m args below meth c H locs cells slots Q (F0 m (pc + 1) ls (.long (g k) :: rest))) : W p l e R s m args below meth c H locs cells slots Q (F0 m pc ls (.int i :: .ref a :: rest)) := by
  subst hi
  refine va_lald hx hb hK hP q0 t0 ha ht (vp_in_nI hk hn) hdg ?_
  rw [nI_clamp (by omega)]; exact kk
theorem a_stl (hx : p.tables.exec = Jvm.exec) (hb : c.code = cc) (hK : va_K D vwCl tys s) (hP : va_P D vwCl ws H) (hD : va_D A ws) (hS : va_S A H0 H locs) (q0 t0 : Nat) {a : Nat} {cA : ClassId} {n : Nat} {g : Nat → Int64} (ha : ws[q0]? = some (a, .inl (cA, n, .inr (.inl g)))) (ht : tys[t0]? = some (cA, .long)) {i : Int32} {x : Int64} (k : Nat) (hi : i = nI k) (hk : k < n) (hn : n < 2 ^ 31) (hdg : decode cc pc = .ok (.lastore, 1))
    (kk : ∀ (H1 : Heap) (locs1 : List Loc), va_P D vwCl (ws.set q0 (a, .inl (cA, n, .inr (.inl (vp_updL g k x))))) H1 → va_S A H0 H1 locs1 → W p l e R s m args below meth c H1 locs1 cells slots Q (F0 m (pc + 1) ls rest)) : W p l e R s m args below meth c H locs cells slots Q (F0 m pc ls (.long x :: .int i :: .ref a :: rest)) := by
  subst hi
  refine va_last hx hb hK hP hD hS q0 t0 ha ht (vp_in_nI hk hn) hdg fun H1 locs1 h1 _ h3 => ?_
  rw [nI_clamp (by omega)] at h1
  exact kk H1 locs1 h1 h3
theorem a_inc (hx : p.tables.exec = Jvm.exec) (hb : c.code = cc) {i nL k : Nat} (j : Nat) {lv lv' : List (Nat × Value)} (hdg : decode cc pc = .ok (.iinc i 1, 3)) (h : lv_has ls nL lv) (hk : lv[k]? = some (i, .int (nI j))) (hn : i < nL) (hl : (i, Value.int (nI (j + 1))) :: lv.filter (fun q => !(q.1 == i) && !(q.1 + 1 == i && q.2.category == 2)) = lv')
    (kk : ∀ ls' : Array Slot, lv_has ls' nL lv' → W p l e R s m args below meth c H locs cells slots Q (F0 m (pc + 3) ls' rest)) : W p l e R s m args below meth c H locs cells slots Q (F0 m pc ls rest) :=
  lv_iinc hx hb hdg h hk (by have : Int32.ofInt 1 = 1 := by decide
                             rw [this]; exact nI_1 j) hn hl kk
end RB
/-- induction down from n -/
theorem dn_ind {P : Nat → Prop} (n : Nat) (h0 : P n) (hs : ∀ i, i < n → P (i + 1) → P i) : ∀ i, i ≤ n → P i := by
  have key : ∀ d i, i + d = n → P i := by
    intro d
    induction d with
    | zero => intro i hi; have : i = n := by omega
              rw [this]; exact h0
    | succ d ih => intro i hi; exact hs i (by omega) (ih (i + 1) (by omega))
  intro i hi
  exact key (n - i) i (by omega)
theorem P_nil {D : va_G} {cl : List vw_C} {H : Heap} : va_P D cl [] H := fun k q h => by simp at h
section RL
variable {p : Program} {l : Launch} {e : Env} {R : Room} {s : State} {m : MethodId} {args : Array Value} {below : List Frame} {meth : Method} {c : Code} {H : Heap} {locs : List Loc} {cells slots : Nat} {Q : State → Prop} {pc : Nat} {ls : Array Slot} {rest : List Value} {g : JFrame}
theorem top_eq {x y : Int32} (h : x = y) (k : W p l e R s m args below meth c H locs cells slots Q (F0 m pc ls (.int y :: rest))) : W p l e R s m args below meth c H locs cells slots Q (F0 m pc ls (.int x :: rest)) := h ▸ k
theorem top_eql {x y : Int64} (h : x = y) (k : W p l e R s m args below meth c H locs cells slots Q (F0 m pc ls (.long y :: rest))) : W p l e R s m args below meth c H locs cells slots Q (F0 m pc ls (.long x :: rest)) := h ▸ k
/-- roads that meet -/
theorem W_jn {β : Type} (P : β → Prop) (F : β → JFrame) (h1 : (∀ b, P b → W p l e R s m args below meth c H locs cells slots Q (F b)) → W p l e R s m args below meth c H locs cells slots Q g) (h2 : ∀ b, P b → W p l e R s m args below meth c H locs cells slots Q (F b)) : W p l e R s m args below meth c H locs cells slots Q g := h1 h2
/-- roads that meet, each with its own heap -/
theorem W_jw {β : Type} (P : β → Heap → List Loc → Prop) (F : β → JFrame) (h1 : (∀ b H1 L1, P b H1 L1 → W p l e R s m args below meth c H1 L1 cells slots Q (F b)) → W p l e R s m args below meth c H locs cells slots Q g) (h2 : ∀ b H1 L1, P b H1 L1 → W p l e R s m args below meth c H1 L1 cells slots Q (F b)) : W p l e R s m args below meth c H locs cells slots Q g := h1 h2
/-- a loop that counts up to n, over an unchanged heap -/
theorem W_lr (Inv : Nat → Array Slot → Prop) (n i0 : Nat) (hi : i0 ≤ n) (h0 : Inv i0 ls) (hx : ∀ ls, Inv n ls → W p l e R s m args below meth c H locs cells slots Q (F0 m pc ls rest))
    (hs : ∀ i ls, i < n → Inv i ls → (∀ ls', Inv (i + 1) ls' → W p l e R s m args below meth c H locs cells slots Q (F0 m pc ls' rest)) → W p l e R s m args below meth c H locs cells slots Q (F0 m pc ls rest)) : W p l e R s m args below meth c H locs cells slots Q (F0 m pc ls rest) :=
  dn_ind (P := fun i => ∀ ls, Inv i ls → W p l e R s m args below meth c H locs cells slots Q (F0 m pc ls rest)) n hx (fun i hi ih ls hl => hs i ls hi hl ih) i0 hi ls h0
/-- a loop that counts up to n, and writes -/
theorem W_lw (Inv : Nat → Array Slot → Heap → List Loc → Prop) (n i0 : Nat) (hi : i0 ≤ n) (h0 : Inv i0 ls H locs) (hx : ∀ ls H locs, Inv n ls H locs → W p l e R s m args below meth c H locs cells slots Q (F0 m pc ls rest))
    (hs : ∀ i ls H locs, i < n → Inv i ls H locs → (∀ ls' H' locs', Inv (i + 1) ls' H' locs' → W p l e R s m args below meth c H' locs' cells slots Q (F0 m pc ls' rest)) → W p l e R s m args below meth c H locs cells slots Q (F0 m pc ls rest)) : W p l e R s m args below meth c H locs cells slots Q (F0 m pc ls rest) :=
  dn_ind (P := fun i => ∀ ls H locs, Inv i ls H locs → W p l e R s m args below meth c H locs cells slots Q (F0 m pc ls rest)) n hx (fun i hi ih ls H locs hl => hs i ls H locs hi hl ih) i0 hi ls H locs h0
end RL
/-- what a loop has made after n rounds -/
def fd {α : Type} (f : Nat → α → α) (a : α) : Nat → α
  | 0 => a
  | n + 1 => f n (fd f a n)
/-- one cell of one row of a state -/
def up2 (σ : Nat → Nat → Int32) (a k : Nat) (v : Int32) : Nat → Nat → Int32 := fun b => bif Nat.beq b a then upd (σ a) k v else σ b
abbrev tY (cI cJ : ClassId) : List (ClassId × FieldType) := [(cI, .int), (cJ, .long)]
/-- the cells of a Section -/
abbrev wS (ad : Nat → Nat) (cI : ClassId) (X Y : Nat) (σ : Nat → Nat → Int32) : va_W :=
  [(ad 8, .inr (0, [.int (nI X), .int (nI Y), .int (nI (X + 2)), .ref (ad 0), .ref (ad 1), .ref (ad 2), .ref (ad 3), .ref (ad 4), .ref (ad 5), .ref (ad 6), .ref (ad 7), .int (σ 8 0), .int (σ 8 1), .int (σ 8 2)])),
   (ad 0, .inl (cI, (X + 2) * (Y + 2), .inl (σ 0))), (ad 1, .inl (cI, (X + 2) * (Y + 2), .inl (σ 1))), (ad 2, .inl (cI, (X + 2) * (Y + 2), .inl (σ 2))), (ad 3, .inl (cI, (X + 2) * (Y + 2), .inl (σ 3))), (ad 4, .inl (cI, (X + 2) * (Y + 2), .inl (σ 4))), (ad 5, .inl (cI, (X + 2) * (Y + 2), .inl (σ 5))), (ad 6, .inl (cI, 4, .inl (σ 6))), (ad 7, .inl (cI, 4, .inl (σ 7)))]
/-- the place of a cell -/
def pl (X i j : Nat) : Nat := (j + 1) * (X + 2) + i + 1
theorem pl_N {X Y : Nat} (hB : 1 ≤ X ∧ X ≤ 10 ∧ 1 ≤ Y ∧ Y ≤ 10) : (X + 2) * (Y + 2) < 2 ^ 31 := by
  have : (X + 2) * (Y + 2) ≤ 12 * 12 := Nat.mul_le_mul (by omega) (by omega)
  omega
theorem pl_lt {X Y i j : Nat} (hi : i < X) (hj : j < Y) : pl X i j + (X + 2) < (X + 2) * (Y + 2) ∧ X + 2 ≤ pl X i j := by
  have h1 : (j + 1 + 1) * (X + 2) ≤ (Y + 1) * (X + 2) := Nat.mul_le_mul_right _ (by omega)
  have h2 : (Y + 1) * (X + 2) + (X + 2) = (X + 2) * (Y + 2) := by rw [← Nat.succ_mul, Nat.mul_comm]
  have h3 : (j + 1 + 1) * (X + 2) = (j + 1) * (X + 2) + (X + 2) := Nat.succ_mul _ _
  have h4 : 1 * (X + 2) ≤ (j + 1) * (X + 2) := Nat.mul_le_mul_right _ (by omega)
  unfold pl
  omega
theorem pl_in {X Y i j : Nat} (hi : i < X) (hj : j < Y) : pl X i j < (X + 2) * (Y + 2) := by have := pl_lt hi hj; omega
theorem wS_D {A : Nat → Prop} {ad : Nat → Nat} {cI : ClassId} {X Y : Nat} {σ : Nat → Nat → Int32} (h : va_D A (wS ad cI X Y σ)) (σ' : Nat → Nat → Int32) : va_D A (wS ad cI X Y σ') := aw_fst (ws := wS ad cI X Y σ) (by rfl) h
