/-! THE CLAIM OUT OF ONE WALK OF THE LAW'S BODY. Your part is whole_start (and what it stands on); all else here is the same for every law, but numbers. -/
def R_law : String := "BridgeCellsLaw"
def lw_P (b : Addr) (xs : List Int32) (args : Array Value) (s : State) : Prop := args = #[.ref b] ∧ s.IntsAt b xs ∧ xs.length ≤ 3074 ∧ (Jvm.Cond.and given_1 narrow_1).before args s = true
def lw_Q (_ : Array Value) (s : State) (o : Outcome) (t : State) : Prop := o = .returned (some (.int 1)) ∧ Framed s o t [] 652116 7139723
def lw_Z (below : List Frame) (a : Array Value) (s : State) : State → Prop := fun t => ∃ o, t.status = .running ∧ Ended t below o ∧ lw_Q a s o t
/-- the law's own end, with 1 on the stack, nothing written that was there before, its room as the claim has it -/
theorem lw_ret {p : Program} {l : Launch} {e : Env} {s : State} {m : MethodId} {below : List Frame} {meth : Method} {c : Code} {b : Nat} (hx : p.tables.exec = Jvm.exec) (hb : c.code = code) (hr : meth.sig.returnType = ret) (hlocks : meth.locks = false) {pc : Nat} {H : Heap} {ls : Array Slot} (hdg : decode code pc = .ok (.ireturn, 1)) : W p l e room_1 s m #[Value.ref b] below meth c H [] 652116 7139723 (lw_Z below #[Value.ref b] s) (F0 m pc ls [.int 1]) := by
  intro T hT X
  obtain ⟨fs, hret, hrun, hended, hW, hframe⟩ := X.leave (v := some (.int 1)) (hlocks := hlocks) (fun h => by rw [hr] at h; cases h)
  have hmeth' : T.vm.method? m = some meth := X.method'
  refine ⟨T.setFrames fs, ?_, .returned (some (.int 1)), hrun, hended, rfl, ⟨_, rfl⟩, hW, hframe⟩
  jvm_step X.here [X.here.top, hx, hb, hdg, hmeth', hr, ret, narrow_b1]
  (try refine ⟨rfl, ?_⟩); (try refine ⟨rfl, ?_⟩)
  first | (intro acts; rw [hret _ acts rfl rfl rfl]) | rw [hret _ _ rfl rfl rfl]
  exact Steps.refl _
/-- what holds at the law's entry: the machine, the code, the tables' words (any of lw_tbl by 'hts w (by decide +kernel)'), the script of L ints xs at the cell b, what the Statement gives of the start (any of its parts by flat_of_before) -/
def lw_At (p : Program) (s : State) (m : MethodId) (meth : Method) (c : Code) (b L : Nat) (xs : Nat → Int32) : Prop :=
  p.tables.exec = Jvm.exec ∧ c.code = code ∧ meth.sig.returnType = ret ∧ c.maxLocals = 8 ∧ s.vm.findClass R_law = some m.cls ∧ (∀ w ∈ lw_tbl, w.before #[Value.ref b] s = true) ∧ va_X b L xs s s.heap ∧ b < s.heap.size ∧ meth.locks = false ∧ (Jvm.Cond.and given_1 narrow_1).before #[Value.ref b] s = true

/-! what the throws rest on, at the start -/
set_option maxRecDepth 20000 in
theorem st_str : ∀ q ∈ thStr, Cond.stringRef RX1 q.1 q.2 ∈ lw_tbl := by decide +kernel
set_option maxRecDepth 20000 in
theorem st_face : ∀ w ∈ thI ++ thJ, w ∈ lw_tbl := by decide +kernel
set_option maxRecDepth 20000 in
theorem st_z1 : Cond.laysStatic Bundle.tN "UNASSIGNED_STACK" Bundle.steD ∈ lw_tbl := by decide +kernel
set_option maxRecDepth 20000 in
theorem st_z2 : Cond.laysStatic Bundle.tN "SUPPRESSED_SENTINEL" Bundle.listD ∈ lw_tbl := by decide +kernel
set_option maxRecDepth 20000 in
theorem st_z3 : Cond.initialized Bundle.tN ∈ lw_tbl := by decide +kernel
set_option maxRecDepth 20000 in
theorem st_ex : ∀ q ∈ thStr, Cond.exactly (.string RX1 q.1) "java/lang/String" ∈ flatC (Jvm.Cond.and given_1 narrow_1) := by decide +kernel
set_option maxRecDepth 20000 in
theorem st_n1 : Cond.isRef (.static Bundle.tN "UNASSIGNED_STACK" Bundle.steD) ∈ flatC (Jvm.Cond.and given_1 narrow_1) := by decide +kernel
set_option maxRecDepth 20000 in
theorem st_n2 : Cond.isRef (.static Bundle.tN "SUPPRESSED_SENTINEL" Bundle.listD) ∈ flatC (Jvm.Cond.and given_1 narrow_1) := by decide +kernel
theorem ThV_start {args : Array Value} {s : State} (hts : ∀ w ∈ lw_tbl, w.before args s = true) (hgv : (Jvm.Cond.and given_1 narrow_1).before args s = true) : ∃ sa, ThV sa s := by
  have hs := flat_of_before _ hgv
  have key : ∀ q ∈ thStr, ∃ a : Nat, vk_R RX1 q.1 q.2 a s := by
    intro q hq
    obtain ⟨a, cA, lc, kA, ha, -⟩ := Cond.exactly_spec (hs _ (st_ex q hq))
    exact ⟨a, vk_R.of (A := args) (hts _ (st_str q hq)) ha⟩
  refine ⟨fun k => @dite _ (∃ a : Nat, ∃ tx, vk_R RX1 k tx a s) (Classical.propDecidable _) (fun h => Classical.choose h) (fun _ => 0), fun w hw => ?_, fun q hq => ?_⟩
  · have h1 := th_face hw
    rw [Bool.and_eq_true] at h1
    exact va_tabs h1.2 rfl (hts w (st_face w hw))
  · obtain ⟨a, ha⟩ := key q hq
    have hex : ∃ a : Nat, ∃ tx, vk_R RX1 q.1 tx a s := ⟨a, q.2, ha⟩
    show vk_R RX1 q.1 q.2 (@dite _ (∃ a : Nat, ∃ tx, vk_R RX1 q.1 tx a s) (Classical.propDecidable _) (fun h => Classical.choose h) (fun _ => 0)) s
    rw [dif_pos hex]
    obtain ⟨tx, h2⟩ := Classical.choose_spec hex
    exact ⟨ha.1, h2.2⟩
theorem ThH_start {args : Array Value} {s : State} (hts : ∀ w ∈ lw_tbl, w.before args s = true) (hgv : (Jvm.Cond.and given_1 narrow_1).before args s = true) {A : Nat → Prop} (hA : ∀ a : Nat, a < s.heap.size → ¬ A a) : ThH A s s.heap := by
  have hs := flat_of_before _ hgv
  exact ⟨vx_Zqof (hts _ st_z1) (hts _ st_z3) (hs _ st_n1) hA, vx_Zqof (hts _ st_z2) (hts _ st_z3) (hs _ st_n2) hA⟩
/-! the law's cell: a number of the script, or 0 -/
abbrev cP (b L : Nat) (xs : Nat → Int32) (av : List Value) : Array Value → State → Prop := va_Pc av (fun U => va_X b L xs U U.heap)
theorem cP_blind (b L : Nat) (xs : Nat → Int32) (av : List Value) : FrameBlind (cP b L xs av) := fun a U g mk q => by
  obtain ⟨q0, qX⟩ := q
  exact ⟨q0, va_X.moved (u := U) (U := U.calling g mk a) (Vm.Alike.refl U.vm) qX⟩
def xcell (L : Nat) (xs : Nat → Int32) (k : Nat) : Int32 := if k < L then xs k else 0
set_option maxHeartbeats 4000000 in
theorem k_L_cell (l : Launch) (b L : Nat) (xs : Nat → Int32) (hL : L ≤ 3074) (k : Nat) (hk : k ≤ 3074) : Met l yL_cell wsL_cell (rRm 0 0) (cP b L xs [.ref b, .int (nI k)]) (rQ (.int (xcell L xs k))) 0 0 (fun _ => False) := by
  refine Met.ofW (cc := cL_cell) (maxL := 2) (ret := some .int) (by decide) rfl ?_
  intro p e s m args below meth c s₁ B hml hv
  obtain ⟨rfl, hX⟩ := hv
  have hx := B.exec
  have hb := B.bytes
  have hr := B.returns
  have hlocks := B.notSynchronized
  have hl := lv_entry ([.ref b, .int (nI k)]) (n := 2) (Nat.le_of_ble_eq_true rfl)
  rw [lg_entry_eq]
  generalize (lg_sl ([.ref b, .int (nI k)]) ++ List.replicate (2 - (lg_sl ([.ref b, .int (nI k)])).length) Slot.unset).toArray = ls at hl ⊢
  have hl : lv_has ls 2 [(0, .ref b), (1, .int (nI k))] := hl
  have hbl : b < s.heap.size := by
    obtain ⟨scr, h1, -⟩ := hX
    exact (Array.getElem?_eq_some_iff.mp h1).1
  have hS : va_S (fun _ => False) s.heap s.heap [] := va_S.rf
  refine lv_iload_n hx hb dL_cell_0 rfl (lv_at hl 1 rfl) ?_
  refine lv_aload_n hx hb dL_cell_1 rfl (lv_at hl 0 rfl) ?_
  refine va_slen (A := fun _ => False) hx hb hX hbl id hS dL_cell_2 ?_
  refine lv_icmp_ge (tgt := 12) hx hb dL_cell_3 (by decide) (fun c9 => ?_) (fun c9 => ?_)
  · refine lv_iconst (v := 0) hx hb dL_cell_12 (by decide) ?_
    have e1 : xcell L xs k = 0 := by
      unfold xcell
      rw [if_neg]
      intro h
      exact nI_ge h (by omega) c9
    rw [e1]
    exact W.iret hx hb hr (fun t ht _ => ⟨rfl, ht⟩) (fun q h => nomatch h) dL_cell_13
  · refine lv_aload_n hx hb dL_cell_6 rfl (lv_at hl 0 rfl) ?_
    refine lv_iload_n hx hb dL_cell_7 rfl (lv_at hl 1 rfl) ?_
    have hkL : k < L := by
      rcases Nat.lt_or_ge k L with h | h
      · exact h
      · exact absurd (nI_le h (by omega)) c9
    refine va_sld (A := fun _ => False) hx hb hX hbl id hS (vp_in_nI hkL (by omega)) dL_cell_8 ?_
    refine lv_goto (tgt := 13) hx hb dL_cell_9 (by decide) ?_
    have e1 : xcell L xs k = xs (nI k).toNatClampNeg := by
      unfold xcell
      rw [if_pos hkL, nI_clamp (by omega)]
    rw [e1]
    exact W.iret hx hb hr (fun t ht _ => ⟨rfl, ht⟩) (fun q h => nomatch h) dL_cell_13
section
variable {p : Program} {l : Launch} {e : Env} {R : Room} {s : State} {m : MethodId} {args : Array Value} {below : List Frame} {meth : Method} {c : Code} {H : Heap} {locs : List Loc} {cells slots : Nat} {Q : State → Prop}
variable {cc : ByteArray} {pc nL : Nat} {ls : Array Slot} {rest : List Value} {A : Nat → Prop} {H0 : Heap} {Ts : List Cond} {own : String}
theorem c_S {b L : Nat} {xs : Nat → Int32} (S : CallFix p m c cc nL s args Ts own) {index : Nat} (hL : L ≤ 3074) (k : Nat) (hk : k ≤ 3074) {i : Int32} (hi : i = nI k) (cw : CallB R s args own index yL_cell cL_cell 2 (some .int) wsL_cell (rRm 0 0) 0 0 2 ∧ (Cond.static yL_cell).before args s = true) (hX : va_X b L xs s H0) (hbl : b < H0.size) (hbA : ¬ A b) (hS : va_S A H0 H locs)
    (hsize : ls.size = nL) (hW : (rest.map fun v => v.category).sum ≤ 8) (hdg : decode cc pc = .ok (.invokestatic index, 3)) (hc : cells ≤ R.cells) (hs : slots ≤ R.slots)
    (kk : W p l e R s m args below meth c H locs cells slots Q (F0 m (pc + 3) ls (.int (xcell L xs k) :: rest))) : W p l e R s m args below meth c H locs cells slots Q (F0 m pc ls (.int i :: .ref b :: rest)) := by
  subst hi
  have hX1 : va_X b L xs s H := hX.kept (hS.2.1 b hbl hbA)
  have hr := W.runS (e := e) (below := below) (meth := meth) (H := H) (locs := locs) (cells := cells) (slots := slots) (rest := rest) (As := [.ref b, .int (nI k)]) (g := F0 m pc ls (.int (nI k) :: .ref b :: rest)) S (k_L_cell l b L xs hL k hk) cw ⟨cP_blind _ _ _ _, fun U h hW => ⟨rfl, by show va_X b L xs U U.heap; rw [h]; exact va_X.moved hW.alike hX1⟩⟩ rfl rfl hsize rfl (lv_room hW) hdg ⟨hc, hs⟩
  intro T hT X
  obtain ⟨v', st₀, t, T', L, h0, X', hL, e1, ⟨hv, hh⟩, st⟩ := hr T hT X
  cases hv
  have hL0 : L = [] := by
    cases L with
    | nil => rfl
    | cons q _ => exact absurd (hL q List.mem_cons_self) id
  subst hL0
  rw [List.append_nil] at X'
  obtain ⟨t2, a1, b1⟩ := kk T' (by rw [e1, hh, h0]) X'
  exact ⟨t2, st t2 a1, b1⟩
end
