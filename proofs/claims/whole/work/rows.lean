section
-- ===== PART A: goes FIRST, ahead of the names: the tables' words, and 'selects' of the private methods out of them =====
/-- a private method of a class that the tables say can be made, by its rows of tables_1 -/
def lw_okq (q : MethodName × Nat) : Prop := (q.1.cls ≠ "java/lang/invoke/MethodHandle" ∧ q.1.cls ≠ "java/lang/invoke/VarHandle") ∧ Cond.instantiable q.1.cls q.2 ∈ tables_1 ∧ Cond.privateMethod q.1 ∈ tables_1 ∧ Cond.instanceMethod q.1 ∈ tables_1
theorem lw_p0 : lw_okq (⟨"java/lang/Throwable", "fillInStackTrace", "(I)Ljava/lang/Throwable;"⟩, 6) := ⟨⟨by decide +kernel, by decide +kernel⟩, List.mem_of_getElem? (i := 145) (by decide +kernel), List.mem_of_getElem? (i := 143) (by decide +kernel), List.mem_of_getElem? (i := 144) (by decide +kernel)⟩
theorem lw_p1 : lw_okq (⟨"BridgeCells$Section", "place", "(II)I"⟩, 14) := ⟨⟨by decide +kernel, by decide +kernel⟩, List.mem_of_getElem? (i := 19) (by decide +kernel), List.mem_of_getElem? (i := 184) (by decide +kernel), List.mem_of_getElem? (i := 185) (by decide +kernel)⟩
theorem lw_p2 : lw_okq (⟨"BridgeCells$Section", "countAlong", "(I)I"⟩, 14) := ⟨⟨by decide +kernel, by decide +kernel⟩, List.mem_of_getElem? (i := 19) (by decide +kernel), List.mem_of_getElem? (i := 213) (by decide +kernel), List.mem_of_getElem? (i := 214) (by decide +kernel)⟩
theorem lw_p3 : lw_okq (⟨"BridgeCells$Section", "cellAlong", "(II)I"⟩, 14) := ⟨⟨by decide +kernel, by decide +kernel⟩, List.mem_of_getElem? (i := 19) (by decide +kernel), List.mem_of_getElem? (i := 217) (by decide +kernel), List.mem_of_getElem? (i := 218) (by decide +kernel)⟩
theorem lw_p4 : lw_okq (⟨"BridgeCells$Section", "outward", "(I)I"⟩, 14) := ⟨⟨by decide +kernel, by decide +kernel⟩, List.mem_of_getElem? (i := 19) (by decide +kernel), List.mem_of_getElem? (i := 221) (by decide +kernel), List.mem_of_getElem? (i := 222) (by decide +kernel)⟩
theorem lw_p5 : lw_okq (⟨"BridgeCells$Section", "findLowAndHigh", "()V"⟩, 14) := ⟨⟨by decide +kernel, by decide +kernel⟩, List.mem_of_getElem? (i := 19) (by decide +kernel), List.mem_of_getElem? (i := 244) (by decide +kernel), List.mem_of_getElem? (i := 245) (by decide +kernel)⟩
theorem lw_p6 : lw_okq (⟨"BridgeCells$Section", "joinNeighbours", "()V"⟩, 14) := ⟨⟨by decide +kernel, by decide +kernel⟩, List.mem_of_getElem? (i := 19) (by decide +kernel), List.mem_of_getElem? (i := 250) (by decide +kernel), List.mem_of_getElem? (i := 251) (by decide +kernel)⟩
theorem lw_p7 : lw_okq (⟨"BridgeCells$Section", "startAtLow", "()V"⟩, 14) := ⟨⟨by decide +kernel, by decide +kernel⟩, List.mem_of_getElem? (i := 19) (by decide +kernel), List.mem_of_getElem? (i := 257) (by decide +kernel), List.mem_of_getElem? (i := 258) (by decide +kernel)⟩
theorem lw_p8 : lw_okq (⟨"BridgeCells$Section", "weigh", "(I)V"⟩, 14) := ⟨⟨by decide +kernel, by decide +kernel⟩, List.mem_of_getElem? (i := 19) (by decide +kernel), List.mem_of_getElem? (i := 261) (by decide +kernel), List.mem_of_getElem? (i := 262) (by decide +kernel)⟩
theorem lw_p9 : lw_okq (⟨"BridgeCells$Section", "raiseAll", "()Z"⟩, 14) := ⟨⟨by decide +kernel, by decide +kernel⟩, List.mem_of_getElem? (i := 19) (by decide +kernel), List.mem_of_getElem? (i := 265) (by decide +kernel), List.mem_of_getElem? (i := 266) (by decide +kernel)⟩
theorem lw_p10 : lw_okq (⟨"BridgeCells$Section", "raise", "(II)V"⟩, 14) := ⟨⟨by decide +kernel, by decide +kernel⟩, List.mem_of_getElem? (i := 19) (by decide +kernel), List.mem_of_getElem? (i := 269) (by decide +kernel), List.mem_of_getElem? (i := 270) (by decide +kernel)⟩
theorem lw_p11 : lw_okq (⟨"BridgeCells", "isJoint", "(I)Z"⟩, 4) := ⟨⟨by decide +kernel, by decide +kernel⟩, List.mem_of_getElem? (i := 11) (by decide +kernel), List.mem_of_getElem? (i := 412) (by decide +kernel), List.mem_of_getElem? (i := 413) (by decide +kernel)⟩
theorem lw_p12 : lw_okq (⟨"BridgeCellsModel", "isCell", "(II)Z"⟩, 15) := ⟨⟨by decide +kernel, by decide +kernel⟩, List.mem_of_getElem? (i := 425) (by decide +kernel), List.mem_of_getElem? (i := 485) (by decide +kernel), List.mem_of_getElem? (i := 486) (by decide +kernel)⟩
theorem lw_p13 : lw_okq (⟨"BridgeCellsModel", "may", "(Z)Z"⟩, 15) := ⟨⟨by decide +kernel, by decide +kernel⟩, List.mem_of_getElem? (i := 425) (by decide +kernel), List.mem_of_getElem? (i := 492) (by decide +kernel), List.mem_of_getElem? (i := 493) (by decide +kernel)⟩
theorem lw_p14 : lw_okq (⟨"BridgeCellsModel", "settle", "()V"⟩, 15) := ⟨⟨by decide +kernel, by decide +kernel⟩, List.mem_of_getElem? (i := 425) (by decide +kernel), List.mem_of_getElem? (i := 508) (by decide +kernel), List.mem_of_getElem? (i := 509) (by decide +kernel)⟩
theorem lw_p15 : lw_okq (⟨"BridgeCellsModel", "warms", "(I)Z"⟩, 15) := ⟨⟨by decide +kernel, by decide +kernel⟩, List.mem_of_getElem? (i := 425) (by decide +kernel), List.mem_of_getElem? (i := 512) (by decide +kernel), List.mem_of_getElem? (i := 513) (by decide +kernel)⟩
def lw_privs_1 : List (MethodName × Nat) := [(⟨"java/lang/Throwable", "fillInStackTrace", "(I)Ljava/lang/Throwable;"⟩, 6), (⟨"BridgeCells$Section", "place", "(II)I"⟩, 14), (⟨"BridgeCells$Section", "countAlong", "(I)I"⟩, 14), (⟨"BridgeCells$Section", "cellAlong", "(II)I"⟩, 14), (⟨"BridgeCells$Section", "outward", "(I)I"⟩, 14), (⟨"BridgeCells$Section", "findLowAndHigh", "()V"⟩, 14), (⟨"BridgeCells$Section", "joinNeighbours", "()V"⟩, 14), (⟨"BridgeCells$Section", "startAtLow", "()V"⟩, 14), (⟨"BridgeCells$Section", "weigh", "(I)V"⟩, 14), (⟨"BridgeCells$Section", "raiseAll", "()Z"⟩, 14), (⟨"BridgeCells$Section", "raise", "(II)V"⟩, 14), (⟨"BridgeCells", "isJoint", "(I)Z"⟩, 4), (⟨"BridgeCellsModel", "isCell", "(II)Z"⟩, 15), (⟨"BridgeCellsModel", "may", "(Z)Z"⟩, 15), (⟨"BridgeCellsModel", "settle", "()V"⟩, 15), (⟨"BridgeCellsModel", "warms", "(I)Z"⟩, 15)]
theorem lw_r1 : ∀ q ∈ lw_privs_1, lw_okq q := List.forall_mem_cons.mpr ⟨lw_p0, List.forall_mem_cons.mpr ⟨lw_p1, List.forall_mem_cons.mpr ⟨lw_p2, List.forall_mem_cons.mpr ⟨lw_p3, List.forall_mem_cons.mpr ⟨lw_p4, List.forall_mem_cons.mpr ⟨lw_p5, List.forall_mem_cons.mpr ⟨lw_p6, List.forall_mem_cons.mpr ⟨lw_p7, List.forall_mem_cons.mpr ⟨lw_p8, List.forall_mem_cons.mpr ⟨lw_p9, List.forall_mem_cons.mpr ⟨lw_p10, List.forall_mem_cons.mpr ⟨lw_p11, List.forall_mem_cons.mpr ⟨lw_p12, List.forall_mem_cons.mpr ⟨lw_p13, List.forall_mem_cons.mpr ⟨lw_p14, List.forall_mem_cons.mpr ⟨lw_p15, fun _ h => absurd h List.not_mem_nil⟩⟩⟩⟩⟩⟩⟩⟩⟩⟩⟩⟩⟩⟩⟩⟩
theorem lw_p16 : lw_okq (⟨"BridgeCellsModel", "made", "(II)I"⟩, 15) := ⟨⟨by decide +kernel, by decide +kernel⟩, List.mem_of_getElem? (i := 425) (by decide +kernel), List.mem_of_getElem? (i := 516) (by decide +kernel), List.mem_of_getElem? (i := 517) (by decide +kernel)⟩
theorem lw_p17 : lw_okq (⟨"BridgeCellsModel", "addCell", "(III)V"⟩, 15) := ⟨⟨by decide +kernel, by decide +kernel⟩, List.mem_of_getElem? (i := 425) (by decide +kernel), List.mem_of_getElem? (i := 520) (by decide +kernel), List.mem_of_getElem? (i := 521) (by decide +kernel)⟩
theorem lw_p18 : lw_okq (⟨"BridgeCellsModel", "isBeside", "(III)Z"⟩, 15) := ⟨⟨by decide +kernel, by decide +kernel⟩, List.mem_of_getElem? (i := 425) (by decide +kernel), List.mem_of_getElem? (i := 527) (by decide +kernel), List.mem_of_getElem? (i := 528) (by decide +kernel)⟩
theorem lw_p19 : lw_okq (⟨"BridgeCellsModel", "warmthOf", "(II)I"⟩, 15) := ⟨⟨by decide +kernel, by decide +kernel⟩, List.mem_of_getElem? (i := 425) (by decide +kernel), List.mem_of_getElem? (i := 531) (by decide +kernel), List.mem_of_getElem? (i := 532) (by decide +kernel)⟩
theorem lw_p20 : lw_okq (⟨"BridgeCellsModel", "flowOf", "(I)J"⟩, 15) := ⟨⟨by decide +kernel, by decide +kernel⟩, List.mem_of_getElem? (i := 425) (by decide +kernel), List.mem_of_getElem? (i := 540) (by decide +kernel), List.mem_of_getElem? (i := 541) (by decide +kernel)⟩
theorem lw_p21 : lw_okq (⟨"BridgeCellsModel", "heat", "()J"⟩, 15) := ⟨⟨by decide +kernel, by decide +kernel⟩, List.mem_of_getElem? (i := 425) (by decide +kernel), List.mem_of_getElem? (i := 548) (by decide +kernel), List.mem_of_getElem? (i := 549) (by decide +kernel)⟩
theorem lw_p22 : lw_okq (⟨"BridgeCellsModel", "coldest", "(I)I"⟩, 15) := ⟨⟨by decide +kernel, by decide +kernel⟩, List.mem_of_getElem? (i := 425) (by decide +kernel), List.mem_of_getElem? (i := 556) (by decide +kernel), List.mem_of_getElem? (i := 557) (by decide +kernel)⟩
theorem lw_p23 : lw_okq (⟨"BridgeCellsModel", "faceOf", "(II)I"⟩, 15) := ⟨⟨by decide +kernel, by decide +kernel⟩, List.mem_of_getElem? (i := 425) (by decide +kernel), List.mem_of_getElem? (i := 560) (by decide +kernel), List.mem_of_getElem? (i := 561) (by decide +kernel)⟩
def lw_privs_2 : List (MethodName × Nat) := [(⟨"BridgeCellsModel", "made", "(II)I"⟩, 15), (⟨"BridgeCellsModel", "addCell", "(III)V"⟩, 15), (⟨"BridgeCellsModel", "isBeside", "(III)Z"⟩, 15), (⟨"BridgeCellsModel", "warmthOf", "(II)I"⟩, 15), (⟨"BridgeCellsModel", "flowOf", "(I)J"⟩, 15), (⟨"BridgeCellsModel", "heat", "()J"⟩, 15), (⟨"BridgeCellsModel", "coldest", "(I)I"⟩, 15), (⟨"BridgeCellsModel", "faceOf", "(II)I"⟩, 15)]
theorem lw_r2 : ∀ q ∈ lw_privs_2, lw_okq q := List.forall_mem_cons.mpr ⟨lw_p16, List.forall_mem_cons.mpr ⟨lw_p17, List.forall_mem_cons.mpr ⟨lw_p18, List.forall_mem_cons.mpr ⟨lw_p19, List.forall_mem_cons.mpr ⟨lw_p20, List.forall_mem_cons.mpr ⟨lw_p21, List.forall_mem_cons.mpr ⟨lw_p22, List.forall_mem_cons.mpr ⟨lw_p23, fun _ h => absurd h List.not_mem_nil⟩⟩⟩⟩⟩⟩⟩⟩
def lw_privs : List (MethodName × Nat) := lw_privs_1 ++ (lw_privs_2)
def lw_tbl : List Cond := k2_sels lw_privs ++ tables_1
theorem lw_privs_ok : ∀ q ∈ lw_privs, lw_okq q := by
  show ∀ q ∈ lw_privs_1 ++ (lw_privs_2), lw_okq q
  exact List.forall_mem_append.mpr ⟨lw_r1, lw_r2⟩
end
section
/-! ===== BEGIN words of one list among another's, by their places ===== -/
theorem goodIn_r {big : List Cond} (ws : List Cond) (ps : List Nat) (hp : ws = ps.filterMap (fun i => big[i]?)) (h : ws.all goodWord = true) : GoodIn big ws := by
  intro w hw
  have h1 := List.all_eq_true.mp h w hw
  rw [hp] at hw
  obtain ⟨i, -, hi⟩ := List.mem_filterMap.mp hw
  have hm : w ∈ big := by first | exact List.mem_of_getElem? hi | exact List.getElem?_mem hi
  exact ⟨hm, good_of_word h1⟩
theorem goodIn_app {big a b : List Cond} (ha : GoodIn big a) (hb : GoodIn big b) : GoodIn big (a ++ b) := fun w h => (List.mem_append.mp h).elim (ha w) (hb w)
theorem goodIn_ca {big a b : List Cond} {c : Cond} (ha : GoodIn big (c :: a)) (hb : GoodIn big b) : GoodIn big (c :: (a ++ b)) := fun w h => (List.mem_cons.mp h).elim (fun e => ha w (List.mem_cons.mpr (Or.inl e))) (fun h => (List.mem_append.mp h).elim (fun h => ha w (List.mem_cons.mpr (Or.inr h))) (hb w))
theorem goodIn_sub {big ws : List Cond} (hm : ∀ w ∈ ws, w ∈ big) (h : ws.all goodWord = true) : GoodIn big ws := fun w hw => ⟨hm w hw, good_of_word (List.all_eq_true.mp h w hw)⟩
/-! ===== END ===== -/

/-! ===== BEGIN exceptions that leave a method, and their catching by the caller (launches without stack traces) ===== -/
section VXA
/-! The laws vx_back, vx_callV, vx_callS, vx_callSW, vx_throw0, vx_throwS follow proofs of the library, with one case more: JvmDerived/Free/Laws.lean (Back.of_free), Shelf42/LK1.lean (callV, callS), Shelf/KitTraced.lean (throwNew0V, throwNewS). -/
/-- where a method has thrown q: the class by its name, the cell, what was written, the world -/
def vx_T (XC : String → State → State → Prop) (st : State) (q : Addr) (t : State) (mc ms : Nat) (free : Addr → Prop) : Prop :=
  ∃ (E : String) (ce : Cell) (L : List Loc), XC E st t ∧ t.heap[q]? = some ce ∧ ce.vm = .none ∧ st.vm.findClass E = some ce.cls ∧ st.WarmedH t.vm ∧ st.sameButNew ({ t with vm := st.vm } : State) L mc ms ∧ ∀ z ∈ L, free z.base
def vx_Q (Qc : Array Value → State → Outcome → State → Prop) (XC : String → State → State → Prop) (mc ms : Nat) (free : Addr → Prop) : Array Value → State → Outcome → State → Prop := fun a st o t =>
  (Qc a st o t ∧ ∃ L, FrameEnd st o t L mc ms ∧ ∀ q ∈ L, free q.base) ∨ ∃ q, o = .threw q ∧ vx_T XC st q t mc ms free
/-- a callee that returns or throws -/
def vx_Met (l : Launch) (y : MethodName) (ws : List Cond) (rm : Room) (Pc : Array Value → State → Prop) (Qc : Array Value → State → Outcome → State → Prop) (XC : String → State → State → Prop) (mc ms : Nat) (free : Addr → Prop) : Prop :=
  MetFree l y (headSpec ws rm) Pc (fun _ _ _ _ _ => True) (vx_Q Qc XC mc ms free)
def vx_Post (XC : String → State → State → Prop) (mc ms : Nat) (free : Addr → Prop) : Pt → Array Value → Addr → Pt → Prop := fun A a q B =>
  ∃ (g : JFrame) (mk : MethodId) (t : State) (L : List Loc) (E : String) (ce : Cell), B.U.heap = t.heap ∧ B.U.vm = t.vm ∧ XC E (A.U.calling g mk a) t ∧ t.heap[q]? = some ce ∧ ce.vm = .none ∧ A.U.vm.findClass E = some ce.cls ∧ B.locs = A.locs ++ L ∧ (∀ z ∈ L, free z.base) ∧ B.cells = A.cells + mc ∧ B.slots = A.slots + ms
def vx_Back (l : Launch) (R : Room) (p : Program) (e : Env) (below : List Frame) (s : State) (sargs : Array Value) (y : MethodName) (len W9 : Nat)
    (Pre : Pt → Array Value → Prop) (Post : Pt → Array Value → Option Value → Pt → Prop) (PostX : Pt → Array Value → Addr → Pt → Prop) : Prop :=
  ∀ (m : MethodId) (meth : Method) (c : Code) (A : Pt) (g : JFrame) (ig : Instr) (mk : MethodId) (a : Array Value),
    Stand p l e R s m sargs below meth c A.U A.locs A.cells A.slots → g.method = m → g.locals.size = c.maxLocals → decode c.code g.pc = .ok (ig, len) →
    2 * g.monitorRoom + (g.stack.map fun v => v.category).sum ≤ W9 → A.U.methodNamed? y = some mk → Pre A a →
    (∃ (v : Option Value) (B : Pt), Stand p l e R s m sargs below meth c B.U B.locs B.cells B.slots ∧ Post A a v B ∧
      Steps p.tables e below (doInvoke e (A.U.setTop g) [] mk a).1 (B.U.setTop { g with pc := g.pc + len, stack := v.toList ++ g.stack })) ∨
    (∃ (q : Addr) (B : Pt), Stand p l e R s m sargs below meth c B.U B.locs B.cells B.slots ∧ PostX A a q B ∧
      Steps p.tables e below (doInvoke e (A.U.setTop g) [] mk a).1 ((B.U.setTop g).pushFrame (.throwing q)))
section Payer
variable {l : Launch} {R : Room} {p : Program} {e : Env} {below : List Frame} {s : State} {sargs : Array Value} {y : MethodName} {len W9 : Nat}
theorem vx_back {ws : List Cond} {rm : Room} {Pc : Array Value → State → Prop} {Qc : Array Value → State → Outcome → State → Prop} {XC : String → State → State → Prop} {mc ms : Nat} {free : Addr → Prop} {bytes : ByteArray} {maxL : Nat} {ret : Option FieldType}
    (hM : vx_Met l y ws rm Pc Qc XC mc ms free) (hblind : FrameBlind Pc) (hrc : rm.cells = mc) (hrs : rm.slots = ms)
    (hframes : rm.frames + 1 ≤ R.frames) (hlocals : W9 + (maxL + 11) + rm.locals ≤ R.locals)
    (hws : ∀ w ∈ ws, ∀ a' U, s.WarmedH U.vm → w.before a' U = true) (hcode : Cond.code y bytes maxL ret ∈ ws) (hinit : ∀ a' U, s.WarmedH U.vm → (Cond.initialized y.cls).before a' U = true) :
    vx_Back l R p e below s sargs y len W9 (PreOf R mc ms Pc) (PostOf Qc mc ms free) (vx_Post XC mc ms free) := by
  intro m meth c A g ig mk a X hg hsize hdg hW hn hp
  have h1 : (headSpec ws rm).pre.before a A.U = true := atoms_intro fun w hw => hws w hw _ _ X.warmed
  have h2 : (Cond.code y bytes maxL ret).before a A.U = true := hws _ hcode _ _ X.warmed
  have h3 : (Cond.initialized y.cls).before a A.U = true := hinit _ _ X.warmed
  have h4 : A.cells + (headSpec ws rm).room.cells ≤ R.cells := by rw [show (headSpec ws rm).room.cells = mc from hrc]; exact hp.1
  have h5 : A.slots + (headSpec ws rm).room.slots ≤ R.slots := by rw [show (headSpec ws rm).room.slots = ms from hrs]; exact hp.2.1
  have hPc : Pc a (A.U.calling g mk a) := hblind _ _ _ _ hp.2.2
  obtain ⟨U, Ls, c0, s0⟩ := A
  dsimp only [Pt.U, Pt.locs, Pt.cells, Pt.slots] at h1 h2 h3 h4 h5 X hn hPc ⊢
  obtain ⟨methY, cY, hmY, hcY, -, hlY, -, -, -, -⟩ := Cond.code_spec hn h2
  obtain ⟨kY, hkY, -⟩ := className_of_methodNamed hn
  have hinitY : kY.init = .initialized := Cond.initialized_spec (findClass_of_methodNamed hn) hkY h3
  have h : At U g.method c below := by rw [hg]; exact X.here
  have hlocals9 : W9 + (maxL + 11) + (headSpec ws rm).room.locals ≤ R.locals := hlocals
  have happ : (headSpec ws rm).appliesLoose y e.platform (U.calling g mk a) = true :=
    Spec.appliesLoose_calling (g := g) h hdg hn hkY hinitY
      (X.room_calling (g := g) (R' := (headSpec ws rm).room) hsize hmY hcY hframes (by rw [hlY]; omega) h4 h5) h1
  obtain ⟨mid, hmid⟩ := h.above
  have hfr : (U.setTop g).frames = (.java g :: mid) ++ below := by rw [State.frames_setTop' g h.top, hmid]; rfl
  obtain ⟨o, s₂, hsteps, -, hend, hq⟩ := Steps.callFree hM p X.admits X.cas X.clock (acts := []) hfr happ hPc trivial
  have hq' : vx_Q Qc XC mc ms free a (U.calling g mk a) o s₂ := hq
  rw [State.frames_setTop' g h.top] at hend
  obtain ⟨g₀, hg0⟩ := Option.isSome_iff_exists.mp h.top
  obtain ⟨r, hr⟩ := State.topJava?_eq_some.mp hg0
  have hr' : (({ U with heap := s₂.heap, slotsUsed := s₂.slotsUsed } : State).setVm s₂.vm).frames = .java g₀ :: r := hr
  rcases hq' with ⟨hqc, L, hfe, hL⟩ | ⟨q, rfl, E, ce, L, hx, hce, hcv, hcl, hW₂, hsm, hL⟩
  · obtain ⟨⟨v, rfl⟩, hW₂, e2, q2, q3, q4, q5, q6⟩ := id hfe
    have e3 : s₂ = ({ (U.calling g mk a).setFrames s₂.frames with heap := s₂.heap, slotsUsed := s₂.slotsUsed } : State).setVm s₂.vm := by
      have : s₂ = ({ s₂ with vm := (U.calling g mk a).vm } : State).setVm s₂.vm := rfl
      rw [e2] at this
      exact this
    obtain ⟨c₂, i₂, len₂, hc₂, hd₂, hf₂⟩ := hend
    have hW' : U.WarmedH s₂.vm := hW₂
    have hcc : c₂ = c := by
      have h1 : s₂.code? g.method = U.code? g.method := by
        rw [State.code?_eq, State.code?_eq, hW'.alike.method?]
      exact Option.some.inj (hc₂.symm.trans (h1.trans h.code))
    subst hcc
    have hlen : len₂ = len := by rw [hdg] at hd₂; cases hd₂; rfl
    subst hlen
    have hs₂ : s₂ = (({ U with heap := s₂.heap, slotsUsed := s₂.slotsUsed } : State).setVm s₂.vm).setTop { g with pc := g.pc + len₂, stack := v.toList ++ g.stack } := by
      refine e3.trans ?_
      rw [hf₂, State.calling_eq h.top, State.setFrames_setFrames, State.setTop_of_frames _ hr', hr]
      rfl
    have hsame : U.sameButNew ({ U with heap := s₂.heap, slotsUsed := s₂.slotsUsed } : State) L mc ms := by
      refine ⟨?_, q2, q3, q4, q5, q6⟩
      obtain ⟨t, ht, -⟩ := State.frames_cons hr
      show ({ U with heap := s₂.heap, slotsUsed := s₂.slotsUsed } : State) = { U.setFrames U.frames with heap := s₂.heap, slotsUsed := s₂.slotsUsed }
      rw [State.setFrames_self ht]
    subst hg
    refine Or.inl ⟨v, ⟨(({ U with heap := s₂.heap, slotsUsed := s₂.slotsUsed } : State).setVm s₂.vm), Ls ++ L, c0 + mc, s0 + ms⟩,
      ⟨X.admits, X.cas, X.clock, X.frames, X.room, X.hears, X.method, X.code, (X.here.setHeapUsed s₂.heap s₂.slotsUsed).setVm hW'.alike, X.tail, State.WarmedH.trans X.warmed hW', X.limits, X.bytes, X.same.trans (hsame.setVm s.vm)⟩,
      ⟨g, mk, s₂, L, rfl, rfl, hqc, rfl, hL, rfl, rfl⟩, ?_⟩
    show Steps p.tables e below _ ((({ U with heap := s₂.heap, slotsUsed := s₂.slotsUsed } : State).setVm s₂.vm).setTop { g with pc := g.pc + len₂, stack := v.toList ++ g.stack })
    rw [← hs₂]
    exact hsteps
  · obtain ⟨e2, q2, q3, q4, q5, q6⟩ := id hsm
    have e3 : s₂ = ({ (U.calling g mk a).setFrames s₂.frames with heap := s₂.heap, slotsUsed := s₂.slotsUsed } : State).setVm s₂.vm := by
      have : s₂ = ({ s₂ with vm := (U.calling g mk a).vm } : State).setVm s₂.vm := rfl
      rw [e2] at this
      exact this
    have hf₂ : s₂.frames = .throwing q :: .java g :: U.frames.tail := hend
    have hW' : U.WarmedH s₂.vm := hW₂
    have hs₂ : s₂ = ((({ U with heap := s₂.heap, slotsUsed := s₂.slotsUsed } : State).setVm s₂.vm).setTop g).pushFrame (.throwing q) := by
      refine e3.trans ?_
      rw [hf₂, State.calling_eq h.top, State.setFrames_setFrames, State.pushFrame, State.frames_setTop _ hr', State.setTop_of_frames _ hr', State.setFrames_setFrames, hr]
      rfl
    have hsame : U.sameButNew ({ U with heap := s₂.heap, slotsUsed := s₂.slotsUsed } : State) L mc ms := by
      refine ⟨?_, q2, q3, q4, q5, q6⟩
      obtain ⟨t, ht, -⟩ := State.frames_cons hr
      show ({ U with heap := s₂.heap, slotsUsed := s₂.slotsUsed } : State) = { U.setFrames U.frames with heap := s₂.heap, slotsUsed := s₂.slotsUsed }
      rw [State.setFrames_self ht]
    subst hg
    refine Or.inr ⟨q, ⟨(({ U with heap := s₂.heap, slotsUsed := s₂.slotsUsed } : State).setVm s₂.vm), Ls ++ L, c0 + mc, s0 + ms⟩,
      ⟨X.admits, X.cas, X.clock, X.frames, X.room, X.hears, X.method, X.code, (X.here.setHeapUsed s₂.heap s₂.slotsUsed).setVm hW'.alike, X.tail, State.WarmedH.trans X.warmed hW', X.limits, X.bytes, X.same.trans (hsame.setVm s.vm)⟩,
      ⟨g, mk, s₂, L, E, ce, rfl, rfl, hx, hce, hcv, hcl, rfl, hL, rfl, rfl⟩, ?_⟩
    show Steps p.tables e below _ (((({ U with heap := s₂.heap, slotsUsed := s₂.slotsUsed } : State).setVm s₂.vm).setTop g).pushFrame (.throwing q))
    rw [← hs₂]
    exact hsteps
end Payer
section Calls
variable {p : Program} {l : Launch} {e : Env} {R : Room} {s : State} {m : MethodId} {args : Array Value} {below : List Frame} {meth : Method} {c : Code} {T : State} {locs : List Loc} {cells slots : Nat}
theorem vx_callV (X : Stand p l e R s m args below meth c T locs cells slots) (hexec : p.tables.exec = Jvm.exec) {own C : String} {index : Nat} {y : MethodName} {bytes : ByteArray} {maxL : Nat} {ret : Option FieldType}
    (hown : s.vm.findClass own = some m.cls) (hlink : (Cond.methodLink own index y).before args s = true) (hinst : (Cond.instanceMethod y).before args s = true) (hsel : (Cond.selects C y y).before args s = true)
    (hcode : (Cond.code y bytes maxL ret).before args s = true) (hy : y.cls ≠ "java/lang/invoke/MethodHandle" ∧ y.cls ≠ "java/lang/invoke/VarHandle")
    {W9 : Nat} {Pre : Pt → Array Value → Prop} {Post : Pt → Array Value → Option Value → Pt → Prop} {PostX : Pt → Array Value → Addr → Pt → Prop} (hK : vx_Back l R p e below s args y 3 W9 Pre Post PostX)
    {b : Addr} {cellB : Cell} (hcell : T.heap[b]? = some cellB) (hobj : cellB.vm.isStatics = false) (hcls : s.vm.findClass C = some cellB.cls)
    {g : JFrame} (hg : g.method = m) (hsize : g.locals.size = c.maxLocals) {argsL rest : List Value} (hlen : ∀ sig, parseMethodDescriptor y.desc = some sig → argsL.length = sig.parameters.length)
    (hstack : g.stack = argsL.reverse ++ .ref b :: rest) (hW : 2 * g.monitorRoom + (rest.map fun v => v.category).sum ≤ W9) (hdg : decode c.code g.pc = .ok (.invokevirtual index, 3))
    (hpre : ∀ vm₁, s.WarmedH vm₁ → Pre ⟨T.setVm vm₁, locs, cells, slots⟩ (Value.ref b :: argsL).toArray) :
    (∃ (v : Option Value) (vm₁ : Vm) (B : Pt), s.WarmedH vm₁ ∧ Stand p l e R s m args below meth c B.U B.locs B.cells B.slots ∧ Post ⟨T.setVm vm₁, locs, cells, slots⟩ (Value.ref b :: argsL).toArray v B ∧
      ∀ target, Steps p.tables e below (B.U.setTop { g with pc := g.pc + 3, stack := v.toList ++ rest }) target → Steps p.tables e below (T.setTop g) target) ∨
    (∃ (q : Addr) (vm₁ : Vm) (B : Pt), s.WarmedH vm₁ ∧ Stand p l e R s m args below meth c B.U B.locs B.cells B.slots ∧ PostX ⟨T.setVm vm₁, locs, cells, slots⟩ (Value.ref b :: argsL).toArray q B ∧
      Steps p.tables e below (T.setTop g) ((B.U.setTop { g with stack := rest }).pushFrame (.throwing q))) := by
  obtain ⟨mk, methM, hnamed, hmethM, hstM, habM⟩ := Cond.instanceMethod_spec hinst
  obtain ⟨methM', cM, hmethM', -, -, -, -, -, -, hsigM⟩ := Cond.code_spec hnamed hcode
  cases hmethM.symm.trans hmethM'
  obtain ⟨c2, r2, m2, q1, q2, q3, q4, kP, hkP, hkPi⟩ := Cond.selects_spec hsel
  cases hcls.symm.trans q1
  cases (State.methodFound?_of_named hnamed hy).symm.trans q2
  cases hnamed.symm.trans q3
  have hselP : selectMethod e.platform s.vm cellB.cls mk = .method mk := by rw [Launch.admits_selectMethod X.admits]; exact q4
  obtain ⟨vm₁, X₁, hstep₁⟩ := X.invokevirtual hexec hown hlink hnamed hmethM hstM hkP hkPi hy (a := b) (cell := cellB) hcell
    (fun z h => by rw [h] at hobj; cases hobj) hselP hmethM habM hkP hkPi (g := g) hg (argsL := argsL) (rest := rest) (hlen _ hsigM) hstack hdg
  rcases hK m meth c ⟨T.setVm vm₁, locs, cells, slots⟩ { g with stack := rest } (.invokevirtual index) mk (Value.ref b :: argsL).toArray X₁ hg hsize hdg hW (X₁.named hnamed) (hpre vm₁ X₁.warmed) with ⟨v, B, X', hpost, hsteps⟩ | ⟨q, B, X', hpost, hsteps⟩
  · exact Or.inl ⟨v, vm₁, B, X₁.warmed, X', hpost, fun target h => hstep₁ _ fun acts => by rw [doInvoke_state]; exact hsteps.trans h⟩
  · exact Or.inr ⟨q, vm₁, B, X₁.warmed, X', hpost, hstep₁ _ fun acts => by rw [doInvoke_state]; exact hsteps⟩
theorem vx_callS (X : Stand p l e R s m args below meth c T locs cells slots) (hexec : p.tables.exec = Jvm.exec) {own : String} {index : Nat} {y : MethodName} {bytes : ByteArray} {maxL : Nat} {ret : Option FieldType}
    (hown : s.vm.findClass own = some m.cls) (hlink : (Cond.methodLink own index y).before args s = true) (hstat : (Cond.static y).before args s = true) (hinit : (Cond.initialized y.cls).before args s = true)
    (hcode : (Cond.code y bytes maxL ret).before args s = true) (hy : y.cls ≠ "java/lang/invoke/MethodHandle" ∧ y.cls ≠ "java/lang/invoke/VarHandle")
    {W9 : Nat} {Pre : Pt → Array Value → Prop} {Post : Pt → Array Value → Option Value → Pt → Prop} {PostX : Pt → Array Value → Addr → Pt → Prop} (hK : vx_Back l R p e below s args y 3 W9 Pre Post PostX)
    {g : JFrame} (hg : g.method = m) (hsize : g.locals.size = c.maxLocals) {argsL rest : List Value} (hlen : ∀ sig, parseMethodDescriptor y.desc = some sig → argsL.length = sig.parameters.length)
    (hstack : g.stack = argsL.reverse ++ rest) (hW : 2 * g.monitorRoom + (rest.map fun v => v.category).sum ≤ W9) (hdg : decode c.code g.pc = .ok (.invokestatic index, 3))
    (hpre : ∀ vm₁, s.WarmedH vm₁ → Pre ⟨T.setVm vm₁, locs, cells, slots⟩ argsL.toArray) :
    (∃ (v : Option Value) (vm₁ : Vm) (B : Pt), s.WarmedH vm₁ ∧ Stand p l e R s m args below meth c B.U B.locs B.cells B.slots ∧ Post ⟨T.setVm vm₁, locs, cells, slots⟩ argsL.toArray v B ∧
      ∀ target, Steps p.tables e below (B.U.setTop { g with pc := g.pc + 3, stack := v.toList ++ rest }) target → Steps p.tables e below (T.setTop g) target) ∨
    (∃ (q : Addr) (vm₁ : Vm) (B : Pt), s.WarmedH vm₁ ∧ Stand p l e R s m args below meth c B.U B.locs B.cells B.slots ∧ PostX ⟨T.setVm vm₁, locs, cells, slots⟩ argsL.toArray q B ∧
      Steps p.tables e below (T.setTop g) ((B.U.setTop { g with stack := rest }).pushFrame (.throwing q))) := by
  obtain ⟨mk, hnamed⟩ := Cond.code_named hcode
  obtain ⟨methM, cM, hmethM, -, -, -, -, -, -, hsigM⟩ := Cond.code_spec hnamed hcode
  have hstatic : methM.isStatic = true := Cond.static_spec hnamed hmethM hstat
  obtain ⟨kP, hkP, -⟩ := className_of_methodNamed hnamed
  have hinitP : kP.init = .initialized := Cond.initialized_spec (findClass_of_methodNamed hnamed) hkP hinit
  obtain ⟨vm₁, X₁, hstep₁⟩ := X.invokestatic hexec hown hlink hnamed hmethM hstatic hkP hinitP hy (g := g) hg (argsL := argsL) (rest := rest) (hlen _ hsigM) hstack hdg
  rcases hK m meth c ⟨T.setVm vm₁, locs, cells, slots⟩ { g with stack := rest } (.invokestatic index) mk argsL.toArray X₁ hg hsize hdg hW (X₁.named hnamed) (hpre vm₁ X₁.warmed) with ⟨v, B, X', hpost, hsteps⟩ | ⟨q, B, X', hpost, hsteps⟩
  · exact Or.inl ⟨v, vm₁, B, X₁.warmed, X', hpost, fun target h => hstep₁ _ fun acts => by rw [doInvoke_state]; exact hsteps.trans h⟩
  · exact Or.inr ⟨q, vm₁, B, X₁.warmed, X', hpost, hstep₁ _ fun acts => by rw [doInvoke_state]; exact hsteps⟩
end Calls
theorem vx_cls {s : State} {T : State} {vm₁ : Vm} {E : String} {k : ClassId} (hW : s.WarmedH vm₁) (h : (T.setVm vm₁).vm.findClass E = some k) : s.vm.findClass E = some k := by
  have h1 : vm₁.findClass E = some k := h
  rw [hW.alike.findClass] at h1
  exact h1
/-- the method's frame g, with q thrown over it -/
def vx_W (p : Program) (l : Launch) (e : Env) (R : Room) (s : State) (m : MethodId) (args : Array Value) (below : List Frame) (meth : Method) (c : Code) (H : Heap) (locs : List Loc) (cells slots : Nat) (Q : State → Prop) (g : JFrame) (q : Addr) : Prop :=
  ∀ T : State, T.heap = H → Stand p l e R s m args below meth c T locs cells slots → ∃ t, Steps p.tables e below ((T.setTop g).pushFrame (.throwing q)) t ∧ Q t
def vx_Run (p : Program) (l : Launch) (e : Env) (R : Room) (s : State) (m : MethodId) (args : Array Value) (below : List Frame) (meth : Method) (c : Code) (H : Heap) (locs : List Loc) (cells slots mc ms : Nat) (g : JFrame) (rest : List Value) (Qa : State → Outcome → State → Prop) (XC : String → State → State → Prop) (free : Addr → Prop) : Prop :=
  ∀ T : State, T.heap = H → Stand p l e R s m args below meth c T locs cells slots →
    (∃ (v : Option Value) (st₀ t T' : State) (L : List Loc), st₀.heap = H ∧ Stand p l e R s m args below meth c T' (locs ++ L) (cells + mc) (slots + ms) ∧ (∀ q ∈ L, free q.base) ∧ T'.heap = t.heap ∧ T'.vm = t.vm ∧ Qa st₀ (.returned v) t ∧
      Goes p e below T g T' { g with pc := g.pc + 3, stack := v.toList ++ rest }) ∨
    (∃ (q : Addr) (st₀ t T' : State) (L : List Loc) (E : String) (ce : Cell), st₀.heap = H ∧ Stand p l e R s m args below meth c T' (locs ++ L) (cells + mc) (slots + ms) ∧ (∀ z ∈ L, free z.base) ∧ T'.heap = t.heap ∧ T'.vm = t.vm ∧ XC E st₀ t ∧ t.heap[q]? = some ce ∧ ce.vm = .none ∧ s.vm.findClass E = some ce.cls ∧
      Steps p.tables e below (T.setTop g) ((T'.setTop { g with stack := rest }).pushFrame (.throwing q)))
def vx_X {S : Type} (px : S → Prop) (B : String → S → State → Prop) (A : Nat → Prop) : String → State → State → Prop := fun E st t => ∃ u : S, px u ∧ B E u t ∧ va_F A st t
section Runs
variable {p : Program} {l : Launch} {e : Env} {R : Room} {s : State} {m : MethodId} {args : Array Value} {below : List Frame} {meth : Method} {c : Code} {H : Heap} {locs : List Loc} {cells slots : Nat}
variable {y : MethodName} {bytes cc : ByteArray} {maxL nL mc ms n index : Nat} {ret : Option FieldType} {ws : List Cond} {rm : Room} {Pc : Array Value → State → Prop} {Qc : Array Value → State → Outcome → State → Prop} {XC : String → State → State → Prop} {free : Addr → Prop} {Ts : List Cond} {own C : String} {b : Addr} {As rest : List Value} {g : JFrame}
theorem vx_callBack (cb : CallB R s args own index y bytes maxL ret ws rm mc ms n) (hM : vx_Met l y ws rm Pc Qc XC mc ms free) (hbl : FrameBlind Pc) : vx_Back l R p e below s args y 3 8 (PreOf R mc ms Pc) (PostOf Qc mc ms free) (vx_Post XC mc ms free) := by
  obtain ⟨hrc, hrs, hfr, hlo, hws, hcw, -, hini, -⟩ := cb
  exact vx_back (bytes := bytes) (maxL := maxL) (ret := ret) hM hbl hrc hrs hfr hlo hws hcw (fun a' U hW => word_at hW (Or.inl (by first | rfl | simp [Cond.onTables, Cond.keeps, Cond.steady])) hini)
theorem vx_runV (S : CallFix p m c cc nL s args Ts own) (hM : vx_Met l y ws rm Pc Qc XC mc ms free) (cw : CallW R s args own C index y bytes maxL ret ws rm mc ms n) (hp : PreV s H C b Pc As)
    (hg : g.method = m) (hn : As.length = n) (hsize : g.locals.size = nL) (hstack : g.stack = As.reverse ++ .ref b :: rest) (hW : 2 * g.monitorRoom + (rest.map fun v => v.category).sum ≤ 8) (hdg : decode cc g.pc = .ok (.invokevirtual index, 3)) (hf : cells + mc ≤ R.cells ∧ slots + ms ≤ R.slots) :
    vx_Run p l e R s m args below meth c H locs cells slots mc ms g rest (Qc (Value.ref b :: As).toArray) XC free := by
  have hK : vx_Back l R p e below s args y 3 8 (PreOf R mc ms Pc) (PostOf Qc mc ms free) (vx_Post XC mc ms free) := vx_callBack cw.1 hM hp.1
  obtain ⟨⟨-, -, -, -, -, -, hcode, -, hy, hlen, hl⟩, hin, hse⟩ := cw
  obtain ⟨hx, hb, hml, ho, -⟩ := S
  obtain ⟨-, ⟨cellB, hcB, hoB, hclB⟩, hPc⟩ := hp
  intro T hT X
  rcases vx_callV X hx (C := C) (bytes := bytes) (maxL := maxL) (ret := ret) ho hl hin hse hcode hy hK (by rw [hT]; exact hcB) hoB hclB hg (hsize.trans hml.symm) (argsL := As) (rest := rest) (fun sig h => hn.trans (hlen sig h)) hstack hW (by rw [hb]; exact hdg)
    (fun vm₁ hW₁ => ⟨hf.1, hf.2, hPc (T.setVm vm₁) hT hW₁⟩) with ⟨v, vm₁, ⟨U', l2, c2, s2⟩, hW₁, X', ⟨g', mk, t, L, e1, e2, hq, h1, hL, h2, h3⟩, st⟩ | ⟨q, vm₁, ⟨U', l2, c2, s2⟩, hW₁, X', ⟨g', mk, t, L, E, ce, e1, e2, hq, hce, hcv, hcl, h1, hL, h2, h3⟩, st⟩
  · dsimp only [Pt.U, Pt.locs, Pt.cells, Pt.slots] at X' e1 e2 h1 h2 h3 st
    subst h1; subst h2; subst h3
    exact Or.inl ⟨v, (T.setVm vm₁).calling g' mk (Value.ref b :: As).toArray, t, U', L, hT, X', hL, e1, e2, hq, st⟩
  · dsimp only [Pt.U, Pt.locs, Pt.cells, Pt.slots] at X' e1 e2 h1 h2 h3 st hcl
    subst h1; subst h2; subst h3
    exact Or.inr ⟨q, (T.setVm vm₁).calling g' mk (Value.ref b :: As).toArray, t, U', L, E, ce, hT, X', hL, e1, e2, hq, hce, hcv, vx_cls hW₁ hcl, st⟩
theorem vx_runS (S : CallFix p m c cc nL s args Ts own) (hM : vx_Met l y ws rm Pc Qc XC mc ms free) (cw : CallB R s args own index y bytes maxL ret ws rm mc ms n ∧ (Cond.static y).before args s = true) (hp : PreS s H Pc As)
    (hg : g.method = m) (hn : As.length = n) (hsize : g.locals.size = nL) (hstack : g.stack = As.reverse ++ rest) (hW : 2 * g.monitorRoom + (rest.map fun v => v.category).sum ≤ 8) (hdg : decode cc g.pc = .ok (.invokestatic index, 3)) (hf : cells + mc ≤ R.cells ∧ slots + ms ≤ R.slots) :
    vx_Run p l e R s m args below meth c H locs cells slots mc ms g rest (Qc As.toArray) XC free := by
  have hK : vx_Back l R p e below s args y 3 8 (PreOf R mc ms Pc) (PostOf Qc mc ms free) (vx_Post XC mc ms free) := vx_callBack cw.1 hM hp.1
  obtain ⟨⟨-, -, -, -, -, -, hcode, hini, hy, hlen, hl⟩, hstt⟩ := cw
  obtain ⟨hx, hb, hml, ho, -⟩ := S
  intro T hT X
  rcases vx_callS X hx (bytes := bytes) (maxL := maxL) (ret := ret) ho hl hstt hini hcode hy hK hg (hsize.trans hml.symm) (argsL := As) (rest := rest) (fun sig h => hn.trans (hlen sig h)) hstack hW (by rw [hb]; exact hdg)
    (fun vm₁ hW₁ => ⟨hf.1, hf.2, hp.2 (T.setVm vm₁) hT hW₁⟩) with ⟨v, vm₁, ⟨U', l2, c2, s2⟩, hW₁, X', ⟨g', mk, t, L, e1, e2, hq, h1, hL, h2, h3⟩, st⟩ | ⟨q, vm₁, ⟨U', l2, c2, s2⟩, hW₁, X', ⟨g', mk, t, L, E, ce, e1, e2, hq, hce, hcv, hcl, h1, hL, h2, h3⟩, st⟩
  · dsimp only [Pt.U, Pt.locs, Pt.cells, Pt.slots] at X' e1 e2 h1 h2 h3 st
    subst h1; subst h2; subst h3
    exact Or.inl ⟨v, (T.setVm vm₁).calling g' mk As.toArray, t, U', L, hT, X', hL, e1, e2, hq, st⟩
  · dsimp only [Pt.U, Pt.locs, Pt.cells, Pt.slots] at X' e1 e2 h1 h2 h3 st hcl
    subst h1; subst h2; subst h3
    exact Or.inr ⟨q, (T.setVm vm₁).calling g' mk As.toArray, t, U', L, E, ce, hT, X', hL, e1, e2, hq, hce, hcv, vx_cls hW₁ hcl, st⟩
end Runs
section Rows
variable {p : Program} {l : Launch} {e : Env} {R : Room} {s : State} {m : MethodId} {args : Array Value} {below : List Frame} {meth : Method} {c : Code} {H : Heap} {locs : List Loc} {cells slots : Nat} {Q : State → Prop}
variable {mc ms : Nat} {free : Addr → Prop} {A0 A1 : Nat → Prop} {H0 : Heap} {a : Array Value} {pc : Nat} {ls : Array Slot} {st0 rest : List Value}
theorem vx_keep {st₀ t T' : State} {L : List Loc} (h0 : st₀.heap = H) (e1 : T'.heap = t.heap) (hS : va_S A0 H0 H locs) (hA : ∀ q, q < H.size → A1 q → A0 q) (hf : ∀ q, free q → A0 q) (hL : ∀ q ∈ L, free q.base) (hF : va_F A1 st₀ t) :
    H.size ≤ T'.heap.size ∧ (∀ q : Nat, q < H.size → ¬ A1 q → T'.heap[q]? = H[q]?) ∧ va_S A0 H0 T'.heap (locs ++ L) := by
  obtain ⟨hz, hk⟩ := hF
  rw [h0] at hz hk
  exact ⟨by rw [e1]; exact hz, fun q h1 h2 => by rw [e1]; exact hk q h1 h2,
    ⟨Nat.le_trans hS.1 (by rw [e1]; exact hz), fun q h1 h2 => by rw [e1, hk q (Nat.lt_of_lt_of_le h1 hS.1) (fun z => h2 (hA q (Nat.lt_of_lt_of_le h1 hS.1) z))]; exact hS.2.1 q h1 h2, fun q hq => by
      rcases List.mem_append.mp hq with h | h
      · exact hS.2.2 q h
      · exact hf _ (hL q h)⟩⟩
theorem vx_calli {S SX : Type} {post : Int32 → S → Prop} {px : SX → Prop} {B : S → State → Prop} {BX : String → SX → State → Prop} {AX : Nat → Prop} (hr : vx_Run p l e R s m args below meth c H locs cells slots mc ms (F0 m pc ls st0) rest (va_Qi post B A1 a) (vx_X px BX AX) free) (hS : va_S A0 H0 H locs) (hA : ∀ q, q < H.size → A1 q → A0 q) (hf : ∀ q, free q → A0 q) (hAX : ∀ q, q < H.size → AX q → A0 q)
    (kx : ∀ (E : String) (ce : Cell) (q9 : Addr) (u : SX) (t : State) (H1 : Heap) (locs1 : List Loc), t.heap = H1 → s.vm.Alike t.vm → px u → BX E u t → H.size ≤ H1.size → (∀ q : Nat, q < H.size → ¬ AX q → H1[q]? = H[q]?) → va_S A0 H0 H1 locs1 → H1[q9]? = some ce → ce.vm = .none → s.vm.findClass E = some ce.cls → vx_W p l e R s m args below meth c H1 locs1 (cells + mc) (slots + ms) Q (F0 m pc ls rest) q9)
    (kk : ∀ (r : Int32) (u : S) (t : State) (H1 : Heap) (locs1 : List Loc), t.heap = H1 → s.vm.Alike t.vm → post r u → B u t → H.size ≤ H1.size → (∀ q : Nat, q < H.size → ¬ A1 q → H1[q]? = H[q]?) → va_S A0 H0 H1 locs1 → W p l e R s m args below meth c H1 locs1 (cells + mc) (slots + ms) Q (F0 m (pc + 3) ls (.int r :: rest))) : W p l e R s m args below meth c H locs cells slots Q (F0 m pc ls st0) := by
  intro T hT X
  rcases hr T hT X with ⟨v, st₀, t, T', L, h0, X', hL, e1, e2, ⟨⟨r, u, hv, hp, hb⟩, hF⟩, st⟩ | ⟨q, st₀, t, T', L, E, ce, h0, X', hL, e1, e2, ⟨u, hp, hb, hF⟩, hce, hcv, hcl, st⟩
  · cases hv
    obtain ⟨k1, k2, k3⟩ := vx_keep h0 e1 hS hA hf hL hF
    obtain ⟨t2, a1, b1⟩ := kk r u t T'.heap (locs ++ L) e1.symm (by rw [← e2]; exact X'.warmed.alike) hp hb k1 k2 k3 T' rfl X'
    exact ⟨t2, st t2 a1, b1⟩
  · obtain ⟨k1, k2, k3⟩ := vx_keep h0 e1 hS hAX hf hL hF
    obtain ⟨t2, a1, b1⟩ := kx E ce q u t T'.heap (locs ++ L) e1.symm (by rw [← e2]; exact X'.warmed.alike) hp hb k1 k2 k3 (by rw [e1]; exact hce) hcv hcl T' rfl X'
    exact ⟨t2, st.trans a1, b1⟩
theorem vx_calll {S SX : Type} {post : Int64 → S → Prop} {px : SX → Prop} {B : S → State → Prop} {BX : String → SX → State → Prop} {AX : Nat → Prop} (hr : vx_Run p l e R s m args below meth c H locs cells slots mc ms (F0 m pc ls st0) rest (va_Ql post B A1 a) (vx_X px BX AX) free) (hS : va_S A0 H0 H locs) (hA : ∀ q, q < H.size → A1 q → A0 q) (hf : ∀ q, free q → A0 q) (hAX : ∀ q, q < H.size → AX q → A0 q)
    (kx : ∀ (E : String) (ce : Cell) (q9 : Addr) (u : SX) (t : State) (H1 : Heap) (locs1 : List Loc), t.heap = H1 → s.vm.Alike t.vm → px u → BX E u t → H.size ≤ H1.size → (∀ q : Nat, q < H.size → ¬ AX q → H1[q]? = H[q]?) → va_S A0 H0 H1 locs1 → H1[q9]? = some ce → ce.vm = .none → s.vm.findClass E = some ce.cls → vx_W p l e R s m args below meth c H1 locs1 (cells + mc) (slots + ms) Q (F0 m pc ls rest) q9)
    (kk : ∀ (r : Int64) (u : S) (t : State) (H1 : Heap) (locs1 : List Loc), t.heap = H1 → s.vm.Alike t.vm → post r u → B u t → H.size ≤ H1.size → (∀ q : Nat, q < H.size → ¬ A1 q → H1[q]? = H[q]?) → va_S A0 H0 H1 locs1 → W p l e R s m args below meth c H1 locs1 (cells + mc) (slots + ms) Q (F0 m (pc + 3) ls (.long r :: rest))) : W p l e R s m args below meth c H locs cells slots Q (F0 m pc ls st0) := by
  intro T hT X
  rcases hr T hT X with ⟨v, st₀, t, T', L, h0, X', hL, e1, e2, ⟨⟨r, u, hv, hp, hb⟩, hF⟩, st⟩ | ⟨q, st₀, t, T', L, E, ce, h0, X', hL, e1, e2, ⟨u, hp, hb, hF⟩, hce, hcv, hcl, st⟩
  · cases hv
    obtain ⟨k1, k2, k3⟩ := vx_keep h0 e1 hS hA hf hL hF
    obtain ⟨t2, a1, b1⟩ := kk r u t T'.heap (locs ++ L) e1.symm (by rw [← e2]; exact X'.warmed.alike) hp hb k1 k2 k3 T' rfl X'
    exact ⟨t2, st t2 a1, b1⟩
  · obtain ⟨k1, k2, k3⟩ := vx_keep h0 e1 hS hAX hf hL hF
    obtain ⟨t2, a1, b1⟩ := kx E ce q u t T'.heap (locs ++ L) e1.symm (by rw [← e2]; exact X'.warmed.alike) hp hb k1 k2 k3 (by rw [e1]; exact hce) hcv hcl T' rfl X'
    exact ⟨t2, st.trans a1, b1⟩
theorem vx_callf {S SX : Type} {post : UInt32 → S → Prop} {px : SX → Prop} {B : S → State → Prop} {BX : String → SX → State → Prop} {AX : Nat → Prop} (hr : vx_Run p l e R s m args below meth c H locs cells slots mc ms (F0 m pc ls st0) rest (va_Qf post B A1 a) (vx_X px BX AX) free) (hS : va_S A0 H0 H locs) (hA : ∀ q, q < H.size → A1 q → A0 q) (hf : ∀ q, free q → A0 q) (hAX : ∀ q, q < H.size → AX q → A0 q)
    (kx : ∀ (E : String) (ce : Cell) (q9 : Addr) (u : SX) (t : State) (H1 : Heap) (locs1 : List Loc), t.heap = H1 → s.vm.Alike t.vm → px u → BX E u t → H.size ≤ H1.size → (∀ q : Nat, q < H.size → ¬ AX q → H1[q]? = H[q]?) → va_S A0 H0 H1 locs1 → H1[q9]? = some ce → ce.vm = .none → s.vm.findClass E = some ce.cls → vx_W p l e R s m args below meth c H1 locs1 (cells + mc) (slots + ms) Q (F0 m pc ls rest) q9)
    (kk : ∀ (r : UInt32) (u : S) (t : State) (H1 : Heap) (locs1 : List Loc), t.heap = H1 → s.vm.Alike t.vm → post r u → B u t → H.size ≤ H1.size → (∀ q : Nat, q < H.size → ¬ A1 q → H1[q]? = H[q]?) → va_S A0 H0 H1 locs1 → W p l e R s m args below meth c H1 locs1 (cells + mc) (slots + ms) Q (F0 m (pc + 3) ls (.float r :: rest))) : W p l e R s m args below meth c H locs cells slots Q (F0 m pc ls st0) := by
  intro T hT X
  rcases hr T hT X with ⟨v, st₀, t, T', L, h0, X', hL, e1, e2, ⟨⟨r, u, hv, hp, hb⟩, hF⟩, st⟩ | ⟨q, st₀, t, T', L, E, ce, h0, X', hL, e1, e2, ⟨u, hp, hb, hF⟩, hce, hcv, hcl, st⟩
  · cases hv
    obtain ⟨k1, k2, k3⟩ := vx_keep h0 e1 hS hA hf hL hF
    obtain ⟨t2, a1, b1⟩ := kk r u t T'.heap (locs ++ L) e1.symm (by rw [← e2]; exact X'.warmed.alike) hp hb k1 k2 k3 T' rfl X'
    exact ⟨t2, st t2 a1, b1⟩
  · obtain ⟨k1, k2, k3⟩ := vx_keep h0 e1 hS hAX hf hL hF
    obtain ⟨t2, a1, b1⟩ := kx E ce q u t T'.heap (locs ++ L) e1.symm (by rw [← e2]; exact X'.warmed.alike) hp hb k1 k2 k3 (by rw [e1]; exact hce) hcv hcl T' rfl X'
    exact ⟨t2, st.trans a1, b1⟩
theorem vx_calld {S SX : Type} {post : UInt64 → S → Prop} {px : SX → Prop} {B : S → State → Prop} {BX : String → SX → State → Prop} {AX : Nat → Prop} (hr : vx_Run p l e R s m args below meth c H locs cells slots mc ms (F0 m pc ls st0) rest (va_Qd post B A1 a) (vx_X px BX AX) free) (hS : va_S A0 H0 H locs) (hA : ∀ q, q < H.size → A1 q → A0 q) (hf : ∀ q, free q → A0 q) (hAX : ∀ q, q < H.size → AX q → A0 q)
    (kx : ∀ (E : String) (ce : Cell) (q9 : Addr) (u : SX) (t : State) (H1 : Heap) (locs1 : List Loc), t.heap = H1 → s.vm.Alike t.vm → px u → BX E u t → H.size ≤ H1.size → (∀ q : Nat, q < H.size → ¬ AX q → H1[q]? = H[q]?) → va_S A0 H0 H1 locs1 → H1[q9]? = some ce → ce.vm = .none → s.vm.findClass E = some ce.cls → vx_W p l e R s m args below meth c H1 locs1 (cells + mc) (slots + ms) Q (F0 m pc ls rest) q9)
    (kk : ∀ (r : UInt64) (u : S) (t : State) (H1 : Heap) (locs1 : List Loc), t.heap = H1 → s.vm.Alike t.vm → post r u → B u t → H.size ≤ H1.size → (∀ q : Nat, q < H.size → ¬ A1 q → H1[q]? = H[q]?) → va_S A0 H0 H1 locs1 → W p l e R s m args below meth c H1 locs1 (cells + mc) (slots + ms) Q (F0 m (pc + 3) ls (.double r :: rest))) : W p l e R s m args below meth c H locs cells slots Q (F0 m pc ls st0) := by
  intro T hT X
  rcases hr T hT X with ⟨v, st₀, t, T', L, h0, X', hL, e1, e2, ⟨⟨r, u, hv, hp, hb⟩, hF⟩, st⟩ | ⟨q, st₀, t, T', L, E, ce, h0, X', hL, e1, e2, ⟨u, hp, hb, hF⟩, hce, hcv, hcl, st⟩
  · cases hv
    obtain ⟨k1, k2, k3⟩ := vx_keep h0 e1 hS hA hf hL hF
    obtain ⟨t2, a1, b1⟩ := kk r u t T'.heap (locs ++ L) e1.symm (by rw [← e2]; exact X'.warmed.alike) hp hb k1 k2 k3 T' rfl X'
    exact ⟨t2, st t2 a1, b1⟩
  · obtain ⟨k1, k2, k3⟩ := vx_keep h0 e1 hS hAX hf hL hF
    obtain ⟨t2, a1, b1⟩ := kx E ce q u t T'.heap (locs ++ L) e1.symm (by rw [← e2]; exact X'.warmed.alike) hp hb k1 k2 k3 (by rw [e1]; exact hce) hcv hcl T' rfl X'
    exact ⟨t2, st.trans a1, b1⟩
theorem vx_callv {S SX : Type} {post : S → Prop} {px : SX → Prop} {B : S → State → Prop} {BX : String → SX → State → Prop} {AX : Nat → Prop} (hr : vx_Run p l e R s m args below meth c H locs cells slots mc ms (F0 m pc ls st0) rest (va_Qv post B A1 a) (vx_X px BX AX) free) (hS : va_S A0 H0 H locs) (hA : ∀ q, q < H.size → A1 q → A0 q) (hf : ∀ q, free q → A0 q) (hAX : ∀ q, q < H.size → AX q → A0 q)
    (kx : ∀ (E : String) (ce : Cell) (q9 : Addr) (u : SX) (t : State) (H1 : Heap) (locs1 : List Loc), t.heap = H1 → s.vm.Alike t.vm → px u → BX E u t → H.size ≤ H1.size → (∀ q : Nat, q < H.size → ¬ AX q → H1[q]? = H[q]?) → va_S A0 H0 H1 locs1 → H1[q9]? = some ce → ce.vm = .none → s.vm.findClass E = some ce.cls → vx_W p l e R s m args below meth c H1 locs1 (cells + mc) (slots + ms) Q (F0 m pc ls rest) q9)
    (kk : ∀ (u : S) (t : State) (H1 : Heap) (locs1 : List Loc), t.heap = H1 → s.vm.Alike t.vm → post u → B u t → H.size ≤ H1.size → (∀ q : Nat, q < H.size → ¬ A1 q → H1[q]? = H[q]?) → va_S A0 H0 H1 locs1 → W p l e R s m args below meth c H1 locs1 (cells + mc) (slots + ms) Q (F0 m (pc + 3) ls (rest))) : W p l e R s m args below meth c H locs cells slots Q (F0 m pc ls st0) := by
  intro T hT X
  rcases hr T hT X with ⟨v, st₀, t, T', L, h0, X', hL, e1, e2, ⟨⟨u, hv, hp, hb⟩, hF⟩, st⟩ | ⟨q, st₀, t, T', L, E, ce, h0, X', hL, e1, e2, ⟨u, hp, hb, hF⟩, hce, hcv, hcl, st⟩
  · cases hv
    obtain ⟨k1, k2, k3⟩ := vx_keep h0 e1 hS hA hf hL hF
    obtain ⟨t2, a1, b1⟩ := kk u t T'.heap (locs ++ L) e1.symm (by rw [← e2]; exact X'.warmed.alike) hp hb k1 k2 k3 T' rfl X'
    exact ⟨t2, st t2 a1, b1⟩
  · obtain ⟨k1, k2, k3⟩ := vx_keep h0 e1 hS hAX hf hL hF
    obtain ⟨t2, a1, b1⟩ := kx E ce q u t T'.heap (locs ++ L) e1.symm (by rw [← e2]; exact X'.warmed.alike) hp hb k1 k2 k3 (by rw [e1]; exact hce) hcv hcl T' rfl X'
    exact ⟨t2, st.trans a1, b1⟩
end Rows
section Ends
variable {p : Program} {l : Launch} {e : Env} {R : Room} {s : State} {m : MethodId} {args : Array Value} {below : List Frame} {meth : Method} {c : Code} {H : Heap} {locs : List Loc} {cells slots : Nat} {Q : State → Prop}
variable {mc ms : Nat} {free : Addr → Prop} {A0 A1 : Nat → Prop} {H0 : Heap} {a : Array Value} {ls : Array Slot} {st0 rest : List Value}
variable {Qc : Array Value → State → Outcome → State → Prop} {XC : String → State → State → Prop}
/-- what a body that may throw owes at its end -/
def vx_MQ (below : List Frame) (Qc : Array Value → State → Outcome → State → Prop) (XC : String → State → State → Prop) (a : Array Value) (s : State) (mc ms : Nat) (free : Addr → Prop) : State → Prop := fun t =>
  ∃ o, t.status = .running ∧ Ended t below o ∧ vx_Q Qc XC mc ms free a s o t
theorem vx_ret {g : JFrame} {mc ms : Nat} (k : W p l e R s m args below meth c H locs cells slots (MQ below Qc args s mc ms free) g) : W p l e R s m args below meth c H locs cells slots (vx_MQ below Qc XC args s mc ms free) g := by
  intro T hT X
  obtain ⟨t, a1, o, b1, b2, b3, b4⟩ := k T hT X
  exact ⟨t, a1, o, b1, b2, Or.inl ⟨b3, b4⟩⟩
/-- not caught here: it goes on to the caller -/
theorem vx_widen {g : JFrame} {q : Addr} {k n : Nat} (h1 : cells ≤ k) (h2 : slots ≤ n) (kk : vx_W p l e R s m args below meth c H locs k n Q g q) : vx_W p l e R s m args below meth c H locs cells slots Q g q := fun T hT X => kk T hT (stand_widen X h1 h2)
theorem vx_out {pc : Nat} {E : String} {ce : Cell} {q : Addr} {mc ms : Nat} (hout : ∀ x ∈ c.exceptionTable.toList, covers x pc = false) (hlocks : meth.locks = false) (hcell : H[q]? = some ce) (hv : ce.vm = .none) (hcl : s.vm.findClass E = some ce.cls)
    (hx : ∀ t : State, t.heap = H → s.vm.Alike t.vm → XC E s t) (hf : ∀ z ∈ locs, free z.base) (hc : cells ≤ mc) (hs : slots ≤ ms) :
    vx_W p l e R s m args below meth c H locs cells slots (vx_MQ below Qc XC args s mc ms free) (F0 m pc ls rest) q := by
  intro T hT X
  obtain ⟨st1, hrun, hend, hW, hsm⟩ := X.leaveThrown q (g := F0 m pc ls rest) rfl rfl rfl hout hlocks
  have hcell9 : (T.setFrames (.throwing q :: below)).heap[q]? = some ce := by
    show T.heap[q]? = some ce
    rw [hT]; exact hcell
  exact ⟨_, st1, .threw q, hrun, hend, Or.inr ⟨q, rfl, E, ce, locs, hx _ hT hW.alike, hcell9, hv, hcl, hW, hsm.mono hc hs, hf⟩⟩
theorem vx_frame {U : State} {k n : Nat} (h : s.sameButNew ({ U with vm := s.vm } : State) locs k n) : s.heap.size ≤ U.heap.size ∧ ∀ q : Nat, q < s.heap.size → (∀ z ∈ locs, z.base ≠ q) → U.heap[q]? = s.heap[q]? := by
  obtain ⟨-, h2, -, -, -, h6⟩ := h
  refine ⟨h2, fun q hq hz => ?_⟩
  obtain ⟨c9, e1, e2, e3, e4⟩ := h6 q _ (Array.getElem?_eq_getElem hq)
  have hs : c9.slots = (s.heap[q]).slots := Array.ext_getElem? fun i => e4 i fun hm => hz _ hm rfl
  have h9 : c9 = s.heap[q] := by
    rw [hs] at e2
    exact e2
  have e5 : U.heap[q]? = some c9 := e1
  rw [e5, h9, Array.getElem?_eq_getElem hq]
/-- the words of a throw but the four that speak of the heap -/
def vx_no (w : Cond) : Bool := decide (w ≠ .isRef (.static Bundle.tN "UNASSIGNED_STACK" Bundle.steD)) && decide (w ≠ .isRef (.static Bundle.tN "SUPPRESSED_SENTINEL" Bundle.listD)) && decide (w ≠ .laysStatic Bundle.tN "UNASSIGNED_STACK" Bundle.steD) && decide (w ≠ .laysStatic Bundle.tN "SUPPRESSED_SENTINEL" Bundle.listD)
def vx_at0 (own : String) (ic : Nat) (X : String) (names : List String) : List Cond := (Bundle.ownAtoms0 own ic X names).filter vx_no
def vx_atS (own : String) (ic : Nat) (X : String) (names : List String) : List Cond := (Bundle.ownAtoms own ic X names).filter vx_no
/-- a word that the tables alone decide, or a good one -/
def vx_ot (w : Cond) : Bool := w.onTables || goodWord w
theorem vx_ot_at {args a' : Array Value} {s U : State} {w : Cond} (hW : s.WarmedH U.vm) (hvm : s.vm = U.vm) (hg : vx_ot w = true) (h : w.before args s = true) : w.before a' U = true := by
  simp only [vx_ot, Bool.or_eq_true] at hg
  rcases hg with hg | hg
  · exact va_tabs hg hvm h
  · exact word_at hW (good_of_word hg) h
/-- a list's words: the good ones out of the method's own list, the others by premises of their own -/
theorem vx_hat {args : Array Value} {s : State} {L B : List Cond} (h1 : ∀ w ∈ L.filter goodWord, w.before args s = true) (h2 : ∀ w ∈ L.filter (fun w => !goodWord w), w ∈ B) (h3 : ∀ w ∈ B, w.before args s = true) : ∀ w ∈ L, w.before args s = true := by
  intro w hw
  by_cases g : goodWord w = true
  · exact h1 w (List.mem_filter.mpr ⟨hw, g⟩)
  · refine h3 w (h2 w (List.mem_filter.mpr ⟨hw, ?_⟩))
    show (!goodWord w) = true
    cases hgw : goodWord w
    · rfl
    · exact absurd hgw g
theorem vx_c {args : Array Value} {s : State} {w : Cond} {B : List Cond} (h : w.before args s = true) (t : ∀ w ∈ B, w.before args s = true) : ∀ w' ∈ w :: B, w'.before args s = true := fun w' h' => (List.mem_cons.mp h').elim (fun e => by rw [e]; exact h) (t w')
theorem vx_n {args : Array Value} {s : State} : ∀ w ∈ ([] : List Cond), w.before args s = true := fun _ h => nomatch h
theorem vx_own {args : Array Value} {s : State} {L : List Cond} (h1 : ∀ w ∈ L.filter vx_no, w.before args s = true)
    (hU : (Cond.isRef (.static Bundle.tN "UNASSIGNED_STACK" Bundle.steD)).before args s = true) (hN : (Cond.isRef (.static Bundle.tN "SUPPRESSED_SENTINEL" Bundle.listD)).before args s = true)
    (lU : (Cond.laysStatic Bundle.tN "UNASSIGNED_STACK" Bundle.steD).before args s = true) (lN : (Cond.laysStatic Bundle.tN "SUPPRESSED_SENTINEL" Bundle.listD).before args s = true) : ∀ w ∈ L, w.before args s = true := by
  intro w hw
  by_cases e1 : w = .isRef (.static Bundle.tN "UNASSIGNED_STACK" Bundle.steD)
  · rw [e1]; exact hU
  · by_cases e2 : w = .isRef (.static Bundle.tN "SUPPRESSED_SENTINEL" Bundle.listD)
    · rw [e2]; exact hN
    · by_cases e3 : w = .laysStatic Bundle.tN "UNASSIGNED_STACK" Bundle.steD
      · rw [e3]; exact lU
      · by_cases e4 : w = .laysStatic Bundle.tN "SUPPRESSED_SENTINEL" Bundle.listD
        · rw [e4]; exact lN
        · exact h1 w (List.mem_filter.mpr ⟨hw, by unfold vx_no; rw [decide_eq_true e1, decide_eq_true e2, decide_eq_true e3, decide_eq_true e4]; rfl⟩)
/-- where a static field lies, its class's statics cell in H -/
def vx_L (C n d : String) (A : Nat → Prop) (U : State) (H : Heap) : Prop := ∃ (c : ClassId) (k : Class) (i : Nat) (f : Field) (a : Nat) (cell : Cell), U.vm.findClass C = some c ∧ U.fieldFound? C n d = some (c, k, i, f) ∧ f.isStatic = true ∧ k.statics = some a ∧ H[a]? = some cell ∧ cell.vm.isStatics = true ∧ cell.cls = c ∧ f.slot < cell.slots.size ∧ k.staticTypes[f.slot]? = some f.type ∧ ¬ A a
theorem vx_L.moved {C n d : String} {A : Nat → Prop} {u U : State} {H : Heap} (hvm : u.vm.Alike U.vm) (h : vx_L C n d A u H) : vx_L C n d A U H := by
  obtain ⟨c, k, i, f, a, cell, h1, h2, h3, h4, h5, h6, h7, h8, h9, h10⟩ := h
  obtain ⟨k', hi', he⟩ := State.fieldFound?_setVm hvm h2
  exact ⟨c, k', i, f, a, cell, by rw [hvm.findClass]; exact h1, hi', h3, by rw [he]; exact h4, h5, h6, h7, h8, by rw [he]; exact h9, h10⟩
theorem vx_L.kept {C n d : String} {A : Nat → Prop} {U : State} {H H1 : Heap} (h : vx_L C n d A U H) (hq : ∀ a : Nat, a < H.size → ¬ A a → H1[a]? = H[a]?) : vx_L C n d A U H1 := by
  obtain ⟨c, k, i, f, a, cell, h1, h2, h3, h4, h5, h6, h7, h8, h9, h10⟩ := h
  exact ⟨c, k, i, f, a, cell, h1, h2, h3, h4, by rw [hq a (Array.getElem?_eq_some_iff.mp h5).1 h10]; exact h5, h6, h7, h8, h9, h10⟩
theorem vx_L.narrow {C n d : String} {A B : Nat → Prop} {U : State} {H : Heap} (h : vx_L C n d A U H) (hAB : ∀ q, B q → A q) : vx_L C n d B U H := by
  obtain ⟨c, k, i, f, a, cell, h1, h2, h3, h4, h5, h6, h7, h8, h9, h10⟩ := h
  exact ⟨c, k, i, f, a, cell, h1, h2, h3, h4, h5, h6, h7, h8, h9, fun z => h10 (hAB _ z)⟩
theorem vx_L.word {C n d : String} {A : Nat → Prop} {s : State} {args : Array Value} (h : vx_L C n d A s s.heap) : (Cond.laysStatic C n d).before args s = true := by
  obtain ⟨c, k, i, f, a, cell, h1, h2, h3, h4, h5, h6, h7, h8, h9, -⟩ := h
  show (Cond.laysStatic C n d).holds args s none s [] = true
  exact Cond.laysStatic_of h1 h2 h3 h4 h5 h6 h7 h8 h9
/-- .. and what it holds: null or some reference -/
def vx_Zq (C n d : String) (A : Nat → Prop) (U : State) (H : Heap) : Prop := va_Zq C n d A U H ∧ vx_L C n d A U H
theorem vx_Zq.moved {C n d : String} {A : Nat → Prop} {u U : State} {H : Heap} (hvm : u.vm.Alike U.vm) (h : vx_Zq C n d A u H) : vx_Zq C n d A U H := ⟨va_Zq.moved hvm h.1, vx_L.moved hvm h.2⟩
theorem vx_Zq.kept {C n d : String} {A : Nat → Prop} {U : State} {H H1 : Heap} (h : vx_Zq C n d A U H) (hq : ∀ a : Nat, a < H.size → ¬ A a → H1[a]? = H[a]?) : vx_Zq C n d A U H1 := ⟨va_Zq.kept h.1 hq, vx_L.kept h.2 hq⟩
theorem vx_Zq.narrow {C n d : String} {A B : Nat → Prop} {U : State} {H : Heap} (h : vx_Zq C n d A U H) (hAB : ∀ q, B q → A q) : vx_Zq C n d B U H := ⟨va_Zq.narrow h.1 hAB, vx_L.narrow h.2 hAB⟩
theorem vx_Zqof {args : Array Value} {s : State} {C n d : String} {A : Nat → Prop} (hl : (Cond.laysStatic C n d).before args s = true) (hini : (Cond.initialized C).before args s = true) (h : (Cond.isRef (.static C n d)).before args s = true) (hA : ∀ a : Nat, a < s.heap.size → ¬ A a) : vx_Zq C n d A s s.heap := by
  refine ⟨va_Zqof hl hini h hA, ?_⟩
  obtain ⟨c, k, i, f, a, cell, h1, h2, h3, h4, h5, h6, h7, h8, h9⟩ := Cond.laysStatic_spec hl
  exact ⟨c, k, i, f, a, cell, h1, h2, h3, h4, h5, h6, h7, h8, h9, hA a (Array.getElem?_eq_some_iff.mp h5).1⟩
theorem vx_isRef {C n d : String} {v : Value} {A : Nat → Prop} {s : State} {args : Array Value} (h : va_Z C n d v A s s.heap) (hv : v.isRef = true) : (Cond.isRef (.static C n d)).before args s = true := by
  obtain ⟨cf, kf, fi, f, a, cell, h1, h2, h3, h4, h5, h6, h7, -⟩ := h
  have he : (Term.static C n d).eval args s none [] s = some v := by
    simp [Term.eval, State.fieldNamed?, h1, h2, h4, h5, h6, h7]
  simp only [Cond.before, Cond.holds, Cond.value, he]
  cases v <;> simp_all [Value.isRef]
theorem vx_isRefq {C n d : String} {A : Nat → Prop} {s : State} {args : Array Value} (h : va_Zq C n d A s s.heap) : (Cond.isRef (.static C n d)).before args s = true := by
  rcases h with h | ⟨t, h⟩
  · exact vx_isRef h rfl
  · exact vx_isRef h rfl
/-- the same frame, seen from here: as if the method were called anew in this heap -/
theorem vx_rebase {T : State} (X : Stand p l e R s m args below meth c T locs cells slots) {R' : Room} (hf : R'.frames ≤ R.frames) (hl : R'.locals ≤ R.locals) (hc : cells + R'.cells ≤ R.cells) (hs : slots + R'.slots ≤ R.slots) :
    Stand p l e R' ((T.setVm s.vm).setFrames (.invoking m args :: below)) m args below meth c T [] 0 0 := by
  have htop : (T.setVm s.vm).topJava?.isSome := X.here.top
  have hF : ((T.setVm s.vm).setFrames (.invoking m args :: below)).frames = .invoking m args :: below := State.frames_setFrames _ (State.cur_lt_of_top htop)
  obtain ⟨g₀, hg0⟩ := Option.isSome_iff_exists.mp htop
  obtain ⟨r, hr⟩ := State.topJava?_eq_some.mp hg0
  have hl9 : e.platform.stackLimits (T.setVm s.vm).me = e.platform.stackLimits s.me := X.limits
  have hb9 : (T.setVm s.vm).me.stackBytes = s.me.stackBytes := X.bytes
  refine ⟨X.admits, X.cas, X.clock, hF, ?_, X.hears, X.method, X.code, X.here, X.tail, X.warmed, ?_, ?_, ?_⟩
  · have h := X.room
    have hU : ((T.setVm s.vm).setFrames (.invoking m args :: below)).localsInUse = s.localsInUse := by
      rw [State.localsInUse_invoking hF (meth := meth) (c := c) X.method X.code, State.localsInUse_invoking X.frames X.method X.code]
    simp only [State.hasRoom, Bool.and_eq_true, decide_eq_true_eq] at h ⊢
    obtain ⟨⟨⟨⟨h1, h2, h3, h4, h5, h6⟩, h7⟩, h8⟩, h9⟩ := h
    rw [X.frames, List.length_cons] at h2 h3
    have q1 := X.heapSize
    have q2 := X.used
    simp only [hF, hU, List.length_cons, State.stackLimits_setFrames, State.stackBytes_setFrames, hl9, hb9]
    refine ⟨⟨⟨⟨by omega, by omega, by omega, by omega, by omega, h6⟩, ?_⟩, ?_⟩, X.book⟩
    · show T.heap.size + R'.cells ≤ e.platform.maxCells
      omega
    · show T.slotsUsed + R'.slots ≤ e.platform.maxSlots
      omega
  · rw [State.stackLimits_setFrames]; rfl
  · rw [State.stackBytes_setFrames]; rfl
  · refine ⟨?_, Nat.le_refl _, Nat.le_refl _, ?_, ?_, fun a c9 h9 => ⟨c9, h9, rfl, rfl, fun _ _ => rfl⟩⟩
    · obtain ⟨t, ht, -⟩ := State.frames_cons hr
      show T.setVm s.vm = { ((T.setVm s.vm).setFrames (.invoking m args :: below)).setFrames (T.setVm s.vm).frames with heap := T.heap, slotsUsed := T.slotsUsed }
      rw [State.setFrames_setFrames, State.setFrames_self ht]
      rfl
    · show T.slotsUsed = T.slotsUsed + ((T.heap.toList.drop T.heap.size).map (·.slots.size)).sum
      rw [List.drop_eq_nil_of_le (Nat.le_of_eq Array.length_toList)]
      rfl
    · show ((T.heap.toList.drop T.heap.size).map (·.slots.size)).sum ≤ 0
      rw [List.drop_eq_nil_of_le (Nat.le_of_eq Array.length_toList)]
      exact Nat.le_refl _
/-- 'throw new E()': new; dup; invokespecial; athrow -/
theorem vx_throw0 {cc : ByteArray} {pc : Nat} (hexec : p.tables.exec = Jvm.exec) (hb : c.code = cc) (hl : l.stackTraces = false) {own cls : String} {names : List String} {ik ic mc ms : Nat} {A : Nat → Prop}
    (hown : s.vm.findClass own = some m.cls) (hcls : Bundle.fit cls = true) (hnames : ∀ n ∈ names, Bundle.fit n = true)
    (hk : (Cond.classLink own ik cls).before args s = true) (hini : (Cond.initialized cls).before args s = true) (hat : ∀ w ∈ vx_at0 own ic cls names, w.before args s = true)
    (hgood : ∀ w ∈ Cond.classLink own ik cls :: Cond.initialized cls :: vx_at0 own ic cls names, vx_ot w = true)
    (hU : vx_Zq Bundle.tN "UNASSIGNED_STACK" Bundle.steD A s s.heap) (hN : vx_Zq Bundle.tN "SUPPRESSED_SENTINEL" Bundle.listD A s s.heap) (hS : va_S A s.heap H locs) (hsize : ls.size = c.maxLocals)
    (d0 : decode cc pc = .ok (.new ik, 3)) (d3 : decode cc (pc + 3) = .ok (.dup, 1)) (d4 : decode cc (pc + 4) = .ok (.invokespecial ic, 3)) (d7 : decode cc (pc + 7) = .ok (.athrow, 1))
    (hout : ∀ x ∈ c.exceptionTable.toList, covers x (pc + 7) = false)
    (hRframes : names.length + 3 < R.frames) (hRlocals : (rest.map fun v => v.category).sum + (13 * (names.length + 1) + 42) ≤ R.locals) (hRcells : cells + 1 ≤ R.cells) (hRslots : slots + 6 ≤ R.slots) (hlocks : meth.locks = false)
    (hx : ∀ t : State, s.vm.Alike t.vm → H.size ≤ t.heap.size → (∀ q : Nat, q < H.size → t.heap[q]? = H[q]?) → XC cls s t)
    (hf : ∀ z ∈ locs, free z.base) (hc : cells + 1 ≤ mc) (hs : slots + 6 ≤ ms) :
    W p l e R s m args below meth c H locs cells slots (vx_MQ below Qc XC args s mc ms free) (F0 m pc ls rest) := by
  intro T hT X
  have htr : e.platform.stackTraces = false := (show e.platform.stackTraces = l.stackTraces by rw [X.admits.platform]).trans hl
  have Y := vx_rebase X (R' := { frames := R.frames, locals := R.locals, cells := 1, slots := 6 }) (Nat.le_refl _) (Nat.le_refl _) hRcells hRslots
  obtain ⟨s', hA⟩ : ∃ z, z = (T.setVm s.vm).setFrames (.invoking m args :: below) := ⟨_, rfl⟩
  rw [← hA] at Y
  have hvm : s'.vm = s.vm := by rw [hA]; rfl
  have hhp : s'.heap = H := by rw [hA]; exact hT
  have hW0 : s.WarmedH s'.vm := by rw [hvm]; exact State.WarmedH.refl s
  have hat' : ∀ w ∈ vx_at0 own ic cls names, w.before args s' = true := fun w hw => vx_ot_at hW0 hvm.symm (hgood w (List.mem_cons_of_mem _ (List.mem_cons_of_mem _ hw))) (hat w hw)
  have hk' : (Cond.classLink own ik cls).before args s' = true := vx_ot_at hW0 hvm.symm (hgood _ List.mem_cons_self) hk
  have hini' : (Cond.initialized cls).before args s' = true := vx_ot_at hW0 hvm.symm (hgood _ (List.mem_cons_of_mem _ List.mem_cons_self)) hini
  have hU' : vx_Zq Bundle.tN "UNASSIGNED_STACK" Bundle.steD A s' s'.heap := by rw [hhp]; exact vx_Zq.moved hW0.alike (hU.kept hS.2.1)
  have hN' : vx_Zq Bundle.tN "SUPPRESSED_SENTINEL" Bundle.listD A s' s'.heap := by rw [hhp]; exact vx_Zq.moved hW0.alike (hN.kept hS.2.1)
  have h : ∀ w ∈ Bundle.ownAtoms0 own ic cls names, w.before args s' = true := vx_own hat' (vx_isRefq hU'.1) (vx_isRefq hN'.1) hU'.2.word hN'.2.word
  have hown' : s'.vm.findClass own = some m.cls := by rw [hvm]; exact hown
  have hins : (Cond.instantiable cls 6).before args s' = true := h _ (by simp [Bundle.ownAtoms0])
  obtain ⟨vm₁, cX, kX, hfX, hkX, -, -, X₁, st1⟩ := Y.newCold hexec (own := own) (C := cls) (index := ik) (n := 6) hown' hk' hins hini'
    (g := F0 m pc ls rest) rfl (by rw [hb]; exact d0) (Nat.le_refl _) (Nat.le_refl _)
  generalize hT1 : (T.setVm vm₁).pushCell { cls := cX, slots := kX.instanceTypes.map defaultValue, vm := .none } = T1 at X₁ st1
  have hcat : (Value.ref T.heap.size).category = 1 := rfl
  have hcellA : T1.heap[T.heap.size]? = some (freshCell cX kX) := by rw [← hT1]; exact State.heap_pushCell_size _ _
  have d3' : decode c.code (pc + 3) = .ok (.dup, 1) := by rw [hb]; exact d3
  obtain ⟨U, hsteps, hrun, hend, hW, hsame, ce, hce, hO⟩ := X₁.ctorThrow0 hexec htr (own := own) (cls := cls) (names := names) (ic := ic) hown' hcls hnames h (fun x hx => nomatch hx) hfX hkX hcellA (by rw [hhp, hT]; exact Nat.le_refl _)
    (g := { method := m, pc := pc + 4, locals := ls, stack := .ref T.heap.size :: .ref T.heap.size :: rest, locked := none }) rfl hsize rfl rfl (rest := rest) rfl
    (by rw [hb]; exact d4) (by rw [hb]; exact d7) hout hRframes (by simp only [List.map_cons, List.sum_cons, hcat]; omega) hlocks
  obtain ⟨f1, f2⟩ := vx_frame hsame
  rw [hhp] at f1 f2
  have hWs : s.WarmedH U.vm := State.WarmedH.trans hW0 hW
  have hcl : s.vm.findClass cls = some ce.cls := by
    have h9 := hO.cls
    rw [hvm] at h9
    exact h9
  have hall : s.sameButNew ({ U with vm := s.vm } : State) locs mc ms := by
    subst hA
    obtain ⟨e1, e2⟩ := hsame
    rw [State.setFrames_setFrames] at e1
    have h2 : (T.setVm s.vm).sameButNew ({ U with vm := s.vm } : State) [] (0 + 1) (0 + 6) := ⟨e1, e2⟩
    have h3 := X.same.trans h2
    rw [List.append_nil] at h3
    exact h3.mono hc hs
  refine ⟨U, ?_, .threw T.heap.size, hrun, hend, Or.inr ⟨T.heap.size, rfl, cls, ce, locs, hx U hWs.alike f1 (fun q hq => f2 q hq (fun z hz => nomatch hz)), hce, hO.vm, hcl, hWs, hall, hf⟩⟩
  refine st1 _ ?_
  show Steps p.tables e below (T1.setTop { method := m, pc := pc + 3, locals := ls, stack := .ref T.heap.size :: rest, locked := none }) _
  jvm_step X₁.here [X₁.here.top, hexec, d3', Value.category]
  exact hsteps
/-- 'throw new E("text")': new; dup; ldc; invokespecial; athrow -/
theorem vx_throwS {cc : ByteArray} {pc : Nat} (hexec : p.tables.exec = Jvm.exec) (hb : c.code = cc) (hl : l.stackTraces = false) {own cls text : String} {names : List String} {ik is ic mc ms sa : Nat} {A : Nat → Prop}
    (hown : s.vm.findClass own = some m.cls) (hcls : Bundle.fit cls = true) (hnames : ∀ n ∈ names, Bundle.fit n = true)
    (hk : (Cond.classLink own ik cls).before args s = true) (hini : (Cond.initialized cls).before args s = true) (hstr : vk_R own is text sa s) (hat : ∀ w ∈ vx_atS own ic cls names, w.before args s = true)
    (hgood : ∀ w ∈ Cond.classLink own ik cls :: Cond.initialized cls :: vx_atS own ic cls names, vx_ot w = true)
    (hU : vx_Zq Bundle.tN "UNASSIGNED_STACK" Bundle.steD A s s.heap) (hN : vx_Zq Bundle.tN "SUPPRESSED_SENTINEL" Bundle.listD A s s.heap) (hS : va_S A s.heap H locs) (hsize : ls.size = c.maxLocals)
    (d0 : decode cc pc = .ok (.new ik, 3)) (d3 : decode cc (pc + 3) = .ok (.dup, 1)) (d4 : decode cc (pc + 4) = .ok (.ldc is, 2)) (d6 : decode cc (pc + 6) = .ok (.invokespecial ic, 3)) (d9 : decode cc (pc + 9) = .ok (.athrow, 1))
    (hout : ∀ x ∈ c.exceptionTable.toList, covers x (pc + 9) = false)
    (hRframes : names.length + 3 < R.frames) (hRlocals : (rest.map fun v => v.category).sum + (13 * (names.length + 1) + 43) ≤ R.locals) (hRcells : cells + 1 ≤ R.cells) (hRslots : slots + 6 ≤ R.slots) (hlocks : meth.locks = false)
    (hx : ∀ t : State, s.vm.Alike t.vm → H.size ≤ t.heap.size → (∀ q : Nat, q < H.size → t.heap[q]? = H[q]?) → XC cls s t)
    (hf : ∀ z ∈ locs, free z.base) (hc : cells + 1 ≤ mc) (hs : slots + 6 ≤ ms) :
    W p l e R s m args below meth c H locs cells slots (vx_MQ below Qc XC args s mc ms free) (F0 m pc ls rest) := by
  intro T hT X
  have htr : e.platform.stackTraces = false := (show e.platform.stackTraces = l.stackTraces by rw [X.admits.platform]).trans hl
  have Y := vx_rebase X (R' := { frames := R.frames, locals := R.locals, cells := 1, slots := 6 }) (Nat.le_refl _) (Nat.le_refl _) hRcells hRslots
  obtain ⟨s', hA⟩ : ∃ z, z = (T.setVm s.vm).setFrames (.invoking m args :: below) := ⟨_, rfl⟩
  rw [← hA] at Y
  have hvm : s'.vm = s.vm := by rw [hA]; rfl
  have hhp : s'.heap = H := by rw [hA]; exact hT
  have hW0 : s.WarmedH s'.vm := by rw [hvm]; exact State.WarmedH.refl s
  have hat' : ∀ w ∈ vx_atS own ic cls names, w.before args s' = true := fun w hw => vx_ot_at hW0 hvm.symm (hgood w (List.mem_cons_of_mem _ (List.mem_cons_of_mem _ hw))) (hat w hw)
  have hk' : (Cond.classLink own ik cls).before args s' = true := vx_ot_at hW0 hvm.symm (hgood _ List.mem_cons_self) hk
  have hini' : (Cond.initialized cls).before args s' = true := vx_ot_at hW0 hvm.symm (hgood _ (List.mem_cons_of_mem _ List.mem_cons_self)) hini
  have hU' : vx_Zq Bundle.tN "UNASSIGNED_STACK" Bundle.steD A s' s'.heap := by rw [hhp]; exact vx_Zq.moved hW0.alike (hU.kept hS.2.1)
  have hN' : vx_Zq Bundle.tN "SUPPRESSED_SENTINEL" Bundle.listD A s' s'.heap := by rw [hhp]; exact vx_Zq.moved hW0.alike (hN.kept hS.2.1)
  have h : ∀ w ∈ Bundle.ownAtoms own ic cls names, w.before args s' = true := vx_own hat' (vx_isRefq hU'.1) (vx_isRefq hN'.1) hU'.2.word hN'.2.word
  have hown' : s'.vm.findClass own = some m.cls := by rw [hvm]; exact hown
  have hins : (Cond.instantiable cls 6).before args s' = true := h _ (by simp [Bundle.ownAtoms])
  obtain ⟨vm₁, cX, kX, hfX, hkX, -, -, X₁, st1⟩ := Y.newCold hexec (own := own) (C := cls) (index := ik) (n := 6) hown' hk' hins hini'
    (g := F0 m pc ls rest) rfl (by rw [hb]; exact d0) (Nat.le_refl _) (Nat.le_refl _)
  generalize hT1 : (T.setVm vm₁).pushCell { cls := cX, slots := kX.instanceTypes.map defaultValue, vm := .none } = T1 at X₁ st1
  have hcat : (Value.ref T.heap.size).category = 1 := rfl
  have hcellA : T1.heap[T.heap.size]? = some (freshCell cX kX) := by rw [← hT1]; exact State.heap_pushCell_size _ _
  have d3' : decode c.code (pc + 3) = .ok (.dup, 1) := by rw [hb]; exact d3
  have d4' : decode c.code (pc + 4) = .ok (.ldc is, 2) := by rw [hb]; exact d4
  have hstr' : vk_R own is text sa s' := vk_R.warm hW0 hstr
  obtain ⟨U, hsteps, hrun, hend, hW, hsame, ce, hce, hO⟩ := X₁.ctorThrowS hexec htr (own := own) (cls := cls) (names := names) (ic := ic) hown' hcls hnames h (fun x hx => nomatch hx) hfX hkX hcellA (by rw [hhp, hT]; exact Nat.le_refl _) (msg := .ref sa) rfl
    (g := { method := m, pc := pc + 6, locals := ls, stack := .ref sa :: .ref T.heap.size :: .ref T.heap.size :: rest, locked := none }) rfl hsize rfl rfl (rest := rest) rfl
    (by rw [hb]; exact d6) (by rw [hb]; exact d9) hout hRframes (by simp only [List.map_cons, List.sum_cons, hcat]; omega) hlocks
  obtain ⟨f1, f2⟩ := vx_frame hsame
  rw [hhp] at f1 f2
  have hWs : s.WarmedH U.vm := State.WarmedH.trans hW0 hW
  have hcl : s.vm.findClass cls = some ce.cls := by
    have h9 := hO.cls
    rw [hvm] at h9
    exact h9
  have hall : s.sameButNew ({ U with vm := s.vm } : State) locs mc ms := by
    subst hA
    obtain ⟨e1, e2⟩ := hsame
    rw [State.setFrames_setFrames] at e1
    have h2 : (T.setVm s.vm).sameButNew ({ U with vm := s.vm } : State) [] (0 + 1) (0 + 6) := ⟨e1, e2⟩
    have h3 := X.same.trans h2
    rw [List.append_nil] at h3
    exact h3.mono hc hs
  refine ⟨U, ?_, .threw T.heap.size, hrun, hend, Or.inr ⟨T.heap.size, rfl, cls, ce, locs, hx U hWs.alike f1 (fun q hq => f2 q hq (fun z hz => nomatch hz)), hce, hO.vm, hcl, hWs, hall, hf⟩⟩
  refine st1 _ ?_
  show Steps p.tables e below (T1.setTop { method := m, pc := pc + 3, locals := ls, stack := .ref T.heap.size :: rest, locked := none }) _
  jvm_step X₁.here [X₁.here.top, hexec, d3', Value.category]
  exact X₁.ldcString hexec (own := own) (text := text) (index := is) (a := sa) hown' hstr'.1 hstr'.2
    (g := { method := m, pc := pc + 4, locals := ls, stack := .ref T.heap.size :: .ref T.heap.size :: rest, locked := none }) rfl d4' _ hsteps
/-- 'throw new E("text")', the text by a wide index -/
theorem vx_throwSW {cc : ByteArray} {pc : Nat} (hexec : p.tables.exec = Jvm.exec) (hb : c.code = cc) (hl : l.stackTraces = false) {own cls text : String} {names : List String} {ik is ic mc ms sa : Nat} {A : Nat → Prop}
    (hown : s.vm.findClass own = some m.cls) (hcls : Bundle.fit cls = true) (hnames : ∀ n ∈ names, Bundle.fit n = true)
    (hk : (Cond.classLink own ik cls).before args s = true) (hini : (Cond.initialized cls).before args s = true) (hstr : vk_R own is text sa s) (hat : ∀ w ∈ vx_atS own ic cls names, w.before args s = true)
    (hgood : ∀ w ∈ Cond.classLink own ik cls :: Cond.initialized cls :: vx_atS own ic cls names, vx_ot w = true)
    (hU : vx_Zq Bundle.tN "UNASSIGNED_STACK" Bundle.steD A s s.heap) (hN : vx_Zq Bundle.tN "SUPPRESSED_SENTINEL" Bundle.listD A s s.heap) (hS : va_S A s.heap H locs) (hsize : ls.size = c.maxLocals)
    (d0 : decode cc pc = .ok (.new ik, 3)) (d3 : decode cc (pc + 3) = .ok (.dup, 1)) (d4 : decode cc (pc + 4) = .ok (.ldc_w is, 3)) (d7 : decode cc (pc + 7) = .ok (.invokespecial ic, 3)) (d10 : decode cc (pc + 10) = .ok (.athrow, 1))
    (hout : ∀ x ∈ c.exceptionTable.toList, covers x (pc + 10) = false)
    (hRframes : names.length + 3 < R.frames) (hRlocals : (rest.map fun v => v.category).sum + (13 * (names.length + 1) + 43) ≤ R.locals) (hRcells : cells + 1 ≤ R.cells) (hRslots : slots + 6 ≤ R.slots) (hlocks : meth.locks = false)
    (hx : ∀ t : State, s.vm.Alike t.vm → H.size ≤ t.heap.size → (∀ q : Nat, q < H.size → t.heap[q]? = H[q]?) → XC cls s t)
    (hf : ∀ z ∈ locs, free z.base) (hc : cells + 1 ≤ mc) (hs : slots + 6 ≤ ms) :
    W p l e R s m args below meth c H locs cells slots (vx_MQ below Qc XC args s mc ms free) (F0 m pc ls rest) := by
  intro T hT X
  have htr : e.platform.stackTraces = false := (show e.platform.stackTraces = l.stackTraces by rw [X.admits.platform]).trans hl
  have Y := vx_rebase X (R' := { frames := R.frames, locals := R.locals, cells := 1, slots := 6 }) (Nat.le_refl _) (Nat.le_refl _) hRcells hRslots
  obtain ⟨s', hA⟩ : ∃ z, z = (T.setVm s.vm).setFrames (.invoking m args :: below) := ⟨_, rfl⟩
  rw [← hA] at Y
  have hvm : s'.vm = s.vm := by rw [hA]; rfl
  have hhp : s'.heap = H := by rw [hA]; exact hT
  have hW0 : s.WarmedH s'.vm := by rw [hvm]; exact State.WarmedH.refl s
  have hat' : ∀ w ∈ vx_atS own ic cls names, w.before args s' = true := fun w hw => vx_ot_at hW0 hvm.symm (hgood w (List.mem_cons_of_mem _ (List.mem_cons_of_mem _ hw))) (hat w hw)
  have hk' : (Cond.classLink own ik cls).before args s' = true := vx_ot_at hW0 hvm.symm (hgood _ List.mem_cons_self) hk
  have hini' : (Cond.initialized cls).before args s' = true := vx_ot_at hW0 hvm.symm (hgood _ (List.mem_cons_of_mem _ List.mem_cons_self)) hini
  have hU' : vx_Zq Bundle.tN "UNASSIGNED_STACK" Bundle.steD A s' s'.heap := by rw [hhp]; exact vx_Zq.moved hW0.alike (hU.kept hS.2.1)
  have hN' : vx_Zq Bundle.tN "SUPPRESSED_SENTINEL" Bundle.listD A s' s'.heap := by rw [hhp]; exact vx_Zq.moved hW0.alike (hN.kept hS.2.1)
  have h : ∀ w ∈ Bundle.ownAtoms own ic cls names, w.before args s' = true := vx_own hat' (vx_isRefq hU'.1) (vx_isRefq hN'.1) hU'.2.word hN'.2.word
  have hown' : s'.vm.findClass own = some m.cls := by rw [hvm]; exact hown
  have hins : (Cond.instantiable cls 6).before args s' = true := h _ (by simp [Bundle.ownAtoms])
  obtain ⟨vm₁, cX, kX, hfX, hkX, -, -, X₁, st1⟩ := Y.newCold hexec (own := own) (C := cls) (index := ik) (n := 6) hown' hk' hins hini'
    (g := F0 m pc ls rest) rfl (by rw [hb]; exact d0) (Nat.le_refl _) (Nat.le_refl _)
  generalize hT1 : (T.setVm vm₁).pushCell { cls := cX, slots := kX.instanceTypes.map defaultValue, vm := .none } = T1 at X₁ st1
  have hcat : (Value.ref T.heap.size).category = 1 := rfl
  have hcellA : T1.heap[T.heap.size]? = some (freshCell cX kX) := by rw [← hT1]; exact State.heap_pushCell_size _ _
  have d3' : decode c.code (pc + 3) = .ok (.dup, 1) := by rw [hb]; exact d3
  have d4' : decode c.code (pc + 4) = .ok (.ldc_w is, 3) := by rw [hb]; exact d4
  have hstr' : vk_R own is text sa s' := vk_R.warm hW0 hstr
  obtain ⟨U, hsteps, hrun, hend, hW, hsame, ce, hce, hO⟩ := X₁.ctorThrowS hexec htr (own := own) (cls := cls) (names := names) (ic := ic) hown' hcls hnames h (fun x hx => nomatch hx) hfX hkX hcellA (by rw [hhp, hT]; exact Nat.le_refl _) (msg := .ref sa) rfl
    (g := { method := m, pc := pc + 7, locals := ls, stack := .ref sa :: .ref T.heap.size :: .ref T.heap.size :: rest, locked := none }) rfl hsize rfl rfl (rest := rest) rfl
    (by rw [hb]; exact d7) (by rw [hb]; exact d10) hout hRframes (by simp only [List.map_cons, List.sum_cons, hcat]; omega) hlocks
  obtain ⟨f1, f2⟩ := vx_frame hsame
  rw [hhp] at f1 f2
  have hWs : s.WarmedH U.vm := State.WarmedH.trans hW0 hW
  have hcl : s.vm.findClass cls = some ce.cls := by
    have h9 := hO.cls
    rw [hvm] at h9
    exact h9
  have hall : s.sameButNew ({ U with vm := s.vm } : State) locs mc ms := by
    subst hA
    obtain ⟨e1, e2⟩ := hsame
    rw [State.setFrames_setFrames] at e1
    have h2 : (T.setVm s.vm).sameButNew ({ U with vm := s.vm } : State) [] (0 + 1) (0 + 6) := ⟨e1, e2⟩
    have h3 := X.same.trans h2
    rw [List.append_nil] at h3
    exact h3.mono hc hs
  refine ⟨U, ?_, .threw T.heap.size, hrun, hend, Or.inr ⟨T.heap.size, rfl, cls, ce, locs, hx U hWs.alike f1 (fun q hq => f2 q hq (fun z hz => nomatch hz)), hce, hO.vm, hcl, hWs, hall, hf⟩⟩
  refine st1 _ ?_
  show Steps p.tables e below (T1.setTop { method := m, pc := pc + 3, locals := ls, stack := .ref T.heap.size :: rest, locked := none }) _
  jvm_step X₁.here [X₁.here.top, hexec, d3', Value.category]
  exact X₁.ldcStringW hexec (own := own) (text := text) (index := is) (a := sa) hown' hstr'.1 hstr'.2
    (g := { method := m, pc := pc + 4, locals := ls, stack := .ref T.heap.size :: .ref T.heap.size :: rest, locked := none }) rfl d4' _ hsteps
end Ends
section Bodies
variable {l : Launch}
theorem vx_ofW {y : MethodName} {ws ws' : List Cond} {rm : Room} {Pc : Array Value → State → Prop} {Qc : Array Value → State → Outcome → State → Prop} {XC : String → State → State → Prop} {mc ms : Nat} {free : Addr → Prop} {cc : ByteArray} {maxL : Nat} {ret : Option FieldType}
    (hy : plainName y.cls = true) (hw : ws = Cond.code y cc maxL ret :: ws')
    (body : ∀ p e s m args below meth c s₁, BodyLoose p l y (headSpec ws rm) cc maxL ret e s m args below meth c s₁ → c.maxLocals = maxL → (∀ x ∈ c.exceptionTable.toList, False) → Pc args s →
      W p l e (headSpec ws rm).room s m args below meth c s.heap [] 0 0 (vx_MQ below Qc XC args s mc ms free) (entryFrame m args maxL)) : vx_Met l y ws rm Pc Qc XC mc ms free := by
  refine MetFree.of_bodyS (code := cc) (maxLocals := maxL) (ret := ret) hy ?_ ?_
  · intro args s m h hn
    obtain ⟨meth, c, h1, h2, h3, h4, h5, h6, -, -⟩ := Cond.code_spec hn (atoms_spec (ws := ws) h _ (by rw [hw]; exact List.mem_cons_self))
    exact ⟨meth, c, h1, h2, h3, h4, h5, h6⟩
  · intro p e s m args below meth c s₁ B hml hP _
    have hh0 : s₁.heap = s.heap := by rw [B.state]; rfl
    have ht : ∀ x ∈ c.exceptionTable.toList, False := by
      obtain ⟨meth9, c9, h1, h2, -, -, -, -, h7, -⟩ := Cond.code_spec B.named (atoms_spec (ws := ws) B.pre _ (by rw [hw]; exact List.mem_cons_self))
      cases Option.some.inj (h1.symm.trans B.method)
      cases Option.some.inj (h2.symm.trans (Stand.of_body B).code)
      intro x hx
      rw [Array.isEmpty_iff.mp h7] at hx
      cases hx
    obtain ⟨t, a1, o, b1, b2, b3⟩ := body p e s m args below meth c s₁ B hml ht hP s₁ hh0 (Stand.of_body B)
    exact ⟨t, o, a1, b1, b2, b3⟩
/-- the table of a body with handlers -/
theorem vx_table {p : Program} {x y : MethodName} {S : Spec} {cc bytes : ByteArray} {maxL maxL' : Nat} {ret ret' : Option FieldType} {e : Env} {s s₁ : State} {m : MethodId} {args : Array Value} {below : List Frame} {meth : Method} {c : Code} {hh : List (Nat × Nat × Nat × Nat)}
    (B : BodyLoose p l y S cc maxL ret e s m args below meth c s₁) (h : (Cond.codeWith y bytes maxL' ret' hh).before args s = true) : c.exceptionTable.toList = tableOf hh := by
  obtain ⟨m9, meth9, c9, hn9, h1, h2, -, -, h6, -⟩ := Cond.codeWith_spec h
  cases Option.some.inj (hn9.symm.trans B.named)
  cases Option.some.inj (h1.symm.trans B.method)
  cases Option.some.inj (h2.symm.trans (Stand.of_body B).code)
  rw [← h6, table_eq]
end Bodies
end VXA
/-! ===== END ===== -/
/-! ===== BEGIN a static call of a method with an exception table ===== -/
section VXS
variable {p : Program} {l : Launch} {e : Env} {R : Room} {s : State} {m : MethodId} {args : Array Value} {below : List Frame} {meth : Method} {c : Code} {T : State} {H : Heap} {locs : List Loc} {cells slots : Nat}
abbrev vx_CSW (R : Room) (s : State) (args : Array Value) (own : String) (index : Nat) (y : MethodName) (bytes : ByteArray) (maxL : Nat) (ret : Option FieldType) (hh : List (Nat × Nat × Nat × Nat)) (ws : List Cond) (rm : Room) (mc ms n : Nat) : Prop :=
  (rm.cells = mc ∧ rm.slots = ms ∧ rm.frames + 1 ≤ R.frames ∧ 8 + (maxL + 11) + rm.locals ≤ R.locals ∧ (∀ w ∈ ws, ∀ (a' : Array Value) (U : State), s.WarmedH U.vm → w.before a' U = true) ∧ Cond.codeWith y bytes maxL ret hh ∈ ws) ∧
  (Cond.codeWith y bytes maxL ret hh).before args s = true ∧ (Cond.initialized y.cls).before args s = true ∧ (y.cls ≠ "java/lang/invoke/MethodHandle" ∧ y.cls ≠ "java/lang/invoke/VarHandle") ∧
  (∀ sig, parseMethodDescriptor y.desc = some sig → n = sig.parameters.length) ∧ (Cond.methodLink own index y).before args s = true ∧ (Cond.static y).before args s = true
theorem vx_cwSW {own : String} {index maxL mc ms : Nat} {y : MethodName} {bytes : ByteArray} {ret : Option FieldType} {hh : List (Nat × Nat × Nat × Nat)} {Ts ws ws' : List Cond} {rm : Room} (n : Nat) (ht : ∀ w ∈ Ts, w.before args s = true) (hT : GoodIn Ts (va_wsS own index y ws)) (hw : ws = Cond.codeWith y bytes maxL ret hh :: ws') (hrc : rm.cells = mc) (hrs : rm.slots = ms)
    (hd : y.cls ≠ "java/lang/invoke/MethodHandle" ∧ y.cls ≠ "java/lang/invoke/VarHandle" ∧ (parseMethodDescriptor y.desc).map (fun d => d.parameters.length) = some n) (hR : rm.frames + 1 ≤ R.frames ∧ 8 + (maxL + 11) + rm.locals ≤ R.locals) :
    vx_CSW R s args own index y bytes maxL ret hh ws rm mc ms n := by
  have ok : ∀ w ∈ va_wsS own index y ws, w.before args s = true := fun w h => ht w (hT w h).1
  have hG : GoodIn Ts ws := fun w h => hT w (by unfold va_wsS; exact List.mem_append_right _ h)
  have hc : Cond.codeWith y bytes maxL ret hh ∈ ws := by rw [hw]; exact List.mem_cons_self
  refine ⟨⟨hrc, hrs, hR.1, hR.2, pay_in ht hG, hc⟩, ht _ (hG _ hc).1, ok _ (by simp [va_wsS]), ⟨hd.1, hd.2.1⟩, fun sig h => ?_, ok _ (by simp [va_wsS]), ok _ (by simp [va_wsS])⟩
  have h2 := hd.2.2
  rw [h] at h2
  exact (Option.some.inj h2).symm
theorem vx_callSW (X : Stand p l e R s m args below meth c T locs cells slots) (hexec : p.tables.exec = Jvm.exec) {own : String} {index : Nat} {y : MethodName} {bytes : ByteArray} {maxL : Nat} {ret : Option FieldType} {hh : List (Nat × Nat × Nat × Nat)}
    (hown : s.vm.findClass own = some m.cls) (hlink : (Cond.methodLink own index y).before args s = true) (hstat : (Cond.static y).before args s = true) (hinit : (Cond.initialized y.cls).before args s = true)
    (hcode : (Cond.codeWith y bytes maxL ret hh).before args s = true) (hy : y.cls ≠ "java/lang/invoke/MethodHandle" ∧ y.cls ≠ "java/lang/invoke/VarHandle")
    {W9 : Nat} {Pre : Pt → Array Value → Prop} {Post : Pt → Array Value → Option Value → Pt → Prop} (hK : Back l R p e below s args y 3 W9 Pre Post)
    {g : JFrame} (hg : g.method = m) (hsize : g.locals.size = c.maxLocals) {argsL rest : List Value} (hlen : ∀ sig, parseMethodDescriptor y.desc = some sig → argsL.length = sig.parameters.length)
    (hstack : g.stack = argsL.reverse ++ rest) (hW : 2 * g.monitorRoom + (rest.map fun v => v.category).sum ≤ W9) (hdg : decode c.code g.pc = .ok (.invokestatic index, 3))
    (hpre : ∀ vm₁, s.WarmedH vm₁ → Pre ⟨T.setVm vm₁, locs, cells, slots⟩ argsL.toArray) :
    ∃ (v : Option Value) (vm₁ : Vm) (B : Pt), s.WarmedH vm₁ ∧ Stand p l e R s m args below meth c B.U B.locs B.cells B.slots ∧ Post ⟨T.setVm vm₁, locs, cells, slots⟩ argsL.toArray v B ∧
      ∀ target, Steps p.tables e below (B.U.setTop { g with pc := g.pc + 3, stack := v.toList ++ rest }) target → Steps p.tables e below (T.setTop g) target := by
  obtain ⟨mk, methM, cM, hnamed, hmethM, -, -, -, -, -, -, hsigM⟩ := Cond.codeWith_spec hcode
  have hstatic : methM.isStatic = true := Cond.static_spec hnamed hmethM hstat
  obtain ⟨kP, hkP, -⟩ := className_of_methodNamed hnamed
  have hinitP : kP.init = .initialized := Cond.initialized_spec (findClass_of_methodNamed hnamed) hkP hinit
  obtain ⟨vm₁, X₁, hstep₁⟩ := X.invokestatic hexec hown hlink hnamed hmethM hstatic hkP hinitP hy (g := g) hg (argsL := argsL) (rest := rest) (hlen _ hsigM) hstack hdg
  obtain ⟨v, B, X', hpost, hsteps⟩ := hK m meth c ⟨T.setVm vm₁, locs, cells, slots⟩ { g with stack := rest } (.invokestatic index) mk argsL.toArray X₁ hg hsize hdg hW (X₁.named hnamed) (hpre vm₁ X₁.warmed)
  exact ⟨v, vm₁, B, X₁.warmed, X', hpost, fun target h => hstep₁ _ fun acts => by rw [doInvoke_state]; exact hsteps.trans h⟩
theorem vx_runSW {y : MethodName} {bytes cc : ByteArray} {maxL nL mc ms n index : Nat} {ret : Option FieldType} {hh : List (Nat × Nat × Nat × Nat)} {ws : List Cond} {rm : Room} {Pc : Array Value → State → Prop} {Qc : Array Value → State → Outcome → State → Prop} {free : Addr → Prop} {Ts : List Cond} {own : String} {As rest : List Value} {g : JFrame}
    (S : CallFix p m c cc nL s args Ts own) (hM : Met l y ws rm Pc Qc mc ms free) (cw : vx_CSW R s args own index y bytes maxL ret hh ws rm mc ms n) (hp : PreS s H Pc As)
    (hg : g.method = m) (hn : As.length = n) (hsize : g.locals.size = nL) (hstack : g.stack = As.reverse ++ rest) (hW : 2 * g.monitorRoom + (rest.map fun v => v.category).sum ≤ 8) (hdg : decode cc g.pc = .ok (.invokestatic index, 3)) (hf : cells + mc ≤ R.cells ∧ slots + ms ≤ R.slots) :
    va_Run p l e R s m args below meth c H locs cells slots mc ms g rest (Qc As.toArray) (free) := by
  obtain ⟨⟨hrc, hrs, hfr, hlo, hws, hcw⟩, hcode, hini, hy, hlen, hl, hstt⟩ := cw
  have hK : Back l R p e below s args y 3 8 (PreOf R mc ms Pc) (PostOf Qc mc ms free) := va_backW (hh := hh) (bytes := bytes) (maxL := maxL) (ret := ret) hM hp.1 hrc hrs hfr hlo hws hcw (fun a' U hW => word_at hW (Or.inl (by first | rfl | simp [Cond.onTables, Cond.keeps, Cond.steady])) hini)
  obtain ⟨hx, hb, hml, ho, -⟩ := S
  intro T hT X
  obtain ⟨v, vm₁, ⟨U', l2, c2, s2⟩, hW₁, X', ⟨g', mk, t, L, e1, e2, hq, h1, hL, h2, h3⟩, st⟩ := vx_callSW X hx (hh := hh) (bytes := bytes) (maxL := maxL) (ret := ret) ho hl hstt hini hcode hy hK hg (hsize.trans hml.symm) (argsL := As) (rest := rest) (fun sig h => hn.trans (hlen sig h)) hstack hW (by rw [hb]; exact hdg)
    (fun vm₁ hW₁ => ⟨hf.1, hf.2, hp.2 (T.setVm vm₁) hT hW₁⟩)
  dsimp only [Pt.U, Pt.locs, Pt.cells, Pt.slots] at X' e1 e2 h1 h2 h3 st
  subst h1; subst h2; subst h3
  exact ⟨v, (T.setVm vm₁).calling g' mk As.toArray, t, U', L, hT, X', hL, e1, e2, hq, st⟩
/-- a thing of a world lies in the heap -/
theorem vx_lt {D : va_G} {cl : List vw_C} {ws : va_W} {H1 : Heap} (h : va_P D cl ws H1) {k : Nat} {q : Nat × va_E} (hk : ws[k]? = some q) : q.1 < H1.size := (h k q hk).lt
end VXS
/-! ===== END ===== -/
/-! ===== BEGIN methods with a table of their own: called by a name, returning or throwing ===== -/
section VXH
/-! vx_backW, vx_callVX, vx_callSX, vx_callVW, vx_runVW, vx_runVX, vx_runSX, vx_ofWH follow the same proofs as their sisters above (Free/Laws.lean, Shelf42/LK1.lean); vx_outP calls Shelf42/NT130.lean (outThrough). -/
section
variable {l : Launch} {R : Room} {p : Program} {e : Env} {below : List Frame} {s : State} {sargs : Array Value} {y : MethodName} {len W9 : Nat}
theorem vx_backW {ws : List Cond} {rm : Room} {Pc : Array Value → State → Prop} {Qc : Array Value → State → Outcome → State → Prop} {XC : String → State → State → Prop} {mc ms : Nat} {free : Addr → Prop} {bytes : ByteArray} {maxL : Nat} {ret : Option FieldType} {hh : List (Nat × Nat × Nat × Nat)}
    (hM : vx_Met l y ws rm Pc Qc XC mc ms free) (hblind : FrameBlind Pc) (hrc : rm.cells = mc) (hrs : rm.slots = ms)
    (hframes : rm.frames + 1 ≤ R.frames) (hlocals : W9 + (maxL + 11) + rm.locals ≤ R.locals)
    (hws : ∀ w ∈ ws, ∀ a' U, s.WarmedH U.vm → w.before a' U = true) (hcode : Cond.codeWith y bytes maxL ret hh ∈ ws) (hinit : ∀ a' U, s.WarmedH U.vm → (Cond.initialized y.cls).before a' U = true) :
    vx_Back l R p e below s sargs y len W9 (PreOf R mc ms Pc) (PostOf Qc mc ms free) (vx_Post XC mc ms free) := by
  intro m meth c A g ig mk a X hg hsize hdg hW hn hp
  have h1 : (headSpec ws rm).pre.before a A.U = true := atoms_intro fun w hw => hws w hw _ _ X.warmed
  have h2 : (Cond.codeWith y bytes maxL ret hh).before a A.U = true := hws _ hcode _ _ X.warmed
  have h3 : (Cond.initialized y.cls).before a A.U = true := hinit _ _ X.warmed
  have h4 : A.cells + (headSpec ws rm).room.cells ≤ R.cells := by rw [show (headSpec ws rm).room.cells = mc from hrc]; exact hp.1
  have h5 : A.slots + (headSpec ws rm).room.slots ≤ R.slots := by rw [show (headSpec ws rm).room.slots = ms from hrs]; exact hp.2.1
  have hPc : Pc a (A.U.calling g mk a) := hblind _ _ _ _ hp.2.2
  obtain ⟨U, Ls, c0, s0⟩ := A
  dsimp only [Pt.U, Pt.locs, Pt.cells, Pt.slots] at h1 h2 h3 h4 h5 X hn hPc ⊢
  obtain ⟨m9, methY, cY, hn9, hmY, hcY, -, hlY, -⟩ := Cond.codeWith_spec h2
  cases Option.some.inj (hn9.symm.trans hn)
  obtain ⟨kY, hkY, -⟩ := className_of_methodNamed hn
  have hinitY : kY.init = .initialized := Cond.initialized_spec (findClass_of_methodNamed hn) hkY h3
  have h : At U g.method c below := by rw [hg]; exact X.here
  have hlocals9 : W9 + (maxL + 11) + (headSpec ws rm).room.locals ≤ R.locals := hlocals
  have happ : (headSpec ws rm).appliesLoose y e.platform (U.calling g mk a) = true :=
    Spec.appliesLoose_calling (g := g) h hdg hn hkY hinitY
      (X.room_calling (g := g) (R' := (headSpec ws rm).room) hsize hmY hcY hframes (by rw [hlY]; omega) h4 h5) h1
  obtain ⟨mid, hmid⟩ := h.above
  have hfr : (U.setTop g).frames = (.java g :: mid) ++ below := by rw [State.frames_setTop' g h.top, hmid]; rfl
  obtain ⟨o, s₂, hsteps, -, hend, hq⟩ := Steps.callFree hM p X.admits X.cas X.clock (acts := []) hfr happ hPc trivial
  have hq' : vx_Q Qc XC mc ms free a (U.calling g mk a) o s₂ := hq
  rw [State.frames_setTop' g h.top] at hend
  obtain ⟨g₀, hg0⟩ := Option.isSome_iff_exists.mp h.top
  obtain ⟨r, hr⟩ := State.topJava?_eq_some.mp hg0
  have hr' : (({ U with heap := s₂.heap, slotsUsed := s₂.slotsUsed } : State).setVm s₂.vm).frames = .java g₀ :: r := hr
  rcases hq' with ⟨hqc, L, hfe, hL⟩ | ⟨q, rfl, E, ce, L, hx, hce, hcv, hcl, hW₂, hsm, hL⟩
  · obtain ⟨⟨v, rfl⟩, hW₂, e2, q2, q3, q4, q5, q6⟩ := id hfe
    have e3 : s₂ = ({ (U.calling g mk a).setFrames s₂.frames with heap := s₂.heap, slotsUsed := s₂.slotsUsed } : State).setVm s₂.vm := by
      have : s₂ = ({ s₂ with vm := (U.calling g mk a).vm } : State).setVm s₂.vm := rfl
      rw [e2] at this
      exact this
    obtain ⟨c₂, i₂, len₂, hc₂, hd₂, hf₂⟩ := hend
    have hW' : U.WarmedH s₂.vm := hW₂
    have hcc : c₂ = c := by
      have h1 : s₂.code? g.method = U.code? g.method := by
        rw [State.code?_eq, State.code?_eq, hW'.alike.method?]
      exact Option.some.inj (hc₂.symm.trans (h1.trans h.code))
    subst hcc
    have hlen : len₂ = len := by rw [hdg] at hd₂; cases hd₂; rfl
    subst hlen
    have hs₂ : s₂ = (({ U with heap := s₂.heap, slotsUsed := s₂.slotsUsed } : State).setVm s₂.vm).setTop { g with pc := g.pc + len₂, stack := v.toList ++ g.stack } := by
      refine e3.trans ?_
      rw [hf₂, State.calling_eq h.top, State.setFrames_setFrames, State.setTop_of_frames _ hr', hr]
      rfl
    have hsame : U.sameButNew ({ U with heap := s₂.heap, slotsUsed := s₂.slotsUsed } : State) L mc ms := by
      refine ⟨?_, q2, q3, q4, q5, q6⟩
      obtain ⟨t, ht, -⟩ := State.frames_cons hr
      show ({ U with heap := s₂.heap, slotsUsed := s₂.slotsUsed } : State) = { U.setFrames U.frames with heap := s₂.heap, slotsUsed := s₂.slotsUsed }
      rw [State.setFrames_self ht]
    subst hg
    refine Or.inl ⟨v, ⟨(({ U with heap := s₂.heap, slotsUsed := s₂.slotsUsed } : State).setVm s₂.vm), Ls ++ L, c0 + mc, s0 + ms⟩,
      ⟨X.admits, X.cas, X.clock, X.frames, X.room, X.hears, X.method, X.code, (X.here.setHeapUsed s₂.heap s₂.slotsUsed).setVm hW'.alike, X.tail, State.WarmedH.trans X.warmed hW', X.limits, X.bytes, X.same.trans (hsame.setVm s.vm)⟩,
      ⟨g, mk, s₂, L, rfl, rfl, hqc, rfl, hL, rfl, rfl⟩, ?_⟩
    show Steps p.tables e below _ ((({ U with heap := s₂.heap, slotsUsed := s₂.slotsUsed } : State).setVm s₂.vm).setTop { g with pc := g.pc + len₂, stack := v.toList ++ g.stack })
    rw [← hs₂]
    exact hsteps
  · obtain ⟨e2, q2, q3, q4, q5, q6⟩ := id hsm
    have e3 : s₂ = ({ (U.calling g mk a).setFrames s₂.frames with heap := s₂.heap, slotsUsed := s₂.slotsUsed } : State).setVm s₂.vm := by
      have : s₂ = ({ s₂ with vm := (U.calling g mk a).vm } : State).setVm s₂.vm := rfl
      rw [e2] at this
      exact this
    have hf₂ : s₂.frames = .throwing q :: .java g :: U.frames.tail := hend
    have hW' : U.WarmedH s₂.vm := hW₂
    have hs₂ : s₂ = ((({ U with heap := s₂.heap, slotsUsed := s₂.slotsUsed } : State).setVm s₂.vm).setTop g).pushFrame (.throwing q) := by
      refine e3.trans ?_
      rw [hf₂, State.calling_eq h.top, State.setFrames_setFrames, State.pushFrame, State.frames_setTop _ hr', State.setTop_of_frames _ hr', State.setFrames_setFrames, hr]
      rfl
    have hsame : U.sameButNew ({ U with heap := s₂.heap, slotsUsed := s₂.slotsUsed } : State) L mc ms := by
      refine ⟨?_, q2, q3, q4, q5, q6⟩
      obtain ⟨t, ht, -⟩ := State.frames_cons hr
      show ({ U with heap := s₂.heap, slotsUsed := s₂.slotsUsed } : State) = { U.setFrames U.frames with heap := s₂.heap, slotsUsed := s₂.slotsUsed }
      rw [State.setFrames_self ht]
    subst hg
    refine Or.inr ⟨q, ⟨(({ U with heap := s₂.heap, slotsUsed := s₂.slotsUsed } : State).setVm s₂.vm), Ls ++ L, c0 + mc, s0 + ms⟩,
      ⟨X.admits, X.cas, X.clock, X.frames, X.room, X.hears, X.method, X.code, (X.here.setHeapUsed s₂.heap s₂.slotsUsed).setVm hW'.alike, X.tail, State.WarmedH.trans X.warmed hW', X.limits, X.bytes, X.same.trans (hsame.setVm s.vm)⟩,
      ⟨g, mk, s₂, L, E, ce, rfl, rfl, hx, hce, hcv, hcl, rfl, hL, rfl, rfl⟩, ?_⟩
    show Steps p.tables e below _ (((({ U with heap := s₂.heap, slotsUsed := s₂.slotsUsed } : State).setVm s₂.vm).setTop g).pushFrame (.throwing q))
    rw [← hs₂]
    exact hsteps
end
variable {p : Program} {l : Launch} {e : Env} {R : Room} {s : State} {m : MethodId} {args : Array Value} {below : List Frame} {meth : Method} {c : Code} {T : State} {H : Heap} {locs : List Loc} {cells slots : Nat}
theorem vx_callVX (X : Stand p l e R s m args below meth c T locs cells slots) (hexec : p.tables.exec = Jvm.exec) {own C : String} {index : Nat} {y : MethodName} {bytes : ByteArray} {maxL : Nat} {ret : Option FieldType} {hh : List (Nat × Nat × Nat × Nat)}
    (hown : s.vm.findClass own = some m.cls) (hlink : (Cond.methodLink own index y).before args s = true) (hinst : (Cond.instanceMethod y).before args s = true) (hsel : (Cond.selects C y y).before args s = true)
    (hcode : (Cond.codeWith y bytes maxL ret hh).before args s = true) (hy : y.cls ≠ "java/lang/invoke/MethodHandle" ∧ y.cls ≠ "java/lang/invoke/VarHandle")
    {W9 : Nat} {Pre : Pt → Array Value → Prop} {Post : Pt → Array Value → Option Value → Pt → Prop} {PostX : Pt → Array Value → Addr → Pt → Prop} (hK : vx_Back l R p e below s args y 3 W9 Pre Post PostX)
    {b : Addr} {cellB : Cell} (hcell : T.heap[b]? = some cellB) (hobj : cellB.vm.isStatics = false) (hcls : s.vm.findClass C = some cellB.cls)
    {g : JFrame} (hg : g.method = m) (hsize : g.locals.size = c.maxLocals) {argsL rest : List Value} (hlen : ∀ sig, parseMethodDescriptor y.desc = some sig → argsL.length = sig.parameters.length)
    (hstack : g.stack = argsL.reverse ++ .ref b :: rest) (hW : 2 * g.monitorRoom + (rest.map fun v => v.category).sum ≤ W9) (hdg : decode c.code g.pc = .ok (.invokevirtual index, 3))
    (hpre : ∀ vm₁, s.WarmedH vm₁ → Pre ⟨T.setVm vm₁, locs, cells, slots⟩ (Value.ref b :: argsL).toArray) :
    (∃ (v : Option Value) (vm₁ : Vm) (B : Pt), s.WarmedH vm₁ ∧ Stand p l e R s m args below meth c B.U B.locs B.cells B.slots ∧ Post ⟨T.setVm vm₁, locs, cells, slots⟩ (Value.ref b :: argsL).toArray v B ∧
      ∀ target, Steps p.tables e below (B.U.setTop { g with pc := g.pc + 3, stack := v.toList ++ rest }) target → Steps p.tables e below (T.setTop g) target) ∨
    (∃ (q : Addr) (vm₁ : Vm) (B : Pt), s.WarmedH vm₁ ∧ Stand p l e R s m args below meth c B.U B.locs B.cells B.slots ∧ PostX ⟨T.setVm vm₁, locs, cells, slots⟩ (Value.ref b :: argsL).toArray q B ∧
      Steps p.tables e below (T.setTop g) ((B.U.setTop { g with stack := rest }).pushFrame (.throwing q))) := by
  obtain ⟨mk, methM, hnamed, hmethM, hstM, habM⟩ := Cond.instanceMethod_spec hinst
  obtain ⟨m8, methM', cM, hn8, hmethM', -, -, -, -, -, -, hsigM⟩ := Cond.codeWith_spec hcode
  cases Option.some.inj (hn8.symm.trans hnamed)
  cases hmethM.symm.trans hmethM'
  obtain ⟨c2, r2, m2, q1, q2, q3, q4, kP, hkP, hkPi⟩ := Cond.selects_spec hsel
  cases hcls.symm.trans q1
  cases (State.methodFound?_of_named hnamed hy).symm.trans q2
  cases hnamed.symm.trans q3
  have hselP : selectMethod e.platform s.vm cellB.cls mk = .method mk := by rw [Launch.admits_selectMethod X.admits]; exact q4
  obtain ⟨vm₁, X₁, hstep₁⟩ := X.invokevirtual hexec hown hlink hnamed hmethM hstM hkP hkPi hy (a := b) (cell := cellB) hcell
    (fun z h => by rw [h] at hobj; cases hobj) hselP hmethM habM hkP hkPi (g := g) hg (argsL := argsL) (rest := rest) (hlen _ hsigM) hstack hdg
  rcases hK m meth c ⟨T.setVm vm₁, locs, cells, slots⟩ { g with stack := rest } (.invokevirtual index) mk (Value.ref b :: argsL).toArray X₁ hg hsize hdg hW (X₁.named hnamed) (hpre vm₁ X₁.warmed) with ⟨v, B, X', hpost, hsteps⟩ | ⟨q, B, X', hpost, hsteps⟩
  · exact Or.inl ⟨v, vm₁, B, X₁.warmed, X', hpost, fun target h => hstep₁ _ fun acts => by rw [doInvoke_state]; exact hsteps.trans h⟩
  · exact Or.inr ⟨q, vm₁, B, X₁.warmed, X', hpost, hstep₁ _ fun acts => by rw [doInvoke_state]; exact hsteps⟩
theorem vx_callSX (X : Stand p l e R s m args below meth c T locs cells slots) (hexec : p.tables.exec = Jvm.exec) {own : String} {index : Nat} {y : MethodName} {bytes : ByteArray} {maxL : Nat} {ret : Option FieldType} {hh : List (Nat × Nat × Nat × Nat)}
    (hown : s.vm.findClass own = some m.cls) (hlink : (Cond.methodLink own index y).before args s = true) (hstat : (Cond.static y).before args s = true) (hinit : (Cond.initialized y.cls).before args s = true)
    (hcode : (Cond.codeWith y bytes maxL ret hh).before args s = true) (hy : y.cls ≠ "java/lang/invoke/MethodHandle" ∧ y.cls ≠ "java/lang/invoke/VarHandle")
    {W9 : Nat} {Pre : Pt → Array Value → Prop} {Post : Pt → Array Value → Option Value → Pt → Prop} {PostX : Pt → Array Value → Addr → Pt → Prop} (hK : vx_Back l R p e below s args y 3 W9 Pre Post PostX)
    {g : JFrame} (hg : g.method = m) (hsize : g.locals.size = c.maxLocals) {argsL rest : List Value} (hlen : ∀ sig, parseMethodDescriptor y.desc = some sig → argsL.length = sig.parameters.length)
    (hstack : g.stack = argsL.reverse ++ rest) (hW : 2 * g.monitorRoom + (rest.map fun v => v.category).sum ≤ W9) (hdg : decode c.code g.pc = .ok (.invokestatic index, 3))
    (hpre : ∀ vm₁, s.WarmedH vm₁ → Pre ⟨T.setVm vm₁, locs, cells, slots⟩ argsL.toArray) :
    (∃ (v : Option Value) (vm₁ : Vm) (B : Pt), s.WarmedH vm₁ ∧ Stand p l e R s m args below meth c B.U B.locs B.cells B.slots ∧ Post ⟨T.setVm vm₁, locs, cells, slots⟩ argsL.toArray v B ∧
      ∀ target, Steps p.tables e below (B.U.setTop { g with pc := g.pc + 3, stack := v.toList ++ rest }) target → Steps p.tables e below (T.setTop g) target) ∨
    (∃ (q : Addr) (vm₁ : Vm) (B : Pt), s.WarmedH vm₁ ∧ Stand p l e R s m args below meth c B.U B.locs B.cells B.slots ∧ PostX ⟨T.setVm vm₁, locs, cells, slots⟩ argsL.toArray q B ∧
      Steps p.tables e below (T.setTop g) ((B.U.setTop { g with stack := rest }).pushFrame (.throwing q))) := by
  obtain ⟨mk, methM, cM, hnamed, hmethM, -, -, -, -, -, -, hsigM⟩ := Cond.codeWith_spec hcode
  have hstatic : methM.isStatic = true := Cond.static_spec hnamed hmethM hstat
  obtain ⟨kP, hkP, -⟩ := className_of_methodNamed hnamed
  have hinitP : kP.init = .initialized := Cond.initialized_spec (findClass_of_methodNamed hnamed) hkP hinit
  obtain ⟨vm₁, X₁, hstep₁⟩ := X.invokestatic hexec hown hlink hnamed hmethM hstatic hkP hinitP hy (g := g) hg (argsL := argsL) (rest := rest) (hlen _ hsigM) hstack hdg
  rcases hK m meth c ⟨T.setVm vm₁, locs, cells, slots⟩ { g with stack := rest } (.invokestatic index) mk argsL.toArray X₁ hg hsize hdg hW (X₁.named hnamed) (hpre vm₁ X₁.warmed) with ⟨v, B, X', hpost, hsteps⟩ | ⟨q, B, X', hpost, hsteps⟩
  · exact Or.inl ⟨v, vm₁, B, X₁.warmed, X', hpost, fun target h => hstep₁ _ fun acts => by rw [doInvoke_state]; exact hsteps.trans h⟩
  · exact Or.inr ⟨q, vm₁, B, X₁.warmed, X', hpost, hstep₁ _ fun acts => by rw [doInvoke_state]; exact hsteps⟩
theorem vx_callVW (X : Stand p l e R s m args below meth c T locs cells slots) (hexec : p.tables.exec = Jvm.exec) {own C : String} {index : Nat} {y : MethodName} {bytes : ByteArray} {maxL : Nat} {ret : Option FieldType} {hh : List (Nat × Nat × Nat × Nat)}
    (hown : s.vm.findClass own = some m.cls) (hlink : (Cond.methodLink own index y).before args s = true) (hinst : (Cond.instanceMethod y).before args s = true) (hsel : (Cond.selects C y y).before args s = true)
    (hcode : (Cond.codeWith y bytes maxL ret hh).before args s = true) (hy : y.cls ≠ "java/lang/invoke/MethodHandle" ∧ y.cls ≠ "java/lang/invoke/VarHandle")
    {W9 : Nat} {Pre : Pt → Array Value → Prop} {Post : Pt → Array Value → Option Value → Pt → Prop} (hK : Back l R p e below s args y 3 W9 Pre Post)
    {b : Addr} {cellB : Cell} (hcell : T.heap[b]? = some cellB) (hobj : cellB.vm.isStatics = false) (hcls : s.vm.findClass C = some cellB.cls)
    {g : JFrame} (hg : g.method = m) (hsize : g.locals.size = c.maxLocals) {argsL rest : List Value} (hlen : ∀ sig, parseMethodDescriptor y.desc = some sig → argsL.length = sig.parameters.length)
    (hstack : g.stack = argsL.reverse ++ .ref b :: rest) (hW : 2 * g.monitorRoom + (rest.map fun v => v.category).sum ≤ W9) (hdg : decode c.code g.pc = .ok (.invokevirtual index, 3))
    (hpre : ∀ vm₁, s.WarmedH vm₁ → Pre ⟨T.setVm vm₁, locs, cells, slots⟩ (Value.ref b :: argsL).toArray) :
    ∃ (v : Option Value) (vm₁ : Vm) (B : Pt), s.WarmedH vm₁ ∧ Stand p l e R s m args below meth c B.U B.locs B.cells B.slots ∧ Post ⟨T.setVm vm₁, locs, cells, slots⟩ (Value.ref b :: argsL).toArray v B ∧
      ∀ target, Steps p.tables e below (B.U.setTop { g with pc := g.pc + 3, stack := v.toList ++ rest }) target → Steps p.tables e below (T.setTop g) target := by
  obtain ⟨mk, methM, hnamed, hmethM, hstM, habM⟩ := Cond.instanceMethod_spec hinst
  obtain ⟨m8, methM', cM, hn8, hmethM', -, -, -, -, -, -, hsigM⟩ := Cond.codeWith_spec hcode
  cases Option.some.inj (hn8.symm.trans hnamed)
  cases hmethM.symm.trans hmethM'
  obtain ⟨c2, r2, m2, q1, q2, q3, q4, kP, hkP, hkPi⟩ := Cond.selects_spec hsel
  cases hcls.symm.trans q1
  cases (State.methodFound?_of_named hnamed hy).symm.trans q2
  cases hnamed.symm.trans q3
  have hselP : selectMethod e.platform s.vm cellB.cls mk = .method mk := by rw [Launch.admits_selectMethod X.admits]; exact q4
  obtain ⟨vm₁, X₁, hstep₁⟩ := X.invokevirtual hexec hown hlink hnamed hmethM hstM hkP hkPi hy (a := b) (cell := cellB) hcell
    (fun z h => by rw [h] at hobj; cases hobj) hselP hmethM habM hkP hkPi (g := g) hg (argsL := argsL) (rest := rest) (hlen _ hsigM) hstack hdg
  obtain ⟨v, B, X', hpost, hsteps⟩ := hK m meth c ⟨T.setVm vm₁, locs, cells, slots⟩ { g with stack := rest } (.invokevirtual index) mk (Value.ref b :: argsL).toArray X₁ hg hsize hdg hW (X₁.named hnamed) (hpre vm₁ X₁.warmed)
  exact ⟨v, vm₁, B, X₁.warmed, X', hpost, fun target h => hstep₁ _ fun acts => by rw [doInvoke_state]; exact hsteps.trans h⟩
abbrev vx_CVW (R : Room) (s : State) (args : Array Value) (own C : String) (index : Nat) (y : MethodName) (bytes : ByteArray) (maxL : Nat) (ret : Option FieldType) (hh : List (Nat × Nat × Nat × Nat)) (ws : List Cond) (rm : Room) (mc ms n : Nat) : Prop :=
  (rm.cells = mc ∧ rm.slots = ms ∧ rm.frames + 1 ≤ R.frames ∧ 8 + (maxL + 11) + rm.locals ≤ R.locals ∧ (∀ w ∈ ws, ∀ (a' : Array Value) (U : State), s.WarmedH U.vm → w.before a' U = true) ∧ Cond.codeWith y bytes maxL ret hh ∈ ws) ∧
  (Cond.codeWith y bytes maxL ret hh).before args s = true ∧ (Cond.initialized y.cls).before args s = true ∧ (y.cls ≠ "java/lang/invoke/MethodHandle" ∧ y.cls ≠ "java/lang/invoke/VarHandle") ∧
  (∀ sig, parseMethodDescriptor y.desc = some sig → n = sig.parameters.length) ∧ (Cond.methodLink own index y).before args s = true ∧ (Cond.instanceMethod y).before args s = true ∧ (Cond.selects C y y).before args s = true
theorem vx_cwVW {own C : String} {index maxL mc ms : Nat} {y : MethodName} {bytes : ByteArray} {ret : Option FieldType} {hh : List (Nat × Nat × Nat × Nat)} {Ts ws ws' : List Cond} {rm : Room} (n : Nat) (ht : ∀ w ∈ Ts, w.before args s = true) (hT : GoodIn Ts (wsV own index C y ws)) (hw : ws = Cond.codeWith y bytes maxL ret hh :: ws') (hrc : rm.cells = mc) (hrs : rm.slots = ms)
    (hd : y.cls = C ∧ y.cls ≠ "java/lang/invoke/MethodHandle" ∧ y.cls ≠ "java/lang/invoke/VarHandle" ∧ (parseMethodDescriptor y.desc).map (fun d => d.parameters.length) = some n) (hR : rm.frames + 1 ≤ R.frames ∧ 8 + (maxL + 11) + rm.locals ≤ R.locals) :
    vx_CVW R s args own C index y bytes maxL ret hh ws rm mc ms n := by
  obtain ⟨hC, hd⟩ := hd
  subst hC
  have ok : ∀ w ∈ wsV own index y.cls y ws, w.before args s = true := fun w h => ht w (hT w h).1
  have hG : GoodIn Ts ws := fun w h => hT w (by unfold wsV; exact List.mem_append_right _ h)
  have hc : Cond.codeWith y bytes maxL ret hh ∈ ws := by rw [hw]; exact List.mem_cons_self
  refine ⟨⟨hrc, hrs, hR.1, hR.2, pay_in ht hG, hc⟩, ht _ (hG _ hc).1, ok _ (by simp [wsV]), ⟨hd.1, hd.2.1⟩, fun sig h => ?_, ok _ (by simp [wsV]), ok _ (by simp [wsV]), ok _ (by simp [wsV])⟩
  have h2 := hd.2.2
  rw [h] at h2
  exact (Option.some.inj h2).symm
theorem vx_runVW {y : MethodName} {bytes cc : ByteArray} {maxL nL mc ms n index : Nat} {ret : Option FieldType} {hh : List (Nat × Nat × Nat × Nat)} {ws : List Cond} {rm : Room} {Pc : Array Value → State → Prop} {Qc : Array Value → State → Outcome → State → Prop} {free : Addr → Prop} {Ts : List Cond} {own C : String} {b : Addr} {As rest : List Value} {g : JFrame}
    (S : CallFix p m c cc nL s args Ts own) (hM : Met l y ws rm Pc Qc mc ms free) (cw : vx_CVW R s args own C index y bytes maxL ret hh ws rm mc ms n) (hp : PreV s H C b Pc As)
    (hg : g.method = m) (hn : As.length = n) (hsize : g.locals.size = nL) (hstack : g.stack = As.reverse ++ .ref b :: rest) (hW : 2 * g.monitorRoom + (rest.map fun v => v.category).sum ≤ 8) (hdg : decode cc g.pc = .ok (.invokevirtual index, 3)) (hf : cells + mc ≤ R.cells ∧ slots + ms ≤ R.slots) :
    va_Run p l e R s m args below meth c H locs cells slots mc ms g rest (Qc (Value.ref b :: As).toArray) free := by
  obtain ⟨⟨hrc, hrs, hfr, hlo, hws, hcw⟩, hcode, hini, hy, hlen, hl, hin, hse⟩ := cw
  have hK : Back l R p e below s args y 3 8 (PreOf R mc ms Pc) (PostOf Qc mc ms free) := va_backW (hh := hh) (bytes := bytes) (maxL := maxL) (ret := ret) hM hp.1 hrc hrs hfr hlo hws hcw (fun a' U hW => word_at hW (Or.inl (by first | rfl | simp [Cond.onTables, Cond.keeps, Cond.steady])) hini)
  obtain ⟨hx, hb, hml, ho, -⟩ := S
  obtain ⟨-, ⟨cellB, hcB, hoB, hclB⟩, hPc⟩ := hp
  intro T hT X
  obtain ⟨v, vm₁, ⟨U', l2, c2, s2⟩, hW₁, X', ⟨g', mk, t, L, e1, e2, hq, h1, hL, h2, h3⟩, st⟩ := vx_callVW X hx (C := C) (hh := hh) (bytes := bytes) (maxL := maxL) (ret := ret) ho hl hin hse hcode hy hK (by rw [hT]; exact hcB) hoB hclB hg (hsize.trans hml.symm) (argsL := As) (rest := rest) (fun sig h => hn.trans (hlen sig h)) hstack hW (by rw [hb]; exact hdg)
    (fun vm₁ hW₁ => ⟨hf.1, hf.2, hPc (T.setVm vm₁) hT hW₁⟩)
  dsimp only [Pt.U, Pt.locs, Pt.cells, Pt.slots] at X' e1 e2 h1 h2 h3 st
  subst h1; subst h2; subst h3
  exact ⟨v, (T.setVm vm₁).calling g' mk (Value.ref b :: As).toArray, t, U', L, hT, X', hL, e1, e2, hq, st⟩
section
variable {y : MethodName} {bytes cc : ByteArray} {maxL nL mc ms n index : Nat} {ret : Option FieldType} {ws : List Cond} {rm : Room} {Pc : Array Value → State → Prop} {Qc : Array Value → State → Outcome → State → Prop} {XC : String → State → State → Prop} {free : Addr → Prop} {Ts : List Cond} {own C : String} {b : Addr} {As rest : List Value} {g : JFrame}
theorem vx_runVX {hh : List (Nat × Nat × Nat × Nat)} (S : CallFix p m c cc nL s args Ts own) (hM : vx_Met l y ws rm Pc Qc XC mc ms free) (cw : vx_CVW R s args own C index y bytes maxL ret hh ws rm mc ms n) (hp : PreV s H C b Pc As)
    (hg : g.method = m) (hn : As.length = n) (hsize : g.locals.size = nL) (hstack : g.stack = As.reverse ++ .ref b :: rest) (hW : 2 * g.monitorRoom + (rest.map fun v => v.category).sum ≤ 8) (hdg : decode cc g.pc = .ok (.invokevirtual index, 3)) (hf : cells + mc ≤ R.cells ∧ slots + ms ≤ R.slots) :
    vx_Run p l e R s m args below meth c H locs cells slots mc ms g rest (Qc (Value.ref b :: As).toArray) XC free := by
  obtain ⟨⟨hrc, hrs, hfr, hlo, hws, hcw⟩, hcode, hini, hy, hlen, hl, hin, hse⟩ := cw
  have hK : vx_Back l R p e below s args y 3 8 (PreOf R mc ms Pc) (PostOf Qc mc ms free) (vx_Post XC mc ms free) := vx_backW (hh := hh) (bytes := bytes) (maxL := maxL) (ret := ret) hM hp.1 hrc hrs hfr hlo hws hcw (fun a' U hW => word_at hW (Or.inl (by first | rfl | simp [Cond.onTables, Cond.keeps, Cond.steady])) hini)
  obtain ⟨hx, hb, hml, ho, -⟩ := S
  obtain ⟨-, ⟨cellB, hcB, hoB, hclB⟩, hPc⟩ := hp
  intro T hT X
  rcases vx_callVX X hx (C := C) (hh := hh) (bytes := bytes) (maxL := maxL) (ret := ret) ho hl hin hse hcode hy hK (by rw [hT]; exact hcB) hoB hclB hg (hsize.trans hml.symm) (argsL := As) (rest := rest) (fun sig h => hn.trans (hlen sig h)) hstack hW (by rw [hb]; exact hdg)
    (fun vm₁ hW₁ => ⟨hf.1, hf.2, hPc (T.setVm vm₁) hT hW₁⟩) with ⟨v, vm₁, ⟨U', l2, c2, s2⟩, hW₁, X', ⟨g', mk, t, L, e1, e2, hq, h1, hL, h2, h3⟩, st⟩ | ⟨q, vm₁, ⟨U', l2, c2, s2⟩, hW₁, X', ⟨g', mk, t, L, E, ce, e1, e2, hq, hce, hcv, hcl, h1, hL, h2, h3⟩, st⟩
  · dsimp only [Pt.U, Pt.locs, Pt.cells, Pt.slots] at X' e1 e2 h1 h2 h3 st
    subst h1; subst h2; subst h3
    exact Or.inl ⟨v, (T.setVm vm₁).calling g' mk (Value.ref b :: As).toArray, t, U', L, hT, X', hL, e1, e2, hq, st⟩
  · dsimp only [Pt.U, Pt.locs, Pt.cells, Pt.slots] at X' e1 e2 h1 h2 h3 st hcl
    subst h1; subst h2; subst h3
    exact Or.inr ⟨q, (T.setVm vm₁).calling g' mk (Value.ref b :: As).toArray, t, U', L, E, ce, hT, X', hL, e1, e2, hq, hce, hcv, vx_cls hW₁ hcl, st⟩
theorem vx_runSX {hh : List (Nat × Nat × Nat × Nat)} (S : CallFix p m c cc nL s args Ts own) (hM : vx_Met l y ws rm Pc Qc XC mc ms free) (cw : vx_CSW R s args own index y bytes maxL ret hh ws rm mc ms n) (hp : PreS s H Pc As)
    (hg : g.method = m) (hn : As.length = n) (hsize : g.locals.size = nL) (hstack : g.stack = As.reverse ++ rest) (hW : 2 * g.monitorRoom + (rest.map fun v => v.category).sum ≤ 8) (hdg : decode cc g.pc = .ok (.invokestatic index, 3)) (hf : cells + mc ≤ R.cells ∧ slots + ms ≤ R.slots) :
    vx_Run p l e R s m args below meth c H locs cells slots mc ms g rest (Qc As.toArray) XC free := by
  obtain ⟨⟨hrc, hrs, hfr, hlo, hws, hcw⟩, hcode, hini, hy, hlen, hl, hstt⟩ := cw
  have hK : vx_Back l R p e below s args y 3 8 (PreOf R mc ms Pc) (PostOf Qc mc ms free) (vx_Post XC mc ms free) := vx_backW (hh := hh) (bytes := bytes) (maxL := maxL) (ret := ret) hM hp.1 hrc hrs hfr hlo hws hcw (fun a' U hW => word_at hW (Or.inl (by first | rfl | simp [Cond.onTables, Cond.keeps, Cond.steady])) hini)
  obtain ⟨hx, hb, hml, ho, -⟩ := S
  intro T hT X
  rcases vx_callSX X hx (hh := hh) (bytes := bytes) (maxL := maxL) (ret := ret) ho hl hstt hini hcode hy hK hg (hsize.trans hml.symm) (argsL := As) (rest := rest) (fun sig h => hn.trans (hlen sig h)) hstack hW (by rw [hb]; exact hdg)
    (fun vm₁ hW₁ => ⟨hf.1, hf.2, hp.2 (T.setVm vm₁) hT hW₁⟩) with ⟨v, vm₁, ⟨U', l2, c2, s2⟩, hW₁, X', ⟨g', mk, t, L, e1, e2, hq, h1, hL, h2, h3⟩, st⟩ | ⟨q, vm₁, ⟨U', l2, c2, s2⟩, hW₁, X', ⟨g', mk, t, L, E, ce, e1, e2, hq, hce, hcv, hcl, h1, hL, h2, h3⟩, st⟩
  · dsimp only [Pt.U, Pt.locs, Pt.cells, Pt.slots] at X' e1 e2 h1 h2 h3 st
    subst h1; subst h2; subst h3
    exact Or.inl ⟨v, (T.setVm vm₁).calling g' mk As.toArray, t, U', L, hT, X', hL, e1, e2, hq, st⟩
  · dsimp only [Pt.U, Pt.locs, Pt.cells, Pt.slots] at X' e1 e2 h1 h2 h3 st hcl
    subst h1; subst h2; subst h3
    exact Or.inr ⟨q, (T.setVm vm₁).calling g' mk As.toArray, t, U', L, E, ce, hT, X', hL, e1, e2, hq, hce, hcv, vx_cls hW₁ hcl, st⟩
end
end VXH
theorem vx_ofWH {l : Launch} {y : MethodName} {ws ws' : List Cond} {rm : Room} {Pc : Array Value → State → Prop} {Qc : Array Value → State → Outcome → State → Prop} {XC : String → State → State → Prop} {mc ms : Nat} {free : Addr → Prop} {cc : ByteArray} {maxL : Nat} {ret : Option FieldType} {hh : List (Nat × Nat × Nat × Nat)}
    (hy : plainName y.cls = true) (hw : ws = Cond.codeWith y cc maxL ret hh :: ws')
    (body : ∀ p e s m args below meth c s₁, BodyLoose p l y (headSpec ws rm) cc maxL ret e s m args below meth c s₁ → c.maxLocals = maxL → Pc args s →
      W p l e (headSpec ws rm).room s m args below meth c s.heap [] 0 0 (vx_MQ below Qc XC args s mc ms free) (entryFrame m args maxL)) : vx_Met l y ws rm Pc Qc XC mc ms free := by
  refine MetFree.of_bodyS (code := cc) (maxLocals := maxL) (ret := ret) hy ?_ ?_
  · intro args s m h hn
    obtain ⟨m9, meth, c, hn9, h1, h2, h3, h4, -, h5, h6, -⟩ := Cond.codeWith_spec (atoms_spec (ws := ws) h _ (by rw [hw]; exact List.mem_cons_self))
    cases hn.symm.trans hn9
    exact ⟨meth, c, h1, h2, h3, h4, h5, h6⟩
  · intro p e s m args below meth c s₁ B hml hP _
    have hh0 : s₁.heap = s.heap := by rw [B.state]; rfl
    obtain ⟨t, a1, o, b1, b2, b3⟩ := body p e s m args below meth c s₁ B hml hP s₁ hh0 (Stand.of_body B)
    exact ⟨t, o, a1, b1, b2, b3⟩
/-! ===== END ===== -/
end
section
/-! ===== BEGIN printed: names, fields, word lists, decode rows ===== -/
def RX0 : String := "BridgeCells$Section"
def TX0 : u_T := fun k => match k with
  | 0 => ("BridgeCells$Section", "columns", "I", true)
  | 1 => ("BridgeCells$Section", "rows", "I", true)
  | 2 => ("BridgeCells$Section", "stride", "I", true)
  | 3 => ("BridgeCells$Section", "conduct", "[I", true)
  | 4 => ("BridgeCells$Section", "warm", "[I", true)
  | 5 => ("BridgeCells$Section", "east", "[I", true)
  | 6 => ("BridgeCells$Section", "south", "[I", true)
  | 7 => ("BridgeCells$Section", "weight", "[I", true)
  | 8 => ("BridgeCells$Section", "surplus", "[I", true)
  | 9 => ("BridgeCells$Section", "sideWarmth", "[I", true)
  | 10 => ("BridgeCells$Section", "sideFilm", "[I", true)
  | 11 => ("BridgeCells$Section", "low", "I", false)
  | 12 => ("BridgeCells$Section", "high", "I", false)
  | _ => ("BridgeCells$Section", "settled", "Z", false)
def tyX0 : Nat → FieldType := fun k => match k with
  | 0 => .int
  | 1 => .int
  | 2 => .int
  | 3 => .array .int
  | 4 => .array .int
  | 5 => .array .int
  | 6 => .array .int
  | 7 => .array .int
  | 8 => .array .int
  | 9 => .array .int
  | 10 => .array .int
  | 11 => .int
  | 12 => .int
  | _ => .boolean
abbrev wsX00 : List Cond := u_ws RX0 TX0 14
theorem nmX0 : ∀ a, a < 14 → ∀ b, b < 14 → a ≠ b → (TX0 a).2.1 ≠ (TX0 b).2.1 := by decide +kernel
theorem tyX0_ok : ∀ k, k < 14 → parseFieldDescriptor (TX0 k).2.2.1 = some (tyX0 k) := by decide +kernel
abbrev cX0_init : ByteArray := prog_2_method_1_code
def yX0_init : MethodName := ⟨RX0, "<init>", "(II)V"⟩
abbrev cX0_holds : ByteArray := prog_2_method_2_code
def yX0_holds : MethodName := ⟨RX0, "holds", "(II)Z"⟩
abbrev cX0_leadsAt : ByteArray := prog_2_method_3_code
def yX0_leadsAt : MethodName := ⟨RX0, "leadsAt", "(II)I"⟩
abbrev cX0_warmthAt : ByteArray := prog_2_method_4_code
def yX0_warmthAt : MethodName := ⟨RX0, "warmthAt", "(II)I"⟩
abbrev cX0_fill : ByteArray := prog_2_method_5_code
def yX0_fill : MethodName := ⟨RX0, "fill", "(IIIII)V"⟩
abbrev cX0_changeSide : ByteArray := prog_2_method_6_code
def yX0_changeSide : MethodName := ⟨RX0, "changeSide", "(III)I"⟩
abbrev cX0_settle : ByteArray := prog_2_method_7_code
def yX0_settle : MethodName := ⟨RX0, "settle", "()V"⟩
abbrev cX0_countThere : ByteArray := prog_2_method_8_code
def yX0_countThere : MethodName := ⟨RX0, "countThere", "()I"⟩
abbrev cX0_countAlone : ByteArray := prog_2_method_9_code
def yX0_countAlone : MethodName := ⟨RX0, "countAlone", "()I"⟩
abbrev cX0_countColder : ByteArray := prog_2_method_10_code
def yX0_countColder : MethodName := ⟨RX0, "countColder", "(I)I"⟩
abbrev cX0_sumOfWarmths : ByteArray := prog_2_method_11_code
def yX0_sumOfWarmths : MethodName := ⟨RX0, "sumOfWarmths", "()J"⟩
abbrev cX0_rowsMirror : ByteArray := prog_2_method_12_code
def yX0_rowsMirror : MethodName := ⟨RX0, "rowsMirror", "()Z"⟩
abbrev cX0_columnsMirror : ByteArray := prog_2_method_13_code
def yX0_columnsMirror : MethodName := ⟨RX0, "columnsMirror", "()Z"⟩
abbrev cX0_flowOf : ByteArray := prog_2_method_14_code
def yX0_flowOf : MethodName := ⟨RX0, "flowOf", "(I)J"⟩
abbrev cX0_heat : ByteArray := prog_2_method_15_code
def yX0_heat : MethodName := ⟨RX0, "heat", "()J"⟩
abbrev cX0_rest : ByteArray := prog_2_method_16_code
def yX0_rest : MethodName := ⟨RX0, "rest", "()J"⟩
abbrev cX0_coldestAlong : ByteArray := prog_2_method_17_code
def yX0_coldestAlong : MethodName := ⟨RX0, "coldestAlong", "(I)I"⟩
abbrev cX0_warmthAlong : ByteArray := prog_2_method_18_code
def yX0_warmthAlong : MethodName := ⟨RX0, "warmthAlong", "(II)I"⟩
abbrev cX0_aboveLow : ByteArray := prog_2_method_19_code
def yX0_aboveLow : MethodName := ⟨RX0, "aboveLow", "(II)I"⟩
abbrev cX0_highAboveLow : ByteArray := prog_2_method_20_code
def yX0_highAboveLow : MethodName := ⟨RX0, "highAboveLow", "()I"⟩
abbrev cX0_place : ByteArray := prog_2_method_21_code
def yX0_place : MethodName := ⟨RX0, "place", "(II)I"⟩
abbrev cX0_countAlong : ByteArray := prog_2_method_22_code
def yX0_countAlong : MethodName := ⟨RX0, "countAlong", "(I)I"⟩
abbrev cX0_cellAlong : ByteArray := prog_2_method_23_code
def yX0_cellAlong : MethodName := ⟨RX0, "cellAlong", "(II)I"⟩
abbrev cX0_outward : ByteArray := prog_2_method_24_code
def yX0_outward : MethodName := ⟨RX0, "outward", "(I)I"⟩
abbrev cX0_findLowAndHigh : ByteArray := prog_2_method_25_code
def yX0_findLowAndHigh : MethodName := ⟨RX0, "findLowAndHigh", "()V"⟩
abbrev cX0_joinNeighbours : ByteArray := prog_2_method_26_code
def yX0_joinNeighbours : MethodName := ⟨RX0, "joinNeighbours", "()V"⟩
abbrev cX0_startAtLow : ByteArray := prog_2_method_27_code
def yX0_startAtLow : MethodName := ⟨RX0, "startAtLow", "()V"⟩
abbrev cX0_weigh : ByteArray := prog_2_method_28_code
def yX0_weigh : MethodName := ⟨RX0, "weigh", "(I)V"⟩
abbrev cX0_raiseAll : ByteArray := prog_2_method_29_code
def yX0_raiseAll : MethodName := ⟨RX0, "raiseAll", "()Z"⟩
abbrev cX0_raise : ByteArray := prog_2_method_30_code
def yX0_raise : MethodName := ⟨RX0, "raise", "(II)V"⟩
abbrev cX0_couple : ByteArray := prog_2_method_31_code
def yX0_couple : MethodName := ⟨RX0, "couple", "(II)I"⟩
def RX1 : String := "BridgeCells"
def TX1 : u_T := fun k => match k with
  | 0 => ("BridgeCells", "section", "LBridgeCells$Section;", true)
  | 1 => ("BridgeCells", "jointHeats", "[J", true)
  | 2 => ("BridgeCells", "jointLengths", "[I", true)
  | _ => ("BridgeCells", "joints", "I", false)
def tyX1 : Nat → FieldType := fun k => match k with
  | 0 => .object "BridgeCells$Section"
  | 1 => .array .long
  | 2 => .array .int
  | _ => .int
abbrev wsX10 : List Cond := u_ws RX1 TX1 4
theorem nmX1 : ∀ a, a < 4 → ∀ b, b < 4 → a ≠ b → (TX1 a).2.1 ≠ (TX1 b).2.1 := by decide +kernel
theorem tyX1_ok : ∀ k, k < 4 → parseFieldDescriptor (TX1 k).2.2.1 = some (tyX1 k) := by decide +kernel
abbrev cX1_init : ByteArray := prog_1_method_1_code
def yX1_init : MethodName := ⟨RX1, "<init>", "(II)V"⟩
abbrev cX1_box : ByteArray := prog_1_method_2_code
def yX1_box : MethodName := ⟨RX1, "box", "(IIIII)I"⟩
abbrev cX1_side : ByteArray := prog_1_method_3_code
def yX1_side : MethodName := ⟨RX1, "side", "(III)I"⟩
abbrev cX1_leads : ByteArray := prog_1_method_4_code
def yX1_leads : MethodName := ⟨RX1, "leads", "(II)I"⟩
abbrev cX1_warmth : ByteArray := prog_1_method_5_code
def yX1_warmth : MethodName := ⟨RX1, "warmth", "(II)I"⟩
abbrev cX1_flow : ByteArray := prog_1_method_6_code
def yX1_flow : MethodName := ⟨RX1, "flow", "(I)J"⟩
abbrev cX1_told : ByteArray := prog_1_method_7_code
def yX1_told : MethodName := ⟨RX1, "told", "(I)J"⟩
abbrev cX1_least : ByteArray := prog_1_method_8_code
def yX1_least : MethodName := ⟨RX1, "least", "(II)I"⟩
abbrev cX1_factor : ByteArray := prog_1_method_9_code
def yX1_factor : MethodName := ⟨RX1, "factor", "(II)I"⟩
abbrev cX1_colder : ByteArray := prog_1_method_10_code
def yX1_colder : MethodName := ⟨RX1, "colder", "(I)I"⟩
abbrev cX1_mirrored : ByteArray := prog_1_method_11_code
def yX1_mirrored : MethodName := ⟨RX1, "mirrored", "(I)Z"⟩
abbrev cX1_joint : ByteArray := prog_1_method_12_code
def yX1_joint : MethodName := ⟨RX1, "joint", "()I"⟩
abbrev cX1_length : ByteArray := prog_1_method_13_code
def yX1_length : MethodName := ⟨RX1, "length", "(II)I"⟩
abbrev cX1_differs : ByteArray := prog_1_method_14_code
def yX1_differs : MethodName := ⟨RX1, "differs", "(I)J"⟩
abbrev cX1_sum : ByteArray := prog_1_method_15_code
def yX1_sum : MethodName := ⟨RX1, "sum", "()J"⟩
abbrev cX1_isJoint : ByteArray := prog_1_method_16_code
def yX1_isJoint : MethodName := ⟨RX1, "isJoint", "(I)Z"⟩
abbrev cX1_isSide : ByteArray := prog_1_method_17_code
def yX1_isSide : MethodName := ⟨RX1, "isSide", "(I)Z"⟩
abbrev cX1_isWithin : ByteArray := prog_1_method_18_code
def yX1_isWithin : MethodName := ⟨RX1, "isWithin", "(III)Z"⟩
abbrev cX1_commonDivisor : ByteArray := prog_1_method_19_code
def yX1_commonDivisor : MethodName := ⟨RX1, "commonDivisor", "(II)I"⟩
def RX2 : String := "BridgeCellsModel"
def TX2 : u_T := fun k => match k with
  | 0 => ("BridgeCellsModel", "wide", "I", true)
  | 1 => ("BridgeCellsModel", "high", "I", true)
  | 2 => ("BridgeCellsModel", "fault", "I", false)
  | 3 => ("BridgeCellsModel", "leads", "[I", true)
  | 4 => ("BridgeCellsModel", "warm", "[I", true)
  | 5 => ("BridgeCellsModel", "sideWarm", "[I", true)
  | 6 => ("BridgeCellsModel", "film", "[I", true)
  | 7 => ("BridgeCellsModel", "isSettled", "Z", false)
  | 8 => ("BridgeCellsModel", "low", "I", false)
  | 9 => ("BridgeCellsModel", "top", "I", false)
  | 10 => ("BridgeCellsModel", "products", "J", false)
  | 11 => ("BridgeCellsModel", "weights", "J", false)
  | 12 => ("BridgeCellsModel", "joints", "I", false)
  | 13 => ("BridgeCellsModel", "heats", "[J", true)
  | _ => ("BridgeCellsModel", "lengths", "[I", true)
def tyX2 : Nat → FieldType := fun k => match k with
  | 0 => .int
  | 1 => .int
  | 2 => .int
  | 3 => .array .int
  | 4 => .array .int
  | 5 => .array .int
  | 6 => .array .int
  | 7 => .boolean
  | 8 => .int
  | 9 => .int
  | 10 => .long
  | 11 => .long
  | 12 => .int
  | 13 => .array .long
  | _ => .array .int
abbrev wsX20 : List Cond := u_ws RX2 TX2 15
theorem nmX2 : ∀ a, a < 15 → ∀ b, b < 15 → a ≠ b → (TX2 a).2.1 ≠ (TX2 b).2.1 := by decide +kernel
theorem tyX2_ok : ∀ k, k < 15 → parseFieldDescriptor (TX2 k).2.2.1 = some (tyX2 k) := by decide +kernel
abbrev cX2_init : ByteArray := prog_4_method_1_code
def yX2_init : MethodName := ⟨RX2, "<init>", "(II)V"⟩
abbrev cX2_thrown : ByteArray := prog_4_method_2_code
def yX2_thrown : MethodName := ⟨RX2, "thrown", "()I"⟩
abbrev cX2_in : ByteArray := prog_4_method_3_code
def yX2_in : MethodName := ⟨RX2, "in", "(III)Z"⟩
abbrev cX2_isCell : ByteArray := prog_4_method_4_code
def yX2_isCell : MethodName := ⟨RX2, "isCell", "(II)Z"⟩
abbrev cX2_may : ByteArray := prog_4_method_5_code
def yX2_may : MethodName := ⟨RX2, "may", "(Z)Z"⟩
abbrev cX2_box : ByteArray := prog_4_method_6_code
def yX2_box : MethodName := ⟨RX2, "box", "(IIIII)I"⟩
abbrev cX2_side : ByteArray := prog_4_method_7_code
def yX2_side : MethodName := ⟨RX2, "side", "(III)I"⟩
abbrev cX2_leads : ByteArray := prog_4_method_8_code
def yX2_leads : MethodName := ⟨RX2, "leads", "(II)I"⟩
abbrev cX2_together : ByteArray := prog_4_method_9_code
def yX2_together : MethodName := ⟨RX2, "together", "(II)I"⟩
abbrev cX2_addCell : ByteArray := prog_4_method_10_code
def yX2_addCell : MethodName := ⟨RX2, "addCell", "(III)V"⟩
abbrev cX2_isBeside : ByteArray := prog_4_method_11_code
def yX2_isBeside : MethodName := ⟨RX2, "isBeside", "(III)Z"⟩
abbrev cX2_made : ByteArray := prog_4_method_12_code
def yX2_made : MethodName := ⟨RX2, "made", "(II)I"⟩
abbrev cX2_warms : ByteArray := prog_4_method_13_code
def yX2_warms : MethodName := ⟨RX2, "warms", "(I)Z"⟩
abbrev cX2_settle : ByteArray := prog_4_method_14_code
def yX2_settle : MethodName := ⟨RX2, "settle", "()V"⟩
abbrev cX2_warmthOf : ByteArray := prog_4_method_15_code
def yX2_warmthOf : MethodName := ⟨RX2, "warmthOf", "(II)I"⟩
abbrev cX2_warmth : ByteArray := prog_4_method_16_code
def yX2_warmth : MethodName := ⟨RX2, "warmth", "(II)I"⟩
abbrev cX2_flowOf : ByteArray := prog_4_method_17_code
def yX2_flowOf : MethodName := ⟨RX2, "flowOf", "(I)J"⟩
abbrev cX2_flow : ByteArray := prog_4_method_18_code
def yX2_flow : MethodName := ⟨RX2, "flow", "(I)J"⟩
abbrev cX2_heat : ByteArray := prog_4_method_19_code
def yX2_heat : MethodName := ⟨RX2, "heat", "()J"⟩
abbrev cX2_told : ByteArray := prog_4_method_20_code
def yX2_told : MethodName := ⟨RX2, "told", "(I)J"⟩
abbrev cX2_coldest : ByteArray := prog_4_method_21_code
def yX2_coldest : MethodName := ⟨RX2, "coldest", "(I)I"⟩
abbrev cX2_faceOf : ByteArray := prog_4_method_22_code
def yX2_faceOf : MethodName := ⟨RX2, "faceOf", "(II)I"⟩
abbrev cX2_least : ByteArray := prog_4_method_23_code
def yX2_least : MethodName := ⟨RX2, "least", "(II)I"⟩
abbrev cX2_factor : ByteArray := prog_4_method_24_code
def yX2_factor : MethodName := ⟨RX2, "factor", "(II)I"⟩
abbrev cX2_colder : ByteArray := prog_4_method_25_code
def yX2_colder : MethodName := ⟨RX2, "colder", "(I)I"⟩
abbrev cX2_mirrored : ByteArray := prog_4_method_26_code
def yX2_mirrored : MethodName := ⟨RX2, "mirrored", "(I)Z"⟩
abbrev cX2_joint : ByteArray := prog_4_method_27_code
def yX2_joint : MethodName := ⟨RX2, "joint", "()I"⟩
abbrev cX2_length : ByteArray := prog_4_method_28_code
def yX2_length : MethodName := ⟨RX2, "length", "(II)I"⟩
abbrev cX2_differs : ByteArray := prog_4_method_29_code
def yX2_differs : MethodName := ⟨RX2, "differs", "(I)J"⟩
abbrev cX2_sum : ByteArray := prog_4_method_30_code
def yX2_sum : MethodName := ⟨RX2, "sum", "()J"⟩
def RJ9 : String := "java/lang/Math"
def TJ9 : u_T := fun k => match k with
  | _ => ("", "", "", false)
def tyJ9 : Nat → FieldType := fun k => match k with
  | _ => .int
abbrev wsJ90 : List Cond := u_ws RJ9 TJ9 0
theorem nmJ9 : ∀ a, a < 0 → ∀ b, b < 0 → a ≠ b → (TJ9 a).2.1 ≠ (TJ9 b).2.1 := by decide +kernel
theorem tyJ9_ok : ∀ k, k < 0 → parseFieldDescriptor (TJ9 k).2.2.1 = some (tyJ9 k) := by decide +kernel
abbrev cJ9_max_7cf53 : ByteArray := prog_8_method_65_code
def yJ9_max_7cf53 : MethodName := ⟨RJ9, "max", "(II)I"⟩
abbrev cJ9_max_f86c9 : ByteArray := prog_8_method_66_code
def yJ9_max_f86c9 : MethodName := ⟨RJ9, "max", "(JJ)J"⟩
abbrev cJ9_min_7cf53 : ByteArray := prog_8_method_69_code
def yJ9_min_7cf53 : MethodName := ⟨RJ9, "min", "(II)I"⟩
def RJ0 : String := "java/lang/String"
def TJ0 : u_T := fun k => match k with
  | _ => ("", "", "", false)
def tyJ0 : Nat → FieldType := fun k => match k with
  | _ => .int
abbrev wsJ00 : List Cond := u_ws RJ0 TJ0 0
theorem nmJ0 : ∀ a, a < 0 → ∀ b, b < 0 → a ≠ b → (TJ0 a).2.1 ≠ (TJ0 b).2.1 := by decide +kernel
theorem tyJ0_ok : ∀ k, k < 0 → parseFieldDescriptor (TJ0 k).2.2.1 = some (tyJ0 k) := by decide +kernel
def RL : String := "BridgeCellsLaw"
abbrev cL_cell : ByteArray := method_2_code
def yL_cell : MethodName := ⟨RL, "cell", "([II)I"⟩
abbrev cL_box : ByteArray := method_3_code
def yL_box : MethodName := ⟨RL, "box", "(LBridgeCells;IIIII[J)I"⟩
abbrev cL_side : ByteArray := method_4_code
def yL_side : MethodName := ⟨RL, "side", "(LBridgeCells;III[J)I"⟩
abbrev cL_leads : ByteArray := method_5_code
def yL_leads : MethodName := ⟨RL, "leads", "(LBridgeCells;II[J)I"⟩
abbrev cL_warmth : ByteArray := method_6_code
def yL_warmth : MethodName := ⟨RL, "warmth", "(LBridgeCells;II[J)I"⟩
abbrev cL_flow : ByteArray := method_7_code
def yL_flow : MethodName := ⟨RL, "flow", "(LBridgeCells;I[J)I"⟩
abbrev cL_told : ByteArray := method_8_code
def yL_told : MethodName := ⟨RL, "told", "(LBridgeCells;I[J)I"⟩
abbrev cL_least : ByteArray := method_9_code
def yL_least : MethodName := ⟨RL, "least", "(LBridgeCells;II[J)I"⟩
abbrev cL_factor : ByteArray := method_10_code
def yL_factor : MethodName := ⟨RL, "factor", "(LBridgeCells;II[J)I"⟩
abbrev cL_colder : ByteArray := method_11_code
def yL_colder : MethodName := ⟨RL, "colder", "(LBridgeCells;I[J)I"⟩
abbrev cL_mirrored : ByteArray := method_12_code
def yL_mirrored : MethodName := ⟨RL, "mirrored", "(LBridgeCells;I[J)I"⟩
abbrev cL_joint : ByteArray := method_13_code
def yL_joint : MethodName := ⟨RL, "joint", "(LBridgeCells;[J)I"⟩
abbrev cL_length : ByteArray := method_14_code
def yL_length : MethodName := ⟨RL, "length", "(LBridgeCells;II[J)I"⟩
abbrev cL_differs : ByteArray := method_15_code
def yL_differs : MethodName := ⟨RL, "differs", "(LBridgeCells;I[J)I"⟩
abbrev cL_law : ByteArray := code
def yL_law : MethodName := ⟨RL, "law", "([I)Z"⟩
def wsX0_init : List Cond := .code yX0_init cX0_init 4 none :: ([.methodLink RX0 3 objectInit, .instanceMethod objectInit, .code objectInit ⟨#[0xb1]⟩ 1 none, .arrayClass .int, .fieldLink RX0 9 "BridgeCells$Section" "sideWarmth" "[I", .fieldLink RX0 15 "BridgeCells$Section" "sideFilm" "[I", .fieldLink RX0 18 "BridgeCells$Section" "low" "I", .fieldLink RX0 22 "BridgeCells$Section" "high" "I", .fieldLink RX0 25 "BridgeCells$Section" "settled" "Z", .fieldLink RX0 29 "BridgeCells$Section" "columns" "I", .fieldLink RX0 32 "BridgeCells$Section" "rows" "I", .fieldLink RX0 35 "BridgeCells$Section" "stride" "I", .fieldLink RX0 38 "BridgeCells$Section" "conduct" "[I", .fieldLink RX0 41 "BridgeCells$Section" "warm" "[I", .fieldLink RX0 44 "BridgeCells$Section" "east" "[I", .fieldLink RX0 47 "BridgeCells$Section" "south" "[I", .fieldLink RX0 50 "BridgeCells$Section" "weight" "[I", .fieldLink RX0 53 "BridgeCells$Section" "surplus" "[I"] ++ wsX00)
def wsX0_holds : List Cond := .code yX0_holds cX0_holds 3 (some .boolean) :: ([.fieldLink RX0 29 "BridgeCells$Section" "columns" "I", .fieldLink RX0 32 "BridgeCells$Section" "rows" "I"] ++ wsX00)
def wsX0_place : List Cond := .code yX0_place cX0_place 3 (some .int) :: ([.fieldLink RX0 35 "BridgeCells$Section" "stride" "I"] ++ wsX00)
def wsX0_leadsAt : List Cond := .code yX0_leadsAt cX0_leadsAt 3 (some .int) :: ([.fieldLink RX0 38 "BridgeCells$Section" "conduct" "[I", .methodLink RX0 56 yX0_place, .instanceMethod yX0_place, .selects RX0 yX0_place yX0_place, .initialized RX0, .code yX0_place cX0_place 3 (some .int), .fieldLink RX0 35 "BridgeCells$Section" "stride" "I"] ++ wsX00)
def wsX0_warmthAt : List Cond := .code yX0_warmthAt cX0_warmthAt 4 (some .int) :: ([.fieldLink RX0 38 "BridgeCells$Section" "conduct" "[I", .fieldLink RX0 41 "BridgeCells$Section" "warm" "[I", .constant RX0 60 (-1000000), .methodLink RX0 56 yX0_place, .instanceMethod yX0_place, .selects RX0 yX0_place yX0_place, .initialized RX0, .code yX0_place cX0_place 3 (some .int), .fieldLink RX0 35 "BridgeCells$Section" "stride" "I"] ++ wsX00)
def wsX0_fill : List Cond := .code yX0_fill cX0_fill 8 none :: ([.fieldLink RX0 38 "BridgeCells$Section" "conduct" "[I", .fieldLink RX0 25 "BridgeCells$Section" "settled" "Z", .methodLink RX0 56 yX0_place, .instanceMethod yX0_place, .selects RX0 yX0_place yX0_place, .initialized RX0, .code yX0_place cX0_place 3 (some .int), .fieldLink RX0 35 "BridgeCells$Section" "stride" "I"] ++ wsX00)
def wsX0_countAlong : List Cond := .code yX0_countAlong cX0_countAlong 2 (some .int) :: ([.fieldLink RX0 29 "BridgeCells$Section" "columns" "I", .fieldLink RX0 32 "BridgeCells$Section" "rows" "I"] ++ wsX00)
def wsX0_cellAlong : List Cond := .code yX0_cellAlong cX0_cellAlong 3 (some .int) :: ([.fieldLink RX0 29 "BridgeCells$Section" "columns" "I", .fieldLink RX0 32 "BridgeCells$Section" "rows" "I", .methodLink RX0 56 yX0_place, .instanceMethod yX0_place, .selects RX0 yX0_place yX0_place, .initialized RX0, .code yX0_place cX0_place 3 (some .int), .fieldLink RX0 35 "BridgeCells$Section" "stride" "I"] ++ wsX00)
def wsX0_outward : List Cond := .code yX0_outward cX0_outward 2 (some .int) :: ([.fieldLink RX0 35 "BridgeCells$Section" "stride" "I"] ++ wsX00)
def wsX0_changeSide_r1 : List Cond := [Cond.fieldLink RX0 15 "BridgeCells$Section" "sideFilm" "[I", Cond.fieldLink RX0 9 "BridgeCells$Section" "sideWarmth" "[I", Cond.fieldLink RX0 38 "BridgeCells$Section" "conduct" "[I", Cond.fieldLink RX0 41 "BridgeCells$Section" "warm" "[I", Cond.fieldLink RX0 25 "BridgeCells$Section" "settled" "Z", Cond.methodLink RX0 61 yX0_countAlong, Cond.instanceMethod yX0_countAlong, Cond.selects RX0 yX0_countAlong yX0_countAlong, Cond.initialized RX0, Cond.code yX0_countAlong cX0_countAlong 2 (some .int), Cond.fieldLink RX0 29 "BridgeCells$Section" "columns" "I", Cond.fieldLink RX0 32 "BridgeCells$Section" "rows" "I", Cond.methodLink RX0 65 yX0_cellAlong, Cond.instanceMethod yX0_cellAlong, Cond.selects RX0 yX0_cellAlong yX0_cellAlong, Cond.code yX0_cellAlong cX0_cellAlong 3 (some .int), Cond.methodLink RX0 56 yX0_place, Cond.instanceMethod yX0_place, Cond.selects RX0 yX0_place yX0_place, Cond.code yX0_place cX0_place 3 (some .int), Cond.fieldLink RX0 35 "BridgeCells$Section" "stride" "I", Cond.methodLink RX0 68 yX0_outward, Cond.instanceMethod yX0_outward, Cond.selects RX0 yX0_outward yX0_outward]
def wsX0_changeSide_r2 : List Cond := [Cond.code yX0_outward cX0_outward 2 (some .int)]
def wsX0_changeSide : List Cond := .code yX0_changeSide cX0_changeSide 8 (some .int) :: ((wsX0_changeSide_r1 ++ wsX0_changeSide_r2) ++ wsX00)
def wsX0_findLowAndHigh : List Cond := .code yX0_findLowAndHigh cX0_findLowAndHigh 3 none :: ([.fieldLink RX0 18 "BridgeCells$Section" "low" "I", .fieldLink RX0 22 "BridgeCells$Section" "high" "I", .fieldLink RX0 15 "BridgeCells$Section" "sideFilm" "[I", .fieldLink RX0 9 "BridgeCells$Section" "sideWarmth" "[I", .methodLink RX0 106 Lib.Math.min.name, .static Lib.Math.min.name, .initialized "java/lang/Math", .code Lib.Math.min.name Lib.Math.min.code 2 (some .int), .methodLink RX0 109 Lib.Math.max.name, .static Lib.Math.max.name, .code Lib.Math.max.name Lib.Math.max.code 2 (some .int)] ++ wsX00)
def wsX0_couple : List Cond := .code yX0_couple cX0_couple 2 (some .int) :: ([])
def wsX0_joinNeighbours : List Cond := .code yX0_joinNeighbours cX0_joinNeighbours 4 none :: ([.fieldLink RX0 32 "BridgeCells$Section" "rows" "I", .fieldLink RX0 29 "BridgeCells$Section" "columns" "I", .fieldLink RX0 44 "BridgeCells$Section" "east" "[I", .fieldLink RX0 38 "BridgeCells$Section" "conduct" "[I", .fieldLink RX0 47 "BridgeCells$Section" "south" "[I", .fieldLink RX0 35 "BridgeCells$Section" "stride" "I", .methodLink RX0 56 yX0_place, .instanceMethod yX0_place, .selects RX0 yX0_place yX0_place, .initialized RX0, .code yX0_place cX0_place 3 (some .int), .methodLink RX0 90 yX0_couple, .static yX0_couple, .code yX0_couple cX0_couple 2 (some .int)] ++ wsX00)
def wsX0_weigh : List Cond := .code yX0_weigh cX0_weigh 6 none :: ([.fieldLink RX0 44 "BridgeCells$Section" "east" "[I", .fieldLink RX0 47 "BridgeCells$Section" "south" "[I", .fieldLink RX0 35 "BridgeCells$Section" "stride" "I", .fieldLink RX0 50 "BridgeCells$Section" "weight" "[I", .fieldLink RX0 53 "BridgeCells$Section" "surplus" "[I", .fieldLink RX0 41 "BridgeCells$Section" "warm" "[I", .fieldLink RX0 18 "BridgeCells$Section" "low" "I"] ++ wsX00)
def wsX0_startAtLow : List Cond := .code yX0_startAtLow cX0_startAtLow 3 none :: ([.fieldLink RX0 32 "BridgeCells$Section" "rows" "I", .fieldLink RX0 29 "BridgeCells$Section" "columns" "I", .fieldLink RX0 41 "BridgeCells$Section" "warm" "[I", .fieldLink RX0 18 "BridgeCells$Section" "low" "I", .methodLink RX0 56 yX0_place, .instanceMethod yX0_place, .selects RX0 yX0_place yX0_place, .initialized RX0, .code yX0_place cX0_place 3 (some .int), .fieldLink RX0 35 "BridgeCells$Section" "stride" "I", .methodLink RX0 111 yX0_weigh, .instanceMethod yX0_weigh, .selects RX0 yX0_weigh yX0_weigh, .code yX0_weigh cX0_weigh 6 none, .fieldLink RX0 44 "BridgeCells$Section" "east" "[I", .fieldLink RX0 47 "BridgeCells$Section" "south" "[I", .fieldLink RX0 50 "BridgeCells$Section" "weight" "[I", .fieldLink RX0 53 "BridgeCells$Section" "surplus" "[I"] ++ wsX00)
def wsX0_raise : List Cond := .code yX0_raise cX0_raise 3 none :: ([.fieldLink RX0 41 "BridgeCells$Section" "warm" "[I", .fieldLink RX0 53 "BridgeCells$Section" "surplus" "[I", .fieldLink RX0 50 "BridgeCells$Section" "weight" "[I", .fieldLink RX0 44 "BridgeCells$Section" "east" "[I", .fieldLink RX0 35 "BridgeCells$Section" "stride" "I", .fieldLink RX0 47 "BridgeCells$Section" "south" "[I"] ++ wsX00)
def wsX0_raiseAll : List Cond := .code yX0_raiseAll cX0_raiseAll 5 (some .boolean) :: ([.fieldLink RX0 32 "BridgeCells$Section" "rows" "I", .fieldLink RX0 29 "BridgeCells$Section" "columns" "I", .fieldLink RX0 50 "BridgeCells$Section" "weight" "[I", .fieldLink RX0 53 "BridgeCells$Section" "surplus" "[I", .methodLink RX0 56 yX0_place, .instanceMethod yX0_place, .selects RX0 yX0_place yX0_place, .initialized RX0, .code yX0_place cX0_place 3 (some .int), .fieldLink RX0 35 "BridgeCells$Section" "stride" "I", .methodLink RX0 115 yX0_raise, .instanceMethod yX0_raise, .selects RX0 yX0_raise yX0_raise, .code yX0_raise cX0_raise 3 none, .fieldLink RX0 41 "BridgeCells$Section" "warm" "[I", .fieldLink RX0 44 "BridgeCells$Section" "east" "[I", .fieldLink RX0 47 "BridgeCells$Section" "south" "[I"] ++ wsX00)
def wsX0_settle_r1 : List Cond := [Cond.fieldLink RX0 25 "BridgeCells$Section" "settled" "Z", Cond.fieldLink RX0 29 "BridgeCells$Section" "columns" "I", Cond.fieldLink RX0 32 "BridgeCells$Section" "rows" "I", Cond.fieldLink RX0 22 "BridgeCells$Section" "high" "I", Cond.fieldLink RX0 18 "BridgeCells$Section" "low" "I", Cond.methodLink RX0 71 yX0_findLowAndHigh, Cond.instanceMethod yX0_findLowAndHigh, Cond.selects RX0 yX0_findLowAndHigh yX0_findLowAndHigh, Cond.initialized RX0, Cond.code yX0_findLowAndHigh cX0_findLowAndHigh 3 none, Cond.fieldLink RX0 15 "BridgeCells$Section" "sideFilm" "[I", Cond.fieldLink RX0 9 "BridgeCells$Section" "sideWarmth" "[I", Cond.methodLink RX0 106 Lib.Math.min.name, Cond.static Lib.Math.min.name, Cond.initialized "java/lang/Math", Cond.code Lib.Math.min.name Lib.Math.min.code 2 (some .int), Cond.methodLink RX0 109 Lib.Math.max.name, Cond.static Lib.Math.max.name, Cond.code Lib.Math.max.name Lib.Math.max.code 2 (some .int), Cond.methodLink RX0 74 yX0_joinNeighbours, Cond.instanceMethod yX0_joinNeighbours, Cond.selects RX0 yX0_joinNeighbours yX0_joinNeighbours, Cond.code yX0_joinNeighbours cX0_joinNeighbours 4 none, Cond.fieldLink RX0 44 "BridgeCells$Section" "east" "[I"]
def wsX0_settle_r2 : List Cond := [Cond.fieldLink RX0 38 "BridgeCells$Section" "conduct" "[I", Cond.fieldLink RX0 47 "BridgeCells$Section" "south" "[I", Cond.fieldLink RX0 35 "BridgeCells$Section" "stride" "I", Cond.methodLink RX0 56 yX0_place, Cond.instanceMethod yX0_place, Cond.selects RX0 yX0_place yX0_place, Cond.code yX0_place cX0_place 3 (some .int), Cond.methodLink RX0 90 yX0_couple, Cond.static yX0_couple, Cond.code yX0_couple cX0_couple 2 (some .int), Cond.methodLink RX0 77 yX0_startAtLow, Cond.instanceMethod yX0_startAtLow, Cond.selects RX0 yX0_startAtLow yX0_startAtLow, Cond.code yX0_startAtLow cX0_startAtLow 3 none, Cond.fieldLink RX0 41 "BridgeCells$Section" "warm" "[I", Cond.methodLink RX0 111 yX0_weigh, Cond.instanceMethod yX0_weigh, Cond.selects RX0 yX0_weigh yX0_weigh, Cond.code yX0_weigh cX0_weigh 6 none, Cond.fieldLink RX0 50 "BridgeCells$Section" "weight" "[I", Cond.fieldLink RX0 53 "BridgeCells$Section" "surplus" "[I", Cond.methodLink RX0 80 yX0_raiseAll, Cond.instanceMethod yX0_raiseAll, Cond.selects RX0 yX0_raiseAll yX0_raiseAll]
def wsX0_settle_r3 : List Cond := [Cond.code yX0_raiseAll cX0_raiseAll 5 (some .boolean), Cond.methodLink RX0 115 yX0_raise, Cond.instanceMethod yX0_raise, Cond.selects RX0 yX0_raise yX0_raise, Cond.code yX0_raise cX0_raise 3 none]
def wsX0_settle : List Cond := .code yX0_settle cX0_settle 4 none :: ((wsX0_settle_r1 ++ (wsX0_settle_r2 ++ wsX0_settle_r3)) ++ wsX00)
def wsX0_countThere : List Cond := .code yX0_countThere cX0_countThere 4 (some .int) :: ([.fieldLink RX0 32 "BridgeCells$Section" "rows" "I", .fieldLink RX0 29 "BridgeCells$Section" "columns" "I", .methodLink RX0 84 yX0_leadsAt, .instanceMethod yX0_leadsAt, .selects RX0 yX0_leadsAt yX0_leadsAt, .initialized RX0, .code yX0_leadsAt cX0_leadsAt 3 (some .int), .fieldLink RX0 38 "BridgeCells$Section" "conduct" "[I", .methodLink RX0 56 yX0_place, .instanceMethod yX0_place, .selects RX0 yX0_place yX0_place, .code yX0_place cX0_place 3 (some .int), .fieldLink RX0 35 "BridgeCells$Section" "stride" "I"] ++ wsX00)
def wsX0_countAlone : List Cond := .code yX0_countAlone cX0_countAlone 4 (some .int) :: ([.fieldLink RX0 32 "BridgeCells$Section" "rows" "I", .fieldLink RX0 29 "BridgeCells$Section" "columns" "I", .fieldLink RX0 50 "BridgeCells$Section" "weight" "[I", .methodLink RX0 84 yX0_leadsAt, .instanceMethod yX0_leadsAt, .selects RX0 yX0_leadsAt yX0_leadsAt, .initialized RX0, .code yX0_leadsAt cX0_leadsAt 3 (some .int), .fieldLink RX0 38 "BridgeCells$Section" "conduct" "[I", .methodLink RX0 56 yX0_place, .instanceMethod yX0_place, .selects RX0 yX0_place yX0_place, .code yX0_place cX0_place 3 (some .int), .fieldLink RX0 35 "BridgeCells$Section" "stride" "I"] ++ wsX00)
def wsX0_countColder : List Cond := .code yX0_countColder cX0_countColder 5 (some .int) :: ([.fieldLink RX0 32 "BridgeCells$Section" "rows" "I", .fieldLink RX0 29 "BridgeCells$Section" "columns" "I", .methodLink RX0 84 yX0_leadsAt, .instanceMethod yX0_leadsAt, .selects RX0 yX0_leadsAt yX0_leadsAt, .initialized RX0, .code yX0_leadsAt cX0_leadsAt 3 (some .int), .fieldLink RX0 38 "BridgeCells$Section" "conduct" "[I", .methodLink RX0 56 yX0_place, .instanceMethod yX0_place, .selects RX0 yX0_place yX0_place, .code yX0_place cX0_place 3 (some .int), .fieldLink RX0 35 "BridgeCells$Section" "stride" "I", .methodLink RX0 87 yX0_warmthAt, .instanceMethod yX0_warmthAt, .selects RX0 yX0_warmthAt yX0_warmthAt, .code yX0_warmthAt cX0_warmthAt 4 (some .int), .fieldLink RX0 41 "BridgeCells$Section" "warm" "[I", .constant RX0 60 (-1000000)] ++ wsX00)
def wsX0_sumOfWarmths : List Cond := .code yX0_sumOfWarmths cX0_sumOfWarmths 5 (some .long) :: ([.fieldLink RX0 32 "BridgeCells$Section" "rows" "I", .fieldLink RX0 29 "BridgeCells$Section" "columns" "I", .methodLink RX0 84 yX0_leadsAt, .instanceMethod yX0_leadsAt, .selects RX0 yX0_leadsAt yX0_leadsAt, .initialized RX0, .code yX0_leadsAt cX0_leadsAt 3 (some .int), .fieldLink RX0 38 "BridgeCells$Section" "conduct" "[I", .methodLink RX0 56 yX0_place, .instanceMethod yX0_place, .selects RX0 yX0_place yX0_place, .code yX0_place cX0_place 3 (some .int), .fieldLink RX0 35 "BridgeCells$Section" "stride" "I", .methodLink RX0 87 yX0_warmthAt, .instanceMethod yX0_warmthAt, .selects RX0 yX0_warmthAt yX0_warmthAt, .code yX0_warmthAt cX0_warmthAt 4 (some .int), .fieldLink RX0 41 "BridgeCells$Section" "warm" "[I", .constant RX0 60 (-1000000)] ++ wsX00)
def wsX0_rowsMirror : List Cond := .code yX0_rowsMirror cX0_rowsMirror 3 (some .boolean) :: ([.fieldLink RX0 32 "BridgeCells$Section" "rows" "I", .fieldLink RX0 29 "BridgeCells$Section" "columns" "I", .methodLink RX0 87 yX0_warmthAt, .instanceMethod yX0_warmthAt, .selects RX0 yX0_warmthAt yX0_warmthAt, .initialized RX0, .code yX0_warmthAt cX0_warmthAt 4 (some .int), .fieldLink RX0 38 "BridgeCells$Section" "conduct" "[I", .fieldLink RX0 41 "BridgeCells$Section" "warm" "[I", .constant RX0 60 (-1000000), .methodLink RX0 56 yX0_place, .instanceMethod yX0_place, .selects RX0 yX0_place yX0_place, .code yX0_place cX0_place 3 (some .int), .fieldLink RX0 35 "BridgeCells$Section" "stride" "I"] ++ wsX00)
def wsX0_columnsMirror : List Cond := .code yX0_columnsMirror cX0_columnsMirror 3 (some .boolean) :: ([.fieldLink RX0 32 "BridgeCells$Section" "rows" "I", .fieldLink RX0 29 "BridgeCells$Section" "columns" "I", .methodLink RX0 87 yX0_warmthAt, .instanceMethod yX0_warmthAt, .selects RX0 yX0_warmthAt yX0_warmthAt, .initialized RX0, .code yX0_warmthAt cX0_warmthAt 4 (some .int), .fieldLink RX0 38 "BridgeCells$Section" "conduct" "[I", .fieldLink RX0 41 "BridgeCells$Section" "warm" "[I", .constant RX0 60 (-1000000), .methodLink RX0 56 yX0_place, .instanceMethod yX0_place, .selects RX0 yX0_place yX0_place, .code yX0_place cX0_place 3 (some .int), .fieldLink RX0 35 "BridgeCells$Section" "stride" "I"] ++ wsX00)
def wsX0_flowOf : List Cond := .code yX0_flowOf cX0_flowOf 7 (some .long) :: ([.fieldLink RX0 38 "BridgeCells$Section" "conduct" "[I", .fieldLink RX0 15 "BridgeCells$Section" "sideFilm" "[I", .fieldLink RX0 9 "BridgeCells$Section" "sideWarmth" "[I", .fieldLink RX0 41 "BridgeCells$Section" "warm" "[I", .methodLink RX0 61 yX0_countAlong, .instanceMethod yX0_countAlong, .selects RX0 yX0_countAlong yX0_countAlong, .initialized RX0, .code yX0_countAlong cX0_countAlong 2 (some .int), .fieldLink RX0 29 "BridgeCells$Section" "columns" "I", .fieldLink RX0 32 "BridgeCells$Section" "rows" "I", .methodLink RX0 65 yX0_cellAlong, .instanceMethod yX0_cellAlong, .selects RX0 yX0_cellAlong yX0_cellAlong, .code yX0_cellAlong cX0_cellAlong 3 (some .int), .methodLink RX0 56 yX0_place, .instanceMethod yX0_place, .selects RX0 yX0_place yX0_place, .code yX0_place cX0_place 3 (some .int), .fieldLink RX0 35 "BridgeCells$Section" "stride" "I", .methodLink RX0 90 yX0_couple, .static yX0_couple, .code yX0_couple cX0_couple 2 (some .int)] ++ wsX00)
def wsX0_heat_r1 : List Cond := [Cond.methodLink RX0 97 Lib.MathLoose.max_long.x, Cond.static Lib.MathLoose.max_long.x, Cond.initialized "java/lang/Math", Cond.code Lib.MathLoose.max_long.x Lib.MathLoose.max_long.code 4 (some .long), Cond.methodLink RX0 93 yX0_flowOf, Cond.instanceMethod yX0_flowOf, Cond.selects RX0 yX0_flowOf yX0_flowOf, Cond.initialized RX0, Cond.code yX0_flowOf cX0_flowOf 7 (some .long), Cond.fieldLink RX0 38 "BridgeCells$Section" "conduct" "[I", Cond.fieldLink RX0 15 "BridgeCells$Section" "sideFilm" "[I", Cond.fieldLink RX0 9 "BridgeCells$Section" "sideWarmth" "[I", Cond.fieldLink RX0 41 "BridgeCells$Section" "warm" "[I", Cond.methodLink RX0 61 yX0_countAlong, Cond.instanceMethod yX0_countAlong, Cond.selects RX0 yX0_countAlong yX0_countAlong, Cond.code yX0_countAlong cX0_countAlong 2 (some .int), Cond.fieldLink RX0 29 "BridgeCells$Section" "columns" "I", Cond.fieldLink RX0 32 "BridgeCells$Section" "rows" "I", Cond.methodLink RX0 65 yX0_cellAlong, Cond.instanceMethod yX0_cellAlong, Cond.selects RX0 yX0_cellAlong yX0_cellAlong, Cond.code yX0_cellAlong cX0_cellAlong 3 (some .int), Cond.methodLink RX0 56 yX0_place]
def wsX0_heat_r2 : List Cond := [Cond.instanceMethod yX0_place, Cond.selects RX0 yX0_place yX0_place, Cond.code yX0_place cX0_place 3 (some .int), Cond.fieldLink RX0 35 "BridgeCells$Section" "stride" "I", Cond.methodLink RX0 90 yX0_couple, Cond.static yX0_couple, Cond.code yX0_couple cX0_couple 2 (some .int)]
def wsX0_heat : List Cond := .code yX0_heat cX0_heat 4 (some .long) :: ((wsX0_heat_r1 ++ wsX0_heat_r2) ++ wsX00)
def wsX0_rest_r1 : List Cond := [Cond.methodLink RX0 93 yX0_flowOf, Cond.instanceMethod yX0_flowOf, Cond.selects RX0 yX0_flowOf yX0_flowOf, Cond.initialized RX0, Cond.code yX0_flowOf cX0_flowOf 7 (some .long), Cond.fieldLink RX0 38 "BridgeCells$Section" "conduct" "[I", Cond.fieldLink RX0 15 "BridgeCells$Section" "sideFilm" "[I", Cond.fieldLink RX0 9 "BridgeCells$Section" "sideWarmth" "[I", Cond.fieldLink RX0 41 "BridgeCells$Section" "warm" "[I", Cond.methodLink RX0 61 yX0_countAlong, Cond.instanceMethod yX0_countAlong, Cond.selects RX0 yX0_countAlong yX0_countAlong, Cond.code yX0_countAlong cX0_countAlong 2 (some .int), Cond.fieldLink RX0 29 "BridgeCells$Section" "columns" "I", Cond.fieldLink RX0 32 "BridgeCells$Section" "rows" "I", Cond.methodLink RX0 65 yX0_cellAlong, Cond.instanceMethod yX0_cellAlong, Cond.selects RX0 yX0_cellAlong yX0_cellAlong, Cond.code yX0_cellAlong cX0_cellAlong 3 (some .int), Cond.methodLink RX0 56 yX0_place, Cond.instanceMethod yX0_place, Cond.selects RX0 yX0_place yX0_place, Cond.code yX0_place cX0_place 3 (some .int), Cond.fieldLink RX0 35 "BridgeCells$Section" "stride" "I"]
def wsX0_rest_r2 : List Cond := [Cond.methodLink RX0 90 yX0_couple, Cond.static yX0_couple, Cond.code yX0_couple cX0_couple 2 (some .int)]
def wsX0_rest : List Cond := .code yX0_rest cX0_rest 4 (some .long) :: ((wsX0_rest_r1 ++ wsX0_rest_r2) ++ wsX00)
def wsX0_warmthAlong : List Cond := .code yX0_warmthAlong cX0_warmthAlong 3 (some .int) :: ([.fieldLink RX0 41 "BridgeCells$Section" "warm" "[I", .methodLink RX0 65 yX0_cellAlong, .instanceMethod yX0_cellAlong, .selects RX0 yX0_cellAlong yX0_cellAlong, .initialized RX0, .code yX0_cellAlong cX0_cellAlong 3 (some .int), .fieldLink RX0 29 "BridgeCells$Section" "columns" "I", .fieldLink RX0 32 "BridgeCells$Section" "rows" "I", .methodLink RX0 56 yX0_place, .instanceMethod yX0_place, .selects RX0 yX0_place yX0_place, .code yX0_place cX0_place 3 (some .int), .fieldLink RX0 35 "BridgeCells$Section" "stride" "I"] ++ wsX00)
def wsX0_coldestAlong : List Cond := .code yX0_coldestAlong cX0_coldestAlong 6 (some .int) :: ([.fieldLink RX0 38 "BridgeCells$Section" "conduct" "[I", .methodLink RX0 61 yX0_countAlong, .instanceMethod yX0_countAlong, .selects RX0 yX0_countAlong yX0_countAlong, .initialized RX0, .code yX0_countAlong cX0_countAlong 2 (some .int), .fieldLink RX0 29 "BridgeCells$Section" "columns" "I", .fieldLink RX0 32 "BridgeCells$Section" "rows" "I", .methodLink RX0 65 yX0_cellAlong, .instanceMethod yX0_cellAlong, .selects RX0 yX0_cellAlong yX0_cellAlong, .code yX0_cellAlong cX0_cellAlong 3 (some .int), .methodLink RX0 56 yX0_place, .instanceMethod yX0_place, .selects RX0 yX0_place yX0_place, .code yX0_place cX0_place 3 (some .int), .fieldLink RX0 35 "BridgeCells$Section" "stride" "I", .methodLink RX0 103 yX0_warmthAlong, .instanceMethod yX0_warmthAlong, .selects RX0 yX0_warmthAlong yX0_warmthAlong, .code yX0_warmthAlong cX0_warmthAlong 3 (some .int), .fieldLink RX0 41 "BridgeCells$Section" "warm" "[I"] ++ wsX00)
def wsX0_aboveLow : List Cond := .code yX0_aboveLow cX0_aboveLow 3 (some .int) :: ([.fieldLink RX0 18 "BridgeCells$Section" "low" "I", .methodLink RX0 103 yX0_warmthAlong, .instanceMethod yX0_warmthAlong, .selects RX0 yX0_warmthAlong yX0_warmthAlong, .initialized RX0, .code yX0_warmthAlong cX0_warmthAlong 3 (some .int), .fieldLink RX0 41 "BridgeCells$Section" "warm" "[I", .methodLink RX0 65 yX0_cellAlong, .instanceMethod yX0_cellAlong, .selects RX0 yX0_cellAlong yX0_cellAlong, .code yX0_cellAlong cX0_cellAlong 3 (some .int), .fieldLink RX0 29 "BridgeCells$Section" "columns" "I", .fieldLink RX0 32 "BridgeCells$Section" "rows" "I", .methodLink RX0 56 yX0_place, .instanceMethod yX0_place, .selects RX0 yX0_place yX0_place, .code yX0_place cX0_place 3 (some .int), .fieldLink RX0 35 "BridgeCells$Section" "stride" "I"] ++ wsX00)
def wsX0_highAboveLow : List Cond := .code yX0_highAboveLow cX0_highAboveLow 1 (some .int) :: ([.fieldLink RX0 22 "BridgeCells$Section" "high" "I", .fieldLink RX0 18 "BridgeCells$Section" "low" "I"] ++ wsX00)
def wsX1_init_r1 : List Cond := [Cond.methodLink RX1 1 objectInit, Cond.instanceMethod objectInit, Cond.code objectInit ⟨#[0xb1]⟩ 1 none, Cond.arrayClass .long, Cond.fieldLink RX1 9 "BridgeCells" "jointHeats" "[J", Cond.arrayClass .int, Cond.fieldLink RX1 13 "BridgeCells" "jointLengths" "[I", Cond.fieldLink RX1 17 "BridgeCells" "joints" "I", Cond.classLink RX1 21 RX0, Cond.instantiable RX0 14, Cond.initialized RX0, Cond.methodLink RX1 23 Lib.Math.min.name, Cond.static Lib.Math.min.name, Cond.initialized "java/lang/Math", Cond.code Lib.Math.min.name Lib.Math.min.code 2 (some .int), Cond.methodLink RX1 29 Lib.Math.max.name, Cond.static Lib.Math.max.name, Cond.code Lib.Math.max.name Lib.Math.max.code 2 (some .int), Cond.fieldLink RX1 35 "BridgeCells" "section" "LBridgeCells$Section;", Cond.methodLink RX1 32 yX0_init, Cond.instanceMethod yX0_init, Cond.code yX0_init cX0_init 4 none, Cond.methodLink RX0 3 objectInit, Cond.fieldLink RX0 9 "BridgeCells$Section" "sideWarmth" "[I"]
def wsX1_init_r2 : List Cond := [Cond.fieldLink RX0 15 "BridgeCells$Section" "sideFilm" "[I", Cond.fieldLink RX0 18 "BridgeCells$Section" "low" "I", Cond.fieldLink RX0 22 "BridgeCells$Section" "high" "I", Cond.fieldLink RX0 25 "BridgeCells$Section" "settled" "Z", Cond.fieldLink RX0 29 "BridgeCells$Section" "columns" "I", Cond.fieldLink RX0 32 "BridgeCells$Section" "rows" "I", Cond.fieldLink RX0 35 "BridgeCells$Section" "stride" "I", Cond.fieldLink RX0 38 "BridgeCells$Section" "conduct" "[I", Cond.fieldLink RX0 41 "BridgeCells$Section" "warm" "[I", Cond.fieldLink RX0 44 "BridgeCells$Section" "east" "[I", Cond.fieldLink RX0 47 "BridgeCells$Section" "south" "[I", Cond.fieldLink RX0 50 "BridgeCells$Section" "weight" "[I", Cond.fieldLink RX0 53 "BridgeCells$Section" "surplus" "[I"]
def wsX1_init : List Cond := .code yX1_init cX1_init 3 none :: ((wsX1_init_r1 ++ wsX1_init_r2) ++ wsX10 ++ wsX00)
def wsX1_isWithin : List Cond := .code yX1_isWithin cX1_isWithin 3 (some .boolean) :: ([])
def wsX1_box_r1 : List Cond := [Cond.classLink RX1 43 "java/lang/IllegalArgumentException", Cond.initialized "java/lang/IllegalArgumentException", Cond.fieldLink RX1 35 "BridgeCells" "section" "LBridgeCells$Section;", Cond.methodLink RX1 39 yX0_holds, Cond.instanceMethod yX0_holds, Cond.selects RX0 yX0_holds yX0_holds, Cond.initialized RX0, Cond.code yX0_holds cX0_holds 3 (some .boolean), Cond.fieldLink RX0 29 "BridgeCells$Section" "columns" "I", Cond.fieldLink RX0 32 "BridgeCells$Section" "rows" "I", Cond.methodLink RX1 52 yX1_isWithin, Cond.static yX1_isWithin, Cond.initialized RX1, Cond.code yX1_isWithin cX1_isWithin 3 (some .boolean), Cond.methodLink RX1 58 yX0_fill, Cond.instanceMethod yX0_fill, Cond.selects RX0 yX0_fill yX0_fill, Cond.code yX0_fill cX0_fill 8 none, Cond.fieldLink RX0 38 "BridgeCells$Section" "conduct" "[I", Cond.fieldLink RX0 25 "BridgeCells$Section" "settled" "Z", Cond.methodLink RX0 56 yX0_place, Cond.instanceMethod yX0_place, Cond.selects RX0 yX0_place yX0_place, Cond.code yX0_place cX0_place 3 (some .int)]
def wsX1_box_r2 : List Cond := [Cond.fieldLink RX0 35 "BridgeCells$Section" "stride" "I", Cond.methodLink RX1 62 yX0_countThere, Cond.instanceMethod yX0_countThere, Cond.selects RX0 yX0_countThere yX0_countThere, Cond.code yX0_countThere cX0_countThere 4 (some .int), Cond.methodLink RX0 84 yX0_leadsAt, Cond.instanceMethod yX0_leadsAt, Cond.selects RX0 yX0_leadsAt yX0_leadsAt, Cond.code yX0_leadsAt cX0_leadsAt 3 (some .int)]
def wsX1_box : List Cond := .code yX1_box cX1_box 6 (some .int) :: ((wsX1_box_r1 ++ wsX1_box_r2) ++ wsX10 ++ wsX00 ++ (vx_atS RX1 47 "java/lang/IllegalArgumentException" ["java/lang/RuntimeException", "java/lang/Exception"]).filter goodWord)
def wsX1_isSide : List Cond := .code yX1_isSide cX1_isSide 1 (some .boolean) :: ([.methodLink RX1 52 yX1_isWithin, .static yX1_isWithin, .initialized RX1, .code yX1_isWithin cX1_isWithin 3 (some .boolean)])
def wsX1_side_r1 : List Cond := [Cond.classLink RX1 43 "java/lang/IllegalArgumentException", Cond.initialized "java/lang/IllegalArgumentException", Cond.fieldLink RX1 35 "BridgeCells" "section" "LBridgeCells$Section;", Cond.methodLink RX1 66 yX1_isSide, Cond.static yX1_isSide, Cond.initialized RX1, Cond.code yX1_isSide cX1_isSide 1 (some .boolean), Cond.methodLink RX1 52 yX1_isWithin, Cond.static yX1_isWithin, Cond.code yX1_isWithin cX1_isWithin 3 (some .boolean), Cond.methodLink RX1 76 yX0_changeSide, Cond.instanceMethod yX0_changeSide, Cond.selects RX0 yX0_changeSide yX0_changeSide, Cond.initialized RX0, Cond.code yX0_changeSide cX0_changeSide 8 (some .int), Cond.fieldLink RX0 15 "BridgeCells$Section" "sideFilm" "[I", Cond.fieldLink RX0 9 "BridgeCells$Section" "sideWarmth" "[I", Cond.fieldLink RX0 38 "BridgeCells$Section" "conduct" "[I", Cond.fieldLink RX0 41 "BridgeCells$Section" "warm" "[I", Cond.fieldLink RX0 25 "BridgeCells$Section" "settled" "Z", Cond.methodLink RX0 61 yX0_countAlong, Cond.instanceMethod yX0_countAlong, Cond.selects RX0 yX0_countAlong yX0_countAlong, Cond.code yX0_countAlong cX0_countAlong 2 (some .int)]
def wsX1_side_r2 : List Cond := [Cond.fieldLink RX0 29 "BridgeCells$Section" "columns" "I", Cond.fieldLink RX0 32 "BridgeCells$Section" "rows" "I", Cond.methodLink RX0 65 yX0_cellAlong, Cond.instanceMethod yX0_cellAlong, Cond.selects RX0 yX0_cellAlong yX0_cellAlong, Cond.code yX0_cellAlong cX0_cellAlong 3 (some .int), Cond.methodLink RX0 56 yX0_place, Cond.instanceMethod yX0_place, Cond.selects RX0 yX0_place yX0_place, Cond.code yX0_place cX0_place 3 (some .int), Cond.fieldLink RX0 35 "BridgeCells$Section" "stride" "I", Cond.methodLink RX0 68 yX0_outward, Cond.instanceMethod yX0_outward, Cond.selects RX0 yX0_outward yX0_outward, Cond.code yX0_outward cX0_outward 2 (some .int)]
def wsX1_side : List Cond := .code yX1_side cX1_side 4 (some .int) :: ((wsX1_side_r1 ++ wsX1_side_r2) ++ wsX10 ++ wsX00 ++ (vx_atS RX1 47 "java/lang/IllegalArgumentException" ["java/lang/RuntimeException", "java/lang/Exception"]).filter goodWord)
def wsX1_leads : List Cond := .code yX1_leads cX1_leads 3 (some .int) :: ([.classLink RX1 43 "java/lang/IllegalArgumentException", .initialized "java/lang/IllegalArgumentException", .fieldLink RX1 35 "BridgeCells" "section" "LBridgeCells$Section;", .methodLink RX1 39 yX0_holds, .instanceMethod yX0_holds, .selects RX0 yX0_holds yX0_holds, .initialized RX0, .code yX0_holds cX0_holds 3 (some .boolean), .fieldLink RX0 29 "BridgeCells$Section" "columns" "I", .fieldLink RX0 32 "BridgeCells$Section" "rows" "I", .methodLink RX1 80 yX0_leadsAt, .instanceMethod yX0_leadsAt, .selects RX0 yX0_leadsAt yX0_leadsAt, .code yX0_leadsAt cX0_leadsAt 3 (some .int), .fieldLink RX0 38 "BridgeCells$Section" "conduct" "[I", .methodLink RX0 56 yX0_place, .instanceMethod yX0_place, .selects RX0 yX0_place yX0_place, .code yX0_place cX0_place 3 (some .int), .fieldLink RX0 35 "BridgeCells$Section" "stride" "I"] ++ wsX10 ++ wsX00 ++ (vx_atS RX1 47 "java/lang/IllegalArgumentException" ["java/lang/RuntimeException", "java/lang/Exception"]).filter goodWord)
def wsX1_warmth_r1 : List Cond := [Cond.classLink RX1 43 "java/lang/IllegalArgumentException", Cond.initialized "java/lang/IllegalArgumentException", Cond.fieldLink RX1 35 "BridgeCells" "section" "LBridgeCells$Section;", Cond.methodLink RX1 39 yX0_holds, Cond.instanceMethod yX0_holds, Cond.selects RX0 yX0_holds yX0_holds, Cond.initialized RX0, Cond.code yX0_holds cX0_holds 3 (some .boolean), Cond.fieldLink RX0 29 "BridgeCells$Section" "columns" "I", Cond.fieldLink RX0 32 "BridgeCells$Section" "rows" "I", Cond.methodLink RX1 83 yX0_settle, Cond.instanceMethod yX0_settle, Cond.selects RX0 yX0_settle yX0_settle, Cond.code yX0_settle cX0_settle 4 none, Cond.fieldLink RX0 25 "BridgeCells$Section" "settled" "Z", Cond.fieldLink RX0 22 "BridgeCells$Section" "high" "I", Cond.fieldLink RX0 18 "BridgeCells$Section" "low" "I", Cond.methodLink RX0 71 yX0_findLowAndHigh, Cond.instanceMethod yX0_findLowAndHigh, Cond.selects RX0 yX0_findLowAndHigh yX0_findLowAndHigh, Cond.code yX0_findLowAndHigh cX0_findLowAndHigh 3 none, Cond.fieldLink RX0 15 "BridgeCells$Section" "sideFilm" "[I", Cond.fieldLink RX0 9 "BridgeCells$Section" "sideWarmth" "[I", Cond.methodLink RX0 106 Lib.Math.min.name]
def wsX1_warmth_r2 : List Cond := [Cond.static Lib.Math.min.name, Cond.initialized "java/lang/Math", Cond.code Lib.Math.min.name Lib.Math.min.code 2 (some .int), Cond.methodLink RX0 109 Lib.Math.max.name, Cond.static Lib.Math.max.name, Cond.code Lib.Math.max.name Lib.Math.max.code 2 (some .int), Cond.methodLink RX0 74 yX0_joinNeighbours, Cond.instanceMethod yX0_joinNeighbours, Cond.selects RX0 yX0_joinNeighbours yX0_joinNeighbours, Cond.code yX0_joinNeighbours cX0_joinNeighbours 4 none, Cond.fieldLink RX0 44 "BridgeCells$Section" "east" "[I", Cond.fieldLink RX0 38 "BridgeCells$Section" "conduct" "[I", Cond.fieldLink RX0 47 "BridgeCells$Section" "south" "[I", Cond.fieldLink RX0 35 "BridgeCells$Section" "stride" "I", Cond.methodLink RX0 56 yX0_place, Cond.instanceMethod yX0_place, Cond.selects RX0 yX0_place yX0_place, Cond.code yX0_place cX0_place 3 (some .int), Cond.methodLink RX0 90 yX0_couple, Cond.static yX0_couple, Cond.code yX0_couple cX0_couple 2 (some .int), Cond.methodLink RX0 77 yX0_startAtLow, Cond.instanceMethod yX0_startAtLow, Cond.selects RX0 yX0_startAtLow yX0_startAtLow]
def wsX1_warmth_r3 : List Cond := [Cond.code yX0_startAtLow cX0_startAtLow 3 none, Cond.fieldLink RX0 41 "BridgeCells$Section" "warm" "[I", Cond.methodLink RX0 111 yX0_weigh, Cond.instanceMethod yX0_weigh, Cond.selects RX0 yX0_weigh yX0_weigh, Cond.code yX0_weigh cX0_weigh 6 none, Cond.fieldLink RX0 50 "BridgeCells$Section" "weight" "[I", Cond.fieldLink RX0 53 "BridgeCells$Section" "surplus" "[I", Cond.methodLink RX0 80 yX0_raiseAll, Cond.instanceMethod yX0_raiseAll, Cond.selects RX0 yX0_raiseAll yX0_raiseAll, Cond.code yX0_raiseAll cX0_raiseAll 5 (some .boolean), Cond.methodLink RX0 115 yX0_raise, Cond.instanceMethod yX0_raise, Cond.selects RX0 yX0_raise yX0_raise, Cond.code yX0_raise cX0_raise 3 none, Cond.methodLink RX1 86 yX0_warmthAt, Cond.instanceMethod yX0_warmthAt, Cond.selects RX0 yX0_warmthAt yX0_warmthAt, Cond.code yX0_warmthAt cX0_warmthAt 4 (some .int), Cond.constant RX0 60 (-1000000)]
def wsX1_warmth : List Cond := .code yX1_warmth cX1_warmth 3 (some .int) :: ((wsX1_warmth_r1 ++ (wsX1_warmth_r2 ++ wsX1_warmth_r3)) ++ wsX10 ++ wsX00 ++ (vx_atS RX1 47 "java/lang/IllegalArgumentException" ["java/lang/RuntimeException", "java/lang/Exception"]).filter goodWord)
def wsX1_flow_r1 : List Cond := [Cond.classLink RX1 43 "java/lang/IllegalArgumentException", Cond.initialized "java/lang/IllegalArgumentException", Cond.fieldLink RX1 35 "BridgeCells" "section" "LBridgeCells$Section;", Cond.methodLink RX1 66 yX1_isSide, Cond.static yX1_isSide, Cond.initialized RX1, Cond.code yX1_isSide cX1_isSide 1 (some .boolean), Cond.methodLink RX1 52 yX1_isWithin, Cond.static yX1_isWithin, Cond.code yX1_isWithin cX1_isWithin 3 (some .boolean), Cond.methodLink RX1 83 yX0_settle, Cond.instanceMethod yX0_settle, Cond.selects RX0 yX0_settle yX0_settle, Cond.initialized RX0, Cond.code yX0_settle cX0_settle 4 none, Cond.fieldLink RX0 25 "BridgeCells$Section" "settled" "Z", Cond.fieldLink RX0 29 "BridgeCells$Section" "columns" "I", Cond.fieldLink RX0 32 "BridgeCells$Section" "rows" "I", Cond.fieldLink RX0 22 "BridgeCells$Section" "high" "I", Cond.fieldLink RX0 18 "BridgeCells$Section" "low" "I", Cond.methodLink RX0 71 yX0_findLowAndHigh, Cond.instanceMethod yX0_findLowAndHigh, Cond.selects RX0 yX0_findLowAndHigh yX0_findLowAndHigh, Cond.code yX0_findLowAndHigh cX0_findLowAndHigh 3 none]
def wsX1_flow_r2 : List Cond := [Cond.fieldLink RX0 15 "BridgeCells$Section" "sideFilm" "[I", Cond.fieldLink RX0 9 "BridgeCells$Section" "sideWarmth" "[I", Cond.methodLink RX0 106 Lib.Math.min.name, Cond.static Lib.Math.min.name, Cond.initialized "java/lang/Math", Cond.code Lib.Math.min.name Lib.Math.min.code 2 (some .int), Cond.methodLink RX0 109 Lib.Math.max.name, Cond.static Lib.Math.max.name, Cond.code Lib.Math.max.name Lib.Math.max.code 2 (some .int), Cond.methodLink RX0 74 yX0_joinNeighbours, Cond.instanceMethod yX0_joinNeighbours, Cond.selects RX0 yX0_joinNeighbours yX0_joinNeighbours, Cond.code yX0_joinNeighbours cX0_joinNeighbours 4 none, Cond.fieldLink RX0 44 "BridgeCells$Section" "east" "[I", Cond.fieldLink RX0 38 "BridgeCells$Section" "conduct" "[I", Cond.fieldLink RX0 47 "BridgeCells$Section" "south" "[I", Cond.fieldLink RX0 35 "BridgeCells$Section" "stride" "I", Cond.methodLink RX0 56 yX0_place, Cond.instanceMethod yX0_place, Cond.selects RX0 yX0_place yX0_place, Cond.code yX0_place cX0_place 3 (some .int), Cond.methodLink RX0 90 yX0_couple, Cond.static yX0_couple, Cond.code yX0_couple cX0_couple 2 (some .int)]
def wsX1_flow_r3 : List Cond := [Cond.methodLink RX0 77 yX0_startAtLow, Cond.instanceMethod yX0_startAtLow, Cond.selects RX0 yX0_startAtLow yX0_startAtLow, Cond.code yX0_startAtLow cX0_startAtLow 3 none, Cond.fieldLink RX0 41 "BridgeCells$Section" "warm" "[I", Cond.methodLink RX0 111 yX0_weigh, Cond.instanceMethod yX0_weigh, Cond.selects RX0 yX0_weigh yX0_weigh, Cond.code yX0_weigh cX0_weigh 6 none, Cond.fieldLink RX0 50 "BridgeCells$Section" "weight" "[I", Cond.fieldLink RX0 53 "BridgeCells$Section" "surplus" "[I", Cond.methodLink RX0 80 yX0_raiseAll, Cond.instanceMethod yX0_raiseAll, Cond.selects RX0 yX0_raiseAll yX0_raiseAll, Cond.code yX0_raiseAll cX0_raiseAll 5 (some .boolean), Cond.methodLink RX0 115 yX0_raise, Cond.instanceMethod yX0_raise, Cond.selects RX0 yX0_raise yX0_raise, Cond.code yX0_raise cX0_raise 3 none, Cond.methodLink RX1 89 yX0_flowOf, Cond.instanceMethod yX0_flowOf, Cond.selects RX0 yX0_flowOf yX0_flowOf, Cond.code yX0_flowOf cX0_flowOf 7 (some .long), Cond.methodLink RX0 61 yX0_countAlong]
def wsX1_flow_r4 : List Cond := [Cond.instanceMethod yX0_countAlong, Cond.selects RX0 yX0_countAlong yX0_countAlong, Cond.code yX0_countAlong cX0_countAlong 2 (some .int), Cond.methodLink RX0 65 yX0_cellAlong, Cond.instanceMethod yX0_cellAlong, Cond.selects RX0 yX0_cellAlong yX0_cellAlong, Cond.code yX0_cellAlong cX0_cellAlong 3 (some .int)]
def wsX1_flow : List Cond := .code yX1_flow cX1_flow 2 (some .long) :: ((wsX1_flow_r1 ++ (wsX1_flow_r2 ++ (wsX1_flow_r3 ++ wsX1_flow_r4))) ++ wsX10 ++ wsX00 ++ (vx_atS RX1 47 "java/lang/IllegalArgumentException" ["java/lang/RuntimeException", "java/lang/Exception"]).filter goodWord)
def wsX1_told_r1 : List Cond := [Cond.classLink RX1 43 "java/lang/IllegalArgumentException", Cond.initialized "java/lang/IllegalArgumentException", Cond.fieldLink RX1 35 "BridgeCells" "section" "LBridgeCells$Section;", Cond.methodLink RX1 52 yX1_isWithin, Cond.static yX1_isWithin, Cond.initialized RX1, Cond.code yX1_isWithin cX1_isWithin 3 (some .boolean), Cond.methodLink RX1 83 yX0_settle, Cond.instanceMethod yX0_settle, Cond.selects RX0 yX0_settle yX0_settle, Cond.initialized RX0, Cond.code yX0_settle cX0_settle 4 none, Cond.fieldLink RX0 25 "BridgeCells$Section" "settled" "Z", Cond.fieldLink RX0 29 "BridgeCells$Section" "columns" "I", Cond.fieldLink RX0 32 "BridgeCells$Section" "rows" "I", Cond.fieldLink RX0 22 "BridgeCells$Section" "high" "I", Cond.fieldLink RX0 18 "BridgeCells$Section" "low" "I", Cond.methodLink RX0 71 yX0_findLowAndHigh, Cond.instanceMethod yX0_findLowAndHigh, Cond.selects RX0 yX0_findLowAndHigh yX0_findLowAndHigh, Cond.code yX0_findLowAndHigh cX0_findLowAndHigh 3 none, Cond.fieldLink RX0 15 "BridgeCells$Section" "sideFilm" "[I", Cond.fieldLink RX0 9 "BridgeCells$Section" "sideWarmth" "[I", Cond.methodLink RX0 106 Lib.Math.min.name]
def wsX1_told_r2 : List Cond := [Cond.static Lib.Math.min.name, Cond.initialized "java/lang/Math", Cond.code Lib.Math.min.name Lib.Math.min.code 2 (some .int), Cond.methodLink RX0 109 Lib.Math.max.name, Cond.static Lib.Math.max.name, Cond.code Lib.Math.max.name Lib.Math.max.code 2 (some .int), Cond.methodLink RX0 74 yX0_joinNeighbours, Cond.instanceMethod yX0_joinNeighbours, Cond.selects RX0 yX0_joinNeighbours yX0_joinNeighbours, Cond.code yX0_joinNeighbours cX0_joinNeighbours 4 none, Cond.fieldLink RX0 44 "BridgeCells$Section" "east" "[I", Cond.fieldLink RX0 38 "BridgeCells$Section" "conduct" "[I", Cond.fieldLink RX0 47 "BridgeCells$Section" "south" "[I", Cond.fieldLink RX0 35 "BridgeCells$Section" "stride" "I", Cond.methodLink RX0 56 yX0_place, Cond.instanceMethod yX0_place, Cond.selects RX0 yX0_place yX0_place, Cond.code yX0_place cX0_place 3 (some .int), Cond.methodLink RX0 90 yX0_couple, Cond.static yX0_couple, Cond.code yX0_couple cX0_couple 2 (some .int), Cond.methodLink RX0 77 yX0_startAtLow, Cond.instanceMethod yX0_startAtLow, Cond.selects RX0 yX0_startAtLow yX0_startAtLow]
def wsX1_told_r3 : List Cond := [Cond.code yX0_startAtLow cX0_startAtLow 3 none, Cond.fieldLink RX0 41 "BridgeCells$Section" "warm" "[I", Cond.methodLink RX0 111 yX0_weigh, Cond.instanceMethod yX0_weigh, Cond.selects RX0 yX0_weigh yX0_weigh, Cond.code yX0_weigh cX0_weigh 6 none, Cond.fieldLink RX0 50 "BridgeCells$Section" "weight" "[I", Cond.fieldLink RX0 53 "BridgeCells$Section" "surplus" "[I", Cond.methodLink RX0 80 yX0_raiseAll, Cond.instanceMethod yX0_raiseAll, Cond.selects RX0 yX0_raiseAll yX0_raiseAll, Cond.code yX0_raiseAll cX0_raiseAll 5 (some .boolean), Cond.methodLink RX0 115 yX0_raise, Cond.instanceMethod yX0_raise, Cond.selects RX0 yX0_raise yX0_raise, Cond.code yX0_raise cX0_raise 3 none, Cond.methodLink RX1 95 yX0_heat, Cond.instanceMethod yX0_heat, Cond.selects RX0 yX0_heat yX0_heat, Cond.code yX0_heat cX0_heat 4 (some .long), Cond.methodLink RX0 97 Lib.MathLoose.max_long.x, Cond.static Lib.MathLoose.max_long.x, Cond.code Lib.MathLoose.max_long.x Lib.MathLoose.max_long.code 4 (some .long), Cond.methodLink RX0 93 yX0_flowOf]
def wsX1_told_r4 : List Cond := [Cond.instanceMethod yX0_flowOf, Cond.selects RX0 yX0_flowOf yX0_flowOf, Cond.code yX0_flowOf cX0_flowOf 7 (some .long), Cond.methodLink RX0 61 yX0_countAlong, Cond.instanceMethod yX0_countAlong, Cond.selects RX0 yX0_countAlong yX0_countAlong, Cond.code yX0_countAlong cX0_countAlong 2 (some .int), Cond.methodLink RX0 65 yX0_cellAlong, Cond.instanceMethod yX0_cellAlong, Cond.selects RX0 yX0_cellAlong yX0_cellAlong, Cond.code yX0_cellAlong cX0_cellAlong 3 (some .int), Cond.methodLink RX1 99 yX0_rest, Cond.instanceMethod yX0_rest, Cond.selects RX0 yX0_rest yX0_rest, Cond.code yX0_rest cX0_rest 4 (some .long), Cond.methodLink RX1 102 yX0_sumOfWarmths, Cond.instanceMethod yX0_sumOfWarmths, Cond.selects RX0 yX0_sumOfWarmths yX0_sumOfWarmths, Cond.code yX0_sumOfWarmths cX0_sumOfWarmths 5 (some .long), Cond.methodLink RX0 84 yX0_leadsAt, Cond.instanceMethod yX0_leadsAt, Cond.selects RX0 yX0_leadsAt yX0_leadsAt, Cond.code yX0_leadsAt cX0_leadsAt 3 (some .int), Cond.methodLink RX0 87 yX0_warmthAt]
def wsX1_told_r5 : List Cond := [Cond.instanceMethod yX0_warmthAt, Cond.selects RX0 yX0_warmthAt yX0_warmthAt, Cond.code yX0_warmthAt cX0_warmthAt 4 (some .int), Cond.constant RX0 60 (-1000000), Cond.methodLink RX1 105 yX0_countAlone, Cond.instanceMethod yX0_countAlone, Cond.selects RX0 yX0_countAlone yX0_countAlone, Cond.code yX0_countAlone cX0_countAlone 4 (some .int)]
def wsX1_told : List Cond := .code yX1_told cX1_told 2 (some .long) :: ((wsX1_told_r1 ++ (wsX1_told_r2 ++ (wsX1_told_r3 ++ (wsX1_told_r4 ++ wsX1_told_r5)))) ++ wsX10 ++ wsX00 ++ (vx_atS RX1 47 "java/lang/IllegalArgumentException" ["java/lang/RuntimeException", "java/lang/Exception"]).filter goodWord)
def wsX1_least_r1 : List Cond := [Cond.classLink RX1 43 "java/lang/IllegalArgumentException", Cond.initialized "java/lang/IllegalArgumentException", Cond.fieldLink RX1 35 "BridgeCells" "section" "LBridgeCells$Section;", Cond.constant RX1 112 (-1000000), Cond.methodLink RX1 66 yX1_isSide, Cond.static yX1_isSide, Cond.initialized RX1, Cond.code yX1_isSide cX1_isSide 1 (some .boolean), Cond.methodLink RX1 52 yX1_isWithin, Cond.static yX1_isWithin, Cond.code yX1_isWithin cX1_isWithin 3 (some .boolean), Cond.methodLink RX1 83 yX0_settle, Cond.instanceMethod yX0_settle, Cond.selects RX0 yX0_settle yX0_settle, Cond.initialized RX0, Cond.code yX0_settle cX0_settle 4 none, Cond.fieldLink RX0 25 "BridgeCells$Section" "settled" "Z", Cond.fieldLink RX0 29 "BridgeCells$Section" "columns" "I", Cond.fieldLink RX0 32 "BridgeCells$Section" "rows" "I", Cond.fieldLink RX0 22 "BridgeCells$Section" "high" "I", Cond.fieldLink RX0 18 "BridgeCells$Section" "low" "I", Cond.methodLink RX0 71 yX0_findLowAndHigh, Cond.instanceMethod yX0_findLowAndHigh, Cond.selects RX0 yX0_findLowAndHigh yX0_findLowAndHigh]
def wsX1_least_r2 : List Cond := [Cond.code yX0_findLowAndHigh cX0_findLowAndHigh 3 none, Cond.fieldLink RX0 15 "BridgeCells$Section" "sideFilm" "[I", Cond.fieldLink RX0 9 "BridgeCells$Section" "sideWarmth" "[I", Cond.methodLink RX0 106 Lib.Math.min.name, Cond.static Lib.Math.min.name, Cond.initialized "java/lang/Math", Cond.code Lib.Math.min.name Lib.Math.min.code 2 (some .int), Cond.methodLink RX0 109 Lib.Math.max.name, Cond.static Lib.Math.max.name, Cond.code Lib.Math.max.name Lib.Math.max.code 2 (some .int), Cond.methodLink RX0 74 yX0_joinNeighbours, Cond.instanceMethod yX0_joinNeighbours, Cond.selects RX0 yX0_joinNeighbours yX0_joinNeighbours, Cond.code yX0_joinNeighbours cX0_joinNeighbours 4 none, Cond.fieldLink RX0 44 "BridgeCells$Section" "east" "[I", Cond.fieldLink RX0 38 "BridgeCells$Section" "conduct" "[I", Cond.fieldLink RX0 47 "BridgeCells$Section" "south" "[I", Cond.fieldLink RX0 35 "BridgeCells$Section" "stride" "I", Cond.methodLink RX0 56 yX0_place, Cond.instanceMethod yX0_place, Cond.selects RX0 yX0_place yX0_place, Cond.code yX0_place cX0_place 3 (some .int), Cond.methodLink RX0 90 yX0_couple, Cond.static yX0_couple]
def wsX1_least_r3 : List Cond := [Cond.code yX0_couple cX0_couple 2 (some .int), Cond.methodLink RX0 77 yX0_startAtLow, Cond.instanceMethod yX0_startAtLow, Cond.selects RX0 yX0_startAtLow yX0_startAtLow, Cond.code yX0_startAtLow cX0_startAtLow 3 none, Cond.fieldLink RX0 41 "BridgeCells$Section" "warm" "[I", Cond.methodLink RX0 111 yX0_weigh, Cond.instanceMethod yX0_weigh, Cond.selects RX0 yX0_weigh yX0_weigh, Cond.code yX0_weigh cX0_weigh 6 none, Cond.fieldLink RX0 50 "BridgeCells$Section" "weight" "[I", Cond.fieldLink RX0 53 "BridgeCells$Section" "surplus" "[I", Cond.methodLink RX0 80 yX0_raiseAll, Cond.instanceMethod yX0_raiseAll, Cond.selects RX0 yX0_raiseAll yX0_raiseAll, Cond.code yX0_raiseAll cX0_raiseAll 5 (some .boolean), Cond.methodLink RX0 115 yX0_raise, Cond.instanceMethod yX0_raise, Cond.selects RX0 yX0_raise yX0_raise, Cond.code yX0_raise cX0_raise 3 none, Cond.methodLink RX1 108 yX0_coldestAlong, Cond.instanceMethod yX0_coldestAlong, Cond.selects RX0 yX0_coldestAlong yX0_coldestAlong, Cond.code yX0_coldestAlong cX0_coldestAlong 6 (some .int)]
def wsX1_least_r4 : List Cond := [Cond.methodLink RX0 61 yX0_countAlong, Cond.instanceMethod yX0_countAlong, Cond.selects RX0 yX0_countAlong yX0_countAlong, Cond.code yX0_countAlong cX0_countAlong 2 (some .int), Cond.methodLink RX0 65 yX0_cellAlong, Cond.instanceMethod yX0_cellAlong, Cond.selects RX0 yX0_cellAlong yX0_cellAlong, Cond.code yX0_cellAlong cX0_cellAlong 3 (some .int), Cond.methodLink RX0 103 yX0_warmthAlong, Cond.instanceMethod yX0_warmthAlong, Cond.selects RX0 yX0_warmthAlong yX0_warmthAlong, Cond.code yX0_warmthAlong cX0_warmthAlong 3 (some .int), Cond.methodLink RX1 113 yX0_warmthAlong]
def wsX1_least : List Cond := .code yX1_least cX1_least 4 (some .int) :: ((wsX1_least_r1 ++ (wsX1_least_r2 ++ (wsX1_least_r3 ++ wsX1_least_r4))) ++ wsX10 ++ wsX00 ++ (vx_atS RX1 47 "java/lang/IllegalArgumentException" ["java/lang/RuntimeException", "java/lang/Exception"]).filter goodWord)
def wsX1_commonDivisor : List Cond := .code yX1_commonDivisor cX1_commonDivisor 6 (some .int) :: ([])
def wsX1_factor_r1 : List Cond := [Cond.classLink RX1 43 "java/lang/IllegalArgumentException", Cond.initialized "java/lang/IllegalArgumentException", Cond.fieldLink RX1 35 "BridgeCells" "section" "LBridgeCells$Section;", Cond.methodLink RX1 66 yX1_isSide, Cond.static yX1_isSide, Cond.initialized RX1, Cond.code yX1_isSide cX1_isSide 1 (some .boolean), Cond.methodLink RX1 52 yX1_isWithin, Cond.static yX1_isWithin, Cond.code yX1_isWithin cX1_isWithin 3 (some .boolean), Cond.methodLink RX1 83 yX0_settle, Cond.instanceMethod yX0_settle, Cond.selects RX0 yX0_settle yX0_settle, Cond.initialized RX0, Cond.code yX0_settle cX0_settle 4 none, Cond.fieldLink RX0 25 "BridgeCells$Section" "settled" "Z", Cond.fieldLink RX0 29 "BridgeCells$Section" "columns" "I", Cond.fieldLink RX0 32 "BridgeCells$Section" "rows" "I", Cond.fieldLink RX0 22 "BridgeCells$Section" "high" "I", Cond.fieldLink RX0 18 "BridgeCells$Section" "low" "I", Cond.methodLink RX0 71 yX0_findLowAndHigh, Cond.instanceMethod yX0_findLowAndHigh, Cond.selects RX0 yX0_findLowAndHigh yX0_findLowAndHigh, Cond.code yX0_findLowAndHigh cX0_findLowAndHigh 3 none]
def wsX1_factor_r2 : List Cond := [Cond.fieldLink RX0 15 "BridgeCells$Section" "sideFilm" "[I", Cond.fieldLink RX0 9 "BridgeCells$Section" "sideWarmth" "[I", Cond.methodLink RX0 106 Lib.Math.min.name, Cond.static Lib.Math.min.name, Cond.initialized "java/lang/Math", Cond.code Lib.Math.min.name Lib.Math.min.code 2 (some .int), Cond.methodLink RX0 109 Lib.Math.max.name, Cond.static Lib.Math.max.name, Cond.code Lib.Math.max.name Lib.Math.max.code 2 (some .int), Cond.methodLink RX0 74 yX0_joinNeighbours, Cond.instanceMethod yX0_joinNeighbours, Cond.selects RX0 yX0_joinNeighbours yX0_joinNeighbours, Cond.code yX0_joinNeighbours cX0_joinNeighbours 4 none, Cond.fieldLink RX0 44 "BridgeCells$Section" "east" "[I", Cond.fieldLink RX0 38 "BridgeCells$Section" "conduct" "[I", Cond.fieldLink RX0 47 "BridgeCells$Section" "south" "[I", Cond.fieldLink RX0 35 "BridgeCells$Section" "stride" "I", Cond.methodLink RX0 56 yX0_place, Cond.instanceMethod yX0_place, Cond.selects RX0 yX0_place yX0_place, Cond.code yX0_place cX0_place 3 (some .int), Cond.methodLink RX0 90 yX0_couple, Cond.static yX0_couple, Cond.code yX0_couple cX0_couple 2 (some .int)]
def wsX1_factor_r3 : List Cond := [Cond.methodLink RX0 77 yX0_startAtLow, Cond.instanceMethod yX0_startAtLow, Cond.selects RX0 yX0_startAtLow yX0_startAtLow, Cond.code yX0_startAtLow cX0_startAtLow 3 none, Cond.fieldLink RX0 41 "BridgeCells$Section" "warm" "[I", Cond.methodLink RX0 111 yX0_weigh, Cond.instanceMethod yX0_weigh, Cond.selects RX0 yX0_weigh yX0_weigh, Cond.code yX0_weigh cX0_weigh 6 none, Cond.fieldLink RX0 50 "BridgeCells$Section" "weight" "[I", Cond.fieldLink RX0 53 "BridgeCells$Section" "surplus" "[I", Cond.methodLink RX0 80 yX0_raiseAll, Cond.instanceMethod yX0_raiseAll, Cond.selects RX0 yX0_raiseAll yX0_raiseAll, Cond.code yX0_raiseAll cX0_raiseAll 5 (some .boolean), Cond.methodLink RX0 115 yX0_raise, Cond.instanceMethod yX0_raise, Cond.selects RX0 yX0_raise yX0_raise, Cond.code yX0_raise cX0_raise 3 none, Cond.methodLink RX1 108 yX0_coldestAlong, Cond.instanceMethod yX0_coldestAlong, Cond.selects RX0 yX0_coldestAlong yX0_coldestAlong, Cond.code yX0_coldestAlong cX0_coldestAlong 6 (some .int), Cond.methodLink RX0 61 yX0_countAlong]
def wsX1_factor_r4 : List Cond := [Cond.instanceMethod yX0_countAlong, Cond.selects RX0 yX0_countAlong yX0_countAlong, Cond.code yX0_countAlong cX0_countAlong 2 (some .int), Cond.methodLink RX0 65 yX0_cellAlong, Cond.instanceMethod yX0_cellAlong, Cond.selects RX0 yX0_cellAlong yX0_cellAlong, Cond.code yX0_cellAlong cX0_cellAlong 3 (some .int), Cond.methodLink RX0 103 yX0_warmthAlong, Cond.instanceMethod yX0_warmthAlong, Cond.selects RX0 yX0_warmthAlong yX0_warmthAlong, Cond.code yX0_warmthAlong cX0_warmthAlong 3 (some .int), Cond.methodLink RX1 118 yX0_aboveLow, Cond.instanceMethod yX0_aboveLow, Cond.selects RX0 yX0_aboveLow yX0_aboveLow, Cond.code yX0_aboveLow cX0_aboveLow 3 (some .int), Cond.methodLink RX1 121 yX0_highAboveLow, Cond.instanceMethod yX0_highAboveLow, Cond.selects RX0 yX0_highAboveLow yX0_highAboveLow, Cond.code yX0_highAboveLow cX0_highAboveLow 1 (some .int), Cond.methodLink RX1 124 yX1_commonDivisor, Cond.static yX1_commonDivisor, Cond.code yX1_commonDivisor cX1_commonDivisor 6 (some .int)]
def wsX1_factor : List Cond := .code yX1_factor cX1_factor 7 (some .int) :: ((wsX1_factor_r1 ++ (wsX1_factor_r2 ++ (wsX1_factor_r3 ++ wsX1_factor_r4))) ++ wsX10 ++ wsX00 ++ (vx_atS RX1 47 "java/lang/IllegalArgumentException" ["java/lang/RuntimeException", "java/lang/Exception"]).filter goodWord)
def wsX1_colder_r1 : List Cond := [Cond.classLink RX1 43 "java/lang/IllegalArgumentException", Cond.initialized "java/lang/IllegalArgumentException", Cond.fieldLink RX1 35 "BridgeCells" "section" "LBridgeCells$Section;", Cond.methodLink RX1 52 yX1_isWithin, Cond.static yX1_isWithin, Cond.initialized RX1, Cond.code yX1_isWithin cX1_isWithin 3 (some .boolean), Cond.methodLink RX1 83 yX0_settle, Cond.instanceMethod yX0_settle, Cond.selects RX0 yX0_settle yX0_settle, Cond.initialized RX0, Cond.code yX0_settle cX0_settle 4 none, Cond.fieldLink RX0 25 "BridgeCells$Section" "settled" "Z", Cond.fieldLink RX0 29 "BridgeCells$Section" "columns" "I", Cond.fieldLink RX0 32 "BridgeCells$Section" "rows" "I", Cond.fieldLink RX0 22 "BridgeCells$Section" "high" "I", Cond.fieldLink RX0 18 "BridgeCells$Section" "low" "I", Cond.methodLink RX0 71 yX0_findLowAndHigh, Cond.instanceMethod yX0_findLowAndHigh, Cond.selects RX0 yX0_findLowAndHigh yX0_findLowAndHigh, Cond.code yX0_findLowAndHigh cX0_findLowAndHigh 3 none, Cond.fieldLink RX0 15 "BridgeCells$Section" "sideFilm" "[I", Cond.fieldLink RX0 9 "BridgeCells$Section" "sideWarmth" "[I", Cond.methodLink RX0 106 Lib.Math.min.name]
def wsX1_colder_r2 : List Cond := [Cond.static Lib.Math.min.name, Cond.initialized "java/lang/Math", Cond.code Lib.Math.min.name Lib.Math.min.code 2 (some .int), Cond.methodLink RX0 109 Lib.Math.max.name, Cond.static Lib.Math.max.name, Cond.code Lib.Math.max.name Lib.Math.max.code 2 (some .int), Cond.methodLink RX0 74 yX0_joinNeighbours, Cond.instanceMethod yX0_joinNeighbours, Cond.selects RX0 yX0_joinNeighbours yX0_joinNeighbours, Cond.code yX0_joinNeighbours cX0_joinNeighbours 4 none, Cond.fieldLink RX0 44 "BridgeCells$Section" "east" "[I", Cond.fieldLink RX0 38 "BridgeCells$Section" "conduct" "[I", Cond.fieldLink RX0 47 "BridgeCells$Section" "south" "[I", Cond.fieldLink RX0 35 "BridgeCells$Section" "stride" "I", Cond.methodLink RX0 56 yX0_place, Cond.instanceMethod yX0_place, Cond.selects RX0 yX0_place yX0_place, Cond.code yX0_place cX0_place 3 (some .int), Cond.methodLink RX0 90 yX0_couple, Cond.static yX0_couple, Cond.code yX0_couple cX0_couple 2 (some .int), Cond.methodLink RX0 77 yX0_startAtLow, Cond.instanceMethod yX0_startAtLow, Cond.selects RX0 yX0_startAtLow yX0_startAtLow]
def wsX1_colder_r3 : List Cond := [Cond.code yX0_startAtLow cX0_startAtLow 3 none, Cond.fieldLink RX0 41 "BridgeCells$Section" "warm" "[I", Cond.methodLink RX0 111 yX0_weigh, Cond.instanceMethod yX0_weigh, Cond.selects RX0 yX0_weigh yX0_weigh, Cond.code yX0_weigh cX0_weigh 6 none, Cond.fieldLink RX0 50 "BridgeCells$Section" "weight" "[I", Cond.fieldLink RX0 53 "BridgeCells$Section" "surplus" "[I", Cond.methodLink RX0 80 yX0_raiseAll, Cond.instanceMethod yX0_raiseAll, Cond.selects RX0 yX0_raiseAll yX0_raiseAll, Cond.code yX0_raiseAll cX0_raiseAll 5 (some .boolean), Cond.methodLink RX0 115 yX0_raise, Cond.instanceMethod yX0_raise, Cond.selects RX0 yX0_raise yX0_raise, Cond.code yX0_raise cX0_raise 3 none, Cond.methodLink RX1 127 yX0_countColder, Cond.instanceMethod yX0_countColder, Cond.selects RX0 yX0_countColder yX0_countColder, Cond.code yX0_countColder cX0_countColder 5 (some .int), Cond.methodLink RX0 84 yX0_leadsAt, Cond.instanceMethod yX0_leadsAt, Cond.selects RX0 yX0_leadsAt yX0_leadsAt, Cond.code yX0_leadsAt cX0_leadsAt 3 (some .int)]
def wsX1_colder_r4 : List Cond := [Cond.methodLink RX0 87 yX0_warmthAt, Cond.instanceMethod yX0_warmthAt, Cond.selects RX0 yX0_warmthAt yX0_warmthAt, Cond.code yX0_warmthAt cX0_warmthAt 4 (some .int), Cond.constant RX0 60 (-1000000)]
def wsX1_colder : List Cond := .code yX1_colder cX1_colder 2 (some .int) :: ((wsX1_colder_r1 ++ (wsX1_colder_r2 ++ (wsX1_colder_r3 ++ wsX1_colder_r4))) ++ wsX10 ++ wsX00 ++ (vx_atS RX1 47 "java/lang/IllegalArgumentException" ["java/lang/RuntimeException", "java/lang/Exception"]).filter goodWord)
def wsX1_mirrored_r1 : List Cond := [Cond.classLink RX1 43 "java/lang/IllegalArgumentException", Cond.initialized "java/lang/IllegalArgumentException", Cond.fieldLink RX1 35 "BridgeCells" "section" "LBridgeCells$Section;", Cond.methodLink RX1 52 yX1_isWithin, Cond.static yX1_isWithin, Cond.initialized RX1, Cond.code yX1_isWithin cX1_isWithin 3 (some .boolean), Cond.methodLink RX1 83 yX0_settle, Cond.instanceMethod yX0_settle, Cond.selects RX0 yX0_settle yX0_settle, Cond.initialized RX0, Cond.code yX0_settle cX0_settle 4 none, Cond.fieldLink RX0 25 "BridgeCells$Section" "settled" "Z", Cond.fieldLink RX0 29 "BridgeCells$Section" "columns" "I", Cond.fieldLink RX0 32 "BridgeCells$Section" "rows" "I", Cond.fieldLink RX0 22 "BridgeCells$Section" "high" "I", Cond.fieldLink RX0 18 "BridgeCells$Section" "low" "I", Cond.methodLink RX0 71 yX0_findLowAndHigh, Cond.instanceMethod yX0_findLowAndHigh, Cond.selects RX0 yX0_findLowAndHigh yX0_findLowAndHigh, Cond.code yX0_findLowAndHigh cX0_findLowAndHigh 3 none, Cond.fieldLink RX0 15 "BridgeCells$Section" "sideFilm" "[I", Cond.fieldLink RX0 9 "BridgeCells$Section" "sideWarmth" "[I", Cond.methodLink RX0 106 Lib.Math.min.name]
def wsX1_mirrored_r2 : List Cond := [Cond.static Lib.Math.min.name, Cond.initialized "java/lang/Math", Cond.code Lib.Math.min.name Lib.Math.min.code 2 (some .int), Cond.methodLink RX0 109 Lib.Math.max.name, Cond.static Lib.Math.max.name, Cond.code Lib.Math.max.name Lib.Math.max.code 2 (some .int), Cond.methodLink RX0 74 yX0_joinNeighbours, Cond.instanceMethod yX0_joinNeighbours, Cond.selects RX0 yX0_joinNeighbours yX0_joinNeighbours, Cond.code yX0_joinNeighbours cX0_joinNeighbours 4 none, Cond.fieldLink RX0 44 "BridgeCells$Section" "east" "[I", Cond.fieldLink RX0 38 "BridgeCells$Section" "conduct" "[I", Cond.fieldLink RX0 47 "BridgeCells$Section" "south" "[I", Cond.fieldLink RX0 35 "BridgeCells$Section" "stride" "I", Cond.methodLink RX0 56 yX0_place, Cond.instanceMethod yX0_place, Cond.selects RX0 yX0_place yX0_place, Cond.code yX0_place cX0_place 3 (some .int), Cond.methodLink RX0 90 yX0_couple, Cond.static yX0_couple, Cond.code yX0_couple cX0_couple 2 (some .int), Cond.methodLink RX0 77 yX0_startAtLow, Cond.instanceMethod yX0_startAtLow, Cond.selects RX0 yX0_startAtLow yX0_startAtLow]
def wsX1_mirrored_r3 : List Cond := [Cond.code yX0_startAtLow cX0_startAtLow 3 none, Cond.fieldLink RX0 41 "BridgeCells$Section" "warm" "[I", Cond.methodLink RX0 111 yX0_weigh, Cond.instanceMethod yX0_weigh, Cond.selects RX0 yX0_weigh yX0_weigh, Cond.code yX0_weigh cX0_weigh 6 none, Cond.fieldLink RX0 50 "BridgeCells$Section" "weight" "[I", Cond.fieldLink RX0 53 "BridgeCells$Section" "surplus" "[I", Cond.methodLink RX0 80 yX0_raiseAll, Cond.instanceMethod yX0_raiseAll, Cond.selects RX0 yX0_raiseAll yX0_raiseAll, Cond.code yX0_raiseAll cX0_raiseAll 5 (some .boolean), Cond.methodLink RX0 115 yX0_raise, Cond.instanceMethod yX0_raise, Cond.selects RX0 yX0_raise yX0_raise, Cond.code yX0_raise cX0_raise 3 none, Cond.methodLink RX1 132 yX0_rowsMirror, Cond.instanceMethod yX0_rowsMirror, Cond.selects RX0 yX0_rowsMirror yX0_rowsMirror, Cond.code yX0_rowsMirror cX0_rowsMirror 3 (some .boolean), Cond.methodLink RX0 87 yX0_warmthAt, Cond.instanceMethod yX0_warmthAt, Cond.selects RX0 yX0_warmthAt yX0_warmthAt, Cond.code yX0_warmthAt cX0_warmthAt 4 (some .int)]
def wsX1_mirrored_r4 : List Cond := [Cond.constant RX0 60 (-1000000), Cond.methodLink RX1 136 yX0_columnsMirror, Cond.instanceMethod yX0_columnsMirror, Cond.selects RX0 yX0_columnsMirror yX0_columnsMirror, Cond.code yX0_columnsMirror cX0_columnsMirror 3 (some .boolean)]
def wsX1_mirrored : List Cond := .code yX1_mirrored cX1_mirrored 2 (some .boolean) :: ((wsX1_mirrored_r1 ++ (wsX1_mirrored_r2 ++ (wsX1_mirrored_r3 ++ wsX1_mirrored_r4))) ++ wsX10 ++ wsX00 ++ (vx_atS RX1 47 "java/lang/IllegalArgumentException" ["java/lang/RuntimeException", "java/lang/Exception"]).filter goodWord)
def wsX1_joint_r1 : List Cond := [Cond.classLink RX1 139 "java/lang/IllegalStateException", Cond.initialized "java/lang/IllegalStateException", Cond.fieldLink RX1 17 "BridgeCells" "joints" "I", Cond.fieldLink RX1 35 "BridgeCells" "section" "LBridgeCells$Section;", Cond.fieldLink RX1 9 "BridgeCells" "jointHeats" "[J", Cond.fieldLink RX1 13 "BridgeCells" "jointLengths" "[I", Cond.methodLink RX1 83 yX0_settle, Cond.instanceMethod yX0_settle, Cond.selects RX0 yX0_settle yX0_settle, Cond.initialized RX0, Cond.code yX0_settle cX0_settle 4 none, Cond.fieldLink RX0 25 "BridgeCells$Section" "settled" "Z", Cond.fieldLink RX0 29 "BridgeCells$Section" "columns" "I", Cond.fieldLink RX0 32 "BridgeCells$Section" "rows" "I", Cond.fieldLink RX0 22 "BridgeCells$Section" "high" "I", Cond.fieldLink RX0 18 "BridgeCells$Section" "low" "I", Cond.methodLink RX0 71 yX0_findLowAndHigh, Cond.instanceMethod yX0_findLowAndHigh, Cond.selects RX0 yX0_findLowAndHigh yX0_findLowAndHigh, Cond.code yX0_findLowAndHigh cX0_findLowAndHigh 3 none, Cond.fieldLink RX0 15 "BridgeCells$Section" "sideFilm" "[I", Cond.fieldLink RX0 9 "BridgeCells$Section" "sideWarmth" "[I", Cond.methodLink RX0 106 Lib.Math.min.name, Cond.static Lib.Math.min.name]
def wsX1_joint_r2 : List Cond := [Cond.initialized "java/lang/Math", Cond.code Lib.Math.min.name Lib.Math.min.code 2 (some .int), Cond.methodLink RX0 109 Lib.Math.max.name, Cond.static Lib.Math.max.name, Cond.code Lib.Math.max.name Lib.Math.max.code 2 (some .int), Cond.methodLink RX0 74 yX0_joinNeighbours, Cond.instanceMethod yX0_joinNeighbours, Cond.selects RX0 yX0_joinNeighbours yX0_joinNeighbours, Cond.code yX0_joinNeighbours cX0_joinNeighbours 4 none, Cond.fieldLink RX0 44 "BridgeCells$Section" "east" "[I", Cond.fieldLink RX0 38 "BridgeCells$Section" "conduct" "[I", Cond.fieldLink RX0 47 "BridgeCells$Section" "south" "[I", Cond.fieldLink RX0 35 "BridgeCells$Section" "stride" "I", Cond.methodLink RX0 56 yX0_place, Cond.instanceMethod yX0_place, Cond.selects RX0 yX0_place yX0_place, Cond.code yX0_place cX0_place 3 (some .int), Cond.methodLink RX0 90 yX0_couple, Cond.static yX0_couple, Cond.code yX0_couple cX0_couple 2 (some .int), Cond.methodLink RX0 77 yX0_startAtLow, Cond.instanceMethod yX0_startAtLow, Cond.selects RX0 yX0_startAtLow yX0_startAtLow, Cond.code yX0_startAtLow cX0_startAtLow 3 none]
def wsX1_joint_r3 : List Cond := [Cond.fieldLink RX0 41 "BridgeCells$Section" "warm" "[I", Cond.methodLink RX0 111 yX0_weigh, Cond.instanceMethod yX0_weigh, Cond.selects RX0 yX0_weigh yX0_weigh, Cond.code yX0_weigh cX0_weigh 6 none, Cond.fieldLink RX0 50 "BridgeCells$Section" "weight" "[I", Cond.fieldLink RX0 53 "BridgeCells$Section" "surplus" "[I", Cond.methodLink RX0 80 yX0_raiseAll, Cond.instanceMethod yX0_raiseAll, Cond.selects RX0 yX0_raiseAll yX0_raiseAll, Cond.code yX0_raiseAll cX0_raiseAll 5 (some .boolean), Cond.methodLink RX0 115 yX0_raise, Cond.instanceMethod yX0_raise, Cond.selects RX0 yX0_raise yX0_raise, Cond.code yX0_raise cX0_raise 3 none, Cond.methodLink RX1 95 yX0_heat, Cond.instanceMethod yX0_heat, Cond.selects RX0 yX0_heat yX0_heat, Cond.code yX0_heat cX0_heat 4 (some .long), Cond.methodLink RX0 97 Lib.MathLoose.max_long.x, Cond.static Lib.MathLoose.max_long.x, Cond.code Lib.MathLoose.max_long.x Lib.MathLoose.max_long.code 4 (some .long), Cond.methodLink RX0 93 yX0_flowOf, Cond.instanceMethod yX0_flowOf]
def wsX1_joint_r4 : List Cond := [Cond.selects RX0 yX0_flowOf yX0_flowOf, Cond.code yX0_flowOf cX0_flowOf 7 (some .long), Cond.methodLink RX0 61 yX0_countAlong, Cond.instanceMethod yX0_countAlong, Cond.selects RX0 yX0_countAlong yX0_countAlong, Cond.code yX0_countAlong cX0_countAlong 2 (some .int), Cond.methodLink RX0 65 yX0_cellAlong, Cond.instanceMethod yX0_cellAlong, Cond.selects RX0 yX0_cellAlong yX0_cellAlong, Cond.code yX0_cellAlong cX0_cellAlong 3 (some .int)]
def wsX1_joint : List Cond := .code yX1_joint cX1_joint 1 (some .int) :: ((wsX1_joint_r1 ++ (wsX1_joint_r2 ++ (wsX1_joint_r3 ++ wsX1_joint_r4))) ++ wsX10 ++ wsX00 ++ (vx_atS RX1 143 "java/lang/IllegalStateException" ["java/lang/RuntimeException", "java/lang/Exception"]).filter goodWord)
def wsX1_isJoint : List Cond := .code yX1_isJoint cX1_isJoint 2 (some .boolean) :: ([.fieldLink RX1 17 "BridgeCells" "joints" "I", .methodLink RX1 52 yX1_isWithin, .static yX1_isWithin, .initialized RX1, .code yX1_isWithin cX1_isWithin 3 (some .boolean)] ++ wsX10)
def wsX1_length : List Cond := .code yX1_length cX1_length 4 (some .int) :: ([.classLink RX1 43 "java/lang/IllegalArgumentException", .initialized "java/lang/IllegalArgumentException", .fieldLink RX1 13 "BridgeCells" "jointLengths" "[I", .methodLink RX1 144 yX1_isJoint, .instanceMethod yX1_isJoint, .selects RX1 yX1_isJoint yX1_isJoint, .initialized RX1, .code yX1_isJoint cX1_isJoint 2 (some .boolean), .fieldLink RX1 17 "BridgeCells" "joints" "I", .methodLink RX1 52 yX1_isWithin, .static yX1_isWithin, .code yX1_isWithin cX1_isWithin 3 (some .boolean)] ++ wsX10 ++ (vx_atS RX1 47 "java/lang/IllegalArgumentException" ["java/lang/RuntimeException", "java/lang/Exception"]).filter goodWord)
def wsX1_differs_r1 : List Cond := [Cond.classLink RX1 43 "java/lang/IllegalArgumentException", Cond.initialized "java/lang/IllegalArgumentException", Cond.fieldLink RX1 35 "BridgeCells" "section" "LBridgeCells$Section;", Cond.fieldLink RX1 9 "BridgeCells" "jointHeats" "[J", Cond.methodLink RX1 144 yX1_isJoint, Cond.instanceMethod yX1_isJoint, Cond.selects RX1 yX1_isJoint yX1_isJoint, Cond.initialized RX1, Cond.code yX1_isJoint cX1_isJoint 2 (some .boolean), Cond.fieldLink RX1 17 "BridgeCells" "joints" "I", Cond.methodLink RX1 52 yX1_isWithin, Cond.static yX1_isWithin, Cond.code yX1_isWithin cX1_isWithin 3 (some .boolean), Cond.methodLink RX1 83 yX0_settle, Cond.instanceMethod yX0_settle, Cond.selects RX0 yX0_settle yX0_settle, Cond.initialized RX0, Cond.code yX0_settle cX0_settle 4 none, Cond.fieldLink RX0 25 "BridgeCells$Section" "settled" "Z", Cond.fieldLink RX0 29 "BridgeCells$Section" "columns" "I", Cond.fieldLink RX0 32 "BridgeCells$Section" "rows" "I", Cond.fieldLink RX0 22 "BridgeCells$Section" "high" "I", Cond.fieldLink RX0 18 "BridgeCells$Section" "low" "I", Cond.methodLink RX0 71 yX0_findLowAndHigh]
def wsX1_differs_r2 : List Cond := [Cond.instanceMethod yX0_findLowAndHigh, Cond.selects RX0 yX0_findLowAndHigh yX0_findLowAndHigh, Cond.code yX0_findLowAndHigh cX0_findLowAndHigh 3 none, Cond.fieldLink RX0 15 "BridgeCells$Section" "sideFilm" "[I", Cond.fieldLink RX0 9 "BridgeCells$Section" "sideWarmth" "[I", Cond.methodLink RX0 106 Lib.Math.min.name, Cond.static Lib.Math.min.name, Cond.initialized "java/lang/Math", Cond.code Lib.Math.min.name Lib.Math.min.code 2 (some .int), Cond.methodLink RX0 109 Lib.Math.max.name, Cond.static Lib.Math.max.name, Cond.code Lib.Math.max.name Lib.Math.max.code 2 (some .int), Cond.methodLink RX0 74 yX0_joinNeighbours, Cond.instanceMethod yX0_joinNeighbours, Cond.selects RX0 yX0_joinNeighbours yX0_joinNeighbours, Cond.code yX0_joinNeighbours cX0_joinNeighbours 4 none, Cond.fieldLink RX0 44 "BridgeCells$Section" "east" "[I", Cond.fieldLink RX0 38 "BridgeCells$Section" "conduct" "[I", Cond.fieldLink RX0 47 "BridgeCells$Section" "south" "[I", Cond.fieldLink RX0 35 "BridgeCells$Section" "stride" "I", Cond.methodLink RX0 56 yX0_place, Cond.instanceMethod yX0_place, Cond.selects RX0 yX0_place yX0_place, Cond.code yX0_place cX0_place 3 (some .int)]
def wsX1_differs_r3 : List Cond := [Cond.methodLink RX0 90 yX0_couple, Cond.static yX0_couple, Cond.code yX0_couple cX0_couple 2 (some .int), Cond.methodLink RX0 77 yX0_startAtLow, Cond.instanceMethod yX0_startAtLow, Cond.selects RX0 yX0_startAtLow yX0_startAtLow, Cond.code yX0_startAtLow cX0_startAtLow 3 none, Cond.fieldLink RX0 41 "BridgeCells$Section" "warm" "[I", Cond.methodLink RX0 111 yX0_weigh, Cond.instanceMethod yX0_weigh, Cond.selects RX0 yX0_weigh yX0_weigh, Cond.code yX0_weigh cX0_weigh 6 none, Cond.fieldLink RX0 50 "BridgeCells$Section" "weight" "[I", Cond.fieldLink RX0 53 "BridgeCells$Section" "surplus" "[I", Cond.methodLink RX0 80 yX0_raiseAll, Cond.instanceMethod yX0_raiseAll, Cond.selects RX0 yX0_raiseAll yX0_raiseAll, Cond.code yX0_raiseAll cX0_raiseAll 5 (some .boolean), Cond.methodLink RX0 115 yX0_raise, Cond.instanceMethod yX0_raise, Cond.selects RX0 yX0_raise yX0_raise, Cond.code yX0_raise cX0_raise 3 none, Cond.methodLink RX1 95 yX0_heat, Cond.instanceMethod yX0_heat]
def wsX1_differs_r4 : List Cond := [Cond.selects RX0 yX0_heat yX0_heat, Cond.code yX0_heat cX0_heat 4 (some .long), Cond.methodLink RX0 97 Lib.MathLoose.max_long.x, Cond.static Lib.MathLoose.max_long.x, Cond.code Lib.MathLoose.max_long.x Lib.MathLoose.max_long.code 4 (some .long), Cond.methodLink RX0 93 yX0_flowOf, Cond.instanceMethod yX0_flowOf, Cond.selects RX0 yX0_flowOf yX0_flowOf, Cond.code yX0_flowOf cX0_flowOf 7 (some .long), Cond.methodLink RX0 61 yX0_countAlong, Cond.instanceMethod yX0_countAlong, Cond.selects RX0 yX0_countAlong yX0_countAlong, Cond.code yX0_countAlong cX0_countAlong 2 (some .int), Cond.methodLink RX0 65 yX0_cellAlong, Cond.instanceMethod yX0_cellAlong, Cond.selects RX0 yX0_cellAlong yX0_cellAlong, Cond.code yX0_cellAlong cX0_cellAlong 3 (some .int)]
def wsX1_differs : List Cond := .code yX1_differs cX1_differs 2 (some .long) :: ((wsX1_differs_r1 ++ (wsX1_differs_r2 ++ (wsX1_differs_r3 ++ wsX1_differs_r4))) ++ wsX10 ++ wsX00 ++ (vx_atS RX1 47 "java/lang/IllegalArgumentException" ["java/lang/RuntimeException", "java/lang/Exception"]).filter goodWord)
def wsX1_sum : List Cond := .code yX1_sum cX1_sum 4 (some .long) :: ([.fieldLink RX1 17 "BridgeCells" "joints" "I", .fieldLink RX1 9 "BridgeCells" "jointHeats" "[J", .fieldLink RX1 13 "BridgeCells" "jointLengths" "[I"] ++ wsX10)
def wsX2_init : List Cond := .code yX2_init cX2_init 3 none :: ([.methodLink RX2 1 objectInit, .instanceMethod objectInit, .code objectInit ⟨#[0xb1]⟩ 1 none, .arrayClass .int, .fieldLink RX2 7 "BridgeCellsModel" "leads" "[I", .fieldLink RX2 13 "BridgeCellsModel" "warm" "[I", .fieldLink RX2 16 "BridgeCellsModel" "sideWarm" "[I", .fieldLink RX2 19 "BridgeCellsModel" "film" "[I", .arrayClass .long, .fieldLink RX2 22 "BridgeCellsModel" "heats" "[J", .fieldLink RX2 26 "BridgeCellsModel" "lengths" "[I", .fieldLink RX2 29 "BridgeCellsModel" "wide" "I", .fieldLink RX2 33 "BridgeCellsModel" "high" "I"] ++ wsX20)
def wsX2_thrown : List Cond := .code yX2_thrown cX2_thrown 1 (some .int) :: ([.fieldLink RX2 36 "BridgeCellsModel" "fault" "I"] ++ wsX20)
def wsX2_in : List Cond := .code yX2_in cX2_in 3 (some .boolean) :: ([])
def wsX2_isCell : List Cond := .code yX2_isCell cX2_isCell 3 (some .boolean) :: ([.fieldLink RX2 29 "BridgeCellsModel" "wide" "I", .fieldLink RX2 33 "BridgeCellsModel" "high" "I", .methodLink RX2 39 yX2_in, .static yX2_in, .initialized RX2, .code yX2_in cX2_in 3 (some .boolean)] ++ wsX20)
def wsX2_may : List Cond := .code yX2_may cX2_may 2 (some .boolean) :: ([.fieldLink RX2 36 "BridgeCellsModel" "fault" "I"] ++ wsX20)
def wsX2_box : List Cond := .code yX2_box cX2_box 8 (some .int) :: ([.fieldLink RX2 51 "BridgeCellsModel" "isSettled" "Z", .fieldLink RX2 7 "BridgeCellsModel" "leads" "[I", .methodLink RX2 43 yX2_isCell, .instanceMethod yX2_isCell, .selects RX2 yX2_isCell yX2_isCell, .initialized RX2, .code yX2_isCell cX2_isCell 3 (some .boolean), .fieldLink RX2 29 "BridgeCellsModel" "wide" "I", .fieldLink RX2 33 "BridgeCellsModel" "high" "I", .methodLink RX2 39 yX2_in, .static yX2_in, .code yX2_in cX2_in 3 (some .boolean), .methodLink RX2 47 yX2_may, .instanceMethod yX2_may, .selects RX2 yX2_may yX2_may, .code yX2_may cX2_may 2 (some .boolean), .fieldLink RX2 36 "BridgeCellsModel" "fault" "I"] ++ wsX20)
def wsX2_side : List Cond := .code yX2_side cX2_side 5 (some .int) :: ([.fieldLink RX2 51 "BridgeCellsModel" "isSettled" "Z", .fieldLink RX2 19 "BridgeCellsModel" "film" "[I", .fieldLink RX2 16 "BridgeCellsModel" "sideWarm" "[I", .methodLink RX2 39 yX2_in, .static yX2_in, .initialized RX2, .code yX2_in cX2_in 3 (some .boolean), .methodLink RX2 47 yX2_may, .instanceMethod yX2_may, .selects RX2 yX2_may yX2_may, .code yX2_may cX2_may 2 (some .boolean), .fieldLink RX2 36 "BridgeCellsModel" "fault" "I"] ++ wsX20)
def wsX2_leads : List Cond := .code yX2_leads cX2_leads 3 (some .int) :: ([.fieldLink RX2 7 "BridgeCellsModel" "leads" "[I", .methodLink RX2 43 yX2_isCell, .instanceMethod yX2_isCell, .selects RX2 yX2_isCell yX2_isCell, .initialized RX2, .code yX2_isCell cX2_isCell 3 (some .boolean), .fieldLink RX2 29 "BridgeCellsModel" "wide" "I", .fieldLink RX2 33 "BridgeCellsModel" "high" "I", .methodLink RX2 39 yX2_in, .static yX2_in, .code yX2_in cX2_in 3 (some .boolean), .methodLink RX2 47 yX2_may, .instanceMethod yX2_may, .selects RX2 yX2_may yX2_may, .code yX2_may cX2_may 2 (some .boolean), .fieldLink RX2 36 "BridgeCellsModel" "fault" "I"] ++ wsX20)
def wsX2_together : List Cond := .code yX2_together cX2_together 2 (some .int) :: ([])
def wsX2_addCell : List Cond := .code yX2_addCell cX2_addCell 5 none :: ([.fieldLink RX2 7 "BridgeCellsModel" "leads" "[I", .fieldLink RX2 59 "BridgeCellsModel" "products" "J", .fieldLink RX2 13 "BridgeCellsModel" "warm" "[I", .fieldLink RX2 63 "BridgeCellsModel" "weights" "J", .methodLink RX2 43 yX2_isCell, .instanceMethod yX2_isCell, .selects RX2 yX2_isCell yX2_isCell, .initialized RX2, .code yX2_isCell cX2_isCell 3 (some .boolean), .fieldLink RX2 29 "BridgeCellsModel" "wide" "I", .fieldLink RX2 33 "BridgeCellsModel" "high" "I", .methodLink RX2 39 yX2_in, .static yX2_in, .code yX2_in cX2_in 3 (some .boolean), .methodLink RX2 55 yX2_together, .static yX2_together, .code yX2_together cX2_together 2 (some .int)] ++ wsX20)
def wsX2_isBeside : List Cond := .code yX2_isBeside cX2_isBeside 4 (some .boolean) :: ([.fieldLink RX2 29 "BridgeCellsModel" "wide" "I", .fieldLink RX2 33 "BridgeCellsModel" "high" "I"] ++ wsX20)
def wsX2_made_r1 : List Cond := [Cond.fieldLink RX2 7 "BridgeCellsModel" "leads" "[I", Cond.fieldLink RX2 59 "BridgeCellsModel" "products" "J", Cond.fieldLink RX2 63 "BridgeCellsModel" "weights" "J", Cond.fieldLink RX2 19 "BridgeCellsModel" "film" "[I", Cond.fieldLink RX2 16 "BridgeCellsModel" "sideWarm" "[I", Cond.fieldLink RX2 73 "BridgeCellsModel" "low" "I", Cond.methodLink RX2 66 yX2_addCell, Cond.instanceMethod yX2_addCell, Cond.selects RX2 yX2_addCell yX2_addCell, Cond.initialized RX2, Cond.code yX2_addCell cX2_addCell 5 none, Cond.fieldLink RX2 13 "BridgeCellsModel" "warm" "[I", Cond.methodLink RX2 43 yX2_isCell, Cond.instanceMethod yX2_isCell, Cond.selects RX2 yX2_isCell yX2_isCell, Cond.code yX2_isCell cX2_isCell 3 (some .boolean), Cond.fieldLink RX2 29 "BridgeCellsModel" "wide" "I", Cond.fieldLink RX2 33 "BridgeCellsModel" "high" "I", Cond.methodLink RX2 39 yX2_in, Cond.static yX2_in, Cond.code yX2_in cX2_in 3 (some .boolean), Cond.methodLink RX2 55 yX2_together, Cond.static yX2_together, Cond.code yX2_together cX2_together 2 (some .int)]
def wsX2_made_r2 : List Cond := [Cond.methodLink RX2 70 yX2_isBeside, Cond.instanceMethod yX2_isBeside, Cond.selects RX2 yX2_isBeside yX2_isBeside, Cond.code yX2_isBeside cX2_isBeside 4 (some .boolean)]
def wsX2_made : List Cond := .code yX2_made cX2_made 6 (some .int) :: ((wsX2_made_r1 ++ wsX2_made_r2) ++ wsX20)
def wsX2_warms_r1 : List Cond := [Cond.fieldLink RX2 29 "BridgeCellsModel" "wide" "I", Cond.fieldLink RX2 7 "BridgeCellsModel" "leads" "[I", Cond.fieldLink RX2 13 "BridgeCellsModel" "warm" "[I", Cond.methodLink RX2 76 yX2_made, Cond.instanceMethod yX2_made, Cond.selects RX2 yX2_made yX2_made, Cond.initialized RX2, Cond.code yX2_made cX2_made 6 (some .int), Cond.fieldLink RX2 59 "BridgeCellsModel" "products" "J", Cond.fieldLink RX2 63 "BridgeCellsModel" "weights" "J", Cond.fieldLink RX2 19 "BridgeCellsModel" "film" "[I", Cond.fieldLink RX2 16 "BridgeCellsModel" "sideWarm" "[I", Cond.fieldLink RX2 73 "BridgeCellsModel" "low" "I", Cond.methodLink RX2 66 yX2_addCell, Cond.instanceMethod yX2_addCell, Cond.selects RX2 yX2_addCell yX2_addCell, Cond.code yX2_addCell cX2_addCell 5 none, Cond.methodLink RX2 43 yX2_isCell, Cond.instanceMethod yX2_isCell, Cond.selects RX2 yX2_isCell yX2_isCell, Cond.code yX2_isCell cX2_isCell 3 (some .boolean), Cond.fieldLink RX2 33 "BridgeCellsModel" "high" "I", Cond.methodLink RX2 39 yX2_in, Cond.static yX2_in]
def wsX2_warms_r2 : List Cond := [Cond.code yX2_in cX2_in 3 (some .boolean), Cond.methodLink RX2 55 yX2_together, Cond.static yX2_together, Cond.code yX2_together cX2_together 2 (some .int), Cond.methodLink RX2 70 yX2_isBeside, Cond.instanceMethod yX2_isBeside, Cond.selects RX2 yX2_isBeside yX2_isBeside, Cond.code yX2_isBeside cX2_isBeside 4 (some .boolean)]
def wsX2_warms : List Cond := .code yX2_warms cX2_warms 6 (some .boolean) :: ((wsX2_warms_r1 ++ wsX2_warms_r2) ++ wsX20)
def wsX2_settle_r1 : List Cond := [Cond.fieldLink RX2 51 "BridgeCellsModel" "isSettled" "Z", Cond.fieldLink RX2 73 "BridgeCellsModel" "low" "I", Cond.fieldLink RX2 79 "BridgeCellsModel" "top" "I", Cond.fieldLink RX2 19 "BridgeCellsModel" "film" "[I", Cond.fieldLink RX2 16 "BridgeCellsModel" "sideWarm" "[I", Cond.fieldLink RX2 13 "BridgeCellsModel" "warm" "[I", Cond.fieldLink RX2 29 "BridgeCellsModel" "wide" "I", Cond.fieldLink RX2 33 "BridgeCellsModel" "high" "I", Cond.methodLink RX2 82 yX2_warms, Cond.instanceMethod yX2_warms, Cond.selects RX2 yX2_warms yX2_warms, Cond.initialized RX2, Cond.code yX2_warms cX2_warms 6 (some .boolean), Cond.fieldLink RX2 7 "BridgeCellsModel" "leads" "[I", Cond.methodLink RX2 76 yX2_made, Cond.instanceMethod yX2_made, Cond.selects RX2 yX2_made yX2_made, Cond.code yX2_made cX2_made 6 (some .int), Cond.fieldLink RX2 59 "BridgeCellsModel" "products" "J", Cond.fieldLink RX2 63 "BridgeCellsModel" "weights" "J", Cond.methodLink RX2 66 yX2_addCell, Cond.instanceMethod yX2_addCell, Cond.selects RX2 yX2_addCell yX2_addCell, Cond.code yX2_addCell cX2_addCell 5 none]
def wsX2_settle_r2 : List Cond := [Cond.methodLink RX2 43 yX2_isCell, Cond.instanceMethod yX2_isCell, Cond.selects RX2 yX2_isCell yX2_isCell, Cond.code yX2_isCell cX2_isCell 3 (some .boolean), Cond.methodLink RX2 39 yX2_in, Cond.static yX2_in, Cond.code yX2_in cX2_in 3 (some .boolean), Cond.methodLink RX2 55 yX2_together, Cond.static yX2_together, Cond.code yX2_together cX2_together 2 (some .int), Cond.methodLink RX2 70 yX2_isBeside, Cond.instanceMethod yX2_isBeside, Cond.selects RX2 yX2_isBeside yX2_isBeside, Cond.code yX2_isBeside cX2_isBeside 4 (some .boolean)]
def wsX2_settle : List Cond := .code yX2_settle cX2_settle 4 none :: ((wsX2_settle_r1 ++ wsX2_settle_r2) ++ wsX20)
def wsX2_warmthOf : List Cond := .code yX2_warmthOf cX2_warmthOf 3 (some .int) :: ([.fieldLink RX2 7 "BridgeCellsModel" "leads" "[I", .fieldLink RX2 13 "BridgeCellsModel" "warm" "[I", .constant RX2 86 (-1000000)] ++ wsX20)
def wsX2_warmth_r1 : List Cond := [Cond.methodLink RX2 43 yX2_isCell, Cond.instanceMethod yX2_isCell, Cond.selects RX2 yX2_isCell yX2_isCell, Cond.initialized RX2, Cond.code yX2_isCell cX2_isCell 3 (some .boolean), Cond.fieldLink RX2 29 "BridgeCellsModel" "wide" "I", Cond.fieldLink RX2 33 "BridgeCellsModel" "high" "I", Cond.methodLink RX2 39 yX2_in, Cond.static yX2_in, Cond.code yX2_in cX2_in 3 (some .boolean), Cond.methodLink RX2 47 yX2_may, Cond.instanceMethod yX2_may, Cond.selects RX2 yX2_may yX2_may, Cond.code yX2_may cX2_may 2 (some .boolean), Cond.fieldLink RX2 36 "BridgeCellsModel" "fault" "I", Cond.methodLink RX2 87 yX2_settle, Cond.instanceMethod yX2_settle, Cond.selects RX2 yX2_settle yX2_settle, Cond.code yX2_settle cX2_settle 4 none, Cond.fieldLink RX2 51 "BridgeCellsModel" "isSettled" "Z", Cond.fieldLink RX2 73 "BridgeCellsModel" "low" "I", Cond.fieldLink RX2 79 "BridgeCellsModel" "top" "I", Cond.fieldLink RX2 19 "BridgeCellsModel" "film" "[I", Cond.fieldLink RX2 16 "BridgeCellsModel" "sideWarm" "[I"]
def wsX2_warmth_r2 : List Cond := [Cond.fieldLink RX2 13 "BridgeCellsModel" "warm" "[I", Cond.methodLink RX2 82 yX2_warms, Cond.instanceMethod yX2_warms, Cond.selects RX2 yX2_warms yX2_warms, Cond.code yX2_warms cX2_warms 6 (some .boolean), Cond.fieldLink RX2 7 "BridgeCellsModel" "leads" "[I", Cond.methodLink RX2 76 yX2_made, Cond.instanceMethod yX2_made, Cond.selects RX2 yX2_made yX2_made, Cond.code yX2_made cX2_made 6 (some .int), Cond.fieldLink RX2 59 "BridgeCellsModel" "products" "J", Cond.fieldLink RX2 63 "BridgeCellsModel" "weights" "J", Cond.methodLink RX2 66 yX2_addCell, Cond.instanceMethod yX2_addCell, Cond.selects RX2 yX2_addCell yX2_addCell, Cond.code yX2_addCell cX2_addCell 5 none, Cond.methodLink RX2 55 yX2_together, Cond.static yX2_together, Cond.code yX2_together cX2_together 2 (some .int), Cond.methodLink RX2 70 yX2_isBeside, Cond.instanceMethod yX2_isBeside, Cond.selects RX2 yX2_isBeside yX2_isBeside, Cond.code yX2_isBeside cX2_isBeside 4 (some .boolean), Cond.methodLink RX2 90 yX2_warmthOf]
def wsX2_warmth_r3 : List Cond := [Cond.instanceMethod yX2_warmthOf, Cond.selects RX2 yX2_warmthOf yX2_warmthOf, Cond.code yX2_warmthOf cX2_warmthOf 3 (some .int), Cond.constant RX2 86 (-1000000)]
def wsX2_warmth : List Cond := .code yX2_warmth cX2_warmth 3 (some .int) :: ((wsX2_warmth_r1 ++ (wsX2_warmth_r2 ++ wsX2_warmth_r3)) ++ wsX20)
def wsX2_flowOf : List Cond := .code yX2_flowOf cX2_flowOf 6 (some .long) :: ([.fieldLink RX2 33 "BridgeCellsModel" "high" "I", .fieldLink RX2 29 "BridgeCellsModel" "wide" "I", .fieldLink RX2 7 "BridgeCellsModel" "leads" "[I", .fieldLink RX2 19 "BridgeCellsModel" "film" "[I", .fieldLink RX2 16 "BridgeCellsModel" "sideWarm" "[I", .fieldLink RX2 13 "BridgeCellsModel" "warm" "[I", .methodLink RX2 70 yX2_isBeside, .instanceMethod yX2_isBeside, .selects RX2 yX2_isBeside yX2_isBeside, .initialized RX2, .code yX2_isBeside cX2_isBeside 4 (some .boolean), .methodLink RX2 55 yX2_together, .static yX2_together, .code yX2_together cX2_together 2 (some .int)] ++ wsX20)
def wsX2_flow_r1 : List Cond := [Cond.methodLink RX2 39 yX2_in, Cond.static yX2_in, Cond.initialized RX2, Cond.code yX2_in cX2_in 3 (some .boolean), Cond.methodLink RX2 47 yX2_may, Cond.instanceMethod yX2_may, Cond.selects RX2 yX2_may yX2_may, Cond.code yX2_may cX2_may 2 (some .boolean), Cond.fieldLink RX2 36 "BridgeCellsModel" "fault" "I", Cond.methodLink RX2 87 yX2_settle, Cond.instanceMethod yX2_settle, Cond.selects RX2 yX2_settle yX2_settle, Cond.code yX2_settle cX2_settle 4 none, Cond.fieldLink RX2 51 "BridgeCellsModel" "isSettled" "Z", Cond.fieldLink RX2 73 "BridgeCellsModel" "low" "I", Cond.fieldLink RX2 79 "BridgeCellsModel" "top" "I", Cond.fieldLink RX2 19 "BridgeCellsModel" "film" "[I", Cond.fieldLink RX2 16 "BridgeCellsModel" "sideWarm" "[I", Cond.fieldLink RX2 13 "BridgeCellsModel" "warm" "[I", Cond.fieldLink RX2 29 "BridgeCellsModel" "wide" "I", Cond.fieldLink RX2 33 "BridgeCellsModel" "high" "I", Cond.methodLink RX2 82 yX2_warms, Cond.instanceMethod yX2_warms, Cond.selects RX2 yX2_warms yX2_warms]
def wsX2_flow_r2 : List Cond := [Cond.code yX2_warms cX2_warms 6 (some .boolean), Cond.fieldLink RX2 7 "BridgeCellsModel" "leads" "[I", Cond.methodLink RX2 76 yX2_made, Cond.instanceMethod yX2_made, Cond.selects RX2 yX2_made yX2_made, Cond.code yX2_made cX2_made 6 (some .int), Cond.fieldLink RX2 59 "BridgeCellsModel" "products" "J", Cond.fieldLink RX2 63 "BridgeCellsModel" "weights" "J", Cond.methodLink RX2 66 yX2_addCell, Cond.instanceMethod yX2_addCell, Cond.selects RX2 yX2_addCell yX2_addCell, Cond.code yX2_addCell cX2_addCell 5 none, Cond.methodLink RX2 43 yX2_isCell, Cond.instanceMethod yX2_isCell, Cond.selects RX2 yX2_isCell yX2_isCell, Cond.code yX2_isCell cX2_isCell 3 (some .boolean), Cond.methodLink RX2 55 yX2_together, Cond.static yX2_together, Cond.code yX2_together cX2_together 2 (some .int), Cond.methodLink RX2 70 yX2_isBeside, Cond.instanceMethod yX2_isBeside, Cond.selects RX2 yX2_isBeside yX2_isBeside, Cond.code yX2_isBeside cX2_isBeside 4 (some .boolean), Cond.methodLink RX2 93 yX2_flowOf]
def wsX2_flow_r3 : List Cond := [Cond.instanceMethod yX2_flowOf, Cond.selects RX2 yX2_flowOf yX2_flowOf, Cond.code yX2_flowOf cX2_flowOf 6 (some .long)]
def wsX2_flow : List Cond := .code yX2_flow cX2_flow 2 (some .long) :: ((wsX2_flow_r1 ++ (wsX2_flow_r2 ++ wsX2_flow_r3)) ++ wsX20)
def wsX2_heat_r1 : List Cond := [Cond.methodLink RX2 87 yX2_settle, Cond.instanceMethod yX2_settle, Cond.selects RX2 yX2_settle yX2_settle, Cond.initialized RX2, Cond.code yX2_settle cX2_settle 4 none, Cond.fieldLink RX2 51 "BridgeCellsModel" "isSettled" "Z", Cond.fieldLink RX2 73 "BridgeCellsModel" "low" "I", Cond.fieldLink RX2 79 "BridgeCellsModel" "top" "I", Cond.fieldLink RX2 19 "BridgeCellsModel" "film" "[I", Cond.fieldLink RX2 16 "BridgeCellsModel" "sideWarm" "[I", Cond.fieldLink RX2 13 "BridgeCellsModel" "warm" "[I", Cond.fieldLink RX2 29 "BridgeCellsModel" "wide" "I", Cond.fieldLink RX2 33 "BridgeCellsModel" "high" "I", Cond.methodLink RX2 82 yX2_warms, Cond.instanceMethod yX2_warms, Cond.selects RX2 yX2_warms yX2_warms, Cond.code yX2_warms cX2_warms 6 (some .boolean), Cond.fieldLink RX2 7 "BridgeCellsModel" "leads" "[I", Cond.methodLink RX2 76 yX2_made, Cond.instanceMethod yX2_made, Cond.selects RX2 yX2_made yX2_made, Cond.code yX2_made cX2_made 6 (some .int), Cond.fieldLink RX2 59 "BridgeCellsModel" "products" "J", Cond.fieldLink RX2 63 "BridgeCellsModel" "weights" "J"]
def wsX2_heat_r2 : List Cond := [Cond.methodLink RX2 66 yX2_addCell, Cond.instanceMethod yX2_addCell, Cond.selects RX2 yX2_addCell yX2_addCell, Cond.code yX2_addCell cX2_addCell 5 none, Cond.methodLink RX2 43 yX2_isCell, Cond.instanceMethod yX2_isCell, Cond.selects RX2 yX2_isCell yX2_isCell, Cond.code yX2_isCell cX2_isCell 3 (some .boolean), Cond.methodLink RX2 39 yX2_in, Cond.static yX2_in, Cond.code yX2_in cX2_in 3 (some .boolean), Cond.methodLink RX2 55 yX2_together, Cond.static yX2_together, Cond.code yX2_together cX2_together 2 (some .int), Cond.methodLink RX2 70 yX2_isBeside, Cond.instanceMethod yX2_isBeside, Cond.selects RX2 yX2_isBeside yX2_isBeside, Cond.code yX2_isBeside cX2_isBeside 4 (some .boolean), Cond.methodLink RX2 93 yX2_flowOf, Cond.instanceMethod yX2_flowOf, Cond.selects RX2 yX2_flowOf yX2_flowOf, Cond.code yX2_flowOf cX2_flowOf 6 (some .long)]
def wsX2_heat : List Cond := .code yX2_heat cX2_heat 4 (some .long) :: ((wsX2_heat_r1 ++ wsX2_heat_r2) ++ wsX20)
def wsX2_told_r1 : List Cond := [Cond.fieldLink RX2 33 "BridgeCellsModel" "high" "I", Cond.fieldLink RX2 29 "BridgeCellsModel" "wide" "I", Cond.fieldLink RX2 7 "BridgeCellsModel" "leads" "[I", Cond.fieldLink RX2 13 "BridgeCellsModel" "warm" "[I", Cond.fieldLink RX2 63 "BridgeCellsModel" "weights" "J", Cond.methodLink RX2 39 yX2_in, Cond.static yX2_in, Cond.initialized RX2, Cond.code yX2_in cX2_in 3 (some .boolean), Cond.methodLink RX2 47 yX2_may, Cond.instanceMethod yX2_may, Cond.selects RX2 yX2_may yX2_may, Cond.code yX2_may cX2_may 2 (some .boolean), Cond.fieldLink RX2 36 "BridgeCellsModel" "fault" "I", Cond.methodLink RX2 97 yX2_heat, Cond.instanceMethod yX2_heat, Cond.selects RX2 yX2_heat yX2_heat, Cond.code yX2_heat cX2_heat 4 (some .long), Cond.methodLink RX2 87 yX2_settle, Cond.instanceMethod yX2_settle, Cond.selects RX2 yX2_settle yX2_settle, Cond.code yX2_settle cX2_settle 4 none, Cond.fieldLink RX2 51 "BridgeCellsModel" "isSettled" "Z", Cond.fieldLink RX2 73 "BridgeCellsModel" "low" "I"]
def wsX2_told_r2 : List Cond := [Cond.fieldLink RX2 79 "BridgeCellsModel" "top" "I", Cond.fieldLink RX2 19 "BridgeCellsModel" "film" "[I", Cond.fieldLink RX2 16 "BridgeCellsModel" "sideWarm" "[I", Cond.methodLink RX2 82 yX2_warms, Cond.instanceMethod yX2_warms, Cond.selects RX2 yX2_warms yX2_warms, Cond.code yX2_warms cX2_warms 6 (some .boolean), Cond.methodLink RX2 76 yX2_made, Cond.instanceMethod yX2_made, Cond.selects RX2 yX2_made yX2_made, Cond.code yX2_made cX2_made 6 (some .int), Cond.fieldLink RX2 59 "BridgeCellsModel" "products" "J", Cond.methodLink RX2 66 yX2_addCell, Cond.instanceMethod yX2_addCell, Cond.selects RX2 yX2_addCell yX2_addCell, Cond.code yX2_addCell cX2_addCell 5 none, Cond.methodLink RX2 43 yX2_isCell, Cond.instanceMethod yX2_isCell, Cond.selects RX2 yX2_isCell yX2_isCell, Cond.code yX2_isCell cX2_isCell 3 (some .boolean), Cond.methodLink RX2 55 yX2_together, Cond.static yX2_together, Cond.code yX2_together cX2_together 2 (some .int), Cond.methodLink RX2 70 yX2_isBeside]
def wsX2_told_r3 : List Cond := [Cond.instanceMethod yX2_isBeside, Cond.selects RX2 yX2_isBeside yX2_isBeside, Cond.code yX2_isBeside cX2_isBeside 4 (some .boolean), Cond.methodLink RX2 93 yX2_flowOf, Cond.instanceMethod yX2_flowOf, Cond.selects RX2 yX2_flowOf yX2_flowOf, Cond.code yX2_flowOf cX2_flowOf 6 (some .long)]
def wsX2_told : List Cond := .code yX2_told cX2_told 7 (some .long) :: ((wsX2_told_r1 ++ (wsX2_told_r2 ++ wsX2_told_r3)) ++ wsX20)
def wsX2_faceOf : List Cond := .code yX2_faceOf cX2_faceOf 3 (some .int) :: ([.fieldLink RX2 29 "BridgeCellsModel" "wide" "I", .fieldLink RX2 33 "BridgeCellsModel" "high" "I", .methodLink RX2 90 yX2_warmthOf, .instanceMethod yX2_warmthOf, .selects RX2 yX2_warmthOf yX2_warmthOf, .initialized RX2, .code yX2_warmthOf cX2_warmthOf 3 (some .int), .fieldLink RX2 7 "BridgeCellsModel" "leads" "[I", .fieldLink RX2 13 "BridgeCellsModel" "warm" "[I", .constant RX2 86 (-1000000)] ++ wsX20)
def wsX2_coldest_r1 : List Cond := [Cond.fieldLink RX2 29 "BridgeCellsModel" "wide" "I", Cond.fieldLink RX2 33 "BridgeCellsModel" "high" "I", Cond.constant RX2 86 (-1000000), Cond.methodLink RX2 87 yX2_settle, Cond.instanceMethod yX2_settle, Cond.selects RX2 yX2_settle yX2_settle, Cond.initialized RX2, Cond.code yX2_settle cX2_settle 4 none, Cond.fieldLink RX2 51 "BridgeCellsModel" "isSettled" "Z", Cond.fieldLink RX2 73 "BridgeCellsModel" "low" "I", Cond.fieldLink RX2 79 "BridgeCellsModel" "top" "I", Cond.fieldLink RX2 19 "BridgeCellsModel" "film" "[I", Cond.fieldLink RX2 16 "BridgeCellsModel" "sideWarm" "[I", Cond.fieldLink RX2 13 "BridgeCellsModel" "warm" "[I", Cond.methodLink RX2 82 yX2_warms, Cond.instanceMethod yX2_warms, Cond.selects RX2 yX2_warms yX2_warms, Cond.code yX2_warms cX2_warms 6 (some .boolean), Cond.fieldLink RX2 7 "BridgeCellsModel" "leads" "[I", Cond.methodLink RX2 76 yX2_made, Cond.instanceMethod yX2_made, Cond.selects RX2 yX2_made yX2_made, Cond.code yX2_made cX2_made 6 (some .int), Cond.fieldLink RX2 59 "BridgeCellsModel" "products" "J"]
def wsX2_coldest_r2 : List Cond := [Cond.fieldLink RX2 63 "BridgeCellsModel" "weights" "J", Cond.methodLink RX2 66 yX2_addCell, Cond.instanceMethod yX2_addCell, Cond.selects RX2 yX2_addCell yX2_addCell, Cond.code yX2_addCell cX2_addCell 5 none, Cond.methodLink RX2 43 yX2_isCell, Cond.instanceMethod yX2_isCell, Cond.selects RX2 yX2_isCell yX2_isCell, Cond.code yX2_isCell cX2_isCell 3 (some .boolean), Cond.methodLink RX2 39 yX2_in, Cond.static yX2_in, Cond.code yX2_in cX2_in 3 (some .boolean), Cond.methodLink RX2 55 yX2_together, Cond.static yX2_together, Cond.code yX2_together cX2_together 2 (some .int), Cond.methodLink RX2 70 yX2_isBeside, Cond.instanceMethod yX2_isBeside, Cond.selects RX2 yX2_isBeside yX2_isBeside, Cond.code yX2_isBeside cX2_isBeside 4 (some .boolean), Cond.methodLink RX2 101 yX2_faceOf, Cond.instanceMethod yX2_faceOf, Cond.selects RX2 yX2_faceOf yX2_faceOf, Cond.code yX2_faceOf cX2_faceOf 3 (some .int), Cond.methodLink RX2 90 yX2_warmthOf]
def wsX2_coldest_r3 : List Cond := [Cond.instanceMethod yX2_warmthOf, Cond.selects RX2 yX2_warmthOf yX2_warmthOf, Cond.code yX2_warmthOf cX2_warmthOf 3 (some .int)]
def wsX2_coldest : List Cond := .code yX2_coldest cX2_coldest 5 (some .int) :: ((wsX2_coldest_r1 ++ (wsX2_coldest_r2 ++ wsX2_coldest_r3)) ++ wsX20)
def wsX2_least_r1 : List Cond := [Cond.constant RX2 86 (-1000000), Cond.methodLink RX2 39 yX2_in, Cond.static yX2_in, Cond.initialized RX2, Cond.code yX2_in cX2_in 3 (some .boolean), Cond.methodLink RX2 47 yX2_may, Cond.instanceMethod yX2_may, Cond.selects RX2 yX2_may yX2_may, Cond.code yX2_may cX2_may 2 (some .boolean), Cond.fieldLink RX2 36 "BridgeCellsModel" "fault" "I", Cond.methodLink RX2 104 yX2_coldest, Cond.instanceMethod yX2_coldest, Cond.selects RX2 yX2_coldest yX2_coldest, Cond.code yX2_coldest cX2_coldest 5 (some .int), Cond.fieldLink RX2 29 "BridgeCellsModel" "wide" "I", Cond.fieldLink RX2 33 "BridgeCellsModel" "high" "I", Cond.methodLink RX2 87 yX2_settle, Cond.instanceMethod yX2_settle, Cond.selects RX2 yX2_settle yX2_settle, Cond.code yX2_settle cX2_settle 4 none, Cond.fieldLink RX2 51 "BridgeCellsModel" "isSettled" "Z", Cond.fieldLink RX2 73 "BridgeCellsModel" "low" "I", Cond.fieldLink RX2 79 "BridgeCellsModel" "top" "I", Cond.fieldLink RX2 19 "BridgeCellsModel" "film" "[I"]
def wsX2_least_r2 : List Cond := [Cond.fieldLink RX2 16 "BridgeCellsModel" "sideWarm" "[I", Cond.fieldLink RX2 13 "BridgeCellsModel" "warm" "[I", Cond.methodLink RX2 82 yX2_warms, Cond.instanceMethod yX2_warms, Cond.selects RX2 yX2_warms yX2_warms, Cond.code yX2_warms cX2_warms 6 (some .boolean), Cond.fieldLink RX2 7 "BridgeCellsModel" "leads" "[I", Cond.methodLink RX2 76 yX2_made, Cond.instanceMethod yX2_made, Cond.selects RX2 yX2_made yX2_made, Cond.code yX2_made cX2_made 6 (some .int), Cond.fieldLink RX2 59 "BridgeCellsModel" "products" "J", Cond.fieldLink RX2 63 "BridgeCellsModel" "weights" "J", Cond.methodLink RX2 66 yX2_addCell, Cond.instanceMethod yX2_addCell, Cond.selects RX2 yX2_addCell yX2_addCell, Cond.code yX2_addCell cX2_addCell 5 none, Cond.methodLink RX2 43 yX2_isCell, Cond.instanceMethod yX2_isCell, Cond.selects RX2 yX2_isCell yX2_isCell, Cond.code yX2_isCell cX2_isCell 3 (some .boolean), Cond.methodLink RX2 55 yX2_together, Cond.static yX2_together, Cond.code yX2_together cX2_together 2 (some .int)]
def wsX2_least_r3 : List Cond := [Cond.methodLink RX2 70 yX2_isBeside, Cond.instanceMethod yX2_isBeside, Cond.selects RX2 yX2_isBeside yX2_isBeside, Cond.code yX2_isBeside cX2_isBeside 4 (some .boolean), Cond.methodLink RX2 101 yX2_faceOf, Cond.instanceMethod yX2_faceOf, Cond.selects RX2 yX2_faceOf yX2_faceOf, Cond.code yX2_faceOf cX2_faceOf 3 (some .int), Cond.methodLink RX2 90 yX2_warmthOf, Cond.instanceMethod yX2_warmthOf, Cond.selects RX2 yX2_warmthOf yX2_warmthOf, Cond.code yX2_warmthOf cX2_warmthOf 3 (some .int)]
def wsX2_least : List Cond := .code yX2_least cX2_least 4 (some .int) :: ((wsX2_least_r1 ++ (wsX2_least_r2 ++ wsX2_least_r3)) ++ wsX20)
def wsX2_factor_r1 : List Cond := [Cond.fieldLink RX2 73 "BridgeCellsModel" "low" "I", Cond.fieldLink RX2 79 "BridgeCellsModel" "top" "I", Cond.methodLink RX2 39 yX2_in, Cond.static yX2_in, Cond.initialized RX2, Cond.code yX2_in cX2_in 3 (some .boolean), Cond.methodLink RX2 47 yX2_may, Cond.instanceMethod yX2_may, Cond.selects RX2 yX2_may yX2_may, Cond.code yX2_may cX2_may 2 (some .boolean), Cond.fieldLink RX2 36 "BridgeCellsModel" "fault" "I", Cond.methodLink RX2 104 yX2_coldest, Cond.instanceMethod yX2_coldest, Cond.selects RX2 yX2_coldest yX2_coldest, Cond.code yX2_coldest cX2_coldest 5 (some .int), Cond.fieldLink RX2 29 "BridgeCellsModel" "wide" "I", Cond.fieldLink RX2 33 "BridgeCellsModel" "high" "I", Cond.constant RX2 86 (-1000000), Cond.methodLink RX2 87 yX2_settle, Cond.instanceMethod yX2_settle, Cond.selects RX2 yX2_settle yX2_settle, Cond.code yX2_settle cX2_settle 4 none, Cond.fieldLink RX2 51 "BridgeCellsModel" "isSettled" "Z", Cond.fieldLink RX2 19 "BridgeCellsModel" "film" "[I"]
def wsX2_factor_r2 : List Cond := [Cond.fieldLink RX2 16 "BridgeCellsModel" "sideWarm" "[I", Cond.fieldLink RX2 13 "BridgeCellsModel" "warm" "[I", Cond.methodLink RX2 82 yX2_warms, Cond.instanceMethod yX2_warms, Cond.selects RX2 yX2_warms yX2_warms, Cond.code yX2_warms cX2_warms 6 (some .boolean), Cond.fieldLink RX2 7 "BridgeCellsModel" "leads" "[I", Cond.methodLink RX2 76 yX2_made, Cond.instanceMethod yX2_made, Cond.selects RX2 yX2_made yX2_made, Cond.code yX2_made cX2_made 6 (some .int), Cond.fieldLink RX2 59 "BridgeCellsModel" "products" "J", Cond.fieldLink RX2 63 "BridgeCellsModel" "weights" "J", Cond.methodLink RX2 66 yX2_addCell, Cond.instanceMethod yX2_addCell, Cond.selects RX2 yX2_addCell yX2_addCell, Cond.code yX2_addCell cX2_addCell 5 none, Cond.methodLink RX2 43 yX2_isCell, Cond.instanceMethod yX2_isCell, Cond.selects RX2 yX2_isCell yX2_isCell, Cond.code yX2_isCell cX2_isCell 3 (some .boolean), Cond.methodLink RX2 55 yX2_together, Cond.static yX2_together, Cond.code yX2_together cX2_together 2 (some .int)]
def wsX2_factor_r3 : List Cond := [Cond.methodLink RX2 70 yX2_isBeside, Cond.instanceMethod yX2_isBeside, Cond.selects RX2 yX2_isBeside yX2_isBeside, Cond.code yX2_isBeside cX2_isBeside 4 (some .boolean), Cond.methodLink RX2 101 yX2_faceOf, Cond.instanceMethod yX2_faceOf, Cond.selects RX2 yX2_faceOf yX2_faceOf, Cond.code yX2_faceOf cX2_faceOf 3 (some .int), Cond.methodLink RX2 90 yX2_warmthOf, Cond.instanceMethod yX2_warmthOf, Cond.selects RX2 yX2_warmthOf yX2_warmthOf, Cond.code yX2_warmthOf cX2_warmthOf 3 (some .int)]
def wsX2_factor : List Cond := .code yX2_factor cX2_factor 9 (some .int) :: ((wsX2_factor_r1 ++ (wsX2_factor_r2 ++ wsX2_factor_r3)) ++ wsX20)
def wsX2_colder_r1 : List Cond := [Cond.fieldLink RX2 33 "BridgeCellsModel" "high" "I", Cond.fieldLink RX2 29 "BridgeCellsModel" "wide" "I", Cond.fieldLink RX2 7 "BridgeCellsModel" "leads" "[I", Cond.fieldLink RX2 13 "BridgeCellsModel" "warm" "[I", Cond.methodLink RX2 39 yX2_in, Cond.static yX2_in, Cond.initialized RX2, Cond.code yX2_in cX2_in 3 (some .boolean), Cond.methodLink RX2 47 yX2_may, Cond.instanceMethod yX2_may, Cond.selects RX2 yX2_may yX2_may, Cond.code yX2_may cX2_may 2 (some .boolean), Cond.fieldLink RX2 36 "BridgeCellsModel" "fault" "I", Cond.methodLink RX2 87 yX2_settle, Cond.instanceMethod yX2_settle, Cond.selects RX2 yX2_settle yX2_settle, Cond.code yX2_settle cX2_settle 4 none, Cond.fieldLink RX2 51 "BridgeCellsModel" "isSettled" "Z", Cond.fieldLink RX2 73 "BridgeCellsModel" "low" "I", Cond.fieldLink RX2 79 "BridgeCellsModel" "top" "I", Cond.fieldLink RX2 19 "BridgeCellsModel" "film" "[I", Cond.fieldLink RX2 16 "BridgeCellsModel" "sideWarm" "[I", Cond.methodLink RX2 82 yX2_warms, Cond.instanceMethod yX2_warms]
def wsX2_colder_r2 : List Cond := [Cond.selects RX2 yX2_warms yX2_warms, Cond.code yX2_warms cX2_warms 6 (some .boolean), Cond.methodLink RX2 76 yX2_made, Cond.instanceMethod yX2_made, Cond.selects RX2 yX2_made yX2_made, Cond.code yX2_made cX2_made 6 (some .int), Cond.fieldLink RX2 59 "BridgeCellsModel" "products" "J", Cond.fieldLink RX2 63 "BridgeCellsModel" "weights" "J", Cond.methodLink RX2 66 yX2_addCell, Cond.instanceMethod yX2_addCell, Cond.selects RX2 yX2_addCell yX2_addCell, Cond.code yX2_addCell cX2_addCell 5 none, Cond.methodLink RX2 43 yX2_isCell, Cond.instanceMethod yX2_isCell, Cond.selects RX2 yX2_isCell yX2_isCell, Cond.code yX2_isCell cX2_isCell 3 (some .boolean), Cond.methodLink RX2 55 yX2_together, Cond.static yX2_together, Cond.code yX2_together cX2_together 2 (some .int), Cond.methodLink RX2 70 yX2_isBeside, Cond.instanceMethod yX2_isBeside, Cond.selects RX2 yX2_isBeside yX2_isBeside, Cond.code yX2_isBeside cX2_isBeside 4 (some .boolean)]
def wsX2_colder : List Cond := .code yX2_colder cX2_colder 5 (some .int) :: ((wsX2_colder_r1 ++ wsX2_colder_r2) ++ wsX20)
def wsX2_mirrored_r1 : List Cond := [Cond.fieldLink RX2 33 "BridgeCellsModel" "high" "I", Cond.fieldLink RX2 29 "BridgeCellsModel" "wide" "I", Cond.methodLink RX2 39 yX2_in, Cond.static yX2_in, Cond.initialized RX2, Cond.code yX2_in cX2_in 3 (some .boolean), Cond.methodLink RX2 47 yX2_may, Cond.instanceMethod yX2_may, Cond.selects RX2 yX2_may yX2_may, Cond.code yX2_may cX2_may 2 (some .boolean), Cond.fieldLink RX2 36 "BridgeCellsModel" "fault" "I", Cond.methodLink RX2 87 yX2_settle, Cond.instanceMethod yX2_settle, Cond.selects RX2 yX2_settle yX2_settle, Cond.code yX2_settle cX2_settle 4 none, Cond.fieldLink RX2 51 "BridgeCellsModel" "isSettled" "Z", Cond.fieldLink RX2 73 "BridgeCellsModel" "low" "I", Cond.fieldLink RX2 79 "BridgeCellsModel" "top" "I", Cond.fieldLink RX2 19 "BridgeCellsModel" "film" "[I", Cond.fieldLink RX2 16 "BridgeCellsModel" "sideWarm" "[I", Cond.fieldLink RX2 13 "BridgeCellsModel" "warm" "[I", Cond.methodLink RX2 82 yX2_warms, Cond.instanceMethod yX2_warms, Cond.selects RX2 yX2_warms yX2_warms]
def wsX2_mirrored_r2 : List Cond := [Cond.code yX2_warms cX2_warms 6 (some .boolean), Cond.fieldLink RX2 7 "BridgeCellsModel" "leads" "[I", Cond.methodLink RX2 76 yX2_made, Cond.instanceMethod yX2_made, Cond.selects RX2 yX2_made yX2_made, Cond.code yX2_made cX2_made 6 (some .int), Cond.fieldLink RX2 59 "BridgeCellsModel" "products" "J", Cond.fieldLink RX2 63 "BridgeCellsModel" "weights" "J", Cond.methodLink RX2 66 yX2_addCell, Cond.instanceMethod yX2_addCell, Cond.selects RX2 yX2_addCell yX2_addCell, Cond.code yX2_addCell cX2_addCell 5 none, Cond.methodLink RX2 43 yX2_isCell, Cond.instanceMethod yX2_isCell, Cond.selects RX2 yX2_isCell yX2_isCell, Cond.code yX2_isCell cX2_isCell 3 (some .boolean), Cond.methodLink RX2 55 yX2_together, Cond.static yX2_together, Cond.code yX2_together cX2_together 2 (some .int), Cond.methodLink RX2 70 yX2_isBeside, Cond.instanceMethod yX2_isBeside, Cond.selects RX2 yX2_isBeside yX2_isBeside, Cond.code yX2_isBeside cX2_isBeside 4 (some .boolean), Cond.methodLink RX2 90 yX2_warmthOf]
def wsX2_mirrored_r3 : List Cond := [Cond.instanceMethod yX2_warmthOf, Cond.selects RX2 yX2_warmthOf yX2_warmthOf, Cond.code yX2_warmthOf cX2_warmthOf 3 (some .int), Cond.constant RX2 86 (-1000000)]
def wsX2_mirrored : List Cond := .code yX2_mirrored cX2_mirrored 5 (some .boolean) :: ((wsX2_mirrored_r1 ++ (wsX2_mirrored_r2 ++ wsX2_mirrored_r3)) ++ wsX20)
def wsX2_joint_r1 : List Cond := [Cond.fieldLink RX2 108 "BridgeCellsModel" "joints" "I", Cond.fieldLink RX2 22 "BridgeCellsModel" "heats" "[J", Cond.fieldLink RX2 26 "BridgeCellsModel" "lengths" "[I", Cond.methodLink RX2 47 yX2_may, Cond.instanceMethod yX2_may, Cond.selects RX2 yX2_may yX2_may, Cond.initialized RX2, Cond.code yX2_may cX2_may 2 (some .boolean), Cond.fieldLink RX2 36 "BridgeCellsModel" "fault" "I", Cond.methodLink RX2 97 yX2_heat, Cond.instanceMethod yX2_heat, Cond.selects RX2 yX2_heat yX2_heat, Cond.code yX2_heat cX2_heat 4 (some .long), Cond.methodLink RX2 87 yX2_settle, Cond.instanceMethod yX2_settle, Cond.selects RX2 yX2_settle yX2_settle, Cond.code yX2_settle cX2_settle 4 none, Cond.fieldLink RX2 51 "BridgeCellsModel" "isSettled" "Z", Cond.fieldLink RX2 73 "BridgeCellsModel" "low" "I", Cond.fieldLink RX2 79 "BridgeCellsModel" "top" "I", Cond.fieldLink RX2 19 "BridgeCellsModel" "film" "[I", Cond.fieldLink RX2 16 "BridgeCellsModel" "sideWarm" "[I", Cond.fieldLink RX2 13 "BridgeCellsModel" "warm" "[I", Cond.fieldLink RX2 29 "BridgeCellsModel" "wide" "I"]
def wsX2_joint_r2 : List Cond := [Cond.fieldLink RX2 33 "BridgeCellsModel" "high" "I", Cond.methodLink RX2 82 yX2_warms, Cond.instanceMethod yX2_warms, Cond.selects RX2 yX2_warms yX2_warms, Cond.code yX2_warms cX2_warms 6 (some .boolean), Cond.fieldLink RX2 7 "BridgeCellsModel" "leads" "[I", Cond.methodLink RX2 76 yX2_made, Cond.instanceMethod yX2_made, Cond.selects RX2 yX2_made yX2_made, Cond.code yX2_made cX2_made 6 (some .int), Cond.fieldLink RX2 59 "BridgeCellsModel" "products" "J", Cond.fieldLink RX2 63 "BridgeCellsModel" "weights" "J", Cond.methodLink RX2 66 yX2_addCell, Cond.instanceMethod yX2_addCell, Cond.selects RX2 yX2_addCell yX2_addCell, Cond.code yX2_addCell cX2_addCell 5 none, Cond.methodLink RX2 43 yX2_isCell, Cond.instanceMethod yX2_isCell, Cond.selects RX2 yX2_isCell yX2_isCell, Cond.code yX2_isCell cX2_isCell 3 (some .boolean), Cond.methodLink RX2 39 yX2_in, Cond.static yX2_in, Cond.code yX2_in cX2_in 3 (some .boolean), Cond.methodLink RX2 55 yX2_together]
def wsX2_joint_r3 : List Cond := [Cond.static yX2_together, Cond.code yX2_together cX2_together 2 (some .int), Cond.methodLink RX2 70 yX2_isBeside, Cond.instanceMethod yX2_isBeside, Cond.selects RX2 yX2_isBeside yX2_isBeside, Cond.code yX2_isBeside cX2_isBeside 4 (some .boolean), Cond.methodLink RX2 93 yX2_flowOf, Cond.instanceMethod yX2_flowOf, Cond.selects RX2 yX2_flowOf yX2_flowOf, Cond.code yX2_flowOf cX2_flowOf 6 (some .long)]
def wsX2_joint : List Cond := .code yX2_joint cX2_joint 1 (some .int) :: ((wsX2_joint_r1 ++ (wsX2_joint_r2 ++ wsX2_joint_r3)) ++ wsX20)
def wsX2_length : List Cond := .code yX2_length cX2_length 4 (some .int) :: ([.fieldLink RX2 108 "BridgeCellsModel" "joints" "I", .fieldLink RX2 26 "BridgeCellsModel" "lengths" "[I", .methodLink RX2 39 yX2_in, .static yX2_in, .initialized RX2, .code yX2_in cX2_in 3 (some .boolean), .methodLink RX2 47 yX2_may, .instanceMethod yX2_may, .selects RX2 yX2_may yX2_may, .code yX2_may cX2_may 2 (some .boolean), .fieldLink RX2 36 "BridgeCellsModel" "fault" "I"] ++ wsX20)
def wsX2_differs_r1 : List Cond := [Cond.fieldLink RX2 108 "BridgeCellsModel" "joints" "I", Cond.fieldLink RX2 22 "BridgeCellsModel" "heats" "[J", Cond.methodLink RX2 39 yX2_in, Cond.static yX2_in, Cond.initialized RX2, Cond.code yX2_in cX2_in 3 (some .boolean), Cond.methodLink RX2 47 yX2_may, Cond.instanceMethod yX2_may, Cond.selects RX2 yX2_may yX2_may, Cond.code yX2_may cX2_may 2 (some .boolean), Cond.fieldLink RX2 36 "BridgeCellsModel" "fault" "I", Cond.methodLink RX2 97 yX2_heat, Cond.instanceMethod yX2_heat, Cond.selects RX2 yX2_heat yX2_heat, Cond.code yX2_heat cX2_heat 4 (some .long), Cond.methodLink RX2 87 yX2_settle, Cond.instanceMethod yX2_settle, Cond.selects RX2 yX2_settle yX2_settle, Cond.code yX2_settle cX2_settle 4 none, Cond.fieldLink RX2 51 "BridgeCellsModel" "isSettled" "Z", Cond.fieldLink RX2 73 "BridgeCellsModel" "low" "I", Cond.fieldLink RX2 79 "BridgeCellsModel" "top" "I", Cond.fieldLink RX2 19 "BridgeCellsModel" "film" "[I", Cond.fieldLink RX2 16 "BridgeCellsModel" "sideWarm" "[I"]
def wsX2_differs_r2 : List Cond := [Cond.fieldLink RX2 13 "BridgeCellsModel" "warm" "[I", Cond.fieldLink RX2 29 "BridgeCellsModel" "wide" "I", Cond.fieldLink RX2 33 "BridgeCellsModel" "high" "I", Cond.methodLink RX2 82 yX2_warms, Cond.instanceMethod yX2_warms, Cond.selects RX2 yX2_warms yX2_warms, Cond.code yX2_warms cX2_warms 6 (some .boolean), Cond.fieldLink RX2 7 "BridgeCellsModel" "leads" "[I", Cond.methodLink RX2 76 yX2_made, Cond.instanceMethod yX2_made, Cond.selects RX2 yX2_made yX2_made, Cond.code yX2_made cX2_made 6 (some .int), Cond.fieldLink RX2 59 "BridgeCellsModel" "products" "J", Cond.fieldLink RX2 63 "BridgeCellsModel" "weights" "J", Cond.methodLink RX2 66 yX2_addCell, Cond.instanceMethod yX2_addCell, Cond.selects RX2 yX2_addCell yX2_addCell, Cond.code yX2_addCell cX2_addCell 5 none, Cond.methodLink RX2 43 yX2_isCell, Cond.instanceMethod yX2_isCell, Cond.selects RX2 yX2_isCell yX2_isCell, Cond.code yX2_isCell cX2_isCell 3 (some .boolean), Cond.methodLink RX2 55 yX2_together, Cond.static yX2_together]
def wsX2_differs_r3 : List Cond := [Cond.code yX2_together cX2_together 2 (some .int), Cond.methodLink RX2 70 yX2_isBeside, Cond.instanceMethod yX2_isBeside, Cond.selects RX2 yX2_isBeside yX2_isBeside, Cond.code yX2_isBeside cX2_isBeside 4 (some .boolean), Cond.methodLink RX2 93 yX2_flowOf, Cond.instanceMethod yX2_flowOf, Cond.selects RX2 yX2_flowOf yX2_flowOf, Cond.code yX2_flowOf cX2_flowOf 6 (some .long)]
def wsX2_differs : List Cond := .code yX2_differs cX2_differs 2 (some .long) :: ((wsX2_differs_r1 ++ (wsX2_differs_r2 ++ wsX2_differs_r3)) ++ wsX20)
def wsX2_sum : List Cond := .code yX2_sum cX2_sum 4 (some .long) :: ([.fieldLink RX2 36 "BridgeCellsModel" "fault" "I", .fieldLink RX2 108 "BridgeCellsModel" "joints" "I", .fieldLink RX2 22 "BridgeCellsModel" "heats" "[J", .fieldLink RX2 26 "BridgeCellsModel" "lengths" "[I"] ++ wsX20)
def wsJ9_max_7cf53 : List Cond := .code yJ9_max_7cf53 cJ9_max_7cf53 2 (some .int) :: ([])
def wsJ9_max_f86c9 : List Cond := .code yJ9_max_f86c9 cJ9_max_f86c9 4 (some .long) :: ([])
def wsJ9_min_7cf53 : List Cond := .code yJ9_min_7cf53 cJ9_min_7cf53 2 (some .int) :: ([])
def wsL_cell : List Cond := .code yL_cell cL_cell 2 (some .int) :: ([])
def wsL_box_r1 : List Cond := [Cond.classLink RL 13 "java/lang/IllegalArgumentException", Cond.methodLink RL 7 yX1_box, Cond.instanceMethod yX1_box, Cond.selects RX1 yX1_box yX1_box, Cond.initialized RX1, Cond.code yX1_box cX1_box 6 (some .int), Cond.classLink RX1 43 "java/lang/IllegalArgumentException", Cond.initialized "java/lang/IllegalArgumentException", Cond.fieldLink RX1 35 "BridgeCells" "section" "LBridgeCells$Section;", Cond.methodLink RX1 39 yX0_holds, Cond.instanceMethod yX0_holds, Cond.selects RX0 yX0_holds yX0_holds, Cond.initialized RX0, Cond.code yX0_holds cX0_holds 3 (some .boolean), Cond.fieldLink RX0 29 "BridgeCells$Section" "columns" "I", Cond.fieldLink RX0 32 "BridgeCells$Section" "rows" "I", Cond.methodLink RX1 52 yX1_isWithin, Cond.static yX1_isWithin, Cond.code yX1_isWithin cX1_isWithin 3 (some .boolean), Cond.methodLink RX1 58 yX0_fill, Cond.instanceMethod yX0_fill, Cond.selects RX0 yX0_fill yX0_fill, Cond.code yX0_fill cX0_fill 8 none, Cond.fieldLink RX0 38 "BridgeCells$Section" "conduct" "[I"]
def wsL_box_r2 : List Cond := [Cond.fieldLink RX0 25 "BridgeCells$Section" "settled" "Z", Cond.methodLink RX0 56 yX0_place, Cond.instanceMethod yX0_place, Cond.selects RX0 yX0_place yX0_place, Cond.code yX0_place cX0_place 3 (some .int), Cond.fieldLink RX0 35 "BridgeCells$Section" "stride" "I", Cond.methodLink RX1 62 yX0_countThere, Cond.instanceMethod yX0_countThere, Cond.selects RX0 yX0_countThere yX0_countThere, Cond.code yX0_countThere cX0_countThere 4 (some .int), Cond.methodLink RX0 84 yX0_leadsAt, Cond.instanceMethod yX0_leadsAt, Cond.selects RX0 yX0_leadsAt yX0_leadsAt, Cond.code yX0_leadsAt cX0_leadsAt 3 (some .int)]
def wsL_box : List Cond := .codeWith yL_box cL_box 8 (some .int) [(0, 16, 19, 13)] :: ((wsL_box_r1 ++ wsL_box_r2) ++ wsX10 ++ wsX00 ++ (vx_atS RX1 47 "java/lang/IllegalArgumentException" ["java/lang/RuntimeException", "java/lang/Exception"]).filter goodWord)
def wsL_side_r1 : List Cond := [Cond.classLink RL 13 "java/lang/IllegalArgumentException", Cond.methodLink RL 15 yX1_side, Cond.instanceMethod yX1_side, Cond.selects RX1 yX1_side yX1_side, Cond.initialized RX1, Cond.code yX1_side cX1_side 4 (some .int), Cond.classLink RX1 43 "java/lang/IllegalArgumentException", Cond.initialized "java/lang/IllegalArgumentException", Cond.fieldLink RX1 35 "BridgeCells" "section" "LBridgeCells$Section;", Cond.methodLink RX1 66 yX1_isSide, Cond.static yX1_isSide, Cond.code yX1_isSide cX1_isSide 1 (some .boolean), Cond.methodLink RX1 52 yX1_isWithin, Cond.static yX1_isWithin, Cond.code yX1_isWithin cX1_isWithin 3 (some .boolean), Cond.methodLink RX1 76 yX0_changeSide, Cond.instanceMethod yX0_changeSide, Cond.selects RX0 yX0_changeSide yX0_changeSide, Cond.initialized RX0, Cond.code yX0_changeSide cX0_changeSide 8 (some .int), Cond.fieldLink RX0 15 "BridgeCells$Section" "sideFilm" "[I", Cond.fieldLink RX0 9 "BridgeCells$Section" "sideWarmth" "[I", Cond.fieldLink RX0 38 "BridgeCells$Section" "conduct" "[I", Cond.fieldLink RX0 41 "BridgeCells$Section" "warm" "[I"]
def wsL_side_r2 : List Cond := [Cond.fieldLink RX0 25 "BridgeCells$Section" "settled" "Z", Cond.methodLink RX0 61 yX0_countAlong, Cond.instanceMethod yX0_countAlong, Cond.selects RX0 yX0_countAlong yX0_countAlong, Cond.code yX0_countAlong cX0_countAlong 2 (some .int), Cond.fieldLink RX0 29 "BridgeCells$Section" "columns" "I", Cond.fieldLink RX0 32 "BridgeCells$Section" "rows" "I", Cond.methodLink RX0 65 yX0_cellAlong, Cond.instanceMethod yX0_cellAlong, Cond.selects RX0 yX0_cellAlong yX0_cellAlong, Cond.code yX0_cellAlong cX0_cellAlong 3 (some .int), Cond.methodLink RX0 56 yX0_place, Cond.instanceMethod yX0_place, Cond.selects RX0 yX0_place yX0_place, Cond.code yX0_place cX0_place 3 (some .int), Cond.fieldLink RX0 35 "BridgeCells$Section" "stride" "I", Cond.methodLink RX0 68 yX0_outward, Cond.instanceMethod yX0_outward, Cond.selects RX0 yX0_outward yX0_outward, Cond.code yX0_outward cX0_outward 2 (some .int)]
def wsL_side : List Cond := .codeWith yL_side cL_side 6 (some .int) [(0, 12, 15, 13)] :: ((wsL_side_r1 ++ wsL_side_r2) ++ wsX10 ++ wsX00 ++ (vx_atS RX1 47 "java/lang/IllegalArgumentException" ["java/lang/RuntimeException", "java/lang/Exception"]).filter goodWord)
def wsL_leads_r1 : List Cond := [Cond.classLink RL 13 "java/lang/IllegalArgumentException", Cond.methodLink RL 19 yX1_leads, Cond.instanceMethod yX1_leads, Cond.selects RX1 yX1_leads yX1_leads, Cond.initialized RX1, Cond.code yX1_leads cX1_leads 3 (some .int), Cond.classLink RX1 43 "java/lang/IllegalArgumentException", Cond.initialized "java/lang/IllegalArgumentException", Cond.fieldLink RX1 35 "BridgeCells" "section" "LBridgeCells$Section;", Cond.methodLink RX1 39 yX0_holds, Cond.instanceMethod yX0_holds, Cond.selects RX0 yX0_holds yX0_holds, Cond.initialized RX0, Cond.code yX0_holds cX0_holds 3 (some .boolean), Cond.fieldLink RX0 29 "BridgeCells$Section" "columns" "I", Cond.fieldLink RX0 32 "BridgeCells$Section" "rows" "I", Cond.methodLink RX1 80 yX0_leadsAt, Cond.instanceMethod yX0_leadsAt, Cond.selects RX0 yX0_leadsAt yX0_leadsAt, Cond.code yX0_leadsAt cX0_leadsAt 3 (some .int), Cond.fieldLink RX0 38 "BridgeCells$Section" "conduct" "[I", Cond.methodLink RX0 56 yX0_place, Cond.instanceMethod yX0_place, Cond.selects RX0 yX0_place yX0_place]
def wsL_leads_r2 : List Cond := [Cond.code yX0_place cX0_place 3 (some .int), Cond.fieldLink RX0 35 "BridgeCells$Section" "stride" "I"]
def wsL_leads : List Cond := .codeWith yL_leads cL_leads 5 (some .int) [(0, 10, 13, 13)] :: ((wsL_leads_r1 ++ wsL_leads_r2) ++ wsX10 ++ wsX00 ++ (vx_atS RX1 47 "java/lang/IllegalArgumentException" ["java/lang/RuntimeException", "java/lang/Exception"]).filter goodWord)
def wsL_warmth_r1 : List Cond := [Cond.classLink RL 13 "java/lang/IllegalArgumentException", Cond.methodLink RL 23 yX1_warmth, Cond.instanceMethod yX1_warmth, Cond.selects RX1 yX1_warmth yX1_warmth, Cond.initialized RX1, Cond.code yX1_warmth cX1_warmth 3 (some .int), Cond.classLink RX1 43 "java/lang/IllegalArgumentException", Cond.initialized "java/lang/IllegalArgumentException", Cond.fieldLink RX1 35 "BridgeCells" "section" "LBridgeCells$Section;", Cond.methodLink RX1 39 yX0_holds, Cond.instanceMethod yX0_holds, Cond.selects RX0 yX0_holds yX0_holds, Cond.initialized RX0, Cond.code yX0_holds cX0_holds 3 (some .boolean), Cond.fieldLink RX0 29 "BridgeCells$Section" "columns" "I", Cond.fieldLink RX0 32 "BridgeCells$Section" "rows" "I", Cond.methodLink RX1 83 yX0_settle, Cond.instanceMethod yX0_settle, Cond.selects RX0 yX0_settle yX0_settle, Cond.code yX0_settle cX0_settle 4 none, Cond.fieldLink RX0 25 "BridgeCells$Section" "settled" "Z", Cond.fieldLink RX0 22 "BridgeCells$Section" "high" "I", Cond.fieldLink RX0 18 "BridgeCells$Section" "low" "I", Cond.methodLink RX0 71 yX0_findLowAndHigh]
def wsL_warmth_r2 : List Cond := [Cond.instanceMethod yX0_findLowAndHigh, Cond.selects RX0 yX0_findLowAndHigh yX0_findLowAndHigh, Cond.code yX0_findLowAndHigh cX0_findLowAndHigh 3 none, Cond.fieldLink RX0 15 "BridgeCells$Section" "sideFilm" "[I", Cond.fieldLink RX0 9 "BridgeCells$Section" "sideWarmth" "[I", Cond.methodLink RX0 106 Lib.Math.min.name, Cond.static Lib.Math.min.name, Cond.initialized "java/lang/Math", Cond.code Lib.Math.min.name Lib.Math.min.code 2 (some .int), Cond.methodLink RX0 109 Lib.Math.max.name, Cond.static Lib.Math.max.name, Cond.code Lib.Math.max.name Lib.Math.max.code 2 (some .int), Cond.methodLink RX0 74 yX0_joinNeighbours, Cond.instanceMethod yX0_joinNeighbours, Cond.selects RX0 yX0_joinNeighbours yX0_joinNeighbours, Cond.code yX0_joinNeighbours cX0_joinNeighbours 4 none, Cond.fieldLink RX0 44 "BridgeCells$Section" "east" "[I", Cond.fieldLink RX0 38 "BridgeCells$Section" "conduct" "[I", Cond.fieldLink RX0 47 "BridgeCells$Section" "south" "[I", Cond.fieldLink RX0 35 "BridgeCells$Section" "stride" "I", Cond.methodLink RX0 56 yX0_place, Cond.instanceMethod yX0_place, Cond.selects RX0 yX0_place yX0_place, Cond.code yX0_place cX0_place 3 (some .int)]
def wsL_warmth_r3 : List Cond := [Cond.methodLink RX0 90 yX0_couple, Cond.static yX0_couple, Cond.code yX0_couple cX0_couple 2 (some .int), Cond.methodLink RX0 77 yX0_startAtLow, Cond.instanceMethod yX0_startAtLow, Cond.selects RX0 yX0_startAtLow yX0_startAtLow, Cond.code yX0_startAtLow cX0_startAtLow 3 none, Cond.fieldLink RX0 41 "BridgeCells$Section" "warm" "[I", Cond.methodLink RX0 111 yX0_weigh, Cond.instanceMethod yX0_weigh, Cond.selects RX0 yX0_weigh yX0_weigh, Cond.code yX0_weigh cX0_weigh 6 none, Cond.fieldLink RX0 50 "BridgeCells$Section" "weight" "[I", Cond.fieldLink RX0 53 "BridgeCells$Section" "surplus" "[I", Cond.methodLink RX0 80 yX0_raiseAll, Cond.instanceMethod yX0_raiseAll, Cond.selects RX0 yX0_raiseAll yX0_raiseAll, Cond.code yX0_raiseAll cX0_raiseAll 5 (some .boolean), Cond.methodLink RX0 115 yX0_raise, Cond.instanceMethod yX0_raise, Cond.selects RX0 yX0_raise yX0_raise, Cond.code yX0_raise cX0_raise 3 none, Cond.methodLink RX1 86 yX0_warmthAt, Cond.instanceMethod yX0_warmthAt]
def wsL_warmth_r4 : List Cond := [Cond.selects RX0 yX0_warmthAt yX0_warmthAt, Cond.code yX0_warmthAt cX0_warmthAt 4 (some .int), Cond.constant RX0 60 (-1000000)]
def wsL_warmth : List Cond := .codeWith yL_warmth cL_warmth 5 (some .int) [(0, 10, 13, 13)] :: ((wsL_warmth_r1 ++ (wsL_warmth_r2 ++ (wsL_warmth_r3 ++ wsL_warmth_r4))) ++ wsX10 ++ wsX00 ++ (vx_atS RX1 47 "java/lang/IllegalArgumentException" ["java/lang/RuntimeException", "java/lang/Exception"]).filter goodWord)
def wsL_flow_r1 : List Cond := [Cond.classLink RL 13 "java/lang/IllegalArgumentException", Cond.methodLink RL 26 yX1_flow, Cond.instanceMethod yX1_flow, Cond.selects RX1 yX1_flow yX1_flow, Cond.initialized RX1, Cond.code yX1_flow cX1_flow 2 (some .long), Cond.classLink RX1 43 "java/lang/IllegalArgumentException", Cond.initialized "java/lang/IllegalArgumentException", Cond.fieldLink RX1 35 "BridgeCells" "section" "LBridgeCells$Section;", Cond.methodLink RX1 66 yX1_isSide, Cond.static yX1_isSide, Cond.code yX1_isSide cX1_isSide 1 (some .boolean), Cond.methodLink RX1 52 yX1_isWithin, Cond.static yX1_isWithin, Cond.code yX1_isWithin cX1_isWithin 3 (some .boolean), Cond.methodLink RX1 83 yX0_settle, Cond.instanceMethod yX0_settle, Cond.selects RX0 yX0_settle yX0_settle, Cond.initialized RX0, Cond.code yX0_settle cX0_settle 4 none, Cond.fieldLink RX0 25 "BridgeCells$Section" "settled" "Z", Cond.fieldLink RX0 29 "BridgeCells$Section" "columns" "I", Cond.fieldLink RX0 32 "BridgeCells$Section" "rows" "I", Cond.fieldLink RX0 22 "BridgeCells$Section" "high" "I"]
def wsL_flow_r2 : List Cond := [Cond.fieldLink RX0 18 "BridgeCells$Section" "low" "I", Cond.methodLink RX0 71 yX0_findLowAndHigh, Cond.instanceMethod yX0_findLowAndHigh, Cond.selects RX0 yX0_findLowAndHigh yX0_findLowAndHigh, Cond.code yX0_findLowAndHigh cX0_findLowAndHigh 3 none, Cond.fieldLink RX0 15 "BridgeCells$Section" "sideFilm" "[I", Cond.fieldLink RX0 9 "BridgeCells$Section" "sideWarmth" "[I", Cond.methodLink RX0 106 Lib.Math.min.name, Cond.static Lib.Math.min.name, Cond.initialized "java/lang/Math", Cond.code Lib.Math.min.name Lib.Math.min.code 2 (some .int), Cond.methodLink RX0 109 Lib.Math.max.name, Cond.static Lib.Math.max.name, Cond.code Lib.Math.max.name Lib.Math.max.code 2 (some .int), Cond.methodLink RX0 74 yX0_joinNeighbours, Cond.instanceMethod yX0_joinNeighbours, Cond.selects RX0 yX0_joinNeighbours yX0_joinNeighbours, Cond.code yX0_joinNeighbours cX0_joinNeighbours 4 none, Cond.fieldLink RX0 44 "BridgeCells$Section" "east" "[I", Cond.fieldLink RX0 38 "BridgeCells$Section" "conduct" "[I", Cond.fieldLink RX0 47 "BridgeCells$Section" "south" "[I", Cond.fieldLink RX0 35 "BridgeCells$Section" "stride" "I", Cond.methodLink RX0 56 yX0_place, Cond.instanceMethod yX0_place]
def wsL_flow_r3 : List Cond := [Cond.selects RX0 yX0_place yX0_place, Cond.code yX0_place cX0_place 3 (some .int), Cond.methodLink RX0 90 yX0_couple, Cond.static yX0_couple, Cond.code yX0_couple cX0_couple 2 (some .int), Cond.methodLink RX0 77 yX0_startAtLow, Cond.instanceMethod yX0_startAtLow, Cond.selects RX0 yX0_startAtLow yX0_startAtLow, Cond.code yX0_startAtLow cX0_startAtLow 3 none, Cond.fieldLink RX0 41 "BridgeCells$Section" "warm" "[I", Cond.methodLink RX0 111 yX0_weigh, Cond.instanceMethod yX0_weigh, Cond.selects RX0 yX0_weigh yX0_weigh, Cond.code yX0_weigh cX0_weigh 6 none, Cond.fieldLink RX0 50 "BridgeCells$Section" "weight" "[I", Cond.fieldLink RX0 53 "BridgeCells$Section" "surplus" "[I", Cond.methodLink RX0 80 yX0_raiseAll, Cond.instanceMethod yX0_raiseAll, Cond.selects RX0 yX0_raiseAll yX0_raiseAll, Cond.code yX0_raiseAll cX0_raiseAll 5 (some .boolean), Cond.methodLink RX0 115 yX0_raise, Cond.instanceMethod yX0_raise, Cond.selects RX0 yX0_raise yX0_raise, Cond.code yX0_raise cX0_raise 3 none]
def wsL_flow_r4 : List Cond := [Cond.methodLink RX1 89 yX0_flowOf, Cond.instanceMethod yX0_flowOf, Cond.selects RX0 yX0_flowOf yX0_flowOf, Cond.code yX0_flowOf cX0_flowOf 7 (some .long), Cond.methodLink RX0 61 yX0_countAlong, Cond.instanceMethod yX0_countAlong, Cond.selects RX0 yX0_countAlong yX0_countAlong, Cond.code yX0_countAlong cX0_countAlong 2 (some .int), Cond.methodLink RX0 65 yX0_cellAlong, Cond.instanceMethod yX0_cellAlong, Cond.selects RX0 yX0_cellAlong yX0_cellAlong, Cond.code yX0_cellAlong cX0_cellAlong 3 (some .int)]
def wsL_flow : List Cond := .codeWith yL_flow cL_flow 4 (some .int) [(0, 8, 11, 13)] :: ((wsL_flow_r1 ++ (wsL_flow_r2 ++ (wsL_flow_r3 ++ wsL_flow_r4))) ++ wsX10 ++ wsX00 ++ (vx_atS RX1 47 "java/lang/IllegalArgumentException" ["java/lang/RuntimeException", "java/lang/Exception"]).filter goodWord)
def wsL_told_r1 : List Cond := [Cond.classLink RL 13 "java/lang/IllegalArgumentException", Cond.methodLink RL 30 yX1_told, Cond.instanceMethod yX1_told, Cond.selects RX1 yX1_told yX1_told, Cond.initialized RX1, Cond.code yX1_told cX1_told 2 (some .long), Cond.classLink RX1 43 "java/lang/IllegalArgumentException", Cond.initialized "java/lang/IllegalArgumentException", Cond.fieldLink RX1 35 "BridgeCells" "section" "LBridgeCells$Section;", Cond.methodLink RX1 52 yX1_isWithin, Cond.static yX1_isWithin, Cond.code yX1_isWithin cX1_isWithin 3 (some .boolean), Cond.methodLink RX1 83 yX0_settle, Cond.instanceMethod yX0_settle, Cond.selects RX0 yX0_settle yX0_settle, Cond.initialized RX0, Cond.code yX0_settle cX0_settle 4 none, Cond.fieldLink RX0 25 "BridgeCells$Section" "settled" "Z", Cond.fieldLink RX0 29 "BridgeCells$Section" "columns" "I", Cond.fieldLink RX0 32 "BridgeCells$Section" "rows" "I", Cond.fieldLink RX0 22 "BridgeCells$Section" "high" "I", Cond.fieldLink RX0 18 "BridgeCells$Section" "low" "I", Cond.methodLink RX0 71 yX0_findLowAndHigh, Cond.instanceMethod yX0_findLowAndHigh]
def wsL_told_r2 : List Cond := [Cond.selects RX0 yX0_findLowAndHigh yX0_findLowAndHigh, Cond.code yX0_findLowAndHigh cX0_findLowAndHigh 3 none, Cond.fieldLink RX0 15 "BridgeCells$Section" "sideFilm" "[I", Cond.fieldLink RX0 9 "BridgeCells$Section" "sideWarmth" "[I", Cond.methodLink RX0 106 Lib.Math.min.name, Cond.static Lib.Math.min.name, Cond.initialized "java/lang/Math", Cond.code Lib.Math.min.name Lib.Math.min.code 2 (some .int), Cond.methodLink RX0 109 Lib.Math.max.name, Cond.static Lib.Math.max.name, Cond.code Lib.Math.max.name Lib.Math.max.code 2 (some .int), Cond.methodLink RX0 74 yX0_joinNeighbours, Cond.instanceMethod yX0_joinNeighbours, Cond.selects RX0 yX0_joinNeighbours yX0_joinNeighbours, Cond.code yX0_joinNeighbours cX0_joinNeighbours 4 none, Cond.fieldLink RX0 44 "BridgeCells$Section" "east" "[I", Cond.fieldLink RX0 38 "BridgeCells$Section" "conduct" "[I", Cond.fieldLink RX0 47 "BridgeCells$Section" "south" "[I", Cond.fieldLink RX0 35 "BridgeCells$Section" "stride" "I", Cond.methodLink RX0 56 yX0_place, Cond.instanceMethod yX0_place, Cond.selects RX0 yX0_place yX0_place, Cond.code yX0_place cX0_place 3 (some .int), Cond.methodLink RX0 90 yX0_couple]
def wsL_told_r3 : List Cond := [Cond.static yX0_couple, Cond.code yX0_couple cX0_couple 2 (some .int), Cond.methodLink RX0 77 yX0_startAtLow, Cond.instanceMethod yX0_startAtLow, Cond.selects RX0 yX0_startAtLow yX0_startAtLow, Cond.code yX0_startAtLow cX0_startAtLow 3 none, Cond.fieldLink RX0 41 "BridgeCells$Section" "warm" "[I", Cond.methodLink RX0 111 yX0_weigh, Cond.instanceMethod yX0_weigh, Cond.selects RX0 yX0_weigh yX0_weigh, Cond.code yX0_weigh cX0_weigh 6 none, Cond.fieldLink RX0 50 "BridgeCells$Section" "weight" "[I", Cond.fieldLink RX0 53 "BridgeCells$Section" "surplus" "[I", Cond.methodLink RX0 80 yX0_raiseAll, Cond.instanceMethod yX0_raiseAll, Cond.selects RX0 yX0_raiseAll yX0_raiseAll, Cond.code yX0_raiseAll cX0_raiseAll 5 (some .boolean), Cond.methodLink RX0 115 yX0_raise, Cond.instanceMethod yX0_raise, Cond.selects RX0 yX0_raise yX0_raise, Cond.code yX0_raise cX0_raise 3 none, Cond.methodLink RX1 95 yX0_heat, Cond.instanceMethod yX0_heat, Cond.selects RX0 yX0_heat yX0_heat]
def wsL_told_r4 : List Cond := [Cond.code yX0_heat cX0_heat 4 (some .long), Cond.methodLink RX0 97 Lib.MathLoose.max_long.x, Cond.static Lib.MathLoose.max_long.x, Cond.code Lib.MathLoose.max_long.x Lib.MathLoose.max_long.code 4 (some .long), Cond.methodLink RX0 93 yX0_flowOf, Cond.instanceMethod yX0_flowOf, Cond.selects RX0 yX0_flowOf yX0_flowOf, Cond.code yX0_flowOf cX0_flowOf 7 (some .long), Cond.methodLink RX0 61 yX0_countAlong, Cond.instanceMethod yX0_countAlong, Cond.selects RX0 yX0_countAlong yX0_countAlong, Cond.code yX0_countAlong cX0_countAlong 2 (some .int), Cond.methodLink RX0 65 yX0_cellAlong, Cond.instanceMethod yX0_cellAlong, Cond.selects RX0 yX0_cellAlong yX0_cellAlong, Cond.code yX0_cellAlong cX0_cellAlong 3 (some .int), Cond.methodLink RX1 99 yX0_rest, Cond.instanceMethod yX0_rest, Cond.selects RX0 yX0_rest yX0_rest, Cond.code yX0_rest cX0_rest 4 (some .long), Cond.methodLink RX1 102 yX0_sumOfWarmths, Cond.instanceMethod yX0_sumOfWarmths, Cond.selects RX0 yX0_sumOfWarmths yX0_sumOfWarmths, Cond.code yX0_sumOfWarmths cX0_sumOfWarmths 5 (some .long)]
def wsL_told_r5 : List Cond := [Cond.methodLink RX0 84 yX0_leadsAt, Cond.instanceMethod yX0_leadsAt, Cond.selects RX0 yX0_leadsAt yX0_leadsAt, Cond.code yX0_leadsAt cX0_leadsAt 3 (some .int), Cond.methodLink RX0 87 yX0_warmthAt, Cond.instanceMethod yX0_warmthAt, Cond.selects RX0 yX0_warmthAt yX0_warmthAt, Cond.code yX0_warmthAt cX0_warmthAt 4 (some .int), Cond.constant RX0 60 (-1000000), Cond.methodLink RX1 105 yX0_countAlone, Cond.instanceMethod yX0_countAlone, Cond.selects RX0 yX0_countAlone yX0_countAlone, Cond.code yX0_countAlone cX0_countAlone 4 (some .int)]
def wsL_told : List Cond := .codeWith yL_told cL_told 4 (some .int) [(0, 8, 11, 13)] :: ((wsL_told_r1 ++ (wsL_told_r2 ++ (wsL_told_r3 ++ (wsL_told_r4 ++ wsL_told_r5)))) ++ wsX10 ++ wsX00 ++ (vx_atS RX1 47 "java/lang/IllegalArgumentException" ["java/lang/RuntimeException", "java/lang/Exception"]).filter goodWord)
def wsL_least_r1 : List Cond := [Cond.classLink RL 13 "java/lang/IllegalArgumentException", Cond.methodLink RL 33 yX1_least, Cond.instanceMethod yX1_least, Cond.selects RX1 yX1_least yX1_least, Cond.initialized RX1, Cond.code yX1_least cX1_least 4 (some .int), Cond.classLink RX1 43 "java/lang/IllegalArgumentException", Cond.initialized "java/lang/IllegalArgumentException", Cond.fieldLink RX1 35 "BridgeCells" "section" "LBridgeCells$Section;", Cond.constant RX1 112 (-1000000), Cond.methodLink RX1 66 yX1_isSide, Cond.static yX1_isSide, Cond.code yX1_isSide cX1_isSide 1 (some .boolean), Cond.methodLink RX1 52 yX1_isWithin, Cond.static yX1_isWithin, Cond.code yX1_isWithin cX1_isWithin 3 (some .boolean), Cond.methodLink RX1 83 yX0_settle, Cond.instanceMethod yX0_settle, Cond.selects RX0 yX0_settle yX0_settle, Cond.initialized RX0, Cond.code yX0_settle cX0_settle 4 none, Cond.fieldLink RX0 25 "BridgeCells$Section" "settled" "Z", Cond.fieldLink RX0 29 "BridgeCells$Section" "columns" "I", Cond.fieldLink RX0 32 "BridgeCells$Section" "rows" "I"]
def wsL_least_r2 : List Cond := [Cond.fieldLink RX0 22 "BridgeCells$Section" "high" "I", Cond.fieldLink RX0 18 "BridgeCells$Section" "low" "I", Cond.methodLink RX0 71 yX0_findLowAndHigh, Cond.instanceMethod yX0_findLowAndHigh, Cond.selects RX0 yX0_findLowAndHigh yX0_findLowAndHigh, Cond.code yX0_findLowAndHigh cX0_findLowAndHigh 3 none, Cond.fieldLink RX0 15 "BridgeCells$Section" "sideFilm" "[I", Cond.fieldLink RX0 9 "BridgeCells$Section" "sideWarmth" "[I", Cond.methodLink RX0 106 Lib.Math.min.name, Cond.static Lib.Math.min.name, Cond.initialized "java/lang/Math", Cond.code Lib.Math.min.name Lib.Math.min.code 2 (some .int), Cond.methodLink RX0 109 Lib.Math.max.name, Cond.static Lib.Math.max.name, Cond.code Lib.Math.max.name Lib.Math.max.code 2 (some .int), Cond.methodLink RX0 74 yX0_joinNeighbours, Cond.instanceMethod yX0_joinNeighbours, Cond.selects RX0 yX0_joinNeighbours yX0_joinNeighbours, Cond.code yX0_joinNeighbours cX0_joinNeighbours 4 none, Cond.fieldLink RX0 44 "BridgeCells$Section" "east" "[I", Cond.fieldLink RX0 38 "BridgeCells$Section" "conduct" "[I", Cond.fieldLink RX0 47 "BridgeCells$Section" "south" "[I", Cond.fieldLink RX0 35 "BridgeCells$Section" "stride" "I", Cond.methodLink RX0 56 yX0_place]
def wsL_least_r3 : List Cond := [Cond.instanceMethod yX0_place, Cond.selects RX0 yX0_place yX0_place, Cond.code yX0_place cX0_place 3 (some .int), Cond.methodLink RX0 90 yX0_couple, Cond.static yX0_couple, Cond.code yX0_couple cX0_couple 2 (some .int), Cond.methodLink RX0 77 yX0_startAtLow, Cond.instanceMethod yX0_startAtLow, Cond.selects RX0 yX0_startAtLow yX0_startAtLow, Cond.code yX0_startAtLow cX0_startAtLow 3 none, Cond.fieldLink RX0 41 "BridgeCells$Section" "warm" "[I", Cond.methodLink RX0 111 yX0_weigh, Cond.instanceMethod yX0_weigh, Cond.selects RX0 yX0_weigh yX0_weigh, Cond.code yX0_weigh cX0_weigh 6 none, Cond.fieldLink RX0 50 "BridgeCells$Section" "weight" "[I", Cond.fieldLink RX0 53 "BridgeCells$Section" "surplus" "[I", Cond.methodLink RX0 80 yX0_raiseAll, Cond.instanceMethod yX0_raiseAll, Cond.selects RX0 yX0_raiseAll yX0_raiseAll, Cond.code yX0_raiseAll cX0_raiseAll 5 (some .boolean), Cond.methodLink RX0 115 yX0_raise, Cond.instanceMethod yX0_raise, Cond.selects RX0 yX0_raise yX0_raise]
def wsL_least_r4 : List Cond := [Cond.code yX0_raise cX0_raise 3 none, Cond.methodLink RX1 108 yX0_coldestAlong, Cond.instanceMethod yX0_coldestAlong, Cond.selects RX0 yX0_coldestAlong yX0_coldestAlong, Cond.code yX0_coldestAlong cX0_coldestAlong 6 (some .int), Cond.methodLink RX0 61 yX0_countAlong, Cond.instanceMethod yX0_countAlong, Cond.selects RX0 yX0_countAlong yX0_countAlong, Cond.code yX0_countAlong cX0_countAlong 2 (some .int), Cond.methodLink RX0 65 yX0_cellAlong, Cond.instanceMethod yX0_cellAlong, Cond.selects RX0 yX0_cellAlong yX0_cellAlong, Cond.code yX0_cellAlong cX0_cellAlong 3 (some .int), Cond.methodLink RX0 103 yX0_warmthAlong, Cond.instanceMethod yX0_warmthAlong, Cond.selects RX0 yX0_warmthAlong yX0_warmthAlong, Cond.code yX0_warmthAlong cX0_warmthAlong 3 (some .int), Cond.methodLink RX1 113 yX0_warmthAlong]
def wsL_least : List Cond := .codeWith yL_least cL_least 5 (some .int) [(0, 10, 13, 13)] :: ((wsL_least_r1 ++ (wsL_least_r2 ++ (wsL_least_r3 ++ wsL_least_r4))) ++ wsX10 ++ wsX00 ++ (vx_atS RX1 47 "java/lang/IllegalArgumentException" ["java/lang/RuntimeException", "java/lang/Exception"]).filter goodWord)
def wsL_factor_r1 : List Cond := [Cond.classLink RL 13 "java/lang/IllegalArgumentException", Cond.methodLink RL 36 yX1_factor, Cond.instanceMethod yX1_factor, Cond.selects RX1 yX1_factor yX1_factor, Cond.initialized RX1, Cond.code yX1_factor cX1_factor 7 (some .int), Cond.classLink RX1 43 "java/lang/IllegalArgumentException", Cond.initialized "java/lang/IllegalArgumentException", Cond.fieldLink RX1 35 "BridgeCells" "section" "LBridgeCells$Section;", Cond.methodLink RX1 66 yX1_isSide, Cond.static yX1_isSide, Cond.code yX1_isSide cX1_isSide 1 (some .boolean), Cond.methodLink RX1 52 yX1_isWithin, Cond.static yX1_isWithin, Cond.code yX1_isWithin cX1_isWithin 3 (some .boolean), Cond.methodLink RX1 83 yX0_settle, Cond.instanceMethod yX0_settle, Cond.selects RX0 yX0_settle yX0_settle, Cond.initialized RX0, Cond.code yX0_settle cX0_settle 4 none, Cond.fieldLink RX0 25 "BridgeCells$Section" "settled" "Z", Cond.fieldLink RX0 29 "BridgeCells$Section" "columns" "I", Cond.fieldLink RX0 32 "BridgeCells$Section" "rows" "I", Cond.fieldLink RX0 22 "BridgeCells$Section" "high" "I"]
def wsL_factor_r2 : List Cond := [Cond.fieldLink RX0 18 "BridgeCells$Section" "low" "I", Cond.methodLink RX0 71 yX0_findLowAndHigh, Cond.instanceMethod yX0_findLowAndHigh, Cond.selects RX0 yX0_findLowAndHigh yX0_findLowAndHigh, Cond.code yX0_findLowAndHigh cX0_findLowAndHigh 3 none, Cond.fieldLink RX0 15 "BridgeCells$Section" "sideFilm" "[I", Cond.fieldLink RX0 9 "BridgeCells$Section" "sideWarmth" "[I", Cond.methodLink RX0 106 Lib.Math.min.name, Cond.static Lib.Math.min.name, Cond.initialized "java/lang/Math", Cond.code Lib.Math.min.name Lib.Math.min.code 2 (some .int), Cond.methodLink RX0 109 Lib.Math.max.name, Cond.static Lib.Math.max.name, Cond.code Lib.Math.max.name Lib.Math.max.code 2 (some .int), Cond.methodLink RX0 74 yX0_joinNeighbours, Cond.instanceMethod yX0_joinNeighbours, Cond.selects RX0 yX0_joinNeighbours yX0_joinNeighbours, Cond.code yX0_joinNeighbours cX0_joinNeighbours 4 none, Cond.fieldLink RX0 44 "BridgeCells$Section" "east" "[I", Cond.fieldLink RX0 38 "BridgeCells$Section" "conduct" "[I", Cond.fieldLink RX0 47 "BridgeCells$Section" "south" "[I", Cond.fieldLink RX0 35 "BridgeCells$Section" "stride" "I", Cond.methodLink RX0 56 yX0_place, Cond.instanceMethod yX0_place]
def wsL_factor_r3 : List Cond := [Cond.selects RX0 yX0_place yX0_place, Cond.code yX0_place cX0_place 3 (some .int), Cond.methodLink RX0 90 yX0_couple, Cond.static yX0_couple, Cond.code yX0_couple cX0_couple 2 (some .int), Cond.methodLink RX0 77 yX0_startAtLow, Cond.instanceMethod yX0_startAtLow, Cond.selects RX0 yX0_startAtLow yX0_startAtLow, Cond.code yX0_startAtLow cX0_startAtLow 3 none, Cond.fieldLink RX0 41 "BridgeCells$Section" "warm" "[I", Cond.methodLink RX0 111 yX0_weigh, Cond.instanceMethod yX0_weigh, Cond.selects RX0 yX0_weigh yX0_weigh, Cond.code yX0_weigh cX0_weigh 6 none, Cond.fieldLink RX0 50 "BridgeCells$Section" "weight" "[I", Cond.fieldLink RX0 53 "BridgeCells$Section" "surplus" "[I", Cond.methodLink RX0 80 yX0_raiseAll, Cond.instanceMethod yX0_raiseAll, Cond.selects RX0 yX0_raiseAll yX0_raiseAll, Cond.code yX0_raiseAll cX0_raiseAll 5 (some .boolean), Cond.methodLink RX0 115 yX0_raise, Cond.instanceMethod yX0_raise, Cond.selects RX0 yX0_raise yX0_raise, Cond.code yX0_raise cX0_raise 3 none]
def wsL_factor_r4 : List Cond := [Cond.methodLink RX1 108 yX0_coldestAlong, Cond.instanceMethod yX0_coldestAlong, Cond.selects RX0 yX0_coldestAlong yX0_coldestAlong, Cond.code yX0_coldestAlong cX0_coldestAlong 6 (some .int), Cond.methodLink RX0 61 yX0_countAlong, Cond.instanceMethod yX0_countAlong, Cond.selects RX0 yX0_countAlong yX0_countAlong, Cond.code yX0_countAlong cX0_countAlong 2 (some .int), Cond.methodLink RX0 65 yX0_cellAlong, Cond.instanceMethod yX0_cellAlong, Cond.selects RX0 yX0_cellAlong yX0_cellAlong, Cond.code yX0_cellAlong cX0_cellAlong 3 (some .int), Cond.methodLink RX0 103 yX0_warmthAlong, Cond.instanceMethod yX0_warmthAlong, Cond.selects RX0 yX0_warmthAlong yX0_warmthAlong, Cond.code yX0_warmthAlong cX0_warmthAlong 3 (some .int), Cond.methodLink RX1 118 yX0_aboveLow, Cond.instanceMethod yX0_aboveLow, Cond.selects RX0 yX0_aboveLow yX0_aboveLow, Cond.code yX0_aboveLow cX0_aboveLow 3 (some .int), Cond.methodLink RX1 121 yX0_highAboveLow, Cond.instanceMethod yX0_highAboveLow, Cond.selects RX0 yX0_highAboveLow yX0_highAboveLow, Cond.code yX0_highAboveLow cX0_highAboveLow 1 (some .int)]
def wsL_factor_r5 : List Cond := [Cond.methodLink RX1 124 yX1_commonDivisor, Cond.static yX1_commonDivisor, Cond.code yX1_commonDivisor cX1_commonDivisor 6 (some .int)]
def wsL_factor : List Cond := .codeWith yL_factor cL_factor 5 (some .int) [(0, 10, 13, 13)] :: ((wsL_factor_r1 ++ (wsL_factor_r2 ++ (wsL_factor_r3 ++ (wsL_factor_r4 ++ wsL_factor_r5)))) ++ wsX10 ++ wsX00 ++ (vx_atS RX1 47 "java/lang/IllegalArgumentException" ["java/lang/RuntimeException", "java/lang/Exception"]).filter goodWord)
def wsL_colder_r1 : List Cond := [Cond.classLink RL 13 "java/lang/IllegalArgumentException", Cond.methodLink RL 39 yX1_colder, Cond.instanceMethod yX1_colder, Cond.selects RX1 yX1_colder yX1_colder, Cond.initialized RX1, Cond.code yX1_colder cX1_colder 2 (some .int), Cond.classLink RX1 43 "java/lang/IllegalArgumentException", Cond.initialized "java/lang/IllegalArgumentException", Cond.fieldLink RX1 35 "BridgeCells" "section" "LBridgeCells$Section;", Cond.methodLink RX1 52 yX1_isWithin, Cond.static yX1_isWithin, Cond.code yX1_isWithin cX1_isWithin 3 (some .boolean), Cond.methodLink RX1 83 yX0_settle, Cond.instanceMethod yX0_settle, Cond.selects RX0 yX0_settle yX0_settle, Cond.initialized RX0, Cond.code yX0_settle cX0_settle 4 none, Cond.fieldLink RX0 25 "BridgeCells$Section" "settled" "Z", Cond.fieldLink RX0 29 "BridgeCells$Section" "columns" "I", Cond.fieldLink RX0 32 "BridgeCells$Section" "rows" "I", Cond.fieldLink RX0 22 "BridgeCells$Section" "high" "I", Cond.fieldLink RX0 18 "BridgeCells$Section" "low" "I", Cond.methodLink RX0 71 yX0_findLowAndHigh, Cond.instanceMethod yX0_findLowAndHigh]
def wsL_colder_r2 : List Cond := [Cond.selects RX0 yX0_findLowAndHigh yX0_findLowAndHigh, Cond.code yX0_findLowAndHigh cX0_findLowAndHigh 3 none, Cond.fieldLink RX0 15 "BridgeCells$Section" "sideFilm" "[I", Cond.fieldLink RX0 9 "BridgeCells$Section" "sideWarmth" "[I", Cond.methodLink RX0 106 Lib.Math.min.name, Cond.static Lib.Math.min.name, Cond.initialized "java/lang/Math", Cond.code Lib.Math.min.name Lib.Math.min.code 2 (some .int), Cond.methodLink RX0 109 Lib.Math.max.name, Cond.static Lib.Math.max.name, Cond.code Lib.Math.max.name Lib.Math.max.code 2 (some .int), Cond.methodLink RX0 74 yX0_joinNeighbours, Cond.instanceMethod yX0_joinNeighbours, Cond.selects RX0 yX0_joinNeighbours yX0_joinNeighbours, Cond.code yX0_joinNeighbours cX0_joinNeighbours 4 none, Cond.fieldLink RX0 44 "BridgeCells$Section" "east" "[I", Cond.fieldLink RX0 38 "BridgeCells$Section" "conduct" "[I", Cond.fieldLink RX0 47 "BridgeCells$Section" "south" "[I", Cond.fieldLink RX0 35 "BridgeCells$Section" "stride" "I", Cond.methodLink RX0 56 yX0_place, Cond.instanceMethod yX0_place, Cond.selects RX0 yX0_place yX0_place, Cond.code yX0_place cX0_place 3 (some .int), Cond.methodLink RX0 90 yX0_couple]
def wsL_colder_r3 : List Cond := [Cond.static yX0_couple, Cond.code yX0_couple cX0_couple 2 (some .int), Cond.methodLink RX0 77 yX0_startAtLow, Cond.instanceMethod yX0_startAtLow, Cond.selects RX0 yX0_startAtLow yX0_startAtLow, Cond.code yX0_startAtLow cX0_startAtLow 3 none, Cond.fieldLink RX0 41 "BridgeCells$Section" "warm" "[I", Cond.methodLink RX0 111 yX0_weigh, Cond.instanceMethod yX0_weigh, Cond.selects RX0 yX0_weigh yX0_weigh, Cond.code yX0_weigh cX0_weigh 6 none, Cond.fieldLink RX0 50 "BridgeCells$Section" "weight" "[I", Cond.fieldLink RX0 53 "BridgeCells$Section" "surplus" "[I", Cond.methodLink RX0 80 yX0_raiseAll, Cond.instanceMethod yX0_raiseAll, Cond.selects RX0 yX0_raiseAll yX0_raiseAll, Cond.code yX0_raiseAll cX0_raiseAll 5 (some .boolean), Cond.methodLink RX0 115 yX0_raise, Cond.instanceMethod yX0_raise, Cond.selects RX0 yX0_raise yX0_raise, Cond.code yX0_raise cX0_raise 3 none, Cond.methodLink RX1 127 yX0_countColder, Cond.instanceMethod yX0_countColder, Cond.selects RX0 yX0_countColder yX0_countColder]
def wsL_colder_r4 : List Cond := [Cond.code yX0_countColder cX0_countColder 5 (some .int), Cond.methodLink RX0 84 yX0_leadsAt, Cond.instanceMethod yX0_leadsAt, Cond.selects RX0 yX0_leadsAt yX0_leadsAt, Cond.code yX0_leadsAt cX0_leadsAt 3 (some .int), Cond.methodLink RX0 87 yX0_warmthAt, Cond.instanceMethod yX0_warmthAt, Cond.selects RX0 yX0_warmthAt yX0_warmthAt, Cond.code yX0_warmthAt cX0_warmthAt 4 (some .int), Cond.constant RX0 60 (-1000000)]
def wsL_colder : List Cond := .codeWith yL_colder cL_colder 4 (some .int) [(0, 9, 12, 13)] :: ((wsL_colder_r1 ++ (wsL_colder_r2 ++ (wsL_colder_r3 ++ wsL_colder_r4))) ++ wsX10 ++ wsX00 ++ (vx_atS RX1 47 "java/lang/IllegalArgumentException" ["java/lang/RuntimeException", "java/lang/Exception"]).filter goodWord)
def wsL_mirrored_r1 : List Cond := [Cond.classLink RL 13 "java/lang/IllegalArgumentException", Cond.methodLink RL 43 yX1_mirrored, Cond.instanceMethod yX1_mirrored, Cond.selects RX1 yX1_mirrored yX1_mirrored, Cond.initialized RX1, Cond.code yX1_mirrored cX1_mirrored 2 (some .boolean), Cond.classLink RX1 43 "java/lang/IllegalArgumentException", Cond.initialized "java/lang/IllegalArgumentException", Cond.fieldLink RX1 35 "BridgeCells" "section" "LBridgeCells$Section;", Cond.methodLink RX1 52 yX1_isWithin, Cond.static yX1_isWithin, Cond.code yX1_isWithin cX1_isWithin 3 (some .boolean), Cond.methodLink RX1 83 yX0_settle, Cond.instanceMethod yX0_settle, Cond.selects RX0 yX0_settle yX0_settle, Cond.initialized RX0, Cond.code yX0_settle cX0_settle 4 none, Cond.fieldLink RX0 25 "BridgeCells$Section" "settled" "Z", Cond.fieldLink RX0 29 "BridgeCells$Section" "columns" "I", Cond.fieldLink RX0 32 "BridgeCells$Section" "rows" "I", Cond.fieldLink RX0 22 "BridgeCells$Section" "high" "I", Cond.fieldLink RX0 18 "BridgeCells$Section" "low" "I", Cond.methodLink RX0 71 yX0_findLowAndHigh, Cond.instanceMethod yX0_findLowAndHigh]
def wsL_mirrored_r2 : List Cond := [Cond.selects RX0 yX0_findLowAndHigh yX0_findLowAndHigh, Cond.code yX0_findLowAndHigh cX0_findLowAndHigh 3 none, Cond.fieldLink RX0 15 "BridgeCells$Section" "sideFilm" "[I", Cond.fieldLink RX0 9 "BridgeCells$Section" "sideWarmth" "[I", Cond.methodLink RX0 106 Lib.Math.min.name, Cond.static Lib.Math.min.name, Cond.initialized "java/lang/Math", Cond.code Lib.Math.min.name Lib.Math.min.code 2 (some .int), Cond.methodLink RX0 109 Lib.Math.max.name, Cond.static Lib.Math.max.name, Cond.code Lib.Math.max.name Lib.Math.max.code 2 (some .int), Cond.methodLink RX0 74 yX0_joinNeighbours, Cond.instanceMethod yX0_joinNeighbours, Cond.selects RX0 yX0_joinNeighbours yX0_joinNeighbours, Cond.code yX0_joinNeighbours cX0_joinNeighbours 4 none, Cond.fieldLink RX0 44 "BridgeCells$Section" "east" "[I", Cond.fieldLink RX0 38 "BridgeCells$Section" "conduct" "[I", Cond.fieldLink RX0 47 "BridgeCells$Section" "south" "[I", Cond.fieldLink RX0 35 "BridgeCells$Section" "stride" "I", Cond.methodLink RX0 56 yX0_place, Cond.instanceMethod yX0_place, Cond.selects RX0 yX0_place yX0_place, Cond.code yX0_place cX0_place 3 (some .int), Cond.methodLink RX0 90 yX0_couple]
def wsL_mirrored_r3 : List Cond := [Cond.static yX0_couple, Cond.code yX0_couple cX0_couple 2 (some .int), Cond.methodLink RX0 77 yX0_startAtLow, Cond.instanceMethod yX0_startAtLow, Cond.selects RX0 yX0_startAtLow yX0_startAtLow, Cond.code yX0_startAtLow cX0_startAtLow 3 none, Cond.fieldLink RX0 41 "BridgeCells$Section" "warm" "[I", Cond.methodLink RX0 111 yX0_weigh, Cond.instanceMethod yX0_weigh, Cond.selects RX0 yX0_weigh yX0_weigh, Cond.code yX0_weigh cX0_weigh 6 none, Cond.fieldLink RX0 50 "BridgeCells$Section" "weight" "[I", Cond.fieldLink RX0 53 "BridgeCells$Section" "surplus" "[I", Cond.methodLink RX0 80 yX0_raiseAll, Cond.instanceMethod yX0_raiseAll, Cond.selects RX0 yX0_raiseAll yX0_raiseAll, Cond.code yX0_raiseAll cX0_raiseAll 5 (some .boolean), Cond.methodLink RX0 115 yX0_raise, Cond.instanceMethod yX0_raise, Cond.selects RX0 yX0_raise yX0_raise, Cond.code yX0_raise cX0_raise 3 none, Cond.methodLink RX1 132 yX0_rowsMirror, Cond.instanceMethod yX0_rowsMirror, Cond.selects RX0 yX0_rowsMirror yX0_rowsMirror]
def wsL_mirrored_r4 : List Cond := [Cond.code yX0_rowsMirror cX0_rowsMirror 3 (some .boolean), Cond.methodLink RX0 87 yX0_warmthAt, Cond.instanceMethod yX0_warmthAt, Cond.selects RX0 yX0_warmthAt yX0_warmthAt, Cond.code yX0_warmthAt cX0_warmthAt 4 (some .int), Cond.constant RX0 60 (-1000000), Cond.methodLink RX1 136 yX0_columnsMirror, Cond.instanceMethod yX0_columnsMirror, Cond.selects RX0 yX0_columnsMirror yX0_columnsMirror, Cond.code yX0_columnsMirror cX0_columnsMirror 3 (some .boolean)]
def wsL_mirrored : List Cond := .codeWith yL_mirrored cL_mirrored 4 (some .int) [(0, 16, 19, 13)] :: ((wsL_mirrored_r1 ++ (wsL_mirrored_r2 ++ (wsL_mirrored_r3 ++ wsL_mirrored_r4))) ++ wsX10 ++ wsX00 ++ (vx_atS RX1 47 "java/lang/IllegalArgumentException" ["java/lang/RuntimeException", "java/lang/Exception"]).filter goodWord)
def wsL_joint_r1 : List Cond := [Cond.classLink RL 51 "java/lang/IllegalStateException", Cond.methodLink RL 47 yX1_joint, Cond.instanceMethod yX1_joint, Cond.selects RX1 yX1_joint yX1_joint, Cond.initialized RX1, Cond.code yX1_joint cX1_joint 1 (some .int), Cond.classLink RX1 139 "java/lang/IllegalStateException", Cond.initialized "java/lang/IllegalStateException", Cond.fieldLink RX1 17 "BridgeCells" "joints" "I", Cond.fieldLink RX1 35 "BridgeCells" "section" "LBridgeCells$Section;", Cond.fieldLink RX1 9 "BridgeCells" "jointHeats" "[J", Cond.fieldLink RX1 13 "BridgeCells" "jointLengths" "[I", Cond.methodLink RX1 83 yX0_settle, Cond.instanceMethod yX0_settle, Cond.selects RX0 yX0_settle yX0_settle, Cond.initialized RX0, Cond.code yX0_settle cX0_settle 4 none, Cond.fieldLink RX0 25 "BridgeCells$Section" "settled" "Z", Cond.fieldLink RX0 29 "BridgeCells$Section" "columns" "I", Cond.fieldLink RX0 32 "BridgeCells$Section" "rows" "I", Cond.fieldLink RX0 22 "BridgeCells$Section" "high" "I", Cond.fieldLink RX0 18 "BridgeCells$Section" "low" "I", Cond.methodLink RX0 71 yX0_findLowAndHigh, Cond.instanceMethod yX0_findLowAndHigh]
def wsL_joint_r2 : List Cond := [Cond.selects RX0 yX0_findLowAndHigh yX0_findLowAndHigh, Cond.code yX0_findLowAndHigh cX0_findLowAndHigh 3 none, Cond.fieldLink RX0 15 "BridgeCells$Section" "sideFilm" "[I", Cond.fieldLink RX0 9 "BridgeCells$Section" "sideWarmth" "[I", Cond.methodLink RX0 106 Lib.Math.min.name, Cond.static Lib.Math.min.name, Cond.initialized "java/lang/Math", Cond.code Lib.Math.min.name Lib.Math.min.code 2 (some .int), Cond.methodLink RX0 109 Lib.Math.max.name, Cond.static Lib.Math.max.name, Cond.code Lib.Math.max.name Lib.Math.max.code 2 (some .int), Cond.methodLink RX0 74 yX0_joinNeighbours, Cond.instanceMethod yX0_joinNeighbours, Cond.selects RX0 yX0_joinNeighbours yX0_joinNeighbours, Cond.code yX0_joinNeighbours cX0_joinNeighbours 4 none, Cond.fieldLink RX0 44 "BridgeCells$Section" "east" "[I", Cond.fieldLink RX0 38 "BridgeCells$Section" "conduct" "[I", Cond.fieldLink RX0 47 "BridgeCells$Section" "south" "[I", Cond.fieldLink RX0 35 "BridgeCells$Section" "stride" "I", Cond.methodLink RX0 56 yX0_place, Cond.instanceMethod yX0_place, Cond.selects RX0 yX0_place yX0_place, Cond.code yX0_place cX0_place 3 (some .int), Cond.methodLink RX0 90 yX0_couple]
def wsL_joint_r3 : List Cond := [Cond.static yX0_couple, Cond.code yX0_couple cX0_couple 2 (some .int), Cond.methodLink RX0 77 yX0_startAtLow, Cond.instanceMethod yX0_startAtLow, Cond.selects RX0 yX0_startAtLow yX0_startAtLow, Cond.code yX0_startAtLow cX0_startAtLow 3 none, Cond.fieldLink RX0 41 "BridgeCells$Section" "warm" "[I", Cond.methodLink RX0 111 yX0_weigh, Cond.instanceMethod yX0_weigh, Cond.selects RX0 yX0_weigh yX0_weigh, Cond.code yX0_weigh cX0_weigh 6 none, Cond.fieldLink RX0 50 "BridgeCells$Section" "weight" "[I", Cond.fieldLink RX0 53 "BridgeCells$Section" "surplus" "[I", Cond.methodLink RX0 80 yX0_raiseAll, Cond.instanceMethod yX0_raiseAll, Cond.selects RX0 yX0_raiseAll yX0_raiseAll, Cond.code yX0_raiseAll cX0_raiseAll 5 (some .boolean), Cond.methodLink RX0 115 yX0_raise, Cond.instanceMethod yX0_raise, Cond.selects RX0 yX0_raise yX0_raise, Cond.code yX0_raise cX0_raise 3 none, Cond.methodLink RX1 95 yX0_heat, Cond.instanceMethod yX0_heat, Cond.selects RX0 yX0_heat yX0_heat]
def wsL_joint_r4 : List Cond := [Cond.code yX0_heat cX0_heat 4 (some .long), Cond.methodLink RX0 97 Lib.MathLoose.max_long.x, Cond.static Lib.MathLoose.max_long.x, Cond.code Lib.MathLoose.max_long.x Lib.MathLoose.max_long.code 4 (some .long), Cond.methodLink RX0 93 yX0_flowOf, Cond.instanceMethod yX0_flowOf, Cond.selects RX0 yX0_flowOf yX0_flowOf, Cond.code yX0_flowOf cX0_flowOf 7 (some .long), Cond.methodLink RX0 61 yX0_countAlong, Cond.instanceMethod yX0_countAlong, Cond.selects RX0 yX0_countAlong yX0_countAlong, Cond.code yX0_countAlong cX0_countAlong 2 (some .int), Cond.methodLink RX0 65 yX0_cellAlong, Cond.instanceMethod yX0_cellAlong, Cond.selects RX0 yX0_cellAlong yX0_cellAlong, Cond.code yX0_cellAlong cX0_cellAlong 3 (some .int)]
def wsL_joint : List Cond := .codeWith yL_joint cL_joint 3 (some .int) [(0, 8, 11, 51)] :: ((wsL_joint_r1 ++ (wsL_joint_r2 ++ (wsL_joint_r3 ++ wsL_joint_r4))) ++ wsX10 ++ wsX00 ++ (vx_atS RX1 143 "java/lang/IllegalStateException" ["java/lang/RuntimeException", "java/lang/Exception"]).filter goodWord)
def wsL_length : List Cond := .codeWith yL_length cL_length 5 (some .int) [(0, 10, 13, 13)] :: ([.classLink RL 13 "java/lang/IllegalArgumentException", .methodLink RL 53 yX1_length, .instanceMethod yX1_length, .selects RX1 yX1_length yX1_length, .initialized RX1, .code yX1_length cX1_length 4 (some .int), .classLink RX1 43 "java/lang/IllegalArgumentException", .initialized "java/lang/IllegalArgumentException", .fieldLink RX1 13 "BridgeCells" "jointLengths" "[I", .methodLink RX1 144 yX1_isJoint, .instanceMethod yX1_isJoint, .selects RX1 yX1_isJoint yX1_isJoint, .code yX1_isJoint cX1_isJoint 2 (some .boolean), .fieldLink RX1 17 "BridgeCells" "joints" "I", .methodLink RX1 52 yX1_isWithin, .static yX1_isWithin, .code yX1_isWithin cX1_isWithin 3 (some .boolean)] ++ wsX10 ++ (vx_atS RX1 47 "java/lang/IllegalArgumentException" ["java/lang/RuntimeException", "java/lang/Exception"]).filter goodWord)
def wsL_differs_r1 : List Cond := [Cond.classLink RL 13 "java/lang/IllegalArgumentException", Cond.methodLink RL 56 yX1_differs, Cond.instanceMethod yX1_differs, Cond.selects RX1 yX1_differs yX1_differs, Cond.initialized RX1, Cond.code yX1_differs cX1_differs 2 (some .long), Cond.classLink RX1 43 "java/lang/IllegalArgumentException", Cond.initialized "java/lang/IllegalArgumentException", Cond.fieldLink RX1 35 "BridgeCells" "section" "LBridgeCells$Section;", Cond.fieldLink RX1 9 "BridgeCells" "jointHeats" "[J", Cond.methodLink RX1 144 yX1_isJoint, Cond.instanceMethod yX1_isJoint, Cond.selects RX1 yX1_isJoint yX1_isJoint, Cond.code yX1_isJoint cX1_isJoint 2 (some .boolean), Cond.fieldLink RX1 17 "BridgeCells" "joints" "I", Cond.methodLink RX1 52 yX1_isWithin, Cond.static yX1_isWithin, Cond.code yX1_isWithin cX1_isWithin 3 (some .boolean), Cond.methodLink RX1 83 yX0_settle, Cond.instanceMethod yX0_settle, Cond.selects RX0 yX0_settle yX0_settle, Cond.initialized RX0, Cond.code yX0_settle cX0_settle 4 none, Cond.fieldLink RX0 25 "BridgeCells$Section" "settled" "Z"]
def wsL_differs_r2 : List Cond := [Cond.fieldLink RX0 29 "BridgeCells$Section" "columns" "I", Cond.fieldLink RX0 32 "BridgeCells$Section" "rows" "I", Cond.fieldLink RX0 22 "BridgeCells$Section" "high" "I", Cond.fieldLink RX0 18 "BridgeCells$Section" "low" "I", Cond.methodLink RX0 71 yX0_findLowAndHigh, Cond.instanceMethod yX0_findLowAndHigh, Cond.selects RX0 yX0_findLowAndHigh yX0_findLowAndHigh, Cond.code yX0_findLowAndHigh cX0_findLowAndHigh 3 none, Cond.fieldLink RX0 15 "BridgeCells$Section" "sideFilm" "[I", Cond.fieldLink RX0 9 "BridgeCells$Section" "sideWarmth" "[I", Cond.methodLink RX0 106 Lib.Math.min.name, Cond.static Lib.Math.min.name, Cond.initialized "java/lang/Math", Cond.code Lib.Math.min.name Lib.Math.min.code 2 (some .int), Cond.methodLink RX0 109 Lib.Math.max.name, Cond.static Lib.Math.max.name, Cond.code Lib.Math.max.name Lib.Math.max.code 2 (some .int), Cond.methodLink RX0 74 yX0_joinNeighbours, Cond.instanceMethod yX0_joinNeighbours, Cond.selects RX0 yX0_joinNeighbours yX0_joinNeighbours, Cond.code yX0_joinNeighbours cX0_joinNeighbours 4 none, Cond.fieldLink RX0 44 "BridgeCells$Section" "east" "[I", Cond.fieldLink RX0 38 "BridgeCells$Section" "conduct" "[I", Cond.fieldLink RX0 47 "BridgeCells$Section" "south" "[I"]
def wsL_differs_r3 : List Cond := [Cond.fieldLink RX0 35 "BridgeCells$Section" "stride" "I", Cond.methodLink RX0 56 yX0_place, Cond.instanceMethod yX0_place, Cond.selects RX0 yX0_place yX0_place, Cond.code yX0_place cX0_place 3 (some .int), Cond.methodLink RX0 90 yX0_couple, Cond.static yX0_couple, Cond.code yX0_couple cX0_couple 2 (some .int), Cond.methodLink RX0 77 yX0_startAtLow, Cond.instanceMethod yX0_startAtLow, Cond.selects RX0 yX0_startAtLow yX0_startAtLow, Cond.code yX0_startAtLow cX0_startAtLow 3 none, Cond.fieldLink RX0 41 "BridgeCells$Section" "warm" "[I", Cond.methodLink RX0 111 yX0_weigh, Cond.instanceMethod yX0_weigh, Cond.selects RX0 yX0_weigh yX0_weigh, Cond.code yX0_weigh cX0_weigh 6 none, Cond.fieldLink RX0 50 "BridgeCells$Section" "weight" "[I", Cond.fieldLink RX0 53 "BridgeCells$Section" "surplus" "[I", Cond.methodLink RX0 80 yX0_raiseAll, Cond.instanceMethod yX0_raiseAll, Cond.selects RX0 yX0_raiseAll yX0_raiseAll, Cond.code yX0_raiseAll cX0_raiseAll 5 (some .boolean), Cond.methodLink RX0 115 yX0_raise]
def wsL_differs_r4 : List Cond := [Cond.instanceMethod yX0_raise, Cond.selects RX0 yX0_raise yX0_raise, Cond.code yX0_raise cX0_raise 3 none, Cond.methodLink RX1 95 yX0_heat, Cond.instanceMethod yX0_heat, Cond.selects RX0 yX0_heat yX0_heat, Cond.code yX0_heat cX0_heat 4 (some .long), Cond.methodLink RX0 97 Lib.MathLoose.max_long.x, Cond.static Lib.MathLoose.max_long.x, Cond.code Lib.MathLoose.max_long.x Lib.MathLoose.max_long.code 4 (some .long), Cond.methodLink RX0 93 yX0_flowOf, Cond.instanceMethod yX0_flowOf, Cond.selects RX0 yX0_flowOf yX0_flowOf, Cond.code yX0_flowOf cX0_flowOf 7 (some .long), Cond.methodLink RX0 61 yX0_countAlong, Cond.instanceMethod yX0_countAlong, Cond.selects RX0 yX0_countAlong yX0_countAlong, Cond.code yX0_countAlong cX0_countAlong 2 (some .int), Cond.methodLink RX0 65 yX0_cellAlong, Cond.instanceMethod yX0_cellAlong, Cond.selects RX0 yX0_cellAlong yX0_cellAlong, Cond.code yX0_cellAlong cX0_cellAlong 3 (some .int)]
def wsL_differs : List Cond := .codeWith yL_differs cL_differs 4 (some .int) [(0, 8, 11, 13)] :: ((wsL_differs_r1 ++ (wsL_differs_r2 ++ (wsL_differs_r3 ++ wsL_differs_r4))) ++ wsX10 ++ wsX00 ++ (vx_atS RX1 47 "java/lang/IllegalArgumentException" ["java/lang/RuntimeException", "java/lang/Exception"]).filter goodWord)
def wsL_law0_r1 : List Cond := [Cond.classLink RL 8 RX1, Cond.instantiable RX1 4, Cond.initialized RX1, Cond.classLink RL 68 RX2, Cond.instantiable RX2 15, Cond.initialized RX2, Cond.arrayClass .long, Cond.methodLink RL 59 yL_cell, Cond.static yL_cell, Cond.initialized RL, Cond.code yL_cell cL_cell 2 (some .int), Cond.methodLink RL 65 yX1_init, Cond.instanceMethod yX1_init, Cond.code yX1_init cX1_init 3 none, Cond.methodLink RX1 1 objectInit, Cond.instanceMethod objectInit, Cond.code objectInit ⟨#[0xb1]⟩ 1 none, Cond.fieldLink RX1 9 "BridgeCells" "jointHeats" "[J", Cond.arrayClass .int, Cond.fieldLink RX1 13 "BridgeCells" "jointLengths" "[I", Cond.fieldLink RX1 17 "BridgeCells" "joints" "I", Cond.classLink RX1 21 RX0, Cond.instantiable RX0 14, Cond.initialized RX0]
def wsL_law0_r2 : List Cond := [Cond.methodLink RX1 23 Lib.Math.min.name, Cond.static Lib.Math.min.name, Cond.initialized "java/lang/Math", Cond.code Lib.Math.min.name Lib.Math.min.code 2 (some .int), Cond.methodLink RX1 29 Lib.Math.max.name, Cond.static Lib.Math.max.name, Cond.code Lib.Math.max.name Lib.Math.max.code 2 (some .int), Cond.fieldLink RX1 35 "BridgeCells" "section" "LBridgeCells$Section;", Cond.methodLink RX1 32 yX0_init, Cond.instanceMethod yX0_init, Cond.code yX0_init cX0_init 4 none, Cond.methodLink RX0 3 objectInit, Cond.fieldLink RX0 9 "BridgeCells$Section" "sideWarmth" "[I", Cond.fieldLink RX0 15 "BridgeCells$Section" "sideFilm" "[I", Cond.fieldLink RX0 18 "BridgeCells$Section" "low" "I", Cond.fieldLink RX0 22 "BridgeCells$Section" "high" "I", Cond.fieldLink RX0 25 "BridgeCells$Section" "settled" "Z", Cond.fieldLink RX0 29 "BridgeCells$Section" "columns" "I", Cond.fieldLink RX0 32 "BridgeCells$Section" "rows" "I", Cond.fieldLink RX0 35 "BridgeCells$Section" "stride" "I", Cond.fieldLink RX0 38 "BridgeCells$Section" "conduct" "[I", Cond.fieldLink RX0 41 "BridgeCells$Section" "warm" "[I", Cond.fieldLink RX0 44 "BridgeCells$Section" "east" "[I", Cond.fieldLink RX0 47 "BridgeCells$Section" "south" "[I"]
def wsL_law0_r3 : List Cond := [Cond.fieldLink RX0 50 "BridgeCells$Section" "weight" "[I", Cond.fieldLink RX0 53 "BridgeCells$Section" "surplus" "[I", Cond.methodLink RL 70 yX2_init, Cond.instanceMethod yX2_init, Cond.code yX2_init cX2_init 3 none, Cond.methodLink RX2 1 objectInit, Cond.fieldLink RX2 7 "BridgeCellsModel" "leads" "[I", Cond.fieldLink RX2 13 "BridgeCellsModel" "warm" "[I", Cond.fieldLink RX2 16 "BridgeCellsModel" "sideWarm" "[I", Cond.fieldLink RX2 19 "BridgeCellsModel" "film" "[I", Cond.fieldLink RX2 22 "BridgeCellsModel" "heats" "[J", Cond.fieldLink RX2 26 "BridgeCellsModel" "lengths" "[I", Cond.fieldLink RX2 29 "BridgeCellsModel" "wide" "I", Cond.fieldLink RX2 33 "BridgeCellsModel" "high" "I", Cond.methodLink RL 71 yL_box, Cond.static yL_box, Cond.codeWith yL_box cL_box 8 (some .int) [(0, 16, 19, 13)], Cond.classLink RL 13 "java/lang/IllegalArgumentException", Cond.methodLink RL 7 yX1_box, Cond.instanceMethod yX1_box, Cond.selects RX1 yX1_box yX1_box, Cond.code yX1_box cX1_box 6 (some .int), Cond.classLink RX1 43 "java/lang/IllegalArgumentException", Cond.initialized "java/lang/IllegalArgumentException"]
def wsL_law0_r4 : List Cond := [Cond.methodLink RX1 39 yX0_holds, Cond.instanceMethod yX0_holds, Cond.selects RX0 yX0_holds yX0_holds, Cond.code yX0_holds cX0_holds 3 (some .boolean), Cond.methodLink RX1 52 yX1_isWithin, Cond.static yX1_isWithin, Cond.code yX1_isWithin cX1_isWithin 3 (some .boolean), Cond.methodLink RX1 58 yX0_fill, Cond.instanceMethod yX0_fill, Cond.selects RX0 yX0_fill yX0_fill, Cond.code yX0_fill cX0_fill 8 none, Cond.methodLink RX0 56 yX0_place, Cond.instanceMethod yX0_place, Cond.selects RX0 yX0_place yX0_place, Cond.code yX0_place cX0_place 3 (some .int), Cond.methodLink RX1 62 yX0_countThere, Cond.instanceMethod yX0_countThere, Cond.selects RX0 yX0_countThere yX0_countThere, Cond.code yX0_countThere cX0_countThere 4 (some .int), Cond.methodLink RX0 84 yX0_leadsAt, Cond.instanceMethod yX0_leadsAt, Cond.selects RX0 yX0_leadsAt yX0_leadsAt, Cond.code yX0_leadsAt cX0_leadsAt 3 (some .int), Cond.methodLink RL 74 yX2_box]
def wsL_law0_r5 : List Cond := [Cond.instanceMethod yX2_box, Cond.selects RX2 yX2_box yX2_box, Cond.code yX2_box cX2_box 8 (some .int), Cond.fieldLink RX2 51 "BridgeCellsModel" "isSettled" "Z", Cond.methodLink RX2 43 yX2_isCell, Cond.instanceMethod yX2_isCell, Cond.selects RX2 yX2_isCell yX2_isCell, Cond.code yX2_isCell cX2_isCell 3 (some .boolean), Cond.methodLink RX2 39 yX2_in, Cond.static yX2_in, Cond.code yX2_in cX2_in 3 (some .boolean), Cond.methodLink RX2 47 yX2_may, Cond.instanceMethod yX2_may, Cond.selects RX2 yX2_may yX2_may, Cond.code yX2_may cX2_may 2 (some .boolean), Cond.fieldLink RX2 36 "BridgeCellsModel" "fault" "I", Cond.methodLink RL 75 yX2_thrown, Cond.instanceMethod yX2_thrown, Cond.selects RX2 yX2_thrown yX2_thrown, Cond.code yX2_thrown cX2_thrown 1 (some .int), Cond.methodLink RL 78 yL_side, Cond.static yL_side, Cond.codeWith yL_side cL_side 6 (some .int) [(0, 12, 15, 13)], Cond.methodLink RL 15 yX1_side]
def wsL_law0_r6 : List Cond := [Cond.instanceMethod yX1_side, Cond.selects RX1 yX1_side yX1_side, Cond.code yX1_side cX1_side 4 (some .int), Cond.methodLink RX1 66 yX1_isSide, Cond.static yX1_isSide, Cond.code yX1_isSide cX1_isSide 1 (some .boolean), Cond.methodLink RX1 76 yX0_changeSide, Cond.instanceMethod yX0_changeSide, Cond.selects RX0 yX0_changeSide yX0_changeSide, Cond.code yX0_changeSide cX0_changeSide 8 (some .int), Cond.methodLink RX0 61 yX0_countAlong, Cond.instanceMethod yX0_countAlong, Cond.selects RX0 yX0_countAlong yX0_countAlong, Cond.code yX0_countAlong cX0_countAlong 2 (some .int), Cond.methodLink RX0 65 yX0_cellAlong, Cond.instanceMethod yX0_cellAlong, Cond.selects RX0 yX0_cellAlong yX0_cellAlong, Cond.code yX0_cellAlong cX0_cellAlong 3 (some .int), Cond.methodLink RX0 68 yX0_outward, Cond.instanceMethod yX0_outward, Cond.selects RX0 yX0_outward yX0_outward, Cond.code yX0_outward cX0_outward 2 (some .int), Cond.methodLink RL 81 yX2_side, Cond.instanceMethod yX2_side]
def wsL_law0_r7 : List Cond := [Cond.selects RX2 yX2_side yX2_side, Cond.code yX2_side cX2_side 5 (some .int), Cond.methodLink RL 82 yL_leads, Cond.static yL_leads, Cond.codeWith yL_leads cL_leads 5 (some .int) [(0, 10, 13, 13)], Cond.methodLink RL 19 yX1_leads, Cond.instanceMethod yX1_leads, Cond.selects RX1 yX1_leads yX1_leads, Cond.code yX1_leads cX1_leads 3 (some .int), Cond.methodLink RX1 80 yX0_leadsAt, Cond.methodLink RL 85 yX2_leads, Cond.instanceMethod yX2_leads, Cond.selects RX2 yX2_leads yX2_leads, Cond.code yX2_leads cX2_leads 3 (some .int), Cond.methodLink RL 86 yL_warmth, Cond.static yL_warmth, Cond.codeWith yL_warmth cL_warmth 5 (some .int) [(0, 10, 13, 13)], Cond.methodLink RL 23 yX1_warmth, Cond.instanceMethod yX1_warmth, Cond.selects RX1 yX1_warmth yX1_warmth, Cond.code yX1_warmth cX1_warmth 3 (some .int), Cond.methodLink RX1 83 yX0_settle, Cond.instanceMethod yX0_settle, Cond.selects RX0 yX0_settle yX0_settle]
def wsL_law0_r8 : List Cond := [Cond.code yX0_settle cX0_settle 4 none, Cond.methodLink RX0 71 yX0_findLowAndHigh, Cond.instanceMethod yX0_findLowAndHigh, Cond.selects RX0 yX0_findLowAndHigh yX0_findLowAndHigh, Cond.code yX0_findLowAndHigh cX0_findLowAndHigh 3 none, Cond.methodLink RX0 106 Lib.Math.min.name, Cond.methodLink RX0 109 Lib.Math.max.name, Cond.methodLink RX0 74 yX0_joinNeighbours, Cond.instanceMethod yX0_joinNeighbours, Cond.selects RX0 yX0_joinNeighbours yX0_joinNeighbours, Cond.code yX0_joinNeighbours cX0_joinNeighbours 4 none, Cond.methodLink RX0 90 yX0_couple, Cond.static yX0_couple, Cond.code yX0_couple cX0_couple 2 (some .int), Cond.methodLink RX0 77 yX0_startAtLow, Cond.instanceMethod yX0_startAtLow, Cond.selects RX0 yX0_startAtLow yX0_startAtLow, Cond.code yX0_startAtLow cX0_startAtLow 3 none, Cond.methodLink RX0 111 yX0_weigh, Cond.instanceMethod yX0_weigh, Cond.selects RX0 yX0_weigh yX0_weigh, Cond.code yX0_weigh cX0_weigh 6 none, Cond.methodLink RX0 80 yX0_raiseAll, Cond.instanceMethod yX0_raiseAll]
def wsL_law0_r9 : List Cond := [Cond.selects RX0 yX0_raiseAll yX0_raiseAll, Cond.code yX0_raiseAll cX0_raiseAll 5 (some .boolean), Cond.methodLink RX0 115 yX0_raise, Cond.instanceMethod yX0_raise, Cond.selects RX0 yX0_raise yX0_raise, Cond.code yX0_raise cX0_raise 3 none, Cond.methodLink RX1 86 yX0_warmthAt, Cond.instanceMethod yX0_warmthAt, Cond.selects RX0 yX0_warmthAt yX0_warmthAt, Cond.code yX0_warmthAt cX0_warmthAt 4 (some .int), Cond.constant RX0 60 (-1000000), Cond.methodLink RL 88 yX2_warmth, Cond.instanceMethod yX2_warmth, Cond.selects RX2 yX2_warmth yX2_warmth, Cond.code yX2_warmth cX2_warmth 3 (some .int), Cond.methodLink RX2 87 yX2_settle, Cond.instanceMethod yX2_settle, Cond.selects RX2 yX2_settle yX2_settle, Cond.code yX2_settle cX2_settle 4 none, Cond.fieldLink RX2 73 "BridgeCellsModel" "low" "I", Cond.fieldLink RX2 79 "BridgeCellsModel" "top" "I", Cond.methodLink RX2 82 yX2_warms, Cond.instanceMethod yX2_warms, Cond.selects RX2 yX2_warms yX2_warms]
def wsL_law0_r10 : List Cond := [Cond.code yX2_warms cX2_warms 6 (some .boolean), Cond.methodLink RX2 76 yX2_made, Cond.instanceMethod yX2_made, Cond.selects RX2 yX2_made yX2_made, Cond.code yX2_made cX2_made 6 (some .int), Cond.fieldLink RX2 59 "BridgeCellsModel" "products" "J", Cond.fieldLink RX2 63 "BridgeCellsModel" "weights" "J", Cond.methodLink RX2 66 yX2_addCell, Cond.instanceMethod yX2_addCell, Cond.selects RX2 yX2_addCell yX2_addCell, Cond.code yX2_addCell cX2_addCell 5 none, Cond.methodLink RX2 55 yX2_together, Cond.static yX2_together, Cond.code yX2_together cX2_together 2 (some .int), Cond.methodLink RX2 70 yX2_isBeside, Cond.instanceMethod yX2_isBeside, Cond.selects RX2 yX2_isBeside yX2_isBeside, Cond.code yX2_isBeside cX2_isBeside 4 (some .boolean), Cond.methodLink RX2 90 yX2_warmthOf, Cond.instanceMethod yX2_warmthOf, Cond.selects RX2 yX2_warmthOf yX2_warmthOf, Cond.code yX2_warmthOf cX2_warmthOf 3 (some .int), Cond.constant RX2 86 (-1000000), Cond.methodLink RL 89 yL_flow]
def wsL_law0_r11 : List Cond := [Cond.static yL_flow, Cond.codeWith yL_flow cL_flow 4 (some .int) [(0, 8, 11, 13)], Cond.methodLink RL 26 yX1_flow, Cond.instanceMethod yX1_flow, Cond.selects RX1 yX1_flow yX1_flow, Cond.code yX1_flow cX1_flow 2 (some .long), Cond.methodLink RX1 89 yX0_flowOf, Cond.instanceMethod yX0_flowOf, Cond.selects RX0 yX0_flowOf yX0_flowOf, Cond.code yX0_flowOf cX0_flowOf 7 (some .long), Cond.methodLink RL 92 yX2_flow, Cond.instanceMethod yX2_flow, Cond.selects RX2 yX2_flow yX2_flow, Cond.code yX2_flow cX2_flow 2 (some .long), Cond.methodLink RX2 93 yX2_flowOf, Cond.instanceMethod yX2_flowOf, Cond.selects RX2 yX2_flowOf yX2_flowOf, Cond.code yX2_flowOf cX2_flowOf 6 (some .long), Cond.methodLink RL 93 yL_told, Cond.static yL_told, Cond.codeWith yL_told cL_told 4 (some .int) [(0, 8, 11, 13)], Cond.methodLink RL 30 yX1_told, Cond.instanceMethod yX1_told, Cond.selects RX1 yX1_told yX1_told]
def wsL_law0_r12 : List Cond := [Cond.code yX1_told cX1_told 2 (some .long), Cond.methodLink RX1 95 yX0_heat, Cond.instanceMethod yX0_heat, Cond.selects RX0 yX0_heat yX0_heat, Cond.code yX0_heat cX0_heat 4 (some .long), Cond.methodLink RX0 97 Lib.MathLoose.max_long.x, Cond.static Lib.MathLoose.max_long.x, Cond.code Lib.MathLoose.max_long.x Lib.MathLoose.max_long.code 4 (some .long), Cond.methodLink RX0 93 yX0_flowOf, Cond.methodLink RX1 99 yX0_rest, Cond.instanceMethod yX0_rest, Cond.selects RX0 yX0_rest yX0_rest, Cond.code yX0_rest cX0_rest 4 (some .long), Cond.methodLink RX1 102 yX0_sumOfWarmths, Cond.instanceMethod yX0_sumOfWarmths, Cond.selects RX0 yX0_sumOfWarmths yX0_sumOfWarmths, Cond.code yX0_sumOfWarmths cX0_sumOfWarmths 5 (some .long), Cond.methodLink RX0 87 yX0_warmthAt, Cond.methodLink RX1 105 yX0_countAlone, Cond.instanceMethod yX0_countAlone, Cond.selects RX0 yX0_countAlone yX0_countAlone, Cond.code yX0_countAlone cX0_countAlone 4 (some .int), Cond.methodLink RL 95 yX2_told, Cond.instanceMethod yX2_told]
def wsL_law0_r13 : List Cond := [Cond.selects RX2 yX2_told yX2_told, Cond.code yX2_told cX2_told 7 (some .long), Cond.methodLink RX2 97 yX2_heat, Cond.instanceMethod yX2_heat, Cond.selects RX2 yX2_heat yX2_heat, Cond.code yX2_heat cX2_heat 4 (some .long), Cond.methodLink RL 96 yL_least, Cond.static yL_least, Cond.codeWith yL_least cL_least 5 (some .int) [(0, 10, 13, 13)], Cond.methodLink RL 33 yX1_least, Cond.instanceMethod yX1_least, Cond.selects RX1 yX1_least yX1_least, Cond.code yX1_least cX1_least 4 (some .int), Cond.constant RX1 112 (-1000000), Cond.methodLink RX1 108 yX0_coldestAlong, Cond.instanceMethod yX0_coldestAlong, Cond.selects RX0 yX0_coldestAlong yX0_coldestAlong, Cond.code yX0_coldestAlong cX0_coldestAlong 6 (some .int), Cond.methodLink RX0 103 yX0_warmthAlong, Cond.instanceMethod yX0_warmthAlong, Cond.selects RX0 yX0_warmthAlong yX0_warmthAlong, Cond.code yX0_warmthAlong cX0_warmthAlong 3 (some .int), Cond.methodLink RX1 113 yX0_warmthAlong, Cond.methodLink RL 98 yX2_least]
def wsL_law0_r14 : List Cond := [Cond.instanceMethod yX2_least, Cond.selects RX2 yX2_least yX2_least, Cond.code yX2_least cX2_least 4 (some .int), Cond.methodLink RX2 104 yX2_coldest, Cond.instanceMethod yX2_coldest, Cond.selects RX2 yX2_coldest yX2_coldest, Cond.code yX2_coldest cX2_coldest 5 (some .int), Cond.methodLink RX2 101 yX2_faceOf, Cond.instanceMethod yX2_faceOf, Cond.selects RX2 yX2_faceOf yX2_faceOf, Cond.code yX2_faceOf cX2_faceOf 3 (some .int), Cond.methodLink RL 99 yL_factor, Cond.static yL_factor, Cond.codeWith yL_factor cL_factor 5 (some .int) [(0, 10, 13, 13)], Cond.methodLink RL 36 yX1_factor, Cond.instanceMethod yX1_factor, Cond.selects RX1 yX1_factor yX1_factor, Cond.code yX1_factor cX1_factor 7 (some .int), Cond.methodLink RX1 118 yX0_aboveLow, Cond.instanceMethod yX0_aboveLow, Cond.selects RX0 yX0_aboveLow yX0_aboveLow, Cond.code yX0_aboveLow cX0_aboveLow 3 (some .int), Cond.methodLink RX1 121 yX0_highAboveLow, Cond.instanceMethod yX0_highAboveLow]
def wsL_law0_r15 : List Cond := [Cond.selects RX0 yX0_highAboveLow yX0_highAboveLow, Cond.code yX0_highAboveLow cX0_highAboveLow 1 (some .int), Cond.methodLink RX1 124 yX1_commonDivisor, Cond.static yX1_commonDivisor, Cond.code yX1_commonDivisor cX1_commonDivisor 6 (some .int), Cond.methodLink RL 101 yX2_factor, Cond.instanceMethod yX2_factor, Cond.selects RX2 yX2_factor yX2_factor, Cond.code yX2_factor cX2_factor 9 (some .int), Cond.methodLink RL 102 yL_colder, Cond.static yL_colder, Cond.codeWith yL_colder cL_colder 4 (some .int) [(0, 9, 12, 13)], Cond.methodLink RL 39 yX1_colder, Cond.instanceMethod yX1_colder, Cond.selects RX1 yX1_colder yX1_colder, Cond.code yX1_colder cX1_colder 2 (some .int), Cond.methodLink RX1 127 yX0_countColder, Cond.instanceMethod yX0_countColder, Cond.selects RX0 yX0_countColder yX0_countColder, Cond.code yX0_countColder cX0_countColder 5 (some .int), Cond.methodLink RL 104 yX2_colder, Cond.instanceMethod yX2_colder, Cond.selects RX2 yX2_colder yX2_colder, Cond.code yX2_colder cX2_colder 5 (some .int)]
def wsL_law0_r16 : List Cond := [Cond.methodLink RL 105 yL_mirrored, Cond.static yL_mirrored, Cond.codeWith yL_mirrored cL_mirrored 4 (some .int) [(0, 16, 19, 13)], Cond.methodLink RL 43 yX1_mirrored, Cond.instanceMethod yX1_mirrored, Cond.selects RX1 yX1_mirrored yX1_mirrored, Cond.code yX1_mirrored cX1_mirrored 2 (some .boolean), Cond.methodLink RX1 132 yX0_rowsMirror, Cond.instanceMethod yX0_rowsMirror, Cond.selects RX0 yX0_rowsMirror yX0_rowsMirror, Cond.code yX0_rowsMirror cX0_rowsMirror 3 (some .boolean), Cond.methodLink RX1 136 yX0_columnsMirror, Cond.instanceMethod yX0_columnsMirror, Cond.selects RX0 yX0_columnsMirror yX0_columnsMirror, Cond.code yX0_columnsMirror cX0_columnsMirror 3 (some .boolean), Cond.methodLink RL 107 yX2_mirrored, Cond.instanceMethod yX2_mirrored, Cond.selects RX2 yX2_mirrored yX2_mirrored, Cond.code yX2_mirrored cX2_mirrored 5 (some .boolean), Cond.methodLink RL 108 yL_joint, Cond.static yL_joint, Cond.codeWith yL_joint cL_joint 3 (some .int) [(0, 8, 11, 51)], Cond.classLink RL 51 "java/lang/IllegalStateException", Cond.methodLink RL 47 yX1_joint]
def wsL_law0_r17 : List Cond := [Cond.instanceMethod yX1_joint, Cond.selects RX1 yX1_joint yX1_joint, Cond.code yX1_joint cX1_joint 1 (some .int), Cond.classLink RX1 139 "java/lang/IllegalStateException", Cond.initialized "java/lang/IllegalStateException", Cond.methodLink RL 111 yX2_joint, Cond.instanceMethod yX2_joint, Cond.selects RX2 yX2_joint yX2_joint, Cond.code yX2_joint cX2_joint 1 (some .int), Cond.fieldLink RX2 108 "BridgeCellsModel" "joints" "I", Cond.methodLink RL 112 yL_length, Cond.static yL_length, Cond.codeWith yL_length cL_length 5 (some .int) [(0, 10, 13, 13)], Cond.methodLink RL 53 yX1_length, Cond.instanceMethod yX1_length, Cond.selects RX1 yX1_length yX1_length, Cond.code yX1_length cX1_length 4 (some .int), Cond.methodLink RX1 144 yX1_isJoint, Cond.instanceMethod yX1_isJoint, Cond.selects RX1 yX1_isJoint yX1_isJoint, Cond.code yX1_isJoint cX1_isJoint 2 (some .boolean), Cond.methodLink RL 114 yX2_length, Cond.instanceMethod yX2_length, Cond.selects RX2 yX2_length yX2_length]
def wsL_law0_r18 : List Cond := [Cond.code yX2_length cX2_length 4 (some .int), Cond.methodLink RL 115 yL_differs, Cond.static yL_differs, Cond.codeWith yL_differs cL_differs 4 (some .int) [(0, 8, 11, 13)], Cond.methodLink RL 56 yX1_differs, Cond.instanceMethod yX1_differs, Cond.selects RX1 yX1_differs yX1_differs, Cond.code yX1_differs cX1_differs 2 (some .long), Cond.methodLink RL 117 yX2_differs, Cond.instanceMethod yX2_differs, Cond.selects RX2 yX2_differs yX2_differs, Cond.code yX2_differs cX2_differs 2 (some .long), Cond.methodLink RL 118 yX1_sum, Cond.instanceMethod yX1_sum, Cond.selects RX1 yX1_sum yX1_sum, Cond.code yX1_sum cX1_sum 4 (some .long), Cond.methodLink RL 122 yX2_sum, Cond.instanceMethod yX2_sum, Cond.selects RX2 yX2_sum yX2_sum, Cond.code yX2_sum cX2_sum 4 (some .long)]
def wsL_law0 : List Cond := (wsL_law0_r1 ++ (wsL_law0_r2 ++ (wsL_law0_r3 ++ (wsL_law0_r4 ++ (wsL_law0_r5 ++ (wsL_law0_r6 ++ (wsL_law0_r7 ++ (wsL_law0_r8 ++ (wsL_law0_r9 ++ (wsL_law0_r10 ++ (wsL_law0_r11 ++ (wsL_law0_r12 ++ (wsL_law0_r13 ++ (wsL_law0_r14 ++ (wsL_law0_r15 ++ (wsL_law0_r16 ++ (wsL_law0_r17 ++ wsL_law0_r18))))))))))))))))) ++ wsX10 ++ wsX20 ++ wsX00 ++ ([] : List Cond)
def wsL_law : List Cond := wsL_law0 ++ (vx_atS RX1 47 "java/lang/IllegalArgumentException" ["java/lang/RuntimeException", "java/lang/Exception"]).filter goodWord ++ (vx_atS RX1 143 "java/lang/IllegalStateException" ["java/lang/RuntimeException", "java/lang/Exception"]).filter goodWord
abbrev vwCl : List vw_C := [(RX0, TX0, 14), (RX1, TX1, 4), (RX2, TX2, 15)]
end
section
theorem dX0_init_0 : decode cX0_init 0 = .ok (.aload_n 0, 1) := by decide +kernel
theorem dX0_init_1 : decode cX0_init 1 = .ok (.invokespecial 3, 3) := by decide +kernel
theorem dX0_init_4 : decode cX0_init 4 = .ok (.aload_n 0, 1) := by decide +kernel
theorem dX0_init_5 : decode cX0_init 5 = .ok (.iconst 4, 1) := by decide +kernel
theorem dX0_init_6 : decode cX0_init 6 = .ok (.newarray .int, 2) := by decide +kernel
theorem dX0_init_8 : decode cX0_init 8 = .ok (.putfield 9, 3) := by decide +kernel
theorem dX0_init_11 : decode cX0_init 11 = .ok (.aload_n 0, 1) := by decide +kernel
theorem dX0_init_12 : decode cX0_init 12 = .ok (.iconst 4, 1) := by decide +kernel
theorem dX0_init_13 : decode cX0_init 13 = .ok (.newarray .int, 2) := by decide +kernel
theorem dX0_init_15 : decode cX0_init 15 = .ok (.putfield 15, 3) := by decide +kernel
theorem dX0_init_18 : decode cX0_init 18 = .ok (.aload_n 0, 1) := by decide +kernel
theorem dX0_init_19 : decode cX0_init 19 = .ok (.iconst 0, 1) := by decide +kernel
theorem dX0_init_20 : decode cX0_init 20 = .ok (.putfield 18, 3) := by decide +kernel
theorem dX0_init_23 : decode cX0_init 23 = .ok (.aload_n 0, 1) := by decide +kernel
theorem dX0_init_24 : decode cX0_init 24 = .ok (.iconst 0, 1) := by decide +kernel
theorem dX0_init_25 : decode cX0_init 25 = .ok (.putfield 22, 3) := by decide +kernel
theorem dX0_init_28 : decode cX0_init 28 = .ok (.aload_n 0, 1) := by decide +kernel
theorem dX0_init_29 : decode cX0_init 29 = .ok (.iconst 0, 1) := by decide +kernel
theorem dX0_init_30 : decode cX0_init 30 = .ok (.putfield 25, 3) := by decide +kernel
theorem dX0_init_33 : decode cX0_init 33 = .ok (.aload_n 0, 1) := by decide +kernel
theorem dX0_init_34 : decode cX0_init 34 = .ok (.iload_n 1, 1) := by decide +kernel
theorem dX0_init_35 : decode cX0_init 35 = .ok (.putfield 29, 3) := by decide +kernel
theorem dX0_init_38 : decode cX0_init 38 = .ok (.aload_n 0, 1) := by decide +kernel
theorem dX0_init_39 : decode cX0_init 39 = .ok (.iload_n 2, 1) := by decide +kernel
theorem dX0_init_40 : decode cX0_init 40 = .ok (.putfield 32, 3) := by decide +kernel
theorem dX0_init_43 : decode cX0_init 43 = .ok (.aload_n 0, 1) := by decide +kernel
theorem dX0_init_44 : decode cX0_init 44 = .ok (.iload_n 1, 1) := by decide +kernel
theorem dX0_init_45 : decode cX0_init 45 = .ok (.iconst 2, 1) := by decide +kernel
theorem dX0_init_46 : decode cX0_init 46 = .ok (.iadd, 1) := by decide +kernel
theorem dX0_init_47 : decode cX0_init 47 = .ok (.putfield 35, 3) := by decide +kernel
theorem dX0_init_50 : decode cX0_init 50 = .ok (.iload_n 1, 1) := by decide +kernel
theorem dX0_init_51 : decode cX0_init 51 = .ok (.iconst 2, 1) := by decide +kernel
theorem dX0_init_52 : decode cX0_init 52 = .ok (.iadd, 1) := by decide +kernel
theorem dX0_init_53 : decode cX0_init 53 = .ok (.iload_n 2, 1) := by decide +kernel
theorem dX0_init_54 : decode cX0_init 54 = .ok (.iconst 2, 1) := by decide +kernel
theorem dX0_init_55 : decode cX0_init 55 = .ok (.iadd, 1) := by decide +kernel
theorem dX0_init_56 : decode cX0_init 56 = .ok (.imul, 1) := by decide +kernel
theorem dX0_init_57 : decode cX0_init 57 = .ok (.istore_n 3, 1) := by decide +kernel
theorem dX0_init_58 : decode cX0_init 58 = .ok (.aload_n 0, 1) := by decide +kernel
theorem dX0_init_59 : decode cX0_init 59 = .ok (.iload_n 3, 1) := by decide +kernel
theorem dX0_init_60 : decode cX0_init 60 = .ok (.newarray .int, 2) := by decide +kernel
theorem dX0_init_62 : decode cX0_init 62 = .ok (.putfield 38, 3) := by decide +kernel
theorem dX0_init_65 : decode cX0_init 65 = .ok (.aload_n 0, 1) := by decide +kernel
theorem dX0_init_66 : decode cX0_init 66 = .ok (.iload_n 3, 1) := by decide +kernel
theorem dX0_init_67 : decode cX0_init 67 = .ok (.newarray .int, 2) := by decide +kernel
theorem dX0_init_69 : decode cX0_init 69 = .ok (.putfield 41, 3) := by decide +kernel
theorem dX0_init_72 : decode cX0_init 72 = .ok (.aload_n 0, 1) := by decide +kernel
theorem dX0_init_73 : decode cX0_init 73 = .ok (.iload_n 3, 1) := by decide +kernel
theorem dX0_init_74 : decode cX0_init 74 = .ok (.newarray .int, 2) := by decide +kernel
theorem dX0_init_76 : decode cX0_init 76 = .ok (.putfield 44, 3) := by decide +kernel
theorem dX0_init_79 : decode cX0_init 79 = .ok (.aload_n 0, 1) := by decide +kernel
theorem dX0_init_80 : decode cX0_init 80 = .ok (.iload_n 3, 1) := by decide +kernel
theorem dX0_init_81 : decode cX0_init 81 = .ok (.newarray .int, 2) := by decide +kernel
theorem dX0_init_83 : decode cX0_init 83 = .ok (.putfield 47, 3) := by decide +kernel
theorem dX0_init_86 : decode cX0_init 86 = .ok (.aload_n 0, 1) := by decide +kernel
theorem dX0_init_87 : decode cX0_init 87 = .ok (.iload_n 3, 1) := by decide +kernel
theorem dX0_init_88 : decode cX0_init 88 = .ok (.newarray .int, 2) := by decide +kernel
theorem dX0_init_90 : decode cX0_init 90 = .ok (.putfield 50, 3) := by decide +kernel
theorem dX0_init_93 : decode cX0_init 93 = .ok (.aload_n 0, 1) := by decide +kernel
theorem dX0_init_94 : decode cX0_init 94 = .ok (.iload_n 3, 1) := by decide +kernel
theorem dX0_init_95 : decode cX0_init 95 = .ok (.newarray .int, 2) := by decide +kernel
theorem dX0_init_97 : decode cX0_init 97 = .ok (.putfield 53, 3) := by decide +kernel
theorem dX0_init_100 : decode cX0_init 100 = .ok (.return_, 1) := by decide +kernel
theorem dX0_holds_0 : decode cX0_holds 0 = .ok (.iload_n 1, 1) := by decide +kernel
theorem dX0_holds_1 : decode cX0_holds 1 = .ok (.ifCond .lt 27, 3) := by decide +kernel
theorem dX0_holds_4 : decode cX0_holds 4 = .ok (.iload_n 1, 1) := by decide +kernel
theorem dX0_holds_5 : decode cX0_holds 5 = .ok (.aload_n 0, 1) := by decide +kernel
theorem dX0_holds_6 : decode cX0_holds 6 = .ok (.getfield 29, 3) := by decide +kernel
theorem dX0_holds_9 : decode cX0_holds 9 = .ok (.if_icmp .ge 19, 3) := by decide +kernel
theorem dX0_holds_12 : decode cX0_holds 12 = .ok (.iload_n 2, 1) := by decide +kernel
theorem dX0_holds_13 : decode cX0_holds 13 = .ok (.ifCond .lt 15, 3) := by decide +kernel
theorem dX0_holds_16 : decode cX0_holds 16 = .ok (.iload_n 2, 1) := by decide +kernel
theorem dX0_holds_17 : decode cX0_holds 17 = .ok (.aload_n 0, 1) := by decide +kernel
theorem dX0_holds_18 : decode cX0_holds 18 = .ok (.getfield 32, 3) := by decide +kernel
theorem dX0_holds_21 : decode cX0_holds 21 = .ok (.if_icmp .ge 7, 3) := by decide +kernel
theorem dX0_holds_24 : decode cX0_holds 24 = .ok (.iconst 1, 1) := by decide +kernel
theorem dX0_holds_25 : decode cX0_holds 25 = .ok (.goto 4, 3) := by decide +kernel
theorem dX0_holds_28 : decode cX0_holds 28 = .ok (.iconst 0, 1) := by decide +kernel
theorem dX0_holds_29 : decode cX0_holds 29 = .ok (.ireturn, 1) := by decide +kernel
set_option maxRecDepth 20000 in
theorem ggX0_leadsAt_X0_place : GoodIn wsX0_leadsAt wsX0_place := goodIn_r _ [6, 7, 8, 9, 10, 11, 12, 13, 14, 15, 16, 17, 18, 19, 20, 21] (by decide +kernel) (by decide +kernel)
set_option maxRecDepth 20000 in
theorem gX0_leadsAt_X0_place : GoodIn wsX0_leadsAt (wsV RX0 56 RX0 yX0_place wsX0_place) := goodIn_app (goodIn_of _ (by decide +kernel)) ggX0_leadsAt_X0_place
theorem dX0_leadsAt_0 : decode cX0_leadsAt 0 = .ok (.aload_n 0, 1) := by decide +kernel
theorem dX0_leadsAt_1 : decode cX0_leadsAt 1 = .ok (.getfield 38, 3) := by decide +kernel
theorem dX0_leadsAt_4 : decode cX0_leadsAt 4 = .ok (.aload_n 0, 1) := by decide +kernel
theorem dX0_leadsAt_5 : decode cX0_leadsAt 5 = .ok (.iload_n 1, 1) := by decide +kernel
theorem dX0_leadsAt_6 : decode cX0_leadsAt 6 = .ok (.iload_n 2, 1) := by decide +kernel
theorem dX0_leadsAt_7 : decode cX0_leadsAt 7 = .ok (.invokevirtual 56, 3) := by decide +kernel
theorem dX0_leadsAt_10 : decode cX0_leadsAt 10 = .ok (.iaload, 1) := by decide +kernel
theorem dX0_leadsAt_11 : decode cX0_leadsAt 11 = .ok (.ireturn, 1) := by decide +kernel
set_option maxRecDepth 20000 in
theorem ggX0_warmthAt_X0_place : GoodIn wsX0_warmthAt wsX0_place := goodIn_r _ [8, 9, 10, 11, 12, 13, 14, 15, 16, 17, 18, 19, 20, 21, 22, 23] (by decide +kernel) (by decide +kernel)
set_option maxRecDepth 20000 in
theorem gX0_warmthAt_X0_place : GoodIn wsX0_warmthAt (wsV RX0 56 RX0 yX0_place wsX0_place) := goodIn_app (goodIn_of _ (by decide +kernel)) ggX0_warmthAt_X0_place
theorem dX0_warmthAt_0 : decode cX0_warmthAt 0 = .ok (.aload_n 0, 1) := by decide +kernel
theorem dX0_warmthAt_1 : decode cX0_warmthAt 1 = .ok (.iload_n 1, 1) := by decide +kernel
theorem dX0_warmthAt_2 : decode cX0_warmthAt 2 = .ok (.iload_n 2, 1) := by decide +kernel
theorem dX0_warmthAt_3 : decode cX0_warmthAt 3 = .ok (.invokevirtual 56, 3) := by decide +kernel
theorem dX0_warmthAt_6 : decode cX0_warmthAt 6 = .ok (.istore_n 3, 1) := by decide +kernel
theorem dX0_warmthAt_7 : decode cX0_warmthAt 7 = .ok (.aload_n 0, 1) := by decide +kernel
theorem dX0_warmthAt_8 : decode cX0_warmthAt 8 = .ok (.getfield 38, 3) := by decide +kernel
theorem dX0_warmthAt_11 : decode cX0_warmthAt 11 = .ok (.iload_n 3, 1) := by decide +kernel
theorem dX0_warmthAt_12 : decode cX0_warmthAt 12 = .ok (.iaload, 1) := by decide +kernel
theorem dX0_warmthAt_13 : decode cX0_warmthAt 13 = .ok (.ifCond .le 12, 3) := by decide +kernel
theorem dX0_warmthAt_16 : decode cX0_warmthAt 16 = .ok (.aload_n 0, 1) := by decide +kernel
theorem dX0_warmthAt_17 : decode cX0_warmthAt 17 = .ok (.getfield 41, 3) := by decide +kernel
theorem dX0_warmthAt_20 : decode cX0_warmthAt 20 = .ok (.iload_n 3, 1) := by decide +kernel
theorem dX0_warmthAt_21 : decode cX0_warmthAt 21 = .ok (.iaload, 1) := by decide +kernel
theorem dX0_warmthAt_22 : decode cX0_warmthAt 22 = .ok (.goto 5, 3) := by decide +kernel
theorem dX0_warmthAt_25 : decode cX0_warmthAt 25 = .ok (.ldc 60, 2) := by decide +kernel
theorem dX0_warmthAt_27 : decode cX0_warmthAt 27 = .ok (.ireturn, 1) := by decide +kernel
set_option maxRecDepth 20000 in
theorem ggX0_fill_X0_place : GoodIn wsX0_fill wsX0_place := goodIn_r _ [7, 8, 9, 10, 11, 12, 13, 14, 15, 16, 17, 18, 19, 20, 21, 22] (by decide +kernel) (by decide +kernel)
set_option maxRecDepth 20000 in
theorem gX0_fill_X0_place : GoodIn wsX0_fill (wsV RX0 56 RX0 yX0_place wsX0_place) := goodIn_app (goodIn_of _ (by decide +kernel)) ggX0_fill_X0_place
theorem dX0_fill_0 : decode cX0_fill 0 = .ok (.iload_n 2, 1) := by decide +kernel
theorem dX0_fill_1 : decode cX0_fill 1 = .ok (.istore 6, 2) := by decide +kernel
theorem dX0_fill_3 : decode cX0_fill 3 = .ok (.iload 6, 2) := by decide +kernel
theorem dX0_fill_5 : decode cX0_fill 5 = .ok (.iload 4, 2) := by decide +kernel
theorem dX0_fill_7 : decode cX0_fill 7 = .ok (.if_icmp .gt 39, 3) := by decide +kernel
theorem dX0_fill_10 : decode cX0_fill 10 = .ok (.iload_n 1, 1) := by decide +kernel
theorem dX0_fill_11 : decode cX0_fill 11 = .ok (.istore 7, 2) := by decide +kernel
theorem dX0_fill_13 : decode cX0_fill 13 = .ok (.iload 7, 2) := by decide +kernel
theorem dX0_fill_15 : decode cX0_fill 15 = .ok (.iload_n 3, 1) := by decide +kernel
theorem dX0_fill_16 : decode cX0_fill 16 = .ok (.if_icmp .gt 24, 3) := by decide +kernel
theorem dX0_fill_19 : decode cX0_fill 19 = .ok (.aload_n 0, 1) := by decide +kernel
theorem dX0_fill_20 : decode cX0_fill 20 = .ok (.getfield 38, 3) := by decide +kernel
theorem dX0_fill_23 : decode cX0_fill 23 = .ok (.aload_n 0, 1) := by decide +kernel
theorem dX0_fill_24 : decode cX0_fill 24 = .ok (.iload 7, 2) := by decide +kernel
theorem dX0_fill_26 : decode cX0_fill 26 = .ok (.iload 6, 2) := by decide +kernel
theorem dX0_fill_28 : decode cX0_fill 28 = .ok (.invokevirtual 56, 3) := by decide +kernel
theorem dX0_fill_31 : decode cX0_fill 31 = .ok (.iload 5, 2) := by decide +kernel
theorem dX0_fill_33 : decode cX0_fill 33 = .ok (.iastore, 1) := by decide +kernel
theorem dX0_fill_34 : decode cX0_fill 34 = .ok (.iinc 7 1, 3) := by decide +kernel
theorem dX0_fill_37 : decode cX0_fill 37 = .ok (.goto (-24), 3) := by decide +kernel
theorem dX0_fill_40 : decode cX0_fill 40 = .ok (.iinc 6 1, 3) := by decide +kernel
theorem dX0_fill_43 : decode cX0_fill 43 = .ok (.goto (-40), 3) := by decide +kernel
theorem dX0_fill_46 : decode cX0_fill 46 = .ok (.aload_n 0, 1) := by decide +kernel
theorem dX0_fill_47 : decode cX0_fill 47 = .ok (.iconst 0, 1) := by decide +kernel
theorem dX0_fill_48 : decode cX0_fill 48 = .ok (.putfield 25, 3) := by decide +kernel
theorem dX0_fill_51 : decode cX0_fill 51 = .ok (.return_, 1) := by decide +kernel
set_option maxRecDepth 20000 in
theorem ggX0_changeSide_X0_countAlong : GoodIn wsX0_changeSide wsX0_countAlong := goodIn_r _ [10, 11, 12, 26, 27, 28, 29, 30, 31, 32, 33, 34, 35, 36, 37, 38, 39] (by decide +kernel) (by decide +kernel)
set_option maxRecDepth 20000 in
theorem gX0_changeSide_X0_countAlong : GoodIn wsX0_changeSide (wsV RX0 61 RX0 yX0_countAlong wsX0_countAlong) := goodIn_app (goodIn_of _ (by decide +kernel)) ggX0_changeSide_X0_countAlong
set_option maxRecDepth 20000 in
theorem ggX0_changeSide_X0_cellAlong : GoodIn wsX0_changeSide wsX0_cellAlong := goodIn_r _ [16, 11, 12, 17, 18, 19, 9, 20, 21, 26, 27, 28, 29, 30, 31, 32, 33, 34, 35, 36, 37, 38, 39] (by decide +kernel) (by decide +kernel)
set_option maxRecDepth 20000 in
theorem gX0_changeSide_X0_cellAlong : GoodIn wsX0_changeSide (wsV RX0 65 RX0 yX0_cellAlong wsX0_cellAlong) := goodIn_app (goodIn_of _ (by decide +kernel)) ggX0_changeSide_X0_cellAlong
set_option maxRecDepth 20000 in
theorem ggX0_changeSide_X0_outward : GoodIn wsX0_changeSide wsX0_outward := goodIn_r _ [25, 21, 26, 27, 28, 29, 30, 31, 32, 33, 34, 35, 36, 37, 38, 39] (by decide +kernel) (by decide +kernel)
set_option maxRecDepth 20000 in
theorem gX0_changeSide_X0_outward : GoodIn wsX0_changeSide (wsV RX0 68 RX0 yX0_outward wsX0_outward) := goodIn_app (goodIn_of _ (by decide +kernel)) ggX0_changeSide_X0_outward
theorem dX0_changeSide_0 : decode cX0_changeSide 0 = .ok (.aload_n 0, 1) := by decide +kernel
theorem dX0_changeSide_1 : decode cX0_changeSide 1 = .ok (.getfield 15, 3) := by decide +kernel
theorem dX0_changeSide_4 : decode cX0_changeSide 4 = .ok (.iload_n 1, 1) := by decide +kernel
theorem dX0_changeSide_5 : decode cX0_changeSide 5 = .ok (.iaload, 1) := by decide +kernel
theorem dX0_changeSide_6 : decode cX0_changeSide 6 = .ok (.istore 4, 2) := by decide +kernel
theorem dX0_changeSide_8 : decode cX0_changeSide 8 = .ok (.aload_n 0, 1) := by decide +kernel
theorem dX0_changeSide_9 : decode cX0_changeSide 9 = .ok (.getfield 9, 3) := by decide +kernel
theorem dX0_changeSide_12 : decode cX0_changeSide 12 = .ok (.iload_n 1, 1) := by decide +kernel
theorem dX0_changeSide_13 : decode cX0_changeSide 13 = .ok (.iload_n 2, 1) := by decide +kernel
theorem dX0_changeSide_14 : decode cX0_changeSide 14 = .ok (.iastore, 1) := by decide +kernel
theorem dX0_changeSide_15 : decode cX0_changeSide 15 = .ok (.aload_n 0, 1) := by decide +kernel
theorem dX0_changeSide_16 : decode cX0_changeSide 16 = .ok (.getfield 15, 3) := by decide +kernel
theorem dX0_changeSide_19 : decode cX0_changeSide 19 = .ok (.iload_n 1, 1) := by decide +kernel
theorem dX0_changeSide_20 : decode cX0_changeSide 20 = .ok (.iload_n 3, 1) := by decide +kernel
theorem dX0_changeSide_21 : decode cX0_changeSide 21 = .ok (.iastore, 1) := by decide +kernel
theorem dX0_changeSide_22 : decode cX0_changeSide 22 = .ok (.aload_n 0, 1) := by decide +kernel
theorem dX0_changeSide_23 : decode cX0_changeSide 23 = .ok (.iload_n 1, 1) := by decide +kernel
theorem dX0_changeSide_24 : decode cX0_changeSide 24 = .ok (.invokevirtual 61, 3) := by decide +kernel
theorem dX0_changeSide_27 : decode cX0_changeSide 27 = .ok (.istore 5, 2) := by decide +kernel
theorem dX0_changeSide_29 : decode cX0_changeSide 29 = .ok (.iconst 0, 1) := by decide +kernel
theorem dX0_changeSide_30 : decode cX0_changeSide 30 = .ok (.istore 6, 2) := by decide +kernel
theorem dX0_changeSide_32 : decode cX0_changeSide 32 = .ok (.iload 6, 2) := by decide +kernel
theorem dX0_changeSide_34 : decode cX0_changeSide 34 = .ok (.iload 5, 2) := by decide +kernel
theorem dX0_changeSide_36 : decode cX0_changeSide 36 = .ok (.if_icmp .ge 40, 3) := by decide +kernel
theorem dX0_changeSide_39 : decode cX0_changeSide 39 = .ok (.aload_n 0, 1) := by decide +kernel
theorem dX0_changeSide_40 : decode cX0_changeSide 40 = .ok (.iload_n 1, 1) := by decide +kernel
theorem dX0_changeSide_41 : decode cX0_changeSide 41 = .ok (.iload 6, 2) := by decide +kernel
theorem dX0_changeSide_43 : decode cX0_changeSide 43 = .ok (.invokevirtual 65, 3) := by decide +kernel
theorem dX0_changeSide_46 : decode cX0_changeSide 46 = .ok (.aload_n 0, 1) := by decide +kernel
theorem dX0_changeSide_47 : decode cX0_changeSide 47 = .ok (.iload_n 1, 1) := by decide +kernel
theorem dX0_changeSide_48 : decode cX0_changeSide 48 = .ok (.invokevirtual 68, 3) := by decide +kernel
theorem dX0_changeSide_51 : decode cX0_changeSide 51 = .ok (.iadd, 1) := by decide +kernel
theorem dX0_changeSide_52 : decode cX0_changeSide 52 = .ok (.istore 7, 2) := by decide +kernel
theorem dX0_changeSide_54 : decode cX0_changeSide 54 = .ok (.aload_n 0, 1) := by decide +kernel
theorem dX0_changeSide_55 : decode cX0_changeSide 55 = .ok (.getfield 38, 3) := by decide +kernel
theorem dX0_changeSide_58 : decode cX0_changeSide 58 = .ok (.iload 7, 2) := by decide +kernel
theorem dX0_changeSide_60 : decode cX0_changeSide 60 = .ok (.iload_n 3, 1) := by decide +kernel
theorem dX0_changeSide_61 : decode cX0_changeSide 61 = .ok (.iastore, 1) := by decide +kernel
theorem dX0_changeSide_62 : decode cX0_changeSide 62 = .ok (.aload_n 0, 1) := by decide +kernel
theorem dX0_changeSide_63 : decode cX0_changeSide 63 = .ok (.getfield 41, 3) := by decide +kernel
theorem dX0_changeSide_66 : decode cX0_changeSide 66 = .ok (.iload 7, 2) := by decide +kernel
theorem dX0_changeSide_68 : decode cX0_changeSide 68 = .ok (.iload_n 2, 1) := by decide +kernel
theorem dX0_changeSide_69 : decode cX0_changeSide 69 = .ok (.iastore, 1) := by decide +kernel
theorem dX0_changeSide_70 : decode cX0_changeSide 70 = .ok (.iinc 6 1, 3) := by decide +kernel
theorem dX0_changeSide_73 : decode cX0_changeSide 73 = .ok (.goto (-41), 3) := by decide +kernel
theorem dX0_changeSide_76 : decode cX0_changeSide 76 = .ok (.aload_n 0, 1) := by decide +kernel
theorem dX0_changeSide_77 : decode cX0_changeSide 77 = .ok (.iconst 0, 1) := by decide +kernel
theorem dX0_changeSide_78 : decode cX0_changeSide 78 = .ok (.putfield 25, 3) := by decide +kernel
theorem dX0_changeSide_81 : decode cX0_changeSide 81 = .ok (.iload 4, 2) := by decide +kernel
theorem dX0_changeSide_83 : decode cX0_changeSide 83 = .ok (.ireturn, 1) := by decide +kernel
set_option maxRecDepth 20000 in
theorem ggX0_settle_X0_findLowAndHigh : GoodIn wsX0_settle wsX0_findLowAndHigh := goodIn_r _ [10, 5, 4, 11, 12, 13, 14, 15, 16, 17, 18, 19, 54, 55, 56, 57, 58, 59, 60, 61, 62, 63, 64, 65, 66, 67] (by decide +kernel) (by decide +kernel)
set_option maxRecDepth 20000 in
theorem gX0_settle_X0_findLowAndHigh : GoodIn wsX0_settle (wsV RX0 71 RX0 yX0_findLowAndHigh wsX0_findLowAndHigh) := goodIn_app (goodIn_of _ (by decide +kernel)) ggX0_settle_X0_findLowAndHigh
set_option maxRecDepth 20000 in
theorem ggX0_settle_X0_joinNeighbours : GoodIn wsX0_settle wsX0_joinNeighbours := goodIn_r _ [23, 3, 2, 24, 25, 26, 27, 28, 29, 30, 9, 31, 32, 33, 34, 54, 55, 56, 57, 58, 59, 60, 61, 62, 63, 64, 65, 66, 67] (by decide +kernel) (by decide +kernel)
set_option maxRecDepth 20000 in
theorem gX0_settle_X0_joinNeighbours : GoodIn wsX0_settle (wsV RX0 74 RX0 yX0_joinNeighbours wsX0_joinNeighbours) := goodIn_app (goodIn_of _ (by decide +kernel)) ggX0_settle_X0_joinNeighbours
set_option maxRecDepth 20000 in
theorem ggX0_settle_X0_startAtLow : GoodIn wsX0_settle wsX0_startAtLow := goodIn_r _ [38, 3, 2, 39, 5, 28, 29, 30, 9, 31, 27, 40, 41, 42, 43, 24, 26, 44, 45, 54, 55, 56, 57, 58, 59, 60, 61, 62, 63, 64, 65, 66, 67] (by decide +kernel) (by decide +kernel)
set_option maxRecDepth 20000 in
theorem gX0_settle_X0_startAtLow : GoodIn wsX0_settle (wsV RX0 77 RX0 yX0_startAtLow wsX0_startAtLow) := goodIn_app (goodIn_of _ (by decide +kernel)) ggX0_settle_X0_startAtLow
set_option maxRecDepth 20000 in
theorem ggX0_settle_X0_raiseAll : GoodIn wsX0_settle wsX0_raiseAll := goodIn_r _ [49, 3, 2, 44, 45, 28, 29, 30, 9, 31, 27, 50, 51, 52, 53, 39, 24, 26, 54, 55, 56, 57, 58, 59, 60, 61, 62, 63, 64, 65, 66, 67] (by decide +kernel) (by decide +kernel)
set_option maxRecDepth 20000 in
theorem gX0_settle_X0_raiseAll : GoodIn wsX0_settle (wsV RX0 80 RX0 yX0_raiseAll wsX0_raiseAll) := goodIn_app (goodIn_of _ (by decide +kernel)) ggX0_settle_X0_raiseAll
theorem dX0_settle_0 : decode cX0_settle 0 = .ok (.aload_n 0, 1) := by decide +kernel
theorem dX0_settle_1 : decode cX0_settle 1 = .ok (.getfield 25, 3) := by decide +kernel
theorem dX0_settle_4 : decode cX0_settle 4 = .ok (.ifCond .eq 4, 3) := by decide +kernel
theorem dX0_settle_7 : decode cX0_settle 7 = .ok (.return_, 1) := by decide +kernel
theorem dX0_settle_8 : decode cX0_settle 8 = .ok (.aload_n 0, 1) := by decide +kernel
theorem dX0_settle_9 : decode cX0_settle 9 = .ok (.invokevirtual 71, 3) := by decide +kernel
theorem dX0_settle_12 : decode cX0_settle 12 = .ok (.aload_n 0, 1) := by decide +kernel
theorem dX0_settle_13 : decode cX0_settle 13 = .ok (.invokevirtual 74, 3) := by decide +kernel
theorem dX0_settle_16 : decode cX0_settle 16 = .ok (.aload_n 0, 1) := by decide +kernel
theorem dX0_settle_17 : decode cX0_settle 17 = .ok (.invokevirtual 77, 3) := by decide +kernel
theorem dX0_settle_20 : decode cX0_settle 20 = .ok (.aload_n 0, 1) := by decide +kernel
theorem dX0_settle_21 : decode cX0_settle 21 = .ok (.getfield 29, 3) := by decide +kernel
theorem dX0_settle_24 : decode cX0_settle 24 = .ok (.aload_n 0, 1) := by decide +kernel
theorem dX0_settle_25 : decode cX0_settle 25 = .ok (.getfield 32, 3) := by decide +kernel
theorem dX0_settle_28 : decode cX0_settle 28 = .ok (.imul, 1) := by decide +kernel
theorem dX0_settle_29 : decode cX0_settle 29 = .ok (.aload_n 0, 1) := by decide +kernel
theorem dX0_settle_30 : decode cX0_settle 30 = .ok (.getfield 22, 3) := by decide +kernel
theorem dX0_settle_33 : decode cX0_settle 33 = .ok (.aload_n 0, 1) := by decide +kernel
theorem dX0_settle_34 : decode cX0_settle 34 = .ok (.getfield 18, 3) := by decide +kernel
theorem dX0_settle_37 : decode cX0_settle 37 = .ok (.isub, 1) := by decide +kernel
theorem dX0_settle_38 : decode cX0_settle 38 = .ok (.imul, 1) := by decide +kernel
theorem dX0_settle_39 : decode cX0_settle 39 = .ok (.iconst 1, 1) := by decide +kernel
theorem dX0_settle_40 : decode cX0_settle 40 = .ok (.iadd, 1) := by decide +kernel
theorem dX0_settle_41 : decode cX0_settle 41 = .ok (.istore_n 1, 1) := by decide +kernel
theorem dX0_settle_42 : decode cX0_settle 42 = .ok (.iconst 1, 1) := by decide +kernel
theorem dX0_settle_43 : decode cX0_settle 43 = .ok (.istore_n 2, 1) := by decide +kernel
theorem dX0_settle_44 : decode cX0_settle 44 = .ok (.iconst 0, 1) := by decide +kernel
theorem dX0_settle_45 : decode cX0_settle 45 = .ok (.istore_n 3, 1) := by decide +kernel
theorem dX0_settle_46 : decode cX0_settle 46 = .ok (.iload_n 3, 1) := by decide +kernel
theorem dX0_settle_47 : decode cX0_settle 47 = .ok (.iload_n 1, 1) := by decide +kernel
theorem dX0_settle_48 : decode cX0_settle 48 = .ok (.if_icmp .ge 18, 3) := by decide +kernel
theorem dX0_settle_51 : decode cX0_settle 51 = .ok (.iload_n 2, 1) := by decide +kernel
theorem dX0_settle_52 : decode cX0_settle 52 = .ok (.ifCond .eq 14, 3) := by decide +kernel
theorem dX0_settle_55 : decode cX0_settle 55 = .ok (.aload_n 0, 1) := by decide +kernel
theorem dX0_settle_56 : decode cX0_settle 56 = .ok (.invokevirtual 80, 3) := by decide +kernel
theorem dX0_settle_59 : decode cX0_settle 59 = .ok (.istore_n 2, 1) := by decide +kernel
theorem dX0_settle_60 : decode cX0_settle 60 = .ok (.iinc 3 1, 3) := by decide +kernel
theorem dX0_settle_63 : decode cX0_settle 63 = .ok (.goto (-17), 3) := by decide +kernel
theorem dX0_settle_66 : decode cX0_settle 66 = .ok (.aload_n 0, 1) := by decide +kernel
theorem dX0_settle_67 : decode cX0_settle 67 = .ok (.iconst 1, 1) := by decide +kernel
theorem dX0_settle_68 : decode cX0_settle 68 = .ok (.putfield 25, 3) := by decide +kernel
theorem dX0_settle_71 : decode cX0_settle 71 = .ok (.return_, 1) := by decide +kernel
set_option maxRecDepth 20000 in
theorem ggX0_countThere_X0_leadsAt : GoodIn wsX0_countThere wsX0_leadsAt := goodIn_r _ [7, 8, 9, 10, 11, 6, 12, 13, 14, 15, 16, 17, 18, 19, 20, 21, 22, 23, 24, 25, 26, 27] (by decide +kernel) (by decide +kernel)
set_option maxRecDepth 20000 in
theorem gX0_countThere_X0_leadsAt : GoodIn wsX0_countThere (wsV RX0 84 RX0 yX0_leadsAt wsX0_leadsAt) := goodIn_app (goodIn_of _ (by decide +kernel)) ggX0_countThere_X0_leadsAt
theorem dX0_countThere_0 : decode cX0_countThere 0 = .ok (.iconst 0, 1) := by decide +kernel
theorem dX0_countThere_1 : decode cX0_countThere 1 = .ok (.istore_n 1, 1) := by decide +kernel
theorem dX0_countThere_2 : decode cX0_countThere 2 = .ok (.iconst 0, 1) := by decide +kernel
theorem dX0_countThere_3 : decode cX0_countThere 3 = .ok (.istore_n 2, 1) := by decide +kernel
theorem dX0_countThere_4 : decode cX0_countThere 4 = .ok (.iload_n 2, 1) := by decide +kernel
theorem dX0_countThere_5 : decode cX0_countThere 5 = .ok (.aload_n 0, 1) := by decide +kernel
theorem dX0_countThere_6 : decode cX0_countThere 6 = .ok (.getfield 32, 3) := by decide +kernel
theorem dX0_countThere_9 : decode cX0_countThere 9 = .ok (.if_icmp .ge 42, 3) := by decide +kernel
theorem dX0_countThere_12 : decode cX0_countThere 12 = .ok (.iconst 0, 1) := by decide +kernel
theorem dX0_countThere_13 : decode cX0_countThere 13 = .ok (.istore_n 3, 1) := by decide +kernel
theorem dX0_countThere_14 : decode cX0_countThere 14 = .ok (.iload_n 3, 1) := by decide +kernel
theorem dX0_countThere_15 : decode cX0_countThere 15 = .ok (.aload_n 0, 1) := by decide +kernel
theorem dX0_countThere_16 : decode cX0_countThere 16 = .ok (.getfield 29, 3) := by decide +kernel
theorem dX0_countThere_19 : decode cX0_countThere 19 = .ok (.if_icmp .ge 26, 3) := by decide +kernel
theorem dX0_countThere_22 : decode cX0_countThere 22 = .ok (.iload_n 1, 1) := by decide +kernel
theorem dX0_countThere_23 : decode cX0_countThere 23 = .ok (.aload_n 0, 1) := by decide +kernel
theorem dX0_countThere_24 : decode cX0_countThere 24 = .ok (.iload_n 3, 1) := by decide +kernel
theorem dX0_countThere_25 : decode cX0_countThere 25 = .ok (.iload_n 2, 1) := by decide +kernel
theorem dX0_countThere_26 : decode cX0_countThere 26 = .ok (.invokevirtual 84, 3) := by decide +kernel
theorem dX0_countThere_29 : decode cX0_countThere 29 = .ok (.ifCond .le 7, 3) := by decide +kernel
theorem dX0_countThere_32 : decode cX0_countThere 32 = .ok (.iconst 1, 1) := by decide +kernel
theorem dX0_countThere_33 : decode cX0_countThere 33 = .ok (.goto 4, 3) := by decide +kernel
theorem dX0_countThere_36 : decode cX0_countThere 36 = .ok (.iconst 0, 1) := by decide +kernel
theorem dX0_countThere_37 : decode cX0_countThere 37 = .ok (.iadd, 1) := by decide +kernel
theorem dX0_countThere_38 : decode cX0_countThere 38 = .ok (.istore_n 1, 1) := by decide +kernel
theorem dX0_countThere_39 : decode cX0_countThere 39 = .ok (.iinc 3 1, 3) := by decide +kernel
theorem dX0_countThere_42 : decode cX0_countThere 42 = .ok (.goto (-28), 3) := by decide +kernel
theorem dX0_countThere_45 : decode cX0_countThere 45 = .ok (.iinc 2 1, 3) := by decide +kernel
theorem dX0_countThere_48 : decode cX0_countThere 48 = .ok (.goto (-44), 3) := by decide +kernel
theorem dX0_countThere_51 : decode cX0_countThere 51 = .ok (.iload_n 1, 1) := by decide +kernel
theorem dX0_countThere_52 : decode cX0_countThere 52 = .ok (.ireturn, 1) := by decide +kernel
set_option maxRecDepth 20000 in
theorem ggX0_countAlone_X0_leadsAt : GoodIn wsX0_countAlone wsX0_leadsAt := goodIn_r _ [8, 9, 10, 11, 12, 7, 13, 14, 15, 16, 17, 18, 19, 20, 21, 22, 23, 24, 25, 26, 27, 28] (by decide +kernel) (by decide +kernel)
set_option maxRecDepth 20000 in
theorem gX0_countAlone_X0_leadsAt : GoodIn wsX0_countAlone (wsV RX0 84 RX0 yX0_leadsAt wsX0_leadsAt) := goodIn_app (goodIn_of _ (by decide +kernel)) ggX0_countAlone_X0_leadsAt
set_option maxRecDepth 20000 in
theorem ggX0_countAlone_X0_place : GoodIn wsX0_countAlone wsX0_place := goodIn_r _ [13, 14, 15, 16, 17, 18, 19, 20, 21, 22, 23, 24, 25, 26, 27, 28] (by decide +kernel) (by decide +kernel)
set_option maxRecDepth 20000 in
theorem gX0_countAlone_X0_place : GoodIn wsX0_countAlone (wsV RX0 56 RX0 yX0_place wsX0_place) := goodIn_app (goodIn_of _ (by decide +kernel)) ggX0_countAlone_X0_place
theorem dX0_countAlone_0 : decode cX0_countAlone 0 = .ok (.iconst 0, 1) := by decide +kernel
theorem dX0_countAlone_1 : decode cX0_countAlone 1 = .ok (.istore_n 1, 1) := by decide +kernel
theorem dX0_countAlone_2 : decode cX0_countAlone 2 = .ok (.iconst 0, 1) := by decide +kernel
theorem dX0_countAlone_3 : decode cX0_countAlone 3 = .ok (.istore_n 2, 1) := by decide +kernel
theorem dX0_countAlone_4 : decode cX0_countAlone 4 = .ok (.iload_n 2, 1) := by decide +kernel
theorem dX0_countAlone_5 : decode cX0_countAlone 5 = .ok (.aload_n 0, 1) := by decide +kernel
theorem dX0_countAlone_6 : decode cX0_countAlone 6 = .ok (.getfield 32, 3) := by decide +kernel
theorem dX0_countAlone_9 : decode cX0_countAlone 9 = .ok (.if_icmp .ge 56, 3) := by decide +kernel
theorem dX0_countAlone_12 : decode cX0_countAlone 12 = .ok (.iconst 0, 1) := by decide +kernel
theorem dX0_countAlone_13 : decode cX0_countAlone 13 = .ok (.istore_n 3, 1) := by decide +kernel
theorem dX0_countAlone_14 : decode cX0_countAlone 14 = .ok (.iload_n 3, 1) := by decide +kernel
theorem dX0_countAlone_15 : decode cX0_countAlone 15 = .ok (.aload_n 0, 1) := by decide +kernel
theorem dX0_countAlone_16 : decode cX0_countAlone 16 = .ok (.getfield 29, 3) := by decide +kernel
theorem dX0_countAlone_19 : decode cX0_countAlone 19 = .ok (.if_icmp .ge 40, 3) := by decide +kernel
theorem dX0_countAlone_22 : decode cX0_countAlone 22 = .ok (.iload_n 1, 1) := by decide +kernel
theorem dX0_countAlone_23 : decode cX0_countAlone 23 = .ok (.aload_n 0, 1) := by decide +kernel
theorem dX0_countAlone_24 : decode cX0_countAlone 24 = .ok (.iload_n 3, 1) := by decide +kernel
theorem dX0_countAlone_25 : decode cX0_countAlone 25 = .ok (.iload_n 2, 1) := by decide +kernel
theorem dX0_countAlone_26 : decode cX0_countAlone 26 = .ok (.invokevirtual 84, 3) := by decide +kernel
theorem dX0_countAlone_29 : decode cX0_countAlone 29 = .ok (.ifCond .le 21, 3) := by decide +kernel
theorem dX0_countAlone_32 : decode cX0_countAlone 32 = .ok (.aload_n 0, 1) := by decide +kernel
theorem dX0_countAlone_33 : decode cX0_countAlone 33 = .ok (.getfield 50, 3) := by decide +kernel
theorem dX0_countAlone_36 : decode cX0_countAlone 36 = .ok (.aload_n 0, 1) := by decide +kernel
theorem dX0_countAlone_37 : decode cX0_countAlone 37 = .ok (.iload_n 3, 1) := by decide +kernel
theorem dX0_countAlone_38 : decode cX0_countAlone 38 = .ok (.iload_n 2, 1) := by decide +kernel
theorem dX0_countAlone_39 : decode cX0_countAlone 39 = .ok (.invokevirtual 56, 3) := by decide +kernel
theorem dX0_countAlone_42 : decode cX0_countAlone 42 = .ok (.iaload, 1) := by decide +kernel
theorem dX0_countAlone_43 : decode cX0_countAlone 43 = .ok (.ifCond .ne 7, 3) := by decide +kernel
theorem dX0_countAlone_46 : decode cX0_countAlone 46 = .ok (.iconst 1, 1) := by decide +kernel
theorem dX0_countAlone_47 : decode cX0_countAlone 47 = .ok (.goto 4, 3) := by decide +kernel
theorem dX0_countAlone_50 : decode cX0_countAlone 50 = .ok (.iconst 0, 1) := by decide +kernel
theorem dX0_countAlone_51 : decode cX0_countAlone 51 = .ok (.iadd, 1) := by decide +kernel
theorem dX0_countAlone_52 : decode cX0_countAlone 52 = .ok (.istore_n 1, 1) := by decide +kernel
theorem dX0_countAlone_53 : decode cX0_countAlone 53 = .ok (.iinc 3 1, 3) := by decide +kernel
theorem dX0_countAlone_56 : decode cX0_countAlone 56 = .ok (.goto (-42), 3) := by decide +kernel
theorem dX0_countAlone_59 : decode cX0_countAlone 59 = .ok (.iinc 2 1, 3) := by decide +kernel
theorem dX0_countAlone_62 : decode cX0_countAlone 62 = .ok (.goto (-58), 3) := by decide +kernel
theorem dX0_countAlone_65 : decode cX0_countAlone 65 = .ok (.iload_n 1, 1) := by decide +kernel
theorem dX0_countAlone_66 : decode cX0_countAlone 66 = .ok (.ireturn, 1) := by decide +kernel
set_option maxRecDepth 20000 in
theorem ggX0_countColder_X0_leadsAt : GoodIn wsX0_countColder wsX0_leadsAt := goodIn_r _ [7, 8, 9, 10, 11, 6, 12, 13, 20, 21, 22, 23, 24, 25, 26, 27, 28, 29, 30, 31, 32, 33] (by decide +kernel) (by decide +kernel)
set_option maxRecDepth 20000 in
theorem gX0_countColder_X0_leadsAt : GoodIn wsX0_countColder (wsV RX0 84 RX0 yX0_leadsAt wsX0_leadsAt) := goodIn_app (goodIn_of _ (by decide +kernel)) ggX0_countColder_X0_leadsAt
set_option maxRecDepth 20000 in
theorem ggX0_countColder_X0_warmthAt : GoodIn wsX0_countColder wsX0_warmthAt := goodIn_r _ [17, 8, 18, 19, 9, 10, 11, 6, 12, 13, 20, 21, 22, 23, 24, 25, 26, 27, 28, 29, 30, 31, 32, 33] (by decide +kernel) (by decide +kernel)
set_option maxRecDepth 20000 in
theorem gX0_countColder_X0_warmthAt : GoodIn wsX0_countColder (wsV RX0 87 RX0 yX0_warmthAt wsX0_warmthAt) := goodIn_app (goodIn_of _ (by decide +kernel)) ggX0_countColder_X0_warmthAt
theorem dX0_countColder_0 : decode cX0_countColder 0 = .ok (.iconst 0, 1) := by decide +kernel
theorem dX0_countColder_1 : decode cX0_countColder 1 = .ok (.istore_n 2, 1) := by decide +kernel
theorem dX0_countColder_2 : decode cX0_countColder 2 = .ok (.iconst 0, 1) := by decide +kernel
theorem dX0_countColder_3 : decode cX0_countColder 3 = .ok (.istore_n 3, 1) := by decide +kernel
theorem dX0_countColder_4 : decode cX0_countColder 4 = .ok (.iload_n 3, 1) := by decide +kernel
theorem dX0_countColder_5 : decode cX0_countColder 5 = .ok (.aload_n 0, 1) := by decide +kernel
theorem dX0_countColder_6 : decode cX0_countColder 6 = .ok (.getfield 32, 3) := by decide +kernel
theorem dX0_countColder_9 : decode cX0_countColder 9 = .ok (.if_icmp .ge 56, 3) := by decide +kernel
theorem dX0_countColder_12 : decode cX0_countColder 12 = .ok (.iconst 0, 1) := by decide +kernel
theorem dX0_countColder_13 : decode cX0_countColder 13 = .ok (.istore 4, 2) := by decide +kernel
theorem dX0_countColder_15 : decode cX0_countColder 15 = .ok (.iload 4, 2) := by decide +kernel
theorem dX0_countColder_17 : decode cX0_countColder 17 = .ok (.aload_n 0, 1) := by decide +kernel
theorem dX0_countColder_18 : decode cX0_countColder 18 = .ok (.getfield 29, 3) := by decide +kernel
theorem dX0_countColder_21 : decode cX0_countColder 21 = .ok (.if_icmp .ge 38, 3) := by decide +kernel
theorem dX0_countColder_24 : decode cX0_countColder 24 = .ok (.iload_n 2, 1) := by decide +kernel
theorem dX0_countColder_25 : decode cX0_countColder 25 = .ok (.aload_n 0, 1) := by decide +kernel
theorem dX0_countColder_26 : decode cX0_countColder 26 = .ok (.iload 4, 2) := by decide +kernel
theorem dX0_countColder_28 : decode cX0_countColder 28 = .ok (.iload_n 3, 1) := by decide +kernel
theorem dX0_countColder_29 : decode cX0_countColder 29 = .ok (.invokevirtual 84, 3) := by decide +kernel
theorem dX0_countColder_32 : decode cX0_countColder 32 = .ok (.ifCond .le 18, 3) := by decide +kernel
theorem dX0_countColder_35 : decode cX0_countColder 35 = .ok (.aload_n 0, 1) := by decide +kernel
theorem dX0_countColder_36 : decode cX0_countColder 36 = .ok (.iload 4, 2) := by decide +kernel
theorem dX0_countColder_38 : decode cX0_countColder 38 = .ok (.iload_n 3, 1) := by decide +kernel
theorem dX0_countColder_39 : decode cX0_countColder 39 = .ok (.invokevirtual 87, 3) := by decide +kernel
theorem dX0_countColder_42 : decode cX0_countColder 42 = .ok (.iload_n 1, 1) := by decide +kernel
theorem dX0_countColder_43 : decode cX0_countColder 43 = .ok (.if_icmp .ge 7, 3) := by decide +kernel
theorem dX0_countColder_46 : decode cX0_countColder 46 = .ok (.iconst 1, 1) := by decide +kernel
theorem dX0_countColder_47 : decode cX0_countColder 47 = .ok (.goto 4, 3) := by decide +kernel
theorem dX0_countColder_50 : decode cX0_countColder 50 = .ok (.iconst 0, 1) := by decide +kernel
theorem dX0_countColder_51 : decode cX0_countColder 51 = .ok (.iadd, 1) := by decide +kernel
theorem dX0_countColder_52 : decode cX0_countColder 52 = .ok (.istore_n 2, 1) := by decide +kernel
theorem dX0_countColder_53 : decode cX0_countColder 53 = .ok (.iinc 4 1, 3) := by decide +kernel
theorem dX0_countColder_56 : decode cX0_countColder 56 = .ok (.goto (-41), 3) := by decide +kernel
theorem dX0_countColder_59 : decode cX0_countColder 59 = .ok (.iinc 3 1, 3) := by decide +kernel
theorem dX0_countColder_62 : decode cX0_countColder 62 = .ok (.goto (-58), 3) := by decide +kernel
theorem dX0_countColder_65 : decode cX0_countColder 65 = .ok (.iload_n 2, 1) := by decide +kernel
theorem dX0_countColder_66 : decode cX0_countColder 66 = .ok (.ireturn, 1) := by decide +kernel
set_option maxRecDepth 20000 in
theorem ggX0_sumOfWarmths_X0_leadsAt : GoodIn wsX0_sumOfWarmths wsX0_leadsAt := goodIn_r _ [7, 8, 9, 10, 11, 6, 12, 13, 20, 21, 22, 23, 24, 25, 26, 27, 28, 29, 30, 31, 32, 33] (by decide +kernel) (by decide +kernel)
set_option maxRecDepth 20000 in
theorem gX0_sumOfWarmths_X0_leadsAt : GoodIn wsX0_sumOfWarmths (wsV RX0 84 RX0 yX0_leadsAt wsX0_leadsAt) := goodIn_app (goodIn_of _ (by decide +kernel)) ggX0_sumOfWarmths_X0_leadsAt
set_option maxRecDepth 20000 in
theorem ggX0_sumOfWarmths_X0_warmthAt : GoodIn wsX0_sumOfWarmths wsX0_warmthAt := goodIn_r _ [17, 8, 18, 19, 9, 10, 11, 6, 12, 13, 20, 21, 22, 23, 24, 25, 26, 27, 28, 29, 30, 31, 32, 33] (by decide +kernel) (by decide +kernel)
set_option maxRecDepth 20000 in
theorem gX0_sumOfWarmths_X0_warmthAt : GoodIn wsX0_sumOfWarmths (wsV RX0 87 RX0 yX0_warmthAt wsX0_warmthAt) := goodIn_app (goodIn_of _ (by decide +kernel)) ggX0_sumOfWarmths_X0_warmthAt
theorem dX0_sumOfWarmths_0 : decode cX0_sumOfWarmths 0 = .ok (.lconst 0, 1) := by decide +kernel
theorem dX0_sumOfWarmths_1 : decode cX0_sumOfWarmths 1 = .ok (.lstore_n 1, 1) := by decide +kernel
theorem dX0_sumOfWarmths_2 : decode cX0_sumOfWarmths 2 = .ok (.iconst 0, 1) := by decide +kernel
theorem dX0_sumOfWarmths_3 : decode cX0_sumOfWarmths 3 = .ok (.istore_n 3, 1) := by decide +kernel
theorem dX0_sumOfWarmths_4 : decode cX0_sumOfWarmths 4 = .ok (.iload_n 3, 1) := by decide +kernel
theorem dX0_sumOfWarmths_5 : decode cX0_sumOfWarmths 5 = .ok (.aload_n 0, 1) := by decide +kernel
theorem dX0_sumOfWarmths_6 : decode cX0_sumOfWarmths 6 = .ok (.getfield 32, 3) := by decide +kernel
theorem dX0_sumOfWarmths_9 : decode cX0_sumOfWarmths 9 = .ok (.if_icmp .ge 52, 3) := by decide +kernel
theorem dX0_sumOfWarmths_12 : decode cX0_sumOfWarmths 12 = .ok (.iconst 0, 1) := by decide +kernel
theorem dX0_sumOfWarmths_13 : decode cX0_sumOfWarmths 13 = .ok (.istore 4, 2) := by decide +kernel
theorem dX0_sumOfWarmths_15 : decode cX0_sumOfWarmths 15 = .ok (.iload 4, 2) := by decide +kernel
theorem dX0_sumOfWarmths_17 : decode cX0_sumOfWarmths 17 = .ok (.aload_n 0, 1) := by decide +kernel
theorem dX0_sumOfWarmths_18 : decode cX0_sumOfWarmths 18 = .ok (.getfield 29, 3) := by decide +kernel
theorem dX0_sumOfWarmths_21 : decode cX0_sumOfWarmths 21 = .ok (.if_icmp .ge 34, 3) := by decide +kernel
theorem dX0_sumOfWarmths_24 : decode cX0_sumOfWarmths 24 = .ok (.lload_n 1, 1) := by decide +kernel
theorem dX0_sumOfWarmths_25 : decode cX0_sumOfWarmths 25 = .ok (.aload_n 0, 1) := by decide +kernel
theorem dX0_sumOfWarmths_26 : decode cX0_sumOfWarmths 26 = .ok (.iload 4, 2) := by decide +kernel
theorem dX0_sumOfWarmths_28 : decode cX0_sumOfWarmths 28 = .ok (.iload_n 3, 1) := by decide +kernel
theorem dX0_sumOfWarmths_29 : decode cX0_sumOfWarmths 29 = .ok (.invokevirtual 84, 3) := by decide +kernel
theorem dX0_sumOfWarmths_32 : decode cX0_sumOfWarmths 32 = .ok (.ifCond .le 14, 3) := by decide +kernel
theorem dX0_sumOfWarmths_35 : decode cX0_sumOfWarmths 35 = .ok (.aload_n 0, 1) := by decide +kernel
theorem dX0_sumOfWarmths_36 : decode cX0_sumOfWarmths 36 = .ok (.iload 4, 2) := by decide +kernel
theorem dX0_sumOfWarmths_38 : decode cX0_sumOfWarmths 38 = .ok (.iload_n 3, 1) := by decide +kernel
theorem dX0_sumOfWarmths_39 : decode cX0_sumOfWarmths 39 = .ok (.invokevirtual 87, 3) := by decide +kernel
theorem dX0_sumOfWarmths_42 : decode cX0_sumOfWarmths 42 = .ok (.i2l, 1) := by decide +kernel
theorem dX0_sumOfWarmths_43 : decode cX0_sumOfWarmths 43 = .ok (.goto 4, 3) := by decide +kernel
theorem dX0_sumOfWarmths_46 : decode cX0_sumOfWarmths 46 = .ok (.lconst 0, 1) := by decide +kernel
theorem dX0_sumOfWarmths_47 : decode cX0_sumOfWarmths 47 = .ok (.ladd, 1) := by decide +kernel
theorem dX0_sumOfWarmths_48 : decode cX0_sumOfWarmths 48 = .ok (.lstore_n 1, 1) := by decide +kernel
theorem dX0_sumOfWarmths_49 : decode cX0_sumOfWarmths 49 = .ok (.iinc 4 1, 3) := by decide +kernel
theorem dX0_sumOfWarmths_52 : decode cX0_sumOfWarmths 52 = .ok (.goto (-37), 3) := by decide +kernel
theorem dX0_sumOfWarmths_55 : decode cX0_sumOfWarmths 55 = .ok (.iinc 3 1, 3) := by decide +kernel
theorem dX0_sumOfWarmths_58 : decode cX0_sumOfWarmths 58 = .ok (.goto (-54), 3) := by decide +kernel
theorem dX0_sumOfWarmths_61 : decode cX0_sumOfWarmths 61 = .ok (.lload_n 1, 1) := by decide +kernel
theorem dX0_sumOfWarmths_62 : decode cX0_sumOfWarmths 62 = .ok (.lreturn, 1) := by decide +kernel
set_option maxRecDepth 20000 in
theorem ggX0_rowsMirror_X0_warmthAt : GoodIn wsX0_rowsMirror wsX0_warmthAt := goodIn_r _ [7, 8, 9, 10, 11, 12, 13, 6, 14, 15, 16, 17, 18, 19, 20, 21, 22, 23, 24, 25, 26, 27, 28, 29] (by decide +kernel) (by decide +kernel)
set_option maxRecDepth 20000 in
theorem gX0_rowsMirror_X0_warmthAt : GoodIn wsX0_rowsMirror (wsV RX0 87 RX0 yX0_warmthAt wsX0_warmthAt) := goodIn_app (goodIn_of _ (by decide +kernel)) ggX0_rowsMirror_X0_warmthAt
theorem dX0_rowsMirror_0 : decode cX0_rowsMirror 0 = .ok (.iconst 0, 1) := by decide +kernel
theorem dX0_rowsMirror_1 : decode cX0_rowsMirror 1 = .ok (.istore_n 1, 1) := by decide +kernel
theorem dX0_rowsMirror_2 : decode cX0_rowsMirror 2 = .ok (.iload_n 1, 1) := by decide +kernel
theorem dX0_rowsMirror_3 : decode cX0_rowsMirror 3 = .ok (.aload_n 0, 1) := by decide +kernel
theorem dX0_rowsMirror_4 : decode cX0_rowsMirror 4 = .ok (.getfield 32, 3) := by decide +kernel
theorem dX0_rowsMirror_7 : decode cX0_rowsMirror 7 = .ok (.if_icmp .ge 49, 3) := by decide +kernel
theorem dX0_rowsMirror_10 : decode cX0_rowsMirror 10 = .ok (.iconst 0, 1) := by decide +kernel
theorem dX0_rowsMirror_11 : decode cX0_rowsMirror 11 = .ok (.istore_n 2, 1) := by decide +kernel
theorem dX0_rowsMirror_12 : decode cX0_rowsMirror 12 = .ok (.iload_n 2, 1) := by decide +kernel
theorem dX0_rowsMirror_13 : decode cX0_rowsMirror 13 = .ok (.aload_n 0, 1) := by decide +kernel
theorem dX0_rowsMirror_14 : decode cX0_rowsMirror 14 = .ok (.getfield 29, 3) := by decide +kernel
theorem dX0_rowsMirror_17 : decode cX0_rowsMirror 17 = .ok (.if_icmp .ge 33, 3) := by decide +kernel
theorem dX0_rowsMirror_20 : decode cX0_rowsMirror 20 = .ok (.aload_n 0, 1) := by decide +kernel
theorem dX0_rowsMirror_21 : decode cX0_rowsMirror 21 = .ok (.iload_n 2, 1) := by decide +kernel
theorem dX0_rowsMirror_22 : decode cX0_rowsMirror 22 = .ok (.iload_n 1, 1) := by decide +kernel
theorem dX0_rowsMirror_23 : decode cX0_rowsMirror 23 = .ok (.invokevirtual 87, 3) := by decide +kernel
theorem dX0_rowsMirror_26 : decode cX0_rowsMirror 26 = .ok (.aload_n 0, 1) := by decide +kernel
theorem dX0_rowsMirror_27 : decode cX0_rowsMirror 27 = .ok (.aload_n 0, 1) := by decide +kernel
theorem dX0_rowsMirror_28 : decode cX0_rowsMirror 28 = .ok (.getfield 29, 3) := by decide +kernel
theorem dX0_rowsMirror_31 : decode cX0_rowsMirror 31 = .ok (.iconst 1, 1) := by decide +kernel
theorem dX0_rowsMirror_32 : decode cX0_rowsMirror 32 = .ok (.isub, 1) := by decide +kernel
theorem dX0_rowsMirror_33 : decode cX0_rowsMirror 33 = .ok (.iload_n 2, 1) := by decide +kernel
theorem dX0_rowsMirror_34 : decode cX0_rowsMirror 34 = .ok (.isub, 1) := by decide +kernel
theorem dX0_rowsMirror_35 : decode cX0_rowsMirror 35 = .ok (.iload_n 1, 1) := by decide +kernel
theorem dX0_rowsMirror_36 : decode cX0_rowsMirror 36 = .ok (.invokevirtual 87, 3) := by decide +kernel
theorem dX0_rowsMirror_39 : decode cX0_rowsMirror 39 = .ok (.if_icmp .eq 5, 3) := by decide +kernel
theorem dX0_rowsMirror_42 : decode cX0_rowsMirror 42 = .ok (.iconst 0, 1) := by decide +kernel
theorem dX0_rowsMirror_43 : decode cX0_rowsMirror 43 = .ok (.ireturn, 1) := by decide +kernel
theorem dX0_rowsMirror_44 : decode cX0_rowsMirror 44 = .ok (.iinc 2 1, 3) := by decide +kernel
theorem dX0_rowsMirror_47 : decode cX0_rowsMirror 47 = .ok (.goto (-35), 3) := by decide +kernel
theorem dX0_rowsMirror_50 : decode cX0_rowsMirror 50 = .ok (.iinc 1 1, 3) := by decide +kernel
theorem dX0_rowsMirror_53 : decode cX0_rowsMirror 53 = .ok (.goto (-51), 3) := by decide +kernel
theorem dX0_rowsMirror_56 : decode cX0_rowsMirror 56 = .ok (.iconst 1, 1) := by decide +kernel
theorem dX0_rowsMirror_57 : decode cX0_rowsMirror 57 = .ok (.ireturn, 1) := by decide +kernel
set_option maxRecDepth 20000 in
theorem ggX0_columnsMirror_X0_warmthAt : GoodIn wsX0_columnsMirror wsX0_warmthAt := goodIn_r _ [7, 8, 9, 10, 11, 12, 13, 6, 14, 15, 16, 17, 18, 19, 20, 21, 22, 23, 24, 25, 26, 27, 28, 29] (by decide +kernel) (by decide +kernel)
set_option maxRecDepth 20000 in
theorem gX0_columnsMirror_X0_warmthAt : GoodIn wsX0_columnsMirror (wsV RX0 87 RX0 yX0_warmthAt wsX0_warmthAt) := goodIn_app (goodIn_of _ (by decide +kernel)) ggX0_columnsMirror_X0_warmthAt
theorem dX0_columnsMirror_0 : decode cX0_columnsMirror 0 = .ok (.iconst 0, 1) := by decide +kernel
theorem dX0_columnsMirror_1 : decode cX0_columnsMirror 1 = .ok (.istore_n 1, 1) := by decide +kernel
theorem dX0_columnsMirror_2 : decode cX0_columnsMirror 2 = .ok (.iload_n 1, 1) := by decide +kernel
theorem dX0_columnsMirror_3 : decode cX0_columnsMirror 3 = .ok (.aload_n 0, 1) := by decide +kernel
theorem dX0_columnsMirror_4 : decode cX0_columnsMirror 4 = .ok (.getfield 32, 3) := by decide +kernel
theorem dX0_columnsMirror_7 : decode cX0_columnsMirror 7 = .ok (.if_icmp .ge 49, 3) := by decide +kernel
theorem dX0_columnsMirror_10 : decode cX0_columnsMirror 10 = .ok (.iconst 0, 1) := by decide +kernel
theorem dX0_columnsMirror_11 : decode cX0_columnsMirror 11 = .ok (.istore_n 2, 1) := by decide +kernel
theorem dX0_columnsMirror_12 : decode cX0_columnsMirror 12 = .ok (.iload_n 2, 1) := by decide +kernel
theorem dX0_columnsMirror_13 : decode cX0_columnsMirror 13 = .ok (.aload_n 0, 1) := by decide +kernel
theorem dX0_columnsMirror_14 : decode cX0_columnsMirror 14 = .ok (.getfield 29, 3) := by decide +kernel
theorem dX0_columnsMirror_17 : decode cX0_columnsMirror 17 = .ok (.if_icmp .ge 33, 3) := by decide +kernel
theorem dX0_columnsMirror_20 : decode cX0_columnsMirror 20 = .ok (.aload_n 0, 1) := by decide +kernel
theorem dX0_columnsMirror_21 : decode cX0_columnsMirror 21 = .ok (.iload_n 2, 1) := by decide +kernel
theorem dX0_columnsMirror_22 : decode cX0_columnsMirror 22 = .ok (.iload_n 1, 1) := by decide +kernel
theorem dX0_columnsMirror_23 : decode cX0_columnsMirror 23 = .ok (.invokevirtual 87, 3) := by decide +kernel
theorem dX0_columnsMirror_26 : decode cX0_columnsMirror 26 = .ok (.aload_n 0, 1) := by decide +kernel
theorem dX0_columnsMirror_27 : decode cX0_columnsMirror 27 = .ok (.iload_n 2, 1) := by decide +kernel
theorem dX0_columnsMirror_28 : decode cX0_columnsMirror 28 = .ok (.aload_n 0, 1) := by decide +kernel
theorem dX0_columnsMirror_29 : decode cX0_columnsMirror 29 = .ok (.getfield 32, 3) := by decide +kernel
theorem dX0_columnsMirror_32 : decode cX0_columnsMirror 32 = .ok (.iconst 1, 1) := by decide +kernel
theorem dX0_columnsMirror_33 : decode cX0_columnsMirror 33 = .ok (.isub, 1) := by decide +kernel
theorem dX0_columnsMirror_34 : decode cX0_columnsMirror 34 = .ok (.iload_n 1, 1) := by decide +kernel
theorem dX0_columnsMirror_35 : decode cX0_columnsMirror 35 = .ok (.isub, 1) := by decide +kernel
theorem dX0_columnsMirror_36 : decode cX0_columnsMirror 36 = .ok (.invokevirtual 87, 3) := by decide +kernel
theorem dX0_columnsMirror_39 : decode cX0_columnsMirror 39 = .ok (.if_icmp .eq 5, 3) := by decide +kernel
theorem dX0_columnsMirror_42 : decode cX0_columnsMirror 42 = .ok (.iconst 0, 1) := by decide +kernel
theorem dX0_columnsMirror_43 : decode cX0_columnsMirror 43 = .ok (.ireturn, 1) := by decide +kernel
theorem dX0_columnsMirror_44 : decode cX0_columnsMirror 44 = .ok (.iinc 2 1, 3) := by decide +kernel
theorem dX0_columnsMirror_47 : decode cX0_columnsMirror 47 = .ok (.goto (-35), 3) := by decide +kernel
theorem dX0_columnsMirror_50 : decode cX0_columnsMirror 50 = .ok (.iinc 1 1, 3) := by decide +kernel
theorem dX0_columnsMirror_53 : decode cX0_columnsMirror 53 = .ok (.goto (-51), 3) := by decide +kernel
theorem dX0_columnsMirror_56 : decode cX0_columnsMirror 56 = .ok (.iconst 1, 1) := by decide +kernel
theorem dX0_columnsMirror_57 : decode cX0_columnsMirror 57 = .ok (.ireturn, 1) := by decide +kernel
set_option maxRecDepth 20000 in
theorem ggX0_flowOf_X0_countAlong : GoodIn wsX0_flowOf wsX0_countAlong := goodIn_r _ [9, 10, 11, 24, 25, 26, 27, 28, 29, 30, 31, 32, 33, 34, 35, 36, 37] (by decide +kernel) (by decide +kernel)
set_option maxRecDepth 20000 in
theorem gX0_flowOf_X0_countAlong : GoodIn wsX0_flowOf (wsV RX0 61 RX0 yX0_countAlong wsX0_countAlong) := goodIn_app (goodIn_of _ (by decide +kernel)) ggX0_flowOf_X0_countAlong
set_option maxRecDepth 20000 in
theorem ggX0_flowOf_X0_cellAlong : GoodIn wsX0_flowOf wsX0_cellAlong := goodIn_r _ [15, 10, 11, 16, 17, 18, 8, 19, 20, 24, 25, 26, 27, 28, 29, 30, 31, 32, 33, 34, 35, 36, 37] (by decide +kernel) (by decide +kernel)
set_option maxRecDepth 20000 in
theorem gX0_flowOf_X0_cellAlong : GoodIn wsX0_flowOf (wsV RX0 65 RX0 yX0_cellAlong wsX0_cellAlong) := goodIn_app (goodIn_of _ (by decide +kernel)) ggX0_flowOf_X0_cellAlong
set_option maxRecDepth 20000 in
theorem ggX0_flowOf_X0_couple : GoodIn wsX0_flowOf wsX0_couple := goodIn_r _ [23] (by decide +kernel) (by decide +kernel)
set_option maxRecDepth 20000 in
theorem gX0_flowOf_X0_couple : GoodIn wsX0_flowOf (va_wsS RX0 90 yX0_couple wsX0_couple) := goodIn_app (goodIn_of _ (by decide +kernel)) ggX0_flowOf_X0_couple
theorem dX0_flowOf_0 : decode cX0_flowOf 0 = .ok (.lconst 0, 1) := by decide +kernel
theorem dX0_flowOf_1 : decode cX0_flowOf 1 = .ok (.lstore_n 2, 1) := by decide +kernel
theorem dX0_flowOf_2 : decode cX0_flowOf 2 = .ok (.aload_n 0, 1) := by decide +kernel
theorem dX0_flowOf_3 : decode cX0_flowOf 3 = .ok (.iload_n 1, 1) := by decide +kernel
theorem dX0_flowOf_4 : decode cX0_flowOf 4 = .ok (.invokevirtual 61, 3) := by decide +kernel
theorem dX0_flowOf_7 : decode cX0_flowOf 7 = .ok (.istore 4, 2) := by decide +kernel
theorem dX0_flowOf_9 : decode cX0_flowOf 9 = .ok (.iconst 0, 1) := by decide +kernel
theorem dX0_flowOf_10 : decode cX0_flowOf 10 = .ok (.istore 5, 2) := by decide +kernel
theorem dX0_flowOf_12 : decode cX0_flowOf 12 = .ok (.iload 5, 2) := by decide +kernel
theorem dX0_flowOf_14 : decode cX0_flowOf 14 = .ok (.iload 4, 2) := by decide +kernel
theorem dX0_flowOf_16 : decode cX0_flowOf 16 = .ok (.if_icmp .ge 53, 3) := by decide +kernel
theorem dX0_flowOf_19 : decode cX0_flowOf 19 = .ok (.aload_n 0, 1) := by decide +kernel
theorem dX0_flowOf_20 : decode cX0_flowOf 20 = .ok (.iload_n 1, 1) := by decide +kernel
theorem dX0_flowOf_21 : decode cX0_flowOf 21 = .ok (.iload 5, 2) := by decide +kernel
theorem dX0_flowOf_23 : decode cX0_flowOf 23 = .ok (.invokevirtual 65, 3) := by decide +kernel
theorem dX0_flowOf_26 : decode cX0_flowOf 26 = .ok (.istore 6, 2) := by decide +kernel
theorem dX0_flowOf_28 : decode cX0_flowOf 28 = .ok (.lload_n 2, 1) := by decide +kernel
theorem dX0_flowOf_29 : decode cX0_flowOf 29 = .ok (.aload_n 0, 1) := by decide +kernel
theorem dX0_flowOf_30 : decode cX0_flowOf 30 = .ok (.getfield 38, 3) := by decide +kernel
theorem dX0_flowOf_33 : decode cX0_flowOf 33 = .ok (.iload 6, 2) := by decide +kernel
theorem dX0_flowOf_35 : decode cX0_flowOf 35 = .ok (.iaload, 1) := by decide +kernel
theorem dX0_flowOf_36 : decode cX0_flowOf 36 = .ok (.aload_n 0, 1) := by decide +kernel
theorem dX0_flowOf_37 : decode cX0_flowOf 37 = .ok (.getfield 15, 3) := by decide +kernel
theorem dX0_flowOf_40 : decode cX0_flowOf 40 = .ok (.iload_n 1, 1) := by decide +kernel
theorem dX0_flowOf_41 : decode cX0_flowOf 41 = .ok (.iaload, 1) := by decide +kernel
theorem dX0_flowOf_42 : decode cX0_flowOf 42 = .ok (.invokestatic 90, 3) := by decide +kernel
theorem dX0_flowOf_45 : decode cX0_flowOf 45 = .ok (.aload_n 0, 1) := by decide +kernel
theorem dX0_flowOf_46 : decode cX0_flowOf 46 = .ok (.getfield 9, 3) := by decide +kernel
theorem dX0_flowOf_49 : decode cX0_flowOf 49 = .ok (.iload_n 1, 1) := by decide +kernel
theorem dX0_flowOf_50 : decode cX0_flowOf 50 = .ok (.iaload, 1) := by decide +kernel
theorem dX0_flowOf_51 : decode cX0_flowOf 51 = .ok (.aload_n 0, 1) := by decide +kernel
theorem dX0_flowOf_52 : decode cX0_flowOf 52 = .ok (.getfield 41, 3) := by decide +kernel
theorem dX0_flowOf_55 : decode cX0_flowOf 55 = .ok (.iload 6, 2) := by decide +kernel
theorem dX0_flowOf_57 : decode cX0_flowOf 57 = .ok (.iaload, 1) := by decide +kernel
theorem dX0_flowOf_58 : decode cX0_flowOf 58 = .ok (.isub, 1) := by decide +kernel
theorem dX0_flowOf_59 : decode cX0_flowOf 59 = .ok (.imul, 1) := by decide +kernel
theorem dX0_flowOf_60 : decode cX0_flowOf 60 = .ok (.i2l, 1) := by decide +kernel
theorem dX0_flowOf_61 : decode cX0_flowOf 61 = .ok (.ladd, 1) := by decide +kernel
theorem dX0_flowOf_62 : decode cX0_flowOf 62 = .ok (.lstore_n 2, 1) := by decide +kernel
theorem dX0_flowOf_63 : decode cX0_flowOf 63 = .ok (.iinc 5 1, 3) := by decide +kernel
theorem dX0_flowOf_66 : decode cX0_flowOf 66 = .ok (.goto (-54), 3) := by decide +kernel
theorem dX0_flowOf_69 : decode cX0_flowOf 69 = .ok (.lload_n 2, 1) := by decide +kernel
theorem dX0_flowOf_70 : decode cX0_flowOf 70 = .ok (.lreturn, 1) := by decide +kernel
set_option maxRecDepth 20000 in
theorem ggX0_heat_X0_flowOf : GoodIn wsX0_heat wsX0_flowOf := goodIn_r _ [9, 10, 11, 12, 13, 14, 15, 16, 8, 17, 18, 19, 20, 21, 22, 23, 24, 25, 26, 27, 28, 29, 30, 31, 32, 33, 34, 35, 36, 37, 38, 39, 40, 41, 42, 43, 44, 45] (by decide +kernel) (by decide +kernel)
set_option maxRecDepth 20000 in
theorem gX0_heat_X0_flowOf : GoodIn wsX0_heat (wsV RX0 93 RX0 yX0_flowOf wsX0_flowOf) := goodIn_app (goodIn_of _ (by decide +kernel)) ggX0_heat_X0_flowOf
theorem dX0_heat_0 : decode cX0_heat 0 = .ok (.lconst 0, 1) := by decide +kernel
theorem dX0_heat_1 : decode cX0_heat 1 = .ok (.lstore_n 1, 1) := by decide +kernel
theorem dX0_heat_2 : decode cX0_heat 2 = .ok (.iconst 0, 1) := by decide +kernel
theorem dX0_heat_3 : decode cX0_heat 3 = .ok (.istore_n 3, 1) := by decide +kernel
theorem dX0_heat_4 : decode cX0_heat 4 = .ok (.iload_n 3, 1) := by decide +kernel
theorem dX0_heat_5 : decode cX0_heat 5 = .ok (.iconst 4, 1) := by decide +kernel
theorem dX0_heat_6 : decode cX0_heat 6 = .ok (.if_icmp .ge 21, 3) := by decide +kernel
theorem dX0_heat_9 : decode cX0_heat 9 = .ok (.lload_n 1, 1) := by decide +kernel
theorem dX0_heat_10 : decode cX0_heat 10 = .ok (.lconst 0, 1) := by decide +kernel
theorem dX0_heat_11 : decode cX0_heat 11 = .ok (.aload_n 0, 1) := by decide +kernel
theorem dX0_heat_12 : decode cX0_heat 12 = .ok (.iload_n 3, 1) := by decide +kernel
theorem dX0_heat_13 : decode cX0_heat 13 = .ok (.invokevirtual 93, 3) := by decide +kernel
theorem dX0_heat_16 : decode cX0_heat 16 = .ok (.invokestatic 97, 3) := by decide +kernel
theorem dX0_heat_19 : decode cX0_heat 19 = .ok (.ladd, 1) := by decide +kernel
theorem dX0_heat_20 : decode cX0_heat 20 = .ok (.lstore_n 1, 1) := by decide +kernel
theorem dX0_heat_21 : decode cX0_heat 21 = .ok (.iinc 3 1, 3) := by decide +kernel
theorem dX0_heat_24 : decode cX0_heat 24 = .ok (.goto (-20), 3) := by decide +kernel
theorem dX0_heat_27 : decode cX0_heat 27 = .ok (.lload_n 1, 1) := by decide +kernel
theorem dX0_heat_28 : decode cX0_heat 28 = .ok (.lreturn, 1) := by decide +kernel
set_option maxRecDepth 20000 in
theorem ggX0_rest_X0_flowOf : GoodIn wsX0_rest wsX0_flowOf := goodIn_r _ [5, 6, 7, 8, 9, 10, 11, 12, 4, 13, 14, 15, 16, 17, 18, 19, 20, 21, 22, 23, 24, 25, 26, 27, 28, 29, 30, 31, 32, 33, 34, 35, 36, 37, 38, 39, 40, 41] (by decide +kernel) (by decide +kernel)
set_option maxRecDepth 20000 in
theorem gX0_rest_X0_flowOf : GoodIn wsX0_rest (wsV RX0 93 RX0 yX0_flowOf wsX0_flowOf) := goodIn_app (goodIn_of _ (by decide +kernel)) ggX0_rest_X0_flowOf
theorem dX0_rest_0 : decode cX0_rest 0 = .ok (.lconst 0, 1) := by decide +kernel
theorem dX0_rest_1 : decode cX0_rest 1 = .ok (.lstore_n 1, 1) := by decide +kernel
theorem dX0_rest_2 : decode cX0_rest 2 = .ok (.iconst 0, 1) := by decide +kernel
theorem dX0_rest_3 : decode cX0_rest 3 = .ok (.istore_n 3, 1) := by decide +kernel
theorem dX0_rest_4 : decode cX0_rest 4 = .ok (.iload_n 3, 1) := by decide +kernel
theorem dX0_rest_5 : decode cX0_rest 5 = .ok (.iconst 4, 1) := by decide +kernel
theorem dX0_rest_6 : decode cX0_rest 6 = .ok (.if_icmp .ge 17, 3) := by decide +kernel
theorem dX0_rest_9 : decode cX0_rest 9 = .ok (.lload_n 1, 1) := by decide +kernel
theorem dX0_rest_10 : decode cX0_rest 10 = .ok (.aload_n 0, 1) := by decide +kernel
theorem dX0_rest_11 : decode cX0_rest 11 = .ok (.iload_n 3, 1) := by decide +kernel
theorem dX0_rest_12 : decode cX0_rest 12 = .ok (.invokevirtual 93, 3) := by decide +kernel
theorem dX0_rest_15 : decode cX0_rest 15 = .ok (.ladd, 1) := by decide +kernel
theorem dX0_rest_16 : decode cX0_rest 16 = .ok (.lstore_n 1, 1) := by decide +kernel
theorem dX0_rest_17 : decode cX0_rest 17 = .ok (.iinc 3 1, 3) := by decide +kernel
theorem dX0_rest_20 : decode cX0_rest 20 = .ok (.goto (-16), 3) := by decide +kernel
theorem dX0_rest_23 : decode cX0_rest 23 = .ok (.lload_n 1, 1) := by decide +kernel
theorem dX0_rest_24 : decode cX0_rest 24 = .ok (.lreturn, 1) := by decide +kernel
set_option maxRecDepth 20000 in
theorem ggX0_coldestAlong_X0_countAlong : GoodIn wsX0_coldestAlong wsX0_countAlong := goodIn_r _ [6, 7, 8, 23, 24, 25, 26, 27, 28, 29, 30, 31, 32, 33, 34, 35, 36] (by decide +kernel) (by decide +kernel)
set_option maxRecDepth 20000 in
theorem gX0_coldestAlong_X0_countAlong : GoodIn wsX0_coldestAlong (wsV RX0 61 RX0 yX0_countAlong wsX0_countAlong) := goodIn_app (goodIn_of _ (by decide +kernel)) ggX0_coldestAlong_X0_countAlong
set_option maxRecDepth 20000 in
theorem ggX0_coldestAlong_X0_cellAlong : GoodIn wsX0_coldestAlong wsX0_cellAlong := goodIn_r _ [12, 7, 8, 13, 14, 15, 5, 16, 17, 23, 24, 25, 26, 27, 28, 29, 30, 31, 32, 33, 34, 35, 36] (by decide +kernel) (by decide +kernel)
set_option maxRecDepth 20000 in
theorem gX0_coldestAlong_X0_cellAlong : GoodIn wsX0_coldestAlong (wsV RX0 65 RX0 yX0_cellAlong wsX0_cellAlong) := goodIn_app (goodIn_of _ (by decide +kernel)) ggX0_coldestAlong_X0_cellAlong
set_option maxRecDepth 20000 in
theorem ggX0_coldestAlong_X0_warmthAlong : GoodIn wsX0_coldestAlong wsX0_warmthAlong := goodIn_r _ [21, 22, 9, 10, 11, 5, 12, 7, 8, 13, 14, 15, 16, 17, 23, 24, 25, 26, 27, 28, 29, 30, 31, 32, 33, 34, 35, 36] (by decide +kernel) (by decide +kernel)
set_option maxRecDepth 20000 in
theorem gX0_coldestAlong_X0_warmthAlong : GoodIn wsX0_coldestAlong (wsV RX0 103 RX0 yX0_warmthAlong wsX0_warmthAlong) := goodIn_app (goodIn_of _ (by decide +kernel)) ggX0_coldestAlong_X0_warmthAlong
theorem dX0_coldestAlong_0 : decode cX0_coldestAlong 0 = .ok (.iconst (-1), 1) := by decide +kernel
theorem dX0_coldestAlong_1 : decode cX0_coldestAlong 1 = .ok (.istore_n 2, 1) := by decide +kernel
theorem dX0_coldestAlong_2 : decode cX0_coldestAlong 2 = .ok (.aload_n 0, 1) := by decide +kernel
theorem dX0_coldestAlong_3 : decode cX0_coldestAlong 3 = .ok (.iload_n 1, 1) := by decide +kernel
theorem dX0_coldestAlong_4 : decode cX0_coldestAlong 4 = .ok (.invokevirtual 61, 3) := by decide +kernel
theorem dX0_coldestAlong_7 : decode cX0_coldestAlong 7 = .ok (.istore_n 3, 1) := by decide +kernel
theorem dX0_coldestAlong_8 : decode cX0_coldestAlong 8 = .ok (.iconst 0, 1) := by decide +kernel
theorem dX0_coldestAlong_9 : decode cX0_coldestAlong 9 = .ok (.istore 4, 2) := by decide +kernel
theorem dX0_coldestAlong_11 : decode cX0_coldestAlong 11 = .ok (.iload 4, 2) := by decide +kernel
theorem dX0_coldestAlong_13 : decode cX0_coldestAlong 13 = .ok (.iload_n 3, 1) := by decide +kernel
theorem dX0_coldestAlong_14 : decode cX0_coldestAlong 14 = .ok (.if_icmp .ge 59, 3) := by decide +kernel
theorem dX0_coldestAlong_17 : decode cX0_coldestAlong 17 = .ok (.aload_n 0, 1) := by decide +kernel
theorem dX0_coldestAlong_18 : decode cX0_coldestAlong 18 = .ok (.getfield 38, 3) := by decide +kernel
theorem dX0_coldestAlong_21 : decode cX0_coldestAlong 21 = .ok (.aload_n 0, 1) := by decide +kernel
theorem dX0_coldestAlong_22 : decode cX0_coldestAlong 22 = .ok (.iload_n 1, 1) := by decide +kernel
theorem dX0_coldestAlong_23 : decode cX0_coldestAlong 23 = .ok (.iload 4, 2) := by decide +kernel
theorem dX0_coldestAlong_25 : decode cX0_coldestAlong 25 = .ok (.invokevirtual 65, 3) := by decide +kernel
theorem dX0_coldestAlong_28 : decode cX0_coldestAlong 28 = .ok (.iaload, 1) := by decide +kernel
theorem dX0_coldestAlong_29 : decode cX0_coldestAlong 29 = .ok (.ifCond .le 7, 3) := by decide +kernel
theorem dX0_coldestAlong_32 : decode cX0_coldestAlong 32 = .ok (.iconst 1, 1) := by decide +kernel
theorem dX0_coldestAlong_33 : decode cX0_coldestAlong 33 = .ok (.goto 4, 3) := by decide +kernel
theorem dX0_coldestAlong_36 : decode cX0_coldestAlong 36 = .ok (.iconst 0, 1) := by decide +kernel
theorem dX0_coldestAlong_37 : decode cX0_coldestAlong 37 = .ok (.istore 5, 2) := by decide +kernel
theorem dX0_coldestAlong_39 : decode cX0_coldestAlong 39 = .ok (.iload 5, 2) := by decide +kernel
theorem dX0_coldestAlong_41 : decode cX0_coldestAlong 41 = .ok (.ifCond .eq 26, 3) := by decide +kernel
theorem dX0_coldestAlong_44 : decode cX0_coldestAlong 44 = .ok (.iload_n 2, 1) := by decide +kernel
theorem dX0_coldestAlong_45 : decode cX0_coldestAlong 45 = .ok (.ifCond .lt 19, 3) := by decide +kernel
theorem dX0_coldestAlong_48 : decode cX0_coldestAlong 48 = .ok (.aload_n 0, 1) := by decide +kernel
theorem dX0_coldestAlong_49 : decode cX0_coldestAlong 49 = .ok (.iload_n 1, 1) := by decide +kernel
theorem dX0_coldestAlong_50 : decode cX0_coldestAlong 50 = .ok (.iload 4, 2) := by decide +kernel
theorem dX0_coldestAlong_52 : decode cX0_coldestAlong 52 = .ok (.invokevirtual 103, 3) := by decide +kernel
theorem dX0_coldestAlong_55 : decode cX0_coldestAlong 55 = .ok (.aload_n 0, 1) := by decide +kernel
theorem dX0_coldestAlong_56 : decode cX0_coldestAlong 56 = .ok (.iload_n 1, 1) := by decide +kernel
theorem dX0_coldestAlong_57 : decode cX0_coldestAlong 57 = .ok (.iload_n 2, 1) := by decide +kernel
theorem dX0_coldestAlong_58 : decode cX0_coldestAlong 58 = .ok (.invokevirtual 103, 3) := by decide +kernel
theorem dX0_coldestAlong_61 : decode cX0_coldestAlong 61 = .ok (.if_icmp .ge 6, 3) := by decide +kernel
theorem dX0_coldestAlong_64 : decode cX0_coldestAlong 64 = .ok (.iload 4, 2) := by decide +kernel
theorem dX0_coldestAlong_66 : decode cX0_coldestAlong 66 = .ok (.istore_n 2, 1) := by decide +kernel
theorem dX0_coldestAlong_67 : decode cX0_coldestAlong 67 = .ok (.iinc 4 1, 3) := by decide +kernel
theorem dX0_coldestAlong_70 : decode cX0_coldestAlong 70 = .ok (.goto (-59), 3) := by decide +kernel
theorem dX0_coldestAlong_73 : decode cX0_coldestAlong 73 = .ok (.iload_n 2, 1) := by decide +kernel
theorem dX0_coldestAlong_74 : decode cX0_coldestAlong 74 = .ok (.ireturn, 1) := by decide +kernel
set_option maxRecDepth 20000 in
theorem ggX0_warmthAlong_X0_cellAlong : GoodIn wsX0_warmthAlong wsX0_cellAlong := goodIn_r _ [6, 7, 8, 9, 10, 11, 5, 12, 13, 14, 15, 16, 17, 18, 19, 20, 21, 22, 23, 24, 25, 26, 27] (by decide +kernel) (by decide +kernel)
set_option maxRecDepth 20000 in
theorem gX0_warmthAlong_X0_cellAlong : GoodIn wsX0_warmthAlong (wsV RX0 65 RX0 yX0_cellAlong wsX0_cellAlong) := goodIn_app (goodIn_of _ (by decide +kernel)) ggX0_warmthAlong_X0_cellAlong
theorem dX0_warmthAlong_0 : decode cX0_warmthAlong 0 = .ok (.aload_n 0, 1) := by decide +kernel
theorem dX0_warmthAlong_1 : decode cX0_warmthAlong 1 = .ok (.getfield 41, 3) := by decide +kernel
theorem dX0_warmthAlong_4 : decode cX0_warmthAlong 4 = .ok (.aload_n 0, 1) := by decide +kernel
theorem dX0_warmthAlong_5 : decode cX0_warmthAlong 5 = .ok (.iload_n 1, 1) := by decide +kernel
theorem dX0_warmthAlong_6 : decode cX0_warmthAlong 6 = .ok (.iload_n 2, 1) := by decide +kernel
theorem dX0_warmthAlong_7 : decode cX0_warmthAlong 7 = .ok (.invokevirtual 65, 3) := by decide +kernel
theorem dX0_warmthAlong_10 : decode cX0_warmthAlong 10 = .ok (.iaload, 1) := by decide +kernel
theorem dX0_warmthAlong_11 : decode cX0_warmthAlong 11 = .ok (.ireturn, 1) := by decide +kernel
set_option maxRecDepth 20000 in
theorem ggX0_aboveLow_X0_warmthAlong : GoodIn wsX0_aboveLow wsX0_warmthAlong := goodIn_r _ [6, 7, 8, 9, 10, 5, 11, 12, 13, 14, 15, 16, 17, 18, 19, 20, 21, 22, 23, 24, 25, 26, 27, 28, 29, 30, 31, 32] (by decide +kernel) (by decide +kernel)
set_option maxRecDepth 20000 in
theorem gX0_aboveLow_X0_warmthAlong : GoodIn wsX0_aboveLow (wsV RX0 103 RX0 yX0_warmthAlong wsX0_warmthAlong) := goodIn_app (goodIn_of _ (by decide +kernel)) ggX0_aboveLow_X0_warmthAlong
theorem dX0_aboveLow_0 : decode cX0_aboveLow 0 = .ok (.aload_n 0, 1) := by decide +kernel
theorem dX0_aboveLow_1 : decode cX0_aboveLow 1 = .ok (.iload_n 1, 1) := by decide +kernel
theorem dX0_aboveLow_2 : decode cX0_aboveLow 2 = .ok (.iload_n 2, 1) := by decide +kernel
theorem dX0_aboveLow_3 : decode cX0_aboveLow 3 = .ok (.invokevirtual 103, 3) := by decide +kernel
theorem dX0_aboveLow_6 : decode cX0_aboveLow 6 = .ok (.aload_n 0, 1) := by decide +kernel
theorem dX0_aboveLow_7 : decode cX0_aboveLow 7 = .ok (.getfield 18, 3) := by decide +kernel
theorem dX0_aboveLow_10 : decode cX0_aboveLow 10 = .ok (.isub, 1) := by decide +kernel
theorem dX0_aboveLow_11 : decode cX0_aboveLow 11 = .ok (.ireturn, 1) := by decide +kernel
theorem dX0_highAboveLow_0 : decode cX0_highAboveLow 0 = .ok (.aload_n 0, 1) := by decide +kernel
theorem dX0_highAboveLow_1 : decode cX0_highAboveLow 1 = .ok (.getfield 22, 3) := by decide +kernel
theorem dX0_highAboveLow_4 : decode cX0_highAboveLow 4 = .ok (.aload_n 0, 1) := by decide +kernel
theorem dX0_highAboveLow_5 : decode cX0_highAboveLow 5 = .ok (.getfield 18, 3) := by decide +kernel
theorem dX0_highAboveLow_8 : decode cX0_highAboveLow 8 = .ok (.isub, 1) := by decide +kernel
theorem dX0_highAboveLow_9 : decode cX0_highAboveLow 9 = .ok (.ireturn, 1) := by decide +kernel
theorem dX0_place_0 : decode cX0_place 0 = .ok (.iload_n 2, 1) := by decide +kernel
theorem dX0_place_1 : decode cX0_place 1 = .ok (.iconst 1, 1) := by decide +kernel
theorem dX0_place_2 : decode cX0_place 2 = .ok (.iadd, 1) := by decide +kernel
theorem dX0_place_3 : decode cX0_place 3 = .ok (.aload_n 0, 1) := by decide +kernel
theorem dX0_place_4 : decode cX0_place 4 = .ok (.getfield 35, 3) := by decide +kernel
theorem dX0_place_7 : decode cX0_place 7 = .ok (.imul, 1) := by decide +kernel
theorem dX0_place_8 : decode cX0_place 8 = .ok (.iload_n 1, 1) := by decide +kernel
theorem dX0_place_9 : decode cX0_place 9 = .ok (.iadd, 1) := by decide +kernel
theorem dX0_place_10 : decode cX0_place 10 = .ok (.iconst 1, 1) := by decide +kernel
theorem dX0_place_11 : decode cX0_place 11 = .ok (.iadd, 1) := by decide +kernel
theorem dX0_place_12 : decode cX0_place 12 = .ok (.ireturn, 1) := by decide +kernel
theorem dX0_countAlong_0 : decode cX0_countAlong 0 = .ok (.iload_n 1, 1) := by decide +kernel
theorem dX0_countAlong_1 : decode cX0_countAlong 1 = .ok (.ifCond .eq 8, 3) := by decide +kernel
theorem dX0_countAlong_4 : decode cX0_countAlong 4 = .ok (.iload_n 1, 1) := by decide +kernel
theorem dX0_countAlong_5 : decode cX0_countAlong 5 = .ok (.iconst 2, 1) := by decide +kernel
theorem dX0_countAlong_6 : decode cX0_countAlong 6 = .ok (.if_icmp .ne 10, 3) := by decide +kernel
theorem dX0_countAlong_9 : decode cX0_countAlong 9 = .ok (.aload_n 0, 1) := by decide +kernel
theorem dX0_countAlong_10 : decode cX0_countAlong 10 = .ok (.getfield 29, 3) := by decide +kernel
theorem dX0_countAlong_13 : decode cX0_countAlong 13 = .ok (.goto 7, 3) := by decide +kernel
theorem dX0_countAlong_16 : decode cX0_countAlong 16 = .ok (.aload_n 0, 1) := by decide +kernel
theorem dX0_countAlong_17 : decode cX0_countAlong 17 = .ok (.getfield 32, 3) := by decide +kernel
theorem dX0_countAlong_20 : decode cX0_countAlong 20 = .ok (.ireturn, 1) := by decide +kernel
set_option maxRecDepth 20000 in
theorem ggX0_cellAlong_X0_place : GoodIn wsX0_cellAlong wsX0_place := goodIn_r _ [7, 8, 9, 10, 11, 12, 13, 14, 15, 16, 17, 18, 19, 20, 21, 22] (by decide +kernel) (by decide +kernel)
set_option maxRecDepth 20000 in
theorem gX0_cellAlong_X0_place : GoodIn wsX0_cellAlong (wsV RX0 56 RX0 yX0_place wsX0_place) := goodIn_app (goodIn_of _ (by decide +kernel)) ggX0_cellAlong_X0_place
theorem dX0_cellAlong_0 : decode cX0_cellAlong 0 = .ok (.iload_n 1, 1) := by decide +kernel
theorem dX0_cellAlong_1 : decode cX0_cellAlong 1 = .ok (.tableswitch 58 0 2 #[27, 34, 46], 27) := by decide +kernel
theorem dX0_cellAlong_28 : decode cX0_cellAlong 28 = .ok (.aload_n 0, 1) := by decide +kernel
theorem dX0_cellAlong_29 : decode cX0_cellAlong 29 = .ok (.iload_n 2, 1) := by decide +kernel
theorem dX0_cellAlong_30 : decode cX0_cellAlong 30 = .ok (.iconst 0, 1) := by decide +kernel
theorem dX0_cellAlong_31 : decode cX0_cellAlong 31 = .ok (.invokevirtual 56, 3) := by decide +kernel
theorem dX0_cellAlong_34 : decode cX0_cellAlong 34 = .ok (.ireturn, 1) := by decide +kernel
theorem dX0_cellAlong_35 : decode cX0_cellAlong 35 = .ok (.aload_n 0, 1) := by decide +kernel
theorem dX0_cellAlong_36 : decode cX0_cellAlong 36 = .ok (.aload_n 0, 1) := by decide +kernel
theorem dX0_cellAlong_37 : decode cX0_cellAlong 37 = .ok (.getfield 29, 3) := by decide +kernel
theorem dX0_cellAlong_40 : decode cX0_cellAlong 40 = .ok (.iconst 1, 1) := by decide +kernel
theorem dX0_cellAlong_41 : decode cX0_cellAlong 41 = .ok (.isub, 1) := by decide +kernel
theorem dX0_cellAlong_42 : decode cX0_cellAlong 42 = .ok (.iload_n 2, 1) := by decide +kernel
theorem dX0_cellAlong_43 : decode cX0_cellAlong 43 = .ok (.invokevirtual 56, 3) := by decide +kernel
theorem dX0_cellAlong_46 : decode cX0_cellAlong 46 = .ok (.ireturn, 1) := by decide +kernel
theorem dX0_cellAlong_47 : decode cX0_cellAlong 47 = .ok (.aload_n 0, 1) := by decide +kernel
theorem dX0_cellAlong_48 : decode cX0_cellAlong 48 = .ok (.iload_n 2, 1) := by decide +kernel
theorem dX0_cellAlong_49 : decode cX0_cellAlong 49 = .ok (.aload_n 0, 1) := by decide +kernel
theorem dX0_cellAlong_50 : decode cX0_cellAlong 50 = .ok (.getfield 32, 3) := by decide +kernel
theorem dX0_cellAlong_53 : decode cX0_cellAlong 53 = .ok (.iconst 1, 1) := by decide +kernel
theorem dX0_cellAlong_54 : decode cX0_cellAlong 54 = .ok (.isub, 1) := by decide +kernel
theorem dX0_cellAlong_55 : decode cX0_cellAlong 55 = .ok (.invokevirtual 56, 3) := by decide +kernel
theorem dX0_cellAlong_58 : decode cX0_cellAlong 58 = .ok (.ireturn, 1) := by decide +kernel
theorem dX0_cellAlong_59 : decode cX0_cellAlong 59 = .ok (.aload_n 0, 1) := by decide +kernel
theorem dX0_cellAlong_60 : decode cX0_cellAlong 60 = .ok (.iconst 0, 1) := by decide +kernel
theorem dX0_cellAlong_61 : decode cX0_cellAlong 61 = .ok (.iload_n 2, 1) := by decide +kernel
theorem dX0_cellAlong_62 : decode cX0_cellAlong 62 = .ok (.invokevirtual 56, 3) := by decide +kernel
theorem dX0_cellAlong_65 : decode cX0_cellAlong 65 = .ok (.ireturn, 1) := by decide +kernel
theorem dX0_outward_0 : decode cX0_outward 0 = .ok (.iload_n 1, 1) := by decide +kernel
theorem dX0_outward_1 : decode cX0_outward 1 = .ok (.tableswitch 40 0 2 #[27, 33, 35], 27) := by decide +kernel
theorem dX0_outward_28 : decode cX0_outward 28 = .ok (.aload_n 0, 1) := by decide +kernel
theorem dX0_outward_29 : decode cX0_outward 29 = .ok (.getfield 35, 3) := by decide +kernel
theorem dX0_outward_32 : decode cX0_outward 32 = .ok (.ineg, 1) := by decide +kernel
theorem dX0_outward_33 : decode cX0_outward 33 = .ok (.ireturn, 1) := by decide +kernel
theorem dX0_outward_34 : decode cX0_outward 34 = .ok (.iconst 1, 1) := by decide +kernel
theorem dX0_outward_35 : decode cX0_outward 35 = .ok (.ireturn, 1) := by decide +kernel
theorem dX0_outward_36 : decode cX0_outward 36 = .ok (.aload_n 0, 1) := by decide +kernel
theorem dX0_outward_37 : decode cX0_outward 37 = .ok (.getfield 35, 3) := by decide +kernel
theorem dX0_outward_40 : decode cX0_outward 40 = .ok (.ireturn, 1) := by decide +kernel
theorem dX0_outward_41 : decode cX0_outward 41 = .ok (.iconst (-1), 1) := by decide +kernel
theorem dX0_outward_42 : decode cX0_outward 42 = .ok (.ireturn, 1) := by decide +kernel
theorem dX0_findLowAndHigh_0 : decode cX0_findLowAndHigh 0 = .ok (.iconst 0, 1) := by decide +kernel
theorem dX0_findLowAndHigh_1 : decode cX0_findLowAndHigh 1 = .ok (.istore_n 1, 1) := by decide +kernel
theorem dX0_findLowAndHigh_2 : decode cX0_findLowAndHigh 2 = .ok (.aload_n 0, 1) := by decide +kernel
theorem dX0_findLowAndHigh_3 : decode cX0_findLowAndHigh 3 = .ok (.iconst 0, 1) := by decide +kernel
theorem dX0_findLowAndHigh_4 : decode cX0_findLowAndHigh 4 = .ok (.putfield 18, 3) := by decide +kernel
theorem dX0_findLowAndHigh_7 : decode cX0_findLowAndHigh 7 = .ok (.aload_n 0, 1) := by decide +kernel
theorem dX0_findLowAndHigh_8 : decode cX0_findLowAndHigh 8 = .ok (.iconst 0, 1) := by decide +kernel
theorem dX0_findLowAndHigh_9 : decode cX0_findLowAndHigh 9 = .ok (.putfield 22, 3) := by decide +kernel
theorem dX0_findLowAndHigh_12 : decode cX0_findLowAndHigh 12 = .ok (.iconst 0, 1) := by decide +kernel
theorem dX0_findLowAndHigh_13 : decode cX0_findLowAndHigh 13 = .ok (.istore_n 2, 1) := by decide +kernel
theorem dX0_findLowAndHigh_14 : decode cX0_findLowAndHigh 14 = .ok (.iload_n 2, 1) := by decide +kernel
theorem dX0_findLowAndHigh_15 : decode cX0_findLowAndHigh 15 = .ok (.iconst 4, 1) := by decide +kernel
theorem dX0_findLowAndHigh_16 : decode cX0_findLowAndHigh 16 = .ok (.if_icmp .ge 80, 3) := by decide +kernel
theorem dX0_findLowAndHigh_19 : decode cX0_findLowAndHigh 19 = .ok (.aload_n 0, 1) := by decide +kernel
theorem dX0_findLowAndHigh_20 : decode cX0_findLowAndHigh 20 = .ok (.getfield 15, 3) := by decide +kernel
theorem dX0_findLowAndHigh_23 : decode cX0_findLowAndHigh 23 = .ok (.iload_n 2, 1) := by decide +kernel
theorem dX0_findLowAndHigh_24 : decode cX0_findLowAndHigh 24 = .ok (.iaload, 1) := by decide +kernel
theorem dX0_findLowAndHigh_25 : decode cX0_findLowAndHigh 25 = .ok (.ifCond .le 65, 3) := by decide +kernel
theorem dX0_findLowAndHigh_28 : decode cX0_findLowAndHigh 28 = .ok (.aload_n 0, 1) := by decide +kernel
theorem dX0_findLowAndHigh_29 : decode cX0_findLowAndHigh 29 = .ok (.iload_n 1, 1) := by decide +kernel
theorem dX0_findLowAndHigh_30 : decode cX0_findLowAndHigh 30 = .ok (.ifCond .eq 19, 3) := by decide +kernel
theorem dX0_findLowAndHigh_33 : decode cX0_findLowAndHigh 33 = .ok (.aload_n 0, 1) := by decide +kernel
theorem dX0_findLowAndHigh_34 : decode cX0_findLowAndHigh 34 = .ok (.getfield 18, 3) := by decide +kernel
theorem dX0_findLowAndHigh_37 : decode cX0_findLowAndHigh 37 = .ok (.aload_n 0, 1) := by decide +kernel
theorem dX0_findLowAndHigh_38 : decode cX0_findLowAndHigh 38 = .ok (.getfield 9, 3) := by decide +kernel
theorem dX0_findLowAndHigh_41 : decode cX0_findLowAndHigh 41 = .ok (.iload_n 2, 1) := by decide +kernel
theorem dX0_findLowAndHigh_42 : decode cX0_findLowAndHigh 42 = .ok (.iaload, 1) := by decide +kernel
theorem dX0_findLowAndHigh_43 : decode cX0_findLowAndHigh 43 = .ok (.invokestatic 106, 3) := by decide +kernel
theorem dX0_findLowAndHigh_46 : decode cX0_findLowAndHigh 46 = .ok (.goto 9, 3) := by decide +kernel
theorem dX0_findLowAndHigh_49 : decode cX0_findLowAndHigh 49 = .ok (.aload_n 0, 1) := by decide +kernel
theorem dX0_findLowAndHigh_50 : decode cX0_findLowAndHigh 50 = .ok (.getfield 9, 3) := by decide +kernel
theorem dX0_findLowAndHigh_53 : decode cX0_findLowAndHigh 53 = .ok (.iload_n 2, 1) := by decide +kernel
theorem dX0_findLowAndHigh_54 : decode cX0_findLowAndHigh 54 = .ok (.iaload, 1) := by decide +kernel
theorem dX0_findLowAndHigh_55 : decode cX0_findLowAndHigh 55 = .ok (.putfield 18, 3) := by decide +kernel
theorem dX0_findLowAndHigh_58 : decode cX0_findLowAndHigh 58 = .ok (.aload_n 0, 1) := by decide +kernel
theorem dX0_findLowAndHigh_59 : decode cX0_findLowAndHigh 59 = .ok (.iload_n 1, 1) := by decide +kernel
theorem dX0_findLowAndHigh_60 : decode cX0_findLowAndHigh 60 = .ok (.ifCond .eq 19, 3) := by decide +kernel
theorem dX0_findLowAndHigh_63 : decode cX0_findLowAndHigh 63 = .ok (.aload_n 0, 1) := by decide +kernel
theorem dX0_findLowAndHigh_64 : decode cX0_findLowAndHigh 64 = .ok (.getfield 22, 3) := by decide +kernel
theorem dX0_findLowAndHigh_67 : decode cX0_findLowAndHigh 67 = .ok (.aload_n 0, 1) := by decide +kernel
theorem dX0_findLowAndHigh_68 : decode cX0_findLowAndHigh 68 = .ok (.getfield 9, 3) := by decide +kernel
theorem dX0_findLowAndHigh_71 : decode cX0_findLowAndHigh 71 = .ok (.iload_n 2, 1) := by decide +kernel
theorem dX0_findLowAndHigh_72 : decode cX0_findLowAndHigh 72 = .ok (.iaload, 1) := by decide +kernel
theorem dX0_findLowAndHigh_73 : decode cX0_findLowAndHigh 73 = .ok (.invokestatic 109, 3) := by decide +kernel
theorem dX0_findLowAndHigh_76 : decode cX0_findLowAndHigh 76 = .ok (.goto 9, 3) := by decide +kernel
theorem dX0_findLowAndHigh_79 : decode cX0_findLowAndHigh 79 = .ok (.aload_n 0, 1) := by decide +kernel
theorem dX0_findLowAndHigh_80 : decode cX0_findLowAndHigh 80 = .ok (.getfield 9, 3) := by decide +kernel
theorem dX0_findLowAndHigh_83 : decode cX0_findLowAndHigh 83 = .ok (.iload_n 2, 1) := by decide +kernel
theorem dX0_findLowAndHigh_84 : decode cX0_findLowAndHigh 84 = .ok (.iaload, 1) := by decide +kernel
theorem dX0_findLowAndHigh_85 : decode cX0_findLowAndHigh 85 = .ok (.putfield 22, 3) := by decide +kernel
theorem dX0_findLowAndHigh_88 : decode cX0_findLowAndHigh 88 = .ok (.iconst 1, 1) := by decide +kernel
theorem dX0_findLowAndHigh_89 : decode cX0_findLowAndHigh 89 = .ok (.istore_n 1, 1) := by decide +kernel
theorem dX0_findLowAndHigh_90 : decode cX0_findLowAndHigh 90 = .ok (.iinc 2 1, 3) := by decide +kernel
theorem dX0_findLowAndHigh_93 : decode cX0_findLowAndHigh 93 = .ok (.goto (-79), 3) := by decide +kernel
theorem dX0_findLowAndHigh_96 : decode cX0_findLowAndHigh 96 = .ok (.return_, 1) := by decide +kernel
set_option maxRecDepth 20000 in
theorem ggX0_joinNeighbours_X0_place : GoodIn wsX0_joinNeighbours wsX0_place := goodIn_r _ [11, 6, 15, 16, 17, 18, 19, 20, 21, 22, 23, 24, 25, 26, 27, 28] (by decide +kernel) (by decide +kernel)
set_option maxRecDepth 20000 in
theorem gX0_joinNeighbours_X0_place : GoodIn wsX0_joinNeighbours (wsV RX0 56 RX0 yX0_place wsX0_place) := goodIn_app (goodIn_of _ (by decide +kernel)) ggX0_joinNeighbours_X0_place
set_option maxRecDepth 20000 in
theorem ggX0_joinNeighbours_X0_couple : GoodIn wsX0_joinNeighbours wsX0_couple := goodIn_r _ [14] (by decide +kernel) (by decide +kernel)
set_option maxRecDepth 20000 in
theorem gX0_joinNeighbours_X0_couple : GoodIn wsX0_joinNeighbours (va_wsS RX0 90 yX0_couple wsX0_couple) := goodIn_app (goodIn_of _ (by decide +kernel)) ggX0_joinNeighbours_X0_couple
theorem dX0_joinNeighbours_0 : decode cX0_joinNeighbours 0 = .ok (.iconst 0, 1) := by decide +kernel
theorem dX0_joinNeighbours_1 : decode cX0_joinNeighbours 1 = .ok (.istore_n 1, 1) := by decide +kernel
theorem dX0_joinNeighbours_2 : decode cX0_joinNeighbours 2 = .ok (.iload_n 1, 1) := by decide +kernel
theorem dX0_joinNeighbours_3 : decode cX0_joinNeighbours 3 = .ok (.aload_n 0, 1) := by decide +kernel
theorem dX0_joinNeighbours_4 : decode cX0_joinNeighbours 4 = .ok (.getfield 32, 3) := by decide +kernel
theorem dX0_joinNeighbours_7 : decode cX0_joinNeighbours 7 = .ok (.if_icmp .ge 55, 3) := by decide +kernel
theorem dX0_joinNeighbours_10 : decode cX0_joinNeighbours 10 = .ok (.iconst (-1), 1) := by decide +kernel
theorem dX0_joinNeighbours_11 : decode cX0_joinNeighbours 11 = .ok (.istore_n 2, 1) := by decide +kernel
theorem dX0_joinNeighbours_12 : decode cX0_joinNeighbours 12 = .ok (.iload_n 2, 1) := by decide +kernel
theorem dX0_joinNeighbours_13 : decode cX0_joinNeighbours 13 = .ok (.aload_n 0, 1) := by decide +kernel
theorem dX0_joinNeighbours_14 : decode cX0_joinNeighbours 14 = .ok (.getfield 29, 3) := by decide +kernel
theorem dX0_joinNeighbours_17 : decode cX0_joinNeighbours 17 = .ok (.if_icmp .ge 39, 3) := by decide +kernel
theorem dX0_joinNeighbours_20 : decode cX0_joinNeighbours 20 = .ok (.aload_n 0, 1) := by decide +kernel
theorem dX0_joinNeighbours_21 : decode cX0_joinNeighbours 21 = .ok (.iload_n 2, 1) := by decide +kernel
theorem dX0_joinNeighbours_22 : decode cX0_joinNeighbours 22 = .ok (.iload_n 1, 1) := by decide +kernel
theorem dX0_joinNeighbours_23 : decode cX0_joinNeighbours 23 = .ok (.invokevirtual 56, 3) := by decide +kernel
theorem dX0_joinNeighbours_26 : decode cX0_joinNeighbours 26 = .ok (.istore_n 3, 1) := by decide +kernel
theorem dX0_joinNeighbours_27 : decode cX0_joinNeighbours 27 = .ok (.aload_n 0, 1) := by decide +kernel
theorem dX0_joinNeighbours_28 : decode cX0_joinNeighbours 28 = .ok (.getfield 44, 3) := by decide +kernel
theorem dX0_joinNeighbours_31 : decode cX0_joinNeighbours 31 = .ok (.iload_n 3, 1) := by decide +kernel
theorem dX0_joinNeighbours_32 : decode cX0_joinNeighbours 32 = .ok (.aload_n 0, 1) := by decide +kernel
theorem dX0_joinNeighbours_33 : decode cX0_joinNeighbours 33 = .ok (.getfield 38, 3) := by decide +kernel
theorem dX0_joinNeighbours_36 : decode cX0_joinNeighbours 36 = .ok (.iload_n 3, 1) := by decide +kernel
theorem dX0_joinNeighbours_37 : decode cX0_joinNeighbours 37 = .ok (.iaload, 1) := by decide +kernel
theorem dX0_joinNeighbours_38 : decode cX0_joinNeighbours 38 = .ok (.aload_n 0, 1) := by decide +kernel
theorem dX0_joinNeighbours_39 : decode cX0_joinNeighbours 39 = .ok (.getfield 38, 3) := by decide +kernel
theorem dX0_joinNeighbours_42 : decode cX0_joinNeighbours 42 = .ok (.iload_n 3, 1) := by decide +kernel
theorem dX0_joinNeighbours_43 : decode cX0_joinNeighbours 43 = .ok (.iconst 1, 1) := by decide +kernel
theorem dX0_joinNeighbours_44 : decode cX0_joinNeighbours 44 = .ok (.iadd, 1) := by decide +kernel
theorem dX0_joinNeighbours_45 : decode cX0_joinNeighbours 45 = .ok (.iaload, 1) := by decide +kernel
theorem dX0_joinNeighbours_46 : decode cX0_joinNeighbours 46 = .ok (.invokestatic 90, 3) := by decide +kernel
theorem dX0_joinNeighbours_49 : decode cX0_joinNeighbours 49 = .ok (.iastore, 1) := by decide +kernel
theorem dX0_joinNeighbours_50 : decode cX0_joinNeighbours 50 = .ok (.iinc 2 1, 3) := by decide +kernel
theorem dX0_joinNeighbours_53 : decode cX0_joinNeighbours 53 = .ok (.goto (-41), 3) := by decide +kernel
theorem dX0_joinNeighbours_56 : decode cX0_joinNeighbours 56 = .ok (.iinc 1 1, 3) := by decide +kernel
theorem dX0_joinNeighbours_59 : decode cX0_joinNeighbours 59 = .ok (.goto (-57), 3) := by decide +kernel
theorem dX0_joinNeighbours_62 : decode cX0_joinNeighbours 62 = .ok (.iconst (-1), 1) := by decide +kernel
theorem dX0_joinNeighbours_63 : decode cX0_joinNeighbours 63 = .ok (.istore_n 1, 1) := by decide +kernel
theorem dX0_joinNeighbours_64 : decode cX0_joinNeighbours 64 = .ok (.iload_n 1, 1) := by decide +kernel
theorem dX0_joinNeighbours_65 : decode cX0_joinNeighbours 65 = .ok (.aload_n 0, 1) := by decide +kernel
theorem dX0_joinNeighbours_66 : decode cX0_joinNeighbours 66 = .ok (.getfield 32, 3) := by decide +kernel
theorem dX0_joinNeighbours_69 : decode cX0_joinNeighbours 69 = .ok (.if_icmp .ge 58, 3) := by decide +kernel
theorem dX0_joinNeighbours_72 : decode cX0_joinNeighbours 72 = .ok (.iconst 0, 1) := by decide +kernel
theorem dX0_joinNeighbours_73 : decode cX0_joinNeighbours 73 = .ok (.istore_n 2, 1) := by decide +kernel
theorem dX0_joinNeighbours_74 : decode cX0_joinNeighbours 74 = .ok (.iload_n 2, 1) := by decide +kernel
theorem dX0_joinNeighbours_75 : decode cX0_joinNeighbours 75 = .ok (.aload_n 0, 1) := by decide +kernel
theorem dX0_joinNeighbours_76 : decode cX0_joinNeighbours 76 = .ok (.getfield 29, 3) := by decide +kernel
theorem dX0_joinNeighbours_79 : decode cX0_joinNeighbours 79 = .ok (.if_icmp .ge 42, 3) := by decide +kernel
theorem dX0_joinNeighbours_82 : decode cX0_joinNeighbours 82 = .ok (.aload_n 0, 1) := by decide +kernel
theorem dX0_joinNeighbours_83 : decode cX0_joinNeighbours 83 = .ok (.iload_n 2, 1) := by decide +kernel
theorem dX0_joinNeighbours_84 : decode cX0_joinNeighbours 84 = .ok (.iload_n 1, 1) := by decide +kernel
theorem dX0_joinNeighbours_85 : decode cX0_joinNeighbours 85 = .ok (.invokevirtual 56, 3) := by decide +kernel
theorem dX0_joinNeighbours_88 : decode cX0_joinNeighbours 88 = .ok (.istore_n 3, 1) := by decide +kernel
theorem dX0_joinNeighbours_89 : decode cX0_joinNeighbours 89 = .ok (.aload_n 0, 1) := by decide +kernel
theorem dX0_joinNeighbours_90 : decode cX0_joinNeighbours 90 = .ok (.getfield 47, 3) := by decide +kernel
theorem dX0_joinNeighbours_93 : decode cX0_joinNeighbours 93 = .ok (.iload_n 3, 1) := by decide +kernel
theorem dX0_joinNeighbours_94 : decode cX0_joinNeighbours 94 = .ok (.aload_n 0, 1) := by decide +kernel
theorem dX0_joinNeighbours_95 : decode cX0_joinNeighbours 95 = .ok (.getfield 38, 3) := by decide +kernel
theorem dX0_joinNeighbours_98 : decode cX0_joinNeighbours 98 = .ok (.iload_n 3, 1) := by decide +kernel
theorem dX0_joinNeighbours_99 : decode cX0_joinNeighbours 99 = .ok (.iaload, 1) := by decide +kernel
theorem dX0_joinNeighbours_100 : decode cX0_joinNeighbours 100 = .ok (.aload_n 0, 1) := by decide +kernel
theorem dX0_joinNeighbours_101 : decode cX0_joinNeighbours 101 = .ok (.getfield 38, 3) := by decide +kernel
theorem dX0_joinNeighbours_104 : decode cX0_joinNeighbours 104 = .ok (.iload_n 3, 1) := by decide +kernel
theorem dX0_joinNeighbours_105 : decode cX0_joinNeighbours 105 = .ok (.aload_n 0, 1) := by decide +kernel
theorem dX0_joinNeighbours_106 : decode cX0_joinNeighbours 106 = .ok (.getfield 35, 3) := by decide +kernel
theorem dX0_joinNeighbours_109 : decode cX0_joinNeighbours 109 = .ok (.iadd, 1) := by decide +kernel
theorem dX0_joinNeighbours_110 : decode cX0_joinNeighbours 110 = .ok (.iaload, 1) := by decide +kernel
theorem dX0_joinNeighbours_111 : decode cX0_joinNeighbours 111 = .ok (.invokestatic 90, 3) := by decide +kernel
theorem dX0_joinNeighbours_114 : decode cX0_joinNeighbours 114 = .ok (.iastore, 1) := by decide +kernel
theorem dX0_joinNeighbours_115 : decode cX0_joinNeighbours 115 = .ok (.iinc 2 1, 3) := by decide +kernel
theorem dX0_joinNeighbours_118 : decode cX0_joinNeighbours 118 = .ok (.goto (-44), 3) := by decide +kernel
theorem dX0_joinNeighbours_121 : decode cX0_joinNeighbours 121 = .ok (.iinc 1 1, 3) := by decide +kernel
theorem dX0_joinNeighbours_124 : decode cX0_joinNeighbours 124 = .ok (.goto (-60), 3) := by decide +kernel
theorem dX0_joinNeighbours_127 : decode cX0_joinNeighbours 127 = .ok (.return_, 1) := by decide +kernel
set_option maxRecDepth 20000 in
theorem ggX0_startAtLow_X0_place : GoodIn wsX0_startAtLow wsX0_place := goodIn_r _ [9, 10, 19, 20, 21, 22, 23, 24, 25, 26, 27, 28, 29, 30, 31, 32] (by decide +kernel) (by decide +kernel)
set_option maxRecDepth 20000 in
theorem gX0_startAtLow_X0_place : GoodIn wsX0_startAtLow (wsV RX0 56 RX0 yX0_place wsX0_place) := goodIn_app (goodIn_of _ (by decide +kernel)) ggX0_startAtLow_X0_place
set_option maxRecDepth 20000 in
theorem ggX0_startAtLow_X0_weigh : GoodIn wsX0_startAtLow wsX0_weigh := goodIn_r _ [14, 15, 16, 10, 17, 18, 3, 4, 19, 20, 21, 22, 23, 24, 25, 26, 27, 28, 29, 30, 31, 32] (by decide +kernel) (by decide +kernel)
set_option maxRecDepth 20000 in
theorem gX0_startAtLow_X0_weigh : GoodIn wsX0_startAtLow (wsV RX0 111 RX0 yX0_weigh wsX0_weigh) := goodIn_app (goodIn_of _ (by decide +kernel)) ggX0_startAtLow_X0_weigh
theorem dX0_startAtLow_0 : decode cX0_startAtLow 0 = .ok (.iconst 0, 1) := by decide +kernel
theorem dX0_startAtLow_1 : decode cX0_startAtLow 1 = .ok (.istore_n 1, 1) := by decide +kernel
theorem dX0_startAtLow_2 : decode cX0_startAtLow 2 = .ok (.iload_n 1, 1) := by decide +kernel
theorem dX0_startAtLow_3 : decode cX0_startAtLow 3 = .ok (.aload_n 0, 1) := by decide +kernel
theorem dX0_startAtLow_4 : decode cX0_startAtLow 4 = .ok (.getfield 32, 3) := by decide +kernel
theorem dX0_startAtLow_7 : decode cX0_startAtLow 7 = .ok (.if_icmp .ge 40, 3) := by decide +kernel
theorem dX0_startAtLow_10 : decode cX0_startAtLow 10 = .ok (.iconst 0, 1) := by decide +kernel
theorem dX0_startAtLow_11 : decode cX0_startAtLow 11 = .ok (.istore_n 2, 1) := by decide +kernel
theorem dX0_startAtLow_12 : decode cX0_startAtLow 12 = .ok (.iload_n 2, 1) := by decide +kernel
theorem dX0_startAtLow_13 : decode cX0_startAtLow 13 = .ok (.aload_n 0, 1) := by decide +kernel
theorem dX0_startAtLow_14 : decode cX0_startAtLow 14 = .ok (.getfield 29, 3) := by decide +kernel
theorem dX0_startAtLow_17 : decode cX0_startAtLow 17 = .ok (.if_icmp .ge 24, 3) := by decide +kernel
theorem dX0_startAtLow_20 : decode cX0_startAtLow 20 = .ok (.aload_n 0, 1) := by decide +kernel
theorem dX0_startAtLow_21 : decode cX0_startAtLow 21 = .ok (.getfield 41, 3) := by decide +kernel
theorem dX0_startAtLow_24 : decode cX0_startAtLow 24 = .ok (.aload_n 0, 1) := by decide +kernel
theorem dX0_startAtLow_25 : decode cX0_startAtLow 25 = .ok (.iload_n 2, 1) := by decide +kernel
theorem dX0_startAtLow_26 : decode cX0_startAtLow 26 = .ok (.iload_n 1, 1) := by decide +kernel
theorem dX0_startAtLow_27 : decode cX0_startAtLow 27 = .ok (.invokevirtual 56, 3) := by decide +kernel
theorem dX0_startAtLow_30 : decode cX0_startAtLow 30 = .ok (.aload_n 0, 1) := by decide +kernel
theorem dX0_startAtLow_31 : decode cX0_startAtLow 31 = .ok (.getfield 18, 3) := by decide +kernel
theorem dX0_startAtLow_34 : decode cX0_startAtLow 34 = .ok (.iastore, 1) := by decide +kernel
theorem dX0_startAtLow_35 : decode cX0_startAtLow 35 = .ok (.iinc 2 1, 3) := by decide +kernel
theorem dX0_startAtLow_38 : decode cX0_startAtLow 38 = .ok (.goto (-26), 3) := by decide +kernel
theorem dX0_startAtLow_41 : decode cX0_startAtLow 41 = .ok (.iinc 1 1, 3) := by decide +kernel
theorem dX0_startAtLow_44 : decode cX0_startAtLow 44 = .ok (.goto (-42), 3) := by decide +kernel
theorem dX0_startAtLow_47 : decode cX0_startAtLow 47 = .ok (.iconst 0, 1) := by decide +kernel
theorem dX0_startAtLow_48 : decode cX0_startAtLow 48 = .ok (.istore_n 1, 1) := by decide +kernel
theorem dX0_startAtLow_49 : decode cX0_startAtLow 49 = .ok (.iload_n 1, 1) := by decide +kernel
theorem dX0_startAtLow_50 : decode cX0_startAtLow 50 = .ok (.aload_n 0, 1) := by decide +kernel
theorem dX0_startAtLow_51 : decode cX0_startAtLow 51 = .ok (.getfield 32, 3) := by decide +kernel
theorem dX0_startAtLow_54 : decode cX0_startAtLow 54 = .ok (.if_icmp .ge 35, 3) := by decide +kernel
theorem dX0_startAtLow_57 : decode cX0_startAtLow 57 = .ok (.iconst 0, 1) := by decide +kernel
theorem dX0_startAtLow_58 : decode cX0_startAtLow 58 = .ok (.istore_n 2, 1) := by decide +kernel
theorem dX0_startAtLow_59 : decode cX0_startAtLow 59 = .ok (.iload_n 2, 1) := by decide +kernel
theorem dX0_startAtLow_60 : decode cX0_startAtLow 60 = .ok (.aload_n 0, 1) := by decide +kernel
theorem dX0_startAtLow_61 : decode cX0_startAtLow 61 = .ok (.getfield 29, 3) := by decide +kernel
theorem dX0_startAtLow_64 : decode cX0_startAtLow 64 = .ok (.if_icmp .ge 19, 3) := by decide +kernel
theorem dX0_startAtLow_67 : decode cX0_startAtLow 67 = .ok (.aload_n 0, 1) := by decide +kernel
theorem dX0_startAtLow_68 : decode cX0_startAtLow 68 = .ok (.aload_n 0, 1) := by decide +kernel
theorem dX0_startAtLow_69 : decode cX0_startAtLow 69 = .ok (.iload_n 2, 1) := by decide +kernel
theorem dX0_startAtLow_70 : decode cX0_startAtLow 70 = .ok (.iload_n 1, 1) := by decide +kernel
theorem dX0_startAtLow_71 : decode cX0_startAtLow 71 = .ok (.invokevirtual 56, 3) := by decide +kernel
theorem dX0_startAtLow_74 : decode cX0_startAtLow 74 = .ok (.invokevirtual 111, 3) := by decide +kernel
theorem dX0_startAtLow_77 : decode cX0_startAtLow 77 = .ok (.iinc 2 1, 3) := by decide +kernel
theorem dX0_startAtLow_80 : decode cX0_startAtLow 80 = .ok (.goto (-21), 3) := by decide +kernel
theorem dX0_startAtLow_83 : decode cX0_startAtLow 83 = .ok (.iinc 1 1, 3) := by decide +kernel
theorem dX0_startAtLow_86 : decode cX0_startAtLow 86 = .ok (.goto (-37), 3) := by decide +kernel
theorem dX0_startAtLow_89 : decode cX0_startAtLow 89 = .ok (.return_, 1) := by decide +kernel
theorem dX0_weigh_0 : decode cX0_weigh 0 = .ok (.aload_n 0, 1) := by decide +kernel
theorem dX0_weigh_1 : decode cX0_weigh 1 = .ok (.getfield 44, 3) := by decide +kernel
theorem dX0_weigh_4 : decode cX0_weigh 4 = .ok (.iload_n 1, 1) := by decide +kernel
theorem dX0_weigh_5 : decode cX0_weigh 5 = .ok (.iaload, 1) := by decide +kernel
theorem dX0_weigh_6 : decode cX0_weigh 6 = .ok (.istore_n 2, 1) := by decide +kernel
theorem dX0_weigh_7 : decode cX0_weigh 7 = .ok (.aload_n 0, 1) := by decide +kernel
theorem dX0_weigh_8 : decode cX0_weigh 8 = .ok (.getfield 44, 3) := by decide +kernel
theorem dX0_weigh_11 : decode cX0_weigh 11 = .ok (.iload_n 1, 1) := by decide +kernel
theorem dX0_weigh_12 : decode cX0_weigh 12 = .ok (.iconst 1, 1) := by decide +kernel
theorem dX0_weigh_13 : decode cX0_weigh 13 = .ok (.isub, 1) := by decide +kernel
theorem dX0_weigh_14 : decode cX0_weigh 14 = .ok (.iaload, 1) := by decide +kernel
theorem dX0_weigh_15 : decode cX0_weigh 15 = .ok (.istore_n 3, 1) := by decide +kernel
theorem dX0_weigh_16 : decode cX0_weigh 16 = .ok (.aload_n 0, 1) := by decide +kernel
theorem dX0_weigh_17 : decode cX0_weigh 17 = .ok (.getfield 47, 3) := by decide +kernel
theorem dX0_weigh_20 : decode cX0_weigh 20 = .ok (.iload_n 1, 1) := by decide +kernel
theorem dX0_weigh_21 : decode cX0_weigh 21 = .ok (.iaload, 1) := by decide +kernel
theorem dX0_weigh_22 : decode cX0_weigh 22 = .ok (.istore 4, 2) := by decide +kernel
theorem dX0_weigh_24 : decode cX0_weigh 24 = .ok (.aload_n 0, 1) := by decide +kernel
theorem dX0_weigh_25 : decode cX0_weigh 25 = .ok (.getfield 47, 3) := by decide +kernel
theorem dX0_weigh_28 : decode cX0_weigh 28 = .ok (.iload_n 1, 1) := by decide +kernel
theorem dX0_weigh_29 : decode cX0_weigh 29 = .ok (.aload_n 0, 1) := by decide +kernel
theorem dX0_weigh_30 : decode cX0_weigh 30 = .ok (.getfield 35, 3) := by decide +kernel
theorem dX0_weigh_33 : decode cX0_weigh 33 = .ok (.isub, 1) := by decide +kernel
theorem dX0_weigh_34 : decode cX0_weigh 34 = .ok (.iaload, 1) := by decide +kernel
theorem dX0_weigh_35 : decode cX0_weigh 35 = .ok (.istore 5, 2) := by decide +kernel
theorem dX0_weigh_37 : decode cX0_weigh 37 = .ok (.aload_n 0, 1) := by decide +kernel
theorem dX0_weigh_38 : decode cX0_weigh 38 = .ok (.getfield 50, 3) := by decide +kernel
theorem dX0_weigh_41 : decode cX0_weigh 41 = .ok (.iload_n 1, 1) := by decide +kernel
theorem dX0_weigh_42 : decode cX0_weigh 42 = .ok (.iload_n 2, 1) := by decide +kernel
theorem dX0_weigh_43 : decode cX0_weigh 43 = .ok (.iload_n 3, 1) := by decide +kernel
theorem dX0_weigh_44 : decode cX0_weigh 44 = .ok (.iadd, 1) := by decide +kernel
theorem dX0_weigh_45 : decode cX0_weigh 45 = .ok (.iload 4, 2) := by decide +kernel
theorem dX0_weigh_47 : decode cX0_weigh 47 = .ok (.iadd, 1) := by decide +kernel
theorem dX0_weigh_48 : decode cX0_weigh 48 = .ok (.iload 5, 2) := by decide +kernel
theorem dX0_weigh_50 : decode cX0_weigh 50 = .ok (.iadd, 1) := by decide +kernel
theorem dX0_weigh_51 : decode cX0_weigh 51 = .ok (.iastore, 1) := by decide +kernel
theorem dX0_weigh_52 : decode cX0_weigh 52 = .ok (.aload_n 0, 1) := by decide +kernel
theorem dX0_weigh_53 : decode cX0_weigh 53 = .ok (.getfield 53, 3) := by decide +kernel
theorem dX0_weigh_56 : decode cX0_weigh 56 = .ok (.iload_n 1, 1) := by decide +kernel
theorem dX0_weigh_57 : decode cX0_weigh 57 = .ok (.iload_n 2, 1) := by decide +kernel
theorem dX0_weigh_58 : decode cX0_weigh 58 = .ok (.aload_n 0, 1) := by decide +kernel
theorem dX0_weigh_59 : decode cX0_weigh 59 = .ok (.getfield 41, 3) := by decide +kernel
theorem dX0_weigh_62 : decode cX0_weigh 62 = .ok (.iload_n 1, 1) := by decide +kernel
theorem dX0_weigh_63 : decode cX0_weigh 63 = .ok (.iconst 1, 1) := by decide +kernel
theorem dX0_weigh_64 : decode cX0_weigh 64 = .ok (.iadd, 1) := by decide +kernel
theorem dX0_weigh_65 : decode cX0_weigh 65 = .ok (.iaload, 1) := by decide +kernel
theorem dX0_weigh_66 : decode cX0_weigh 66 = .ok (.aload_n 0, 1) := by decide +kernel
theorem dX0_weigh_67 : decode cX0_weigh 67 = .ok (.getfield 18, 3) := by decide +kernel
theorem dX0_weigh_70 : decode cX0_weigh 70 = .ok (.isub, 1) := by decide +kernel
theorem dX0_weigh_71 : decode cX0_weigh 71 = .ok (.imul, 1) := by decide +kernel
theorem dX0_weigh_72 : decode cX0_weigh 72 = .ok (.iload_n 3, 1) := by decide +kernel
theorem dX0_weigh_73 : decode cX0_weigh 73 = .ok (.aload_n 0, 1) := by decide +kernel
theorem dX0_weigh_74 : decode cX0_weigh 74 = .ok (.getfield 41, 3) := by decide +kernel
theorem dX0_weigh_77 : decode cX0_weigh 77 = .ok (.iload_n 1, 1) := by decide +kernel
theorem dX0_weigh_78 : decode cX0_weigh 78 = .ok (.iconst 1, 1) := by decide +kernel
theorem dX0_weigh_79 : decode cX0_weigh 79 = .ok (.isub, 1) := by decide +kernel
theorem dX0_weigh_80 : decode cX0_weigh 80 = .ok (.iaload, 1) := by decide +kernel
theorem dX0_weigh_81 : decode cX0_weigh 81 = .ok (.aload_n 0, 1) := by decide +kernel
theorem dX0_weigh_82 : decode cX0_weigh 82 = .ok (.getfield 18, 3) := by decide +kernel
theorem dX0_weigh_85 : decode cX0_weigh 85 = .ok (.isub, 1) := by decide +kernel
theorem dX0_weigh_86 : decode cX0_weigh 86 = .ok (.imul, 1) := by decide +kernel
theorem dX0_weigh_87 : decode cX0_weigh 87 = .ok (.iadd, 1) := by decide +kernel
theorem dX0_weigh_88 : decode cX0_weigh 88 = .ok (.iload 4, 2) := by decide +kernel
theorem dX0_weigh_90 : decode cX0_weigh 90 = .ok (.aload_n 0, 1) := by decide +kernel
theorem dX0_weigh_91 : decode cX0_weigh 91 = .ok (.getfield 41, 3) := by decide +kernel
theorem dX0_weigh_94 : decode cX0_weigh 94 = .ok (.iload_n 1, 1) := by decide +kernel
theorem dX0_weigh_95 : decode cX0_weigh 95 = .ok (.aload_n 0, 1) := by decide +kernel
theorem dX0_weigh_96 : decode cX0_weigh 96 = .ok (.getfield 35, 3) := by decide +kernel
theorem dX0_weigh_99 : decode cX0_weigh 99 = .ok (.iadd, 1) := by decide +kernel
theorem dX0_weigh_100 : decode cX0_weigh 100 = .ok (.iaload, 1) := by decide +kernel
theorem dX0_weigh_101 : decode cX0_weigh 101 = .ok (.aload_n 0, 1) := by decide +kernel
theorem dX0_weigh_102 : decode cX0_weigh 102 = .ok (.getfield 18, 3) := by decide +kernel
theorem dX0_weigh_105 : decode cX0_weigh 105 = .ok (.isub, 1) := by decide +kernel
theorem dX0_weigh_106 : decode cX0_weigh 106 = .ok (.imul, 1) := by decide +kernel
theorem dX0_weigh_107 : decode cX0_weigh 107 = .ok (.iadd, 1) := by decide +kernel
theorem dX0_weigh_108 : decode cX0_weigh 108 = .ok (.iload 5, 2) := by decide +kernel
theorem dX0_weigh_110 : decode cX0_weigh 110 = .ok (.aload_n 0, 1) := by decide +kernel
theorem dX0_weigh_111 : decode cX0_weigh 111 = .ok (.getfield 41, 3) := by decide +kernel
theorem dX0_weigh_114 : decode cX0_weigh 114 = .ok (.iload_n 1, 1) := by decide +kernel
theorem dX0_weigh_115 : decode cX0_weigh 115 = .ok (.aload_n 0, 1) := by decide +kernel
theorem dX0_weigh_116 : decode cX0_weigh 116 = .ok (.getfield 35, 3) := by decide +kernel
theorem dX0_weigh_119 : decode cX0_weigh 119 = .ok (.isub, 1) := by decide +kernel
theorem dX0_weigh_120 : decode cX0_weigh 120 = .ok (.iaload, 1) := by decide +kernel
theorem dX0_weigh_121 : decode cX0_weigh 121 = .ok (.aload_n 0, 1) := by decide +kernel
theorem dX0_weigh_122 : decode cX0_weigh 122 = .ok (.getfield 18, 3) := by decide +kernel
theorem dX0_weigh_125 : decode cX0_weigh 125 = .ok (.isub, 1) := by decide +kernel
theorem dX0_weigh_126 : decode cX0_weigh 126 = .ok (.imul, 1) := by decide +kernel
theorem dX0_weigh_127 : decode cX0_weigh 127 = .ok (.iadd, 1) := by decide +kernel
theorem dX0_weigh_128 : decode cX0_weigh 128 = .ok (.iastore, 1) := by decide +kernel
theorem dX0_weigh_129 : decode cX0_weigh 129 = .ok (.return_, 1) := by decide +kernel
set_option maxRecDepth 20000 in
theorem ggX0_raiseAll_X0_place : GoodIn wsX0_raiseAll wsX0_place := goodIn_r _ [9, 10, 18, 19, 20, 21, 22, 23, 24, 25, 26, 27, 28, 29, 30, 31] (by decide +kernel) (by decide +kernel)
set_option maxRecDepth 20000 in
theorem gX0_raiseAll_X0_place : GoodIn wsX0_raiseAll (wsV RX0 56 RX0 yX0_place wsX0_place) := goodIn_app (goodIn_of _ (by decide +kernel)) ggX0_raiseAll_X0_place
set_option maxRecDepth 20000 in
theorem ggX0_raiseAll_X0_raise : GoodIn wsX0_raiseAll wsX0_raise := goodIn_r _ [14, 15, 4, 3, 16, 10, 17, 18, 19, 20, 21, 22, 23, 24, 25, 26, 27, 28, 29, 30, 31] (by decide +kernel) (by decide +kernel)
set_option maxRecDepth 20000 in
theorem gX0_raiseAll_X0_raise : GoodIn wsX0_raiseAll (wsV RX0 115 RX0 yX0_raise wsX0_raise) := goodIn_app (goodIn_of _ (by decide +kernel)) ggX0_raiseAll_X0_raise
theorem dX0_raiseAll_0 : decode cX0_raiseAll 0 = .ok (.iconst 0, 1) := by decide +kernel
theorem dX0_raiseAll_1 : decode cX0_raiseAll 1 = .ok (.istore_n 1, 1) := by decide +kernel
theorem dX0_raiseAll_2 : decode cX0_raiseAll 2 = .ok (.iconst 0, 1) := by decide +kernel
theorem dX0_raiseAll_3 : decode cX0_raiseAll 3 = .ok (.istore_n 2, 1) := by decide +kernel
theorem dX0_raiseAll_4 : decode cX0_raiseAll 4 = .ok (.iload_n 2, 1) := by decide +kernel
theorem dX0_raiseAll_5 : decode cX0_raiseAll 5 = .ok (.aload_n 0, 1) := by decide +kernel
theorem dX0_raiseAll_6 : decode cX0_raiseAll 6 = .ok (.getfield 32, 3) := by decide +kernel
theorem dX0_raiseAll_9 : decode cX0_raiseAll 9 = .ok (.if_icmp .ge 86, 3) := by decide +kernel
theorem dX0_raiseAll_12 : decode cX0_raiseAll 12 = .ok (.aload_n 0, 1) := by decide +kernel
theorem dX0_raiseAll_13 : decode cX0_raiseAll 13 = .ok (.iconst 0, 1) := by decide +kernel
theorem dX0_raiseAll_14 : decode cX0_raiseAll 14 = .ok (.iload_n 2, 1) := by decide +kernel
theorem dX0_raiseAll_15 : decode cX0_raiseAll 15 = .ok (.invokevirtual 56, 3) := by decide +kernel
theorem dX0_raiseAll_18 : decode cX0_raiseAll 18 = .ok (.istore_n 3, 1) := by decide +kernel
theorem dX0_raiseAll_19 : decode cX0_raiseAll 19 = .ok (.iload_n 3, 1) := by decide +kernel
theorem dX0_raiseAll_20 : decode cX0_raiseAll 20 = .ok (.istore 4, 2) := by decide +kernel
theorem dX0_raiseAll_22 : decode cX0_raiseAll 22 = .ok (.iload 4, 2) := by decide +kernel
theorem dX0_raiseAll_24 : decode cX0_raiseAll 24 = .ok (.iload_n 3, 1) := by decide +kernel
theorem dX0_raiseAll_25 : decode cX0_raiseAll 25 = .ok (.aload_n 0, 1) := by decide +kernel
theorem dX0_raiseAll_26 : decode cX0_raiseAll 26 = .ok (.getfield 29, 3) := by decide +kernel
theorem dX0_raiseAll_29 : decode cX0_raiseAll 29 = .ok (.iadd, 1) := by decide +kernel
theorem dX0_raiseAll_30 : decode cX0_raiseAll 30 = .ok (.if_icmp .ge 59, 3) := by decide +kernel
theorem dX0_raiseAll_33 : decode cX0_raiseAll 33 = .ok (.aload_n 0, 1) := by decide +kernel
theorem dX0_raiseAll_34 : decode cX0_raiseAll 34 = .ok (.getfield 50, 3) := by decide +kernel
theorem dX0_raiseAll_37 : decode cX0_raiseAll 37 = .ok (.iload 4, 2) := by decide +kernel
theorem dX0_raiseAll_39 : decode cX0_raiseAll 39 = .ok (.iaload, 1) := by decide +kernel
theorem dX0_raiseAll_40 : decode cX0_raiseAll 40 = .ok (.ifCond .le 43, 3) := by decide +kernel
theorem dX0_raiseAll_43 : decode cX0_raiseAll 43 = .ok (.aload_n 0, 1) := by decide +kernel
theorem dX0_raiseAll_44 : decode cX0_raiseAll 44 = .ok (.getfield 53, 3) := by decide +kernel
theorem dX0_raiseAll_47 : decode cX0_raiseAll 47 = .ok (.iload 4, 2) := by decide +kernel
theorem dX0_raiseAll_49 : decode cX0_raiseAll 49 = .ok (.iaload, 1) := by decide +kernel
theorem dX0_raiseAll_50 : decode cX0_raiseAll 50 = .ok (.aload_n 0, 1) := by decide +kernel
theorem dX0_raiseAll_51 : decode cX0_raiseAll 51 = .ok (.getfield 50, 3) := by decide +kernel
theorem dX0_raiseAll_54 : decode cX0_raiseAll 54 = .ok (.iload 4, 2) := by decide +kernel
theorem dX0_raiseAll_56 : decode cX0_raiseAll 56 = .ok (.iaload, 1) := by decide +kernel
theorem dX0_raiseAll_57 : decode cX0_raiseAll 57 = .ok (.if_icmp .lt 26, 3) := by decide +kernel
theorem dX0_raiseAll_60 : decode cX0_raiseAll 60 = .ok (.aload_n 0, 1) := by decide +kernel
theorem dX0_raiseAll_61 : decode cX0_raiseAll 61 = .ok (.iload 4, 2) := by decide +kernel
theorem dX0_raiseAll_63 : decode cX0_raiseAll 63 = .ok (.aload_n 0, 1) := by decide +kernel
theorem dX0_raiseAll_64 : decode cX0_raiseAll 64 = .ok (.getfield 53, 3) := by decide +kernel
theorem dX0_raiseAll_67 : decode cX0_raiseAll 67 = .ok (.iload 4, 2) := by decide +kernel
theorem dX0_raiseAll_69 : decode cX0_raiseAll 69 = .ok (.iaload, 1) := by decide +kernel
theorem dX0_raiseAll_70 : decode cX0_raiseAll 70 = .ok (.aload_n 0, 1) := by decide +kernel
theorem dX0_raiseAll_71 : decode cX0_raiseAll 71 = .ok (.getfield 50, 3) := by decide +kernel
theorem dX0_raiseAll_74 : decode cX0_raiseAll 74 = .ok (.iload 4, 2) := by decide +kernel
theorem dX0_raiseAll_76 : decode cX0_raiseAll 76 = .ok (.iaload, 1) := by decide +kernel
theorem dX0_raiseAll_77 : decode cX0_raiseAll 77 = .ok (.idiv, 1) := by decide +kernel
theorem dX0_raiseAll_78 : decode cX0_raiseAll 78 = .ok (.invokevirtual 115, 3) := by decide +kernel
theorem dX0_raiseAll_81 : decode cX0_raiseAll 81 = .ok (.iconst 1, 1) := by decide +kernel
theorem dX0_raiseAll_82 : decode cX0_raiseAll 82 = .ok (.istore_n 1, 1) := by decide +kernel
theorem dX0_raiseAll_83 : decode cX0_raiseAll 83 = .ok (.iinc 4 1, 3) := by decide +kernel
theorem dX0_raiseAll_86 : decode cX0_raiseAll 86 = .ok (.goto (-64), 3) := by decide +kernel
theorem dX0_raiseAll_89 : decode cX0_raiseAll 89 = .ok (.iinc 2 1, 3) := by decide +kernel
theorem dX0_raiseAll_92 : decode cX0_raiseAll 92 = .ok (.goto (-88), 3) := by decide +kernel
theorem dX0_raiseAll_95 : decode cX0_raiseAll 95 = .ok (.iload_n 1, 1) := by decide +kernel
theorem dX0_raiseAll_96 : decode cX0_raiseAll 96 = .ok (.ireturn, 1) := by decide +kernel
theorem dX0_raise_0 : decode cX0_raise 0 = .ok (.aload_n 0, 1) := by decide +kernel
theorem dX0_raise_1 : decode cX0_raise 1 = .ok (.getfield 41, 3) := by decide +kernel
theorem dX0_raise_4 : decode cX0_raise 4 = .ok (.iload_n 1, 1) := by decide +kernel
theorem dX0_raise_5 : decode cX0_raise 5 = .ok (.dup2, 1) := by decide +kernel
theorem dX0_raise_6 : decode cX0_raise 6 = .ok (.iaload, 1) := by decide +kernel
theorem dX0_raise_7 : decode cX0_raise 7 = .ok (.iload_n 2, 1) := by decide +kernel
theorem dX0_raise_8 : decode cX0_raise 8 = .ok (.iadd, 1) := by decide +kernel
theorem dX0_raise_9 : decode cX0_raise 9 = .ok (.iastore, 1) := by decide +kernel
theorem dX0_raise_10 : decode cX0_raise 10 = .ok (.aload_n 0, 1) := by decide +kernel
theorem dX0_raise_11 : decode cX0_raise 11 = .ok (.getfield 53, 3) := by decide +kernel
theorem dX0_raise_14 : decode cX0_raise 14 = .ok (.iload_n 1, 1) := by decide +kernel
theorem dX0_raise_15 : decode cX0_raise 15 = .ok (.dup2, 1) := by decide +kernel
theorem dX0_raise_16 : decode cX0_raise 16 = .ok (.iaload, 1) := by decide +kernel
theorem dX0_raise_17 : decode cX0_raise 17 = .ok (.iload_n 2, 1) := by decide +kernel
theorem dX0_raise_18 : decode cX0_raise 18 = .ok (.aload_n 0, 1) := by decide +kernel
theorem dX0_raise_19 : decode cX0_raise 19 = .ok (.getfield 50, 3) := by decide +kernel
theorem dX0_raise_22 : decode cX0_raise 22 = .ok (.iload_n 1, 1) := by decide +kernel
theorem dX0_raise_23 : decode cX0_raise 23 = .ok (.iaload, 1) := by decide +kernel
theorem dX0_raise_24 : decode cX0_raise 24 = .ok (.imul, 1) := by decide +kernel
theorem dX0_raise_25 : decode cX0_raise 25 = .ok (.isub, 1) := by decide +kernel
theorem dX0_raise_26 : decode cX0_raise 26 = .ok (.iastore, 1) := by decide +kernel
theorem dX0_raise_27 : decode cX0_raise 27 = .ok (.aload_n 0, 1) := by decide +kernel
theorem dX0_raise_28 : decode cX0_raise 28 = .ok (.getfield 53, 3) := by decide +kernel
theorem dX0_raise_31 : decode cX0_raise 31 = .ok (.iload_n 1, 1) := by decide +kernel
theorem dX0_raise_32 : decode cX0_raise 32 = .ok (.iconst 1, 1) := by decide +kernel
theorem dX0_raise_33 : decode cX0_raise 33 = .ok (.iadd, 1) := by decide +kernel
theorem dX0_raise_34 : decode cX0_raise 34 = .ok (.dup2, 1) := by decide +kernel
theorem dX0_raise_35 : decode cX0_raise 35 = .ok (.iaload, 1) := by decide +kernel
theorem dX0_raise_36 : decode cX0_raise 36 = .ok (.iload_n 2, 1) := by decide +kernel
theorem dX0_raise_37 : decode cX0_raise 37 = .ok (.aload_n 0, 1) := by decide +kernel
theorem dX0_raise_38 : decode cX0_raise 38 = .ok (.getfield 44, 3) := by decide +kernel
theorem dX0_raise_41 : decode cX0_raise 41 = .ok (.iload_n 1, 1) := by decide +kernel
theorem dX0_raise_42 : decode cX0_raise 42 = .ok (.iaload, 1) := by decide +kernel
theorem dX0_raise_43 : decode cX0_raise 43 = .ok (.imul, 1) := by decide +kernel
theorem dX0_raise_44 : decode cX0_raise 44 = .ok (.iadd, 1) := by decide +kernel
theorem dX0_raise_45 : decode cX0_raise 45 = .ok (.iastore, 1) := by decide +kernel
theorem dX0_raise_46 : decode cX0_raise 46 = .ok (.aload_n 0, 1) := by decide +kernel
theorem dX0_raise_47 : decode cX0_raise 47 = .ok (.getfield 53, 3) := by decide +kernel
theorem dX0_raise_50 : decode cX0_raise 50 = .ok (.iload_n 1, 1) := by decide +kernel
theorem dX0_raise_51 : decode cX0_raise 51 = .ok (.iconst 1, 1) := by decide +kernel
theorem dX0_raise_52 : decode cX0_raise 52 = .ok (.isub, 1) := by decide +kernel
theorem dX0_raise_53 : decode cX0_raise 53 = .ok (.dup2, 1) := by decide +kernel
theorem dX0_raise_54 : decode cX0_raise 54 = .ok (.iaload, 1) := by decide +kernel
theorem dX0_raise_55 : decode cX0_raise 55 = .ok (.iload_n 2, 1) := by decide +kernel
theorem dX0_raise_56 : decode cX0_raise 56 = .ok (.aload_n 0, 1) := by decide +kernel
theorem dX0_raise_57 : decode cX0_raise 57 = .ok (.getfield 44, 3) := by decide +kernel
theorem dX0_raise_60 : decode cX0_raise 60 = .ok (.iload_n 1, 1) := by decide +kernel
theorem dX0_raise_61 : decode cX0_raise 61 = .ok (.iconst 1, 1) := by decide +kernel
theorem dX0_raise_62 : decode cX0_raise 62 = .ok (.isub, 1) := by decide +kernel
theorem dX0_raise_63 : decode cX0_raise 63 = .ok (.iaload, 1) := by decide +kernel
theorem dX0_raise_64 : decode cX0_raise 64 = .ok (.imul, 1) := by decide +kernel
theorem dX0_raise_65 : decode cX0_raise 65 = .ok (.iadd, 1) := by decide +kernel
theorem dX0_raise_66 : decode cX0_raise 66 = .ok (.iastore, 1) := by decide +kernel
theorem dX0_raise_67 : decode cX0_raise 67 = .ok (.aload_n 0, 1) := by decide +kernel
theorem dX0_raise_68 : decode cX0_raise 68 = .ok (.getfield 53, 3) := by decide +kernel
theorem dX0_raise_71 : decode cX0_raise 71 = .ok (.iload_n 1, 1) := by decide +kernel
theorem dX0_raise_72 : decode cX0_raise 72 = .ok (.aload_n 0, 1) := by decide +kernel
theorem dX0_raise_73 : decode cX0_raise 73 = .ok (.getfield 35, 3) := by decide +kernel
theorem dX0_raise_76 : decode cX0_raise 76 = .ok (.iadd, 1) := by decide +kernel
theorem dX0_raise_77 : decode cX0_raise 77 = .ok (.dup2, 1) := by decide +kernel
theorem dX0_raise_78 : decode cX0_raise 78 = .ok (.iaload, 1) := by decide +kernel
theorem dX0_raise_79 : decode cX0_raise 79 = .ok (.iload_n 2, 1) := by decide +kernel
theorem dX0_raise_80 : decode cX0_raise 80 = .ok (.aload_n 0, 1) := by decide +kernel
theorem dX0_raise_81 : decode cX0_raise 81 = .ok (.getfield 47, 3) := by decide +kernel
theorem dX0_raise_84 : decode cX0_raise 84 = .ok (.iload_n 1, 1) := by decide +kernel
theorem dX0_raise_85 : decode cX0_raise 85 = .ok (.iaload, 1) := by decide +kernel
theorem dX0_raise_86 : decode cX0_raise 86 = .ok (.imul, 1) := by decide +kernel
theorem dX0_raise_87 : decode cX0_raise 87 = .ok (.iadd, 1) := by decide +kernel
theorem dX0_raise_88 : decode cX0_raise 88 = .ok (.iastore, 1) := by decide +kernel
theorem dX0_raise_89 : decode cX0_raise 89 = .ok (.aload_n 0, 1) := by decide +kernel
theorem dX0_raise_90 : decode cX0_raise 90 = .ok (.getfield 53, 3) := by decide +kernel
theorem dX0_raise_93 : decode cX0_raise 93 = .ok (.iload_n 1, 1) := by decide +kernel
theorem dX0_raise_94 : decode cX0_raise 94 = .ok (.aload_n 0, 1) := by decide +kernel
theorem dX0_raise_95 : decode cX0_raise 95 = .ok (.getfield 35, 3) := by decide +kernel
theorem dX0_raise_98 : decode cX0_raise 98 = .ok (.isub, 1) := by decide +kernel
theorem dX0_raise_99 : decode cX0_raise 99 = .ok (.dup2, 1) := by decide +kernel
theorem dX0_raise_100 : decode cX0_raise 100 = .ok (.iaload, 1) := by decide +kernel
theorem dX0_raise_101 : decode cX0_raise 101 = .ok (.iload_n 2, 1) := by decide +kernel
theorem dX0_raise_102 : decode cX0_raise 102 = .ok (.aload_n 0, 1) := by decide +kernel
theorem dX0_raise_103 : decode cX0_raise 103 = .ok (.getfield 47, 3) := by decide +kernel
theorem dX0_raise_106 : decode cX0_raise 106 = .ok (.iload_n 1, 1) := by decide +kernel
theorem dX0_raise_107 : decode cX0_raise 107 = .ok (.aload_n 0, 1) := by decide +kernel
theorem dX0_raise_108 : decode cX0_raise 108 = .ok (.getfield 35, 3) := by decide +kernel
theorem dX0_raise_111 : decode cX0_raise 111 = .ok (.isub, 1) := by decide +kernel
theorem dX0_raise_112 : decode cX0_raise 112 = .ok (.iaload, 1) := by decide +kernel
theorem dX0_raise_113 : decode cX0_raise 113 = .ok (.imul, 1) := by decide +kernel
theorem dX0_raise_114 : decode cX0_raise 114 = .ok (.iadd, 1) := by decide +kernel
theorem dX0_raise_115 : decode cX0_raise 115 = .ok (.iastore, 1) := by decide +kernel
theorem dX0_raise_116 : decode cX0_raise 116 = .ok (.return_, 1) := by decide +kernel
theorem dX0_couple_0 : decode cX0_couple 0 = .ok (.iload_n 0, 1) := by decide +kernel
theorem dX0_couple_1 : decode cX0_couple 1 = .ok (.ifCond .le 19, 3) := by decide +kernel
theorem dX0_couple_4 : decode cX0_couple 4 = .ok (.iload_n 1, 1) := by decide +kernel
theorem dX0_couple_5 : decode cX0_couple 5 = .ok (.ifCond .le 15, 3) := by decide +kernel
theorem dX0_couple_8 : decode cX0_couple 8 = .ok (.iconst 2, 1) := by decide +kernel
theorem dX0_couple_9 : decode cX0_couple 9 = .ok (.iload_n 0, 1) := by decide +kernel
theorem dX0_couple_10 : decode cX0_couple 10 = .ok (.imul, 1) := by decide +kernel
theorem dX0_couple_11 : decode cX0_couple 11 = .ok (.iload_n 1, 1) := by decide +kernel
theorem dX0_couple_12 : decode cX0_couple 12 = .ok (.imul, 1) := by decide +kernel
theorem dX0_couple_13 : decode cX0_couple 13 = .ok (.iload_n 0, 1) := by decide +kernel
theorem dX0_couple_14 : decode cX0_couple 14 = .ok (.iload_n 1, 1) := by decide +kernel
theorem dX0_couple_15 : decode cX0_couple 15 = .ok (.iadd, 1) := by decide +kernel
theorem dX0_couple_16 : decode cX0_couple 16 = .ok (.idiv, 1) := by decide +kernel
theorem dX0_couple_17 : decode cX0_couple 17 = .ok (.goto 4, 3) := by decide +kernel
theorem dX0_couple_20 : decode cX0_couple 20 = .ok (.iconst 0, 1) := by decide +kernel
theorem dX0_couple_21 : decode cX0_couple 21 = .ok (.ireturn, 1) := by decide +kernel
end
section
set_option maxRecDepth 20000 in
theorem ggX1_init_X0_init : GoodIn wsX1_init wsX0_init := goodIn_r _ [22, 23, 2, 3, 6, 24, 25, 26, 27, 28, 29, 30, 31, 32, 33, 34, 35, 36, 37, 42, 43, 44, 45, 46, 47, 48, 49, 50, 51, 52, 53, 54, 55] (by decide +kernel) (by decide +kernel)
set_option maxRecDepth 20000 in
theorem gX1_init_X0_init : GoodIn wsX1_init (wsX0_init) := ggX1_init_X0_init
theorem dX1_init_0 : decode cX1_init 0 = .ok (.aload_n 0, 1) := by decide +kernel
theorem dX1_init_1 : decode cX1_init 1 = .ok (.invokespecial 1, 3) := by decide +kernel
theorem dX1_init_4 : decode cX1_init 4 = .ok (.aload_n 0, 1) := by decide +kernel
theorem dX1_init_5 : decode cX1_init 5 = .ok (.bipush 10, 2) := by decide +kernel
theorem dX1_init_7 : decode cX1_init 7 = .ok (.newarray .long, 2) := by decide +kernel
theorem dX1_init_9 : decode cX1_init 9 = .ok (.putfield 9, 3) := by decide +kernel
theorem dX1_init_12 : decode cX1_init 12 = .ok (.aload_n 0, 1) := by decide +kernel
theorem dX1_init_13 : decode cX1_init 13 = .ok (.bipush 10, 2) := by decide +kernel
theorem dX1_init_15 : decode cX1_init 15 = .ok (.newarray .int, 2) := by decide +kernel
theorem dX1_init_17 : decode cX1_init 17 = .ok (.putfield 13, 3) := by decide +kernel
theorem dX1_init_20 : decode cX1_init 20 = .ok (.aload_n 0, 1) := by decide +kernel
theorem dX1_init_21 : decode cX1_init 21 = .ok (.iconst 0, 1) := by decide +kernel
theorem dX1_init_22 : decode cX1_init 22 = .ok (.putfield 17, 3) := by decide +kernel
theorem dX1_init_25 : decode cX1_init 25 = .ok (.aload_n 0, 1) := by decide +kernel
theorem dX1_init_26 : decode cX1_init 26 = .ok (.new 21, 3) := by decide +kernel
theorem dX1_init_29 : decode cX1_init 29 = .ok (.dup, 1) := by decide +kernel
theorem dX1_init_30 : decode cX1_init 30 = .ok (.iconst 1, 1) := by decide +kernel
theorem dX1_init_31 : decode cX1_init 31 = .ok (.bipush 10, 2) := by decide +kernel
theorem dX1_init_33 : decode cX1_init 33 = .ok (.iload_n 1, 1) := by decide +kernel
theorem dX1_init_34 : decode cX1_init 34 = .ok (.invokestatic 23, 3) := by decide +kernel
theorem dX1_init_37 : decode cX1_init 37 = .ok (.invokestatic 29, 3) := by decide +kernel
theorem dX1_init_40 : decode cX1_init 40 = .ok (.iconst 1, 1) := by decide +kernel
theorem dX1_init_41 : decode cX1_init 41 = .ok (.bipush 10, 2) := by decide +kernel
theorem dX1_init_43 : decode cX1_init 43 = .ok (.iload_n 2, 1) := by decide +kernel
theorem dX1_init_44 : decode cX1_init 44 = .ok (.invokestatic 23, 3) := by decide +kernel
theorem dX1_init_47 : decode cX1_init 47 = .ok (.invokestatic 29, 3) := by decide +kernel
theorem dX1_init_50 : decode cX1_init 50 = .ok (.invokespecial 32, 3) := by decide +kernel
theorem dX1_init_53 : decode cX1_init 53 = .ok (.putfield 35, 3) := by decide +kernel
theorem dX1_init_56 : decode cX1_init 56 = .ok (.return_, 1) := by decide +kernel
set_option maxRecDepth 20000 in
theorem ggX1_box_X0_holds : GoodIn wsX1_box wsX0_holds := goodIn_r _ [8, 9, 10, 38, 39, 40, 41, 42, 43, 44, 45, 46, 47, 48, 49, 50, 51] (by decide +kernel) (by decide +kernel)
set_option maxRecDepth 20000 in
theorem gX1_box_X0_holds : GoodIn wsX1_box (wsV RX1 39 RX0 yX0_holds wsX0_holds) := goodIn_app (goodIn_of _ (by decide +kernel)) ggX1_box_X0_holds
set_option maxRecDepth 20000 in
theorem ggX1_box_X1_isWithin : GoodIn wsX1_box wsX1_isWithin := goodIn_r _ [14] (by decide +kernel) (by decide +kernel)
set_option maxRecDepth 20000 in
theorem gX1_box_X1_isWithin : GoodIn wsX1_box (va_wsS RX1 52 yX1_isWithin wsX1_isWithin) := goodIn_app (goodIn_of _ (by decide +kernel)) ggX1_box_X1_isWithin
set_option maxRecDepth 20000 in
theorem ggX1_box_X0_fill : GoodIn wsX1_box wsX0_fill := goodIn_r _ [18, 19, 20, 21, 22, 23, 7, 24, 25, 38, 39, 40, 41, 42, 43, 44, 45, 46, 47, 48, 49, 50, 51] (by decide +kernel) (by decide +kernel)
set_option maxRecDepth 20000 in
theorem gX1_box_X0_fill : GoodIn wsX1_box (wsV RX1 58 RX0 yX0_fill wsX0_fill) := goodIn_app (goodIn_of _ (by decide +kernel)) ggX1_box_X0_fill
set_option maxRecDepth 20000 in
theorem ggX1_box_X0_countThere : GoodIn wsX1_box wsX0_countThere := goodIn_r _ [29, 10, 9, 30, 31, 32, 7, 33, 19, 21, 22, 23, 24, 25, 38, 39, 40, 41, 42, 43, 44, 45, 46, 47, 48, 49, 50, 51] (by decide +kernel) (by decide +kernel)
set_option maxRecDepth 20000 in
theorem gX1_box_X0_countThere : GoodIn wsX1_box (wsV RX1 62 RX0 yX0_countThere wsX0_countThere) := goodIn_app (goodIn_of _ (by decide +kernel)) ggX1_box_X0_countThere
theorem dX1_box_0 : decode cX1_box 0 = .ok (.aload_n 0, 1) := by decide +kernel
theorem dX1_box_1 : decode cX1_box 1 = .ok (.getfield 35, 3) := by decide +kernel
theorem dX1_box_4 : decode cX1_box 4 = .ok (.iload_n 1, 1) := by decide +kernel
theorem dX1_box_5 : decode cX1_box 5 = .ok (.iload_n 2, 1) := by decide +kernel
theorem dX1_box_6 : decode cX1_box 6 = .ok (.invokevirtual 39, 3) := by decide +kernel
theorem dX1_box_9 : decode cX1_box 9 = .ok (.ifCond .eq 16, 3) := by decide +kernel
theorem dX1_box_12 : decode cX1_box 12 = .ok (.aload_n 0, 1) := by decide +kernel
theorem dX1_box_13 : decode cX1_box 13 = .ok (.getfield 35, 3) := by decide +kernel
theorem dX1_box_16 : decode cX1_box 16 = .ok (.iload_n 3, 1) := by decide +kernel
theorem dX1_box_17 : decode cX1_box 17 = .ok (.iload 4, 2) := by decide +kernel
theorem dX1_box_19 : decode cX1_box 19 = .ok (.invokevirtual 39, 3) := by decide +kernel
theorem dX1_box_22 : decode cX1_box 22 = .ok (.ifCond .ne 13, 3) := by decide +kernel
theorem dX1_box_25 : decode cX1_box 25 = .ok (.new 43, 3) := by decide +kernel
theorem dX1_box_28 : decode cX1_box 28 = .ok (.dup, 1) := by decide +kernel
theorem dX1_box_29 : decode cX1_box 29 = .ok (.ldc 45, 2) := by decide +kernel
theorem dX1_box_31 : decode cX1_box 31 = .ok (.invokespecial 47, 3) := by decide +kernel
theorem dX1_box_34 : decode cX1_box 34 = .ok (.athrow, 1) := by decide +kernel
theorem dX1_box_35 : decode cX1_box 35 = .ok (.iload_n 1, 1) := by decide +kernel
theorem dX1_box_36 : decode cX1_box 36 = .ok (.iload_n 3, 1) := by decide +kernel
theorem dX1_box_37 : decode cX1_box 37 = .ok (.if_icmp .gt 9, 3) := by decide +kernel
theorem dX1_box_40 : decode cX1_box 40 = .ok (.iload_n 2, 1) := by decide +kernel
theorem dX1_box_41 : decode cX1_box 41 = .ok (.iload 4, 2) := by decide +kernel
theorem dX1_box_43 : decode cX1_box 43 = .ok (.if_icmp .le 13, 3) := by decide +kernel
theorem dX1_box_46 : decode cX1_box 46 = .ok (.new 43, 3) := by decide +kernel
theorem dX1_box_49 : decode cX1_box 49 = .ok (.dup, 1) := by decide +kernel
theorem dX1_box_50 : decode cX1_box 50 = .ok (.ldc 50, 2) := by decide +kernel
theorem dX1_box_52 : decode cX1_box 52 = .ok (.invokespecial 47, 3) := by decide +kernel
theorem dX1_box_55 : decode cX1_box 55 = .ok (.athrow, 1) := by decide +kernel
theorem dX1_box_56 : decode cX1_box 56 = .ok (.iload 5, 2) := by decide +kernel
theorem dX1_box_58 : decode cX1_box 58 = .ok (.iconst 0, 1) := by decide +kernel
theorem dX1_box_59 : decode cX1_box 59 = .ok (.bipush 20, 2) := by decide +kernel
theorem dX1_box_61 : decode cX1_box 61 = .ok (.invokestatic 52, 3) := by decide +kernel
theorem dX1_box_64 : decode cX1_box 64 = .ok (.ifCond .ne 13, 3) := by decide +kernel
theorem dX1_box_67 : decode cX1_box 67 = .ok (.new 43, 3) := by decide +kernel
theorem dX1_box_70 : decode cX1_box 70 = .ok (.dup, 1) := by decide +kernel
theorem dX1_box_71 : decode cX1_box 71 = .ok (.ldc 56, 2) := by decide +kernel
theorem dX1_box_73 : decode cX1_box 73 = .ok (.invokespecial 47, 3) := by decide +kernel
theorem dX1_box_76 : decode cX1_box 76 = .ok (.athrow, 1) := by decide +kernel
theorem dX1_box_77 : decode cX1_box 77 = .ok (.aload_n 0, 1) := by decide +kernel
theorem dX1_box_78 : decode cX1_box 78 = .ok (.getfield 35, 3) := by decide +kernel
theorem dX1_box_81 : decode cX1_box 81 = .ok (.iload_n 1, 1) := by decide +kernel
theorem dX1_box_82 : decode cX1_box 82 = .ok (.iload_n 2, 1) := by decide +kernel
theorem dX1_box_83 : decode cX1_box 83 = .ok (.iload_n 3, 1) := by decide +kernel
theorem dX1_box_84 : decode cX1_box 84 = .ok (.iload 4, 2) := by decide +kernel
theorem dX1_box_86 : decode cX1_box 86 = .ok (.iload 5, 2) := by decide +kernel
theorem dX1_box_88 : decode cX1_box 88 = .ok (.invokevirtual 58, 3) := by decide +kernel
theorem dX1_box_91 : decode cX1_box 91 = .ok (.aload_n 0, 1) := by decide +kernel
theorem dX1_box_92 : decode cX1_box 92 = .ok (.getfield 35, 3) := by decide +kernel
theorem dX1_box_95 : decode cX1_box 95 = .ok (.invokevirtual 62, 3) := by decide +kernel
theorem dX1_box_98 : decode cX1_box 98 = .ok (.ireturn, 1) := by decide +kernel
set_option maxRecDepth 20000 in
theorem ggX1_side_X1_isSide : GoodIn wsX1_side wsX1_isSide := goodIn_r _ [7, 8, 9, 6, 10] (by decide +kernel) (by decide +kernel)
set_option maxRecDepth 20000 in
theorem gX1_side_X1_isSide : GoodIn wsX1_side (va_wsS RX1 66 yX1_isSide wsX1_isSide) := goodIn_app (goodIn_of _ (by decide +kernel)) ggX1_side_X1_isSide
set_option maxRecDepth 20000 in
theorem ggX1_side_X1_isWithin : GoodIn wsX1_side wsX1_isWithin := goodIn_r _ [10] (by decide +kernel) (by decide +kernel)
set_option maxRecDepth 20000 in
theorem gX1_side_X1_isWithin : GoodIn wsX1_side (va_wsS RX1 52 yX1_isWithin wsX1_isWithin) := goodIn_app (goodIn_of _ (by decide +kernel)) ggX1_side_X1_isWithin
set_option maxRecDepth 20000 in
theorem ggX1_side_X0_changeSide : GoodIn wsX1_side wsX0_changeSide := goodIn_r _ [15, 16, 17, 18, 19, 20, 21, 22, 23, 14, 24, 25, 26, 27, 28, 29, 30, 31, 32, 33, 34, 35, 36, 37, 38, 39, 44, 45, 46, 47, 48, 49, 50, 51, 52, 53, 54, 55, 56, 57] (by decide +kernel) (by decide +kernel)
set_option maxRecDepth 20000 in
theorem gX1_side_X0_changeSide : GoodIn wsX1_side (wsV RX1 76 RX0 yX0_changeSide wsX0_changeSide) := goodIn_app (goodIn_of _ (by decide +kernel)) ggX1_side_X0_changeSide
theorem dX1_side_0 : decode cX1_side 0 = .ok (.iload_n 1, 1) := by decide +kernel
theorem dX1_side_1 : decode cX1_side 1 = .ok (.invokestatic 66, 3) := by decide +kernel
theorem dX1_side_4 : decode cX1_side 4 = .ok (.ifCond .ne 13, 3) := by decide +kernel
theorem dX1_side_7 : decode cX1_side 7 = .ok (.new 43, 3) := by decide +kernel
theorem dX1_side_10 : decode cX1_side 10 = .ok (.dup, 1) := by decide +kernel
theorem dX1_side_11 : decode cX1_side 11 = .ok (.ldc 70, 2) := by decide +kernel
theorem dX1_side_13 : decode cX1_side 13 = .ok (.invokespecial 47, 3) := by decide +kernel
theorem dX1_side_16 : decode cX1_side 16 = .ok (.athrow, 1) := by decide +kernel
theorem dX1_side_17 : decode cX1_side 17 = .ok (.iload_n 2, 1) := by decide +kernel
theorem dX1_side_18 : decode cX1_side 18 = .ok (.sipush (-10000), 3) := by decide +kernel
theorem dX1_side_21 : decode cX1_side 21 = .ok (.sipush 10000, 3) := by decide +kernel
theorem dX1_side_24 : decode cX1_side 24 = .ok (.invokestatic 52, 3) := by decide +kernel
theorem dX1_side_27 : decode cX1_side 27 = .ok (.ifCond .ne 13, 3) := by decide +kernel
theorem dX1_side_30 : decode cX1_side 30 = .ok (.new 43, 3) := by decide +kernel
theorem dX1_side_33 : decode cX1_side 33 = .ok (.dup, 1) := by decide +kernel
theorem dX1_side_34 : decode cX1_side 34 = .ok (.ldc 72, 2) := by decide +kernel
theorem dX1_side_36 : decode cX1_side 36 = .ok (.invokespecial 47, 3) := by decide +kernel
theorem dX1_side_39 : decode cX1_side 39 = .ok (.athrow, 1) := by decide +kernel
theorem dX1_side_40 : decode cX1_side 40 = .ok (.iload_n 3, 1) := by decide +kernel
theorem dX1_side_41 : decode cX1_side 41 = .ok (.iconst 0, 1) := by decide +kernel
theorem dX1_side_42 : decode cX1_side 42 = .ok (.bipush 20, 2) := by decide +kernel
theorem dX1_side_44 : decode cX1_side 44 = .ok (.invokestatic 52, 3) := by decide +kernel
theorem dX1_side_47 : decode cX1_side 47 = .ok (.ifCond .ne 13, 3) := by decide +kernel
theorem dX1_side_50 : decode cX1_side 50 = .ok (.new 43, 3) := by decide +kernel
theorem dX1_side_53 : decode cX1_side 53 = .ok (.dup, 1) := by decide +kernel
theorem dX1_side_54 : decode cX1_side 54 = .ok (.ldc 74, 2) := by decide +kernel
theorem dX1_side_56 : decode cX1_side 56 = .ok (.invokespecial 47, 3) := by decide +kernel
theorem dX1_side_59 : decode cX1_side 59 = .ok (.athrow, 1) := by decide +kernel
theorem dX1_side_60 : decode cX1_side 60 = .ok (.aload_n 0, 1) := by decide +kernel
theorem dX1_side_61 : decode cX1_side 61 = .ok (.getfield 35, 3) := by decide +kernel
theorem dX1_side_64 : decode cX1_side 64 = .ok (.iload_n 1, 1) := by decide +kernel
theorem dX1_side_65 : decode cX1_side 65 = .ok (.iload_n 2, 1) := by decide +kernel
theorem dX1_side_66 : decode cX1_side 66 = .ok (.iload_n 3, 1) := by decide +kernel
theorem dX1_side_67 : decode cX1_side 67 = .ok (.invokevirtual 76, 3) := by decide +kernel
theorem dX1_side_70 : decode cX1_side 70 = .ok (.ireturn, 1) := by decide +kernel
set_option maxRecDepth 20000 in
theorem ggX1_leads_X0_holds : GoodIn wsX1_leads wsX0_holds := goodIn_r _ [8, 9, 10, 25, 26, 27, 28, 29, 30, 31, 32, 33, 34, 35, 36, 37, 38] (by decide +kernel) (by decide +kernel)
set_option maxRecDepth 20000 in
theorem gX1_leads_X0_holds : GoodIn wsX1_leads (wsV RX1 39 RX0 yX0_holds wsX0_holds) := goodIn_app (goodIn_of _ (by decide +kernel)) ggX1_leads_X0_holds
set_option maxRecDepth 20000 in
theorem ggX1_leads_X0_leadsAt : GoodIn wsX1_leads wsX0_leadsAt := goodIn_r _ [14, 15, 16, 17, 18, 7, 19, 20, 25, 26, 27, 28, 29, 30, 31, 32, 33, 34, 35, 36, 37, 38] (by decide +kernel) (by decide +kernel)
set_option maxRecDepth 20000 in
theorem gX1_leads_X0_leadsAt : GoodIn wsX1_leads (wsV RX1 80 RX0 yX0_leadsAt wsX0_leadsAt) := goodIn_app (goodIn_of _ (by decide +kernel)) ggX1_leads_X0_leadsAt
theorem dX1_leads_0 : decode cX1_leads 0 = .ok (.aload_n 0, 1) := by decide +kernel
theorem dX1_leads_1 : decode cX1_leads 1 = .ok (.getfield 35, 3) := by decide +kernel
theorem dX1_leads_4 : decode cX1_leads 4 = .ok (.iload_n 1, 1) := by decide +kernel
theorem dX1_leads_5 : decode cX1_leads 5 = .ok (.iload_n 2, 1) := by decide +kernel
theorem dX1_leads_6 : decode cX1_leads 6 = .ok (.invokevirtual 39, 3) := by decide +kernel
theorem dX1_leads_9 : decode cX1_leads 9 = .ok (.ifCond .ne 13, 3) := by decide +kernel
theorem dX1_leads_12 : decode cX1_leads 12 = .ok (.new 43, 3) := by decide +kernel
theorem dX1_leads_15 : decode cX1_leads 15 = .ok (.dup, 1) := by decide +kernel
theorem dX1_leads_16 : decode cX1_leads 16 = .ok (.ldc 45, 2) := by decide +kernel
theorem dX1_leads_18 : decode cX1_leads 18 = .ok (.invokespecial 47, 3) := by decide +kernel
theorem dX1_leads_21 : decode cX1_leads 21 = .ok (.athrow, 1) := by decide +kernel
theorem dX1_leads_22 : decode cX1_leads 22 = .ok (.aload_n 0, 1) := by decide +kernel
theorem dX1_leads_23 : decode cX1_leads 23 = .ok (.getfield 35, 3) := by decide +kernel
theorem dX1_leads_26 : decode cX1_leads 26 = .ok (.iload_n 1, 1) := by decide +kernel
theorem dX1_leads_27 : decode cX1_leads 27 = .ok (.iload_n 2, 1) := by decide +kernel
theorem dX1_leads_28 : decode cX1_leads 28 = .ok (.invokevirtual 80, 3) := by decide +kernel
theorem dX1_leads_31 : decode cX1_leads 31 = .ok (.ireturn, 1) := by decide +kernel
set_option maxRecDepth 20000 in
theorem ggX1_warmth_X0_holds : GoodIn wsX1_warmth wsX0_holds := goodIn_r _ [8, 9, 10, 74, 75, 76, 77, 78, 79, 80, 81, 82, 83, 84, 85, 86, 87] (by decide +kernel) (by decide +kernel)
set_option maxRecDepth 20000 in
theorem gX1_warmth_X0_holds : GoodIn wsX1_warmth (wsV RX1 39 RX0 yX0_holds wsX0_holds) := goodIn_app (goodIn_of _ (by decide +kernel)) ggX1_warmth_X0_holds
set_option maxRecDepth 20000 in
theorem ggX1_warmth_X0_settle : GoodIn wsX1_warmth wsX0_settle := goodIn_r _ [14, 15, 9, 10, 16, 17, 18, 19, 20, 7, 21, 22, 23, 24, 25, 26, 27, 28, 29, 30, 31, 32, 33, 34, 35, 36, 37, 38, 39, 40, 41, 42, 43, 44, 45, 46, 47, 48, 49, 50, 51, 52, 53, 54, 55, 56, 57, 58, 59, 60, 61, 62, 63, 64, 74, 75, 76, 77, 78, 79, 80, 81, 82, 83, 84, 85, 86, 87] (by decide +kernel) (by decide +kernel)
set_option maxRecDepth 20000 in
theorem gX1_warmth_X0_settle : GoodIn wsX1_warmth (wsV RX1 83 RX0 yX0_settle wsX0_settle) := goodIn_app (goodIn_of _ (by decide +kernel)) ggX1_warmth_X0_settle
set_option maxRecDepth 20000 in
theorem ggX1_warmth_X0_warmthAt : GoodIn wsX1_warmth wsX0_warmthAt := goodIn_r _ [68, 36, 50, 69, 39, 40, 41, 7, 42, 38, 74, 75, 76, 77, 78, 79, 80, 81, 82, 83, 84, 85, 86, 87] (by decide +kernel) (by decide +kernel)
set_option maxRecDepth 20000 in
theorem gX1_warmth_X0_warmthAt : GoodIn wsX1_warmth (wsV RX1 86 RX0 yX0_warmthAt wsX0_warmthAt) := goodIn_app (goodIn_of _ (by decide +kernel)) ggX1_warmth_X0_warmthAt
theorem dX1_warmth_0 : decode cX1_warmth 0 = .ok (.aload_n 0, 1) := by decide +kernel
theorem dX1_warmth_1 : decode cX1_warmth 1 = .ok (.getfield 35, 3) := by decide +kernel
theorem dX1_warmth_4 : decode cX1_warmth 4 = .ok (.iload_n 1, 1) := by decide +kernel
theorem dX1_warmth_5 : decode cX1_warmth 5 = .ok (.iload_n 2, 1) := by decide +kernel
theorem dX1_warmth_6 : decode cX1_warmth 6 = .ok (.invokevirtual 39, 3) := by decide +kernel
theorem dX1_warmth_9 : decode cX1_warmth 9 = .ok (.ifCond .ne 13, 3) := by decide +kernel
theorem dX1_warmth_12 : decode cX1_warmth 12 = .ok (.new 43, 3) := by decide +kernel
theorem dX1_warmth_15 : decode cX1_warmth 15 = .ok (.dup, 1) := by decide +kernel
theorem dX1_warmth_16 : decode cX1_warmth 16 = .ok (.ldc 45, 2) := by decide +kernel
theorem dX1_warmth_18 : decode cX1_warmth 18 = .ok (.invokespecial 47, 3) := by decide +kernel
theorem dX1_warmth_21 : decode cX1_warmth 21 = .ok (.athrow, 1) := by decide +kernel
theorem dX1_warmth_22 : decode cX1_warmth 22 = .ok (.aload_n 0, 1) := by decide +kernel
theorem dX1_warmth_23 : decode cX1_warmth 23 = .ok (.getfield 35, 3) := by decide +kernel
theorem dX1_warmth_26 : decode cX1_warmth 26 = .ok (.invokevirtual 83, 3) := by decide +kernel
theorem dX1_warmth_29 : decode cX1_warmth 29 = .ok (.aload_n 0, 1) := by decide +kernel
theorem dX1_warmth_30 : decode cX1_warmth 30 = .ok (.getfield 35, 3) := by decide +kernel
theorem dX1_warmth_33 : decode cX1_warmth 33 = .ok (.iload_n 1, 1) := by decide +kernel
theorem dX1_warmth_34 : decode cX1_warmth 34 = .ok (.iload_n 2, 1) := by decide +kernel
theorem dX1_warmth_35 : decode cX1_warmth 35 = .ok (.invokevirtual 86, 3) := by decide +kernel
theorem dX1_warmth_38 : decode cX1_warmth 38 = .ok (.ireturn, 1) := by decide +kernel
set_option maxRecDepth 20000 in
theorem ggX1_flow_X1_isSide : GoodIn wsX1_flow wsX1_isSide := goodIn_r _ [7, 8, 9, 6, 10] (by decide +kernel) (by decide +kernel)
set_option maxRecDepth 20000 in
theorem gX1_flow_X1_isSide : GoodIn wsX1_flow (va_wsS RX1 66 yX1_isSide wsX1_isSide) := goodIn_app (goodIn_of _ (by decide +kernel)) ggX1_flow_X1_isSide
set_option maxRecDepth 20000 in
theorem ggX1_flow_X0_settle : GoodIn wsX1_flow wsX0_settle := goodIn_r _ [15, 16, 17, 18, 19, 20, 21, 22, 23, 14, 24, 25, 26, 27, 28, 29, 30, 31, 32, 33, 34, 35, 36, 37, 38, 39, 40, 41, 42, 43, 44, 45, 46, 47, 48, 49, 50, 51, 52, 53, 54, 55, 56, 57, 58, 59, 60, 61, 62, 63, 64, 65, 66, 67, 84, 85, 86, 87, 88, 89, 90, 91, 92, 93, 94, 95, 96, 97] (by decide +kernel) (by decide +kernel)
set_option maxRecDepth 20000 in
theorem gX1_flow_X0_settle : GoodIn wsX1_flow (wsV RX1 83 RX0 yX0_settle wsX0_settle) := goodIn_app (goodIn_of _ (by decide +kernel)) ggX1_flow_X0_settle
set_option maxRecDepth 20000 in
theorem ggX1_flow_X0_flowOf : GoodIn wsX1_flow wsX0_flowOf := goodIn_r _ [71, 39, 25, 26, 53, 72, 73, 74, 14, 75, 17, 18, 76, 77, 78, 79, 42, 43, 44, 45, 41, 46, 47, 48, 84, 85, 86, 87, 88, 89, 90, 91, 92, 93, 94, 95, 96, 97] (by decide +kernel) (by decide +kernel)
set_option maxRecDepth 20000 in
theorem gX1_flow_X0_flowOf : GoodIn wsX1_flow (wsV RX1 89 RX0 yX0_flowOf wsX0_flowOf) := goodIn_app (goodIn_of _ (by decide +kernel)) ggX1_flow_X0_flowOf
theorem dX1_flow_0 : decode cX1_flow 0 = .ok (.iload_n 1, 1) := by decide +kernel
theorem dX1_flow_1 : decode cX1_flow 1 = .ok (.invokestatic 66, 3) := by decide +kernel
theorem dX1_flow_4 : decode cX1_flow 4 = .ok (.ifCond .ne 13, 3) := by decide +kernel
theorem dX1_flow_7 : decode cX1_flow 7 = .ok (.new 43, 3) := by decide +kernel
theorem dX1_flow_10 : decode cX1_flow 10 = .ok (.dup, 1) := by decide +kernel
theorem dX1_flow_11 : decode cX1_flow 11 = .ok (.ldc 70, 2) := by decide +kernel
theorem dX1_flow_13 : decode cX1_flow 13 = .ok (.invokespecial 47, 3) := by decide +kernel
theorem dX1_flow_16 : decode cX1_flow 16 = .ok (.athrow, 1) := by decide +kernel
theorem dX1_flow_17 : decode cX1_flow 17 = .ok (.aload_n 0, 1) := by decide +kernel
theorem dX1_flow_18 : decode cX1_flow 18 = .ok (.getfield 35, 3) := by decide +kernel
theorem dX1_flow_21 : decode cX1_flow 21 = .ok (.invokevirtual 83, 3) := by decide +kernel
theorem dX1_flow_24 : decode cX1_flow 24 = .ok (.aload_n 0, 1) := by decide +kernel
theorem dX1_flow_25 : decode cX1_flow 25 = .ok (.getfield 35, 3) := by decide +kernel
theorem dX1_flow_28 : decode cX1_flow 28 = .ok (.iload_n 1, 1) := by decide +kernel
theorem dX1_flow_29 : decode cX1_flow 29 = .ok (.invokevirtual 89, 3) := by decide +kernel
theorem dX1_flow_32 : decode cX1_flow 32 = .ok (.lreturn, 1) := by decide +kernel
set_option maxRecDepth 20000 in
theorem ggX1_told_X1_isWithin : GoodIn wsX1_told wsX1_isWithin := goodIn_r _ [7] (by decide +kernel) (by decide +kernel)
set_option maxRecDepth 20000 in
theorem gX1_told_X1_isWithin : GoodIn wsX1_told (va_wsS RX1 52 yX1_isWithin wsX1_isWithin) := goodIn_app (goodIn_of _ (by decide +kernel)) ggX1_told_X1_isWithin
set_option maxRecDepth 20000 in
theorem ggX1_told_X0_settle : GoodIn wsX1_told wsX0_settle := goodIn_r _ [12, 13, 14, 15, 16, 17, 18, 19, 20, 11, 21, 22, 23, 24, 25, 26, 27, 28, 29, 30, 31, 32, 33, 34, 35, 36, 37, 38, 39, 40, 41, 42, 43, 44, 45, 46, 47, 48, 49, 50, 51, 52, 53, 54, 55, 56, 57, 58, 59, 60, 61, 62, 63, 64, 109, 110, 111, 112, 113, 114, 115, 116, 117, 118, 119, 120, 121, 122] (by decide +kernel) (by decide +kernel)
set_option maxRecDepth 20000 in
theorem gX1_told_X0_settle : GoodIn wsX1_told (wsV RX1 83 RX0 yX0_settle wsX0_settle) := goodIn_app (goodIn_of _ (by decide +kernel)) ggX1_told_X0_settle
set_option maxRecDepth 20000 in
theorem ggX1_told_X0_heat : GoodIn wsX1_told wsX0_heat := goodIn_r _ [68, 69, 70, 26, 71, 72, 73, 74, 11, 75, 36, 22, 23, 50, 76, 77, 78, 79, 14, 15, 80, 81, 82, 83, 39, 40, 41, 42, 38, 43, 44, 45, 109, 110, 111, 112, 113, 114, 115, 116, 117, 118, 119, 120, 121, 122] (by decide +kernel) (by decide +kernel)
set_option maxRecDepth 20000 in
theorem gX1_told_X0_heat : GoodIn wsX1_told (wsV RX1 95 RX0 yX0_heat wsX0_heat) := goodIn_app (goodIn_of _ (by decide +kernel)) ggX1_told_X0_heat
set_option maxRecDepth 20000 in
theorem ggX1_told_X0_rest : GoodIn wsX1_told wsX0_rest := goodIn_r _ [87, 72, 73, 74, 11, 75, 36, 22, 23, 50, 76, 77, 78, 79, 14, 15, 80, 81, 82, 83, 39, 40, 41, 42, 38, 43, 44, 45, 109, 110, 111, 112, 113, 114, 115, 116, 117, 118, 119, 120, 121, 122] (by decide +kernel) (by decide +kernel)
set_option maxRecDepth 20000 in
theorem gX1_told_X0_rest : GoodIn wsX1_told (wsV RX1 99 RX0 yX0_rest wsX0_rest) := goodIn_app (goodIn_of _ (by decide +kernel)) ggX1_told_X0_rest
set_option maxRecDepth 20000 in
theorem ggX1_told_X0_sumOfWarmths : GoodIn wsX1_told wsX0_sumOfWarmths := goodIn_r _ [91, 15, 14, 92, 93, 94, 11, 95, 36, 39, 40, 41, 42, 38, 96, 97, 98, 99, 50, 100, 109, 110, 111, 112, 113, 114, 115, 116, 117, 118, 119, 120, 121, 122] (by decide +kernel) (by decide +kernel)
set_option maxRecDepth 20000 in
theorem gX1_told_X0_sumOfWarmths : GoodIn wsX1_told (wsV RX1 102 RX0 yX0_sumOfWarmths wsX0_sumOfWarmths) := goodIn_app (goodIn_of _ (by decide +kernel)) ggX1_told_X0_sumOfWarmths
set_option maxRecDepth 20000 in
theorem ggX1_told_X0_countAlone : GoodIn wsX1_told wsX0_countAlone := goodIn_r _ [104, 15, 14, 55, 92, 93, 94, 11, 95, 36, 39, 40, 41, 42, 38, 109, 110, 111, 112, 113, 114, 115, 116, 117, 118, 119, 120, 121, 122] (by decide +kernel) (by decide +kernel)
set_option maxRecDepth 20000 in
theorem gX1_told_X0_countAlone : GoodIn wsX1_told (wsV RX1 105 RX0 yX0_countAlone wsX0_countAlone) := goodIn_app (goodIn_of _ (by decide +kernel)) ggX1_told_X0_countAlone
theorem dX1_told_0 : decode cX1_told 0 = .ok (.iload_n 1, 1) := by decide +kernel
theorem dX1_told_1 : decode cX1_told 1 = .ok (.iconst 0, 1) := by decide +kernel
theorem dX1_told_2 : decode cX1_told 2 = .ok (.iconst 3, 1) := by decide +kernel
theorem dX1_told_3 : decode cX1_told 3 = .ok (.invokestatic 52, 3) := by decide +kernel
theorem dX1_told_6 : decode cX1_told 6 = .ok (.ifCond .ne 13, 3) := by decide +kernel
theorem dX1_told_9 : decode cX1_told 9 = .ok (.new 43, 3) := by decide +kernel
theorem dX1_told_12 : decode cX1_told 12 = .ok (.dup, 1) := by decide +kernel
theorem dX1_told_13 : decode cX1_told 13 = .ok (.ldc 93, 2) := by decide +kernel
theorem dX1_told_15 : decode cX1_told 15 = .ok (.invokespecial 47, 3) := by decide +kernel
theorem dX1_told_18 : decode cX1_told 18 = .ok (.athrow, 1) := by decide +kernel
theorem dX1_told_19 : decode cX1_told 19 = .ok (.aload_n 0, 1) := by decide +kernel
theorem dX1_told_20 : decode cX1_told 20 = .ok (.getfield 35, 3) := by decide +kernel
theorem dX1_told_23 : decode cX1_told 23 = .ok (.invokevirtual 83, 3) := by decide +kernel
theorem dX1_told_26 : decode cX1_told 26 = .ok (.iload_n 1, 1) := by decide +kernel
theorem dX1_told_27 : decode cX1_told 27 = .ok (.tableswitch 49 0 2 #[25, 33, 41], 25) := by decide +kernel
theorem dX1_told_52 : decode cX1_told 52 = .ok (.aload_n 0, 1) := by decide +kernel
theorem dX1_told_53 : decode cX1_told 53 = .ok (.getfield 35, 3) := by decide +kernel
theorem dX1_told_56 : decode cX1_told 56 = .ok (.invokevirtual 95, 3) := by decide +kernel
theorem dX1_told_59 : decode cX1_told 59 = .ok (.lreturn, 1) := by decide +kernel
theorem dX1_told_60 : decode cX1_told 60 = .ok (.aload_n 0, 1) := by decide +kernel
theorem dX1_told_61 : decode cX1_told 61 = .ok (.getfield 35, 3) := by decide +kernel
theorem dX1_told_64 : decode cX1_told 64 = .ok (.invokevirtual 99, 3) := by decide +kernel
theorem dX1_told_67 : decode cX1_told 67 = .ok (.lreturn, 1) := by decide +kernel
theorem dX1_told_68 : decode cX1_told 68 = .ok (.aload_n 0, 1) := by decide +kernel
theorem dX1_told_69 : decode cX1_told 69 = .ok (.getfield 35, 3) := by decide +kernel
theorem dX1_told_72 : decode cX1_told 72 = .ok (.invokevirtual 102, 3) := by decide +kernel
theorem dX1_told_75 : decode cX1_told 75 = .ok (.lreturn, 1) := by decide +kernel
theorem dX1_told_76 : decode cX1_told 76 = .ok (.aload_n 0, 1) := by decide +kernel
theorem dX1_told_77 : decode cX1_told 77 = .ok (.getfield 35, 3) := by decide +kernel
theorem dX1_told_80 : decode cX1_told 80 = .ok (.invokevirtual 105, 3) := by decide +kernel
theorem dX1_told_83 : decode cX1_told 83 = .ok (.i2l, 1) := by decide +kernel
theorem dX1_told_84 : decode cX1_told 84 = .ok (.lreturn, 1) := by decide +kernel
set_option maxRecDepth 20000 in
theorem ggX1_least_X1_isSide : GoodIn wsX1_least wsX1_isSide := goodIn_r _ [8, 9, 10, 7, 11] (by decide +kernel) (by decide +kernel)
set_option maxRecDepth 20000 in
theorem gX1_least_X1_isSide : GoodIn wsX1_least (va_wsS RX1 66 yX1_isSide wsX1_isSide) := goodIn_app (goodIn_of _ (by decide +kernel)) ggX1_least_X1_isSide
set_option maxRecDepth 20000 in
theorem ggX1_least_X1_isWithin : GoodIn wsX1_least wsX1_isWithin := goodIn_r _ [11] (by decide +kernel) (by decide +kernel)
set_option maxRecDepth 20000 in
theorem gX1_least_X1_isWithin : GoodIn wsX1_least (va_wsS RX1 52 yX1_isWithin wsX1_isWithin) := goodIn_app (goodIn_of _ (by decide +kernel)) ggX1_least_X1_isWithin
set_option maxRecDepth 20000 in
theorem ggX1_least_X0_settle : GoodIn wsX1_least wsX0_settle := goodIn_r _ [16, 17, 18, 19, 20, 21, 22, 23, 24, 15, 25, 26, 27, 28, 29, 30, 31, 32, 33, 34, 35, 36, 37, 38, 39, 40, 41, 42, 43, 44, 45, 46, 47, 48, 49, 50, 51, 52, 53, 54, 55, 56, 57, 58, 59, 60, 61, 62, 63, 64, 65, 66, 67, 68, 90, 91, 92, 93, 94, 95, 96, 97, 98, 99, 100, 101, 102, 103] (by decide +kernel) (by decide +kernel)
set_option maxRecDepth 20000 in
theorem gX1_least_X0_settle : GoodIn wsX1_least (wsV RX1 83 RX0 yX0_settle wsX0_settle) := goodIn_app (goodIn_of _ (by decide +kernel)) ggX1_least_X0_settle
set_option maxRecDepth 20000 in
theorem ggX1_least_X0_coldestAlong : GoodIn wsX1_least wsX0_coldestAlong := goodIn_r _ [72, 40, 73, 74, 75, 15, 76, 18, 19, 77, 78, 79, 80, 43, 44, 45, 46, 42, 81, 82, 83, 84, 54, 90, 91, 92, 93, 94, 95, 96, 97, 98, 99, 100, 101, 102, 103] (by decide +kernel) (by decide +kernel)
set_option maxRecDepth 20000 in
theorem gX1_least_X0_coldestAlong : GoodIn wsX1_least (wsV RX1 108 RX0 yX0_coldestAlong wsX0_coldestAlong) := goodIn_app (goodIn_of _ (by decide +kernel)) ggX1_least_X0_coldestAlong
set_option maxRecDepth 20000 in
theorem ggX1_least_X0_warmthAlong : GoodIn wsX1_least wsX0_warmthAlong := goodIn_r _ [84, 54, 77, 78, 79, 15, 80, 18, 19, 43, 44, 45, 46, 42, 90, 91, 92, 93, 94, 95, 96, 97, 98, 99, 100, 101, 102, 103] (by decide +kernel) (by decide +kernel)
set_option maxRecDepth 20000 in
theorem gX1_least_X0_warmthAlong : GoodIn wsX1_least (wsV RX1 113 RX0 yX0_warmthAlong wsX0_warmthAlong) := goodIn_app (goodIn_of _ (by decide +kernel)) ggX1_least_X0_warmthAlong
theorem dX1_least_0 : decode cX1_least 0 = .ok (.iload_n 1, 1) := by decide +kernel
theorem dX1_least_1 : decode cX1_least 1 = .ok (.invokestatic 66, 3) := by decide +kernel
theorem dX1_least_4 : decode cX1_least 4 = .ok (.ifCond .ne 13, 3) := by decide +kernel
theorem dX1_least_7 : decode cX1_least 7 = .ok (.new 43, 3) := by decide +kernel
theorem dX1_least_10 : decode cX1_least 10 = .ok (.dup, 1) := by decide +kernel
theorem dX1_least_11 : decode cX1_least 11 = .ok (.ldc 70, 2) := by decide +kernel
theorem dX1_least_13 : decode cX1_least 13 = .ok (.invokespecial 47, 3) := by decide +kernel
theorem dX1_least_16 : decode cX1_least 16 = .ok (.athrow, 1) := by decide +kernel
theorem dX1_least_17 : decode cX1_least 17 = .ok (.iload_n 2, 1) := by decide +kernel
theorem dX1_least_18 : decode cX1_least 18 = .ok (.iconst 0, 1) := by decide +kernel
theorem dX1_least_19 : decode cX1_least 19 = .ok (.iconst 1, 1) := by decide +kernel
theorem dX1_least_20 : decode cX1_least 20 = .ok (.invokestatic 52, 3) := by decide +kernel
theorem dX1_least_23 : decode cX1_least 23 = .ok (.ifCond .ne 13, 3) := by decide +kernel
theorem dX1_least_26 : decode cX1_least 26 = .ok (.new 43, 3) := by decide +kernel
theorem dX1_least_29 : decode cX1_least 29 = .ok (.dup, 1) := by decide +kernel
theorem dX1_least_30 : decode cX1_least 30 = .ok (.ldc 93, 2) := by decide +kernel
theorem dX1_least_32 : decode cX1_least 32 = .ok (.invokespecial 47, 3) := by decide +kernel
theorem dX1_least_35 : decode cX1_least 35 = .ok (.athrow, 1) := by decide +kernel
theorem dX1_least_36 : decode cX1_least 36 = .ok (.aload_n 0, 1) := by decide +kernel
theorem dX1_least_37 : decode cX1_least 37 = .ok (.getfield 35, 3) := by decide +kernel
theorem dX1_least_40 : decode cX1_least 40 = .ok (.invokevirtual 83, 3) := by decide +kernel
theorem dX1_least_43 : decode cX1_least 43 = .ok (.aload_n 0, 1) := by decide +kernel
theorem dX1_least_44 : decode cX1_least 44 = .ok (.getfield 35, 3) := by decide +kernel
theorem dX1_least_47 : decode cX1_least 47 = .ok (.iload_n 1, 1) := by decide +kernel
theorem dX1_least_48 : decode cX1_least 48 = .ok (.invokevirtual 108, 3) := by decide +kernel
theorem dX1_least_51 : decode cX1_least 51 = .ok (.istore_n 3, 1) := by decide +kernel
theorem dX1_least_52 : decode cX1_least 52 = .ok (.iload_n 3, 1) := by decide +kernel
theorem dX1_least_53 : decode cX1_least 53 = .ok (.ifCond .ge 6, 3) := by decide +kernel
theorem dX1_least_56 : decode cX1_least 56 = .ok (.ldc 112, 2) := by decide +kernel
theorem dX1_least_58 : decode cX1_least 58 = .ok (.ireturn, 1) := by decide +kernel
theorem dX1_least_59 : decode cX1_least 59 = .ok (.iload_n 2, 1) := by decide +kernel
theorem dX1_least_60 : decode cX1_least 60 = .ok (.ifCond .ne 15, 3) := by decide +kernel
theorem dX1_least_63 : decode cX1_least 63 = .ok (.aload_n 0, 1) := by decide +kernel
theorem dX1_least_64 : decode cX1_least 64 = .ok (.getfield 35, 3) := by decide +kernel
theorem dX1_least_67 : decode cX1_least 67 = .ok (.iload_n 1, 1) := by decide +kernel
theorem dX1_least_68 : decode cX1_least 68 = .ok (.iload_n 3, 1) := by decide +kernel
theorem dX1_least_69 : decode cX1_least 69 = .ok (.invokevirtual 113, 3) := by decide +kernel
theorem dX1_least_72 : decode cX1_least 72 = .ok (.goto 4, 3) := by decide +kernel
theorem dX1_least_75 : decode cX1_least 75 = .ok (.iload_n 3, 1) := by decide +kernel
theorem dX1_least_76 : decode cX1_least 76 = .ok (.ireturn, 1) := by decide +kernel
set_option maxRecDepth 20000 in
theorem ggX1_factor_X1_isSide : GoodIn wsX1_factor wsX1_isSide := goodIn_r _ [7, 8, 9, 6, 10] (by decide +kernel) (by decide +kernel)
set_option maxRecDepth 20000 in
theorem gX1_factor_X1_isSide : GoodIn wsX1_factor (va_wsS RX1 66 yX1_isSide wsX1_isSide) := goodIn_app (goodIn_of _ (by decide +kernel)) ggX1_factor_X1_isSide
set_option maxRecDepth 20000 in
theorem ggX1_factor_X1_isWithin : GoodIn wsX1_factor wsX1_isWithin := goodIn_r _ [10] (by decide +kernel) (by decide +kernel)
set_option maxRecDepth 20000 in
theorem gX1_factor_X1_isWithin : GoodIn wsX1_factor (va_wsS RX1 52 yX1_isWithin wsX1_isWithin) := goodIn_app (goodIn_of _ (by decide +kernel)) ggX1_factor_X1_isWithin
set_option maxRecDepth 20000 in
theorem ggX1_factor_X0_settle : GoodIn wsX1_factor wsX0_settle := goodIn_r _ [15, 16, 17, 18, 19, 20, 21, 22, 23, 14, 24, 25, 26, 27, 28, 29, 30, 31, 32, 33, 34, 35, 36, 37, 38, 39, 40, 41, 42, 43, 44, 45, 46, 47, 48, 49, 50, 51, 52, 53, 54, 55, 56, 57, 58, 59, 60, 61, 62, 63, 64, 65, 66, 67, 99, 100, 101, 102, 103, 104, 105, 106, 107, 108, 109, 110, 111, 112] (by decide +kernel) (by decide +kernel)
set_option maxRecDepth 20000 in
theorem gX1_factor_X0_settle : GoodIn wsX1_factor (wsV RX1 83 RX0 yX0_settle wsX0_settle) := goodIn_app (goodIn_of _ (by decide +kernel)) ggX1_factor_X0_settle
set_option maxRecDepth 20000 in
theorem ggX1_factor_X0_coldestAlong : GoodIn wsX1_factor wsX0_coldestAlong := goodIn_r _ [71, 39, 72, 73, 74, 14, 75, 17, 18, 76, 77, 78, 79, 42, 43, 44, 45, 41, 80, 81, 82, 83, 53, 99, 100, 101, 102, 103, 104, 105, 106, 107, 108, 109, 110, 111, 112] (by decide +kernel) (by decide +kernel)
set_option maxRecDepth 20000 in
theorem gX1_factor_X0_coldestAlong : GoodIn wsX1_factor (wsV RX1 108 RX0 yX0_coldestAlong wsX0_coldestAlong) := goodIn_app (goodIn_of _ (by decide +kernel)) ggX1_factor_X0_coldestAlong
set_option maxRecDepth 20000 in
theorem ggX1_factor_X0_aboveLow : GoodIn wsX1_factor wsX0_aboveLow := goodIn_r _ [87, 20, 80, 81, 82, 14, 83, 53, 76, 77, 78, 79, 17, 18, 42, 43, 44, 45, 41, 99, 100, 101, 102, 103, 104, 105, 106, 107, 108, 109, 110, 111, 112] (by decide +kernel) (by decide +kernel)
set_option maxRecDepth 20000 in
theorem gX1_factor_X0_aboveLow : GoodIn wsX1_factor (wsV RX1 118 RX0 yX0_aboveLow wsX0_aboveLow) := goodIn_app (goodIn_of _ (by decide +kernel)) ggX1_factor_X0_aboveLow
set_option maxRecDepth 20000 in
theorem ggX1_factor_X0_highAboveLow : GoodIn wsX1_factor wsX0_highAboveLow := goodIn_r _ [91, 19, 20, 99, 100, 101, 102, 103, 104, 105, 106, 107, 108, 109, 110, 111, 112] (by decide +kernel) (by decide +kernel)
set_option maxRecDepth 20000 in
theorem gX1_factor_X0_highAboveLow : GoodIn wsX1_factor (wsV RX1 121 RX0 yX0_highAboveLow wsX0_highAboveLow) := goodIn_app (goodIn_of _ (by decide +kernel)) ggX1_factor_X0_highAboveLow
set_option maxRecDepth 20000 in
theorem ggX1_factor_X1_commonDivisor : GoodIn wsX1_factor wsX1_commonDivisor := goodIn_r _ [94] (by decide +kernel) (by decide +kernel)
set_option maxRecDepth 20000 in
theorem gX1_factor_X1_commonDivisor : GoodIn wsX1_factor (va_wsS RX1 124 yX1_commonDivisor wsX1_commonDivisor) := goodIn_app (goodIn_of _ (by decide +kernel)) ggX1_factor_X1_commonDivisor
theorem dX1_factor_0 : decode cX1_factor 0 = .ok (.iload_n 1, 1) := by decide +kernel
theorem dX1_factor_1 : decode cX1_factor 1 = .ok (.invokestatic 66, 3) := by decide +kernel
theorem dX1_factor_4 : decode cX1_factor 4 = .ok (.ifCond .ne 13, 3) := by decide +kernel
theorem dX1_factor_7 : decode cX1_factor 7 = .ok (.new 43, 3) := by decide +kernel
theorem dX1_factor_10 : decode cX1_factor 10 = .ok (.dup, 1) := by decide +kernel
theorem dX1_factor_11 : decode cX1_factor 11 = .ok (.ldc 70, 2) := by decide +kernel
theorem dX1_factor_13 : decode cX1_factor 13 = .ok (.invokespecial 47, 3) := by decide +kernel
theorem dX1_factor_16 : decode cX1_factor 16 = .ok (.athrow, 1) := by decide +kernel
theorem dX1_factor_17 : decode cX1_factor 17 = .ok (.iload_n 2, 1) := by decide +kernel
theorem dX1_factor_18 : decode cX1_factor 18 = .ok (.iconst 0, 1) := by decide +kernel
theorem dX1_factor_19 : decode cX1_factor 19 = .ok (.iconst 1, 1) := by decide +kernel
theorem dX1_factor_20 : decode cX1_factor 20 = .ok (.invokestatic 52, 3) := by decide +kernel
theorem dX1_factor_23 : decode cX1_factor 23 = .ok (.ifCond .ne 13, 3) := by decide +kernel
theorem dX1_factor_26 : decode cX1_factor 26 = .ok (.new 43, 3) := by decide +kernel
theorem dX1_factor_29 : decode cX1_factor 29 = .ok (.dup, 1) := by decide +kernel
theorem dX1_factor_30 : decode cX1_factor 30 = .ok (.ldc 116, 2) := by decide +kernel
theorem dX1_factor_32 : decode cX1_factor 32 = .ok (.invokespecial 47, 3) := by decide +kernel
theorem dX1_factor_35 : decode cX1_factor 35 = .ok (.athrow, 1) := by decide +kernel
theorem dX1_factor_36 : decode cX1_factor 36 = .ok (.aload_n 0, 1) := by decide +kernel
theorem dX1_factor_37 : decode cX1_factor 37 = .ok (.getfield 35, 3) := by decide +kernel
theorem dX1_factor_40 : decode cX1_factor 40 = .ok (.invokevirtual 83, 3) := by decide +kernel
theorem dX1_factor_43 : decode cX1_factor 43 = .ok (.aload_n 0, 1) := by decide +kernel
theorem dX1_factor_44 : decode cX1_factor 44 = .ok (.getfield 35, 3) := by decide +kernel
theorem dX1_factor_47 : decode cX1_factor 47 = .ok (.iload_n 1, 1) := by decide +kernel
theorem dX1_factor_48 : decode cX1_factor 48 = .ok (.invokevirtual 108, 3) := by decide +kernel
theorem dX1_factor_51 : decode cX1_factor 51 = .ok (.istore_n 3, 1) := by decide +kernel
theorem dX1_factor_52 : decode cX1_factor 52 = .ok (.iload_n 3, 1) := by decide +kernel
theorem dX1_factor_53 : decode cX1_factor 53 = .ok (.ifCond .ge 7, 3) := by decide +kernel
theorem dX1_factor_56 : decode cX1_factor 56 = .ok (.iconst 0, 1) := by decide +kernel
theorem dX1_factor_57 : decode cX1_factor 57 = .ok (.goto 12, 3) := by decide +kernel
theorem dX1_factor_60 : decode cX1_factor 60 = .ok (.aload_n 0, 1) := by decide +kernel
theorem dX1_factor_61 : decode cX1_factor 61 = .ok (.getfield 35, 3) := by decide +kernel
theorem dX1_factor_64 : decode cX1_factor 64 = .ok (.iload_n 1, 1) := by decide +kernel
theorem dX1_factor_65 : decode cX1_factor 65 = .ok (.iload_n 3, 1) := by decide +kernel
theorem dX1_factor_66 : decode cX1_factor 66 = .ok (.invokevirtual 118, 3) := by decide +kernel
theorem dX1_factor_69 : decode cX1_factor 69 = .ok (.istore 4, 2) := by decide +kernel
theorem dX1_factor_71 : decode cX1_factor 71 = .ok (.iload_n 3, 1) := by decide +kernel
theorem dX1_factor_72 : decode cX1_factor 72 = .ok (.ifCond .ge 7, 3) := by decide +kernel
theorem dX1_factor_75 : decode cX1_factor 75 = .ok (.iconst 0, 1) := by decide +kernel
theorem dX1_factor_76 : decode cX1_factor 76 = .ok (.goto 10, 3) := by decide +kernel
theorem dX1_factor_79 : decode cX1_factor 79 = .ok (.aload_n 0, 1) := by decide +kernel
theorem dX1_factor_80 : decode cX1_factor 80 = .ok (.getfield 35, 3) := by decide +kernel
theorem dX1_factor_83 : decode cX1_factor 83 = .ok (.invokevirtual 121, 3) := by decide +kernel
theorem dX1_factor_86 : decode cX1_factor 86 = .ok (.istore 5, 2) := by decide +kernel
theorem dX1_factor_88 : decode cX1_factor 88 = .ok (.iload 4, 2) := by decide +kernel
theorem dX1_factor_90 : decode cX1_factor 90 = .ok (.iload 5, 2) := by decide +kernel
theorem dX1_factor_92 : decode cX1_factor 92 = .ok (.invokestatic 124, 3) := by decide +kernel
theorem dX1_factor_95 : decode cX1_factor 95 = .ok (.istore 6, 2) := by decide +kernel
theorem dX1_factor_97 : decode cX1_factor 97 = .ok (.iload 5, 2) := by decide +kernel
theorem dX1_factor_99 : decode cX1_factor 99 = .ok (.ifCond .eq 8, 3) := by decide +kernel
theorem dX1_factor_102 : decode cX1_factor 102 = .ok (.iload 6, 2) := by decide +kernel
theorem dX1_factor_104 : decode cX1_factor 104 = .ok (.ifCond .ne 13, 3) := by decide +kernel
theorem dX1_factor_107 : decode cX1_factor 107 = .ok (.iload_n 2, 1) := by decide +kernel
theorem dX1_factor_108 : decode cX1_factor 108 = .ok (.ifCond .ne 7, 3) := by decide +kernel
theorem dX1_factor_111 : decode cX1_factor 111 = .ok (.iconst 0, 1) := by decide +kernel
theorem dX1_factor_112 : decode cX1_factor 112 = .ok (.goto 4, 3) := by decide +kernel
theorem dX1_factor_115 : decode cX1_factor 115 = .ok (.iconst 1, 1) := by decide +kernel
theorem dX1_factor_116 : decode cX1_factor 116 = .ok (.ireturn, 1) := by decide +kernel
theorem dX1_factor_117 : decode cX1_factor 117 = .ok (.iload_n 2, 1) := by decide +kernel
theorem dX1_factor_118 : decode cX1_factor 118 = .ok (.ifCond .ne 11, 3) := by decide +kernel
theorem dX1_factor_121 : decode cX1_factor 121 = .ok (.iload 4, 2) := by decide +kernel
theorem dX1_factor_123 : decode cX1_factor 123 = .ok (.iload 6, 2) := by decide +kernel
theorem dX1_factor_125 : decode cX1_factor 125 = .ok (.idiv, 1) := by decide +kernel
theorem dX1_factor_126 : decode cX1_factor 126 = .ok (.goto 8, 3) := by decide +kernel
theorem dX1_factor_129 : decode cX1_factor 129 = .ok (.iload 5, 2) := by decide +kernel
theorem dX1_factor_131 : decode cX1_factor 131 = .ok (.iload 6, 2) := by decide +kernel
theorem dX1_factor_133 : decode cX1_factor 133 = .ok (.idiv, 1) := by decide +kernel
theorem dX1_factor_134 : decode cX1_factor 134 = .ok (.ireturn, 1) := by decide +kernel
set_option maxRecDepth 20000 in
theorem ggX1_colder_X1_isWithin : GoodIn wsX1_colder wsX1_isWithin := goodIn_r _ [7] (by decide +kernel) (by decide +kernel)
set_option maxRecDepth 20000 in
theorem gX1_colder_X1_isWithin : GoodIn wsX1_colder (va_wsS RX1 52 yX1_isWithin wsX1_isWithin) := goodIn_app (goodIn_of _ (by decide +kernel)) ggX1_colder_X1_isWithin
set_option maxRecDepth 20000 in
theorem ggX1_colder_X0_settle : GoodIn wsX1_colder wsX0_settle := goodIn_r _ [12, 13, 14, 15, 16, 17, 18, 19, 20, 11, 21, 22, 23, 24, 25, 26, 27, 28, 29, 30, 31, 32, 33, 34, 35, 36, 37, 38, 39, 40, 41, 42, 43, 44, 45, 46, 47, 48, 49, 50, 51, 52, 53, 54, 55, 56, 57, 58, 59, 60, 61, 62, 63, 64, 82, 83, 84, 85, 86, 87, 88, 89, 90, 91, 92, 93, 94, 95] (by decide +kernel) (by decide +kernel)
set_option maxRecDepth 20000 in
theorem gX1_colder_X0_settle : GoodIn wsX1_colder (wsV RX1 83 RX0 yX0_settle wsX0_settle) := goodIn_app (goodIn_of _ (by decide +kernel)) ggX1_colder_X0_settle
set_option maxRecDepth 20000 in
theorem ggX1_colder_X0_countColder : GoodIn wsX1_colder wsX0_countColder := goodIn_r _ [68, 15, 14, 69, 70, 71, 11, 72, 36, 39, 40, 41, 42, 38, 73, 74, 75, 76, 50, 77, 82, 83, 84, 85, 86, 87, 88, 89, 90, 91, 92, 93, 94, 95] (by decide +kernel) (by decide +kernel)
set_option maxRecDepth 20000 in
theorem gX1_colder_X0_countColder : GoodIn wsX1_colder (wsV RX1 127 RX0 yX0_countColder wsX0_countColder) := goodIn_app (goodIn_of _ (by decide +kernel)) ggX1_colder_X0_countColder
theorem dX1_colder_0 : decode cX1_colder 0 = .ok (.iload_n 1, 1) := by decide +kernel
theorem dX1_colder_1 : decode cX1_colder 1 = .ok (.sipush (-10000), 3) := by decide +kernel
theorem dX1_colder_4 : decode cX1_colder 4 = .ok (.sipush 10000, 3) := by decide +kernel
theorem dX1_colder_7 : decode cX1_colder 7 = .ok (.invokestatic 52, 3) := by decide +kernel
theorem dX1_colder_10 : decode cX1_colder 10 = .ok (.ifCond .ne 13, 3) := by decide +kernel
theorem dX1_colder_13 : decode cX1_colder 13 = .ok (.new 43, 3) := by decide +kernel
theorem dX1_colder_16 : decode cX1_colder 16 = .ok (.dup, 1) := by decide +kernel
theorem dX1_colder_17 : decode cX1_colder 17 = .ok (.ldc 72, 2) := by decide +kernel
theorem dX1_colder_19 : decode cX1_colder 19 = .ok (.invokespecial 47, 3) := by decide +kernel
theorem dX1_colder_22 : decode cX1_colder 22 = .ok (.athrow, 1) := by decide +kernel
theorem dX1_colder_23 : decode cX1_colder 23 = .ok (.aload_n 0, 1) := by decide +kernel
theorem dX1_colder_24 : decode cX1_colder 24 = .ok (.getfield 35, 3) := by decide +kernel
theorem dX1_colder_27 : decode cX1_colder 27 = .ok (.invokevirtual 83, 3) := by decide +kernel
theorem dX1_colder_30 : decode cX1_colder 30 = .ok (.aload_n 0, 1) := by decide +kernel
theorem dX1_colder_31 : decode cX1_colder 31 = .ok (.getfield 35, 3) := by decide +kernel
theorem dX1_colder_34 : decode cX1_colder 34 = .ok (.iload_n 1, 1) := by decide +kernel
theorem dX1_colder_35 : decode cX1_colder 35 = .ok (.invokevirtual 127, 3) := by decide +kernel
theorem dX1_colder_38 : decode cX1_colder 38 = .ok (.ireturn, 1) := by decide +kernel
set_option maxRecDepth 20000 in
theorem ggX1_mirrored_X1_isWithin : GoodIn wsX1_mirrored wsX1_isWithin := goodIn_r _ [7] (by decide +kernel) (by decide +kernel)
set_option maxRecDepth 20000 in
theorem gX1_mirrored_X1_isWithin : GoodIn wsX1_mirrored (va_wsS RX1 52 yX1_isWithin wsX1_isWithin) := goodIn_app (goodIn_of _ (by decide +kernel)) ggX1_mirrored_X1_isWithin
set_option maxRecDepth 20000 in
theorem ggX1_mirrored_X0_settle : GoodIn wsX1_mirrored wsX0_settle := goodIn_r _ [12, 13, 14, 15, 16, 17, 18, 19, 20, 11, 21, 22, 23, 24, 25, 26, 27, 28, 29, 30, 31, 32, 33, 34, 35, 36, 37, 38, 39, 40, 41, 42, 43, 44, 45, 46, 47, 48, 49, 50, 51, 52, 53, 54, 55, 56, 57, 58, 59, 60, 61, 62, 63, 64, 82, 83, 84, 85, 86, 87, 88, 89, 90, 91, 92, 93, 94, 95] (by decide +kernel) (by decide +kernel)
set_option maxRecDepth 20000 in
theorem gX1_mirrored_X0_settle : GoodIn wsX1_mirrored (wsV RX1 83 RX0 yX0_settle wsX0_settle) := goodIn_app (goodIn_of _ (by decide +kernel)) ggX1_mirrored_X0_settle
set_option maxRecDepth 20000 in
theorem ggX1_mirrored_X0_rowsMirror : GoodIn wsX1_mirrored wsX0_rowsMirror := goodIn_r _ [68, 15, 14, 69, 70, 71, 11, 72, 36, 50, 73, 39, 40, 41, 42, 38, 82, 83, 84, 85, 86, 87, 88, 89, 90, 91, 92, 93, 94, 95] (by decide +kernel) (by decide +kernel)
set_option maxRecDepth 20000 in
theorem gX1_mirrored_X0_rowsMirror : GoodIn wsX1_mirrored (wsV RX1 132 RX0 yX0_rowsMirror wsX0_rowsMirror) := goodIn_app (goodIn_of _ (by decide +kernel)) ggX1_mirrored_X0_rowsMirror
set_option maxRecDepth 20000 in
theorem ggX1_mirrored_X0_columnsMirror : GoodIn wsX1_mirrored wsX0_columnsMirror := goodIn_r _ [77, 15, 14, 69, 70, 71, 11, 72, 36, 50, 73, 39, 40, 41, 42, 38, 82, 83, 84, 85, 86, 87, 88, 89, 90, 91, 92, 93, 94, 95] (by decide +kernel) (by decide +kernel)
set_option maxRecDepth 20000 in
theorem gX1_mirrored_X0_columnsMirror : GoodIn wsX1_mirrored (wsV RX1 136 RX0 yX0_columnsMirror wsX0_columnsMirror) := goodIn_app (goodIn_of _ (by decide +kernel)) ggX1_mirrored_X0_columnsMirror
theorem dX1_mirrored_0 : decode cX1_mirrored 0 = .ok (.iload_n 1, 1) := by decide +kernel
theorem dX1_mirrored_1 : decode cX1_mirrored 1 = .ok (.iconst 0, 1) := by decide +kernel
theorem dX1_mirrored_2 : decode cX1_mirrored 2 = .ok (.iconst 1, 1) := by decide +kernel
theorem dX1_mirrored_3 : decode cX1_mirrored 3 = .ok (.invokestatic 52, 3) := by decide +kernel
theorem dX1_mirrored_6 : decode cX1_mirrored 6 = .ok (.ifCond .ne 13, 3) := by decide +kernel
theorem dX1_mirrored_9 : decode cX1_mirrored 9 = .ok (.new 43, 3) := by decide +kernel
theorem dX1_mirrored_12 : decode cX1_mirrored 12 = .ok (.dup, 1) := by decide +kernel
theorem dX1_mirrored_13 : decode cX1_mirrored 13 = .ok (.ldc 130, 2) := by decide +kernel
theorem dX1_mirrored_15 : decode cX1_mirrored 15 = .ok (.invokespecial 47, 3) := by decide +kernel
theorem dX1_mirrored_18 : decode cX1_mirrored 18 = .ok (.athrow, 1) := by decide +kernel
theorem dX1_mirrored_19 : decode cX1_mirrored 19 = .ok (.aload_n 0, 1) := by decide +kernel
theorem dX1_mirrored_20 : decode cX1_mirrored 20 = .ok (.getfield 35, 3) := by decide +kernel
theorem dX1_mirrored_23 : decode cX1_mirrored 23 = .ok (.invokevirtual 83, 3) := by decide +kernel
theorem dX1_mirrored_26 : decode cX1_mirrored 26 = .ok (.iload_n 1, 1) := by decide +kernel
theorem dX1_mirrored_27 : decode cX1_mirrored 27 = .ok (.ifCond .ne 13, 3) := by decide +kernel
theorem dX1_mirrored_30 : decode cX1_mirrored 30 = .ok (.aload_n 0, 1) := by decide +kernel
theorem dX1_mirrored_31 : decode cX1_mirrored 31 = .ok (.getfield 35, 3) := by decide +kernel
theorem dX1_mirrored_34 : decode cX1_mirrored 34 = .ok (.invokevirtual 132, 3) := by decide +kernel
theorem dX1_mirrored_37 : decode cX1_mirrored 37 = .ok (.goto 10, 3) := by decide +kernel
theorem dX1_mirrored_40 : decode cX1_mirrored 40 = .ok (.aload_n 0, 1) := by decide +kernel
theorem dX1_mirrored_41 : decode cX1_mirrored 41 = .ok (.getfield 35, 3) := by decide +kernel
theorem dX1_mirrored_44 : decode cX1_mirrored 44 = .ok (.invokevirtual 136, 3) := by decide +kernel
theorem dX1_mirrored_47 : decode cX1_mirrored 47 = .ok (.ireturn, 1) := by decide +kernel
set_option maxRecDepth 20000 in
theorem ggX1_joint_X0_settle : GoodIn wsX1_joint wsX0_settle := goodIn_r _ [11, 12, 13, 14, 15, 16, 17, 18, 19, 10, 20, 21, 22, 23, 24, 25, 26, 27, 28, 29, 30, 31, 32, 33, 34, 35, 36, 37, 38, 39, 40, 41, 42, 43, 44, 45, 46, 47, 48, 49, 50, 51, 52, 53, 54, 55, 56, 57, 58, 59, 60, 61, 62, 63, 87, 88, 89, 90, 91, 92, 93, 94, 95, 96, 97, 98, 99, 100] (by decide +kernel) (by decide +kernel)
set_option maxRecDepth 20000 in
theorem gX1_joint_X0_settle : GoodIn wsX1_joint (wsV RX1 83 RX0 yX0_settle wsX0_settle) := goodIn_app (goodIn_of _ (by decide +kernel)) ggX1_joint_X0_settle
set_option maxRecDepth 20000 in
theorem ggX1_joint_X0_heat : GoodIn wsX1_joint wsX0_heat := goodIn_r _ [67, 68, 69, 25, 70, 71, 72, 73, 10, 74, 35, 21, 22, 49, 75, 76, 77, 78, 13, 14, 79, 80, 81, 82, 38, 39, 40, 41, 37, 42, 43, 44, 87, 88, 89, 90, 91, 92, 93, 94, 95, 96, 97, 98, 99, 100] (by decide +kernel) (by decide +kernel)
set_option maxRecDepth 20000 in
theorem gX1_joint_X0_heat : GoodIn wsX1_joint (wsV RX1 95 RX0 yX0_heat wsX0_heat) := goodIn_app (goodIn_of _ (by decide +kernel)) ggX1_joint_X0_heat
theorem dX1_joint_0 : decode cX1_joint 0 = .ok (.aload_n 0, 1) := by decide +kernel
theorem dX1_joint_1 : decode cX1_joint 1 = .ok (.getfield 17, 3) := by decide +kernel
theorem dX1_joint_4 : decode cX1_joint 4 = .ok (.bipush 10, 2) := by decide +kernel
theorem dX1_joint_6 : decode cX1_joint 6 = .ok (.if_icmp .lt 13, 3) := by decide +kernel
theorem dX1_joint_9 : decode cX1_joint 9 = .ok (.new 139, 3) := by decide +kernel
theorem dX1_joint_12 : decode cX1_joint 12 = .ok (.dup, 1) := by decide +kernel
theorem dX1_joint_13 : decode cX1_joint 13 = .ok (.ldc 141, 2) := by decide +kernel
theorem dX1_joint_15 : decode cX1_joint 15 = .ok (.invokespecial 143, 3) := by decide +kernel
theorem dX1_joint_18 : decode cX1_joint 18 = .ok (.athrow, 1) := by decide +kernel
theorem dX1_joint_19 : decode cX1_joint 19 = .ok (.aload_n 0, 1) := by decide +kernel
theorem dX1_joint_20 : decode cX1_joint 20 = .ok (.getfield 35, 3) := by decide +kernel
theorem dX1_joint_23 : decode cX1_joint 23 = .ok (.invokevirtual 83, 3) := by decide +kernel
theorem dX1_joint_26 : decode cX1_joint 26 = .ok (.aload_n 0, 1) := by decide +kernel
theorem dX1_joint_27 : decode cX1_joint 27 = .ok (.getfield 9, 3) := by decide +kernel
theorem dX1_joint_30 : decode cX1_joint 30 = .ok (.aload_n 0, 1) := by decide +kernel
theorem dX1_joint_31 : decode cX1_joint 31 = .ok (.getfield 17, 3) := by decide +kernel
theorem dX1_joint_34 : decode cX1_joint 34 = .ok (.aload_n 0, 1) := by decide +kernel
theorem dX1_joint_35 : decode cX1_joint 35 = .ok (.getfield 35, 3) := by decide +kernel
theorem dX1_joint_38 : decode cX1_joint 38 = .ok (.invokevirtual 95, 3) := by decide +kernel
theorem dX1_joint_41 : decode cX1_joint 41 = .ok (.lastore, 1) := by decide +kernel
theorem dX1_joint_42 : decode cX1_joint 42 = .ok (.aload_n 0, 1) := by decide +kernel
theorem dX1_joint_43 : decode cX1_joint 43 = .ok (.getfield 13, 3) := by decide +kernel
theorem dX1_joint_46 : decode cX1_joint 46 = .ok (.aload_n 0, 1) := by decide +kernel
theorem dX1_joint_47 : decode cX1_joint 47 = .ok (.getfield 17, 3) := by decide +kernel
theorem dX1_joint_50 : decode cX1_joint 50 = .ok (.iconst 0, 1) := by decide +kernel
theorem dX1_joint_51 : decode cX1_joint 51 = .ok (.iastore, 1) := by decide +kernel
theorem dX1_joint_52 : decode cX1_joint 52 = .ok (.aload_n 0, 1) := by decide +kernel
theorem dX1_joint_53 : decode cX1_joint 53 = .ok (.dup, 1) := by decide +kernel
theorem dX1_joint_54 : decode cX1_joint 54 = .ok (.getfield 17, 3) := by decide +kernel
theorem dX1_joint_57 : decode cX1_joint 57 = .ok (.iconst 1, 1) := by decide +kernel
theorem dX1_joint_58 : decode cX1_joint 58 = .ok (.iadd, 1) := by decide +kernel
theorem dX1_joint_59 : decode cX1_joint 59 = .ok (.putfield 17, 3) := by decide +kernel
theorem dX1_joint_62 : decode cX1_joint 62 = .ok (.aload_n 0, 1) := by decide +kernel
theorem dX1_joint_63 : decode cX1_joint 63 = .ok (.getfield 17, 3) := by decide +kernel
theorem dX1_joint_66 : decode cX1_joint 66 = .ok (.iconst 1, 1) := by decide +kernel
theorem dX1_joint_67 : decode cX1_joint 67 = .ok (.isub, 1) := by decide +kernel
theorem dX1_joint_68 : decode cX1_joint 68 = .ok (.ireturn, 1) := by decide +kernel
set_option maxRecDepth 20000 in
theorem ggX1_length_X1_isJoint : GoodIn wsX1_length wsX1_isJoint := goodIn_r _ [8, 9, 10, 11, 7, 12, 13, 14, 15, 16] (by decide +kernel) (by decide +kernel)
set_option maxRecDepth 20000 in
theorem gX1_length_X1_isJoint : GoodIn wsX1_length (wsV RX1 144 RX1 yX1_isJoint wsX1_isJoint) := goodIn_app (goodIn_of _ (by decide +kernel)) ggX1_length_X1_isJoint
set_option maxRecDepth 20000 in
theorem ggX1_length_X1_isWithin : GoodIn wsX1_length wsX1_isWithin := goodIn_r _ [12] (by decide +kernel) (by decide +kernel)
set_option maxRecDepth 20000 in
theorem gX1_length_X1_isWithin : GoodIn wsX1_length (va_wsS RX1 52 yX1_isWithin wsX1_isWithin) := goodIn_app (goodIn_of _ (by decide +kernel)) ggX1_length_X1_isWithin
theorem dX1_length_0 : decode cX1_length 0 = .ok (.aload_n 0, 1) := by decide +kernel
theorem dX1_length_1 : decode cX1_length 1 = .ok (.iload_n 1, 1) := by decide +kernel
theorem dX1_length_2 : decode cX1_length 2 = .ok (.invokevirtual 144, 3) := by decide +kernel
theorem dX1_length_5 : decode cX1_length 5 = .ok (.ifCond .ne 13, 3) := by decide +kernel
theorem dX1_length_8 : decode cX1_length 8 = .ok (.new 43, 3) := by decide +kernel
theorem dX1_length_11 : decode cX1_length 11 = .ok (.dup, 1) := by decide +kernel
theorem dX1_length_12 : decode cX1_length 12 = .ok (.ldc 147, 2) := by decide +kernel
theorem dX1_length_14 : decode cX1_length 14 = .ok (.invokespecial 47, 3) := by decide +kernel
theorem dX1_length_17 : decode cX1_length 17 = .ok (.athrow, 1) := by decide +kernel
theorem dX1_length_18 : decode cX1_length 18 = .ok (.iload_n 2, 1) := by decide +kernel
theorem dX1_length_19 : decode cX1_length 19 = .ok (.iconst 0, 1) := by decide +kernel
theorem dX1_length_20 : decode cX1_length 20 = .ok (.sipush 1000, 3) := by decide +kernel
theorem dX1_length_23 : decode cX1_length 23 = .ok (.invokestatic 52, 3) := by decide +kernel
theorem dX1_length_26 : decode cX1_length 26 = .ok (.ifCond .ne 13, 3) := by decide +kernel
theorem dX1_length_29 : decode cX1_length 29 = .ok (.new 43, 3) := by decide +kernel
theorem dX1_length_32 : decode cX1_length 32 = .ok (.dup, 1) := by decide +kernel
theorem dX1_length_33 : decode cX1_length 33 = .ok (.ldc 149, 2) := by decide +kernel
theorem dX1_length_35 : decode cX1_length 35 = .ok (.invokespecial 47, 3) := by decide +kernel
theorem dX1_length_38 : decode cX1_length 38 = .ok (.athrow, 1) := by decide +kernel
theorem dX1_length_39 : decode cX1_length 39 = .ok (.aload_n 0, 1) := by decide +kernel
theorem dX1_length_40 : decode cX1_length 40 = .ok (.getfield 13, 3) := by decide +kernel
theorem dX1_length_43 : decode cX1_length 43 = .ok (.iload_n 1, 1) := by decide +kernel
theorem dX1_length_44 : decode cX1_length 44 = .ok (.iaload, 1) := by decide +kernel
theorem dX1_length_45 : decode cX1_length 45 = .ok (.istore_n 3, 1) := by decide +kernel
theorem dX1_length_46 : decode cX1_length 46 = .ok (.aload_n 0, 1) := by decide +kernel
theorem dX1_length_47 : decode cX1_length 47 = .ok (.getfield 13, 3) := by decide +kernel
theorem dX1_length_50 : decode cX1_length 50 = .ok (.iload_n 1, 1) := by decide +kernel
theorem dX1_length_51 : decode cX1_length 51 = .ok (.iload_n 2, 1) := by decide +kernel
theorem dX1_length_52 : decode cX1_length 52 = .ok (.iastore, 1) := by decide +kernel
theorem dX1_length_53 : decode cX1_length 53 = .ok (.iload_n 3, 1) := by decide +kernel
theorem dX1_length_54 : decode cX1_length 54 = .ok (.ireturn, 1) := by decide +kernel
set_option maxRecDepth 20000 in
theorem ggX1_differs_X1_isJoint : GoodIn wsX1_differs wsX1_isJoint := goodIn_r _ [9, 10, 11, 12, 8, 13, 90, 91, 92, 93] (by decide +kernel) (by decide +kernel)
set_option maxRecDepth 20000 in
theorem gX1_differs_X1_isJoint : GoodIn wsX1_differs (wsV RX1 144 RX1 yX1_isJoint wsX1_isJoint) := goodIn_app (goodIn_of _ (by decide +kernel)) ggX1_differs_X1_isJoint
set_option maxRecDepth 20000 in
theorem ggX1_differs_X0_settle : GoodIn wsX1_differs wsX0_settle := goodIn_r _ [18, 19, 20, 21, 22, 23, 24, 25, 26, 17, 27, 28, 29, 30, 31, 32, 33, 34, 35, 36, 37, 38, 39, 40, 41, 42, 43, 44, 45, 46, 47, 48, 49, 50, 51, 52, 53, 54, 55, 56, 57, 58, 59, 60, 61, 62, 63, 64, 65, 66, 67, 68, 69, 70, 94, 95, 96, 97, 98, 99, 100, 101, 102, 103, 104, 105, 106, 107] (by decide +kernel) (by decide +kernel)
set_option maxRecDepth 20000 in
theorem gX1_differs_X0_settle : GoodIn wsX1_differs (wsV RX1 83 RX0 yX0_settle wsX0_settle) := goodIn_app (goodIn_of _ (by decide +kernel)) ggX1_differs_X0_settle
set_option maxRecDepth 20000 in
theorem ggX1_differs_X0_heat : GoodIn wsX1_differs wsX0_heat := goodIn_r _ [74, 75, 76, 32, 77, 78, 79, 80, 17, 81, 42, 28, 29, 56, 82, 83, 84, 85, 20, 21, 86, 87, 88, 89, 45, 46, 47, 48, 44, 49, 50, 51, 94, 95, 96, 97, 98, 99, 100, 101, 102, 103, 104, 105, 106, 107] (by decide +kernel) (by decide +kernel)
set_option maxRecDepth 20000 in
theorem gX1_differs_X0_heat : GoodIn wsX1_differs (wsV RX1 95 RX0 yX0_heat wsX0_heat) := goodIn_app (goodIn_of _ (by decide +kernel)) ggX1_differs_X0_heat
theorem dX1_differs_0 : decode cX1_differs 0 = .ok (.aload_n 0, 1) := by decide +kernel
theorem dX1_differs_1 : decode cX1_differs 1 = .ok (.iload_n 1, 1) := by decide +kernel
theorem dX1_differs_2 : decode cX1_differs 2 = .ok (.invokevirtual 144, 3) := by decide +kernel
theorem dX1_differs_5 : decode cX1_differs 5 = .ok (.ifCond .ne 13, 3) := by decide +kernel
theorem dX1_differs_8 : decode cX1_differs 8 = .ok (.new 43, 3) := by decide +kernel
theorem dX1_differs_11 : decode cX1_differs 11 = .ok (.dup, 1) := by decide +kernel
theorem dX1_differs_12 : decode cX1_differs 12 = .ok (.ldc 147, 2) := by decide +kernel
theorem dX1_differs_14 : decode cX1_differs 14 = .ok (.invokespecial 47, 3) := by decide +kernel
theorem dX1_differs_17 : decode cX1_differs 17 = .ok (.athrow, 1) := by decide +kernel
theorem dX1_differs_18 : decode cX1_differs 18 = .ok (.aload_n 0, 1) := by decide +kernel
theorem dX1_differs_19 : decode cX1_differs 19 = .ok (.getfield 35, 3) := by decide +kernel
theorem dX1_differs_22 : decode cX1_differs 22 = .ok (.invokevirtual 83, 3) := by decide +kernel
theorem dX1_differs_25 : decode cX1_differs 25 = .ok (.aload_n 0, 1) := by decide +kernel
theorem dX1_differs_26 : decode cX1_differs 26 = .ok (.getfield 35, 3) := by decide +kernel
theorem dX1_differs_29 : decode cX1_differs 29 = .ok (.invokevirtual 95, 3) := by decide +kernel
theorem dX1_differs_32 : decode cX1_differs 32 = .ok (.aload_n 0, 1) := by decide +kernel
theorem dX1_differs_33 : decode cX1_differs 33 = .ok (.getfield 9, 3) := by decide +kernel
theorem dX1_differs_36 : decode cX1_differs 36 = .ok (.iload_n 1, 1) := by decide +kernel
theorem dX1_differs_37 : decode cX1_differs 37 = .ok (.laload, 1) := by decide +kernel
theorem dX1_differs_38 : decode cX1_differs 38 = .ok (.lsub, 1) := by decide +kernel
theorem dX1_differs_39 : decode cX1_differs 39 = .ok (.lreturn, 1) := by decide +kernel
theorem dX1_sum_0 : decode cX1_sum 0 = .ok (.lconst 0, 1) := by decide +kernel
theorem dX1_sum_1 : decode cX1_sum 1 = .ok (.lstore_n 1, 1) := by decide +kernel
theorem dX1_sum_2 : decode cX1_sum 2 = .ok (.iconst 0, 1) := by decide +kernel
theorem dX1_sum_3 : decode cX1_sum 3 = .ok (.istore_n 3, 1) := by decide +kernel
theorem dX1_sum_4 : decode cX1_sum 4 = .ok (.iload_n 3, 1) := by decide +kernel
theorem dX1_sum_5 : decode cX1_sum 5 = .ok (.aload_n 0, 1) := by decide +kernel
theorem dX1_sum_6 : decode cX1_sum 6 = .ok (.getfield 17, 3) := by decide +kernel
theorem dX1_sum_9 : decode cX1_sum 9 = .ok (.if_icmp .ge 26, 3) := by decide +kernel
theorem dX1_sum_12 : decode cX1_sum 12 = .ok (.lload_n 1, 1) := by decide +kernel
theorem dX1_sum_13 : decode cX1_sum 13 = .ok (.aload_n 0, 1) := by decide +kernel
theorem dX1_sum_14 : decode cX1_sum 14 = .ok (.getfield 9, 3) := by decide +kernel
theorem dX1_sum_17 : decode cX1_sum 17 = .ok (.iload_n 3, 1) := by decide +kernel
theorem dX1_sum_18 : decode cX1_sum 18 = .ok (.laload, 1) := by decide +kernel
theorem dX1_sum_19 : decode cX1_sum 19 = .ok (.aload_n 0, 1) := by decide +kernel
theorem dX1_sum_20 : decode cX1_sum 20 = .ok (.getfield 13, 3) := by decide +kernel
theorem dX1_sum_23 : decode cX1_sum 23 = .ok (.iload_n 3, 1) := by decide +kernel
theorem dX1_sum_24 : decode cX1_sum 24 = .ok (.iaload, 1) := by decide +kernel
theorem dX1_sum_25 : decode cX1_sum 25 = .ok (.i2l, 1) := by decide +kernel
theorem dX1_sum_26 : decode cX1_sum 26 = .ok (.lmul, 1) := by decide +kernel
theorem dX1_sum_27 : decode cX1_sum 27 = .ok (.ladd, 1) := by decide +kernel
theorem dX1_sum_28 : decode cX1_sum 28 = .ok (.lstore_n 1, 1) := by decide +kernel
theorem dX1_sum_29 : decode cX1_sum 29 = .ok (.iinc 3 1, 3) := by decide +kernel
theorem dX1_sum_32 : decode cX1_sum 32 = .ok (.goto (-28), 3) := by decide +kernel
theorem dX1_sum_35 : decode cX1_sum 35 = .ok (.lload_n 1, 1) := by decide +kernel
theorem dX1_sum_36 : decode cX1_sum 36 = .ok (.lreturn, 1) := by decide +kernel
set_option maxRecDepth 20000 in
theorem ggX1_isJoint_X1_isWithin : GoodIn wsX1_isJoint wsX1_isWithin := goodIn_r _ [5] (by decide +kernel) (by decide +kernel)
set_option maxRecDepth 20000 in
theorem gX1_isJoint_X1_isWithin : GoodIn wsX1_isJoint (va_wsS RX1 52 yX1_isWithin wsX1_isWithin) := goodIn_app (goodIn_of _ (by decide +kernel)) ggX1_isJoint_X1_isWithin
theorem dX1_isJoint_0 : decode cX1_isJoint 0 = .ok (.iload_n 1, 1) := by decide +kernel
theorem dX1_isJoint_1 : decode cX1_isJoint 1 = .ok (.iconst 0, 1) := by decide +kernel
theorem dX1_isJoint_2 : decode cX1_isJoint 2 = .ok (.aload_n 0, 1) := by decide +kernel
theorem dX1_isJoint_3 : decode cX1_isJoint 3 = .ok (.getfield 17, 3) := by decide +kernel
theorem dX1_isJoint_6 : decode cX1_isJoint 6 = .ok (.iconst 1, 1) := by decide +kernel
theorem dX1_isJoint_7 : decode cX1_isJoint 7 = .ok (.isub, 1) := by decide +kernel
theorem dX1_isJoint_8 : decode cX1_isJoint 8 = .ok (.invokestatic 52, 3) := by decide +kernel
theorem dX1_isJoint_11 : decode cX1_isJoint 11 = .ok (.ireturn, 1) := by decide +kernel
set_option maxRecDepth 20000 in
theorem ggX1_isSide_X1_isWithin : GoodIn wsX1_isSide wsX1_isWithin := goodIn_r _ [4] (by decide +kernel) (by decide +kernel)
set_option maxRecDepth 20000 in
theorem gX1_isSide_X1_isWithin : GoodIn wsX1_isSide (va_wsS RX1 52 yX1_isWithin wsX1_isWithin) := goodIn_app (goodIn_of _ (by decide +kernel)) ggX1_isSide_X1_isWithin
theorem dX1_isSide_0 : decode cX1_isSide 0 = .ok (.iload_n 0, 1) := by decide +kernel
theorem dX1_isSide_1 : decode cX1_isSide 1 = .ok (.iconst 0, 1) := by decide +kernel
theorem dX1_isSide_2 : decode cX1_isSide 2 = .ok (.iconst 3, 1) := by decide +kernel
theorem dX1_isSide_3 : decode cX1_isSide 3 = .ok (.invokestatic 52, 3) := by decide +kernel
theorem dX1_isSide_6 : decode cX1_isSide 6 = .ok (.ireturn, 1) := by decide +kernel
theorem dX1_isWithin_0 : decode cX1_isWithin 0 = .ok (.iload_n 0, 1) := by decide +kernel
theorem dX1_isWithin_1 : decode cX1_isWithin 1 = .ok (.iload_n 1, 1) := by decide +kernel
theorem dX1_isWithin_2 : decode cX1_isWithin 2 = .ok (.if_icmp .lt 12, 3) := by decide +kernel
theorem dX1_isWithin_5 : decode cX1_isWithin 5 = .ok (.iload_n 0, 1) := by decide +kernel
theorem dX1_isWithin_6 : decode cX1_isWithin 6 = .ok (.iload_n 2, 1) := by decide +kernel
theorem dX1_isWithin_7 : decode cX1_isWithin 7 = .ok (.if_icmp .gt 7, 3) := by decide +kernel
theorem dX1_isWithin_10 : decode cX1_isWithin 10 = .ok (.iconst 1, 1) := by decide +kernel
theorem dX1_isWithin_11 : decode cX1_isWithin 11 = .ok (.goto 4, 3) := by decide +kernel
theorem dX1_isWithin_14 : decode cX1_isWithin 14 = .ok (.iconst 0, 1) := by decide +kernel
theorem dX1_isWithin_15 : decode cX1_isWithin 15 = .ok (.ireturn, 1) := by decide +kernel
theorem dX1_commonDivisor_0 : decode cX1_commonDivisor 0 = .ok (.iload_n 0, 1) := by decide +kernel
theorem dX1_commonDivisor_1 : decode cX1_commonDivisor 1 = .ok (.istore_n 2, 1) := by decide +kernel
theorem dX1_commonDivisor_2 : decode cX1_commonDivisor 2 = .ok (.iload_n 1, 1) := by decide +kernel
theorem dX1_commonDivisor_3 : decode cX1_commonDivisor 3 = .ok (.istore_n 3, 1) := by decide +kernel
theorem dX1_commonDivisor_4 : decode cX1_commonDivisor 4 = .ok (.iconst 0, 1) := by decide +kernel
theorem dX1_commonDivisor_5 : decode cX1_commonDivisor 5 = .ok (.istore 4, 2) := by decide +kernel
theorem dX1_commonDivisor_7 : decode cX1_commonDivisor 7 = .ok (.iload 4, 2) := by decide +kernel
theorem dX1_commonDivisor_9 : decode cX1_commonDivisor 9 = .ok (.bipush 64, 2) := by decide +kernel
theorem dX1_commonDivisor_11 : decode cX1_commonDivisor 11 = .ok (.if_icmp .ge 23, 3) := by decide +kernel
theorem dX1_commonDivisor_14 : decode cX1_commonDivisor 14 = .ok (.iload_n 3, 1) := by decide +kernel
theorem dX1_commonDivisor_15 : decode cX1_commonDivisor 15 = .ok (.ifCond .eq 19, 3) := by decide +kernel
theorem dX1_commonDivisor_18 : decode cX1_commonDivisor 18 = .ok (.iload_n 2, 1) := by decide +kernel
theorem dX1_commonDivisor_19 : decode cX1_commonDivisor 19 = .ok (.iload_n 3, 1) := by decide +kernel
theorem dX1_commonDivisor_20 : decode cX1_commonDivisor 20 = .ok (.irem, 1) := by decide +kernel
theorem dX1_commonDivisor_21 : decode cX1_commonDivisor 21 = .ok (.istore 5, 2) := by decide +kernel
theorem dX1_commonDivisor_23 : decode cX1_commonDivisor 23 = .ok (.iload_n 3, 1) := by decide +kernel
theorem dX1_commonDivisor_24 : decode cX1_commonDivisor 24 = .ok (.istore_n 2, 1) := by decide +kernel
theorem dX1_commonDivisor_25 : decode cX1_commonDivisor 25 = .ok (.iload 5, 2) := by decide +kernel
theorem dX1_commonDivisor_27 : decode cX1_commonDivisor 27 = .ok (.istore_n 3, 1) := by decide +kernel
theorem dX1_commonDivisor_28 : decode cX1_commonDivisor 28 = .ok (.iinc 4 1, 3) := by decide +kernel
theorem dX1_commonDivisor_31 : decode cX1_commonDivisor 31 = .ok (.goto (-24), 3) := by decide +kernel
theorem dX1_commonDivisor_34 : decode cX1_commonDivisor 34 = .ok (.iload_n 2, 1) := by decide +kernel
theorem dX1_commonDivisor_35 : decode cX1_commonDivisor 35 = .ok (.ireturn, 1) := by decide +kernel
theorem dJ9_max_7cf53_0 : decode cJ9_max_7cf53 0 = .ok (.iload_n 0, 1) := by decide +kernel
theorem dJ9_max_7cf53_1 : decode cJ9_max_7cf53 1 = .ok (.iload_n 1, 1) := by decide +kernel
theorem dJ9_max_7cf53_2 : decode cJ9_max_7cf53 2 = .ok (.if_icmp .lt 7, 3) := by decide +kernel
theorem dJ9_max_7cf53_5 : decode cJ9_max_7cf53 5 = .ok (.iload_n 0, 1) := by decide +kernel
theorem dJ9_max_7cf53_6 : decode cJ9_max_7cf53 6 = .ok (.goto 4, 3) := by decide +kernel
theorem dJ9_max_7cf53_9 : decode cJ9_max_7cf53 9 = .ok (.iload_n 1, 1) := by decide +kernel
theorem dJ9_max_7cf53_10 : decode cJ9_max_7cf53 10 = .ok (.ireturn, 1) := by decide +kernel
theorem dJ9_max_f86c9_0 : decode cJ9_max_f86c9 0 = .ok (.lload_n 0, 1) := by decide +kernel
theorem dJ9_max_f86c9_1 : decode cJ9_max_f86c9 1 = .ok (.lload_n 2, 1) := by decide +kernel
theorem dJ9_max_f86c9_2 : decode cJ9_max_f86c9 2 = .ok (.lcmp, 1) := by decide +kernel
theorem dJ9_max_f86c9_3 : decode cJ9_max_f86c9 3 = .ok (.ifCond .lt 7, 3) := by decide +kernel
theorem dJ9_max_f86c9_6 : decode cJ9_max_f86c9 6 = .ok (.lload_n 0, 1) := by decide +kernel
theorem dJ9_max_f86c9_7 : decode cJ9_max_f86c9 7 = .ok (.goto 4, 3) := by decide +kernel
theorem dJ9_max_f86c9_10 : decode cJ9_max_f86c9 10 = .ok (.lload_n 2, 1) := by decide +kernel
theorem dJ9_max_f86c9_11 : decode cJ9_max_f86c9 11 = .ok (.lreturn, 1) := by decide +kernel
theorem dJ9_min_7cf53_0 : decode cJ9_min_7cf53 0 = .ok (.iload_n 0, 1) := by decide +kernel
theorem dJ9_min_7cf53_1 : decode cJ9_min_7cf53 1 = .ok (.iload_n 1, 1) := by decide +kernel
theorem dJ9_min_7cf53_2 : decode cJ9_min_7cf53 2 = .ok (.if_icmp .gt 7, 3) := by decide +kernel
theorem dJ9_min_7cf53_5 : decode cJ9_min_7cf53 5 = .ok (.iload_n 0, 1) := by decide +kernel
theorem dJ9_min_7cf53_6 : decode cJ9_min_7cf53 6 = .ok (.goto 4, 3) := by decide +kernel
theorem dJ9_min_7cf53_9 : decode cJ9_min_7cf53 9 = .ok (.iload_n 1, 1) := by decide +kernel
theorem dJ9_min_7cf53_10 : decode cJ9_min_7cf53 10 = .ok (.ireturn, 1) := by decide +kernel
end
section
theorem dX2_init_0 : decode cX2_init 0 = .ok (.aload_n 0, 1) := by decide +kernel
theorem dX2_init_1 : decode cX2_init 1 = .ok (.invokespecial 1, 3) := by decide +kernel
theorem dX2_init_4 : decode cX2_init 4 = .ok (.aload_n 0, 1) := by decide +kernel
theorem dX2_init_5 : decode cX2_init 5 = .ok (.bipush 100, 2) := by decide +kernel
theorem dX2_init_7 : decode cX2_init 7 = .ok (.newarray .int, 2) := by decide +kernel
theorem dX2_init_9 : decode cX2_init 9 = .ok (.putfield 7, 3) := by decide +kernel
theorem dX2_init_12 : decode cX2_init 12 = .ok (.aload_n 0, 1) := by decide +kernel
theorem dX2_init_13 : decode cX2_init 13 = .ok (.bipush 100, 2) := by decide +kernel
theorem dX2_init_15 : decode cX2_init 15 = .ok (.newarray .int, 2) := by decide +kernel
theorem dX2_init_17 : decode cX2_init 17 = .ok (.putfield 13, 3) := by decide +kernel
theorem dX2_init_20 : decode cX2_init 20 = .ok (.aload_n 0, 1) := by decide +kernel
theorem dX2_init_21 : decode cX2_init 21 = .ok (.iconst 4, 1) := by decide +kernel
theorem dX2_init_22 : decode cX2_init 22 = .ok (.newarray .int, 2) := by decide +kernel
theorem dX2_init_24 : decode cX2_init 24 = .ok (.putfield 16, 3) := by decide +kernel
theorem dX2_init_27 : decode cX2_init 27 = .ok (.aload_n 0, 1) := by decide +kernel
theorem dX2_init_28 : decode cX2_init 28 = .ok (.iconst 4, 1) := by decide +kernel
theorem dX2_init_29 : decode cX2_init 29 = .ok (.newarray .int, 2) := by decide +kernel
theorem dX2_init_31 : decode cX2_init 31 = .ok (.putfield 19, 3) := by decide +kernel
theorem dX2_init_34 : decode cX2_init 34 = .ok (.aload_n 0, 1) := by decide +kernel
theorem dX2_init_35 : decode cX2_init 35 = .ok (.bipush 10, 2) := by decide +kernel
theorem dX2_init_37 : decode cX2_init 37 = .ok (.newarray .long, 2) := by decide +kernel
theorem dX2_init_39 : decode cX2_init 39 = .ok (.putfield 22, 3) := by decide +kernel
theorem dX2_init_42 : decode cX2_init 42 = .ok (.aload_n 0, 1) := by decide +kernel
theorem dX2_init_43 : decode cX2_init 43 = .ok (.bipush 10, 2) := by decide +kernel
theorem dX2_init_45 : decode cX2_init 45 = .ok (.newarray .int, 2) := by decide +kernel
theorem dX2_init_47 : decode cX2_init 47 = .ok (.putfield 26, 3) := by decide +kernel
theorem dX2_init_50 : decode cX2_init 50 = .ok (.aload_n 0, 1) := by decide +kernel
theorem dX2_init_51 : decode cX2_init 51 = .ok (.iload_n 1, 1) := by decide +kernel
theorem dX2_init_52 : decode cX2_init 52 = .ok (.iconst 1, 1) := by decide +kernel
theorem dX2_init_53 : decode cX2_init 53 = .ok (.if_icmp .ge 7, 3) := by decide +kernel
theorem dX2_init_56 : decode cX2_init 56 = .ok (.iconst 1, 1) := by decide +kernel
theorem dX2_init_57 : decode cX2_init 57 = .ok (.goto 15, 3) := by decide +kernel
theorem dX2_init_60 : decode cX2_init 60 = .ok (.iload_n 1, 1) := by decide +kernel
theorem dX2_init_61 : decode cX2_init 61 = .ok (.bipush 10, 2) := by decide +kernel
theorem dX2_init_63 : decode cX2_init 63 = .ok (.if_icmp .le 8, 3) := by decide +kernel
theorem dX2_init_66 : decode cX2_init 66 = .ok (.bipush 10, 2) := by decide +kernel
theorem dX2_init_68 : decode cX2_init 68 = .ok (.goto 4, 3) := by decide +kernel
theorem dX2_init_71 : decode cX2_init 71 = .ok (.iload_n 1, 1) := by decide +kernel
theorem dX2_init_72 : decode cX2_init 72 = .ok (.putfield 29, 3) := by decide +kernel
theorem dX2_init_75 : decode cX2_init 75 = .ok (.aload_n 0, 1) := by decide +kernel
theorem dX2_init_76 : decode cX2_init 76 = .ok (.iload_n 2, 1) := by decide +kernel
theorem dX2_init_77 : decode cX2_init 77 = .ok (.iconst 1, 1) := by decide +kernel
theorem dX2_init_78 : decode cX2_init 78 = .ok (.if_icmp .ge 7, 3) := by decide +kernel
theorem dX2_init_81 : decode cX2_init 81 = .ok (.iconst 1, 1) := by decide +kernel
theorem dX2_init_82 : decode cX2_init 82 = .ok (.goto 15, 3) := by decide +kernel
theorem dX2_init_85 : decode cX2_init 85 = .ok (.iload_n 2, 1) := by decide +kernel
theorem dX2_init_86 : decode cX2_init 86 = .ok (.bipush 10, 2) := by decide +kernel
theorem dX2_init_88 : decode cX2_init 88 = .ok (.if_icmp .le 8, 3) := by decide +kernel
theorem dX2_init_91 : decode cX2_init 91 = .ok (.bipush 10, 2) := by decide +kernel
theorem dX2_init_93 : decode cX2_init 93 = .ok (.goto 4, 3) := by decide +kernel
theorem dX2_init_96 : decode cX2_init 96 = .ok (.iload_n 2, 1) := by decide +kernel
theorem dX2_init_97 : decode cX2_init 97 = .ok (.putfield 33, 3) := by decide +kernel
theorem dX2_init_100 : decode cX2_init 100 = .ok (.return_, 1) := by decide +kernel
theorem dX2_thrown_0 : decode cX2_thrown 0 = .ok (.aload_n 0, 1) := by decide +kernel
theorem dX2_thrown_1 : decode cX2_thrown 1 = .ok (.getfield 36, 3) := by decide +kernel
theorem dX2_thrown_4 : decode cX2_thrown 4 = .ok (.ireturn, 1) := by decide +kernel
theorem dX2_in_0 : decode cX2_in 0 = .ok (.iload_n 0, 1) := by decide +kernel
theorem dX2_in_1 : decode cX2_in 1 = .ok (.iload_n 1, 1) := by decide +kernel
theorem dX2_in_2 : decode cX2_in 2 = .ok (.if_icmp .lt 12, 3) := by decide +kernel
theorem dX2_in_5 : decode cX2_in 5 = .ok (.iload_n 0, 1) := by decide +kernel
theorem dX2_in_6 : decode cX2_in 6 = .ok (.iload_n 2, 1) := by decide +kernel
theorem dX2_in_7 : decode cX2_in 7 = .ok (.if_icmp .gt 7, 3) := by decide +kernel
theorem dX2_in_10 : decode cX2_in 10 = .ok (.iconst 1, 1) := by decide +kernel
theorem dX2_in_11 : decode cX2_in 11 = .ok (.goto 4, 3) := by decide +kernel
theorem dX2_in_14 : decode cX2_in 14 = .ok (.iconst 0, 1) := by decide +kernel
theorem dX2_in_15 : decode cX2_in 15 = .ok (.ireturn, 1) := by decide +kernel
set_option maxRecDepth 20000 in
theorem ggX2_isCell_X2_in : GoodIn wsX2_isCell wsX2_in := goodIn_r _ [6] (by decide +kernel) (by decide +kernel)
set_option maxRecDepth 20000 in
theorem gX2_isCell_X2_in : GoodIn wsX2_isCell (va_wsS RX2 39 yX2_in wsX2_in) := goodIn_app (goodIn_of _ (by decide +kernel)) ggX2_isCell_X2_in
theorem dX2_isCell_0 : decode cX2_isCell 0 = .ok (.iload_n 1, 1) := by decide +kernel
theorem dX2_isCell_1 : decode cX2_isCell 1 = .ok (.iconst 0, 1) := by decide +kernel
theorem dX2_isCell_2 : decode cX2_isCell 2 = .ok (.aload_n 0, 1) := by decide +kernel
theorem dX2_isCell_3 : decode cX2_isCell 3 = .ok (.getfield 29, 3) := by decide +kernel
theorem dX2_isCell_6 : decode cX2_isCell 6 = .ok (.iconst 1, 1) := by decide +kernel
theorem dX2_isCell_7 : decode cX2_isCell 7 = .ok (.isub, 1) := by decide +kernel
theorem dX2_isCell_8 : decode cX2_isCell 8 = .ok (.invokestatic 39, 3) := by decide +kernel
theorem dX2_isCell_11 : decode cX2_isCell 11 = .ok (.ifCond .eq 21, 3) := by decide +kernel
theorem dX2_isCell_14 : decode cX2_isCell 14 = .ok (.iload_n 2, 1) := by decide +kernel
theorem dX2_isCell_15 : decode cX2_isCell 15 = .ok (.iconst 0, 1) := by decide +kernel
theorem dX2_isCell_16 : decode cX2_isCell 16 = .ok (.aload_n 0, 1) := by decide +kernel
theorem dX2_isCell_17 : decode cX2_isCell 17 = .ok (.getfield 33, 3) := by decide +kernel
theorem dX2_isCell_20 : decode cX2_isCell 20 = .ok (.iconst 1, 1) := by decide +kernel
theorem dX2_isCell_21 : decode cX2_isCell 21 = .ok (.isub, 1) := by decide +kernel
theorem dX2_isCell_22 : decode cX2_isCell 22 = .ok (.invokestatic 39, 3) := by decide +kernel
theorem dX2_isCell_25 : decode cX2_isCell 25 = .ok (.ifCond .eq 7, 3) := by decide +kernel
theorem dX2_isCell_28 : decode cX2_isCell 28 = .ok (.iconst 1, 1) := by decide +kernel
theorem dX2_isCell_29 : decode cX2_isCell 29 = .ok (.goto 4, 3) := by decide +kernel
theorem dX2_isCell_32 : decode cX2_isCell 32 = .ok (.iconst 0, 1) := by decide +kernel
theorem dX2_isCell_33 : decode cX2_isCell 33 = .ok (.ireturn, 1) := by decide +kernel
theorem dX2_may_0 : decode cX2_may 0 = .ok (.aload_n 0, 1) := by decide +kernel
theorem dX2_may_1 : decode cX2_may 1 = .ok (.iload_n 1, 1) := by decide +kernel
theorem dX2_may_2 : decode cX2_may 2 = .ok (.ifCond .eq 7, 3) := by decide +kernel
theorem dX2_may_5 : decode cX2_may 5 = .ok (.iconst 0, 1) := by decide +kernel
theorem dX2_may_6 : decode cX2_may 6 = .ok (.goto 4, 3) := by decide +kernel
theorem dX2_may_9 : decode cX2_may 9 = .ok (.iconst 1, 1) := by decide +kernel
theorem dX2_may_10 : decode cX2_may 10 = .ok (.putfield 36, 3) := by decide +kernel
theorem dX2_may_13 : decode cX2_may 13 = .ok (.iload_n 1, 1) := by decide +kernel
theorem dX2_may_14 : decode cX2_may 14 = .ok (.ireturn, 1) := by decide +kernel
set_option maxRecDepth 20000 in
theorem ggX2_box_X2_isCell : GoodIn wsX2_box wsX2_isCell := goodIn_r _ [7, 8, 9, 10, 11, 6, 12, 18, 19, 20, 21, 22, 23, 24, 25, 26, 27, 28, 29, 30, 31, 32] (by decide +kernel) (by decide +kernel)
set_option maxRecDepth 20000 in
theorem gX2_box_X2_isCell : GoodIn wsX2_box (wsV RX2 43 RX2 yX2_isCell wsX2_isCell) := goodIn_app (goodIn_of _ (by decide +kernel)) ggX2_box_X2_isCell
set_option maxRecDepth 20000 in
theorem ggX2_box_X2_in : GoodIn wsX2_box wsX2_in := goodIn_r _ [12] (by decide +kernel) (by decide +kernel)
set_option maxRecDepth 20000 in
theorem gX2_box_X2_in : GoodIn wsX2_box (va_wsS RX2 39 yX2_in wsX2_in) := goodIn_app (goodIn_of _ (by decide +kernel)) ggX2_box_X2_in
set_option maxRecDepth 20000 in
theorem ggX2_box_X2_may : GoodIn wsX2_box wsX2_may := goodIn_r _ [16, 17, 18, 19, 20, 21, 22, 23, 24, 25, 26, 27, 28, 29, 30, 31, 32] (by decide +kernel) (by decide +kernel)
set_option maxRecDepth 20000 in
theorem gX2_box_X2_may : GoodIn wsX2_box (wsV RX2 47 RX2 yX2_may wsX2_may) := goodIn_app (goodIn_of _ (by decide +kernel)) ggX2_box_X2_may
theorem dX2_box_0 : decode cX2_box 0 = .ok (.aload_n 0, 1) := by decide +kernel
theorem dX2_box_1 : decode cX2_box 1 = .ok (.aload_n 0, 1) := by decide +kernel
theorem dX2_box_2 : decode cX2_box 2 = .ok (.iload_n 1, 1) := by decide +kernel
theorem dX2_box_3 : decode cX2_box 3 = .ok (.iload_n 2, 1) := by decide +kernel
theorem dX2_box_4 : decode cX2_box 4 = .ok (.invokevirtual 43, 3) := by decide +kernel
theorem dX2_box_7 : decode cX2_box 7 = .ok (.ifCond .eq 39, 3) := by decide +kernel
theorem dX2_box_10 : decode cX2_box 10 = .ok (.aload_n 0, 1) := by decide +kernel
theorem dX2_box_11 : decode cX2_box 11 = .ok (.iload_n 3, 1) := by decide +kernel
theorem dX2_box_12 : decode cX2_box 12 = .ok (.iload 4, 2) := by decide +kernel
theorem dX2_box_14 : decode cX2_box 14 = .ok (.invokevirtual 43, 3) := by decide +kernel
theorem dX2_box_17 : decode cX2_box 17 = .ok (.ifCond .eq 29, 3) := by decide +kernel
theorem dX2_box_20 : decode cX2_box 20 = .ok (.iload_n 1, 1) := by decide +kernel
theorem dX2_box_21 : decode cX2_box 21 = .ok (.iload_n 3, 1) := by decide +kernel
theorem dX2_box_22 : decode cX2_box 22 = .ok (.if_icmp .gt 24, 3) := by decide +kernel
theorem dX2_box_25 : decode cX2_box 25 = .ok (.iload_n 2, 1) := by decide +kernel
theorem dX2_box_26 : decode cX2_box 26 = .ok (.iload 4, 2) := by decide +kernel
theorem dX2_box_28 : decode cX2_box 28 = .ok (.if_icmp .gt 18, 3) := by decide +kernel
theorem dX2_box_31 : decode cX2_box 31 = .ok (.iload 5, 2) := by decide +kernel
theorem dX2_box_33 : decode cX2_box 33 = .ok (.iconst 0, 1) := by decide +kernel
theorem dX2_box_34 : decode cX2_box 34 = .ok (.bipush 20, 2) := by decide +kernel
theorem dX2_box_36 : decode cX2_box 36 = .ok (.invokestatic 39, 3) := by decide +kernel
theorem dX2_box_39 : decode cX2_box 39 = .ok (.ifCond .eq 7, 3) := by decide +kernel
theorem dX2_box_42 : decode cX2_box 42 = .ok (.iconst 1, 1) := by decide +kernel
theorem dX2_box_43 : decode cX2_box 43 = .ok (.goto 4, 3) := by decide +kernel
theorem dX2_box_46 : decode cX2_box 46 = .ok (.iconst 0, 1) := by decide +kernel
theorem dX2_box_47 : decode cX2_box 47 = .ok (.invokevirtual 47, 3) := by decide +kernel
theorem dX2_box_50 : decode cX2_box 50 = .ok (.ifCond .ne 5, 3) := by decide +kernel
theorem dX2_box_53 : decode cX2_box 53 = .ok (.iconst 0, 1) := by decide +kernel
theorem dX2_box_54 : decode cX2_box 54 = .ok (.ireturn, 1) := by decide +kernel
theorem dX2_box_55 : decode cX2_box 55 = .ok (.aload_n 0, 1) := by decide +kernel
theorem dX2_box_56 : decode cX2_box 56 = .ok (.iconst 0, 1) := by decide +kernel
theorem dX2_box_57 : decode cX2_box 57 = .ok (.putfield 51, 3) := by decide +kernel
theorem dX2_box_60 : decode cX2_box 60 = .ok (.iload_n 2, 1) := by decide +kernel
theorem dX2_box_61 : decode cX2_box 61 = .ok (.istore 6, 2) := by decide +kernel
theorem dX2_box_63 : decode cX2_box 63 = .ok (.iload 6, 2) := by decide +kernel
theorem dX2_box_65 : decode cX2_box 65 = .ok (.iload 4, 2) := by decide +kernel
theorem dX2_box_67 : decode cX2_box 67 = .ok (.if_icmp .gt 39, 3) := by decide +kernel
theorem dX2_box_70 : decode cX2_box 70 = .ok (.iload_n 1, 1) := by decide +kernel
theorem dX2_box_71 : decode cX2_box 71 = .ok (.istore 7, 2) := by decide +kernel
theorem dX2_box_73 : decode cX2_box 73 = .ok (.iload 7, 2) := by decide +kernel
theorem dX2_box_75 : decode cX2_box 75 = .ok (.iload_n 3, 1) := by decide +kernel
theorem dX2_box_76 : decode cX2_box 76 = .ok (.if_icmp .gt 24, 3) := by decide +kernel
theorem dX2_box_79 : decode cX2_box 79 = .ok (.aload_n 0, 1) := by decide +kernel
theorem dX2_box_80 : decode cX2_box 80 = .ok (.getfield 7, 3) := by decide +kernel
theorem dX2_box_83 : decode cX2_box 83 = .ok (.bipush 10, 2) := by decide +kernel
theorem dX2_box_85 : decode cX2_box 85 = .ok (.iload 6, 2) := by decide +kernel
theorem dX2_box_87 : decode cX2_box 87 = .ok (.imul, 1) := by decide +kernel
theorem dX2_box_88 : decode cX2_box 88 = .ok (.iload 7, 2) := by decide +kernel
theorem dX2_box_90 : decode cX2_box 90 = .ok (.iadd, 1) := by decide +kernel
theorem dX2_box_91 : decode cX2_box 91 = .ok (.iload 5, 2) := by decide +kernel
theorem dX2_box_93 : decode cX2_box 93 = .ok (.iastore, 1) := by decide +kernel
theorem dX2_box_94 : decode cX2_box 94 = .ok (.iinc 7 1, 3) := by decide +kernel
theorem dX2_box_97 : decode cX2_box 97 = .ok (.goto (-24), 3) := by decide +kernel
theorem dX2_box_100 : decode cX2_box 100 = .ok (.iinc 6 1, 3) := by decide +kernel
theorem dX2_box_103 : decode cX2_box 103 = .ok (.goto (-40), 3) := by decide +kernel
theorem dX2_box_106 : decode cX2_box 106 = .ok (.iconst 0, 1) := by decide +kernel
theorem dX2_box_107 : decode cX2_box 107 = .ok (.istore 6, 2) := by decide +kernel
theorem dX2_box_109 : decode cX2_box 109 = .ok (.iconst 0, 1) := by decide +kernel
theorem dX2_box_110 : decode cX2_box 110 = .ok (.istore 7, 2) := by decide +kernel
theorem dX2_box_112 : decode cX2_box 112 = .ok (.iload 7, 2) := by decide +kernel
theorem dX2_box_114 : decode cX2_box 114 = .ok (.bipush 100, 2) := by decide +kernel
theorem dX2_box_116 : decode cX2_box 116 = .ok (.if_icmp .ge 30, 3) := by decide +kernel
theorem dX2_box_119 : decode cX2_box 119 = .ok (.aload_n 0, 1) := by decide +kernel
theorem dX2_box_120 : decode cX2_box 120 = .ok (.getfield 7, 3) := by decide +kernel
theorem dX2_box_123 : decode cX2_box 123 = .ok (.iload 7, 2) := by decide +kernel
theorem dX2_box_125 : decode cX2_box 125 = .ok (.iaload, 1) := by decide +kernel
theorem dX2_box_126 : decode cX2_box 126 = .ok (.ifCond .le 10, 3) := by decide +kernel
theorem dX2_box_129 : decode cX2_box 129 = .ok (.iload 6, 2) := by decide +kernel
theorem dX2_box_131 : decode cX2_box 131 = .ok (.iconst 1, 1) := by decide +kernel
theorem dX2_box_132 : decode cX2_box 132 = .ok (.iadd, 1) := by decide +kernel
theorem dX2_box_133 : decode cX2_box 133 = .ok (.goto 5, 3) := by decide +kernel
theorem dX2_box_136 : decode cX2_box 136 = .ok (.iload 6, 2) := by decide +kernel
theorem dX2_box_138 : decode cX2_box 138 = .ok (.istore 6, 2) := by decide +kernel
theorem dX2_box_140 : decode cX2_box 140 = .ok (.iinc 7 1, 3) := by decide +kernel
theorem dX2_box_143 : decode cX2_box 143 = .ok (.goto (-31), 3) := by decide +kernel
theorem dX2_box_146 : decode cX2_box 146 = .ok (.iload 6, 2) := by decide +kernel
theorem dX2_box_148 : decode cX2_box 148 = .ok (.ireturn, 1) := by decide +kernel
set_option maxRecDepth 20000 in
theorem ggX2_side_X2_in : GoodIn wsX2_side wsX2_in := goodIn_r _ [7] (by decide +kernel) (by decide +kernel)
set_option maxRecDepth 20000 in
theorem gX2_side_X2_in : GoodIn wsX2_side (va_wsS RX2 39 yX2_in wsX2_in) := goodIn_app (goodIn_of _ (by decide +kernel)) ggX2_side_X2_in
set_option maxRecDepth 20000 in
theorem ggX2_side_X2_may : GoodIn wsX2_side wsX2_may := goodIn_r _ [11, 12, 13, 14, 15, 16, 17, 18, 19, 20, 21, 22, 23, 24, 25, 26, 27] (by decide +kernel) (by decide +kernel)
set_option maxRecDepth 20000 in
theorem gX2_side_X2_may : GoodIn wsX2_side (wsV RX2 47 RX2 yX2_may wsX2_may) := goodIn_app (goodIn_of _ (by decide +kernel)) ggX2_side_X2_may
theorem dX2_side_0 : decode cX2_side 0 = .ok (.aload_n 0, 1) := by decide +kernel
theorem dX2_side_1 : decode cX2_side 1 = .ok (.iload_n 1, 1) := by decide +kernel
theorem dX2_side_2 : decode cX2_side 2 = .ok (.iconst 0, 1) := by decide +kernel
theorem dX2_side_3 : decode cX2_side 3 = .ok (.iconst 3, 1) := by decide +kernel
theorem dX2_side_4 : decode cX2_side 4 = .ok (.invokestatic 39, 3) := by decide +kernel
theorem dX2_side_7 : decode cX2_side 7 = .ok (.ifCond .eq 30, 3) := by decide +kernel
theorem dX2_side_10 : decode cX2_side 10 = .ok (.iload_n 2, 1) := by decide +kernel
theorem dX2_side_11 : decode cX2_side 11 = .ok (.sipush (-10000), 3) := by decide +kernel
theorem dX2_side_14 : decode cX2_side 14 = .ok (.sipush 10000, 3) := by decide +kernel
theorem dX2_side_17 : decode cX2_side 17 = .ok (.invokestatic 39, 3) := by decide +kernel
theorem dX2_side_20 : decode cX2_side 20 = .ok (.ifCond .eq 17, 3) := by decide +kernel
theorem dX2_side_23 : decode cX2_side 23 = .ok (.iload_n 3, 1) := by decide +kernel
theorem dX2_side_24 : decode cX2_side 24 = .ok (.iconst 0, 1) := by decide +kernel
theorem dX2_side_25 : decode cX2_side 25 = .ok (.bipush 20, 2) := by decide +kernel
theorem dX2_side_27 : decode cX2_side 27 = .ok (.invokestatic 39, 3) := by decide +kernel
theorem dX2_side_30 : decode cX2_side 30 = .ok (.ifCond .eq 7, 3) := by decide +kernel
theorem dX2_side_33 : decode cX2_side 33 = .ok (.iconst 1, 1) := by decide +kernel
theorem dX2_side_34 : decode cX2_side 34 = .ok (.goto 4, 3) := by decide +kernel
theorem dX2_side_37 : decode cX2_side 37 = .ok (.iconst 0, 1) := by decide +kernel
theorem dX2_side_38 : decode cX2_side 38 = .ok (.invokevirtual 47, 3) := by decide +kernel
theorem dX2_side_41 : decode cX2_side 41 = .ok (.ifCond .ne 5, 3) := by decide +kernel
theorem dX2_side_44 : decode cX2_side 44 = .ok (.iconst 0, 1) := by decide +kernel
theorem dX2_side_45 : decode cX2_side 45 = .ok (.ireturn, 1) := by decide +kernel
theorem dX2_side_46 : decode cX2_side 46 = .ok (.aload_n 0, 1) := by decide +kernel
theorem dX2_side_47 : decode cX2_side 47 = .ok (.iconst 0, 1) := by decide +kernel
theorem dX2_side_48 : decode cX2_side 48 = .ok (.putfield 51, 3) := by decide +kernel
theorem dX2_side_51 : decode cX2_side 51 = .ok (.aload_n 0, 1) := by decide +kernel
theorem dX2_side_52 : decode cX2_side 52 = .ok (.getfield 19, 3) := by decide +kernel
theorem dX2_side_55 : decode cX2_side 55 = .ok (.iload_n 1, 1) := by decide +kernel
theorem dX2_side_56 : decode cX2_side 56 = .ok (.iaload, 1) := by decide +kernel
theorem dX2_side_57 : decode cX2_side 57 = .ok (.istore 4, 2) := by decide +kernel
theorem dX2_side_59 : decode cX2_side 59 = .ok (.aload_n 0, 1) := by decide +kernel
theorem dX2_side_60 : decode cX2_side 60 = .ok (.getfield 16, 3) := by decide +kernel
theorem dX2_side_63 : decode cX2_side 63 = .ok (.iload_n 1, 1) := by decide +kernel
theorem dX2_side_64 : decode cX2_side 64 = .ok (.iload_n 2, 1) := by decide +kernel
theorem dX2_side_65 : decode cX2_side 65 = .ok (.iastore, 1) := by decide +kernel
theorem dX2_side_66 : decode cX2_side 66 = .ok (.aload_n 0, 1) := by decide +kernel
theorem dX2_side_67 : decode cX2_side 67 = .ok (.getfield 19, 3) := by decide +kernel
theorem dX2_side_70 : decode cX2_side 70 = .ok (.iload_n 1, 1) := by decide +kernel
theorem dX2_side_71 : decode cX2_side 71 = .ok (.iload_n 3, 1) := by decide +kernel
theorem dX2_side_72 : decode cX2_side 72 = .ok (.iastore, 1) := by decide +kernel
theorem dX2_side_73 : decode cX2_side 73 = .ok (.iload 4, 2) := by decide +kernel
theorem dX2_side_75 : decode cX2_side 75 = .ok (.ireturn, 1) := by decide +kernel
set_option maxRecDepth 20000 in
theorem ggX2_leads_X2_isCell : GoodIn wsX2_leads wsX2_isCell := goodIn_r _ [6, 7, 8, 9, 10, 5, 11, 17, 18, 19, 20, 21, 22, 23, 24, 25, 26, 27, 28, 29, 30, 31] (by decide +kernel) (by decide +kernel)
set_option maxRecDepth 20000 in
theorem gX2_leads_X2_isCell : GoodIn wsX2_leads (wsV RX2 43 RX2 yX2_isCell wsX2_isCell) := goodIn_app (goodIn_of _ (by decide +kernel)) ggX2_leads_X2_isCell
set_option maxRecDepth 20000 in
theorem ggX2_leads_X2_may : GoodIn wsX2_leads wsX2_may := goodIn_r _ [15, 16, 17, 18, 19, 20, 21, 22, 23, 24, 25, 26, 27, 28, 29, 30, 31] (by decide +kernel) (by decide +kernel)
set_option maxRecDepth 20000 in
theorem gX2_leads_X2_may : GoodIn wsX2_leads (wsV RX2 47 RX2 yX2_may wsX2_may) := goodIn_app (goodIn_of _ (by decide +kernel)) ggX2_leads_X2_may
theorem dX2_leads_0 : decode cX2_leads 0 = .ok (.aload_n 0, 1) := by decide +kernel
theorem dX2_leads_1 : decode cX2_leads 1 = .ok (.aload_n 0, 1) := by decide +kernel
theorem dX2_leads_2 : decode cX2_leads 2 = .ok (.iload_n 1, 1) := by decide +kernel
theorem dX2_leads_3 : decode cX2_leads 3 = .ok (.iload_n 2, 1) := by decide +kernel
theorem dX2_leads_4 : decode cX2_leads 4 = .ok (.invokevirtual 43, 3) := by decide +kernel
theorem dX2_leads_7 : decode cX2_leads 7 = .ok (.invokevirtual 47, 3) := by decide +kernel
theorem dX2_leads_10 : decode cX2_leads 10 = .ok (.ifCond .eq 17, 3) := by decide +kernel
theorem dX2_leads_13 : decode cX2_leads 13 = .ok (.aload_n 0, 1) := by decide +kernel
theorem dX2_leads_14 : decode cX2_leads 14 = .ok (.getfield 7, 3) := by decide +kernel
theorem dX2_leads_17 : decode cX2_leads 17 = .ok (.bipush 10, 2) := by decide +kernel
theorem dX2_leads_19 : decode cX2_leads 19 = .ok (.iload_n 2, 1) := by decide +kernel
theorem dX2_leads_20 : decode cX2_leads 20 = .ok (.imul, 1) := by decide +kernel
theorem dX2_leads_21 : decode cX2_leads 21 = .ok (.iload_n 1, 1) := by decide +kernel
theorem dX2_leads_22 : decode cX2_leads 22 = .ok (.iadd, 1) := by decide +kernel
theorem dX2_leads_23 : decode cX2_leads 23 = .ok (.iaload, 1) := by decide +kernel
theorem dX2_leads_24 : decode cX2_leads 24 = .ok (.goto 4, 3) := by decide +kernel
theorem dX2_leads_27 : decode cX2_leads 27 = .ok (.iconst 0, 1) := by decide +kernel
theorem dX2_leads_28 : decode cX2_leads 28 = .ok (.ireturn, 1) := by decide +kernel
theorem dX2_together_0 : decode cX2_together 0 = .ok (.iload_n 0, 1) := by decide +kernel
theorem dX2_together_1 : decode cX2_together 1 = .ok (.ifCond .le 19, 3) := by decide +kernel
theorem dX2_together_4 : decode cX2_together 4 = .ok (.iload_n 1, 1) := by decide +kernel
theorem dX2_together_5 : decode cX2_together 5 = .ok (.ifCond .le 15, 3) := by decide +kernel
theorem dX2_together_8 : decode cX2_together 8 = .ok (.iconst 2, 1) := by decide +kernel
theorem dX2_together_9 : decode cX2_together 9 = .ok (.iload_n 0, 1) := by decide +kernel
theorem dX2_together_10 : decode cX2_together 10 = .ok (.imul, 1) := by decide +kernel
theorem dX2_together_11 : decode cX2_together 11 = .ok (.iload_n 1, 1) := by decide +kernel
theorem dX2_together_12 : decode cX2_together 12 = .ok (.imul, 1) := by decide +kernel
theorem dX2_together_13 : decode cX2_together 13 = .ok (.iload_n 0, 1) := by decide +kernel
theorem dX2_together_14 : decode cX2_together 14 = .ok (.iload_n 1, 1) := by decide +kernel
theorem dX2_together_15 : decode cX2_together 15 = .ok (.iadd, 1) := by decide +kernel
theorem dX2_together_16 : decode cX2_together 16 = .ok (.idiv, 1) := by decide +kernel
theorem dX2_together_17 : decode cX2_together 17 = .ok (.goto 4, 3) := by decide +kernel
theorem dX2_together_20 : decode cX2_together 20 = .ok (.iconst 0, 1) := by decide +kernel
theorem dX2_together_21 : decode cX2_together 21 = .ok (.ireturn, 1) := by decide +kernel
set_option maxRecDepth 20000 in
theorem ggX2_addCell_X2_isCell : GoodIn wsX2_addCell wsX2_isCell := goodIn_r _ [9, 10, 11, 12, 13, 8, 14, 18, 19, 20, 21, 22, 23, 24, 25, 26, 27, 28, 29, 30, 31, 32] (by decide +kernel) (by decide +kernel)
set_option maxRecDepth 20000 in
theorem gX2_addCell_X2_isCell : GoodIn wsX2_addCell (wsV RX2 43 RX2 yX2_isCell wsX2_isCell) := goodIn_app (goodIn_of _ (by decide +kernel)) ggX2_addCell_X2_isCell
set_option maxRecDepth 20000 in
theorem ggX2_addCell_X2_together : GoodIn wsX2_addCell wsX2_together := goodIn_r _ [17] (by decide +kernel) (by decide +kernel)
set_option maxRecDepth 20000 in
theorem gX2_addCell_X2_together : GoodIn wsX2_addCell (va_wsS RX2 55 yX2_together wsX2_together) := goodIn_app (goodIn_of _ (by decide +kernel)) ggX2_addCell_X2_together
theorem dX2_addCell_0 : decode cX2_addCell 0 = .ok (.aload_n 0, 1) := by decide +kernel
theorem dX2_addCell_1 : decode cX2_addCell 1 = .ok (.iload_n 2, 1) := by decide +kernel
theorem dX2_addCell_2 : decode cX2_addCell 2 = .ok (.iload_n 3, 1) := by decide +kernel
theorem dX2_addCell_3 : decode cX2_addCell 3 = .ok (.invokevirtual 43, 3) := by decide +kernel
theorem dX2_addCell_6 : decode cX2_addCell 6 = .ok (.ifCond .eq 57, 3) := by decide +kernel
theorem dX2_addCell_9 : decode cX2_addCell 9 = .ok (.iload_n 1, 1) := by decide +kernel
theorem dX2_addCell_10 : decode cX2_addCell 10 = .ok (.aload_n 0, 1) := by decide +kernel
theorem dX2_addCell_11 : decode cX2_addCell 11 = .ok (.getfield 7, 3) := by decide +kernel
theorem dX2_addCell_14 : decode cX2_addCell 14 = .ok (.bipush 10, 2) := by decide +kernel
theorem dX2_addCell_16 : decode cX2_addCell 16 = .ok (.iload_n 3, 1) := by decide +kernel
theorem dX2_addCell_17 : decode cX2_addCell 17 = .ok (.imul, 1) := by decide +kernel
theorem dX2_addCell_18 : decode cX2_addCell 18 = .ok (.iload_n 2, 1) := by decide +kernel
theorem dX2_addCell_19 : decode cX2_addCell 19 = .ok (.iadd, 1) := by decide +kernel
theorem dX2_addCell_20 : decode cX2_addCell 20 = .ok (.iaload, 1) := by decide +kernel
theorem dX2_addCell_21 : decode cX2_addCell 21 = .ok (.invokestatic 55, 3) := by decide +kernel
theorem dX2_addCell_24 : decode cX2_addCell 24 = .ok (.istore 4, 2) := by decide +kernel
theorem dX2_addCell_26 : decode cX2_addCell 26 = .ok (.aload_n 0, 1) := by decide +kernel
theorem dX2_addCell_27 : decode cX2_addCell 27 = .ok (.aload_n 0, 1) := by decide +kernel
theorem dX2_addCell_28 : decode cX2_addCell 28 = .ok (.getfield 59, 3) := by decide +kernel
theorem dX2_addCell_31 : decode cX2_addCell 31 = .ok (.iload 4, 2) := by decide +kernel
theorem dX2_addCell_33 : decode cX2_addCell 33 = .ok (.i2l, 1) := by decide +kernel
theorem dX2_addCell_34 : decode cX2_addCell 34 = .ok (.aload_n 0, 1) := by decide +kernel
theorem dX2_addCell_35 : decode cX2_addCell 35 = .ok (.getfield 13, 3) := by decide +kernel
theorem dX2_addCell_38 : decode cX2_addCell 38 = .ok (.bipush 10, 2) := by decide +kernel
theorem dX2_addCell_40 : decode cX2_addCell 40 = .ok (.iload_n 3, 1) := by decide +kernel
theorem dX2_addCell_41 : decode cX2_addCell 41 = .ok (.imul, 1) := by decide +kernel
theorem dX2_addCell_42 : decode cX2_addCell 42 = .ok (.iload_n 2, 1) := by decide +kernel
theorem dX2_addCell_43 : decode cX2_addCell 43 = .ok (.iadd, 1) := by decide +kernel
theorem dX2_addCell_44 : decode cX2_addCell 44 = .ok (.iaload, 1) := by decide +kernel
theorem dX2_addCell_45 : decode cX2_addCell 45 = .ok (.i2l, 1) := by decide +kernel
theorem dX2_addCell_46 : decode cX2_addCell 46 = .ok (.lmul, 1) := by decide +kernel
theorem dX2_addCell_47 : decode cX2_addCell 47 = .ok (.ladd, 1) := by decide +kernel
theorem dX2_addCell_48 : decode cX2_addCell 48 = .ok (.putfield 59, 3) := by decide +kernel
theorem dX2_addCell_51 : decode cX2_addCell 51 = .ok (.aload_n 0, 1) := by decide +kernel
theorem dX2_addCell_52 : decode cX2_addCell 52 = .ok (.aload_n 0, 1) := by decide +kernel
theorem dX2_addCell_53 : decode cX2_addCell 53 = .ok (.getfield 63, 3) := by decide +kernel
theorem dX2_addCell_56 : decode cX2_addCell 56 = .ok (.iload 4, 2) := by decide +kernel
theorem dX2_addCell_58 : decode cX2_addCell 58 = .ok (.i2l, 1) := by decide +kernel
theorem dX2_addCell_59 : decode cX2_addCell 59 = .ok (.ladd, 1) := by decide +kernel
theorem dX2_addCell_60 : decode cX2_addCell 60 = .ok (.putfield 63, 3) := by decide +kernel
theorem dX2_addCell_63 : decode cX2_addCell 63 = .ok (.return_, 1) := by decide +kernel
theorem dX2_isBeside_0 : decode cX2_isBeside 0 = .ok (.iload_n 1, 1) := by decide +kernel
theorem dX2_isBeside_1 : decode cX2_isBeside 1 = .ok (.ifCond .ne 15, 3) := by decide +kernel
theorem dX2_isBeside_4 : decode cX2_isBeside 4 = .ok (.iload_n 3, 1) := by decide +kernel
theorem dX2_isBeside_5 : decode cX2_isBeside 5 = .ok (.ifCond .ne 7, 3) := by decide +kernel
theorem dX2_isBeside_8 : decode cX2_isBeside 8 = .ok (.iconst 1, 1) := by decide +kernel
theorem dX2_isBeside_9 : decode cX2_isBeside 9 = .ok (.goto 62, 3) := by decide +kernel
theorem dX2_isBeside_12 : decode cX2_isBeside 12 = .ok (.iconst 0, 1) := by decide +kernel
theorem dX2_isBeside_13 : decode cX2_isBeside 13 = .ok (.goto 58, 3) := by decide +kernel
theorem dX2_isBeside_16 : decode cX2_isBeside 16 = .ok (.iload_n 1, 1) := by decide +kernel
theorem dX2_isBeside_17 : decode cX2_isBeside 17 = .ok (.iconst 1, 1) := by decide +kernel
theorem dX2_isBeside_18 : decode cX2_isBeside 18 = .ok (.if_icmp .ne 21, 3) := by decide +kernel
theorem dX2_isBeside_21 : decode cX2_isBeside 21 = .ok (.iload_n 2, 1) := by decide +kernel
theorem dX2_isBeside_22 : decode cX2_isBeside 22 = .ok (.aload_n 0, 1) := by decide +kernel
theorem dX2_isBeside_23 : decode cX2_isBeside 23 = .ok (.getfield 29, 3) := by decide +kernel
theorem dX2_isBeside_26 : decode cX2_isBeside 26 = .ok (.iconst 1, 1) := by decide +kernel
theorem dX2_isBeside_27 : decode cX2_isBeside 27 = .ok (.isub, 1) := by decide +kernel
theorem dX2_isBeside_28 : decode cX2_isBeside 28 = .ok (.if_icmp .ne 7, 3) := by decide +kernel
theorem dX2_isBeside_31 : decode cX2_isBeside 31 = .ok (.iconst 1, 1) := by decide +kernel
theorem dX2_isBeside_32 : decode cX2_isBeside 32 = .ok (.goto 39, 3) := by decide +kernel
theorem dX2_isBeside_35 : decode cX2_isBeside 35 = .ok (.iconst 0, 1) := by decide +kernel
theorem dX2_isBeside_36 : decode cX2_isBeside 36 = .ok (.goto 35, 3) := by decide +kernel
theorem dX2_isBeside_39 : decode cX2_isBeside 39 = .ok (.iload_n 1, 1) := by decide +kernel
theorem dX2_isBeside_40 : decode cX2_isBeside 40 = .ok (.iconst 2, 1) := by decide +kernel
theorem dX2_isBeside_41 : decode cX2_isBeside 41 = .ok (.if_icmp .ne 21, 3) := by decide +kernel
theorem dX2_isBeside_44 : decode cX2_isBeside 44 = .ok (.iload_n 3, 1) := by decide +kernel
theorem dX2_isBeside_45 : decode cX2_isBeside 45 = .ok (.aload_n 0, 1) := by decide +kernel
theorem dX2_isBeside_46 : decode cX2_isBeside 46 = .ok (.getfield 33, 3) := by decide +kernel
theorem dX2_isBeside_49 : decode cX2_isBeside 49 = .ok (.iconst 1, 1) := by decide +kernel
theorem dX2_isBeside_50 : decode cX2_isBeside 50 = .ok (.isub, 1) := by decide +kernel
theorem dX2_isBeside_51 : decode cX2_isBeside 51 = .ok (.if_icmp .ne 7, 3) := by decide +kernel
theorem dX2_isBeside_54 : decode cX2_isBeside 54 = .ok (.iconst 1, 1) := by decide +kernel
theorem dX2_isBeside_55 : decode cX2_isBeside 55 = .ok (.goto 16, 3) := by decide +kernel
theorem dX2_isBeside_58 : decode cX2_isBeside 58 = .ok (.iconst 0, 1) := by decide +kernel
theorem dX2_isBeside_59 : decode cX2_isBeside 59 = .ok (.goto 12, 3) := by decide +kernel
theorem dX2_isBeside_62 : decode cX2_isBeside 62 = .ok (.iload_n 2, 1) := by decide +kernel
theorem dX2_isBeside_63 : decode cX2_isBeside 63 = .ok (.ifCond .ne 7, 3) := by decide +kernel
theorem dX2_isBeside_66 : decode cX2_isBeside 66 = .ok (.iconst 1, 1) := by decide +kernel
theorem dX2_isBeside_67 : decode cX2_isBeside 67 = .ok (.goto 4, 3) := by decide +kernel
theorem dX2_isBeside_70 : decode cX2_isBeside 70 = .ok (.iconst 0, 1) := by decide +kernel
theorem dX2_isBeside_71 : decode cX2_isBeside 71 = .ok (.ireturn, 1) := by decide +kernel
set_option maxRecDepth 20000 in
theorem ggX2_made_X2_addCell : GoodIn wsX2_made wsX2_addCell := goodIn_r _ [11, 1, 2, 12, 3, 13, 14, 15, 10, 16, 17, 18, 19, 20, 21, 22, 23, 24, 29, 30, 31, 32, 33, 34, 35, 36, 37, 38, 39, 40, 41, 42, 43] (by decide +kernel) (by decide +kernel)
set_option maxRecDepth 20000 in
theorem gX2_made_X2_addCell : GoodIn wsX2_made (wsV RX2 66 RX2 yX2_addCell wsX2_addCell) := goodIn_app (goodIn_of _ (by decide +kernel)) ggX2_made_X2_addCell
set_option maxRecDepth 20000 in
theorem ggX2_made_X2_isBeside : GoodIn wsX2_made wsX2_isBeside := goodIn_r _ [28, 17, 18, 29, 30, 31, 32, 33, 34, 35, 36, 37, 38, 39, 40, 41, 42, 43] (by decide +kernel) (by decide +kernel)
set_option maxRecDepth 20000 in
theorem gX2_made_X2_isBeside : GoodIn wsX2_made (wsV RX2 70 RX2 yX2_isBeside wsX2_isBeside) := goodIn_app (goodIn_of _ (by decide +kernel)) ggX2_made_X2_isBeside
set_option maxRecDepth 20000 in
theorem ggX2_made_X2_together : GoodIn wsX2_made wsX2_together := goodIn_r _ [24] (by decide +kernel) (by decide +kernel)
set_option maxRecDepth 20000 in
theorem gX2_made_X2_together : GoodIn wsX2_made (va_wsS RX2 55 yX2_together wsX2_together) := goodIn_app (goodIn_of _ (by decide +kernel)) ggX2_made_X2_together
theorem dX2_made_0 : decode cX2_made 0 = .ok (.aload_n 0, 1) := by decide +kernel
theorem dX2_made_1 : decode cX2_made 1 = .ok (.getfield 7, 3) := by decide +kernel
theorem dX2_made_4 : decode cX2_made 4 = .ok (.bipush 10, 2) := by decide +kernel
theorem dX2_made_6 : decode cX2_made 6 = .ok (.iload_n 2, 1) := by decide +kernel
theorem dX2_made_7 : decode cX2_made 7 = .ok (.imul, 1) := by decide +kernel
theorem dX2_made_8 : decode cX2_made 8 = .ok (.iload_n 1, 1) := by decide +kernel
theorem dX2_made_9 : decode cX2_made 9 = .ok (.iadd, 1) := by decide +kernel
theorem dX2_made_10 : decode cX2_made 10 = .ok (.iaload, 1) := by decide +kernel
theorem dX2_made_11 : decode cX2_made 11 = .ok (.istore_n 3, 1) := by decide +kernel
theorem dX2_made_12 : decode cX2_made 12 = .ok (.aload_n 0, 1) := by decide +kernel
theorem dX2_made_13 : decode cX2_made 13 = .ok (.lconst 0, 1) := by decide +kernel
theorem dX2_made_14 : decode cX2_made 14 = .ok (.putfield 59, 3) := by decide +kernel
theorem dX2_made_17 : decode cX2_made 17 = .ok (.aload_n 0, 1) := by decide +kernel
theorem dX2_made_18 : decode cX2_made 18 = .ok (.lconst 0, 1) := by decide +kernel
theorem dX2_made_19 : decode cX2_made 19 = .ok (.putfield 63, 3) := by decide +kernel
theorem dX2_made_22 : decode cX2_made 22 = .ok (.aload_n 0, 1) := by decide +kernel
theorem dX2_made_23 : decode cX2_made 23 = .ok (.iload_n 3, 1) := by decide +kernel
theorem dX2_made_24 : decode cX2_made 24 = .ok (.iload_n 1, 1) := by decide +kernel
theorem dX2_made_25 : decode cX2_made 25 = .ok (.iconst 1, 1) := by decide +kernel
theorem dX2_made_26 : decode cX2_made 26 = .ok (.isub, 1) := by decide +kernel
theorem dX2_made_27 : decode cX2_made 27 = .ok (.iload_n 2, 1) := by decide +kernel
theorem dX2_made_28 : decode cX2_made 28 = .ok (.invokevirtual 66, 3) := by decide +kernel
theorem dX2_made_31 : decode cX2_made 31 = .ok (.aload_n 0, 1) := by decide +kernel
theorem dX2_made_32 : decode cX2_made 32 = .ok (.iload_n 3, 1) := by decide +kernel
theorem dX2_made_33 : decode cX2_made 33 = .ok (.iload_n 1, 1) := by decide +kernel
theorem dX2_made_34 : decode cX2_made 34 = .ok (.iconst 1, 1) := by decide +kernel
theorem dX2_made_35 : decode cX2_made 35 = .ok (.iadd, 1) := by decide +kernel
theorem dX2_made_36 : decode cX2_made 36 = .ok (.iload_n 2, 1) := by decide +kernel
theorem dX2_made_37 : decode cX2_made 37 = .ok (.invokevirtual 66, 3) := by decide +kernel
theorem dX2_made_40 : decode cX2_made 40 = .ok (.aload_n 0, 1) := by decide +kernel
theorem dX2_made_41 : decode cX2_made 41 = .ok (.iload_n 3, 1) := by decide +kernel
theorem dX2_made_42 : decode cX2_made 42 = .ok (.iload_n 1, 1) := by decide +kernel
theorem dX2_made_43 : decode cX2_made 43 = .ok (.iload_n 2, 1) := by decide +kernel
theorem dX2_made_44 : decode cX2_made 44 = .ok (.iconst 1, 1) := by decide +kernel
theorem dX2_made_45 : decode cX2_made 45 = .ok (.isub, 1) := by decide +kernel
theorem dX2_made_46 : decode cX2_made 46 = .ok (.invokevirtual 66, 3) := by decide +kernel
theorem dX2_made_49 : decode cX2_made 49 = .ok (.aload_n 0, 1) := by decide +kernel
theorem dX2_made_50 : decode cX2_made 50 = .ok (.iload_n 3, 1) := by decide +kernel
theorem dX2_made_51 : decode cX2_made 51 = .ok (.iload_n 1, 1) := by decide +kernel
theorem dX2_made_52 : decode cX2_made 52 = .ok (.iload_n 2, 1) := by decide +kernel
theorem dX2_made_53 : decode cX2_made 53 = .ok (.iconst 1, 1) := by decide +kernel
theorem dX2_made_54 : decode cX2_made 54 = .ok (.iadd, 1) := by decide +kernel
theorem dX2_made_55 : decode cX2_made 55 = .ok (.invokevirtual 66, 3) := by decide +kernel
theorem dX2_made_58 : decode cX2_made 58 = .ok (.iconst 0, 1) := by decide +kernel
theorem dX2_made_59 : decode cX2_made 59 = .ok (.istore 4, 2) := by decide +kernel
theorem dX2_made_61 : decode cX2_made 61 = .ok (.iload 4, 2) := by decide +kernel
theorem dX2_made_63 : decode cX2_made 63 = .ok (.iconst 4, 1) := by decide +kernel
theorem dX2_made_64 : decode cX2_made 64 = .ok (.if_icmp .ge 70, 3) := by decide +kernel
theorem dX2_made_67 : decode cX2_made 67 = .ok (.aload_n 0, 1) := by decide +kernel
theorem dX2_made_68 : decode cX2_made 68 = .ok (.iload 4, 2) := by decide +kernel
theorem dX2_made_70 : decode cX2_made 70 = .ok (.iload_n 1, 1) := by decide +kernel
theorem dX2_made_71 : decode cX2_made 71 = .ok (.iload_n 2, 1) := by decide +kernel
theorem dX2_made_72 : decode cX2_made 72 = .ok (.invokevirtual 70, 3) := by decide +kernel
theorem dX2_made_75 : decode cX2_made 75 = .ok (.ifCond .eq 17, 3) := by decide +kernel
theorem dX2_made_78 : decode cX2_made 78 = .ok (.iload_n 3, 1) := by decide +kernel
theorem dX2_made_79 : decode cX2_made 79 = .ok (.aload_n 0, 1) := by decide +kernel
theorem dX2_made_80 : decode cX2_made 80 = .ok (.getfield 19, 3) := by decide +kernel
theorem dX2_made_83 : decode cX2_made 83 = .ok (.iload 4, 2) := by decide +kernel
theorem dX2_made_85 : decode cX2_made 85 = .ok (.iaload, 1) := by decide +kernel
theorem dX2_made_86 : decode cX2_made 86 = .ok (.invokestatic 55, 3) := by decide +kernel
theorem dX2_made_89 : decode cX2_made 89 = .ok (.goto 4, 3) := by decide +kernel
theorem dX2_made_92 : decode cX2_made 92 = .ok (.iconst 0, 1) := by decide +kernel
theorem dX2_made_93 : decode cX2_made 93 = .ok (.istore 5, 2) := by decide +kernel
theorem dX2_made_95 : decode cX2_made 95 = .ok (.aload_n 0, 1) := by decide +kernel
theorem dX2_made_96 : decode cX2_made 96 = .ok (.aload_n 0, 1) := by decide +kernel
theorem dX2_made_97 : decode cX2_made 97 = .ok (.getfield 59, 3) := by decide +kernel
theorem dX2_made_100 : decode cX2_made 100 = .ok (.iload 5, 2) := by decide +kernel
theorem dX2_made_102 : decode cX2_made 102 = .ok (.i2l, 1) := by decide +kernel
theorem dX2_made_103 : decode cX2_made 103 = .ok (.aload_n 0, 1) := by decide +kernel
theorem dX2_made_104 : decode cX2_made 104 = .ok (.getfield 16, 3) := by decide +kernel
theorem dX2_made_107 : decode cX2_made 107 = .ok (.iload 4, 2) := by decide +kernel
theorem dX2_made_109 : decode cX2_made 109 = .ok (.iaload, 1) := by decide +kernel
theorem dX2_made_110 : decode cX2_made 110 = .ok (.i2l, 1) := by decide +kernel
theorem dX2_made_111 : decode cX2_made 111 = .ok (.lmul, 1) := by decide +kernel
theorem dX2_made_112 : decode cX2_made 112 = .ok (.ladd, 1) := by decide +kernel
theorem dX2_made_113 : decode cX2_made 113 = .ok (.putfield 59, 3) := by decide +kernel
theorem dX2_made_116 : decode cX2_made 116 = .ok (.aload_n 0, 1) := by decide +kernel
theorem dX2_made_117 : decode cX2_made 117 = .ok (.aload_n 0, 1) := by decide +kernel
theorem dX2_made_118 : decode cX2_made 118 = .ok (.getfield 63, 3) := by decide +kernel
theorem dX2_made_121 : decode cX2_made 121 = .ok (.iload 5, 2) := by decide +kernel
theorem dX2_made_123 : decode cX2_made 123 = .ok (.i2l, 1) := by decide +kernel
theorem dX2_made_124 : decode cX2_made 124 = .ok (.ladd, 1) := by decide +kernel
theorem dX2_made_125 : decode cX2_made 125 = .ok (.putfield 63, 3) := by decide +kernel
theorem dX2_made_128 : decode cX2_made 128 = .ok (.iinc 4 1, 3) := by decide +kernel
theorem dX2_made_131 : decode cX2_made 131 = .ok (.goto (-70), 3) := by decide +kernel
theorem dX2_made_134 : decode cX2_made 134 = .ok (.aload_n 0, 1) := by decide +kernel
theorem dX2_made_135 : decode cX2_made 135 = .ok (.getfield 63, 3) := by decide +kernel
theorem dX2_made_138 : decode cX2_made 138 = .ok (.lconst 0, 1) := by decide +kernel
theorem dX2_made_139 : decode cX2_made 139 = .ok (.lcmp, 1) := by decide +kernel
theorem dX2_made_140 : decode cX2_made 140 = .ok (.ifCond .ne 8, 3) := by decide +kernel
theorem dX2_made_143 : decode cX2_made 143 = .ok (.aload_n 0, 1) := by decide +kernel
theorem dX2_made_144 : decode cX2_made 144 = .ok (.getfield 73, 3) := by decide +kernel
theorem dX2_made_147 : decode cX2_made 147 = .ok (.ireturn, 1) := by decide +kernel
theorem dX2_made_148 : decode cX2_made 148 = .ok (.aload_n 0, 1) := by decide +kernel
theorem dX2_made_149 : decode cX2_made 149 = .ok (.getfield 59, 3) := by decide +kernel
theorem dX2_made_152 : decode cX2_made 152 = .ok (.aload_n 0, 1) := by decide +kernel
theorem dX2_made_153 : decode cX2_made 153 = .ok (.getfield 63, 3) := by decide +kernel
theorem dX2_made_156 : decode cX2_made 156 = .ok (.ldiv, 1) := by decide +kernel
theorem dX2_made_157 : decode cX2_made 157 = .ok (.lstore 4, 2) := by decide +kernel
theorem dX2_made_159 : decode cX2_made 159 = .ok (.aload_n 0, 1) := by decide +kernel
theorem dX2_made_160 : decode cX2_made 160 = .ok (.getfield 59, 3) := by decide +kernel
theorem dX2_made_163 : decode cX2_made 163 = .ok (.lconst 0, 1) := by decide +kernel
theorem dX2_made_164 : decode cX2_made 164 = .ok (.lcmp, 1) := by decide +kernel
theorem dX2_made_165 : decode cX2_made 165 = .ok (.ifCond .ge 25, 3) := by decide +kernel
theorem dX2_made_168 : decode cX2_made 168 = .ok (.lload 4, 2) := by decide +kernel
theorem dX2_made_170 : decode cX2_made 170 = .ok (.aload_n 0, 1) := by decide +kernel
theorem dX2_made_171 : decode cX2_made 171 = .ok (.getfield 63, 3) := by decide +kernel
theorem dX2_made_174 : decode cX2_made 174 = .ok (.lmul, 1) := by decide +kernel
theorem dX2_made_175 : decode cX2_made 175 = .ok (.aload_n 0, 1) := by decide +kernel
theorem dX2_made_176 : decode cX2_made 176 = .ok (.getfield 59, 3) := by decide +kernel
theorem dX2_made_179 : decode cX2_made 179 = .ok (.lcmp, 1) := by decide +kernel
theorem dX2_made_180 : decode cX2_made 180 = .ok (.ifCond .eq 10, 3) := by decide +kernel
theorem dX2_made_183 : decode cX2_made 183 = .ok (.lload 4, 2) := by decide +kernel
theorem dX2_made_185 : decode cX2_made 185 = .ok (.lconst 1, 1) := by decide +kernel
theorem dX2_made_186 : decode cX2_made 186 = .ok (.lsub, 1) := by decide +kernel
theorem dX2_made_187 : decode cX2_made 187 = .ok (.goto 5, 3) := by decide +kernel
theorem dX2_made_190 : decode cX2_made 190 = .ok (.lload 4, 2) := by decide +kernel
theorem dX2_made_192 : decode cX2_made 192 = .ok (.l2i, 1) := by decide +kernel
theorem dX2_made_193 : decode cX2_made 193 = .ok (.ireturn, 1) := by decide +kernel
set_option maxRecDepth 20000 in
theorem ggX2_warms_X2_made : GoodIn wsX2_warms wsX2_made := goodIn_r _ [8, 2, 9, 10, 11, 12, 13, 14, 15, 16, 7, 17, 3, 18, 19, 20, 21, 1, 22, 23, 24, 25, 26, 27, 28, 29, 30, 31, 32, 33, 34, 35, 36, 37, 38, 39, 40, 41, 42, 43, 44, 45, 46, 47] (by decide +kernel) (by decide +kernel)
set_option maxRecDepth 20000 in
theorem gX2_warms_X2_made : GoodIn wsX2_warms (wsV RX2 76 RX2 yX2_made wsX2_made) := goodIn_app (goodIn_of _ (by decide +kernel)) ggX2_warms_X2_made
theorem dX2_warms_0 : decode cX2_warms 0 = .ok (.iload_n 1, 1) := by decide +kernel
theorem dX2_warms_1 : decode cX2_warms 1 = .ok (.aload_n 0, 1) := by decide +kernel
theorem dX2_warms_2 : decode cX2_warms 2 = .ok (.getfield 29, 3) := by decide +kernel
theorem dX2_warms_5 : decode cX2_warms 5 = .ok (.irem, 1) := by decide +kernel
theorem dX2_warms_6 : decode cX2_warms 6 = .ok (.istore_n 2, 1) := by decide +kernel
theorem dX2_warms_7 : decode cX2_warms 7 = .ok (.iload_n 1, 1) := by decide +kernel
theorem dX2_warms_8 : decode cX2_warms 8 = .ok (.aload_n 0, 1) := by decide +kernel
theorem dX2_warms_9 : decode cX2_warms 9 = .ok (.getfield 29, 3) := by decide +kernel
theorem dX2_warms_12 : decode cX2_warms 12 = .ok (.idiv, 1) := by decide +kernel
theorem dX2_warms_13 : decode cX2_warms 13 = .ok (.istore_n 3, 1) := by decide +kernel
theorem dX2_warms_14 : decode cX2_warms 14 = .ok (.aload_n 0, 1) := by decide +kernel
theorem dX2_warms_15 : decode cX2_warms 15 = .ok (.getfield 7, 3) := by decide +kernel
theorem dX2_warms_18 : decode cX2_warms 18 = .ok (.bipush 10, 2) := by decide +kernel
theorem dX2_warms_20 : decode cX2_warms 20 = .ok (.iload_n 3, 1) := by decide +kernel
theorem dX2_warms_21 : decode cX2_warms 21 = .ok (.imul, 1) := by decide +kernel
theorem dX2_warms_22 : decode cX2_warms 22 = .ok (.iload_n 2, 1) := by decide +kernel
theorem dX2_warms_23 : decode cX2_warms 23 = .ok (.iadd, 1) := by decide +kernel
theorem dX2_warms_24 : decode cX2_warms 24 = .ok (.iaload, 1) := by decide +kernel
theorem dX2_warms_25 : decode cX2_warms 25 = .ok (.ifCond .ne 5, 3) := by decide +kernel
theorem dX2_warms_28 : decode cX2_warms 28 = .ok (.iconst 0, 1) := by decide +kernel
theorem dX2_warms_29 : decode cX2_warms 29 = .ok (.ireturn, 1) := by decide +kernel
theorem dX2_warms_30 : decode cX2_warms 30 = .ok (.aload_n 0, 1) := by decide +kernel
theorem dX2_warms_31 : decode cX2_warms 31 = .ok (.iload_n 2, 1) := by decide +kernel
theorem dX2_warms_32 : decode cX2_warms 32 = .ok (.iload_n 3, 1) := by decide +kernel
theorem dX2_warms_33 : decode cX2_warms 33 = .ok (.invokevirtual 76, 3) := by decide +kernel
theorem dX2_warms_36 : decode cX2_warms 36 = .ok (.istore 4, 2) := by decide +kernel
theorem dX2_warms_38 : decode cX2_warms 38 = .ok (.iload 4, 2) := by decide +kernel
theorem dX2_warms_40 : decode cX2_warms 40 = .ok (.aload_n 0, 1) := by decide +kernel
theorem dX2_warms_41 : decode cX2_warms 41 = .ok (.getfield 13, 3) := by decide +kernel
theorem dX2_warms_44 : decode cX2_warms 44 = .ok (.bipush 10, 2) := by decide +kernel
theorem dX2_warms_46 : decode cX2_warms 46 = .ok (.iload_n 3, 1) := by decide +kernel
theorem dX2_warms_47 : decode cX2_warms 47 = .ok (.imul, 1) := by decide +kernel
theorem dX2_warms_48 : decode cX2_warms 48 = .ok (.iload_n 2, 1) := by decide +kernel
theorem dX2_warms_49 : decode cX2_warms 49 = .ok (.iadd, 1) := by decide +kernel
theorem dX2_warms_50 : decode cX2_warms 50 = .ok (.iaload, 1) := by decide +kernel
theorem dX2_warms_51 : decode cX2_warms 51 = .ok (.if_icmp .le 7, 3) := by decide +kernel
theorem dX2_warms_54 : decode cX2_warms 54 = .ok (.iconst 1, 1) := by decide +kernel
theorem dX2_warms_55 : decode cX2_warms 55 = .ok (.goto 4, 3) := by decide +kernel
theorem dX2_warms_58 : decode cX2_warms 58 = .ok (.iconst 0, 1) := by decide +kernel
theorem dX2_warms_59 : decode cX2_warms 59 = .ok (.istore 5, 2) := by decide +kernel
theorem dX2_warms_61 : decode cX2_warms 61 = .ok (.aload_n 0, 1) := by decide +kernel
theorem dX2_warms_62 : decode cX2_warms 62 = .ok (.getfield 13, 3) := by decide +kernel
theorem dX2_warms_65 : decode cX2_warms 65 = .ok (.bipush 10, 2) := by decide +kernel
theorem dX2_warms_67 : decode cX2_warms 67 = .ok (.iload_n 3, 1) := by decide +kernel
theorem dX2_warms_68 : decode cX2_warms 68 = .ok (.imul, 1) := by decide +kernel
theorem dX2_warms_69 : decode cX2_warms 69 = .ok (.iload_n 2, 1) := by decide +kernel
theorem dX2_warms_70 : decode cX2_warms 70 = .ok (.iadd, 1) := by decide +kernel
theorem dX2_warms_71 : decode cX2_warms 71 = .ok (.iload 5, 2) := by decide +kernel
theorem dX2_warms_73 : decode cX2_warms 73 = .ok (.ifCond .eq 8, 3) := by decide +kernel
theorem dX2_warms_76 : decode cX2_warms 76 = .ok (.iload 4, 2) := by decide +kernel
theorem dX2_warms_78 : decode cX2_warms 78 = .ok (.goto 14, 3) := by decide +kernel
theorem dX2_warms_81 : decode cX2_warms 81 = .ok (.aload_n 0, 1) := by decide +kernel
theorem dX2_warms_82 : decode cX2_warms 82 = .ok (.getfield 13, 3) := by decide +kernel
theorem dX2_warms_85 : decode cX2_warms 85 = .ok (.bipush 10, 2) := by decide +kernel
theorem dX2_warms_87 : decode cX2_warms 87 = .ok (.iload_n 3, 1) := by decide +kernel
theorem dX2_warms_88 : decode cX2_warms 88 = .ok (.imul, 1) := by decide +kernel
theorem dX2_warms_89 : decode cX2_warms 89 = .ok (.iload_n 2, 1) := by decide +kernel
theorem dX2_warms_90 : decode cX2_warms 90 = .ok (.iadd, 1) := by decide +kernel
theorem dX2_warms_91 : decode cX2_warms 91 = .ok (.iaload, 1) := by decide +kernel
theorem dX2_warms_92 : decode cX2_warms 92 = .ok (.iastore, 1) := by decide +kernel
theorem dX2_warms_93 : decode cX2_warms 93 = .ok (.iload 5, 2) := by decide +kernel
theorem dX2_warms_95 : decode cX2_warms 95 = .ok (.ireturn, 1) := by decide +kernel
set_option maxRecDepth 20000 in
theorem ggX2_settle_X2_warms : GoodIn wsX2_settle wsX2_warms := goodIn_r _ [13, 7, 14, 6, 15, 16, 17, 12, 18, 19, 20, 4, 5, 2, 21, 22, 23, 24, 25, 26, 27, 28, 8, 29, 30, 31, 32, 33, 34, 35, 36, 37, 38, 39, 40, 41, 42, 43, 44, 45, 46, 47, 48, 49, 50, 51, 52, 53] (by decide +kernel) (by decide +kernel)
set_option maxRecDepth 20000 in
theorem gX2_settle_X2_warms : GoodIn wsX2_settle (wsV RX2 82 RX2 yX2_warms wsX2_warms) := goodIn_app (goodIn_of _ (by decide +kernel)) ggX2_settle_X2_warms
theorem dX2_settle_0 : decode cX2_settle 0 = .ok (.aload_n 0, 1) := by decide +kernel
theorem dX2_settle_1 : decode cX2_settle 1 = .ok (.getfield 51, 3) := by decide +kernel
theorem dX2_settle_4 : decode cX2_settle 4 = .ok (.ifCond .eq 4, 3) := by decide +kernel
theorem dX2_settle_7 : decode cX2_settle 7 = .ok (.return_, 1) := by decide +kernel
theorem dX2_settle_8 : decode cX2_settle 8 = .ok (.aload_n 0, 1) := by decide +kernel
theorem dX2_settle_9 : decode cX2_settle 9 = .ok (.iconst 1, 1) := by decide +kernel
theorem dX2_settle_10 : decode cX2_settle 10 = .ok (.putfield 51, 3) := by decide +kernel
theorem dX2_settle_13 : decode cX2_settle 13 = .ok (.iconst 0, 1) := by decide +kernel
theorem dX2_settle_14 : decode cX2_settle 14 = .ok (.istore_n 1, 1) := by decide +kernel
theorem dX2_settle_15 : decode cX2_settle 15 = .ok (.aload_n 0, 1) := by decide +kernel
theorem dX2_settle_16 : decode cX2_settle 16 = .ok (.iconst 0, 1) := by decide +kernel
theorem dX2_settle_17 : decode cX2_settle 17 = .ok (.putfield 73, 3) := by decide +kernel
theorem dX2_settle_20 : decode cX2_settle 20 = .ok (.aload_n 0, 1) := by decide +kernel
theorem dX2_settle_21 : decode cX2_settle 21 = .ok (.iconst 0, 1) := by decide +kernel
theorem dX2_settle_22 : decode cX2_settle 22 = .ok (.putfield 79, 3) := by decide +kernel
theorem dX2_settle_25 : decode cX2_settle 25 = .ok (.iconst 0, 1) := by decide +kernel
theorem dX2_settle_26 : decode cX2_settle 26 = .ok (.istore_n 2, 1) := by decide +kernel
theorem dX2_settle_27 : decode cX2_settle 27 = .ok (.iload_n 2, 1) := by decide +kernel
theorem dX2_settle_28 : decode cX2_settle 28 = .ok (.iconst 4, 1) := by decide +kernel
theorem dX2_settle_29 : decode cX2_settle 29 = .ok (.if_icmp .ge 88, 3) := by decide +kernel
theorem dX2_settle_32 : decode cX2_settle 32 = .ok (.aload_n 0, 1) := by decide +kernel
theorem dX2_settle_33 : decode cX2_settle 33 = .ok (.getfield 19, 3) := by decide +kernel
theorem dX2_settle_36 : decode cX2_settle 36 = .ok (.iload_n 2, 1) := by decide +kernel
theorem dX2_settle_37 : decode cX2_settle 37 = .ok (.iaload, 1) := by decide +kernel
theorem dX2_settle_38 : decode cX2_settle 38 = .ok (.ifCond .le 73, 3) := by decide +kernel
theorem dX2_settle_41 : decode cX2_settle 41 = .ok (.aload_n 0, 1) := by decide +kernel
theorem dX2_settle_42 : decode cX2_settle 42 = .ok (.iload_n 1, 1) := by decide +kernel
theorem dX2_settle_43 : decode cX2_settle 43 = .ok (.ifCond .eq 23, 3) := by decide +kernel
theorem dX2_settle_46 : decode cX2_settle 46 = .ok (.aload_n 0, 1) := by decide +kernel
theorem dX2_settle_47 : decode cX2_settle 47 = .ok (.getfield 73, 3) := by decide +kernel
theorem dX2_settle_50 : decode cX2_settle 50 = .ok (.aload_n 0, 1) := by decide +kernel
theorem dX2_settle_51 : decode cX2_settle 51 = .ok (.getfield 16, 3) := by decide +kernel
theorem dX2_settle_54 : decode cX2_settle 54 = .ok (.iload_n 2, 1) := by decide +kernel
theorem dX2_settle_55 : decode cX2_settle 55 = .ok (.iaload, 1) := by decide +kernel
theorem dX2_settle_56 : decode cX2_settle 56 = .ok (.if_icmp .ge 10, 3) := by decide +kernel
theorem dX2_settle_59 : decode cX2_settle 59 = .ok (.aload_n 0, 1) := by decide +kernel
theorem dX2_settle_60 : decode cX2_settle 60 = .ok (.getfield 73, 3) := by decide +kernel
theorem dX2_settle_63 : decode cX2_settle 63 = .ok (.goto 9, 3) := by decide +kernel
theorem dX2_settle_66 : decode cX2_settle 66 = .ok (.aload_n 0, 1) := by decide +kernel
theorem dX2_settle_67 : decode cX2_settle 67 = .ok (.getfield 16, 3) := by decide +kernel
theorem dX2_settle_70 : decode cX2_settle 70 = .ok (.iload_n 2, 1) := by decide +kernel
theorem dX2_settle_71 : decode cX2_settle 71 = .ok (.iaload, 1) := by decide +kernel
theorem dX2_settle_72 : decode cX2_settle 72 = .ok (.putfield 73, 3) := by decide +kernel
theorem dX2_settle_75 : decode cX2_settle 75 = .ok (.aload_n 0, 1) := by decide +kernel
theorem dX2_settle_76 : decode cX2_settle 76 = .ok (.iload_n 1, 1) := by decide +kernel
theorem dX2_settle_77 : decode cX2_settle 77 = .ok (.ifCond .eq 23, 3) := by decide +kernel
theorem dX2_settle_80 : decode cX2_settle 80 = .ok (.aload_n 0, 1) := by decide +kernel
theorem dX2_settle_81 : decode cX2_settle 81 = .ok (.getfield 79, 3) := by decide +kernel
theorem dX2_settle_84 : decode cX2_settle 84 = .ok (.aload_n 0, 1) := by decide +kernel
theorem dX2_settle_85 : decode cX2_settle 85 = .ok (.getfield 16, 3) := by decide +kernel
theorem dX2_settle_88 : decode cX2_settle 88 = .ok (.iload_n 2, 1) := by decide +kernel
theorem dX2_settle_89 : decode cX2_settle 89 = .ok (.iaload, 1) := by decide +kernel
theorem dX2_settle_90 : decode cX2_settle 90 = .ok (.if_icmp .le 10, 3) := by decide +kernel
theorem dX2_settle_93 : decode cX2_settle 93 = .ok (.aload_n 0, 1) := by decide +kernel
theorem dX2_settle_94 : decode cX2_settle 94 = .ok (.getfield 79, 3) := by decide +kernel
theorem dX2_settle_97 : decode cX2_settle 97 = .ok (.goto 9, 3) := by decide +kernel
theorem dX2_settle_100 : decode cX2_settle 100 = .ok (.aload_n 0, 1) := by decide +kernel
theorem dX2_settle_101 : decode cX2_settle 101 = .ok (.getfield 16, 3) := by decide +kernel
theorem dX2_settle_104 : decode cX2_settle 104 = .ok (.iload_n 2, 1) := by decide +kernel
theorem dX2_settle_105 : decode cX2_settle 105 = .ok (.iaload, 1) := by decide +kernel
theorem dX2_settle_106 : decode cX2_settle 106 = .ok (.putfield 79, 3) := by decide +kernel
theorem dX2_settle_109 : decode cX2_settle 109 = .ok (.iconst 1, 1) := by decide +kernel
theorem dX2_settle_110 : decode cX2_settle 110 = .ok (.istore_n 1, 1) := by decide +kernel
theorem dX2_settle_111 : decode cX2_settle 111 = .ok (.iinc 2 1, 3) := by decide +kernel
theorem dX2_settle_114 : decode cX2_settle 114 = .ok (.goto (-87), 3) := by decide +kernel
theorem dX2_settle_117 : decode cX2_settle 117 = .ok (.iconst 0, 1) := by decide +kernel
theorem dX2_settle_118 : decode cX2_settle 118 = .ok (.istore_n 2, 1) := by decide +kernel
theorem dX2_settle_119 : decode cX2_settle 119 = .ok (.iload_n 2, 1) := by decide +kernel
theorem dX2_settle_120 : decode cX2_settle 120 = .ok (.bipush 100, 2) := by decide +kernel
theorem dX2_settle_122 : decode cX2_settle 122 = .ok (.if_icmp .ge 19, 3) := by decide +kernel
theorem dX2_settle_125 : decode cX2_settle 125 = .ok (.aload_n 0, 1) := by decide +kernel
theorem dX2_settle_126 : decode cX2_settle 126 = .ok (.getfield 13, 3) := by decide +kernel
theorem dX2_settle_129 : decode cX2_settle 129 = .ok (.iload_n 2, 1) := by decide +kernel
theorem dX2_settle_130 : decode cX2_settle 130 = .ok (.aload_n 0, 1) := by decide +kernel
theorem dX2_settle_131 : decode cX2_settle 131 = .ok (.getfield 73, 3) := by decide +kernel
theorem dX2_settle_134 : decode cX2_settle 134 = .ok (.iastore, 1) := by decide +kernel
theorem dX2_settle_135 : decode cX2_settle 135 = .ok (.iinc 2 1, 3) := by decide +kernel
theorem dX2_settle_138 : decode cX2_settle 138 = .ok (.goto (-19), 3) := by decide +kernel
theorem dX2_settle_141 : decode cX2_settle 141 = .ok (.iconst 1, 1) := by decide +kernel
theorem dX2_settle_142 : decode cX2_settle 142 = .ok (.istore_n 2, 1) := by decide +kernel
theorem dX2_settle_143 : decode cX2_settle 143 = .ok (.iload_n 2, 1) := by decide +kernel
theorem dX2_settle_144 : decode cX2_settle 144 = .ok (.ifCond .eq 87, 3) := by decide +kernel
theorem dX2_settle_147 : decode cX2_settle 147 = .ok (.iconst 0, 1) := by decide +kernel
theorem dX2_settle_148 : decode cX2_settle 148 = .ok (.istore_n 2, 1) := by decide +kernel
theorem dX2_settle_149 : decode cX2_settle 149 = .ok (.iconst 0, 1) := by decide +kernel
theorem dX2_settle_150 : decode cX2_settle 150 = .ok (.istore_n 3, 1) := by decide +kernel
theorem dX2_settle_151 : decode cX2_settle 151 = .ok (.iload_n 3, 1) := by decide +kernel
theorem dX2_settle_152 : decode cX2_settle 152 = .ok (.aload_n 0, 1) := by decide +kernel
theorem dX2_settle_153 : decode cX2_settle 153 = .ok (.getfield 29, 3) := by decide +kernel
theorem dX2_settle_156 : decode cX2_settle 156 = .ok (.aload_n 0, 1) := by decide +kernel
theorem dX2_settle_157 : decode cX2_settle 157 = .ok (.getfield 33, 3) := by decide +kernel
theorem dX2_settle_160 : decode cX2_settle 160 = .ok (.imul, 1) := by decide +kernel
theorem dX2_settle_161 : decode cX2_settle 161 = .ok (.if_icmp .ge 27, 3) := by decide +kernel
theorem dX2_settle_164 : decode cX2_settle 164 = .ok (.aload_n 0, 1) := by decide +kernel
theorem dX2_settle_165 : decode cX2_settle 165 = .ok (.iload_n 3, 1) := by decide +kernel
theorem dX2_settle_166 : decode cX2_settle 166 = .ok (.invokevirtual 82, 3) := by decide +kernel
theorem dX2_settle_169 : decode cX2_settle 169 = .ok (.ifCond .ne 7, 3) := by decide +kernel
theorem dX2_settle_172 : decode cX2_settle 172 = .ok (.iload_n 2, 1) := by decide +kernel
theorem dX2_settle_173 : decode cX2_settle 173 = .ok (.ifCond .eq 7, 3) := by decide +kernel
theorem dX2_settle_176 : decode cX2_settle 176 = .ok (.iconst 1, 1) := by decide +kernel
theorem dX2_settle_177 : decode cX2_settle 177 = .ok (.goto 4, 3) := by decide +kernel
theorem dX2_settle_180 : decode cX2_settle 180 = .ok (.iconst 0, 1) := by decide +kernel
theorem dX2_settle_181 : decode cX2_settle 181 = .ok (.istore_n 2, 1) := by decide +kernel
theorem dX2_settle_182 : decode cX2_settle 182 = .ok (.iinc 3 1, 3) := by decide +kernel
theorem dX2_settle_185 : decode cX2_settle 185 = .ok (.goto (-34), 3) := by decide +kernel
theorem dX2_settle_188 : decode cX2_settle 188 = .ok (.aload_n 0, 1) := by decide +kernel
theorem dX2_settle_189 : decode cX2_settle 189 = .ok (.getfield 29, 3) := by decide +kernel
theorem dX2_settle_192 : decode cX2_settle 192 = .ok (.aload_n 0, 1) := by decide +kernel
theorem dX2_settle_193 : decode cX2_settle 193 = .ok (.getfield 33, 3) := by decide +kernel
theorem dX2_settle_196 : decode cX2_settle 196 = .ok (.imul, 1) := by decide +kernel
theorem dX2_settle_197 : decode cX2_settle 197 = .ok (.iconst 1, 1) := by decide +kernel
theorem dX2_settle_198 : decode cX2_settle 198 = .ok (.isub, 1) := by decide +kernel
theorem dX2_settle_199 : decode cX2_settle 199 = .ok (.istore_n 3, 1) := by decide +kernel
theorem dX2_settle_200 : decode cX2_settle 200 = .ok (.iload_n 3, 1) := by decide +kernel
theorem dX2_settle_201 : decode cX2_settle 201 = .ok (.ifCond .lt 27, 3) := by decide +kernel
theorem dX2_settle_204 : decode cX2_settle 204 = .ok (.aload_n 0, 1) := by decide +kernel
theorem dX2_settle_205 : decode cX2_settle 205 = .ok (.iload_n 3, 1) := by decide +kernel
theorem dX2_settle_206 : decode cX2_settle 206 = .ok (.invokevirtual 82, 3) := by decide +kernel
theorem dX2_settle_209 : decode cX2_settle 209 = .ok (.ifCond .ne 7, 3) := by decide +kernel
theorem dX2_settle_212 : decode cX2_settle 212 = .ok (.iload_n 2, 1) := by decide +kernel
theorem dX2_settle_213 : decode cX2_settle 213 = .ok (.ifCond .eq 7, 3) := by decide +kernel
theorem dX2_settle_216 : decode cX2_settle 216 = .ok (.iconst 1, 1) := by decide +kernel
theorem dX2_settle_217 : decode cX2_settle 217 = .ok (.goto 4, 3) := by decide +kernel
theorem dX2_settle_220 : decode cX2_settle 220 = .ok (.iconst 0, 1) := by decide +kernel
theorem dX2_settle_221 : decode cX2_settle 221 = .ok (.istore_n 2, 1) := by decide +kernel
theorem dX2_settle_222 : decode cX2_settle 222 = .ok (.iinc 3 (-1), 3) := by decide +kernel
theorem dX2_settle_225 : decode cX2_settle 225 = .ok (.goto (-25), 3) := by decide +kernel
theorem dX2_settle_228 : decode cX2_settle 228 = .ok (.goto (-85), 3) := by decide +kernel
theorem dX2_settle_231 : decode cX2_settle 231 = .ok (.return_, 1) := by decide +kernel
theorem dX2_warmthOf_0 : decode cX2_warmthOf 0 = .ok (.aload_n 0, 1) := by decide +kernel
theorem dX2_warmthOf_1 : decode cX2_warmthOf 1 = .ok (.getfield 7, 3) := by decide +kernel
theorem dX2_warmthOf_4 : decode cX2_warmthOf 4 = .ok (.bipush 10, 2) := by decide +kernel
theorem dX2_warmthOf_6 : decode cX2_warmthOf 6 = .ok (.iload_n 2, 1) := by decide +kernel
theorem dX2_warmthOf_7 : decode cX2_warmthOf 7 = .ok (.imul, 1) := by decide +kernel
theorem dX2_warmthOf_8 : decode cX2_warmthOf 8 = .ok (.iload_n 1, 1) := by decide +kernel
theorem dX2_warmthOf_9 : decode cX2_warmthOf 9 = .ok (.iadd, 1) := by decide +kernel
theorem dX2_warmthOf_10 : decode cX2_warmthOf 10 = .ok (.iaload, 1) := by decide +kernel
theorem dX2_warmthOf_11 : decode cX2_warmthOf 11 = .ok (.ifCond .le 17, 3) := by decide +kernel
theorem dX2_warmthOf_14 : decode cX2_warmthOf 14 = .ok (.aload_n 0, 1) := by decide +kernel
theorem dX2_warmthOf_15 : decode cX2_warmthOf 15 = .ok (.getfield 13, 3) := by decide +kernel
theorem dX2_warmthOf_18 : decode cX2_warmthOf 18 = .ok (.bipush 10, 2) := by decide +kernel
theorem dX2_warmthOf_20 : decode cX2_warmthOf 20 = .ok (.iload_n 2, 1) := by decide +kernel
theorem dX2_warmthOf_21 : decode cX2_warmthOf 21 = .ok (.imul, 1) := by decide +kernel
theorem dX2_warmthOf_22 : decode cX2_warmthOf 22 = .ok (.iload_n 1, 1) := by decide +kernel
theorem dX2_warmthOf_23 : decode cX2_warmthOf 23 = .ok (.iadd, 1) := by decide +kernel
theorem dX2_warmthOf_24 : decode cX2_warmthOf 24 = .ok (.iaload, 1) := by decide +kernel
theorem dX2_warmthOf_25 : decode cX2_warmthOf 25 = .ok (.goto 5, 3) := by decide +kernel
theorem dX2_warmthOf_28 : decode cX2_warmthOf 28 = .ok (.ldc 86, 2) := by decide +kernel
theorem dX2_warmthOf_30 : decode cX2_warmthOf 30 = .ok (.ireturn, 1) := by decide +kernel
set_option maxRecDepth 20000 in
theorem ggX2_warmth_X2_isCell : GoodIn wsX2_warmth wsX2_isCell := goodIn_r _ [5, 6, 7, 8, 9, 4, 10, 53, 54, 55, 56, 57, 58, 59, 60, 61, 62, 63, 64, 65, 66, 67] (by decide +kernel) (by decide +kernel)
set_option maxRecDepth 20000 in
theorem gX2_warmth_X2_isCell : GoodIn wsX2_warmth (wsV RX2 43 RX2 yX2_isCell wsX2_isCell) := goodIn_app (goodIn_of _ (by decide +kernel)) ggX2_warmth_X2_isCell
set_option maxRecDepth 20000 in
theorem ggX2_warmth_X2_may : GoodIn wsX2_warmth wsX2_may := goodIn_r _ [14, 15, 53, 54, 55, 56, 57, 58, 59, 60, 61, 62, 63, 64, 65, 66, 67] (by decide +kernel) (by decide +kernel)
set_option maxRecDepth 20000 in
theorem gX2_warmth_X2_may : GoodIn wsX2_warmth (wsV RX2 47 RX2 yX2_may wsX2_may) := goodIn_app (goodIn_of _ (by decide +kernel)) ggX2_warmth_X2_may
set_option maxRecDepth 20000 in
theorem ggX2_warmth_X2_settle : GoodIn wsX2_warmth wsX2_settle := goodIn_r _ [19, 20, 21, 22, 23, 24, 25, 6, 7, 26, 27, 28, 4, 29, 30, 31, 32, 33, 34, 35, 36, 37, 38, 39, 40, 1, 2, 3, 5, 8, 9, 10, 41, 42, 43, 44, 45, 46, 47, 53, 54, 55, 56, 57, 58, 59, 60, 61, 62, 63, 64, 65, 66, 67] (by decide +kernel) (by decide +kernel)
set_option maxRecDepth 20000 in
theorem gX2_warmth_X2_settle : GoodIn wsX2_warmth (wsV RX2 87 RX2 yX2_settle wsX2_settle) := goodIn_app (goodIn_of _ (by decide +kernel)) ggX2_warmth_X2_settle
set_option maxRecDepth 20000 in
theorem ggX2_warmth_X2_warmthOf : GoodIn wsX2_warmth wsX2_warmthOf := goodIn_r _ [51, 30, 25, 52, 53, 54, 55, 56, 57, 58, 59, 60, 61, 62, 63, 64, 65, 66, 67] (by decide +kernel) (by decide +kernel)
set_option maxRecDepth 20000 in
theorem gX2_warmth_X2_warmthOf : GoodIn wsX2_warmth (wsV RX2 90 RX2 yX2_warmthOf wsX2_warmthOf) := goodIn_app (goodIn_of _ (by decide +kernel)) ggX2_warmth_X2_warmthOf
theorem dX2_warmth_0 : decode cX2_warmth 0 = .ok (.aload_n 0, 1) := by decide +kernel
theorem dX2_warmth_1 : decode cX2_warmth 1 = .ok (.aload_n 0, 1) := by decide +kernel
theorem dX2_warmth_2 : decode cX2_warmth 2 = .ok (.iload_n 1, 1) := by decide +kernel
theorem dX2_warmth_3 : decode cX2_warmth 3 = .ok (.iload_n 2, 1) := by decide +kernel
theorem dX2_warmth_4 : decode cX2_warmth 4 = .ok (.invokevirtual 43, 3) := by decide +kernel
theorem dX2_warmth_7 : decode cX2_warmth 7 = .ok (.invokevirtual 47, 3) := by decide +kernel
theorem dX2_warmth_10 : decode cX2_warmth 10 = .ok (.ifCond .ne 5, 3) := by decide +kernel
theorem dX2_warmth_13 : decode cX2_warmth 13 = .ok (.iconst 0, 1) := by decide +kernel
theorem dX2_warmth_14 : decode cX2_warmth 14 = .ok (.ireturn, 1) := by decide +kernel
theorem dX2_warmth_15 : decode cX2_warmth 15 = .ok (.aload_n 0, 1) := by decide +kernel
theorem dX2_warmth_16 : decode cX2_warmth 16 = .ok (.invokevirtual 87, 3) := by decide +kernel
theorem dX2_warmth_19 : decode cX2_warmth 19 = .ok (.aload_n 0, 1) := by decide +kernel
theorem dX2_warmth_20 : decode cX2_warmth 20 = .ok (.iload_n 1, 1) := by decide +kernel
theorem dX2_warmth_21 : decode cX2_warmth 21 = .ok (.iload_n 2, 1) := by decide +kernel
theorem dX2_warmth_22 : decode cX2_warmth 22 = .ok (.invokevirtual 90, 3) := by decide +kernel
theorem dX2_warmth_25 : decode cX2_warmth 25 = .ok (.ireturn, 1) := by decide +kernel
set_option maxRecDepth 20000 in
theorem ggX2_flowOf_X2_isBeside : GoodIn wsX2_flowOf wsX2_isBeside := goodIn_r _ [11, 2, 1, 15, 16, 17, 18, 19, 20, 21, 22, 23, 24, 25, 26, 27, 28, 29] (by decide +kernel) (by decide +kernel)
set_option maxRecDepth 20000 in
theorem gX2_flowOf_X2_isBeside : GoodIn wsX2_flowOf (wsV RX2 70 RX2 yX2_isBeside wsX2_isBeside) := goodIn_app (goodIn_of _ (by decide +kernel)) ggX2_flowOf_X2_isBeside
set_option maxRecDepth 20000 in
theorem ggX2_flowOf_X2_together : GoodIn wsX2_flowOf wsX2_together := goodIn_r _ [14] (by decide +kernel) (by decide +kernel)
set_option maxRecDepth 20000 in
theorem gX2_flowOf_X2_together : GoodIn wsX2_flowOf (va_wsS RX2 55 yX2_together wsX2_together) := goodIn_app (goodIn_of _ (by decide +kernel)) ggX2_flowOf_X2_together
theorem dX2_flowOf_0 : decode cX2_flowOf 0 = .ok (.lconst 0, 1) := by decide +kernel
theorem dX2_flowOf_1 : decode cX2_flowOf 1 = .ok (.lstore_n 2, 1) := by decide +kernel
theorem dX2_flowOf_2 : decode cX2_flowOf 2 = .ok (.iconst 0, 1) := by decide +kernel
theorem dX2_flowOf_3 : decode cX2_flowOf 3 = .ok (.istore 4, 2) := by decide +kernel
theorem dX2_flowOf_5 : decode cX2_flowOf 5 = .ok (.iload 4, 2) := by decide +kernel
theorem dX2_flowOf_7 : decode cX2_flowOf 7 = .ok (.aload_n 0, 1) := by decide +kernel
theorem dX2_flowOf_8 : decode cX2_flowOf 8 = .ok (.getfield 33, 3) := by decide +kernel
theorem dX2_flowOf_11 : decode cX2_flowOf 11 = .ok (.if_icmp .ge 87, 3) := by decide +kernel
theorem dX2_flowOf_14 : decode cX2_flowOf 14 = .ok (.iconst 0, 1) := by decide +kernel
theorem dX2_flowOf_15 : decode cX2_flowOf 15 = .ok (.istore 5, 2) := by decide +kernel
theorem dX2_flowOf_17 : decode cX2_flowOf 17 = .ok (.iload 5, 2) := by decide +kernel
theorem dX2_flowOf_19 : decode cX2_flowOf 19 = .ok (.aload_n 0, 1) := by decide +kernel
theorem dX2_flowOf_20 : decode cX2_flowOf 20 = .ok (.getfield 29, 3) := by decide +kernel
theorem dX2_flowOf_23 : decode cX2_flowOf 23 = .ok (.if_icmp .ge 69, 3) := by decide +kernel
theorem dX2_flowOf_26 : decode cX2_flowOf 26 = .ok (.aload_n 0, 1) := by decide +kernel
theorem dX2_flowOf_27 : decode cX2_flowOf 27 = .ok (.iload_n 1, 1) := by decide +kernel
theorem dX2_flowOf_28 : decode cX2_flowOf 28 = .ok (.iload 5, 2) := by decide +kernel
theorem dX2_flowOf_30 : decode cX2_flowOf 30 = .ok (.iload 4, 2) := by decide +kernel
theorem dX2_flowOf_32 : decode cX2_flowOf 32 = .ok (.invokevirtual 70, 3) := by decide +kernel
theorem dX2_flowOf_35 : decode cX2_flowOf 35 = .ok (.ifCond .eq 51, 3) := by decide +kernel
theorem dX2_flowOf_38 : decode cX2_flowOf 38 = .ok (.lload_n 2, 1) := by decide +kernel
theorem dX2_flowOf_39 : decode cX2_flowOf 39 = .ok (.aload_n 0, 1) := by decide +kernel
theorem dX2_flowOf_40 : decode cX2_flowOf 40 = .ok (.getfield 7, 3) := by decide +kernel
theorem dX2_flowOf_43 : decode cX2_flowOf 43 = .ok (.bipush 10, 2) := by decide +kernel
theorem dX2_flowOf_45 : decode cX2_flowOf 45 = .ok (.iload 4, 2) := by decide +kernel
theorem dX2_flowOf_47 : decode cX2_flowOf 47 = .ok (.imul, 1) := by decide +kernel
theorem dX2_flowOf_48 : decode cX2_flowOf 48 = .ok (.iload 5, 2) := by decide +kernel
theorem dX2_flowOf_50 : decode cX2_flowOf 50 = .ok (.iadd, 1) := by decide +kernel
theorem dX2_flowOf_51 : decode cX2_flowOf 51 = .ok (.iaload, 1) := by decide +kernel
theorem dX2_flowOf_52 : decode cX2_flowOf 52 = .ok (.aload_n 0, 1) := by decide +kernel
theorem dX2_flowOf_53 : decode cX2_flowOf 53 = .ok (.getfield 19, 3) := by decide +kernel
theorem dX2_flowOf_56 : decode cX2_flowOf 56 = .ok (.iload_n 1, 1) := by decide +kernel
theorem dX2_flowOf_57 : decode cX2_flowOf 57 = .ok (.iaload, 1) := by decide +kernel
theorem dX2_flowOf_58 : decode cX2_flowOf 58 = .ok (.invokestatic 55, 3) := by decide +kernel
theorem dX2_flowOf_61 : decode cX2_flowOf 61 = .ok (.i2l, 1) := by decide +kernel
theorem dX2_flowOf_62 : decode cX2_flowOf 62 = .ok (.aload_n 0, 1) := by decide +kernel
theorem dX2_flowOf_63 : decode cX2_flowOf 63 = .ok (.getfield 16, 3) := by decide +kernel
theorem dX2_flowOf_66 : decode cX2_flowOf 66 = .ok (.iload_n 1, 1) := by decide +kernel
theorem dX2_flowOf_67 : decode cX2_flowOf 67 = .ok (.iaload, 1) := by decide +kernel
theorem dX2_flowOf_68 : decode cX2_flowOf 68 = .ok (.aload_n 0, 1) := by decide +kernel
theorem dX2_flowOf_69 : decode cX2_flowOf 69 = .ok (.getfield 13, 3) := by decide +kernel
theorem dX2_flowOf_72 : decode cX2_flowOf 72 = .ok (.bipush 10, 2) := by decide +kernel
theorem dX2_flowOf_74 : decode cX2_flowOf 74 = .ok (.iload 4, 2) := by decide +kernel
theorem dX2_flowOf_76 : decode cX2_flowOf 76 = .ok (.imul, 1) := by decide +kernel
theorem dX2_flowOf_77 : decode cX2_flowOf 77 = .ok (.iload 5, 2) := by decide +kernel
theorem dX2_flowOf_79 : decode cX2_flowOf 79 = .ok (.iadd, 1) := by decide +kernel
theorem dX2_flowOf_80 : decode cX2_flowOf 80 = .ok (.iaload, 1) := by decide +kernel
theorem dX2_flowOf_81 : decode cX2_flowOf 81 = .ok (.isub, 1) := by decide +kernel
theorem dX2_flowOf_82 : decode cX2_flowOf 82 = .ok (.i2l, 1) := by decide +kernel
theorem dX2_flowOf_83 : decode cX2_flowOf 83 = .ok (.lmul, 1) := by decide +kernel
theorem dX2_flowOf_84 : decode cX2_flowOf 84 = .ok (.ladd, 1) := by decide +kernel
theorem dX2_flowOf_85 : decode cX2_flowOf 85 = .ok (.lstore_n 2, 1) := by decide +kernel
theorem dX2_flowOf_86 : decode cX2_flowOf 86 = .ok (.iinc 5 1, 3) := by decide +kernel
theorem dX2_flowOf_89 : decode cX2_flowOf 89 = .ok (.goto (-72), 3) := by decide +kernel
theorem dX2_flowOf_92 : decode cX2_flowOf 92 = .ok (.iinc 4 1, 3) := by decide +kernel
theorem dX2_flowOf_95 : decode cX2_flowOf 95 = .ok (.goto (-90), 3) := by decide +kernel
theorem dX2_flowOf_98 : decode cX2_flowOf 98 = .ok (.lload_n 2, 1) := by decide +kernel
theorem dX2_flowOf_99 : decode cX2_flowOf 99 = .ok (.lreturn, 1) := by decide +kernel
set_option maxRecDepth 20000 in
theorem ggX2_flow_X2_in : GoodIn wsX2_flow wsX2_in := goodIn_r _ [4] (by decide +kernel) (by decide +kernel)
set_option maxRecDepth 20000 in
theorem gX2_flow_X2_in : GoodIn wsX2_flow (va_wsS RX2 39 yX2_in wsX2_in) := goodIn_app (goodIn_of _ (by decide +kernel)) ggX2_flow_X2_in
set_option maxRecDepth 20000 in
theorem ggX2_flow_X2_may : GoodIn wsX2_flow wsX2_may := goodIn_r _ [8, 9, 52, 53, 54, 55, 56, 57, 58, 59, 60, 61, 62, 63, 64, 65, 66] (by decide +kernel) (by decide +kernel)
set_option maxRecDepth 20000 in
theorem gX2_flow_X2_may : GoodIn wsX2_flow (wsV RX2 47 RX2 yX2_may wsX2_may) := goodIn_app (goodIn_of _ (by decide +kernel)) ggX2_flow_X2_may
set_option maxRecDepth 20000 in
theorem ggX2_flow_X2_settle : GoodIn wsX2_flow wsX2_settle := goodIn_r _ [13, 14, 15, 16, 17, 18, 19, 20, 21, 22, 23, 24, 3, 25, 26, 27, 28, 29, 30, 31, 32, 33, 34, 35, 36, 37, 38, 39, 40, 1, 2, 4, 41, 42, 43, 44, 45, 46, 47, 52, 53, 54, 55, 56, 57, 58, 59, 60, 61, 62, 63, 64, 65, 66] (by decide +kernel) (by decide +kernel)
set_option maxRecDepth 20000 in
theorem gX2_flow_X2_settle : GoodIn wsX2_flow (wsV RX2 87 RX2 yX2_settle wsX2_settle) := goodIn_app (goodIn_of _ (by decide +kernel)) ggX2_flow_X2_settle
set_option maxRecDepth 20000 in
theorem ggX2_flow_X2_flowOf : GoodIn wsX2_flow wsX2_flowOf := goodIn_r _ [51, 21, 20, 26, 17, 18, 19, 44, 45, 46, 3, 47, 41, 42, 43, 52, 53, 54, 55, 56, 57, 58, 59, 60, 61, 62, 63, 64, 65, 66] (by decide +kernel) (by decide +kernel)
set_option maxRecDepth 20000 in
theorem gX2_flow_X2_flowOf : GoodIn wsX2_flow (wsV RX2 93 RX2 yX2_flowOf wsX2_flowOf) := goodIn_app (goodIn_of _ (by decide +kernel)) ggX2_flow_X2_flowOf
theorem dX2_flow_0 : decode cX2_flow 0 = .ok (.aload_n 0, 1) := by decide +kernel
theorem dX2_flow_1 : decode cX2_flow 1 = .ok (.iload_n 1, 1) := by decide +kernel
theorem dX2_flow_2 : decode cX2_flow 2 = .ok (.iconst 0, 1) := by decide +kernel
theorem dX2_flow_3 : decode cX2_flow 3 = .ok (.iconst 3, 1) := by decide +kernel
theorem dX2_flow_4 : decode cX2_flow 4 = .ok (.invokestatic 39, 3) := by decide +kernel
theorem dX2_flow_7 : decode cX2_flow 7 = .ok (.invokevirtual 47, 3) := by decide +kernel
theorem dX2_flow_10 : decode cX2_flow 10 = .ok (.ifCond .ne 5, 3) := by decide +kernel
theorem dX2_flow_13 : decode cX2_flow 13 = .ok (.lconst 0, 1) := by decide +kernel
theorem dX2_flow_14 : decode cX2_flow 14 = .ok (.lreturn, 1) := by decide +kernel
theorem dX2_flow_15 : decode cX2_flow 15 = .ok (.aload_n 0, 1) := by decide +kernel
theorem dX2_flow_16 : decode cX2_flow 16 = .ok (.invokevirtual 87, 3) := by decide +kernel
theorem dX2_flow_19 : decode cX2_flow 19 = .ok (.aload_n 0, 1) := by decide +kernel
theorem dX2_flow_20 : decode cX2_flow 20 = .ok (.iload_n 1, 1) := by decide +kernel
theorem dX2_flow_21 : decode cX2_flow 21 = .ok (.invokevirtual 93, 3) := by decide +kernel
theorem dX2_flow_24 : decode cX2_flow 24 = .ok (.lreturn, 1) := by decide +kernel
set_option maxRecDepth 20000 in
theorem ggX2_heat_X2_settle : GoodIn wsX2_heat wsX2_settle := goodIn_r _ [5, 6, 7, 8, 9, 10, 11, 12, 13, 14, 15, 16, 4, 17, 18, 19, 20, 21, 22, 23, 24, 25, 26, 27, 28, 29, 30, 31, 32, 33, 34, 35, 36, 37, 38, 39, 40, 41, 42, 47, 48, 49, 50, 51, 52, 53, 54, 55, 56, 57, 58, 59, 60, 61] (by decide +kernel) (by decide +kernel)
set_option maxRecDepth 20000 in
theorem gX2_heat_X2_settle : GoodIn wsX2_heat (wsV RX2 87 RX2 yX2_settle wsX2_settle) := goodIn_app (goodIn_of _ (by decide +kernel)) ggX2_heat_X2_settle
set_option maxRecDepth 20000 in
theorem ggX2_heat_X2_flowOf : GoodIn wsX2_heat wsX2_flowOf := goodIn_r _ [46, 13, 12, 18, 9, 10, 11, 39, 40, 41, 4, 42, 36, 37, 38, 47, 48, 49, 50, 51, 52, 53, 54, 55, 56, 57, 58, 59, 60, 61] (by decide +kernel) (by decide +kernel)
set_option maxRecDepth 20000 in
theorem gX2_heat_X2_flowOf : GoodIn wsX2_heat (wsV RX2 93 RX2 yX2_flowOf wsX2_flowOf) := goodIn_app (goodIn_of _ (by decide +kernel)) ggX2_heat_X2_flowOf
theorem dX2_heat_0 : decode cX2_heat 0 = .ok (.aload_n 0, 1) := by decide +kernel
theorem dX2_heat_1 : decode cX2_heat 1 = .ok (.invokevirtual 87, 3) := by decide +kernel
theorem dX2_heat_4 : decode cX2_heat 4 = .ok (.lconst 0, 1) := by decide +kernel
theorem dX2_heat_5 : decode cX2_heat 5 = .ok (.lstore_n 1, 1) := by decide +kernel
theorem dX2_heat_6 : decode cX2_heat 6 = .ok (.iconst 0, 1) := by decide +kernel
theorem dX2_heat_7 : decode cX2_heat 7 = .ok (.istore_n 3, 1) := by decide +kernel
theorem dX2_heat_8 : decode cX2_heat 8 = .ok (.iload_n 3, 1) := by decide +kernel
theorem dX2_heat_9 : decode cX2_heat 9 = .ok (.iconst 4, 1) := by decide +kernel
theorem dX2_heat_10 : decode cX2_heat 10 = .ok (.if_icmp .ge 31, 3) := by decide +kernel
theorem dX2_heat_13 : decode cX2_heat 13 = .ok (.aload_n 0, 1) := by decide +kernel
theorem dX2_heat_14 : decode cX2_heat 14 = .ok (.iload_n 3, 1) := by decide +kernel
theorem dX2_heat_15 : decode cX2_heat 15 = .ok (.invokevirtual 93, 3) := by decide +kernel
theorem dX2_heat_18 : decode cX2_heat 18 = .ok (.lconst 0, 1) := by decide +kernel
theorem dX2_heat_19 : decode cX2_heat 19 = .ok (.lcmp, 1) := by decide +kernel
theorem dX2_heat_20 : decode cX2_heat 20 = .ok (.ifCond .le 13, 3) := by decide +kernel
theorem dX2_heat_23 : decode cX2_heat 23 = .ok (.lload_n 1, 1) := by decide +kernel
theorem dX2_heat_24 : decode cX2_heat 24 = .ok (.aload_n 0, 1) := by decide +kernel
theorem dX2_heat_25 : decode cX2_heat 25 = .ok (.iload_n 3, 1) := by decide +kernel
theorem dX2_heat_26 : decode cX2_heat 26 = .ok (.invokevirtual 93, 3) := by decide +kernel
theorem dX2_heat_29 : decode cX2_heat 29 = .ok (.ladd, 1) := by decide +kernel
theorem dX2_heat_30 : decode cX2_heat 30 = .ok (.goto 4, 3) := by decide +kernel
theorem dX2_heat_33 : decode cX2_heat 33 = .ok (.lload_n 1, 1) := by decide +kernel
theorem dX2_heat_34 : decode cX2_heat 34 = .ok (.lstore_n 1, 1) := by decide +kernel
theorem dX2_heat_35 : decode cX2_heat 35 = .ok (.iinc 3 1, 3) := by decide +kernel
theorem dX2_heat_38 : decode cX2_heat 38 = .ok (.goto (-30), 3) := by decide +kernel
theorem dX2_heat_41 : decode cX2_heat 41 = .ok (.lload_n 1, 1) := by decide +kernel
theorem dX2_heat_42 : decode cX2_heat 42 = .ok (.lreturn, 1) := by decide +kernel
set_option maxRecDepth 20000 in
theorem ggX2_told_X2_in : GoodIn wsX2_told wsX2_in := goodIn_r _ [9] (by decide +kernel) (by decide +kernel)
set_option maxRecDepth 20000 in
theorem gX2_told_X2_in : GoodIn wsX2_told (va_wsS RX2 39 yX2_in wsX2_in) := goodIn_app (goodIn_of _ (by decide +kernel)) ggX2_told_X2_in
set_option maxRecDepth 20000 in
theorem ggX2_told_X2_may : GoodIn wsX2_told wsX2_may := goodIn_r _ [13, 14, 56, 57, 58, 59, 60, 61, 62, 63, 64, 65, 66, 67, 68, 69, 70] (by decide +kernel) (by decide +kernel)
set_option maxRecDepth 20000 in
theorem gX2_told_X2_may : GoodIn wsX2_told (wsV RX2 47 RX2 yX2_may wsX2_may) := goodIn_app (goodIn_of _ (by decide +kernel)) ggX2_told_X2_may
set_option maxRecDepth 20000 in
theorem ggX2_told_X2_heat : GoodIn wsX2_told wsX2_heat := goodIn_r _ [18, 19, 20, 21, 8, 22, 23, 24, 25, 26, 27, 4, 2, 1, 28, 29, 30, 31, 3, 32, 33, 34, 35, 36, 5, 37, 38, 39, 40, 41, 42, 43, 44, 6, 7, 9, 45, 46, 47, 48, 49, 50, 51, 52, 53, 54, 55, 56, 57, 58, 59, 60, 61, 62, 63, 64, 65, 66, 67, 68, 69, 70] (by decide +kernel) (by decide +kernel)
set_option maxRecDepth 20000 in
theorem gX2_told_X2_heat : GoodIn wsX2_told (wsV RX2 97 RX2 yX2_heat wsX2_heat) := goodIn_app (goodIn_of _ (by decide +kernel)) ggX2_told_X2_heat
set_option maxRecDepth 20000 in
theorem ggX2_told_X2_settle : GoodIn wsX2_told wsX2_settle := goodIn_r _ [22, 23, 24, 25, 26, 27, 4, 2, 1, 28, 29, 30, 8, 31, 3, 32, 33, 34, 35, 36, 5, 37, 38, 39, 40, 41, 42, 43, 44, 6, 7, 9, 45, 46, 47, 48, 49, 50, 51, 56, 57, 58, 59, 60, 61, 62, 63, 64, 65, 66, 67, 68, 69, 70] (by decide +kernel) (by decide +kernel)
set_option maxRecDepth 20000 in
theorem gX2_told_X2_settle : GoodIn wsX2_told (wsV RX2 87 RX2 yX2_settle wsX2_settle) := goodIn_app (goodIn_of _ (by decide +kernel)) ggX2_told_X2_settle
set_option maxRecDepth 20000 in
theorem ggX2_told_X2_flowOf : GoodIn wsX2_told wsX2_flowOf := goodIn_r _ [55, 1, 2, 3, 26, 27, 4, 48, 49, 50, 8, 51, 45, 46, 47, 56, 57, 58, 59, 60, 61, 62, 63, 64, 65, 66, 67, 68, 69, 70] (by decide +kernel) (by decide +kernel)
set_option maxRecDepth 20000 in
theorem gX2_told_X2_flowOf : GoodIn wsX2_told (wsV RX2 93 RX2 yX2_flowOf wsX2_flowOf) := goodIn_app (goodIn_of _ (by decide +kernel)) ggX2_told_X2_flowOf
set_option maxRecDepth 20000 in
theorem ggX2_told_X2_made : GoodIn wsX2_told wsX2_made := goodIn_r _ [35, 3, 36, 5, 26, 27, 24, 37, 38, 39, 8, 40, 4, 41, 42, 43, 44, 2, 1, 6, 7, 9, 45, 46, 47, 48, 49, 50, 51, 56, 57, 58, 59, 60, 61, 62, 63, 64, 65, 66, 67, 68, 69, 70] (by decide +kernel) (by decide +kernel)
set_option maxRecDepth 20000 in
theorem gX2_told_X2_made : GoodIn wsX2_told (wsV RX2 76 RX2 yX2_made wsX2_made) := goodIn_app (goodIn_of _ (by decide +kernel)) ggX2_told_X2_made
theorem dX2_told_0 : decode cX2_told 0 = .ok (.aload_n 0, 1) := by decide +kernel
theorem dX2_told_1 : decode cX2_told 1 = .ok (.iload_n 1, 1) := by decide +kernel
theorem dX2_told_2 : decode cX2_told 2 = .ok (.iconst 0, 1) := by decide +kernel
theorem dX2_told_3 : decode cX2_told 3 = .ok (.iconst 3, 1) := by decide +kernel
theorem dX2_told_4 : decode cX2_told 4 = .ok (.invokestatic 39, 3) := by decide +kernel
theorem dX2_told_7 : decode cX2_told 7 = .ok (.invokevirtual 47, 3) := by decide +kernel
theorem dX2_told_10 : decode cX2_told 10 = .ok (.ifCond .ne 5, 3) := by decide +kernel
theorem dX2_told_13 : decode cX2_told 13 = .ok (.lconst 0, 1) := by decide +kernel
theorem dX2_told_14 : decode cX2_told 14 = .ok (.lreturn, 1) := by decide +kernel
theorem dX2_told_15 : decode cX2_told 15 = .ok (.iload_n 1, 1) := by decide +kernel
theorem dX2_told_16 : decode cX2_told 16 = .ok (.ifCond .ne 8, 3) := by decide +kernel
theorem dX2_told_19 : decode cX2_told 19 = .ok (.aload_n 0, 1) := by decide +kernel
theorem dX2_told_20 : decode cX2_told 20 = .ok (.invokevirtual 97, 3) := by decide +kernel
theorem dX2_told_23 : decode cX2_told 23 = .ok (.lreturn, 1) := by decide +kernel
theorem dX2_told_24 : decode cX2_told 24 = .ok (.aload_n 0, 1) := by decide +kernel
theorem dX2_told_25 : decode cX2_told 25 = .ok (.invokevirtual 87, 3) := by decide +kernel
theorem dX2_told_28 : decode cX2_told 28 = .ok (.iload_n 1, 1) := by decide +kernel
theorem dX2_told_29 : decode cX2_told 29 = .ok (.iconst 1, 1) := by decide +kernel
theorem dX2_told_30 : decode cX2_told 30 = .ok (.if_icmp .ne 27, 3) := by decide +kernel
theorem dX2_told_33 : decode cX2_told 33 = .ok (.aload_n 0, 1) := by decide +kernel
theorem dX2_told_34 : decode cX2_told 34 = .ok (.iconst 0, 1) := by decide +kernel
theorem dX2_told_35 : decode cX2_told 35 = .ok (.invokevirtual 93, 3) := by decide +kernel
theorem dX2_told_38 : decode cX2_told 38 = .ok (.aload_n 0, 1) := by decide +kernel
theorem dX2_told_39 : decode cX2_told 39 = .ok (.iconst 1, 1) := by decide +kernel
theorem dX2_told_40 : decode cX2_told 40 = .ok (.invokevirtual 93, 3) := by decide +kernel
theorem dX2_told_43 : decode cX2_told 43 = .ok (.ladd, 1) := by decide +kernel
theorem dX2_told_44 : decode cX2_told 44 = .ok (.aload_n 0, 1) := by decide +kernel
theorem dX2_told_45 : decode cX2_told 45 = .ok (.iconst 2, 1) := by decide +kernel
theorem dX2_told_46 : decode cX2_told 46 = .ok (.invokevirtual 93, 3) := by decide +kernel
theorem dX2_told_49 : decode cX2_told 49 = .ok (.ladd, 1) := by decide +kernel
theorem dX2_told_50 : decode cX2_told 50 = .ok (.aload_n 0, 1) := by decide +kernel
theorem dX2_told_51 : decode cX2_told 51 = .ok (.iconst 3, 1) := by decide +kernel
theorem dX2_told_52 : decode cX2_told 52 = .ok (.invokevirtual 93, 3) := by decide +kernel
theorem dX2_told_55 : decode cX2_told 55 = .ok (.ladd, 1) := by decide +kernel
theorem dX2_told_56 : decode cX2_told 56 = .ok (.lreturn, 1) := by decide +kernel
theorem dX2_told_57 : decode cX2_told 57 = .ok (.lconst 0, 1) := by decide +kernel
theorem dX2_told_58 : decode cX2_told 58 = .ok (.lstore_n 2, 1) := by decide +kernel
theorem dX2_told_59 : decode cX2_told 59 = .ok (.iconst 0, 1) := by decide +kernel
theorem dX2_told_60 : decode cX2_told 60 = .ok (.istore 4, 2) := by decide +kernel
theorem dX2_told_62 : decode cX2_told 62 = .ok (.iconst 0, 1) := by decide +kernel
theorem dX2_told_63 : decode cX2_told 63 = .ok (.istore 5, 2) := by decide +kernel
theorem dX2_told_65 : decode cX2_told 65 = .ok (.iload 5, 2) := by decide +kernel
theorem dX2_told_67 : decode cX2_told 67 = .ok (.aload_n 0, 1) := by decide +kernel
theorem dX2_told_68 : decode cX2_told 68 = .ok (.getfield 33, 3) := by decide +kernel
theorem dX2_told_71 : decode cX2_told 71 = .ok (.if_icmp .ge 89, 3) := by decide +kernel
theorem dX2_told_74 : decode cX2_told 74 = .ok (.iconst 0, 1) := by decide +kernel
theorem dX2_told_75 : decode cX2_told 75 = .ok (.istore 6, 2) := by decide +kernel
theorem dX2_told_77 : decode cX2_told 77 = .ok (.iload 6, 2) := by decide +kernel
theorem dX2_told_79 : decode cX2_told 79 = .ok (.aload_n 0, 1) := by decide +kernel
theorem dX2_told_80 : decode cX2_told 80 = .ok (.getfield 29, 3) := by decide +kernel
theorem dX2_told_83 : decode cX2_told 83 = .ok (.if_icmp .ge 71, 3) := by decide +kernel
theorem dX2_told_86 : decode cX2_told 86 = .ok (.aload_n 0, 1) := by decide +kernel
theorem dX2_told_87 : decode cX2_told 87 = .ok (.getfield 7, 3) := by decide +kernel
theorem dX2_told_90 : decode cX2_told 90 = .ok (.bipush 10, 2) := by decide +kernel
theorem dX2_told_92 : decode cX2_told 92 = .ok (.iload 5, 2) := by decide +kernel
theorem dX2_told_94 : decode cX2_told 94 = .ok (.imul, 1) := by decide +kernel
theorem dX2_told_95 : decode cX2_told 95 = .ok (.iload 6, 2) := by decide +kernel
theorem dX2_told_97 : decode cX2_told 97 = .ok (.iadd, 1) := by decide +kernel
theorem dX2_told_98 : decode cX2_told 98 = .ok (.iaload, 1) := by decide +kernel
theorem dX2_told_99 : decode cX2_told 99 = .ok (.ifCond .le 49, 3) := by decide +kernel
theorem dX2_told_102 : decode cX2_told 102 = .ok (.lload_n 2, 1) := by decide +kernel
theorem dX2_told_103 : decode cX2_told 103 = .ok (.aload_n 0, 1) := by decide +kernel
theorem dX2_told_104 : decode cX2_told 104 = .ok (.getfield 13, 3) := by decide +kernel
theorem dX2_told_107 : decode cX2_told 107 = .ok (.bipush 10, 2) := by decide +kernel
theorem dX2_told_109 : decode cX2_told 109 = .ok (.iload 5, 2) := by decide +kernel
theorem dX2_told_111 : decode cX2_told 111 = .ok (.imul, 1) := by decide +kernel
theorem dX2_told_112 : decode cX2_told 112 = .ok (.iload 6, 2) := by decide +kernel
theorem dX2_told_114 : decode cX2_told 114 = .ok (.iadd, 1) := by decide +kernel
theorem dX2_told_115 : decode cX2_told 115 = .ok (.iaload, 1) := by decide +kernel
theorem dX2_told_116 : decode cX2_told 116 = .ok (.i2l, 1) := by decide +kernel
theorem dX2_told_117 : decode cX2_told 117 = .ok (.ladd, 1) := by decide +kernel
theorem dX2_told_118 : decode cX2_told 118 = .ok (.lstore_n 2, 1) := by decide +kernel
theorem dX2_told_119 : decode cX2_told 119 = .ok (.aload_n 0, 1) := by decide +kernel
theorem dX2_told_120 : decode cX2_told 120 = .ok (.iload 6, 2) := by decide +kernel
theorem dX2_told_122 : decode cX2_told 122 = .ok (.iload 5, 2) := by decide +kernel
theorem dX2_told_124 : decode cX2_told 124 = .ok (.invokevirtual 76, 3) := by decide +kernel
theorem dX2_told_127 : decode cX2_told 127 = .ok (.pop, 1) := by decide +kernel
theorem dX2_told_128 : decode cX2_told 128 = .ok (.aload_n 0, 1) := by decide +kernel
theorem dX2_told_129 : decode cX2_told 129 = .ok (.getfield 63, 3) := by decide +kernel
theorem dX2_told_132 : decode cX2_told 132 = .ok (.lconst 0, 1) := by decide +kernel
theorem dX2_told_133 : decode cX2_told 133 = .ok (.lcmp, 1) := by decide +kernel
theorem dX2_told_134 : decode cX2_told 134 = .ok (.ifCond .ne 10, 3) := by decide +kernel
theorem dX2_told_137 : decode cX2_told 137 = .ok (.iload 4, 2) := by decide +kernel
theorem dX2_told_139 : decode cX2_told 139 = .ok (.iconst 1, 1) := by decide +kernel
theorem dX2_told_140 : decode cX2_told 140 = .ok (.iadd, 1) := by decide +kernel
theorem dX2_told_141 : decode cX2_told 141 = .ok (.goto 5, 3) := by decide +kernel
theorem dX2_told_144 : decode cX2_told 144 = .ok (.iload 4, 2) := by decide +kernel
theorem dX2_told_146 : decode cX2_told 146 = .ok (.istore 4, 2) := by decide +kernel
theorem dX2_told_148 : decode cX2_told 148 = .ok (.iinc 6 1, 3) := by decide +kernel
theorem dX2_told_151 : decode cX2_told 151 = .ok (.goto (-74), 3) := by decide +kernel
theorem dX2_told_154 : decode cX2_told 154 = .ok (.iinc 5 1, 3) := by decide +kernel
theorem dX2_told_157 : decode cX2_told 157 = .ok (.goto (-92), 3) := by decide +kernel
theorem dX2_told_160 : decode cX2_told 160 = .ok (.iload_n 1, 1) := by decide +kernel
theorem dX2_told_161 : decode cX2_told 161 = .ok (.iconst 2, 1) := by decide +kernel
theorem dX2_told_162 : decode cX2_told 162 = .ok (.if_icmp .ne 7, 3) := by decide +kernel
theorem dX2_told_165 : decode cX2_told 165 = .ok (.lload_n 2, 1) := by decide +kernel
theorem dX2_told_166 : decode cX2_told 166 = .ok (.goto 6, 3) := by decide +kernel
theorem dX2_told_169 : decode cX2_told 169 = .ok (.iload 4, 2) := by decide +kernel
theorem dX2_told_171 : decode cX2_told 171 = .ok (.i2l, 1) := by decide +kernel
theorem dX2_told_172 : decode cX2_told 172 = .ok (.lreturn, 1) := by decide +kernel
set_option maxRecDepth 20000 in
theorem ggX2_coldest_X2_settle : GoodIn wsX2_coldest wsX2_settle := goodIn_r _ [8, 9, 10, 11, 12, 13, 14, 1, 2, 15, 16, 17, 7, 18, 19, 20, 21, 22, 23, 24, 25, 26, 27, 28, 29, 30, 31, 32, 33, 34, 35, 36, 37, 38, 39, 40, 41, 42, 43, 52, 53, 54, 55, 56, 57, 58, 59, 60, 61, 62, 63, 64, 65, 66] (by decide +kernel) (by decide +kernel)
set_option maxRecDepth 20000 in
theorem gX2_coldest_X2_settle : GoodIn wsX2_coldest (wsV RX2 87 RX2 yX2_settle wsX2_settle) := goodIn_app (goodIn_of _ (by decide +kernel)) ggX2_coldest_X2_settle
set_option maxRecDepth 20000 in
theorem ggX2_coldest_X2_faceOf : GoodIn wsX2_coldest wsX2_faceOf := goodIn_r _ [47, 1, 2, 48, 49, 50, 7, 51, 19, 14, 3, 52, 53, 54, 55, 56, 57, 58, 59, 60, 61, 62, 63, 64, 65, 66] (by decide +kernel) (by decide +kernel)
set_option maxRecDepth 20000 in
theorem gX2_coldest_X2_faceOf : GoodIn wsX2_coldest (wsV RX2 101 RX2 yX2_faceOf wsX2_faceOf) := goodIn_app (goodIn_of _ (by decide +kernel)) ggX2_coldest_X2_faceOf
theorem dX2_coldest_0 : decode cX2_coldest 0 = .ok (.aload_n 0, 1) := by decide +kernel
theorem dX2_coldest_1 : decode cX2_coldest 1 = .ok (.invokevirtual 87, 3) := by decide +kernel
theorem dX2_coldest_4 : decode cX2_coldest 4 = .ok (.iload_n 1, 1) := by decide +kernel
theorem dX2_coldest_5 : decode cX2_coldest 5 = .ok (.iconst 2, 1) := by decide +kernel
theorem dX2_coldest_6 : decode cX2_coldest 6 = .ok (.irem, 1) := by decide +kernel
theorem dX2_coldest_7 : decode cX2_coldest 7 = .ok (.ifCond .ne 10, 3) := by decide +kernel
theorem dX2_coldest_10 : decode cX2_coldest 10 = .ok (.aload_n 0, 1) := by decide +kernel
theorem dX2_coldest_11 : decode cX2_coldest 11 = .ok (.getfield 29, 3) := by decide +kernel
theorem dX2_coldest_14 : decode cX2_coldest 14 = .ok (.goto 7, 3) := by decide +kernel
theorem dX2_coldest_17 : decode cX2_coldest 17 = .ok (.aload_n 0, 1) := by decide +kernel
theorem dX2_coldest_18 : decode cX2_coldest 18 = .ok (.getfield 33, 3) := by decide +kernel
theorem dX2_coldest_21 : decode cX2_coldest 21 = .ok (.istore_n 2, 1) := by decide +kernel
theorem dX2_coldest_22 : decode cX2_coldest 22 = .ok (.iconst (-1), 1) := by decide +kernel
theorem dX2_coldest_23 : decode cX2_coldest 23 = .ok (.istore_n 3, 1) := by decide +kernel
theorem dX2_coldest_24 : decode cX2_coldest 24 = .ok (.iconst 0, 1) := by decide +kernel
theorem dX2_coldest_25 : decode cX2_coldest 25 = .ok (.istore 4, 2) := by decide +kernel
theorem dX2_coldest_27 : decode cX2_coldest 27 = .ok (.iload 4, 2) := by decide +kernel
theorem dX2_coldest_29 : decode cX2_coldest 29 = .ok (.iload_n 2, 1) := by decide +kernel
theorem dX2_coldest_30 : decode cX2_coldest 30 = .ok (.if_icmp .ge 44, 3) := by decide +kernel
theorem dX2_coldest_33 : decode cX2_coldest 33 = .ok (.aload_n 0, 1) := by decide +kernel
theorem dX2_coldest_34 : decode cX2_coldest 34 = .ok (.iload_n 1, 1) := by decide +kernel
theorem dX2_coldest_35 : decode cX2_coldest 35 = .ok (.iload 4, 2) := by decide +kernel
theorem dX2_coldest_37 : decode cX2_coldest 37 = .ok (.invokevirtual 101, 3) := by decide +kernel
theorem dX2_coldest_40 : decode cX2_coldest 40 = .ok (.ldc 86, 2) := by decide +kernel
theorem dX2_coldest_42 : decode cX2_coldest 42 = .ok (.if_icmp .eq 26, 3) := by decide +kernel
theorem dX2_coldest_45 : decode cX2_coldest 45 = .ok (.iload_n 3, 1) := by decide +kernel
theorem dX2_coldest_46 : decode cX2_coldest 46 = .ok (.ifCond .lt 19, 3) := by decide +kernel
theorem dX2_coldest_49 : decode cX2_coldest 49 = .ok (.aload_n 0, 1) := by decide +kernel
theorem dX2_coldest_50 : decode cX2_coldest 50 = .ok (.iload_n 1, 1) := by decide +kernel
theorem dX2_coldest_51 : decode cX2_coldest 51 = .ok (.iload 4, 2) := by decide +kernel
theorem dX2_coldest_53 : decode cX2_coldest 53 = .ok (.invokevirtual 101, 3) := by decide +kernel
theorem dX2_coldest_56 : decode cX2_coldest 56 = .ok (.aload_n 0, 1) := by decide +kernel
theorem dX2_coldest_57 : decode cX2_coldest 57 = .ok (.iload_n 1, 1) := by decide +kernel
theorem dX2_coldest_58 : decode cX2_coldest 58 = .ok (.iload_n 3, 1) := by decide +kernel
theorem dX2_coldest_59 : decode cX2_coldest 59 = .ok (.invokevirtual 101, 3) := by decide +kernel
theorem dX2_coldest_62 : decode cX2_coldest 62 = .ok (.if_icmp .ge 6, 3) := by decide +kernel
theorem dX2_coldest_65 : decode cX2_coldest 65 = .ok (.iload 4, 2) := by decide +kernel
theorem dX2_coldest_67 : decode cX2_coldest 67 = .ok (.istore_n 3, 1) := by decide +kernel
theorem dX2_coldest_68 : decode cX2_coldest 68 = .ok (.iinc 4 1, 3) := by decide +kernel
theorem dX2_coldest_71 : decode cX2_coldest 71 = .ok (.goto (-44), 3) := by decide +kernel
theorem dX2_coldest_74 : decode cX2_coldest 74 = .ok (.iload_n 3, 1) := by decide +kernel
theorem dX2_coldest_75 : decode cX2_coldest 75 = .ok (.ireturn, 1) := by decide +kernel
set_option maxRecDepth 20000 in
theorem ggX2_faceOf_X2_warmthOf : GoodIn wsX2_faceOf wsX2_warmthOf := goodIn_r _ [7, 8, 9, 10, 11, 12, 13, 14, 15, 16, 17, 18, 19, 20, 21, 22, 23, 24, 25] (by decide +kernel) (by decide +kernel)
set_option maxRecDepth 20000 in
theorem gX2_faceOf_X2_warmthOf : GoodIn wsX2_faceOf (wsV RX2 90 RX2 yX2_warmthOf wsX2_warmthOf) := goodIn_app (goodIn_of _ (by decide +kernel)) ggX2_faceOf_X2_warmthOf
theorem dX2_faceOf_0 : decode cX2_faceOf 0 = .ok (.iload_n 1, 1) := by decide +kernel
theorem dX2_faceOf_1 : decode cX2_faceOf 1 = .ok (.ifCond .ne 12, 3) := by decide +kernel
theorem dX2_faceOf_4 : decode cX2_faceOf 4 = .ok (.aload_n 0, 1) := by decide +kernel
theorem dX2_faceOf_5 : decode cX2_faceOf 5 = .ok (.iload_n 2, 1) := by decide +kernel
theorem dX2_faceOf_6 : decode cX2_faceOf 6 = .ok (.iconst 0, 1) := by decide +kernel
theorem dX2_faceOf_7 : decode cX2_faceOf 7 = .ok (.invokevirtual 90, 3) := by decide +kernel
theorem dX2_faceOf_10 : decode cX2_faceOf 10 = .ok (.goto 47, 3) := by decide +kernel
theorem dX2_faceOf_13 : decode cX2_faceOf 13 = .ok (.iload_n 1, 1) := by decide +kernel
theorem dX2_faceOf_14 : decode cX2_faceOf 14 = .ok (.iconst 1, 1) := by decide +kernel
theorem dX2_faceOf_15 : decode cX2_faceOf 15 = .ok (.if_icmp .ne 17, 3) := by decide +kernel
theorem dX2_faceOf_18 : decode cX2_faceOf 18 = .ok (.aload_n 0, 1) := by decide +kernel
theorem dX2_faceOf_19 : decode cX2_faceOf 19 = .ok (.aload_n 0, 1) := by decide +kernel
theorem dX2_faceOf_20 : decode cX2_faceOf 20 = .ok (.getfield 29, 3) := by decide +kernel
theorem dX2_faceOf_23 : decode cX2_faceOf 23 = .ok (.iconst 1, 1) := by decide +kernel
theorem dX2_faceOf_24 : decode cX2_faceOf 24 = .ok (.isub, 1) := by decide +kernel
theorem dX2_faceOf_25 : decode cX2_faceOf 25 = .ok (.iload_n 2, 1) := by decide +kernel
theorem dX2_faceOf_26 : decode cX2_faceOf 26 = .ok (.invokevirtual 90, 3) := by decide +kernel
theorem dX2_faceOf_29 : decode cX2_faceOf 29 = .ok (.goto 28, 3) := by decide +kernel
theorem dX2_faceOf_32 : decode cX2_faceOf 32 = .ok (.iload_n 1, 1) := by decide +kernel
theorem dX2_faceOf_33 : decode cX2_faceOf 33 = .ok (.iconst 2, 1) := by decide +kernel
theorem dX2_faceOf_34 : decode cX2_faceOf 34 = .ok (.if_icmp .ne 17, 3) := by decide +kernel
theorem dX2_faceOf_37 : decode cX2_faceOf 37 = .ok (.aload_n 0, 1) := by decide +kernel
theorem dX2_faceOf_38 : decode cX2_faceOf 38 = .ok (.iload_n 2, 1) := by decide +kernel
theorem dX2_faceOf_39 : decode cX2_faceOf 39 = .ok (.aload_n 0, 1) := by decide +kernel
theorem dX2_faceOf_40 : decode cX2_faceOf 40 = .ok (.getfield 33, 3) := by decide +kernel
theorem dX2_faceOf_43 : decode cX2_faceOf 43 = .ok (.iconst 1, 1) := by decide +kernel
theorem dX2_faceOf_44 : decode cX2_faceOf 44 = .ok (.isub, 1) := by decide +kernel
theorem dX2_faceOf_45 : decode cX2_faceOf 45 = .ok (.invokevirtual 90, 3) := by decide +kernel
theorem dX2_faceOf_48 : decode cX2_faceOf 48 = .ok (.goto 9, 3) := by decide +kernel
theorem dX2_faceOf_51 : decode cX2_faceOf 51 = .ok (.aload_n 0, 1) := by decide +kernel
theorem dX2_faceOf_52 : decode cX2_faceOf 52 = .ok (.iconst 0, 1) := by decide +kernel
theorem dX2_faceOf_53 : decode cX2_faceOf 53 = .ok (.iload_n 2, 1) := by decide +kernel
theorem dX2_faceOf_54 : decode cX2_faceOf 54 = .ok (.invokevirtual 90, 3) := by decide +kernel
theorem dX2_faceOf_57 : decode cX2_faceOf 57 = .ok (.ireturn, 1) := by decide +kernel
set_option maxRecDepth 20000 in
theorem ggX2_least_X2_in : GoodIn wsX2_least wsX2_in := goodIn_r _ [5] (by decide +kernel) (by decide +kernel)
set_option maxRecDepth 20000 in
theorem gX2_least_X2_in : GoodIn wsX2_least (va_wsS RX2 39 yX2_in wsX2_in) := goodIn_app (goodIn_of _ (by decide +kernel)) ggX2_least_X2_in
set_option maxRecDepth 20000 in
theorem ggX2_least_X2_may : GoodIn wsX2_least wsX2_may := goodIn_r _ [9, 10, 61, 62, 63, 64, 65, 66, 67, 68, 69, 70, 71, 72, 73, 74, 75] (by decide +kernel) (by decide +kernel)
set_option maxRecDepth 20000 in
theorem gX2_least_X2_may : GoodIn wsX2_least (wsV RX2 47 RX2 yX2_may wsX2_may) := goodIn_app (goodIn_of _ (by decide +kernel)) ggX2_least_X2_may
set_option maxRecDepth 20000 in
theorem ggX2_least_X2_coldest : GoodIn wsX2_least wsX2_coldest := goodIn_r _ [14, 15, 16, 1, 17, 18, 19, 4, 20, 21, 22, 23, 24, 25, 26, 27, 28, 29, 30, 31, 32, 33, 34, 35, 36, 37, 38, 39, 40, 41, 42, 43, 44, 45, 2, 3, 5, 46, 47, 48, 49, 50, 51, 52, 53, 54, 55, 56, 57, 58, 59, 60, 61, 62, 63, 64, 65, 66, 67, 68, 69, 70, 71, 72, 73, 74, 75] (by decide +kernel) (by decide +kernel)
set_option maxRecDepth 20000 in
theorem gX2_least_X2_coldest : GoodIn wsX2_least (wsV RX2 104 RX2 yX2_coldest wsX2_coldest) := goodIn_app (goodIn_of _ (by decide +kernel)) ggX2_least_X2_coldest
set_option maxRecDepth 20000 in
theorem ggX2_least_X2_faceOf : GoodIn wsX2_least wsX2_faceOf := goodIn_r _ [56, 15, 16, 57, 58, 59, 4, 60, 31, 26, 1, 61, 62, 63, 64, 65, 66, 67, 68, 69, 70, 71, 72, 73, 74, 75] (by decide +kernel) (by decide +kernel)
set_option maxRecDepth 20000 in
theorem gX2_least_X2_faceOf : GoodIn wsX2_least (wsV RX2 101 RX2 yX2_faceOf wsX2_faceOf) := goodIn_app (goodIn_of _ (by decide +kernel)) ggX2_least_X2_faceOf
theorem dX2_least_0 : decode cX2_least 0 = .ok (.aload_n 0, 1) := by decide +kernel
theorem dX2_least_1 : decode cX2_least 1 = .ok (.iload_n 1, 1) := by decide +kernel
theorem dX2_least_2 : decode cX2_least 2 = .ok (.iconst 0, 1) := by decide +kernel
theorem dX2_least_3 : decode cX2_least 3 = .ok (.iconst 3, 1) := by decide +kernel
theorem dX2_least_4 : decode cX2_least 4 = .ok (.invokestatic 39, 3) := by decide +kernel
theorem dX2_least_7 : decode cX2_least 7 = .ok (.ifCond .eq 16, 3) := by decide +kernel
theorem dX2_least_10 : decode cX2_least 10 = .ok (.iload_n 2, 1) := by decide +kernel
theorem dX2_least_11 : decode cX2_least 11 = .ok (.iconst 0, 1) := by decide +kernel
theorem dX2_least_12 : decode cX2_least 12 = .ok (.iconst 1, 1) := by decide +kernel
theorem dX2_least_13 : decode cX2_least 13 = .ok (.invokestatic 39, 3) := by decide +kernel
theorem dX2_least_16 : decode cX2_least 16 = .ok (.ifCond .eq 7, 3) := by decide +kernel
theorem dX2_least_19 : decode cX2_least 19 = .ok (.iconst 1, 1) := by decide +kernel
theorem dX2_least_20 : decode cX2_least 20 = .ok (.goto 4, 3) := by decide +kernel
theorem dX2_least_23 : decode cX2_least 23 = .ok (.iconst 0, 1) := by decide +kernel
theorem dX2_least_24 : decode cX2_least 24 = .ok (.invokevirtual 47, 3) := by decide +kernel
theorem dX2_least_27 : decode cX2_least 27 = .ok (.ifCond .ne 5, 3) := by decide +kernel
theorem dX2_least_30 : decode cX2_least 30 = .ok (.iconst 0, 1) := by decide +kernel
theorem dX2_least_31 : decode cX2_least 31 = .ok (.ireturn, 1) := by decide +kernel
theorem dX2_least_32 : decode cX2_least 32 = .ok (.aload_n 0, 1) := by decide +kernel
theorem dX2_least_33 : decode cX2_least 33 = .ok (.iload_n 1, 1) := by decide +kernel
theorem dX2_least_34 : decode cX2_least 34 = .ok (.invokevirtual 104, 3) := by decide +kernel
theorem dX2_least_37 : decode cX2_least 37 = .ok (.istore_n 3, 1) := by decide +kernel
theorem dX2_least_38 : decode cX2_least 38 = .ok (.iload_n 3, 1) := by decide +kernel
theorem dX2_least_39 : decode cX2_least 39 = .ok (.ifCond .ge 8, 3) := by decide +kernel
theorem dX2_least_42 : decode cX2_least 42 = .ok (.ldc 86, 2) := by decide +kernel
theorem dX2_least_44 : decode cX2_least 44 = .ok (.goto 17, 3) := by decide +kernel
theorem dX2_least_47 : decode cX2_least 47 = .ok (.iload_n 2, 1) := by decide +kernel
theorem dX2_least_48 : decode cX2_least 48 = .ok (.ifCond .ne 12, 3) := by decide +kernel
theorem dX2_least_51 : decode cX2_least 51 = .ok (.aload_n 0, 1) := by decide +kernel
theorem dX2_least_52 : decode cX2_least 52 = .ok (.iload_n 1, 1) := by decide +kernel
theorem dX2_least_53 : decode cX2_least 53 = .ok (.iload_n 3, 1) := by decide +kernel
theorem dX2_least_54 : decode cX2_least 54 = .ok (.invokevirtual 101, 3) := by decide +kernel
theorem dX2_least_57 : decode cX2_least 57 = .ok (.goto 4, 3) := by decide +kernel
theorem dX2_least_60 : decode cX2_least 60 = .ok (.iload_n 3, 1) := by decide +kernel
theorem dX2_least_61 : decode cX2_least 61 = .ok (.ireturn, 1) := by decide +kernel
set_option maxRecDepth 20000 in
theorem ggX2_factor_X2_in : GoodIn wsX2_factor wsX2_in := goodIn_r _ [6] (by decide +kernel) (by decide +kernel)
set_option maxRecDepth 20000 in
theorem gX2_factor_X2_in : GoodIn wsX2_factor (va_wsS RX2 39 yX2_in wsX2_in) := goodIn_app (goodIn_of _ (by decide +kernel)) ggX2_factor_X2_in
set_option maxRecDepth 20000 in
theorem ggX2_factor_X2_may : GoodIn wsX2_factor wsX2_may := goodIn_r _ [10, 11, 61, 62, 63, 64, 65, 66, 67, 68, 69, 70, 71, 72, 73, 74, 75] (by decide +kernel) (by decide +kernel)
set_option maxRecDepth 20000 in
theorem gX2_factor_X2_may : GoodIn wsX2_factor (wsV RX2 47 RX2 yX2_may wsX2_may) := goodIn_app (goodIn_of _ (by decide +kernel)) ggX2_factor_X2_may
set_option maxRecDepth 20000 in
theorem ggX2_factor_X2_coldest : GoodIn wsX2_factor wsX2_coldest := goodIn_r _ [15, 16, 17, 18, 19, 20, 21, 5, 22, 23, 1, 2, 24, 25, 26, 27, 28, 29, 30, 31, 32, 33, 34, 35, 36, 37, 38, 39, 40, 41, 42, 43, 44, 45, 3, 4, 6, 46, 47, 48, 49, 50, 51, 52, 53, 54, 55, 56, 57, 58, 59, 60, 61, 62, 63, 64, 65, 66, 67, 68, 69, 70, 71, 72, 73, 74, 75] (by decide +kernel) (by decide +kernel)
set_option maxRecDepth 20000 in
theorem gX2_factor_X2_coldest : GoodIn wsX2_factor (wsV RX2 104 RX2 yX2_coldest wsX2_coldest) := goodIn_app (goodIn_of _ (by decide +kernel)) ggX2_factor_X2_coldest
set_option maxRecDepth 20000 in
theorem ggX2_factor_X2_faceOf : GoodIn wsX2_factor wsX2_faceOf := goodIn_r _ [56, 16, 17, 57, 58, 59, 5, 60, 31, 26, 18, 61, 62, 63, 64, 65, 66, 67, 68, 69, 70, 71, 72, 73, 74, 75] (by decide +kernel) (by decide +kernel)
set_option maxRecDepth 20000 in
theorem gX2_factor_X2_faceOf : GoodIn wsX2_factor (wsV RX2 101 RX2 yX2_faceOf wsX2_faceOf) := goodIn_app (goodIn_of _ (by decide +kernel)) ggX2_factor_X2_faceOf
theorem dX2_factor_0 : decode cX2_factor 0 = .ok (.aload_n 0, 1) := by decide +kernel
theorem dX2_factor_1 : decode cX2_factor 1 = .ok (.iload_n 1, 1) := by decide +kernel
theorem dX2_factor_2 : decode cX2_factor 2 = .ok (.iconst 0, 1) := by decide +kernel
theorem dX2_factor_3 : decode cX2_factor 3 = .ok (.iconst 3, 1) := by decide +kernel
theorem dX2_factor_4 : decode cX2_factor 4 = .ok (.invokestatic 39, 3) := by decide +kernel
theorem dX2_factor_7 : decode cX2_factor 7 = .ok (.ifCond .eq 16, 3) := by decide +kernel
theorem dX2_factor_10 : decode cX2_factor 10 = .ok (.iload_n 2, 1) := by decide +kernel
theorem dX2_factor_11 : decode cX2_factor 11 = .ok (.iconst 0, 1) := by decide +kernel
theorem dX2_factor_12 : decode cX2_factor 12 = .ok (.iconst 1, 1) := by decide +kernel
theorem dX2_factor_13 : decode cX2_factor 13 = .ok (.invokestatic 39, 3) := by decide +kernel
theorem dX2_factor_16 : decode cX2_factor 16 = .ok (.ifCond .eq 7, 3) := by decide +kernel
theorem dX2_factor_19 : decode cX2_factor 19 = .ok (.iconst 1, 1) := by decide +kernel
theorem dX2_factor_20 : decode cX2_factor 20 = .ok (.goto 4, 3) := by decide +kernel
theorem dX2_factor_23 : decode cX2_factor 23 = .ok (.iconst 0, 1) := by decide +kernel
theorem dX2_factor_24 : decode cX2_factor 24 = .ok (.invokevirtual 47, 3) := by decide +kernel
theorem dX2_factor_27 : decode cX2_factor 27 = .ok (.ifCond .ne 5, 3) := by decide +kernel
theorem dX2_factor_30 : decode cX2_factor 30 = .ok (.iconst 0, 1) := by decide +kernel
theorem dX2_factor_31 : decode cX2_factor 31 = .ok (.ireturn, 1) := by decide +kernel
theorem dX2_factor_32 : decode cX2_factor 32 = .ok (.aload_n 0, 1) := by decide +kernel
theorem dX2_factor_33 : decode cX2_factor 33 = .ok (.iload_n 1, 1) := by decide +kernel
theorem dX2_factor_34 : decode cX2_factor 34 = .ok (.invokevirtual 104, 3) := by decide +kernel
theorem dX2_factor_37 : decode cX2_factor 37 = .ok (.istore_n 3, 1) := by decide +kernel
theorem dX2_factor_38 : decode cX2_factor 38 = .ok (.iload_n 3, 1) := by decide +kernel
theorem dX2_factor_39 : decode cX2_factor 39 = .ok (.ifCond .ge 7, 3) := by decide +kernel
theorem dX2_factor_42 : decode cX2_factor 42 = .ok (.iconst 0, 1) := by decide +kernel
theorem dX2_factor_43 : decode cX2_factor 43 = .ok (.goto 14, 3) := by decide +kernel
theorem dX2_factor_46 : decode cX2_factor 46 = .ok (.aload_n 0, 1) := by decide +kernel
theorem dX2_factor_47 : decode cX2_factor 47 = .ok (.iload_n 1, 1) := by decide +kernel
theorem dX2_factor_48 : decode cX2_factor 48 = .ok (.iload_n 3, 1) := by decide +kernel
theorem dX2_factor_49 : decode cX2_factor 49 = .ok (.invokevirtual 101, 3) := by decide +kernel
theorem dX2_factor_52 : decode cX2_factor 52 = .ok (.aload_n 0, 1) := by decide +kernel
theorem dX2_factor_53 : decode cX2_factor 53 = .ok (.getfield 73, 3) := by decide +kernel
theorem dX2_factor_56 : decode cX2_factor 56 = .ok (.isub, 1) := by decide +kernel
theorem dX2_factor_57 : decode cX2_factor 57 = .ok (.istore 4, 2) := by decide +kernel
theorem dX2_factor_59 : decode cX2_factor 59 = .ok (.iload_n 3, 1) := by decide +kernel
theorem dX2_factor_60 : decode cX2_factor 60 = .ok (.ifCond .lt 14, 3) := by decide +kernel
theorem dX2_factor_63 : decode cX2_factor 63 = .ok (.aload_n 0, 1) := by decide +kernel
theorem dX2_factor_64 : decode cX2_factor 64 = .ok (.getfield 79, 3) := by decide +kernel
theorem dX2_factor_67 : decode cX2_factor 67 = .ok (.aload_n 0, 1) := by decide +kernel
theorem dX2_factor_68 : decode cX2_factor 68 = .ok (.getfield 73, 3) := by decide +kernel
theorem dX2_factor_71 : decode cX2_factor 71 = .ok (.if_icmp .ne 7, 3) := by decide +kernel
theorem dX2_factor_74 : decode cX2_factor 74 = .ok (.iconst 1, 1) := by decide +kernel
theorem dX2_factor_75 : decode cX2_factor 75 = .ok (.goto 12, 3) := by decide +kernel
theorem dX2_factor_78 : decode cX2_factor 78 = .ok (.aload_n 0, 1) := by decide +kernel
theorem dX2_factor_79 : decode cX2_factor 79 = .ok (.getfield 79, 3) := by decide +kernel
theorem dX2_factor_82 : decode cX2_factor 82 = .ok (.aload_n 0, 1) := by decide +kernel
theorem dX2_factor_83 : decode cX2_factor 83 = .ok (.getfield 73, 3) := by decide +kernel
theorem dX2_factor_86 : decode cX2_factor 86 = .ok (.isub, 1) := by decide +kernel
theorem dX2_factor_87 : decode cX2_factor 87 = .ok (.istore 5, 2) := by decide +kernel
theorem dX2_factor_89 : decode cX2_factor 89 = .ok (.aload_n 0, 1) := by decide +kernel
theorem dX2_factor_90 : decode cX2_factor 90 = .ok (.getfield 79, 3) := by decide +kernel
theorem dX2_factor_93 : decode cX2_factor 93 = .ok (.aload_n 0, 1) := by decide +kernel
theorem dX2_factor_94 : decode cX2_factor 94 = .ok (.getfield 73, 3) := by decide +kernel
theorem dX2_factor_97 : decode cX2_factor 97 = .ok (.if_icmp .ne 7, 3) := by decide +kernel
theorem dX2_factor_100 : decode cX2_factor 100 = .ok (.iconst 0, 1) := by decide +kernel
theorem dX2_factor_101 : decode cX2_factor 101 = .ok (.goto 5, 3) := by decide +kernel
theorem dX2_factor_104 : decode cX2_factor 104 = .ok (.iload 4, 2) := by decide +kernel
theorem dX2_factor_106 : decode cX2_factor 106 = .ok (.istore 4, 2) := by decide +kernel
theorem dX2_factor_108 : decode cX2_factor 108 = .ok (.iload 4, 2) := by decide +kernel
theorem dX2_factor_110 : decode cX2_factor 110 = .ok (.istore 6, 2) := by decide +kernel
theorem dX2_factor_112 : decode cX2_factor 112 = .ok (.iload 5, 2) := by decide +kernel
theorem dX2_factor_114 : decode cX2_factor 114 = .ok (.istore 7, 2) := by decide +kernel
theorem dX2_factor_116 : decode cX2_factor 116 = .ok (.iload 7, 2) := by decide +kernel
theorem dX2_factor_118 : decode cX2_factor 118 = .ok (.ifCond .eq 21, 3) := by decide +kernel
theorem dX2_factor_121 : decode cX2_factor 121 = .ok (.iload 6, 2) := by decide +kernel
theorem dX2_factor_123 : decode cX2_factor 123 = .ok (.iload 7, 2) := by decide +kernel
theorem dX2_factor_125 : decode cX2_factor 125 = .ok (.irem, 1) := by decide +kernel
theorem dX2_factor_126 : decode cX2_factor 126 = .ok (.istore 8, 2) := by decide +kernel
theorem dX2_factor_128 : decode cX2_factor 128 = .ok (.iload 7, 2) := by decide +kernel
theorem dX2_factor_130 : decode cX2_factor 130 = .ok (.istore 6, 2) := by decide +kernel
theorem dX2_factor_132 : decode cX2_factor 132 = .ok (.iload 8, 2) := by decide +kernel
theorem dX2_factor_134 : decode cX2_factor 134 = .ok (.istore 7, 2) := by decide +kernel
theorem dX2_factor_136 : decode cX2_factor 136 = .ok (.goto (-20), 3) := by decide +kernel
theorem dX2_factor_139 : decode cX2_factor 139 = .ok (.iload_n 2, 1) := by decide +kernel
theorem dX2_factor_140 : decode cX2_factor 140 = .ok (.ifCond .ne 11, 3) := by decide +kernel
theorem dX2_factor_143 : decode cX2_factor 143 = .ok (.iload 4, 2) := by decide +kernel
theorem dX2_factor_145 : decode cX2_factor 145 = .ok (.iload 6, 2) := by decide +kernel
theorem dX2_factor_147 : decode cX2_factor 147 = .ok (.idiv, 1) := by decide +kernel
theorem dX2_factor_148 : decode cX2_factor 148 = .ok (.goto 8, 3) := by decide +kernel
theorem dX2_factor_151 : decode cX2_factor 151 = .ok (.iload 5, 2) := by decide +kernel
theorem dX2_factor_153 : decode cX2_factor 153 = .ok (.iload 6, 2) := by decide +kernel
theorem dX2_factor_155 : decode cX2_factor 155 = .ok (.idiv, 1) := by decide +kernel
theorem dX2_factor_156 : decode cX2_factor 156 = .ok (.ireturn, 1) := by decide +kernel
set_option maxRecDepth 20000 in
theorem ggX2_colder_X2_in : GoodIn wsX2_colder wsX2_in := goodIn_r _ [8] (by decide +kernel) (by decide +kernel)
set_option maxRecDepth 20000 in
theorem gX2_colder_X2_in : GoodIn wsX2_colder (va_wsS RX2 39 yX2_in wsX2_in) := goodIn_app (goodIn_of _ (by decide +kernel)) ggX2_colder_X2_in
set_option maxRecDepth 20000 in
theorem ggX2_colder_X2_may : GoodIn wsX2_colder wsX2_may := goodIn_r _ [12, 13, 48, 49, 50, 51, 52, 53, 54, 55, 56, 57, 58, 59, 60, 61, 62] (by decide +kernel) (by decide +kernel)
set_option maxRecDepth 20000 in
theorem gX2_colder_X2_may : GoodIn wsX2_colder (wsV RX2 47 RX2 yX2_may wsX2_may) := goodIn_app (goodIn_of _ (by decide +kernel)) ggX2_colder_X2_may
set_option maxRecDepth 20000 in
theorem ggX2_colder_X2_settle : GoodIn wsX2_colder wsX2_settle := goodIn_r _ [17, 18, 19, 20, 21, 22, 4, 2, 1, 23, 24, 25, 7, 26, 3, 27, 28, 29, 30, 31, 32, 33, 34, 35, 36, 37, 38, 39, 40, 5, 6, 8, 41, 42, 43, 44, 45, 46, 47, 48, 49, 50, 51, 52, 53, 54, 55, 56, 57, 58, 59, 60, 61, 62] (by decide +kernel) (by decide +kernel)
set_option maxRecDepth 20000 in
theorem gX2_colder_X2_settle : GoodIn wsX2_colder (wsV RX2 87 RX2 yX2_settle wsX2_settle) := goodIn_app (goodIn_of _ (by decide +kernel)) ggX2_colder_X2_settle
theorem dX2_colder_0 : decode cX2_colder 0 = .ok (.aload_n 0, 1) := by decide +kernel
theorem dX2_colder_1 : decode cX2_colder 1 = .ok (.iload_n 1, 1) := by decide +kernel
theorem dX2_colder_2 : decode cX2_colder 2 = .ok (.sipush (-10000), 3) := by decide +kernel
theorem dX2_colder_5 : decode cX2_colder 5 = .ok (.sipush 10000, 3) := by decide +kernel
theorem dX2_colder_8 : decode cX2_colder 8 = .ok (.invokestatic 39, 3) := by decide +kernel
theorem dX2_colder_11 : decode cX2_colder 11 = .ok (.invokevirtual 47, 3) := by decide +kernel
theorem dX2_colder_14 : decode cX2_colder 14 = .ok (.ifCond .ne 5, 3) := by decide +kernel
theorem dX2_colder_17 : decode cX2_colder 17 = .ok (.iconst 0, 1) := by decide +kernel
theorem dX2_colder_18 : decode cX2_colder 18 = .ok (.ireturn, 1) := by decide +kernel
theorem dX2_colder_19 : decode cX2_colder 19 = .ok (.aload_n 0, 1) := by decide +kernel
theorem dX2_colder_20 : decode cX2_colder 20 = .ok (.invokevirtual 87, 3) := by decide +kernel
theorem dX2_colder_23 : decode cX2_colder 23 = .ok (.iconst 0, 1) := by decide +kernel
theorem dX2_colder_24 : decode cX2_colder 24 = .ok (.istore_n 2, 1) := by decide +kernel
theorem dX2_colder_25 : decode cX2_colder 25 = .ok (.iconst 0, 1) := by decide +kernel
theorem dX2_colder_26 : decode cX2_colder 26 = .ok (.istore_n 3, 1) := by decide +kernel
theorem dX2_colder_27 : decode cX2_colder 27 = .ok (.iload_n 3, 1) := by decide +kernel
theorem dX2_colder_28 : decode cX2_colder 28 = .ok (.aload_n 0, 1) := by decide +kernel
theorem dX2_colder_29 : decode cX2_colder 29 = .ok (.getfield 33, 3) := by decide +kernel
theorem dX2_colder_32 : decode cX2_colder 32 = .ok (.if_icmp .ge 66, 3) := by decide +kernel
theorem dX2_colder_35 : decode cX2_colder 35 = .ok (.iconst 0, 1) := by decide +kernel
theorem dX2_colder_36 : decode cX2_colder 36 = .ok (.istore 4, 2) := by decide +kernel
theorem dX2_colder_38 : decode cX2_colder 38 = .ok (.iload 4, 2) := by decide +kernel
theorem dX2_colder_40 : decode cX2_colder 40 = .ok (.aload_n 0, 1) := by decide +kernel
theorem dX2_colder_41 : decode cX2_colder 41 = .ok (.getfield 29, 3) := by decide +kernel
theorem dX2_colder_44 : decode cX2_colder 44 = .ok (.if_icmp .ge 48, 3) := by decide +kernel
theorem dX2_colder_47 : decode cX2_colder 47 = .ok (.aload_n 0, 1) := by decide +kernel
theorem dX2_colder_48 : decode cX2_colder 48 = .ok (.getfield 7, 3) := by decide +kernel
theorem dX2_colder_51 : decode cX2_colder 51 = .ok (.bipush 10, 2) := by decide +kernel
theorem dX2_colder_53 : decode cX2_colder 53 = .ok (.iload_n 3, 1) := by decide +kernel
theorem dX2_colder_54 : decode cX2_colder 54 = .ok (.imul, 1) := by decide +kernel
theorem dX2_colder_55 : decode cX2_colder 55 = .ok (.iload 4, 2) := by decide +kernel
theorem dX2_colder_57 : decode cX2_colder 57 = .ok (.iadd, 1) := by decide +kernel
theorem dX2_colder_58 : decode cX2_colder 58 = .ok (.iaload, 1) := by decide +kernel
theorem dX2_colder_59 : decode cX2_colder 59 = .ok (.ifCond .le 25, 3) := by decide +kernel
theorem dX2_colder_62 : decode cX2_colder 62 = .ok (.aload_n 0, 1) := by decide +kernel
theorem dX2_colder_63 : decode cX2_colder 63 = .ok (.getfield 13, 3) := by decide +kernel
theorem dX2_colder_66 : decode cX2_colder 66 = .ok (.bipush 10, 2) := by decide +kernel
theorem dX2_colder_68 : decode cX2_colder 68 = .ok (.iload_n 3, 1) := by decide +kernel
theorem dX2_colder_69 : decode cX2_colder 69 = .ok (.imul, 1) := by decide +kernel
theorem dX2_colder_70 : decode cX2_colder 70 = .ok (.iload 4, 2) := by decide +kernel
theorem dX2_colder_72 : decode cX2_colder 72 = .ok (.iadd, 1) := by decide +kernel
theorem dX2_colder_73 : decode cX2_colder 73 = .ok (.iaload, 1) := by decide +kernel
theorem dX2_colder_74 : decode cX2_colder 74 = .ok (.iload_n 1, 1) := by decide +kernel
theorem dX2_colder_75 : decode cX2_colder 75 = .ok (.if_icmp .ge 9, 3) := by decide +kernel
theorem dX2_colder_78 : decode cX2_colder 78 = .ok (.iload_n 2, 1) := by decide +kernel
theorem dX2_colder_79 : decode cX2_colder 79 = .ok (.iconst 1, 1) := by decide +kernel
theorem dX2_colder_80 : decode cX2_colder 80 = .ok (.iadd, 1) := by decide +kernel
theorem dX2_colder_81 : decode cX2_colder 81 = .ok (.goto 4, 3) := by decide +kernel
theorem dX2_colder_84 : decode cX2_colder 84 = .ok (.iload_n 2, 1) := by decide +kernel
theorem dX2_colder_85 : decode cX2_colder 85 = .ok (.istore_n 2, 1) := by decide +kernel
theorem dX2_colder_86 : decode cX2_colder 86 = .ok (.iinc 4 1, 3) := by decide +kernel
theorem dX2_colder_89 : decode cX2_colder 89 = .ok (.goto (-51), 3) := by decide +kernel
theorem dX2_colder_92 : decode cX2_colder 92 = .ok (.iinc 3 1, 3) := by decide +kernel
theorem dX2_colder_95 : decode cX2_colder 95 = .ok (.goto (-68), 3) := by decide +kernel
theorem dX2_colder_98 : decode cX2_colder 98 = .ok (.iload_n 2, 1) := by decide +kernel
theorem dX2_colder_99 : decode cX2_colder 99 = .ok (.ireturn, 1) := by decide +kernel
set_option maxRecDepth 20000 in
theorem ggX2_mirrored_X2_in : GoodIn wsX2_mirrored wsX2_in := goodIn_r _ [6] (by decide +kernel) (by decide +kernel)
set_option maxRecDepth 20000 in
theorem gX2_mirrored_X2_in : GoodIn wsX2_mirrored (va_wsS RX2 39 yX2_in wsX2_in) := goodIn_app (goodIn_of _ (by decide +kernel)) ggX2_mirrored_X2_in
set_option maxRecDepth 20000 in
theorem ggX2_mirrored_X2_may : GoodIn wsX2_mirrored wsX2_may := goodIn_r _ [10, 11, 53, 54, 55, 56, 57, 58, 59, 60, 61, 62, 63, 64, 65, 66, 67] (by decide +kernel) (by decide +kernel)
set_option maxRecDepth 20000 in
theorem gX2_mirrored_X2_may : GoodIn wsX2_mirrored (wsV RX2 47 RX2 yX2_may wsX2_may) := goodIn_app (goodIn_of _ (by decide +kernel)) ggX2_mirrored_X2_may
set_option maxRecDepth 20000 in
theorem ggX2_mirrored_X2_settle : GoodIn wsX2_mirrored wsX2_settle := goodIn_r _ [15, 16, 17, 18, 19, 20, 21, 2, 1, 22, 23, 24, 5, 25, 26, 27, 28, 29, 30, 31, 32, 33, 34, 35, 36, 37, 38, 39, 40, 3, 4, 6, 41, 42, 43, 44, 45, 46, 47, 53, 54, 55, 56, 57, 58, 59, 60, 61, 62, 63, 64, 65, 66, 67] (by decide +kernel) (by decide +kernel)
set_option maxRecDepth 20000 in
theorem gX2_mirrored_X2_settle : GoodIn wsX2_mirrored (wsV RX2 87 RX2 yX2_settle wsX2_settle) := goodIn_app (goodIn_of _ (by decide +kernel)) ggX2_mirrored_X2_settle
set_option maxRecDepth 20000 in
theorem ggX2_mirrored_X2_warmthOf : GoodIn wsX2_mirrored wsX2_warmthOf := goodIn_r _ [51, 26, 21, 52, 53, 54, 55, 56, 57, 58, 59, 60, 61, 62, 63, 64, 65, 66, 67] (by decide +kernel) (by decide +kernel)
set_option maxRecDepth 20000 in
theorem gX2_mirrored_X2_warmthOf : GoodIn wsX2_mirrored (wsV RX2 90 RX2 yX2_warmthOf wsX2_warmthOf) := goodIn_app (goodIn_of _ (by decide +kernel)) ggX2_mirrored_X2_warmthOf
theorem dX2_mirrored_0 : decode cX2_mirrored 0 = .ok (.aload_n 0, 1) := by decide +kernel
theorem dX2_mirrored_1 : decode cX2_mirrored 1 = .ok (.iload_n 1, 1) := by decide +kernel
theorem dX2_mirrored_2 : decode cX2_mirrored 2 = .ok (.iconst 0, 1) := by decide +kernel
theorem dX2_mirrored_3 : decode cX2_mirrored 3 = .ok (.iconst 1, 1) := by decide +kernel
theorem dX2_mirrored_4 : decode cX2_mirrored 4 = .ok (.invokestatic 39, 3) := by decide +kernel
theorem dX2_mirrored_7 : decode cX2_mirrored 7 = .ok (.invokevirtual 47, 3) := by decide +kernel
theorem dX2_mirrored_10 : decode cX2_mirrored 10 = .ok (.ifCond .ne 5, 3) := by decide +kernel
theorem dX2_mirrored_13 : decode cX2_mirrored 13 = .ok (.iconst 0, 1) := by decide +kernel
theorem dX2_mirrored_14 : decode cX2_mirrored 14 = .ok (.ireturn, 1) := by decide +kernel
theorem dX2_mirrored_15 : decode cX2_mirrored 15 = .ok (.aload_n 0, 1) := by decide +kernel
theorem dX2_mirrored_16 : decode cX2_mirrored 16 = .ok (.invokevirtual 87, 3) := by decide +kernel
theorem dX2_mirrored_19 : decode cX2_mirrored 19 = .ok (.iconst 1, 1) := by decide +kernel
theorem dX2_mirrored_20 : decode cX2_mirrored 20 = .ok (.istore_n 2, 1) := by decide +kernel
theorem dX2_mirrored_21 : decode cX2_mirrored 21 = .ok (.iconst 0, 1) := by decide +kernel
theorem dX2_mirrored_22 : decode cX2_mirrored 22 = .ok (.istore_n 3, 1) := by decide +kernel
theorem dX2_mirrored_23 : decode cX2_mirrored 23 = .ok (.iload_n 3, 1) := by decide +kernel
theorem dX2_mirrored_24 : decode cX2_mirrored 24 = .ok (.aload_n 0, 1) := by decide +kernel
theorem dX2_mirrored_25 : decode cX2_mirrored 25 = .ok (.getfield 33, 3) := by decide +kernel
theorem dX2_mirrored_28 : decode cX2_mirrored 28 = .ok (.if_icmp .ge 82, 3) := by decide +kernel
theorem dX2_mirrored_31 : decode cX2_mirrored 31 = .ok (.iconst 0, 1) := by decide +kernel
theorem dX2_mirrored_32 : decode cX2_mirrored 32 = .ok (.istore 4, 2) := by decide +kernel
theorem dX2_mirrored_34 : decode cX2_mirrored 34 = .ok (.iload 4, 2) := by decide +kernel
theorem dX2_mirrored_36 : decode cX2_mirrored 36 = .ok (.aload_n 0, 1) := by decide +kernel
theorem dX2_mirrored_37 : decode cX2_mirrored 37 = .ok (.getfield 29, 3) := by decide +kernel
theorem dX2_mirrored_40 : decode cX2_mirrored 40 = .ok (.if_icmp .ge 64, 3) := by decide +kernel
theorem dX2_mirrored_43 : decode cX2_mirrored 43 = .ok (.iload_n 2, 1) := by decide +kernel
theorem dX2_mirrored_44 : decode cX2_mirrored 44 = .ok (.ifCond .eq 52, 3) := by decide +kernel
theorem dX2_mirrored_47 : decode cX2_mirrored 47 = .ok (.aload_n 0, 1) := by decide +kernel
theorem dX2_mirrored_48 : decode cX2_mirrored 48 = .ok (.iload 4, 2) := by decide +kernel
theorem dX2_mirrored_50 : decode cX2_mirrored 50 = .ok (.iload_n 3, 1) := by decide +kernel
theorem dX2_mirrored_51 : decode cX2_mirrored 51 = .ok (.invokevirtual 90, 3) := by decide +kernel
theorem dX2_mirrored_54 : decode cX2_mirrored 54 = .ok (.iload_n 1, 1) := by decide +kernel
theorem dX2_mirrored_55 : decode cX2_mirrored 55 = .ok (.ifCond .ne 20, 3) := by decide +kernel
theorem dX2_mirrored_58 : decode cX2_mirrored 58 = .ok (.aload_n 0, 1) := by decide +kernel
theorem dX2_mirrored_59 : decode cX2_mirrored 59 = .ok (.aload_n 0, 1) := by decide +kernel
theorem dX2_mirrored_60 : decode cX2_mirrored 60 = .ok (.getfield 29, 3) := by decide +kernel
theorem dX2_mirrored_63 : decode cX2_mirrored 63 = .ok (.iconst 1, 1) := by decide +kernel
theorem dX2_mirrored_64 : decode cX2_mirrored 64 = .ok (.isub, 1) := by decide +kernel
theorem dX2_mirrored_65 : decode cX2_mirrored 65 = .ok (.iload 4, 2) := by decide +kernel
theorem dX2_mirrored_67 : decode cX2_mirrored 67 = .ok (.isub, 1) := by decide +kernel
theorem dX2_mirrored_68 : decode cX2_mirrored 68 = .ok (.iload_n 3, 1) := by decide +kernel
theorem dX2_mirrored_69 : decode cX2_mirrored 69 = .ok (.invokevirtual 90, 3) := by decide +kernel
theorem dX2_mirrored_72 : decode cX2_mirrored 72 = .ok (.goto 17, 3) := by decide +kernel
theorem dX2_mirrored_75 : decode cX2_mirrored 75 = .ok (.aload_n 0, 1) := by decide +kernel
theorem dX2_mirrored_76 : decode cX2_mirrored 76 = .ok (.iload 4, 2) := by decide +kernel
theorem dX2_mirrored_78 : decode cX2_mirrored 78 = .ok (.aload_n 0, 1) := by decide +kernel
theorem dX2_mirrored_79 : decode cX2_mirrored 79 = .ok (.getfield 33, 3) := by decide +kernel
theorem dX2_mirrored_82 : decode cX2_mirrored 82 = .ok (.iconst 1, 1) := by decide +kernel
theorem dX2_mirrored_83 : decode cX2_mirrored 83 = .ok (.isub, 1) := by decide +kernel
theorem dX2_mirrored_84 : decode cX2_mirrored 84 = .ok (.iload_n 3, 1) := by decide +kernel
theorem dX2_mirrored_85 : decode cX2_mirrored 85 = .ok (.isub, 1) := by decide +kernel
theorem dX2_mirrored_86 : decode cX2_mirrored 86 = .ok (.invokevirtual 90, 3) := by decide +kernel
theorem dX2_mirrored_89 : decode cX2_mirrored 89 = .ok (.if_icmp .ne 7, 3) := by decide +kernel
theorem dX2_mirrored_92 : decode cX2_mirrored 92 = .ok (.iconst 1, 1) := by decide +kernel
theorem dX2_mirrored_93 : decode cX2_mirrored 93 = .ok (.goto 4, 3) := by decide +kernel
theorem dX2_mirrored_96 : decode cX2_mirrored 96 = .ok (.iconst 0, 1) := by decide +kernel
theorem dX2_mirrored_97 : decode cX2_mirrored 97 = .ok (.istore_n 2, 1) := by decide +kernel
theorem dX2_mirrored_98 : decode cX2_mirrored 98 = .ok (.iinc 4 1, 3) := by decide +kernel
theorem dX2_mirrored_101 : decode cX2_mirrored 101 = .ok (.goto (-67), 3) := by decide +kernel
theorem dX2_mirrored_104 : decode cX2_mirrored 104 = .ok (.iinc 3 1, 3) := by decide +kernel
theorem dX2_mirrored_107 : decode cX2_mirrored 107 = .ok (.goto (-84), 3) := by decide +kernel
theorem dX2_mirrored_110 : decode cX2_mirrored 110 = .ok (.iload_n 2, 1) := by decide +kernel
theorem dX2_mirrored_111 : decode cX2_mirrored 111 = .ok (.ireturn, 1) := by decide +kernel
set_option maxRecDepth 20000 in
theorem ggX2_joint_X2_may : GoodIn wsX2_joint wsX2_may := goodIn_r _ [8, 9, 59, 60, 61, 62, 63, 64, 65, 66, 67, 68, 69, 70, 71, 72, 73] (by decide +kernel) (by decide +kernel)
set_option maxRecDepth 20000 in
theorem gX2_joint_X2_may : GoodIn wsX2_joint (wsV RX2 47 RX2 yX2_may wsX2_may) := goodIn_app (goodIn_of _ (by decide +kernel)) ggX2_joint_X2_may
set_option maxRecDepth 20000 in
theorem ggX2_joint_X2_heat : GoodIn wsX2_joint wsX2_heat := goodIn_r _ [13, 14, 15, 16, 7, 17, 18, 19, 20, 21, 22, 23, 24, 25, 26, 27, 28, 29, 30, 31, 32, 33, 34, 35, 36, 37, 38, 39, 40, 41, 42, 43, 44, 45, 46, 47, 48, 49, 50, 51, 52, 53, 54, 55, 56, 57, 58, 59, 60, 61, 62, 63, 64, 65, 66, 67, 68, 69, 70, 71, 72, 73] (by decide +kernel) (by decide +kernel)
set_option maxRecDepth 20000 in
theorem gX2_joint_X2_heat : GoodIn wsX2_joint (wsV RX2 97 RX2 yX2_heat wsX2_heat) := goodIn_app (goodIn_of _ (by decide +kernel)) ggX2_joint_X2_heat
theorem dX2_joint_0 : decode cX2_joint 0 = .ok (.aload_n 0, 1) := by decide +kernel
theorem dX2_joint_1 : decode cX2_joint 1 = .ok (.aload_n 0, 1) := by decide +kernel
theorem dX2_joint_2 : decode cX2_joint 2 = .ok (.getfield 108, 3) := by decide +kernel
theorem dX2_joint_5 : decode cX2_joint 5 = .ok (.bipush 10, 2) := by decide +kernel
theorem dX2_joint_7 : decode cX2_joint 7 = .ok (.if_icmp .ge 7, 3) := by decide +kernel
theorem dX2_joint_10 : decode cX2_joint 10 = .ok (.iconst 1, 1) := by decide +kernel
theorem dX2_joint_11 : decode cX2_joint 11 = .ok (.goto 4, 3) := by decide +kernel
theorem dX2_joint_14 : decode cX2_joint 14 = .ok (.iconst 0, 1) := by decide +kernel
theorem dX2_joint_15 : decode cX2_joint 15 = .ok (.invokevirtual 47, 3) := by decide +kernel
theorem dX2_joint_18 : decode cX2_joint 18 = .ok (.ifCond .ne 5, 3) := by decide +kernel
theorem dX2_joint_21 : decode cX2_joint 21 = .ok (.iconst 0, 1) := by decide +kernel
theorem dX2_joint_22 : decode cX2_joint 22 = .ok (.ireturn, 1) := by decide +kernel
theorem dX2_joint_23 : decode cX2_joint 23 = .ok (.aload_n 0, 1) := by decide +kernel
theorem dX2_joint_24 : decode cX2_joint 24 = .ok (.getfield 22, 3) := by decide +kernel
theorem dX2_joint_27 : decode cX2_joint 27 = .ok (.aload_n 0, 1) := by decide +kernel
theorem dX2_joint_28 : decode cX2_joint 28 = .ok (.getfield 108, 3) := by decide +kernel
theorem dX2_joint_31 : decode cX2_joint 31 = .ok (.aload_n 0, 1) := by decide +kernel
theorem dX2_joint_32 : decode cX2_joint 32 = .ok (.invokevirtual 97, 3) := by decide +kernel
theorem dX2_joint_35 : decode cX2_joint 35 = .ok (.lastore, 1) := by decide +kernel
theorem dX2_joint_36 : decode cX2_joint 36 = .ok (.aload_n 0, 1) := by decide +kernel
theorem dX2_joint_37 : decode cX2_joint 37 = .ok (.getfield 26, 3) := by decide +kernel
theorem dX2_joint_40 : decode cX2_joint 40 = .ok (.aload_n 0, 1) := by decide +kernel
theorem dX2_joint_41 : decode cX2_joint 41 = .ok (.getfield 108, 3) := by decide +kernel
theorem dX2_joint_44 : decode cX2_joint 44 = .ok (.iconst 0, 1) := by decide +kernel
theorem dX2_joint_45 : decode cX2_joint 45 = .ok (.iastore, 1) := by decide +kernel
theorem dX2_joint_46 : decode cX2_joint 46 = .ok (.aload_n 0, 1) := by decide +kernel
theorem dX2_joint_47 : decode cX2_joint 47 = .ok (.dup, 1) := by decide +kernel
theorem dX2_joint_48 : decode cX2_joint 48 = .ok (.getfield 108, 3) := by decide +kernel
theorem dX2_joint_51 : decode cX2_joint 51 = .ok (.iconst 1, 1) := by decide +kernel
theorem dX2_joint_52 : decode cX2_joint 52 = .ok (.iadd, 1) := by decide +kernel
theorem dX2_joint_53 : decode cX2_joint 53 = .ok (.putfield 108, 3) := by decide +kernel
theorem dX2_joint_56 : decode cX2_joint 56 = .ok (.aload_n 0, 1) := by decide +kernel
theorem dX2_joint_57 : decode cX2_joint 57 = .ok (.getfield 108, 3) := by decide +kernel
theorem dX2_joint_60 : decode cX2_joint 60 = .ok (.iconst 1, 1) := by decide +kernel
theorem dX2_joint_61 : decode cX2_joint 61 = .ok (.isub, 1) := by decide +kernel
theorem dX2_joint_62 : decode cX2_joint 62 = .ok (.ireturn, 1) := by decide +kernel
set_option maxRecDepth 20000 in
theorem ggX2_length_X2_in : GoodIn wsX2_length wsX2_in := goodIn_r _ [6] (by decide +kernel) (by decide +kernel)
set_option maxRecDepth 20000 in
theorem gX2_length_X2_in : GoodIn wsX2_length (va_wsS RX2 39 yX2_in wsX2_in) := goodIn_app (goodIn_of _ (by decide +kernel)) ggX2_length_X2_in
set_option maxRecDepth 20000 in
theorem ggX2_length_X2_may : GoodIn wsX2_length wsX2_may := goodIn_r _ [10, 11, 12, 13, 14, 15, 16, 17, 18, 19, 20, 21, 22, 23, 24, 25, 26] (by decide +kernel) (by decide +kernel)
set_option maxRecDepth 20000 in
theorem gX2_length_X2_may : GoodIn wsX2_length (wsV RX2 47 RX2 yX2_may wsX2_may) := goodIn_app (goodIn_of _ (by decide +kernel)) ggX2_length_X2_may
theorem dX2_length_0 : decode cX2_length 0 = .ok (.aload_n 0, 1) := by decide +kernel
theorem dX2_length_1 : decode cX2_length 1 = .ok (.iload_n 1, 1) := by decide +kernel
theorem dX2_length_2 : decode cX2_length 2 = .ok (.iconst 0, 1) := by decide +kernel
theorem dX2_length_3 : decode cX2_length 3 = .ok (.aload_n 0, 1) := by decide +kernel
theorem dX2_length_4 : decode cX2_length 4 = .ok (.getfield 108, 3) := by decide +kernel
theorem dX2_length_7 : decode cX2_length 7 = .ok (.iconst 1, 1) := by decide +kernel
theorem dX2_length_8 : decode cX2_length 8 = .ok (.isub, 1) := by decide +kernel
theorem dX2_length_9 : decode cX2_length 9 = .ok (.invokestatic 39, 3) := by decide +kernel
theorem dX2_length_12 : decode cX2_length 12 = .ok (.ifCond .eq 18, 3) := by decide +kernel
theorem dX2_length_15 : decode cX2_length 15 = .ok (.iload_n 2, 1) := by decide +kernel
theorem dX2_length_16 : decode cX2_length 16 = .ok (.iconst 0, 1) := by decide +kernel
theorem dX2_length_17 : decode cX2_length 17 = .ok (.sipush 1000, 3) := by decide +kernel
theorem dX2_length_20 : decode cX2_length 20 = .ok (.invokestatic 39, 3) := by decide +kernel
theorem dX2_length_23 : decode cX2_length 23 = .ok (.ifCond .eq 7, 3) := by decide +kernel
theorem dX2_length_26 : decode cX2_length 26 = .ok (.iconst 1, 1) := by decide +kernel
theorem dX2_length_27 : decode cX2_length 27 = .ok (.goto 4, 3) := by decide +kernel
theorem dX2_length_30 : decode cX2_length 30 = .ok (.iconst 0, 1) := by decide +kernel
theorem dX2_length_31 : decode cX2_length 31 = .ok (.invokevirtual 47, 3) := by decide +kernel
theorem dX2_length_34 : decode cX2_length 34 = .ok (.ifCond .ne 5, 3) := by decide +kernel
theorem dX2_length_37 : decode cX2_length 37 = .ok (.iconst 0, 1) := by decide +kernel
theorem dX2_length_38 : decode cX2_length 38 = .ok (.ireturn, 1) := by decide +kernel
theorem dX2_length_39 : decode cX2_length 39 = .ok (.aload_n 0, 1) := by decide +kernel
theorem dX2_length_40 : decode cX2_length 40 = .ok (.getfield 26, 3) := by decide +kernel
theorem dX2_length_43 : decode cX2_length 43 = .ok (.iload_n 1, 1) := by decide +kernel
theorem dX2_length_44 : decode cX2_length 44 = .ok (.iaload, 1) := by decide +kernel
theorem dX2_length_45 : decode cX2_length 45 = .ok (.istore_n 3, 1) := by decide +kernel
theorem dX2_length_46 : decode cX2_length 46 = .ok (.aload_n 0, 1) := by decide +kernel
theorem dX2_length_47 : decode cX2_length 47 = .ok (.getfield 26, 3) := by decide +kernel
theorem dX2_length_50 : decode cX2_length 50 = .ok (.iload_n 1, 1) := by decide +kernel
theorem dX2_length_51 : decode cX2_length 51 = .ok (.iload_n 2, 1) := by decide +kernel
theorem dX2_length_52 : decode cX2_length 52 = .ok (.iastore, 1) := by decide +kernel
theorem dX2_length_53 : decode cX2_length 53 = .ok (.iload_n 3, 1) := by decide +kernel
theorem dX2_length_54 : decode cX2_length 54 = .ok (.ireturn, 1) := by decide +kernel
set_option maxRecDepth 20000 in
theorem ggX2_differs_X2_in : GoodIn wsX2_differs wsX2_in := goodIn_r _ [6] (by decide +kernel) (by decide +kernel)
set_option maxRecDepth 20000 in
theorem gX2_differs_X2_in : GoodIn wsX2_differs (va_wsS RX2 39 yX2_in wsX2_in) := goodIn_app (goodIn_of _ (by decide +kernel)) ggX2_differs_X2_in
set_option maxRecDepth 20000 in
theorem ggX2_differs_X2_may : GoodIn wsX2_differs wsX2_may := goodIn_r _ [10, 11, 58, 59, 60, 61, 62, 63, 64, 65, 66, 67, 68, 69, 70, 71, 72] (by decide +kernel) (by decide +kernel)
set_option maxRecDepth 20000 in
theorem gX2_differs_X2_may : GoodIn wsX2_differs (wsV RX2 47 RX2 yX2_may wsX2_may) := goodIn_app (goodIn_of _ (by decide +kernel)) ggX2_differs_X2_may
set_option maxRecDepth 20000 in
theorem ggX2_differs_X2_heat : GoodIn wsX2_differs wsX2_heat := goodIn_r _ [15, 16, 17, 18, 5, 19, 20, 21, 22, 23, 24, 25, 26, 27, 28, 29, 30, 31, 32, 33, 34, 35, 36, 37, 38, 39, 40, 41, 42, 43, 44, 45, 46, 3, 4, 6, 47, 48, 49, 50, 51, 52, 53, 54, 55, 56, 57, 58, 59, 60, 61, 62, 63, 64, 65, 66, 67, 68, 69, 70, 71, 72] (by decide +kernel) (by decide +kernel)
set_option maxRecDepth 20000 in
theorem gX2_differs_X2_heat : GoodIn wsX2_differs (wsV RX2 97 RX2 yX2_heat wsX2_heat) := goodIn_app (goodIn_of _ (by decide +kernel)) ggX2_differs_X2_heat
theorem dX2_differs_0 : decode cX2_differs 0 = .ok (.aload_n 0, 1) := by decide +kernel
theorem dX2_differs_1 : decode cX2_differs 1 = .ok (.iload_n 1, 1) := by decide +kernel
theorem dX2_differs_2 : decode cX2_differs 2 = .ok (.iconst 0, 1) := by decide +kernel
theorem dX2_differs_3 : decode cX2_differs 3 = .ok (.aload_n 0, 1) := by decide +kernel
theorem dX2_differs_4 : decode cX2_differs 4 = .ok (.getfield 108, 3) := by decide +kernel
theorem dX2_differs_7 : decode cX2_differs 7 = .ok (.iconst 1, 1) := by decide +kernel
theorem dX2_differs_8 : decode cX2_differs 8 = .ok (.isub, 1) := by decide +kernel
theorem dX2_differs_9 : decode cX2_differs 9 = .ok (.invokestatic 39, 3) := by decide +kernel
theorem dX2_differs_12 : decode cX2_differs 12 = .ok (.invokevirtual 47, 3) := by decide +kernel
theorem dX2_differs_15 : decode cX2_differs 15 = .ok (.ifCond .eq 17, 3) := by decide +kernel
theorem dX2_differs_18 : decode cX2_differs 18 = .ok (.aload_n 0, 1) := by decide +kernel
theorem dX2_differs_19 : decode cX2_differs 19 = .ok (.invokevirtual 97, 3) := by decide +kernel
theorem dX2_differs_22 : decode cX2_differs 22 = .ok (.aload_n 0, 1) := by decide +kernel
theorem dX2_differs_23 : decode cX2_differs 23 = .ok (.getfield 22, 3) := by decide +kernel
theorem dX2_differs_26 : decode cX2_differs 26 = .ok (.iload_n 1, 1) := by decide +kernel
theorem dX2_differs_27 : decode cX2_differs 27 = .ok (.laload, 1) := by decide +kernel
theorem dX2_differs_28 : decode cX2_differs 28 = .ok (.lsub, 1) := by decide +kernel
theorem dX2_differs_29 : decode cX2_differs 29 = .ok (.goto 4, 3) := by decide +kernel
theorem dX2_differs_32 : decode cX2_differs 32 = .ok (.lconst 0, 1) := by decide +kernel
theorem dX2_differs_33 : decode cX2_differs 33 = .ok (.lreturn, 1) := by decide +kernel
theorem dX2_sum_0 : decode cX2_sum 0 = .ok (.aload_n 0, 1) := by decide +kernel
theorem dX2_sum_1 : decode cX2_sum 1 = .ok (.iconst 0, 1) := by decide +kernel
theorem dX2_sum_2 : decode cX2_sum 2 = .ok (.putfield 36, 3) := by decide +kernel
theorem dX2_sum_5 : decode cX2_sum 5 = .ok (.lconst 0, 1) := by decide +kernel
theorem dX2_sum_6 : decode cX2_sum 6 = .ok (.lstore_n 1, 1) := by decide +kernel
theorem dX2_sum_7 : decode cX2_sum 7 = .ok (.iconst 0, 1) := by decide +kernel
theorem dX2_sum_8 : decode cX2_sum 8 = .ok (.istore_n 3, 1) := by decide +kernel
theorem dX2_sum_9 : decode cX2_sum 9 = .ok (.iload_n 3, 1) := by decide +kernel
theorem dX2_sum_10 : decode cX2_sum 10 = .ok (.aload_n 0, 1) := by decide +kernel
theorem dX2_sum_11 : decode cX2_sum 11 = .ok (.getfield 108, 3) := by decide +kernel
theorem dX2_sum_14 : decode cX2_sum 14 = .ok (.if_icmp .ge 26, 3) := by decide +kernel
theorem dX2_sum_17 : decode cX2_sum 17 = .ok (.lload_n 1, 1) := by decide +kernel
theorem dX2_sum_18 : decode cX2_sum 18 = .ok (.aload_n 0, 1) := by decide +kernel
theorem dX2_sum_19 : decode cX2_sum 19 = .ok (.getfield 22, 3) := by decide +kernel
theorem dX2_sum_22 : decode cX2_sum 22 = .ok (.iload_n 3, 1) := by decide +kernel
theorem dX2_sum_23 : decode cX2_sum 23 = .ok (.laload, 1) := by decide +kernel
theorem dX2_sum_24 : decode cX2_sum 24 = .ok (.aload_n 0, 1) := by decide +kernel
theorem dX2_sum_25 : decode cX2_sum 25 = .ok (.getfield 26, 3) := by decide +kernel
theorem dX2_sum_28 : decode cX2_sum 28 = .ok (.iload_n 3, 1) := by decide +kernel
theorem dX2_sum_29 : decode cX2_sum 29 = .ok (.iaload, 1) := by decide +kernel
theorem dX2_sum_30 : decode cX2_sum 30 = .ok (.i2l, 1) := by decide +kernel
theorem dX2_sum_31 : decode cX2_sum 31 = .ok (.lmul, 1) := by decide +kernel
theorem dX2_sum_32 : decode cX2_sum 32 = .ok (.ladd, 1) := by decide +kernel
theorem dX2_sum_33 : decode cX2_sum 33 = .ok (.lstore_n 1, 1) := by decide +kernel
theorem dX2_sum_34 : decode cX2_sum 34 = .ok (.iinc 3 1, 3) := by decide +kernel
theorem dX2_sum_37 : decode cX2_sum 37 = .ok (.goto (-28), 3) := by decide +kernel
theorem dX2_sum_40 : decode cX2_sum 40 = .ok (.lload_n 1, 1) := by decide +kernel
theorem dX2_sum_41 : decode cX2_sum 41 = .ok (.lreturn, 1) := by decide +kernel
end
section
theorem dL_cell_0 : decode cL_cell 0 = .ok (.iload_n 1, 1) := by decide +kernel
theorem dL_cell_1 : decode cL_cell 1 = .ok (.aload_n 0, 1) := by decide +kernel
theorem dL_cell_2 : decode cL_cell 2 = .ok (.arraylength, 1) := by decide +kernel
theorem dL_cell_3 : decode cL_cell 3 = .ok (.if_icmp .ge 9, 3) := by decide +kernel
theorem dL_cell_6 : decode cL_cell 6 = .ok (.aload_n 0, 1) := by decide +kernel
theorem dL_cell_7 : decode cL_cell 7 = .ok (.iload_n 1, 1) := by decide +kernel
theorem dL_cell_8 : decode cL_cell 8 = .ok (.iaload, 1) := by decide +kernel
theorem dL_cell_9 : decode cL_cell 9 = .ok (.goto 4, 3) := by decide +kernel
theorem dL_cell_12 : decode cL_cell 12 = .ok (.iconst 0, 1) := by decide +kernel
theorem dL_cell_13 : decode cL_cell 13 = .ok (.ireturn, 1) := by decide +kernel
set_option maxRecDepth 20000 in
theorem ggL_box_X1_box : GoodIn wsL_box wsX1_box := goodIn_ca (goodIn_r _ [6, 7, 8, 9, 10, 11, 12, 13, 14, 15, 16, 17, 18, 5, 19, 20, 21, 22, 23, 24, 25, 26, 27, 28, 29, 30, 31, 32, 33, 34, 35, 36, 37, 38, 39, 40, 41, 42, 43, 44, 45, 46, 47, 48, 49, 50, 51, 52, 53, 54, 55, 56] (by decide +kernel) (by decide +kernel)) (goodIn_sub (fun _ h => List.mem_cons_of_mem _ (List.mem_append_right _ h)) (by decide +kernel))
set_option maxRecDepth 20000 in
theorem gL_box_X1_box : GoodIn wsL_box (wsV RL 7 RX1 yX1_box wsX1_box) := goodIn_app (goodIn_of _ (by decide +kernel)) ggL_box_X1_box
theorem dL_box_0 : decode cL_box 0 = .ok (.aload 6, 2) := by decide +kernel
theorem dL_box_2 : decode cL_box 2 = .ok (.iconst 0, 1) := by decide +kernel
theorem dL_box_3 : decode cL_box 3 = .ok (.aload_n 0, 1) := by decide +kernel
theorem dL_box_4 : decode cL_box 4 = .ok (.iload_n 1, 1) := by decide +kernel
theorem dL_box_5 : decode cL_box 5 = .ok (.iload_n 2, 1) := by decide +kernel
theorem dL_box_6 : decode cL_box 6 = .ok (.iload_n 3, 1) := by decide +kernel
theorem dL_box_7 : decode cL_box 7 = .ok (.iload 4, 2) := by decide +kernel
theorem dL_box_9 : decode cL_box 9 = .ok (.iload 5, 2) := by decide +kernel
theorem dL_box_11 : decode cL_box 11 = .ok (.invokevirtual 7, 3) := by decide +kernel
theorem dL_box_14 : decode cL_box 14 = .ok (.i2l, 1) := by decide +kernel
theorem dL_box_15 : decode cL_box 15 = .ok (.lastore, 1) := by decide +kernel
theorem dL_box_16 : decode cL_box 16 = .ok (.goto 7, 3) := by decide +kernel
theorem dL_box_19 : decode cL_box 19 = .ok (.astore 7, 2) := by decide +kernel
theorem dL_box_21 : decode cL_box 21 = .ok (.iconst 1, 1) := by decide +kernel
theorem dL_box_22 : decode cL_box 22 = .ok (.ireturn, 1) := by decide +kernel
theorem dL_box_23 : decode cL_box 23 = .ok (.iconst 0, 1) := by decide +kernel
theorem dL_box_24 : decode cL_box 24 = .ok (.ireturn, 1) := by decide +kernel
set_option maxRecDepth 20000 in
theorem ggL_side_X1_side : GoodIn wsL_side wsX1_side := goodIn_ca (goodIn_r _ [6, 7, 8, 9, 10, 11, 5, 12, 13, 14, 15, 16, 17, 18, 19, 20, 21, 22, 23, 24, 25, 26, 27, 28, 29, 30, 31, 32, 33, 34, 35, 36, 37, 38, 39, 40, 41, 42, 43, 44, 45, 46, 47, 48, 49, 50, 51, 52, 53, 54, 55, 56, 57, 58, 59, 60, 61, 62] (by decide +kernel) (by decide +kernel)) (goodIn_sub (fun _ h => List.mem_cons_of_mem _ (List.mem_append_right _ h)) (by decide +kernel))
set_option maxRecDepth 20000 in
theorem gL_side_X1_side : GoodIn wsL_side (wsV RL 15 RX1 yX1_side wsX1_side) := goodIn_app (goodIn_of _ (by decide +kernel)) ggL_side_X1_side
theorem dL_side_0 : decode cL_side 0 = .ok (.aload 4, 2) := by decide +kernel
theorem dL_side_2 : decode cL_side 2 = .ok (.iconst 0, 1) := by decide +kernel
theorem dL_side_3 : decode cL_side 3 = .ok (.aload_n 0, 1) := by decide +kernel
theorem dL_side_4 : decode cL_side 4 = .ok (.iload_n 1, 1) := by decide +kernel
theorem dL_side_5 : decode cL_side 5 = .ok (.iload_n 2, 1) := by decide +kernel
theorem dL_side_6 : decode cL_side 6 = .ok (.iload_n 3, 1) := by decide +kernel
theorem dL_side_7 : decode cL_side 7 = .ok (.invokevirtual 15, 3) := by decide +kernel
theorem dL_side_10 : decode cL_side 10 = .ok (.i2l, 1) := by decide +kernel
theorem dL_side_11 : decode cL_side 11 = .ok (.lastore, 1) := by decide +kernel
theorem dL_side_12 : decode cL_side 12 = .ok (.goto 7, 3) := by decide +kernel
theorem dL_side_15 : decode cL_side 15 = .ok (.astore 5, 2) := by decide +kernel
theorem dL_side_17 : decode cL_side 17 = .ok (.iconst 1, 1) := by decide +kernel
theorem dL_side_18 : decode cL_side 18 = .ok (.ireturn, 1) := by decide +kernel
theorem dL_side_19 : decode cL_side 19 = .ok (.iconst 0, 1) := by decide +kernel
theorem dL_side_20 : decode cL_side 20 = .ok (.ireturn, 1) := by decide +kernel
set_option maxRecDepth 20000 in
theorem ggL_leads_X1_leads : GoodIn wsL_leads wsX1_leads := goodIn_ca (goodIn_r _ [6, 7, 8, 9, 10, 11, 12, 13, 14, 15, 16, 17, 18, 19, 20, 21, 22, 23, 24, 25, 26, 27, 28, 29, 30, 31, 32, 33, 34, 35, 36, 37, 38, 39, 40, 41, 42, 43, 44] (by decide +kernel) (by decide +kernel)) (goodIn_sub (fun _ h => List.mem_cons_of_mem _ (List.mem_append_right _ h)) (by decide +kernel))
set_option maxRecDepth 20000 in
theorem gL_leads_X1_leads : GoodIn wsL_leads (wsV RL 19 RX1 yX1_leads wsX1_leads) := goodIn_app (goodIn_of _ (by decide +kernel)) ggL_leads_X1_leads
theorem dL_leads_0 : decode cL_leads 0 = .ok (.aload_n 3, 1) := by decide +kernel
theorem dL_leads_1 : decode cL_leads 1 = .ok (.iconst 0, 1) := by decide +kernel
theorem dL_leads_2 : decode cL_leads 2 = .ok (.aload_n 0, 1) := by decide +kernel
theorem dL_leads_3 : decode cL_leads 3 = .ok (.iload_n 1, 1) := by decide +kernel
theorem dL_leads_4 : decode cL_leads 4 = .ok (.iload_n 2, 1) := by decide +kernel
theorem dL_leads_5 : decode cL_leads 5 = .ok (.invokevirtual 19, 3) := by decide +kernel
theorem dL_leads_8 : decode cL_leads 8 = .ok (.i2l, 1) := by decide +kernel
theorem dL_leads_9 : decode cL_leads 9 = .ok (.lastore, 1) := by decide +kernel
theorem dL_leads_10 : decode cL_leads 10 = .ok (.goto 7, 3) := by decide +kernel
theorem dL_leads_13 : decode cL_leads 13 = .ok (.astore 4, 2) := by decide +kernel
theorem dL_leads_15 : decode cL_leads 15 = .ok (.iconst 1, 1) := by decide +kernel
theorem dL_leads_16 : decode cL_leads 16 = .ok (.ireturn, 1) := by decide +kernel
theorem dL_leads_17 : decode cL_leads 17 = .ok (.iconst 0, 1) := by decide +kernel
theorem dL_leads_18 : decode cL_leads 18 = .ok (.ireturn, 1) := by decide +kernel
set_option maxRecDepth 20000 in
theorem ggL_warmth_X1_warmth : GoodIn wsL_warmth wsX1_warmth := goodIn_ca (goodIn_r _ [6, 7, 8, 9, 10, 11, 12, 13, 14, 15, 16, 17, 18, 19, 20, 21, 22, 23, 24, 25, 26, 27, 28, 29, 30, 31, 32, 33, 34, 35, 36, 37, 38, 39, 40, 41, 42, 43, 44, 45, 46, 47, 48, 49, 50, 51, 52, 53, 54, 55, 56, 57, 58, 59, 60, 61, 62, 63, 64, 65, 66, 67, 68, 69, 70, 71, 72, 73, 74, 75, 76, 77, 78, 79, 80, 81, 82, 83, 84, 85, 86, 87, 88, 89, 90, 91, 92, 93] (by decide +kernel) (by decide +kernel)) (goodIn_sub (fun _ h => List.mem_cons_of_mem _ (List.mem_append_right _ h)) (by decide +kernel))
set_option maxRecDepth 20000 in
theorem gL_warmth_X1_warmth : GoodIn wsL_warmth (wsV RL 23 RX1 yX1_warmth wsX1_warmth) := goodIn_app (goodIn_of _ (by decide +kernel)) ggL_warmth_X1_warmth
theorem dL_warmth_0 : decode cL_warmth 0 = .ok (.aload_n 3, 1) := by decide +kernel
theorem dL_warmth_1 : decode cL_warmth 1 = .ok (.iconst 0, 1) := by decide +kernel
theorem dL_warmth_2 : decode cL_warmth 2 = .ok (.aload_n 0, 1) := by decide +kernel
theorem dL_warmth_3 : decode cL_warmth 3 = .ok (.iload_n 1, 1) := by decide +kernel
theorem dL_warmth_4 : decode cL_warmth 4 = .ok (.iload_n 2, 1) := by decide +kernel
theorem dL_warmth_5 : decode cL_warmth 5 = .ok (.invokevirtual 23, 3) := by decide +kernel
theorem dL_warmth_8 : decode cL_warmth 8 = .ok (.i2l, 1) := by decide +kernel
theorem dL_warmth_9 : decode cL_warmth 9 = .ok (.lastore, 1) := by decide +kernel
theorem dL_warmth_10 : decode cL_warmth 10 = .ok (.goto 7, 3) := by decide +kernel
theorem dL_warmth_13 : decode cL_warmth 13 = .ok (.astore 4, 2) := by decide +kernel
theorem dL_warmth_15 : decode cL_warmth 15 = .ok (.iconst 1, 1) := by decide +kernel
theorem dL_warmth_16 : decode cL_warmth 16 = .ok (.ireturn, 1) := by decide +kernel
theorem dL_warmth_17 : decode cL_warmth 17 = .ok (.iconst 0, 1) := by decide +kernel
theorem dL_warmth_18 : decode cL_warmth 18 = .ok (.ireturn, 1) := by decide +kernel
set_option maxRecDepth 20000 in
theorem ggL_flow_X1_flow : GoodIn wsL_flow wsX1_flow := goodIn_ca (goodIn_r _ [6, 7, 8, 9, 10, 11, 5, 12, 13, 14, 15, 16, 17, 18, 19, 20, 21, 22, 23, 24, 25, 26, 27, 28, 29, 30, 31, 32, 33, 34, 35, 36, 37, 38, 39, 40, 41, 42, 43, 44, 45, 46, 47, 48, 49, 50, 51, 52, 53, 54, 55, 56, 57, 58, 59, 60, 61, 62, 63, 64, 65, 66, 67, 68, 69, 70, 71, 72, 73, 74, 75, 76, 77, 78, 79, 80, 81, 82, 83, 84, 85, 86, 87, 88, 89, 90, 91, 92, 93, 94, 95, 96, 97, 98, 99, 100, 101, 102] (by decide +kernel) (by decide +kernel)) (goodIn_sub (fun _ h => List.mem_cons_of_mem _ (List.mem_append_right _ h)) (by decide +kernel))
set_option maxRecDepth 20000 in
theorem gL_flow_X1_flow : GoodIn wsL_flow (wsV RL 26 RX1 yX1_flow wsX1_flow) := goodIn_app (goodIn_of _ (by decide +kernel)) ggL_flow_X1_flow
theorem dL_flow_0 : decode cL_flow 0 = .ok (.aload_n 2, 1) := by decide +kernel
theorem dL_flow_1 : decode cL_flow 1 = .ok (.iconst 0, 1) := by decide +kernel
theorem dL_flow_2 : decode cL_flow 2 = .ok (.aload_n 0, 1) := by decide +kernel
theorem dL_flow_3 : decode cL_flow 3 = .ok (.iload_n 1, 1) := by decide +kernel
theorem dL_flow_4 : decode cL_flow 4 = .ok (.invokevirtual 26, 3) := by decide +kernel
theorem dL_flow_7 : decode cL_flow 7 = .ok (.lastore, 1) := by decide +kernel
theorem dL_flow_8 : decode cL_flow 8 = .ok (.goto 6, 3) := by decide +kernel
theorem dL_flow_11 : decode cL_flow 11 = .ok (.astore_n 3, 1) := by decide +kernel
theorem dL_flow_12 : decode cL_flow 12 = .ok (.iconst 1, 1) := by decide +kernel
theorem dL_flow_13 : decode cL_flow 13 = .ok (.ireturn, 1) := by decide +kernel
theorem dL_flow_14 : decode cL_flow 14 = .ok (.iconst 0, 1) := by decide +kernel
theorem dL_flow_15 : decode cL_flow 15 = .ok (.ireturn, 1) := by decide +kernel
set_option maxRecDepth 20000 in
theorem ggL_told_X1_told : GoodIn wsL_told wsX1_told := goodIn_ca (goodIn_r _ [6, 7, 8, 9, 10, 11, 5, 12, 13, 14, 15, 16, 17, 18, 19, 20, 21, 22, 23, 24, 25, 26, 27, 28, 29, 30, 31, 32, 33, 34, 35, 36, 37, 38, 39, 40, 41, 42, 43, 44, 45, 46, 47, 48, 49, 50, 51, 52, 53, 54, 55, 56, 57, 58, 59, 60, 61, 62, 63, 64, 65, 66, 67, 68, 69, 70, 71, 72, 73, 74, 75, 76, 77, 78, 79, 80, 81, 82, 83, 84, 85, 86, 87, 88, 89, 90, 91, 92, 93, 94, 95, 96, 97, 98, 99, 100, 101, 102, 103, 104, 105, 106, 107, 108, 109, 110, 111, 112, 113, 114, 115, 116, 117, 118, 119, 120, 121, 122, 123, 124, 125, 126, 127] (by decide +kernel) (by decide +kernel)) (goodIn_sub (fun _ h => List.mem_cons_of_mem _ (List.mem_append_right _ h)) (by decide +kernel))
set_option maxRecDepth 20000 in
theorem gL_told_X1_told : GoodIn wsL_told (wsV RL 30 RX1 yX1_told wsX1_told) := goodIn_app (goodIn_of _ (by decide +kernel)) ggL_told_X1_told
theorem dL_told_0 : decode cL_told 0 = .ok (.aload_n 2, 1) := by decide +kernel
theorem dL_told_1 : decode cL_told 1 = .ok (.iconst 0, 1) := by decide +kernel
theorem dL_told_2 : decode cL_told 2 = .ok (.aload_n 0, 1) := by decide +kernel
theorem dL_told_3 : decode cL_told 3 = .ok (.iload_n 1, 1) := by decide +kernel
theorem dL_told_4 : decode cL_told 4 = .ok (.invokevirtual 30, 3) := by decide +kernel
theorem dL_told_7 : decode cL_told 7 = .ok (.lastore, 1) := by decide +kernel
theorem dL_told_8 : decode cL_told 8 = .ok (.goto 6, 3) := by decide +kernel
theorem dL_told_11 : decode cL_told 11 = .ok (.astore_n 3, 1) := by decide +kernel
theorem dL_told_12 : decode cL_told 12 = .ok (.iconst 1, 1) := by decide +kernel
theorem dL_told_13 : decode cL_told 13 = .ok (.ireturn, 1) := by decide +kernel
theorem dL_told_14 : decode cL_told 14 = .ok (.iconst 0, 1) := by decide +kernel
theorem dL_told_15 : decode cL_told 15 = .ok (.ireturn, 1) := by decide +kernel
set_option maxRecDepth 20000 in
theorem ggL_least_X1_least : GoodIn wsL_least wsX1_least := goodIn_ca (goodIn_r _ [6, 7, 8, 9, 10, 11, 12, 5, 13, 14, 15, 16, 17, 18, 19, 20, 21, 22, 23, 24, 25, 26, 27, 28, 29, 30, 31, 32, 33, 34, 35, 36, 37, 38, 39, 40, 41, 42, 43, 44, 45, 46, 47, 48, 49, 50, 51, 52, 53, 54, 55, 56, 57, 58, 59, 60, 61, 62, 63, 64, 65, 66, 67, 68, 69, 70, 71, 72, 73, 74, 75, 76, 77, 78, 79, 80, 81, 82, 83, 84, 85, 86, 87, 88, 89, 90, 91, 92, 93, 94, 95, 96, 97, 98, 99, 100, 101, 102, 103, 104, 105, 106, 107, 108] (by decide +kernel) (by decide +kernel)) (goodIn_sub (fun _ h => List.mem_cons_of_mem _ (List.mem_append_right _ h)) (by decide +kernel))
set_option maxRecDepth 20000 in
theorem gL_least_X1_least : GoodIn wsL_least (wsV RL 33 RX1 yX1_least wsX1_least) := goodIn_app (goodIn_of _ (by decide +kernel)) ggL_least_X1_least
theorem dL_least_0 : decode cL_least 0 = .ok (.aload_n 3, 1) := by decide +kernel
theorem dL_least_1 : decode cL_least 1 = .ok (.iconst 0, 1) := by decide +kernel
theorem dL_least_2 : decode cL_least 2 = .ok (.aload_n 0, 1) := by decide +kernel
theorem dL_least_3 : decode cL_least 3 = .ok (.iload_n 1, 1) := by decide +kernel
theorem dL_least_4 : decode cL_least 4 = .ok (.iload_n 2, 1) := by decide +kernel
theorem dL_least_5 : decode cL_least 5 = .ok (.invokevirtual 33, 3) := by decide +kernel
theorem dL_least_8 : decode cL_least 8 = .ok (.i2l, 1) := by decide +kernel
theorem dL_least_9 : decode cL_least 9 = .ok (.lastore, 1) := by decide +kernel
theorem dL_least_10 : decode cL_least 10 = .ok (.goto 7, 3) := by decide +kernel
theorem dL_least_13 : decode cL_least 13 = .ok (.astore 4, 2) := by decide +kernel
theorem dL_least_15 : decode cL_least 15 = .ok (.iconst 1, 1) := by decide +kernel
theorem dL_least_16 : decode cL_least 16 = .ok (.ireturn, 1) := by decide +kernel
theorem dL_least_17 : decode cL_least 17 = .ok (.iconst 0, 1) := by decide +kernel
theorem dL_least_18 : decode cL_least 18 = .ok (.ireturn, 1) := by decide +kernel
set_option maxRecDepth 20000 in
theorem ggL_factor_X1_factor : GoodIn wsL_factor wsX1_factor := goodIn_ca (goodIn_r _ [6, 7, 8, 9, 10, 11, 5, 12, 13, 14, 15, 16, 17, 18, 19, 20, 21, 22, 23, 24, 25, 26, 27, 28, 29, 30, 31, 32, 33, 34, 35, 36, 37, 38, 39, 40, 41, 42, 43, 44, 45, 46, 47, 48, 49, 50, 51, 52, 53, 54, 55, 56, 57, 58, 59, 60, 61, 62, 63, 64, 65, 66, 67, 68, 69, 70, 71, 72, 73, 74, 75, 76, 77, 78, 79, 80, 81, 82, 83, 84, 85, 86, 87, 88, 89, 90, 91, 92, 93, 94, 95, 96, 97, 98, 99, 100, 101, 102, 103, 104, 105, 106, 107, 108, 109, 110, 111, 112, 113, 114, 115, 116, 117] (by decide +kernel) (by decide +kernel)) (goodIn_sub (fun _ h => List.mem_cons_of_mem _ (List.mem_append_right _ h)) (by decide +kernel))
set_option maxRecDepth 20000 in
theorem gL_factor_X1_factor : GoodIn wsL_factor (wsV RL 36 RX1 yX1_factor wsX1_factor) := goodIn_app (goodIn_of _ (by decide +kernel)) ggL_factor_X1_factor
theorem dL_factor_0 : decode cL_factor 0 = .ok (.aload_n 3, 1) := by decide +kernel
theorem dL_factor_1 : decode cL_factor 1 = .ok (.iconst 0, 1) := by decide +kernel
theorem dL_factor_2 : decode cL_factor 2 = .ok (.aload_n 0, 1) := by decide +kernel
theorem dL_factor_3 : decode cL_factor 3 = .ok (.iload_n 1, 1) := by decide +kernel
theorem dL_factor_4 : decode cL_factor 4 = .ok (.iload_n 2, 1) := by decide +kernel
theorem dL_factor_5 : decode cL_factor 5 = .ok (.invokevirtual 36, 3) := by decide +kernel
theorem dL_factor_8 : decode cL_factor 8 = .ok (.i2l, 1) := by decide +kernel
theorem dL_factor_9 : decode cL_factor 9 = .ok (.lastore, 1) := by decide +kernel
theorem dL_factor_10 : decode cL_factor 10 = .ok (.goto 7, 3) := by decide +kernel
theorem dL_factor_13 : decode cL_factor 13 = .ok (.astore 4, 2) := by decide +kernel
theorem dL_factor_15 : decode cL_factor 15 = .ok (.iconst 1, 1) := by decide +kernel
theorem dL_factor_16 : decode cL_factor 16 = .ok (.ireturn, 1) := by decide +kernel
theorem dL_factor_17 : decode cL_factor 17 = .ok (.iconst 0, 1) := by decide +kernel
theorem dL_factor_18 : decode cL_factor 18 = .ok (.ireturn, 1) := by decide +kernel
set_option maxRecDepth 20000 in
theorem ggL_colder_X1_colder : GoodIn wsL_colder wsX1_colder := goodIn_ca (goodIn_r _ [6, 7, 8, 9, 10, 11, 5, 12, 13, 14, 15, 16, 17, 18, 19, 20, 21, 22, 23, 24, 25, 26, 27, 28, 29, 30, 31, 32, 33, 34, 35, 36, 37, 38, 39, 40, 41, 42, 43, 44, 45, 46, 47, 48, 49, 50, 51, 52, 53, 54, 55, 56, 57, 58, 59, 60, 61, 62, 63, 64, 65, 66, 67, 68, 69, 70, 71, 72, 73, 74, 75, 76, 77, 78, 79, 80, 81, 82, 83, 84, 85, 86, 87, 88, 89, 90, 91, 92, 93, 94, 95, 96, 97, 98, 99, 100] (by decide +kernel) (by decide +kernel)) (goodIn_sub (fun _ h => List.mem_cons_of_mem _ (List.mem_append_right _ h)) (by decide +kernel))
set_option maxRecDepth 20000 in
theorem gL_colder_X1_colder : GoodIn wsL_colder (wsV RL 39 RX1 yX1_colder wsX1_colder) := goodIn_app (goodIn_of _ (by decide +kernel)) ggL_colder_X1_colder
theorem dL_colder_0 : decode cL_colder 0 = .ok (.aload_n 2, 1) := by decide +kernel
theorem dL_colder_1 : decode cL_colder 1 = .ok (.iconst 0, 1) := by decide +kernel
theorem dL_colder_2 : decode cL_colder 2 = .ok (.aload_n 0, 1) := by decide +kernel
theorem dL_colder_3 : decode cL_colder 3 = .ok (.iload_n 1, 1) := by decide +kernel
theorem dL_colder_4 : decode cL_colder 4 = .ok (.invokevirtual 39, 3) := by decide +kernel
theorem dL_colder_7 : decode cL_colder 7 = .ok (.i2l, 1) := by decide +kernel
theorem dL_colder_8 : decode cL_colder 8 = .ok (.lastore, 1) := by decide +kernel
theorem dL_colder_9 : decode cL_colder 9 = .ok (.goto 6, 3) := by decide +kernel
theorem dL_colder_12 : decode cL_colder 12 = .ok (.astore_n 3, 1) := by decide +kernel
theorem dL_colder_13 : decode cL_colder 13 = .ok (.iconst 1, 1) := by decide +kernel
theorem dL_colder_14 : decode cL_colder 14 = .ok (.ireturn, 1) := by decide +kernel
theorem dL_colder_15 : decode cL_colder 15 = .ok (.iconst 0, 1) := by decide +kernel
theorem dL_colder_16 : decode cL_colder 16 = .ok (.ireturn, 1) := by decide +kernel
set_option maxRecDepth 20000 in
theorem ggL_mirrored_X1_mirrored : GoodIn wsL_mirrored wsX1_mirrored := goodIn_ca (goodIn_r _ [6, 7, 8, 9, 10, 11, 5, 12, 13, 14, 15, 16, 17, 18, 19, 20, 21, 22, 23, 24, 25, 26, 27, 28, 29, 30, 31, 32, 33, 34, 35, 36, 37, 38, 39, 40, 41, 42, 43, 44, 45, 46, 47, 48, 49, 50, 51, 52, 53, 54, 55, 56, 57, 58, 59, 60, 61, 62, 63, 64, 65, 66, 67, 68, 69, 70, 71, 72, 73, 74, 75, 76, 77, 78, 79, 80, 81, 82, 83, 84, 85, 86, 87, 88, 89, 90, 91, 92, 93, 94, 95, 96, 97, 98, 99, 100] (by decide +kernel) (by decide +kernel)) (goodIn_sub (fun _ h => List.mem_cons_of_mem _ (List.mem_append_right _ h)) (by decide +kernel))
set_option maxRecDepth 20000 in
theorem gL_mirrored_X1_mirrored : GoodIn wsL_mirrored (wsV RL 43 RX1 yX1_mirrored wsX1_mirrored) := goodIn_app (goodIn_of _ (by decide +kernel)) ggL_mirrored_X1_mirrored
theorem dL_mirrored_0 : decode cL_mirrored 0 = .ok (.aload_n 2, 1) := by decide +kernel
theorem dL_mirrored_1 : decode cL_mirrored 1 = .ok (.iconst 0, 1) := by decide +kernel
theorem dL_mirrored_2 : decode cL_mirrored 2 = .ok (.aload_n 0, 1) := by decide +kernel
theorem dL_mirrored_3 : decode cL_mirrored 3 = .ok (.iload_n 1, 1) := by decide +kernel
theorem dL_mirrored_4 : decode cL_mirrored 4 = .ok (.invokevirtual 43, 3) := by decide +kernel
theorem dL_mirrored_7 : decode cL_mirrored 7 = .ok (.ifCond .eq 7, 3) := by decide +kernel
theorem dL_mirrored_10 : decode cL_mirrored 10 = .ok (.lconst 1, 1) := by decide +kernel
theorem dL_mirrored_11 : decode cL_mirrored 11 = .ok (.goto 4, 3) := by decide +kernel
theorem dL_mirrored_14 : decode cL_mirrored 14 = .ok (.lconst 0, 1) := by decide +kernel
theorem dL_mirrored_15 : decode cL_mirrored 15 = .ok (.lastore, 1) := by decide +kernel
theorem dL_mirrored_16 : decode cL_mirrored 16 = .ok (.goto 6, 3) := by decide +kernel
theorem dL_mirrored_19 : decode cL_mirrored 19 = .ok (.astore_n 3, 1) := by decide +kernel
theorem dL_mirrored_20 : decode cL_mirrored 20 = .ok (.iconst 1, 1) := by decide +kernel
theorem dL_mirrored_21 : decode cL_mirrored 21 = .ok (.ireturn, 1) := by decide +kernel
theorem dL_mirrored_22 : decode cL_mirrored 22 = .ok (.iconst 0, 1) := by decide +kernel
theorem dL_mirrored_23 : decode cL_mirrored 23 = .ok (.ireturn, 1) := by decide +kernel
set_option maxRecDepth 20000 in
theorem ggL_joint_X1_joint : GoodIn wsL_joint wsX1_joint := goodIn_ca (goodIn_r _ [6, 7, 8, 9, 10, 11, 12, 13, 14, 15, 16, 17, 18, 19, 20, 21, 22, 23, 24, 25, 26, 27, 28, 29, 30, 31, 32, 33, 34, 35, 36, 37, 38, 39, 40, 41, 42, 43, 44, 45, 46, 47, 48, 49, 50, 51, 52, 53, 54, 55, 56, 57, 58, 59, 60, 61, 62, 63, 64, 65, 66, 67, 68, 69, 70, 71, 72, 73, 74, 75, 76, 77, 78, 79, 80, 81, 82, 83, 84, 85, 86, 87, 88, 89, 90, 91, 92, 93, 94, 95, 96, 97, 98, 99, 100, 101, 102, 103, 104, 105, 106] (by decide +kernel) (by decide +kernel)) (goodIn_sub (fun _ h => List.mem_cons_of_mem _ (List.mem_append_right _ h)) (by decide +kernel))
set_option maxRecDepth 20000 in
theorem gL_joint_X1_joint : GoodIn wsL_joint (wsV RL 47 RX1 yX1_joint wsX1_joint) := goodIn_app (goodIn_of _ (by decide +kernel)) ggL_joint_X1_joint
theorem dL_joint_0 : decode cL_joint 0 = .ok (.aload_n 1, 1) := by decide +kernel
theorem dL_joint_1 : decode cL_joint 1 = .ok (.iconst 0, 1) := by decide +kernel
theorem dL_joint_2 : decode cL_joint 2 = .ok (.aload_n 0, 1) := by decide +kernel
theorem dL_joint_3 : decode cL_joint 3 = .ok (.invokevirtual 47, 3) := by decide +kernel
theorem dL_joint_6 : decode cL_joint 6 = .ok (.i2l, 1) := by decide +kernel
theorem dL_joint_7 : decode cL_joint 7 = .ok (.lastore, 1) := by decide +kernel
theorem dL_joint_8 : decode cL_joint 8 = .ok (.goto 6, 3) := by decide +kernel
theorem dL_joint_11 : decode cL_joint 11 = .ok (.astore_n 2, 1) := by decide +kernel
theorem dL_joint_12 : decode cL_joint 12 = .ok (.iconst 1, 1) := by decide +kernel
theorem dL_joint_13 : decode cL_joint 13 = .ok (.ireturn, 1) := by decide +kernel
theorem dL_joint_14 : decode cL_joint 14 = .ok (.iconst 0, 1) := by decide +kernel
theorem dL_joint_15 : decode cL_joint 15 = .ok (.ireturn, 1) := by decide +kernel
set_option maxRecDepth 20000 in
theorem ggL_length_X1_length : GoodIn wsL_length wsX1_length := goodIn_ca (goodIn_r _ [6, 7, 8, 9, 10, 11, 12, 5, 13, 14, 15, 16, 17, 18, 19, 20, 21] (by decide +kernel) (by decide +kernel)) (goodIn_sub (fun _ h => List.mem_cons_of_mem _ (List.mem_append_right _ h)) (by decide +kernel))
set_option maxRecDepth 20000 in
theorem gL_length_X1_length : GoodIn wsL_length (wsV RL 53 RX1 yX1_length wsX1_length) := goodIn_app (goodIn_of _ (by decide +kernel)) ggL_length_X1_length
theorem dL_length_0 : decode cL_length 0 = .ok (.aload_n 3, 1) := by decide +kernel
theorem dL_length_1 : decode cL_length 1 = .ok (.iconst 0, 1) := by decide +kernel
theorem dL_length_2 : decode cL_length 2 = .ok (.aload_n 0, 1) := by decide +kernel
theorem dL_length_3 : decode cL_length 3 = .ok (.iload_n 1, 1) := by decide +kernel
theorem dL_length_4 : decode cL_length 4 = .ok (.iload_n 2, 1) := by decide +kernel
theorem dL_length_5 : decode cL_length 5 = .ok (.invokevirtual 53, 3) := by decide +kernel
theorem dL_length_8 : decode cL_length 8 = .ok (.i2l, 1) := by decide +kernel
theorem dL_length_9 : decode cL_length 9 = .ok (.lastore, 1) := by decide +kernel
theorem dL_length_10 : decode cL_length 10 = .ok (.goto 7, 3) := by decide +kernel
theorem dL_length_13 : decode cL_length 13 = .ok (.astore 4, 2) := by decide +kernel
theorem dL_length_15 : decode cL_length 15 = .ok (.iconst 1, 1) := by decide +kernel
theorem dL_length_16 : decode cL_length 16 = .ok (.ireturn, 1) := by decide +kernel
theorem dL_length_17 : decode cL_length 17 = .ok (.iconst 0, 1) := by decide +kernel
theorem dL_length_18 : decode cL_length 18 = .ok (.ireturn, 1) := by decide +kernel
set_option maxRecDepth 20000 in
theorem ggL_differs_X1_differs : GoodIn wsL_differs wsX1_differs := goodIn_ca (goodIn_r _ [6, 7, 8, 9, 10, 11, 12, 13, 5, 14, 15, 16, 17, 18, 19, 20, 21, 22, 23, 24, 25, 26, 27, 28, 29, 30, 31, 32, 33, 34, 35, 36, 37, 38, 39, 40, 41, 42, 43, 44, 45, 46, 47, 48, 49, 50, 51, 52, 53, 54, 55, 56, 57, 58, 59, 60, 61, 62, 63, 64, 65, 66, 67, 68, 69, 70, 71, 72, 73, 74, 75, 76, 77, 78, 79, 80, 81, 82, 83, 84, 85, 86, 87, 88, 89, 90, 91, 92, 93, 94, 95, 96, 97, 98, 99, 100, 101, 102, 103, 104, 105, 106, 107, 108, 109, 110, 111, 112] (by decide +kernel) (by decide +kernel)) (goodIn_sub (fun _ h => List.mem_cons_of_mem _ (List.mem_append_right _ h)) (by decide +kernel))
set_option maxRecDepth 20000 in
theorem gL_differs_X1_differs : GoodIn wsL_differs (wsV RL 56 RX1 yX1_differs wsX1_differs) := goodIn_app (goodIn_of _ (by decide +kernel)) ggL_differs_X1_differs
theorem dL_differs_0 : decode cL_differs 0 = .ok (.aload_n 2, 1) := by decide +kernel
theorem dL_differs_1 : decode cL_differs 1 = .ok (.iconst 0, 1) := by decide +kernel
theorem dL_differs_2 : decode cL_differs 2 = .ok (.aload_n 0, 1) := by decide +kernel
theorem dL_differs_3 : decode cL_differs 3 = .ok (.iload_n 1, 1) := by decide +kernel
theorem dL_differs_4 : decode cL_differs 4 = .ok (.invokevirtual 56, 3) := by decide +kernel
theorem dL_differs_7 : decode cL_differs 7 = .ok (.lastore, 1) := by decide +kernel
theorem dL_differs_8 : decode cL_differs 8 = .ok (.goto 6, 3) := by decide +kernel
theorem dL_differs_11 : decode cL_differs 11 = .ok (.astore_n 3, 1) := by decide +kernel
theorem dL_differs_12 : decode cL_differs 12 = .ok (.iconst 1, 1) := by decide +kernel
theorem dL_differs_13 : decode cL_differs 13 = .ok (.ireturn, 1) := by decide +kernel
theorem dL_differs_14 : decode cL_differs 14 = .ok (.iconst 0, 1) := by decide +kernel
theorem dL_differs_15 : decode cL_differs 15 = .ok (.ireturn, 1) := by decide +kernel
set_option maxRecDepth 20000 in
theorem ggL_law_L_cell : GoodIn wsL_law wsL_cell := goodIn_r _ [10] (by decide +kernel) (by decide +kernel)
set_option maxRecDepth 20000 in
theorem gL_law_L_cell : GoodIn wsL_law (va_wsS RL 59 yL_cell wsL_cell) := goodIn_app (goodIn_of _ (by decide +kernel)) ggL_law_L_cell
set_option maxRecDepth 20000 in
theorem ggL_law_X1_init : GoodIn wsL_law wsX1_init := goodIn_r _ [13, 14, 15, 16, 6, 17, 18, 19, 20, 21, 22, 23, 24, 25, 26, 27, 28, 29, 30, 31, 32, 33, 34, 35, 36, 37, 38, 39, 40, 41, 42, 43, 44, 45, 46, 47, 48, 49, 428, 429, 430, 431, 447, 448, 449, 450, 451, 452, 453, 454, 455, 456, 457, 458, 459, 460] (by decide +kernel) (by decide +kernel)
set_option maxRecDepth 20000 in
theorem gL_law_X1_init : GoodIn wsL_law (wsX1_init) := ggL_law_X1_init
set_option maxRecDepth 20000 in
theorem ggL_law_X2_init : GoodIn wsL_law wsX2_init := goodIn_r _ [52, 53, 15, 16, 18, 54, 55, 56, 57, 6, 58, 59, 60, 61, 432, 433, 434, 435, 436, 437, 438, 439, 440, 441, 442, 443, 444, 445, 446] (by decide +kernel) (by decide +kernel)
set_option maxRecDepth 20000 in
theorem gL_law_X2_init : GoodIn wsL_law (wsX2_init) := ggL_law_X2_init
set_option maxRecDepth 20000 in
theorem ggL_law_L_box : GoodIn wsL_law wsL_box := goodIn_ca (goodIn_r _ [64, 65, 66, 67, 68, 2, 69, 70, 71, 31, 72, 73, 74, 23, 75, 41, 42, 76, 77, 78, 79, 80, 81, 82, 44, 40, 83, 84, 85, 86, 43, 87, 88, 89, 90, 91, 92, 93, 94, 428, 429, 430, 431, 447, 448, 449, 450, 451, 452, 453, 454, 455, 456, 457, 458, 459, 460] (by decide +kernel) (by decide +kernel)) (goodIn_sub (fun _ h => List.mem_append_left _ (List.mem_append_right _ h)) (by decide +kernel))
set_option maxRecDepth 20000 in
theorem gL_law_L_box : GoodIn wsL_law (va_wsS RL 71 yL_box wsL_box) := goodIn_app (goodIn_of _ (by decide +kernel)) ggL_law_L_box
set_option maxRecDepth 20000 in
theorem ggL_law_X2_box : GoodIn wsL_law wsX2_box := goodIn_r _ [98, 99, 54, 100, 101, 102, 5, 103, 60, 61, 104, 105, 106, 107, 108, 109, 110, 111, 432, 433, 434, 435, 436, 437, 438, 439, 440, 441, 442, 443, 444, 445, 446] (by decide +kernel) (by decide +kernel)
set_option maxRecDepth 20000 in
theorem gL_law_X2_box : GoodIn wsL_law (wsV RL 74 RX2 yX2_box wsX2_box) := goodIn_app (goodIn_of _ (by decide +kernel)) ggL_law_X2_box
set_option maxRecDepth 20000 in
theorem ggL_law_X2_thrown : GoodIn wsL_law wsX2_thrown := goodIn_r _ [115, 111, 432, 433, 434, 435, 436, 437, 438, 439, 440, 441, 442, 443, 444, 445, 446] (by decide +kernel) (by decide +kernel)
set_option maxRecDepth 20000 in
theorem gL_law_X2_thrown : GoodIn wsL_law (wsV RL 75 RX2 yX2_thrown wsX2_thrown) := goodIn_app (goodIn_of _ (by decide +kernel)) ggL_law_X2_thrown
set_option maxRecDepth 20000 in
theorem ggL_law_L_side : GoodIn wsL_law wsL_side := goodIn_ca (goodIn_r _ [118, 65, 119, 120, 121, 2, 122, 70, 71, 31, 123, 124, 125, 76, 77, 78, 126, 127, 128, 23, 129, 37, 36, 44, 45, 40, 130, 131, 132, 133, 41, 42, 134, 135, 136, 137, 83, 84, 85, 86, 43, 138, 139, 140, 141, 428, 429, 430, 431, 447, 448, 449, 450, 451, 452, 453, 454, 455, 456, 457, 458, 459, 460] (by decide +kernel) (by decide +kernel)) (goodIn_sub (fun _ h => List.mem_append_left _ (List.mem_append_right _ h)) (by decide +kernel))
set_option maxRecDepth 20000 in
theorem gL_law_L_side : GoodIn wsL_law (va_wsS RL 78 yL_side wsL_side) := goodIn_app (goodIn_of _ (by decide +kernel)) ggL_law_L_side
set_option maxRecDepth 20000 in
theorem ggL_law_X2_side : GoodIn wsL_law wsX2_side := goodIn_r _ [145, 99, 57, 56, 104, 105, 5, 106, 107, 108, 109, 110, 111, 432, 433, 434, 435, 436, 437, 438, 439, 440, 441, 442, 443, 444, 445, 446] (by decide +kernel) (by decide +kernel)
set_option maxRecDepth 20000 in
theorem gL_law_X2_side : GoodIn wsL_law (wsV RL 81 RX2 yX2_side wsX2_side) := goodIn_app (goodIn_of _ (by decide +kernel)) ggL_law_X2_side
set_option maxRecDepth 20000 in
theorem ggL_law_L_leads : GoodIn wsL_law wsL_leads := goodIn_ca (goodIn_r _ [148, 65, 149, 150, 151, 2, 152, 70, 71, 31, 72, 73, 74, 23, 75, 41, 42, 153, 92, 93, 94, 44, 83, 84, 85, 86, 43, 428, 429, 430, 431, 447, 448, 449, 450, 451, 452, 453, 454, 455, 456, 457, 458, 459, 460] (by decide +kernel) (by decide +kernel)) (goodIn_sub (fun _ h => List.mem_append_left _ (List.mem_append_right _ h)) (by decide +kernel))
set_option maxRecDepth 20000 in
theorem gL_law_L_leads : GoodIn wsL_law (va_wsS RL 82 yL_leads wsL_leads) := goodIn_app (goodIn_of _ (by decide +kernel)) ggL_law_L_leads
set_option maxRecDepth 20000 in
theorem ggL_law_X2_leads : GoodIn wsL_law wsX2_leads := goodIn_r _ [157, 54, 100, 101, 102, 5, 103, 60, 61, 104, 105, 106, 107, 108, 109, 110, 111, 432, 433, 434, 435, 436, 437, 438, 439, 440, 441, 442, 443, 444, 445, 446] (by decide +kernel) (by decide +kernel)
set_option maxRecDepth 20000 in
theorem gL_law_X2_leads : GoodIn wsL_law (wsV RL 85 RX2 yX2_leads wsX2_leads) := goodIn_app (goodIn_of _ (by decide +kernel)) ggL_law_X2_leads
set_option maxRecDepth 20000 in
theorem ggL_law_L_warmth : GoodIn wsL_law wsL_warmth := goodIn_ca (goodIn_r _ [160, 65, 161, 162, 163, 2, 164, 70, 71, 31, 72, 73, 74, 23, 75, 41, 42, 165, 166, 167, 168, 40, 39, 38, 169, 170, 171, 172, 37, 36, 173, 25, 26, 27, 174, 29, 30, 175, 176, 177, 178, 46, 44, 47, 43, 83, 84, 85, 86, 179, 180, 181, 182, 183, 184, 185, 45, 186, 187, 188, 189, 48, 49, 190, 191, 192, 193, 194, 195, 196, 197, 198, 199, 200, 201, 202, 428, 429, 430, 431, 447, 448, 449, 450, 451, 452, 453, 454, 455, 456, 457, 458, 459, 460] (by decide +kernel) (by decide +kernel)) (goodIn_sub (fun _ h => List.mem_append_left _ (List.mem_append_right _ h)) (by decide +kernel))
set_option maxRecDepth 20000 in
theorem gL_law_L_warmth : GoodIn wsL_law (va_wsS RL 86 yL_warmth wsL_warmth) := goodIn_app (goodIn_of _ (by decide +kernel)) ggL_law_L_warmth
set_option maxRecDepth 20000 in
theorem ggL_law_X2_warmth : GoodIn wsL_law wsX2_warmth := goodIn_r _ [206, 100, 101, 102, 5, 103, 60, 61, 104, 105, 106, 107, 108, 109, 110, 111, 207, 208, 209, 210, 99, 211, 212, 57, 56, 55, 213, 214, 215, 216, 54, 217, 218, 219, 220, 221, 222, 223, 224, 225, 226, 227, 228, 229, 230, 231, 232, 233, 234, 235, 236, 237, 238, 432, 433, 434, 435, 436, 437, 438, 439, 440, 441, 442, 443, 444, 445, 446] (by decide +kernel) (by decide +kernel)
set_option maxRecDepth 20000 in
theorem gL_law_X2_warmth : GoodIn wsL_law (wsV RL 88 RX2 yX2_warmth wsX2_warmth) := goodIn_app (goodIn_of _ (by decide +kernel)) ggL_law_X2_warmth
set_option maxRecDepth 20000 in
theorem ggL_law_L_flow : GoodIn wsL_law wsL_flow := goodIn_ca (goodIn_r _ [241, 65, 242, 243, 244, 2, 245, 70, 71, 31, 123, 124, 125, 76, 77, 78, 165, 166, 167, 23, 168, 40, 41, 42, 39, 38, 169, 170, 171, 172, 37, 36, 173, 25, 26, 27, 174, 29, 30, 175, 176, 177, 178, 46, 44, 47, 43, 83, 84, 85, 86, 179, 180, 181, 182, 183, 184, 185, 45, 186, 187, 188, 189, 48, 49, 190, 191, 192, 193, 194, 195, 196, 197, 246, 247, 248, 249, 130, 131, 132, 133, 134, 135, 136, 137, 428, 429, 430, 431, 447, 448, 449, 450, 451, 452, 453, 454, 455, 456, 457, 458, 459, 460] (by decide +kernel) (by decide +kernel)) (goodIn_sub (fun _ h => List.mem_append_left _ (List.mem_append_right _ h)) (by decide +kernel))
set_option maxRecDepth 20000 in
theorem gL_law_L_flow : GoodIn wsL_law (va_wsS RL 89 yL_flow wsL_flow) := goodIn_app (goodIn_of _ (by decide +kernel)) ggL_law_L_flow
set_option maxRecDepth 20000 in
theorem ggL_law_X2_flow : GoodIn wsL_law wsX2_flow := goodIn_r _ [253, 104, 105, 5, 106, 107, 108, 109, 110, 111, 207, 208, 209, 210, 99, 211, 212, 57, 56, 55, 60, 61, 213, 214, 215, 216, 54, 217, 218, 219, 220, 221, 222, 223, 224, 225, 226, 100, 101, 102, 103, 227, 228, 229, 230, 231, 232, 233, 254, 255, 256, 257, 432, 433, 434, 435, 436, 437, 438, 439, 440, 441, 442, 443, 444, 445, 446] (by decide +kernel) (by decide +kernel)
set_option maxRecDepth 20000 in
theorem gL_law_X2_flow : GoodIn wsL_law (wsV RL 92 RX2 yX2_flow wsX2_flow) := goodIn_app (goodIn_of _ (by decide +kernel)) ggL_law_X2_flow
set_option maxRecDepth 20000 in
theorem ggL_law_L_told : GoodIn wsL_law wsL_told := goodIn_ca (goodIn_r _ [260, 65, 261, 262, 263, 2, 264, 70, 71, 31, 76, 77, 78, 165, 166, 167, 23, 168, 40, 41, 42, 39, 38, 169, 170, 171, 172, 37, 36, 173, 25, 26, 27, 174, 29, 30, 175, 176, 177, 178, 46, 44, 47, 43, 83, 84, 85, 86, 179, 180, 181, 182, 183, 184, 185, 45, 186, 187, 188, 189, 48, 49, 190, 191, 192, 193, 194, 195, 196, 197, 265, 266, 267, 268, 269, 270, 271, 272, 247, 248, 249, 130, 131, 132, 133, 134, 135, 136, 137, 273, 274, 275, 276, 277, 278, 279, 280, 91, 92, 93, 94, 281, 199, 200, 201, 202, 282, 283, 284, 285, 428, 429, 430, 431, 447, 448, 449, 450, 451, 452, 453, 454, 455, 456, 457, 458, 459, 460] (by decide +kernel) (by decide +kernel)) (goodIn_sub (fun _ h => List.mem_append_left _ (List.mem_append_right _ h)) (by decide +kernel))
set_option maxRecDepth 20000 in
theorem gL_law_L_told : GoodIn wsL_law (va_wsS RL 93 yL_told wsL_told) := goodIn_app (goodIn_of _ (by decide +kernel)) ggL_law_L_told
set_option maxRecDepth 20000 in
theorem ggL_law_X2_told : GoodIn wsL_law wsX2_told := goodIn_r _ [289, 61, 60, 54, 55, 222, 104, 105, 5, 106, 107, 108, 109, 110, 111, 290, 291, 292, 293, 207, 208, 209, 210, 99, 211, 212, 57, 56, 213, 214, 215, 216, 217, 218, 219, 220, 221, 223, 224, 225, 226, 100, 101, 102, 103, 227, 228, 229, 230, 231, 232, 233, 254, 255, 256, 257, 432, 433, 434, 435, 436, 437, 438, 439, 440, 441, 442, 443, 444, 445, 446] (by decide +kernel) (by decide +kernel)
set_option maxRecDepth 20000 in
theorem gL_law_X2_told : GoodIn wsL_law (wsV RL 95 RX2 yX2_told wsX2_told) := goodIn_app (goodIn_of _ (by decide +kernel)) ggL_law_X2_told
set_option maxRecDepth 20000 in
theorem ggL_law_L_least : GoodIn wsL_law wsL_least := goodIn_ca (goodIn_r _ [296, 65, 297, 298, 299, 2, 300, 70, 71, 31, 301, 123, 124, 125, 76, 77, 78, 165, 166, 167, 23, 168, 40, 41, 42, 39, 38, 169, 170, 171, 172, 37, 36, 173, 25, 26, 27, 174, 29, 30, 175, 176, 177, 178, 46, 44, 47, 43, 83, 84, 85, 86, 179, 180, 181, 182, 183, 184, 185, 45, 186, 187, 188, 189, 48, 49, 190, 191, 192, 193, 194, 195, 196, 197, 302, 303, 304, 305, 130, 131, 132, 133, 134, 135, 136, 137, 306, 307, 308, 309, 310, 428, 429, 430, 431, 447, 448, 449, 450, 451, 452, 453, 454, 455, 456, 457, 458, 459, 460] (by decide +kernel) (by decide +kernel)) (goodIn_sub (fun _ h => List.mem_append_left _ (List.mem_append_right _ h)) (by decide +kernel))
set_option maxRecDepth 20000 in
theorem gL_law_L_least : GoodIn wsL_law (va_wsS RL 96 yL_least wsL_least) := goodIn_app (goodIn_of _ (by decide +kernel)) ggL_law_L_least
set_option maxRecDepth 20000 in
theorem ggL_law_X2_least : GoodIn wsL_law wsX2_least := goodIn_r _ [314, 238, 104, 105, 5, 106, 107, 108, 109, 110, 111, 315, 316, 317, 318, 60, 61, 207, 208, 209, 210, 99, 211, 212, 57, 56, 55, 213, 214, 215, 216, 54, 217, 218, 219, 220, 221, 222, 223, 224, 225, 226, 100, 101, 102, 103, 227, 228, 229, 230, 231, 232, 233, 319, 320, 321, 322, 234, 235, 236, 237, 432, 433, 434, 435, 436, 437, 438, 439, 440, 441, 442, 443, 444, 445, 446] (by decide +kernel) (by decide +kernel)
set_option maxRecDepth 20000 in
theorem gL_law_X2_least : GoodIn wsL_law (wsV RL 98 RX2 yX2_least wsX2_least) := goodIn_app (goodIn_of _ (by decide +kernel)) ggL_law_X2_least
set_option maxRecDepth 20000 in
theorem ggL_law_L_factor : GoodIn wsL_law wsL_factor := goodIn_ca (goodIn_r _ [325, 65, 326, 327, 328, 2, 329, 70, 71, 31, 123, 124, 125, 76, 77, 78, 165, 166, 167, 23, 168, 40, 41, 42, 39, 38, 169, 170, 171, 172, 37, 36, 173, 25, 26, 27, 174, 29, 30, 175, 176, 177, 178, 46, 44, 47, 43, 83, 84, 85, 86, 179, 180, 181, 182, 183, 184, 185, 45, 186, 187, 188, 189, 48, 49, 190, 191, 192, 193, 194, 195, 196, 197, 302, 303, 304, 305, 130, 131, 132, 133, 134, 135, 136, 137, 306, 307, 308, 309, 330, 331, 332, 333, 334, 335, 336, 337, 338, 339, 340, 428, 429, 430, 431, 447, 448, 449, 450, 451, 452, 453, 454, 455, 456, 457, 458, 459, 460] (by decide +kernel) (by decide +kernel)) (goodIn_sub (fun _ h => List.mem_append_left _ (List.mem_append_right _ h)) (by decide +kernel))
set_option maxRecDepth 20000 in
theorem gL_law_L_factor : GoodIn wsL_law (va_wsS RL 99 yL_factor wsL_factor) := goodIn_app (goodIn_of _ (by decide +kernel)) ggL_law_L_factor
set_option maxRecDepth 20000 in
theorem ggL_law_X2_factor : GoodIn wsL_law wsX2_factor := goodIn_r _ [344, 211, 212, 104, 105, 5, 106, 107, 108, 109, 110, 111, 315, 316, 317, 318, 60, 61, 238, 207, 208, 209, 210, 99, 57, 56, 55, 213, 214, 215, 216, 54, 217, 218, 219, 220, 221, 222, 223, 224, 225, 226, 100, 101, 102, 103, 227, 228, 229, 230, 231, 232, 233, 319, 320, 321, 322, 234, 235, 236, 237, 432, 433, 434, 435, 436, 437, 438, 439, 440, 441, 442, 443, 444, 445, 446] (by decide +kernel) (by decide +kernel)
set_option maxRecDepth 20000 in
theorem gL_law_X2_factor : GoodIn wsL_law (wsV RL 101 RX2 yX2_factor wsX2_factor) := goodIn_app (goodIn_of _ (by decide +kernel)) ggL_law_X2_factor
set_option maxRecDepth 20000 in
theorem ggL_law_L_colder : GoodIn wsL_law wsL_colder := goodIn_ca (goodIn_r _ [347, 65, 348, 349, 350, 2, 351, 70, 71, 31, 76, 77, 78, 165, 166, 167, 23, 168, 40, 41, 42, 39, 38, 169, 170, 171, 172, 37, 36, 173, 25, 26, 27, 174, 29, 30, 175, 176, 177, 178, 46, 44, 47, 43, 83, 84, 85, 86, 179, 180, 181, 182, 183, 184, 185, 45, 186, 187, 188, 189, 48, 49, 190, 191, 192, 193, 194, 195, 196, 197, 352, 353, 354, 355, 91, 92, 93, 94, 281, 199, 200, 201, 202, 428, 429, 430, 431, 447, 448, 449, 450, 451, 452, 453, 454, 455, 456, 457, 458, 459, 460] (by decide +kernel) (by decide +kernel)) (goodIn_sub (fun _ h => List.mem_append_left _ (List.mem_append_right _ h)) (by decide +kernel))
set_option maxRecDepth 20000 in
theorem gL_law_L_colder : GoodIn wsL_law (va_wsS RL 102 yL_colder wsL_colder) := goodIn_app (goodIn_of _ (by decide +kernel)) ggL_law_L_colder
set_option maxRecDepth 20000 in
theorem ggL_law_X2_colder : GoodIn wsL_law wsX2_colder := goodIn_r _ [359, 61, 60, 54, 55, 104, 105, 5, 106, 107, 108, 109, 110, 111, 207, 208, 209, 210, 99, 211, 212, 57, 56, 213, 214, 215, 216, 217, 218, 219, 220, 221, 222, 223, 224, 225, 226, 100, 101, 102, 103, 227, 228, 229, 230, 231, 232, 233, 432, 433, 434, 435, 436, 437, 438, 439, 440, 441, 442, 443, 444, 445, 446] (by decide +kernel) (by decide +kernel)
set_option maxRecDepth 20000 in
theorem gL_law_X2_colder : GoodIn wsL_law (wsV RL 104 RX2 yX2_colder wsX2_colder) := goodIn_app (goodIn_of _ (by decide +kernel)) ggL_law_X2_colder
set_option maxRecDepth 20000 in
theorem ggL_law_L_mirrored : GoodIn wsL_law wsL_mirrored := goodIn_ca (goodIn_r _ [362, 65, 363, 364, 365, 2, 366, 70, 71, 31, 76, 77, 78, 165, 166, 167, 23, 168, 40, 41, 42, 39, 38, 169, 170, 171, 172, 37, 36, 173, 25, 26, 27, 174, 29, 30, 175, 176, 177, 178, 46, 44, 47, 43, 83, 84, 85, 86, 179, 180, 181, 182, 183, 184, 185, 45, 186, 187, 188, 189, 48, 49, 190, 191, 192, 193, 194, 195, 196, 197, 367, 368, 369, 370, 281, 199, 200, 201, 202, 371, 372, 373, 374, 428, 429, 430, 431, 447, 448, 449, 450, 451, 452, 453, 454, 455, 456, 457, 458, 459, 460] (by decide +kernel) (by decide +kernel)) (goodIn_sub (fun _ h => List.mem_append_left _ (List.mem_append_right _ h)) (by decide +kernel))
set_option maxRecDepth 20000 in
theorem gL_law_L_mirrored : GoodIn wsL_law (va_wsS RL 105 yL_mirrored wsL_mirrored) := goodIn_app (goodIn_of _ (by decide +kernel)) ggL_law_L_mirrored
set_option maxRecDepth 20000 in
theorem ggL_law_X2_mirrored : GoodIn wsL_law wsX2_mirrored := goodIn_r _ [378, 61, 60, 104, 105, 5, 106, 107, 108, 109, 110, 111, 207, 208, 209, 210, 99, 211, 212, 57, 56, 55, 213, 214, 215, 216, 54, 217, 218, 219, 220, 221, 222, 223, 224, 225, 226, 100, 101, 102, 103, 227, 228, 229, 230, 231, 232, 233, 234, 235, 236, 237, 238, 432, 433, 434, 435, 436, 437, 438, 439, 440, 441, 442, 443, 444, 445, 446] (by decide +kernel) (by decide +kernel)
set_option maxRecDepth 20000 in
theorem gL_law_X2_mirrored : GoodIn wsL_law (wsV RL 107 RX2 yX2_mirrored wsX2_mirrored) := goodIn_app (goodIn_of _ (by decide +kernel)) ggL_law_X2_mirrored
set_option maxRecDepth 20000 in
theorem ggL_law_L_joint : GoodIn wsL_law wsL_joint := goodIn_ca (goodIn_r _ [381, 382, 383, 384, 385, 2, 386, 387, 388, 20, 31, 17, 19, 165, 166, 167, 23, 168, 40, 41, 42, 39, 38, 169, 170, 171, 172, 37, 36, 173, 25, 26, 27, 174, 29, 30, 175, 176, 177, 178, 46, 44, 47, 43, 83, 84, 85, 86, 179, 180, 181, 182, 183, 184, 185, 45, 186, 187, 188, 189, 48, 49, 190, 191, 192, 193, 194, 195, 196, 197, 265, 266, 267, 268, 269, 270, 271, 272, 247, 248, 249, 130, 131, 132, 133, 134, 135, 136, 137, 428, 429, 430, 431, 447, 448, 449, 450, 451, 452, 453, 454, 455, 456, 457, 458, 459, 460] (by decide +kernel) (by decide +kernel)) (goodIn_sub (fun _ h => List.mem_append_right _ h) (by decide +kernel))
set_option maxRecDepth 20000 in
theorem gL_law_L_joint : GoodIn wsL_law (va_wsS RL 108 yL_joint wsL_joint) := goodIn_app (goodIn_of _ (by decide +kernel)) ggL_law_L_joint
set_option maxRecDepth 20000 in
theorem ggL_law_X2_joint : GoodIn wsL_law wsX2_joint := goodIn_r _ [392, 393, 58, 59, 107, 108, 109, 5, 110, 111, 290, 291, 292, 293, 207, 208, 209, 210, 99, 211, 212, 57, 56, 55, 60, 61, 213, 214, 215, 216, 54, 217, 218, 219, 220, 221, 222, 223, 224, 225, 226, 100, 101, 102, 103, 104, 105, 106, 227, 228, 229, 230, 231, 232, 233, 254, 255, 256, 257, 432, 433, 434, 435, 436, 437, 438, 439, 440, 441, 442, 443, 444, 445, 446] (by decide +kernel) (by decide +kernel)
set_option maxRecDepth 20000 in
theorem gL_law_X2_joint : GoodIn wsL_law (wsV RL 111 RX2 yX2_joint wsX2_joint) := goodIn_app (goodIn_of _ (by decide +kernel)) ggL_law_X2_joint
set_option maxRecDepth 20000 in
theorem ggL_law_L_length : GoodIn wsL_law wsL_length := goodIn_ca (goodIn_r _ [396, 65, 397, 398, 399, 2, 400, 70, 71, 19, 401, 402, 403, 404, 20, 76, 77, 78, 428, 429, 430, 431] (by decide +kernel) (by decide +kernel)) (goodIn_sub (fun _ h => List.mem_append_left _ (List.mem_append_right _ h)) (by decide +kernel))
set_option maxRecDepth 20000 in
theorem gL_law_L_length : GoodIn wsL_law (va_wsS RL 112 yL_length wsL_length) := goodIn_app (goodIn_of _ (by decide +kernel)) ggL_law_L_length
set_option maxRecDepth 20000 in
theorem ggL_law_X2_length : GoodIn wsL_law wsX2_length := goodIn_r _ [408, 393, 59, 104, 105, 5, 106, 107, 108, 109, 110, 111, 432, 433, 434, 435, 436, 437, 438, 439, 440, 441, 442, 443, 444, 445, 446] (by decide +kernel) (by decide +kernel)
set_option maxRecDepth 20000 in
theorem gL_law_X2_length : GoodIn wsL_law (wsV RL 114 RX2 yX2_length wsX2_length) := goodIn_app (goodIn_of _ (by decide +kernel)) ggL_law_X2_length
set_option maxRecDepth 20000 in
theorem ggL_law_L_differs : GoodIn wsL_law wsL_differs := goodIn_ca (goodIn_r _ [411, 65, 412, 413, 414, 2, 415, 70, 71, 31, 17, 401, 402, 403, 404, 20, 76, 77, 78, 165, 166, 167, 23, 168, 40, 41, 42, 39, 38, 169, 170, 171, 172, 37, 36, 173, 25, 26, 27, 174, 29, 30, 175, 176, 177, 178, 46, 44, 47, 43, 83, 84, 85, 86, 179, 180, 181, 182, 183, 184, 185, 45, 186, 187, 188, 189, 48, 49, 190, 191, 192, 193, 194, 195, 196, 197, 265, 266, 267, 268, 269, 270, 271, 272, 247, 248, 249, 130, 131, 132, 133, 134, 135, 136, 137, 428, 429, 430, 431, 447, 448, 449, 450, 451, 452, 453, 454, 455, 456, 457, 458, 459, 460] (by decide +kernel) (by decide +kernel)) (goodIn_sub (fun _ h => List.mem_append_left _ (List.mem_append_right _ h)) (by decide +kernel))
set_option maxRecDepth 20000 in
theorem gL_law_L_differs : GoodIn wsL_law (va_wsS RL 115 yL_differs wsL_differs) := goodIn_app (goodIn_of _ (by decide +kernel)) ggL_law_L_differs
set_option maxRecDepth 20000 in
theorem ggL_law_X2_differs : GoodIn wsL_law wsX2_differs := goodIn_r _ [419, 393, 58, 104, 105, 5, 106, 107, 108, 109, 110, 111, 290, 291, 292, 293, 207, 208, 209, 210, 99, 211, 212, 57, 56, 55, 60, 61, 213, 214, 215, 216, 54, 217, 218, 219, 220, 221, 222, 223, 224, 225, 226, 100, 101, 102, 103, 227, 228, 229, 230, 231, 232, 233, 254, 255, 256, 257, 432, 433, 434, 435, 436, 437, 438, 439, 440, 441, 442, 443, 444, 445, 446] (by decide +kernel) (by decide +kernel)
set_option maxRecDepth 20000 in
theorem gL_law_X2_differs : GoodIn wsL_law (wsV RL 117 RX2 yX2_differs wsX2_differs) := goodIn_app (goodIn_of _ (by decide +kernel)) ggL_law_X2_differs
set_option maxRecDepth 20000 in
theorem ggL_law_X1_sum : GoodIn wsL_law wsX1_sum := goodIn_r _ [423, 20, 17, 19, 428, 429, 430, 431] (by decide +kernel) (by decide +kernel)
set_option maxRecDepth 20000 in
theorem gL_law_X1_sum : GoodIn wsL_law (wsV RL 118 RX1 yX1_sum wsX1_sum) := goodIn_app (goodIn_of _ (by decide +kernel)) ggL_law_X1_sum
set_option maxRecDepth 20000 in
theorem ggL_law_X2_sum : GoodIn wsL_law wsX2_sum := goodIn_r _ [427, 111, 393, 58, 59, 432, 433, 434, 435, 436, 437, 438, 439, 440, 441, 442, 443, 444, 445, 446] (by decide +kernel) (by decide +kernel)
set_option maxRecDepth 20000 in
theorem gL_law_X2_sum : GoodIn wsL_law (wsV RL 122 RX2 yX2_sum wsX2_sum) := goodIn_app (goodIn_of _ (by decide +kernel)) ggL_law_X2_sum
theorem dL_law_0 : decode cL_law 0 = .ok (.new 8, 3) := by decide +kernel
theorem dL_law_3 : decode cL_law 3 = .ok (.dup, 1) := by decide +kernel
theorem dL_law_4 : decode cL_law 4 = .ok (.aload_n 0, 1) := by decide +kernel
theorem dL_law_5 : decode cL_law 5 = .ok (.iconst 0, 1) := by decide +kernel
theorem dL_law_6 : decode cL_law 6 = .ok (.invokestatic 59, 3) := by decide +kernel
theorem dL_law_9 : decode cL_law 9 = .ok (.aload_n 0, 1) := by decide +kernel
theorem dL_law_10 : decode cL_law 10 = .ok (.iconst 1, 1) := by decide +kernel
theorem dL_law_11 : decode cL_law 11 = .ok (.invokestatic 59, 3) := by decide +kernel
theorem dL_law_14 : decode cL_law 14 = .ok (.invokespecial 65, 3) := by decide +kernel
theorem dL_law_17 : decode cL_law 17 = .ok (.astore_n 1, 1) := by decide +kernel
theorem dL_law_18 : decode cL_law 18 = .ok (.new 68, 3) := by decide +kernel
theorem dL_law_21 : decode cL_law 21 = .ok (.dup, 1) := by decide +kernel
theorem dL_law_22 : decode cL_law 22 = .ok (.aload_n 0, 1) := by decide +kernel
theorem dL_law_23 : decode cL_law 23 = .ok (.iconst 0, 1) := by decide +kernel
theorem dL_law_24 : decode cL_law 24 = .ok (.invokestatic 59, 3) := by decide +kernel
theorem dL_law_27 : decode cL_law 27 = .ok (.aload_n 0, 1) := by decide +kernel
theorem dL_law_28 : decode cL_law 28 = .ok (.iconst 1, 1) := by decide +kernel
theorem dL_law_29 : decode cL_law 29 = .ok (.invokestatic 59, 3) := by decide +kernel
theorem dL_law_32 : decode cL_law 32 = .ok (.invokespecial 70, 3) := by decide +kernel
theorem dL_law_35 : decode cL_law 35 = .ok (.astore_n 2, 1) := by decide +kernel
theorem dL_law_36 : decode cL_law 36 = .ok (.iconst 1, 1) := by decide +kernel
theorem dL_law_37 : decode cL_law 37 = .ok (.newarray .long, 2) := by decide +kernel
theorem dL_law_39 : decode cL_law 39 = .ok (.astore_n 3, 1) := by decide +kernel
theorem dL_law_40 : decode cL_law 40 = .ok (.iconst 2, 1) := by decide +kernel
theorem dL_law_41 : decode cL_law 41 = .ok (.istore 4, 2) := by decide +kernel
theorem dL_law_43 : decode cL_law 43 = .ok (.iload 4, 2) := by decide +kernel
theorem dL_law_45 : decode cL_law 45 = .ok (.aload_n 0, 1) := by decide +kernel
theorem dL_law_46 : decode cL_law 46 = .ok (.arraylength, 1) := by decide +kernel
theorem dL_law_47 : decode cL_law 47 = .ok (.bipush 6, 2) := by decide +kernel
theorem dL_law_49 : decode cL_law 49 = .ok (.isub, 1) := by decide +kernel
theorem dL_law_50 : decode cL_law 50 = .ok (.if_icmp .gt 954, 3) := by decide +kernel
theorem dL_law_53 : decode cL_law 53 = .ok (.aload_n 0, 1) := by decide +kernel
theorem dL_law_54 : decode cL_law 54 = .ok (.iload 4, 2) := by decide +kernel
theorem dL_law_56 : decode cL_law 56 = .ok (.iaload, 1) := by decide +kernel
theorem dL_law_57 : decode cL_law 57 = .ok (.bipush 15, 2) := by decide +kernel
theorem dL_law_59 : decode cL_law 59 = .ok (.iand, 1) := by decide +kernel
theorem dL_law_60 : decode cL_law 60 = .ok (.tableswitch 938 0 13 #[72, 176, 256, 324, 392, 447, 502, 570, 638, 694, 757, 801, 869, 924], 72) := by decide +kernel
theorem dL_law_132 : decode cL_law 132 = .ok (.aload_n 1, 1) := by decide +kernel
theorem dL_law_133 : decode cL_law 133 = .ok (.aload_n 0, 1) := by decide +kernel
theorem dL_law_134 : decode cL_law 134 = .ok (.iload 4, 2) := by decide +kernel
theorem dL_law_136 : decode cL_law 136 = .ok (.iconst 1, 1) := by decide +kernel
theorem dL_law_137 : decode cL_law 137 = .ok (.iadd, 1) := by decide +kernel
theorem dL_law_138 : decode cL_law 138 = .ok (.iaload, 1) := by decide +kernel
theorem dL_law_139 : decode cL_law 139 = .ok (.aload_n 0, 1) := by decide +kernel
theorem dL_law_140 : decode cL_law 140 = .ok (.iload 4, 2) := by decide +kernel
theorem dL_law_142 : decode cL_law 142 = .ok (.iconst 2, 1) := by decide +kernel
theorem dL_law_143 : decode cL_law 143 = .ok (.iadd, 1) := by decide +kernel
theorem dL_law_144 : decode cL_law 144 = .ok (.iaload, 1) := by decide +kernel
theorem dL_law_145 : decode cL_law 145 = .ok (.aload_n 0, 1) := by decide +kernel
theorem dL_law_146 : decode cL_law 146 = .ok (.iload 4, 2) := by decide +kernel
theorem dL_law_148 : decode cL_law 148 = .ok (.iconst 3, 1) := by decide +kernel
theorem dL_law_149 : decode cL_law 149 = .ok (.iadd, 1) := by decide +kernel
theorem dL_law_150 : decode cL_law 150 = .ok (.iaload, 1) := by decide +kernel
theorem dL_law_151 : decode cL_law 151 = .ok (.aload_n 0, 1) := by decide +kernel
theorem dL_law_152 : decode cL_law 152 = .ok (.iload 4, 2) := by decide +kernel
theorem dL_law_154 : decode cL_law 154 = .ok (.iconst 4, 1) := by decide +kernel
theorem dL_law_155 : decode cL_law 155 = .ok (.iadd, 1) := by decide +kernel
theorem dL_law_156 : decode cL_law 156 = .ok (.iaload, 1) := by decide +kernel
theorem dL_law_157 : decode cL_law 157 = .ok (.aload_n 0, 1) := by decide +kernel
theorem dL_law_158 : decode cL_law 158 = .ok (.iload 4, 2) := by decide +kernel
theorem dL_law_160 : decode cL_law 160 = .ok (.iconst 5, 1) := by decide +kernel
theorem dL_law_161 : decode cL_law 161 = .ok (.iadd, 1) := by decide +kernel
theorem dL_law_162 : decode cL_law 162 = .ok (.iaload, 1) := by decide +kernel
theorem dL_law_163 : decode cL_law 163 = .ok (.aload_n 3, 1) := by decide +kernel
theorem dL_law_164 : decode cL_law 164 = .ok (.invokestatic 71, 3) := by decide +kernel
theorem dL_law_167 : decode cL_law 167 = .ok (.istore 5, 2) := by decide +kernel
theorem dL_law_169 : decode cL_law 169 = .ok (.aload_n 2, 1) := by decide +kernel
theorem dL_law_170 : decode cL_law 170 = .ok (.aload_n 0, 1) := by decide +kernel
theorem dL_law_171 : decode cL_law 171 = .ok (.iload 4, 2) := by decide +kernel
theorem dL_law_173 : decode cL_law 173 = .ok (.iconst 1, 1) := by decide +kernel
theorem dL_law_174 : decode cL_law 174 = .ok (.iadd, 1) := by decide +kernel
theorem dL_law_175 : decode cL_law 175 = .ok (.iaload, 1) := by decide +kernel
theorem dL_law_176 : decode cL_law 176 = .ok (.aload_n 0, 1) := by decide +kernel
theorem dL_law_177 : decode cL_law 177 = .ok (.iload 4, 2) := by decide +kernel
theorem dL_law_179 : decode cL_law 179 = .ok (.iconst 2, 1) := by decide +kernel
theorem dL_law_180 : decode cL_law 180 = .ok (.iadd, 1) := by decide +kernel
theorem dL_law_181 : decode cL_law 181 = .ok (.iaload, 1) := by decide +kernel
theorem dL_law_182 : decode cL_law 182 = .ok (.aload_n 0, 1) := by decide +kernel
theorem dL_law_183 : decode cL_law 183 = .ok (.iload 4, 2) := by decide +kernel
theorem dL_law_185 : decode cL_law 185 = .ok (.iconst 3, 1) := by decide +kernel
theorem dL_law_186 : decode cL_law 186 = .ok (.iadd, 1) := by decide +kernel
theorem dL_law_187 : decode cL_law 187 = .ok (.iaload, 1) := by decide +kernel
theorem dL_law_188 : decode cL_law 188 = .ok (.aload_n 0, 1) := by decide +kernel
theorem dL_law_189 : decode cL_law 189 = .ok (.iload 4, 2) := by decide +kernel
theorem dL_law_191 : decode cL_law 191 = .ok (.iconst 4, 1) := by decide +kernel
theorem dL_law_192 : decode cL_law 192 = .ok (.iadd, 1) := by decide +kernel
theorem dL_law_193 : decode cL_law 193 = .ok (.iaload, 1) := by decide +kernel
theorem dL_law_194 : decode cL_law 194 = .ok (.aload_n 0, 1) := by decide +kernel
theorem dL_law_195 : decode cL_law 195 = .ok (.iload 4, 2) := by decide +kernel
theorem dL_law_197 : decode cL_law 197 = .ok (.iconst 5, 1) := by decide +kernel
theorem dL_law_198 : decode cL_law 198 = .ok (.iadd, 1) := by decide +kernel
theorem dL_law_199 : decode cL_law 199 = .ok (.iaload, 1) := by decide +kernel
theorem dL_law_200 : decode cL_law 200 = .ok (.invokevirtual 74, 3) := by decide +kernel
theorem dL_law_203 : decode cL_law 203 = .ok (.istore 6, 2) := by decide +kernel
theorem dL_law_205 : decode cL_law 205 = .ok (.aload_n 2, 1) := by decide +kernel
theorem dL_law_206 : decode cL_law 206 = .ok (.invokevirtual 75, 3) := by decide +kernel
theorem dL_law_209 : decode cL_law 209 = .ok (.iload 5, 2) := by decide +kernel
theorem dL_law_211 : decode cL_law 211 = .ok (.if_icmp .eq 5, 3) := by decide +kernel
theorem dL_law_214 : decode cL_law 214 = .ok (.iconst 0, 1) := by decide +kernel
theorem dL_law_215 : decode cL_law 215 = .ok (.ireturn, 1) := by decide +kernel
theorem dL_law_216 : decode cL_law 216 = .ok (.iload 5, 2) := by decide +kernel
theorem dL_law_218 : decode cL_law 218 = .ok (.ifCond .ne 15, 3) := by decide +kernel
theorem dL_law_221 : decode cL_law 221 = .ok (.aload_n 3, 1) := by decide +kernel
theorem dL_law_222 : decode cL_law 222 = .ok (.iconst 0, 1) := by decide +kernel
theorem dL_law_223 : decode cL_law 223 = .ok (.laload, 1) := by decide +kernel
theorem dL_law_224 : decode cL_law 224 = .ok (.iload 6, 2) := by decide +kernel
theorem dL_law_226 : decode cL_law 226 = .ok (.i2l, 1) := by decide +kernel
theorem dL_law_227 : decode cL_law 227 = .ok (.lcmp, 1) := by decide +kernel
theorem dL_law_228 : decode cL_law 228 = .ok (.ifCond .eq 5, 3) := by decide +kernel
theorem dL_law_231 : decode cL_law 231 = .ok (.iconst 0, 1) := by decide +kernel
theorem dL_law_232 : decode cL_law 232 = .ok (.ireturn, 1) := by decide +kernel
theorem dL_law_233 : decode cL_law 233 = .ok (.goto 765, 3) := by decide +kernel
theorem dL_law_236 : decode cL_law 236 = .ok (.aload_n 1, 1) := by decide +kernel
theorem dL_law_237 : decode cL_law 237 = .ok (.aload_n 0, 1) := by decide +kernel
theorem dL_law_238 : decode cL_law 238 = .ok (.iload 4, 2) := by decide +kernel
theorem dL_law_240 : decode cL_law 240 = .ok (.iconst 1, 1) := by decide +kernel
theorem dL_law_241 : decode cL_law 241 = .ok (.iadd, 1) := by decide +kernel
theorem dL_law_242 : decode cL_law 242 = .ok (.iaload, 1) := by decide +kernel
theorem dL_law_243 : decode cL_law 243 = .ok (.aload_n 0, 1) := by decide +kernel
theorem dL_law_244 : decode cL_law 244 = .ok (.iload 4, 2) := by decide +kernel
theorem dL_law_246 : decode cL_law 246 = .ok (.iconst 2, 1) := by decide +kernel
theorem dL_law_247 : decode cL_law 247 = .ok (.iadd, 1) := by decide +kernel
theorem dL_law_248 : decode cL_law 248 = .ok (.iaload, 1) := by decide +kernel
theorem dL_law_249 : decode cL_law 249 = .ok (.aload_n 0, 1) := by decide +kernel
theorem dL_law_250 : decode cL_law 250 = .ok (.iload 4, 2) := by decide +kernel
theorem dL_law_252 : decode cL_law 252 = .ok (.iconst 3, 1) := by decide +kernel
theorem dL_law_253 : decode cL_law 253 = .ok (.iadd, 1) := by decide +kernel
theorem dL_law_254 : decode cL_law 254 = .ok (.iaload, 1) := by decide +kernel
theorem dL_law_255 : decode cL_law 255 = .ok (.aload_n 3, 1) := by decide +kernel
theorem dL_law_256 : decode cL_law 256 = .ok (.invokestatic 78, 3) := by decide +kernel
theorem dL_law_259 : decode cL_law 259 = .ok (.istore 5, 2) := by decide +kernel
theorem dL_law_261 : decode cL_law 261 = .ok (.aload_n 2, 1) := by decide +kernel
theorem dL_law_262 : decode cL_law 262 = .ok (.aload_n 0, 1) := by decide +kernel
theorem dL_law_263 : decode cL_law 263 = .ok (.iload 4, 2) := by decide +kernel
theorem dL_law_265 : decode cL_law 265 = .ok (.iconst 1, 1) := by decide +kernel
theorem dL_law_266 : decode cL_law 266 = .ok (.iadd, 1) := by decide +kernel
theorem dL_law_267 : decode cL_law 267 = .ok (.iaload, 1) := by decide +kernel
theorem dL_law_268 : decode cL_law 268 = .ok (.aload_n 0, 1) := by decide +kernel
theorem dL_law_269 : decode cL_law 269 = .ok (.iload 4, 2) := by decide +kernel
theorem dL_law_271 : decode cL_law 271 = .ok (.iconst 2, 1) := by decide +kernel
theorem dL_law_272 : decode cL_law 272 = .ok (.iadd, 1) := by decide +kernel
theorem dL_law_273 : decode cL_law 273 = .ok (.iaload, 1) := by decide +kernel
theorem dL_law_274 : decode cL_law 274 = .ok (.aload_n 0, 1) := by decide +kernel
theorem dL_law_275 : decode cL_law 275 = .ok (.iload 4, 2) := by decide +kernel
theorem dL_law_277 : decode cL_law 277 = .ok (.iconst 3, 1) := by decide +kernel
theorem dL_law_278 : decode cL_law 278 = .ok (.iadd, 1) := by decide +kernel
theorem dL_law_279 : decode cL_law 279 = .ok (.iaload, 1) := by decide +kernel
theorem dL_law_280 : decode cL_law 280 = .ok (.invokevirtual 81, 3) := by decide +kernel
theorem dL_law_283 : decode cL_law 283 = .ok (.istore 6, 2) := by decide +kernel
theorem dL_law_285 : decode cL_law 285 = .ok (.aload_n 2, 1) := by decide +kernel
theorem dL_law_286 : decode cL_law 286 = .ok (.invokevirtual 75, 3) := by decide +kernel
theorem dL_law_289 : decode cL_law 289 = .ok (.iload 5, 2) := by decide +kernel
theorem dL_law_291 : decode cL_law 291 = .ok (.if_icmp .eq 5, 3) := by decide +kernel
theorem dL_law_294 : decode cL_law 294 = .ok (.iconst 0, 1) := by decide +kernel
theorem dL_law_295 : decode cL_law 295 = .ok (.ireturn, 1) := by decide +kernel
theorem dL_law_296 : decode cL_law 296 = .ok (.iload 5, 2) := by decide +kernel
theorem dL_law_298 : decode cL_law 298 = .ok (.ifCond .ne 15, 3) := by decide +kernel
theorem dL_law_301 : decode cL_law 301 = .ok (.aload_n 3, 1) := by decide +kernel
theorem dL_law_302 : decode cL_law 302 = .ok (.iconst 0, 1) := by decide +kernel
theorem dL_law_303 : decode cL_law 303 = .ok (.laload, 1) := by decide +kernel
theorem dL_law_304 : decode cL_law 304 = .ok (.iload 6, 2) := by decide +kernel
theorem dL_law_306 : decode cL_law 306 = .ok (.i2l, 1) := by decide +kernel
theorem dL_law_307 : decode cL_law 307 = .ok (.lcmp, 1) := by decide +kernel
theorem dL_law_308 : decode cL_law 308 = .ok (.ifCond .eq 5, 3) := by decide +kernel
theorem dL_law_311 : decode cL_law 311 = .ok (.iconst 0, 1) := by decide +kernel
theorem dL_law_312 : decode cL_law 312 = .ok (.ireturn, 1) := by decide +kernel
theorem dL_law_313 : decode cL_law 313 = .ok (.goto 685, 3) := by decide +kernel
theorem dL_law_316 : decode cL_law 316 = .ok (.aload_n 1, 1) := by decide +kernel
theorem dL_law_317 : decode cL_law 317 = .ok (.aload_n 0, 1) := by decide +kernel
theorem dL_law_318 : decode cL_law 318 = .ok (.iload 4, 2) := by decide +kernel
theorem dL_law_320 : decode cL_law 320 = .ok (.iconst 1, 1) := by decide +kernel
theorem dL_law_321 : decode cL_law 321 = .ok (.iadd, 1) := by decide +kernel
theorem dL_law_322 : decode cL_law 322 = .ok (.iaload, 1) := by decide +kernel
theorem dL_law_323 : decode cL_law 323 = .ok (.aload_n 0, 1) := by decide +kernel
theorem dL_law_324 : decode cL_law 324 = .ok (.iload 4, 2) := by decide +kernel
theorem dL_law_326 : decode cL_law 326 = .ok (.iconst 2, 1) := by decide +kernel
theorem dL_law_327 : decode cL_law 327 = .ok (.iadd, 1) := by decide +kernel
theorem dL_law_328 : decode cL_law 328 = .ok (.iaload, 1) := by decide +kernel
theorem dL_law_329 : decode cL_law 329 = .ok (.aload_n 3, 1) := by decide +kernel
theorem dL_law_330 : decode cL_law 330 = .ok (.invokestatic 82, 3) := by decide +kernel
theorem dL_law_333 : decode cL_law 333 = .ok (.istore 5, 2) := by decide +kernel
theorem dL_law_335 : decode cL_law 335 = .ok (.aload_n 2, 1) := by decide +kernel
theorem dL_law_336 : decode cL_law 336 = .ok (.aload_n 0, 1) := by decide +kernel
theorem dL_law_337 : decode cL_law 337 = .ok (.iload 4, 2) := by decide +kernel
theorem dL_law_339 : decode cL_law 339 = .ok (.iconst 1, 1) := by decide +kernel
theorem dL_law_340 : decode cL_law 340 = .ok (.iadd, 1) := by decide +kernel
theorem dL_law_341 : decode cL_law 341 = .ok (.iaload, 1) := by decide +kernel
theorem dL_law_342 : decode cL_law 342 = .ok (.aload_n 0, 1) := by decide +kernel
theorem dL_law_343 : decode cL_law 343 = .ok (.iload 4, 2) := by decide +kernel
theorem dL_law_345 : decode cL_law 345 = .ok (.iconst 2, 1) := by decide +kernel
theorem dL_law_346 : decode cL_law 346 = .ok (.iadd, 1) := by decide +kernel
theorem dL_law_347 : decode cL_law 347 = .ok (.iaload, 1) := by decide +kernel
theorem dL_law_348 : decode cL_law 348 = .ok (.invokevirtual 85, 3) := by decide +kernel
theorem dL_law_351 : decode cL_law 351 = .ok (.istore 6, 2) := by decide +kernel
theorem dL_law_353 : decode cL_law 353 = .ok (.aload_n 2, 1) := by decide +kernel
theorem dL_law_354 : decode cL_law 354 = .ok (.invokevirtual 75, 3) := by decide +kernel
theorem dL_law_357 : decode cL_law 357 = .ok (.iload 5, 2) := by decide +kernel
theorem dL_law_359 : decode cL_law 359 = .ok (.if_icmp .eq 5, 3) := by decide +kernel
theorem dL_law_362 : decode cL_law 362 = .ok (.iconst 0, 1) := by decide +kernel
theorem dL_law_363 : decode cL_law 363 = .ok (.ireturn, 1) := by decide +kernel
theorem dL_law_364 : decode cL_law 364 = .ok (.iload 5, 2) := by decide +kernel
theorem dL_law_366 : decode cL_law 366 = .ok (.ifCond .ne 15, 3) := by decide +kernel
theorem dL_law_369 : decode cL_law 369 = .ok (.aload_n 3, 1) := by decide +kernel
theorem dL_law_370 : decode cL_law 370 = .ok (.iconst 0, 1) := by decide +kernel
theorem dL_law_371 : decode cL_law 371 = .ok (.laload, 1) := by decide +kernel
theorem dL_law_372 : decode cL_law 372 = .ok (.iload 6, 2) := by decide +kernel
theorem dL_law_374 : decode cL_law 374 = .ok (.i2l, 1) := by decide +kernel
theorem dL_law_375 : decode cL_law 375 = .ok (.lcmp, 1) := by decide +kernel
theorem dL_law_376 : decode cL_law 376 = .ok (.ifCond .eq 5, 3) := by decide +kernel
theorem dL_law_379 : decode cL_law 379 = .ok (.iconst 0, 1) := by decide +kernel
theorem dL_law_380 : decode cL_law 380 = .ok (.ireturn, 1) := by decide +kernel
theorem dL_law_381 : decode cL_law 381 = .ok (.goto 617, 3) := by decide +kernel
theorem dL_law_384 : decode cL_law 384 = .ok (.aload_n 1, 1) := by decide +kernel
theorem dL_law_385 : decode cL_law 385 = .ok (.aload_n 0, 1) := by decide +kernel
theorem dL_law_386 : decode cL_law 386 = .ok (.iload 4, 2) := by decide +kernel
theorem dL_law_388 : decode cL_law 388 = .ok (.iconst 1, 1) := by decide +kernel
theorem dL_law_389 : decode cL_law 389 = .ok (.iadd, 1) := by decide +kernel
theorem dL_law_390 : decode cL_law 390 = .ok (.iaload, 1) := by decide +kernel
theorem dL_law_391 : decode cL_law 391 = .ok (.aload_n 0, 1) := by decide +kernel
theorem dL_law_392 : decode cL_law 392 = .ok (.iload 4, 2) := by decide +kernel
theorem dL_law_394 : decode cL_law 394 = .ok (.iconst 2, 1) := by decide +kernel
theorem dL_law_395 : decode cL_law 395 = .ok (.iadd, 1) := by decide +kernel
theorem dL_law_396 : decode cL_law 396 = .ok (.iaload, 1) := by decide +kernel
theorem dL_law_397 : decode cL_law 397 = .ok (.aload_n 3, 1) := by decide +kernel
theorem dL_law_398 : decode cL_law 398 = .ok (.invokestatic 86, 3) := by decide +kernel
theorem dL_law_401 : decode cL_law 401 = .ok (.istore 5, 2) := by decide +kernel
theorem dL_law_403 : decode cL_law 403 = .ok (.aload_n 2, 1) := by decide +kernel
theorem dL_law_404 : decode cL_law 404 = .ok (.aload_n 0, 1) := by decide +kernel
theorem dL_law_405 : decode cL_law 405 = .ok (.iload 4, 2) := by decide +kernel
theorem dL_law_407 : decode cL_law 407 = .ok (.iconst 1, 1) := by decide +kernel
theorem dL_law_408 : decode cL_law 408 = .ok (.iadd, 1) := by decide +kernel
theorem dL_law_409 : decode cL_law 409 = .ok (.iaload, 1) := by decide +kernel
theorem dL_law_410 : decode cL_law 410 = .ok (.aload_n 0, 1) := by decide +kernel
theorem dL_law_411 : decode cL_law 411 = .ok (.iload 4, 2) := by decide +kernel
theorem dL_law_413 : decode cL_law 413 = .ok (.iconst 2, 1) := by decide +kernel
theorem dL_law_414 : decode cL_law 414 = .ok (.iadd, 1) := by decide +kernel
theorem dL_law_415 : decode cL_law 415 = .ok (.iaload, 1) := by decide +kernel
theorem dL_law_416 : decode cL_law 416 = .ok (.invokevirtual 88, 3) := by decide +kernel
theorem dL_law_419 : decode cL_law 419 = .ok (.istore 6, 2) := by decide +kernel
theorem dL_law_421 : decode cL_law 421 = .ok (.aload_n 2, 1) := by decide +kernel
theorem dL_law_422 : decode cL_law 422 = .ok (.invokevirtual 75, 3) := by decide +kernel
theorem dL_law_425 : decode cL_law 425 = .ok (.iload 5, 2) := by decide +kernel
theorem dL_law_427 : decode cL_law 427 = .ok (.if_icmp .eq 5, 3) := by decide +kernel
theorem dL_law_430 : decode cL_law 430 = .ok (.iconst 0, 1) := by decide +kernel
theorem dL_law_431 : decode cL_law 431 = .ok (.ireturn, 1) := by decide +kernel
theorem dL_law_432 : decode cL_law 432 = .ok (.iload 5, 2) := by decide +kernel
theorem dL_law_434 : decode cL_law 434 = .ok (.ifCond .ne 15, 3) := by decide +kernel
theorem dL_law_437 : decode cL_law 437 = .ok (.aload_n 3, 1) := by decide +kernel
theorem dL_law_438 : decode cL_law 438 = .ok (.iconst 0, 1) := by decide +kernel
theorem dL_law_439 : decode cL_law 439 = .ok (.laload, 1) := by decide +kernel
theorem dL_law_440 : decode cL_law 440 = .ok (.iload 6, 2) := by decide +kernel
theorem dL_law_442 : decode cL_law 442 = .ok (.i2l, 1) := by decide +kernel
theorem dL_law_443 : decode cL_law 443 = .ok (.lcmp, 1) := by decide +kernel
theorem dL_law_444 : decode cL_law 444 = .ok (.ifCond .eq 5, 3) := by decide +kernel
theorem dL_law_447 : decode cL_law 447 = .ok (.iconst 0, 1) := by decide +kernel
theorem dL_law_448 : decode cL_law 448 = .ok (.ireturn, 1) := by decide +kernel
theorem dL_law_449 : decode cL_law 449 = .ok (.goto 549, 3) := by decide +kernel
theorem dL_law_452 : decode cL_law 452 = .ok (.aload_n 1, 1) := by decide +kernel
theorem dL_law_453 : decode cL_law 453 = .ok (.aload_n 0, 1) := by decide +kernel
theorem dL_law_454 : decode cL_law 454 = .ok (.iload 4, 2) := by decide +kernel
theorem dL_law_456 : decode cL_law 456 = .ok (.iconst 1, 1) := by decide +kernel
theorem dL_law_457 : decode cL_law 457 = .ok (.iadd, 1) := by decide +kernel
theorem dL_law_458 : decode cL_law 458 = .ok (.iaload, 1) := by decide +kernel
theorem dL_law_459 : decode cL_law 459 = .ok (.aload_n 3, 1) := by decide +kernel
theorem dL_law_460 : decode cL_law 460 = .ok (.invokestatic 89, 3) := by decide +kernel
theorem dL_law_463 : decode cL_law 463 = .ok (.istore 5, 2) := by decide +kernel
theorem dL_law_465 : decode cL_law 465 = .ok (.aload_n 2, 1) := by decide +kernel
theorem dL_law_466 : decode cL_law 466 = .ok (.aload_n 0, 1) := by decide +kernel
theorem dL_law_467 : decode cL_law 467 = .ok (.iload 4, 2) := by decide +kernel
theorem dL_law_469 : decode cL_law 469 = .ok (.iconst 1, 1) := by decide +kernel
theorem dL_law_470 : decode cL_law 470 = .ok (.iadd, 1) := by decide +kernel
theorem dL_law_471 : decode cL_law 471 = .ok (.iaload, 1) := by decide +kernel
theorem dL_law_472 : decode cL_law 472 = .ok (.invokevirtual 92, 3) := by decide +kernel
theorem dL_law_475 : decode cL_law 475 = .ok (.lstore 6, 2) := by decide +kernel
theorem dL_law_477 : decode cL_law 477 = .ok (.aload_n 2, 1) := by decide +kernel
theorem dL_law_478 : decode cL_law 478 = .ok (.invokevirtual 75, 3) := by decide +kernel
theorem dL_law_481 : decode cL_law 481 = .ok (.iload 5, 2) := by decide +kernel
theorem dL_law_483 : decode cL_law 483 = .ok (.if_icmp .eq 5, 3) := by decide +kernel
theorem dL_law_486 : decode cL_law 486 = .ok (.iconst 0, 1) := by decide +kernel
theorem dL_law_487 : decode cL_law 487 = .ok (.ireturn, 1) := by decide +kernel
theorem dL_law_488 : decode cL_law 488 = .ok (.iload 5, 2) := by decide +kernel
theorem dL_law_490 : decode cL_law 490 = .ok (.ifCond .ne 14, 3) := by decide +kernel
theorem dL_law_493 : decode cL_law 493 = .ok (.aload_n 3, 1) := by decide +kernel
theorem dL_law_494 : decode cL_law 494 = .ok (.iconst 0, 1) := by decide +kernel
theorem dL_law_495 : decode cL_law 495 = .ok (.laload, 1) := by decide +kernel
theorem dL_law_496 : decode cL_law 496 = .ok (.lload 6, 2) := by decide +kernel
theorem dL_law_498 : decode cL_law 498 = .ok (.lcmp, 1) := by decide +kernel
theorem dL_law_499 : decode cL_law 499 = .ok (.ifCond .eq 5, 3) := by decide +kernel
theorem dL_law_502 : decode cL_law 502 = .ok (.iconst 0, 1) := by decide +kernel
theorem dL_law_503 : decode cL_law 503 = .ok (.ireturn, 1) := by decide +kernel
theorem dL_law_504 : decode cL_law 504 = .ok (.goto 494, 3) := by decide +kernel
theorem dL_law_507 : decode cL_law 507 = .ok (.aload_n 1, 1) := by decide +kernel
theorem dL_law_508 : decode cL_law 508 = .ok (.aload_n 0, 1) := by decide +kernel
theorem dL_law_509 : decode cL_law 509 = .ok (.iload 4, 2) := by decide +kernel
theorem dL_law_511 : decode cL_law 511 = .ok (.iconst 1, 1) := by decide +kernel
theorem dL_law_512 : decode cL_law 512 = .ok (.iadd, 1) := by decide +kernel
theorem dL_law_513 : decode cL_law 513 = .ok (.iaload, 1) := by decide +kernel
theorem dL_law_514 : decode cL_law 514 = .ok (.aload_n 3, 1) := by decide +kernel
theorem dL_law_515 : decode cL_law 515 = .ok (.invokestatic 93, 3) := by decide +kernel
theorem dL_law_518 : decode cL_law 518 = .ok (.istore 5, 2) := by decide +kernel
theorem dL_law_520 : decode cL_law 520 = .ok (.aload_n 2, 1) := by decide +kernel
theorem dL_law_521 : decode cL_law 521 = .ok (.aload_n 0, 1) := by decide +kernel
theorem dL_law_522 : decode cL_law 522 = .ok (.iload 4, 2) := by decide +kernel
theorem dL_law_524 : decode cL_law 524 = .ok (.iconst 1, 1) := by decide +kernel
theorem dL_law_525 : decode cL_law 525 = .ok (.iadd, 1) := by decide +kernel
theorem dL_law_526 : decode cL_law 526 = .ok (.iaload, 1) := by decide +kernel
theorem dL_law_527 : decode cL_law 527 = .ok (.invokevirtual 95, 3) := by decide +kernel
theorem dL_law_530 : decode cL_law 530 = .ok (.lstore 6, 2) := by decide +kernel
theorem dL_law_532 : decode cL_law 532 = .ok (.aload_n 2, 1) := by decide +kernel
theorem dL_law_533 : decode cL_law 533 = .ok (.invokevirtual 75, 3) := by decide +kernel
theorem dL_law_536 : decode cL_law 536 = .ok (.iload 5, 2) := by decide +kernel
theorem dL_law_538 : decode cL_law 538 = .ok (.if_icmp .eq 5, 3) := by decide +kernel
theorem dL_law_541 : decode cL_law 541 = .ok (.iconst 0, 1) := by decide +kernel
theorem dL_law_542 : decode cL_law 542 = .ok (.ireturn, 1) := by decide +kernel
theorem dL_law_543 : decode cL_law 543 = .ok (.iload 5, 2) := by decide +kernel
theorem dL_law_545 : decode cL_law 545 = .ok (.ifCond .ne 14, 3) := by decide +kernel
theorem dL_law_548 : decode cL_law 548 = .ok (.aload_n 3, 1) := by decide +kernel
theorem dL_law_549 : decode cL_law 549 = .ok (.iconst 0, 1) := by decide +kernel
theorem dL_law_550 : decode cL_law 550 = .ok (.laload, 1) := by decide +kernel
theorem dL_law_551 : decode cL_law 551 = .ok (.lload 6, 2) := by decide +kernel
theorem dL_law_553 : decode cL_law 553 = .ok (.lcmp, 1) := by decide +kernel
theorem dL_law_554 : decode cL_law 554 = .ok (.ifCond .eq 5, 3) := by decide +kernel
theorem dL_law_557 : decode cL_law 557 = .ok (.iconst 0, 1) := by decide +kernel
theorem dL_law_558 : decode cL_law 558 = .ok (.ireturn, 1) := by decide +kernel
theorem dL_law_559 : decode cL_law 559 = .ok (.goto 439, 3) := by decide +kernel
theorem dL_law_562 : decode cL_law 562 = .ok (.aload_n 1, 1) := by decide +kernel
theorem dL_law_563 : decode cL_law 563 = .ok (.aload_n 0, 1) := by decide +kernel
theorem dL_law_564 : decode cL_law 564 = .ok (.iload 4, 2) := by decide +kernel
theorem dL_law_566 : decode cL_law 566 = .ok (.iconst 1, 1) := by decide +kernel
theorem dL_law_567 : decode cL_law 567 = .ok (.iadd, 1) := by decide +kernel
theorem dL_law_568 : decode cL_law 568 = .ok (.iaload, 1) := by decide +kernel
theorem dL_law_569 : decode cL_law 569 = .ok (.aload_n 0, 1) := by decide +kernel
theorem dL_law_570 : decode cL_law 570 = .ok (.iload 4, 2) := by decide +kernel
theorem dL_law_572 : decode cL_law 572 = .ok (.iconst 2, 1) := by decide +kernel
theorem dL_law_573 : decode cL_law 573 = .ok (.iadd, 1) := by decide +kernel
theorem dL_law_574 : decode cL_law 574 = .ok (.iaload, 1) := by decide +kernel
theorem dL_law_575 : decode cL_law 575 = .ok (.aload_n 3, 1) := by decide +kernel
theorem dL_law_576 : decode cL_law 576 = .ok (.invokestatic 96, 3) := by decide +kernel
theorem dL_law_579 : decode cL_law 579 = .ok (.istore 5, 2) := by decide +kernel
theorem dL_law_581 : decode cL_law 581 = .ok (.aload_n 2, 1) := by decide +kernel
theorem dL_law_582 : decode cL_law 582 = .ok (.aload_n 0, 1) := by decide +kernel
theorem dL_law_583 : decode cL_law 583 = .ok (.iload 4, 2) := by decide +kernel
theorem dL_law_585 : decode cL_law 585 = .ok (.iconst 1, 1) := by decide +kernel
theorem dL_law_586 : decode cL_law 586 = .ok (.iadd, 1) := by decide +kernel
theorem dL_law_587 : decode cL_law 587 = .ok (.iaload, 1) := by decide +kernel
theorem dL_law_588 : decode cL_law 588 = .ok (.aload_n 0, 1) := by decide +kernel
theorem dL_law_589 : decode cL_law 589 = .ok (.iload 4, 2) := by decide +kernel
theorem dL_law_591 : decode cL_law 591 = .ok (.iconst 2, 1) := by decide +kernel
theorem dL_law_592 : decode cL_law 592 = .ok (.iadd, 1) := by decide +kernel
theorem dL_law_593 : decode cL_law 593 = .ok (.iaload, 1) := by decide +kernel
theorem dL_law_594 : decode cL_law 594 = .ok (.invokevirtual 98, 3) := by decide +kernel
theorem dL_law_597 : decode cL_law 597 = .ok (.istore 6, 2) := by decide +kernel
theorem dL_law_599 : decode cL_law 599 = .ok (.aload_n 2, 1) := by decide +kernel
theorem dL_law_600 : decode cL_law 600 = .ok (.invokevirtual 75, 3) := by decide +kernel
theorem dL_law_603 : decode cL_law 603 = .ok (.iload 5, 2) := by decide +kernel
theorem dL_law_605 : decode cL_law 605 = .ok (.if_icmp .eq 5, 3) := by decide +kernel
theorem dL_law_608 : decode cL_law 608 = .ok (.iconst 0, 1) := by decide +kernel
theorem dL_law_609 : decode cL_law 609 = .ok (.ireturn, 1) := by decide +kernel
theorem dL_law_610 : decode cL_law 610 = .ok (.iload 5, 2) := by decide +kernel
theorem dL_law_612 : decode cL_law 612 = .ok (.ifCond .ne 15, 3) := by decide +kernel
theorem dL_law_615 : decode cL_law 615 = .ok (.aload_n 3, 1) := by decide +kernel
theorem dL_law_616 : decode cL_law 616 = .ok (.iconst 0, 1) := by decide +kernel
theorem dL_law_617 : decode cL_law 617 = .ok (.laload, 1) := by decide +kernel
theorem dL_law_618 : decode cL_law 618 = .ok (.iload 6, 2) := by decide +kernel
theorem dL_law_620 : decode cL_law 620 = .ok (.i2l, 1) := by decide +kernel
theorem dL_law_621 : decode cL_law 621 = .ok (.lcmp, 1) := by decide +kernel
theorem dL_law_622 : decode cL_law 622 = .ok (.ifCond .eq 5, 3) := by decide +kernel
theorem dL_law_625 : decode cL_law 625 = .ok (.iconst 0, 1) := by decide +kernel
theorem dL_law_626 : decode cL_law 626 = .ok (.ireturn, 1) := by decide +kernel
theorem dL_law_627 : decode cL_law 627 = .ok (.goto 371, 3) := by decide +kernel
theorem dL_law_630 : decode cL_law 630 = .ok (.aload_n 1, 1) := by decide +kernel
theorem dL_law_631 : decode cL_law 631 = .ok (.aload_n 0, 1) := by decide +kernel
theorem dL_law_632 : decode cL_law 632 = .ok (.iload 4, 2) := by decide +kernel
theorem dL_law_634 : decode cL_law 634 = .ok (.iconst 1, 1) := by decide +kernel
theorem dL_law_635 : decode cL_law 635 = .ok (.iadd, 1) := by decide +kernel
theorem dL_law_636 : decode cL_law 636 = .ok (.iaload, 1) := by decide +kernel
theorem dL_law_637 : decode cL_law 637 = .ok (.aload_n 0, 1) := by decide +kernel
theorem dL_law_638 : decode cL_law 638 = .ok (.iload 4, 2) := by decide +kernel
theorem dL_law_640 : decode cL_law 640 = .ok (.iconst 2, 1) := by decide +kernel
theorem dL_law_641 : decode cL_law 641 = .ok (.iadd, 1) := by decide +kernel
theorem dL_law_642 : decode cL_law 642 = .ok (.iaload, 1) := by decide +kernel
theorem dL_law_643 : decode cL_law 643 = .ok (.aload_n 3, 1) := by decide +kernel
theorem dL_law_644 : decode cL_law 644 = .ok (.invokestatic 99, 3) := by decide +kernel
theorem dL_law_647 : decode cL_law 647 = .ok (.istore 5, 2) := by decide +kernel
theorem dL_law_649 : decode cL_law 649 = .ok (.aload_n 2, 1) := by decide +kernel
theorem dL_law_650 : decode cL_law 650 = .ok (.aload_n 0, 1) := by decide +kernel
theorem dL_law_651 : decode cL_law 651 = .ok (.iload 4, 2) := by decide +kernel
theorem dL_law_653 : decode cL_law 653 = .ok (.iconst 1, 1) := by decide +kernel
theorem dL_law_654 : decode cL_law 654 = .ok (.iadd, 1) := by decide +kernel
theorem dL_law_655 : decode cL_law 655 = .ok (.iaload, 1) := by decide +kernel
theorem dL_law_656 : decode cL_law 656 = .ok (.aload_n 0, 1) := by decide +kernel
theorem dL_law_657 : decode cL_law 657 = .ok (.iload 4, 2) := by decide +kernel
theorem dL_law_659 : decode cL_law 659 = .ok (.iconst 2, 1) := by decide +kernel
theorem dL_law_660 : decode cL_law 660 = .ok (.iadd, 1) := by decide +kernel
theorem dL_law_661 : decode cL_law 661 = .ok (.iaload, 1) := by decide +kernel
theorem dL_law_662 : decode cL_law 662 = .ok (.invokevirtual 101, 3) := by decide +kernel
theorem dL_law_665 : decode cL_law 665 = .ok (.istore 6, 2) := by decide +kernel
theorem dL_law_667 : decode cL_law 667 = .ok (.aload_n 2, 1) := by decide +kernel
theorem dL_law_668 : decode cL_law 668 = .ok (.invokevirtual 75, 3) := by decide +kernel
theorem dL_law_671 : decode cL_law 671 = .ok (.iload 5, 2) := by decide +kernel
theorem dL_law_673 : decode cL_law 673 = .ok (.if_icmp .eq 5, 3) := by decide +kernel
theorem dL_law_676 : decode cL_law 676 = .ok (.iconst 0, 1) := by decide +kernel
theorem dL_law_677 : decode cL_law 677 = .ok (.ireturn, 1) := by decide +kernel
theorem dL_law_678 : decode cL_law 678 = .ok (.iload 5, 2) := by decide +kernel
theorem dL_law_680 : decode cL_law 680 = .ok (.ifCond .ne 15, 3) := by decide +kernel
theorem dL_law_683 : decode cL_law 683 = .ok (.aload_n 3, 1) := by decide +kernel
theorem dL_law_684 : decode cL_law 684 = .ok (.iconst 0, 1) := by decide +kernel
theorem dL_law_685 : decode cL_law 685 = .ok (.laload, 1) := by decide +kernel
theorem dL_law_686 : decode cL_law 686 = .ok (.iload 6, 2) := by decide +kernel
theorem dL_law_688 : decode cL_law 688 = .ok (.i2l, 1) := by decide +kernel
theorem dL_law_689 : decode cL_law 689 = .ok (.lcmp, 1) := by decide +kernel
theorem dL_law_690 : decode cL_law 690 = .ok (.ifCond .eq 5, 3) := by decide +kernel
theorem dL_law_693 : decode cL_law 693 = .ok (.iconst 0, 1) := by decide +kernel
theorem dL_law_694 : decode cL_law 694 = .ok (.ireturn, 1) := by decide +kernel
theorem dL_law_695 : decode cL_law 695 = .ok (.goto 303, 3) := by decide +kernel
theorem dL_law_698 : decode cL_law 698 = .ok (.aload_n 1, 1) := by decide +kernel
theorem dL_law_699 : decode cL_law 699 = .ok (.aload_n 0, 1) := by decide +kernel
theorem dL_law_700 : decode cL_law 700 = .ok (.iload 4, 2) := by decide +kernel
theorem dL_law_702 : decode cL_law 702 = .ok (.iconst 1, 1) := by decide +kernel
theorem dL_law_703 : decode cL_law 703 = .ok (.iadd, 1) := by decide +kernel
theorem dL_law_704 : decode cL_law 704 = .ok (.iaload, 1) := by decide +kernel
theorem dL_law_705 : decode cL_law 705 = .ok (.aload_n 3, 1) := by decide +kernel
theorem dL_law_706 : decode cL_law 706 = .ok (.invokestatic 102, 3) := by decide +kernel
theorem dL_law_709 : decode cL_law 709 = .ok (.istore 5, 2) := by decide +kernel
theorem dL_law_711 : decode cL_law 711 = .ok (.aload_n 2, 1) := by decide +kernel
theorem dL_law_712 : decode cL_law 712 = .ok (.aload_n 0, 1) := by decide +kernel
theorem dL_law_713 : decode cL_law 713 = .ok (.iload 4, 2) := by decide +kernel
theorem dL_law_715 : decode cL_law 715 = .ok (.iconst 1, 1) := by decide +kernel
theorem dL_law_716 : decode cL_law 716 = .ok (.iadd, 1) := by decide +kernel
theorem dL_law_717 : decode cL_law 717 = .ok (.iaload, 1) := by decide +kernel
theorem dL_law_718 : decode cL_law 718 = .ok (.invokevirtual 104, 3) := by decide +kernel
theorem dL_law_721 : decode cL_law 721 = .ok (.istore 6, 2) := by decide +kernel
theorem dL_law_723 : decode cL_law 723 = .ok (.aload_n 2, 1) := by decide +kernel
theorem dL_law_724 : decode cL_law 724 = .ok (.invokevirtual 75, 3) := by decide +kernel
theorem dL_law_727 : decode cL_law 727 = .ok (.iload 5, 2) := by decide +kernel
theorem dL_law_729 : decode cL_law 729 = .ok (.if_icmp .eq 5, 3) := by decide +kernel
theorem dL_law_732 : decode cL_law 732 = .ok (.iconst 0, 1) := by decide +kernel
theorem dL_law_733 : decode cL_law 733 = .ok (.ireturn, 1) := by decide +kernel
theorem dL_law_734 : decode cL_law 734 = .ok (.iload 5, 2) := by decide +kernel
theorem dL_law_736 : decode cL_law 736 = .ok (.ifCond .ne 15, 3) := by decide +kernel
theorem dL_law_739 : decode cL_law 739 = .ok (.aload_n 3, 1) := by decide +kernel
theorem dL_law_740 : decode cL_law 740 = .ok (.iconst 0, 1) := by decide +kernel
theorem dL_law_741 : decode cL_law 741 = .ok (.laload, 1) := by decide +kernel
theorem dL_law_742 : decode cL_law 742 = .ok (.iload 6, 2) := by decide +kernel
theorem dL_law_744 : decode cL_law 744 = .ok (.i2l, 1) := by decide +kernel
theorem dL_law_745 : decode cL_law 745 = .ok (.lcmp, 1) := by decide +kernel
theorem dL_law_746 : decode cL_law 746 = .ok (.ifCond .eq 5, 3) := by decide +kernel
theorem dL_law_749 : decode cL_law 749 = .ok (.iconst 0, 1) := by decide +kernel
theorem dL_law_750 : decode cL_law 750 = .ok (.ireturn, 1) := by decide +kernel
theorem dL_law_751 : decode cL_law 751 = .ok (.goto 247, 3) := by decide +kernel
theorem dL_law_754 : decode cL_law 754 = .ok (.aload_n 1, 1) := by decide +kernel
theorem dL_law_755 : decode cL_law 755 = .ok (.aload_n 0, 1) := by decide +kernel
theorem dL_law_756 : decode cL_law 756 = .ok (.iload 4, 2) := by decide +kernel
theorem dL_law_758 : decode cL_law 758 = .ok (.iconst 1, 1) := by decide +kernel
theorem dL_law_759 : decode cL_law 759 = .ok (.iadd, 1) := by decide +kernel
theorem dL_law_760 : decode cL_law 760 = .ok (.iaload, 1) := by decide +kernel
theorem dL_law_761 : decode cL_law 761 = .ok (.aload_n 3, 1) := by decide +kernel
theorem dL_law_762 : decode cL_law 762 = .ok (.invokestatic 105, 3) := by decide +kernel
theorem dL_law_765 : decode cL_law 765 = .ok (.istore 5, 2) := by decide +kernel
theorem dL_law_767 : decode cL_law 767 = .ok (.aload_n 2, 1) := by decide +kernel
theorem dL_law_768 : decode cL_law 768 = .ok (.aload_n 0, 1) := by decide +kernel
theorem dL_law_769 : decode cL_law 769 = .ok (.iload 4, 2) := by decide +kernel
theorem dL_law_771 : decode cL_law 771 = .ok (.iconst 1, 1) := by decide +kernel
theorem dL_law_772 : decode cL_law 772 = .ok (.iadd, 1) := by decide +kernel
theorem dL_law_773 : decode cL_law 773 = .ok (.iaload, 1) := by decide +kernel
theorem dL_law_774 : decode cL_law 774 = .ok (.invokevirtual 107, 3) := by decide +kernel
theorem dL_law_777 : decode cL_law 777 = .ok (.istore 6, 2) := by decide +kernel
theorem dL_law_779 : decode cL_law 779 = .ok (.aload_n 2, 1) := by decide +kernel
theorem dL_law_780 : decode cL_law 780 = .ok (.invokevirtual 75, 3) := by decide +kernel
theorem dL_law_783 : decode cL_law 783 = .ok (.iload 5, 2) := by decide +kernel
theorem dL_law_785 : decode cL_law 785 = .ok (.if_icmp .eq 5, 3) := by decide +kernel
theorem dL_law_788 : decode cL_law 788 = .ok (.iconst 0, 1) := by decide +kernel
theorem dL_law_789 : decode cL_law 789 = .ok (.ireturn, 1) := by decide +kernel
theorem dL_law_790 : decode cL_law 790 = .ok (.iload 5, 2) := by decide +kernel
theorem dL_law_792 : decode cL_law 792 = .ok (.ifCond .ne 22, 3) := by decide +kernel
theorem dL_law_795 : decode cL_law 795 = .ok (.aload_n 3, 1) := by decide +kernel
theorem dL_law_796 : decode cL_law 796 = .ok (.iconst 0, 1) := by decide +kernel
theorem dL_law_797 : decode cL_law 797 = .ok (.laload, 1) := by decide +kernel
theorem dL_law_798 : decode cL_law 798 = .ok (.iload 6, 2) := by decide +kernel
theorem dL_law_800 : decode cL_law 800 = .ok (.ifCond .eq 7, 3) := by decide +kernel
theorem dL_law_803 : decode cL_law 803 = .ok (.lconst 1, 1) := by decide +kernel
theorem dL_law_804 : decode cL_law 804 = .ok (.goto 4, 3) := by decide +kernel
theorem dL_law_807 : decode cL_law 807 = .ok (.lconst 0, 1) := by decide +kernel
theorem dL_law_808 : decode cL_law 808 = .ok (.lcmp, 1) := by decide +kernel
theorem dL_law_809 : decode cL_law 809 = .ok (.ifCond .eq 5, 3) := by decide +kernel
theorem dL_law_812 : decode cL_law 812 = .ok (.iconst 0, 1) := by decide +kernel
theorem dL_law_813 : decode cL_law 813 = .ok (.ireturn, 1) := by decide +kernel
theorem dL_law_814 : decode cL_law 814 = .ok (.goto 184, 3) := by decide +kernel
theorem dL_law_817 : decode cL_law 817 = .ok (.aload_n 1, 1) := by decide +kernel
theorem dL_law_818 : decode cL_law 818 = .ok (.aload_n 3, 1) := by decide +kernel
theorem dL_law_819 : decode cL_law 819 = .ok (.invokestatic 108, 3) := by decide +kernel
theorem dL_law_822 : decode cL_law 822 = .ok (.istore 5, 2) := by decide +kernel
theorem dL_law_824 : decode cL_law 824 = .ok (.aload_n 2, 1) := by decide +kernel
theorem dL_law_825 : decode cL_law 825 = .ok (.invokevirtual 111, 3) := by decide +kernel
theorem dL_law_828 : decode cL_law 828 = .ok (.istore 6, 2) := by decide +kernel
theorem dL_law_830 : decode cL_law 830 = .ok (.aload_n 2, 1) := by decide +kernel
theorem dL_law_831 : decode cL_law 831 = .ok (.invokevirtual 75, 3) := by decide +kernel
theorem dL_law_834 : decode cL_law 834 = .ok (.iload 5, 2) := by decide +kernel
theorem dL_law_836 : decode cL_law 836 = .ok (.if_icmp .eq 5, 3) := by decide +kernel
theorem dL_law_839 : decode cL_law 839 = .ok (.iconst 0, 1) := by decide +kernel
theorem dL_law_840 : decode cL_law 840 = .ok (.ireturn, 1) := by decide +kernel
theorem dL_law_841 : decode cL_law 841 = .ok (.iload 5, 2) := by decide +kernel
theorem dL_law_843 : decode cL_law 843 = .ok (.ifCond .ne 15, 3) := by decide +kernel
theorem dL_law_846 : decode cL_law 846 = .ok (.aload_n 3, 1) := by decide +kernel
theorem dL_law_847 : decode cL_law 847 = .ok (.iconst 0, 1) := by decide +kernel
theorem dL_law_848 : decode cL_law 848 = .ok (.laload, 1) := by decide +kernel
theorem dL_law_849 : decode cL_law 849 = .ok (.iload 6, 2) := by decide +kernel
theorem dL_law_851 : decode cL_law 851 = .ok (.i2l, 1) := by decide +kernel
theorem dL_law_852 : decode cL_law 852 = .ok (.lcmp, 1) := by decide +kernel
theorem dL_law_853 : decode cL_law 853 = .ok (.ifCond .eq 5, 3) := by decide +kernel
theorem dL_law_856 : decode cL_law 856 = .ok (.iconst 0, 1) := by decide +kernel
theorem dL_law_857 : decode cL_law 857 = .ok (.ireturn, 1) := by decide +kernel
theorem dL_law_858 : decode cL_law 858 = .ok (.goto 140, 3) := by decide +kernel
theorem dL_law_861 : decode cL_law 861 = .ok (.aload_n 1, 1) := by decide +kernel
theorem dL_law_862 : decode cL_law 862 = .ok (.aload_n 0, 1) := by decide +kernel
theorem dL_law_863 : decode cL_law 863 = .ok (.iload 4, 2) := by decide +kernel
theorem dL_law_865 : decode cL_law 865 = .ok (.iconst 1, 1) := by decide +kernel
theorem dL_law_866 : decode cL_law 866 = .ok (.iadd, 1) := by decide +kernel
theorem dL_law_867 : decode cL_law 867 = .ok (.iaload, 1) := by decide +kernel
theorem dL_law_868 : decode cL_law 868 = .ok (.aload_n 0, 1) := by decide +kernel
theorem dL_law_869 : decode cL_law 869 = .ok (.iload 4, 2) := by decide +kernel
theorem dL_law_871 : decode cL_law 871 = .ok (.iconst 2, 1) := by decide +kernel
theorem dL_law_872 : decode cL_law 872 = .ok (.iadd, 1) := by decide +kernel
theorem dL_law_873 : decode cL_law 873 = .ok (.iaload, 1) := by decide +kernel
theorem dL_law_874 : decode cL_law 874 = .ok (.aload_n 3, 1) := by decide +kernel
theorem dL_law_875 : decode cL_law 875 = .ok (.invokestatic 112, 3) := by decide +kernel
theorem dL_law_878 : decode cL_law 878 = .ok (.istore 5, 2) := by decide +kernel
theorem dL_law_880 : decode cL_law 880 = .ok (.aload_n 2, 1) := by decide +kernel
theorem dL_law_881 : decode cL_law 881 = .ok (.aload_n 0, 1) := by decide +kernel
theorem dL_law_882 : decode cL_law 882 = .ok (.iload 4, 2) := by decide +kernel
theorem dL_law_884 : decode cL_law 884 = .ok (.iconst 1, 1) := by decide +kernel
theorem dL_law_885 : decode cL_law 885 = .ok (.iadd, 1) := by decide +kernel
theorem dL_law_886 : decode cL_law 886 = .ok (.iaload, 1) := by decide +kernel
theorem dL_law_887 : decode cL_law 887 = .ok (.aload_n 0, 1) := by decide +kernel
theorem dL_law_888 : decode cL_law 888 = .ok (.iload 4, 2) := by decide +kernel
theorem dL_law_890 : decode cL_law 890 = .ok (.iconst 2, 1) := by decide +kernel
theorem dL_law_891 : decode cL_law 891 = .ok (.iadd, 1) := by decide +kernel
theorem dL_law_892 : decode cL_law 892 = .ok (.iaload, 1) := by decide +kernel
theorem dL_law_893 : decode cL_law 893 = .ok (.invokevirtual 114, 3) := by decide +kernel
theorem dL_law_896 : decode cL_law 896 = .ok (.istore 6, 2) := by decide +kernel
theorem dL_law_898 : decode cL_law 898 = .ok (.aload_n 2, 1) := by decide +kernel
theorem dL_law_899 : decode cL_law 899 = .ok (.invokevirtual 75, 3) := by decide +kernel
theorem dL_law_902 : decode cL_law 902 = .ok (.iload 5, 2) := by decide +kernel
theorem dL_law_904 : decode cL_law 904 = .ok (.if_icmp .eq 5, 3) := by decide +kernel
theorem dL_law_907 : decode cL_law 907 = .ok (.iconst 0, 1) := by decide +kernel
theorem dL_law_908 : decode cL_law 908 = .ok (.ireturn, 1) := by decide +kernel
theorem dL_law_909 : decode cL_law 909 = .ok (.iload 5, 2) := by decide +kernel
theorem dL_law_911 : decode cL_law 911 = .ok (.ifCond .ne 15, 3) := by decide +kernel
theorem dL_law_914 : decode cL_law 914 = .ok (.aload_n 3, 1) := by decide +kernel
theorem dL_law_915 : decode cL_law 915 = .ok (.iconst 0, 1) := by decide +kernel
theorem dL_law_916 : decode cL_law 916 = .ok (.laload, 1) := by decide +kernel
theorem dL_law_917 : decode cL_law 917 = .ok (.iload 6, 2) := by decide +kernel
theorem dL_law_919 : decode cL_law 919 = .ok (.i2l, 1) := by decide +kernel
theorem dL_law_920 : decode cL_law 920 = .ok (.lcmp, 1) := by decide +kernel
theorem dL_law_921 : decode cL_law 921 = .ok (.ifCond .eq 5, 3) := by decide +kernel
theorem dL_law_924 : decode cL_law 924 = .ok (.iconst 0, 1) := by decide +kernel
theorem dL_law_925 : decode cL_law 925 = .ok (.ireturn, 1) := by decide +kernel
theorem dL_law_926 : decode cL_law 926 = .ok (.goto 72, 3) := by decide +kernel
theorem dL_law_929 : decode cL_law 929 = .ok (.aload_n 1, 1) := by decide +kernel
theorem dL_law_930 : decode cL_law 930 = .ok (.aload_n 0, 1) := by decide +kernel
theorem dL_law_931 : decode cL_law 931 = .ok (.iload 4, 2) := by decide +kernel
theorem dL_law_933 : decode cL_law 933 = .ok (.iconst 1, 1) := by decide +kernel
theorem dL_law_934 : decode cL_law 934 = .ok (.iadd, 1) := by decide +kernel
theorem dL_law_935 : decode cL_law 935 = .ok (.iaload, 1) := by decide +kernel
theorem dL_law_936 : decode cL_law 936 = .ok (.aload_n 3, 1) := by decide +kernel
theorem dL_law_937 : decode cL_law 937 = .ok (.invokestatic 115, 3) := by decide +kernel
theorem dL_law_940 : decode cL_law 940 = .ok (.istore 5, 2) := by decide +kernel
theorem dL_law_942 : decode cL_law 942 = .ok (.aload_n 2, 1) := by decide +kernel
theorem dL_law_943 : decode cL_law 943 = .ok (.aload_n 0, 1) := by decide +kernel
theorem dL_law_944 : decode cL_law 944 = .ok (.iload 4, 2) := by decide +kernel
theorem dL_law_946 : decode cL_law 946 = .ok (.iconst 1, 1) := by decide +kernel
theorem dL_law_947 : decode cL_law 947 = .ok (.iadd, 1) := by decide +kernel
theorem dL_law_948 : decode cL_law 948 = .ok (.iaload, 1) := by decide +kernel
theorem dL_law_949 : decode cL_law 949 = .ok (.invokevirtual 117, 3) := by decide +kernel
theorem dL_law_952 : decode cL_law 952 = .ok (.lstore 6, 2) := by decide +kernel
theorem dL_law_954 : decode cL_law 954 = .ok (.aload_n 2, 1) := by decide +kernel
theorem dL_law_955 : decode cL_law 955 = .ok (.invokevirtual 75, 3) := by decide +kernel
theorem dL_law_958 : decode cL_law 958 = .ok (.iload 5, 2) := by decide +kernel
theorem dL_law_960 : decode cL_law 960 = .ok (.if_icmp .eq 5, 3) := by decide +kernel
theorem dL_law_963 : decode cL_law 963 = .ok (.iconst 0, 1) := by decide +kernel
theorem dL_law_964 : decode cL_law 964 = .ok (.ireturn, 1) := by decide +kernel
theorem dL_law_965 : decode cL_law 965 = .ok (.iload 5, 2) := by decide +kernel
theorem dL_law_967 : decode cL_law 967 = .ok (.ifCond .ne 14, 3) := by decide +kernel
theorem dL_law_970 : decode cL_law 970 = .ok (.aload_n 3, 1) := by decide +kernel
theorem dL_law_971 : decode cL_law 971 = .ok (.iconst 0, 1) := by decide +kernel
theorem dL_law_972 : decode cL_law 972 = .ok (.laload, 1) := by decide +kernel
theorem dL_law_973 : decode cL_law 973 = .ok (.lload 6, 2) := by decide +kernel
theorem dL_law_975 : decode cL_law 975 = .ok (.lcmp, 1) := by decide +kernel
theorem dL_law_976 : decode cL_law 976 = .ok (.ifCond .eq 5, 3) := by decide +kernel
theorem dL_law_979 : decode cL_law 979 = .ok (.iconst 0, 1) := by decide +kernel
theorem dL_law_980 : decode cL_law 980 = .ok (.ireturn, 1) := by decide +kernel
theorem dL_law_981 : decode cL_law 981 = .ok (.goto 17, 3) := by decide +kernel
theorem dL_law_984 : decode cL_law 984 = .ok (.aload_n 1, 1) := by decide +kernel
theorem dL_law_985 : decode cL_law 985 = .ok (.invokevirtual 118, 3) := by decide +kernel
theorem dL_law_988 : decode cL_law 988 = .ok (.aload_n 2, 1) := by decide +kernel
theorem dL_law_989 : decode cL_law 989 = .ok (.invokevirtual 122, 3) := by decide +kernel
theorem dL_law_992 : decode cL_law 992 = .ok (.lcmp, 1) := by decide +kernel
theorem dL_law_993 : decode cL_law 993 = .ok (.ifCond .eq 5, 3) := by decide +kernel
theorem dL_law_996 : decode cL_law 996 = .ok (.iconst 0, 1) := by decide +kernel
theorem dL_law_997 : decode cL_law 997 = .ok (.ireturn, 1) := by decide +kernel
theorem dL_law_998 : decode cL_law 998 = .ok (.iinc 4 6, 3) := by decide +kernel
theorem dL_law_1001 : decode cL_law 1001 = .ok (.goto (-958), 3) := by decide +kernel
theorem dL_law_1004 : decode cL_law 1004 = .ok (.iconst 1, 1) := by decide +kernel
theorem dL_law_1005 : decode cL_law 1005 = .ok (.ireturn, 1) := by decide +kernel
end
section
/-! THE CATCHING, in my own words (the printed row for it rests on a part of the library that rounds don't have) -/
/-- the search in a method's own table: the first entry covers the pc and names a class to which the thrown object's class can be assigned; its pool entry may be open yet -/
theorem th_finds {e : Env} {S : State} {f : JFrame} {a : Addr} {meth : Method} {c : Code} (hm : S.vm.method? f.method = some meth) (hc : meth.code = some c) {x : ExceptionTableEntry} {rest : List ExceptionTableEntry} (htab : c.exceptionTable.toList = x :: rest) (hcov : covers x f.pc = true) (h0 : x.catchType ≠ 0)
    {k : ClassId} {cell : Cell} (hl : S.vm.ClassLinks e.platform f.method.cls x.catchType k) (hcell : S.heap[a]? = some cell) (hst : ∀ k, cell.vm ≠ .statics k) (hk1 : ∃ q, S.vm.classes[cell.cls]? = some q) (hk2 : ∃ q, S.vm.classes[k]? = some q) (hfit : S.vm.assignable cell.cls k = true)
    (Q : Handler → Pre) (E : CtlPost) (d : Bool) (acts : List Action) : wp (findHandler f a) Q E e d acts S ↔ Q (.found x.handlerPc) d acts (S.setVm (S.vm.noted f.method.cls x.catchType (.cls k))) := by
  rw [Jvm.W.findHandler_eq hm hc, htab]
  simp only [covers] at hcov
  obtain ⟨r1, r2⟩ := (resolveClass_links e.toSetting hl).op (op := VmOp.resolveClass f.method.cls x.catchType) rfl
  have hal : S.vm.Alike (S.vm.noted f.method.cls x.catchType (.cls k)) := (Vm.Alike.refl S.vm).noted _ _ _
  obtain ⟨q1, hq1⟩ := hk1
  obtain ⟨q2, hq2⟩ := hk2
  obtain ⟨q1', hq1', -⟩ := hal.2.2 _ _ hq1
  obtain ⟨q2', hq2', -⟩ := hal.2.2 _ _ hq2
  have hfit' : (S.vm.noted f.method.cls x.catchType (.cls k)).assignable cell.cls k = true := by rw [hal.assignable]; exact hfit
  simp [findHandler.go, hcov, h0, r1, r2, hcell, hst, hq1', hq2', hfit', VmOp.dirties, VmOp.acts]
/-- one step: from the note to the handler -/
theorem th_step {tb : Tables} {e : Env} {T target : State} {g : JFrame} {c : Code} {below : List Frame} {a : Addr} {pc : Nat} {vm' : Vm} (h : At T g.method c below)
    (hf : ∀ (Q : Handler → Pre) (E : CtlPost) (d : Bool) (acts : List Action), wp (findHandler g a) Q E e d acts ((T.setTop g).pushFrame (.throwing a)) ↔ Q (.found pc) d acts (((T.setTop g).pushFrame (.throwing a)).setVm vm'))
    (hrest : Steps tb e below ((T.setVm vm').setTop { g with pc := pc, stack := [.ref a] }) target) : Steps tb e below ((T.setTop g).pushFrame (.throwing a)) target := by
  obtain ⟨hgo, hw⟩ := h.throwing a
  refine Steps.head hgo hw ?_
  obtain ⟨g₀, hg⟩ := Option.isSome_iff_exists.mp h.top
  obtain ⟨r, hr⟩ := State.topJava?_eq_some.mp hg
  have hone : (stepThrowing e ((T.setTop g).pushFrame (.throwing a)) a (.java g :: T.frames.tail)).Is ((((T.setTop g).pushFrame (.throwing a)).setVm vm').setFrames (.java { g with pc := pc, stack := [.ref a] } :: T.frames.tail)) [] := by
    simp only [stepThrowing, searchFrame, vmDo]
    generalize hres : Sem.go _ e false [] ((T.setTop g).pushFrame (.throwing a)) = res
    obtain ⟨as, rfl, ha⟩ := Sem.eq_ok_of hres (a := Handler.found pc) (s' := ((T.setTop g).pushFrame (.throwing a)).setVm vm') (acts' := []) (by simp [hf _ _ _ _])
    exact ⟨rfl, ha⟩
  rw [stepThread_throwing (frames_entered h.top _), hone.1]
  have hr' : (T.setVm vm').frames = .java g₀ :: r := hr
  rw [State.setTop_of_frames _ hr'] at hrest
  have e1 : (((T.setTop g).pushFrame (.throwing a)).setVm vm').setFrames (.java { g with pc := pc, stack := [.ref a] } :: T.frames.tail) = (T.setVm vm').setFrames (.java { g with pc := pc, stack := [.ref a] } :: r) := by
    have z : ∀ (F G : List Frame), ((T.setFrames F).setVm vm').setFrames G = (T.setVm vm').setFrames G := fun F G => by
      have : (T.setFrames F).setVm vm' = (T.setVm vm').setFrames F := rfl
      rw [this, State.setFrames_setFrames]
    rw [hr, List.tail_cons, State.pushFrame, State.setTop_of_frames _ hr, State.setFrames_setFrames, z]
  rw [e1]
  exact hrest
/-- caught by the first row of this method's table -/
theorem th_catch {p : Program} {l : Launch} {e : Env} {R : Room} {s : State} {m : MethodId} {args : Array Value} {below : List Frame} {meth : Method} {c : Code} {H : Heap} {locs : List Loc} {cells slots : Nat} {Q : State → Prop} {pc : Nat} {ls : Array Slot} {rest : List Value}
    {own name E : String} {ce : Cell} {q : Addr} (hown : s.vm.findClass own = some m.cls) (x : ExceptionTableEntry) (suf : List ExceptionTableEntry) (htab : c.exceptionTable.toList = x :: suf) (hx : covers x pc = true) (h0 : x.catchType ≠ 0)
    (hlink : (Cond.classLink own x.catchType name).before args s = true) (hcast : (Cond.castable E name).before args s = true) (hcell : H[q]? = some ce) (hv : ce.vm = .none) (hcl : s.vm.findClass E = some ce.cls)
    (kk : W p l e R s m args below meth c H locs cells slots Q (F0 m x.handlerPc ls [.ref q])) : vx_W p l e R s m args below meth c H locs cells slots Q (F0 m pc ls rest) q := by
  intro T hT X
  have hpl : e.platform.magicAccessors = ({} : Platform).magicAccessors := by rw [X.admits.platform]
  obtain ⟨c3, c4, hc3, hc4, hasg⟩ := Cond.castable_spec hcast
  cases Option.some.inj (hc3.symm.trans hcl)
  obtain ⟨c5, hc5, hcl5⟩ := Cond.classLink_spec hown hlink e.platform hpl
  cases Option.some.inj (hc4.symm.trans hc5)
  obtain ⟨dk, _, _, kt, hd, _, _, _, _, hkt, _, hopen⟩ := hcl5.here
  have hW' : s.WarmedH (T.vm.noted m.cls x.catchType (.cls c4)) := X.warmed.noted hd hopen (State.rightAt_cls hcl5)
  have hal := X.warmed.alike
  obtain ⟨kt', hkt', -⟩ := hal.2.2 _ _ hkt
  have hfit : T.vm.assignable ce.cls c4 = true := by rw [hal.assignable]; exact hasg
  obtain ⟨t, a1, b1⟩ := kk (T.setVm (T.vm.noted m.cls x.catchType (.cls c4))) hT (X.noted hW')
  refine ⟨t, th_step (g := F0 m pc ls rest) (pc := x.handlerPc) X.here (th_finds (e := e) (S := (T.setTop (F0 m pc ls rest)).pushFrame (.throwing q)) (f := F0 m pc ls rest) (a := q) (meth := meth) (c := c) X.method' X.code htab hx h0 (k := c4) (cell := ce) (X.warmed.classLinks hcl5) (show T.heap[q]? = some ce by rw [hT]; exact hcell) (fun k => by rw [hv]; intro h; cases h) (Vm.classAt_of_assignable hfit ⟨kt', hkt'⟩) ⟨kt', hkt'⟩ hfit) a1, b1⟩
end
section
/-! MY OWN BASE: contracts of methods that read, and of methods that write and make nothing -/
abbrev rRm (f lo : Nat) : Room := { frames := f, cells := 0, slots := 0, locals := lo }
def aw (ws : va_W) : Nat → Prop := fun q => q ∈ ws.map Prod.fst
theorem aw_at {ws : va_W} {k : Nat} {q : Nat × va_E} (h : ws[k]? = some q) : aw ws q.1 := List.mem_map.mpr ⟨q, List.mem_of_getElem? h, rfl⟩
theorem aw_D {ws : va_W} {B : Nat → Prop} (h : va_D B ws) : va_D (aw ws) ws := ⟨h.1, fun _ _ hk => aw_at hk⟩
theorem aw_fst {ws ws' : va_W} (e : ws'.map Prod.fst = ws.map Prod.fst) {A : Nat → Prop} (h : va_D A ws) : va_D A ws' := by
  have key : ∀ (k : Nat) (q : Nat × va_E), ws'[k]? = some q → ∃ q0, ws[k]? = some q0 ∧ q0.1 = q.1 := by
    intro k q hk
    have h1 : (ws'.map Prod.fst)[k]? = some q.1 := by rw [List.getElem?_map, hk]; rfl
    rw [e, List.getElem?_map] at h1
    cases h2 : ws[k]? with
    | none => rw [h2] at h1; cases h1
    | some q0 => rw [h2] at h1; exact ⟨q0, rfl, Option.some.inj h1⟩
  refine ⟨fun i j x y hx hy hxy => ?_, fun k q hk => ?_⟩
  · obtain ⟨x0, a1, a2⟩ := key i x hx
    obtain ⟨y0, b1, b2⟩ := key j y hy
    exact h.1 i j x0 y0 a1 b1 (by rw [a2, b2, hxy])
  · obtain ⟨q0, a1, a2⟩ := key k q hk
    rw [← a2]; exact h.2 k q0 a1
theorem aw_eq {ws ws' : va_W} (e : ws'.map Prod.fst = ws.map Prod.fst) : aw ws' = aw ws := by unfold aw; rw [e]
theorem va_D_mid {A : Nat → Prop} {a b c : va_W} (h : va_D A (a ++ (b ++ c))) : va_D A b ∧ (∀ q, aw b q → A q) ∧ (∀ q, aw a q ∨ aw c q → ¬ aw b q) := by
  have e1 : ∀ (k : Nat) (q : Nat × va_E), a[k]? = some q → (a ++ (b ++ c))[k]? = some q := fun k q hk => by
    rw [List.getElem?_append_left (List.getElem?_eq_some_iff.mp hk).1]; exact hk
  have e2 : ∀ (k : Nat) (q : Nat × va_E), b[k]? = some q → (a ++ (b ++ c))[a.length + k]? = some q := fun k q hk => by
    rw [List.getElem?_append_right (by omega), Nat.add_sub_cancel_left, List.getElem?_append_left (List.getElem?_eq_some_iff.mp hk).1]; exact hk
  have e3 : ∀ (k : Nat) (q : Nat × va_E), c[k]? = some q → (a ++ (b ++ c))[a.length + (b.length + k)]? = some q := fun k q hk => by
    rw [List.getElem?_append_right (by omega), Nat.add_sub_cancel_left, List.getElem?_append_right (by omega), Nat.add_sub_cancel_left]; exact hk
  refine ⟨⟨fun i j x y hx hy hxy => ?_, fun k q hk => h.2 _ q (e2 k q hk)⟩, fun q hq => ?_, fun q hq hb => ?_⟩
  · have := h.1 _ _ x y (e2 i x hx) (e2 j y hy) hxy
    omega
  · obtain ⟨x, hx, rfl⟩ := List.mem_map.mp hq
    obtain ⟨k, hk⟩ := List.getElem?_of_mem hx
    exact h.2 _ x (e2 k x hk)
  · obtain ⟨y, hy, hyq⟩ := List.mem_map.mp hb
    obtain ⟨j, hj⟩ := List.getElem?_of_mem hy
    have hjl := (List.getElem?_eq_some_iff.mp hj).1
    rcases hq with hq | hq
    · obtain ⟨x, hx, hxq⟩ := List.mem_map.mp hq
      obtain ⟨k, hk⟩ := List.getElem?_of_mem hx
      have hkl := (List.getElem?_eq_some_iff.mp hk).1
      have := h.1 _ _ x y (e1 k x hk) (e2 j y hj) (by rw [hxq, hyq])
      omega
    · obtain ⟨x, hx, hxq⟩ := List.mem_map.mp hq
      obtain ⟨k, hk⟩ := List.getElem?_of_mem hx
      have := h.1 _ _ x y (e3 k x hk) (e2 j y hj) (by rw [hxq, hyq])
      omega
theorem va_P_split {D : va_G} {cl : List vw_C} {a b : va_W} {H : Heap} (h : va_P D cl (a ++ b) H) : va_P D cl a H ∧ va_P D cl b H := by
  refine ⟨fun k q hk => h k q ?_, fun k q hk => h (a.length + k) q ?_⟩
  · rw [List.getElem?_append_left (List.getElem?_eq_some_iff.mp hk).1]; exact hk
  · rw [List.getElem?_append_right (by omega), Nat.add_sub_cancel_left]; exact hk
theorem va_P_lt {D : va_G} {cl : List vw_C} {ws : va_W} {H : Heap} (h : va_P D cl ws H) {q : Nat} (hq : aw ws q) : q < H.size := by
  obtain ⟨x, hx, rfl⟩ := List.mem_map.mp hq
  obtain ⟨k, hk⟩ := List.getElem?_of_mem hx
  exact (h k x hk).lt
abbrev rP (D : va_G) (tys : List (ClassId × FieldType)) (ws : va_W) (av : List Value) : Array Value → State → Prop := va_Pc av (fun U => va_P D vwCl ws U.heap ∧ va_K D vwCl tys U)
abbrev rQ (v : Value) : Array Value → State → Outcome → State → Prop := fun _ st o t => o = .returned (some v) ∧ t.heap = st.heap
abbrev rMet (l : Launch) (y : MethodName) (wd : List Cond) (f lo : Nat) (D : va_G) (tys : List (ClassId × FieldType)) (ws : va_W) (av : List Value) (v : Value) : Prop := Met l y wd (rRm f lo) (rP D tys ws av) (rQ v) 0 0 (fun _ => False)
abbrev wP (D : va_G) (tys : List (ClassId × FieldType)) (ws : va_W) (av : List Value) : Array Value → State → Prop := va_Pc av (fun U => va_P D vwCl ws U.heap ∧ va_K D vwCl tys U ∧ va_D (fun _ => True) ws)
abbrev wQ (D : va_G) (ws ws' : va_W) (ov : Option Value) : Array Value → State → Outcome → State → Prop := fun _ st o t => o = .returned ov ∧ va_P D vwCl ws' t.heap ∧ va_F (aw ws) st t
abbrev wMet (l : Launch) (y : MethodName) (wd : List Cond) (f lo : Nat) (D : va_G) (tys : List (ClassId × FieldType)) (ws ws' : va_W) (av : List Value) (ov : Option Value) : Prop := Met l y wd (rRm f lo) (wP D tys ws av) (wQ D ws ws' ov) 0 0 (aw ws)
theorem rP_blind (D : va_G) (tys : List (ClassId × FieldType)) (ws : va_W) (av : List Value) : FrameBlind (rP D tys ws av) := fun a U g mk q => by
  obtain ⟨q0, qP, qK⟩ := q
  exact ⟨q0, qP, va_K.moved (u := U) (U := U.calling g mk a) (Vm.Alike.refl U.vm) qK⟩
theorem wP_blind (D : va_G) (tys : List (ClassId × FieldType)) (ws : va_W) (av : List Value) : FrameBlind (wP D tys ws av) := fun a U g mk q => by
  obtain ⟨q0, qP, qK, qD⟩ := q
  exact ⟨q0, qP, va_K.moved (u := U) (U := U.calling g mk a) (Vm.Alike.refl U.vm) qK, qD⟩
section RB
variable {p : Program} {l : Launch} {e : Env} {R : Room} {s : State} {m : MethodId} {args : Array Value} {below : List Frame} {meth : Method} {c : Code} {H : Heap} {locs : List Loc} {cells slots : Nat} {Q : State → Prop}
variable {cc : ByteArray} {pc : Nat} {ls : Array Slot} {rest st0 : List Value} {D : va_G} {A : Nat → Prop} {tys : List (ClassId × FieldType)} {ws ws' wl wr wc wc' : va_W} {H0 : Heap}
variable {y : MethodName} {bytes : ByteArray} {maxL nL n index f lo : Nat} {ret : Option FieldType} {wd Ts : List Cond} {own C : String} {b : Addr} {As : List Value}
/-- a call of a virtual method that reads -/
theorem r_V {v : Value} (S : CallFix p m c cc nL s args Ts own) (hM : rMet l y wd f lo D tys ws (.ref b :: As) v) (cw : CallW R s args own C index y bytes maxL ret wd (rRm f lo) 0 0 n) (hP : va_P D vwCl ws H) (hK : va_K D vwCl tys s) (hrc : ∃ cellB : Cell, H[b]? = some cellB ∧ cellB.vm.isStatics = false ∧ s.vm.findClass C = some cellB.cls)
    (hn : As.length = n) (hsize : ls.size = nL) (hst : st0 = As.reverse ++ .ref b :: rest) (hW : (rest.map fun v => v.category).sum ≤ 8) (hdg : decode cc pc = .ok (.invokevirtual index, 3)) (hc : cells ≤ R.cells) (hs : slots ≤ R.slots)
    (kk : W p l e R s m args below meth c H locs cells slots Q (F0 m (pc + 3) ls (v :: rest))) : W p l e R s m args below meth c H locs cells slots Q (F0 m pc ls st0) := by
  have hr := W.runV (e := e) (below := below) (meth := meth) (locs := locs) (cells := cells) (slots := slots) (rest := rest) (g := F0 m pc ls st0) S hM cw ⟨rP_blind _ _ _ _, hrc, fun U h hW => ⟨rfl, by rw [h]; exact hP, va_K.moved hW.alike hK⟩⟩ rfl hn hsize hst (lv_room hW) hdg ⟨hc, hs⟩
  intro T hT X
  obtain ⟨v', st₀, t, T', L, h0, X', hL, e1, ⟨hv, hh⟩, st⟩ := hr T hT X
  cases hv
  have hL0 : L = [] := by
    cases L with
    | nil => rfl
    | cons q _ => exact absurd (hL q List.mem_cons_self) id
  subst hL0
  rw [List.append_nil] at X'
  obtain ⟨t2, a1, b1⟩ := kk T' (by rw [e1, hh, h0]) X'
  exact ⟨t2, st t2 a1, b1⟩
/-- a call of a static method that reads -/
theorem r_S {v : Value} (S : CallFix p m c cc nL s args Ts own) (hM : rMet l y wd f lo D tys ws As v) (cw : CallB R s args own index y bytes maxL ret wd (rRm f lo) 0 0 n ∧ (Cond.static y).before args s = true) (hP : va_P D vwCl ws H) (hK : va_K D vwCl tys s)
    (hn : As.length = n) (hsize : ls.size = nL) (hst : st0 = As.reverse ++ rest) (hW : (rest.map fun v => v.category).sum ≤ 8) (hdg : decode cc pc = .ok (.invokestatic index, 3)) (hc : cells ≤ R.cells) (hs : slots ≤ R.slots)
    (kk : W p l e R s m args below meth c H locs cells slots Q (F0 m (pc + 3) ls (v :: rest))) : W p l e R s m args below meth c H locs cells slots Q (F0 m pc ls st0) := by
  have hr := W.runS (e := e) (below := below) (meth := meth) (locs := locs) (cells := cells) (slots := slots) (rest := rest) (g := F0 m pc ls st0) S hM cw ⟨rP_blind _ _ _ _, fun U h hW => ⟨rfl, by rw [h]; exact hP, va_K.moved hW.alike hK⟩⟩ rfl hn hsize hst (lv_room hW) hdg ⟨hc, hs⟩
  intro T hT X
  obtain ⟨v', st₀, t, T', L, h0, X', hL, e1, ⟨hv, hh⟩, st⟩ := hr T hT X
  cases hv
  have hL0 : L = [] := by
    cases L with
    | nil => rfl
    | cons q _ => exact absurd (hL q List.mem_cons_self) id
  subst hL0
  rw [List.append_nil] at X'
  obtain ⟨t2, a1, b1⟩ := kk T' (by rw [e1, hh, h0]) X'
  exact ⟨t2, st t2 a1, b1⟩
/-- a call of a virtual method that writes its own world, a part of the caller's -/
theorem w_V {ov : Option Value} (S : CallFix p m c cc nL s args Ts own) (hM : wMet l y wd f lo D tys wc wc' (.ref b :: As) ov) (cw : CallW R s args own C index y bytes maxL ret wd (rRm f lo) 0 0 n) (wl wr : va_W) (hP : va_P D vwCl (wl ++ (wc ++ wr)) H) (hD : va_D A (wl ++ (wc ++ wr))) (hS : va_S A H0 H locs) (hK : va_K D vwCl tys s) (hrc : ∃ cellB : Cell, H[b]? = some cellB ∧ cellB.vm.isStatics = false ∧ s.vm.findClass C = some cellB.cls)
    (hn : As.length = n) (hsize : ls.size = nL) (hst : st0 = As.reverse ++ .ref b :: rest) (hW : (rest.map fun v => v.category).sum ≤ 8) (hdg : decode cc pc = .ok (.invokevirtual index, 3)) (hc : cells ≤ R.cells) (hs : slots ≤ R.slots)
    (kk : ∀ (H1 : Heap) (locs1 : List Loc), va_P D vwCl (wl ++ (wc' ++ wr)) H1 → va_S A H0 H1 locs1 → W p l e R s m args below meth c H1 locs1 cells slots Q (F0 m (pc + 3) ls (ov.toList ++ rest))) : W p l e R s m args below meth c H locs cells slots Q (F0 m pc ls st0) := by
  obtain ⟨d1, d2, d3⟩ := va_D_mid hD
  obtain ⟨hPl, hPcr⟩ := va_P_split hP
  obtain ⟨hPc, hPr⟩ := va_P_split hPcr
  have hr := W.runV (e := e) (below := below) (meth := meth) (locs := locs) (cells := cells) (slots := slots) (rest := rest) (g := F0 m pc ls st0) S hM cw ⟨wP_blind _ _ _ _, hrc, fun U h hW => ⟨rfl, by rw [h]; exact hPc, va_K.moved hW.alike hK, d1.weaken (fun _ _ _ _ => trivial)⟩⟩ rfl hn hsize hst (lv_room hW) hdg ⟨hc, hs⟩
  intro T hT X
  obtain ⟨v', st₀, t, T', L, h0, X', hL, e1, ⟨hv, hPn, hz, hk⟩, st⟩ := hr T hT X
  cases hv
  rw [h0] at hz hk
  have hkeep : ∀ q, aw wl q ∨ aw wr q → q < H.size → T'.heap[q]? = H[q]? := fun q hq hlt => by rw [e1]; exact hk q hlt (d3 q hq)
  have hP1 : va_P D vwCl (wl ++ (wc' ++ wr)) T'.heap := by
    refine va_P.app (hPl.kept fun k q hq => hkeep _ (Or.inl (aw_at hq)) (va_P_lt hPl (aw_at hq))) (va_P.app (by rw [e1]; exact hPn) (hPr.kept fun k q hq => hkeep _ (Or.inr (aw_at hq)) (va_P_lt hPr (aw_at hq))))
  obtain ⟨t2, a1, b1⟩ := kk T'.heap (locs ++ L) hP1 ⟨Nat.le_trans hS.1 (by rw [e1]; exact hz), fun q h1 h2 => by rw [e1, hk q (Nat.lt_of_lt_of_le h1 hS.1) (fun z => h2 (d2 q z))]; exact hS.2.1 q h1 h2, fun q hq => by
      rcases List.mem_append.mp hq with h | h
      · exact hS.2.2 q h
      · exact d2 _ (hL q h)⟩ T' rfl X'
  exact ⟨t2, st t2 a1, b1⟩
/-- rows of ints, by a number -/
theorem a_ld (hx : p.tables.exec = Jvm.exec) (hb : c.code = cc) (hK : va_K D vwCl tys s) (hP : va_P D vwCl ws H) (q0 t0 : Nat) {a : Nat} {cA : ClassId} {n : Nat} {g : Nat → Int32} (ha : ws[q0]? = some (a, .inl (cA, n, .inl g))) (ht : tys[t0]? = some (cA, .int)) {i : Int32} (k : Nat) (hi : i = nI k) (hk : k < n) (hn : n < 2 ^ 31) (hdg : decode cc pc = .ok (.iaload, 1))
    (kk : W p l e R s m args below meth c H locs cells slots Q (F0 m (pc + 1) ls (.int (g k) :: rest))) : W p l e R s m args below meth c H locs cells slots Q (F0 m pc ls (.int i :: .ref a :: rest)) := by
  subst hi
  refine va_iald hx hb hK hP q0 t0 ha ht (vp_in_nI hk hn) hdg ?_
  rw [nI_clamp (by omega)]; exact kk
theorem a_st (hx : p.tables.exec = Jvm.exec) (hb : c.code = cc) (hK : va_K D vwCl tys s) (hP : va_P D vwCl ws H) (hD : va_D A ws) (hS : va_S A H0 H locs) (q0 t0 : Nat) {a : Nat} {cA : ClassId} {n : Nat} {g : Nat → Int32} (ha : ws[q0]? = some (a, .inl (cA, n, .inl g))) (ht : tys[t0]? = some (cA, .int)) {i x : Int32} (k : Nat) (hi : i = nI k) (hk : k < n) (hn : n < 2 ^ 31) (hdg : decode cc pc = .ok (.iastore, 1))
    (kk : ∀ (H1 : Heap) (locs1 : List Loc), va_P D vwCl (ws.set q0 (a, .inl (cA, n, .inl (upd g k x)))) H1 → va_S A H0 H1 locs1 → W p l e R s m args below meth c H1 locs1 cells slots Q (F0 m (pc + 1) ls rest)) : W p l e R s m args below meth c H locs cells slots Q (F0 m pc ls (.int x :: .int i :: .ref a :: rest)) := by
  subst hi
  refine va_iast hx hb hK hP hD hS q0 t0 ha ht (vp_in_nI hk hn) hdg fun H1 locs1 h1 _ h3 => ?_
  rw [nI_clamp (by omega)] at h1
  exact kk H1 locs1 h1 h3
theorem a_ldl (hx : p.tables.exec = Jvm.exec) (hb : c.code = cc) (hK : va_K D vwCl tys s) (hP : va_P D vwCl ws H) (q0 t0 : Nat) {a : Nat} {cA : ClassId} {n : Nat} {g : Nat → Int64} (ha : ws[q0]? = some (a, .inl (cA, n, .inr (.inl g)))) (ht : tys[t0]? = some (cA, .long)) {i : Int32} (k : Nat) (hi : i = nI k) (hk : k < n) (hn : n < 2 ^ 31) (hdg : decode cc pc = .ok (.laload, 1))
    (kk : W p l e R s m args below meth c H locs cells slots Q (F0 m (pc + 1) ls (.long (g k) :: rest))) : W p l e R s m args below meth c H locs cells slots Q (F0 m pc ls (.int i :: .ref a :: rest)) := by
  subst hi
  refine va_lald hx hb hK hP q0 t0 ha ht (vp_in_nI hk hn) hdg ?_
  rw [nI_clamp (by omega)]; exact kk
theorem a_stl (hx : p.tables.exec = Jvm.exec) (hb : c.code = cc) (hK : va_K D vwCl tys s) (hP : va_P D vwCl ws H) (hD : va_D A ws) (hS : va_S A H0 H locs) (q0 t0 : Nat) {a : Nat} {cA : ClassId} {n : Nat} {g : Nat → Int64} (ha : ws[q0]? = some (a, .inl (cA, n, .inr (.inl g)))) (ht : tys[t0]? = some (cA, .long)) {i : Int32} {x : Int64} (k : Nat) (hi : i = nI k) (hk : k < n) (hn : n < 2 ^ 31) (hdg : decode cc pc = .ok (.lastore, 1))
    (kk : ∀ (H1 : Heap) (locs1 : List Loc), va_P D vwCl (ws.set q0 (a, .inl (cA, n, .inr (.inl (vp_updL g k x))))) H1 → va_S A H0 H1 locs1 → W p l e R s m args below meth c H1 locs1 cells slots Q (F0 m (pc + 1) ls rest)) : W p l e R s m args below meth c H locs cells slots Q (F0 m pc ls (.long x :: .int i :: .ref a :: rest)) := by
  subst hi
  refine va_last hx hb hK hP hD hS q0 t0 ha ht (vp_in_nI hk hn) hdg fun H1 locs1 h1 _ h3 => ?_
  rw [nI_clamp (by omega)] at h1
  exact kk H1 locs1 h1 h3
theorem a_inc (hx : p.tables.exec = Jvm.exec) (hb : c.code = cc) {i nL k : Nat} (j : Nat) {lv lv' : List (Nat × Value)} (hdg : decode cc pc = .ok (.iinc i 1, 3)) (h : lv_has ls nL lv) (hk : lv[k]? = some (i, .int (nI j))) (hn : i < nL) (hl : (i, Value.int (nI (j + 1))) :: lv.filter (fun q => !(q.1 == i) && !(q.1 + 1 == i && q.2.category == 2)) = lv')
    (kk : ∀ ls' : Array Slot, lv_has ls' nL lv' → W p l e R s m args below meth c H locs cells slots Q (F0 m (pc + 3) ls' rest)) : W p l e R s m args below meth c H locs cells slots Q (F0 m pc ls rest) :=
  lv_iinc hx hb hdg h hk (by have : Int32.ofInt 1 = 1 := by decide
                             rw [this]; exact nI_1 j) hn hl kk
end RB
/-- induction down from n -/
theorem dn_ind {P : Nat → Prop} (n : Nat) (h0 : P n) (hs : ∀ i, i < n → P (i + 1) → P i) : ∀ i, i ≤ n → P i := by
  have key : ∀ d i, i + d = n → P i := by
    intro d
    induction d with
    | zero => intro i hi; have : i = n := by omega
              rw [this]; exact h0
    | succ d ih => intro i hi; exact hs i (by omega) (ih (i + 1) (by omega))
  intro i hi
  exact key (n - i) i (by omega)
theorem P_nil {D : va_G} {cl : List vw_C} {H : Heap} : va_P D cl [] H := fun k q h => by simp at h
section RL
variable {p : Program} {l : Launch} {e : Env} {R : Room} {s : State} {m : MethodId} {args : Array Value} {below : List Frame} {meth : Method} {c : Code} {H : Heap} {locs : List Loc} {cells slots : Nat} {Q : State → Prop} {pc : Nat} {ls : Array Slot} {rest : List Value} {g : JFrame}
theorem top_eq {x y : Int32} (h : x = y) (k : W p l e R s m args below meth c H locs cells slots Q (F0 m pc ls (.int y :: rest))) : W p l e R s m args below meth c H locs cells slots Q (F0 m pc ls (.int x :: rest)) := h ▸ k
theorem top_eql {x y : Int64} (h : x = y) (k : W p l e R s m args below meth c H locs cells slots Q (F0 m pc ls (.long y :: rest))) : W p l e R s m args below meth c H locs cells slots Q (F0 m pc ls (.long x :: rest)) := h ▸ k
/-- roads that meet -/
theorem W_jn {β : Type} (P : β → Prop) (F : β → JFrame) (h1 : (∀ b, P b → W p l e R s m args below meth c H locs cells slots Q (F b)) → W p l e R s m args below meth c H locs cells slots Q g) (h2 : ∀ b, P b → W p l e R s m args below meth c H locs cells slots Q (F b)) : W p l e R s m args below meth c H locs cells slots Q g := h1 h2
/-- roads that meet, each with its own heap -/
theorem W_jw {β : Type} (P : β → Heap → List Loc → Prop) (F : β → JFrame) (h1 : (∀ b H1 L1, P b H1 L1 → W p l e R s m args below meth c H1 L1 cells slots Q (F b)) → W p l e R s m args below meth c H locs cells slots Q g) (h2 : ∀ b H1 L1, P b H1 L1 → W p l e R s m args below meth c H1 L1 cells slots Q (F b)) : W p l e R s m args below meth c H locs cells slots Q g := h1 h2
/-- a loop that counts up to n, over an unchanged heap -/
theorem W_lr (Inv : Nat → Array Slot → Prop) (n i0 : Nat) (hi : i0 ≤ n) (h0 : Inv i0 ls) (hx : ∀ ls, Inv n ls → W p l e R s m args below meth c H locs cells slots Q (F0 m pc ls rest))
    (hs : ∀ i ls, i < n → Inv i ls → (∀ ls', Inv (i + 1) ls' → W p l e R s m args below meth c H locs cells slots Q (F0 m pc ls' rest)) → W p l e R s m args below meth c H locs cells slots Q (F0 m pc ls rest)) : W p l e R s m args below meth c H locs cells slots Q (F0 m pc ls rest) :=
  dn_ind (P := fun i => ∀ ls, Inv i ls → W p l e R s m args below meth c H locs cells slots Q (F0 m pc ls rest)) n hx (fun i hi ih ls hl => hs i ls hi hl ih) i0 hi ls h0
/-- a loop that counts up to n, and writes -/
theorem W_lw (Inv : Nat → Array Slot → Heap → List Loc → Prop) (n i0 : Nat) (hi : i0 ≤ n) (h0 : Inv i0 ls H locs) (hx : ∀ ls H locs, Inv n ls H locs → W p l e R s m args below meth c H locs cells slots Q (F0 m pc ls rest))
    (hs : ∀ i ls H locs, i < n → Inv i ls H locs → (∀ ls' H' locs', Inv (i + 1) ls' H' locs' → W p l e R s m args below meth c H' locs' cells slots Q (F0 m pc ls' rest)) → W p l e R s m args below meth c H locs cells slots Q (F0 m pc ls rest)) : W p l e R s m args below meth c H locs cells slots Q (F0 m pc ls rest) :=
  dn_ind (P := fun i => ∀ ls H locs, Inv i ls H locs → W p l e R s m args below meth c H locs cells slots Q (F0 m pc ls rest)) n hx (fun i hi ih ls H locs hl => hs i ls H locs hi hl ih) i0 hi ls H locs h0
end RL
/-- what a loop has made after n rounds -/
def fd {α : Type} (f : Nat → α → α) (a : α) : Nat → α
  | 0 => a
  | n + 1 => f n (fd f a n)
/-- one cell of one row of a state -/
def up2 (σ : Nat → Nat → Int32) (a k : Nat) (v : Int32) : Nat → Nat → Int32 := fun b => bif Nat.beq b a then upd (σ a) k v else σ b
abbrev tY (cI cJ : ClassId) : List (ClassId × FieldType) := [(cI, .int), (cJ, .long)]
/-- the cells of a Section -/
abbrev wS (ad : Nat → Nat) (cI : ClassId) (X Y : Nat) (σ : Nat → Nat → Int32) : va_W :=
  [(ad 8, .inr (0, [.int (nI X), .int (nI Y), .int (nI (X + 2)), .ref (ad 0), .ref (ad 1), .ref (ad 2), .ref (ad 3), .ref (ad 4), .ref (ad 5), .ref (ad 6), .ref (ad 7), .int (σ 8 0), .int (σ 8 1), .int (σ 8 2)])),
   (ad 0, .inl (cI, (X + 2) * (Y + 2), .inl (σ 0))), (ad 1, .inl (cI, (X + 2) * (Y + 2), .inl (σ 1))), (ad 2, .inl (cI, (X + 2) * (Y + 2), .inl (σ 2))), (ad 3, .inl (cI, (X + 2) * (Y + 2), .inl (σ 3))), (ad 4, .inl (cI, (X + 2) * (Y + 2), .inl (σ 4))), (ad 5, .inl (cI, (X + 2) * (Y + 2), .inl (σ 5))), (ad 6, .inl (cI, 4, .inl (σ 6))), (ad 7, .inl (cI, 4, .inl (σ 7)))]
/-- the place of a cell -/
def pl (X i j : Nat) : Nat := (j + 1) * (X + 2) + i + 1
theorem pl_N {X Y : Nat} (hB : 1 ≤ X ∧ X ≤ 10 ∧ 1 ≤ Y ∧ Y ≤ 10) : (X + 2) * (Y + 2) < 2 ^ 31 := by
  have : (X + 2) * (Y + 2) ≤ 12 * 12 := Nat.mul_le_mul (by omega) (by omega)
  omega
theorem pl_lt {X Y i j : Nat} (hi : i < X) (hj : j < Y) : pl X i j + (X + 2) < (X + 2) * (Y + 2) ∧ X + 2 ≤ pl X i j := by
  have h1 : (j + 1 + 1) * (X + 2) ≤ (Y + 1) * (X + 2) := Nat.mul_le_mul_right _ (by omega)
  have h2 : (Y + 1) * (X + 2) + (X + 2) = (X + 2) * (Y + 2) := by rw [← Nat.succ_mul, Nat.mul_comm]
  have h3 : (j + 1 + 1) * (X + 2) = (j + 1) * (X + 2) + (X + 2) := Nat.succ_mul _ _
  have h4 : 1 * (X + 2) ≤ (j + 1) * (X + 2) := Nat.mul_le_mul_right _ (by omega)
  unfold pl
  omega
theorem pl_in {X Y i j : Nat} (hi : i < X) (hj : j < Y) : pl X i j < (X + 2) * (Y + 2) := by have := pl_lt hi hj; omega
end
