/-! THE CLASS'S OWN THROWS -/
abbrev nIAE : String := "java/lang/IllegalArgumentException"
abbrev nISE : String := "java/lang/IllegalStateException"
abbrev nSup : List String := ["java/lang/RuntimeException", "java/lang/Exception"]
def thI : List Cond := [.declares (Bundle.initS "java/lang/RuntimeException"), .declares (Bundle.initS "java/lang/Exception"), .declares (Bundle.initS Bundle.tN), .castable nIAE nIAE]
def thJ : List Cond := [.declares (Bundle.initS "java/lang/RuntimeException"), .declares (Bundle.initS "java/lang/Exception"), .declares (Bundle.initS Bundle.tN), .castable nISE nISE]
theorem thI_b : ∀ w ∈ (vx_atS RX1 47 nIAE nSup).filter (fun w => !goodWord w), w ∈ thI := by decide +kernel
theorem thJ_b : ∀ w ∈ (vx_atS RX1 143 nISE nSup).filter (fun w => !goodWord w), w ∈ thJ := by decide +kernel
theorem thI_g : ∀ w ∈ Cond.classLink RX1 43 nIAE :: Cond.initialized nIAE :: vx_atS RX1 47 nIAE nSup, vx_ot w = true := by decide +kernel
theorem thJ_g : ∀ w ∈ Cond.classLink RX1 139 nISE :: Cond.initialized nISE :: vx_atS RX1 143 nISE nSup, vx_ot w = true := by decide +kernel
def thStr : List (Nat × String) := [(45, "no such cell"), (50, "the first column or row is behind the last one"), (56, "leads is out of its bounds"), (70, "no such side"), (72, "warmth is out of its bounds"), (74, "film is out of its bounds"), (93, "what is out of its bounds"), (116, "part is out of its bounds"), (130, "axis is out of its bounds"), (141, "there are 10 joints"), (147, "no such joint"), (149, "metres is out of its bounds")]
/-- what a throw rests on beside good words: by the tables -/
def ThV (sa : Nat → Nat) (U : State) : Prop := (∀ w ∈ thI ++ thJ, w.before #[] U = true) ∧ (∀ q ∈ thStr, vk_R RX1 q.1 q.2 (sa q.1) U)
/-- .. and in the heap -/
def ThH (A : Nat → Prop) (U : State) (H : Heap) : Prop := vx_Zq Bundle.tN "UNASSIGNED_STACK" Bundle.steD A U H ∧ vx_Zq Bundle.tN "SUPPRESSED_SENTINEL" Bundle.listD A U H
theorem th_face {w : Cond} (hw : w ∈ thI ++ thJ) : (w.faceAtom && w.onTables) = true := by
  have : ∀ w ∈ thI ++ thJ, (w.faceAtom && w.onTables) = true := by decide +kernel
  exact this w hw
theorem ThV.moved {sa : Nat → Nat} {s U : State} (hW : s.WarmedH U.vm) (h : ThV sa s) : ThV sa U := by
  refine ⟨fun w hw => ?_, fun q hq => vk_R.warm hW (h.2 q hq)⟩
  have h1 := th_face hw
  rw [Bool.and_eq_true] at h1
  have h2 := Cond.faceAtom_setVm (args := #[]) hW.alike w h1.1 (h.1 w hw)
  have h3 := Cond.onTables_vm (A := #[]) (A' := #[]) (U := s) (U' := U) U.vm w h1.2
  rw [h3] at h2
  exact h2
theorem ThV.same {sa : Nat → Nat} {s U : State} (hv : U.vm = s.vm) (h : ThV sa s) : ThV sa U := by
  refine ⟨fun w hw => ?_, fun q hq => vk_R.same hv (h.2 q hq)⟩
  have h1 := th_face hw
  rw [Bool.and_eq_true] at h1
  exact va_tabs h1.2 hv.symm (h.1 w hw)
theorem ThV.at_ {sa : Nat → Nat} {s : State} {args : Array Value} (h : ThV sa s) : ∀ w ∈ thI ++ thJ, w.before args s = true := fun w hw => by
  have h1 := th_face hw
  rw [Bool.and_eq_true] at h1
  exact va_tabs h1.2 rfl (h.1 w hw)
theorem ThH.moved {A : Nat → Prop} {u U : State} {H : Heap} (hvm : u.vm.Alike U.vm) (h : ThH A u H) : ThH A U H := ⟨vx_Zq.moved hvm h.1, vx_Zq.moved hvm h.2⟩
theorem ThH.kept {A : Nat → Prop} {U : State} {H H1 : Heap} (h : ThH A U H) (hq : ∀ a : Nat, a < H.size → ¬ A a → H1[a]? = H[a]?) : ThH A U H1 := ⟨h.1.kept hq, h.2.kept hq⟩
theorem ThH.narrow {A B : Nat → Prop} {U : State} {H : Heap} (h : ThH A U H) (hAB : ∀ q, B q → A q) : ThH B U H := ⟨h.1.narrow hAB, h.2.narrow hAB⟩
abbrev tRm (f lo : Nat) : Room := { frames := f, cells := 1, slots := 6, locals := lo }
abbrev tP (D : va_G) (tys : List (ClassId × FieldType)) (sa : Nat → Nat) (ws : va_W) (av : List Value) : Array Value → State → Prop := va_Pc av (fun U => va_P D vwCl ws U.heap ∧ va_K D vwCl tys U ∧ ThV sa U ∧ ThH (fun _ => False) U U.heap)
abbrev tX (cls : String) : String → State → State → Prop := fun E s t => E = cls ∧ s.heap.size ≤ t.heap.size ∧ ∀ q : Nat, q < s.heap.size → t.heap[q]? = s.heap[q]?
abbrev tMet (l : Launch) (y : MethodName) (wd : List Cond) (f lo : Nat) (D : va_G) (tys : List (ClassId × FieldType)) (sa : Nat → Nat) (ws : va_W) (av : List Value) (cls : String) : Prop := vx_Met l y wd (tRm f lo) (tP D tys sa ws av) (fun _ _ _ _ => False) (tX cls) 1 6 (fun _ => False)
theorem tP_blind (D : va_G) (tys : List (ClassId × FieldType)) (sa : Nat → Nat) (ws : va_W) (av : List Value) : FrameBlind (tP D tys sa ws av) := fun a U g mk q => by
  obtain ⟨q0, qP, qK, qV, qH⟩ := q
  exact ⟨q0, qP, va_K.moved (u := U) (U := U.calling g mk a) (Vm.Alike.refl U.vm) qK, ThV.same (U := U.calling g mk a) (s := U) rfl qV, ThH.moved (u := U) (U := U.calling g mk a) (Vm.Alike.refl U.vm) qH⟩
section
variable {p : Program} {l : Launch} {e : Env} {R : Room} {s : State} {m : MethodId} {args : Array Value} {below : List Frame} {meth : Method} {c : Code} {cc : ByteArray} {pc nL : Nat} {ls : Array Slot} {rest : List Value} {lv : List (Nat × Value)} {Ts : List Cond} {sa : Nat → Nat}
/-- a throw of an IllegalArgumentException -/
theorem t_I (hx : p.tables.exec = Jvm.exec) (hb : c.code = cc) (hst : l.stackTraces = false) (hml : c.maxLocals = nL) (hown : s.vm.findClass RX1 = some m.cls) (hts : ∀ w ∈ Ts, w.before args s = true)
    (hin : ∀ w ∈ Cond.classLink RX1 43 nIAE :: Cond.initialized nIAE :: (vx_atS RX1 47 nIAE nSup).filter goodWord, w ∈ Ts) (hV : ThV sa s) (hH : ThH (fun _ => False) s s.heap) (hl : lv_has ls nL lv)
    (hlocks : meth.locks = false) (ht : ∀ x ∈ c.exceptionTable.toList, False) (is : Nat) (text : String) (hq : (is, text) ∈ thStr)
    (d0 : decode cc pc = .ok (.new 43, 3)) (d3 : decode cc (pc + 3) = .ok (.dup, 1)) (d4 : decode cc (pc + 4) = .ok (.ldc is, 2)) (d6 : decode cc (pc + 6) = .ok (.invokespecial 47, 3)) (d9 : decode cc (pc + 9) = .ok (.athrow, 1))
    (hf : 5 < R.frames) (hlo : (rest.map fun v => v.category).sum + 82 ≤ R.locals) (hc : 1 ≤ R.cells) (hs : 6 ≤ R.slots) :
    W p l e R s m args below meth c s.heap [] 0 0 (vx_MQ below (fun _ _ _ _ => False) (tX nIAE) args s 1 6 (fun _ => False)) (F0 m pc ls rest) :=
  vx_throwS (names := nSup) (A := fun _ => False) hx hb hst hown (by decide) (by decide) (hts _ (hin _ List.mem_cons_self)) (hts _ (hin _ (List.mem_cons_of_mem _ List.mem_cons_self))) (hV.2 _ hq)
    (vx_hat (fun w hw => hts w (hin w (List.mem_cons_of_mem _ (List.mem_cons_of_mem _ hw)))) thI_b (fun w hw => hV.at_ w (List.mem_append_left _ hw))) thI_g hH.1 hH.2
    ⟨Nat.le_refl _, fun _ _ _ => rfl, fun _ h => nomatch h⟩ (by rw [hml]; exact hl.1) d0 d3 d4 d6 d9 (fun x h => (ht x h).elim) hf hlo (by omega) (by omega) hlocks (fun t _ h2 h3 => ⟨rfl, h2, h3⟩) (fun _ h => nomatch h) (by omega) (by omega)
theorem t_J (hx : p.tables.exec = Jvm.exec) (hb : c.code = cc) (hst : l.stackTraces = false) (hml : c.maxLocals = nL) (hown : s.vm.findClass RX1 = some m.cls) (hts : ∀ w ∈ Ts, w.before args s = true)
    (hin : ∀ w ∈ Cond.classLink RX1 139 nISE :: Cond.initialized nISE :: (vx_atS RX1 143 nISE nSup).filter goodWord, w ∈ Ts) (hV : ThV sa s) (hH : ThH (fun _ => False) s s.heap) (hl : lv_has ls nL lv)
    (hlocks : meth.locks = false) (ht : ∀ x ∈ c.exceptionTable.toList, False) (is : Nat) (text : String) (hq : (is, text) ∈ thStr)
    (d0 : decode cc pc = .ok (.new 139, 3)) (d3 : decode cc (pc + 3) = .ok (.dup, 1)) (d4 : decode cc (pc + 4) = .ok (.ldc is, 2)) (d6 : decode cc (pc + 6) = .ok (.invokespecial 143, 3)) (d9 : decode cc (pc + 9) = .ok (.athrow, 1))
    (hf : 5 < R.frames) (hlo : (rest.map fun v => v.category).sum + 82 ≤ R.locals) (hc : 1 ≤ R.cells) (hs : 6 ≤ R.slots) :
    W p l e R s m args below meth c s.heap [] 0 0 (vx_MQ below (fun _ _ _ _ => False) (tX nISE) args s 1 6 (fun _ => False)) (F0 m pc ls rest) :=
  vx_throwS (names := nSup) (A := fun _ => False) hx hb hst hown (by decide) (by decide) (hts _ (hin _ List.mem_cons_self)) (hts _ (hin _ (List.mem_cons_of_mem _ List.mem_cons_self))) (hV.2 _ hq)
    (vx_hat (fun w hw => hts w (hin w (List.mem_cons_of_mem _ (List.mem_cons_of_mem _ hw)))) thJ_b (fun w hw => hV.at_ w (List.mem_append_right _ hw))) thJ_g hH.1 hH.2
    ⟨Nat.le_refl _, fun _ _ _ => rfl, fun _ h => nomatch h⟩ (by rw [hml]; exact hl.1) d0 d3 d4 d6 d9 (fun x h => (ht x h).elim) hf hlo (by omega) (by omega) hlocks (fun t _ h2 h3 => ⟨rfl, h2, h3⟩) (fun _ h => nomatch h) (by omega) (by omega)
end
