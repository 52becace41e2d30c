/-! ===== an exception whose constructor calls its super by another place of the pool: "java/util/NoSuchElementException" ===== -/
def vw_E : String := "java/util/NoSuchElementException"
def vw_up : List String := ["java/lang/RuntimeException", "java/lang/Exception"]
def vw_rx : ByteArray := ⟨#[0x2a, 0x2b, 0xb7, 0x00, 0x0d, 0xb1]⟩
def vw_L : List Cond := (Bundle.ownAtoms "VaneUnion" 108 vw_E vw_up).filter (fun w => decide (w ∉ Bundle.passSAtoms vw_E "java/lang/RuntimeException" 7 Bundle.six)) ++ Bundle.passSAtoms vw_E "java/lang/RuntimeException" 13 vw_rx
theorem vw_i1 : ∀ x ∈ Bundle.throwableAtoms, x ∈ vw_L := by decide +kernel
theorem vw_i2 : ∀ x ∈ Bundle.throwableSAtoms, x ∈ vw_L := by decide +kernel
theorem vw_i3 : ∀ x ∈ Bundle.passSAtoms vw_E "java/lang/RuntimeException" 13 vw_rx, x ∈ vw_L := fun _ h => List.mem_append_right _ h
theorem vw_i4 : ∀ x ∈ Bundle.chainSAtoms "java/lang/RuntimeException" ["java/lang/Exception"], x ∈ vw_L := by decide +kernel
theorem vw_ctor {p : Program} {l : Launch} {e : Env} {R : Room} {s : State} {m : MethodId} {args : Array Value} {below : List Frame} {meth : Method} {c : Code} {U0 : State} {locs : List Loc} {cells slots : Nat}
    (X : Stand p l e R s m args below meth c U0 locs cells slots) (hexec : p.tables.exec = Jvm.exec) (htr : e.platform.stackTraces = false) (hown : s.vm.findClass "VaneUnion" = some m.cls) (h : ∀ w ∈ vw_L, w.before args s = true)
    (hlocs : ∀ x ∈ locs, ∀ cell, s.heap[x.base]? = some cell → cell.vm.isStatics = false) {a : Addr} {cX : ClassId} {kX : Class} (hfX : s.vm.findClass vw_E = some cX) (hkX : s.vm.classes[cX]? = some kX) (hcell : U0.heap[a]? = some (freshCell cX kX)) (hnew : s.heap.size ≤ a)
    {msg : Value} (hmsg : msg.isRef = true) {g : JFrame} (hg : g.method = m) (hsize : g.locals.size = c.maxLocals) (hlk : g.locked = none) (hen : g.entered = []) {rest : List Value} (hst : g.stack = msg :: .ref a :: .ref a :: rest)
    (d6 : decode c.code g.pc = .ok (.invokespecial 108, 3)) (d9 : decode c.code (g.pc + 3) = .ok (.athrow, 1)) (hout : ∀ x ∈ c.exceptionTable.toList, covers x (g.pc + 3) = false)
    (hRf : 5 < R.frames) (hRl : 2 * g.monitorRoom + ((Value.ref a :: rest).map fun v => v.category).sum + 81 ≤ R.locals) (hlocks : meth.locks = false) :
    ∃ U : State, Steps p.tables e below (U0.setTop g) U ∧ U.status = .running ∧ Ended U below (.threw a) ∧ s.WarmedH U.vm ∧ s.sameButNew ({ U with vm := s.vm } : State) locs cells slots ∧ ∃ ce, U.heap[a]? = some ce ∧ s.vm.findClass vw_E = some ce.cls ∧ ce.vm = .none := by
  have howns : e.platform.frameOwnsMonitors = true := by rw [X.admits.platform]
  have hfin : e.platform.finalization = false := by rw [X.admits.platform]
  have hpl : e.platform.magicAccessors = ({} : Platform).magicAccessors := by rw [X.admits.platform]
  have A : ∀ x, x ∈ vw_L → x.holds args s none s [] = true := fun x hx => h x hx
  obtain ⟨T, Z0, L, -, Y⟩ := ThrowableC.of_atoms (args := args) howns hfin hpl (fun x hx => h x (vw_i1 x hx))
  obtain ⟨Z, M, LZ, LM, hnZ⟩ := Init0T.ofS_atoms (args := args) hpl L Y (fun x hx => h x (vw_i2 x hx))
  obtain ⟨P1, L1, hP1m, hP1s⟩ := PassC.ofS_atoms (args := args) (s := s) hpl (X := vw_E) (Y := "java/lang/RuntimeException") (index := 13) (bytes := vw_rx) (by decide +kernel) (by decide +kernel) (by decide +kernel) (by decide +kernel) (by decide +kernel) (by decide +kernel) (fun x hx => h x (vw_i3 x hx))
  obtain ⟨P2, Ps, hlen, L2, hL, hP2m, hlink2, hlink⟩ := Bundle.chainS (args := args) hpl hnZ ["java/lang/Exception"] "java/lang/RuntimeException" (by decide +kernel) (by decide +kernel) (fun x hx => h x (vw_i4 x hx))
  have hfound : s.vm.findClass vw_E = some P1.m.cls := findClass_of_methodNamed hP1m
  cases Option.some.inj (hfX.symm.trans hfound)
  obtain ⟨c1, k1, hc1, hk, hord, -, -, hn6⟩ := Cond.instantiable_spec (A (.instantiable vw_E 6) (by decide +kernel))
  cases Option.some.inj (hc1.symm.trans hfound)
  cases Option.some.inj (hkX.symm.trans hk)
  have hsel : ∀ {t : MethodName} {r : MethodId}, (Cond.selects vw_E t t) ∈ vw_L → (t.cls ≠ "java/lang/invoke/MethodHandle" ∧ t.cls ≠ "java/lang/invoke/VarHandle") → s.methodNamed? t = some r → selectMethod e.platform s.vm P1.m.cls r = .method r := by
    intro t r ht hn hr
    obtain ⟨c2, r2, m2, q1, q2, q3, q4, -⟩ := Cond.selects_spec (A _ ht)
    cases Option.some.inj (q1.symm.trans hfound)
    cases Option.some.inj (q2.symm.trans (State.methodFound?_of_named hr hn))
    cases Option.some.inj (q3.symm.trans hr)
    rw [Launch.admits_selectMethod X.admits]
    exact q4
  obtain ⟨cs0, hcs0, hiss⟩ := Y.statics
  obtain ⟨u0, hu0⟩ := Cond.staticRefV Y.unassigned L.unassignedStatic L.statics hcs0 hiss (A (.isRef (.static Bundle.tN "UNASSIGNED_STACK" Bundle.steD)) (by decide +kernel))
  obtain ⟨sen, hsen⟩ := Cond.staticRefV Y.sentinel L.sentinelStatic L.statics hcs0 hiss (A (.isRef (.static Bundle.tN "SUPPRESSED_SENTINEL" Bundle.listD)) (by decide +kernel))
  obtain ⟨ci, ib, fB, hkB, hgB, haB, hsB, -, hnB, htB, hffB⟩ := Cond.ownField (t := .object "java/lang/Object") Y.found L.cls (by decide +kernel) (A (.fieldLink Bundle.tN 198 Bundle.tN "backtrace" "Ljava/lang/Object;") (by decide +kernel)) (A (.lays Bundle.tN Bundle.tN "backtrace" "Ljava/lang/Object;") (by decide +kernel)) e.platform hpl
  obtain ⟨cs1, hcs1, hes, -, hkeep⟩ := X.same.2.2.2.2.2 T.aS cs0 hcs0
  have hcs1' : U0.heap[T.aS]? = some cs1 := hcs1
  have hno : ∀ i, (⟨T.aS, i⟩ : Loc) ∉ locs := fun i hm => absurd (hlocs _ hm cs0 hcs0) (by rw [hiss]; decide)
  have hknown : cs1.vm ≠ .unknown := fun hu => by
    rw [hes] at hu
    rw [show cs0.vm = .unknown from hu] at hiss
    cases hiss
  have hne : T.aS ≠ a := Nat.ne_of_lt (Nat.lt_of_lt_of_le (Array.getElem?_eq_some_iff.mp hcs0).1 hnew)
  obtain ⟨iM, hffM⟩ := Y.msg
  obtain ⟨tyC, dC, hdC, hdnC⟩ := Cond.laysAt hfound hk Y.cause (A (.lays vw_E Bundle.tN "cause" "Ljava/lang/Throwable;") (by decide +kernel))
  obtain ⟨tyS, dS, hdS, hdnS⟩ := Cond.laysAt hfound hk Y.stack (A (.lays vw_E Bundle.tN "stackTrace" Bundle.steD) (by decide +kernel))
  obtain ⟨tyP, dP, hdP, hdnP⟩ := Cond.laysAt hfound hk Y.supp (A (.lays vw_E Bundle.tN "suppressedExceptions" Bundle.listD) (by decide +kernel))
  obtain ⟨tyM, dM, hdM, hdnM⟩ := Cond.laysAt hfound hk hffM (A (.lays vw_E Bundle.tN "detailMessage" "Ljava/lang/String;") (by decide +kernel))
  obtain ⟨tyB, dB, hdB, hdnB⟩ := Cond.laysAt hfound hk hffB (A (.lays vw_E Bundle.tN "backtrace" "Ljava/lang/Object;") (by decide +kernel))
  have bC := Cond.laysApart hdB hdC hdnB hdnC (by rw [hnB, Y.causeName]; decide)
  have bS := Cond.laysApart hdB hdS hdnB hdnS (by rw [hnB, Y.stackName]; decide)
  have bP := Cond.laysApart hdB hdP hdnB hdnP (by rw [hnB, Y.suppName]; decide)
  have hskip : SkipFacts T e.platform s (fun u => u) u0 ((preparedCellV T.toThrowableT (freshCell P1.m.cls kX) a u0 sen).withEntry U0.cur) := by
    refine ⟨{ ci198 := ci, i198 := ib, fBack := fB }, ⟨hkB, hgB, haB, hsB⟩, ?_, fun _ _ => rfl⟩
    have h9 := fresh_default (c := P1.m.cls) tyB
    rw [htB] at h9
    simpa [preparedCellV, Cell.setSlot, Cell.withEntry, Array.getElem?_setIfInBounds, bC, bS, bP, bC.symm, bS.symm, bP.symm, defaultValue] using h9
  obtain ⟨tm, mC, cC, kC, vm1, hnC, -, -, -, -, -, -, -, hW1, st1⟩ := Steps.initColdS (tb := p.tables) (e := e) (below := below) (s := s) (U := U0) X.here hexec X.warmed hpl hown (t := Bundle.initS vw_E) rfl rfl (by decide +kernel)
    (A _ (by decide +kernel)) (h _ (by decide +kernel)) (bytes := vw_rx) (maxL := 2) (h _ (by decide +kernel)) (f := g) hg (a := a) (msg := msg) (rest := .ref a :: rest) hst d6
  cases Option.some.inj (hnC.symm.trans hP1m)
  obtain ⟨vm2, X2, st2⟩ := (X.noted hW1).ctorMessageOffV hexec (g := { g with stack := .ref a :: rest }) hg hsize T L Z LZ M LM (P1 :: P2 :: Ps)
    (fun P hP => by
      rcases List.mem_cons.mp hP with rfl | hP
      · exact L1
      · rcases List.mem_cons.mp hP with rfl | hP
        · exact L2
        · exact hL P hP) ⟨Option.some.inj (hP1s.symm.trans hP2m), hlink2, hlink⟩ (u0 := u0) (sen := sen) (self := a) hmsg (cell := freshCell P1.m.cls kX) (cellS := cs1)
    hcell (fun _ => by simp) (by simp) rfl rfl (hsel (t := Bundle.tFill0) (by decide +kernel) (by decide +kernel) Y.fill0) (hsel (t := Bundle.tFill) (by decide +kernel) (by decide +kernel) Y.fill) hcs1' hne hknown (by rw [hkeep _ (hno _)]; exact hu0) (by rw [hkeep _ (hno _)]; exact hsen)
    (Takes.of_laid hk hord tyC (by rw [Y.causeType]; rfl)) (Takes.of_laid hk hord tyS (by rw [Y.stackType]; exact fits_refV_array _ u0)) (Takes.of_laid hk hord tyP (by rw [Y.suppType]; exact fits_refV_object _ sen))
    (Takes.of_laid hk hord tyM (by rw [Y.msgType]; exact fits_refV_object _ ⟨msg, hmsg⟩)) Y.objLocals hskip htr [] d6
    (by simp only [List.length_cons, hlen, List.length_nil]; omega) (by simp only [List.length_cons, hlen, List.length_nil]; exact hRl)
  obtain ⟨hwalk, hrun, hended, hWU, hsame⟩ := X2.athrowLeaves hexec (g := { g with stack := .ref a :: rest, pc := g.pc + 3 }) hg hlk hen hout (a := a) (rest := rest) rfl d9
  have hlt : a < ((U0.setVm vm1).setVm vm2).heap.size := (Array.getElem?_eq_some_iff.mp hcell).1
  have hU := heapAt_setCell_self (s := (U0.setVm vm1).setVm vm2) (plainBareV T.toThrowableT (freshCell P1.m.cls kX) a u0 sen msg) hlt
  refine ⟨_, st1 _ (fun acts => ?_), hrun, hended, hWU, hsame.weaken (fun y hy hlt' => ?_) (Nat.le_refl _) (Nat.le_refl _), _, hU, hfound, rfl⟩
  · rw [doInvoke_state]
    exact st2 _ hwalk
  · rcases List.mem_append.mp hy with h1 | h1
    · exact h1
    · have hb : y.base = a := by
        simp only [List.mem_cons, List.not_mem_nil, or_false] at h1
        rcases h1 with rfl | rfl | rfl | rfl | rfl <;> rfl
      rw [hb] at hlt'
      exact absurd hnew (Nat.not_le.mpr hlt')
theorem vw_throwW {p : Program} {l : Launch} {e : Env} {R : Room} {s : State} {m : MethodId} {args : Array Value} {below : List Frame} {meth : Method} {c : Code} {H : Heap} {locs : List Loc} {cells slots : Nat} {ls : Array Slot} {rest : List Value} {Qc : Array Value → State → Outcome → State → Prop} {XC : String → State → State → Prop} {free : Addr → Prop} {cc : ByteArray} {pc : Nat} (hexec : p.tables.exec = Jvm.exec) (hb : c.code = cc) (hl : l.stackTraces = false) {text : String} {is mc ms sa : Nat} {A : Nat → Prop}
    (hown : s.vm.findClass "VaneUnion" = some m.cls) (hk : (Cond.classLink "VaneUnion" 104 vw_E).before args s = true) (hini : (Cond.initialized vw_E).before args s = true) (hstr : vk_R "VaneUnion" is text sa s) (hat : ∀ w ∈ vw_L.filter vx_no, w.before args s = true)
    (hgood : ∀ w ∈ Cond.classLink "VaneUnion" 104 vw_E :: Cond.initialized vw_E :: vw_L.filter vx_no, vx_ot w = true)
    (hU : vx_Zq Bundle.tN "UNASSIGNED_STACK" Bundle.steD A s s.heap) (hN : vx_Zq Bundle.tN "SUPPRESSED_SENTINEL" Bundle.listD A s s.heap) (hS : va_S A s.heap H locs) (hsize : ls.size = c.maxLocals)
    (d0 : decode cc pc = .ok (.new 104, 3)) (d3 : decode cc (pc + 3) = .ok (.dup, 1)) (d4 : decode cc (pc + 4) = .ok (.ldc_w is, 3)) (d6 : decode cc (pc + 7) = .ok (.invokespecial 108, 3)) (d9 : decode cc (pc + 10) = .ok (.athrow, 1))
    (hout : ∀ x ∈ c.exceptionTable.toList, covers x (pc + 10) = false)
    (hRf : 5 < R.frames) (hRl : (rest.map fun v => v.category).sum + 82 ≤ R.locals) (hRc : cells + 1 ≤ R.cells) (hRs : slots + 6 ≤ R.slots) (hlocks : meth.locks = false)
    (hx : ∀ t : State, s.vm.Alike t.vm → H.size ≤ t.heap.size → (∀ q : Nat, q < H.size → t.heap[q]? = H[q]?) → XC vw_E s t)
    (hf : ∀ z ∈ locs, free z.base) (hc : cells + 1 ≤ mc) (hs : slots + 6 ≤ ms) :
    W p l e R s m args below meth c H locs cells slots (vx_MQ below Qc XC args s mc ms free) (F0 m pc ls rest) := by
  intro T hT X
  have htr : e.platform.stackTraces = false := (show e.platform.stackTraces = l.stackTraces by rw [X.admits.platform]).trans hl
  have Y := vx_rebase X (R' := { frames := R.frames, locals := R.locals, cells := 1, slots := 6 }) (Nat.le_refl _) (Nat.le_refl _) hRc hRs
  obtain ⟨s', hA⟩ : ∃ z, z = (T.setVm s.vm).setFrames (.invoking m args :: below) := ⟨_, rfl⟩
  rw [← hA] at Y
  have hvm : s'.vm = s.vm := by rw [hA]; rfl
  have hhp : s'.heap = H := by rw [hA]; exact hT
  have hW0 : s.WarmedH s'.vm := by rw [hvm]; exact State.WarmedH.refl s
  have mv : ∀ w ∈ Cond.classLink "VaneUnion" 104 vw_E :: Cond.initialized vw_E :: vw_L.filter vx_no, w.before args s = true → w.before args s' = true := fun w hw hh => vx_ot_at hW0 hvm.symm (hgood w hw) hh
  have hU' : vx_Zq Bundle.tN "UNASSIGNED_STACK" Bundle.steD A s' s'.heap := by rw [hhp]; exact vx_Zq.moved hW0.alike (hU.kept hS.2.1)
  have hN' : vx_Zq Bundle.tN "SUPPRESSED_SENTINEL" Bundle.listD A s' s'.heap := by rw [hhp]; exact vx_Zq.moved hW0.alike (hN.kept hS.2.1)
  have h : ∀ w ∈ vw_L, w.before args s' = true := vx_own (fun w hw => mv w (List.mem_cons_of_mem _ (List.mem_cons_of_mem _ hw)) (hat w hw)) (vx_isRefq hU'.1) (vx_isRefq hN'.1) hU'.2.word hN'.2.word
  have hown' : s'.vm.findClass "VaneUnion" = some m.cls := by rw [hvm]; exact hown
  obtain ⟨vm1, cX, kX, hfX, hkX, -, -, X1, st1⟩ := Y.newCold hexec (own := "VaneUnion") (C := vw_E) (index := 104) (n := 6) hown' (mv _ List.mem_cons_self hk) (h _ (by decide +kernel)) (mv _ (List.mem_cons_of_mem _ List.mem_cons_self) hini)
    (g := F0 m pc ls rest) rfl (by rw [hb]; exact d0) (Nat.le_refl _) (Nat.le_refl _)
  generalize hT1 : (T.setVm vm1).pushCell { cls := cX, slots := kX.instanceTypes.map defaultValue, vm := .none } = T1 at X1 st1
  have hcat : (Value.ref T.heap.size).category = 1 := rfl
  have hcA : T1.heap[T.heap.size]? = some (freshCell cX kX) := by rw [← hT1]; exact State.heap_pushCell_size _ _
  have d3' : decode c.code (pc + 3) = .ok (.dup, 1) := by rw [hb]; exact d3
  have d4' : decode c.code (pc + 4) = .ok (.ldc_w is, 3) := by rw [hb]; exact d4
  have hstr' : vk_R "VaneUnion" is text sa s' := vk_R.warm hW0 hstr
  obtain ⟨U, hsteps, hrun, hend, hW, hsame, ce, hce, hcl, hv⟩ := vw_ctor X1 hexec htr hown' h (fun x hx => nomatch hx) hfX hkX hcA (by rw [hhp, hT]; exact Nat.le_refl _) (msg := .ref sa) rfl
    (g := { method := m, pc := pc + 7, locals := ls, stack := .ref sa :: .ref T.heap.size :: .ref T.heap.size :: rest, locked := none }) rfl hsize rfl rfl (rest := rest) rfl
    (by rw [hb]; exact d6) (by rw [hb]; exact d9) hout hRf (by simp only [List.map_cons, List.sum_cons, hcat]; omega) hlocks
  obtain ⟨f1, f2⟩ := vx_frame hsame
  rw [hhp] at f1 f2
  have hWs : s.WarmedH U.vm := State.WarmedH.trans hW0 hW
  rw [hvm] at hcl
  have hall : s.sameButNew ({ U with vm := s.vm } : State) locs mc ms := by
    subst hA
    obtain ⟨e1, e2⟩ := hsame
    rw [State.setFrames_setFrames] at e1
    have h2 : (T.setVm s.vm).sameButNew ({ U with vm := s.vm } : State) [] (0 + 1) (0 + 6) := ⟨e1, e2⟩
    have h3 := X.same.trans h2
    rw [List.append_nil] at h3
    exact h3.mono hc hs
  refine ⟨U, ?_, .threw T.heap.size, hrun, hend, Or.inr ⟨T.heap.size, rfl, vw_E, ce, locs, hx U hWs.alike f1 (fun q hq => f2 q hq (fun z hz => nomatch hz)), hce, hv, hcl, hWs, hall, hf⟩⟩
  refine st1 _ ?_
  show Steps p.tables e below (T1.setTop { method := m, pc := pc + 3, locals := ls, stack := .ref T.heap.size :: rest, locked := none }) _
  jvm_step X1.here [X1.here.top, hexec, d3', Value.category]
  exact X1.ldcStringW hexec (own := "VaneUnion") (text := text) (index := is) (a := sa) hown' hstr'.1 hstr'.2
    (g := { method := m, pc := pc + 4, locals := ls, stack := .ref T.heap.size :: .ref T.heap.size :: rest, locked := none }) rfl d4' _ hsteps
theorem vw_throwS {p : Program} {l : Launch} {e : Env} {R : Room} {s : State} {m : MethodId} {args : Array Value} {below : List Frame} {meth : Method} {c : Code} {H : Heap} {locs : List Loc} {cells slots : Nat} {ls : Array Slot} {rest : List Value} {Qc : Array Value → State → Outcome → State → Prop} {XC : String → State → State → Prop} {free : Addr → Prop} {cc : ByteArray} {pc : Nat} (hexec : p.tables.exec = Jvm.exec) (hb : c.code = cc) (hl : l.stackTraces = false) {text : String} {is mc ms sa : Nat} {A : Nat → Prop}
    (hown : s.vm.findClass "VaneUnion" = some m.cls) (hk : (Cond.classLink "VaneUnion" 104 vw_E).before args s = true) (hini : (Cond.initialized vw_E).before args s = true) (hstr : vk_R "VaneUnion" is text sa s) (hat : ∀ w ∈ vw_L.filter vx_no, w.before args s = true)
    (hgood : ∀ w ∈ Cond.classLink "VaneUnion" 104 vw_E :: Cond.initialized vw_E :: vw_L.filter vx_no, vx_ot w = true)
    (hU : vx_Zq Bundle.tN "UNASSIGNED_STACK" Bundle.steD A s s.heap) (hN : vx_Zq Bundle.tN "SUPPRESSED_SENTINEL" Bundle.listD A s s.heap) (hS : va_S A s.heap H locs) (hsize : ls.size = c.maxLocals)
    (d0 : decode cc pc = .ok (.new 104, 3)) (d3 : decode cc (pc + 3) = .ok (.dup, 1)) (d4 : decode cc (pc + 4) = .ok (.ldc is, 2)) (d6 : decode cc (pc + 6) = .ok (.invokespecial 108, 3)) (d9 : decode cc (pc + 9) = .ok (.athrow, 1))
    (hout : ∀ x ∈ c.exceptionTable.toList, covers x (pc + 9) = false)
    (hRf : 5 < R.frames) (hRl : (rest.map fun v => v.category).sum + 82 ≤ R.locals) (hRc : cells + 1 ≤ R.cells) (hRs : slots + 6 ≤ R.slots) (hlocks : meth.locks = false)
    (hx : ∀ t : State, s.vm.Alike t.vm → H.size ≤ t.heap.size → (∀ q : Nat, q < H.size → t.heap[q]? = H[q]?) → XC vw_E s t)
    (hf : ∀ z ∈ locs, free z.base) (hc : cells + 1 ≤ mc) (hs : slots + 6 ≤ ms) :
    W p l e R s m args below meth c H locs cells slots (vx_MQ below Qc XC args s mc ms free) (F0 m pc ls rest) := by
  intro T hT X
  have htr : e.platform.stackTraces = false := (show e.platform.stackTraces = l.stackTraces by rw [X.admits.platform]).trans hl
  have Y := vx_rebase X (R' := { frames := R.frames, locals := R.locals, cells := 1, slots := 6 }) (Nat.le_refl _) (Nat.le_refl _) hRc hRs
  obtain ⟨s', hA⟩ : ∃ z, z = (T.setVm s.vm).setFrames (.invoking m args :: below) := ⟨_, rfl⟩
  rw [← hA] at Y
  have hvm : s'.vm = s.vm := by rw [hA]; rfl
  have hhp : s'.heap = H := by rw [hA]; exact hT
  have hW0 : s.WarmedH s'.vm := by rw [hvm]; exact State.WarmedH.refl s
  have mv : ∀ w ∈ Cond.classLink "VaneUnion" 104 vw_E :: Cond.initialized vw_E :: vw_L.filter vx_no, w.before args s = true → w.before args s' = true := fun w hw hh => vx_ot_at hW0 hvm.symm (hgood w hw) hh
  have hU' : vx_Zq Bundle.tN "UNASSIGNED_STACK" Bundle.steD A s' s'.heap := by rw [hhp]; exact vx_Zq.moved hW0.alike (hU.kept hS.2.1)
  have hN' : vx_Zq Bundle.tN "SUPPRESSED_SENTINEL" Bundle.listD A s' s'.heap := by rw [hhp]; exact vx_Zq.moved hW0.alike (hN.kept hS.2.1)
  have h : ∀ w ∈ vw_L, w.before args s' = true := vx_own (fun w hw => mv w (List.mem_cons_of_mem _ (List.mem_cons_of_mem _ hw)) (hat w hw)) (vx_isRefq hU'.1) (vx_isRefq hN'.1) hU'.2.word hN'.2.word
  have hown' : s'.vm.findClass "VaneUnion" = some m.cls := by rw [hvm]; exact hown
  obtain ⟨vm1, cX, kX, hfX, hkX, -, -, X1, st1⟩ := Y.newCold hexec (own := "VaneUnion") (C := vw_E) (index := 104) (n := 6) hown' (mv _ List.mem_cons_self hk) (h _ (by decide +kernel)) (mv _ (List.mem_cons_of_mem _ List.mem_cons_self) hini)
    (g := F0 m pc ls rest) rfl (by rw [hb]; exact d0) (Nat.le_refl _) (Nat.le_refl _)
  generalize hT1 : (T.setVm vm1).pushCell { cls := cX, slots := kX.instanceTypes.map defaultValue, vm := .none } = T1 at X1 st1
  have hcat : (Value.ref T.heap.size).category = 1 := rfl
  have hcA : T1.heap[T.heap.size]? = some (freshCell cX kX) := by rw [← hT1]; exact State.heap_pushCell_size _ _
  have d3' : decode c.code (pc + 3) = .ok (.dup, 1) := by rw [hb]; exact d3
  have d4' : decode c.code (pc + 4) = .ok (.ldc is, 2) := by rw [hb]; exact d4
  have hstr' : vk_R "VaneUnion" is text sa s' := vk_R.warm hW0 hstr
  obtain ⟨U, hsteps, hrun, hend, hW, hsame, ce, hce, hcl, hv⟩ := vw_ctor X1 hexec htr hown' h (fun x hx => nomatch hx) hfX hkX hcA (by rw [hhp, hT]; exact Nat.le_refl _) (msg := .ref sa) rfl
    (g := { method := m, pc := pc + 6, locals := ls, stack := .ref sa :: .ref T.heap.size :: .ref T.heap.size :: rest, locked := none }) rfl hsize rfl rfl (rest := rest) rfl
    (by rw [hb]; exact d6) (by rw [hb]; exact d9) hout hRf (by simp only [List.map_cons, List.sum_cons, hcat]; omega) hlocks
  obtain ⟨f1, f2⟩ := vx_frame hsame
  rw [hhp] at f1 f2
  have hWs : s.WarmedH U.vm := State.WarmedH.trans hW0 hW
  rw [hvm] at hcl
  have hall : s.sameButNew ({ U with vm := s.vm } : State) locs mc ms := by
    subst hA
    obtain ⟨e1, e2⟩ := hsame
    rw [State.setFrames_setFrames] at e1
    have h2 : (T.setVm s.vm).sameButNew ({ U with vm := s.vm } : State) [] (0 + 1) (0 + 6) := ⟨e1, e2⟩
    have h3 := X.same.trans h2
    rw [List.append_nil] at h3
    exact h3.mono hc hs
  refine ⟨U, ?_, .threw T.heap.size, hrun, hend, Or.inr ⟨T.heap.size, rfl, vw_E, ce, locs, hx U hWs.alike f1 (fun q hq => f2 q hq (fun z hz => nomatch hz)), hce, hv, hcl, hWs, hall, hf⟩⟩
  refine st1 _ ?_
  show Steps p.tables e below (T1.setTop { method := m, pc := pc + 3, locals := ls, stack := .ref T.heap.size :: rest, locked := none }) _
  jvm_step X1.here [X1.here.top, hexec, d3', Value.category]
  exact X1.ldcString hexec (own := "VaneUnion") (text := text) (index := is) (a := sa) hown' hstr'.1 hstr'.2
    (g := { method := m, pc := pc + 4, locals := ls, stack := .ref T.heap.size :: .ref T.heap.size :: rest, locked := none }) rfl d4' _ hsteps
/-- the words of that throw -/
def g_TN (Y : g_Y) : Prop := Cond.classLink "VaneUnion" 104 vw_E ∈ g_WL ∧ Cond.initialized vw_E ∈ g_WL ∧ (∀ w ∈ (vw_L.filter vx_no).filter goodWord, w ∈ lw_tbl) ∧ (∀ w ∈ (vw_L.filter vx_no).filter (fun w => !goodWord w), w ∈ Y.2.2.2.2.2.2.1.map (fun q => Cond.castable q.1 q.2) ++ g_dcl.map Cond.declares) ∧ (∀ w ∈ Cond.classLink "VaneUnion" 104 vw_E :: Cond.initialized vw_E :: vw_L.filter vx_no, vx_ot w = true)
section GVN
variable {Y : g_Y} {G : g_G} {X : g_X} {I : g_I} {mc ms : Nat} {Q : g_R → g_Hp → Prop} {pc k n : Nat} {ls : List (Nat × g_AV)} {st : List g_AV} {h : g_Hp}
theorem g_throw_an {p : Program} {l : Launch} {e : Env} {R : Room} {s : State} {m : MethodId} {args : Array Value} {below : List Frame} {meth : Method} {c : Code} {h0 : g_Hp} {ρ0 : g_Rh} (C0 : g_Cx Y G (p, l, e, R, s, m, args, below, meth, c, h0, ρ0) I) (tw : g_TN Y) : ∀ w ∈ vw_L.filter vx_no, w.before args s = true := by
  refine vx_hat (B := Y.2.2.2.2.2.2.1.map (fun q => Cond.castable q.1 q.2) ++ g_dcl.map Cond.declares) (fun w hw => g_Cx_ts C0 w (List.mem_filter.mpr ⟨List.mem_append_left _ (tw.2.2.1 w hw), (List.mem_filter.mp hw).2⟩)) tw.2.2.2.1 (fun w hw => ?_)
  rcases List.mem_append.mp hw with hw | hw
  · obtain ⟨q, hq, rfl⟩ := List.mem_map.mp hw
    exact va_Nw.use rfl ((g_Cx_KS C0).2.2.2.2.2.2.2.1 q hq)
  · obtain ⟨q, hq, rfl⟩ := List.mem_map.mp hw
    exact va_Nw.use rfl ((g_Cx_KS C0).2.2.2.2.2.2.2.2.2.2.2.2.2.2.2 q hq)
theorem s_throwWN {tx : String} {is sp : Nat} (tw : g_TN Y) (hq : (I.1, is, tx, sp) ∈ Y.2.2.2.2.1) (hI : I.1 = "VaneUnion") (hh : I.2.2.2.2.2.1 = []) (hro : 5 < (g_rm I).frames ∧ g_sz st + 82 ≤ (g_rm I).locals ∧ k + 1 ≤ (g_rm I).cells ∧ n + 6 ≤ (g_rm I).slots) (hmc : k + 1 ≤ mc ∧ n + 6 ≤ ms) (hQ : Q (.inr "java/util/NoSuchElementException") h) (C0 : g_Cx Y G X I)
    (d0 : decode I.2.2.1 pc = .ok (.new 104, 3)) (d3 : decode I.2.2.1 (pc + 3) = .ok (.dup, 1)) (d4 : decode I.2.2.1 (pc + 4) = .ok (.ldc_w is, 3)) (d6 : decode I.2.2.1 (pc + 7) = .ok (.invokespecial 108, 3)) (d9 : decode I.2.2.1 (pc + 10) = .ok (.athrow, 1)) : g_V G X I mc ms Q pc k n ls st h := by
  obtain ⟨p, l, e, R, s, m, args, below, meth, c, h0, ρ0⟩ := X
  intro ρ H locs la w
  have hR : R = g_rm I := C0.2.2.2.2.2.2.2.2.2.2.2.2
  have KS := g_Cx_KS C0
  have hs9 := KS.2.2.2.2.2.1 _ hq
  have ho := g_Cx_own C0
  rw [hI] at ho
  have hs8 : vk_R "VaneUnion" is tx (G.2.2.1 24 sp) s := by rw [← hI]; exact hs9
  refine vw_throwW (text := tx) (sa := G.2.2.1 24 sp) (A := G.2.2.2) C0.1 C0.2.1 C0.2.2.2.2.2.2.2.2.1 ho (g_Cx_ts C0 _ tw.1) (g_Cx_ts C0 _ tw.2.1) hs8 (g_throw_an C0 tw) tw.2.2.2.2 KS.2.2.2.2.2.2.2.2.2.1 KS.2.2.2.2.2.2.2.2.2.2.1 w.2.1 (w.2.2.1.1.trans C0.2.2.1.symm) d0 d3 d4 d6 d9 ?_ (by rw [hR]; exact hro.1) (by rw [g_sum_le, hR]; exact hro.2.1) (by rw [hR]; exact hro.2.2.1) (by rw [hR]; exact hro.2.2.2) C0.2.2.2.2.2.1 (g_throw_x w hQ) w.2.1.2.2 hmc.1 hmc.2
  rw [C0.2.2.2.2.2.2.2.2.2.1, hh]
  intro x hx
  cases hx
theorem s_throwSN {tx : String} {is sp : Nat} (tw : g_TN Y) (hq : (I.1, is, tx, sp) ∈ Y.2.2.2.2.1) (hI : I.1 = "VaneUnion") (hh : I.2.2.2.2.2.1 = []) (hro : 5 < (g_rm I).frames ∧ g_sz st + 82 ≤ (g_rm I).locals ∧ k + 1 ≤ (g_rm I).cells ∧ n + 6 ≤ (g_rm I).slots) (hmc : k + 1 ≤ mc ∧ n + 6 ≤ ms) (hQ : Q (.inr "java/util/NoSuchElementException") h) (C0 : g_Cx Y G X I)
    (d0 : decode I.2.2.1 pc = .ok (.new 104, 3)) (d3 : decode I.2.2.1 (pc + 3) = .ok (.dup, 1)) (d4 : decode I.2.2.1 (pc + 4) = .ok (.ldc is, 2)) (d6 : decode I.2.2.1 (pc + 6) = .ok (.invokespecial 108, 3)) (d9 : decode I.2.2.1 (pc + 9) = .ok (.athrow, 1)) : g_V G X I mc ms Q pc k n ls st h := by
  obtain ⟨p, l, e, R, s, m, args, below, meth, c, h0, ρ0⟩ := X
  intro ρ H locs la w
  have hR : R = g_rm I := C0.2.2.2.2.2.2.2.2.2.2.2.2
  have KS := g_Cx_KS C0
  have hs9 := KS.2.2.2.2.2.1 _ hq
  have ho := g_Cx_own C0
  rw [hI] at ho
  have hs8 : vk_R "VaneUnion" is tx (G.2.2.1 24 sp) s := by rw [← hI]; exact hs9
  refine vw_throwS (text := tx) (sa := G.2.2.1 24 sp) (A := G.2.2.2) C0.1 C0.2.1 C0.2.2.2.2.2.2.2.2.1 ho (g_Cx_ts C0 _ tw.1) (g_Cx_ts C0 _ tw.2.1) hs8 (g_throw_an C0 tw) tw.2.2.2.2 KS.2.2.2.2.2.2.2.2.2.1 KS.2.2.2.2.2.2.2.2.2.2.1 w.2.1 (w.2.2.1.1.trans C0.2.2.1.symm) d0 d3 d4 d6 d9 ?_ (by rw [hR]; exact hro.1) (by rw [g_sum_le, hR]; exact hro.2.1) (by rw [hR]; exact hro.2.2.1) (by rw [hR]; exact hro.2.2.2) C0.2.2.2.2.2.1 (g_throw_x w hQ) w.2.1.2.2 hmc.1 hmc.2
  rw [C0.2.2.2.2.2.2.2.2.2.1, hh]
  intro x hx
  cases hx
end GVN
