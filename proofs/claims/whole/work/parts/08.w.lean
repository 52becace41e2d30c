/-! ===== the judgement over ghost states ===== -/
/-- a method: its class, name, code, locals, what it answers, its table of handlers, its room -/
abbrev g_I : Type := String × MethodName × ByteArray × Nat × Option FieldType × List (Nat × Nat × Nat × Nat) × Room
abbrev g_rm (I : g_I) : Room := I.2.2.2.2.2.2
/-- the words that every method has -/
def g_xtra : List Cond := [.selects "java/lang/StringBuilder" ⟨"java/lang/AbstractStringBuilder", "newCapacity", "(I)I"⟩ ⟨"java/lang/AbstractStringBuilder", "newCapacity", "(I)I"⟩, .selects "java/lang/StringBuilder" ⟨"java/lang/AbstractStringBuilder", "ensureCapacityInternal", "(I)V"⟩ ⟨"java/lang/AbstractStringBuilder", "ensureCapacityInternal", "(I)V"⟩]
def g_tb : List Cond := lw_tbl ++ g_xtra
def g_WL : List Cond := g_tb.filter goodWord
/-- the constructors of Throwable's line -/
def g_dcl : List MethodName := [⟨"java/lang/RuntimeException", "<init>", "(Ljava/lang/String;)V"⟩, ⟨"java/lang/Exception", "<init>", "(Ljava/lang/String;)V"⟩, ⟨"java/lang/Throwable", "<init>", "(Ljava/lang/String;)V"⟩]
def g_hd (I : g_I) : Cond := match I.2.2.2.2.2.1 with
  | [] => .code I.2.1 I.2.2.1 I.2.2.2.1 I.2.2.2.2.1
  | hh => .codeWith I.2.1 I.2.2.1 I.2.2.2.1 I.2.2.2.2.1 hh
def g_ws (I : g_I) : List Cond := g_hd I :: g_WL
/-- one run of a method's body: the machine's things, and the ghost state at its entry -/
abbrev g_X : Type := Program × Launch × Env × Room × State × MethodId × Array Value × List Frame × Method × Code × g_Hp × g_Rh
abbrev g_R : Type := Option g_AV ⊕ String
def g_tys (G : g_G) : List (ClassId × FieldType) := [(G.2.1 10, .object "VaneUnion$Books"), (G.2.1 11, .object "VaneUnion$Member"), (G.2.1 12, .object "VaneUnion$Command"), (G.2.1 13, .int), (G.2.1 14, .byte), (G.2.1 15, .long), (G.2.1 16, .double)]
def g_roc (G : g_G) : g_AV → Value := g_cv (fun k i _ => G.2.2.1 k i)
/-- statics that nobody writes: class, name, descriptor, what it holds -/
def g_Zs (z : List (String × String × String × g_AV)) (G : g_G) (s : State) (H : Heap) : Prop := ∀ q ∈ z, va_Z q.1 q.2.1 q.2.2.1 (g_roc G q.2.2.2) G.2.2.2 s H
/-- constant objects: class, place -/
def g_Os (z : List (String × Nat × Nat)) (G : g_G) (s : State) (H : Heap) : Prop := ∀ q ∈ z, va_O q.1 (G.2.2.1 q.2.1 q.2.2) G.2.2.2 s H
/-- their fields: declarer, name, descriptor, what it holds, place -/
def g_Fs (z : List (String × String × String × g_AV × Nat × Nat)) (G : g_G) (s : State) (H : Heap) : Prop := ∀ q ∈ z, va_OF q.1 q.2.1 q.2.2.1 (g_roc G q.2.2.2.1) (G.2.2.1 q.2.2.2.2.1 q.2.2.2.2.2) G.2.2.2 s H
/-- constant arrays: element type, place, contents -/
def g_Ts (z : List (FieldType × Nat × Nat × List g_AV)) (G : g_G) (s : State) (H : Heap) : Prop := ∀ q ∈ z, va_T q.1 (G.2.2.1 q.2.1 q.2.2.1) q.2.2.2.length (fun j => g_roc G (q.2.2.2.getD j (vI 0))) G.2.2.2 s H
/-- the texts of String constants: class, pool index, text, place -/
def g_Ss (z : List (String × Nat × String × Nat)) (G : g_G) (s : State) : Prop := ∀ q ∈ z, vk_R q.1 q.2.1 q.2.2.1 (G.2.2.1 24 q.2.2.2) s
def g_Ns (z : List (String × Nat × MethodName × String)) (s : State) : Prop := ∀ q ∈ z, va_Nw (.methodLinkNest q.1 q.2.1 q.2.2.1 q.2.2.2) s
def g_Cs (z : List (String × String)) (s : State) : Prop := ∀ q ∈ z, va_Nw (.castable q.1 q.2) s
def g_Ms (z : List (String × String)) (s : State) : Prop := ∀ q ∈ z, va_Nc q.1 q.2 s
/-- a claim's own lists of these -/
abbrev g_Y : Type := List (String × String × String × g_AV) × List (String × Nat × Nat) × List (String × String × String × g_AV × Nat × Nat) × List (FieldType × Nat × Nat × List g_AV) × List (String × Nat × String × Nat) × List (String × Nat × MethodName × String) × List (String × String) × List (String × String)
/-- what holds of a state s all along: the classes, what is constant -/
def g_KS (Y : g_Y) (G : g_G) (s : State) (H : Heap) : Prop := va_K G.1 vwCl (g_tys G) s ∧ g_Zs Y.1 G s H ∧ g_Os Y.2.1 G s H ∧ g_Fs Y.2.2.1 G s H ∧ g_Ts Y.2.2.2.1 G s H ∧ g_Ss Y.2.2.2.2.1 G s ∧ g_Ns Y.2.2.2.2.2.1 s ∧ g_Cs Y.2.2.2.2.2.2.1 s ∧ g_Ms Y.2.2.2.2.2.2.2 s ∧
  vx_Zq Bundle.tN "UNASSIGNED_STACK" Bundle.steD G.2.2.2 s H ∧ vx_Zq Bundle.tN "SUPPRESSED_SENTINEL" Bundle.listD G.2.2.2 s H ∧ (∀ i j, i < 6 → j < 6 → G.2.2.1 20 i = G.2.2.1 20 j → i = j) ∧ va_Zq "jdk/internal/util/Preconditions" "SIOOBE_FORMATTER" "Ljava/util/function/BiFunction;" G.2.2.2 s H ∧ (∀ C ∈ ["VaneUnion$Books", "VaneUnion$Member", "VaneUnion$Command"], va_AO C s) ∧ va_Nw (.fieldLinkNest "VaneUnion$CommandText" 73 "VaneUnion" "KEYWORDS" "[LVaneUnion$Keyword;" "VaneUnion") s ∧ (∀ x ∈ g_dcl, va_Nw (.declares x) s)
/-- what holds along a body -/
def g_Cx (Y : g_Y) (G : g_G) (X : g_X) (I : g_I) : Prop := match X with
  | (p, l, _, R, s, m, args, _, meth, c, _, _) => p.tables.exec = Jvm.exec ∧ c.code = I.2.2.1 ∧ c.maxLocals = I.2.2.2.1 ∧ s.vm.findClass I.1 = some m.cls ∧ (∀ w ∈ g_WL, w.before args s = true) ∧ meth.locks = false ∧ meth.sig.returnType = I.2.2.2.2.1 ∧ meth.name = I.2.1.name ∧ l.stackTraces = false ∧ c.exceptionTable.toList = tableOf I.2.2.2.2.2.1 ∧ g_KS Y G s s.heap ∧ (∀ q, s.heap.size ≤ q → G.2.2.2 q) ∧ R = g_rm I
def g_Qc (G : g_G) (ρ : g_Rh) (h : g_Hp) (Q : g_R → g_Hp → Prop) : Array Value → State → Outcome → State → Prop := fun _ st oc t =>
  (∃ (r : Option g_AV) (h' : g_Hp) (ρ' : g_Rh), oc = .returned (r.map (g_cv ρ')) ∧ (∀ v ∈ r, g_ok h' v) ∧ g_HR G ρ' h' t.heap ∧ g_ext h ρ h' ρ' ∧ Q (.inl r) h') ∧ va_F G.2.2.2 st t
def g_Xc (G : g_G) (ρ : g_Rh) (h : g_Hp) (Q : g_R → g_Hp → Prop) : String → State → State → Prop := fun E st t =>
  (∃ (h' : g_Hp) (ρ' : g_Rh), g_HR G ρ' h' t.heap ∧ g_ext h ρ h' ρ' ∧ Q (.inr E) h') ∧ va_F G.2.2.2 st t
def g_lc (ρ : g_Rh) (q : Nat × g_AV) : Nat × Value := (q.1, g_cv ρ q.2)
/-- what holds at a point of a body: the heap, the locals -/
def g_P (G : g_G) (X : g_X) (I : g_I) (ls : List (Nat × g_AV)) (st : List g_AV) (h : g_Hp) (ρ : g_Rh) (H : Heap) (locs : List Loc) (la : Array Slot) : Prop := match X with
  | (_, _, _, _, s, _, _, _, _, _, h0, ρ0) => g_HR G ρ h H ∧ va_S G.2.2.2 s.heap H locs ∧ lv_has la I.2.2.2.1 (ls.map (g_lc ρ)) ∧ (∀ q ∈ ls, g_ok h q.2) ∧ (∀ v ∈ st, g_ok h v) ∧ g_ext h0 ρ0 h ρ
/-- from pc on, with k cells of n slots made, the body comes to an end that Q says -/
def g_V (G : g_G) (X : g_X) (I : g_I) (mc ms : Nat) (Q : g_R → g_Hp → Prop) (pc k n : Nat) (ls : List (Nat × g_AV)) (st : List g_AV) (h : g_Hp) : Prop := match X with
  | (p, l, e, R, s, m, args, below, meth, c, h0, ρ0) => ∀ (ρ : g_Rh) (H : Heap) (locs : List Loc) (la : Array Slot), g_P G X I ls st h ρ H locs la →
    W p l e R s m args below meth c H locs k n (vx_MQ below (g_Qc G ρ0 h0 Q) (g_Xc G ρ0 h0 Q) args s mc ms G.2.2.2) (F0 m pc la (st.map (g_cv ρ)))
/-- the same with an exception of class E thrown -/
def g_VX (G : g_G) (X : g_X) (I : g_I) (mc ms : Nat) (Q : g_R → g_Hp → Prop) (pc k n : Nat) (ls : List (Nat × g_AV)) (h : g_Hp) (E : String) : Prop := match X with
  | (p, l, e, R, s, m, args, below, meth, c, h0, ρ0) => ∀ (ρ : g_Rh) (H : Heap) (locs : List Loc) (la : Array Slot) (rest : List Value) (ce : Cell) (q : Addr), g_P G X I ls [] h ρ H locs la → H[q]? = some ce → ce.vm = .none → s.vm.findClass E = some ce.cls →
    vx_W p l e R s m args below meth c H locs k n (vx_MQ below (g_Qc G ρ0 h0 Q) (g_Xc G ρ0 h0 Q) args s mc ms G.2.2.2) (F0 m pc la rest) q
def g_Pc (Y : g_Y) (G : g_G) (ρ : g_Rh) (as : List g_AV) (h : g_Hp) : Array Value → State → Prop :=
  va_Pc (as.map (g_cv ρ)) (fun U => g_KS Y G U U.heap ∧ g_HR G ρ h U.heap ∧ (∀ v ∈ as, g_ok h v) ∧ (∀ q, U.heap.size ≤ q → G.2.2.2 q))
/-- the contract: from args and contents h, the method comes to an end that Q says -/
def g_Met (l : Launch) (Y : g_Y) (G : g_G) (I : g_I) (as : List g_AV) (h : g_Hp) (Q : g_R → g_Hp → Prop) : Prop :=
  ∀ ρ : g_Rh, vx_Met l I.2.1 (g_ws I) (g_rm I) (g_Pc Y G ρ as h) (g_Qc G ρ h Q) (g_Xc G ρ h Q) (g_rm I).cells (g_rm I).slots G.2.2.2
theorem g_wl_good {w : Cond} (h : w ∈ g_WL) : goodWord w = true := (List.mem_filter.mp h).2
theorem g_in {w : Cond} {i : Nat} (h : g_tb[i]? = some w) (hg : goodWord w = true) : w ∈ g_WL := List.mem_filter.mpr ⟨List.mem_of_getElem? h, hg⟩
/-! moving what is known -/
theorem g_KS_moved {Y : g_Y} {G : g_G} {s U : State} {H : Heap} (hW : s.WarmedH U.vm) (h : g_KS Y G s H) : g_KS Y G U H := by
  obtain ⟨h1, h2, h3, h4, h5, h6, h7, h8, h9, h10, h11, h12, h13, h14, h15, h16⟩ := h
  have ha := hW.alike
  exact ⟨va_K.moved ha h1, fun q hq => va_Z.moved ha (h2 q hq), fun q hq => va_O.moved ha (h3 q hq), fun q hq => va_OF.moved ha (h4 q hq), fun q hq => va_T.moved ha (h5 q hq), fun q hq => vk_R.warm hW (h6 q hq), fun q hq => va_Nw.warmM hW (h7 q hq), fun q hq => va_Nw.warmC hW (h8 q hq), fun q hq => va_Nc.moved ha (h9 q hq), vx_Zq.moved ha h10, vx_Zq.moved ha h11, h12, va_Zq.moved ha h13, fun q hq => va_AO.moved ha (h14 q hq), va_Nw.warmF hW h15, fun x hx => va_Nw.warmD hW (h16 x hx)⟩
theorem g_KS_kept {Y : g_Y} {G : g_G} {s : State} {H H1 : Heap} (hq : ∀ a : Nat, a < H.size → ¬ G.2.2.2 a → H1[a]? = H[a]?) (h : g_KS Y G s H) : g_KS Y G s H1 := by
  obtain ⟨h1, h2, h3, h4, h5, h6, h7, h8, h9, h10, h11, h12, h13, h14, h15, h16⟩ := h
  exact ⟨h1, fun q h => va_Z.kept (h2 q h) hq, fun q h => va_O.kept (h3 q h) hq, fun q h => va_OF.kept (h4 q h) hq, fun q h => va_T.kept (h5 q h) hq, h6, h7, h8, h9, vx_Zq.kept h10 hq, vx_Zq.kept h11 hq, h12, va_Zq.kept h13 hq, h14, h15, h16⟩
theorem g_alike_F {Y : g_Y} {G : g_G} {U : State} {g : JFrame} {mk : MethodId} {a : Array Value} (h : g_KS Y G U U.heap) : g_KS Y G (U.calling g mk a) (U.calling g mk a).heap := g_KS_moved (s := U) (U := U.calling g mk a) (H := U.heap) (State.WarmedH.refl U) h
