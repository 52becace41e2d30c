/-! ===== more calls; ends; throws; constants ===== -/
section GEnd
variable {Y : g_Y} {G : g_G} {X : g_X} {I J : g_I} {mc ms : Nat} {Q Q' : g_R → g_Hp → Prop} {pc k n : Nat} {ls ls' : List (Nat × g_AV)} {st as : List g_AV} {h : g_Hp} {v w u : g_AV} {ρ : g_Rh} {H : Heap} {locs : List Loc} {la : Array Slot}
variable {kk kr s i j idx N : Nat} {C : String} {T : u_T} {ty : Nat → FieldType}
/-- which method a call of y on an object of class C comes to -/
def g_Sel (C : String) (y : MethodName) : Prop := ∀ (s : State) (args : Array Value), (∀ w ∈ g_WL, w.before args s = true) → (Cond.selects C y y).before args s = true
theorem g_selW {C : String} {y : MethodName} (h : Cond.selects C y y ∈ g_WL) : g_Sel C y := fun _ _ hts => hts _ h
/-- a virtual call on an object of kind kk -/
theorem s_callv (CK : g_CK kk C T N ty) (hkr : kr = kk ∨ kr = kk + 40) (C0 : g_Cx Y G X I) {nA : Nat} (M : ∀ l, l.stackTraces = false → g_Met l Y G J (vR kr i j :: as) h Q') (cw : g_CW I J I.1 idx nA) (hins : Cond.instanceMethod J.2.1 ∈ g_WL) (hsel : g_Sel C J.2.1) (hn : as.length = nA) (hst : g_sz st ≤ 8) (hf : k + (g_rm J).cells ≤ (g_rm I).cells ∧ n + (g_rm J).slots ≤ (g_rm I).slots) {stk : List g_AV} (he : as.reverse ++ vR kr i j :: st = stk) (d : decode I.2.2.1 pc = .ok (.invokevirtual idx, 3))
    (K : g_Kq G X I mc ms Q (pc + 3) (k + (g_rm J).cells) (n + (g_rm J).slots) ls st Q') : g_V G X I mc ms Q pc k n ls stk h := by
  obtain ⟨p, l, e, R, s, m, args, below, meth, c, h0, ρ0⟩ := X
  subst he
  intro ρ H locs la w
  obtain ⟨hok, w1⟩ := g_ok_rev w
  have hokr := g_P_top w1
  have w2 := g_P_pop w1
  have hR : R = g_rm I := C0.2.2.2.2.2.2.2.2.2.2.2.2
  obtain ⟨hl, er⟩ := g_live hkr (by have := CK.1; omega) w1.1 hokr
  obtain ⟨L, q0, p1, p2, p3, p4, p5, p6, p7, e1, e2⟩ := g_HR_obj CK.1 w1.1 hl
  refine g_of_run w2 C0.2.2.2.2.2.2.2.2.2.2.2.1 (a := ((vR kr i j :: as).map (g_cv ρ)).toArray) ?_ K
  refine vx_runV (b := ρ kr i j) (As := as.map (g_cv ρ)) (Ts := g_WL) (C := C) ⟨C0.1, C0.2.1, C0.2.2.1, g_Cx_own C0, g_Cx_ts C0⟩ (M l C0.2.2.2.2.2.2.2.2.1 ρ) ⟨g_callB (g_Cx_ts C0) hR cw, g_Cx_ts C0 _ hins, hsel s args (g_Cx_ts C0)⟩ ⟨g_blind, ?_, g_preS C0 w2 (fun v hv => (List.mem_cons.mp hv).elim (fun e => e ▸ hokr) (hok v))⟩ rfl (by rw [List.length_map]; exact hn) w2.2.2.1.1 ?_ ?_ d (by rw [hR]; exact hf)
  · rw [show ρ kr i j = ρ kk i j from er]
    exact va_recv (g_Cx_K C0) p3 CK.2.1 e2
  · rw [List.map_append, List.map_reverse]
    rfl
  · exact lv_room (pc := pc) (rest := ((as.reverse ++ vR kr i j :: st).map (g_cv ρ))) (by rw [g_sum_le]; exact hst)
theorem g_roc_cv {ρ : g_Rh} {h : g_Hp} {H : Heap} (R : g_HR G ρ h H) {a b c' : Nat} (ha : 20 ≤ a ∧ a < 40) : G.2.2.1 a b = ρ a b c' := by
  obtain ⟨_, -, -, -, -, -, r1, -⟩ := R
  exact (r1 a b c' ha.1 ha.2).symm
/-- a virtual call on a constant object -/
theorem s_callc (hq : (C, kk, i) ∈ Y.2.1) (hk : 20 ≤ kk ∧ kk < 40) (C0 : g_Cx Y G X I) {nA : Nat} (M : ∀ l, l.stackTraces = false → g_Met l Y G J (vR kk i j :: as) h Q') (cw : g_CW I J I.1 idx nA) (hins : Cond.instanceMethod J.2.1 ∈ g_WL) (hsel : Cond.selects C J.2.1 J.2.1 ∈ g_WL) (hn : as.length = nA) (hst : g_sz st ≤ 8) (hf : k + (g_rm J).cells ≤ (g_rm I).cells ∧ n + (g_rm J).slots ≤ (g_rm I).slots) {stk : List g_AV} (he : as.reverse ++ vR kk i j :: st = stk) (d : decode I.2.2.1 pc = .ok (.invokevirtual idx, 3))
    (K : g_Kq G X I mc ms Q (pc + 3) (k + (g_rm J).cells) (n + (g_rm J).slots) ls st Q') : g_V G X I mc ms Q pc k n ls stk h := by
  obtain ⟨p, l, e, R, s, m, args, below, meth, c, h0, ρ0⟩ := X
  subst he
  intro ρ H locs la w
  obtain ⟨hok, w1⟩ := g_ok_rev w
  have hokr := g_P_top w1
  have w2 := g_P_pop w1
  have hR : R = g_rm I := C0.2.2.2.2.2.2.2.2.2.2.2.2
  have hO : va_O C (G.2.2.1 kk i) G.2.2.2 s s.heap := (g_Cx_KS C0).2.2.1 _ hq
  rw [g_roc_cv w1.1 (c' := j) hk] at hO
  refine g_of_run w2 C0.2.2.2.2.2.2.2.2.2.2.2.1 (a := ((vR kk i j :: as).map (g_cv ρ)).toArray) ?_ K
  refine vx_runV (b := ρ kk i j) (As := as.map (g_cv ρ)) (Ts := g_WL) (C := C) ⟨C0.1, C0.2.1, C0.2.2.1, g_Cx_own C0, g_Cx_ts C0⟩ (M l C0.2.2.2.2.2.2.2.2.1 ρ) ⟨g_callB (g_Cx_ts C0) hR cw, g_Cx_ts C0 _ hins, g_Cx_ts C0 _ hsel⟩ ⟨g_blind, ?_, g_preS C0 w2 (fun v hv => (List.mem_cons.mp hv).elim (fun e => e ▸ hokr) (hok v))⟩ rfl (by rw [List.length_map]; exact hn) w2.2.2.1.1 ?_ ?_ d (by rw [hR]; exact hf)
  · obtain ⟨cell, z1, z2, z3, -⟩ := hO.kept w2.2.1.2.1
    exact ⟨cell, z1, z2, z3⟩
  · rw [List.map_append, List.map_reverse]
    rfl
  · exact lv_room (pc := pc) (rest := ((as.reverse ++ vR kk i j :: st).map (g_cv ρ))) (by rw [g_sum_le]; exact hst)
/-- a constructor -/
theorem s_calli (C0 : g_Cx Y G X I) {nA : Nat} (M : ∀ l, l.stackTraces = false → g_Met l Y G J (vR kr i j :: as) h Q') (cw : g_CW I J I.1 idx nA) (hins : Cond.instanceMethod J.2.1 ∈ g_WL) (hret : J.2.2.2.2.1 = none) (hnm : J.2.1.name = "<init>") (hn : as.length = nA) (hst : g_sz st ≤ 8) (hf : k + (g_rm J).cells ≤ (g_rm I).cells ∧ n + (g_rm J).slots ≤ (g_rm I).slots) {stk : List g_AV} (he : as.reverse ++ vR kr i j :: st = stk) (d : decode I.2.2.1 pc = .ok (.invokespecial idx, 3))
    (K : g_Kq G X I mc ms Q (pc + 3) (k + (g_rm J).cells) (n + (g_rm J).slots) ls st Q') : g_V G X I mc ms Q pc k n ls stk h := by
  obtain ⟨p, l, e, R, s, m, args, below, meth, c, h0, ρ0⟩ := X
  subst he
  intro ρ H locs la w
  obtain ⟨hok, w1⟩ := g_ok_rev w
  have hokr := g_P_top w1
  have w2 := g_P_pop w1
  have hR : R = g_rm I := C0.2.2.2.2.2.2.2.2.2.2.2.2
  refine g_of_run w2 C0.2.2.2.2.2.2.2.2.2.2.2.1 (a := ((vR kr i j :: as).map (g_cv ρ)).toArray) ?_ K
  have cb := g_callB (R := R) (g_Cx_ts C0) hR cw
  rw [hret] at cb
  refine vx_runI (b := ρ kr i j) (As := as.map (g_cv ρ)) (Ts := g_WL) ⟨C0.1, C0.2.1, C0.2.2.1, g_Cx_own C0, g_Cx_ts C0⟩ (M l C0.2.2.2.2.2.2.2.2.1 ρ) ⟨cb, hnm, g_Cx_ts C0 _ hins⟩ ⟨g_blind, g_preS C0 w2 (fun v hv => (List.mem_cons.mp hv).elim (fun e => e ▸ hokr) (hok v))⟩ rfl (by rw [List.length_map]; exact hn) w2.2.2.1.1 ?_ ?_ d (by rw [hR]; exact hf)
  · rw [List.map_append, List.map_reverse]
    rfl
  · exact lv_room (pc := pc) (rest := ((as.reverse ++ vR kr i j :: st).map (g_cv ρ))) (by rw [g_sum_le]; exact hst)
/-- Object.<init> -/
theorem s_obj (C0 : g_Cx Y G X I) (hl : Cond.methodLink I.1 idx Lib.objectInit ∈ g_WL) (hi : Cond.instanceMethod Lib.objectInit ∈ g_WL) (hc : Cond.code Lib.objectInit ⟨#[0xb1]⟩ 1 none ∈ g_WL) (hst : g_sz st ≤ 8) (hf : 1 ≤ (g_rm I).frames ∧ 20 ≤ (g_rm I).locals) (d : decode I.2.2.1 pc = .ok (.invokespecial idx, 3)) (K : g_V G X I mc ms Q (pc + 3) k n ls st h) : g_V G X I mc ms Q pc k n ls (vR kr i j :: st) h := by
  obtain ⟨p, l, e, R, s, m, args, below, meth, c, h0, ρ0⟩ := X
  intro ρ H locs la w
  have hR : R = g_rm I := C0.2.2.2.2.2.2.2.2.2.2.2.2
  refine W.objInit C0.1 C0.2.1 (g_Cx_own C0) (g_Cx_ts C0 _ hl) (g_Cx_ts C0 _ hi) (g_Cx_ts C0 _ hc) (g := F0 m pc la (.ref (ρ kr i j) :: st.map (g_cv ρ))) rfl (w.2.2.1.1.trans C0.2.2.1.symm) rfl d (by rw [hR]; exact hf.1) ?_ (K ρ H locs la (g_P_pop w))
  have h1 : 2 * (F0 m pc la (.ref (ρ kr i j) :: st.map (g_cv ρ))).monitorRoom + ((st.map (g_cv ρ)).map fun v => v.category).sum ≤ 8 := lv_room (pc := pc) (rest := (.ref (ρ kr i j) :: st.map (g_cv ρ))) (by rw [g_sum_le]; exact hst)
  rw [hR]
  omega
/-- a private static method of a nest mate -/
theorem s_calln {host : String} (hq : (I.1, idx, J.2.1, host) ∈ Y.2.2.2.2.2.1) (C0 : g_Cx Y G X I) {nA : Nat} (M : ∀ l, l.stackTraces = false → g_Met l Y G J as h Q') (cw : Cond.initialized J.2.1.cls ∈ g_WL ∧ g_hd J ∈ g_WL ∧ Cond.static J.2.1 ∈ g_WL) (hh : J.2.2.2.2.2.1 = []) (hd : J.2.1.cls ≠ "java/lang/invoke/MethodHandle" ∧ J.2.1.cls ≠ "java/lang/invoke/VarHandle" ∧ (parseMethodDescriptor J.2.1.desc).map (fun d => d.parameters.length) = some nA) (hro : (g_rm J).frames + 1 ≤ (g_rm I).frames ∧ 8 + (J.2.2.2.1 + 11) + (g_rm J).locals ≤ (g_rm I).locals) (hn : as.length = nA) (hst : g_sz st ≤ 8) (hf : k + (g_rm J).cells ≤ (g_rm I).cells ∧ n + (g_rm J).slots ≤ (g_rm I).slots) {stk : List g_AV} (he : as.reverse ++ st = stk) (d : decode I.2.2.1 pc = .ok (.invokestatic idx, 3))
    (K : g_Kq G X I mc ms Q (pc + 3) (k + (g_rm J).cells) (n + (g_rm J).slots) ls st Q') : g_V G X I mc ms Q pc k n ls stk h := by
  obtain ⟨p, l, e, R, s, m, args, below, meth, c, h0, ρ0⟩ := X
  subst he
  intro ρ H locs la w
  obtain ⟨hok, w2⟩ := g_ok_rev w
  have hR : R = g_rm I := C0.2.2.2.2.2.2.2.2.2.2.2.2
  have hN : va_Nw (.methodLinkNest I.1 idx J.2.1 host) s := (g_Cx_KS C0).2.2.2.2.2.2.1 _ hq
  have e0 : g_hd J = .code J.2.1 J.2.2.1 J.2.2.2.1 J.2.2.2.2.1 := by unfold g_hd; rw [hh]
  refine g_of_run w2 C0.2.2.2.2.2.2.2.2.2.2.2.1 (a := (as.map (g_cv ρ)).toArray) ?_ K
  refine vx_runSN (As := as.map (g_cv ρ)) (Ts := g_WL) (host := host) ⟨C0.1, C0.2.1, C0.2.2.1, g_Cx_own C0, g_Cx_ts C0⟩ (M l C0.2.2.2.2.2.2.2.2.1 ρ) ⟨va_cnB (ws' := g_WL) nA (g_Cx_ts C0) (g_goodIn_ws cw.2.1) (by unfold g_ws; rw [e0]) rfl rfl hN (g_Cx_ts C0 _ cw.1) hd (by rw [hR]; exact hro), g_Cx_ts C0 _ cw.2.2, trivial⟩ ⟨g_blind, g_preS C0 w2 hok⟩ rfl (by rw [List.length_map]; exact hn) w2.2.2.1.1 ?_ ?_ d (by rw [hR]; exact hf)
  · rw [List.map_append, List.map_reverse]
  · exact lv_room (pc := pc) (rest := ((as.reverse ++ st).map (g_cv ρ))) (by rw [g_sum_le]; exact hst)
/-! what comes back -/
def g_kI (A : Int32 → g_Hp → Prop) (B : String → g_Hp → Prop) : g_R → g_Hp → Prop := fun r h => match r with
  | .inl (some (.inl x)) => A x h
  | .inr E => B E h
  | _ => False
def g_kV (A : g_Hp → Prop) (B : String → g_Hp → Prop) : g_R → g_Hp → Prop := fun r h => match r with
  | .inl none => A h
  | .inr E => B E h
  | _ => False
/-- a reference of kind q -/
def g_kR (q : Nat) (A : Nat → Nat → g_Hp → Prop) (B : String → g_Hp → Prop) : g_R → g_Hp → Prop := fun r h => match r with
  | .inl (some (.inr (.inl a))) => a.1 = q ∧ A a.2.1 a.2.2 h
  | .inr E => B E h
  | _ => False
/-- null, or a reference of kind q -/
def g_kN (q : Nat) (A0 : g_Hp → Prop) (A : Nat → Nat → g_Hp → Prop) (B : String → g_Hp → Prop) : g_R → g_Hp → Prop := fun r h => match r with
  | .inl (some (.inr (.inl a))) => a.1 = q ∧ A a.2.1 a.2.2 h
  | .inl (some (.inr (.inr .null))) => A0 h
  | .inr E => B E h
  | _ => False
def g_kL (A : Int64 → g_Hp → Prop) (B : String → g_Hp → Prop) : g_R → g_Hp → Prop := fun r h => match r with
  | .inl (some (.inr (.inr (.long x)))) => A x h
  | .inr E => B E h
  | _ => False
def g_kF (A : UInt32 → g_Hp → Prop) (B : String → g_Hp → Prop) : g_R → g_Hp → Prop := fun r h => match r with
  | .inl (some (.inr (.inr (.float x)))) => A x h
  | .inr E => B E h
  | _ => False
def g_kD (A : UInt64 → g_Hp → Prop) (B : String → g_Hp → Prop) : g_R → g_Hp → Prop := fun r h => match r with
  | .inl (some (.inr (.inr (.double x)))) => A x h
  | .inr E => B E h
  | _ => False
theorem g_Kq_I {A : Int32 → g_Hp → Prop} {B : String → g_Hp → Prop} (K : ∀ x h', A x h' → g_V G X I mc ms Q pc k n ls (vI x :: st) h') (KX : ∀ E h', B E h' → g_VX G X I mc ms Q (pc - 3) k n ls h' E) : g_Kq G X I mc ms Q pc k n ls st (g_kI A B) :=
  ⟨fun r h' hq => match r, hq with | some (.inl x), hq => K x h' hq, KX⟩
theorem g_Kq_V {A : g_Hp → Prop} {B : String → g_Hp → Prop} (K : ∀ h', A h' → g_V G X I mc ms Q pc k n ls st h') (KX : ∀ E h', B E h' → g_VX G X I mc ms Q (pc - 3) k n ls h' E) : g_Kq G X I mc ms Q pc k n ls st (g_kV A B) :=
  ⟨fun r h' hq => match r, hq with | none, hq => K h' hq, KX⟩
theorem g_Kq_R {q : Nat} {A : Nat → Nat → g_Hp → Prop} {B : String → g_Hp → Prop} (K : ∀ a b h', A a b h' → g_V G X I mc ms Q pc k n ls (vR q a b :: st) h') (KX : ∀ E h', B E h' → g_VX G X I mc ms Q (pc - 3) k n ls h' E) : g_Kq G X I mc ms Q pc k n ls st (g_kR q A B) :=
  ⟨fun r h' hq => match r, hq with | some (.inr (.inl (z, a, b))), hq => (show z = q from hq.1) ▸ K a b h' hq.2, KX⟩
theorem g_Kq_N {q : Nat} {A0 : g_Hp → Prop} {A : Nat → Nat → g_Hp → Prop} {B : String → g_Hp → Prop} (K0 : ∀ h', A0 h' → g_V G X I mc ms Q pc k n ls (vV .null :: st) h') (K : ∀ a b h', A a b h' → g_V G X I mc ms Q pc k n ls (vR q a b :: st) h') (KX : ∀ E h', B E h' → g_VX G X I mc ms Q (pc - 3) k n ls h' E) : g_Kq G X I mc ms Q pc k n ls st (g_kN q A0 A B) :=
  ⟨fun r h' hq => match r, hq with
    | some (.inr (.inl (z, a, b))), hq => (show z = q from hq.1) ▸ K a b h' hq.2
    | some (.inr (.inr .null)), hq => K0 h' hq, KX⟩
theorem g_Kq_L {A : Int64 → g_Hp → Prop} {B : String → g_Hp → Prop} (K : ∀ x h', A x h' → g_V G X I mc ms Q pc k n ls (vV (.long x) :: st) h') (KX : ∀ E h', B E h' → g_VX G X I mc ms Q (pc - 3) k n ls h' E) : g_Kq G X I mc ms Q pc k n ls st (g_kL A B) :=
  ⟨fun r h' hq => match r, hq with | some (.inr (.inr (.long x))), hq => K x h' hq, KX⟩
theorem g_Kq_F {A : UInt32 → g_Hp → Prop} {B : String → g_Hp → Prop} (K : ∀ x h', A x h' → g_V G X I mc ms Q pc k n ls (vV (.float x) :: st) h') (KX : ∀ E h', B E h' → g_VX G X I mc ms Q (pc - 3) k n ls h' E) : g_Kq G X I mc ms Q pc k n ls st (g_kF A B) :=
  ⟨fun r h' hq => match r, hq with | some (.inr (.inr (.float x))), hq => K x h' hq, KX⟩
theorem g_Kq_D {A : UInt64 → g_Hp → Prop} {B : String → g_Hp → Prop} (K : ∀ x h', A x h' → g_V G X I mc ms Q pc k n ls (vV (.double x) :: st) h') (KX : ∀ E h', B E h' → g_VX G X I mc ms Q (pc - 3) k n ls h' E) : g_Kq G X I mc ms Q pc k n ls st (g_kD A B) :=
  ⟨fun r h' hq => match r, hq with | some (.inr (.inr (.double x))), hq => K x h' hq, KX⟩
/-! ends -/
theorem g_end {p : Program} {l : Launch} {e : Env} {R : Room} {s : State} {m : MethodId} {args : Array Value} {below : List Frame} {meth : Method} {c : Code} {h0 : g_Hp} {ρ0 : g_Rh} (w : g_P G (p, l, e, R, s, m, args, below, meth, c, h0, ρ0) I ls st h ρ H locs la) {r : Option g_AV} (hr : ∀ v ∈ r, g_ok h v) (hq : Q (.inl r) h) : ∀ t : State, t.heap = H → s.WarmedH t.vm → g_Qc G ρ0 h0 Q args s (.returned (r.map (g_cv ρ))) t :=
  fun t ht _ => ⟨⟨r, h, ρ, rfl, hr, by rw [ht]; exact w.1, w.2.2.2.2.2, hq⟩, va_S.F w.2.1 ht⟩
theorem s_iret {x : Int32} {rt : FieldType} (hrt : I.2.2.2.2.1 = some rt) (hna : narrow rt (.int x) = .int x) (hw : k ≤ mc ∧ n ≤ ms) (hq : Q (.inl (some (vI x))) h) (C0 : g_Cx Y G X I) (d : decode I.2.2.1 pc = .ok (.ireturn, 1)) : g_V G X I mc ms Q pc k n ls [vI x] h := by
  obtain ⟨p, l, e, R, s, m, args, below, meth, c, h0, ρ0⟩ := X
  intro ρ H locs la w
  exact W.widen hw.1 hw.2 (vx_ret (W.zret C0.1 C0.2.1 (C0.2.2.2.2.2.2.1.trans hrt) hna (g_end (r := some (vI x)) w (fun v hv => by cases hv; trivial) hq) w.2.1.2.2 d (hlocks := C0.2.2.2.2.2.1)))
theorem s_vret (hrt : I.2.2.2.2.1 = none) (hw : k ≤ mc ∧ n ≤ ms) (hq : Q (.inl none) h) (C0 : g_Cx Y G X I) (d : decode I.2.2.1 pc = .ok (.return_, 1)) : g_V G X I mc ms Q pc k n ls [] h := by
  obtain ⟨p, l, e, R, s, m, args, below, meth, c, h0, ρ0⟩ := X
  intro ρ H locs la w
  exact W.widen hw.1 hw.2 (vx_ret (W.vret C0.1 C0.2.1 (C0.2.2.2.2.2.2.1.trans hrt) (g_end (r := none) w (fun v hv => nomatch hv) hq) w.2.1.2.2 d (hlocks := C0.2.2.2.2.2.1)))
theorem s_aret {a b c' : Nat} {rt : FieldType} (hrt : I.2.2.2.2.1 = some rt) (hob : (∃ n, rt = .object n) ∨ ∃ t, rt = .array t) (hw : k ≤ mc ∧ n ≤ ms) (hq : Q (.inl (some (vR a b c'))) h) (C0 : g_Cx Y G X I) (d : decode I.2.2.1 pc = .ok (.areturn, 1)) : g_V G X I mc ms Q pc k n ls [vR a b c'] h := by
  obtain ⟨p, l, e, R, s, m, args, below, meth, c, h0, ρ0⟩ := X
  intro ρ H locs la w
  exact W.widen hw.1 hw.2 (vx_ret (W.aret C0.1 C0.2.1 (C0.2.2.2.2.2.2.1.trans hrt) hob (Or.inr ⟨_, rfl⟩) (g_end (r := some (vR a b c')) w (fun v hv => by cases hv; exact g_P_top w) hq) w.2.1.2.2 d (hlocks := C0.2.2.2.2.2.1)))
theorem s_aretN {rt : FieldType} (hrt : I.2.2.2.2.1 = some rt) (hob : (∃ n, rt = .object n) ∨ ∃ t, rt = .array t) (hw : k ≤ mc ∧ n ≤ ms) (hq : Q (.inl (some (vV .null))) h) (C0 : g_Cx Y G X I) (d : decode I.2.2.1 pc = .ok (.areturn, 1)) : g_V G X I mc ms Q pc k n ls [vV .null] h := by
  obtain ⟨p, l, e, R, s, m, args, below, meth, c, h0, ρ0⟩ := X
  intro ρ H locs la w
  exact W.widen hw.1 hw.2 (vx_ret (W.aret C0.1 C0.2.1 (C0.2.2.2.2.2.2.1.trans hrt) hob (Or.inl rfl) (g_end (r := some (vV .null)) w (fun v hv => by cases hv; trivial) hq) w.2.1.2.2 d (hlocks := C0.2.2.2.2.2.1)))
theorem s_lret {x : Int64} (hrt : I.2.2.2.2.1 = some .long) (hw : k ≤ mc ∧ n ≤ ms) (hq : Q (.inl (some (vV (.long x)))) h) (C0 : g_Cx Y G X I) (d : decode I.2.2.1 pc = .ok (.lreturn, 1)) : g_V G X I mc ms Q pc k n ls [vV (.long x)] h := by
  obtain ⟨p, l, e, R, s, m, args, below, meth, c, h0, ρ0⟩ := X
  intro ρ H locs la w
  exact W.widen hw.1 hw.2 (vx_ret (W.lret C0.1 C0.2.1 (C0.2.2.2.2.2.2.1.trans hrt) (g_end (r := some (vV (.long x))) w (fun v hv => by cases hv; trivial) hq) w.2.1.2.2 d (hlocks := C0.2.2.2.2.2.1)))
theorem s_fret {x : UInt32} (hrt : I.2.2.2.2.1 = some .float) (hw : k ≤ mc ∧ n ≤ ms) (hq : Q (.inl (some (vV (.float x)))) h) (C0 : g_Cx Y G X I) (d : decode I.2.2.1 pc = .ok (.freturn, 1)) : g_V G X I mc ms Q pc k n ls [vV (.float x)] h := by
  obtain ⟨p, l, e, R, s, m, args, below, meth, c, h0, ρ0⟩ := X
  intro ρ H locs la w
  exact W.widen hw.1 hw.2 (vx_ret (W.fret C0.1 C0.2.1 (C0.2.2.2.2.2.2.1.trans hrt) (g_end (r := some (vV (.float x))) w (fun v hv => by cases hv; trivial) hq) w.2.1.2.2 d (hlocks := C0.2.2.2.2.2.1)))
theorem s_dret {x : UInt64} (hrt : I.2.2.2.2.1 = some .double) (hw : k ≤ mc ∧ n ≤ ms) (hq : Q (.inl (some (vV (.double x)))) h) (C0 : g_Cx Y G X I) (d : decode I.2.2.1 pc = .ok (.dreturn, 1)) : g_V G X I mc ms Q pc k n ls [vV (.double x)] h := by
  obtain ⟨p, l, e, R, s, m, args, below, meth, c, h0, ρ0⟩ := X
  intro ρ H locs la w
  exact W.widen hw.1 hw.2 (vx_ret (W.dret C0.1 C0.2.1 (C0.2.2.2.2.2.2.1.trans hrt) (g_end (r := some (vV (.double x))) w (fun v hv => by cases hv; trivial) hq) w.2.1.2.2 d (hlocks := C0.2.2.2.2.2.1)))
end GEnd
