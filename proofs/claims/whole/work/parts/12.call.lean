/-! ===== calls, ends, over ghost states ===== -/
theorem g_good_of {w : Cond} (h : (w.onTables && w.keeps) = true ∨ ∃ ty, w = .arrayClass ty) : goodWord w = true := by
  rcases h with h | ⟨ty, rfl⟩
  · cases w <;> first | rfl | exact h
  · rfl
theorem g_inL (ws : List Cond) (ps : List Nat) (hp : ws.map some = ps.map (fun i => g_tb[i]?)) (hg : ws.all goodWord = true) : ∀ w ∈ ws, w ∈ g_WL := by
  intro w hw
  obtain ⟨q, hq⟩ := List.getElem?_of_mem hw
  have h1 : (ws.map some)[q]? = some (some w) := by rw [List.getElem?_map, hq]; rfl
  rw [hp, List.getElem?_map] at h1
  cases hi : ps[q]? with
  | none => rw [hi] at h1; cases h1
  | some i =>
    rw [hi] at h1
    exact g_in (i := i) (Option.some.inj h1) (List.all_eq_true.mp hg w hw)
theorem g_goodIn {ws : List Cond} (h : ∀ w ∈ ws, w ∈ g_WL) : GoodIn g_WL ws := fun w hw => ⟨h w hw, good_of_word (g_wl_good (h w hw))⟩
theorem g_goodIn_ws {I : g_I} (h : g_hd I ∈ g_WL) : GoodIn g_WL (g_ws I) := g_goodIn (fun w hw => (List.mem_cons.mp hw).elim (fun e => e ▸ h) id)
/-- where the arguments lie at the entry -/
def g_ent : Nat → List g_AV → List (Nat × g_AV)
  | _, [] => []
  | i, v :: vs => (i, v) :: g_ent (if g_c2 v = true then i + 2 else i + 1) vs
theorem g_ent_lc (ρ : g_Rh) (vs : List g_AV) : ∀ i, lv_args i (vs.map (g_cv ρ)) = (g_ent i vs).map (g_lc ρ) := by
  induction vs with
  | nil => intro i; rfl
  | cons v vs ih =>
    intro i
    show (i, g_cv ρ v) :: lv_args (if (g_cv ρ v).category = 2 then i + 2 else i + 1) (vs.map (g_cv ρ)) = (i, g_cv ρ v) :: (g_ent (if g_c2 v = true then i + 2 else i + 1) vs).map (g_lc ρ)
    have e : ((g_cv ρ v).category = 2) ↔ (g_c2 v = true) := by rw [← g_c2_cv ρ v]; simp
    by_cases hc : g_c2 v = true
    · rw [if_pos hc, if_pos (e.mpr hc), ih]
    · rw [if_neg hc, if_neg (fun z => hc (e.mp z)), ih]
theorem g_ent_ok {h : g_Hp} (vs : List g_AV) (hv : ∀ v ∈ vs, g_ok h v) : ∀ i, ∀ q ∈ g_ent i vs, g_ok h q.2 := by
  induction vs with
  | nil => intro i q hq; cases hq
  | cons v vs ih =>
    intro i q hq
    rcases List.mem_cons.mp hq with rfl | hq
    · exact hv v List.mem_cons_self
    · exact ih (fun u hu => hv u (List.mem_cons_of_mem _ hu)) _ q hq
def g_sz : List g_AV → Nat
  | [] => 0
  | v :: vs => (if g_c2 v = true then 2 else 1) + g_sz vs
theorem g_sz_lc (ρ : g_Rh) (vs : List g_AV) : (lg_sl (vs.map (g_cv ρ))).length = g_sz vs := by
  induction vs with
  | nil => rfl
  | cons v vs ih =>
    have e : lg_sl ((v :: vs).map (g_cv ρ)) = lg_sl [g_cv ρ v] ++ lg_sl (vs.map (g_cv ρ)) := by simp [lg_sl]
    rw [e, List.length_append, ih]
    show _ = (if g_c2 v = true then 2 else 1) + g_sz vs
    rw [← g_c2_cv ρ v]
    cases g_cv ρ v <;> simp [lg_sl, Value.category]
/-- a body's walk gives the contract -/
theorem g_Met_of {l : Launch} {Y : g_Y} {G : g_G} {I : g_I} {as : List g_AV} {h : g_Hp} {Q : g_R → g_Hp → Prop} (hl : l.stackTraces = false) (hp : plainName I.2.1.cls = true) (hc : I.2.1.cls = I.1) (hh : I.2.2.2.2.2.1 = []) (hsz : g_sz as ≤ I.2.2.2.1)
    (body : ∀ X, g_Cx Y G X I → g_V G X I (g_rm I).cells (g_rm I).slots Q 0 0 0 (g_ent 0 as) [] h) : g_Met l Y G I as h Q := by
  intro ρ
  have e0 : g_hd I = .code I.2.1 I.2.2.1 I.2.2.2.1 I.2.2.2.2.1 := by unfold g_hd; rw [hh]
  refine vx_ofW (cc := I.2.2.1) (maxL := I.2.2.2.1) (ret := I.2.2.2.2.1) (ws' := g_WL) hp (by unfold g_ws; rw [e0]) ?_
  intro p e s m args below meth c s₁ B hml ht hv
  obtain ⟨rfl, hKS, hHR, hok, hA⟩ := hv
  have hts0 := atoms_spec (ws := g_ws I) B.pre
  have C0 : g_Cx Y G (p, l, e, (headSpec (g_ws I) (g_rm I)).room, s, m, (as.map (g_cv ρ)).toArray, below, meth, c, h, ρ) I :=
    ⟨B.exec, B.bytes, hml, hc ▸ findClass_of_methodNamed B.named, fun w hw => hts0 w (List.mem_cons_of_mem _ hw), B.notSynchronized, B.returns, (name_of_methodNamed B.named B.method).1, hl, by
      rw [hh]
      cases hx : c.exceptionTable.toList with
      | nil => rfl
      | cons x xs => exact (ht x (by rw [hx]; exact List.mem_cons_self)).elim, hKS, hA, rfl⟩
  have hent := lv_entry (as.map (g_cv ρ)) (n := I.2.2.2.1) (by rw [g_sz_lc]; exact hsz)
  rw [lg_entry_eq]
  rw [g_ent_lc] at hent
  exact body _ C0 ρ s.heap [] _ ⟨hHR, va_S.rf, hent, g_ent_ok as hok 0, g_ok_nil, g_ext_rf h ρ⟩
/-- .. of a method with handlers -/
theorem g_Met_ofH {l : Launch} {Y : g_Y} {G : g_G} {I : g_I} {as : List g_AV} {h : g_Hp} {Q : g_R → g_Hp → Prop} (hl : l.stackTraces = false) (hp : plainName I.2.1.cls = true) (hc : I.2.1.cls = I.1) (hh : g_hd I = .codeWith I.2.1 I.2.2.1 I.2.2.2.1 I.2.2.2.2.1 I.2.2.2.2.2.1) (hsz : g_sz as ≤ I.2.2.2.1)
    (body : ∀ X, g_Cx Y G X I → g_V G X I (g_rm I).cells (g_rm I).slots Q 0 0 0 (g_ent 0 as) [] h) : g_Met l Y G I as h Q := by
  intro ρ
  refine vx_ofWH (cc := I.2.2.1) (maxL := I.2.2.2.1) (ret := I.2.2.2.2.1) (hh := I.2.2.2.2.2.1) (ws' := g_WL) hp (by unfold g_ws; rw [hh]) ?_
  intro p e s m args below meth c s₁ B hml hv
  obtain ⟨rfl, hKS, hHR, hok, hA⟩ := hv
  have hts0 := atoms_spec (ws := g_ws I) B.pre
  have C0 : g_Cx Y G (p, l, e, (headSpec (g_ws I) (g_rm I)).room, s, m, (as.map (g_cv ρ)).toArray, below, meth, c, h, ρ) I :=
    ⟨B.exec, B.bytes, hml, hc ▸ findClass_of_methodNamed B.named, fun w hw => hts0 w (List.mem_cons_of_mem _ hw), B.notSynchronized, B.returns, (name_of_methodNamed B.named B.method).1, hl, vx_table (x := I.2.1) (bytes := I.2.2.1) (maxL' := I.2.2.2.1) (ret' := I.2.2.2.2.1) B (hh ▸ hts0 _ List.mem_cons_self), hKS, hA, rfl⟩
  have hent := lv_entry (as.map (g_cv ρ)) (n := I.2.2.2.1) (by rw [g_sz_lc]; exact hsz)
  rw [lg_entry_eq]
  rw [g_ent_lc] at hent
  exact body _ C0 ρ s.heap [] _ ⟨hHR, va_S.rf, hent, g_ent_ok as hok 0, g_ok_nil, g_ext_rf h ρ⟩
theorem g_blind {Y : g_Y} {G : g_G} {ρ : g_Rh} {as : List g_AV} {h : g_Hp} : FrameBlind (g_Pc Y G ρ as h) := fun a U g mk q => by
  obtain ⟨q1, q2, q3, q4, q5⟩ := q
  exact ⟨q1, g_alike_F q2, q3, q4, q5⟩
section GCall
variable {Y : g_Y} {G : g_G} {X : g_X} {I J : g_I} {mc ms : Nat} {Q Q' : g_R → g_Hp → Prop} {pc k n : Nat} {ls ls' : List (Nat × g_AV)} {st as : List g_AV} {h : g_Hp} {v w u : g_AV} {ρ : g_Rh} {H : Heap} {locs : List Loc} {la : Array Slot}
variable {kk kr s i j idx N : Nat}
/-- what a caller does with what comes back -/
def g_Kq (G : g_G) (X : g_X) (I : g_I) (mc ms : Nat) (Q : g_R → g_Hp → Prop) (pc k n : Nat) (ls : List (Nat × g_AV)) (st : List g_AV) (Q' : g_R → g_Hp → Prop) : Prop :=
  (∀ (r : Option g_AV) (h' : g_Hp), Q' (.inl r) h' → g_V G X I mc ms Q pc k n ls (r.toList ++ st) h') ∧ (∀ (E : String) (h' : g_Hp), Q' (.inr E) h' → g_VX G X I mc ms Q (pc - 3) k n ls h' E)
theorem g_of_run {p : Program} {l : Launch} {e : Env} {R : Room} {s : State} {m : MethodId} {args : Array Value} {below : List Frame} {meth : Method} {c : Code} {h0 : g_Hp} {ρ0 : g_Rh} {k' n' : Nat} {vs : List Value} {a : Array Value}
    (w : g_P G (p, l, e, R, s, m, args, below, meth, c, h0, ρ0) I ls st h ρ H locs la) (hA : ∀ q, s.heap.size ≤ q → G.2.2.2 q)
    (hr : vx_Run p l e R s m args below meth c H locs k n k' n' (F0 m pc la vs) (st.map (g_cv ρ)) (g_Qc G ρ h Q' a) (g_Xc G ρ h Q') G.2.2.2)
    (K : g_Kq G (p, l, e, R, s, m, args, below, meth, c, h0, ρ0) I mc ms Q (pc + 3) (k + k') (n + n') ls st Q') : W p l e R s m args below meth c H locs k n (vx_MQ below (g_Qc G ρ0 h0 Q) (g_Xc G ρ0 h0 Q) args s mc ms G.2.2.2) (F0 m pc la vs) := by
  intro T hT X'
  obtain ⟨w1, w2, w3, w4, w5, w6⟩ := w
  have move : ∀ {h' : g_Hp} {ρ' : g_Rh} {T' : State} {L : List Loc} {t : State} {st₀ : State}, st₀.heap = H → T'.heap = t.heap → (∀ q ∈ L, G.2.2.2 q.base) → va_F G.2.2.2 st₀ t → g_HR G ρ' h' t.heap → g_ext h ρ h' ρ' →
      g_HR G ρ' h' T'.heap ∧ va_S G.2.2.2 s.heap T'.heap (locs ++ L) ∧ lv_has la I.2.2.2.1 (ls.map (g_lc ρ')) ∧ (∀ q ∈ ls, g_ok h' q.2) ∧ (∀ v ∈ st, g_ok h' v) ∧ g_ext h0 ρ0 h' ρ' ∧ st.map (g_cv ρ') = st.map (g_cv ρ) := by
    intro h' ρ' T' L t st₀ z0 z1 z2 z3 z4 z5
    obtain ⟨-, -, k3⟩ := vx_keep (A1 := G.2.2.2) (free := G.2.2.2) z0 z1 w2 (fun q _ h => h) (fun q h => h) z2 z3
    refine ⟨z1 ▸ z4, k3, ?_, fun q hq => g_ok_mono z5 (w4 q hq), fun q hq => g_ok_mono z5 (w5 q hq), g_ext_tr w6 z5, ?_⟩
    · have e9 : ls.map (g_lc ρ') = ls.map (g_lc ρ) := List.map_congr_left fun q hq => by
        show (q.1, g_cv ρ' q.2) = (q.1, g_cv ρ q.2)
        rw [g_cv_eq z5 w1 z4 (w4 q hq)]
      rw [e9]; exact w3
    · exact List.map_congr_left fun q hq => g_cv_eq z5 w1 z4 (w5 q hq)
  rcases hr T hT X' with ⟨v, st₀, t, T', L, z0, X2, hL, e1, e2, ⟨⟨r, h', ρ', hv, hok, hR, hx, hq⟩, hF⟩, stp⟩ | ⟨q, st₀, t, T', L, E, ce, z0, X2, hL, e1, e2, ⟨⟨h', ρ', hR, hx, hq⟩, hF⟩, hce, hcv, hcl, stp⟩
  · obtain ⟨m1, m2, m3, m4, m5, m6, m7⟩ := move z0 e1 hL hF hR hx
    have K' := K.1 r h' hq ρ' T'.heap (locs ++ L) la ⟨m1, m2, m3, m4, fun v hv => (List.mem_append.mp hv).elim (fun z => hok v (Option.mem_toList.mp z)) (m5 v), m6⟩
    rw [List.map_append, m7] at K'
    have ev : v.toList = (r.toList).map (g_cv ρ') := by
      cases hv
      cases r <;> rfl
    rw [← ev] at K'
    obtain ⟨t2, a1, b1⟩ := K' T' rfl X2
    exact ⟨t2, stp t2 a1, b1⟩
  · obtain ⟨m1, m2, m3, m4, m5, m6, m7⟩ := move z0 e1 hL hF hR hx
    have K' := K.2 E h' hq ρ' T'.heap (locs ++ L) la (st.map (g_cv ρ)) ce q ⟨m1, m2, m3, m4, g_ok_nil, m6⟩ (by rw [e1]; exact hce) hcv hcl
    rw [Nat.add_sub_cancel] at K'
    obtain ⟨t2, a1, b1⟩ := K' T' rfl X2
    exact ⟨t2, stp.trans a1, b1⟩
/-- what a call of J from I wants of the tables, of the room -/
def g_CW (I J : g_I) (own : String) (idx nA : Nat) : Prop := (Cond.methodLink own idx J.2.1 ∈ g_WL ∧ Cond.initialized J.2.1.cls ∈ g_WL ∧ g_hd J ∈ g_WL) ∧ J.2.2.2.2.2.1 = [] ∧ (J.2.1.cls ≠ "java/lang/invoke/MethodHandle" ∧ J.2.1.cls ≠ "java/lang/invoke/VarHandle" ∧ (parseMethodDescriptor J.2.1.desc).map (fun d => d.parameters.length) = some nA) ∧ (g_rm J).frames + 1 ≤ (g_rm I).frames ∧ 8 + (J.2.2.2.1 + 11) + (g_rm J).locals ≤ (g_rm I).locals
theorem g_callB {own : String} {nA : Nat} {R : Room} {s : State} {args : Array Value} (hts : ∀ w ∈ g_WL, w.before args s = true) (hR : R = g_rm I) (cw : g_CW I J own idx nA) : CallB R s args own idx J.2.1 J.2.2.1 J.2.2.2.1 J.2.2.2.2.1 (g_ws J) (g_rm J) (g_rm J).cells (g_rm J).slots nA := by
  obtain ⟨⟨c1, c2, c3⟩, c4, c5, c6, c7⟩ := cw
  have e0 : g_hd J = .code J.2.1 J.2.2.1 J.2.2.2.1 J.2.2.2.2.1 := by unfold g_hd; rw [c4]
  exact callB_of (ws' := g_WL) nA hts (g_goodIn_ws c3) (by unfold g_ws; rw [e0]) rfl rfl (hts _ c2) (hts _ c1) c5 (by rw [hR]; exact ⟨c6, c7⟩)
theorem g_preS {p : Program} {l : Launch} {e : Env} {R : Room} {s : State} {m : MethodId} {args : Array Value} {below : List Frame} {meth : Method} {c : Code} {h0 : g_Hp} {ρ0 : g_Rh} (C0 : g_Cx Y G (p, l, e, R, s, m, args, below, meth, c, h0, ρ0) I) (w : g_P G (p, l, e, R, s, m, args, below, meth, c, h0, ρ0) I ls st h ρ H locs la) (hok : ∀ v ∈ as, g_ok h v) : ∀ U : State, U.heap = H → s.WarmedH U.vm → g_Pc Y G ρ as h ((as.map (g_cv ρ))).toArray U := by
  intro U hU hW
  refine ⟨rfl, ?_, by rw [hU]; exact w.1, hok, fun q hq => ?_⟩
  · rw [hU]; exact g_KS_moved hW (g_KS_kept w.2.1.2.1 (g_Cx_KS C0))
  · rw [hU] at hq
    exact C0.2.2.2.2.2.2.2.2.2.2.2.1 q (Nat.le_trans w.2.1.1 hq)
theorem g_sum_le (ρ : g_Rh) (st : List g_AV) : ((st.map (g_cv ρ)).map fun v => v.category).sum = g_sz st := by
  induction st with
  | nil => rfl
  | cons v vs ih =>
    show (g_cv ρ v).category + ((vs.map (g_cv ρ)).map fun v => v.category).sum = (if g_c2 v = true then 2 else 1) + g_sz vs
    rw [ih, ← g_c2_cv ρ v]
    cases g_cv ρ v <;> rfl
theorem g_ok_rev {as st : List g_AV} (w : g_P G X I ls (as.reverse ++ st) h ρ H locs la) : (∀ v ∈ as, g_ok h v) ∧ g_P G X I ls st h ρ H locs la := by
  obtain ⟨p, l, e, R, s, m, args, below, meth, c, h0, ρ0⟩ := X
  exact ⟨fun v hv => w.2.2.2.2.1 v (List.mem_append_left _ (List.mem_reverse.mpr hv)), w.1, w.2.1, w.2.2.1, w.2.2.2.1, fun v hv => w.2.2.2.2.1 v (List.mem_append_right _ hv), w.2.2.2.2.2⟩
/-- a static call -/
theorem s_calls (C0 : g_Cx Y G X I) {nA : Nat} (M : ∀ l, l.stackTraces = false → g_Met l Y G J as h Q') (cw : g_CW I J I.1 idx nA) (hsta : Cond.static J.2.1 ∈ g_WL) (hn : as.length = nA) (hst : g_sz st ≤ 8) (hf : k + (g_rm J).cells ≤ (g_rm I).cells ∧ n + (g_rm J).slots ≤ (g_rm I).slots) {stk : List g_AV} (he : as.reverse ++ st = stk) (d : decode I.2.2.1 pc = .ok (.invokestatic idx, 3))
    (K : g_Kq G X I mc ms Q (pc + 3) (k + (g_rm J).cells) (n + (g_rm J).slots) ls st Q') : g_V G X I mc ms Q pc k n ls stk h := by
  obtain ⟨p, l, e, R, s, m, args, below, meth, c, h0, ρ0⟩ := X
  subst he
  intro ρ H locs la w
  obtain ⟨hok, w2⟩ := g_ok_rev w
  have hR : R = g_rm I := C0.2.2.2.2.2.2.2.2.2.2.2.2
  refine g_of_run w2 C0.2.2.2.2.2.2.2.2.2.2.2.1 (a := (as.map (g_cv ρ)).toArray) ?_ K
  refine vx_runS (As := as.map (g_cv ρ)) (Ts := g_WL) ⟨C0.1, C0.2.1, C0.2.2.1, g_Cx_own C0, g_Cx_ts C0⟩ (M l C0.2.2.2.2.2.2.2.2.1 ρ) ⟨g_callB (g_Cx_ts C0) hR cw, g_Cx_ts C0 _ hsta⟩ ⟨g_blind, g_preS C0 w2 hok⟩ rfl (by rw [List.length_map]; exact hn) w2.2.2.1.1 ?_ ?_ d (by rw [hR]; exact hf)
  · rw [List.map_append, List.map_reverse]
  · show 2 * (F0 m pc la _).monitorRoom + _ ≤ 8
    exact lv_room (pc := pc) (rest := ((as.reverse ++ st).map (g_cv ρ))) (by rw [g_sum_le]; exact hst)
end GCall
