/-! ===== a call of a method that catches: the row ===== -/
theorem s_callsH {Y : g_Y} {G : g_G} {X : g_X} {I J : g_I} {mc ms : Nat} {Q Q' : g_R → g_Hp → Prop} {pc k n idx : Nat} {ls : List (Nat × g_AV)} {st as : List g_AV} {h : g_Hp} (C0 : g_Cx Y G X I) {nA : Nat} (M : ∀ l, l.stackTraces = false → g_Met l Y G J as h Q') (hE : ∀ E h', ¬ Q' (.inr E) h') {hh : List (Nat × Nat × Nat × Nat)} (hhe : g_hd J = .codeWith J.2.1 J.2.2.1 J.2.2.2.1 J.2.2.2.2.1 hh)
    (cw : (Cond.methodLink I.1 idx J.2.1 ∈ g_WL ∧ Cond.initialized J.2.1.cls ∈ g_WL ∧ g_hd J ∈ g_WL) ∧ (J.2.1.cls ≠ "java/lang/invoke/MethodHandle" ∧ J.2.1.cls ≠ "java/lang/invoke/VarHandle" ∧ (parseMethodDescriptor J.2.1.desc).map (fun d => d.parameters.length) = some nA) ∧ (g_rm J).frames + 1 ≤ (g_rm I).frames ∧ 8 + (J.2.2.2.1 + 11) + (g_rm J).locals ≤ (g_rm I).locals) (hsta : Cond.static J.2.1 ∈ g_WL) (hn : as.length = nA) (hst : g_sz st ≤ 8) (hf : k + (g_rm J).cells ≤ (g_rm I).cells ∧ n + (g_rm J).slots ≤ (g_rm I).slots) {stk : List g_AV} (he : as.reverse ++ st = stk) (d : decode I.2.2.1 pc = .ok (.invokestatic idx, 3))
    (K : g_Kq G X I mc ms Q (pc + 3) (k + (g_rm J).cells) (n + (g_rm J).slots) ls st Q') : g_V G X I mc ms Q pc k n ls stk h := by
  obtain ⟨p, l, e, R, s, m, args, below, meth, c, h0, ρ0⟩ := X
  subst he
  intro ρ H locs la w
  obtain ⟨hok, w2⟩ := g_ok_rev w
  have hR : R = g_rm I := C0.2.2.2.2.2.2.2.2.2.2.2.2
  obtain ⟨⟨c1, c2, c3⟩, c5, c6, c7⟩ := cw
  have cwS : vx_CSW R s args I.1 idx J.2.1 J.2.2.1 J.2.2.2.1 J.2.2.2.2.1 hh (g_ws J) (g_rm J) (g_rm J).cells (g_rm J).slots nA := vx_cwSW (ws' := g_WL) nA (g_Cx_ts C0) (g_GoodH c1 c2 c3 hsta) (by unfold g_ws; rw [hhe]) rfl rfl c5 (by rw [hR]; exact ⟨c6, c7⟩)
  refine g_of_run w2 C0.2.2.2.2.2.2.2.2.2.2.2.1 (a := (as.map (g_cv ρ)).toArray) ?_ K
  have run : va_Run p l e R s m args below meth c H locs k n (g_rm J).cells (g_rm J).slots (F0 m pc la ((as.reverse ++ st).map (g_cv ρ))) (st.map (g_cv ρ)) (g_Qc G ρ h Q' (as.map (g_cv ρ)).toArray) G.2.2.2 := by
    refine vx_runSW (As := as.map (g_cv ρ)) (Ts := g_WL) ⟨C0.1, C0.2.1, C0.2.2.1, g_Cx_own C0, g_Cx_ts C0⟩ (g_MetH (M l C0.2.2.2.2.2.2.2.2.1) hE) cwS ⟨g_blind, g_preS C0 w2 hok⟩ rfl (by rw [List.length_map]; exact hn) w2.2.2.1.1 ?_ ?_ d (by rw [hR]; exact hf)
    · rw [List.map_append, List.map_reverse]
    · show 2 * (F0 m pc la _).monitorRoom + _ ≤ 8
      exact lv_room (pc := pc) (rest := ((as.reverse ++ st).map (g_cv ρ))) (by rw [g_sum_le]; exact hst)
  exact fun T hT Xs => Or.inl (run T hT Xs)
