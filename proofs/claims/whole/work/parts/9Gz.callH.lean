/-! ===== a call of a method that catches ===== -/
theorem s_callsH {Y : g_Y} {G : g_G} {X : g_X} {I J : g_I} {mc ms : Nat} {Q Q' : g_R → g_Hp → Prop} {pc k n idx : Nat} {ls : List (Nat × g_AV)} {st as : List g_AV} {h : g_Hp} (C0 : g_Cx Y G X I) {nA : Nat} (M : ∀ l, l.stackTraces = false → g_Met l Y G J as h Q') (hE : ∀ E h', ¬ Q' (.inr E) h') {hh : List (Nat × Nat × Nat × Nat)} (hhe : g_hd J = .codeWith J.2.1 J.2.2.1 J.2.2.2.1 J.2.2.2.2.1 hh)
    (cw : (Cond.methodLink I.1 idx J.2.1 ∈ g_WL ∧ Cond.initialized J.2.1.cls ∈ g_WL ∧ g_hd J ∈ g_WL) ∧ (J.2.1.cls ≠ "java/lang/invoke/MethodHandle" ∧ J.2.1.cls ≠ "java/lang/invoke/VarHandle" ∧ (parseMethodDescriptor J.2.1.desc).map (fun d => d.parameters.length) = some nA) ∧ (g_rm J).frames + 1 ≤ (g_rm I).frames ∧ 8 + (J.2.2.2.1 + 11) + (g_rm J).locals ≤ (g_rm I).locals) (hsta : Cond.static J.2.1 ∈ g_WL) (hn : as.length = nA) (hst : g_sz st ≤ 8) (hf : k + (g_rm J).cells ≤ (g_rm I).cells ∧ n + (g_rm J).slots ≤ (g_rm I).slots) {stk : List g_AV} (he : as.reverse ++ st = stk) (d : decode I.2.2.1 pc = .ok (.invokestatic idx, 3))
    (K : g_Kq G X I mc ms Q (pc + 3) (k + (g_rm J).cells) (n + (g_rm J).slots) ls st Q') : g_V G X I mc ms Q pc k n ls stk h := by
  obtain ⟨p, l, e, R, s, m, args, below, meth, c, h0, ρ0⟩ := X
  subst he
  intro ρ H locs la w
  obtain ⟨hok, w2⟩ := g_ok_rev w
  have hR : R = g_rm I := C0.2.2.2.2.2.2.2.2.2.2.2.2
  obtain ⟨⟨c1, c2, c3⟩, c5, c6, c7⟩ := cw
  have hM : Met l J.2.1 (g_ws J) (g_rm J) (g_Pc Y G ρ as h) (g_Qc G ρ h Q') (g_rm J).cells (g_rm J).slots G.2.2.2 := by
    intro p e ha hc hk s m args below hf happ hp hK
    obtain ⟨n, o, a1, a2, a3, q⟩ := M l C0.2.2.2.2.2.2.2.2.1 ρ p e ha hc hk s m args below hf happ hp hK
    refine ⟨n, o, a1, a2, a3, ?_⟩
    rcases q with q | ⟨q, _, E, ce, L, ⟨⟨h', ρ', _, _, hq⟩, _⟩, _⟩
    · exact q
    · exact absurd hq (hE E h')
  have hG : GoodIn g_WL (va_wsS I.1 idx J.2.1 (g_ws J)) := g_goodIn (fun w hw => by
    unfold va_wsS at hw
    rcases List.mem_append.mp hw with hw | hw
    · rcases List.mem_cons.mp hw with rfl | hw
      · exact c1
      · rcases List.mem_cons.mp hw with rfl | hw
        · exact hsta
        · rcases List.mem_cons.mp hw with rfl | hw
          · exact c2
          · exact absurd hw List.not_mem_nil
    · exact (List.mem_cons.mp hw).elim (fun e => e ▸ c3) id)
  refine g_of_run w2 C0.2.2.2.2.2.2.2.2.2.2.2.1 (a := (as.map (g_cv ρ)).toArray) ?_ K
  intro T hT Xs
  refine Or.inl (vx_runSW (hh := hh) (As := as.map (g_cv ρ)) (Ts := g_WL) ⟨C0.1, C0.2.1, C0.2.2.1, g_Cx_own C0, g_Cx_ts C0⟩ hM (vx_cwSW nA (g_Cx_ts C0) hG (by unfold g_ws; rw [hhe]) rfl rfl c5 (by rw [hR]; exact ⟨c6, c7⟩)) ⟨g_blind, g_preS C0 w2 hok⟩ rfl (by rw [List.length_map]; exact hn) w2.2.2.1.1 ?_ ?_ d (by rw [hR]; exact hf) T hT Xs)
  · rw [List.map_append, List.map_reverse]
  · show 2 * (F0 m pc la _).monitorRoom + _ ≤ 8
    exact lv_room (pc := pc) (rest := ((as.reverse ++ st).map (g_cv ρ))) (by rw [g_sum_le]; exact hst)
