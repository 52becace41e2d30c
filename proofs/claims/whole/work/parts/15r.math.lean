/-! ===== methods of a class in which some methods have rows of their own ("java/lang/Math"), this one not ===== -/
theorem g_Met_ofF {l : Launch} {Y : g_Y} {G : g_G} {I : g_I} {as : List g_AV} {h : g_Hp} {Q : g_R → g_Hp → Prop} (hl : l.stackTraces = false) (hp : plainFor I.2.1 = true) (hc : I.2.1.cls = I.1) (hh : I.2.2.2.2.2.1 = []) (hsz : g_sz as ≤ I.2.2.2.1)
    (body : ∀ X, g_Cx Y G X I → g_V G X I (g_rm I).cells (g_rm I).slots Q 0 0 0 (g_ent 0 as) [] h) : g_Met l Y G I as h Q := by
  intro ρ
  have e0 : g_hd I = .code I.2.1 I.2.2.1 I.2.2.2.1 I.2.2.2.2.1 := by unfold g_hd; rw [hh]
  have hw : g_ws I = Cond.code I.2.1 I.2.2.1 I.2.2.2.1 I.2.2.2.2.1 :: g_WL := by unfold g_ws; rw [e0]
  refine MetFree.of_bodySF (code := I.2.2.1) (maxLocals := I.2.2.2.1) (ret := I.2.2.2.2.1) hp ?_ ?_
  · intro args s m h9 hn
    obtain ⟨meth, c, h1, h2, h3, h4, h5, h6, -, -⟩ := Cond.code_spec hn (atoms_spec (ws := g_ws I) h9 _ (by rw [hw]; exact List.mem_cons_self))
    exact ⟨meth, c, h1, h2, h3, h4, h5, h6⟩
  · intro p e s m args below meth c s₁ B hml hv _
    obtain ⟨rfl, hKS, hHR, hok, hA⟩ := hv
    have hts0 := atoms_spec (ws := g_ws I) B.pre
    have hh0 : s₁.heap = s.heap := by rw [B.state]; rfl
    have ht : c.exceptionTable.toList = [] := by
      obtain ⟨meth9, c9, h1, h2, -, -, -, -, h7, -⟩ := Cond.code_spec B.named (hts0 (Cond.code I.2.1 I.2.2.1 I.2.2.2.1 I.2.2.2.2.1) (by rw [hw]; exact List.mem_cons_self))
      cases Option.some.inj (h1.symm.trans B.method)
      cases Option.some.inj (h2.symm.trans (Stand.of_body B).code)
      exact Array.isEmpty_iff.mp h7 ▸ rfl
    have C0 : g_Cx Y G (p, l, e, (headSpec (g_ws I) (g_rm I)).room, s, m, (as.map (g_cv ρ)).toArray, below, meth, c, h, ρ) I :=
      ⟨B.exec, B.bytes, hml, hc ▸ findClass_of_methodNamed B.named, fun w hw9 => hts0 w (by rw [hw]; exact List.mem_cons_of_mem _ hw9), B.notSynchronized, B.returns, (name_of_methodNamed B.named B.method).1, hl, by
        rw [hh, ht]
        rfl, hKS, hA, rfl⟩
    have hent := lv_entry (as.map (g_cv ρ)) (n := I.2.2.2.1) (by rw [g_sz_lc]; exact hsz)
    rw [g_ent_lc] at hent
    have K : W p l e (headSpec (g_ws I) (g_rm I)).room s m (as.map (g_cv ρ)).toArray below meth c s.heap [] 0 0 (vx_MQ below (g_Qc G ρ h Q) (g_Xc G ρ h Q) (as.map (g_cv ρ)).toArray s (g_rm I).cells (g_rm I).slots G.2.2.2) (entryFrame m (as.map (g_cv ρ)).toArray I.2.2.2.1) := by
      rw [lg_entry_eq]
      exact body _ C0 ρ s.heap [] _ ⟨hHR, va_S.rf, hent, g_ent_ok as hok 0, g_ok_nil, g_ext_rf h ρ⟩
    obtain ⟨t, a1, o, b1, b2, b3⟩ := K s₁ hh0 (Stand.of_body B)
    exact ⟨t, o, a1, b1, b2, b3⟩
theorem g_rtq_60b {i a b : Nat} {x : Int32} (eb : b = i) (e : x.toNatClampNeg - 1 = a) : g_rt 6 0 i x = some (14, b, a) := by rw [eb]; exact g_rtq_60 e
theorem g_cst_R {k i j : Nat} (e : (Nat.ble 20 k && Nat.ble (k + 1) 40) = true) : g_cst (vR k i j) := by
  rw [Bool.and_eq_true] at e
  exact ⟨Nat.le_of_ble_eq_true e.1, Nat.le_of_ble_eq_true e.2⟩
