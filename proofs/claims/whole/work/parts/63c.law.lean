/-! L_meanLostDays -/
abbrev iL_meanLostDays : g_I := (RL, yL_meanLostDays, cL_meanLostDays, 3, (some .int), [(0, 7, 10, 88)], { frames := 8, cells := 1, slots := 6, locals := 135 })
set_option maxRecDepth 100000 in
set_option maxHeartbeats 4000000 in
theorem vL_meanLostDays {G : g_G} {X : g_X} {Q : g_R → g_Hp → Prop} (C : g_Cx y_ G X iL_meanLostDays) (h : g_Hp) (H : wL_meanLostDays h Q) : g_V G X iL_meanLostDays 1 6 Q 0 0 0 [(0, vR 0 0 0), (1, vR 16 0 0)] [] h := by
  refine s_aload_n (pc := 0) C dL_meanLostDays_0 rfl 1 rfl ?_
  refine s_iconst (pc := 1) C dL_meanLostDays_1 (x := (0 : Int32)) (by decide) ?_
  refine s_aload_n (pc := 2) C dL_meanLostDays_2 rfl 0 rfl ?_
  refine s_callv (pc := 3) (nA := 0) (as := []) (st := [vI (0 : Int32), vR 16 0 0]) (stk := [vR 0 0 0, vI (0 : Int32), vR 16 0 0]) ckX7 (Or.inl rfl) C (fun l hl => ctX7_meanLostDays l hl _ _ H) ⟨⟨kw_1479, kw_58, kw_1482⟩, rfl, ⟨by decide, by decide, by decide +kernel⟩, by decide, by decide⟩ kw_1480 (g_selW kw_1481) rfl (Nat.le_of_ble_eq_true rfl) ⟨by decide, by decide⟩ rfl dL_meanLostDays_3 (g_Kq_D (fun u2 h1 H => ?_) (fun E h1 H => ?_))
  · refine s_dast0 (pc := 6) C dL_meanLostDays_6 ?_
    refine s_name (fun h3 eh3 => ?_)
    have H := H h3 eh3
    refine s_goto (pc := 7) (tgt := 13) C dL_meanLostDays_7 (by decide) ?_
    refine s_iconst (pc := 13) C dL_meanLostDays_13 (x := (0 : Int32)) (by decide) ?_
    exact s_iret (pc := 14) rfl rfl ⟨by decide, by decide⟩ H C dL_meanLostDays_14
  · obtain ⟨rfl, H⟩ := H
    refine s_catch (E := "java/lang/ArithmeticException") (name := "java/lang/ArithmeticException") [] (0, 7, 10, 88) [] rfl (by decide) (g_pre_nil) (by decide) kw_905 (cs_mem ("java/lang/ArithmeticException", "java/lang/ArithmeticException") (by decide +kernel)) C (fun q9 => ?_)
    refine s_astoreQ_n (pc := 10) (ls' := [(2, vV (.ref q9)), (0, vR 0 0 0), (1, vR 16 0 0)]) C dL_meanLostDays_10 rfl (by decide) rfl ?_
    refine s_iconst (pc := 11) C dL_meanLostDays_11 (x := (1 : Int32)) (by decide) ?_
    exact s_iret (pc := 12) rfl rfl ⟨by decide, by decide⟩ H C dL_meanLostDays_12
theorem ctL_meanLostDays (l : Launch) (hl : l.stackTraces = false) {G : g_G} (h : g_Hp) (Q : g_R → g_Hp → Prop) (H : wL_meanLostDays h Q) : g_Met l y_ G iL_meanLostDays [vR 0 0 0, vR 16 0 0] h Q :=
  g_Met_ofH hl (by decide +kernel) rfl rfl (Nat.le_of_ble_eq_true rfl) (fun X C => vL_meanLostDays C h H)
/-! L_undo -/
abbrev iL_undo : g_I := (RL, yL_undo, cL_undo, 3, (some .int), [(0, 8, 11, 17)], { frames := 7, cells := 1, slots := 6, locals := 115 })
set_option maxRecDepth 100000 in
set_option maxHeartbeats 4000000 in
theorem vL_undo {G : g_G} {X : g_X} {Q : g_R → g_Hp → Prop} (C : g_Cx y_ G X iL_undo) (h : g_Hp) (H : wL_undo h Q) : g_V G X iL_undo 1 6 Q 0 0 0 [(0, vR 0 0 0), (1, vR 15 0 0)] [] h := by
  refine s_aload_n (pc := 0) C dL_undo_0 rfl 1 rfl ?_
  refine s_iconst (pc := 1) C dL_undo_1 (x := (0 : Int32)) (by decide) ?_
  refine s_aload_n (pc := 2) C dL_undo_2 rfl 0 rfl ?_
  refine s_callv (pc := 3) (nA := 0) (as := []) (st := [vI (0 : Int32), vR 15 0 0]) (stk := [vR 0 0 0, vI (0 : Int32), vR 15 0 0]) ckX7 (Or.inl rfl) C (fun l hl => ctX7_undo l hl _ _ H) ⟨⟨kw_1486, kw_58, kw_1489⟩, rfl, ⟨by decide, by decide, by decide +kernel⟩, by decide, by decide⟩ kw_1487 (g_selW kw_1488) rfl (Nat.le_of_ble_eq_true rfl) ⟨by decide, by decide⟩ rfl dL_undo_3 (g_Kq_I (fun u2 h1 H => ?_) (fun E h1 H => ?_))
  · refine s_i2l (pc := 6) C dL_undo_6 ?_
    refine s_last0 (pc := 7) (y := u2) C dL_undo_7 ?_
    refine s_name (fun h3 eh3 => ?_)
    have H := H h3 eh3
    refine s_goto (pc := 8) (tgt := 14) C dL_undo_8 (by decide) ?_
    refine s_iconst (pc := 14) C dL_undo_14 (x := (0 : Int32)) (by decide) ?_
    exact s_iret (pc := 15) rfl rfl ⟨by decide, by decide⟩ H C dL_undo_15
  · obtain ⟨rfl, H⟩ := H
    refine s_catch (E := "java/lang/IllegalStateException") (name := "java/lang/IllegalStateException") [] (0, 8, 11, 17) [] rfl (by decide) (g_pre_nil) (by decide) kw_575 (cs_mem ("java/lang/IllegalStateException", "java/lang/IllegalStateException") (by decide +kernel)) C (fun q9 => ?_)
    refine s_astoreQ_n (pc := 11) (ls' := [(2, vV (.ref q9)), (0, vR 0 0 0), (1, vR 15 0 0)]) C dL_undo_11 rfl (by decide) rfl ?_
    refine s_iconst (pc := 12) C dL_undo_12 (x := (1 : Int32)) (by decide) ?_
    exact s_iret (pc := 13) rfl rfl ⟨by decide, by decide⟩ H C dL_undo_13
theorem ctL_undo (l : Launch) (hl : l.stackTraces = false) {G : g_G} (h : g_Hp) (Q : g_R → g_Hp → Prop) (H : wL_undo h Q) : g_Met l y_ G iL_undo [vR 0 0 0, vR 15 0 0] h Q :=
  g_Met_ofH hl (by decide +kernel) rfl rfl (Nat.le_of_ble_eq_true rfl) (fun X C => vL_undo C h H)
/-! L_restore -/
abbrev iL_restore : g_I := (RL, yL_restore, cL_restore, 3, (some .int), [(0, 8, 11, 17)], { frames := 7, cells := 1, slots := 6, locals := 115 })
set_option maxRecDepth 100000 in
set_option maxHeartbeats 4000000 in
theorem vL_restore {G : g_G} {X : g_X} {Q : g_R → g_Hp → Prop} (C : g_Cx y_ G X iL_restore) (h : g_Hp) (H : wL_restore h Q) : g_V G X iL_restore 1 6 Q 0 0 0 [(0, vR 0 0 0), (1, vR 15 0 0)] [] h := by
  refine s_aload_n (pc := 0) C dL_restore_0 rfl 1 rfl ?_
  refine s_iconst (pc := 1) C dL_restore_1 (x := (0 : Int32)) (by decide) ?_
  refine s_aload_n (pc := 2) C dL_restore_2 rfl 0 rfl ?_
  refine s_callv (pc := 3) (nA := 0) (as := []) (st := [vI (0 : Int32), vR 15 0 0]) (stk := [vR 0 0 0, vI (0 : Int32), vR 15 0 0]) ckX7 (Or.inl rfl) C (fun l hl => ctX7_restore l hl _ _ H) ⟨⟨kw_1494, kw_58, kw_1497⟩, rfl, ⟨by decide, by decide, by decide +kernel⟩, by decide, by decide⟩ kw_1495 (g_selW kw_1496) rfl (Nat.le_of_ble_eq_true rfl) ⟨by decide, by decide⟩ rfl dL_restore_3 (g_Kq_I (fun u2 h1 H => ?_) (fun E h1 H => ?_))
  · refine s_i2l (pc := 6) C dL_restore_6 ?_
    refine s_last0 (pc := 7) (y := u2) C dL_restore_7 ?_
    refine s_name (fun h3 eh3 => ?_)
    have H := H h3 eh3
    refine s_goto (pc := 8) (tgt := 14) C dL_restore_8 (by decide) ?_
    refine s_iconst (pc := 14) C dL_restore_14 (x := (0 : Int32)) (by decide) ?_
    exact s_iret (pc := 15) rfl rfl ⟨by decide, by decide⟩ H C dL_restore_15
  · obtain ⟨rfl, H⟩ := H
    refine s_catch (E := "java/lang/IllegalStateException") (name := "java/lang/IllegalStateException") [] (0, 8, 11, 17) [] rfl (by decide) (g_pre_nil) (by decide) kw_575 (cs_mem ("java/lang/IllegalStateException", "java/lang/IllegalStateException") (by decide +kernel)) C (fun q9 => ?_)
    refine s_astoreQ_n (pc := 11) (ls' := [(2, vV (.ref q9)), (0, vR 0 0 0), (1, vR 15 0 0)]) C dL_restore_11 rfl (by decide) rfl ?_
    refine s_iconst (pc := 12) C dL_restore_12 (x := (1 : Int32)) (by decide) ?_
    exact s_iret (pc := 13) rfl rfl ⟨by decide, by decide⟩ H C dL_restore_13
theorem ctL_restore (l : Launch) (hl : l.stackTraces = false) {G : g_G} (h : g_Hp) (Q : g_R → g_Hp → Prop) (H : wL_restore h Q) : g_Met l y_ G iL_restore [vR 0 0 0, vR 15 0 0] h Q :=
  g_Met_ofH hl (by decide +kernel) rfl rfl (Nat.le_of_ble_eq_true rfl) (fun X C => vL_restore C h H)
