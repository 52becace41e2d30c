/-! L_addMember -/
abbrev iL_addMember : g_I := (RL, yL_addMember, cL_addMember, 5, (some .int), [(0, 10, 13, 13), (0, 10, 17, 15), (0, 10, 21, 17)], { frames := 8, cells := 1, slots := 6, locals := 138 })
set_option maxRecDepth 100000 in
set_option maxHeartbeats 4000000 in
theorem vL_addMember {G : g_G} {X : g_X} {Q : g_R → g_Hp → Prop} (C : g_Cx y_ G X iL_addMember) (p1 : Int32) (p2 : Int32) (h : g_Hp) (H : wL_addMember p1 p2 h Q) : g_V G X iL_addMember 1 6 Q 0 0 0 [(0, vR 0 0 0), (1, vI p1), (2, vI p2), (3, vR 15 0 0)] [] h := by
  refine s_aload_n (pc := 0) C dL_addMember_0 rfl 3 rfl ?_
  refine s_iconst (pc := 1) C dL_addMember_1 (x := (0 : Int32)) (by decide) ?_
  refine s_aload_n (pc := 2) C dL_addMember_2 rfl 0 rfl ?_
  refine s_iload_n (pc := 3) C dL_addMember_3 rfl 1 rfl ?_
  refine s_iload_n (pc := 4) C dL_addMember_4 rfl 2 rfl ?_
  refine s_callv (pc := 5) (nA := 2) (as := [vI p1, vI p2]) (st := [vI (0 : Int32), vR 15 0 0]) (stk := [vI p2, vI p1, vR 0 0 0, vI (0 : Int32), vR 15 0 0]) ckX7 (Or.inl rfl) C (fun l hl => ctX7_addMember l hl p1 p2 _ _ H) ⟨⟨kw_576, kw_58, kw_579⟩, rfl, ⟨by decide, by decide, by decide +kernel⟩, by decide, by decide⟩ kw_577 (g_selW kw_578) rfl (Nat.le_of_ble_eq_true rfl) ⟨by decide, by decide⟩ rfl dL_addMember_5 (g_Kq_I (fun u2 h1 H => ?_) (fun E h1 H => ?_))
  · refine s_i2l (pc := 8) C dL_addMember_8 ?_
    refine s_last0 (pc := 9) (y := u2) C dL_addMember_9 ?_
    refine s_name (fun h3 eh3 => ?_)
    have H := H h3 eh3
    refine s_goto (pc := 10) (tgt := 25) C dL_addMember_10 (by decide) ?_
    refine s_iconst (pc := 25) C dL_addMember_25 (x := (0 : Int32)) (by decide) ?_
    exact s_iret (pc := 26) rfl rfl ⟨by decide, by decide⟩ H C dL_addMember_26
  · rcases H with H | H | H
    · obtain ⟨rfl, H⟩ := H
      refine s_catch (E := "java/lang/IndexOutOfBoundsException") (name := "java/lang/IndexOutOfBoundsException") [] (0, 10, 13, 13) [(0, 10, 17, 15), (0, 10, 21, 17)] rfl (by decide) (g_pre_nil) (by decide) kw_553 (cs_mem ("java/lang/IndexOutOfBoundsException", "java/lang/IndexOutOfBoundsException") (by decide +kernel)) C (fun q9 => ?_)
      refine s_astoreQ (pc := 13) (ls' := [(4, vV (.ref q9)), (0, vR 0 0 0), (1, vI p1), (2, vI p2), (3, vR 15 0 0)]) C dL_addMember_13 (by decide) rfl ?_
      refine s_iconst (pc := 15) C dL_addMember_15 (x := (1 : Int32)) (by decide) ?_
      exact s_iret (pc := 16) rfl rfl ⟨by decide, by decide⟩ H C dL_addMember_16
    · obtain ⟨rfl, H⟩ := H
      refine s_catch (E := "java/lang/IllegalArgumentException") (name := "java/lang/IllegalArgumentException") [(0, 10, 13, 13)] (0, 10, 17, 15) [(0, 10, 21, 17)] rfl (by decide) (g_pre_cons (by decide) kw_553 (ms_mem ("java/lang/IllegalArgumentException", "java/lang/IndexOutOfBoundsException") (by decide +kernel)) (g_pre_nil)) (by decide) kw_574 (cs_mem ("java/lang/IllegalArgumentException", "java/lang/IllegalArgumentException") (by decide +kernel)) C (fun q9 => ?_)
      refine s_astoreQ (pc := 17) (ls' := [(4, vV (.ref q9)), (0, vR 0 0 0), (1, vI p1), (2, vI p2), (3, vR 15 0 0)]) C dL_addMember_17 (by decide) rfl ?_
      refine s_iconst (pc := 19) C dL_addMember_19 (x := (2 : Int32)) (by decide) ?_
      exact s_iret (pc := 20) rfl rfl ⟨by decide, by decide⟩ H C dL_addMember_20
    · obtain ⟨rfl, H⟩ := H
      refine s_catch (E := "java/lang/IllegalStateException") (name := "java/lang/IllegalStateException") [(0, 10, 13, 13), (0, 10, 17, 15)] (0, 10, 21, 17) [] rfl (by decide) (g_pre_cons (by decide) kw_553 (ms_mem ("java/lang/IllegalStateException", "java/lang/IndexOutOfBoundsException") (by decide +kernel)) (g_pre_cons (by decide) kw_574 (ms_mem ("java/lang/IllegalStateException", "java/lang/IllegalArgumentException") (by decide +kernel)) (g_pre_nil))) (by decide) kw_575 (cs_mem ("java/lang/IllegalStateException", "java/lang/IllegalStateException") (by decide +kernel)) C (fun q9 => ?_)
      refine s_astoreQ (pc := 21) (ls' := [(4, vV (.ref q9)), (0, vR 0 0 0), (1, vI p1), (2, vI p2), (3, vR 15 0 0)]) C dL_addMember_21 (by decide) rfl ?_
      refine s_iconst (pc := 23) C dL_addMember_23 (x := (3 : Int32)) (by decide) ?_
      exact s_iret (pc := 24) rfl rfl ⟨by decide, by decide⟩ H C dL_addMember_24
theorem ctL_addMember (l : Launch) (hl : l.stackTraces = false) {G : g_G} (p1 : Int32) (p2 : Int32) (h : g_Hp) (Q : g_R → g_Hp → Prop) (H : wL_addMember p1 p2 h Q) : g_Met l y_ G iL_addMember [vR 0 0 0, vI p1, vI p2, vR 15 0 0] h Q :=
  g_Met_ofH hl (by decide +kernel) rfl rfl (Nat.le_of_ble_eq_true rfl) (fun X C => vL_addMember C p1 p2 h H)
/-! L_roofOf -/
abbrev iL_roofOf : g_I := (RL, yL_roofOf, cL_roofOf, 4, (some .int), [(0, 9, 12, 13)], { frames := 8, cells := 1, slots := 6, locals := 137 })
set_option maxRecDepth 100000 in
set_option maxHeartbeats 4000000 in
theorem vL_roofOf {G : g_G} {X : g_X} {Q : g_R → g_Hp → Prop} (C : g_Cx y_ G X iL_roofOf) (p1 : Int32) (h : g_Hp) (H : wL_roofOf p1 h Q) : g_V G X iL_roofOf 1 6 Q 0 0 0 [(0, vR 0 0 0), (1, vI p1), (2, vR 15 0 0)] [] h := by
  refine s_aload_n (pc := 0) C dL_roofOf_0 rfl 2 rfl ?_
  refine s_iconst (pc := 1) C dL_roofOf_1 (x := (0 : Int32)) (by decide) ?_
  refine s_aload_n (pc := 2) C dL_roofOf_2 rfl 0 rfl ?_
  refine s_iload_n (pc := 3) C dL_roofOf_3 rfl 1 rfl ?_
  refine s_callv (pc := 4) (nA := 1) (as := [vI p1]) (st := [vI (0 : Int32), vR 15 0 0]) (stk := [vI p1, vR 0 0 0, vI (0 : Int32), vR 15 0 0]) ckX7 (Or.inl rfl) C (fun l hl => ctX7_roofOf l hl p1 _ _ H) ⟨⟨kw_690, kw_58, kw_693⟩, rfl, ⟨by decide, by decide, by decide +kernel⟩, by decide, by decide⟩ kw_691 (g_selW kw_692) rfl (Nat.le_of_ble_eq_true rfl) ⟨by decide, by decide⟩ rfl dL_roofOf_4 (g_Kq_I (fun u2 h1 H => ?_) (fun E h1 H => ?_))
  · refine s_i2l (pc := 7) C dL_roofOf_7 ?_
    refine s_last0 (pc := 8) (y := u2) C dL_roofOf_8 ?_
    refine s_name (fun h3 eh3 => ?_)
    have H := H h3 eh3
    refine s_goto (pc := 9) (tgt := 15) C dL_roofOf_9 (by decide) ?_
    refine s_iconst (pc := 15) C dL_roofOf_15 (x := (0 : Int32)) (by decide) ?_
    exact s_iret (pc := 16) rfl rfl ⟨by decide, by decide⟩ H C dL_roofOf_16
  · obtain ⟨rfl, H⟩ := H
    refine s_catch (E := "java/lang/IndexOutOfBoundsException") (name := "java/lang/IndexOutOfBoundsException") [] (0, 9, 12, 13) [] rfl (by decide) (g_pre_nil) (by decide) kw_553 (cs_mem ("java/lang/IndexOutOfBoundsException", "java/lang/IndexOutOfBoundsException") (by decide +kernel)) C (fun q9 => ?_)
    refine s_astoreQ_n (pc := 12) (ls' := [(3, vV (.ref q9)), (0, vR 0 0 0), (1, vI p1), (2, vR 15 0 0)]) C dL_roofOf_12 rfl (by decide) rfl ?_
    refine s_iconst (pc := 13) C dL_roofOf_13 (x := (1 : Int32)) (by decide) ?_
    exact s_iret (pc := 14) rfl rfl ⟨by decide, by decide⟩ H C dL_roofOf_14
theorem ctL_roofOf (l : Launch) (hl : l.stackTraces = false) {G : g_G} (p1 : Int32) (h : g_Hp) (Q : g_R → g_Hp → Prop) (H : wL_roofOf p1 h Q) : g_Met l y_ G iL_roofOf [vR 0 0 0, vI p1, vR 15 0 0] h Q :=
  g_Met_ofH hl (by decide +kernel) rfl rfl (Nat.le_of_ble_eq_true rfl) (fun X C => vL_roofOf C p1 h H)
/-! L_membersOn -/
abbrev iL_membersOn : g_I := (RL, yL_membersOn, cL_membersOn, 4, (some .int), [(0, 9, 12, 13)], { frames := 8, cells := 1, slots := 6, locals := 136 })
set_option maxRecDepth 100000 in
set_option maxHeartbeats 4000000 in
theorem vL_membersOn {G : g_G} {X : g_X} {Q : g_R → g_Hp → Prop} (C : g_Cx y_ G X iL_membersOn) (p1 : Int32) (h : g_Hp) (H : wL_membersOn p1 h Q) : g_V G X iL_membersOn 1 6 Q 0 0 0 [(0, vR 0 0 0), (1, vI p1), (2, vR 15 0 0)] [] h := by
  refine s_aload_n (pc := 0) C dL_membersOn_0 rfl 2 rfl ?_
  refine s_iconst (pc := 1) C dL_membersOn_1 (x := (0 : Int32)) (by decide) ?_
  refine s_aload_n (pc := 2) C dL_membersOn_2 rfl 0 rfl ?_
  refine s_iload_n (pc := 3) C dL_membersOn_3 rfl 1 rfl ?_
  refine s_callv (pc := 4) (nA := 1) (as := [vI p1]) (st := [vI (0 : Int32), vR 15 0 0]) (stk := [vI p1, vR 0 0 0, vI (0 : Int32), vR 15 0 0]) ckX7 (Or.inl rfl) C (fun l hl => ctX7_membersOn l hl p1 _ _ H) ⟨⟨kw_697, kw_58, kw_700⟩, rfl, ⟨by decide, by decide, by decide +kernel⟩, by decide, by decide⟩ kw_698 (g_selW kw_699) rfl (Nat.le_of_ble_eq_true rfl) ⟨by decide, by decide⟩ rfl dL_membersOn_4 (g_Kq_I (fun u2 h1 H => ?_) (fun E h1 H => ?_))
  · refine s_i2l (pc := 7) C dL_membersOn_7 ?_
    refine s_last0 (pc := 8) (y := u2) C dL_membersOn_8 ?_
    refine s_name (fun h3 eh3 => ?_)
    have H := H h3 eh3
    refine s_goto (pc := 9) (tgt := 15) C dL_membersOn_9 (by decide) ?_
    refine s_iconst (pc := 15) C dL_membersOn_15 (x := (0 : Int32)) (by decide) ?_
    exact s_iret (pc := 16) rfl rfl ⟨by decide, by decide⟩ H C dL_membersOn_16
  · obtain ⟨rfl, H⟩ := H
    refine s_catch (E := "java/lang/IndexOutOfBoundsException") (name := "java/lang/IndexOutOfBoundsException") [] (0, 9, 12, 13) [] rfl (by decide) (g_pre_nil) (by decide) kw_553 (cs_mem ("java/lang/IndexOutOfBoundsException", "java/lang/IndexOutOfBoundsException") (by decide +kernel)) C (fun q9 => ?_)
    refine s_astoreQ_n (pc := 12) (ls' := [(3, vV (.ref q9)), (0, vR 0 0 0), (1, vI p1), (2, vR 15 0 0)]) C dL_membersOn_12 rfl (by decide) rfl ?_
    refine s_iconst (pc := 13) C dL_membersOn_13 (x := (1 : Int32)) (by decide) ?_
    exact s_iret (pc := 14) rfl rfl ⟨by decide, by decide⟩ H C dL_membersOn_14
theorem ctL_membersOn (l : Launch) (hl : l.stackTraces = false) {G : g_G} (p1 : Int32) (h : g_Hp) (Q : g_R → g_Hp → Prop) (H : wL_membersOn p1 h Q) : g_Met l y_ G iL_membersOn [vR 0 0 0, vI p1, vR 15 0 0] h Q :=
  g_Met_ofH hl (by decide +kernel) rfl rfl (Nat.le_of_ble_eq_true rfl) (fun X C => vL_membersOn C p1 h H)
/-! L_rateOf -/
abbrev iL_rateOf : g_I := (RL, yL_rateOf, cL_rateOf, 4, (some .int), [(0, 9, 12, 13)], { frames := 8, cells := 1, slots := 6, locals := 137 })
set_option maxRecDepth 100000 in
set_option maxHeartbeats 4000000 in
theorem vL_rateOf {G : g_G} {X : g_X} {Q : g_R → g_Hp → Prop} (C : g_Cx y_ G X iL_rateOf) (p1 : Int32) (h : g_Hp) (H : wL_rateOf p1 h Q) : g_V G X iL_rateOf 1 6 Q 0 0 0 [(0, vR 0 0 0), (1, vI p1), (2, vR 15 0 0)] [] h := by
  refine s_aload_n (pc := 0) C dL_rateOf_0 rfl 2 rfl ?_
  refine s_iconst (pc := 1) C dL_rateOf_1 (x := (0 : Int32)) (by decide) ?_
  refine s_aload_n (pc := 2) C dL_rateOf_2 rfl 0 rfl ?_
  refine s_iload_n (pc := 3) C dL_rateOf_3 rfl 1 rfl ?_
  refine s_callv (pc := 4) (nA := 1) (as := [vI p1]) (st := [vI (0 : Int32), vR 15 0 0]) (stk := [vI p1, vR 0 0 0, vI (0 : Int32), vR 15 0 0]) ckX7 (Or.inl rfl) C (fun l hl => ctX7_rateOf l hl p1 _ _ H) ⟨⟨kw_713, kw_58, kw_716⟩, rfl, ⟨by decide, by decide, by decide +kernel⟩, by decide, by decide⟩ kw_714 (g_selW kw_715) rfl (Nat.le_of_ble_eq_true rfl) ⟨by decide, by decide⟩ rfl dL_rateOf_4 (g_Kq_I (fun u2 h1 H => ?_) (fun E h1 H => ?_))
  · refine s_i2l (pc := 7) C dL_rateOf_7 ?_
    refine s_last0 (pc := 8) (y := u2) C dL_rateOf_8 ?_
    refine s_name (fun h3 eh3 => ?_)
    have H := H h3 eh3
    refine s_goto (pc := 9) (tgt := 15) C dL_rateOf_9 (by decide) ?_
    refine s_iconst (pc := 15) C dL_rateOf_15 (x := (0 : Int32)) (by decide) ?_
    exact s_iret (pc := 16) rfl rfl ⟨by decide, by decide⟩ H C dL_rateOf_16
  · obtain ⟨rfl, H⟩ := H
    refine s_catch (E := "java/lang/IndexOutOfBoundsException") (name := "java/lang/IndexOutOfBoundsException") [] (0, 9, 12, 13) [] rfl (by decide) (g_pre_nil) (by decide) kw_553 (cs_mem ("java/lang/IndexOutOfBoundsException", "java/lang/IndexOutOfBoundsException") (by decide +kernel)) C (fun q9 => ?_)
    refine s_astoreQ_n (pc := 12) (ls' := [(3, vV (.ref q9)), (0, vR 0 0 0), (1, vI p1), (2, vR 15 0 0)]) C dL_rateOf_12 rfl (by decide) rfl ?_
    refine s_iconst (pc := 13) C dL_rateOf_13 (x := (1 : Int32)) (by decide) ?_
    exact s_iret (pc := 14) rfl rfl ⟨by decide, by decide⟩ H C dL_rateOf_14
theorem ctL_rateOf (l : Launch) (hl : l.stackTraces = false) {G : g_G} (p1 : Int32) (h : g_Hp) (Q : g_R → g_Hp → Prop) (H : wL_rateOf p1 h Q) : g_Met l y_ G iL_rateOf [vR 0 0 0, vI p1, vR 15 0 0] h Q :=
  g_Met_ofH hl (by decide +kernel) rfl rfl (Nat.le_of_ble_eq_true rfl) (fun X C => vL_rateOf C p1 h H)
/-! L_bearingOf -/
abbrev iL_bearingOf : g_I := (RL, yL_bearingOf, cL_bearingOf, 4, (some .int), [(0, 9, 12, 13)], { frames := 8, cells := 1, slots := 6, locals := 137 })
set_option maxRecDepth 100000 in
set_option maxHeartbeats 4000000 in
theorem vL_bearingOf {G : g_G} {X : g_X} {Q : g_R → g_Hp → Prop} (C : g_Cx y_ G X iL_bearingOf) (p1 : Int32) (h : g_Hp) (H : wL_bearingOf p1 h Q) : g_V G X iL_bearingOf 1 6 Q 0 0 0 [(0, vR 0 0 0), (1, vI p1), (2, vR 15 0 0)] [] h := by
  refine s_aload_n (pc := 0) C dL_bearingOf_0 rfl 2 rfl ?_
  refine s_iconst (pc := 1) C dL_bearingOf_1 (x := (0 : Int32)) (by decide) ?_
  refine s_aload_n (pc := 2) C dL_bearingOf_2 rfl 0 rfl ?_
  refine s_iload_n (pc := 3) C dL_bearingOf_3 rfl 1 rfl ?_
  refine s_callv (pc := 4) (nA := 1) (as := [vI p1]) (st := [vI (0 : Int32), vR 15 0 0]) (stk := [vI p1, vR 0 0 0, vI (0 : Int32), vR 15 0 0]) ckX7 (Or.inl rfl) C (fun l hl => ctX7_bearingOf l hl p1 _ _ H) ⟨⟨kw_720, kw_58, kw_723⟩, rfl, ⟨by decide, by decide, by decide +kernel⟩, by decide, by decide⟩ kw_721 (g_selW kw_722) rfl (Nat.le_of_ble_eq_true rfl) ⟨by decide, by decide⟩ rfl dL_bearingOf_4 (g_Kq_I (fun u2 h1 H => ?_) (fun E h1 H => ?_))
  · refine s_i2l (pc := 7) C dL_bearingOf_7 ?_
    refine s_last0 (pc := 8) (y := u2) C dL_bearingOf_8 ?_
    refine s_name (fun h3 eh3 => ?_)
    have H := H h3 eh3
    refine s_goto (pc := 9) (tgt := 15) C dL_bearingOf_9 (by decide) ?_
    refine s_iconst (pc := 15) C dL_bearingOf_15 (x := (0 : Int32)) (by decide) ?_
    exact s_iret (pc := 16) rfl rfl ⟨by decide, by decide⟩ H C dL_bearingOf_16
  · obtain ⟨rfl, H⟩ := H
    refine s_catch (E := "java/lang/IndexOutOfBoundsException") (name := "java/lang/IndexOutOfBoundsException") [] (0, 9, 12, 13) [] rfl (by decide) (g_pre_nil) (by decide) kw_553 (cs_mem ("java/lang/IndexOutOfBoundsException", "java/lang/IndexOutOfBoundsException") (by decide +kernel)) C (fun q9 => ?_)
    refine s_astoreQ_n (pc := 12) (ls' := [(3, vV (.ref q9)), (0, vR 0 0 0), (1, vI p1), (2, vR 15 0 0)]) C dL_bearingOf_12 rfl (by decide) rfl ?_
    refine s_iconst (pc := 13) C dL_bearingOf_13 (x := (1 : Int32)) (by decide) ?_
    exact s_iret (pc := 14) rfl rfl ⟨by decide, by decide⟩ H C dL_bearingOf_14
theorem ctL_bearingOf (l : Launch) (hl : l.stackTraces = false) {G : g_G} (p1 : Int32) (h : g_Hp) (Q : g_R → g_Hp → Prop) (H : wL_bearingOf p1 h Q) : g_Met l y_ G iL_bearingOf [vR 0 0 0, vI p1, vR 15 0 0] h Q :=
  g_Met_ofH hl (by decide +kernel) rfl rfl (Nat.le_of_ble_eq_true rfl) (fun X C => vL_bearingOf C p1 h H)
/-! L_wagesOf -/
abbrev iL_wagesOf : g_I := (RL, yL_wagesOf, cL_wagesOf, 4, (some .int), [(0, 9, 12, 13)], { frames := 8, cells := 1, slots := 6, locals := 137 })
set_option maxRecDepth 100000 in
set_option maxHeartbeats 4000000 in
theorem vL_wagesOf {G : g_G} {X : g_X} {Q : g_R → g_Hp → Prop} (C : g_Cx y_ G X iL_wagesOf) (p1 : Int32) (h : g_Hp) (H : wL_wagesOf p1 h Q) : g_V G X iL_wagesOf 1 6 Q 0 0 0 [(0, vR 0 0 0), (1, vI p1), (2, vR 15 0 0)] [] h := by
  refine s_aload_n (pc := 0) C dL_wagesOf_0 rfl 2 rfl ?_
  refine s_iconst (pc := 1) C dL_wagesOf_1 (x := (0 : Int32)) (by decide) ?_
  refine s_aload_n (pc := 2) C dL_wagesOf_2 rfl 0 rfl ?_
  refine s_iload_n (pc := 3) C dL_wagesOf_3 rfl 1 rfl ?_
  refine s_callv (pc := 4) (nA := 1) (as := [vI p1]) (st := [vI (0 : Int32), vR 15 0 0]) (stk := [vI p1, vR 0 0 0, vI (0 : Int32), vR 15 0 0]) ckX7 (Or.inl rfl) C (fun l hl => ctX7_wagesOf l hl p1 _ _ H) ⟨⟨kw_727, kw_58, kw_730⟩, rfl, ⟨by decide, by decide, by decide +kernel⟩, by decide, by decide⟩ kw_728 (g_selW kw_729) rfl (Nat.le_of_ble_eq_true rfl) ⟨by decide, by decide⟩ rfl dL_wagesOf_4 (g_Kq_I (fun u2 h1 H => ?_) (fun E h1 H => ?_))
  · refine s_i2l (pc := 7) C dL_wagesOf_7 ?_
    refine s_last0 (pc := 8) (y := u2) C dL_wagesOf_8 ?_
    refine s_name (fun h3 eh3 => ?_)
    have H := H h3 eh3
    refine s_goto (pc := 9) (tgt := 15) C dL_wagesOf_9 (by decide) ?_
    refine s_iconst (pc := 15) C dL_wagesOf_15 (x := (0 : Int32)) (by decide) ?_
    exact s_iret (pc := 16) rfl rfl ⟨by decide, by decide⟩ H C dL_wagesOf_16
  · obtain ⟨rfl, H⟩ := H
    refine s_catch (E := "java/lang/IndexOutOfBoundsException") (name := "java/lang/IndexOutOfBoundsException") [] (0, 9, 12, 13) [] rfl (by decide) (g_pre_nil) (by decide) kw_553 (cs_mem ("java/lang/IndexOutOfBoundsException", "java/lang/IndexOutOfBoundsException") (by decide +kernel)) C (fun q9 => ?_)
    refine s_astoreQ_n (pc := 12) (ls' := [(3, vV (.ref q9)), (0, vR 0 0 0), (1, vI p1), (2, vR 15 0 0)]) C dL_wagesOf_12 rfl (by decide) rfl ?_
    refine s_iconst (pc := 13) C dL_wagesOf_13 (x := (1 : Int32)) (by decide) ?_
    exact s_iret (pc := 14) rfl rfl ⟨by decide, by decide⟩ H C dL_wagesOf_14
theorem ctL_wagesOf (l : Launch) (hl : l.stackTraces = false) {G : g_G} (p1 : Int32) (h : g_Hp) (Q : g_R → g_Hp → Prop) (H : wL_wagesOf p1 h Q) : g_Met l y_ G iL_wagesOf [vR 0 0 0, vI p1, vR 15 0 0] h Q :=
  g_Met_ofH hl (by decide +kernel) rfl rfl (Nat.le_of_ble_eq_true rfl) (fun X C => vL_wagesOf C p1 h H)
/-! L_supportOf -/
abbrev iL_supportOf : g_I := (RL, yL_supportOf, cL_supportOf, 4, (some .int), [(0, 9, 12, 13)], { frames := 8, cells := 1, slots := 6, locals := 137 })
set_option maxRecDepth 100000 in
set_option maxHeartbeats 4000000 in
theorem vL_supportOf {G : g_G} {X : g_X} {Q : g_R → g_Hp → Prop} (C : g_Cx y_ G X iL_supportOf) (p1 : Int32) (h : g_Hp) (H : wL_supportOf p1 h Q) : g_V G X iL_supportOf 1 6 Q 0 0 0 [(0, vR 0 0 0), (1, vI p1), (2, vR 15 0 0)] [] h := by
  refine s_aload_n (pc := 0) C dL_supportOf_0 rfl 2 rfl ?_
  refine s_iconst (pc := 1) C dL_supportOf_1 (x := (0 : Int32)) (by decide) ?_
  refine s_aload_n (pc := 2) C dL_supportOf_2 rfl 0 rfl ?_
  refine s_iload_n (pc := 3) C dL_supportOf_3 rfl 1 rfl ?_
  refine s_callv (pc := 4) (nA := 1) (as := [vI p1]) (st := [vI (0 : Int32), vR 15 0 0]) (stk := [vI p1, vR 0 0 0, vI (0 : Int32), vR 15 0 0]) ckX7 (Or.inl rfl) C (fun l hl => ctX7_supportOf l hl p1 _ _ H) ⟨⟨kw_734, kw_58, kw_737⟩, rfl, ⟨by decide, by decide, by decide +kernel⟩, by decide, by decide⟩ kw_735 (g_selW kw_736) rfl (Nat.le_of_ble_eq_true rfl) ⟨by decide, by decide⟩ rfl dL_supportOf_4 (g_Kq_I (fun u2 h1 H => ?_) (fun E h1 H => ?_))
  · refine s_i2l (pc := 7) C dL_supportOf_7 ?_
    refine s_last0 (pc := 8) (y := u2) C dL_supportOf_8 ?_
    refine s_name (fun h3 eh3 => ?_)
    have H := H h3 eh3
    refine s_goto (pc := 9) (tgt := 15) C dL_supportOf_9 (by decide) ?_
    refine s_iconst (pc := 15) C dL_supportOf_15 (x := (0 : Int32)) (by decide) ?_
    exact s_iret (pc := 16) rfl rfl ⟨by decide, by decide⟩ H C dL_supportOf_16
  · obtain ⟨rfl, H⟩ := H
    refine s_catch (E := "java/lang/IndexOutOfBoundsException") (name := "java/lang/IndexOutOfBoundsException") [] (0, 9, 12, 13) [] rfl (by decide) (g_pre_nil) (by decide) kw_553 (cs_mem ("java/lang/IndexOutOfBoundsException", "java/lang/IndexOutOfBoundsException") (by decide +kernel)) C (fun q9 => ?_)
    refine s_astoreQ_n (pc := 12) (ls' := [(3, vV (.ref q9)), (0, vR 0 0 0), (1, vI p1), (2, vR 15 0 0)]) C dL_supportOf_12 rfl (by decide) rfl ?_
    refine s_iconst (pc := 13) C dL_supportOf_13 (x := (1 : Int32)) (by decide) ?_
    exact s_iret (pc := 14) rfl rfl ⟨by decide, by decide⟩ H C dL_supportOf_14
theorem ctL_supportOf (l : Launch) (hl : l.stackTraces = false) {G : g_G} (p1 : Int32) (h : g_Hp) (Q : g_R → g_Hp → Prop) (H : wL_supportOf p1 h Q) : g_Met l y_ G iL_supportOf [vR 0 0 0, vI p1, vR 15 0 0] h Q :=
  g_Met_ofH hl (by decide +kernel) rfl rfl (Nat.le_of_ble_eq_true rfl) (fun X C => vL_supportOf C p1 h H)
/-! L_lostShifts -/
abbrev iL_lostShifts : g_I := (RL, yL_lostShifts, cL_lostShifts, 4, (some .int), [(0, 9, 12, 13)], { frames := 8, cells := 1, slots := 6, locals := 137 })
set_option maxRecDepth 100000 in
set_option maxHeartbeats 4000000 in
theorem vL_lostShifts {G : g_G} {X : g_X} {Q : g_R → g_Hp → Prop} (C : g_Cx y_ G X iL_lostShifts) (p1 : Int32) (h : g_Hp) (H : wL_lostShifts p1 h Q) : g_V G X iL_lostShifts 1 6 Q 0 0 0 [(0, vR 0 0 0), (1, vI p1), (2, vR 15 0 0)] [] h := by
  refine s_aload_n (pc := 0) C dL_lostShifts_0 rfl 2 rfl ?_
  refine s_iconst (pc := 1) C dL_lostShifts_1 (x := (0 : Int32)) (by decide) ?_
  refine s_aload_n (pc := 2) C dL_lostShifts_2 rfl 0 rfl ?_
  refine s_iload_n (pc := 3) C dL_lostShifts_3 rfl 1 rfl ?_
  refine s_callv (pc := 4) (nA := 1) (as := [vI p1]) (st := [vI (0 : Int32), vR 15 0 0]) (stk := [vI p1, vR 0 0 0, vI (0 : Int32), vR 15 0 0]) ckX7 (Or.inl rfl) C (fun l hl => ctX7_lostShifts l hl p1 _ _ H) ⟨⟨kw_741, kw_58, kw_744⟩, rfl, ⟨by decide, by decide, by decide +kernel⟩, by decide, by decide⟩ kw_742 (g_selW kw_743) rfl (Nat.le_of_ble_eq_true rfl) ⟨by decide, by decide⟩ rfl dL_lostShifts_4 (g_Kq_I (fun u2 h1 H => ?_) (fun E h1 H => ?_))
  · refine s_i2l (pc := 7) C dL_lostShifts_7 ?_
    refine s_last0 (pc := 8) (y := u2) C dL_lostShifts_8 ?_
    refine s_name (fun h3 eh3 => ?_)
    have H := H h3 eh3
    refine s_goto (pc := 9) (tgt := 15) C dL_lostShifts_9 (by decide) ?_
    refine s_iconst (pc := 15) C dL_lostShifts_15 (x := (0 : Int32)) (by decide) ?_
    exact s_iret (pc := 16) rfl rfl ⟨by decide, by decide⟩ H C dL_lostShifts_16
  · obtain ⟨rfl, H⟩ := H
    refine s_catch (E := "java/lang/IndexOutOfBoundsException") (name := "java/lang/IndexOutOfBoundsException") [] (0, 9, 12, 13) [] rfl (by decide) (g_pre_nil) (by decide) kw_553 (cs_mem ("java/lang/IndexOutOfBoundsException", "java/lang/IndexOutOfBoundsException") (by decide +kernel)) C (fun q9 => ?_)
    refine s_astoreQ_n (pc := 12) (ls' := [(3, vV (.ref q9)), (0, vR 0 0 0), (1, vI p1), (2, vR 15 0 0)]) C dL_lostShifts_12 rfl (by decide) rfl ?_
    refine s_iconst (pc := 13) C dL_lostShifts_13 (x := (1 : Int32)) (by decide) ?_
    exact s_iret (pc := 14) rfl rfl ⟨by decide, by decide⟩ H C dL_lostShifts_14
theorem ctL_lostShifts (l : Launch) (hl : l.stackTraces = false) {G : g_G} (p1 : Int32) (h : g_Hp) (Q : g_R → g_Hp → Prop) (H : wL_lostShifts p1 h Q) : g_Met l y_ G iL_lostShifts [vR 0 0 0, vI p1, vR 15 0 0] h Q :=
  g_Met_ofH hl (by decide +kernel) rfl rfl (Nat.le_of_ble_eq_true rfl) (fun X C => vL_lostShifts C p1 h H)
/-! L_lostDays -/
abbrev iL_lostDays : g_I := (RL, yL_lostDays, cL_lostDays, 4, (some .int), [(0, 9, 12, 13)], { frames := 8, cells := 1, slots := 6, locals := 137 })
set_option maxRecDepth 100000 in
set_option maxHeartbeats 4000000 in
theorem vL_lostDays {G : g_G} {X : g_X} {Q : g_R → g_Hp → Prop} (C : g_Cx y_ G X iL_lostDays) (p1 : Int32) (h : g_Hp) (H : wL_lostDays p1 h Q) : g_V G X iL_lostDays 1 6 Q 0 0 0 [(0, vR 0 0 0), (1, vI p1), (2, vR 16 0 0)] [] h := by
  refine s_aload_n (pc := 0) C dL_lostDays_0 rfl 2 rfl ?_
  refine s_iconst (pc := 1) C dL_lostDays_1 (x := (0 : Int32)) (by decide) ?_
  refine s_aload_n (pc := 2) C dL_lostDays_2 rfl 0 rfl ?_
  refine s_iload_n (pc := 3) C dL_lostDays_3 rfl 1 rfl ?_
  refine s_callv (pc := 4) (nA := 1) (as := [vI p1]) (st := [vI (0 : Int32), vR 16 0 0]) (stk := [vI p1, vR 0 0 0, vI (0 : Int32), vR 16 0 0]) ckX7 (Or.inl rfl) C (fun l hl => ctX7_lostDays l hl p1 _ _ H) ⟨⟨kw_748, kw_58, kw_751⟩, rfl, ⟨by decide, by decide, by decide +kernel⟩, by decide, by decide⟩ kw_749 (g_selW kw_750) rfl (Nat.le_of_ble_eq_true rfl) ⟨by decide, by decide⟩ rfl dL_lostDays_4 (g_Kq_F (fun u2 h1 H => ?_) (fun E h1 H => ?_))
  · refine s_f2d (pc := 7) C dL_lostDays_7 H.1 ?_
    have H := H.2
    refine s_dast0 (pc := 8) C dL_lostDays_8 ?_
    refine s_name (fun h3 eh3 => ?_)
    have H := H h3 eh3
    refine s_goto (pc := 9) (tgt := 15) C dL_lostDays_9 (by decide) ?_
    refine s_iconst (pc := 15) C dL_lostDays_15 (x := (0 : Int32)) (by decide) ?_
    exact s_iret (pc := 16) rfl rfl ⟨by decide, by decide⟩ H C dL_lostDays_16
  · obtain ⟨rfl, H⟩ := H
    refine s_catch (E := "java/lang/IndexOutOfBoundsException") (name := "java/lang/IndexOutOfBoundsException") [] (0, 9, 12, 13) [] rfl (by decide) (g_pre_nil) (by decide) kw_553 (cs_mem ("java/lang/IndexOutOfBoundsException", "java/lang/IndexOutOfBoundsException") (by decide +kernel)) C (fun q9 => ?_)
    refine s_astoreQ_n (pc := 12) (ls' := [(3, vV (.ref q9)), (0, vR 0 0 0), (1, vI p1), (2, vR 16 0 0)]) C dL_lostDays_12 rfl (by decide) rfl ?_
    refine s_iconst (pc := 13) C dL_lostDays_13 (x := (1 : Int32)) (by decide) ?_
    exact s_iret (pc := 14) rfl rfl ⟨by decide, by decide⟩ H C dL_lostDays_14
theorem ctL_lostDays (l : Launch) (hl : l.stackTraces = false) {G : g_G} (p1 : Int32) (h : g_Hp) (Q : g_R → g_Hp → Prop) (H : wL_lostDays p1 h Q) : g_Met l y_ G iL_lostDays [vR 0 0 0, vI p1, vR 16 0 0] h Q :=
  g_Met_ofH hl (by decide +kernel) rfl rfl (Nat.le_of_ble_eq_true rfl) (fun X C => vL_lostDays C p1 h H)
/-! L_dutiesOf -/
abbrev iL_dutiesOf : g_I := (RL, yL_dutiesOf, cL_dutiesOf, 4, (some .int), [(0, 9, 12, 13)], { frames := 8, cells := 1, slots := 6, locals := 137 })
set_option maxRecDepth 100000 in
set_option maxHeartbeats 4000000 in
theorem vL_dutiesOf {G : g_G} {X : g_X} {Q : g_R → g_Hp → Prop} (C : g_Cx y_ G X iL_dutiesOf) (p1 : Int32) (h : g_Hp) (H : wL_dutiesOf p1 h Q) : g_V G X iL_dutiesOf 1 6 Q 0 0 0 [(0, vR 0 0 0), (1, vI p1), (2, vR 15 0 0)] [] h := by
  refine s_aload_n (pc := 0) C dL_dutiesOf_0 rfl 2 rfl ?_
  refine s_iconst (pc := 1) C dL_dutiesOf_1 (x := (0 : Int32)) (by decide) ?_
  refine s_aload_n (pc := 2) C dL_dutiesOf_2 rfl 0 rfl ?_
  refine s_iload_n (pc := 3) C dL_dutiesOf_3 rfl 1 rfl ?_
  refine s_callv (pc := 4) (nA := 1) (as := [vI p1]) (st := [vI (0 : Int32), vR 15 0 0]) (stk := [vI p1, vR 0 0 0, vI (0 : Int32), vR 15 0 0]) ckX7 (Or.inl rfl) C (fun l hl => ctX7_dutiesOf l hl p1 _ _ H) ⟨⟨kw_756, kw_58, kw_759⟩, rfl, ⟨by decide, by decide, by decide +kernel⟩, by decide, by decide⟩ kw_757 (g_selW kw_758) rfl (Nat.le_of_ble_eq_true rfl) ⟨by decide, by decide⟩ rfl dL_dutiesOf_4 (g_Kq_I (fun u2 h1 H => ?_) (fun E h1 H => ?_))
  · refine s_i2l (pc := 7) C dL_dutiesOf_7 ?_
    refine s_last0 (pc := 8) (y := u2) C dL_dutiesOf_8 ?_
    refine s_name (fun h3 eh3 => ?_)
    have H := H h3 eh3
    refine s_goto (pc := 9) (tgt := 15) C dL_dutiesOf_9 (by decide) ?_
    refine s_iconst (pc := 15) C dL_dutiesOf_15 (x := (0 : Int32)) (by decide) ?_
    exact s_iret (pc := 16) rfl rfl ⟨by decide, by decide⟩ H C dL_dutiesOf_16
  · obtain ⟨rfl, H⟩ := H
    refine s_catch (E := "java/lang/IndexOutOfBoundsException") (name := "java/lang/IndexOutOfBoundsException") [] (0, 9, 12, 13) [] rfl (by decide) (g_pre_nil) (by decide) kw_553 (cs_mem ("java/lang/IndexOutOfBoundsException", "java/lang/IndexOutOfBoundsException") (by decide +kernel)) C (fun q9 => ?_)
    refine s_astoreQ_n (pc := 12) (ls' := [(3, vV (.ref q9)), (0, vR 0 0 0), (1, vI p1), (2, vR 15 0 0)]) C dL_dutiesOf_12 rfl (by decide) rfl ?_
    refine s_iconst (pc := 13) C dL_dutiesOf_13 (x := (1 : Int32)) (by decide) ?_
    exact s_iret (pc := 14) rfl rfl ⟨by decide, by decide⟩ H C dL_dutiesOf_14
theorem ctL_dutiesOf (l : Launch) (hl : l.stackTraces = false) {G : g_G} (p1 : Int32) (h : g_Hp) (Q : g_R → g_Hp → Prop) (H : wL_dutiesOf p1 h Q) : g_Met l y_ G iL_dutiesOf [vR 0 0 0, vI p1, vR 15 0 0] h Q :=
  g_Met_ofH hl (by decide +kernel) rfl rfl (Nat.le_of_ble_eq_true rfl) (fun X C => vL_dutiesOf C p1 h H)
/-! L_memberAtRank -/
abbrev iL_memberAtRank : g_I := (RL, yL_memberAtRank, cL_memberAtRank, 4, (some .int), [(0, 9, 12, 51)], { frames := 7, cells := 1, slots := 6, locals := 117 })
set_option maxRecDepth 100000 in
set_option maxHeartbeats 4000000 in
theorem vL_memberAtRank {G : g_G} {X : g_X} {Q : g_R → g_Hp → Prop} (C : g_Cx y_ G X iL_memberAtRank) (p1 : Int32) (h : g_Hp) (H : wL_memberAtRank p1 h Q) : g_V G X iL_memberAtRank 1 6 Q 0 0 0 [(0, vR 0 0 0), (1, vI p1), (2, vR 15 0 0)] [] h := by
  refine s_aload_n (pc := 0) C dL_memberAtRank_0 rfl 2 rfl ?_
  refine s_iconst (pc := 1) C dL_memberAtRank_1 (x := (0 : Int32)) (by decide) ?_
  refine s_aload_n (pc := 2) C dL_memberAtRank_2 rfl 0 rfl ?_
  refine s_iload_n (pc := 3) C dL_memberAtRank_3 rfl 1 rfl ?_
  refine s_callv (pc := 4) (nA := 1) (as := [vI p1]) (st := [vI (0 : Int32), vR 15 0 0]) (stk := [vI p1, vR 0 0 0, vI (0 : Int32), vR 15 0 0]) ckX7 (Or.inl rfl) C (fun l hl => ctX7_memberAtRank l hl p1 _ _ H) ⟨⟨kw_764, kw_58, kw_767⟩, rfl, ⟨by decide, by decide, by decide +kernel⟩, by decide, by decide⟩ kw_765 (g_selW kw_766) rfl (Nat.le_of_ble_eq_true rfl) ⟨by decide, by decide⟩ rfl dL_memberAtRank_4 (g_Kq_I (fun u2 h1 H => ?_) (fun E h1 H => ?_))
  · refine s_i2l (pc := 7) C dL_memberAtRank_7 ?_
    refine s_last0 (pc := 8) (y := u2) C dL_memberAtRank_8 ?_
    refine s_name (fun h3 eh3 => ?_)
    have H := H h3 eh3
    refine s_goto (pc := 9) (tgt := 15) C dL_memberAtRank_9 (by decide) ?_
    refine s_iconst (pc := 15) C dL_memberAtRank_15 (x := (0 : Int32)) (by decide) ?_
    exact s_iret (pc := 16) rfl rfl ⟨by decide, by decide⟩ H C dL_memberAtRank_16
  · obtain ⟨rfl, H⟩ := H
    refine s_catch (E := "java/util/NoSuchElementException") (name := "java/util/NoSuchElementException") [] (0, 9, 12, 51) [] rfl (by decide) (g_pre_nil) (by decide) kw_763 (cs_mem ("java/util/NoSuchElementException", "java/util/NoSuchElementException") (by decide +kernel)) C (fun q9 => ?_)
    refine s_astoreQ_n (pc := 12) (ls' := [(3, vV (.ref q9)), (0, vR 0 0 0), (1, vI p1), (2, vR 15 0 0)]) C dL_memberAtRank_12 rfl (by decide) rfl ?_
    refine s_iconst (pc := 13) C dL_memberAtRank_13 (x := (1 : Int32)) (by decide) ?_
    exact s_iret (pc := 14) rfl rfl ⟨by decide, by decide⟩ H C dL_memberAtRank_14
theorem ctL_memberAtRank (l : Launch) (hl : l.stackTraces = false) {G : g_G} (p1 : Int32) (h : g_Hp) (Q : g_R → g_Hp → Prop) (H : wL_memberAtRank p1 h Q) : g_Met l y_ G iL_memberAtRank [vR 0 0 0, vI p1, vR 15 0 0] h Q :=
  g_Met_ofH hl (by decide +kernel) rfl rfl (Nat.le_of_ble_eq_true rfl) (fun X C => vL_memberAtRank C p1 h H)
/-! L_setWind -/
abbrev iL_setWind : g_I := (RL, yL_setWind, cL_setWind, 5, (some .int), [(0, 10, 13, 15)], { frames := 8, cells := 1, slots := 6, locals := 138 })
set_option maxRecDepth 100000 in
set_option maxHeartbeats 4000000 in
theorem vL_setWind {G : g_G} {X : g_X} {Q : g_R → g_Hp → Prop} (C : g_Cx y_ G X iL_setWind) (p1 : Int32) (p2 : Int32) (h : g_Hp) (H : wL_setWind p1 p2 h Q) : g_V G X iL_setWind 1 6 Q 0 0 0 [(0, vR 0 0 0), (1, vI p1), (2, vI p2), (3, vR 15 0 0)] [] h := by
  refine s_aload_n (pc := 0) C dL_setWind_0 rfl 3 rfl ?_
  refine s_iconst (pc := 1) C dL_setWind_1 (x := (0 : Int32)) (by decide) ?_
  refine s_aload_n (pc := 2) C dL_setWind_2 rfl 0 rfl ?_
  refine s_iload_n (pc := 3) C dL_setWind_3 rfl 1 rfl ?_
  refine s_iload_n (pc := 4) C dL_setWind_4 rfl 2 rfl ?_
  refine s_callv (pc := 5) (nA := 2) (as := [vI p1, vI p2]) (st := [vI (0 : Int32), vR 15 0 0]) (stk := [vI p2, vI p1, vR 0 0 0, vI (0 : Int32), vR 15 0 0]) ckX7 (Or.inl rfl) C (fun l hl => ctX7_setWind l hl p1 p2 _ _ H) ⟨⟨kw_784, kw_58, kw_787⟩, rfl, ⟨by decide, by decide, by decide +kernel⟩, by decide, by decide⟩ kw_785 (g_selW kw_786) rfl (Nat.le_of_ble_eq_true rfl) ⟨by decide, by decide⟩ rfl dL_setWind_5 (g_Kq_I (fun u2 h1 H => ?_) (fun E h1 H => ?_))
  · refine s_i2l (pc := 8) C dL_setWind_8 ?_
    refine s_last0 (pc := 9) (y := u2) C dL_setWind_9 ?_
    refine s_name (fun h3 eh3 => ?_)
    have H := H h3 eh3
    refine s_goto (pc := 10) (tgt := 17) C dL_setWind_10 (by decide) ?_
    refine s_iconst (pc := 17) C dL_setWind_17 (x := (0 : Int32)) (by decide) ?_
    exact s_iret (pc := 18) rfl rfl ⟨by decide, by decide⟩ H C dL_setWind_18
  · obtain ⟨rfl, H⟩ := H
    refine s_catch (E := "java/lang/IllegalArgumentException") (name := "java/lang/IllegalArgumentException") [] (0, 10, 13, 15) [] rfl (by decide) (g_pre_nil) (by decide) kw_574 (cs_mem ("java/lang/IllegalArgumentException", "java/lang/IllegalArgumentException") (by decide +kernel)) C (fun q9 => ?_)
    refine s_astoreQ (pc := 13) (ls' := [(4, vV (.ref q9)), (0, vR 0 0 0), (1, vI p1), (2, vI p2), (3, vR 15 0 0)]) C dL_setWind_13 (by decide) rfl ?_
    refine s_iconst (pc := 15) C dL_setWind_15 (x := (1 : Int32)) (by decide) ?_
    exact s_iret (pc := 16) rfl rfl ⟨by decide, by decide⟩ H C dL_setWind_16
theorem ctL_setWind (l : Launch) (hl : l.stackTraces = false) {G : g_G} (p1 : Int32) (p2 : Int32) (h : g_Hp) (Q : g_R → g_Hp → Prop) (H : wL_setWind p1 p2 h Q) : g_Met l y_ G iL_setWind [vR 0 0 0, vI p1, vI p2, vR 15 0 0] h Q :=
  g_Met_ofH hl (by decide +kernel) rfl rfl (Nat.le_of_ble_eq_true rfl) (fun X C => vL_setWind C p1 p2 h H)
/-! L_stepsToWind -/
abbrev iL_stepsToWind : g_I := (RL, yL_stepsToWind, cL_stepsToWind, 4, (some .int), [(0, 9, 12, 13)], { frames := 8, cells := 1, slots := 6, locals := 137 })
set_option maxRecDepth 100000 in
set_option maxHeartbeats 4000000 in
theorem vL_stepsToWind {G : g_G} {X : g_X} {Q : g_R → g_Hp → Prop} (C : g_Cx y_ G X iL_stepsToWind) (p1 : Int32) (h : g_Hp) (H : wL_stepsToWind p1 h Q) : g_V G X iL_stepsToWind 1 6 Q 0 0 0 [(0, vR 0 0 0), (1, vI p1), (2, vR 15 0 0)] [] h := by
  refine s_aload_n (pc := 0) C dL_stepsToWind_0 rfl 2 rfl ?_
  refine s_iconst (pc := 1) C dL_stepsToWind_1 (x := (0 : Int32)) (by decide) ?_
  refine s_aload_n (pc := 2) C dL_stepsToWind_2 rfl 0 rfl ?_
  refine s_iload_n (pc := 3) C dL_stepsToWind_3 rfl 1 rfl ?_
  refine s_callv (pc := 4) (nA := 1) (as := [vI p1]) (st := [vI (0 : Int32), vR 15 0 0]) (stk := [vI p1, vR 0 0 0, vI (0 : Int32), vR 15 0 0]) ckX7 (Or.inl rfl) C (fun l hl => ctX7_stepsToWind l hl p1 _ _ H) ⟨⟨kw_800, kw_58, kw_406⟩, rfl, ⟨by decide, by decide, by decide +kernel⟩, by decide, by decide⟩ kw_404 (g_selW kw_405) rfl (Nat.le_of_ble_eq_true rfl) ⟨by decide, by decide⟩ rfl dL_stepsToWind_4 (g_Kq_I (fun u2 h1 H => ?_) (fun E h1 H => ?_))
  · refine s_i2l (pc := 7) C dL_stepsToWind_7 ?_
    refine s_last0 (pc := 8) (y := u2) C dL_stepsToWind_8 ?_
    refine s_name (fun h3 eh3 => ?_)
    have H := H h3 eh3
    refine s_goto (pc := 9) (tgt := 15) C dL_stepsToWind_9 (by decide) ?_
    refine s_iconst (pc := 15) C dL_stepsToWind_15 (x := (0 : Int32)) (by decide) ?_
    exact s_iret (pc := 16) rfl rfl ⟨by decide, by decide⟩ H C dL_stepsToWind_16
  · obtain ⟨rfl, H⟩ := H
    refine s_catch (E := "java/lang/IndexOutOfBoundsException") (name := "java/lang/IndexOutOfBoundsException") [] (0, 9, 12, 13) [] rfl (by decide) (g_pre_nil) (by decide) kw_553 (cs_mem ("java/lang/IndexOutOfBoundsException", "java/lang/IndexOutOfBoundsException") (by decide +kernel)) C (fun q9 => ?_)
    refine s_astoreQ_n (pc := 12) (ls' := [(3, vV (.ref q9)), (0, vR 0 0 0), (1, vI p1), (2, vR 15 0 0)]) C dL_stepsToWind_12 rfl (by decide) rfl ?_
    refine s_iconst (pc := 13) C dL_stepsToWind_13 (x := (1 : Int32)) (by decide) ?_
    exact s_iret (pc := 14) rfl rfl ⟨by decide, by decide⟩ H C dL_stepsToWind_14
theorem ctL_stepsToWind (l : Launch) (hl : l.stackTraces = false) {G : g_G} (p1 : Int32) (h : g_Hp) (Q : g_R → g_Hp → Prop) (H : wL_stepsToWind p1 h Q) : g_Met l y_ G iL_stepsToWind [vR 0 0 0, vI p1, vR 15 0 0] h Q :=
  g_Met_ofH hl (by decide +kernel) rfl rfl (Nat.le_of_ble_eq_true rfl) (fun X C => vL_stepsToWind C p1 h H)
/-! L_stepsToWindByTurning -/
abbrev iL_stepsToWindByTurning : g_I := (RL, yL_stepsToWindByTurning, cL_stepsToWindByTurning, 4, (some .int), [(0, 9, 12, 13)], { frames := 8, cells := 1, slots := 6, locals := 137 })
set_option maxRecDepth 100000 in
set_option maxHeartbeats 4000000 in
theorem vL_stepsToWindByTurning {G : g_G} {X : g_X} {Q : g_R → g_Hp → Prop} (C : g_Cx y_ G X iL_stepsToWindByTurning) (p1 : Int32) (h : g_Hp) (H : wL_stepsToWindByTurning p1 h Q) : g_V G X iL_stepsToWindByTurning 1 6 Q 0 0 0 [(0, vR 0 0 0), (1, vI p1), (2, vR 15 0 0)] [] h := by
  refine s_aload_n (pc := 0) C dL_stepsToWindByTurning_0 rfl 2 rfl ?_
  refine s_iconst (pc := 1) C dL_stepsToWindByTurning_1 (x := (0 : Int32)) (by decide) ?_
  refine s_aload_n (pc := 2) C dL_stepsToWindByTurning_2 rfl 0 rfl ?_
  refine s_iload_n (pc := 3) C dL_stepsToWindByTurning_3 rfl 1 rfl ?_
  refine s_callv (pc := 4) (nA := 1) (as := [vI p1]) (st := [vI (0 : Int32), vR 15 0 0]) (stk := [vI p1, vR 0 0 0, vI (0 : Int32), vR 15 0 0]) ckX7 (Or.inl rfl) C (fun l hl => ctX7_stepsToWindByTurning l hl p1 _ _ H) ⟨⟨kw_804, kw_58, kw_496⟩, rfl, ⟨by decide, by decide, by decide +kernel⟩, by decide, by decide⟩ kw_494 (g_selW kw_495) rfl (Nat.le_of_ble_eq_true rfl) ⟨by decide, by decide⟩ rfl dL_stepsToWindByTurning_4 (g_Kq_I (fun u2 h1 H => ?_) (fun E h1 H => ?_))
  · refine s_i2l (pc := 7) C dL_stepsToWindByTurning_7 ?_
    refine s_last0 (pc := 8) (y := u2) C dL_stepsToWindByTurning_8 ?_
    refine s_name (fun h3 eh3 => ?_)
    have H := H h3 eh3
    refine s_goto (pc := 9) (tgt := 15) C dL_stepsToWindByTurning_9 (by decide) ?_
    refine s_iconst (pc := 15) C dL_stepsToWindByTurning_15 (x := (0 : Int32)) (by decide) ?_
    exact s_iret (pc := 16) rfl rfl ⟨by decide, by decide⟩ H C dL_stepsToWindByTurning_16
  · obtain ⟨rfl, H⟩ := H
    refine s_catch (E := "java/lang/IndexOutOfBoundsException") (name := "java/lang/IndexOutOfBoundsException") [] (0, 9, 12, 13) [] rfl (by decide) (g_pre_nil) (by decide) kw_553 (cs_mem ("java/lang/IndexOutOfBoundsException", "java/lang/IndexOutOfBoundsException") (by decide +kernel)) C (fun q9 => ?_)
    refine s_astoreQ_n (pc := 12) (ls' := [(3, vV (.ref q9)), (0, vR 0 0 0), (1, vI p1), (2, vR 15 0 0)]) C dL_stepsToWindByTurning_12 rfl (by decide) rfl ?_
    refine s_iconst (pc := 13) C dL_stepsToWindByTurning_13 (x := (1 : Int32)) (by decide) ?_
    exact s_iret (pc := 14) rfl rfl ⟨by decide, by decide⟩ H C dL_stepsToWindByTurning_14
theorem ctL_stepsToWindByTurning (l : Launch) (hl : l.stackTraces = false) {G : g_G} (p1 : Int32) (h : g_Hp) (Q : g_R → g_Hp → Prop) (H : wL_stepsToWindByTurning p1 h Q) : g_Met l y_ G iL_stepsToWindByTurning [vR 0 0 0, vI p1, vR 15 0 0] h Q :=
  g_Met_ofH hl (by decide +kernel) rfl rfl (Nat.le_of_ble_eq_true rfl) (fun X C => vL_stepsToWindByTurning C p1 h H)
/-! L_passShifts -/
abbrev iL_passShifts : g_I := (RL, yL_passShifts, cL_passShifts, 4, (some .int), [(0, 9, 12, 15)], { frames := 8, cells := 1, slots := 6, locals := 137 })
set_option maxRecDepth 100000 in
set_option maxHeartbeats 4000000 in
theorem vL_passShifts {G : g_G} {X : g_X} {Q : g_R → g_Hp → Prop} (C : g_Cx y_ G X iL_passShifts) (p1 : Int32) (h : g_Hp) (H : wL_passShifts p1 h Q) : g_V G X iL_passShifts 1 6 Q 0 0 0 [(0, vR 0 0 0), (1, vI p1), (2, vR 15 0 0)] [] h := by
  refine s_aload_n (pc := 0) C dL_passShifts_0 rfl 2 rfl ?_
  refine s_iconst (pc := 1) C dL_passShifts_1 (x := (0 : Int32)) (by decide) ?_
  refine s_aload_n (pc := 2) C dL_passShifts_2 rfl 0 rfl ?_
  refine s_iload_n (pc := 3) C dL_passShifts_3 rfl 1 rfl ?_
  refine s_callv (pc := 4) (nA := 1) (as := [vI p1]) (st := [vI (0 : Int32), vR 15 0 0]) (stk := [vI p1, vR 0 0 0, vI (0 : Int32), vR 15 0 0]) ckX7 (Or.inl rfl) C (fun l hl => ctX7_passShifts l hl p1 _ _ H) ⟨⟨kw_808, kw_58, kw_811⟩, rfl, ⟨by decide, by decide, by decide +kernel⟩, by decide, by decide⟩ kw_809 (g_selW kw_810) rfl (Nat.le_of_ble_eq_true rfl) ⟨by decide, by decide⟩ rfl dL_passShifts_4 (g_Kq_I (fun u2 h1 H => ?_) (fun E h1 H => ?_))
  · refine s_i2l (pc := 7) C dL_passShifts_7 ?_
    refine s_last0 (pc := 8) (y := u2) C dL_passShifts_8 ?_
    refine s_name (fun h3 eh3 => ?_)
    have H := H h3 eh3
    refine s_goto (pc := 9) (tgt := 15) C dL_passShifts_9 (by decide) ?_
    refine s_iconst (pc := 15) C dL_passShifts_15 (x := (0 : Int32)) (by decide) ?_
    exact s_iret (pc := 16) rfl rfl ⟨by decide, by decide⟩ H C dL_passShifts_16
  · obtain ⟨rfl, H⟩ := H
    refine s_catch (E := "java/lang/IllegalArgumentException") (name := "java/lang/IllegalArgumentException") [] (0, 9, 12, 15) [] rfl (by decide) (g_pre_nil) (by decide) kw_574 (cs_mem ("java/lang/IllegalArgumentException", "java/lang/IllegalArgumentException") (by decide +kernel)) C (fun q9 => ?_)
    refine s_astoreQ_n (pc := 12) (ls' := [(3, vV (.ref q9)), (0, vR 0 0 0), (1, vI p1), (2, vR 15 0 0)]) C dL_passShifts_12 rfl (by decide) rfl ?_
    refine s_iconst (pc := 13) C dL_passShifts_13 (x := (1 : Int32)) (by decide) ?_
    exact s_iret (pc := 14) rfl rfl ⟨by decide, by decide⟩ H C dL_passShifts_14
theorem ctL_passShifts (l : Launch) (hl : l.stackTraces = false) {G : g_G} (p1 : Int32) (h : g_Hp) (Q : g_R → g_Hp → Prop) (H : wL_passShifts p1 h Q) : g_Met l y_ G iL_passShifts [vR 0 0 0, vI p1, vR 15 0 0] h Q :=
  g_Met_ofH hl (by decide +kernel) rfl rfl (Nat.le_of_ble_eq_true rfl) (fun X C => vL_passShifts C p1 h H)
/-! L_vote -/
abbrev iL_vote : g_I := (RL, yL_vote, cL_vote, 5, (some .int), [(0, 10, 13, 13), (0, 10, 17, 17)], { frames := 8, cells := 1, slots := 6, locals := 138 })
set_option maxRecDepth 100000 in
set_option maxHeartbeats 4000000 in
theorem vL_vote {G : g_G} {X : g_X} {Q : g_R → g_Hp → Prop} (C : g_Cx y_ G X iL_vote) (p1 : Int32) (p2 : Int32) (h : g_Hp) (H : wL_vote p1 p2 h Q) : g_V G X iL_vote 1 6 Q 0 0 0 [(0, vR 0 0 0), (1, vI p1), (2, vI p2), (3, vR 15 0 0)] [] h := by
  refine s_aload_n (pc := 0) C dL_vote_0 rfl 3 rfl ?_
  refine s_iconst (pc := 1) C dL_vote_1 (x := (0 : Int32)) (by decide) ?_
  refine s_aload_n (pc := 2) C dL_vote_2 rfl 0 rfl ?_
  refine s_iload_n (pc := 3) C dL_vote_3 rfl 1 rfl ?_
  refine s_iload_n (pc := 4) C dL_vote_4 rfl 2 rfl ?_
  refine s_callv (pc := 5) (nA := 2) (as := [vI p1, vI p2]) (st := [vI (0 : Int32), vR 15 0 0]) (stk := [vI p2, vI p1, vR 0 0 0, vI (0 : Int32), vR 15 0 0]) ckX7 (Or.inl rfl) C (fun l hl => ctX7_vote l hl p1 p2 _ _ H) ⟨⟨kw_840, kw_58, kw_843⟩, rfl, ⟨by decide, by decide, by decide +kernel⟩, by decide, by decide⟩ kw_841 (g_selW kw_842) rfl (Nat.le_of_ble_eq_true rfl) ⟨by decide, by decide⟩ rfl dL_vote_5 (g_Kq_I (fun u2 h1 H => ?_) (fun E h1 H => ?_))
  · refine s_i2l (pc := 8) C dL_vote_8 ?_
    refine s_last0 (pc := 9) (y := u2) C dL_vote_9 ?_
    refine s_name (fun h3 eh3 => ?_)
    have H := H h3 eh3
    refine s_goto (pc := 10) (tgt := 21) C dL_vote_10 (by decide) ?_
    refine s_iconst (pc := 21) C dL_vote_21 (x := (0 : Int32)) (by decide) ?_
    exact s_iret (pc := 22) rfl rfl ⟨by decide, by decide⟩ H C dL_vote_22
  · rcases H with H | H
    · obtain ⟨rfl, H⟩ := H
      refine s_catch (E := "java/lang/IndexOutOfBoundsException") (name := "java/lang/IndexOutOfBoundsException") [] (0, 10, 13, 13) [(0, 10, 17, 17)] rfl (by decide) (g_pre_nil) (by decide) kw_553 (cs_mem ("java/lang/IndexOutOfBoundsException", "java/lang/IndexOutOfBoundsException") (by decide +kernel)) C (fun q9 => ?_)
      refine s_astoreQ (pc := 13) (ls' := [(4, vV (.ref q9)), (0, vR 0 0 0), (1, vI p1), (2, vI p2), (3, vR 15 0 0)]) C dL_vote_13 (by decide) rfl ?_
      refine s_iconst (pc := 15) C dL_vote_15 (x := (1 : Int32)) (by decide) ?_
      exact s_iret (pc := 16) rfl rfl ⟨by decide, by decide⟩ H C dL_vote_16
    · obtain ⟨rfl, H⟩ := H
      refine s_catch (E := "java/lang/IllegalStateException") (name := "java/lang/IllegalStateException") [(0, 10, 13, 13)] (0, 10, 17, 17) [] rfl (by decide) (g_pre_cons (by decide) kw_553 (ms_mem ("java/lang/IllegalStateException", "java/lang/IndexOutOfBoundsException") (by decide +kernel)) (g_pre_nil)) (by decide) kw_575 (cs_mem ("java/lang/IllegalStateException", "java/lang/IllegalStateException") (by decide +kernel)) C (fun q9 => ?_)
      refine s_astoreQ (pc := 17) (ls' := [(4, vV (.ref q9)), (0, vR 0 0 0), (1, vI p1), (2, vI p2), (3, vR 15 0 0)]) C dL_vote_17 (by decide) rfl ?_
      refine s_iconst (pc := 19) C dL_vote_19 (x := (2 : Int32)) (by decide) ?_
      exact s_iret (pc := 20) rfl rfl ⟨by decide, by decide⟩ H C dL_vote_20
theorem ctL_vote (l : Launch) (hl : l.stackTraces = false) {G : g_G} (p1 : Int32) (p2 : Int32) (h : g_Hp) (Q : g_R → g_Hp → Prop) (H : wL_vote p1 p2 h Q) : g_Met l y_ G iL_vote [vR 0 0 0, vI p1, vI p2, vR 15 0 0] h Q :=
  g_Met_ofH hl (by decide +kernel) rfl rfl (Nat.le_of_ble_eq_true rfl) (fun X C => vL_vote C p1 p2 h H)
/-! L_hasVoted -/
abbrev iL_hasVoted : g_I := (RL, yL_hasVoted, cL_hasVoted, 4, (some .int), [(0, 16, 19, 13)], { frames := 8, cells := 1, slots := 6, locals := 137 })
set_option maxRecDepth 100000 in
set_option maxHeartbeats 4000000 in
theorem vL_hasVoted_b15 {G : g_G} {X : g_X} {Q : g_R → g_Hp → Prop} (C : g_Cx y_ G X iL_hasVoted) (z0 : Int32) (h : g_Hp) (H : wL_hasVoted_b15 Q z0 h) : g_V G X iL_hasVoted 1 6 Q 15 1 6 [] [vV (.long (z0).toInt64), vI (0 : Int32), vR 15 0 0] h := by
  refine s_last0 (pc := 15) (y := z0) C dL_hasVoted_15 ?_
  refine s_name (fun h1 eh1 => ?_)
  have H := H h1 eh1
  refine s_goto (pc := 16) (tgt := 22) C dL_hasVoted_16 (by decide) ?_
  refine s_iconst (pc := 22) C dL_hasVoted_22 (x := (0 : Int32)) (by decide) ?_
  exact s_iret (pc := 23) rfl rfl ⟨by decide, by decide⟩ H C dL_hasVoted_23
set_option maxRecDepth 100000 in
set_option maxHeartbeats 4000000 in
theorem vL_hasVoted {G : g_G} {X : g_X} {Q : g_R → g_Hp → Prop} (C : g_Cx y_ G X iL_hasVoted) (p1 : Int32) (h : g_Hp) (H : wL_hasVoted p1 h Q) : g_V G X iL_hasVoted 1 6 Q 0 0 0 [(0, vR 0 0 0), (1, vI p1), (2, vR 15 0 0)] [] h := by
  refine s_aload_n (pc := 0) C dL_hasVoted_0 rfl 2 rfl ?_
  refine s_iconst (pc := 1) C dL_hasVoted_1 (x := (0 : Int32)) (by decide) ?_
  refine s_aload_n (pc := 2) C dL_hasVoted_2 rfl 0 rfl ?_
  refine s_iload_n (pc := 3) C dL_hasVoted_3 rfl 1 rfl ?_
  refine s_callv (pc := 4) (nA := 1) (as := [vI p1]) (st := [vI (0 : Int32), vR 15 0 0]) (stk := [vI p1, vR 0 0 0, vI (0 : Int32), vR 15 0 0]) ckX7 (Or.inl rfl) C (fun l hl => ctX7_hasVoted l hl p1 _ _ H) ⟨⟨kw_857, kw_58, kw_860⟩, rfl, ⟨by decide, by decide, by decide +kernel⟩, by decide, by decide⟩ kw_858 (g_selW kw_859) rfl (Nat.le_of_ble_eq_true rfl) ⟨by decide, by decide⟩ rfl dL_hasVoted_4 (g_Kq_I (fun u2 h1 H => ?_) (fun E h1 H => ?_))
  · refine s_if_eq (pc := 7) (tgt := 14) C dL_hasVoted_7 (by decide) (fun c => ?_) (fun c => ?_)
    · have H := H.1 c
      refine s_lconst (pc := 14) C dL_hasVoted_14 (x := (0 : Int32).toInt64) (by decide) ?_
      exact s_sub (ls' := []) [] rfl (vL_hasVoted_b15 C (0 : Int32) h1 H)
    · have H := H.2 c
      refine s_lconst (pc := 10) C dL_hasVoted_10 (x := (1 : Int32).toInt64) (by decide) ?_
      refine s_goto (pc := 11) (tgt := 15) C dL_hasVoted_11 (by decide) ?_
      exact s_sub (ls' := []) [] rfl (vL_hasVoted_b15 C (1 : Int32) h1 H)
  · obtain ⟨rfl, H⟩ := H
    refine s_catch (E := "java/lang/IndexOutOfBoundsException") (name := "java/lang/IndexOutOfBoundsException") [] (0, 16, 19, 13) [] rfl (by decide) (g_pre_nil) (by decide) kw_553 (cs_mem ("java/lang/IndexOutOfBoundsException", "java/lang/IndexOutOfBoundsException") (by decide +kernel)) C (fun q9 => ?_)
    refine s_astoreQ_n (pc := 19) (ls' := [(3, vV (.ref q9)), (0, vR 0 0 0), (1, vI p1), (2, vR 15 0 0)]) C dL_hasVoted_19 rfl (by decide) rfl ?_
    refine s_iconst (pc := 20) C dL_hasVoted_20 (x := (1 : Int32)) (by decide) ?_
    exact s_iret (pc := 21) rfl rfl ⟨by decide, by decide⟩ H C dL_hasVoted_21
theorem ctL_hasVoted (l : Launch) (hl : l.stackTraces = false) {G : g_G} (p1 : Int32) (h : g_Hp) (Q : g_R → g_Hp → Prop) (H : wL_hasVoted p1 h Q) : g_Met l y_ G iL_hasVoted [vR 0 0 0, vI p1, vR 15 0 0] h Q :=
  g_Met_ofH hl (by decide +kernel) rfl rfl (Nat.le_of_ble_eq_true rfl) (fun X C => vL_hasVoted C p1 h H)
/-! L_callStrike -/
abbrev iL_callStrike : g_I := (RL, yL_callStrike, cL_callStrike, 3, (some .int), [(0, 8, 11, 17), (0, 8, 14, 77)], { frames := 8, cells := 1, slots := 6, locals := 136 })
set_option maxRecDepth 100000 in
set_option maxHeartbeats 4000000 in
theorem vL_callStrike {G : g_G} {X : g_X} {Q : g_R → g_Hp → Prop} (C : g_Cx y_ G X iL_callStrike) (h : g_Hp) (H : wL_callStrike h Q) : g_V G X iL_callStrike 1 6 Q 0 0 0 [(0, vR 0 0 0), (1, vR 15 0 0)] [] h := by
  refine s_aload_n (pc := 0) C dL_callStrike_0 rfl 1 rfl ?_
  refine s_iconst (pc := 1) C dL_callStrike_1 (x := (0 : Int32)) (by decide) ?_
  refine s_aload_n (pc := 2) C dL_callStrike_2 rfl 0 rfl ?_
  refine s_callv (pc := 3) (nA := 0) (as := []) (st := [vI (0 : Int32), vR 15 0 0]) (stk := [vR 0 0 0, vI (0 : Int32), vR 15 0 0]) ckX7 (Or.inl rfl) C (fun l hl => ctX7_callStrike l hl _ _ H) ⟨⟨kw_865, kw_58, kw_868⟩, rfl, ⟨by decide, by decide, by decide +kernel⟩, by decide, by decide⟩ kw_866 (g_selW kw_867) rfl (Nat.le_of_ble_eq_true rfl) ⟨by decide, by decide⟩ rfl dL_callStrike_3 (g_Kq_I (fun u2 h1 H => ?_) (fun E h1 H => ?_))
  · refine s_i2l (pc := 6) C dL_callStrike_6 ?_
    refine s_last0 (pc := 7) (y := u2) C dL_callStrike_7 ?_
    refine s_name (fun h3 eh3 => ?_)
    have H := H h3 eh3
    refine s_goto (pc := 8) (tgt := 17) C dL_callStrike_8 (by decide) ?_
    refine s_iconst (pc := 17) C dL_callStrike_17 (x := (0 : Int32)) (by decide) ?_
    exact s_iret (pc := 18) rfl rfl ⟨by decide, by decide⟩ H C dL_callStrike_18
  · rcases H with H | H
    · obtain ⟨rfl, H⟩ := H
      refine s_catch (E := "java/lang/IllegalStateException") (name := "java/lang/IllegalStateException") [] (0, 8, 11, 17) [(0, 8, 14, 77)] rfl (by decide) (g_pre_nil) (by decide) kw_575 (cs_mem ("java/lang/IllegalStateException", "java/lang/IllegalStateException") (by decide +kernel)) C (fun q9 => ?_)
      refine s_astoreQ_n (pc := 11) (ls' := [(2, vV (.ref q9)), (0, vR 0 0 0), (1, vR 15 0 0)]) C dL_callStrike_11 rfl (by decide) rfl ?_
      refine s_iconst (pc := 12) C dL_callStrike_12 (x := (1 : Int32)) (by decide) ?_
      exact s_iret (pc := 13) rfl rfl ⟨by decide, by decide⟩ H C dL_callStrike_13
    · obtain ⟨rfl, H⟩ := H
      refine s_catch (E := "java/lang/UnsupportedOperationException") (name := "java/lang/UnsupportedOperationException") [(0, 8, 11, 17)] (0, 8, 14, 77) [] rfl (by decide) (g_pre_cons (by decide) kw_575 (ms_mem ("java/lang/UnsupportedOperationException", "java/lang/IllegalStateException") (by decide +kernel)) (g_pre_nil)) (by decide) kw_864 (cs_mem ("java/lang/UnsupportedOperationException", "java/lang/UnsupportedOperationException") (by decide +kernel)) C (fun q9 => ?_)
      refine s_astoreQ_n (pc := 14) (ls' := [(2, vV (.ref q9)), (0, vR 0 0 0), (1, vR 15 0 0)]) C dL_callStrike_14 rfl (by decide) rfl ?_
      refine s_iconst (pc := 15) C dL_callStrike_15 (x := (2 : Int32)) (by decide) ?_
      exact s_iret (pc := 16) rfl rfl ⟨by decide, by decide⟩ H C dL_callStrike_16
theorem ctL_callStrike (l : Launch) (hl : l.stackTraces = false) {G : g_G} (h : g_Hp) (Q : g_R → g_Hp → Prop) (H : wL_callStrike h Q) : g_Met l y_ G iL_callStrike [vR 0 0 0, vR 15 0 0] h Q :=
  g_Met_ofH hl (by decide +kernel) rfl rfl (Nat.le_of_ble_eq_true rfl) (fun X C => vL_callStrike C h H)
/-! L_strikeShifts -/
abbrev iL_strikeShifts : g_I := (RL, yL_strikeShifts, cL_strikeShifts, 3, (some .int), [(0, 8, 11, 17)], { frames := 7, cells := 1, slots := 6, locals := 115 })
set_option maxRecDepth 100000 in
set_option maxHeartbeats 4000000 in
theorem vL_strikeShifts {G : g_G} {X : g_X} {Q : g_R → g_Hp → Prop} (C : g_Cx y_ G X iL_strikeShifts) (h : g_Hp) (H : wL_strikeShifts h Q) : g_V G X iL_strikeShifts 1 6 Q 0 0 0 [(0, vR 0 0 0), (1, vR 15 0 0)] [] h := by
  refine s_aload_n (pc := 0) C dL_strikeShifts_0 rfl 1 rfl ?_
  refine s_iconst (pc := 1) C dL_strikeShifts_1 (x := (0 : Int32)) (by decide) ?_
  refine s_aload_n (pc := 2) C dL_strikeShifts_2 rfl 0 rfl ?_
  refine s_callv (pc := 3) (nA := 0) (as := []) (st := [vI (0 : Int32), vR 15 0 0]) (stk := [vR 0 0 0, vI (0 : Int32), vR 15 0 0]) ckX7 (Or.inl rfl) C (fun l hl => ctX7_strikeShifts l hl _ _ H) ⟨⟨kw_882, kw_58, kw_885⟩, rfl, ⟨by decide, by decide, by decide +kernel⟩, by decide, by decide⟩ kw_883 (g_selW kw_884) rfl (Nat.le_of_ble_eq_true rfl) ⟨by decide, by decide⟩ rfl dL_strikeShifts_3 (g_Kq_I (fun u2 h1 H => ?_) (fun E h1 H => ?_))
  · refine s_i2l (pc := 6) C dL_strikeShifts_6 ?_
    refine s_last0 (pc := 7) (y := u2) C dL_strikeShifts_7 ?_
    refine s_name (fun h3 eh3 => ?_)
    have H := H h3 eh3
    refine s_goto (pc := 8) (tgt := 14) C dL_strikeShifts_8 (by decide) ?_
    refine s_iconst (pc := 14) C dL_strikeShifts_14 (x := (0 : Int32)) (by decide) ?_
    exact s_iret (pc := 15) rfl rfl ⟨by decide, by decide⟩ H C dL_strikeShifts_15
  · obtain ⟨rfl, H⟩ := H
    refine s_catch (E := "java/lang/IllegalStateException") (name := "java/lang/IllegalStateException") [] (0, 8, 11, 17) [] rfl (by decide) (g_pre_nil) (by decide) kw_575 (cs_mem ("java/lang/IllegalStateException", "java/lang/IllegalStateException") (by decide +kernel)) C (fun q9 => ?_)
    refine s_astoreQ_n (pc := 11) (ls' := [(2, vV (.ref q9)), (0, vR 0 0 0), (1, vR 15 0 0)]) C dL_strikeShifts_11 rfl (by decide) rfl ?_
    refine s_iconst (pc := 12) C dL_strikeShifts_12 (x := (1 : Int32)) (by decide) ?_
    exact s_iret (pc := 13) rfl rfl ⟨by decide, by decide⟩ H C dL_strikeShifts_13
theorem ctL_strikeShifts (l : Launch) (hl : l.stackTraces = false) {G : g_G} (h : g_Hp) (Q : g_R → g_Hp → Prop) (H : wL_strikeShifts h Q) : g_Met l y_ G iL_strikeShifts [vR 0 0 0, vR 15 0 0] h Q :=
  g_Met_ofH hl (by decide +kernel) rfl rfl (Nat.le_of_ble_eq_true rfl) (fun X C => vL_strikeShifts C h H)
/-! L_payIn -/
abbrev iL_payIn : g_I := (RL, yL_payIn, cL_payIn, 4, (some .int), [(0, 9, 12, 15), (0, 9, 15, 17)], { frames := 8, cells := 1, slots := 6, locals := 137 })
set_option maxRecDepth 100000 in
set_option maxHeartbeats 4000000 in
theorem vL_payIn {G : g_G} {X : g_X} {Q : g_R → g_Hp → Prop} (C : g_Cx y_ G X iL_payIn) (p1 : Int32) (h : g_Hp) (H : wL_payIn p1 h Q) : g_V G X iL_payIn 1 6 Q 0 0 0 [(0, vR 0 0 0), (1, vI p1), (2, vR 15 0 0)] [] h := by
  refine s_aload_n (pc := 0) C dL_payIn_0 rfl 2 rfl ?_
  refine s_iconst (pc := 1) C dL_payIn_1 (x := (0 : Int32)) (by decide) ?_
  refine s_aload_n (pc := 2) C dL_payIn_2 rfl 0 rfl ?_
  refine s_iload_n (pc := 3) C dL_payIn_3 rfl 1 rfl ?_
  refine s_callv (pc := 4) (nA := 1) (as := [vI p1]) (st := [vI (0 : Int32), vR 15 0 0]) (stk := [vI p1, vR 0 0 0, vI (0 : Int32), vR 15 0 0]) ckX7 (Or.inl rfl) C (fun l hl => ctX7_payIn l hl p1 _ _ H) ⟨⟨kw_890, kw_58, kw_893⟩, rfl, ⟨by decide, by decide, by decide +kernel⟩, by decide, by decide⟩ kw_891 (g_selW kw_892) rfl (Nat.le_of_ble_eq_true rfl) ⟨by decide, by decide⟩ rfl dL_payIn_4 (g_Kq_I (fun u2 h1 H => ?_) (fun E h1 H => ?_))
  · refine s_i2l (pc := 7) C dL_payIn_7 ?_
    refine s_last0 (pc := 8) (y := u2) C dL_payIn_8 ?_
    refine s_name (fun h3 eh3 => ?_)
    have H := H h3 eh3
    refine s_goto (pc := 9) (tgt := 18) C dL_payIn_9 (by decide) ?_
    refine s_iconst (pc := 18) C dL_payIn_18 (x := (0 : Int32)) (by decide) ?_
    exact s_iret (pc := 19) rfl rfl ⟨by decide, by decide⟩ H C dL_payIn_19
  · rcases H with H | H
    · obtain ⟨rfl, H⟩ := H
      refine s_catch (E := "java/lang/IllegalArgumentException") (name := "java/lang/IllegalArgumentException") [] (0, 9, 12, 15) [(0, 9, 15, 17)] rfl (by decide) (g_pre_nil) (by decide) kw_574 (cs_mem ("java/lang/IllegalArgumentException", "java/lang/IllegalArgumentException") (by decide +kernel)) C (fun q9 => ?_)
      refine s_astoreQ_n (pc := 12) (ls' := [(3, vV (.ref q9)), (0, vR 0 0 0), (1, vI p1), (2, vR 15 0 0)]) C dL_payIn_12 rfl (by decide) rfl ?_
      refine s_iconst (pc := 13) C dL_payIn_13 (x := (1 : Int32)) (by decide) ?_
      exact s_iret (pc := 14) rfl rfl ⟨by decide, by decide⟩ H C dL_payIn_14
    · obtain ⟨rfl, H⟩ := H
      refine s_catch (E := "java/lang/IllegalStateException") (name := "java/lang/IllegalStateException") [(0, 9, 12, 15)] (0, 9, 15, 17) [] rfl (by decide) (g_pre_cons (by decide) kw_574 (ms_mem ("java/lang/IllegalStateException", "java/lang/IllegalArgumentException") (by decide +kernel)) (g_pre_nil)) (by decide) kw_575 (cs_mem ("java/lang/IllegalStateException", "java/lang/IllegalStateException") (by decide +kernel)) C (fun q9 => ?_)
      refine s_astoreQ_n (pc := 15) (ls' := [(3, vV (.ref q9)), (0, vR 0 0 0), (1, vI p1), (2, vR 15 0 0)]) C dL_payIn_15 rfl (by decide) rfl ?_
      refine s_iconst (pc := 16) C dL_payIn_16 (x := (2 : Int32)) (by decide) ?_
      exact s_iret (pc := 17) rfl rfl ⟨by decide, by decide⟩ H C dL_payIn_17
theorem ctL_payIn (l : Launch) (hl : l.stackTraces = false) {G : g_G} (p1 : Int32) (h : g_Hp) (Q : g_R → g_Hp → Prop) (H : wL_payIn p1 h Q) : g_Met l y_ G iL_payIn [vR 0 0 0, vI p1, vR 15 0 0] h Q :=
  g_Met_ofH hl (by decide +kernel) rfl rfl (Nat.le_of_ble_eq_true rfl) (fun X C => vL_payIn C p1 h H)
