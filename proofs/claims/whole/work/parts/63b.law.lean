/-! L_fundedShifts -/
abbrev iL_fundedShifts : g_I := (RL, yL_fundedShifts, cL_fundedShifts, 3, (some .int), [(0, 8, 11, 88)], { frames := 8, cells := 1, slots := 6, locals := 135 })
set_option maxRecDepth 100000 in
set_option maxHeartbeats 4000000 in
theorem vL_fundedShifts {G : g_G} {X : g_X} {Q : g_R → g_Hp → Prop} (C : g_Cx y_ G X iL_fundedShifts) (h : g_Hp) (H : wL_fundedShifts h Q) : g_V G X iL_fundedShifts 1 6 Q 0 0 0 [(0, vR 0 0 0), (1, vR 15 0 0)] [] h := by
  refine s_aload_n (pc := 0) C dL_fundedShifts_0 rfl 1 rfl ?_
  refine s_iconst (pc := 1) C dL_fundedShifts_1 (x := (0 : Int32)) (by decide) ?_
  refine s_aload_n (pc := 2) C dL_fundedShifts_2 rfl 0 rfl ?_
  refine s_callv (pc := 3) (nA := 0) (as := []) (st := [vI (0 : Int32), vR 15 0 0]) (stk := [vR 0 0 0, vI (0 : Int32), vR 15 0 0]) ckX7 (Or.inl rfl) C (fun l hl => ctX7_fundedShifts l hl _ _ H) ⟨⟨kw_906, kw_58, kw_505⟩, rfl, ⟨by decide, by decide, by decide +kernel⟩, by decide, by decide⟩ kw_503 (g_selW kw_504) rfl (Nat.le_of_ble_eq_true rfl) ⟨by decide, by decide⟩ rfl dL_fundedShifts_3 (g_Kq_I (fun u2 h1 H => ?_) (fun E h1 H => ?_))
  · refine s_i2l (pc := 6) C dL_fundedShifts_6 ?_
    refine s_last0 (pc := 7) (y := u2) C dL_fundedShifts_7 ?_
    refine s_name (fun h3 eh3 => ?_)
    have H := H h3 eh3
    refine s_goto (pc := 8) (tgt := 14) C dL_fundedShifts_8 (by decide) ?_
    refine s_iconst (pc := 14) C dL_fundedShifts_14 (x := (0 : Int32)) (by decide) ?_
    exact s_iret (pc := 15) rfl rfl ⟨by decide, by decide⟩ H C dL_fundedShifts_15
  · obtain ⟨rfl, H⟩ := H
    refine s_catch (E := "java/lang/ArithmeticException") (name := "java/lang/ArithmeticException") [] (0, 8, 11, 88) [] rfl (by decide) (g_pre_nil) (by decide) kw_905 (cs_mem ("java/lang/ArithmeticException", "java/lang/ArithmeticException") (by decide +kernel)) C (fun q9 => ?_)
    refine s_astoreQ_n (pc := 11) (ls' := [(2, vV (.ref q9)), (0, vR 0 0 0), (1, vR 15 0 0)]) C dL_fundedShifts_11 rfl (by decide) rfl ?_
    refine s_iconst (pc := 12) C dL_fundedShifts_12 (x := (1 : Int32)) (by decide) ?_
    exact s_iret (pc := 13) rfl rfl ⟨by decide, by decide⟩ H C dL_fundedShifts_13
theorem ctL_fundedShifts (l : Launch) (hl : l.stackTraces = false) {G : g_G} (h : g_Hp) (Q : g_R → g_Hp → Prop) (H : wL_fundedShifts h Q) : g_Met l y_ G iL_fundedShifts [vR 0 0 0, vR 15 0 0] h Q :=
  g_Met_ofH hl (by decide +kernel) rfl rfl (Nat.le_of_ble_eq_true rfl) (fun X C => vL_fundedShifts C h H)
/-! L_fundedShiftsByPaying -/
abbrev iL_fundedShiftsByPaying : g_I := (RL, yL_fundedShiftsByPaying, cL_fundedShiftsByPaying, 3, (some .int), [(0, 8, 11, 88)], { frames := 8, cells := 1, slots := 6, locals := 135 })
set_option maxRecDepth 100000 in
set_option maxHeartbeats 4000000 in
theorem vL_fundedShiftsByPaying {G : g_G} {X : g_X} {Q : g_R → g_Hp → Prop} (C : g_Cx y_ G X iL_fundedShiftsByPaying) (h : g_Hp) (H : wL_fundedShiftsByPaying h Q) : g_V G X iL_fundedShiftsByPaying 1 6 Q 0 0 0 [(0, vR 0 0 0), (1, vR 15 0 0)] [] h := by
  refine s_aload_n (pc := 0) C dL_fundedShiftsByPaying_0 rfl 1 rfl ?_
  refine s_iconst (pc := 1) C dL_fundedShiftsByPaying_1 (x := (0 : Int32)) (by decide) ?_
  refine s_aload_n (pc := 2) C dL_fundedShiftsByPaying_2 rfl 0 rfl ?_
  refine s_callv (pc := 3) (nA := 0) (as := []) (st := [vI (0 : Int32), vR 15 0 0]) (stk := [vR 0 0 0, vI (0 : Int32), vR 15 0 0]) ckX7 (Or.inl rfl) C (fun l hl => ctX7_fundedShiftsByPaying l hl _ _ H) ⟨⟨kw_910, kw_58, kw_533⟩, rfl, ⟨by decide, by decide, by decide +kernel⟩, by decide, by decide⟩ kw_531 (g_selW kw_532) rfl (Nat.le_of_ble_eq_true rfl) ⟨by decide, by decide⟩ rfl dL_fundedShiftsByPaying_3 (g_Kq_I (fun u2 h1 H => ?_) (fun E h1 H => ?_))
  · refine s_i2l (pc := 6) C dL_fundedShiftsByPaying_6 ?_
    refine s_last0 (pc := 7) (y := u2) C dL_fundedShiftsByPaying_7 ?_
    refine s_name (fun h3 eh3 => ?_)
    have H := H h3 eh3
    refine s_goto (pc := 8) (tgt := 14) C dL_fundedShiftsByPaying_8 (by decide) ?_
    refine s_iconst (pc := 14) C dL_fundedShiftsByPaying_14 (x := (0 : Int32)) (by decide) ?_
    exact s_iret (pc := 15) rfl rfl ⟨by decide, by decide⟩ H C dL_fundedShiftsByPaying_15
  · obtain ⟨rfl, H⟩ := H
    refine s_catch (E := "java/lang/ArithmeticException") (name := "java/lang/ArithmeticException") [] (0, 8, 11, 88) [] rfl (by decide) (g_pre_nil) (by decide) kw_905 (cs_mem ("java/lang/ArithmeticException", "java/lang/ArithmeticException") (by decide +kernel)) C (fun q9 => ?_)
    refine s_astoreQ_n (pc := 11) (ls' := [(2, vV (.ref q9)), (0, vR 0 0 0), (1, vR 15 0 0)]) C dL_fundedShiftsByPaying_11 rfl (by decide) rfl ?_
    refine s_iconst (pc := 12) C dL_fundedShiftsByPaying_12 (x := (1 : Int32)) (by decide) ?_
    exact s_iret (pc := 13) rfl rfl ⟨by decide, by decide⟩ H C dL_fundedShiftsByPaying_13
theorem ctL_fundedShiftsByPaying (l : Launch) (hl : l.stackTraces = false) {G : g_G} (h : g_Hp) (Q : g_R → g_Hp → Prop) (H : wL_fundedShiftsByPaying h Q) : g_Met l y_ G iL_fundedShiftsByPaying [vR 0 0 0, vR 15 0 0] h Q :=
  g_Met_ofH hl (by decide +kernel) rfl rfl (Nat.le_of_ble_eq_true rfl) (fun X C => vL_fundedShiftsByPaying C h H)
/-! L_signUp -/
abbrev iL_signUp : g_I := (RL, yL_signUp, cL_signUp, 5, (some .int), [(0, 10, 13, 13), (0, 10, 17, 17), (0, 10, 21, 77)], { frames := 8, cells := 1, slots := 6, locals := 138 })
set_option maxRecDepth 100000 in
set_option maxHeartbeats 4000000 in
theorem vL_signUp {G : g_G} {X : g_X} {Q : g_R → g_Hp → Prop} (C : g_Cx y_ G X iL_signUp) (p1 : Int32) (p2 : Int32) (h : g_Hp) (H : wL_signUp p1 p2 h Q) : g_V G X iL_signUp 1 6 Q 0 0 0 [(0, vR 0 0 0), (1, vI p1), (2, vI p2), (3, vR 15 0 0)] [] h := by
  refine s_aload_n (pc := 0) C dL_signUp_0 rfl 3 rfl ?_
  refine s_iconst (pc := 1) C dL_signUp_1 (x := (0 : Int32)) (by decide) ?_
  refine s_aload_n (pc := 2) C dL_signUp_2 rfl 0 rfl ?_
  refine s_iload_n (pc := 3) C dL_signUp_3 rfl 1 rfl ?_
  refine s_iload_n (pc := 4) C dL_signUp_4 rfl 2 rfl ?_
  refine s_callv (pc := 5) (nA := 2) (as := [vI p1, vI p2]) (st := [vI (0 : Int32), vR 15 0 0]) (stk := [vI p2, vI p1, vR 0 0 0, vI (0 : Int32), vR 15 0 0]) ckX7 (Or.inl rfl) C (fun l hl => ctX7_signUp l hl p1 p2 _ _ H) ⟨⟨kw_914, kw_58, kw_917⟩, rfl, ⟨by decide, by decide, by decide +kernel⟩, by decide, by decide⟩ kw_915 (g_selW kw_916) rfl (Nat.le_of_ble_eq_true rfl) ⟨by decide, by decide⟩ rfl dL_signUp_5 (g_Kq_I (fun u2 h1 H => ?_) (fun E h1 H => ?_))
  · refine s_i2l (pc := 8) C dL_signUp_8 ?_
    refine s_last0 (pc := 9) (y := u2) C dL_signUp_9 ?_
    refine s_name (fun h3 eh3 => ?_)
    have H := H h3 eh3
    refine s_goto (pc := 10) (tgt := 25) C dL_signUp_10 (by decide) ?_
    refine s_iconst (pc := 25) C dL_signUp_25 (x := (0 : Int32)) (by decide) ?_
    exact s_iret (pc := 26) rfl rfl ⟨by decide, by decide⟩ H C dL_signUp_26
  · rcases H with H | H | H
    · obtain ⟨rfl, H⟩ := H
      refine s_catch (E := "java/lang/IndexOutOfBoundsException") (name := "java/lang/IndexOutOfBoundsException") [] (0, 10, 13, 13) [(0, 10, 17, 17), (0, 10, 21, 77)] rfl (by decide) (g_pre_nil) (by decide) kw_553 (cs_mem ("java/lang/IndexOutOfBoundsException", "java/lang/IndexOutOfBoundsException") (by decide +kernel)) C (fun q9 => ?_)
      refine s_astoreQ (pc := 13) (ls' := [(4, vV (.ref q9)), (0, vR 0 0 0), (1, vI p1), (2, vI p2), (3, vR 15 0 0)]) C dL_signUp_13 (by decide) rfl ?_
      refine s_iconst (pc := 15) C dL_signUp_15 (x := (1 : Int32)) (by decide) ?_
      exact s_iret (pc := 16) rfl rfl ⟨by decide, by decide⟩ H C dL_signUp_16
    · obtain ⟨rfl, H⟩ := H
      refine s_catch (E := "java/lang/IllegalStateException") (name := "java/lang/IllegalStateException") [(0, 10, 13, 13)] (0, 10, 17, 17) [(0, 10, 21, 77)] rfl (by decide) (g_pre_cons (by decide) kw_553 (ms_mem ("java/lang/IllegalStateException", "java/lang/IndexOutOfBoundsException") (by decide +kernel)) (g_pre_nil)) (by decide) kw_575 (cs_mem ("java/lang/IllegalStateException", "java/lang/IllegalStateException") (by decide +kernel)) C (fun q9 => ?_)
      refine s_astoreQ (pc := 17) (ls' := [(4, vV (.ref q9)), (0, vR 0 0 0), (1, vI p1), (2, vI p2), (3, vR 15 0 0)]) C dL_signUp_17 (by decide) rfl ?_
      refine s_iconst (pc := 19) C dL_signUp_19 (x := (2 : Int32)) (by decide) ?_
      exact s_iret (pc := 20) rfl rfl ⟨by decide, by decide⟩ H C dL_signUp_20
    · obtain ⟨rfl, H⟩ := H
      refine s_catch (E := "java/lang/UnsupportedOperationException") (name := "java/lang/UnsupportedOperationException") [(0, 10, 13, 13), (0, 10, 17, 17)] (0, 10, 21, 77) [] rfl (by decide) (g_pre_cons (by decide) kw_553 (ms_mem ("java/lang/UnsupportedOperationException", "java/lang/IndexOutOfBoundsException") (by decide +kernel)) (g_pre_cons (by decide) kw_575 (ms_mem ("java/lang/UnsupportedOperationException", "java/lang/IllegalStateException") (by decide +kernel)) (g_pre_nil))) (by decide) kw_864 (cs_mem ("java/lang/UnsupportedOperationException", "java/lang/UnsupportedOperationException") (by decide +kernel)) C (fun q9 => ?_)
      refine s_astoreQ (pc := 21) (ls' := [(4, vV (.ref q9)), (0, vR 0 0 0), (1, vI p1), (2, vI p2), (3, vR 15 0 0)]) C dL_signUp_21 (by decide) rfl ?_
      refine s_iconst (pc := 23) C dL_signUp_23 (x := (3 : Int32)) (by decide) ?_
      exact s_iret (pc := 24) rfl rfl ⟨by decide, by decide⟩ H C dL_signUp_24
theorem ctL_signUp (l : Launch) (hl : l.stackTraces = false) {G : g_G} (p1 : Int32) (p2 : Int32) (h : g_Hp) (Q : g_R → g_Hp → Prop) (H : wL_signUp p1 p2 h Q) : g_Met l y_ G iL_signUp [vR 0 0 0, vI p1, vI p2, vR 15 0 0] h Q :=
  g_Met_ofH hl (by decide +kernel) rfl rfl (Nat.le_of_ble_eq_true rfl) (fun X C => vL_signUp C p1 p2 h H)
/-! L_strikeOff -/
abbrev iL_strikeOff : g_I := (RL, yL_strikeOff, cL_strikeOff, 4, (some .int), [(0, 9, 12, 13), (0, 9, 15, 51)], { frames := 8, cells := 1, slots := 6, locals := 137 })
set_option maxRecDepth 100000 in
set_option maxHeartbeats 4000000 in
theorem vL_strikeOff {G : g_G} {X : g_X} {Q : g_R → g_Hp → Prop} (C : g_Cx y_ G X iL_strikeOff) (p1 : Int32) (h : g_Hp) (H : wL_strikeOff p1 h Q) : g_V G X iL_strikeOff 1 6 Q 0 0 0 [(0, vR 0 0 0), (1, vI p1), (2, vR 15 0 0)] [] h := by
  refine s_aload_n (pc := 0) C dL_strikeOff_0 rfl 2 rfl ?_
  refine s_iconst (pc := 1) C dL_strikeOff_1 (x := (0 : Int32)) (by decide) ?_
  refine s_aload_n (pc := 2) C dL_strikeOff_2 rfl 0 rfl ?_
  refine s_iload_n (pc := 3) C dL_strikeOff_3 rfl 1 rfl ?_
  refine s_callv (pc := 4) (nA := 1) (as := [vI p1]) (st := [vI (0 : Int32), vR 15 0 0]) (stk := [vI p1, vR 0 0 0, vI (0 : Int32), vR 15 0 0]) ckX7 (Or.inl rfl) C (fun l hl => ctX7_strikeOff l hl p1 _ _ H) ⟨⟨kw_929, kw_58, kw_932⟩, rfl, ⟨by decide, by decide, by decide +kernel⟩, by decide, by decide⟩ kw_930 (g_selW kw_931) rfl (Nat.le_of_ble_eq_true rfl) ⟨by decide, by decide⟩ rfl dL_strikeOff_4 (g_Kq_I (fun u2 h1 H => ?_) (fun E h1 H => ?_))
  · refine s_i2l (pc := 7) C dL_strikeOff_7 ?_
    refine s_last0 (pc := 8) (y := u2) C dL_strikeOff_8 ?_
    refine s_name (fun h3 eh3 => ?_)
    have H := H h3 eh3
    refine s_goto (pc := 9) (tgt := 18) C dL_strikeOff_9 (by decide) ?_
    refine s_iconst (pc := 18) C dL_strikeOff_18 (x := (0 : Int32)) (by decide) ?_
    exact s_iret (pc := 19) rfl rfl ⟨by decide, by decide⟩ H C dL_strikeOff_19
  · rcases H with H | H
    · obtain ⟨rfl, H⟩ := H
      refine s_catch (E := "java/lang/IndexOutOfBoundsException") (name := "java/lang/IndexOutOfBoundsException") [] (0, 9, 12, 13) [(0, 9, 15, 51)] rfl (by decide) (g_pre_nil) (by decide) kw_553 (cs_mem ("java/lang/IndexOutOfBoundsException", "java/lang/IndexOutOfBoundsException") (by decide +kernel)) C (fun q9 => ?_)
      refine s_astoreQ_n (pc := 12) (ls' := [(3, vV (.ref q9)), (0, vR 0 0 0), (1, vI p1), (2, vR 15 0 0)]) C dL_strikeOff_12 rfl (by decide) rfl ?_
      refine s_iconst (pc := 13) C dL_strikeOff_13 (x := (1 : Int32)) (by decide) ?_
      exact s_iret (pc := 14) rfl rfl ⟨by decide, by decide⟩ H C dL_strikeOff_14
    · obtain ⟨rfl, H⟩ := H
      refine s_catch (E := "java/util/NoSuchElementException") (name := "java/util/NoSuchElementException") [(0, 9, 12, 13)] (0, 9, 15, 51) [] rfl (by decide) (g_pre_cons (by decide) kw_553 (ms_mem ("java/util/NoSuchElementException", "java/lang/IndexOutOfBoundsException") (by decide +kernel)) (g_pre_nil)) (by decide) kw_763 (cs_mem ("java/util/NoSuchElementException", "java/util/NoSuchElementException") (by decide +kernel)) C (fun q9 => ?_)
      refine s_astoreQ_n (pc := 15) (ls' := [(3, vV (.ref q9)), (0, vR 0 0 0), (1, vI p1), (2, vR 15 0 0)]) C dL_strikeOff_15 rfl (by decide) rfl ?_
      refine s_iconst (pc := 16) C dL_strikeOff_16 (x := (2 : Int32)) (by decide) ?_
      exact s_iret (pc := 17) rfl rfl ⟨by decide, by decide⟩ H C dL_strikeOff_17
theorem ctL_strikeOff (l : Launch) (hl : l.stackTraces = false) {G : g_G} (p1 : Int32) (h : g_Hp) (Q : g_R → g_Hp → Prop) (H : wL_strikeOff p1 h Q) : g_Met l y_ G iL_strikeOff [vR 0 0 0, vI p1, vR 15 0 0] h Q :=
  g_Met_ofH hl (by decide +kernel) rfl rfl (Nat.le_of_ble_eq_true rfl) (fun X C => vL_strikeOff C p1 h H)
/-! L_listLength -/
abbrev iL_listLength : g_I := (RL, yL_listLength, cL_listLength, 4, (some .int), [(0, 9, 12, 13)], { frames := 8, cells := 1, slots := 6, locals := 136 })
set_option maxRecDepth 100000 in
set_option maxHeartbeats 4000000 in
theorem vL_listLength {G : g_G} {X : g_X} {Q : g_R → g_Hp → Prop} (C : g_Cx y_ G X iL_listLength) (p1 : Int32) (h : g_Hp) (H : wL_listLength p1 h Q) : g_V G X iL_listLength 1 6 Q 0 0 0 [(0, vR 0 0 0), (1, vI p1), (2, vR 15 0 0)] [] h := by
  refine s_aload_n (pc := 0) C dL_listLength_0 rfl 2 rfl ?_
  refine s_iconst (pc := 1) C dL_listLength_1 (x := (0 : Int32)) (by decide) ?_
  refine s_aload_n (pc := 2) C dL_listLength_2 rfl 0 rfl ?_
  refine s_iload_n (pc := 3) C dL_listLength_3 rfl 1 rfl ?_
  refine s_callv (pc := 4) (nA := 1) (as := [vI p1]) (st := [vI (0 : Int32), vR 15 0 0]) (stk := [vI p1, vR 0 0 0, vI (0 : Int32), vR 15 0 0]) ckX7 (Or.inl rfl) C (fun l hl => ctX7_listLength l hl p1 _ _ H) ⟨⟨kw_946, kw_58, kw_949⟩, rfl, ⟨by decide, by decide, by decide +kernel⟩, by decide, by decide⟩ kw_947 (g_selW kw_948) rfl (Nat.le_of_ble_eq_true rfl) ⟨by decide, by decide⟩ rfl dL_listLength_4 (g_Kq_I (fun u2 h1 H => ?_) (fun E h1 H => ?_))
  · refine s_i2l (pc := 7) C dL_listLength_7 ?_
    refine s_last0 (pc := 8) (y := u2) C dL_listLength_8 ?_
    refine s_name (fun h3 eh3 => ?_)
    have H := H h3 eh3
    refine s_goto (pc := 9) (tgt := 15) C dL_listLength_9 (by decide) ?_
    refine s_iconst (pc := 15) C dL_listLength_15 (x := (0 : Int32)) (by decide) ?_
    exact s_iret (pc := 16) rfl rfl ⟨by decide, by decide⟩ H C dL_listLength_16
  · obtain ⟨rfl, H⟩ := H
    refine s_catch (E := "java/lang/IndexOutOfBoundsException") (name := "java/lang/IndexOutOfBoundsException") [] (0, 9, 12, 13) [] rfl (by decide) (g_pre_nil) (by decide) kw_553 (cs_mem ("java/lang/IndexOutOfBoundsException", "java/lang/IndexOutOfBoundsException") (by decide +kernel)) C (fun q9 => ?_)
    refine s_astoreQ_n (pc := 12) (ls' := [(3, vV (.ref q9)), (0, vR 0 0 0), (1, vI p1), (2, vR 15 0 0)]) C dL_listLength_12 rfl (by decide) rfl ?_
    refine s_iconst (pc := 13) C dL_listLength_13 (x := (1 : Int32)) (by decide) ?_
    exact s_iret (pc := 14) rfl rfl ⟨by decide, by decide⟩ H C dL_listLength_14
theorem ctL_listLength (l : Launch) (hl : l.stackTraces = false) {G : g_G} (p1 : Int32) (h : g_Hp) (Q : g_R → g_Hp → Prop) (H : wL_listLength p1 h Q) : g_Met l y_ G iL_listLength [vR 0 0 0, vI p1, vR 15 0 0] h Q :=
  g_Met_ofH hl (by decide +kernel) rfl rfl (Nat.le_of_ble_eq_true rfl) (fun X C => vL_listLength C p1 h H)
/-! L_listedAt -/
abbrev iL_listedAt : g_I := (RL, yL_listedAt, cL_listedAt, 5, (some .int), [(0, 10, 13, 13), (0, 10, 17, 51)], { frames := 8, cells := 2, slots := 12, locals := 138 })
set_option maxRecDepth 100000 in
set_option maxHeartbeats 4000000 in
theorem vL_listedAt {G : g_G} {X : g_X} {Q : g_R → g_Hp → Prop} (C : g_Cx y_ G X iL_listedAt) (p1 : Int32) (p2 : Int32) (h : g_Hp) (H : wL_listedAt p1 p2 h Q) : g_V G X iL_listedAt 2 12 Q 0 0 0 [(0, vR 0 0 0), (1, vI p1), (2, vI p2), (3, vR 15 0 0)] [] h := by
  refine s_aload_n (pc := 0) C dL_listedAt_0 rfl 3 rfl ?_
  refine s_iconst (pc := 1) C dL_listedAt_1 (x := (0 : Int32)) (by decide) ?_
  refine s_aload_n (pc := 2) C dL_listedAt_2 rfl 0 rfl ?_
  refine s_iload_n (pc := 3) C dL_listedAt_3 rfl 1 rfl ?_
  refine s_iload_n (pc := 4) C dL_listedAt_4 rfl 2 rfl ?_
  refine s_callv (pc := 5) (nA := 2) (as := [vI p1, vI p2]) (st := [vI (0 : Int32), vR 15 0 0]) (stk := [vI p2, vI p1, vR 0 0 0, vI (0 : Int32), vR 15 0 0]) ckX7 (Or.inl rfl) C (fun l hl => ctX7_listedAt l hl p1 p2 _ _ H) ⟨⟨kw_954, kw_58, kw_957⟩, rfl, ⟨by decide, by decide, by decide +kernel⟩, by decide, by decide⟩ kw_955 (g_selW kw_956) rfl (Nat.le_of_ble_eq_true rfl) ⟨by decide, by decide⟩ rfl dL_listedAt_5 (g_Kq_I (fun u2 h1 H => ?_) (fun E h1 H => ?_))
  · refine s_i2l (pc := 8) C dL_listedAt_8 ?_
    refine s_last0 (pc := 9) (y := u2) C dL_listedAt_9 ?_
    refine s_name (fun h3 eh3 => ?_)
    have H := H h3 eh3
    refine s_goto (pc := 10) (tgt := 21) C dL_listedAt_10 (by decide) ?_
    refine s_iconst (pc := 21) C dL_listedAt_21 (x := (0 : Int32)) (by decide) ?_
    exact s_iret (pc := 22) rfl rfl ⟨by decide, by decide⟩ H C dL_listedAt_22
  · rcases H with H | H
    · obtain ⟨rfl, H⟩ := H
      refine s_catch (E := "java/lang/IndexOutOfBoundsException") (name := "java/lang/IndexOutOfBoundsException") [] (0, 10, 13, 13) [(0, 10, 17, 51)] rfl (by decide) (g_pre_nil) (by decide) kw_553 (cs_mem ("java/lang/IndexOutOfBoundsException", "java/lang/IndexOutOfBoundsException") (by decide +kernel)) C (fun q9 => ?_)
      refine s_astoreQ (pc := 13) (ls' := [(4, vV (.ref q9)), (0, vR 0 0 0), (1, vI p1), (2, vI p2), (3, vR 15 0 0)]) C dL_listedAt_13 (by decide) rfl ?_
      refine s_iconst (pc := 15) C dL_listedAt_15 (x := (1 : Int32)) (by decide) ?_
      exact s_iret (pc := 16) rfl rfl ⟨by decide, by decide⟩ H C dL_listedAt_16
    · obtain ⟨rfl, H⟩ := H
      refine s_catch (E := "java/util/NoSuchElementException") (name := "java/util/NoSuchElementException") [(0, 10, 13, 13)] (0, 10, 17, 51) [] rfl (by decide) (g_pre_cons (by decide) kw_553 (ms_mem ("java/util/NoSuchElementException", "java/lang/IndexOutOfBoundsException") (by decide +kernel)) (g_pre_nil)) (by decide) kw_763 (cs_mem ("java/util/NoSuchElementException", "java/util/NoSuchElementException") (by decide +kernel)) C (fun q9 => ?_)
      refine s_astoreQ (pc := 17) (ls' := [(4, vV (.ref q9)), (0, vR 0 0 0), (1, vI p1), (2, vI p2), (3, vR 15 0 0)]) C dL_listedAt_17 (by decide) rfl ?_
      refine s_iconst (pc := 19) C dL_listedAt_19 (x := (2 : Int32)) (by decide) ?_
      exact s_iret (pc := 20) rfl rfl ⟨by decide, by decide⟩ H C dL_listedAt_20
theorem ctL_listedAt (l : Launch) (hl : l.stackTraces = false) {G : g_G} (p1 : Int32) (p2 : Int32) (h : g_Hp) (Q : g_R → g_Hp → Prop) (H : wL_listedAt p1 p2 h Q) : g_Met l y_ G iL_listedAt [vR 0 0 0, vI p1, vI p2, vR 15 0 0] h Q :=
  g_Met_ofH hl (by decide +kernel) rfl rfl (Nat.le_of_ble_eq_true rfl) (fun X C => vL_listedAt C p1 p2 h H)
/-! L_listOf -/
abbrev iL_listOf : g_I := (RL, yL_listOf, cL_listOf, 4, (some .int), [(0, 9, 12, 13), (0, 9, 15, 51)], { frames := 8, cells := 2, slots := 12, locals := 138 })
set_option maxRecDepth 100000 in
set_option maxHeartbeats 4000000 in
theorem vL_listOf {G : g_G} {X : g_X} {Q : g_R → g_Hp → Prop} (C : g_Cx y_ G X iL_listOf) (p1 : Int32) (h : g_Hp) (H : wL_listOf p1 h Q) : g_V G X iL_listOf 2 12 Q 0 0 0 [(0, vR 0 0 0), (1, vI p1), (2, vR 15 0 0)] [] h := by
  refine s_aload_n (pc := 0) C dL_listOf_0 rfl 2 rfl ?_
  refine s_iconst (pc := 1) C dL_listOf_1 (x := (0 : Int32)) (by decide) ?_
  refine s_aload_n (pc := 2) C dL_listOf_2 rfl 0 rfl ?_
  refine s_iload_n (pc := 3) C dL_listOf_3 rfl 1 rfl ?_
  refine s_callv (pc := 4) (nA := 1) (as := [vI p1]) (st := [vI (0 : Int32), vR 15 0 0]) (stk := [vI p1, vR 0 0 0, vI (0 : Int32), vR 15 0 0]) ckX7 (Or.inl rfl) C (fun l hl => ctX7_listOf l hl p1 _ _ H) ⟨⟨kw_966, kw_58, kw_969⟩, rfl, ⟨by decide, by decide, by decide +kernel⟩, by decide, by decide⟩ kw_967 (g_selW kw_968) rfl (Nat.le_of_ble_eq_true rfl) ⟨by decide, by decide⟩ rfl dL_listOf_4 (g_Kq_I (fun u2 h1 H => ?_) (fun E h1 H => ?_))
  · refine s_i2l (pc := 7) C dL_listOf_7 ?_
    refine s_last0 (pc := 8) (y := u2) C dL_listOf_8 ?_
    refine s_name (fun h3 eh3 => ?_)
    have H := H h3 eh3
    refine s_goto (pc := 9) (tgt := 18) C dL_listOf_9 (by decide) ?_
    refine s_iconst (pc := 18) C dL_listOf_18 (x := (0 : Int32)) (by decide) ?_
    exact s_iret (pc := 19) rfl rfl ⟨by decide, by decide⟩ H C dL_listOf_19
  · rcases H with H | H
    · obtain ⟨rfl, H⟩ := H
      refine s_catch (E := "java/lang/IndexOutOfBoundsException") (name := "java/lang/IndexOutOfBoundsException") [] (0, 9, 12, 13) [(0, 9, 15, 51)] rfl (by decide) (g_pre_nil) (by decide) kw_553 (cs_mem ("java/lang/IndexOutOfBoundsException", "java/lang/IndexOutOfBoundsException") (by decide +kernel)) C (fun q9 => ?_)
      refine s_astoreQ_n (pc := 12) (ls' := [(3, vV (.ref q9)), (0, vR 0 0 0), (1, vI p1), (2, vR 15 0 0)]) C dL_listOf_12 rfl (by decide) rfl ?_
      refine s_iconst (pc := 13) C dL_listOf_13 (x := (1 : Int32)) (by decide) ?_
      exact s_iret (pc := 14) rfl rfl ⟨by decide, by decide⟩ H C dL_listOf_14
    · obtain ⟨rfl, H⟩ := H
      refine s_catch (E := "java/util/NoSuchElementException") (name := "java/util/NoSuchElementException") [(0, 9, 12, 13)] (0, 9, 15, 51) [] rfl (by decide) (g_pre_cons (by decide) kw_553 (ms_mem ("java/util/NoSuchElementException", "java/lang/IndexOutOfBoundsException") (by decide +kernel)) (g_pre_nil)) (by decide) kw_763 (cs_mem ("java/util/NoSuchElementException", "java/util/NoSuchElementException") (by decide +kernel)) C (fun q9 => ?_)
      refine s_astoreQ_n (pc := 15) (ls' := [(3, vV (.ref q9)), (0, vR 0 0 0), (1, vI p1), (2, vR 15 0 0)]) C dL_listOf_15 rfl (by decide) rfl ?_
      refine s_iconst (pc := 16) C dL_listOf_16 (x := (2 : Int32)) (by decide) ?_
      exact s_iret (pc := 17) rfl rfl ⟨by decide, by decide⟩ H C dL_listOf_17
theorem ctL_listOf (l : Launch) (hl : l.stackTraces = false) {G : g_G} (p1 : Int32) (h : g_Hp) (Q : g_R → g_Hp → Prop) (H : wL_listOf p1 h Q) : g_Met l y_ G iL_listOf [vR 0 0 0, vI p1, vR 15 0 0] h Q :=
  g_Met_ofH hl (by decide +kernel) rfl rfl (Nat.le_of_ble_eq_true rfl) (fun X C => vL_listOf C p1 h H)
/-! L_makeOffer -/
abbrev iL_makeOffer : g_I := (RL, yL_makeOffer, cL_makeOffer, 4, (some .int), [(0, 9, 12, 15), (0, 9, 15, 17)], { frames := 8, cells := 1, slots := 6, locals := 137 })
set_option maxRecDepth 100000 in
set_option maxHeartbeats 4000000 in
theorem vL_makeOffer {G : g_G} {X : g_X} {Q : g_R → g_Hp → Prop} (C : g_Cx y_ G X iL_makeOffer) (p1 : Int32) (h : g_Hp) (H : wL_makeOffer p1 h Q) : g_V G X iL_makeOffer 1 6 Q 0 0 0 [(0, vR 0 0 0), (1, vI p1), (2, vR 15 0 0)] [] h := by
  refine s_aload_n (pc := 0) C dL_makeOffer_0 rfl 2 rfl ?_
  refine s_iconst (pc := 1) C dL_makeOffer_1 (x := (0 : Int32)) (by decide) ?_
  refine s_aload_n (pc := 2) C dL_makeOffer_2 rfl 0 rfl ?_
  refine s_iload_n (pc := 3) C dL_makeOffer_3 rfl 1 rfl ?_
  refine s_callv (pc := 4) (nA := 1) (as := [vI p1]) (st := [vI (0 : Int32), vR 15 0 0]) (stk := [vI p1, vR 0 0 0, vI (0 : Int32), vR 15 0 0]) ckX7 (Or.inl rfl) C (fun l hl => ctX7_makeOffer l hl p1 _ _ H) ⟨⟨kw_974, kw_58, kw_977⟩, rfl, ⟨by decide, by decide, by decide +kernel⟩, by decide, by decide⟩ kw_975 (g_selW kw_976) rfl (Nat.le_of_ble_eq_true rfl) ⟨by decide, by decide⟩ rfl dL_makeOffer_4 (g_Kq_I (fun u2 h1 H => ?_) (fun E h1 H => ?_))
  · refine s_i2l (pc := 7) C dL_makeOffer_7 ?_
    refine s_last0 (pc := 8) (y := u2) C dL_makeOffer_8 ?_
    refine s_name (fun h3 eh3 => ?_)
    have H := H h3 eh3
    refine s_goto (pc := 9) (tgt := 18) C dL_makeOffer_9 (by decide) ?_
    refine s_iconst (pc := 18) C dL_makeOffer_18 (x := (0 : Int32)) (by decide) ?_
    exact s_iret (pc := 19) rfl rfl ⟨by decide, by decide⟩ H C dL_makeOffer_19
  · rcases H with H | H
    · obtain ⟨rfl, H⟩ := H
      refine s_catch (E := "java/lang/IllegalArgumentException") (name := "java/lang/IllegalArgumentException") [] (0, 9, 12, 15) [(0, 9, 15, 17)] rfl (by decide) (g_pre_nil) (by decide) kw_574 (cs_mem ("java/lang/IllegalArgumentException", "java/lang/IllegalArgumentException") (by decide +kernel)) C (fun q9 => ?_)
      refine s_astoreQ_n (pc := 12) (ls' := [(3, vV (.ref q9)), (0, vR 0 0 0), (1, vI p1), (2, vR 15 0 0)]) C dL_makeOffer_12 rfl (by decide) rfl ?_
      refine s_iconst (pc := 13) C dL_makeOffer_13 (x := (1 : Int32)) (by decide) ?_
      exact s_iret (pc := 14) rfl rfl ⟨by decide, by decide⟩ H C dL_makeOffer_14
    · obtain ⟨rfl, H⟩ := H
      refine s_catch (E := "java/lang/IllegalStateException") (name := "java/lang/IllegalStateException") [(0, 9, 12, 15)] (0, 9, 15, 17) [] rfl (by decide) (g_pre_cons (by decide) kw_574 (ms_mem ("java/lang/IllegalStateException", "java/lang/IllegalArgumentException") (by decide +kernel)) (g_pre_nil)) (by decide) kw_575 (cs_mem ("java/lang/IllegalStateException", "java/lang/IllegalStateException") (by decide +kernel)) C (fun q9 => ?_)
      refine s_astoreQ_n (pc := 15) (ls' := [(3, vV (.ref q9)), (0, vR 0 0 0), (1, vI p1), (2, vR 15 0 0)]) C dL_makeOffer_15 rfl (by decide) rfl ?_
      refine s_iconst (pc := 16) C dL_makeOffer_16 (x := (2 : Int32)) (by decide) ?_
      exact s_iret (pc := 17) rfl rfl ⟨by decide, by decide⟩ H C dL_makeOffer_17
theorem ctL_makeOffer (l : Launch) (hl : l.stackTraces = false) {G : g_G} (p1 : Int32) (h : g_Hp) (Q : g_R → g_Hp → Prop) (H : wL_makeOffer p1 h Q) : g_Met l y_ G iL_makeOffer [vR 0 0 0, vI p1, vR 15 0 0] h Q :=
  g_Met_ofH hl (by decide +kernel) rfl rfl (Nat.le_of_ble_eq_true rfl) (fun X C => vL_makeOffer C p1 h H)
/-! L_accept -/
abbrev iL_accept : g_I := (RL, yL_accept, cL_accept, 4, (some .int), [(0, 16, 19, 13), (0, 16, 22, 51), (0, 16, 25, 17)], { frames := 8, cells := 1, slots := 6, locals := 137 })
set_option maxRecDepth 100000 in
set_option maxHeartbeats 4000000 in
theorem vL_accept_b15 {G : g_G} {X : g_X} {Q : g_R → g_Hp → Prop} (C : g_Cx y_ G X iL_accept) (z0 : Int32) (h : g_Hp) (H : wL_accept_b15 Q z0 h) : g_V G X iL_accept 1 6 Q 15 1 6 [] [vV (.long (z0).toInt64), vI (0 : Int32), vR 15 0 0] h := by
  refine s_last0 (pc := 15) (y := z0) C dL_accept_15 ?_
  refine s_name (fun h1 eh1 => ?_)
  have H := H h1 eh1
  refine s_goto (pc := 16) (tgt := 28) C dL_accept_16 (by decide) ?_
  refine s_iconst (pc := 28) C dL_accept_28 (x := (0 : Int32)) (by decide) ?_
  exact s_iret (pc := 29) rfl rfl ⟨by decide, by decide⟩ H C dL_accept_29
set_option maxRecDepth 100000 in
set_option maxHeartbeats 4000000 in
theorem vL_accept {G : g_G} {X : g_X} {Q : g_R → g_Hp → Prop} (C : g_Cx y_ G X iL_accept) (p1 : Int32) (h : g_Hp) (H : wL_accept p1 h Q) : g_V G X iL_accept 1 6 Q 0 0 0 [(0, vR 0 0 0), (1, vI p1), (2, vR 15 0 0)] [] h := by
  refine s_aload_n (pc := 0) C dL_accept_0 rfl 2 rfl ?_
  refine s_iconst (pc := 1) C dL_accept_1 (x := (0 : Int32)) (by decide) ?_
  refine s_aload_n (pc := 2) C dL_accept_2 rfl 0 rfl ?_
  refine s_iload_n (pc := 3) C dL_accept_3 rfl 1 rfl ?_
  refine s_callv (pc := 4) (nA := 1) (as := [vI p1]) (st := [vI (0 : Int32), vR 15 0 0]) (stk := [vI p1, vR 0 0 0, vI (0 : Int32), vR 15 0 0]) ckX7 (Or.inl rfl) C (fun l hl => ctX7_accept l hl p1 _ _ H) ⟨⟨kw_993, kw_58, kw_996⟩, rfl, ⟨by decide, by decide, by decide +kernel⟩, by decide, by decide⟩ kw_994 (g_selW kw_995) rfl (Nat.le_of_ble_eq_true rfl) ⟨by decide, by decide⟩ rfl dL_accept_4 (g_Kq_I (fun u2 h1 H => ?_) (fun E h1 H => ?_))
  · refine s_if_eq (pc := 7) (tgt := 14) C dL_accept_7 (by decide) (fun c => ?_) (fun c => ?_)
    · have H := H.1 c
      refine s_lconst (pc := 14) C dL_accept_14 (x := (0 : Int32).toInt64) (by decide) ?_
      exact s_sub (ls' := []) [] rfl (vL_accept_b15 C (0 : Int32) h1 H)
    · have H := H.2 c
      refine s_lconst (pc := 10) C dL_accept_10 (x := (1 : Int32).toInt64) (by decide) ?_
      refine s_goto (pc := 11) (tgt := 15) C dL_accept_11 (by decide) ?_
      exact s_sub (ls' := []) [] rfl (vL_accept_b15 C (1 : Int32) h1 H)
  · rcases H with H | H | H
    · obtain ⟨rfl, H⟩ := H
      refine s_catch (E := "java/lang/IndexOutOfBoundsException") (name := "java/lang/IndexOutOfBoundsException") [] (0, 16, 19, 13) [(0, 16, 22, 51), (0, 16, 25, 17)] rfl (by decide) (g_pre_nil) (by decide) kw_553 (cs_mem ("java/lang/IndexOutOfBoundsException", "java/lang/IndexOutOfBoundsException") (by decide +kernel)) C (fun q9 => ?_)
      refine s_astoreQ_n (pc := 19) (ls' := [(3, vV (.ref q9)), (0, vR 0 0 0), (1, vI p1), (2, vR 15 0 0)]) C dL_accept_19 rfl (by decide) rfl ?_
      refine s_iconst (pc := 20) C dL_accept_20 (x := (1 : Int32)) (by decide) ?_
      exact s_iret (pc := 21) rfl rfl ⟨by decide, by decide⟩ H C dL_accept_21
    · obtain ⟨rfl, H⟩ := H
      refine s_catch (E := "java/util/NoSuchElementException") (name := "java/util/NoSuchElementException") [(0, 16, 19, 13)] (0, 16, 22, 51) [(0, 16, 25, 17)] rfl (by decide) (g_pre_cons (by decide) kw_553 (ms_mem ("java/util/NoSuchElementException", "java/lang/IndexOutOfBoundsException") (by decide +kernel)) (g_pre_nil)) (by decide) kw_763 (cs_mem ("java/util/NoSuchElementException", "java/util/NoSuchElementException") (by decide +kernel)) C (fun q9 => ?_)
      refine s_astoreQ_n (pc := 22) (ls' := [(3, vV (.ref q9)), (0, vR 0 0 0), (1, vI p1), (2, vR 15 0 0)]) C dL_accept_22 rfl (by decide) rfl ?_
      refine s_iconst (pc := 23) C dL_accept_23 (x := (2 : Int32)) (by decide) ?_
      exact s_iret (pc := 24) rfl rfl ⟨by decide, by decide⟩ H C dL_accept_24
    · obtain ⟨rfl, H⟩ := H
      refine s_catch (E := "java/lang/IllegalStateException") (name := "java/lang/IllegalStateException") [(0, 16, 19, 13), (0, 16, 22, 51)] (0, 16, 25, 17) [] rfl (by decide) (g_pre_cons (by decide) kw_553 (ms_mem ("java/lang/IllegalStateException", "java/lang/IndexOutOfBoundsException") (by decide +kernel)) (g_pre_cons (by decide) kw_763 (ms_mem ("java/lang/IllegalStateException", "java/util/NoSuchElementException") (by decide +kernel)) (g_pre_nil))) (by decide) kw_575 (cs_mem ("java/lang/IllegalStateException", "java/lang/IllegalStateException") (by decide +kernel)) C (fun q9 => ?_)
      refine s_astoreQ_n (pc := 25) (ls' := [(3, vV (.ref q9)), (0, vR 0 0 0), (1, vI p1), (2, vR 15 0 0)]) C dL_accept_25 rfl (by decide) rfl ?_
      refine s_iconst (pc := 26) C dL_accept_26 (x := (3 : Int32)) (by decide) ?_
      exact s_iret (pc := 27) rfl rfl ⟨by decide, by decide⟩ H C dL_accept_27
theorem ctL_accept (l : Launch) (hl : l.stackTraces = false) {G : g_G} (p1 : Int32) (h : g_Hp) (Q : g_R → g_Hp → Prop) (H : wL_accept p1 h Q) : g_Met l y_ G iL_accept [vR 0 0 0, vI p1, vR 15 0 0] h Q :=
  g_Met_ofH hl (by decide +kernel) rfl rfl (Nat.le_of_ble_eq_true rfl) (fun X C => vL_accept C p1 h H)
/-! L_offerPercent -/
abbrev iL_offerPercent : g_I := (RL, yL_offerPercent, cL_offerPercent, 3, (some .int), [(0, 8, 11, 51)], { frames := 8, cells := 1, slots := 6, locals := 135 })
set_option maxRecDepth 100000 in
set_option maxHeartbeats 4000000 in
theorem vL_offerPercent {G : g_G} {X : g_X} {Q : g_R → g_Hp → Prop} (C : g_Cx y_ G X iL_offerPercent) (h : g_Hp) (H : wL_offerPercent h Q) : g_V G X iL_offerPercent 1 6 Q 0 0 0 [(0, vR 0 0 0), (1, vR 15 0 0)] [] h := by
  refine s_aload_n (pc := 0) C dL_offerPercent_0 rfl 1 rfl ?_
  refine s_iconst (pc := 1) C dL_offerPercent_1 (x := (0 : Int32)) (by decide) ?_
  refine s_aload_n (pc := 2) C dL_offerPercent_2 rfl 0 rfl ?_
  refine s_callv (pc := 3) (nA := 0) (as := []) (st := [vI (0 : Int32), vR 15 0 0]) (stk := [vR 0 0 0, vI (0 : Int32), vR 15 0 0]) ckX7 (Or.inl rfl) C (fun l hl => ctX7_offerPercent l hl _ _ H) ⟨⟨kw_1015, kw_58, kw_1018⟩, rfl, ⟨by decide, by decide, by decide +kernel⟩, by decide, by decide⟩ kw_1016 (g_selW kw_1017) rfl (Nat.le_of_ble_eq_true rfl) ⟨by decide, by decide⟩ rfl dL_offerPercent_3 (g_Kq_I (fun u2 h1 H => ?_) (fun E h1 H => ?_))
  · refine s_i2l (pc := 6) C dL_offerPercent_6 ?_
    refine s_last0 (pc := 7) (y := u2) C dL_offerPercent_7 ?_
    refine s_name (fun h3 eh3 => ?_)
    have H := H h3 eh3
    refine s_goto (pc := 8) (tgt := 14) C dL_offerPercent_8 (by decide) ?_
    refine s_iconst (pc := 14) C dL_offerPercent_14 (x := (0 : Int32)) (by decide) ?_
    exact s_iret (pc := 15) rfl rfl ⟨by decide, by decide⟩ H C dL_offerPercent_15
  · obtain ⟨rfl, H⟩ := H
    refine s_catch (E := "java/util/NoSuchElementException") (name := "java/util/NoSuchElementException") [] (0, 8, 11, 51) [] rfl (by decide) (g_pre_nil) (by decide) kw_763 (cs_mem ("java/util/NoSuchElementException", "java/util/NoSuchElementException") (by decide +kernel)) C (fun q9 => ?_)
    refine s_astoreQ_n (pc := 11) (ls' := [(2, vV (.ref q9)), (0, vR 0 0 0), (1, vR 15 0 0)]) C dL_offerPercent_11 rfl (by decide) rfl ?_
    refine s_iconst (pc := 12) C dL_offerPercent_12 (x := (1 : Int32)) (by decide) ?_
    exact s_iret (pc := 13) rfl rfl ⟨by decide, by decide⟩ H C dL_offerPercent_13
theorem ctL_offerPercent (l : Launch) (hl : l.stackTraces = false) {G : g_G} (h : g_Hp) (Q : g_R → g_Hp → Prop) (H : wL_offerPercent h Q) : g_Met l y_ G iL_offerPercent [vR 0 0 0, vR 15 0 0] h Q :=
  g_Met_ofH hl (by decide +kernel) rfl rfl (Nat.le_of_ble_eq_true rfl) (fun X C => vL_offerPercent C h H)
/-! L_acceptances -/
abbrev iL_acceptances : g_I := (RL, yL_acceptances, cL_acceptances, 3, (some .int), [(0, 8, 11, 51)], { frames := 8, cells := 1, slots := 6, locals := 135 })
set_option maxRecDepth 100000 in
set_option maxHeartbeats 4000000 in
theorem vL_acceptances {G : g_G} {X : g_X} {Q : g_R → g_Hp → Prop} (C : g_Cx y_ G X iL_acceptances) (h : g_Hp) (H : wL_acceptances h Q) : g_V G X iL_acceptances 1 6 Q 0 0 0 [(0, vR 0 0 0), (1, vR 15 0 0)] [] h := by
  refine s_aload_n (pc := 0) C dL_acceptances_0 rfl 1 rfl ?_
  refine s_iconst (pc := 1) C dL_acceptances_1 (x := (0 : Int32)) (by decide) ?_
  refine s_aload_n (pc := 2) C dL_acceptances_2 rfl 0 rfl ?_
  refine s_callv (pc := 3) (nA := 0) (as := []) (st := [vI (0 : Int32), vR 15 0 0]) (stk := [vR 0 0 0, vI (0 : Int32), vR 15 0 0]) ckX7 (Or.inl rfl) C (fun l hl => ctX7_acceptances l hl _ _ H) ⟨⟨kw_1027, kw_58, kw_1030⟩, rfl, ⟨by decide, by decide, by decide +kernel⟩, by decide, by decide⟩ kw_1028 (g_selW kw_1029) rfl (Nat.le_of_ble_eq_true rfl) ⟨by decide, by decide⟩ rfl dL_acceptances_3 (g_Kq_I (fun u2 h1 H => ?_) (fun E h1 H => ?_))
  · refine s_i2l (pc := 6) C dL_acceptances_6 ?_
    refine s_last0 (pc := 7) (y := u2) C dL_acceptances_7 ?_
    refine s_name (fun h3 eh3 => ?_)
    have H := H h3 eh3
    refine s_goto (pc := 8) (tgt := 14) C dL_acceptances_8 (by decide) ?_
    refine s_iconst (pc := 14) C dL_acceptances_14 (x := (0 : Int32)) (by decide) ?_
    exact s_iret (pc := 15) rfl rfl ⟨by decide, by decide⟩ H C dL_acceptances_15
  · obtain ⟨rfl, H⟩ := H
    refine s_catch (E := "java/util/NoSuchElementException") (name := "java/util/NoSuchElementException") [] (0, 8, 11, 51) [] rfl (by decide) (g_pre_nil) (by decide) kw_763 (cs_mem ("java/util/NoSuchElementException", "java/util/NoSuchElementException") (by decide +kernel)) C (fun q9 => ?_)
    refine s_astoreQ_n (pc := 11) (ls' := [(2, vV (.ref q9)), (0, vR 0 0 0), (1, vR 15 0 0)]) C dL_acceptances_11 rfl (by decide) rfl ?_
    refine s_iconst (pc := 12) C dL_acceptances_12 (x := (1 : Int32)) (by decide) ?_
    exact s_iret (pc := 13) rfl rfl ⟨by decide, by decide⟩ H C dL_acceptances_13
theorem ctL_acceptances (l : Launch) (hl : l.stackTraces = false) {G : g_G} (h : g_Hp) (Q : g_R → g_Hp → Prop) (H : wL_acceptances h Q) : g_Met l y_ G iL_acceptances [vR 0 0 0, vR 15 0 0] h Q :=
  g_Met_ofH hl (by decide +kernel) rfl rfl (Nat.le_of_ble_eq_true rfl) (fun X C => vL_acceptances C h H)
/-! L_offeredRate -/
abbrev iL_offeredRate : g_I := (RL, yL_offeredRate, cL_offeredRate, 4, (some .int), [(0, 9, 12, 13), (0, 9, 15, 51)], { frames := 8, cells := 2, slots := 12, locals := 138 })
set_option maxRecDepth 100000 in
set_option maxHeartbeats 4000000 in
theorem vL_offeredRate {G : g_G} {X : g_X} {Q : g_R → g_Hp → Prop} (C : g_Cx y_ G X iL_offeredRate) (p1 : Int32) (h : g_Hp) (H : wL_offeredRate p1 h Q) : g_V G X iL_offeredRate 2 12 Q 0 0 0 [(0, vR 0 0 0), (1, vI p1), (2, vR 15 0 0)] [] h := by
  refine s_aload_n (pc := 0) C dL_offeredRate_0 rfl 2 rfl ?_
  refine s_iconst (pc := 1) C dL_offeredRate_1 (x := (0 : Int32)) (by decide) ?_
  refine s_aload_n (pc := 2) C dL_offeredRate_2 rfl 0 rfl ?_
  refine s_iload_n (pc := 3) C dL_offeredRate_3 rfl 1 rfl ?_
  refine s_callv (pc := 4) (nA := 1) (as := [vI p1]) (st := [vI (0 : Int32), vR 15 0 0]) (stk := [vI p1, vR 0 0 0, vI (0 : Int32), vR 15 0 0]) ckX7 (Or.inl rfl) C (fun l hl => ctX7_offeredRate l hl p1 _ _ H) ⟨⟨kw_1035, kw_58, kw_1038⟩, rfl, ⟨by decide, by decide, by decide +kernel⟩, by decide, by decide⟩ kw_1036 (g_selW kw_1037) rfl (Nat.le_of_ble_eq_true rfl) ⟨by decide, by decide⟩ rfl dL_offeredRate_4 (g_Kq_I (fun u2 h1 H => ?_) (fun E h1 H => ?_))
  · refine s_i2l (pc := 7) C dL_offeredRate_7 ?_
    refine s_last0 (pc := 8) (y := u2) C dL_offeredRate_8 ?_
    refine s_name (fun h3 eh3 => ?_)
    have H := H h3 eh3
    refine s_goto (pc := 9) (tgt := 18) C dL_offeredRate_9 (by decide) ?_
    refine s_iconst (pc := 18) C dL_offeredRate_18 (x := (0 : Int32)) (by decide) ?_
    exact s_iret (pc := 19) rfl rfl ⟨by decide, by decide⟩ H C dL_offeredRate_19
  · rcases H with H | H
    · obtain ⟨rfl, H⟩ := H
      refine s_catch (E := "java/lang/IndexOutOfBoundsException") (name := "java/lang/IndexOutOfBoundsException") [] (0, 9, 12, 13) [(0, 9, 15, 51)] rfl (by decide) (g_pre_nil) (by decide) kw_553 (cs_mem ("java/lang/IndexOutOfBoundsException", "java/lang/IndexOutOfBoundsException") (by decide +kernel)) C (fun q9 => ?_)
      refine s_astoreQ_n (pc := 12) (ls' := [(3, vV (.ref q9)), (0, vR 0 0 0), (1, vI p1), (2, vR 15 0 0)]) C dL_offeredRate_12 rfl (by decide) rfl ?_
      refine s_iconst (pc := 13) C dL_offeredRate_13 (x := (1 : Int32)) (by decide) ?_
      exact s_iret (pc := 14) rfl rfl ⟨by decide, by decide⟩ H C dL_offeredRate_14
    · obtain ⟨rfl, H⟩ := H
      refine s_catch (E := "java/util/NoSuchElementException") (name := "java/util/NoSuchElementException") [(0, 9, 12, 13)] (0, 9, 15, 51) [] rfl (by decide) (g_pre_cons (by decide) kw_553 (ms_mem ("java/util/NoSuchElementException", "java/lang/IndexOutOfBoundsException") (by decide +kernel)) (g_pre_nil)) (by decide) kw_763 (cs_mem ("java/util/NoSuchElementException", "java/util/NoSuchElementException") (by decide +kernel)) C (fun q9 => ?_)
      refine s_astoreQ_n (pc := 15) (ls' := [(3, vV (.ref q9)), (0, vR 0 0 0), (1, vI p1), (2, vR 15 0 0)]) C dL_offeredRate_15 rfl (by decide) rfl ?_
      refine s_iconst (pc := 16) C dL_offeredRate_16 (x := (2 : Int32)) (by decide) ?_
      exact s_iret (pc := 17) rfl rfl ⟨by decide, by decide⟩ H C dL_offeredRate_17
theorem ctL_offeredRate (l : Launch) (hl : l.stackTraces = false) {G : g_G} (p1 : Int32) (h : g_Hp) (Q : g_R → g_Hp → Prop) (H : wL_offeredRate p1 h Q) : g_Met l y_ G iL_offeredRate [vR 0 0 0, vI p1, vR 15 0 0] h Q :=
  g_Met_ofH hl (by decide +kernel) rfl rfl (Nat.le_of_ble_eq_true rfl) (fun X C => vL_offeredRate C p1 h H)
/-! L_append -/
abbrev iL_append : g_I := (RL, yL_append, cL_append, 4, (some .int), [(0, 9, 12, 15), (0, 9, 15, 17)], { frames := 8, cells := 1, slots := 150, locals := 227 })
set_option maxRecDepth 100000 in
set_option maxHeartbeats 4000000 in
theorem vL_append {G : g_G} {X : g_X} {Q : g_R → g_Hp → Prop} (C : g_Cx y_ G X iL_append) (p1 : Int32) (h : g_Hp) (H : wL_append p1 h Q) : g_V G X iL_append 1 150 Q 0 0 0 [(0, vR 0 0 0), (1, vI p1), (2, vR 15 0 0)] [] h := by
  refine s_aload_n (pc := 0) C dL_append_0 rfl 2 rfl ?_
  refine s_iconst (pc := 1) C dL_append_1 (x := (0 : Int32)) (by decide) ?_
  refine s_aload_n (pc := 2) C dL_append_2 rfl 0 rfl ?_
  refine s_iload_n (pc := 3) C dL_append_3 rfl 1 rfl ?_
  refine s_callv (pc := 4) (nA := 1) (as := [vI p1]) (st := [vI (0 : Int32), vR 15 0 0]) (stk := [vI p1, vR 0 0 0, vI (0 : Int32), vR 15 0 0]) ckX7 (Or.inl rfl) C (fun l hl => ctX7_append l hl p1 _ _ H) ⟨⟨kw_1043, kw_58, kw_1046⟩, rfl, ⟨by decide, by decide, by decide +kernel⟩, by decide, by decide⟩ kw_1044 (g_selW kw_1045) rfl (Nat.le_of_ble_eq_true rfl) ⟨by decide, by decide⟩ rfl dL_append_4 (g_Kq_I (fun u2 h1 H => ?_) (fun E h1 H => ?_))
  · refine s_i2l (pc := 7) C dL_append_7 ?_
    refine s_last0 (pc := 8) (y := u2) C dL_append_8 ?_
    refine s_name (fun h3 eh3 => ?_)
    have H := H h3 eh3
    refine s_goto (pc := 9) (tgt := 18) C dL_append_9 (by decide) ?_
    refine s_iconst (pc := 18) C dL_append_18 (x := (0 : Int32)) (by decide) ?_
    exact s_iret (pc := 19) rfl rfl ⟨by decide, by decide⟩ H C dL_append_19
  · rcases H with H | H
    · obtain ⟨rfl, H⟩ := H
      refine s_catch (E := "java/lang/IllegalArgumentException") (name := "java/lang/IllegalArgumentException") [] (0, 9, 12, 15) [(0, 9, 15, 17)] rfl (by decide) (g_pre_nil) (by decide) kw_574 (cs_mem ("java/lang/IllegalArgumentException", "java/lang/IllegalArgumentException") (by decide +kernel)) C (fun q9 => ?_)
      refine s_astoreQ_n (pc := 12) (ls' := [(3, vV (.ref q9)), (0, vR 0 0 0), (1, vI p1), (2, vR 15 0 0)]) C dL_append_12 rfl (by decide) rfl ?_
      refine s_iconst (pc := 13) C dL_append_13 (x := (1 : Int32)) (by decide) ?_
      exact s_iret (pc := 14) rfl rfl ⟨by decide, by decide⟩ H C dL_append_14
    · obtain ⟨rfl, H⟩ := H
      refine s_catch (E := "java/lang/IllegalStateException") (name := "java/lang/IllegalStateException") [(0, 9, 12, 15)] (0, 9, 15, 17) [] rfl (by decide) (g_pre_cons (by decide) kw_574 (ms_mem ("java/lang/IllegalStateException", "java/lang/IllegalArgumentException") (by decide +kernel)) (g_pre_nil)) (by decide) kw_575 (cs_mem ("java/lang/IllegalStateException", "java/lang/IllegalStateException") (by decide +kernel)) C (fun q9 => ?_)
      refine s_astoreQ_n (pc := 15) (ls' := [(3, vV (.ref q9)), (0, vR 0 0 0), (1, vI p1), (2, vR 15 0 0)]) C dL_append_15 rfl (by decide) rfl ?_
      refine s_iconst (pc := 16) C dL_append_16 (x := (2 : Int32)) (by decide) ?_
      exact s_iret (pc := 17) rfl rfl ⟨by decide, by decide⟩ H C dL_append_17
theorem ctL_append (l : Launch) (hl : l.stackTraces = false) {G : g_G} (p1 : Int32) (h : g_Hp) (Q : g_R → g_Hp → Prop) (H : wL_append p1 h Q) : g_Met l y_ G iL_append [vR 0 0 0, vI p1, vR 15 0 0] h Q :=
  g_Met_ofH hl (by decide +kernel) rfl rfl (Nat.le_of_ble_eq_true rfl) (fun X C => vL_append C p1 h H)
/-! L_run -/
abbrev iL_run : g_I := (RL, yL_run, cL_run, 3, (some .int), [(0, 8, 11, 15), (0, 8, 14, 17)], { frames := 11, cells := 2, slots := 156, locals := 242 })
set_option maxRecDepth 100000 in
set_option maxHeartbeats 4000000 in
theorem vL_run {G : g_G} {X : g_X} {Q : g_R → g_Hp → Prop} (C : g_Cx y_ G X iL_run) (h : g_Hp) (H : wL_run h Q) : g_V G X iL_run 2 156 Q 0 0 0 [(0, vR 0 0 0), (1, vR 15 0 0)] [] h := by
  refine s_aload_n (pc := 0) C dL_run_0 rfl 1 rfl ?_
  refine s_iconst (pc := 1) C dL_run_1 (x := (0 : Int32)) (by decide) ?_
  refine s_aload_n (pc := 2) C dL_run_2 rfl 0 rfl ?_
  refine s_callv (pc := 3) (nA := 0) (as := []) (st := [vI (0 : Int32), vR 15 0 0]) (stk := [vR 0 0 0, vI (0 : Int32), vR 15 0 0]) ckX7 (Or.inl rfl) C (fun l hl => ctX7_run l hl _ _ H) ⟨⟨kw_1152, kw_58, kw_1155⟩, rfl, ⟨by decide, by decide, by decide +kernel⟩, by decide, by decide⟩ kw_1153 (g_selW kw_1154) rfl (Nat.le_of_ble_eq_true rfl) ⟨by decide, by decide⟩ rfl dL_run_3 (g_Kq_I (fun u2 h1 H => ?_) (fun E h1 H => ?_))
  · refine s_i2l (pc := 6) C dL_run_6 ?_
    refine s_last0 (pc := 7) (y := u2) C dL_run_7 ?_
    refine s_name (fun h3 eh3 => ?_)
    have H := H h3 eh3
    refine s_goto (pc := 8) (tgt := 17) C dL_run_8 (by decide) ?_
    refine s_iconst (pc := 17) C dL_run_17 (x := (0 : Int32)) (by decide) ?_
    exact s_iret (pc := 18) rfl rfl ⟨by decide, by decide⟩ H C dL_run_18
  · rcases H with H | H
    · obtain ⟨rfl, H⟩ := H
      refine s_catch (E := "java/lang/IllegalArgumentException") (name := "java/lang/IllegalArgumentException") [] (0, 8, 11, 15) [(0, 8, 14, 17)] rfl (by decide) (g_pre_nil) (by decide) kw_574 (cs_mem ("java/lang/IllegalArgumentException", "java/lang/IllegalArgumentException") (by decide +kernel)) C (fun q9 => ?_)
      refine s_astoreQ_n (pc := 11) (ls' := [(2, vV (.ref q9)), (0, vR 0 0 0), (1, vR 15 0 0)]) C dL_run_11 rfl (by decide) rfl ?_
      refine s_iconst (pc := 12) C dL_run_12 (x := (1 : Int32)) (by decide) ?_
      exact s_iret (pc := 13) rfl rfl ⟨by decide, by decide⟩ H C dL_run_13
    · obtain ⟨rfl, H⟩ := H
      refine s_catch (E := "java/lang/IllegalStateException") (name := "java/lang/IllegalStateException") [(0, 8, 11, 15)] (0, 8, 14, 17) [] rfl (by decide) (g_pre_cons (by decide) kw_574 (ms_mem ("java/lang/IllegalStateException", "java/lang/IllegalArgumentException") (by decide +kernel)) (g_pre_nil)) (by decide) kw_575 (cs_mem ("java/lang/IllegalStateException", "java/lang/IllegalStateException") (by decide +kernel)) C (fun q9 => ?_)
      refine s_astoreQ_n (pc := 14) (ls' := [(2, vV (.ref q9)), (0, vR 0 0 0), (1, vR 15 0 0)]) C dL_run_14 rfl (by decide) rfl ?_
      refine s_iconst (pc := 15) C dL_run_15 (x := (2 : Int32)) (by decide) ?_
      exact s_iret (pc := 16) rfl rfl ⟨by decide, by decide⟩ H C dL_run_16
theorem ctL_run (l : Launch) (hl : l.stackTraces = false) {G : g_G} (h : g_Hp) (Q : g_R → g_Hp → Prop) (H : wL_run h Q) : g_Met l y_ G iL_run [vR 0 0 0, vR 15 0 0] h Q :=
  g_Met_ofH hl (by decide +kernel) rfl rfl (Nat.le_of_ble_eq_true rfl) (fun X C => vL_run C h H)
/-! L_errorPosition -/
abbrev iL_errorPosition : g_I := (RL, yL_errorPosition, cL_errorPosition, 3, (some .int), [(0, 8, 11, 51)], { frames := 7, cells := 1, slots := 6, locals := 115 })
set_option maxRecDepth 100000 in
set_option maxHeartbeats 4000000 in
theorem vL_errorPosition {G : g_G} {X : g_X} {Q : g_R → g_Hp → Prop} (C : g_Cx y_ G X iL_errorPosition) (h : g_Hp) (H : wL_errorPosition h Q) : g_V G X iL_errorPosition 1 6 Q 0 0 0 [(0, vR 0 0 0), (1, vR 15 0 0)] [] h := by
  refine s_aload_n (pc := 0) C dL_errorPosition_0 rfl 1 rfl ?_
  refine s_iconst (pc := 1) C dL_errorPosition_1 (x := (0 : Int32)) (by decide) ?_
  refine s_aload_n (pc := 2) C dL_errorPosition_2 rfl 0 rfl ?_
  refine s_callv (pc := 3) (nA := 0) (as := []) (st := [vI (0 : Int32), vR 15 0 0]) (stk := [vR 0 0 0, vI (0 : Int32), vR 15 0 0]) ckX7 (Or.inl rfl) C (fun l hl => ctX7_errorPosition l hl _ _ H) ⟨⟨kw_1446, kw_58, kw_1449⟩, rfl, ⟨by decide, by decide, by decide +kernel⟩, by decide, by decide⟩ kw_1447 (g_selW kw_1448) rfl (Nat.le_of_ble_eq_true rfl) ⟨by decide, by decide⟩ rfl dL_errorPosition_3 (g_Kq_I (fun u2 h1 H => ?_) (fun E h1 H => ?_))
  · refine s_i2l (pc := 6) C dL_errorPosition_6 ?_
    refine s_last0 (pc := 7) (y := u2) C dL_errorPosition_7 ?_
    refine s_name (fun h3 eh3 => ?_)
    have H := H h3 eh3
    refine s_goto (pc := 8) (tgt := 14) C dL_errorPosition_8 (by decide) ?_
    refine s_iconst (pc := 14) C dL_errorPosition_14 (x := (0 : Int32)) (by decide) ?_
    exact s_iret (pc := 15) rfl rfl ⟨by decide, by decide⟩ H C dL_errorPosition_15
  · obtain ⟨rfl, H⟩ := H
    refine s_catch (E := "java/util/NoSuchElementException") (name := "java/util/NoSuchElementException") [] (0, 8, 11, 51) [] rfl (by decide) (g_pre_nil) (by decide) kw_763 (cs_mem ("java/util/NoSuchElementException", "java/util/NoSuchElementException") (by decide +kernel)) C (fun q9 => ?_)
    refine s_astoreQ_n (pc := 11) (ls' := [(2, vV (.ref q9)), (0, vR 0 0 0), (1, vR 15 0 0)]) C dL_errorPosition_11 rfl (by decide) rfl ?_
    refine s_iconst (pc := 12) C dL_errorPosition_12 (x := (1 : Int32)) (by decide) ?_
    exact s_iret (pc := 13) rfl rfl ⟨by decide, by decide⟩ H C dL_errorPosition_13
theorem ctL_errorPosition (l : Launch) (hl : l.stackTraces = false) {G : g_G} (h : g_Hp) (Q : g_R → g_Hp → Prop) (H : wL_errorPosition h Q) : g_Met l y_ G iL_errorPosition [vR 0 0 0, vR 15 0 0] h Q :=
  g_Met_ofH hl (by decide +kernel) rfl rfl (Nat.le_of_ble_eq_true rfl) (fun X C => vL_errorPosition C h H)
/-! L_failedCommand -/
abbrev iL_failedCommand : g_I := (RL, yL_failedCommand, cL_failedCommand, 3, (some .int), [(0, 8, 11, 51)], { frames := 7, cells := 1, slots := 6, locals := 115 })
set_option maxRecDepth 100000 in
set_option maxHeartbeats 4000000 in
theorem vL_failedCommand {G : g_G} {X : g_X} {Q : g_R → g_Hp → Prop} (C : g_Cx y_ G X iL_failedCommand) (h : g_Hp) (H : wL_failedCommand h Q) : g_V G X iL_failedCommand 1 6 Q 0 0 0 [(0, vR 0 0 0), (1, vR 15 0 0)] [] h := by
  refine s_aload_n (pc := 0) C dL_failedCommand_0 rfl 1 rfl ?_
  refine s_iconst (pc := 1) C dL_failedCommand_1 (x := (0 : Int32)) (by decide) ?_
  refine s_aload_n (pc := 2) C dL_failedCommand_2 rfl 0 rfl ?_
  refine s_callv (pc := 3) (nA := 0) (as := []) (st := [vI (0 : Int32), vR 15 0 0]) (stk := [vR 0 0 0, vI (0 : Int32), vR 15 0 0]) ckX7 (Or.inl rfl) C (fun l hl => ctX7_failedCommand l hl _ _ H) ⟨⟨kw_1454, kw_58, kw_1457⟩, rfl, ⟨by decide, by decide, by decide +kernel⟩, by decide, by decide⟩ kw_1455 (g_selW kw_1456) rfl (Nat.le_of_ble_eq_true rfl) ⟨by decide, by decide⟩ rfl dL_failedCommand_3 (g_Kq_I (fun u2 h1 H => ?_) (fun E h1 H => ?_))
  · refine s_i2l (pc := 6) C dL_failedCommand_6 ?_
    refine s_last0 (pc := 7) (y := u2) C dL_failedCommand_7 ?_
    refine s_name (fun h3 eh3 => ?_)
    have H := H h3 eh3
    refine s_goto (pc := 8) (tgt := 14) C dL_failedCommand_8 (by decide) ?_
    refine s_iconst (pc := 14) C dL_failedCommand_14 (x := (0 : Int32)) (by decide) ?_
    exact s_iret (pc := 15) rfl rfl ⟨by decide, by decide⟩ H C dL_failedCommand_15
  · obtain ⟨rfl, H⟩ := H
    refine s_catch (E := "java/util/NoSuchElementException") (name := "java/util/NoSuchElementException") [] (0, 8, 11, 51) [] rfl (by decide) (g_pre_nil) (by decide) kw_763 (cs_mem ("java/util/NoSuchElementException", "java/util/NoSuchElementException") (by decide +kernel)) C (fun q9 => ?_)
    refine s_astoreQ_n (pc := 11) (ls' := [(2, vV (.ref q9)), (0, vR 0 0 0), (1, vR 15 0 0)]) C dL_failedCommand_11 rfl (by decide) rfl ?_
    refine s_iconst (pc := 12) C dL_failedCommand_12 (x := (1 : Int32)) (by decide) ?_
    exact s_iret (pc := 13) rfl rfl ⟨by decide, by decide⟩ H C dL_failedCommand_13
theorem ctL_failedCommand (l : Launch) (hl : l.stackTraces = false) {G : g_G} (h : g_Hp) (Q : g_R → g_Hp → Prop) (H : wL_failedCommand h Q) : g_Met l y_ G iL_failedCommand [vR 0 0 0, vR 15 0 0] h Q :=
  g_Met_ofH hl (by decide +kernel) rfl rfl (Nat.le_of_ble_eq_true rfl) (fun X C => vL_failedCommand C h H)
/-! L_describeMember -/
abbrev iL_describeMember : g_I := (RL, yL_describeMember, cL_describeMember, 4, (some .int), [(0, 9, 12, 13)], { frames := 8, cells := 14, slots := 1956, locals := 230 })
set_option maxRecDepth 100000 in
set_option maxHeartbeats 4000000 in
theorem vL_describeMember {G : g_G} {X : g_X} {Q : g_R → g_Hp → Prop} (C : g_Cx y_ G X iL_describeMember) (p1 : Int32) (h : g_Hp) (H : wL_describeMember p1 h Q) : g_V G X iL_describeMember 14 1956 Q 0 0 0 [(0, vR 0 0 0), (1, vI p1), (2, vR 15 0 0)] [] h := by
  refine s_aload_n (pc := 0) C dL_describeMember_0 rfl 2 rfl ?_
  refine s_iconst (pc := 1) C dL_describeMember_1 (x := (0 : Int32)) (by decide) ?_
  refine s_aload_n (pc := 2) C dL_describeMember_2 rfl 0 rfl ?_
  refine s_iload_n (pc := 3) C dL_describeMember_3 rfl 1 rfl ?_
  refine s_callv (pc := 4) (nA := 1) (as := [vI p1]) (st := [vI (0 : Int32), vR 15 0 0]) (stk := [vI p1, vR 0 0 0, vI (0 : Int32), vR 15 0 0]) ckX7 (Or.inl rfl) C (fun l hl => ctX7_describeMember l hl p1 _ _ H) ⟨⟨kw_1462, kw_58, kw_1465⟩, rfl, ⟨by decide, by decide, by decide +kernel⟩, by decide, by decide⟩ kw_1463 (g_selW kw_1464) rfl (Nat.le_of_ble_eq_true rfl) ⟨by decide, by decide⟩ rfl dL_describeMember_4 (g_Kq_I (fun u2 h1 H => ?_) (fun E h1 H => ?_))
  · refine s_i2l (pc := 7) C dL_describeMember_7 ?_
    refine s_last0 (pc := 8) (y := u2) C dL_describeMember_8 ?_
    refine s_name (fun h3 eh3 => ?_)
    have H := H h3 eh3
    refine s_goto (pc := 9) (tgt := 15) C dL_describeMember_9 (by decide) ?_
    refine s_iconst (pc := 15) C dL_describeMember_15 (x := (0 : Int32)) (by decide) ?_
    exact s_iret (pc := 16) rfl rfl ⟨by decide, by decide⟩ H C dL_describeMember_16
  · obtain ⟨rfl, H⟩ := H
    refine s_catch (E := "java/lang/IndexOutOfBoundsException") (name := "java/lang/IndexOutOfBoundsException") [] (0, 9, 12, 13) [] rfl (by decide) (g_pre_nil) (by decide) kw_553 (cs_mem ("java/lang/IndexOutOfBoundsException", "java/lang/IndexOutOfBoundsException") (by decide +kernel)) C (fun q9 => ?_)
    refine s_astoreQ_n (pc := 12) (ls' := [(3, vV (.ref q9)), (0, vR 0 0 0), (1, vI p1), (2, vR 15 0 0)]) C dL_describeMember_12 rfl (by decide) rfl ?_
    refine s_iconst (pc := 13) C dL_describeMember_13 (x := (1 : Int32)) (by decide) ?_
    exact s_iret (pc := 14) rfl rfl ⟨by decide, by decide⟩ H C dL_describeMember_14
theorem ctL_describeMember (l : Launch) (hl : l.stackTraces = false) {G : g_G} (p1 : Int32) (h : g_Hp) (Q : g_R → g_Hp → Prop) (H : wL_describeMember p1 h Q) : g_Met l y_ G iL_describeMember [vR 0 0 0, vI p1, vR 15 0 0] h Q :=
  g_Met_ofH hl (by decide +kernel) rfl rfl (Nat.le_of_ble_eq_true rfl) (fun X C => vL_describeMember C p1 h H)
/-! L_lineAt -/
abbrev iL_lineAt : g_I := (RL, yL_lineAt, cL_lineAt, 4, (some .int), [(0, 9, 12, 13)], { frames := 7, cells := 1, slots := 6, locals := 129 })
set_option maxRecDepth 100000 in
set_option maxHeartbeats 4000000 in
theorem vL_lineAt {G : g_G} {X : g_X} {Q : g_R → g_Hp → Prop} (C : g_Cx y_ G X iL_lineAt) (p1 : Int32) (h : g_Hp) (H : wL_lineAt p1 h Q) : g_V G X iL_lineAt 1 6 Q 0 0 0 [(0, vR 0 0 0), (1, vI p1), (2, vR 15 0 0)] [] h := by
  refine s_aload_n (pc := 0) C dL_lineAt_0 rfl 2 rfl ?_
  refine s_iconst (pc := 1) C dL_lineAt_1 (x := (0 : Int32)) (by decide) ?_
  refine s_aload_n (pc := 2) C dL_lineAt_2 rfl 0 rfl ?_
  refine s_iload_n (pc := 3) C dL_lineAt_3 rfl 1 rfl ?_
  refine s_callv (pc := 4) (nA := 1) (as := [vI p1]) (st := [vI (0 : Int32), vR 15 0 0]) (stk := [vI p1, vR 0 0 0, vI (0 : Int32), vR 15 0 0]) ckX7 (Or.inl rfl) C (fun l hl => ctX7_lineAt l hl p1 _ _ H) ⟨⟨kw_1470, kw_58, kw_1473⟩, rfl, ⟨by decide, by decide, by decide +kernel⟩, by decide, by decide⟩ kw_1471 (g_selW kw_1472) rfl (Nat.le_of_ble_eq_true rfl) ⟨by decide, by decide⟩ rfl dL_lineAt_4 (g_Kq_I (fun u2 h1 H => ?_) (fun E h1 H => ?_))
  · refine s_i2l (pc := 7) C dL_lineAt_7 ?_
    refine s_last0 (pc := 8) (y := u2) C dL_lineAt_8 ?_
    refine s_name (fun h3 eh3 => ?_)
    have H := H h3 eh3
    refine s_goto (pc := 9) (tgt := 15) C dL_lineAt_9 (by decide) ?_
    refine s_iconst (pc := 15) C dL_lineAt_15 (x := (0 : Int32)) (by decide) ?_
    exact s_iret (pc := 16) rfl rfl ⟨by decide, by decide⟩ H C dL_lineAt_16
  · obtain ⟨rfl, H⟩ := H
    refine s_catch (E := "java/lang/IndexOutOfBoundsException") (name := "java/lang/IndexOutOfBoundsException") [] (0, 9, 12, 13) [] rfl (by decide) (g_pre_nil) (by decide) kw_553 (cs_mem ("java/lang/IndexOutOfBoundsException", "java/lang/IndexOutOfBoundsException") (by decide +kernel)) C (fun q9 => ?_)
    refine s_astoreQ_n (pc := 12) (ls' := [(3, vV (.ref q9)), (0, vR 0 0 0), (1, vI p1), (2, vR 15 0 0)]) C dL_lineAt_12 rfl (by decide) rfl ?_
    refine s_iconst (pc := 13) C dL_lineAt_13 (x := (1 : Int32)) (by decide) ?_
    exact s_iret (pc := 14) rfl rfl ⟨by decide, by decide⟩ H C dL_lineAt_14
theorem ctL_lineAt (l : Launch) (hl : l.stackTraces = false) {G : g_G} (p1 : Int32) (h : g_Hp) (Q : g_R → g_Hp → Prop) (H : wL_lineAt p1 h Q) : g_Met l y_ G iL_lineAt [vR 0 0 0, vI p1, vR 15 0 0] h Q :=
  g_Met_ofH hl (by decide +kernel) rfl rfl (Nat.le_of_ble_eq_true rfl) (fun X C => vL_lineAt C p1 h H)
