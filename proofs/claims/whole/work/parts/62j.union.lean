/-! X7_fundedShifts -/
abbrev iX7_fundedShifts : g_I := (RX7, yX7_fundedShifts, cX7_fundedShifts, 1, (some .int), [], { frames := 7, cells := 1, slots := 6, locals := 115 })
set_option maxRecDepth 100000 in
set_option maxHeartbeats 4000000 in
theorem vX7_fundedShifts {G : g_G} {X : g_X} {Q : g_R → g_Hp → Prop} (C : g_Cx y_ G X iX7_fundedShifts) (h : g_Hp) (H : wX7_fundedShifts h Q) : g_V G X iX7_fundedShifts 1 6 Q 0 0 0 [(0, vR 0 0 0)] [] h := by
  refine s_aload_n (pc := 0) C dX7_fundedShifts_0 rfl 0 rfl ?_
  refine s_callv (pc := 1) (nA := 0) (as := []) (st := []) (stk := [vR 0 0 0]) ckX7 (Or.inl rfl) C (fun l hl => ctX7_requireMembers l hl _ _ H) ⟨⟨kw_506, kw_58, kw_509⟩, rfl, ⟨by decide, by decide, by decide +kernel⟩, by decide, by decide⟩ kw_508 (g_selW kw_2) rfl (Nat.le_of_ble_eq_true rfl) ⟨by decide, by decide⟩ rfl dX7_fundedShifts_1 (g_Kq_V (fun h1 H => ?_) (fun E h1 H => s_prop rfl ⟨by decide, by decide⟩ H C))
  refine s_aload_n (pc := 4) C dX7_fundedShifts_4 rfl 0 rfl ?_
  refine s_getr (pc := 5) (s := 0) (a := 1) (b := 0) (c' := 0) ckX7 (by decide) kw_300 rfl C dX7_fundedShifts_5 ?_
  refine s_callv (pc := 8) (nA := 0) (as := []) (st := []) (stk := [vR 1 0 0]) ckX1 (Or.inl rfl) C (fun l hl => ctX1_divideFund l hl 0 _ _ H) ⟨⟨kw_526, kw_59, kw_529⟩, rfl, ⟨by decide, by decide, by decide +kernel⟩, by decide, by decide⟩ kw_527 (g_selW kw_528) rfl (Nat.le_of_ble_eq_true rfl) ⟨by decide, by decide⟩ rfl dX7_fundedShifts_8 (g_Kq_I (fun u3 h2 H => ?_) (fun E h2 H => s_prop rfl ⟨by decide, by decide⟩ H C))
  exact s_iret (pc := 11) rfl rfl ⟨by decide, by decide⟩ H C dX7_fundedShifts_11
theorem ctX7_fundedShifts (l : Launch) (hl : l.stackTraces = false) {G : g_G} (h : g_Hp) (Q : g_R → g_Hp → Prop) (H : wX7_fundedShifts h Q) : g_Met l y_ G iX7_fundedShifts [vR 0 0 0] h Q :=
  g_Met_of hl (by decide +kernel) rfl rfl (Nat.le_of_ble_eq_true rfl) (fun X C => vX7_fundedShifts C h H)
/-! X7_fundedShiftsByPaying -/
abbrev iX7_fundedShiftsByPaying : g_I := (RX7, yX7_fundedShiftsByPaying, cX7_fundedShiftsByPaying, 1, (some .int), [], { frames := 7, cells := 1, slots := 6, locals := 115 })
set_option maxRecDepth 100000 in
set_option maxHeartbeats 4000000 in
theorem vX7_fundedShiftsByPaying {G : g_G} {X : g_X} {Q : g_R → g_Hp → Prop} (C : g_Cx y_ G X iX7_fundedShiftsByPaying) (h : g_Hp) (H : wX7_fundedShiftsByPaying h Q) : g_V G X iX7_fundedShiftsByPaying 1 6 Q 0 0 0 [(0, vR 0 0 0)] [] h := by
  refine s_aload_n (pc := 0) C dX7_fundedShiftsByPaying_0 rfl 0 rfl ?_
  refine s_callv (pc := 1) (nA := 0) (as := []) (st := []) (stk := [vR 0 0 0]) ckX7 (Or.inl rfl) C (fun l hl => ctX7_requireMembers l hl _ _ H) ⟨⟨kw_506, kw_58, kw_509⟩, rfl, ⟨by decide, by decide, by decide +kernel⟩, by decide, by decide⟩ kw_508 (g_selW kw_2) rfl (Nat.le_of_ble_eq_true rfl) ⟨by decide, by decide⟩ rfl dX7_fundedShiftsByPaying_1 (g_Kq_V (fun h1 H => ?_) (fun E h1 H => s_prop rfl ⟨by decide, by decide⟩ H C))
  refine s_aload_n (pc := 4) C dX7_fundedShiftsByPaying_4 rfl 0 rfl ?_
  refine s_getr (pc := 5) (s := 0) (a := 1) (b := 0) (c' := 0) ckX7 (by decide) kw_300 rfl C dX7_fundedShiftsByPaying_5 ?_
  refine s_callv (pc := 8) (nA := 0) (as := []) (st := []) (stk := [vR 1 0 0]) ckX1 (Or.inl rfl) C (fun l hl => ctX1_payOutCopyOfFund l hl 0 _ _ H) ⟨⟨kw_534, kw_59, kw_537⟩, rfl, ⟨by decide, by decide, by decide +kernel⟩, by decide, by decide⟩ kw_535 (g_selW kw_536) rfl (Nat.le_of_ble_eq_true rfl) ⟨by decide, by decide⟩ rfl dX7_fundedShiftsByPaying_8 (g_Kq_I (fun u3 h2 H => ?_) (fun E h2 H => s_prop rfl ⟨by decide, by decide⟩ H C))
  exact s_iret (pc := 11) rfl rfl ⟨by decide, by decide⟩ H C dX7_fundedShiftsByPaying_11
theorem ctX7_fundedShiftsByPaying (l : Launch) (hl : l.stackTraces = false) {G : g_G} (h : g_Hp) (Q : g_R → g_Hp → Prop) (H : wX7_fundedShiftsByPaying h Q) : g_Met l y_ G iX7_fundedShiftsByPaying [vR 0 0 0] h Q :=
  g_Met_of hl (by decide +kernel) rfl rfl (Nat.le_of_ble_eq_true rfl) (fun X C => vX7_fundedShiftsByPaying C h H)
/-! X7_signUp -/
abbrev iX7_signUp : g_I := (RX7, yX7_signUp, cX7_signUp, 4, (some .int), [], { frames := 7, cells := 1, slots := 6, locals := 115 })
set_option maxRecDepth 100000 in
set_option maxHeartbeats 4000000 in
theorem vX7_signUp {G : g_G} {X : g_X} {Q : g_R → g_Hp → Prop} (C : g_Cx y_ G X iX7_signUp) (p0 : Int32) (p1 : Int32) (h : g_Hp) (H : wX7_signUp p0 p1 h Q) : g_V G X iX7_signUp 1 6 Q 0 0 0 [(0, vR 0 0 0), (1, vI p0), (2, vI p1)] [] h := by
  refine s_aload_n (pc := 0) C dX7_signUp_0 rfl 0 rfl ?_
  refine s_getr (pc := 1) (s := 0) (a := 1) (b := 0) (c' := 0) ckX7 (by decide) kw_300 rfl C dX7_signUp_1 ?_
  refine s_iload_n (pc := 4) C dX7_signUp_4 rfl 1 rfl ?_
  refine s_iload_n (pc := 5) C dX7_signUp_5 rfl 2 rfl ?_
  refine s_callv (pc := 6) (nA := 2) (as := [vI p0, vI p1]) (st := []) (stk := [vI p1, vI p0, vR 1 0 0]) ckX1 (Or.inl rfl) C (fun l hl => ctX1_faultOfSigning l hl 0 p0 p1 _ _ H) ⟨⟨kw_918, kw_59, kw_921⟩, rfl, ⟨by decide, by decide, by decide +kernel⟩, by decide, by decide⟩ kw_919 (g_selW kw_920) rfl (Nat.le_of_ble_eq_true rfl) ⟨by decide, by decide⟩ rfl dX7_signUp_6 (g_Kq_R (fun i2 j3 h1 H => ?_) (fun E h1 H => s_prop rfl ⟨by decide, by decide⟩ H C))
  refine s_calls (pc := 9) (nA := 1) (as := [vR 20 i2 j3]) (st := []) (stk := [vR 20 i2 j3]) C (fun l hl => ctX7_refuse l hl i2 j3 _ _ H) ⟨⟨kw_595, kw_58, kw_597⟩, rfl, ⟨by decide, by decide, by decide +kernel⟩, by decide, by decide⟩ kw_596 rfl (Nat.le_of_ble_eq_true rfl) ⟨by decide, by decide⟩ rfl dX7_signUp_9 (g_Kq_V (fun h4 H => ?_) (fun E h4 H => s_prop rfl ⟨by decide, by decide⟩ H C))
  refine s_aload_n (pc := 12) C dX7_signUp_12 rfl 0 rfl ?_
  refine s_callv (pc := 13) (nA := 0) (as := []) (st := []) (stk := [vR 0 0 0]) ckX7 (Or.inl rfl) C (fun l hl => ctX7_beginChange l hl _ _ H) ⟨⟨kw_671, kw_58, kw_674⟩, rfl, ⟨by decide, by decide, by decide +kernel⟩, by decide, by decide⟩ kw_673 (g_selW kw_3) rfl (Nat.le_of_ble_eq_true rfl) ⟨by decide, by decide⟩ rfl dX7_signUp_13 (g_Kq_V (fun h5 H => ?_) (fun E h5 H => s_prop rfl ⟨by decide, by decide⟩ H C))
  refine s_aload_n (pc := 16) C dX7_signUp_16 rfl 0 rfl ?_
  refine s_getr (pc := 17) (s := 0) (a := 1) (b := 0) (c' := 0) ckX7 (by decide) kw_300 rfl C dX7_signUp_17 ?_
  refine s_iload_n (pc := 20) C dX7_signUp_20 rfl 1 rfl ?_
  refine s_iload_n (pc := 21) C dX7_signUp_21 rfl 2 rfl ?_
  refine s_callv (pc := 22) (nA := 2) (as := [vI p0, vI p1]) (st := []) (stk := [vI p1, vI p0, vR 1 0 0]) ckX1 (Or.inl rfl) C (fun l hl => ctX1_putOnList l hl 0 p0 p1 _ _ H) ⟨⟨kw_922, kw_59, kw_925⟩, rfl, ⟨by decide, by decide, by decide +kernel⟩, by decide, by decide⟩ kw_923 (g_selW kw_924) rfl (Nat.le_of_ble_eq_true rfl) ⟨by decide, by decide⟩ rfl dX7_signUp_22 (g_Kq_I (fun u7 h6 H => ?_) (fun E h6 H => s_prop rfl ⟨by decide, by decide⟩ H C))
  refine s_istore_n (pc := 25) (ls' := [(3, vI u7), (0, vR 0 0 0), (1, vI p0), (2, vI p1)]) C dX7_signUp_25 rfl (by decide) rfl ?_
  refine s_aload_n (pc := 26) C dX7_signUp_26 rfl 1 rfl ?_
  refine s_callv (pc := 27) (nA := 0) (as := []) (st := []) (stk := [vR 0 0 0]) ckX7 (Or.inl rfl) C (fun l hl => ctX7_endChange l hl _ _ H) ⟨⟨kw_683, kw_58, kw_686⟩, rfl, ⟨by decide, by decide, by decide +kernel⟩, by decide, by decide⟩ kw_685 (g_selW kw_4) rfl (Nat.le_of_ble_eq_true rfl) ⟨by decide, by decide⟩ rfl dX7_signUp_27 (g_Kq_V (fun h8 H => ?_) (fun E h8 H => s_prop rfl ⟨by decide, by decide⟩ H C))
  refine s_iload_n (pc := 30) C dX7_signUp_30 rfl 0 rfl ?_
  exact s_iret (pc := 31) rfl rfl ⟨by decide, by decide⟩ H C dX7_signUp_31
theorem ctX7_signUp (l : Launch) (hl : l.stackTraces = false) {G : g_G} (p0 : Int32) (p1 : Int32) (h : g_Hp) (Q : g_R → g_Hp → Prop) (H : wX7_signUp p0 p1 h Q) : g_Met l y_ G iX7_signUp [vR 0 0 0, vI p0, vI p1] h Q :=
  g_Met_of hl (by decide +kernel) rfl rfl (Nat.le_of_ble_eq_true rfl) (fun X C => vX7_signUp C p0 p1 h H)
/-! X7_strikeOff -/
abbrev iX7_strikeOff : g_I := (RX7, yX7_strikeOff, cX7_strikeOff, 3, (some .int), [], { frames := 7, cells := 1, slots := 6, locals := 115 })
set_option maxRecDepth 100000 in
set_option maxHeartbeats 4000000 in
theorem vX7_strikeOff {G : g_G} {X : g_X} {Q : g_R → g_Hp → Prop} (C : g_Cx y_ G X iX7_strikeOff) (p0 : Int32) (h : g_Hp) (H : wX7_strikeOff p0 h Q) : g_V G X iX7_strikeOff 1 6 Q 0 0 0 [(0, vR 0 0 0), (1, vI p0)] [] h := by
  refine s_aload_n (pc := 0) C dX7_strikeOff_0 rfl 0 rfl ?_
  refine s_getr (pc := 1) (s := 0) (a := 1) (b := 0) (c' := 0) ckX7 (by decide) kw_300 rfl C dX7_strikeOff_1 ?_
  refine s_iload_n (pc := 4) C dX7_strikeOff_4 rfl 1 rfl ?_
  refine s_callv (pc := 5) (nA := 1) (as := [vI p0]) (st := []) (stk := [vI p0, vR 1 0 0]) ckX1 (Or.inl rfl) C (fun l hl => ctX1_faultOfStrikingOff l hl 0 p0 _ _ H) ⟨⟨kw_933, kw_59, kw_936⟩, rfl, ⟨by decide, by decide, by decide +kernel⟩, by decide, by decide⟩ kw_934 (g_selW kw_935) rfl (Nat.le_of_ble_eq_true rfl) ⟨by decide, by decide⟩ rfl dX7_strikeOff_5 (g_Kq_R (fun i2 j3 h1 H => ?_) (fun E h1 H => s_prop rfl ⟨by decide, by decide⟩ H C))
  refine s_calls (pc := 8) (nA := 1) (as := [vR 20 i2 j3]) (st := []) (stk := [vR 20 i2 j3]) C (fun l hl => ctX7_refuse l hl i2 j3 _ _ H) ⟨⟨kw_595, kw_58, kw_597⟩, rfl, ⟨by decide, by decide, by decide +kernel⟩, by decide, by decide⟩ kw_596 rfl (Nat.le_of_ble_eq_true rfl) ⟨by decide, by decide⟩ rfl dX7_strikeOff_8 (g_Kq_V (fun h4 H => ?_) (fun E h4 H => s_prop rfl ⟨by decide, by decide⟩ H C))
  refine s_aload_n (pc := 11) C dX7_strikeOff_11 rfl 0 rfl ?_
  refine s_callv (pc := 12) (nA := 0) (as := []) (st := []) (stk := [vR 0 0 0]) ckX7 (Or.inl rfl) C (fun l hl => ctX7_beginChange l hl _ _ H) ⟨⟨kw_671, kw_58, kw_674⟩, rfl, ⟨by decide, by decide, by decide +kernel⟩, by decide, by decide⟩ kw_673 (g_selW kw_3) rfl (Nat.le_of_ble_eq_true rfl) ⟨by decide, by decide⟩ rfl dX7_strikeOff_12 (g_Kq_V (fun h5 H => ?_) (fun E h5 H => s_prop rfl ⟨by decide, by decide⟩ H C))
  refine s_aload_n (pc := 15) C dX7_strikeOff_15 rfl 0 rfl ?_
  refine s_getr (pc := 16) (s := 0) (a := 1) (b := 0) (c' := 0) ckX7 (by decide) kw_300 rfl C dX7_strikeOff_16 ?_
  refine s_iload_n (pc := 19) C dX7_strikeOff_19 rfl 1 rfl ?_
  refine s_callv (pc := 20) (nA := 1) (as := [vI p0]) (st := []) (stk := [vI p0, vR 1 0 0]) ckX1 (Or.inl rfl) C (fun l hl => ctX1_takeOffList l hl 0 p0 _ _ H) ⟨⟨kw_939, kw_59, kw_942⟩, rfl, ⟨by decide, by decide, by decide +kernel⟩, by decide, by decide⟩ kw_940 (g_selW kw_941) rfl (Nat.le_of_ble_eq_true rfl) ⟨by decide, by decide⟩ rfl dX7_strikeOff_20 (g_Kq_I (fun u7 h6 H => ?_) (fun E h6 H => s_prop rfl ⟨by decide, by decide⟩ H C))
  refine s_istore_n (pc := 23) (ls' := [(2, vI u7), (0, vR 0 0 0), (1, vI p0)]) C dX7_strikeOff_23 rfl (by decide) rfl ?_
  refine s_aload_n (pc := 24) C dX7_strikeOff_24 rfl 1 rfl ?_
  refine s_callv (pc := 25) (nA := 0) (as := []) (st := []) (stk := [vR 0 0 0]) ckX7 (Or.inl rfl) C (fun l hl => ctX7_endChange l hl _ _ H) ⟨⟨kw_683, kw_58, kw_686⟩, rfl, ⟨by decide, by decide, by decide +kernel⟩, by decide, by decide⟩ kw_685 (g_selW kw_4) rfl (Nat.le_of_ble_eq_true rfl) ⟨by decide, by decide⟩ rfl dX7_strikeOff_25 (g_Kq_V (fun h8 H => ?_) (fun E h8 H => s_prop rfl ⟨by decide, by decide⟩ H C))
  refine s_iload_n (pc := 28) C dX7_strikeOff_28 rfl 0 rfl ?_
  exact s_iret (pc := 29) rfl rfl ⟨by decide, by decide⟩ H C dX7_strikeOff_29
theorem ctX7_strikeOff (l : Launch) (hl : l.stackTraces = false) {G : g_G} (p0 : Int32) (h : g_Hp) (Q : g_R → g_Hp → Prop) (H : wX7_strikeOff p0 h Q) : g_Met l y_ G iX7_strikeOff [vR 0 0 0, vI p0] h Q :=
  g_Met_of hl (by decide +kernel) rfl rfl (Nat.le_of_ble_eq_true rfl) (fun X C => vX7_strikeOff C p0 h H)
/-! X7_listLength -/
abbrev iX7_listLength : g_I := (RX7, yX7_listLength, cX7_listLength, 2, (some .int), [], { frames := 7, cells := 1, slots := 6, locals := 115 })
set_option maxRecDepth 100000 in
set_option maxHeartbeats 4000000 in
theorem vX7_listLength {G : g_G} {X : g_X} {Q : g_R → g_Hp → Prop} (C : g_Cx y_ G X iX7_listLength) (p0 : Int32) (h : g_Hp) (H : wX7_listLength p0 h Q) : g_V G X iX7_listLength 1 6 Q 0 0 0 [(0, vR 0 0 0), (1, vI p0)] [] h := by
  refine s_iload_n (pc := 0) C dX7_listLength_0 rfl 1 rfl ?_
  refine s_calls (pc := 1) (nA := 1) (as := [vI p0]) (st := []) (stk := [vI p0]) C (fun l hl => ctX7_requireRoof l hl p0 _ _ H) ⟨⟨kw_701, kw_58, kw_703⟩, rfl, ⟨by decide, by decide, by decide +kernel⟩, by decide, by decide⟩ kw_702 rfl (Nat.le_of_ble_eq_true rfl) ⟨by decide, by decide⟩ rfl dX7_listLength_1 (g_Kq_V (fun h1 H => ?_) (fun E h1 H => s_prop rfl ⟨by decide, by decide⟩ H C))
  refine s_aload_n (pc := 4) C dX7_listLength_4 rfl 0 rfl ?_
  refine s_getr (pc := 5) (s := 0) (a := 1) (b := 0) (c' := 0) ckX7 (by decide) kw_300 rfl C dX7_listLength_5 ?_
  refine s_iload_n (pc := 8) C dX7_listLength_8 rfl 1 rfl ?_
  refine s_callv (pc := 9) (nA := 1) (as := [vI p0]) (st := []) (stk := [vI p0, vR 1 0 0]) ckX1 (Or.inl rfl) C (fun l hl => ctX1_countOnList l hl 0 p0 _ _ H) ⟨⟨kw_950, kw_59, kw_831⟩, rfl, ⟨by decide, by decide, by decide +kernel⟩, by decide, by decide⟩ kw_829 (g_selW kw_830) rfl (Nat.le_of_ble_eq_true rfl) ⟨by decide, by decide⟩ rfl dX7_listLength_9 (g_Kq_I (fun u3 h2 H => ?_) (fun E h2 H => s_prop rfl ⟨by decide, by decide⟩ H C))
  exact s_iret (pc := 12) rfl rfl ⟨by decide, by decide⟩ H C dX7_listLength_12
theorem ctX7_listLength (l : Launch) (hl : l.stackTraces = false) {G : g_G} (p0 : Int32) (h : g_Hp) (Q : g_R → g_Hp → Prop) (H : wX7_listLength p0 h Q) : g_Met l y_ G iX7_listLength [vR 0 0 0, vI p0] h Q :=
  g_Met_of hl (by decide +kernel) rfl rfl (Nat.le_of_ble_eq_true rfl) (fun X C => vX7_listLength C p0 h H)
/-! X7_listedAt -/
abbrev iX7_listedAt : g_I := (RX7, yX7_listedAt, cX7_listedAt, 4, (some .int), [], { frames := 7, cells := 2, slots := 12, locals := 115 })
set_option maxRecDepth 100000 in
set_option maxHeartbeats 4000000 in
theorem vX7_listedAt {G : g_G} {X : g_X} {Q : g_R → g_Hp → Prop} (C : g_Cx y_ G X iX7_listedAt) (p0 : Int32) (p1 : Int32) (h : g_Hp) (H : wX7_listedAt p0 p1 h Q) : g_V G X iX7_listedAt 2 12 Q 0 0 0 [(0, vR 0 0 0), (1, vI p0), (2, vI p1)] [] h := by
  refine s_iload_n (pc := 0) C dX7_listedAt_0 rfl 1 rfl ?_
  refine s_calls (pc := 1) (nA := 1) (as := [vI p0]) (st := []) (stk := [vI p0]) C (fun l hl => ctX7_requireRoof l hl p0 _ _ H) ⟨⟨kw_701, kw_58, kw_703⟩, rfl, ⟨by decide, by decide, by decide +kernel⟩, by decide, by decide⟩ kw_702 rfl (Nat.le_of_ble_eq_true rfl) ⟨by decide, by decide⟩ rfl dX7_listedAt_1 (g_Kq_V (fun h1 H => ?_) (fun E h1 H => s_prop rfl ⟨by decide, by decide⟩ H C))
  refine s_aload_n (pc := 4) C dX7_listedAt_4 rfl 0 rfl ?_
  refine s_getr (pc := 5) (s := 0) (a := 1) (b := 0) (c' := 0) ckX7 (by decide) kw_300 rfl C dX7_listedAt_5 ?_
  refine s_iload_n (pc := 8) C dX7_listedAt_8 rfl 1 rfl ?_
  refine s_iload_n (pc := 9) C dX7_listedAt_9 rfl 2 rfl ?_
  refine s_callv (pc := 10) (nA := 2) (as := [vI p0, vI p1]) (st := []) (stk := [vI p1, vI p0, vR 1 0 0]) ckX1 (Or.inl rfl) C (fun l hl => ctX1_findOnList l hl 0 p0 p1 _ _ H) ⟨⟨kw_958, kw_59, kw_961⟩, rfl, ⟨by decide, by decide, by decide +kernel⟩, by decide, by decide⟩ kw_959 (g_selW kw_960) rfl (Nat.le_of_ble_eq_true rfl) ⟨by decide, by decide⟩ rfl dX7_listedAt_10 (g_Kq_I (fun u3 h2 H => ?_) (fun E h2 H => s_prop rfl ⟨by decide, by decide⟩ H C))
  refine s_istore_n (pc := 13) (ls' := [(3, vI u3), (0, vR 0 0 0), (1, vI p0), (2, vI p1)]) C dX7_listedAt_13 rfl (by decide) rfl ?_
  refine s_iload_n (pc := 14) C dX7_listedAt_14 rfl 0 rfl ?_
  refine s_iconst (pc := 15) C dX7_listedAt_15 (x := (-1 : Int32)) (by decide) ?_
  refine s_icmp_ne (pc := 16) (tgt := 29) C dX7_listedAt_16 (by decide) (fun c => ?_) (fun c => ?_)
  · have H := H.1 c
    refine s_iload_n (pc := 29) C dX7_listedAt_29 rfl 0 rfl ?_
    exact s_iret (pc := 30) rfl rfl ⟨by decide, by decide⟩ H C dX7_listedAt_30
  · have H := H.2 c
    exact s_throwSN (pc := 19) tn_nse ss_RX7_208 rfl rfl ⟨by decide, Nat.le_of_ble_eq_true rfl, by decide, by decide⟩ ⟨by decide, by decide⟩ H C dX7_listedAt_19 dX7_listedAt_22 dX7_listedAt_23 dX7_listedAt_25 dX7_listedAt_28
theorem ctX7_listedAt (l : Launch) (hl : l.stackTraces = false) {G : g_G} (p0 : Int32) (p1 : Int32) (h : g_Hp) (Q : g_R → g_Hp → Prop) (H : wX7_listedAt p0 p1 h Q) : g_Met l y_ G iX7_listedAt [vR 0 0 0, vI p0, vI p1] h Q :=
  g_Met_of hl (by decide +kernel) rfl rfl (Nat.le_of_ble_eq_true rfl) (fun X C => vX7_listedAt C p0 p1 h H)
/-! X7_listOf -/
abbrev iX7_listOf : g_I := (RX7, yX7_listOf, cX7_listOf, 3, (some .int), [], { frames := 7, cells := 2, slots := 12, locals := 116 })
set_option maxRecDepth 100000 in
set_option maxHeartbeats 4000000 in
theorem vX7_listOf {G : g_G} {X : g_X} {Q : g_R → g_Hp → Prop} (C : g_Cx y_ G X iX7_listOf) (p0 : Int32) (h : g_Hp) (H : wX7_listOf p0 h Q) : g_V G X iX7_listOf 2 12 Q 0 0 0 [(0, vR 0 0 0), (1, vI p0)] [] h := by
  refine s_aload_n (pc := 0) C dX7_listOf_0 rfl 0 rfl ?_
  refine s_iload_n (pc := 1) C dX7_listOf_1 rfl 1 rfl ?_
  refine s_callv (pc := 2) (nA := 1) (as := [vI p0]) (st := []) (stk := [vI p0, vR 0 0 0]) ckX7 (Or.inl rfl) C (fun l hl => ctX7_existing l hl p0 _ _ H) ⟨⟨kw_407, kw_58, kw_410⟩, rfl, ⟨by decide, by decide, by decide +kernel⟩, by decide, by decide⟩ kw_409 (g_selW kw_0) rfl (Nat.le_of_ble_eq_true rfl) ⟨by decide, by decide⟩ rfl dX7_listOf_2 (g_Kq_R (fun i2 j3 h1 H => ?_) (fun E h1 H => s_prop rfl ⟨by decide, by decide⟩ H C))
  refine s_geti (pc := 5) (s := 9) ckX6 (Or.inl rfl) (by decide) kw_140 (fun _ => rfl) C dX7_listOf_5 ?_
  refine s_namei (fun y4 ey4 => ?_)
  have H := H y4 ey4
  refine s_istore_n (pc := 8) (ls' := [(2, vI y4), (0, vR 0 0 0), (1, vI p0)]) C dX7_listOf_8 rfl (by decide) rfl ?_
  refine s_iload_n (pc := 9) C dX7_listOf_9 rfl 0 rfl ?_
  refine s_iconst (pc := 10) C dX7_listOf_10 (x := (-1 : Int32)) (by decide) ?_
  refine s_icmp_ne (pc := 11) (tgt := 24) C dX7_listOf_11 (by decide) (fun c => ?_) (fun c => ?_)
  · have H := H.1 c
    refine s_iload_n (pc := 24) C dX7_listOf_24 rfl 0 rfl ?_
    exact s_iret (pc := 25) rfl rfl ⟨by decide, by decide⟩ H C dX7_listOf_25
  · have H := H.2 c
    exact s_throwSN (pc := 14) tn_nse ss_RX7_213 rfl rfl ⟨by decide, Nat.le_of_ble_eq_true rfl, by decide, by decide⟩ ⟨by decide, by decide⟩ H C dX7_listOf_14 dX7_listOf_17 dX7_listOf_18 dX7_listOf_20 dX7_listOf_23
theorem ctX7_listOf (l : Launch) (hl : l.stackTraces = false) {G : g_G} (p0 : Int32) (h : g_Hp) (Q : g_R → g_Hp → Prop) (H : wX7_listOf p0 h Q) : g_Met l y_ G iX7_listOf [vR 0 0 0, vI p0] h Q :=
  g_Met_of hl (by decide +kernel) rfl rfl (Nat.le_of_ble_eq_true rfl) (fun X C => vX7_listOf C p0 h H)
/-! X7_makeOffer -/
abbrev iX7_makeOffer : g_I := (RX7, yX7_makeOffer, cX7_makeOffer, 3, (some .int), [], { frames := 7, cells := 1, slots := 6, locals := 115 })
set_option maxRecDepth 100000 in
set_option maxHeartbeats 4000000 in
theorem vX7_makeOffer {G : g_G} {X : g_X} {Q : g_R → g_Hp → Prop} (C : g_Cx y_ G X iX7_makeOffer) (p0 : Int32) (h : g_Hp) (H : wX7_makeOffer p0 h Q) : g_V G X iX7_makeOffer 1 6 Q 0 0 0 [(0, vR 0 0 0), (1, vI p0)] [] h := by
  refine s_aload_n (pc := 0) C dX7_makeOffer_0 rfl 0 rfl ?_
  refine s_getr (pc := 1) (s := 0) (a := 1) (b := 0) (c' := 0) ckX7 (by decide) kw_300 rfl C dX7_makeOffer_1 ?_
  refine s_iload_n (pc := 4) C dX7_makeOffer_4 rfl 1 rfl ?_
  refine s_callv (pc := 5) (nA := 1) (as := [vI p0]) (st := []) (stk := [vI p0, vR 1 0 0]) ckX1 (Or.inl rfl) C (fun l hl => ctX1_faultOfOffering l hl 0 p0 _ _ H) ⟨⟨kw_978, kw_59, kw_981⟩, rfl, ⟨by decide, by decide, by decide +kernel⟩, by decide, by decide⟩ kw_979 (g_selW kw_980) rfl (Nat.le_of_ble_eq_true rfl) ⟨by decide, by decide⟩ rfl dX7_makeOffer_5 (g_Kq_R (fun i2 j3 h1 H => ?_) (fun E h1 H => s_prop rfl ⟨by decide, by decide⟩ H C))
  refine s_calls (pc := 8) (nA := 1) (as := [vR 20 i2 j3]) (st := []) (stk := [vR 20 i2 j3]) C (fun l hl => ctX7_refuse l hl i2 j3 _ _ H) ⟨⟨kw_595, kw_58, kw_597⟩, rfl, ⟨by decide, by decide, by decide +kernel⟩, by decide, by decide⟩ kw_596 rfl (Nat.le_of_ble_eq_true rfl) ⟨by decide, by decide⟩ rfl dX7_makeOffer_8 (g_Kq_V (fun h4 H => ?_) (fun E h4 H => s_prop rfl ⟨by decide, by decide⟩ H C))
  refine s_aload_n (pc := 11) C dX7_makeOffer_11 rfl 0 rfl ?_
  refine s_callv (pc := 12) (nA := 0) (as := []) (st := []) (stk := [vR 0 0 0]) ckX7 (Or.inl rfl) C (fun l hl => ctX7_beginChange l hl _ _ H) ⟨⟨kw_671, kw_58, kw_674⟩, rfl, ⟨by decide, by decide, by decide +kernel⟩, by decide, by decide⟩ kw_673 (g_selW kw_3) rfl (Nat.le_of_ble_eq_true rfl) ⟨by decide, by decide⟩ rfl dX7_makeOffer_12 (g_Kq_V (fun h5 H => ?_) (fun E h5 H => s_prop rfl ⟨by decide, by decide⟩ H C))
  refine s_aload_n (pc := 15) C dX7_makeOffer_15 rfl 0 rfl ?_
  refine s_getr (pc := 16) (s := 0) (a := 1) (b := 0) (c' := 0) ckX7 (by decide) kw_300 rfl C dX7_makeOffer_16 ?_
  refine s_iload_n (pc := 19) C dX7_makeOffer_19 rfl 1 rfl ?_
  refine s_callv (pc := 20) (nA := 1) (as := [vI p0]) (st := []) (stk := [vI p0, vR 1 0 0]) ckX1 (Or.inl rfl) C (fun l hl => ctX1_offer l hl 0 p0 _ _ H) ⟨⟨kw_982, kw_59, kw_985⟩, rfl, ⟨by decide, by decide, by decide +kernel⟩, by decide, by decide⟩ kw_983 (g_selW kw_984) rfl (Nat.le_of_ble_eq_true rfl) ⟨by decide, by decide⟩ rfl dX7_makeOffer_20 (g_Kq_I (fun u7 h6 H => ?_) (fun E h6 H => s_prop rfl ⟨by decide, by decide⟩ H C))
  refine s_istore_n (pc := 23) (ls' := [(2, vI u7), (0, vR 0 0 0), (1, vI p0)]) C dX7_makeOffer_23 rfl (by decide) rfl ?_
  refine s_aload_n (pc := 24) C dX7_makeOffer_24 rfl 1 rfl ?_
  refine s_callv (pc := 25) (nA := 0) (as := []) (st := []) (stk := [vR 0 0 0]) ckX7 (Or.inl rfl) C (fun l hl => ctX7_endChange l hl _ _ H) ⟨⟨kw_683, kw_58, kw_686⟩, rfl, ⟨by decide, by decide, by decide +kernel⟩, by decide, by decide⟩ kw_685 (g_selW kw_4) rfl (Nat.le_of_ble_eq_true rfl) ⟨by decide, by decide⟩ rfl dX7_makeOffer_25 (g_Kq_V (fun h8 H => ?_) (fun E h8 H => s_prop rfl ⟨by decide, by decide⟩ H C))
  refine s_iload_n (pc := 28) C dX7_makeOffer_28 rfl 0 rfl ?_
  exact s_iret (pc := 29) rfl rfl ⟨by decide, by decide⟩ H C dX7_makeOffer_29
theorem ctX7_makeOffer (l : Launch) (hl : l.stackTraces = false) {G : g_G} (p0 : Int32) (h : g_Hp) (Q : g_R → g_Hp → Prop) (H : wX7_makeOffer p0 h Q) : g_Met l y_ G iX7_makeOffer [vR 0 0 0, vI p0] h Q :=
  g_Met_of hl (by decide +kernel) rfl rfl (Nat.le_of_ble_eq_true rfl) (fun X C => vX7_makeOffer C p0 h H)
/-! X7_accept -/
abbrev iX7_accept : g_I := (RX7, yX7_accept, cX7_accept, 3, (some .boolean), [], { frames := 7, cells := 1, slots := 6, locals := 115 })
set_option maxRecDepth 100000 in
set_option maxHeartbeats 4000000 in
theorem vX7_accept {G : g_G} {X : g_X} {Q : g_R → g_Hp → Prop} (C : g_Cx y_ G X iX7_accept) (p0 : Int32) (h : g_Hp) (H : wX7_accept p0 h Q) : g_V G X iX7_accept 1 6 Q 0 0 0 [(0, vR 0 0 0), (1, vI p0)] [] h := by
  refine s_aload_n (pc := 0) C dX7_accept_0 rfl 0 rfl ?_
  refine s_getr (pc := 1) (s := 0) (a := 1) (b := 0) (c' := 0) ckX7 (by decide) kw_300 rfl C dX7_accept_1 ?_
  refine s_iload_n (pc := 4) C dX7_accept_4 rfl 1 rfl ?_
  refine s_callv (pc := 5) (nA := 1) (as := [vI p0]) (st := []) (stk := [vI p0, vR 1 0 0]) ckX1 (Or.inl rfl) C (fun l hl => ctX1_faultOfAccepting l hl 0 p0 _ _ H) ⟨⟨kw_997, kw_59, kw_1000⟩, rfl, ⟨by decide, by decide, by decide +kernel⟩, by decide, by decide⟩ kw_998 (g_selW kw_999) rfl (Nat.le_of_ble_eq_true rfl) ⟨by decide, by decide⟩ rfl dX7_accept_5 (g_Kq_R (fun i2 j3 h1 H => ?_) (fun E h1 H => s_prop rfl ⟨by decide, by decide⟩ H C))
  refine s_calls (pc := 8) (nA := 1) (as := [vR 20 i2 j3]) (st := []) (stk := [vR 20 i2 j3]) C (fun l hl => ctX7_refuse l hl i2 j3 _ _ H) ⟨⟨kw_595, kw_58, kw_597⟩, rfl, ⟨by decide, by decide, by decide +kernel⟩, by decide, by decide⟩ kw_596 rfl (Nat.le_of_ble_eq_true rfl) ⟨by decide, by decide⟩ rfl dX7_accept_8 (g_Kq_V (fun h4 H => ?_) (fun E h4 H => s_prop rfl ⟨by decide, by decide⟩ H C))
  refine s_aload_n (pc := 11) C dX7_accept_11 rfl 0 rfl ?_
  refine s_callv (pc := 12) (nA := 0) (as := []) (st := []) (stk := [vR 0 0 0]) ckX7 (Or.inl rfl) C (fun l hl => ctX7_beginChange l hl _ _ H) ⟨⟨kw_671, kw_58, kw_674⟩, rfl, ⟨by decide, by decide, by decide +kernel⟩, by decide, by decide⟩ kw_673 (g_selW kw_3) rfl (Nat.le_of_ble_eq_true rfl) ⟨by decide, by decide⟩ rfl dX7_accept_12 (g_Kq_V (fun h5 H => ?_) (fun E h5 H => s_prop rfl ⟨by decide, by decide⟩ H C))
  refine s_aload_n (pc := 15) C dX7_accept_15 rfl 0 rfl ?_
  refine s_getr (pc := 16) (s := 0) (a := 1) (b := 0) (c' := 0) ckX7 (by decide) kw_300 rfl C dX7_accept_16 ?_
  refine s_iload_n (pc := 19) C dX7_accept_19 rfl 1 rfl ?_
  refine s_callv (pc := 20) (nA := 1) (as := [vI p0]) (st := []) (stk := [vI p0, vR 1 0 0]) ckX1 (Or.inl rfl) C (fun l hl => ctX1_takeAcceptance l hl 0 p0 _ _ H) ⟨⟨kw_1001, kw_59, kw_1004⟩, rfl, ⟨by decide, by decide, by decide +kernel⟩, by decide, by decide⟩ kw_1002 (g_selW kw_1003) rfl (Nat.le_of_ble_eq_true rfl) ⟨by decide, by decide⟩ rfl dX7_accept_20 (g_Kq_I (fun u7 h6 H => ?_) (fun E h6 H => s_prop rfl ⟨by decide, by decide⟩ H C))
  refine s_istore_n (pc := 23) (ls' := [(2, vI u7), (0, vR 0 0 0), (1, vI p0)]) C dX7_accept_23 rfl (by decide) rfl ?_
  refine s_aload_n (pc := 24) C dX7_accept_24 rfl 1 rfl ?_
  refine s_callv (pc := 25) (nA := 0) (as := []) (st := []) (stk := [vR 0 0 0]) ckX7 (Or.inl rfl) C (fun l hl => ctX7_endChange l hl _ _ H) ⟨⟨kw_683, kw_58, kw_686⟩, rfl, ⟨by decide, by decide, by decide +kernel⟩, by decide, by decide⟩ kw_685 (g_selW kw_4) rfl (Nat.le_of_ble_eq_true rfl) ⟨by decide, by decide⟩ rfl dX7_accept_25 (g_Kq_V (fun h8 H => ?_) (fun E h8 H => s_prop rfl ⟨by decide, by decide⟩ H C))
  refine s_iload_n (pc := 28) C dX7_accept_28 rfl 0 rfl ?_
  exact s_iret (pc := 29) rfl (g_nz H.1) ⟨by decide, by decide⟩ H.2 C dX7_accept_29
theorem ctX7_accept (l : Launch) (hl : l.stackTraces = false) {G : g_G} (p0 : Int32) (h : g_Hp) (Q : g_R → g_Hp → Prop) (H : wX7_accept p0 h Q) : g_Met l y_ G iX7_accept [vR 0 0 0, vI p0] h Q :=
  g_Met_of hl (by decide +kernel) rfl rfl (Nat.le_of_ble_eq_true rfl) (fun X C => vX7_accept C p0 h H)
/-! X7_requireOffer -/
abbrev iX7_requireOffer : g_I := (RX7, yX7_requireOffer, cX7_requireOffer, 1, none, [], { frames := 6, cells := 1, slots := 6, locals := 95 })
set_option maxRecDepth 100000 in
set_option maxHeartbeats 4000000 in
theorem vX7_requireOffer {G : g_G} {X : g_X} {Q : g_R → g_Hp → Prop} (C : g_Cx y_ G X iX7_requireOffer) (h : g_Hp) (H : wX7_requireOffer h Q) : g_V G X iX7_requireOffer 1 6 Q 0 0 0 [(0, vR 0 0 0)] [] h := by
  refine s_aload_n (pc := 0) C dX7_requireOffer_0 rfl 0 rfl ?_
  refine s_getr (pc := 1) (s := 0) (a := 1) (b := 0) (c' := 0) ckX7 (by decide) kw_300 rfl C dX7_requireOffer_1 ?_
  refine s_geti (pc := 4) (s := 10) ckX1 (Or.inl rfl) (by decide) kw_186 (fun _ => rfl) C dX7_requireOffer_4 ?_
  refine s_if_ne (pc := 7) (tgt := 21) C dX7_requireOffer_7 (by decide) (fun c => ?_) (fun c => ?_)
  · have H := H.1 c
    exact s_vret (pc := 21) rfl ⟨by decide, by decide⟩ H C dX7_requireOffer_21
  · have H := H.2 c
    exact s_throwWN (pc := 10) tn_nse ss_RX7_363 rfl rfl ⟨by decide, Nat.le_of_ble_eq_true rfl, by decide, by decide⟩ ⟨by decide, by decide⟩ H C dX7_requireOffer_10 dX7_requireOffer_13 dX7_requireOffer_14 dX7_requireOffer_17 dX7_requireOffer_20
theorem ctX7_requireOffer (l : Launch) (hl : l.stackTraces = false) {G : g_G} (h : g_Hp) (Q : g_R → g_Hp → Prop) (H : wX7_requireOffer h Q) : g_Met l y_ G iX7_requireOffer [vR 0 0 0] h Q :=
  g_Met_of hl (by decide +kernel) rfl rfl (Nat.le_of_ble_eq_true rfl) (fun X C => vX7_requireOffer C h H)
/-! X7_offerPercent -/
abbrev iX7_offerPercent : g_I := (RX7, yX7_offerPercent, cX7_offerPercent, 1, (some .int), [], { frames := 7, cells := 1, slots := 6, locals := 115 })
set_option maxRecDepth 100000 in
set_option maxHeartbeats 4000000 in
theorem vX7_offerPercent {G : g_G} {X : g_X} {Q : g_R → g_Hp → Prop} (C : g_Cx y_ G X iX7_offerPercent) (h : g_Hp) (H : wX7_offerPercent h Q) : g_V G X iX7_offerPercent 1 6 Q 0 0 0 [(0, vR 0 0 0)] [] h := by
  refine s_aload_n (pc := 0) C dX7_offerPercent_0 rfl 0 rfl ?_
  refine s_callv (pc := 1) (nA := 0) (as := []) (st := []) (stk := [vR 0 0 0]) ckX7 (Or.inl rfl) C (fun l hl => ctX7_requireOffer l hl _ _ H) ⟨⟨kw_1019, kw_58, kw_1022⟩, rfl, ⟨by decide, by decide, by decide +kernel⟩, by decide, by decide⟩ kw_1021 (g_selW kw_10) rfl (Nat.le_of_ble_eq_true rfl) ⟨by decide, by decide⟩ rfl dX7_offerPercent_1 (g_Kq_V (fun h1 H => ?_) (fun E h1 H => s_prop rfl ⟨by decide, by decide⟩ H C))
  refine s_aload_n (pc := 4) C dX7_offerPercent_4 rfl 0 rfl ?_
  refine s_getr (pc := 5) (s := 0) (a := 1) (b := 0) (c' := 0) ckX7 (by decide) kw_300 rfl C dX7_offerPercent_5 ?_
  refine s_geti (pc := 8) (s := 10) ckX1 (Or.inl rfl) (by decide) kw_186 (fun _ => rfl) C dX7_offerPercent_8 ?_
  exact s_iret (pc := 11) rfl rfl ⟨by decide, by decide⟩ H C dX7_offerPercent_11
theorem ctX7_offerPercent (l : Launch) (hl : l.stackTraces = false) {G : g_G} (h : g_Hp) (Q : g_R → g_Hp → Prop) (H : wX7_offerPercent h Q) : g_Met l y_ G iX7_offerPercent [vR 0 0 0] h Q :=
  g_Met_of hl (by decide +kernel) rfl rfl (Nat.le_of_ble_eq_true rfl) (fun X C => vX7_offerPercent C h H)
/-! X7_acceptances -/
abbrev iX7_acceptances : g_I := (RX7, yX7_acceptances, cX7_acceptances, 1, (some .int), [], { frames := 7, cells := 1, slots := 6, locals := 115 })
set_option maxRecDepth 100000 in
set_option maxHeartbeats 4000000 in
theorem vX7_acceptances {G : g_G} {X : g_X} {Q : g_R → g_Hp → Prop} (C : g_Cx y_ G X iX7_acceptances) (h : g_Hp) (H : wX7_acceptances h Q) : g_V G X iX7_acceptances 1 6 Q 0 0 0 [(0, vR 0 0 0)] [] h := by
  refine s_aload_n (pc := 0) C dX7_acceptances_0 rfl 0 rfl ?_
  refine s_callv (pc := 1) (nA := 0) (as := []) (st := []) (stk := [vR 0 0 0]) ckX7 (Or.inl rfl) C (fun l hl => ctX7_requireOffer l hl _ _ H) ⟨⟨kw_1019, kw_58, kw_1022⟩, rfl, ⟨by decide, by decide, by decide +kernel⟩, by decide, by decide⟩ kw_1021 (g_selW kw_10) rfl (Nat.le_of_ble_eq_true rfl) ⟨by decide, by decide⟩ rfl dX7_acceptances_1 (g_Kq_V (fun h1 H => ?_) (fun E h1 H => s_prop rfl ⟨by decide, by decide⟩ H C))
  refine s_aload_n (pc := 4) C dX7_acceptances_4 rfl 0 rfl ?_
  refine s_getr (pc := 5) (s := 0) (a := 1) (b := 0) (c' := 0) ckX7 (by decide) kw_300 rfl C dX7_acceptances_5 ?_
  refine s_callv (pc := 8) (nA := 0) (as := []) (st := []) (stk := [vR 1 0 0]) ckX1 (Or.inl rfl) C (fun l hl => ctX1_countAcceptances l hl 0 _ _ H) ⟨⟨kw_1031, kw_59, kw_989⟩, rfl, ⟨by decide, by decide, by decide +kernel⟩, by decide, by decide⟩ kw_987 (g_selW kw_988) rfl (Nat.le_of_ble_eq_true rfl) ⟨by decide, by decide⟩ rfl dX7_acceptances_8 (g_Kq_I (fun u3 h2 H => ?_) (fun E h2 H => s_prop rfl ⟨by decide, by decide⟩ H C))
  exact s_iret (pc := 11) rfl rfl ⟨by decide, by decide⟩ H C dX7_acceptances_11
theorem ctX7_acceptances (l : Launch) (hl : l.stackTraces = false) {G : g_G} (h : g_Hp) (Q : g_R → g_Hp → Prop) (H : wX7_acceptances h Q) : g_Met l y_ G iX7_acceptances [vR 0 0 0] h Q :=
  g_Met_of hl (by decide +kernel) rfl rfl (Nat.le_of_ble_eq_true rfl) (fun X C => vX7_acceptances C h H)
/-! X7_offeredRate -/
abbrev iX7_offeredRate : g_I := (RX7, yX7_offeredRate, cX7_offeredRate, 3, (some .int), [], { frames := 7, cells := 2, slots := 12, locals := 116 })
set_option maxRecDepth 100000 in
set_option maxHeartbeats 4000000 in
theorem vX7_offeredRate {G : g_G} {X : g_X} {Q : g_R → g_Hp → Prop} (C : g_Cx y_ G X iX7_offeredRate) (p0 : Int32) (h : g_Hp) (H : wX7_offeredRate p0 h Q) : g_V G X iX7_offeredRate 2 12 Q 0 0 0 [(0, vR 0 0 0), (1, vI p0)] [] h := by
  refine s_aload_n (pc := 0) C dX7_offeredRate_0 rfl 0 rfl ?_
  refine s_iload_n (pc := 1) C dX7_offeredRate_1 rfl 1 rfl ?_
  refine s_callv (pc := 2) (nA := 1) (as := [vI p0]) (st := []) (stk := [vI p0, vR 0 0 0]) ckX7 (Or.inl rfl) C (fun l hl => ctX7_existing l hl p0 _ _ H) ⟨⟨kw_407, kw_58, kw_410⟩, rfl, ⟨by decide, by decide, by decide +kernel⟩, by decide, by decide⟩ kw_409 (g_selW kw_0) rfl (Nat.le_of_ble_eq_true rfl) ⟨by decide, by decide⟩ rfl dX7_offeredRate_2 (g_Kq_R (fun i2 j3 h1 H => ?_) (fun E h1 H => s_prop rfl ⟨by decide, by decide⟩ H C))
  refine s_geti (pc := 5) (s := 1) ckX6 (Or.inl rfl) (by decide) kw_116 (fun _ => rfl) C dX7_offeredRate_5 ?_
  refine s_namei (fun y4 ey4 => ?_)
  have H := H y4 ey4
  refine s_istore_n (pc := 8) (ls' := [(2, vI y4), (0, vR 0 0 0), (1, vI p0)]) C dX7_offeredRate_8 rfl (by decide) rfl ?_
  refine s_aload_n (pc := 9) C dX7_offeredRate_9 rfl 1 rfl ?_
  refine s_callv (pc := 10) (nA := 0) (as := []) (st := []) (stk := [vR 0 0 0]) ckX7 (Or.inl rfl) C (fun l hl => ctX7_requireOffer l hl _ _ H) ⟨⟨kw_1019, kw_58, kw_1022⟩, rfl, ⟨by decide, by decide, by decide +kernel⟩, by decide, by decide⟩ kw_1021 (g_selW kw_10) rfl (Nat.le_of_ble_eq_true rfl) ⟨by decide, by decide⟩ rfl dX7_offeredRate_10 (g_Kq_V (fun h5 H => ?_) (fun E h5 H => s_prop rfl ⟨by decide, by decide⟩ H C))
  refine s_iload_n (pc := 13) C dX7_offeredRate_13 rfl 0 rfl ?_
  refine s_aload_n (pc := 14) C dX7_offeredRate_14 rfl 1 rfl ?_
  refine s_getr (pc := 15) (s := 0) (a := 1) (b := 0) (c' := 0) ckX7 (by decide) kw_300 rfl C dX7_offeredRate_15 ?_
  refine s_geti (pc := 18) (s := 10) ckX1 (Or.inl rfl) (by decide) kw_186 (fun _ => rfl) C dX7_offeredRate_18 ?_
  refine s_calls (pc := 21) (nA := 2) (as := [vI y4, vI (h5 1 0 0 11)]) (st := []) (stk := [vI (h5 1 0 0 11), vI y4]) C (fun l hl => ctX7_raisedRate l hl y4 (h5 1 0 0 11) _ _ H) ⟨⟨kw_1039, kw_58, kw_1011⟩, rfl, ⟨by decide, by decide, by decide +kernel⟩, by decide, by decide⟩ kw_1010 rfl (Nat.le_of_ble_eq_true rfl) ⟨by decide, by decide⟩ rfl dX7_offeredRate_21 (g_Kq_I (fun u7 h6 H => ?_) (fun E h6 H => s_prop rfl ⟨by decide, by decide⟩ H C))
  exact s_iret (pc := 24) rfl rfl ⟨by decide, by decide⟩ H C dX7_offeredRate_24
theorem ctX7_offeredRate (l : Launch) (hl : l.stackTraces = false) {G : g_G} (p0 : Int32) (h : g_Hp) (Q : g_R → g_Hp → Prop) (H : wX7_offeredRate p0 h Q) : g_Met l y_ G iX7_offeredRate [vR 0 0 0, vI p0] h Q :=
  g_Met_of hl (by decide +kernel) rfl rfl (Nat.le_of_ble_eq_true rfl) (fun X C => vX7_offeredRate C p0 h H)
/-! X7_wageTotal -/
abbrev iX7_wageTotal : g_I := (RX7, yX7_wageTotal, cX7_wageTotal, 1, (some .long), [], { frames := 2, cells := 0, slots := 0, locals := 43 })
set_option maxRecDepth 100000 in
set_option maxHeartbeats 4000000 in
theorem vX7_wageTotal {G : g_G} {X : g_X} {Q : g_R → g_Hp → Prop} (C : g_Cx y_ G X iX7_wageTotal) (h : g_Hp) (H : wX7_wageTotal h Q) : g_V G X iX7_wageTotal 0 0 Q 0 0 0 [(0, vR 0 0 0)] [] h := by
  refine s_aload_n (pc := 0) C dX7_wageTotal_0 rfl 0 rfl ?_
  refine s_getr (pc := 1) (s := 0) (a := 1) (b := 0) (c' := 0) ckX7 (by decide) kw_300 rfl C dX7_wageTotal_1 ?_
  refine s_callv (pc := 4) (nA := 0) (as := []) (st := []) (stk := [vR 1 0 0]) ckX1 (Or.inl rfl) C (fun l hl => ctX1_sumWages l hl 0 _ _ H) ⟨⟨kw_371, kw_59, kw_374⟩, rfl, ⟨by decide, by decide, by decide +kernel⟩, by decide, by decide⟩ kw_372 (g_selW kw_373) rfl (Nat.le_of_ble_eq_true rfl) ⟨by decide, by decide⟩ rfl dX7_wageTotal_4 (g_Kq_L (fun u2 h1 H => ?_) (fun E h1 H => s_prop rfl ⟨by decide, by decide⟩ H C))
  exact s_lret (pc := 7) rfl ⟨by decide, by decide⟩ H C dX7_wageTotal_7
theorem ctX7_wageTotal (l : Launch) (hl : l.stackTraces = false) {G : g_G} (h : g_Hp) (Q : g_R → g_Hp → Prop) (H : wX7_wageTotal h Q) : g_Met l y_ G iX7_wageTotal [vR 0 0 0] h Q :=
  g_Met_of hl (by decide +kernel) rfl rfl (Nat.le_of_ble_eq_true rfl) (fun X C => vX7_wageTotal C h H)
/-! X7_lostTotal -/
abbrev iX7_lostTotal : g_I := (RX7, yX7_lostTotal, cX7_lostTotal, 1, (some .int), [], { frames := 2, cells := 0, slots := 0, locals := 42 })
set_option maxRecDepth 100000 in
set_option maxHeartbeats 4000000 in
theorem vX7_lostTotal {G : g_G} {X : g_X} {Q : g_R → g_Hp → Prop} (C : g_Cx y_ G X iX7_lostTotal) (h : g_Hp) (H : wX7_lostTotal h Q) : g_V G X iX7_lostTotal 0 0 Q 0 0 0 [(0, vR 0 0 0)] [] h := by
  refine s_aload_n (pc := 0) C dX7_lostTotal_0 rfl 0 rfl ?_
  refine s_getr (pc := 1) (s := 0) (a := 1) (b := 0) (c' := 0) ckX7 (by decide) kw_300 rfl C dX7_lostTotal_1 ?_
  refine s_callv (pc := 4) (nA := 0) (as := []) (st := []) (stk := [vR 1 0 0]) ckX1 (Or.inl rfl) C (fun l hl => ctX1_sumLostByMembers l hl 0 _ _ H) ⟨⟨kw_379, kw_59, kw_382⟩, rfl, ⟨by decide, by decide, by decide +kernel⟩, by decide, by decide⟩ kw_380 (g_selW kw_381) rfl (Nat.le_of_ble_eq_true rfl) ⟨by decide, by decide⟩ rfl dX7_lostTotal_4 (g_Kq_I (fun u2 h1 H => ?_) (fun E h1 H => s_prop rfl ⟨by decide, by decide⟩ H C))
  exact s_iret (pc := 7) rfl rfl ⟨by decide, by decide⟩ H C dX7_lostTotal_7
theorem ctX7_lostTotal (l : Launch) (hl : l.stackTraces = false) {G : g_G} (h : g_Hp) (Q : g_R → g_Hp → Prop) (H : wX7_lostTotal h Q) : g_Met l y_ G iX7_lostTotal [vR 0 0 0] h Q :=
  g_Met_of hl (by decide +kernel) rfl rfl (Nat.le_of_ble_eq_true rfl) (fun X C => vX7_lostTotal C h H)
/-! X7_lostTotalByRoofs -/
abbrev iX7_lostTotalByRoofs : g_I := (RX7, yX7_lostTotalByRoofs, cX7_lostTotalByRoofs, 1, (some .int), [], { frames := 2, cells := 0, slots := 0, locals := 43 })
set_option maxRecDepth 100000 in
set_option maxHeartbeats 4000000 in
theorem vX7_lostTotalByRoofs {G : g_G} {X : g_X} {Q : g_R → g_Hp → Prop} (C : g_Cx y_ G X iX7_lostTotalByRoofs) (h : g_Hp) (H : wX7_lostTotalByRoofs h Q) : g_V G X iX7_lostTotalByRoofs 0 0 Q 0 0 0 [(0, vR 0 0 0)] [] h := by
  refine s_aload_n (pc := 0) C dX7_lostTotalByRoofs_0 rfl 0 rfl ?_
  refine s_getr (pc := 1) (s := 0) (a := 1) (b := 0) (c' := 0) ckX7 (by decide) kw_300 rfl C dX7_lostTotalByRoofs_1 ?_
  refine s_callv (pc := 4) (nA := 0) (as := []) (st := []) (stk := [vR 1 0 0]) ckX1 (Or.inl rfl) C (fun l hl => ctX1_sumLostByRoofs l hl 0 _ _ H) ⟨⟨kw_387, kw_59, kw_390⟩, rfl, ⟨by decide, by decide, by decide +kernel⟩, by decide, by decide⟩ kw_388 (g_selW kw_389) rfl (Nat.le_of_ble_eq_true rfl) ⟨by decide, by decide⟩ rfl dX7_lostTotalByRoofs_4 (g_Kq_I (fun u2 h1 H => ?_) (fun E h1 H => s_prop rfl ⟨by decide, by decide⟩ H C))
  exact s_iret (pc := 7) rfl rfl ⟨by decide, by decide⟩ H C dX7_lostTotalByRoofs_7
theorem ctX7_lostTotalByRoofs (l : Launch) (hl : l.stackTraces = false) {G : g_G} (h : g_Hp) (Q : g_R → g_Hp → Prop) (H : wX7_lostTotalByRoofs h Q) : g_Met l y_ G iX7_lostTotalByRoofs [vR 0 0 0] h Q :=
  g_Met_of hl (by decide +kernel) rfl rfl (Nat.le_of_ble_eq_true rfl) (fun X C => vX7_lostTotalByRoofs C h H)
/-! X7_stepTotal -/
abbrev iX7_stepTotal : g_I := (RX7, yX7_stepTotal, cX7_stepTotal, 1, (some .int), [], { frames := 1, cells := 0, slots := 0, locals := 20 })
set_option maxRecDepth 100000 in
set_option maxHeartbeats 4000000 in
theorem vX7_stepTotal {G : g_G} {X : g_X} {Q : g_R → g_Hp → Prop} (C : g_Cx y_ G X iX7_stepTotal) (h : g_Hp) (H : wX7_stepTotal h Q) : g_V G X iX7_stepTotal 0 0 Q 0 0 0 [(0, vR 0 0 0)] [] h := by
  refine s_aload_n (pc := 0) C dX7_stepTotal_0 rfl 0 rfl ?_
  refine s_getr (pc := 1) (s := 0) (a := 1) (b := 0) (c' := 0) ckX7 (by decide) kw_300 rfl C dX7_stepTotal_1 ?_
  refine s_geti (pc := 4) (s := 5) ckX1 (Or.inl rfl) (by decide) kw_177 (fun _ => rfl) C dX7_stepTotal_4 ?_
  exact s_iret (pc := 7) rfl rfl ⟨by decide, by decide⟩ H C dX7_stepTotal_7
theorem ctX7_stepTotal (l : Launch) (hl : l.stackTraces = false) {G : g_G} (h : g_Hp) (Q : g_R → g_Hp → Prop) (H : wX7_stepTotal h Q) : g_Met l y_ G iX7_stepTotal [vR 0 0 0] h Q :=
  g_Met_of hl (by decide +kernel) rfl rfl (Nat.le_of_ble_eq_true rfl) (fun X C => vX7_stepTotal C h H)
/-! X7_settlementCount -/
abbrev iX7_settlementCount : g_I := (RX7, yX7_settlementCount, cX7_settlementCount, 1, (some .int), [], { frames := 1, cells := 0, slots := 0, locals := 20 })
set_option maxRecDepth 100000 in
set_option maxHeartbeats 4000000 in
theorem vX7_settlementCount {G : g_G} {X : g_X} {Q : g_R → g_Hp → Prop} (C : g_Cx y_ G X iX7_settlementCount) (h : g_Hp) (H : wX7_settlementCount h Q) : g_V G X iX7_settlementCount 0 0 Q 0 0 0 [(0, vR 0 0 0)] [] h := by
  refine s_aload_n (pc := 0) C dX7_settlementCount_0 rfl 0 rfl ?_
  refine s_getr (pc := 1) (s := 0) (a := 1) (b := 0) (c' := 0) ckX7 (by decide) kw_300 rfl C dX7_settlementCount_1 ?_
  refine s_geti (pc := 4) (s := 11) ckX1 (Or.inl rfl) (by decide) kw_188 (fun _ => rfl) C dX7_settlementCount_4 ?_
  exact s_iret (pc := 7) rfl rfl ⟨by decide, by decide⟩ H C dX7_settlementCount_7
theorem ctX7_settlementCount (l : Launch) (hl : l.stackTraces = false) {G : g_G} (h : g_Hp) (Q : g_R → g_Hp → Prop) (H : wX7_settlementCount h Q) : g_Met l y_ G iX7_settlementCount [vR 0 0 0] h Q :=
  g_Met_of hl (by decide +kernel) rfl rfl (Nat.le_of_ble_eq_true rfl) (fun X C => vX7_settlementCount C h H)
/-! X7_append -/
abbrev iX7_append : g_I := (RX7, yX7_append, cX7_append, 2, (some .int), [], { frames := 7, cells := 1, slots := 150, locals := 206 })
set_option maxRecDepth 100000 in
set_option maxHeartbeats 4000000 in
theorem vX7_append_b12 {G : g_G} {X : g_X} {Q : g_R → g_Hp → Prop} (C : g_Cx y_ G X iX7_append) (h : g_Hp) (H : wX7_append_b12 Q h) : g_V G X iX7_append 1 150 Q 12 0 0 [] [] h := by
  exact s_throwW (pc := 12) (names := ["java/lang/RuntimeException", "java/lang/Exception"]) tw_RX7_IllegalArgumentException ss_RX7_258 rfl ⟨by decide, Nat.le_of_ble_eq_true rfl, by decide, by decide⟩ ⟨by decide, by decide⟩ H C dX7_append_12 dX7_append_15 dX7_append_16 dX7_append_19 dX7_append_22
set_option maxRecDepth 100000 in
set_option maxHeartbeats 4000000 in
theorem vX7_append {G : g_G} {X : g_X} {Q : g_R → g_Hp → Prop} (C : g_Cx y_ G X iX7_append) (p0 : Int32) (h : g_Hp) (H : wX7_append p0 h Q) : g_V G X iX7_append 1 150 Q 0 0 0 [(0, vR 0 0 0), (1, vI p0)] [] h := by
  refine s_iload_n (pc := 0) C dX7_append_0 rfl 1 rfl ?_
  refine s_bipush (pc := 1) C dX7_append_1 (x := (32 : Int32)) (by decide) ?_
  refine s_icmp_lt (pc := 3) (tgt := 12) C dX7_append_3 (by decide) (fun c => ?_) (fun c => ?_)
  · have H := H.1 c
    exact s_sub (ls' := []) [] rfl (vX7_append_b12 C  h H)
  · have H := H.2 c
    refine s_iload_n (pc := 6) C dX7_append_6 rfl 1 rfl ?_
    refine s_bipush (pc := 7) C dX7_append_7 (x := (126 : Int32)) (by decide) ?_
    refine s_icmp_le (pc := 9) (tgt := 23) C dX7_append_9 (by decide) (fun c => ?_) (fun c => ?_)
    · have H := H.1 c
      refine s_aload_n (pc := 23) C dX7_append_23 rfl 0 rfl ?_
      refine s_getr (pc := 24) (s := 6) (a := 3) (b := 0) (c' := 0) ckX7 (by decide) kw_306 rfl C dX7_append_24 ?_
      refine s_getr (pc := 27) (s := 0) (a := 6) (b := 0) (c' := 0) ckX3 (by decide) kw_282 rfl C dX7_append_27 ?_
      refine s_callv (pc := 30) (nA := 0) (as := []) (st := []) (stk := [vR 6 0 0]) ckJ4 (Or.inl rfl) C (fun l hl => ctJ4_length_8abf5 l hl 0 0 _ _ H) ⟨⟨kw_1048, kw_63, kw_1051⟩, rfl, ⟨by decide, by decide, by decide +kernel⟩, by decide, by decide⟩ kw_1049 (g_selW kw_1050) rfl (Nat.le_of_ble_eq_true rfl) ⟨by decide, by decide⟩ rfl dX7_append_30 (g_Kq_I (fun u2 h1 H => ?_) (fun E h1 H => s_prop rfl ⟨by decide, by decide⟩ H C))
      refine s_bipush (pc := 33) C dX7_append_33 (x := (60 : Int32)) (by decide) ?_
      refine s_icmp_lt (pc := 35) (tgt := 49) C dX7_append_35 (by decide) (fun c => ?_) (fun c => ?_)
      · have H := H.1 c
        refine s_aload_n (pc := 49) C dX7_append_49 rfl 0 rfl ?_
        refine s_getr (pc := 50) (s := 6) (a := 3) (b := 0) (c' := 0) ckX7 (by decide) kw_306 rfl C dX7_append_50 ?_
        refine s_getr (pc := 53) (s := 0) (a := 6) (b := 0) (c' := 0) ckX3 (by decide) kw_282 rfl C dX7_append_53 ?_
        refine s_iload_n (pc := 56) C dX7_append_56 rfl 1 rfl ?_
        refine s_callv (pc := 57) (nA := 1) (as := [vI p0]) (st := []) (stk := [vI p0, vR 6 0 0]) ckJ4 (Or.inl rfl) C (fun l hl => ctJ4_append_cf468 l hl 0 0 p0 _ _ H) ⟨⟨kw_1056, kw_63, kw_1059⟩, rfl, ⟨by decide, by decide, by decide +kernel⟩, by decide, by decide⟩ kw_1057 (g_selW kw_1058) rfl (Nat.le_of_ble_eq_true rfl) ⟨by decide, by decide⟩ rfl dX7_append_57 (g_Kq_R (fun i4 j5 h3 H => ?_) (fun E h3 H => s_prop rfl ⟨by decide, by decide⟩ H C))
        refine s_pop (pc := 60) C dX7_append_60 rfl ?_
        refine s_aload_n (pc := 61) C dX7_append_61 rfl 0 rfl ?_
        refine s_getr (pc := 62) (s := 6) (a := 3) (b := 0) (c' := 0) ckX7 (by decide) kw_306 rfl C dX7_append_62 ?_
        refine s_getr (pc := 65) (s := 0) (a := 6) (b := 0) (c' := 0) ckX3 (by decide) kw_282 rfl C dX7_append_65 ?_
        refine s_callv (pc := 68) (nA := 0) (as := []) (st := []) (stk := [vR 6 0 0]) ckJ4 (Or.inl rfl) C (fun l hl => ctJ4_length_8abf5 l hl 0 0 _ _ H) ⟨⟨kw_1048, kw_63, kw_1051⟩, rfl, ⟨by decide, by decide, by decide +kernel⟩, by decide, by decide⟩ kw_1049 (g_selW kw_1050) rfl (Nat.le_of_ble_eq_true rfl) ⟨by decide, by decide⟩ rfl dX7_append_68 (g_Kq_I (fun u7 h6 H => ?_) (fun E h6 H => s_prop rfl ⟨by decide, by decide⟩ H C))
        exact s_iret (pc := 71) rfl rfl ⟨by decide, by decide⟩ H C dX7_append_71
      · have H := H.2 c
        exact s_throwW (pc := 38) (names := ["java/lang/RuntimeException", "java/lang/Exception"]) tw_RX7_IllegalStateException ss_RX7_267 rfl ⟨by decide, Nat.le_of_ble_eq_true rfl, by decide, by decide⟩ ⟨by decide, by decide⟩ H C dX7_append_38 dX7_append_41 dX7_append_42 dX7_append_45 dX7_append_48
    · have H := H.2 c
      exact s_sub (ls' := []) [] rfl (vX7_append_b12 C  h H)
theorem ctX7_append (l : Launch) (hl : l.stackTraces = false) {G : g_G} (p0 : Int32) (h : g_Hp) (Q : g_R → g_Hp → Prop) (H : wX7_append p0 h Q) : g_Met l y_ G iX7_append [vR 0 0 0, vI p0] h Q :=
  g_Met_of hl (by decide +kernel) rfl rfl (Nat.le_of_ble_eq_true rfl) (fun X C => vX7_append C p0 h H)
/-! X7_carryOutAll -/
abbrev iX7_carryOutAll : g_I := (RX7, yX7_carryOutAll, cX7_carryOutAll, 3, (some .int), [], { frames := 6, cells := 0, slots := 0, locals := 131 })
set_option maxRecDepth 100000 in
set_option maxHeartbeats 4000000 in
theorem vX7_carryOutAll_b6_B {G : g_G} {X : g_X} {Q : g_R → g_Hp → Prop} (C : g_Cx y_ G X iX7_carryOutAll) (R6 : Int32 → g_Hp → Prop) (hR6 : ∀ (x1 : Int32) (h : g_Hp), R6 x1 h → g_V G X iX7_carryOutAll 0 0 Q 6 0 0 [(0, vR 0 0 0), (1, vI x1)] [] h) (x1 : Int32) (h : g_Hp) (H : wX7_carryOutAll_b6_B Q R6 x1 h) : g_V G X iX7_carryOutAll 0 0 Q 6 0 0 [(0, vR 0 0 0), (1, vI x1)] [] h := by
  refine s_iload_n (pc := 6) C dX7_carryOutAll_6 rfl 1 rfl ?_
  refine s_aload_n (pc := 7) C dX7_carryOutAll_7 rfl 0 rfl ?_
  refine s_getr (pc := 8) (s := 6) (a := 3) (b := 0) (c' := 0) ckX7 (by decide) kw_306 rfl C dX7_carryOutAll_8 ?_
  refine s_geti (pc := 11) (s := 2) ckX3 (Or.inl rfl) (by decide) kw_286 (fun _ => rfl) C dX7_carryOutAll_11 ?_
  refine s_icmp_ge (pc := 14) (tgt := 73) C dX7_carryOutAll_14 (by decide) (fun c => ?_) (fun c => ?_)
  · have H := H.1 c
    refine s_aload_n (pc := 73) C dX7_carryOutAll_73 rfl 0 rfl ?_
    refine s_callv (pc := 74) (nA := 0) (as := []) (st := []) (stk := [vR 0 0 0]) ckX7 (Or.inl rfl) C (fun l hl => ctX7_endChange l hl _ _ H) ⟨⟨kw_683, kw_58, kw_686⟩, rfl, ⟨by decide, by decide, by decide +kernel⟩, by decide, by decide⟩ kw_685 (g_selW kw_4) rfl (Nat.le_of_ble_eq_true rfl) ⟨by decide, by decide⟩ rfl dX7_carryOutAll_74 (g_Kq_V (fun h1 H => ?_) (fun E h1 H => s_prop rfl ⟨by decide, by decide⟩ H C))
    refine s_iconst (pc := 77) C dX7_carryOutAll_77 (x := (-1 : Int32)) (by decide) ?_
    exact s_iret (pc := 78) rfl rfl ⟨by decide, by decide⟩ H C dX7_carryOutAll_78
  · have H := H.2 c
    refine s_aload_n (pc := 17) C dX7_carryOutAll_17 rfl 0 rfl ?_
    refine s_getr (pc := 18) (s := 6) (a := 3) (b := 0) (c' := 0) ckX7 (by decide) kw_306 rfl C dX7_carryOutAll_18 ?_
    refine s_getr (pc := 21) (s := 1) (a := 12) (b := 0) (c' := 0) ckX3 (by decide) kw_284 rfl C dX7_carryOutAll_21 ?_
    refine s_iload_n (pc := 24) C dX7_carryOutAll_24 rfl 1 rfl ?_
    refine s_aald (pc := 25) (kk := 12) (by decide) (by decide) H.1 C dX7_carryOutAll_25 ?_
    have H := H.2
    show g_V _ _ _ _ _ _ _ _ _ _ (vR 4 (x1.toNatClampNeg) 0 :: _) _
    refine s_nmi (fun i2 ei2 => ?_)
    have H := H i2 ei2
    refine s_astore_n (pc := 26) (ls' := [(2, vR 4 i2 0), (0, vR 0 0 0), (1, vI x1)]) C dX7_carryOutAll_26 rfl (by decide) rfl ?_
    refine s_aload_n (pc := 27) C dX7_carryOutAll_27 rfl 1 rfl ?_
    refine s_getr (pc := 28) (s := 0) (a := 1) (b := 0) (c' := 0) ckX7 (by decide) kw_300 rfl C dX7_carryOutAll_28 ?_
    refine s_aload_n (pc := 31) C dX7_carryOutAll_31 rfl 0 rfl ?_
    refine s_callv (pc := 32) (nA := 1) (as := [vR 4 i2 0]) (st := []) (stk := [vR 4 i2 0, vR 1 0 0]) ckX1 (Or.inl rfl) C (fun l hl => ctX1_faultOf l hl 0 i2 _ _ H) ⟨⟨kw_1408, kw_59, kw_1411⟩, rfl, ⟨by decide, by decide, by decide +kernel⟩, by decide, by decide⟩ kw_1409 (g_selW kw_1410) rfl (Nat.le_of_ble_eq_true rfl) ⟨by decide, by decide⟩ rfl dX7_carryOutAll_32 (g_Kq_R (fun i4 j5 h3 H => ?_) (fun E h3 H => s_prop rfl ⟨by decide, by decide⟩ H C))
    refine s_gets (pc := 35) zs_NOTHING (g_cst_R rfl) kw_1427 C dX7_carryOutAll_35 ?_
    refine s_acmp_eq20 (pc := 38) (tgt := 59) H.1 C dX7_carryOutAll_38 (by decide) (fun c => ?_) (fun c => ?_)
    · have H := H.2.1 c
      refine s_aload_n (pc := 59) C dX7_carryOutAll_59 rfl 1 rfl ?_
      refine s_getr (pc := 60) (s := 0) (a := 1) (b := 0) (c' := 0) ckX7 (by decide) kw_300 rfl C dX7_carryOutAll_60 ?_
      refine s_aload_n (pc := 63) C dX7_carryOutAll_63 rfl 0 rfl ?_
      refine s_callv (pc := 64) (nA := 1) (as := [vR 4 i2 0]) (st := []) (stk := [vR 4 i2 0, vR 1 0 0]) ckX1 (Or.inl rfl) C (fun l hl => ctX1_carryOut l hl 0 i2 _ _ H) ⟨⟨kw_1428, kw_59, kw_1431⟩, rfl, ⟨by decide, by decide, by decide +kernel⟩, by decide, by decide⟩ kw_1429 (g_selW kw_1430) rfl (Nat.le_of_ble_eq_true rfl) ⟨by decide, by decide⟩ rfl dX7_carryOutAll_64 (g_Kq_V (fun h6 H => ?_) (fun E h6 H => s_prop rfl ⟨by decide, by decide⟩ H C))
      refine s_iincN (pc := 67) C dX7_carryOutAll_67 2 rfl (z' := (1 : Int32)) (by decide) (by decide) (fun y7 ey7 => ?_)
      have H := H y7 ey7
      show g_V _ _ _ _ _ _ _ _ _ [(1, vI y7), (2, vR 4 i2 0), (0, vR 0 0 0)] _ _
      refine s_goto (pc := 70) (tgt := 6) C dX7_carryOutAll_70 (by decide) ?_
      exact s_sub (ls' := [(0, vR 0 0 0), (1, vI y7)]) [2, 0] rfl (hR6 y7 h6 H)
    · have H := H.2.2 c
      refine s_aload_n (pc := 41) C dX7_carryOutAll_41 rfl 1 rfl ?_
      refine s_getr (pc := 42) (s := 0) (a := 1) (b := 0) (c' := 0) ckX7 (by decide) kw_300 rfl C dX7_carryOutAll_42 ?_
      refine s_aload_n (pc := 45) C dX7_carryOutAll_45 rfl 1 rfl ?_
      refine s_getr (pc := 46) (s := 1) (a := 10) (b := 0) (c' := 0) ckX7 (by decide) kw_301 rfl C dX7_carryOutAll_46 ?_
      refine s_aload_n (pc := 49) C dX7_carryOutAll_49 rfl 1 rfl ?_
      refine s_geti (pc := 50) (s := 2) ckX7 (Or.inl rfl) (by decide) kw_302 (fun _ => rfl) C dX7_carryOutAll_50 ?_
      refine s_aald (pc := 53) (kk := 10) (by decide) (by decide) H.1 C dX7_carryOutAll_53 ?_
      have H := H.2
      show g_V _ _ _ _ _ _ _ _ _ _ (vR 1 ((h3 0 0 0 3).toNatClampNeg + 1) 0 :: _) _
      refine s_nmi (fun i8 ei8 => ?_)
      have H := H i8 ei8
      refine s_callv (pc := 54) (nA := 1) (as := [vR 1 i8 0]) (st := []) (stk := [vR 1 i8 0, vR 1 0 0]) ckX1 (Or.inl rfl) C (fun l hl => ctX1_copyFrom l hl 0 i8 _ _ H) ⟨⟨kw_542, kw_59, kw_545⟩, rfl, ⟨by decide, by decide, by decide +kernel⟩, by decide, by decide⟩ kw_543 (g_selW kw_544) rfl (Nat.le_of_ble_eq_true rfl) ⟨by decide, by decide⟩ rfl dX7_carryOutAll_54 (g_Kq_V (fun h9 H => ?_) (fun E h9 H => s_prop rfl ⟨by decide, by decide⟩ H C))
      refine s_iload_n (pc := 57) C dX7_carryOutAll_57 rfl 2 rfl ?_
      exact s_iret (pc := 58) rfl rfl ⟨by decide, by decide⟩ H C dX7_carryOutAll_58
theorem vX7_carryOutAll_b6 {G : g_G} {X : g_X} {Q : g_R → g_Hp → Prop} (C : g_Cx y_ G X iX7_carryOutAll) (x1 : Int32) (h : g_Hp) (H : wX7_carryOutAll_b6 Q x1 h) : g_V G X iX7_carryOutAll 0 0 Q 6 0 0 [(0, vR 0 0 0), (1, vI x1)] [] h := by
  obtain ⟨n, H⟩ := H
  induction n generalizing x1 h with
  | zero => exact H.elim
  | succ n ih => exact vX7_carryOutAll_b6_B C _ (fun x1 h H => ih x1 h H) x1 h H
set_option maxRecDepth 100000 in
set_option maxHeartbeats 4000000 in
theorem vX7_carryOutAll {G : g_G} {X : g_X} {Q : g_R → g_Hp → Prop} (C : g_Cx y_ G X iX7_carryOutAll) (h : g_Hp) (H : wX7_carryOutAll h Q) : g_V G X iX7_carryOutAll 0 0 Q 0 0 0 [(0, vR 0 0 0)] [] h := by
  refine s_aload_n (pc := 0) C dX7_carryOutAll_0 rfl 0 rfl ?_
  refine s_callv (pc := 1) (nA := 0) (as := []) (st := []) (stk := [vR 0 0 0]) ckX7 (Or.inl rfl) C (fun l hl => ctX7_beginChange l hl _ _ H) ⟨⟨kw_671, kw_58, kw_674⟩, rfl, ⟨by decide, by decide, by decide +kernel⟩, by decide, by decide⟩ kw_673 (g_selW kw_3) rfl (Nat.le_of_ble_eq_true rfl) ⟨by decide, by decide⟩ rfl dX7_carryOutAll_1 (g_Kq_V (fun h1 H => ?_) (fun E h1 H => s_prop rfl ⟨by decide, by decide⟩ H C))
  refine s_iconst (pc := 4) C dX7_carryOutAll_4 (x := (0 : Int32)) (by decide) ?_
  refine s_istore_n (pc := 5) (ls' := [(1, vI (0 : Int32)), (0, vR 0 0 0)]) C dX7_carryOutAll_5 rfl (by decide) rfl ?_
  exact s_sub (ls' := [(0, vR 0 0 0), (1, vI (0 : Int32))]) [1, 0] rfl (vX7_carryOutAll_b6 C (0 : Int32) h1 H)
theorem ctX7_carryOutAll (l : Launch) (hl : l.stackTraces = false) {G : g_G} (h : g_Hp) (Q : g_R → g_Hp → Prop) (H : wX7_carryOutAll h Q) : g_Met l y_ G iX7_carryOutAll [vR 0 0 0] h Q :=
  g_Met_of hl (by decide +kernel) rfl rfl (Nat.le_of_ble_eq_true rfl) (fun X C => vX7_carryOutAll C h H)
