/-! X7_bearingOf -/
abbrev iX7_bearingOf : g_I := (RX7, yX7_bearingOf, cX7_bearingOf, 2, (some .int), [], { frames := 7, cells := 1, slots := 6, locals := 116 })
set_option maxRecDepth 100000 in
set_option maxHeartbeats 4000000 in
theorem vX7_bearingOf {G : g_G} {X : g_X} {Q : g_R → g_Hp → Prop} (C : g_Cx y_ G X iX7_bearingOf) (p0 : Int32) (h : g_Hp) (H : wX7_bearingOf p0 h Q) : g_V G X iX7_bearingOf 1 6 Q 0 0 0 [(0, vR 0 0 0), (1, vI p0)] [] h := by
  refine s_aload_n (pc := 0) C dX7_bearingOf_0 rfl 0 rfl ?_
  refine s_iload_n (pc := 1) C dX7_bearingOf_1 rfl 1 rfl ?_
  refine s_callv (pc := 2) (nA := 1) (as := [vI p0]) (st := []) (stk := [vI p0, vR 0 0 0]) ckX7 (Or.inl rfl) C (fun l hl => ctX7_existing l hl p0 _ _ H) ⟨⟨kw_407, kw_58, kw_410⟩, rfl, ⟨by decide, by decide, by decide +kernel⟩, by decide, by decide⟩ kw_409 (g_selW kw_0) rfl (Nat.le_of_ble_eq_true rfl) ⟨by decide, by decide⟩ rfl dX7_bearingOf_2 (g_Kq_R (fun i2 j3 h1 H => ?_) (fun E h1 H => s_prop rfl ⟨by decide, by decide⟩ H C))
  refine s_geti (pc := 5) (s := 2) ckX6 (Or.inl rfl) (by decide) kw_119 (fun _ => rfl) C dX7_bearingOf_5 ?_
  exact s_iret (pc := 8) rfl rfl ⟨by decide, by decide⟩ H C dX7_bearingOf_8
theorem ctX7_bearingOf (l : Launch) (hl : l.stackTraces = false) {G : g_G} (p0 : Int32) (h : g_Hp) (Q : g_R → g_Hp → Prop) (H : wX7_bearingOf p0 h Q) : g_Met l y_ G iX7_bearingOf [vR 0 0 0, vI p0] h Q :=
  g_Met_of hl (by decide +kernel) rfl rfl (Nat.le_of_ble_eq_true rfl) (fun X C => vX7_bearingOf C p0 h H)
/-! X7_wagesOf -/
abbrev iX7_wagesOf : g_I := (RX7, yX7_wagesOf, cX7_wagesOf, 2, (some .int), [], { frames := 7, cells := 1, slots := 6, locals := 116 })
set_option maxRecDepth 100000 in
set_option maxHeartbeats 4000000 in
theorem vX7_wagesOf {G : g_G} {X : g_X} {Q : g_R → g_Hp → Prop} (C : g_Cx y_ G X iX7_wagesOf) (p0 : Int32) (h : g_Hp) (H : wX7_wagesOf p0 h Q) : g_V G X iX7_wagesOf 1 6 Q 0 0 0 [(0, vR 0 0 0), (1, vI p0)] [] h := by
  refine s_aload_n (pc := 0) C dX7_wagesOf_0 rfl 0 rfl ?_
  refine s_iload_n (pc := 1) C dX7_wagesOf_1 rfl 1 rfl ?_
  refine s_callv (pc := 2) (nA := 1) (as := [vI p0]) (st := []) (stk := [vI p0, vR 0 0 0]) ckX7 (Or.inl rfl) C (fun l hl => ctX7_existing l hl p0 _ _ H) ⟨⟨kw_407, kw_58, kw_410⟩, rfl, ⟨by decide, by decide, by decide +kernel⟩, by decide, by decide⟩ kw_409 (g_selW kw_0) rfl (Nat.le_of_ble_eq_true rfl) ⟨by decide, by decide⟩ rfl dX7_wagesOf_2 (g_Kq_R (fun i2 j3 h1 H => ?_) (fun E h1 H => s_prop rfl ⟨by decide, by decide⟩ H C))
  refine s_geti (pc := 5) (s := 3) ckX6 (Or.inl rfl) (by decide) kw_122 (fun _ => rfl) C dX7_wagesOf_5 ?_
  exact s_iret (pc := 8) rfl rfl ⟨by decide, by decide⟩ H C dX7_wagesOf_8
theorem ctX7_wagesOf (l : Launch) (hl : l.stackTraces = false) {G : g_G} (p0 : Int32) (h : g_Hp) (Q : g_R → g_Hp → Prop) (H : wX7_wagesOf p0 h Q) : g_Met l y_ G iX7_wagesOf [vR 0 0 0, vI p0] h Q :=
  g_Met_of hl (by decide +kernel) rfl rfl (Nat.le_of_ble_eq_true rfl) (fun X C => vX7_wagesOf C p0 h H)
/-! X7_supportOf -/
abbrev iX7_supportOf : g_I := (RX7, yX7_supportOf, cX7_supportOf, 2, (some .int), [], { frames := 7, cells := 1, slots := 6, locals := 116 })
set_option maxRecDepth 100000 in
set_option maxHeartbeats 4000000 in
theorem vX7_supportOf {G : g_G} {X : g_X} {Q : g_R → g_Hp → Prop} (C : g_Cx y_ G X iX7_supportOf) (p0 : Int32) (h : g_Hp) (H : wX7_supportOf p0 h Q) : g_V G X iX7_supportOf 1 6 Q 0 0 0 [(0, vR 0 0 0), (1, vI p0)] [] h := by
  refine s_aload_n (pc := 0) C dX7_supportOf_0 rfl 0 rfl ?_
  refine s_iload_n (pc := 1) C dX7_supportOf_1 rfl 1 rfl ?_
  refine s_callv (pc := 2) (nA := 1) (as := [vI p0]) (st := []) (stk := [vI p0, vR 0 0 0]) ckX7 (Or.inl rfl) C (fun l hl => ctX7_existing l hl p0 _ _ H) ⟨⟨kw_407, kw_58, kw_410⟩, rfl, ⟨by decide, by decide, by decide +kernel⟩, by decide, by decide⟩ kw_409 (g_selW kw_0) rfl (Nat.le_of_ble_eq_true rfl) ⟨by decide, by decide⟩ rfl dX7_supportOf_2 (g_Kq_R (fun i2 j3 h1 H => ?_) (fun E h1 H => s_prop rfl ⟨by decide, by decide⟩ H C))
  refine s_geti (pc := 5) (s := 4) ckX6 (Or.inl rfl) (by decide) kw_125 (fun _ => rfl) C dX7_supportOf_5 ?_
  exact s_iret (pc := 8) rfl rfl ⟨by decide, by decide⟩ H C dX7_supportOf_8
theorem ctX7_supportOf (l : Launch) (hl : l.stackTraces = false) {G : g_G} (p0 : Int32) (h : g_Hp) (Q : g_R → g_Hp → Prop) (H : wX7_supportOf p0 h Q) : g_Met l y_ G iX7_supportOf [vR 0 0 0, vI p0] h Q :=
  g_Met_of hl (by decide +kernel) rfl rfl (Nat.le_of_ble_eq_true rfl) (fun X C => vX7_supportOf C p0 h H)
/-! X7_lostShifts -/
abbrev iX7_lostShifts : g_I := (RX7, yX7_lostShifts, cX7_lostShifts, 2, (some .int), [], { frames := 7, cells := 1, slots := 6, locals := 116 })
set_option maxRecDepth 100000 in
set_option maxHeartbeats 4000000 in
theorem vX7_lostShifts {G : g_G} {X : g_X} {Q : g_R → g_Hp → Prop} (C : g_Cx y_ G X iX7_lostShifts) (p0 : Int32) (h : g_Hp) (H : wX7_lostShifts p0 h Q) : g_V G X iX7_lostShifts 1 6 Q 0 0 0 [(0, vR 0 0 0), (1, vI p0)] [] h := by
  refine s_aload_n (pc := 0) C dX7_lostShifts_0 rfl 0 rfl ?_
  refine s_iload_n (pc := 1) C dX7_lostShifts_1 rfl 1 rfl ?_
  refine s_callv (pc := 2) (nA := 1) (as := [vI p0]) (st := []) (stk := [vI p0, vR 0 0 0]) ckX7 (Or.inl rfl) C (fun l hl => ctX7_existing l hl p0 _ _ H) ⟨⟨kw_407, kw_58, kw_410⟩, rfl, ⟨by decide, by decide, by decide +kernel⟩, by decide, by decide⟩ kw_409 (g_selW kw_0) rfl (Nat.le_of_ble_eq_true rfl) ⟨by decide, by decide⟩ rfl dX7_lostShifts_2 (g_Kq_R (fun i2 j3 h1 H => ?_) (fun E h1 H => s_prop rfl ⟨by decide, by decide⟩ H C))
  refine s_geti (pc := 5) (s := 5) ckX6 (Or.inl rfl) (by decide) kw_128 (fun _ => rfl) C dX7_lostShifts_5 ?_
  exact s_iret (pc := 8) rfl rfl ⟨by decide, by decide⟩ H C dX7_lostShifts_8
theorem ctX7_lostShifts (l : Launch) (hl : l.stackTraces = false) {G : g_G} (p0 : Int32) (h : g_Hp) (Q : g_R → g_Hp → Prop) (H : wX7_lostShifts p0 h Q) : g_Met l y_ G iX7_lostShifts [vR 0 0 0, vI p0] h Q :=
  g_Met_of hl (by decide +kernel) rfl rfl (Nat.le_of_ble_eq_true rfl) (fun X C => vX7_lostShifts C p0 h H)
/-! X7_lostDays -/
abbrev iX7_lostDays : g_I := (RX7, yX7_lostDays, cX7_lostDays, 2, (some .float), [], { frames := 7, cells := 1, slots := 6, locals := 116 })
set_option maxRecDepth 100000 in
set_option maxHeartbeats 4000000 in
theorem vX7_lostDays {G : g_G} {X : g_X} {Q : g_R → g_Hp → Prop} (C : g_Cx y_ G X iX7_lostDays) (p0 : Int32) (h : g_Hp) (H : wX7_lostDays p0 h Q) : g_V G X iX7_lostDays 1 6 Q 0 0 0 [(0, vR 0 0 0), (1, vI p0)] [] h := by
  refine s_aload_n (pc := 0) C dX7_lostDays_0 rfl 0 rfl ?_
  refine s_iload_n (pc := 1) C dX7_lostDays_1 rfl 1 rfl ?_
  refine s_callv (pc := 2) (nA := 1) (as := [vI p0]) (st := []) (stk := [vI p0, vR 0 0 0]) ckX7 (Or.inl rfl) C (fun l hl => ctX7_existing l hl p0 _ _ H) ⟨⟨kw_407, kw_58, kw_410⟩, rfl, ⟨by decide, by decide, by decide +kernel⟩, by decide, by decide⟩ kw_409 (g_selW kw_0) rfl (Nat.le_of_ble_eq_true rfl) ⟨by decide, by decide⟩ rfl dX7_lostDays_2 (g_Kq_R (fun i2 j3 h1 H => ?_) (fun E h1 H => s_prop rfl ⟨by decide, by decide⟩ H C))
  refine s_geti (pc := 5) (s := 5) ckX6 (Or.inl rfl) (by decide) kw_128 (fun _ => rfl) C dX7_lostDays_5 ?_
  refine s_i2f (pc := 8) C dX7_lostDays_8 ?_
  refine s_ldcf (pc := 9) C kw_752 dX7_lostDays_9 ?_
  refine s_fdiv (pc := 11) C dX7_lostDays_11 H.1 ?_
  have H := H.2
  exact s_fret (pc := 12) rfl ⟨by decide, by decide⟩ H C dX7_lostDays_12
theorem ctX7_lostDays (l : Launch) (hl : l.stackTraces = false) {G : g_G} (p0 : Int32) (h : g_Hp) (Q : g_R → g_Hp → Prop) (H : wX7_lostDays p0 h Q) : g_Met l y_ G iX7_lostDays [vR 0 0 0, vI p0] h Q :=
  g_Met_of hl (by decide +kernel) rfl rfl (Nat.le_of_ble_eq_true rfl) (fun X C => vX7_lostDays C p0 h H)
/-! X7_dutiesOf -/
abbrev iX7_dutiesOf : g_I := (RX7, yX7_dutiesOf, cX7_dutiesOf, 2, (some .int), [], { frames := 7, cells := 1, slots := 6, locals := 116 })
set_option maxRecDepth 100000 in
set_option maxHeartbeats 4000000 in
theorem vX7_dutiesOf {G : g_G} {X : g_X} {Q : g_R → g_Hp → Prop} (C : g_Cx y_ G X iX7_dutiesOf) (p0 : Int32) (h : g_Hp) (H : wX7_dutiesOf p0 h Q) : g_V G X iX7_dutiesOf 1 6 Q 0 0 0 [(0, vR 0 0 0), (1, vI p0)] [] h := by
  refine s_aload_n (pc := 0) C dX7_dutiesOf_0 rfl 0 rfl ?_
  refine s_iload_n (pc := 1) C dX7_dutiesOf_1 rfl 1 rfl ?_
  refine s_callv (pc := 2) (nA := 1) (as := [vI p0]) (st := []) (stk := [vI p0, vR 0 0 0]) ckX7 (Or.inl rfl) C (fun l hl => ctX7_existing l hl p0 _ _ H) ⟨⟨kw_407, kw_58, kw_410⟩, rfl, ⟨by decide, by decide, by decide +kernel⟩, by decide, by decide⟩ kw_409 (g_selW kw_0) rfl (Nat.le_of_ble_eq_true rfl) ⟨by decide, by decide⟩ rfl dX7_dutiesOf_2 (g_Kq_R (fun i2 j3 h1 H => ?_) (fun E h1 H => s_prop rfl ⟨by decide, by decide⟩ H C))
  refine s_geti (pc := 5) (s := 6) ckX6 (Or.inl rfl) (by decide) kw_131 (fun _ => rfl) C dX7_dutiesOf_5 ?_
  exact s_iret (pc := 8) rfl rfl ⟨by decide, by decide⟩ H C dX7_dutiesOf_8
theorem ctX7_dutiesOf (l : Launch) (hl : l.stackTraces = false) {G : g_G} (p0 : Int32) (h : g_Hp) (Q : g_R → g_Hp → Prop) (H : wX7_dutiesOf p0 h Q) : g_Met l y_ G iX7_dutiesOf [vR 0 0 0, vI p0] h Q :=
  g_Met_of hl (by decide +kernel) rfl rfl (Nat.le_of_ble_eq_true rfl) (fun X C => vX7_dutiesOf C p0 h H)
/-! X7_memberAtRank -/
abbrev iX7_memberAtRank : g_I := (RX7, yX7_memberAtRank, cX7_memberAtRank, 3, (some .int), [], { frames := 6, cells := 1, slots := 6, locals := 95 })
set_option maxRecDepth 100000 in
set_option maxHeartbeats 4000000 in
theorem vX7_memberAtRank {G : g_G} {X : g_X} {Q : g_R → g_Hp → Prop} (C : g_Cx y_ G X iX7_memberAtRank) (p0 : Int32) (h : g_Hp) (H : wX7_memberAtRank p0 h Q) : g_V G X iX7_memberAtRank 1 6 Q 0 0 0 [(0, vR 0 0 0), (1, vI p0)] [] h := by
  refine s_aload_n (pc := 0) C dX7_memberAtRank_0 rfl 0 rfl ?_
  refine s_getr (pc := 1) (s := 0) (a := 1) (b := 0) (c' := 0) ckX7 (by decide) kw_300 rfl C dX7_memberAtRank_1 ?_
  refine s_iload_n (pc := 4) C dX7_memberAtRank_4 rfl 1 rfl ?_
  refine s_callv (pc := 5) (nA := 1) (as := [vI p0]) (st := []) (stk := [vI p0, vR 1 0 0]) ckX1 (Or.inl rfl) C (fun l hl => ctX1_findRank l hl 0 p0 _ _ H) ⟨⟨kw_768, kw_59, kw_771⟩, rfl, ⟨by decide, by decide, by decide +kernel⟩, by decide, by decide⟩ kw_769 (g_selW kw_770) rfl (Nat.le_of_ble_eq_true rfl) ⟨by decide, by decide⟩ rfl dX7_memberAtRank_5 (g_Kq_I (fun u2 h1 H => ?_) (fun E h1 H => s_prop rfl ⟨by decide, by decide⟩ H C))
  refine s_istore_n (pc := 8) (ls' := [(2, vI u2), (0, vR 0 0 0), (1, vI p0)]) C dX7_memberAtRank_8 rfl (by decide) rfl ?_
  refine s_iload_n (pc := 9) C dX7_memberAtRank_9 rfl 0 rfl ?_
  refine s_iconst (pc := 10) C dX7_memberAtRank_10 (x := (-1 : Int32)) (by decide) ?_
  refine s_icmp_ne (pc := 11) (tgt := 24) C dX7_memberAtRank_11 (by decide) (fun c => ?_) (fun c => ?_)
  · have H := H.1 c
    refine s_iload_n (pc := 24) C dX7_memberAtRank_24 rfl 0 rfl ?_
    exact s_iret (pc := 25) rfl rfl ⟨by decide, by decide⟩ H C dX7_memberAtRank_25
  · have H := H.2 c
    exact s_throwSN (pc := 14) tn_nse ss_RX7_106 rfl rfl ⟨by decide, Nat.le_of_ble_eq_true rfl, by decide, by decide⟩ ⟨by decide, by decide⟩ H C dX7_memberAtRank_14 dX7_memberAtRank_17 dX7_memberAtRank_18 dX7_memberAtRank_20 dX7_memberAtRank_23
theorem ctX7_memberAtRank (l : Launch) (hl : l.stackTraces = false) {G : g_G} (p0 : Int32) (h : g_Hp) (Q : g_R → g_Hp → Prop) (H : wX7_memberAtRank p0 h Q) : g_Met l y_ G iX7_memberAtRank [vR 0 0 0, vI p0] h Q :=
  g_Met_of hl (by decide +kernel) rfl rfl (Nat.le_of_ble_eq_true rfl) (fun X C => vX7_memberAtRank C p0 h H)
/-! X7_setWind -/
abbrev iX7_setWind : g_I := (RX7, yX7_setWind, cX7_setWind, 4, (some .int), [], { frames := 7, cells := 1, slots := 6, locals := 115 })
set_option maxRecDepth 100000 in
set_option maxHeartbeats 4000000 in
theorem vX7_setWind {G : g_G} {X : g_X} {Q : g_R → g_Hp → Prop} (C : g_Cx y_ G X iX7_setWind) (p0 : Int32) (p1 : Int32) (h : g_Hp) (H : wX7_setWind p0 p1 h Q) : g_V G X iX7_setWind 1 6 Q 0 0 0 [(0, vR 0 0 0), (1, vI p0), (2, vI p1)] [] h := by
  refine s_aload_n (pc := 0) C dX7_setWind_0 rfl 0 rfl ?_
  refine s_getr (pc := 1) (s := 0) (a := 1) (b := 0) (c' := 0) ckX7 (by decide) kw_300 rfl C dX7_setWind_1 ?_
  refine s_iload_n (pc := 4) C dX7_setWind_4 rfl 1 rfl ?_
  refine s_iload_n (pc := 5) C dX7_setWind_5 rfl 2 rfl ?_
  refine s_callv (pc := 6) (nA := 2) (as := [vI p0, vI p1]) (st := []) (stk := [vI p1, vI p0, vR 1 0 0]) ckX1 (Or.inl rfl) C (fun l hl => ctX1_faultOfWind l hl 0 p0 p1 _ _ H) ⟨⟨kw_788, kw_59, kw_791⟩, rfl, ⟨by decide, by decide, by decide +kernel⟩, by decide, by decide⟩ kw_789 (g_selW kw_790) rfl (Nat.le_of_ble_eq_true rfl) ⟨by decide, by decide⟩ rfl dX7_setWind_6 (g_Kq_R (fun i2 j3 h1 H => ?_) (fun E h1 H => s_prop rfl ⟨by decide, by decide⟩ H C))
  refine s_calls (pc := 9) (nA := 1) (as := [vR 20 i2 j3]) (st := []) (stk := [vR 20 i2 j3]) C (fun l hl => ctX7_refuse l hl i2 j3 _ _ H) ⟨⟨kw_595, kw_58, kw_597⟩, rfl, ⟨by decide, by decide, by decide +kernel⟩, by decide, by decide⟩ kw_596 rfl (Nat.le_of_ble_eq_true rfl) ⟨by decide, by decide⟩ rfl dX7_setWind_9 (g_Kq_V (fun h4 H => ?_) (fun E h4 H => s_prop rfl ⟨by decide, by decide⟩ H C))
  refine s_aload_n (pc := 12) C dX7_setWind_12 rfl 0 rfl ?_
  refine s_callv (pc := 13) (nA := 0) (as := []) (st := []) (stk := [vR 0 0 0]) ckX7 (Or.inl rfl) C (fun l hl => ctX7_beginChange l hl _ _ H) ⟨⟨kw_671, kw_58, kw_674⟩, rfl, ⟨by decide, by decide, by decide +kernel⟩, by decide, by decide⟩ kw_673 (g_selW kw_3) rfl (Nat.le_of_ble_eq_true rfl) ⟨by decide, by decide⟩ rfl dX7_setWind_13 (g_Kq_V (fun h5 H => ?_) (fun E h5 H => s_prop rfl ⟨by decide, by decide⟩ H C))
  refine s_aload_n (pc := 16) C dX7_setWind_16 rfl 0 rfl ?_
  refine s_getr (pc := 17) (s := 0) (a := 1) (b := 0) (c' := 0) ckX7 (by decide) kw_300 rfl C dX7_setWind_17 ?_
  refine s_iload_n (pc := 20) C dX7_setWind_20 rfl 1 rfl ?_
  refine s_iload_n (pc := 21) C dX7_setWind_21 rfl 2 rfl ?_
  refine s_callv (pc := 22) (nA := 2) (as := [vI p0, vI p1]) (st := []) (stk := [vI p1, vI p0, vR 1 0 0]) ckX1 (Or.inl rfl) C (fun l hl => ctX1_turnWind l hl 0 p0 p1 _ _ H) ⟨⟨kw_792, kw_59, kw_795⟩, rfl, ⟨by decide, by decide, by decide +kernel⟩, by decide, by decide⟩ kw_793 (g_selW kw_794) rfl (Nat.le_of_ble_eq_true rfl) ⟨by decide, by decide⟩ rfl dX7_setWind_22 (g_Kq_I (fun u7 h6 H => ?_) (fun E h6 H => s_prop rfl ⟨by decide, by decide⟩ H C))
  refine s_istore_n (pc := 25) (ls' := [(3, vI u7), (0, vR 0 0 0), (1, vI p0), (2, vI p1)]) C dX7_setWind_25 rfl (by decide) rfl ?_
  refine s_aload_n (pc := 26) C dX7_setWind_26 rfl 1 rfl ?_
  refine s_callv (pc := 27) (nA := 0) (as := []) (st := []) (stk := [vR 0 0 0]) ckX7 (Or.inl rfl) C (fun l hl => ctX7_endChange l hl _ _ H) ⟨⟨kw_683, kw_58, kw_686⟩, rfl, ⟨by decide, by decide, by decide +kernel⟩, by decide, by decide⟩ kw_685 (g_selW kw_4) rfl (Nat.le_of_ble_eq_true rfl) ⟨by decide, by decide⟩ rfl dX7_setWind_27 (g_Kq_V (fun h8 H => ?_) (fun E h8 H => s_prop rfl ⟨by decide, by decide⟩ H C))
  refine s_iload_n (pc := 30) C dX7_setWind_30 rfl 0 rfl ?_
  exact s_iret (pc := 31) rfl rfl ⟨by decide, by decide⟩ H C dX7_setWind_31
theorem ctX7_setWind (l : Launch) (hl : l.stackTraces = false) {G : g_G} (p0 : Int32) (p1 : Int32) (h : g_Hp) (Q : g_R → g_Hp → Prop) (H : wX7_setWind p0 p1 h Q) : g_Met l y_ G iX7_setWind [vR 0 0 0, vI p0, vI p1] h Q :=
  g_Met_of hl (by decide +kernel) rfl rfl (Nat.le_of_ble_eq_true rfl) (fun X C => vX7_setWind C p0 p1 h H)
/-! X7_windDirection -/
abbrev iX7_windDirection : g_I := (RX7, yX7_windDirection, cX7_windDirection, 1, (some .int), [], { frames := 1, cells := 0, slots := 0, locals := 20 })
set_option maxRecDepth 100000 in
set_option maxHeartbeats 4000000 in
theorem vX7_windDirection {G : g_G} {X : g_X} {Q : g_R → g_Hp → Prop} (C : g_Cx y_ G X iX7_windDirection) (h : g_Hp) (H : wX7_windDirection h Q) : g_V G X iX7_windDirection 0 0 Q 0 0 0 [(0, vR 0 0 0)] [] h := by
  refine s_aload_n (pc := 0) C dX7_windDirection_0 rfl 0 rfl ?_
  refine s_getr (pc := 1) (s := 0) (a := 1) (b := 0) (c' := 0) ckX7 (by decide) kw_300 rfl C dX7_windDirection_1 ?_
  refine s_geti (pc := 4) (s := 2) ckX1 (Or.inl rfl) (by decide) kw_171 (fun _ => rfl) C dX7_windDirection_4 ?_
  exact s_iret (pc := 7) rfl rfl ⟨by decide, by decide⟩ H C dX7_windDirection_7
theorem ctX7_windDirection (l : Launch) (hl : l.stackTraces = false) {G : g_G} (h : g_Hp) (Q : g_R → g_Hp → Prop) (H : wX7_windDirection h Q) : g_Met l y_ G iX7_windDirection [vR 0 0 0] h Q :=
  g_Met_of hl (by decide +kernel) rfl rfl (Nat.le_of_ble_eq_true rfl) (fun X C => vX7_windDirection C h H)
/-! X7_windSpeed -/
abbrev iX7_windSpeed : g_I := (RX7, yX7_windSpeed, cX7_windSpeed, 1, (some .int), [], { frames := 1, cells := 0, slots := 0, locals := 20 })
set_option maxRecDepth 100000 in
set_option maxHeartbeats 4000000 in
theorem vX7_windSpeed {G : g_G} {X : g_X} {Q : g_R → g_Hp → Prop} (C : g_Cx y_ G X iX7_windSpeed) (h : g_Hp) (H : wX7_windSpeed h Q) : g_V G X iX7_windSpeed 0 0 Q 0 0 0 [(0, vR 0 0 0)] [] h := by
  refine s_aload_n (pc := 0) C dX7_windSpeed_0 rfl 0 rfl ?_
  refine s_getr (pc := 1) (s := 0) (a := 1) (b := 0) (c' := 0) ckX7 (by decide) kw_300 rfl C dX7_windSpeed_1 ?_
  refine s_geti (pc := 4) (s := 3) ckX1 (Or.inl rfl) (by decide) kw_173 (fun _ => rfl) C dX7_windSpeed_4 ?_
  exact s_iret (pc := 7) rfl rfl ⟨by decide, by decide⟩ H C dX7_windSpeed_7
theorem ctX7_windSpeed (l : Launch) (hl : l.stackTraces = false) {G : g_G} (h : g_Hp) (Q : g_R → g_Hp → Prop) (H : wX7_windSpeed h Q) : g_Met l y_ G iX7_windSpeed [vR 0 0 0] h Q :=
  g_Met_of hl (by decide +kernel) rfl rfl (Nat.le_of_ble_eq_true rfl) (fun X C => vX7_windSpeed C h H)
/-! X7_stepsToWind -/
abbrev iX7_stepsToWind : g_I := (RX7, yX7_stepsToWind, cX7_stepsToWind, 2, (some .int), [], { frames := 7, cells := 1, slots := 6, locals := 116 })
set_option maxRecDepth 100000 in
set_option maxHeartbeats 4000000 in
theorem vX7_stepsToWind {G : g_G} {X : g_X} {Q : g_R → g_Hp → Prop} (C : g_Cx y_ G X iX7_stepsToWind) (p0 : Int32) (h : g_Hp) (H : wX7_stepsToWind p0 h Q) : g_V G X iX7_stepsToWind 1 6 Q 0 0 0 [(0, vR 0 0 0), (1, vI p0)] [] h := by
  refine s_aload_n (pc := 0) C dX7_stepsToWind_0 rfl 0 rfl ?_
  refine s_iload_n (pc := 1) C dX7_stepsToWind_1 rfl 1 rfl ?_
  refine s_callv (pc := 2) (nA := 1) (as := [vI p0]) (st := []) (stk := [vI p0, vR 0 0 0]) ckX7 (Or.inl rfl) C (fun l hl => ctX7_existing l hl p0 _ _ H) ⟨⟨kw_407, kw_58, kw_410⟩, rfl, ⟨by decide, by decide, by decide +kernel⟩, by decide, by decide⟩ kw_409 (g_selW kw_0) rfl (Nat.le_of_ble_eq_true rfl) ⟨by decide, by decide⟩ rfl dX7_stepsToWind_2 (g_Kq_R (fun i2 j3 h1 H => ?_) (fun E h1 H => s_prop rfl ⟨by decide, by decide⟩ H C))
  refine s_geti (pc := 5) (s := 2) ckX6 (Or.inl rfl) (by decide) kw_119 (fun _ => rfl) C dX7_stepsToWind_5 ?_
  refine s_aload_n (pc := 8) C dX7_stepsToWind_8 rfl 0 rfl ?_
  refine s_getr (pc := 9) (s := 0) (a := 1) (b := 0) (c' := 0) ckX7 (by decide) kw_300 rfl C dX7_stepsToWind_9 ?_
  refine s_geti (pc := 12) (s := 2) ckX1 (Or.inl rfl) (by decide) kw_171 (fun _ => rfl) C dX7_stepsToWind_12 ?_
  refine s_calls (pc := 15) (nA := 2) (as := [vI (h1 2 i2 j3 3), vI (h1 1 0 0 3)]) (st := []) (stk := [vI (h1 1 0 0 3), vI (h1 2 i2 j3 3)]) C (fun l hl => ctX7_stepsBetween l hl (h1 2 i2 j3 3) (h1 1 0 0 3) _ _ H) ⟨⟨kw_487, kw_58, kw_489⟩, rfl, ⟨by decide, by decide, by decide +kernel⟩, by decide, by decide⟩ kw_488 rfl (Nat.le_of_ble_eq_true rfl) ⟨by decide, by decide⟩ rfl dX7_stepsToWind_15 (g_Kq_I (fun u5 h4 H => ?_) (fun E h4 H => s_prop rfl ⟨by decide, by decide⟩ H C))
  exact s_iret (pc := 18) rfl rfl ⟨by decide, by decide⟩ H C dX7_stepsToWind_18
theorem ctX7_stepsToWind (l : Launch) (hl : l.stackTraces = false) {G : g_G} (p0 : Int32) (h : g_Hp) (Q : g_R → g_Hp → Prop) (H : wX7_stepsToWind p0 h Q) : g_Met l y_ G iX7_stepsToWind [vR 0 0 0, vI p0] h Q :=
  g_Met_of hl (by decide +kernel) rfl rfl (Nat.le_of_ble_eq_true rfl) (fun X C => vX7_stepsToWind C p0 h H)
/-! X7_stepsByTurning -/
abbrev iX7_stepsByTurning : g_I := (RX7, yX7_stepsByTurning, cX7_stepsByTurning, 5, (some .int), [], { frames := 1, cells := 0, slots := 0, locals := 20 })
set_option maxRecDepth 100000 in
set_option maxHeartbeats 4000000 in
theorem vX7_stepsByTurning_b50 {G : g_G} {X : g_X} {Q : g_R → g_Hp → Prop} (C : g_Cx y_ G X iX7_stepsByTurning) (R7 : Int32 → Int32 → Int32 → Int32 → g_Hp → Prop) (hR7 : ∀ (x1 : Int32) (x2 : Int32) (x3 : Int32) (x4 : Int32) (h : g_Hp), R7 x1 x2 x3 x4 h → g_V G X iX7_stepsByTurning 0 0 Q 7 0 0 [(1, vI x1), (2, vI x2), (3, vI x3), (4, vI x4)] [] h) (x1 : Int32) (x2 : Int32) (x4 : Int32) (z0 : Int32) (h : g_Hp) (H : wX7_stepsByTurning_b50 Q R7 x1 x2 x4 z0 h) : g_V G X iX7_stepsByTurning 0 0 Q 50 0 0 [(1, vI x1), (2, vI x2), (4, vI x4)] [vI z0] h := by
  refine s_istore_n (pc := 50) (ls' := [(3, vI z0), (1, vI x1), (2, vI x2), (4, vI x4)]) C dX7_stepsByTurning_50 rfl (by decide) rfl ?_
  refine s_iincN (pc := 51) C dX7_stepsByTurning_51 3 rfl (z' := (1 : Int32)) (by decide) (by decide) (fun y1 ey1 => ?_)
  have H := H y1 ey1
  show g_V _ _ _ _ _ _ _ _ _ [(4, vI y1), (3, vI z0), (1, vI x1), (2, vI x2)] _ _
  refine s_goto (pc := 54) (tgt := 7) C dX7_stepsByTurning_54 (by decide) ?_
  exact s_sub (ls' := [(1, vI x1), (2, vI x2), (3, vI z0), (4, vI y1)]) [2, 3, 1, 0] rfl (hR7 x1 x2 z0 y1 h H)
set_option maxRecDepth 100000 in
set_option maxHeartbeats 4000000 in
theorem vX7_stepsByTurning_b37 {G : g_G} {X : g_X} {Q : g_R → g_Hp → Prop} (C : g_Cx y_ G X iX7_stepsByTurning) (R7 : Int32 → Int32 → Int32 → Int32 → g_Hp → Prop) (hR7 : ∀ (x1 : Int32) (x2 : Int32) (x3 : Int32) (x4 : Int32) (h : g_Hp), R7 x1 x2 x3 x4 h → g_V G X iX7_stepsByTurning 0 0 Q 7 0 0 [(1, vI x1), (2, vI x2), (3, vI x3), (4, vI x4)] [] h) (x1 : Int32) (x3 : Int32) (x4 : Int32) (z0 : Int32) (h : g_Hp) (H : wX7_stepsByTurning_b37 Q R7 x1 x3 x4 z0 h) : g_V G X iX7_stepsByTurning 0 0 Q 37 0 0 [(1, vI x1), (3, vI x3), (4, vI x4)] [vI z0] h := by
  refine s_istore_n (pc := 37) (ls' := [(2, vI z0), (1, vI x1), (3, vI x3), (4, vI x4)]) C dX7_stepsByTurning_37 rfl (by decide) rfl ?_
  refine s_iload_n (pc := 38) C dX7_stepsByTurning_38 rfl 2 rfl ?_
  refine s_if_ne (pc := 39) (tgt := 47) C dX7_stepsByTurning_39 (by decide) (fun c => ?_) (fun c => ?_)
  · have H := H.1 c
    refine s_iload_n (pc := 47) C dX7_stepsByTurning_47 rfl 2 rfl ?_
    refine s_iconst (pc := 48) C dX7_stepsByTurning_48 (x := (1 : Int32)) (by decide) ?_
    refine s_isub (pc := 49) C dX7_stepsByTurning_49 ?_
    exact s_sub (ls' := [(1, vI x1), (2, vI z0), (4, vI x4)]) [1, 0, 3] rfl (vX7_stepsByTurning_b50 C R7 hR7 x1 z0 x4 (x3 - (1 : Int32)) h H)
  · have H := H.2 c
    refine s_bipush (pc := 42) C dX7_stepsByTurning_42 (x := (7 : Int32)) (by decide) ?_
    refine s_goto (pc := 44) (tgt := 50) C dX7_stepsByTurning_44 (by decide) ?_
    exact s_sub (ls' := [(1, vI x1), (2, vI z0), (4, vI x4)]) [1, 0, 3] rfl (vX7_stepsByTurning_b50 C R7 hR7 x1 z0 x4 (7 : Int32) h H)
set_option maxRecDepth 100000 in
set_option maxHeartbeats 4000000 in
theorem vX7_stepsByTurning_b57 {G : g_G} {X : g_X} {Q : g_R → g_Hp → Prop} (C : g_Cx y_ G X iX7_stepsByTurning) (x4 : Int32) (h : g_Hp) (H : wX7_stepsByTurning_b57 Q x4 h) : g_V G X iX7_stepsByTurning 0 0 Q 57 0 0 [(4, vI x4)] [] h := by
  refine s_iload (pc := 57) C dX7_stepsByTurning_57 0 rfl ?_
  exact s_iret (pc := 59) rfl rfl ⟨by decide, by decide⟩ H C dX7_stepsByTurning_59
set_option maxRecDepth 100000 in
set_option maxHeartbeats 4000000 in
theorem vX7_stepsByTurning_b7_B {G : g_G} {X : g_X} {Q : g_R → g_Hp → Prop} (C : g_Cx y_ G X iX7_stepsByTurning) (R7 : Int32 → Int32 → Int32 → Int32 → g_Hp → Prop) (hR7 : ∀ (x1 : Int32) (x2 : Int32) (x3 : Int32) (x4 : Int32) (h : g_Hp), R7 x1 x2 x3 x4 h → g_V G X iX7_stepsByTurning 0 0 Q 7 0 0 [(1, vI x1), (2, vI x2), (3, vI x3), (4, vI x4)] [] h) (x1 : Int32) (x2 : Int32) (x3 : Int32) (x4 : Int32) (h : g_Hp) (H : wX7_stepsByTurning_b7_B Q R7 x1 x2 x3 x4 h) : g_V G X iX7_stepsByTurning 0 0 Q 7 0 0 [(1, vI x1), (2, vI x2), (3, vI x3), (4, vI x4)] [] h := by
  refine s_iload (pc := 7) C dX7_stepsByTurning_7 3 rfl ?_
  refine s_bipush (pc := 9) C dX7_stepsByTurning_9 (x := (8 : Int32)) (by decide) ?_
  refine s_icmp_ge (pc := 11) (tgt := 57) C dX7_stepsByTurning_11 (by decide) (fun c => ?_) (fun c => ?_)
  · have H := H.1 c
    exact s_sub (ls' := [(4, vI x4)]) [3] rfl (vX7_stepsByTurning_b57 C x4 h H)
  · have H := H.2 c
    refine s_iload_n (pc := 14) C dX7_stepsByTurning_14 rfl 1 rfl ?_
    refine s_iload_n (pc := 15) C dX7_stepsByTurning_15 rfl 0 rfl ?_
    refine s_icmp_eq (pc := 16) (tgt := 57) C dX7_stepsByTurning_16 (by decide) (fun c => ?_) (fun c => ?_)
    · have H := H.1 c
      exact s_sub (ls' := [(4, vI x4)]) [3] rfl (vX7_stepsByTurning_b57 C x4 h H)
    · have H := H.2 c
      refine s_iload_n (pc := 19) C dX7_stepsByTurning_19 rfl 2 rfl ?_
      refine s_iload_n (pc := 20) C dX7_stepsByTurning_20 rfl 0 rfl ?_
      refine s_icmp_eq (pc := 21) (tgt := 57) C dX7_stepsByTurning_21 (by decide) (fun c => ?_) (fun c => ?_)
      · have H := H.1 c
        exact s_sub (ls' := [(4, vI x4)]) [3] rfl (vX7_stepsByTurning_b57 C x4 h H)
      · have H := H.2 c
        refine s_iload_n (pc := 24) C dX7_stepsByTurning_24 rfl 1 rfl ?_
        refine s_bipush (pc := 25) C dX7_stepsByTurning_25 (x := (7 : Int32)) (by decide) ?_
        refine s_icmp_ne (pc := 27) (tgt := 34) C dX7_stepsByTurning_27 (by decide) (fun c => ?_) (fun c => ?_)
        · have H := H.1 c
          refine s_iload_n (pc := 34) C dX7_stepsByTurning_34 rfl 1 rfl ?_
          refine s_iconst (pc := 35) C dX7_stepsByTurning_35 (x := (1 : Int32)) (by decide) ?_
          refine s_iadd (pc := 36) C dX7_stepsByTurning_36 ?_
          exact s_sub (ls' := [(1, vI x1), (3, vI x3), (4, vI x4)]) [0, 2, 3] rfl (vX7_stepsByTurning_b37 C R7 hR7 x1 x3 x4 (x2 + (1 : Int32)) h H)
        · have H := H.2 c
          refine s_iconst (pc := 30) C dX7_stepsByTurning_30 (x := (0 : Int32)) (by decide) ?_
          refine s_goto (pc := 31) (tgt := 37) C dX7_stepsByTurning_31 (by decide) ?_
          exact s_sub (ls' := [(1, vI x1), (3, vI x3), (4, vI x4)]) [0, 2, 3] rfl (vX7_stepsByTurning_b37 C R7 hR7 x1 x3 x4 (0 : Int32) h H)
theorem vX7_stepsByTurning_b7 {G : g_G} {X : g_X} {Q : g_R → g_Hp → Prop} (C : g_Cx y_ G X iX7_stepsByTurning) (x1 : Int32) (x2 : Int32) (x3 : Int32) (x4 : Int32) (h : g_Hp) (H : wX7_stepsByTurning_b7 Q x1 x2 x3 x4 h) : g_V G X iX7_stepsByTurning 0 0 Q 7 0 0 [(1, vI x1), (2, vI x2), (3, vI x3), (4, vI x4)] [] h := by
  obtain ⟨n, H⟩ := H
  induction n generalizing x1 x2 x3 x4 h with
  | zero => exact H.elim
  | succ n ih => exact vX7_stepsByTurning_b7_B C _ (fun x1 x2 x3 x4 h H => ih x1 x2 x3 x4 h H) x1 x2 x3 x4 h H
set_option maxRecDepth 100000 in
set_option maxHeartbeats 4000000 in
theorem vX7_stepsByTurning {G : g_G} {X : g_X} {Q : g_R → g_Hp → Prop} (C : g_Cx y_ G X iX7_stepsByTurning) (p0 : Int32) (p1 : Int32) (h : g_Hp) (H : wX7_stepsByTurning p0 p1 h Q) : g_V G X iX7_stepsByTurning 0 0 Q 0 0 0 [(0, vI p0), (1, vI p1)] [] h := by
  refine s_iload_n (pc := 0) C dX7_stepsByTurning_0 rfl 0 rfl ?_
  refine s_istore_n (pc := 1) (ls' := [(2, vI p0), (0, vI p0), (1, vI p1)]) C dX7_stepsByTurning_1 rfl (by decide) rfl ?_
  refine s_iload_n (pc := 2) C dX7_stepsByTurning_2 rfl 1 rfl ?_
  refine s_istore_n (pc := 3) (ls' := [(3, vI p0), (2, vI p0), (0, vI p0), (1, vI p1)]) C dX7_stepsByTurning_3 rfl (by decide) rfl ?_
  refine s_iconst (pc := 4) C dX7_stepsByTurning_4 (x := (0 : Int32)) (by decide) ?_
  refine s_istore (pc := 5) (ls' := [(4, vI (0 : Int32)), (3, vI p0), (2, vI p0), (0, vI p0), (1, vI p1)]) C dX7_stepsByTurning_5 (by decide) rfl ?_
  exact s_sub (ls' := [(1, vI p1), (2, vI p0), (3, vI p0), (4, vI (0 : Int32))]) [4, 2, 1, 0] rfl (vX7_stepsByTurning_b7 C p1 p0 p0 (0 : Int32) h H)
theorem ctX7_stepsByTurning (l : Launch) (hl : l.stackTraces = false) {G : g_G} (p0 : Int32) (p1 : Int32) (h : g_Hp) (Q : g_R → g_Hp → Prop) (H : wX7_stepsByTurning p0 p1 h Q) : g_Met l y_ G iX7_stepsByTurning [vI p0, vI p1] h Q :=
  g_Met_of hl (by decide +kernel) rfl rfl (Nat.le_of_ble_eq_true rfl) (fun X C => vX7_stepsByTurning C p0 p1 h H)
/-! X7_stepsToWindByTurning -/
abbrev iX7_stepsToWindByTurning : g_I := (RX7, yX7_stepsToWindByTurning, cX7_stepsToWindByTurning, 2, (some .int), [], { frames := 7, cells := 1, slots := 6, locals := 116 })
set_option maxRecDepth 100000 in
set_option maxHeartbeats 4000000 in
theorem vX7_stepsToWindByTurning {G : g_G} {X : g_X} {Q : g_R → g_Hp → Prop} (C : g_Cx y_ G X iX7_stepsToWindByTurning) (p0 : Int32) (h : g_Hp) (H : wX7_stepsToWindByTurning p0 h Q) : g_V G X iX7_stepsToWindByTurning 1 6 Q 0 0 0 [(0, vR 0 0 0), (1, vI p0)] [] h := by
  refine s_aload_n (pc := 0) C dX7_stepsToWindByTurning_0 rfl 0 rfl ?_
  refine s_iload_n (pc := 1) C dX7_stepsToWindByTurning_1 rfl 1 rfl ?_
  refine s_callv (pc := 2) (nA := 1) (as := [vI p0]) (st := []) (stk := [vI p0, vR 0 0 0]) ckX7 (Or.inl rfl) C (fun l hl => ctX7_existing l hl p0 _ _ H) ⟨⟨kw_407, kw_58, kw_410⟩, rfl, ⟨by decide, by decide, by decide +kernel⟩, by decide, by decide⟩ kw_409 (g_selW kw_0) rfl (Nat.le_of_ble_eq_true rfl) ⟨by decide, by decide⟩ rfl dX7_stepsToWindByTurning_2 (g_Kq_R (fun i2 j3 h1 H => ?_) (fun E h1 H => s_prop rfl ⟨by decide, by decide⟩ H C))
  refine s_geti (pc := 5) (s := 2) ckX6 (Or.inl rfl) (by decide) kw_119 (fun _ => rfl) C dX7_stepsToWindByTurning_5 ?_
  refine s_aload_n (pc := 8) C dX7_stepsToWindByTurning_8 rfl 0 rfl ?_
  refine s_getr (pc := 9) (s := 0) (a := 1) (b := 0) (c' := 0) ckX7 (by decide) kw_300 rfl C dX7_stepsToWindByTurning_9 ?_
  refine s_geti (pc := 12) (s := 2) ckX1 (Or.inl rfl) (by decide) kw_171 (fun _ => rfl) C dX7_stepsToWindByTurning_12 ?_
  refine s_calls (pc := 15) (nA := 2) (as := [vI (h1 2 i2 j3 3), vI (h1 1 0 0 3)]) (st := []) (stk := [vI (h1 1 0 0 3), vI (h1 2 i2 j3 3)]) C (fun l hl => ctX7_stepsByTurning l hl (h1 2 i2 j3 3) (h1 1 0 0 3) _ _ H) ⟨⟨kw_497, kw_58, kw_499⟩, rfl, ⟨by decide, by decide, by decide +kernel⟩, by decide, by decide⟩ kw_498 rfl (Nat.le_of_ble_eq_true rfl) ⟨by decide, by decide⟩ rfl dX7_stepsToWindByTurning_15 (g_Kq_I (fun u5 h4 H => ?_) (fun E h4 H => s_prop rfl ⟨by decide, by decide⟩ H C))
  exact s_iret (pc := 18) rfl rfl ⟨by decide, by decide⟩ H C dX7_stepsToWindByTurning_18
theorem ctX7_stepsToWindByTurning (l : Launch) (hl : l.stackTraces = false) {G : g_G} (p0 : Int32) (h : g_Hp) (Q : g_R → g_Hp → Prop) (H : wX7_stepsToWindByTurning p0 h Q) : g_Met l y_ G iX7_stepsToWindByTurning [vR 0 0 0, vI p0] h Q :=
  g_Met_of hl (by decide +kernel) rfl rfl (Nat.le_of_ble_eq_true rfl) (fun X C => vX7_stepsToWindByTurning C p0 h H)
/-! X7_passShifts -/
abbrev iX7_passShifts : g_I := (RX7, yX7_passShifts, cX7_passShifts, 3, (some .int), [], { frames := 7, cells := 1, slots := 6, locals := 115 })
set_option maxRecDepth 100000 in
set_option maxHeartbeats 4000000 in
theorem vX7_passShifts {G : g_G} {X : g_X} {Q : g_R → g_Hp → Prop} (C : g_Cx y_ G X iX7_passShifts) (p0 : Int32) (h : g_Hp) (H : wX7_passShifts p0 h Q) : g_V G X iX7_passShifts 1 6 Q 0 0 0 [(0, vR 0 0 0), (1, vI p0)] [] h := by
  refine s_aload_n (pc := 0) C dX7_passShifts_0 rfl 0 rfl ?_
  refine s_getr (pc := 1) (s := 0) (a := 1) (b := 0) (c' := 0) ckX7 (by decide) kw_300 rfl C dX7_passShifts_1 ?_
  refine s_iload_n (pc := 4) C dX7_passShifts_4 rfl 1 rfl ?_
  refine s_callv (pc := 5) (nA := 1) (as := [vI p0]) (st := []) (stk := [vI p0, vR 1 0 0]) ckX1 (Or.inl rfl) C (fun l hl => ctX1_faultOfPassing l hl 0 p0 _ _ H) ⟨⟨kw_812, kw_59, kw_815⟩, rfl, ⟨by decide, by decide, by decide +kernel⟩, by decide, by decide⟩ kw_813 (g_selW kw_814) rfl (Nat.le_of_ble_eq_true rfl) ⟨by decide, by decide⟩ rfl dX7_passShifts_5 (g_Kq_R (fun i2 j3 h1 H => ?_) (fun E h1 H => s_prop rfl ⟨by decide, by decide⟩ H C))
  refine s_calls (pc := 8) (nA := 1) (as := [vR 20 i2 j3]) (st := []) (stk := [vR 20 i2 j3]) C (fun l hl => ctX7_refuse l hl i2 j3 _ _ H) ⟨⟨kw_595, kw_58, kw_597⟩, rfl, ⟨by decide, by decide, by decide +kernel⟩, by decide, by decide⟩ kw_596 rfl (Nat.le_of_ble_eq_true rfl) ⟨by decide, by decide⟩ rfl dX7_passShifts_8 (g_Kq_V (fun h4 H => ?_) (fun E h4 H => s_prop rfl ⟨by decide, by decide⟩ H C))
  refine s_aload_n (pc := 11) C dX7_passShifts_11 rfl 0 rfl ?_
  refine s_callv (pc := 12) (nA := 0) (as := []) (st := []) (stk := [vR 0 0 0]) ckX7 (Or.inl rfl) C (fun l hl => ctX7_beginChange l hl _ _ H) ⟨⟨kw_671, kw_58, kw_674⟩, rfl, ⟨by decide, by decide, by decide +kernel⟩, by decide, by decide⟩ kw_673 (g_selW kw_3) rfl (Nat.le_of_ble_eq_true rfl) ⟨by decide, by decide⟩ rfl dX7_passShifts_12 (g_Kq_V (fun h5 H => ?_) (fun E h5 H => s_prop rfl ⟨by decide, by decide⟩ H C))
  refine s_aload_n (pc := 15) C dX7_passShifts_15 rfl 0 rfl ?_
  refine s_getr (pc := 16) (s := 0) (a := 1) (b := 0) (c' := 0) ckX7 (by decide) kw_300 rfl C dX7_passShifts_16 ?_
  refine s_iload_n (pc := 19) C dX7_passShifts_19 rfl 1 rfl ?_
  refine s_callv (pc := 20) (nA := 1) (as := [vI p0]) (st := []) (stk := [vI p0, vR 1 0 0]) ckX1 (Or.inl rfl) C (fun l hl => ctX1_pass l hl 0 p0 _ _ H) ⟨⟨kw_816, kw_59, kw_819⟩, rfl, ⟨by decide, by decide, by decide +kernel⟩, by decide, by decide⟩ kw_817 (g_selW kw_818) rfl (Nat.le_of_ble_eq_true rfl) ⟨by decide, by decide⟩ rfl dX7_passShifts_20 (g_Kq_I (fun u7 h6 H => ?_) (fun E h6 H => s_prop rfl ⟨by decide, by decide⟩ H C))
  refine s_istore_n (pc := 23) (ls' := [(2, vI u7), (0, vR 0 0 0), (1, vI p0)]) C dX7_passShifts_23 rfl (by decide) rfl ?_
  refine s_aload_n (pc := 24) C dX7_passShifts_24 rfl 1 rfl ?_
  refine s_callv (pc := 25) (nA := 0) (as := []) (st := []) (stk := [vR 0 0 0]) ckX7 (Or.inl rfl) C (fun l hl => ctX7_endChange l hl _ _ H) ⟨⟨kw_683, kw_58, kw_686⟩, rfl, ⟨by decide, by decide, by decide +kernel⟩, by decide, by decide⟩ kw_685 (g_selW kw_4) rfl (Nat.le_of_ble_eq_true rfl) ⟨by decide, by decide⟩ rfl dX7_passShifts_25 (g_Kq_V (fun h8 H => ?_) (fun E h8 H => s_prop rfl ⟨by decide, by decide⟩ H C))
  refine s_iload_n (pc := 28) C dX7_passShifts_28 rfl 0 rfl ?_
  exact s_iret (pc := 29) rfl rfl ⟨by decide, by decide⟩ H C dX7_passShifts_29
theorem ctX7_passShifts (l : Launch) (hl : l.stackTraces = false) {G : g_G} (p0 : Int32) (h : g_Hp) (Q : g_R → g_Hp → Prop) (H : wX7_passShifts p0 h Q) : g_Met l y_ G iX7_passShifts [vR 0 0 0, vI p0] h Q :=
  g_Met_of hl (by decide +kernel) rfl rfl (Nat.le_of_ble_eq_true rfl) (fun X C => vX7_passShifts C p0 h H)
/-! X7_shiftCount -/
abbrev iX7_shiftCount : g_I := (RX7, yX7_shiftCount, cX7_shiftCount, 1, (some .int), [], { frames := 1, cells := 0, slots := 0, locals := 20 })
set_option maxRecDepth 100000 in
set_option maxHeartbeats 4000000 in
theorem vX7_shiftCount {G : g_G} {X : g_X} {Q : g_R → g_Hp → Prop} (C : g_Cx y_ G X iX7_shiftCount) (h : g_Hp) (H : wX7_shiftCount h Q) : g_V G X iX7_shiftCount 0 0 Q 0 0 0 [(0, vR 0 0 0)] [] h := by
  refine s_aload_n (pc := 0) C dX7_shiftCount_0 rfl 0 rfl ?_
  refine s_getr (pc := 1) (s := 0) (a := 1) (b := 0) (c' := 0) ckX7 (by decide) kw_300 rfl C dX7_shiftCount_1 ?_
  refine s_geti (pc := 4) (s := 4) ckX1 (Or.inl rfl) (by decide) kw_175 (fun _ => rfl) C dX7_shiftCount_4 ?_
  exact s_iret (pc := 7) rfl rfl ⟨by decide, by decide⟩ H C dX7_shiftCount_7
theorem ctX7_shiftCount (l : Launch) (hl : l.stackTraces = false) {G : g_G} (h : g_Hp) (Q : g_R → g_Hp → Prop) (H : wX7_shiftCount h Q) : g_Met l y_ G iX7_shiftCount [vR 0 0 0] h Q :=
  g_Met_of hl (by decide +kernel) rfl rfl (Nat.le_of_ble_eq_true rfl) (fun X C => vX7_shiftCount C h H)
/-! X7_day -/
abbrev iX7_day : g_I := (RX7, yX7_day, cX7_day, 1, (some .int), [], { frames := 1, cells := 0, slots := 0, locals := 20 })
set_option maxRecDepth 100000 in
set_option maxHeartbeats 4000000 in
theorem vX7_day {G : g_G} {X : g_X} {Q : g_R → g_Hp → Prop} (C : g_Cx y_ G X iX7_day) (h : g_Hp) (H : wX7_day h Q) : g_V G X iX7_day 0 0 Q 0 0 0 [(0, vR 0 0 0)] [] h := by
  refine s_aload_n (pc := 0) C dX7_day_0 rfl 0 rfl ?_
  refine s_getr (pc := 1) (s := 0) (a := 1) (b := 0) (c' := 0) ckX7 (by decide) kw_300 rfl C dX7_day_1 ?_
  refine s_geti (pc := 4) (s := 4) ckX1 (Or.inl rfl) (by decide) kw_175 (fun _ => rfl) C dX7_day_4 ?_
  refine s_iconst (pc := 7) C dX7_day_7 (x := (3 : Int32)) (by decide) ?_
  refine s_idiv (pc := 8) C dX7_day_8 H.1 ?_
  have H := H.2
  exact s_iret (pc := 9) rfl rfl ⟨by decide, by decide⟩ H C dX7_day_9
theorem ctX7_day (l : Launch) (hl : l.stackTraces = false) {G : g_G} (h : g_Hp) (Q : g_R → g_Hp → Prop) (H : wX7_day h Q) : g_Met l y_ G iX7_day [vR 0 0 0] h Q :=
  g_Met_of hl (by decide +kernel) rfl rfl (Nat.le_of_ble_eq_true rfl) (fun X C => vX7_day C h H)
/-! X7_vote -/
abbrev iX7_vote : g_I := (RX7, yX7_vote, cX7_vote, 4, (some .int), [], { frames := 7, cells := 1, slots := 6, locals := 115 })
set_option maxRecDepth 100000 in
set_option maxHeartbeats 4000000 in
theorem vX7_vote {G : g_G} {X : g_X} {Q : g_R → g_Hp → Prop} (C : g_Cx y_ G X iX7_vote) (p0 : Int32) (p1 : Int32) (h : g_Hp) (H : wX7_vote p0 p1 h Q) : g_V G X iX7_vote 1 6 Q 0 0 0 [(0, vR 0 0 0), (1, vI p0), (2, vI p1)] [] h := by
  refine s_aload_n (pc := 0) C dX7_vote_0 rfl 0 rfl ?_
  refine s_getr (pc := 1) (s := 0) (a := 1) (b := 0) (c' := 0) ckX7 (by decide) kw_300 rfl C dX7_vote_1 ?_
  refine s_iload_n (pc := 4) C dX7_vote_4 rfl 1 rfl ?_
  refine s_callv (pc := 5) (nA := 1) (as := [vI p0]) (st := []) (stk := [vI p0, vR 1 0 0]) ckX1 (Or.inl rfl) C (fun l hl => ctX1_faultOfVoting l hl 0 p0 _ _ H) ⟨⟨kw_844, kw_59, kw_847⟩, rfl, ⟨by decide, by decide, by decide +kernel⟩, by decide, by decide⟩ kw_845 (g_selW kw_846) rfl (Nat.le_of_ble_eq_true rfl) ⟨by decide, by decide⟩ rfl dX7_vote_5 (g_Kq_R (fun i2 j3 h1 H => ?_) (fun E h1 H => s_prop rfl ⟨by decide, by decide⟩ H C))
  refine s_calls (pc := 8) (nA := 1) (as := [vR 20 i2 j3]) (st := []) (stk := [vR 20 i2 j3]) C (fun l hl => ctX7_refuse l hl i2 j3 _ _ H) ⟨⟨kw_595, kw_58, kw_597⟩, rfl, ⟨by decide, by decide, by decide +kernel⟩, by decide, by decide⟩ kw_596 rfl (Nat.le_of_ble_eq_true rfl) ⟨by decide, by decide⟩ rfl dX7_vote_8 (g_Kq_V (fun h4 H => ?_) (fun E h4 H => s_prop rfl ⟨by decide, by decide⟩ H C))
  refine s_aload_n (pc := 11) C dX7_vote_11 rfl 0 rfl ?_
  refine s_callv (pc := 12) (nA := 0) (as := []) (st := []) (stk := [vR 0 0 0]) ckX7 (Or.inl rfl) C (fun l hl => ctX7_beginChange l hl _ _ H) ⟨⟨kw_671, kw_58, kw_674⟩, rfl, ⟨by decide, by decide, by decide +kernel⟩, by decide, by decide⟩ kw_673 (g_selW kw_3) rfl (Nat.le_of_ble_eq_true rfl) ⟨by decide, by decide⟩ rfl dX7_vote_12 (g_Kq_V (fun h5 H => ?_) (fun E h5 H => s_prop rfl ⟨by decide, by decide⟩ H C))
  refine s_aload_n (pc := 15) C dX7_vote_15 rfl 0 rfl ?_
  refine s_getr (pc := 16) (s := 0) (a := 1) (b := 0) (c' := 0) ckX7 (by decide) kw_300 rfl C dX7_vote_16 ?_
  refine s_iload_n (pc := 19) C dX7_vote_19 rfl 1 rfl ?_
  refine s_iload_n (pc := 20) C dX7_vote_20 rfl 2 rfl ?_
  refine s_callv (pc := 21) (nA := 2) (as := [vI p0, vI p1]) (st := []) (stk := [vI p1, vI p0, vR 1 0 0]) ckX1 (Or.inl rfl) C (fun l hl => ctX1_castVote l hl 0 p0 p1 _ _ H) ⟨⟨kw_849, kw_59, kw_852⟩, rfl, ⟨by decide, by decide, by decide +kernel⟩, by decide, by decide⟩ kw_850 (g_selW kw_851) rfl (Nat.le_of_ble_eq_true rfl) ⟨by decide, by decide⟩ rfl dX7_vote_21 (g_Kq_I (fun u7 h6 H => ?_) (fun E h6 H => s_prop rfl ⟨by decide, by decide⟩ H C))
  refine s_istore_n (pc := 24) (ls' := [(3, vI u7), (0, vR 0 0 0), (1, vI p0), (2, vI p1)]) C dX7_vote_24 rfl (by decide) rfl ?_
  refine s_aload_n (pc := 25) C dX7_vote_25 rfl 1 rfl ?_
  refine s_callv (pc := 26) (nA := 0) (as := []) (st := []) (stk := [vR 0 0 0]) ckX7 (Or.inl rfl) C (fun l hl => ctX7_endChange l hl _ _ H) ⟨⟨kw_683, kw_58, kw_686⟩, rfl, ⟨by decide, by decide, by decide +kernel⟩, by decide, by decide⟩ kw_685 (g_selW kw_4) rfl (Nat.le_of_ble_eq_true rfl) ⟨by decide, by decide⟩ rfl dX7_vote_26 (g_Kq_V (fun h8 H => ?_) (fun E h8 H => s_prop rfl ⟨by decide, by decide⟩ H C))
  refine s_iload_n (pc := 29) C dX7_vote_29 rfl 0 rfl ?_
  exact s_iret (pc := 30) rfl rfl ⟨by decide, by decide⟩ H C dX7_vote_30
theorem ctX7_vote (l : Launch) (hl : l.stackTraces = false) {G : g_G} (p0 : Int32) (p1 : Int32) (h : g_Hp) (Q : g_R → g_Hp → Prop) (H : wX7_vote p0 p1 h Q) : g_Met l y_ G iX7_vote [vR 0 0 0, vI p0, vI p1] h Q :=
  g_Met_of hl (by decide +kernel) rfl rfl (Nat.le_of_ble_eq_true rfl) (fun X C => vX7_vote C p0 p1 h H)
/-! X7_votesFor -/
abbrev iX7_votesFor : g_I := (RX7, yX7_votesFor, cX7_votesFor, 1, (some .int), [], { frames := 2, cells := 0, slots := 0, locals := 42 })
set_option maxRecDepth 100000 in
set_option maxHeartbeats 4000000 in
theorem vX7_votesFor {G : g_G} {X : g_X} {Q : g_R → g_Hp → Prop} (C : g_Cx y_ G X iX7_votesFor) (h : g_Hp) (H : wX7_votesFor h Q) : g_V G X iX7_votesFor 0 0 Q 0 0 0 [(0, vR 0 0 0)] [] h := by
  refine s_aload_n (pc := 0) C dX7_votesFor_0 rfl 0 rfl ?_
  refine s_getr (pc := 1) (s := 0) (a := 1) (b := 0) (c' := 0) ckX7 (by decide) kw_300 rfl C dX7_votesFor_1 ?_
  refine s_callv (pc := 4) (nA := 0) (as := []) (st := []) (stk := [vR 1 0 0]) ckX1 (Or.inl rfl) C (fun l hl => ctX1_countVotesFor l hl 0 _ _ H) ⟨⟨kw_355, kw_59, kw_358⟩, rfl, ⟨by decide, by decide, by decide +kernel⟩, by decide, by decide⟩ kw_356 (g_selW kw_357) rfl (Nat.le_of_ble_eq_true rfl) ⟨by decide, by decide⟩ rfl dX7_votesFor_4 (g_Kq_I (fun u2 h1 H => ?_) (fun E h1 H => s_prop rfl ⟨by decide, by decide⟩ H C))
  exact s_iret (pc := 7) rfl rfl ⟨by decide, by decide⟩ H C dX7_votesFor_7
theorem ctX7_votesFor (l : Launch) (hl : l.stackTraces = false) {G : g_G} (h : g_Hp) (Q : g_R → g_Hp → Prop) (H : wX7_votesFor h Q) : g_Met l y_ G iX7_votesFor [vR 0 0 0] h Q :=
  g_Met_of hl (by decide +kernel) rfl rfl (Nat.le_of_ble_eq_true rfl) (fun X C => vX7_votesFor C h H)
/-! X7_hasVoted -/
abbrev iX7_hasVoted : g_I := (RX7, yX7_hasVoted, cX7_hasVoted, 2, (some .boolean), [], { frames := 7, cells := 1, slots := 6, locals := 116 })
set_option maxRecDepth 100000 in
set_option maxHeartbeats 4000000 in
theorem vX7_hasVoted_b16 {G : g_G} {X : g_X} {Q : g_R → g_Hp → Prop} (C : g_Cx y_ G X iX7_hasVoted) (z0 : Int32) (h : g_Hp) (H : wX7_hasVoted_b16 Q z0 h) : g_V G X iX7_hasVoted 1 6 Q 16 1 6 [] [vI z0] h := by
  exact s_iret (pc := 16) rfl (g_nz H.1) ⟨by decide, by decide⟩ H.2 C dX7_hasVoted_16
set_option maxRecDepth 100000 in
set_option maxHeartbeats 4000000 in
theorem vX7_hasVoted {G : g_G} {X : g_X} {Q : g_R → g_Hp → Prop} (C : g_Cx y_ G X iX7_hasVoted) (p0 : Int32) (h : g_Hp) (H : wX7_hasVoted p0 h Q) : g_V G X iX7_hasVoted 1 6 Q 0 0 0 [(0, vR 0 0 0), (1, vI p0)] [] h := by
  refine s_aload_n (pc := 0) C dX7_hasVoted_0 rfl 0 rfl ?_
  refine s_iload_n (pc := 1) C dX7_hasVoted_1 rfl 1 rfl ?_
  refine s_callv (pc := 2) (nA := 1) (as := [vI p0]) (st := []) (stk := [vI p0, vR 0 0 0]) ckX7 (Or.inl rfl) C (fun l hl => ctX7_existing l hl p0 _ _ H) ⟨⟨kw_407, kw_58, kw_410⟩, rfl, ⟨by decide, by decide, by decide +kernel⟩, by decide, by decide⟩ kw_409 (g_selW kw_0) rfl (Nat.le_of_ble_eq_true rfl) ⟨by decide, by decide⟩ rfl dX7_hasVoted_2 (g_Kq_R (fun i2 j3 h1 H => ?_) (fun E h1 H => s_prop rfl ⟨by decide, by decide⟩ H C))
  refine s_geti (pc := 5) (s := 7) ckX6 (Or.inl rfl) (by decide) kw_135 (fun _ => rfl) C dX7_hasVoted_5 ?_
  refine s_if_eq (pc := 8) (tgt := 15) C dX7_hasVoted_8 (by decide) (fun c => ?_) (fun c => ?_)
  · have H := H.1 c
    refine s_iconst (pc := 15) C dX7_hasVoted_15 (x := (0 : Int32)) (by decide) ?_
    exact s_sub (ls' := []) [] rfl (vX7_hasVoted_b16 C (0 : Int32) h1 H)
  · have H := H.2 c
    refine s_iconst (pc := 11) C dX7_hasVoted_11 (x := (1 : Int32)) (by decide) ?_
    refine s_goto (pc := 12) (tgt := 16) C dX7_hasVoted_12 (by decide) ?_
    exact s_sub (ls' := []) [] rfl (vX7_hasVoted_b16 C (1 : Int32) h1 H)
theorem ctX7_hasVoted (l : Launch) (hl : l.stackTraces = false) {G : g_G} (p0 : Int32) (h : g_Hp) (Q : g_R → g_Hp → Prop) (H : wX7_hasVoted p0 h Q) : g_Met l y_ G iX7_hasVoted [vR 0 0 0, vI p0] h Q :=
  g_Met_of hl (by decide +kernel) rfl rfl (Nat.le_of_ble_eq_true rfl) (fun X C => vX7_hasVoted C p0 h H)
/-! X7_callStrike -/
abbrev iX7_callStrike : g_I := (RX7, yX7_callStrike, cX7_callStrike, 2, (some .int), [], { frames := 7, cells := 1, slots := 6, locals := 115 })
set_option maxRecDepth 100000 in
set_option maxHeartbeats 4000000 in
theorem vX7_callStrike {G : g_G} {X : g_X} {Q : g_R → g_Hp → Prop} (C : g_Cx y_ G X iX7_callStrike) (h : g_Hp) (H : wX7_callStrike h Q) : g_V G X iX7_callStrike 1 6 Q 0 0 0 [(0, vR 0 0 0)] [] h := by
  refine s_aload_n (pc := 0) C dX7_callStrike_0 rfl 0 rfl ?_
  refine s_getr (pc := 1) (s := 0) (a := 1) (b := 0) (c' := 0) ckX7 (by decide) kw_300 rfl C dX7_callStrike_1 ?_
  refine s_callv (pc := 4) (nA := 0) (as := []) (st := []) (stk := [vR 1 0 0]) ckX1 (Or.inl rfl) C (fun l hl => ctX1_faultOfStriking l hl 0 _ _ H) ⟨⟨kw_869, kw_59, kw_872⟩, rfl, ⟨by decide, by decide, by decide +kernel⟩, by decide, by decide⟩ kw_870 (g_selW kw_871) rfl (Nat.le_of_ble_eq_true rfl) ⟨by decide, by decide⟩ rfl dX7_callStrike_4 (g_Kq_R (fun i2 j3 h1 H => ?_) (fun E h1 H => s_prop rfl ⟨by decide, by decide⟩ H C))
  refine s_calls (pc := 7) (nA := 1) (as := [vR 20 i2 j3]) (st := []) (stk := [vR 20 i2 j3]) C (fun l hl => ctX7_refuse l hl i2 j3 _ _ H) ⟨⟨kw_595, kw_58, kw_597⟩, rfl, ⟨by decide, by decide, by decide +kernel⟩, by decide, by decide⟩ kw_596 rfl (Nat.le_of_ble_eq_true rfl) ⟨by decide, by decide⟩ rfl dX7_callStrike_7 (g_Kq_V (fun h4 H => ?_) (fun E h4 H => s_prop rfl ⟨by decide, by decide⟩ H C))
  refine s_aload_n (pc := 10) C dX7_callStrike_10 rfl 0 rfl ?_
  refine s_callv (pc := 11) (nA := 0) (as := []) (st := []) (stk := [vR 0 0 0]) ckX7 (Or.inl rfl) C (fun l hl => ctX7_beginChange l hl _ _ H) ⟨⟨kw_671, kw_58, kw_674⟩, rfl, ⟨by decide, by decide, by decide +kernel⟩, by decide, by decide⟩ kw_673 (g_selW kw_3) rfl (Nat.le_of_ble_eq_true rfl) ⟨by decide, by decide⟩ rfl dX7_callStrike_11 (g_Kq_V (fun h5 H => ?_) (fun E h5 H => s_prop rfl ⟨by decide, by decide⟩ H C))
  refine s_aload_n (pc := 14) C dX7_callStrike_14 rfl 0 rfl ?_
  refine s_getr (pc := 15) (s := 0) (a := 1) (b := 0) (c' := 0) ckX7 (by decide) kw_300 rfl C dX7_callStrike_15 ?_
  refine s_callv (pc := 18) (nA := 0) (as := []) (st := []) (stk := [vR 1 0 0]) ckX1 (Or.inl rfl) C (fun l hl => ctX1_beginStrike l hl 0 _ _ H) ⟨⟨kw_875, kw_59, kw_878⟩, rfl, ⟨by decide, by decide, by decide +kernel⟩, by decide, by decide⟩ kw_876 (g_selW kw_877) rfl (Nat.le_of_ble_eq_true rfl) ⟨by decide, by decide⟩ rfl dX7_callStrike_18 (g_Kq_I (fun u7 h6 H => ?_) (fun E h6 H => s_prop rfl ⟨by decide, by decide⟩ H C))
  refine s_istore_n (pc := 21) (ls' := [(1, vI u7), (0, vR 0 0 0)]) C dX7_callStrike_21 rfl (by decide) rfl ?_
  refine s_aload_n (pc := 22) C dX7_callStrike_22 rfl 1 rfl ?_
  refine s_callv (pc := 23) (nA := 0) (as := []) (st := []) (stk := [vR 0 0 0]) ckX7 (Or.inl rfl) C (fun l hl => ctX7_endChange l hl _ _ H) ⟨⟨kw_683, kw_58, kw_686⟩, rfl, ⟨by decide, by decide, by decide +kernel⟩, by decide, by decide⟩ kw_685 (g_selW kw_4) rfl (Nat.le_of_ble_eq_true rfl) ⟨by decide, by decide⟩ rfl dX7_callStrike_23 (g_Kq_V (fun h8 H => ?_) (fun E h8 H => s_prop rfl ⟨by decide, by decide⟩ H C))
  refine s_iload_n (pc := 26) C dX7_callStrike_26 rfl 0 rfl ?_
  exact s_iret (pc := 27) rfl rfl ⟨by decide, by decide⟩ H C dX7_callStrike_27
theorem ctX7_callStrike (l : Launch) (hl : l.stackTraces = false) {G : g_G} (h : g_Hp) (Q : g_R → g_Hp → Prop) (H : wX7_callStrike h Q) : g_Met l y_ G iX7_callStrike [vR 0 0 0] h Q :=
  g_Met_of hl (by decide +kernel) rfl rfl (Nat.le_of_ble_eq_true rfl) (fun X C => vX7_callStrike C h H)
/-! X7_isOnStrike -/
abbrev iX7_isOnStrike : g_I := (RX7, yX7_isOnStrike, cX7_isOnStrike, 1, (some .boolean), [], { frames := 1, cells := 0, slots := 0, locals := 20 })
set_option maxRecDepth 100000 in
set_option maxHeartbeats 4000000 in
theorem vX7_isOnStrike {G : g_G} {X : g_X} {Q : g_R → g_Hp → Prop} (C : g_Cx y_ G X iX7_isOnStrike) (h : g_Hp) (H : wX7_isOnStrike h Q) : g_V G X iX7_isOnStrike 0 0 Q 0 0 0 [(0, vR 0 0 0)] [] h := by
  refine s_aload_n (pc := 0) C dX7_isOnStrike_0 rfl 0 rfl ?_
  refine s_getr (pc := 1) (s := 0) (a := 1) (b := 0) (c' := 0) ckX7 (by decide) kw_300 rfl C dX7_isOnStrike_1 ?_
  refine s_geti (pc := 4) (s := 6) ckX1 (Or.inl rfl) (by decide) kw_179 (fun _ => rfl) C dX7_isOnStrike_4 ?_
  exact s_iret (pc := 7) rfl (g_nz H.1) ⟨by decide, by decide⟩ H.2 C dX7_isOnStrike_7
theorem ctX7_isOnStrike (l : Launch) (hl : l.stackTraces = false) {G : g_G} (h : g_Hp) (Q : g_R → g_Hp → Prop) (H : wX7_isOnStrike h Q) : g_Met l y_ G iX7_isOnStrike [vR 0 0 0] h Q :=
  g_Met_of hl (by decide +kernel) rfl rfl (Nat.le_of_ble_eq_true rfl) (fun X C => vX7_isOnStrike C h H)
/-! X7_strikeShifts -/
abbrev iX7_strikeShifts : g_I := (RX7, yX7_strikeShifts, cX7_strikeShifts, 1, (some .int), [], { frames := 6, cells := 1, slots := 6, locals := 95 })
set_option maxRecDepth 100000 in
set_option maxHeartbeats 4000000 in
theorem vX7_strikeShifts {G : g_G} {X : g_X} {Q : g_R → g_Hp → Prop} (C : g_Cx y_ G X iX7_strikeShifts) (h : g_Hp) (H : wX7_strikeShifts h Q) : g_V G X iX7_strikeShifts 1 6 Q 0 0 0 [(0, vR 0 0 0)] [] h := by
  refine s_aload_n (pc := 0) C dX7_strikeShifts_0 rfl 0 rfl ?_
  refine s_getr (pc := 1) (s := 0) (a := 1) (b := 0) (c' := 0) ckX7 (by decide) kw_300 rfl C dX7_strikeShifts_1 ?_
  refine s_geti (pc := 4) (s := 6) ckX1 (Or.inl rfl) (by decide) kw_179 (fun _ => rfl) C dX7_strikeShifts_4 ?_
  refine s_if_ne (pc := 7) (tgt := 20) C dX7_strikeShifts_7 (by decide) (fun c => ?_) (fun c => ?_)
  · have H := H.1 c
    refine s_aload_n (pc := 20) C dX7_strikeShifts_20 rfl 0 rfl ?_
    refine s_getr (pc := 21) (s := 0) (a := 1) (b := 0) (c' := 0) ckX7 (by decide) kw_300 rfl C dX7_strikeShifts_21 ?_
    refine s_geti (pc := 24) (s := 7) ckX1 (Or.inl rfl) (by decide) kw_181 (fun _ => rfl) C dX7_strikeShifts_24 ?_
    exact s_iret (pc := 27) rfl rfl ⟨by decide, by decide⟩ H C dX7_strikeShifts_27
  · have H := H.2 c
    exact s_throwS (pc := 10) (names := ["java/lang/RuntimeException", "java/lang/Exception"]) tw_RX7_IllegalStateException ss_RX7_166 rfl ⟨by decide, Nat.le_of_ble_eq_true rfl, by decide, by decide⟩ ⟨by decide, by decide⟩ H C dX7_strikeShifts_10 dX7_strikeShifts_13 dX7_strikeShifts_14 dX7_strikeShifts_16 dX7_strikeShifts_19
theorem ctX7_strikeShifts (l : Launch) (hl : l.stackTraces = false) {G : g_G} (h : g_Hp) (Q : g_R → g_Hp → Prop) (H : wX7_strikeShifts h Q) : g_Met l y_ G iX7_strikeShifts [vR 0 0 0] h Q :=
  g_Met_of hl (by decide +kernel) rfl rfl (Nat.le_of_ble_eq_true rfl) (fun X C => vX7_strikeShifts C h H)
/-! X7_payIn -/
abbrev iX7_payIn : g_I := (RX7, yX7_payIn, cX7_payIn, 3, (some .int), [], { frames := 7, cells := 1, slots := 6, locals := 115 })
set_option maxRecDepth 100000 in
set_option maxHeartbeats 4000000 in
theorem vX7_payIn {G : g_G} {X : g_X} {Q : g_R → g_Hp → Prop} (C : g_Cx y_ G X iX7_payIn) (p0 : Int32) (h : g_Hp) (H : wX7_payIn p0 h Q) : g_V G X iX7_payIn 1 6 Q 0 0 0 [(0, vR 0 0 0), (1, vI p0)] [] h := by
  refine s_aload_n (pc := 0) C dX7_payIn_0 rfl 0 rfl ?_
  refine s_getr (pc := 1) (s := 0) (a := 1) (b := 0) (c' := 0) ckX7 (by decide) kw_300 rfl C dX7_payIn_1 ?_
  refine s_iload_n (pc := 4) C dX7_payIn_4 rfl 1 rfl ?_
  refine s_callv (pc := 5) (nA := 1) (as := [vI p0]) (st := []) (stk := [vI p0, vR 1 0 0]) ckX1 (Or.inl rfl) C (fun l hl => ctX1_faultOfPaying l hl 0 p0 _ _ H) ⟨⟨kw_894, kw_59, kw_897⟩, rfl, ⟨by decide, by decide, by decide +kernel⟩, by decide, by decide⟩ kw_895 (g_selW kw_896) rfl (Nat.le_of_ble_eq_true rfl) ⟨by decide, by decide⟩ rfl dX7_payIn_5 (g_Kq_R (fun i2 j3 h1 H => ?_) (fun E h1 H => s_prop rfl ⟨by decide, by decide⟩ H C))
  refine s_calls (pc := 8) (nA := 1) (as := [vR 20 i2 j3]) (st := []) (stk := [vR 20 i2 j3]) C (fun l hl => ctX7_refuse l hl i2 j3 _ _ H) ⟨⟨kw_595, kw_58, kw_597⟩, rfl, ⟨by decide, by decide, by decide +kernel⟩, by decide, by decide⟩ kw_596 rfl (Nat.le_of_ble_eq_true rfl) ⟨by decide, by decide⟩ rfl dX7_payIn_8 (g_Kq_V (fun h4 H => ?_) (fun E h4 H => s_prop rfl ⟨by decide, by decide⟩ H C))
  refine s_aload_n (pc := 11) C dX7_payIn_11 rfl 0 rfl ?_
  refine s_callv (pc := 12) (nA := 0) (as := []) (st := []) (stk := [vR 0 0 0]) ckX7 (Or.inl rfl) C (fun l hl => ctX7_beginChange l hl _ _ H) ⟨⟨kw_671, kw_58, kw_674⟩, rfl, ⟨by decide, by decide, by decide +kernel⟩, by decide, by decide⟩ kw_673 (g_selW kw_3) rfl (Nat.le_of_ble_eq_true rfl) ⟨by decide, by decide⟩ rfl dX7_payIn_12 (g_Kq_V (fun h5 H => ?_) (fun E h5 H => s_prop rfl ⟨by decide, by decide⟩ H C))
  refine s_aload_n (pc := 15) C dX7_payIn_15 rfl 0 rfl ?_
  refine s_getr (pc := 16) (s := 0) (a := 1) (b := 0) (c' := 0) ckX7 (by decide) kw_300 rfl C dX7_payIn_16 ?_
  refine s_iload_n (pc := 19) C dX7_payIn_19 rfl 1 rfl ?_
  refine s_callv (pc := 20) (nA := 1) (as := [vI p0]) (st := []) (stk := [vI p0, vR 1 0 0]) ckX1 (Or.inl rfl) C (fun l hl => ctX1_pay l hl 0 p0 _ _ H) ⟨⟨kw_898, kw_59, kw_901⟩, rfl, ⟨by decide, by decide, by decide +kernel⟩, by decide, by decide⟩ kw_899 (g_selW kw_900) rfl (Nat.le_of_ble_eq_true rfl) ⟨by decide, by decide⟩ rfl dX7_payIn_20 (g_Kq_I (fun u7 h6 H => ?_) (fun E h6 H => s_prop rfl ⟨by decide, by decide⟩ H C))
  refine s_istore_n (pc := 23) (ls' := [(2, vI u7), (0, vR 0 0 0), (1, vI p0)]) C dX7_payIn_23 rfl (by decide) rfl ?_
  refine s_aload_n (pc := 24) C dX7_payIn_24 rfl 1 rfl ?_
  refine s_callv (pc := 25) (nA := 0) (as := []) (st := []) (stk := [vR 0 0 0]) ckX7 (Or.inl rfl) C (fun l hl => ctX7_endChange l hl _ _ H) ⟨⟨kw_683, kw_58, kw_686⟩, rfl, ⟨by decide, by decide, by decide +kernel⟩, by decide, by decide⟩ kw_685 (g_selW kw_4) rfl (Nat.le_of_ble_eq_true rfl) ⟨by decide, by decide⟩ rfl dX7_payIn_25 (g_Kq_V (fun h8 H => ?_) (fun E h8 H => s_prop rfl ⟨by decide, by decide⟩ H C))
  refine s_iload_n (pc := 28) C dX7_payIn_28 rfl 0 rfl ?_
  exact s_iret (pc := 29) rfl rfl ⟨by decide, by decide⟩ H C dX7_payIn_29
theorem ctX7_payIn (l : Launch) (hl : l.stackTraces = false) {G : g_G} (p0 : Int32) (h : g_Hp) (Q : g_R → g_Hp → Prop) (H : wX7_payIn p0 h Q) : g_Met l y_ G iX7_payIn [vR 0 0 0, vI p0] h Q :=
  g_Met_of hl (by decide +kernel) rfl rfl (Nat.le_of_ble_eq_true rfl) (fun X C => vX7_payIn C p0 h H)
/-! X7_fund -/
abbrev iX7_fund : g_I := (RX7, yX7_fund, cX7_fund, 1, (some .int), [], { frames := 1, cells := 0, slots := 0, locals := 20 })
set_option maxRecDepth 100000 in
set_option maxHeartbeats 4000000 in
theorem vX7_fund {G : g_G} {X : g_X} {Q : g_R → g_Hp → Prop} (C : g_Cx y_ G X iX7_fund) (h : g_Hp) (H : wX7_fund h Q) : g_V G X iX7_fund 0 0 Q 0 0 0 [(0, vR 0 0 0)] [] h := by
  refine s_aload_n (pc := 0) C dX7_fund_0 rfl 0 rfl ?_
  refine s_getr (pc := 1) (s := 0) (a := 1) (b := 0) (c' := 0) ckX7 (by decide) kw_300 rfl C dX7_fund_1 ?_
  refine s_geti (pc := 4) (s := 9) ckX1 (Or.inl rfl) (by decide) kw_184 (fun _ => rfl) C dX7_fund_4 ?_
  exact s_iret (pc := 7) rfl rfl ⟨by decide, by decide⟩ H C dX7_fund_7
theorem ctX7_fund (l : Launch) (hl : l.stackTraces = false) {G : g_G} (h : g_Hp) (Q : g_R → g_Hp → Prop) (H : wX7_fund h Q) : g_Met l y_ G iX7_fund [vR 0 0 0] h Q :=
  g_Met_of hl (by decide +kernel) rfl rfl (Nat.le_of_ble_eq_true rfl) (fun X C => vX7_fund C h H)
/-! X7_requireMembers -/
abbrev iX7_requireMembers : g_I := (RX7, yX7_requireMembers, cX7_requireMembers, 1, none, [], { frames := 6, cells := 1, slots := 6, locals := 95 })
set_option maxRecDepth 100000 in
set_option maxHeartbeats 4000000 in
theorem vX7_requireMembers {G : g_G} {X : g_X} {Q : g_R → g_Hp → Prop} (C : g_Cx y_ G X iX7_requireMembers) (h : g_Hp) (H : wX7_requireMembers h Q) : g_V G X iX7_requireMembers 1 6 Q 0 0 0 [(0, vR 0 0 0)] [] h := by
  refine s_aload_n (pc := 0) C dX7_requireMembers_0 rfl 0 rfl ?_
  refine s_getr (pc := 1) (s := 0) (a := 1) (b := 0) (c' := 0) ckX7 (by decide) kw_300 rfl C dX7_requireMembers_1 ?_
  refine s_geti (pc := 4) (s := 1) ckX1 (Or.inl rfl) (by decide) kw_169 (fun _ => rfl) C dX7_requireMembers_4 ?_
  refine s_if_ne (pc := 7) (tgt := 21) C dX7_requireMembers_7 (by decide) (fun c => ?_) (fun c => ?_)
  · have H := H.1 c
    exact s_vret (pc := 21) rfl ⟨by decide, by decide⟩ H C dX7_requireMembers_21
  · have H := H.2 c
    exact s_throwW (pc := 10) (names := ["java/lang/RuntimeException", "java/lang/Exception"]) tw_RX7_ArithmeticException ss_RX7_360 rfl ⟨by decide, Nat.le_of_ble_eq_true rfl, by decide, by decide⟩ ⟨by decide, by decide⟩ H C dX7_requireMembers_10 dX7_requireMembers_13 dX7_requireMembers_14 dX7_requireMembers_17 dX7_requireMembers_20
theorem ctX7_requireMembers (l : Launch) (hl : l.stackTraces = false) {G : g_G} (h : g_Hp) (Q : g_R → g_Hp → Prop) (H : wX7_requireMembers h Q) : g_Met l y_ G iX7_requireMembers [vR 0 0 0] h Q :=
  g_Met_of hl (by decide +kernel) rfl rfl (Nat.le_of_ble_eq_true rfl) (fun X C => vX7_requireMembers C h H)
