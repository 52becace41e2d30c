/-! X7_run -/
abbrev iX7_run : g_I := (RX7, yX7_run, cX7_run, 3, (some .int), [], { frames := 10, cells := 2, slots := 156, locals := 220 })
set_option maxRecDepth 100000 in
set_option maxHeartbeats 4000000 in
theorem vX7_run {G : g_G} {X : g_X} {Q : g_R → g_Hp → Prop} (C : g_Cx y_ G X iX7_run) (h : g_Hp) (H : wX7_run h Q) : g_V G X iX7_run 2 156 Q 0 0 0 [(0, vR 0 0 0)] [] h := by
  refine s_aload_n (pc := 0) C dX7_run_0 rfl 0 rfl ?_
  refine s_getr (pc := 1) (s := 6) (a := 3) (b := 0) (c' := 0) ckX7 (by decide) kw_306 rfl C dX7_run_1 ?_
  refine s_callv (pc := 4) (nA := 0) (as := []) (st := []) (stk := [vR 3 0 0]) ckX3 (Or.inl rfl) C (fun l hl => ctX3_readText l hl _ _ H) ⟨⟨kw_1156, kw_61, kw_1159⟩, rfl, ⟨by decide, by decide, by decide +kernel⟩, by decide, by decide⟩ kw_1157 (g_selW kw_1158) rfl (Nat.le_of_ble_eq_true rfl) ⟨by decide, by decide⟩ rfl dX7_run_4 (g_Kq_I (fun u2 h1 H => ?_) (fun E h1 H => s_prop rfl ⟨by decide, by decide⟩ H C))
  refine s_istore_n (pc := 7) (ls' := [(1, vI u2), (0, vR 0 0 0)]) C dX7_run_7 rfl (by decide) rfl ?_
  refine s_aload_n (pc := 8) C dX7_run_8 rfl 1 rfl ?_
  refine s_getr (pc := 9) (s := 6) (a := 3) (b := 0) (c' := 0) ckX7 (by decide) kw_306 rfl C dX7_run_9 ?_
  refine s_getr (pc := 12) (s := 0) (a := 6) (b := 0) (c' := 0) ckX3 (by decide) kw_282 rfl C dX7_run_12 ?_
  refine s_iconst (pc := 15) C dX7_run_15 (x := (0 : Int32)) (by decide) ?_
  refine s_callv (pc := 16) (nA := 1) (as := [vI (0 : Int32)]) (st := []) (stk := [vI (0 : Int32), vR 6 0 0]) ckJ4 (Or.inl rfl) C (fun l hl => ctJ4_setLength_d00df l hl 0 0 (0 : Int32) _ _ H) ⟨⟨kw_1237, kw_63, kw_1240⟩, rfl, ⟨by decide, by decide, by decide +kernel⟩, by decide, by decide⟩ kw_1238 (g_selW kw_1239) rfl (Nat.le_of_ble_eq_true rfl) ⟨by decide, by decide⟩ rfl dX7_run_16 (g_Kq_V (fun h3 H => ?_) (fun E h3 H => s_prop rfl ⟨by decide, by decide⟩ H C))
  refine s_iload_n (pc := 19) C dX7_run_19 rfl 0 rfl ?_
  refine s_if_ne (pc := 20) (tgt := 45) C dX7_run_20 (by decide) (fun c => ?_) (fun c => ?_)
  · have H := H.1 c
    refine s_aload_n (pc := 45) C dX7_run_45 rfl 1 rfl ?_
    refine s_callv (pc := 46) (nA := 0) (as := []) (st := []) (stk := [vR 0 0 0]) ckX7 (Or.inl rfl) C (fun l hl => ctX7_carryOutAll l hl _ _ H) ⟨⟨kw_1404, kw_58, kw_1407⟩, rfl, ⟨by decide, by decide, by decide +kernel⟩, by decide, by decide⟩ kw_1406 (g_selW kw_20) rfl (Nat.le_of_ble_eq_true rfl) ⟨by decide, by decide⟩ rfl dX7_run_46 (g_Kq_I (fun u5 h4 H => ?_) (fun E h4 H => s_prop rfl ⟨by decide, by decide⟩ H C))
    refine s_istore_n (pc := 49) (ls' := [(2, vI u5), (1, vI u2), (0, vR 0 0 0)]) C dX7_run_49 rfl (by decide) rfl ?_
    refine s_iload_n (pc := 50) C dX7_run_50 rfl 0 rfl ?_
    refine s_iconst (pc := 51) C dX7_run_51 (x := (-1 : Int32)) (by decide) ?_
    refine s_icmp_eq (pc := 52) (tgt := 71) C dX7_run_52 (by decide) (fun c => ?_) (fun c => ?_)
    · have H := H.1 c
      refine s_aload_n (pc := 71) C dX7_run_71 rfl 2 rfl ?_
      refine s_getr (pc := 72) (s := 6) (a := 3) (b := 0) (c' := 0) ckX7 (by decide) kw_306 rfl C dX7_run_72 ?_
      refine s_geti (pc := 75) (s := 2) ckX3 (Or.inl rfl) (by decide) kw_286 (fun _ => rfl) C dX7_run_75 ?_
      exact s_iret (pc := 78) rfl rfl ⟨by decide, by decide⟩ H C dX7_run_78
    · have H := H.2 c
      refine s_aload_n (pc := 55) C dX7_run_55 rfl 2 rfl ?_
      refine s_iload_n (pc := 56) C dX7_run_56 rfl 0 rfl ?_
      refine s_puti (pc := 57) (s := 8) ckX7 (Or.inl rfl) (by decide) kw_308 (fun _ => rfl) rfl rfl rfl C dX7_run_57 ?_
      refine s_name (fun h6 eh6 => ?_)
      have H := H h6 eh6
      exact s_throwW (pc := 60) (names := ["java/lang/RuntimeException", "java/lang/Exception"]) tw_RX7_IllegalStateException ss_RX7_288 rfl ⟨by decide, Nat.le_of_ble_eq_true rfl, by decide, by decide⟩ ⟨by decide, by decide⟩ H C dX7_run_60 dX7_run_63 dX7_run_64 dX7_run_67 dX7_run_70
  · have H := H.2 c
    refine s_aload_n (pc := 23) C dX7_run_23 rfl 1 rfl ?_
    refine s_aload_n (pc := 24) C dX7_run_24 rfl 1 rfl ?_
    refine s_getr (pc := 25) (s := 6) (a := 3) (b := 0) (c' := 0) ckX7 (by decide) kw_306 rfl C dX7_run_25 ?_
    refine s_geti (pc := 28) (s := 3) ckX3 (Or.inl rfl) (by decide) kw_288 (fun _ => rfl) C dX7_run_28 ?_
    refine s_puti (pc := 31) (s := 7) ckX7 (Or.inl rfl) (by decide) kw_307 (fun _ => rfl) rfl rfl rfl C dX7_run_31 ?_
    refine s_name (fun h7 eh7 => ?_)
    have H := H h7 eh7
    exact s_throwW (pc := 34) (names := ["java/lang/RuntimeException", "java/lang/Exception"]) tw_RX7_IllegalArgumentException ss_RX7_283 rfl ⟨by decide, Nat.le_of_ble_eq_true rfl, by decide, by decide⟩ ⟨by decide, by decide⟩ H C dX7_run_34 dX7_run_37 dX7_run_38 dX7_run_41 dX7_run_44
theorem ctX7_run (l : Launch) (hl : l.stackTraces = false) {G : g_G} (h : g_Hp) (Q : g_R → g_Hp → Prop) (H : wX7_run h Q) : g_Met l y_ G iX7_run [vR 0 0 0] h Q :=
  g_Met_of hl (by decide +kernel) rfl rfl (Nat.le_of_ble_eq_true rfl) (fun X C => vX7_run C h H)
/-! X7_errorPosition -/
abbrev iX7_errorPosition : g_I := (RX7, yX7_errorPosition, cX7_errorPosition, 1, (some .int), [], { frames := 6, cells := 1, slots := 6, locals := 95 })
set_option maxRecDepth 100000 in
set_option maxHeartbeats 4000000 in
theorem vX7_errorPosition {G : g_G} {X : g_X} {Q : g_R → g_Hp → Prop} (C : g_Cx y_ G X iX7_errorPosition) (h : g_Hp) (H : wX7_errorPosition h Q) : g_V G X iX7_errorPosition 1 6 Q 0 0 0 [(0, vR 0 0 0)] [] h := by
  refine s_aload_n (pc := 0) C dX7_errorPosition_0 rfl 0 rfl ?_
  refine s_geti (pc := 1) (s := 7) ckX7 (Or.inl rfl) (by decide) kw_307 (fun _ => rfl) C dX7_errorPosition_1 ?_
  refine s_iconst (pc := 4) C dX7_errorPosition_4 (x := (-1 : Int32)) (by decide) ?_
  refine s_icmp_ne (pc := 5) (tgt := 19) C dX7_errorPosition_5 (by decide) (fun c => ?_) (fun c => ?_)
  · have H := H.1 c
    refine s_aload_n (pc := 19) C dX7_errorPosition_19 rfl 0 rfl ?_
    refine s_geti (pc := 20) (s := 7) ckX7 (Or.inl rfl) (by decide) kw_307 (fun _ => rfl) C dX7_errorPosition_20 ?_
    exact s_iret (pc := 23) rfl rfl ⟨by decide, by decide⟩ H C dX7_errorPosition_23
  · have H := H.2 c
    exact s_throwWN (pc := 8) tn_nse ss_RX7_293 rfl rfl ⟨by decide, Nat.le_of_ble_eq_true rfl, by decide, by decide⟩ ⟨by decide, by decide⟩ H C dX7_errorPosition_8 dX7_errorPosition_11 dX7_errorPosition_12 dX7_errorPosition_15 dX7_errorPosition_18
theorem ctX7_errorPosition (l : Launch) (hl : l.stackTraces = false) {G : g_G} (h : g_Hp) (Q : g_R → g_Hp → Prop) (H : wX7_errorPosition h Q) : g_Met l y_ G iX7_errorPosition [vR 0 0 0] h Q :=
  g_Met_of hl (by decide +kernel) rfl rfl (Nat.le_of_ble_eq_true rfl) (fun X C => vX7_errorPosition C h H)
/-! X7_failedCommand -/
abbrev iX7_failedCommand : g_I := (RX7, yX7_failedCommand, cX7_failedCommand, 1, (some .int), [], { frames := 6, cells := 1, slots := 6, locals := 95 })
set_option maxRecDepth 100000 in
set_option maxHeartbeats 4000000 in
theorem vX7_failedCommand {G : g_G} {X : g_X} {Q : g_R → g_Hp → Prop} (C : g_Cx y_ G X iX7_failedCommand) (h : g_Hp) (H : wX7_failedCommand h Q) : g_V G X iX7_failedCommand 1 6 Q 0 0 0 [(0, vR 0 0 0)] [] h := by
  refine s_aload_n (pc := 0) C dX7_failedCommand_0 rfl 0 rfl ?_
  refine s_geti (pc := 1) (s := 8) ckX7 (Or.inl rfl) (by decide) kw_308 (fun _ => rfl) C dX7_failedCommand_1 ?_
  refine s_iconst (pc := 4) C dX7_failedCommand_4 (x := (-1 : Int32)) (by decide) ?_
  refine s_icmp_ne (pc := 5) (tgt := 19) C dX7_failedCommand_5 (by decide) (fun c => ?_) (fun c => ?_)
  · have H := H.1 c
    refine s_aload_n (pc := 19) C dX7_failedCommand_19 rfl 0 rfl ?_
    refine s_geti (pc := 20) (s := 8) ckX7 (Or.inl rfl) (by decide) kw_308 (fun _ => rfl) C dX7_failedCommand_20 ?_
    exact s_iret (pc := 23) rfl rfl ⟨by decide, by decide⟩ H C dX7_failedCommand_23
  · have H := H.2 c
    exact s_throwWN (pc := 8) tn_nse ss_RX7_295 rfl rfl ⟨by decide, Nat.le_of_ble_eq_true rfl, by decide, by decide⟩ ⟨by decide, by decide⟩ H C dX7_failedCommand_8 dX7_failedCommand_11 dX7_failedCommand_12 dX7_failedCommand_15 dX7_failedCommand_18
theorem ctX7_failedCommand (l : Launch) (hl : l.stackTraces = false) {G : g_G} (h : g_Hp) (Q : g_R → g_Hp → Prop) (H : wX7_failedCommand h Q) : g_Met l y_ G iX7_failedCommand [vR 0 0 0] h Q :=
  g_Met_of hl (by decide +kernel) rfl rfl (Nat.le_of_ble_eq_true rfl) (fun X C => vX7_failedCommand C h H)
/-! X7_describeMember -/
abbrev iX7_describeMember : g_I := (RX7, yX7_describeMember, cX7_describeMember, 3, (some .int), [], { frames := 7, cells := 14, slots := 1956, locals := 208 })
set_option maxRecDepth 100000 in
set_option maxHeartbeats 4000000 in
theorem vX7_describeMember_b144 {G : g_G} {X : g_X} {Q : g_R → g_Hp → Prop} (C : g_Cx y_ G X iX7_describeMember) (h : g_Hp) (H : wX7_describeMember_b144 Q h) : g_V G X iX7_describeMember 14 1956 Q 144 14 1956 [(0, vR 0 0 0)] [] h := by
  refine s_aload_n (pc := 144) C dX7_describeMember_144 rfl 0 rfl ?_
  refine s_getr (pc := 145) (s := 9) (a := 6) (b := 1) (c' := 0) ckX7 (by decide) kw_309 rfl C dX7_describeMember_145 ?_
  refine s_callv (pc := 148) (nA := 0) (as := []) (st := []) (stk := [vR 6 1 0]) ckJ4 (Or.inl rfl) C (fun l hl => ctJ4_length_8abf5 l hl 1 0 _ _ H) ⟨⟨kw_1048, kw_63, kw_1051⟩, rfl, ⟨by decide, by decide, by decide +kernel⟩, by decide, by decide⟩ kw_1049 (g_selW kw_1050) rfl (Nat.le_of_ble_eq_true rfl) ⟨by decide, by decide⟩ rfl dX7_describeMember_148 (g_Kq_I (fun u2 h1 H => ?_) (fun E h1 H => s_prop rfl ⟨by decide, by decide⟩ H C))
  exact s_iret (pc := 151) rfl rfl ⟨by decide, by decide⟩ H C dX7_describeMember_151
set_option maxRecDepth 100000 in
set_option maxHeartbeats 4000000 in
theorem vX7_describeMember_b126 {G : g_G} {X : g_X} {Q : g_R → g_Hp → Prop} (C : g_Cx y_ G X iX7_describeMember) (x2i : Nat) (x2j : Nat) (h : g_Hp) (H : wX7_describeMember_b126 Q x2i x2j h) : g_V G X iX7_describeMember 14 1956 Q 126 13 1806 [(0, vR 0 0 0), (2, vR 2 x2i x2j)] [] h := by
  refine s_aload_n (pc := 126) C dX7_describeMember_126 rfl 1 rfl ?_
  refine s_geti (pc := 127) (s := 9) ckX6 (Or.inl rfl) (by decide) kw_140 (fun _ => rfl) C dX7_describeMember_127 ?_
  refine s_iconst (pc := 130) C dX7_describeMember_130 (x := (-1 : Int32)) (by decide) ?_
  refine s_icmp_eq (pc := 131) (tgt := 144) C dX7_describeMember_131 (by decide) (fun c => ?_) (fun c => ?_)
  · have H := H.1 c
    exact s_wide (k' := 14) (n' := 1956) (by decide) (by decide) <| s_sub (ls' := [(0, vR 0 0 0)]) [0] rfl (vX7_describeMember_b144 C  h H)
  · have H := H.2 c
    refine s_aload_n (pc := 134) C dX7_describeMember_134 rfl 0 rfl ?_
    refine s_getr (pc := 135) (s := 9) (a := 6) (b := 1) (c' := 0) ckX7 (by decide) kw_309 rfl C dX7_describeMember_135 ?_
    refine s_bipush (pc := 138) C dX7_describeMember_138 (x := (33 : Int32)) (by decide) ?_
    refine s_callv (pc := 140) (nA := 1) (as := [vI (33 : Int32)]) (st := []) (stk := [vI (33 : Int32), vR 6 1 0]) ckJ4 (Or.inl rfl) C (fun l hl => ctJ4_append_cf468 l hl 1 0 (33 : Int32) _ _ H) ⟨⟨kw_1056, kw_63, kw_1059⟩, rfl, ⟨by decide, by decide, by decide +kernel⟩, by decide, by decide⟩ kw_1057 (g_selW kw_1058) rfl (Nat.le_of_ble_eq_true rfl) ⟨by decide, by decide⟩ rfl dX7_describeMember_140 (g_Kq_R (fun i2 j3 h1 H => ?_) (fun E h1 H => s_prop rfl ⟨by decide, by decide⟩ H C))
    refine s_pop (pc := 143) C dX7_describeMember_143 rfl ?_
    exact s_sub (ls' := [(0, vR 0 0 0)]) [0] rfl (vX7_describeMember_b144 C  h1 H)
set_option maxRecDepth 100000 in
set_option maxHeartbeats 4000000 in
theorem vX7_describeMember_b102 {G : g_G} {X : g_X} {Q : g_R → g_Hp → Prop} (C : g_Cx y_ G X iX7_describeMember) (x2i : Nat) (x2j : Nat) (h : g_Hp) (H : wX7_describeMember_b102 Q x2i x2j h) : g_V G X iX7_describeMember 14 1956 Q 102 11 1506 [(0, vR 0 0 0), (2, vR 2 x2i x2j)] [] h := by
  refine s_aload_n (pc := 102) C dX7_describeMember_102 rfl 1 rfl ?_
  refine s_geti (pc := 103) (s := 5) ckX6 (Or.inl rfl) (by decide) kw_128 (fun _ => rfl) C dX7_describeMember_103 ?_
  refine s_if_eq (pc := 106) (tgt := 126) C dX7_describeMember_106 (by decide) (fun c => ?_) (fun c => ?_)
  · have H := H.1 c
    exact s_wide (k' := 13) (n' := 1806) (by decide) (by decide) <| s_sub (ls' := [(0, vR 0 0 0), (2, vR 2 x2i x2j)]) [0, 1] rfl (vX7_describeMember_b126 C x2i x2j h H)
  · have H := H.2 c
    refine s_aload_n (pc := 109) C dX7_describeMember_109 rfl 0 rfl ?_
    refine s_getr (pc := 110) (s := 9) (a := 6) (b := 1) (c' := 0) ckX7 (by decide) kw_309 rfl C dX7_describeMember_110 ?_
    refine s_bipush (pc := 113) C dX7_describeMember_113 (x := (45 : Int32)) (by decide) ?_
    refine s_callv (pc := 115) (nA := 1) (as := [vI (45 : Int32)]) (st := []) (stk := [vI (45 : Int32), vR 6 1 0]) ckJ4 (Or.inl rfl) C (fun l hl => ctJ4_append_cf468 l hl 1 0 (45 : Int32) _ _ H) ⟨⟨kw_1056, kw_63, kw_1059⟩, rfl, ⟨by decide, by decide, by decide +kernel⟩, by decide, by decide⟩ kw_1057 (g_selW kw_1058) rfl (Nat.le_of_ble_eq_true rfl) ⟨by decide, by decide⟩ rfl dX7_describeMember_115 (g_Kq_R (fun i2 j3 h1 H => ?_) (fun E h1 H => s_prop rfl ⟨by decide, by decide⟩ H C))
    refine s_aload_n (pc := 118) C dX7_describeMember_118 rfl 1 rfl ?_
    refine s_geti (pc := 119) (s := 5) ckX6 (Or.inl rfl) (by decide) kw_128 (fun _ => rfl) C dX7_describeMember_119 ?_
    refine s_callv (pc := 122) (nA := 1) (as := [vI (h1 2 x2i x2j 6)]) (st := []) (stk := [vI (h1 2 x2i x2j 6), vR 6 i2 j3]) ckJ4 (Or.inl rfl) C (fun l hl => ctJ4_append_bf812 l hl i2 j3 (h1 2 x2i x2j 6) _ _ H) ⟨⟨kw_1466, kw_63, kw_1294⟩, rfl, ⟨by decide, by decide, by decide +kernel⟩, by decide, by decide⟩ kw_1292 (g_selW kw_1293) rfl (Nat.le_of_ble_eq_true rfl) ⟨by decide, by decide⟩ rfl dX7_describeMember_122 (g_Kq_R (fun i5 j6 h4 H => ?_) (fun E h4 H => s_prop rfl ⟨by decide, by decide⟩ H C))
    refine s_pop (pc := 125) C dX7_describeMember_125 rfl ?_
    exact s_sub (ls' := [(0, vR 0 0 0), (2, vR 2 x2i x2j)]) [0, 1] rfl (vX7_describeMember_b126 C x2i x2j h4 H)
set_option maxRecDepth 100000 in
set_option maxHeartbeats 4000000 in
theorem vX7_describeMember {G : g_G} {X : g_X} {Q : g_R → g_Hp → Prop} (C : g_Cx y_ G X iX7_describeMember) (p0 : Int32) (h : g_Hp) (H : wX7_describeMember p0 h Q) : g_V G X iX7_describeMember 14 1956 Q 0 0 0 [(0, vR 0 0 0), (1, vI p0)] [] h := by
  refine s_aload_n (pc := 0) C dX7_describeMember_0 rfl 0 rfl ?_
  refine s_iload_n (pc := 1) C dX7_describeMember_1 rfl 1 rfl ?_
  refine s_callv (pc := 2) (nA := 1) (as := [vI p0]) (st := []) (stk := [vI p0, vR 0 0 0]) ckX7 (Or.inl rfl) C (fun l hl => ctX7_existing l hl p0 _ _ H) ⟨⟨kw_407, kw_58, kw_410⟩, rfl, ⟨by decide, by decide, by decide +kernel⟩, by decide, by decide⟩ kw_409 (g_selW kw_0) rfl (Nat.le_of_ble_eq_true rfl) ⟨by decide, by decide⟩ rfl dX7_describeMember_2 (g_Kq_R (fun i2 j3 h1 H => ?_) (fun E h1 H => s_prop rfl ⟨by decide, by decide⟩ H C))
  refine s_astore_n (pc := 5) (ls' := [(2, vR 2 i2 j3), (0, vR 0 0 0), (1, vI p0)]) C dX7_describeMember_5 rfl (by decide) rfl ?_
  refine s_aload_n (pc := 6) C dX7_describeMember_6 rfl 1 rfl ?_
  refine s_getr (pc := 7) (s := 9) (a := 6) (b := 1) (c' := 0) ckX7 (by decide) kw_309 rfl C dX7_describeMember_7 ?_
  refine s_iconst (pc := 10) C dX7_describeMember_10 (x := (0 : Int32)) (by decide) ?_
  refine s_callv (pc := 11) (nA := 1) (as := [vI (0 : Int32)]) (st := []) (stk := [vI (0 : Int32), vR 6 1 0]) ckJ4 (Or.inl rfl) C (fun l hl => ctJ4_setLength_d00df l hl 1 0 (0 : Int32) _ _ H) ⟨⟨kw_1237, kw_63, kw_1240⟩, rfl, ⟨by decide, by decide, by decide +kernel⟩, by decide, by decide⟩ kw_1238 (g_selW kw_1239) rfl (Nat.le_of_ble_eq_true rfl) ⟨by decide, by decide⟩ rfl dX7_describeMember_11 (g_Kq_V (fun h4 H => ?_) (fun E h4 H => s_prop rfl ⟨by decide, by decide⟩ H C))
  refine s_aload_n (pc := 14) C dX7_describeMember_14 rfl 1 rfl ?_
  refine s_getr (pc := 15) (s := 9) (a := 6) (b := 1) (c' := 0) ckX7 (by decide) kw_309 rfl C dX7_describeMember_15 ?_
  refine s_bipush (pc := 18) C dX7_describeMember_18 (x := (109 : Int32)) (by decide) ?_
  refine s_callv (pc := 20) (nA := 1) (as := [vI (109 : Int32)]) (st := []) (stk := [vI (109 : Int32), vR 6 1 0]) ckJ4 (Or.inl rfl) C (fun l hl => ctJ4_append_cf468 l hl 1 0 (109 : Int32) _ _ H) ⟨⟨kw_1056, kw_63, kw_1059⟩, rfl, ⟨by decide, by decide, by decide +kernel⟩, by decide, by decide⟩ kw_1057 (g_selW kw_1058) rfl (Nat.le_of_ble_eq_true rfl) ⟨by decide, by decide⟩ rfl dX7_describeMember_20 (g_Kq_R (fun i6 j7 h5 H => ?_) (fun E h5 H => s_prop rfl ⟨by decide, by decide⟩ H C))
  refine s_iload_n (pc := 23) C dX7_describeMember_23 rfl 2 rfl ?_
  refine s_callv (pc := 24) (nA := 1) (as := [vI p0]) (st := []) (stk := [vI p0, vR 6 i6 j7]) ckJ4 (Or.inl rfl) C (fun l hl => ctJ4_append_bf812 l hl i6 j7 p0 _ _ H) ⟨⟨kw_1466, kw_63, kw_1294⟩, rfl, ⟨by decide, by decide, by decide +kernel⟩, by decide, by decide⟩ kw_1292 (g_selW kw_1293) rfl (Nat.le_of_ble_eq_true rfl) ⟨by decide, by decide⟩ rfl dX7_describeMember_24 (g_Kq_R (fun i9 j10 h8 H => ?_) (fun E h8 H => s_prop rfl ⟨by decide, by decide⟩ H C))
  refine s_pop (pc := 27) C dX7_describeMember_27 rfl ?_
  refine s_aload_n (pc := 28) C dX7_describeMember_28 rfl 1 rfl ?_
  refine s_getr (pc := 29) (s := 9) (a := 6) (b := 1) (c' := 0) ckX7 (by decide) kw_309 rfl C dX7_describeMember_29 ?_
  refine s_bipush (pc := 32) C dX7_describeMember_32 (x := (64 : Int32)) (by decide) ?_
  refine s_callv (pc := 34) (nA := 1) (as := [vI (64 : Int32)]) (st := []) (stk := [vI (64 : Int32), vR 6 1 0]) ckJ4 (Or.inl rfl) C (fun l hl => ctJ4_append_cf468 l hl 1 0 (64 : Int32) _ _ H) ⟨⟨kw_1056, kw_63, kw_1059⟩, rfl, ⟨by decide, by decide, by decide +kernel⟩, by decide, by decide⟩ kw_1057 (g_selW kw_1058) rfl (Nat.le_of_ble_eq_true rfl) ⟨by decide, by decide⟩ rfl dX7_describeMember_34 (g_Kq_R (fun i12 j13 h11 H => ?_) (fun E h11 H => s_prop rfl ⟨by decide, by decide⟩ H C))
  refine s_aload_n (pc := 37) C dX7_describeMember_37 rfl 0 rfl ?_
  refine s_geti (pc := 38) (s := 0) ckX6 (Or.inl rfl) (by decide) kw_113 (fun _ => rfl) C dX7_describeMember_38 ?_
  refine s_callv (pc := 41) (nA := 1) (as := [vI (h11 2 i2 j3 1)]) (st := []) (stk := [vI (h11 2 i2 j3 1), vR 6 i12 j13]) ckJ4 (Or.inl rfl) C (fun l hl => ctJ4_append_bf812 l hl i12 j13 (h11 2 i2 j3 1) _ _ H) ⟨⟨kw_1466, kw_63, kw_1294⟩, rfl, ⟨by decide, by decide, by decide +kernel⟩, by decide, by decide⟩ kw_1292 (g_selW kw_1293) rfl (Nat.le_of_ble_eq_true rfl) ⟨by decide, by decide⟩ rfl dX7_describeMember_41 (g_Kq_R (fun i15 j16 h14 H => ?_) (fun E h14 H => s_prop rfl ⟨by decide, by decide⟩ H C))
  refine s_pop (pc := 44) C dX7_describeMember_44 rfl ?_
  refine s_aload_n (pc := 45) C dX7_describeMember_45 rfl 1 rfl ?_
  refine s_getr (pc := 46) (s := 9) (a := 6) (b := 1) (c' := 0) ckX7 (by decide) kw_309 rfl C dX7_describeMember_46 ?_
  refine s_bipush (pc := 49) C dX7_describeMember_49 (x := (97 : Int32)) (by decide) ?_
  refine s_aload_n (pc := 51) C dX7_describeMember_51 rfl 0 rfl ?_
  refine s_geti (pc := 52) (s := 2) ckX6 (Or.inl rfl) (by decide) kw_119 (fun _ => rfl) C dX7_describeMember_52 ?_
  refine s_iadd (pc := 55) C dX7_describeMember_55 ?_
  refine s_i2c (pc := 56) C dX7_describeMember_56 ?_
  refine s_callv (pc := 57) (nA := 1) (as := [vI ((((97 : Int32) + (h14 2 i2 j3 3)).toUInt32 % 65536).toInt32)]) (st := []) (stk := [vI ((((97 : Int32) + (h14 2 i2 j3 3)).toUInt32 % 65536).toInt32), vR 6 1 0]) ckJ4 (Or.inl rfl) C (fun l hl => ctJ4_append_cf468 l hl 1 0 ((((97 : Int32) + (h14 2 i2 j3 3)).toUInt32 % 65536).toInt32) _ _ H) ⟨⟨kw_1056, kw_63, kw_1059⟩, rfl, ⟨by decide, by decide, by decide +kernel⟩, by decide, by decide⟩ kw_1057 (g_selW kw_1058) rfl (Nat.le_of_ble_eq_true rfl) ⟨by decide, by decide⟩ rfl dX7_describeMember_57 (g_Kq_R (fun i18 j19 h17 H => ?_) (fun E h17 H => s_prop rfl ⟨by decide, by decide⟩ H C))
  refine s_pop (pc := 60) C dX7_describeMember_60 rfl ?_
  refine s_aload_n (pc := 61) C dX7_describeMember_61 rfl 1 rfl ?_
  refine s_getr (pc := 62) (s := 9) (a := 6) (b := 1) (c' := 0) ckX7 (by decide) kw_309 rfl C dX7_describeMember_62 ?_
  refine s_bipush (pc := 65) C dX7_describeMember_65 (x := (32 : Int32)) (by decide) ?_
  refine s_callv (pc := 67) (nA := 1) (as := [vI (32 : Int32)]) (st := []) (stk := [vI (32 : Int32), vR 6 1 0]) ckJ4 (Or.inl rfl) C (fun l hl => ctJ4_append_cf468 l hl 1 0 (32 : Int32) _ _ H) ⟨⟨kw_1056, kw_63, kw_1059⟩, rfl, ⟨by decide, by decide, by decide +kernel⟩, by decide, by decide⟩ kw_1057 (g_selW kw_1058) rfl (Nat.le_of_ble_eq_true rfl) ⟨by decide, by decide⟩ rfl dX7_describeMember_67 (g_Kq_R (fun i21 j22 h20 H => ?_) (fun E h20 H => s_prop rfl ⟨by decide, by decide⟩ H C))
  refine s_aload_n (pc := 70) C dX7_describeMember_70 rfl 0 rfl ?_
  refine s_geti (pc := 71) (s := 3) ckX6 (Or.inl rfl) (by decide) kw_122 (fun _ => rfl) C dX7_describeMember_71 ?_
  refine s_callv (pc := 74) (nA := 1) (as := [vI (h20 2 i2 j3 4)]) (st := []) (stk := [vI (h20 2 i2 j3 4), vR 6 i21 j22]) ckJ4 (Or.inl rfl) C (fun l hl => ctJ4_append_bf812 l hl i21 j22 (h20 2 i2 j3 4) _ _ H) ⟨⟨kw_1466, kw_63, kw_1294⟩, rfl, ⟨by decide, by decide, by decide +kernel⟩, by decide, by decide⟩ kw_1292 (g_selW kw_1293) rfl (Nat.le_of_ble_eq_true rfl) ⟨by decide, by decide⟩ rfl dX7_describeMember_74 (g_Kq_R (fun i24 j25 h23 H => ?_) (fun E h23 H => s_prop rfl ⟨by decide, by decide⟩ H C))
  refine s_pop (pc := 77) C dX7_describeMember_77 rfl ?_
  refine s_aload_n (pc := 78) C dX7_describeMember_78 rfl 0 rfl ?_
  refine s_geti (pc := 79) (s := 4) ckX6 (Or.inl rfl) (by decide) kw_125 (fun _ => rfl) C dX7_describeMember_79 ?_
  refine s_if_eq (pc := 82) (tgt := 102) C dX7_describeMember_82 (by decide) (fun c => ?_) (fun c => ?_)
  · have H := H.1 c
    exact s_wide (k' := 11) (n' := 1506) (by decide) (by decide) <| s_sub (ls' := [(0, vR 0 0 0), (2, vR 2 i2 j3)]) [1, 0] rfl (vX7_describeMember_b102 C i2 j3 h23 H)
  · have H := H.2 c
    refine s_aload_n (pc := 85) C dX7_describeMember_85 rfl 1 rfl ?_
    refine s_getr (pc := 86) (s := 9) (a := 6) (b := 1) (c' := 0) ckX7 (by decide) kw_309 rfl C dX7_describeMember_86 ?_
    refine s_bipush (pc := 89) C dX7_describeMember_89 (x := (43 : Int32)) (by decide) ?_
    refine s_callv (pc := 91) (nA := 1) (as := [vI (43 : Int32)]) (st := []) (stk := [vI (43 : Int32), vR 6 1 0]) ckJ4 (Or.inl rfl) C (fun l hl => ctJ4_append_cf468 l hl 1 0 (43 : Int32) _ _ H) ⟨⟨kw_1056, kw_63, kw_1059⟩, rfl, ⟨by decide, by decide, by decide +kernel⟩, by decide, by decide⟩ kw_1057 (g_selW kw_1058) rfl (Nat.le_of_ble_eq_true rfl) ⟨by decide, by decide⟩ rfl dX7_describeMember_91 (g_Kq_R (fun i27 j28 h26 H => ?_) (fun E h26 H => s_prop rfl ⟨by decide, by decide⟩ H C))
    refine s_aload_n (pc := 94) C dX7_describeMember_94 rfl 0 rfl ?_
    refine s_geti (pc := 95) (s := 4) ckX6 (Or.inl rfl) (by decide) kw_125 (fun _ => rfl) C dX7_describeMember_95 ?_
    refine s_callv (pc := 98) (nA := 1) (as := [vI (h26 2 i2 j3 5)]) (st := []) (stk := [vI (h26 2 i2 j3 5), vR 6 i27 j28]) ckJ4 (Or.inl rfl) C (fun l hl => ctJ4_append_bf812 l hl i27 j28 (h26 2 i2 j3 5) _ _ H) ⟨⟨kw_1466, kw_63, kw_1294⟩, rfl, ⟨by decide, by decide, by decide +kernel⟩, by decide, by decide⟩ kw_1292 (g_selW kw_1293) rfl (Nat.le_of_ble_eq_true rfl) ⟨by decide, by decide⟩ rfl dX7_describeMember_98 (g_Kq_R (fun i30 j31 h29 H => ?_) (fun E h29 H => s_prop rfl ⟨by decide, by decide⟩ H C))
    refine s_pop (pc := 101) C dX7_describeMember_101 rfl ?_
    exact s_sub (ls' := [(0, vR 0 0 0), (2, vR 2 i2 j3)]) [1, 0] rfl (vX7_describeMember_b102 C i2 j3 h29 H)
theorem ctX7_describeMember (l : Launch) (hl : l.stackTraces = false) {G : g_G} (p0 : Int32) (h : g_Hp) (Q : g_R → g_Hp → Prop) (H : wX7_describeMember p0 h Q) : g_Met l y_ G iX7_describeMember [vR 0 0 0, vI p0] h Q :=
  g_Met_of hl (by decide +kernel) rfl rfl (Nat.le_of_ble_eq_true rfl) (fun X C => vX7_describeMember C p0 h H)
/-! X7_lineAt -/
abbrev iX7_lineAt : g_I := (RX7, yX7_lineAt, cX7_lineAt, 2, (some .char), [], { frames := 6, cells := 1, slots := 6, locals := 108 })
set_option maxRecDepth 100000 in
set_option maxHeartbeats 4000000 in
theorem vX7_lineAt_b15 {G : g_G} {X : g_X} {Q : g_R → g_Hp → Prop} (C : g_Cx y_ G X iX7_lineAt) (h : g_Hp) (H : wX7_lineAt_b15 Q h) : g_V G X iX7_lineAt 1 6 Q 15 0 0 [] [] h := by
  exact s_throwW (pc := 15) (names := ["java/lang/RuntimeException", "java/lang/Exception"]) tw_RX7_IndexOutOfBoundsException ss_RX7_302 rfl ⟨by decide, Nat.le_of_ble_eq_true rfl, by decide, by decide⟩ ⟨by decide, by decide⟩ H C dX7_lineAt_15 dX7_lineAt_18 dX7_lineAt_19 dX7_lineAt_22 dX7_lineAt_25
set_option maxRecDepth 100000 in
set_option maxHeartbeats 4000000 in
theorem vX7_lineAt {G : g_G} {X : g_X} {Q : g_R → g_Hp → Prop} (C : g_Cx y_ G X iX7_lineAt) (p0 : Int32) (h : g_Hp) (H : wX7_lineAt p0 h Q) : g_V G X iX7_lineAt 1 6 Q 0 0 0 [(0, vR 0 0 0), (1, vI p0)] [] h := by
  refine s_iload_n (pc := 0) C dX7_lineAt_0 rfl 1 rfl ?_
  refine s_if_lt (pc := 1) (tgt := 15) C dX7_lineAt_1 (by decide) (fun c => ?_) (fun c => ?_)
  · have H := H.1 c
    exact s_sub (ls' := []) [] rfl (vX7_lineAt_b15 C  h H)
  · have H := H.2 c
    refine s_iload_n (pc := 4) C dX7_lineAt_4 rfl 1 rfl ?_
    refine s_aload_n (pc := 5) C dX7_lineAt_5 rfl 0 rfl ?_
    refine s_getr (pc := 6) (s := 9) (a := 6) (b := 1) (c' := 0) ckX7 (by decide) kw_309 rfl C dX7_lineAt_6 ?_
    refine s_callv (pc := 9) (nA := 0) (as := []) (st := [vI p0]) (stk := [vR 6 1 0, vI p0]) ckJ4 (Or.inl rfl) C (fun l hl => ctJ4_length_8abf5 l hl 1 0 _ _ H) ⟨⟨kw_1048, kw_63, kw_1051⟩, rfl, ⟨by decide, by decide, by decide +kernel⟩, by decide, by decide⟩ kw_1049 (g_selW kw_1050) rfl (Nat.le_of_ble_eq_true rfl) ⟨by decide, by decide⟩ rfl dX7_lineAt_9 (g_Kq_I (fun u2 h1 H => ?_) (fun E h1 H => s_prop rfl ⟨by decide, by decide⟩ H C))
    refine s_icmp_lt (pc := 12) (tgt := 26) C dX7_lineAt_12 (by decide) (fun c => ?_) (fun c => ?_)
    · have H := H.1 c
      refine s_aload_n (pc := 26) C dX7_lineAt_26 rfl 0 rfl ?_
      refine s_getr (pc := 27) (s := 9) (a := 6) (b := 1) (c' := 0) ckX7 (by decide) kw_309 rfl C dX7_lineAt_27 ?_
      refine s_iload_n (pc := 30) C dX7_lineAt_30 rfl 1 rfl ?_
      refine s_callv (pc := 31) (nA := 1) (as := [vI p0]) (st := []) (stk := [vI p0, vR 6 1 0]) ckJ4 (Or.inl rfl) C (fun l hl => ctJ4_charAt_5068e l hl 1 0 p0 _ _ H) ⟨⟨kw_1475, kw_63, kw_1209⟩, rfl, ⟨by decide, by decide, by decide +kernel⟩, by decide, by decide⟩ kw_1207 (g_selW kw_1208) rfl (Nat.le_of_ble_eq_true rfl) ⟨by decide, by decide⟩ rfl dX7_lineAt_31 (g_Kq_I (fun u4 h3 H => ?_) (fun E h3 H => s_prop rfl ⟨by decide, by decide⟩ H C))
      exact s_iret (pc := 34) rfl H.1 ⟨by decide, by decide⟩ H.2 C dX7_lineAt_34
    · have H := H.2 c
      exact s_sub (ls' := []) [] rfl (vX7_lineAt_b15 C  h1 H)
theorem ctX7_lineAt (l : Launch) (hl : l.stackTraces = false) {G : g_G} (p0 : Int32) (h : g_Hp) (Q : g_R → g_Hp → Prop) (H : wX7_lineAt p0 h Q) : g_Met l y_ G iX7_lineAt [vR 0 0 0, vI p0] h Q :=
  g_Met_of hl (by decide +kernel) rfl rfl (Nat.le_of_ble_eq_true rfl) (fun X C => vX7_lineAt C p0 h H)
/-! X7_meanLostDays -/
abbrev iX7_meanLostDays : g_I := (RX7, yX7_meanLostDays, cX7_meanLostDays, 1, (some .double), [], { frames := 7, cells := 1, slots := 6, locals := 115 })
set_option maxRecDepth 100000 in
set_option maxHeartbeats 4000000 in
theorem vX7_meanLostDays {G : g_G} {X : g_X} {Q : g_R → g_Hp → Prop} (C : g_Cx y_ G X iX7_meanLostDays) (h : g_Hp) (H : wX7_meanLostDays h Q) : g_V G X iX7_meanLostDays 1 6 Q 0 0 0 [(0, vR 0 0 0)] [] h := by
  refine s_aload_n (pc := 0) C dX7_meanLostDays_0 rfl 0 rfl ?_
  refine s_callv (pc := 1) (nA := 0) (as := []) (st := []) (stk := [vR 0 0 0]) ckX7 (Or.inl rfl) C (fun l hl => ctX7_requireMembers l hl _ _ H) ⟨⟨kw_506, kw_58, kw_509⟩, rfl, ⟨by decide, by decide, by decide +kernel⟩, by decide, by decide⟩ kw_508 (g_selW kw_2) rfl (Nat.le_of_ble_eq_true rfl) ⟨by decide, by decide⟩ rfl dX7_meanLostDays_1 (g_Kq_V (fun h1 H => ?_) (fun E h1 H => s_prop rfl ⟨by decide, by decide⟩ H C))
  refine s_aload_n (pc := 4) C dX7_meanLostDays_4 rfl 0 rfl ?_
  refine s_getr (pc := 5) (s := 0) (a := 1) (b := 0) (c' := 0) ckX7 (by decide) kw_300 rfl C dX7_meanLostDays_5 ?_
  refine s_callv (pc := 8) (nA := 0) (as := []) (st := []) (stk := [vR 1 0 0]) ckX1 (Or.inl rfl) C (fun l hl => ctX1_sumLostByMembers l hl 0 _ _ H) ⟨⟨kw_379, kw_59, kw_382⟩, rfl, ⟨by decide, by decide, by decide +kernel⟩, by decide, by decide⟩ kw_380 (g_selW kw_381) rfl (Nat.le_of_ble_eq_true rfl) ⟨by decide, by decide⟩ rfl dX7_meanLostDays_8 (g_Kq_I (fun u3 h2 H => ?_) (fun E h2 H => s_prop rfl ⟨by decide, by decide⟩ H C))
  refine s_i2d (pc := 11) C dX7_meanLostDays_11 ?_
  refine s_iconst (pc := 12) C dX7_meanLostDays_12 (x := (3 : Int32)) (by decide) ?_
  refine s_aload_n (pc := 13) C dX7_meanLostDays_13 rfl 0 rfl ?_
  refine s_getr (pc := 14) (s := 0) (a := 1) (b := 0) (c' := 0) ckX7 (by decide) kw_300 rfl C dX7_meanLostDays_14 ?_
  refine s_geti (pc := 17) (s := 1) ckX1 (Or.inl rfl) (by decide) kw_169 (fun _ => rfl) C dX7_meanLostDays_17 ?_
  refine s_imul (pc := 20) C dX7_meanLostDays_20 ?_
  refine s_i2d (pc := 21) C dX7_meanLostDays_21 ?_
  refine s_ddiv (pc := 22) C dX7_meanLostDays_22 H.1 ?_
  have H := H.2
  exact s_dret (pc := 23) rfl ⟨by decide, by decide⟩ H C dX7_meanLostDays_23
theorem ctX7_meanLostDays (l : Launch) (hl : l.stackTraces = false) {G : g_G} (h : g_Hp) (Q : g_R → g_Hp → Prop) (H : wX7_meanLostDays h Q) : g_Met l y_ G iX7_meanLostDays [vR 0 0 0] h Q :=
  g_Met_of hl (by decide +kernel) rfl rfl (Nat.le_of_ble_eq_true rfl) (fun X C => vX7_meanLostDays C h H)
