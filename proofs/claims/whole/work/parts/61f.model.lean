/-! X8_leaves -/
abbrev iX8_leaves : g_I := (RX8, yX8_leaves, cX8_leaves, 6, (some .int), [], { frames := 3, cells := 0, slots := 0, locals := 64 })
set_option maxRecDepth 100000 in
set_option maxHeartbeats 4000000 in
theorem vX8_leaves_b86 {G : g_G} {X : g_X} {Q : g_R → g_Hp → Prop} (C : g_Cx y_ G X iX8_leaves) (R35 : Int32 → Int32 → Int32 → Int32 → g_Hp → Prop) (hR35 : ∀ (x1 : Int32) (x2 : Int32) (x3 : Int32) (x4 : Int32) (h : g_Hp), R35 x1 x2 x3 x4 h → g_V G X iX8_leaves 0 0 Q 35 0 0 [(0, vR 5 0 0), (1, vI x1), (2, vI x2), (3, vI x3), (4, vI x4)] [] h) (x1 : Int32) (x2 : Int32) (x3 : Int32) (x4 : Int32) (h : g_Hp) (H : wX8_leaves_b86 Q R35 x1 x2 x3 x4 h) : g_V G X iX8_leaves 0 0 Q 86 0 0 [(0, vR 5 0 0), (1, vI x1), (2, vI x2), (3, vI x3), (4, vI x4)] [] h := by
  refine s_iincN (pc := 86) C dX8_leaves_86 4 rfl (z' := (1 : Int32)) (by decide) (by decide) (fun y1 ey1 => ?_)
  have H := H y1 ey1
  show g_V _ _ _ _ _ _ _ _ _ [(4, vI y1), (0, vR 5 0 0), (1, vI x1), (2, vI x2), (3, vI x3)] _ _
  refine s_goto (pc := 89) (tgt := 35) C dX8_leaves_89 (by decide) ?_
  exact s_sub (ls' := [(0, vR 5 0 0), (1, vI x1), (2, vI x2), (3, vI x3), (4, vI y1)]) [1, 2, 3, 4, 0] rfl (hR35 x1 x2 x3 y1 h H)
set_option maxRecDepth 100000 in
set_option maxHeartbeats 4000000 in
theorem vX8_leaves_b35_B {G : g_G} {X : g_X} {Q : g_R → g_Hp → Prop} (C : g_Cx y_ G X iX8_leaves) (R35 : Int32 → Int32 → Int32 → Int32 → g_Hp → Prop) (hR35 : ∀ (x1 : Int32) (x2 : Int32) (x3 : Int32) (x4 : Int32) (h : g_Hp), R35 x1 x2 x3 x4 h → g_V G X iX8_leaves 0 0 Q 35 0 0 [(0, vR 5 0 0), (1, vI x1), (2, vI x2), (3, vI x3), (4, vI x4)] [] h) (x1 : Int32) (x2 : Int32) (x3 : Int32) (x4 : Int32) (h : g_Hp) (H : wX8_leaves_b35_B Q R35 x1 x2 x3 x4 h) : g_V G X iX8_leaves 0 0 Q 35 0 0 [(0, vR 5 0 0), (1, vI x1), (2, vI x2), (3, vI x3), (4, vI x4)] [] h := by
  refine s_iload (pc := 35) C dX8_leaves_35 4 rfl ?_
  refine s_aload_n (pc := 37) C dX8_leaves_37 rfl 0 rfl ?_
  refine s_getr (pc := 38) (s := 5) (a := 13) (b := 0) (c' := 0) ckX8 (by decide) kw_1510 rfl C dX8_leaves_38 ?_
  refine s_bipush (pc := 41) C dX8_leaves_41 (x := (119 : Int32)) (by decide) ?_
  refine s_iload_n (pc := 43) C dX8_leaves_43 rfl 2 rfl ?_
  refine s_iadd (pc := 44) C dX8_leaves_44 ?_
  refine s_iald (pc := 45) H.1 C dX8_leaves_45 ?_
  have H := H.2
  refine s_icmp_ge (pc := 46) (tgt := 92) C dX8_leaves_46 (by decide) (fun c => ?_) (fun c => ?_)
  · have H := H.1 c
    refine s_aload_n (pc := 92) C dX8_leaves_92 rfl 0 rfl ?_
    refine s_getr (pc := 93) (s := 5) (a := 13) (b := 0) (c' := 0) ckX8 (by decide) kw_1510 rfl C dX8_leaves_93 ?_
    refine s_iload_n (pc := 96) C dX8_leaves_96 rfl 2 rfl ?_
    refine s_iload_n (pc := 97) C dX8_leaves_97 rfl 3 rfl ?_
    refine s_calls (pc := 98) (nA := 2) (as := [vI x2, vI x3]) (st := [vR 13 0 0]) (stk := [vI x3, vI x2, vR 13 0 0]) C (fun l hl => ctX8_listed l hl x2 x3 _ _ H) ⟨⟨kw_1701, kw_69, kw_1703⟩, rfl, ⟨by decide, by decide, by decide +kernel⟩, by decide, by decide⟩ kw_1702 rfl (Nat.le_of_ble_eq_true rfl) ⟨by decide, by decide⟩ rfl dX8_leaves_98 (g_Kq_I (fun u2 h1 H => ?_) (fun E h1 H => s_prop rfl ⟨by decide, by decide⟩ H C))
    refine s_iconst (pc := 101) C dX8_leaves_101 (x := (0 : Int32)) (by decide) ?_
    refine s_iast (pc := 102) H.1 C dX8_leaves_102 ?_
    have H := H.2
    refine s_name (fun h3 eh3 => ?_)
    have H := H h3 eh3
    refine s_aload_n (pc := 103) C dX8_leaves_103 rfl 0 rfl ?_
    refine s_getr (pc := 104) (s := 5) (a := 13) (b := 0) (c' := 0) ckX8 (by decide) kw_1510 rfl C dX8_leaves_104 ?_
    refine s_bipush (pc := 107) C dX8_leaves_107 (x := (119 : Int32)) (by decide) ?_
    refine s_iload_n (pc := 109) C dX8_leaves_109 rfl 2 rfl ?_
    refine s_iadd (pc := 110) C dX8_leaves_110 ?_
    refine s_iload_n (pc := 111) C dX8_leaves_111 rfl 3 rfl ?_
    refine s_iast (pc := 112) H.1 C dX8_leaves_112 ?_
    have H := H.2
    refine s_name (fun h4 eh4 => ?_)
    have H := H h4 eh4
    refine s_iload_n (pc := 113) C dX8_leaves_113 rfl 2 rfl ?_
    exact s_iret (pc := 114) rfl rfl ⟨by decide, by decide⟩ H C dX8_leaves_114
  · have H := H.2 c
    refine s_aload_n (pc := 49) C dX8_leaves_49 rfl 0 rfl ?_
    refine s_getr (pc := 50) (s := 5) (a := 13) (b := 0) (c' := 0) ckX8 (by decide) kw_1510 rfl C dX8_leaves_50 ?_
    refine s_iload_n (pc := 53) C dX8_leaves_53 rfl 2 rfl ?_
    refine s_iload (pc := 54) C dX8_leaves_54 4 rfl ?_
    refine s_calls (pc := 56) (nA := 2) (as := [vI x2, vI x4]) (st := [vR 13 0 0]) (stk := [vI x4, vI x2, vR 13 0 0]) C (fun l hl => ctX8_listed l hl x2 x4 _ _ H) ⟨⟨kw_1701, kw_69, kw_1703⟩, rfl, ⟨by decide, by decide, by decide +kernel⟩, by decide, by decide⟩ kw_1702 rfl (Nat.le_of_ble_eq_true rfl) ⟨by decide, by decide⟩ rfl dX8_leaves_56 (g_Kq_I (fun u6 h5 H => ?_) (fun E h5 H => s_prop rfl ⟨by decide, by decide⟩ H C))
    refine s_iald (pc := 59) H.1 C dX8_leaves_59 ?_
    have H := H.2
    refine s_namei (fun y7 ey7 => ?_)
    have H := H y7 ey7
    refine s_istore (pc := 60) (ls' := [(5, vI y7), (0, vR 5 0 0), (1, vI x1), (2, vI x2), (3, vI x3), (4, vI x4)]) C dX8_leaves_60 (by decide) rfl ?_
    refine s_iload (pc := 62) C dX8_leaves_62 0 rfl ?_
    refine s_iload_n (pc := 64) C dX8_leaves_64 rfl 2 rfl ?_
    refine s_icmp_ne (pc := 65) (tgt := 71) C dX8_leaves_65 (by decide) (fun c => ?_) (fun c => ?_)
    · have H := H.1 c
      refine s_aload_n (pc := 71) C dX8_leaves_71 rfl 1 rfl ?_
      refine s_getr (pc := 72) (s := 5) (a := 13) (b := 0) (c' := 0) ckX8 (by decide) kw_1510 rfl C dX8_leaves_72 ?_
      refine s_iload_n (pc := 75) C dX8_leaves_75 rfl 3 rfl ?_
      refine s_iload_n (pc := 76) C dX8_leaves_76 rfl 4 rfl ?_
      refine s_calls (pc := 77) (nA := 2) (as := [vI x2, vI x3]) (st := [vR 13 0 0]) (stk := [vI x3, vI x2, vR 13 0 0]) C (fun l hl => ctX8_listed l hl x2 x3 _ _ H) ⟨⟨kw_1701, kw_69, kw_1703⟩, rfl, ⟨by decide, by decide, by decide +kernel⟩, by decide, by decide⟩ kw_1702 rfl (Nat.le_of_ble_eq_true rfl) ⟨by decide, by decide⟩ rfl dX8_leaves_77 (g_Kq_I (fun u9 h8 H => ?_) (fun E h8 H => s_prop rfl ⟨by decide, by decide⟩ H C))
      refine s_iload (pc := 80) C dX8_leaves_80 0 rfl ?_
      refine s_iast (pc := 82) H.1 C dX8_leaves_82 ?_
      have H := H.2
      refine s_name (fun h10 eh10 => ?_)
      have H := H h10 eh10
      refine s_iincN (pc := 83) C dX8_leaves_83 4 rfl (z' := (1 : Int32)) (by decide) (by decide) (fun y11 ey11 => ?_)
      have H := H y11 ey11
      show g_V _ _ _ _ _ _ _ _ _ [(3, vI y11), (5, vI y7), (0, vR 5 0 0), (1, vI x1), (2, vI x2), (4, vI x4)] _ _
      exact s_sub (ls' := [(0, vR 5 0 0), (1, vI x1), (2, vI x2), (3, vI y11), (4, vI x4)]) [2, 3, 4, 0, 5] rfl (vX8_leaves_b86 C R35 hR35 x1 x2 y11 x4 h10 H)
    · have H := H.2 c
      refine s_goto (pc := 68) (tgt := 86) C dX8_leaves_68 (by decide) ?_
      exact s_sub (ls' := [(0, vR 5 0 0), (1, vI x1), (2, vI x2), (3, vI x3), (4, vI x4)]) [1, 2, 3, 4, 5] rfl (vX8_leaves_b86 C R35 hR35 x1 x2 x3 x4 h5 H)
theorem vX8_leaves_b35 {G : g_G} {X : g_X} {Q : g_R → g_Hp → Prop} (C : g_Cx y_ G X iX8_leaves) (x1 : Int32) (x2 : Int32) (x3 : Int32) (x4 : Int32) (h : g_Hp) (H : wX8_leaves_b35 Q x1 x2 x3 x4 h) : g_V G X iX8_leaves 0 0 Q 35 0 0 [(0, vR 5 0 0), (1, vI x1), (2, vI x2), (3, vI x3), (4, vI x4)] [] h := by
  obtain ⟨n, H⟩ := H
  induction n generalizing x1 x2 x3 x4 h with
  | zero => exact H.elim
  | succ n ih => exact vX8_leaves_b35_B C _ (fun x1 x2 x3 x4 h H => ih x1 x2 x3 x4 h H) x1 x2 x3 x4 h H
set_option maxRecDepth 100000 in
set_option maxHeartbeats 4000000 in
theorem vX8_leaves {G : g_G} {X : g_X} {Q : g_R → g_Hp → Prop} (C : g_Cx y_ G X iX8_leaves) (p0 : Int32) (h : g_Hp) (H : wX8_leaves p0 h Q) : g_V G X iX8_leaves 0 0 Q 0 0 0 [(0, vR 5 0 0), (1, vI p0)] [] h := by
  refine s_aload_n (pc := 0) C dX8_leaves_0 rfl 0 rfl ?_
  refine s_iload_n (pc := 1) C dX8_leaves_1 rfl 1 rfl ?_
  refine s_callv (pc := 2) (nA := 1) (as := [vI p0]) (st := []) (stk := [vI p0, vR 5 0 0]) ckX8 (Or.inl rfl) C (fun l hl => ctX8_isMember l hl p0 _ _ H) ⟨⟨kw_1616, kw_69, kw_1619⟩, rfl, ⟨by decide, by decide, by decide +kernel⟩, by decide, by decide⟩ kw_1618 (g_selW kw_27) rfl (Nat.le_of_ble_eq_true rfl) ⟨by decide, by decide⟩ rfl dX8_leaves_2 (g_Kq_I (fun u2 h1 H => ?_) (fun E h1 H => s_prop rfl ⟨by decide, by decide⟩ H C))
  refine s_if_ne (pc := 5) (tgt := 14) C dX8_leaves_5 (by decide) (fun c => ?_) (fun c => ?_)
  · have H := H.1 c
    refine s_aload_n (pc := 14) C dX8_leaves_14 rfl 0 rfl ?_
    refine s_iload_n (pc := 15) C dX8_leaves_15 rfl 1 rfl ?_
    refine s_callv (pc := 16) (nA := 1) (as := [vI p0]) (st := []) (stk := [vI p0, vR 5 0 0]) ckX8 (Or.inl rfl) C (fun l hl => ctX8_list l hl p0 _ _ H) ⟨⟨kw_1781, kw_69, kw_1784⟩, rfl, ⟨by decide, by decide, by decide +kernel⟩, by decide, by decide⟩ kw_1783 (g_selW kw_38) rfl (Nat.le_of_ble_eq_true rfl) ⟨by decide, by decide⟩ rfl dX8_leaves_16 (g_Kq_I (fun u4 h3 H => ?_) (fun E h3 H => s_prop rfl ⟨by decide, by decide⟩ H C))
    refine s_istore_n (pc := 19) (ls' := [(2, vI u4), (0, vR 5 0 0), (1, vI p0)]) C dX8_leaves_19 rfl (by decide) rfl ?_
    refine s_iload_n (pc := 20) C dX8_leaves_20 rfl 0 rfl ?_
    refine s_if_ge (pc := 21) (tgt := 30) C dX8_leaves_21 (by decide) (fun c => ?_) (fun c => ?_)
    · have H := H.1 c
      refine s_iconst (pc := 30) C dX8_leaves_30 (x := (0 : Int32)) (by decide) ?_
      refine s_istore_n (pc := 31) (ls' := [(3, vI (0 : Int32)), (2, vI u4), (0, vR 5 0 0), (1, vI p0)]) C dX8_leaves_31 rfl (by decide) rfl ?_
      refine s_iconst (pc := 32) C dX8_leaves_32 (x := (0 : Int32)) (by decide) ?_
      refine s_istore (pc := 33) (ls' := [(4, vI (0 : Int32)), (3, vI (0 : Int32)), (2, vI u4), (0, vR 5 0 0), (1, vI p0)]) C dX8_leaves_33 (by decide) rfl ?_
      exact s_sub (ls' := [(0, vR 5 0 0), (1, vI p0), (2, vI u4), (3, vI (0 : Int32)), (4, vI (0 : Int32))]) [3, 4, 2, 1, 0] rfl (vX8_leaves_b35 C p0 u4 (0 : Int32) (0 : Int32) h3 H)
    · have H := H.2 c
      refine s_aload_n (pc := 24) C dX8_leaves_24 rfl 1 rfl ?_
      refine s_iconst (pc := 25) C dX8_leaves_25 (x := (2 : Int32)) (by decide) ?_
      refine s_callv (pc := 26) (nA := 1) (as := [vI (2 : Int32)]) (st := []) (stk := [vI (2 : Int32), vR 5 0 0]) ckX8 (Or.inl rfl) C (fun l hl => ctX8_fail l hl (2 : Int32) _ _ H) ⟨⟨kw_1592, kw_69, kw_1595⟩, rfl, ⟨by decide, by decide, by decide +kernel⟩, by decide, by decide⟩ kw_1594 (g_selW kw_23) rfl (Nat.le_of_ble_eq_true rfl) ⟨by decide, by decide⟩ rfl dX8_leaves_26 (g_Kq_I (fun u6 h5 H => ?_) (fun E h5 H => s_prop rfl ⟨by decide, by decide⟩ H C))
      exact s_iret (pc := 29) rfl rfl ⟨by decide, by decide⟩ H C dX8_leaves_29
  · have H := H.2 c
    refine s_aload_n (pc := 8) C dX8_leaves_8 rfl 0 rfl ?_
    refine s_iconst (pc := 9) C dX8_leaves_9 (x := (1 : Int32)) (by decide) ?_
    refine s_callv (pc := 10) (nA := 1) (as := [vI (1 : Int32)]) (st := []) (stk := [vI (1 : Int32), vR 5 0 0]) ckX8 (Or.inl rfl) C (fun l hl => ctX8_fail l hl (1 : Int32) _ _ H) ⟨⟨kw_1592, kw_69, kw_1595⟩, rfl, ⟨by decide, by decide, by decide +kernel⟩, by decide, by decide⟩ kw_1594 (g_selW kw_23) rfl (Nat.le_of_ble_eq_true rfl) ⟨by decide, by decide⟩ rfl dX8_leaves_10 (g_Kq_I (fun u8 h7 H => ?_) (fun E h7 H => s_prop rfl ⟨by decide, by decide⟩ H C))
    exact s_iret (pc := 13) rfl rfl ⟨by decide, by decide⟩ H C dX8_leaves_13
theorem ctX8_leaves (l : Launch) (hl : l.stackTraces = false) {G : g_G} (p0 : Int32) (h : g_Hp) (Q : g_R → g_Hp → Prop) (H : wX8_leaves p0 h Q) : g_Met l y_ G iX8_leaves [vR 5 0 0, vI p0] h Q :=
  g_Met_of hl (by decide +kernel) rfl rfl (Nat.le_of_ble_eq_true rfl) (fun X C => vX8_leaves C p0 h H)
/-! X8_strikeOff -/
abbrev iX8_strikeOff : g_I := (RX8, yX8_strikeOff, cX8_strikeOff, 2, (some .int), [], { frames := 4, cells := 0, slots := 0, locals := 89 })
set_option maxRecDepth 100000 in
set_option maxHeartbeats 4000000 in
theorem vX8_strikeOff {G : g_G} {X : g_X} {Q : g_R → g_Hp → Prop} (C : g_Cx y_ G X iX8_strikeOff) (p0 : Int32) (h : g_Hp) (H : wX8_strikeOff p0 h Q) : g_V G X iX8_strikeOff 0 0 Q 0 0 0 [(0, vR 5 0 0), (1, vI p0)] [] h := by
  refine s_aload_n (pc := 0) C dX8_strikeOff_0 rfl 0 rfl ?_
  refine s_callv (pc := 1) (nA := 0) (as := []) (st := []) (stk := [vR 5 0 0]) ckX8 (Or.inl rfl) C (fun l hl => ctX8_begins l hl _ _ H) ⟨⟨kw_1575, kw_69, kw_1578⟩, rfl, ⟨by decide, by decide, by decide +kernel⟩, by decide, by decide⟩ kw_1577 (g_selW kw_21) rfl (Nat.le_of_ble_eq_true rfl) ⟨by decide, by decide⟩ rfl dX8_strikeOff_1 (g_Kq_V (fun h1 H => ?_) (fun E h1 H => s_prop rfl ⟨by decide, by decide⟩ H C))
  refine s_aload_n (pc := 4) C dX8_strikeOff_4 rfl 0 rfl ?_
  refine s_aload_n (pc := 5) C dX8_strikeOff_5 rfl 0 rfl ?_
  refine s_iload_n (pc := 6) C dX8_strikeOff_6 rfl 1 rfl ?_
  refine s_callv (pc := 7) (nA := 1) (as := [vI p0]) (st := [vR 5 0 0]) (stk := [vI p0, vR 5 0 0, vR 5 0 0]) ckX8 (Or.inl rfl) C (fun l hl => ctX8_leaves l hl p0 _ _ H) ⟨⟨kw_1789, kw_69, kw_1792⟩, rfl, ⟨by decide, by decide, by decide +kernel⟩, by decide, by decide⟩ kw_1791 (g_selW kw_39) rfl (Nat.le_of_ble_eq_true rfl) ⟨by decide, by decide⟩ rfl dX8_strikeOff_7 (g_Kq_I (fun u3 h2 H => ?_) (fun E h2 H => s_prop rfl ⟨by decide, by decide⟩ H C))
  refine s_callv (pc := 10) (nA := 1) (as := [vI u3]) (st := []) (stk := [vI u3, vR 5 0 0]) ckX8 (Or.inl rfl) C (fun l hl => ctX8_ends l hl u3 _ _ H) ⟨⟨kw_1596, kw_69, kw_1599⟩, rfl, ⟨by decide, by decide, by decide +kernel⟩, by decide, by decide⟩ kw_1598 (g_selW kw_24) rfl (Nat.le_of_ble_eq_true rfl) ⟨by decide, by decide⟩ rfl dX8_strikeOff_10 (g_Kq_I (fun u5 h4 H => ?_) (fun E h4 H => s_prop rfl ⟨by decide, by decide⟩ H C))
  exact s_iret (pc := 13) rfl rfl ⟨by decide, by decide⟩ H C dX8_strikeOff_13
theorem ctX8_strikeOff (l : Launch) (hl : l.stackTraces = false) {G : g_G} (p0 : Int32) (h : g_Hp) (Q : g_R → g_Hp → Prop) (H : wX8_strikeOff p0 h Q) : g_Met l y_ G iX8_strikeOff [vR 5 0 0, vI p0] h Q :=
  g_Met_of hl (by decide +kernel) rfl rfl (Nat.le_of_ble_eq_true rfl) (fun X C => vX8_strikeOff C p0 h H)
/-! X8_listLength -/
abbrev iX8_listLength : g_I := (RX8, yX8_listLength, cX8_listLength, 2, (some .int), [], { frames := 3, cells := 0, slots := 0, locals := 62 })
set_option maxRecDepth 100000 in
set_option maxHeartbeats 4000000 in
theorem vX8_listLength_b36 {G : g_G} {X : g_X} {Q : g_R → g_Hp → Prop} (C : g_Cx y_ G X iX8_listLength) (z0 : Int32) (h : g_Hp) (H : wX8_listLength_b36 Q z0 h) : g_V G X iX8_listLength 0 0 Q 36 0 0 [] [vI z0] h := by
  exact s_iret (pc := 36) rfl rfl ⟨by decide, by decide⟩ H C dX8_listLength_36
set_option maxRecDepth 100000 in
set_option maxHeartbeats 4000000 in
theorem vX8_listLength_b13 {G : g_G} {X : g_X} {Q : g_R → g_Hp → Prop} (C : g_Cx y_ G X iX8_listLength) (x1 : Int32) (z0 : Int32) (h : g_Hp) (H : wX8_listLength_b13 Q x1 z0 h) : g_V G X iX8_listLength 0 0 Q 13 0 0 [(0, vR 5 0 0), (1, vI x1)] [vI z0, vR 5 0 0] h := by
  refine s_puti (pc := 13) (s := 0) ckX8 (Or.inl rfl) (by decide) kw_1505 (fun _ => rfl) rfl rfl rfl C dX8_listLength_13 ?_
  refine s_name (fun h1 eh1 => ?_)
  have H := H h1 eh1
  refine s_aload_n (pc := 16) C dX8_listLength_16 rfl 0 rfl ?_
  refine s_geti (pc := 17) (s := 0) ckX8 (Or.inl rfl) (by decide) kw_1505 (fun _ => rfl) C dX8_listLength_17 ?_
  refine s_if_ne (pc := 20) (tgt := 35) C dX8_listLength_20 (by decide) (fun c => ?_) (fun c => ?_)
  · have H := H.1 c
    refine s_iconst (pc := 35) C dX8_listLength_35 (x := (0 : Int32)) (by decide) ?_
    exact s_sub (ls' := []) [] rfl (vX8_listLength_b36 C (0 : Int32) h1 H)
  · have H := H.2 c
    refine s_aload_n (pc := 23) C dX8_listLength_23 rfl 0 rfl ?_
    refine s_getr (pc := 24) (s := 5) (a := 13) (b := 0) (c' := 0) ckX8 (by decide) kw_1510 rfl C dX8_listLength_24 ?_
    refine s_bipush (pc := 27) C dX8_listLength_27 (x := (119 : Int32)) (by decide) ?_
    refine s_iload_n (pc := 29) C dX8_listLength_29 rfl 1 rfl ?_
    refine s_iadd (pc := 30) C dX8_listLength_30 ?_
    refine s_iald (pc := 31) H.1 C dX8_listLength_31 ?_
    have H := H.2
    refine s_goto (pc := 32) (tgt := 36) C dX8_listLength_32 (by decide) ?_
    exact s_sub (ls' := []) [] rfl (vX8_listLength_b36 C (h1 13 0 0 (((119 : Int32) + x1).toNatClampNeg + 1)) h1 H)
set_option maxRecDepth 100000 in
set_option maxHeartbeats 4000000 in
theorem vX8_listLength {G : g_G} {X : g_X} {Q : g_R → g_Hp → Prop} (C : g_Cx y_ G X iX8_listLength) (p0 : Int32) (h : g_Hp) (H : wX8_listLength p0 h Q) : g_V G X iX8_listLength 0 0 Q 0 0 0 [(0, vR 5 0 0), (1, vI p0)] [] h := by
  refine s_aload_n (pc := 0) C dX8_listLength_0 rfl 0 rfl ?_
  refine s_iload_n (pc := 1) C dX8_listLength_1 rfl 1 rfl ?_
  refine s_calls (pc := 2) (nA := 1) (as := [vI p0]) (st := [vR 5 0 0]) (stk := [vI p0, vR 5 0 0]) C (fun l hl => ctX8_isRoof l hl p0 _ _ H) ⟨⟨kw_1586, kw_69, kw_1588⟩, rfl, ⟨by decide, by decide, by decide +kernel⟩, by decide, by decide⟩ kw_1587 rfl (Nat.le_of_ble_eq_true rfl) ⟨by decide, by decide⟩ rfl dX8_listLength_2 (g_Kq_I (fun u2 h1 H => ?_) (fun E h1 H => s_prop rfl ⟨by decide, by decide⟩ H C))
  refine s_if_eq (pc := 5) (tgt := 12) C dX8_listLength_5 (by decide) (fun c => ?_) (fun c => ?_)
  · have H := H.1 c
    refine s_iconst (pc := 12) C dX8_listLength_12 (x := (1 : Int32)) (by decide) ?_
    exact s_sub (ls' := [(0, vR 5 0 0), (1, vI p0)]) [0, 1] rfl (vX8_listLength_b13 C p0 (1 : Int32) h1 H)
  · have H := H.2 c
    refine s_iconst (pc := 8) C dX8_listLength_8 (x := (0 : Int32)) (by decide) ?_
    refine s_goto (pc := 9) (tgt := 13) C dX8_listLength_9 (by decide) ?_
    exact s_sub (ls' := [(0, vR 5 0 0), (1, vI p0)]) [0, 1] rfl (vX8_listLength_b13 C p0 (0 : Int32) h1 H)
theorem ctX8_listLength (l : Launch) (hl : l.stackTraces = false) {G : g_G} (p0 : Int32) (h : g_Hp) (Q : g_R → g_Hp → Prop) (H : wX8_listLength p0 h Q) : g_Met l y_ G iX8_listLength [vR 5 0 0, vI p0] h Q :=
  g_Met_of hl (by decide +kernel) rfl rfl (Nat.le_of_ble_eq_true rfl) (fun X C => vX8_listLength C p0 h H)
/-! X8_listedAt -/
abbrev iX8_listedAt : g_I := (RX8, yX8_listedAt, cX8_listedAt, 3, (some .int), [], { frames := 3, cells := 0, slots := 0, locals := 62 })
set_option maxRecDepth 100000 in
set_option maxHeartbeats 4000000 in
theorem vX8_listedAt_b60 {G : g_G} {X : g_X} {Q : g_R → g_Hp → Prop} (C : g_Cx y_ G X iX8_listedAt) (z0 : Int32) (h : g_Hp) (H : wX8_listedAt_b60 Q z0 h) : g_V G X iX8_listedAt 0 0 Q 60 0 0 [] [vI z0] h := by
  exact s_iret (pc := 60) rfl rfl ⟨by decide, by decide⟩ H C dX8_listedAt_60
set_option maxRecDepth 100000 in
set_option maxHeartbeats 4000000 in
theorem vX8_listedAt_b36 {G : g_G} {X : g_X} {Q : g_R → g_Hp → Prop} (C : g_Cx y_ G X iX8_listedAt) (x1 : Int32) (x2 : Int32) (z0 : Int32) (h : g_Hp) (H : wX8_listedAt_b36 Q x1 x2 z0 h) : g_V G X iX8_listedAt 0 0 Q 36 0 0 [(0, vR 5 0 0), (1, vI x1), (2, vI x2)] [vI z0, vR 5 0 0] h := by
  refine s_puti (pc := 36) (s := 0) ckX8 (Or.inl rfl) (by decide) kw_1505 (fun _ => rfl) rfl rfl rfl C dX8_listedAt_36 ?_
  refine s_name (fun h1 eh1 => ?_)
  have H := H h1 eh1
  refine s_aload_n (pc := 39) C dX8_listedAt_39 rfl 0 rfl ?_
  refine s_geti (pc := 40) (s := 0) ckX8 (Or.inl rfl) (by decide) kw_1505 (fun _ => rfl) C dX8_listedAt_40 ?_
  refine s_if_ne (pc := 43) (tgt := 59) C dX8_listedAt_43 (by decide) (fun c => ?_) (fun c => ?_)
  · have H := H.1 c
    refine s_iconst (pc := 59) C dX8_listedAt_59 (x := (0 : Int32)) (by decide) ?_
    exact s_sub (ls' := []) [] rfl (vX8_listedAt_b60 C (0 : Int32) h1 H)
  · have H := H.2 c
    refine s_aload_n (pc := 46) C dX8_listedAt_46 rfl 0 rfl ?_
    refine s_getr (pc := 47) (s := 5) (a := 13) (b := 0) (c' := 0) ckX8 (by decide) kw_1510 rfl C dX8_listedAt_47 ?_
    refine s_iload_n (pc := 50) C dX8_listedAt_50 rfl 1 rfl ?_
    refine s_iload_n (pc := 51) C dX8_listedAt_51 rfl 2 rfl ?_
    refine s_calls (pc := 52) (nA := 2) (as := [vI x1, vI x2]) (st := [vR 13 0 0]) (stk := [vI x2, vI x1, vR 13 0 0]) C (fun l hl => ctX8_listed l hl x1 x2 _ _ H) ⟨⟨kw_1701, kw_69, kw_1703⟩, rfl, ⟨by decide, by decide, by decide +kernel⟩, by decide, by decide⟩ kw_1702 rfl (Nat.le_of_ble_eq_true rfl) ⟨by decide, by decide⟩ rfl dX8_listedAt_52 (g_Kq_I (fun u3 h2 H => ?_) (fun E h2 H => s_prop rfl ⟨by decide, by decide⟩ H C))
    refine s_iald (pc := 55) H.1 C dX8_listedAt_55 ?_
    have H := H.2
    refine s_goto (pc := 56) (tgt := 60) C dX8_listedAt_56 (by decide) ?_
    exact s_sub (ls' := []) [] rfl (vX8_listedAt_b60 C (h2 13 0 0 (u3.toNatClampNeg + 1)) h2 H)
set_option maxRecDepth 100000 in
set_option maxHeartbeats 4000000 in
theorem vX8_listedAt {G : g_G} {X : g_X} {Q : g_R → g_Hp → Prop} (C : g_Cx y_ G X iX8_listedAt) (p0 : Int32) (p1 : Int32) (h : g_Hp) (H : wX8_listedAt p0 p1 h Q) : g_V G X iX8_listedAt 0 0 Q 0 0 0 [(0, vR 5 0 0), (1, vI p0), (2, vI p1)] [] h := by
  refine s_aload_n (pc := 0) C dX8_listedAt_0 rfl 0 rfl ?_
  refine s_iload_n (pc := 1) C dX8_listedAt_1 rfl 1 rfl ?_
  refine s_calls (pc := 2) (nA := 1) (as := [vI p0]) (st := [vR 5 0 0]) (stk := [vI p0, vR 5 0 0]) C (fun l hl => ctX8_isRoof l hl p0 _ _ H) ⟨⟨kw_1586, kw_69, kw_1588⟩, rfl, ⟨by decide, by decide, by decide +kernel⟩, by decide, by decide⟩ kw_1587 rfl (Nat.le_of_ble_eq_true rfl) ⟨by decide, by decide⟩ rfl dX8_listedAt_2 (g_Kq_I (fun u2 h1 H => ?_) (fun E h1 H => s_prop rfl ⟨by decide, by decide⟩ H C))
  refine s_if_ne (pc := 5) (tgt := 12) C dX8_listedAt_5 (by decide) (fun c => ?_) (fun c => ?_)
  · have H := H.1 c
    refine s_iload_n (pc := 12) C dX8_listedAt_12 rfl 2 rfl ?_
    refine s_iconst (pc := 13) C dX8_listedAt_13 (x := (0 : Int32)) (by decide) ?_
    refine s_aload_n (pc := 14) C dX8_listedAt_14 rfl 0 rfl ?_
    refine s_getr (pc := 15) (s := 5) (a := 13) (b := 0) (c' := 0) ckX8 (by decide) kw_1510 rfl C dX8_listedAt_15 ?_
    refine s_bipush (pc := 18) C dX8_listedAt_18 (x := (119 : Int32)) (by decide) ?_
    refine s_iload_n (pc := 20) C dX8_listedAt_20 rfl 1 rfl ?_
    refine s_iadd (pc := 21) C dX8_listedAt_21 ?_
    refine s_iald (pc := 22) H.1 C dX8_listedAt_22 ?_
    have H := H.2
    refine s_iconst (pc := 23) C dX8_listedAt_23 (x := (1 : Int32)) (by decide) ?_
    refine s_isub (pc := 24) C dX8_listedAt_24 ?_
    refine s_calls (pc := 25) (nA := 3) (as := [vI p1, vI (0 : Int32), vI ((h1 13 0 0 (((119 : Int32) + p0).toNatClampNeg + 1)) - (1 : Int32))]) (st := [vR 5 0 0]) (stk := [vI ((h1 13 0 0 (((119 : Int32) + p0).toNatClampNeg + 1)) - (1 : Int32)), vI (0 : Int32), vI p1, vR 5 0 0]) C (fun l hl => ctX8_isIn l hl p1 (0 : Int32) ((h1 13 0 0 (((119 : Int32) + p0).toNatClampNeg + 1)) - (1 : Int32)) _ _ H) ⟨⟨kw_1589, kw_69, kw_1591⟩, rfl, ⟨by decide, by decide, by decide +kernel⟩, by decide, by decide⟩ kw_1590 rfl (Nat.le_of_ble_eq_true rfl) ⟨by decide, by decide⟩ rfl dX8_listedAt_25 (g_Kq_I (fun u4 h3 H => ?_) (fun E h3 H => s_prop rfl ⟨by decide, by decide⟩ H C))
    refine s_if_eq (pc := 28) (tgt := 35) C dX8_listedAt_28 (by decide) (fun c => ?_) (fun c => ?_)
    · have H := H.1 c
      refine s_iconst (pc := 35) C dX8_listedAt_35 (x := (2 : Int32)) (by decide) ?_
      exact s_sub (ls' := [(0, vR 5 0 0), (1, vI p0), (2, vI p1)]) [0, 1, 2] rfl (vX8_listedAt_b36 C p0 p1 (2 : Int32) h3 H)
    · have H := H.2 c
      refine s_iconst (pc := 31) C dX8_listedAt_31 (x := (0 : Int32)) (by decide) ?_
      refine s_goto (pc := 32) (tgt := 36) C dX8_listedAt_32 (by decide) ?_
      exact s_sub (ls' := [(0, vR 5 0 0), (1, vI p0), (2, vI p1)]) [0, 1, 2] rfl (vX8_listedAt_b36 C p0 p1 (0 : Int32) h3 H)
  · have H := H.2 c
    refine s_iconst (pc := 8) C dX8_listedAt_8 (x := (1 : Int32)) (by decide) ?_
    refine s_goto (pc := 9) (tgt := 36) C dX8_listedAt_9 (by decide) ?_
    exact s_sub (ls' := [(0, vR 5 0 0), (1, vI p0), (2, vI p1)]) [0, 1, 2] rfl (vX8_listedAt_b36 C p0 p1 (1 : Int32) h1 H)
theorem ctX8_listedAt (l : Launch) (hl : l.stackTraces = false) {G : g_G} (p0 : Int32) (p1 : Int32) (h : g_Hp) (Q : g_R → g_Hp → Prop) (H : wX8_listedAt p0 p1 h Q) : g_Met l y_ G iX8_listedAt [vR 5 0 0, vI p0, vI p1] h Q :=
  g_Met_of hl (by decide +kernel) rfl rfl (Nat.le_of_ble_eq_true rfl) (fun X C => vX8_listedAt C p0 p1 h H)
/-! X8_listOf -/
abbrev iX8_listOf : g_I := (RX8, yX8_listOf, cX8_listOf, 2, (some .int), [], { frames := 3, cells := 0, slots := 0, locals := 64 })
set_option maxRecDepth 100000 in
set_option maxHeartbeats 4000000 in
theorem vX8_listOf_b45 {G : g_G} {X : g_X} {Q : g_R → g_Hp → Prop} (C : g_Cx y_ G X iX8_listOf) (z0 : Int32) (h : g_Hp) (H : wX8_listOf_b45 Q z0 h) : g_V G X iX8_listOf 0 0 Q 45 0 0 [] [vI z0] h := by
  exact s_iret (pc := 45) rfl rfl ⟨by decide, by decide⟩ H C dX8_listOf_45
set_option maxRecDepth 100000 in
set_option maxHeartbeats 4000000 in
theorem vX8_listOf_b26 {G : g_G} {X : g_X} {Q : g_R → g_Hp → Prop} (C : g_Cx y_ G X iX8_listOf) (x1 : Int32) (z0 : Int32) (h : g_Hp) (H : wX8_listOf_b26 Q x1 z0 h) : g_V G X iX8_listOf 0 0 Q 26 0 0 [(0, vR 5 0 0), (1, vI x1)] [vI z0, vR 5 0 0] h := by
  refine s_puti (pc := 26) (s := 0) ckX8 (Or.inl rfl) (by decide) kw_1505 (fun _ => rfl) rfl rfl rfl C dX8_listOf_26 ?_
  refine s_name (fun h1 eh1 => ?_)
  have H := H h1 eh1
  refine s_aload_n (pc := 29) C dX8_listOf_29 rfl 0 rfl ?_
  refine s_geti (pc := 30) (s := 0) ckX8 (Or.inl rfl) (by decide) kw_1505 (fun _ => rfl) C dX8_listOf_30 ?_
  refine s_if_ne (pc := 33) (tgt := 44) C dX8_listOf_33 (by decide) (fun c => ?_) (fun c => ?_)
  · have H := H.1 c
    refine s_iconst (pc := 44) C dX8_listOf_44 (x := (0 : Int32)) (by decide) ?_
    exact s_sub (ls' := []) [] rfl (vX8_listOf_b45 C (0 : Int32) h1 H)
  · have H := H.2 c
    refine s_aload_n (pc := 36) C dX8_listOf_36 rfl 0 rfl ?_
    refine s_iload_n (pc := 37) C dX8_listOf_37 rfl 1 rfl ?_
    refine s_callv (pc := 38) (nA := 1) (as := [vI x1]) (st := []) (stk := [vI x1, vR 5 0 0]) ckX8 (Or.inl rfl) C (fun l hl => ctX8_list l hl x1 _ _ H) ⟨⟨kw_1781, kw_69, kw_1784⟩, rfl, ⟨by decide, by decide, by decide +kernel⟩, by decide, by decide⟩ kw_1783 (g_selW kw_38) rfl (Nat.le_of_ble_eq_true rfl) ⟨by decide, by decide⟩ rfl dX8_listOf_38 (g_Kq_I (fun u3 h2 H => ?_) (fun E h2 H => s_prop rfl ⟨by decide, by decide⟩ H C))
    refine s_goto (pc := 41) (tgt := 45) C dX8_listOf_41 (by decide) ?_
    exact s_sub (ls' := []) [] rfl (vX8_listOf_b45 C u3 h2 H)
set_option maxRecDepth 100000 in
set_option maxHeartbeats 4000000 in
theorem vX8_listOf {G : g_G} {X : g_X} {Q : g_R → g_Hp → Prop} (C : g_Cx y_ G X iX8_listOf) (p0 : Int32) (h : g_Hp) (H : wX8_listOf p0 h Q) : g_V G X iX8_listOf 0 0 Q 0 0 0 [(0, vR 5 0 0), (1, vI p0)] [] h := by
  refine s_aload_n (pc := 0) C dX8_listOf_0 rfl 0 rfl ?_
  refine s_aload_n (pc := 1) C dX8_listOf_1 rfl 0 rfl ?_
  refine s_iload_n (pc := 2) C dX8_listOf_2 rfl 1 rfl ?_
  refine s_callv (pc := 3) (nA := 1) (as := [vI p0]) (st := [vR 5 0 0]) (stk := [vI p0, vR 5 0 0, vR 5 0 0]) ckX8 (Or.inl rfl) C (fun l hl => ctX8_isMember l hl p0 _ _ H) ⟨⟨kw_1616, kw_69, kw_1619⟩, rfl, ⟨by decide, by decide, by decide +kernel⟩, by decide, by decide⟩ kw_1618 (g_selW kw_27) rfl (Nat.le_of_ble_eq_true rfl) ⟨by decide, by decide⟩ rfl dX8_listOf_3 (g_Kq_I (fun u2 h1 H => ?_) (fun E h1 H => s_prop rfl ⟨by decide, by decide⟩ H C))
  refine s_if_ne (pc := 6) (tgt := 13) C dX8_listOf_6 (by decide) (fun c => ?_) (fun c => ?_)
  · have H := H.1 c
    refine s_aload_n (pc := 13) C dX8_listOf_13 rfl 0 rfl ?_
    refine s_iload_n (pc := 14) C dX8_listOf_14 rfl 1 rfl ?_
    refine s_callv (pc := 15) (nA := 1) (as := [vI p0]) (st := [vR 5 0 0]) (stk := [vI p0, vR 5 0 0, vR 5 0 0]) ckX8 (Or.inl rfl) C (fun l hl => ctX8_list l hl p0 _ _ H) ⟨⟨kw_1781, kw_69, kw_1784⟩, rfl, ⟨by decide, by decide, by decide +kernel⟩, by decide, by decide⟩ kw_1783 (g_selW kw_38) rfl (Nat.le_of_ble_eq_true rfl) ⟨by decide, by decide⟩ rfl dX8_listOf_15 (g_Kq_I (fun u4 h3 H => ?_) (fun E h3 H => s_prop rfl ⟨by decide, by decide⟩ H C))
    refine s_if_ge (pc := 18) (tgt := 25) C dX8_listOf_18 (by decide) (fun c => ?_) (fun c => ?_)
    · have H := H.1 c
      refine s_iconst (pc := 25) C dX8_listOf_25 (x := (0 : Int32)) (by decide) ?_
      exact s_sub (ls' := [(0, vR 5 0 0), (1, vI p0)]) [0, 1] rfl (vX8_listOf_b26 C p0 (0 : Int32) h3 H)
    · have H := H.2 c
      refine s_iconst (pc := 21) C dX8_listOf_21 (x := (2 : Int32)) (by decide) ?_
      refine s_goto (pc := 22) (tgt := 26) C dX8_listOf_22 (by decide) ?_
      exact s_sub (ls' := [(0, vR 5 0 0), (1, vI p0)]) [0, 1] rfl (vX8_listOf_b26 C p0 (2 : Int32) h3 H)
  · have H := H.2 c
    refine s_iconst (pc := 9) C dX8_listOf_9 (x := (1 : Int32)) (by decide) ?_
    refine s_goto (pc := 10) (tgt := 26) C dX8_listOf_10 (by decide) ?_
    exact s_sub (ls' := [(0, vR 5 0 0), (1, vI p0)]) [0, 1] rfl (vX8_listOf_b26 C p0 (1 : Int32) h1 H)
theorem ctX8_listOf (l : Launch) (hl : l.stackTraces = false) {G : g_G} (p0 : Int32) (h : g_Hp) (Q : g_R → g_Hp → Prop) (H : wX8_listOf p0 h Q) : g_Met l y_ G iX8_listOf [vR 5 0 0, vI p0] h Q :=
  g_Met_of hl (by decide +kernel) rfl rfl (Nat.le_of_ble_eq_true rfl) (fun X C => vX8_listOf C p0 h H)
/-! X8_offers -/
abbrev iX8_offers : g_I := (RX8, yX8_offers, cX8_offers, 4, (some .int), [], { frames := 2, cells := 0, slots := 0, locals := 44 })
set_option maxRecDepth 100000 in
set_option maxHeartbeats 4000000 in
theorem vX8_offers_b41_B {G : g_G} {X : g_X} {Q : g_R → g_Hp → Prop} (C : g_Cx y_ G X iX8_offers) (R41 : Int32 → Int32 → Int32 → g_Hp → Prop) (hR41 : ∀ (x1 : Int32) (x2 : Int32) (x3 : Int32) (h : g_Hp), R41 x1 x2 x3 h → g_V G X iX8_offers 0 0 Q 41 0 0 [(0, vR 5 0 0), (1, vI x1), (2, vI x2), (3, vI x3)] [] h) (x1 : Int32) (x2 : Int32) (x3 : Int32) (h : g_Hp) (H : wX8_offers_b41_B Q R41 x1 x2 x3 h) : g_V G X iX8_offers 0 0 Q 41 0 0 [(0, vR 5 0 0), (1, vI x1), (2, vI x2), (3, vI x3)] [] h := by
  refine s_iload_n (pc := 41) C dX8_offers_41 rfl 3 rfl ?_
  refine s_bipush (pc := 42) C dX8_offers_42 (x := (12 : Int32)) (by decide) ?_
  refine s_icmp_ge (pc := 44) (tgt := 63) C dX8_offers_44 (by decide) (fun c => ?_) (fun c => ?_)
  · have H := H.1 c
    refine s_aload_n (pc := 63) C dX8_offers_63 rfl 0 rfl ?_
    refine s_getr (pc := 64) (s := 5) (a := 13) (b := 0) (c' := 0) ckX8 (by decide) kw_1510 rfl C dX8_offers_64 ?_
    refine s_bipush (pc := 67) C dX8_offers_67 (x := (8 : Int32)) (by decide) ?_
    refine s_iload_n (pc := 69) C dX8_offers_69 rfl 1 rfl ?_
    refine s_iast (pc := 70) (show ¬ ((8 : Int32) < 0 ∨ 169 ≤ (8 : Int32).toNatClampNeg) by decide) C dX8_offers_70 ?_
    refine s_name (fun h1 eh1 => ?_)
    have H := H h1 eh1
    refine s_iload_n (pc := 71) C dX8_offers_71 rfl 2 rfl ?_
    exact s_iret (pc := 72) rfl rfl ⟨by decide, by decide⟩ H C dX8_offers_72
  · have H := H.2 c
    refine s_aload_n (pc := 47) C dX8_offers_47 rfl 0 rfl ?_
    refine s_getr (pc := 48) (s := 5) (a := 13) (b := 0) (c' := 0) ckX8 (by decide) kw_1510 rfl C dX8_offers_48 ?_
    refine s_bipush (pc := 51) C dX8_offers_51 (x := (107 : Int32)) (by decide) ?_
    refine s_iload_n (pc := 53) C dX8_offers_53 rfl 3 rfl ?_
    refine s_iadd (pc := 54) C dX8_offers_54 ?_
    refine s_iconst (pc := 55) C dX8_offers_55 (x := (0 : Int32)) (by decide) ?_
    refine s_iast (pc := 56) H.1 C dX8_offers_56 ?_
    have H := H.2
    refine s_name (fun h2 eh2 => ?_)
    have H := H h2 eh2
    refine s_iincN (pc := 57) C dX8_offers_57 3 rfl (z' := (1 : Int32)) (by decide) (by decide) (fun y3 ey3 => ?_)
    have H := H y3 ey3
    show g_V _ _ _ _ _ _ _ _ _ [(3, vI y3), (0, vR 5 0 0), (1, vI x1), (2, vI x2)] _ _
    refine s_goto (pc := 60) (tgt := 41) C dX8_offers_60 (by decide) ?_
    exact s_sub (ls' := [(0, vR 5 0 0), (1, vI x1), (2, vI x2), (3, vI y3)]) [1, 2, 3, 0] rfl (hR41 x1 x2 y3 h2 H)
theorem vX8_offers_b41 {G : g_G} {X : g_X} {Q : g_R → g_Hp → Prop} (C : g_Cx y_ G X iX8_offers) (x1 : Int32) (x2 : Int32) (x3 : Int32) (h : g_Hp) (H : wX8_offers_b41 Q x1 x2 x3 h) : g_V G X iX8_offers 0 0 Q 41 0 0 [(0, vR 5 0 0), (1, vI x1), (2, vI x2), (3, vI x3)] [] h := by
  obtain ⟨n, H⟩ := H
  induction n generalizing x1 x2 x3 h with
  | zero => exact H.elim
  | succ n ih => exact vX8_offers_b41_B C _ (fun x1 x2 x3 h H => ih x1 x2 x3 h H) x1 x2 x3 h H
set_option maxRecDepth 100000 in
set_option maxHeartbeats 4000000 in
theorem vX8_offers {G : g_G} {X : g_X} {Q : g_R → g_Hp → Prop} (C : g_Cx y_ G X iX8_offers) (p0 : Int32) (h : g_Hp) (H : wX8_offers p0 h Q) : g_V G X iX8_offers 0 0 Q 0 0 0 [(0, vR 5 0 0), (1, vI p0)] [] h := by
  refine s_iload_n (pc := 0) C dX8_offers_0 rfl 1 rfl ?_
  refine s_iconst (pc := 1) C dX8_offers_1 (x := (1 : Int32)) (by decide) ?_
  refine s_bipush (pc := 2) C dX8_offers_2 (x := (50 : Int32)) (by decide) ?_
  refine s_calls (pc := 4) (nA := 3) (as := [vI p0, vI (1 : Int32), vI (50 : Int32)]) (st := []) (stk := [vI (50 : Int32), vI (1 : Int32), vI p0]) C (fun l hl => ctX8_isIn l hl p0 (1 : Int32) (50 : Int32) _ _ H) ⟨⟨kw_1589, kw_69, kw_1591⟩, rfl, ⟨by decide, by decide, by decide +kernel⟩, by decide, by decide⟩ kw_1590 rfl (Nat.le_of_ble_eq_true rfl) ⟨by decide, by decide⟩ rfl dX8_offers_4 (g_Kq_I (fun u2 h1 H => ?_) (fun E h1 H => s_prop rfl ⟨by decide, by decide⟩ H C))
  refine s_if_ne (pc := 7) (tgt := 16) C dX8_offers_7 (by decide) (fun c => ?_) (fun c => ?_)
  · have H := H.1 c
    refine s_aload_n (pc := 16) C dX8_offers_16 rfl 0 rfl ?_
    refine s_getr (pc := 17) (s := 5) (a := 13) (b := 0) (c' := 0) ckX8 (by decide) kw_1510 rfl C dX8_offers_17 ?_
    refine s_iconst (pc := 20) C dX8_offers_20 (x := (4 : Int32)) (by decide) ?_
    refine s_iald (pc := 21) (show ¬ ((4 : Int32) < 0 ∨ 169 ≤ (4 : Int32).toNatClampNeg) by decide) C dX8_offers_21 ?_
    refine s_if_ne (pc := 22) (tgt := 31) C dX8_offers_22 (by decide) (fun c => ?_) (fun c => ?_)
    · have H := H.1 c
      refine s_aload_n (pc := 31) C dX8_offers_31 rfl 0 rfl ?_
      refine s_bipush (pc := 32) C dX8_offers_32 (x := (107 : Int32)) (by decide) ?_
      refine s_iconst (pc := 34) C dX8_offers_34 (x := (1 : Int32)) (by decide) ?_
      refine s_callv (pc := 35) (nA := 2) (as := [vI (107 : Int32), vI (1 : Int32)]) (st := []) (stk := [vI (1 : Int32), vI (107 : Int32), vR 5 0 0]) ckX8 (Or.inl rfl) C (fun l hl => ctX8_count l hl (107 : Int32) (1 : Int32) _ _ H) ⟨⟨kw_1724, kw_69, kw_1727⟩, rfl, ⟨by decide, by decide, by decide +kernel⟩, by decide, by decide⟩ kw_1726 (g_selW kw_34) rfl (Nat.le_of_ble_eq_true rfl) ⟨by decide, by decide⟩ rfl dX8_offers_35 (g_Kq_I (fun u4 h3 H => ?_) (fun E h3 H => s_prop rfl ⟨by decide, by decide⟩ H C))
      refine s_istore_n (pc := 38) (ls' := [(2, vI u4), (0, vR 5 0 0), (1, vI p0)]) C dX8_offers_38 rfl (by decide) rfl ?_
      refine s_iconst (pc := 39) C dX8_offers_39 (x := (0 : Int32)) (by decide) ?_
      refine s_istore_n (pc := 40) (ls' := [(3, vI (0 : Int32)), (2, vI u4), (0, vR 5 0 0), (1, vI p0)]) C dX8_offers_40 rfl (by decide) rfl ?_
      exact s_sub (ls' := [(0, vR 5 0 0), (1, vI p0), (2, vI u4), (3, vI (0 : Int32))]) [2, 3, 1, 0] rfl (vX8_offers_b41 C p0 u4 (0 : Int32) h3 H)
    · have H := H.2 c
      refine s_aload_n (pc := 25) C dX8_offers_25 rfl 0 rfl ?_
      refine s_iconst (pc := 26) C dX8_offers_26 (x := (2 : Int32)) (by decide) ?_
      refine s_callv (pc := 27) (nA := 1) (as := [vI (2 : Int32)]) (st := []) (stk := [vI (2 : Int32), vR 5 0 0]) ckX8 (Or.inl rfl) C (fun l hl => ctX8_fail l hl (2 : Int32) _ _ H) ⟨⟨kw_1592, kw_69, kw_1595⟩, rfl, ⟨by decide, by decide, by decide +kernel⟩, by decide, by decide⟩ kw_1594 (g_selW kw_23) rfl (Nat.le_of_ble_eq_true rfl) ⟨by decide, by decide⟩ rfl dX8_offers_27 (g_Kq_I (fun u6 h5 H => ?_) (fun E h5 H => s_prop rfl ⟨by decide, by decide⟩ H C))
      exact s_iret (pc := 30) rfl rfl ⟨by decide, by decide⟩ H C dX8_offers_30
  · have H := H.2 c
    refine s_aload_n (pc := 10) C dX8_offers_10 rfl 0 rfl ?_
    refine s_iconst (pc := 11) C dX8_offers_11 (x := (1 : Int32)) (by decide) ?_
    refine s_callv (pc := 12) (nA := 1) (as := [vI (1 : Int32)]) (st := []) (stk := [vI (1 : Int32), vR 5 0 0]) ckX8 (Or.inl rfl) C (fun l hl => ctX8_fail l hl (1 : Int32) _ _ H) ⟨⟨kw_1592, kw_69, kw_1595⟩, rfl, ⟨by decide, by decide, by decide +kernel⟩, by decide, by decide⟩ kw_1594 (g_selW kw_23) rfl (Nat.le_of_ble_eq_true rfl) ⟨by decide, by decide⟩ rfl dX8_offers_12 (g_Kq_I (fun u8 h7 H => ?_) (fun E h7 H => s_prop rfl ⟨by decide, by decide⟩ H C))
    exact s_iret (pc := 15) rfl rfl ⟨by decide, by decide⟩ H C dX8_offers_15
theorem ctX8_offers (l : Launch) (hl : l.stackTraces = false) {G : g_G} (p0 : Int32) (h : g_Hp) (Q : g_R → g_Hp → Prop) (H : wX8_offers p0 h Q) : g_Met l y_ G iX8_offers [vR 5 0 0, vI p0] h Q :=
  g_Met_of hl (by decide +kernel) rfl rfl (Nat.le_of_ble_eq_true rfl) (fun X C => vX8_offers C p0 h H)
/-! X8_makeOffer -/
abbrev iX8_makeOffer : g_I := (RX8, yX8_makeOffer, cX8_makeOffer, 2, (some .int), [], { frames := 3, cells := 0, slots := 0, locals := 67 })
set_option maxRecDepth 100000 in
set_option maxHeartbeats 4000000 in
theorem vX8_makeOffer {G : g_G} {X : g_X} {Q : g_R → g_Hp → Prop} (C : g_Cx y_ G X iX8_makeOffer) (p0 : Int32) (h : g_Hp) (H : wX8_makeOffer p0 h Q) : g_V G X iX8_makeOffer 0 0 Q 0 0 0 [(0, vR 5 0 0), (1, vI p0)] [] h := by
  refine s_aload_n (pc := 0) C dX8_makeOffer_0 rfl 0 rfl ?_
  refine s_callv (pc := 1) (nA := 0) (as := []) (st := []) (stk := [vR 5 0 0]) ckX8 (Or.inl rfl) C (fun l hl => ctX8_begins l hl _ _ H) ⟨⟨kw_1575, kw_69, kw_1578⟩, rfl, ⟨by decide, by decide, by decide +kernel⟩, by decide, by decide⟩ kw_1577 (g_selW kw_21) rfl (Nat.le_of_ble_eq_true rfl) ⟨by decide, by decide⟩ rfl dX8_makeOffer_1 (g_Kq_V (fun h1 H => ?_) (fun E h1 H => s_prop rfl ⟨by decide, by decide⟩ H C))
  refine s_aload_n (pc := 4) C dX8_makeOffer_4 rfl 0 rfl ?_
  refine s_aload_n (pc := 5) C dX8_makeOffer_5 rfl 0 rfl ?_
  refine s_iload_n (pc := 6) C dX8_makeOffer_6 rfl 1 rfl ?_
  refine s_callv (pc := 7) (nA := 1) (as := [vI p0]) (st := [vR 5 0 0]) (stk := [vI p0, vR 5 0 0, vR 5 0 0]) ckX8 (Or.inl rfl) C (fun l hl => ctX8_offers l hl p0 _ _ H) ⟨⟨kw_1809, kw_69, kw_1812⟩, rfl, ⟨by decide, by decide, by decide +kernel⟩, by decide, by decide⟩ kw_1811 (g_selW kw_40) rfl (Nat.le_of_ble_eq_true rfl) ⟨by decide, by decide⟩ rfl dX8_makeOffer_7 (g_Kq_I (fun u3 h2 H => ?_) (fun E h2 H => s_prop rfl ⟨by decide, by decide⟩ H C))
  refine s_callv (pc := 10) (nA := 1) (as := [vI u3]) (st := []) (stk := [vI u3, vR 5 0 0]) ckX8 (Or.inl rfl) C (fun l hl => ctX8_ends l hl u3 _ _ H) ⟨⟨kw_1596, kw_69, kw_1599⟩, rfl, ⟨by decide, by decide, by decide +kernel⟩, by decide, by decide⟩ kw_1598 (g_selW kw_24) rfl (Nat.le_of_ble_eq_true rfl) ⟨by decide, by decide⟩ rfl dX8_makeOffer_10 (g_Kq_I (fun u5 h4 H => ?_) (fun E h4 H => s_prop rfl ⟨by decide, by decide⟩ H C))
  exact s_iret (pc := 13) rfl rfl ⟨by decide, by decide⟩ H C dX8_makeOffer_13
theorem ctX8_makeOffer (l : Launch) (hl : l.stackTraces = false) {G : g_G} (p0 : Int32) (h : g_Hp) (Q : g_R → g_Hp → Prop) (H : wX8_makeOffer p0 h Q) : g_Met l y_ G iX8_makeOffer [vR 5 0 0, vI p0] h Q :=
  g_Met_of hl (by decide +kernel) rfl rfl (Nat.le_of_ble_eq_true rfl) (fun X C => vX8_makeOffer C p0 h H)
/-! X8_grown -/
abbrev iX8_grown : g_I := (RX8, yX8_grown, cX8_grown, 3, (some .int), [], { frames := 1, cells := 0, slots := 0, locals := 20 })
set_option maxRecDepth 100000 in
set_option maxHeartbeats 4000000 in
theorem vX8_grown_b39 {G : g_G} {X : g_X} {Q : g_R → g_Hp → Prop} (C : g_Cx y_ G X iX8_grown) (z0 : Int32) (h : g_Hp) (H : wX8_grown_b39 Q z0 h) : g_V G X iX8_grown 0 0 Q 39 0 0 [] [vI z0] h := by
  exact s_iret (pc := 39) rfl rfl ⟨by decide, by decide⟩ H C dX8_grown_39
set_option maxRecDepth 100000 in
set_option maxHeartbeats 4000000 in
theorem vX8_grown {G : g_G} {X : g_X} {Q : g_R → g_Hp → Prop} (C : g_Cx y_ G X iX8_grown) (p0 : Int32) (h : g_Hp) (H : wX8_grown p0 h Q) : g_V G X iX8_grown 0 0 Q 0 0 0 [(0, vR 5 0 0), (1, vI p0)] [] h := by
  refine s_aload_n (pc := 0) C dX8_grown_0 rfl 0 rfl ?_
  refine s_getr (pc := 1) (s := 5) (a := 13) (b := 0) (c' := 0) ckX8 (by decide) kw_1510 rfl C dX8_grown_1 ?_
  refine s_bipush (pc := 4) C dX8_grown_4 (x := (23 : Int32)) (by decide) ?_
  refine s_iload_n (pc := 6) C dX8_grown_6 rfl 1 rfl ?_
  refine s_iadd (pc := 7) C dX8_grown_7 ?_
  refine s_iald (pc := 8) H.1 C dX8_grown_8 ?_
  have H := H.2
  refine s_bipush (pc := 9) C dX8_grown_9 (x := (100 : Int32)) (by decide) ?_
  refine s_aload_n (pc := 11) C dX8_grown_11 rfl 0 rfl ?_
  refine s_getr (pc := 12) (s := 5) (a := 13) (b := 0) (c' := 0) ckX8 (by decide) kw_1510 rfl C dX8_grown_12 ?_
  refine s_bipush (pc := 15) C dX8_grown_15 (x := (8 : Int32)) (by decide) ?_
  refine s_iald (pc := 17) (show ¬ ((8 : Int32) < 0 ∨ 169 ≤ (8 : Int32).toNatClampNeg) by decide) C dX8_grown_17 ?_
  refine s_iadd (pc := 18) C dX8_grown_18 ?_
  refine s_imul (pc := 19) C dX8_grown_19 ?_
  refine s_bipush (pc := 20) C dX8_grown_20 (x := (99 : Int32)) (by decide) ?_
  refine s_iadd (pc := 22) C dX8_grown_22 ?_
  refine s_bipush (pc := 23) C dX8_grown_23 (x := (100 : Int32)) (by decide) ?_
  refine s_idiv (pc := 25) C dX8_grown_25 H.1 ?_
  have H := H.2
  refine s_namei (fun y1 ey1 => ?_)
  have H := H y1 ey1
  refine s_istore_n (pc := 26) (ls' := [(2, vI y1), (0, vR 5 0 0), (1, vI p0)]) C dX8_grown_26 rfl (by decide) rfl ?_
  refine s_iload_n (pc := 27) C dX8_grown_27 rfl 0 rfl ?_
  refine s_bipush (pc := 28) C dX8_grown_28 (x := (99 : Int32)) (by decide) ?_
  refine s_icmp_ge (pc := 30) (tgt := 37) C dX8_grown_30 (by decide) (fun c => ?_) (fun c => ?_)
  · have H := H.1 c
    refine s_bipush (pc := 37) C dX8_grown_37 (x := (99 : Int32)) (by decide) ?_
    exact s_sub (ls' := []) [] rfl (vX8_grown_b39 C (99 : Int32) h H)
  · have H := H.2 c
    refine s_iload_n (pc := 33) C dX8_grown_33 rfl 0 rfl ?_
    refine s_goto (pc := 34) (tgt := 39) C dX8_grown_34 (by decide) ?_
    exact s_sub (ls' := []) [] rfl (vX8_grown_b39 C y1 h H)
theorem ctX8_grown (l : Launch) (hl : l.stackTraces = false) {G : g_G} (p0 : Int32) (h : g_Hp) (Q : g_R → g_Hp → Prop) (H : wX8_grown p0 h Q) : g_Met l y_ G iX8_grown [vR 5 0 0, vI p0] h Q :=
  g_Met_of hl (by decide +kernel) rfl rfl (Nat.le_of_ble_eq_true rfl) (fun X C => vX8_grown C p0 h H)
