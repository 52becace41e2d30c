/-! X8_hasVoted -/
abbrev iX8_hasVoted : g_I := (RX8, yX8_hasVoted, cX8_hasVoted, 2, (some .boolean), [], { frames := 4, cells := 0, slots := 0, locals := 85 })
set_option maxRecDepth 100000 in
set_option maxHeartbeats 4000000 in
theorem vX8_hasVoted_b15 {G : g_G} {X : g_X} {Q : g_R → g_Hp → Prop} (C : g_Cx y_ G X iX8_hasVoted) (z0 : Int32) (h : g_Hp) (H : wX8_hasVoted_b15 Q z0 h) : g_V G X iX8_hasVoted 0 0 Q 15 0 0 [] [vI z0] h := by
  exact s_iret (pc := 15) rfl (g_nz H.1) ⟨by decide, by decide⟩ H.2 C dX8_hasVoted_15
set_option maxRecDepth 100000 in
set_option maxHeartbeats 4000000 in
theorem vX8_hasVoted {G : g_G} {X : g_X} {Q : g_R → g_Hp → Prop} (C : g_Cx y_ G X iX8_hasVoted) (p0 : Int32) (h : g_Hp) (H : wX8_hasVoted p0 h Q) : g_V G X iX8_hasVoted 0 0 Q 0 0 0 [(0, vR 5 0 0), (1, vI p0)] [] h := by
  refine s_aload_n (pc := 0) C dX8_hasVoted_0 rfl 0 rfl ?_
  refine s_iload_n (pc := 1) C dX8_hasVoted_1 rfl 1 rfl ?_
  refine s_bipush (pc := 2) C dX8_hasVoted_2 (x := (95 : Int32)) (by decide) ?_
  refine s_callv (pc := 4) (nA := 2) (as := [vI p0, vI (95 : Int32)]) (st := []) (stk := [vI (95 : Int32), vI p0, vR 5 0 0]) ckX8 (Or.inl rfl) C (fun l hl => ctX8_tellsOf l hl p0 (95 : Int32) _ _ H) ⟨⟨kw_1612, kw_69, kw_1615⟩, rfl, ⟨by decide, by decide, by decide +kernel⟩, by decide, by decide⟩ kw_1614 (g_selW kw_26) rfl (Nat.le_of_ble_eq_true rfl) ⟨by decide, by decide⟩ rfl dX8_hasVoted_4 (g_Kq_I (fun u2 h1 H => ?_) (fun E h1 H => s_prop rfl ⟨by decide, by decide⟩ H C))
  refine s_if_le (pc := 7) (tgt := 14) C dX8_hasVoted_7 (by decide) (fun c => ?_) (fun c => ?_)
  · have H := H.1 c
    refine s_iconst (pc := 14) C dX8_hasVoted_14 (x := (0 : Int32)) (by decide) ?_
    exact s_sub (ls' := []) [] rfl (vX8_hasVoted_b15 C (0 : Int32) h1 H)
  · have H := H.2 c
    refine s_iconst (pc := 10) C dX8_hasVoted_10 (x := (1 : Int32)) (by decide) ?_
    refine s_goto (pc := 11) (tgt := 15) C dX8_hasVoted_11 (by decide) ?_
    exact s_sub (ls' := []) [] rfl (vX8_hasVoted_b15 C (1 : Int32) h1 H)
theorem ctX8_hasVoted (l : Launch) (hl : l.stackTraces = false) {G : g_G} (p0 : Int32) (h : g_Hp) (Q : g_R → g_Hp → Prop) (H : wX8_hasVoted p0 h Q) : g_Met l y_ G iX8_hasVoted [vR 5 0 0, vI p0] h Q :=
  g_Met_of hl (by decide +kernel) rfl rfl (Nat.le_of_ble_eq_true rfl) (fun X C => vX8_hasVoted C p0 h H)
/-! X8_starts -/
abbrev iX8_starts : g_I := (RX8, yX8_starts, cX8_starts, 2, (some .int), [], { frames := 2, cells := 0, slots := 0, locals := 44 })
set_option maxRecDepth 100000 in
set_option maxHeartbeats 4000000 in
theorem vX8_starts_b42_B {G : g_G} {X : g_X} {Q : g_R → g_Hp → Prop} (C : g_Cx y_ G X iX8_starts) (R42 : Int32 → g_Hp → Prop) (hR42 : ∀ (x1 : Int32) (h : g_Hp), R42 x1 h → g_V G X iX8_starts 0 0 Q 42 0 0 [(0, vR 5 0 0), (1, vI x1)] [] h) (x1 : Int32) (h : g_Hp) (H : wX8_starts_b42_B Q R42 x1 h) : g_V G X iX8_starts 0 0 Q 42 0 0 [(0, vR 5 0 0), (1, vI x1)] [] h := by
  refine s_iload_n (pc := 42) C dX8_starts_42 rfl 1 rfl ?_
  refine s_bipush (pc := 43) C dX8_starts_43 (x := (12 : Int32)) (by decide) ?_
  refine s_icmp_ge (pc := 45) (tgt := 64) C dX8_starts_45 (by decide) (fun c => ?_) (fun c => ?_)
  · have H := H.1 c
    refine s_aload_n (pc := 64) C dX8_starts_64 rfl 0 rfl ?_
    refine s_getr (pc := 65) (s := 5) (a := 13) (b := 0) (c' := 0) ckX8 (by decide) kw_1510 rfl C dX8_starts_65 ?_
    refine s_iconst (pc := 68) C dX8_starts_68 (x := (4 : Int32)) (by decide) ?_
    refine s_iconst (pc := 69) C dX8_starts_69 (x := (1 : Int32)) (by decide) ?_
    refine s_iast (pc := 70) (show ¬ ((4 : Int32) < 0 ∨ 169 ≤ (4 : Int32).toNatClampNeg) by decide) C dX8_starts_70 ?_
    refine s_name (fun h1 eh1 => ?_)
    have H := H h1 eh1
    refine s_aload_n (pc := 71) C dX8_starts_71 rfl 0 rfl ?_
    refine s_getr (pc := 72) (s := 5) (a := 13) (b := 0) (c' := 0) ckX8 (by decide) kw_1510 rfl C dX8_starts_72 ?_
    refine s_bipush (pc := 75) C dX8_starts_75 (x := (6 : Int32)) (by decide) ?_
    refine s_iconst (pc := 77) C dX8_starts_77 (x := (0 : Int32)) (by decide) ?_
    refine s_iast (pc := 78) (show ¬ ((6 : Int32) < 0 ∨ 169 ≤ (6 : Int32).toNatClampNeg) by decide) C dX8_starts_78 ?_
    refine s_name (fun h2 eh2 => ?_)
    have H := H h2 eh2
    refine s_aload_n (pc := 79) C dX8_starts_79 rfl 0 rfl ?_
    refine s_getr (pc := 80) (s := 5) (a := 13) (b := 0) (c' := 0) ckX8 (by decide) kw_1510 rfl C dX8_starts_80 ?_
    refine s_iconst (pc := 83) C dX8_starts_83 (x := (5 : Int32)) (by decide) ?_
    refine s_dup2 (pc := 84) C dX8_starts_84 rfl rfl ?_
    refine s_iald (pc := 85) (show ¬ ((5 : Int32) < 0 ∨ 169 ≤ (5 : Int32).toNatClampNeg) by decide) C dX8_starts_85 ?_
    refine s_iconst (pc := 86) C dX8_starts_86 (x := (1 : Int32)) (by decide) ?_
    refine s_iadd (pc := 87) C dX8_starts_87 ?_
    refine s_iast (pc := 88) (show ¬ ((5 : Int32) < 0 ∨ 169 ≤ (5 : Int32).toNatClampNeg) by decide) C dX8_starts_88 ?_
    refine s_name (fun h3 eh3 => ?_)
    have H := H h3 eh3
    refine s_aload_n (pc := 89) C dX8_starts_89 rfl 0 rfl ?_
    refine s_getr (pc := 90) (s := 5) (a := 13) (b := 0) (c' := 0) ckX8 (by decide) kw_1510 rfl C dX8_starts_90 ?_
    refine s_iconst (pc := 93) C dX8_starts_93 (x := (5 : Int32)) (by decide) ?_
    refine s_iald (pc := 94) (show ¬ ((5 : Int32) < 0 ∨ 169 ≤ (5 : Int32).toNatClampNeg) by decide) C dX8_starts_94 ?_
    exact s_iret (pc := 95) rfl rfl ⟨by decide, by decide⟩ H C dX8_starts_95
  · have H := H.2 c
    refine s_aload_n (pc := 48) C dX8_starts_48 rfl 0 rfl ?_
    refine s_getr (pc := 49) (s := 5) (a := 13) (b := 0) (c' := 0) ckX8 (by decide) kw_1510 rfl C dX8_starts_49 ?_
    refine s_bipush (pc := 52) C dX8_starts_52 (x := (95 : Int32)) (by decide) ?_
    refine s_iload_n (pc := 54) C dX8_starts_54 rfl 1 rfl ?_
    refine s_iadd (pc := 55) C dX8_starts_55 ?_
    refine s_iconst (pc := 56) C dX8_starts_56 (x := (0 : Int32)) (by decide) ?_
    refine s_iast (pc := 57) H.1 C dX8_starts_57 ?_
    have H := H.2
    refine s_name (fun h4 eh4 => ?_)
    have H := H h4 eh4
    refine s_iincN (pc := 58) C dX8_starts_58 1 rfl (z' := (1 : Int32)) (by decide) (by decide) (fun y5 ey5 => ?_)
    have H := H y5 ey5
    show g_V _ _ _ _ _ _ _ _ _ [(1, vI y5), (0, vR 5 0 0)] _ _
    refine s_goto (pc := 61) (tgt := 42) C dX8_starts_61 (by decide) ?_
    exact s_sub (ls' := [(0, vR 5 0 0), (1, vI y5)]) [1, 0] rfl (hR42 y5 h4 H)
theorem vX8_starts_b42 {G : g_G} {X : g_X} {Q : g_R → g_Hp → Prop} (C : g_Cx y_ G X iX8_starts) (x1 : Int32) (h : g_Hp) (H : wX8_starts_b42 Q x1 h) : g_V G X iX8_starts 0 0 Q 42 0 0 [(0, vR 5 0 0), (1, vI x1)] [] h := by
  obtain ⟨n, H⟩ := H
  induction n generalizing x1 h with
  | zero => exact H.elim
  | succ n ih => exact vX8_starts_b42_B C _ (fun x1 h H => ih x1 h H) x1 h H
set_option maxRecDepth 100000 in
set_option maxHeartbeats 4000000 in
theorem vX8_starts {G : g_G} {X : g_X} {Q : g_R → g_Hp → Prop} (C : g_Cx y_ G X iX8_starts) (h : g_Hp) (H : wX8_starts h Q) : g_V G X iX8_starts 0 0 Q 0 0 0 [(0, vR 5 0 0)] [] h := by
  refine s_aload_n (pc := 0) C dX8_starts_0 rfl 0 rfl ?_
  refine s_getr (pc := 1) (s := 5) (a := 13) (b := 0) (c' := 0) ckX8 (by decide) kw_1510 rfl C dX8_starts_1 ?_
  refine s_iconst (pc := 4) C dX8_starts_4 (x := (4 : Int32)) (by decide) ?_
  refine s_iald (pc := 5) (show ¬ ((4 : Int32) < 0 ∨ 169 ≤ (4 : Int32).toNatClampNeg) by decide) C dX8_starts_5 ?_
  refine s_iconst (pc := 6) C dX8_starts_6 (x := (1 : Int32)) (by decide) ?_
  refine s_icmp_ne (pc := 7) (tgt := 16) C dX8_starts_7 (by decide) (fun c => ?_) (fun c => ?_)
  · have H := H.1 c
    refine s_iconst (pc := 16) C dX8_starts_16 (x := (2 : Int32)) (by decide) ?_
    refine s_aload_n (pc := 17) C dX8_starts_17 rfl 0 rfl ?_
    refine s_bipush (pc := 18) C dX8_starts_18 (x := (95 : Int32)) (by decide) ?_
    refine s_iconst (pc := 20) C dX8_starts_20 (x := (1 : Int32)) (by decide) ?_
    refine s_callv (pc := 21) (nA := 2) (as := [vI (95 : Int32), vI (1 : Int32)]) (st := [vI (2 : Int32)]) (stk := [vI (1 : Int32), vI (95 : Int32), vR 5 0 0, vI (2 : Int32)]) ckX8 (Or.inl rfl) C (fun l hl => ctX8_count l hl (95 : Int32) (1 : Int32) _ _ H) ⟨⟨kw_1724, kw_69, kw_1727⟩, rfl, ⟨by decide, by decide, by decide +kernel⟩, by decide, by decide⟩ kw_1726 (g_selW kw_34) rfl (Nat.le_of_ble_eq_true rfl) ⟨by decide, by decide⟩ rfl dX8_starts_21 (g_Kq_I (fun u2 h1 H => ?_) (fun E h1 H => s_prop rfl ⟨by decide, by decide⟩ H C))
    refine s_imul (pc := 24) C dX8_starts_24 ?_
    refine s_aload_n (pc := 25) C dX8_starts_25 rfl 0 rfl ?_
    refine s_getr (pc := 26) (s := 5) (a := 13) (b := 0) (c' := 0) ckX8 (by decide) kw_1510 rfl C dX8_starts_26 ?_
    refine s_iconst (pc := 29) C dX8_starts_29 (x := (0 : Int32)) (by decide) ?_
    refine s_iald (pc := 30) (show ¬ ((0 : Int32) < 0 ∨ 169 ≤ (0 : Int32).toNatClampNeg) by decide) C dX8_starts_30 ?_
    refine s_icmp_gt (pc := 31) (tgt := 40) C dX8_starts_31 (by decide) (fun c => ?_) (fun c => ?_)
    · have H := H.1 c
      refine s_iconst (pc := 40) C dX8_starts_40 (x := (0 : Int32)) (by decide) ?_
      refine s_istore_n (pc := 41) (ls' := [(1, vI (0 : Int32)), (0, vR 5 0 0)]) C dX8_starts_41 rfl (by decide) rfl ?_
      exact s_sub (ls' := [(0, vR 5 0 0), (1, vI (0 : Int32))]) [1, 0] rfl (vX8_starts_b42 C (0 : Int32) h1 H)
    · have H := H.2 c
      refine s_aload_n (pc := 34) C dX8_starts_34 rfl 0 rfl ?_
      refine s_iconst (pc := 35) C dX8_starts_35 (x := (2 : Int32)) (by decide) ?_
      refine s_callv (pc := 36) (nA := 1) (as := [vI (2 : Int32)]) (st := []) (stk := [vI (2 : Int32), vR 5 0 0]) ckX8 (Or.inl rfl) C (fun l hl => ctX8_fail l hl (2 : Int32) _ _ H) ⟨⟨kw_1592, kw_69, kw_1595⟩, rfl, ⟨by decide, by decide, by decide +kernel⟩, by decide, by decide⟩ kw_1594 (g_selW kw_23) rfl (Nat.le_of_ble_eq_true rfl) ⟨by decide, by decide⟩ rfl dX8_starts_36 (g_Kq_I (fun u4 h3 H => ?_) (fun E h3 H => s_prop rfl ⟨by decide, by decide⟩ H C))
      exact s_iret (pc := 39) rfl rfl ⟨by decide, by decide⟩ H C dX8_starts_39
  · have H := H.2 c
    refine s_aload_n (pc := 10) C dX8_starts_10 rfl 0 rfl ?_
    refine s_iconst (pc := 11) C dX8_starts_11 (x := (1 : Int32)) (by decide) ?_
    refine s_callv (pc := 12) (nA := 1) (as := [vI (1 : Int32)]) (st := []) (stk := [vI (1 : Int32), vR 5 0 0]) ckX8 (Or.inl rfl) C (fun l hl => ctX8_fail l hl (1 : Int32) _ _ H) ⟨⟨kw_1592, kw_69, kw_1595⟩, rfl, ⟨by decide, by decide, by decide +kernel⟩, by decide, by decide⟩ kw_1594 (g_selW kw_23) rfl (Nat.le_of_ble_eq_true rfl) ⟨by decide, by decide⟩ rfl dX8_starts_12 (g_Kq_I (fun u6 h5 H => ?_) (fun E h5 H => s_prop rfl ⟨by decide, by decide⟩ H C))
    exact s_iret (pc := 15) rfl rfl ⟨by decide, by decide⟩ H C dX8_starts_15
theorem ctX8_starts (l : Launch) (hl : l.stackTraces = false) {G : g_G} (h : g_Hp) (Q : g_R → g_Hp → Prop) (H : wX8_starts h Q) : g_Met l y_ G iX8_starts [vR 5 0 0] h Q :=
  g_Met_of hl (by decide +kernel) rfl rfl (Nat.le_of_ble_eq_true rfl) (fun X C => vX8_starts C h H)
/-! X8_callStrike -/
abbrev iX8_callStrike : g_I := (RX8, yX8_callStrike, cX8_callStrike, 1, (some .int), [], { frames := 3, cells := 0, slots := 0, locals := 65 })
set_option maxRecDepth 100000 in
set_option maxHeartbeats 4000000 in
theorem vX8_callStrike {G : g_G} {X : g_X} {Q : g_R → g_Hp → Prop} (C : g_Cx y_ G X iX8_callStrike) (h : g_Hp) (H : wX8_callStrike h Q) : g_V G X iX8_callStrike 0 0 Q 0 0 0 [(0, vR 5 0 0)] [] h := by
  refine s_aload_n (pc := 0) C dX8_callStrike_0 rfl 0 rfl ?_
  refine s_callv (pc := 1) (nA := 0) (as := []) (st := []) (stk := [vR 5 0 0]) ckX8 (Or.inl rfl) C (fun l hl => ctX8_begins l hl _ _ H) ⟨⟨kw_1575, kw_69, kw_1578⟩, rfl, ⟨by decide, by decide, by decide +kernel⟩, by decide, by decide⟩ kw_1577 (g_selW kw_21) rfl (Nat.le_of_ble_eq_true rfl) ⟨by decide, by decide⟩ rfl dX8_callStrike_1 (g_Kq_V (fun h1 H => ?_) (fun E h1 H => s_prop rfl ⟨by decide, by decide⟩ H C))
  refine s_aload_n (pc := 4) C dX8_callStrike_4 rfl 0 rfl ?_
  refine s_aload_n (pc := 5) C dX8_callStrike_5 rfl 0 rfl ?_
  refine s_callv (pc := 6) (nA := 0) (as := []) (st := [vR 5 0 0]) (stk := [vR 5 0 0, vR 5 0 0]) ckX8 (Or.inl rfl) C (fun l hl => ctX8_starts l hl _ _ H) ⟨⟨kw_1740, kw_69, kw_1743⟩, rfl, ⟨by decide, by decide, by decide +kernel⟩, by decide, by decide⟩ kw_1742 (g_selW kw_35) rfl (Nat.le_of_ble_eq_true rfl) ⟨by decide, by decide⟩ rfl dX8_callStrike_6 (g_Kq_I (fun u3 h2 H => ?_) (fun E h2 H => s_prop rfl ⟨by decide, by decide⟩ H C))
  refine s_callv (pc := 9) (nA := 1) (as := [vI u3]) (st := []) (stk := [vI u3, vR 5 0 0]) ckX8 (Or.inl rfl) C (fun l hl => ctX8_ends l hl u3 _ _ H) ⟨⟨kw_1596, kw_69, kw_1599⟩, rfl, ⟨by decide, by decide, by decide +kernel⟩, by decide, by decide⟩ kw_1598 (g_selW kw_24) rfl (Nat.le_of_ble_eq_true rfl) ⟨by decide, by decide⟩ rfl dX8_callStrike_9 (g_Kq_I (fun u5 h4 H => ?_) (fun E h4 H => s_prop rfl ⟨by decide, by decide⟩ H C))
  exact s_iret (pc := 12) rfl rfl ⟨by decide, by decide⟩ H C dX8_callStrike_12
theorem ctX8_callStrike (l : Launch) (hl : l.stackTraces = false) {G : g_G} (h : g_Hp) (Q : g_R → g_Hp → Prop) (H : wX8_callStrike h Q) : g_Met l y_ G iX8_callStrike [vR 5 0 0] h Q :=
  g_Met_of hl (by decide +kernel) rfl rfl (Nat.le_of_ble_eq_true rfl) (fun X C => vX8_callStrike C h H)
/-! X8_isOnStrike -/
abbrev iX8_isOnStrike : g_I := (RX8, yX8_isOnStrike, cX8_isOnStrike, 1, (some .boolean), [], { frames := 2, cells := 0, slots := 0, locals := 41 })
set_option maxRecDepth 100000 in
set_option maxHeartbeats 4000000 in
theorem vX8_isOnStrike_b14 {G : g_G} {X : g_X} {Q : g_R → g_Hp → Prop} (C : g_Cx y_ G X iX8_isOnStrike) (z0 : Int32) (h : g_Hp) (H : wX8_isOnStrike_b14 Q z0 h) : g_V G X iX8_isOnStrike 0 0 Q 14 0 0 [] [vI z0] h := by
  exact s_iret (pc := 14) rfl (g_nz H.1) ⟨by decide, by decide⟩ H.2 C dX8_isOnStrike_14
set_option maxRecDepth 100000 in
set_option maxHeartbeats 4000000 in
theorem vX8_isOnStrike {G : g_G} {X : g_X} {Q : g_R → g_Hp → Prop} (C : g_Cx y_ G X iX8_isOnStrike) (h : g_Hp) (H : wX8_isOnStrike h Q) : g_V G X iX8_isOnStrike 0 0 Q 0 0 0 [(0, vR 5 0 0)] [] h := by
  refine s_aload_n (pc := 0) C dX8_isOnStrike_0 rfl 0 rfl ?_
  refine s_iconst (pc := 1) C dX8_isOnStrike_1 (x := (4 : Int32)) (by decide) ?_
  refine s_callv (pc := 2) (nA := 1) (as := [vI (4 : Int32)]) (st := []) (stk := [vI (4 : Int32), vR 5 0 0]) ckX8 (Or.inl rfl) C (fun l hl => ctX8_tells l hl (4 : Int32) _ _ H) ⟨⟨kw_1604, kw_69, kw_1607⟩, rfl, ⟨by decide, by decide, by decide +kernel⟩, by decide, by decide⟩ kw_1606 (g_selW kw_25) rfl (Nat.le_of_ble_eq_true rfl) ⟨by decide, by decide⟩ rfl dX8_isOnStrike_2 (g_Kq_I (fun u2 h1 H => ?_) (fun E h1 H => s_prop rfl ⟨by decide, by decide⟩ H C))
  refine s_iconst (pc := 5) C dX8_isOnStrike_5 (x := (1 : Int32)) (by decide) ?_
  refine s_icmp_ne (pc := 6) (tgt := 13) C dX8_isOnStrike_6 (by decide) (fun c => ?_) (fun c => ?_)
  · have H := H.1 c
    refine s_iconst (pc := 13) C dX8_isOnStrike_13 (x := (0 : Int32)) (by decide) ?_
    exact s_sub (ls' := []) [] rfl (vX8_isOnStrike_b14 C (0 : Int32) h1 H)
  · have H := H.2 c
    refine s_iconst (pc := 9) C dX8_isOnStrike_9 (x := (1 : Int32)) (by decide) ?_
    refine s_goto (pc := 10) (tgt := 14) C dX8_isOnStrike_10 (by decide) ?_
    exact s_sub (ls' := []) [] rfl (vX8_isOnStrike_b14 C (1 : Int32) h1 H)
theorem ctX8_isOnStrike (l : Launch) (hl : l.stackTraces = false) {G : g_G} (h : g_Hp) (Q : g_R → g_Hp → Prop) (H : wX8_isOnStrike h Q) : g_Met l y_ G iX8_isOnStrike [vR 5 0 0] h Q :=
  g_Met_of hl (by decide +kernel) rfl rfl (Nat.le_of_ble_eq_true rfl) (fun X C => vX8_isOnStrike C h H)
/-! X8_strikeShifts -/
abbrev iX8_strikeShifts : g_I := (RX8, yX8_strikeShifts, cX8_strikeShifts, 1, (some .int), [], { frames := 1, cells := 0, slots := 0, locals := 20 })
set_option maxRecDepth 100000 in
set_option maxHeartbeats 4000000 in
theorem vX8_strikeShifts_b37 {G : g_G} {X : g_X} {Q : g_R → g_Hp → Prop} (C : g_Cx y_ G X iX8_strikeShifts) (z0 : Int32) (h : g_Hp) (H : wX8_strikeShifts_b37 Q z0 h) : g_V G X iX8_strikeShifts 0 0 Q 37 0 0 [] [vI z0] h := by
  exact s_iret (pc := 37) rfl rfl ⟨by decide, by decide⟩ H C dX8_strikeShifts_37
set_option maxRecDepth 100000 in
set_option maxHeartbeats 4000000 in
theorem vX8_strikeShifts_b16 {G : g_G} {X : g_X} {Q : g_R → g_Hp → Prop} (C : g_Cx y_ G X iX8_strikeShifts) (z0 : Int32) (h : g_Hp) (H : wX8_strikeShifts_b16 Q z0 h) : g_V G X iX8_strikeShifts 0 0 Q 16 0 0 [(0, vR 5 0 0)] [vI z0, vR 5 0 0] h := by
  refine s_puti (pc := 16) (s := 0) ckX8 (Or.inl rfl) (by decide) kw_1505 (fun _ => rfl) rfl rfl rfl C dX8_strikeShifts_16 ?_
  refine s_name (fun h1 eh1 => ?_)
  have H := H h1 eh1
  refine s_aload_n (pc := 19) C dX8_strikeShifts_19 rfl 0 rfl ?_
  refine s_geti (pc := 20) (s := 0) ckX8 (Or.inl rfl) (by decide) kw_1505 (fun _ => rfl) C dX8_strikeShifts_20 ?_
  refine s_if_ne (pc := 23) (tgt := 36) C dX8_strikeShifts_23 (by decide) (fun c => ?_) (fun c => ?_)
  · have H := H.1 c
    refine s_iconst (pc := 36) C dX8_strikeShifts_36 (x := (0 : Int32)) (by decide) ?_
    exact s_sub (ls' := []) [] rfl (vX8_strikeShifts_b37 C (0 : Int32) h1 H)
  · have H := H.2 c
    refine s_aload_n (pc := 26) C dX8_strikeShifts_26 rfl 0 rfl ?_
    refine s_getr (pc := 27) (s := 5) (a := 13) (b := 0) (c' := 0) ckX8 (by decide) kw_1510 rfl C dX8_strikeShifts_27 ?_
    refine s_bipush (pc := 30) C dX8_strikeShifts_30 (x := (6 : Int32)) (by decide) ?_
    refine s_iald (pc := 32) (show ¬ ((6 : Int32) < 0 ∨ 169 ≤ (6 : Int32).toNatClampNeg) by decide) C dX8_strikeShifts_32 ?_
    refine s_goto (pc := 33) (tgt := 37) C dX8_strikeShifts_33 (by decide) ?_
    exact s_sub (ls' := []) [] rfl (vX8_strikeShifts_b37 C (h1 13 0 0 ((6 : Int32).toNatClampNeg + 1)) h1 H)
set_option maxRecDepth 100000 in
set_option maxHeartbeats 4000000 in
theorem vX8_strikeShifts {G : g_G} {X : g_X} {Q : g_R → g_Hp → Prop} (C : g_Cx y_ G X iX8_strikeShifts) (h : g_Hp) (H : wX8_strikeShifts h Q) : g_V G X iX8_strikeShifts 0 0 Q 0 0 0 [(0, vR 5 0 0)] [] h := by
  refine s_aload_n (pc := 0) C dX8_strikeShifts_0 rfl 0 rfl ?_
  refine s_aload_n (pc := 1) C dX8_strikeShifts_1 rfl 0 rfl ?_
  refine s_getr (pc := 2) (s := 5) (a := 13) (b := 0) (c' := 0) ckX8 (by decide) kw_1510 rfl C dX8_strikeShifts_2 ?_
  refine s_iconst (pc := 5) C dX8_strikeShifts_5 (x := (4 : Int32)) (by decide) ?_
  refine s_iald (pc := 6) (show ¬ ((4 : Int32) < 0 ∨ 169 ≤ (4 : Int32).toNatClampNeg) by decide) C dX8_strikeShifts_6 ?_
  refine s_iconst (pc := 7) C dX8_strikeShifts_7 (x := (1 : Int32)) (by decide) ?_
  refine s_icmp_ne (pc := 8) (tgt := 15) C dX8_strikeShifts_8 (by decide) (fun c => ?_) (fun c => ?_)
  · have H := H.1 c
    refine s_iconst (pc := 15) C dX8_strikeShifts_15 (x := (1 : Int32)) (by decide) ?_
    exact s_sub (ls' := [(0, vR 5 0 0)]) [0] rfl (vX8_strikeShifts_b16 C (1 : Int32) h H)
  · have H := H.2 c
    refine s_iconst (pc := 11) C dX8_strikeShifts_11 (x := (0 : Int32)) (by decide) ?_
    refine s_goto (pc := 12) (tgt := 16) C dX8_strikeShifts_12 (by decide) ?_
    exact s_sub (ls' := [(0, vR 5 0 0)]) [0] rfl (vX8_strikeShifts_b16 C (0 : Int32) h H)
theorem ctX8_strikeShifts (l : Launch) (hl : l.stackTraces = false) {G : g_G} (h : g_Hp) (Q : g_R → g_Hp → Prop) (H : wX8_strikeShifts h Q) : g_Met l y_ G iX8_strikeShifts [vR 5 0 0] h Q :=
  g_Met_of hl (by decide +kernel) rfl rfl (Nat.le_of_ble_eq_true rfl) (fun X C => vX8_strikeShifts C h H)
/-! X8_pays -/
abbrev iX8_pays : g_I := (RX8, yX8_pays, cX8_pays, 2, (some .int), [], { frames := 2, cells := 0, slots := 0, locals := 42 })
set_option maxRecDepth 100000 in
set_option maxHeartbeats 4000000 in
theorem vX8_pays {G : g_G} {X : g_X} {Q : g_R → g_Hp → Prop} (C : g_Cx y_ G X iX8_pays) (p0 : Int32) (h : g_Hp) (H : wX8_pays p0 h Q) : g_V G X iX8_pays 0 0 Q 0 0 0 [(0, vR 5 0 0), (1, vI p0)] [] h := by
  refine s_iload_n (pc := 0) C dX8_pays_0 rfl 1 rfl ?_
  refine s_iconst (pc := 1) C dX8_pays_1 (x := (1 : Int32)) (by decide) ?_
  refine s_sipush (pc := 2) C dX8_pays_2 (x := (999 : Int32)) (by decide) ?_
  refine s_calls (pc := 5) (nA := 3) (as := [vI p0, vI (1 : Int32), vI (999 : Int32)]) (st := []) (stk := [vI (999 : Int32), vI (1 : Int32), vI p0]) C (fun l hl => ctX8_isIn l hl p0 (1 : Int32) (999 : Int32) _ _ H) ⟨⟨kw_1589, kw_69, kw_1591⟩, rfl, ⟨by decide, by decide, by decide +kernel⟩, by decide, by decide⟩ kw_1590 rfl (Nat.le_of_ble_eq_true rfl) ⟨by decide, by decide⟩ rfl dX8_pays_5 (g_Kq_I (fun u2 h1 H => ?_) (fun E h1 H => s_prop rfl ⟨by decide, by decide⟩ H C))
  refine s_if_ne (pc := 8) (tgt := 17) C dX8_pays_8 (by decide) (fun c => ?_) (fun c => ?_)
  · have H := H.1 c
    refine s_aload_n (pc := 17) C dX8_pays_17 rfl 0 rfl ?_
    refine s_getr (pc := 18) (s := 5) (a := 13) (b := 0) (c' := 0) ckX8 (by decide) kw_1510 rfl C dX8_pays_18 ?_
    refine s_bipush (pc := 21) C dX8_pays_21 (x := (7 : Int32)) (by decide) ?_
    refine s_iald (pc := 23) (show ¬ ((7 : Int32) < 0 ∨ 169 ≤ (7 : Int32).toNatClampNeg) by decide) C dX8_pays_23 ?_
    refine s_iload_n (pc := 24) C dX8_pays_24 rfl 1 rfl ?_
    refine s_iadd (pc := 25) C dX8_pays_25 ?_
    refine s_sipush (pc := 26) C dX8_pays_26 (x := (9999 : Int32)) (by decide) ?_
    refine s_icmp_le (pc := 29) (tgt := 38) C dX8_pays_29 (by decide) (fun c => ?_) (fun c => ?_)
    · have H := H.1 c
      refine s_aload_n (pc := 38) C dX8_pays_38 rfl 0 rfl ?_
      refine s_getr (pc := 39) (s := 5) (a := 13) (b := 0) (c' := 0) ckX8 (by decide) kw_1510 rfl C dX8_pays_39 ?_
      refine s_bipush (pc := 42) C dX8_pays_42 (x := (7 : Int32)) (by decide) ?_
      refine s_dup2 (pc := 44) C dX8_pays_44 rfl rfl ?_
      refine s_iald (pc := 45) (show ¬ ((7 : Int32) < 0 ∨ 169 ≤ (7 : Int32).toNatClampNeg) by decide) C dX8_pays_45 ?_
      refine s_iload_n (pc := 46) C dX8_pays_46 rfl 1 rfl ?_
      refine s_iadd (pc := 47) C dX8_pays_47 ?_
      refine s_iast (pc := 48) (show ¬ ((7 : Int32) < 0 ∨ 169 ≤ (7 : Int32).toNatClampNeg) by decide) C dX8_pays_48 ?_
      refine s_name (fun h3 eh3 => ?_)
      have H := H h3 eh3
      refine s_aload_n (pc := 49) C dX8_pays_49 rfl 0 rfl ?_
      refine s_getr (pc := 50) (s := 5) (a := 13) (b := 0) (c' := 0) ckX8 (by decide) kw_1510 rfl C dX8_pays_50 ?_
      refine s_bipush (pc := 53) C dX8_pays_53 (x := (7 : Int32)) (by decide) ?_
      refine s_iald (pc := 55) (show ¬ ((7 : Int32) < 0 ∨ 169 ≤ (7 : Int32).toNatClampNeg) by decide) C dX8_pays_55 ?_
      exact s_iret (pc := 56) rfl rfl ⟨by decide, by decide⟩ H C dX8_pays_56
    · have H := H.2 c
      refine s_aload_n (pc := 32) C dX8_pays_32 rfl 0 rfl ?_
      refine s_iconst (pc := 33) C dX8_pays_33 (x := (2 : Int32)) (by decide) ?_
      refine s_callv (pc := 34) (nA := 1) (as := [vI (2 : Int32)]) (st := []) (stk := [vI (2 : Int32), vR 5 0 0]) ckX8 (Or.inl rfl) C (fun l hl => ctX8_fail l hl (2 : Int32) _ _ H) ⟨⟨kw_1592, kw_69, kw_1595⟩, rfl, ⟨by decide, by decide, by decide +kernel⟩, by decide, by decide⟩ kw_1594 (g_selW kw_23) rfl (Nat.le_of_ble_eq_true rfl) ⟨by decide, by decide⟩ rfl dX8_pays_34 (g_Kq_I (fun u5 h4 H => ?_) (fun E h4 H => s_prop rfl ⟨by decide, by decide⟩ H C))
      exact s_iret (pc := 37) rfl rfl ⟨by decide, by decide⟩ H C dX8_pays_37
  · have H := H.2 c
    refine s_aload_n (pc := 11) C dX8_pays_11 rfl 0 rfl ?_
    refine s_iconst (pc := 12) C dX8_pays_12 (x := (1 : Int32)) (by decide) ?_
    refine s_callv (pc := 13) (nA := 1) (as := [vI (1 : Int32)]) (st := []) (stk := [vI (1 : Int32), vR 5 0 0]) ckX8 (Or.inl rfl) C (fun l hl => ctX8_fail l hl (1 : Int32) _ _ H) ⟨⟨kw_1592, kw_69, kw_1595⟩, rfl, ⟨by decide, by decide, by decide +kernel⟩, by decide, by decide⟩ kw_1594 (g_selW kw_23) rfl (Nat.le_of_ble_eq_true rfl) ⟨by decide, by decide⟩ rfl dX8_pays_13 (g_Kq_I (fun u7 h6 H => ?_) (fun E h6 H => s_prop rfl ⟨by decide, by decide⟩ H C))
    exact s_iret (pc := 16) rfl rfl ⟨by decide, by decide⟩ H C dX8_pays_16
theorem ctX8_pays (l : Launch) (hl : l.stackTraces = false) {G : g_G} (p0 : Int32) (h : g_Hp) (Q : g_R → g_Hp → Prop) (H : wX8_pays p0 h Q) : g_Met l y_ G iX8_pays [vR 5 0 0, vI p0] h Q :=
  g_Met_of hl (by decide +kernel) rfl rfl (Nat.le_of_ble_eq_true rfl) (fun X C => vX8_pays C p0 h H)
/-! X8_payIn -/
abbrev iX8_payIn : g_I := (RX8, yX8_payIn, cX8_payIn, 2, (some .int), [], { frames := 3, cells := 0, slots := 0, locals := 64 })
set_option maxRecDepth 100000 in
set_option maxHeartbeats 4000000 in
theorem vX8_payIn {G : g_G} {X : g_X} {Q : g_R → g_Hp → Prop} (C : g_Cx y_ G X iX8_payIn) (p0 : Int32) (h : g_Hp) (H : wX8_payIn p0 h Q) : g_V G X iX8_payIn 0 0 Q 0 0 0 [(0, vR 5 0 0), (1, vI p0)] [] h := by
  refine s_aload_n (pc := 0) C dX8_payIn_0 rfl 0 rfl ?_
  refine s_callv (pc := 1) (nA := 0) (as := []) (st := []) (stk := [vR 5 0 0]) ckX8 (Or.inl rfl) C (fun l hl => ctX8_begins l hl _ _ H) ⟨⟨kw_1575, kw_69, kw_1578⟩, rfl, ⟨by decide, by decide, by decide +kernel⟩, by decide, by decide⟩ kw_1577 (g_selW kw_21) rfl (Nat.le_of_ble_eq_true rfl) ⟨by decide, by decide⟩ rfl dX8_payIn_1 (g_Kq_V (fun h1 H => ?_) (fun E h1 H => s_prop rfl ⟨by decide, by decide⟩ H C))
  refine s_aload_n (pc := 4) C dX8_payIn_4 rfl 0 rfl ?_
  refine s_aload_n (pc := 5) C dX8_payIn_5 rfl 0 rfl ?_
  refine s_iload_n (pc := 6) C dX8_payIn_6 rfl 1 rfl ?_
  refine s_callv (pc := 7) (nA := 1) (as := [vI p0]) (st := [vR 5 0 0]) (stk := [vI p0, vR 5 0 0, vR 5 0 0]) ckX8 (Or.inl rfl) C (fun l hl => ctX8_pays l hl p0 _ _ H) ⟨⟨kw_1756, kw_69, kw_1759⟩, rfl, ⟨by decide, by decide, by decide +kernel⟩, by decide, by decide⟩ kw_1758 (g_selW kw_36) rfl (Nat.le_of_ble_eq_true rfl) ⟨by decide, by decide⟩ rfl dX8_payIn_7 (g_Kq_I (fun u3 h2 H => ?_) (fun E h2 H => s_prop rfl ⟨by decide, by decide⟩ H C))
  refine s_callv (pc := 10) (nA := 1) (as := [vI u3]) (st := []) (stk := [vI u3, vR 5 0 0]) ckX8 (Or.inl rfl) C (fun l hl => ctX8_ends l hl u3 _ _ H) ⟨⟨kw_1596, kw_69, kw_1599⟩, rfl, ⟨by decide, by decide, by decide +kernel⟩, by decide, by decide⟩ kw_1598 (g_selW kw_24) rfl (Nat.le_of_ble_eq_true rfl) ⟨by decide, by decide⟩ rfl dX8_payIn_10 (g_Kq_I (fun u5 h4 H => ?_) (fun E h4 H => s_prop rfl ⟨by decide, by decide⟩ H C))
  exact s_iret (pc := 13) rfl rfl ⟨by decide, by decide⟩ H C dX8_payIn_13
theorem ctX8_payIn (l : Launch) (hl : l.stackTraces = false) {G : g_G} (p0 : Int32) (h : g_Hp) (Q : g_R → g_Hp → Prop) (H : wX8_payIn p0 h Q) : g_Met l y_ G iX8_payIn [vR 5 0 0, vI p0] h Q :=
  g_Met_of hl (by decide +kernel) rfl rfl (Nat.le_of_ble_eq_true rfl) (fun X C => vX8_payIn C p0 h H)
/-! X8_fund -/
abbrev iX8_fund : g_I := (RX8, yX8_fund, cX8_fund, 1, (some .int), [], { frames := 2, cells := 0, slots := 0, locals := 41 })
set_option maxRecDepth 100000 in
set_option maxHeartbeats 4000000 in
theorem vX8_fund {G : g_G} {X : g_X} {Q : g_R → g_Hp → Prop} (C : g_Cx y_ G X iX8_fund) (h : g_Hp) (H : wX8_fund h Q) : g_V G X iX8_fund 0 0 Q 0 0 0 [(0, vR 5 0 0)] [] h := by
  refine s_aload_n (pc := 0) C dX8_fund_0 rfl 0 rfl ?_
  refine s_bipush (pc := 1) C dX8_fund_1 (x := (7 : Int32)) (by decide) ?_
  refine s_callv (pc := 3) (nA := 1) (as := [vI (7 : Int32)]) (st := []) (stk := [vI (7 : Int32), vR 5 0 0]) ckX8 (Or.inl rfl) C (fun l hl => ctX8_tells l hl (7 : Int32) _ _ H) ⟨⟨kw_1604, kw_69, kw_1607⟩, rfl, ⟨by decide, by decide, by decide +kernel⟩, by decide, by decide⟩ kw_1606 (g_selW kw_25) rfl (Nat.le_of_ble_eq_true rfl) ⟨by decide, by decide⟩ rfl dX8_fund_3 (g_Kq_I (fun u2 h1 H => ?_) (fun E h1 H => s_prop rfl ⟨by decide, by decide⟩ H C))
  exact s_iret (pc := 6) rfl rfl ⟨by decide, by decide⟩ H C dX8_fund_6
theorem ctX8_fund (l : Launch) (hl : l.stackTraces = false) {G : g_G} (h : g_Hp) (Q : g_R → g_Hp → Prop) (H : wX8_fund h Q) : g_Met l y_ G iX8_fund [vR 5 0 0] h Q :=
  g_Met_of hl (by decide +kernel) rfl rfl (Nat.le_of_ble_eq_true rfl) (fun X C => vX8_fund C h H)
/-! X8_fundedShifts -/
abbrev iX8_fundedShifts : g_I := (RX8, yX8_fundedShifts, cX8_fundedShifts, 1, (some .int), [], { frames := 1, cells := 0, slots := 0, locals := 20 })
set_option maxRecDepth 100000 in
set_option maxHeartbeats 4000000 in
theorem vX8_fundedShifts_b45 {G : g_G} {X : g_X} {Q : g_R → g_Hp → Prop} (C : g_Cx y_ G X iX8_fundedShifts) (z0 : Int32) (h : g_Hp) (H : wX8_fundedShifts_b45 Q z0 h) : g_V G X iX8_fundedShifts 0 0 Q 45 0 0 [] [vI z0] h := by
  exact s_iret (pc := 45) rfl rfl ⟨by decide, by decide⟩ H C dX8_fundedShifts_45
set_option maxRecDepth 100000 in
set_option maxHeartbeats 4000000 in
theorem vX8_fundedShifts_b15 {G : g_G} {X : g_X} {Q : g_R → g_Hp → Prop} (C : g_Cx y_ G X iX8_fundedShifts) (z0 : Int32) (h : g_Hp) (H : wX8_fundedShifts_b15 Q z0 h) : g_V G X iX8_fundedShifts 0 0 Q 15 0 0 [(0, vR 5 0 0)] [vI z0, vR 5 0 0] h := by
  refine s_puti (pc := 15) (s := 0) ckX8 (Or.inl rfl) (by decide) kw_1505 (fun _ => rfl) rfl rfl rfl C dX8_fundedShifts_15 ?_
  refine s_name (fun h1 eh1 => ?_)
  have H := H h1 eh1
  refine s_aload_n (pc := 18) C dX8_fundedShifts_18 rfl 0 rfl ?_
  refine s_geti (pc := 19) (s := 0) ckX8 (Or.inl rfl) (by decide) kw_1505 (fun _ => rfl) C dX8_fundedShifts_19 ?_
  refine s_if_ne (pc := 22) (tgt := 44) C dX8_fundedShifts_22 (by decide) (fun c => ?_) (fun c => ?_)
  · have H := H.1 c
    refine s_iconst (pc := 44) C dX8_fundedShifts_44 (x := (0 : Int32)) (by decide) ?_
    exact s_sub (ls' := []) [] rfl (vX8_fundedShifts_b45 C (0 : Int32) h1 H)
  · have H := H.2 c
    refine s_aload_n (pc := 25) C dX8_fundedShifts_25 rfl 0 rfl ?_
    refine s_getr (pc := 26) (s := 5) (a := 13) (b := 0) (c' := 0) ckX8 (by decide) kw_1510 rfl C dX8_fundedShifts_26 ?_
    refine s_bipush (pc := 29) C dX8_fundedShifts_29 (x := (7 : Int32)) (by decide) ?_
    refine s_iald (pc := 31) (show ¬ ((7 : Int32) < 0 ∨ 169 ≤ (7 : Int32).toNatClampNeg) by decide) C dX8_fundedShifts_31 ?_
    refine s_iconst (pc := 32) C dX8_fundedShifts_32 (x := (2 : Int32)) (by decide) ?_
    refine s_aload_n (pc := 33) C dX8_fundedShifts_33 rfl 0 rfl ?_
    refine s_getr (pc := 34) (s := 5) (a := 13) (b := 0) (c' := 0) ckX8 (by decide) kw_1510 rfl C dX8_fundedShifts_34 ?_
    refine s_iconst (pc := 37) C dX8_fundedShifts_37 (x := (0 : Int32)) (by decide) ?_
    refine s_iald (pc := 38) (show ¬ ((0 : Int32) < 0 ∨ 169 ≤ (0 : Int32).toNatClampNeg) by decide) C dX8_fundedShifts_38 ?_
    refine s_imul (pc := 39) C dX8_fundedShifts_39 ?_
    refine s_idiv (pc := 40) C dX8_fundedShifts_40 H.1 ?_
    have H := H.2
    refine s_goto (pc := 41) (tgt := 45) C dX8_fundedShifts_41 (by decide) ?_
    exact s_sub (ls' := []) [] rfl (vX8_fundedShifts_b45 C ((h1 13 0 0 ((7 : Int32).toNatClampNeg + 1)) / ((2 : Int32) * (h1 13 0 0 ((0 : Int32).toNatClampNeg + 1)))) h1 H)
set_option maxRecDepth 100000 in
set_option maxHeartbeats 4000000 in
theorem vX8_fundedShifts {G : g_G} {X : g_X} {Q : g_R → g_Hp → Prop} (C : g_Cx y_ G X iX8_fundedShifts) (h : g_Hp) (H : wX8_fundedShifts h Q) : g_V G X iX8_fundedShifts 0 0 Q 0 0 0 [(0, vR 5 0 0)] [] h := by
  refine s_aload_n (pc := 0) C dX8_fundedShifts_0 rfl 0 rfl ?_
  refine s_aload_n (pc := 1) C dX8_fundedShifts_1 rfl 0 rfl ?_
  refine s_getr (pc := 2) (s := 5) (a := 13) (b := 0) (c' := 0) ckX8 (by decide) kw_1510 rfl C dX8_fundedShifts_2 ?_
  refine s_iconst (pc := 5) C dX8_fundedShifts_5 (x := (0 : Int32)) (by decide) ?_
  refine s_iald (pc := 6) (show ¬ ((0 : Int32) < 0 ∨ 169 ≤ (0 : Int32).toNatClampNeg) by decide) C dX8_fundedShifts_6 ?_
  refine s_if_ne (pc := 7) (tgt := 14) C dX8_fundedShifts_7 (by decide) (fun c => ?_) (fun c => ?_)
  · have H := H.1 c
    refine s_iconst (pc := 14) C dX8_fundedShifts_14 (x := (0 : Int32)) (by decide) ?_
    exact s_sub (ls' := [(0, vR 5 0 0)]) [0] rfl (vX8_fundedShifts_b15 C (0 : Int32) h H)
  · have H := H.2 c
    refine s_iconst (pc := 10) C dX8_fundedShifts_10 (x := (1 : Int32)) (by decide) ?_
    refine s_goto (pc := 11) (tgt := 15) C dX8_fundedShifts_11 (by decide) ?_
    exact s_sub (ls' := [(0, vR 5 0 0)]) [0] rfl (vX8_fundedShifts_b15 C (1 : Int32) h H)
theorem ctX8_fundedShifts (l : Launch) (hl : l.stackTraces = false) {G : g_G} (h : g_Hp) (Q : g_R → g_Hp → Prop) (H : wX8_fundedShifts h Q) : g_Met l y_ G iX8_fundedShifts [vR 5 0 0] h Q :=
  g_Met_of hl (by decide +kernel) rfl rfl (Nat.le_of_ble_eq_true rfl) (fun X C => vX8_fundedShifts C h H)
/-! X8_fundedShiftsByPaying -/
abbrev iX8_fundedShiftsByPaying : g_I := (RX8, yX8_fundedShiftsByPaying, cX8_fundedShiftsByPaying, 1, (some .int), [], { frames := 2, cells := 0, slots := 0, locals := 40 })
set_option maxRecDepth 100000 in
set_option maxHeartbeats 4000000 in
theorem vX8_fundedShiftsByPaying {G : g_G} {X : g_X} {Q : g_R → g_Hp → Prop} (C : g_Cx y_ G X iX8_fundedShiftsByPaying) (h : g_Hp) (H : wX8_fundedShiftsByPaying h Q) : g_V G X iX8_fundedShiftsByPaying 0 0 Q 0 0 0 [(0, vR 5 0 0)] [] h := by
  refine s_aload_n (pc := 0) C dX8_fundedShiftsByPaying_0 rfl 0 rfl ?_
  refine s_callv (pc := 1) (nA := 0) (as := []) (st := []) (stk := [vR 5 0 0]) ckX8 (Or.inl rfl) C (fun l hl => ctX8_fundedShifts l hl _ _ H) ⟨⟨kw_1772, kw_69, kw_1767⟩, rfl, ⟨by decide, by decide, by decide +kernel⟩, by decide, by decide⟩ kw_1765 (g_selW kw_1766) rfl (Nat.le_of_ble_eq_true rfl) ⟨by decide, by decide⟩ rfl dX8_fundedShiftsByPaying_1 (g_Kq_I (fun u2 h1 H => ?_) (fun E h1 H => s_prop rfl ⟨by decide, by decide⟩ H C))
  exact s_iret (pc := 4) rfl rfl ⟨by decide, by decide⟩ H C dX8_fundedShiftsByPaying_4
theorem ctX8_fundedShiftsByPaying (l : Launch) (hl : l.stackTraces = false) {G : g_G} (h : g_Hp) (Q : g_R → g_Hp → Prop) (H : wX8_fundedShiftsByPaying h Q) : g_Met l y_ G iX8_fundedShiftsByPaying [vR 5 0 0] h Q :=
  g_Met_of hl (by decide +kernel) rfl rfl (Nat.le_of_ble_eq_true rfl) (fun X C => vX8_fundedShiftsByPaying C h H)
/-! X8_list -/
abbrev iX8_list : g_I := (RX8, yX8_list, cX8_list, 4, (some .int), [], { frames := 2, cells := 0, slots := 0, locals := 41 })
set_option maxRecDepth 100000 in
set_option maxHeartbeats 4000000 in
theorem vX8_list_b10_B {G : g_G} {X : g_X} {Q : g_R → g_Hp → Prop} (C : g_Cx y_ G X iX8_list) (R2 : Int32 → Int32 → g_Hp → Prop) (hR2 : ∀ (x1 : Int32) (x2 : Int32) (h : g_Hp), R2 x1 x2 h → g_V G X iX8_list 0 0 Q 2 0 0 [(0, vR 5 0 0), (1, vI x1), (2, vI x2)] [] h) (R10 : Int32 → Int32 → Int32 → g_Hp → Prop) (hR10 : ∀ (x1 : Int32) (x2 : Int32) (x3 : Int32) (h : g_Hp), R10 x1 x2 x3 h → g_V G X iX8_list 0 0 Q 10 0 0 [(0, vR 5 0 0), (1, vI x1), (2, vI x2), (3, vI x3)] [] h) (x1 : Int32) (x2 : Int32) (x3 : Int32) (h : g_Hp) (H : wX8_list_b10_B Q R2 R10 x1 x2 x3 h) : g_V G X iX8_list 0 0 Q 10 0 0 [(0, vR 5 0 0), (1, vI x1), (2, vI x2), (3, vI x3)] [] h := by
  refine s_iload_n (pc := 10) C dX8_list_10 rfl 3 rfl ?_
  refine s_aload_n (pc := 11) C dX8_list_11 rfl 0 rfl ?_
  refine s_getr (pc := 12) (s := 5) (a := 13) (b := 0) (c' := 0) ckX8 (by decide) kw_1510 rfl C dX8_list_12 ?_
  refine s_bipush (pc := 15) C dX8_list_15 (x := (119 : Int32)) (by decide) ?_
  refine s_iload_n (pc := 17) C dX8_list_17 rfl 2 rfl ?_
  refine s_iadd (pc := 18) C dX8_list_18 ?_
  refine s_iald (pc := 19) H.1 C dX8_list_19 ?_
  have H := H.2
  refine s_icmp_ge (pc := 20) (tgt := 45) C dX8_list_20 (by decide) (fun c => ?_) (fun c => ?_)
  · have H := H.1 c
    refine s_iincN (pc := 45) C dX8_list_45 2 rfl (z' := (1 : Int32)) (by decide) (by decide) (fun y1 ey1 => ?_)
    have H := H y1 ey1
    show g_V _ _ _ _ _ _ _ _ _ [(2, vI y1), (0, vR 5 0 0), (1, vI x1), (3, vI x3)] _ _
    refine s_goto (pc := 48) (tgt := 2) C dX8_list_48 (by decide) ?_
    exact s_sub (ls' := [(0, vR 5 0 0), (1, vI x1), (2, vI y1)]) [1, 2, 0] rfl (hR2 x1 y1 h H)
  · have H := H.2 c
    refine s_aload_n (pc := 23) C dX8_list_23 rfl 0 rfl ?_
    refine s_getr (pc := 24) (s := 5) (a := 13) (b := 0) (c' := 0) ckX8 (by decide) kw_1510 rfl C dX8_list_24 ?_
    refine s_iload_n (pc := 27) C dX8_list_27 rfl 2 rfl ?_
    refine s_iload_n (pc := 28) C dX8_list_28 rfl 3 rfl ?_
    refine s_calls (pc := 29) (nA := 2) (as := [vI x2, vI x3]) (st := [vR 13 0 0]) (stk := [vI x3, vI x2, vR 13 0 0]) C (fun l hl => ctX8_listed l hl x2 x3 _ _ H) ⟨⟨kw_1701, kw_69, kw_1703⟩, rfl, ⟨by decide, by decide, by decide +kernel⟩, by decide, by decide⟩ kw_1702 rfl (Nat.le_of_ble_eq_true rfl) ⟨by decide, by decide⟩ rfl dX8_list_29 (g_Kq_I (fun u3 h2 H => ?_) (fun E h2 H => s_prop rfl ⟨by decide, by decide⟩ H C))
    refine s_iald (pc := 32) H.1 C dX8_list_32 ?_
    have H := H.2
    refine s_iload_n (pc := 33) C dX8_list_33 rfl 1 rfl ?_
    refine s_icmp_ne (pc := 34) (tgt := 39) C dX8_list_34 (by decide) (fun c => ?_) (fun c => ?_)
    · have H := H.1 c
      refine s_iincN (pc := 39) C dX8_list_39 3 rfl (z' := (1 : Int32)) (by decide) (by decide) (fun y4 ey4 => ?_)
      have H := H y4 ey4
      show g_V _ _ _ _ _ _ _ _ _ [(3, vI y4), (0, vR 5 0 0), (1, vI x1), (2, vI x2)] _ _
      refine s_goto (pc := 42) (tgt := 10) C dX8_list_42 (by decide) ?_
      exact s_sub (ls' := [(0, vR 5 0 0), (1, vI x1), (2, vI x2), (3, vI y4)]) [1, 2, 3, 0] rfl (hR10 x1 x2 y4 h2 H)
    · have H := H.2 c
      refine s_iload_n (pc := 37) C dX8_list_37 rfl 2 rfl ?_
      exact s_iret (pc := 38) rfl rfl ⟨by decide, by decide⟩ H C dX8_list_38
theorem vX8_list_b10 {G : g_G} {X : g_X} {Q : g_R → g_Hp → Prop} (C : g_Cx y_ G X iX8_list) (R2 : Int32 → Int32 → g_Hp → Prop) (hR2 : ∀ (x1 : Int32) (x2 : Int32) (h : g_Hp), R2 x1 x2 h → g_V G X iX8_list 0 0 Q 2 0 0 [(0, vR 5 0 0), (1, vI x1), (2, vI x2)] [] h) (x1 : Int32) (x2 : Int32) (x3 : Int32) (h : g_Hp) (H : wX8_list_b10 Q R2 x1 x2 x3 h) : g_V G X iX8_list 0 0 Q 10 0 0 [(0, vR 5 0 0), (1, vI x1), (2, vI x2), (3, vI x3)] [] h := by
  obtain ⟨n, H⟩ := H
  induction n generalizing x1 x2 x3 h with
  | zero => exact H.elim
  | succ n ih => exact vX8_list_b10_B C R2 hR2 _ (fun x1 x2 x3 h H => ih x1 x2 x3 h H) x1 x2 x3 h H
set_option maxRecDepth 100000 in
set_option maxHeartbeats 4000000 in
theorem vX8_list_b2_B {G : g_G} {X : g_X} {Q : g_R → g_Hp → Prop} (C : g_Cx y_ G X iX8_list) (R2 : Int32 → Int32 → g_Hp → Prop) (hR2 : ∀ (x1 : Int32) (x2 : Int32) (h : g_Hp), R2 x1 x2 h → g_V G X iX8_list 0 0 Q 2 0 0 [(0, vR 5 0 0), (1, vI x1), (2, vI x2)] [] h) (x1 : Int32) (x2 : Int32) (h : g_Hp) (H : wX8_list_b2_B Q R2 x1 x2 h) : g_V G X iX8_list 0 0 Q 2 0 0 [(0, vR 5 0 0), (1, vI x1), (2, vI x2)] [] h := by
  refine s_iload_n (pc := 2) C dX8_list_2 rfl 2 rfl ?_
  refine s_bipush (pc := 3) C dX8_list_3 (x := (10 : Int32)) (by decide) ?_
  refine s_icmp_ge (pc := 5) (tgt := 51) C dX8_list_5 (by decide) (fun c => ?_) (fun c => ?_)
  · have H := H.1 c
    refine s_iconst (pc := 51) C dX8_list_51 (x := (-1 : Int32)) (by decide) ?_
    exact s_iret (pc := 52) rfl rfl ⟨by decide, by decide⟩ H C dX8_list_52
  · have H := H.2 c
    refine s_iconst (pc := 8) C dX8_list_8 (x := (0 : Int32)) (by decide) ?_
    refine s_istore_n (pc := 9) (ls' := [(3, vI (0 : Int32)), (0, vR 5 0 0), (1, vI x1), (2, vI x2)]) C dX8_list_9 rfl (by decide) rfl ?_
    exact s_sub (ls' := [(0, vR 5 0 0), (1, vI x1), (2, vI x2), (3, vI (0 : Int32))]) [1, 2, 3, 0] rfl (vX8_list_b10 C R2 hR2 x1 x2 (0 : Int32) h H)
theorem vX8_list_b2 {G : g_G} {X : g_X} {Q : g_R → g_Hp → Prop} (C : g_Cx y_ G X iX8_list) (x1 : Int32) (x2 : Int32) (h : g_Hp) (H : wX8_list_b2 Q x1 x2 h) : g_V G X iX8_list 0 0 Q 2 0 0 [(0, vR 5 0 0), (1, vI x1), (2, vI x2)] [] h := by
  obtain ⟨n, H⟩ := H
  induction n generalizing x1 x2 h with
  | zero => exact H.elim
  | succ n ih => exact vX8_list_b2_B C _ (fun x1 x2 h H => ih x1 x2 h H) x1 x2 h H
set_option maxRecDepth 100000 in
set_option maxHeartbeats 4000000 in
theorem vX8_list {G : g_G} {X : g_X} {Q : g_R → g_Hp → Prop} (C : g_Cx y_ G X iX8_list) (p0 : Int32) (h : g_Hp) (H : wX8_list p0 h Q) : g_V G X iX8_list 0 0 Q 0 0 0 [(0, vR 5 0 0), (1, vI p0)] [] h := by
  refine s_iconst (pc := 0) C dX8_list_0 (x := (0 : Int32)) (by decide) ?_
  refine s_istore_n (pc := 1) (ls' := [(2, vI (0 : Int32)), (0, vR 5 0 0), (1, vI p0)]) C dX8_list_1 rfl (by decide) rfl ?_
  exact s_sub (ls' := [(0, vR 5 0 0), (1, vI p0), (2, vI (0 : Int32))]) [1, 2, 0] rfl (vX8_list_b2 C p0 (0 : Int32) h H)
theorem ctX8_list (l : Launch) (hl : l.stackTraces = false) {G : g_G} (p0 : Int32) (h : g_Hp) (Q : g_R → g_Hp → Prop) (H : wX8_list p0 h Q) : g_Met l y_ G iX8_list [vR 5 0 0, vI p0] h Q :=
  g_Met_of hl (by decide +kernel) rfl rfl (Nat.le_of_ble_eq_true rfl) (fun X C => vX8_list C p0 h H)
/-! X8_signs -/
abbrev iX8_signs : g_I := (RX8, yX8_signs, cX8_signs, 3, (some .int), [], { frames := 3, cells := 0, slots := 0, locals := 64 })
set_option maxRecDepth 100000 in
set_option maxHeartbeats 4000000 in
theorem vX8_signs_b15 {G : g_G} {X : g_X} {Q : g_R → g_Hp → Prop} (C : g_Cx y_ G X iX8_signs) (h : g_Hp) (H : wX8_signs_b15 Q h) : g_V G X iX8_signs 0 0 Q 15 0 0 [(0, vR 5 0 0)] [] h := by
  refine s_aload_n (pc := 15) C dX8_signs_15 rfl 0 rfl ?_
  refine s_iconst (pc := 16) C dX8_signs_16 (x := (1 : Int32)) (by decide) ?_
  refine s_callv (pc := 17) (nA := 1) (as := [vI (1 : Int32)]) (st := []) (stk := [vI (1 : Int32), vR 5 0 0]) ckX8 (Or.inl rfl) C (fun l hl => ctX8_fail l hl (1 : Int32) _ _ H) ⟨⟨kw_1592, kw_69, kw_1595⟩, rfl, ⟨by decide, by decide, by decide +kernel⟩, by decide, by decide⟩ kw_1594 (g_selW kw_23) rfl (Nat.le_of_ble_eq_true rfl) ⟨by decide, by decide⟩ rfl dX8_signs_17 (g_Kq_I (fun u2 h1 H => ?_) (fun E h1 H => s_prop rfl ⟨by decide, by decide⟩ H C))
  exact s_iret (pc := 20) rfl rfl ⟨by decide, by decide⟩ H C dX8_signs_20
set_option maxRecDepth 100000 in
set_option maxHeartbeats 4000000 in
theorem vX8_signs_b43 {G : g_G} {X : g_X} {Q : g_R → g_Hp → Prop} (C : g_Cx y_ G X iX8_signs) (h : g_Hp) (H : wX8_signs_b43 Q h) : g_V G X iX8_signs 0 0 Q 43 0 0 [(0, vR 5 0 0)] [] h := by
  refine s_aload_n (pc := 43) C dX8_signs_43 rfl 0 rfl ?_
  refine s_iconst (pc := 44) C dX8_signs_44 (x := (2 : Int32)) (by decide) ?_
  refine s_callv (pc := 45) (nA := 1) (as := [vI (2 : Int32)]) (st := []) (stk := [vI (2 : Int32), vR 5 0 0]) ckX8 (Or.inl rfl) C (fun l hl => ctX8_fail l hl (2 : Int32) _ _ H) ⟨⟨kw_1592, kw_69, kw_1595⟩, rfl, ⟨by decide, by decide, by decide +kernel⟩, by decide, by decide⟩ kw_1594 (g_selW kw_23) rfl (Nat.le_of_ble_eq_true rfl) ⟨by decide, by decide⟩ rfl dX8_signs_45 (g_Kq_I (fun u2 h1 H => ?_) (fun E h1 H => s_prop rfl ⟨by decide, by decide⟩ H C))
  exact s_iret (pc := 48) rfl rfl ⟨by decide, by decide⟩ H C dX8_signs_48
set_option maxRecDepth 100000 in
set_option maxHeartbeats 4000000 in
theorem vX8_signs {G : g_G} {X : g_X} {Q : g_R → g_Hp → Prop} (C : g_Cx y_ G X iX8_signs) (p0 : Int32) (p1 : Int32) (h : g_Hp) (H : wX8_signs p0 p1 h Q) : g_V G X iX8_signs 0 0 Q 0 0 0 [(0, vR 5 0 0), (1, vI p0), (2, vI p1)] [] h := by
  refine s_iload_n (pc := 0) C dX8_signs_0 rfl 1 rfl ?_
  refine s_calls (pc := 1) (nA := 1) (as := [vI p0]) (st := []) (stk := [vI p0]) C (fun l hl => ctX8_isRoof l hl p0 _ _ H) ⟨⟨kw_1586, kw_69, kw_1588⟩, rfl, ⟨by decide, by decide, by decide +kernel⟩, by decide, by decide⟩ kw_1587 rfl (Nat.le_of_ble_eq_true rfl) ⟨by decide, by decide⟩ rfl dX8_signs_1 (g_Kq_I (fun u2 h1 H => ?_) (fun E h1 H => s_prop rfl ⟨by decide, by decide⟩ H C))
  refine s_if_eq (pc := 4) (tgt := 15) C dX8_signs_4 (by decide) (fun c => ?_) (fun c => ?_)
  · have H := H.1 c
    exact s_sub (ls' := [(0, vR 5 0 0)]) [0] rfl (vX8_signs_b15 C  h1 H)
  · have H := H.2 c
    refine s_aload_n (pc := 7) C dX8_signs_7 rfl 0 rfl ?_
    refine s_iload_n (pc := 8) C dX8_signs_8 rfl 2 rfl ?_
    refine s_callv (pc := 9) (nA := 1) (as := [vI p1]) (st := []) (stk := [vI p1, vR 5 0 0]) ckX8 (Or.inl rfl) C (fun l hl => ctX8_isMember l hl p1 _ _ H) ⟨⟨kw_1616, kw_69, kw_1619⟩, rfl, ⟨by decide, by decide, by decide +kernel⟩, by decide, by decide⟩ kw_1618 (g_selW kw_27) rfl (Nat.le_of_ble_eq_true rfl) ⟨by decide, by decide⟩ rfl dX8_signs_9 (g_Kq_I (fun u4 h3 H => ?_) (fun E h3 H => s_prop rfl ⟨by decide, by decide⟩ H C))
    refine s_if_ne (pc := 12) (tgt := 21) C dX8_signs_12 (by decide) (fun c => ?_) (fun c => ?_)
    · have H := H.1 c
      refine s_aload_n (pc := 21) C dX8_signs_21 rfl 0 rfl ?_
      refine s_getr (pc := 22) (s := 5) (a := 13) (b := 0) (c' := 0) ckX8 (by decide) kw_1510 rfl C dX8_signs_22 ?_
      refine s_iconst (pc := 25) C dX8_signs_25 (x := (4 : Int32)) (by decide) ?_
      refine s_iald (pc := 26) (show ¬ ((4 : Int32) < 0 ∨ 169 ≤ (4 : Int32).toNatClampNeg) by decide) C dX8_signs_26 ?_
      refine s_if_eq (pc := 27) (tgt := 43) C dX8_signs_27 (by decide) (fun c => ?_) (fun c => ?_)
      · have H := H.1 c
        exact s_sub (ls' := [(0, vR 5 0 0)]) [0] rfl (vX8_signs_b43 C  h3 H)
      · have H := H.2 c
        refine s_aload_n (pc := 30) C dX8_signs_30 rfl 0 rfl ?_
        refine s_getr (pc := 31) (s := 5) (a := 13) (b := 0) (c' := 0) ckX8 (by decide) kw_1510 rfl C dX8_signs_31 ?_
        refine s_bipush (pc := 34) C dX8_signs_34 (x := (119 : Int32)) (by decide) ?_
        refine s_iload_n (pc := 36) C dX8_signs_36 rfl 1 rfl ?_
        refine s_iadd (pc := 37) C dX8_signs_37 ?_
        refine s_iald (pc := 38) H.1 C dX8_signs_38 ?_
        have H := H.2
        refine s_iconst (pc := 39) C dX8_signs_39 (x := (4 : Int32)) (by decide) ?_
        refine s_icmp_ne (pc := 40) (tgt := 49) C dX8_signs_40 (by decide) (fun c => ?_) (fun c => ?_)
        · have H := H.1 c
          refine s_aload_n (pc := 49) C dX8_signs_49 rfl 0 rfl ?_
          refine s_iload_n (pc := 50) C dX8_signs_50 rfl 2 rfl ?_
          refine s_callv (pc := 51) (nA := 1) (as := [vI p1]) (st := []) (stk := [vI p1, vR 5 0 0]) ckX8 (Or.inl rfl) C (fun l hl => ctX8_list l hl p1 _ _ H) ⟨⟨kw_1781, kw_69, kw_1784⟩, rfl, ⟨by decide, by decide, by decide +kernel⟩, by decide, by decide⟩ kw_1783 (g_selW kw_38) rfl (Nat.le_of_ble_eq_true rfl) ⟨by decide, by decide⟩ rfl dX8_signs_51 (g_Kq_I (fun u6 h5 H => ?_) (fun E h5 H => s_prop rfl ⟨by decide, by decide⟩ H C))
          refine s_if_lt (pc := 54) (tgt := 63) C dX8_signs_54 (by decide) (fun c => ?_) (fun c => ?_)
          · have H := H.1 c
            refine s_aload_n (pc := 63) C dX8_signs_63 rfl 0 rfl ?_
            refine s_getr (pc := 64) (s := 5) (a := 13) (b := 0) (c' := 0) ckX8 (by decide) kw_1510 rfl C dX8_signs_64 ?_
            refine s_iload_n (pc := 67) C dX8_signs_67 rfl 1 rfl ?_
            refine s_aload_n (pc := 68) C dX8_signs_68 rfl 0 rfl ?_
            refine s_getr (pc := 69) (s := 5) (a := 13) (b := 0) (c' := 0) ckX8 (by decide) kw_1510 rfl C dX8_signs_69 ?_
            refine s_bipush (pc := 72) C dX8_signs_72 (x := (119 : Int32)) (by decide) ?_
            refine s_iload_n (pc := 74) C dX8_signs_74 rfl 1 rfl ?_
            refine s_iadd (pc := 75) C dX8_signs_75 ?_
            refine s_iald (pc := 76) H.1 C dX8_signs_76 ?_
            have H := H.2
            refine s_calls (pc := 77) (nA := 2) (as := [vI p0, vI (h5 13 0 0 (((119 : Int32) + p0).toNatClampNeg + 1))]) (st := [vR 13 0 0]) (stk := [vI (h5 13 0 0 (((119 : Int32) + p0).toNatClampNeg + 1)), vI p0, vR 13 0 0]) C (fun l hl => ctX8_listed l hl p0 (h5 13 0 0 (((119 : Int32) + p0).toNatClampNeg + 1)) _ _ H) ⟨⟨kw_1701, kw_69, kw_1703⟩, rfl, ⟨by decide, by decide, by decide +kernel⟩, by decide, by decide⟩ kw_1702 rfl (Nat.le_of_ble_eq_true rfl) ⟨by decide, by decide⟩ rfl dX8_signs_77 (g_Kq_I (fun u8 h7 H => ?_) (fun E h7 H => s_prop rfl ⟨by decide, by decide⟩ H C))
            refine s_iload_n (pc := 80) C dX8_signs_80 rfl 2 rfl ?_
            refine s_iast (pc := 81) H.1 C dX8_signs_81 ?_
            have H := H.2
            refine s_name (fun h9 eh9 => ?_)
            have H := H h9 eh9
            refine s_aload_n (pc := 82) C dX8_signs_82 rfl 0 rfl ?_
            refine s_getr (pc := 83) (s := 5) (a := 13) (b := 0) (c' := 0) ckX8 (by decide) kw_1510 rfl C dX8_signs_83 ?_
            refine s_bipush (pc := 86) C dX8_signs_86 (x := (119 : Int32)) (by decide) ?_
            refine s_iload_n (pc := 88) C dX8_signs_88 rfl 1 rfl ?_
            refine s_iadd (pc := 89) C dX8_signs_89 ?_
            refine s_dup2 (pc := 90) C dX8_signs_90 rfl rfl ?_
            refine s_iald (pc := 91) H.1 C dX8_signs_91 ?_
            have H := H.2
            refine s_iconst (pc := 92) C dX8_signs_92 (x := (1 : Int32)) (by decide) ?_
            refine s_iadd (pc := 93) C dX8_signs_93 ?_
            refine s_iast (pc := 94) H.1 C dX8_signs_94 ?_
            have H := H.2
            refine s_name (fun h10 eh10 => ?_)
            have H := H h10 eh10
            refine s_aload_n (pc := 95) C dX8_signs_95 rfl 0 rfl ?_
            refine s_getr (pc := 96) (s := 5) (a := 13) (b := 0) (c' := 0) ckX8 (by decide) kw_1510 rfl C dX8_signs_96 ?_
            refine s_bipush (pc := 99) C dX8_signs_99 (x := (119 : Int32)) (by decide) ?_
            refine s_iload_n (pc := 101) C dX8_signs_101 rfl 1 rfl ?_
            refine s_iadd (pc := 102) C dX8_signs_102 ?_
            refine s_iald (pc := 103) H.1 C dX8_signs_103 ?_
            have H := H.2
            exact s_iret (pc := 104) rfl rfl ⟨by decide, by decide⟩ H C dX8_signs_104
          · have H := H.2 c
            refine s_aload_n (pc := 57) C dX8_signs_57 rfl 0 rfl ?_
            refine s_iconst (pc := 58) C dX8_signs_58 (x := (3 : Int32)) (by decide) ?_
            refine s_callv (pc := 59) (nA := 1) (as := [vI (3 : Int32)]) (st := []) (stk := [vI (3 : Int32), vR 5 0 0]) ckX8 (Or.inl rfl) C (fun l hl => ctX8_fail l hl (3 : Int32) _ _ H) ⟨⟨kw_1592, kw_69, kw_1595⟩, rfl, ⟨by decide, by decide, by decide +kernel⟩, by decide, by decide⟩ kw_1594 (g_selW kw_23) rfl (Nat.le_of_ble_eq_true rfl) ⟨by decide, by decide⟩ rfl dX8_signs_59 (g_Kq_I (fun u12 h11 H => ?_) (fun E h11 H => s_prop rfl ⟨by decide, by decide⟩ H C))
            exact s_iret (pc := 62) rfl rfl ⟨by decide, by decide⟩ H C dX8_signs_62
        · have H := H.2 c
          exact s_sub (ls' := [(0, vR 5 0 0)]) [0] rfl (vX8_signs_b43 C  h3 H)
    · have H := H.2 c
      exact s_sub (ls' := [(0, vR 5 0 0)]) [0] rfl (vX8_signs_b15 C  h3 H)
theorem ctX8_signs (l : Launch) (hl : l.stackTraces = false) {G : g_G} (p0 : Int32) (p1 : Int32) (h : g_Hp) (Q : g_R → g_Hp → Prop) (H : wX8_signs p0 p1 h Q) : g_Met l y_ G iX8_signs [vR 5 0 0, vI p0, vI p1] h Q :=
  g_Met_of hl (by decide +kernel) rfl rfl (Nat.le_of_ble_eq_true rfl) (fun X C => vX8_signs C p0 p1 h H)
/-! X8_signUp -/
abbrev iX8_signUp : g_I := (RX8, yX8_signUp, cX8_signUp, 3, (some .int), [], { frames := 4, cells := 0, slots := 0, locals := 86 })
set_option maxRecDepth 100000 in
set_option maxHeartbeats 4000000 in
theorem vX8_signUp {G : g_G} {X : g_X} {Q : g_R → g_Hp → Prop} (C : g_Cx y_ G X iX8_signUp) (p0 : Int32) (p1 : Int32) (h : g_Hp) (H : wX8_signUp p0 p1 h Q) : g_V G X iX8_signUp 0 0 Q 0 0 0 [(0, vR 5 0 0), (1, vI p0), (2, vI p1)] [] h := by
  refine s_aload_n (pc := 0) C dX8_signUp_0 rfl 0 rfl ?_
  refine s_callv (pc := 1) (nA := 0) (as := []) (st := []) (stk := [vR 5 0 0]) ckX8 (Or.inl rfl) C (fun l hl => ctX8_begins l hl _ _ H) ⟨⟨kw_1575, kw_69, kw_1578⟩, rfl, ⟨by decide, by decide, by decide +kernel⟩, by decide, by decide⟩ kw_1577 (g_selW kw_21) rfl (Nat.le_of_ble_eq_true rfl) ⟨by decide, by decide⟩ rfl dX8_signUp_1 (g_Kq_V (fun h1 H => ?_) (fun E h1 H => s_prop rfl ⟨by decide, by decide⟩ H C))
  refine s_aload_n (pc := 4) C dX8_signUp_4 rfl 0 rfl ?_
  refine s_aload_n (pc := 5) C dX8_signUp_5 rfl 0 rfl ?_
  refine s_iload_n (pc := 6) C dX8_signUp_6 rfl 1 rfl ?_
  refine s_iload_n (pc := 7) C dX8_signUp_7 rfl 2 rfl ?_
  refine s_callv (pc := 8) (nA := 2) (as := [vI p0, vI p1]) (st := [vR 5 0 0]) (stk := [vI p1, vI p0, vR 5 0 0, vR 5 0 0]) ckX8 (Or.inl rfl) C (fun l hl => ctX8_signs l hl p0 p1 _ _ H) ⟨⟨kw_1777, kw_69, kw_1780⟩, rfl, ⟨by decide, by decide, by decide +kernel⟩, by decide, by decide⟩ kw_1779 (g_selW kw_37) rfl (Nat.le_of_ble_eq_true rfl) ⟨by decide, by decide⟩ rfl dX8_signUp_8 (g_Kq_I (fun u3 h2 H => ?_) (fun E h2 H => s_prop rfl ⟨by decide, by decide⟩ H C))
  refine s_callv (pc := 11) (nA := 1) (as := [vI u3]) (st := []) (stk := [vI u3, vR 5 0 0]) ckX8 (Or.inl rfl) C (fun l hl => ctX8_ends l hl u3 _ _ H) ⟨⟨kw_1596, kw_69, kw_1599⟩, rfl, ⟨by decide, by decide, by decide +kernel⟩, by decide, by decide⟩ kw_1598 (g_selW kw_24) rfl (Nat.le_of_ble_eq_true rfl) ⟨by decide, by decide⟩ rfl dX8_signUp_11 (g_Kq_I (fun u5 h4 H => ?_) (fun E h4 H => s_prop rfl ⟨by decide, by decide⟩ H C))
  exact s_iret (pc := 14) rfl rfl ⟨by decide, by decide⟩ H C dX8_signUp_14
theorem ctX8_signUp (l : Launch) (hl : l.stackTraces = false) {G : g_G} (p0 : Int32) (p1 : Int32) (h : g_Hp) (Q : g_R → g_Hp → Prop) (H : wX8_signUp p0 p1 h Q) : g_Met l y_ G iX8_signUp [vR 5 0 0, vI p0, vI p1] h Q :=
  g_Met_of hl (by decide +kernel) rfl rfl (Nat.le_of_ble_eq_true rfl) (fun X C => vX8_signUp C p0 p1 h H)
