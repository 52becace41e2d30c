/-! X8_commands -/
abbrev iX8_commands : g_I := (RX8, yX8_commands, cX8_commands, 2, (some .int), [], { frames := 7, cells := 0, slots := 0, locals := 158 })
set_option maxRecDepth 100000 in
set_option maxHeartbeats 4000000 in
theorem vX8_commands_b58 {G : g_G} {X : g_X} {Q : g_R → g_Hp → Prop} (C : g_Cx y_ G X iX8_commands) (R16 : Int32 → g_Hp → Prop) (hR16 : ∀ (x1 : Int32) (h : g_Hp), R16 x1 h → g_V G X iX8_commands 0 0 Q 16 0 0 [(0, vR 5 0 0), (1, vI x1)] [] h) (x1 : Int32) (h : g_Hp) (H : wX8_commands_b58 Q R16 x1 h) : g_V G X iX8_commands 0 0 Q 58 0 0 [(0, vR 5 0 0), (1, vI x1)] [] h := by
  refine s_iincN (pc := 58) C dX8_commands_58 1 rfl (z' := (1 : Int32)) (by decide) (by decide) (fun y1 ey1 => ?_)
  have H := H y1 ey1
  show g_V _ _ _ _ _ _ _ _ _ [(1, vI y1), (0, vR 5 0 0)] _ _
  refine s_goto (pc := 61) (tgt := 16) C dX8_commands_61 (by decide) ?_
  exact s_sub (ls' := [(0, vR 5 0 0), (1, vI y1)]) [1, 0] rfl (hR16 y1 h H)
set_option maxRecDepth 100000 in
set_option maxHeartbeats 4000000 in
theorem vX8_commands_b64 {G : g_G} {X : g_X} {Q : g_R → g_Hp → Prop} (C : g_Cx y_ G X iX8_commands) (x1 : Int32) (h : g_Hp) (H : wX8_commands_b64 Q x1 h) : g_V G X iX8_commands 0 0 Q 64 0 0 [(1, vI x1)] [] h := by
  refine s_iload_n (pc := 64) C dX8_commands_64 rfl 0 rfl ?_
  exact s_iret (pc := 65) rfl rfl ⟨by decide, by decide⟩ H C dX8_commands_65
set_option maxRecDepth 100000 in
set_option maxHeartbeats 4000000 in
theorem vX8_commands_b16_B {G : g_G} {X : g_X} {Q : g_R → g_Hp → Prop} (C : g_Cx y_ G X iX8_commands) (R16 : Int32 → g_Hp → Prop) (hR16 : ∀ (x1 : Int32) (h : g_Hp), R16 x1 h → g_V G X iX8_commands 0 0 Q 16 0 0 [(0, vR 5 0 0), (1, vI x1)] [] h) (x1 : Int32) (h : g_Hp) (H : wX8_commands_b16_B Q R16 x1 h) : g_V G X iX8_commands 0 0 Q 16 0 0 [(0, vR 5 0 0), (1, vI x1)] [] h := by
  refine s_aload_n (pc := 16) C dX8_commands_16 rfl 0 rfl ?_
  refine s_geti (pc := 17) (s := 18) ckX8 (Or.inl rfl) (by decide) kw_1523 (fun _ => rfl) C dX8_commands_17 ?_
  refine s_if_ne (pc := 20) (tgt := 64) C dX8_commands_20 (by decide) (fun c => ?_) (fun c => ?_)
  · have H := H.1 c
    exact s_sub (ls' := [(1, vI x1)]) [1] rfl (vX8_commands_b64 C x1 h H)
  · have H := H.2 c
    refine s_aload_n (pc := 23) C dX8_commands_23 rfl 0 rfl ?_
    refine s_geti (pc := 24) (s := 0) ckX8 (Or.inl rfl) (by decide) kw_1505 (fun _ => rfl) C dX8_commands_24 ?_
    refine s_if_ne (pc := 27) (tgt := 64) C dX8_commands_27 (by decide) (fun c => ?_) (fun c => ?_)
    · have H := H.1 c
      exact s_sub (ls' := [(1, vI x1)]) [1] rfl (vX8_commands_b64 C x1 h H)
    · have H := H.2 c
      refine s_aload_n (pc := 30) C dX8_commands_30 rfl 0 rfl ?_
      refine s_geti (pc := 31) (s := 15) ckX8 (Or.inl rfl) (by decide) kw_1520 (fun _ => rfl) C dX8_commands_31 ?_
      refine s_aload_n (pc := 34) C dX8_commands_34 rfl 0 rfl ?_
      refine s_geti (pc := 35) (s := 16) ckX8 (Or.inl rfl) (by decide) kw_1521 (fun _ => rfl) C dX8_commands_35 ?_
      refine s_icmp_ge (pc := 38) (tgt := 64) C dX8_commands_38 (by decide) (fun c => ?_) (fun c => ?_)
      · have H := H.1 c
        exact s_sub (ls' := [(1, vI x1)]) [1] rfl (vX8_commands_b64 C x1 h H)
      · have H := H.2 c
        refine s_aload_n (pc := 41) C dX8_commands_41 rfl 0 rfl ?_
        refine s_bipush (pc := 42) C dX8_commands_42 (x := (59 : Int32)) (by decide) ?_
        refine s_callv (pc := 44) (nA := 1) (as := [vI (59 : Int32)]) (st := []) (stk := [vI (59 : Int32), vR 5 0 0]) ckX8 (Or.inl rfl) C (fun l hl => ctX8_mark l hl (59 : Int32) _ _ H) ⟨⟨kw_1897, kw_69, kw_1900⟩, rfl, ⟨by decide, by decide, by decide +kernel⟩, by decide, by decide⟩ kw_1899 (g_selW kw_51) rfl (Nat.le_of_ble_eq_true rfl) ⟨by decide, by decide⟩ rfl dX8_commands_44 (g_Kq_V (fun h1 H => ?_) (fun E h1 H => s_prop rfl ⟨by decide, by decide⟩ H C))
        refine s_aload_n (pc := 47) C dX8_commands_47 rfl 0 rfl ?_
        refine s_geti (pc := 48) (s := 18) ckX8 (Or.inl rfl) (by decide) kw_1523 (fun _ => rfl) C dX8_commands_48 ?_
        refine s_if_ne (pc := 51) (tgt := 58) C dX8_commands_51 (by decide) (fun c => ?_) (fun c => ?_)
        · have H := H.1 c
          exact s_sub (ls' := [(0, vR 5 0 0), (1, vI x1)]) [0, 1] rfl (vX8_commands_b58 C R16 hR16 x1 h1 H)
        · have H := H.2 c
          refine s_aload_n (pc := 54) C dX8_commands_54 rfl 0 rfl ?_
          refine s_callv (pc := 55) (nA := 0) (as := []) (st := []) (stk := [vR 5 0 0]) ckX8 (Or.inl rfl) C (fun l hl => ctX8_command l hl _ _ H) ⟨⟨kw_1877, kw_69, kw_1880⟩, rfl, ⟨by decide, by decide, by decide +kernel⟩, by decide, by decide⟩ kw_1879 (g_selW kw_46) rfl (Nat.le_of_ble_eq_true rfl) ⟨by decide, by decide⟩ rfl dX8_commands_55 (g_Kq_V (fun h2 H => ?_) (fun E h2 H => s_prop rfl ⟨by decide, by decide⟩ H C))
          exact s_sub (ls' := [(0, vR 5 0 0), (1, vI x1)]) [0, 1] rfl (vX8_commands_b58 C R16 hR16 x1 h2 H)
theorem vX8_commands_b16 {G : g_G} {X : g_X} {Q : g_R → g_Hp → Prop} (C : g_Cx y_ G X iX8_commands) (x1 : Int32) (h : g_Hp) (H : wX8_commands_b16 Q x1 h) : g_V G X iX8_commands 0 0 Q 16 0 0 [(0, vR 5 0 0), (1, vI x1)] [] h := by
  obtain ⟨n, H⟩ := H
  induction n generalizing x1 h with
  | zero => exact H.elim
  | succ n ih => exact vX8_commands_b16_B C _ (fun x1 h H => ih x1 h H) x1 h H
set_option maxRecDepth 100000 in
set_option maxHeartbeats 4000000 in
theorem vX8_commands {G : g_G} {X : g_X} {Q : g_R → g_Hp → Prop} (C : g_Cx y_ G X iX8_commands) (h : g_Hp) (H : wX8_commands h Q) : g_V G X iX8_commands 0 0 Q 0 0 0 [(0, vR 5 0 0)] [] h := by
  refine s_aload_n (pc := 0) C dX8_commands_0 rfl 0 rfl ?_
  refine s_iconst (pc := 1) C dX8_commands_1 (x := (0 : Int32)) (by decide) ?_
  refine s_puti (pc := 2) (s := 15) ckX8 (Or.inl rfl) (by decide) kw_1520 (fun _ => rfl) rfl rfl rfl C dX8_commands_2 ?_
  refine s_name (fun h1 eh1 => ?_)
  have H := H h1 eh1
  refine s_aload_n (pc := 5) C dX8_commands_5 rfl 0 rfl ?_
  refine s_iconst (pc := 6) C dX8_commands_6 (x := (0 : Int32)) (by decide) ?_
  refine s_puti (pc := 7) (s := 18) ckX8 (Or.inl rfl) (by decide) kw_1523 (fun _ => rfl) rfl (by decide) (by decide) C dX8_commands_7 ?_
  refine s_name (fun h2 eh2 => ?_)
  have H := H h2 eh2
  refine s_iconst (pc := 10) C dX8_commands_10 (x := (1 : Int32)) (by decide) ?_
  refine s_istore_n (pc := 11) (ls' := [(1, vI (1 : Int32)), (0, vR 5 0 0)]) C dX8_commands_11 rfl (by decide) rfl ?_
  refine s_aload_n (pc := 12) C dX8_commands_12 rfl 1 rfl ?_
  refine s_callv (pc := 13) (nA := 0) (as := []) (st := []) (stk := [vR 5 0 0]) ckX8 (Or.inl rfl) C (fun l hl => ctX8_command l hl _ _ H) ⟨⟨kw_1877, kw_69, kw_1880⟩, rfl, ⟨by decide, by decide, by decide +kernel⟩, by decide, by decide⟩ kw_1879 (g_selW kw_46) rfl (Nat.le_of_ble_eq_true rfl) ⟨by decide, by decide⟩ rfl dX8_commands_13 (g_Kq_V (fun h3 H => ?_) (fun E h3 H => s_prop rfl ⟨by decide, by decide⟩ H C))
  exact s_sub (ls' := [(0, vR 5 0 0), (1, vI (1 : Int32))]) [1, 0] rfl (vX8_commands_b16 C (1 : Int32) h3 H)
theorem ctX8_commands (l : Launch) (hl : l.stackTraces = false) {G : g_G} (h : g_Hp) (Q : g_R → g_Hp → Prop) (H : wX8_commands h Q) : g_Met l y_ G iX8_commands [vR 5 0 0] h Q :=
  g_Met_of hl (by decide +kernel) rfl rfl (Nat.le_of_ble_eq_true rfl) (fun X C => vX8_commands C h H)
/-! X8_run -/
abbrev iX8_run : g_I := (RX8, yX8_run, cX8_run, 2, (some .int), [], { frames := 8, cells := 0, slots := 0, locals := 179 })
set_option maxRecDepth 100000 in
set_option maxHeartbeats 4000000 in
theorem vX8_run_b77 {G : g_G} {X : g_X} {Q : g_R → g_Hp → Prop} (C : g_Cx y_ G X iX8_run) (x1 : Int32) (h : g_Hp) (H : wX8_run_b77 Q x1 h) : g_V G X iX8_run 0 0 Q 77 0 0 [(0, vR 5 0 0), (1, vI x1)] [] h := by
  refine s_aload_n (pc := 77) C dX8_run_77 rfl 0 rfl ?_
  refine s_iload_n (pc := 78) C dX8_run_78 rfl 1 rfl ?_
  refine s_callv (pc := 79) (nA := 1) (as := [vI x1]) (st := []) (stk := [vI x1, vR 5 0 0]) ckX8 (Or.inl rfl) C (fun l hl => ctX8_ends l hl x1 _ _ H) ⟨⟨kw_1596, kw_69, kw_1599⟩, rfl, ⟨by decide, by decide, by decide +kernel⟩, by decide, by decide⟩ kw_1598 (g_selW kw_24) rfl (Nat.le_of_ble_eq_true rfl) ⟨by decide, by decide⟩ rfl dX8_run_79 (g_Kq_I (fun u2 h1 H => ?_) (fun E h1 H => s_prop rfl ⟨by decide, by decide⟩ H C))
  exact s_iret (pc := 82) rfl rfl ⟨by decide, by decide⟩ H C dX8_run_82
set_option maxRecDepth 100000 in
set_option maxHeartbeats 4000000 in
theorem vX8_run {G : g_G} {X : g_X} {Q : g_R → g_Hp → Prop} (C : g_Cx y_ G X iX8_run) (h : g_Hp) (H : wX8_run h Q) : g_V G X iX8_run 0 0 Q 0 0 0 [(0, vR 5 0 0)] [] h := by
  refine s_aload_n (pc := 0) C dX8_run_0 rfl 0 rfl ?_
  refine s_callv (pc := 1) (nA := 0) (as := []) (st := []) (stk := [vR 5 0 0]) ckX8 (Or.inl rfl) C (fun l hl => ctX8_begins l hl _ _ H) ⟨⟨kw_1575, kw_69, kw_1578⟩, rfl, ⟨by decide, by decide, by decide +kernel⟩, by decide, by decide⟩ kw_1577 (g_selW kw_21) rfl (Nat.le_of_ble_eq_true rfl) ⟨by decide, by decide⟩ rfl dX8_run_1 (g_Kq_V (fun h1 H => ?_) (fun E h1 H => s_prop rfl ⟨by decide, by decide⟩ H C))
  refine s_aload_n (pc := 4) C dX8_run_4 rfl 0 rfl ?_
  refine s_aload_n (pc := 5) C dX8_run_5 rfl 0 rfl ?_
  refine s_geti (pc := 6) (s := 14) ckX8 (Or.inl rfl) (by decide) kw_1519 (fun _ => rfl) C dX8_run_6 ?_
  refine s_puti (pc := 9) (s := 16) ckX8 (Or.inl rfl) (by decide) kw_1521 (fun _ => rfl) rfl rfl rfl C dX8_run_9 ?_
  refine s_name (fun h2 eh2 => ?_)
  have H := H h2 eh2
  refine s_aload_n (pc := 12) C dX8_run_12 rfl 0 rfl ?_
  refine s_iconst (pc := 13) C dX8_run_13 (x := (0 : Int32)) (by decide) ?_
  refine s_puti (pc := 14) (s := 14) ckX8 (Or.inl rfl) (by decide) kw_1519 (fun _ => rfl) rfl rfl rfl C dX8_run_14 ?_
  refine s_name (fun h3 eh3 => ?_)
  have H := H h3 eh3
  refine s_aload_n (pc := 17) C dX8_run_17 rfl 0 rfl ?_
  refine s_iconst (pc := 18) C dX8_run_18 (x := (0 : Int32)) (by decide) ?_
  refine s_puti (pc := 19) (s := 19) ckX8 (Or.inl rfl) (by decide) kw_1524 (fun _ => rfl) rfl (by decide) (by decide) C dX8_run_19 ?_
  refine s_name (fun h4 eh4 => ?_)
  have H := H h4 eh4
  refine s_aload_n (pc := 22) C dX8_run_22 rfl 0 rfl ?_
  refine s_callv (pc := 23) (nA := 0) (as := []) (st := []) (stk := [vR 5 0 0]) ckX8 (Or.inl rfl) C (fun l hl => ctX8_commands l hl _ _ H) ⟨⟨kw_1873, kw_69, kw_1876⟩, rfl, ⟨by decide, by decide, by decide +kernel⟩, by decide, by decide⟩ kw_1875 (g_selW kw_45) rfl (Nat.le_of_ble_eq_true rfl) ⟨by decide, by decide⟩ rfl dX8_run_23 (g_Kq_I (fun u6 h5 H => ?_) (fun E h5 H => s_prop rfl ⟨by decide, by decide⟩ H C))
  refine s_istore_n (pc := 26) (ls' := [(1, vI u6), (0, vR 5 0 0)]) C dX8_run_26 rfl (by decide) rfl ?_
  refine s_aload_n (pc := 27) C dX8_run_27 rfl 1 rfl ?_
  refine s_geti (pc := 28) (s := 18) ckX8 (Or.inl rfl) (by decide) kw_1523 (fun _ => rfl) C dX8_run_28 ?_
  refine s_if_eq (pc := 31) (tgt := 48) C dX8_run_31 (by decide) (fun c => ?_) (fun c => ?_)
  · have H := H.1 c
    refine s_aload_n (pc := 48) C dX8_run_48 rfl 1 rfl ?_
    refine s_iconst (pc := 49) C dX8_run_49 (x := (1 : Int32)) (by decide) ?_
    refine s_puti (pc := 50) (s := 19) ckX8 (Or.inl rfl) (by decide) kw_1524 (fun _ => rfl) rfl (by decide) (by decide) C dX8_run_50 ?_
    refine s_name (fun h7 eh7 => ?_)
    have H := H h7 eh7
    refine s_aload_n (pc := 53) C dX8_run_53 rfl 1 rfl ?_
    refine s_callv (pc := 54) (nA := 0) (as := []) (st := []) (stk := [vR 5 0 0]) ckX8 (Or.inl rfl) C (fun l hl => ctX8_commands l hl _ _ H) ⟨⟨kw_1873, kw_69, kw_1876⟩, rfl, ⟨by decide, by decide, by decide +kernel⟩, by decide, by decide⟩ kw_1875 (g_selW kw_45) rfl (Nat.le_of_ble_eq_true rfl) ⟨by decide, by decide⟩ rfl dX8_run_54 (g_Kq_I (fun u9 h8 H => ?_) (fun E h8 H => s_prop rfl ⟨by decide, by decide⟩ H C))
    refine s_istore_n (pc := 57) (ls' := [(1, vI u9), (0, vR 5 0 0)]) C dX8_run_57 rfl (by decide) rfl ?_
    refine s_aload_n (pc := 58) C dX8_run_58 rfl 1 rfl ?_
    refine s_geti (pc := 59) (s := 0) ckX8 (Or.inl rfl) (by decide) kw_1505 (fun _ => rfl) C dX8_run_59 ?_
    refine s_if_eq (pc := 62) (tgt := 77) C dX8_run_62 (by decide) (fun c => ?_) (fun c => ?_)
    · have H := H.1 c
      exact s_sub (ls' := [(0, vR 5 0 0), (1, vI u9)]) [1, 0] rfl (vX8_run_b77 C u9 h8 H)
    · have H := H.2 c
      refine s_aload_n (pc := 65) C dX8_run_65 rfl 1 rfl ?_
      refine s_iload_n (pc := 66) C dX8_run_66 rfl 0 rfl ?_
      refine s_iconst (pc := 67) C dX8_run_67 (x := (1 : Int32)) (by decide) ?_
      refine s_isub (pc := 68) C dX8_run_68 ?_
      refine s_puti (pc := 69) (s := 3) ckX8 (Or.inl rfl) (by decide) kw_1508 (fun _ => rfl) rfl rfl rfl C dX8_run_69 ?_
      refine s_name (fun h10 eh10 => ?_)
      have H := H h10 eh10
      refine s_aload_n (pc := 72) C dX8_run_72 rfl 1 rfl ?_
      refine s_iconst (pc := 73) C dX8_run_73 (x := (2 : Int32)) (by decide) ?_
      refine s_puti (pc := 74) (s := 0) ckX8 (Or.inl rfl) (by decide) kw_1505 (fun _ => rfl) rfl rfl rfl C dX8_run_74 ?_
      refine s_name (fun h11 eh11 => ?_)
      have H := H h11 eh11
      exact s_sub (ls' := [(0, vR 5 0 0), (1, vI u9)]) [1, 0] rfl (vX8_run_b77 C u9 h11 H)
  · have H := H.2 c
    refine s_aload_n (pc := 34) C dX8_run_34 rfl 1 rfl ?_
    refine s_aload_n (pc := 35) C dX8_run_35 rfl 1 rfl ?_
    refine s_geti (pc := 36) (s := 15) ckX8 (Or.inl rfl) (by decide) kw_1520 (fun _ => rfl) C dX8_run_36 ?_
    refine s_puti (pc := 39) (s := 2) ckX8 (Or.inl rfl) (by decide) kw_1507 (fun _ => rfl) rfl rfl rfl C dX8_run_39 ?_
    refine s_name (fun h12 eh12 => ?_)
    have H := H h12 eh12
    refine s_aload_n (pc := 42) C dX8_run_42 rfl 1 rfl ?_
    refine s_iconst (pc := 43) C dX8_run_43 (x := (1 : Int32)) (by decide) ?_
    refine s_callv (pc := 44) (nA := 1) (as := [vI (1 : Int32)]) (st := []) (stk := [vI (1 : Int32), vR 5 0 0]) ckX8 (Or.inl rfl) C (fun l hl => ctX8_fail l hl (1 : Int32) _ _ H) ⟨⟨kw_1592, kw_69, kw_1595⟩, rfl, ⟨by decide, by decide, by decide +kernel⟩, by decide, by decide⟩ kw_1594 (g_selW kw_23) rfl (Nat.le_of_ble_eq_true rfl) ⟨by decide, by decide⟩ rfl dX8_run_44 (g_Kq_I (fun u14 h13 H => ?_) (fun E h13 H => s_prop rfl ⟨by decide, by decide⟩ H C))
    exact s_iret (pc := 47) rfl rfl ⟨by decide, by decide⟩ H C dX8_run_47
theorem ctX8_run (l : Launch) (hl : l.stackTraces = false) {G : g_G} (h : g_Hp) (Q : g_R → g_Hp → Prop) (H : wX8_run h Q) : g_Met l y_ G iX8_run [vR 5 0 0] h Q :=
  g_Met_of hl (by decide +kernel) rfl rfl (Nat.le_of_ble_eq_true rfl) (fun X C => vX8_run C h H)
/-! X8_errorPosition -/
abbrev iX8_errorPosition : g_I := (RX8, yX8_errorPosition, cX8_errorPosition, 1, (some .int), [], { frames := 1, cells := 0, slots := 0, locals := 20 })
set_option maxRecDepth 100000 in
set_option maxHeartbeats 4000000 in
theorem vX8_errorPosition_b31 {G : g_G} {X : g_X} {Q : g_R → g_Hp → Prop} (C : g_Cx y_ G X iX8_errorPosition) (z0 : Int32) (h : g_Hp) (H : wX8_errorPosition_b31 Q z0 h) : g_V G X iX8_errorPosition 0 0 Q 31 0 0 [] [vI z0] h := by
  exact s_iret (pc := 31) rfl rfl ⟨by decide, by decide⟩ H C dX8_errorPosition_31
set_option maxRecDepth 100000 in
set_option maxHeartbeats 4000000 in
theorem vX8_errorPosition_b13 {G : g_G} {X : g_X} {Q : g_R → g_Hp → Prop} (C : g_Cx y_ G X iX8_errorPosition) (z0 : Int32) (h : g_Hp) (H : wX8_errorPosition_b13 Q z0 h) : g_V G X iX8_errorPosition 0 0 Q 13 0 0 [(0, vR 5 0 0)] [vI z0, vR 5 0 0] h := by
  refine s_puti (pc := 13) (s := 0) ckX8 (Or.inl rfl) (by decide) kw_1505 (fun _ => rfl) rfl rfl rfl C dX8_errorPosition_13 ?_
  refine s_name (fun h1 eh1 => ?_)
  have H := H h1 eh1
  refine s_aload_n (pc := 16) C dX8_errorPosition_16 rfl 0 rfl ?_
  refine s_geti (pc := 17) (s := 0) ckX8 (Or.inl rfl) (by decide) kw_1505 (fun _ => rfl) C dX8_errorPosition_17 ?_
  refine s_if_ne (pc := 20) (tgt := 30) C dX8_errorPosition_20 (by decide) (fun c => ?_) (fun c => ?_)
  · have H := H.1 c
    refine s_iconst (pc := 30) C dX8_errorPosition_30 (x := (0 : Int32)) (by decide) ?_
    exact s_sub (ls' := []) [] rfl (vX8_errorPosition_b31 C (0 : Int32) h1 H)
  · have H := H.2 c
    refine s_aload_n (pc := 23) C dX8_errorPosition_23 rfl 0 rfl ?_
    refine s_geti (pc := 24) (s := 2) ckX8 (Or.inl rfl) (by decide) kw_1507 (fun _ => rfl) C dX8_errorPosition_24 ?_
    refine s_goto (pc := 27) (tgt := 31) C dX8_errorPosition_27 (by decide) ?_
    exact s_sub (ls' := []) [] rfl (vX8_errorPosition_b31 C (h1 5 0 0 3) h1 H)
set_option maxRecDepth 100000 in
set_option maxHeartbeats 4000000 in
theorem vX8_errorPosition {G : g_G} {X : g_X} {Q : g_R → g_Hp → Prop} (C : g_Cx y_ G X iX8_errorPosition) (h : g_Hp) (H : wX8_errorPosition h Q) : g_V G X iX8_errorPosition 0 0 Q 0 0 0 [(0, vR 5 0 0)] [] h := by
  refine s_aload_n (pc := 0) C dX8_errorPosition_0 rfl 0 rfl ?_
  refine s_aload_n (pc := 1) C dX8_errorPosition_1 rfl 0 rfl ?_
  refine s_geti (pc := 2) (s := 2) ckX8 (Or.inl rfl) (by decide) kw_1507 (fun _ => rfl) C dX8_errorPosition_2 ?_
  refine s_if_ge (pc := 5) (tgt := 12) C dX8_errorPosition_5 (by decide) (fun c => ?_) (fun c => ?_)
  · have H := H.1 c
    refine s_iconst (pc := 12) C dX8_errorPosition_12 (x := (0 : Int32)) (by decide) ?_
    exact s_sub (ls' := [(0, vR 5 0 0)]) [0] rfl (vX8_errorPosition_b13 C (0 : Int32) h H)
  · have H := H.2 c
    refine s_iconst (pc := 8) C dX8_errorPosition_8 (x := (1 : Int32)) (by decide) ?_
    refine s_goto (pc := 9) (tgt := 13) C dX8_errorPosition_9 (by decide) ?_
    exact s_sub (ls' := [(0, vR 5 0 0)]) [0] rfl (vX8_errorPosition_b13 C (1 : Int32) h H)
theorem ctX8_errorPosition (l : Launch) (hl : l.stackTraces = false) {G : g_G} (h : g_Hp) (Q : g_R → g_Hp → Prop) (H : wX8_errorPosition h Q) : g_Met l y_ G iX8_errorPosition [vR 5 0 0] h Q :=
  g_Met_of hl (by decide +kernel) rfl rfl (Nat.le_of_ble_eq_true rfl) (fun X C => vX8_errorPosition C h H)
/-! X8_failedCommand -/
abbrev iX8_failedCommand : g_I := (RX8, yX8_failedCommand, cX8_failedCommand, 1, (some .int), [], { frames := 1, cells := 0, slots := 0, locals := 20 })
set_option maxRecDepth 100000 in
set_option maxHeartbeats 4000000 in
theorem vX8_failedCommand_b31 {G : g_G} {X : g_X} {Q : g_R → g_Hp → Prop} (C : g_Cx y_ G X iX8_failedCommand) (z0 : Int32) (h : g_Hp) (H : wX8_failedCommand_b31 Q z0 h) : g_V G X iX8_failedCommand 0 0 Q 31 0 0 [] [vI z0] h := by
  exact s_iret (pc := 31) rfl rfl ⟨by decide, by decide⟩ H C dX8_failedCommand_31
set_option maxRecDepth 100000 in
set_option maxHeartbeats 4000000 in
theorem vX8_failedCommand_b13 {G : g_G} {X : g_X} {Q : g_R → g_Hp → Prop} (C : g_Cx y_ G X iX8_failedCommand) (z0 : Int32) (h : g_Hp) (H : wX8_failedCommand_b13 Q z0 h) : g_V G X iX8_failedCommand 0 0 Q 13 0 0 [(0, vR 5 0 0)] [vI z0, vR 5 0 0] h := by
  refine s_puti (pc := 13) (s := 0) ckX8 (Or.inl rfl) (by decide) kw_1505 (fun _ => rfl) rfl rfl rfl C dX8_failedCommand_13 ?_
  refine s_name (fun h1 eh1 => ?_)
  have H := H h1 eh1
  refine s_aload_n (pc := 16) C dX8_failedCommand_16 rfl 0 rfl ?_
  refine s_geti (pc := 17) (s := 0) ckX8 (Or.inl rfl) (by decide) kw_1505 (fun _ => rfl) C dX8_failedCommand_17 ?_
  refine s_if_ne (pc := 20) (tgt := 30) C dX8_failedCommand_20 (by decide) (fun c => ?_) (fun c => ?_)
  · have H := H.1 c
    refine s_iconst (pc := 30) C dX8_failedCommand_30 (x := (0 : Int32)) (by decide) ?_
    exact s_sub (ls' := []) [] rfl (vX8_failedCommand_b31 C (0 : Int32) h1 H)
  · have H := H.2 c
    refine s_aload_n (pc := 23) C dX8_failedCommand_23 rfl 0 rfl ?_
    refine s_geti (pc := 24) (s := 3) ckX8 (Or.inl rfl) (by decide) kw_1508 (fun _ => rfl) C dX8_failedCommand_24 ?_
    refine s_goto (pc := 27) (tgt := 31) C dX8_failedCommand_27 (by decide) ?_
    exact s_sub (ls' := []) [] rfl (vX8_failedCommand_b31 C (h1 5 0 0 4) h1 H)
set_option maxRecDepth 100000 in
set_option maxHeartbeats 4000000 in
theorem vX8_failedCommand {G : g_G} {X : g_X} {Q : g_R → g_Hp → Prop} (C : g_Cx y_ G X iX8_failedCommand) (h : g_Hp) (H : wX8_failedCommand h Q) : g_V G X iX8_failedCommand 0 0 Q 0 0 0 [(0, vR 5 0 0)] [] h := by
  refine s_aload_n (pc := 0) C dX8_failedCommand_0 rfl 0 rfl ?_
  refine s_aload_n (pc := 1) C dX8_failedCommand_1 rfl 0 rfl ?_
  refine s_geti (pc := 2) (s := 3) ckX8 (Or.inl rfl) (by decide) kw_1508 (fun _ => rfl) C dX8_failedCommand_2 ?_
  refine s_if_ge (pc := 5) (tgt := 12) C dX8_failedCommand_5 (by decide) (fun c => ?_) (fun c => ?_)
  · have H := H.1 c
    refine s_iconst (pc := 12) C dX8_failedCommand_12 (x := (0 : Int32)) (by decide) ?_
    exact s_sub (ls' := [(0, vR 5 0 0)]) [0] rfl (vX8_failedCommand_b13 C (0 : Int32) h H)
  · have H := H.2 c
    refine s_iconst (pc := 8) C dX8_failedCommand_8 (x := (1 : Int32)) (by decide) ?_
    refine s_goto (pc := 9) (tgt := 13) C dX8_failedCommand_9 (by decide) ?_
    exact s_sub (ls' := [(0, vR 5 0 0)]) [0] rfl (vX8_failedCommand_b13 C (1 : Int32) h H)
theorem ctX8_failedCommand (l : Launch) (hl : l.stackTraces = false) {G : g_G} (h : g_Hp) (Q : g_R → g_Hp → Prop) (H : wX8_failedCommand h Q) : g_Met l y_ G iX8_failedCommand [vR 5 0 0] h Q :=
  g_Met_of hl (by decide +kernel) rfl rfl (Nat.le_of_ble_eq_true rfl) (fun X C => vX8_failedCommand C h H)
/-! X8_writes -/
abbrev iX8_writes : g_I := (RX8, yX8_writes, cX8_writes, 2, none, [], { frames := 1, cells := 0, slots := 0, locals := 20 })
set_option maxRecDepth 100000 in
set_option maxHeartbeats 4000000 in
theorem vX8_writes {G : g_G} {X : g_X} {Q : g_R → g_Hp → Prop} (C : g_Cx y_ G X iX8_writes) (p0 : Int32) (h : g_Hp) (H : wX8_writes p0 h Q) : g_V G X iX8_writes 0 0 Q 0 0 0 [(0, vR 5 0 0), (1, vI p0)] [] h := by
  refine s_aload_n (pc := 0) C dX8_writes_0 rfl 0 rfl ?_
  refine s_getr (pc := 1) (s := 10) (a := 13) (b := 5) (c' := 0) ckX8 (by decide) kw_1515 rfl C dX8_writes_1 ?_
  refine s_aload_n (pc := 4) C dX8_writes_4 rfl 0 rfl ?_
  refine s_geti (pc := 5) (s := 17) ckX8 (Or.inl rfl) (by decide) kw_1522 (fun _ => rfl) C dX8_writes_5 ?_
  refine s_iload_n (pc := 8) C dX8_writes_8 rfl 1 rfl ?_
  refine s_iast (pc := 9) H.1 C dX8_writes_9 ?_
  have H := H.2
  refine s_name (fun h1 eh1 => ?_)
  have H := H h1 eh1
  refine s_aload_n (pc := 10) C dX8_writes_10 rfl 0 rfl ?_
  refine s_dup (pc := 11) C dX8_writes_11 rfl ?_
  refine s_geti (pc := 12) (s := 17) ckX8 (Or.inl rfl) (by decide) kw_1522 (fun _ => rfl) C dX8_writes_12 ?_
  refine s_iconst (pc := 15) C dX8_writes_15 (x := (1 : Int32)) (by decide) ?_
  refine s_iadd (pc := 16) C dX8_writes_16 ?_
  refine s_puti (pc := 17) (s := 17) ckX8 (Or.inl rfl) (by decide) kw_1522 (fun _ => rfl) rfl rfl rfl C dX8_writes_17 ?_
  refine s_name (fun h2 eh2 => ?_)
  have H := H h2 eh2
  exact s_vret (pc := 20) rfl ⟨by decide, by decide⟩ H C dX8_writes_20
theorem ctX8_writes (l : Launch) (hl : l.stackTraces = false) {G : g_G} (p0 : Int32) (h : g_Hp) (Q : g_R → g_Hp → Prop) (H : wX8_writes p0 h Q) : g_Met l y_ G iX8_writes [vR 5 0 0, vI p0] h Q :=
  g_Met_of hl (by decide +kernel) rfl rfl (Nat.le_of_ble_eq_true rfl) (fun X C => vX8_writes C p0 h H)
/-! X8_writesNumber -/
abbrev iX8_writesNumber : g_I := (RX8, yX8_writesNumber, cX8_writesNumber, 3, none, [], { frames := 2, cells := 0, slots := 0, locals := 41 })
set_option maxRecDepth 100000 in
set_option maxHeartbeats 4000000 in
theorem vX8_writesNumber_b18_B {G : g_G} {X : g_X} {Q : g_R → g_Hp → Prop} (C : g_Cx y_ G X iX8_writesNumber) (R18 : Int32 → Int32 → g_Hp → Prop) (hR18 : ∀ (x1 : Int32) (x2 : Int32) (h : g_Hp), R18 x1 x2 h → g_V G X iX8_writesNumber 0 0 Q 18 0 0 [(0, vR 5 0 0), (1, vI x1), (2, vI x2)] [] h) (x1 : Int32) (x2 : Int32) (h : g_Hp) (H : wX8_writesNumber_b18_B Q R18 x1 x2 h) : g_V G X iX8_writesNumber 0 0 Q 18 0 0 [(0, vR 5 0 0), (1, vI x1), (2, vI x2)] [] h := by
  refine s_iload_n (pc := 18) C dX8_writesNumber_18 rfl 2 rfl ?_
  refine s_if_le (pc := 19) (tgt := 43) C dX8_writesNumber_19 (by decide) (fun c => ?_) (fun c => ?_)
  · have H := H.1 c
    exact s_vret (pc := 43) rfl ⟨by decide, by decide⟩ H C dX8_writesNumber_43
  · have H := H.2 c
    refine s_aload_n (pc := 22) C dX8_writesNumber_22 rfl 0 rfl ?_
    refine s_bipush (pc := 23) C dX8_writesNumber_23 (x := (48 : Int32)) (by decide) ?_
    refine s_iload_n (pc := 25) C dX8_writesNumber_25 rfl 1 rfl ?_
    refine s_iload_n (pc := 26) C dX8_writesNumber_26 rfl 2 rfl ?_
    refine s_idiv (pc := 27) C dX8_writesNumber_27 H.1 ?_
    have H := H.2
    refine s_bipush (pc := 28) C dX8_writesNumber_28 (x := (10 : Int32)) (by decide) ?_
    refine s_irem (pc := 30) C dX8_writesNumber_30 H.1 ?_
    have H := H.2
    refine s_iadd (pc := 31) C dX8_writesNumber_31 ?_
    refine s_callv (pc := 32) (nA := 1) (as := [vI ((48 : Int32) + ((x1 / x2) - (x1 / x2) / (10 : Int32) * (10 : Int32)))]) (st := []) (stk := [vI ((48 : Int32) + ((x1 / x2) - (x1 / x2) / (10 : Int32) * (10 : Int32))), vR 5 0 0]) ckX8 (Or.inl rfl) C (fun l hl => ctX8_writes l hl ((48 : Int32) + ((x1 / x2) - (x1 / x2) / (10 : Int32) * (10 : Int32))) _ _ H) ⟨⟨kw_1921, kw_69, kw_1924⟩, rfl, ⟨by decide, by decide, by decide +kernel⟩, by decide, by decide⟩ kw_1923 (g_selW kw_54) rfl (Nat.le_of_ble_eq_true rfl) ⟨by decide, by decide⟩ rfl dX8_writesNumber_32 (g_Kq_V (fun h1 H => ?_) (fun E h1 H => s_prop rfl ⟨by decide, by decide⟩ H C))
    refine s_iload_n (pc := 35) C dX8_writesNumber_35 rfl 2 rfl ?_
    refine s_bipush (pc := 36) C dX8_writesNumber_36 (x := (10 : Int32)) (by decide) ?_
    refine s_idiv (pc := 38) C dX8_writesNumber_38 H.1 ?_
    have H := H.2
    refine s_namei (fun y2 ey2 => ?_)
    have H := H y2 ey2
    refine s_istore_n (pc := 39) (ls' := [(2, vI y2), (0, vR 5 0 0), (1, vI x1)]) C dX8_writesNumber_39 rfl (by decide) rfl ?_
    refine s_goto (pc := 40) (tgt := 18) C dX8_writesNumber_40 (by decide) ?_
    exact s_sub (ls' := [(0, vR 5 0 0), (1, vI x1), (2, vI y2)]) [1, 2, 0] rfl (hR18 x1 y2 h1 H)
theorem vX8_writesNumber_b18 {G : g_G} {X : g_X} {Q : g_R → g_Hp → Prop} (C : g_Cx y_ G X iX8_writesNumber) (x1 : Int32) (x2 : Int32) (h : g_Hp) (H : wX8_writesNumber_b18 Q x1 x2 h) : g_V G X iX8_writesNumber 0 0 Q 18 0 0 [(0, vR 5 0 0), (1, vI x1), (2, vI x2)] [] h := by
  obtain ⟨n, H⟩ := H
  induction n generalizing x1 x2 h with
  | zero => exact H.elim
  | succ n ih => exact vX8_writesNumber_b18_B C _ (fun x1 x2 h H => ih x1 x2 h H) x1 x2 h H
set_option maxRecDepth 100000 in
set_option maxHeartbeats 4000000 in
theorem vX8_writesNumber_b2_B {G : g_G} {X : g_X} {Q : g_R → g_Hp → Prop} (C : g_Cx y_ G X iX8_writesNumber) (R2 : Int32 → Int32 → g_Hp → Prop) (hR2 : ∀ (x1 : Int32) (x2 : Int32) (h : g_Hp), R2 x1 x2 h → g_V G X iX8_writesNumber 0 0 Q 2 0 0 [(0, vR 5 0 0), (1, vI x1), (2, vI x2)] [] h) (x1 : Int32) (x2 : Int32) (h : g_Hp) (H : wX8_writesNumber_b2_B Q R2 x1 x2 h) : g_V G X iX8_writesNumber 0 0 Q 2 0 0 [(0, vR 5 0 0), (1, vI x1), (2, vI x2)] [] h := by
  refine s_iload_n (pc := 2) C dX8_writesNumber_2 rfl 1 rfl ?_
  refine s_iload_n (pc := 3) C dX8_writesNumber_3 rfl 2 rfl ?_
  refine s_idiv (pc := 4) C dX8_writesNumber_4 H.1 ?_
  have H := H.2
  refine s_bipush (pc := 5) C dX8_writesNumber_5 (x := (10 : Int32)) (by decide) ?_
  refine s_icmp_lt (pc := 7) (tgt := 18) C dX8_writesNumber_7 (by decide) (fun c => ?_) (fun c => ?_)
  · have H := H.1 c
    exact s_sub (ls' := [(0, vR 5 0 0), (1, vI x1), (2, vI x2)]) [0, 1, 2] rfl (vX8_writesNumber_b18 C x1 x2 h H)
  · have H := H.2 c
    refine s_iload_n (pc := 10) C dX8_writesNumber_10 rfl 2 rfl ?_
    refine s_bipush (pc := 11) C dX8_writesNumber_11 (x := (10 : Int32)) (by decide) ?_
    refine s_imul (pc := 13) C dX8_writesNumber_13 ?_
    refine s_namei (fun y1 ey1 => ?_)
    have H := H y1 ey1
    refine s_istore_n (pc := 14) (ls' := [(2, vI y1), (0, vR 5 0 0), (1, vI x1)]) C dX8_writesNumber_14 rfl (by decide) rfl ?_
    refine s_goto (pc := 15) (tgt := 2) C dX8_writesNumber_15 (by decide) ?_
    exact s_sub (ls' := [(0, vR 5 0 0), (1, vI x1), (2, vI y1)]) [1, 2, 0] rfl (hR2 x1 y1 h H)
theorem vX8_writesNumber_b2 {G : g_G} {X : g_X} {Q : g_R → g_Hp → Prop} (C : g_Cx y_ G X iX8_writesNumber) (x1 : Int32) (x2 : Int32) (h : g_Hp) (H : wX8_writesNumber_b2 Q x1 x2 h) : g_V G X iX8_writesNumber 0 0 Q 2 0 0 [(0, vR 5 0 0), (1, vI x1), (2, vI x2)] [] h := by
  obtain ⟨n, H⟩ := H
  induction n generalizing x1 x2 h with
  | zero => exact H.elim
  | succ n ih => exact vX8_writesNumber_b2_B C _ (fun x1 x2 h H => ih x1 x2 h H) x1 x2 h H
set_option maxRecDepth 100000 in
set_option maxHeartbeats 4000000 in
theorem vX8_writesNumber {G : g_G} {X : g_X} {Q : g_R → g_Hp → Prop} (C : g_Cx y_ G X iX8_writesNumber) (p0 : Int32) (h : g_Hp) (H : wX8_writesNumber p0 h Q) : g_V G X iX8_writesNumber 0 0 Q 0 0 0 [(0, vR 5 0 0), (1, vI p0)] [] h := by
  refine s_iconst (pc := 0) C dX8_writesNumber_0 (x := (1 : Int32)) (by decide) ?_
  refine s_istore_n (pc := 1) (ls' := [(2, vI (1 : Int32)), (0, vR 5 0 0), (1, vI p0)]) C dX8_writesNumber_1 rfl (by decide) rfl ?_
  exact s_sub (ls' := [(0, vR 5 0 0), (1, vI p0), (2, vI (1 : Int32))]) [1, 2, 0] rfl (vX8_writesNumber_b2 C p0 (1 : Int32) h H)
theorem ctX8_writesNumber (l : Launch) (hl : l.stackTraces = false) {G : g_G} (p0 : Int32) (h : g_Hp) (Q : g_R → g_Hp → Prop) (H : wX8_writesNumber p0 h Q) : g_Met l y_ G iX8_writesNumber [vR 5 0 0, vI p0] h Q :=
  g_Met_of hl (by decide +kernel) rfl rfl (Nat.le_of_ble_eq_true rfl) (fun X C => vX8_writesNumber C p0 h H)
/-! X8_writesPart -/
abbrev iX8_writesPart : g_I := (RX8, yX8_writesPart, cX8_writesPart, 3, none, [], { frames := 3, cells := 0, slots := 0, locals := 63 })
set_option maxRecDepth 100000 in
set_option maxHeartbeats 4000000 in
theorem vX8_writesPart {G : g_G} {X : g_X} {Q : g_R → g_Hp → Prop} (C : g_Cx y_ G X iX8_writesPart) (p0 : Int32) (p1 : Int32) (h : g_Hp) (H : wX8_writesPart p0 p1 h Q) : g_V G X iX8_writesPart 0 0 Q 0 0 0 [(0, vR 5 0 0), (1, vI p0), (2, vI p1)] [] h := by
  refine s_iload_n (pc := 0) C dX8_writesPart_0 rfl 2 rfl ?_
  refine s_if_ne (pc := 1) (tgt := 5) C dX8_writesPart_1 (by decide) (fun c => ?_) (fun c => ?_)
  · have H := H.1 c
    refine s_aload_n (pc := 5) C dX8_writesPart_5 rfl 0 rfl ?_
    refine s_iload_n (pc := 6) C dX8_writesPart_6 rfl 1 rfl ?_
    refine s_callv (pc := 7) (nA := 1) (as := [vI p0]) (st := []) (stk := [vI p0, vR 5 0 0]) ckX8 (Or.inl rfl) C (fun l hl => ctX8_writes l hl p0 _ _ H) ⟨⟨kw_1921, kw_69, kw_1924⟩, rfl, ⟨by decide, by decide, by decide +kernel⟩, by decide, by decide⟩ kw_1923 (g_selW kw_54) rfl (Nat.le_of_ble_eq_true rfl) ⟨by decide, by decide⟩ rfl dX8_writesPart_7 (g_Kq_V (fun h1 H => ?_) (fun E h1 H => s_prop rfl ⟨by decide, by decide⟩ H C))
    refine s_aload_n (pc := 10) C dX8_writesPart_10 rfl 0 rfl ?_
    refine s_iload_n (pc := 11) C dX8_writesPart_11 rfl 2 rfl ?_
    refine s_callv (pc := 12) (nA := 1) (as := [vI p1]) (st := []) (stk := [vI p1, vR 5 0 0]) ckX8 (Or.inl rfl) C (fun l hl => ctX8_writesNumber l hl p1 _ _ H) ⟨⟨kw_1925, kw_69, kw_1928⟩, rfl, ⟨by decide, by decide, by decide +kernel⟩, by decide, by decide⟩ kw_1927 (g_selW kw_55) rfl (Nat.le_of_ble_eq_true rfl) ⟨by decide, by decide⟩ rfl dX8_writesPart_12 (g_Kq_V (fun h2 H => ?_) (fun E h2 H => s_prop rfl ⟨by decide, by decide⟩ H C))
    exact s_vret (pc := 15) rfl ⟨by decide, by decide⟩ H C dX8_writesPart_15
  · have H := H.2 c
    exact s_vret (pc := 4) rfl ⟨by decide, by decide⟩ H C dX8_writesPart_4
theorem ctX8_writesPart (l : Launch) (hl : l.stackTraces = false) {G : g_G} (p0 : Int32) (p1 : Int32) (h : g_Hp) (Q : g_R → g_Hp → Prop) (H : wX8_writesPart p0 p1 h Q) : g_Met l y_ G iX8_writesPart [vR 5 0 0, vI p0, vI p1] h Q :=
  g_Met_of hl (by decide +kernel) rfl rfl (Nat.le_of_ble_eq_true rfl) (fun X C => vX8_writesPart C p0 p1 h H)
/-! X8_describeMember -/
abbrev iX8_describeMember : g_I := (RX8, yX8_describeMember, cX8_describeMember, 2, (some .int), [], { frames := 4, cells := 0, slots := 0, locals := 85 })
set_option maxRecDepth 100000 in
set_option maxHeartbeats 4000000 in
theorem vX8_describeMember_b140 {G : g_G} {X : g_X} {Q : g_R → g_Hp → Prop} (C : g_Cx y_ G X iX8_describeMember) (h : g_Hp) (H : wX8_describeMember_b140 Q h) : g_V G X iX8_describeMember 0 0 Q 140 0 0 [(0, vR 5 0 0)] [] h := by
  refine s_aload_n (pc := 140) C dX8_describeMember_140 rfl 0 rfl ?_
  refine s_geti (pc := 141) (s := 17) ckX8 (Or.inl rfl) (by decide) kw_1522 (fun _ => rfl) C dX8_describeMember_141 ?_
  exact s_iret (pc := 144) rfl rfl ⟨by decide, by decide⟩ H C dX8_describeMember_144
set_option maxRecDepth 100000 in
set_option maxHeartbeats 4000000 in
theorem vX8_describeMember_b14 {G : g_G} {X : g_X} {Q : g_R → g_Hp → Prop} (C : g_Cx y_ G X iX8_describeMember) (x1 : Int32) (z0 : Int32) (h : g_Hp) (H : wX8_describeMember_b14 Q x1 z0 h) : g_V G X iX8_describeMember 0 0 Q 14 0 0 [(0, vR 5 0 0), (1, vI x1)] [vI z0, vR 5 0 0] h := by
  refine s_puti (pc := 14) (s := 0) ckX8 (Or.inl rfl) (by decide) kw_1505 (fun _ => rfl) rfl rfl rfl C dX8_describeMember_14 ?_
  refine s_name (fun h1 eh1 => ?_)
  have H := H h1 eh1
  refine s_aload_n (pc := 17) C dX8_describeMember_17 rfl 0 rfl ?_
  refine s_geti (pc := 18) (s := 0) ckX8 (Or.inl rfl) (by decide) kw_1505 (fun _ => rfl) C dX8_describeMember_18 ?_
  refine s_if_eq (pc := 21) (tgt := 26) C dX8_describeMember_21 (by decide) (fun c => ?_) (fun c => ?_)
  · have H := H.1 c
    refine s_aload_n (pc := 26) C dX8_describeMember_26 rfl 0 rfl ?_
    refine s_iconst (pc := 27) C dX8_describeMember_27 (x := (0 : Int32)) (by decide) ?_
    refine s_puti (pc := 28) (s := 17) ckX8 (Or.inl rfl) (by decide) kw_1522 (fun _ => rfl) rfl rfl rfl C dX8_describeMember_28 ?_
    refine s_name (fun h2 eh2 => ?_)
    have H := H h2 eh2
    refine s_aload_n (pc := 31) C dX8_describeMember_31 rfl 0 rfl ?_
    refine s_bipush (pc := 32) C dX8_describeMember_32 (x := (109 : Int32)) (by decide) ?_
    refine s_callv (pc := 34) (nA := 1) (as := [vI (109 : Int32)]) (st := []) (stk := [vI (109 : Int32), vR 5 0 0]) ckX8 (Or.inl rfl) C (fun l hl => ctX8_writes l hl (109 : Int32) _ _ H) ⟨⟨kw_1921, kw_69, kw_1924⟩, rfl, ⟨by decide, by decide, by decide +kernel⟩, by decide, by decide⟩ kw_1923 (g_selW kw_54) rfl (Nat.le_of_ble_eq_true rfl) ⟨by decide, by decide⟩ rfl dX8_describeMember_34 (g_Kq_V (fun h3 H => ?_) (fun E h3 H => s_prop rfl ⟨by decide, by decide⟩ H C))
    refine s_aload_n (pc := 37) C dX8_describeMember_37 rfl 0 rfl ?_
    refine s_iload_n (pc := 38) C dX8_describeMember_38 rfl 1 rfl ?_
    refine s_callv (pc := 39) (nA := 1) (as := [vI x1]) (st := []) (stk := [vI x1, vR 5 0 0]) ckX8 (Or.inl rfl) C (fun l hl => ctX8_writesNumber l hl x1 _ _ H) ⟨⟨kw_1925, kw_69, kw_1928⟩, rfl, ⟨by decide, by decide, by decide +kernel⟩, by decide, by decide⟩ kw_1927 (g_selW kw_55) rfl (Nat.le_of_ble_eq_true rfl) ⟨by decide, by decide⟩ rfl dX8_describeMember_39 (g_Kq_V (fun h4 H => ?_) (fun E h4 H => s_prop rfl ⟨by decide, by decide⟩ H C))
    refine s_aload_n (pc := 42) C dX8_describeMember_42 rfl 0 rfl ?_
    refine s_bipush (pc := 43) C dX8_describeMember_43 (x := (64 : Int32)) (by decide) ?_
    refine s_callv (pc := 45) (nA := 1) (as := [vI (64 : Int32)]) (st := []) (stk := [vI (64 : Int32), vR 5 0 0]) ckX8 (Or.inl rfl) C (fun l hl => ctX8_writes l hl (64 : Int32) _ _ H) ⟨⟨kw_1921, kw_69, kw_1924⟩, rfl, ⟨by decide, by decide, by decide +kernel⟩, by decide, by decide⟩ kw_1923 (g_selW kw_54) rfl (Nat.le_of_ble_eq_true rfl) ⟨by decide, by decide⟩ rfl dX8_describeMember_45 (g_Kq_V (fun h5 H => ?_) (fun E h5 H => s_prop rfl ⟨by decide, by decide⟩ H C))
    refine s_aload_n (pc := 48) C dX8_describeMember_48 rfl 0 rfl ?_
    refine s_aload_n (pc := 49) C dX8_describeMember_49 rfl 0 rfl ?_
    refine s_getr (pc := 50) (s := 5) (a := 13) (b := 0) (c' := 0) ckX8 (by decide) kw_1510 rfl C dX8_describeMember_50 ?_
    refine s_bipush (pc := 53) C dX8_describeMember_53 (x := (11 : Int32)) (by decide) ?_
    refine s_iload_n (pc := 55) C dX8_describeMember_55 rfl 1 rfl ?_
    refine s_iadd (pc := 56) C dX8_describeMember_56 ?_
    refine s_iald (pc := 57) H.1 C dX8_describeMember_57 ?_
    have H := H.2
    refine s_callv (pc := 58) (nA := 1) (as := [vI (h5 13 0 0 (((11 : Int32) + x1).toNatClampNeg + 1))]) (st := []) (stk := [vI (h5 13 0 0 (((11 : Int32) + x1).toNatClampNeg + 1)), vR 5 0 0]) ckX8 (Or.inl rfl) C (fun l hl => ctX8_writesNumber l hl (h5 13 0 0 (((11 : Int32) + x1).toNatClampNeg + 1)) _ _ H) ⟨⟨kw_1925, kw_69, kw_1928⟩, rfl, ⟨by decide, by decide, by decide +kernel⟩, by decide, by decide⟩ kw_1927 (g_selW kw_55) rfl (Nat.le_of_ble_eq_true rfl) ⟨by decide, by decide⟩ rfl dX8_describeMember_58 (g_Kq_V (fun h6 H => ?_) (fun E h6 H => s_prop rfl ⟨by decide, by decide⟩ H C))
    refine s_aload_n (pc := 61) C dX8_describeMember_61 rfl 0 rfl ?_
    refine s_bipush (pc := 62) C dX8_describeMember_62 (x := (97 : Int32)) (by decide) ?_
    refine s_aload_n (pc := 64) C dX8_describeMember_64 rfl 0 rfl ?_
    refine s_getr (pc := 65) (s := 5) (a := 13) (b := 0) (c' := 0) ckX8 (by decide) kw_1510 rfl C dX8_describeMember_65 ?_
    refine s_bipush (pc := 68) C dX8_describeMember_68 (x := (35 : Int32)) (by decide) ?_
    refine s_iload_n (pc := 70) C dX8_describeMember_70 rfl 1 rfl ?_
    refine s_iadd (pc := 71) C dX8_describeMember_71 ?_
    refine s_iald (pc := 72) H.1 C dX8_describeMember_72 ?_
    have H := H.2
    refine s_iadd (pc := 73) C dX8_describeMember_73 ?_
    refine s_callv (pc := 74) (nA := 1) (as := [vI ((97 : Int32) + (h6 13 0 0 (((35 : Int32) + x1).toNatClampNeg + 1)))]) (st := []) (stk := [vI ((97 : Int32) + (h6 13 0 0 (((35 : Int32) + x1).toNatClampNeg + 1))), vR 5 0 0]) ckX8 (Or.inl rfl) C (fun l hl => ctX8_writes l hl ((97 : Int32) + (h6 13 0 0 (((35 : Int32) + x1).toNatClampNeg + 1))) _ _ H) ⟨⟨kw_1921, kw_69, kw_1924⟩, rfl, ⟨by decide, by decide, by decide +kernel⟩, by decide, by decide⟩ kw_1923 (g_selW kw_54) rfl (Nat.le_of_ble_eq_true rfl) ⟨by decide, by decide⟩ rfl dX8_describeMember_74 (g_Kq_V (fun h7 H => ?_) (fun E h7 H => s_prop rfl ⟨by decide, by decide⟩ H C))
    refine s_aload_n (pc := 77) C dX8_describeMember_77 rfl 0 rfl ?_
    refine s_bipush (pc := 78) C dX8_describeMember_78 (x := (32 : Int32)) (by decide) ?_
    refine s_callv (pc := 80) (nA := 1) (as := [vI (32 : Int32)]) (st := []) (stk := [vI (32 : Int32), vR 5 0 0]) ckX8 (Or.inl rfl) C (fun l hl => ctX8_writes l hl (32 : Int32) _ _ H) ⟨⟨kw_1921, kw_69, kw_1924⟩, rfl, ⟨by decide, by decide, by decide +kernel⟩, by decide, by decide⟩ kw_1923 (g_selW kw_54) rfl (Nat.le_of_ble_eq_true rfl) ⟨by decide, by decide⟩ rfl dX8_describeMember_80 (g_Kq_V (fun h8 H => ?_) (fun E h8 H => s_prop rfl ⟨by decide, by decide⟩ H C))
    refine s_aload_n (pc := 83) C dX8_describeMember_83 rfl 0 rfl ?_
    refine s_aload_n (pc := 84) C dX8_describeMember_84 rfl 0 rfl ?_
    refine s_getr (pc := 85) (s := 5) (a := 13) (b := 0) (c' := 0) ckX8 (by decide) kw_1510 rfl C dX8_describeMember_85 ?_
    refine s_bipush (pc := 88) C dX8_describeMember_88 (x := (47 : Int32)) (by decide) ?_
    refine s_iload_n (pc := 90) C dX8_describeMember_90 rfl 1 rfl ?_
    refine s_iadd (pc := 91) C dX8_describeMember_91 ?_
    refine s_iald (pc := 92) H.1 C dX8_describeMember_92 ?_
    have H := H.2
    refine s_callv (pc := 93) (nA := 1) (as := [vI (h8 13 0 0 (((47 : Int32) + x1).toNatClampNeg + 1))]) (st := []) (stk := [vI (h8 13 0 0 (((47 : Int32) + x1).toNatClampNeg + 1)), vR 5 0 0]) ckX8 (Or.inl rfl) C (fun l hl => ctX8_writesNumber l hl (h8 13 0 0 (((47 : Int32) + x1).toNatClampNeg + 1)) _ _ H) ⟨⟨kw_1925, kw_69, kw_1928⟩, rfl, ⟨by decide, by decide, by decide +kernel⟩, by decide, by decide⟩ kw_1927 (g_selW kw_55) rfl (Nat.le_of_ble_eq_true rfl) ⟨by decide, by decide⟩ rfl dX8_describeMember_93 (g_Kq_V (fun h9 H => ?_) (fun E h9 H => s_prop rfl ⟨by decide, by decide⟩ H C))
    refine s_aload_n (pc := 96) C dX8_describeMember_96 rfl 0 rfl ?_
    refine s_bipush (pc := 97) C dX8_describeMember_97 (x := (43 : Int32)) (by decide) ?_
    refine s_aload_n (pc := 99) C dX8_describeMember_99 rfl 0 rfl ?_
    refine s_getr (pc := 100) (s := 5) (a := 13) (b := 0) (c' := 0) ckX8 (by decide) kw_1510 rfl C dX8_describeMember_100 ?_
    refine s_bipush (pc := 103) C dX8_describeMember_103 (x := (59 : Int32)) (by decide) ?_
    refine s_iload_n (pc := 105) C dX8_describeMember_105 rfl 1 rfl ?_
    refine s_iadd (pc := 106) C dX8_describeMember_106 ?_
    refine s_iald (pc := 107) H.1 C dX8_describeMember_107 ?_
    have H := H.2
    refine s_callv (pc := 108) (nA := 2) (as := [vI (43 : Int32), vI (h9 13 0 0 (((59 : Int32) + x1).toNatClampNeg + 1))]) (st := []) (stk := [vI (h9 13 0 0 (((59 : Int32) + x1).toNatClampNeg + 1)), vI (43 : Int32), vR 5 0 0]) ckX8 (Or.inl rfl) C (fun l hl => ctX8_writesPart l hl (43 : Int32) (h9 13 0 0 (((59 : Int32) + x1).toNatClampNeg + 1)) _ _ H) ⟨⟨kw_1929, kw_69, kw_1932⟩, rfl, ⟨by decide, by decide, by decide +kernel⟩, by decide, by decide⟩ kw_1931 (g_selW kw_56) rfl (Nat.le_of_ble_eq_true rfl) ⟨by decide, by decide⟩ rfl dX8_describeMember_108 (g_Kq_V (fun h10 H => ?_) (fun E h10 H => s_prop rfl ⟨by decide, by decide⟩ H C))
    refine s_aload_n (pc := 111) C dX8_describeMember_111 rfl 0 rfl ?_
    refine s_bipush (pc := 112) C dX8_describeMember_112 (x := (45 : Int32)) (by decide) ?_
    refine s_aload_n (pc := 114) C dX8_describeMember_114 rfl 0 rfl ?_
    refine s_getr (pc := 115) (s := 5) (a := 13) (b := 0) (c' := 0) ckX8 (by decide) kw_1510 rfl C dX8_describeMember_115 ?_
    refine s_bipush (pc := 118) C dX8_describeMember_118 (x := (71 : Int32)) (by decide) ?_
    refine s_iload_n (pc := 120) C dX8_describeMember_120 rfl 1 rfl ?_
    refine s_iadd (pc := 121) C dX8_describeMember_121 ?_
    refine s_iald (pc := 122) H.1 C dX8_describeMember_122 ?_
    have H := H.2
    refine s_callv (pc := 123) (nA := 2) (as := [vI (45 : Int32), vI (h10 13 0 0 (((71 : Int32) + x1).toNatClampNeg + 1))]) (st := []) (stk := [vI (h10 13 0 0 (((71 : Int32) + x1).toNatClampNeg + 1)), vI (45 : Int32), vR 5 0 0]) ckX8 (Or.inl rfl) C (fun l hl => ctX8_writesPart l hl (45 : Int32) (h10 13 0 0 (((71 : Int32) + x1).toNatClampNeg + 1)) _ _ H) ⟨⟨kw_1929, kw_69, kw_1932⟩, rfl, ⟨by decide, by decide, by decide +kernel⟩, by decide, by decide⟩ kw_1931 (g_selW kw_56) rfl (Nat.le_of_ble_eq_true rfl) ⟨by decide, by decide⟩ rfl dX8_describeMember_123 (g_Kq_V (fun h11 H => ?_) (fun E h11 H => s_prop rfl ⟨by decide, by decide⟩ H C))
    refine s_aload_n (pc := 126) C dX8_describeMember_126 rfl 0 rfl ?_
    refine s_iload_n (pc := 127) C dX8_describeMember_127 rfl 1 rfl ?_
    refine s_callv (pc := 128) (nA := 1) (as := [vI x1]) (st := []) (stk := [vI x1, vR 5 0 0]) ckX8 (Or.inl rfl) C (fun l hl => ctX8_list l hl x1 _ _ H) ⟨⟨kw_1781, kw_69, kw_1784⟩, rfl, ⟨by decide, by decide, by decide +kernel⟩, by decide, by decide⟩ kw_1783 (g_selW kw_38) rfl (Nat.le_of_ble_eq_true rfl) ⟨by decide, by decide⟩ rfl dX8_describeMember_128 (g_Kq_I (fun u13 h12 H => ?_) (fun E h12 H => s_prop rfl ⟨by decide, by decide⟩ H C))
    refine s_if_lt (pc := 131) (tgt := 140) C dX8_describeMember_131 (by decide) (fun c => ?_) (fun c => ?_)
    · have H := H.1 c
      exact s_sub (ls' := [(0, vR 5 0 0)]) [0] rfl (vX8_describeMember_b140 C  h12 H)
    · have H := H.2 c
      refine s_aload_n (pc := 134) C dX8_describeMember_134 rfl 0 rfl ?_
      refine s_bipush (pc := 135) C dX8_describeMember_135 (x := (33 : Int32)) (by decide) ?_
      refine s_callv (pc := 137) (nA := 1) (as := [vI (33 : Int32)]) (st := []) (stk := [vI (33 : Int32), vR 5 0 0]) ckX8 (Or.inl rfl) C (fun l hl => ctX8_writes l hl (33 : Int32) _ _ H) ⟨⟨kw_1921, kw_69, kw_1924⟩, rfl, ⟨by decide, by decide, by decide +kernel⟩, by decide, by decide⟩ kw_1923 (g_selW kw_54) rfl (Nat.le_of_ble_eq_true rfl) ⟨by decide, by decide⟩ rfl dX8_describeMember_137 (g_Kq_V (fun h14 H => ?_) (fun E h14 H => s_prop rfl ⟨by decide, by decide⟩ H C))
      exact s_sub (ls' := [(0, vR 5 0 0)]) [0] rfl (vX8_describeMember_b140 C  h14 H)
  · have H := H.2 c
    refine s_iconst (pc := 24) C dX8_describeMember_24 (x := (0 : Int32)) (by decide) ?_
    exact s_iret (pc := 25) rfl rfl ⟨by decide, by decide⟩ H C dX8_describeMember_25
set_option maxRecDepth 100000 in
set_option maxHeartbeats 4000000 in
theorem vX8_describeMember {G : g_G} {X : g_X} {Q : g_R → g_Hp → Prop} (C : g_Cx y_ G X iX8_describeMember) (p0 : Int32) (h : g_Hp) (H : wX8_describeMember p0 h Q) : g_V G X iX8_describeMember 0 0 Q 0 0 0 [(0, vR 5 0 0), (1, vI p0)] [] h := by
  refine s_aload_n (pc := 0) C dX8_describeMember_0 rfl 0 rfl ?_
  refine s_aload_n (pc := 1) C dX8_describeMember_1 rfl 0 rfl ?_
  refine s_iload_n (pc := 2) C dX8_describeMember_2 rfl 1 rfl ?_
  refine s_callv (pc := 3) (nA := 1) (as := [vI p0]) (st := [vR 5 0 0]) (stk := [vI p0, vR 5 0 0, vR 5 0 0]) ckX8 (Or.inl rfl) C (fun l hl => ctX8_isMember l hl p0 _ _ H) ⟨⟨kw_1616, kw_69, kw_1619⟩, rfl, ⟨by decide, by decide, by decide +kernel⟩, by decide, by decide⟩ kw_1618 (g_selW kw_27) rfl (Nat.le_of_ble_eq_true rfl) ⟨by decide, by decide⟩ rfl dX8_describeMember_3 (g_Kq_I (fun u2 h1 H => ?_) (fun E h1 H => s_prop rfl ⟨by decide, by decide⟩ H C))
  refine s_if_eq (pc := 6) (tgt := 13) C dX8_describeMember_6 (by decide) (fun c => ?_) (fun c => ?_)
  · have H := H.1 c
    refine s_iconst (pc := 13) C dX8_describeMember_13 (x := (1 : Int32)) (by decide) ?_
    exact s_sub (ls' := [(0, vR 5 0 0), (1, vI p0)]) [0, 1] rfl (vX8_describeMember_b14 C p0 (1 : Int32) h1 H)
  · have H := H.2 c
    refine s_iconst (pc := 9) C dX8_describeMember_9 (x := (0 : Int32)) (by decide) ?_
    refine s_goto (pc := 10) (tgt := 14) C dX8_describeMember_10 (by decide) ?_
    exact s_sub (ls' := [(0, vR 5 0 0), (1, vI p0)]) [0, 1] rfl (vX8_describeMember_b14 C p0 (0 : Int32) h1 H)
theorem ctX8_describeMember (l : Launch) (hl : l.stackTraces = false) {G : g_G} (p0 : Int32) (h : g_Hp) (Q : g_R → g_Hp → Prop) (H : wX8_describeMember p0 h Q) : g_Met l y_ G iX8_describeMember [vR 5 0 0, vI p0] h Q :=
  g_Met_of hl (by decide +kernel) rfl rfl (Nat.le_of_ble_eq_true rfl) (fun X C => vX8_describeMember C p0 h H)
/-! X8_lineAt -/
abbrev iX8_lineAt : g_I := (RX8, yX8_lineAt, cX8_lineAt, 2, (some .char), [], { frames := 2, cells := 0, slots := 0, locals := 42 })
set_option maxRecDepth 100000 in
set_option maxHeartbeats 4000000 in
theorem vX8_lineAt_b42 {G : g_G} {X : g_X} {Q : g_R → g_Hp → Prop} (C : g_Cx y_ G X iX8_lineAt) (z0 : Int32) (h : g_Hp) (H : wX8_lineAt_b42 Q z0 h) : g_V G X iX8_lineAt 0 0 Q 42 0 0 [] [vI z0] h := by
  exact s_iret (pc := 42) rfl H.1 ⟨by decide, by decide⟩ H.2 C dX8_lineAt_42
set_option maxRecDepth 100000 in
set_option maxHeartbeats 4000000 in
theorem vX8_lineAt_b20 {G : g_G} {X : g_X} {Q : g_R → g_Hp → Prop} (C : g_Cx y_ G X iX8_lineAt) (x1 : Int32) (z0 : Int32) (h : g_Hp) (H : wX8_lineAt_b20 Q x1 z0 h) : g_V G X iX8_lineAt 0 0 Q 20 0 0 [(0, vR 5 0 0), (1, vI x1)] [vI z0, vR 5 0 0] h := by
  refine s_puti (pc := 20) (s := 0) ckX8 (Or.inl rfl) (by decide) kw_1505 (fun _ => rfl) rfl rfl rfl C dX8_lineAt_20 ?_
  refine s_name (fun h1 eh1 => ?_)
  have H := H h1 eh1
  refine s_aload_n (pc := 23) C dX8_lineAt_23 rfl 0 rfl ?_
  refine s_geti (pc := 24) (s := 0) ckX8 (Or.inl rfl) (by decide) kw_1505 (fun _ => rfl) C dX8_lineAt_24 ?_
  refine s_if_ne (pc := 27) (tgt := 40) C dX8_lineAt_27 (by decide) (fun c => ?_) (fun c => ?_)
  · have H := H.1 c
    refine s_bipush (pc := 40) C dX8_lineAt_40 (x := (97 : Int32)) (by decide) ?_
    exact s_sub (ls' := []) [] rfl (vX8_lineAt_b42 C (97 : Int32) h1 H)
  · have H := H.2 c
    refine s_aload_n (pc := 30) C dX8_lineAt_30 rfl 0 rfl ?_
    refine s_getr (pc := 31) (s := 10) (a := 13) (b := 5) (c' := 0) ckX8 (by decide) kw_1515 rfl C dX8_lineAt_31 ?_
    refine s_iload_n (pc := 34) C dX8_lineAt_34 rfl 1 rfl ?_
    refine s_iald (pc := 35) H.1 C dX8_lineAt_35 ?_
    have H := H.2
    refine s_i2c (pc := 36) C dX8_lineAt_36 ?_
    refine s_goto (pc := 37) (tgt := 42) C dX8_lineAt_37 (by decide) ?_
    exact s_sub (ls' := []) [] rfl (vX8_lineAt_b42 C (((h1 13 5 0 (x1.toNatClampNeg + 1)).toUInt32 % 65536).toInt32) h1 H)
set_option maxRecDepth 100000 in
set_option maxHeartbeats 4000000 in
theorem vX8_lineAt {G : g_G} {X : g_X} {Q : g_R → g_Hp → Prop} (C : g_Cx y_ G X iX8_lineAt) (p0 : Int32) (h : g_Hp) (H : wX8_lineAt p0 h Q) : g_V G X iX8_lineAt 0 0 Q 0 0 0 [(0, vR 5 0 0), (1, vI p0)] [] h := by
  refine s_aload_n (pc := 0) C dX8_lineAt_0 rfl 0 rfl ?_
  refine s_iload_n (pc := 1) C dX8_lineAt_1 rfl 1 rfl ?_
  refine s_iconst (pc := 2) C dX8_lineAt_2 (x := (0 : Int32)) (by decide) ?_
  refine s_aload_n (pc := 3) C dX8_lineAt_3 rfl 0 rfl ?_
  refine s_geti (pc := 4) (s := 17) ckX8 (Or.inl rfl) (by decide) kw_1522 (fun _ => rfl) C dX8_lineAt_4 ?_
  refine s_iconst (pc := 7) C dX8_lineAt_7 (x := (1 : Int32)) (by decide) ?_
  refine s_isub (pc := 8) C dX8_lineAt_8 ?_
  refine s_calls (pc := 9) (nA := 3) (as := [vI p0, vI (0 : Int32), vI ((h 5 0 0 18) - (1 : Int32))]) (st := [vR 5 0 0]) (stk := [vI ((h 5 0 0 18) - (1 : Int32)), vI (0 : Int32), vI p0, vR 5 0 0]) C (fun l hl => ctX8_isIn l hl p0 (0 : Int32) ((h 5 0 0 18) - (1 : Int32)) _ _ H) ⟨⟨kw_1589, kw_69, kw_1591⟩, rfl, ⟨by decide, by decide, by decide +kernel⟩, by decide, by decide⟩ kw_1590 rfl (Nat.le_of_ble_eq_true rfl) ⟨by decide, by decide⟩ rfl dX8_lineAt_9 (g_Kq_I (fun u2 h1 H => ?_) (fun E h1 H => s_prop rfl ⟨by decide, by decide⟩ H C))
  refine s_if_eq (pc := 12) (tgt := 19) C dX8_lineAt_12 (by decide) (fun c => ?_) (fun c => ?_)
  · have H := H.1 c
    refine s_iconst (pc := 19) C dX8_lineAt_19 (x := (1 : Int32)) (by decide) ?_
    exact s_sub (ls' := [(0, vR 5 0 0), (1, vI p0)]) [0, 1] rfl (vX8_lineAt_b20 C p0 (1 : Int32) h1 H)
  · have H := H.2 c
    refine s_iconst (pc := 15) C dX8_lineAt_15 (x := (0 : Int32)) (by decide) ?_
    refine s_goto (pc := 16) (tgt := 20) C dX8_lineAt_16 (by decide) ?_
    exact s_sub (ls' := [(0, vR 5 0 0), (1, vI p0)]) [0, 1] rfl (vX8_lineAt_b20 C p0 (0 : Int32) h1 H)
theorem ctX8_lineAt (l : Launch) (hl : l.stackTraces = false) {G : g_G} (p0 : Int32) (h : g_Hp) (Q : g_R → g_Hp → Prop) (H : wX8_lineAt p0 h Q) : g_Met l y_ G iX8_lineAt [vR 5 0 0, vI p0] h Q :=
  g_Met_of hl (by decide +kernel) rfl rfl (Nat.le_of_ble_eq_true rfl) (fun X C => vX8_lineAt C p0 h H)
