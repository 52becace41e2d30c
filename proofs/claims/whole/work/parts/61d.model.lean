/-! X8_guards -/
abbrev iX8_guards : g_I := (RX8, yX8_guards, cX8_guards, 6, none, [], { frames := 2, cells := 0, slots := 0, locals := 41 })
set_option maxRecDepth 100000 in
set_option maxHeartbeats 4000000 in
theorem vX8_guards_b51_B {G : g_G} {X : g_X} {Q : g_R → g_Hp → Prop} (C : g_Cx y_ G X iX8_guards) (R12 : Int32 → Int32 → Int32 → g_Hp → Prop) (hR12 : ∀ (x1 : Int32) (x2 : Int32) (x3 : Int32) (h : g_Hp), R12 x1 x2 x3 h → g_V G X iX8_guards 0 0 Q 12 0 0 [(0, vR 5 0 0), (1, vI x1), (2, vI x2), (3, vI x3)] [] h) (R51 : Int32 → Int32 → Int32 → Int32 → Int32 → g_Hp → Prop) (hR51 : ∀ (x1 : Int32) (x2 : Int32) (x3 : Int32) (x4 : Int32) (x5 : Int32) (h : g_Hp), R51 x1 x2 x3 x4 x5 h → g_V G X iX8_guards 0 0 Q 51 0 0 [(0, vR 5 0 0), (1, vI x1), (2, vI x2), (3, vI x3), (4, vI x4), (5, vI x5)] [] h) (x1 : Int32) (x2 : Int32) (x3 : Int32) (x4 : Int32) (x5 : Int32) (h : g_Hp) (H : wX8_guards_b51_B Q R12 R51 x1 x2 x3 x4 x5 h) : g_V G X iX8_guards 0 0 Q 51 0 0 [(0, vR 5 0 0), (1, vI x1), (2, vI x2), (3, vI x3), (4, vI x4), (5, vI x5)] [] h := by
  refine s_iload (pc := 51) C dX8_guards_51 5 rfl ?_
  refine s_iload_n (pc := 53) C dX8_guards_53 rfl 2 rfl ?_
  refine s_icmp_ge (pc := 54) (tgt := 87) C dX8_guards_54 (by decide) (fun c => ?_) (fun c => ?_)
  · have H := H.1 c
    refine s_aload_n (pc := 87) C dX8_guards_87 rfl 0 rfl ?_
    refine s_getr (pc := 88) (s := 5) (a := 13) (b := 0) (c' := 0) ckX8 (by decide) kw_1510 rfl C dX8_guards_88 ?_
    refine s_iload_n (pc := 91) C dX8_guards_91 rfl 1 rfl ?_
    refine s_iload_n (pc := 92) C dX8_guards_92 rfl 2 rfl ?_
    refine s_iconst (pc := 93) C dX8_guards_93 (x := (1 : Int32)) (by decide) ?_
    refine s_isub (pc := 94) C dX8_guards_94 ?_
    refine s_calls (pc := 95) (nA := 2) (as := [vI x1, vI (x2 - (1 : Int32))]) (st := [vR 13 0 0]) (stk := [vI (x2 - (1 : Int32)), vI x1, vR 13 0 0]) C (fun l hl => ctX8_listed l hl x1 (x2 - (1 : Int32)) _ _ H) ⟨⟨kw_1701, kw_69, kw_1703⟩, rfl, ⟨by decide, by decide, by decide +kernel⟩, by decide, by decide⟩ kw_1702 rfl (Nat.le_of_ble_eq_true rfl) ⟨by decide, by decide⟩ rfl dX8_guards_95 (g_Kq_I (fun u2 h1 H => ?_) (fun E h1 H => s_prop rfl ⟨by decide, by decide⟩ H C))
    refine s_iload (pc := 98) C dX8_guards_98 4 rfl ?_
    refine s_iast (pc := 100) H.1 C dX8_guards_100 ?_
    have H := H.2
    refine s_name (fun h3 eh3 => ?_)
    have H := H h3 eh3
    refine s_iincN (pc := 101) C dX8_guards_101 3 rfl (z' := (1 : Int32)) (by decide) (by decide) (fun y4 ey4 => ?_)
    have H := H y4 ey4
    show g_V _ _ _ _ _ _ _ _ _ [(3, vI y4), (0, vR 5 0 0), (1, vI x1), (2, vI x2), (4, vI x4), (5, vI x5)] _ _
    refine s_goto (pc := 104) (tgt := 12) C dX8_guards_104 (by decide) ?_
    exact s_sub (ls' := [(0, vR 5 0 0), (1, vI x1), (2, vI x2), (3, vI y4)]) [1, 2, 3, 0] rfl (hR12 x1 x2 y4 h3 H)
  · have H := H.2 c
    refine s_aload_n (pc := 57) C dX8_guards_57 rfl 0 rfl ?_
    refine s_getr (pc := 58) (s := 5) (a := 13) (b := 0) (c' := 0) ckX8 (by decide) kw_1510 rfl C dX8_guards_58 ?_
    refine s_iload_n (pc := 61) C dX8_guards_61 rfl 1 rfl ?_
    refine s_iload (pc := 62) C dX8_guards_62 5 rfl ?_
    refine s_iconst (pc := 64) C dX8_guards_64 (x := (1 : Int32)) (by decide) ?_
    refine s_isub (pc := 65) C dX8_guards_65 ?_
    refine s_calls (pc := 66) (nA := 2) (as := [vI x1, vI (x5 - (1 : Int32))]) (st := [vR 13 0 0]) (stk := [vI (x5 - (1 : Int32)), vI x1, vR 13 0 0]) C (fun l hl => ctX8_listed l hl x1 (x5 - (1 : Int32)) _ _ H) ⟨⟨kw_1701, kw_69, kw_1703⟩, rfl, ⟨by decide, by decide, by decide +kernel⟩, by decide, by decide⟩ kw_1702 rfl (Nat.le_of_ble_eq_true rfl) ⟨by decide, by decide⟩ rfl dX8_guards_66 (g_Kq_I (fun u6 h5 H => ?_) (fun E h5 H => s_prop rfl ⟨by decide, by decide⟩ H C))
    refine s_aload_n (pc := 69) C dX8_guards_69 rfl 0 rfl ?_
    refine s_getr (pc := 70) (s := 5) (a := 13) (b := 0) (c' := 0) ckX8 (by decide) kw_1510 rfl C dX8_guards_70 ?_
    refine s_iload_n (pc := 73) C dX8_guards_73 rfl 1 rfl ?_
    refine s_iload (pc := 74) C dX8_guards_74 5 rfl ?_
    refine s_calls (pc := 76) (nA := 2) (as := [vI x1, vI x5]) (st := [vR 13 0 0, vI u6, vR 13 0 0]) (stk := [vI x5, vI x1, vR 13 0 0, vI u6, vR 13 0 0]) C (fun l hl => ctX8_listed l hl x1 x5 _ _ H) ⟨⟨kw_1701, kw_69, kw_1703⟩, rfl, ⟨by decide, by decide, by decide +kernel⟩, by decide, by decide⟩ kw_1702 rfl (Nat.le_of_ble_eq_true rfl) ⟨by decide, by decide⟩ rfl dX8_guards_76 (g_Kq_I (fun u8 h7 H => ?_) (fun E h7 H => s_prop rfl ⟨by decide, by decide⟩ H C))
    refine s_iald (pc := 79) H.1 C dX8_guards_79 ?_
    have H := H.2
    refine s_iast (pc := 80) H.1 C dX8_guards_80 ?_
    have H := H.2
    refine s_name (fun h9 eh9 => ?_)
    have H := H h9 eh9
    refine s_iincN (pc := 81) C dX8_guards_81 5 rfl (z' := (1 : Int32)) (by decide) (by decide) (fun y10 ey10 => ?_)
    have H := H y10 ey10
    show g_V _ _ _ _ _ _ _ _ _ [(5, vI y10), (0, vR 5 0 0), (1, vI x1), (2, vI x2), (3, vI x3), (4, vI x4)] _ _
    refine s_goto (pc := 84) (tgt := 51) C dX8_guards_84 (by decide) ?_
    exact s_sub (ls' := [(0, vR 5 0 0), (1, vI x1), (2, vI x2), (3, vI x3), (4, vI x4), (5, vI y10)]) [1, 2, 3, 4, 5, 0] rfl (hR51 x1 x2 x3 x4 y10 h9 H)
theorem vX8_guards_b51 {G : g_G} {X : g_X} {Q : g_R → g_Hp → Prop} (C : g_Cx y_ G X iX8_guards) (R12 : Int32 → Int32 → Int32 → g_Hp → Prop) (hR12 : ∀ (x1 : Int32) (x2 : Int32) (x3 : Int32) (h : g_Hp), R12 x1 x2 x3 h → g_V G X iX8_guards 0 0 Q 12 0 0 [(0, vR 5 0 0), (1, vI x1), (2, vI x2), (3, vI x3)] [] h) (x1 : Int32) (x2 : Int32) (x3 : Int32) (x4 : Int32) (x5 : Int32) (h : g_Hp) (H : wX8_guards_b51 Q R12 x1 x2 x3 x4 x5 h) : g_V G X iX8_guards 0 0 Q 51 0 0 [(0, vR 5 0 0), (1, vI x1), (2, vI x2), (3, vI x3), (4, vI x4), (5, vI x5)] [] h := by
  obtain ⟨n, H⟩ := H
  induction n generalizing x1 x2 x3 x4 x5 h with
  | zero => exact H.elim
  | succ n ih => exact vX8_guards_b51_B C R12 hR12 _ (fun x1 x2 x3 x4 x5 h H => ih x1 x2 x3 x4 x5 h H) x1 x2 x3 x4 x5 h H
set_option maxRecDepth 100000 in
set_option maxHeartbeats 4000000 in
theorem vX8_guards_b107 {G : g_G} {X : g_X} {Q : g_R → g_Hp → Prop} (C : g_Cx y_ G X iX8_guards) (h : g_Hp) (H : wX8_guards_b107 Q h) : g_V G X iX8_guards 0 0 Q 107 0 0 [] [] h := by
  exact s_vret (pc := 107) rfl ⟨by decide, by decide⟩ H C dX8_guards_107
set_option maxRecDepth 100000 in
set_option maxHeartbeats 4000000 in
theorem vX8_guards_b12_B {G : g_G} {X : g_X} {Q : g_R → g_Hp → Prop} (C : g_Cx y_ G X iX8_guards) (R12 : Int32 → Int32 → Int32 → g_Hp → Prop) (hR12 : ∀ (x1 : Int32) (x2 : Int32) (x3 : Int32) (h : g_Hp), R12 x1 x2 x3 h → g_V G X iX8_guards 0 0 Q 12 0 0 [(0, vR 5 0 0), (1, vI x1), (2, vI x2), (3, vI x3)] [] h) (x1 : Int32) (x2 : Int32) (x3 : Int32) (h : g_Hp) (H : wX8_guards_b12_B Q R12 x1 x2 x3 h) : g_V G X iX8_guards 0 0 Q 12 0 0 [(0, vR 5 0 0), (1, vI x1), (2, vI x2), (3, vI x3)] [] h := by
  refine s_iload_n (pc := 12) C dX8_guards_12 rfl 3 rfl ?_
  refine s_iconst (pc := 13) C dX8_guards_13 (x := (2 : Int32)) (by decide) ?_
  refine s_icmp_ge (pc := 14) (tgt := 107) C dX8_guards_14 (by decide) (fun c => ?_) (fun c => ?_)
  · have H := H.1 c
    exact s_sub (ls' := []) [] rfl (vX8_guards_b107 C  h H)
  · have H := H.2 c
    refine s_iload_n (pc := 17) C dX8_guards_17 rfl 3 rfl ?_
    refine s_iload_n (pc := 18) C dX8_guards_18 rfl 2 rfl ?_
    refine s_icmp_ge (pc := 19) (tgt := 107) C dX8_guards_19 (by decide) (fun c => ?_) (fun c => ?_)
    · have H := H.1 c
      exact s_sub (ls' := []) [] rfl (vX8_guards_b107 C  h H)
    · have H := H.2 c
      refine s_aload_n (pc := 22) C dX8_guards_22 rfl 0 rfl ?_
      refine s_getr (pc := 23) (s := 5) (a := 13) (b := 0) (c' := 0) ckX8 (by decide) kw_1510 rfl C dX8_guards_23 ?_
      refine s_iload_n (pc := 26) C dX8_guards_26 rfl 1 rfl ?_
      refine s_iconst (pc := 27) C dX8_guards_27 (x := (0 : Int32)) (by decide) ?_
      refine s_calls (pc := 28) (nA := 2) (as := [vI x1, vI (0 : Int32)]) (st := [vR 13 0 0]) (stk := [vI (0 : Int32), vI x1, vR 13 0 0]) C (fun l hl => ctX8_listed l hl x1 (0 : Int32) _ _ H) ⟨⟨kw_1701, kw_69, kw_1703⟩, rfl, ⟨by decide, by decide, by decide +kernel⟩, by decide, by decide⟩ kw_1702 rfl (Nat.le_of_ble_eq_true rfl) ⟨by decide, by decide⟩ rfl dX8_guards_28 (g_Kq_I (fun u2 h1 H => ?_) (fun E h1 H => s_prop rfl ⟨by decide, by decide⟩ H C))
      refine s_iald (pc := 31) H.1 C dX8_guards_31 ?_
      have H := H.2
      refine s_namei (fun y3 ey3 => ?_)
      have H := H y3 ey3
      refine s_istore (pc := 32) (ls' := [(4, vI y3), (0, vR 5 0 0), (1, vI x1), (2, vI x2), (3, vI x3)]) C dX8_guards_32 (by decide) rfl ?_
      refine s_aload_n (pc := 34) C dX8_guards_34 rfl 1 rfl ?_
      refine s_getr (pc := 35) (s := 5) (a := 13) (b := 0) (c' := 0) ckX8 (by decide) kw_1510 rfl C dX8_guards_35 ?_
      refine s_bipush (pc := 38) C dX8_guards_38 (x := (83 : Int32)) (by decide) ?_
      refine s_iload (pc := 40) C dX8_guards_40 0 rfl ?_
      refine s_iadd (pc := 42) C dX8_guards_42 ?_
      refine s_dup2 (pc := 43) C dX8_guards_43 rfl rfl ?_
      refine s_iald (pc := 44) H.1 C dX8_guards_44 ?_
      have H := H.2
      refine s_iconst (pc := 45) C dX8_guards_45 (x := (1 : Int32)) (by decide) ?_
      refine s_iadd (pc := 46) C dX8_guards_46 ?_
      refine s_iast (pc := 47) H.1 C dX8_guards_47 ?_
      have H := H.2
      refine s_name (fun h4 eh4 => ?_)
      have H := H h4 eh4
      refine s_iconst (pc := 48) C dX8_guards_48 (x := (1 : Int32)) (by decide) ?_
      refine s_istore (pc := 49) (ls' := [(5, vI (1 : Int32)), (4, vI y3), (0, vR 5 0 0), (1, vI x1), (2, vI x2), (3, vI x3)]) C dX8_guards_49 (by decide) rfl ?_
      exact s_sub (ls' := [(0, vR 5 0 0), (1, vI x1), (2, vI x2), (3, vI x3), (4, vI y3), (5, vI (1 : Int32))]) [2, 3, 4, 5, 1, 0] rfl (vX8_guards_b51 C R12 hR12 x1 x2 x3 y3 (1 : Int32) h4 H)
theorem vX8_guards_b12 {G : g_G} {X : g_X} {Q : g_R → g_Hp → Prop} (C : g_Cx y_ G X iX8_guards) (x1 : Int32) (x2 : Int32) (x3 : Int32) (h : g_Hp) (H : wX8_guards_b12 Q x1 x2 x3 h) : g_V G X iX8_guards 0 0 Q 12 0 0 [(0, vR 5 0 0), (1, vI x1), (2, vI x2), (3, vI x3)] [] h := by
  obtain ⟨n, H⟩ := H
  induction n generalizing x1 x2 x3 h with
  | zero => exact H.elim
  | succ n ih => exact vX8_guards_b12_B C _ (fun x1 x2 x3 h H => ih x1 x2 x3 h H) x1 x2 x3 h H
set_option maxRecDepth 100000 in
set_option maxHeartbeats 4000000 in
theorem vX8_guards {G : g_G} {X : g_X} {Q : g_R → g_Hp → Prop} (C : g_Cx y_ G X iX8_guards) (p0 : Int32) (h : g_Hp) (H : wX8_guards p0 h Q) : g_V G X iX8_guards 0 0 Q 0 0 0 [(0, vR 5 0 0), (1, vI p0)] [] h := by
  refine s_aload_n (pc := 0) C dX8_guards_0 rfl 0 rfl ?_
  refine s_getr (pc := 1) (s := 5) (a := 13) (b := 0) (c' := 0) ckX8 (by decide) kw_1510 rfl C dX8_guards_1 ?_
  refine s_bipush (pc := 4) C dX8_guards_4 (x := (119 : Int32)) (by decide) ?_
  refine s_iload_n (pc := 6) C dX8_guards_6 rfl 1 rfl ?_
  refine s_iadd (pc := 7) C dX8_guards_7 ?_
  refine s_iald (pc := 8) H.1 C dX8_guards_8 ?_
  have H := H.2
  refine s_namei (fun y1 ey1 => ?_)
  have H := H y1 ey1
  refine s_istore_n (pc := 9) (ls' := [(2, vI y1), (0, vR 5 0 0), (1, vI p0)]) C dX8_guards_9 rfl (by decide) rfl ?_
  refine s_iconst (pc := 10) C dX8_guards_10 (x := (0 : Int32)) (by decide) ?_
  refine s_istore_n (pc := 11) (ls' := [(3, vI (0 : Int32)), (2, vI y1), (0, vR 5 0 0), (1, vI p0)]) C dX8_guards_11 rfl (by decide) rfl ?_
  exact s_sub (ls' := [(0, vR 5 0 0), (1, vI p0), (2, vI y1), (3, vI (0 : Int32))]) [2, 3, 1, 0] rfl (vX8_guards_b12 C p0 y1 (0 : Int32) h H)
theorem ctX8_guards (l : Launch) (hl : l.stackTraces = false) {G : g_G} (p0 : Int32) (h : g_Hp) (Q : g_R → g_Hp → Prop) (H : wX8_guards p0 h Q) : g_Met l y_ G iX8_guards [vR 5 0 0, vI p0] h Q :=
  g_Met_of hl (by decide +kernel) rfl rfl (Nat.le_of_ble_eq_true rfl) (fun X C => vX8_guards C p0 h H)
/-! X8_strikes -/
abbrev iX8_strikes : g_I := (RX8, yX8_strikes, cX8_strikes, 2, none, [], { frames := 3, cells := 0, slots := 0, locals := 66 })
set_option maxRecDepth 100000 in
set_option maxHeartbeats 4000000 in
theorem vX8_strikes_b74 {G : g_G} {X : g_X} {Q : g_R → g_Hp → Prop} (C : g_Cx y_ G X iX8_strikes) (R13 : Int32 → g_Hp → Prop) (hR13 : ∀ (x1 : Int32) (h : g_Hp), R13 x1 h → g_V G X iX8_strikes 0 0 Q 13 0 0 [(0, vR 5 0 0), (1, vI x1)] [] h) (x1 : Int32) (h : g_Hp) (H : wX8_strikes_b74 Q R13 x1 h) : g_V G X iX8_strikes 0 0 Q 74 0 0 [(0, vR 5 0 0), (1, vI x1)] [] h := by
  refine s_iincN (pc := 74) C dX8_strikes_74 1 rfl (z' := (1 : Int32)) (by decide) (by decide) (fun y1 ey1 => ?_)
  have H := H y1 ey1
  show g_V _ _ _ _ _ _ _ _ _ [(1, vI y1), (0, vR 5 0 0)] _ _
  refine s_goto (pc := 77) (tgt := 13) C dX8_strikes_77 (by decide) ?_
  exact s_sub (ls' := [(0, vR 5 0 0), (1, vI y1)]) [1, 0] rfl (hR13 y1 h H)
set_option maxRecDepth 100000 in
set_option maxHeartbeats 4000000 in
theorem vX8_strikes_b82_B {G : g_G} {X : g_X} {Q : g_R → g_Hp → Prop} (C : g_Cx y_ G X iX8_strikes) (R82 : Int32 → g_Hp → Prop) (hR82 : ∀ (x1 : Int32) (h : g_Hp), R82 x1 h → g_V G X iX8_strikes 0 0 Q 82 0 0 [(0, vR 5 0 0), (1, vI x1)] [] h) (x1 : Int32) (h : g_Hp) (H : wX8_strikes_b82_B Q R82 x1 h) : g_V G X iX8_strikes 0 0 Q 82 0 0 [(0, vR 5 0 0), (1, vI x1)] [] h := by
  refine s_iload_n (pc := 82) C dX8_strikes_82 rfl 1 rfl ?_
  refine s_bipush (pc := 83) C dX8_strikes_83 (x := (10 : Int32)) (by decide) ?_
  refine s_icmp_ge (pc := 85) (tgt := 99) C dX8_strikes_85 (by decide) (fun c => ?_) (fun c => ?_)
  · have H := H.1 c
    exact s_vret (pc := 99) rfl ⟨by decide, by decide⟩ H C dX8_strikes_99
  · have H := H.2 c
    refine s_aload_n (pc := 88) C dX8_strikes_88 rfl 0 rfl ?_
    refine s_iload_n (pc := 89) C dX8_strikes_89 rfl 1 rfl ?_
    refine s_callv (pc := 90) (nA := 1) (as := [vI x1]) (st := []) (stk := [vI x1, vR 5 0 0]) ckX8 (Or.inl rfl) C (fun l hl => ctX8_guards l hl x1 _ _ H) ⟨⟨kw_1697, kw_69, kw_1700⟩, rfl, ⟨by decide, by decide, by decide +kernel⟩, by decide, by decide⟩ kw_1699 (g_selW kw_31) rfl (Nat.le_of_ble_eq_true rfl) ⟨by decide, by decide⟩ rfl dX8_strikes_90 (g_Kq_V (fun h1 H => ?_) (fun E h1 H => s_prop rfl ⟨by decide, by decide⟩ H C))
    refine s_iincN (pc := 93) C dX8_strikes_93 1 rfl (z' := (1 : Int32)) (by decide) (by decide) (fun y2 ey2 => ?_)
    have H := H y2 ey2
    show g_V _ _ _ _ _ _ _ _ _ [(1, vI y2), (0, vR 5 0 0)] _ _
    refine s_goto (pc := 96) (tgt := 82) C dX8_strikes_96 (by decide) ?_
    exact s_sub (ls' := [(0, vR 5 0 0), (1, vI y2)]) [1, 0] rfl (hR82 y2 h1 H)
theorem vX8_strikes_b82 {G : g_G} {X : g_X} {Q : g_R → g_Hp → Prop} (C : g_Cx y_ G X iX8_strikes) (x1 : Int32) (h : g_Hp) (H : wX8_strikes_b82 Q x1 h) : g_V G X iX8_strikes 0 0 Q 82 0 0 [(0, vR 5 0 0), (1, vI x1)] [] h := by
  obtain ⟨n, H⟩ := H
  induction n generalizing x1 h with
  | zero => exact H.elim
  | succ n ih => exact vX8_strikes_b82_B C _ (fun x1 h H => ih x1 h H) x1 h H
set_option maxRecDepth 100000 in
set_option maxHeartbeats 4000000 in
theorem vX8_strikes_b13_B {G : g_G} {X : g_X} {Q : g_R → g_Hp → Prop} (C : g_Cx y_ G X iX8_strikes) (R13 : Int32 → g_Hp → Prop) (hR13 : ∀ (x1 : Int32) (h : g_Hp), R13 x1 h → g_V G X iX8_strikes 0 0 Q 13 0 0 [(0, vR 5 0 0), (1, vI x1)] [] h) (x1 : Int32) (h : g_Hp) (H : wX8_strikes_b13_B Q R13 x1 h) : g_V G X iX8_strikes 0 0 Q 13 0 0 [(0, vR 5 0 0), (1, vI x1)] [] h := by
  refine s_iload_n (pc := 13) C dX8_strikes_13 rfl 1 rfl ?_
  refine s_aload_n (pc := 14) C dX8_strikes_14 rfl 0 rfl ?_
  refine s_getr (pc := 15) (s := 5) (a := 13) (b := 0) (c' := 0) ckX8 (by decide) kw_1510 rfl C dX8_strikes_15 ?_
  refine s_iconst (pc := 18) C dX8_strikes_18 (x := (0 : Int32)) (by decide) ?_
  refine s_iald (pc := 19) (show ¬ ((0 : Int32) < 0 ∨ 169 ≤ (0 : Int32).toNatClampNeg) by decide) C dX8_strikes_19 ?_
  refine s_icmp_ge (pc := 20) (tgt := 80) C dX8_strikes_20 (by decide) (fun c => ?_) (fun c => ?_)
  · have H := H.1 c
    refine s_iconst (pc := 80) C dX8_strikes_80 (x := (0 : Int32)) (by decide) ?_
    refine s_istore_n (pc := 81) (ls' := [(1, vI (0 : Int32)), (0, vR 5 0 0)]) C dX8_strikes_81 rfl (by decide) rfl ?_
    exact s_sub (ls' := [(0, vR 5 0 0), (1, vI (0 : Int32))]) [1, 0] rfl (vX8_strikes_b82 C (0 : Int32) h H)
  · have H := H.2 c
    refine s_aload_n (pc := 23) C dX8_strikes_23 rfl 0 rfl ?_
    refine s_getr (pc := 24) (s := 5) (a := 13) (b := 0) (c' := 0) ckX8 (by decide) kw_1510 rfl C dX8_strikes_24 ?_
    refine s_bipush (pc := 27) C dX8_strikes_27 (x := (71 : Int32)) (by decide) ?_
    refine s_iload_n (pc := 29) C dX8_strikes_29 rfl 1 rfl ?_
    refine s_iadd (pc := 30) C dX8_strikes_30 ?_
    refine s_dup2 (pc := 31) C dX8_strikes_31 rfl rfl ?_
    refine s_iald (pc := 32) H.1 C dX8_strikes_32 ?_
    have H := H.2
    refine s_iconst (pc := 33) C dX8_strikes_33 (x := (1 : Int32)) (by decide) ?_
    refine s_iadd (pc := 34) C dX8_strikes_34 ?_
    refine s_iast (pc := 35) H.1 C dX8_strikes_35 ?_
    have H := H.2
    refine s_name (fun h1 eh1 => ?_)
    have H := H h1 eh1
    refine s_aload_n (pc := 36) C dX8_strikes_36 rfl 0 rfl ?_
    refine s_getr (pc := 37) (s := 5) (a := 13) (b := 0) (c' := 0) ckX8 (by decide) kw_1510 rfl C dX8_strikes_37 ?_
    refine s_bipush (pc := 40) C dX8_strikes_40 (x := (7 : Int32)) (by decide) ?_
    refine s_iald (pc := 42) (show ¬ ((7 : Int32) < 0 ∨ 169 ≤ (7 : Int32).toNatClampNeg) by decide) C dX8_strikes_42 ?_
    refine s_iconst (pc := 43) C dX8_strikes_43 (x := (2 : Int32)) (by decide) ?_
    refine s_icmp_ge (pc := 44) (tgt := 50) C dX8_strikes_44 (by decide) (fun c => ?_) (fun c => ?_)
    · have H := H.1 c
      refine s_aload_n (pc := 50) C dX8_strikes_50 rfl 0 rfl ?_
      refine s_getr (pc := 51) (s := 5) (a := 13) (b := 0) (c' := 0) ckX8 (by decide) kw_1510 rfl C dX8_strikes_51 ?_
      refine s_bipush (pc := 54) C dX8_strikes_54 (x := (7 : Int32)) (by decide) ?_
      refine s_dup2 (pc := 56) C dX8_strikes_56 rfl rfl ?_
      refine s_iald (pc := 57) (show ¬ ((7 : Int32) < 0 ∨ 169 ≤ (7 : Int32).toNatClampNeg) by decide) C dX8_strikes_57 ?_
      refine s_iconst (pc := 58) C dX8_strikes_58 (x := (2 : Int32)) (by decide) ?_
      refine s_isub (pc := 59) C dX8_strikes_59 ?_
      refine s_iast (pc := 60) (show ¬ ((7 : Int32) < 0 ∨ 169 ≤ (7 : Int32).toNatClampNeg) by decide) C dX8_strikes_60 ?_
      refine s_name (fun h2 eh2 => ?_)
      have H := H h2 eh2
      refine s_aload_n (pc := 61) C dX8_strikes_61 rfl 0 rfl ?_
      refine s_getr (pc := 62) (s := 5) (a := 13) (b := 0) (c' := 0) ckX8 (by decide) kw_1510 rfl C dX8_strikes_62 ?_
      refine s_bipush (pc := 65) C dX8_strikes_65 (x := (59 : Int32)) (by decide) ?_
      refine s_iload_n (pc := 67) C dX8_strikes_67 rfl 1 rfl ?_
      refine s_iadd (pc := 68) C dX8_strikes_68 ?_
      refine s_dup2 (pc := 69) C dX8_strikes_69 rfl rfl ?_
      refine s_iald (pc := 70) H.1 C dX8_strikes_70 ?_
      have H := H.2
      refine s_iconst (pc := 71) C dX8_strikes_71 (x := (2 : Int32)) (by decide) ?_
      refine s_iadd (pc := 72) C dX8_strikes_72 ?_
      refine s_iast (pc := 73) H.1 C dX8_strikes_73 ?_
      have H := H.2
      refine s_name (fun h3 eh3 => ?_)
      have H := H h3 eh3
      exact s_sub (ls' := [(0, vR 5 0 0), (1, vI x1)]) [0, 1] rfl (vX8_strikes_b74 C R13 hR13 x1 h3 H)
    · have H := H.2 c
      refine s_goto (pc := 47) (tgt := 74) C dX8_strikes_47 (by decide) ?_
      exact s_sub (ls' := [(0, vR 5 0 0), (1, vI x1)]) [0, 1] rfl (vX8_strikes_b74 C R13 hR13 x1 h1 H)
theorem vX8_strikes_b13 {G : g_G} {X : g_X} {Q : g_R → g_Hp → Prop} (C : g_Cx y_ G X iX8_strikes) (x1 : Int32) (h : g_Hp) (H : wX8_strikes_b13 Q x1 h) : g_V G X iX8_strikes 0 0 Q 13 0 0 [(0, vR 5 0 0), (1, vI x1)] [] h := by
  obtain ⟨n, H⟩ := H
  induction n generalizing x1 h with
  | zero => exact H.elim
  | succ n ih => exact vX8_strikes_b13_B C _ (fun x1 h H => ih x1 h H) x1 h H
set_option maxRecDepth 100000 in
set_option maxHeartbeats 4000000 in
theorem vX8_strikes {G : g_G} {X : g_X} {Q : g_R → g_Hp → Prop} (C : g_Cx y_ G X iX8_strikes) (h : g_Hp) (H : wX8_strikes h Q) : g_V G X iX8_strikes 0 0 Q 0 0 0 [(0, vR 5 0 0)] [] h := by
  refine s_aload_n (pc := 0) C dX8_strikes_0 rfl 0 rfl ?_
  refine s_getr (pc := 1) (s := 5) (a := 13) (b := 0) (c' := 0) ckX8 (by decide) kw_1510 rfl C dX8_strikes_1 ?_
  refine s_bipush (pc := 4) C dX8_strikes_4 (x := (6 : Int32)) (by decide) ?_
  refine s_dup2 (pc := 6) C dX8_strikes_6 rfl rfl ?_
  refine s_iald (pc := 7) (show ¬ ((6 : Int32) < 0 ∨ 169 ≤ (6 : Int32).toNatClampNeg) by decide) C dX8_strikes_7 ?_
  refine s_iconst (pc := 8) C dX8_strikes_8 (x := (1 : Int32)) (by decide) ?_
  refine s_iadd (pc := 9) C dX8_strikes_9 ?_
  refine s_iast (pc := 10) (show ¬ ((6 : Int32) < 0 ∨ 169 ≤ (6 : Int32).toNatClampNeg) by decide) C dX8_strikes_10 ?_
  refine s_name (fun h1 eh1 => ?_)
  have H := H h1 eh1
  refine s_iconst (pc := 11) C dX8_strikes_11 (x := (0 : Int32)) (by decide) ?_
  refine s_istore_n (pc := 12) (ls' := [(1, vI (0 : Int32)), (0, vR 5 0 0)]) C dX8_strikes_12 rfl (by decide) rfl ?_
  exact s_sub (ls' := [(0, vR 5 0 0), (1, vI (0 : Int32))]) [1, 0] rfl (vX8_strikes_b13 C (0 : Int32) h1 H)
theorem ctX8_strikes (l : Launch) (hl : l.stackTraces = false) {G : g_G} (h : g_Hp) (Q : g_R → g_Hp → Prop) (H : wX8_strikes h Q) : g_Met l y_ G iX8_strikes [vR 5 0 0] h Q :=
  g_Met_of hl (by decide +kernel) rfl rfl (Nat.le_of_ble_eq_true rfl) (fun X C => vX8_strikes C h H)
/-! X8_passes -/
abbrev iX8_passes : g_I := (RX8, yX8_passes, cX8_passes, 4, (some .int), [], { frames := 4, cells := 0, slots := 0, locals := 87 })
set_option maxRecDepth 100000 in
set_option maxHeartbeats 4000000 in
theorem vX8_passes_b62 {G : g_G} {X : g_X} {Q : g_R → g_Hp → Prop} (C : g_Cx y_ G X iX8_passes) (R26 : Int32 → Int32 → Int32 → g_Hp → Prop) (hR26 : ∀ (x1 : Int32) (x2 : Int32) (x3 : Int32) (h : g_Hp), R26 x1 x2 x3 h → g_V G X iX8_passes 0 0 Q 26 0 0 [(0, vR 5 0 0), (1, vI x1), (2, vI x2), (3, vI x3)] [] h) (x1 : Int32) (x2 : Int32) (x3 : Int32) (h : g_Hp) (H : wX8_passes_b62 Q R26 x1 x2 x3 h) : g_V G X iX8_passes 0 0 Q 62 0 0 [(0, vR 5 0 0), (1, vI x1), (2, vI x2), (3, vI x3)] [] h := by
  refine s_iincN (pc := 62) C dX8_passes_62 3 rfl (z' := (1 : Int32)) (by decide) (by decide) (fun y1 ey1 => ?_)
  have H := H y1 ey1
  show g_V _ _ _ _ _ _ _ _ _ [(3, vI y1), (0, vR 5 0 0), (1, vI x1), (2, vI x2)] _ _
  refine s_goto (pc := 65) (tgt := 26) C dX8_passes_65 (by decide) ?_
  exact s_sub (ls' := [(0, vR 5 0 0), (1, vI x1), (2, vI x2), (3, vI y1)]) [1, 2, 3, 0] rfl (hR26 x1 x2 y1 h H)
set_option maxRecDepth 100000 in
set_option maxHeartbeats 4000000 in
theorem vX8_passes_b26_B {G : g_G} {X : g_X} {Q : g_R → g_Hp → Prop} (C : g_Cx y_ G X iX8_passes) (R26 : Int32 → Int32 → Int32 → g_Hp → Prop) (hR26 : ∀ (x1 : Int32) (x2 : Int32) (x3 : Int32) (h : g_Hp), R26 x1 x2 x3 h → g_V G X iX8_passes 0 0 Q 26 0 0 [(0, vR 5 0 0), (1, vI x1), (2, vI x2), (3, vI x3)] [] h) (x1 : Int32) (x2 : Int32) (x3 : Int32) (h : g_Hp) (H : wX8_passes_b26_B Q R26 x1 x2 x3 h) : g_V G X iX8_passes 0 0 Q 26 0 0 [(0, vR 5 0 0), (1, vI x1), (2, vI x2), (3, vI x3)] [] h := by
  refine s_iload_n (pc := 26) C dX8_passes_26 rfl 3 rfl ?_
  refine s_iload_n (pc := 27) C dX8_passes_27 rfl 1 rfl ?_
  refine s_icmp_ge (pc := 28) (tgt := 68) C dX8_passes_28 (by decide) (fun c => ?_) (fun c => ?_)
  · have H := H.1 c
    refine s_aload_n (pc := 68) C dX8_passes_68 rfl 0 rfl ?_
    refine s_getr (pc := 69) (s := 5) (a := 13) (b := 0) (c' := 0) ckX8 (by decide) kw_1510 rfl C dX8_passes_69 ?_
    refine s_bipush (pc := 72) C dX8_passes_72 (x := (9 : Int32)) (by decide) ?_
    refine s_iald (pc := 74) (show ¬ ((9 : Int32) < 0 ∨ 169 ≤ (9 : Int32).toNatClampNeg) by decide) C dX8_passes_74 ?_
    refine s_iload_n (pc := 75) C dX8_passes_75 rfl 2 rfl ?_
    refine s_isub (pc := 76) C dX8_passes_76 ?_
    exact s_iret (pc := 77) rfl rfl ⟨by decide, by decide⟩ H C dX8_passes_77
  · have H := H.2 c
    refine s_aload_n (pc := 31) C dX8_passes_31 rfl 0 rfl ?_
    refine s_getr (pc := 32) (s := 5) (a := 13) (b := 0) (c' := 0) ckX8 (by decide) kw_1510 rfl C dX8_passes_32 ?_
    refine s_iconst (pc := 35) C dX8_passes_35 (x := (3 : Int32)) (by decide) ?_
    refine s_dup2 (pc := 36) C dX8_passes_36 rfl rfl ?_
    refine s_iald (pc := 37) (show ¬ ((3 : Int32) < 0 ∨ 169 ≤ (3 : Int32).toNatClampNeg) by decide) C dX8_passes_37 ?_
    refine s_iconst (pc := 38) C dX8_passes_38 (x := (1 : Int32)) (by decide) ?_
    refine s_iadd (pc := 39) C dX8_passes_39 ?_
    refine s_iast (pc := 40) (show ¬ ((3 : Int32) < 0 ∨ 169 ≤ (3 : Int32).toNatClampNeg) by decide) C dX8_passes_40 ?_
    refine s_name (fun h1 eh1 => ?_)
    have H := H h1 eh1
    refine s_aload_n (pc := 41) C dX8_passes_41 rfl 0 rfl ?_
    refine s_getr (pc := 42) (s := 5) (a := 13) (b := 0) (c' := 0) ckX8 (by decide) kw_1510 rfl C dX8_passes_42 ?_
    refine s_iconst (pc := 45) C dX8_passes_45 (x := (4 : Int32)) (by decide) ?_
    refine s_iald (pc := 46) (show ¬ ((4 : Int32) < 0 ∨ 169 ≤ (4 : Int32).toNatClampNeg) by decide) C dX8_passes_46 ?_
    refine s_iconst (pc := 47) C dX8_passes_47 (x := (1 : Int32)) (by decide) ?_
    refine s_icmp_ne (pc := 48) (tgt := 58) C dX8_passes_48 (by decide) (fun c => ?_) (fun c => ?_)
    · have H := H.1 c
      refine s_aload_n (pc := 58) C dX8_passes_58 rfl 0 rfl ?_
      refine s_callv (pc := 59) (nA := 0) (as := []) (st := []) (stk := [vR 5 0 0]) ckX8 (Or.inl rfl) C (fun l hl => ctX8_works l hl _ _ H) ⟨⟨kw_1704, kw_69, kw_1707⟩, rfl, ⟨by decide, by decide, by decide +kernel⟩, by decide, by decide⟩ kw_1706 (g_selW kw_32) rfl (Nat.le_of_ble_eq_true rfl) ⟨by decide, by decide⟩ rfl dX8_passes_59 (g_Kq_V (fun h2 H => ?_) (fun E h2 H => s_prop rfl ⟨by decide, by decide⟩ H C))
      exact s_sub (ls' := [(0, vR 5 0 0), (1, vI x1), (2, vI x2), (3, vI x3)]) [0, 1, 2, 3] rfl (vX8_passes_b62 C R26 hR26 x1 x2 x3 h2 H)
    · have H := H.2 c
      refine s_aload_n (pc := 51) C dX8_passes_51 rfl 0 rfl ?_
      refine s_callv (pc := 52) (nA := 0) (as := []) (st := []) (stk := [vR 5 0 0]) ckX8 (Or.inl rfl) C (fun l hl => ctX8_strikes l hl _ _ H) ⟨⟨kw_1693, kw_69, kw_1696⟩, rfl, ⟨by decide, by decide, by decide +kernel⟩, by decide, by decide⟩ kw_1695 (g_selW kw_30) rfl (Nat.le_of_ble_eq_true rfl) ⟨by decide, by decide⟩ rfl dX8_passes_52 (g_Kq_V (fun h3 H => ?_) (fun E h3 H => s_prop rfl ⟨by decide, by decide⟩ H C))
      refine s_goto (pc := 55) (tgt := 62) C dX8_passes_55 (by decide) ?_
      exact s_sub (ls' := [(0, vR 5 0 0), (1, vI x1), (2, vI x2), (3, vI x3)]) [0, 1, 2, 3] rfl (vX8_passes_b62 C R26 hR26 x1 x2 x3 h3 H)
theorem vX8_passes_b26 {G : g_G} {X : g_X} {Q : g_R → g_Hp → Prop} (C : g_Cx y_ G X iX8_passes) (x1 : Int32) (x2 : Int32) (x3 : Int32) (h : g_Hp) (H : wX8_passes_b26 Q x1 x2 x3 h) : g_V G X iX8_passes 0 0 Q 26 0 0 [(0, vR 5 0 0), (1, vI x1), (2, vI x2), (3, vI x3)] [] h := by
  obtain ⟨n, H⟩ := H
  induction n generalizing x1 x2 x3 h with
  | zero => exact H.elim
  | succ n ih => exact vX8_passes_b26_B C _ (fun x1 x2 x3 h H => ih x1 x2 x3 h H) x1 x2 x3 h H
set_option maxRecDepth 100000 in
set_option maxHeartbeats 4000000 in
theorem vX8_passes {G : g_G} {X : g_X} {Q : g_R → g_Hp → Prop} (C : g_Cx y_ G X iX8_passes) (p0 : Int32) (h : g_Hp) (H : wX8_passes p0 h Q) : g_V G X iX8_passes 0 0 Q 0 0 0 [(0, vR 5 0 0), (1, vI p0)] [] h := by
  refine s_iload_n (pc := 0) C dX8_passes_0 rfl 1 rfl ?_
  refine s_iconst (pc := 1) C dX8_passes_1 (x := (1 : Int32)) (by decide) ?_
  refine s_bipush (pc := 2) C dX8_passes_2 (x := (30 : Int32)) (by decide) ?_
  refine s_calls (pc := 4) (nA := 3) (as := [vI p0, vI (1 : Int32), vI (30 : Int32)]) (st := []) (stk := [vI (30 : Int32), vI (1 : Int32), vI p0]) C (fun l hl => ctX8_isIn l hl p0 (1 : Int32) (30 : Int32) _ _ H) ⟨⟨kw_1589, kw_69, kw_1591⟩, rfl, ⟨by decide, by decide, by decide +kernel⟩, by decide, by decide⟩ kw_1590 rfl (Nat.le_of_ble_eq_true rfl) ⟨by decide, by decide⟩ rfl dX8_passes_4 (g_Kq_I (fun u2 h1 H => ?_) (fun E h1 H => s_prop rfl ⟨by decide, by decide⟩ H C))
  refine s_if_ne (pc := 7) (tgt := 16) C dX8_passes_7 (by decide) (fun c => ?_) (fun c => ?_)
  · have H := H.1 c
    refine s_aload_n (pc := 16) C dX8_passes_16 rfl 0 rfl ?_
    refine s_getr (pc := 17) (s := 5) (a := 13) (b := 0) (c' := 0) ckX8 (by decide) kw_1510 rfl C dX8_passes_17 ?_
    refine s_bipush (pc := 20) C dX8_passes_20 (x := (9 : Int32)) (by decide) ?_
    refine s_iald (pc := 22) (show ¬ ((9 : Int32) < 0 ∨ 169 ≤ (9 : Int32).toNatClampNeg) by decide) C dX8_passes_22 ?_
    refine s_namei (fun y3 ey3 => ?_)
    have H := H y3 ey3
    refine s_istore_n (pc := 23) (ls' := [(2, vI y3), (0, vR 5 0 0), (1, vI p0)]) C dX8_passes_23 rfl (by decide) rfl ?_
    refine s_iconst (pc := 24) C dX8_passes_24 (x := (0 : Int32)) (by decide) ?_
    refine s_istore_n (pc := 25) (ls' := [(3, vI (0 : Int32)), (2, vI y3), (0, vR 5 0 0), (1, vI p0)]) C dX8_passes_25 rfl (by decide) rfl ?_
    exact s_sub (ls' := [(0, vR 5 0 0), (1, vI p0), (2, vI y3), (3, vI (0 : Int32))]) [2, 3, 1, 0] rfl (vX8_passes_b26 C p0 y3 (0 : Int32) h1 H)
  · have H := H.2 c
    refine s_aload_n (pc := 10) C dX8_passes_10 rfl 0 rfl ?_
    refine s_iconst (pc := 11) C dX8_passes_11 (x := (1 : Int32)) (by decide) ?_
    refine s_callv (pc := 12) (nA := 1) (as := [vI (1 : Int32)]) (st := []) (stk := [vI (1 : Int32), vR 5 0 0]) ckX8 (Or.inl rfl) C (fun l hl => ctX8_fail l hl (1 : Int32) _ _ H) ⟨⟨kw_1592, kw_69, kw_1595⟩, rfl, ⟨by decide, by decide, by decide +kernel⟩, by decide, by decide⟩ kw_1594 (g_selW kw_23) rfl (Nat.le_of_ble_eq_true rfl) ⟨by decide, by decide⟩ rfl dX8_passes_12 (g_Kq_I (fun u5 h4 H => ?_) (fun E h4 H => s_prop rfl ⟨by decide, by decide⟩ H C))
    exact s_iret (pc := 15) rfl rfl ⟨by decide, by decide⟩ H C dX8_passes_15
theorem ctX8_passes (l : Launch) (hl : l.stackTraces = false) {G : g_G} (p0 : Int32) (h : g_Hp) (Q : g_R → g_Hp → Prop) (H : wX8_passes p0 h Q) : g_Met l y_ G iX8_passes [vR 5 0 0, vI p0] h Q :=
  g_Met_of hl (by decide +kernel) rfl rfl (Nat.le_of_ble_eq_true rfl) (fun X C => vX8_passes C p0 h H)
/-! X8_passShifts -/
abbrev iX8_passShifts : g_I := (RX8, yX8_passShifts, cX8_passShifts, 2, (some .int), [], { frames := 5, cells := 0, slots := 0, locals := 110 })
set_option maxRecDepth 100000 in
set_option maxHeartbeats 4000000 in
theorem vX8_passShifts {G : g_G} {X : g_X} {Q : g_R → g_Hp → Prop} (C : g_Cx y_ G X iX8_passShifts) (p0 : Int32) (h : g_Hp) (H : wX8_passShifts p0 h Q) : g_V G X iX8_passShifts 0 0 Q 0 0 0 [(0, vR 5 0 0), (1, vI p0)] [] h := by
  refine s_aload_n (pc := 0) C dX8_passShifts_0 rfl 0 rfl ?_
  refine s_callv (pc := 1) (nA := 0) (as := []) (st := []) (stk := [vR 5 0 0]) ckX8 (Or.inl rfl) C (fun l hl => ctX8_begins l hl _ _ H) ⟨⟨kw_1575, kw_69, kw_1578⟩, rfl, ⟨by decide, by decide, by decide +kernel⟩, by decide, by decide⟩ kw_1577 (g_selW kw_21) rfl (Nat.le_of_ble_eq_true rfl) ⟨by decide, by decide⟩ rfl dX8_passShifts_1 (g_Kq_V (fun h1 H => ?_) (fun E h1 H => s_prop rfl ⟨by decide, by decide⟩ H C))
  refine s_aload_n (pc := 4) C dX8_passShifts_4 rfl 0 rfl ?_
  refine s_aload_n (pc := 5) C dX8_passShifts_5 rfl 0 rfl ?_
  refine s_iload_n (pc := 6) C dX8_passShifts_6 rfl 1 rfl ?_
  refine s_callv (pc := 7) (nA := 1) (as := [vI p0]) (st := [vR 5 0 0]) (stk := [vI p0, vR 5 0 0, vR 5 0 0]) ckX8 (Or.inl rfl) C (fun l hl => ctX8_passes l hl p0 _ _ H) ⟨⟨kw_1689, kw_69, kw_1692⟩, rfl, ⟨by decide, by decide, by decide +kernel⟩, by decide, by decide⟩ kw_1691 (g_selW kw_29) rfl (Nat.le_of_ble_eq_true rfl) ⟨by decide, by decide⟩ rfl dX8_passShifts_7 (g_Kq_I (fun u3 h2 H => ?_) (fun E h2 H => s_prop rfl ⟨by decide, by decide⟩ H C))
  refine s_callv (pc := 10) (nA := 1) (as := [vI u3]) (st := []) (stk := [vI u3, vR 5 0 0]) ckX8 (Or.inl rfl) C (fun l hl => ctX8_ends l hl u3 _ _ H) ⟨⟨kw_1596, kw_69, kw_1599⟩, rfl, ⟨by decide, by decide, by decide +kernel⟩, by decide, by decide⟩ kw_1598 (g_selW kw_24) rfl (Nat.le_of_ble_eq_true rfl) ⟨by decide, by decide⟩ rfl dX8_passShifts_10 (g_Kq_I (fun u5 h4 H => ?_) (fun E h4 H => s_prop rfl ⟨by decide, by decide⟩ H C))
  exact s_iret (pc := 13) rfl rfl ⟨by decide, by decide⟩ H C dX8_passShifts_13
theorem ctX8_passShifts (l : Launch) (hl : l.stackTraces = false) {G : g_G} (p0 : Int32) (h : g_Hp) (Q : g_R → g_Hp → Prop) (H : wX8_passShifts p0 h Q) : g_Met l y_ G iX8_passShifts [vR 5 0 0, vI p0] h Q :=
  g_Met_of hl (by decide +kernel) rfl rfl (Nat.le_of_ble_eq_true rfl) (fun X C => vX8_passShifts C p0 h H)
/-! X8_shiftCount -/
abbrev iX8_shiftCount : g_I := (RX8, yX8_shiftCount, cX8_shiftCount, 1, (some .int), [], { frames := 2, cells := 0, slots := 0, locals := 41 })
set_option maxRecDepth 100000 in
set_option maxHeartbeats 4000000 in
theorem vX8_shiftCount {G : g_G} {X : g_X} {Q : g_R → g_Hp → Prop} (C : g_Cx y_ G X iX8_shiftCount) (h : g_Hp) (H : wX8_shiftCount h Q) : g_V G X iX8_shiftCount 0 0 Q 0 0 0 [(0, vR 5 0 0)] [] h := by
  refine s_aload_n (pc := 0) C dX8_shiftCount_0 rfl 0 rfl ?_
  refine s_iconst (pc := 1) C dX8_shiftCount_1 (x := (3 : Int32)) (by decide) ?_
  refine s_callv (pc := 2) (nA := 1) (as := [vI (3 : Int32)]) (st := []) (stk := [vI (3 : Int32), vR 5 0 0]) ckX8 (Or.inl rfl) C (fun l hl => ctX8_tells l hl (3 : Int32) _ _ H) ⟨⟨kw_1604, kw_69, kw_1607⟩, rfl, ⟨by decide, by decide, by decide +kernel⟩, by decide, by decide⟩ kw_1606 (g_selW kw_25) rfl (Nat.le_of_ble_eq_true rfl) ⟨by decide, by decide⟩ rfl dX8_shiftCount_2 (g_Kq_I (fun u2 h1 H => ?_) (fun E h1 H => s_prop rfl ⟨by decide, by decide⟩ H C))
  exact s_iret (pc := 5) rfl rfl ⟨by decide, by decide⟩ H C dX8_shiftCount_5
theorem ctX8_shiftCount (l : Launch) (hl : l.stackTraces = false) {G : g_G} (h : g_Hp) (Q : g_R → g_Hp → Prop) (H : wX8_shiftCount h Q) : g_Met l y_ G iX8_shiftCount [vR 5 0 0] h Q :=
  g_Met_of hl (by decide +kernel) rfl rfl (Nat.le_of_ble_eq_true rfl) (fun X C => vX8_shiftCount C h H)
/-! X8_day -/
abbrev iX8_day : g_I := (RX8, yX8_day, cX8_day, 1, (some .int), [], { frames := 2, cells := 0, slots := 0, locals := 41 })
set_option maxRecDepth 100000 in
set_option maxHeartbeats 4000000 in
theorem vX8_day {G : g_G} {X : g_X} {Q : g_R → g_Hp → Prop} (C : g_Cx y_ G X iX8_day) (h : g_Hp) (H : wX8_day h Q) : g_V G X iX8_day 0 0 Q 0 0 0 [(0, vR 5 0 0)] [] h := by
  refine s_aload_n (pc := 0) C dX8_day_0 rfl 0 rfl ?_
  refine s_iconst (pc := 1) C dX8_day_1 (x := (3 : Int32)) (by decide) ?_
  refine s_callv (pc := 2) (nA := 1) (as := [vI (3 : Int32)]) (st := []) (stk := [vI (3 : Int32), vR 5 0 0]) ckX8 (Or.inl rfl) C (fun l hl => ctX8_tells l hl (3 : Int32) _ _ H) ⟨⟨kw_1604, kw_69, kw_1607⟩, rfl, ⟨by decide, by decide, by decide +kernel⟩, by decide, by decide⟩ kw_1606 (g_selW kw_25) rfl (Nat.le_of_ble_eq_true rfl) ⟨by decide, by decide⟩ rfl dX8_day_2 (g_Kq_I (fun u2 h1 H => ?_) (fun E h1 H => s_prop rfl ⟨by decide, by decide⟩ H C))
  refine s_iconst (pc := 5) C dX8_day_5 (x := (3 : Int32)) (by decide) ?_
  refine s_idiv (pc := 6) C dX8_day_6 H.1 ?_
  have H := H.2
  exact s_iret (pc := 7) rfl rfl ⟨by decide, by decide⟩ H C dX8_day_7
theorem ctX8_day (l : Launch) (hl : l.stackTraces = false) {G : g_G} (h : g_Hp) (Q : g_R → g_Hp → Prop) (H : wX8_day h Q) : g_Met l y_ G iX8_day [vR 5 0 0] h Q :=
  g_Met_of hl (by decide +kernel) rfl rfl (Nat.le_of_ble_eq_true rfl) (fun X C => vX8_day C h H)
/-! X8_count -/
abbrev iX8_count : g_I := (RX8, yX8_count, cX8_count, 5, (some .int), [], { frames := 1, cells := 0, slots := 0, locals := 20 })
set_option maxRecDepth 100000 in
set_option maxHeartbeats 4000000 in
theorem vX8_count_b35 {G : g_G} {X : g_X} {Q : g_R → g_Hp → Prop} (C : g_Cx y_ G X iX8_count) (R5 : Int32 → Int32 → Int32 → Int32 → g_Hp → Prop) (hR5 : ∀ (x1 : Int32) (x2 : Int32) (x3 : Int32) (x4 : Int32) (h : g_Hp), R5 x1 x2 x3 x4 h → g_V G X iX8_count 0 0 Q 5 0 0 [(0, vR 5 0 0), (1, vI x1), (2, vI x2), (3, vI x3), (4, vI x4)] [] h) (x1 : Int32) (x2 : Int32) (x4 : Int32) (z0 : Int32) (z1 : Int32) (h : g_Hp) (H : wX8_count_b35 Q R5 x1 x2 x4 z0 z1 h) : g_V G X iX8_count 0 0 Q 35 0 0 [(0, vR 5 0 0), (1, vI x1), (2, vI x2), (4, vI x4)] [vI z0, vI z1] h := by
  refine s_iadd (pc := 35) C dX8_count_35 ?_
  refine s_namei (fun y1 ey1 => ?_)
  have H := H y1 ey1
  refine s_istore_n (pc := 36) (ls' := [(3, vI y1), (0, vR 5 0 0), (1, vI x1), (2, vI x2), (4, vI x4)]) C dX8_count_36 rfl (by decide) rfl ?_
  refine s_iincN (pc := 37) C dX8_count_37 4 rfl (z' := (1 : Int32)) (by decide) (by decide) (fun y2 ey2 => ?_)
  have H := H y2 ey2
  show g_V _ _ _ _ _ _ _ _ _ [(4, vI y2), (3, vI y1), (0, vR 5 0 0), (1, vI x1), (2, vI x2)] _ _
  refine s_goto (pc := 40) (tgt := 5) C dX8_count_40 (by decide) ?_
  exact s_sub (ls' := [(0, vR 5 0 0), (1, vI x1), (2, vI x2), (3, vI y1), (4, vI y2)]) [2, 3, 4, 1, 0] rfl (hR5 x1 x2 y1 y2 h H)
set_option maxRecDepth 100000 in
set_option maxHeartbeats 4000000 in
theorem vX8_count_b5_B {G : g_G} {X : g_X} {Q : g_R → g_Hp → Prop} (C : g_Cx y_ G X iX8_count) (R5 : Int32 → Int32 → Int32 → Int32 → g_Hp → Prop) (hR5 : ∀ (x1 : Int32) (x2 : Int32) (x3 : Int32) (x4 : Int32) (h : g_Hp), R5 x1 x2 x3 x4 h → g_V G X iX8_count 0 0 Q 5 0 0 [(0, vR 5 0 0), (1, vI x1), (2, vI x2), (3, vI x3), (4, vI x4)] [] h) (x1 : Int32) (x2 : Int32) (x3 : Int32) (x4 : Int32) (h : g_Hp) (H : wX8_count_b5_B Q R5 x1 x2 x3 x4 h) : g_V G X iX8_count 0 0 Q 5 0 0 [(0, vR 5 0 0), (1, vI x1), (2, vI x2), (3, vI x3), (4, vI x4)] [] h := by
  refine s_iload (pc := 5) C dX8_count_5 4 rfl ?_
  refine s_aload_n (pc := 7) C dX8_count_7 rfl 0 rfl ?_
  refine s_getr (pc := 8) (s := 5) (a := 13) (b := 0) (c' := 0) ckX8 (by decide) kw_1510 rfl C dX8_count_8 ?_
  refine s_iconst (pc := 11) C dX8_count_11 (x := (0 : Int32)) (by decide) ?_
  refine s_iald (pc := 12) (show ¬ ((0 : Int32) < 0 ∨ 169 ≤ (0 : Int32).toNatClampNeg) by decide) C dX8_count_12 ?_
  refine s_icmp_ge (pc := 13) (tgt := 43) C dX8_count_13 (by decide) (fun c => ?_) (fun c => ?_)
  · have H := H.1 c
    refine s_iload_n (pc := 43) C dX8_count_43 rfl 3 rfl ?_
    exact s_iret (pc := 44) rfl rfl ⟨by decide, by decide⟩ H C dX8_count_44
  · have H := H.2 c
    refine s_iload_n (pc := 16) C dX8_count_16 rfl 3 rfl ?_
    refine s_aload_n (pc := 17) C dX8_count_17 rfl 0 rfl ?_
    refine s_getr (pc := 18) (s := 5) (a := 13) (b := 0) (c' := 0) ckX8 (by decide) kw_1510 rfl C dX8_count_18 ?_
    refine s_iload_n (pc := 21) C dX8_count_21 rfl 1 rfl ?_
    refine s_iload (pc := 22) C dX8_count_22 4 rfl ?_
    refine s_iadd (pc := 24) C dX8_count_24 ?_
    refine s_iald (pc := 25) H.1 C dX8_count_25 ?_
    have H := H.2
    refine s_iload_n (pc := 26) C dX8_count_26 rfl 2 rfl ?_
    refine s_icmp_ne (pc := 27) (tgt := 34) C dX8_count_27 (by decide) (fun c => ?_) (fun c => ?_)
    · have H := H.1 c
      refine s_iconst (pc := 34) C dX8_count_34 (x := (0 : Int32)) (by decide) ?_
      exact s_sub (ls' := [(0, vR 5 0 0), (1, vI x1), (2, vI x2), (4, vI x4)]) [0, 1, 2, 4] rfl (vX8_count_b35 C R5 hR5 x1 x2 x4 (0 : Int32) x3 h H)
    · have H := H.2 c
      refine s_iconst (pc := 30) C dX8_count_30 (x := (1 : Int32)) (by decide) ?_
      refine s_goto (pc := 31) (tgt := 35) C dX8_count_31 (by decide) ?_
      exact s_sub (ls' := [(0, vR 5 0 0), (1, vI x1), (2, vI x2), (4, vI x4)]) [0, 1, 2, 4] rfl (vX8_count_b35 C R5 hR5 x1 x2 x4 (1 : Int32) x3 h H)
theorem vX8_count_b5 {G : g_G} {X : g_X} {Q : g_R → g_Hp → Prop} (C : g_Cx y_ G X iX8_count) (x1 : Int32) (x2 : Int32) (x3 : Int32) (x4 : Int32) (h : g_Hp) (H : wX8_count_b5 Q x1 x2 x3 x4 h) : g_V G X iX8_count 0 0 Q 5 0 0 [(0, vR 5 0 0), (1, vI x1), (2, vI x2), (3, vI x3), (4, vI x4)] [] h := by
  obtain ⟨n, H⟩ := H
  induction n generalizing x1 x2 x3 x4 h with
  | zero => exact H.elim
  | succ n ih => exact vX8_count_b5_B C _ (fun x1 x2 x3 x4 h H => ih x1 x2 x3 x4 h H) x1 x2 x3 x4 h H
set_option maxRecDepth 100000 in
set_option maxHeartbeats 4000000 in
theorem vX8_count {G : g_G} {X : g_X} {Q : g_R → g_Hp → Prop} (C : g_Cx y_ G X iX8_count) (p0 : Int32) (p1 : Int32) (h : g_Hp) (H : wX8_count p0 p1 h Q) : g_V G X iX8_count 0 0 Q 0 0 0 [(0, vR 5 0 0), (1, vI p0), (2, vI p1)] [] h := by
  refine s_iconst (pc := 0) C dX8_count_0 (x := (0 : Int32)) (by decide) ?_
  refine s_istore_n (pc := 1) (ls' := [(3, vI (0 : Int32)), (0, vR 5 0 0), (1, vI p0), (2, vI p1)]) C dX8_count_1 rfl (by decide) rfl ?_
  refine s_iconst (pc := 2) C dX8_count_2 (x := (0 : Int32)) (by decide) ?_
  refine s_istore (pc := 3) (ls' := [(4, vI (0 : Int32)), (3, vI (0 : Int32)), (0, vR 5 0 0), (1, vI p0), (2, vI p1)]) C dX8_count_3 (by decide) rfl ?_
  exact s_sub (ls' := [(0, vR 5 0 0), (1, vI p0), (2, vI p1), (3, vI (0 : Int32)), (4, vI (0 : Int32))]) [2, 3, 4, 1, 0] rfl (vX8_count_b5 C p0 p1 (0 : Int32) (0 : Int32) h H)
theorem ctX8_count (l : Launch) (hl : l.stackTraces = false) {G : g_G} (p0 : Int32) (p1 : Int32) (h : g_Hp) (Q : g_R → g_Hp → Prop) (H : wX8_count p0 p1 h Q) : g_Met l y_ G iX8_count [vR 5 0 0, vI p0, vI p1] h Q :=
  g_Met_of hl (by decide +kernel) rfl rfl (Nat.le_of_ble_eq_true rfl) (fun X C => vX8_count C p0 p1 h H)
/-! X8_votes -/
abbrev iX8_votes : g_I := (RX8, yX8_votes, cX8_votes, 3, (some .int), [], { frames := 3, cells := 0, slots := 0, locals := 63 })
set_option maxRecDepth 100000 in
set_option maxHeartbeats 4000000 in
theorem vX8_votes {G : g_G} {X : g_X} {Q : g_R → g_Hp → Prop} (C : g_Cx y_ G X iX8_votes) (p0 : Int32) (p1 : Int32) (h : g_Hp) (H : wX8_votes p0 p1 h Q) : g_V G X iX8_votes 0 0 Q 0 0 0 [(0, vR 5 0 0), (1, vI p0), (2, vI p1)] [] h := by
  refine s_aload_n (pc := 0) C dX8_votes_0 rfl 0 rfl ?_
  refine s_iload_n (pc := 1) C dX8_votes_1 rfl 1 rfl ?_
  refine s_callv (pc := 2) (nA := 1) (as := [vI p0]) (st := []) (stk := [vI p0, vR 5 0 0]) ckX8 (Or.inl rfl) C (fun l hl => ctX8_isMember l hl p0 _ _ H) ⟨⟨kw_1616, kw_69, kw_1619⟩, rfl, ⟨by decide, by decide, by decide +kernel⟩, by decide, by decide⟩ kw_1618 (g_selW kw_27) rfl (Nat.le_of_ble_eq_true rfl) ⟨by decide, by decide⟩ rfl dX8_votes_2 (g_Kq_I (fun u2 h1 H => ?_) (fun E h1 H => s_prop rfl ⟨by decide, by decide⟩ H C))
  refine s_if_ne (pc := 5) (tgt := 14) C dX8_votes_5 (by decide) (fun c => ?_) (fun c => ?_)
  · have H := H.1 c
    refine s_aload_n (pc := 14) C dX8_votes_14 rfl 0 rfl ?_
    refine s_getr (pc := 15) (s := 5) (a := 13) (b := 0) (c' := 0) ckX8 (by decide) kw_1510 rfl C dX8_votes_15 ?_
    refine s_iconst (pc := 18) C dX8_votes_18 (x := (4 : Int32)) (by decide) ?_
    refine s_iald (pc := 19) (show ¬ ((4 : Int32) < 0 ∨ 169 ≤ (4 : Int32).toNatClampNeg) by decide) C dX8_votes_19 ?_
    refine s_iconst (pc := 20) C dX8_votes_20 (x := (1 : Int32)) (by decide) ?_
    refine s_icmp_ne (pc := 21) (tgt := 30) C dX8_votes_21 (by decide) (fun c => ?_) (fun c => ?_)
    · have H := H.1 c
      refine s_aload_n (pc := 30) C dX8_votes_30 rfl 0 rfl ?_
      refine s_getr (pc := 31) (s := 5) (a := 13) (b := 0) (c' := 0) ckX8 (by decide) kw_1510 rfl C dX8_votes_31 ?_
      refine s_bipush (pc := 34) C dX8_votes_34 (x := (95 : Int32)) (by decide) ?_
      refine s_iload_n (pc := 36) C dX8_votes_36 rfl 1 rfl ?_
      refine s_iadd (pc := 37) C dX8_votes_37 ?_
      refine s_iload_n (pc := 38) C dX8_votes_38 rfl 2 rfl ?_
      refine s_iast (pc := 39) H.1 C dX8_votes_39 ?_
      have H := H.2
      refine s_name (fun h3 eh3 => ?_)
      have H := H h3 eh3
      refine s_aload_n (pc := 40) C dX8_votes_40 rfl 0 rfl ?_
      refine s_bipush (pc := 41) C dX8_votes_41 (x := (95 : Int32)) (by decide) ?_
      refine s_iconst (pc := 43) C dX8_votes_43 (x := (1 : Int32)) (by decide) ?_
      refine s_callv (pc := 44) (nA := 2) (as := [vI (95 : Int32), vI (1 : Int32)]) (st := []) (stk := [vI (1 : Int32), vI (95 : Int32), vR 5 0 0]) ckX8 (Or.inl rfl) C (fun l hl => ctX8_count l hl (95 : Int32) (1 : Int32) _ _ H) ⟨⟨kw_1724, kw_69, kw_1727⟩, rfl, ⟨by decide, by decide, by decide +kernel⟩, by decide, by decide⟩ kw_1726 (g_selW kw_34) rfl (Nat.le_of_ble_eq_true rfl) ⟨by decide, by decide⟩ rfl dX8_votes_44 (g_Kq_I (fun u5 h4 H => ?_) (fun E h4 H => s_prop rfl ⟨by decide, by decide⟩ H C))
      exact s_iret (pc := 47) rfl rfl ⟨by decide, by decide⟩ H C dX8_votes_47
    · have H := H.2 c
      refine s_aload_n (pc := 24) C dX8_votes_24 rfl 0 rfl ?_
      refine s_iconst (pc := 25) C dX8_votes_25 (x := (2 : Int32)) (by decide) ?_
      refine s_callv (pc := 26) (nA := 1) (as := [vI (2 : Int32)]) (st := []) (stk := [vI (2 : Int32), vR 5 0 0]) ckX8 (Or.inl rfl) C (fun l hl => ctX8_fail l hl (2 : Int32) _ _ H) ⟨⟨kw_1592, kw_69, kw_1595⟩, rfl, ⟨by decide, by decide, by decide +kernel⟩, by decide, by decide⟩ kw_1594 (g_selW kw_23) rfl (Nat.le_of_ble_eq_true rfl) ⟨by decide, by decide⟩ rfl dX8_votes_26 (g_Kq_I (fun u7 h6 H => ?_) (fun E h6 H => s_prop rfl ⟨by decide, by decide⟩ H C))
      exact s_iret (pc := 29) rfl rfl ⟨by decide, by decide⟩ H C dX8_votes_29
  · have H := H.2 c
    refine s_aload_n (pc := 8) C dX8_votes_8 rfl 0 rfl ?_
    refine s_iconst (pc := 9) C dX8_votes_9 (x := (1 : Int32)) (by decide) ?_
    refine s_callv (pc := 10) (nA := 1) (as := [vI (1 : Int32)]) (st := []) (stk := [vI (1 : Int32), vR 5 0 0]) ckX8 (Or.inl rfl) C (fun l hl => ctX8_fail l hl (1 : Int32) _ _ H) ⟨⟨kw_1592, kw_69, kw_1595⟩, rfl, ⟨by decide, by decide, by decide +kernel⟩, by decide, by decide⟩ kw_1594 (g_selW kw_23) rfl (Nat.le_of_ble_eq_true rfl) ⟨by decide, by decide⟩ rfl dX8_votes_10 (g_Kq_I (fun u9 h8 H => ?_) (fun E h8 H => s_prop rfl ⟨by decide, by decide⟩ H C))
    exact s_iret (pc := 13) rfl rfl ⟨by decide, by decide⟩ H C dX8_votes_13
theorem ctX8_votes (l : Launch) (hl : l.stackTraces = false) {G : g_G} (p0 : Int32) (p1 : Int32) (h : g_Hp) (Q : g_R → g_Hp → Prop) (H : wX8_votes p0 p1 h Q) : g_Met l y_ G iX8_votes [vR 5 0 0, vI p0, vI p1] h Q :=
  g_Met_of hl (by decide +kernel) rfl rfl (Nat.le_of_ble_eq_true rfl) (fun X C => vX8_votes C p0 p1 h H)
/-! X8_vote -/
abbrev iX8_vote : g_I := (RX8, yX8_vote, cX8_vote, 3, (some .int), [], { frames := 4, cells := 0, slots := 0, locals := 85 })
set_option maxRecDepth 100000 in
set_option maxHeartbeats 4000000 in
theorem vX8_vote_b16 {G : g_G} {X : g_X} {Q : g_R → g_Hp → Prop} (C : g_Cx y_ G X iX8_vote) (z0 : Int32) (z1 : Int32) (h : g_Hp) (H : wX8_vote_b16 Q z0 z1 h) : g_V G X iX8_vote 0 0 Q 16 0 0 [] [vI z0, vI z1, vR 5 0 0, vR 5 0 0] h := by
  refine s_callv (pc := 16) (nA := 2) (as := [vI z1, vI z0]) (st := [vR 5 0 0]) (stk := [vI z0, vI z1, vR 5 0 0, vR 5 0 0]) ckX8 (Or.inl rfl) C (fun l hl => ctX8_votes l hl z1 z0 _ _ H) ⟨⟨kw_1720, kw_69, kw_1723⟩, rfl, ⟨by decide, by decide, by decide +kernel⟩, by decide, by decide⟩ kw_1722 (g_selW kw_33) rfl (Nat.le_of_ble_eq_true rfl) ⟨by decide, by decide⟩ rfl dX8_vote_16 (g_Kq_I (fun u2 h1 H => ?_) (fun E h1 H => s_prop rfl ⟨by decide, by decide⟩ H C))
  refine s_callv (pc := 19) (nA := 1) (as := [vI u2]) (st := []) (stk := [vI u2, vR 5 0 0]) ckX8 (Or.inl rfl) C (fun l hl => ctX8_ends l hl u2 _ _ H) ⟨⟨kw_1596, kw_69, kw_1599⟩, rfl, ⟨by decide, by decide, by decide +kernel⟩, by decide, by decide⟩ kw_1598 (g_selW kw_24) rfl (Nat.le_of_ble_eq_true rfl) ⟨by decide, by decide⟩ rfl dX8_vote_19 (g_Kq_I (fun u4 h3 H => ?_) (fun E h3 H => s_prop rfl ⟨by decide, by decide⟩ H C))
  exact s_iret (pc := 22) rfl rfl ⟨by decide, by decide⟩ H C dX8_vote_22
set_option maxRecDepth 100000 in
set_option maxHeartbeats 4000000 in
theorem vX8_vote {G : g_G} {X : g_X} {Q : g_R → g_Hp → Prop} (C : g_Cx y_ G X iX8_vote) (p0 : Int32) (p1 : Int32) (h : g_Hp) (H : wX8_vote p0 p1 h Q) : g_V G X iX8_vote 0 0 Q 0 0 0 [(0, vR 5 0 0), (1, vI p0), (2, vI p1)] [] h := by
  refine s_aload_n (pc := 0) C dX8_vote_0 rfl 0 rfl ?_
  refine s_callv (pc := 1) (nA := 0) (as := []) (st := []) (stk := [vR 5 0 0]) ckX8 (Or.inl rfl) C (fun l hl => ctX8_begins l hl _ _ H) ⟨⟨kw_1575, kw_69, kw_1578⟩, rfl, ⟨by decide, by decide, by decide +kernel⟩, by decide, by decide⟩ kw_1577 (g_selW kw_21) rfl (Nat.le_of_ble_eq_true rfl) ⟨by decide, by decide⟩ rfl dX8_vote_1 (g_Kq_V (fun h1 H => ?_) (fun E h1 H => s_prop rfl ⟨by decide, by decide⟩ H C))
  refine s_aload_n (pc := 4) C dX8_vote_4 rfl 0 rfl ?_
  refine s_aload_n (pc := 5) C dX8_vote_5 rfl 0 rfl ?_
  refine s_iload_n (pc := 6) C dX8_vote_6 rfl 1 rfl ?_
  refine s_iload_n (pc := 7) C dX8_vote_7 rfl 2 rfl ?_
  refine s_if_eq (pc := 8) (tgt := 15) C dX8_vote_8 (by decide) (fun c => ?_) (fun c => ?_)
  · have H := H.1 c
    refine s_iconst (pc := 15) C dX8_vote_15 (x := (2 : Int32)) (by decide) ?_
    exact s_sub (ls' := []) [] rfl (vX8_vote_b16 C (2 : Int32) p0 h1 H)
  · have H := H.2 c
    refine s_iconst (pc := 11) C dX8_vote_11 (x := (1 : Int32)) (by decide) ?_
    refine s_goto (pc := 12) (tgt := 16) C dX8_vote_12 (by decide) ?_
    exact s_sub (ls' := []) [] rfl (vX8_vote_b16 C (1 : Int32) p0 h1 H)
theorem ctX8_vote (l : Launch) (hl : l.stackTraces = false) {G : g_G} (p0 : Int32) (p1 : Int32) (h : g_Hp) (Q : g_R → g_Hp → Prop) (H : wX8_vote p0 p1 h Q) : g_Met l y_ G iX8_vote [vR 5 0 0, vI p0, vI p1] h Q :=
  g_Met_of hl (by decide +kernel) rfl rfl (Nat.le_of_ble_eq_true rfl) (fun X C => vX8_vote C p0 p1 h H)
/-! X8_votesFor -/
abbrev iX8_votesFor : g_I := (RX8, yX8_votesFor, cX8_votesFor, 1, (some .int), [], { frames := 2, cells := 0, slots := 0, locals := 44 })
set_option maxRecDepth 100000 in
set_option maxHeartbeats 4000000 in
theorem vX8_votesFor {G : g_G} {X : g_X} {Q : g_R → g_Hp → Prop} (C : g_Cx y_ G X iX8_votesFor) (h : g_Hp) (H : wX8_votesFor h Q) : g_V G X iX8_votesFor 0 0 Q 0 0 0 [(0, vR 5 0 0)] [] h := by
  refine s_aload_n (pc := 0) C dX8_votesFor_0 rfl 0 rfl ?_
  refine s_iconst (pc := 1) C dX8_votesFor_1 (x := (0 : Int32)) (by decide) ?_
  refine s_puti (pc := 2) (s := 0) ckX8 (Or.inl rfl) (by decide) kw_1505 (fun _ => rfl) rfl rfl rfl C dX8_votesFor_2 ?_
  refine s_name (fun h1 eh1 => ?_)
  have H := H h1 eh1
  refine s_aload_n (pc := 5) C dX8_votesFor_5 rfl 0 rfl ?_
  refine s_bipush (pc := 6) C dX8_votesFor_6 (x := (95 : Int32)) (by decide) ?_
  refine s_iconst (pc := 8) C dX8_votesFor_8 (x := (1 : Int32)) (by decide) ?_
  refine s_callv (pc := 9) (nA := 2) (as := [vI (95 : Int32), vI (1 : Int32)]) (st := []) (stk := [vI (1 : Int32), vI (95 : Int32), vR 5 0 0]) ckX8 (Or.inl rfl) C (fun l hl => ctX8_count l hl (95 : Int32) (1 : Int32) _ _ H) ⟨⟨kw_1724, kw_69, kw_1727⟩, rfl, ⟨by decide, by decide, by decide +kernel⟩, by decide, by decide⟩ kw_1726 (g_selW kw_34) rfl (Nat.le_of_ble_eq_true rfl) ⟨by decide, by decide⟩ rfl dX8_votesFor_9 (g_Kq_I (fun u3 h2 H => ?_) (fun E h2 H => s_prop rfl ⟨by decide, by decide⟩ H C))
  exact s_iret (pc := 12) rfl rfl ⟨by decide, by decide⟩ H C dX8_votesFor_12
theorem ctX8_votesFor (l : Launch) (hl : l.stackTraces = false) {G : g_G} (h : g_Hp) (Q : g_R → g_Hp → Prop) (H : wX8_votesFor h Q) : g_Met l y_ G iX8_votesFor [vR 5 0 0] h Q :=
  g_Met_of hl (by decide +kernel) rfl rfl (Nat.le_of_ble_eq_true rfl) (fun X C => vX8_votesFor C h H)
