/-! X8_ends -/
abbrev iX8_ends : g_I := (RX8, yX8_ends, cX8_ends, 3, (some .int), [], { frames := 2, cells := 0, slots := 0, locals := 42 })
set_option maxRecDepth 100000 in
set_option maxHeartbeats 4000000 in
theorem vX8_ends_b72_B {G : g_G} {X : g_X} {Q : g_R → g_Hp → Prop} (C : g_Cx y_ G X iX8_ends) (R72 : Int32 → Int32 → g_Hp → Prop) (hR72 : ∀ (x1 : Int32) (x2 : Int32) (h : g_Hp), R72 x1 x2 h → g_V G X iX8_ends 0 0 Q 72 0 0 [(0, vR 5 0 0), (1, vI x1), (2, vI x2)] [] h) (x1 : Int32) (x2 : Int32) (h : g_Hp) (H : wX8_ends_b72_B Q R72 x1 x2 h) : g_V G X iX8_ends 0 0 Q 72 0 0 [(0, vR 5 0 0), (1, vI x1), (2, vI x2)] [] h := by
  refine s_iload_n (pc := 72) C dX8_ends_72 rfl 2 rfl ?_
  refine s_sipush (pc := 73) C dX8_ends_73 (x := (169 : Int32)) (by decide) ?_
  refine s_icmp_ge (pc := 76) (tgt := 106) C dX8_ends_76 (by decide) (fun c => ?_) (fun c => ?_)
  · have H := H.1 c
    refine s_aload_n (pc := 106) C dX8_ends_106 rfl 0 rfl ?_
    refine s_dup (pc := 107) C dX8_ends_107 rfl ?_
    refine s_geti (pc := 108) (s := 1) ckX8 (Or.inl rfl) (by decide) kw_1506 (fun _ => rfl) C dX8_ends_108 ?_
    refine s_iconst (pc := 111) C dX8_ends_111 (x := (1 : Int32)) (by decide) ?_
    refine s_iadd (pc := 112) C dX8_ends_112 ?_
    refine s_puti (pc := 113) (s := 1) ckX8 (Or.inl rfl) (by decide) kw_1506 (fun _ => rfl) rfl rfl rfl C dX8_ends_113 ?_
    refine s_name (fun h1 eh1 => ?_)
    have H := H h1 eh1
    refine s_iload_n (pc := 116) C dX8_ends_116 rfl 1 rfl ?_
    exact s_iret (pc := 117) rfl rfl ⟨by decide, by decide⟩ H C dX8_ends_117
  · have H := H.2 c
    refine s_aload_n (pc := 79) C dX8_ends_79 rfl 0 rfl ?_
    refine s_getr (pc := 80) (s := 8) (a := 13) (b := 3) (c' := 0) ckX8 (by decide) kw_1513 rfl C dX8_ends_80 ?_
    refine s_aload_n (pc := 83) C dX8_ends_83 rfl 0 rfl ?_
    refine s_geti (pc := 84) (s := 1) ckX8 (Or.inl rfl) (by decide) kw_1506 (fun _ => rfl) C dX8_ends_84 ?_
    refine s_sipush (pc := 87) C dX8_ends_87 (x := (169 : Int32)) (by decide) ?_
    refine s_imul (pc := 90) C dX8_ends_90 ?_
    refine s_iload_n (pc := 91) C dX8_ends_91 rfl 2 rfl ?_
    refine s_iadd (pc := 92) C dX8_ends_92 ?_
    refine s_aload_n (pc := 93) C dX8_ends_93 rfl 0 rfl ?_
    refine s_getr (pc := 94) (s := 6) (a := 13) (b := 1) (c' := 0) ckX8 (by decide) kw_1511 rfl C dX8_ends_94 ?_
    refine s_iload_n (pc := 97) C dX8_ends_97 rfl 2 rfl ?_
    refine s_iald (pc := 98) H.1 C dX8_ends_98 ?_
    have H := H.2
    refine s_iast (pc := 99) H.1 C dX8_ends_99 ?_
    have H := H.2
    refine s_name (fun h2 eh2 => ?_)
    have H := H h2 eh2
    refine s_iincN (pc := 100) C dX8_ends_100 2 rfl (z' := (1 : Int32)) (by decide) (by decide) (fun y3 ey3 => ?_)
    have H := H y3 ey3
    show g_V _ _ _ _ _ _ _ _ _ [(2, vI y3), (0, vR 5 0 0), (1, vI x1)] _ _
    refine s_goto (pc := 103) (tgt := 72) C dX8_ends_103 (by decide) ?_
    exact s_sub (ls' := [(0, vR 5 0 0), (1, vI x1), (2, vI y3)]) [1, 2, 0] rfl (hR72 x1 y3 h2 H)
theorem vX8_ends_b72 {G : g_G} {X : g_X} {Q : g_R → g_Hp → Prop} (C : g_Cx y_ G X iX8_ends) (x1 : Int32) (x2 : Int32) (h : g_Hp) (H : wX8_ends_b72 Q x1 x2 h) : g_V G X iX8_ends 0 0 Q 72 0 0 [(0, vR 5 0 0), (1, vI x1), (2, vI x2)] [] h := by
  obtain ⟨n, H⟩ := H
  induction n generalizing x1 x2 h with
  | zero => exact H.elim
  | succ n ih => exact vX8_ends_b72_B C _ (fun x1 x2 h H => ih x1 x2 h H) x1 x2 h H
set_option maxRecDepth 100000 in
set_option maxHeartbeats 4000000 in
theorem vX8_ends_b70 {G : g_G} {X : g_X} {Q : g_R → g_Hp → Prop} (C : g_Cx y_ G X iX8_ends) (x1 : Int32) (h : g_Hp) (H : wX8_ends_b70 Q x1 h) : g_V G X iX8_ends 0 0 Q 70 0 0 [(0, vR 5 0 0), (1, vI x1)] [] h := by
  refine s_iconst (pc := 70) C dX8_ends_70 (x := (0 : Int32)) (by decide) ?_
  refine s_istore_n (pc := 71) (ls' := [(2, vI (0 : Int32)), (0, vR 5 0 0), (1, vI x1)]) C dX8_ends_71 rfl (by decide) rfl ?_
  exact s_sub (ls' := [(0, vR 5 0 0), (1, vI x1), (2, vI (0 : Int32))]) [1, 2, 0] rfl (vX8_ends_b72 C x1 (0 : Int32) h H)
set_option maxRecDepth 100000 in
set_option maxHeartbeats 4000000 in
theorem vX8_ends_b31_B {G : g_G} {X : g_X} {Q : g_R → g_Hp → Prop} (C : g_Cx y_ G X iX8_ends) (R31 : Int32 → Int32 → g_Hp → Prop) (hR31 : ∀ (x1 : Int32) (x2 : Int32) (h : g_Hp), R31 x1 x2 h → g_V G X iX8_ends 0 0 Q 31 0 0 [(0, vR 5 0 0), (1, vI x1), (2, vI x2)] [] h) (x1 : Int32) (x2 : Int32) (h : g_Hp) (H : wX8_ends_b31_B Q R31 x1 x2 h) : g_V G X iX8_ends 0 0 Q 31 0 0 [(0, vR 5 0 0), (1, vI x1), (2, vI x2)] [] h := by
  refine s_iload_n (pc := 31) C dX8_ends_31 rfl 2 rfl ?_
  refine s_sipush (pc := 32) C dX8_ends_32 (x := (1183 : Int32)) (by decide) ?_
  refine s_icmp_ge (pc := 35) (tgt := 60) C dX8_ends_35 (by decide) (fun c => ?_) (fun c => ?_)
  · have H := H.1 c
    refine s_aload_n (pc := 60) C dX8_ends_60 rfl 0 rfl ?_
    refine s_dup (pc := 61) C dX8_ends_61 rfl ?_
    refine s_geti (pc := 62) (s := 1) ckX8 (Or.inl rfl) (by decide) kw_1506 (fun _ => rfl) C dX8_ends_62 ?_
    refine s_iconst (pc := 65) C dX8_ends_65 (x := (1 : Int32)) (by decide) ?_
    refine s_isub (pc := 66) C dX8_ends_66 ?_
    refine s_puti (pc := 67) (s := 1) ckX8 (Or.inl rfl) (by decide) kw_1506 (fun _ => rfl) rfl rfl rfl C dX8_ends_67 ?_
    refine s_name (fun h1 eh1 => ?_)
    have H := H h1 eh1
    exact s_sub (ls' := [(0, vR 5 0 0), (1, vI x1)]) [0, 1] rfl (vX8_ends_b70 C x1 h1 H)
  · have H := H.2 c
    refine s_aload_n (pc := 38) C dX8_ends_38 rfl 0 rfl ?_
    refine s_getr (pc := 39) (s := 8) (a := 13) (b := 3) (c' := 0) ckX8 (by decide) kw_1513 rfl C dX8_ends_39 ?_
    refine s_iload_n (pc := 42) C dX8_ends_42 rfl 2 rfl ?_
    refine s_aload_n (pc := 43) C dX8_ends_43 rfl 0 rfl ?_
    refine s_getr (pc := 44) (s := 8) (a := 13) (b := 3) (c' := 0) ckX8 (by decide) kw_1513 rfl C dX8_ends_44 ?_
    refine s_iload_n (pc := 47) C dX8_ends_47 rfl 2 rfl ?_
    refine s_sipush (pc := 48) C dX8_ends_48 (x := (169 : Int32)) (by decide) ?_
    refine s_iadd (pc := 51) C dX8_ends_51 ?_
    refine s_iald (pc := 52) H.1 C dX8_ends_52 ?_
    have H := H.2
    refine s_iast (pc := 53) H.1 C dX8_ends_53 ?_
    have H := H.2
    refine s_name (fun h2 eh2 => ?_)
    have H := H h2 eh2
    refine s_iincN (pc := 54) C dX8_ends_54 2 rfl (z' := (1 : Int32)) (by decide) (by decide) (fun y3 ey3 => ?_)
    have H := H y3 ey3
    show g_V _ _ _ _ _ _ _ _ _ [(2, vI y3), (0, vR 5 0 0), (1, vI x1)] _ _
    refine s_goto (pc := 57) (tgt := 31) C dX8_ends_57 (by decide) ?_
    exact s_sub (ls' := [(0, vR 5 0 0), (1, vI x1), (2, vI y3)]) [1, 2, 0] rfl (hR31 x1 y3 h2 H)
theorem vX8_ends_b31 {G : g_G} {X : g_X} {Q : g_R → g_Hp → Prop} (C : g_Cx y_ G X iX8_ends) (x1 : Int32) (x2 : Int32) (h : g_Hp) (H : wX8_ends_b31 Q x1 x2 h) : g_V G X iX8_ends 0 0 Q 31 0 0 [(0, vR 5 0 0), (1, vI x1), (2, vI x2)] [] h := by
  obtain ⟨n, H⟩ := H
  induction n generalizing x1 x2 h with
  | zero => exact H.elim
  | succ n ih => exact vX8_ends_b31_B C _ (fun x1 x2 h H => ih x1 x2 h H) x1 x2 h H
set_option maxRecDepth 100000 in
set_option maxHeartbeats 4000000 in
theorem vX8_ends {G : g_G} {X : g_X} {Q : g_R → g_Hp → Prop} (C : g_Cx y_ G X iX8_ends) (p0 : Int32) (h : g_Hp) (H : wX8_ends p0 h Q) : g_V G X iX8_ends 0 0 Q 0 0 0 [(0, vR 5 0 0), (1, vI p0)] [] h := by
  refine s_aload_n (pc := 0) C dX8_ends_0 rfl 0 rfl ?_
  refine s_geti (pc := 1) (s := 0) ckX8 (Or.inl rfl) (by decide) kw_1505 (fun _ => rfl) C dX8_ends_1 ?_
  refine s_if_eq (pc := 4) (tgt := 20) C dX8_ends_4 (by decide) (fun c => ?_) (fun c => ?_)
  · have H := H.1 c
    refine s_aload_n (pc := 20) C dX8_ends_20 rfl 0 rfl ?_
    refine s_geti (pc := 21) (s := 1) ckX8 (Or.inl rfl) (by decide) kw_1506 (fun _ => rfl) C dX8_ends_21 ?_
    refine s_bipush (pc := 24) C dX8_ends_24 (x := (8 : Int32)) (by decide) ?_
    refine s_icmp_ne (pc := 26) (tgt := 70) C dX8_ends_26 (by decide) (fun c => ?_) (fun c => ?_)
    · have H := H.1 c
      exact s_sub (ls' := [(0, vR 5 0 0), (1, vI p0)]) [0, 1] rfl (vX8_ends_b70 C p0 h H)
    · have H := H.2 c
      refine s_iconst (pc := 29) C dX8_ends_29 (x := (0 : Int32)) (by decide) ?_
      refine s_istore_n (pc := 30) (ls' := [(2, vI (0 : Int32)), (0, vR 5 0 0), (1, vI p0)]) C dX8_ends_30 rfl (by decide) rfl ?_
      exact s_sub (ls' := [(0, vR 5 0 0), (1, vI p0), (2, vI (0 : Int32))]) [1, 2, 0] rfl (vX8_ends_b31 C p0 (0 : Int32) h H)
  · have H := H.2 c
    refine s_aload_n (pc := 7) C dX8_ends_7 rfl 0 rfl ?_
    refine s_getr (pc := 8) (s := 5) (a := 13) (b := 0) (c' := 0) ckX8 (by decide) kw_1510 rfl C dX8_ends_8 ?_
    refine s_aload_n (pc := 11) C dX8_ends_11 rfl 0 rfl ?_
    refine s_getr (pc := 12) (s := 6) (a := 13) (b := 1) (c' := 0) ckX8 (by decide) kw_1511 rfl C dX8_ends_12 ?_
    refine s_calls (pc := 15) (nA := 2) (as := [vR 13 0 0, vR 13 1 0]) (st := []) (stk := [vR 13 1 0, vR 13 0 0]) C (fun l hl => ctX8_lays l hl 0 1 _ _ H) ⟨⟨kw_1579, kw_69, kw_1581⟩, rfl, ⟨by decide, by decide, by decide +kernel⟩, by decide, by decide⟩ kw_1580 rfl (Nat.le_of_ble_eq_true rfl) ⟨by decide, by decide⟩ rfl dX8_ends_15 (g_Kq_V (fun h1 H => ?_) (fun E h1 H => s_prop rfl ⟨by decide, by decide⟩ H C))
    refine s_iconst (pc := 18) C dX8_ends_18 (x := (0 : Int32)) (by decide) ?_
    exact s_iret (pc := 19) rfl rfl ⟨by decide, by decide⟩ H C dX8_ends_19
theorem ctX8_ends (l : Launch) (hl : l.stackTraces = false) {G : g_G} (p0 : Int32) (h : g_Hp) (Q : g_R → g_Hp → Prop) (H : wX8_ends p0 h Q) : g_Met l y_ G iX8_ends [vR 5 0 0, vI p0] h Q :=
  g_Met_of hl (by decide +kernel) rfl rfl (Nat.le_of_ble_eq_true rfl) (fun X C => vX8_ends C p0 h H)
/-! X8_isMember -/
abbrev iX8_isMember : g_I := (RX8, yX8_isMember, cX8_isMember, 2, (some .boolean), [], { frames := 2, cells := 0, slots := 0, locals := 42 })
set_option maxRecDepth 100000 in
set_option maxHeartbeats 4000000 in
theorem vX8_isMember {G : g_G} {X : g_X} {Q : g_R → g_Hp → Prop} (C : g_Cx y_ G X iX8_isMember) (p0 : Int32) (h : g_Hp) (H : wX8_isMember p0 h Q) : g_V G X iX8_isMember 0 0 Q 0 0 0 [(0, vR 5 0 0), (1, vI p0)] [] h := by
  refine s_iload_n (pc := 0) C dX8_isMember_0 rfl 1 rfl ?_
  refine s_iconst (pc := 1) C dX8_isMember_1 (x := (0 : Int32)) (by decide) ?_
  refine s_aload_n (pc := 2) C dX8_isMember_2 rfl 0 rfl ?_
  refine s_getr (pc := 3) (s := 5) (a := 13) (b := 0) (c' := 0) ckX8 (by decide) kw_1510 rfl C dX8_isMember_3 ?_
  refine s_iconst (pc := 6) C dX8_isMember_6 (x := (0 : Int32)) (by decide) ?_
  refine s_iald (pc := 7) (show ¬ ((0 : Int32) < 0 ∨ 169 ≤ (0 : Int32).toNatClampNeg) by decide) C dX8_isMember_7 ?_
  refine s_iconst (pc := 8) C dX8_isMember_8 (x := (1 : Int32)) (by decide) ?_
  refine s_isub (pc := 9) C dX8_isMember_9 ?_
  refine s_calls (pc := 10) (nA := 3) (as := [vI p0, vI (0 : Int32), vI ((h 13 0 0 ((0 : Int32).toNatClampNeg + 1)) - (1 : Int32))]) (st := []) (stk := [vI ((h 13 0 0 ((0 : Int32).toNatClampNeg + 1)) - (1 : Int32)), vI (0 : Int32), vI p0]) C (fun l hl => ctX8_isIn l hl p0 (0 : Int32) ((h 13 0 0 ((0 : Int32).toNatClampNeg + 1)) - (1 : Int32)) _ _ H) ⟨⟨kw_1589, kw_69, kw_1591⟩, rfl, ⟨by decide, by decide, by decide +kernel⟩, by decide, by decide⟩ kw_1590 rfl (Nat.le_of_ble_eq_true rfl) ⟨by decide, by decide⟩ rfl dX8_isMember_10 (g_Kq_I (fun u2 h1 H => ?_) (fun E h1 H => s_prop rfl ⟨by decide, by decide⟩ H C))
  exact s_iret (pc := 13) rfl (g_nz H.1) ⟨by decide, by decide⟩ H.2 C dX8_isMember_13
theorem ctX8_isMember (l : Launch) (hl : l.stackTraces = false) {G : g_G} (p0 : Int32) (h : g_Hp) (Q : g_R → g_Hp → Prop) (H : wX8_isMember p0 h Q) : g_Met l y_ G iX8_isMember [vR 5 0 0, vI p0] h Q :=
  g_Met_of hl (by decide +kernel) rfl rfl (Nat.le_of_ble_eq_true rfl) (fun X C => vX8_isMember C p0 h H)
/-! X8_isRoof -/
abbrev iX8_isRoof : g_I := (RX8, yX8_isRoof, cX8_isRoof, 1, (some .boolean), [], { frames := 2, cells := 0, slots := 0, locals := 42 })
set_option maxRecDepth 100000 in
set_option maxHeartbeats 4000000 in
theorem vX8_isRoof {G : g_G} {X : g_X} {Q : g_R → g_Hp → Prop} (C : g_Cx y_ G X iX8_isRoof) (p0 : Int32) (h : g_Hp) (H : wX8_isRoof p0 h Q) : g_V G X iX8_isRoof 0 0 Q 0 0 0 [(0, vI p0)] [] h := by
  refine s_iload_n (pc := 0) C dX8_isRoof_0 rfl 0 rfl ?_
  refine s_iconst (pc := 1) C dX8_isRoof_1 (x := (0 : Int32)) (by decide) ?_
  refine s_bipush (pc := 2) C dX8_isRoof_2 (x := (9 : Int32)) (by decide) ?_
  refine s_calls (pc := 4) (nA := 3) (as := [vI p0, vI (0 : Int32), vI (9 : Int32)]) (st := []) (stk := [vI (9 : Int32), vI (0 : Int32), vI p0]) C (fun l hl => ctX8_isIn l hl p0 (0 : Int32) (9 : Int32) _ _ H) ⟨⟨kw_1589, kw_69, kw_1591⟩, rfl, ⟨by decide, by decide, by decide +kernel⟩, by decide, by decide⟩ kw_1590 rfl (Nat.le_of_ble_eq_true rfl) ⟨by decide, by decide⟩ rfl dX8_isRoof_4 (g_Kq_I (fun u2 h1 H => ?_) (fun E h1 H => s_prop rfl ⟨by decide, by decide⟩ H C))
  exact s_iret (pc := 7) rfl (g_nz H.1) ⟨by decide, by decide⟩ H.2 C dX8_isRoof_7
theorem ctX8_isRoof (l : Launch) (hl : l.stackTraces = false) {G : g_G} (p0 : Int32) (h : g_Hp) (Q : g_R → g_Hp → Prop) (H : wX8_isRoof p0 h Q) : g_Met l y_ G iX8_isRoof [vI p0] h Q :=
  g_Met_of hl (by decide +kernel) rfl rfl (Nat.le_of_ble_eq_true rfl) (fun X C => vX8_isRoof C p0 h H)
/-! X8_listed -/
abbrev iX8_listed : g_I := (RX8, yX8_listed, cX8_listed, 2, (some .int), [], { frames := 1, cells := 0, slots := 0, locals := 20 })
set_option maxRecDepth 100000 in
set_option maxHeartbeats 4000000 in
theorem vX8_listed {G : g_G} {X : g_X} {Q : g_R → g_Hp → Prop} (C : g_Cx y_ G X iX8_listed) (p0 : Int32) (p1 : Int32) (h : g_Hp) (H : wX8_listed p0 p1 h Q) : g_V G X iX8_listed 0 0 Q 0 0 0 [(0, vI p0), (1, vI p1)] [] h := by
  refine s_sipush (pc := 0) C dX8_listed_0 (x := (129 : Int32)) (by decide) ?_
  refine s_iconst (pc := 3) C dX8_listed_3 (x := (4 : Int32)) (by decide) ?_
  refine s_iload_n (pc := 4) C dX8_listed_4 rfl 0 rfl ?_
  refine s_imul (pc := 5) C dX8_listed_5 ?_
  refine s_iadd (pc := 6) C dX8_listed_6 ?_
  refine s_iload_n (pc := 7) C dX8_listed_7 rfl 1 rfl ?_
  refine s_iadd (pc := 8) C dX8_listed_8 ?_
  exact s_iret (pc := 9) rfl rfl ⟨by decide, by decide⟩ H C dX8_listed_9
theorem ctX8_listed (l : Launch) (hl : l.stackTraces = false) {G : g_G} (p0 : Int32) (p1 : Int32) (h : g_Hp) (Q : g_R → g_Hp → Prop) (H : wX8_listed p0 p1 h Q) : g_Met l y_ G iX8_listed [vI p0, vI p1] h Q :=
  g_Met_of hl (by decide +kernel) rfl rfl (Nat.le_of_ble_eq_true rfl) (fun X C => vX8_listed C p0 p1 h H)
/-! X8_far -/
abbrev iX8_far : g_I := (RX8, yX8_far, cX8_far, 3, (some .int), [], { frames := 1, cells := 0, slots := 0, locals := 20 })
set_option maxRecDepth 100000 in
set_option maxHeartbeats 4000000 in
theorem vX8_far_b23 {G : g_G} {X : g_X} {Q : g_R → g_Hp → Prop} (C : g_Cx y_ G X iX8_far) (z0 : Int32) (h : g_Hp) (H : wX8_far_b23 Q z0 h) : g_V G X iX8_far 0 0 Q 23 0 0 [] [vI z0] h := by
  exact s_iret (pc := 23) rfl rfl ⟨by decide, by decide⟩ H C dX8_far_23
set_option maxRecDepth 100000 in
set_option maxHeartbeats 4000000 in
theorem vX8_far {G : g_G} {X : g_X} {Q : g_R → g_Hp → Prop} (C : g_Cx y_ G X iX8_far) (p0 : Int32) (p1 : Int32) (h : g_Hp) (H : wX8_far p0 p1 h Q) : g_V G X iX8_far 0 0 Q 0 0 0 [(0, vI p0), (1, vI p1)] [] h := by
  refine s_iload_n (pc := 0) C dX8_far_0 rfl 1 rfl ?_
  refine s_iload_n (pc := 1) C dX8_far_1 rfl 0 rfl ?_
  refine s_isub (pc := 2) C dX8_far_2 ?_
  refine s_bipush (pc := 3) C dX8_far_3 (x := (8 : Int32)) (by decide) ?_
  refine s_iadd (pc := 5) C dX8_far_5 ?_
  refine s_bipush (pc := 6) C dX8_far_6 (x := (8 : Int32)) (by decide) ?_
  refine s_irem (pc := 8) C dX8_far_8 H.1 ?_
  have H := H.2
  refine s_namei (fun y1 ey1 => ?_)
  have H := H y1 ey1
  refine s_istore_n (pc := 9) (ls' := [(2, vI y1), (0, vI p0), (1, vI p1)]) C dX8_far_9 rfl (by decide) rfl ?_
  refine s_iload_n (pc := 10) C dX8_far_10 rfl 0 rfl ?_
  refine s_iconst (pc := 11) C dX8_far_11 (x := (4 : Int32)) (by decide) ?_
  refine s_icmp_le (pc := 12) (tgt := 22) C dX8_far_12 (by decide) (fun c => ?_) (fun c => ?_)
  · have H := H.1 c
    refine s_iload_n (pc := 22) C dX8_far_22 rfl 0 rfl ?_
    exact s_sub (ls' := []) [] rfl (vX8_far_b23 C y1 h H)
  · have H := H.2 c
    refine s_bipush (pc := 15) C dX8_far_15 (x := (8 : Int32)) (by decide) ?_
    refine s_iload_n (pc := 17) C dX8_far_17 rfl 0 rfl ?_
    refine s_isub (pc := 18) C dX8_far_18 ?_
    refine s_goto (pc := 19) (tgt := 23) C dX8_far_19 (by decide) ?_
    exact s_sub (ls' := []) [] rfl (vX8_far_b23 C ((8 : Int32) - y1) h H)
theorem ctX8_far (l : Launch) (hl : l.stackTraces = false) {G : g_G} (p0 : Int32) (p1 : Int32) (h : g_Hp) (Q : g_R → g_Hp → Prop) (H : wX8_far p0 p1 h Q) : g_Met l y_ G iX8_far [vI p0, vI p1] h Q :=
  g_Met_of hl (by decide +kernel) rfl rfl (Nat.le_of_ble_eq_true rfl) (fun X C => vX8_far C p0 p1 h H)
/-! X8_adds -/
abbrev iX8_adds : g_I := (RX8, yX8_adds, cX8_adds, 4, (some .int), [], { frames := 3, cells := 0, slots := 0, locals := 62 })
set_option maxRecDepth 100000 in
set_option maxHeartbeats 4000000 in
theorem vX8_adds {G : g_G} {X : g_X} {Q : g_R → g_Hp → Prop} (C : g_Cx y_ G X iX8_adds) (p0 : Int32) (p1 : Int32) (h : g_Hp) (H : wX8_adds p0 p1 h Q) : g_V G X iX8_adds 0 0 Q 0 0 0 [(0, vR 5 0 0), (1, vI p0), (2, vI p1)] [] h := by
  refine s_iload_n (pc := 0) C dX8_adds_0 rfl 1 rfl ?_
  refine s_calls (pc := 1) (nA := 1) (as := [vI p0]) (st := []) (stk := [vI p0]) C (fun l hl => ctX8_isRoof l hl p0 _ _ H) ⟨⟨kw_1586, kw_69, kw_1588⟩, rfl, ⟨by decide, by decide, by decide +kernel⟩, by decide, by decide⟩ kw_1587 rfl (Nat.le_of_ble_eq_true rfl) ⟨by decide, by decide⟩ rfl dX8_adds_1 (g_Kq_I (fun u2 h1 H => ?_) (fun E h1 H => s_prop rfl ⟨by decide, by decide⟩ H C))
  refine s_if_ne (pc := 4) (tgt := 13) C dX8_adds_4 (by decide) (fun c => ?_) (fun c => ?_)
  · have H := H.1 c
    refine s_iload_n (pc := 13) C dX8_adds_13 rfl 2 rfl ?_
    refine s_iconst (pc := 14) C dX8_adds_14 (x := (1 : Int32)) (by decide) ?_
    refine s_bipush (pc := 15) C dX8_adds_15 (x := (20 : Int32)) (by decide) ?_
    refine s_calls (pc := 17) (nA := 3) (as := [vI p1, vI (1 : Int32), vI (20 : Int32)]) (st := []) (stk := [vI (20 : Int32), vI (1 : Int32), vI p1]) C (fun l hl => ctX8_isIn l hl p1 (1 : Int32) (20 : Int32) _ _ H) ⟨⟨kw_1589, kw_69, kw_1591⟩, rfl, ⟨by decide, by decide, by decide +kernel⟩, by decide, by decide⟩ kw_1590 rfl (Nat.le_of_ble_eq_true rfl) ⟨by decide, by decide⟩ rfl dX8_adds_17 (g_Kq_I (fun u4 h3 H => ?_) (fun E h3 H => s_prop rfl ⟨by decide, by decide⟩ H C))
    refine s_if_ne (pc := 20) (tgt := 29) C dX8_adds_20 (by decide) (fun c => ?_) (fun c => ?_)
    · have H := H.1 c
      refine s_aload_n (pc := 29) C dX8_adds_29 rfl 0 rfl ?_
      refine s_getr (pc := 30) (s := 5) (a := 13) (b := 0) (c' := 0) ckX8 (by decide) kw_1510 rfl C dX8_adds_30 ?_
      refine s_iconst (pc := 33) C dX8_adds_33 (x := (0 : Int32)) (by decide) ?_
      refine s_iald (pc := 34) (show ¬ ((0 : Int32) < 0 ∨ 169 ≤ (0 : Int32).toNatClampNeg) by decide) C dX8_adds_34 ?_
      refine s_namei (fun y5 ey5 => ?_)
      have H := H y5 ey5
      refine s_istore_n (pc := 35) (ls' := [(3, vI y5), (0, vR 5 0 0), (1, vI p0), (2, vI p1)]) C dX8_adds_35 rfl (by decide) rfl ?_
      refine s_iload_n (pc := 36) C dX8_adds_36 rfl 0 rfl ?_
      refine s_bipush (pc := 37) C dX8_adds_37 (x := (12 : Int32)) (by decide) ?_
      refine s_icmp_ne (pc := 39) (tgt := 48) C dX8_adds_39 (by decide) (fun c => ?_) (fun c => ?_)
      · have H := H.1 c
        refine s_aload_n (pc := 48) C dX8_adds_48 rfl 1 rfl ?_
        refine s_getr (pc := 49) (s := 5) (a := 13) (b := 0) (c' := 0) ckX8 (by decide) kw_1510 rfl C dX8_adds_49 ?_
        refine s_bipush (pc := 52) C dX8_adds_52 (x := (11 : Int32)) (by decide) ?_
        refine s_iload_n (pc := 54) C dX8_adds_54 rfl 0 rfl ?_
        refine s_iadd (pc := 55) C dX8_adds_55 ?_
        refine s_iload_n (pc := 56) C dX8_adds_56 rfl 2 rfl ?_
        refine s_iast (pc := 57) H.1 C dX8_adds_57 ?_
        have H := H.2
        refine s_name (fun h6 eh6 => ?_)
        have H := H h6 eh6
        refine s_aload_n (pc := 58) C dX8_adds_58 rfl 1 rfl ?_
        refine s_getr (pc := 59) (s := 5) (a := 13) (b := 0) (c' := 0) ckX8 (by decide) kw_1510 rfl C dX8_adds_59 ?_
        refine s_bipush (pc := 62) C dX8_adds_62 (x := (23 : Int32)) (by decide) ?_
        refine s_iload_n (pc := 64) C dX8_adds_64 rfl 0 rfl ?_
        refine s_iadd (pc := 65) C dX8_adds_65 ?_
        refine s_iload_n (pc := 66) C dX8_adds_66 rfl 3 rfl ?_
        refine s_iast (pc := 67) H.1 C dX8_adds_67 ?_
        have H := H.2
        refine s_name (fun h7 eh7 => ?_)
        have H := H h7 eh7
        refine s_aload_n (pc := 68) C dX8_adds_68 rfl 1 rfl ?_
        refine s_getr (pc := 69) (s := 5) (a := 13) (b := 0) (c' := 0) ckX8 (by decide) kw_1510 rfl C dX8_adds_69 ?_
        refine s_iconst (pc := 72) C dX8_adds_72 (x := (0 : Int32)) (by decide) ?_
        refine s_dup2 (pc := 73) C dX8_adds_73 rfl rfl ?_
        refine s_iald (pc := 74) (show ¬ ((0 : Int32) < 0 ∨ 169 ≤ (0 : Int32).toNatClampNeg) by decide) C dX8_adds_74 ?_
        refine s_iconst (pc := 75) C dX8_adds_75 (x := (1 : Int32)) (by decide) ?_
        refine s_iadd (pc := 76) C dX8_adds_76 ?_
        refine s_iast (pc := 77) (show ¬ ((0 : Int32) < 0 ∨ 169 ≤ (0 : Int32).toNatClampNeg) by decide) C dX8_adds_77 ?_
        refine s_name (fun h8 eh8 => ?_)
        have H := H h8 eh8
        refine s_iload_n (pc := 78) C dX8_adds_78 rfl 0 rfl ?_
        exact s_iret (pc := 79) rfl rfl ⟨by decide, by decide⟩ H C dX8_adds_79
      · have H := H.2 c
        refine s_aload_n (pc := 42) C dX8_adds_42 rfl 1 rfl ?_
        refine s_iconst (pc := 43) C dX8_adds_43 (x := (3 : Int32)) (by decide) ?_
        refine s_callv (pc := 44) (nA := 1) (as := [vI (3 : Int32)]) (st := []) (stk := [vI (3 : Int32), vR 5 0 0]) ckX8 (Or.inl rfl) C (fun l hl => ctX8_fail l hl (3 : Int32) _ _ H) ⟨⟨kw_1592, kw_69, kw_1595⟩, rfl, ⟨by decide, by decide, by decide +kernel⟩, by decide, by decide⟩ kw_1594 (g_selW kw_23) rfl (Nat.le_of_ble_eq_true rfl) ⟨by decide, by decide⟩ rfl dX8_adds_44 (g_Kq_I (fun u10 h9 H => ?_) (fun E h9 H => s_prop rfl ⟨by decide, by decide⟩ H C))
        exact s_iret (pc := 47) rfl rfl ⟨by decide, by decide⟩ H C dX8_adds_47
    · have H := H.2 c
      refine s_aload_n (pc := 23) C dX8_adds_23 rfl 0 rfl ?_
      refine s_iconst (pc := 24) C dX8_adds_24 (x := (2 : Int32)) (by decide) ?_
      refine s_callv (pc := 25) (nA := 1) (as := [vI (2 : Int32)]) (st := []) (stk := [vI (2 : Int32), vR 5 0 0]) ckX8 (Or.inl rfl) C (fun l hl => ctX8_fail l hl (2 : Int32) _ _ H) ⟨⟨kw_1592, kw_69, kw_1595⟩, rfl, ⟨by decide, by decide, by decide +kernel⟩, by decide, by decide⟩ kw_1594 (g_selW kw_23) rfl (Nat.le_of_ble_eq_true rfl) ⟨by decide, by decide⟩ rfl dX8_adds_25 (g_Kq_I (fun u12 h11 H => ?_) (fun E h11 H => s_prop rfl ⟨by decide, by decide⟩ H C))
      exact s_iret (pc := 28) rfl rfl ⟨by decide, by decide⟩ H C dX8_adds_28
  · have H := H.2 c
    refine s_aload_n (pc := 7) C dX8_adds_7 rfl 0 rfl ?_
    refine s_iconst (pc := 8) C dX8_adds_8 (x := (1 : Int32)) (by decide) ?_
    refine s_callv (pc := 9) (nA := 1) (as := [vI (1 : Int32)]) (st := []) (stk := [vI (1 : Int32), vR 5 0 0]) ckX8 (Or.inl rfl) C (fun l hl => ctX8_fail l hl (1 : Int32) _ _ H) ⟨⟨kw_1592, kw_69, kw_1595⟩, rfl, ⟨by decide, by decide, by decide +kernel⟩, by decide, by decide⟩ kw_1594 (g_selW kw_23) rfl (Nat.le_of_ble_eq_true rfl) ⟨by decide, by decide⟩ rfl dX8_adds_9 (g_Kq_I (fun u14 h13 H => ?_) (fun E h13 H => s_prop rfl ⟨by decide, by decide⟩ H C))
    exact s_iret (pc := 12) rfl rfl ⟨by decide, by decide⟩ H C dX8_adds_12
theorem ctX8_adds (l : Launch) (hl : l.stackTraces = false) {G : g_G} (p0 : Int32) (p1 : Int32) (h : g_Hp) (Q : g_R → g_Hp → Prop) (H : wX8_adds p0 p1 h Q) : g_Met l y_ G iX8_adds [vR 5 0 0, vI p0, vI p1] h Q :=
  g_Met_of hl (by decide +kernel) rfl rfl (Nat.le_of_ble_eq_true rfl) (fun X C => vX8_adds C p0 p1 h H)
/-! X8_addMember -/
abbrev iX8_addMember : g_I := (RX8, yX8_addMember, cX8_addMember, 3, (some .int), [], { frames := 4, cells := 0, slots := 0, locals := 85 })
set_option maxRecDepth 100000 in
set_option maxHeartbeats 4000000 in
theorem vX8_addMember {G : g_G} {X : g_X} {Q : g_R → g_Hp → Prop} (C : g_Cx y_ G X iX8_addMember) (p0 : Int32) (p1 : Int32) (h : g_Hp) (H : wX8_addMember p0 p1 h Q) : g_V G X iX8_addMember 0 0 Q 0 0 0 [(0, vR 5 0 0), (1, vI p0), (2, vI p1)] [] h := by
  refine s_aload_n (pc := 0) C dX8_addMember_0 rfl 0 rfl ?_
  refine s_callv (pc := 1) (nA := 0) (as := []) (st := []) (stk := [vR 5 0 0]) ckX8 (Or.inl rfl) C (fun l hl => ctX8_begins l hl _ _ H) ⟨⟨kw_1575, kw_69, kw_1578⟩, rfl, ⟨by decide, by decide, by decide +kernel⟩, by decide, by decide⟩ kw_1577 (g_selW kw_21) rfl (Nat.le_of_ble_eq_true rfl) ⟨by decide, by decide⟩ rfl dX8_addMember_1 (g_Kq_V (fun h1 H => ?_) (fun E h1 H => s_prop rfl ⟨by decide, by decide⟩ H C))
  refine s_aload_n (pc := 4) C dX8_addMember_4 rfl 0 rfl ?_
  refine s_aload_n (pc := 5) C dX8_addMember_5 rfl 0 rfl ?_
  refine s_iload_n (pc := 6) C dX8_addMember_6 rfl 1 rfl ?_
  refine s_iload_n (pc := 7) C dX8_addMember_7 rfl 2 rfl ?_
  refine s_callv (pc := 8) (nA := 2) (as := [vI p0, vI p1]) (st := [vR 5 0 0]) (stk := [vI p1, vI p0, vR 5 0 0, vR 5 0 0]) ckX8 (Or.inl rfl) C (fun l hl => ctX8_adds l hl p0 p1 _ _ H) ⟨⟨kw_1582, kw_69, kw_1585⟩, rfl, ⟨by decide, by decide, by decide +kernel⟩, by decide, by decide⟩ kw_1584 (g_selW kw_22) rfl (Nat.le_of_ble_eq_true rfl) ⟨by decide, by decide⟩ rfl dX8_addMember_8 (g_Kq_I (fun u3 h2 H => ?_) (fun E h2 H => s_prop rfl ⟨by decide, by decide⟩ H C))
  refine s_callv (pc := 11) (nA := 1) (as := [vI u3]) (st := []) (stk := [vI u3, vR 5 0 0]) ckX8 (Or.inl rfl) C (fun l hl => ctX8_ends l hl u3 _ _ H) ⟨⟨kw_1596, kw_69, kw_1599⟩, rfl, ⟨by decide, by decide, by decide +kernel⟩, by decide, by decide⟩ kw_1598 (g_selW kw_24) rfl (Nat.le_of_ble_eq_true rfl) ⟨by decide, by decide⟩ rfl dX8_addMember_11 (g_Kq_I (fun u5 h4 H => ?_) (fun E h4 H => s_prop rfl ⟨by decide, by decide⟩ H C))
  exact s_iret (pc := 14) rfl rfl ⟨by decide, by decide⟩ H C dX8_addMember_14
theorem ctX8_addMember (l : Launch) (hl : l.stackTraces = false) {G : g_G} (p0 : Int32) (p1 : Int32) (h : g_Hp) (Q : g_R → g_Hp → Prop) (H : wX8_addMember p0 p1 h Q) : g_Met l y_ G iX8_addMember [vR 5 0 0, vI p0, vI p1] h Q :=
  g_Met_of hl (by decide +kernel) rfl rfl (Nat.le_of_ble_eq_true rfl) (fun X C => vX8_addMember C p0 p1 h H)
/-! X8_tells -/
abbrev iX8_tells : g_I := (RX8, yX8_tells, cX8_tells, 2, (some .int), [], { frames := 1, cells := 0, slots := 0, locals := 20 })
set_option maxRecDepth 100000 in
set_option maxHeartbeats 4000000 in
theorem vX8_tells {G : g_G} {X : g_X} {Q : g_R → g_Hp → Prop} (C : g_Cx y_ G X iX8_tells) (p0 : Int32) (h : g_Hp) (H : wX8_tells p0 h Q) : g_V G X iX8_tells 0 0 Q 0 0 0 [(0, vR 5 0 0), (1, vI p0)] [] h := by
  refine s_aload_n (pc := 0) C dX8_tells_0 rfl 0 rfl ?_
  refine s_iconst (pc := 1) C dX8_tells_1 (x := (0 : Int32)) (by decide) ?_
  refine s_puti (pc := 2) (s := 0) ckX8 (Or.inl rfl) (by decide) kw_1505 (fun _ => rfl) rfl rfl rfl C dX8_tells_2 ?_
  refine s_name (fun h1 eh1 => ?_)
  have H := H h1 eh1
  refine s_aload_n (pc := 5) C dX8_tells_5 rfl 0 rfl ?_
  refine s_getr (pc := 6) (s := 5) (a := 13) (b := 0) (c' := 0) ckX8 (by decide) kw_1510 rfl C dX8_tells_6 ?_
  refine s_iload_n (pc := 9) C dX8_tells_9 rfl 1 rfl ?_
  refine s_iald (pc := 10) H.1 C dX8_tells_10 ?_
  have H := H.2
  exact s_iret (pc := 11) rfl rfl ⟨by decide, by decide⟩ H C dX8_tells_11
theorem ctX8_tells (l : Launch) (hl : l.stackTraces = false) {G : g_G} (p0 : Int32) (h : g_Hp) (Q : g_R → g_Hp → Prop) (H : wX8_tells p0 h Q) : g_Met l y_ G iX8_tells [vR 5 0 0, vI p0] h Q :=
  g_Met_of hl (by decide +kernel) rfl rfl (Nat.le_of_ble_eq_true rfl) (fun X C => vX8_tells C p0 h H)
/-! X8_tellsOf -/
abbrev iX8_tellsOf : g_I := (RX8, yX8_tellsOf, cX8_tellsOf, 3, (some .int), [], { frames := 3, cells := 0, slots := 0, locals := 63 })
set_option maxRecDepth 100000 in
set_option maxHeartbeats 4000000 in
theorem vX8_tellsOf_b36 {G : g_G} {X : g_X} {Q : g_R → g_Hp → Prop} (C : g_Cx y_ G X iX8_tellsOf) (z0 : Int32) (h : g_Hp) (H : wX8_tellsOf_b36 Q z0 h) : g_V G X iX8_tellsOf 0 0 Q 36 0 0 [] [vI z0] h := by
  exact s_iret (pc := 36) rfl rfl ⟨by decide, by decide⟩ H C dX8_tellsOf_36
set_option maxRecDepth 100000 in
set_option maxHeartbeats 4000000 in
theorem vX8_tellsOf_b14 {G : g_G} {X : g_X} {Q : g_R → g_Hp → Prop} (C : g_Cx y_ G X iX8_tellsOf) (x1 : Int32) (x2 : Int32) (z0 : Int32) (h : g_Hp) (H : wX8_tellsOf_b14 Q x1 x2 z0 h) : g_V G X iX8_tellsOf 0 0 Q 14 0 0 [(0, vR 5 0 0), (1, vI x1), (2, vI x2)] [vI z0, vR 5 0 0] h := by
  refine s_puti (pc := 14) (s := 0) ckX8 (Or.inl rfl) (by decide) kw_1505 (fun _ => rfl) rfl rfl rfl C dX8_tellsOf_14 ?_
  refine s_name (fun h1 eh1 => ?_)
  have H := H h1 eh1
  refine s_aload_n (pc := 17) C dX8_tellsOf_17 rfl 0 rfl ?_
  refine s_geti (pc := 18) (s := 0) ckX8 (Or.inl rfl) (by decide) kw_1505 (fun _ => rfl) C dX8_tellsOf_18 ?_
  refine s_if_ne (pc := 21) (tgt := 35) C dX8_tellsOf_21 (by decide) (fun c => ?_) (fun c => ?_)
  · have H := H.1 c
    refine s_iconst (pc := 35) C dX8_tellsOf_35 (x := (0 : Int32)) (by decide) ?_
    exact s_sub (ls' := []) [] rfl (vX8_tellsOf_b36 C (0 : Int32) h1 H)
  · have H := H.2 c
    refine s_aload_n (pc := 24) C dX8_tellsOf_24 rfl 0 rfl ?_
    refine s_getr (pc := 25) (s := 5) (a := 13) (b := 0) (c' := 0) ckX8 (by decide) kw_1510 rfl C dX8_tellsOf_25 ?_
    refine s_iload_n (pc := 28) C dX8_tellsOf_28 rfl 2 rfl ?_
    refine s_iload_n (pc := 29) C dX8_tellsOf_29 rfl 1 rfl ?_
    refine s_iadd (pc := 30) C dX8_tellsOf_30 ?_
    refine s_iald (pc := 31) H.1 C dX8_tellsOf_31 ?_
    have H := H.2
    refine s_goto (pc := 32) (tgt := 36) C dX8_tellsOf_32 (by decide) ?_
    exact s_sub (ls' := []) [] rfl (vX8_tellsOf_b36 C (h1 13 0 0 ((x2 + x1).toNatClampNeg + 1)) h1 H)
set_option maxRecDepth 100000 in
set_option maxHeartbeats 4000000 in
theorem vX8_tellsOf {G : g_G} {X : g_X} {Q : g_R → g_Hp → Prop} (C : g_Cx y_ G X iX8_tellsOf) (p0 : Int32) (p1 : Int32) (h : g_Hp) (H : wX8_tellsOf p0 p1 h Q) : g_V G X iX8_tellsOf 0 0 Q 0 0 0 [(0, vR 5 0 0), (1, vI p0), (2, vI p1)] [] h := by
  refine s_aload_n (pc := 0) C dX8_tellsOf_0 rfl 0 rfl ?_
  refine s_aload_n (pc := 1) C dX8_tellsOf_1 rfl 0 rfl ?_
  refine s_iload_n (pc := 2) C dX8_tellsOf_2 rfl 1 rfl ?_
  refine s_callv (pc := 3) (nA := 1) (as := [vI p0]) (st := [vR 5 0 0]) (stk := [vI p0, vR 5 0 0, vR 5 0 0]) ckX8 (Or.inl rfl) C (fun l hl => ctX8_isMember l hl p0 _ _ H) ⟨⟨kw_1616, kw_69, kw_1619⟩, rfl, ⟨by decide, by decide, by decide +kernel⟩, by decide, by decide⟩ kw_1618 (g_selW kw_27) rfl (Nat.le_of_ble_eq_true rfl) ⟨by decide, by decide⟩ rfl dX8_tellsOf_3 (g_Kq_I (fun u2 h1 H => ?_) (fun E h1 H => s_prop rfl ⟨by decide, by decide⟩ H C))
  refine s_if_eq (pc := 6) (tgt := 13) C dX8_tellsOf_6 (by decide) (fun c => ?_) (fun c => ?_)
  · have H := H.1 c
    refine s_iconst (pc := 13) C dX8_tellsOf_13 (x := (1 : Int32)) (by decide) ?_
    exact s_sub (ls' := [(0, vR 5 0 0), (1, vI p0), (2, vI p1)]) [0, 1, 2] rfl (vX8_tellsOf_b14 C p0 p1 (1 : Int32) h1 H)
  · have H := H.2 c
    refine s_iconst (pc := 9) C dX8_tellsOf_9 (x := (0 : Int32)) (by decide) ?_
    refine s_goto (pc := 10) (tgt := 14) C dX8_tellsOf_10 (by decide) ?_
    exact s_sub (ls' := [(0, vR 5 0 0), (1, vI p0), (2, vI p1)]) [0, 1, 2] rfl (vX8_tellsOf_b14 C p0 p1 (0 : Int32) h1 H)
theorem ctX8_tellsOf (l : Launch) (hl : l.stackTraces = false) {G : g_G} (p0 : Int32) (p1 : Int32) (h : g_Hp) (Q : g_R → g_Hp → Prop) (H : wX8_tellsOf p0 p1 h Q) : g_Met l y_ G iX8_tellsOf [vR 5 0 0, vI p0, vI p1] h Q :=
  g_Met_of hl (by decide +kernel) rfl rfl (Nat.le_of_ble_eq_true rfl) (fun X C => vX8_tellsOf C p0 p1 h H)
/-! X8_memberCount -/
abbrev iX8_memberCount : g_I := (RX8, yX8_memberCount, cX8_memberCount, 1, (some .int), [], { frames := 2, cells := 0, slots := 0, locals := 41 })
set_option maxRecDepth 100000 in
set_option maxHeartbeats 4000000 in
theorem vX8_memberCount {G : g_G} {X : g_X} {Q : g_R → g_Hp → Prop} (C : g_Cx y_ G X iX8_memberCount) (h : g_Hp) (H : wX8_memberCount h Q) : g_V G X iX8_memberCount 0 0 Q 0 0 0 [(0, vR 5 0 0)] [] h := by
  refine s_aload_n (pc := 0) C dX8_memberCount_0 rfl 0 rfl ?_
  refine s_iconst (pc := 1) C dX8_memberCount_1 (x := (0 : Int32)) (by decide) ?_
  refine s_callv (pc := 2) (nA := 1) (as := [vI (0 : Int32)]) (st := []) (stk := [vI (0 : Int32), vR 5 0 0]) ckX8 (Or.inl rfl) C (fun l hl => ctX8_tells l hl (0 : Int32) _ _ H) ⟨⟨kw_1604, kw_69, kw_1607⟩, rfl, ⟨by decide, by decide, by decide +kernel⟩, by decide, by decide⟩ kw_1606 (g_selW kw_25) rfl (Nat.le_of_ble_eq_true rfl) ⟨by decide, by decide⟩ rfl dX8_memberCount_2 (g_Kq_I (fun u2 h1 H => ?_) (fun E h1 H => s_prop rfl ⟨by decide, by decide⟩ H C))
  exact s_iret (pc := 5) rfl rfl ⟨by decide, by decide⟩ H C dX8_memberCount_5
theorem ctX8_memberCount (l : Launch) (hl : l.stackTraces = false) {G : g_G} (h : g_Hp) (Q : g_R → g_Hp → Prop) (H : wX8_memberCount h Q) : g_Met l y_ G iX8_memberCount [vR 5 0 0] h Q :=
  g_Met_of hl (by decide +kernel) rfl rfl (Nat.le_of_ble_eq_true rfl) (fun X C => vX8_memberCount C h H)
/-! X8_roofOf -/
abbrev iX8_roofOf : g_I := (RX8, yX8_roofOf, cX8_roofOf, 2, (some .int), [], { frames := 4, cells := 0, slots := 0, locals := 85 })
set_option maxRecDepth 100000 in
set_option maxHeartbeats 4000000 in
theorem vX8_roofOf {G : g_G} {X : g_X} {Q : g_R → g_Hp → Prop} (C : g_Cx y_ G X iX8_roofOf) (p0 : Int32) (h : g_Hp) (H : wX8_roofOf p0 h Q) : g_V G X iX8_roofOf 0 0 Q 0 0 0 [(0, vR 5 0 0), (1, vI p0)] [] h := by
  refine s_aload_n (pc := 0) C dX8_roofOf_0 rfl 0 rfl ?_
  refine s_iload_n (pc := 1) C dX8_roofOf_1 rfl 1 rfl ?_
  refine s_bipush (pc := 2) C dX8_roofOf_2 (x := (11 : Int32)) (by decide) ?_
  refine s_callv (pc := 4) (nA := 2) (as := [vI p0, vI (11 : Int32)]) (st := []) (stk := [vI (11 : Int32), vI p0, vR 5 0 0]) ckX8 (Or.inl rfl) C (fun l hl => ctX8_tellsOf l hl p0 (11 : Int32) _ _ H) ⟨⟨kw_1612, kw_69, kw_1615⟩, rfl, ⟨by decide, by decide, by decide +kernel⟩, by decide, by decide⟩ kw_1614 (g_selW kw_26) rfl (Nat.le_of_ble_eq_true rfl) ⟨by decide, by decide⟩ rfl dX8_roofOf_4 (g_Kq_I (fun u2 h1 H => ?_) (fun E h1 H => s_prop rfl ⟨by decide, by decide⟩ H C))
  exact s_iret (pc := 7) rfl rfl ⟨by decide, by decide⟩ H C dX8_roofOf_7
theorem ctX8_roofOf (l : Launch) (hl : l.stackTraces = false) {G : g_G} (p0 : Int32) (h : g_Hp) (Q : g_R → g_Hp → Prop) (H : wX8_roofOf p0 h Q) : g_Met l y_ G iX8_roofOf [vR 5 0 0, vI p0] h Q :=
  g_Met_of hl (by decide +kernel) rfl rfl (Nat.le_of_ble_eq_true rfl) (fun X C => vX8_roofOf C p0 h H)
/-! X8_membersOn -/
abbrev iX8_membersOn : g_I := (RX8, yX8_membersOn, cX8_membersOn, 4, (some .int), [], { frames := 3, cells := 0, slots := 0, locals := 62 })
set_option maxRecDepth 100000 in
set_option maxHeartbeats 4000000 in
theorem vX8_membersOn_b49 {G : g_G} {X : g_X} {Q : g_R → g_Hp → Prop} (C : g_Cx y_ G X iX8_membersOn) (R20 : Int32 → Int32 → Int32 → g_Hp → Prop) (hR20 : ∀ (x1 : Int32) (x2 : Int32) (x3 : Int32) (h : g_Hp), R20 x1 x2 x3 h → g_V G X iX8_membersOn 0 0 Q 20 0 0 [(0, vR 5 0 0), (1, vI x1), (2, vI x2), (3, vI x3)] [] h) (x1 : Int32) (x3 : Int32) (z0 : Int32) (z1 : Int32) (h : g_Hp) (H : wX8_membersOn_b49 Q R20 x1 x3 z0 z1 h) : g_V G X iX8_membersOn 0 0 Q 49 0 0 [(0, vR 5 0 0), (1, vI x1), (3, vI x3)] [vI z0, vI z1] h := by
  refine s_iadd (pc := 49) C dX8_membersOn_49 ?_
  refine s_namei (fun y1 ey1 => ?_)
  have H := H y1 ey1
  refine s_istore_n (pc := 50) (ls' := [(2, vI y1), (0, vR 5 0 0), (1, vI x1), (3, vI x3)]) C dX8_membersOn_50 rfl (by decide) rfl ?_
  refine s_iincN (pc := 51) C dX8_membersOn_51 3 rfl (z' := (1 : Int32)) (by decide) (by decide) (fun y2 ey2 => ?_)
  have H := H y2 ey2
  show g_V _ _ _ _ _ _ _ _ _ [(3, vI y2), (2, vI y1), (0, vR 5 0 0), (1, vI x1)] _ _
  refine s_goto (pc := 54) (tgt := 20) C dX8_membersOn_54 (by decide) ?_
  exact s_sub (ls' := [(0, vR 5 0 0), (1, vI x1), (2, vI y1), (3, vI y2)]) [2, 3, 1, 0] rfl (hR20 x1 y1 y2 h H)
set_option maxRecDepth 100000 in
set_option maxHeartbeats 4000000 in
theorem vX8_membersOn_b69 {G : g_G} {X : g_X} {Q : g_R → g_Hp → Prop} (C : g_Cx y_ G X iX8_membersOn) (z0 : Int32) (h : g_Hp) (H : wX8_membersOn_b69 Q z0 h) : g_V G X iX8_membersOn 0 0 Q 69 0 0 [] [vI z0] h := by
  exact s_iret (pc := 69) rfl rfl ⟨by decide, by decide⟩ H C dX8_membersOn_69
set_option maxRecDepth 100000 in
set_option maxHeartbeats 4000000 in
theorem vX8_membersOn_b20_B {G : g_G} {X : g_X} {Q : g_R → g_Hp → Prop} (C : g_Cx y_ G X iX8_membersOn) (R20 : Int32 → Int32 → Int32 → g_Hp → Prop) (hR20 : ∀ (x1 : Int32) (x2 : Int32) (x3 : Int32) (h : g_Hp), R20 x1 x2 x3 h → g_V G X iX8_membersOn 0 0 Q 20 0 0 [(0, vR 5 0 0), (1, vI x1), (2, vI x2), (3, vI x3)] [] h) (x1 : Int32) (x2 : Int32) (x3 : Int32) (h : g_Hp) (H : wX8_membersOn_b20_B Q R20 x1 x2 x3 h) : g_V G X iX8_membersOn 0 0 Q 20 0 0 [(0, vR 5 0 0), (1, vI x1), (2, vI x2), (3, vI x3)] [] h := by
  refine s_iload_n (pc := 20) C dX8_membersOn_20 rfl 3 rfl ?_
  refine s_aload_n (pc := 21) C dX8_membersOn_21 rfl 0 rfl ?_
  refine s_getr (pc := 22) (s := 5) (a := 13) (b := 0) (c' := 0) ckX8 (by decide) kw_1510 rfl C dX8_membersOn_22 ?_
  refine s_iconst (pc := 25) C dX8_membersOn_25 (x := (0 : Int32)) (by decide) ?_
  refine s_iald (pc := 26) (show ¬ ((0 : Int32) < 0 ∨ 169 ≤ (0 : Int32).toNatClampNeg) by decide) C dX8_membersOn_26 ?_
  refine s_icmp_ge (pc := 27) (tgt := 57) C dX8_membersOn_27 (by decide) (fun c => ?_) (fun c => ?_)
  · have H := H.1 c
    refine s_aload_n (pc := 57) C dX8_membersOn_57 rfl 0 rfl ?_
    refine s_geti (pc := 58) (s := 0) ckX8 (Or.inl rfl) (by decide) kw_1505 (fun _ => rfl) C dX8_membersOn_58 ?_
    refine s_if_ne (pc := 61) (tgt := 68) C dX8_membersOn_61 (by decide) (fun c => ?_) (fun c => ?_)
    · have H := H.1 c
      refine s_iconst (pc := 68) C dX8_membersOn_68 (x := (0 : Int32)) (by decide) ?_
      exact s_sub (ls' := []) [] rfl (vX8_membersOn_b69 C (0 : Int32) h H)
    · have H := H.2 c
      refine s_iload_n (pc := 64) C dX8_membersOn_64 rfl 2 rfl ?_
      refine s_goto (pc := 65) (tgt := 69) C dX8_membersOn_65 (by decide) ?_
      exact s_sub (ls' := []) [] rfl (vX8_membersOn_b69 C x2 h H)
  · have H := H.2 c
    refine s_iload_n (pc := 30) C dX8_membersOn_30 rfl 2 rfl ?_
    refine s_aload_n (pc := 31) C dX8_membersOn_31 rfl 0 rfl ?_
    refine s_getr (pc := 32) (s := 5) (a := 13) (b := 0) (c' := 0) ckX8 (by decide) kw_1510 rfl C dX8_membersOn_32 ?_
    refine s_bipush (pc := 35) C dX8_membersOn_35 (x := (11 : Int32)) (by decide) ?_
    refine s_iload_n (pc := 37) C dX8_membersOn_37 rfl 3 rfl ?_
    refine s_iadd (pc := 38) C dX8_membersOn_38 ?_
    refine s_iald (pc := 39) H.1 C dX8_membersOn_39 ?_
    have H := H.2
    refine s_iload_n (pc := 40) C dX8_membersOn_40 rfl 1 rfl ?_
    refine s_icmp_ne (pc := 41) (tgt := 48) C dX8_membersOn_41 (by decide) (fun c => ?_) (fun c => ?_)
    · have H := H.1 c
      refine s_iconst (pc := 48) C dX8_membersOn_48 (x := (0 : Int32)) (by decide) ?_
      exact s_sub (ls' := [(0, vR 5 0 0), (1, vI x1), (3, vI x3)]) [0, 1, 3] rfl (vX8_membersOn_b49 C R20 hR20 x1 x3 (0 : Int32) x2 h H)
    · have H := H.2 c
      refine s_iconst (pc := 44) C dX8_membersOn_44 (x := (1 : Int32)) (by decide) ?_
      refine s_goto (pc := 45) (tgt := 49) C dX8_membersOn_45 (by decide) ?_
      exact s_sub (ls' := [(0, vR 5 0 0), (1, vI x1), (3, vI x3)]) [0, 1, 3] rfl (vX8_membersOn_b49 C R20 hR20 x1 x3 (1 : Int32) x2 h H)
theorem vX8_membersOn_b20 {G : g_G} {X : g_X} {Q : g_R → g_Hp → Prop} (C : g_Cx y_ G X iX8_membersOn) (x1 : Int32) (x2 : Int32) (x3 : Int32) (h : g_Hp) (H : wX8_membersOn_b20 Q x1 x2 x3 h) : g_V G X iX8_membersOn 0 0 Q 20 0 0 [(0, vR 5 0 0), (1, vI x1), (2, vI x2), (3, vI x3)] [] h := by
  obtain ⟨n, H⟩ := H
  induction n generalizing x1 x2 x3 h with
  | zero => exact H.elim
  | succ n ih => exact vX8_membersOn_b20_B C _ (fun x1 x2 x3 h H => ih x1 x2 x3 h H) x1 x2 x3 h H
set_option maxRecDepth 100000 in
set_option maxHeartbeats 4000000 in
theorem vX8_membersOn_b13 {G : g_G} {X : g_X} {Q : g_R → g_Hp → Prop} (C : g_Cx y_ G X iX8_membersOn) (x1 : Int32) (z0 : Int32) (h : g_Hp) (H : wX8_membersOn_b13 Q x1 z0 h) : g_V G X iX8_membersOn 0 0 Q 13 0 0 [(0, vR 5 0 0), (1, vI x1)] [vI z0, vR 5 0 0] h := by
  refine s_puti (pc := 13) (s := 0) ckX8 (Or.inl rfl) (by decide) kw_1505 (fun _ => rfl) rfl rfl rfl C dX8_membersOn_13 ?_
  refine s_name (fun h1 eh1 => ?_)
  have H := H h1 eh1
  refine s_iconst (pc := 16) C dX8_membersOn_16 (x := (0 : Int32)) (by decide) ?_
  refine s_istore_n (pc := 17) (ls' := [(2, vI (0 : Int32)), (0, vR 5 0 0), (1, vI x1)]) C dX8_membersOn_17 rfl (by decide) rfl ?_
  refine s_iconst (pc := 18) C dX8_membersOn_18 (x := (0 : Int32)) (by decide) ?_
  refine s_istore_n (pc := 19) (ls' := [(3, vI (0 : Int32)), (2, vI (0 : Int32)), (0, vR 5 0 0), (1, vI x1)]) C dX8_membersOn_19 rfl (by decide) rfl ?_
  exact s_sub (ls' := [(0, vR 5 0 0), (1, vI x1), (2, vI (0 : Int32)), (3, vI (0 : Int32))]) [2, 3, 1, 0] rfl (vX8_membersOn_b20 C x1 (0 : Int32) (0 : Int32) h1 H)
set_option maxRecDepth 100000 in
set_option maxHeartbeats 4000000 in
theorem vX8_membersOn {G : g_G} {X : g_X} {Q : g_R → g_Hp → Prop} (C : g_Cx y_ G X iX8_membersOn) (p0 : Int32) (h : g_Hp) (H : wX8_membersOn p0 h Q) : g_V G X iX8_membersOn 0 0 Q 0 0 0 [(0, vR 5 0 0), (1, vI p0)] [] h := by
  refine s_aload_n (pc := 0) C dX8_membersOn_0 rfl 0 rfl ?_
  refine s_iload_n (pc := 1) C dX8_membersOn_1 rfl 1 rfl ?_
  refine s_calls (pc := 2) (nA := 1) (as := [vI p0]) (st := [vR 5 0 0]) (stk := [vI p0, vR 5 0 0]) C (fun l hl => ctX8_isRoof l hl p0 _ _ H) ⟨⟨kw_1586, kw_69, kw_1588⟩, rfl, ⟨by decide, by decide, by decide +kernel⟩, by decide, by decide⟩ kw_1587 rfl (Nat.le_of_ble_eq_true rfl) ⟨by decide, by decide⟩ rfl dX8_membersOn_2 (g_Kq_I (fun u2 h1 H => ?_) (fun E h1 H => s_prop rfl ⟨by decide, by decide⟩ H C))
  refine s_if_eq (pc := 5) (tgt := 12) C dX8_membersOn_5 (by decide) (fun c => ?_) (fun c => ?_)
  · have H := H.1 c
    refine s_iconst (pc := 12) C dX8_membersOn_12 (x := (1 : Int32)) (by decide) ?_
    exact s_sub (ls' := [(0, vR 5 0 0), (1, vI p0)]) [0, 1] rfl (vX8_membersOn_b13 C p0 (1 : Int32) h1 H)
  · have H := H.2 c
    refine s_iconst (pc := 8) C dX8_membersOn_8 (x := (0 : Int32)) (by decide) ?_
    refine s_goto (pc := 9) (tgt := 13) C dX8_membersOn_9 (by decide) ?_
    exact s_sub (ls' := [(0, vR 5 0 0), (1, vI p0)]) [0, 1] rfl (vX8_membersOn_b13 C p0 (0 : Int32) h1 H)
theorem ctX8_membersOn (l : Launch) (hl : l.stackTraces = false) {G : g_G} (p0 : Int32) (h : g_Hp) (Q : g_R → g_Hp → Prop) (H : wX8_membersOn p0 h Q) : g_Met l y_ G iX8_membersOn [vR 5 0 0, vI p0] h Q :=
  g_Met_of hl (by decide +kernel) rfl rfl (Nat.le_of_ble_eq_true rfl) (fun X C => vX8_membersOn C p0 h H)
/-! X8_rateOf -/
abbrev iX8_rateOf : g_I := (RX8, yX8_rateOf, cX8_rateOf, 2, (some .int), [], { frames := 4, cells := 0, slots := 0, locals := 85 })
set_option maxRecDepth 100000 in
set_option maxHeartbeats 4000000 in
theorem vX8_rateOf {G : g_G} {X : g_X} {Q : g_R → g_Hp → Prop} (C : g_Cx y_ G X iX8_rateOf) (p0 : Int32) (h : g_Hp) (H : wX8_rateOf p0 h Q) : g_V G X iX8_rateOf 0 0 Q 0 0 0 [(0, vR 5 0 0), (1, vI p0)] [] h := by
  refine s_aload_n (pc := 0) C dX8_rateOf_0 rfl 0 rfl ?_
  refine s_iload_n (pc := 1) C dX8_rateOf_1 rfl 1 rfl ?_
  refine s_bipush (pc := 2) C dX8_rateOf_2 (x := (23 : Int32)) (by decide) ?_
  refine s_callv (pc := 4) (nA := 2) (as := [vI p0, vI (23 : Int32)]) (st := []) (stk := [vI (23 : Int32), vI p0, vR 5 0 0]) ckX8 (Or.inl rfl) C (fun l hl => ctX8_tellsOf l hl p0 (23 : Int32) _ _ H) ⟨⟨kw_1612, kw_69, kw_1615⟩, rfl, ⟨by decide, by decide, by decide +kernel⟩, by decide, by decide⟩ kw_1614 (g_selW kw_26) rfl (Nat.le_of_ble_eq_true rfl) ⟨by decide, by decide⟩ rfl dX8_rateOf_4 (g_Kq_I (fun u2 h1 H => ?_) (fun E h1 H => s_prop rfl ⟨by decide, by decide⟩ H C))
  exact s_iret (pc := 7) rfl rfl ⟨by decide, by decide⟩ H C dX8_rateOf_7
theorem ctX8_rateOf (l : Launch) (hl : l.stackTraces = false) {G : g_G} (p0 : Int32) (h : g_Hp) (Q : g_R → g_Hp → Prop) (H : wX8_rateOf p0 h Q) : g_Met l y_ G iX8_rateOf [vR 5 0 0, vI p0] h Q :=
  g_Met_of hl (by decide +kernel) rfl rfl (Nat.le_of_ble_eq_true rfl) (fun X C => vX8_rateOf C p0 h H)
/-! X8_bearingOf -/
abbrev iX8_bearingOf : g_I := (RX8, yX8_bearingOf, cX8_bearingOf, 2, (some .int), [], { frames := 4, cells := 0, slots := 0, locals := 85 })
set_option maxRecDepth 100000 in
set_option maxHeartbeats 4000000 in
theorem vX8_bearingOf {G : g_G} {X : g_X} {Q : g_R → g_Hp → Prop} (C : g_Cx y_ G X iX8_bearingOf) (p0 : Int32) (h : g_Hp) (H : wX8_bearingOf p0 h Q) : g_V G X iX8_bearingOf 0 0 Q 0 0 0 [(0, vR 5 0 0), (1, vI p0)] [] h := by
  refine s_aload_n (pc := 0) C dX8_bearingOf_0 rfl 0 rfl ?_
  refine s_iload_n (pc := 1) C dX8_bearingOf_1 rfl 1 rfl ?_
  refine s_bipush (pc := 2) C dX8_bearingOf_2 (x := (35 : Int32)) (by decide) ?_
  refine s_callv (pc := 4) (nA := 2) (as := [vI p0, vI (35 : Int32)]) (st := []) (stk := [vI (35 : Int32), vI p0, vR 5 0 0]) ckX8 (Or.inl rfl) C (fun l hl => ctX8_tellsOf l hl p0 (35 : Int32) _ _ H) ⟨⟨kw_1612, kw_69, kw_1615⟩, rfl, ⟨by decide, by decide, by decide +kernel⟩, by decide, by decide⟩ kw_1614 (g_selW kw_26) rfl (Nat.le_of_ble_eq_true rfl) ⟨by decide, by decide⟩ rfl dX8_bearingOf_4 (g_Kq_I (fun u2 h1 H => ?_) (fun E h1 H => s_prop rfl ⟨by decide, by decide⟩ H C))
  exact s_iret (pc := 7) rfl rfl ⟨by decide, by decide⟩ H C dX8_bearingOf_7
theorem ctX8_bearingOf (l : Launch) (hl : l.stackTraces = false) {G : g_G} (p0 : Int32) (h : g_Hp) (Q : g_R → g_Hp → Prop) (H : wX8_bearingOf p0 h Q) : g_Met l y_ G iX8_bearingOf [vR 5 0 0, vI p0] h Q :=
  g_Met_of hl (by decide +kernel) rfl rfl (Nat.le_of_ble_eq_true rfl) (fun X C => vX8_bearingOf C p0 h H)
/-! X8_wagesOf -/
abbrev iX8_wagesOf : g_I := (RX8, yX8_wagesOf, cX8_wagesOf, 2, (some .int), [], { frames := 4, cells := 0, slots := 0, locals := 85 })
set_option maxRecDepth 100000 in
set_option maxHeartbeats 4000000 in
theorem vX8_wagesOf {G : g_G} {X : g_X} {Q : g_R → g_Hp → Prop} (C : g_Cx y_ G X iX8_wagesOf) (p0 : Int32) (h : g_Hp) (H : wX8_wagesOf p0 h Q) : g_V G X iX8_wagesOf 0 0 Q 0 0 0 [(0, vR 5 0 0), (1, vI p0)] [] h := by
  refine s_aload_n (pc := 0) C dX8_wagesOf_0 rfl 0 rfl ?_
  refine s_iload_n (pc := 1) C dX8_wagesOf_1 rfl 1 rfl ?_
  refine s_bipush (pc := 2) C dX8_wagesOf_2 (x := (47 : Int32)) (by decide) ?_
  refine s_callv (pc := 4) (nA := 2) (as := [vI p0, vI (47 : Int32)]) (st := []) (stk := [vI (47 : Int32), vI p0, vR 5 0 0]) ckX8 (Or.inl rfl) C (fun l hl => ctX8_tellsOf l hl p0 (47 : Int32) _ _ H) ⟨⟨kw_1612, kw_69, kw_1615⟩, rfl, ⟨by decide, by decide, by decide +kernel⟩, by decide, by decide⟩ kw_1614 (g_selW kw_26) rfl (Nat.le_of_ble_eq_true rfl) ⟨by decide, by decide⟩ rfl dX8_wagesOf_4 (g_Kq_I (fun u2 h1 H => ?_) (fun E h1 H => s_prop rfl ⟨by decide, by decide⟩ H C))
  exact s_iret (pc := 7) rfl rfl ⟨by decide, by decide⟩ H C dX8_wagesOf_7
theorem ctX8_wagesOf (l : Launch) (hl : l.stackTraces = false) {G : g_G} (p0 : Int32) (h : g_Hp) (Q : g_R → g_Hp → Prop) (H : wX8_wagesOf p0 h Q) : g_Met l y_ G iX8_wagesOf [vR 5 0 0, vI p0] h Q :=
  g_Met_of hl (by decide +kernel) rfl rfl (Nat.le_of_ble_eq_true rfl) (fun X C => vX8_wagesOf C p0 h H)
/-! X8_supportOf -/
abbrev iX8_supportOf : g_I := (RX8, yX8_supportOf, cX8_supportOf, 2, (some .int), [], { frames := 4, cells := 0, slots := 0, locals := 85 })
set_option maxRecDepth 100000 in
set_option maxHeartbeats 4000000 in
theorem vX8_supportOf {G : g_G} {X : g_X} {Q : g_R → g_Hp → Prop} (C : g_Cx y_ G X iX8_supportOf) (p0 : Int32) (h : g_Hp) (H : wX8_supportOf p0 h Q) : g_V G X iX8_supportOf 0 0 Q 0 0 0 [(0, vR 5 0 0), (1, vI p0)] [] h := by
  refine s_aload_n (pc := 0) C dX8_supportOf_0 rfl 0 rfl ?_
  refine s_iload_n (pc := 1) C dX8_supportOf_1 rfl 1 rfl ?_
  refine s_bipush (pc := 2) C dX8_supportOf_2 (x := (59 : Int32)) (by decide) ?_
  refine s_callv (pc := 4) (nA := 2) (as := [vI p0, vI (59 : Int32)]) (st := []) (stk := [vI (59 : Int32), vI p0, vR 5 0 0]) ckX8 (Or.inl rfl) C (fun l hl => ctX8_tellsOf l hl p0 (59 : Int32) _ _ H) ⟨⟨kw_1612, kw_69, kw_1615⟩, rfl, ⟨by decide, by decide, by decide +kernel⟩, by decide, by decide⟩ kw_1614 (g_selW kw_26) rfl (Nat.le_of_ble_eq_true rfl) ⟨by decide, by decide⟩ rfl dX8_supportOf_4 (g_Kq_I (fun u2 h1 H => ?_) (fun E h1 H => s_prop rfl ⟨by decide, by decide⟩ H C))
  exact s_iret (pc := 7) rfl rfl ⟨by decide, by decide⟩ H C dX8_supportOf_7
theorem ctX8_supportOf (l : Launch) (hl : l.stackTraces = false) {G : g_G} (p0 : Int32) (h : g_Hp) (Q : g_R → g_Hp → Prop) (H : wX8_supportOf p0 h Q) : g_Met l y_ G iX8_supportOf [vR 5 0 0, vI p0] h Q :=
  g_Met_of hl (by decide +kernel) rfl rfl (Nat.le_of_ble_eq_true rfl) (fun X C => vX8_supportOf C p0 h H)
/-! X8_lostShifts -/
abbrev iX8_lostShifts : g_I := (RX8, yX8_lostShifts, cX8_lostShifts, 2, (some .int), [], { frames := 4, cells := 0, slots := 0, locals := 85 })
set_option maxRecDepth 100000 in
set_option maxHeartbeats 4000000 in
theorem vX8_lostShifts {G : g_G} {X : g_X} {Q : g_R → g_Hp → Prop} (C : g_Cx y_ G X iX8_lostShifts) (p0 : Int32) (h : g_Hp) (H : wX8_lostShifts p0 h Q) : g_V G X iX8_lostShifts 0 0 Q 0 0 0 [(0, vR 5 0 0), (1, vI p0)] [] h := by
  refine s_aload_n (pc := 0) C dX8_lostShifts_0 rfl 0 rfl ?_
  refine s_iload_n (pc := 1) C dX8_lostShifts_1 rfl 1 rfl ?_
  refine s_bipush (pc := 2) C dX8_lostShifts_2 (x := (71 : Int32)) (by decide) ?_
  refine s_callv (pc := 4) (nA := 2) (as := [vI p0, vI (71 : Int32)]) (st := []) (stk := [vI (71 : Int32), vI p0, vR 5 0 0]) ckX8 (Or.inl rfl) C (fun l hl => ctX8_tellsOf l hl p0 (71 : Int32) _ _ H) ⟨⟨kw_1612, kw_69, kw_1615⟩, rfl, ⟨by decide, by decide, by decide +kernel⟩, by decide, by decide⟩ kw_1614 (g_selW kw_26) rfl (Nat.le_of_ble_eq_true rfl) ⟨by decide, by decide⟩ rfl dX8_lostShifts_4 (g_Kq_I (fun u2 h1 H => ?_) (fun E h1 H => s_prop rfl ⟨by decide, by decide⟩ H C))
  exact s_iret (pc := 7) rfl rfl ⟨by decide, by decide⟩ H C dX8_lostShifts_7
theorem ctX8_lostShifts (l : Launch) (hl : l.stackTraces = false) {G : g_G} (p0 : Int32) (h : g_Hp) (Q : g_R → g_Hp → Prop) (H : wX8_lostShifts p0 h Q) : g_Met l y_ G iX8_lostShifts [vR 5 0 0, vI p0] h Q :=
  g_Met_of hl (by decide +kernel) rfl rfl (Nat.le_of_ble_eq_true rfl) (fun X C => vX8_lostShifts C p0 h H)
/-! X8_lostDays -/
abbrev iX8_lostDays : g_I := (RX8, yX8_lostDays, cX8_lostDays, 2, (some .float), [], { frames := 4, cells := 0, slots := 0, locals := 85 })
set_option maxRecDepth 100000 in
set_option maxHeartbeats 4000000 in
theorem vX8_lostDays {G : g_G} {X : g_X} {Q : g_R → g_Hp → Prop} (C : g_Cx y_ G X iX8_lostDays) (p0 : Int32) (h : g_Hp) (H : wX8_lostDays p0 h Q) : g_V G X iX8_lostDays 0 0 Q 0 0 0 [(0, vR 5 0 0), (1, vI p0)] [] h := by
  refine s_aload_n (pc := 0) C dX8_lostDays_0 rfl 0 rfl ?_
  refine s_iload_n (pc := 1) C dX8_lostDays_1 rfl 1 rfl ?_
  refine s_bipush (pc := 2) C dX8_lostDays_2 (x := (71 : Int32)) (by decide) ?_
  refine s_callv (pc := 4) (nA := 2) (as := [vI p0, vI (71 : Int32)]) (st := []) (stk := [vI (71 : Int32), vI p0, vR 5 0 0]) ckX8 (Or.inl rfl) C (fun l hl => ctX8_tellsOf l hl p0 (71 : Int32) _ _ H) ⟨⟨kw_1612, kw_69, kw_1615⟩, rfl, ⟨by decide, by decide, by decide +kernel⟩, by decide, by decide⟩ kw_1614 (g_selW kw_26) rfl (Nat.le_of_ble_eq_true rfl) ⟨by decide, by decide⟩ rfl dX8_lostDays_4 (g_Kq_I (fun u2 h1 H => ?_) (fun E h1 H => s_prop rfl ⟨by decide, by decide⟩ H C))
  refine s_i2f (pc := 7) C dX8_lostDays_7 ?_
  refine s_ldcf (pc := 8) C kw_1648 dX8_lostDays_8 ?_
  refine s_fdiv (pc := 10) C dX8_lostDays_10 H.1 ?_
  have H := H.2
  exact s_fret (pc := 11) rfl ⟨by decide, by decide⟩ H C dX8_lostDays_11
theorem ctX8_lostDays (l : Launch) (hl : l.stackTraces = false) {G : g_G} (p0 : Int32) (h : g_Hp) (Q : g_R → g_Hp → Prop) (H : wX8_lostDays p0 h Q) : g_Met l y_ G iX8_lostDays [vR 5 0 0, vI p0] h Q :=
  g_Met_of hl (by decide +kernel) rfl rfl (Nat.le_of_ble_eq_true rfl) (fun X C => vX8_lostDays C p0 h H)
/-! X8_dutiesOf -/
abbrev iX8_dutiesOf : g_I := (RX8, yX8_dutiesOf, cX8_dutiesOf, 2, (some .int), [], { frames := 4, cells := 0, slots := 0, locals := 85 })
set_option maxRecDepth 100000 in
set_option maxHeartbeats 4000000 in
theorem vX8_dutiesOf {G : g_G} {X : g_X} {Q : g_R → g_Hp → Prop} (C : g_Cx y_ G X iX8_dutiesOf) (p0 : Int32) (h : g_Hp) (H : wX8_dutiesOf p0 h Q) : g_V G X iX8_dutiesOf 0 0 Q 0 0 0 [(0, vR 5 0 0), (1, vI p0)] [] h := by
  refine s_aload_n (pc := 0) C dX8_dutiesOf_0 rfl 0 rfl ?_
  refine s_iload_n (pc := 1) C dX8_dutiesOf_1 rfl 1 rfl ?_
  refine s_bipush (pc := 2) C dX8_dutiesOf_2 (x := (83 : Int32)) (by decide) ?_
  refine s_callv (pc := 4) (nA := 2) (as := [vI p0, vI (83 : Int32)]) (st := []) (stk := [vI (83 : Int32), vI p0, vR 5 0 0]) ckX8 (Or.inl rfl) C (fun l hl => ctX8_tellsOf l hl p0 (83 : Int32) _ _ H) ⟨⟨kw_1612, kw_69, kw_1615⟩, rfl, ⟨by decide, by decide, by decide +kernel⟩, by decide, by decide⟩ kw_1614 (g_selW kw_26) rfl (Nat.le_of_ble_eq_true rfl) ⟨by decide, by decide⟩ rfl dX8_dutiesOf_4 (g_Kq_I (fun u2 h1 H => ?_) (fun E h1 H => s_prop rfl ⟨by decide, by decide⟩ H C))
  exact s_iret (pc := 7) rfl rfl ⟨by decide, by decide⟩ H C dX8_dutiesOf_7
theorem ctX8_dutiesOf (l : Launch) (hl : l.stackTraces = false) {G : g_G} (p0 : Int32) (h : g_Hp) (Q : g_R → g_Hp → Prop) (H : wX8_dutiesOf p0 h Q) : g_Met l y_ G iX8_dutiesOf [vR 5 0 0, vI p0] h Q :=
  g_Met_of hl (by decide +kernel) rfl rfl (Nat.le_of_ble_eq_true rfl) (fun X C => vX8_dutiesOf C p0 h H)
