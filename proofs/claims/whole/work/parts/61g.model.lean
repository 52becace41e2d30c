/-! X8_settles -/
abbrev iX8_settles : g_I := (RX8, yX8_settles, cX8_settles, 2, none, [], { frames := 2, cells := 0, slots := 0, locals := 42 })
set_option maxRecDepth 100000 in
set_option maxHeartbeats 4000000 in
theorem vX8_settles_b93_B {G : g_G} {X : g_X} {Q : g_R → g_Hp → Prop} (C : g_Cx y_ G X iX8_settles) (R93 : Int32 → g_Hp → Prop) (hR93 : ∀ (x1 : Int32) (h : g_Hp), R93 x1 h → g_V G X iX8_settles 0 0 Q 93 0 0 [(0, vR 5 0 0), (1, vI x1)] [] h) (x1 : Int32) (h : g_Hp) (H : wX8_settles_b93_B Q R93 x1 h) : g_V G X iX8_settles 0 0 Q 93 0 0 [(0, vR 5 0 0), (1, vI x1)] [] h := by
  refine s_iload_n (pc := 93) C dX8_settles_93 rfl 1 rfl ?_
  refine s_sipush (pc := 94) C dX8_settles_94 (x := (169 : Int32)) (by decide) ?_
  refine s_icmp_ge (pc := 97) (tgt := 113) C dX8_settles_97 (by decide) (fun c => ?_) (fun c => ?_)
  · have H := H.1 c
    exact s_vret (pc := 113) rfl ⟨by decide, by decide⟩ H C dX8_settles_113
  · have H := H.2 c
    refine s_aload_n (pc := 100) C dX8_settles_100 rfl 0 rfl ?_
    refine s_getr (pc := 101) (s := 5) (a := 13) (b := 0) (c' := 0) ckX8 (by decide) kw_1510 rfl C dX8_settles_101 ?_
    refine s_iload_n (pc := 104) C dX8_settles_104 rfl 1 rfl ?_
    refine s_iconst (pc := 105) C dX8_settles_105 (x := (0 : Int32)) (by decide) ?_
    refine s_iast (pc := 106) H.1 C dX8_settles_106 ?_
    have H := H.2
    refine s_name (fun h1 eh1 => ?_)
    have H := H h1 eh1
    refine s_iincN (pc := 107) C dX8_settles_107 1 rfl (z' := (1 : Int32)) (by decide) (by decide) (fun y2 ey2 => ?_)
    have H := H y2 ey2
    show g_V _ _ _ _ _ _ _ _ _ [(1, vI y2), (0, vR 5 0 0)] _ _
    refine s_goto (pc := 110) (tgt := 93) C dX8_settles_110 (by decide) ?_
    exact s_sub (ls' := [(0, vR 5 0 0), (1, vI y2)]) [1, 0] rfl (hR93 y2 h1 H)
theorem vX8_settles_b93 {G : g_G} {X : g_X} {Q : g_R → g_Hp → Prop} (C : g_Cx y_ G X iX8_settles) (x1 : Int32) (h : g_Hp) (H : wX8_settles_b93 Q x1 h) : g_V G X iX8_settles 0 0 Q 93 0 0 [(0, vR 5 0 0), (1, vI x1)] [] h := by
  obtain ⟨n, H⟩ := H
  induction n generalizing x1 h with
  | zero => exact H.elim
  | succ n ih => exact vX8_settles_b93_B C _ (fun x1 h H => ih x1 h H) x1 h H
set_option maxRecDepth 100000 in
set_option maxHeartbeats 4000000 in
theorem vX8_settles_b68_B {G : g_G} {X : g_X} {Q : g_R → g_Hp → Prop} (C : g_Cx y_ G X iX8_settles) (R68 : Int32 → g_Hp → Prop) (hR68 : ∀ (x1 : Int32) (h : g_Hp), R68 x1 h → g_V G X iX8_settles 0 0 Q 68 0 0 [(0, vR 5 0 0), (1, vI x1)] [] h) (x1 : Int32) (h : g_Hp) (H : wX8_settles_b68_B Q R68 x1 h) : g_V G X iX8_settles 0 0 Q 68 0 0 [(0, vR 5 0 0), (1, vI x1)] [] h := by
  refine s_iload_n (pc := 68) C dX8_settles_68 rfl 1 rfl ?_
  refine s_bipush (pc := 69) C dX8_settles_69 (x := (12 : Int32)) (by decide) ?_
  refine s_icmp_ge (pc := 71) (tgt := 90) C dX8_settles_71 (by decide) (fun c => ?_) (fun c => ?_)
  · have H := H.1 c
    refine s_bipush (pc := 90) C dX8_settles_90 (x := (119 : Int32)) (by decide) ?_
    refine s_istore_n (pc := 92) (ls' := [(1, vI (119 : Int32)), (0, vR 5 0 0)]) C dX8_settles_92 rfl (by decide) rfl ?_
    exact s_sub (ls' := [(0, vR 5 0 0), (1, vI (119 : Int32))]) [1, 0] rfl (vX8_settles_b93 C (119 : Int32) h H)
  · have H := H.2 c
    refine s_aload_n (pc := 74) C dX8_settles_74 rfl 0 rfl ?_
    refine s_getr (pc := 75) (s := 5) (a := 13) (b := 0) (c' := 0) ckX8 (by decide) kw_1510 rfl C dX8_settles_75 ?_
    refine s_bipush (pc := 78) C dX8_settles_78 (x := (107 : Int32)) (by decide) ?_
    refine s_iload_n (pc := 80) C dX8_settles_80 rfl 1 rfl ?_
    refine s_iadd (pc := 81) C dX8_settles_81 ?_
    refine s_iconst (pc := 82) C dX8_settles_82 (x := (0 : Int32)) (by decide) ?_
    refine s_iast (pc := 83) H.1 C dX8_settles_83 ?_
    have H := H.2
    refine s_name (fun h1 eh1 => ?_)
    have H := H h1 eh1
    refine s_iincN (pc := 84) C dX8_settles_84 1 rfl (z' := (1 : Int32)) (by decide) (by decide) (fun y2 ey2 => ?_)
    have H := H y2 ey2
    show g_V _ _ _ _ _ _ _ _ _ [(1, vI y2), (0, vR 5 0 0)] _ _
    refine s_goto (pc := 87) (tgt := 68) C dX8_settles_87 (by decide) ?_
    exact s_sub (ls' := [(0, vR 5 0 0), (1, vI y2)]) [1, 0] rfl (hR68 y2 h1 H)
theorem vX8_settles_b68 {G : g_G} {X : g_X} {Q : g_R → g_Hp → Prop} (C : g_Cx y_ G X iX8_settles) (x1 : Int32) (h : g_Hp) (H : wX8_settles_b68 Q x1 h) : g_V G X iX8_settles 0 0 Q 68 0 0 [(0, vR 5 0 0), (1, vI x1)] [] h := by
  obtain ⟨n, H⟩ := H
  induction n generalizing x1 h with
  | zero => exact H.elim
  | succ n ih => exact vX8_settles_b68_B C _ (fun x1 h H => ih x1 h H) x1 h H
set_option maxRecDepth 100000 in
set_option maxHeartbeats 4000000 in
theorem vX8_settles_b2_B {G : g_G} {X : g_X} {Q : g_R → g_Hp → Prop} (C : g_Cx y_ G X iX8_settles) (R2 : Int32 → g_Hp → Prop) (hR2 : ∀ (x1 : Int32) (h : g_Hp), R2 x1 h → g_V G X iX8_settles 0 0 Q 2 0 0 [(0, vR 5 0 0), (1, vI x1)] [] h) (x1 : Int32) (h : g_Hp) (H : wX8_settles_b2_B Q R2 x1 h) : g_V G X iX8_settles 0 0 Q 2 0 0 [(0, vR 5 0 0), (1, vI x1)] [] h := by
  refine s_iload_n (pc := 2) C dX8_settles_2 rfl 1 rfl ?_
  refine s_aload_n (pc := 3) C dX8_settles_3 rfl 0 rfl ?_
  refine s_getr (pc := 4) (s := 5) (a := 13) (b := 0) (c' := 0) ckX8 (by decide) kw_1510 rfl C dX8_settles_4 ?_
  refine s_iconst (pc := 7) C dX8_settles_7 (x := (0 : Int32)) (by decide) ?_
  refine s_iald (pc := 8) (show ¬ ((0 : Int32) < 0 ∨ 169 ≤ (0 : Int32).toNatClampNeg) by decide) C dX8_settles_8 ?_
  refine s_icmp_ge (pc := 9) (tgt := 32) C dX8_settles_9 (by decide) (fun c => ?_) (fun c => ?_)
  · have H := H.1 c
    refine s_aload_n (pc := 32) C dX8_settles_32 rfl 0 rfl ?_
    refine s_getr (pc := 33) (s := 5) (a := 13) (b := 0) (c' := 0) ckX8 (by decide) kw_1510 rfl C dX8_settles_33 ?_
    refine s_iconst (pc := 36) C dX8_settles_36 (x := (4 : Int32)) (by decide) ?_
    refine s_iconst (pc := 37) C dX8_settles_37 (x := (0 : Int32)) (by decide) ?_
    refine s_iast (pc := 38) (show ¬ ((4 : Int32) < 0 ∨ 169 ≤ (4 : Int32).toNatClampNeg) by decide) C dX8_settles_38 ?_
    refine s_name (fun h1 eh1 => ?_)
    have H := H h1 eh1
    refine s_aload_n (pc := 39) C dX8_settles_39 rfl 0 rfl ?_
    refine s_getr (pc := 40) (s := 5) (a := 13) (b := 0) (c' := 0) ckX8 (by decide) kw_1510 rfl C dX8_settles_40 ?_
    refine s_bipush (pc := 43) C dX8_settles_43 (x := (6 : Int32)) (by decide) ?_
    refine s_iconst (pc := 45) C dX8_settles_45 (x := (0 : Int32)) (by decide) ?_
    refine s_iast (pc := 46) (show ¬ ((6 : Int32) < 0 ∨ 169 ≤ (6 : Int32).toNatClampNeg) by decide) C dX8_settles_46 ?_
    refine s_name (fun h2 eh2 => ?_)
    have H := H h2 eh2
    refine s_aload_n (pc := 47) C dX8_settles_47 rfl 0 rfl ?_
    refine s_getr (pc := 48) (s := 5) (a := 13) (b := 0) (c' := 0) ckX8 (by decide) kw_1510 rfl C dX8_settles_48 ?_
    refine s_bipush (pc := 51) C dX8_settles_51 (x := (8 : Int32)) (by decide) ?_
    refine s_iconst (pc := 53) C dX8_settles_53 (x := (0 : Int32)) (by decide) ?_
    refine s_iast (pc := 54) (show ¬ ((8 : Int32) < 0 ∨ 169 ≤ (8 : Int32).toNatClampNeg) by decide) C dX8_settles_54 ?_
    refine s_name (fun h3 eh3 => ?_)
    have H := H h3 eh3
    refine s_aload_n (pc := 55) C dX8_settles_55 rfl 0 rfl ?_
    refine s_getr (pc := 56) (s := 5) (a := 13) (b := 0) (c' := 0) ckX8 (by decide) kw_1510 rfl C dX8_settles_56 ?_
    refine s_bipush (pc := 59) C dX8_settles_59 (x := (10 : Int32)) (by decide) ?_
    refine s_dup2 (pc := 61) C dX8_settles_61 rfl rfl ?_
    refine s_iald (pc := 62) (show ¬ ((10 : Int32) < 0 ∨ 169 ≤ (10 : Int32).toNatClampNeg) by decide) C dX8_settles_62 ?_
    refine s_iconst (pc := 63) C dX8_settles_63 (x := (1 : Int32)) (by decide) ?_
    refine s_iadd (pc := 64) C dX8_settles_64 ?_
    refine s_iast (pc := 65) (show ¬ ((10 : Int32) < 0 ∨ 169 ≤ (10 : Int32).toNatClampNeg) by decide) C dX8_settles_65 ?_
    refine s_name (fun h4 eh4 => ?_)
    have H := H h4 eh4
    refine s_iconst (pc := 66) C dX8_settles_66 (x := (0 : Int32)) (by decide) ?_
    refine s_istore_n (pc := 67) (ls' := [(1, vI (0 : Int32)), (0, vR 5 0 0)]) C dX8_settles_67 rfl (by decide) rfl ?_
    exact s_sub (ls' := [(0, vR 5 0 0), (1, vI (0 : Int32))]) [1, 0] rfl (vX8_settles_b68 C (0 : Int32) h4 H)
  · have H := H.2 c
    refine s_aload_n (pc := 12) C dX8_settles_12 rfl 0 rfl ?_
    refine s_getr (pc := 13) (s := 5) (a := 13) (b := 0) (c' := 0) ckX8 (by decide) kw_1510 rfl C dX8_settles_13 ?_
    refine s_bipush (pc := 16) C dX8_settles_16 (x := (23 : Int32)) (by decide) ?_
    refine s_iload_n (pc := 18) C dX8_settles_18 rfl 1 rfl ?_
    refine s_iadd (pc := 19) C dX8_settles_19 ?_
    refine s_aload_n (pc := 20) C dX8_settles_20 rfl 0 rfl ?_
    refine s_iload_n (pc := 21) C dX8_settles_21 rfl 1 rfl ?_
    refine s_callv (pc := 22) (nA := 1) (as := [vI x1]) (st := [vI ((23 : Int32) + x1), vR 13 0 0]) (stk := [vI x1, vR 5 0 0, vI ((23 : Int32) + x1), vR 13 0 0]) ckX8 (Or.inl rfl) C (fun l hl => ctX8_grown l hl x1 _ _ H) ⟨⟨kw_1825, kw_69, kw_1828⟩, rfl, ⟨by decide, by decide, by decide +kernel⟩, by decide, by decide⟩ kw_1827 (g_selW kw_43) rfl (Nat.le_of_ble_eq_true rfl) ⟨by decide, by decide⟩ rfl dX8_settles_22 (g_Kq_I (fun u6 h5 H => ?_) (fun E h5 H => s_prop rfl ⟨by decide, by decide⟩ H C))
    refine s_iast (pc := 25) H.1 C dX8_settles_25 ?_
    have H := H.2
    refine s_name (fun h7 eh7 => ?_)
    have H := H h7 eh7
    refine s_iincN (pc := 26) C dX8_settles_26 1 rfl (z' := (1 : Int32)) (by decide) (by decide) (fun y8 ey8 => ?_)
    have H := H y8 ey8
    show g_V _ _ _ _ _ _ _ _ _ [(1, vI y8), (0, vR 5 0 0)] _ _
    refine s_goto (pc := 29) (tgt := 2) C dX8_settles_29 (by decide) ?_
    exact s_sub (ls' := [(0, vR 5 0 0), (1, vI y8)]) [1, 0] rfl (hR2 y8 h7 H)
theorem vX8_settles_b2 {G : g_G} {X : g_X} {Q : g_R → g_Hp → Prop} (C : g_Cx y_ G X iX8_settles) (x1 : Int32) (h : g_Hp) (H : wX8_settles_b2 Q x1 h) : g_V G X iX8_settles 0 0 Q 2 0 0 [(0, vR 5 0 0), (1, vI x1)] [] h := by
  obtain ⟨n, H⟩ := H
  induction n generalizing x1 h with
  | zero => exact H.elim
  | succ n ih => exact vX8_settles_b2_B C _ (fun x1 h H => ih x1 h H) x1 h H
set_option maxRecDepth 100000 in
set_option maxHeartbeats 4000000 in
theorem vX8_settles {G : g_G} {X : g_X} {Q : g_R → g_Hp → Prop} (C : g_Cx y_ G X iX8_settles) (h : g_Hp) (H : wX8_settles h Q) : g_V G X iX8_settles 0 0 Q 0 0 0 [(0, vR 5 0 0)] [] h := by
  refine s_iconst (pc := 0) C dX8_settles_0 (x := (0 : Int32)) (by decide) ?_
  refine s_istore_n (pc := 1) (ls' := [(1, vI (0 : Int32)), (0, vR 5 0 0)]) C dX8_settles_1 rfl (by decide) rfl ?_
  exact s_sub (ls' := [(0, vR 5 0 0), (1, vI (0 : Int32))]) [1, 0] rfl (vX8_settles_b2 C (0 : Int32) h H)
theorem ctX8_settles (l : Launch) (hl : l.stackTraces = false) {G : g_G} (h : g_Hp) (Q : g_R → g_Hp → Prop) (H : wX8_settles h Q) : g_Met l y_ G iX8_settles [vR 5 0 0] h Q :=
  g_Met_of hl (by decide +kernel) rfl rfl (Nat.le_of_ble_eq_true rfl) (fun X C => vX8_settles C h H)
/-! X8_accepts -/
abbrev iX8_accepts : g_I := (RX8, yX8_accepts, cX8_accepts, 2, (some .int), [], { frames := 3, cells := 0, slots := 0, locals := 63 })
set_option maxRecDepth 100000 in
set_option maxHeartbeats 4000000 in
theorem vX8_accepts {G : g_G} {X : g_X} {Q : g_R → g_Hp → Prop} (C : g_Cx y_ G X iX8_accepts) (p0 : Int32) (h : g_Hp) (H : wX8_accepts p0 h Q) : g_V G X iX8_accepts 0 0 Q 0 0 0 [(0, vR 5 0 0), (1, vI p0)] [] h := by
  refine s_aload_n (pc := 0) C dX8_accepts_0 rfl 0 rfl ?_
  refine s_iload_n (pc := 1) C dX8_accepts_1 rfl 1 rfl ?_
  refine s_callv (pc := 2) (nA := 1) (as := [vI p0]) (st := []) (stk := [vI p0, vR 5 0 0]) ckX8 (Or.inl rfl) C (fun l hl => ctX8_isMember l hl p0 _ _ H) ⟨⟨kw_1616, kw_69, kw_1619⟩, rfl, ⟨by decide, by decide, by decide +kernel⟩, by decide, by decide⟩ kw_1618 (g_selW kw_27) rfl (Nat.le_of_ble_eq_true rfl) ⟨by decide, by decide⟩ rfl dX8_accepts_2 (g_Kq_I (fun u2 h1 H => ?_) (fun E h1 H => s_prop rfl ⟨by decide, by decide⟩ H C))
  refine s_if_ne (pc := 5) (tgt := 14) C dX8_accepts_5 (by decide) (fun c => ?_) (fun c => ?_)
  · have H := H.1 c
    refine s_aload_n (pc := 14) C dX8_accepts_14 rfl 0 rfl ?_
    refine s_getr (pc := 15) (s := 5) (a := 13) (b := 0) (c' := 0) ckX8 (by decide) kw_1510 rfl C dX8_accepts_15 ?_
    refine s_bipush (pc := 18) C dX8_accepts_18 (x := (8 : Int32)) (by decide) ?_
    refine s_iald (pc := 20) (show ¬ ((8 : Int32) < 0 ∨ 169 ≤ (8 : Int32).toNatClampNeg) by decide) C dX8_accepts_20 ?_
    refine s_if_ne (pc := 21) (tgt := 30) C dX8_accepts_21 (by decide) (fun c => ?_) (fun c => ?_)
    · have H := H.1 c
      refine s_aload_n (pc := 30) C dX8_accepts_30 rfl 0 rfl ?_
      refine s_getr (pc := 31) (s := 5) (a := 13) (b := 0) (c' := 0) ckX8 (by decide) kw_1510 rfl C dX8_accepts_31 ?_
      refine s_bipush (pc := 34) C dX8_accepts_34 (x := (107 : Int32)) (by decide) ?_
      refine s_iload_n (pc := 36) C dX8_accepts_36 rfl 1 rfl ?_
      refine s_iadd (pc := 37) C dX8_accepts_37 ?_
      refine s_iald (pc := 38) H.1 C dX8_accepts_38 ?_
      have H := H.2
      refine s_iconst (pc := 39) C dX8_accepts_39 (x := (1 : Int32)) (by decide) ?_
      refine s_icmp_ne (pc := 40) (tgt := 49) C dX8_accepts_40 (by decide) (fun c => ?_) (fun c => ?_)
      · have H := H.1 c
        refine s_aload_n (pc := 49) C dX8_accepts_49 rfl 0 rfl ?_
        refine s_getr (pc := 50) (s := 5) (a := 13) (b := 0) (c' := 0) ckX8 (by decide) kw_1510 rfl C dX8_accepts_50 ?_
        refine s_bipush (pc := 53) C dX8_accepts_53 (x := (107 : Int32)) (by decide) ?_
        refine s_iload_n (pc := 55) C dX8_accepts_55 rfl 1 rfl ?_
        refine s_iadd (pc := 56) C dX8_accepts_56 ?_
        refine s_iconst (pc := 57) C dX8_accepts_57 (x := (1 : Int32)) (by decide) ?_
        refine s_iast (pc := 58) H.1 C dX8_accepts_58 ?_
        have H := H.2
        refine s_name (fun h3 eh3 => ?_)
        have H := H h3 eh3
        refine s_iconst (pc := 59) C dX8_accepts_59 (x := (2 : Int32)) (by decide) ?_
        refine s_aload_n (pc := 60) C dX8_accepts_60 rfl 0 rfl ?_
        refine s_bipush (pc := 61) C dX8_accepts_61 (x := (107 : Int32)) (by decide) ?_
        refine s_iconst (pc := 63) C dX8_accepts_63 (x := (1 : Int32)) (by decide) ?_
        refine s_callv (pc := 64) (nA := 2) (as := [vI (107 : Int32), vI (1 : Int32)]) (st := [vI (2 : Int32)]) (stk := [vI (1 : Int32), vI (107 : Int32), vR 5 0 0, vI (2 : Int32)]) ckX8 (Or.inl rfl) C (fun l hl => ctX8_count l hl (107 : Int32) (1 : Int32) _ _ H) ⟨⟨kw_1724, kw_69, kw_1727⟩, rfl, ⟨by decide, by decide, by decide +kernel⟩, by decide, by decide⟩ kw_1726 (g_selW kw_34) rfl (Nat.le_of_ble_eq_true rfl) ⟨by decide, by decide⟩ rfl dX8_accepts_64 (g_Kq_I (fun u5 h4 H => ?_) (fun E h4 H => s_prop rfl ⟨by decide, by decide⟩ H C))
        refine s_imul (pc := 67) C dX8_accepts_67 ?_
        refine s_aload_n (pc := 68) C dX8_accepts_68 rfl 0 rfl ?_
        refine s_getr (pc := 69) (s := 5) (a := 13) (b := 0) (c' := 0) ckX8 (by decide) kw_1510 rfl C dX8_accepts_69 ?_
        refine s_iconst (pc := 72) C dX8_accepts_72 (x := (0 : Int32)) (by decide) ?_
        refine s_iald (pc := 73) (show ¬ ((0 : Int32) < 0 ∨ 169 ≤ (0 : Int32).toNatClampNeg) by decide) C dX8_accepts_73 ?_
        refine s_icmp_gt (pc := 74) (tgt := 79) C dX8_accepts_74 (by decide) (fun c => ?_) (fun c => ?_)
        · have H := H.1 c
          refine s_aload_n (pc := 79) C dX8_accepts_79 rfl 0 rfl ?_
          refine s_callv (pc := 80) (nA := 0) (as := []) (st := []) (stk := [vR 5 0 0]) ckX8 (Or.inl rfl) C (fun l hl => ctX8_settles l hl _ _ H) ⟨⟨kw_1821, kw_69, kw_1824⟩, rfl, ⟨by decide, by decide, by decide +kernel⟩, by decide, by decide⟩ kw_1823 (g_selW kw_42) rfl (Nat.le_of_ble_eq_true rfl) ⟨by decide, by decide⟩ rfl dX8_accepts_80 (g_Kq_V (fun h6 H => ?_) (fun E h6 H => s_prop rfl ⟨by decide, by decide⟩ H C))
          refine s_iconst (pc := 83) C dX8_accepts_83 (x := (1 : Int32)) (by decide) ?_
          exact s_iret (pc := 84) rfl rfl ⟨by decide, by decide⟩ H C dX8_accepts_84
        · have H := H.2 c
          refine s_iconst (pc := 77) C dX8_accepts_77 (x := (0 : Int32)) (by decide) ?_
          exact s_iret (pc := 78) rfl rfl ⟨by decide, by decide⟩ H C dX8_accepts_78
      · have H := H.2 c
        refine s_aload_n (pc := 43) C dX8_accepts_43 rfl 0 rfl ?_
        refine s_iconst (pc := 44) C dX8_accepts_44 (x := (3 : Int32)) (by decide) ?_
        refine s_callv (pc := 45) (nA := 1) (as := [vI (3 : Int32)]) (st := []) (stk := [vI (3 : Int32), vR 5 0 0]) ckX8 (Or.inl rfl) C (fun l hl => ctX8_fail l hl (3 : Int32) _ _ H) ⟨⟨kw_1592, kw_69, kw_1595⟩, rfl, ⟨by decide, by decide, by decide +kernel⟩, by decide, by decide⟩ kw_1594 (g_selW kw_23) rfl (Nat.le_of_ble_eq_true rfl) ⟨by decide, by decide⟩ rfl dX8_accepts_45 (g_Kq_I (fun u8 h7 H => ?_) (fun E h7 H => s_prop rfl ⟨by decide, by decide⟩ H C))
        exact s_iret (pc := 48) rfl rfl ⟨by decide, by decide⟩ H C dX8_accepts_48
    · have H := H.2 c
      refine s_aload_n (pc := 24) C dX8_accepts_24 rfl 0 rfl ?_
      refine s_iconst (pc := 25) C dX8_accepts_25 (x := (2 : Int32)) (by decide) ?_
      refine s_callv (pc := 26) (nA := 1) (as := [vI (2 : Int32)]) (st := []) (stk := [vI (2 : Int32), vR 5 0 0]) ckX8 (Or.inl rfl) C (fun l hl => ctX8_fail l hl (2 : Int32) _ _ H) ⟨⟨kw_1592, kw_69, kw_1595⟩, rfl, ⟨by decide, by decide, by decide +kernel⟩, by decide, by decide⟩ kw_1594 (g_selW kw_23) rfl (Nat.le_of_ble_eq_true rfl) ⟨by decide, by decide⟩ rfl dX8_accepts_26 (g_Kq_I (fun u10 h9 H => ?_) (fun E h9 H => s_prop rfl ⟨by decide, by decide⟩ H C))
      exact s_iret (pc := 29) rfl rfl ⟨by decide, by decide⟩ H C dX8_accepts_29
  · have H := H.2 c
    refine s_aload_n (pc := 8) C dX8_accepts_8 rfl 0 rfl ?_
    refine s_iconst (pc := 9) C dX8_accepts_9 (x := (1 : Int32)) (by decide) ?_
    refine s_callv (pc := 10) (nA := 1) (as := [vI (1 : Int32)]) (st := []) (stk := [vI (1 : Int32), vR 5 0 0]) ckX8 (Or.inl rfl) C (fun l hl => ctX8_fail l hl (1 : Int32) _ _ H) ⟨⟨kw_1592, kw_69, kw_1595⟩, rfl, ⟨by decide, by decide, by decide +kernel⟩, by decide, by decide⟩ kw_1594 (g_selW kw_23) rfl (Nat.le_of_ble_eq_true rfl) ⟨by decide, by decide⟩ rfl dX8_accepts_10 (g_Kq_I (fun u12 h11 H => ?_) (fun E h11 H => s_prop rfl ⟨by decide, by decide⟩ H C))
    exact s_iret (pc := 13) rfl rfl ⟨by decide, by decide⟩ H C dX8_accepts_13
theorem ctX8_accepts (l : Launch) (hl : l.stackTraces = false) {G : g_G} (p0 : Int32) (h : g_Hp) (Q : g_R → g_Hp → Prop) (H : wX8_accepts p0 h Q) : g_Met l y_ G iX8_accepts [vR 5 0 0, vI p0] h Q :=
  g_Met_of hl (by decide +kernel) rfl rfl (Nat.le_of_ble_eq_true rfl) (fun X C => vX8_accepts C p0 h H)
/-! X8_accept -/
abbrev iX8_accept : g_I := (RX8, yX8_accept, cX8_accept, 2, (some .boolean), [], { frames := 4, cells := 0, slots := 0, locals := 84 })
set_option maxRecDepth 100000 in
set_option maxHeartbeats 4000000 in
theorem vX8_accept_b22 {G : g_G} {X : g_X} {Q : g_R → g_Hp → Prop} (C : g_Cx y_ G X iX8_accept) (z0 : Int32) (h : g_Hp) (H : wX8_accept_b22 Q z0 h) : g_V G X iX8_accept 0 0 Q 22 0 0 [] [vI z0] h := by
  exact s_iret (pc := 22) rfl (g_nz H.1) ⟨by decide, by decide⟩ H.2 C dX8_accept_22
set_option maxRecDepth 100000 in
set_option maxHeartbeats 4000000 in
theorem vX8_accept {G : g_G} {X : g_X} {Q : g_R → g_Hp → Prop} (C : g_Cx y_ G X iX8_accept) (p0 : Int32) (h : g_Hp) (H : wX8_accept p0 h Q) : g_V G X iX8_accept 0 0 Q 0 0 0 [(0, vR 5 0 0), (1, vI p0)] [] h := by
  refine s_aload_n (pc := 0) C dX8_accept_0 rfl 0 rfl ?_
  refine s_callv (pc := 1) (nA := 0) (as := []) (st := []) (stk := [vR 5 0 0]) ckX8 (Or.inl rfl) C (fun l hl => ctX8_begins l hl _ _ H) ⟨⟨kw_1575, kw_69, kw_1578⟩, rfl, ⟨by decide, by decide, by decide +kernel⟩, by decide, by decide⟩ kw_1577 (g_selW kw_21) rfl (Nat.le_of_ble_eq_true rfl) ⟨by decide, by decide⟩ rfl dX8_accept_1 (g_Kq_V (fun h1 H => ?_) (fun E h1 H => s_prop rfl ⟨by decide, by decide⟩ H C))
  refine s_aload_n (pc := 4) C dX8_accept_4 rfl 0 rfl ?_
  refine s_aload_n (pc := 5) C dX8_accept_5 rfl 0 rfl ?_
  refine s_iload_n (pc := 6) C dX8_accept_6 rfl 1 rfl ?_
  refine s_callv (pc := 7) (nA := 1) (as := [vI p0]) (st := [vR 5 0 0]) (stk := [vI p0, vR 5 0 0, vR 5 0 0]) ckX8 (Or.inl rfl) C (fun l hl => ctX8_accepts l hl p0 _ _ H) ⟨⟨kw_1817, kw_69, kw_1820⟩, rfl, ⟨by decide, by decide, by decide +kernel⟩, by decide, by decide⟩ kw_1819 (g_selW kw_41) rfl (Nat.le_of_ble_eq_true rfl) ⟨by decide, by decide⟩ rfl dX8_accept_7 (g_Kq_I (fun u3 h2 H => ?_) (fun E h2 H => s_prop rfl ⟨by decide, by decide⟩ H C))
  refine s_callv (pc := 10) (nA := 1) (as := [vI u3]) (st := []) (stk := [vI u3, vR 5 0 0]) ckX8 (Or.inl rfl) C (fun l hl => ctX8_ends l hl u3 _ _ H) ⟨⟨kw_1596, kw_69, kw_1599⟩, rfl, ⟨by decide, by decide, by decide +kernel⟩, by decide, by decide⟩ kw_1598 (g_selW kw_24) rfl (Nat.le_of_ble_eq_true rfl) ⟨by decide, by decide⟩ rfl dX8_accept_10 (g_Kq_I (fun u5 h4 H => ?_) (fun E h4 H => s_prop rfl ⟨by decide, by decide⟩ H C))
  refine s_iconst (pc := 13) C dX8_accept_13 (x := (1 : Int32)) (by decide) ?_
  refine s_icmp_ne (pc := 14) (tgt := 21) C dX8_accept_14 (by decide) (fun c => ?_) (fun c => ?_)
  · have H := H.1 c
    refine s_iconst (pc := 21) C dX8_accept_21 (x := (0 : Int32)) (by decide) ?_
    exact s_sub (ls' := []) [] rfl (vX8_accept_b22 C (0 : Int32) h4 H)
  · have H := H.2 c
    refine s_iconst (pc := 17) C dX8_accept_17 (x := (1 : Int32)) (by decide) ?_
    refine s_goto (pc := 18) (tgt := 22) C dX8_accept_18 (by decide) ?_
    exact s_sub (ls' := []) [] rfl (vX8_accept_b22 C (1 : Int32) h4 H)
theorem ctX8_accept (l : Launch) (hl : l.stackTraces = false) {G : g_G} (p0 : Int32) (h : g_Hp) (Q : g_R → g_Hp → Prop) (H : wX8_accept p0 h Q) : g_Met l y_ G iX8_accept [vR 5 0 0, vI p0] h Q :=
  g_Met_of hl (by decide +kernel) rfl rfl (Nat.le_of_ble_eq_true rfl) (fun X C => vX8_accept C p0 h H)
/-! X8_offerPercent -/
abbrev iX8_offerPercent : g_I := (RX8, yX8_offerPercent, cX8_offerPercent, 1, (some .int), [], { frames := 1, cells := 0, slots := 0, locals := 20 })
set_option maxRecDepth 100000 in
set_option maxHeartbeats 4000000 in
theorem vX8_offerPercent_b16 {G : g_G} {X : g_X} {Q : g_R → g_Hp → Prop} (C : g_Cx y_ G X iX8_offerPercent) (z0 : Int32) (h : g_Hp) (H : wX8_offerPercent_b16 Q z0 h) : g_V G X iX8_offerPercent 0 0 Q 16 0 0 [(0, vR 5 0 0)] [vI z0, vR 5 0 0] h := by
  refine s_puti (pc := 16) (s := 0) ckX8 (Or.inl rfl) (by decide) kw_1505 (fun _ => rfl) rfl rfl rfl C dX8_offerPercent_16 ?_
  refine s_name (fun h1 eh1 => ?_)
  have H := H h1 eh1
  refine s_aload_n (pc := 19) C dX8_offerPercent_19 rfl 0 rfl ?_
  refine s_getr (pc := 20) (s := 5) (a := 13) (b := 0) (c' := 0) ckX8 (by decide) kw_1510 rfl C dX8_offerPercent_20 ?_
  refine s_bipush (pc := 23) C dX8_offerPercent_23 (x := (8 : Int32)) (by decide) ?_
  refine s_iald (pc := 25) (show ¬ ((8 : Int32) < 0 ∨ 169 ≤ (8 : Int32).toNatClampNeg) by decide) C dX8_offerPercent_25 ?_
  exact s_iret (pc := 26) rfl rfl ⟨by decide, by decide⟩ H C dX8_offerPercent_26
set_option maxRecDepth 100000 in
set_option maxHeartbeats 4000000 in
theorem vX8_offerPercent {G : g_G} {X : g_X} {Q : g_R → g_Hp → Prop} (C : g_Cx y_ G X iX8_offerPercent) (h : g_Hp) (H : wX8_offerPercent h Q) : g_V G X iX8_offerPercent 0 0 Q 0 0 0 [(0, vR 5 0 0)] [] h := by
  refine s_aload_n (pc := 0) C dX8_offerPercent_0 rfl 0 rfl ?_
  refine s_aload_n (pc := 1) C dX8_offerPercent_1 rfl 0 rfl ?_
  refine s_getr (pc := 2) (s := 5) (a := 13) (b := 0) (c' := 0) ckX8 (by decide) kw_1510 rfl C dX8_offerPercent_2 ?_
  refine s_bipush (pc := 5) C dX8_offerPercent_5 (x := (8 : Int32)) (by decide) ?_
  refine s_iald (pc := 7) (show ¬ ((8 : Int32) < 0 ∨ 169 ≤ (8 : Int32).toNatClampNeg) by decide) C dX8_offerPercent_7 ?_
  refine s_if_ne (pc := 8) (tgt := 15) C dX8_offerPercent_8 (by decide) (fun c => ?_) (fun c => ?_)
  · have H := H.1 c
    refine s_iconst (pc := 15) C dX8_offerPercent_15 (x := (0 : Int32)) (by decide) ?_
    exact s_sub (ls' := [(0, vR 5 0 0)]) [0] rfl (vX8_offerPercent_b16 C (0 : Int32) h H)
  · have H := H.2 c
    refine s_iconst (pc := 11) C dX8_offerPercent_11 (x := (1 : Int32)) (by decide) ?_
    refine s_goto (pc := 12) (tgt := 16) C dX8_offerPercent_12 (by decide) ?_
    exact s_sub (ls' := [(0, vR 5 0 0)]) [0] rfl (vX8_offerPercent_b16 C (1 : Int32) h H)
theorem ctX8_offerPercent (l : Launch) (hl : l.stackTraces = false) {G : g_G} (h : g_Hp) (Q : g_R → g_Hp → Prop) (H : wX8_offerPercent h Q) : g_Met l y_ G iX8_offerPercent [vR 5 0 0] h Q :=
  g_Met_of hl (by decide +kernel) rfl rfl (Nat.le_of_ble_eq_true rfl) (fun X C => vX8_offerPercent C h H)
/-! X8_acceptances -/
abbrev iX8_acceptances : g_I := (RX8, yX8_acceptances, cX8_acceptances, 1, (some .int), [], { frames := 2, cells := 0, slots := 0, locals := 44 })
set_option maxRecDepth 100000 in
set_option maxHeartbeats 4000000 in
theorem vX8_acceptances_b37 {G : g_G} {X : g_X} {Q : g_R → g_Hp → Prop} (C : g_Cx y_ G X iX8_acceptances) (z0 : Int32) (h : g_Hp) (H : wX8_acceptances_b37 Q z0 h) : g_V G X iX8_acceptances 0 0 Q 37 0 0 [] [vI z0] h := by
  exact s_iret (pc := 37) rfl rfl ⟨by decide, by decide⟩ H C dX8_acceptances_37
set_option maxRecDepth 100000 in
set_option maxHeartbeats 4000000 in
theorem vX8_acceptances_b16 {G : g_G} {X : g_X} {Q : g_R → g_Hp → Prop} (C : g_Cx y_ G X iX8_acceptances) (z0 : Int32) (h : g_Hp) (H : wX8_acceptances_b16 Q z0 h) : g_V G X iX8_acceptances 0 0 Q 16 0 0 [(0, vR 5 0 0)] [vI z0, vR 5 0 0] h := by
  refine s_puti (pc := 16) (s := 0) ckX8 (Or.inl rfl) (by decide) kw_1505 (fun _ => rfl) rfl rfl rfl C dX8_acceptances_16 ?_
  refine s_name (fun h1 eh1 => ?_)
  have H := H h1 eh1
  refine s_aload_n (pc := 19) C dX8_acceptances_19 rfl 0 rfl ?_
  refine s_geti (pc := 20) (s := 0) ckX8 (Or.inl rfl) (by decide) kw_1505 (fun _ => rfl) C dX8_acceptances_20 ?_
  refine s_if_ne (pc := 23) (tgt := 36) C dX8_acceptances_23 (by decide) (fun c => ?_) (fun c => ?_)
  · have H := H.1 c
    refine s_iconst (pc := 36) C dX8_acceptances_36 (x := (0 : Int32)) (by decide) ?_
    exact s_sub (ls' := []) [] rfl (vX8_acceptances_b37 C (0 : Int32) h1 H)
  · have H := H.2 c
    refine s_aload_n (pc := 26) C dX8_acceptances_26 rfl 0 rfl ?_
    refine s_bipush (pc := 27) C dX8_acceptances_27 (x := (107 : Int32)) (by decide) ?_
    refine s_iconst (pc := 29) C dX8_acceptances_29 (x := (1 : Int32)) (by decide) ?_
    refine s_callv (pc := 30) (nA := 2) (as := [vI (107 : Int32), vI (1 : Int32)]) (st := []) (stk := [vI (1 : Int32), vI (107 : Int32), vR 5 0 0]) ckX8 (Or.inl rfl) C (fun l hl => ctX8_count l hl (107 : Int32) (1 : Int32) _ _ H) ⟨⟨kw_1724, kw_69, kw_1727⟩, rfl, ⟨by decide, by decide, by decide +kernel⟩, by decide, by decide⟩ kw_1726 (g_selW kw_34) rfl (Nat.le_of_ble_eq_true rfl) ⟨by decide, by decide⟩ rfl dX8_acceptances_30 (g_Kq_I (fun u3 h2 H => ?_) (fun E h2 H => s_prop rfl ⟨by decide, by decide⟩ H C))
    refine s_goto (pc := 33) (tgt := 37) C dX8_acceptances_33 (by decide) ?_
    exact s_sub (ls' := []) [] rfl (vX8_acceptances_b37 C u3 h2 H)
set_option maxRecDepth 100000 in
set_option maxHeartbeats 4000000 in
theorem vX8_acceptances {G : g_G} {X : g_X} {Q : g_R → g_Hp → Prop} (C : g_Cx y_ G X iX8_acceptances) (h : g_Hp) (H : wX8_acceptances h Q) : g_V G X iX8_acceptances 0 0 Q 0 0 0 [(0, vR 5 0 0)] [] h := by
  refine s_aload_n (pc := 0) C dX8_acceptances_0 rfl 0 rfl ?_
  refine s_aload_n (pc := 1) C dX8_acceptances_1 rfl 0 rfl ?_
  refine s_getr (pc := 2) (s := 5) (a := 13) (b := 0) (c' := 0) ckX8 (by decide) kw_1510 rfl C dX8_acceptances_2 ?_
  refine s_bipush (pc := 5) C dX8_acceptances_5 (x := (8 : Int32)) (by decide) ?_
  refine s_iald (pc := 7) (show ¬ ((8 : Int32) < 0 ∨ 169 ≤ (8 : Int32).toNatClampNeg) by decide) C dX8_acceptances_7 ?_
  refine s_if_ne (pc := 8) (tgt := 15) C dX8_acceptances_8 (by decide) (fun c => ?_) (fun c => ?_)
  · have H := H.1 c
    refine s_iconst (pc := 15) C dX8_acceptances_15 (x := (0 : Int32)) (by decide) ?_
    exact s_sub (ls' := [(0, vR 5 0 0)]) [0] rfl (vX8_acceptances_b16 C (0 : Int32) h H)
  · have H := H.2 c
    refine s_iconst (pc := 11) C dX8_acceptances_11 (x := (1 : Int32)) (by decide) ?_
    refine s_goto (pc := 12) (tgt := 16) C dX8_acceptances_12 (by decide) ?_
    exact s_sub (ls' := [(0, vR 5 0 0)]) [0] rfl (vX8_acceptances_b16 C (1 : Int32) h H)
theorem ctX8_acceptances (l : Launch) (hl : l.stackTraces = false) {G : g_G} (h : g_Hp) (Q : g_R → g_Hp → Prop) (H : wX8_acceptances h Q) : g_Met l y_ G iX8_acceptances [vR 5 0 0] h Q :=
  g_Met_of hl (by decide +kernel) rfl rfl (Nat.le_of_ble_eq_true rfl) (fun X C => vX8_acceptances C h H)
/-! X8_offeredRate -/
abbrev iX8_offeredRate : g_I := (RX8, yX8_offeredRate, cX8_offeredRate, 2, (some .int), [], { frames := 3, cells := 0, slots := 0, locals := 63 })
set_option maxRecDepth 100000 in
set_option maxHeartbeats 4000000 in
theorem vX8_offeredRate_b47 {G : g_G} {X : g_X} {Q : g_R → g_Hp → Prop} (C : g_Cx y_ G X iX8_offeredRate) (z0 : Int32) (h : g_Hp) (H : wX8_offeredRate_b47 Q z0 h) : g_V G X iX8_offeredRate 0 0 Q 47 0 0 [] [vI z0] h := by
  exact s_iret (pc := 47) rfl rfl ⟨by decide, by decide⟩ H C dX8_offeredRate_47
set_option maxRecDepth 100000 in
set_option maxHeartbeats 4000000 in
theorem vX8_offeredRate_b28 {G : g_G} {X : g_X} {Q : g_R → g_Hp → Prop} (C : g_Cx y_ G X iX8_offeredRate) (x1 : Int32) (z0 : Int32) (h : g_Hp) (H : wX8_offeredRate_b28 Q x1 z0 h) : g_V G X iX8_offeredRate 0 0 Q 28 0 0 [(0, vR 5 0 0), (1, vI x1)] [vI z0, vR 5 0 0] h := by
  refine s_puti (pc := 28) (s := 0) ckX8 (Or.inl rfl) (by decide) kw_1505 (fun _ => rfl) rfl rfl rfl C dX8_offeredRate_28 ?_
  refine s_name (fun h1 eh1 => ?_)
  have H := H h1 eh1
  refine s_aload_n (pc := 31) C dX8_offeredRate_31 rfl 0 rfl ?_
  refine s_geti (pc := 32) (s := 0) ckX8 (Or.inl rfl) (by decide) kw_1505 (fun _ => rfl) C dX8_offeredRate_32 ?_
  refine s_if_ne (pc := 35) (tgt := 46) C dX8_offeredRate_35 (by decide) (fun c => ?_) (fun c => ?_)
  · have H := H.1 c
    refine s_iconst (pc := 46) C dX8_offeredRate_46 (x := (0 : Int32)) (by decide) ?_
    exact s_sub (ls' := []) [] rfl (vX8_offeredRate_b47 C (0 : Int32) h1 H)
  · have H := H.2 c
    refine s_aload_n (pc := 38) C dX8_offeredRate_38 rfl 0 rfl ?_
    refine s_iload_n (pc := 39) C dX8_offeredRate_39 rfl 1 rfl ?_
    refine s_callv (pc := 40) (nA := 1) (as := [vI x1]) (st := []) (stk := [vI x1, vR 5 0 0]) ckX8 (Or.inl rfl) C (fun l hl => ctX8_grown l hl x1 _ _ H) ⟨⟨kw_1825, kw_69, kw_1828⟩, rfl, ⟨by decide, by decide, by decide +kernel⟩, by decide, by decide⟩ kw_1827 (g_selW kw_43) rfl (Nat.le_of_ble_eq_true rfl) ⟨by decide, by decide⟩ rfl dX8_offeredRate_40 (g_Kq_I (fun u3 h2 H => ?_) (fun E h2 H => s_prop rfl ⟨by decide, by decide⟩ H C))
    refine s_goto (pc := 43) (tgt := 47) C dX8_offeredRate_43 (by decide) ?_
    exact s_sub (ls' := []) [] rfl (vX8_offeredRate_b47 C u3 h2 H)
set_option maxRecDepth 100000 in
set_option maxHeartbeats 4000000 in
theorem vX8_offeredRate {G : g_G} {X : g_X} {Q : g_R → g_Hp → Prop} (C : g_Cx y_ G X iX8_offeredRate) (p0 : Int32) (h : g_Hp) (H : wX8_offeredRate p0 h Q) : g_V G X iX8_offeredRate 0 0 Q 0 0 0 [(0, vR 5 0 0), (1, vI p0)] [] h := by
  refine s_aload_n (pc := 0) C dX8_offeredRate_0 rfl 0 rfl ?_
  refine s_aload_n (pc := 1) C dX8_offeredRate_1 rfl 0 rfl ?_
  refine s_iload_n (pc := 2) C dX8_offeredRate_2 rfl 1 rfl ?_
  refine s_callv (pc := 3) (nA := 1) (as := [vI p0]) (st := [vR 5 0 0]) (stk := [vI p0, vR 5 0 0, vR 5 0 0]) ckX8 (Or.inl rfl) C (fun l hl => ctX8_isMember l hl p0 _ _ H) ⟨⟨kw_1616, kw_69, kw_1619⟩, rfl, ⟨by decide, by decide, by decide +kernel⟩, by decide, by decide⟩ kw_1618 (g_selW kw_27) rfl (Nat.le_of_ble_eq_true rfl) ⟨by decide, by decide⟩ rfl dX8_offeredRate_3 (g_Kq_I (fun u2 h1 H => ?_) (fun E h1 H => s_prop rfl ⟨by decide, by decide⟩ H C))
  refine s_if_ne (pc := 6) (tgt := 13) C dX8_offeredRate_6 (by decide) (fun c => ?_) (fun c => ?_)
  · have H := H.1 c
    refine s_aload_n (pc := 13) C dX8_offeredRate_13 rfl 0 rfl ?_
    refine s_getr (pc := 14) (s := 5) (a := 13) (b := 0) (c' := 0) ckX8 (by decide) kw_1510 rfl C dX8_offeredRate_14 ?_
    refine s_bipush (pc := 17) C dX8_offeredRate_17 (x := (8 : Int32)) (by decide) ?_
    refine s_iald (pc := 19) (show ¬ ((8 : Int32) < 0 ∨ 169 ≤ (8 : Int32).toNatClampNeg) by decide) C dX8_offeredRate_19 ?_
    refine s_if_ne (pc := 20) (tgt := 27) C dX8_offeredRate_20 (by decide) (fun c => ?_) (fun c => ?_)
    · have H := H.1 c
      refine s_iconst (pc := 27) C dX8_offeredRate_27 (x := (0 : Int32)) (by decide) ?_
      exact s_sub (ls' := [(0, vR 5 0 0), (1, vI p0)]) [0, 1] rfl (vX8_offeredRate_b28 C p0 (0 : Int32) h1 H)
    · have H := H.2 c
      refine s_iconst (pc := 23) C dX8_offeredRate_23 (x := (2 : Int32)) (by decide) ?_
      refine s_goto (pc := 24) (tgt := 28) C dX8_offeredRate_24 (by decide) ?_
      exact s_sub (ls' := [(0, vR 5 0 0), (1, vI p0)]) [0, 1] rfl (vX8_offeredRate_b28 C p0 (2 : Int32) h1 H)
  · have H := H.2 c
    refine s_iconst (pc := 9) C dX8_offeredRate_9 (x := (1 : Int32)) (by decide) ?_
    refine s_goto (pc := 10) (tgt := 28) C dX8_offeredRate_10 (by decide) ?_
    exact s_sub (ls' := [(0, vR 5 0 0), (1, vI p0)]) [0, 1] rfl (vX8_offeredRate_b28 C p0 (1 : Int32) h1 H)
theorem ctX8_offeredRate (l : Launch) (hl : l.stackTraces = false) {G : g_G} (p0 : Int32) (h : g_Hp) (Q : g_R → g_Hp → Prop) (H : wX8_offeredRate p0 h Q) : g_Met l y_ G iX8_offeredRate [vR 5 0 0, vI p0] h Q :=
  g_Met_of hl (by decide +kernel) rfl rfl (Nat.le_of_ble_eq_true rfl) (fun X C => vX8_offeredRate C p0 h H)
/-! X8_wageTotal -/
abbrev iX8_wageTotal : g_I := (RX8, yX8_wageTotal, cX8_wageTotal, 4, (some .long), [], { frames := 1, cells := 0, slots := 0, locals := 20 })
set_option maxRecDepth 100000 in
set_option maxHeartbeats 4000000 in
theorem vX8_wageTotal_b9_B {G : g_G} {X : g_X} {Q : g_R → g_Hp → Prop} (C : g_Cx y_ G X iX8_wageTotal) (R9 : Int64 → Int32 → g_Hp → Prop) (hR9 : ∀ (x1 : Int64) (x3 : Int32) (h : g_Hp), R9 x1 x3 h → g_V G X iX8_wageTotal 0 0 Q 9 0 0 [(0, vR 5 0 0), (1, vV (.long x1)), (3, vI x3)] [] h) (x1 : Int64) (x3 : Int32) (h : g_Hp) (H : wX8_wageTotal_b9_B Q R9 x1 x3 h) : g_V G X iX8_wageTotal 0 0 Q 9 0 0 [(0, vR 5 0 0), (1, vV (.long x1)), (3, vI x3)] [] h := by
  refine s_iload_n (pc := 9) C dX8_wageTotal_9 rfl 2 rfl ?_
  refine s_aload_n (pc := 10) C dX8_wageTotal_10 rfl 0 rfl ?_
  refine s_getr (pc := 11) (s := 5) (a := 13) (b := 0) (c' := 0) ckX8 (by decide) kw_1510 rfl C dX8_wageTotal_11 ?_
  refine s_iconst (pc := 14) C dX8_wageTotal_14 (x := (0 : Int32)) (by decide) ?_
  refine s_iald (pc := 15) (show ¬ ((0 : Int32) < 0 ∨ 169 ≤ (0 : Int32).toNatClampNeg) by decide) C dX8_wageTotal_15 ?_
  refine s_icmp_ge (pc := 16) (tgt := 38) C dX8_wageTotal_16 (by decide) (fun c => ?_) (fun c => ?_)
  · have H := H.1 c
    refine s_lload_n (pc := 38) C dX8_wageTotal_38 rfl 1 rfl ?_
    exact s_lret (pc := 39) rfl ⟨by decide, by decide⟩ H C dX8_wageTotal_39
  · have H := H.2 c
    refine s_lload_n (pc := 19) C dX8_wageTotal_19 rfl 1 rfl ?_
    refine s_aload_n (pc := 20) C dX8_wageTotal_20 rfl 0 rfl ?_
    refine s_getr (pc := 21) (s := 5) (a := 13) (b := 0) (c' := 0) ckX8 (by decide) kw_1510 rfl C dX8_wageTotal_21 ?_
    refine s_bipush (pc := 24) C dX8_wageTotal_24 (x := (47 : Int32)) (by decide) ?_
    refine s_iload_n (pc := 26) C dX8_wageTotal_26 rfl 2 rfl ?_
    refine s_iadd (pc := 27) C dX8_wageTotal_27 ?_
    refine s_iald (pc := 28) H.1 C dX8_wageTotal_28 ?_
    have H := H.2
    refine s_i2l (pc := 29) C dX8_wageTotal_29 ?_
    refine s_ladd (pc := 30) C dX8_wageTotal_30 ?_
    refine s_namel (fun y1 ey1 => ?_)
    have H := H y1 ey1
    refine s_lstore_n (pc := 31) (ls' := [(1, vV (.long y1)), (0, vR 5 0 0), (3, vI x3)]) C dX8_wageTotal_31 rfl (by decide) rfl ?_
    refine s_iincN (pc := 32) C dX8_wageTotal_32 2 rfl (z' := (1 : Int32)) (by decide) (by decide) (fun y2 ey2 => ?_)
    have H := H y2 ey2
    show g_V _ _ _ _ _ _ _ _ _ [(3, vI y2), (1, vV (.long y1)), (0, vR 5 0 0)] _ _
    refine s_goto (pc := 35) (tgt := 9) C dX8_wageTotal_35 (by decide) ?_
    exact s_sub (ls' := [(0, vR 5 0 0), (1, vV (.long y1)), (3, vI y2)]) [2, 1, 0] rfl (hR9 y1 y2 h H)
theorem vX8_wageTotal_b9 {G : g_G} {X : g_X} {Q : g_R → g_Hp → Prop} (C : g_Cx y_ G X iX8_wageTotal) (x1 : Int64) (x3 : Int32) (h : g_Hp) (H : wX8_wageTotal_b9 Q x1 x3 h) : g_V G X iX8_wageTotal 0 0 Q 9 0 0 [(0, vR 5 0 0), (1, vV (.long x1)), (3, vI x3)] [] h := by
  obtain ⟨n, H⟩ := H
  induction n generalizing x1 x3 h with
  | zero => exact H.elim
  | succ n ih => exact vX8_wageTotal_b9_B C _ (fun x1 x3 h H => ih x1 x3 h H) x1 x3 h H
set_option maxRecDepth 100000 in
set_option maxHeartbeats 4000000 in
theorem vX8_wageTotal {G : g_G} {X : g_X} {Q : g_R → g_Hp → Prop} (C : g_Cx y_ G X iX8_wageTotal) (h : g_Hp) (H : wX8_wageTotal h Q) : g_V G X iX8_wageTotal 0 0 Q 0 0 0 [(0, vR 5 0 0)] [] h := by
  refine s_aload_n (pc := 0) C dX8_wageTotal_0 rfl 0 rfl ?_
  refine s_iconst (pc := 1) C dX8_wageTotal_1 (x := (0 : Int32)) (by decide) ?_
  refine s_puti (pc := 2) (s := 0) ckX8 (Or.inl rfl) (by decide) kw_1505 (fun _ => rfl) rfl rfl rfl C dX8_wageTotal_2 ?_
  refine s_name (fun h1 eh1 => ?_)
  have H := H h1 eh1
  refine s_lconst (pc := 5) C dX8_wageTotal_5 (x := (0 : Int32).toInt64) (by decide) ?_
  refine s_namel (fun y2 ey2 => ?_)
  have H := H y2 ey2
  refine s_lstore_n (pc := 6) (ls' := [(1, vV (.long y2)), (0, vR 5 0 0)]) C dX8_wageTotal_6 rfl (by decide) rfl ?_
  refine s_iconst (pc := 7) C dX8_wageTotal_7 (x := (0 : Int32)) (by decide) ?_
  refine s_istore_n (pc := 8) (ls' := [(3, vI (0 : Int32)), (1, vV (.long y2)), (0, vR 5 0 0)]) C dX8_wageTotal_8 rfl (by decide) rfl ?_
  exact s_sub (ls' := [(0, vR 5 0 0), (1, vV (.long y2)), (3, vI (0 : Int32))]) [2, 1, 0] rfl (vX8_wageTotal_b9 C y2 (0 : Int32) h1 H)
theorem ctX8_wageTotal (l : Launch) (hl : l.stackTraces = false) {G : g_G} (h : g_Hp) (Q : g_R → g_Hp → Prop) (H : wX8_wageTotal h Q) : g_Met l y_ G iX8_wageTotal [vR 5 0 0] h Q :=
  g_Met_of hl (by decide +kernel) rfl rfl (Nat.le_of_ble_eq_true rfl) (fun X C => vX8_wageTotal C h H)
/-! X8_lost -/
abbrev iX8_lost : g_I := (RX8, yX8_lost, cX8_lost, 3, (some .int), [], { frames := 1, cells := 0, slots := 0, locals := 20 })
set_option maxRecDepth 100000 in
set_option maxHeartbeats 4000000 in
theorem vX8_lost_b4_B {G : g_G} {X : g_X} {Q : g_R → g_Hp → Prop} (C : g_Cx y_ G X iX8_lost) (R4 : Int32 → Int32 → g_Hp → Prop) (hR4 : ∀ (x1 : Int32) (x2 : Int32) (h : g_Hp), R4 x1 x2 h → g_V G X iX8_lost 0 0 Q 4 0 0 [(0, vR 5 0 0), (1, vI x1), (2, vI x2)] [] h) (x1 : Int32) (x2 : Int32) (h : g_Hp) (H : wX8_lost_b4_B Q R4 x1 x2 h) : g_V G X iX8_lost 0 0 Q 4 0 0 [(0, vR 5 0 0), (1, vI x1), (2, vI x2)] [] h := by
  refine s_iload_n (pc := 4) C dX8_lost_4 rfl 2 rfl ?_
  refine s_aload_n (pc := 5) C dX8_lost_5 rfl 0 rfl ?_
  refine s_getr (pc := 6) (s := 5) (a := 13) (b := 0) (c' := 0) ckX8 (by decide) kw_1510 rfl C dX8_lost_6 ?_
  refine s_iconst (pc := 9) C dX8_lost_9 (x := (0 : Int32)) (by decide) ?_
  refine s_iald (pc := 10) (show ¬ ((0 : Int32) < 0 ∨ 169 ≤ (0 : Int32).toNatClampNeg) by decide) C dX8_lost_10 ?_
  refine s_icmp_ge (pc := 11) (tgt := 32) C dX8_lost_11 (by decide) (fun c => ?_) (fun c => ?_)
  · have H := H.1 c
    refine s_iload_n (pc := 32) C dX8_lost_32 rfl 1 rfl ?_
    exact s_iret (pc := 33) rfl rfl ⟨by decide, by decide⟩ H C dX8_lost_33
  · have H := H.2 c
    refine s_iload_n (pc := 14) C dX8_lost_14 rfl 1 rfl ?_
    refine s_aload_n (pc := 15) C dX8_lost_15 rfl 0 rfl ?_
    refine s_getr (pc := 16) (s := 5) (a := 13) (b := 0) (c' := 0) ckX8 (by decide) kw_1510 rfl C dX8_lost_16 ?_
    refine s_bipush (pc := 19) C dX8_lost_19 (x := (71 : Int32)) (by decide) ?_
    refine s_iload_n (pc := 21) C dX8_lost_21 rfl 2 rfl ?_
    refine s_iadd (pc := 22) C dX8_lost_22 ?_
    refine s_iald (pc := 23) H.1 C dX8_lost_23 ?_
    have H := H.2
    refine s_iadd (pc := 24) C dX8_lost_24 ?_
    refine s_namei (fun y1 ey1 => ?_)
    have H := H y1 ey1
    refine s_istore_n (pc := 25) (ls' := [(1, vI y1), (0, vR 5 0 0), (2, vI x2)]) C dX8_lost_25 rfl (by decide) rfl ?_
    refine s_iincN (pc := 26) C dX8_lost_26 2 rfl (z' := (1 : Int32)) (by decide) (by decide) (fun y2 ey2 => ?_)
    have H := H y2 ey2
    show g_V _ _ _ _ _ _ _ _ _ [(2, vI y2), (1, vI y1), (0, vR 5 0 0)] _ _
    refine s_goto (pc := 29) (tgt := 4) C dX8_lost_29 (by decide) ?_
    exact s_sub (ls' := [(0, vR 5 0 0), (1, vI y1), (2, vI y2)]) [2, 1, 0] rfl (hR4 y1 y2 h H)
theorem vX8_lost_b4 {G : g_G} {X : g_X} {Q : g_R → g_Hp → Prop} (C : g_Cx y_ G X iX8_lost) (x1 : Int32) (x2 : Int32) (h : g_Hp) (H : wX8_lost_b4 Q x1 x2 h) : g_V G X iX8_lost 0 0 Q 4 0 0 [(0, vR 5 0 0), (1, vI x1), (2, vI x2)] [] h := by
  obtain ⟨n, H⟩ := H
  induction n generalizing x1 x2 h with
  | zero => exact H.elim
  | succ n ih => exact vX8_lost_b4_B C _ (fun x1 x2 h H => ih x1 x2 h H) x1 x2 h H
set_option maxRecDepth 100000 in
set_option maxHeartbeats 4000000 in
theorem vX8_lost {G : g_G} {X : g_X} {Q : g_R → g_Hp → Prop} (C : g_Cx y_ G X iX8_lost) (h : g_Hp) (H : wX8_lost h Q) : g_V G X iX8_lost 0 0 Q 0 0 0 [(0, vR 5 0 0)] [] h := by
  refine s_iconst (pc := 0) C dX8_lost_0 (x := (0 : Int32)) (by decide) ?_
  refine s_istore_n (pc := 1) (ls' := [(1, vI (0 : Int32)), (0, vR 5 0 0)]) C dX8_lost_1 rfl (by decide) rfl ?_
  refine s_iconst (pc := 2) C dX8_lost_2 (x := (0 : Int32)) (by decide) ?_
  refine s_istore_n (pc := 3) (ls' := [(2, vI (0 : Int32)), (1, vI (0 : Int32)), (0, vR 5 0 0)]) C dX8_lost_3 rfl (by decide) rfl ?_
  exact s_sub (ls' := [(0, vR 5 0 0), (1, vI (0 : Int32)), (2, vI (0 : Int32))]) [2, 1, 0] rfl (vX8_lost_b4 C (0 : Int32) (0 : Int32) h H)
theorem ctX8_lost (l : Launch) (hl : l.stackTraces = false) {G : g_G} (h : g_Hp) (Q : g_R → g_Hp → Prop) (H : wX8_lost h Q) : g_Met l y_ G iX8_lost [vR 5 0 0] h Q :=
  g_Met_of hl (by decide +kernel) rfl rfl (Nat.le_of_ble_eq_true rfl) (fun X C => vX8_lost C h H)
/-! X8_lostTotal -/
abbrev iX8_lostTotal : g_I := (RX8, yX8_lostTotal, cX8_lostTotal, 1, (some .int), [], { frames := 2, cells := 0, slots := 0, locals := 42 })
set_option maxRecDepth 100000 in
set_option maxHeartbeats 4000000 in
theorem vX8_lostTotal {G : g_G} {X : g_X} {Q : g_R → g_Hp → Prop} (C : g_Cx y_ G X iX8_lostTotal) (h : g_Hp) (H : wX8_lostTotal h Q) : g_V G X iX8_lostTotal 0 0 Q 0 0 0 [(0, vR 5 0 0)] [] h := by
  refine s_aload_n (pc := 0) C dX8_lostTotal_0 rfl 0 rfl ?_
  refine s_iconst (pc := 1) C dX8_lostTotal_1 (x := (0 : Int32)) (by decide) ?_
  refine s_puti (pc := 2) (s := 0) ckX8 (Or.inl rfl) (by decide) kw_1505 (fun _ => rfl) rfl rfl rfl C dX8_lostTotal_2 ?_
  refine s_name (fun h1 eh1 => ?_)
  have H := H h1 eh1
  refine s_aload_n (pc := 5) C dX8_lostTotal_5 rfl 0 rfl ?_
  refine s_callv (pc := 6) (nA := 0) (as := []) (st := []) (stk := [vR 5 0 0]) ckX8 (Or.inl rfl) C (fun l hl => ctX8_lost l hl _ _ H) ⟨⟨kw_1849, kw_69, kw_1852⟩, rfl, ⟨by decide, by decide, by decide +kernel⟩, by decide, by decide⟩ kw_1851 (g_selW kw_44) rfl (Nat.le_of_ble_eq_true rfl) ⟨by decide, by decide⟩ rfl dX8_lostTotal_6 (g_Kq_I (fun u3 h2 H => ?_) (fun E h2 H => s_prop rfl ⟨by decide, by decide⟩ H C))
  exact s_iret (pc := 9) rfl rfl ⟨by decide, by decide⟩ H C dX8_lostTotal_9
theorem ctX8_lostTotal (l : Launch) (hl : l.stackTraces = false) {G : g_G} (h : g_Hp) (Q : g_R → g_Hp → Prop) (H : wX8_lostTotal h Q) : g_Met l y_ G iX8_lostTotal [vR 5 0 0] h Q :=
  g_Met_of hl (by decide +kernel) rfl rfl (Nat.le_of_ble_eq_true rfl) (fun X C => vX8_lostTotal C h H)
/-! X8_lostTotalByRoofs -/
abbrev iX8_lostTotalByRoofs : g_I := (RX8, yX8_lostTotalByRoofs, cX8_lostTotalByRoofs, 1, (some .int), [], { frames := 2, cells := 0, slots := 0, locals := 42 })
set_option maxRecDepth 100000 in
set_option maxHeartbeats 4000000 in
theorem vX8_lostTotalByRoofs {G : g_G} {X : g_X} {Q : g_R → g_Hp → Prop} (C : g_Cx y_ G X iX8_lostTotalByRoofs) (h : g_Hp) (H : wX8_lostTotalByRoofs h Q) : g_V G X iX8_lostTotalByRoofs 0 0 Q 0 0 0 [(0, vR 5 0 0)] [] h := by
  refine s_aload_n (pc := 0) C dX8_lostTotalByRoofs_0 rfl 0 rfl ?_
  refine s_iconst (pc := 1) C dX8_lostTotalByRoofs_1 (x := (0 : Int32)) (by decide) ?_
  refine s_puti (pc := 2) (s := 0) ckX8 (Or.inl rfl) (by decide) kw_1505 (fun _ => rfl) rfl rfl rfl C dX8_lostTotalByRoofs_2 ?_
  refine s_name (fun h1 eh1 => ?_)
  have H := H h1 eh1
  refine s_aload_n (pc := 5) C dX8_lostTotalByRoofs_5 rfl 0 rfl ?_
  refine s_callv (pc := 6) (nA := 0) (as := []) (st := []) (stk := [vR 5 0 0]) ckX8 (Or.inl rfl) C (fun l hl => ctX8_lost l hl _ _ H) ⟨⟨kw_1849, kw_69, kw_1852⟩, rfl, ⟨by decide, by decide, by decide +kernel⟩, by decide, by decide⟩ kw_1851 (g_selW kw_44) rfl (Nat.le_of_ble_eq_true rfl) ⟨by decide, by decide⟩ rfl dX8_lostTotalByRoofs_6 (g_Kq_I (fun u3 h2 H => ?_) (fun E h2 H => s_prop rfl ⟨by decide, by decide⟩ H C))
  exact s_iret (pc := 9) rfl rfl ⟨by decide, by decide⟩ H C dX8_lostTotalByRoofs_9
theorem ctX8_lostTotalByRoofs (l : Launch) (hl : l.stackTraces = false) {G : g_G} (h : g_Hp) (Q : g_R → g_Hp → Prop) (H : wX8_lostTotalByRoofs h Q) : g_Met l y_ G iX8_lostTotalByRoofs [vR 5 0 0] h Q :=
  g_Met_of hl (by decide +kernel) rfl rfl (Nat.le_of_ble_eq_true rfl) (fun X C => vX8_lostTotalByRoofs C h H)
/-! X8_stepTotal -/
abbrev iX8_stepTotal : g_I := (RX8, yX8_stepTotal, cX8_stepTotal, 1, (some .int), [], { frames := 2, cells := 0, slots := 0, locals := 41 })
set_option maxRecDepth 100000 in
set_option maxHeartbeats 4000000 in
theorem vX8_stepTotal {G : g_G} {X : g_X} {Q : g_R → g_Hp → Prop} (C : g_Cx y_ G X iX8_stepTotal) (h : g_Hp) (H : wX8_stepTotal h Q) : g_V G X iX8_stepTotal 0 0 Q 0 0 0 [(0, vR 5 0 0)] [] h := by
  refine s_aload_n (pc := 0) C dX8_stepTotal_0 rfl 0 rfl ?_
  refine s_bipush (pc := 1) C dX8_stepTotal_1 (x := (9 : Int32)) (by decide) ?_
  refine s_callv (pc := 3) (nA := 1) (as := [vI (9 : Int32)]) (st := []) (stk := [vI (9 : Int32), vR 5 0 0]) ckX8 (Or.inl rfl) C (fun l hl => ctX8_tells l hl (9 : Int32) _ _ H) ⟨⟨kw_1604, kw_69, kw_1607⟩, rfl, ⟨by decide, by decide, by decide +kernel⟩, by decide, by decide⟩ kw_1606 (g_selW kw_25) rfl (Nat.le_of_ble_eq_true rfl) ⟨by decide, by decide⟩ rfl dX8_stepTotal_3 (g_Kq_I (fun u2 h1 H => ?_) (fun E h1 H => s_prop rfl ⟨by decide, by decide⟩ H C))
  exact s_iret (pc := 6) rfl rfl ⟨by decide, by decide⟩ H C dX8_stepTotal_6
theorem ctX8_stepTotal (l : Launch) (hl : l.stackTraces = false) {G : g_G} (h : g_Hp) (Q : g_R → g_Hp → Prop) (H : wX8_stepTotal h Q) : g_Met l y_ G iX8_stepTotal [vR 5 0 0] h Q :=
  g_Met_of hl (by decide +kernel) rfl rfl (Nat.le_of_ble_eq_true rfl) (fun X C => vX8_stepTotal C h H)
/-! X8_settlementCount -/
abbrev iX8_settlementCount : g_I := (RX8, yX8_settlementCount, cX8_settlementCount, 1, (some .int), [], { frames := 2, cells := 0, slots := 0, locals := 41 })
set_option maxRecDepth 100000 in
set_option maxHeartbeats 4000000 in
theorem vX8_settlementCount {G : g_G} {X : g_X} {Q : g_R → g_Hp → Prop} (C : g_Cx y_ G X iX8_settlementCount) (h : g_Hp) (H : wX8_settlementCount h Q) : g_V G X iX8_settlementCount 0 0 Q 0 0 0 [(0, vR 5 0 0)] [] h := by
  refine s_aload_n (pc := 0) C dX8_settlementCount_0 rfl 0 rfl ?_
  refine s_bipush (pc := 1) C dX8_settlementCount_1 (x := (10 : Int32)) (by decide) ?_
  refine s_callv (pc := 3) (nA := 1) (as := [vI (10 : Int32)]) (st := []) (stk := [vI (10 : Int32), vR 5 0 0]) ckX8 (Or.inl rfl) C (fun l hl => ctX8_tells l hl (10 : Int32) _ _ H) ⟨⟨kw_1604, kw_69, kw_1607⟩, rfl, ⟨by decide, by decide, by decide +kernel⟩, by decide, by decide⟩ kw_1606 (g_selW kw_25) rfl (Nat.le_of_ble_eq_true rfl) ⟨by decide, by decide⟩ rfl dX8_settlementCount_3 (g_Kq_I (fun u2 h1 H => ?_) (fun E h1 H => s_prop rfl ⟨by decide, by decide⟩ H C))
  exact s_iret (pc := 6) rfl rfl ⟨by decide, by decide⟩ H C dX8_settlementCount_6
theorem ctX8_settlementCount (l : Launch) (hl : l.stackTraces = false) {G : g_G} (h : g_Hp) (Q : g_R → g_Hp → Prop) (H : wX8_settlementCount h Q) : g_Met l y_ G iX8_settlementCount [vR 5 0 0] h Q :=
  g_Met_of hl (by decide +kernel) rfl rfl (Nat.le_of_ble_eq_true rfl) (fun X C => vX8_settlementCount C h H)
