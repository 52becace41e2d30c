/-! J6_getChars_ba4f3 -/
abbrev iJ6_getChars_ba4f3 : g_I := (RJ6, yJ6_getChars_ba4f3, cJ6_getChars_ba4f3, 7, (some .int), [], { frames := 1, cells := 0, slots := 0, locals := 20 })
set_option maxRecDepth 100000 in
set_option maxHeartbeats 4000000 in
theorem vJ6_getChars_ba4f3_b118 {G : g_G} {X : g_X} {Q : g_R → g_Hp → Prop} (C : g_Cx y_ G X iJ6_getChars_ba4f3) (a2i : Nat) (a2j : Nat) (x5 : Int32) (h : g_Hp) (H : wJ6_getChars_ba4f3_b118 a2i a2j Q x5 h) : g_V G X iJ6_getChars_ba4f3 0 0 Q 118 0 0 [(5, vI x5)] [] h := by
  refine s_iload (pc := 118) C dJ6_getChars_ba4f3_118 0 rfl ?_
  exact s_iret (pc := 120) rfl rfl ⟨by decide, by decide⟩ H C dJ6_getChars_ba4f3_120
set_option maxRecDepth 100000 in
set_option maxHeartbeats 4000000 in
theorem vJ6_getChars_ba4f3_b104 {G : g_G} {X : g_X} {Q : g_R → g_Hp → Prop} (C : g_Cx y_ G X iJ6_getChars_ba4f3) (a2i : Nat) (a2j : Nat) (x5 : Int32) (x6 : Int32) (h : g_Hp) (H : wJ6_getChars_ba4f3_b104 a2i a2j Q x5 x6 h) : g_V G X iJ6_getChars_ba4f3 0 0 Q 104 0 0 [(2, vR 14 a2i a2j), (5, vI x5), (6, vI x6)] [] h := by
  refine s_iload (pc := 104) C dJ6_getChars_ba4f3_104 2 rfl ?_
  refine s_if_eq (pc := 106) (tgt := 118) C dJ6_getChars_ba4f3_106 (by decide) (fun c => ?_) (fun c => ?_)
  · have H := H.1 c
    exact s_sub (ls' := [(5, vI x5)]) [1] rfl (vJ6_getChars_ba4f3_b118 C a2i a2j x5 h H)
  · have H := H.2 c
    refine s_aload_n (pc := 109) C dJ6_getChars_ba4f3_109 rfl 0 rfl ?_
    refine s_iincN (pc := 110) C dJ6_getChars_ba4f3_110 1 rfl (z' := (-1 : Int32)) (by decide) (by decide) (fun y1 ey1 => ?_)
    have H := H y1 ey1
    show g_V _ _ _ _ _ _ _ _ _ [(5, vI y1), (2, vR 14 a2i a2j), (6, vI x6)] _ _
    refine s_iload (pc := 113) C dJ6_getChars_ba4f3_113 0 rfl ?_
    refine s_bipush (pc := 115) C dJ6_getChars_ba4f3_115 (x := (45 : Int32)) (by decide) ?_
    refine s_bast (pc := 117) H.1 C dJ6_getChars_ba4f3_117 ?_
    have H := H.2
    refine s_name (fun h2 eh2 => ?_)
    have H := H h2 eh2
    exact s_sub (ls' := [(5, vI y1)]) [0] rfl (vJ6_getChars_ba4f3_b118 C a2i a2j y1 h2 H)
set_option maxRecDepth 100000 in
set_option maxHeartbeats 4000000 in
theorem vJ6_getChars_ba4f3_b22_B {G : g_G} {X : g_X} {Q : g_R → g_Hp → Prop} (C : g_Cx y_ G X iJ6_getChars_ba4f3) (a2i : Nat) (a2j : Nat) (R22 : Int32 → Int32 → Int32 → g_Hp → Prop) (hR22 : ∀ (x0 : Int32) (x5 : Int32) (x6 : Int32) (h : g_Hp), R22 x0 x5 x6 h → g_V G X iJ6_getChars_ba4f3 0 0 Q 22 0 0 [(0, vI x0), (2, vR 14 a2i a2j), (5, vI x5), (6, vI x6)] [] h) (x0 : Int32) (x5 : Int32) (x6 : Int32) (h : g_Hp) (H : wJ6_getChars_ba4f3_b22_B a2i a2j Q R22 x0 x5 x6 h) : g_V G X iJ6_getChars_ba4f3 0 0 Q 22 0 0 [(0, vI x0), (2, vR 14 a2i a2j), (5, vI x5), (6, vI x6)] [] h := by
  refine s_iload_n (pc := 22) C dJ6_getChars_ba4f3_22 rfl 0 rfl ?_
  refine s_bipush (pc := 23) C dJ6_getChars_ba4f3_23 (x := (-100 : Int32)) (by decide) ?_
  refine s_icmp_gt (pc := 25) (tgt := 72) C dJ6_getChars_ba4f3_25 (by decide) (fun c => ?_) (fun c => ?_)
  · have H := H.1 c
    refine s_aload_n (pc := 72) C dJ6_getChars_ba4f3_72 rfl 1 rfl ?_
    refine s_iincN (pc := 73) C dJ6_getChars_ba4f3_73 2 rfl (z' := (-1 : Int32)) (by decide) (by decide) (fun y1 ey1 => ?_)
    have H := H y1 ey1
    show g_V _ _ _ _ _ _ _ _ _ [(5, vI y1), (0, vI x0), (2, vR 14 a2i a2j), (6, vI x6)] _ _
    refine s_iload (pc := 76) C dJ6_getChars_ba4f3_76 0 rfl ?_
    refine s_gets (pc := 78) zs_DigitOnes (g_cst_R rfl) kw_1304 C dJ6_getChars_ba4f3_78 ?_
    refine s_iload_n (pc := 81) C dJ6_getChars_ba4f3_81 rfl 1 rfl ?_
    refine s_ineg (pc := 82) C dJ6_getChars_ba4f3_82 ?_
    refine s_balddg (pc := 83) H.1 (by decide) C dJ6_getChars_ba4f3_83 ?_
    have H := H.2
    refine s_bast (pc := 84) H.1 C dJ6_getChars_ba4f3_84 ?_
    have H := H.2
    refine s_name (fun h2 eh2 => ?_)
    have H := H h2 eh2
    refine s_iload_n (pc := 85) C dJ6_getChars_ba4f3_85 rfl 1 rfl ?_
    refine s_bipush (pc := 86) C dJ6_getChars_ba4f3_86 (x := (-9 : Int32)) (by decide) ?_
    refine s_icmp_ge (pc := 88) (tgt := 104) C dJ6_getChars_ba4f3_88 (by decide) (fun c => ?_) (fun c => ?_)
    · have H := H.1 c
      exact s_sub (ls' := [(2, vR 14 a2i a2j), (5, vI y1), (6, vI x6)]) [2, 0, 3] rfl (vJ6_getChars_ba4f3_b104 C a2i a2j y1 x6 h2 H)
    · have H := H.2 c
      refine s_aload_n (pc := 91) C dJ6_getChars_ba4f3_91 rfl 2 rfl ?_
      refine s_iincN (pc := 92) C dJ6_getChars_ba4f3_92 0 rfl (z' := (-1 : Int32)) (by decide) (by decide) (fun y3 ey3 => ?_)
      have H := H y3 ey3
      show g_V _ _ _ _ _ _ _ _ _ [(5, vI y3), (0, vI x0), (2, vR 14 a2i a2j), (6, vI x6)] _ _
      refine s_iload (pc := 95) C dJ6_getChars_ba4f3_95 0 rfl ?_
      refine s_gets (pc := 97) zs_DigitTens (g_cst_R rfl) kw_1306 C dJ6_getChars_ba4f3_97 ?_
      refine s_iload_n (pc := 100) C dJ6_getChars_ba4f3_100 rfl 1 rfl ?_
      refine s_ineg (pc := 101) C dJ6_getChars_ba4f3_101 ?_
      refine s_balddg (pc := 102) H.1 (by decide) C dJ6_getChars_ba4f3_102 ?_
      have H := H.2
      refine s_bast (pc := 103) H.1 C dJ6_getChars_ba4f3_103 ?_
      have H := H.2
      refine s_name (fun h4 eh4 => ?_)
      have H := H h4 eh4
      exact s_sub (ls' := [(2, vR 14 a2i a2j), (5, vI y3), (6, vI x6)]) [2, 0, 3] rfl (vJ6_getChars_ba4f3_b104 C a2i a2j y3 x6 h4 H)
  · have H := H.2 c
    refine s_iload_n (pc := 28) C dJ6_getChars_ba4f3_28 rfl 0 rfl ?_
    refine s_bipush (pc := 29) C dJ6_getChars_ba4f3_29 (x := (100 : Int32)) (by decide) ?_
    refine s_idiv (pc := 31) C dJ6_getChars_ba4f3_31 H.1 ?_
    have H := H.2
    refine s_namei (fun y5 ey5 => ?_)
    have H := H y5 ey5
    refine s_istore_n (pc := 32) (ls' := [(3, vI y5), (0, vI x0), (2, vR 14 a2i a2j), (5, vI x5), (6, vI x6)]) C dJ6_getChars_ba4f3_32 rfl (by decide) rfl ?_
    refine s_iload_n (pc := 33) C dJ6_getChars_ba4f3_33 rfl 0 rfl ?_
    refine s_bipush (pc := 34) C dJ6_getChars_ba4f3_34 (x := (100 : Int32)) (by decide) ?_
    refine s_imul (pc := 36) C dJ6_getChars_ba4f3_36 ?_
    refine s_iload_n (pc := 37) C dJ6_getChars_ba4f3_37 rfl 1 rfl ?_
    refine s_isub (pc := 38) C dJ6_getChars_ba4f3_38 ?_
    refine s_namei (fun y6 ey6 => ?_)
    have H := H y6 ey6
    refine s_istore (pc := 39) (ls' := [(4, vI y6), (3, vI y5), (0, vI x0), (2, vR 14 a2i a2j), (5, vI x5), (6, vI x6)]) C dJ6_getChars_ba4f3_39 (by decide) rfl ?_
    refine s_iload_n (pc := 41) C dJ6_getChars_ba4f3_41 rfl 1 rfl ?_
    refine s_istore_n (pc := 42) (ls' := [(0, vI y5), (4, vI y6), (3, vI y5), (2, vR 14 a2i a2j), (5, vI x5), (6, vI x6)]) C dJ6_getChars_ba4f3_42 rfl (by decide) rfl ?_
    refine s_aload_n (pc := 43) C dJ6_getChars_ba4f3_43 rfl 3 rfl ?_
    refine s_iincN (pc := 44) C dJ6_getChars_ba4f3_44 4 rfl (z' := (-1 : Int32)) (by decide) (by decide) (fun y7 ey7 => ?_)
    have H := H y7 ey7
    show g_V _ _ _ _ _ _ _ _ _ [(5, vI y7), (0, vI y5), (4, vI y6), (3, vI y5), (2, vR 14 a2i a2j), (6, vI x6)] _ _
    refine s_iload (pc := 47) C dJ6_getChars_ba4f3_47 0 rfl ?_
    refine s_gets (pc := 49) zs_DigitOnes (g_cst_R rfl) kw_1304 C dJ6_getChars_ba4f3_49 ?_
    refine s_iload (pc := 52) C dJ6_getChars_ba4f3_52 2 rfl ?_
    refine s_balddg (pc := 54) H.1 (by decide) C dJ6_getChars_ba4f3_54 ?_
    have H := H.2
    refine s_bast (pc := 55) H.1 C dJ6_getChars_ba4f3_55 ?_
    have H := H.2
    refine s_name (fun h8 eh8 => ?_)
    have H := H h8 eh8
    refine s_aload_n (pc := 56) C dJ6_getChars_ba4f3_56 rfl 4 rfl ?_
    refine s_iincN (pc := 57) C dJ6_getChars_ba4f3_57 0 rfl (z' := (-1 : Int32)) (by decide) (by decide) (fun y9 ey9 => ?_)
    have H := H y9 ey9
    show g_V _ _ _ _ _ _ _ _ _ [(5, vI y9), (0, vI y5), (4, vI y6), (3, vI y5), (2, vR 14 a2i a2j), (6, vI x6)] _ _
    refine s_iload (pc := 60) C dJ6_getChars_ba4f3_60 0 rfl ?_
    refine s_gets (pc := 62) zs_DigitTens (g_cst_R rfl) kw_1306 C dJ6_getChars_ba4f3_62 ?_
    refine s_iload (pc := 65) C dJ6_getChars_ba4f3_65 2 rfl ?_
    refine s_balddg (pc := 67) H.1 (by decide) C dJ6_getChars_ba4f3_67 ?_
    have H := H.2
    refine s_bast (pc := 68) H.1 C dJ6_getChars_ba4f3_68 ?_
    have H := H.2
    refine s_name (fun h10 eh10 => ?_)
    have H := H h10 eh10
    refine s_goto (pc := 69) (tgt := 22) C dJ6_getChars_ba4f3_69 (by decide) ?_
    exact s_sub (ls' := [(0, vI y5), (2, vR 14 a2i a2j), (5, vI y9), (6, vI x6)]) [1, 4, 0, 5] rfl (hR22 y5 y9 x6 h10 H)
theorem vJ6_getChars_ba4f3_b22 {G : g_G} {X : g_X} {Q : g_R → g_Hp → Prop} (C : g_Cx y_ G X iJ6_getChars_ba4f3) (a2i : Nat) (a2j : Nat) (x0 : Int32) (x5 : Int32) (x6 : Int32) (h : g_Hp) (H : wJ6_getChars_ba4f3_b22 a2i a2j Q x0 x5 x6 h) : g_V G X iJ6_getChars_ba4f3 0 0 Q 22 0 0 [(0, vI x0), (2, vR 14 a2i a2j), (5, vI x5), (6, vI x6)] [] h := by
  obtain ⟨n, H⟩ := H
  induction n generalizing x0 x5 x6 h with
  | zero => exact H.elim
  | succ n ih => exact vJ6_getChars_ba4f3_b22_B C a2i a2j _ (fun x0 x5 x6 h H => ih x0 x5 x6 h H) x0 x5 x6 h H
set_option maxRecDepth 100000 in
set_option maxHeartbeats 4000000 in
theorem vJ6_getChars_ba4f3_b12 {G : g_G} {X : g_X} {Q : g_R → g_Hp → Prop} (C : g_Cx y_ G X iJ6_getChars_ba4f3) (a2i : Nat) (a2j : Nat) (x0 : Int32) (x5 : Int32) (z0 : Int32) (h : g_Hp) (H : wJ6_getChars_ba4f3_b12 a2i a2j Q x0 x5 z0 h) : g_V G X iJ6_getChars_ba4f3 0 0 Q 12 0 0 [(0, vI x0), (2, vR 14 a2i a2j), (5, vI x5)] [vI z0] h := by
  refine s_istore (pc := 12) (ls' := [(6, vI z0), (0, vI x0), (2, vR 14 a2i a2j), (5, vI x5)]) C dJ6_getChars_ba4f3_12 (by decide) rfl ?_
  refine s_iload (pc := 14) C dJ6_getChars_ba4f3_14 0 rfl ?_
  refine s_if_ne (pc := 16) (tgt := 22) C dJ6_getChars_ba4f3_16 (by decide) (fun c => ?_) (fun c => ?_)
  · have H := H.1 c
    exact s_sub (ls' := [(0, vI x0), (2, vR 14 a2i a2j), (5, vI x5), (6, vI z0)]) [1, 2, 3, 0] rfl (vJ6_getChars_ba4f3_b22 C a2i a2j x0 x5 z0 h H)
  · have H := H.2 c
    refine s_iload_n (pc := 19) C dJ6_getChars_ba4f3_19 rfl 1 rfl ?_
    refine s_ineg (pc := 20) C dJ6_getChars_ba4f3_20 ?_
    refine s_namei (fun y1 ey1 => ?_)
    have H := H y1 ey1
    refine s_istore_n (pc := 21) (ls' := [(0, vI y1), (6, vI z0), (2, vR 14 a2i a2j), (5, vI x5)]) C dJ6_getChars_ba4f3_21 rfl (by decide) rfl ?_
    exact s_sub (ls' := [(0, vI y1), (2, vR 14 a2i a2j), (5, vI x5), (6, vI z0)]) [0, 2, 3, 1] rfl (vJ6_getChars_ba4f3_b22 C a2i a2j y1 x5 z0 h H)
set_option maxRecDepth 100000 in
set_option maxHeartbeats 4000000 in
theorem vJ6_getChars_ba4f3 {G : g_G} {X : g_X} {Q : g_R → g_Hp → Prop} (C : g_Cx y_ G X iJ6_getChars_ba4f3) (p0 : Int32) (p1 : Int32) (a2i : Nat) (a2j : Nat) (h : g_Hp) (H : wJ6_getChars_ba4f3 p0 p1 a2i a2j h Q) : g_V G X iJ6_getChars_ba4f3 0 0 Q 0 0 0 [(0, vI p0), (1, vI p1), (2, vR 14 a2i a2j)] [] h := by
  refine s_iload_n (pc := 0) C dJ6_getChars_ba4f3_0 rfl 1 rfl ?_
  refine s_istore (pc := 1) (ls' := [(5, vI p1), (0, vI p0), (1, vI p1), (2, vR 14 a2i a2j)]) C dJ6_getChars_ba4f3_1 (by decide) rfl ?_
  refine s_iload_n (pc := 3) C dJ6_getChars_ba4f3_3 rfl 1 rfl ?_
  refine s_if_ge (pc := 4) (tgt := 11) C dJ6_getChars_ba4f3_4 (by decide) (fun c => ?_) (fun c => ?_)
  · have H := H.1 c
    refine s_iconst (pc := 11) C dJ6_getChars_ba4f3_11 (x := (0 : Int32)) (by decide) ?_
    exact s_sub (ls' := [(0, vI p0), (2, vR 14 a2i a2j), (5, vI p1)]) [1, 3, 0] rfl (vJ6_getChars_ba4f3_b12 C a2i a2j p0 p1 (0 : Int32) h H)
  · have H := H.2 c
    refine s_iconst (pc := 7) C dJ6_getChars_ba4f3_7 (x := (1 : Int32)) (by decide) ?_
    refine s_goto (pc := 8) (tgt := 12) C dJ6_getChars_ba4f3_8 (by decide) ?_
    exact s_sub (ls' := [(0, vI p0), (2, vR 14 a2i a2j), (5, vI p1)]) [1, 3, 0] rfl (vJ6_getChars_ba4f3_b12 C a2i a2j p0 p1 (1 : Int32) h H)
theorem ctJ6_getChars_ba4f3 (l : Launch) (hl : l.stackTraces = false) {G : g_G} (p0 : Int32) (p1 : Int32) (a2i : Nat) (a2j : Nat) (h : g_Hp) (Q : g_R → g_Hp → Prop) (H : wJ6_getChars_ba4f3 p0 p1 a2i a2j h Q) : g_Met l y_ G iJ6_getChars_ba4f3 [vI p0, vI p1, vR 14 a2i a2j] h Q :=
  g_Met_of hl (by decide +kernel) rfl rfl (Nat.le_of_ble_eq_true rfl) (fun X C => vJ6_getChars_ba4f3 C p0 p1 a2i a2j h H)
/-! J5_append_c97b9 -/
abbrev iJ5_append_c97b9 : g_I := (RJ5, yJ5_append_c97b9, cJ5_append_c97b9, 4, (some (.object "java/lang/AbstractStringBuilder")), [], { frames := 5, cells := 1, slots := 150, locals := 164 })
set_option maxRecDepth 100000 in
set_option maxHeartbeats 4000000 in
theorem vJ5_append_c97b9 {G : g_G} {X : g_X} {Q : g_R → g_Hp → Prop} (C : g_Cx y_ G X iJ5_append_c97b9) (ti : Nat) (tj : Nat) (p0 : Int32) (h : g_Hp) (H : wJ5_append_c97b9 ti tj p0 h Q) : g_V G X iJ5_append_c97b9 1 150 Q 0 0 0 [(0, vR 6 ti tj), (1, vI p0)] [] h := by
  refine s_aload_n (pc := 0) C dJ5_append_c97b9_0 rfl 0 rfl ?_
  refine s_geti (pc := 1) (s := 3) ckJ4 (Or.inl rfl) (by decide) kw_243 (fun _ => rfl) C dJ5_append_c97b9_1 ?_
  refine s_namei (fun y1 ey1 => ?_)
  have H := H y1 ey1
  refine s_istore_n (pc := 4) (ls' := [(2, vI y1), (0, vR 6 ti tj), (1, vI p0)]) C dJ5_append_c97b9_4 rfl (by decide) rfl ?_
  refine s_iload_n (pc := 5) C dJ5_append_c97b9_5 rfl 0 rfl ?_
  refine s_iload_n (pc := 6) C dJ5_append_c97b9_6 rfl 2 rfl ?_
  refine s_calls (pc := 7) (nA := 1) (as := [vI p0]) (st := [vI y1]) (stk := [vI p0, vI y1]) C (fun l hl => ctJ6_stringSize_0f7a4 l hl p0 _ _ H) ⟨⟨kw_1298, kw_90, kw_1300⟩, rfl, ⟨by decide, by decide, by decide +kernel⟩, by decide, by decide⟩ kw_1299 rfl (Nat.le_of_ble_eq_true rfl) ⟨by decide, by decide⟩ rfl dJ5_append_c97b9_7 (g_Kq_I (fun u3 h2 H => ?_) (fun E h2 H => s_prop rfl ⟨by decide, by decide⟩ H C))
  refine s_iadd (pc := 10) C dJ5_append_c97b9_10 ?_
  refine s_namei (fun y4 ey4 => ?_)
  have H := H y4 ey4
  refine s_istore_n (pc := 11) (ls' := [(3, vI y4), (2, vI y1), (0, vR 6 ti tj), (1, vI p0)]) C dJ5_append_c97b9_11 rfl (by decide) rfl ?_
  refine s_aload_n (pc := 12) C dJ5_append_c97b9_12 rfl 2 rfl ?_
  refine s_iload_n (pc := 13) C dJ5_append_c97b9_13 rfl 0 rfl ?_
  refine s_callv (pc := 14) (nA := 1) (as := [vI y4]) (st := []) (stk := [vI y4, vR 6 ti tj]) ckJ4 (Or.inl rfl) C (fun l hl => ctJ5_ensureCapacityInternal_d00df l hl ti tj y4 _ _ H) ⟨⟨kw_1063, kw_62, kw_1066⟩, rfl, ⟨by decide, by decide, by decide +kernel⟩, by decide, by decide⟩ kw_1065 (g_selW kw_2019) rfl (Nat.le_of_ble_eq_true rfl) ⟨by decide, by decide⟩ rfl dJ5_append_c97b9_14 (g_Kq_V (fun h5 H => ?_) (fun E h5 H => s_prop rfl ⟨by decide, by decide⟩ H C))
  refine s_aload_n (pc := 17) C dJ5_append_c97b9_17 rfl 2 rfl ?_
  refine s_callv (pc := 18) (nA := 0) (as := []) (st := []) (stk := [vR 6 ti tj]) ckJ4 (Or.inl rfl) C (fun l hl => ctJ5_isLatin1_aae02 l hl ti tj _ _ H) ⟨⟨kw_1096, kw_62, kw_1100⟩, rfl, ⟨by decide, by decide, by decide +kernel⟩, by decide, by decide⟩ kw_1097 (g_selW kw_1099) rfl (Nat.le_of_ble_eq_true rfl) ⟨by decide, by decide⟩ rfl dJ5_append_c97b9_18 (g_Kq_I (fun u7 h6 H => ?_) (fun E h6 H => s_prop rfl ⟨by decide, by decide⟩ H C))
  refine s_if_eq (pc := 21) (tgt := 37) C dJ5_append_c97b9_21 (by decide) (fun c => ?_) (fun c => ?_)
  · have H := H.1 c
    exact H.elim
  · have H := H.2 c
    refine s_iload_n (pc := 24) C dJ5_append_c97b9_24 rfl 3 rfl ?_
    refine s_iload_n (pc := 25) C dJ5_append_c97b9_25 rfl 0 rfl ?_
    refine s_aload_n (pc := 26) C dJ5_append_c97b9_26 rfl 2 rfl ?_
    refine s_getr (pc := 27) (s := 0) (a := 14) (b := ti) (c' := ((h6 6 ti tj 1).toNatClampNeg - 1)) ckJ4 (by decide) kw_239 rfl C dJ5_append_c97b9_27 ?_
    refine s_nmj (fun j8 ej8 => ?_)
    have H := H j8 ej8
    refine s_calls (pc := 30) (nA := 3) (as := [vI p0, vI y4, vR 14 ti j8]) (st := []) (stk := [vR 14 ti j8, vI y4, vI p0]) C (fun l hl => ctJ6_getChars_ba4f3 l hl p0 y4 ti j8 _ _ H) ⟨⟨kw_1301, kw_90, kw_1303⟩, rfl, ⟨by decide, by decide, by decide +kernel⟩, by decide, by decide⟩ kw_1302 rfl (Nat.le_of_ble_eq_true rfl) ⟨by decide, by decide⟩ rfl dJ5_append_c97b9_30 (g_Kq_I (fun u10 h9 H => ?_) (fun E h9 H => s_prop rfl ⟨by decide, by decide⟩ H C))
    refine s_pop (pc := 33) C dJ5_append_c97b9_33 rfl ?_
    refine s_goto (pc := 34) (tgt := 48) C dJ5_append_c97b9_34 (by decide) ?_
    refine s_aload_n (pc := 48) C dJ5_append_c97b9_48 rfl 2 rfl ?_
    refine s_iload_n (pc := 49) C dJ5_append_c97b9_49 rfl 0 rfl ?_
    refine s_puti (pc := 50) (s := 3) ckJ4 (Or.inl rfl) (by decide) kw_243 (fun _ => rfl) rfl rfl rfl C dJ5_append_c97b9_50 ?_
    refine s_name (fun h11 eh11 => ?_)
    have H := H h11 eh11
    refine s_aload_n (pc := 53) C dJ5_append_c97b9_53 rfl 2 rfl ?_
    exact s_aret (pc := 54) rfl (Or.inl ⟨_, rfl⟩) ⟨by decide, by decide⟩ H C dJ5_append_c97b9_54
theorem ctJ5_append_c97b9 (l : Launch) (hl : l.stackTraces = false) {G : g_G} (ti : Nat) (tj : Nat) (p0 : Int32) (h : g_Hp) (Q : g_R → g_Hp → Prop) (H : wJ5_append_c97b9 ti tj p0 h Q) : g_Met l y_ G iJ5_append_c97b9 [vR 6 ti tj, vI p0] h Q :=
  g_Met_of hl (by decide +kernel) rfl rfl (Nat.le_of_ble_eq_true rfl) (fun X C => vJ5_append_c97b9 C ti tj p0 h H)
/-! J4_append_bf812 -/
abbrev iJ4_append_bf812 : g_I := (RJ4, yJ4_append_bf812, cJ4_append_bf812, 2, (some (.object "java/lang/StringBuilder")), [], { frames := 6, cells := 1, slots := 150, locals := 187 })
set_option maxRecDepth 100000 in
set_option maxHeartbeats 4000000 in
theorem vJ4_append_bf812 {G : g_G} {X : g_X} {Q : g_R → g_Hp → Prop} (C : g_Cx y_ G X iJ4_append_bf812) (ti : Nat) (tj : Nat) (p0 : Int32) (h : g_Hp) (H : wJ4_append_bf812 ti tj p0 h Q) : g_V G X iJ4_append_bf812 1 150 Q 0 0 0 [(0, vR 6 ti tj), (1, vI p0)] [] h := by
  refine s_aload_n (pc := 0) C dJ4_append_bf812_0 rfl 0 rfl ?_
  refine s_iload_n (pc := 1) C dJ4_append_bf812_1 rfl 1 rfl ?_
  refine s_callsu (pc := 2) (nA := 1) (as := [vI p0]) (st := []) (stk := [vI p0, vR 6 ti tj]) ckJ4 C (fun l hl => ctJ5_append_c97b9 l hl ti tj p0 _ _ H) ⟨kw_1295, kw_1971, kw_252, kw_1296, kw_62, kw_1297⟩ rfl ⟨by decide, by decide +kernel⟩ ⟨by decide, by decide⟩ rfl (Nat.le_of_ble_eq_true rfl) ⟨by decide, by decide⟩ rfl dJ4_append_bf812_2 (g_Kq_R (fun i2 j3 h1 H => ?_) (fun E h1 H => s_prop rfl ⟨by decide, by decide⟩ H C))
  refine s_pop (pc := 5) C dJ4_append_bf812_5 rfl ?_
  refine s_aload_n (pc := 6) C dJ4_append_bf812_6 rfl 0 rfl ?_
  exact s_aret (pc := 7) rfl (Or.inl ⟨_, rfl⟩) ⟨by decide, by decide⟩ H C dJ4_append_bf812_7
theorem ctJ4_append_bf812 (l : Launch) (hl : l.stackTraces = false) {G : g_G} (ti : Nat) (tj : Nat) (p0 : Int32) (h : g_Hp) (Q : g_R → g_Hp → Prop) (H : wJ4_append_bf812 ti tj p0 h Q) : g_Met l y_ G iJ4_append_bf812 [vR 6 ti tj, vI p0] h Q :=
  g_Met_of hl (by decide +kernel) rfl rfl (Nat.le_of_ble_eq_true rfl) (fun X C => vJ4_append_bf812 C ti tj p0 h H)
/-! J5_setLength_d00df -/
abbrev iJ5_setLength_d00df : g_I := (RJ5, yJ5_setLength_d00df, cJ5_setLength_d00df, 2, none, [], { frames := 5, cells := 1, slots := 150, locals := 164 })
set_option maxRecDepth 100000 in
set_option maxHeartbeats 4000000 in
theorem vJ5_setLength_d00df_b76 {G : g_G} {X : g_X} {Q : g_R → g_Hp → Prop} (C : g_Cx y_ G X iJ5_setLength_d00df) (ti : Nat) (tj : Nat) (x1 : Int32) (h : g_Hp) (H : wJ5_setLength_d00df_b76 ti tj Q x1 h) : g_V G X iJ5_setLength_d00df 1 150 Q 76 1 150 [(0, vR 6 ti tj), (1, vI x1)] [] h := by
  refine s_aload_n (pc := 76) C dJ5_setLength_d00df_76 rfl 0 rfl ?_
  refine s_iload_n (pc := 77) C dJ5_setLength_d00df_77 rfl 1 rfl ?_
  refine s_puti (pc := 78) (s := 3) ckJ4 (Or.inl rfl) (by decide) kw_243 (fun _ => rfl) rfl rfl rfl C dJ5_setLength_d00df_78 ?_
  refine s_name (fun h1 eh1 => ?_)
  have H := H h1 eh1
  exact s_vret (pc := 81) rfl ⟨by decide, by decide⟩ H C dJ5_setLength_d00df_81
set_option maxRecDepth 100000 in
set_option maxHeartbeats 4000000 in
theorem vJ5_setLength_d00df {G : g_G} {X : g_X} {Q : g_R → g_Hp → Prop} (C : g_Cx y_ G X iJ5_setLength_d00df) (ti : Nat) (tj : Nat) (p0 : Int32) (h : g_Hp) (H : wJ5_setLength_d00df ti tj p0 h Q) : g_V G X iJ5_setLength_d00df 1 150 Q 0 0 0 [(0, vR 6 ti tj), (1, vI p0)] [] h := by
  refine s_iload_n (pc := 0) C dJ5_setLength_d00df_0 rfl 1 rfl ?_
  refine s_if_ge (pc := 1) (tgt := 13) C dJ5_setLength_d00df_1 (by decide) (fun c => ?_) (fun c => ?_)
  · have H := H.1 c
    refine s_aload_n (pc := 13) C dJ5_setLength_d00df_13 rfl 0 rfl ?_
    refine s_iload_n (pc := 14) C dJ5_setLength_d00df_14 rfl 1 rfl ?_
    refine s_callv (pc := 15) (nA := 1) (as := [vI p0]) (st := []) (stk := [vI p0, vR 6 ti tj]) ckJ4 (Or.inl rfl) C (fun l hl => ctJ5_ensureCapacityInternal_d00df l hl ti tj p0 _ _ H) ⟨⟨kw_1063, kw_62, kw_1066⟩, rfl, ⟨by decide, by decide, by decide +kernel⟩, by decide, by decide⟩ kw_1065 (g_selW kw_2019) rfl (Nat.le_of_ble_eq_true rfl) ⟨by decide, by decide⟩ rfl dJ5_setLength_d00df_15 (g_Kq_V (fun h1 H => ?_) (fun E h1 H => s_prop rfl ⟨by decide, by decide⟩ H C))
    refine s_aload_n (pc := 18) C dJ5_setLength_d00df_18 rfl 0 rfl ?_
    refine s_geti (pc := 19) (s := 3) ckJ4 (Or.inl rfl) (by decide) kw_243 (fun _ => rfl) C dJ5_setLength_d00df_19 ?_
    refine s_iload_n (pc := 22) C dJ5_setLength_d00df_22 rfl 1 rfl ?_
    refine s_icmp_ge (pc := 23) (tgt := 63) C dJ5_setLength_d00df_23 (by decide) (fun c => ?_) (fun c => ?_)
    · have H := H.1 c
      refine s_aload_n (pc := 63) C dJ5_setLength_d00df_63 rfl 0 rfl ?_
      refine s_geti (pc := 64) (s := 3) ckJ4 (Or.inl rfl) (by decide) kw_243 (fun _ => rfl) C dJ5_setLength_d00df_64 ?_
      refine s_iload_n (pc := 67) C dJ5_setLength_d00df_67 rfl 1 rfl ?_
      refine s_icmp_le (pc := 68) (tgt := 76) C dJ5_setLength_d00df_68 (by decide) (fun c => ?_) (fun c => ?_)
      · have H := H.1 c
        exact s_sub (ls' := [(0, vR 6 ti tj), (1, vI p0)]) [0, 1] rfl (vJ5_setLength_d00df_b76 C ti tj p0 h1 H)
      · have H := H.2 c
        refine s_aload_n (pc := 71) C dJ5_setLength_d00df_71 rfl 0 rfl ?_
        refine s_iconst (pc := 72) C dJ5_setLength_d00df_72 (x := (1 : Int32)) (by decide) ?_
        refine s_puti (pc := 73) (s := 2) ckJ4 (Or.inl rfl) (by decide) kw_241 (fun _ => rfl) rfl (by decide) (by decide) C dJ5_setLength_d00df_73 ?_
        refine s_name (fun h2 eh2 => ?_)
        have H := H h2 eh2
        exact s_sub (ls' := [(0, vR 6 ti tj), (1, vI p0)]) [0, 1] rfl (vJ5_setLength_d00df_b76 C ti tj p0 h2 H)
    · have H := H.2 c
      exact H.elim
  · have H := H.2 c
    exact H.elim
theorem ctJ5_setLength_d00df (l : Launch) (hl : l.stackTraces = false) {G : g_G} (ti : Nat) (tj : Nat) (p0 : Int32) (h : g_Hp) (Q : g_R → g_Hp → Prop) (H : wJ5_setLength_d00df ti tj p0 h Q) : g_Met l y_ G iJ5_setLength_d00df [vR 6 ti tj, vI p0] h Q :=
  g_Met_of hl (by decide +kernel) rfl rfl (Nat.le_of_ble_eq_true rfl) (fun X C => vJ5_setLength_d00df C ti tj p0 h H)
/-! J4_setLength_d00df -/
abbrev iJ4_setLength_d00df : g_I := (RJ4, yJ4_setLength_d00df, cJ4_setLength_d00df, 2, none, [], { frames := 6, cells := 1, slots := 150, locals := 185 })
set_option maxRecDepth 100000 in
set_option maxHeartbeats 4000000 in
theorem vJ4_setLength_d00df {G : g_G} {X : g_X} {Q : g_R → g_Hp → Prop} (C : g_Cx y_ G X iJ4_setLength_d00df) (ti : Nat) (tj : Nat) (p0 : Int32) (h : g_Hp) (H : wJ4_setLength_d00df ti tj p0 h Q) : g_V G X iJ4_setLength_d00df 1 150 Q 0 0 0 [(0, vR 6 ti tj), (1, vI p0)] [] h := by
  refine s_aload_n (pc := 0) C dJ4_setLength_d00df_0 rfl 0 rfl ?_
  refine s_iload_n (pc := 1) C dJ4_setLength_d00df_1 rfl 1 rfl ?_
  refine s_callsu (pc := 2) (nA := 1) (as := [vI p0]) (st := []) (stk := [vI p0, vR 6 ti tj]) ckJ4 C (fun l hl => ctJ5_setLength_d00df l hl ti tj p0 _ _ H) ⟨kw_1241, kw_1966, kw_252, kw_1242, kw_62, kw_1243⟩ rfl ⟨by decide, by decide +kernel⟩ ⟨by decide, by decide⟩ rfl (Nat.le_of_ble_eq_true rfl) ⟨by decide, by decide⟩ rfl dJ4_setLength_d00df_2 (g_Kq_V (fun h1 H => ?_) (fun E h1 H => s_prop rfl ⟨by decide, by decide⟩ H C))
  exact s_vret (pc := 5) rfl ⟨by decide, by decide⟩ H C dJ4_setLength_d00df_5
theorem ctJ4_setLength_d00df (l : Launch) (hl : l.stackTraces = false) {G : g_G} (ti : Nat) (tj : Nat) (p0 : Int32) (h : g_Hp) (Q : g_R → g_Hp → Prop) (H : wJ4_setLength_d00df ti tj p0 h Q) : g_Met l y_ G iJ4_setLength_d00df [vR 6 ti tj, vI p0] h Q :=
  g_Met_of hl (by decide +kernel) rfl rfl (Nat.le_of_ble_eq_true rfl) (fun X C => vJ4_setLength_d00df C ti tj p0 h H)
/-! J3_checkIndexN -/
abbrev iJ3_checkIndexN : g_I := (RJ3, yJ3_checkIndex_8e157, cJ3_checkIndex_8e157, 3, (some .int), [], { frames := 1, cells := 0, slots := 0, locals := 20 })
set_option maxRecDepth 100000 in
set_option maxHeartbeats 4000000 in
theorem vJ3_checkIndexN_b9 {G : g_G} {X : g_X} {Q : g_R → g_Hp → Prop} (C : g_Cx y_ G X iJ3_checkIndexN) (h : g_Hp) (H : wJ3_checkIndexN_b9 Q h) : g_V G X iJ3_checkIndexN 0 0 Q 9 0 0 [(2, vV .null)] [] h := by
  exact H.elim
set_option maxRecDepth 100000 in
set_option maxHeartbeats 4000000 in
theorem vJ3_checkIndexN {G : g_G} {X : g_X} {Q : g_R → g_Hp → Prop} (C : g_Cx y_ G X iJ3_checkIndexN) (p0 : Int32) (p1 : Int32) (h : g_Hp) (H : wJ3_checkIndexN p0 p1 h Q) : g_V G X iJ3_checkIndexN 0 0 Q 0 0 0 [(0, vI p0), (1, vI p1), (2, vV .null)] [] h := by
  refine s_iload_n (pc := 0) C dJ3_checkIndex_8e157_0 rfl 0 rfl ?_
  refine s_if_lt (pc := 1) (tgt := 9) C dJ3_checkIndex_8e157_1 (by decide) (fun c => ?_) (fun c => ?_)
  · have H := H.1 c
    exact s_sub (ls' := [(2, vV .null)]) [2] rfl (vJ3_checkIndexN_b9 C  h H)
  · have H := H.2 c
    refine s_iload_n (pc := 4) C dJ3_checkIndex_8e157_4 rfl 0 rfl ?_
    refine s_iload_n (pc := 5) C dJ3_checkIndex_8e157_5 rfl 1 rfl ?_
    refine s_icmp_lt (pc := 6) (tgt := 16) C dJ3_checkIndex_8e157_6 (by decide) (fun c => ?_) (fun c => ?_)
    · have H := H.1 c
      refine s_iload_n (pc := 16) C dJ3_checkIndex_8e157_16 rfl 0 rfl ?_
      exact s_iret (pc := 17) rfl rfl ⟨by decide, by decide⟩ H C dJ3_checkIndex_8e157_17
    · have H := H.2 c
      exact s_sub (ls' := [(2, vV .null)]) [2] rfl (vJ3_checkIndexN_b9 C  h H)
theorem ctJ3_checkIndexN (l : Launch) (hl : l.stackTraces = false) {G : g_G} (p0 : Int32) (p1 : Int32) (h : g_Hp) (Q : g_R → g_Hp → Prop) (H : wJ3_checkIndexN p0 p1 h Q) : g_Met l y_ G iJ3_checkIndexN [vI p0, vI p1, vV .null] h Q :=
  g_Met_of hl (by decide +kernel) rfl rfl (Nat.le_of_ble_eq_true rfl) (fun X C => vJ3_checkIndexN C p0 p1 h H)
/-! J3_checkIndexQ -/
abbrev iJ3_checkIndexQ : g_I := (RJ3, yJ3_checkIndex_8e157, cJ3_checkIndex_8e157, 3, (some .int), [], { frames := 1, cells := 0, slots := 0, locals := 20 })
set_option maxRecDepth 100000 in
set_option maxHeartbeats 4000000 in
theorem vJ3_checkIndexQ_b9 {G : g_G} {X : g_X} {Q : g_R → g_Hp → Prop} (C : g_Cx y_ G X iJ3_checkIndexQ) (a2 : Nat) (h : g_Hp) (H : wJ3_checkIndexQ_b9 a2 Q h) : g_V G X iJ3_checkIndexQ 0 0 Q 9 0 0 [(2, vV (.ref a2))] [] h := by
  exact H.elim
set_option maxRecDepth 100000 in
set_option maxHeartbeats 4000000 in
theorem vJ3_checkIndexQ {G : g_G} {X : g_X} {Q : g_R → g_Hp → Prop} (C : g_Cx y_ G X iJ3_checkIndexQ) (p0 : Int32) (p1 : Int32) (a2 : Nat) (h : g_Hp) (H : wJ3_checkIndexQ p0 p1 a2 h Q) : g_V G X iJ3_checkIndexQ 0 0 Q 0 0 0 [(0, vI p0), (1, vI p1), (2, vV (.ref a2))] [] h := by
  refine s_iload_n (pc := 0) C dJ3_checkIndex_8e157_0 rfl 0 rfl ?_
  refine s_if_lt (pc := 1) (tgt := 9) C dJ3_checkIndex_8e157_1 (by decide) (fun c => ?_) (fun c => ?_)
  · have H := H.1 c
    exact s_sub (ls' := [(2, vV (.ref a2))]) [2] rfl (vJ3_checkIndexQ_b9 C a2  h H)
  · have H := H.2 c
    refine s_iload_n (pc := 4) C dJ3_checkIndex_8e157_4 rfl 0 rfl ?_
    refine s_iload_n (pc := 5) C dJ3_checkIndex_8e157_5 rfl 1 rfl ?_
    refine s_icmp_lt (pc := 6) (tgt := 16) C dJ3_checkIndex_8e157_6 (by decide) (fun c => ?_) (fun c => ?_)
    · have H := H.1 c
      refine s_iload_n (pc := 16) C dJ3_checkIndex_8e157_16 rfl 0 rfl ?_
      exact s_iret (pc := 17) rfl rfl ⟨by decide, by decide⟩ H C dJ3_checkIndex_8e157_17
    · have H := H.2 c
      exact s_sub (ls' := [(2, vV (.ref a2))]) [2] rfl (vJ3_checkIndexQ_b9 C a2  h H)
theorem ctJ3_checkIndexQ (l : Launch) (hl : l.stackTraces = false) {G : g_G} (p0 : Int32) (p1 : Int32) (a2 : Nat) (h : g_Hp) (Q : g_R → g_Hp → Prop) (H : wJ3_checkIndexQ p0 p1 a2 h Q) : g_Met l y_ G iJ3_checkIndexQ [vI p0, vI p1, vV (.ref a2)] h Q :=
  g_Met_of hl (by decide +kernel) rfl rfl (Nat.le_of_ble_eq_true rfl) (fun X C => vJ3_checkIndexQ C p0 p1 a2 h H)
/-! J0_checkIndex_df160 -/
abbrev iJ0_checkIndex_df160 : g_I := (RJ0, yJ0_checkIndex_df160, cJ0_checkIndex_df160, 2, none, [], { frames := 2, cells := 0, slots := 0, locals := 42 })
set_option maxRecDepth 100000 in
set_option maxHeartbeats 4000000 in
theorem vJ0_checkIndex_df160 {G : g_G} {X : g_X} {Q : g_R → g_Hp → Prop} (C : g_Cx y_ G X iJ0_checkIndex_df160) (p0 : Int32) (p1 : Int32) (h : g_Hp) (H : wJ0_checkIndex_df160 p0 p1 h Q) : g_V G X iJ0_checkIndex_df160 0 0 Q 0 0 0 [(0, vI p0), (1, vI p1)] [] h := by
  refine s_iload_n (pc := 0) C dJ0_checkIndex_df160_0 rfl 0 rfl ?_
  refine s_iload_n (pc := 1) C dJ0_checkIndex_df160_1 rfl 1 rfl ?_
  refine s_getsU (pc := 2) kw_1123 C dJ0_checkIndex_df160_2 ?_ (fun b3 => ?_)
  · have H := H.1
    refine s_calls (pc := 5) (nA := 3) (as := [vI p0, vI p1, vV .null]) (st := []) (stk := [vV .null, vI p1, vI p0]) C (fun l hl => ctJ3_checkIndexN l hl p0 p1 _ _ H) ⟨⟨kw_1146, kw_87, kw_1148⟩, rfl, ⟨by decide, by decide, by decide +kernel⟩, by decide, by decide⟩ kw_1147 rfl (Nat.le_of_ble_eq_true rfl) ⟨by decide, by decide⟩ rfl dJ0_checkIndex_df160_5 (g_Kq_I (fun u2 h1 H => ?_) (fun E h1 H => s_prop rfl ⟨by decide, by decide⟩ H C))
    refine s_pop (pc := 8) C dJ0_checkIndex_df160_8 rfl ?_
    exact s_vret (pc := 9) rfl ⟨by decide, by decide⟩ H C dJ0_checkIndex_df160_9
  · have H := H.2 b3
    refine s_calls (pc := 5) (nA := 3) (as := [vI p0, vI p1, vV (.ref b3)]) (st := []) (stk := [vV (.ref b3), vI p1, vI p0]) C (fun l hl => ctJ3_checkIndexQ l hl p0 p1 b3 _ _ H) ⟨⟨kw_1146, kw_87, kw_1148⟩, rfl, ⟨by decide, by decide, by decide +kernel⟩, by decide, by decide⟩ kw_1147 rfl (Nat.le_of_ble_eq_true rfl) ⟨by decide, by decide⟩ rfl dJ0_checkIndex_df160_5 (g_Kq_I (fun u5 h4 H => ?_) (fun E h4 H => s_prop rfl ⟨by decide, by decide⟩ H C))
    refine s_pop (pc := 8) C dJ0_checkIndex_df160_8 rfl ?_
    exact s_vret (pc := 9) rfl ⟨by decide, by decide⟩ H C dJ0_checkIndex_df160_9
theorem ctJ0_checkIndex_df160 (l : Launch) (hl : l.stackTraces = false) {G : g_G} (p0 : Int32) (p1 : Int32) (h : g_Hp) (Q : g_R → g_Hp → Prop) (H : wJ0_checkIndex_df160 p0 p1 h Q) : g_Met l y_ G iJ0_checkIndex_df160 [vI p0, vI p1] h Q :=
  g_Met_of hl (by decide +kernel) rfl rfl (Nat.le_of_ble_eq_true rfl) (fun X C => vJ0_checkIndex_df160 C p0 p1 h H)
/-! J5_charAt_5068e -/
abbrev iJ5_charAt_5068e : g_I := (RJ5, yJ5_charAt_5068e, cJ5_charAt_5068e, 5, (some .char), [], { frames := 3, cells := 0, slots := 0, locals := 63 })
set_option maxRecDepth 100000 in
set_option maxHeartbeats 4000000 in
theorem vJ5_charAt_5068e {G : g_G} {X : g_X} {Q : g_R → g_Hp → Prop} (C : g_Cx y_ G X iJ5_charAt_5068e) (ti : Nat) (tj : Nat) (p0 : Int32) (h : g_Hp) (H : wJ5_charAt_5068e ti tj p0 h Q) : g_V G X iJ5_charAt_5068e 0 0 Q 0 0 0 [(0, vR 6 ti tj), (1, vI p0)] [] h := by
  refine s_aload_n (pc := 0) C dJ5_charAt_5068e_0 rfl 0 rfl ?_
  refine s_geti (pc := 1) (s := 1) ckJ4 (Or.inl rfl) (by decide) kw_240 (fun _ => rfl) C dJ5_charAt_5068e_1 ?_
  refine s_namei (fun y1 ey1 => ?_)
  have H := H y1 ey1
  refine s_istore_n (pc := 4) (ls' := [(2, vI y1), (0, vR 6 ti tj), (1, vI p0)]) C dJ5_charAt_5068e_4 rfl (by decide) rfl ?_
  refine s_aload_n (pc := 5) C dJ5_charAt_5068e_5 rfl 1 rfl ?_
  refine s_getr (pc := 6) (s := 0) (a := 14) (b := ti) (c' := ((h 6 ti tj 1).toNatClampNeg - 1)) ckJ4 (by decide) kw_239 rfl C dJ5_charAt_5068e_6 ?_
  refine s_nmj (fun j2 ej2 => ?_)
  have H := H j2 ej2
  refine s_astore_n (pc := 9) (ls' := [(3, vR 14 ti j2), (2, vI y1), (0, vR 6 ti tj), (1, vI p0)]) C dJ5_charAt_5068e_9 rfl (by decide) rfl ?_
  refine s_aload_n (pc := 10) C dJ5_charAt_5068e_10 rfl 2 rfl ?_
  refine s_geti (pc := 11) (s := 3) ckJ4 (Or.inl rfl) (by decide) kw_243 (fun _ => rfl) C dJ5_charAt_5068e_11 ?_
  refine s_aload_n (pc := 14) C dJ5_charAt_5068e_14 rfl 0 rfl ?_
  refine s_alen (pc := 15) (kk := 14) (by decide) (by decide) C dJ5_charAt_5068e_15 ?_
  refine s_iload_n (pc := 16) C dJ5_charAt_5068e_16 rfl 1 rfl ?_
  refine s_ishr (pc := 17) C dJ5_charAt_5068e_17 ?_
  refine s_calls (pc := 18) (nA := 2) (as := [vI (h 6 ti tj 4), vI ((Int32.ofNat (g_len h 14 ti j2)) >>> (y1 &&& 31))]) (st := []) (stk := [vI ((Int32.ofNat (g_len h 14 ti j2)) >>> (y1 &&& 31)), vI (h 6 ti tj 4)]) C (fun l hl => ctJ9_min_7cf53 l hl (h 6 ti tj 4) ((Int32.ofNat (g_len h 14 ti j2)) >>> (y1 &&& 31)) _ _ H) ⟨⟨kw_1213, kw_81, kw_492⟩, rfl, ⟨by decide, by decide, by decide +kernel⟩, by decide, by decide⟩ kw_491 rfl (Nat.le_of_ble_eq_true rfl) ⟨by decide, by decide⟩ rfl dJ5_charAt_5068e_18 (g_Kq_I (fun u4 h3 H => ?_) (fun E h3 H => s_prop rfl ⟨by decide, by decide⟩ H C))
  refine s_istore (pc := 21) (ls' := [(4, vI u4), (3, vR 14 ti j2), (2, vI y1), (0, vR 6 ti tj), (1, vI p0)]) C dJ5_charAt_5068e_21 (by decide) rfl ?_
  refine s_iload_n (pc := 23) C dJ5_charAt_5068e_23 rfl 4 rfl ?_
  refine s_iload (pc := 24) C dJ5_charAt_5068e_24 0 rfl ?_
  refine s_calls (pc := 26) (nA := 2) (as := [vI p0, vI u4]) (st := []) (stk := [vI u4, vI p0]) C (fun l hl => ctJ0_checkIndex_df160 l hl p0 u4 _ _ H) ⟨⟨kw_1214, kw_64, kw_1145⟩, rfl, ⟨by decide, by decide, by decide +kernel⟩, by decide, by decide⟩ kw_1144 rfl (Nat.le_of_ble_eq_true rfl) ⟨by decide, by decide⟩ rfl dJ5_charAt_5068e_26 (g_Kq_V (fun h5 H => ?_) (fun E h5 H => s_prop rfl ⟨by decide, by decide⟩ H C))
  refine s_iload_n (pc := 29) C dJ5_charAt_5068e_29 rfl 2 rfl ?_
  refine s_if_ne (pc := 30) (tgt := 42) C dJ5_charAt_5068e_30 (by decide) (fun c => ?_) (fun c => ?_)
  · have H := H.1 c
    exact H.elim
  · have H := H.2 c
    refine s_aload_n (pc := 33) C dJ5_charAt_5068e_33 rfl 1 rfl ?_
    refine s_iload_n (pc := 34) C dJ5_charAt_5068e_34 rfl 4 rfl ?_
    refine s_bald (pc := 35) H.1 C dJ5_charAt_5068e_35 ?_
    have H := H.2
    refine s_sipush (pc := 36) C dJ5_charAt_5068e_36 (x := (255 : Int32)) (by decide) ?_
    refine s_iand (pc := 39) C dJ5_charAt_5068e_39 ?_
    refine s_i2c (pc := 40) C dJ5_charAt_5068e_40 ?_
    exact s_iret (pc := 41) rfl H.1 ⟨by decide, by decide⟩ H.2 C dJ5_charAt_5068e_41
theorem ctJ5_charAt_5068e (l : Launch) (hl : l.stackTraces = false) {G : g_G} (ti : Nat) (tj : Nat) (p0 : Int32) (h : g_Hp) (Q : g_R → g_Hp → Prop) (H : wJ5_charAt_5068e ti tj p0 h Q) : g_Met l y_ G iJ5_charAt_5068e [vR 6 ti tj, vI p0] h Q :=
  g_Met_of hl (by decide +kernel) rfl rfl (Nat.le_of_ble_eq_true rfl) (fun X C => vJ5_charAt_5068e C ti tj p0 h H)
/-! J4_charAt_5068e -/
abbrev iJ4_charAt_5068e : g_I := (RJ4, yJ4_charAt_5068e, cJ4_charAt_5068e, 2, (some .char), [], { frames := 4, cells := 0, slots := 0, locals := 87 })
set_option maxRecDepth 100000 in
set_option maxHeartbeats 4000000 in
theorem vJ4_charAt_5068e {G : g_G} {X : g_X} {Q : g_R → g_Hp → Prop} (C : g_Cx y_ G X iJ4_charAt_5068e) (ti : Nat) (tj : Nat) (p0 : Int32) (h : g_Hp) (H : wJ4_charAt_5068e ti tj p0 h Q) : g_V G X iJ4_charAt_5068e 0 0 Q 0 0 0 [(0, vR 6 ti tj), (1, vI p0)] [] h := by
  refine s_aload_n (pc := 0) C dJ4_charAt_5068e_0 rfl 0 rfl ?_
  refine s_iload_n (pc := 1) C dJ4_charAt_5068e_1 rfl 1 rfl ?_
  refine s_callsu (pc := 2) (nA := 1) (as := [vI p0]) (st := []) (stk := [vI p0, vR 6 ti tj]) ckJ4 C (fun l hl => ctJ5_charAt_5068e l hl ti tj p0 _ _ H) ⟨kw_1210, kw_1965, kw_252, kw_1211, kw_62, kw_1212⟩ rfl ⟨by decide, by decide +kernel⟩ ⟨by decide, by decide⟩ rfl (Nat.le_of_ble_eq_true rfl) ⟨by decide, by decide⟩ rfl dJ4_charAt_5068e_2 (g_Kq_I (fun u2 h1 H => ?_) (fun E h1 H => s_prop rfl ⟨by decide, by decide⟩ H C))
  exact s_iret (pc := 5) rfl H.1 ⟨by decide, by decide⟩ H.2 C dJ4_charAt_5068e_5
theorem ctJ4_charAt_5068e (l : Launch) (hl : l.stackTraces = false) {G : g_G} (ti : Nat) (tj : Nat) (p0 : Int32) (h : g_Hp) (Q : g_R → g_Hp → Prop) (H : wJ4_charAt_5068e ti tj p0 h Q) : g_Met l y_ G iJ4_charAt_5068e [vR 6 ti tj, vI p0] h Q :=
  g_Met_of hl (by decide +kernel) rfl rfl (Nat.le_of_ble_eq_true rfl) (fun X C => vJ4_charAt_5068e C ti tj p0 h H)
/-! J0_coder_7d493 -/
abbrev iJ0_coder_7d493 : g_I := (RJ0, yJ0_coder_7d493, cJ0_coder_7d493, 1, (some .byte), [], { frames := 1, cells := 0, slots := 0, locals := 20 })
set_option maxRecDepth 100000 in
set_option maxHeartbeats 4000000 in
theorem vJ0_coder_7d493 {G : g_G} {X : g_X} {Q : g_R → g_Hp → Prop} (C : g_Cx y_ G X iJ0_coder_7d493) (ti : Nat) (tj : Nat) (h : g_Hp) (H : wJ0_coder_7d493 ti tj h Q) : g_V G X iJ0_coder_7d493 0 0 Q 0 0 0 [(0, vR 24 ti tj)] [] h := by
  refine s_gets (pc := 0) zs_COMPACT_STRINGS trivial kw_1182 C dJ0_coder_7d493_0 ?_
  refine s_if_eq (pc := 3) (tgt := 13) C dJ0_coder_7d493_3 (by decide) (fun c => ?_) (fun c => ?_)
  · have H := H.1 c
    exact H.elim
  · have H := H.2 c
    refine s_aload_n (pc := 6) C dJ0_coder_7d493_6 rfl 0 rfl ?_
    refine s_getc (pc := 7) (by decide) (fs_coder H.1) trivial kw_1363 C dJ0_coder_7d493_7 ?_
    have H := H.2
    refine s_goto (pc := 10) (tgt := 14) C dJ0_coder_7d493_10 (by decide) ?_
    exact s_iret (pc := 14) rfl H.1 ⟨by decide, by decide⟩ H.2 C dJ0_coder_7d493_14
theorem ctJ0_coder_7d493 (l : Launch) (hl : l.stackTraces = false) {G : g_G} (ti : Nat) (tj : Nat) (h : g_Hp) (Q : g_R → g_Hp → Prop) (H : wJ0_coder_7d493 ti tj h Q) : g_Met l y_ G iJ0_coder_7d493 [vR 24 ti tj] h Q :=
  g_Met_of hl (by decide +kernel) rfl rfl (Nat.le_of_ble_eq_true rfl) (fun X C => vJ0_coder_7d493 C ti tj h H)
/-! J0_length_8abf5 -/
abbrev iJ0_length_8abf5 : g_I := (RJ0, yJ0_length_8abf5, cJ0_length_8abf5, 1, (some .int), [], { frames := 2, cells := 0, slots := 0, locals := 40 })
set_option maxRecDepth 100000 in
set_option maxHeartbeats 4000000 in
theorem vJ0_length_8abf5 {G : g_G} {X : g_X} {Q : g_R → g_Hp → Prop} (C : g_Cx y_ G X iJ0_length_8abf5) (ti : Nat) (tj : Nat) (h : g_Hp) (H : wJ0_length_8abf5 ti tj h Q) : g_V G X iJ0_length_8abf5 0 0 Q 0 0 0 [(0, vR 24 ti tj)] [] h := by
  refine s_aload_n (pc := 0) C dJ0_length_8abf5_0 rfl 0 rfl ?_
  refine s_getc (pc := 1) (by decide) (fs_value H.1) (g_cst_R rfl) kw_1362 C dJ0_length_8abf5_1 ?_
  have H := H.2
  refine s_alenby (pc := 4) H.1 C dJ0_length_8abf5_4 ?_
  have H := H.2
  refine s_aload_n (pc := 5) C dJ0_length_8abf5_5 rfl 0 rfl ?_
  refine s_callc (pc := 6) (nA := 0) (as := []) (st := [vI (Int32.ofNat (g_by ti).length)]) (stk := [vR 24 ti tj, vI (Int32.ofNat (g_by ti).length)]) (os_str H.1) (by decide) C (fun l hl => ctJ0_coder_7d493 l hl ti tj _ _ H.2) ⟨⟨kw_1178, kw_64, kw_1181⟩, rfl, ⟨by decide, by decide, by decide +kernel⟩, by decide, by decide⟩ kw_1179 kw_1180 rfl (Nat.le_of_ble_eq_true rfl) ⟨by decide, by decide⟩ rfl dJ0_length_8abf5_6 (g_Kq_I (fun u2 h1 H => ?_) (fun E h1 H => s_prop rfl ⟨by decide, by decide⟩ H C))
  refine s_ishr (pc := 9) C dJ0_length_8abf5_9 ?_
  exact s_iret (pc := 10) rfl rfl ⟨by decide, by decide⟩ H C dJ0_length_8abf5_10
theorem ctJ0_length_8abf5 (l : Launch) (hl : l.stackTraces = false) {G : g_G} (ti : Nat) (tj : Nat) (h : g_Hp) (Q : g_R → g_Hp → Prop) (H : wJ0_length_8abf5 ti tj h Q) : g_Met l y_ G iJ0_length_8abf5 [vR 24 ti tj] h Q :=
  g_Met_of hl (by decide +kernel) rfl rfl (Nat.le_of_ble_eq_true rfl) (fun X C => vJ0_length_8abf5 C ti tj h H)
/-! J0_isLatin1_aae02 -/
abbrev iJ0_isLatin1_aae02 : g_I := (RJ0, yJ0_isLatin1_aae02, cJ0_isLatin1_aae02, 1, (some .boolean), [], { frames := 1, cells := 0, slots := 0, locals := 20 })
set_option maxRecDepth 100000 in
set_option maxHeartbeats 4000000 in
theorem vJ0_isLatin1_aae02_b18 {G : g_G} {X : g_X} {Q : g_R → g_Hp → Prop} (C : g_Cx y_ G X iJ0_isLatin1_aae02) (ti : Nat) (tj : Nat) (z0 : Int32) (h : g_Hp) (H : wJ0_isLatin1_aae02_b18 ti tj Q z0 h) : g_V G X iJ0_isLatin1_aae02 0 0 Q 18 0 0 [] [vI z0] h := by
  exact s_iret (pc := 18) rfl (g_nz H.1) ⟨by decide, by decide⟩ H.2 C dJ0_isLatin1_aae02_18
set_option maxRecDepth 100000 in
set_option maxHeartbeats 4000000 in
theorem vJ0_isLatin1_aae02_b17 {G : g_G} {X : g_X} {Q : g_R → g_Hp → Prop} (C : g_Cx y_ G X iJ0_isLatin1_aae02) (ti : Nat) (tj : Nat) (h : g_Hp) (H : wJ0_isLatin1_aae02_b17 ti tj Q h) : g_V G X iJ0_isLatin1_aae02 0 0 Q 17 0 0 [] [] h := by
  refine s_iconst (pc := 17) C dJ0_isLatin1_aae02_17 (x := (0 : Int32)) (by decide) ?_
  exact s_sub (ls' := []) [] rfl (vJ0_isLatin1_aae02_b18 C ti tj (0 : Int32) h H)
set_option maxRecDepth 100000 in
set_option maxHeartbeats 4000000 in
theorem vJ0_isLatin1_aae02 {G : g_G} {X : g_X} {Q : g_R → g_Hp → Prop} (C : g_Cx y_ G X iJ0_isLatin1_aae02) (ti : Nat) (tj : Nat) (h : g_Hp) (H : wJ0_isLatin1_aae02 ti tj h Q) : g_V G X iJ0_isLatin1_aae02 0 0 Q 0 0 0 [(0, vR 24 ti tj)] [] h := by
  refine s_gets (pc := 0) zs_COMPACT_STRINGS trivial kw_1182 C dJ0_isLatin1_aae02_0 ?_
  refine s_if_eq (pc := 3) (tgt := 17) C dJ0_isLatin1_aae02_3 (by decide) (fun c => ?_) (fun c => ?_)
  · have H := H.1 c
    exact s_sub (ls' := []) [] rfl (vJ0_isLatin1_aae02_b17 C ti tj  h H)
  · have H := H.2 c
    refine s_aload_n (pc := 6) C dJ0_isLatin1_aae02_6 rfl 0 rfl ?_
    refine s_getc (pc := 7) (by decide) (fs_coder H.1) trivial kw_1363 C dJ0_isLatin1_aae02_7 ?_
    have H := H.2
    refine s_if_ne (pc := 10) (tgt := 17) C dJ0_isLatin1_aae02_10 (by decide) (fun c => ?_) (fun c => ?_)
    · have H := H.1 c
      exact s_sub (ls' := []) [] rfl (vJ0_isLatin1_aae02_b17 C ti tj  h H)
    · have H := H.2 c
      refine s_iconst (pc := 13) C dJ0_isLatin1_aae02_13 (x := (1 : Int32)) (by decide) ?_
      refine s_goto (pc := 14) (tgt := 18) C dJ0_isLatin1_aae02_14 (by decide) ?_
      exact s_sub (ls' := []) [] rfl (vJ0_isLatin1_aae02_b18 C ti tj (1 : Int32) h H)
theorem ctJ0_isLatin1_aae02 (l : Launch) (hl : l.stackTraces = false) {G : g_G} (ti : Nat) (tj : Nat) (h : g_Hp) (Q : g_R → g_Hp → Prop) (H : wJ0_isLatin1_aae02 ti tj h Q) : g_Met l y_ G iJ0_isLatin1_aae02 [vR 24 ti tj] h Q :=
  g_Met_of hl (by decide +kernel) rfl rfl (Nat.le_of_ble_eq_true rfl) (fun X C => vJ0_isLatin1_aae02 C ti tj h H)
/-! J1_charAt_3b067 -/
abbrev iJ1_charAt_3b067 : g_I := (RJ1, yJ1_charAt_3b067, cJ1_charAt_3b067, 2, (some .char), [], { frames := 3, cells := 0, slots := 0, locals := 63 })
set_option maxRecDepth 100000 in
set_option maxHeartbeats 4000000 in
theorem vJ1_charAt_3b067 {G : g_G} {X : g_X} {Q : g_R → g_Hp → Prop} (C : g_Cx y_ G X iJ1_charAt_3b067) (a0i : Nat) (a0j : Nat) (p1 : Int32) (h : g_Hp) (H : wJ1_charAt_3b067 a0i a0j p1 h Q) : g_V G X iJ1_charAt_3b067 0 0 Q 0 0 0 [(0, vR 25 a0i a0j), (1, vI p1)] [] h := by
  refine s_iload_n (pc := 0) C dJ1_charAt_3b067_0 rfl 1 rfl ?_
  refine s_aload_n (pc := 1) C dJ1_charAt_3b067_1 rfl 0 rfl ?_
  refine s_alenby (pc := 2) H.1 C dJ1_charAt_3b067_2 ?_
  have H := H.2
  refine s_calls (pc := 3) (nA := 2) (as := [vI p1, vI (Int32.ofNat (g_by a0i).length)]) (st := []) (stk := [vI (Int32.ofNat (g_by a0i).length), vI p1]) C (fun l hl => ctJ0_checkIndex_df160 l hl p1 (Int32.ofNat (g_by a0i).length) _ _ H) ⟨⟨kw_1194, kw_64, kw_1145⟩, rfl, ⟨by decide, by decide, by decide +kernel⟩, by decide, by decide⟩ kw_1144 rfl (Nat.le_of_ble_eq_true rfl) ⟨by decide, by decide⟩ rfl dJ1_charAt_3b067_3 (g_Kq_V (fun h1 H => ?_) (fun E h1 H => s_prop rfl ⟨by decide, by decide⟩ H C))
  refine s_aload_n (pc := 6) C dJ1_charAt_3b067_6 rfl 0 rfl ?_
  refine s_iload_n (pc := 7) C dJ1_charAt_3b067_7 rfl 1 rfl ?_
  refine s_baldby (pc := 8) H.1.1 H.1.2 C dJ1_charAt_3b067_8 ?_
  have H := H.2
  refine s_sipush (pc := 9) C dJ1_charAt_3b067_9 (x := (255 : Int32)) (by decide) ?_
  refine s_iand (pc := 12) C dJ1_charAt_3b067_12 ?_
  refine s_i2c (pc := 13) C dJ1_charAt_3b067_13 ?_
  exact s_iret (pc := 14) rfl H.1 ⟨by decide, by decide⟩ H.2 C dJ1_charAt_3b067_14
theorem ctJ1_charAt_3b067 (l : Launch) (hl : l.stackTraces = false) {G : g_G} (a0i : Nat) (a0j : Nat) (p1 : Int32) (h : g_Hp) (Q : g_R → g_Hp → Prop) (H : wJ1_charAt_3b067 a0i a0j p1 h Q) : g_Met l y_ G iJ1_charAt_3b067 [vR 25 a0i a0j, vI p1] h Q :=
  g_Met_of hl (by decide +kernel) rfl rfl (Nat.le_of_ble_eq_true rfl) (fun X C => vJ1_charAt_3b067 C a0i a0j p1 h H)
/-! J0_charAt_5068e -/
abbrev iJ0_charAt_5068e : g_I := (RJ0, yJ0_charAt_5068e, cJ0_charAt_5068e, 2, (some .char), [], { frames := 4, cells := 0, slots := 0, locals := 84 })
set_option maxRecDepth 100000 in
set_option maxHeartbeats 4000000 in
theorem vJ0_charAt_5068e {G : g_G} {X : g_X} {Q : g_R → g_Hp → Prop} (C : g_Cx y_ G X iJ0_charAt_5068e) (ti : Nat) (tj : Nat) (p0 : Int32) (h : g_Hp) (H : wJ0_charAt_5068e ti tj p0 h Q) : g_V G X iJ0_charAt_5068e 0 0 Q 0 0 0 [(0, vR 24 ti tj), (1, vI p0)] [] h := by
  refine s_aload_n (pc := 0) C dJ0_charAt_5068e_0 rfl 0 rfl ?_
  refine s_callc (pc := 1) (nA := 0) (as := []) (st := []) (stk := [vR 24 ti tj]) (os_str H.1) (by decide) C (fun l hl => ctJ0_isLatin1_aae02 l hl ti tj _ _ H.2) ⟨⟨kw_1187, kw_64, kw_1190⟩, rfl, ⟨by decide, by decide, by decide +kernel⟩, by decide, by decide⟩ kw_1188 kw_1189 rfl (Nat.le_of_ble_eq_true rfl) ⟨by decide, by decide⟩ rfl dJ0_charAt_5068e_1 (g_Kq_I (fun u2 h1 H => ?_) (fun E h1 H => s_prop rfl ⟨by decide, by decide⟩ H C))
  refine s_if_eq (pc := 4) (tgt := 16) C dJ0_charAt_5068e_4 (by decide) (fun c => ?_) (fun c => ?_)
  · have H := H.1 c
    exact H.elim
  · have H := H.2 c
    refine s_aload_n (pc := 7) C dJ0_charAt_5068e_7 rfl 0 rfl ?_
    refine s_getc (pc := 8) (by decide) (fs_value H.1) (g_cst_R rfl) kw_1362 C dJ0_charAt_5068e_8 ?_
    have H := H.2
    refine s_iload_n (pc := 11) C dJ0_charAt_5068e_11 rfl 1 rfl ?_
    refine s_calls (pc := 12) (nA := 2) (as := [vR 25 ti 0, vI p0]) (st := []) (stk := [vI p0, vR 25 ti 0]) C (fun l hl => ctJ1_charAt_3b067 l hl ti 0 p0 _ _ H) ⟨⟨kw_1191, kw_86, kw_1193⟩, rfl, ⟨by decide, by decide, by decide +kernel⟩, by decide, by decide⟩ kw_1192 rfl (Nat.le_of_ble_eq_true rfl) ⟨by decide, by decide⟩ rfl dJ0_charAt_5068e_12 (g_Kq_I (fun u4 h3 H => ?_) (fun E h3 H => s_prop rfl ⟨by decide, by decide⟩ H C))
    exact s_iret (pc := 15) rfl H.1 ⟨by decide, by decide⟩ H.2 C dJ0_charAt_5068e_15
theorem ctJ0_charAt_5068e (l : Launch) (hl : l.stackTraces = false) {G : g_G} (ti : Nat) (tj : Nat) (p0 : Int32) (h : g_Hp) (Q : g_R → g_Hp → Prop) (H : wJ0_charAt_5068e ti tj p0 h Q) : g_Met l y_ G iJ0_charAt_5068e [vR 24 ti tj, vI p0] h Q :=
  g_Met_of hl (by decide +kernel) rfl rfl (Nat.le_of_ble_eq_true rfl) (fun X C => vJ0_charAt_5068e C ti tj p0 h H)
