/-! X8_memberAtRank -/
abbrev iX8_memberAtRank : g_I := (RX8, yX8_memberAtRank, cX8_memberAtRank, 6, (some .int), [], { frames := 2, cells := 0, slots := 0, locals := 41 })
set_option maxRecDepth 100000 in
set_option maxHeartbeats 4000000 in
theorem vX8_memberAtRank_b161 {G : g_G} {X : g_X} {Q : g_R → g_Hp → Prop} (C : g_Cx y_ G X iX8_memberAtRank) (R7 : Int32 → Int32 → g_Hp → Prop) (hR7 : ∀ (x1 : Int32) (x2 : Int32) (h : g_Hp), R7 x1 x2 h → g_V G X iX8_memberAtRank 0 0 Q 7 0 0 [(0, vR 5 0 0), (1, vI x1), (2, vI x2)] [] h) (R22 : Int32 → Int32 → Int32 → Int32 → g_Hp → Prop) (hR22 : ∀ (x1 : Int32) (x2 : Int32) (x3 : Int32) (x4 : Int32) (h : g_Hp), R22 x1 x2 x3 x4 h → g_V G X iX8_memberAtRank 0 0 Q 22 0 0 [(0, vR 5 0 0), (1, vI x1), (2, vI x2), (3, vI x3), (4, vI x4)] [] h) (x1 : Int32) (x2 : Int32) (x4 : Int32) (z0 : Int32) (z1 : Int32) (h : g_Hp) (H : wX8_memberAtRank_b161 Q R7 R22 x1 x2 x4 z0 z1 h) : g_V G X iX8_memberAtRank 0 0 Q 161 0 0 [(0, vR 5 0 0), (1, vI x1), (2, vI x2), (4, vI x4)] [vI z0, vI z1] h := by
  refine s_iadd (pc := 161) C dX8_memberAtRank_161 ?_
  refine s_namei (fun y1 ey1 => ?_)
  have H := H y1 ey1
  refine s_istore_n (pc := 162) (ls' := [(3, vI y1), (0, vR 5 0 0), (1, vI x1), (2, vI x2), (4, vI x4)]) C dX8_memberAtRank_162 rfl (by decide) rfl ?_
  refine s_iincN (pc := 163) C dX8_memberAtRank_163 4 rfl (z' := (1 : Int32)) (by decide) (by decide) (fun y2 ey2 => ?_)
  have H := H y2 ey2
  show g_V _ _ _ _ _ _ _ _ _ [(4, vI y2), (3, vI y1), (0, vR 5 0 0), (1, vI x1), (2, vI x2)] _ _
  refine s_goto (pc := 166) (tgt := 22) C dX8_memberAtRank_166 (by decide) ?_
  exact s_sub (ls' := [(0, vR 5 0 0), (1, vI x1), (2, vI x2), (3, vI y1), (4, vI y2)]) [2, 3, 4, 1, 0] rfl (hR22 x1 x2 y1 y2 h H)
set_option maxRecDepth 100000 in
set_option maxHeartbeats 4000000 in
theorem vX8_memberAtRank_b148 {G : g_G} {X : g_X} {Q : g_R → g_Hp → Prop} (C : g_Cx y_ G X iX8_memberAtRank) (R7 : Int32 → Int32 → g_Hp → Prop) (hR7 : ∀ (x1 : Int32) (x2 : Int32) (h : g_Hp), R7 x1 x2 h → g_V G X iX8_memberAtRank 0 0 Q 7 0 0 [(0, vR 5 0 0), (1, vI x1), (2, vI x2)] [] h) (R22 : Int32 → Int32 → Int32 → Int32 → g_Hp → Prop) (hR22 : ∀ (x1 : Int32) (x2 : Int32) (x3 : Int32) (x4 : Int32) (h : g_Hp), R22 x1 x2 x3 x4 h → g_V G X iX8_memberAtRank 0 0 Q 22 0 0 [(0, vR 5 0 0), (1, vI x1), (2, vI x2), (3, vI x3), (4, vI x4)] [] h) (x1 : Int32) (x2 : Int32) (x3 : Int32) (x4 : Int32) (z0 : Int32) (h : g_Hp) (H : wX8_memberAtRank_b148 Q R7 R22 x1 x2 x3 x4 z0 h) : g_V G X iX8_memberAtRank 0 0 Q 148 0 0 [(0, vR 5 0 0), (1, vI x1), (2, vI x2), (3, vI x3), (4, vI x4)] [vI z0] h := by
  refine s_istore (pc := 148) (ls' := [(5, vI z0), (0, vR 5 0 0), (1, vI x1), (2, vI x2), (3, vI x3), (4, vI x4)]) C dX8_memberAtRank_148 (by decide) rfl ?_
  refine s_iload_n (pc := 150) C dX8_memberAtRank_150 rfl 4 rfl ?_
  refine s_iload (pc := 151) C dX8_memberAtRank_151 0 rfl ?_
  refine s_if_eq (pc := 153) (tgt := 160) C dX8_memberAtRank_153 (by decide) (fun c => ?_) (fun c => ?_)
  · have H := H.1 c
    refine s_iconst (pc := 160) C dX8_memberAtRank_160 (x := (0 : Int32)) (by decide) ?_
    exact s_sub (ls' := [(0, vR 5 0 0), (1, vI x1), (2, vI x2), (4, vI x4)]) [1, 2, 3, 5] rfl (vX8_memberAtRank_b161 C R7 hR7 R22 hR22 x1 x2 x4 (0 : Int32) x3 h H)
  · have H := H.2 c
    refine s_iconst (pc := 156) C dX8_memberAtRank_156 (x := (1 : Int32)) (by decide) ?_
    refine s_goto (pc := 157) (tgt := 161) C dX8_memberAtRank_157 (by decide) ?_
    exact s_sub (ls' := [(0, vR 5 0 0), (1, vI x1), (2, vI x2), (4, vI x4)]) [1, 2, 3, 5] rfl (vX8_memberAtRank_b161 C R7 hR7 R22 hR22 x1 x2 x4 (1 : Int32) x3 h H)
set_option maxRecDepth 100000 in
set_option maxHeartbeats 4000000 in
theorem vX8_memberAtRank_b22_B {G : g_G} {X : g_X} {Q : g_R → g_Hp → Prop} (C : g_Cx y_ G X iX8_memberAtRank) (R7 : Int32 → Int32 → g_Hp → Prop) (hR7 : ∀ (x1 : Int32) (x2 : Int32) (h : g_Hp), R7 x1 x2 h → g_V G X iX8_memberAtRank 0 0 Q 7 0 0 [(0, vR 5 0 0), (1, vI x1), (2, vI x2)] [] h) (R22 : Int32 → Int32 → Int32 → Int32 → g_Hp → Prop) (hR22 : ∀ (x1 : Int32) (x2 : Int32) (x3 : Int32) (x4 : Int32) (h : g_Hp), R22 x1 x2 x3 x4 h → g_V G X iX8_memberAtRank 0 0 Q 22 0 0 [(0, vR 5 0 0), (1, vI x1), (2, vI x2), (3, vI x3), (4, vI x4)] [] h) (x1 : Int32) (x2 : Int32) (x3 : Int32) (x4 : Int32) (h : g_Hp) (H : wX8_memberAtRank_b22_B Q R7 R22 x1 x2 x3 x4 h) : g_V G X iX8_memberAtRank 0 0 Q 22 0 0 [(0, vR 5 0 0), (1, vI x1), (2, vI x2), (3, vI x3), (4, vI x4)] [] h := by
  refine s_iload (pc := 22) C dX8_memberAtRank_22 4 rfl ?_
  refine s_aload_n (pc := 24) C dX8_memberAtRank_24 rfl 0 rfl ?_
  refine s_getr (pc := 25) (s := 5) (a := 13) (b := 0) (c' := 0) ckX8 (by decide) kw_1510 rfl C dX8_memberAtRank_25 ?_
  refine s_iconst (pc := 28) C dX8_memberAtRank_28 (x := (0 : Int32)) (by decide) ?_
  refine s_iald (pc := 29) (show ¬ ((0 : Int32) < 0 ∨ 169 ≤ (0 : Int32).toNatClampNeg) by decide) C dX8_memberAtRank_29 ?_
  refine s_icmp_ge (pc := 30) (tgt := 169) C dX8_memberAtRank_30 (by decide) (fun c => ?_) (fun c => ?_)
  · have H := H.1 c
    refine s_iload_n (pc := 169) C dX8_memberAtRank_169 rfl 3 rfl ?_
    refine s_iload_n (pc := 170) C dX8_memberAtRank_170 rfl 1 rfl ?_
    refine s_icmp_ne (pc := 171) (tgt := 176) C dX8_memberAtRank_171 (by decide) (fun c => ?_) (fun c => ?_)
    · have H := H.1 c
      refine s_iincN (pc := 176) C dX8_memberAtRank_176 2 rfl (z' := (1 : Int32)) (by decide) (by decide) (fun y1 ey1 => ?_)
      have H := H y1 ey1
      show g_V _ _ _ _ _ _ _ _ _ [(2, vI y1), (0, vR 5 0 0), (1, vI x1), (3, vI x3), (4, vI x4)] _ _
      refine s_goto (pc := 179) (tgt := 7) C dX8_memberAtRank_179 (by decide) ?_
      exact s_sub (ls' := [(0, vR 5 0 0), (1, vI x1), (2, vI y1)]) [1, 2, 0] rfl (hR7 x1 y1 h H)
    · have H := H.2 c
      refine s_iload_n (pc := 174) C dX8_memberAtRank_174 rfl 2 rfl ?_
      exact s_iret (pc := 175) rfl rfl ⟨by decide, by decide⟩ H C dX8_memberAtRank_175
  · have H := H.2 c
    refine s_aload_n (pc := 33) C dX8_memberAtRank_33 rfl 0 rfl ?_
    refine s_getr (pc := 34) (s := 5) (a := 13) (b := 0) (c' := 0) ckX8 (by decide) kw_1510 rfl C dX8_memberAtRank_34 ?_
    refine s_bipush (pc := 37) C dX8_memberAtRank_37 (x := (47 : Int32)) (by decide) ?_
    refine s_iload (pc := 39) C dX8_memberAtRank_39 4 rfl ?_
    refine s_iadd (pc := 41) C dX8_memberAtRank_41 ?_
    refine s_iald (pc := 42) H.1 C dX8_memberAtRank_42 ?_
    have H := H.2
    refine s_aload_n (pc := 43) C dX8_memberAtRank_43 rfl 0 rfl ?_
    refine s_getr (pc := 44) (s := 5) (a := 13) (b := 0) (c' := 0) ckX8 (by decide) kw_1510 rfl C dX8_memberAtRank_44 ?_
    refine s_bipush (pc := 47) C dX8_memberAtRank_47 (x := (47 : Int32)) (by decide) ?_
    refine s_iload_n (pc := 49) C dX8_memberAtRank_49 rfl 2 rfl ?_
    refine s_iadd (pc := 50) C dX8_memberAtRank_50 ?_
    refine s_iald (pc := 51) H.1 C dX8_memberAtRank_51 ?_
    have H := H.2
    refine s_icmp_eq (pc := 52) (tgt := 85) C dX8_memberAtRank_52 (by decide) (fun c => ?_) (fun c => ?_)
    · have H := H.1 c
      refine s_aload_n (pc := 85) C dX8_memberAtRank_85 rfl 0 rfl ?_
      refine s_getr (pc := 86) (s := 5) (a := 13) (b := 0) (c' := 0) ckX8 (by decide) kw_1510 rfl C dX8_memberAtRank_86 ?_
      refine s_bipush (pc := 89) C dX8_memberAtRank_89 (x := (71 : Int32)) (by decide) ?_
      refine s_iload (pc := 91) C dX8_memberAtRank_91 4 rfl ?_
      refine s_iadd (pc := 93) C dX8_memberAtRank_93 ?_
      refine s_iald (pc := 94) H.1 C dX8_memberAtRank_94 ?_
      have H := H.2
      refine s_aload_n (pc := 95) C dX8_memberAtRank_95 rfl 0 rfl ?_
      refine s_getr (pc := 96) (s := 5) (a := 13) (b := 0) (c' := 0) ckX8 (by decide) kw_1510 rfl C dX8_memberAtRank_96 ?_
      refine s_bipush (pc := 99) C dX8_memberAtRank_99 (x := (71 : Int32)) (by decide) ?_
      refine s_iload_n (pc := 101) C dX8_memberAtRank_101 rfl 2 rfl ?_
      refine s_iadd (pc := 102) C dX8_memberAtRank_102 ?_
      refine s_iald (pc := 103) H.1 C dX8_memberAtRank_103 ?_
      have H := H.2
      refine s_icmp_eq (pc := 104) (tgt := 137) C dX8_memberAtRank_104 (by decide) (fun c => ?_) (fun c => ?_)
      · have H := H.1 c
        refine s_iload (pc := 137) C dX8_memberAtRank_137 4 rfl ?_
        refine s_iload_n (pc := 139) C dX8_memberAtRank_139 rfl 2 rfl ?_
        refine s_icmp_ge (pc := 140) (tgt := 147) C dX8_memberAtRank_140 (by decide) (fun c => ?_) (fun c => ?_)
        · have H := H.1 c
          refine s_iconst (pc := 147) C dX8_memberAtRank_147 (x := (0 : Int32)) (by decide) ?_
          exact s_sub (ls' := [(0, vR 5 0 0), (1, vI x1), (2, vI x2), (3, vI x3), (4, vI x4)]) [0, 1, 2, 3, 4] rfl (vX8_memberAtRank_b148 C R7 hR7 R22 hR22 x1 x2 x3 x4 (0 : Int32) h H)
        · have H := H.2 c
          refine s_iconst (pc := 143) C dX8_memberAtRank_143 (x := (1 : Int32)) (by decide) ?_
          refine s_goto (pc := 144) (tgt := 148) C dX8_memberAtRank_144 (by decide) ?_
          exact s_sub (ls' := [(0, vR 5 0 0), (1, vI x1), (2, vI x2), (3, vI x3), (4, vI x4)]) [0, 1, 2, 3, 4] rfl (vX8_memberAtRank_b148 C R7 hR7 R22 hR22 x1 x2 x3 x4 (1 : Int32) h H)
      · have H := H.2 c
        refine s_aload_n (pc := 107) C dX8_memberAtRank_107 rfl 0 rfl ?_
        refine s_getr (pc := 108) (s := 5) (a := 13) (b := 0) (c' := 0) ckX8 (by decide) kw_1510 rfl C dX8_memberAtRank_108 ?_
        refine s_bipush (pc := 111) C dX8_memberAtRank_111 (x := (71 : Int32)) (by decide) ?_
        refine s_iload (pc := 113) C dX8_memberAtRank_113 4 rfl ?_
        refine s_iadd (pc := 115) C dX8_memberAtRank_115 ?_
        refine s_iald (pc := 116) H.1 C dX8_memberAtRank_116 ?_
        have H := H.2
        refine s_aload_n (pc := 117) C dX8_memberAtRank_117 rfl 0 rfl ?_
        refine s_getr (pc := 118) (s := 5) (a := 13) (b := 0) (c' := 0) ckX8 (by decide) kw_1510 rfl C dX8_memberAtRank_118 ?_
        refine s_bipush (pc := 121) C dX8_memberAtRank_121 (x := (71 : Int32)) (by decide) ?_
        refine s_iload_n (pc := 123) C dX8_memberAtRank_123 rfl 2 rfl ?_
        refine s_iadd (pc := 124) C dX8_memberAtRank_124 ?_
        refine s_iald (pc := 125) H.1 C dX8_memberAtRank_125 ?_
        have H := H.2
        refine s_icmp_ge (pc := 126) (tgt := 133) C dX8_memberAtRank_126 (by decide) (fun c => ?_) (fun c => ?_)
        · have H := H.1 c
          refine s_iconst (pc := 133) C dX8_memberAtRank_133 (x := (0 : Int32)) (by decide) ?_
          refine s_goto (pc := 134) (tgt := 148) C dX8_memberAtRank_134 (by decide) ?_
          exact s_sub (ls' := [(0, vR 5 0 0), (1, vI x1), (2, vI x2), (3, vI x3), (4, vI x4)]) [0, 1, 2, 3, 4] rfl (vX8_memberAtRank_b148 C R7 hR7 R22 hR22 x1 x2 x3 x4 (0 : Int32) h H)
        · have H := H.2 c
          refine s_iconst (pc := 129) C dX8_memberAtRank_129 (x := (1 : Int32)) (by decide) ?_
          refine s_goto (pc := 130) (tgt := 148) C dX8_memberAtRank_130 (by decide) ?_
          exact s_sub (ls' := [(0, vR 5 0 0), (1, vI x1), (2, vI x2), (3, vI x3), (4, vI x4)]) [0, 1, 2, 3, 4] rfl (vX8_memberAtRank_b148 C R7 hR7 R22 hR22 x1 x2 x3 x4 (1 : Int32) h H)
    · have H := H.2 c
      refine s_aload_n (pc := 55) C dX8_memberAtRank_55 rfl 0 rfl ?_
      refine s_getr (pc := 56) (s := 5) (a := 13) (b := 0) (c' := 0) ckX8 (by decide) kw_1510 rfl C dX8_memberAtRank_56 ?_
      refine s_bipush (pc := 59) C dX8_memberAtRank_59 (x := (47 : Int32)) (by decide) ?_
      refine s_iload (pc := 61) C dX8_memberAtRank_61 4 rfl ?_
      refine s_iadd (pc := 63) C dX8_memberAtRank_63 ?_
      refine s_iald (pc := 64) H.1 C dX8_memberAtRank_64 ?_
      have H := H.2
      refine s_aload_n (pc := 65) C dX8_memberAtRank_65 rfl 0 rfl ?_
      refine s_getr (pc := 66) (s := 5) (a := 13) (b := 0) (c' := 0) ckX8 (by decide) kw_1510 rfl C dX8_memberAtRank_66 ?_
      refine s_bipush (pc := 69) C dX8_memberAtRank_69 (x := (47 : Int32)) (by decide) ?_
      refine s_iload_n (pc := 71) C dX8_memberAtRank_71 rfl 2 rfl ?_
      refine s_iadd (pc := 72) C dX8_memberAtRank_72 ?_
      refine s_iald (pc := 73) H.1 C dX8_memberAtRank_73 ?_
      have H := H.2
      refine s_icmp_le (pc := 74) (tgt := 81) C dX8_memberAtRank_74 (by decide) (fun c => ?_) (fun c => ?_)
      · have H := H.1 c
        refine s_iconst (pc := 81) C dX8_memberAtRank_81 (x := (0 : Int32)) (by decide) ?_
        refine s_goto (pc := 82) (tgt := 148) C dX8_memberAtRank_82 (by decide) ?_
        exact s_sub (ls' := [(0, vR 5 0 0), (1, vI x1), (2, vI x2), (3, vI x3), (4, vI x4)]) [0, 1, 2, 3, 4] rfl (vX8_memberAtRank_b148 C R7 hR7 R22 hR22 x1 x2 x3 x4 (0 : Int32) h H)
      · have H := H.2 c
        refine s_iconst (pc := 77) C dX8_memberAtRank_77 (x := (1 : Int32)) (by decide) ?_
        refine s_goto (pc := 78) (tgt := 148) C dX8_memberAtRank_78 (by decide) ?_
        exact s_sub (ls' := [(0, vR 5 0 0), (1, vI x1), (2, vI x2), (3, vI x3), (4, vI x4)]) [0, 1, 2, 3, 4] rfl (vX8_memberAtRank_b148 C R7 hR7 R22 hR22 x1 x2 x3 x4 (1 : Int32) h H)
theorem vX8_memberAtRank_b22 {G : g_G} {X : g_X} {Q : g_R → g_Hp → Prop} (C : g_Cx y_ G X iX8_memberAtRank) (R7 : Int32 → Int32 → g_Hp → Prop) (hR7 : ∀ (x1 : Int32) (x2 : Int32) (h : g_Hp), R7 x1 x2 h → g_V G X iX8_memberAtRank 0 0 Q 7 0 0 [(0, vR 5 0 0), (1, vI x1), (2, vI x2)] [] h) (x1 : Int32) (x2 : Int32) (x3 : Int32) (x4 : Int32) (h : g_Hp) (H : wX8_memberAtRank_b22 Q R7 x1 x2 x3 x4 h) : g_V G X iX8_memberAtRank 0 0 Q 22 0 0 [(0, vR 5 0 0), (1, vI x1), (2, vI x2), (3, vI x3), (4, vI x4)] [] h := by
  obtain ⟨n, H⟩ := H
  induction n generalizing x1 x2 x3 x4 h with
  | zero => exact H.elim
  | succ n ih => exact vX8_memberAtRank_b22_B C R7 hR7 _ (fun x1 x2 x3 x4 h H => ih x1 x2 x3 x4 h H) x1 x2 x3 x4 h H
set_option maxRecDepth 100000 in
set_option maxHeartbeats 4000000 in
theorem vX8_memberAtRank_b7_B {G : g_G} {X : g_X} {Q : g_R → g_Hp → Prop} (C : g_Cx y_ G X iX8_memberAtRank) (R7 : Int32 → Int32 → g_Hp → Prop) (hR7 : ∀ (x1 : Int32) (x2 : Int32) (h : g_Hp), R7 x1 x2 h → g_V G X iX8_memberAtRank 0 0 Q 7 0 0 [(0, vR 5 0 0), (1, vI x1), (2, vI x2)] [] h) (x1 : Int32) (x2 : Int32) (h : g_Hp) (H : wX8_memberAtRank_b7_B Q R7 x1 x2 h) : g_V G X iX8_memberAtRank 0 0 Q 7 0 0 [(0, vR 5 0 0), (1, vI x1), (2, vI x2)] [] h := by
  refine s_iload_n (pc := 7) C dX8_memberAtRank_7 rfl 2 rfl ?_
  refine s_aload_n (pc := 8) C dX8_memberAtRank_8 rfl 0 rfl ?_
  refine s_getr (pc := 9) (s := 5) (a := 13) (b := 0) (c' := 0) ckX8 (by decide) kw_1510 rfl C dX8_memberAtRank_9 ?_
  refine s_iconst (pc := 12) C dX8_memberAtRank_12 (x := (0 : Int32)) (by decide) ?_
  refine s_iald (pc := 13) (show ¬ ((0 : Int32) < 0 ∨ 169 ≤ (0 : Int32).toNatClampNeg) by decide) C dX8_memberAtRank_13 ?_
  refine s_icmp_ge (pc := 14) (tgt := 182) C dX8_memberAtRank_14 (by decide) (fun c => ?_) (fun c => ?_)
  · have H := H.1 c
    refine s_aload_n (pc := 182) C dX8_memberAtRank_182 rfl 0 rfl ?_
    refine s_iconst (pc := 183) C dX8_memberAtRank_183 (x := (1 : Int32)) (by decide) ?_
    refine s_callv (pc := 184) (nA := 1) (as := [vI (1 : Int32)]) (st := []) (stk := [vI (1 : Int32), vR 5 0 0]) ckX8 (Or.inl rfl) C (fun l hl => ctX8_fail l hl (1 : Int32) _ _ H) ⟨⟨kw_1592, kw_69, kw_1595⟩, rfl, ⟨by decide, by decide, by decide +kernel⟩, by decide, by decide⟩ kw_1594 (g_selW kw_23) rfl (Nat.le_of_ble_eq_true rfl) ⟨by decide, by decide⟩ rfl dX8_memberAtRank_184 (g_Kq_I (fun u2 h1 H => ?_) (fun E h1 H => s_prop rfl ⟨by decide, by decide⟩ H C))
    exact s_iret (pc := 187) rfl rfl ⟨by decide, by decide⟩ H C dX8_memberAtRank_187
  · have H := H.2 c
    refine s_iconst (pc := 17) C dX8_memberAtRank_17 (x := (0 : Int32)) (by decide) ?_
    refine s_istore_n (pc := 18) (ls' := [(3, vI (0 : Int32)), (0, vR 5 0 0), (1, vI x1), (2, vI x2)]) C dX8_memberAtRank_18 rfl (by decide) rfl ?_
    refine s_iconst (pc := 19) C dX8_memberAtRank_19 (x := (0 : Int32)) (by decide) ?_
    refine s_istore (pc := 20) (ls' := [(4, vI (0 : Int32)), (3, vI (0 : Int32)), (0, vR 5 0 0), (1, vI x1), (2, vI x2)]) C dX8_memberAtRank_20 (by decide) rfl ?_
    exact s_sub (ls' := [(0, vR 5 0 0), (1, vI x1), (2, vI x2), (3, vI (0 : Int32)), (4, vI (0 : Int32))]) [2, 3, 4, 1, 0] rfl (vX8_memberAtRank_b22 C R7 hR7 x1 x2 (0 : Int32) (0 : Int32) h H)
theorem vX8_memberAtRank_b7 {G : g_G} {X : g_X} {Q : g_R → g_Hp → Prop} (C : g_Cx y_ G X iX8_memberAtRank) (x1 : Int32) (x2 : Int32) (h : g_Hp) (H : wX8_memberAtRank_b7 Q x1 x2 h) : g_V G X iX8_memberAtRank 0 0 Q 7 0 0 [(0, vR 5 0 0), (1, vI x1), (2, vI x2)] [] h := by
  obtain ⟨n, H⟩ := H
  induction n generalizing x1 x2 h with
  | zero => exact H.elim
  | succ n ih => exact vX8_memberAtRank_b7_B C _ (fun x1 x2 h H => ih x1 x2 h H) x1 x2 h H
set_option maxRecDepth 100000 in
set_option maxHeartbeats 4000000 in
theorem vX8_memberAtRank {G : g_G} {X : g_X} {Q : g_R → g_Hp → Prop} (C : g_Cx y_ G X iX8_memberAtRank) (p0 : Int32) (h : g_Hp) (H : wX8_memberAtRank p0 h Q) : g_V G X iX8_memberAtRank 0 0 Q 0 0 0 [(0, vR 5 0 0), (1, vI p0)] [] h := by
  refine s_aload_n (pc := 0) C dX8_memberAtRank_0 rfl 0 rfl ?_
  refine s_iconst (pc := 1) C dX8_memberAtRank_1 (x := (0 : Int32)) (by decide) ?_
  refine s_puti (pc := 2) (s := 0) ckX8 (Or.inl rfl) (by decide) kw_1505 (fun _ => rfl) rfl rfl rfl C dX8_memberAtRank_2 ?_
  refine s_name (fun h1 eh1 => ?_)
  have H := H h1 eh1
  refine s_iconst (pc := 5) C dX8_memberAtRank_5 (x := (0 : Int32)) (by decide) ?_
  refine s_istore_n (pc := 6) (ls' := [(2, vI (0 : Int32)), (0, vR 5 0 0), (1, vI p0)]) C dX8_memberAtRank_6 rfl (by decide) rfl ?_
  exact s_sub (ls' := [(0, vR 5 0 0), (1, vI p0), (2, vI (0 : Int32))]) [1, 2, 0] rfl (vX8_memberAtRank_b7 C p0 (0 : Int32) h1 H)
theorem ctX8_memberAtRank (l : Launch) (hl : l.stackTraces = false) {G : g_G} (p0 : Int32) (h : g_Hp) (Q : g_R → g_Hp → Prop) (H : wX8_memberAtRank p0 h Q) : g_Met l y_ G iX8_memberAtRank [vR 5 0 0, vI p0] h Q :=
  g_Met_of hl (by decide +kernel) rfl rfl (Nat.le_of_ble_eq_true rfl) (fun X C => vX8_memberAtRank C p0 h H)
/-! X8_blows -/
abbrev iX8_blows : g_I := (RX8, yX8_blows, cX8_blows, 4, (some .int), [], { frames := 2, cells := 0, slots := 0, locals := 42 })
set_option maxRecDepth 100000 in
set_option maxHeartbeats 4000000 in
theorem vX8_blows_b20 {G : g_G} {X : g_X} {Q : g_R → g_Hp → Prop} (C : g_Cx y_ G X iX8_blows) (h : g_Hp) (H : wX8_blows_b20 Q h) : g_V G X iX8_blows 0 0 Q 20 0 0 [(0, vR 5 0 0)] [] h := by
  refine s_aload_n (pc := 20) C dX8_blows_20 rfl 0 rfl ?_
  refine s_iconst (pc := 21) C dX8_blows_21 (x := (1 : Int32)) (by decide) ?_
  refine s_callv (pc := 22) (nA := 1) (as := [vI (1 : Int32)]) (st := []) (stk := [vI (1 : Int32), vR 5 0 0]) ckX8 (Or.inl rfl) C (fun l hl => ctX8_fail l hl (1 : Int32) _ _ H) ⟨⟨kw_1592, kw_69, kw_1595⟩, rfl, ⟨by decide, by decide, by decide +kernel⟩, by decide, by decide⟩ kw_1594 (g_selW kw_23) rfl (Nat.le_of_ble_eq_true rfl) ⟨by decide, by decide⟩ rfl dX8_blows_22 (g_Kq_I (fun u2 h1 H => ?_) (fun E h1 H => s_prop rfl ⟨by decide, by decide⟩ H C))
  exact s_iret (pc := 25) rfl rfl ⟨by decide, by decide⟩ H C dX8_blows_25
set_option maxRecDepth 100000 in
set_option maxHeartbeats 4000000 in
theorem vX8_blows {G : g_G} {X : g_X} {Q : g_R → g_Hp → Prop} (C : g_Cx y_ G X iX8_blows) (p0 : Int32) (p1 : Int32) (h : g_Hp) (H : wX8_blows p0 p1 h Q) : g_V G X iX8_blows 0 0 Q 0 0 0 [(0, vR 5 0 0), (1, vI p0), (2, vI p1)] [] h := by
  refine s_iload_n (pc := 0) C dX8_blows_0 rfl 1 rfl ?_
  refine s_iconst (pc := 1) C dX8_blows_1 (x := (0 : Int32)) (by decide) ?_
  refine s_bipush (pc := 2) C dX8_blows_2 (x := (7 : Int32)) (by decide) ?_
  refine s_calls (pc := 4) (nA := 3) (as := [vI p0, vI (0 : Int32), vI (7 : Int32)]) (st := []) (stk := [vI (7 : Int32), vI (0 : Int32), vI p0]) C (fun l hl => ctX8_isIn l hl p0 (0 : Int32) (7 : Int32) _ _ H) ⟨⟨kw_1589, kw_69, kw_1591⟩, rfl, ⟨by decide, by decide, by decide +kernel⟩, by decide, by decide⟩ kw_1590 rfl (Nat.le_of_ble_eq_true rfl) ⟨by decide, by decide⟩ rfl dX8_blows_4 (g_Kq_I (fun u2 h1 H => ?_) (fun E h1 H => s_prop rfl ⟨by decide, by decide⟩ H C))
  refine s_if_eq (pc := 7) (tgt := 20) C dX8_blows_7 (by decide) (fun c => ?_) (fun c => ?_)
  · have H := H.1 c
    exact s_sub (ls' := [(0, vR 5 0 0)]) [0] rfl (vX8_blows_b20 C  h1 H)
  · have H := H.2 c
    refine s_iload_n (pc := 10) C dX8_blows_10 rfl 2 rfl ?_
    refine s_iconst (pc := 11) C dX8_blows_11 (x := (0 : Int32)) (by decide) ?_
    refine s_bipush (pc := 12) C dX8_blows_12 (x := (12 : Int32)) (by decide) ?_
    refine s_calls (pc := 14) (nA := 3) (as := [vI p1, vI (0 : Int32), vI (12 : Int32)]) (st := []) (stk := [vI (12 : Int32), vI (0 : Int32), vI p1]) C (fun l hl => ctX8_isIn l hl p1 (0 : Int32) (12 : Int32) _ _ H) ⟨⟨kw_1589, kw_69, kw_1591⟩, rfl, ⟨by decide, by decide, by decide +kernel⟩, by decide, by decide⟩ kw_1590 rfl (Nat.le_of_ble_eq_true rfl) ⟨by decide, by decide⟩ rfl dX8_blows_14 (g_Kq_I (fun u4 h3 H => ?_) (fun E h3 H => s_prop rfl ⟨by decide, by decide⟩ H C))
    refine s_if_ne (pc := 17) (tgt := 26) C dX8_blows_17 (by decide) (fun c => ?_) (fun c => ?_)
    · have H := H.1 c
      refine s_aload_n (pc := 26) C dX8_blows_26 rfl 0 rfl ?_
      refine s_getr (pc := 27) (s := 5) (a := 13) (b := 0) (c' := 0) ckX8 (by decide) kw_1510 rfl C dX8_blows_27 ?_
      refine s_iconst (pc := 30) C dX8_blows_30 (x := (1 : Int32)) (by decide) ?_
      refine s_iald (pc := 31) (show ¬ ((1 : Int32) < 0 ∨ 169 ≤ (1 : Int32).toNatClampNeg) by decide) C dX8_blows_31 ?_
      refine s_namei (fun y5 ey5 => ?_)
      have H := H y5 ey5
      refine s_istore_n (pc := 32) (ls' := [(3, vI y5), (0, vR 5 0 0), (1, vI p0), (2, vI p1)]) C dX8_blows_32 rfl (by decide) rfl ?_
      refine s_aload_n (pc := 33) C dX8_blows_33 rfl 1 rfl ?_
      refine s_getr (pc := 34) (s := 5) (a := 13) (b := 0) (c' := 0) ckX8 (by decide) kw_1510 rfl C dX8_blows_34 ?_
      refine s_iconst (pc := 37) C dX8_blows_37 (x := (1 : Int32)) (by decide) ?_
      refine s_iload_n (pc := 38) C dX8_blows_38 rfl 2 rfl ?_
      refine s_iast (pc := 39) (show ¬ ((1 : Int32) < 0 ∨ 169 ≤ (1 : Int32).toNatClampNeg) by decide) C dX8_blows_39 ?_
      refine s_name (fun h6 eh6 => ?_)
      have H := H h6 eh6
      refine s_aload_n (pc := 40) C dX8_blows_40 rfl 1 rfl ?_
      refine s_getr (pc := 41) (s := 5) (a := 13) (b := 0) (c' := 0) ckX8 (by decide) kw_1510 rfl C dX8_blows_41 ?_
      refine s_iconst (pc := 44) C dX8_blows_44 (x := (2 : Int32)) (by decide) ?_
      refine s_iload_n (pc := 45) C dX8_blows_45 rfl 3 rfl ?_
      refine s_iast (pc := 46) (show ¬ ((2 : Int32) < 0 ∨ 169 ≤ (2 : Int32).toNatClampNeg) by decide) C dX8_blows_46 ?_
      refine s_name (fun h7 eh7 => ?_)
      have H := H h7 eh7
      refine s_iload_n (pc := 47) C dX8_blows_47 rfl 0 rfl ?_
      refine s_iload_n (pc := 48) C dX8_blows_48 rfl 2 rfl ?_
      refine s_calls (pc := 49) (nA := 2) (as := [vI y5, vI p0]) (st := []) (stk := [vI p0, vI y5]) C (fun l hl => ctX8_far l hl y5 p0 _ _ H) ⟨⟨kw_1665, kw_69, kw_1667⟩, rfl, ⟨by decide, by decide, by decide +kernel⟩, by decide, by decide⟩ kw_1666 rfl (Nat.le_of_ble_eq_true rfl) ⟨by decide, by decide⟩ rfl dX8_blows_49 (g_Kq_I (fun u9 h8 H => ?_) (fun E h8 H => s_prop rfl ⟨by decide, by decide⟩ H C))
      exact s_iret (pc := 52) rfl rfl ⟨by decide, by decide⟩ H C dX8_blows_52
    · have H := H.2 c
      exact s_sub (ls' := [(0, vR 5 0 0)]) [0] rfl (vX8_blows_b20 C  h3 H)
theorem ctX8_blows (l : Launch) (hl : l.stackTraces = false) {G : g_G} (p0 : Int32) (p1 : Int32) (h : g_Hp) (Q : g_R → g_Hp → Prop) (H : wX8_blows p0 p1 h Q) : g_Met l y_ G iX8_blows [vR 5 0 0, vI p0, vI p1] h Q :=
  g_Met_of hl (by decide +kernel) rfl rfl (Nat.le_of_ble_eq_true rfl) (fun X C => vX8_blows C p0 p1 h H)
/-! X8_setWind -/
abbrev iX8_setWind : g_I := (RX8, yX8_setWind, cX8_setWind, 3, (some .int), [], { frames := 3, cells := 0, slots := 0, locals := 65 })
set_option maxRecDepth 100000 in
set_option maxHeartbeats 4000000 in
theorem vX8_setWind {G : g_G} {X : g_X} {Q : g_R → g_Hp → Prop} (C : g_Cx y_ G X iX8_setWind) (p0 : Int32) (p1 : Int32) (h : g_Hp) (H : wX8_setWind p0 p1 h Q) : g_V G X iX8_setWind 0 0 Q 0 0 0 [(0, vR 5 0 0), (1, vI p0), (2, vI p1)] [] h := by
  refine s_aload_n (pc := 0) C dX8_setWind_0 rfl 0 rfl ?_
  refine s_callv (pc := 1) (nA := 0) (as := []) (st := []) (stk := [vR 5 0 0]) ckX8 (Or.inl rfl) C (fun l hl => ctX8_begins l hl _ _ H) ⟨⟨kw_1575, kw_69, kw_1578⟩, rfl, ⟨by decide, by decide, by decide +kernel⟩, by decide, by decide⟩ kw_1577 (g_selW kw_21) rfl (Nat.le_of_ble_eq_true rfl) ⟨by decide, by decide⟩ rfl dX8_setWind_1 (g_Kq_V (fun h1 H => ?_) (fun E h1 H => s_prop rfl ⟨by decide, by decide⟩ H C))
  refine s_aload_n (pc := 4) C dX8_setWind_4 rfl 0 rfl ?_
  refine s_aload_n (pc := 5) C dX8_setWind_5 rfl 0 rfl ?_
  refine s_iload_n (pc := 6) C dX8_setWind_6 rfl 1 rfl ?_
  refine s_iload_n (pc := 7) C dX8_setWind_7 rfl 2 rfl ?_
  refine s_callv (pc := 8) (nA := 2) (as := [vI p0, vI p1]) (st := [vR 5 0 0]) (stk := [vI p1, vI p0, vR 5 0 0, vR 5 0 0]) ckX8 (Or.inl rfl) C (fun l hl => ctX8_blows l hl p0 p1 _ _ H) ⟨⟨kw_1661, kw_69, kw_1664⟩, rfl, ⟨by decide, by decide, by decide +kernel⟩, by decide, by decide⟩ kw_1663 (g_selW kw_28) rfl (Nat.le_of_ble_eq_true rfl) ⟨by decide, by decide⟩ rfl dX8_setWind_8 (g_Kq_I (fun u3 h2 H => ?_) (fun E h2 H => s_prop rfl ⟨by decide, by decide⟩ H C))
  refine s_callv (pc := 11) (nA := 1) (as := [vI u3]) (st := []) (stk := [vI u3, vR 5 0 0]) ckX8 (Or.inl rfl) C (fun l hl => ctX8_ends l hl u3 _ _ H) ⟨⟨kw_1596, kw_69, kw_1599⟩, rfl, ⟨by decide, by decide, by decide +kernel⟩, by decide, by decide⟩ kw_1598 (g_selW kw_24) rfl (Nat.le_of_ble_eq_true rfl) ⟨by decide, by decide⟩ rfl dX8_setWind_11 (g_Kq_I (fun u5 h4 H => ?_) (fun E h4 H => s_prop rfl ⟨by decide, by decide⟩ H C))
  exact s_iret (pc := 14) rfl rfl ⟨by decide, by decide⟩ H C dX8_setWind_14
theorem ctX8_setWind (l : Launch) (hl : l.stackTraces = false) {G : g_G} (p0 : Int32) (p1 : Int32) (h : g_Hp) (Q : g_R → g_Hp → Prop) (H : wX8_setWind p0 p1 h Q) : g_Met l y_ G iX8_setWind [vR 5 0 0, vI p0, vI p1] h Q :=
  g_Met_of hl (by decide +kernel) rfl rfl (Nat.le_of_ble_eq_true rfl) (fun X C => vX8_setWind C p0 p1 h H)
/-! X8_windDirection -/
abbrev iX8_windDirection : g_I := (RX8, yX8_windDirection, cX8_windDirection, 1, (some .int), [], { frames := 2, cells := 0, slots := 0, locals := 41 })
set_option maxRecDepth 100000 in
set_option maxHeartbeats 4000000 in
theorem vX8_windDirection {G : g_G} {X : g_X} {Q : g_R → g_Hp → Prop} (C : g_Cx y_ G X iX8_windDirection) (h : g_Hp) (H : wX8_windDirection h Q) : g_V G X iX8_windDirection 0 0 Q 0 0 0 [(0, vR 5 0 0)] [] h := by
  refine s_aload_n (pc := 0) C dX8_windDirection_0 rfl 0 rfl ?_
  refine s_iconst (pc := 1) C dX8_windDirection_1 (x := (1 : Int32)) (by decide) ?_
  refine s_callv (pc := 2) (nA := 1) (as := [vI (1 : Int32)]) (st := []) (stk := [vI (1 : Int32), vR 5 0 0]) ckX8 (Or.inl rfl) C (fun l hl => ctX8_tells l hl (1 : Int32) _ _ H) ⟨⟨kw_1604, kw_69, kw_1607⟩, rfl, ⟨by decide, by decide, by decide +kernel⟩, by decide, by decide⟩ kw_1606 (g_selW kw_25) rfl (Nat.le_of_ble_eq_true rfl) ⟨by decide, by decide⟩ rfl dX8_windDirection_2 (g_Kq_I (fun u2 h1 H => ?_) (fun E h1 H => s_prop rfl ⟨by decide, by decide⟩ H C))
  exact s_iret (pc := 5) rfl rfl ⟨by decide, by decide⟩ H C dX8_windDirection_5
theorem ctX8_windDirection (l : Launch) (hl : l.stackTraces = false) {G : g_G} (h : g_Hp) (Q : g_R → g_Hp → Prop) (H : wX8_windDirection h Q) : g_Met l y_ G iX8_windDirection [vR 5 0 0] h Q :=
  g_Met_of hl (by decide +kernel) rfl rfl (Nat.le_of_ble_eq_true rfl) (fun X C => vX8_windDirection C h H)
/-! X8_windSpeed -/
abbrev iX8_windSpeed : g_I := (RX8, yX8_windSpeed, cX8_windSpeed, 1, (some .int), [], { frames := 2, cells := 0, slots := 0, locals := 41 })
set_option maxRecDepth 100000 in
set_option maxHeartbeats 4000000 in
theorem vX8_windSpeed {G : g_G} {X : g_X} {Q : g_R → g_Hp → Prop} (C : g_Cx y_ G X iX8_windSpeed) (h : g_Hp) (H : wX8_windSpeed h Q) : g_V G X iX8_windSpeed 0 0 Q 0 0 0 [(0, vR 5 0 0)] [] h := by
  refine s_aload_n (pc := 0) C dX8_windSpeed_0 rfl 0 rfl ?_
  refine s_iconst (pc := 1) C dX8_windSpeed_1 (x := (2 : Int32)) (by decide) ?_
  refine s_callv (pc := 2) (nA := 1) (as := [vI (2 : Int32)]) (st := []) (stk := [vI (2 : Int32), vR 5 0 0]) ckX8 (Or.inl rfl) C (fun l hl => ctX8_tells l hl (2 : Int32) _ _ H) ⟨⟨kw_1604, kw_69, kw_1607⟩, rfl, ⟨by decide, by decide, by decide +kernel⟩, by decide, by decide⟩ kw_1606 (g_selW kw_25) rfl (Nat.le_of_ble_eq_true rfl) ⟨by decide, by decide⟩ rfl dX8_windSpeed_2 (g_Kq_I (fun u2 h1 H => ?_) (fun E h1 H => s_prop rfl ⟨by decide, by decide⟩ H C))
  exact s_iret (pc := 5) rfl rfl ⟨by decide, by decide⟩ H C dX8_windSpeed_5
theorem ctX8_windSpeed (l : Launch) (hl : l.stackTraces = false) {G : g_G} (h : g_Hp) (Q : g_R → g_Hp → Prop) (H : wX8_windSpeed h Q) : g_Met l y_ G iX8_windSpeed [vR 5 0 0] h Q :=
  g_Met_of hl (by decide +kernel) rfl rfl (Nat.le_of_ble_eq_true rfl) (fun X C => vX8_windSpeed C h H)
/-! X8_stepsToWind -/
abbrev iX8_stepsToWind : g_I := (RX8, yX8_stepsToWind, cX8_stepsToWind, 2, (some .int), [], { frames := 3, cells := 0, slots := 0, locals := 63 })
set_option maxRecDepth 100000 in
set_option maxHeartbeats 4000000 in
theorem vX8_stepsToWind_b46 {G : g_G} {X : g_X} {Q : g_R → g_Hp → Prop} (C : g_Cx y_ G X iX8_stepsToWind) (z0 : Int32) (h : g_Hp) (H : wX8_stepsToWind_b46 Q z0 h) : g_V G X iX8_stepsToWind 0 0 Q 46 0 0 [] [vI z0] h := by
  exact s_iret (pc := 46) rfl rfl ⟨by decide, by decide⟩ H C dX8_stepsToWind_46
set_option maxRecDepth 100000 in
set_option maxHeartbeats 4000000 in
theorem vX8_stepsToWind_b14 {G : g_G} {X : g_X} {Q : g_R → g_Hp → Prop} (C : g_Cx y_ G X iX8_stepsToWind) (x1 : Int32) (z0 : Int32) (h : g_Hp) (H : wX8_stepsToWind_b14 Q x1 z0 h) : g_V G X iX8_stepsToWind 0 0 Q 14 0 0 [(0, vR 5 0 0), (1, vI x1)] [vI z0, vR 5 0 0] h := by
  refine s_puti (pc := 14) (s := 0) ckX8 (Or.inl rfl) (by decide) kw_1505 (fun _ => rfl) rfl rfl rfl C dX8_stepsToWind_14 ?_
  refine s_name (fun h1 eh1 => ?_)
  have H := H h1 eh1
  refine s_aload_n (pc := 17) C dX8_stepsToWind_17 rfl 0 rfl ?_
  refine s_geti (pc := 18) (s := 0) ckX8 (Or.inl rfl) (by decide) kw_1505 (fun _ => rfl) C dX8_stepsToWind_18 ?_
  refine s_if_ne (pc := 21) (tgt := 45) C dX8_stepsToWind_21 (by decide) (fun c => ?_) (fun c => ?_)
  · have H := H.1 c
    refine s_iconst (pc := 45) C dX8_stepsToWind_45 (x := (0 : Int32)) (by decide) ?_
    exact s_sub (ls' := []) [] rfl (vX8_stepsToWind_b46 C (0 : Int32) h1 H)
  · have H := H.2 c
    refine s_aload_n (pc := 24) C dX8_stepsToWind_24 rfl 0 rfl ?_
    refine s_getr (pc := 25) (s := 5) (a := 13) (b := 0) (c' := 0) ckX8 (by decide) kw_1510 rfl C dX8_stepsToWind_25 ?_
    refine s_bipush (pc := 28) C dX8_stepsToWind_28 (x := (35 : Int32)) (by decide) ?_
    refine s_iload_n (pc := 30) C dX8_stepsToWind_30 rfl 1 rfl ?_
    refine s_iadd (pc := 31) C dX8_stepsToWind_31 ?_
    refine s_iald (pc := 32) H.1 C dX8_stepsToWind_32 ?_
    have H := H.2
    refine s_aload_n (pc := 33) C dX8_stepsToWind_33 rfl 0 rfl ?_
    refine s_getr (pc := 34) (s := 5) (a := 13) (b := 0) (c' := 0) ckX8 (by decide) kw_1510 rfl C dX8_stepsToWind_34 ?_
    refine s_iconst (pc := 37) C dX8_stepsToWind_37 (x := (1 : Int32)) (by decide) ?_
    refine s_iald (pc := 38) (show ¬ ((1 : Int32) < 0 ∨ 169 ≤ (1 : Int32).toNatClampNeg) by decide) C dX8_stepsToWind_38 ?_
    refine s_calls (pc := 39) (nA := 2) (as := [vI (h1 13 0 0 (((35 : Int32) + x1).toNatClampNeg + 1)), vI (h1 13 0 0 ((1 : Int32).toNatClampNeg + 1))]) (st := []) (stk := [vI (h1 13 0 0 ((1 : Int32).toNatClampNeg + 1)), vI (h1 13 0 0 (((35 : Int32) + x1).toNatClampNeg + 1))]) C (fun l hl => ctX8_far l hl (h1 13 0 0 (((35 : Int32) + x1).toNatClampNeg + 1)) (h1 13 0 0 ((1 : Int32).toNatClampNeg + 1)) _ _ H) ⟨⟨kw_1665, kw_69, kw_1667⟩, rfl, ⟨by decide, by decide, by decide +kernel⟩, by decide, by decide⟩ kw_1666 rfl (Nat.le_of_ble_eq_true rfl) ⟨by decide, by decide⟩ rfl dX8_stepsToWind_39 (g_Kq_I (fun u3 h2 H => ?_) (fun E h2 H => s_prop rfl ⟨by decide, by decide⟩ H C))
    refine s_goto (pc := 42) (tgt := 46) C dX8_stepsToWind_42 (by decide) ?_
    exact s_sub (ls' := []) [] rfl (vX8_stepsToWind_b46 C u3 h2 H)
set_option maxRecDepth 100000 in
set_option maxHeartbeats 4000000 in
theorem vX8_stepsToWind {G : g_G} {X : g_X} {Q : g_R → g_Hp → Prop} (C : g_Cx y_ G X iX8_stepsToWind) (p0 : Int32) (h : g_Hp) (H : wX8_stepsToWind p0 h Q) : g_V G X iX8_stepsToWind 0 0 Q 0 0 0 [(0, vR 5 0 0), (1, vI p0)] [] h := by
  refine s_aload_n (pc := 0) C dX8_stepsToWind_0 rfl 0 rfl ?_
  refine s_aload_n (pc := 1) C dX8_stepsToWind_1 rfl 0 rfl ?_
  refine s_iload_n (pc := 2) C dX8_stepsToWind_2 rfl 1 rfl ?_
  refine s_callv (pc := 3) (nA := 1) (as := [vI p0]) (st := [vR 5 0 0]) (stk := [vI p0, vR 5 0 0, vR 5 0 0]) ckX8 (Or.inl rfl) C (fun l hl => ctX8_isMember l hl p0 _ _ H) ⟨⟨kw_1616, kw_69, kw_1619⟩, rfl, ⟨by decide, by decide, by decide +kernel⟩, by decide, by decide⟩ kw_1618 (g_selW kw_27) rfl (Nat.le_of_ble_eq_true rfl) ⟨by decide, by decide⟩ rfl dX8_stepsToWind_3 (g_Kq_I (fun u2 h1 H => ?_) (fun E h1 H => s_prop rfl ⟨by decide, by decide⟩ H C))
  refine s_if_eq (pc := 6) (tgt := 13) C dX8_stepsToWind_6 (by decide) (fun c => ?_) (fun c => ?_)
  · have H := H.1 c
    refine s_iconst (pc := 13) C dX8_stepsToWind_13 (x := (1 : Int32)) (by decide) ?_
    exact s_sub (ls' := [(0, vR 5 0 0), (1, vI p0)]) [0, 1] rfl (vX8_stepsToWind_b14 C p0 (1 : Int32) h1 H)
  · have H := H.2 c
    refine s_iconst (pc := 9) C dX8_stepsToWind_9 (x := (0 : Int32)) (by decide) ?_
    refine s_goto (pc := 10) (tgt := 14) C dX8_stepsToWind_10 (by decide) ?_
    exact s_sub (ls' := [(0, vR 5 0 0), (1, vI p0)]) [0, 1] rfl (vX8_stepsToWind_b14 C p0 (0 : Int32) h1 H)
theorem ctX8_stepsToWind (l : Launch) (hl : l.stackTraces = false) {G : g_G} (p0 : Int32) (h : g_Hp) (Q : g_R → g_Hp → Prop) (H : wX8_stepsToWind p0 h Q) : g_Met l y_ G iX8_stepsToWind [vR 5 0 0, vI p0] h Q :=
  g_Met_of hl (by decide +kernel) rfl rfl (Nat.le_of_ble_eq_true rfl) (fun X C => vX8_stepsToWind C p0 h H)
/-! X8_stepsToWindByTurning -/
abbrev iX8_stepsToWindByTurning : g_I := (RX8, yX8_stepsToWindByTurning, cX8_stepsToWindByTurning, 2, (some .int), [], { frames := 4, cells := 0, slots := 0, locals := 84 })
set_option maxRecDepth 100000 in
set_option maxHeartbeats 4000000 in
theorem vX8_stepsToWindByTurning {G : g_G} {X : g_X} {Q : g_R → g_Hp → Prop} (C : g_Cx y_ G X iX8_stepsToWindByTurning) (p0 : Int32) (h : g_Hp) (H : wX8_stepsToWindByTurning p0 h Q) : g_V G X iX8_stepsToWindByTurning 0 0 Q 0 0 0 [(0, vR 5 0 0), (1, vI p0)] [] h := by
  refine s_aload_n (pc := 0) C dX8_stepsToWindByTurning_0 rfl 0 rfl ?_
  refine s_iload_n (pc := 1) C dX8_stepsToWindByTurning_1 rfl 1 rfl ?_
  refine s_callv (pc := 2) (nA := 1) (as := [vI p0]) (st := []) (stk := [vI p0, vR 5 0 0]) ckX8 (Or.inl rfl) C (fun l hl => ctX8_stepsToWind l hl p0 _ _ H) ⟨⟨kw_1684, kw_69, kw_1679⟩, rfl, ⟨by decide, by decide, by decide +kernel⟩, by decide, by decide⟩ kw_1677 (g_selW kw_1678) rfl (Nat.le_of_ble_eq_true rfl) ⟨by decide, by decide⟩ rfl dX8_stepsToWindByTurning_2 (g_Kq_I (fun u2 h1 H => ?_) (fun E h1 H => s_prop rfl ⟨by decide, by decide⟩ H C))
  exact s_iret (pc := 5) rfl rfl ⟨by decide, by decide⟩ H C dX8_stepsToWindByTurning_5
theorem ctX8_stepsToWindByTurning (l : Launch) (hl : l.stackTraces = false) {G : g_G} (p0 : Int32) (h : g_Hp) (Q : g_R → g_Hp → Prop) (H : wX8_stepsToWindByTurning p0 h Q) : g_Met l y_ G iX8_stepsToWindByTurning [vR 5 0 0, vI p0] h Q :=
  g_Met_of hl (by decide +kernel) rfl rfl (Nat.le_of_ble_eq_true rfl) (fun X C => vX8_stepsToWindByTurning C p0 h H)
/-! X8_works -/
abbrev iX8_works : g_I := (RX8, yX8_works, cX8_works, 2, none, [], { frames := 2, cells := 0, slots := 0, locals := 42 })
set_option maxRecDepth 100000 in
set_option maxHeartbeats 4000000 in
theorem vX8_works_b87 {G : g_G} {X : g_X} {Q : g_R → g_Hp → Prop} (C : g_Cx y_ G X iX8_works) (R2 : Int32 → g_Hp → Prop) (hR2 : ∀ (x1 : Int32) (h : g_Hp), R2 x1 h → g_V G X iX8_works 0 0 Q 2 0 0 [(0, vR 5 0 0), (1, vI x1)] [] h) (x1 : Int32) (z0 : Int32) (z1 : Int32) (z2 : Int32) (h : g_Hp) (H : wX8_works_b87 Q R2 x1 z0 z1 z2 h) : g_V G X iX8_works 0 0 Q 87 0 0 [(0, vR 5 0 0), (1, vI x1)] [vI z0, vI z1, vI z2, vR 13 0 0] h := by
  refine s_iadd (pc := 87) C dX8_works_87 ?_
  refine s_iast (pc := 88) H.1 C dX8_works_88 ?_
  have H := H.2
  refine s_name (fun h1 eh1 => ?_)
  have H := H h1 eh1
  refine s_iincN (pc := 89) C dX8_works_89 1 rfl (z' := (1 : Int32)) (by decide) (by decide) (fun y2 ey2 => ?_)
  have H := H y2 ey2
  show g_V _ _ _ _ _ _ _ _ _ [(1, vI y2), (0, vR 5 0 0)] _ _
  refine s_goto (pc := 92) (tgt := 2) C dX8_works_92 (by decide) ?_
  exact s_sub (ls' := [(0, vR 5 0 0), (1, vI y2)]) [1, 0] rfl (hR2 y2 h1 H)
set_option maxRecDepth 100000 in
set_option maxHeartbeats 4000000 in
theorem vX8_works_b2_B {G : g_G} {X : g_X} {Q : g_R → g_Hp → Prop} (C : g_Cx y_ G X iX8_works) (R2 : Int32 → g_Hp → Prop) (hR2 : ∀ (x1 : Int32) (h : g_Hp), R2 x1 h → g_V G X iX8_works 0 0 Q 2 0 0 [(0, vR 5 0 0), (1, vI x1)] [] h) (x1 : Int32) (h : g_Hp) (H : wX8_works_b2_B Q R2 x1 h) : g_V G X iX8_works 0 0 Q 2 0 0 [(0, vR 5 0 0), (1, vI x1)] [] h := by
  refine s_iload_n (pc := 2) C dX8_works_2 rfl 1 rfl ?_
  refine s_aload_n (pc := 3) C dX8_works_3 rfl 0 rfl ?_
  refine s_getr (pc := 4) (s := 5) (a := 13) (b := 0) (c' := 0) ckX8 (by decide) kw_1510 rfl C dX8_works_4 ?_
  refine s_iconst (pc := 7) C dX8_works_7 (x := (0 : Int32)) (by decide) ?_
  refine s_iald (pc := 8) (show ¬ ((0 : Int32) < 0 ∨ 169 ≤ (0 : Int32).toNatClampNeg) by decide) C dX8_works_8 ?_
  refine s_icmp_ge (pc := 9) (tgt := 95) C dX8_works_9 (by decide) (fun c => ?_) (fun c => ?_)
  · have H := H.1 c
    exact s_vret (pc := 95) rfl ⟨by decide, by decide⟩ H C dX8_works_95
  · have H := H.2 c
    refine s_aload_n (pc := 12) C dX8_works_12 rfl 0 rfl ?_
    refine s_getr (pc := 13) (s := 5) (a := 13) (b := 0) (c' := 0) ckX8 (by decide) kw_1510 rfl C dX8_works_13 ?_
    refine s_bipush (pc := 16) C dX8_works_16 (x := (9 : Int32)) (by decide) ?_
    refine s_dup2 (pc := 18) C dX8_works_18 rfl rfl ?_
    refine s_iald (pc := 19) (show ¬ ((9 : Int32) < 0 ∨ 169 ≤ (9 : Int32).toNatClampNeg) by decide) C dX8_works_19 ?_
    refine s_aload_n (pc := 20) C dX8_works_20 rfl 0 rfl ?_
    refine s_getr (pc := 21) (s := 5) (a := 13) (b := 0) (c' := 0) ckX8 (by decide) kw_1510 rfl C dX8_works_21 ?_
    refine s_bipush (pc := 24) C dX8_works_24 (x := (35 : Int32)) (by decide) ?_
    refine s_iload_n (pc := 26) C dX8_works_26 rfl 1 rfl ?_
    refine s_iadd (pc := 27) C dX8_works_27 ?_
    refine s_iald (pc := 28) H.1 C dX8_works_28 ?_
    have H := H.2
    refine s_aload_n (pc := 29) C dX8_works_29 rfl 0 rfl ?_
    refine s_getr (pc := 30) (s := 5) (a := 13) (b := 0) (c' := 0) ckX8 (by decide) kw_1510 rfl C dX8_works_30 ?_
    refine s_iconst (pc := 33) C dX8_works_33 (x := (1 : Int32)) (by decide) ?_
    refine s_iald (pc := 34) (show ¬ ((1 : Int32) < 0 ∨ 169 ≤ (1 : Int32).toNatClampNeg) by decide) C dX8_works_34 ?_
    refine s_calls (pc := 35) (nA := 2) (as := [vI (h 13 0 0 (((35 : Int32) + x1).toNatClampNeg + 1)), vI (h 13 0 0 ((1 : Int32).toNatClampNeg + 1))]) (st := [vI (h 13 0 0 ((9 : Int32).toNatClampNeg + 1)), vI (9 : Int32), vR 13 0 0]) (stk := [vI (h 13 0 0 ((1 : Int32).toNatClampNeg + 1)), vI (h 13 0 0 (((35 : Int32) + x1).toNatClampNeg + 1)), vI (h 13 0 0 ((9 : Int32).toNatClampNeg + 1)), vI (9 : Int32), vR 13 0 0]) C (fun l hl => ctX8_far l hl (h 13 0 0 (((35 : Int32) + x1).toNatClampNeg + 1)) (h 13 0 0 ((1 : Int32).toNatClampNeg + 1)) _ _ H) ⟨⟨kw_1665, kw_69, kw_1667⟩, rfl, ⟨by decide, by decide, by decide +kernel⟩, by decide, by decide⟩ kw_1666 rfl (Nat.le_of_ble_eq_true rfl) ⟨by decide, by decide⟩ rfl dX8_works_35 (g_Kq_I (fun u2 h1 H => ?_) (fun E h1 H => s_prop rfl ⟨by decide, by decide⟩ H C))
    refine s_iadd (pc := 38) C dX8_works_38 ?_
    refine s_iast (pc := 39) (show ¬ ((9 : Int32) < 0 ∨ 169 ≤ (9 : Int32).toNatClampNeg) by decide) C dX8_works_39 ?_
    refine s_name (fun h3 eh3 => ?_)
    have H := H h3 eh3
    refine s_aload_n (pc := 40) C dX8_works_40 rfl 0 rfl ?_
    refine s_getr (pc := 41) (s := 5) (a := 13) (b := 0) (c' := 0) ckX8 (by decide) kw_1510 rfl C dX8_works_41 ?_
    refine s_bipush (pc := 44) C dX8_works_44 (x := (35 : Int32)) (by decide) ?_
    refine s_iload_n (pc := 46) C dX8_works_46 rfl 1 rfl ?_
    refine s_iadd (pc := 47) C dX8_works_47 ?_
    refine s_aload_n (pc := 48) C dX8_works_48 rfl 0 rfl ?_
    refine s_getr (pc := 49) (s := 5) (a := 13) (b := 0) (c' := 0) ckX8 (by decide) kw_1510 rfl C dX8_works_49 ?_
    refine s_iconst (pc := 52) C dX8_works_52 (x := (1 : Int32)) (by decide) ?_
    refine s_iald (pc := 53) (show ¬ ((1 : Int32) < 0 ∨ 169 ≤ (1 : Int32).toNatClampNeg) by decide) C dX8_works_53 ?_
    refine s_iast (pc := 54) H.1 C dX8_works_54 ?_
    have H := H.2
    refine s_name (fun h4 eh4 => ?_)
    have H := H h4 eh4
    refine s_aload_n (pc := 55) C dX8_works_55 rfl 0 rfl ?_
    refine s_getr (pc := 56) (s := 5) (a := 13) (b := 0) (c' := 0) ckX8 (by decide) kw_1510 rfl C dX8_works_56 ?_
    refine s_bipush (pc := 59) C dX8_works_59 (x := (47 : Int32)) (by decide) ?_
    refine s_iload_n (pc := 61) C dX8_works_61 rfl 1 rfl ?_
    refine s_iadd (pc := 62) C dX8_works_62 ?_
    refine s_dup2 (pc := 63) C dX8_works_63 rfl rfl ?_
    refine s_iald (pc := 64) H.1 C dX8_works_64 ?_
    have H := H.2
    refine s_aload_n (pc := 65) C dX8_works_65 rfl 0 rfl ?_
    refine s_getr (pc := 66) (s := 5) (a := 13) (b := 0) (c' := 0) ckX8 (by decide) kw_1510 rfl C dX8_works_66 ?_
    refine s_iconst (pc := 69) C dX8_works_69 (x := (2 : Int32)) (by decide) ?_
    refine s_iald (pc := 70) (show ¬ ((2 : Int32) < 0 ∨ 169 ≤ (2 : Int32).toNatClampNeg) by decide) C dX8_works_70 ?_
    refine s_if_le (pc := 71) (tgt := 86) C dX8_works_71 (by decide) (fun c => ?_) (fun c => ?_)
    · have H := H.1 c
      refine s_iconst (pc := 86) C dX8_works_86 (x := (0 : Int32)) (by decide) ?_
      exact s_sub (ls' := [(0, vR 5 0 0), (1, vI x1)]) [0, 1] rfl (vX8_works_b87 C R2 hR2 x1 (0 : Int32) (h4 13 0 0 (((47 : Int32) + x1).toNatClampNeg + 1)) ((47 : Int32) + x1) h4 H)
    · have H := H.2 c
      refine s_aload_n (pc := 74) C dX8_works_74 rfl 0 rfl ?_
      refine s_getr (pc := 75) (s := 5) (a := 13) (b := 0) (c' := 0) ckX8 (by decide) kw_1510 rfl C dX8_works_75 ?_
      refine s_bipush (pc := 78) C dX8_works_78 (x := (23 : Int32)) (by decide) ?_
      refine s_iload_n (pc := 80) C dX8_works_80 rfl 1 rfl ?_
      refine s_iadd (pc := 81) C dX8_works_81 ?_
      refine s_iald (pc := 82) H.1 C dX8_works_82 ?_
      have H := H.2
      refine s_goto (pc := 83) (tgt := 87) C dX8_works_83 (by decide) ?_
      exact s_sub (ls' := [(0, vR 5 0 0), (1, vI x1)]) [0, 1] rfl (vX8_works_b87 C R2 hR2 x1 (h4 13 0 0 (((23 : Int32) + x1).toNatClampNeg + 1)) (h4 13 0 0 (((47 : Int32) + x1).toNatClampNeg + 1)) ((47 : Int32) + x1) h4 H)
theorem vX8_works_b2 {G : g_G} {X : g_X} {Q : g_R → g_Hp → Prop} (C : g_Cx y_ G X iX8_works) (x1 : Int32) (h : g_Hp) (H : wX8_works_b2 Q x1 h) : g_V G X iX8_works 0 0 Q 2 0 0 [(0, vR 5 0 0), (1, vI x1)] [] h := by
  obtain ⟨n, H⟩ := H
  induction n generalizing x1 h with
  | zero => exact H.elim
  | succ n ih => exact vX8_works_b2_B C _ (fun x1 h H => ih x1 h H) x1 h H
set_option maxRecDepth 100000 in
set_option maxHeartbeats 4000000 in
theorem vX8_works {G : g_G} {X : g_X} {Q : g_R → g_Hp → Prop} (C : g_Cx y_ G X iX8_works) (h : g_Hp) (H : wX8_works h Q) : g_V G X iX8_works 0 0 Q 0 0 0 [(0, vR 5 0 0)] [] h := by
  refine s_iconst (pc := 0) C dX8_works_0 (x := (0 : Int32)) (by decide) ?_
  refine s_istore_n (pc := 1) (ls' := [(1, vI (0 : Int32)), (0, vR 5 0 0)]) C dX8_works_1 rfl (by decide) rfl ?_
  exact s_sub (ls' := [(0, vR 5 0 0), (1, vI (0 : Int32))]) [1, 0] rfl (vX8_works_b2 C (0 : Int32) h H)
theorem ctX8_works (l : Launch) (hl : l.stackTraces = false) {G : g_G} (h : g_Hp) (Q : g_R → g_Hp → Prop) (H : wX8_works h Q) : g_Met l y_ G iX8_works [vR 5 0 0] h Q :=
  g_Met_of hl (by decide +kernel) rfl rfl (Nat.le_of_ble_eq_true rfl) (fun X C => vX8_works C h H)
