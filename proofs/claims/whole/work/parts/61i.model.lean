/-! X8_word -/
abbrev iX8_word : g_I := (RX8, yX8_word, cX8_word, 5, (some .int), [], { frames := 2, cells := 0, slots := 0, locals := 40 })
set_option maxRecDepth 100000 in
set_option maxHeartbeats 4000000 in
theorem vX8_word_b122 {G : g_G} {X : g_X} {Q : g_R → g_Hp → Prop} (C : g_Cx y_ G X iX8_word) (R25 : Int32 → Int32 → g_Hp → Prop) (hR25 : ∀ (x1 : Int32) (x2 : Int32) (h : g_Hp), R25 x1 x2 h → g_V G X iX8_word 0 0 Q 25 0 0 [(0, vR 5 0 0), (1, vI x1), (2, vI x2)] [] h) (R41 : Int32 → Int32 → Int32 → Int32 → g_Hp → Prop) (hR41 : ∀ (x1 : Int32) (x2 : Int32) (x3 : Int32) (x4 : Int32) (h : g_Hp), R41 x1 x2 x3 x4 h → g_V G X iX8_word 0 0 Q 41 0 0 [(0, vR 5 0 0), (1, vI x1), (2, vI x2), (3, vI x3), (4, vI x4)] [] h) (x1 : Int32) (x2 : Int32) (x4 : Int32) (z0 : Int32) (z1 : Int32) (h : g_Hp) (H : wX8_word_b122 Q R25 R41 x1 x2 x4 z0 z1 h) : g_V G X iX8_word 0 0 Q 122 0 0 [(0, vR 5 0 0), (1, vI x1), (2, vI x2), (4, vI x4)] [vI z0, vI z1] h := by
  refine s_ior (pc := 122) C dX8_word_122 ?_
  refine s_namei (fun y1 ey1 => ?_)
  have H := H y1 ey1
  refine s_istore_n (pc := 123) (ls' := [(3, vI y1), (0, vR 5 0 0), (1, vI x1), (2, vI x2), (4, vI x4)]) C dX8_word_123 rfl (by decide) rfl ?_
  refine s_iincN (pc := 124) C dX8_word_124 4 rfl (z' := (1 : Int32)) (by decide) (by decide) (fun y2 ey2 => ?_)
  have H := H y2 ey2
  show g_V _ _ _ _ _ _ _ _ _ [(4, vI y2), (3, vI y1), (0, vR 5 0 0), (1, vI x1), (2, vI x2)] _ _
  refine s_goto (pc := 127) (tgt := 41) C dX8_word_127 (by decide) ?_
  exact s_sub (ls' := [(0, vR 5 0 0), (1, vI x1), (2, vI x2), (3, vI y1), (4, vI y2)]) [2, 3, 4, 1, 0] rfl (hR41 x1 x2 y1 y2 h H)
set_option maxRecDepth 100000 in
set_option maxHeartbeats 4000000 in
theorem vX8_word_b103 {G : g_G} {X : g_X} {Q : g_R → g_Hp → Prop} (C : g_Cx y_ G X iX8_word) (R25 : Int32 → Int32 → g_Hp → Prop) (hR25 : ∀ (x1 : Int32) (x2 : Int32) (h : g_Hp), R25 x1 x2 h → g_V G X iX8_word 0 0 Q 25 0 0 [(0, vR 5 0 0), (1, vI x1), (2, vI x2)] [] h) (R41 : Int32 → Int32 → Int32 → Int32 → g_Hp → Prop) (hR41 : ∀ (x1 : Int32) (x2 : Int32) (x3 : Int32) (x4 : Int32) (h : g_Hp), R41 x1 x2 x3 x4 h → g_V G X iX8_word 0 0 Q 41 0 0 [(0, vR 5 0 0), (1, vI x1), (2, vI x2), (3, vI x3), (4, vI x4)] [] h) (x1 : Int32) (x2 : Int32) (x3 : Int32) (x4 : Int32) (z0 : Int32) (z1 : Int32) (z2 : Int32) (h : g_Hp) (H : wX8_word_b103 Q R25 R41 x1 x2 x3 x4 z0 z1 z2 h) : g_V G X iX8_word 0 0 Q 103 0 0 [(0, vR 5 0 0), (1, vI x1), (2, vI x2), (3, vI x3), (4, vI x4)] [vI z0, vI z1, vI z2, vR 13 6 0] h := by
  refine s_iand (pc := 103) C dX8_word_103 ?_
  refine s_iast (pc := 104) H.1 C dX8_word_104 ?_
  have H := H.2
  refine s_name (fun h1 eh1 => ?_)
  have H := H h1 eh1
  refine s_iload_n (pc := 105) C dX8_word_105 rfl 3 rfl ?_
  refine s_aload_n (pc := 106) C dX8_word_106 rfl 0 rfl ?_
  refine s_getr (pc := 107) (s := 11) (a := 13) (b := 6) (c' := 0) ckX8 (by decide) kw_1516 rfl C dX8_word_107 ?_
  refine s_iload (pc := 110) C dX8_word_110 4 rfl ?_
  refine s_iald (pc := 112) H.1 C dX8_word_112 ?_
  have H := H.2
  refine s_iconst (pc := 113) C dX8_word_113 (x := (1 : Int32)) (by decide) ?_
  refine s_icmp_ne (pc := 114) (tgt := 121) C dX8_word_114 (by decide) (fun c => ?_) (fun c => ?_)
  · have H := H.1 c
    refine s_iconst (pc := 121) C dX8_word_121 (x := (0 : Int32)) (by decide) ?_
    exact s_sub (ls' := [(0, vR 5 0 0), (1, vI x1), (2, vI x2), (4, vI x4)]) [0, 1, 2, 4] rfl (vX8_word_b122 C R25 hR25 R41 hR41 x1 x2 x4 (0 : Int32) x3 h1 H)
  · have H := H.2 c
    refine s_iconst (pc := 117) C dX8_word_117 (x := (1 : Int32)) (by decide) ?_
    refine s_goto (pc := 118) (tgt := 122) C dX8_word_118 (by decide) ?_
    exact s_sub (ls' := [(0, vR 5 0 0), (1, vI x1), (2, vI x2), (4, vI x4)]) [0, 1, 2, 4] rfl (vX8_word_b122 C R25 hR25 R41 hR41 x1 x2 x4 (1 : Int32) x3 h1 H)
set_option maxRecDepth 100000 in
set_option maxHeartbeats 4000000 in
theorem vX8_word_b102 {G : g_G} {X : g_X} {Q : g_R → g_Hp → Prop} (C : g_Cx y_ G X iX8_word) (R25 : Int32 → Int32 → g_Hp → Prop) (hR25 : ∀ (x1 : Int32) (x2 : Int32) (h : g_Hp), R25 x1 x2 h → g_V G X iX8_word 0 0 Q 25 0 0 [(0, vR 5 0 0), (1, vI x1), (2, vI x2)] [] h) (R41 : Int32 → Int32 → Int32 → Int32 → g_Hp → Prop) (hR41 : ∀ (x1 : Int32) (x2 : Int32) (x3 : Int32) (x4 : Int32) (h : g_Hp), R41 x1 x2 x3 x4 h → g_V G X iX8_word 0 0 Q 41 0 0 [(0, vR 5 0 0), (1, vI x1), (2, vI x2), (3, vI x3), (4, vI x4)] [] h) (x1 : Int32) (x2 : Int32) (x3 : Int32) (x4 : Int32) (z0 : Int32) (z1 : Int32) (h : g_Hp) (H : wX8_word_b102 Q R25 R41 x1 x2 x3 x4 z0 z1 h) : g_V G X iX8_word 0 0 Q 102 0 0 [(0, vR 5 0 0), (1, vI x1), (2, vI x2), (3, vI x3), (4, vI x4)] [vI z0, vI z1, vR 13 6 0] h := by
  refine s_iconst (pc := 102) C dX8_word_102 (x := (0 : Int32)) (by decide) ?_
  exact s_sub (ls' := [(0, vR 5 0 0), (1, vI x1), (2, vI x2), (3, vI x3), (4, vI x4)]) [0, 1, 2, 3, 4] rfl (vX8_word_b103 C R25 hR25 R41 hR41 x1 x2 x3 x4 (0 : Int32) z0 z1 h H)
set_option maxRecDepth 100000 in
set_option maxHeartbeats 4000000 in
theorem vX8_word_b212 {G : g_G} {X : g_X} {Q : g_R → g_Hp → Prop} (C : g_Cx y_ G X iX8_word) (R25 : Int32 → Int32 → g_Hp → Prop) (hR25 : ∀ (x1 : Int32) (x2 : Int32) (h : g_Hp), R25 x1 x2 h → g_V G X iX8_word 0 0 Q 25 0 0 [(0, vR 5 0 0), (1, vI x1), (2, vI x2)] [] h) (R167 : Int32 → Int32 → Int32 → g_Hp → Prop) (hR167 : ∀ (x1 : Int32) (x2 : Int32) (x4 : Int32) (h : g_Hp), R167 x1 x2 x4 h → g_V G X iX8_word 0 0 Q 167 0 0 [(0, vR 5 0 0), (1, vI x1), (2, vI x2), (4, vI x4)] [] h) (x1 : Int32) (x4 : Int32) (z0 : Int32) (h : g_Hp) (H : wX8_word_b212 Q R25 R167 x1 x4 z0 h) : g_V G X iX8_word 0 0 Q 212 0 0 [(0, vR 5 0 0), (1, vI x1), (4, vI x4)] [vI z0] h := by
  refine s_istore_n (pc := 212) (ls' := [(2, vI z0), (0, vR 5 0 0), (1, vI x1), (4, vI x4)]) C dX8_word_212 rfl (by decide) rfl ?_
  refine s_iincN (pc := 213) C dX8_word_213 3 rfl (z' := (1 : Int32)) (by decide) (by decide) (fun y1 ey1 => ?_)
  have H := H y1 ey1
  show g_V _ _ _ _ _ _ _ _ _ [(4, vI y1), (2, vI z0), (0, vR 5 0 0), (1, vI x1)] _ _
  refine s_goto (pc := 216) (tgt := 167) C dX8_word_216 (by decide) ?_
  exact s_sub (ls' := [(0, vR 5 0 0), (1, vI x1), (2, vI z0), (4, vI y1)]) [2, 3, 1, 0] rfl (hR167 x1 z0 y1 h H)
set_option maxRecDepth 100000 in
set_option maxHeartbeats 4000000 in
theorem vX8_word_b211 {G : g_G} {X : g_X} {Q : g_R → g_Hp → Prop} (C : g_Cx y_ G X iX8_word) (R25 : Int32 → Int32 → g_Hp → Prop) (hR25 : ∀ (x1 : Int32) (x2 : Int32) (h : g_Hp), R25 x1 x2 h → g_V G X iX8_word 0 0 Q 25 0 0 [(0, vR 5 0 0), (1, vI x1), (2, vI x2)] [] h) (R167 : Int32 → Int32 → Int32 → g_Hp → Prop) (hR167 : ∀ (x1 : Int32) (x2 : Int32) (x4 : Int32) (h : g_Hp), R167 x1 x2 x4 h → g_V G X iX8_word 0 0 Q 167 0 0 [(0, vR 5 0 0), (1, vI x1), (2, vI x2), (4, vI x4)] [] h) (x1 : Int32) (x2 : Int32) (x4 : Int32) (h : g_Hp) (H : wX8_word_b211 Q R25 R167 x1 x2 x4 h) : g_V G X iX8_word 0 0 Q 211 0 0 [(0, vR 5 0 0), (1, vI x1), (2, vI x2), (4, vI x4)] [] h := by
  refine s_iload_n (pc := 211) C dX8_word_211 rfl 2 rfl ?_
  exact s_sub (ls' := [(0, vR 5 0 0), (1, vI x1), (4, vI x4)]) [0, 1, 3] rfl (vX8_word_b212 C R25 hR25 R167 hR167 x1 x4 x2 h H)
set_option maxRecDepth 100000 in
set_option maxHeartbeats 4000000 in
theorem vX8_word_b167_B {G : g_G} {X : g_X} {Q : g_R → g_Hp → Prop} (C : g_Cx y_ G X iX8_word) (R25 : Int32 → Int32 → g_Hp → Prop) (hR25 : ∀ (x1 : Int32) (x2 : Int32) (h : g_Hp), R25 x1 x2 h → g_V G X iX8_word 0 0 Q 25 0 0 [(0, vR 5 0 0), (1, vI x1), (2, vI x2)] [] h) (R167 : Int32 → Int32 → Int32 → g_Hp → Prop) (hR167 : ∀ (x1 : Int32) (x2 : Int32) (x4 : Int32) (h : g_Hp), R167 x1 x2 x4 h → g_V G X iX8_word 0 0 Q 167 0 0 [(0, vR 5 0 0), (1, vI x1), (2, vI x2), (4, vI x4)] [] h) (x1 : Int32) (x2 : Int32) (x4 : Int32) (h : g_Hp) (H : wX8_word_b167_B Q R25 R167 x1 x2 x4 h) : g_V G X iX8_word 0 0 Q 167 0 0 [(0, vR 5 0 0), (1, vI x1), (2, vI x2), (4, vI x4)] [] h := by
  refine s_iload (pc := 167) C dX8_word_167 3 rfl ?_
  refine s_bipush (pc := 169) C dX8_word_169 (x := (10 : Int32)) (by decide) ?_
  refine s_icmp_ge (pc := 171) (tgt := 219) C dX8_word_171 (by decide) (fun c => ?_) (fun c => ?_)
  · have H := H.1 c
    refine s_goto (pc := 219) (tgt := 25) C dX8_word_219 (by decide) ?_
    exact s_sub (ls' := [(0, vR 5 0 0), (1, vI x1), (2, vI x2)]) [0, 1, 2] rfl (hR25 x1 x2 h H)
  · have H := H.2 c
    refine s_aload_n (pc := 174) C dX8_word_174 rfl 0 rfl ?_
    refine s_getr (pc := 175) (s := 11) (a := 13) (b := 6) (c' := 0) ckX8 (by decide) kw_1516 rfl C dX8_word_175 ?_
    refine s_iload (pc := 178) C dX8_word_178 3 rfl ?_
    refine s_iald (pc := 180) H.1 C dX8_word_180 ?_
    have H := H.2
    refine s_iconst (pc := 181) C dX8_word_181 (x := (1 : Int32)) (by decide) ?_
    refine s_icmp_ne (pc := 182) (tgt := 211) C dX8_word_182 (by decide) (fun c => ?_) (fun c => ?_)
    · have H := H.1 c
      exact s_sub (ls' := [(0, vR 5 0 0), (1, vI x1), (2, vI x2), (4, vI x4)]) [0, 1, 2, 3] rfl (vX8_word_b211 C R25 hR25 R167 hR167 x1 x2 x4 h H)
    · have H := H.2 c
      refine s_aload_n (pc := 185) C dX8_word_185 rfl 0 rfl ?_
      refine s_getr (pc := 186) (s := 13) (a := 13) (b := 8) (c' := 0) ckX8 (by decide) kw_1518 rfl C dX8_word_186 ?_
      refine s_iload (pc := 189) C dX8_word_189 3 rfl ?_
      refine s_iald (pc := 191) H.1 C dX8_word_191 ?_
      have H := H.2
      refine s_iload_n (pc := 192) C dX8_word_192 rfl 1 rfl ?_
      refine s_iadd (pc := 193) C dX8_word_193 ?_
      refine s_aload_n (pc := 194) C dX8_word_194 rfl 0 rfl ?_
      refine s_getr (pc := 195) (s := 13) (a := 13) (b := 8) (c' := 0) ckX8 (by decide) kw_1518 rfl C dX8_word_195 ?_
      refine s_iload (pc := 198) C dX8_word_198 3 rfl ?_
      refine s_iconst (pc := 200) C dX8_word_200 (x := (1 : Int32)) (by decide) ?_
      refine s_iadd (pc := 201) C dX8_word_201 ?_
      refine s_iald (pc := 202) H.1 C dX8_word_202 ?_
      have H := H.2
      refine s_icmp_ne (pc := 203) (tgt := 211) C dX8_word_203 (by decide) (fun c => ?_) (fun c => ?_)
      · have H := H.1 c
        exact s_sub (ls' := [(0, vR 5 0 0), (1, vI x1), (2, vI x2), (4, vI x4)]) [0, 1, 2, 3] rfl (vX8_word_b211 C R25 hR25 R167 hR167 x1 x2 x4 h H)
      · have H := H.2 c
        refine s_iload (pc := 206) C dX8_word_206 3 rfl ?_
        refine s_goto (pc := 208) (tgt := 212) C dX8_word_208 (by decide) ?_
        exact s_sub (ls' := [(0, vR 5 0 0), (1, vI x1), (4, vI x4)]) [0, 1, 3] rfl (vX8_word_b212 C R25 hR25 R167 hR167 x1 x4 x4 h H)
theorem vX8_word_b167 {G : g_G} {X : g_X} {Q : g_R → g_Hp → Prop} (C : g_Cx y_ G X iX8_word) (R25 : Int32 → Int32 → g_Hp → Prop) (hR25 : ∀ (x1 : Int32) (x2 : Int32) (h : g_Hp), R25 x1 x2 h → g_V G X iX8_word 0 0 Q 25 0 0 [(0, vR 5 0 0), (1, vI x1), (2, vI x2)] [] h) (x1 : Int32) (x2 : Int32) (x4 : Int32) (h : g_Hp) (H : wX8_word_b167 Q R25 x1 x2 x4 h) : g_V G X iX8_word 0 0 Q 167 0 0 [(0, vR 5 0 0), (1, vI x1), (2, vI x2), (4, vI x4)] [] h := by
  obtain ⟨n, H⟩ := H
  induction n generalizing x1 x2 x4 h with
  | zero => exact H.elim
  | succ n ih => exact vX8_word_b167_B C R25 hR25 _ (fun x1 x2 x4 h H => ih x1 x2 x4 h H) x1 x2 x4 h H
set_option maxRecDepth 100000 in
set_option maxHeartbeats 4000000 in
theorem vX8_word_b157 {G : g_G} {X : g_X} {Q : g_R → g_Hp → Prop} (C : g_Cx y_ G X iX8_word) (R25 : Int32 → Int32 → g_Hp → Prop) (hR25 : ∀ (x1 : Int32) (x2 : Int32) (h : g_Hp), R25 x1 x2 h → g_V G X iX8_word 0 0 Q 25 0 0 [(0, vR 5 0 0), (1, vI x1), (2, vI x2)] [] h) (x1 : Int32) (x2 : Int32) (z0 : Int32) (z1 : Int32) (h : g_Hp) (H : wX8_word_b157 Q R25 x1 x2 z0 z1 h) : g_V G X iX8_word 0 0 Q 157 0 0 [(0, vR 5 0 0), (1, vI x1), (2, vI x2)] [vI z0, vI z1, vR 5 0 0] h := by
  refine s_iadd (pc := 157) C dX8_word_157 ?_
  refine s_puti (pc := 158) (s := 15) ckX8 (Or.inl rfl) (by decide) kw_1520 (fun _ => rfl) rfl rfl rfl C dX8_word_158 ?_
  refine s_name (fun h1 eh1 => ?_)
  have H := H h1 eh1
  refine s_iincN (pc := 161) C dX8_word_161 1 rfl (z' := (1 : Int32)) (by decide) (by decide) (fun y2 ey2 => ?_)
  have H := H y2 ey2
  show g_V _ _ _ _ _ _ _ _ _ [(1, vI y2), (0, vR 5 0 0), (2, vI x2)] _ _
  refine s_iconst (pc := 164) C dX8_word_164 (x := (0 : Int32)) (by decide) ?_
  refine s_istore (pc := 165) (ls' := [(4, vI (0 : Int32)), (1, vI y2), (0, vR 5 0 0), (2, vI x2)]) C dX8_word_165 (by decide) rfl ?_
  exact s_sub (ls' := [(0, vR 5 0 0), (1, vI y2), (2, vI x2), (4, vI (0 : Int32))]) [2, 1, 3, 0] rfl (vX8_word_b167 C R25 hR25 y2 x2 (0 : Int32) h1 H)
set_option maxRecDepth 100000 in
set_option maxHeartbeats 4000000 in
theorem vX8_word_b140 {G : g_G} {X : g_X} {Q : g_R → g_Hp → Prop} (C : g_Cx y_ G X iX8_word) (R25 : Int32 → Int32 → g_Hp → Prop) (hR25 : ∀ (x1 : Int32) (x2 : Int32) (h : g_Hp), R25 x1 x2 h → g_V G X iX8_word 0 0 Q 25 0 0 [(0, vR 5 0 0), (1, vI x1), (2, vI x2)] [] h) (x1 : Int32) (x2 : Int32) (x3 : Int32) (z0 : Int32) (h : g_Hp) (H : wX8_word_b140 Q R25 x1 x2 x3 z0 h) : g_V G X iX8_word 0 0 Q 140 0 0 [(0, vR 5 0 0), (1, vI x1), (2, vI x2), (3, vI x3)] [vI z0, vR 5 0 0] h := by
  refine s_puti (pc := 140) (s := 18) ckX8 (Or.inl rfl) (by decide) kw_1523 (fun _ => rfl) rfl (g_nz H.1) (g_fz H.1) C dX8_word_140 ?_
  have H := H.2
  refine s_name (fun h1 eh1 => ?_)
  have H := H h1 eh1
  refine s_aload_n (pc := 143) C dX8_word_143 rfl 0 rfl ?_
  refine s_dup (pc := 144) C dX8_word_144 rfl ?_
  refine s_geti (pc := 145) (s := 15) ckX8 (Or.inl rfl) (by decide) kw_1520 (fun _ => rfl) C dX8_word_145 ?_
  refine s_iload_n (pc := 148) C dX8_word_148 rfl 3 rfl ?_
  refine s_if_eq (pc := 149) (tgt := 156) C dX8_word_149 (by decide) (fun c => ?_) (fun c => ?_)
  · have H := H.1 c
    refine s_iconst (pc := 156) C dX8_word_156 (x := (0 : Int32)) (by decide) ?_
    exact s_sub (ls' := [(0, vR 5 0 0), (1, vI x1), (2, vI x2)]) [0, 1, 2] rfl (vX8_word_b157 C R25 hR25 x1 x2 (0 : Int32) (h1 5 0 0 16) h1 H)
  · have H := H.2 c
    refine s_iconst (pc := 152) C dX8_word_152 (x := (1 : Int32)) (by decide) ?_
    refine s_goto (pc := 153) (tgt := 157) C dX8_word_153 (by decide) ?_
    exact s_sub (ls' := [(0, vR 5 0 0), (1, vI x1), (2, vI x2)]) [0, 1, 2] rfl (vX8_word_b157 C R25 hR25 x1 x2 (1 : Int32) (h1 5 0 0 16) h1 H)
set_option maxRecDepth 100000 in
set_option maxHeartbeats 4000000 in
theorem vX8_word_b41_B {G : g_G} {X : g_X} {Q : g_R → g_Hp → Prop} (C : g_Cx y_ G X iX8_word) (R25 : Int32 → Int32 → g_Hp → Prop) (hR25 : ∀ (x1 : Int32) (x2 : Int32) (h : g_Hp), R25 x1 x2 h → g_V G X iX8_word 0 0 Q 25 0 0 [(0, vR 5 0 0), (1, vI x1), (2, vI x2)] [] h) (R41 : Int32 → Int32 → Int32 → Int32 → g_Hp → Prop) (hR41 : ∀ (x1 : Int32) (x2 : Int32) (x3 : Int32) (x4 : Int32) (h : g_Hp), R41 x1 x2 x3 x4 h → g_V G X iX8_word 0 0 Q 41 0 0 [(0, vR 5 0 0), (1, vI x1), (2, vI x2), (3, vI x3), (4, vI x4)] [] h) (x1 : Int32) (x2 : Int32) (x3 : Int32) (x4 : Int32) (h : g_Hp) (H : wX8_word_b41_B Q R25 R41 x1 x2 x3 x4 h) : g_V G X iX8_word 0 0 Q 41 0 0 [(0, vR 5 0 0), (1, vI x1), (2, vI x2), (3, vI x3), (4, vI x4)] [] h := by
  refine s_iload (pc := 41) C dX8_word_41 4 rfl ?_
  refine s_bipush (pc := 43) C dX8_word_43 (x := (10 : Int32)) (by decide) ?_
  refine s_icmp_ge (pc := 45) (tgt := 130) C dX8_word_45 (by decide) (fun c => ?_) (fun c => ?_)
  · have H := H.1 c
    refine s_aload_n (pc := 130) C dX8_word_130 rfl 0 rfl ?_
    refine s_iload_n (pc := 131) C dX8_word_131 rfl 3 rfl ?_
    refine s_if_ne (pc := 132) (tgt := 139) C dX8_word_132 (by decide) (fun c => ?_) (fun c => ?_)
    · have H := H.1 c
      refine s_iconst (pc := 139) C dX8_word_139 (x := (0 : Int32)) (by decide) ?_
      exact s_sub (ls' := [(0, vR 5 0 0), (1, vI x1), (2, vI x2), (3, vI x3)]) [0, 1, 2, 3] rfl (vX8_word_b140 C R25 hR25 x1 x2 x3 (0 : Int32) h H)
    · have H := H.2 c
      refine s_iconst (pc := 135) C dX8_word_135 (x := (1 : Int32)) (by decide) ?_
      refine s_goto (pc := 136) (tgt := 140) C dX8_word_136 (by decide) ?_
      exact s_sub (ls' := [(0, vR 5 0 0), (1, vI x1), (2, vI x2), (3, vI x3)]) [0, 1, 2, 3] rfl (vX8_word_b140 C R25 hR25 x1 x2 x3 (1 : Int32) h H)
  · have H := H.2 c
    refine s_aload_n (pc := 48) C dX8_word_48 rfl 0 rfl ?_
    refine s_getr (pc := 49) (s := 11) (a := 13) (b := 6) (c' := 0) ckX8 (by decide) kw_1516 rfl C dX8_word_49 ?_
    refine s_iload (pc := 52) C dX8_word_52 4 rfl ?_
    refine s_dup2 (pc := 54) C dX8_word_54 rfl rfl ?_
    refine s_iald (pc := 55) H.1 C dX8_word_55 ?_
    have H := H.2
    refine s_aload_n (pc := 56) C dX8_word_56 rfl 0 rfl ?_
    refine s_getr (pc := 57) (s := 13) (a := 13) (b := 8) (c' := 0) ckX8 (by decide) kw_1518 rfl C dX8_word_57 ?_
    refine s_iload (pc := 60) C dX8_word_60 4 rfl ?_
    refine s_iald (pc := 62) H.1 C dX8_word_62 ?_
    have H := H.2
    refine s_iload_n (pc := 63) C dX8_word_63 rfl 1 rfl ?_
    refine s_iadd (pc := 64) C dX8_word_64 ?_
    refine s_aload_n (pc := 65) C dX8_word_65 rfl 0 rfl ?_
    refine s_getr (pc := 66) (s := 13) (a := 13) (b := 8) (c' := 0) ckX8 (by decide) kw_1518 rfl C dX8_word_66 ?_
    refine s_iload (pc := 69) C dX8_word_69 4 rfl ?_
    refine s_iconst (pc := 71) C dX8_word_71 (x := (1 : Int32)) (by decide) ?_
    refine s_iadd (pc := 72) C dX8_word_72 ?_
    refine s_iald (pc := 73) H.1 C dX8_word_73 ?_
    have H := H.2
    refine s_icmp_ge (pc := 74) (tgt := 102) C dX8_word_74 (by decide) (fun c => ?_) (fun c => ?_)
    · have H := H.1 c
      exact s_sub (ls' := [(0, vR 5 0 0), (1, vI x1), (2, vI x2), (3, vI x3), (4, vI x4)]) [0, 1, 2, 3, 4] rfl (vX8_word_b102 C R25 hR25 R41 hR41 x1 x2 x3 x4 (h 13 6 0 (x4.toNatClampNeg + 1)) x4 h H)
    · have H := H.2 c
      refine s_aload_n (pc := 77) C dX8_word_77 rfl 0 rfl ?_
      refine s_getr (pc := 78) (s := 12) (a := 13) (b := 7) (c' := 0) ckX8 (by decide) kw_1517 rfl C dX8_word_78 ?_
      refine s_aload_n (pc := 81) C dX8_word_81 rfl 0 rfl ?_
      refine s_getr (pc := 82) (s := 13) (a := 13) (b := 8) (c' := 0) ckX8 (by decide) kw_1518 rfl C dX8_word_82 ?_
      refine s_iload (pc := 85) C dX8_word_85 4 rfl ?_
      refine s_iald (pc := 87) H.1 C dX8_word_87 ?_
      have H := H.2
      refine s_iload_n (pc := 88) C dX8_word_88 rfl 1 rfl ?_
      refine s_iadd (pc := 89) C dX8_word_89 ?_
      refine s_iald (pc := 90) H.1 C dX8_word_90 ?_
      have H := H.2
      refine s_aload_n (pc := 91) C dX8_word_91 rfl 0 rfl ?_
      refine s_callv (pc := 92) (nA := 0) (as := []) (st := [vI (h 13 7 0 (((h 13 8 0 (x4.toNatClampNeg + 1)) + x1).toNatClampNeg + 1)), vI (h 13 6 0 (x4.toNatClampNeg + 1)), vI x4, vR 13 6 0]) (stk := [vR 5 0 0, vI (h 13 7 0 (((h 13 8 0 (x4.toNatClampNeg + 1)) + x1).toNatClampNeg + 1)), vI (h 13 6 0 (x4.toNatClampNeg + 1)), vI x4, vR 13 6 0]) ckX8 (Or.inl rfl) C (fun l hl => ctX8_sign l hl _ _ H) ⟨⟨kw_1885, kw_69, kw_1888⟩, rfl, ⟨by decide, by decide, by decide +kernel⟩, by decide, by decide⟩ kw_1887 (g_selW kw_48) rfl (Nat.le_of_ble_eq_true rfl) ⟨by decide, by decide⟩ rfl dX8_word_92 (g_Kq_I (fun u2 h1 H => ?_) (fun E h1 H => s_prop rfl ⟨by decide, by decide⟩ H C))
      refine s_icmp_ne (pc := 95) (tgt := 102) C dX8_word_95 (by decide) (fun c => ?_) (fun c => ?_)
      · have H := H.1 c
        exact s_sub (ls' := [(0, vR 5 0 0), (1, vI x1), (2, vI x2), (3, vI x3), (4, vI x4)]) [0, 1, 2, 3, 4] rfl (vX8_word_b102 C R25 hR25 R41 hR41 x1 x2 x3 x4 (h 13 6 0 (x4.toNatClampNeg + 1)) x4 h1 H)
      · have H := H.2 c
        refine s_iconst (pc := 98) C dX8_word_98 (x := (1 : Int32)) (by decide) ?_
        refine s_goto (pc := 99) (tgt := 103) C dX8_word_99 (by decide) ?_
        exact s_sub (ls' := [(0, vR 5 0 0), (1, vI x1), (2, vI x2), (3, vI x3), (4, vI x4)]) [0, 1, 2, 3, 4] rfl (vX8_word_b103 C R25 hR25 R41 hR41 x1 x2 x3 x4 (1 : Int32) (h 13 6 0 (x4.toNatClampNeg + 1)) x4 h1 H)
theorem vX8_word_b41 {G : g_G} {X : g_X} {Q : g_R → g_Hp → Prop} (C : g_Cx y_ G X iX8_word) (R25 : Int32 → Int32 → g_Hp → Prop) (hR25 : ∀ (x1 : Int32) (x2 : Int32) (h : g_Hp), R25 x1 x2 h → g_V G X iX8_word 0 0 Q 25 0 0 [(0, vR 5 0 0), (1, vI x1), (2, vI x2)] [] h) (x1 : Int32) (x2 : Int32) (x3 : Int32) (x4 : Int32) (h : g_Hp) (H : wX8_word_b41 Q R25 x1 x2 x3 x4 h) : g_V G X iX8_word 0 0 Q 41 0 0 [(0, vR 5 0 0), (1, vI x1), (2, vI x2), (3, vI x3), (4, vI x4)] [] h := by
  obtain ⟨n, H⟩ := H
  induction n generalizing x1 x2 x3 x4 h with
  | zero => exact H.elim
  | succ n ih => exact vX8_word_b41_B C R25 hR25 _ (fun x1 x2 x3 x4 h H => ih x1 x2 x3 x4 h H) x1 x2 x3 x4 h H
set_option maxRecDepth 100000 in
set_option maxHeartbeats 4000000 in
theorem vX8_word_b222 {G : g_G} {X : g_X} {Q : g_R → g_Hp → Prop} (C : g_Cx y_ G X iX8_word) (x2 : Int32) (h : g_Hp) (H : wX8_word_b222 Q x2 h) : g_V G X iX8_word 0 0 Q 222 0 0 [(2, vI x2)] [] h := by
  refine s_iload_n (pc := 222) C dX8_word_222 rfl 0 rfl ?_
  exact s_iret (pc := 223) rfl rfl ⟨by decide, by decide⟩ H C dX8_word_223
set_option maxRecDepth 100000 in
set_option maxHeartbeats 4000000 in
theorem vX8_word_b25_B {G : g_G} {X : g_X} {Q : g_R → g_Hp → Prop} (C : g_Cx y_ G X iX8_word) (R25 : Int32 → Int32 → g_Hp → Prop) (hR25 : ∀ (x1 : Int32) (x2 : Int32) (h : g_Hp), R25 x1 x2 h → g_V G X iX8_word 0 0 Q 25 0 0 [(0, vR 5 0 0), (1, vI x1), (2, vI x2)] [] h) (x1 : Int32) (x2 : Int32) (h : g_Hp) (H : wX8_word_b25_B Q R25 x1 x2 h) : g_V G X iX8_word 0 0 Q 25 0 0 [(0, vR 5 0 0), (1, vI x1), (2, vI x2)] [] h := by
  refine s_iload_n (pc := 25) C dX8_word_25 rfl 2 rfl ?_
  refine s_if_ge (pc := 26) (tgt := 222) C dX8_word_26 (by decide) (fun c => ?_) (fun c => ?_)
  · have H := H.1 c
    exact s_sub (ls' := [(2, vI x2)]) [2] rfl (vX8_word_b222 C x2 h H)
  · have H := H.2 c
    refine s_aload_n (pc := 29) C dX8_word_29 rfl 0 rfl ?_
    refine s_geti (pc := 30) (s := 18) ckX8 (Or.inl rfl) (by decide) kw_1523 (fun _ => rfl) C dX8_word_30 ?_
    refine s_if_ne (pc := 33) (tgt := 222) C dX8_word_33 (by decide) (fun c => ?_) (fun c => ?_)
    · have H := H.1 c
      exact s_sub (ls' := [(2, vI x2)]) [2] rfl (vX8_word_b222 C x2 h H)
    · have H := H.2 c
      refine s_iconst (pc := 36) C dX8_word_36 (x := (0 : Int32)) (by decide) ?_
      refine s_istore_n (pc := 37) (ls' := [(3, vI (0 : Int32)), (0, vR 5 0 0), (1, vI x1), (2, vI x2)]) C dX8_word_37 rfl (by decide) rfl ?_
      refine s_iconst (pc := 38) C dX8_word_38 (x := (0 : Int32)) (by decide) ?_
      refine s_istore (pc := 39) (ls' := [(4, vI (0 : Int32)), (3, vI (0 : Int32)), (0, vR 5 0 0), (1, vI x1), (2, vI x2)]) C dX8_word_39 (by decide) rfl ?_
      exact s_sub (ls' := [(0, vR 5 0 0), (1, vI x1), (2, vI x2), (3, vI (0 : Int32)), (4, vI (0 : Int32))]) [2, 3, 4, 1, 0] rfl (vX8_word_b41 C R25 hR25 x1 x2 (0 : Int32) (0 : Int32) h H)
theorem vX8_word_b25 {G : g_G} {X : g_X} {Q : g_R → g_Hp → Prop} (C : g_Cx y_ G X iX8_word) (x1 : Int32) (x2 : Int32) (h : g_Hp) (H : wX8_word_b25 Q x1 x2 h) : g_V G X iX8_word 0 0 Q 25 0 0 [(0, vR 5 0 0), (1, vI x1), (2, vI x2)] [] h := by
  obtain ⟨n, H⟩ := H
  induction n generalizing x1 x2 h with
  | zero => exact H.elim
  | succ n ih => exact vX8_word_b25_B C _ (fun x1 x2 h H => ih x1 x2 h H) x1 x2 h H
set_option maxRecDepth 100000 in
set_option maxHeartbeats 4000000 in
theorem vX8_word_b2_B {G : g_G} {X : g_X} {Q : g_R → g_Hp → Prop} (C : g_Cx y_ G X iX8_word) (R2 : Int32 → g_Hp → Prop) (hR2 : ∀ (x1 : Int32) (h : g_Hp), R2 x1 h → g_V G X iX8_word 0 0 Q 2 0 0 [(0, vR 5 0 0), (1, vI x1)] [] h) (x1 : Int32) (h : g_Hp) (H : wX8_word_b2_B Q R2 x1 h) : g_V G X iX8_word 0 0 Q 2 0 0 [(0, vR 5 0 0), (1, vI x1)] [] h := by
  refine s_iload_n (pc := 2) C dX8_word_2 rfl 1 rfl ?_
  refine s_bipush (pc := 3) C dX8_word_3 (x := (10 : Int32)) (by decide) ?_
  refine s_icmp_ge (pc := 5) (tgt := 21) C dX8_word_5 (by decide) (fun c => ?_) (fun c => ?_)
  · have H := H.1 c
    refine s_iconst (pc := 21) C dX8_word_21 (x := (0 : Int32)) (by decide) ?_
    refine s_istore_n (pc := 22) (ls' := [(1, vI (0 : Int32)), (0, vR 5 0 0)]) C dX8_word_22 rfl (by decide) rfl ?_
    refine s_iconst (pc := 23) C dX8_word_23 (x := (-1 : Int32)) (by decide) ?_
    refine s_istore_n (pc := 24) (ls' := [(2, vI (-1 : Int32)), (1, vI (0 : Int32)), (0, vR 5 0 0)]) C dX8_word_24 rfl (by decide) rfl ?_
    exact s_sub (ls' := [(0, vR 5 0 0), (1, vI (0 : Int32)), (2, vI (-1 : Int32))]) [2, 1, 0] rfl (vX8_word_b25 C (0 : Int32) (-1 : Int32) h H)
  · have H := H.2 c
    refine s_aload_n (pc := 8) C dX8_word_8 rfl 0 rfl ?_
    refine s_getr (pc := 9) (s := 11) (a := 13) (b := 6) (c' := 0) ckX8 (by decide) kw_1516 rfl C dX8_word_9 ?_
    refine s_iload_n (pc := 12) C dX8_word_12 rfl 1 rfl ?_
    refine s_iconst (pc := 13) C dX8_word_13 (x := (1 : Int32)) (by decide) ?_
    refine s_iast (pc := 14) H.1 C dX8_word_14 ?_
    have H := H.2
    refine s_name (fun h1 eh1 => ?_)
    have H := H h1 eh1
    refine s_iincN (pc := 15) C dX8_word_15 1 rfl (z' := (1 : Int32)) (by decide) (by decide) (fun y2 ey2 => ?_)
    have H := H y2 ey2
    show g_V _ _ _ _ _ _ _ _ _ [(1, vI y2), (0, vR 5 0 0)] _ _
    refine s_goto (pc := 18) (tgt := 2) C dX8_word_18 (by decide) ?_
    exact s_sub (ls' := [(0, vR 5 0 0), (1, vI y2)]) [1, 0] rfl (hR2 y2 h1 H)
theorem vX8_word_b2 {G : g_G} {X : g_X} {Q : g_R → g_Hp → Prop} (C : g_Cx y_ G X iX8_word) (x1 : Int32) (h : g_Hp) (H : wX8_word_b2 Q x1 h) : g_V G X iX8_word 0 0 Q 2 0 0 [(0, vR 5 0 0), (1, vI x1)] [] h := by
  obtain ⟨n, H⟩ := H
  induction n generalizing x1 h with
  | zero => exact H.elim
  | succ n ih => exact vX8_word_b2_B C _ (fun x1 h H => ih x1 h H) x1 h H
set_option maxRecDepth 100000 in
set_option maxHeartbeats 4000000 in
theorem vX8_word {G : g_G} {X : g_X} {Q : g_R → g_Hp → Prop} (C : g_Cx y_ G X iX8_word) (h : g_Hp) (H : wX8_word h Q) : g_V G X iX8_word 0 0 Q 0 0 0 [(0, vR 5 0 0)] [] h := by
  refine s_iconst (pc := 0) C dX8_word_0 (x := (0 : Int32)) (by decide) ?_
  refine s_istore_n (pc := 1) (ls' := [(1, vI (0 : Int32)), (0, vR 5 0 0)]) C dX8_word_1 rfl (by decide) rfl ?_
  exact s_sub (ls' := [(0, vR 5 0 0), (1, vI (0 : Int32))]) [1, 0] rfl (vX8_word_b2 C (0 : Int32) h H)
theorem ctX8_word (l : Launch) (hl : l.stackTraces = false) {G : g_G} (h : g_Hp) (Q : g_R → g_Hp → Prop) (H : wX8_word h Q) : g_Met l y_ G iX8_word [vR 5 0 0] h Q :=
  g_Met_of hl (by decide +kernel) rfl rfl (Nat.le_of_ble_eq_true rfl) (fun X C => vX8_word C h H)
/-! X8_does -/
abbrev iX8_does : g_I := (RX8, yX8_does, cX8_does, 4, (some .int), [], { frames := 5, cells := 0, slots := 0, locals := 110 })
set_option maxRecDepth 100000 in
set_option maxHeartbeats 4000000 in
theorem vX8_does {G : g_G} {X : g_X} {Q : g_R → g_Hp → Prop} (C : g_Cx y_ G X iX8_does) (p0 : Int32) (p1 : Int32) (p2 : Int32) (h : g_Hp) (H : wX8_does p0 p1 p2 h Q) : g_V G X iX8_does 0 0 Q 0 0 0 [(0, vR 5 0 0), (1, vI p0), (2, vI p1), (3, vI p2)] [] h := by
  refine s_iload_n (pc := 0) C dX8_does_0 rfl 1 rfl ?_
  refine s_tsw (pc := 1) (tgtD := 109) C dX8_does_1 (by decide) (fun c => ?_) (fun n9 c => ?_)
  · have H := H.1 c
    refine s_aload_n (pc := 109) C dX8_does_109 rfl 0 rfl ?_
    refine s_iload_n (pc := 110) C dX8_does_110 rfl 2 rfl ?_
    refine s_callv (pc := 111) (nA := 1) (as := [vI p1]) (st := []) (stk := [vI p1, vR 5 0 0]) ckX8 (Or.inl rfl) C (fun l hl => ctX8_accepts l hl p1 _ _ H) ⟨⟨kw_1817, kw_69, kw_1820⟩, rfl, ⟨by decide, by decide, by decide +kernel⟩, by decide, by decide⟩ kw_1819 (g_selW kw_41) rfl (Nat.le_of_ble_eq_true rfl) ⟨by decide, by decide⟩ rfl dX8_does_111 (g_Kq_I (fun u2 h1 H => ?_) (fun E h1 H => s_prop rfl ⟨by decide, by decide⟩ H C))
    exact s_iret (pc := 114) rfl rfl ⟨by decide, by decide⟩ H C dX8_does_114
  · have H := H.2
    match n9, c with
    | 0, c =>
      refine ⟨51, 52, rfl, by decide, ?_⟩
      have H := H.1 c.1
      refine s_aload_n (pc := 52) C dX8_does_52 rfl 0 rfl ?_
      refine s_iload_n (pc := 53) C dX8_does_53 rfl 2 rfl ?_
      refine s_iload_n (pc := 54) C dX8_does_54 rfl 3 rfl ?_
      refine s_callv (pc := 55) (nA := 2) (as := [vI p1, vI p2]) (st := []) (stk := [vI p2, vI p1, vR 5 0 0]) ckX8 (Or.inl rfl) C (fun l hl => ctX8_adds l hl p1 p2 _ _ H) ⟨⟨kw_1582, kw_69, kw_1585⟩, rfl, ⟨by decide, by decide, by decide +kernel⟩, by decide, by decide⟩ kw_1584 (g_selW kw_22) rfl (Nat.le_of_ble_eq_true rfl) ⟨by decide, by decide⟩ rfl dX8_does_55 (g_Kq_I (fun u4 h3 H => ?_) (fun E h3 H => s_prop rfl ⟨by decide, by decide⟩ H C))
      exact s_iret (pc := 58) rfl rfl ⟨by decide, by decide⟩ H C dX8_does_58
    | 1, c =>
      refine ⟨58, 59, rfl, by decide, ?_⟩
      have H := H.2.1 c.1
      refine s_aload_n (pc := 59) C dX8_does_59 rfl 0 rfl ?_
      refine s_iload_n (pc := 60) C dX8_does_60 rfl 2 rfl ?_
      refine s_iload_n (pc := 61) C dX8_does_61 rfl 3 rfl ?_
      refine s_callv (pc := 62) (nA := 2) (as := [vI p1, vI p2]) (st := []) (stk := [vI p2, vI p1, vR 5 0 0]) ckX8 (Or.inl rfl) C (fun l hl => ctX8_blows l hl p1 p2 _ _ H) ⟨⟨kw_1661, kw_69, kw_1664⟩, rfl, ⟨by decide, by decide, by decide +kernel⟩, by decide, by decide⟩ kw_1663 (g_selW kw_28) rfl (Nat.le_of_ble_eq_true rfl) ⟨by decide, by decide⟩ rfl dX8_does_62 (g_Kq_I (fun u6 h5 H => ?_) (fun E h5 H => s_prop rfl ⟨by decide, by decide⟩ H C))
      exact s_iret (pc := 65) rfl rfl ⟨by decide, by decide⟩ H C dX8_does_65
    | 2, c =>
      refine ⟨65, 66, rfl, by decide, ?_⟩
      have H := H.2.2.1 c.1
      refine s_aload_n (pc := 66) C dX8_does_66 rfl 0 rfl ?_
      refine s_iload_n (pc := 67) C dX8_does_67 rfl 2 rfl ?_
      refine s_callv (pc := 68) (nA := 1) (as := [vI p1]) (st := []) (stk := [vI p1, vR 5 0 0]) ckX8 (Or.inl rfl) C (fun l hl => ctX8_passes l hl p1 _ _ H) ⟨⟨kw_1689, kw_69, kw_1692⟩, rfl, ⟨by decide, by decide, by decide +kernel⟩, by decide, by decide⟩ kw_1691 (g_selW kw_29) rfl (Nat.le_of_ble_eq_true rfl) ⟨by decide, by decide⟩ rfl dX8_does_68 (g_Kq_I (fun u8 h7 H => ?_) (fun E h7 H => s_prop rfl ⟨by decide, by decide⟩ H C))
      exact s_iret (pc := 71) rfl rfl ⟨by decide, by decide⟩ H C dX8_does_71
    | 3, c =>
      refine ⟨71, 72, rfl, by decide, ?_⟩
      have H := H.2.2.2.1 c.1
      refine s_aload_n (pc := 72) C dX8_does_72 rfl 0 rfl ?_
      refine s_iload_n (pc := 73) C dX8_does_73 rfl 2 rfl ?_
      refine s_iload_n (pc := 74) C dX8_does_74 rfl 3 rfl ?_
      refine s_callv (pc := 75) (nA := 2) (as := [vI p1, vI p2]) (st := []) (stk := [vI p2, vI p1, vR 5 0 0]) ckX8 (Or.inl rfl) C (fun l hl => ctX8_votes l hl p1 p2 _ _ H) ⟨⟨kw_1720, kw_69, kw_1723⟩, rfl, ⟨by decide, by decide, by decide +kernel⟩, by decide, by decide⟩ kw_1722 (g_selW kw_33) rfl (Nat.le_of_ble_eq_true rfl) ⟨by decide, by decide⟩ rfl dX8_does_75 (g_Kq_I (fun u10 h9 H => ?_) (fun E h9 H => s_prop rfl ⟨by decide, by decide⟩ H C))
      exact s_iret (pc := 78) rfl rfl ⟨by decide, by decide⟩ H C dX8_does_78
    | 4, c =>
      refine ⟨78, 79, rfl, by decide, ?_⟩
      have H := H.2.2.2.2.1 c.1
      refine s_aload_n (pc := 79) C dX8_does_79 rfl 0 rfl ?_
      refine s_callv (pc := 80) (nA := 0) (as := []) (st := []) (stk := [vR 5 0 0]) ckX8 (Or.inl rfl) C (fun l hl => ctX8_starts l hl _ _ H) ⟨⟨kw_1740, kw_69, kw_1743⟩, rfl, ⟨by decide, by decide, by decide +kernel⟩, by decide, by decide⟩ kw_1742 (g_selW kw_35) rfl (Nat.le_of_ble_eq_true rfl) ⟨by decide, by decide⟩ rfl dX8_does_80 (g_Kq_I (fun u12 h11 H => ?_) (fun E h11 H => s_prop rfl ⟨by decide, by decide⟩ H C))
      exact s_iret (pc := 83) rfl rfl ⟨by decide, by decide⟩ H C dX8_does_83
    | 5, c =>
      refine ⟨83, 84, rfl, by decide, ?_⟩
      have H := H.2.2.2.2.2.1 c.1
      refine s_aload_n (pc := 84) C dX8_does_84 rfl 0 rfl ?_
      refine s_iload_n (pc := 85) C dX8_does_85 rfl 2 rfl ?_
      refine s_callv (pc := 86) (nA := 1) (as := [vI p1]) (st := []) (stk := [vI p1, vR 5 0 0]) ckX8 (Or.inl rfl) C (fun l hl => ctX8_pays l hl p1 _ _ H) ⟨⟨kw_1756, kw_69, kw_1759⟩, rfl, ⟨by decide, by decide, by decide +kernel⟩, by decide, by decide⟩ kw_1758 (g_selW kw_36) rfl (Nat.le_of_ble_eq_true rfl) ⟨by decide, by decide⟩ rfl dX8_does_86 (g_Kq_I (fun u14 h13 H => ?_) (fun E h13 H => s_prop rfl ⟨by decide, by decide⟩ H C))
      exact s_iret (pc := 89) rfl rfl ⟨by decide, by decide⟩ H C dX8_does_89
    | 6, c =>
      refine ⟨89, 90, rfl, by decide, ?_⟩
      have H := H.2.2.2.2.2.2.1 c.1
      refine s_aload_n (pc := 90) C dX8_does_90 rfl 0 rfl ?_
      refine s_iload_n (pc := 91) C dX8_does_91 rfl 2 rfl ?_
      refine s_iload_n (pc := 92) C dX8_does_92 rfl 3 rfl ?_
      refine s_callv (pc := 93) (nA := 2) (as := [vI p1, vI p2]) (st := []) (stk := [vI p2, vI p1, vR 5 0 0]) ckX8 (Or.inl rfl) C (fun l hl => ctX8_signs l hl p1 p2 _ _ H) ⟨⟨kw_1777, kw_69, kw_1780⟩, rfl, ⟨by decide, by decide, by decide +kernel⟩, by decide, by decide⟩ kw_1779 (g_selW kw_37) rfl (Nat.le_of_ble_eq_true rfl) ⟨by decide, by decide⟩ rfl dX8_does_93 (g_Kq_I (fun u16 h15 H => ?_) (fun E h15 H => s_prop rfl ⟨by decide, by decide⟩ H C))
      exact s_iret (pc := 96) rfl rfl ⟨by decide, by decide⟩ H C dX8_does_96
    | 7, c =>
      refine ⟨96, 97, rfl, by decide, ?_⟩
      have H := H.2.2.2.2.2.2.2.1 c.1
      refine s_aload_n (pc := 97) C dX8_does_97 rfl 0 rfl ?_
      refine s_iload_n (pc := 98) C dX8_does_98 rfl 2 rfl ?_
      refine s_callv (pc := 99) (nA := 1) (as := [vI p1]) (st := []) (stk := [vI p1, vR 5 0 0]) ckX8 (Or.inl rfl) C (fun l hl => ctX8_leaves l hl p1 _ _ H) ⟨⟨kw_1789, kw_69, kw_1792⟩, rfl, ⟨by decide, by decide, by decide +kernel⟩, by decide, by decide⟩ kw_1791 (g_selW kw_39) rfl (Nat.le_of_ble_eq_true rfl) ⟨by decide, by decide⟩ rfl dX8_does_99 (g_Kq_I (fun u18 h17 H => ?_) (fun E h17 H => s_prop rfl ⟨by decide, by decide⟩ H C))
      exact s_iret (pc := 102) rfl rfl ⟨by decide, by decide⟩ H C dX8_does_102
    | 8, c =>
      refine ⟨102, 103, rfl, by decide, ?_⟩
      have H := H.2.2.2.2.2.2.2.2 c.1
      refine s_aload_n (pc := 103) C dX8_does_103 rfl 0 rfl ?_
      refine s_iload_n (pc := 104) C dX8_does_104 rfl 2 rfl ?_
      refine s_callv (pc := 105) (nA := 1) (as := [vI p1]) (st := []) (stk := [vI p1, vR 5 0 0]) ckX8 (Or.inl rfl) C (fun l hl => ctX8_offers l hl p1 _ _ H) ⟨⟨kw_1809, kw_69, kw_1812⟩, rfl, ⟨by decide, by decide, by decide +kernel⟩, by decide, by decide⟩ kw_1811 (g_selW kw_40) rfl (Nat.le_of_ble_eq_true rfl) ⟨by decide, by decide⟩ rfl dX8_does_105 (g_Kq_I (fun u20 h19 H => ?_) (fun E h19 H => s_prop rfl ⟨by decide, by decide⟩ H C))
      exact s_iret (pc := 108) rfl rfl ⟨by decide, by decide⟩ H C dX8_does_108
    | q9 + 9, c => exact absurd c.2 (by omega)
theorem ctX8_does (l : Launch) (hl : l.stackTraces = false) {G : g_G} (p0 : Int32) (p1 : Int32) (p2 : Int32) (h : g_Hp) (Q : g_R → g_Hp → Prop) (H : wX8_does p0 p1 p2 h Q) : g_Met l y_ G iX8_does [vR 5 0 0, vI p0, vI p1, vI p2] h Q :=
  g_Met_of hl (by decide +kernel) rfl rfl (Nat.le_of_ble_eq_true rfl) (fun X C => vX8_does C p0 p1 p2 h H)
/-! X8_command -/
abbrev iX8_command : g_I := (RX8, yX8_command, cX8_command, 6, none, [], { frames := 6, cells := 0, slots := 0, locals := 133 })
set_option maxRecDepth 100000 in
set_option maxHeartbeats 4000000 in
theorem vX8_command_b101 {G : g_G} {X : g_X} {Q : g_R → g_Hp → Prop} (C : g_Cx y_ G X iX8_command) (h : g_Hp) (H : wX8_command_b101 Q h) : g_V G X iX8_command 0 0 Q 101 0 0 [] [] h := by
  exact s_vret (pc := 101) rfl ⟨by decide, by decide⟩ H C dX8_command_101
set_option maxRecDepth 100000 in
set_option maxHeartbeats 4000000 in
theorem vX8_command_b87 {G : g_G} {X : g_X} {Q : g_R → g_Hp → Prop} (C : g_Cx y_ G X iX8_command) (x1 : Int32) (x2 : Int32) (x3 : Int32) (h : g_Hp) (H : wX8_command_b87 Q x1 x2 x3 h) : g_V G X iX8_command 0 0 Q 87 0 0 [(0, vR 5 0 0), (1, vI x1), (2, vI x2), (3, vI x3)] [] h := by
  refine s_aload_n (pc := 87) C dX8_command_87 rfl 0 rfl ?_
  refine s_geti (pc := 88) (s := 18) ckX8 (Or.inl rfl) (by decide) kw_1523 (fun _ => rfl) C dX8_command_88 ?_
  refine s_if_ne (pc := 91) (tgt := 101) C dX8_command_91 (by decide) (fun c => ?_) (fun c => ?_)
  · have H := H.1 c
    exact s_sub (ls' := []) [] rfl (vX8_command_b101 C  h H)
  · have H := H.2 c
    refine s_aload_n (pc := 94) C dX8_command_94 rfl 0 rfl ?_
    refine s_geti (pc := 95) (s := 19) ckX8 (Or.inl rfl) (by decide) kw_1524 (fun _ => rfl) C dX8_command_95 ?_
    refine s_if_ne (pc := 98) (tgt := 102) C dX8_command_98 (by decide) (fun c => ?_) (fun c => ?_)
    · have H := H.1 c
      refine s_aload_n (pc := 102) C dX8_command_102 rfl 0 rfl ?_
      refine s_iload_n (pc := 103) C dX8_command_103 rfl 1 rfl ?_
      refine s_iload_n (pc := 104) C dX8_command_104 rfl 2 rfl ?_
      refine s_iload_n (pc := 105) C dX8_command_105 rfl 3 rfl ?_
      refine s_callv (pc := 106) (nA := 3) (as := [vI x1, vI x2, vI x3]) (st := []) (stk := [vI x3, vI x2, vI x1, vR 5 0 0]) ckX8 (Or.inl rfl) C (fun l hl => ctX8_does l hl x1 x2 x3 _ _ H) ⟨⟨kw_1905, kw_69, kw_1908⟩, rfl, ⟨by decide, by decide, by decide +kernel⟩, by decide, by decide⟩ kw_1907 (g_selW kw_53) rfl (Nat.le_of_ble_eq_true rfl) ⟨by decide, by decide⟩ rfl dX8_command_106 (g_Kq_I (fun u2 h1 H => ?_) (fun E h1 H => s_prop rfl ⟨by decide, by decide⟩ H C))
      refine s_istore (pc := 109) (ls' := [(5, vI u2), (0, vR 5 0 0), (1, vI x1), (2, vI x2), (3, vI x3)]) C dX8_command_109 (by decide) rfl ?_
      exact s_vret (pc := 111) rfl ⟨by decide, by decide⟩ H C dX8_command_111
    · have H := H.2 c
      exact s_sub (ls' := []) [] rfl (vX8_command_b101 C  h H)
set_option maxRecDepth 100000 in
set_option maxHeartbeats 4000000 in
theorem vX8_command_b77 {G : g_G} {X : g_X} {Q : g_R → g_Hp → Prop} (C : g_Cx y_ G X iX8_command) (x1 : Int32) (x2 : Int32) (x3 : Int32) (h : g_Hp) (H : wX8_command_b77 Q x1 x2 x3 h) : g_V G X iX8_command 0 0 Q 77 0 0 [(0, vR 5 0 0), (1, vI x1), (2, vI x2), (3, vI x3)] [] h := by
  refine s_iload_n (pc := 77) C dX8_command_77 rfl 1 rfl ?_
  refine s_iconst (pc := 78) C dX8_command_78 (x := (3 : Int32)) (by decide) ?_
  refine s_icmp_ne (pc := 79) (tgt := 87) C dX8_command_79 (by decide) (fun c => ?_) (fun c => ?_)
  · have H := H.1 c
    exact s_sub (ls' := [(0, vR 5 0 0), (1, vI x1), (2, vI x2), (3, vI x3)]) [0, 1, 2, 3] rfl (vX8_command_b87 C x1 x2 x3 h H)
  · have H := H.2 c
    refine s_aload_n (pc := 82) C dX8_command_82 rfl 0 rfl ?_
    refine s_callv (pc := 83) (nA := 0) (as := []) (st := []) (stk := [vR 5 0 0]) ckX8 (Or.inl rfl) C (fun l hl => ctX8_plus l hl _ _ H) ⟨⟨kw_1901, kw_69, kw_1904⟩, rfl, ⟨by decide, by decide, by decide +kernel⟩, by decide, by decide⟩ kw_1903 (g_selW kw_52) rfl (Nat.le_of_ble_eq_true rfl) ⟨by decide, by decide⟩ rfl dX8_command_83 (g_Kq_I (fun u2 h1 H => ?_) (fun E h1 H => s_prop rfl ⟨by decide, by decide⟩ H C))
    refine s_istore_n (pc := 86) (ls' := [(3, vI u2), (0, vR 5 0 0), (1, vI x1), (2, vI x2)]) C dX8_command_86 rfl (by decide) rfl ?_
    exact s_sub (ls' := [(0, vR 5 0 0), (1, vI x1), (2, vI x2), (3, vI u2)]) [1, 2, 3, 0] rfl (vX8_command_b87 C x1 x2 u2 h1 H)
set_option maxRecDepth 100000 in
set_option maxHeartbeats 4000000 in
theorem vX8_command_b59 {G : g_G} {X : g_X} {Q : g_R → g_Hp → Prop} (C : g_Cx y_ G X iX8_command) (x1 : Int32) (x2 : Int32) (x4 : Int32) (h : g_Hp) (H : wX8_command_b59 Q x1 x2 x4 h) : g_V G X iX8_command 0 0 Q 59 0 0 [(0, vR 5 0 0), (1, vI x1), (2, vI x2), (3, vI (0 : Int32)), (4, vI x4)] [] h := by
  refine s_iload (pc := 59) C dX8_command_59 4 rfl ?_
  refine s_if_eq (pc := 61) (tgt := 77) C dX8_command_61 (by decide) (fun c => ?_) (fun c => ?_)
  · have H := H.1 c
    exact s_sub (ls' := [(0, vR 5 0 0), (1, vI x1), (2, vI x2), (3, vI (0 : Int32))]) [0, 1, 2, 3] rfl (vX8_command_b77 C x1 x2 (0 : Int32) h H)
  · have H := H.2 c
    refine s_aload_n (pc := 64) C dX8_command_64 rfl 0 rfl ?_
    refine s_geti (pc := 65) (s := 18) ckX8 (Or.inl rfl) (by decide) kw_1523 (fun _ => rfl) C dX8_command_65 ?_
    refine s_if_ne (pc := 68) (tgt := 77) C dX8_command_68 (by decide) (fun c => ?_) (fun c => ?_)
    · have H := H.1 c
      exact s_sub (ls' := [(0, vR 5 0 0), (1, vI x1), (2, vI x2), (3, vI (0 : Int32))]) [0, 1, 2, 3] rfl (vX8_command_b77 C x1 x2 (0 : Int32) h H)
    · have H := H.2 c
      refine s_aload_n (pc := 71) C dX8_command_71 rfl 0 rfl ?_
      refine s_iconst (pc := 72) C dX8_command_72 (x := (3 : Int32)) (by decide) ?_
      refine s_callv (pc := 73) (nA := 1) (as := [vI (3 : Int32)]) (st := []) (stk := [vI (3 : Int32), vR 5 0 0]) ckX8 (Or.inl rfl) C (fun l hl => ctX8_behind l hl (3 : Int32) _ _ H) ⟨⟨kw_1893, kw_69, kw_1896⟩, rfl, ⟨by decide, by decide, by decide +kernel⟩, by decide, by decide⟩ kw_1895 (g_selW kw_50) rfl (Nat.le_of_ble_eq_true rfl) ⟨by decide, by decide⟩ rfl dX8_command_73 (g_Kq_I (fun u2 h1 H => ?_) (fun E h1 H => s_prop rfl ⟨by decide, by decide⟩ H C))
      refine s_istore_n (pc := 76) (ls' := [(3, vI u2), (0, vR 5 0 0), (1, vI x1), (2, vI x2), (4, vI x4)]) C dX8_command_76 rfl (by decide) rfl ?_
      exact s_sub (ls' := [(0, vR 5 0 0), (1, vI x1), (2, vI x2), (3, vI u2)]) [1, 2, 3, 0] rfl (vX8_command_b77 C x1 x2 u2 h1 H)
set_option maxRecDepth 100000 in
set_option maxHeartbeats 4000000 in
theorem vX8_command_b55 {G : g_G} {X : g_X} {Q : g_R → g_Hp → Prop} (C : g_Cx y_ G X iX8_command) (x1 : Int32) (x4 : Int32) (z0 : Int32) (h : g_Hp) (H : wX8_command_b55 Q x1 x4 z0 h) : g_V G X iX8_command 0 0 Q 55 0 0 [(0, vR 5 0 0), (1, vI x1), (3, vI (0 : Int32)), (4, vI x4)] [vI z0, vR 5 0 0] h := by
  refine s_callv (pc := 55) (nA := 1) (as := [vI z0]) (st := []) (stk := [vI z0, vR 5 0 0]) ckX8 (Or.inl rfl) C (fun l hl => ctX8_digits l hl z0 _ _ H) ⟨⟨kw_1889, kw_69, kw_1892⟩, rfl, ⟨by decide, by decide, by decide +kernel⟩, by decide, by decide⟩ kw_1891 (g_selW kw_49) rfl (Nat.le_of_ble_eq_true rfl) ⟨by decide, by decide⟩ rfl dX8_command_55 (g_Kq_I (fun u2 h1 H => ?_) (fun E h1 H => s_prop rfl ⟨by decide, by decide⟩ H C))
  refine s_istore_n (pc := 58) (ls' := [(2, vI u2), (0, vR 5 0 0), (1, vI x1), (3, vI (0 : Int32)), (4, vI x4)]) C dX8_command_58 rfl (by decide) rfl ?_
  exact s_sub (ls' := [(0, vR 5 0 0), (1, vI x1), (2, vI u2), (3, vI (0 : Int32)), (4, vI x4)]) [1, 2, 0, 3, 4] rfl (vX8_command_b59 C x1 u2 x4 h1 H)
set_option maxRecDepth 100000 in
set_option maxHeartbeats 4000000 in
theorem vX8_command_b37 {G : g_G} {X : g_X} {Q : g_R → g_Hp → Prop} (C : g_Cx y_ G X iX8_command) (x1 : Int32) (z0 : Int32) (h : g_Hp) (H : wX8_command_b37 Q x1 z0 h) : g_V G X iX8_command 0 0 Q 37 0 0 [(0, vR 5 0 0), (1, vI x1), (2, vI (0 : Int32)), (3, vI (0 : Int32))] [vI z0] h := by
  refine s_istore (pc := 37) (ls' := [(4, vI z0), (0, vR 5 0 0), (1, vI x1), (2, vI (0 : Int32)), (3, vI (0 : Int32))]) C dX8_command_37 (by decide) rfl ?_
  refine s_iload_n (pc := 39) C dX8_command_39 rfl 2 rfl ?_
  refine s_iconst (pc := 40) C dX8_command_40 (x := (4 : Int32)) (by decide) ?_
  refine s_icmp_eq (pc := 41) (tgt := 59) C dX8_command_41 (by decide) (fun c => ?_) (fun c => ?_)
  · have H := H.1 c
    exact s_sub (ls' := [(0, vR 5 0 0), (1, vI x1), (2, vI (0 : Int32)), (3, vI (0 : Int32)), (4, vI z0)]) [1, 2, 3, 4, 0] rfl (vX8_command_b59 C x1 (0 : Int32) z0 h H)
  · have H := H.2 c
    refine s_aload_n (pc := 44) C dX8_command_44 rfl 1 rfl ?_
    refine s_iload (pc := 45) C dX8_command_45 0 rfl ?_
    refine s_if_eq (pc := 47) (tgt := 54) C dX8_command_47 (by decide) (fun c => ?_) (fun c => ?_)
    · have H := H.1 c
      refine s_iconst (pc := 54) C dX8_command_54 (x := (3 : Int32)) (by decide) ?_
      exact s_sub (ls' := [(0, vR 5 0 0), (1, vI x1), (3, vI (0 : Int32)), (4, vI z0)]) [1, 2, 4, 0] rfl (vX8_command_b55 C x1 z0 (3 : Int32) h H)
    · have H := H.2 c
      refine s_iconst (pc := 50) C dX8_command_50 (x := (1 : Int32)) (by decide) ?_
      refine s_goto (pc := 51) (tgt := 55) C dX8_command_51 (by decide) ?_
      exact s_sub (ls' := [(0, vR 5 0 0), (1, vI x1), (3, vI (0 : Int32)), (4, vI z0)]) [1, 2, 4, 0] rfl (vX8_command_b55 C x1 z0 (1 : Int32) h H)
set_option maxRecDepth 100000 in
set_option maxHeartbeats 4000000 in
theorem vX8_command_b32 {G : g_G} {X : g_X} {Q : g_R → g_Hp → Prop} (C : g_Cx y_ G X iX8_command) (x1 : Int32) (h : g_Hp) (H : wX8_command_b32 Q x1 h) : g_V G X iX8_command 0 0 Q 32 0 0 [(0, vR 5 0 0), (1, vI x1), (2, vI (0 : Int32)), (3, vI (0 : Int32))] [] h := by
  refine s_iconst (pc := 32) C dX8_command_32 (x := (1 : Int32)) (by decide) ?_
  refine s_goto (pc := 33) (tgt := 37) C dX8_command_33 (by decide) ?_
  exact s_sub (ls' := [(0, vR 5 0 0), (1, vI x1), (2, vI (0 : Int32)), (3, vI (0 : Int32))]) [0, 1, 2, 3] rfl (vX8_command_b37 C x1 (1 : Int32) h H)
set_option maxRecDepth 100000 in
set_option maxHeartbeats 4000000 in
theorem vX8_command {G : g_G} {X : g_X} {Q : g_R → g_Hp → Prop} (C : g_Cx y_ G X iX8_command) (h : g_Hp) (H : wX8_command h Q) : g_V G X iX8_command 0 0 Q 0 0 0 [(0, vR 5 0 0)] [] h := by
  refine s_aload_n (pc := 0) C dX8_command_0 rfl 0 rfl ?_
  refine s_callv (pc := 1) (nA := 0) (as := []) (st := []) (stk := [vR 5 0 0]) ckX8 (Or.inl rfl) C (fun l hl => ctX8_word l hl _ _ H) ⟨⟨kw_1881, kw_69, kw_1884⟩, rfl, ⟨by decide, by decide, by decide +kernel⟩, by decide, by decide⟩ kw_1883 (g_selW kw_47) rfl (Nat.le_of_ble_eq_true rfl) ⟨by decide, by decide⟩ rfl dX8_command_1 (g_Kq_I (fun u2 h1 H => ?_) (fun E h1 H => s_prop rfl ⟨by decide, by decide⟩ H C))
  refine s_istore_n (pc := 4) (ls' := [(1, vI u2), (0, vR 5 0 0)]) C dX8_command_4 rfl (by decide) rfl ?_
  refine s_iconst (pc := 5) C dX8_command_5 (x := (0 : Int32)) (by decide) ?_
  refine s_istore_n (pc := 6) (ls' := [(2, vI (0 : Int32)), (1, vI u2), (0, vR 5 0 0)]) C dX8_command_6 rfl (by decide) rfl ?_
  refine s_iconst (pc := 7) C dX8_command_7 (x := (0 : Int32)) (by decide) ?_
  refine s_istore_n (pc := 8) (ls' := [(3, vI (0 : Int32)), (2, vI (0 : Int32)), (1, vI u2), (0, vR 5 0 0)]) C dX8_command_8 rfl (by decide) rfl ?_
  refine s_aload_n (pc := 9) C dX8_command_9 rfl 3 rfl ?_
  refine s_geti (pc := 10) (s := 18) ckX8 (Or.inl rfl) (by decide) kw_1523 (fun _ => rfl) C dX8_command_10 ?_
  refine s_if_eq (pc := 13) (tgt := 17) C dX8_command_13 (by decide) (fun c => ?_) (fun c => ?_)
  · have H := H.1 c
    refine s_iload_n (pc := 17) C dX8_command_17 rfl 2 rfl ?_
    refine s_if_eq (pc := 18) (tgt := 32) C dX8_command_18 (by decide) (fun c => ?_) (fun c => ?_)
    · have H := H.1 c
      exact s_sub (ls' := [(0, vR 5 0 0), (1, vI u2), (2, vI (0 : Int32)), (3, vI (0 : Int32))]) [3, 2, 1, 0] rfl (vX8_command_b32 C u2 h1 H)
    · have H := H.2 c
      refine s_iload_n (pc := 21) C dX8_command_21 rfl 2 rfl ?_
      refine s_iconst (pc := 22) C dX8_command_22 (x := (1 : Int32)) (by decide) ?_
      refine s_icmp_eq (pc := 23) (tgt := 32) C dX8_command_23 (by decide) (fun c => ?_) (fun c => ?_)
      · have H := H.1 c
        exact s_sub (ls' := [(0, vR 5 0 0), (1, vI u2), (2, vI (0 : Int32)), (3, vI (0 : Int32))]) [3, 2, 1, 0] rfl (vX8_command_b32 C u2 h1 H)
      · have H := H.2 c
        refine s_iload_n (pc := 26) C dX8_command_26 rfl 2 rfl ?_
        refine s_bipush (pc := 27) C dX8_command_27 (x := (6 : Int32)) (by decide) ?_
        refine s_icmp_ne (pc := 29) (tgt := 36) C dX8_command_29 (by decide) (fun c => ?_) (fun c => ?_)
        · have H := H.1 c
          refine s_iconst (pc := 36) C dX8_command_36 (x := (0 : Int32)) (by decide) ?_
          exact s_sub (ls' := [(0, vR 5 0 0), (1, vI u2), (2, vI (0 : Int32)), (3, vI (0 : Int32))]) [3, 2, 1, 0] rfl (vX8_command_b37 C u2 (0 : Int32) h1 H)
        · have H := H.2 c
          exact s_sub (ls' := [(0, vR 5 0 0), (1, vI u2), (2, vI (0 : Int32)), (3, vI (0 : Int32))]) [3, 2, 1, 0] rfl (vX8_command_b32 C u2 h1 H)
  · have H := H.2 c
    exact s_vret (pc := 16) rfl ⟨by decide, by decide⟩ H C dX8_command_16
theorem ctX8_command (l : Launch) (hl : l.stackTraces = false) {G : g_G} (h : g_Hp) (Q : g_R → g_Hp → Prop) (H : wX8_command h Q) : g_Met l y_ G iX8_command [vR 5 0 0] h Q :=
  g_Met_of hl (by decide +kernel) rfl rfl (Nat.le_of_ble_eq_true rfl) (fun X C => vX8_command C h H)
