/-! X8_init -/
abbrev iX8_init : g_I := (RX8, yX8_init, cX8_init, 1, none, [], { frames := 1, cells := 9, slots := 2047, locals := 20 })
set_option maxRecDepth 100000 in
set_option maxHeartbeats 4000000 in
theorem vX8_init {G : g_G} {X : g_X} {Q : g_R → g_Hp → Prop} (C : g_Cx y_ G X iX8_init) (h : g_Hp) (H : wX8_init h Q) : g_V G X iX8_init 9 2047 Q 0 0 0 [(0, vR 45 0 0)] [] h := by
  refine s_aload_n (pc := 0) C dX8_init_0 rfl 0 rfl ?_
  refine s_obj (pc := 1) C kw_1504 kw_97 kw_98 (Nat.le_of_ble_eq_true rfl) ⟨by decide, by decide⟩ dX8_init_1 ?_
  refine s_aload_n (pc := 4) C dX8_init_4 rfl 0 rfl ?_
  refine s_iconst (pc := 5) C dX8_init_5 (x := (-1 : Int32)) (by decide) ?_
  refine s_puti (pc := 6) (s := 2) ckX8 (Or.inr rfl) (by decide) kw_1507 (fun _ => rfl) rfl rfl rfl C dX8_init_6 ?_
  refine s_name (fun h1 eh1 => ?_)
  have H := H h1 eh1
  refine s_aload_n (pc := 9) C dX8_init_9 rfl 0 rfl ?_
  refine s_iconst (pc := 10) C dX8_init_10 (x := (-1 : Int32)) (by decide) ?_
  refine s_puti (pc := 11) (s := 3) ckX8 (Or.inr rfl) (by decide) kw_1508 (fun _ => rfl) rfl rfl rfl C dX8_init_11 ?_
  refine s_name (fun h2 eh2 => ?_)
  have H := H h2 eh2
  refine s_aload_n (pc := 14) C dX8_init_14 rfl 0 rfl ?_
  refine s_sipush (pc := 15) C dX8_init_15 (x := (169 : Int32)) (by decide) ?_
  refine s_newI (pc := 18) (i := 0) (j := 0) (N := 169) kw_1566 H.1 (by decide) (by decide) (fun _ => rfl) (by decide) ⟨by decide, by decide⟩ C dX8_init_18 ?_
  have H := H.2
  refine s_name (fun h3 eh3 => ?_)
  have H := H h3 eh3
  refine s_putr (pc := 20) (s := 5) (x := (1 : Int32)) (a := 13) (b := 0) (c' := 0) ckX8 (Or.inr rfl) (by decide) kw_1510 rfl (by decide) (Or.inl rfl) (by decide) (Or.inr ⟨rfl, rfl, rfl⟩) (fun _ => rfl) (fun _ => rfl) C dX8_init_20 ?_
  refine s_name (fun h4 eh4 => ?_)
  have H := H h4 eh4
  refine s_aload_n (pc := 23) C dX8_init_23 rfl 0 rfl ?_
  refine s_sipush (pc := 24) C dX8_init_24 (x := (169 : Int32)) (by decide) ?_
  refine s_newI (pc := 27) (i := 1) (j := 0) (N := 169) kw_1566 H.1 (by decide) (by decide) (fun _ => rfl) (by decide) ⟨by decide, by decide⟩ C dX8_init_27 ?_
  have H := H.2
  refine s_name (fun h5 eh5 => ?_)
  have H := H h5 eh5
  refine s_putr (pc := 29) (s := 6) (x := (1 : Int32)) (a := 13) (b := 1) (c' := 0) ckX8 (Or.inr rfl) (by decide) kw_1511 rfl (by decide) (Or.inl rfl) (by decide) (Or.inr ⟨rfl, rfl, rfl⟩) (fun _ => rfl) (fun _ => rfl) C dX8_init_29 ?_
  refine s_name (fun h6 eh6 => ?_)
  have H := H h6 eh6
  refine s_aload_n (pc := 32) C dX8_init_32 rfl 0 rfl ?_
  refine s_sipush (pc := 33) C dX8_init_33 (x := (169 : Int32)) (by decide) ?_
  refine s_newI (pc := 36) (i := 2) (j := 0) (N := 169) kw_1566 H.1 (by decide) (by decide) (fun _ => rfl) (by decide) ⟨by decide, by decide⟩ C dX8_init_36 ?_
  have H := H.2
  refine s_name (fun h7 eh7 => ?_)
  have H := H h7 eh7
  refine s_putr (pc := 38) (s := 7) (x := (1 : Int32)) (a := 13) (b := 2) (c' := 0) ckX8 (Or.inr rfl) (by decide) kw_1512 rfl (by decide) (Or.inl rfl) (by decide) (Or.inr ⟨rfl, rfl, rfl⟩) (fun _ => rfl) (fun _ => rfl) C dX8_init_38 ?_
  refine s_name (fun h8 eh8 => ?_)
  have H := H h8 eh8
  refine s_aload_n (pc := 41) C dX8_init_41 rfl 0 rfl ?_
  refine s_sipush (pc := 42) C dX8_init_42 (x := (1352 : Int32)) (by decide) ?_
  refine s_newI (pc := 45) (i := 3) (j := 0) (N := 1352) kw_1566 H.1 (by decide) (by decide) (fun _ => rfl) (by decide) ⟨by decide, by decide⟩ C dX8_init_45 ?_
  have H := H.2
  refine s_name (fun h9 eh9 => ?_)
  have H := H h9 eh9
  refine s_putr (pc := 47) (s := 8) (x := (1 : Int32)) (a := 13) (b := 3) (c' := 0) ckX8 (Or.inr rfl) (by decide) kw_1513 rfl (by decide) (Or.inl rfl) (by decide) (Or.inr ⟨rfl, rfl, rfl⟩) (fun _ => rfl) (fun _ => rfl) C dX8_init_47 ?_
  refine s_name (fun h10 eh10 => ?_)
  have H := H h10 eh10
  refine s_aload_n (pc := 50) C dX8_init_50 rfl 0 rfl ?_
  refine s_bipush (pc := 51) C dX8_init_51 (x := (60 : Int32)) (by decide) ?_
  refine s_newI (pc := 53) (i := 4) (j := 0) (N := 60) kw_1566 H.1 (by decide) (by decide) (fun _ => rfl) (by decide) ⟨by decide, by decide⟩ C dX8_init_53 ?_
  have H := H.2
  refine s_name (fun h11 eh11 => ?_)
  have H := H h11 eh11
  refine s_putr (pc := 55) (s := 9) (x := (1 : Int32)) (a := 13) (b := 4) (c' := 0) ckX8 (Or.inr rfl) (by decide) kw_1514 rfl (by decide) (Or.inl rfl) (by decide) (Or.inr ⟨rfl, rfl, rfl⟩) (fun _ => rfl) (fun _ => rfl) C dX8_init_55 ?_
  refine s_name (fun h12 eh12 => ?_)
  have H := H h12 eh12
  refine s_aload_n (pc := 58) C dX8_init_58 rfl 0 rfl ?_
  refine s_bipush (pc := 59) C dX8_init_59 (x := (50 : Int32)) (by decide) ?_
  refine s_newI (pc := 61) (i := 5) (j := 0) (N := 50) kw_1566 H.1 (by decide) (by decide) (fun _ => rfl) (by decide) ⟨by decide, by decide⟩ C dX8_init_61 ?_
  have H := H.2
  refine s_name (fun h13 eh13 => ?_)
  have H := H h13 eh13
  refine s_putr (pc := 63) (s := 10) (x := (1 : Int32)) (a := 13) (b := 5) (c' := 0) ckX8 (Or.inr rfl) (by decide) kw_1515 rfl (by decide) (Or.inl rfl) (by decide) (Or.inr ⟨rfl, rfl, rfl⟩) (fun _ => rfl) (fun _ => rfl) C dX8_init_63 ?_
  refine s_name (fun h14 eh14 => ?_)
  have H := H h14 eh14
  refine s_aload_n (pc := 66) C dX8_init_66 rfl 0 rfl ?_
  refine s_bipush (pc := 67) C dX8_init_67 (x := (10 : Int32)) (by decide) ?_
  refine s_newI (pc := 69) (i := 6) (j := 0) (N := 10) kw_1566 H.1 (by decide) (by decide) (fun _ => rfl) (by decide) ⟨by decide, by decide⟩ C dX8_init_69 ?_
  have H := H.2
  refine s_name (fun h15 eh15 => ?_)
  have H := H h15 eh15
  refine s_putr (pc := 71) (s := 11) (x := (1 : Int32)) (a := 13) (b := 6) (c' := 0) ckX8 (Or.inr rfl) (by decide) kw_1516 rfl (by decide) (Or.inl rfl) (by decide) (Or.inr ⟨rfl, rfl, rfl⟩) (fun _ => rfl) (fun _ => rfl) C dX8_init_71 ?_
  refine s_name (fun h16 eh16 => ?_)
  have H := H h16 eh16
  refine s_aload_n (pc := 74) C dX8_init_74 rfl 0 rfl ?_
  refine s_bipush (pc := 75) C dX8_init_75 (x := (57 : Int32)) (by decide) ?_
  refine s_newI (pc := 77) (i := 7) (j := 0) (N := 57) kw_1566 H.1 (by decide) (by decide) (fun _ => rfl) (by decide) ⟨by decide, by decide⟩ C dX8_init_77 ?_
  have H := H.2
  refine s_name (fun h17 eh17 => ?_)
  have H := H h17 eh17
  refine s_dup (pc := 79) C dX8_init_79 rfl ?_
  refine s_iconst (pc := 80) C dX8_init_80 (x := (0 : Int32)) (by decide) ?_
  refine s_bipush (pc := 81) C dX8_init_81 (x := (109 : Int32)) (by decide) ?_
  refine s_iast (pc := 83) (show ¬ ((0 : Int32) < 0 ∨ 57 ≤ (0 : Int32).toNatClampNeg) by decide) C dX8_init_83 ?_
  refine s_name (fun h18 eh18 => ?_)
  have H := H h18 eh18
  refine s_dup (pc := 84) C dX8_init_84 rfl ?_
  refine s_iconst (pc := 85) C dX8_init_85 (x := (1 : Int32)) (by decide) ?_
  refine s_bipush (pc := 86) C dX8_init_86 (x := (101 : Int32)) (by decide) ?_
  refine s_iast (pc := 88) (show ¬ ((1 : Int32) < 0 ∨ 57 ≤ (1 : Int32).toNatClampNeg) by decide) C dX8_init_88 ?_
  refine s_name (fun h19 eh19 => ?_)
  have H := H h19 eh19
  refine s_dup (pc := 89) C dX8_init_89 rfl ?_
  refine s_iconst (pc := 90) C dX8_init_90 (x := (2 : Int32)) (by decide) ?_
  refine s_bipush (pc := 91) C dX8_init_91 (x := (109 : Int32)) (by decide) ?_
  refine s_iast (pc := 93) (show ¬ ((2 : Int32) < 0 ∨ 57 ≤ (2 : Int32).toNatClampNeg) by decide) C dX8_init_93 ?_
  refine s_name (fun h20 eh20 => ?_)
  have H := H h20 eh20
  refine s_dup (pc := 94) C dX8_init_94 rfl ?_
  refine s_iconst (pc := 95) C dX8_init_95 (x := (3 : Int32)) (by decide) ?_
  refine s_bipush (pc := 96) C dX8_init_96 (x := (98 : Int32)) (by decide) ?_
  refine s_iast (pc := 98) (show ¬ ((3 : Int32) < 0 ∨ 57 ≤ (3 : Int32).toNatClampNeg) by decide) C dX8_init_98 ?_
  refine s_name (fun h21 eh21 => ?_)
  have H := H h21 eh21
  refine s_dup (pc := 99) C dX8_init_99 rfl ?_
  refine s_iconst (pc := 100) C dX8_init_100 (x := (4 : Int32)) (by decide) ?_
  refine s_bipush (pc := 101) C dX8_init_101 (x := (101 : Int32)) (by decide) ?_
  refine s_iast (pc := 103) (show ¬ ((4 : Int32) < 0 ∨ 57 ≤ (4 : Int32).toNatClampNeg) by decide) C dX8_init_103 ?_
  refine s_name (fun h22 eh22 => ?_)
  have H := H h22 eh22
  refine s_dup (pc := 104) C dX8_init_104 rfl ?_
  refine s_iconst (pc := 105) C dX8_init_105 (x := (5 : Int32)) (by decide) ?_
  refine s_bipush (pc := 106) C dX8_init_106 (x := (114 : Int32)) (by decide) ?_
  refine s_iast (pc := 108) (show ¬ ((5 : Int32) < 0 ∨ 57 ≤ (5 : Int32).toNatClampNeg) by decide) C dX8_init_108 ?_
  refine s_name (fun h23 eh23 => ?_)
  have H := H h23 eh23
  refine s_dup (pc := 109) C dX8_init_109 rfl ?_
  refine s_bipush (pc := 110) C dX8_init_110 (x := (6 : Int32)) (by decide) ?_
  refine s_bipush (pc := 112) C dX8_init_112 (x := (32 : Int32)) (by decide) ?_
  refine s_iast (pc := 114) (show ¬ ((6 : Int32) < 0 ∨ 57 ≤ (6 : Int32).toNatClampNeg) by decide) C dX8_init_114 ?_
  refine s_name (fun h24 eh24 => ?_)
  have H := H h24 eh24
  refine s_dup (pc := 115) C dX8_init_115 rfl ?_
  refine s_bipush (pc := 116) C dX8_init_116 (x := (7 : Int32)) (by decide) ?_
  refine s_bipush (pc := 118) C dX8_init_118 (x := (119 : Int32)) (by decide) ?_
  refine s_iast (pc := 120) (show ¬ ((7 : Int32) < 0 ∨ 57 ≤ (7 : Int32).toNatClampNeg) by decide) C dX8_init_120 ?_
  refine s_name (fun h25 eh25 => ?_)
  have H := H h25 eh25
  refine s_dup (pc := 121) C dX8_init_121 rfl ?_
  refine s_bipush (pc := 122) C dX8_init_122 (x := (8 : Int32)) (by decide) ?_
  refine s_bipush (pc := 124) C dX8_init_124 (x := (105 : Int32)) (by decide) ?_
  refine s_iast (pc := 126) (show ¬ ((8 : Int32) < 0 ∨ 57 ≤ (8 : Int32).toNatClampNeg) by decide) C dX8_init_126 ?_
  refine s_name (fun h26 eh26 => ?_)
  have H := H h26 eh26
  refine s_dup (pc := 127) C dX8_init_127 rfl ?_
  refine s_bipush (pc := 128) C dX8_init_128 (x := (9 : Int32)) (by decide) ?_
  refine s_bipush (pc := 130) C dX8_init_130 (x := (110 : Int32)) (by decide) ?_
  refine s_iast (pc := 132) (show ¬ ((9 : Int32) < 0 ∨ 57 ≤ (9 : Int32).toNatClampNeg) by decide) C dX8_init_132 ?_
  refine s_name (fun h27 eh27 => ?_)
  have H := H h27 eh27
  refine s_dup (pc := 133) C dX8_init_133 rfl ?_
  refine s_bipush (pc := 134) C dX8_init_134 (x := (10 : Int32)) (by decide) ?_
  refine s_bipush (pc := 136) C dX8_init_136 (x := (100 : Int32)) (by decide) ?_
  refine s_iast (pc := 138) (show ¬ ((10 : Int32) < 0 ∨ 57 ≤ (10 : Int32).toNatClampNeg) by decide) C dX8_init_138 ?_
  refine s_name (fun h28 eh28 => ?_)
  have H := H h28 eh28
  refine s_dup (pc := 139) C dX8_init_139 rfl ?_
  refine s_bipush (pc := 140) C dX8_init_140 (x := (11 : Int32)) (by decide) ?_
  refine s_bipush (pc := 142) C dX8_init_142 (x := (32 : Int32)) (by decide) ?_
  refine s_iast (pc := 144) (show ¬ ((11 : Int32) < 0 ∨ 57 ≤ (11 : Int32).toNatClampNeg) by decide) C dX8_init_144 ?_
  refine s_name (fun h29 eh29 => ?_)
  have H := H h29 eh29
  refine s_dup (pc := 145) C dX8_init_145 rfl ?_
  refine s_bipush (pc := 146) C dX8_init_146 (x := (12 : Int32)) (by decide) ?_
  refine s_bipush (pc := 148) C dX8_init_148 (x := (115 : Int32)) (by decide) ?_
  refine s_iast (pc := 150) (show ¬ ((12 : Int32) < 0 ∨ 57 ≤ (12 : Int32).toNatClampNeg) by decide) C dX8_init_150 ?_
  refine s_name (fun h30 eh30 => ?_)
  have H := H h30 eh30
  refine s_dup (pc := 151) C dX8_init_151 rfl ?_
  refine s_bipush (pc := 152) C dX8_init_152 (x := (13 : Int32)) (by decide) ?_
  refine s_bipush (pc := 154) C dX8_init_154 (x := (104 : Int32)) (by decide) ?_
  refine s_iast (pc := 156) (show ¬ ((13 : Int32) < 0 ∨ 57 ≤ (13 : Int32).toNatClampNeg) by decide) C dX8_init_156 ?_
  refine s_name (fun h31 eh31 => ?_)
  have H := H h31 eh31
  refine s_dup (pc := 157) C dX8_init_157 rfl ?_
  refine s_bipush (pc := 158) C dX8_init_158 (x := (14 : Int32)) (by decide) ?_
  refine s_bipush (pc := 160) C dX8_init_160 (x := (105 : Int32)) (by decide) ?_
  refine s_iast (pc := 162) (show ¬ ((14 : Int32) < 0 ∨ 57 ≤ (14 : Int32).toNatClampNeg) by decide) C dX8_init_162 ?_
  refine s_name (fun h32 eh32 => ?_)
  have H := H h32 eh32
  refine s_dup (pc := 163) C dX8_init_163 rfl ?_
  refine s_bipush (pc := 164) C dX8_init_164 (x := (15 : Int32)) (by decide) ?_
  refine s_bipush (pc := 166) C dX8_init_166 (x := (102 : Int32)) (by decide) ?_
  refine s_iast (pc := 168) (show ¬ ((15 : Int32) < 0 ∨ 57 ≤ (15 : Int32).toNatClampNeg) by decide) C dX8_init_168 ?_
  refine s_name (fun h33 eh33 => ?_)
  have H := H h33 eh33
  refine s_dup (pc := 169) C dX8_init_169 rfl ?_
  refine s_bipush (pc := 170) C dX8_init_170 (x := (16 : Int32)) (by decide) ?_
  refine s_bipush (pc := 172) C dX8_init_172 (x := (116 : Int32)) (by decide) ?_
  refine s_iast (pc := 174) (show ¬ ((16 : Int32) < 0 ∨ 57 ≤ (16 : Int32).toNatClampNeg) by decide) C dX8_init_174 ?_
  refine s_name (fun h34 eh34 => ?_)
  have H := H h34 eh34
  refine s_dup (pc := 175) C dX8_init_175 rfl ?_
  refine s_bipush (pc := 176) C dX8_init_176 (x := (17 : Int32)) (by decide) ?_
  refine s_bipush (pc := 178) C dX8_init_178 (x := (32 : Int32)) (by decide) ?_
  refine s_iast (pc := 180) (show ¬ ((17 : Int32) < 0 ∨ 57 ≤ (17 : Int32).toNatClampNeg) by decide) C dX8_init_180 ?_
  refine s_name (fun h35 eh35 => ?_)
  have H := H h35 eh35
  refine s_dup (pc := 181) C dX8_init_181 rfl ?_
  refine s_bipush (pc := 182) C dX8_init_182 (x := (18 : Int32)) (by decide) ?_
  refine s_bipush (pc := 184) C dX8_init_184 (x := (118 : Int32)) (by decide) ?_
  refine s_iast (pc := 186) (show ¬ ((18 : Int32) < 0 ∨ 57 ≤ (18 : Int32).toNatClampNeg) by decide) C dX8_init_186 ?_
  refine s_name (fun h36 eh36 => ?_)
  have H := H h36 eh36
  refine s_dup (pc := 187) C dX8_init_187 rfl ?_
  refine s_bipush (pc := 188) C dX8_init_188 (x := (19 : Int32)) (by decide) ?_
  refine s_bipush (pc := 190) C dX8_init_190 (x := (111 : Int32)) (by decide) ?_
  refine s_iast (pc := 192) (show ¬ ((19 : Int32) < 0 ∨ 57 ≤ (19 : Int32).toNatClampNeg) by decide) C dX8_init_192 ?_
  refine s_name (fun h37 eh37 => ?_)
  have H := H h37 eh37
  refine s_dup (pc := 193) C dX8_init_193 rfl ?_
  refine s_bipush (pc := 194) C dX8_init_194 (x := (20 : Int32)) (by decide) ?_
  refine s_bipush (pc := 196) C dX8_init_196 (x := (116 : Int32)) (by decide) ?_
  refine s_iast (pc := 198) (show ¬ ((20 : Int32) < 0 ∨ 57 ≤ (20 : Int32).toNatClampNeg) by decide) C dX8_init_198 ?_
  refine s_name (fun h38 eh38 => ?_)
  have H := H h38 eh38
  refine s_dup (pc := 199) C dX8_init_199 rfl ?_
  refine s_bipush (pc := 200) C dX8_init_200 (x := (21 : Int32)) (by decide) ?_
  refine s_bipush (pc := 202) C dX8_init_202 (x := (101 : Int32)) (by decide) ?_
  refine s_iast (pc := 204) (show ¬ ((21 : Int32) < 0 ∨ 57 ≤ (21 : Int32).toNatClampNeg) by decide) C dX8_init_204 ?_
  refine s_name (fun h39 eh39 => ?_)
  have H := H h39 eh39
  refine s_dup (pc := 205) C dX8_init_205 rfl ?_
  refine s_bipush (pc := 206) C dX8_init_206 (x := (22 : Int32)) (by decide) ?_
  refine s_bipush (pc := 208) C dX8_init_208 (x := (32 : Int32)) (by decide) ?_
  refine s_iast (pc := 210) (show ¬ ((22 : Int32) < 0 ∨ 57 ≤ (22 : Int32).toNatClampNeg) by decide) C dX8_init_210 ?_
  refine s_name (fun h40 eh40 => ?_)
  have H := H h40 eh40
  refine s_dup (pc := 211) C dX8_init_211 rfl ?_
  refine s_bipush (pc := 212) C dX8_init_212 (x := (23 : Int32)) (by decide) ?_
  refine s_bipush (pc := 214) C dX8_init_214 (x := (115 : Int32)) (by decide) ?_
  refine s_iast (pc := 216) (show ¬ ((23 : Int32) < 0 ∨ 57 ≤ (23 : Int32).toNatClampNeg) by decide) C dX8_init_216 ?_
  refine s_name (fun h41 eh41 => ?_)
  have H := H h41 eh41
  refine s_dup (pc := 217) C dX8_init_217 rfl ?_
  refine s_bipush (pc := 218) C dX8_init_218 (x := (24 : Int32)) (by decide) ?_
  refine s_bipush (pc := 220) C dX8_init_220 (x := (116 : Int32)) (by decide) ?_
  refine s_iast (pc := 222) (show ¬ ((24 : Int32) < 0 ∨ 57 ≤ (24 : Int32).toNatClampNeg) by decide) C dX8_init_222 ?_
  refine s_name (fun h42 eh42 => ?_)
  have H := H h42 eh42
  refine s_dup (pc := 223) C dX8_init_223 rfl ?_
  refine s_bipush (pc := 224) C dX8_init_224 (x := (25 : Int32)) (by decide) ?_
  refine s_bipush (pc := 226) C dX8_init_226 (x := (114 : Int32)) (by decide) ?_
  refine s_iast (pc := 228) (show ¬ ((25 : Int32) < 0 ∨ 57 ≤ (25 : Int32).toNatClampNeg) by decide) C dX8_init_228 ?_
  refine s_name (fun h43 eh43 => ?_)
  have H := H h43 eh43
  refine s_dup (pc := 229) C dX8_init_229 rfl ?_
  refine s_bipush (pc := 230) C dX8_init_230 (x := (26 : Int32)) (by decide) ?_
  refine s_bipush (pc := 232) C dX8_init_232 (x := (105 : Int32)) (by decide) ?_
  refine s_iast (pc := 234) (show ¬ ((26 : Int32) < 0 ∨ 57 ≤ (26 : Int32).toNatClampNeg) by decide) C dX8_init_234 ?_
  refine s_name (fun h44 eh44 => ?_)
  have H := H h44 eh44
  refine s_dup (pc := 235) C dX8_init_235 rfl ?_
  refine s_bipush (pc := 236) C dX8_init_236 (x := (27 : Int32)) (by decide) ?_
  refine s_bipush (pc := 238) C dX8_init_238 (x := (107 : Int32)) (by decide) ?_
  refine s_iast (pc := 240) (show ¬ ((27 : Int32) < 0 ∨ 57 ≤ (27 : Int32).toNatClampNeg) by decide) C dX8_init_240 ?_
  refine s_name (fun h45 eh45 => ?_)
  have H := H h45 eh45
  refine s_dup (pc := 241) C dX8_init_241 rfl ?_
  refine s_bipush (pc := 242) C dX8_init_242 (x := (28 : Int32)) (by decide) ?_
  refine s_bipush (pc := 244) C dX8_init_244 (x := (101 : Int32)) (by decide) ?_
  refine s_iast (pc := 246) (show ¬ ((28 : Int32) < 0 ∨ 57 ≤ (28 : Int32).toNatClampNeg) by decide) C dX8_init_246 ?_
  refine s_name (fun h46 eh46 => ?_)
  have H := H h46 eh46
  refine s_dup (pc := 247) C dX8_init_247 rfl ?_
  refine s_bipush (pc := 248) C dX8_init_248 (x := (29 : Int32)) (by decide) ?_
  refine s_bipush (pc := 250) C dX8_init_250 (x := (112 : Int32)) (by decide) ?_
  refine s_iast (pc := 252) (show ¬ ((29 : Int32) < 0 ∨ 57 ≤ (29 : Int32).toNatClampNeg) by decide) C dX8_init_252 ?_
  refine s_name (fun h47 eh47 => ?_)
  have H := H h47 eh47
  refine s_dup (pc := 253) C dX8_init_253 rfl ?_
  refine s_bipush (pc := 254) C dX8_init_254 (x := (30 : Int32)) (by decide) ?_
  refine s_bipush (pc := 256) C dX8_init_256 (x := (97 : Int32)) (by decide) ?_
  refine s_iast (pc := 258) (show ¬ ((30 : Int32) < 0 ∨ 57 ≤ (30 : Int32).toNatClampNeg) by decide) C dX8_init_258 ?_
  refine s_name (fun h48 eh48 => ?_)
  have H := H h48 eh48
  refine s_dup (pc := 259) C dX8_init_259 rfl ?_
  refine s_bipush (pc := 260) C dX8_init_260 (x := (31 : Int32)) (by decide) ?_
  refine s_bipush (pc := 262) C dX8_init_262 (x := (121 : Int32)) (by decide) ?_
  refine s_iast (pc := 264) (show ¬ ((31 : Int32) < 0 ∨ 57 ≤ (31 : Int32).toNatClampNeg) by decide) C dX8_init_264 ?_
  refine s_name (fun h49 eh49 => ?_)
  have H := H h49 eh49
  refine s_dup (pc := 265) C dX8_init_265 rfl ?_
  refine s_bipush (pc := 266) C dX8_init_266 (x := (32 : Int32)) (by decide) ?_
  refine s_bipush (pc := 268) C dX8_init_268 (x := (32 : Int32)) (by decide) ?_
  refine s_iast (pc := 270) (show ¬ ((32 : Int32) < 0 ∨ 57 ≤ (32 : Int32).toNatClampNeg) by decide) C dX8_init_270 ?_
  refine s_name (fun h50 eh50 => ?_)
  have H := H h50 eh50
  refine s_dup (pc := 271) C dX8_init_271 rfl ?_
  refine s_bipush (pc := 272) C dX8_init_272 (x := (33 : Int32)) (by decide) ?_
  refine s_bipush (pc := 274) C dX8_init_274 (x := (112 : Int32)) (by decide) ?_
  refine s_iast (pc := 276) (show ¬ ((33 : Int32) < 0 ∨ 57 ≤ (33 : Int32).toNatClampNeg) by decide) C dX8_init_276 ?_
  refine s_name (fun h51 eh51 => ?_)
  have H := H h51 eh51
  refine s_dup (pc := 277) C dX8_init_277 rfl ?_
  refine s_bipush (pc := 278) C dX8_init_278 (x := (34 : Int32)) (by decide) ?_
  refine s_bipush (pc := 280) C dX8_init_280 (x := (105 : Int32)) (by decide) ?_
  refine s_iast (pc := 282) (show ¬ ((34 : Int32) < 0 ∨ 57 ≤ (34 : Int32).toNatClampNeg) by decide) C dX8_init_282 ?_
  refine s_name (fun h52 eh52 => ?_)
  have H := H h52 eh52
  refine s_dup (pc := 283) C dX8_init_283 rfl ?_
  refine s_bipush (pc := 284) C dX8_init_284 (x := (35 : Int32)) (by decide) ?_
  refine s_bipush (pc := 286) C dX8_init_286 (x := (99 : Int32)) (by decide) ?_
  refine s_iast (pc := 288) (show ¬ ((35 : Int32) < 0 ∨ 57 ≤ (35 : Int32).toNatClampNeg) by decide) C dX8_init_288 ?_
  refine s_name (fun h53 eh53 => ?_)
  have H := H h53 eh53
  refine s_dup (pc := 289) C dX8_init_289 rfl ?_
  refine s_bipush (pc := 290) C dX8_init_290 (x := (36 : Int32)) (by decide) ?_
  refine s_bipush (pc := 292) C dX8_init_292 (x := (107 : Int32)) (by decide) ?_
  refine s_iast (pc := 294) (show ¬ ((36 : Int32) < 0 ∨ 57 ≤ (36 : Int32).toNatClampNeg) by decide) C dX8_init_294 ?_
  refine s_name (fun h54 eh54 => ?_)
  have H := H h54 eh54
  refine s_dup (pc := 295) C dX8_init_295 rfl ?_
  refine s_bipush (pc := 296) C dX8_init_296 (x := (37 : Int32)) (by decide) ?_
  refine s_bipush (pc := 298) C dX8_init_298 (x := (101 : Int32)) (by decide) ?_
  refine s_iast (pc := 300) (show ¬ ((37 : Int32) < 0 ∨ 57 ≤ (37 : Int32).toNatClampNeg) by decide) C dX8_init_300 ?_
  refine s_name (fun h55 eh55 => ?_)
  have H := H h55 eh55
  refine s_dup (pc := 301) C dX8_init_301 rfl ?_
  refine s_bipush (pc := 302) C dX8_init_302 (x := (38 : Int32)) (by decide) ?_
  refine s_bipush (pc := 304) C dX8_init_304 (x := (116 : Int32)) (by decide) ?_
  refine s_iast (pc := 306) (show ¬ ((38 : Int32) < 0 ∨ 57 ≤ (38 : Int32).toNatClampNeg) by decide) C dX8_init_306 ?_
  refine s_name (fun h56 eh56 => ?_)
  have H := H h56 eh56
  refine s_dup (pc := 307) C dX8_init_307 rfl ?_
  refine s_bipush (pc := 308) C dX8_init_308 (x := (39 : Int32)) (by decide) ?_
  refine s_bipush (pc := 310) C dX8_init_310 (x := (32 : Int32)) (by decide) ?_
  refine s_iast (pc := 312) (show ¬ ((39 : Int32) < 0 ∨ 57 ≤ (39 : Int32).toNatClampNeg) by decide) C dX8_init_312 ?_
  refine s_name (fun h57 eh57 => ?_)
  have H := H h57 eh57
  refine s_dup (pc := 313) C dX8_init_313 rfl ?_
  refine s_bipush (pc := 314) C dX8_init_314 (x := (40 : Int32)) (by decide) ?_
  refine s_bipush (pc := 316) C dX8_init_316 (x := (111 : Int32)) (by decide) ?_
  refine s_iast (pc := 318) (show ¬ ((40 : Int32) < 0 ∨ 57 ≤ (40 : Int32).toNatClampNeg) by decide) C dX8_init_318 ?_
  refine s_name (fun h58 eh58 => ?_)
  have H := H h58 eh58
  refine s_dup (pc := 319) C dX8_init_319 rfl ?_
  refine s_bipush (pc := 320) C dX8_init_320 (x := (41 : Int32)) (by decide) ?_
  refine s_bipush (pc := 322) C dX8_init_322 (x := (102 : Int32)) (by decide) ?_
  refine s_iast (pc := 324) (show ¬ ((41 : Int32) < 0 ∨ 57 ≤ (41 : Int32).toNatClampNeg) by decide) C dX8_init_324 ?_
  refine s_name (fun h59 eh59 => ?_)
  have H := H h59 eh59
  refine s_dup (pc := 325) C dX8_init_325 rfl ?_
  refine s_bipush (pc := 326) C dX8_init_326 (x := (42 : Int32)) (by decide) ?_
  refine s_bipush (pc := 328) C dX8_init_328 (x := (102 : Int32)) (by decide) ?_
  refine s_iast (pc := 330) (show ¬ ((42 : Int32) < 0 ∨ 57 ≤ (42 : Int32).toNatClampNeg) by decide) C dX8_init_330 ?_
  refine s_name (fun h60 eh60 => ?_)
  have H := H h60 eh60
  refine s_dup (pc := 331) C dX8_init_331 rfl ?_
  refine s_bipush (pc := 332) C dX8_init_332 (x := (43 : Int32)) (by decide) ?_
  refine s_bipush (pc := 334) C dX8_init_334 (x := (32 : Int32)) (by decide) ?_
  refine s_iast (pc := 336) (show ¬ ((43 : Int32) < 0 ∨ 57 ≤ (43 : Int32).toNatClampNeg) by decide) C dX8_init_336 ?_
  refine s_name (fun h61 eh61 => ?_)
  have H := H h61 eh61
  refine s_dup (pc := 337) C dX8_init_337 rfl ?_
  refine s_bipush (pc := 338) C dX8_init_338 (x := (44 : Int32)) (by decide) ?_
  refine s_bipush (pc := 340) C dX8_init_340 (x := (111 : Int32)) (by decide) ?_
  refine s_iast (pc := 342) (show ¬ ((44 : Int32) < 0 ∨ 57 ≤ (44 : Int32).toNatClampNeg) by decide) C dX8_init_342 ?_
  refine s_name (fun h62 eh62 => ?_)
  have H := H h62 eh62
  refine s_dup (pc := 343) C dX8_init_343 rfl ?_
  refine s_bipush (pc := 344) C dX8_init_344 (x := (45 : Int32)) (by decide) ?_
  refine s_bipush (pc := 346) C dX8_init_346 (x := (102 : Int32)) (by decide) ?_
  refine s_iast (pc := 348) (show ¬ ((45 : Int32) < 0 ∨ 57 ≤ (45 : Int32).toNatClampNeg) by decide) C dX8_init_348 ?_
  refine s_name (fun h63 eh63 => ?_)
  have H := H h63 eh63
  refine s_dup (pc := 349) C dX8_init_349 rfl ?_
  refine s_bipush (pc := 350) C dX8_init_350 (x := (46 : Int32)) (by decide) ?_
  refine s_bipush (pc := 352) C dX8_init_352 (x := (102 : Int32)) (by decide) ?_
  refine s_iast (pc := 354) (show ¬ ((46 : Int32) < 0 ∨ 57 ≤ (46 : Int32).toNatClampNeg) by decide) C dX8_init_354 ?_
  refine s_name (fun h64 eh64 => ?_)
  have H := H h64 eh64
  refine s_dup (pc := 355) C dX8_init_355 rfl ?_
  refine s_bipush (pc := 356) C dX8_init_356 (x := (47 : Int32)) (by decide) ?_
  refine s_bipush (pc := 358) C dX8_init_358 (x := (101 : Int32)) (by decide) ?_
  refine s_iast (pc := 360) (show ¬ ((47 : Int32) < 0 ∨ 57 ≤ (47 : Int32).toNatClampNeg) by decide) C dX8_init_360 ?_
  refine s_name (fun h65 eh65 => ?_)
  have H := H h65 eh65
  refine s_dup (pc := 361) C dX8_init_361 rfl ?_
  refine s_bipush (pc := 362) C dX8_init_362 (x := (48 : Int32)) (by decide) ?_
  refine s_bipush (pc := 364) C dX8_init_364 (x := (114 : Int32)) (by decide) ?_
  refine s_iast (pc := 366) (show ¬ ((48 : Int32) < 0 ∨ 57 ≤ (48 : Int32).toNatClampNeg) by decide) C dX8_init_366 ?_
  refine s_name (fun h66 eh66 => ?_)
  have H := H h66 eh66
  refine s_dup (pc := 367) C dX8_init_367 rfl ?_
  refine s_bipush (pc := 368) C dX8_init_368 (x := (49 : Int32)) (by decide) ?_
  refine s_bipush (pc := 370) C dX8_init_370 (x := (32 : Int32)) (by decide) ?_
  refine s_iast (pc := 372) (show ¬ ((49 : Int32) < 0 ∨ 57 ≤ (49 : Int32).toNatClampNeg) by decide) C dX8_init_372 ?_
  refine s_name (fun h67 eh67 => ?_)
  have H := H h67 eh67
  refine s_dup (pc := 373) C dX8_init_373 rfl ?_
  refine s_bipush (pc := 374) C dX8_init_374 (x := (50 : Int32)) (by decide) ?_
  refine s_bipush (pc := 376) C dX8_init_376 (x := (97 : Int32)) (by decide) ?_
  refine s_iast (pc := 378) (show ¬ ((50 : Int32) < 0 ∨ 57 ≤ (50 : Int32).toNatClampNeg) by decide) C dX8_init_378 ?_
  refine s_name (fun h68 eh68 => ?_)
  have H := H h68 eh68
  refine s_dup (pc := 379) C dX8_init_379 rfl ?_
  refine s_bipush (pc := 380) C dX8_init_380 (x := (51 : Int32)) (by decide) ?_
  refine s_bipush (pc := 382) C dX8_init_382 (x := (99 : Int32)) (by decide) ?_
  refine s_iast (pc := 384) (show ¬ ((51 : Int32) < 0 ∨ 57 ≤ (51 : Int32).toNatClampNeg) by decide) C dX8_init_384 ?_
  refine s_name (fun h69 eh69 => ?_)
  have H := H h69 eh69
  refine s_dup (pc := 385) C dX8_init_385 rfl ?_
  refine s_bipush (pc := 386) C dX8_init_386 (x := (52 : Int32)) (by decide) ?_
  refine s_bipush (pc := 388) C dX8_init_388 (x := (99 : Int32)) (by decide) ?_
  refine s_iast (pc := 390) (show ¬ ((52 : Int32) < 0 ∨ 57 ≤ (52 : Int32).toNatClampNeg) by decide) C dX8_init_390 ?_
  refine s_name (fun h70 eh70 => ?_)
  have H := H h70 eh70
  refine s_dup (pc := 391) C dX8_init_391 rfl ?_
  refine s_bipush (pc := 392) C dX8_init_392 (x := (53 : Int32)) (by decide) ?_
  refine s_bipush (pc := 394) C dX8_init_394 (x := (101 : Int32)) (by decide) ?_
  refine s_iast (pc := 396) (show ¬ ((53 : Int32) < 0 ∨ 57 ≤ (53 : Int32).toNatClampNeg) by decide) C dX8_init_396 ?_
  refine s_name (fun h71 eh71 => ?_)
  have H := H h71 eh71
  refine s_dup (pc := 397) C dX8_init_397 rfl ?_
  refine s_bipush (pc := 398) C dX8_init_398 (x := (54 : Int32)) (by decide) ?_
  refine s_bipush (pc := 400) C dX8_init_400 (x := (112 : Int32)) (by decide) ?_
  refine s_iast (pc := 402) (show ¬ ((54 : Int32) < 0 ∨ 57 ≤ (54 : Int32).toNatClampNeg) by decide) C dX8_init_402 ?_
  refine s_name (fun h72 eh72 => ?_)
  have H := H h72 eh72
  refine s_dup (pc := 403) C dX8_init_403 rfl ?_
  refine s_bipush (pc := 404) C dX8_init_404 (x := (55 : Int32)) (by decide) ?_
  refine s_bipush (pc := 406) C dX8_init_406 (x := (116 : Int32)) (by decide) ?_
  refine s_iast (pc := 408) (show ¬ ((55 : Int32) < 0 ∨ 57 ≤ (55 : Int32).toNatClampNeg) by decide) C dX8_init_408 ?_
  refine s_name (fun h73 eh73 => ?_)
  have H := H h73 eh73
  refine s_dup (pc := 409) C dX8_init_409 rfl ?_
  refine s_bipush (pc := 410) C dX8_init_410 (x := (56 : Int32)) (by decide) ?_
  refine s_bipush (pc := 412) C dX8_init_412 (x := (32 : Int32)) (by decide) ?_
  refine s_iast (pc := 414) (show ¬ ((56 : Int32) < 0 ∨ 57 ≤ (56 : Int32).toNatClampNeg) by decide) C dX8_init_414 ?_
  refine s_name (fun h74 eh74 => ?_)
  have H := H h74 eh74
  refine s_putr (pc := 415) (s := 12) (x := (1 : Int32)) (a := 13) (b := 7) (c' := 0) ckX8 (Or.inr rfl) (by decide) kw_1517 rfl (by decide) (Or.inl rfl) (by decide) (Or.inr ⟨rfl, rfl, rfl⟩) (fun _ => rfl) (fun _ => rfl) C dX8_init_415 ?_
  refine s_name (fun h75 eh75 => ?_)
  have H := H h75 eh75
  refine s_aload_n (pc := 418) C dX8_init_418 rfl 0 rfl ?_
  refine s_bipush (pc := 419) C dX8_init_419 (x := (11 : Int32)) (by decide) ?_
  refine s_newI (pc := 421) (i := 8) (j := 0) (N := 11) kw_1566 H.1 (by decide) (by decide) (fun _ => rfl) (by decide) ⟨by decide, by decide⟩ C dX8_init_421 ?_
  have H := H.2
  refine s_name (fun h76 eh76 => ?_)
  have H := H h76 eh76
  refine s_dup (pc := 423) C dX8_init_423 rfl ?_
  refine s_iconst (pc := 424) C dX8_init_424 (x := (0 : Int32)) (by decide) ?_
  refine s_iconst (pc := 425) C dX8_init_425 (x := (0 : Int32)) (by decide) ?_
  refine s_iast (pc := 426) (show ¬ ((0 : Int32) < 0 ∨ 11 ≤ (0 : Int32).toNatClampNeg) by decide) C dX8_init_426 ?_
  refine s_name (fun h77 eh77 => ?_)
  have H := H h77 eh77
  refine s_dup (pc := 427) C dX8_init_427 rfl ?_
  refine s_iconst (pc := 428) C dX8_init_428 (x := (1 : Int32)) (by decide) ?_
  refine s_bipush (pc := 429) C dX8_init_429 (x := (7 : Int32)) (by decide) ?_
  refine s_iast (pc := 431) (show ¬ ((1 : Int32) < 0 ∨ 11 ≤ (1 : Int32).toNatClampNeg) by decide) C dX8_init_431 ?_
  refine s_name (fun h78 eh78 => ?_)
  have H := H h78 eh78
  refine s_dup (pc := 432) C dX8_init_432 rfl ?_
  refine s_iconst (pc := 433) C dX8_init_433 (x := (2 : Int32)) (by decide) ?_
  refine s_bipush (pc := 434) C dX8_init_434 (x := (12 : Int32)) (by decide) ?_
  refine s_iast (pc := 436) (show ¬ ((2 : Int32) < 0 ∨ 11 ≤ (2 : Int32).toNatClampNeg) by decide) C dX8_init_436 ?_
  refine s_name (fun h79 eh79 => ?_)
  have H := H h79 eh79
  refine s_dup (pc := 437) C dX8_init_437 rfl ?_
  refine s_iconst (pc := 438) C dX8_init_438 (x := (3 : Int32)) (by decide) ?_
  refine s_bipush (pc := 439) C dX8_init_439 (x := (18 : Int32)) (by decide) ?_
  refine s_iast (pc := 441) (show ¬ ((3 : Int32) < 0 ∨ 11 ≤ (3 : Int32).toNatClampNeg) by decide) C dX8_init_441 ?_
  refine s_name (fun h80 eh80 => ?_)
  have H := H h80 eh80
  refine s_dup (pc := 442) C dX8_init_442 rfl ?_
  refine s_iconst (pc := 443) C dX8_init_443 (x := (4 : Int32)) (by decide) ?_
  refine s_bipush (pc := 444) C dX8_init_444 (x := (23 : Int32)) (by decide) ?_
  refine s_iast (pc := 446) (show ¬ ((4 : Int32) < 0 ∨ 11 ≤ (4 : Int32).toNatClampNeg) by decide) C dX8_init_446 ?_
  refine s_name (fun h81 eh81 => ?_)
  have H := H h81 eh81
  refine s_dup (pc := 447) C dX8_init_447 rfl ?_
  refine s_iconst (pc := 448) C dX8_init_448 (x := (5 : Int32)) (by decide) ?_
  refine s_bipush (pc := 449) C dX8_init_449 (x := (29 : Int32)) (by decide) ?_
  refine s_iast (pc := 451) (show ¬ ((5 : Int32) < 0 ∨ 11 ≤ (5 : Int32).toNatClampNeg) by decide) C dX8_init_451 ?_
  refine s_name (fun h82 eh82 => ?_)
  have H := H h82 eh82
  refine s_dup (pc := 452) C dX8_init_452 rfl ?_
  refine s_bipush (pc := 453) C dX8_init_453 (x := (6 : Int32)) (by decide) ?_
  refine s_bipush (pc := 455) C dX8_init_455 (x := (33 : Int32)) (by decide) ?_
  refine s_iast (pc := 457) (show ¬ ((6 : Int32) < 0 ∨ 11 ≤ (6 : Int32).toNatClampNeg) by decide) C dX8_init_457 ?_
  refine s_name (fun h83 eh83 => ?_)
  have H := H h83 eh83
  refine s_dup (pc := 458) C dX8_init_458 rfl ?_
  refine s_bipush (pc := 459) C dX8_init_459 (x := (7 : Int32)) (by decide) ?_
  refine s_bipush (pc := 461) C dX8_init_461 (x := (40 : Int32)) (by decide) ?_
  refine s_iast (pc := 463) (show ¬ ((7 : Int32) < 0 ∨ 11 ≤ (7 : Int32).toNatClampNeg) by decide) C dX8_init_463 ?_
  refine s_name (fun h84 eh84 => ?_)
  have H := H h84 eh84
  refine s_dup (pc := 464) C dX8_init_464 rfl ?_
  refine s_bipush (pc := 465) C dX8_init_465 (x := (8 : Int32)) (by decide) ?_
  refine s_bipush (pc := 467) C dX8_init_467 (x := (44 : Int32)) (by decide) ?_
  refine s_iast (pc := 469) (show ¬ ((8 : Int32) < 0 ∨ 11 ≤ (8 : Int32).toNatClampNeg) by decide) C dX8_init_469 ?_
  refine s_name (fun h85 eh85 => ?_)
  have H := H h85 eh85
  refine s_dup (pc := 470) C dX8_init_470 rfl ?_
  refine s_bipush (pc := 471) C dX8_init_471 (x := (9 : Int32)) (by decide) ?_
  refine s_bipush (pc := 473) C dX8_init_473 (x := (50 : Int32)) (by decide) ?_
  refine s_iast (pc := 475) (show ¬ ((9 : Int32) < 0 ∨ 11 ≤ (9 : Int32).toNatClampNeg) by decide) C dX8_init_475 ?_
  refine s_name (fun h86 eh86 => ?_)
  have H := H h86 eh86
  refine s_dup (pc := 476) C dX8_init_476 rfl ?_
  refine s_bipush (pc := 477) C dX8_init_477 (x := (10 : Int32)) (by decide) ?_
  refine s_bipush (pc := 479) C dX8_init_479 (x := (57 : Int32)) (by decide) ?_
  refine s_iast (pc := 481) (show ¬ ((10 : Int32) < 0 ∨ 11 ≤ (10 : Int32).toNatClampNeg) by decide) C dX8_init_481 ?_
  refine s_name (fun h87 eh87 => ?_)
  have H := H h87 eh87
  refine s_putr (pc := 482) (s := 13) (x := (1 : Int32)) (a := 13) (b := 8) (c' := 0) ckX8 (Or.inr rfl) (by decide) kw_1518 rfl (by decide) (Or.inl rfl) (by decide) (Or.inr ⟨rfl, rfl, rfl⟩) (fun _ => rfl) (fun _ => rfl) C dX8_init_482 ?_
  refine s_name (fun h88 eh88 => ?_)
  have H := H h88 eh88
  refine s_sealS (Y := y_) (kk := 5) (i := 0) (j := 0) (by decide) H.1 ?_
  have H := H.2
  refine s_name (fun h89 eh89 => ?_)
  have H := H h89 eh89
  exact s_vret (pc := 485) rfl ⟨by decide, by decide⟩ H C dX8_init_485
theorem ctX8_init (l : Launch) (hl : l.stackTraces = false) {G : g_G} (h : g_Hp) (Q : g_R → g_Hp → Prop) (H : wX8_init h Q) : g_Met l y_ G iX8_init [vR 45 0 0] h Q :=
  g_Met_of hl (by decide +kernel) rfl rfl (Nat.le_of_ble_eq_true rfl) (fun X C => vX8_init C h H)
/-! X8_thrown -/
abbrev iX8_thrown : g_I := (RX8, yX8_thrown, cX8_thrown, 1, (some .int), [], { frames := 1, cells := 0, slots := 0, locals := 20 })
set_option maxRecDepth 100000 in
set_option maxHeartbeats 4000000 in
theorem vX8_thrown {G : g_G} {X : g_X} {Q : g_R → g_Hp → Prop} (C : g_Cx y_ G X iX8_thrown) (h : g_Hp) (H : wX8_thrown h Q) : g_V G X iX8_thrown 0 0 Q 0 0 0 [(0, vR 5 0 0)] [] h := by
  refine s_aload_n (pc := 0) C dX8_thrown_0 rfl 0 rfl ?_
  refine s_geti (pc := 1) (s := 0) ckX8 (Or.inl rfl) (by decide) kw_1505 (fun _ => rfl) C dX8_thrown_1 ?_
  exact s_iret (pc := 4) rfl rfl ⟨by decide, by decide⟩ H C dX8_thrown_4
theorem ctX8_thrown (l : Launch) (hl : l.stackTraces = false) {G : g_G} (h : g_Hp) (Q : g_R → g_Hp → Prop) (H : wX8_thrown h Q) : g_Met l y_ G iX8_thrown [vR 5 0 0] h Q :=
  g_Met_of hl (by decide +kernel) rfl rfl (Nat.le_of_ble_eq_true rfl) (fun X C => vX8_thrown C h H)
/-! X8_fail -/
abbrev iX8_fail : g_I := (RX8, yX8_fail, cX8_fail, 2, (some .int), [], { frames := 1, cells := 0, slots := 0, locals := 20 })
set_option maxRecDepth 100000 in
set_option maxHeartbeats 4000000 in
theorem vX8_fail {G : g_G} {X : g_X} {Q : g_R → g_Hp → Prop} (C : g_Cx y_ G X iX8_fail) (p0 : Int32) (h : g_Hp) (H : wX8_fail p0 h Q) : g_V G X iX8_fail 0 0 Q 0 0 0 [(0, vR 5 0 0), (1, vI p0)] [] h := by
  refine s_aload_n (pc := 0) C dX8_fail_0 rfl 0 rfl ?_
  refine s_iload_n (pc := 1) C dX8_fail_1 rfl 1 rfl ?_
  refine s_puti (pc := 2) (s := 0) ckX8 (Or.inl rfl) (by decide) kw_1505 (fun _ => rfl) rfl rfl rfl C dX8_fail_2 ?_
  refine s_name (fun h1 eh1 => ?_)
  have H := H h1 eh1
  refine s_iconst (pc := 5) C dX8_fail_5 (x := (0 : Int32)) (by decide) ?_
  exact s_iret (pc := 6) rfl rfl ⟨by decide, by decide⟩ H C dX8_fail_6
theorem ctX8_fail (l : Launch) (hl : l.stackTraces = false) {G : g_G} (p0 : Int32) (h : g_Hp) (Q : g_R → g_Hp → Prop) (H : wX8_fail p0 h Q) : g_Met l y_ G iX8_fail [vR 5 0 0, vI p0] h Q :=
  g_Met_of hl (by decide +kernel) rfl rfl (Nat.le_of_ble_eq_true rfl) (fun X C => vX8_fail C p0 h H)
/-! X8_isIn -/
abbrev iX8_isIn : g_I := (RX8, yX8_isIn, cX8_isIn, 3, (some .boolean), [], { frames := 1, cells := 0, slots := 0, locals := 20 })
set_option maxRecDepth 100000 in
set_option maxHeartbeats 4000000 in
theorem vX8_isIn_b15 {G : g_G} {X : g_X} {Q : g_R → g_Hp → Prop} (C : g_Cx y_ G X iX8_isIn) (z0 : Int32) (h : g_Hp) (H : wX8_isIn_b15 Q z0 h) : g_V G X iX8_isIn 0 0 Q 15 0 0 [] [vI z0] h := by
  exact s_iret (pc := 15) rfl (g_nz H.1) ⟨by decide, by decide⟩ H.2 C dX8_isIn_15
set_option maxRecDepth 100000 in
set_option maxHeartbeats 4000000 in
theorem vX8_isIn_b14 {G : g_G} {X : g_X} {Q : g_R → g_Hp → Prop} (C : g_Cx y_ G X iX8_isIn) (h : g_Hp) (H : wX8_isIn_b14 Q h) : g_V G X iX8_isIn 0 0 Q 14 0 0 [] [] h := by
  refine s_iconst (pc := 14) C dX8_isIn_14 (x := (0 : Int32)) (by decide) ?_
  exact s_sub (ls' := []) [] rfl (vX8_isIn_b15 C (0 : Int32) h H)
set_option maxRecDepth 100000 in
set_option maxHeartbeats 4000000 in
theorem vX8_isIn {G : g_G} {X : g_X} {Q : g_R → g_Hp → Prop} (C : g_Cx y_ G X iX8_isIn) (p0 : Int32) (p1 : Int32) (p2 : Int32) (h : g_Hp) (H : wX8_isIn p0 p1 p2 h Q) : g_V G X iX8_isIn 0 0 Q 0 0 0 [(0, vI p0), (1, vI p1), (2, vI p2)] [] h := by
  refine s_iload_n (pc := 0) C dX8_isIn_0 rfl 0 rfl ?_
  refine s_iload_n (pc := 1) C dX8_isIn_1 rfl 1 rfl ?_
  refine s_icmp_lt (pc := 2) (tgt := 14) C dX8_isIn_2 (by decide) (fun c => ?_) (fun c => ?_)
  · have H := H.1 c
    exact s_sub (ls' := []) [] rfl (vX8_isIn_b14 C  h H)
  · have H := H.2 c
    refine s_iload_n (pc := 5) C dX8_isIn_5 rfl 0 rfl ?_
    refine s_iload_n (pc := 6) C dX8_isIn_6 rfl 2 rfl ?_
    refine s_icmp_gt (pc := 7) (tgt := 14) C dX8_isIn_7 (by decide) (fun c => ?_) (fun c => ?_)
    · have H := H.1 c
      exact s_sub (ls' := []) [] rfl (vX8_isIn_b14 C  h H)
    · have H := H.2 c
      refine s_iconst (pc := 10) C dX8_isIn_10 (x := (1 : Int32)) (by decide) ?_
      refine s_goto (pc := 11) (tgt := 15) C dX8_isIn_11 (by decide) ?_
      exact s_sub (ls' := []) [] rfl (vX8_isIn_b15 C (1 : Int32) h H)
theorem ctX8_isIn (l : Launch) (hl : l.stackTraces = false) {G : g_G} (p0 : Int32) (p1 : Int32) (p2 : Int32) (h : g_Hp) (Q : g_R → g_Hp → Prop) (H : wX8_isIn p0 p1 p2 h Q) : g_Met l y_ G iX8_isIn [vI p0, vI p1, vI p2] h Q :=
  g_Met_of hl (by decide +kernel) rfl rfl (Nat.le_of_ble_eq_true rfl) (fun X C => vX8_isIn C p0 p1 p2 h H)
/-! X8_lays -/
abbrev iX8_lays : g_I := (RX8, yX8_lays, cX8_lays, 3, none, [], { frames := 1, cells := 0, slots := 0, locals := 20 })
set_option maxRecDepth 100000 in
set_option maxHeartbeats 4000000 in
theorem vX8_lays_b2_B {G : g_G} {X : g_X} {Q : g_R → g_Hp → Prop} (C : g_Cx y_ G X iX8_lays) (a0i : Nat) (a1i : Nat) (R2 : Int32 → g_Hp → Prop) (hR2 : ∀ (x2 : Int32) (h : g_Hp), R2 x2 h → g_V G X iX8_lays 0 0 Q 2 0 0 [(0, vR 13 a0i 0), (1, vR 13 a1i 0), (2, vI x2)] [] h) (x2 : Int32) (h : g_Hp) (H : wX8_lays_b2_B a0i a1i Q R2 x2 h) : g_V G X iX8_lays 0 0 Q 2 0 0 [(0, vR 13 a0i 0), (1, vR 13 a1i 0), (2, vI x2)] [] h := by
  refine s_iload_n (pc := 2) C dX8_lays_2 rfl 2 rfl ?_
  refine s_sipush (pc := 3) C dX8_lays_3 (x := (169 : Int32)) (by decide) ?_
  refine s_icmp_ge (pc := 6) (tgt := 21) C dX8_lays_6 (by decide) (fun c => ?_) (fun c => ?_)
  · have H := H.1 c
    exact s_vret (pc := 21) rfl ⟨by decide, by decide⟩ H C dX8_lays_21
  · have H := H.2 c
    refine s_aload_n (pc := 9) C dX8_lays_9 rfl 0 rfl ?_
    refine s_iload_n (pc := 10) C dX8_lays_10 rfl 2 rfl ?_
    refine s_aload_n (pc := 11) C dX8_lays_11 rfl 1 rfl ?_
    refine s_iload_n (pc := 12) C dX8_lays_12 rfl 2 rfl ?_
    refine s_iald (pc := 13) H.1 C dX8_lays_13 ?_
    have H := H.2
    refine s_iast (pc := 14) H.1 C dX8_lays_14 ?_
    have H := H.2
    refine s_name (fun h1 eh1 => ?_)
    have H := H h1 eh1
    refine s_iincN (pc := 15) C dX8_lays_15 2 rfl (z' := (1 : Int32)) (by decide) (by decide) (fun y2 ey2 => ?_)
    have H := H y2 ey2
    show g_V _ _ _ _ _ _ _ _ _ [(2, vI y2), (0, vR 13 a0i 0), (1, vR 13 a1i 0)] _ _
    refine s_goto (pc := 18) (tgt := 2) C dX8_lays_18 (by decide) ?_
    exact s_sub (ls' := [(0, vR 13 a0i 0), (1, vR 13 a1i 0), (2, vI y2)]) [1, 2, 0] rfl (hR2 y2 h1 H)
theorem vX8_lays_b2 {G : g_G} {X : g_X} {Q : g_R → g_Hp → Prop} (C : g_Cx y_ G X iX8_lays) (a0i : Nat) (a1i : Nat) (x2 : Int32) (h : g_Hp) (H : wX8_lays_b2 a0i a1i Q x2 h) : g_V G X iX8_lays 0 0 Q 2 0 0 [(0, vR 13 a0i 0), (1, vR 13 a1i 0), (2, vI x2)] [] h := by
  obtain ⟨n, H⟩ := H
  induction n generalizing x2 h with
  | zero => exact H.elim
  | succ n ih => exact vX8_lays_b2_B C a0i a1i _ (fun x2 h H => ih x2 h H) x2 h H
set_option maxRecDepth 100000 in
set_option maxHeartbeats 4000000 in
theorem vX8_lays {G : g_G} {X : g_X} {Q : g_R → g_Hp → Prop} (C : g_Cx y_ G X iX8_lays) (a0i : Nat) (a1i : Nat) (h : g_Hp) (H : wX8_lays a0i a1i h Q) : g_V G X iX8_lays 0 0 Q 0 0 0 [(0, vR 13 a0i 0), (1, vR 13 a1i 0)] [] h := by
  refine s_iconst (pc := 0) C dX8_lays_0 (x := (0 : Int32)) (by decide) ?_
  refine s_istore_n (pc := 1) (ls' := [(2, vI (0 : Int32)), (0, vR 13 a0i 0), (1, vR 13 a1i 0)]) C dX8_lays_1 rfl (by decide) rfl ?_
  exact s_sub (ls' := [(0, vR 13 a0i 0), (1, vR 13 a1i 0), (2, vI (0 : Int32))]) [1, 2, 0] rfl (vX8_lays_b2 C a0i a1i (0 : Int32) h H)
theorem ctX8_lays (l : Launch) (hl : l.stackTraces = false) {G : g_G} (a0i : Nat) (a1i : Nat) (h : g_Hp) (Q : g_R → g_Hp → Prop) (H : wX8_lays a0i a1i h Q) : g_Met l y_ G iX8_lays [vR 13 a0i 0, vR 13 a1i 0] h Q :=
  g_Met_of hl (by decide +kernel) rfl rfl (Nat.le_of_ble_eq_true rfl) (fun X C => vX8_lays C a0i a1i h H)
/-! X8_begins -/
abbrev iX8_begins : g_I := (RX8, yX8_begins, cX8_begins, 1, none, [], { frames := 2, cells := 0, slots := 0, locals := 42 })
set_option maxRecDepth 100000 in
set_option maxHeartbeats 4000000 in
theorem vX8_begins {G : g_G} {X : g_X} {Q : g_R → g_Hp → Prop} (C : g_Cx y_ G X iX8_begins) (h : g_Hp) (H : wX8_begins h Q) : g_V G X iX8_begins 0 0 Q 0 0 0 [(0, vR 5 0 0)] [] h := by
  refine s_aload_n (pc := 0) C dX8_begins_0 rfl 0 rfl ?_
  refine s_iconst (pc := 1) C dX8_begins_1 (x := (0 : Int32)) (by decide) ?_
  refine s_puti (pc := 2) (s := 0) ckX8 (Or.inl rfl) (by decide) kw_1505 (fun _ => rfl) rfl rfl rfl C dX8_begins_2 ?_
  refine s_name (fun h1 eh1 => ?_)
  have H := H h1 eh1
  refine s_aload_n (pc := 5) C dX8_begins_5 rfl 0 rfl ?_
  refine s_getr (pc := 6) (s := 6) (a := 13) (b := 1) (c' := 0) ckX8 (by decide) kw_1511 rfl C dX8_begins_6 ?_
  refine s_aload_n (pc := 9) C dX8_begins_9 rfl 0 rfl ?_
  refine s_getr (pc := 10) (s := 5) (a := 13) (b := 0) (c' := 0) ckX8 (by decide) kw_1510 rfl C dX8_begins_10 ?_
  refine s_calls (pc := 13) (nA := 2) (as := [vR 13 1 0, vR 13 0 0]) (st := []) (stk := [vR 13 0 0, vR 13 1 0]) C (fun l hl => ctX8_lays l hl 1 0 _ _ H) ⟨⟨kw_1579, kw_69, kw_1581⟩, rfl, ⟨by decide, by decide, by decide +kernel⟩, by decide, by decide⟩ kw_1580 rfl (Nat.le_of_ble_eq_true rfl) ⟨by decide, by decide⟩ rfl dX8_begins_13 (g_Kq_V (fun h2 H => ?_) (fun E h2 H => s_prop rfl ⟨by decide, by decide⟩ H C))
  exact s_vret (pc := 16) rfl ⟨by decide, by decide⟩ H C dX8_begins_16
theorem ctX8_begins (l : Launch) (hl : l.stackTraces = false) {G : g_G} (h : g_Hp) (Q : g_R → g_Hp → Prop) (H : wX8_begins h Q) : g_Met l y_ G iX8_begins [vR 5 0 0] h Q :=
  g_Met_of hl (by decide +kernel) rfl rfl (Nat.le_of_ble_eq_true rfl) (fun X C => vX8_begins C h H)
