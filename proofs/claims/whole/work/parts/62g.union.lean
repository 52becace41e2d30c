/-! X3_isAt -/
abbrev iX3_isAt : g_I := (RX3, yX3_isAt, cX3_isAt, 3, (some .boolean), [], { frames := 5, cells := 0, slots := 0, locals := 108 })
set_option maxRecDepth 100000 in
set_option maxHeartbeats 4000000 in
theorem vX3_isAt_b32 {G : g_G} {X : g_X} {Q : g_R → g_Hp → Prop} (C : g_Cx y_ G X iX3_isAt) (z0 : Int32) (h : g_Hp) (H : wX3_isAt_b32 Q z0 h) : g_V G X iX3_isAt 0 0 Q 32 0 0 [] [vI z0] h := by
  exact s_iret (pc := 32) rfl (g_nz H.1) ⟨by decide, by decide⟩ H.2 C dX3_isAt_32
set_option maxRecDepth 100000 in
set_option maxHeartbeats 4000000 in
theorem vX3_isAt_b31 {G : g_G} {X : g_X} {Q : g_R → g_Hp → Prop} (C : g_Cx y_ G X iX3_isAt) (h : g_Hp) (H : wX3_isAt_b31 Q h) : g_V G X iX3_isAt 0 0 Q 31 0 0 [] [] h := by
  refine s_iconst (pc := 31) C dX3_isAt_31 (x := (0 : Int32)) (by decide) ?_
  exact s_sub (ls' := []) [] rfl (vX3_isAt_b32 C (0 : Int32) h H)
set_option maxRecDepth 100000 in
set_option maxHeartbeats 4000000 in
theorem vX3_isAt {G : g_G} {X : g_X} {Q : g_R → g_Hp → Prop} (C : g_Cx y_ G X iX3_isAt) (p0 : Int32) (p1 : Int32) (h : g_Hp) (H : wX3_isAt p0 p1 h Q) : g_V G X iX3_isAt 0 0 Q 0 0 0 [(0, vR 3 0 0), (1, vI p0), (2, vI p1)] [] h := by
  refine s_iload_n (pc := 0) C dX3_isAt_0 rfl 1 rfl ?_
  refine s_if_lt (pc := 1) (tgt := 31) C dX3_isAt_1 (by decide) (fun c => ?_) (fun c => ?_)
  · have H := H.1 c
    exact s_sub (ls' := []) [] rfl (vX3_isAt_b31 C  h H)
  · have H := H.2 c
    refine s_iload_n (pc := 4) C dX3_isAt_4 rfl 1 rfl ?_
    refine s_aload_n (pc := 5) C dX3_isAt_5 rfl 0 rfl ?_
    refine s_getr (pc := 6) (s := 0) (a := 6) (b := 0) (c' := 0) ckX3 (by decide) kw_281 rfl C dX3_isAt_6 ?_
    refine s_callv (pc := 9) (nA := 0) (as := []) (st := [vI p0]) (stk := [vR 6 0 0, vI p0]) ckJ4 (Or.inl rfl) C (fun l hl => ctJ4_length_8abf5 l hl 0 0 _ _ H) ⟨⟨kw_1205, kw_63, kw_1051⟩, rfl, ⟨by decide, by decide, by decide +kernel⟩, by decide, by decide⟩ kw_1049 (g_selW kw_1050) rfl (Nat.le_of_ble_eq_true rfl) ⟨by decide, by decide⟩ rfl dX3_isAt_9 (g_Kq_I (fun u2 h1 H => ?_) (fun E h1 H => s_prop rfl ⟨by decide, by decide⟩ H C))
    refine s_icmp_ge (pc := 12) (tgt := 31) C dX3_isAt_12 (by decide) (fun c => ?_) (fun c => ?_)
    · have H := H.1 c
      exact s_sub (ls' := []) [] rfl (vX3_isAt_b31 C  h1 H)
    · have H := H.2 c
      refine s_aload_n (pc := 15) C dX3_isAt_15 rfl 0 rfl ?_
      refine s_getr (pc := 16) (s := 0) (a := 6) (b := 0) (c' := 0) ckX3 (by decide) kw_281 rfl C dX3_isAt_16 ?_
      refine s_iload_n (pc := 19) C dX3_isAt_19 rfl 1 rfl ?_
      refine s_callv (pc := 20) (nA := 1) (as := [vI p0]) (st := []) (stk := [vI p0, vR 6 0 0]) ckJ4 (Or.inl rfl) C (fun l hl => ctJ4_charAt_5068e l hl 0 0 p0 _ _ H) ⟨⟨kw_1206, kw_63, kw_1209⟩, rfl, ⟨by decide, by decide, by decide +kernel⟩, by decide, by decide⟩ kw_1207 (g_selW kw_1208) rfl (Nat.le_of_ble_eq_true rfl) ⟨by decide, by decide⟩ rfl dX3_isAt_20 (g_Kq_I (fun u4 h3 H => ?_) (fun E h3 H => s_prop rfl ⟨by decide, by decide⟩ H C))
      refine s_iload_n (pc := 23) C dX3_isAt_23 rfl 2 rfl ?_
      refine s_icmp_ne (pc := 24) (tgt := 31) C dX3_isAt_24 (by decide) (fun c => ?_) (fun c => ?_)
      · have H := H.1 c
        exact s_sub (ls' := []) [] rfl (vX3_isAt_b31 C  h3 H)
      · have H := H.2 c
        refine s_iconst (pc := 27) C dX3_isAt_27 (x := (1 : Int32)) (by decide) ?_
        refine s_goto (pc := 28) (tgt := 32) C dX3_isAt_28 (by decide) ?_
        exact s_sub (ls' := []) [] rfl (vX3_isAt_b32 C (1 : Int32) h3 H)
theorem ctX3_isAt (l : Launch) (hl : l.stackTraces = false) {G : g_G} (p0 : Int32) (p1 : Int32) (h : g_Hp) (Q : g_R → g_Hp → Prop) (H : wX3_isAt p0 p1 h Q) : g_Met l y_ G iX3_isAt [vR 3 0 0, vI p0, vI p1] h Q :=
  g_Met_of hl (by decide +kernel) rfl rfl (Nat.le_of_ble_eq_true rfl) (fun X C => vX3_isAt C p0 p1 h H)
/-! X3_commonLength -/
abbrev iX3_commonLength : g_I := (RX3, yX3_commonLength, cX3_commonLength, 3, (some .int), [], { frames := 6, cells := 0, slots := 0, locals := 130 })
set_option maxRecDepth 100000 in
set_option maxHeartbeats 4000000 in
theorem vX3_commonLength_b34 {G : g_G} {X : g_X} {Q : g_R → g_Hp → Prop} (C : g_Cx y_ G X iX3_commonLength) (a0i : Nat) (a0j : Nat) (x2 : Int32) (h : g_Hp) (H : wX3_commonLength_b34 a0i a0j Q x2 h) : g_V G X iX3_commonLength 0 0 Q 34 0 0 [(2, vI x2)] [] h := by
  refine s_iload_n (pc := 34) C dX3_commonLength_34 rfl 0 rfl ?_
  exact s_iret (pc := 35) rfl rfl ⟨by decide, by decide⟩ H C dX3_commonLength_35
set_option maxRecDepth 100000 in
set_option maxHeartbeats 4000000 in
theorem vX3_commonLength_b2_B {G : g_G} {X : g_X} {Q : g_R → g_Hp → Prop} (C : g_Cx y_ G X iX3_commonLength) (a0i : Nat) (a0j : Nat) (R2 : Int32 → g_Hp → Prop) (hR2 : ∀ (x2 : Int32) (h : g_Hp), R2 x2 h → g_V G X iX3_commonLength 0 0 Q 2 0 0 [(0, vR 3 0 0), (1, vR 24 a0i a0j), (2, vI x2)] [] h) (x2 : Int32) (h : g_Hp) (H : wX3_commonLength_b2_B a0i a0j Q R2 x2 h) : g_V G X iX3_commonLength 0 0 Q 2 0 0 [(0, vR 3 0 0), (1, vR 24 a0i a0j), (2, vI x2)] [] h := by
  refine s_iload_n (pc := 2) C dX3_commonLength_2 rfl 2 rfl ?_
  refine s_aload_n (pc := 3) C dX3_commonLength_3 rfl 1 rfl ?_
  refine s_callc (pc := 4) (nA := 0) (as := []) (st := [vI x2]) (stk := [vR 24 a0i a0j, vI x2]) (os_str H.1) (by decide) C (fun l hl => ctJ0_length_8abf5 l hl a0i a0j _ _ H.2) ⟨⟨kw_1174, kw_64, kw_1177⟩, rfl, ⟨by decide, by decide, by decide +kernel⟩, by decide, by decide⟩ kw_1175 kw_1176 rfl (Nat.le_of_ble_eq_true rfl) ⟨by decide, by decide⟩ rfl dX3_commonLength_4 (g_Kq_I (fun u2 h1 H => ?_) (fun E h1 H => s_prop rfl ⟨by decide, by decide⟩ H C))
  refine s_icmp_ge (pc := 7) (tgt := 34) C dX3_commonLength_7 (by decide) (fun c => ?_) (fun c => ?_)
  · have H := H.1 c
    exact s_sub (ls' := [(2, vI x2)]) [2] rfl (vX3_commonLength_b34 C a0i a0j x2 h1 H)
  · have H := H.2 c
    refine s_aload_n (pc := 10) C dX3_commonLength_10 rfl 0 rfl ?_
    refine s_aload_n (pc := 11) C dX3_commonLength_11 rfl 0 rfl ?_
    refine s_geti (pc := 12) (s := 3) ckX3 (Or.inl rfl) (by decide) kw_287 (fun _ => rfl) C dX3_commonLength_12 ?_
    refine s_iload_n (pc := 15) C dX3_commonLength_15 rfl 2 rfl ?_
    refine s_iadd (pc := 16) C dX3_commonLength_16 ?_
    refine s_aload_n (pc := 17) C dX3_commonLength_17 rfl 1 rfl ?_
    refine s_iload_n (pc := 18) C dX3_commonLength_18 rfl 2 rfl ?_
    refine s_callc (pc := 19) (nA := 1) (as := [vI x2]) (st := [vI ((h1 3 0 0 4) + x2), vR 3 0 0]) (stk := [vI x2, vR 24 a0i a0j, vI ((h1 3 0 0 4) + x2), vR 3 0 0]) (os_str H.1) (by decide) C (fun l hl => ctJ0_charAt_5068e l hl a0i a0j x2 _ _ H.2) ⟨⟨kw_1183, kw_64, kw_1186⟩, rfl, ⟨by decide, by decide, by decide +kernel⟩, by decide, by decide⟩ kw_1184 kw_1185 rfl (Nat.le_of_ble_eq_true rfl) ⟨by decide, by decide⟩ rfl dX3_commonLength_19 (g_Kq_I (fun u4 h3 H => ?_) (fun E h3 H => s_prop rfl ⟨by decide, by decide⟩ H C))
    refine s_callv (pc := 22) (nA := 2) (as := [vI ((h1 3 0 0 4) + x2), vI u4]) (st := []) (stk := [vI u4, vI ((h1 3 0 0 4) + x2), vR 3 0 0]) ckX3 (Or.inl rfl) C (fun l hl => ctX3_isAt l hl ((h1 3 0 0 4) + x2) u4 _ _ H) ⟨⟨kw_1201, kw_61, kw_1204⟩, rfl, ⟨by decide, by decide, by decide +kernel⟩, by decide, by decide⟩ kw_1203 (g_selW kw_14) rfl (Nat.le_of_ble_eq_true rfl) ⟨by decide, by decide⟩ rfl dX3_commonLength_22 (g_Kq_I (fun u6 h5 H => ?_) (fun E h5 H => s_prop rfl ⟨by decide, by decide⟩ H C))
    refine s_if_eq (pc := 25) (tgt := 34) C dX3_commonLength_25 (by decide) (fun c => ?_) (fun c => ?_)
    · have H := H.1 c
      exact s_sub (ls' := [(2, vI x2)]) [2] rfl (vX3_commonLength_b34 C a0i a0j x2 h5 H)
    · have H := H.2 c
      refine s_iincN (pc := 28) C dX3_commonLength_28 2 rfl (z' := (1 : Int32)) (by decide) (by decide) (fun y7 ey7 => ?_)
      have H := H y7 ey7
      show g_V _ _ _ _ _ _ _ _ _ [(2, vI y7), (0, vR 3 0 0), (1, vR 24 a0i a0j)] _ _
      refine s_goto (pc := 31) (tgt := 2) C dX3_commonLength_31 (by decide) ?_
      exact s_sub (ls' := [(0, vR 3 0 0), (1, vR 24 a0i a0j), (2, vI y7)]) [1, 2, 0] rfl (hR2 y7 h5 H)
theorem vX3_commonLength_b2 {G : g_G} {X : g_X} {Q : g_R → g_Hp → Prop} (C : g_Cx y_ G X iX3_commonLength) (a0i : Nat) (a0j : Nat) (x2 : Int32) (h : g_Hp) (H : wX3_commonLength_b2 a0i a0j Q x2 h) : g_V G X iX3_commonLength 0 0 Q 2 0 0 [(0, vR 3 0 0), (1, vR 24 a0i a0j), (2, vI x2)] [] h := by
  obtain ⟨n, H⟩ := H
  induction n generalizing x2 h with
  | zero => exact H.elim
  | succ n ih => exact vX3_commonLength_b2_B C a0i a0j _ (fun x2 h H => ih x2 h H) x2 h H
set_option maxRecDepth 100000 in
set_option maxHeartbeats 4000000 in
theorem vX3_commonLength {G : g_G} {X : g_X} {Q : g_R → g_Hp → Prop} (C : g_Cx y_ G X iX3_commonLength) (a0i : Nat) (a0j : Nat) (h : g_Hp) (H : wX3_commonLength a0i a0j h Q) : g_V G X iX3_commonLength 0 0 Q 0 0 0 [(0, vR 3 0 0), (1, vR 24 a0i a0j)] [] h := by
  refine s_iconst (pc := 0) C dX3_commonLength_0 (x := (0 : Int32)) (by decide) ?_
  refine s_istore_n (pc := 1) (ls' := [(2, vI (0 : Int32)), (0, vR 3 0 0), (1, vR 24 a0i a0j)]) C dX3_commonLength_1 rfl (by decide) rfl ?_
  exact s_sub (ls' := [(0, vR 3 0 0), (1, vR 24 a0i a0j), (2, vI (0 : Int32))]) [1, 2, 0] rfl (vX3_commonLength_b2 C a0i a0j (0 : Int32) h H)
theorem ctX3_commonLength (l : Launch) (hl : l.stackTraces = false) {G : g_G} (a0i : Nat) (a0j : Nat) (h : g_Hp) (Q : g_R → g_Hp → Prop) (H : wX3_commonLength a0i a0j h Q) : g_Met l y_ G iX3_commonLength [vR 3 0 0, vR 24 a0i a0j] h Q :=
  g_Met_of hl (by decide +kernel) rfl rfl (Nat.le_of_ble_eq_true rfl) (fun X C => vX3_commonLength C a0i a0j h H)
/-! X3_readKeyword -/
abbrev iX3_readKeyword : g_I := (RX3, yX3_readKeyword, cX3_readKeyword, 7, (some (.object "VaneUnion$Keyword")), [], { frames := 7, cells := 0, slots := 0, locals := 152 })
set_option maxRecDepth 100000 in
set_option maxHeartbeats 4000000 in
theorem vX3_readKeyword_b12_B {G : g_G} {X : g_X} {Q : g_R → g_Hp → Prop} (C : g_Cx y_ G X iX3_readKeyword) (R12 : Int32 → Int32 → g_Hp → Prop) (hR12 : ∀ (x1 : Int32) (x4 : Int32) (h : g_Hp), R12 x1 x4 h → g_V G X iX3_readKeyword 0 0 Q 12 0 0 [(0, vR 3 0 0), (1, vI x1), (2, vR 22 0 0), (3, vI (10 : Int32)), (4, vI x4)] [] h) (x1 : Int32) (x4 : Int32) (h : g_Hp) (H : wX3_readKeyword_b12_B Q R12 x1 x4 h) : g_V G X iX3_readKeyword 0 0 Q 12 0 0 [(0, vR 3 0 0), (1, vI x1), (2, vR 22 0 0), (3, vI (10 : Int32)), (4, vI x4)] [] h := by
  refine s_iload (pc := 12) C dX3_readKeyword_12 4 rfl ?_
  refine s_iload_n (pc := 14) C dX3_readKeyword_14 rfl 3 rfl ?_
  refine s_icmp_ge (pc := 15) (tgt := 75) C dX3_readKeyword_15 (by decide) (fun c => ?_) (fun c => ?_)
  · have H := H.1 c
    refine s_aload_n (pc := 75) C dX3_readKeyword_75 rfl 0 rfl ?_
    refine s_dup (pc := 76) C dX3_readKeyword_76 rfl ?_
    refine s_geti (pc := 77) (s := 3) ckX3 (Or.inl rfl) (by decide) kw_287 (fun _ => rfl) C dX3_readKeyword_77 ?_
    refine s_iload_n (pc := 80) C dX3_readKeyword_80 rfl 1 rfl ?_
    refine s_iadd (pc := 81) C dX3_readKeyword_81 ?_
    refine s_puti (pc := 82) (s := 3) ckX3 (Or.inl rfl) (by decide) kw_287 (fun _ => rfl) rfl rfl rfl C dX3_readKeyword_82 ?_
    refine s_name (fun h1 eh1 => ?_)
    have H := H h1 eh1
    refine s_null (pc := 85) C dX3_readKeyword_85 ?_
    exact s_aretN (pc := 86) rfl (Or.inl ⟨_, rfl⟩) ⟨by decide, by decide⟩ H C dX3_readKeyword_86
  · have H := H.2 c
    refine s_aload_n (pc := 18) C dX3_readKeyword_18 rfl 2 rfl ?_
    refine s_iload (pc := 19) C dX3_readKeyword_19 4 rfl ?_
    refine s_aaldkw (pc := 21) H.1 C dX3_readKeyword_21 ?_
    have H := H.2
    refine s_nmi (fun i2 ei2 => ?_)
    have H := H i2 ei2
    refine s_astore (pc := 22) (ls' := [(5, vR 21 i2 0), (0, vR 3 0 0), (1, vI x1), (2, vR 22 0 0), (3, vI (10 : Int32)), (4, vI x4)]) C dX3_readKeyword_22 (by decide) rfl ?_
    refine s_aload_n (pc := 24) C dX3_readKeyword_24 rfl 1 rfl ?_
    refine s_aload (pc := 25) C dX3_readKeyword_25 0 rfl ?_
    refine s_getc (pc := 27) (by decide) (fs_word H.1) (g_cst_R rfl) kw_1995 C dX3_readKeyword_27 ?_
    have H := H.2
    refine s_callv (pc := 30) (nA := 1) (as := [vR 24 i2 0]) (st := []) (stk := [vR 24 i2 0, vR 3 0 0]) ckX3 (Or.inl rfl) C (fun l hl => ctX3_commonLength l hl i2 0 _ _ H) ⟨⟨kw_1170, kw_61, kw_1173⟩, rfl, ⟨by decide, by decide, by decide +kernel⟩, by decide, by decide⟩ kw_1172 (g_selW kw_13) rfl (Nat.le_of_ble_eq_true rfl) ⟨by decide, by decide⟩ rfl dX3_readKeyword_30 (g_Kq_I (fun u4 h3 H => ?_) (fun E h3 H => s_prop rfl ⟨by decide, by decide⟩ H C))
    refine s_istore (pc := 33) (ls' := [(6, vI u4), (5, vR 21 i2 0), (0, vR 3 0 0), (1, vI x1), (2, vR 22 0 0), (3, vI (10 : Int32)), (4, vI x4)]) C dX3_readKeyword_33 (by decide) rfl ?_
    refine s_iload (pc := 35) C dX3_readKeyword_35 0 rfl ?_
    refine s_aload (pc := 37) C dX3_readKeyword_37 1 rfl ?_
    refine s_getc (pc := 39) (by decide) (fs_word H.1) (g_cst_R rfl) kw_1995 C dX3_readKeyword_39 ?_
    have H := H.2
    refine s_callc (pc := 42) (nA := 0) (as := []) (st := [vI u4]) (stk := [vR 24 i2 0, vI u4]) (os_str H.1) (by decide) C (fun l hl => ctJ0_length_8abf5 l hl i2 0 _ _ H.2) ⟨⟨kw_1174, kw_64, kw_1177⟩, rfl, ⟨by decide, by decide, by decide +kernel⟩, by decide, by decide⟩ kw_1175 kw_1176 rfl (Nat.le_of_ble_eq_true rfl) ⟨by decide, by decide⟩ rfl dX3_readKeyword_42 (g_Kq_I (fun u6 h5 H => ?_) (fun E h5 H => s_prop rfl ⟨by decide, by decide⟩ H C))
    refine s_icmp_ne (pc := 45) (tgt := 62) C dX3_readKeyword_45 (by decide) (fun c => ?_) (fun c => ?_)
    · have H := H.1 c
      refine s_iload_n (pc := 62) C dX3_readKeyword_62 rfl 3 rfl ?_
      refine s_iload (pc := 63) C dX3_readKeyword_63 0 rfl ?_
      refine s_calls (pc := 65) (nA := 2) (as := [vI x1, vI u4]) (st := []) (stk := [vI u4, vI x1]) C (fun l hl => ctJ9_max_7cf53 l hl x1 u4 _ _ H) ⟨⟨kw_1216, kw_81, kw_1076⟩, rfl, ⟨by decide, by decide, by decide +kernel⟩, by decide, by decide⟩ kw_1075 rfl (Nat.le_of_ble_eq_true rfl) ⟨by decide, by decide⟩ rfl dX3_readKeyword_65 (g_Kq_I (fun u8 h7 H => ?_) (fun E h7 H => s_prop rfl ⟨by decide, by decide⟩ H C))
      refine s_istore_n (pc := 68) (ls' := [(1, vI u8), (6, vI u4), (5, vR 21 i2 0), (0, vR 3 0 0), (2, vR 22 0 0), (3, vI (10 : Int32)), (4, vI x4)]) C dX3_readKeyword_68 rfl (by decide) rfl ?_
      refine s_iincN (pc := 69) C dX3_readKeyword_69 6 rfl (z' := (1 : Int32)) (by decide) (by decide) (fun y9 ey9 => ?_)
      have H := H y9 ey9
      show g_V _ _ _ _ _ _ _ _ _ [(4, vI y9), (1, vI u8), (6, vI u4), (5, vR 21 i2 0), (0, vR 3 0 0), (2, vR 22 0 0), (3, vI (10 : Int32))] _ _
      refine s_goto (pc := 72) (tgt := 12) C dX3_readKeyword_72 (by decide) ?_
      exact s_sub (ls' := [(0, vR 3 0 0), (1, vI u8), (2, vR 22 0 0), (3, vI (10 : Int32)), (4, vI y9)]) [4, 1, 5, 6, 0] rfl (hR12 u8 y9 h7 H)
    · have H := H.2 c
      refine s_aload_n (pc := 48) C dX3_readKeyword_48 rfl 2 rfl ?_
      refine s_dup (pc := 49) C dX3_readKeyword_49 rfl ?_
      refine s_geti (pc := 50) (s := 3) ckX3 (Or.inl rfl) (by decide) kw_287 (fun _ => rfl) C dX3_readKeyword_50 ?_
      refine s_iload (pc := 53) C dX3_readKeyword_53 0 rfl ?_
      refine s_iadd (pc := 55) C dX3_readKeyword_55 ?_
      refine s_puti (pc := 56) (s := 3) ckX3 (Or.inl rfl) (by decide) kw_287 (fun _ => rfl) rfl rfl rfl C dX3_readKeyword_56 ?_
      refine s_name (fun h10 eh10 => ?_)
      have H := H h10 eh10
      refine s_aload (pc := 59) C dX3_readKeyword_59 1 rfl ?_
      exact s_aret (pc := 61) rfl (Or.inl ⟨_, rfl⟩) ⟨by decide, by decide⟩ H C dX3_readKeyword_61
theorem vX3_readKeyword_b12 {G : g_G} {X : g_X} {Q : g_R → g_Hp → Prop} (C : g_Cx y_ G X iX3_readKeyword) (x1 : Int32) (x4 : Int32) (h : g_Hp) (H : wX3_readKeyword_b12 Q x1 x4 h) : g_V G X iX3_readKeyword 0 0 Q 12 0 0 [(0, vR 3 0 0), (1, vI x1), (2, vR 22 0 0), (3, vI (10 : Int32)), (4, vI x4)] [] h := by
  obtain ⟨n, H⟩ := H
  induction n generalizing x1 x4 h with
  | zero => exact H.elim
  | succ n ih => exact vX3_readKeyword_b12_B C _ (fun x1 x4 h H => ih x1 x4 h H) x1 x4 h H
set_option maxRecDepth 100000 in
set_option maxHeartbeats 4000000 in
theorem vX3_readKeyword {G : g_G} {X : g_X} {Q : g_R → g_Hp → Prop} (C : g_Cx y_ G X iX3_readKeyword) (h : g_Hp) (H : wX3_readKeyword h Q) : g_V G X iX3_readKeyword 0 0 Q 0 0 0 [(0, vR 3 0 0)] [] h := by
  refine s_iconst (pc := 0) C dX3_readKeyword_0 (x := (0 : Int32)) (by decide) ?_
  refine s_istore_n (pc := 1) (ls' := [(1, vI (0 : Int32)), (0, vR 3 0 0)]) C dX3_readKeyword_1 rfl (by decide) rfl ?_
  refine s_getsN (pc := 2) zs_KEYWORDS ⟨rfl, rfl, rfl, rfl, rfl⟩ (g_cst_R rfl) C dX3_readKeyword_2 ?_
  refine s_astore_n (pc := 5) (ls' := [(2, vR 22 0 0), (1, vI (0 : Int32)), (0, vR 3 0 0)]) C dX3_readKeyword_5 rfl (by decide) rfl ?_
  refine s_aload_n (pc := 6) C dX3_readKeyword_6 rfl 0 rfl ?_
  refine s_alenkw (pc := 7) C dX3_readKeyword_7 ?_
  refine s_istore_n (pc := 8) (ls' := [(3, vI (10 : Int32)), (2, vR 22 0 0), (1, vI (0 : Int32)), (0, vR 3 0 0)]) C dX3_readKeyword_8 rfl (by decide) rfl ?_
  refine s_iconst (pc := 9) C dX3_readKeyword_9 (x := (0 : Int32)) (by decide) ?_
  refine s_istore (pc := 10) (ls' := [(4, vI (0 : Int32)), (3, vI (10 : Int32)), (2, vR 22 0 0), (1, vI (0 : Int32)), (0, vR 3 0 0)]) C dX3_readKeyword_10 (by decide) rfl ?_
  exact s_sub (ls' := [(0, vR 3 0 0), (1, vI (0 : Int32)), (2, vR 22 0 0), (3, vI (10 : Int32)), (4, vI (0 : Int32))]) [4, 3, 2, 1, 0] rfl (vX3_readKeyword_b12 C (0 : Int32) (0 : Int32) h H)
theorem ctX3_readKeyword (l : Launch) (hl : l.stackTraces = false) {G : g_G} (h : g_Hp) (Q : g_R → g_Hp → Prop) (H : wX3_readKeyword h Q) : g_Met l y_ G iX3_readKeyword [vR 3 0 0] h Q :=
  g_Met_of hl (by decide +kernel) rfl rfl (Nat.le_of_ble_eq_true rfl) (fun X C => vX3_readKeyword C h H)
/-! X3_digitAt -/
abbrev iX3_digitAt : g_I := (RX3, yX3_digitAt, cX3_digitAt, 3, (some .int), [], { frames := 5, cells := 0, slots := 0, locals := 108 })
set_option maxRecDepth 100000 in
set_option maxHeartbeats 4000000 in
theorem vX3_digitAt_b15 {G : g_G} {X : g_X} {Q : g_R → g_Hp → Prop} (C : g_Cx y_ G X iX3_digitAt) (h : g_Hp) (H : wX3_digitAt_b15 Q h) : g_V G X iX3_digitAt 0 0 Q 15 0 0 [] [] h := by
  refine s_iconst (pc := 15) C dX3_digitAt_15 (x := (-1 : Int32)) (by decide) ?_
  exact s_iret (pc := 16) rfl rfl ⟨by decide, by decide⟩ H C dX3_digitAt_16
set_option maxRecDepth 100000 in
set_option maxHeartbeats 4000000 in
theorem vX3_digitAt_b46 {G : g_G} {X : g_X} {Q : g_R → g_Hp → Prop} (C : g_Cx y_ G X iX3_digitAt) (z0 : Int32) (h : g_Hp) (H : wX3_digitAt_b46 Q z0 h) : g_V G X iX3_digitAt 0 0 Q 46 0 0 [] [vI z0] h := by
  exact s_iret (pc := 46) rfl rfl ⟨by decide, by decide⟩ H C dX3_digitAt_46
set_option maxRecDepth 100000 in
set_option maxHeartbeats 4000000 in
theorem vX3_digitAt_b45 {G : g_G} {X : g_X} {Q : g_R → g_Hp → Prop} (C : g_Cx y_ G X iX3_digitAt) (h : g_Hp) (H : wX3_digitAt_b45 Q h) : g_V G X iX3_digitAt 0 0 Q 45 0 0 [] [] h := by
  refine s_iconst (pc := 45) C dX3_digitAt_45 (x := (-1 : Int32)) (by decide) ?_
  exact s_sub (ls' := []) [] rfl (vX3_digitAt_b46 C (-1 : Int32) h H)
set_option maxRecDepth 100000 in
set_option maxHeartbeats 4000000 in
theorem vX3_digitAt {G : g_G} {X : g_X} {Q : g_R → g_Hp → Prop} (C : g_Cx y_ G X iX3_digitAt) (p0 : Int32) (h : g_Hp) (H : wX3_digitAt p0 h Q) : g_V G X iX3_digitAt 0 0 Q 0 0 0 [(0, vR 3 0 0), (1, vI p0)] [] h := by
  refine s_iload_n (pc := 0) C dX3_digitAt_0 rfl 1 rfl ?_
  refine s_if_lt (pc := 1) (tgt := 15) C dX3_digitAt_1 (by decide) (fun c => ?_) (fun c => ?_)
  · have H := H.1 c
    exact s_sub (ls' := []) [] rfl (vX3_digitAt_b15 C  h H)
  · have H := H.2 c
    refine s_iload_n (pc := 4) C dX3_digitAt_4 rfl 1 rfl ?_
    refine s_aload_n (pc := 5) C dX3_digitAt_5 rfl 0 rfl ?_
    refine s_getr (pc := 6) (s := 0) (a := 6) (b := 0) (c' := 0) ckX3 (by decide) kw_281 rfl C dX3_digitAt_6 ?_
    refine s_callv (pc := 9) (nA := 0) (as := []) (st := [vI p0]) (stk := [vR 6 0 0, vI p0]) ckJ4 (Or.inl rfl) C (fun l hl => ctJ4_length_8abf5 l hl 0 0 _ _ H) ⟨⟨kw_1205, kw_63, kw_1051⟩, rfl, ⟨by decide, by decide, by decide +kernel⟩, by decide, by decide⟩ kw_1049 (g_selW kw_1050) rfl (Nat.le_of_ble_eq_true rfl) ⟨by decide, by decide⟩ rfl dX3_digitAt_9 (g_Kq_I (fun u2 h1 H => ?_) (fun E h1 H => s_prop rfl ⟨by decide, by decide⟩ H C))
    refine s_icmp_lt (pc := 12) (tgt := 17) C dX3_digitAt_12 (by decide) (fun c => ?_) (fun c => ?_)
    · have H := H.1 c
      refine s_aload_n (pc := 17) C dX3_digitAt_17 rfl 0 rfl ?_
      refine s_getr (pc := 18) (s := 0) (a := 6) (b := 0) (c' := 0) ckX3 (by decide) kw_281 rfl C dX3_digitAt_18 ?_
      refine s_iload_n (pc := 21) C dX3_digitAt_21 rfl 1 rfl ?_
      refine s_callv (pc := 22) (nA := 1) (as := [vI p0]) (st := []) (stk := [vI p0, vR 6 0 0]) ckJ4 (Or.inl rfl) C (fun l hl => ctJ4_charAt_5068e l hl 0 0 p0 _ _ H) ⟨⟨kw_1206, kw_63, kw_1209⟩, rfl, ⟨by decide, by decide, by decide +kernel⟩, by decide, by decide⟩ kw_1207 (g_selW kw_1208) rfl (Nat.le_of_ble_eq_true rfl) ⟨by decide, by decide⟩ rfl dX3_digitAt_22 (g_Kq_I (fun u4 h3 H => ?_) (fun E h3 H => s_prop rfl ⟨by decide, by decide⟩ H C))
      refine s_istore_n (pc := 25) (ls' := [(2, vI u4), (0, vR 3 0 0), (1, vI p0)]) C dX3_digitAt_25 rfl (by decide) rfl ?_
      refine s_iload_n (pc := 26) C dX3_digitAt_26 rfl 0 rfl ?_
      refine s_bipush (pc := 27) C dX3_digitAt_27 (x := (48 : Int32)) (by decide) ?_
      refine s_icmp_lt (pc := 29) (tgt := 45) C dX3_digitAt_29 (by decide) (fun c => ?_) (fun c => ?_)
      · have H := H.1 c
        exact s_sub (ls' := []) [] rfl (vX3_digitAt_b45 C  h3 H)
      · have H := H.2 c
        refine s_iload_n (pc := 32) C dX3_digitAt_32 rfl 0 rfl ?_
        refine s_bipush (pc := 33) C dX3_digitAt_33 (x := (57 : Int32)) (by decide) ?_
        refine s_icmp_gt (pc := 35) (tgt := 45) C dX3_digitAt_35 (by decide) (fun c => ?_) (fun c => ?_)
        · have H := H.1 c
          exact s_sub (ls' := []) [] rfl (vX3_digitAt_b45 C  h3 H)
        · have H := H.2 c
          refine s_iload_n (pc := 38) C dX3_digitAt_38 rfl 0 rfl ?_
          refine s_bipush (pc := 39) C dX3_digitAt_39 (x := (48 : Int32)) (by decide) ?_
          refine s_isub (pc := 41) C dX3_digitAt_41 ?_
          refine s_goto (pc := 42) (tgt := 46) C dX3_digitAt_42 (by decide) ?_
          exact s_sub (ls' := []) [] rfl (vX3_digitAt_b46 C (u4 - (48 : Int32)) h3 H)
    · have H := H.2 c
      exact s_sub (ls' := []) [] rfl (vX3_digitAt_b15 C  h1 H)
theorem ctX3_digitAt (l : Launch) (hl : l.stackTraces = false) {G : g_G} (p0 : Int32) (h : g_Hp) (Q : g_R → g_Hp → Prop) (H : wX3_digitAt p0 h Q) : g_Met l y_ G iX3_digitAt [vR 3 0 0, vI p0] h Q :=
  g_Met_of hl (by decide +kernel) rfl rfl (Nat.le_of_ble_eq_true rfl) (fun X C => vX3_digitAt C p0 h H)
/-! X3_readDigit -/
abbrev iX3_readDigit : g_I := (RX3, yX3_readDigit, cX3_readDigit, 3, (some .boolean), [], { frames := 6, cells := 0, slots := 0, locals := 130 })
set_option maxRecDepth 100000 in
set_option maxHeartbeats 4000000 in
theorem vX3_readDigit {G : g_G} {X : g_X} {Q : g_R → g_Hp → Prop} (C : g_Cx y_ G X iX3_readDigit) (a0i : Nat) (h : g_Hp) (H : wX3_readDigit a0i h Q) : g_V G X iX3_readDigit 0 0 Q 0 0 0 [(0, vR 3 0 0), (1, vR 4 a0i 0)] [] h := by
  refine s_aload_n (pc := 0) C dX3_readDigit_0 rfl 0 rfl ?_
  refine s_aload_n (pc := 1) C dX3_readDigit_1 rfl 0 rfl ?_
  refine s_geti (pc := 2) (s := 3) ckX3 (Or.inl rfl) (by decide) kw_287 (fun _ => rfl) C dX3_readDigit_2 ?_
  refine s_callv (pc := 5) (nA := 1) (as := [vI (h 3 0 0 4)]) (st := []) (stk := [vI (h 3 0 0 4), vR 3 0 0]) ckX3 (Or.inl rfl) C (fun l hl => ctX3_digitAt l hl (h 3 0 0 4) _ _ H) ⟨⟨kw_1221, kw_61, kw_1224⟩, rfl, ⟨by decide, by decide, by decide +kernel⟩, by decide, by decide⟩ kw_1223 (g_selW kw_16) rfl (Nat.le_of_ble_eq_true rfl) ⟨by decide, by decide⟩ rfl dX3_readDigit_5 (g_Kq_I (fun u2 h1 H => ?_) (fun E h1 H => s_prop rfl ⟨by decide, by decide⟩ H C))
  refine s_istore_n (pc := 8) (ls' := [(2, vI u2), (0, vR 3 0 0), (1, vR 4 a0i 0)]) C dX3_readDigit_8 rfl (by decide) rfl ?_
  refine s_iload_n (pc := 9) C dX3_readDigit_9 rfl 0 rfl ?_
  refine s_iconst (pc := 10) C dX3_readDigit_10 (x := (-1 : Int32)) (by decide) ?_
  refine s_icmp_ne (pc := 11) (tgt := 16) C dX3_readDigit_11 (by decide) (fun c => ?_) (fun c => ?_)
  · have H := H.1 c
    refine s_aload_n (pc := 16) C dX3_readDigit_16 rfl 2 rfl ?_
    refine s_iload_n (pc := 17) C dX3_readDigit_17 rfl 0 rfl ?_
    refine s_puti (pc := 18) (s := 1) ckX2 (Or.inl rfl) (by decide) kw_266 (fun _ => rfl) rfl rfl rfl C dX3_readDigit_18 ?_
    refine s_name (fun h3 eh3 => ?_)
    have H := H h3 eh3
    refine s_aload_n (pc := 21) C dX3_readDigit_21 rfl 1 rfl ?_
    refine s_dup (pc := 22) C dX3_readDigit_22 rfl ?_
    refine s_geti (pc := 23) (s := 3) ckX3 (Or.inl rfl) (by decide) kw_287 (fun _ => rfl) C dX3_readDigit_23 ?_
    refine s_iconst (pc := 26) C dX3_readDigit_26 (x := (1 : Int32)) (by decide) ?_
    refine s_iadd (pc := 27) C dX3_readDigit_27 ?_
    refine s_puti (pc := 28) (s := 3) ckX3 (Or.inl rfl) (by decide) kw_287 (fun _ => rfl) rfl rfl rfl C dX3_readDigit_28 ?_
    refine s_name (fun h4 eh4 => ?_)
    have H := H h4 eh4
    refine s_iconst (pc := 31) C dX3_readDigit_31 (x := (1 : Int32)) (by decide) ?_
    exact s_iret (pc := 32) rfl (by decide) ⟨by decide, by decide⟩ H C dX3_readDigit_32
  · have H := H.2 c
    refine s_iconst (pc := 14) C dX3_readDigit_14 (x := (0 : Int32)) (by decide) ?_
    exact s_iret (pc := 15) rfl (by decide) ⟨by decide, by decide⟩ H C dX3_readDigit_15
theorem ctX3_readDigit (l : Launch) (hl : l.stackTraces = false) {G : g_G} (a0i : Nat) (h : g_Hp) (Q : g_R → g_Hp → Prop) (H : wX3_readDigit a0i h Q) : g_Met l y_ G iX3_readDigit [vR 3 0 0, vR 4 a0i 0] h Q :=
  g_Met_of hl (by decide +kernel) rfl rfl (Nat.le_of_ble_eq_true rfl) (fun X C => vX3_readDigit C a0i h H)
/-! X3_readSign -/
abbrev iX3_readSign : g_I := (RX3, yX3_readSign, cX3_readSign, 2, (some .boolean), [], { frames := 6, cells := 0, slots := 0, locals := 130 })
set_option maxRecDepth 100000 in
set_option maxHeartbeats 4000000 in
theorem vX3_readSign {G : g_G} {X : g_X} {Q : g_R → g_Hp → Prop} (C : g_Cx y_ G X iX3_readSign) (p0 : Int32) (h : g_Hp) (H : wX3_readSign p0 h Q) : g_V G X iX3_readSign 0 0 Q 0 0 0 [(0, vR 3 0 0), (1, vI p0)] [] h := by
  refine s_aload_n (pc := 0) C dX3_readSign_0 rfl 0 rfl ?_
  refine s_aload_n (pc := 1) C dX3_readSign_1 rfl 0 rfl ?_
  refine s_geti (pc := 2) (s := 3) ckX3 (Or.inl rfl) (by decide) kw_287 (fun _ => rfl) C dX3_readSign_2 ?_
  refine s_iload_n (pc := 5) C dX3_readSign_5 rfl 1 rfl ?_
  refine s_callv (pc := 6) (nA := 2) (as := [vI (h 3 0 0 4), vI p0]) (st := []) (stk := [vI p0, vI (h 3 0 0 4), vR 3 0 0]) ckX3 (Or.inl rfl) C (fun l hl => ctX3_isAt l hl (h 3 0 0 4) p0 _ _ H) ⟨⟨kw_1201, kw_61, kw_1204⟩, rfl, ⟨by decide, by decide, by decide +kernel⟩, by decide, by decide⟩ kw_1203 (g_selW kw_14) rfl (Nat.le_of_ble_eq_true rfl) ⟨by decide, by decide⟩ rfl dX3_readSign_6 (g_Kq_I (fun u2 h1 H => ?_) (fun E h1 H => s_prop rfl ⟨by decide, by decide⟩ H C))
  refine s_if_ne (pc := 9) (tgt := 14) C dX3_readSign_9 (by decide) (fun c => ?_) (fun c => ?_)
  · have H := H.1 c
    refine s_aload_n (pc := 14) C dX3_readSign_14 rfl 0 rfl ?_
    refine s_dup (pc := 15) C dX3_readSign_15 rfl ?_
    refine s_geti (pc := 16) (s := 3) ckX3 (Or.inl rfl) (by decide) kw_287 (fun _ => rfl) C dX3_readSign_16 ?_
    refine s_iconst (pc := 19) C dX3_readSign_19 (x := (1 : Int32)) (by decide) ?_
    refine s_iadd (pc := 20) C dX3_readSign_20 ?_
    refine s_puti (pc := 21) (s := 3) ckX3 (Or.inl rfl) (by decide) kw_287 (fun _ => rfl) rfl rfl rfl C dX3_readSign_21 ?_
    refine s_name (fun h3 eh3 => ?_)
    have H := H h3 eh3
    refine s_iconst (pc := 24) C dX3_readSign_24 (x := (1 : Int32)) (by decide) ?_
    exact s_iret (pc := 25) rfl (by decide) ⟨by decide, by decide⟩ H C dX3_readSign_25
  · have H := H.2 c
    refine s_iconst (pc := 12) C dX3_readSign_12 (x := (0 : Int32)) (by decide) ?_
    exact s_iret (pc := 13) rfl (by decide) ⟨by decide, by decide⟩ H C dX3_readSign_13
theorem ctX3_readSign (l : Launch) (hl : l.stackTraces = false) {G : g_G} (p0 : Int32) (h : g_Hp) (Q : g_R → g_Hp → Prop) (H : wX3_readSign p0 h Q) : g_Met l y_ G iX3_readSign [vR 3 0 0, vI p0] h Q :=
  g_Met_of hl (by decide +kernel) rfl rfl (Nat.le_of_ble_eq_true rfl) (fun X C => vX3_readSign C p0 h H)
/-! X3_readNumber -/
abbrev iX3_readNumber : g_I := (RX3, yX3_readNumber, cX3_readNumber, 4, (some .boolean), [], { frames := 6, cells := 0, slots := 0, locals := 130 })
set_option maxRecDepth 100000 in
set_option maxHeartbeats 4000000 in
theorem vX3_readNumber_b65 {G : g_G} {X : g_X} {Q : g_R → g_Hp → Prop} (C : g_Cx y_ G X iX3_readNumber) (a0i : Nat) (z0 : Int32) (h : g_Hp) (H : wX3_readNumber_b65 a0i Q z0 h) : g_V G X iX3_readNumber 0 0 Q 65 0 0 [] [vI z0] h := by
  exact s_iret (pc := 65) rfl (g_nz H.1) ⟨by decide, by decide⟩ H.2 C dX3_readNumber_65
set_option maxRecDepth 100000 in
set_option maxHeartbeats 4000000 in
theorem vX3_readNumber_b51 {G : g_G} {X : g_X} {Q : g_R → g_Hp → Prop} (C : g_Cx y_ G X iX3_readNumber) (a0i : Nat) (x2 : Int32) (x3 : Int32) (h : g_Hp) (H : wX3_readNumber_b51 a0i Q x2 x3 h) : g_V G X iX3_readNumber 0 0 Q 51 0 0 [(1, vR 4 a0i 0), (2, vI x2), (3, vI x3)] [] h := by
  refine s_aload_n (pc := 51) C dX3_readNumber_51 rfl 0 rfl ?_
  refine s_iload_n (pc := 52) C dX3_readNumber_52 rfl 1 rfl ?_
  refine s_puti (pc := 53) (s := 2) ckX2 (Or.inl rfl) (by decide) kw_268 (fun _ => rfl) rfl rfl rfl C dX3_readNumber_53 ?_
  refine s_name (fun h1 eh1 => ?_)
  have H := H h1 eh1
  refine s_iload_n (pc := 56) C dX3_readNumber_56 rfl 2 rfl ?_
  refine s_if_le (pc := 57) (tgt := 64) C dX3_readNumber_57 (by decide) (fun c => ?_) (fun c => ?_)
  · have H := H.1 c
    refine s_iconst (pc := 64) C dX3_readNumber_64 (x := (0 : Int32)) (by decide) ?_
    exact s_sub (ls' := []) [] rfl (vX3_readNumber_b65 C a0i (0 : Int32) h1 H)
  · have H := H.2 c
    refine s_iconst (pc := 60) C dX3_readNumber_60 (x := (1 : Int32)) (by decide) ?_
    refine s_goto (pc := 61) (tgt := 65) C dX3_readNumber_61 (by decide) ?_
    exact s_sub (ls' := []) [] rfl (vX3_readNumber_b65 C a0i (1 : Int32) h1 H)
set_option maxRecDepth 100000 in
set_option maxHeartbeats 4000000 in
theorem vX3_readNumber_b4_B {G : g_G} {X : g_X} {Q : g_R → g_Hp → Prop} (C : g_Cx y_ G X iX3_readNumber) (a0i : Nat) (R4 : Int32 → Int32 → g_Hp → Prop) (hR4 : ∀ (x2 : Int32) (x3 : Int32) (h : g_Hp), R4 x2 x3 h → g_V G X iX3_readNumber 0 0 Q 4 0 0 [(0, vR 3 0 0), (1, vR 4 a0i 0), (2, vI x2), (3, vI x3)] [] h) (x2 : Int32) (x3 : Int32) (h : g_Hp) (H : wX3_readNumber_b4_B a0i Q R4 x2 x3 h) : g_V G X iX3_readNumber 0 0 Q 4 0 0 [(0, vR 3 0 0), (1, vR 4 a0i 0), (2, vI x2), (3, vI x3)] [] h := by
  refine s_iload_n (pc := 4) C dX3_readNumber_4 rfl 3 rfl ?_
  refine s_iconst (pc := 5) C dX3_readNumber_5 (x := (3 : Int32)) (by decide) ?_
  refine s_icmp_ge (pc := 6) (tgt := 51) C dX3_readNumber_6 (by decide) (fun c => ?_) (fun c => ?_)
  · have H := H.1 c
    exact s_sub (ls' := [(1, vR 4 a0i 0), (2, vI x2), (3, vI x3)]) [1, 2, 3] rfl (vX3_readNumber_b51 C a0i x2 x3 h H)
  · have H := H.2 c
    refine s_aload_n (pc := 9) C dX3_readNumber_9 rfl 0 rfl ?_
    refine s_aload_n (pc := 10) C dX3_readNumber_10 rfl 0 rfl ?_
    refine s_geti (pc := 11) (s := 3) ckX3 (Or.inl rfl) (by decide) kw_287 (fun _ => rfl) C dX3_readNumber_11 ?_
    refine s_callv (pc := 14) (nA := 1) (as := [vI (h 3 0 0 4)]) (st := []) (stk := [vI (h 3 0 0 4), vR 3 0 0]) ckX3 (Or.inl rfl) C (fun l hl => ctX3_digitAt l hl (h 3 0 0 4) _ _ H) ⟨⟨kw_1221, kw_61, kw_1224⟩, rfl, ⟨by decide, by decide, by decide +kernel⟩, by decide, by decide⟩ kw_1223 (g_selW kw_16) rfl (Nat.le_of_ble_eq_true rfl) ⟨by decide, by decide⟩ rfl dX3_readNumber_14 (g_Kq_I (fun u2 h1 H => ?_) (fun E h1 H => s_prop rfl ⟨by decide, by decide⟩ H C))
    refine s_iconst (pc := 17) C dX3_readNumber_17 (x := (-1 : Int32)) (by decide) ?_
    refine s_icmp_eq (pc := 18) (tgt := 51) C dX3_readNumber_18 (by decide) (fun c => ?_) (fun c => ?_)
    · have H := H.1 c
      exact s_sub (ls' := [(1, vR 4 a0i 0), (2, vI x2), (3, vI x3)]) [1, 2, 3] rfl (vX3_readNumber_b51 C a0i x2 x3 h1 H)
    · have H := H.2 c
      refine s_iload_n (pc := 21) C dX3_readNumber_21 rfl 2 rfl ?_
      refine s_bipush (pc := 22) C dX3_readNumber_22 (x := (10 : Int32)) (by decide) ?_
      refine s_imul (pc := 24) C dX3_readNumber_24 ?_
      refine s_aload_n (pc := 25) C dX3_readNumber_25 rfl 0 rfl ?_
      refine s_aload_n (pc := 26) C dX3_readNumber_26 rfl 0 rfl ?_
      refine s_geti (pc := 27) (s := 3) ckX3 (Or.inl rfl) (by decide) kw_287 (fun _ => rfl) C dX3_readNumber_27 ?_
      refine s_callv (pc := 30) (nA := 1) (as := [vI (h1 3 0 0 4)]) (st := [vI (x2 * (10 : Int32))]) (stk := [vI (h1 3 0 0 4), vR 3 0 0, vI (x2 * (10 : Int32))]) ckX3 (Or.inl rfl) C (fun l hl => ctX3_digitAt l hl (h1 3 0 0 4) _ _ H) ⟨⟨kw_1221, kw_61, kw_1224⟩, rfl, ⟨by decide, by decide, by decide +kernel⟩, by decide, by decide⟩ kw_1223 (g_selW kw_16) rfl (Nat.le_of_ble_eq_true rfl) ⟨by decide, by decide⟩ rfl dX3_readNumber_30 (g_Kq_I (fun u4 h3 H => ?_) (fun E h3 H => s_prop rfl ⟨by decide, by decide⟩ H C))
      refine s_iadd (pc := 33) C dX3_readNumber_33 ?_
      refine s_namei (fun y5 ey5 => ?_)
      have H := H y5 ey5
      refine s_istore_n (pc := 34) (ls' := [(2, vI y5), (0, vR 3 0 0), (1, vR 4 a0i 0), (3, vI x3)]) C dX3_readNumber_34 rfl (by decide) rfl ?_
      refine s_aload_n (pc := 35) C dX3_readNumber_35 rfl 1 rfl ?_
      refine s_dup (pc := 36) C dX3_readNumber_36 rfl ?_
      refine s_geti (pc := 37) (s := 3) ckX3 (Or.inl rfl) (by decide) kw_287 (fun _ => rfl) C dX3_readNumber_37 ?_
      refine s_iconst (pc := 40) C dX3_readNumber_40 (x := (1 : Int32)) (by decide) ?_
      refine s_iadd (pc := 41) C dX3_readNumber_41 ?_
      refine s_puti (pc := 42) (s := 3) ckX3 (Or.inl rfl) (by decide) kw_287 (fun _ => rfl) rfl rfl rfl C dX3_readNumber_42 ?_
      refine s_name (fun h6 eh6 => ?_)
      have H := H h6 eh6
      refine s_iincN (pc := 45) C dX3_readNumber_45 3 rfl (z' := (1 : Int32)) (by decide) (by decide) (fun y7 ey7 => ?_)
      have H := H y7 ey7
      show g_V _ _ _ _ _ _ _ _ _ [(3, vI y7), (2, vI y5), (0, vR 3 0 0), (1, vR 4 a0i 0)] _ _
      refine s_goto (pc := 48) (tgt := 4) C dX3_readNumber_48 (by decide) ?_
      exact s_sub (ls' := [(0, vR 3 0 0), (1, vR 4 a0i 0), (2, vI y5), (3, vI y7)]) [2, 3, 1, 0] rfl (hR4 y5 y7 h6 H)
theorem vX3_readNumber_b4 {G : g_G} {X : g_X} {Q : g_R → g_Hp → Prop} (C : g_Cx y_ G X iX3_readNumber) (a0i : Nat) (x2 : Int32) (x3 : Int32) (h : g_Hp) (H : wX3_readNumber_b4 a0i Q x2 x3 h) : g_V G X iX3_readNumber 0 0 Q 4 0 0 [(0, vR 3 0 0), (1, vR 4 a0i 0), (2, vI x2), (3, vI x3)] [] h := by
  obtain ⟨n, H⟩ := H
  induction n generalizing x2 x3 h with
  | zero => exact H.elim
  | succ n ih => exact vX3_readNumber_b4_B C a0i _ (fun x2 x3 h H => ih x2 x3 h H) x2 x3 h H
set_option maxRecDepth 100000 in
set_option maxHeartbeats 4000000 in
theorem vX3_readNumber {G : g_G} {X : g_X} {Q : g_R → g_Hp → Prop} (C : g_Cx y_ G X iX3_readNumber) (a0i : Nat) (h : g_Hp) (H : wX3_readNumber a0i h Q) : g_V G X iX3_readNumber 0 0 Q 0 0 0 [(0, vR 3 0 0), (1, vR 4 a0i 0)] [] h := by
  refine s_iconst (pc := 0) C dX3_readNumber_0 (x := (0 : Int32)) (by decide) ?_
  refine s_istore_n (pc := 1) (ls' := [(2, vI (0 : Int32)), (0, vR 3 0 0), (1, vR 4 a0i 0)]) C dX3_readNumber_1 rfl (by decide) rfl ?_
  refine s_iconst (pc := 2) C dX3_readNumber_2 (x := (0 : Int32)) (by decide) ?_
  refine s_istore_n (pc := 3) (ls' := [(3, vI (0 : Int32)), (2, vI (0 : Int32)), (0, vR 3 0 0), (1, vR 4 a0i 0)]) C dX3_readNumber_3 rfl (by decide) rfl ?_
  exact s_sub (ls' := [(0, vR 3 0 0), (1, vR 4 a0i 0), (2, vI (0 : Int32)), (3, vI (0 : Int32))]) [2, 3, 1, 0] rfl (vX3_readNumber_b4 C a0i (0 : Int32) (0 : Int32) h H)
theorem ctX3_readNumber (l : Launch) (hl : l.stackTraces = false) {G : g_G} (a0i : Nat) (h : g_Hp) (Q : g_R → g_Hp → Prop) (H : wX3_readNumber a0i h Q) : g_Met l y_ G iX3_readNumber [vR 3 0 0, vR 4 a0i 0] h Q :=
  g_Met_of hl (by decide +kernel) rfl rfl (Nat.le_of_ble_eq_true rfl) (fun X C => vX3_readNumber C a0i h H)
/-! X3_readPlusOrMinus -/
abbrev iX3_readPlusOrMinus : g_I := (RX3, yX3_readPlusOrMinus, cX3_readPlusOrMinus, 2, (some .boolean), [], { frames := 7, cells := 0, slots := 0, locals := 151 })
set_option maxRecDepth 100000 in
set_option maxHeartbeats 4000000 in
theorem vX3_readPlusOrMinus_b31 {G : g_G} {X : g_X} {Q : g_R → g_Hp → Prop} (C : g_Cx y_ G X iX3_readPlusOrMinus) (a0i : Nat) (z0 : Int32) (h : g_Hp) (H : wX3_readPlusOrMinus_b31 a0i Q z0 h) : g_V G X iX3_readPlusOrMinus 0 0 Q 31 0 0 [] [vI z0] h := by
  exact s_iret (pc := 31) rfl (g_nz H.1) ⟨by decide, by decide⟩ H.2 C dX3_readPlusOrMinus_31
set_option maxRecDepth 100000 in
set_option maxHeartbeats 4000000 in
theorem vX3_readPlusOrMinus_b26 {G : g_G} {X : g_X} {Q : g_R → g_Hp → Prop} (C : g_Cx y_ G X iX3_readPlusOrMinus) (a0i : Nat) (h : g_Hp) (H : wX3_readPlusOrMinus_b26 a0i Q h) : g_V G X iX3_readPlusOrMinus 0 0 Q 26 0 0 [] [] h := by
  refine s_iconst (pc := 26) C dX3_readPlusOrMinus_26 (x := (1 : Int32)) (by decide) ?_
  refine s_goto (pc := 27) (tgt := 31) C dX3_readPlusOrMinus_27 (by decide) ?_
  exact s_sub (ls' := []) [] rfl (vX3_readPlusOrMinus_b31 C a0i (1 : Int32) h H)
set_option maxRecDepth 100000 in
set_option maxHeartbeats 4000000 in
theorem vX3_readPlusOrMinus {G : g_G} {X : g_X} {Q : g_R → g_Hp → Prop} (C : g_Cx y_ G X iX3_readPlusOrMinus) (a0i : Nat) (h : g_Hp) (H : wX3_readPlusOrMinus a0i h Q) : g_V G X iX3_readPlusOrMinus 0 0 Q 0 0 0 [(0, vR 3 0 0), (1, vR 4 a0i 0)] [] h := by
  refine s_aload_n (pc := 0) C dX3_readPlusOrMinus_0 rfl 1 rfl ?_
  refine s_aload_n (pc := 1) C dX3_readPlusOrMinus_1 rfl 0 rfl ?_
  refine s_bipush (pc := 2) C dX3_readPlusOrMinus_2 (x := (43 : Int32)) (by decide) ?_
  refine s_callv (pc := 4) (nA := 1) (as := [vI (43 : Int32)]) (st := [vR 4 a0i 0]) (stk := [vI (43 : Int32), vR 3 0 0, vR 4 a0i 0]) ckX3 (Or.inl rfl) C (fun l hl => ctX3_readSign l hl (43 : Int32) _ _ H) ⟨⟨kw_1225, kw_61, kw_1228⟩, rfl, ⟨by decide, by decide, by decide +kernel⟩, by decide, by decide⟩ kw_1227 (g_selW kw_17) rfl (Nat.le_of_ble_eq_true rfl) ⟨by decide, by decide⟩ rfl dX3_readPlusOrMinus_4 (g_Kq_I (fun u2 h1 H => ?_) (fun E h1 H => s_prop rfl ⟨by decide, by decide⟩ H C))
  refine s_puti (pc := 7) (s := 3) ckX2 (Or.inl rfl) (by decide) kw_270 (fun _ => rfl) rfl (g_nz H.1) (g_fz H.1) C dX3_readPlusOrMinus_7 ?_
  have H := H.2
  refine s_name (fun h3 eh3 => ?_)
  have H := H h3 eh3
  refine s_aload_n (pc := 10) C dX3_readPlusOrMinus_10 rfl 1 rfl ?_
  refine s_geti (pc := 11) (s := 3) ckX2 (Or.inl rfl) (by decide) kw_270 (fun _ => rfl) C dX3_readPlusOrMinus_11 ?_
  refine s_if_ne (pc := 14) (tgt := 26) C dX3_readPlusOrMinus_14 (by decide) (fun c => ?_) (fun c => ?_)
  · have H := H.1 c
    exact s_sub (ls' := []) [] rfl (vX3_readPlusOrMinus_b26 C a0i  h3 H)
  · have H := H.2 c
    refine s_aload_n (pc := 17) C dX3_readPlusOrMinus_17 rfl 0 rfl ?_
    refine s_bipush (pc := 18) C dX3_readPlusOrMinus_18 (x := (45 : Int32)) (by decide) ?_
    refine s_callv (pc := 20) (nA := 1) (as := [vI (45 : Int32)]) (st := []) (stk := [vI (45 : Int32), vR 3 0 0]) ckX3 (Or.inl rfl) C (fun l hl => ctX3_readSign l hl (45 : Int32) _ _ H) ⟨⟨kw_1225, kw_61, kw_1228⟩, rfl, ⟨by decide, by decide, by decide +kernel⟩, by decide, by decide⟩ kw_1227 (g_selW kw_17) rfl (Nat.le_of_ble_eq_true rfl) ⟨by decide, by decide⟩ rfl dX3_readPlusOrMinus_20 (g_Kq_I (fun u5 h4 H => ?_) (fun E h4 H => s_prop rfl ⟨by decide, by decide⟩ H C))
    refine s_if_eq (pc := 23) (tgt := 30) C dX3_readPlusOrMinus_23 (by decide) (fun c => ?_) (fun c => ?_)
    · have H := H.1 c
      refine s_iconst (pc := 30) C dX3_readPlusOrMinus_30 (x := (0 : Int32)) (by decide) ?_
      exact s_sub (ls' := []) [] rfl (vX3_readPlusOrMinus_b31 C a0i (0 : Int32) h4 H)
    · have H := H.2 c
      exact s_sub (ls' := []) [] rfl (vX3_readPlusOrMinus_b26 C a0i  h4 H)
theorem ctX3_readPlusOrMinus (l : Launch) (hl : l.stackTraces = false) {G : g_G} (a0i : Nat) (h : g_Hp) (Q : g_R → g_Hp → Prop) (H : wX3_readPlusOrMinus a0i h Q) : g_Met l y_ G iX3_readPlusOrMinus [vR 3 0 0, vR 4 a0i 0] h Q :=
  g_Met_of hl (by decide +kernel) rfl rfl (Nat.le_of_ble_eq_true rfl) (fun X C => vX3_readPlusOrMinus C a0i h H)
/-! X3_readCommand -/
abbrev iX3_readCommand : g_I := (RX3, yX3_readCommand, cX3_readCommand, 3, (some .boolean), [], { frames := 8, cells := 0, slots := 0, locals := 178 })
set_option maxRecDepth 100000 in
set_option maxHeartbeats 4000000 in
theorem vX3_readCommand_b40 {G : g_G} {X : g_X} {Q : g_R → g_Hp → Prop} (C : g_Cx y_ G X iX3_readCommand) (a0i : Nat) (h : g_Hp) (H : wX3_readCommand_b40 a0i Q h) : g_V G X iX3_readCommand 0 0 Q 40 0 0 [] [] h := by
  refine s_iconst (pc := 40) C dX3_readCommand_40 (x := (0 : Int32)) (by decide) ?_
  exact s_iret (pc := 41) rfl (by decide) ⟨by decide, by decide⟩ H C dX3_readCommand_41
set_option maxRecDepth 100000 in
set_option maxHeartbeats 4000000 in
theorem vX3_readCommand_b79 {G : g_G} {X : g_X} {Q : g_R → g_Hp → Prop} (C : g_Cx y_ G X iX3_readCommand) (a0i : Nat) (z0 : Int32) (h : g_Hp) (H : wX3_readCommand_b79 a0i Q z0 h) : g_V G X iX3_readCommand 0 0 Q 79 0 0 [] [vI z0] h := by
  exact s_iret (pc := 79) rfl (g_nz H.1) ⟨by decide, by decide⟩ H.2 C dX3_readCommand_79
set_option maxRecDepth 100000 in
set_option maxHeartbeats 4000000 in
theorem vX3_readCommand_b74 {G : g_G} {X : g_X} {Q : g_R → g_Hp → Prop} (C : g_Cx y_ G X iX3_readCommand) (a0i : Nat) (h : g_Hp) (H : wX3_readCommand_b74 a0i Q h) : g_V G X iX3_readCommand 0 0 Q 74 0 0 [] [] h := by
  refine s_iconst (pc := 74) C dX3_readCommand_74 (x := (1 : Int32)) (by decide) ?_
  refine s_goto (pc := 75) (tgt := 79) C dX3_readCommand_75 (by decide) ?_
  exact s_sub (ls' := []) [] rfl (vX3_readCommand_b79 C a0i (1 : Int32) h H)
set_option maxRecDepth 100000 in
set_option maxHeartbeats 4000000 in
theorem vX3_readCommand_b59 {G : g_G} {X : g_X} {Q : g_R → g_Hp → Prop} (C : g_Cx y_ G X iX3_readCommand) (a0i : Nat) (x2i : Nat) (x2j : Nat) (h : g_Hp) (H : wX3_readCommand_b59 a0i Q x2i x2j h) : g_V G X iX3_readCommand 0 0 Q 59 0 0 [(0, vR 3 0 0), (1, vR 4 a0i 0), (2, vR 21 x2i x2j)] [] h := by
  refine s_aload_n (pc := 59) C dX3_readCommand_59 rfl 2 rfl ?_
  refine s_getc (pc := 60) (by decide) (fs_hasSign H.1) trivial kw_1998 C dX3_readCommand_60 ?_
  have H := H.2
  refine s_if_eq (pc := 63) (tgt := 74) C dX3_readCommand_63 (by decide) (fun c => ?_) (fun c => ?_)
  · have H := H.1 c
    exact s_sub (ls' := []) [] rfl (vX3_readCommand_b74 C a0i  h H)
  · have H := H.2 c
    refine s_aload_n (pc := 66) C dX3_readCommand_66 rfl 0 rfl ?_
    refine s_aload_n (pc := 67) C dX3_readCommand_67 rfl 1 rfl ?_
    refine s_callv (pc := 68) (nA := 1) (as := [vR 4 a0i 0]) (st := []) (stk := [vR 4 a0i 0, vR 3 0 0]) ckX3 (Or.inl rfl) C (fun l hl => ctX3_readPlusOrMinus l hl a0i _ _ H) ⟨⟨kw_1233, kw_61, kw_1236⟩, rfl, ⟨by decide, by decide, by decide +kernel⟩, by decide, by decide⟩ kw_1235 (g_selW kw_19) rfl (Nat.le_of_ble_eq_true rfl) ⟨by decide, by decide⟩ rfl dX3_readCommand_68 (g_Kq_I (fun u2 h1 H => ?_) (fun E h1 H => s_prop rfl ⟨by decide, by decide⟩ H C))
    refine s_if_eq (pc := 71) (tgt := 78) C dX3_readCommand_71 (by decide) (fun c => ?_) (fun c => ?_)
    · have H := H.1 c
      refine s_iconst (pc := 78) C dX3_readCommand_78 (x := (0 : Int32)) (by decide) ?_
      exact s_sub (ls' := []) [] rfl (vX3_readCommand_b79 C a0i (0 : Int32) h1 H)
    · have H := H.2 c
      exact s_sub (ls' := []) [] rfl (vX3_readCommand_b74 C a0i  h1 H)
set_option maxRecDepth 100000 in
set_option maxHeartbeats 4000000 in
theorem vX3_readCommand_b42 {G : g_G} {X : g_X} {Q : g_R → g_Hp → Prop} (C : g_Cx y_ G X iX3_readCommand) (a0i : Nat) (x2i : Nat) (x2j : Nat) (h : g_Hp) (H : wX3_readCommand_b42 a0i Q x2i x2j h) : g_V G X iX3_readCommand 0 0 Q 42 0 0 [(0, vR 3 0 0), (1, vR 4 a0i 0), (2, vR 21 x2i x2j)] [] h := by
  refine s_aload_n (pc := 42) C dX3_readCommand_42 rfl 2 rfl ?_
  refine s_getc (pc := 43) (by decide) (fs_hasNumber H.1) trivial kw_1997 C dX3_readCommand_43 ?_
  have H := H.2
  refine s_if_eq (pc := 46) (tgt := 59) C dX3_readCommand_46 (by decide) (fun c => ?_) (fun c => ?_)
  · have H := H.1 c
    exact s_sub (ls' := [(0, vR 3 0 0), (1, vR 4 a0i 0), (2, vR 21 x2i x2j)]) [0, 1, 2] rfl (vX3_readCommand_b59 C a0i x2i x2j h H)
  · have H := H.2 c
    refine s_aload_n (pc := 49) C dX3_readCommand_49 rfl 0 rfl ?_
    refine s_aload_n (pc := 50) C dX3_readCommand_50 rfl 1 rfl ?_
    refine s_callv (pc := 51) (nA := 1) (as := [vR 4 a0i 0]) (st := []) (stk := [vR 4 a0i 0, vR 3 0 0]) ckX3 (Or.inl rfl) C (fun l hl => ctX3_readNumber l hl a0i _ _ H) ⟨⟨kw_1229, kw_61, kw_1232⟩, rfl, ⟨by decide, by decide, by decide +kernel⟩, by decide, by decide⟩ kw_1231 (g_selW kw_18) rfl (Nat.le_of_ble_eq_true rfl) ⟨by decide, by decide⟩ rfl dX3_readCommand_51 (g_Kq_I (fun u2 h1 H => ?_) (fun E h1 H => s_prop rfl ⟨by decide, by decide⟩ H C))
    refine s_if_ne (pc := 54) (tgt := 59) C dX3_readCommand_54 (by decide) (fun c => ?_) (fun c => ?_)
    · have H := H.1 c
      exact s_sub (ls' := [(0, vR 3 0 0), (1, vR 4 a0i 0), (2, vR 21 x2i x2j)]) [0, 1, 2] rfl (vX3_readCommand_b59 C a0i x2i x2j h1 H)
    · have H := H.2 c
      refine s_iconst (pc := 57) C dX3_readCommand_57 (x := (0 : Int32)) (by decide) ?_
      exact s_iret (pc := 58) rfl (by decide) ⟨by decide, by decide⟩ H C dX3_readCommand_58
set_option maxRecDepth 100000 in
set_option maxHeartbeats 4000000 in
theorem vX3_readCommand {G : g_G} {X : g_X} {Q : g_R → g_Hp → Prop} (C : g_Cx y_ G X iX3_readCommand) (a0i : Nat) (h : g_Hp) (H : wX3_readCommand a0i h Q) : g_V G X iX3_readCommand 0 0 Q 0 0 0 [(0, vR 3 0 0), (1, vR 4 a0i 0)] [] h := by
  refine s_aload_n (pc := 0) C dX3_readCommand_0 rfl 0 rfl ?_
  refine s_callv (pc := 1) (nA := 0) (as := []) (st := []) (stk := [vR 3 0 0]) ckX3 (Or.inl rfl) C (fun l hl => ctX3_readKeyword l hl _ _ H) ⟨⟨kw_1164, kw_61, kw_1167⟩, rfl, ⟨by decide, by decide, by decide +kernel⟩, by decide, by decide⟩ kw_1166 (g_selW kw_12) rfl (Nat.le_of_ble_eq_true rfl) ⟨by decide, by decide⟩ rfl dX3_readCommand_1 (g_Kq_N (fun h1 H => ?_) (fun i2 j3 h1 H => ?_) (fun E h1 H => s_prop rfl ⟨by decide, by decide⟩ H C))
  · refine s_astore_nN (pc := 4) (ls' := [(2, vV .null), (0, vR 3 0 0), (1, vR 4 a0i 0)]) C dX3_readCommand_4 rfl (by decide) rfl ?_
    refine s_aload_nN (pc := 5) C dX3_readCommand_5 rfl 0 rfl ?_
    refine s_ifnonnullN (pc := 6) C dX3_readCommand_6 ?_
    refine s_iconst (pc := 9) C dX3_readCommand_9 (x := (0 : Int32)) (by decide) ?_
    exact s_iret (pc := 10) rfl (by decide) ⟨by decide, by decide⟩ H C dX3_readCommand_10
  · refine s_astore_n (pc := 4) (ls' := [(2, vR 21 i2 j3), (0, vR 3 0 0), (1, vR 4 a0i 0)]) C dX3_readCommand_4 rfl (by decide) rfl ?_
    refine s_aload_n (pc := 5) C dX3_readCommand_5 rfl 0 rfl ?_
    refine s_ifnonnull (pc := 6) (tgt := 11) C dX3_readCommand_6 (by decide) ?_
    refine s_aload_n (pc := 11) C dX3_readCommand_11 rfl 2 rfl ?_
    refine s_aload_n (pc := 12) C dX3_readCommand_12 rfl 0 rfl ?_
    refine s_putr (pc := 13) (s := 0) (x := Int32.ofNat (i2 + 1)) (a := 21) (b := i2) (c' := j3) ckX2 (Or.inl rfl) (by decide) kw_264 (by rw [H.1.2.2]; exact g_rtq_40 H.1.2.1) H.1.1 (Or.inl rfl) (by decide) (Or.inl rfl) (fun _ => rfl) (fun _ => rfl) C dX3_readCommand_13 ?_
    have H := H.2
    refine s_name (fun h4 eh4 => ?_)
    have H := H h4 eh4
    refine s_aload_n (pc := 16) C dX3_readCommand_16 rfl 0 rfl ?_
    refine s_getc (pc := 17) (by decide) (fs_hasDigit H.1) trivial kw_1996 C dX3_readCommand_17 ?_
    have H := H.2
    refine s_if_eq (pc := 20) (tgt := 42) C dX3_readCommand_20 (by decide) (fun c => ?_) (fun c => ?_)
    · have H := H.1 c
      exact s_sub (ls' := [(0, vR 3 0 0), (1, vR 4 a0i 0), (2, vR 21 i2 j3)]) [1, 2, 0] rfl (vX3_readCommand_b42 C a0i i2 j3 h4 H)
    · have H := H.2 c
      refine s_aload_n (pc := 23) C dX3_readCommand_23 rfl 1 rfl ?_
      refine s_aload_n (pc := 24) C dX3_readCommand_24 rfl 2 rfl ?_
      refine s_callv (pc := 25) (nA := 1) (as := [vR 4 a0i 0]) (st := []) (stk := [vR 4 a0i 0, vR 3 0 0]) ckX3 (Or.inl rfl) C (fun l hl => ctX3_readDigit l hl a0i _ _ H) ⟨⟨kw_1217, kw_61, kw_1220⟩, rfl, ⟨by decide, by decide, by decide +kernel⟩, by decide, by decide⟩ kw_1219 (g_selW kw_15) rfl (Nat.le_of_ble_eq_true rfl) ⟨by decide, by decide⟩ rfl dX3_readCommand_25 (g_Kq_I (fun u6 h5 H => ?_) (fun E h5 H => s_prop rfl ⟨by decide, by decide⟩ H C))
      refine s_if_eq (pc := 28) (tgt := 40) C dX3_readCommand_28 (by decide) (fun c => ?_) (fun c => ?_)
      · have H := H.1 c
        exact s_sub (ls' := []) [] rfl (vX3_readCommand_b40 C a0i  h5 H)
      · have H := H.2 c
        refine s_aload_n (pc := 31) C dX3_readCommand_31 rfl 1 rfl ?_
        refine s_bipush (pc := 32) C dX3_readCommand_32 (x := (32 : Int32)) (by decide) ?_
        refine s_callv (pc := 34) (nA := 1) (as := [vI (32 : Int32)]) (st := []) (stk := [vI (32 : Int32), vR 3 0 0]) ckX3 (Or.inl rfl) C (fun l hl => ctX3_readSign l hl (32 : Int32) _ _ H) ⟨⟨kw_1225, kw_61, kw_1228⟩, rfl, ⟨by decide, by decide, by decide +kernel⟩, by decide, by decide⟩ kw_1227 (g_selW kw_17) rfl (Nat.le_of_ble_eq_true rfl) ⟨by decide, by decide⟩ rfl dX3_readCommand_34 (g_Kq_I (fun u8 h7 H => ?_) (fun E h7 H => s_prop rfl ⟨by decide, by decide⟩ H C))
        refine s_if_ne (pc := 37) (tgt := 42) C dX3_readCommand_37 (by decide) (fun c => ?_) (fun c => ?_)
        · have H := H.1 c
          exact s_sub (ls' := [(0, vR 3 0 0), (1, vR 4 a0i 0), (2, vR 21 i2 j3)]) [1, 2, 0] rfl (vX3_readCommand_b42 C a0i i2 j3 h7 H)
        · have H := H.2 c
          exact s_sub (ls' := []) [] rfl (vX3_readCommand_b40 C a0i  h7 H)
theorem ctX3_readCommand (l : Launch) (hl : l.stackTraces = false) {G : g_G} (a0i : Nat) (h : g_Hp) (Q : g_R → g_Hp → Prop) (H : wX3_readCommand a0i h Q) : g_Met l y_ G iX3_readCommand [vR 3 0 0, vR 4 a0i 0] h Q :=
  g_Met_of hl (by decide +kernel) rfl rfl (Nat.le_of_ble_eq_true rfl) (fun X C => vX3_readCommand C a0i h H)
