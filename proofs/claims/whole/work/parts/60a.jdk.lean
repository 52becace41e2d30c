/-! Jx29ce0_ordinal_8abf5_20 -/
abbrev iJx29ce0_ordinal_8abf5_20 : g_I := (RJx29ce0, yJx29ce0_ordinal_8abf5, cJx29ce0_ordinal_8abf5, 1, (some .int), [], { frames := 1, cells := 0, slots := 0, locals := 20 })
set_option maxRecDepth 100000 in
set_option maxHeartbeats 4000000 in
theorem vJx29ce0_ordinal_8abf5_20 {G : g_G} {X : g_X} {Q : g_R → g_Hp → Prop} (C : g_Cx y_ G X iJx29ce0_ordinal_8abf5_20) (ti : Nat) (tj : Nat) (h : g_Hp) (H : wJx29ce0_ordinal_8abf5_20 ti tj h Q) : g_V G X iJx29ce0_ordinal_8abf5_20 0 0 Q 0 0 0 [(0, vR 20 ti tj)] [] h := by
  refine s_aload_n (pc := 0) C dJx29ce0_ordinal_8abf5_0 rfl 0 rfl ?_
  refine s_getc (pc := 1) (by decide) (fs_ord20 H.1) trivial kw_1994 C dJx29ce0_ordinal_8abf5_1 ?_
  have H := H.2
  exact s_iret (pc := 4) rfl rfl ⟨by decide, by decide⟩ H C dJx29ce0_ordinal_8abf5_4
theorem ctJx29ce0_ordinal_8abf5_20 (l : Launch) (hl : l.stackTraces = false) {G : g_G} (ti : Nat) (tj : Nat) (h : g_Hp) (Q : g_R → g_Hp → Prop) (H : wJx29ce0_ordinal_8abf5_20 ti tj h Q) : g_Met l y_ G iJx29ce0_ordinal_8abf5_20 [vR 20 ti tj] h Q :=
  g_Met_of hl (by decide +kernel) rfl rfl (Nat.le_of_ble_eq_true rfl) (fun X C => vJx29ce0_ordinal_8abf5_20 C ti tj h H)
/-! Jx29ce0_ordinal_8abf5_21 -/
abbrev iJx29ce0_ordinal_8abf5_21 : g_I := (RJx29ce0, yJx29ce0_ordinal_8abf5, cJx29ce0_ordinal_8abf5, 1, (some .int), [], { frames := 1, cells := 0, slots := 0, locals := 20 })
set_option maxRecDepth 100000 in
set_option maxHeartbeats 4000000 in
theorem vJx29ce0_ordinal_8abf5_21 {G : g_G} {X : g_X} {Q : g_R → g_Hp → Prop} (C : g_Cx y_ G X iJx29ce0_ordinal_8abf5_21) (ti : Nat) (tj : Nat) (h : g_Hp) (H : wJx29ce0_ordinal_8abf5_21 ti tj h Q) : g_V G X iJx29ce0_ordinal_8abf5_21 0 0 Q 0 0 0 [(0, vR 21 ti tj)] [] h := by
  refine s_aload_n (pc := 0) C dJx29ce0_ordinal_8abf5_0 rfl 0 rfl ?_
  refine s_getc (pc := 1) (by decide) (fs_ord21 H.1) trivial kw_1994 C dJx29ce0_ordinal_8abf5_1 ?_
  have H := H.2
  exact s_iret (pc := 4) rfl rfl ⟨by decide, by decide⟩ H C dJx29ce0_ordinal_8abf5_4
theorem ctJx29ce0_ordinal_8abf5_21 (l : Launch) (hl : l.stackTraces = false) {G : g_G} (ti : Nat) (tj : Nat) (h : g_Hp) (Q : g_R → g_Hp → Prop) (H : wJx29ce0_ordinal_8abf5_21 ti tj h Q) : g_Met l y_ G iJx29ce0_ordinal_8abf5_21 [vR 21 ti tj] h Q :=
  g_Met_of hl (by decide +kernel) rfl rfl (Nat.le_of_ble_eq_true rfl) (fun X C => vJx29ce0_ordinal_8abf5_21 C ti tj h H)
/-! J9_max_7cf53 -/
abbrev iJ9_max_7cf53 : g_I := (RJ9, yJ9_max_7cf53, cJ9_max_7cf53, 2, (some .int), [], { frames := 1, cells := 0, slots := 0, locals := 20 })
set_option maxRecDepth 100000 in
set_option maxHeartbeats 4000000 in
theorem vJ9_max_7cf53_b10 {G : g_G} {X : g_X} {Q : g_R → g_Hp → Prop} (C : g_Cx y_ G X iJ9_max_7cf53) (z0 : Int32) (h : g_Hp) (H : wJ9_max_7cf53_b10 Q z0 h) : g_V G X iJ9_max_7cf53 0 0 Q 10 0 0 [] [vI z0] h := by
  exact s_iret (pc := 10) rfl rfl ⟨by decide, by decide⟩ H C dJ9_max_7cf53_10
set_option maxRecDepth 100000 in
set_option maxHeartbeats 4000000 in
theorem vJ9_max_7cf53 {G : g_G} {X : g_X} {Q : g_R → g_Hp → Prop} (C : g_Cx y_ G X iJ9_max_7cf53) (p0 : Int32) (p1 : Int32) (h : g_Hp) (H : wJ9_max_7cf53 p0 p1 h Q) : g_V G X iJ9_max_7cf53 0 0 Q 0 0 0 [(0, vI p0), (1, vI p1)] [] h := by
  refine s_iload_n (pc := 0) C dJ9_max_7cf53_0 rfl 0 rfl ?_
  refine s_iload_n (pc := 1) C dJ9_max_7cf53_1 rfl 1 rfl ?_
  refine s_icmp_lt (pc := 2) (tgt := 9) C dJ9_max_7cf53_2 (by decide) (fun c => ?_) (fun c => ?_)
  · have H := H.1 c
    refine s_iload_n (pc := 9) C dJ9_max_7cf53_9 rfl 1 rfl ?_
    exact s_sub (ls' := []) [] rfl (vJ9_max_7cf53_b10 C p1 h H)
  · have H := H.2 c
    refine s_iload_n (pc := 5) C dJ9_max_7cf53_5 rfl 0 rfl ?_
    refine s_goto (pc := 6) (tgt := 10) C dJ9_max_7cf53_6 (by decide) ?_
    exact s_sub (ls' := []) [] rfl (vJ9_max_7cf53_b10 C p0 h H)
theorem ctJ9_max_7cf53 (l : Launch) (hl : l.stackTraces = false) {G : g_G} (p0 : Int32) (p1 : Int32) (h : g_Hp) (Q : g_R → g_Hp → Prop) (H : wJ9_max_7cf53 p0 p1 h Q) : g_Met l y_ G iJ9_max_7cf53 [vI p0, vI p1] h Q :=
  g_Met_ofF hl (by decide +kernel) rfl rfl (Nat.le_of_ble_eq_true rfl) (fun X C => vJ9_max_7cf53 C p0 p1 h H)
/-! J9_min_7cf53 -/
abbrev iJ9_min_7cf53 : g_I := (RJ9, yJ9_min_7cf53, cJ9_min_7cf53, 2, (some .int), [], { frames := 1, cells := 0, slots := 0, locals := 20 })
set_option maxRecDepth 100000 in
set_option maxHeartbeats 4000000 in
theorem vJ9_min_7cf53_b10 {G : g_G} {X : g_X} {Q : g_R → g_Hp → Prop} (C : g_Cx y_ G X iJ9_min_7cf53) (z0 : Int32) (h : g_Hp) (H : wJ9_min_7cf53_b10 Q z0 h) : g_V G X iJ9_min_7cf53 0 0 Q 10 0 0 [] [vI z0] h := by
  exact s_iret (pc := 10) rfl rfl ⟨by decide, by decide⟩ H C dJ9_min_7cf53_10
set_option maxRecDepth 100000 in
set_option maxHeartbeats 4000000 in
theorem vJ9_min_7cf53 {G : g_G} {X : g_X} {Q : g_R → g_Hp → Prop} (C : g_Cx y_ G X iJ9_min_7cf53) (p0 : Int32) (p1 : Int32) (h : g_Hp) (H : wJ9_min_7cf53 p0 p1 h Q) : g_V G X iJ9_min_7cf53 0 0 Q 0 0 0 [(0, vI p0), (1, vI p1)] [] h := by
  refine s_iload_n (pc := 0) C dJ9_min_7cf53_0 rfl 0 rfl ?_
  refine s_iload_n (pc := 1) C dJ9_min_7cf53_1 rfl 1 rfl ?_
  refine s_icmp_gt (pc := 2) (tgt := 9) C dJ9_min_7cf53_2 (by decide) (fun c => ?_) (fun c => ?_)
  · have H := H.1 c
    refine s_iload_n (pc := 9) C dJ9_min_7cf53_9 rfl 1 rfl ?_
    exact s_sub (ls' := []) [] rfl (vJ9_min_7cf53_b10 C p1 h H)
  · have H := H.2 c
    refine s_iload_n (pc := 5) C dJ9_min_7cf53_5 rfl 0 rfl ?_
    refine s_goto (pc := 6) (tgt := 10) C dJ9_min_7cf53_6 (by decide) ?_
    exact s_sub (ls' := []) [] rfl (vJ9_min_7cf53_b10 C p0 h H)
theorem ctJ9_min_7cf53 (l : Launch) (hl : l.stackTraces = false) {G : g_G} (p0 : Int32) (p1 : Int32) (h : g_Hp) (Q : g_R → g_Hp → Prop) (H : wJ9_min_7cf53 p0 p1 h Q) : g_Met l y_ G iJ9_min_7cf53 [vI p0, vI p1] h Q :=
  g_Met_ofF hl (by decide +kernel) rfl rfl (Nat.le_of_ble_eq_true rfl) (fun X C => vJ9_min_7cf53 C p0 p1 h H)
/-! J8_newLength_cabcc -/
abbrev iJ8_newLength_cabcc : g_I := (RJ8, yJ8_newLength_cabcc, cJ8_newLength_cabcc, 4, (some .int), [], { frames := 2, cells := 0, slots := 0, locals := 41 })
set_option maxRecDepth 100000 in
set_option maxHeartbeats 4000000 in
theorem vJ8_newLength_cabcc_b21 {G : g_G} {X : g_X} {Q : g_R → g_Hp → Prop} (C : g_Cx y_ G X iJ8_newLength_cabcc) (x0 : Int32) (h : g_Hp) (H : wJ8_newLength_cabcc_b21 Q x0 h) : g_V G X iJ8_newLength_cabcc 0 0 Q 21 0 0 [(0, vI x0)] [] h := by
  exact H.elim
set_option maxRecDepth 100000 in
set_option maxHeartbeats 4000000 in
theorem vJ8_newLength_cabcc {G : g_G} {X : g_X} {Q : g_R → g_Hp → Prop} (C : g_Cx y_ G X iJ8_newLength_cabcc) (p0 : Int32) (p1 : Int32) (p2 : Int32) (h : g_Hp) (H : wJ8_newLength_cabcc p0 p1 p2 h Q) : g_V G X iJ8_newLength_cabcc 0 0 Q 0 0 0 [(0, vI p0), (1, vI p1), (2, vI p2)] [] h := by
  refine s_iload_n (pc := 0) C dJ8_newLength_cabcc_0 rfl 0 rfl ?_
  refine s_iload_n (pc := 1) C dJ8_newLength_cabcc_1 rfl 1 rfl ?_
  refine s_iload_n (pc := 2) C dJ8_newLength_cabcc_2 rfl 2 rfl ?_
  refine s_calls (pc := 3) (nA := 2) (as := [vI p1, vI p2]) (st := [vI p0]) (stk := [vI p2, vI p1, vI p0]) C (fun l hl => ctJ9_max_7cf53 l hl p1 p2 _ _ H) ⟨⟨kw_1074, kw_81, kw_1076⟩, rfl, ⟨by decide, by decide, by decide +kernel⟩, by decide, by decide⟩ kw_1075 rfl (Nat.le_of_ble_eq_true rfl) ⟨by decide, by decide⟩ rfl dJ8_newLength_cabcc_3 (g_Kq_I (fun u2 h1 H => ?_) (fun E h1 H => s_prop rfl ⟨by decide, by decide⟩ H C))
  refine s_iadd (pc := 6) C dJ8_newLength_cabcc_6 ?_
  refine s_namei (fun y3 ey3 => ?_)
  have H := H y3 ey3
  refine s_istore_n (pc := 7) (ls' := [(3, vI y3), (0, vI p0), (1, vI p1), (2, vI p2)]) C dJ8_newLength_cabcc_7 rfl (by decide) rfl ?_
  refine s_iconst (pc := 8) C dJ8_newLength_cabcc_8 (x := (0 : Int32)) (by decide) ?_
  refine s_iload_n (pc := 9) C dJ8_newLength_cabcc_9 rfl 0 rfl ?_
  refine s_icmp_ge (pc := 10) (tgt := 21) C dJ8_newLength_cabcc_10 (by decide) (fun c => ?_) (fun c => ?_)
  · have H := H.1 c
    exact s_sub (ls' := [(0, vI p0)]) [1] rfl (vJ8_newLength_cabcc_b21 C p0 h1 H)
  · have H := H.2 c
    refine s_iload_n (pc := 13) C dJ8_newLength_cabcc_13 rfl 0 rfl ?_
    refine s_ldci (pc := 14) C kw_1077 dJ8_newLength_cabcc_14 ?_
    refine s_icmp_gt (pc := 16) (tgt := 21) C dJ8_newLength_cabcc_16 (by decide) (fun c => ?_) (fun c => ?_)
    · have H := H.1 c
      exact s_sub (ls' := [(0, vI p0)]) [1] rfl (vJ8_newLength_cabcc_b21 C p0 h1 H)
    · have H := H.2 c
      refine s_iload_n (pc := 19) C dJ8_newLength_cabcc_19 rfl 0 rfl ?_
      exact s_iret (pc := 20) rfl rfl ⟨by decide, by decide⟩ H C dJ8_newLength_cabcc_20
theorem ctJ8_newLength_cabcc (l : Launch) (hl : l.stackTraces = false) {G : g_G} (p0 : Int32) (p1 : Int32) (p2 : Int32) (h : g_Hp) (Q : g_R → g_Hp → Prop) (H : wJ8_newLength_cabcc p0 p1 p2 h Q) : g_Met l y_ G iJ8_newLength_cabcc [vI p0, vI p1, vI p2] h Q :=
  g_Met_of hl (by decide +kernel) rfl rfl (Nat.le_of_ble_eq_true rfl) (fun X C => vJ8_newLength_cabcc C p0 p1 p2 h H)
/-! J5_newCapacity_0f7a4 -/
abbrev iJ5_newCapacity_0f7a4 : g_I := (RJ5, yJ5_newCapacity_0f7a4, cJ5_newCapacity_0f7a4, 6, (some .int), [], { frames := 3, cells := 0, slots := 0, locals := 64 })
set_option maxRecDepth 100000 in
set_option maxHeartbeats 4000000 in
theorem vJ5_newCapacity_0f7a4 {G : g_G} {X : g_X} {Q : g_R → g_Hp → Prop} (C : g_Cx y_ G X iJ5_newCapacity_0f7a4) (ti : Nat) (tj : Nat) (p0 : Int32) (h : g_Hp) (H : wJ5_newCapacity_0f7a4 ti tj p0 h Q) : g_V G X iJ5_newCapacity_0f7a4 0 0 Q 0 0 0 [(0, vR 6 ti tj), (1, vI p0)] [] h := by
  refine s_aload_n (pc := 0) C dJ5_newCapacity_0f7a4_0 rfl 0 rfl ?_
  refine s_getr (pc := 1) (s := 0) (a := 14) (b := ti) (c' := ((h 6 ti tj 1).toNatClampNeg - 1)) ckJ4 (by decide) kw_239 rfl C dJ5_newCapacity_0f7a4_1 ?_
  refine s_nmj (fun j1 ej1 => ?_)
  have H := H j1 ej1
  refine s_alen (pc := 4) (kk := 14) (by decide) (by decide) C dJ5_newCapacity_0f7a4_4 ?_
  refine s_namei (fun y2 ey2 => ?_)
  have H := H y2 ey2
  refine s_istore_n (pc := 5) (ls' := [(2, vI y2), (0, vR 6 ti tj), (1, vI p0)]) C dJ5_newCapacity_0f7a4_5 rfl (by decide) rfl ?_
  refine s_iload_n (pc := 6) C dJ5_newCapacity_0f7a4_6 rfl 2 rfl ?_
  refine s_aload_n (pc := 7) C dJ5_newCapacity_0f7a4_7 rfl 1 rfl ?_
  refine s_geti (pc := 8) (s := 1) ckJ4 (Or.inl rfl) (by decide) kw_240 (fun _ => rfl) C dJ5_newCapacity_0f7a4_8 ?_
  refine s_ishl (pc := 11) C dJ5_newCapacity_0f7a4_11 ?_
  refine s_namei (fun y3 ey3 => ?_)
  have H := H y3 ey3
  refine s_istore_n (pc := 12) (ls' := [(3, vI y3), (2, vI y2), (0, vR 6 ti tj), (1, vI p0)]) C dJ5_newCapacity_0f7a4_12 rfl (by decide) rfl ?_
  refine s_iload_n (pc := 13) C dJ5_newCapacity_0f7a4_13 rfl 0 rfl ?_
  refine s_iload_n (pc := 14) C dJ5_newCapacity_0f7a4_14 rfl 1 rfl ?_
  refine s_isub (pc := 15) C dJ5_newCapacity_0f7a4_15 ?_
  refine s_namei (fun y4 ey4 => ?_)
  have H := H y4 ey4
  refine s_istore (pc := 16) (ls' := [(4, vI y4), (3, vI y3), (2, vI y2), (0, vR 6 ti tj), (1, vI p0)]) C dJ5_newCapacity_0f7a4_16 (by decide) rfl ?_
  refine s_iload_n (pc := 18) C dJ5_newCapacity_0f7a4_18 rfl 2 rfl ?_
  refine s_iload (pc := 19) C dJ5_newCapacity_0f7a4_19 0 rfl ?_
  refine s_iload_n (pc := 21) C dJ5_newCapacity_0f7a4_21 rfl 2 rfl ?_
  refine s_iconst (pc := 22) C dJ5_newCapacity_0f7a4_22 (x := (2 : Int32)) (by decide) ?_
  refine s_aload_n (pc := 23) C dJ5_newCapacity_0f7a4_23 rfl 3 rfl ?_
  refine s_geti (pc := 24) (s := 1) ckJ4 (Or.inl rfl) (by decide) kw_240 (fun _ => rfl) C dJ5_newCapacity_0f7a4_24 ?_
  refine s_ishl (pc := 27) C dJ5_newCapacity_0f7a4_27 ?_
  refine s_iadd (pc := 28) C dJ5_newCapacity_0f7a4_28 ?_
  refine s_calls (pc := 29) (nA := 3) (as := [vI y2, vI y4, vI (y2 + ((2 : Int32) <<< ((h 6 ti tj 2) &&& 31)))]) (st := []) (stk := [vI (y2 + ((2 : Int32) <<< ((h 6 ti tj 2) &&& 31))), vI y4, vI y2]) C (fun l hl => ctJ8_newLength_cabcc l hl y2 y4 (y2 + ((2 : Int32) <<< ((h 6 ti tj 2) &&& 31))) _ _ H) ⟨⟨kw_1071, kw_83, kw_1073⟩, rfl, ⟨by decide, by decide, by decide +kernel⟩, by decide, by decide⟩ kw_1072 rfl (Nat.le_of_ble_eq_true rfl) ⟨by decide, by decide⟩ rfl dJ5_newCapacity_0f7a4_29 (g_Kq_I (fun u6 h5 H => ?_) (fun E h5 H => s_prop rfl ⟨by decide, by decide⟩ H C))
  refine s_istore (pc := 32) (ls' := [(5, vI u6), (4, vI y4), (3, vI y3), (2, vI y2), (0, vR 6 ti tj), (1, vI p0)]) C dJ5_newCapacity_0f7a4_32 (by decide) rfl ?_
  refine s_iload (pc := 34) C dJ5_newCapacity_0f7a4_34 0 rfl ?_
  refine s_ldci (pc := 36) C kw_1081 dJ5_newCapacity_0f7a4_36 ?_
  refine s_icmp_ne (pc := 38) (tgt := 51) C dJ5_newCapacity_0f7a4_38 (by decide) (fun c => ?_) (fun c => ?_)
  · have H := H.1 c
    refine s_iload (pc := 51) C dJ5_newCapacity_0f7a4_51 0 rfl ?_
    refine s_aload_n (pc := 53) C dJ5_newCapacity_0f7a4_53 rfl 4 rfl ?_
    refine s_geti (pc := 54) (s := 1) ckJ4 (Or.inl rfl) (by decide) kw_240 (fun _ => rfl) C dJ5_newCapacity_0f7a4_54 ?_
    refine s_ishr (pc := 57) C dJ5_newCapacity_0f7a4_57 ?_
    exact s_iret (pc := 58) rfl rfl ⟨by decide, by decide⟩ H C dJ5_newCapacity_0f7a4_58
  · have H := H.2 c
    exact H.elim
theorem ctJ5_newCapacity_0f7a4 (l : Launch) (hl : l.stackTraces = false) {G : g_G} (ti : Nat) (tj : Nat) (p0 : Int32) (h : g_Hp) (Q : g_R → g_Hp → Prop) (H : wJ5_newCapacity_0f7a4 ti tj p0 h Q) : g_Met l y_ G iJ5_newCapacity_0f7a4 [vR 6 ti tj, vI p0] h Q :=
  g_Met_of hl (by decide +kernel) rfl rfl (Nat.le_of_ble_eq_true rfl) (fun X C => vJ5_newCapacity_0f7a4 C ti tj p0 h H)
/-! J7_copyOf_9075b -/
abbrev iJ7_copyOf_9075b : g_I := (RJ7, yJ7_copyOf_9075b, cJ7_copyOf_9075b, 3, (some (.array .byte)), [], { frames := 2, cells := 1, slots := 150, locals := 120 })
set_option maxRecDepth 100000 in
set_option maxHeartbeats 4000000 in
theorem vJ7_copyOf_9075b {G : g_G} {X : g_X} {Q : g_R → g_Hp → Prop} (C : g_Cx y_ G X iJ7_copyOf_9075b) (a0i : Nat) (a0j : Nat) (p1 : Int32) (h : g_Hp) (H : wJ7_copyOf_9075b a0i a0j p1 h Q) : g_V G X iJ7_copyOf_9075b 1 150 Q 0 0 0 [(0, vR 14 a0i a0j), (1, vI p1)] [] h := by
  refine s_iload_n (pc := 0) C dJ7_copyOf_9075b_0 rfl 1 rfl ?_
  refine s_aload_n (pc := 1) C dJ7_copyOf_9075b_1 rfl 0 rfl ?_
  refine s_alen (pc := 2) (kk := 14) (by decide) (by decide) C dJ7_copyOf_9075b_2 ?_
  refine s_icmp_ne (pc := 3) (tgt := 14) C dJ7_copyOf_9075b_3 (by decide) (fun c => ?_) (fun c => ?_)
  · have H := H.1 c
    refine s_iload_n (pc := 14) C dJ7_copyOf_9075b_14 rfl 1 rfl ?_
    obtain ⟨j2, hf, hn, H⟩ := H
    refine s_newB (pc := 15) (i := a0i) (j := j2) (N := 150) kw_253 hf hn.1 hn.2 (by decide) ⟨by decide, by decide⟩ C dJ7_copyOf_9075b_15 ?_
    refine s_name (fun h1 eh1 => ?_)
    have H := H h1 eh1
    refine s_astore_n (pc := 17) (ls' := [(2, vR 14 a0i j2), (0, vR 14 a0i a0j), (1, vI p1)]) C dJ7_copyOf_9075b_17 rfl (by decide) rfl ?_
    refine s_aload_n (pc := 18) C dJ7_copyOf_9075b_18 rfl 1 rfl ?_
    refine s_iconst (pc := 19) C dJ7_copyOf_9075b_19 (x := (0 : Int32)) (by decide) ?_
    refine s_aload_n (pc := 20) C dJ7_copyOf_9075b_20 rfl 0 rfl ?_
    refine s_iconst (pc := 21) C dJ7_copyOf_9075b_21 (x := (0 : Int32)) (by decide) ?_
    refine s_aload_n (pc := 22) C dJ7_copyOf_9075b_22 rfl 1 rfl ?_
    refine s_alen (pc := 23) (kk := 14) (by decide) (by decide) C dJ7_copyOf_9075b_23 ?_
    refine s_iload_n (pc := 24) C dJ7_copyOf_9075b_24 rfl 2 rfl ?_
    refine s_calls (pc := 25) (nA := 2) (as := [vI (Int32.ofNat (g_len h1 14 a0i a0j)), vI p1]) (st := [vI (0 : Int32), vR 14 a0i j2, vI (0 : Int32), vR 14 a0i a0j]) (stk := [vI p1, vI (Int32.ofNat (g_len h1 14 a0i a0j)), vI (0 : Int32), vR 14 a0i j2, vI (0 : Int32), vR 14 a0i a0j]) C (fun l hl => ctJ9_min_7cf53 l hl (Int32.ofNat (g_len h1 14 a0i a0j)) p1 _ _ H) ⟨⟨kw_1092, kw_81, kw_492⟩, rfl, ⟨by decide, by decide, by decide +kernel⟩, by decide, by decide⟩ kw_491 rfl (Nat.le_of_ble_eq_true rfl) ⟨by decide, by decide⟩ rfl dJ7_copyOf_9075b_25 (g_Kq_I (fun u4 h3 H => ?_) (fun E h3 H => s_prop rfl ⟨by decide, by decide⟩ H C))
    refine s_copyB (pc := 28) ⟨kw_1093, kw_1095, kw_1094, kw_85⟩ H.1.1.1 H.1.1.2.1 H.1.1.2.2 H.1.2.1.1 H.1.2.1.2 H.1.2.2 ⟨by decide, Nat.le_of_ble_eq_true rfl⟩ C dJ7_copyOf_9075b_28 ?_
    have H := H.2
    refine s_name (fun h5 eh5 => ?_)
    have H := H h5 eh5
    refine s_aload_n (pc := 31) C dJ7_copyOf_9075b_31 rfl 0 rfl ?_
    exact s_aret (pc := 32) rfl (Or.inr ⟨_, rfl⟩) ⟨by decide, by decide⟩ H C dJ7_copyOf_9075b_32
  · have H := H.2 c
    exact H.elim
theorem ctJ7_copyOf_9075b (l : Launch) (hl : l.stackTraces = false) {G : g_G} (a0i : Nat) (a0j : Nat) (p1 : Int32) (h : g_Hp) (Q : g_R → g_Hp → Prop) (H : wJ7_copyOf_9075b a0i a0j p1 h Q) : g_Met l y_ G iJ7_copyOf_9075b [vR 14 a0i a0j, vI p1] h Q :=
  g_Met_of hl (by decide +kernel) rfl rfl (Nat.le_of_ble_eq_true rfl) (fun X C => vJ7_copyOf_9075b C a0i a0j p1 h H)
/-! J5_ensureCapacityInternal_d00df -/
abbrev iJ5_ensureCapacityInternal_d00df : g_I := (RJ5, yJ5_ensureCapacityInternal_d00df, cJ5_ensureCapacityInternal_d00df, 3, none, [], { frames := 4, cells := 1, slots := 150, locals := 142 })
set_option maxRecDepth 100000 in
set_option maxHeartbeats 4000000 in
theorem vJ5_ensureCapacityInternal_d00df_b38 {G : g_G} {X : g_X} {Q : g_R → g_Hp → Prop} (C : g_Cx y_ G X iJ5_ensureCapacityInternal_d00df) (ti : Nat) (tj : Nat) (h : g_Hp) (H : wJ5_ensureCapacityInternal_d00df_b38 ti tj Q h) : g_V G X iJ5_ensureCapacityInternal_d00df 1 150 Q 38 1 150 [] [] h := by
  exact s_vret (pc := 38) rfl ⟨by decide, by decide⟩ H C dJ5_ensureCapacityInternal_d00df_38
set_option maxRecDepth 100000 in
set_option maxHeartbeats 4000000 in
theorem vJ5_ensureCapacityInternal_d00df {G : g_G} {X : g_X} {Q : g_R → g_Hp → Prop} (C : g_Cx y_ G X iJ5_ensureCapacityInternal_d00df) (ti : Nat) (tj : Nat) (p0 : Int32) (h : g_Hp) (H : wJ5_ensureCapacityInternal_d00df ti tj p0 h Q) : g_V G X iJ5_ensureCapacityInternal_d00df 1 150 Q 0 0 0 [(0, vR 6 ti tj), (1, vI p0)] [] h := by
  refine s_aload_n (pc := 0) C dJ5_ensureCapacityInternal_d00df_0 rfl 0 rfl ?_
  refine s_getr (pc := 1) (s := 0) (a := 14) (b := ti) (c' := ((h 6 ti tj 1).toNatClampNeg - 1)) ckJ4 (by decide) kw_239 rfl C dJ5_ensureCapacityInternal_d00df_1 ?_
  refine s_nmj (fun j1 ej1 => ?_)
  have H := H j1 ej1
  refine s_alen (pc := 4) (kk := 14) (by decide) (by decide) C dJ5_ensureCapacityInternal_d00df_4 ?_
  refine s_aload_n (pc := 5) C dJ5_ensureCapacityInternal_d00df_5 rfl 0 rfl ?_
  refine s_geti (pc := 6) (s := 1) ckJ4 (Or.inl rfl) (by decide) kw_240 (fun _ => rfl) C dJ5_ensureCapacityInternal_d00df_6 ?_
  refine s_ishr (pc := 9) C dJ5_ensureCapacityInternal_d00df_9 ?_
  refine s_namei (fun y2 ey2 => ?_)
  have H := H y2 ey2
  refine s_istore_n (pc := 10) (ls' := [(2, vI y2), (0, vR 6 ti tj), (1, vI p0)]) C dJ5_ensureCapacityInternal_d00df_10 rfl (by decide) rfl ?_
  refine s_iload_n (pc := 11) C dJ5_ensureCapacityInternal_d00df_11 rfl 2 rfl ?_
  refine s_iload_n (pc := 12) C dJ5_ensureCapacityInternal_d00df_12 rfl 0 rfl ?_
  refine s_isub (pc := 13) C dJ5_ensureCapacityInternal_d00df_13 ?_
  refine s_if_le (pc := 14) (tgt := 38) C dJ5_ensureCapacityInternal_d00df_14 (by decide) (fun c => ?_) (fun c => ?_)
  · have H := H.1 c
    exact s_wide (k' := 1) (n' := 150) (by decide) (by decide) <| s_sub (ls' := []) [] rfl (vJ5_ensureCapacityInternal_d00df_b38 C ti tj  h H)
  · have H := H.2 c
    refine s_aload_n (pc := 17) C dJ5_ensureCapacityInternal_d00df_17 rfl 1 rfl ?_
    refine s_aload_n (pc := 18) C dJ5_ensureCapacityInternal_d00df_18 rfl 1 rfl ?_
    refine s_getr (pc := 19) (s := 0) (a := 14) (b := ti) (c' := ((h 6 ti tj 1).toNatClampNeg - 1)) ckJ4 (by decide) kw_239 rfl C dJ5_ensureCapacityInternal_d00df_19 ?_
    refine s_nmj (fun j3 ej3 => ?_)
    have H := H j3 ej3
    refine s_aload_n (pc := 22) C dJ5_ensureCapacityInternal_d00df_22 rfl 1 rfl ?_
    refine s_iload_n (pc := 23) C dJ5_ensureCapacityInternal_d00df_23 rfl 2 rfl ?_
    refine s_callv (pc := 24) (nA := 1) (as := [vI p0]) (st := [vR 14 ti j3, vR 6 ti tj]) (stk := [vI p0, vR 6 ti tj, vR 14 ti j3, vR 6 ti tj]) ckJ4 (Or.inl rfl) C (fun l hl => ctJ5_newCapacity_0f7a4 l hl ti tj p0 _ _ H) ⟨⟨kw_1067, kw_62, kw_1070⟩, rfl, ⟨by decide, by decide, by decide +kernel⟩, by decide, by decide⟩ kw_1069 (g_selW kw_2018) rfl (Nat.le_of_ble_eq_true rfl) ⟨by decide, by decide⟩ rfl dJ5_ensureCapacityInternal_d00df_24 (g_Kq_I (fun u5 h4 H => ?_) (fun E h4 H => s_prop rfl ⟨by decide, by decide⟩ H C))
    refine s_aload_n (pc := 27) C dJ5_ensureCapacityInternal_d00df_27 rfl 1 rfl ?_
    refine s_geti (pc := 28) (s := 1) ckJ4 (Or.inl rfl) (by decide) kw_240 (fun _ => rfl) C dJ5_ensureCapacityInternal_d00df_28 ?_
    refine s_ishl (pc := 31) C dJ5_ensureCapacityInternal_d00df_31 ?_
    refine s_calls (pc := 32) (nA := 2) (as := [vR 14 ti j3, vI (u5 <<< ((h4 6 ti tj 2) &&& 31))]) (st := [vR 6 ti tj]) (stk := [vI (u5 <<< ((h4 6 ti tj 2) &&& 31)), vR 14 ti j3, vR 6 ti tj]) C (fun l hl => ctJ7_copyOf_9075b l hl ti j3 (u5 <<< ((h4 6 ti tj 2) &&& 31)) _ _ H) ⟨⟨kw_1082, kw_84, kw_1084⟩, rfl, ⟨by decide, by decide, by decide +kernel⟩, by decide, by decide⟩ kw_1083 rfl (Nat.le_of_ble_eq_true rfl) ⟨by decide, by decide⟩ rfl dJ5_ensureCapacityInternal_d00df_32 (g_Kq_R (fun i7 j8 h6 H => ?_) (fun E h6 H => s_prop rfl ⟨by decide, by decide⟩ H C))
    refine s_putr (pc := 35) (s := 0) (x := Int32.ofNat (j8 + 1)) (a := 14) (b := i7) (c' := j8) ckJ4 (Or.inl rfl) (by decide) kw_239 (g_rtq_60b H.1.2.1 H.1.2.2) H.1.1 (Or.inl rfl) (by decide) (Or.inl rfl) (fun _ => rfl) (fun _ => rfl) C dJ5_ensureCapacityInternal_d00df_35 ?_
    have H := H.2
    refine s_name (fun h9 eh9 => ?_)
    have H := H h9 eh9
    exact s_sub (ls' := []) [] rfl (vJ5_ensureCapacityInternal_d00df_b38 C ti tj  h9 H)
theorem ctJ5_ensureCapacityInternal_d00df (l : Launch) (hl : l.stackTraces = false) {G : g_G} (ti : Nat) (tj : Nat) (p0 : Int32) (h : g_Hp) (Q : g_R → g_Hp → Prop) (H : wJ5_ensureCapacityInternal_d00df ti tj p0 h Q) : g_Met l y_ G iJ5_ensureCapacityInternal_d00df [vR 6 ti tj, vI p0] h Q :=
  g_Met_of hl (by decide +kernel) rfl rfl (Nat.le_of_ble_eq_true rfl) (fun X C => vJ5_ensureCapacityInternal_d00df C ti tj p0 h H)
/-! J5_isLatin1_aae02 -/
abbrev iJ5_isLatin1_aae02 : g_I := (RJ5, yJ5_isLatin1_aae02, cJ5_isLatin1_aae02, 1, (some .boolean), [], { frames := 1, cells := 0, slots := 0, locals := 20 })
set_option maxRecDepth 100000 in
set_option maxHeartbeats 4000000 in
theorem vJ5_isLatin1_aae02_b18 {G : g_G} {X : g_X} {Q : g_R → g_Hp → Prop} (C : g_Cx y_ G X iJ5_isLatin1_aae02) (ti : Nat) (tj : Nat) (z0 : Int32) (h : g_Hp) (H : wJ5_isLatin1_aae02_b18 ti tj Q z0 h) : g_V G X iJ5_isLatin1_aae02 0 0 Q 18 0 0 [] [vI z0] h := by
  exact s_iret (pc := 18) rfl (g_nz H.1) ⟨by decide, by decide⟩ H.2 C dJ5_isLatin1_aae02_18
set_option maxRecDepth 100000 in
set_option maxHeartbeats 4000000 in
theorem vJ5_isLatin1_aae02_b17 {G : g_G} {X : g_X} {Q : g_R → g_Hp → Prop} (C : g_Cx y_ G X iJ5_isLatin1_aae02) (ti : Nat) (tj : Nat) (h : g_Hp) (H : wJ5_isLatin1_aae02_b17 ti tj Q h) : g_V G X iJ5_isLatin1_aae02 0 0 Q 17 0 0 [] [] h := by
  refine s_iconst (pc := 17) C dJ5_isLatin1_aae02_17 (x := (0 : Int32)) (by decide) ?_
  exact s_sub (ls' := []) [] rfl (vJ5_isLatin1_aae02_b18 C ti tj (0 : Int32) h H)
set_option maxRecDepth 100000 in
set_option maxHeartbeats 4000000 in
theorem vJ5_isLatin1_aae02 {G : g_G} {X : g_X} {Q : g_R → g_Hp → Prop} (C : g_Cx y_ G X iJ5_isLatin1_aae02) (ti : Nat) (tj : Nat) (h : g_Hp) (H : wJ5_isLatin1_aae02 ti tj h Q) : g_V G X iJ5_isLatin1_aae02 0 0 Q 0 0 0 [(0, vR 6 ti tj)] [] h := by
  refine s_gets (pc := 0) zs_COMPACT_STRINGS trivial kw_230 C dJ5_isLatin1_aae02_0 ?_
  refine s_if_eq (pc := 3) (tgt := 17) C dJ5_isLatin1_aae02_3 (by decide) (fun c => ?_) (fun c => ?_)
  · have H := H.1 c
    exact s_sub (ls' := []) [] rfl (vJ5_isLatin1_aae02_b17 C ti tj  h H)
  · have H := H.2 c
    refine s_aload_n (pc := 6) C dJ5_isLatin1_aae02_6 rfl 0 rfl ?_
    refine s_geti (pc := 7) (s := 1) ckJ4 (Or.inl rfl) (by decide) kw_240 (fun _ => rfl) C dJ5_isLatin1_aae02_7 ?_
    refine s_if_ne (pc := 10) (tgt := 17) C dJ5_isLatin1_aae02_10 (by decide) (fun c => ?_) (fun c => ?_)
    · have H := H.1 c
      exact s_sub (ls' := []) [] rfl (vJ5_isLatin1_aae02_b17 C ti tj  h H)
    · have H := H.2 c
      refine s_iconst (pc := 13) C dJ5_isLatin1_aae02_13 (x := (1 : Int32)) (by decide) ?_
      refine s_goto (pc := 14) (tgt := 18) C dJ5_isLatin1_aae02_14 (by decide) ?_
      exact s_sub (ls' := []) [] rfl (vJ5_isLatin1_aae02_b18 C ti tj (1 : Int32) h H)
theorem ctJ5_isLatin1_aae02 (l : Launch) (hl : l.stackTraces = false) {G : g_G} (ti : Nat) (tj : Nat) (h : g_Hp) (Q : g_R → g_Hp → Prop) (H : wJ5_isLatin1_aae02 ti tj h Q) : g_Met l y_ G iJ5_isLatin1_aae02 [vR 6 ti tj] h Q :=
  g_Met_of hl (by decide +kernel) rfl rfl (Nat.le_of_ble_eq_true rfl) (fun X C => vJ5_isLatin1_aae02 C ti tj h H)
/-! J1_canEncode_fc78d -/
abbrev iJ1_canEncode_fc78d : g_I := (RJ1, yJ1_canEncode_fc78d, cJ1_canEncode_fc78d, 1, (some .boolean), [], { frames := 1, cells := 0, slots := 0, locals := 20 })
set_option maxRecDepth 100000 in
set_option maxHeartbeats 4000000 in
theorem vJ1_canEncode_fc78d_b12 {G : g_G} {X : g_X} {Q : g_R → g_Hp → Prop} (C : g_Cx y_ G X iJ1_canEncode_fc78d) (z0 : Int32) (h : g_Hp) (H : wJ1_canEncode_fc78d_b12 Q z0 h) : g_V G X iJ1_canEncode_fc78d 0 0 Q 12 0 0 [] [vI z0] h := by
  exact s_iret (pc := 12) rfl (g_nz H.1) ⟨by decide, by decide⟩ H.2 C dJ1_canEncode_fc78d_12
set_option maxRecDepth 100000 in
set_option maxHeartbeats 4000000 in
theorem vJ1_canEncode_fc78d {G : g_G} {X : g_X} {Q : g_R → g_Hp → Prop} (C : g_Cx y_ G X iJ1_canEncode_fc78d) (p0 : Int32) (h : g_Hp) (H : wJ1_canEncode_fc78d p0 h Q) : g_V G X iJ1_canEncode_fc78d 0 0 Q 0 0 0 [(0, vI p0)] [] h := by
  refine s_iload_n (pc := 0) C dJ1_canEncode_fc78d_0 rfl 0 rfl ?_
  refine s_sipush (pc := 1) C dJ1_canEncode_fc78d_1 (x := (255 : Int32)) (by decide) ?_
  refine s_icmp_gt (pc := 4) (tgt := 11) C dJ1_canEncode_fc78d_4 (by decide) (fun c => ?_) (fun c => ?_)
  · have H := H.1 c
    refine s_iconst (pc := 11) C dJ1_canEncode_fc78d_11 (x := (0 : Int32)) (by decide) ?_
    exact s_sub (ls' := []) [] rfl (vJ1_canEncode_fc78d_b12 C (0 : Int32) h H)
  · have H := H.2 c
    refine s_iconst (pc := 7) C dJ1_canEncode_fc78d_7 (x := (1 : Int32)) (by decide) ?_
    refine s_goto (pc := 8) (tgt := 12) C dJ1_canEncode_fc78d_8 (by decide) ?_
    exact s_sub (ls' := []) [] rfl (vJ1_canEncode_fc78d_b12 C (1 : Int32) h H)
theorem ctJ1_canEncode_fc78d (l : Launch) (hl : l.stackTraces = false) {G : g_G} (p0 : Int32) (h : g_Hp) (Q : g_R → g_Hp → Prop) (H : wJ1_canEncode_fc78d p0 h Q) : g_Met l y_ G iJ1_canEncode_fc78d [vI p0] h Q :=
  g_Met_of hl (by decide +kernel) rfl rfl (Nat.le_of_ble_eq_true rfl) (fun X C => vJ1_canEncode_fc78d C p0 h H)
/-! J5_init_d00df -/
abbrev iJ5_init_d00df : g_I := (RJ5, yJ5_init_d00df, cJ5_init_d00df, 2, none, [], { frames := 1, cells := 1, slots := 16, locals := 20 })
set_option maxRecDepth 100000 in
set_option maxHeartbeats 4000000 in
theorem vJ5_init_d00df {G : g_G} {X : g_X} {Q : g_R → g_Hp → Prop} (C : g_Cx y_ G X iJ5_init_d00df) (ti : Nat) (tj : Nat) (p0 : Int32) (h : g_Hp) (H : wJ5_init_d00df ti tj p0 h Q) : g_V G X iJ5_init_d00df 1 16 Q 0 0 0 [(0, vR 46 ti tj), (1, vI p0)] [] h := by
  refine s_aload_n (pc := 0) C dJ5_init_d00df_0 rfl 0 rfl ?_
  refine s_obj (pc := 1) C kw_229 kw_97 kw_98 (Nat.le_of_ble_eq_true rfl) ⟨by decide, by decide⟩ dJ5_init_d00df_1 ?_
  refine s_gets (pc := 4) zs_COMPACT_STRINGS trivial kw_230 C dJ5_init_d00df_4 ?_
  refine s_if_eq (pc := 7) (tgt := 25) C dJ5_init_d00df_7 (by decide) (fun c => ?_) (fun c => ?_)
  · have H := H.1 c
    exact H.elim
  · have H := H.2 c
    refine s_aload_n (pc := 10) C dJ5_init_d00df_10 rfl 0 rfl ?_
    refine s_iload_n (pc := 11) C dJ5_init_d00df_11 rfl 1 rfl ?_
    obtain ⟨j2, hf, hn, H⟩ := H
    refine s_newB (pc := 12) (i := ti) (j := j2) (N := 16) kw_253 hf hn.1 hn.2 (by decide) ⟨by decide, by decide⟩ C dJ5_init_d00df_12 ?_
    refine s_name (fun h1 eh1 => ?_)
    have H := H h1 eh1
    refine s_putr (pc := 14) (s := 0) (x := Int32.ofNat (j2 + 1)) (a := 14) (b := ti) (c' := j2) ckJ4 (Or.inr rfl) (by decide) kw_239 (g_rtq_60 H.1.2) H.1.1 (Or.inl rfl) (by decide) (Or.inl rfl) (fun _ => rfl) (fun _ => rfl) C dJ5_init_d00df_14 ?_
    have H := H.2
    refine s_name (fun h3 eh3 => ?_)
    have H := H h3 eh3
    refine s_aload_n (pc := 17) C dJ5_init_d00df_17 rfl 0 rfl ?_
    refine s_iconst (pc := 18) C dJ5_init_d00df_18 (x := (0 : Int32)) (by decide) ?_
    refine s_puti (pc := 19) (s := 1) ckJ4 (Or.inr rfl) (by decide) kw_240 (fun _ => rfl) rfl (by decide) (by decide) C dJ5_init_d00df_19 ?_
    refine s_name (fun h4 eh4 => ?_)
    have H := H h4 eh4
    refine s_goto (pc := 22) (tgt := 38) C dJ5_init_d00df_22 (by decide) ?_
    exact s_vret (pc := 38) rfl ⟨by decide, by decide⟩ H C dJ5_init_d00df_38
theorem ctJ5_init_d00df (l : Launch) (hl : l.stackTraces = false) {G : g_G} (ti : Nat) (tj : Nat) (p0 : Int32) (h : g_Hp) (Q : g_R → g_Hp → Prop) (H : wJ5_init_d00df ti tj p0 h Q) : g_Met l y_ G iJ5_init_d00df [vR 46 ti tj, vI p0] h Q :=
  g_Met_of hl (by decide +kernel) rfl rfl (Nat.le_of_ble_eq_true rfl) (fun X C => vJ5_init_d00df C ti tj p0 h H)
/-! J4_init_da8c8 -/
abbrev iJ4_init_da8c8 : g_I := (RJ4, yJ4_init_da8c8, cJ4_init_da8c8, 1, none, [], { frames := 2, cells := 1, slots := 16, locals := 41 })
set_option maxRecDepth 100000 in
set_option maxHeartbeats 4000000 in
theorem vJ4_init_da8c8 {G : g_G} {X : g_X} {Q : g_R → g_Hp → Prop} (C : g_Cx y_ G X iJ4_init_da8c8) (ti : Nat) (tj : Nat) (h : g_Hp) (H : wJ4_init_da8c8 ti tj h Q) : g_V G X iJ4_init_da8c8 1 16 Q 0 0 0 [(0, vR 46 ti tj)] [] h := by
  refine s_aload_n (pc := 0) C dJ4_init_da8c8_0 rfl 0 rfl ?_
  refine s_bipush (pc := 1) C dJ4_init_da8c8_1 (x := (16 : Int32)) (by decide) ?_
  refine s_calli (pc := 3) (nA := 1) (as := [vI (16 : Int32)]) (st := []) (stk := [vI (16 : Int32), vR 46 ti tj]) C (fun l hl => ctJ5_init_d00df l hl ti tj (16 : Int32) _ _ H) ⟨⟨kw_226, kw_62, kw_228⟩, rfl, ⟨by decide, by decide, by decide +kernel⟩, by decide, by decide⟩ kw_227 rfl rfl rfl (Nat.le_of_ble_eq_true rfl) ⟨by decide, by decide⟩ rfl dJ4_init_da8c8_3 (g_Kq_V (fun h1 H => ?_) (fun E h1 H => s_prop rfl ⟨by decide, by decide⟩ H C))
  refine s_sealS (Y := y_) (kk := 6) (i := ti) (j := tj) (by decide) H.1 ?_
  have H := H.2
  refine s_name (fun h2 eh2 => ?_)
  have H := H h2 eh2
  exact s_vret (pc := 6) rfl ⟨by decide, by decide⟩ H C dJ4_init_da8c8_6
theorem ctJ4_init_da8c8 (l : Launch) (hl : l.stackTraces = false) {G : g_G} (ti : Nat) (tj : Nat) (h : g_Hp) (Q : g_R → g_Hp → Prop) (H : wJ4_init_da8c8 ti tj h Q) : g_Met l y_ G iJ4_init_da8c8 [vR 46 ti tj] h Q :=
  g_Met_of hl (by decide +kernel) rfl rfl (Nat.le_of_ble_eq_true rfl) (fun X C => vJ4_init_da8c8 C ti tj h H)
/-! J5_length_8abf5 -/
abbrev iJ5_length_8abf5 : g_I := (RJ5, yJ5_length_8abf5, cJ5_length_8abf5, 1, (some .int), [], { frames := 1, cells := 0, slots := 0, locals := 20 })
set_option maxRecDepth 100000 in
set_option maxHeartbeats 4000000 in
theorem vJ5_length_8abf5 {G : g_G} {X : g_X} {Q : g_R → g_Hp → Prop} (C : g_Cx y_ G X iJ5_length_8abf5) (ti : Nat) (tj : Nat) (h : g_Hp) (H : wJ5_length_8abf5 ti tj h Q) : g_V G X iJ5_length_8abf5 0 0 Q 0 0 0 [(0, vR 6 ti tj)] [] h := by
  refine s_aload_n (pc := 0) C dJ5_length_8abf5_0 rfl 0 rfl ?_
  refine s_geti (pc := 1) (s := 3) ckJ4 (Or.inl rfl) (by decide) kw_243 (fun _ => rfl) C dJ5_length_8abf5_1 ?_
  exact s_iret (pc := 4) rfl rfl ⟨by decide, by decide⟩ H C dJ5_length_8abf5_4
theorem ctJ5_length_8abf5 (l : Launch) (hl : l.stackTraces = false) {G : g_G} (ti : Nat) (tj : Nat) (h : g_Hp) (Q : g_R → g_Hp → Prop) (H : wJ5_length_8abf5 ti tj h Q) : g_Met l y_ G iJ5_length_8abf5 [vR 6 ti tj] h Q :=
  g_Met_of hl (by decide +kernel) rfl rfl (Nat.le_of_ble_eq_true rfl) (fun X C => vJ5_length_8abf5 C ti tj h H)
/-! J4_length_8abf5 -/
abbrev iJ4_length_8abf5 : g_I := (RJ4, yJ4_length_8abf5, cJ4_length_8abf5, 1, (some .int), [], { frames := 2, cells := 0, slots := 0, locals := 40 })
set_option maxRecDepth 100000 in
set_option maxHeartbeats 4000000 in
theorem vJ4_length_8abf5 {G : g_G} {X : g_X} {Q : g_R → g_Hp → Prop} (C : g_Cx y_ G X iJ4_length_8abf5) (ti : Nat) (tj : Nat) (h : g_Hp) (H : wJ4_length_8abf5 ti tj h Q) : g_V G X iJ4_length_8abf5 0 0 Q 0 0 0 [(0, vR 6 ti tj)] [] h := by
  refine s_aload_n (pc := 0) C dJ4_length_8abf5_0 rfl 0 rfl ?_
  refine s_callsu (pc := 1) (nA := 0) (as := []) (st := []) (stk := [vR 6 ti tj]) ckJ4 C (fun l hl => ctJ5_length_8abf5 l hl ti tj _ _ H) ⟨kw_1052, kw_1960, kw_252, kw_1053, kw_62, kw_1054⟩ rfl ⟨by decide, by decide +kernel⟩ ⟨by decide, by decide⟩ rfl (Nat.le_of_ble_eq_true rfl) ⟨by decide, by decide⟩ rfl dJ4_length_8abf5_1 (g_Kq_I (fun u2 h1 H => ?_) (fun E h1 H => s_prop rfl ⟨by decide, by decide⟩ H C))
  exact s_iret (pc := 4) rfl rfl ⟨by decide, by decide⟩ H C dJ4_length_8abf5_4
theorem ctJ4_length_8abf5 (l : Launch) (hl : l.stackTraces = false) {G : g_G} (ti : Nat) (tj : Nat) (h : g_Hp) (Q : g_R → g_Hp → Prop) (H : wJ4_length_8abf5 ti tj h Q) : g_Met l y_ G iJ4_length_8abf5 [vR 6 ti tj] h Q :=
  g_Met_of hl (by decide +kernel) rfl rfl (Nat.le_of_ble_eq_true rfl) (fun X C => vJ4_length_8abf5 C ti tj h H)
/-! J5_append_3fe6f -/
abbrev iJ5_append_3fe6f : g_I := (RJ5, yJ5_append_3fe6f, cJ5_append_3fe6f, 2, (some (.object "java/lang/AbstractStringBuilder")), [], { frames := 5, cells := 1, slots := 150, locals := 164 })
set_option maxRecDepth 100000 in
set_option maxHeartbeats 4000000 in
theorem vJ5_append_3fe6f_b45 {G : g_G} {X : g_X} {Q : g_R → g_Hp → Prop} (C : g_Cx y_ G X iJ5_append_3fe6f) (ti : Nat) (tj : Nat) (h : g_Hp) (H : wJ5_append_3fe6f_b45 ti tj Q h) : g_V G X iJ5_append_3fe6f 1 150 Q 45 1 150 [(0, vR 6 ti tj)] [] h := by
  exact H.elim
set_option maxRecDepth 100000 in
set_option maxHeartbeats 4000000 in
theorem vJ5_append_3fe6f {G : g_G} {X : g_X} {Q : g_R → g_Hp → Prop} (C : g_Cx y_ G X iJ5_append_3fe6f) (ti : Nat) (tj : Nat) (p0 : Int32) (h : g_Hp) (H : wJ5_append_3fe6f ti tj p0 h Q) : g_V G X iJ5_append_3fe6f 1 150 Q 0 0 0 [(0, vR 6 ti tj), (1, vI p0)] [] h := by
  refine s_aload_n (pc := 0) C dJ5_append_3fe6f_0 rfl 0 rfl ?_
  refine s_aload_n (pc := 1) C dJ5_append_3fe6f_1 rfl 0 rfl ?_
  refine s_geti (pc := 2) (s := 3) ckJ4 (Or.inl rfl) (by decide) kw_243 (fun _ => rfl) C dJ5_append_3fe6f_2 ?_
  refine s_iconst (pc := 5) C dJ5_append_3fe6f_5 (x := (1 : Int32)) (by decide) ?_
  refine s_iadd (pc := 6) C dJ5_append_3fe6f_6 ?_
  refine s_callv (pc := 7) (nA := 1) (as := [vI ((h 6 ti tj 4) + (1 : Int32))]) (st := []) (stk := [vI ((h 6 ti tj 4) + (1 : Int32)), vR 6 ti tj]) ckJ4 (Or.inl rfl) C (fun l hl => ctJ5_ensureCapacityInternal_d00df l hl ti tj ((h 6 ti tj 4) + (1 : Int32)) _ _ H) ⟨⟨kw_1063, kw_62, kw_1066⟩, rfl, ⟨by decide, by decide, by decide +kernel⟩, by decide, by decide⟩ kw_1065 (g_selW kw_2019) rfl (Nat.le_of_ble_eq_true rfl) ⟨by decide, by decide⟩ rfl dJ5_append_3fe6f_7 (g_Kq_V (fun h1 H => ?_) (fun E h1 H => s_prop rfl ⟨by decide, by decide⟩ H C))
  refine s_aload_n (pc := 10) C dJ5_append_3fe6f_10 rfl 0 rfl ?_
  refine s_callv (pc := 11) (nA := 0) (as := []) (st := []) (stk := [vR 6 ti tj]) ckJ4 (Or.inl rfl) C (fun l hl => ctJ5_isLatin1_aae02 l hl ti tj _ _ H) ⟨⟨kw_1096, kw_62, kw_1100⟩, rfl, ⟨by decide, by decide, by decide +kernel⟩, by decide, by decide⟩ kw_1097 (g_selW kw_1099) rfl (Nat.le_of_ble_eq_true rfl) ⟨by decide, by decide⟩ rfl dJ5_append_3fe6f_11 (g_Kq_I (fun u3 h2 H => ?_) (fun E h2 H => s_prop rfl ⟨by decide, by decide⟩ H C))
  refine s_if_eq (pc := 14) (tgt := 45) C dJ5_append_3fe6f_14 (by decide) (fun c => ?_) (fun c => ?_)
  · have H := H.1 c
    exact s_sub (ls' := [(0, vR 6 ti tj)]) [0] rfl (vJ5_append_3fe6f_b45 C ti tj  h2 H)
  · have H := H.2 c
    refine s_iload_n (pc := 17) C dJ5_append_3fe6f_17 rfl 1 rfl ?_
    refine s_calls (pc := 18) (nA := 1) (as := [vI p0]) (st := []) (stk := [vI p0]) C (fun l hl => ctJ1_canEncode_fc78d l hl p0 _ _ H) ⟨⟨kw_1101, kw_86, kw_1103⟩, rfl, ⟨by decide, by decide, by decide +kernel⟩, by decide, by decide⟩ kw_1102 rfl (Nat.le_of_ble_eq_true rfl) ⟨by decide, by decide⟩ rfl dJ5_append_3fe6f_18 (g_Kq_I (fun u5 h4 H => ?_) (fun E h4 H => s_prop rfl ⟨by decide, by decide⟩ H C))
    refine s_if_eq (pc := 21) (tgt := 45) C dJ5_append_3fe6f_21 (by decide) (fun c => ?_) (fun c => ?_)
    · have H := H.1 c
      exact s_sub (ls' := [(0, vR 6 ti tj)]) [0] rfl (vJ5_append_3fe6f_b45 C ti tj  h4 H)
    · have H := H.2 c
      refine s_aload_n (pc := 24) C dJ5_append_3fe6f_24 rfl 0 rfl ?_
      refine s_getr (pc := 25) (s := 0) (a := 14) (b := ti) (c' := ((h4 6 ti tj 1).toNatClampNeg - 1)) ckJ4 (by decide) kw_239 rfl C dJ5_append_3fe6f_25 ?_
      refine s_nmj (fun j6 ej6 => ?_)
      have H := H j6 ej6
      refine s_aload_n (pc := 28) C dJ5_append_3fe6f_28 rfl 0 rfl ?_
      refine s_dup (pc := 29) C dJ5_append_3fe6f_29 rfl ?_
      refine s_geti (pc := 30) (s := 3) ckJ4 (Or.inl rfl) (by decide) kw_243 (fun _ => rfl) C dJ5_append_3fe6f_30 ?_
      refine s_dup_x1 (pc := 33) C dJ5_append_3fe6f_33 rfl rfl ?_
      refine s_iconst (pc := 34) C dJ5_append_3fe6f_34 (x := (1 : Int32)) (by decide) ?_
      refine s_iadd (pc := 35) C dJ5_append_3fe6f_35 ?_
      refine s_puti (pc := 36) (s := 3) ckJ4 (Or.inl rfl) (by decide) kw_243 (fun _ => rfl) rfl rfl rfl C dJ5_append_3fe6f_36 ?_
      refine s_name (fun h7 eh7 => ?_)
      have H := H h7 eh7
      refine s_iload_n (pc := 39) C dJ5_append_3fe6f_39 rfl 1 rfl ?_
      refine s_i2b (pc := 40) C dJ5_append_3fe6f_40 ?_
      refine s_bast (pc := 41) H.1 C dJ5_append_3fe6f_41 ?_
      have H := H.2
      refine s_name (fun h8 eh8 => ?_)
      have H := H h8 eh8
      refine s_goto (pc := 42) (tgt := 75) C dJ5_append_3fe6f_42 (by decide) ?_
      refine s_aload_n (pc := 75) C dJ5_append_3fe6f_75 rfl 0 rfl ?_
      exact s_aret (pc := 76) rfl (Or.inl ⟨_, rfl⟩) ⟨by decide, by decide⟩ H C dJ5_append_3fe6f_76
theorem ctJ5_append_3fe6f (l : Launch) (hl : l.stackTraces = false) {G : g_G} (ti : Nat) (tj : Nat) (p0 : Int32) (h : g_Hp) (Q : g_R → g_Hp → Prop) (H : wJ5_append_3fe6f ti tj p0 h Q) : g_Met l y_ G iJ5_append_3fe6f [vR 6 ti tj, vI p0] h Q :=
  g_Met_of hl (by decide +kernel) rfl rfl (Nat.le_of_ble_eq_true rfl) (fun X C => vJ5_append_3fe6f C ti tj p0 h H)
/-! J4_append_cf468 -/
abbrev iJ4_append_cf468 : g_I := (RJ4, yJ4_append_cf468, cJ4_append_cf468, 2, (some (.object "java/lang/StringBuilder")), [], { frames := 6, cells := 1, slots := 150, locals := 185 })
set_option maxRecDepth 100000 in
set_option maxHeartbeats 4000000 in
theorem vJ4_append_cf468 {G : g_G} {X : g_X} {Q : g_R → g_Hp → Prop} (C : g_Cx y_ G X iJ4_append_cf468) (ti : Nat) (tj : Nat) (p0 : Int32) (h : g_Hp) (H : wJ4_append_cf468 ti tj p0 h Q) : g_V G X iJ4_append_cf468 1 150 Q 0 0 0 [(0, vR 6 ti tj), (1, vI p0)] [] h := by
  refine s_aload_n (pc := 0) C dJ4_append_cf468_0 rfl 0 rfl ?_
  refine s_iload_n (pc := 1) C dJ4_append_cf468_1 rfl 1 rfl ?_
  refine s_callsu (pc := 2) (nA := 1) (as := [vI p0]) (st := []) (stk := [vI p0, vR 6 ti tj]) ckJ4 C (fun l hl => ctJ5_append_3fe6f l hl ti tj p0 _ _ H) ⟨kw_1060, kw_1961, kw_252, kw_1061, kw_62, kw_1062⟩ rfl ⟨by decide, by decide +kernel⟩ ⟨by decide, by decide⟩ rfl (Nat.le_of_ble_eq_true rfl) ⟨by decide, by decide⟩ rfl dJ4_append_cf468_2 (g_Kq_R (fun i2 j3 h1 H => ?_) (fun E h1 H => s_prop rfl ⟨by decide, by decide⟩ H C))
  refine s_pop (pc := 5) C dJ4_append_cf468_5 rfl ?_
  refine s_aload_n (pc := 6) C dJ4_append_cf468_6 rfl 0 rfl ?_
  exact s_aret (pc := 7) rfl (Or.inl ⟨_, rfl⟩) ⟨by decide, by decide⟩ H C dJ4_append_cf468_7
theorem ctJ4_append_cf468 (l : Launch) (hl : l.stackTraces = false) {G : g_G} (ti : Nat) (tj : Nat) (p0 : Int32) (h : g_Hp) (Q : g_R → g_Hp → Prop) (H : wJ4_append_cf468 ti tj p0 h Q) : g_Met l y_ G iJ4_append_cf468 [vR 6 ti tj, vI p0] h Q :=
  g_Met_of hl (by decide +kernel) rfl rfl (Nat.le_of_ble_eq_true rfl) (fun X C => vJ4_append_cf468 C ti tj p0 h H)
/-! J6_stringSize_0f7a4 -/
abbrev iJ6_stringSize_0f7a4 : g_I := (RJ6, yJ6_stringSize_0f7a4, cJ6_stringSize_0f7a4, 4, (some .int), [], { frames := 1, cells := 0, slots := 0, locals := 20 })
set_option maxRecDepth 100000 in
set_option maxHeartbeats 4000000 in
theorem vJ6_stringSize_0f7a4_b16_B {G : g_G} {X : g_X} {Q : g_R → g_Hp → Prop} (C : g_Cx y_ G X iJ6_stringSize_0f7a4) (R16 : Int32 → Int32 → Int32 → Int32 → g_Hp → Prop) (hR16 : ∀ (x0 : Int32) (x1 : Int32) (x2 : Int32) (x3 : Int32) (h : g_Hp), R16 x0 x1 x2 x3 h → g_V G X iJ6_stringSize_0f7a4 0 0 Q 16 0 0 [(0, vI x0), (1, vI x1), (2, vI x2), (3, vI x3)] [] h) (x0 : Int32) (x1 : Int32) (x2 : Int32) (x3 : Int32) (h : g_Hp) (H : wJ6_stringSize_0f7a4_b16_B Q R16 x0 x1 x2 x3 h) : g_V G X iJ6_stringSize_0f7a4 0 0 Q 16 0 0 [(0, vI x0), (1, vI x1), (2, vI x2), (3, vI x3)] [] h := by
  refine s_iload_n (pc := 16) C dJ6_stringSize_0f7a4_16 rfl 3 rfl ?_
  refine s_bipush (pc := 17) C dJ6_stringSize_0f7a4_17 (x := (10 : Int32)) (by decide) ?_
  refine s_icmp_ge (pc := 19) (tgt := 42) C dJ6_stringSize_0f7a4_19 (by decide) (fun c => ?_) (fun c => ?_)
  · have H := H.1 c
    refine s_bipush (pc := 42) C dJ6_stringSize_0f7a4_42 (x := (10 : Int32)) (by decide) ?_
    refine s_iload_n (pc := 44) C dJ6_stringSize_0f7a4_44 rfl 1 rfl ?_
    refine s_iadd (pc := 45) C dJ6_stringSize_0f7a4_45 ?_
    exact s_iret (pc := 46) rfl rfl ⟨by decide, by decide⟩ H C dJ6_stringSize_0f7a4_46
  · have H := H.2 c
    refine s_iload_n (pc := 22) C dJ6_stringSize_0f7a4_22 rfl 0 rfl ?_
    refine s_iload_n (pc := 23) C dJ6_stringSize_0f7a4_23 rfl 2 rfl ?_
    refine s_icmp_le (pc := 24) (tgt := 31) C dJ6_stringSize_0f7a4_24 (by decide) (fun c => ?_) (fun c => ?_)
    · have H := H.1 c
      refine s_bipush (pc := 31) C dJ6_stringSize_0f7a4_31 (x := (10 : Int32)) (by decide) ?_
      refine s_iload_n (pc := 33) C dJ6_stringSize_0f7a4_33 rfl 2 rfl ?_
      refine s_imul (pc := 34) C dJ6_stringSize_0f7a4_34 ?_
      refine s_namei (fun y1 ey1 => ?_)
      have H := H y1 ey1
      refine s_istore_n (pc := 35) (ls' := [(2, vI y1), (0, vI x0), (1, vI x1), (3, vI x3)]) C dJ6_stringSize_0f7a4_35 rfl (by decide) rfl ?_
      refine s_iincN (pc := 36) C dJ6_stringSize_0f7a4_36 3 rfl (z' := (1 : Int32)) (by decide) (by decide) (fun y2 ey2 => ?_)
      have H := H y2 ey2
      show g_V _ _ _ _ _ _ _ _ _ [(3, vI y2), (2, vI y1), (0, vI x0), (1, vI x1)] _ _
      refine s_goto (pc := 39) (tgt := 16) C dJ6_stringSize_0f7a4_39 (by decide) ?_
      exact s_sub (ls' := [(0, vI x0), (1, vI x1), (2, vI y1), (3, vI y2)]) [2, 3, 1, 0] rfl (hR16 x0 x1 y1 y2 h H)
    · have H := H.2 c
      refine s_iload_n (pc := 27) C dJ6_stringSize_0f7a4_27 rfl 3 rfl ?_
      refine s_iload_n (pc := 28) C dJ6_stringSize_0f7a4_28 rfl 1 rfl ?_
      refine s_iadd (pc := 29) C dJ6_stringSize_0f7a4_29 ?_
      exact s_iret (pc := 30) rfl rfl ⟨by decide, by decide⟩ H C dJ6_stringSize_0f7a4_30
theorem vJ6_stringSize_0f7a4_b16 {G : g_G} {X : g_X} {Q : g_R → g_Hp → Prop} (C : g_Cx y_ G X iJ6_stringSize_0f7a4) (x0 : Int32) (x1 : Int32) (x2 : Int32) (x3 : Int32) (h : g_Hp) (H : wJ6_stringSize_0f7a4_b16 Q x0 x1 x2 x3 h) : g_V G X iJ6_stringSize_0f7a4 0 0 Q 16 0 0 [(0, vI x0), (1, vI x1), (2, vI x2), (3, vI x3)] [] h := by
  obtain ⟨n, H⟩ := H
  induction n generalizing x0 x1 x2 x3 h with
  | zero => exact H.elim
  | succ n ih => exact vJ6_stringSize_0f7a4_b16_B C _ (fun x0 x1 x2 x3 h H => ih x0 x1 x2 x3 h H) x0 x1 x2 x3 h H
set_option maxRecDepth 100000 in
set_option maxHeartbeats 4000000 in
theorem vJ6_stringSize_0f7a4_b11 {G : g_G} {X : g_X} {Q : g_R → g_Hp → Prop} (C : g_Cx y_ G X iJ6_stringSize_0f7a4) (x0 : Int32) (x1 : Int32) (h : g_Hp) (H : wJ6_stringSize_0f7a4_b11 Q x0 x1 h) : g_V G X iJ6_stringSize_0f7a4 0 0 Q 11 0 0 [(0, vI x0), (1, vI x1)] [] h := by
  refine s_bipush (pc := 11) C dJ6_stringSize_0f7a4_11 (x := (-10 : Int32)) (by decide) ?_
  refine s_istore_n (pc := 13) (ls' := [(2, vI (-10 : Int32)), (0, vI x0), (1, vI x1)]) C dJ6_stringSize_0f7a4_13 rfl (by decide) rfl ?_
  refine s_iconst (pc := 14) C dJ6_stringSize_0f7a4_14 (x := (1 : Int32)) (by decide) ?_
  refine s_istore_n (pc := 15) (ls' := [(3, vI (1 : Int32)), (2, vI (-10 : Int32)), (0, vI x0), (1, vI x1)]) C dJ6_stringSize_0f7a4_15 rfl (by decide) rfl ?_
  exact s_sub (ls' := [(0, vI x0), (1, vI x1), (2, vI (-10 : Int32)), (3, vI (1 : Int32))]) [2, 3, 1, 0] rfl (vJ6_stringSize_0f7a4_b16 C x0 x1 (-10 : Int32) (1 : Int32) h H)
set_option maxRecDepth 100000 in
set_option maxHeartbeats 4000000 in
theorem vJ6_stringSize_0f7a4 {G : g_G} {X : g_X} {Q : g_R → g_Hp → Prop} (C : g_Cx y_ G X iJ6_stringSize_0f7a4) (p0 : Int32) (h : g_Hp) (H : wJ6_stringSize_0f7a4 p0 h Q) : g_V G X iJ6_stringSize_0f7a4 0 0 Q 0 0 0 [(0, vI p0)] [] h := by
  refine s_iconst (pc := 0) C dJ6_stringSize_0f7a4_0 (x := (1 : Int32)) (by decide) ?_
  refine s_istore_n (pc := 1) (ls' := [(1, vI (1 : Int32)), (0, vI p0)]) C dJ6_stringSize_0f7a4_1 rfl (by decide) rfl ?_
  refine s_iload_n (pc := 2) C dJ6_stringSize_0f7a4_2 rfl 1 rfl ?_
  refine s_if_lt (pc := 3) (tgt := 11) C dJ6_stringSize_0f7a4_3 (by decide) (fun c => ?_) (fun c => ?_)
  · have H := H.1 c
    exact s_sub (ls' := [(0, vI p0), (1, vI (1 : Int32))]) [1, 0] rfl (vJ6_stringSize_0f7a4_b11 C p0 (1 : Int32) h H)
  · have H := H.2 c
    refine s_iconst (pc := 6) C dJ6_stringSize_0f7a4_6 (x := (0 : Int32)) (by decide) ?_
    refine s_istore_n (pc := 7) (ls' := [(1, vI (0 : Int32)), (0, vI p0)]) C dJ6_stringSize_0f7a4_7 rfl (by decide) rfl ?_
    refine s_iload_n (pc := 8) C dJ6_stringSize_0f7a4_8 rfl 1 rfl ?_
    refine s_ineg (pc := 9) C dJ6_stringSize_0f7a4_9 ?_
    refine s_namei (fun y1 ey1 => ?_)
    have H := H y1 ey1
    refine s_istore_n (pc := 10) (ls' := [(0, vI y1), (1, vI (0 : Int32))]) C dJ6_stringSize_0f7a4_10 rfl (by decide) rfl ?_
    exact s_sub (ls' := [(0, vI y1), (1, vI (0 : Int32))]) [0, 1] rfl (vJ6_stringSize_0f7a4_b11 C y1 (0 : Int32) h H)
theorem ctJ6_stringSize_0f7a4 (l : Launch) (hl : l.stackTraces = false) {G : g_G} (p0 : Int32) (h : g_Hp) (Q : g_R → g_Hp → Prop) (H : wJ6_stringSize_0f7a4 p0 h Q) : g_Met l y_ G iJ6_stringSize_0f7a4 [vI p0] h Q :=
  g_Met_of hl (by decide +kernel) rfl rfl (Nat.le_of_ble_eq_true rfl) (fun X C => vJ6_stringSize_0f7a4 C p0 h H)
