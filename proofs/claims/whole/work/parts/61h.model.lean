/-! X8_append -/
abbrev iX8_append : g_I := (RX8, yX8_append, cX8_append, 2, (some .int), [], { frames := 2, cells := 0, slots := 0, locals := 42 })
set_option maxRecDepth 100000 in
set_option maxHeartbeats 4000000 in
theorem vX8_append_b30 {G : g_G} {X : g_X} {Q : g_R → g_Hp → Prop} (C : g_Cx y_ G X iX8_append) (x1 : Int32) (z0 : Int32) (h : g_Hp) (H : wX8_append_b30 Q x1 z0 h) : g_V G X iX8_append 0 0 Q 30 0 0 [(0, vR 5 0 0), (1, vI x1)] [vI z0, vR 5 0 0] h := by
  refine s_puti (pc := 30) (s := 0) ckX8 (Or.inl rfl) (by decide) kw_1505 (fun _ => rfl) rfl rfl rfl C dX8_append_30 ?_
  refine s_name (fun h1 eh1 => ?_)
  have H := H h1 eh1
  refine s_aload_n (pc := 33) C dX8_append_33 rfl 0 rfl ?_
  refine s_geti (pc := 34) (s := 0) ckX8 (Or.inl rfl) (by decide) kw_1505 (fun _ => rfl) C dX8_append_34 ?_
  refine s_if_eq (pc := 37) (tgt := 42) C dX8_append_37 (by decide) (fun c => ?_) (fun c => ?_)
  · have H := H.1 c
    refine s_aload_n (pc := 42) C dX8_append_42 rfl 0 rfl ?_
    refine s_getr (pc := 43) (s := 9) (a := 13) (b := 4) (c' := 0) ckX8 (by decide) kw_1514 rfl C dX8_append_43 ?_
    refine s_aload_n (pc := 46) C dX8_append_46 rfl 0 rfl ?_
    refine s_geti (pc := 47) (s := 14) ckX8 (Or.inl rfl) (by decide) kw_1519 (fun _ => rfl) C dX8_append_47 ?_
    refine s_iload_n (pc := 50) C dX8_append_50 rfl 1 rfl ?_
    refine s_iast (pc := 51) H.1 C dX8_append_51 ?_
    have H := H.2
    refine s_name (fun h2 eh2 => ?_)
    have H := H h2 eh2
    refine s_aload_n (pc := 52) C dX8_append_52 rfl 0 rfl ?_
    refine s_dup (pc := 53) C dX8_append_53 rfl ?_
    refine s_geti (pc := 54) (s := 14) ckX8 (Or.inl rfl) (by decide) kw_1519 (fun _ => rfl) C dX8_append_54 ?_
    refine s_iconst (pc := 57) C dX8_append_57 (x := (1 : Int32)) (by decide) ?_
    refine s_iadd (pc := 58) C dX8_append_58 ?_
    refine s_puti (pc := 59) (s := 14) ckX8 (Or.inl rfl) (by decide) kw_1519 (fun _ => rfl) rfl rfl rfl C dX8_append_59 ?_
    refine s_name (fun h3 eh3 => ?_)
    have H := H h3 eh3
    refine s_aload_n (pc := 62) C dX8_append_62 rfl 0 rfl ?_
    refine s_geti (pc := 63) (s := 14) ckX8 (Or.inl rfl) (by decide) kw_1519 (fun _ => rfl) C dX8_append_63 ?_
    exact s_iret (pc := 66) rfl rfl ⟨by decide, by decide⟩ H C dX8_append_66
  · have H := H.2 c
    refine s_iconst (pc := 40) C dX8_append_40 (x := (0 : Int32)) (by decide) ?_
    exact s_iret (pc := 41) rfl rfl ⟨by decide, by decide⟩ H C dX8_append_41
set_option maxRecDepth 100000 in
set_option maxHeartbeats 4000000 in
theorem vX8_append {G : g_G} {X : g_X} {Q : g_R → g_Hp → Prop} (C : g_Cx y_ G X iX8_append) (p0 : Int32) (h : g_Hp) (H : wX8_append p0 h Q) : g_V G X iX8_append 0 0 Q 0 0 0 [(0, vR 5 0 0), (1, vI p0)] [] h := by
  refine s_aload_n (pc := 0) C dX8_append_0 rfl 0 rfl ?_
  refine s_iload_n (pc := 1) C dX8_append_1 rfl 1 rfl ?_
  refine s_bipush (pc := 2) C dX8_append_2 (x := (32 : Int32)) (by decide) ?_
  refine s_bipush (pc := 4) C dX8_append_4 (x := (126 : Int32)) (by decide) ?_
  refine s_calls (pc := 6) (nA := 3) (as := [vI p0, vI (32 : Int32), vI (126 : Int32)]) (st := [vR 5 0 0]) (stk := [vI (126 : Int32), vI (32 : Int32), vI p0, vR 5 0 0]) C (fun l hl => ctX8_isIn l hl p0 (32 : Int32) (126 : Int32) _ _ H) ⟨⟨kw_1589, kw_69, kw_1591⟩, rfl, ⟨by decide, by decide, by decide +kernel⟩, by decide, by decide⟩ kw_1590 rfl (Nat.le_of_ble_eq_true rfl) ⟨by decide, by decide⟩ rfl dX8_append_6 (g_Kq_I (fun u2 h1 H => ?_) (fun E h1 H => s_prop rfl ⟨by decide, by decide⟩ H C))
  refine s_if_ne (pc := 9) (tgt := 16) C dX8_append_9 (by decide) (fun c => ?_) (fun c => ?_)
  · have H := H.1 c
    refine s_aload_n (pc := 16) C dX8_append_16 rfl 0 rfl ?_
    refine s_geti (pc := 17) (s := 14) ckX8 (Or.inl rfl) (by decide) kw_1519 (fun _ => rfl) C dX8_append_17 ?_
    refine s_bipush (pc := 20) C dX8_append_20 (x := (60 : Int32)) (by decide) ?_
    refine s_icmp_ne (pc := 22) (tgt := 29) C dX8_append_22 (by decide) (fun c => ?_) (fun c => ?_)
    · have H := H.1 c
      refine s_iconst (pc := 29) C dX8_append_29 (x := (0 : Int32)) (by decide) ?_
      exact s_sub (ls' := [(0, vR 5 0 0), (1, vI p0)]) [0, 1] rfl (vX8_append_b30 C p0 (0 : Int32) h1 H)
    · have H := H.2 c
      refine s_iconst (pc := 25) C dX8_append_25 (x := (2 : Int32)) (by decide) ?_
      refine s_goto (pc := 26) (tgt := 30) C dX8_append_26 (by decide) ?_
      exact s_sub (ls' := [(0, vR 5 0 0), (1, vI p0)]) [0, 1] rfl (vX8_append_b30 C p0 (2 : Int32) h1 H)
  · have H := H.2 c
    refine s_iconst (pc := 12) C dX8_append_12 (x := (1 : Int32)) (by decide) ?_
    refine s_goto (pc := 13) (tgt := 30) C dX8_append_13 (by decide) ?_
    exact s_sub (ls' := [(0, vR 5 0 0), (1, vI p0)]) [0, 1] rfl (vX8_append_b30 C p0 (1 : Int32) h1 H)
theorem ctX8_append (l : Launch) (hl : l.stackTraces = false) {G : g_G} (p0 : Int32) (h : g_Hp) (Q : g_R → g_Hp → Prop) (H : wX8_append p0 h Q) : g_Met l y_ G iX8_append [vR 5 0 0, vI p0] h Q :=
  g_Met_of hl (by decide +kernel) rfl rfl (Nat.le_of_ble_eq_true rfl) (fun X C => vX8_append C p0 h H)
/-! X8_sign -/
abbrev iX8_sign : g_I := (RX8, yX8_sign, cX8_sign, 1, (some .int), [], { frames := 1, cells := 0, slots := 0, locals := 20 })
set_option maxRecDepth 100000 in
set_option maxHeartbeats 4000000 in
theorem vX8_sign_b24 {G : g_G} {X : g_X} {Q : g_R → g_Hp → Prop} (C : g_Cx y_ G X iX8_sign) (z0 : Int32) (h : g_Hp) (H : wX8_sign_b24 Q z0 h) : g_V G X iX8_sign 0 0 Q 24 0 0 [] [vI z0] h := by
  exact s_iret (pc := 24) rfl rfl ⟨by decide, by decide⟩ H C dX8_sign_24
set_option maxRecDepth 100000 in
set_option maxHeartbeats 4000000 in
theorem vX8_sign {G : g_G} {X : g_X} {Q : g_R → g_Hp → Prop} (C : g_Cx y_ G X iX8_sign) (h : g_Hp) (H : wX8_sign h Q) : g_V G X iX8_sign 0 0 Q 0 0 0 [(0, vR 5 0 0)] [] h := by
  refine s_aload_n (pc := 0) C dX8_sign_0 rfl 0 rfl ?_
  refine s_geti (pc := 1) (s := 15) ckX8 (Or.inl rfl) (by decide) kw_1520 (fun _ => rfl) C dX8_sign_1 ?_
  refine s_aload_n (pc := 4) C dX8_sign_4 rfl 0 rfl ?_
  refine s_geti (pc := 5) (s := 16) ckX8 (Or.inl rfl) (by decide) kw_1521 (fun _ => rfl) C dX8_sign_5 ?_
  refine s_icmp_ge (pc := 8) (tgt := 23) C dX8_sign_8 (by decide) (fun c => ?_) (fun c => ?_)
  · have H := H.1 c
    refine s_iconst (pc := 23) C dX8_sign_23 (x := (-1 : Int32)) (by decide) ?_
    exact s_sub (ls' := []) [] rfl (vX8_sign_b24 C (-1 : Int32) h H)
  · have H := H.2 c
    refine s_aload_n (pc := 11) C dX8_sign_11 rfl 0 rfl ?_
    refine s_getr (pc := 12) (s := 9) (a := 13) (b := 4) (c' := 0) ckX8 (by decide) kw_1514 rfl C dX8_sign_12 ?_
    refine s_aload_n (pc := 15) C dX8_sign_15 rfl 0 rfl ?_
    refine s_geti (pc := 16) (s := 15) ckX8 (Or.inl rfl) (by decide) kw_1520 (fun _ => rfl) C dX8_sign_16 ?_
    refine s_iald (pc := 19) H.1 C dX8_sign_19 ?_
    have H := H.2
    refine s_goto (pc := 20) (tgt := 24) C dX8_sign_20 (by decide) ?_
    exact s_sub (ls' := []) [] rfl (vX8_sign_b24 C (h 13 4 0 ((h 5 0 0 16).toNatClampNeg + 1)) h H)
theorem ctX8_sign (l : Launch) (hl : l.stackTraces = false) {G : g_G} (h : g_Hp) (Q : g_R → g_Hp → Prop) (H : wX8_sign h Q) : g_Met l y_ G iX8_sign [vR 5 0 0] h Q :=
  g_Met_of hl (by decide +kernel) rfl rfl (Nat.le_of_ble_eq_true rfl) (fun X C => vX8_sign C h H)
/-! X8_mark -/
abbrev iX8_mark : g_I := (RX8, yX8_mark, cX8_mark, 2, none, [], { frames := 2, cells := 0, slots := 0, locals := 40 })
set_option maxRecDepth 100000 in
set_option maxHeartbeats 4000000 in
theorem vX8_mark_b42 {G : g_G} {X : g_X} {Q : g_R → g_Hp → Prop} (C : g_Cx y_ G X iX8_mark) (z0 : Int32) (z1 : Int32) (h : g_Hp) (H : wX8_mark_b42 Q z0 z1 h) : g_V G X iX8_mark 0 0 Q 42 0 0 [] [vI z0, vI z1, vR 5 0 0] h := by
  refine s_iadd (pc := 42) C dX8_mark_42 ?_
  refine s_puti (pc := 43) (s := 15) ckX8 (Or.inl rfl) (by decide) kw_1520 (fun _ => rfl) rfl rfl rfl C dX8_mark_43 ?_
  refine s_name (fun h1 eh1 => ?_)
  have H := H h1 eh1
  exact s_vret (pc := 46) rfl ⟨by decide, by decide⟩ H C dX8_mark_46
set_option maxRecDepth 100000 in
set_option maxHeartbeats 4000000 in
theorem vX8_mark_b22 {G : g_G} {X : g_X} {Q : g_R → g_Hp → Prop} (C : g_Cx y_ G X iX8_mark) (z0 : Int32) (h : g_Hp) (H : wX8_mark_b22 Q z0 h) : g_V G X iX8_mark 0 0 Q 22 0 0 [(0, vR 5 0 0)] [vI z0, vR 5 0 0] h := by
  refine s_puti (pc := 22) (s := 18) ckX8 (Or.inl rfl) (by decide) kw_1523 (fun _ => rfl) rfl (g_nz H.1) (g_fz H.1) C dX8_mark_22 ?_
  have H := H.2
  refine s_name (fun h1 eh1 => ?_)
  have H := H h1 eh1
  refine s_aload_n (pc := 25) C dX8_mark_25 rfl 0 rfl ?_
  refine s_dup (pc := 26) C dX8_mark_26 rfl ?_
  refine s_geti (pc := 27) (s := 15) ckX8 (Or.inl rfl) (by decide) kw_1520 (fun _ => rfl) C dX8_mark_27 ?_
  refine s_aload_n (pc := 30) C dX8_mark_30 rfl 0 rfl ?_
  refine s_geti (pc := 31) (s := 18) ckX8 (Or.inl rfl) (by decide) kw_1523 (fun _ => rfl) C dX8_mark_31 ?_
  refine s_if_eq (pc := 34) (tgt := 41) C dX8_mark_34 (by decide) (fun c => ?_) (fun c => ?_)
  · have H := H.1 c
    refine s_iconst (pc := 41) C dX8_mark_41 (x := (1 : Int32)) (by decide) ?_
    exact s_sub (ls' := []) [] rfl (vX8_mark_b42 C (1 : Int32) (h1 5 0 0 16) h1 H)
  · have H := H.2 c
    refine s_iconst (pc := 37) C dX8_mark_37 (x := (0 : Int32)) (by decide) ?_
    refine s_goto (pc := 38) (tgt := 42) C dX8_mark_38 (by decide) ?_
    exact s_sub (ls' := []) [] rfl (vX8_mark_b42 C (0 : Int32) (h1 5 0 0 16) h1 H)
set_option maxRecDepth 100000 in
set_option maxHeartbeats 4000000 in
theorem vX8_mark {G : g_G} {X : g_X} {Q : g_R → g_Hp → Prop} (C : g_Cx y_ G X iX8_mark) (p0 : Int32) (h : g_Hp) (H : wX8_mark p0 h Q) : g_V G X iX8_mark 0 0 Q 0 0 0 [(0, vR 5 0 0), (1, vI p0)] [] h := by
  refine s_aload_n (pc := 0) C dX8_mark_0 rfl 0 rfl ?_
  refine s_geti (pc := 1) (s := 18) ckX8 (Or.inl rfl) (by decide) kw_1523 (fun _ => rfl) C dX8_mark_1 ?_
  refine s_if_eq (pc := 4) (tgt := 8) C dX8_mark_4 (by decide) (fun c => ?_) (fun c => ?_)
  · have H := H.1 c
    refine s_aload_n (pc := 8) C dX8_mark_8 rfl 0 rfl ?_
    refine s_aload_n (pc := 9) C dX8_mark_9 rfl 0 rfl ?_
    refine s_callv (pc := 10) (nA := 0) (as := []) (st := [vR 5 0 0]) (stk := [vR 5 0 0, vR 5 0 0]) ckX8 (Or.inl rfl) C (fun l hl => ctX8_sign l hl _ _ H) ⟨⟨kw_1885, kw_69, kw_1888⟩, rfl, ⟨by decide, by decide, by decide +kernel⟩, by decide, by decide⟩ kw_1887 (g_selW kw_48) rfl (Nat.le_of_ble_eq_true rfl) ⟨by decide, by decide⟩ rfl dX8_mark_10 (g_Kq_I (fun u2 h1 H => ?_) (fun E h1 H => s_prop rfl ⟨by decide, by decide⟩ H C))
    refine s_iload_n (pc := 13) C dX8_mark_13 rfl 1 rfl ?_
    refine s_icmp_eq (pc := 14) (tgt := 21) C dX8_mark_14 (by decide) (fun c => ?_) (fun c => ?_)
    · have H := H.1 c
      refine s_iconst (pc := 21) C dX8_mark_21 (x := (0 : Int32)) (by decide) ?_
      exact s_sub (ls' := [(0, vR 5 0 0)]) [0] rfl (vX8_mark_b22 C (0 : Int32) h1 H)
    · have H := H.2 c
      refine s_iconst (pc := 17) C dX8_mark_17 (x := (1 : Int32)) (by decide) ?_
      refine s_goto (pc := 18) (tgt := 22) C dX8_mark_18 (by decide) ?_
      exact s_sub (ls' := [(0, vR 5 0 0)]) [0] rfl (vX8_mark_b22 C (1 : Int32) h1 H)
  · have H := H.2 c
    exact s_vret (pc := 7) rfl ⟨by decide, by decide⟩ H C dX8_mark_7
theorem ctX8_mark (l : Launch) (hl : l.stackTraces = false) {G : g_G} (p0 : Int32) (h : g_Hp) (Q : g_R → g_Hp → Prop) (H : wX8_mark p0 h Q) : g_Met l y_ G iX8_mark [vR 5 0 0, vI p0] h Q :=
  g_Met_of hl (by decide +kernel) rfl rfl (Nat.le_of_ble_eq_true rfl) (fun X C => vX8_mark C p0 h H)
/-! X8_digits -/
abbrev iX8_digits : g_I := (RX8, yX8_digits, cX8_digits, 4, (some .int), [], { frames := 2, cells := 0, slots := 0, locals := 42 })
set_option maxRecDepth 100000 in
set_option maxHeartbeats 4000000 in
theorem vX8_digits_b73 {G : g_G} {X : g_X} {Q : g_R → g_Hp → Prop} (C : g_Cx y_ G X iX8_digits) (x2 : Int32) (z0 : Int32) (z1 : Int32) (h : g_Hp) (H : wX8_digits_b73 Q x2 z0 z1 h) : g_V G X iX8_digits 0 0 Q 73 0 0 [(2, vI x2)] [vI z0, vI z1, vR 5 0 0] h := by
  refine s_ior (pc := 73) C dX8_digits_73 ?_
  refine s_puti (pc := 74) (s := 18) ckX8 (Or.inl rfl) (by decide) kw_1523 (fun _ => rfl) rfl (g_nz H.1) (g_fz H.1) C dX8_digits_74 ?_
  have H := H.2
  refine s_name (fun h1 eh1 => ?_)
  have H := H h1 eh1
  refine s_iload_n (pc := 77) C dX8_digits_77 rfl 0 rfl ?_
  exact s_iret (pc := 78) rfl rfl ⟨by decide, by decide⟩ H C dX8_digits_78
set_option maxRecDepth 100000 in
set_option maxHeartbeats 4000000 in
theorem vX8_digits_b59 {G : g_G} {X : g_X} {Q : g_R → g_Hp → Prop} (C : g_Cx y_ G X iX8_digits) (x2 : Int32) (x3 : Int32) (h : g_Hp) (H : wX8_digits_b59 Q x2 x3 h) : g_V G X iX8_digits 0 0 Q 59 0 0 [(0, vR 5 0 0), (2, vI x2), (3, vI x3)] [] h := by
  refine s_aload_n (pc := 59) C dX8_digits_59 rfl 0 rfl ?_
  refine s_dup (pc := 60) C dX8_digits_60 rfl ?_
  refine s_geti (pc := 61) (s := 18) ckX8 (Or.inl rfl) (by decide) kw_1523 (fun _ => rfl) C dX8_digits_61 ?_
  refine s_iload_n (pc := 64) C dX8_digits_64 rfl 2 rfl ?_
  refine s_if_ne (pc := 65) (tgt := 72) C dX8_digits_65 (by decide) (fun c => ?_) (fun c => ?_)
  · have H := H.1 c
    refine s_iconst (pc := 72) C dX8_digits_72 (x := (0 : Int32)) (by decide) ?_
    exact s_sub (ls' := [(2, vI x2)]) [1] rfl (vX8_digits_b73 C x2 (0 : Int32) (h 5 0 0 19) h H)
  · have H := H.2 c
    refine s_iconst (pc := 68) C dX8_digits_68 (x := (1 : Int32)) (by decide) ?_
    refine s_goto (pc := 69) (tgt := 73) C dX8_digits_69 (by decide) ?_
    exact s_sub (ls' := [(2, vI x2)]) [1] rfl (vX8_digits_b73 C x2 (1 : Int32) (h 5 0 0 19) h H)
set_option maxRecDepth 100000 in
set_option maxHeartbeats 4000000 in
theorem vX8_digits_b4_B {G : g_G} {X : g_X} {Q : g_R → g_Hp → Prop} (C : g_Cx y_ G X iX8_digits) (R4 : Int32 → Int32 → Int32 → g_Hp → Prop) (hR4 : ∀ (x1 : Int32) (x2 : Int32) (x3 : Int32) (h : g_Hp), R4 x1 x2 x3 h → g_V G X iX8_digits 0 0 Q 4 0 0 [(0, vR 5 0 0), (1, vI x1), (2, vI x2), (3, vI x3)] [] h) (x1 : Int32) (x2 : Int32) (x3 : Int32) (h : g_Hp) (H : wX8_digits_b4_B Q R4 x1 x2 x3 h) : g_V G X iX8_digits 0 0 Q 4 0 0 [(0, vR 5 0 0), (1, vI x1), (2, vI x2), (3, vI x3)] [] h := by
  refine s_aload_n (pc := 4) C dX8_digits_4 rfl 0 rfl ?_
  refine s_geti (pc := 5) (s := 18) ckX8 (Or.inl rfl) (by decide) kw_1523 (fun _ => rfl) C dX8_digits_5 ?_
  refine s_if_ne (pc := 8) (tgt := 59) C dX8_digits_8 (by decide) (fun c => ?_) (fun c => ?_)
  · have H := H.1 c
    exact s_sub (ls' := [(0, vR 5 0 0), (2, vI x2), (3, vI x3)]) [0, 2, 3] rfl (vX8_digits_b59 C x2 x3 h H)
  · have H := H.2 c
    refine s_iload_n (pc := 11) C dX8_digits_11 rfl 3 rfl ?_
    refine s_iload_n (pc := 12) C dX8_digits_12 rfl 1 rfl ?_
    refine s_icmp_ge (pc := 13) (tgt := 59) C dX8_digits_13 (by decide) (fun c => ?_) (fun c => ?_)
    · have H := H.1 c
      exact s_sub (ls' := [(0, vR 5 0 0), (2, vI x2), (3, vI x3)]) [0, 2, 3] rfl (vX8_digits_b59 C x2 x3 h H)
    · have H := H.2 c
      refine s_aload_n (pc := 16) C dX8_digits_16 rfl 0 rfl ?_
      refine s_callv (pc := 17) (nA := 0) (as := []) (st := []) (stk := [vR 5 0 0]) ckX8 (Or.inl rfl) C (fun l hl => ctX8_sign l hl _ _ H) ⟨⟨kw_1885, kw_69, kw_1888⟩, rfl, ⟨by decide, by decide, by decide +kernel⟩, by decide, by decide⟩ kw_1887 (g_selW kw_48) rfl (Nat.le_of_ble_eq_true rfl) ⟨by decide, by decide⟩ rfl dX8_digits_17 (g_Kq_I (fun u2 h1 H => ?_) (fun E h1 H => s_prop rfl ⟨by decide, by decide⟩ H C))
      refine s_bipush (pc := 20) C dX8_digits_20 (x := (48 : Int32)) (by decide) ?_
      refine s_bipush (pc := 22) C dX8_digits_22 (x := (57 : Int32)) (by decide) ?_
      refine s_calls (pc := 24) (nA := 3) (as := [vI u2, vI (48 : Int32), vI (57 : Int32)]) (st := []) (stk := [vI (57 : Int32), vI (48 : Int32), vI u2]) C (fun l hl => ctX8_isIn l hl u2 (48 : Int32) (57 : Int32) _ _ H) ⟨⟨kw_1589, kw_69, kw_1591⟩, rfl, ⟨by decide, by decide, by decide +kernel⟩, by decide, by decide⟩ kw_1590 rfl (Nat.le_of_ble_eq_true rfl) ⟨by decide, by decide⟩ rfl dX8_digits_24 (g_Kq_I (fun u4 h3 H => ?_) (fun E h3 H => s_prop rfl ⟨by decide, by decide⟩ H C))
      refine s_if_eq (pc := 27) (tgt := 59) C dX8_digits_27 (by decide) (fun c => ?_) (fun c => ?_)
      · have H := H.1 c
        exact s_sub (ls' := [(0, vR 5 0 0), (2, vI x2), (3, vI x3)]) [0, 2, 3] rfl (vX8_digits_b59 C x2 x3 h3 H)
      · have H := H.2 c
        refine s_bipush (pc := 30) C dX8_digits_30 (x := (10 : Int32)) (by decide) ?_
        refine s_iload_n (pc := 32) C dX8_digits_32 rfl 2 rfl ?_
        refine s_imul (pc := 33) C dX8_digits_33 ?_
        refine s_aload_n (pc := 34) C dX8_digits_34 rfl 0 rfl ?_
        refine s_callv (pc := 35) (nA := 0) (as := []) (st := [vI ((10 : Int32) * x2)]) (stk := [vR 5 0 0, vI ((10 : Int32) * x2)]) ckX8 (Or.inl rfl) C (fun l hl => ctX8_sign l hl _ _ H) ⟨⟨kw_1885, kw_69, kw_1888⟩, rfl, ⟨by decide, by decide, by decide +kernel⟩, by decide, by decide⟩ kw_1887 (g_selW kw_48) rfl (Nat.le_of_ble_eq_true rfl) ⟨by decide, by decide⟩ rfl dX8_digits_35 (g_Kq_I (fun u6 h5 H => ?_) (fun E h5 H => s_prop rfl ⟨by decide, by decide⟩ H C))
        refine s_iadd (pc := 38) C dX8_digits_38 ?_
        refine s_bipush (pc := 39) C dX8_digits_39 (x := (48 : Int32)) (by decide) ?_
        refine s_isub (pc := 41) C dX8_digits_41 ?_
        refine s_namei (fun y7 ey7 => ?_)
        have H := H y7 ey7
        refine s_istore_n (pc := 42) (ls' := [(2, vI y7), (0, vR 5 0 0), (1, vI x1), (3, vI x3)]) C dX8_digits_42 rfl (by decide) rfl ?_
        refine s_aload_n (pc := 43) C dX8_digits_43 rfl 1 rfl ?_
        refine s_dup (pc := 44) C dX8_digits_44 rfl ?_
        refine s_geti (pc := 45) (s := 15) ckX8 (Or.inl rfl) (by decide) kw_1520 (fun _ => rfl) C dX8_digits_45 ?_
        refine s_iconst (pc := 48) C dX8_digits_48 (x := (1 : Int32)) (by decide) ?_
        refine s_iadd (pc := 49) C dX8_digits_49 ?_
        refine s_puti (pc := 50) (s := 15) ckX8 (Or.inl rfl) (by decide) kw_1520 (fun _ => rfl) rfl rfl rfl C dX8_digits_50 ?_
        refine s_name (fun h8 eh8 => ?_)
        have H := H h8 eh8
        refine s_iincN (pc := 53) C dX8_digits_53 3 rfl (z' := (1 : Int32)) (by decide) (by decide) (fun y9 ey9 => ?_)
        have H := H y9 ey9
        show g_V _ _ _ _ _ _ _ _ _ [(3, vI y9), (2, vI y7), (0, vR 5 0 0), (1, vI x1)] _ _
        refine s_goto (pc := 56) (tgt := 4) C dX8_digits_56 (by decide) ?_
        exact s_sub (ls' := [(0, vR 5 0 0), (1, vI x1), (2, vI y7), (3, vI y9)]) [2, 3, 1, 0] rfl (hR4 x1 y7 y9 h8 H)
theorem vX8_digits_b4 {G : g_G} {X : g_X} {Q : g_R → g_Hp → Prop} (C : g_Cx y_ G X iX8_digits) (x1 : Int32) (x2 : Int32) (x3 : Int32) (h : g_Hp) (H : wX8_digits_b4 Q x1 x2 x3 h) : g_V G X iX8_digits 0 0 Q 4 0 0 [(0, vR 5 0 0), (1, vI x1), (2, vI x2), (3, vI x3)] [] h := by
  obtain ⟨n, H⟩ := H
  induction n generalizing x1 x2 x3 h with
  | zero => exact H.elim
  | succ n ih => exact vX8_digits_b4_B C _ (fun x1 x2 x3 h H => ih x1 x2 x3 h H) x1 x2 x3 h H
set_option maxRecDepth 100000 in
set_option maxHeartbeats 4000000 in
theorem vX8_digits {G : g_G} {X : g_X} {Q : g_R → g_Hp → Prop} (C : g_Cx y_ G X iX8_digits) (p0 : Int32) (h : g_Hp) (H : wX8_digits p0 h Q) : g_V G X iX8_digits 0 0 Q 0 0 0 [(0, vR 5 0 0), (1, vI p0)] [] h := by
  refine s_iconst (pc := 0) C dX8_digits_0 (x := (0 : Int32)) (by decide) ?_
  refine s_istore_n (pc := 1) (ls' := [(2, vI (0 : Int32)), (0, vR 5 0 0), (1, vI p0)]) C dX8_digits_1 rfl (by decide) rfl ?_
  refine s_iconst (pc := 2) C dX8_digits_2 (x := (0 : Int32)) (by decide) ?_
  refine s_istore_n (pc := 3) (ls' := [(3, vI (0 : Int32)), (2, vI (0 : Int32)), (0, vR 5 0 0), (1, vI p0)]) C dX8_digits_3 rfl (by decide) rfl ?_
  exact s_sub (ls' := [(0, vR 5 0 0), (1, vI p0), (2, vI (0 : Int32)), (3, vI (0 : Int32))]) [2, 3, 1, 0] rfl (vX8_digits_b4 C p0 (0 : Int32) (0 : Int32) h H)
theorem ctX8_digits (l : Launch) (hl : l.stackTraces = false) {G : g_G} (p0 : Int32) (h : g_Hp) (Q : g_R → g_Hp → Prop) (H : wX8_digits p0 h Q) : g_Met l y_ G iX8_digits [vR 5 0 0, vI p0] h Q :=
  g_Met_of hl (by decide +kernel) rfl rfl (Nat.le_of_ble_eq_true rfl) (fun X C => vX8_digits C p0 h H)
/-! X8_behind -/
abbrev iX8_behind : g_I := (RX8, yX8_behind, cX8_behind, 2, (some .int), [], { frames := 3, cells := 0, slots := 0, locals := 65 })
set_option maxRecDepth 100000 in
set_option maxHeartbeats 4000000 in
theorem vX8_behind_b22 {G : g_G} {X : g_X} {Q : g_R → g_Hp → Prop} (C : g_Cx y_ G X iX8_behind) (z0 : Int32) (h : g_Hp) (H : wX8_behind_b22 Q z0 h) : g_V G X iX8_behind 0 0 Q 22 0 0 [] [vI z0] h := by
  exact s_iret (pc := 22) rfl rfl ⟨by decide, by decide⟩ H C dX8_behind_22
set_option maxRecDepth 100000 in
set_option maxHeartbeats 4000000 in
theorem vX8_behind {G : g_G} {X : g_X} {Q : g_R → g_Hp → Prop} (C : g_Cx y_ G X iX8_behind) (p0 : Int32) (h : g_Hp) (H : wX8_behind p0 h Q) : g_V G X iX8_behind 0 0 Q 0 0 0 [(0, vR 5 0 0), (1, vI p0)] [] h := by
  refine s_aload_n (pc := 0) C dX8_behind_0 rfl 0 rfl ?_
  refine s_bipush (pc := 1) C dX8_behind_1 (x := (32 : Int32)) (by decide) ?_
  refine s_callv (pc := 3) (nA := 1) (as := [vI (32 : Int32)]) (st := []) (stk := [vI (32 : Int32), vR 5 0 0]) ckX8 (Or.inl rfl) C (fun l hl => ctX8_mark l hl (32 : Int32) _ _ H) ⟨⟨kw_1897, kw_69, kw_1900⟩, rfl, ⟨by decide, by decide, by decide +kernel⟩, by decide, by decide⟩ kw_1899 (g_selW kw_51) rfl (Nat.le_of_ble_eq_true rfl) ⟨by decide, by decide⟩ rfl dX8_behind_3 (g_Kq_V (fun h1 H => ?_) (fun E h1 H => s_prop rfl ⟨by decide, by decide⟩ H C))
  refine s_aload_n (pc := 6) C dX8_behind_6 rfl 0 rfl ?_
  refine s_geti (pc := 7) (s := 18) ckX8 (Or.inl rfl) (by decide) kw_1523 (fun _ => rfl) C dX8_behind_7 ?_
  refine s_if_eq (pc := 10) (tgt := 17) C dX8_behind_10 (by decide) (fun c => ?_) (fun c => ?_)
  · have H := H.1 c
    refine s_aload_n (pc := 17) C dX8_behind_17 rfl 0 rfl ?_
    refine s_iload_n (pc := 18) C dX8_behind_18 rfl 1 rfl ?_
    refine s_callv (pc := 19) (nA := 1) (as := [vI p0]) (st := []) (stk := [vI p0, vR 5 0 0]) ckX8 (Or.inl rfl) C (fun l hl => ctX8_digits l hl p0 _ _ H) ⟨⟨kw_1889, kw_69, kw_1892⟩, rfl, ⟨by decide, by decide, by decide +kernel⟩, by decide, by decide⟩ kw_1891 (g_selW kw_49) rfl (Nat.le_of_ble_eq_true rfl) ⟨by decide, by decide⟩ rfl dX8_behind_19 (g_Kq_I (fun u3 h2 H => ?_) (fun E h2 H => s_prop rfl ⟨by decide, by decide⟩ H C))
    exact s_sub (ls' := []) [] rfl (vX8_behind_b22 C u3 h2 H)
  · have H := H.2 c
    refine s_iconst (pc := 13) C dX8_behind_13 (x := (0 : Int32)) (by decide) ?_
    refine s_goto (pc := 14) (tgt := 22) C dX8_behind_14 (by decide) ?_
    exact s_sub (ls' := []) [] rfl (vX8_behind_b22 C (0 : Int32) h1 H)
theorem ctX8_behind (l : Launch) (hl : l.stackTraces = false) {G : g_G} (p0 : Int32) (h : g_Hp) (Q : g_R → g_Hp → Prop) (H : wX8_behind p0 h Q) : g_Met l y_ G iX8_behind [vR 5 0 0, vI p0] h Q :=
  g_Met_of hl (by decide +kernel) rfl rfl (Nat.le_of_ble_eq_true rfl) (fun X C => vX8_behind C p0 h H)
/-! X8_plus -/
abbrev iX8_plus : g_I := (RX8, yX8_plus, cX8_plus, 2, (some .int), [], { frames := 2, cells := 0, slots := 0, locals := 40 })
set_option maxRecDepth 100000 in
set_option maxHeartbeats 4000000 in
theorem vX8_plus_b67 {G : g_G} {X : g_X} {Q : g_R → g_Hp → Prop} (C : g_Cx y_ G X iX8_plus) (z0 : Int32) (h : g_Hp) (H : wX8_plus_b67 Q z0 h) : g_V G X iX8_plus 0 0 Q 67 0 0 [] [vI z0] h := by
  exact s_iret (pc := 67) rfl rfl ⟨by decide, by decide⟩ H C dX8_plus_67
set_option maxRecDepth 100000 in
set_option maxHeartbeats 4000000 in
theorem vX8_plus_b52 {G : g_G} {X : g_X} {Q : g_R → g_Hp → Prop} (C : g_Cx y_ G X iX8_plus) (x1 : Int32) (z0 : Int32) (z1 : Int32) (h : g_Hp) (H : wX8_plus_b52 Q x1 z0 z1 h) : g_V G X iX8_plus 0 0 Q 52 0 0 [(1, vI x1)] [vI z0, vI z1, vR 5 0 0] h := by
  refine s_iadd (pc := 52) C dX8_plus_52 ?_
  refine s_puti (pc := 53) (s := 15) ckX8 (Or.inl rfl) (by decide) kw_1520 (fun _ => rfl) rfl rfl rfl C dX8_plus_53 ?_
  refine s_name (fun h1 eh1 => ?_)
  have H := H h1 eh1
  refine s_iload_n (pc := 56) C dX8_plus_56 rfl 0 rfl ?_
  refine s_bipush (pc := 57) C dX8_plus_57 (x := (43 : Int32)) (by decide) ?_
  refine s_icmp_ne (pc := 59) (tgt := 66) C dX8_plus_59 (by decide) (fun c => ?_) (fun c => ?_)
  · have H := H.1 c
    refine s_iconst (pc := 66) C dX8_plus_66 (x := (2 : Int32)) (by decide) ?_
    exact s_sub (ls' := []) [] rfl (vX8_plus_b67 C (2 : Int32) h1 H)
  · have H := H.2 c
    refine s_iconst (pc := 62) C dX8_plus_62 (x := (1 : Int32)) (by decide) ?_
    refine s_goto (pc := 63) (tgt := 67) C dX8_plus_63 (by decide) ?_
    exact s_sub (ls' := []) [] rfl (vX8_plus_b67 C (1 : Int32) h1 H)
set_option maxRecDepth 100000 in
set_option maxHeartbeats 4000000 in
theorem vX8_plus_b32 {G : g_G} {X : g_X} {Q : g_R → g_Hp → Prop} (C : g_Cx y_ G X iX8_plus) (x1 : Int32) (z0 : Int32) (h : g_Hp) (H : wX8_plus_b32 Q x1 z0 h) : g_V G X iX8_plus 0 0 Q 32 0 0 [(0, vR 5 0 0), (1, vI x1)] [vI z0, vR 5 0 0] h := by
  refine s_puti (pc := 32) (s := 18) ckX8 (Or.inl rfl) (by decide) kw_1523 (fun _ => rfl) rfl (g_nz H.1) (g_fz H.1) C dX8_plus_32 ?_
  have H := H.2
  refine s_name (fun h1 eh1 => ?_)
  have H := H h1 eh1
  refine s_aload_n (pc := 35) C dX8_plus_35 rfl 0 rfl ?_
  refine s_dup (pc := 36) C dX8_plus_36 rfl ?_
  refine s_geti (pc := 37) (s := 15) ckX8 (Or.inl rfl) (by decide) kw_1520 (fun _ => rfl) C dX8_plus_37 ?_
  refine s_aload_n (pc := 40) C dX8_plus_40 rfl 0 rfl ?_
  refine s_geti (pc := 41) (s := 18) ckX8 (Or.inl rfl) (by decide) kw_1523 (fun _ => rfl) C dX8_plus_41 ?_
  refine s_if_eq (pc := 44) (tgt := 51) C dX8_plus_44 (by decide) (fun c => ?_) (fun c => ?_)
  · have H := H.1 c
    refine s_iconst (pc := 51) C dX8_plus_51 (x := (1 : Int32)) (by decide) ?_
    exact s_sub (ls' := [(1, vI x1)]) [1] rfl (vX8_plus_b52 C x1 (1 : Int32) (h1 5 0 0 16) h1 H)
  · have H := H.2 c
    refine s_iconst (pc := 47) C dX8_plus_47 (x := (0 : Int32)) (by decide) ?_
    refine s_goto (pc := 48) (tgt := 52) C dX8_plus_48 (by decide) ?_
    exact s_sub (ls' := [(1, vI x1)]) [1] rfl (vX8_plus_b52 C x1 (0 : Int32) (h1 5 0 0 16) h1 H)
set_option maxRecDepth 100000 in
set_option maxHeartbeats 4000000 in
theorem vX8_plus_b31 {G : g_G} {X : g_X} {Q : g_R → g_Hp → Prop} (C : g_Cx y_ G X iX8_plus) (x1 : Int32) (h : g_Hp) (H : wX8_plus_b31 Q x1 h) : g_V G X iX8_plus 0 0 Q 31 0 0 [(0, vR 5 0 0), (1, vI x1)] [vR 5 0 0] h := by
  refine s_iconst (pc := 31) C dX8_plus_31 (x := (0 : Int32)) (by decide) ?_
  exact s_sub (ls' := [(0, vR 5 0 0), (1, vI x1)]) [0, 1] rfl (vX8_plus_b32 C x1 (0 : Int32) h H)
set_option maxRecDepth 100000 in
set_option maxHeartbeats 4000000 in
theorem vX8_plus {G : g_G} {X : g_X} {Q : g_R → g_Hp → Prop} (C : g_Cx y_ G X iX8_plus) (h : g_Hp) (H : wX8_plus h Q) : g_V G X iX8_plus 0 0 Q 0 0 0 [(0, vR 5 0 0)] [] h := by
  refine s_aload_n (pc := 0) C dX8_plus_0 rfl 0 rfl ?_
  refine s_geti (pc := 1) (s := 18) ckX8 (Or.inl rfl) (by decide) kw_1523 (fun _ => rfl) C dX8_plus_1 ?_
  refine s_if_eq (pc := 4) (tgt := 9) C dX8_plus_4 (by decide) (fun c => ?_) (fun c => ?_)
  · have H := H.1 c
    refine s_aload_n (pc := 9) C dX8_plus_9 rfl 0 rfl ?_
    refine s_callv (pc := 10) (nA := 0) (as := []) (st := []) (stk := [vR 5 0 0]) ckX8 (Or.inl rfl) C (fun l hl => ctX8_sign l hl _ _ H) ⟨⟨kw_1885, kw_69, kw_1888⟩, rfl, ⟨by decide, by decide, by decide +kernel⟩, by decide, by decide⟩ kw_1887 (g_selW kw_48) rfl (Nat.le_of_ble_eq_true rfl) ⟨by decide, by decide⟩ rfl dX8_plus_10 (g_Kq_I (fun u2 h1 H => ?_) (fun E h1 H => s_prop rfl ⟨by decide, by decide⟩ H C))
    refine s_istore_n (pc := 13) (ls' := [(1, vI u2), (0, vR 5 0 0)]) C dX8_plus_13 rfl (by decide) rfl ?_
    refine s_aload_n (pc := 14) C dX8_plus_14 rfl 1 rfl ?_
    refine s_iload_n (pc := 15) C dX8_plus_15 rfl 0 rfl ?_
    refine s_bipush (pc := 16) C dX8_plus_16 (x := (43 : Int32)) (by decide) ?_
    refine s_icmp_eq (pc := 18) (tgt := 31) C dX8_plus_18 (by decide) (fun c => ?_) (fun c => ?_)
    · have H := H.1 c
      exact s_sub (ls' := [(0, vR 5 0 0), (1, vI u2)]) [1, 0] rfl (vX8_plus_b31 C u2 h1 H)
    · have H := H.2 c
      refine s_iload_n (pc := 21) C dX8_plus_21 rfl 0 rfl ?_
      refine s_bipush (pc := 22) C dX8_plus_22 (x := (45 : Int32)) (by decide) ?_
      refine s_icmp_eq (pc := 24) (tgt := 31) C dX8_plus_24 (by decide) (fun c => ?_) (fun c => ?_)
      · have H := H.1 c
        exact s_sub (ls' := [(0, vR 5 0 0), (1, vI u2)]) [1, 0] rfl (vX8_plus_b31 C u2 h1 H)
      · have H := H.2 c
        refine s_iconst (pc := 27) C dX8_plus_27 (x := (1 : Int32)) (by decide) ?_
        refine s_goto (pc := 28) (tgt := 32) C dX8_plus_28 (by decide) ?_
        exact s_sub (ls' := [(0, vR 5 0 0), (1, vI u2)]) [1, 0] rfl (vX8_plus_b32 C u2 (1 : Int32) h1 H)
  · have H := H.2 c
    refine s_iconst (pc := 7) C dX8_plus_7 (x := (0 : Int32)) (by decide) ?_
    exact s_iret (pc := 8) rfl rfl ⟨by decide, by decide⟩ H C dX8_plus_8
theorem ctX8_plus (l : Launch) (hl : l.stackTraces = false) {G : g_G} (h : g_Hp) (Q : g_R → g_Hp → Prop) (H : wX8_plus h Q) : g_Met l y_ G iX8_plus [vR 5 0 0] h Q :=
  g_Met_of hl (by decide +kernel) rfl rfl (Nat.le_of_ble_eq_true rfl) (fun X C => vX8_plus C h H)
