/-! X1_add -/
abbrev iX1_add : g_I := (RX1, yX1_add, cX1_add, 4, (some .int), [], { frames := 2, cells := 0, slots := 0, locals := 42 })
set_option maxRecDepth 100000 in
set_option maxHeartbeats 4000000 in
theorem vX1_add {G : g_G} {X : g_X} {Q : g_R → g_Hp → Prop} (C : g_Cx y_ G X iX1_add) (ti : Nat) (p0 : Int32) (p1 : Int32) (h : g_Hp) (H : wX1_add ti p0 p1 h Q) : g_V G X iX1_add 0 0 Q 0 0 0 [(0, vR 1 ti 0), (1, vI p0), (2, vI p1)] [] h := by
  refine s_aload_n (pc := 0) C dX1_add_0 rfl 0 rfl ?_
  refine s_geti (pc := 1) (s := 1) ckX1 (Or.inl rfl) (by decide) kw_168 (fun _ => rfl) C dX1_add_1 ?_
  refine s_namei (fun y1 ey1 => ?_)
  have H := H y1 ey1
  refine s_istore_n (pc := 4) (ls' := [(3, vI y1), (0, vR 1 ti 0), (1, vI p0), (2, vI p1)]) C dX1_add_4 rfl (by decide) rfl ?_
  refine s_aload_n (pc := 5) C dX1_add_5 rfl 1 rfl ?_
  refine s_getr (pc := 6) (s := 0) (a := 11) (b := ti) (c' := 0) ckX1 (by decide) kw_166 rfl C dX1_add_6 ?_
  refine s_iload_n (pc := 9) C dX1_add_9 rfl 0 rfl ?_
  refine s_aald (pc := 10) (kk := 11) (by decide) (by decide) H.1 C dX1_add_10 ?_
  have H := H.2
  show g_V _ _ _ _ _ _ _ _ _ _ (vR 2 ti (y1.toNatClampNeg) :: _) _
  refine s_nmj (fun j2 ej2 => ?_)
  have H := H j2 ej2
  refine s_iload_n (pc := 11) C dX1_add_11 rfl 2 rfl ?_
  refine s_iload_n (pc := 12) C dX1_add_12 rfl 3 rfl ?_
  refine s_callv (pc := 13) (nA := 2) (as := [vI p0, vI p1]) (st := []) (stk := [vI p1, vI p0, vR 2 ti j2]) ckX6 (Or.inl rfl) C (fun l hl => ctX6_start l hl ti j2 p0 p1 _ _ H) ⟨⟨kw_679, kw_60, kw_682⟩, rfl, ⟨by decide, by decide, by decide +kernel⟩, by decide, by decide⟩ kw_680 (g_selW kw_681) rfl (Nat.le_of_ble_eq_true rfl) ⟨by decide, by decide⟩ rfl dX1_add_13 (g_Kq_V (fun h3 H => ?_) (fun E h3 H => s_prop rfl ⟨by decide, by decide⟩ H C))
  refine s_aload_n (pc := 16) C dX1_add_16 rfl 1 rfl ?_
  refine s_dup (pc := 17) C dX1_add_17 rfl ?_
  refine s_geti (pc := 18) (s := 1) ckX1 (Or.inl rfl) (by decide) kw_168 (fun _ => rfl) C dX1_add_18 ?_
  refine s_iconst (pc := 21) C dX1_add_21 (x := (1 : Int32)) (by decide) ?_
  refine s_iadd (pc := 22) C dX1_add_22 ?_
  refine s_puti (pc := 23) (s := 1) ckX1 (Or.inl rfl) (by decide) kw_168 (fun _ => rfl) rfl rfl rfl C dX1_add_23 ?_
  refine s_name (fun h4 eh4 => ?_)
  have H := H h4 eh4
  refine s_iload_n (pc := 26) C dX1_add_26 rfl 0 rfl ?_
  exact s_iret (pc := 27) rfl rfl ⟨by decide, by decide⟩ H C dX1_add_27
theorem ctX1_add (l : Launch) (hl : l.stackTraces = false) {G : g_G} (ti : Nat) (p0 : Int32) (p1 : Int32) (h : g_Hp) (Q : g_R → g_Hp → Prop) (H : wX1_add ti p0 p1 h Q) : g_Met l y_ G iX1_add [vR 1 ti 0, vI p0, vI p1] h Q :=
  g_Met_of hl (by decide +kernel) rfl rfl (Nat.le_of_ble_eq_true rfl) (fun X C => vX1_add C ti p0 p1 h H)
/-! X1_faultOfWind -/
abbrev iX1_faultOfWind : g_I := (RX1, yX1_faultOfWind, cX1_faultOfWind, 5, (some (.object "VaneUnion$Fault")), [], { frames := 1, cells := 0, slots := 0, locals := 20 })
set_option maxRecDepth 100000 in
set_option maxHeartbeats 4000000 in
theorem vX1_faultOfWind_b51 {G : g_G} {X : g_X} {Q : g_R → g_Hp → Prop} (C : g_Cx y_ G X iX1_faultOfWind) (ti : Nat) (z0i : Nat) (h : g_Hp) (H : wX1_faultOfWind_b51 ti Q z0i h) : g_V G X iX1_faultOfWind 0 0 Q 51 0 0 [] [vR 20 z0i 0] h := by
  exact s_aret (pc := 51) rfl (Or.inl ⟨_, rfl⟩) ⟨by decide, by decide⟩ H C dX1_faultOfWind_51
set_option maxRecDepth 100000 in
set_option maxHeartbeats 4000000 in
theorem vX1_faultOfWind_b48 {G : g_G} {X : g_X} {Q : g_R → g_Hp → Prop} (C : g_Cx y_ G X iX1_faultOfWind) (ti : Nat) (h : g_Hp) (H : wX1_faultOfWind_b48 ti Q h) : g_V G X iX1_faultOfWind 0 0 Q 48 0 0 [] [] h := by
  refine s_gets (pc := 48) zs_BAD_ARGUMENT (g_cst_R rfl) kw_589 C dX1_faultOfWind_48 ?_
  exact s_sub (ls' := []) [] rfl (vX1_faultOfWind_b51 C ti 2 h H)
set_option maxRecDepth 100000 in
set_option maxHeartbeats 4000000 in
theorem vX1_faultOfWind_b31 {G : g_G} {X : g_X} {Q : g_R → g_Hp → Prop} (C : g_Cx y_ G X iX1_faultOfWind) (ti : Nat) (x3 : Int32) (z0 : Int32) (h : g_Hp) (H : wX1_faultOfWind_b31 ti Q x3 z0 h) : g_V G X iX1_faultOfWind 0 0 Q 31 0 0 [(3, vI x3)] [vI z0] h := by
  refine s_istore (pc := 31) (ls' := [(4, vI z0), (3, vI x3)]) C dX1_faultOfWind_31 (by decide) rfl ?_
  refine s_iload_n (pc := 33) C dX1_faultOfWind_33 rfl 1 rfl ?_
  refine s_if_eq (pc := 34) (tgt := 48) C dX1_faultOfWind_34 (by decide) (fun c => ?_) (fun c => ?_)
  · have H := H.1 c
    exact s_sub (ls' := []) [] rfl (vX1_faultOfWind_b48 C ti  h H)
  · have H := H.2 c
    refine s_iload (pc := 37) C dX1_faultOfWind_37 0 rfl ?_
    refine s_if_eq (pc := 39) (tgt := 48) C dX1_faultOfWind_39 (by decide) (fun c => ?_) (fun c => ?_)
    · have H := H.1 c
      exact s_sub (ls' := []) [] rfl (vX1_faultOfWind_b48 C ti  h H)
    · have H := H.2 c
      refine s_gets (pc := 42) zs_NOTHING (g_cst_R rfl) kw_593 C dX1_faultOfWind_42 ?_
      refine s_goto (pc := 45) (tgt := 51) C dX1_faultOfWind_45 (by decide) ?_
      exact s_sub (ls' := []) [] rfl (vX1_faultOfWind_b51 C ti 0 h H)
set_option maxRecDepth 100000 in
set_option maxHeartbeats 4000000 in
theorem vX1_faultOfWind_b30 {G : g_G} {X : g_X} {Q : g_R → g_Hp → Prop} (C : g_Cx y_ G X iX1_faultOfWind) (ti : Nat) (x3 : Int32) (h : g_Hp) (H : wX1_faultOfWind_b30 ti Q x3 h) : g_V G X iX1_faultOfWind 0 0 Q 30 0 0 [(3, vI x3)] [] h := by
  refine s_iconst (pc := 30) C dX1_faultOfWind_30 (x := (0 : Int32)) (by decide) ?_
  exact s_sub (ls' := [(3, vI x3)]) [0] rfl (vX1_faultOfWind_b31 C ti x3 (0 : Int32) h H)
set_option maxRecDepth 100000 in
set_option maxHeartbeats 4000000 in
theorem vX1_faultOfWind_b15 {G : g_G} {X : g_X} {Q : g_R → g_Hp → Prop} (C : g_Cx y_ G X iX1_faultOfWind) (ti : Nat) (x2 : Int32) (z0 : Int32) (h : g_Hp) (H : wX1_faultOfWind_b15 ti Q x2 z0 h) : g_V G X iX1_faultOfWind 0 0 Q 15 0 0 [(2, vI x2)] [vI z0] h := by
  refine s_istore_n (pc := 15) (ls' := [(3, vI z0), (2, vI x2)]) C dX1_faultOfWind_15 rfl (by decide) rfl ?_
  refine s_iload_n (pc := 16) C dX1_faultOfWind_16 rfl 1 rfl ?_
  refine s_if_lt (pc := 17) (tgt := 30) C dX1_faultOfWind_17 (by decide) (fun c => ?_) (fun c => ?_)
  · have H := H.1 c
    exact s_sub (ls' := [(3, vI z0)]) [0] rfl (vX1_faultOfWind_b30 C ti z0 h H)
  · have H := H.2 c
    refine s_iload_n (pc := 20) C dX1_faultOfWind_20 rfl 1 rfl ?_
    refine s_bipush (pc := 21) C dX1_faultOfWind_21 (x := (12 : Int32)) (by decide) ?_
    refine s_icmp_gt (pc := 23) (tgt := 30) C dX1_faultOfWind_23 (by decide) (fun c => ?_) (fun c => ?_)
    · have H := H.1 c
      exact s_sub (ls' := [(3, vI z0)]) [0] rfl (vX1_faultOfWind_b30 C ti z0 h H)
    · have H := H.2 c
      refine s_iconst (pc := 26) C dX1_faultOfWind_26 (x := (1 : Int32)) (by decide) ?_
      refine s_goto (pc := 27) (tgt := 31) C dX1_faultOfWind_27 (by decide) ?_
      exact s_sub (ls' := [(3, vI z0)]) [0] rfl (vX1_faultOfWind_b31 C ti z0 (1 : Int32) h H)
set_option maxRecDepth 100000 in
set_option maxHeartbeats 4000000 in
theorem vX1_faultOfWind_b14 {G : g_G} {X : g_X} {Q : g_R → g_Hp → Prop} (C : g_Cx y_ G X iX1_faultOfWind) (ti : Nat) (x2 : Int32) (h : g_Hp) (H : wX1_faultOfWind_b14 ti Q x2 h) : g_V G X iX1_faultOfWind 0 0 Q 14 0 0 [(2, vI x2)] [] h := by
  refine s_iconst (pc := 14) C dX1_faultOfWind_14 (x := (0 : Int32)) (by decide) ?_
  exact s_sub (ls' := [(2, vI x2)]) [0] rfl (vX1_faultOfWind_b15 C ti x2 (0 : Int32) h H)
set_option maxRecDepth 100000 in
set_option maxHeartbeats 4000000 in
theorem vX1_faultOfWind {G : g_G} {X : g_X} {Q : g_R → g_Hp → Prop} (C : g_Cx y_ G X iX1_faultOfWind) (ti : Nat) (p0 : Int32) (p1 : Int32) (h : g_Hp) (H : wX1_faultOfWind ti p0 p1 h Q) : g_V G X iX1_faultOfWind 0 0 Q 0 0 0 [(0, vR 1 ti 0), (1, vI p0), (2, vI p1)] [] h := by
  refine s_iload_n (pc := 0) C dX1_faultOfWind_0 rfl 1 rfl ?_
  refine s_if_lt (pc := 1) (tgt := 14) C dX1_faultOfWind_1 (by decide) (fun c => ?_) (fun c => ?_)
  · have H := H.1 c
    exact s_sub (ls' := [(2, vI p1)]) [2] rfl (vX1_faultOfWind_b14 C ti p1 h H)
  · have H := H.2 c
    refine s_iload_n (pc := 4) C dX1_faultOfWind_4 rfl 1 rfl ?_
    refine s_bipush (pc := 5) C dX1_faultOfWind_5 (x := (8 : Int32)) (by decide) ?_
    refine s_icmp_ge (pc := 7) (tgt := 14) C dX1_faultOfWind_7 (by decide) (fun c => ?_) (fun c => ?_)
    · have H := H.1 c
      exact s_sub (ls' := [(2, vI p1)]) [2] rfl (vX1_faultOfWind_b14 C ti p1 h H)
    · have H := H.2 c
      refine s_iconst (pc := 10) C dX1_faultOfWind_10 (x := (1 : Int32)) (by decide) ?_
      refine s_goto (pc := 11) (tgt := 15) C dX1_faultOfWind_11 (by decide) ?_
      exact s_sub (ls' := [(2, vI p1)]) [2] rfl (vX1_faultOfWind_b15 C ti p1 (1 : Int32) h H)
theorem ctX1_faultOfWind (l : Launch) (hl : l.stackTraces = false) {G : g_G} (ti : Nat) (p0 : Int32) (p1 : Int32) (h : g_Hp) (Q : g_R → g_Hp → Prop) (H : wX1_faultOfWind ti p0 p1 h Q) : g_Met l y_ G iX1_faultOfWind [vR 1 ti 0, vI p0, vI p1] h Q :=
  g_Met_of hl (by decide +kernel) rfl rfl (Nat.le_of_ble_eq_true rfl) (fun X C => vX1_faultOfWind C ti p0 p1 h H)
/-! X7_stepsBetween -/
abbrev iX7_stepsBetween : g_I := (RX7, yX7_stepsBetween, cX7_stepsBetween, 3, (some .int), [], { frames := 2, cells := 0, slots := 0, locals := 41 })
set_option maxRecDepth 100000 in
set_option maxHeartbeats 4000000 in
theorem vX7_stepsBetween_b14 {G : g_G} {X : g_X} {Q : g_R → g_Hp → Prop} (C : g_Cx y_ G X iX7_stepsBetween) (z0 : Int32) (h : g_Hp) (H : wX7_stepsBetween_b14 Q z0 h) : g_V G X iX7_stepsBetween 0 0 Q 14 0 0 [] [vI z0] h := by
  refine s_istore_n (pc := 14) (ls' := [(2, vI z0)]) C dX7_stepsBetween_14 rfl (by decide) rfl ?_
  refine s_iload_n (pc := 15) C dX7_stepsBetween_15 rfl 0 rfl ?_
  refine s_bipush (pc := 16) C dX7_stepsBetween_16 (x := (8 : Int32)) (by decide) ?_
  refine s_iload_n (pc := 18) C dX7_stepsBetween_18 rfl 0 rfl ?_
  refine s_isub (pc := 19) C dX7_stepsBetween_19 ?_
  refine s_calls (pc := 20) (nA := 2) (as := [vI z0, vI ((8 : Int32) - z0)]) (st := []) (stk := [vI ((8 : Int32) - z0), vI z0]) C (fun l hl => ctJ9_min_7cf53 l hl z0 ((8 : Int32) - z0) _ _ H) ⟨⟨kw_490, kw_81, kw_492⟩, rfl, ⟨by decide, by decide, by decide +kernel⟩, by decide, by decide⟩ kw_491 rfl (Nat.le_of_ble_eq_true rfl) ⟨by decide, by decide⟩ rfl dX7_stepsBetween_20 (g_Kq_I (fun u2 h1 H => ?_) (fun E h1 H => s_prop rfl ⟨by decide, by decide⟩ H C))
  exact s_iret (pc := 23) rfl rfl ⟨by decide, by decide⟩ H C dX7_stepsBetween_23
set_option maxRecDepth 100000 in
set_option maxHeartbeats 4000000 in
theorem vX7_stepsBetween {G : g_G} {X : g_X} {Q : g_R → g_Hp → Prop} (C : g_Cx y_ G X iX7_stepsBetween) (p0 : Int32) (p1 : Int32) (h : g_Hp) (H : wX7_stepsBetween p0 p1 h Q) : g_V G X iX7_stepsBetween 0 0 Q 0 0 0 [(0, vI p0), (1, vI p1)] [] h := by
  refine s_iload_n (pc := 0) C dX7_stepsBetween_0 rfl 0 rfl ?_
  refine s_iload_n (pc := 1) C dX7_stepsBetween_1 rfl 1 rfl ?_
  refine s_icmp_ge (pc := 2) (tgt := 11) C dX7_stepsBetween_2 (by decide) (fun c => ?_) (fun c => ?_)
  · have H := H.1 c
    refine s_iload_n (pc := 11) C dX7_stepsBetween_11 rfl 0 rfl ?_
    refine s_iload_n (pc := 12) C dX7_stepsBetween_12 rfl 1 rfl ?_
    refine s_isub (pc := 13) C dX7_stepsBetween_13 ?_
    exact s_sub (ls' := []) [] rfl (vX7_stepsBetween_b14 C (p0 - p1) h H)
  · have H := H.2 c
    refine s_iload_n (pc := 5) C dX7_stepsBetween_5 rfl 1 rfl ?_
    refine s_iload_n (pc := 6) C dX7_stepsBetween_6 rfl 0 rfl ?_
    refine s_isub (pc := 7) C dX7_stepsBetween_7 ?_
    refine s_goto (pc := 8) (tgt := 14) C dX7_stepsBetween_8 (by decide) ?_
    exact s_sub (ls' := []) [] rfl (vX7_stepsBetween_b14 C (p1 - p0) h H)
theorem ctX7_stepsBetween (l : Launch) (hl : l.stackTraces = false) {G : g_G} (p0 : Int32) (p1 : Int32) (h : g_Hp) (Q : g_R → g_Hp → Prop) (H : wX7_stepsBetween p0 p1 h Q) : g_Met l y_ G iX7_stepsBetween [vI p0, vI p1] h Q :=
  g_Met_of hl (by decide +kernel) rfl rfl (Nat.le_of_ble_eq_true rfl) (fun X C => vX7_stepsBetween C p0 p1 h H)
/-! X1_turnWind -/
abbrev iX1_turnWind : g_I := (RX1, yX1_turnWind, cX1_turnWind, 4, (some .int), [], { frames := 3, cells := 0, slots := 0, locals := 63 })
set_option maxRecDepth 100000 in
set_option maxHeartbeats 4000000 in
theorem vX1_turnWind {G : g_G} {X : g_X} {Q : g_R → g_Hp → Prop} (C : g_Cx y_ G X iX1_turnWind) (ti : Nat) (p0 : Int32) (p1 : Int32) (h : g_Hp) (H : wX1_turnWind ti p0 p1 h Q) : g_V G X iX1_turnWind 0 0 Q 0 0 0 [(0, vR 1 ti 0), (1, vI p0), (2, vI p1)] [] h := by
  refine s_aload_n (pc := 0) C dX1_turnWind_0 rfl 0 rfl ?_
  refine s_geti (pc := 1) (s := 2) ckX1 (Or.inl rfl) (by decide) kw_170 (fun _ => rfl) C dX1_turnWind_1 ?_
  refine s_iload_n (pc := 4) C dX1_turnWind_4 rfl 1 rfl ?_
  refine s_calln (pc := 5) (nA := 2) (as := [vI (h 1 ti 0 3), vI p0]) (st := []) (stk := [vI p0, vI (h 1 ti 0 3)]) ns_RX1_80 C (fun l hl => ctX7_stepsBetween l hl (h 1 ti 0 3) p0 _ _ H) ⟨kw_58, kw_489, kw_488⟩ rfl ⟨by decide, by decide, by decide +kernel⟩ ⟨by decide, by decide⟩ rfl (Nat.le_of_ble_eq_true rfl) ⟨by decide, by decide⟩ rfl dX1_turnWind_5 (g_Kq_I (fun u2 h1 H => ?_) (fun E h1 H => s_prop rfl ⟨by decide, by decide⟩ H C))
  refine s_istore_n (pc := 8) (ls' := [(3, vI u2), (0, vR 1 ti 0), (1, vI p0), (2, vI p1)]) C dX1_turnWind_8 rfl (by decide) rfl ?_
  refine s_aload_n (pc := 9) C dX1_turnWind_9 rfl 1 rfl ?_
  refine s_iload_n (pc := 10) C dX1_turnWind_10 rfl 2 rfl ?_
  refine s_puti (pc := 11) (s := 2) ckX1 (Or.inl rfl) (by decide) kw_170 (fun _ => rfl) rfl rfl rfl C dX1_turnWind_11 ?_
  refine s_name (fun h3 eh3 => ?_)
  have H := H h3 eh3
  refine s_aload_n (pc := 14) C dX1_turnWind_14 rfl 1 rfl ?_
  refine s_iload_n (pc := 15) C dX1_turnWind_15 rfl 3 rfl ?_
  refine s_puti (pc := 16) (s := 3) ckX1 (Or.inl rfl) (by decide) kw_172 (fun _ => rfl) rfl rfl rfl C dX1_turnWind_16 ?_
  refine s_name (fun h4 eh4 => ?_)
  have H := H h4 eh4
  refine s_iload_n (pc := 19) C dX1_turnWind_19 rfl 0 rfl ?_
  exact s_iret (pc := 20) rfl rfl ⟨by decide, by decide⟩ H C dX1_turnWind_20
theorem ctX1_turnWind (l : Launch) (hl : l.stackTraces = false) {G : g_G} (ti : Nat) (p0 : Int32) (p1 : Int32) (h : g_Hp) (Q : g_R → g_Hp → Prop) (H : wX1_turnWind ti p0 p1 h Q) : g_Met l y_ G iX1_turnWind [vR 1 ti 0, vI p0, vI p1] h Q :=
  g_Met_of hl (by decide +kernel) rfl rfl (Nat.le_of_ble_eq_true rfl) (fun X C => vX1_turnWind C ti p0 p1 h H)
/-! X1_faultOfPassing -/
abbrev iX1_faultOfPassing : g_I := (RX1, yX1_faultOfPassing, cX1_faultOfPassing, 2, (some (.object "VaneUnion$Fault")), [], { frames := 1, cells := 0, slots := 0, locals := 20 })
set_option maxRecDepth 100000 in
set_option maxHeartbeats 4000000 in
theorem vX1_faultOfPassing_b20 {G : g_G} {X : g_X} {Q : g_R → g_Hp → Prop} (C : g_Cx y_ G X iX1_faultOfPassing) (ti : Nat) (z0i : Nat) (h : g_Hp) (H : wX1_faultOfPassing_b20 ti Q z0i h) : g_V G X iX1_faultOfPassing 0 0 Q 20 0 0 [] [vR 20 z0i 0] h := by
  exact s_aret (pc := 20) rfl (Or.inl ⟨_, rfl⟩) ⟨by decide, by decide⟩ H C dX1_faultOfPassing_20
set_option maxRecDepth 100000 in
set_option maxHeartbeats 4000000 in
theorem vX1_faultOfPassing_b11 {G : g_G} {X : g_X} {Q : g_R → g_Hp → Prop} (C : g_Cx y_ G X iX1_faultOfPassing) (ti : Nat) (h : g_Hp) (H : wX1_faultOfPassing_b11 ti Q h) : g_V G X iX1_faultOfPassing 0 0 Q 11 0 0 [] [] h := by
  refine s_gets (pc := 11) zs_BAD_ARGUMENT (g_cst_R rfl) kw_589 C dX1_faultOfPassing_11 ?_
  refine s_goto (pc := 14) (tgt := 20) C dX1_faultOfPassing_14 (by decide) ?_
  exact s_sub (ls' := []) [] rfl (vX1_faultOfPassing_b20 C ti 2 h H)
set_option maxRecDepth 100000 in
set_option maxHeartbeats 4000000 in
theorem vX1_faultOfPassing {G : g_G} {X : g_X} {Q : g_R → g_Hp → Prop} (C : g_Cx y_ G X iX1_faultOfPassing) (ti : Nat) (p0 : Int32) (h : g_Hp) (H : wX1_faultOfPassing ti p0 h Q) : g_V G X iX1_faultOfPassing 0 0 Q 0 0 0 [(0, vR 1 ti 0), (1, vI p0)] [] h := by
  refine s_iload_n (pc := 0) C dX1_faultOfPassing_0 rfl 1 rfl ?_
  refine s_iconst (pc := 1) C dX1_faultOfPassing_1 (x := (1 : Int32)) (by decide) ?_
  refine s_icmp_lt (pc := 2) (tgt := 11) C dX1_faultOfPassing_2 (by decide) (fun c => ?_) (fun c => ?_)
  · have H := H.1 c
    exact s_sub (ls' := []) [] rfl (vX1_faultOfPassing_b11 C ti  h H)
  · have H := H.2 c
    refine s_iload_n (pc := 5) C dX1_faultOfPassing_5 rfl 1 rfl ?_
    refine s_bipush (pc := 6) C dX1_faultOfPassing_6 (x := (30 : Int32)) (by decide) ?_
    refine s_icmp_le (pc := 8) (tgt := 17) C dX1_faultOfPassing_8 (by decide) (fun c => ?_) (fun c => ?_)
    · have H := H.1 c
      refine s_gets (pc := 17) zs_NOTHING (g_cst_R rfl) kw_593 C dX1_faultOfPassing_17 ?_
      exact s_sub (ls' := []) [] rfl (vX1_faultOfPassing_b20 C ti 0 h H)
    · have H := H.2 c
      exact s_sub (ls' := []) [] rfl (vX1_faultOfPassing_b11 C ti  h H)
theorem ctX1_faultOfPassing (l : Launch) (hl : l.stackTraces = false) {G : g_G} (ti : Nat) (p0 : Int32) (h : g_Hp) (Q : g_R → g_Hp → Prop) (H : wX1_faultOfPassing ti p0 h Q) : g_Met l y_ G iX1_faultOfPassing [vR 1 ti 0, vI p0] h Q :=
  g_Met_of hl (by decide +kernel) rfl rfl (Nat.le_of_ble_eq_true rfl) (fun X C => vX1_faultOfPassing C ti p0 h H)
/-! X1_countOnList -/
abbrev iX1_countOnList : g_I := (RX1, yX1_countOnList, cX1_countOnList, 4, (some .int), [], { frames := 1, cells := 0, slots := 0, locals := 20 })
set_option maxRecDepth 100000 in
set_option maxHeartbeats 4000000 in
theorem vX1_countOnList_b28 {G : g_G} {X : g_X} {Q : g_R → g_Hp → Prop} (C : g_Cx y_ G X iX1_countOnList) (ti : Nat) (R4 : Int32 → Int32 → Int32 → g_Hp → Prop) (hR4 : ∀ (x1 : Int32) (x2 : Int32) (x3 : Int32) (h : g_Hp), R4 x1 x2 x3 h → g_V G X iX1_countOnList 0 0 Q 4 0 0 [(0, vR 1 ti 0), (1, vI x1), (2, vI x2), (3, vI x3)] [] h) (x1 : Int32) (x2 : Int32) (x3 : Int32) (h : g_Hp) (H : wX1_countOnList_b28 ti Q R4 x1 x2 x3 h) : g_V G X iX1_countOnList 0 0 Q 28 0 0 [(0, vR 1 ti 0), (1, vI x1), (2, vI x2), (3, vI x3)] [] h := by
  refine s_iincN (pc := 28) C dX1_countOnList_28 3 rfl (z' := (1 : Int32)) (by decide) (by decide) (fun y1 ey1 => ?_)
  have H := H y1 ey1
  show g_V _ _ _ _ _ _ _ _ _ [(3, vI y1), (0, vR 1 ti 0), (1, vI x1), (2, vI x2)] _ _
  refine s_goto (pc := 31) (tgt := 4) C dX1_countOnList_31 (by decide) ?_
  exact s_sub (ls' := [(0, vR 1 ti 0), (1, vI x1), (2, vI x2), (3, vI y1)]) [1, 2, 3, 0] rfl (hR4 x1 x2 y1 h H)
set_option maxRecDepth 100000 in
set_option maxHeartbeats 4000000 in
theorem vX1_countOnList_b4_B {G : g_G} {X : g_X} {Q : g_R → g_Hp → Prop} (C : g_Cx y_ G X iX1_countOnList) (ti : Nat) (R4 : Int32 → Int32 → Int32 → g_Hp → Prop) (hR4 : ∀ (x1 : Int32) (x2 : Int32) (x3 : Int32) (h : g_Hp), R4 x1 x2 x3 h → g_V G X iX1_countOnList 0 0 Q 4 0 0 [(0, vR 1 ti 0), (1, vI x1), (2, vI x2), (3, vI x3)] [] h) (x1 : Int32) (x2 : Int32) (x3 : Int32) (h : g_Hp) (H : wX1_countOnList_b4_B ti Q R4 x1 x2 x3 h) : g_V G X iX1_countOnList 0 0 Q 4 0 0 [(0, vR 1 ti 0), (1, vI x1), (2, vI x2), (3, vI x3)] [] h := by
  refine s_iload_n (pc := 4) C dX1_countOnList_4 rfl 3 rfl ?_
  refine s_aload_n (pc := 5) C dX1_countOnList_5 rfl 0 rfl ?_
  refine s_geti (pc := 6) (s := 1) ckX1 (Or.inl rfl) (by decide) kw_168 (fun _ => rfl) C dX1_countOnList_6 ?_
  refine s_icmp_ge (pc := 9) (tgt := 34) C dX1_countOnList_9 (by decide) (fun c => ?_) (fun c => ?_)
  · have H := H.1 c
    refine s_iload_n (pc := 34) C dX1_countOnList_34 rfl 2 rfl ?_
    exact s_iret (pc := 35) rfl rfl ⟨by decide, by decide⟩ H C dX1_countOnList_35
  · have H := H.2 c
    refine s_aload_n (pc := 12) C dX1_countOnList_12 rfl 0 rfl ?_
    refine s_getr (pc := 13) (s := 0) (a := 11) (b := ti) (c' := 0) ckX1 (by decide) kw_166 rfl C dX1_countOnList_13 ?_
    refine s_iload_n (pc := 16) C dX1_countOnList_16 rfl 3 rfl ?_
    refine s_aald (pc := 17) (kk := 11) (by decide) (by decide) H.1 C dX1_countOnList_17 ?_
    have H := H.2
    show g_V _ _ _ _ _ _ _ _ _ _ (vR 2 ti (x3.toNatClampNeg) :: _) _
    refine s_nmj (fun j1 ej1 => ?_)
    have H := H j1 ej1
    refine s_geti (pc := 18) (s := 9) ckX6 (Or.inl rfl) (by decide) kw_139 (fun _ => rfl) C dX1_countOnList_18 ?_
    refine s_iload_n (pc := 21) C dX1_countOnList_21 rfl 1 rfl ?_
    refine s_icmp_ne (pc := 22) (tgt := 28) C dX1_countOnList_22 (by decide) (fun c => ?_) (fun c => ?_)
    · have H := H.1 c
      exact s_sub (ls' := [(0, vR 1 ti 0), (1, vI x1), (2, vI x2), (3, vI x3)]) [0, 1, 2, 3] rfl (vX1_countOnList_b28 C ti R4 hR4 x1 x2 x3 h H)
    · have H := H.2 c
      refine s_iincN (pc := 25) C dX1_countOnList_25 2 rfl (z' := (1 : Int32)) (by decide) (by decide) (fun y2 ey2 => ?_)
      have H := H y2 ey2
      show g_V _ _ _ _ _ _ _ _ _ [(2, vI y2), (0, vR 1 ti 0), (1, vI x1), (3, vI x3)] _ _
      exact s_sub (ls' := [(0, vR 1 ti 0), (1, vI x1), (2, vI y2), (3, vI x3)]) [1, 2, 0, 3] rfl (vX1_countOnList_b28 C ti R4 hR4 x1 y2 x3 h H)
theorem vX1_countOnList_b4 {G : g_G} {X : g_X} {Q : g_R → g_Hp → Prop} (C : g_Cx y_ G X iX1_countOnList) (ti : Nat) (x1 : Int32) (x2 : Int32) (x3 : Int32) (h : g_Hp) (H : wX1_countOnList_b4 ti Q x1 x2 x3 h) : g_V G X iX1_countOnList 0 0 Q 4 0 0 [(0, vR 1 ti 0), (1, vI x1), (2, vI x2), (3, vI x3)] [] h := by
  obtain ⟨n, H⟩ := H
  induction n generalizing x1 x2 x3 h with
  | zero => exact H.elim
  | succ n ih => exact vX1_countOnList_b4_B C ti _ (fun x1 x2 x3 h H => ih x1 x2 x3 h H) x1 x2 x3 h H
set_option maxRecDepth 100000 in
set_option maxHeartbeats 4000000 in
theorem vX1_countOnList {G : g_G} {X : g_X} {Q : g_R → g_Hp → Prop} (C : g_Cx y_ G X iX1_countOnList) (ti : Nat) (p0 : Int32) (h : g_Hp) (H : wX1_countOnList ti p0 h Q) : g_V G X iX1_countOnList 0 0 Q 0 0 0 [(0, vR 1 ti 0), (1, vI p0)] [] h := by
  refine s_iconst (pc := 0) C dX1_countOnList_0 (x := (0 : Int32)) (by decide) ?_
  refine s_istore_n (pc := 1) (ls' := [(2, vI (0 : Int32)), (0, vR 1 ti 0), (1, vI p0)]) C dX1_countOnList_1 rfl (by decide) rfl ?_
  refine s_iconst (pc := 2) C dX1_countOnList_2 (x := (0 : Int32)) (by decide) ?_
  refine s_istore_n (pc := 3) (ls' := [(3, vI (0 : Int32)), (2, vI (0 : Int32)), (0, vR 1 ti 0), (1, vI p0)]) C dX1_countOnList_3 rfl (by decide) rfl ?_
  exact s_sub (ls' := [(0, vR 1 ti 0), (1, vI p0), (2, vI (0 : Int32)), (3, vI (0 : Int32))]) [2, 3, 1, 0] rfl (vX1_countOnList_b4 C ti p0 (0 : Int32) (0 : Int32) h H)
theorem ctX1_countOnList (l : Launch) (hl : l.stackTraces = false) {G : g_G} (ti : Nat) (p0 : Int32) (h : g_Hp) (Q : g_R → g_Hp → Prop) (H : wX1_countOnList ti p0 h Q) : g_Met l y_ G iX1_countOnList [vR 1 ti 0, vI p0] h Q :=
  g_Met_of hl (by decide +kernel) rfl rfl (Nat.le_of_ble_eq_true rfl) (fun X C => vX1_countOnList C ti p0 h H)
/-! X1_standOnPicket -/
abbrev iX1_standOnPicket : g_I := (RX1, yX1_standOnPicket, cX1_standOnPicket, 4, none, [], { frames := 2, cells := 0, slots := 0, locals := 43 })
set_option maxRecDepth 100000 in
set_option maxHeartbeats 4000000 in
theorem vX1_standOnPicket_b58 {G : g_G} {X : g_X} {Q : g_R → g_Hp → Prop} (C : g_Cx y_ G X iX1_standOnPicket) (ti : Nat) (a0i : Nat) (a0j : Nat) (h : g_Hp) (H : wX1_standOnPicket_b58 ti a0i a0j Q h) : g_V G X iX1_standOnPicket 0 0 Q 58 0 0 [] [] h := by
  exact s_vret (pc := 58) rfl ⟨by decide, by decide⟩ H C dX1_standOnPicket_58
set_option maxRecDepth 100000 in
set_option maxHeartbeats 4000000 in
theorem vX1_standOnPicket {G : g_G} {X : g_X} {Q : g_R → g_Hp → Prop} (C : g_Cx y_ G X iX1_standOnPicket) (ti : Nat) (a0i : Nat) (a0j : Nat) (h : g_Hp) (H : wX1_standOnPicket ti a0i a0j h Q) : g_V G X iX1_standOnPicket 0 0 Q 0 0 0 [(0, vR 1 ti 0), (1, vR 2 a0i a0j)] [] h := by
  refine s_aload_n (pc := 0) C dX1_standOnPicket_0 rfl 0 rfl ?_
  refine s_aload_n (pc := 1) C dX1_standOnPicket_1 rfl 1 rfl ?_
  refine s_geti (pc := 2) (s := 9) ckX6 (Or.inl rfl) (by decide) kw_139 (fun _ => rfl) C dX1_standOnPicket_2 ?_
  refine s_callv (pc := 5) (nA := 1) (as := [vI (h 2 a0i a0j 10)]) (st := []) (stk := [vI (h 2 a0i a0j 10), vR 1 ti 0]) ckX1 (Or.inl rfl) C (fun l hl => ctX1_countOnList l hl ti (h 2 a0i a0j 10) _ _ H) ⟨⟨kw_828, kw_59, kw_831⟩, rfl, ⟨by decide, by decide, by decide +kernel⟩, by decide, by decide⟩ kw_829 (g_selW kw_830) rfl (Nat.le_of_ble_eq_true rfl) ⟨by decide, by decide⟩ rfl dX1_standOnPicket_5 (g_Kq_I (fun u2 h1 H => ?_) (fun E h1 H => s_prop rfl ⟨by decide, by decide⟩ H C))
  refine s_istore_n (pc := 8) (ls' := [(2, vI u2), (0, vR 1 ti 0), (1, vR 2 a0i a0j)]) C dX1_standOnPicket_8 rfl (by decide) rfl ?_
  refine s_iload_n (pc := 9) C dX1_standOnPicket_9 rfl 0 rfl ?_
  refine s_iconst (pc := 10) C dX1_standOnPicket_10 (x := (2 : Int32)) (by decide) ?_
  refine s_calls (pc := 11) (nA := 2) (as := [vI u2, vI (2 : Int32)]) (st := []) (stk := [vI (2 : Int32), vI u2]) C (fun l hl => ctJ9_min_7cf53 l hl u2 (2 : Int32) _ _ H) ⟨⟨kw_832, kw_81, kw_492⟩, rfl, ⟨by decide, by decide, by decide +kernel⟩, by decide, by decide⟩ kw_491 rfl (Nat.le_of_ble_eq_true rfl) ⟨by decide, by decide⟩ rfl dX1_standOnPicket_11 (g_Kq_I (fun u4 h3 H => ?_) (fun E h3 H => s_prop rfl ⟨by decide, by decide⟩ H C))
  refine s_istore_n (pc := 14) (ls' := [(3, vI u4), (2, vI u2), (0, vR 1 ti 0), (1, vR 2 a0i a0j)]) C dX1_standOnPicket_14 rfl (by decide) rfl ?_
  refine s_aload_n (pc := 15) C dX1_standOnPicket_15 rfl 3 rfl ?_
  refine s_geti (pc := 16) (s := 10) ckX6 (Or.inl rfl) (by decide) kw_142 (fun _ => rfl) C dX1_standOnPicket_16 ?_
  refine s_iload_n (pc := 19) C dX1_standOnPicket_19 rfl 0 rfl ?_
  refine s_icmp_ge (pc := 20) (tgt := 48) C dX1_standOnPicket_20 (by decide) (fun c => ?_) (fun c => ?_)
  · have H := H.1 c
    refine s_aload_n (pc := 48) C dX1_standOnPicket_48 rfl 3 rfl ?_
    refine s_dup (pc := 49) C dX1_standOnPicket_49 rfl ?_
    refine s_geti (pc := 50) (s := 10) ckX6 (Or.inl rfl) (by decide) kw_142 (fun _ => rfl) C dX1_standOnPicket_50 ?_
    refine s_iload_n (pc := 53) C dX1_standOnPicket_53 rfl 0 rfl ?_
    refine s_isub (pc := 54) C dX1_standOnPicket_54 ?_
    refine s_puti (pc := 55) (s := 10) ckX6 (Or.inl rfl) (by decide) kw_142 (fun _ => rfl) rfl rfl rfl C dX1_standOnPicket_55 ?_
    refine s_name (fun h5 eh5 => ?_)
    have H := H h5 eh5
    exact s_sub (ls' := []) [] rfl (vX1_standOnPicket_b58 C ti a0i a0j  h5 H)
  · have H := H.2 c
    refine s_aload_n (pc := 23) C dX1_standOnPicket_23 rfl 3 rfl ?_
    refine s_dup (pc := 24) C dX1_standOnPicket_24 rfl ?_
    refine s_geti (pc := 25) (s := 6) ckX6 (Or.inl rfl) (by decide) kw_132 (fun _ => rfl) C dX1_standOnPicket_25 ?_
    refine s_iconst (pc := 28) C dX1_standOnPicket_28 (x := (1 : Int32)) (by decide) ?_
    refine s_iadd (pc := 29) C dX1_standOnPicket_29 ?_
    refine s_puti (pc := 30) (s := 6) ckX6 (Or.inl rfl) (by decide) kw_132 (fun _ => rfl) rfl rfl rfl C dX1_standOnPicket_30 ?_
    refine s_name (fun h6 eh6 => ?_)
    have H := H h6 eh6
    refine s_aload_n (pc := 33) C dX1_standOnPicket_33 rfl 3 rfl ?_
    refine s_dup (pc := 34) C dX1_standOnPicket_34 rfl ?_
    refine s_geti (pc := 35) (s := 10) ckX6 (Or.inl rfl) (by decide) kw_142 (fun _ => rfl) C dX1_standOnPicket_35 ?_
    refine s_iload_n (pc := 38) C dX1_standOnPicket_38 rfl 1 rfl ?_
    refine s_iload_n (pc := 39) C dX1_standOnPicket_39 rfl 0 rfl ?_
    refine s_isub (pc := 40) C dX1_standOnPicket_40 ?_
    refine s_iadd (pc := 41) C dX1_standOnPicket_41 ?_
    refine s_puti (pc := 42) (s := 10) ckX6 (Or.inl rfl) (by decide) kw_142 (fun _ => rfl) rfl rfl rfl C dX1_standOnPicket_42 ?_
    refine s_name (fun h7 eh7 => ?_)
    have H := H h7 eh7
    refine s_goto (pc := 45) (tgt := 58) C dX1_standOnPicket_45 (by decide) ?_
    exact s_sub (ls' := []) [] rfl (vX1_standOnPicket_b58 C ti a0i a0j  h7 H)
theorem ctX1_standOnPicket (l : Launch) (hl : l.stackTraces = false) {G : g_G} (ti : Nat) (a0i : Nat) (a0j : Nat) (h : g_Hp) (Q : g_R → g_Hp → Prop) (H : wX1_standOnPicket ti a0i a0j h Q) : g_Met l y_ G iX1_standOnPicket [vR 1 ti 0, vR 2 a0i a0j] h Q :=
  g_Met_of hl (by decide +kernel) rfl rfl (Nat.le_of_ble_eq_true rfl) (fun X C => vX1_standOnPicket C ti a0i a0j h H)
/-! X1_passStrikeShift -/
abbrev iX1_passStrikeShift : g_I := (RX1, yX1_passStrikeShift, cX1_passStrikeShift, 2, none, [], { frames := 3, cells := 0, slots := 0, locals := 66 })
set_option maxRecDepth 100000 in
set_option maxHeartbeats 4000000 in
theorem vX1_passStrikeShift_b84 {G : g_G} {X : g_X} {Q : g_R → g_Hp → Prop} (C : g_Cx y_ G X iX1_passStrikeShift) (ti : Nat) (R43 : Int32 → g_Hp → Prop) (hR43 : ∀ (x1 : Int32) (h : g_Hp), R43 x1 h → g_V G X iX1_passStrikeShift 0 0 Q 43 0 0 [(0, vR 1 ti 0), (1, vI x1)] [] h) (x1 : Int32) (h : g_Hp) (H : wX1_passStrikeShift_b84 ti Q R43 x1 h) : g_V G X iX1_passStrikeShift 0 0 Q 84 0 0 [(0, vR 1 ti 0), (1, vI x1)] [] h := by
  refine s_iincN (pc := 84) C dX1_passStrikeShift_84 1 rfl (z' := (1 : Int32)) (by decide) (by decide) (fun y1 ey1 => ?_)
  have H := H y1 ey1
  show g_V _ _ _ _ _ _ _ _ _ [(1, vI y1), (0, vR 1 ti 0)] _ _
  refine s_goto (pc := 87) (tgt := 43) C dX1_passStrikeShift_87 (by decide) ?_
  exact s_sub (ls' := [(0, vR 1 ti 0), (1, vI y1)]) [1, 0] rfl (hR43 y1 h H)
set_option maxRecDepth 100000 in
set_option maxHeartbeats 4000000 in
theorem vX1_passStrikeShift_b123 {G : g_G} {X : g_X} {Q : g_R → g_Hp → Prop} (C : g_Cx y_ G X iX1_passStrikeShift) (ti : Nat) (R92 : Int32 → g_Hp → Prop) (hR92 : ∀ (x1 : Int32) (h : g_Hp), R92 x1 h → g_V G X iX1_passStrikeShift 0 0 Q 92 0 0 [(0, vR 1 ti 0), (1, vI x1)] [] h) (x1 : Int32) (h : g_Hp) (H : wX1_passStrikeShift_b123 ti Q R92 x1 h) : g_V G X iX1_passStrikeShift 0 0 Q 123 0 0 [(0, vR 1 ti 0), (1, vI x1)] [] h := by
  refine s_iincN (pc := 123) C dX1_passStrikeShift_123 1 rfl (z' := (1 : Int32)) (by decide) (by decide) (fun y1 ey1 => ?_)
  have H := H y1 ey1
  show g_V _ _ _ _ _ _ _ _ _ [(1, vI y1), (0, vR 1 ti 0)] _ _
  refine s_goto (pc := 126) (tgt := 92) C dX1_passStrikeShift_126 (by decide) ?_
  exact s_sub (ls' := [(0, vR 1 ti 0), (1, vI y1)]) [1, 0] rfl (hR92 y1 h H)
set_option maxRecDepth 100000 in
set_option maxHeartbeats 4000000 in
theorem vX1_passStrikeShift_b92_B {G : g_G} {X : g_X} {Q : g_R → g_Hp → Prop} (C : g_Cx y_ G X iX1_passStrikeShift) (ti : Nat) (R92 : Int32 → g_Hp → Prop) (hR92 : ∀ (x1 : Int32) (h : g_Hp), R92 x1 h → g_V G X iX1_passStrikeShift 0 0 Q 92 0 0 [(0, vR 1 ti 0), (1, vI x1)] [] h) (x1 : Int32) (h : g_Hp) (H : wX1_passStrikeShift_b92_B ti Q R92 x1 h) : g_V G X iX1_passStrikeShift 0 0 Q 92 0 0 [(0, vR 1 ti 0), (1, vI x1)] [] h := by
  refine s_iload_n (pc := 92) C dX1_passStrikeShift_92 rfl 1 rfl ?_
  refine s_aload_n (pc := 93) C dX1_passStrikeShift_93 rfl 0 rfl ?_
  refine s_geti (pc := 94) (s := 1) ckX1 (Or.inl rfl) (by decide) kw_168 (fun _ => rfl) C dX1_passStrikeShift_94 ?_
  refine s_icmp_ge (pc := 97) (tgt := 129) C dX1_passStrikeShift_97 (by decide) (fun c => ?_) (fun c => ?_)
  · have H := H.1 c
    exact s_vret (pc := 129) rfl ⟨by decide, by decide⟩ H C dX1_passStrikeShift_129
  · have H := H.2 c
    refine s_aload_n (pc := 100) C dX1_passStrikeShift_100 rfl 0 rfl ?_
    refine s_getr (pc := 101) (s := 0) (a := 11) (b := ti) (c' := 0) ckX1 (by decide) kw_166 rfl C dX1_passStrikeShift_101 ?_
    refine s_iload_n (pc := 104) C dX1_passStrikeShift_104 rfl 1 rfl ?_
    refine s_aald (pc := 105) (kk := 11) (by decide) (by decide) H.1 C dX1_passStrikeShift_105 ?_
    have H := H.2
    show g_V _ _ _ _ _ _ _ _ _ _ (vR 2 ti (x1.toNatClampNeg) :: _) _
    refine s_nmj (fun j1 ej1 => ?_)
    have H := H j1 ej1
    refine s_geti (pc := 106) (s := 9) ckX6 (Or.inl rfl) (by decide) kw_139 (fun _ => rfl) C dX1_passStrikeShift_106 ?_
    refine s_iconst (pc := 109) C dX1_passStrikeShift_109 (x := (-1 : Int32)) (by decide) ?_
    refine s_icmp_eq (pc := 110) (tgt := 123) C dX1_passStrikeShift_110 (by decide) (fun c => ?_) (fun c => ?_)
    · have H := H.1 c
      exact s_sub (ls' := [(0, vR 1 ti 0), (1, vI x1)]) [0, 1] rfl (vX1_passStrikeShift_b123 C ti R92 hR92 x1 h H)
    · have H := H.2 c
      refine s_aload_n (pc := 113) C dX1_passStrikeShift_113 rfl 0 rfl ?_
      refine s_aload_n (pc := 114) C dX1_passStrikeShift_114 rfl 0 rfl ?_
      refine s_getr (pc := 115) (s := 0) (a := 11) (b := ti) (c' := 0) ckX1 (by decide) kw_166 rfl C dX1_passStrikeShift_115 ?_
      refine s_iload_n (pc := 118) C dX1_passStrikeShift_118 rfl 1 rfl ?_
      refine s_aald (pc := 119) (kk := 11) (by decide) (by decide) H.1 C dX1_passStrikeShift_119 ?_
      have H := H.2
      show g_V _ _ _ _ _ _ _ _ _ _ (vR 2 ti (x1.toNatClampNeg) :: _) _
      refine s_nmj (fun j2 ej2 => ?_)
      have H := H j2 ej2
      refine s_callv (pc := 120) (nA := 1) (as := [vR 2 ti j2]) (st := []) (stk := [vR 2 ti j2, vR 1 ti 0]) ckX1 (Or.inl rfl) C (fun l hl => ctX1_standOnPicket l hl ti ti j2 _ _ H) ⟨⟨kw_824, kw_59, kw_827⟩, rfl, ⟨by decide, by decide, by decide +kernel⟩, by decide, by decide⟩ kw_826 (g_selW kw_7) rfl (Nat.le_of_ble_eq_true rfl) ⟨by decide, by decide⟩ rfl dX1_passStrikeShift_120 (g_Kq_V (fun h3 H => ?_) (fun E h3 H => s_prop rfl ⟨by decide, by decide⟩ H C))
      exact s_sub (ls' := [(0, vR 1 ti 0), (1, vI x1)]) [0, 1] rfl (vX1_passStrikeShift_b123 C ti R92 hR92 x1 h3 H)
theorem vX1_passStrikeShift_b92 {G : g_G} {X : g_X} {Q : g_R → g_Hp → Prop} (C : g_Cx y_ G X iX1_passStrikeShift) (ti : Nat) (x1 : Int32) (h : g_Hp) (H : wX1_passStrikeShift_b92 ti Q x1 h) : g_V G X iX1_passStrikeShift 0 0 Q 92 0 0 [(0, vR 1 ti 0), (1, vI x1)] [] h := by
  obtain ⟨n, H⟩ := H
  induction n generalizing x1 h with
  | zero => exact H.elim
  | succ n ih => exact vX1_passStrikeShift_b92_B C ti _ (fun x1 h H => ih x1 h H) x1 h H
set_option maxRecDepth 100000 in
set_option maxHeartbeats 4000000 in
theorem vX1_passStrikeShift_b43_B {G : g_G} {X : g_X} {Q : g_R → g_Hp → Prop} (C : g_Cx y_ G X iX1_passStrikeShift) (ti : Nat) (R43 : Int32 → g_Hp → Prop) (hR43 : ∀ (x1 : Int32) (h : g_Hp), R43 x1 h → g_V G X iX1_passStrikeShift 0 0 Q 43 0 0 [(0, vR 1 ti 0), (1, vI x1)] [] h) (x1 : Int32) (h : g_Hp) (H : wX1_passStrikeShift_b43_B ti Q R43 x1 h) : g_V G X iX1_passStrikeShift 0 0 Q 43 0 0 [(0, vR 1 ti 0), (1, vI x1)] [] h := by
  refine s_iload_n (pc := 43) C dX1_passStrikeShift_43 rfl 1 rfl ?_
  refine s_aload_n (pc := 44) C dX1_passStrikeShift_44 rfl 0 rfl ?_
  refine s_geti (pc := 45) (s := 1) ckX1 (Or.inl rfl) (by decide) kw_168 (fun _ => rfl) C dX1_passStrikeShift_45 ?_
  refine s_icmp_ge (pc := 48) (tgt := 90) C dX1_passStrikeShift_48 (by decide) (fun c => ?_) (fun c => ?_)
  · have H := H.1 c
    refine s_iconst (pc := 90) C dX1_passStrikeShift_90 (x := (0 : Int32)) (by decide) ?_
    refine s_istore_n (pc := 91) (ls' := [(1, vI (0 : Int32)), (0, vR 1 ti 0)]) C dX1_passStrikeShift_91 rfl (by decide) rfl ?_
    exact s_sub (ls' := [(0, vR 1 ti 0), (1, vI (0 : Int32))]) [1, 0] rfl (vX1_passStrikeShift_b92 C ti (0 : Int32) h H)
  · have H := H.2 c
    refine s_aload_n (pc := 51) C dX1_passStrikeShift_51 rfl 0 rfl ?_
    refine s_geti (pc := 52) (s := 9) ckX1 (Or.inl rfl) (by decide) kw_183 (fun _ => rfl) C dX1_passStrikeShift_52 ?_
    refine s_iconst (pc := 55) C dX1_passStrikeShift_55 (x := (2 : Int32)) (by decide) ?_
    refine s_icmp_lt (pc := 56) (tgt := 84) C dX1_passStrikeShift_56 (by decide) (fun c => ?_) (fun c => ?_)
    · have H := H.1 c
      exact s_sub (ls' := [(0, vR 1 ti 0), (1, vI x1)]) [0, 1] rfl (vX1_passStrikeShift_b84 C ti R43 hR43 x1 h H)
    · have H := H.2 c
      refine s_aload_n (pc := 59) C dX1_passStrikeShift_59 rfl 0 rfl ?_
      refine s_dup (pc := 60) C dX1_passStrikeShift_60 rfl ?_
      refine s_geti (pc := 61) (s := 9) ckX1 (Or.inl rfl) (by decide) kw_183 (fun _ => rfl) C dX1_passStrikeShift_61 ?_
      refine s_iconst (pc := 64) C dX1_passStrikeShift_64 (x := (2 : Int32)) (by decide) ?_
      refine s_isub (pc := 65) C dX1_passStrikeShift_65 ?_
      refine s_puti (pc := 66) (s := 9) ckX1 (Or.inl rfl) (by decide) kw_183 (fun _ => rfl) rfl rfl rfl C dX1_passStrikeShift_66 ?_
      refine s_name (fun h1 eh1 => ?_)
      have H := H h1 eh1
      refine s_aload_n (pc := 69) C dX1_passStrikeShift_69 rfl 0 rfl ?_
      refine s_getr (pc := 70) (s := 0) (a := 11) (b := ti) (c' := 0) ckX1 (by decide) kw_166 rfl C dX1_passStrikeShift_70 ?_
      refine s_iload_n (pc := 73) C dX1_passStrikeShift_73 rfl 1 rfl ?_
      refine s_aald (pc := 74) (kk := 11) (by decide) (by decide) H.1 C dX1_passStrikeShift_74 ?_
      have H := H.2
      show g_V _ _ _ _ _ _ _ _ _ _ (vR 2 ti (x1.toNatClampNeg) :: _) _
      refine s_nmj (fun j2 ej2 => ?_)
      have H := H j2 ej2
      refine s_dup (pc := 75) C dX1_passStrikeShift_75 rfl ?_
      refine s_geti (pc := 76) (s := 4) ckX6 (Or.inl rfl) (by decide) kw_126 (fun _ => rfl) C dX1_passStrikeShift_76 ?_
      refine s_iconst (pc := 79) C dX1_passStrikeShift_79 (x := (2 : Int32)) (by decide) ?_
      refine s_iadd (pc := 80) C dX1_passStrikeShift_80 ?_
      refine s_puti (pc := 81) (s := 4) ckX6 (Or.inl rfl) (by decide) kw_126 (fun _ => rfl) rfl rfl rfl C dX1_passStrikeShift_81 ?_
      refine s_name (fun h3 eh3 => ?_)
      have H := H h3 eh3
      exact s_sub (ls' := [(0, vR 1 ti 0), (1, vI x1)]) [0, 1] rfl (vX1_passStrikeShift_b84 C ti R43 hR43 x1 h3 H)
theorem vX1_passStrikeShift_b43 {G : g_G} {X : g_X} {Q : g_R → g_Hp → Prop} (C : g_Cx y_ G X iX1_passStrikeShift) (ti : Nat) (x1 : Int32) (h : g_Hp) (H : wX1_passStrikeShift_b43 ti Q x1 h) : g_V G X iX1_passStrikeShift 0 0 Q 43 0 0 [(0, vR 1 ti 0), (1, vI x1)] [] h := by
  obtain ⟨n, H⟩ := H
  induction n generalizing x1 h with
  | zero => exact H.elim
  | succ n ih => exact vX1_passStrikeShift_b43_B C ti _ (fun x1 h H => ih x1 h H) x1 h H
set_option maxRecDepth 100000 in
set_option maxHeartbeats 4000000 in
theorem vX1_passStrikeShift_b12_B {G : g_G} {X : g_X} {Q : g_R → g_Hp → Prop} (C : g_Cx y_ G X iX1_passStrikeShift) (ti : Nat) (R12 : Int32 → g_Hp → Prop) (hR12 : ∀ (x1 : Int32) (h : g_Hp), R12 x1 h → g_V G X iX1_passStrikeShift 0 0 Q 12 0 0 [(0, vR 1 ti 0), (1, vI x1)] [] h) (x1 : Int32) (h : g_Hp) (H : wX1_passStrikeShift_b12_B ti Q R12 x1 h) : g_V G X iX1_passStrikeShift 0 0 Q 12 0 0 [(0, vR 1 ti 0), (1, vI x1)] [] h := by
  refine s_iload_n (pc := 12) C dX1_passStrikeShift_12 rfl 1 rfl ?_
  refine s_aload_n (pc := 13) C dX1_passStrikeShift_13 rfl 0 rfl ?_
  refine s_geti (pc := 14) (s := 1) ckX1 (Or.inl rfl) (by decide) kw_168 (fun _ => rfl) C dX1_passStrikeShift_14 ?_
  refine s_icmp_ge (pc := 17) (tgt := 41) C dX1_passStrikeShift_17 (by decide) (fun c => ?_) (fun c => ?_)
  · have H := H.1 c
    refine s_iconst (pc := 41) C dX1_passStrikeShift_41 (x := (0 : Int32)) (by decide) ?_
    refine s_istore_n (pc := 42) (ls' := [(1, vI (0 : Int32)), (0, vR 1 ti 0)]) C dX1_passStrikeShift_42 rfl (by decide) rfl ?_
    exact s_sub (ls' := [(0, vR 1 ti 0), (1, vI (0 : Int32))]) [1, 0] rfl (vX1_passStrikeShift_b43 C ti (0 : Int32) h H)
  · have H := H.2 c
    refine s_aload_n (pc := 20) C dX1_passStrikeShift_20 rfl 0 rfl ?_
    refine s_getr (pc := 21) (s := 0) (a := 11) (b := ti) (c' := 0) ckX1 (by decide) kw_166 rfl C dX1_passStrikeShift_21 ?_
    refine s_iload_n (pc := 24) C dX1_passStrikeShift_24 rfl 1 rfl ?_
    refine s_aald (pc := 25) (kk := 11) (by decide) (by decide) H.1 C dX1_passStrikeShift_25 ?_
    have H := H.2
    show g_V _ _ _ _ _ _ _ _ _ _ (vR 2 ti (x1.toNatClampNeg) :: _) _
    refine s_nmj (fun j1 ej1 => ?_)
    have H := H j1 ej1
    refine s_dup (pc := 26) C dX1_passStrikeShift_26 rfl ?_
    refine s_geti (pc := 27) (s := 5) ckX6 (Or.inl rfl) (by decide) kw_129 (fun _ => rfl) C dX1_passStrikeShift_27 ?_
    refine s_iconst (pc := 30) C dX1_passStrikeShift_30 (x := (1 : Int32)) (by decide) ?_
    refine s_iadd (pc := 31) C dX1_passStrikeShift_31 ?_
    refine s_puti (pc := 32) (s := 5) ckX6 (Or.inl rfl) (by decide) kw_129 (fun _ => rfl) rfl rfl rfl C dX1_passStrikeShift_32 ?_
    refine s_name (fun h2 eh2 => ?_)
    have H := H h2 eh2
    refine s_iincN (pc := 35) C dX1_passStrikeShift_35 1 rfl (z' := (1 : Int32)) (by decide) (by decide) (fun y3 ey3 => ?_)
    have H := H y3 ey3
    show g_V _ _ _ _ _ _ _ _ _ [(1, vI y3), (0, vR 1 ti 0)] _ _
    refine s_goto (pc := 38) (tgt := 12) C dX1_passStrikeShift_38 (by decide) ?_
    exact s_sub (ls' := [(0, vR 1 ti 0), (1, vI y3)]) [1, 0] rfl (hR12 y3 h2 H)
theorem vX1_passStrikeShift_b12 {G : g_G} {X : g_X} {Q : g_R → g_Hp → Prop} (C : g_Cx y_ G X iX1_passStrikeShift) (ti : Nat) (x1 : Int32) (h : g_Hp) (H : wX1_passStrikeShift_b12 ti Q x1 h) : g_V G X iX1_passStrikeShift 0 0 Q 12 0 0 [(0, vR 1 ti 0), (1, vI x1)] [] h := by
  obtain ⟨n, H⟩ := H
  induction n generalizing x1 h with
  | zero => exact H.elim
  | succ n ih => exact vX1_passStrikeShift_b12_B C ti _ (fun x1 h H => ih x1 h H) x1 h H
set_option maxRecDepth 100000 in
set_option maxHeartbeats 4000000 in
theorem vX1_passStrikeShift {G : g_G} {X : g_X} {Q : g_R → g_Hp → Prop} (C : g_Cx y_ G X iX1_passStrikeShift) (ti : Nat) (h : g_Hp) (H : wX1_passStrikeShift ti h Q) : g_V G X iX1_passStrikeShift 0 0 Q 0 0 0 [(0, vR 1 ti 0)] [] h := by
  refine s_aload_n (pc := 0) C dX1_passStrikeShift_0 rfl 0 rfl ?_
  refine s_dup (pc := 1) C dX1_passStrikeShift_1 rfl ?_
  refine s_geti (pc := 2) (s := 7) ckX1 (Or.inl rfl) (by decide) kw_180 (fun _ => rfl) C dX1_passStrikeShift_2 ?_
  refine s_iconst (pc := 5) C dX1_passStrikeShift_5 (x := (1 : Int32)) (by decide) ?_
  refine s_iadd (pc := 6) C dX1_passStrikeShift_6 ?_
  refine s_puti (pc := 7) (s := 7) ckX1 (Or.inl rfl) (by decide) kw_180 (fun _ => rfl) rfl rfl rfl C dX1_passStrikeShift_7 ?_
  refine s_name (fun h1 eh1 => ?_)
  have H := H h1 eh1
  refine s_iconst (pc := 10) C dX1_passStrikeShift_10 (x := (0 : Int32)) (by decide) ?_
  refine s_istore_n (pc := 11) (ls' := [(1, vI (0 : Int32)), (0, vR 1 ti 0)]) C dX1_passStrikeShift_11 rfl (by decide) rfl ?_
  exact s_sub (ls' := [(0, vR 1 ti 0), (1, vI (0 : Int32))]) [1, 0] rfl (vX1_passStrikeShift_b12 C ti (0 : Int32) h1 H)
theorem ctX1_passStrikeShift (l : Launch) (hl : l.stackTraces = false) {G : g_G} (ti : Nat) (h : g_Hp) (Q : g_R → g_Hp → Prop) (H : wX1_passStrikeShift ti h Q) : g_Met l y_ G iX1_passStrikeShift [vR 1 ti 0] h Q :=
  g_Met_of hl (by decide +kernel) rfl rfl (Nat.le_of_ble_eq_true rfl) (fun X C => vX1_passStrikeShift C ti h H)
/-! X1_passWorkShift -/
abbrev iX1_passWorkShift : g_I := (RX1, yX1_passWorkShift, cX1_passWorkShift, 4, (some .int), [], { frames := 3, cells := 0, slots := 0, locals := 63 })
set_option maxRecDepth 100000 in
set_option maxHeartbeats 4000000 in
theorem vX1_passWorkShift_b62 {G : g_G} {X : g_X} {Q : g_R → g_Hp → Prop} (C : g_Cx y_ G X iX1_passWorkShift) (ti : Nat) (R4 : Int32 → Int32 → g_Hp → Prop) (hR4 : ∀ (x1 : Int32) (x2 : Int32) (h : g_Hp), R4 x1 x2 h → g_V G X iX1_passWorkShift 0 0 Q 4 0 0 [(0, vR 1 ti 0), (1, vI x1), (2, vI x2)] [] h) (x1 : Int32) (x2 : Int32) (h : g_Hp) (H : wX1_passWorkShift_b62 ti Q R4 x1 x2 h) : g_V G X iX1_passWorkShift 0 0 Q 62 0 0 [(0, vR 1 ti 0), (1, vI x1), (2, vI x2)] [] h := by
  refine s_iincN (pc := 62) C dX1_passWorkShift_62 2 rfl (z' := (1 : Int32)) (by decide) (by decide) (fun y1 ey1 => ?_)
  have H := H y1 ey1
  show g_V _ _ _ _ _ _ _ _ _ [(2, vI y1), (0, vR 1 ti 0), (1, vI x1)] _ _
  refine s_goto (pc := 65) (tgt := 4) C dX1_passWorkShift_65 (by decide) ?_
  exact s_sub (ls' := [(0, vR 1 ti 0), (1, vI x1), (2, vI y1)]) [1, 2, 0] rfl (hR4 x1 y1 h H)
set_option maxRecDepth 100000 in
set_option maxHeartbeats 4000000 in
theorem vX1_passWorkShift_b4_B {G : g_G} {X : g_X} {Q : g_R → g_Hp → Prop} (C : g_Cx y_ G X iX1_passWorkShift) (ti : Nat) (R4 : Int32 → Int32 → g_Hp → Prop) (hR4 : ∀ (x1 : Int32) (x2 : Int32) (h : g_Hp), R4 x1 x2 h → g_V G X iX1_passWorkShift 0 0 Q 4 0 0 [(0, vR 1 ti 0), (1, vI x1), (2, vI x2)] [] h) (x1 : Int32) (x2 : Int32) (h : g_Hp) (H : wX1_passWorkShift_b4_B ti Q R4 x1 x2 h) : g_V G X iX1_passWorkShift 0 0 Q 4 0 0 [(0, vR 1 ti 0), (1, vI x1), (2, vI x2)] [] h := by
  refine s_iload_n (pc := 4) C dX1_passWorkShift_4 rfl 2 rfl ?_
  refine s_aload_n (pc := 5) C dX1_passWorkShift_5 rfl 0 rfl ?_
  refine s_geti (pc := 6) (s := 1) ckX1 (Or.inl rfl) (by decide) kw_168 (fun _ => rfl) C dX1_passWorkShift_6 ?_
  refine s_icmp_ge (pc := 9) (tgt := 68) C dX1_passWorkShift_9 (by decide) (fun c => ?_) (fun c => ?_)
  · have H := H.1 c
    refine s_iload_n (pc := 68) C dX1_passWorkShift_68 rfl 1 rfl ?_
    exact s_iret (pc := 69) rfl rfl ⟨by decide, by decide⟩ H C dX1_passWorkShift_69
  · have H := H.2 c
    refine s_aload_n (pc := 12) C dX1_passWorkShift_12 rfl 0 rfl ?_
    refine s_getr (pc := 13) (s := 0) (a := 11) (b := ti) (c' := 0) ckX1 (by decide) kw_166 rfl C dX1_passWorkShift_13 ?_
    refine s_iload_n (pc := 16) C dX1_passWorkShift_16 rfl 2 rfl ?_
    refine s_aald (pc := 17) (kk := 11) (by decide) (by decide) H.1 C dX1_passWorkShift_17 ?_
    have H := H.2
    show g_V _ _ _ _ _ _ _ _ _ _ (vR 2 ti (x2.toNatClampNeg) :: _) _
    refine s_nmj (fun j1 ej1 => ?_)
    have H := H j1 ej1
    refine s_astore_n (pc := 18) (ls' := [(3, vR 2 ti j1), (0, vR 1 ti 0), (1, vI x1), (2, vI x2)]) C dX1_passWorkShift_18 rfl (by decide) rfl ?_
    refine s_iload_n (pc := 19) C dX1_passWorkShift_19 rfl 2 rfl ?_
    refine s_aload_n (pc := 20) C dX1_passWorkShift_20 rfl 0 rfl ?_
    refine s_geti (pc := 21) (s := 2) ckX6 (Or.inl rfl) (by decide) kw_120 (fun _ => rfl) C dX1_passWorkShift_21 ?_
    refine s_aload_n (pc := 24) C dX1_passWorkShift_24 rfl 1 rfl ?_
    refine s_geti (pc := 25) (s := 2) ckX1 (Or.inl rfl) (by decide) kw_170 (fun _ => rfl) C dX1_passWorkShift_25 ?_
    refine s_calln (pc := 28) (nA := 2) (as := [vI (h 2 ti j1 3), vI (h 1 ti 0 3)]) (st := [vI x1]) (stk := [vI (h 1 ti 0 3), vI (h 2 ti j1 3), vI x1]) ns_RX1_80 C (fun l hl => ctX7_stepsBetween l hl (h 2 ti j1 3) (h 1 ti 0 3) _ _ H) ⟨kw_58, kw_489, kw_488⟩ rfl ⟨by decide, by decide, by decide +kernel⟩ ⟨by decide, by decide⟩ rfl (Nat.le_of_ble_eq_true rfl) ⟨by decide, by decide⟩ rfl dX1_passWorkShift_28 (g_Kq_I (fun u3 h2 H => ?_) (fun E h2 H => s_prop rfl ⟨by decide, by decide⟩ H C))
    refine s_iadd (pc := 31) C dX1_passWorkShift_31 ?_
    refine s_namei (fun y4 ey4 => ?_)
    have H := H y4 ey4
    refine s_istore_n (pc := 32) (ls' := [(1, vI y4), (3, vR 2 ti j1), (0, vR 1 ti 0), (2, vI x2)]) C dX1_passWorkShift_32 rfl (by decide) rfl ?_
    refine s_aload_n (pc := 33) C dX1_passWorkShift_33 rfl 1 rfl ?_
    refine s_aload_n (pc := 34) C dX1_passWorkShift_34 rfl 2 rfl ?_
    refine s_geti (pc := 35) (s := 2) ckX1 (Or.inl rfl) (by decide) kw_170 (fun _ => rfl) C dX1_passWorkShift_35 ?_
    refine s_puti (pc := 38) (s := 2) ckX6 (Or.inl rfl) (by decide) kw_120 (fun _ => rfl) rfl rfl rfl C dX1_passWorkShift_38 ?_
    refine s_name (fun h5 eh5 => ?_)
    have H := H h5 eh5
    refine s_aload_n (pc := 41) C dX1_passWorkShift_41 rfl 2 rfl ?_
    refine s_geti (pc := 42) (s := 3) ckX1 (Or.inl rfl) (by decide) kw_172 (fun _ => rfl) C dX1_passWorkShift_42 ?_
    refine s_iconst (pc := 45) C dX1_passWorkShift_45 (x := (1 : Int32)) (by decide) ?_
    refine s_icmp_lt (pc := 46) (tgt := 62) C dX1_passWorkShift_46 (by decide) (fun c => ?_) (fun c => ?_)
    · have H := H.1 c
      exact s_sub (ls' := [(0, vR 1 ti 0), (1, vI y4), (2, vI x2)]) [2, 0, 3] rfl (vX1_passWorkShift_b62 C ti R4 hR4 y4 x2 h5 H)
    · have H := H.2 c
      refine s_aload_n (pc := 49) C dX1_passWorkShift_49 rfl 1 rfl ?_
      refine s_dup (pc := 50) C dX1_passWorkShift_50 rfl ?_
      refine s_geti (pc := 51) (s := 3) ckX6 (Or.inl rfl) (by decide) kw_123 (fun _ => rfl) C dX1_passWorkShift_51 ?_
      refine s_aload_n (pc := 54) C dX1_passWorkShift_54 rfl 1 rfl ?_
      refine s_geti (pc := 55) (s := 1) ckX6 (Or.inl rfl) (by decide) kw_117 (fun _ => rfl) C dX1_passWorkShift_55 ?_
      refine s_iadd (pc := 58) C dX1_passWorkShift_58 ?_
      refine s_puti (pc := 59) (s := 3) ckX6 (Or.inl rfl) (by decide) kw_123 (fun _ => rfl) rfl rfl rfl C dX1_passWorkShift_59 ?_
      refine s_name (fun h6 eh6 => ?_)
      have H := H h6 eh6
      exact s_sub (ls' := [(0, vR 1 ti 0), (1, vI y4), (2, vI x2)]) [2, 0, 3] rfl (vX1_passWorkShift_b62 C ti R4 hR4 y4 x2 h6 H)
theorem vX1_passWorkShift_b4 {G : g_G} {X : g_X} {Q : g_R → g_Hp → Prop} (C : g_Cx y_ G X iX1_passWorkShift) (ti : Nat) (x1 : Int32) (x2 : Int32) (h : g_Hp) (H : wX1_passWorkShift_b4 ti Q x1 x2 h) : g_V G X iX1_passWorkShift 0 0 Q 4 0 0 [(0, vR 1 ti 0), (1, vI x1), (2, vI x2)] [] h := by
  obtain ⟨n, H⟩ := H
  induction n generalizing x1 x2 h with
  | zero => exact H.elim
  | succ n ih => exact vX1_passWorkShift_b4_B C ti _ (fun x1 x2 h H => ih x1 x2 h H) x1 x2 h H
set_option maxRecDepth 100000 in
set_option maxHeartbeats 4000000 in
theorem vX1_passWorkShift {G : g_G} {X : g_X} {Q : g_R → g_Hp → Prop} (C : g_Cx y_ G X iX1_passWorkShift) (ti : Nat) (h : g_Hp) (H : wX1_passWorkShift ti h Q) : g_V G X iX1_passWorkShift 0 0 Q 0 0 0 [(0, vR 1 ti 0)] [] h := by
  refine s_iconst (pc := 0) C dX1_passWorkShift_0 (x := (0 : Int32)) (by decide) ?_
  refine s_istore_n (pc := 1) (ls' := [(1, vI (0 : Int32)), (0, vR 1 ti 0)]) C dX1_passWorkShift_1 rfl (by decide) rfl ?_
  refine s_iconst (pc := 2) C dX1_passWorkShift_2 (x := (0 : Int32)) (by decide) ?_
  refine s_istore_n (pc := 3) (ls' := [(2, vI (0 : Int32)), (1, vI (0 : Int32)), (0, vR 1 ti 0)]) C dX1_passWorkShift_3 rfl (by decide) rfl ?_
  exact s_sub (ls' := [(0, vR 1 ti 0), (1, vI (0 : Int32)), (2, vI (0 : Int32))]) [2, 1, 0] rfl (vX1_passWorkShift_b4 C ti (0 : Int32) (0 : Int32) h H)
theorem ctX1_passWorkShift (l : Launch) (hl : l.stackTraces = false) {G : g_G} (ti : Nat) (h : g_Hp) (Q : g_R → g_Hp → Prop) (H : wX1_passWorkShift ti h Q) : g_Met l y_ G iX1_passWorkShift [vR 1 ti 0] h Q :=
  g_Met_of hl (by decide +kernel) rfl rfl (Nat.le_of_ble_eq_true rfl) (fun X C => vX1_passWorkShift C ti h H)
