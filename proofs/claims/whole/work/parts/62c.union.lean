/-! X1_pass -/
abbrev iX1_pass : g_I := (RX1, yX1_pass, cX1_pass, 4, (some .int), [], { frames := 4, cells := 0, slots := 0, locals := 87 })
set_option maxRecDepth 100000 in
set_option maxHeartbeats 4000000 in
theorem vX1_pass_b30 {G : g_G} {X : g_X} {Q : g_R → g_Hp → Prop} (C : g_Cx y_ G X iX1_pass) (ti : Nat) (R4 : Int32 → Int32 → Int32 → g_Hp → Prop) (hR4 : ∀ (x1 : Int32) (x2 : Int32) (x3 : Int32) (h : g_Hp), R4 x1 x2 x3 h → g_V G X iX1_pass 0 0 Q 4 0 0 [(0, vR 1 ti 0), (1, vI x1), (2, vI x2), (3, vI x3)] [] h) (x1 : Int32) (x2 : Int32) (x3 : Int32) (h : g_Hp) (H : wX1_pass_b30 ti Q R4 x1 x2 x3 h) : g_V G X iX1_pass 0 0 Q 30 0 0 [(0, vR 1 ti 0), (1, vI x1), (2, vI x2), (3, vI x3)] [] h := by
  refine s_iincN (pc := 30) C dX1_pass_30 3 rfl (z' := (1 : Int32)) (by decide) (by decide) (fun y1 ey1 => ?_)
  have H := H y1 ey1
  show g_V _ _ _ _ _ _ _ _ _ [(3, vI y1), (0, vR 1 ti 0), (1, vI x1), (2, vI x2)] _ _
  refine s_goto (pc := 33) (tgt := 4) C dX1_pass_33 (by decide) ?_
  exact s_sub (ls' := [(0, vR 1 ti 0), (1, vI x1), (2, vI x2), (3, vI y1)]) [1, 2, 3, 0] rfl (hR4 x1 x2 y1 h H)
set_option maxRecDepth 100000 in
set_option maxHeartbeats 4000000 in
theorem vX1_pass_b4_B {G : g_G} {X : g_X} {Q : g_R → g_Hp → Prop} (C : g_Cx y_ G X iX1_pass) (ti : Nat) (R4 : Int32 → Int32 → Int32 → g_Hp → Prop) (hR4 : ∀ (x1 : Int32) (x2 : Int32) (x3 : Int32) (h : g_Hp), R4 x1 x2 x3 h → g_V G X iX1_pass 0 0 Q 4 0 0 [(0, vR 1 ti 0), (1, vI x1), (2, vI x2), (3, vI x3)] [] h) (x1 : Int32) (x2 : Int32) (x3 : Int32) (h : g_Hp) (H : wX1_pass_b4_B ti Q R4 x1 x2 x3 h) : g_V G X iX1_pass 0 0 Q 4 0 0 [(0, vR 1 ti 0), (1, vI x1), (2, vI x2), (3, vI x3)] [] h := by
  refine s_iload_n (pc := 4) C dX1_pass_4 rfl 3 rfl ?_
  refine s_iload_n (pc := 5) C dX1_pass_5 rfl 1 rfl ?_
  refine s_icmp_ge (pc := 6) (tgt := 36) C dX1_pass_6 (by decide) (fun c => ?_) (fun c => ?_)
  · have H := H.1 c
    refine s_aload_n (pc := 36) C dX1_pass_36 rfl 0 rfl ?_
    refine s_dup (pc := 37) C dX1_pass_37 rfl ?_
    refine s_geti (pc := 38) (s := 4) ckX1 (Or.inl rfl) (by decide) kw_174 (fun _ => rfl) C dX1_pass_38 ?_
    refine s_iload_n (pc := 41) C dX1_pass_41 rfl 1 rfl ?_
    refine s_iadd (pc := 42) C dX1_pass_42 ?_
    refine s_puti (pc := 43) (s := 4) ckX1 (Or.inl rfl) (by decide) kw_174 (fun _ => rfl) rfl rfl rfl C dX1_pass_43 ?_
    refine s_name (fun h1 eh1 => ?_)
    have H := H h1 eh1
    refine s_aload_n (pc := 46) C dX1_pass_46 rfl 0 rfl ?_
    refine s_dup (pc := 47) C dX1_pass_47 rfl ?_
    refine s_geti (pc := 48) (s := 5) ckX1 (Or.inl rfl) (by decide) kw_176 (fun _ => rfl) C dX1_pass_48 ?_
    refine s_iload_n (pc := 51) C dX1_pass_51 rfl 2 rfl ?_
    refine s_iadd (pc := 52) C dX1_pass_52 ?_
    refine s_puti (pc := 53) (s := 5) ckX1 (Or.inl rfl) (by decide) kw_176 (fun _ => rfl) rfl rfl rfl C dX1_pass_53 ?_
    refine s_name (fun h2 eh2 => ?_)
    have H := H h2 eh2
    refine s_iload_n (pc := 56) C dX1_pass_56 rfl 2 rfl ?_
    exact s_iret (pc := 57) rfl rfl ⟨by decide, by decide⟩ H C dX1_pass_57
  · have H := H.2 c
    refine s_aload_n (pc := 9) C dX1_pass_9 rfl 0 rfl ?_
    refine s_geti (pc := 10) (s := 6) ckX1 (Or.inl rfl) (by decide) kw_178 (fun _ => rfl) C dX1_pass_10 ?_
    refine s_if_eq (pc := 13) (tgt := 23) C dX1_pass_13 (by decide) (fun c => ?_) (fun c => ?_)
    · have H := H.1 c
      refine s_iload_n (pc := 23) C dX1_pass_23 rfl 2 rfl ?_
      refine s_aload_n (pc := 24) C dX1_pass_24 rfl 0 rfl ?_
      refine s_callv (pc := 25) (nA := 0) (as := []) (st := [vI x2]) (stk := [vR 1 ti 0, vI x2]) ckX1 (Or.inl rfl) C (fun l hl => ctX1_passWorkShift l hl ti _ _ H) ⟨⟨kw_833, kw_59, kw_836⟩, rfl, ⟨by decide, by decide, by decide +kernel⟩, by decide, by decide⟩ kw_835 (g_selW kw_8) rfl (Nat.le_of_ble_eq_true rfl) ⟨by decide, by decide⟩ rfl dX1_pass_25 (g_Kq_I (fun u4 h3 H => ?_) (fun E h3 H => s_prop rfl ⟨by decide, by decide⟩ H C))
      refine s_iadd (pc := 28) C dX1_pass_28 ?_
      refine s_namei (fun y5 ey5 => ?_)
      have H := H y5 ey5
      refine s_istore_n (pc := 29) (ls' := [(2, vI y5), (0, vR 1 ti 0), (1, vI x1), (3, vI x3)]) C dX1_pass_29 rfl (by decide) rfl ?_
      exact s_sub (ls' := [(0, vR 1 ti 0), (1, vI x1), (2, vI y5), (3, vI x3)]) [1, 2, 0, 3] rfl (vX1_pass_b30 C ti R4 hR4 x1 y5 x3 h3 H)
    · have H := H.2 c
      refine s_aload_n (pc := 16) C dX1_pass_16 rfl 0 rfl ?_
      refine s_callv (pc := 17) (nA := 0) (as := []) (st := []) (stk := [vR 1 ti 0]) ckX1 (Or.inl rfl) C (fun l hl => ctX1_passStrikeShift l hl ti _ _ H) ⟨⟨kw_820, kw_59, kw_823⟩, rfl, ⟨by decide, by decide, by decide +kernel⟩, by decide, by decide⟩ kw_822 (g_selW kw_6) rfl (Nat.le_of_ble_eq_true rfl) ⟨by decide, by decide⟩ rfl dX1_pass_17 (g_Kq_V (fun h6 H => ?_) (fun E h6 H => s_prop rfl ⟨by decide, by decide⟩ H C))
      refine s_goto (pc := 20) (tgt := 30) C dX1_pass_20 (by decide) ?_
      exact s_sub (ls' := [(0, vR 1 ti 0), (1, vI x1), (2, vI x2), (3, vI x3)]) [0, 1, 2, 3] rfl (vX1_pass_b30 C ti R4 hR4 x1 x2 x3 h6 H)
theorem vX1_pass_b4 {G : g_G} {X : g_X} {Q : g_R → g_Hp → Prop} (C : g_Cx y_ G X iX1_pass) (ti : Nat) (x1 : Int32) (x2 : Int32) (x3 : Int32) (h : g_Hp) (H : wX1_pass_b4 ti Q x1 x2 x3 h) : g_V G X iX1_pass 0 0 Q 4 0 0 [(0, vR 1 ti 0), (1, vI x1), (2, vI x2), (3, vI x3)] [] h := by
  obtain ⟨n, H⟩ := H
  induction n generalizing x1 x2 x3 h with
  | zero => exact H.elim
  | succ n ih => exact vX1_pass_b4_B C ti _ (fun x1 x2 x3 h H => ih x1 x2 x3 h H) x1 x2 x3 h H
set_option maxRecDepth 100000 in
set_option maxHeartbeats 4000000 in
theorem vX1_pass {G : g_G} {X : g_X} {Q : g_R → g_Hp → Prop} (C : g_Cx y_ G X iX1_pass) (ti : Nat) (p0 : Int32) (h : g_Hp) (H : wX1_pass ti p0 h Q) : g_V G X iX1_pass 0 0 Q 0 0 0 [(0, vR 1 ti 0), (1, vI p0)] [] h := by
  refine s_iconst (pc := 0) C dX1_pass_0 (x := (0 : Int32)) (by decide) ?_
  refine s_istore_n (pc := 1) (ls' := [(2, vI (0 : Int32)), (0, vR 1 ti 0), (1, vI p0)]) C dX1_pass_1 rfl (by decide) rfl ?_
  refine s_iconst (pc := 2) C dX1_pass_2 (x := (0 : Int32)) (by decide) ?_
  refine s_istore_n (pc := 3) (ls' := [(3, vI (0 : Int32)), (2, vI (0 : Int32)), (0, vR 1 ti 0), (1, vI p0)]) C dX1_pass_3 rfl (by decide) rfl ?_
  exact s_sub (ls' := [(0, vR 1 ti 0), (1, vI p0), (2, vI (0 : Int32)), (3, vI (0 : Int32))]) [2, 3, 1, 0] rfl (vX1_pass_b4 C ti p0 (0 : Int32) (0 : Int32) h H)
theorem ctX1_pass (l : Launch) (hl : l.stackTraces = false) {G : g_G} (ti : Nat) (p0 : Int32) (h : g_Hp) (Q : g_R → g_Hp → Prop) (H : wX1_pass ti p0 h Q) : g_Met l y_ G iX1_pass [vR 1 ti 0, vI p0] h Q :=
  g_Met_of hl (by decide +kernel) rfl rfl (Nat.le_of_ble_eq_true rfl) (fun X C => vX1_pass C ti p0 h H)
/-! X1_faultOfVoting -/
abbrev iX1_faultOfVoting : g_I := (RX1, yX1_faultOfVoting, cX1_faultOfVoting, 2, (some (.object "VaneUnion$Fault")), [], { frames := 2, cells := 0, slots := 0, locals := 41 })
set_option maxRecDepth 100000 in
set_option maxHeartbeats 4000000 in
theorem vX1_faultOfVoting_b28 {G : g_G} {X : g_X} {Q : g_R → g_Hp → Prop} (C : g_Cx y_ G X iX1_faultOfVoting) (ti : Nat) (z0i : Nat) (h : g_Hp) (H : wX1_faultOfVoting_b28 ti Q z0i h) : g_V G X iX1_faultOfVoting 0 0 Q 28 0 0 [] [vR 20 z0i 0] h := by
  exact s_aret (pc := 28) rfl (Or.inl ⟨_, rfl⟩) ⟨by decide, by decide⟩ H C dX1_faultOfVoting_28
set_option maxRecDepth 100000 in
set_option maxHeartbeats 4000000 in
theorem vX1_faultOfVoting {G : g_G} {X : g_X} {Q : g_R → g_Hp → Prop} (C : g_Cx y_ G X iX1_faultOfVoting) (ti : Nat) (p0 : Int32) (h : g_Hp) (H : wX1_faultOfVoting ti p0 h Q) : g_V G X iX1_faultOfVoting 0 0 Q 0 0 0 [(0, vR 1 ti 0), (1, vI p0)] [] h := by
  refine s_aload_n (pc := 0) C dX1_faultOfVoting_0 rfl 0 rfl ?_
  refine s_iload_n (pc := 1) C dX1_faultOfVoting_1 rfl 1 rfl ?_
  refine s_callv (pc := 2) (nA := 1) (as := [vI p0]) (st := []) (stk := [vI p0, vR 1 ti 0]) ckX1 (Or.inl rfl) C (fun l hl => ctX1_isMember l hl ti p0 _ _ H) ⟨⟨kw_848, kw_59, kw_414⟩, rfl, ⟨by decide, by decide, by decide +kernel⟩, by decide, by decide⟩ kw_412 (g_selW kw_413) rfl (Nat.le_of_ble_eq_true rfl) ⟨by decide, by decide⟩ rfl dX1_faultOfVoting_2 (g_Kq_I (fun u2 h1 H => ?_) (fun E h1 H => s_prop rfl ⟨by decide, by decide⟩ H C))
  refine s_if_ne (pc := 5) (tgt := 12) C dX1_faultOfVoting_5 (by decide) (fun c => ?_) (fun c => ?_)
  · have H := H.1 c
    refine s_aload_n (pc := 12) C dX1_faultOfVoting_12 rfl 0 rfl ?_
    refine s_geti (pc := 13) (s := 6) ckX1 (Or.inl rfl) (by decide) kw_178 (fun _ => rfl) C dX1_faultOfVoting_13 ?_
    refine s_if_eq (pc := 16) (tgt := 25) C dX1_faultOfVoting_16 (by decide) (fun c => ?_) (fun c => ?_)
    · have H := H.1 c
      refine s_gets (pc := 25) zs_NOTHING (g_cst_R rfl) kw_593 C dX1_faultOfVoting_25 ?_
      exact s_sub (ls' := []) [] rfl (vX1_faultOfVoting_b28 C ti 0 h1 H)
    · have H := H.2 c
      refine s_gets (pc := 19) zs_BAD_STATE (g_cst_R rfl) kw_591 C dX1_faultOfVoting_19 ?_
      refine s_goto (pc := 22) (tgt := 28) C dX1_faultOfVoting_22 (by decide) ?_
      exact s_sub (ls' := []) [] rfl (vX1_faultOfVoting_b28 C ti 3 h1 H)
  · have H := H.2 c
    refine s_gets (pc := 8) zs_NO_INDEX (g_cst_R rfl) kw_587 C dX1_faultOfVoting_8 ?_
    exact s_aret (pc := 11) rfl (Or.inl ⟨_, rfl⟩) ⟨by decide, by decide⟩ H C dX1_faultOfVoting_11
theorem ctX1_faultOfVoting (l : Launch) (hl : l.stackTraces = false) {G : g_G} (ti : Nat) (p0 : Int32) (h : g_Hp) (Q : g_R → g_Hp → Prop) (H : wX1_faultOfVoting ti p0 h Q) : g_Met l y_ G iX1_faultOfVoting [vR 1 ti 0, vI p0] h Q :=
  g_Met_of hl (by decide +kernel) rfl rfl (Nat.le_of_ble_eq_true rfl) (fun X C => vX1_faultOfVoting C ti p0 h H)
/-! X1_countVotesFor -/
abbrev iX1_countVotesFor : g_I := (RX1, yX1_countVotesFor, cX1_countVotesFor, 3, (some .int), [], { frames := 1, cells := 0, slots := 0, locals := 20 })
set_option maxRecDepth 100000 in
set_option maxHeartbeats 4000000 in
theorem vX1_countVotesFor_b28 {G : g_G} {X : g_X} {Q : g_R → g_Hp → Prop} (C : g_Cx y_ G X iX1_countVotesFor) (ti : Nat) (R4 : Int32 → Int32 → g_Hp → Prop) (hR4 : ∀ (x1 : Int32) (x2 : Int32) (h : g_Hp), R4 x1 x2 h → g_V G X iX1_countVotesFor 0 0 Q 4 0 0 [(0, vR 1 ti 0), (1, vI x1), (2, vI x2)] [] h) (x1 : Int32) (x2 : Int32) (h : g_Hp) (H : wX1_countVotesFor_b28 ti Q R4 x1 x2 h) : g_V G X iX1_countVotesFor 0 0 Q 28 0 0 [(0, vR 1 ti 0), (1, vI x1), (2, vI x2)] [] h := by
  refine s_iincN (pc := 28) C dX1_countVotesFor_28 2 rfl (z' := (1 : Int32)) (by decide) (by decide) (fun y1 ey1 => ?_)
  have H := H y1 ey1
  show g_V _ _ _ _ _ _ _ _ _ [(2, vI y1), (0, vR 1 ti 0), (1, vI x1)] _ _
  refine s_goto (pc := 31) (tgt := 4) C dX1_countVotesFor_31 (by decide) ?_
  exact s_sub (ls' := [(0, vR 1 ti 0), (1, vI x1), (2, vI y1)]) [1, 2, 0] rfl (hR4 x1 y1 h H)
set_option maxRecDepth 100000 in
set_option maxHeartbeats 4000000 in
theorem vX1_countVotesFor_b4_B {G : g_G} {X : g_X} {Q : g_R → g_Hp → Prop} (C : g_Cx y_ G X iX1_countVotesFor) (ti : Nat) (R4 : Int32 → Int32 → g_Hp → Prop) (hR4 : ∀ (x1 : Int32) (x2 : Int32) (h : g_Hp), R4 x1 x2 h → g_V G X iX1_countVotesFor 0 0 Q 4 0 0 [(0, vR 1 ti 0), (1, vI x1), (2, vI x2)] [] h) (x1 : Int32) (x2 : Int32) (h : g_Hp) (H : wX1_countVotesFor_b4_B ti Q R4 x1 x2 h) : g_V G X iX1_countVotesFor 0 0 Q 4 0 0 [(0, vR 1 ti 0), (1, vI x1), (2, vI x2)] [] h := by
  refine s_iload_n (pc := 4) C dX1_countVotesFor_4 rfl 2 rfl ?_
  refine s_aload_n (pc := 5) C dX1_countVotesFor_5 rfl 0 rfl ?_
  refine s_geti (pc := 6) (s := 1) ckX1 (Or.inl rfl) (by decide) kw_168 (fun _ => rfl) C dX1_countVotesFor_6 ?_
  refine s_icmp_ge (pc := 9) (tgt := 34) C dX1_countVotesFor_9 (by decide) (fun c => ?_) (fun c => ?_)
  · have H := H.1 c
    refine s_iload_n (pc := 34) C dX1_countVotesFor_34 rfl 1 rfl ?_
    exact s_iret (pc := 35) rfl rfl ⟨by decide, by decide⟩ H C dX1_countVotesFor_35
  · have H := H.2 c
    refine s_aload_n (pc := 12) C dX1_countVotesFor_12 rfl 0 rfl ?_
    refine s_getr (pc := 13) (s := 0) (a := 11) (b := ti) (c' := 0) ckX1 (by decide) kw_166 rfl C dX1_countVotesFor_13 ?_
    refine s_iload_n (pc := 16) C dX1_countVotesFor_16 rfl 2 rfl ?_
    refine s_aald (pc := 17) (kk := 11) (by decide) (by decide) H.1 C dX1_countVotesFor_17 ?_
    have H := H.2
    show g_V _ _ _ _ _ _ _ _ _ _ (vR 2 ti (x2.toNatClampNeg) :: _) _
    refine s_nmj (fun j1 ej1 => ?_)
    have H := H j1 ej1
    refine s_geti (pc := 18) (s := 7) ckX6 (Or.inl rfl) (by decide) kw_134 (fun _ => rfl) C dX1_countVotesFor_18 ?_
    refine s_iconst (pc := 21) C dX1_countVotesFor_21 (x := (1 : Int32)) (by decide) ?_
    refine s_icmp_ne (pc := 22) (tgt := 28) C dX1_countVotesFor_22 (by decide) (fun c => ?_) (fun c => ?_)
    · have H := H.1 c
      exact s_sub (ls' := [(0, vR 1 ti 0), (1, vI x1), (2, vI x2)]) [0, 1, 2] rfl (vX1_countVotesFor_b28 C ti R4 hR4 x1 x2 h H)
    · have H := H.2 c
      refine s_iincN (pc := 25) C dX1_countVotesFor_25 1 rfl (z' := (1 : Int32)) (by decide) (by decide) (fun y2 ey2 => ?_)
      have H := H y2 ey2
      show g_V _ _ _ _ _ _ _ _ _ [(1, vI y2), (0, vR 1 ti 0), (2, vI x2)] _ _
      exact s_sub (ls' := [(0, vR 1 ti 0), (1, vI y2), (2, vI x2)]) [1, 0, 2] rfl (vX1_countVotesFor_b28 C ti R4 hR4 y2 x2 h H)
theorem vX1_countVotesFor_b4 {G : g_G} {X : g_X} {Q : g_R → g_Hp → Prop} (C : g_Cx y_ G X iX1_countVotesFor) (ti : Nat) (x1 : Int32) (x2 : Int32) (h : g_Hp) (H : wX1_countVotesFor_b4 ti Q x1 x2 h) : g_V G X iX1_countVotesFor 0 0 Q 4 0 0 [(0, vR 1 ti 0), (1, vI x1), (2, vI x2)] [] h := by
  obtain ⟨n, H⟩ := H
  induction n generalizing x1 x2 h with
  | zero => exact H.elim
  | succ n ih => exact vX1_countVotesFor_b4_B C ti _ (fun x1 x2 h H => ih x1 x2 h H) x1 x2 h H
set_option maxRecDepth 100000 in
set_option maxHeartbeats 4000000 in
theorem vX1_countVotesFor {G : g_G} {X : g_X} {Q : g_R → g_Hp → Prop} (C : g_Cx y_ G X iX1_countVotesFor) (ti : Nat) (h : g_Hp) (H : wX1_countVotesFor ti h Q) : g_V G X iX1_countVotesFor 0 0 Q 0 0 0 [(0, vR 1 ti 0)] [] h := by
  refine s_iconst (pc := 0) C dX1_countVotesFor_0 (x := (0 : Int32)) (by decide) ?_
  refine s_istore_n (pc := 1) (ls' := [(1, vI (0 : Int32)), (0, vR 1 ti 0)]) C dX1_countVotesFor_1 rfl (by decide) rfl ?_
  refine s_iconst (pc := 2) C dX1_countVotesFor_2 (x := (0 : Int32)) (by decide) ?_
  refine s_istore_n (pc := 3) (ls' := [(2, vI (0 : Int32)), (1, vI (0 : Int32)), (0, vR 1 ti 0)]) C dX1_countVotesFor_3 rfl (by decide) rfl ?_
  exact s_sub (ls' := [(0, vR 1 ti 0), (1, vI (0 : Int32)), (2, vI (0 : Int32))]) [2, 1, 0] rfl (vX1_countVotesFor_b4 C ti (0 : Int32) (0 : Int32) h H)
theorem ctX1_countVotesFor (l : Launch) (hl : l.stackTraces = false) {G : g_G} (ti : Nat) (h : g_Hp) (Q : g_R → g_Hp → Prop) (H : wX1_countVotesFor ti h Q) : g_Met l y_ G iX1_countVotesFor [vR 1 ti 0] h Q :=
  g_Met_of hl (by decide +kernel) rfl rfl (Nat.le_of_ble_eq_true rfl) (fun X C => vX1_countVotesFor C ti h H)
/-! X1_castVote -/
abbrev iX1_castVote : g_I := (RX1, yX1_castVote, cX1_castVote, 3, (some .int), [], { frames := 2, cells := 0, slots := 0, locals := 42 })
set_option maxRecDepth 100000 in
set_option maxHeartbeats 4000000 in
theorem vX1_castVote_b15 {G : g_G} {X : g_X} {Q : g_R → g_Hp → Prop} (C : g_Cx y_ G X iX1_castVote) (ti : Nat) (z0 : Int32) (z1j : Nat) (h : g_Hp) (H : wX1_castVote_b15 ti Q z0 z1j h) : g_V G X iX1_castVote 0 0 Q 15 0 0 [(0, vR 1 ti 0)] [vI z0, vR 2 ti z1j] h := by
  refine s_puti (pc := 15) (s := 7) ckX6 (Or.inl rfl) (by decide) kw_134 (fun _ => rfl) rfl rfl rfl C dX1_castVote_15 ?_
  refine s_name (fun h1 eh1 => ?_)
  have H := H h1 eh1
  refine s_aload_n (pc := 18) C dX1_castVote_18 rfl 0 rfl ?_
  refine s_callv (pc := 19) (nA := 0) (as := []) (st := []) (stk := [vR 1 ti 0]) ckX1 (Or.inl rfl) C (fun l hl => ctX1_countVotesFor l hl ti _ _ H) ⟨⟨kw_853, kw_59, kw_358⟩, rfl, ⟨by decide, by decide, by decide +kernel⟩, by decide, by decide⟩ kw_356 (g_selW kw_357) rfl (Nat.le_of_ble_eq_true rfl) ⟨by decide, by decide⟩ rfl dX1_castVote_19 (g_Kq_I (fun u3 h2 H => ?_) (fun E h2 H => s_prop rfl ⟨by decide, by decide⟩ H C))
  exact s_iret (pc := 22) rfl rfl ⟨by decide, by decide⟩ H C dX1_castVote_22
set_option maxRecDepth 100000 in
set_option maxHeartbeats 4000000 in
theorem vX1_castVote {G : g_G} {X : g_X} {Q : g_R → g_Hp → Prop} (C : g_Cx y_ G X iX1_castVote) (ti : Nat) (p0 : Int32) (p1 : Int32) (h : g_Hp) (H : wX1_castVote ti p0 p1 h Q) : g_V G X iX1_castVote 0 0 Q 0 0 0 [(0, vR 1 ti 0), (1, vI p0), (2, vI p1)] [] h := by
  refine s_aload_n (pc := 0) C dX1_castVote_0 rfl 0 rfl ?_
  refine s_getr (pc := 1) (s := 0) (a := 11) (b := ti) (c' := 0) ckX1 (by decide) kw_166 rfl C dX1_castVote_1 ?_
  refine s_iload_n (pc := 4) C dX1_castVote_4 rfl 1 rfl ?_
  refine s_aald (pc := 5) (kk := 11) (by decide) (by decide) H.1 C dX1_castVote_5 ?_
  have H := H.2
  show g_V _ _ _ _ _ _ _ _ _ _ (vR 2 ti (p0.toNatClampNeg) :: _) _
  refine s_nmj (fun j1 ej1 => ?_)
  have H := H j1 ej1
  refine s_iload_n (pc := 6) C dX1_castVote_6 rfl 2 rfl ?_
  refine s_if_eq (pc := 7) (tgt := 14) C dX1_castVote_7 (by decide) (fun c => ?_) (fun c => ?_)
  · have H := H.1 c
    refine s_iconst (pc := 14) C dX1_castVote_14 (x := (2 : Int32)) (by decide) ?_
    exact s_sub (ls' := [(0, vR 1 ti 0)]) [0] rfl (vX1_castVote_b15 C ti (2 : Int32) j1 h H)
  · have H := H.2 c
    refine s_iconst (pc := 10) C dX1_castVote_10 (x := (1 : Int32)) (by decide) ?_
    refine s_goto (pc := 11) (tgt := 15) C dX1_castVote_11 (by decide) ?_
    exact s_sub (ls' := [(0, vR 1 ti 0)]) [0] rfl (vX1_castVote_b15 C ti (1 : Int32) j1 h H)
theorem ctX1_castVote (l : Launch) (hl : l.stackTraces = false) {G : g_G} (ti : Nat) (p0 : Int32) (p1 : Int32) (h : g_Hp) (Q : g_R → g_Hp → Prop) (H : wX1_castVote ti p0 p1 h Q) : g_Met l y_ G iX1_castVote [vR 1 ti 0, vI p0, vI p1] h Q :=
  g_Met_of hl (by decide +kernel) rfl rfl (Nat.le_of_ble_eq_true rfl) (fun X C => vX1_castVote C ti p0 p1 h H)
/-! X1_faultOfStriking -/
abbrev iX1_faultOfStriking : g_I := (RX1, yX1_faultOfStriking, cX1_faultOfStriking, 1, (some (.object "VaneUnion$Fault")), [], { frames := 2, cells := 0, slots := 0, locals := 42 })
set_option maxRecDepth 100000 in
set_option maxHeartbeats 4000000 in
theorem vX1_faultOfStriking_b33 {G : g_G} {X : g_X} {Q : g_R → g_Hp → Prop} (C : g_Cx y_ G X iX1_faultOfStriking) (ti : Nat) (z0i : Nat) (h : g_Hp) (H : wX1_faultOfStriking_b33 ti Q z0i h) : g_V G X iX1_faultOfStriking 0 0 Q 33 0 0 [] [vR 20 z0i 0] h := by
  exact s_aret (pc := 33) rfl (Or.inl ⟨_, rfl⟩) ⟨by decide, by decide⟩ H C dX1_faultOfStriking_33
set_option maxRecDepth 100000 in
set_option maxHeartbeats 4000000 in
theorem vX1_faultOfStriking {G : g_G} {X : g_X} {Q : g_R → g_Hp → Prop} (C : g_Cx y_ G X iX1_faultOfStriking) (ti : Nat) (h : g_Hp) (H : wX1_faultOfStriking ti h Q) : g_V G X iX1_faultOfStriking 0 0 Q 0 0 0 [(0, vR 1 ti 0)] [] h := by
  refine s_aload_n (pc := 0) C dX1_faultOfStriking_0 rfl 0 rfl ?_
  refine s_geti (pc := 1) (s := 6) ckX1 (Or.inl rfl) (by decide) kw_178 (fun _ => rfl) C dX1_faultOfStriking_1 ?_
  refine s_if_eq (pc := 4) (tgt := 11) C dX1_faultOfStriking_4 (by decide) (fun c => ?_) (fun c => ?_)
  · have H := H.1 c
    refine s_iconst (pc := 11) C dX1_faultOfStriking_11 (x := (2 : Int32)) (by decide) ?_
    refine s_aload_n (pc := 12) C dX1_faultOfStriking_12 rfl 0 rfl ?_
    refine s_callv (pc := 13) (nA := 0) (as := []) (st := [vI (2 : Int32)]) (stk := [vR 1 ti 0, vI (2 : Int32)]) ckX1 (Or.inl rfl) C (fun l hl => ctX1_countVotesFor l hl ti _ _ H) ⟨⟨kw_853, kw_59, kw_358⟩, rfl, ⟨by decide, by decide, by decide +kernel⟩, by decide, by decide⟩ kw_356 (g_selW kw_357) rfl (Nat.le_of_ble_eq_true rfl) ⟨by decide, by decide⟩ rfl dX1_faultOfStriking_13 (g_Kq_I (fun u2 h1 H => ?_) (fun E h1 H => s_prop rfl ⟨by decide, by decide⟩ H C))
    refine s_imul (pc := 16) C dX1_faultOfStriking_16 ?_
    refine s_aload_n (pc := 17) C dX1_faultOfStriking_17 rfl 0 rfl ?_
    refine s_geti (pc := 18) (s := 1) ckX1 (Or.inl rfl) (by decide) kw_168 (fun _ => rfl) C dX1_faultOfStriking_18 ?_
    refine s_icmp_le (pc := 21) (tgt := 30) C dX1_faultOfStriking_21 (by decide) (fun c => ?_) (fun c => ?_)
    · have H := H.1 c
      refine s_gets (pc := 30) zs_UNSUPPORTED (g_cst_R rfl) kw_873 C dX1_faultOfStriking_30 ?_
      exact s_sub (ls' := []) [] rfl (vX1_faultOfStriking_b33 C ti 4 h1 H)
    · have H := H.2 c
      refine s_gets (pc := 24) zs_NOTHING (g_cst_R rfl) kw_593 C dX1_faultOfStriking_24 ?_
      refine s_goto (pc := 27) (tgt := 33) C dX1_faultOfStriking_27 (by decide) ?_
      exact s_sub (ls' := []) [] rfl (vX1_faultOfStriking_b33 C ti 0 h1 H)
  · have H := H.2 c
    refine s_gets (pc := 7) zs_BAD_STATE (g_cst_R rfl) kw_591 C dX1_faultOfStriking_7 ?_
    exact s_aret (pc := 10) rfl (Or.inl ⟨_, rfl⟩) ⟨by decide, by decide⟩ H C dX1_faultOfStriking_10
theorem ctX1_faultOfStriking (l : Launch) (hl : l.stackTraces = false) {G : g_G} (ti : Nat) (h : g_Hp) (Q : g_R → g_Hp → Prop) (H : wX1_faultOfStriking ti h Q) : g_Met l y_ G iX1_faultOfStriking [vR 1 ti 0] h Q :=
  g_Met_of hl (by decide +kernel) rfl rfl (Nat.le_of_ble_eq_true rfl) (fun X C => vX1_faultOfStriking C ti h H)
/-! X1_beginStrike -/
abbrev iX1_beginStrike : g_I := (RX1, yX1_beginStrike, cX1_beginStrike, 2, (some .int), [], { frames := 1, cells := 0, slots := 0, locals := 20 })
set_option maxRecDepth 100000 in
set_option maxHeartbeats 4000000 in
theorem vX1_beginStrike_b2_B {G : g_G} {X : g_X} {Q : g_R → g_Hp → Prop} (C : g_Cx y_ G X iX1_beginStrike) (ti : Nat) (R2 : Int32 → g_Hp → Prop) (hR2 : ∀ (x1 : Int32) (h : g_Hp), R2 x1 h → g_V G X iX1_beginStrike 0 0 Q 2 0 0 [(0, vR 1 ti 0), (1, vI x1)] [] h) (x1 : Int32) (h : g_Hp) (H : wX1_beginStrike_b2_B ti Q R2 x1 h) : g_V G X iX1_beginStrike 0 0 Q 2 0 0 [(0, vR 1 ti 0), (1, vI x1)] [] h := by
  refine s_iload_n (pc := 2) C dX1_beginStrike_2 rfl 1 rfl ?_
  refine s_aload_n (pc := 3) C dX1_beginStrike_3 rfl 0 rfl ?_
  refine s_geti (pc := 4) (s := 1) ckX1 (Or.inl rfl) (by decide) kw_168 (fun _ => rfl) C dX1_beginStrike_4 ?_
  refine s_icmp_ge (pc := 7) (tgt := 26) C dX1_beginStrike_7 (by decide) (fun c => ?_) (fun c => ?_)
  · have H := H.1 c
    refine s_aload_n (pc := 26) C dX1_beginStrike_26 rfl 0 rfl ?_
    refine s_iconst (pc := 27) C dX1_beginStrike_27 (x := (1 : Int32)) (by decide) ?_
    refine s_puti (pc := 28) (s := 6) ckX1 (Or.inl rfl) (by decide) kw_178 (fun _ => rfl) rfl (by decide) (by decide) C dX1_beginStrike_28 ?_
    refine s_name (fun h1 eh1 => ?_)
    have H := H h1 eh1
    refine s_aload_n (pc := 31) C dX1_beginStrike_31 rfl 0 rfl ?_
    refine s_iconst (pc := 32) C dX1_beginStrike_32 (x := (0 : Int32)) (by decide) ?_
    refine s_puti (pc := 33) (s := 7) ckX1 (Or.inl rfl) (by decide) kw_180 (fun _ => rfl) rfl rfl rfl C dX1_beginStrike_33 ?_
    refine s_name (fun h2 eh2 => ?_)
    have H := H h2 eh2
    refine s_aload_n (pc := 36) C dX1_beginStrike_36 rfl 0 rfl ?_
    refine s_dup (pc := 37) C dX1_beginStrike_37 rfl ?_
    refine s_geti (pc := 38) (s := 8) ckX1 (Or.inl rfl) (by decide) kw_182 (fun _ => rfl) C dX1_beginStrike_38 ?_
    refine s_iconst (pc := 41) C dX1_beginStrike_41 (x := (1 : Int32)) (by decide) ?_
    refine s_iadd (pc := 42) C dX1_beginStrike_42 ?_
    refine s_puti (pc := 43) (s := 8) ckX1 (Or.inl rfl) (by decide) kw_182 (fun _ => rfl) rfl rfl rfl C dX1_beginStrike_43 ?_
    refine s_name (fun h3 eh3 => ?_)
    have H := H h3 eh3
    refine s_aload_n (pc := 46) C dX1_beginStrike_46 rfl 0 rfl ?_
    refine s_geti (pc := 47) (s := 8) ckX1 (Or.inl rfl) (by decide) kw_182 (fun _ => rfl) C dX1_beginStrike_47 ?_
    exact s_iret (pc := 50) rfl rfl ⟨by decide, by decide⟩ H C dX1_beginStrike_50
  · have H := H.2 c
    refine s_aload_n (pc := 10) C dX1_beginStrike_10 rfl 0 rfl ?_
    refine s_getr (pc := 11) (s := 0) (a := 11) (b := ti) (c' := 0) ckX1 (by decide) kw_166 rfl C dX1_beginStrike_11 ?_
    refine s_iload_n (pc := 14) C dX1_beginStrike_14 rfl 1 rfl ?_
    refine s_aald (pc := 15) (kk := 11) (by decide) (by decide) H.1 C dX1_beginStrike_15 ?_
    have H := H.2
    show g_V _ _ _ _ _ _ _ _ _ _ (vR 2 ti (x1.toNatClampNeg) :: _) _
    refine s_nmj (fun j4 ej4 => ?_)
    have H := H j4 ej4
    refine s_iconst (pc := 16) C dX1_beginStrike_16 (x := (0 : Int32)) (by decide) ?_
    refine s_puti (pc := 17) (s := 7) ckX6 (Or.inl rfl) (by decide) kw_134 (fun _ => rfl) rfl rfl rfl C dX1_beginStrike_17 ?_
    refine s_name (fun h5 eh5 => ?_)
    have H := H h5 eh5
    refine s_iincN (pc := 20) C dX1_beginStrike_20 1 rfl (z' := (1 : Int32)) (by decide) (by decide) (fun y6 ey6 => ?_)
    have H := H y6 ey6
    show g_V _ _ _ _ _ _ _ _ _ [(1, vI y6), (0, vR 1 ti 0)] _ _
    refine s_goto (pc := 23) (tgt := 2) C dX1_beginStrike_23 (by decide) ?_
    exact s_sub (ls' := [(0, vR 1 ti 0), (1, vI y6)]) [1, 0] rfl (hR2 y6 h5 H)
theorem vX1_beginStrike_b2 {G : g_G} {X : g_X} {Q : g_R → g_Hp → Prop} (C : g_Cx y_ G X iX1_beginStrike) (ti : Nat) (x1 : Int32) (h : g_Hp) (H : wX1_beginStrike_b2 ti Q x1 h) : g_V G X iX1_beginStrike 0 0 Q 2 0 0 [(0, vR 1 ti 0), (1, vI x1)] [] h := by
  obtain ⟨n, H⟩ := H
  induction n generalizing x1 h with
  | zero => exact H.elim
  | succ n ih => exact vX1_beginStrike_b2_B C ti _ (fun x1 h H => ih x1 h H) x1 h H
set_option maxRecDepth 100000 in
set_option maxHeartbeats 4000000 in
theorem vX1_beginStrike {G : g_G} {X : g_X} {Q : g_R → g_Hp → Prop} (C : g_Cx y_ G X iX1_beginStrike) (ti : Nat) (h : g_Hp) (H : wX1_beginStrike ti h Q) : g_V G X iX1_beginStrike 0 0 Q 0 0 0 [(0, vR 1 ti 0)] [] h := by
  refine s_iconst (pc := 0) C dX1_beginStrike_0 (x := (0 : Int32)) (by decide) ?_
  refine s_istore_n (pc := 1) (ls' := [(1, vI (0 : Int32)), (0, vR 1 ti 0)]) C dX1_beginStrike_1 rfl (by decide) rfl ?_
  exact s_sub (ls' := [(0, vR 1 ti 0), (1, vI (0 : Int32))]) [1, 0] rfl (vX1_beginStrike_b2 C ti (0 : Int32) h H)
theorem ctX1_beginStrike (l : Launch) (hl : l.stackTraces = false) {G : g_G} (ti : Nat) (h : g_Hp) (Q : g_R → g_Hp → Prop) (H : wX1_beginStrike ti h Q) : g_Met l y_ G iX1_beginStrike [vR 1 ti 0] h Q :=
  g_Met_of hl (by decide +kernel) rfl rfl (Nat.le_of_ble_eq_true rfl) (fun X C => vX1_beginStrike C ti h H)
/-! X1_faultOfPaying -/
abbrev iX1_faultOfPaying : g_I := (RX1, yX1_faultOfPaying, cX1_faultOfPaying, 2, (some (.object "VaneUnion$Fault")), [], { frames := 1, cells := 0, slots := 0, locals := 20 })
set_option maxRecDepth 100000 in
set_option maxHeartbeats 4000000 in
theorem vX1_faultOfPaying_b12 {G : g_G} {X : g_X} {Q : g_R → g_Hp → Prop} (C : g_Cx y_ G X iX1_faultOfPaying) (ti : Nat) (h : g_Hp) (H : wX1_faultOfPaying_b12 ti Q h) : g_V G X iX1_faultOfPaying 0 0 Q 12 0 0 [] [] h := by
  refine s_gets (pc := 12) zs_BAD_ARGUMENT (g_cst_R rfl) kw_589 C dX1_faultOfPaying_12 ?_
  exact s_aret (pc := 15) rfl (Or.inl ⟨_, rfl⟩) ⟨by decide, by decide⟩ H C dX1_faultOfPaying_15
set_option maxRecDepth 100000 in
set_option maxHeartbeats 4000000 in
theorem vX1_faultOfPaying_b37 {G : g_G} {X : g_X} {Q : g_R → g_Hp → Prop} (C : g_Cx y_ G X iX1_faultOfPaying) (ti : Nat) (z0i : Nat) (h : g_Hp) (H : wX1_faultOfPaying_b37 ti Q z0i h) : g_V G X iX1_faultOfPaying 0 0 Q 37 0 0 [] [vR 20 z0i 0] h := by
  exact s_aret (pc := 37) rfl (Or.inl ⟨_, rfl⟩) ⟨by decide, by decide⟩ H C dX1_faultOfPaying_37
set_option maxRecDepth 100000 in
set_option maxHeartbeats 4000000 in
theorem vX1_faultOfPaying {G : g_G} {X : g_X} {Q : g_R → g_Hp → Prop} (C : g_Cx y_ G X iX1_faultOfPaying) (ti : Nat) (p0 : Int32) (h : g_Hp) (H : wX1_faultOfPaying ti p0 h Q) : g_V G X iX1_faultOfPaying 0 0 Q 0 0 0 [(0, vR 1 ti 0), (1, vI p0)] [] h := by
  refine s_iload_n (pc := 0) C dX1_faultOfPaying_0 rfl 1 rfl ?_
  refine s_iconst (pc := 1) C dX1_faultOfPaying_1 (x := (1 : Int32)) (by decide) ?_
  refine s_icmp_lt (pc := 2) (tgt := 12) C dX1_faultOfPaying_2 (by decide) (fun c => ?_) (fun c => ?_)
  · have H := H.1 c
    exact s_sub (ls' := []) [] rfl (vX1_faultOfPaying_b12 C ti  h H)
  · have H := H.2 c
    refine s_iload_n (pc := 5) C dX1_faultOfPaying_5 rfl 1 rfl ?_
    refine s_sipush (pc := 6) C dX1_faultOfPaying_6 (x := (999 : Int32)) (by decide) ?_
    refine s_icmp_le (pc := 9) (tgt := 16) C dX1_faultOfPaying_9 (by decide) (fun c => ?_) (fun c => ?_)
    · have H := H.1 c
      refine s_aload_n (pc := 16) C dX1_faultOfPaying_16 rfl 0 rfl ?_
      refine s_geti (pc := 17) (s := 9) ckX1 (Or.inl rfl) (by decide) kw_183 (fun _ => rfl) C dX1_faultOfPaying_17 ?_
      refine s_iload_n (pc := 20) C dX1_faultOfPaying_20 rfl 1 rfl ?_
      refine s_iadd (pc := 21) C dX1_faultOfPaying_21 ?_
      refine s_sipush (pc := 22) C dX1_faultOfPaying_22 (x := (9999 : Int32)) (by decide) ?_
      refine s_icmp_le (pc := 25) (tgt := 34) C dX1_faultOfPaying_25 (by decide) (fun c => ?_) (fun c => ?_)
      · have H := H.1 c
        refine s_gets (pc := 34) zs_NOTHING (g_cst_R rfl) kw_593 C dX1_faultOfPaying_34 ?_
        exact s_sub (ls' := []) [] rfl (vX1_faultOfPaying_b37 C ti 0 h H)
      · have H := H.2 c
        refine s_gets (pc := 28) zs_BAD_STATE (g_cst_R rfl) kw_591 C dX1_faultOfPaying_28 ?_
        refine s_goto (pc := 31) (tgt := 37) C dX1_faultOfPaying_31 (by decide) ?_
        exact s_sub (ls' := []) [] rfl (vX1_faultOfPaying_b37 C ti 3 h H)
    · have H := H.2 c
      exact s_sub (ls' := []) [] rfl (vX1_faultOfPaying_b12 C ti  h H)
theorem ctX1_faultOfPaying (l : Launch) (hl : l.stackTraces = false) {G : g_G} (ti : Nat) (p0 : Int32) (h : g_Hp) (Q : g_R → g_Hp → Prop) (H : wX1_faultOfPaying ti p0 h Q) : g_Met l y_ G iX1_faultOfPaying [vR 1 ti 0, vI p0] h Q :=
  g_Met_of hl (by decide +kernel) rfl rfl (Nat.le_of_ble_eq_true rfl) (fun X C => vX1_faultOfPaying C ti p0 h H)
/-! X1_pay -/
abbrev iX1_pay : g_I := (RX1, yX1_pay, cX1_pay, 2, (some .int), [], { frames := 1, cells := 0, slots := 0, locals := 20 })
set_option maxRecDepth 100000 in
set_option maxHeartbeats 4000000 in
theorem vX1_pay {G : g_G} {X : g_X} {Q : g_R → g_Hp → Prop} (C : g_Cx y_ G X iX1_pay) (ti : Nat) (p0 : Int32) (h : g_Hp) (H : wX1_pay ti p0 h Q) : g_V G X iX1_pay 0 0 Q 0 0 0 [(0, vR 1 ti 0), (1, vI p0)] [] h := by
  refine s_aload_n (pc := 0) C dX1_pay_0 rfl 0 rfl ?_
  refine s_dup (pc := 1) C dX1_pay_1 rfl ?_
  refine s_geti (pc := 2) (s := 9) ckX1 (Or.inl rfl) (by decide) kw_183 (fun _ => rfl) C dX1_pay_2 ?_
  refine s_iload_n (pc := 5) C dX1_pay_5 rfl 1 rfl ?_
  refine s_iadd (pc := 6) C dX1_pay_6 ?_
  refine s_puti (pc := 7) (s := 9) ckX1 (Or.inl rfl) (by decide) kw_183 (fun _ => rfl) rfl rfl rfl C dX1_pay_7 ?_
  refine s_name (fun h1 eh1 => ?_)
  have H := H h1 eh1
  refine s_aload_n (pc := 10) C dX1_pay_10 rfl 0 rfl ?_
  refine s_geti (pc := 11) (s := 9) ckX1 (Or.inl rfl) (by decide) kw_183 (fun _ => rfl) C dX1_pay_11 ?_
  exact s_iret (pc := 14) rfl rfl ⟨by decide, by decide⟩ H C dX1_pay_14
theorem ctX1_pay (l : Launch) (hl : l.stackTraces = false) {G : g_G} (ti : Nat) (p0 : Int32) (h : g_Hp) (Q : g_R → g_Hp → Prop) (H : wX1_pay ti p0 h Q) : g_Met l y_ G iX1_pay [vR 1 ti 0, vI p0] h Q :=
  g_Met_of hl (by decide +kernel) rfl rfl (Nat.le_of_ble_eq_true rfl) (fun X C => vX1_pay C ti p0 h H)
/-! X1_faultOfSigning -/
abbrev iX1_faultOfSigning : g_I := (RX1, yX1_faultOfSigning, cX1_faultOfSigning, 3, (some (.object "VaneUnion$Fault")), [], { frames := 2, cells := 0, slots := 0, locals := 43 })
set_option maxRecDepth 100000 in
set_option maxHeartbeats 4000000 in
theorem vX1_faultOfSigning_b15 {G : g_G} {X : g_X} {Q : g_R → g_Hp → Prop} (C : g_Cx y_ G X iX1_faultOfSigning) (ti : Nat) (h : g_Hp) (H : wX1_faultOfSigning_b15 ti Q h) : g_V G X iX1_faultOfSigning 0 0 Q 15 0 0 [] [] h := by
  refine s_gets (pc := 15) zs_NO_INDEX (g_cst_R rfl) kw_587 C dX1_faultOfSigning_15 ?_
  exact s_aret (pc := 18) rfl (Or.inl ⟨_, rfl⟩) ⟨by decide, by decide⟩ H C dX1_faultOfSigning_18
set_option maxRecDepth 100000 in
set_option maxHeartbeats 4000000 in
theorem vX1_faultOfSigning_b35 {G : g_G} {X : g_X} {Q : g_R → g_Hp → Prop} (C : g_Cx y_ G X iX1_faultOfSigning) (ti : Nat) (h : g_Hp) (H : wX1_faultOfSigning_b35 ti Q h) : g_V G X iX1_faultOfSigning 0 0 Q 35 0 0 [] [] h := by
  refine s_gets (pc := 35) zs_BAD_STATE (g_cst_R rfl) kw_591 C dX1_faultOfSigning_35 ?_
  exact s_aret (pc := 38) rfl (Or.inl ⟨_, rfl⟩) ⟨by decide, by decide⟩ H C dX1_faultOfSigning_38
set_option maxRecDepth 100000 in
set_option maxHeartbeats 4000000 in
theorem vX1_faultOfSigning_b61 {G : g_G} {X : g_X} {Q : g_R → g_Hp → Prop} (C : g_Cx y_ G X iX1_faultOfSigning) (ti : Nat) (z0i : Nat) (h : g_Hp) (H : wX1_faultOfSigning_b61 ti Q z0i h) : g_V G X iX1_faultOfSigning 0 0 Q 61 0 0 [] [vR 20 z0i 0] h := by
  exact s_aret (pc := 61) rfl (Or.inl ⟨_, rfl⟩) ⟨by decide, by decide⟩ H C dX1_faultOfSigning_61
set_option maxRecDepth 100000 in
set_option maxHeartbeats 4000000 in
theorem vX1_faultOfSigning {G : g_G} {X : g_X} {Q : g_R → g_Hp → Prop} (C : g_Cx y_ G X iX1_faultOfSigning) (ti : Nat) (p0 : Int32) (p1 : Int32) (h : g_Hp) (H : wX1_faultOfSigning ti p0 p1 h Q) : g_V G X iX1_faultOfSigning 0 0 Q 0 0 0 [(0, vR 1 ti 0), (1, vI p0), (2, vI p1)] [] h := by
  refine s_iload_n (pc := 0) C dX1_faultOfSigning_0 rfl 1 rfl ?_
  refine s_calln (pc := 1) (nA := 1) (as := [vI p0]) (st := []) (stk := [vI p0]) ns_RX1_57 C (fun l hl => ctX7_isRoof l hl p0 _ _ H) ⟨kw_58, kw_586, kw_585⟩ rfl ⟨by decide, by decide, by decide +kernel⟩ ⟨by decide, by decide⟩ rfl (Nat.le_of_ble_eq_true rfl) ⟨by decide, by decide⟩ rfl dX1_faultOfSigning_1 (g_Kq_I (fun u2 h1 H => ?_) (fun E h1 H => s_prop rfl ⟨by decide, by decide⟩ H C))
  refine s_if_eq (pc := 4) (tgt := 15) C dX1_faultOfSigning_4 (by decide) (fun c => ?_) (fun c => ?_)
  · have H := H.1 c
    exact s_sub (ls' := []) [] rfl (vX1_faultOfSigning_b15 C ti  h1 H)
  · have H := H.2 c
    refine s_aload_n (pc := 7) C dX1_faultOfSigning_7 rfl 0 rfl ?_
    refine s_iload_n (pc := 8) C dX1_faultOfSigning_8 rfl 2 rfl ?_
    refine s_callv (pc := 9) (nA := 1) (as := [vI p1]) (st := []) (stk := [vI p1, vR 1 ti 0]) ckX1 (Or.inl rfl) C (fun l hl => ctX1_isMember l hl ti p1 _ _ H) ⟨⟨kw_848, kw_59, kw_414⟩, rfl, ⟨by decide, by decide, by decide +kernel⟩, by decide, by decide⟩ kw_412 (g_selW kw_413) rfl (Nat.le_of_ble_eq_true rfl) ⟨by decide, by decide⟩ rfl dX1_faultOfSigning_9 (g_Kq_I (fun u4 h3 H => ?_) (fun E h3 H => s_prop rfl ⟨by decide, by decide⟩ H C))
    refine s_if_ne (pc := 12) (tgt := 19) C dX1_faultOfSigning_12 (by decide) (fun c => ?_) (fun c => ?_)
    · have H := H.1 c
      refine s_aload_n (pc := 19) C dX1_faultOfSigning_19 rfl 0 rfl ?_
      refine s_geti (pc := 20) (s := 6) ckX1 (Or.inl rfl) (by decide) kw_178 (fun _ => rfl) C dX1_faultOfSigning_20 ?_
      refine s_if_eq (pc := 23) (tgt := 35) C dX1_faultOfSigning_23 (by decide) (fun c => ?_) (fun c => ?_)
      · have H := H.1 c
        exact s_sub (ls' := []) [] rfl (vX1_faultOfSigning_b35 C ti  h3 H)
      · have H := H.2 c
        refine s_aload_n (pc := 26) C dX1_faultOfSigning_26 rfl 0 rfl ?_
        refine s_iload_n (pc := 27) C dX1_faultOfSigning_27 rfl 1 rfl ?_
        refine s_callv (pc := 28) (nA := 1) (as := [vI p0]) (st := []) (stk := [vI p0, vR 1 ti 0]) ckX1 (Or.inl rfl) C (fun l hl => ctX1_countOnList l hl ti p0 _ _ H) ⟨⟨kw_828, kw_59, kw_831⟩, rfl, ⟨by decide, by decide, by decide +kernel⟩, by decide, by decide⟩ kw_829 (g_selW kw_830) rfl (Nat.le_of_ble_eq_true rfl) ⟨by decide, by decide⟩ rfl dX1_faultOfSigning_28 (g_Kq_I (fun u6 h5 H => ?_) (fun E h5 H => s_prop rfl ⟨by decide, by decide⟩ H C))
        refine s_iconst (pc := 31) C dX1_faultOfSigning_31 (x := (4 : Int32)) (by decide) ?_
        refine s_icmp_lt (pc := 32) (tgt := 39) C dX1_faultOfSigning_32 (by decide) (fun c => ?_) (fun c => ?_)
        · have H := H.1 c
          refine s_aload_n (pc := 39) C dX1_faultOfSigning_39 rfl 0 rfl ?_
          refine s_getr (pc := 40) (s := 0) (a := 11) (b := ti) (c' := 0) ckX1 (by decide) kw_166 rfl C dX1_faultOfSigning_40 ?_
          refine s_iload_n (pc := 43) C dX1_faultOfSigning_43 rfl 2 rfl ?_
          refine s_aald (pc := 44) (kk := 11) (by decide) (by decide) H.1 C dX1_faultOfSigning_44 ?_
          have H := H.2
          show g_V _ _ _ _ _ _ _ _ _ _ (vR 2 ti (p1.toNatClampNeg) :: _) _
          refine s_nmj (fun j7 ej7 => ?_)
          have H := H j7 ej7
          refine s_geti (pc := 45) (s := 9) ckX6 (Or.inl rfl) (by decide) kw_139 (fun _ => rfl) C dX1_faultOfSigning_45 ?_
          refine s_iconst (pc := 48) C dX1_faultOfSigning_48 (x := (-1 : Int32)) (by decide) ?_
          refine s_icmp_eq (pc := 49) (tgt := 58) C dX1_faultOfSigning_49 (by decide) (fun c => ?_) (fun c => ?_)
          · have H := H.1 c
            refine s_gets (pc := 58) zs_NOTHING (g_cst_R rfl) kw_593 C dX1_faultOfSigning_58 ?_
            exact s_sub (ls' := []) [] rfl (vX1_faultOfSigning_b61 C ti 0 h5 H)
          · have H := H.2 c
            refine s_gets (pc := 52) zs_UNSUPPORTED (g_cst_R rfl) kw_873 C dX1_faultOfSigning_52 ?_
            refine s_goto (pc := 55) (tgt := 61) C dX1_faultOfSigning_55 (by decide) ?_
            exact s_sub (ls' := []) [] rfl (vX1_faultOfSigning_b61 C ti 4 h5 H)
        · have H := H.2 c
          exact s_sub (ls' := []) [] rfl (vX1_faultOfSigning_b35 C ti  h5 H)
    · have H := H.2 c
      exact s_sub (ls' := []) [] rfl (vX1_faultOfSigning_b15 C ti  h3 H)
theorem ctX1_faultOfSigning (l : Launch) (hl : l.stackTraces = false) {G : g_G} (ti : Nat) (p0 : Int32) (p1 : Int32) (h : g_Hp) (Q : g_R → g_Hp → Prop) (H : wX1_faultOfSigning ti p0 p1 h Q) : g_Met l y_ G iX1_faultOfSigning [vR 1 ti 0, vI p0, vI p1] h Q :=
  g_Met_of hl (by decide +kernel) rfl rfl (Nat.le_of_ble_eq_true rfl) (fun X C => vX1_faultOfSigning C ti p0 p1 h H)
/-! X1_putOnList -/
abbrev iX1_putOnList : g_I := (RX1, yX1_putOnList, cX1_putOnList, 4, (some .int), [], { frames := 2, cells := 0, slots := 0, locals := 43 })
set_option maxRecDepth 100000 in
set_option maxHeartbeats 4000000 in
theorem vX1_putOnList {G : g_G} {X : g_X} {Q : g_R → g_Hp → Prop} (C : g_Cx y_ G X iX1_putOnList) (ti : Nat) (p0 : Int32) (p1 : Int32) (h : g_Hp) (H : wX1_putOnList ti p0 p1 h Q) : g_V G X iX1_putOnList 0 0 Q 0 0 0 [(0, vR 1 ti 0), (1, vI p0), (2, vI p1)] [] h := by
  refine s_aload_n (pc := 0) C dX1_putOnList_0 rfl 0 rfl ?_
  refine s_iload_n (pc := 1) C dX1_putOnList_1 rfl 1 rfl ?_
  refine s_callv (pc := 2) (nA := 1) (as := [vI p0]) (st := []) (stk := [vI p0, vR 1 ti 0]) ckX1 (Or.inl rfl) C (fun l hl => ctX1_countOnList l hl ti p0 _ _ H) ⟨⟨kw_828, kw_59, kw_831⟩, rfl, ⟨by decide, by decide, by decide +kernel⟩, by decide, by decide⟩ kw_829 (g_selW kw_830) rfl (Nat.le_of_ble_eq_true rfl) ⟨by decide, by decide⟩ rfl dX1_putOnList_2 (g_Kq_I (fun u2 h1 H => ?_) (fun E h1 H => s_prop rfl ⟨by decide, by decide⟩ H C))
  refine s_istore_n (pc := 5) (ls' := [(3, vI u2), (0, vR 1 ti 0), (1, vI p0), (2, vI p1)]) C dX1_putOnList_5 rfl (by decide) rfl ?_
  refine s_aload_n (pc := 6) C dX1_putOnList_6 rfl 1 rfl ?_
  refine s_getr (pc := 7) (s := 0) (a := 11) (b := ti) (c' := 0) ckX1 (by decide) kw_166 rfl C dX1_putOnList_7 ?_
  refine s_iload_n (pc := 10) C dX1_putOnList_10 rfl 3 rfl ?_
  refine s_aald (pc := 11) (kk := 11) (by decide) (by decide) H.1 C dX1_putOnList_11 ?_
  have H := H.2
  show g_V _ _ _ _ _ _ _ _ _ _ (vR 2 ti (p1.toNatClampNeg) :: _) _
  refine s_nmj (fun j3 ej3 => ?_)
  have H := H j3 ej3
  refine s_iload_n (pc := 12) C dX1_putOnList_12 rfl 2 rfl ?_
  refine s_puti (pc := 13) (s := 9) ckX6 (Or.inl rfl) (by decide) kw_139 (fun _ => rfl) rfl rfl rfl C dX1_putOnList_13 ?_
  refine s_name (fun h4 eh4 => ?_)
  have H := H h4 eh4
  refine s_aload_n (pc := 16) C dX1_putOnList_16 rfl 1 rfl ?_
  refine s_getr (pc := 17) (s := 0) (a := 11) (b := ti) (c' := 0) ckX1 (by decide) kw_166 rfl C dX1_putOnList_17 ?_
  refine s_iload_n (pc := 20) C dX1_putOnList_20 rfl 3 rfl ?_
  refine s_aald (pc := 21) (kk := 11) (by decide) (by decide) H.1 C dX1_putOnList_21 ?_
  have H := H.2
  show g_V _ _ _ _ _ _ _ _ _ _ (vR 2 ti (p1.toNatClampNeg) :: _) _
  refine s_nmj (fun j5 ej5 => ?_)
  have H := H j5 ej5
  refine s_iload_n (pc := 22) C dX1_putOnList_22 rfl 0 rfl ?_
  refine s_puti (pc := 23) (s := 10) ckX6 (Or.inl rfl) (by decide) kw_142 (fun _ => rfl) rfl rfl rfl C dX1_putOnList_23 ?_
  refine s_name (fun h6 eh6 => ?_)
  have H := H h6 eh6
  refine s_iload_n (pc := 26) C dX1_putOnList_26 rfl 0 rfl ?_
  refine s_iconst (pc := 27) C dX1_putOnList_27 (x := (1 : Int32)) (by decide) ?_
  refine s_iadd (pc := 28) C dX1_putOnList_28 ?_
  exact s_iret (pc := 29) rfl rfl ⟨by decide, by decide⟩ H C dX1_putOnList_29
theorem ctX1_putOnList (l : Launch) (hl : l.stackTraces = false) {G : g_G} (ti : Nat) (p0 : Int32) (p1 : Int32) (h : g_Hp) (Q : g_R → g_Hp → Prop) (H : wX1_putOnList ti p0 p1 h Q) : g_Met l y_ G iX1_putOnList [vR 1 ti 0, vI p0, vI p1] h Q :=
  g_Met_of hl (by decide +kernel) rfl rfl (Nat.le_of_ble_eq_true rfl) (fun X C => vX1_putOnList C ti p0 p1 h H)
/-! X1_faultOfStrikingOff -/
abbrev iX1_faultOfStrikingOff : g_I := (RX1, yX1_faultOfStrikingOff, cX1_faultOfStrikingOff, 2, (some (.object "VaneUnion$Fault")), [], { frames := 2, cells := 0, slots := 0, locals := 41 })
set_option maxRecDepth 100000 in
set_option maxHeartbeats 4000000 in
theorem vX1_faultOfStrikingOff_b34 {G : g_G} {X : g_X} {Q : g_R → g_Hp → Prop} (C : g_Cx y_ G X iX1_faultOfStrikingOff) (ti : Nat) (z0i : Nat) (h : g_Hp) (H : wX1_faultOfStrikingOff_b34 ti Q z0i h) : g_V G X iX1_faultOfStrikingOff 0 0 Q 34 0 0 [] [vR 20 z0i 0] h := by
  exact s_aret (pc := 34) rfl (Or.inl ⟨_, rfl⟩) ⟨by decide, by decide⟩ H C dX1_faultOfStrikingOff_34
set_option maxRecDepth 100000 in
set_option maxHeartbeats 4000000 in
theorem vX1_faultOfStrikingOff {G : g_G} {X : g_X} {Q : g_R → g_Hp → Prop} (C : g_Cx y_ G X iX1_faultOfStrikingOff) (ti : Nat) (p0 : Int32) (h : g_Hp) (H : wX1_faultOfStrikingOff ti p0 h Q) : g_V G X iX1_faultOfStrikingOff 0 0 Q 0 0 0 [(0, vR 1 ti 0), (1, vI p0)] [] h := by
  refine s_aload_n (pc := 0) C dX1_faultOfStrikingOff_0 rfl 0 rfl ?_
  refine s_iload_n (pc := 1) C dX1_faultOfStrikingOff_1 rfl 1 rfl ?_
  refine s_callv (pc := 2) (nA := 1) (as := [vI p0]) (st := []) (stk := [vI p0, vR 1 ti 0]) ckX1 (Or.inl rfl) C (fun l hl => ctX1_isMember l hl ti p0 _ _ H) ⟨⟨kw_848, kw_59, kw_414⟩, rfl, ⟨by decide, by decide, by decide +kernel⟩, by decide, by decide⟩ kw_412 (g_selW kw_413) rfl (Nat.le_of_ble_eq_true rfl) ⟨by decide, by decide⟩ rfl dX1_faultOfStrikingOff_2 (g_Kq_I (fun u2 h1 H => ?_) (fun E h1 H => s_prop rfl ⟨by decide, by decide⟩ H C))
  refine s_if_ne (pc := 5) (tgt := 12) C dX1_faultOfStrikingOff_5 (by decide) (fun c => ?_) (fun c => ?_)
  · have H := H.1 c
    refine s_aload_n (pc := 12) C dX1_faultOfStrikingOff_12 rfl 0 rfl ?_
    refine s_getr (pc := 13) (s := 0) (a := 11) (b := ti) (c' := 0) ckX1 (by decide) kw_166 rfl C dX1_faultOfStrikingOff_13 ?_
    refine s_iload_n (pc := 16) C dX1_faultOfStrikingOff_16 rfl 1 rfl ?_
    refine s_aald (pc := 17) (kk := 11) (by decide) (by decide) H.1 C dX1_faultOfStrikingOff_17 ?_
    have H := H.2
    show g_V _ _ _ _ _ _ _ _ _ _ (vR 2 ti (p0.toNatClampNeg) :: _) _
    refine s_nmj (fun j3 ej3 => ?_)
    have H := H j3 ej3
    refine s_geti (pc := 18) (s := 9) ckX6 (Or.inl rfl) (by decide) kw_139 (fun _ => rfl) C dX1_faultOfStrikingOff_18 ?_
    refine s_iconst (pc := 21) C dX1_faultOfStrikingOff_21 (x := (-1 : Int32)) (by decide) ?_
    refine s_icmp_ne (pc := 22) (tgt := 31) C dX1_faultOfStrikingOff_22 (by decide) (fun c => ?_) (fun c => ?_)
    · have H := H.1 c
      refine s_gets (pc := 31) zs_NOTHING (g_cst_R rfl) kw_593 C dX1_faultOfStrikingOff_31 ?_
      exact s_sub (ls' := []) [] rfl (vX1_faultOfStrikingOff_b34 C ti 0 h1 H)
    · have H := H.2 c
      refine s_gets (pc := 25) zs_NO_ELEMENT (g_cst_R rfl) kw_937 C dX1_faultOfStrikingOff_25 ?_
      refine s_goto (pc := 28) (tgt := 34) C dX1_faultOfStrikingOff_28 (by decide) ?_
      exact s_sub (ls' := []) [] rfl (vX1_faultOfStrikingOff_b34 C ti 5 h1 H)
  · have H := H.2 c
    refine s_gets (pc := 8) zs_NO_INDEX (g_cst_R rfl) kw_587 C dX1_faultOfStrikingOff_8 ?_
    exact s_aret (pc := 11) rfl (Or.inl ⟨_, rfl⟩) ⟨by decide, by decide⟩ H C dX1_faultOfStrikingOff_11
theorem ctX1_faultOfStrikingOff (l : Launch) (hl : l.stackTraces = false) {G : g_G} (ti : Nat) (p0 : Int32) (h : g_Hp) (Q : g_R → g_Hp → Prop) (H : wX1_faultOfStrikingOff ti p0 h Q) : g_Met l y_ G iX1_faultOfStrikingOff [vR 1 ti 0, vI p0] h Q :=
  g_Met_of hl (by decide +kernel) rfl rfl (Nat.le_of_ble_eq_true rfl) (fun X C => vX1_faultOfStrikingOff C ti p0 h H)
/-! X1_takeOffList -/
abbrev iX1_takeOffList : g_I := (RX1, yX1_takeOffList, cX1_takeOffList, 6, (some .int), [], { frames := 1, cells := 0, slots := 0, locals := 20 })
set_option maxRecDepth 100000 in
set_option maxHeartbeats 4000000 in
theorem vX1_takeOffList_b80 {G : g_G} {X : g_X} {Q : g_R → g_Hp → Prop} (C : g_Cx y_ G X iX1_takeOffList) (ti : Nat) (R33 : Int32 → Int32 → Int32 → g_Hp → Prop) (hR33 : ∀ (x2 : Int32) (x3 : Int32) (x4 : Int32) (h : g_Hp), R33 x2 x3 x4 h → g_V G X iX1_takeOffList 0 0 Q 33 0 0 [(0, vR 1 ti 0), (2, vI x2), (3, vI x3), (4, vI x4)] [] h) (x2 : Int32) (x3 : Int32) (x4 : Int32) (h : g_Hp) (H : wX1_takeOffList_b80 ti Q R33 x2 x3 x4 h) : g_V G X iX1_takeOffList 0 0 Q 80 0 0 [(0, vR 1 ti 0), (2, vI x2), (3, vI x3), (4, vI x4)] [] h := by
  refine s_iincN (pc := 80) C dX1_takeOffList_80 3 rfl (z' := (1 : Int32)) (by decide) (by decide) (fun y1 ey1 => ?_)
  have H := H y1 ey1
  show g_V _ _ _ _ _ _ _ _ _ [(4, vI y1), (0, vR 1 ti 0), (2, vI x2), (3, vI x3)] _ _
  refine s_goto (pc := 83) (tgt := 33) C dX1_takeOffList_83 (by decide) ?_
  exact s_sub (ls' := [(0, vR 1 ti 0), (2, vI x2), (3, vI x3), (4, vI y1)]) [1, 2, 3, 0] rfl (hR33 x2 x3 y1 h H)
set_option maxRecDepth 100000 in
set_option maxHeartbeats 4000000 in
theorem vX1_takeOffList_b33_B {G : g_G} {X : g_X} {Q : g_R → g_Hp → Prop} (C : g_Cx y_ G X iX1_takeOffList) (ti : Nat) (R33 : Int32 → Int32 → Int32 → g_Hp → Prop) (hR33 : ∀ (x2 : Int32) (x3 : Int32) (x4 : Int32) (h : g_Hp), R33 x2 x3 x4 h → g_V G X iX1_takeOffList 0 0 Q 33 0 0 [(0, vR 1 ti 0), (2, vI x2), (3, vI x3), (4, vI x4)] [] h) (x2 : Int32) (x3 : Int32) (x4 : Int32) (h : g_Hp) (H : wX1_takeOffList_b33_B ti Q R33 x2 x3 x4 h) : g_V G X iX1_takeOffList 0 0 Q 33 0 0 [(0, vR 1 ti 0), (2, vI x2), (3, vI x3), (4, vI x4)] [] h := by
  refine s_iload (pc := 33) C dX1_takeOffList_33 3 rfl ?_
  refine s_aload_n (pc := 35) C dX1_takeOffList_35 rfl 0 rfl ?_
  refine s_geti (pc := 36) (s := 1) ckX1 (Or.inl rfl) (by decide) kw_168 (fun _ => rfl) C dX1_takeOffList_36 ?_
  refine s_icmp_ge (pc := 39) (tgt := 86) C dX1_takeOffList_39 (by decide) (fun c => ?_) (fun c => ?_)
  · have H := H.1 c
    refine s_iload_n (pc := 86) C dX1_takeOffList_86 rfl 1 rfl ?_
    exact s_iret (pc := 87) rfl rfl ⟨by decide, by decide⟩ H C dX1_takeOffList_87
  · have H := H.2 c
    refine s_aload_n (pc := 42) C dX1_takeOffList_42 rfl 0 rfl ?_
    refine s_getr (pc := 43) (s := 0) (a := 11) (b := ti) (c' := 0) ckX1 (by decide) kw_166 rfl C dX1_takeOffList_43 ?_
    refine s_iload (pc := 46) C dX1_takeOffList_46 3 rfl ?_
    refine s_aald (pc := 48) (kk := 11) (by decide) (by decide) H.1 C dX1_takeOffList_48 ?_
    have H := H.2
    show g_V _ _ _ _ _ _ _ _ _ _ (vR 2 ti (x4.toNatClampNeg) :: _) _
    refine s_nmj (fun j1 ej1 => ?_)
    have H := H j1 ej1
    refine s_astore (pc := 49) (ls' := [(5, vR 2 ti j1), (0, vR 1 ti 0), (2, vI x2), (3, vI x3), (4, vI x4)]) C dX1_takeOffList_49 (by decide) rfl ?_
    refine s_aload (pc := 51) C dX1_takeOffList_51 0 rfl ?_
    refine s_geti (pc := 53) (s := 9) ckX6 (Or.inl rfl) (by decide) kw_139 (fun _ => rfl) C dX1_takeOffList_53 ?_
    refine s_iload_n (pc := 56) C dX1_takeOffList_56 rfl 2 rfl ?_
    refine s_icmp_ne (pc := 57) (tgt := 80) C dX1_takeOffList_57 (by decide) (fun c => ?_) (fun c => ?_)
    · have H := H.1 c
      exact s_sub (ls' := [(0, vR 1 ti 0), (2, vI x2), (3, vI x3), (4, vI x4)]) [1, 2, 3, 4] rfl (vX1_takeOffList_b80 C ti R33 hR33 x2 x3 x4 h H)
    · have H := H.2 c
      refine s_aload (pc := 60) C dX1_takeOffList_60 0 rfl ?_
      refine s_geti (pc := 62) (s := 10) ckX6 (Or.inl rfl) (by decide) kw_142 (fun _ => rfl) C dX1_takeOffList_62 ?_
      refine s_iload_n (pc := 65) C dX1_takeOffList_65 rfl 3 rfl ?_
      refine s_icmp_le (pc := 66) (tgt := 80) C dX1_takeOffList_66 (by decide) (fun c => ?_) (fun c => ?_)
      · have H := H.1 c
        exact s_sub (ls' := [(0, vR 1 ti 0), (2, vI x2), (3, vI x3), (4, vI x4)]) [1, 2, 3, 4] rfl (vX1_takeOffList_b80 C ti R33 hR33 x2 x3 x4 h H)
      · have H := H.2 c
        refine s_aload (pc := 69) C dX1_takeOffList_69 0 rfl ?_
        refine s_dup (pc := 71) C dX1_takeOffList_71 rfl ?_
        refine s_geti (pc := 72) (s := 10) ckX6 (Or.inl rfl) (by decide) kw_142 (fun _ => rfl) C dX1_takeOffList_72 ?_
        refine s_iconst (pc := 75) C dX1_takeOffList_75 (x := (1 : Int32)) (by decide) ?_
        refine s_isub (pc := 76) C dX1_takeOffList_76 ?_
        refine s_puti (pc := 77) (s := 10) ckX6 (Or.inl rfl) (by decide) kw_142 (fun _ => rfl) rfl rfl rfl C dX1_takeOffList_77 ?_
        refine s_name (fun h2 eh2 => ?_)
        have H := H h2 eh2
        exact s_sub (ls' := [(0, vR 1 ti 0), (2, vI x2), (3, vI x3), (4, vI x4)]) [1, 2, 3, 4] rfl (vX1_takeOffList_b80 C ti R33 hR33 x2 x3 x4 h2 H)
theorem vX1_takeOffList_b33 {G : g_G} {X : g_X} {Q : g_R → g_Hp → Prop} (C : g_Cx y_ G X iX1_takeOffList) (ti : Nat) (x2 : Int32) (x3 : Int32) (x4 : Int32) (h : g_Hp) (H : wX1_takeOffList_b33 ti Q x2 x3 x4 h) : g_V G X iX1_takeOffList 0 0 Q 33 0 0 [(0, vR 1 ti 0), (2, vI x2), (3, vI x3), (4, vI x4)] [] h := by
  obtain ⟨n, H⟩ := H
  induction n generalizing x2 x3 x4 h with
  | zero => exact H.elim
  | succ n ih => exact vX1_takeOffList_b33_B C ti _ (fun x2 x3 x4 h H => ih x2 x3 x4 h H) x2 x3 x4 h H
set_option maxRecDepth 100000 in
set_option maxHeartbeats 4000000 in
theorem vX1_takeOffList {G : g_G} {X : g_X} {Q : g_R → g_Hp → Prop} (C : g_Cx y_ G X iX1_takeOffList) (ti : Nat) (p0 : Int32) (h : g_Hp) (H : wX1_takeOffList ti p0 h Q) : g_V G X iX1_takeOffList 0 0 Q 0 0 0 [(0, vR 1 ti 0), (1, vI p0)] [] h := by
  refine s_aload_n (pc := 0) C dX1_takeOffList_0 rfl 0 rfl ?_
  refine s_getr (pc := 1) (s := 0) (a := 11) (b := ti) (c' := 0) ckX1 (by decide) kw_166 rfl C dX1_takeOffList_1 ?_
  refine s_iload_n (pc := 4) C dX1_takeOffList_4 rfl 1 rfl ?_
  refine s_aald (pc := 5) (kk := 11) (by decide) (by decide) H.1 C dX1_takeOffList_5 ?_
  have H := H.2
  show g_V _ _ _ _ _ _ _ _ _ _ (vR 2 ti (p0.toNatClampNeg) :: _) _
  refine s_nmj (fun j1 ej1 => ?_)
  have H := H j1 ej1
  refine s_geti (pc := 6) (s := 9) ckX6 (Or.inl rfl) (by decide) kw_139 (fun _ => rfl) C dX1_takeOffList_6 ?_
  refine s_namei (fun y2 ey2 => ?_)
  have H := H y2 ey2
  refine s_istore_n (pc := 9) (ls' := [(2, vI y2), (0, vR 1 ti 0), (1, vI p0)]) C dX1_takeOffList_9 rfl (by decide) rfl ?_
  refine s_aload_n (pc := 10) C dX1_takeOffList_10 rfl 1 rfl ?_
  refine s_getr (pc := 11) (s := 0) (a := 11) (b := ti) (c' := 0) ckX1 (by decide) kw_166 rfl C dX1_takeOffList_11 ?_
  refine s_iload_n (pc := 14) C dX1_takeOffList_14 rfl 2 rfl ?_
  refine s_aald (pc := 15) (kk := 11) (by decide) (by decide) H.1 C dX1_takeOffList_15 ?_
  have H := H.2
  show g_V _ _ _ _ _ _ _ _ _ _ (vR 2 ti (p0.toNatClampNeg) :: _) _
  refine s_nmj (fun j3 ej3 => ?_)
  have H := H j3 ej3
  refine s_geti (pc := 16) (s := 10) ckX6 (Or.inl rfl) (by decide) kw_142 (fun _ => rfl) C dX1_takeOffList_16 ?_
  refine s_namei (fun y4 ey4 => ?_)
  have H := H y4 ey4
  refine s_istore_n (pc := 19) (ls' := [(3, vI y4), (2, vI y2), (0, vR 1 ti 0), (1, vI p0)]) C dX1_takeOffList_19 rfl (by decide) rfl ?_
  refine s_aload_n (pc := 20) C dX1_takeOffList_20 rfl 2 rfl ?_
  refine s_getr (pc := 21) (s := 0) (a := 11) (b := ti) (c' := 0) ckX1 (by decide) kw_166 rfl C dX1_takeOffList_21 ?_
  refine s_iload_n (pc := 24) C dX1_takeOffList_24 rfl 3 rfl ?_
  refine s_aald (pc := 25) (kk := 11) (by decide) (by decide) H.1 C dX1_takeOffList_25 ?_
  have H := H.2
  show g_V _ _ _ _ _ _ _ _ _ _ (vR 2 ti (p0.toNatClampNeg) :: _) _
  refine s_nmj (fun j5 ej5 => ?_)
  have H := H j5 ej5
  refine s_iconst (pc := 26) C dX1_takeOffList_26 (x := (-1 : Int32)) (by decide) ?_
  refine s_puti (pc := 27) (s := 9) ckX6 (Or.inl rfl) (by decide) kw_139 (fun _ => rfl) rfl rfl rfl C dX1_takeOffList_27 ?_
  refine s_name (fun h6 eh6 => ?_)
  have H := H h6 eh6
  refine s_iconst (pc := 30) C dX1_takeOffList_30 (x := (0 : Int32)) (by decide) ?_
  refine s_istore (pc := 31) (ls' := [(4, vI (0 : Int32)), (3, vI y4), (2, vI y2), (0, vR 1 ti 0), (1, vI p0)]) C dX1_takeOffList_31 (by decide) rfl ?_
  exact s_sub (ls' := [(0, vR 1 ti 0), (2, vI y2), (3, vI y4), (4, vI (0 : Int32))]) [3, 2, 1, 0] rfl (vX1_takeOffList_b33 C ti y2 y4 (0 : Int32) h6 H)
theorem ctX1_takeOffList (l : Launch) (hl : l.stackTraces = false) {G : g_G} (ti : Nat) (p0 : Int32) (h : g_Hp) (Q : g_R → g_Hp → Prop) (H : wX1_takeOffList ti p0 h Q) : g_Met l y_ G iX1_takeOffList [vR 1 ti 0, vI p0] h Q :=
  g_Met_of hl (by decide +kernel) rfl rfl (Nat.le_of_ble_eq_true rfl) (fun X C => vX1_takeOffList C ti p0 h H)
