/-! X1_faultOfOffering -/
abbrev iX1_faultOfOffering : g_I := (RX1, yX1_faultOfOffering, cX1_faultOfOffering, 2, (some (.object "VaneUnion$Fault")), [], { frames := 1, cells := 0, slots := 0, locals := 20 })
set_option maxRecDepth 100000 in
set_option maxHeartbeats 4000000 in
theorem vX1_faultOfOffering_b11 {G : g_G} {X : g_X} {Q : g_R → g_Hp → Prop} (C : g_Cx y_ G X iX1_faultOfOffering) (ti : Nat) (h : g_Hp) (H : wX1_faultOfOffering_b11 ti Q h) : g_V G X iX1_faultOfOffering 0 0 Q 11 0 0 [] [] h := by
  refine s_gets (pc := 11) zs_BAD_ARGUMENT (g_cst_R rfl) kw_589 C dX1_faultOfOffering_11 ?_
  exact s_aret (pc := 14) rfl (Or.inl ⟨_, rfl⟩) ⟨by decide, by decide⟩ H C dX1_faultOfOffering_14
set_option maxRecDepth 100000 in
set_option maxHeartbeats 4000000 in
theorem vX1_faultOfOffering_b31 {G : g_G} {X : g_X} {Q : g_R → g_Hp → Prop} (C : g_Cx y_ G X iX1_faultOfOffering) (ti : Nat) (z0i : Nat) (h : g_Hp) (H : wX1_faultOfOffering_b31 ti Q z0i h) : g_V G X iX1_faultOfOffering 0 0 Q 31 0 0 [] [vR 20 z0i 0] h := by
  exact s_aret (pc := 31) rfl (Or.inl ⟨_, rfl⟩) ⟨by decide, by decide⟩ H C dX1_faultOfOffering_31
set_option maxRecDepth 100000 in
set_option maxHeartbeats 4000000 in
theorem vX1_faultOfOffering {G : g_G} {X : g_X} {Q : g_R → g_Hp → Prop} (C : g_Cx y_ G X iX1_faultOfOffering) (ti : Nat) (p0 : Int32) (h : g_Hp) (H : wX1_faultOfOffering ti p0 h Q) : g_V G X iX1_faultOfOffering 0 0 Q 0 0 0 [(0, vR 1 ti 0), (1, vI p0)] [] h := by
  refine s_iload_n (pc := 0) C dX1_faultOfOffering_0 rfl 1 rfl ?_
  refine s_iconst (pc := 1) C dX1_faultOfOffering_1 (x := (1 : Int32)) (by decide) ?_
  refine s_icmp_lt (pc := 2) (tgt := 11) C dX1_faultOfOffering_2 (by decide) (fun c => ?_) (fun c => ?_)
  · have H := H.1 c
    exact s_sub (ls' := []) [] rfl (vX1_faultOfOffering_b11 C ti  h H)
  · have H := H.2 c
    refine s_iload_n (pc := 5) C dX1_faultOfOffering_5 rfl 1 rfl ?_
    refine s_bipush (pc := 6) C dX1_faultOfOffering_6 (x := (50 : Int32)) (by decide) ?_
    refine s_icmp_le (pc := 8) (tgt := 15) C dX1_faultOfOffering_8 (by decide) (fun c => ?_) (fun c => ?_)
    · have H := H.1 c
      refine s_aload_n (pc := 15) C dX1_faultOfOffering_15 rfl 0 rfl ?_
      refine s_geti (pc := 16) (s := 6) ckX1 (Or.inl rfl) (by decide) kw_178 (fun _ => rfl) C dX1_faultOfOffering_16 ?_
      refine s_if_eq (pc := 19) (tgt := 28) C dX1_faultOfOffering_19 (by decide) (fun c => ?_) (fun c => ?_)
      · have H := H.1 c
        refine s_gets (pc := 28) zs_BAD_STATE (g_cst_R rfl) kw_591 C dX1_faultOfOffering_28 ?_
        exact s_sub (ls' := []) [] rfl (vX1_faultOfOffering_b31 C ti 3 h H)
      · have H := H.2 c
        refine s_gets (pc := 22) zs_NOTHING (g_cst_R rfl) kw_593 C dX1_faultOfOffering_22 ?_
        refine s_goto (pc := 25) (tgt := 31) C dX1_faultOfOffering_25 (by decide) ?_
        exact s_sub (ls' := []) [] rfl (vX1_faultOfOffering_b31 C ti 0 h H)
    · have H := H.2 c
      exact s_sub (ls' := []) [] rfl (vX1_faultOfOffering_b11 C ti  h H)
theorem ctX1_faultOfOffering (l : Launch) (hl : l.stackTraces = false) {G : g_G} (ti : Nat) (p0 : Int32) (h : g_Hp) (Q : g_R → g_Hp → Prop) (H : wX1_faultOfOffering ti p0 h Q) : g_Met l y_ G iX1_faultOfOffering [vR 1 ti 0, vI p0] h Q :=
  g_Met_of hl (by decide +kernel) rfl rfl (Nat.le_of_ble_eq_true rfl) (fun X C => vX1_faultOfOffering C ti p0 h H)
/-! X1_countAcceptances -/
abbrev iX1_countAcceptances : g_I := (RX1, yX1_countAcceptances, cX1_countAcceptances, 3, (some .int), [], { frames := 1, cells := 0, slots := 0, locals := 20 })
set_option maxRecDepth 100000 in
set_option maxHeartbeats 4000000 in
theorem vX1_countAcceptances_b27 {G : g_G} {X : g_X} {Q : g_R → g_Hp → Prop} (C : g_Cx y_ G X iX1_countAcceptances) (ti : Nat) (R4 : Int32 → Int32 → g_Hp → Prop) (hR4 : ∀ (x1 : Int32) (x2 : Int32) (h : g_Hp), R4 x1 x2 h → g_V G X iX1_countAcceptances 0 0 Q 4 0 0 [(0, vR 1 ti 0), (1, vI x1), (2, vI x2)] [] h) (x1 : Int32) (x2 : Int32) (h : g_Hp) (H : wX1_countAcceptances_b27 ti Q R4 x1 x2 h) : g_V G X iX1_countAcceptances 0 0 Q 27 0 0 [(0, vR 1 ti 0), (1, vI x1), (2, vI x2)] [] h := by
  refine s_iincN (pc := 27) C dX1_countAcceptances_27 2 rfl (z' := (1 : Int32)) (by decide) (by decide) (fun y1 ey1 => ?_)
  have H := H y1 ey1
  show g_V _ _ _ _ _ _ _ _ _ [(2, vI y1), (0, vR 1 ti 0), (1, vI x1)] _ _
  refine s_goto (pc := 30) (tgt := 4) C dX1_countAcceptances_30 (by decide) ?_
  exact s_sub (ls' := [(0, vR 1 ti 0), (1, vI x1), (2, vI y1)]) [1, 2, 0] rfl (hR4 x1 y1 h H)
set_option maxRecDepth 100000 in
set_option maxHeartbeats 4000000 in
theorem vX1_countAcceptances_b4_B {G : g_G} {X : g_X} {Q : g_R → g_Hp → Prop} (C : g_Cx y_ G X iX1_countAcceptances) (ti : Nat) (R4 : Int32 → Int32 → g_Hp → Prop) (hR4 : ∀ (x1 : Int32) (x2 : Int32) (h : g_Hp), R4 x1 x2 h → g_V G X iX1_countAcceptances 0 0 Q 4 0 0 [(0, vR 1 ti 0), (1, vI x1), (2, vI x2)] [] h) (x1 : Int32) (x2 : Int32) (h : g_Hp) (H : wX1_countAcceptances_b4_B ti Q R4 x1 x2 h) : g_V G X iX1_countAcceptances 0 0 Q 4 0 0 [(0, vR 1 ti 0), (1, vI x1), (2, vI x2)] [] h := by
  refine s_iload_n (pc := 4) C dX1_countAcceptances_4 rfl 2 rfl ?_
  refine s_aload_n (pc := 5) C dX1_countAcceptances_5 rfl 0 rfl ?_
  refine s_geti (pc := 6) (s := 1) ckX1 (Or.inl rfl) (by decide) kw_168 (fun _ => rfl) C dX1_countAcceptances_6 ?_
  refine s_icmp_ge (pc := 9) (tgt := 33) C dX1_countAcceptances_9 (by decide) (fun c => ?_) (fun c => ?_)
  · have H := H.1 c
    refine s_iload_n (pc := 33) C dX1_countAcceptances_33 rfl 1 rfl ?_
    exact s_iret (pc := 34) rfl rfl ⟨by decide, by decide⟩ H C dX1_countAcceptances_34
  · have H := H.2 c
    refine s_aload_n (pc := 12) C dX1_countAcceptances_12 rfl 0 rfl ?_
    refine s_getr (pc := 13) (s := 0) (a := 11) (b := ti) (c' := 0) ckX1 (by decide) kw_166 rfl C dX1_countAcceptances_13 ?_
    refine s_iload_n (pc := 16) C dX1_countAcceptances_16 rfl 2 rfl ?_
    refine s_aald (pc := 17) (kk := 11) (by decide) (by decide) H.1 C dX1_countAcceptances_17 ?_
    have H := H.2
    show g_V _ _ _ _ _ _ _ _ _ _ (vR 2 ti (x2.toNatClampNeg) :: _) _
    refine s_nmj (fun j1 ej1 => ?_)
    have H := H j1 ej1
    refine s_geti (pc := 18) (s := 8) ckX6 (Or.inl rfl) (by decide) kw_137 (fun _ => rfl) C dX1_countAcceptances_18 ?_
    refine s_if_eq (pc := 21) (tgt := 27) C dX1_countAcceptances_21 (by decide) (fun c => ?_) (fun c => ?_)
    · have H := H.1 c
      exact s_sub (ls' := [(0, vR 1 ti 0), (1, vI x1), (2, vI x2)]) [0, 1, 2] rfl (vX1_countAcceptances_b27 C ti R4 hR4 x1 x2 h H)
    · have H := H.2 c
      refine s_iincN (pc := 24) C dX1_countAcceptances_24 1 rfl (z' := (1 : Int32)) (by decide) (by decide) (fun y2 ey2 => ?_)
      have H := H y2 ey2
      show g_V _ _ _ _ _ _ _ _ _ [(1, vI y2), (0, vR 1 ti 0), (2, vI x2)] _ _
      exact s_sub (ls' := [(0, vR 1 ti 0), (1, vI y2), (2, vI x2)]) [1, 0, 2] rfl (vX1_countAcceptances_b27 C ti R4 hR4 y2 x2 h H)
theorem vX1_countAcceptances_b4 {G : g_G} {X : g_X} {Q : g_R → g_Hp → Prop} (C : g_Cx y_ G X iX1_countAcceptances) (ti : Nat) (x1 : Int32) (x2 : Int32) (h : g_Hp) (H : wX1_countAcceptances_b4 ti Q x1 x2 h) : g_V G X iX1_countAcceptances 0 0 Q 4 0 0 [(0, vR 1 ti 0), (1, vI x1), (2, vI x2)] [] h := by
  obtain ⟨n, H⟩ := H
  induction n generalizing x1 x2 h with
  | zero => exact H.elim
  | succ n ih => exact vX1_countAcceptances_b4_B C ti _ (fun x1 x2 h H => ih x1 x2 h H) x1 x2 h H
set_option maxRecDepth 100000 in
set_option maxHeartbeats 4000000 in
theorem vX1_countAcceptances {G : g_G} {X : g_X} {Q : g_R → g_Hp → Prop} (C : g_Cx y_ G X iX1_countAcceptances) (ti : Nat) (h : g_Hp) (H : wX1_countAcceptances ti h Q) : g_V G X iX1_countAcceptances 0 0 Q 0 0 0 [(0, vR 1 ti 0)] [] h := by
  refine s_iconst (pc := 0) C dX1_countAcceptances_0 (x := (0 : Int32)) (by decide) ?_
  refine s_istore_n (pc := 1) (ls' := [(1, vI (0 : Int32)), (0, vR 1 ti 0)]) C dX1_countAcceptances_1 rfl (by decide) rfl ?_
  refine s_iconst (pc := 2) C dX1_countAcceptances_2 (x := (0 : Int32)) (by decide) ?_
  refine s_istore_n (pc := 3) (ls' := [(2, vI (0 : Int32)), (1, vI (0 : Int32)), (0, vR 1 ti 0)]) C dX1_countAcceptances_3 rfl (by decide) rfl ?_
  exact s_sub (ls' := [(0, vR 1 ti 0), (1, vI (0 : Int32)), (2, vI (0 : Int32))]) [2, 1, 0] rfl (vX1_countAcceptances_b4 C ti (0 : Int32) (0 : Int32) h H)
theorem ctX1_countAcceptances (l : Launch) (hl : l.stackTraces = false) {G : g_G} (ti : Nat) (h : g_Hp) (Q : g_R → g_Hp → Prop) (H : wX1_countAcceptances ti h Q) : g_Met l y_ G iX1_countAcceptances [vR 1 ti 0] h Q :=
  g_Met_of hl (by decide +kernel) rfl rfl (Nat.le_of_ble_eq_true rfl) (fun X C => vX1_countAcceptances C ti h H)
/-! X1_offer -/
abbrev iX1_offer : g_I := (RX1, yX1_offer, cX1_offer, 4, (some .int), [], { frames := 2, cells := 0, slots := 0, locals := 42 })
set_option maxRecDepth 100000 in
set_option maxHeartbeats 4000000 in
theorem vX1_offer_b7_B {G : g_G} {X : g_X} {Q : g_R → g_Hp → Prop} (C : g_Cx y_ G X iX1_offer) (ti : Nat) (R7 : Int32 → Int32 → Int32 → g_Hp → Prop) (hR7 : ∀ (x1 : Int32) (x2 : Int32) (x3 : Int32) (h : g_Hp), R7 x1 x2 x3 h → g_V G X iX1_offer 0 0 Q 7 0 0 [(0, vR 1 ti 0), (1, vI x1), (2, vI x2), (3, vI x3)] [] h) (x1 : Int32) (x2 : Int32) (x3 : Int32) (h : g_Hp) (H : wX1_offer_b7_B ti Q R7 x1 x2 x3 h) : g_V G X iX1_offer 0 0 Q 7 0 0 [(0, vR 1 ti 0), (1, vI x1), (2, vI x2), (3, vI x3)] [] h := by
  refine s_iload_n (pc := 7) C dX1_offer_7 rfl 3 rfl ?_
  refine s_aload_n (pc := 8) C dX1_offer_8 rfl 0 rfl ?_
  refine s_geti (pc := 9) (s := 1) ckX1 (Or.inl rfl) (by decide) kw_168 (fun _ => rfl) C dX1_offer_9 ?_
  refine s_icmp_ge (pc := 12) (tgt := 31) C dX1_offer_12 (by decide) (fun c => ?_) (fun c => ?_)
  · have H := H.1 c
    refine s_aload_n (pc := 31) C dX1_offer_31 rfl 0 rfl ?_
    refine s_iload_n (pc := 32) C dX1_offer_32 rfl 1 rfl ?_
    refine s_puti (pc := 33) (s := 10) ckX1 (Or.inl rfl) (by decide) kw_185 (fun _ => rfl) rfl rfl rfl C dX1_offer_33 ?_
    refine s_name (fun h1 eh1 => ?_)
    have H := H h1 eh1
    refine s_iload_n (pc := 36) C dX1_offer_36 rfl 2 rfl ?_
    exact s_iret (pc := 37) rfl rfl ⟨by decide, by decide⟩ H C dX1_offer_37
  · have H := H.2 c
    refine s_aload_n (pc := 15) C dX1_offer_15 rfl 0 rfl ?_
    refine s_getr (pc := 16) (s := 0) (a := 11) (b := ti) (c' := 0) ckX1 (by decide) kw_166 rfl C dX1_offer_16 ?_
    refine s_iload_n (pc := 19) C dX1_offer_19 rfl 3 rfl ?_
    refine s_aald (pc := 20) (kk := 11) (by decide) (by decide) H.1 C dX1_offer_20 ?_
    have H := H.2
    show g_V _ _ _ _ _ _ _ _ _ _ (vR 2 ti (x3.toNatClampNeg) :: _) _
    refine s_nmj (fun j2 ej2 => ?_)
    have H := H j2 ej2
    refine s_iconst (pc := 21) C dX1_offer_21 (x := (0 : Int32)) (by decide) ?_
    refine s_puti (pc := 22) (s := 8) ckX6 (Or.inl rfl) (by decide) kw_137 (fun _ => rfl) rfl (by decide) (by decide) C dX1_offer_22 ?_
    refine s_name (fun h3 eh3 => ?_)
    have H := H h3 eh3
    refine s_iincN (pc := 25) C dX1_offer_25 3 rfl (z' := (1 : Int32)) (by decide) (by decide) (fun y4 ey4 => ?_)
    have H := H y4 ey4
    show g_V _ _ _ _ _ _ _ _ _ [(3, vI y4), (0, vR 1 ti 0), (1, vI x1), (2, vI x2)] _ _
    refine s_goto (pc := 28) (tgt := 7) C dX1_offer_28 (by decide) ?_
    exact s_sub (ls' := [(0, vR 1 ti 0), (1, vI x1), (2, vI x2), (3, vI y4)]) [1, 2, 3, 0] rfl (hR7 x1 x2 y4 h3 H)
theorem vX1_offer_b7 {G : g_G} {X : g_X} {Q : g_R → g_Hp → Prop} (C : g_Cx y_ G X iX1_offer) (ti : Nat) (x1 : Int32) (x2 : Int32) (x3 : Int32) (h : g_Hp) (H : wX1_offer_b7 ti Q x1 x2 x3 h) : g_V G X iX1_offer 0 0 Q 7 0 0 [(0, vR 1 ti 0), (1, vI x1), (2, vI x2), (3, vI x3)] [] h := by
  obtain ⟨n, H⟩ := H
  induction n generalizing x1 x2 x3 h with
  | zero => exact H.elim
  | succ n ih => exact vX1_offer_b7_B C ti _ (fun x1 x2 x3 h H => ih x1 x2 x3 h H) x1 x2 x3 h H
set_option maxRecDepth 100000 in
set_option maxHeartbeats 4000000 in
theorem vX1_offer {G : g_G} {X : g_X} {Q : g_R → g_Hp → Prop} (C : g_Cx y_ G X iX1_offer) (ti : Nat) (p0 : Int32) (h : g_Hp) (H : wX1_offer ti p0 h Q) : g_V G X iX1_offer 0 0 Q 0 0 0 [(0, vR 1 ti 0), (1, vI p0)] [] h := by
  refine s_aload_n (pc := 0) C dX1_offer_0 rfl 0 rfl ?_
  refine s_callv (pc := 1) (nA := 0) (as := []) (st := []) (stk := [vR 1 ti 0]) ckX1 (Or.inl rfl) C (fun l hl => ctX1_countAcceptances l hl ti _ _ H) ⟨⟨kw_986, kw_59, kw_989⟩, rfl, ⟨by decide, by decide, by decide +kernel⟩, by decide, by decide⟩ kw_987 (g_selW kw_988) rfl (Nat.le_of_ble_eq_true rfl) ⟨by decide, by decide⟩ rfl dX1_offer_1 (g_Kq_I (fun u2 h1 H => ?_) (fun E h1 H => s_prop rfl ⟨by decide, by decide⟩ H C))
  refine s_istore_n (pc := 4) (ls' := [(2, vI u2), (0, vR 1 ti 0), (1, vI p0)]) C dX1_offer_4 rfl (by decide) rfl ?_
  refine s_iconst (pc := 5) C dX1_offer_5 (x := (0 : Int32)) (by decide) ?_
  refine s_istore_n (pc := 6) (ls' := [(3, vI (0 : Int32)), (2, vI u2), (0, vR 1 ti 0), (1, vI p0)]) C dX1_offer_6 rfl (by decide) rfl ?_
  exact s_sub (ls' := [(0, vR 1 ti 0), (1, vI p0), (2, vI u2), (3, vI (0 : Int32))]) [2, 3, 1, 0] rfl (vX1_offer_b7 C ti p0 u2 (0 : Int32) h1 H)
theorem ctX1_offer (l : Launch) (hl : l.stackTraces = false) {G : g_G} (ti : Nat) (p0 : Int32) (h : g_Hp) (Q : g_R → g_Hp → Prop) (H : wX1_offer ti p0 h Q) : g_Met l y_ G iX1_offer [vR 1 ti 0, vI p0] h Q :=
  g_Met_of hl (by decide +kernel) rfl rfl (Nat.le_of_ble_eq_true rfl) (fun X C => vX1_offer C ti p0 h H)
/-! X1_faultOfAccepting -/
abbrev iX1_faultOfAccepting : g_I := (RX1, yX1_faultOfAccepting, cX1_faultOfAccepting, 2, (some (.object "VaneUnion$Fault")), [], { frames := 2, cells := 0, slots := 0, locals := 41 })
set_option maxRecDepth 100000 in
set_option maxHeartbeats 4000000 in
theorem vX1_faultOfAccepting_b44 {G : g_G} {X : g_X} {Q : g_R → g_Hp → Prop} (C : g_Cx y_ G X iX1_faultOfAccepting) (ti : Nat) (z0i : Nat) (h : g_Hp) (H : wX1_faultOfAccepting_b44 ti Q z0i h) : g_V G X iX1_faultOfAccepting 0 0 Q 44 0 0 [] [vR 20 z0i 0] h := by
  exact s_aret (pc := 44) rfl (Or.inl ⟨_, rfl⟩) ⟨by decide, by decide⟩ H C dX1_faultOfAccepting_44
set_option maxRecDepth 100000 in
set_option maxHeartbeats 4000000 in
theorem vX1_faultOfAccepting {G : g_G} {X : g_X} {Q : g_R → g_Hp → Prop} (C : g_Cx y_ G X iX1_faultOfAccepting) (ti : Nat) (p0 : Int32) (h : g_Hp) (H : wX1_faultOfAccepting ti p0 h Q) : g_V G X iX1_faultOfAccepting 0 0 Q 0 0 0 [(0, vR 1 ti 0), (1, vI p0)] [] h := by
  refine s_aload_n (pc := 0) C dX1_faultOfAccepting_0 rfl 0 rfl ?_
  refine s_iload_n (pc := 1) C dX1_faultOfAccepting_1 rfl 1 rfl ?_
  refine s_callv (pc := 2) (nA := 1) (as := [vI p0]) (st := []) (stk := [vI p0, vR 1 ti 0]) ckX1 (Or.inl rfl) C (fun l hl => ctX1_isMember l hl ti p0 _ _ H) ⟨⟨kw_848, kw_59, kw_414⟩, rfl, ⟨by decide, by decide, by decide +kernel⟩, by decide, by decide⟩ kw_412 (g_selW kw_413) rfl (Nat.le_of_ble_eq_true rfl) ⟨by decide, by decide⟩ rfl dX1_faultOfAccepting_2 (g_Kq_I (fun u2 h1 H => ?_) (fun E h1 H => s_prop rfl ⟨by decide, by decide⟩ H C))
  refine s_if_ne (pc := 5) (tgt := 12) C dX1_faultOfAccepting_5 (by decide) (fun c => ?_) (fun c => ?_)
  · have H := H.1 c
    refine s_aload_n (pc := 12) C dX1_faultOfAccepting_12 rfl 0 rfl ?_
    refine s_geti (pc := 13) (s := 10) ckX1 (Or.inl rfl) (by decide) kw_185 (fun _ => rfl) C dX1_faultOfAccepting_13 ?_
    refine s_if_ne (pc := 16) (tgt := 23) C dX1_faultOfAccepting_16 (by decide) (fun c => ?_) (fun c => ?_)
    · have H := H.1 c
      refine s_aload_n (pc := 23) C dX1_faultOfAccepting_23 rfl 0 rfl ?_
      refine s_getr (pc := 24) (s := 0) (a := 11) (b := ti) (c' := 0) ckX1 (by decide) kw_166 rfl C dX1_faultOfAccepting_24 ?_
      refine s_iload_n (pc := 27) C dX1_faultOfAccepting_27 rfl 1 rfl ?_
      refine s_aald (pc := 28) (kk := 11) (by decide) (by decide) H.1 C dX1_faultOfAccepting_28 ?_
      have H := H.2
      show g_V _ _ _ _ _ _ _ _ _ _ (vR 2 ti (p0.toNatClampNeg) :: _) _
      refine s_nmj (fun j3 ej3 => ?_)
      have H := H j3 ej3
      refine s_geti (pc := 29) (s := 8) ckX6 (Or.inl rfl) (by decide) kw_137 (fun _ => rfl) C dX1_faultOfAccepting_29 ?_
      refine s_if_eq (pc := 32) (tgt := 41) C dX1_faultOfAccepting_32 (by decide) (fun c => ?_) (fun c => ?_)
      · have H := H.1 c
        refine s_gets (pc := 41) zs_NOTHING (g_cst_R rfl) kw_593 C dX1_faultOfAccepting_41 ?_
        exact s_sub (ls' := []) [] rfl (vX1_faultOfAccepting_b44 C ti 0 h1 H)
      · have H := H.2 c
        refine s_gets (pc := 35) zs_BAD_STATE (g_cst_R rfl) kw_591 C dX1_faultOfAccepting_35 ?_
        refine s_goto (pc := 38) (tgt := 44) C dX1_faultOfAccepting_38 (by decide) ?_
        exact s_sub (ls' := []) [] rfl (vX1_faultOfAccepting_b44 C ti 3 h1 H)
    · have H := H.2 c
      refine s_gets (pc := 19) zs_NO_ELEMENT (g_cst_R rfl) kw_937 C dX1_faultOfAccepting_19 ?_
      exact s_aret (pc := 22) rfl (Or.inl ⟨_, rfl⟩) ⟨by decide, by decide⟩ H C dX1_faultOfAccepting_22
  · have H := H.2 c
    refine s_gets (pc := 8) zs_NO_INDEX (g_cst_R rfl) kw_587 C dX1_faultOfAccepting_8 ?_
    exact s_aret (pc := 11) rfl (Or.inl ⟨_, rfl⟩) ⟨by decide, by decide⟩ H C dX1_faultOfAccepting_11
theorem ctX1_faultOfAccepting (l : Launch) (hl : l.stackTraces = false) {G : g_G} (ti : Nat) (p0 : Int32) (h : g_Hp) (Q : g_R → g_Hp → Prop) (H : wX1_faultOfAccepting ti p0 h Q) : g_Met l y_ G iX1_faultOfAccepting [vR 1 ti 0, vI p0] h Q :=
  g_Met_of hl (by decide +kernel) rfl rfl (Nat.le_of_ble_eq_true rfl) (fun X C => vX1_faultOfAccepting C ti p0 h H)
/-! X7_raisedRate -/
abbrev iX7_raisedRate : g_I := (RX7, yX7_raisedRate, cX7_raisedRate, 3, (some .int), [], { frames := 2, cells := 0, slots := 0, locals := 41 })
set_option maxRecDepth 100000 in
set_option maxHeartbeats 4000000 in
theorem vX7_raisedRate {G : g_G} {X : g_X} {Q : g_R → g_Hp → Prop} (C : g_Cx y_ G X iX7_raisedRate) (p0 : Int32) (p1 : Int32) (h : g_Hp) (H : wX7_raisedRate p0 p1 h Q) : g_V G X iX7_raisedRate 0 0 Q 0 0 0 [(0, vI p0), (1, vI p1)] [] h := by
  refine s_iload_n (pc := 0) C dX7_raisedRate_0 rfl 0 rfl ?_
  refine s_bipush (pc := 1) C dX7_raisedRate_1 (x := (100 : Int32)) (by decide) ?_
  refine s_iload_n (pc := 3) C dX7_raisedRate_3 rfl 1 rfl ?_
  refine s_iadd (pc := 4) C dX7_raisedRate_4 ?_
  refine s_imul (pc := 5) C dX7_raisedRate_5 ?_
  refine s_bipush (pc := 6) C dX7_raisedRate_6 (x := (99 : Int32)) (by decide) ?_
  refine s_iadd (pc := 8) C dX7_raisedRate_8 ?_
  refine s_bipush (pc := 9) C dX7_raisedRate_9 (x := (100 : Int32)) (by decide) ?_
  refine s_idiv (pc := 11) C dX7_raisedRate_11 H.1 ?_
  have H := H.2
  refine s_namei (fun y1 ey1 => ?_)
  have H := H y1 ey1
  refine s_istore_n (pc := 12) (ls' := [(2, vI y1), (0, vI p0), (1, vI p1)]) C dX7_raisedRate_12 rfl (by decide) rfl ?_
  refine s_iload_n (pc := 13) C dX7_raisedRate_13 rfl 0 rfl ?_
  refine s_bipush (pc := 14) C dX7_raisedRate_14 (x := (99 : Int32)) (by decide) ?_
  refine s_calls (pc := 16) (nA := 2) (as := [vI y1, vI (99 : Int32)]) (st := []) (stk := [vI (99 : Int32), vI y1]) C (fun l hl => ctJ9_min_7cf53 l hl y1 (99 : Int32) _ _ H) ⟨⟨kw_490, kw_81, kw_492⟩, rfl, ⟨by decide, by decide, by decide +kernel⟩, by decide, by decide⟩ kw_491 rfl (Nat.le_of_ble_eq_true rfl) ⟨by decide, by decide⟩ rfl dX7_raisedRate_16 (g_Kq_I (fun u3 h2 H => ?_) (fun E h2 H => s_prop rfl ⟨by decide, by decide⟩ H C))
  exact s_iret (pc := 19) rfl rfl ⟨by decide, by decide⟩ H C dX7_raisedRate_19
theorem ctX7_raisedRate (l : Launch) (hl : l.stackTraces = false) {G : g_G} (p0 : Int32) (p1 : Int32) (h : g_Hp) (Q : g_R → g_Hp → Prop) (H : wX7_raisedRate p0 p1 h Q) : g_Met l y_ G iX7_raisedRate [vI p0, vI p1] h Q :=
  g_Met_of hl (by decide +kernel) rfl rfl (Nat.le_of_ble_eq_true rfl) (fun X C => vX7_raisedRate C p0 p1 h H)
/-! X1_settle -/
abbrev iX1_settle : g_I := (RX1, yX1_settle, cX1_settle, 3, none, [], { frames := 3, cells := 0, slots := 0, locals := 63 })
set_option maxRecDepth 100000 in
set_option maxHeartbeats 4000000 in
theorem vX1_settle_b2_B {G : g_G} {X : g_X} {Q : g_R → g_Hp → Prop} (C : g_Cx y_ G X iX1_settle) (ti : Nat) (R2 : Int32 → g_Hp → Prop) (hR2 : ∀ (x1 : Int32) (h : g_Hp), R2 x1 h → g_V G X iX1_settle 0 0 Q 2 0 0 [(0, vR 1 ti 0), (1, vI x1)] [] h) (x1 : Int32) (h : g_Hp) (H : wX1_settle_b2_B ti Q R2 x1 h) : g_V G X iX1_settle 0 0 Q 2 0 0 [(0, vR 1 ti 0), (1, vI x1)] [] h := by
  refine s_iload_n (pc := 2) C dX1_settle_2 rfl 1 rfl ?_
  refine s_aload_n (pc := 3) C dX1_settle_3 rfl 0 rfl ?_
  refine s_geti (pc := 4) (s := 1) ckX1 (Or.inl rfl) (by decide) kw_168 (fun _ => rfl) C dX1_settle_4 ?_
  refine s_icmp_ge (pc := 7) (tgt := 48) C dX1_settle_7 (by decide) (fun c => ?_) (fun c => ?_)
  · have H := H.1 c
    refine s_aload_n (pc := 48) C dX1_settle_48 rfl 0 rfl ?_
    refine s_iconst (pc := 49) C dX1_settle_49 (x := (0 : Int32)) (by decide) ?_
    refine s_puti (pc := 50) (s := 10) ckX1 (Or.inl rfl) (by decide) kw_185 (fun _ => rfl) rfl rfl rfl C dX1_settle_50 ?_
    refine s_name (fun h1 eh1 => ?_)
    have H := H h1 eh1
    refine s_aload_n (pc := 53) C dX1_settle_53 rfl 0 rfl ?_
    refine s_iconst (pc := 54) C dX1_settle_54 (x := (0 : Int32)) (by decide) ?_
    refine s_puti (pc := 55) (s := 6) ckX1 (Or.inl rfl) (by decide) kw_178 (fun _ => rfl) rfl (by decide) (by decide) C dX1_settle_55 ?_
    refine s_name (fun h2 eh2 => ?_)
    have H := H h2 eh2
    refine s_aload_n (pc := 58) C dX1_settle_58 rfl 0 rfl ?_
    refine s_dup (pc := 59) C dX1_settle_59 rfl ?_
    refine s_geti (pc := 60) (s := 11) ckX1 (Or.inl rfl) (by decide) kw_187 (fun _ => rfl) C dX1_settle_60 ?_
    refine s_iconst (pc := 63) C dX1_settle_63 (x := (1 : Int32)) (by decide) ?_
    refine s_iadd (pc := 64) C dX1_settle_64 ?_
    refine s_puti (pc := 65) (s := 11) ckX1 (Or.inl rfl) (by decide) kw_187 (fun _ => rfl) rfl rfl rfl C dX1_settle_65 ?_
    refine s_name (fun h3 eh3 => ?_)
    have H := H h3 eh3
    exact s_vret (pc := 68) rfl ⟨by decide, by decide⟩ H C dX1_settle_68
  · have H := H.2 c
    refine s_aload_n (pc := 10) C dX1_settle_10 rfl 0 rfl ?_
    refine s_getr (pc := 11) (s := 0) (a := 11) (b := ti) (c' := 0) ckX1 (by decide) kw_166 rfl C dX1_settle_11 ?_
    refine s_iload_n (pc := 14) C dX1_settle_14 rfl 1 rfl ?_
    refine s_aald (pc := 15) (kk := 11) (by decide) (by decide) H.1 C dX1_settle_15 ?_
    have H := H.2
    show g_V _ _ _ _ _ _ _ _ _ _ (vR 2 ti (x1.toNatClampNeg) :: _) _
    refine s_nmj (fun j4 ej4 => ?_)
    have H := H j4 ej4
    refine s_astore_n (pc := 16) (ls' := [(2, vR 2 ti j4), (0, vR 1 ti 0), (1, vI x1)]) C dX1_settle_16 rfl (by decide) rfl ?_
    refine s_aload_n (pc := 17) C dX1_settle_17 rfl 0 rfl ?_
    refine s_aload_n (pc := 18) C dX1_settle_18 rfl 0 rfl ?_
    refine s_geti (pc := 19) (s := 1) ckX6 (Or.inl rfl) (by decide) kw_117 (fun _ => rfl) C dX1_settle_19 ?_
    refine s_aload_n (pc := 22) C dX1_settle_22 rfl 1 rfl ?_
    refine s_geti (pc := 23) (s := 10) ckX1 (Or.inl rfl) (by decide) kw_185 (fun _ => rfl) C dX1_settle_23 ?_
    refine s_calln (pc := 26) (nA := 2) (as := [vI (h 2 ti j4 2), vI (h 1 ti 0 11)]) (st := [vR 2 ti j4]) (stk := [vI (h 1 ti 0 11), vI (h 2 ti j4 2), vR 2 ti j4]) ns_RX1_151 C (fun l hl => ctX7_raisedRate l hl (h 2 ti j4 2) (h 1 ti 0 11) _ _ H) ⟨kw_58, kw_1011, kw_1010⟩ rfl ⟨by decide, by decide, by decide +kernel⟩ ⟨by decide, by decide⟩ rfl (Nat.le_of_ble_eq_true rfl) ⟨by decide, by decide⟩ rfl dX1_settle_26 (g_Kq_I (fun u6 h5 H => ?_) (fun E h5 H => s_prop rfl ⟨by decide, by decide⟩ H C))
    refine s_puti (pc := 29) (s := 1) ckX6 (Or.inl rfl) (by decide) kw_117 (fun _ => rfl) rfl rfl rfl C dX1_settle_29 ?_
    refine s_name (fun h7 eh7 => ?_)
    have H := H h7 eh7
    refine s_aload_n (pc := 32) C dX1_settle_32 rfl 0 rfl ?_
    refine s_iconst (pc := 33) C dX1_settle_33 (x := (0 : Int32)) (by decide) ?_
    refine s_puti (pc := 34) (s := 8) ckX6 (Or.inl rfl) (by decide) kw_137 (fun _ => rfl) rfl (by decide) (by decide) C dX1_settle_34 ?_
    refine s_name (fun h8 eh8 => ?_)
    have H := H h8 eh8
    refine s_aload_n (pc := 37) C dX1_settle_37 rfl 0 rfl ?_
    refine s_iconst (pc := 38) C dX1_settle_38 (x := (-1 : Int32)) (by decide) ?_
    refine s_puti (pc := 39) (s := 9) ckX6 (Or.inl rfl) (by decide) kw_139 (fun _ => rfl) rfl rfl rfl C dX1_settle_39 ?_
    refine s_name (fun h9 eh9 => ?_)
    have H := H h9 eh9
    refine s_iincN (pc := 42) C dX1_settle_42 2 rfl (z' := (1 : Int32)) (by decide) (by decide) (fun y10 ey10 => ?_)
    have H := H y10 ey10
    show g_V _ _ _ _ _ _ _ _ _ [(1, vI y10), (2, vR 2 ti j4), (0, vR 1 ti 0)] _ _
    refine s_goto (pc := 45) (tgt := 2) C dX1_settle_45 (by decide) ?_
    exact s_sub (ls' := [(0, vR 1 ti 0), (1, vI y10)]) [2, 0] rfl (hR2 y10 h9 H)
theorem vX1_settle_b2 {G : g_G} {X : g_X} {Q : g_R → g_Hp → Prop} (C : g_Cx y_ G X iX1_settle) (ti : Nat) (x1 : Int32) (h : g_Hp) (H : wX1_settle_b2 ti Q x1 h) : g_V G X iX1_settle 0 0 Q 2 0 0 [(0, vR 1 ti 0), (1, vI x1)] [] h := by
  obtain ⟨n, H⟩ := H
  induction n generalizing x1 h with
  | zero => exact H.elim
  | succ n ih => exact vX1_settle_b2_B C ti _ (fun x1 h H => ih x1 h H) x1 h H
set_option maxRecDepth 100000 in
set_option maxHeartbeats 4000000 in
theorem vX1_settle {G : g_G} {X : g_X} {Q : g_R → g_Hp → Prop} (C : g_Cx y_ G X iX1_settle) (ti : Nat) (h : g_Hp) (H : wX1_settle ti h Q) : g_V G X iX1_settle 0 0 Q 0 0 0 [(0, vR 1 ti 0)] [] h := by
  refine s_iconst (pc := 0) C dX1_settle_0 (x := (0 : Int32)) (by decide) ?_
  refine s_istore_n (pc := 1) (ls' := [(1, vI (0 : Int32)), (0, vR 1 ti 0)]) C dX1_settle_1 rfl (by decide) rfl ?_
  exact s_sub (ls' := [(0, vR 1 ti 0), (1, vI (0 : Int32))]) [1, 0] rfl (vX1_settle_b2 C ti (0 : Int32) h H)
theorem ctX1_settle (l : Launch) (hl : l.stackTraces = false) {G : g_G} (ti : Nat) (h : g_Hp) (Q : g_R → g_Hp → Prop) (H : wX1_settle ti h Q) : g_Met l y_ G iX1_settle [vR 1 ti 0] h Q :=
  g_Met_of hl (by decide +kernel) rfl rfl (Nat.le_of_ble_eq_true rfl) (fun X C => vX1_settle C ti h H)
/-! X1_takeAcceptance -/
abbrev iX1_takeAcceptance : g_I := (RX1, yX1_takeAcceptance, cX1_takeAcceptance, 3, (some .boolean), [], { frames := 4, cells := 0, slots := 0, locals := 85 })
set_option maxRecDepth 100000 in
set_option maxHeartbeats 4000000 in
theorem vX1_takeAcceptance_b37 {G : g_G} {X : g_X} {Q : g_R → g_Hp → Prop} (C : g_Cx y_ G X iX1_takeAcceptance) (ti : Nat) (x2 : Int32) (h : g_Hp) (H : wX1_takeAcceptance_b37 ti Q x2 h) : g_V G X iX1_takeAcceptance 0 0 Q 37 0 0 [(2, vI x2)] [] h := by
  refine s_iload_n (pc := 37) C dX1_takeAcceptance_37 rfl 0 rfl ?_
  exact s_iret (pc := 38) rfl (g_nz H.1) ⟨by decide, by decide⟩ H.2 C dX1_takeAcceptance_38
set_option maxRecDepth 100000 in
set_option maxHeartbeats 4000000 in
theorem vX1_takeAcceptance_b28 {G : g_G} {X : g_X} {Q : g_R → g_Hp → Prop} (C : g_Cx y_ G X iX1_takeAcceptance) (ti : Nat) (z0 : Int32) (h : g_Hp) (H : wX1_takeAcceptance_b28 ti Q z0 h) : g_V G X iX1_takeAcceptance 0 0 Q 28 0 0 [(0, vR 1 ti 0)] [vI z0] h := by
  refine s_istore_n (pc := 28) (ls' := [(2, vI z0), (0, vR 1 ti 0)]) C dX1_takeAcceptance_28 rfl (by decide) rfl ?_
  refine s_iload_n (pc := 29) C dX1_takeAcceptance_29 rfl 0 rfl ?_
  refine s_if_eq (pc := 30) (tgt := 37) C dX1_takeAcceptance_30 (by decide) (fun c => ?_) (fun c => ?_)
  · have H := H.1 c
    exact s_sub (ls' := [(2, vI z0)]) [0] rfl (vX1_takeAcceptance_b37 C ti z0 h H)
  · have H := H.2 c
    refine s_aload_n (pc := 33) C dX1_takeAcceptance_33 rfl 1 rfl ?_
    refine s_callv (pc := 34) (nA := 0) (as := []) (st := []) (stk := [vR 1 ti 0]) ckX1 (Or.inl rfl) C (fun l hl => ctX1_settle l hl ti _ _ H) ⟨⟨kw_1005, kw_59, kw_1008⟩, rfl, ⟨by decide, by decide, by decide +kernel⟩, by decide, by decide⟩ kw_1007 (g_selW kw_9) rfl (Nat.le_of_ble_eq_true rfl) ⟨by decide, by decide⟩ rfl dX1_takeAcceptance_34 (g_Kq_V (fun h1 H => ?_) (fun E h1 H => s_prop rfl ⟨by decide, by decide⟩ H C))
    exact s_sub (ls' := [(2, vI z0)]) [0] rfl (vX1_takeAcceptance_b37 C ti z0 h1 H)
set_option maxRecDepth 100000 in
set_option maxHeartbeats 4000000 in
theorem vX1_takeAcceptance {G : g_G} {X : g_X} {Q : g_R → g_Hp → Prop} (C : g_Cx y_ G X iX1_takeAcceptance) (ti : Nat) (p0 : Int32) (h : g_Hp) (H : wX1_takeAcceptance ti p0 h Q) : g_V G X iX1_takeAcceptance 0 0 Q 0 0 0 [(0, vR 1 ti 0), (1, vI p0)] [] h := by
  refine s_aload_n (pc := 0) C dX1_takeAcceptance_0 rfl 0 rfl ?_
  refine s_getr (pc := 1) (s := 0) (a := 11) (b := ti) (c' := 0) ckX1 (by decide) kw_166 rfl C dX1_takeAcceptance_1 ?_
  refine s_iload_n (pc := 4) C dX1_takeAcceptance_4 rfl 1 rfl ?_
  refine s_aald (pc := 5) (kk := 11) (by decide) (by decide) H.1 C dX1_takeAcceptance_5 ?_
  have H := H.2
  show g_V _ _ _ _ _ _ _ _ _ _ (vR 2 ti (p0.toNatClampNeg) :: _) _
  refine s_nmj (fun j1 ej1 => ?_)
  have H := H j1 ej1
  refine s_iconst (pc := 6) C dX1_takeAcceptance_6 (x := (1 : Int32)) (by decide) ?_
  refine s_puti (pc := 7) (s := 8) ckX6 (Or.inl rfl) (by decide) kw_137 (fun _ => rfl) rfl (by decide) (by decide) C dX1_takeAcceptance_7 ?_
  refine s_name (fun h2 eh2 => ?_)
  have H := H h2 eh2
  refine s_iconst (pc := 10) C dX1_takeAcceptance_10 (x := (2 : Int32)) (by decide) ?_
  refine s_aload_n (pc := 11) C dX1_takeAcceptance_11 rfl 0 rfl ?_
  refine s_callv (pc := 12) (nA := 0) (as := []) (st := [vI (2 : Int32)]) (stk := [vR 1 ti 0, vI (2 : Int32)]) ckX1 (Or.inl rfl) C (fun l hl => ctX1_countAcceptances l hl ti _ _ H) ⟨⟨kw_986, kw_59, kw_989⟩, rfl, ⟨by decide, by decide, by decide +kernel⟩, by decide, by decide⟩ kw_987 (g_selW kw_988) rfl (Nat.le_of_ble_eq_true rfl) ⟨by decide, by decide⟩ rfl dX1_takeAcceptance_12 (g_Kq_I (fun u4 h3 H => ?_) (fun E h3 H => s_prop rfl ⟨by decide, by decide⟩ H C))
  refine s_imul (pc := 15) C dX1_takeAcceptance_15 ?_
  refine s_aload_n (pc := 16) C dX1_takeAcceptance_16 rfl 0 rfl ?_
  refine s_geti (pc := 17) (s := 1) ckX1 (Or.inl rfl) (by decide) kw_168 (fun _ => rfl) C dX1_takeAcceptance_17 ?_
  refine s_icmp_le (pc := 20) (tgt := 27) C dX1_takeAcceptance_20 (by decide) (fun c => ?_) (fun c => ?_)
  · have H := H.1 c
    refine s_iconst (pc := 27) C dX1_takeAcceptance_27 (x := (0 : Int32)) (by decide) ?_
    exact s_sub (ls' := [(0, vR 1 ti 0)]) [0] rfl (vX1_takeAcceptance_b28 C ti (0 : Int32) h3 H)
  · have H := H.2 c
    refine s_iconst (pc := 23) C dX1_takeAcceptance_23 (x := (1 : Int32)) (by decide) ?_
    refine s_goto (pc := 24) (tgt := 28) C dX1_takeAcceptance_24 (by decide) ?_
    exact s_sub (ls' := [(0, vR 1 ti 0)]) [0] rfl (vX1_takeAcceptance_b28 C ti (1 : Int32) h3 H)
theorem ctX1_takeAcceptance (l : Launch) (hl : l.stackTraces = false) {G : g_G} (ti : Nat) (p0 : Int32) (h : g_Hp) (Q : g_R → g_Hp → Prop) (H : wX1_takeAcceptance ti p0 h Q) : g_Met l y_ G iX1_takeAcceptance [vR 1 ti 0, vI p0] h Q :=
  g_Met_of hl (by decide +kernel) rfl rfl (Nat.le_of_ble_eq_true rfl) (fun X C => vX1_takeAcceptance C ti p0 h H)
/-! X1_faultOf -/
abbrev iX1_faultOf : g_I := (RX1, yX1_faultOf, cX1_faultOf, 2, (some (.object "VaneUnion$Fault")), [], { frames := 3, cells := 0, slots := 0, locals := 65 })
set_option maxRecDepth 100000 in
set_option maxHeartbeats 4000000 in
theorem vX1_faultOf {G : g_G} {X : g_X} {Q : g_R → g_Hp → Prop} (C : g_Cx y_ G X iX1_faultOf) (ti : Nat) (a0i : Nat) (h : g_Hp) (H : wX1_faultOf ti a0i h Q) : g_V G X iX1_faultOf 0 0 Q 0 0 0 [(0, vR 1 ti 0), (1, vR 4 a0i 0)] [] h := by
  refine s_gets (pc := 0) zs__SwitchMap_VaneUnion_Keyword (g_cst_R rfl) kw_1412 C dX1_faultOf_0 ?_
  refine s_aload_n (pc := 3) C dX1_faultOf_3 rfl 1 rfl ?_
  refine s_getr (pc := 4) (s := 0) (a := 21) (b := ((h 4 a0i 0 1).toNatClampNeg - 1)) (c' := 0) ckX2 (by decide) kw_265 rfl C dX1_faultOf_4 ?_
  refine s_nmi (fun i1 ei1 => ?_)
  have H := H i1 ei1
  refine s_callcU (pc := 7) (nA := 0) (as := []) (st := [vR 23 1 0]) (stk := [vR 21 i1 0, vR 23 1 0]) (x := ⟨"VaneUnion$Keyword", "ordinal", "()I"⟩) (os_kw H.1) (by decide) C (fun l hl => ctJx29ce0_ordinal_8abf5_21 l hl i1 0 _ _ H.2) (List.forall_mem_cons.mpr ⟨kw_1414, List.forall_mem_cons.mpr ⟨kw_1415, List.forall_mem_cons.mpr ⟨kw_1416, List.forall_mem_cons.mpr ⟨kw_604, List.forall_mem_cons.mpr ⟨kw_67, List.forall_mem_cons.mpr ⟨kw_605, fun _ h => nomatch h⟩⟩⟩⟩⟩⟩) rfl rfl ⟨by decide, by decide, by decide +kernel⟩ ⟨by decide, by decide⟩ rfl (Nat.le_of_ble_eq_true rfl) ⟨by decide, by decide⟩ rfl dX1_faultOf_7 (g_Kq_I (fun u3 h2 H => ?_) (fun E h2 H => s_prop rfl ⟨by decide, by decide⟩ H C))
  refine s_ialdsw (pc := 10) H.1 (by decide) C dX1_faultOf_10 ?_
  have H := H.2
  refine s_tsw (pc := 11) (tgtD := 149) C dX1_faultOf_11 (by decide) (fun c => ?_) (fun n9 c => ?_)
  · have H := H.1 c
    refine s_aload_n (pc := 149) C dX1_faultOf_149 rfl 0 rfl ?_
    refine s_aload_n (pc := 150) C dX1_faultOf_150 rfl 1 rfl ?_
    refine s_geti (pc := 151) (s := 2) ckX2 (Or.inl rfl) (by decide) kw_269 (fun _ => rfl) C dX1_faultOf_151 ?_
    refine s_callv (pc := 154) (nA := 1) (as := [vI (h2 4 a0i 0 3)]) (st := []) (stk := [vI (h2 4 a0i 0 3), vR 1 ti 0]) ckX1 (Or.inl rfl) C (fun l hl => ctX1_faultOfAccepting l hl ti (h2 4 a0i 0 3) _ _ H) ⟨⟨kw_1426, kw_59, kw_1000⟩, rfl, ⟨by decide, by decide, by decide +kernel⟩, by decide, by decide⟩ kw_998 (g_selW kw_999) rfl (Nat.le_of_ble_eq_true rfl) ⟨by decide, by decide⟩ rfl dX1_faultOf_154 (g_Kq_R (fun i5 j6 h4 H => ?_) (fun E h4 H => s_prop rfl ⟨by decide, by decide⟩ H C))
    exact s_aret (pc := 157) rfl (Or.inl ⟨_, rfl⟩) ⟨by decide, by decide⟩ H C dX1_faultOf_157
  · have H := H.2
    match n9, c with
    | 0, c =>
      refine ⟨49, 60, rfl, by decide, ?_⟩
      have H := H.1 c.1
      refine s_aload_n (pc := 60) C dX1_faultOf_60 rfl 0 rfl ?_
      refine s_aload_n (pc := 61) C dX1_faultOf_61 rfl 1 rfl ?_
      refine s_geti (pc := 62) (s := 1) ckX2 (Or.inl rfl) (by decide) kw_267 (fun _ => rfl) C dX1_faultOf_62 ?_
      refine s_aload_n (pc := 65) C dX1_faultOf_65 rfl 1 rfl ?_
      refine s_geti (pc := 66) (s := 2) ckX2 (Or.inl rfl) (by decide) kw_269 (fun _ => rfl) C dX1_faultOf_66 ?_
      refine s_callv (pc := 69) (nA := 2) (as := [vI (h2 4 a0i 0 2), vI (h2 4 a0i 0 3)]) (st := []) (stk := [vI (h2 4 a0i 0 3), vI (h2 4 a0i 0 2), vR 1 ti 0]) ckX1 (Or.inl rfl) C (fun l hl => ctX1_faultOfAdding l hl ti (h2 4 a0i 0 2) (h2 4 a0i 0 3) _ _ H) ⟨⟨kw_1417, kw_59, kw_583⟩, rfl, ⟨by decide, by decide, by decide +kernel⟩, by decide, by decide⟩ kw_581 (g_selW kw_582) rfl (Nat.le_of_ble_eq_true rfl) ⟨by decide, by decide⟩ rfl dX1_faultOf_69 (g_Kq_R (fun i8 j9 h7 H => ?_) (fun E h7 H => s_prop rfl ⟨by decide, by decide⟩ H C))
      exact s_aret (pc := 72) rfl (Or.inl ⟨_, rfl⟩) ⟨by decide, by decide⟩ H C dX1_faultOf_72
    | 1, c =>
      refine ⟨62, 73, rfl, by decide, ?_⟩
      have H := H.2.1 c.1
      refine s_aload_n (pc := 73) C dX1_faultOf_73 rfl 0 rfl ?_
      refine s_aload_n (pc := 74) C dX1_faultOf_74 rfl 1 rfl ?_
      refine s_geti (pc := 75) (s := 1) ckX2 (Or.inl rfl) (by decide) kw_267 (fun _ => rfl) C dX1_faultOf_75 ?_
      refine s_aload_n (pc := 78) C dX1_faultOf_78 rfl 1 rfl ?_
      refine s_geti (pc := 79) (s := 2) ckX2 (Or.inl rfl) (by decide) kw_269 (fun _ => rfl) C dX1_faultOf_79 ?_
      refine s_callv (pc := 82) (nA := 2) (as := [vI (h2 4 a0i 0 2), vI (h2 4 a0i 0 3)]) (st := []) (stk := [vI (h2 4 a0i 0 3), vI (h2 4 a0i 0 2), vR 1 ti 0]) ckX1 (Or.inl rfl) C (fun l hl => ctX1_faultOfWind l hl ti (h2 4 a0i 0 2) (h2 4 a0i 0 3) _ _ H) ⟨⟨kw_1418, kw_59, kw_791⟩, rfl, ⟨by decide, by decide, by decide +kernel⟩, by decide, by decide⟩ kw_789 (g_selW kw_790) rfl (Nat.le_of_ble_eq_true rfl) ⟨by decide, by decide⟩ rfl dX1_faultOf_82 (g_Kq_R (fun i11 j12 h10 H => ?_) (fun E h10 H => s_prop rfl ⟨by decide, by decide⟩ H C))
      exact s_aret (pc := 85) rfl (Or.inl ⟨_, rfl⟩) ⟨by decide, by decide⟩ H C dX1_faultOf_85
    | 2, c =>
      refine ⟨75, 86, rfl, by decide, ?_⟩
      have H := H.2.2.1 c.1
      refine s_aload_n (pc := 86) C dX1_faultOf_86 rfl 0 rfl ?_
      refine s_aload_n (pc := 87) C dX1_faultOf_87 rfl 1 rfl ?_
      refine s_geti (pc := 88) (s := 2) ckX2 (Or.inl rfl) (by decide) kw_269 (fun _ => rfl) C dX1_faultOf_88 ?_
      refine s_callv (pc := 91) (nA := 1) (as := [vI (h2 4 a0i 0 3)]) (st := []) (stk := [vI (h2 4 a0i 0 3), vR 1 ti 0]) ckX1 (Or.inl rfl) C (fun l hl => ctX1_faultOfPassing l hl ti (h2 4 a0i 0 3) _ _ H) ⟨⟨kw_1419, kw_59, kw_815⟩, rfl, ⟨by decide, by decide, by decide +kernel⟩, by decide, by decide⟩ kw_813 (g_selW kw_814) rfl (Nat.le_of_ble_eq_true rfl) ⟨by decide, by decide⟩ rfl dX1_faultOf_91 (g_Kq_R (fun i14 j15 h13 H => ?_) (fun E h13 H => s_prop rfl ⟨by decide, by decide⟩ H C))
      exact s_aret (pc := 94) rfl (Or.inl ⟨_, rfl⟩) ⟨by decide, by decide⟩ H C dX1_faultOf_94
    | 3, c =>
      refine ⟨84, 95, rfl, by decide, ?_⟩
      have H := H.2.2.2.1 c.1
      refine s_aload_n (pc := 95) C dX1_faultOf_95 rfl 0 rfl ?_
      refine s_aload_n (pc := 96) C dX1_faultOf_96 rfl 1 rfl ?_
      refine s_geti (pc := 97) (s := 2) ckX2 (Or.inl rfl) (by decide) kw_269 (fun _ => rfl) C dX1_faultOf_97 ?_
      refine s_callv (pc := 100) (nA := 1) (as := [vI (h2 4 a0i 0 3)]) (st := []) (stk := [vI (h2 4 a0i 0 3), vR 1 ti 0]) ckX1 (Or.inl rfl) C (fun l hl => ctX1_faultOfVoting l hl ti (h2 4 a0i 0 3) _ _ H) ⟨⟨kw_1420, kw_59, kw_847⟩, rfl, ⟨by decide, by decide, by decide +kernel⟩, by decide, by decide⟩ kw_845 (g_selW kw_846) rfl (Nat.le_of_ble_eq_true rfl) ⟨by decide, by decide⟩ rfl dX1_faultOf_100 (g_Kq_R (fun i17 j18 h16 H => ?_) (fun E h16 H => s_prop rfl ⟨by decide, by decide⟩ H C))
      exact s_aret (pc := 103) rfl (Or.inl ⟨_, rfl⟩) ⟨by decide, by decide⟩ H C dX1_faultOf_103
    | 4, c =>
      refine ⟨93, 104, rfl, by decide, ?_⟩
      have H := H.2.2.2.2.1 c.1
      refine s_aload_n (pc := 104) C dX1_faultOf_104 rfl 0 rfl ?_
      refine s_callv (pc := 105) (nA := 0) (as := []) (st := []) (stk := [vR 1 ti 0]) ckX1 (Or.inl rfl) C (fun l hl => ctX1_faultOfStriking l hl ti _ _ H) ⟨⟨kw_1421, kw_59, kw_872⟩, rfl, ⟨by decide, by decide, by decide +kernel⟩, by decide, by decide⟩ kw_870 (g_selW kw_871) rfl (Nat.le_of_ble_eq_true rfl) ⟨by decide, by decide⟩ rfl dX1_faultOf_105 (g_Kq_R (fun i20 j21 h19 H => ?_) (fun E h19 H => s_prop rfl ⟨by decide, by decide⟩ H C))
      exact s_aret (pc := 108) rfl (Or.inl ⟨_, rfl⟩) ⟨by decide, by decide⟩ H C dX1_faultOf_108
    | 5, c =>
      refine ⟨98, 109, rfl, by decide, ?_⟩
      have H := H.2.2.2.2.2.1 c.1
      refine s_aload_n (pc := 109) C dX1_faultOf_109 rfl 0 rfl ?_
      refine s_aload_n (pc := 110) C dX1_faultOf_110 rfl 1 rfl ?_
      refine s_geti (pc := 111) (s := 2) ckX2 (Or.inl rfl) (by decide) kw_269 (fun _ => rfl) C dX1_faultOf_111 ?_
      refine s_callv (pc := 114) (nA := 1) (as := [vI (h2 4 a0i 0 3)]) (st := []) (stk := [vI (h2 4 a0i 0 3), vR 1 ti 0]) ckX1 (Or.inl rfl) C (fun l hl => ctX1_faultOfPaying l hl ti (h2 4 a0i 0 3) _ _ H) ⟨⟨kw_1422, kw_59, kw_897⟩, rfl, ⟨by decide, by decide, by decide +kernel⟩, by decide, by decide⟩ kw_895 (g_selW kw_896) rfl (Nat.le_of_ble_eq_true rfl) ⟨by decide, by decide⟩ rfl dX1_faultOf_114 (g_Kq_R (fun i23 j24 h22 H => ?_) (fun E h22 H => s_prop rfl ⟨by decide, by decide⟩ H C))
      exact s_aret (pc := 117) rfl (Or.inl ⟨_, rfl⟩) ⟨by decide, by decide⟩ H C dX1_faultOf_117
    | 6, c =>
      refine ⟨107, 118, rfl, by decide, ?_⟩
      have H := H.2.2.2.2.2.2.1 c.1
      refine s_aload_n (pc := 118) C dX1_faultOf_118 rfl 0 rfl ?_
      refine s_aload_n (pc := 119) C dX1_faultOf_119 rfl 1 rfl ?_
      refine s_geti (pc := 120) (s := 1) ckX2 (Or.inl rfl) (by decide) kw_267 (fun _ => rfl) C dX1_faultOf_120 ?_
      refine s_aload_n (pc := 123) C dX1_faultOf_123 rfl 1 rfl ?_
      refine s_geti (pc := 124) (s := 2) ckX2 (Or.inl rfl) (by decide) kw_269 (fun _ => rfl) C dX1_faultOf_124 ?_
      refine s_callv (pc := 127) (nA := 2) (as := [vI (h2 4 a0i 0 2), vI (h2 4 a0i 0 3)]) (st := []) (stk := [vI (h2 4 a0i 0 3), vI (h2 4 a0i 0 2), vR 1 ti 0]) ckX1 (Or.inl rfl) C (fun l hl => ctX1_faultOfSigning l hl ti (h2 4 a0i 0 2) (h2 4 a0i 0 3) _ _ H) ⟨⟨kw_1423, kw_59, kw_921⟩, rfl, ⟨by decide, by decide, by decide +kernel⟩, by decide, by decide⟩ kw_919 (g_selW kw_920) rfl (Nat.le_of_ble_eq_true rfl) ⟨by decide, by decide⟩ rfl dX1_faultOf_127 (g_Kq_R (fun i26 j27 h25 H => ?_) (fun E h25 H => s_prop rfl ⟨by decide, by decide⟩ H C))
      exact s_aret (pc := 130) rfl (Or.inl ⟨_, rfl⟩) ⟨by decide, by decide⟩ H C dX1_faultOf_130
    | 7, c =>
      refine ⟨120, 131, rfl, by decide, ?_⟩
      have H := H.2.2.2.2.2.2.2.1 c.1
      refine s_aload_n (pc := 131) C dX1_faultOf_131 rfl 0 rfl ?_
      refine s_aload_n (pc := 132) C dX1_faultOf_132 rfl 1 rfl ?_
      refine s_geti (pc := 133) (s := 2) ckX2 (Or.inl rfl) (by decide) kw_269 (fun _ => rfl) C dX1_faultOf_133 ?_
      refine s_callv (pc := 136) (nA := 1) (as := [vI (h2 4 a0i 0 3)]) (st := []) (stk := [vI (h2 4 a0i 0 3), vR 1 ti 0]) ckX1 (Or.inl rfl) C (fun l hl => ctX1_faultOfStrikingOff l hl ti (h2 4 a0i 0 3) _ _ H) ⟨⟨kw_1424, kw_59, kw_936⟩, rfl, ⟨by decide, by decide, by decide +kernel⟩, by decide, by decide⟩ kw_934 (g_selW kw_935) rfl (Nat.le_of_ble_eq_true rfl) ⟨by decide, by decide⟩ rfl dX1_faultOf_136 (g_Kq_R (fun i29 j30 h28 H => ?_) (fun E h28 H => s_prop rfl ⟨by decide, by decide⟩ H C))
      exact s_aret (pc := 139) rfl (Or.inl ⟨_, rfl⟩) ⟨by decide, by decide⟩ H C dX1_faultOf_139
    | 8, c =>
      refine ⟨129, 140, rfl, by decide, ?_⟩
      have H := H.2.2.2.2.2.2.2.2 c.1
      refine s_aload_n (pc := 140) C dX1_faultOf_140 rfl 0 rfl ?_
      refine s_aload_n (pc := 141) C dX1_faultOf_141 rfl 1 rfl ?_
      refine s_geti (pc := 142) (s := 2) ckX2 (Or.inl rfl) (by decide) kw_269 (fun _ => rfl) C dX1_faultOf_142 ?_
      refine s_callv (pc := 145) (nA := 1) (as := [vI (h2 4 a0i 0 3)]) (st := []) (stk := [vI (h2 4 a0i 0 3), vR 1 ti 0]) ckX1 (Or.inl rfl) C (fun l hl => ctX1_faultOfOffering l hl ti (h2 4 a0i 0 3) _ _ H) ⟨⟨kw_1425, kw_59, kw_981⟩, rfl, ⟨by decide, by decide, by decide +kernel⟩, by decide, by decide⟩ kw_979 (g_selW kw_980) rfl (Nat.le_of_ble_eq_true rfl) ⟨by decide, by decide⟩ rfl dX1_faultOf_145 (g_Kq_R (fun i32 j33 h31 H => ?_) (fun E h31 H => s_prop rfl ⟨by decide, by decide⟩ H C))
      exact s_aret (pc := 148) rfl (Or.inl ⟨_, rfl⟩) ⟨by decide, by decide⟩ H C dX1_faultOf_148
    | q9 + 9, c => exact absurd c.2 (by omega)
theorem ctX1_faultOf (l : Launch) (hl : l.stackTraces = false) {G : g_G} (ti : Nat) (a0i : Nat) (h : g_Hp) (Q : g_R → g_Hp → Prop) (H : wX1_faultOf ti a0i h Q) : g_Met l y_ G iX1_faultOf [vR 1 ti 0, vR 4 a0i 0] h Q :=
  g_Met_of hl (by decide +kernel) rfl rfl (Nat.le_of_ble_eq_true rfl) (fun X C => vX1_faultOf C ti a0i h H)
