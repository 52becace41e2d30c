/-! X1_payOutCopyOfFund -/
abbrev iX1_payOutCopyOfFund : g_I := (RX1, yX1_payOutCopyOfFund, cX1_payOutCopyOfFund, 4, (some .int), [], { frames := 1, cells := 0, slots := 0, locals := 20 })
set_option maxRecDepth 100000 in
set_option maxHeartbeats 4000000 in
theorem vX1_payOutCopyOfFund_b16_B {G : g_G} {X : g_X} {Q : g_R → g_Hp → Prop} (C : g_Cx y_ G X iX1_payOutCopyOfFund) (ti : Nat) (R7 : Int32 → Int32 → g_Hp → Prop) (hR7 : ∀ (x1 : Int32) (x2 : Int32) (h : g_Hp), R7 x1 x2 h → g_V G X iX1_payOutCopyOfFund 0 0 Q 7 0 0 [(0, vR 1 ti 0), (1, vI x1), (2, vI x2)] [] h) (R16 : Int32 → Int32 → Int32 → g_Hp → Prop) (hR16 : ∀ (x1 : Int32) (x2 : Int32) (x3 : Int32) (h : g_Hp), R16 x1 x2 x3 h → g_V G X iX1_payOutCopyOfFund 0 0 Q 16 0 0 [(0, vR 1 ti 0), (1, vI x1), (2, vI x2), (3, vI x3)] [] h) (x1 : Int32) (x2 : Int32) (x3 : Int32) (h : g_Hp) (H : wX1_payOutCopyOfFund_b16_B ti Q R7 R16 x1 x2 x3 h) : g_V G X iX1_payOutCopyOfFund 0 0 Q 16 0 0 [(0, vR 1 ti 0), (1, vI x1), (2, vI x2), (3, vI x3)] [] h := by
  refine s_iload_n (pc := 16) C dX1_payOutCopyOfFund_16 rfl 3 rfl ?_
  refine s_aload_n (pc := 17) C dX1_payOutCopyOfFund_17 rfl 0 rfl ?_
  refine s_geti (pc := 18) (s := 1) ckX1 (Or.inl rfl) (by decide) kw_168 (fun _ => rfl) C dX1_payOutCopyOfFund_18 ?_
  refine s_icmp_ge (pc := 21) (tgt := 40) C dX1_payOutCopyOfFund_21 (by decide) (fun c => ?_) (fun c => ?_)
  · have H := H.1 c
    refine s_iincN (pc := 40) C dX1_payOutCopyOfFund_40 2 rfl (z' := (1 : Int32)) (by decide) (by decide) (fun y1 ey1 => ?_)
    have H := H y1 ey1
    show g_V _ _ _ _ _ _ _ _ _ [(2, vI y1), (0, vR 1 ti 0), (1, vI x1), (3, vI x3)] _ _
    refine s_goto (pc := 43) (tgt := 7) C dX1_payOutCopyOfFund_43 (by decide) ?_
    exact s_sub (ls' := [(0, vR 1 ti 0), (1, vI x1), (2, vI y1)]) [1, 2, 0] rfl (hR7 x1 y1 h H)
  · have H := H.2 c
    refine s_iload_n (pc := 24) C dX1_payOutCopyOfFund_24 rfl 1 rfl ?_
    refine s_iconst (pc := 25) C dX1_payOutCopyOfFund_25 (x := (2 : Int32)) (by decide) ?_
    refine s_icmp_ge (pc := 26) (tgt := 31) C dX1_payOutCopyOfFund_26 (by decide) (fun c => ?_) (fun c => ?_)
    · have H := H.1 c
      refine s_iincN (pc := 31) C dX1_payOutCopyOfFund_31 1 rfl (z' := (-2 : Int32)) (by decide) (by decide) (fun y2 ey2 => ?_)
      have H := H y2 ey2
      show g_V _ _ _ _ _ _ _ _ _ [(1, vI y2), (0, vR 1 ti 0), (2, vI x2), (3, vI x3)] _ _
      refine s_iincN (pc := 34) C dX1_payOutCopyOfFund_34 3 rfl (z' := (1 : Int32)) (by decide) (by decide) (fun y3 ey3 => ?_)
      have H := H y3 ey3
      show g_V _ _ _ _ _ _ _ _ _ [(3, vI y3), (1, vI y2), (0, vR 1 ti 0), (2, vI x2)] _ _
      refine s_goto (pc := 37) (tgt := 16) C dX1_payOutCopyOfFund_37 (by decide) ?_
      exact s_sub (ls' := [(0, vR 1 ti 0), (1, vI y2), (2, vI x2), (3, vI y3)]) [2, 1, 3, 0] rfl (hR16 y2 x2 y3 h H)
    · have H := H.2 c
      refine s_iload_n (pc := 29) C dX1_payOutCopyOfFund_29 rfl 2 rfl ?_
      exact s_iret (pc := 30) rfl rfl ⟨by decide, by decide⟩ H C dX1_payOutCopyOfFund_30
theorem vX1_payOutCopyOfFund_b16 {G : g_G} {X : g_X} {Q : g_R → g_Hp → Prop} (C : g_Cx y_ G X iX1_payOutCopyOfFund) (ti : Nat) (R7 : Int32 → Int32 → g_Hp → Prop) (hR7 : ∀ (x1 : Int32) (x2 : Int32) (h : g_Hp), R7 x1 x2 h → g_V G X iX1_payOutCopyOfFund 0 0 Q 7 0 0 [(0, vR 1 ti 0), (1, vI x1), (2, vI x2)] [] h) (x1 : Int32) (x2 : Int32) (x3 : Int32) (h : g_Hp) (H : wX1_payOutCopyOfFund_b16 ti Q R7 x1 x2 x3 h) : g_V G X iX1_payOutCopyOfFund 0 0 Q 16 0 0 [(0, vR 1 ti 0), (1, vI x1), (2, vI x2), (3, vI x3)] [] h := by
  obtain ⟨n, H⟩ := H
  induction n generalizing x1 x2 x3 h with
  | zero => exact H.elim
  | succ n ih => exact vX1_payOutCopyOfFund_b16_B C ti R7 hR7 _ (fun x1 x2 x3 h H => ih x1 x2 x3 h H) x1 x2 x3 h H
set_option maxRecDepth 100000 in
set_option maxHeartbeats 4000000 in
theorem vX1_payOutCopyOfFund_b7_B {G : g_G} {X : g_X} {Q : g_R → g_Hp → Prop} (C : g_Cx y_ G X iX1_payOutCopyOfFund) (ti : Nat) (R7 : Int32 → Int32 → g_Hp → Prop) (hR7 : ∀ (x1 : Int32) (x2 : Int32) (h : g_Hp), R7 x1 x2 h → g_V G X iX1_payOutCopyOfFund 0 0 Q 7 0 0 [(0, vR 1 ti 0), (1, vI x1), (2, vI x2)] [] h) (x1 : Int32) (x2 : Int32) (h : g_Hp) (H : wX1_payOutCopyOfFund_b7_B ti Q R7 x1 x2 h) : g_V G X iX1_payOutCopyOfFund 0 0 Q 7 0 0 [(0, vR 1 ti 0), (1, vI x1), (2, vI x2)] [] h := by
  refine s_iload_n (pc := 7) C dX1_payOutCopyOfFund_7 rfl 2 rfl ?_
  refine s_sipush (pc := 8) C dX1_payOutCopyOfFund_8 (x := (9999 : Int32)) (by decide) ?_
  refine s_icmp_ge (pc := 11) (tgt := 46) C dX1_payOutCopyOfFund_11 (by decide) (fun c => ?_) (fun c => ?_)
  · have H := H.1 c
    refine s_iconst (pc := 46) C dX1_payOutCopyOfFund_46 (x := (0 : Int32)) (by decide) ?_
    exact s_iret (pc := 47) rfl rfl ⟨by decide, by decide⟩ H C dX1_payOutCopyOfFund_47
  · have H := H.2 c
    refine s_iconst (pc := 14) C dX1_payOutCopyOfFund_14 (x := (0 : Int32)) (by decide) ?_
    refine s_istore_n (pc := 15) (ls' := [(3, vI (0 : Int32)), (0, vR 1 ti 0), (1, vI x1), (2, vI x2)]) C dX1_payOutCopyOfFund_15 rfl (by decide) rfl ?_
    exact s_sub (ls' := [(0, vR 1 ti 0), (1, vI x1), (2, vI x2), (3, vI (0 : Int32))]) [1, 2, 3, 0] rfl (vX1_payOutCopyOfFund_b16 C ti R7 hR7 x1 x2 (0 : Int32) h H)
theorem vX1_payOutCopyOfFund_b7 {G : g_G} {X : g_X} {Q : g_R → g_Hp → Prop} (C : g_Cx y_ G X iX1_payOutCopyOfFund) (ti : Nat) (x1 : Int32) (x2 : Int32) (h : g_Hp) (H : wX1_payOutCopyOfFund_b7 ti Q x1 x2 h) : g_V G X iX1_payOutCopyOfFund 0 0 Q 7 0 0 [(0, vR 1 ti 0), (1, vI x1), (2, vI x2)] [] h := by
  obtain ⟨n, H⟩ := H
  induction n generalizing x1 x2 h with
  | zero => exact H.elim
  | succ n ih => exact vX1_payOutCopyOfFund_b7_B C ti _ (fun x1 x2 h H => ih x1 x2 h H) x1 x2 h H
set_option maxRecDepth 100000 in
set_option maxHeartbeats 4000000 in
theorem vX1_payOutCopyOfFund {G : g_G} {X : g_X} {Q : g_R → g_Hp → Prop} (C : g_Cx y_ G X iX1_payOutCopyOfFund) (ti : Nat) (h : g_Hp) (H : wX1_payOutCopyOfFund ti h Q) : g_V G X iX1_payOutCopyOfFund 0 0 Q 0 0 0 [(0, vR 1 ti 0)] [] h := by
  refine s_aload_n (pc := 0) C dX1_payOutCopyOfFund_0 rfl 0 rfl ?_
  refine s_geti (pc := 1) (s := 9) ckX1 (Or.inl rfl) (by decide) kw_183 (fun _ => rfl) C dX1_payOutCopyOfFund_1 ?_
  refine s_namei (fun y1 ey1 => ?_)
  have H := H y1 ey1
  refine s_istore_n (pc := 4) (ls' := [(1, vI y1), (0, vR 1 ti 0)]) C dX1_payOutCopyOfFund_4 rfl (by decide) rfl ?_
  refine s_iconst (pc := 5) C dX1_payOutCopyOfFund_5 (x := (0 : Int32)) (by decide) ?_
  refine s_istore_n (pc := 6) (ls' := [(2, vI (0 : Int32)), (1, vI y1), (0, vR 1 ti 0)]) C dX1_payOutCopyOfFund_6 rfl (by decide) rfl ?_
  exact s_sub (ls' := [(0, vR 1 ti 0), (1, vI y1), (2, vI (0 : Int32))]) [2, 1, 0] rfl (vX1_payOutCopyOfFund_b7 C ti y1 (0 : Int32) h H)
theorem ctX1_payOutCopyOfFund (l : Launch) (hl : l.stackTraces = false) {G : g_G} (ti : Nat) (h : g_Hp) (Q : g_R → g_Hp → Prop) (H : wX1_payOutCopyOfFund ti h Q) : g_Met l y_ G iX1_payOutCopyOfFund [vR 1 ti 0] h Q :=
  g_Met_of hl (by decide +kernel) rfl rfl (Nat.le_of_ble_eq_true rfl) (fun X C => vX1_payOutCopyOfFund C ti h H)
/-! X1_sumWages -/
abbrev iX1_sumWages : g_I := (RX1, yX1_sumWages, cX1_sumWages, 4, (some .long), [], { frames := 1, cells := 0, slots := 0, locals := 20 })
set_option maxRecDepth 100000 in
set_option maxHeartbeats 4000000 in
theorem vX1_sumWages_b4_B {G : g_G} {X : g_X} {Q : g_R → g_Hp → Prop} (C : g_Cx y_ G X iX1_sumWages) (ti : Nat) (R4 : Int64 → Int32 → g_Hp → Prop) (hR4 : ∀ (x1 : Int64) (x3 : Int32) (h : g_Hp), R4 x1 x3 h → g_V G X iX1_sumWages 0 0 Q 4 0 0 [(0, vR 1 ti 0), (1, vV (.long x1)), (3, vI x3)] [] h) (x1 : Int64) (x3 : Int32) (h : g_Hp) (H : wX1_sumWages_b4_B ti Q R4 x1 x3 h) : g_V G X iX1_sumWages 0 0 Q 4 0 0 [(0, vR 1 ti 0), (1, vV (.long x1)), (3, vI x3)] [] h := by
  refine s_iload_n (pc := 4) C dX1_sumWages_4 rfl 2 rfl ?_
  refine s_aload_n (pc := 5) C dX1_sumWages_5 rfl 0 rfl ?_
  refine s_geti (pc := 6) (s := 1) ckX1 (Or.inl rfl) (by decide) kw_168 (fun _ => rfl) C dX1_sumWages_6 ?_
  refine s_icmp_ge (pc := 9) (tgt := 31) C dX1_sumWages_9 (by decide) (fun c => ?_) (fun c => ?_)
  · have H := H.1 c
    refine s_lload_n (pc := 31) C dX1_sumWages_31 rfl 1 rfl ?_
    exact s_lret (pc := 32) rfl ⟨by decide, by decide⟩ H C dX1_sumWages_32
  · have H := H.2 c
    refine s_lload_n (pc := 12) C dX1_sumWages_12 rfl 1 rfl ?_
    refine s_aload_n (pc := 13) C dX1_sumWages_13 rfl 0 rfl ?_
    refine s_getr (pc := 14) (s := 0) (a := 11) (b := ti) (c' := 0) ckX1 (by decide) kw_166 rfl C dX1_sumWages_14 ?_
    refine s_iload_n (pc := 17) C dX1_sumWages_17 rfl 2 rfl ?_
    refine s_aald (pc := 18) (kk := 11) (by decide) (by decide) H.1 C dX1_sumWages_18 ?_
    have H := H.2
    show g_V _ _ _ _ _ _ _ _ _ _ (vR 2 ti (x3.toNatClampNeg) :: _) _
    refine s_nmj (fun j1 ej1 => ?_)
    have H := H j1 ej1
    refine s_geti (pc := 19) (s := 3) ckX6 (Or.inl rfl) (by decide) kw_123 (fun _ => rfl) C dX1_sumWages_19 ?_
    refine s_i2l (pc := 22) C dX1_sumWages_22 ?_
    refine s_ladd (pc := 23) C dX1_sumWages_23 ?_
    refine s_namel (fun y2 ey2 => ?_)
    have H := H y2 ey2
    refine s_lstore_n (pc := 24) (ls' := [(1, vV (.long y2)), (0, vR 1 ti 0), (3, vI x3)]) C dX1_sumWages_24 rfl (by decide) rfl ?_
    refine s_iincN (pc := 25) C dX1_sumWages_25 2 rfl (z' := (1 : Int32)) (by decide) (by decide) (fun y3 ey3 => ?_)
    have H := H y3 ey3
    show g_V _ _ _ _ _ _ _ _ _ [(3, vI y3), (1, vV (.long y2)), (0, vR 1 ti 0)] _ _
    refine s_goto (pc := 28) (tgt := 4) C dX1_sumWages_28 (by decide) ?_
    exact s_sub (ls' := [(0, vR 1 ti 0), (1, vV (.long y2)), (3, vI y3)]) [2, 1, 0] rfl (hR4 y2 y3 h H)
theorem vX1_sumWages_b4 {G : g_G} {X : g_X} {Q : g_R → g_Hp → Prop} (C : g_Cx y_ G X iX1_sumWages) (ti : Nat) (x1 : Int64) (x3 : Int32) (h : g_Hp) (H : wX1_sumWages_b4 ti Q x1 x3 h) : g_V G X iX1_sumWages 0 0 Q 4 0 0 [(0, vR 1 ti 0), (1, vV (.long x1)), (3, vI x3)] [] h := by
  obtain ⟨n, H⟩ := H
  induction n generalizing x1 x3 h with
  | zero => exact H.elim
  | succ n ih => exact vX1_sumWages_b4_B C ti _ (fun x1 x3 h H => ih x1 x3 h H) x1 x3 h H
set_option maxRecDepth 100000 in
set_option maxHeartbeats 4000000 in
theorem vX1_sumWages {G : g_G} {X : g_X} {Q : g_R → g_Hp → Prop} (C : g_Cx y_ G X iX1_sumWages) (ti : Nat) (h : g_Hp) (H : wX1_sumWages ti h Q) : g_V G X iX1_sumWages 0 0 Q 0 0 0 [(0, vR 1 ti 0)] [] h := by
  refine s_lconst (pc := 0) C dX1_sumWages_0 (x := (0 : Int32).toInt64) (by decide) ?_
  refine s_namel (fun y1 ey1 => ?_)
  have H := H y1 ey1
  refine s_lstore_n (pc := 1) (ls' := [(1, vV (.long y1)), (0, vR 1 ti 0)]) C dX1_sumWages_1 rfl (by decide) rfl ?_
  refine s_iconst (pc := 2) C dX1_sumWages_2 (x := (0 : Int32)) (by decide) ?_
  refine s_istore_n (pc := 3) (ls' := [(3, vI (0 : Int32)), (1, vV (.long y1)), (0, vR 1 ti 0)]) C dX1_sumWages_3 rfl (by decide) rfl ?_
  exact s_sub (ls' := [(0, vR 1 ti 0), (1, vV (.long y1)), (3, vI (0 : Int32))]) [2, 1, 0] rfl (vX1_sumWages_b4 C ti y1 (0 : Int32) h H)
theorem ctX1_sumWages (l : Launch) (hl : l.stackTraces = false) {G : g_G} (ti : Nat) (h : g_Hp) (Q : g_R → g_Hp → Prop) (H : wX1_sumWages ti h Q) : g_Met l y_ G iX1_sumWages [vR 1 ti 0] h Q :=
  g_Met_of hl (by decide +kernel) rfl rfl (Nat.le_of_ble_eq_true rfl) (fun X C => vX1_sumWages C ti h H)
/-! X1_sumLostByMembers -/
abbrev iX1_sumLostByMembers : g_I := (RX1, yX1_sumLostByMembers, cX1_sumLostByMembers, 3, (some .int), [], { frames := 1, cells := 0, slots := 0, locals := 20 })
set_option maxRecDepth 100000 in
set_option maxHeartbeats 4000000 in
theorem vX1_sumLostByMembers_b4_B {G : g_G} {X : g_X} {Q : g_R → g_Hp → Prop} (C : g_Cx y_ G X iX1_sumLostByMembers) (ti : Nat) (R4 : Int32 → Int32 → g_Hp → Prop) (hR4 : ∀ (x1 : Int32) (x2 : Int32) (h : g_Hp), R4 x1 x2 h → g_V G X iX1_sumLostByMembers 0 0 Q 4 0 0 [(0, vR 1 ti 0), (1, vI x1), (2, vI x2)] [] h) (x1 : Int32) (x2 : Int32) (h : g_Hp) (H : wX1_sumLostByMembers_b4_B ti Q R4 x1 x2 h) : g_V G X iX1_sumLostByMembers 0 0 Q 4 0 0 [(0, vR 1 ti 0), (1, vI x1), (2, vI x2)] [] h := by
  refine s_iload_n (pc := 4) C dX1_sumLostByMembers_4 rfl 2 rfl ?_
  refine s_aload_n (pc := 5) C dX1_sumLostByMembers_5 rfl 0 rfl ?_
  refine s_geti (pc := 6) (s := 1) ckX1 (Or.inl rfl) (by decide) kw_168 (fun _ => rfl) C dX1_sumLostByMembers_6 ?_
  refine s_icmp_ge (pc := 9) (tgt := 30) C dX1_sumLostByMembers_9 (by decide) (fun c => ?_) (fun c => ?_)
  · have H := H.1 c
    refine s_iload_n (pc := 30) C dX1_sumLostByMembers_30 rfl 1 rfl ?_
    exact s_iret (pc := 31) rfl rfl ⟨by decide, by decide⟩ H C dX1_sumLostByMembers_31
  · have H := H.2 c
    refine s_iload_n (pc := 12) C dX1_sumLostByMembers_12 rfl 1 rfl ?_
    refine s_aload_n (pc := 13) C dX1_sumLostByMembers_13 rfl 0 rfl ?_
    refine s_getr (pc := 14) (s := 0) (a := 11) (b := ti) (c' := 0) ckX1 (by decide) kw_166 rfl C dX1_sumLostByMembers_14 ?_
    refine s_iload_n (pc := 17) C dX1_sumLostByMembers_17 rfl 2 rfl ?_
    refine s_aald (pc := 18) (kk := 11) (by decide) (by decide) H.1 C dX1_sumLostByMembers_18 ?_
    have H := H.2
    show g_V _ _ _ _ _ _ _ _ _ _ (vR 2 ti (x2.toNatClampNeg) :: _) _
    refine s_nmj (fun j1 ej1 => ?_)
    have H := H j1 ej1
    refine s_geti (pc := 19) (s := 5) ckX6 (Or.inl rfl) (by decide) kw_129 (fun _ => rfl) C dX1_sumLostByMembers_19 ?_
    refine s_iadd (pc := 22) C dX1_sumLostByMembers_22 ?_
    refine s_namei (fun y2 ey2 => ?_)
    have H := H y2 ey2
    refine s_istore_n (pc := 23) (ls' := [(1, vI y2), (0, vR 1 ti 0), (2, vI x2)]) C dX1_sumLostByMembers_23 rfl (by decide) rfl ?_
    refine s_iincN (pc := 24) C dX1_sumLostByMembers_24 2 rfl (z' := (1 : Int32)) (by decide) (by decide) (fun y3 ey3 => ?_)
    have H := H y3 ey3
    show g_V _ _ _ _ _ _ _ _ _ [(2, vI y3), (1, vI y2), (0, vR 1 ti 0)] _ _
    refine s_goto (pc := 27) (tgt := 4) C dX1_sumLostByMembers_27 (by decide) ?_
    exact s_sub (ls' := [(0, vR 1 ti 0), (1, vI y2), (2, vI y3)]) [2, 1, 0] rfl (hR4 y2 y3 h H)
theorem vX1_sumLostByMembers_b4 {G : g_G} {X : g_X} {Q : g_R → g_Hp → Prop} (C : g_Cx y_ G X iX1_sumLostByMembers) (ti : Nat) (x1 : Int32) (x2 : Int32) (h : g_Hp) (H : wX1_sumLostByMembers_b4 ti Q x1 x2 h) : g_V G X iX1_sumLostByMembers 0 0 Q 4 0 0 [(0, vR 1 ti 0), (1, vI x1), (2, vI x2)] [] h := by
  obtain ⟨n, H⟩ := H
  induction n generalizing x1 x2 h with
  | zero => exact H.elim
  | succ n ih => exact vX1_sumLostByMembers_b4_B C ti _ (fun x1 x2 h H => ih x1 x2 h H) x1 x2 h H
set_option maxRecDepth 100000 in
set_option maxHeartbeats 4000000 in
theorem vX1_sumLostByMembers {G : g_G} {X : g_X} {Q : g_R → g_Hp → Prop} (C : g_Cx y_ G X iX1_sumLostByMembers) (ti : Nat) (h : g_Hp) (H : wX1_sumLostByMembers ti h Q) : g_V G X iX1_sumLostByMembers 0 0 Q 0 0 0 [(0, vR 1 ti 0)] [] h := by
  refine s_iconst (pc := 0) C dX1_sumLostByMembers_0 (x := (0 : Int32)) (by decide) ?_
  refine s_istore_n (pc := 1) (ls' := [(1, vI (0 : Int32)), (0, vR 1 ti 0)]) C dX1_sumLostByMembers_1 rfl (by decide) rfl ?_
  refine s_iconst (pc := 2) C dX1_sumLostByMembers_2 (x := (0 : Int32)) (by decide) ?_
  refine s_istore_n (pc := 3) (ls' := [(2, vI (0 : Int32)), (1, vI (0 : Int32)), (0, vR 1 ti 0)]) C dX1_sumLostByMembers_3 rfl (by decide) rfl ?_
  exact s_sub (ls' := [(0, vR 1 ti 0), (1, vI (0 : Int32)), (2, vI (0 : Int32))]) [2, 1, 0] rfl (vX1_sumLostByMembers_b4 C ti (0 : Int32) (0 : Int32) h H)
theorem ctX1_sumLostByMembers (l : Launch) (hl : l.stackTraces = false) {G : g_G} (ti : Nat) (h : g_Hp) (Q : g_R → g_Hp → Prop) (H : wX1_sumLostByMembers ti h Q) : g_Met l y_ G iX1_sumLostByMembers [vR 1 ti 0] h Q :=
  g_Met_of hl (by decide +kernel) rfl rfl (Nat.le_of_ble_eq_true rfl) (fun X C => vX1_sumLostByMembers C ti h H)
/-! X1_sumLostByRoofs -/
abbrev iX1_sumLostByRoofs : g_I := (RX1, yX1_sumLostByRoofs, cX1_sumLostByRoofs, 4, (some .int), [], { frames := 1, cells := 0, slots := 0, locals := 20 })
set_option maxRecDepth 100000 in
set_option maxHeartbeats 4000000 in
theorem vX1_sumLostByRoofs_b45 {G : g_G} {X : g_X} {Q : g_R → g_Hp → Prop} (C : g_Cx y_ G X iX1_sumLostByRoofs) (ti : Nat) (R4 : Int32 → Int32 → g_Hp → Prop) (hR4 : ∀ (x1 : Int32) (x2 : Int32) (h : g_Hp), R4 x1 x2 h → g_V G X iX1_sumLostByRoofs 0 0 Q 4 0 0 [(0, vR 1 ti 0), (1, vI x1), (2, vI x2)] [] h) (R12 : Int32 → Int32 → Int32 → g_Hp → Prop) (hR12 : ∀ (x1 : Int32) (x2 : Int32) (x3 : Int32) (h : g_Hp), R12 x1 x2 x3 h → g_V G X iX1_sumLostByRoofs 0 0 Q 12 0 0 [(0, vR 1 ti 0), (1, vI x1), (2, vI x2), (3, vI x3)] [] h) (x1 : Int32) (x2 : Int32) (x3 : Int32) (h : g_Hp) (H : wX1_sumLostByRoofs_b45 ti Q R4 R12 x1 x2 x3 h) : g_V G X iX1_sumLostByRoofs 0 0 Q 45 0 0 [(0, vR 1 ti 0), (1, vI x1), (2, vI x2), (3, vI x3)] [] h := by
  refine s_iincN (pc := 45) C dX1_sumLostByRoofs_45 3 rfl (z' := (1 : Int32)) (by decide) (by decide) (fun y1 ey1 => ?_)
  have H := H y1 ey1
  show g_V _ _ _ _ _ _ _ _ _ [(3, vI y1), (0, vR 1 ti 0), (1, vI x1), (2, vI x2)] _ _
  refine s_goto (pc := 48) (tgt := 12) C dX1_sumLostByRoofs_48 (by decide) ?_
  exact s_sub (ls' := [(0, vR 1 ti 0), (1, vI x1), (2, vI x2), (3, vI y1)]) [1, 2, 3, 0] rfl (hR12 x1 x2 y1 h H)
set_option maxRecDepth 100000 in
set_option maxHeartbeats 4000000 in
theorem vX1_sumLostByRoofs_b12_B {G : g_G} {X : g_X} {Q : g_R → g_Hp → Prop} (C : g_Cx y_ G X iX1_sumLostByRoofs) (ti : Nat) (R4 : Int32 → Int32 → g_Hp → Prop) (hR4 : ∀ (x1 : Int32) (x2 : Int32) (h : g_Hp), R4 x1 x2 h → g_V G X iX1_sumLostByRoofs 0 0 Q 4 0 0 [(0, vR 1 ti 0), (1, vI x1), (2, vI x2)] [] h) (R12 : Int32 → Int32 → Int32 → g_Hp → Prop) (hR12 : ∀ (x1 : Int32) (x2 : Int32) (x3 : Int32) (h : g_Hp), R12 x1 x2 x3 h → g_V G X iX1_sumLostByRoofs 0 0 Q 12 0 0 [(0, vR 1 ti 0), (1, vI x1), (2, vI x2), (3, vI x3)] [] h) (x1 : Int32) (x2 : Int32) (x3 : Int32) (h : g_Hp) (H : wX1_sumLostByRoofs_b12_B ti Q R4 R12 x1 x2 x3 h) : g_V G X iX1_sumLostByRoofs 0 0 Q 12 0 0 [(0, vR 1 ti 0), (1, vI x1), (2, vI x2), (3, vI x3)] [] h := by
  refine s_iload_n (pc := 12) C dX1_sumLostByRoofs_12 rfl 3 rfl ?_
  refine s_aload_n (pc := 13) C dX1_sumLostByRoofs_13 rfl 0 rfl ?_
  refine s_geti (pc := 14) (s := 1) ckX1 (Or.inl rfl) (by decide) kw_168 (fun _ => rfl) C dX1_sumLostByRoofs_14 ?_
  refine s_icmp_ge (pc := 17) (tgt := 51) C dX1_sumLostByRoofs_17 (by decide) (fun c => ?_) (fun c => ?_)
  · have H := H.1 c
    refine s_iincN (pc := 51) C dX1_sumLostByRoofs_51 2 rfl (z' := (1 : Int32)) (by decide) (by decide) (fun y1 ey1 => ?_)
    have H := H y1 ey1
    show g_V _ _ _ _ _ _ _ _ _ [(2, vI y1), (0, vR 1 ti 0), (1, vI x1), (3, vI x3)] _ _
    refine s_goto (pc := 54) (tgt := 4) C dX1_sumLostByRoofs_54 (by decide) ?_
    exact s_sub (ls' := [(0, vR 1 ti 0), (1, vI x1), (2, vI y1)]) [1, 2, 0] rfl (hR4 x1 y1 h H)
  · have H := H.2 c
    refine s_aload_n (pc := 20) C dX1_sumLostByRoofs_20 rfl 0 rfl ?_
    refine s_getr (pc := 21) (s := 0) (a := 11) (b := ti) (c' := 0) ckX1 (by decide) kw_166 rfl C dX1_sumLostByRoofs_21 ?_
    refine s_iload_n (pc := 24) C dX1_sumLostByRoofs_24 rfl 3 rfl ?_
    refine s_aald (pc := 25) (kk := 11) (by decide) (by decide) H.1 C dX1_sumLostByRoofs_25 ?_
    have H := H.2
    show g_V _ _ _ _ _ _ _ _ _ _ (vR 2 ti (x3.toNatClampNeg) :: _) _
    refine s_nmj (fun j2 ej2 => ?_)
    have H := H j2 ej2
    refine s_geti (pc := 26) (s := 0) ckX6 (Or.inl rfl) (by decide) kw_114 (fun _ => rfl) C dX1_sumLostByRoofs_26 ?_
    refine s_iload_n (pc := 29) C dX1_sumLostByRoofs_29 rfl 2 rfl ?_
    refine s_icmp_ne (pc := 30) (tgt := 45) C dX1_sumLostByRoofs_30 (by decide) (fun c => ?_) (fun c => ?_)
    · have H := H.1 c
      exact s_sub (ls' := [(0, vR 1 ti 0), (1, vI x1), (2, vI x2), (3, vI x3)]) [0, 1, 2, 3] rfl (vX1_sumLostByRoofs_b45 C ti R4 hR4 R12 hR12 x1 x2 x3 h H)
    · have H := H.2 c
      refine s_iload_n (pc := 33) C dX1_sumLostByRoofs_33 rfl 1 rfl ?_
      refine s_aload_n (pc := 34) C dX1_sumLostByRoofs_34 rfl 0 rfl ?_
      refine s_getr (pc := 35) (s := 0) (a := 11) (b := ti) (c' := 0) ckX1 (by decide) kw_166 rfl C dX1_sumLostByRoofs_35 ?_
      refine s_iload_n (pc := 38) C dX1_sumLostByRoofs_38 rfl 3 rfl ?_
      refine s_aald (pc := 39) (kk := 11) (by decide) (by decide) H.1 C dX1_sumLostByRoofs_39 ?_
      have H := H.2
      show g_V _ _ _ _ _ _ _ _ _ _ (vR 2 ti (x3.toNatClampNeg) :: _) _
      refine s_nmj (fun j3 ej3 => ?_)
      have H := H j3 ej3
      refine s_geti (pc := 40) (s := 5) ckX6 (Or.inl rfl) (by decide) kw_129 (fun _ => rfl) C dX1_sumLostByRoofs_40 ?_
      refine s_iadd (pc := 43) C dX1_sumLostByRoofs_43 ?_
      refine s_namei (fun y4 ey4 => ?_)
      have H := H y4 ey4
      refine s_istore_n (pc := 44) (ls' := [(1, vI y4), (0, vR 1 ti 0), (2, vI x2), (3, vI x3)]) C dX1_sumLostByRoofs_44 rfl (by decide) rfl ?_
      exact s_sub (ls' := [(0, vR 1 ti 0), (1, vI y4), (2, vI x2), (3, vI x3)]) [1, 0, 2, 3] rfl (vX1_sumLostByRoofs_b45 C ti R4 hR4 R12 hR12 y4 x2 x3 h H)
theorem vX1_sumLostByRoofs_b12 {G : g_G} {X : g_X} {Q : g_R → g_Hp → Prop} (C : g_Cx y_ G X iX1_sumLostByRoofs) (ti : Nat) (R4 : Int32 → Int32 → g_Hp → Prop) (hR4 : ∀ (x1 : Int32) (x2 : Int32) (h : g_Hp), R4 x1 x2 h → g_V G X iX1_sumLostByRoofs 0 0 Q 4 0 0 [(0, vR 1 ti 0), (1, vI x1), (2, vI x2)] [] h) (x1 : Int32) (x2 : Int32) (x3 : Int32) (h : g_Hp) (H : wX1_sumLostByRoofs_b12 ti Q R4 x1 x2 x3 h) : g_V G X iX1_sumLostByRoofs 0 0 Q 12 0 0 [(0, vR 1 ti 0), (1, vI x1), (2, vI x2), (3, vI x3)] [] h := by
  obtain ⟨n, H⟩ := H
  induction n generalizing x1 x2 x3 h with
  | zero => exact H.elim
  | succ n ih => exact vX1_sumLostByRoofs_b12_B C ti R4 hR4 _ (fun x1 x2 x3 h H => ih x1 x2 x3 h H) x1 x2 x3 h H
set_option maxRecDepth 100000 in
set_option maxHeartbeats 4000000 in
theorem vX1_sumLostByRoofs_b4_B {G : g_G} {X : g_X} {Q : g_R → g_Hp → Prop} (C : g_Cx y_ G X iX1_sumLostByRoofs) (ti : Nat) (R4 : Int32 → Int32 → g_Hp → Prop) (hR4 : ∀ (x1 : Int32) (x2 : Int32) (h : g_Hp), R4 x1 x2 h → g_V G X iX1_sumLostByRoofs 0 0 Q 4 0 0 [(0, vR 1 ti 0), (1, vI x1), (2, vI x2)] [] h) (x1 : Int32) (x2 : Int32) (h : g_Hp) (H : wX1_sumLostByRoofs_b4_B ti Q R4 x1 x2 h) : g_V G X iX1_sumLostByRoofs 0 0 Q 4 0 0 [(0, vR 1 ti 0), (1, vI x1), (2, vI x2)] [] h := by
  refine s_iload_n (pc := 4) C dX1_sumLostByRoofs_4 rfl 2 rfl ?_
  refine s_bipush (pc := 5) C dX1_sumLostByRoofs_5 (x := (10 : Int32)) (by decide) ?_
  refine s_icmp_ge (pc := 7) (tgt := 57) C dX1_sumLostByRoofs_7 (by decide) (fun c => ?_) (fun c => ?_)
  · have H := H.1 c
    refine s_iload_n (pc := 57) C dX1_sumLostByRoofs_57 rfl 1 rfl ?_
    exact s_iret (pc := 58) rfl rfl ⟨by decide, by decide⟩ H C dX1_sumLostByRoofs_58
  · have H := H.2 c
    refine s_iconst (pc := 10) C dX1_sumLostByRoofs_10 (x := (0 : Int32)) (by decide) ?_
    refine s_istore_n (pc := 11) (ls' := [(3, vI (0 : Int32)), (0, vR 1 ti 0), (1, vI x1), (2, vI x2)]) C dX1_sumLostByRoofs_11 rfl (by decide) rfl ?_
    exact s_sub (ls' := [(0, vR 1 ti 0), (1, vI x1), (2, vI x2), (3, vI (0 : Int32))]) [1, 2, 3, 0] rfl (vX1_sumLostByRoofs_b12 C ti R4 hR4 x1 x2 (0 : Int32) h H)
theorem vX1_sumLostByRoofs_b4 {G : g_G} {X : g_X} {Q : g_R → g_Hp → Prop} (C : g_Cx y_ G X iX1_sumLostByRoofs) (ti : Nat) (x1 : Int32) (x2 : Int32) (h : g_Hp) (H : wX1_sumLostByRoofs_b4 ti Q x1 x2 h) : g_V G X iX1_sumLostByRoofs 0 0 Q 4 0 0 [(0, vR 1 ti 0), (1, vI x1), (2, vI x2)] [] h := by
  obtain ⟨n, H⟩ := H
  induction n generalizing x1 x2 h with
  | zero => exact H.elim
  | succ n ih => exact vX1_sumLostByRoofs_b4_B C ti _ (fun x1 x2 h H => ih x1 x2 h H) x1 x2 h H
set_option maxRecDepth 100000 in
set_option maxHeartbeats 4000000 in
theorem vX1_sumLostByRoofs {G : g_G} {X : g_X} {Q : g_R → g_Hp → Prop} (C : g_Cx y_ G X iX1_sumLostByRoofs) (ti : Nat) (h : g_Hp) (H : wX1_sumLostByRoofs ti h Q) : g_V G X iX1_sumLostByRoofs 0 0 Q 0 0 0 [(0, vR 1 ti 0)] [] h := by
  refine s_iconst (pc := 0) C dX1_sumLostByRoofs_0 (x := (0 : Int32)) (by decide) ?_
  refine s_istore_n (pc := 1) (ls' := [(1, vI (0 : Int32)), (0, vR 1 ti 0)]) C dX1_sumLostByRoofs_1 rfl (by decide) rfl ?_
  refine s_iconst (pc := 2) C dX1_sumLostByRoofs_2 (x := (0 : Int32)) (by decide) ?_
  refine s_istore_n (pc := 3) (ls' := [(2, vI (0 : Int32)), (1, vI (0 : Int32)), (0, vR 1 ti 0)]) C dX1_sumLostByRoofs_3 rfl (by decide) rfl ?_
  exact s_sub (ls' := [(0, vR 1 ti 0), (1, vI (0 : Int32)), (2, vI (0 : Int32))]) [2, 1, 0] rfl (vX1_sumLostByRoofs_b4 C ti (0 : Int32) (0 : Int32) h H)
theorem ctX1_sumLostByRoofs (l : Launch) (hl : l.stackTraces = false) {G : g_G} (ti : Nat) (h : g_Hp) (Q : g_R → g_Hp → Prop) (H : wX1_sumLostByRoofs ti h Q) : g_Met l y_ G iX1_sumLostByRoofs [vR 1 ti 0] h Q :=
  g_Met_of hl (by decide +kernel) rfl rfl (Nat.le_of_ble_eq_true rfl) (fun X C => vX1_sumLostByRoofs C ti h H)
/-! X2_init -/
abbrev iX2_init : g_I := (RX2, yX2_init, cX2_init, 1, none, [], { frames := 1, cells := 0, slots := 0, locals := 20 })
set_option maxRecDepth 100000 in
set_option maxHeartbeats 4000000 in
theorem vX2_init {G : g_G} {X : g_X} {Q : g_R → g_Hp → Prop} (C : g_Cx y_ G X iX2_init) (ti : Nat) (h : g_Hp) (H : wX2_init ti h Q) : g_V G X iX2_init 0 0 Q 0 0 0 [(0, vR 44 ti 0)] [] h := by
  refine s_aload_n (pc := 0) C dX2_init_0 rfl 0 rfl ?_
  refine s_obj (pc := 1) C kw_260 kw_97 kw_98 (Nat.le_of_ble_eq_true rfl) ⟨by decide, by decide⟩ dX2_init_1 ?_
  refine s_aload_n (pc := 4) C dX2_init_4 rfl 0 rfl ?_
  refine s_gets (pc := 5) zs_STRIKE (g_cst_R rfl) kw_261 C dX2_init_5 ?_
  refine s_putr (pc := 8) (s := 0) (x := Int32.ofNat (4 + 1)) (a := 21) (b := 4) (c' := 0) ckX2 (Or.inr rfl) (by decide) kw_263 (g_rtq_40 H.1.2) H.1.1 (Or.inl rfl) (by decide) (Or.inl rfl) (fun _ => rfl) (fun _ => rfl) C dX2_init_8 ?_
  have H := H.2
  refine s_name (fun h1 eh1 => ?_)
  have H := H h1 eh1
  refine s_sealS (Y := y_) (kk := 4) (i := ti) (j := 0) (by decide) H.1 ?_
  have H := H.2
  refine s_name (fun h2 eh2 => ?_)
  have H := H h2 eh2
  exact s_vret (pc := 11) rfl ⟨by decide, by decide⟩ H C dX2_init_11
theorem ctX2_init (l : Launch) (hl : l.stackTraces = false) {G : g_G} (ti : Nat) (h : g_Hp) (Q : g_R → g_Hp → Prop) (H : wX2_init ti h Q) : g_Met l y_ G iX2_init [vR 44 ti 0] h Q :=
  g_Met_of hl (by decide +kernel) rfl rfl (Nat.le_of_ble_eq_true rfl) (fun X C => vX2_init C ti h H)
/-! X3_init -/
abbrev iX3_init : g_I := (RX3, yX3_init, cX3_init, 2, none, [], { frames := 3, cells := 14, slots := 75, locals := 61 })
set_option maxRecDepth 100000 in
set_option maxHeartbeats 4000000 in
theorem vX3_init {G : g_G} {X : g_X} {Q : g_R → g_Hp → Prop} (C : g_Cx y_ G X iX3_init) (h : g_Hp) (H : wX3_init h Q) : g_V G X iX3_init 14 75 Q 0 0 0 [(0, vR 43 0 0)] [] h := by
  refine s_aload_n (pc := 0) C dX3_init_0 rfl 0 rfl ?_
  refine s_obj (pc := 1) C kw_220 kw_97 kw_98 (Nat.le_of_ble_eq_true rfl) ⟨by decide, by decide⟩ dX3_init_1 ?_
  refine s_aload_n (pc := 4) C dX3_init_4 rfl 0 rfl ?_
  obtain ⟨hf, H⟩ := H
  refine s_new (pc := 5) (i := 0) (j := 0) ckJ4 dkJ4 ⟨kw_221, kw_222, kw_63⟩ hf ⟨by decide, by decide⟩ C dX3_init_5 ?_
  refine s_name (fun h1 eh1 => ?_)
  have H := H h1 eh1
  refine s_dup (pc := 8) C dX3_init_8 rfl ?_
  refine s_calli (pc := 9) (nA := 0) (as := []) (st := [vR 46 0 0, vR 43 0 0]) (stk := [vR 46 0 0, vR 46 0 0, vR 43 0 0]) C (fun l hl => ctJ4_init_da8c8 l hl 0 0 _ _ H) ⟨⟨kw_223, kw_63, kw_225⟩, rfl, ⟨by decide, by decide, by decide +kernel⟩, by decide, by decide⟩ kw_224 rfl rfl rfl (Nat.le_of_ble_eq_true rfl) ⟨by decide, by decide⟩ rfl dX3_init_9 (g_Kq_V (fun h2 H => ?_) (fun E h2 H => s_prop rfl ⟨by decide, by decide⟩ H C))
  refine s_unraw (by decide) H.1 ?_
  have H := H.2
  refine s_putr (pc := 12) (s := 0) (x := (1 : Int32)) (a := 6) (b := 0) (c' := 0) ckX3 (Or.inr rfl) (by decide) kw_281 rfl (by decide) (Or.inl rfl) (by decide) (Or.inr ⟨rfl, rfl, rfl⟩) (fun _ => rfl) (fun _ => rfl) C dX3_init_12 ?_
  refine s_name (fun h3 eh3 => ?_)
  have H := H h3 eh3
  refine s_aload_n (pc := 15) C dX3_init_15 rfl 0 rfl ?_
  refine s_bipush (pc := 16) C dX3_init_16 (x := (11 : Int32)) (by decide) ?_
  refine s_newQ (pc := 18) (kk := 12) (i := 0) (j := 0) (N := 11) (Cq := "VaneUnion$Command") (by decide) (by decide) rfl kw_254 (by decide) H.1 (by decide) (by decide) (fun _ => rfl) (by decide) ⟨by decide, by decide⟩ C dX3_init_18 ?_
  have H := H.2
  refine s_name (fun h4 eh4 => ?_)
  have H := H h4 eh4
  refine s_putr (pc := 21) (s := 1) (x := (1 : Int32)) (a := 12) (b := 0) (c' := 0) ckX3 (Or.inr rfl) (by decide) kw_283 rfl (by decide) (Or.inr ⟨rfl, H.1⟩) (by decide) (Or.inr ⟨rfl, rfl, rfl⟩) (fun _ => rfl) (fun _ => rfl) C dX3_init_21 ?_
  have H := H.2
  refine s_name (fun h5 eh5 => ?_)
  have H := H h5 eh5
  refine s_iconst (pc := 24) C dX3_init_24 (x := (0 : Int32)) (by decide) ?_
  refine s_istore_n (pc := 25) (ls' := [(1, vI (0 : Int32)), (0, vR 43 0 0)]) C dX3_init_25 rfl (by decide) rfl ?_
  refine s_iload_n (pc := 26) C dX3_init_26 rfl 0 rfl ?_
  refine s_bipush (pc := 27) C dX3_init_27 (x := (11 : Int32)) (by decide) ?_
  refine s_icmp_ge (pc := 29) (tgt := 51) C dX3_init_29 (by decide) (fun c => absurd c (by decide)) (fun c => ?_)
  refine s_aload_n (pc := 32) C dX3_init_32 rfl 1 rfl ?_
  refine s_getr' (pc := 33) (s := 1) (a := 12) (b := 0) (c' := 0) (ar := 52) ckX3 (by decide) kw_283 rfl (by decide) H.1 H.2.1 C dX3_init_33 ?_
  have H := H.2.2
  refine s_iload_n (pc := 36) C dX3_init_36 rfl 0 rfl ?_
  obtain ⟨hf, H⟩ := H
  refine s_new (pc := 37) (i := 0) (j := 0) ckX2 dkX2 ⟨kw_254, kw_256, kw_66⟩ hf ⟨by decide, by decide⟩ C dX3_init_37 ?_
  refine s_name (fun h6 eh6 => ?_)
  have H := H h6 eh6
  refine s_dup (pc := 40) C dX3_init_40 rfl ?_
  refine s_calli (pc := 41) (nA := 0) (as := []) (st := [vR 44 0 0, vI (0 : Int32), vR 52 0 0]) (stk := [vR 44 0 0, vR 44 0 0, vI (0 : Int32), vR 52 0 0]) C (fun l hl => ctX2_init l hl 0 _ _ H) ⟨⟨kw_257, kw_66, kw_259⟩, rfl, ⟨by decide, by decide, by decide +kernel⟩, by decide, by decide⟩ kw_258 rfl rfl rfl (Nat.le_of_ble_eq_true rfl) ⟨by decide, by decide⟩ rfl dX3_init_41 (g_Kq_V (fun h7 H => ?_) (fun E h7 H => s_prop rfl ⟨by decide, by decide⟩ H C))
  refine s_unraw (by decide) H.1 ?_
  have H := H.2
  refine s_aast (pc := 44) (kk := 12) (by decide) (by decide) H.1.1 H.1.2 C dX3_init_44 ?_
  have H := H.2
  refine s_name (fun h8 eh8 => ?_)
  have H := H h8 eh8
  refine s_iinc (pc := 45) (y := (1 : Int32)) (ls' := [(1, vI (1 : Int32)), (0, vR 43 0 0)]) C dX3_init_45 0 rfl (by decide) (by decide) rfl ?_
  refine s_goto (pc := 48) (tgt := 26) C dX3_init_48 (by decide) ?_
  refine s_iload_n (pc := 26) C dX3_init_26 rfl 0 rfl ?_
  refine s_bipush (pc := 27) C dX3_init_27 (x := (11 : Int32)) (by decide) ?_
  refine s_icmp_ge (pc := 29) (tgt := 51) C dX3_init_29 (by decide) (fun c => absurd c (by decide)) (fun c => ?_)
  refine s_aload_n (pc := 32) C dX3_init_32 rfl 1 rfl ?_
  refine s_getr' (pc := 33) (s := 1) (a := 12) (b := 0) (c' := 0) (ar := 52) ckX3 (by decide) kw_283 rfl (by decide) H.1 H.2.1 C dX3_init_33 ?_
  have H := H.2.2
  refine s_iload_n (pc := 36) C dX3_init_36 rfl 0 rfl ?_
  obtain ⟨hf, H⟩ := H
  refine s_new (pc := 37) (i := 1) (j := 0) ckX2 dkX2 ⟨kw_254, kw_256, kw_66⟩ hf ⟨by decide, by decide⟩ C dX3_init_37 ?_
  refine s_name (fun h9 eh9 => ?_)
  have H := H h9 eh9
  refine s_dup (pc := 40) C dX3_init_40 rfl ?_
  refine s_calli (pc := 41) (nA := 0) (as := []) (st := [vR 44 1 0, vI (1 : Int32), vR 52 0 0]) (stk := [vR 44 1 0, vR 44 1 0, vI (1 : Int32), vR 52 0 0]) C (fun l hl => ctX2_init l hl 1 _ _ H) ⟨⟨kw_257, kw_66, kw_259⟩, rfl, ⟨by decide, by decide, by decide +kernel⟩, by decide, by decide⟩ kw_258 rfl rfl rfl (Nat.le_of_ble_eq_true rfl) ⟨by decide, by decide⟩ rfl dX3_init_41 (g_Kq_V (fun h10 H => ?_) (fun E h10 H => s_prop rfl ⟨by decide, by decide⟩ H C))
  refine s_unraw (by decide) H.1 ?_
  have H := H.2
  refine s_aast (pc := 44) (kk := 12) (by decide) (by decide) H.1.1 H.1.2 C dX3_init_44 ?_
  have H := H.2
  refine s_name (fun h11 eh11 => ?_)
  have H := H h11 eh11
  refine s_iinc (pc := 45) (y := (2 : Int32)) (ls' := [(1, vI (2 : Int32)), (0, vR 43 0 0)]) C dX3_init_45 0 rfl (by decide) (by decide) rfl ?_
  refine s_goto (pc := 48) (tgt := 26) C dX3_init_48 (by decide) ?_
  refine s_iload_n (pc := 26) C dX3_init_26 rfl 0 rfl ?_
  refine s_bipush (pc := 27) C dX3_init_27 (x := (11 : Int32)) (by decide) ?_
  refine s_icmp_ge (pc := 29) (tgt := 51) C dX3_init_29 (by decide) (fun c => absurd c (by decide)) (fun c => ?_)
  refine s_aload_n (pc := 32) C dX3_init_32 rfl 1 rfl ?_
  refine s_getr' (pc := 33) (s := 1) (a := 12) (b := 0) (c' := 0) (ar := 52) ckX3 (by decide) kw_283 rfl (by decide) H.1 H.2.1 C dX3_init_33 ?_
  have H := H.2.2
  refine s_iload_n (pc := 36) C dX3_init_36 rfl 0 rfl ?_
  obtain ⟨hf, H⟩ := H
  refine s_new (pc := 37) (i := 2) (j := 0) ckX2 dkX2 ⟨kw_254, kw_256, kw_66⟩ hf ⟨by decide, by decide⟩ C dX3_init_37 ?_
  refine s_name (fun h12 eh12 => ?_)
  have H := H h12 eh12
  refine s_dup (pc := 40) C dX3_init_40 rfl ?_
  refine s_calli (pc := 41) (nA := 0) (as := []) (st := [vR 44 2 0, vI (2 : Int32), vR 52 0 0]) (stk := [vR 44 2 0, vR 44 2 0, vI (2 : Int32), vR 52 0 0]) C (fun l hl => ctX2_init l hl 2 _ _ H) ⟨⟨kw_257, kw_66, kw_259⟩, rfl, ⟨by decide, by decide, by decide +kernel⟩, by decide, by decide⟩ kw_258 rfl rfl rfl (Nat.le_of_ble_eq_true rfl) ⟨by decide, by decide⟩ rfl dX3_init_41 (g_Kq_V (fun h13 H => ?_) (fun E h13 H => s_prop rfl ⟨by decide, by decide⟩ H C))
  refine s_unraw (by decide) H.1 ?_
  have H := H.2
  refine s_aast (pc := 44) (kk := 12) (by decide) (by decide) H.1.1 H.1.2 C dX3_init_44 ?_
  have H := H.2
  refine s_name (fun h14 eh14 => ?_)
  have H := H h14 eh14
  refine s_iinc (pc := 45) (y := (3 : Int32)) (ls' := [(1, vI (3 : Int32)), (0, vR 43 0 0)]) C dX3_init_45 0 rfl (by decide) (by decide) rfl ?_
  refine s_goto (pc := 48) (tgt := 26) C dX3_init_48 (by decide) ?_
  refine s_iload_n (pc := 26) C dX3_init_26 rfl 0 rfl ?_
  refine s_bipush (pc := 27) C dX3_init_27 (x := (11 : Int32)) (by decide) ?_
  refine s_icmp_ge (pc := 29) (tgt := 51) C dX3_init_29 (by decide) (fun c => absurd c (by decide)) (fun c => ?_)
  refine s_aload_n (pc := 32) C dX3_init_32 rfl 1 rfl ?_
  refine s_getr' (pc := 33) (s := 1) (a := 12) (b := 0) (c' := 0) (ar := 52) ckX3 (by decide) kw_283 rfl (by decide) H.1 H.2.1 C dX3_init_33 ?_
  have H := H.2.2
  refine s_iload_n (pc := 36) C dX3_init_36 rfl 0 rfl ?_
  obtain ⟨hf, H⟩ := H
  refine s_new (pc := 37) (i := 3) (j := 0) ckX2 dkX2 ⟨kw_254, kw_256, kw_66⟩ hf ⟨by decide, by decide⟩ C dX3_init_37 ?_
  refine s_name (fun h15 eh15 => ?_)
  have H := H h15 eh15
  refine s_dup (pc := 40) C dX3_init_40 rfl ?_
  refine s_calli (pc := 41) (nA := 0) (as := []) (st := [vR 44 3 0, vI (3 : Int32), vR 52 0 0]) (stk := [vR 44 3 0, vR 44 3 0, vI (3 : Int32), vR 52 0 0]) C (fun l hl => ctX2_init l hl 3 _ _ H) ⟨⟨kw_257, kw_66, kw_259⟩, rfl, ⟨by decide, by decide, by decide +kernel⟩, by decide, by decide⟩ kw_258 rfl rfl rfl (Nat.le_of_ble_eq_true rfl) ⟨by decide, by decide⟩ rfl dX3_init_41 (g_Kq_V (fun h16 H => ?_) (fun E h16 H => s_prop rfl ⟨by decide, by decide⟩ H C))
  refine s_unraw (by decide) H.1 ?_
  have H := H.2
  refine s_aast (pc := 44) (kk := 12) (by decide) (by decide) H.1.1 H.1.2 C dX3_init_44 ?_
  have H := H.2
  refine s_name (fun h17 eh17 => ?_)
  have H := H h17 eh17
  refine s_iinc (pc := 45) (y := (4 : Int32)) (ls' := [(1, vI (4 : Int32)), (0, vR 43 0 0)]) C dX3_init_45 0 rfl (by decide) (by decide) rfl ?_
  refine s_goto (pc := 48) (tgt := 26) C dX3_init_48 (by decide) ?_
  refine s_iload_n (pc := 26) C dX3_init_26 rfl 0 rfl ?_
  refine s_bipush (pc := 27) C dX3_init_27 (x := (11 : Int32)) (by decide) ?_
  refine s_icmp_ge (pc := 29) (tgt := 51) C dX3_init_29 (by decide) (fun c => absurd c (by decide)) (fun c => ?_)
  refine s_aload_n (pc := 32) C dX3_init_32 rfl 1 rfl ?_
  refine s_getr' (pc := 33) (s := 1) (a := 12) (b := 0) (c' := 0) (ar := 52) ckX3 (by decide) kw_283 rfl (by decide) H.1 H.2.1 C dX3_init_33 ?_
  have H := H.2.2
  refine s_iload_n (pc := 36) C dX3_init_36 rfl 0 rfl ?_
  obtain ⟨hf, H⟩ := H
  refine s_new (pc := 37) (i := 4) (j := 0) ckX2 dkX2 ⟨kw_254, kw_256, kw_66⟩ hf ⟨by decide, by decide⟩ C dX3_init_37 ?_
  refine s_name (fun h18 eh18 => ?_)
  have H := H h18 eh18
  refine s_dup (pc := 40) C dX3_init_40 rfl ?_
  refine s_calli (pc := 41) (nA := 0) (as := []) (st := [vR 44 4 0, vI (4 : Int32), vR 52 0 0]) (stk := [vR 44 4 0, vR 44 4 0, vI (4 : Int32), vR 52 0 0]) C (fun l hl => ctX2_init l hl 4 _ _ H) ⟨⟨kw_257, kw_66, kw_259⟩, rfl, ⟨by decide, by decide, by decide +kernel⟩, by decide, by decide⟩ kw_258 rfl rfl rfl (Nat.le_of_ble_eq_true rfl) ⟨by decide, by decide⟩ rfl dX3_init_41 (g_Kq_V (fun h19 H => ?_) (fun E h19 H => s_prop rfl ⟨by decide, by decide⟩ H C))
  refine s_unraw (by decide) H.1 ?_
  have H := H.2
  refine s_aast (pc := 44) (kk := 12) (by decide) (by decide) H.1.1 H.1.2 C dX3_init_44 ?_
  have H := H.2
  refine s_name (fun h20 eh20 => ?_)
  have H := H h20 eh20
  refine s_iinc (pc := 45) (y := (5 : Int32)) (ls' := [(1, vI (5 : Int32)), (0, vR 43 0 0)]) C dX3_init_45 0 rfl (by decide) (by decide) rfl ?_
  refine s_goto (pc := 48) (tgt := 26) C dX3_init_48 (by decide) ?_
  refine s_iload_n (pc := 26) C dX3_init_26 rfl 0 rfl ?_
  refine s_bipush (pc := 27) C dX3_init_27 (x := (11 : Int32)) (by decide) ?_
  refine s_icmp_ge (pc := 29) (tgt := 51) C dX3_init_29 (by decide) (fun c => absurd c (by decide)) (fun c => ?_)
  refine s_aload_n (pc := 32) C dX3_init_32 rfl 1 rfl ?_
  refine s_getr' (pc := 33) (s := 1) (a := 12) (b := 0) (c' := 0) (ar := 52) ckX3 (by decide) kw_283 rfl (by decide) H.1 H.2.1 C dX3_init_33 ?_
  have H := H.2.2
  refine s_iload_n (pc := 36) C dX3_init_36 rfl 0 rfl ?_
  obtain ⟨hf, H⟩ := H
  refine s_new (pc := 37) (i := 5) (j := 0) ckX2 dkX2 ⟨kw_254, kw_256, kw_66⟩ hf ⟨by decide, by decide⟩ C dX3_init_37 ?_
  refine s_name (fun h21 eh21 => ?_)
  have H := H h21 eh21
  refine s_dup (pc := 40) C dX3_init_40 rfl ?_
  refine s_calli (pc := 41) (nA := 0) (as := []) (st := [vR 44 5 0, vI (5 : Int32), vR 52 0 0]) (stk := [vR 44 5 0, vR 44 5 0, vI (5 : Int32), vR 52 0 0]) C (fun l hl => ctX2_init l hl 5 _ _ H) ⟨⟨kw_257, kw_66, kw_259⟩, rfl, ⟨by decide, by decide, by decide +kernel⟩, by decide, by decide⟩ kw_258 rfl rfl rfl (Nat.le_of_ble_eq_true rfl) ⟨by decide, by decide⟩ rfl dX3_init_41 (g_Kq_V (fun h22 H => ?_) (fun E h22 H => s_prop rfl ⟨by decide, by decide⟩ H C))
  refine s_unraw (by decide) H.1 ?_
  have H := H.2
  refine s_aast (pc := 44) (kk := 12) (by decide) (by decide) H.1.1 H.1.2 C dX3_init_44 ?_
  have H := H.2
  refine s_name (fun h23 eh23 => ?_)
  have H := H h23 eh23
  refine s_iinc (pc := 45) (y := (6 : Int32)) (ls' := [(1, vI (6 : Int32)), (0, vR 43 0 0)]) C dX3_init_45 0 rfl (by decide) (by decide) rfl ?_
  refine s_goto (pc := 48) (tgt := 26) C dX3_init_48 (by decide) ?_
  refine s_iload_n (pc := 26) C dX3_init_26 rfl 0 rfl ?_
  refine s_bipush (pc := 27) C dX3_init_27 (x := (11 : Int32)) (by decide) ?_
  refine s_icmp_ge (pc := 29) (tgt := 51) C dX3_init_29 (by decide) (fun c => absurd c (by decide)) (fun c => ?_)
  refine s_aload_n (pc := 32) C dX3_init_32 rfl 1 rfl ?_
  refine s_getr' (pc := 33) (s := 1) (a := 12) (b := 0) (c' := 0) (ar := 52) ckX3 (by decide) kw_283 rfl (by decide) H.1 H.2.1 C dX3_init_33 ?_
  have H := H.2.2
  refine s_iload_n (pc := 36) C dX3_init_36 rfl 0 rfl ?_
  obtain ⟨hf, H⟩ := H
  refine s_new (pc := 37) (i := 6) (j := 0) ckX2 dkX2 ⟨kw_254, kw_256, kw_66⟩ hf ⟨by decide, by decide⟩ C dX3_init_37 ?_
  refine s_name (fun h24 eh24 => ?_)
  have H := H h24 eh24
  refine s_dup (pc := 40) C dX3_init_40 rfl ?_
  refine s_calli (pc := 41) (nA := 0) (as := []) (st := [vR 44 6 0, vI (6 : Int32), vR 52 0 0]) (stk := [vR 44 6 0, vR 44 6 0, vI (6 : Int32), vR 52 0 0]) C (fun l hl => ctX2_init l hl 6 _ _ H) ⟨⟨kw_257, kw_66, kw_259⟩, rfl, ⟨by decide, by decide, by decide +kernel⟩, by decide, by decide⟩ kw_258 rfl rfl rfl (Nat.le_of_ble_eq_true rfl) ⟨by decide, by decide⟩ rfl dX3_init_41 (g_Kq_V (fun h25 H => ?_) (fun E h25 H => s_prop rfl ⟨by decide, by decide⟩ H C))
  refine s_unraw (by decide) H.1 ?_
  have H := H.2
  refine s_aast (pc := 44) (kk := 12) (by decide) (by decide) H.1.1 H.1.2 C dX3_init_44 ?_
  have H := H.2
  refine s_name (fun h26 eh26 => ?_)
  have H := H h26 eh26
  refine s_iinc (pc := 45) (y := (7 : Int32)) (ls' := [(1, vI (7 : Int32)), (0, vR 43 0 0)]) C dX3_init_45 0 rfl (by decide) (by decide) rfl ?_
  refine s_goto (pc := 48) (tgt := 26) C dX3_init_48 (by decide) ?_
  refine s_iload_n (pc := 26) C dX3_init_26 rfl 0 rfl ?_
  refine s_bipush (pc := 27) C dX3_init_27 (x := (11 : Int32)) (by decide) ?_
  refine s_icmp_ge (pc := 29) (tgt := 51) C dX3_init_29 (by decide) (fun c => absurd c (by decide)) (fun c => ?_)
  refine s_aload_n (pc := 32) C dX3_init_32 rfl 1 rfl ?_
  refine s_getr' (pc := 33) (s := 1) (a := 12) (b := 0) (c' := 0) (ar := 52) ckX3 (by decide) kw_283 rfl (by decide) H.1 H.2.1 C dX3_init_33 ?_
  have H := H.2.2
  refine s_iload_n (pc := 36) C dX3_init_36 rfl 0 rfl ?_
  obtain ⟨hf, H⟩ := H
  refine s_new (pc := 37) (i := 7) (j := 0) ckX2 dkX2 ⟨kw_254, kw_256, kw_66⟩ hf ⟨by decide, by decide⟩ C dX3_init_37 ?_
  refine s_name (fun h27 eh27 => ?_)
  have H := H h27 eh27
  refine s_dup (pc := 40) C dX3_init_40 rfl ?_
  refine s_calli (pc := 41) (nA := 0) (as := []) (st := [vR 44 7 0, vI (7 : Int32), vR 52 0 0]) (stk := [vR 44 7 0, vR 44 7 0, vI (7 : Int32), vR 52 0 0]) C (fun l hl => ctX2_init l hl 7 _ _ H) ⟨⟨kw_257, kw_66, kw_259⟩, rfl, ⟨by decide, by decide, by decide +kernel⟩, by decide, by decide⟩ kw_258 rfl rfl rfl (Nat.le_of_ble_eq_true rfl) ⟨by decide, by decide⟩ rfl dX3_init_41 (g_Kq_V (fun h28 H => ?_) (fun E h28 H => s_prop rfl ⟨by decide, by decide⟩ H C))
  refine s_unraw (by decide) H.1 ?_
  have H := H.2
  refine s_aast (pc := 44) (kk := 12) (by decide) (by decide) H.1.1 H.1.2 C dX3_init_44 ?_
  have H := H.2
  refine s_name (fun h29 eh29 => ?_)
  have H := H h29 eh29
  refine s_iinc (pc := 45) (y := (8 : Int32)) (ls' := [(1, vI (8 : Int32)), (0, vR 43 0 0)]) C dX3_init_45 0 rfl (by decide) (by decide) rfl ?_
  refine s_goto (pc := 48) (tgt := 26) C dX3_init_48 (by decide) ?_
  refine s_iload_n (pc := 26) C dX3_init_26 rfl 0 rfl ?_
  refine s_bipush (pc := 27) C dX3_init_27 (x := (11 : Int32)) (by decide) ?_
  refine s_icmp_ge (pc := 29) (tgt := 51) C dX3_init_29 (by decide) (fun c => absurd c (by decide)) (fun c => ?_)
  refine s_aload_n (pc := 32) C dX3_init_32 rfl 1 rfl ?_
  refine s_getr' (pc := 33) (s := 1) (a := 12) (b := 0) (c' := 0) (ar := 52) ckX3 (by decide) kw_283 rfl (by decide) H.1 H.2.1 C dX3_init_33 ?_
  have H := H.2.2
  refine s_iload_n (pc := 36) C dX3_init_36 rfl 0 rfl ?_
  obtain ⟨hf, H⟩ := H
  refine s_new (pc := 37) (i := 8) (j := 0) ckX2 dkX2 ⟨kw_254, kw_256, kw_66⟩ hf ⟨by decide, by decide⟩ C dX3_init_37 ?_
  refine s_name (fun h30 eh30 => ?_)
  have H := H h30 eh30
  refine s_dup (pc := 40) C dX3_init_40 rfl ?_
  refine s_calli (pc := 41) (nA := 0) (as := []) (st := [vR 44 8 0, vI (8 : Int32), vR 52 0 0]) (stk := [vR 44 8 0, vR 44 8 0, vI (8 : Int32), vR 52 0 0]) C (fun l hl => ctX2_init l hl 8 _ _ H) ⟨⟨kw_257, kw_66, kw_259⟩, rfl, ⟨by decide, by decide, by decide +kernel⟩, by decide, by decide⟩ kw_258 rfl rfl rfl (Nat.le_of_ble_eq_true rfl) ⟨by decide, by decide⟩ rfl dX3_init_41 (g_Kq_V (fun h31 H => ?_) (fun E h31 H => s_prop rfl ⟨by decide, by decide⟩ H C))
  refine s_unraw (by decide) H.1 ?_
  have H := H.2
  refine s_aast (pc := 44) (kk := 12) (by decide) (by decide) H.1.1 H.1.2 C dX3_init_44 ?_
  have H := H.2
  refine s_name (fun h32 eh32 => ?_)
  have H := H h32 eh32
  refine s_iinc (pc := 45) (y := (9 : Int32)) (ls' := [(1, vI (9 : Int32)), (0, vR 43 0 0)]) C dX3_init_45 0 rfl (by decide) (by decide) rfl ?_
  refine s_goto (pc := 48) (tgt := 26) C dX3_init_48 (by decide) ?_
  refine s_iload_n (pc := 26) C dX3_init_26 rfl 0 rfl ?_
  refine s_bipush (pc := 27) C dX3_init_27 (x := (11 : Int32)) (by decide) ?_
  refine s_icmp_ge (pc := 29) (tgt := 51) C dX3_init_29 (by decide) (fun c => absurd c (by decide)) (fun c => ?_)
  refine s_aload_n (pc := 32) C dX3_init_32 rfl 1 rfl ?_
  refine s_getr' (pc := 33) (s := 1) (a := 12) (b := 0) (c' := 0) (ar := 52) ckX3 (by decide) kw_283 rfl (by decide) H.1 H.2.1 C dX3_init_33 ?_
  have H := H.2.2
  refine s_iload_n (pc := 36) C dX3_init_36 rfl 0 rfl ?_
  obtain ⟨hf, H⟩ := H
  refine s_new (pc := 37) (i := 9) (j := 0) ckX2 dkX2 ⟨kw_254, kw_256, kw_66⟩ hf ⟨by decide, by decide⟩ C dX3_init_37 ?_
  refine s_name (fun h33 eh33 => ?_)
  have H := H h33 eh33
  refine s_dup (pc := 40) C dX3_init_40 rfl ?_
  refine s_calli (pc := 41) (nA := 0) (as := []) (st := [vR 44 9 0, vI (9 : Int32), vR 52 0 0]) (stk := [vR 44 9 0, vR 44 9 0, vI (9 : Int32), vR 52 0 0]) C (fun l hl => ctX2_init l hl 9 _ _ H) ⟨⟨kw_257, kw_66, kw_259⟩, rfl, ⟨by decide, by decide, by decide +kernel⟩, by decide, by decide⟩ kw_258 rfl rfl rfl (Nat.le_of_ble_eq_true rfl) ⟨by decide, by decide⟩ rfl dX3_init_41 (g_Kq_V (fun h34 H => ?_) (fun E h34 H => s_prop rfl ⟨by decide, by decide⟩ H C))
  refine s_unraw (by decide) H.1 ?_
  have H := H.2
  refine s_aast (pc := 44) (kk := 12) (by decide) (by decide) H.1.1 H.1.2 C dX3_init_44 ?_
  have H := H.2
  refine s_name (fun h35 eh35 => ?_)
  have H := H h35 eh35
  refine s_iinc (pc := 45) (y := (10 : Int32)) (ls' := [(1, vI (10 : Int32)), (0, vR 43 0 0)]) C dX3_init_45 0 rfl (by decide) (by decide) rfl ?_
  refine s_goto (pc := 48) (tgt := 26) C dX3_init_48 (by decide) ?_
  refine s_iload_n (pc := 26) C dX3_init_26 rfl 0 rfl ?_
  refine s_bipush (pc := 27) C dX3_init_27 (x := (11 : Int32)) (by decide) ?_
  refine s_icmp_ge (pc := 29) (tgt := 51) C dX3_init_29 (by decide) (fun c => absurd c (by decide)) (fun c => ?_)
  refine s_aload_n (pc := 32) C dX3_init_32 rfl 1 rfl ?_
  refine s_getr' (pc := 33) (s := 1) (a := 12) (b := 0) (c' := 0) (ar := 52) ckX3 (by decide) kw_283 rfl (by decide) H.1 H.2.1 C dX3_init_33 ?_
  have H := H.2.2
  refine s_iload_n (pc := 36) C dX3_init_36 rfl 0 rfl ?_
  obtain ⟨hf, H⟩ := H
  refine s_new (pc := 37) (i := 10) (j := 0) ckX2 dkX2 ⟨kw_254, kw_256, kw_66⟩ hf ⟨by decide, by decide⟩ C dX3_init_37 ?_
  refine s_name (fun h36 eh36 => ?_)
  have H := H h36 eh36
  refine s_dup (pc := 40) C dX3_init_40 rfl ?_
  refine s_calli (pc := 41) (nA := 0) (as := []) (st := [vR 44 10 0, vI (10 : Int32), vR 52 0 0]) (stk := [vR 44 10 0, vR 44 10 0, vI (10 : Int32), vR 52 0 0]) C (fun l hl => ctX2_init l hl 10 _ _ H) ⟨⟨kw_257, kw_66, kw_259⟩, rfl, ⟨by decide, by decide, by decide +kernel⟩, by decide, by decide⟩ kw_258 rfl rfl rfl (Nat.le_of_ble_eq_true rfl) ⟨by decide, by decide⟩ rfl dX3_init_41 (g_Kq_V (fun h37 H => ?_) (fun E h37 H => s_prop rfl ⟨by decide, by decide⟩ H C))
  refine s_unraw (by decide) H.1 ?_
  have H := H.2
  refine s_aast (pc := 44) (kk := 12) (by decide) (by decide) H.1.1 H.1.2 C dX3_init_44 ?_
  have H := H.2
  refine s_name (fun h38 eh38 => ?_)
  have H := H h38 eh38
  refine s_iinc (pc := 45) (y := (11 : Int32)) (ls' := [(1, vI (11 : Int32)), (0, vR 43 0 0)]) C dX3_init_45 0 rfl (by decide) (by decide) rfl ?_
  refine s_goto (pc := 48) (tgt := 26) C dX3_init_48 (by decide) ?_
  refine s_iload_n (pc := 26) C dX3_init_26 rfl 0 rfl ?_
  refine s_bipush (pc := 27) C dX3_init_27 (x := (11 : Int32)) (by decide) ?_
  refine s_icmp_ge (pc := 29) (tgt := 51) C dX3_init_29 (by decide) (fun c => ?_) (fun c => absurd c (by decide))
  refine s_sealS (Y := y_) (kk := 12) (i := 0) (j := 0) (by decide) H.1 ?_
  have H := H.2
  refine s_name (fun h39 eh39 => ?_)
  have H := H h39 eh39
  refine s_sealS (Y := y_) (kk := 3) (i := 0) (j := 0) (by decide) H.1 ?_
  have H := H.2
  refine s_name (fun h40 eh40 => ?_)
  have H := H h40 eh40
  exact s_vret (pc := 51) rfl ⟨by decide, by decide⟩ H C dX3_init_51
theorem ctX3_init (l : Launch) (hl : l.stackTraces = false) {G : g_G} (h : g_Hp) (Q : g_R → g_Hp → Prop) (H : wX3_init h Q) : g_Met l y_ G iX3_init [vR 43 0 0] h Q :=
  g_Met_of hl (by decide +kernel) rfl rfl (Nat.le_of_ble_eq_true rfl) (fun X C => vX3_init C h H)
