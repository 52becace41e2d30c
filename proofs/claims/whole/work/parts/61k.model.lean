/-! X8_meanLostDays -/
abbrev iX8_meanLostDays : g_I := (RX8, yX8_meanLostDays, cX8_meanLostDays, 1, (some .double), [], { frames := 2, cells := 0, slots := 0, locals := 42 })
set_option maxRecDepth 100000 in
set_option maxHeartbeats 4000000 in
theorem vX8_meanLostDays_b44 {G : g_G} {X : g_X} {Q : g_R → g_Hp → Prop} (C : g_Cx y_ G X iX8_meanLostDays) (z0 : UInt64) (h : g_Hp) (H : wX8_meanLostDays_b44 Q z0 h) : g_V G X iX8_meanLostDays 0 0 Q 44 0 0 [] [vV (.double z0)] h := by
  exact s_dret (pc := 44) rfl ⟨by decide, by decide⟩ H C dX8_meanLostDays_44
set_option maxRecDepth 100000 in
set_option maxHeartbeats 4000000 in
theorem vX8_meanLostDays_b15 {G : g_G} {X : g_X} {Q : g_R → g_Hp → Prop} (C : g_Cx y_ G X iX8_meanLostDays) (z0 : Int32) (h : g_Hp) (H : wX8_meanLostDays_b15 Q z0 h) : g_V G X iX8_meanLostDays 0 0 Q 15 0 0 [(0, vR 5 0 0)] [vI z0, vR 5 0 0] h := by
  refine s_puti (pc := 15) (s := 0) ckX8 (Or.inl rfl) (by decide) kw_1505 (fun _ => rfl) rfl rfl rfl C dX8_meanLostDays_15 ?_
  refine s_name (fun h1 eh1 => ?_)
  have H := H h1 eh1
  refine s_aload_n (pc := 18) C dX8_meanLostDays_18 rfl 0 rfl ?_
  refine s_geti (pc := 19) (s := 0) ckX8 (Or.inl rfl) (by decide) kw_1505 (fun _ => rfl) C dX8_meanLostDays_19 ?_
  refine s_if_ne (pc := 22) (tgt := 43) C dX8_meanLostDays_22 (by decide) (fun c => ?_) (fun c => ?_)
  · have H := H.1 c
    refine s_dconst0 (pc := 43) C dX8_meanLostDays_43 ?_
    exact s_sub (ls' := []) [] rfl (vX8_meanLostDays_b44 C (FP.dconst0) h1 H)
  · have H := H.2 c
    refine s_aload_n (pc := 25) C dX8_meanLostDays_25 rfl 0 rfl ?_
    refine s_callv (pc := 26) (nA := 0) (as := []) (st := []) (stk := [vR 5 0 0]) ckX8 (Or.inl rfl) C (fun l hl => ctX8_lost l hl _ _ H) ⟨⟨kw_1849, kw_69, kw_1852⟩, rfl, ⟨by decide, by decide, by decide +kernel⟩, by decide, by decide⟩ kw_1851 (g_selW kw_44) rfl (Nat.le_of_ble_eq_true rfl) ⟨by decide, by decide⟩ rfl dX8_meanLostDays_26 (g_Kq_I (fun u3 h2 H => ?_) (fun E h2 H => s_prop rfl ⟨by decide, by decide⟩ H C))
    refine s_i2d (pc := 29) C dX8_meanLostDays_29 ?_
    refine s_iconst (pc := 30) C dX8_meanLostDays_30 (x := (3 : Int32)) (by decide) ?_
    refine s_aload_n (pc := 31) C dX8_meanLostDays_31 rfl 0 rfl ?_
    refine s_getr (pc := 32) (s := 5) (a := 13) (b := 0) (c' := 0) ckX8 (by decide) kw_1510 rfl C dX8_meanLostDays_32 ?_
    refine s_iconst (pc := 35) C dX8_meanLostDays_35 (x := (0 : Int32)) (by decide) ?_
    refine s_iald (pc := 36) (show ¬ ((0 : Int32) < 0 ∨ 169 ≤ (0 : Int32).toNatClampNeg) by decide) C dX8_meanLostDays_36 ?_
    refine s_imul (pc := 37) C dX8_meanLostDays_37 ?_
    refine s_i2d (pc := 38) C dX8_meanLostDays_38 ?_
    refine s_ddiv (pc := 39) C dX8_meanLostDays_39 H.1 ?_
    have H := H.2
    refine s_goto (pc := 40) (tgt := 44) C dX8_meanLostDays_40 (by decide) ?_
    exact s_sub (ls' := []) [] rfl (vX8_meanLostDays_b44 C (FP.ddiv (FP.i2d u3) (FP.i2d ((3 : Int32) * (h2 13 0 0 ((0 : Int32).toNatClampNeg + 1))))) h2 H)
set_option maxRecDepth 100000 in
set_option maxHeartbeats 4000000 in
theorem vX8_meanLostDays {G : g_G} {X : g_X} {Q : g_R → g_Hp → Prop} (C : g_Cx y_ G X iX8_meanLostDays) (h : g_Hp) (H : wX8_meanLostDays h Q) : g_V G X iX8_meanLostDays 0 0 Q 0 0 0 [(0, vR 5 0 0)] [] h := by
  refine s_aload_n (pc := 0) C dX8_meanLostDays_0 rfl 0 rfl ?_
  refine s_aload_n (pc := 1) C dX8_meanLostDays_1 rfl 0 rfl ?_
  refine s_getr (pc := 2) (s := 5) (a := 13) (b := 0) (c' := 0) ckX8 (by decide) kw_1510 rfl C dX8_meanLostDays_2 ?_
  refine s_iconst (pc := 5) C dX8_meanLostDays_5 (x := (0 : Int32)) (by decide) ?_
  refine s_iald (pc := 6) (show ¬ ((0 : Int32) < 0 ∨ 169 ≤ (0 : Int32).toNatClampNeg) by decide) C dX8_meanLostDays_6 ?_
  refine s_if_ne (pc := 7) (tgt := 14) C dX8_meanLostDays_7 (by decide) (fun c => ?_) (fun c => ?_)
  · have H := H.1 c
    refine s_iconst (pc := 14) C dX8_meanLostDays_14 (x := (0 : Int32)) (by decide) ?_
    exact s_sub (ls' := [(0, vR 5 0 0)]) [0] rfl (vX8_meanLostDays_b15 C (0 : Int32) h H)
  · have H := H.2 c
    refine s_iconst (pc := 10) C dX8_meanLostDays_10 (x := (1 : Int32)) (by decide) ?_
    refine s_goto (pc := 11) (tgt := 15) C dX8_meanLostDays_11 (by decide) ?_
    exact s_sub (ls' := [(0, vR 5 0 0)]) [0] rfl (vX8_meanLostDays_b15 C (1 : Int32) h H)
theorem ctX8_meanLostDays (l : Launch) (hl : l.stackTraces = false) {G : g_G} (h : g_Hp) (Q : g_R → g_Hp → Prop) (H : wX8_meanLostDays h Q) : g_Met l y_ G iX8_meanLostDays [vR 5 0 0] h Q :=
  g_Met_of hl (by decide +kernel) rfl rfl (Nat.le_of_ble_eq_true rfl) (fun X C => vX8_meanLostDays C h H)
/-! X8_isConsistent -/
abbrev iX8_isConsistent : g_I := (RX8, yX8_isConsistent, cX8_isConsistent, 1, (some .boolean), [], { frames := 1, cells := 0, slots := 0, locals := 20 })
set_option maxRecDepth 100000 in
set_option maxHeartbeats 4000000 in
theorem vX8_isConsistent_b33 {G : g_G} {X : g_X} {Q : g_R → g_Hp → Prop} (C : g_Cx y_ G X iX8_isConsistent) (z0 : Int32) (h : g_Hp) (H : wX8_isConsistent_b33 Q z0 h) : g_V G X iX8_isConsistent 0 0 Q 33 0 0 [] [vI z0] h := by
  exact s_iret (pc := 33) rfl (g_nz H.1) ⟨by decide, by decide⟩ H.2 C dX8_isConsistent_33
set_option maxRecDepth 100000 in
set_option maxHeartbeats 4000000 in
theorem vX8_isConsistent_b32 {G : g_G} {X : g_X} {Q : g_R → g_Hp → Prop} (C : g_Cx y_ G X iX8_isConsistent) (h : g_Hp) (H : wX8_isConsistent_b32 Q h) : g_V G X iX8_isConsistent 0 0 Q 32 0 0 [] [] h := by
  refine s_iconst (pc := 32) C dX8_isConsistent_32 (x := (0 : Int32)) (by decide) ?_
  exact s_sub (ls' := []) [] rfl (vX8_isConsistent_b33 C (0 : Int32) h H)
set_option maxRecDepth 100000 in
set_option maxHeartbeats 4000000 in
theorem vX8_isConsistent {G : g_G} {X : g_X} {Q : g_R → g_Hp → Prop} (C : g_Cx y_ G X iX8_isConsistent) (h : g_Hp) (H : wX8_isConsistent h Q) : g_V G X iX8_isConsistent 0 0 Q 0 0 0 [(0, vR 5 0 0)] [] h := by
  refine s_aload_n (pc := 0) C dX8_isConsistent_0 rfl 0 rfl ?_
  refine s_iconst (pc := 1) C dX8_isConsistent_1 (x := (0 : Int32)) (by decide) ?_
  refine s_puti (pc := 2) (s := 0) ckX8 (Or.inl rfl) (by decide) kw_1505 (fun _ => rfl) rfl rfl rfl C dX8_isConsistent_2 ?_
  refine s_name (fun h1 eh1 => ?_)
  have H := H h1 eh1
  refine s_aload_n (pc := 5) C dX8_isConsistent_5 rfl 0 rfl ?_
  refine s_getr (pc := 6) (s := 5) (a := 13) (b := 0) (c' := 0) ckX8 (by decide) kw_1510 rfl C dX8_isConsistent_6 ?_
  refine s_bipush (pc := 9) C dX8_isConsistent_9 (x := (7 : Int32)) (by decide) ?_
  refine s_iald (pc := 11) (show ¬ ((7 : Int32) < 0 ∨ 169 ≤ (7 : Int32).toNatClampNeg) by decide) C dX8_isConsistent_11 ?_
  refine s_if_lt (pc := 12) (tgt := 32) C dX8_isConsistent_12 (by decide) (fun c => ?_) (fun c => ?_)
  · have H := H.1 c
    exact s_sub (ls' := []) [] rfl (vX8_isConsistent_b32 C  h1 H)
  · have H := H.2 c
    refine s_aload_n (pc := 15) C dX8_isConsistent_15 rfl 0 rfl ?_
    refine s_getr (pc := 16) (s := 5) (a := 13) (b := 0) (c' := 0) ckX8 (by decide) kw_1510 rfl C dX8_isConsistent_16 ?_
    refine s_bipush (pc := 19) C dX8_isConsistent_19 (x := (7 : Int32)) (by decide) ?_
    refine s_iald (pc := 21) (show ¬ ((7 : Int32) < 0 ∨ 169 ≤ (7 : Int32).toNatClampNeg) by decide) C dX8_isConsistent_21 ?_
    refine s_sipush (pc := 22) C dX8_isConsistent_22 (x := (9999 : Int32)) (by decide) ?_
    refine s_icmp_gt (pc := 25) (tgt := 32) C dX8_isConsistent_25 (by decide) (fun c => ?_) (fun c => ?_)
    · have H := H.1 c
      exact s_sub (ls' := []) [] rfl (vX8_isConsistent_b32 C  h1 H)
    · have H := H.2 c
      refine s_iconst (pc := 28) C dX8_isConsistent_28 (x := (1 : Int32)) (by decide) ?_
      refine s_goto (pc := 29) (tgt := 33) C dX8_isConsistent_29 (by decide) ?_
      exact s_sub (ls' := []) [] rfl (vX8_isConsistent_b33 C (1 : Int32) h1 H)
theorem ctX8_isConsistent (l : Launch) (hl : l.stackTraces = false) {G : g_G} (h : g_Hp) (Q : g_R → g_Hp → Prop) (H : wX8_isConsistent h Q) : g_Met l y_ G iX8_isConsistent [vR 5 0 0] h Q :=
  g_Met_of hl (by decide +kernel) rfl rfl (Nat.le_of_ble_eq_true rfl) (fun X C => vX8_isConsistent C h H)
/-! X8_undo -/
abbrev iX8_undo : g_I := (RX8, yX8_undo, cX8_undo, 2, (some .int), [], { frames := 1, cells := 0, slots := 0, locals := 20 })
set_option maxRecDepth 100000 in
set_option maxHeartbeats 4000000 in
theorem vX8_undo_b37_B {G : g_G} {X : g_X} {Q : g_R → g_Hp → Prop} (C : g_Cx y_ G X iX8_undo) (R37 : Int32 → g_Hp → Prop) (hR37 : ∀ (x1 : Int32) (h : g_Hp), R37 x1 h → g_V G X iX8_undo 0 0 Q 37 0 0 [(0, vR 5 0 0), (1, vI x1)] [] h) (x1 : Int32) (h : g_Hp) (H : wX8_undo_b37_B Q R37 x1 h) : g_V G X iX8_undo 0 0 Q 37 0 0 [(0, vR 5 0 0), (1, vI x1)] [] h := by
  refine s_iload_n (pc := 37) C dX8_undo_37 rfl 1 rfl ?_
  refine s_sipush (pc := 38) C dX8_undo_38 (x := (169 : Int32)) (by decide) ?_
  refine s_icmp_ge (pc := 41) (tgt := 71) C dX8_undo_41 (by decide) (fun c => ?_) (fun c => ?_)
  · have H := H.1 c
    refine s_aload_n (pc := 71) C dX8_undo_71 rfl 0 rfl ?_
    refine s_geti (pc := 72) (s := 1) ckX8 (Or.inl rfl) (by decide) kw_1506 (fun _ => rfl) C dX8_undo_72 ?_
    exact s_iret (pc := 75) rfl rfl ⟨by decide, by decide⟩ H C dX8_undo_75
  · have H := H.2 c
    refine s_aload_n (pc := 44) C dX8_undo_44 rfl 0 rfl ?_
    refine s_getr (pc := 45) (s := 5) (a := 13) (b := 0) (c' := 0) ckX8 (by decide) kw_1510 rfl C dX8_undo_45 ?_
    refine s_iload_n (pc := 48) C dX8_undo_48 rfl 1 rfl ?_
    refine s_aload_n (pc := 49) C dX8_undo_49 rfl 0 rfl ?_
    refine s_getr (pc := 50) (s := 8) (a := 13) (b := 3) (c' := 0) ckX8 (by decide) kw_1513 rfl C dX8_undo_50 ?_
    refine s_aload_n (pc := 53) C dX8_undo_53 rfl 0 rfl ?_
    refine s_geti (pc := 54) (s := 1) ckX8 (Or.inl rfl) (by decide) kw_1506 (fun _ => rfl) C dX8_undo_54 ?_
    refine s_sipush (pc := 57) C dX8_undo_57 (x := (169 : Int32)) (by decide) ?_
    refine s_imul (pc := 60) C dX8_undo_60 ?_
    refine s_iload_n (pc := 61) C dX8_undo_61 rfl 1 rfl ?_
    refine s_iadd (pc := 62) C dX8_undo_62 ?_
    refine s_iald (pc := 63) H.1 C dX8_undo_63 ?_
    have H := H.2
    refine s_iast (pc := 64) H.1 C dX8_undo_64 ?_
    have H := H.2
    refine s_name (fun h1 eh1 => ?_)
    have H := H h1 eh1
    refine s_iincN (pc := 65) C dX8_undo_65 1 rfl (z' := (1 : Int32)) (by decide) (by decide) (fun y2 ey2 => ?_)
    have H := H y2 ey2
    show g_V _ _ _ _ _ _ _ _ _ [(1, vI y2), (0, vR 5 0 0)] _ _
    refine s_goto (pc := 68) (tgt := 37) C dX8_undo_68 (by decide) ?_
    exact s_sub (ls' := [(0, vR 5 0 0), (1, vI y2)]) [1, 0] rfl (hR37 y2 h1 H)
theorem vX8_undo_b37 {G : g_G} {X : g_X} {Q : g_R → g_Hp → Prop} (C : g_Cx y_ G X iX8_undo) (x1 : Int32) (h : g_Hp) (H : wX8_undo_b37 Q x1 h) : g_V G X iX8_undo 0 0 Q 37 0 0 [(0, vR 5 0 0), (1, vI x1)] [] h := by
  obtain ⟨n, H⟩ := H
  induction n generalizing x1 h with
  | zero => exact H.elim
  | succ n ih => exact vX8_undo_b37_B C _ (fun x1 h H => ih x1 h H) x1 h H
set_option maxRecDepth 100000 in
set_option maxHeartbeats 4000000 in
theorem vX8_undo_b13 {G : g_G} {X : g_X} {Q : g_R → g_Hp → Prop} (C : g_Cx y_ G X iX8_undo) (z0 : Int32) (h : g_Hp) (H : wX8_undo_b13 Q z0 h) : g_V G X iX8_undo 0 0 Q 13 0 0 [(0, vR 5 0 0)] [vI z0, vR 5 0 0] h := by
  refine s_puti (pc := 13) (s := 0) ckX8 (Or.inl rfl) (by decide) kw_1505 (fun _ => rfl) rfl rfl rfl C dX8_undo_13 ?_
  refine s_name (fun h1 eh1 => ?_)
  have H := H h1 eh1
  refine s_aload_n (pc := 16) C dX8_undo_16 rfl 0 rfl ?_
  refine s_geti (pc := 17) (s := 0) ckX8 (Or.inl rfl) (by decide) kw_1505 (fun _ => rfl) C dX8_undo_17 ?_
  refine s_if_eq (pc := 20) (tgt := 25) C dX8_undo_20 (by decide) (fun c => ?_) (fun c => ?_)
  · have H := H.1 c
    refine s_aload_n (pc := 25) C dX8_undo_25 rfl 0 rfl ?_
    refine s_dup (pc := 26) C dX8_undo_26 rfl ?_
    refine s_geti (pc := 27) (s := 1) ckX8 (Or.inl rfl) (by decide) kw_1506 (fun _ => rfl) C dX8_undo_27 ?_
    refine s_iconst (pc := 30) C dX8_undo_30 (x := (1 : Int32)) (by decide) ?_
    refine s_isub (pc := 31) C dX8_undo_31 ?_
    refine s_puti (pc := 32) (s := 1) ckX8 (Or.inl rfl) (by decide) kw_1506 (fun _ => rfl) rfl rfl rfl C dX8_undo_32 ?_
    refine s_name (fun h2 eh2 => ?_)
    have H := H h2 eh2
    refine s_iconst (pc := 35) C dX8_undo_35 (x := (0 : Int32)) (by decide) ?_
    refine s_istore_n (pc := 36) (ls' := [(1, vI (0 : Int32)), (0, vR 5 0 0)]) C dX8_undo_36 rfl (by decide) rfl ?_
    exact s_sub (ls' := [(0, vR 5 0 0), (1, vI (0 : Int32))]) [1, 0] rfl (vX8_undo_b37 C (0 : Int32) h2 H)
  · have H := H.2 c
    refine s_iconst (pc := 23) C dX8_undo_23 (x := (0 : Int32)) (by decide) ?_
    exact s_iret (pc := 24) rfl rfl ⟨by decide, by decide⟩ H C dX8_undo_24
set_option maxRecDepth 100000 in
set_option maxHeartbeats 4000000 in
theorem vX8_undo {G : g_G} {X : g_X} {Q : g_R → g_Hp → Prop} (C : g_Cx y_ G X iX8_undo) (h : g_Hp) (H : wX8_undo h Q) : g_V G X iX8_undo 0 0 Q 0 0 0 [(0, vR 5 0 0)] [] h := by
  refine s_aload_n (pc := 0) C dX8_undo_0 rfl 0 rfl ?_
  refine s_aload_n (pc := 1) C dX8_undo_1 rfl 0 rfl ?_
  refine s_geti (pc := 2) (s := 1) ckX8 (Or.inl rfl) (by decide) kw_1506 (fun _ => rfl) C dX8_undo_2 ?_
  refine s_if_ne (pc := 5) (tgt := 12) C dX8_undo_5 (by decide) (fun c => ?_) (fun c => ?_)
  · have H := H.1 c
    refine s_iconst (pc := 12) C dX8_undo_12 (x := (0 : Int32)) (by decide) ?_
    exact s_sub (ls' := [(0, vR 5 0 0)]) [0] rfl (vX8_undo_b13 C (0 : Int32) h H)
  · have H := H.2 c
    refine s_iconst (pc := 8) C dX8_undo_8 (x := (1 : Int32)) (by decide) ?_
    refine s_goto (pc := 9) (tgt := 13) C dX8_undo_9 (by decide) ?_
    exact s_sub (ls' := [(0, vR 5 0 0)]) [0] rfl (vX8_undo_b13 C (1 : Int32) h H)
theorem ctX8_undo (l : Launch) (hl : l.stackTraces = false) {G : g_G} (h : g_Hp) (Q : g_R → g_Hp → Prop) (H : wX8_undo h Q) : g_Met l y_ G iX8_undo [vR 5 0 0] h Q :=
  g_Met_of hl (by decide +kernel) rfl rfl (Nat.le_of_ble_eq_true rfl) (fun X C => vX8_undo C h H)
/-! X8_save -/
abbrev iX8_save : g_I := (RX8, yX8_save, cX8_save, 1, (some .int), [], { frames := 2, cells := 0, slots := 0, locals := 42 })
set_option maxRecDepth 100000 in
set_option maxHeartbeats 4000000 in
theorem vX8_save {G : g_G} {X : g_X} {Q : g_R → g_Hp → Prop} (C : g_Cx y_ G X iX8_save) (h : g_Hp) (H : wX8_save h Q) : g_V G X iX8_save 0 0 Q 0 0 0 [(0, vR 5 0 0)] [] h := by
  refine s_aload_n (pc := 0) C dX8_save_0 rfl 0 rfl ?_
  refine s_iconst (pc := 1) C dX8_save_1 (x := (0 : Int32)) (by decide) ?_
  refine s_puti (pc := 2) (s := 0) ckX8 (Or.inl rfl) (by decide) kw_1505 (fun _ => rfl) rfl rfl rfl C dX8_save_2 ?_
  refine s_name (fun h1 eh1 => ?_)
  have H := H h1 eh1
  refine s_aload_n (pc := 5) C dX8_save_5 rfl 0 rfl ?_
  refine s_getr (pc := 6) (s := 7) (a := 13) (b := 2) (c' := 0) ckX8 (by decide) kw_1512 rfl C dX8_save_6 ?_
  refine s_aload_n (pc := 9) C dX8_save_9 rfl 0 rfl ?_
  refine s_getr (pc := 10) (s := 5) (a := 13) (b := 0) (c' := 0) ckX8 (by decide) kw_1510 rfl C dX8_save_10 ?_
  refine s_calls (pc := 13) (nA := 2) (as := [vR 13 2 0, vR 13 0 0]) (st := []) (stk := [vR 13 0 0, vR 13 2 0]) C (fun l hl => ctX8_lays l hl 2 0 _ _ H) ⟨⟨kw_1579, kw_69, kw_1581⟩, rfl, ⟨by decide, by decide, by decide +kernel⟩, by decide, by decide⟩ kw_1580 rfl (Nat.le_of_ble_eq_true rfl) ⟨by decide, by decide⟩ rfl dX8_save_13 (g_Kq_V (fun h2 H => ?_) (fun E h2 H => s_prop rfl ⟨by decide, by decide⟩ H C))
  refine s_aload_n (pc := 16) C dX8_save_16 rfl 0 rfl ?_
  refine s_iconst (pc := 17) C dX8_save_17 (x := (1 : Int32)) (by decide) ?_
  refine s_puti (pc := 18) (s := 4) ckX8 (Or.inl rfl) (by decide) kw_1509 (fun _ => rfl) rfl (by decide) (by decide) C dX8_save_18 ?_
  refine s_name (fun h3 eh3 => ?_)
  have H := H h3 eh3
  refine s_aload_n (pc := 21) C dX8_save_21 rfl 0 rfl ?_
  refine s_getr (pc := 22) (s := 5) (a := 13) (b := 0) (c' := 0) ckX8 (by decide) kw_1510 rfl C dX8_save_22 ?_
  refine s_iconst (pc := 25) C dX8_save_25 (x := (0 : Int32)) (by decide) ?_
  refine s_iald (pc := 26) (show ¬ ((0 : Int32) < 0 ∨ 169 ≤ (0 : Int32).toNatClampNeg) by decide) C dX8_save_26 ?_
  exact s_iret (pc := 27) rfl rfl ⟨by decide, by decide⟩ H C dX8_save_27
theorem ctX8_save (l : Launch) (hl : l.stackTraces = false) {G : g_G} (h : g_Hp) (Q : g_R → g_Hp → Prop) (H : wX8_save h Q) : g_Met l y_ G iX8_save [vR 5 0 0] h Q :=
  g_Met_of hl (by decide +kernel) rfl rfl (Nat.le_of_ble_eq_true rfl) (fun X C => vX8_save C h H)
/-! X8_restore -/
abbrev iX8_restore : g_I := (RX8, yX8_restore, cX8_restore, 1, (some .int), [], { frames := 2, cells := 0, slots := 0, locals := 42 })
set_option maxRecDepth 100000 in
set_option maxHeartbeats 4000000 in
theorem vX8_restore_b13 {G : g_G} {X : g_X} {Q : g_R → g_Hp → Prop} (C : g_Cx y_ G X iX8_restore) (z0 : Int32) (h : g_Hp) (H : wX8_restore_b13 Q z0 h) : g_V G X iX8_restore 0 0 Q 13 0 0 [(0, vR 5 0 0)] [vI z0, vR 5 0 0] h := by
  refine s_puti (pc := 13) (s := 0) ckX8 (Or.inl rfl) (by decide) kw_1505 (fun _ => rfl) rfl rfl rfl C dX8_restore_13 ?_
  refine s_name (fun h1 eh1 => ?_)
  have H := H h1 eh1
  refine s_aload_n (pc := 16) C dX8_restore_16 rfl 0 rfl ?_
  refine s_geti (pc := 17) (s := 0) ckX8 (Or.inl rfl) (by decide) kw_1505 (fun _ => rfl) C dX8_restore_17 ?_
  refine s_if_eq (pc := 20) (tgt := 25) C dX8_restore_20 (by decide) (fun c => ?_) (fun c => ?_)
  · have H := H.1 c
    refine s_aload_n (pc := 25) C dX8_restore_25 rfl 0 rfl ?_
    refine s_getr (pc := 26) (s := 5) (a := 13) (b := 0) (c' := 0) ckX8 (by decide) kw_1510 rfl C dX8_restore_26 ?_
    refine s_aload_n (pc := 29) C dX8_restore_29 rfl 0 rfl ?_
    refine s_getr (pc := 30) (s := 7) (a := 13) (b := 2) (c' := 0) ckX8 (by decide) kw_1512 rfl C dX8_restore_30 ?_
    refine s_calls (pc := 33) (nA := 2) (as := [vR 13 0 0, vR 13 2 0]) (st := []) (stk := [vR 13 2 0, vR 13 0 0]) C (fun l hl => ctX8_lays l hl 0 2 _ _ H) ⟨⟨kw_1579, kw_69, kw_1581⟩, rfl, ⟨by decide, by decide, by decide +kernel⟩, by decide, by decide⟩ kw_1580 rfl (Nat.le_of_ble_eq_true rfl) ⟨by decide, by decide⟩ rfl dX8_restore_33 (g_Kq_V (fun h2 H => ?_) (fun E h2 H => s_prop rfl ⟨by decide, by decide⟩ H C))
    refine s_aload_n (pc := 36) C dX8_restore_36 rfl 0 rfl ?_
    refine s_iconst (pc := 37) C dX8_restore_37 (x := (0 : Int32)) (by decide) ?_
    refine s_puti (pc := 38) (s := 1) ckX8 (Or.inl rfl) (by decide) kw_1506 (fun _ => rfl) rfl rfl rfl C dX8_restore_38 ?_
    refine s_name (fun h3 eh3 => ?_)
    have H := H h3 eh3
    refine s_aload_n (pc := 41) C dX8_restore_41 rfl 0 rfl ?_
    refine s_getr (pc := 42) (s := 5) (a := 13) (b := 0) (c' := 0) ckX8 (by decide) kw_1510 rfl C dX8_restore_42 ?_
    refine s_iconst (pc := 45) C dX8_restore_45 (x := (0 : Int32)) (by decide) ?_
    refine s_iald (pc := 46) (show ¬ ((0 : Int32) < 0 ∨ 169 ≤ (0 : Int32).toNatClampNeg) by decide) C dX8_restore_46 ?_
    exact s_iret (pc := 47) rfl rfl ⟨by decide, by decide⟩ H C dX8_restore_47
  · have H := H.2 c
    refine s_iconst (pc := 23) C dX8_restore_23 (x := (0 : Int32)) (by decide) ?_
    exact s_iret (pc := 24) rfl rfl ⟨by decide, by decide⟩ H C dX8_restore_24
set_option maxRecDepth 100000 in
set_option maxHeartbeats 4000000 in
theorem vX8_restore {G : g_G} {X : g_X} {Q : g_R → g_Hp → Prop} (C : g_Cx y_ G X iX8_restore) (h : g_Hp) (H : wX8_restore h Q) : g_V G X iX8_restore 0 0 Q 0 0 0 [(0, vR 5 0 0)] [] h := by
  refine s_aload_n (pc := 0) C dX8_restore_0 rfl 0 rfl ?_
  refine s_aload_n (pc := 1) C dX8_restore_1 rfl 0 rfl ?_
  refine s_geti (pc := 2) (s := 4) ckX8 (Or.inl rfl) (by decide) kw_1509 (fun _ => rfl) C dX8_restore_2 ?_
  refine s_if_eq (pc := 5) (tgt := 12) C dX8_restore_5 (by decide) (fun c => ?_) (fun c => ?_)
  · have H := H.1 c
    refine s_iconst (pc := 12) C dX8_restore_12 (x := (1 : Int32)) (by decide) ?_
    exact s_sub (ls' := [(0, vR 5 0 0)]) [0] rfl (vX8_restore_b13 C (1 : Int32) h H)
  · have H := H.2 c
    refine s_iconst (pc := 8) C dX8_restore_8 (x := (0 : Int32)) (by decide) ?_
    refine s_goto (pc := 9) (tgt := 13) C dX8_restore_9 (by decide) ?_
    exact s_sub (ls' := [(0, vR 5 0 0)]) [0] rfl (vX8_restore_b13 C (0 : Int32) h H)
theorem ctX8_restore (l : Launch) (hl : l.stackTraces = false) {G : g_G} (h : g_Hp) (Q : g_R → g_Hp → Prop) (H : wX8_restore h Q) : g_Met l y_ G iX8_restore [vR 5 0 0] h Q :=
  g_Met_of hl (by decide +kernel) rfl rfl (Nat.le_of_ble_eq_true rfl) (fun X C => vX8_restore C h H)
