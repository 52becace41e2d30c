/-! X7_undo -/
abbrev iX7_undo : g_I := (RX7, yX7_undo, cX7_undo, 1, (some .int), [], { frames := 6, cells := 1, slots := 6, locals := 95 })
set_option maxRecDepth 100000 in
set_option maxHeartbeats 4000000 in
theorem vX7_undo {G : g_G} {X : g_X} {Q : g_R → g_Hp → Prop} (C : g_Cx y_ G X iX7_undo) (h : g_Hp) (H : wX7_undo h Q) : g_V G X iX7_undo 1 6 Q 0 0 0 [(0, vR 0 0 0)] [] h := by
  refine s_aload_n (pc := 0) C dX7_undo_0 rfl 0 rfl ?_
  refine s_geti (pc := 1) (s := 3) ckX7 (Or.inl rfl) (by decide) kw_303 (fun _ => rfl) C dX7_undo_1 ?_
  refine s_if_ne (pc := 4) (tgt := 18) C dX7_undo_4 (by decide) (fun c => ?_) (fun c => ?_)
  · have H := H.1 c
    refine s_aload_n (pc := 18) C dX7_undo_18 rfl 0 rfl ?_
    refine s_dup (pc := 19) C dX7_undo_19 rfl ?_
    refine s_geti (pc := 20) (s := 3) ckX7 (Or.inl rfl) (by decide) kw_303 (fun _ => rfl) C dX7_undo_20 ?_
    refine s_iconst (pc := 23) C dX7_undo_23 (x := (1 : Int32)) (by decide) ?_
    refine s_isub (pc := 24) C dX7_undo_24 ?_
    refine s_puti (pc := 25) (s := 3) ckX7 (Or.inl rfl) (by decide) kw_303 (fun _ => rfl) rfl rfl rfl C dX7_undo_25 ?_
    refine s_name (fun h1 eh1 => ?_)
    have H := H h1 eh1
    refine s_aload_n (pc := 28) C dX7_undo_28 rfl 0 rfl ?_
    refine s_aload_n (pc := 29) C dX7_undo_29 rfl 0 rfl ?_
    refine s_geti (pc := 30) (s := 2) ckX7 (Or.inl rfl) (by decide) kw_302 (fun _ => rfl) C dX7_undo_30 ?_
    refine s_bipush (pc := 33) C dX7_undo_33 (x := (9 : Int32)) (by decide) ?_
    refine s_iadd (pc := 35) C dX7_undo_35 ?_
    refine s_iconst (pc := 36) C dX7_undo_36 (x := (1 : Int32)) (by decide) ?_
    refine s_isub (pc := 37) C dX7_undo_37 ?_
    refine s_bipush (pc := 38) C dX7_undo_38 (x := (9 : Int32)) (by decide) ?_
    refine s_irem (pc := 40) C dX7_undo_40 H.1 ?_
    have H := H.2
    refine s_puti (pc := 41) (s := 2) ckX7 (Or.inl rfl) (by decide) kw_302 (fun _ => rfl) rfl rfl rfl C dX7_undo_41 ?_
    refine s_name (fun h2 eh2 => ?_)
    have H := H h2 eh2
    refine s_aload_n (pc := 44) C dX7_undo_44 rfl 0 rfl ?_
    refine s_getr (pc := 45) (s := 0) (a := 1) (b := 0) (c' := 0) ckX7 (by decide) kw_300 rfl C dX7_undo_45 ?_
    refine s_aload_n (pc := 48) C dX7_undo_48 rfl 0 rfl ?_
    refine s_getr (pc := 49) (s := 1) (a := 10) (b := 0) (c' := 0) ckX7 (by decide) kw_301 rfl C dX7_undo_49 ?_
    refine s_aload_n (pc := 52) C dX7_undo_52 rfl 0 rfl ?_
    refine s_geti (pc := 53) (s := 2) ckX7 (Or.inl rfl) (by decide) kw_302 (fun _ => rfl) C dX7_undo_53 ?_
    refine s_aald (pc := 56) (kk := 10) (by decide) (by decide) H.1 C dX7_undo_56 ?_
    have H := H.2
    show g_V _ _ _ _ _ _ _ _ _ _ (vR 1 ((h2 0 0 0 3).toNatClampNeg + 1) 0 :: _) _
    refine s_nmi (fun i3 ei3 => ?_)
    have H := H i3 ei3
    refine s_callv (pc := 57) (nA := 1) (as := [vR 1 i3 0]) (st := []) (stk := [vR 1 i3 0, vR 1 0 0]) ckX1 (Or.inl rfl) C (fun l hl => ctX1_copyFrom l hl 0 i3 _ _ H) ⟨⟨kw_542, kw_59, kw_545⟩, rfl, ⟨by decide, by decide, by decide +kernel⟩, by decide, by decide⟩ kw_543 (g_selW kw_544) rfl (Nat.le_of_ble_eq_true rfl) ⟨by decide, by decide⟩ rfl dX7_undo_57 (g_Kq_V (fun h4 H => ?_) (fun E h4 H => s_prop rfl ⟨by decide, by decide⟩ H C))
    refine s_aload_n (pc := 60) C dX7_undo_60 rfl 0 rfl ?_
    refine s_geti (pc := 61) (s := 3) ckX7 (Or.inl rfl) (by decide) kw_303 (fun _ => rfl) C dX7_undo_61 ?_
    exact s_iret (pc := 64) rfl rfl ⟨by decide, by decide⟩ H C dX7_undo_64
  · have H := H.2 c
    exact s_throwW (pc := 7) (names := ["java/lang/RuntimeException", "java/lang/Exception"]) tw_RX7_IllegalStateException ss_RX7_330 rfl ⟨by decide, Nat.le_of_ble_eq_true rfl, by decide, by decide⟩ ⟨by decide, by decide⟩ H C dX7_undo_7 dX7_undo_10 dX7_undo_11 dX7_undo_14 dX7_undo_17
theorem ctX7_undo (l : Launch) (hl : l.stackTraces = false) {G : g_G} (h : g_Hp) (Q : g_R → g_Hp → Prop) (H : wX7_undo h Q) : g_Met l y_ G iX7_undo [vR 0 0 0] h Q :=
  g_Met_of hl (by decide +kernel) rfl rfl (Nat.le_of_ble_eq_true rfl) (fun X C => vX7_undo C h H)
/-! X7_save -/
abbrev iX7_save : g_I := (RX7, yX7_save, cX7_save, 1, (some .int), [], { frames := 3, cells := 0, slots := 0, locals := 63 })
set_option maxRecDepth 100000 in
set_option maxHeartbeats 4000000 in
theorem vX7_save {G : g_G} {X : g_X} {Q : g_R → g_Hp → Prop} (C : g_Cx y_ G X iX7_save) (h : g_Hp) (H : wX7_save h Q) : g_V G X iX7_save 0 0 Q 0 0 0 [(0, vR 0 0 0)] [] h := by
  refine s_aload_n (pc := 0) C dX7_save_0 rfl 0 rfl ?_
  refine s_getr (pc := 1) (s := 4) (a := 1) (b := 10) (c' := 0) ckX7 (by decide) kw_304 rfl C dX7_save_1 ?_
  refine s_aload_n (pc := 4) C dX7_save_4 rfl 0 rfl ?_
  refine s_getr (pc := 5) (s := 0) (a := 1) (b := 0) (c' := 0) ckX7 (by decide) kw_300 rfl C dX7_save_5 ?_
  refine s_callv (pc := 8) (nA := 1) (as := [vR 1 0 0]) (st := []) (stk := [vR 1 0 0, vR 1 10 0]) ckX1 (Or.inl rfl) C (fun l hl => ctX1_copyFrom l hl 10 0 _ _ H) ⟨⟨kw_542, kw_59, kw_545⟩, rfl, ⟨by decide, by decide, by decide +kernel⟩, by decide, by decide⟩ kw_543 (g_selW kw_544) rfl (Nat.le_of_ble_eq_true rfl) ⟨by decide, by decide⟩ rfl dX7_save_8 (g_Kq_V (fun h1 H => ?_) (fun E h1 H => s_prop rfl ⟨by decide, by decide⟩ H C))
  refine s_aload_n (pc := 11) C dX7_save_11 rfl 0 rfl ?_
  refine s_iconst (pc := 12) C dX7_save_12 (x := (1 : Int32)) (by decide) ?_
  refine s_puti (pc := 13) (s := 5) ckX7 (Or.inl rfl) (by decide) kw_305 (fun _ => rfl) rfl (by decide) (by decide) C dX7_save_13 ?_
  refine s_name (fun h2 eh2 => ?_)
  have H := H h2 eh2
  refine s_aload_n (pc := 16) C dX7_save_16 rfl 0 rfl ?_
  refine s_getr (pc := 17) (s := 0) (a := 1) (b := 0) (c' := 0) ckX7 (by decide) kw_300 rfl C dX7_save_17 ?_
  refine s_geti (pc := 20) (s := 1) ckX1 (Or.inl rfl) (by decide) kw_169 (fun _ => rfl) C dX7_save_20 ?_
  exact s_iret (pc := 23) rfl rfl ⟨by decide, by decide⟩ H C dX7_save_23
theorem ctX7_save (l : Launch) (hl : l.stackTraces = false) {G : g_G} (h : g_Hp) (Q : g_R → g_Hp → Prop) (H : wX7_save h Q) : g_Met l y_ G iX7_save [vR 0 0 0] h Q :=
  g_Met_of hl (by decide +kernel) rfl rfl (Nat.le_of_ble_eq_true rfl) (fun X C => vX7_save C h H)
/-! X7_restore -/
abbrev iX7_restore : g_I := (RX7, yX7_restore, cX7_restore, 1, (some .int), [], { frames := 6, cells := 1, slots := 6, locals := 95 })
set_option maxRecDepth 100000 in
set_option maxHeartbeats 4000000 in
theorem vX7_restore {G : g_G} {X : g_X} {Q : g_R → g_Hp → Prop} (C : g_Cx y_ G X iX7_restore) (h : g_Hp) (H : wX7_restore h Q) : g_V G X iX7_restore 1 6 Q 0 0 0 [(0, vR 0 0 0)] [] h := by
  refine s_aload_n (pc := 0) C dX7_restore_0 rfl 0 rfl ?_
  refine s_geti (pc := 1) (s := 5) ckX7 (Or.inl rfl) (by decide) kw_305 (fun _ => rfl) C dX7_restore_1 ?_
  refine s_if_ne (pc := 4) (tgt := 18) C dX7_restore_4 (by decide) (fun c => ?_) (fun c => ?_)
  · have H := H.1 c
    refine s_aload_n (pc := 18) C dX7_restore_18 rfl 0 rfl ?_
    refine s_getr (pc := 19) (s := 0) (a := 1) (b := 0) (c' := 0) ckX7 (by decide) kw_300 rfl C dX7_restore_19 ?_
    refine s_aload_n (pc := 22) C dX7_restore_22 rfl 0 rfl ?_
    refine s_getr (pc := 23) (s := 4) (a := 1) (b := 10) (c' := 0) ckX7 (by decide) kw_304 rfl C dX7_restore_23 ?_
    refine s_callv (pc := 26) (nA := 1) (as := [vR 1 10 0]) (st := []) (stk := [vR 1 10 0, vR 1 0 0]) ckX1 (Or.inl rfl) C (fun l hl => ctX1_copyFrom l hl 0 10 _ _ H) ⟨⟨kw_542, kw_59, kw_545⟩, rfl, ⟨by decide, by decide, by decide +kernel⟩, by decide, by decide⟩ kw_543 (g_selW kw_544) rfl (Nat.le_of_ble_eq_true rfl) ⟨by decide, by decide⟩ rfl dX7_restore_26 (g_Kq_V (fun h1 H => ?_) (fun E h1 H => s_prop rfl ⟨by decide, by decide⟩ H C))
    refine s_aload_n (pc := 29) C dX7_restore_29 rfl 0 rfl ?_
    refine s_iconst (pc := 30) C dX7_restore_30 (x := (0 : Int32)) (by decide) ?_
    refine s_puti (pc := 31) (s := 3) ckX7 (Or.inl rfl) (by decide) kw_303 (fun _ => rfl) rfl rfl rfl C dX7_restore_31 ?_
    refine s_name (fun h2 eh2 => ?_)
    have H := H h2 eh2
    refine s_aload_n (pc := 34) C dX7_restore_34 rfl 0 rfl ?_
    refine s_getr (pc := 35) (s := 0) (a := 1) (b := 0) (c' := 0) ckX7 (by decide) kw_300 rfl C dX7_restore_35 ?_
    refine s_geti (pc := 38) (s := 1) ckX1 (Or.inl rfl) (by decide) kw_169 (fun _ => rfl) C dX7_restore_38 ?_
    exact s_iret (pc := 41) rfl rfl ⟨by decide, by decide⟩ H C dX7_restore_41
  · have H := H.2 c
    exact s_throwW (pc := 7) (names := ["java/lang/RuntimeException", "java/lang/Exception"]) tw_RX7_IllegalStateException ss_RX7_342 rfl ⟨by decide, Nat.le_of_ble_eq_true rfl, by decide, by decide⟩ ⟨by decide, by decide⟩ H C dX7_restore_7 dX7_restore_10 dX7_restore_11 dX7_restore_14 dX7_restore_17
theorem ctX7_restore (l : Launch) (hl : l.stackTraces = false) {G : g_G} (h : g_Hp) (Q : g_R → g_Hp → Prop) (H : wX7_restore h Q) : g_Met l y_ G iX7_restore [vR 0 0 0] h Q :=
  g_Met_of hl (by decide +kernel) rfl rfl (Nat.le_of_ble_eq_true rfl) (fun X C => vX7_restore C h H)
