/-! X7_isConsistent -/
abbrev iX7_isConsistent : g_I := (RX7, yX7_isConsistent, cX7_isConsistent, 2, (some .boolean), [], { frames := 8, cells := 26, slots := 156, locals := 137 })
set_option maxRecDepth 100000 in
set_option maxHeartbeats 4000000 in
theorem vX7_isConsistent_b73 {G : g_G} {X : g_X} {Q : g_R → g_Hp → Prop} (C : g_Cx y_ G X iX7_isConsistent) (z0 : Int32) (h : g_Hp) (H : wX7_isConsistent_b73 Q z0 h) : g_V G X iX7_isConsistent 26 156 Q 73 26 156 [] [vI z0] h := by
  exact s_iret (pc := 73) rfl (g_nz H.1) ⟨by decide, by decide⟩ H.2 C dX7_isConsistent_73
set_option maxRecDepth 100000 in
set_option maxHeartbeats 4000000 in
theorem vX7_isConsistent_b68 {G : g_G} {X : g_X} {Q : g_R → g_Hp → Prop} (C : g_Cx y_ G X iX7_isConsistent) (h : g_Hp) (H : wX7_isConsistent_b68 Q h) : g_V G X iX7_isConsistent 26 156 Q 68 26 156 [] [] h := by
  refine s_iconst (pc := 68) C dX7_isConsistent_68 (x := (1 : Int32)) (by decide) ?_
  refine s_goto (pc := 69) (tgt := 73) C dX7_isConsistent_69 (by decide) ?_
  exact s_sub (ls' := []) [] rfl (vX7_isConsistent_b73 C (1 : Int32) h H)
set_option maxRecDepth 100000 in
set_option maxHeartbeats 4000000 in
theorem vX7_isConsistent {G : g_G} {X : g_X} {Q : g_R → g_Hp → Prop} (C : g_Cx y_ G X iX7_isConsistent) (h : g_Hp) (H : wX7_isConsistent h Q) : g_V G X iX7_isConsistent 26 156 Q 0 0 0 [(0, vR 0 0 0)] [] h := by
  refine s_iconst (pc := 0) C dX7_isConsistent_0 (x := (0 : Int32)) (by decide) ?_
  refine s_istore_n (pc := 1) (ls' := [(1, vI (0 : Int32)), (0, vR 0 0 0)]) C dX7_isConsistent_1 rfl (by decide) rfl ?_
  refine s_iload_n (pc := 2) C dX7_isConsistent_2 rfl 0 rfl ?_
  refine s_aload_n (pc := 3) C dX7_isConsistent_3 rfl 1 rfl ?_
  refine s_getr (pc := 4) (s := 0) (a := 1) (b := 0) (c' := 0) ckX7 (by decide) kw_300 rfl C dX7_isConsistent_4 ?_
  refine s_geti (pc := 7) (s := 1) ckX1 (Or.inl rfl) (by decide) kw_169 (fun _ => rfl) C dX7_isConsistent_7 ?_
  refine s_icmp_ge (pc := 10) (tgt := 34) C dX7_isConsistent_10 (by decide) (fun c => ?_) (fun c => ?_)
  · have H := H.1 c
    refine s_aload_n (pc := 34) C dX7_isConsistent_34 rfl 1 rfl ?_
    refine s_callv (pc := 35) (nA := 0) (as := []) (st := []) (stk := [vR 0 0 0]) ckX7 (Or.inl rfl) C (fun l hl => ctX7_lostTotal l hl _ _ H) ⟨⟨kw_500, kw_58, kw_378⟩, rfl, ⟨by decide, by decide, by decide +kernel⟩, by decide, by decide⟩ kw_376 (g_selW kw_377) rfl (Nat.le_of_ble_eq_true rfl) ⟨by decide, by decide⟩ rfl dX7_isConsistent_35 (g_Kq_I (fun u2 h1 H => ?_) (fun E h1 H => s_prop rfl ⟨by decide, by decide⟩ H C))
    refine s_aload_n (pc := 38) C dX7_isConsistent_38 rfl 1 rfl ?_
    refine s_callv (pc := 39) (nA := 0) (as := []) (st := [vI u2]) (stk := [vR 0 0 0, vI u2]) ckX7 (Or.inl rfl) C (fun l hl => ctX7_lostTotalByRoofs l hl _ _ H) ⟨⟨kw_501, kw_58, kw_386⟩, rfl, ⟨by decide, by decide, by decide +kernel⟩, by decide, by decide⟩ kw_384 (g_selW kw_385) rfl (Nat.le_of_ble_eq_true rfl) ⟨by decide, by decide⟩ rfl dX7_isConsistent_39 (g_Kq_I (fun u4 h3 H => ?_) (fun E h3 H => s_prop rfl ⟨by decide, by decide⟩ H C))
    refine s_icmp_eq (pc := 42) (tgt := 47) C dX7_isConsistent_42 (by decide) (fun c => ?_) (fun c => ?_)
    · have H := H.1 c
      refine s_aload_n (pc := 47) C dX7_isConsistent_47 rfl 1 rfl ?_
      refine s_getr (pc := 48) (s := 0) (a := 1) (b := 0) (c' := 0) ckX7 (by decide) kw_300 rfl C dX7_isConsistent_48 ?_
      refine s_geti (pc := 51) (s := 1) ckX1 (Or.inl rfl) (by decide) kw_169 (fun _ => rfl) C dX7_isConsistent_51 ?_
      refine s_if_eq (pc := 54) (tgt := 68) C dX7_isConsistent_54 (by decide) (fun c => ?_) (fun c => ?_)
      · have H := H.1 c
        exact s_wide (k' := 26) (n' := 156) (by decide) (by decide) <| s_sub (ls' := []) [] rfl (vX7_isConsistent_b68 C  h3 H)
      · have H := H.2 c
        refine s_aload_n (pc := 57) C dX7_isConsistent_57 rfl 1 rfl ?_
        refine s_callv (pc := 58) (nA := 0) (as := []) (st := []) (stk := [vR 0 0 0]) ckX7 (Or.inl rfl) C (fun l hl => ctX7_fundedShifts l hl _ _ H) ⟨⟨kw_502, kw_58, kw_505⟩, rfl, ⟨by decide, by decide, by decide +kernel⟩, by decide, by decide⟩ kw_503 (g_selW kw_504) rfl (Nat.le_of_ble_eq_true rfl) ⟨by decide, by decide⟩ rfl dX7_isConsistent_58 (g_Kq_I (fun u6 h5 H => ?_) (fun E h5 H => s_prop rfl ⟨by decide, by decide⟩ H C))
        refine s_aload_n (pc := 61) C dX7_isConsistent_61 rfl 1 rfl ?_
        refine s_callv (pc := 62) (nA := 0) (as := []) (st := [vI u6]) (stk := [vR 0 0 0, vI u6]) ckX7 (Or.inl rfl) C (fun l hl => ctX7_fundedShiftsByPaying l hl _ _ H) ⟨⟨kw_530, kw_58, kw_533⟩, rfl, ⟨by decide, by decide, by decide +kernel⟩, by decide, by decide⟩ kw_531 (g_selW kw_532) rfl (Nat.le_of_ble_eq_true rfl) ⟨by decide, by decide⟩ rfl dX7_isConsistent_62 (g_Kq_I (fun u8 h7 H => ?_) (fun E h7 H => s_prop rfl ⟨by decide, by decide⟩ H C))
        refine s_icmp_ne (pc := 65) (tgt := 72) C dX7_isConsistent_65 (by decide) (fun c => ?_) (fun c => ?_)
        · have H := H.1 c
          refine s_iconst (pc := 72) C dX7_isConsistent_72 (x := (0 : Int32)) (by decide) ?_
          exact s_wide (k' := 26) (n' := 156) (by decide) (by decide) <| s_sub (ls' := []) [] rfl (vX7_isConsistent_b73 C (0 : Int32) h7 H)
        · have H := H.2 c
          exact s_wide (k' := 26) (n' := 156) (by decide) (by decide) <| s_sub (ls' := []) [] rfl (vX7_isConsistent_b68 C  h7 H)
    · have H := H.2 c
      refine s_iconst (pc := 45) C dX7_isConsistent_45 (x := (0 : Int32)) (by decide) ?_
      exact s_iret (pc := 46) rfl (by decide) ⟨by decide, by decide⟩ H C dX7_isConsistent_46
  · have H := H.2 c
    refine s_aload_n (pc := 13) C dX7_isConsistent_13 rfl 1 rfl ?_
    refine s_iload_n (pc := 14) C dX7_isConsistent_14 rfl 0 rfl ?_
    refine s_callv (pc := 15) (nA := 1) (as := [vI (0 : Int32)]) (st := []) (stk := [vI (0 : Int32), vR 0 0 0]) ckX7 (Or.inl rfl) C (fun l hl => ctX7_stepsToWind l hl (0 : Int32) _ _ H) ⟨⟨kw_403, kw_58, kw_406⟩, rfl, ⟨by decide, by decide, by decide +kernel⟩, by decide, by decide⟩ kw_404 (g_selW kw_405) rfl (Nat.le_of_ble_eq_true rfl) ⟨by decide, by decide⟩ rfl dX7_isConsistent_15 (g_Kq_I (fun u10 h9 H => ?_) (fun E h9 H => s_prop rfl ⟨by decide, by decide⟩ H C))
    refine s_aload_n (pc := 18) C dX7_isConsistent_18 rfl 1 rfl ?_
    refine s_iload_n (pc := 19) C dX7_isConsistent_19 rfl 0 rfl ?_
    refine s_callv (pc := 20) (nA := 1) (as := [vI (0 : Int32)]) (st := [vI u10]) (stk := [vI (0 : Int32), vR 0 0 0, vI u10]) ckX7 (Or.inl rfl) C (fun l hl => ctX7_stepsToWindByTurning l hl (0 : Int32) _ _ H) ⟨⟨kw_493, kw_58, kw_496⟩, rfl, ⟨by decide, by decide, by decide +kernel⟩, by decide, by decide⟩ kw_494 (g_selW kw_495) rfl (Nat.le_of_ble_eq_true rfl) ⟨by decide, by decide⟩ rfl dX7_isConsistent_20 (g_Kq_I (fun u12 h11 H => ?_) (fun E h11 H => s_prop rfl ⟨by decide, by decide⟩ H C))
    refine s_icmp_eq (pc := 23) (tgt := 28) C dX7_isConsistent_23 (by decide) (fun c => ?_) (fun c => ?_)
    · have H := H.1 c
      refine s_iinc (pc := 28) (y := (1 : Int32)) (ls' := [(1, vI (1 : Int32)), (0, vR 0 0 0)]) C dX7_isConsistent_28 0 rfl (by decide) (by decide) rfl ?_
      refine s_goto (pc := 31) (tgt := 2) C dX7_isConsistent_31 (by decide) ?_
      refine s_iload_n (pc := 2) C dX7_isConsistent_2 rfl 0 rfl ?_
      refine s_aload_n (pc := 3) C dX7_isConsistent_3 rfl 1 rfl ?_
      refine s_getr (pc := 4) (s := 0) (a := 1) (b := 0) (c' := 0) ckX7 (by decide) kw_300 rfl C dX7_isConsistent_4 ?_
      refine s_geti (pc := 7) (s := 1) ckX1 (Or.inl rfl) (by decide) kw_169 (fun _ => rfl) C dX7_isConsistent_7 ?_
      refine s_icmp_ge (pc := 10) (tgt := 34) C dX7_isConsistent_10 (by decide) (fun c => ?_) (fun c => ?_)
      · have H := H.1 c
        refine s_aload_n (pc := 34) C dX7_isConsistent_34 rfl 1 rfl ?_
        refine s_callv (pc := 35) (nA := 0) (as := []) (st := []) (stk := [vR 0 0 0]) ckX7 (Or.inl rfl) C (fun l hl => ctX7_lostTotal l hl _ _ H) ⟨⟨kw_500, kw_58, kw_378⟩, rfl, ⟨by decide, by decide, by decide +kernel⟩, by decide, by decide⟩ kw_376 (g_selW kw_377) rfl (Nat.le_of_ble_eq_true rfl) ⟨by decide, by decide⟩ rfl dX7_isConsistent_35 (g_Kq_I (fun u14 h13 H => ?_) (fun E h13 H => s_prop rfl ⟨by decide, by decide⟩ H C))
        refine s_aload_n (pc := 38) C dX7_isConsistent_38 rfl 1 rfl ?_
        refine s_callv (pc := 39) (nA := 0) (as := []) (st := [vI u14]) (stk := [vR 0 0 0, vI u14]) ckX7 (Or.inl rfl) C (fun l hl => ctX7_lostTotalByRoofs l hl _ _ H) ⟨⟨kw_501, kw_58, kw_386⟩, rfl, ⟨by decide, by decide, by decide +kernel⟩, by decide, by decide⟩ kw_384 (g_selW kw_385) rfl (Nat.le_of_ble_eq_true rfl) ⟨by decide, by decide⟩ rfl dX7_isConsistent_39 (g_Kq_I (fun u16 h15 H => ?_) (fun E h15 H => s_prop rfl ⟨by decide, by decide⟩ H C))
        refine s_icmp_eq (pc := 42) (tgt := 47) C dX7_isConsistent_42 (by decide) (fun c => ?_) (fun c => ?_)
        · have H := H.1 c
          refine s_aload_n (pc := 47) C dX7_isConsistent_47 rfl 1 rfl ?_
          refine s_getr (pc := 48) (s := 0) (a := 1) (b := 0) (c' := 0) ckX7 (by decide) kw_300 rfl C dX7_isConsistent_48 ?_
          refine s_geti (pc := 51) (s := 1) ckX1 (Or.inl rfl) (by decide) kw_169 (fun _ => rfl) C dX7_isConsistent_51 ?_
          refine s_if_eq (pc := 54) (tgt := 68) C dX7_isConsistent_54 (by decide) (fun c => ?_) (fun c => ?_)
          · have H := H.1 c
            exact s_wide (k' := 26) (n' := 156) (by decide) (by decide) <| s_sub (ls' := []) [] rfl (vX7_isConsistent_b68 C  h15 H)
          · have H := H.2 c
            refine s_aload_n (pc := 57) C dX7_isConsistent_57 rfl 1 rfl ?_
            refine s_callv (pc := 58) (nA := 0) (as := []) (st := []) (stk := [vR 0 0 0]) ckX7 (Or.inl rfl) C (fun l hl => ctX7_fundedShifts l hl _ _ H) ⟨⟨kw_502, kw_58, kw_505⟩, rfl, ⟨by decide, by decide, by decide +kernel⟩, by decide, by decide⟩ kw_503 (g_selW kw_504) rfl (Nat.le_of_ble_eq_true rfl) ⟨by decide, by decide⟩ rfl dX7_isConsistent_58 (g_Kq_I (fun u18 h17 H => ?_) (fun E h17 H => s_prop rfl ⟨by decide, by decide⟩ H C))
            refine s_aload_n (pc := 61) C dX7_isConsistent_61 rfl 1 rfl ?_
            refine s_callv (pc := 62) (nA := 0) (as := []) (st := [vI u18]) (stk := [vR 0 0 0, vI u18]) ckX7 (Or.inl rfl) C (fun l hl => ctX7_fundedShiftsByPaying l hl _ _ H) ⟨⟨kw_530, kw_58, kw_533⟩, rfl, ⟨by decide, by decide, by decide +kernel⟩, by decide, by decide⟩ kw_531 (g_selW kw_532) rfl (Nat.le_of_ble_eq_true rfl) ⟨by decide, by decide⟩ rfl dX7_isConsistent_62 (g_Kq_I (fun u20 h19 H => ?_) (fun E h19 H => s_prop rfl ⟨by decide, by decide⟩ H C))
            refine s_icmp_ne (pc := 65) (tgt := 72) C dX7_isConsistent_65 (by decide) (fun c => ?_) (fun c => ?_)
            · have H := H.1 c
              refine s_iconst (pc := 72) C dX7_isConsistent_72 (x := (0 : Int32)) (by decide) ?_
              exact s_wide (k' := 26) (n' := 156) (by decide) (by decide) <| s_sub (ls' := []) [] rfl (vX7_isConsistent_b73 C (0 : Int32) h19 H)
            · have H := H.2 c
              exact s_wide (k' := 26) (n' := 156) (by decide) (by decide) <| s_sub (ls' := []) [] rfl (vX7_isConsistent_b68 C  h19 H)
        · have H := H.2 c
          refine s_iconst (pc := 45) C dX7_isConsistent_45 (x := (0 : Int32)) (by decide) ?_
          exact s_iret (pc := 46) rfl (by decide) ⟨by decide, by decide⟩ H C dX7_isConsistent_46
      · have H := H.2 c
        refine s_aload_n (pc := 13) C dX7_isConsistent_13 rfl 1 rfl ?_
        refine s_iload_n (pc := 14) C dX7_isConsistent_14 rfl 0 rfl ?_
        refine s_callv (pc := 15) (nA := 1) (as := [vI (1 : Int32)]) (st := []) (stk := [vI (1 : Int32), vR 0 0 0]) ckX7 (Or.inl rfl) C (fun l hl => ctX7_stepsToWind l hl (1 : Int32) _ _ H) ⟨⟨kw_403, kw_58, kw_406⟩, rfl, ⟨by decide, by decide, by decide +kernel⟩, by decide, by decide⟩ kw_404 (g_selW kw_405) rfl (Nat.le_of_ble_eq_true rfl) ⟨by decide, by decide⟩ rfl dX7_isConsistent_15 (g_Kq_I (fun u22 h21 H => ?_) (fun E h21 H => s_prop rfl ⟨by decide, by decide⟩ H C))
        refine s_aload_n (pc := 18) C dX7_isConsistent_18 rfl 1 rfl ?_
        refine s_iload_n (pc := 19) C dX7_isConsistent_19 rfl 0 rfl ?_
        refine s_callv (pc := 20) (nA := 1) (as := [vI (1 : Int32)]) (st := [vI u22]) (stk := [vI (1 : Int32), vR 0 0 0, vI u22]) ckX7 (Or.inl rfl) C (fun l hl => ctX7_stepsToWindByTurning l hl (1 : Int32) _ _ H) ⟨⟨kw_493, kw_58, kw_496⟩, rfl, ⟨by decide, by decide, by decide +kernel⟩, by decide, by decide⟩ kw_494 (g_selW kw_495) rfl (Nat.le_of_ble_eq_true rfl) ⟨by decide, by decide⟩ rfl dX7_isConsistent_20 (g_Kq_I (fun u24 h23 H => ?_) (fun E h23 H => s_prop rfl ⟨by decide, by decide⟩ H C))
        refine s_icmp_eq (pc := 23) (tgt := 28) C dX7_isConsistent_23 (by decide) (fun c => ?_) (fun c => ?_)
        · have H := H.1 c
          refine s_iinc (pc := 28) (y := (2 : Int32)) (ls' := [(1, vI (2 : Int32)), (0, vR 0 0 0)]) C dX7_isConsistent_28 0 rfl (by decide) (by decide) rfl ?_
          refine s_goto (pc := 31) (tgt := 2) C dX7_isConsistent_31 (by decide) ?_
          refine s_iload_n (pc := 2) C dX7_isConsistent_2 rfl 0 rfl ?_
          refine s_aload_n (pc := 3) C dX7_isConsistent_3 rfl 1 rfl ?_
          refine s_getr (pc := 4) (s := 0) (a := 1) (b := 0) (c' := 0) ckX7 (by decide) kw_300 rfl C dX7_isConsistent_4 ?_
          refine s_geti (pc := 7) (s := 1) ckX1 (Or.inl rfl) (by decide) kw_169 (fun _ => rfl) C dX7_isConsistent_7 ?_
          refine s_icmp_ge (pc := 10) (tgt := 34) C dX7_isConsistent_10 (by decide) (fun c => ?_) (fun c => ?_)
          · have H := H.1 c
            refine s_aload_n (pc := 34) C dX7_isConsistent_34 rfl 1 rfl ?_
            refine s_callv (pc := 35) (nA := 0) (as := []) (st := []) (stk := [vR 0 0 0]) ckX7 (Or.inl rfl) C (fun l hl => ctX7_lostTotal l hl _ _ H) ⟨⟨kw_500, kw_58, kw_378⟩, rfl, ⟨by decide, by decide, by decide +kernel⟩, by decide, by decide⟩ kw_376 (g_selW kw_377) rfl (Nat.le_of_ble_eq_true rfl) ⟨by decide, by decide⟩ rfl dX7_isConsistent_35 (g_Kq_I (fun u26 h25 H => ?_) (fun E h25 H => s_prop rfl ⟨by decide, by decide⟩ H C))
            refine s_aload_n (pc := 38) C dX7_isConsistent_38 rfl 1 rfl ?_
            refine s_callv (pc := 39) (nA := 0) (as := []) (st := [vI u26]) (stk := [vR 0 0 0, vI u26]) ckX7 (Or.inl rfl) C (fun l hl => ctX7_lostTotalByRoofs l hl _ _ H) ⟨⟨kw_501, kw_58, kw_386⟩, rfl, ⟨by decide, by decide, by decide +kernel⟩, by decide, by decide⟩ kw_384 (g_selW kw_385) rfl (Nat.le_of_ble_eq_true rfl) ⟨by decide, by decide⟩ rfl dX7_isConsistent_39 (g_Kq_I (fun u28 h27 H => ?_) (fun E h27 H => s_prop rfl ⟨by decide, by decide⟩ H C))
            refine s_icmp_eq (pc := 42) (tgt := 47) C dX7_isConsistent_42 (by decide) (fun c => ?_) (fun c => ?_)
            · have H := H.1 c
              refine s_aload_n (pc := 47) C dX7_isConsistent_47 rfl 1 rfl ?_
              refine s_getr (pc := 48) (s := 0) (a := 1) (b := 0) (c' := 0) ckX7 (by decide) kw_300 rfl C dX7_isConsistent_48 ?_
              refine s_geti (pc := 51) (s := 1) ckX1 (Or.inl rfl) (by decide) kw_169 (fun _ => rfl) C dX7_isConsistent_51 ?_
              refine s_if_eq (pc := 54) (tgt := 68) C dX7_isConsistent_54 (by decide) (fun c => ?_) (fun c => ?_)
              · have H := H.1 c
                exact s_wide (k' := 26) (n' := 156) (by decide) (by decide) <| s_sub (ls' := []) [] rfl (vX7_isConsistent_b68 C  h27 H)
              · have H := H.2 c
                refine s_aload_n (pc := 57) C dX7_isConsistent_57 rfl 1 rfl ?_
                refine s_callv (pc := 58) (nA := 0) (as := []) (st := []) (stk := [vR 0 0 0]) ckX7 (Or.inl rfl) C (fun l hl => ctX7_fundedShifts l hl _ _ H) ⟨⟨kw_502, kw_58, kw_505⟩, rfl, ⟨by decide, by decide, by decide +kernel⟩, by decide, by decide⟩ kw_503 (g_selW kw_504) rfl (Nat.le_of_ble_eq_true rfl) ⟨by decide, by decide⟩ rfl dX7_isConsistent_58 (g_Kq_I (fun u30 h29 H => ?_) (fun E h29 H => s_prop rfl ⟨by decide, by decide⟩ H C))
                refine s_aload_n (pc := 61) C dX7_isConsistent_61 rfl 1 rfl ?_
                refine s_callv (pc := 62) (nA := 0) (as := []) (st := [vI u30]) (stk := [vR 0 0 0, vI u30]) ckX7 (Or.inl rfl) C (fun l hl => ctX7_fundedShiftsByPaying l hl _ _ H) ⟨⟨kw_530, kw_58, kw_533⟩, rfl, ⟨by decide, by decide, by decide +kernel⟩, by decide, by decide⟩ kw_531 (g_selW kw_532) rfl (Nat.le_of_ble_eq_true rfl) ⟨by decide, by decide⟩ rfl dX7_isConsistent_62 (g_Kq_I (fun u32 h31 H => ?_) (fun E h31 H => s_prop rfl ⟨by decide, by decide⟩ H C))
                refine s_icmp_ne (pc := 65) (tgt := 72) C dX7_isConsistent_65 (by decide) (fun c => ?_) (fun c => ?_)
                · have H := H.1 c
                  refine s_iconst (pc := 72) C dX7_isConsistent_72 (x := (0 : Int32)) (by decide) ?_
                  exact s_wide (k' := 26) (n' := 156) (by decide) (by decide) <| s_sub (ls' := []) [] rfl (vX7_isConsistent_b73 C (0 : Int32) h31 H)
                · have H := H.2 c
                  exact s_wide (k' := 26) (n' := 156) (by decide) (by decide) <| s_sub (ls' := []) [] rfl (vX7_isConsistent_b68 C  h31 H)
            · have H := H.2 c
              refine s_iconst (pc := 45) C dX7_isConsistent_45 (x := (0 : Int32)) (by decide) ?_
              exact s_iret (pc := 46) rfl (by decide) ⟨by decide, by decide⟩ H C dX7_isConsistent_46
          · have H := H.2 c
            refine s_aload_n (pc := 13) C dX7_isConsistent_13 rfl 1 rfl ?_
            refine s_iload_n (pc := 14) C dX7_isConsistent_14 rfl 0 rfl ?_
            refine s_callv (pc := 15) (nA := 1) (as := [vI (2 : Int32)]) (st := []) (stk := [vI (2 : Int32), vR 0 0 0]) ckX7 (Or.inl rfl) C (fun l hl => ctX7_stepsToWind l hl (2 : Int32) _ _ H) ⟨⟨kw_403, kw_58, kw_406⟩, rfl, ⟨by decide, by decide, by decide +kernel⟩, by decide, by decide⟩ kw_404 (g_selW kw_405) rfl (Nat.le_of_ble_eq_true rfl) ⟨by decide, by decide⟩ rfl dX7_isConsistent_15 (g_Kq_I (fun u34 h33 H => ?_) (fun E h33 H => s_prop rfl ⟨by decide, by decide⟩ H C))
            refine s_aload_n (pc := 18) C dX7_isConsistent_18 rfl 1 rfl ?_
            refine s_iload_n (pc := 19) C dX7_isConsistent_19 rfl 0 rfl ?_
            refine s_callv (pc := 20) (nA := 1) (as := [vI (2 : Int32)]) (st := [vI u34]) (stk := [vI (2 : Int32), vR 0 0 0, vI u34]) ckX7 (Or.inl rfl) C (fun l hl => ctX7_stepsToWindByTurning l hl (2 : Int32) _ _ H) ⟨⟨kw_493, kw_58, kw_496⟩, rfl, ⟨by decide, by decide, by decide +kernel⟩, by decide, by decide⟩ kw_494 (g_selW kw_495) rfl (Nat.le_of_ble_eq_true rfl) ⟨by decide, by decide⟩ rfl dX7_isConsistent_20 (g_Kq_I (fun u36 h35 H => ?_) (fun E h35 H => s_prop rfl ⟨by decide, by decide⟩ H C))
            refine s_icmp_eq (pc := 23) (tgt := 28) C dX7_isConsistent_23 (by decide) (fun c => ?_) (fun c => ?_)
            · have H := H.1 c
              refine s_iinc (pc := 28) (y := (3 : Int32)) (ls' := [(1, vI (3 : Int32)), (0, vR 0 0 0)]) C dX7_isConsistent_28 0 rfl (by decide) (by decide) rfl ?_
              refine s_goto (pc := 31) (tgt := 2) C dX7_isConsistent_31 (by decide) ?_
              refine s_iload_n (pc := 2) C dX7_isConsistent_2 rfl 0 rfl ?_
              refine s_aload_n (pc := 3) C dX7_isConsistent_3 rfl 1 rfl ?_
              refine s_getr (pc := 4) (s := 0) (a := 1) (b := 0) (c' := 0) ckX7 (by decide) kw_300 rfl C dX7_isConsistent_4 ?_
              refine s_geti (pc := 7) (s := 1) ckX1 (Or.inl rfl) (by decide) kw_169 (fun _ => rfl) C dX7_isConsistent_7 ?_
              refine s_icmp_ge (pc := 10) (tgt := 34) C dX7_isConsistent_10 (by decide) (fun c => ?_) (fun c => ?_)
              · have H := H.1 c
                refine s_aload_n (pc := 34) C dX7_isConsistent_34 rfl 1 rfl ?_
                refine s_callv (pc := 35) (nA := 0) (as := []) (st := []) (stk := [vR 0 0 0]) ckX7 (Or.inl rfl) C (fun l hl => ctX7_lostTotal l hl _ _ H) ⟨⟨kw_500, kw_58, kw_378⟩, rfl, ⟨by decide, by decide, by decide +kernel⟩, by decide, by decide⟩ kw_376 (g_selW kw_377) rfl (Nat.le_of_ble_eq_true rfl) ⟨by decide, by decide⟩ rfl dX7_isConsistent_35 (g_Kq_I (fun u38 h37 H => ?_) (fun E h37 H => s_prop rfl ⟨by decide, by decide⟩ H C))
                refine s_aload_n (pc := 38) C dX7_isConsistent_38 rfl 1 rfl ?_
                refine s_callv (pc := 39) (nA := 0) (as := []) (st := [vI u38]) (stk := [vR 0 0 0, vI u38]) ckX7 (Or.inl rfl) C (fun l hl => ctX7_lostTotalByRoofs l hl _ _ H) ⟨⟨kw_501, kw_58, kw_386⟩, rfl, ⟨by decide, by decide, by decide +kernel⟩, by decide, by decide⟩ kw_384 (g_selW kw_385) rfl (Nat.le_of_ble_eq_true rfl) ⟨by decide, by decide⟩ rfl dX7_isConsistent_39 (g_Kq_I (fun u40 h39 H => ?_) (fun E h39 H => s_prop rfl ⟨by decide, by decide⟩ H C))
                refine s_icmp_eq (pc := 42) (tgt := 47) C dX7_isConsistent_42 (by decide) (fun c => ?_) (fun c => ?_)
                · have H := H.1 c
                  refine s_aload_n (pc := 47) C dX7_isConsistent_47 rfl 1 rfl ?_
                  refine s_getr (pc := 48) (s := 0) (a := 1) (b := 0) (c' := 0) ckX7 (by decide) kw_300 rfl C dX7_isConsistent_48 ?_
                  refine s_geti (pc := 51) (s := 1) ckX1 (Or.inl rfl) (by decide) kw_169 (fun _ => rfl) C dX7_isConsistent_51 ?_
                  refine s_if_eq (pc := 54) (tgt := 68) C dX7_isConsistent_54 (by decide) (fun c => ?_) (fun c => ?_)
                  · have H := H.1 c
                    exact s_wide (k' := 26) (n' := 156) (by decide) (by decide) <| s_sub (ls' := []) [] rfl (vX7_isConsistent_b68 C  h39 H)
                  · have H := H.2 c
                    refine s_aload_n (pc := 57) C dX7_isConsistent_57 rfl 1 rfl ?_
                    refine s_callv (pc := 58) (nA := 0) (as := []) (st := []) (stk := [vR 0 0 0]) ckX7 (Or.inl rfl) C (fun l hl => ctX7_fundedShifts l hl _ _ H) ⟨⟨kw_502, kw_58, kw_505⟩, rfl, ⟨by decide, by decide, by decide +kernel⟩, by decide, by decide⟩ kw_503 (g_selW kw_504) rfl (Nat.le_of_ble_eq_true rfl) ⟨by decide, by decide⟩ rfl dX7_isConsistent_58 (g_Kq_I (fun u42 h41 H => ?_) (fun E h41 H => s_prop rfl ⟨by decide, by decide⟩ H C))
                    refine s_aload_n (pc := 61) C dX7_isConsistent_61 rfl 1 rfl ?_
                    refine s_callv (pc := 62) (nA := 0) (as := []) (st := [vI u42]) (stk := [vR 0 0 0, vI u42]) ckX7 (Or.inl rfl) C (fun l hl => ctX7_fundedShiftsByPaying l hl _ _ H) ⟨⟨kw_530, kw_58, kw_533⟩, rfl, ⟨by decide, by decide, by decide +kernel⟩, by decide, by decide⟩ kw_531 (g_selW kw_532) rfl (Nat.le_of_ble_eq_true rfl) ⟨by decide, by decide⟩ rfl dX7_isConsistent_62 (g_Kq_I (fun u44 h43 H => ?_) (fun E h43 H => s_prop rfl ⟨by decide, by decide⟩ H C))
                    refine s_icmp_ne (pc := 65) (tgt := 72) C dX7_isConsistent_65 (by decide) (fun c => ?_) (fun c => ?_)
                    · have H := H.1 c
                      refine s_iconst (pc := 72) C dX7_isConsistent_72 (x := (0 : Int32)) (by decide) ?_
                      exact s_wide (k' := 26) (n' := 156) (by decide) (by decide) <| s_sub (ls' := []) [] rfl (vX7_isConsistent_b73 C (0 : Int32) h43 H)
                    · have H := H.2 c
                      exact s_wide (k' := 26) (n' := 156) (by decide) (by decide) <| s_sub (ls' := []) [] rfl (vX7_isConsistent_b68 C  h43 H)
                · have H := H.2 c
                  refine s_iconst (pc := 45) C dX7_isConsistent_45 (x := (0 : Int32)) (by decide) ?_
                  exact s_iret (pc := 46) rfl (by decide) ⟨by decide, by decide⟩ H C dX7_isConsistent_46
              · have H := H.2 c
                refine s_aload_n (pc := 13) C dX7_isConsistent_13 rfl 1 rfl ?_
                refine s_iload_n (pc := 14) C dX7_isConsistent_14 rfl 0 rfl ?_
                refine s_callv (pc := 15) (nA := 1) (as := [vI (3 : Int32)]) (st := []) (stk := [vI (3 : Int32), vR 0 0 0]) ckX7 (Or.inl rfl) C (fun l hl => ctX7_stepsToWind l hl (3 : Int32) _ _ H) ⟨⟨kw_403, kw_58, kw_406⟩, rfl, ⟨by decide, by decide, by decide +kernel⟩, by decide, by decide⟩ kw_404 (g_selW kw_405) rfl (Nat.le_of_ble_eq_true rfl) ⟨by decide, by decide⟩ rfl dX7_isConsistent_15 (g_Kq_I (fun u46 h45 H => ?_) (fun E h45 H => s_prop rfl ⟨by decide, by decide⟩ H C))
                refine s_aload_n (pc := 18) C dX7_isConsistent_18 rfl 1 rfl ?_
                refine s_iload_n (pc := 19) C dX7_isConsistent_19 rfl 0 rfl ?_
                refine s_callv (pc := 20) (nA := 1) (as := [vI (3 : Int32)]) (st := [vI u46]) (stk := [vI (3 : Int32), vR 0 0 0, vI u46]) ckX7 (Or.inl rfl) C (fun l hl => ctX7_stepsToWindByTurning l hl (3 : Int32) _ _ H) ⟨⟨kw_493, kw_58, kw_496⟩, rfl, ⟨by decide, by decide, by decide +kernel⟩, by decide, by decide⟩ kw_494 (g_selW kw_495) rfl (Nat.le_of_ble_eq_true rfl) ⟨by decide, by decide⟩ rfl dX7_isConsistent_20 (g_Kq_I (fun u48 h47 H => ?_) (fun E h47 H => s_prop rfl ⟨by decide, by decide⟩ H C))
                refine s_icmp_eq (pc := 23) (tgt := 28) C dX7_isConsistent_23 (by decide) (fun c => ?_) (fun c => ?_)
                · have H := H.1 c
                  refine s_iinc (pc := 28) (y := (4 : Int32)) (ls' := [(1, vI (4 : Int32)), (0, vR 0 0 0)]) C dX7_isConsistent_28 0 rfl (by decide) (by decide) rfl ?_
                  refine s_goto (pc := 31) (tgt := 2) C dX7_isConsistent_31 (by decide) ?_
                  refine s_iload_n (pc := 2) C dX7_isConsistent_2 rfl 0 rfl ?_
                  refine s_aload_n (pc := 3) C dX7_isConsistent_3 rfl 1 rfl ?_
                  refine s_getr (pc := 4) (s := 0) (a := 1) (b := 0) (c' := 0) ckX7 (by decide) kw_300 rfl C dX7_isConsistent_4 ?_
                  refine s_geti (pc := 7) (s := 1) ckX1 (Or.inl rfl) (by decide) kw_169 (fun _ => rfl) C dX7_isConsistent_7 ?_
                  refine s_icmp_ge (pc := 10) (tgt := 34) C dX7_isConsistent_10 (by decide) (fun c => ?_) (fun c => ?_)
                  · have H := H.1 c
                    refine s_aload_n (pc := 34) C dX7_isConsistent_34 rfl 1 rfl ?_
                    refine s_callv (pc := 35) (nA := 0) (as := []) (st := []) (stk := [vR 0 0 0]) ckX7 (Or.inl rfl) C (fun l hl => ctX7_lostTotal l hl _ _ H) ⟨⟨kw_500, kw_58, kw_378⟩, rfl, ⟨by decide, by decide, by decide +kernel⟩, by decide, by decide⟩ kw_376 (g_selW kw_377) rfl (Nat.le_of_ble_eq_true rfl) ⟨by decide, by decide⟩ rfl dX7_isConsistent_35 (g_Kq_I (fun u50 h49 H => ?_) (fun E h49 H => s_prop rfl ⟨by decide, by decide⟩ H C))
                    refine s_aload_n (pc := 38) C dX7_isConsistent_38 rfl 1 rfl ?_
                    refine s_callv (pc := 39) (nA := 0) (as := []) (st := [vI u50]) (stk := [vR 0 0 0, vI u50]) ckX7 (Or.inl rfl) C (fun l hl => ctX7_lostTotalByRoofs l hl _ _ H) ⟨⟨kw_501, kw_58, kw_386⟩, rfl, ⟨by decide, by decide, by decide +kernel⟩, by decide, by decide⟩ kw_384 (g_selW kw_385) rfl (Nat.le_of_ble_eq_true rfl) ⟨by decide, by decide⟩ rfl dX7_isConsistent_39 (g_Kq_I (fun u52 h51 H => ?_) (fun E h51 H => s_prop rfl ⟨by decide, by decide⟩ H C))
                    refine s_icmp_eq (pc := 42) (tgt := 47) C dX7_isConsistent_42 (by decide) (fun c => ?_) (fun c => ?_)
                    · have H := H.1 c
                      refine s_aload_n (pc := 47) C dX7_isConsistent_47 rfl 1 rfl ?_
                      refine s_getr (pc := 48) (s := 0) (a := 1) (b := 0) (c' := 0) ckX7 (by decide) kw_300 rfl C dX7_isConsistent_48 ?_
                      refine s_geti (pc := 51) (s := 1) ckX1 (Or.inl rfl) (by decide) kw_169 (fun _ => rfl) C dX7_isConsistent_51 ?_
                      refine s_if_eq (pc := 54) (tgt := 68) C dX7_isConsistent_54 (by decide) (fun c => ?_) (fun c => ?_)
                      · have H := H.1 c
                        exact s_wide (k' := 26) (n' := 156) (by decide) (by decide) <| s_sub (ls' := []) [] rfl (vX7_isConsistent_b68 C  h51 H)
                      · have H := H.2 c
                        refine s_aload_n (pc := 57) C dX7_isConsistent_57 rfl 1 rfl ?_
                        refine s_callv (pc := 58) (nA := 0) (as := []) (st := []) (stk := [vR 0 0 0]) ckX7 (Or.inl rfl) C (fun l hl => ctX7_fundedShifts l hl _ _ H) ⟨⟨kw_502, kw_58, kw_505⟩, rfl, ⟨by decide, by decide, by decide +kernel⟩, by decide, by decide⟩ kw_503 (g_selW kw_504) rfl (Nat.le_of_ble_eq_true rfl) ⟨by decide, by decide⟩ rfl dX7_isConsistent_58 (g_Kq_I (fun u54 h53 H => ?_) (fun E h53 H => s_prop rfl ⟨by decide, by decide⟩ H C))
                        refine s_aload_n (pc := 61) C dX7_isConsistent_61 rfl 1 rfl ?_
                        refine s_callv (pc := 62) (nA := 0) (as := []) (st := [vI u54]) (stk := [vR 0 0 0, vI u54]) ckX7 (Or.inl rfl) C (fun l hl => ctX7_fundedShiftsByPaying l hl _ _ H) ⟨⟨kw_530, kw_58, kw_533⟩, rfl, ⟨by decide, by decide, by decide +kernel⟩, by decide, by decide⟩ kw_531 (g_selW kw_532) rfl (Nat.le_of_ble_eq_true rfl) ⟨by decide, by decide⟩ rfl dX7_isConsistent_62 (g_Kq_I (fun u56 h55 H => ?_) (fun E h55 H => s_prop rfl ⟨by decide, by decide⟩ H C))
                        refine s_icmp_ne (pc := 65) (tgt := 72) C dX7_isConsistent_65 (by decide) (fun c => ?_) (fun c => ?_)
                        · have H := H.1 c
                          refine s_iconst (pc := 72) C dX7_isConsistent_72 (x := (0 : Int32)) (by decide) ?_
                          exact s_wide (k' := 26) (n' := 156) (by decide) (by decide) <| s_sub (ls' := []) [] rfl (vX7_isConsistent_b73 C (0 : Int32) h55 H)
                        · have H := H.2 c
                          exact s_wide (k' := 26) (n' := 156) (by decide) (by decide) <| s_sub (ls' := []) [] rfl (vX7_isConsistent_b68 C  h55 H)
                    · have H := H.2 c
                      refine s_iconst (pc := 45) C dX7_isConsistent_45 (x := (0 : Int32)) (by decide) ?_
                      exact s_iret (pc := 46) rfl (by decide) ⟨by decide, by decide⟩ H C dX7_isConsistent_46
                  · have H := H.2 c
                    refine s_aload_n (pc := 13) C dX7_isConsistent_13 rfl 1 rfl ?_
                    refine s_iload_n (pc := 14) C dX7_isConsistent_14 rfl 0 rfl ?_
                    refine s_callv (pc := 15) (nA := 1) (as := [vI (4 : Int32)]) (st := []) (stk := [vI (4 : Int32), vR 0 0 0]) ckX7 (Or.inl rfl) C (fun l hl => ctX7_stepsToWind l hl (4 : Int32) _ _ H) ⟨⟨kw_403, kw_58, kw_406⟩, rfl, ⟨by decide, by decide, by decide +kernel⟩, by decide, by decide⟩ kw_404 (g_selW kw_405) rfl (Nat.le_of_ble_eq_true rfl) ⟨by decide, by decide⟩ rfl dX7_isConsistent_15 (g_Kq_I (fun u58 h57 H => ?_) (fun E h57 H => s_prop rfl ⟨by decide, by decide⟩ H C))
                    refine s_aload_n (pc := 18) C dX7_isConsistent_18 rfl 1 rfl ?_
                    refine s_iload_n (pc := 19) C dX7_isConsistent_19 rfl 0 rfl ?_
                    refine s_callv (pc := 20) (nA := 1) (as := [vI (4 : Int32)]) (st := [vI u58]) (stk := [vI (4 : Int32), vR 0 0 0, vI u58]) ckX7 (Or.inl rfl) C (fun l hl => ctX7_stepsToWindByTurning l hl (4 : Int32) _ _ H) ⟨⟨kw_493, kw_58, kw_496⟩, rfl, ⟨by decide, by decide, by decide +kernel⟩, by decide, by decide⟩ kw_494 (g_selW kw_495) rfl (Nat.le_of_ble_eq_true rfl) ⟨by decide, by decide⟩ rfl dX7_isConsistent_20 (g_Kq_I (fun u60 h59 H => ?_) (fun E h59 H => s_prop rfl ⟨by decide, by decide⟩ H C))
                    refine s_icmp_eq (pc := 23) (tgt := 28) C dX7_isConsistent_23 (by decide) (fun c => ?_) (fun c => ?_)
                    · have H := H.1 c
                      refine s_iinc (pc := 28) (y := (5 : Int32)) (ls' := [(1, vI (5 : Int32)), (0, vR 0 0 0)]) C dX7_isConsistent_28 0 rfl (by decide) (by decide) rfl ?_
                      refine s_goto (pc := 31) (tgt := 2) C dX7_isConsistent_31 (by decide) ?_
                      refine s_iload_n (pc := 2) C dX7_isConsistent_2 rfl 0 rfl ?_
                      refine s_aload_n (pc := 3) C dX7_isConsistent_3 rfl 1 rfl ?_
                      refine s_getr (pc := 4) (s := 0) (a := 1) (b := 0) (c' := 0) ckX7 (by decide) kw_300 rfl C dX7_isConsistent_4 ?_
                      refine s_geti (pc := 7) (s := 1) ckX1 (Or.inl rfl) (by decide) kw_169 (fun _ => rfl) C dX7_isConsistent_7 ?_
                      refine s_icmp_ge (pc := 10) (tgt := 34) C dX7_isConsistent_10 (by decide) (fun c => ?_) (fun c => ?_)
                      · have H := H.1 c
                        refine s_aload_n (pc := 34) C dX7_isConsistent_34 rfl 1 rfl ?_
                        refine s_callv (pc := 35) (nA := 0) (as := []) (st := []) (stk := [vR 0 0 0]) ckX7 (Or.inl rfl) C (fun l hl => ctX7_lostTotal l hl _ _ H) ⟨⟨kw_500, kw_58, kw_378⟩, rfl, ⟨by decide, by decide, by decide +kernel⟩, by decide, by decide⟩ kw_376 (g_selW kw_377) rfl (Nat.le_of_ble_eq_true rfl) ⟨by decide, by decide⟩ rfl dX7_isConsistent_35 (g_Kq_I (fun u62 h61 H => ?_) (fun E h61 H => s_prop rfl ⟨by decide, by decide⟩ H C))
                        refine s_aload_n (pc := 38) C dX7_isConsistent_38 rfl 1 rfl ?_
                        refine s_callv (pc := 39) (nA := 0) (as := []) (st := [vI u62]) (stk := [vR 0 0 0, vI u62]) ckX7 (Or.inl rfl) C (fun l hl => ctX7_lostTotalByRoofs l hl _ _ H) ⟨⟨kw_501, kw_58, kw_386⟩, rfl, ⟨by decide, by decide, by decide +kernel⟩, by decide, by decide⟩ kw_384 (g_selW kw_385) rfl (Nat.le_of_ble_eq_true rfl) ⟨by decide, by decide⟩ rfl dX7_isConsistent_39 (g_Kq_I (fun u64 h63 H => ?_) (fun E h63 H => s_prop rfl ⟨by decide, by decide⟩ H C))
                        refine s_icmp_eq (pc := 42) (tgt := 47) C dX7_isConsistent_42 (by decide) (fun c => ?_) (fun c => ?_)
                        · have H := H.1 c
                          refine s_aload_n (pc := 47) C dX7_isConsistent_47 rfl 1 rfl ?_
                          refine s_getr (pc := 48) (s := 0) (a := 1) (b := 0) (c' := 0) ckX7 (by decide) kw_300 rfl C dX7_isConsistent_48 ?_
                          refine s_geti (pc := 51) (s := 1) ckX1 (Or.inl rfl) (by decide) kw_169 (fun _ => rfl) C dX7_isConsistent_51 ?_
                          refine s_if_eq (pc := 54) (tgt := 68) C dX7_isConsistent_54 (by decide) (fun c => ?_) (fun c => ?_)
                          · have H := H.1 c
                            exact s_wide (k' := 26) (n' := 156) (by decide) (by decide) <| s_sub (ls' := []) [] rfl (vX7_isConsistent_b68 C  h63 H)
                          · have H := H.2 c
                            refine s_aload_n (pc := 57) C dX7_isConsistent_57 rfl 1 rfl ?_
                            refine s_callv (pc := 58) (nA := 0) (as := []) (st := []) (stk := [vR 0 0 0]) ckX7 (Or.inl rfl) C (fun l hl => ctX7_fundedShifts l hl _ _ H) ⟨⟨kw_502, kw_58, kw_505⟩, rfl, ⟨by decide, by decide, by decide +kernel⟩, by decide, by decide⟩ kw_503 (g_selW kw_504) rfl (Nat.le_of_ble_eq_true rfl) ⟨by decide, by decide⟩ rfl dX7_isConsistent_58 (g_Kq_I (fun u66 h65 H => ?_) (fun E h65 H => s_prop rfl ⟨by decide, by decide⟩ H C))
                            refine s_aload_n (pc := 61) C dX7_isConsistent_61 rfl 1 rfl ?_
                            refine s_callv (pc := 62) (nA := 0) (as := []) (st := [vI u66]) (stk := [vR 0 0 0, vI u66]) ckX7 (Or.inl rfl) C (fun l hl => ctX7_fundedShiftsByPaying l hl _ _ H) ⟨⟨kw_530, kw_58, kw_533⟩, rfl, ⟨by decide, by decide, by decide +kernel⟩, by decide, by decide⟩ kw_531 (g_selW kw_532) rfl (Nat.le_of_ble_eq_true rfl) ⟨by decide, by decide⟩ rfl dX7_isConsistent_62 (g_Kq_I (fun u68 h67 H => ?_) (fun E h67 H => s_prop rfl ⟨by decide, by decide⟩ H C))
                            refine s_icmp_ne (pc := 65) (tgt := 72) C dX7_isConsistent_65 (by decide) (fun c => ?_) (fun c => ?_)
                            · have H := H.1 c
                              refine s_iconst (pc := 72) C dX7_isConsistent_72 (x := (0 : Int32)) (by decide) ?_
                              exact s_wide (k' := 26) (n' := 156) (by decide) (by decide) <| s_sub (ls' := []) [] rfl (vX7_isConsistent_b73 C (0 : Int32) h67 H)
                            · have H := H.2 c
                              exact s_wide (k' := 26) (n' := 156) (by decide) (by decide) <| s_sub (ls' := []) [] rfl (vX7_isConsistent_b68 C  h67 H)
                        · have H := H.2 c
                          refine s_iconst (pc := 45) C dX7_isConsistent_45 (x := (0 : Int32)) (by decide) ?_
                          exact s_iret (pc := 46) rfl (by decide) ⟨by decide, by decide⟩ H C dX7_isConsistent_46
                      · have H := H.2 c
                        refine s_aload_n (pc := 13) C dX7_isConsistent_13 rfl 1 rfl ?_
                        refine s_iload_n (pc := 14) C dX7_isConsistent_14 rfl 0 rfl ?_
                        refine s_callv (pc := 15) (nA := 1) (as := [vI (5 : Int32)]) (st := []) (stk := [vI (5 : Int32), vR 0 0 0]) ckX7 (Or.inl rfl) C (fun l hl => ctX7_stepsToWind l hl (5 : Int32) _ _ H) ⟨⟨kw_403, kw_58, kw_406⟩, rfl, ⟨by decide, by decide, by decide +kernel⟩, by decide, by decide⟩ kw_404 (g_selW kw_405) rfl (Nat.le_of_ble_eq_true rfl) ⟨by decide, by decide⟩ rfl dX7_isConsistent_15 (g_Kq_I (fun u70 h69 H => ?_) (fun E h69 H => s_prop rfl ⟨by decide, by decide⟩ H C))
                        refine s_aload_n (pc := 18) C dX7_isConsistent_18 rfl 1 rfl ?_
                        refine s_iload_n (pc := 19) C dX7_isConsistent_19 rfl 0 rfl ?_
                        refine s_callv (pc := 20) (nA := 1) (as := [vI (5 : Int32)]) (st := [vI u70]) (stk := [vI (5 : Int32), vR 0 0 0, vI u70]) ckX7 (Or.inl rfl) C (fun l hl => ctX7_stepsToWindByTurning l hl (5 : Int32) _ _ H) ⟨⟨kw_493, kw_58, kw_496⟩, rfl, ⟨by decide, by decide, by decide +kernel⟩, by decide, by decide⟩ kw_494 (g_selW kw_495) rfl (Nat.le_of_ble_eq_true rfl) ⟨by decide, by decide⟩ rfl dX7_isConsistent_20 (g_Kq_I (fun u72 h71 H => ?_) (fun E h71 H => s_prop rfl ⟨by decide, by decide⟩ H C))
                        refine s_icmp_eq (pc := 23) (tgt := 28) C dX7_isConsistent_23 (by decide) (fun c => ?_) (fun c => ?_)
                        · have H := H.1 c
                          refine s_iinc (pc := 28) (y := (6 : Int32)) (ls' := [(1, vI (6 : Int32)), (0, vR 0 0 0)]) C dX7_isConsistent_28 0 rfl (by decide) (by decide) rfl ?_
                          refine s_goto (pc := 31) (tgt := 2) C dX7_isConsistent_31 (by decide) ?_
                          refine s_iload_n (pc := 2) C dX7_isConsistent_2 rfl 0 rfl ?_
                          refine s_aload_n (pc := 3) C dX7_isConsistent_3 rfl 1 rfl ?_
                          refine s_getr (pc := 4) (s := 0) (a := 1) (b := 0) (c' := 0) ckX7 (by decide) kw_300 rfl C dX7_isConsistent_4 ?_
                          refine s_geti (pc := 7) (s := 1) ckX1 (Or.inl rfl) (by decide) kw_169 (fun _ => rfl) C dX7_isConsistent_7 ?_
                          refine s_icmp_ge (pc := 10) (tgt := 34) C dX7_isConsistent_10 (by decide) (fun c => ?_) (fun c => ?_)
                          · have H := H.1 c
                            refine s_aload_n (pc := 34) C dX7_isConsistent_34 rfl 1 rfl ?_
                            refine s_callv (pc := 35) (nA := 0) (as := []) (st := []) (stk := [vR 0 0 0]) ckX7 (Or.inl rfl) C (fun l hl => ctX7_lostTotal l hl _ _ H) ⟨⟨kw_500, kw_58, kw_378⟩, rfl, ⟨by decide, by decide, by decide +kernel⟩, by decide, by decide⟩ kw_376 (g_selW kw_377) rfl (Nat.le_of_ble_eq_true rfl) ⟨by decide, by decide⟩ rfl dX7_isConsistent_35 (g_Kq_I (fun u74 h73 H => ?_) (fun E h73 H => s_prop rfl ⟨by decide, by decide⟩ H C))
                            refine s_aload_n (pc := 38) C dX7_isConsistent_38 rfl 1 rfl ?_
                            refine s_callv (pc := 39) (nA := 0) (as := []) (st := [vI u74]) (stk := [vR 0 0 0, vI u74]) ckX7 (Or.inl rfl) C (fun l hl => ctX7_lostTotalByRoofs l hl _ _ H) ⟨⟨kw_501, kw_58, kw_386⟩, rfl, ⟨by decide, by decide, by decide +kernel⟩, by decide, by decide⟩ kw_384 (g_selW kw_385) rfl (Nat.le_of_ble_eq_true rfl) ⟨by decide, by decide⟩ rfl dX7_isConsistent_39 (g_Kq_I (fun u76 h75 H => ?_) (fun E h75 H => s_prop rfl ⟨by decide, by decide⟩ H C))
                            refine s_icmp_eq (pc := 42) (tgt := 47) C dX7_isConsistent_42 (by decide) (fun c => ?_) (fun c => ?_)
                            · have H := H.1 c
                              refine s_aload_n (pc := 47) C dX7_isConsistent_47 rfl 1 rfl ?_
                              refine s_getr (pc := 48) (s := 0) (a := 1) (b := 0) (c' := 0) ckX7 (by decide) kw_300 rfl C dX7_isConsistent_48 ?_
                              refine s_geti (pc := 51) (s := 1) ckX1 (Or.inl rfl) (by decide) kw_169 (fun _ => rfl) C dX7_isConsistent_51 ?_
                              refine s_if_eq (pc := 54) (tgt := 68) C dX7_isConsistent_54 (by decide) (fun c => ?_) (fun c => ?_)
                              · have H := H.1 c
                                exact s_wide (k' := 26) (n' := 156) (by decide) (by decide) <| s_sub (ls' := []) [] rfl (vX7_isConsistent_b68 C  h75 H)
                              · have H := H.2 c
                                refine s_aload_n (pc := 57) C dX7_isConsistent_57 rfl 1 rfl ?_
                                refine s_callv (pc := 58) (nA := 0) (as := []) (st := []) (stk := [vR 0 0 0]) ckX7 (Or.inl rfl) C (fun l hl => ctX7_fundedShifts l hl _ _ H) ⟨⟨kw_502, kw_58, kw_505⟩, rfl, ⟨by decide, by decide, by decide +kernel⟩, by decide, by decide⟩ kw_503 (g_selW kw_504) rfl (Nat.le_of_ble_eq_true rfl) ⟨by decide, by decide⟩ rfl dX7_isConsistent_58 (g_Kq_I (fun u78 h77 H => ?_) (fun E h77 H => s_prop rfl ⟨by decide, by decide⟩ H C))
                                refine s_aload_n (pc := 61) C dX7_isConsistent_61 rfl 1 rfl ?_
                                refine s_callv (pc := 62) (nA := 0) (as := []) (st := [vI u78]) (stk := [vR 0 0 0, vI u78]) ckX7 (Or.inl rfl) C (fun l hl => ctX7_fundedShiftsByPaying l hl _ _ H) ⟨⟨kw_530, kw_58, kw_533⟩, rfl, ⟨by decide, by decide, by decide +kernel⟩, by decide, by decide⟩ kw_531 (g_selW kw_532) rfl (Nat.le_of_ble_eq_true rfl) ⟨by decide, by decide⟩ rfl dX7_isConsistent_62 (g_Kq_I (fun u80 h79 H => ?_) (fun E h79 H => s_prop rfl ⟨by decide, by decide⟩ H C))
                                refine s_icmp_ne (pc := 65) (tgt := 72) C dX7_isConsistent_65 (by decide) (fun c => ?_) (fun c => ?_)
                                · have H := H.1 c
                                  refine s_iconst (pc := 72) C dX7_isConsistent_72 (x := (0 : Int32)) (by decide) ?_
                                  exact s_wide (k' := 26) (n' := 156) (by decide) (by decide) <| s_sub (ls' := []) [] rfl (vX7_isConsistent_b73 C (0 : Int32) h79 H)
                                · have H := H.2 c
                                  exact s_wide (k' := 26) (n' := 156) (by decide) (by decide) <| s_sub (ls' := []) [] rfl (vX7_isConsistent_b68 C  h79 H)
                            · have H := H.2 c
                              refine s_iconst (pc := 45) C dX7_isConsistent_45 (x := (0 : Int32)) (by decide) ?_
                              exact s_iret (pc := 46) rfl (by decide) ⟨by decide, by decide⟩ H C dX7_isConsistent_46
                          · have H := H.2 c
                            refine s_aload_n (pc := 13) C dX7_isConsistent_13 rfl 1 rfl ?_
                            refine s_iload_n (pc := 14) C dX7_isConsistent_14 rfl 0 rfl ?_
                            refine s_callv (pc := 15) (nA := 1) (as := [vI (6 : Int32)]) (st := []) (stk := [vI (6 : Int32), vR 0 0 0]) ckX7 (Or.inl rfl) C (fun l hl => ctX7_stepsToWind l hl (6 : Int32) _ _ H) ⟨⟨kw_403, kw_58, kw_406⟩, rfl, ⟨by decide, by decide, by decide +kernel⟩, by decide, by decide⟩ kw_404 (g_selW kw_405) rfl (Nat.le_of_ble_eq_true rfl) ⟨by decide, by decide⟩ rfl dX7_isConsistent_15 (g_Kq_I (fun u82 h81 H => ?_) (fun E h81 H => s_prop rfl ⟨by decide, by decide⟩ H C))
                            refine s_aload_n (pc := 18) C dX7_isConsistent_18 rfl 1 rfl ?_
                            refine s_iload_n (pc := 19) C dX7_isConsistent_19 rfl 0 rfl ?_
                            refine s_callv (pc := 20) (nA := 1) (as := [vI (6 : Int32)]) (st := [vI u82]) (stk := [vI (6 : Int32), vR 0 0 0, vI u82]) ckX7 (Or.inl rfl) C (fun l hl => ctX7_stepsToWindByTurning l hl (6 : Int32) _ _ H) ⟨⟨kw_493, kw_58, kw_496⟩, rfl, ⟨by decide, by decide, by decide +kernel⟩, by decide, by decide⟩ kw_494 (g_selW kw_495) rfl (Nat.le_of_ble_eq_true rfl) ⟨by decide, by decide⟩ rfl dX7_isConsistent_20 (g_Kq_I (fun u84 h83 H => ?_) (fun E h83 H => s_prop rfl ⟨by decide, by decide⟩ H C))
                            refine s_icmp_eq (pc := 23) (tgt := 28) C dX7_isConsistent_23 (by decide) (fun c => ?_) (fun c => ?_)
                            · have H := H.1 c
                              refine s_iinc (pc := 28) (y := (7 : Int32)) (ls' := [(1, vI (7 : Int32)), (0, vR 0 0 0)]) C dX7_isConsistent_28 0 rfl (by decide) (by decide) rfl ?_
                              refine s_goto (pc := 31) (tgt := 2) C dX7_isConsistent_31 (by decide) ?_
                              refine s_iload_n (pc := 2) C dX7_isConsistent_2 rfl 0 rfl ?_
                              refine s_aload_n (pc := 3) C dX7_isConsistent_3 rfl 1 rfl ?_
                              refine s_getr (pc := 4) (s := 0) (a := 1) (b := 0) (c' := 0) ckX7 (by decide) kw_300 rfl C dX7_isConsistent_4 ?_
                              refine s_geti (pc := 7) (s := 1) ckX1 (Or.inl rfl) (by decide) kw_169 (fun _ => rfl) C dX7_isConsistent_7 ?_
                              refine s_icmp_ge (pc := 10) (tgt := 34) C dX7_isConsistent_10 (by decide) (fun c => ?_) (fun c => ?_)
                              · have H := H.1 c
                                refine s_aload_n (pc := 34) C dX7_isConsistent_34 rfl 1 rfl ?_
                                refine s_callv (pc := 35) (nA := 0) (as := []) (st := []) (stk := [vR 0 0 0]) ckX7 (Or.inl rfl) C (fun l hl => ctX7_lostTotal l hl _ _ H) ⟨⟨kw_500, kw_58, kw_378⟩, rfl, ⟨by decide, by decide, by decide +kernel⟩, by decide, by decide⟩ kw_376 (g_selW kw_377) rfl (Nat.le_of_ble_eq_true rfl) ⟨by decide, by decide⟩ rfl dX7_isConsistent_35 (g_Kq_I (fun u86 h85 H => ?_) (fun E h85 H => s_prop rfl ⟨by decide, by decide⟩ H C))
                                refine s_aload_n (pc := 38) C dX7_isConsistent_38 rfl 1 rfl ?_
                                refine s_callv (pc := 39) (nA := 0) (as := []) (st := [vI u86]) (stk := [vR 0 0 0, vI u86]) ckX7 (Or.inl rfl) C (fun l hl => ctX7_lostTotalByRoofs l hl _ _ H) ⟨⟨kw_501, kw_58, kw_386⟩, rfl, ⟨by decide, by decide, by decide +kernel⟩, by decide, by decide⟩ kw_384 (g_selW kw_385) rfl (Nat.le_of_ble_eq_true rfl) ⟨by decide, by decide⟩ rfl dX7_isConsistent_39 (g_Kq_I (fun u88 h87 H => ?_) (fun E h87 H => s_prop rfl ⟨by decide, by decide⟩ H C))
                                refine s_icmp_eq (pc := 42) (tgt := 47) C dX7_isConsistent_42 (by decide) (fun c => ?_) (fun c => ?_)
                                · have H := H.1 c
                                  refine s_aload_n (pc := 47) C dX7_isConsistent_47 rfl 1 rfl ?_
                                  refine s_getr (pc := 48) (s := 0) (a := 1) (b := 0) (c' := 0) ckX7 (by decide) kw_300 rfl C dX7_isConsistent_48 ?_
                                  refine s_geti (pc := 51) (s := 1) ckX1 (Or.inl rfl) (by decide) kw_169 (fun _ => rfl) C dX7_isConsistent_51 ?_
                                  refine s_if_eq (pc := 54) (tgt := 68) C dX7_isConsistent_54 (by decide) (fun c => ?_) (fun c => ?_)
                                  · have H := H.1 c
                                    exact s_wide (k' := 26) (n' := 156) (by decide) (by decide) <| s_sub (ls' := []) [] rfl (vX7_isConsistent_b68 C  h87 H)
                                  · have H := H.2 c
                                    refine s_aload_n (pc := 57) C dX7_isConsistent_57 rfl 1 rfl ?_
                                    refine s_callv (pc := 58) (nA := 0) (as := []) (st := []) (stk := [vR 0 0 0]) ckX7 (Or.inl rfl) C (fun l hl => ctX7_fundedShifts l hl _ _ H) ⟨⟨kw_502, kw_58, kw_505⟩, rfl, ⟨by decide, by decide, by decide +kernel⟩, by decide, by decide⟩ kw_503 (g_selW kw_504) rfl (Nat.le_of_ble_eq_true rfl) ⟨by decide, by decide⟩ rfl dX7_isConsistent_58 (g_Kq_I (fun u90 h89 H => ?_) (fun E h89 H => s_prop rfl ⟨by decide, by decide⟩ H C))
                                    refine s_aload_n (pc := 61) C dX7_isConsistent_61 rfl 1 rfl ?_
                                    refine s_callv (pc := 62) (nA := 0) (as := []) (st := [vI u90]) (stk := [vR 0 0 0, vI u90]) ckX7 (Or.inl rfl) C (fun l hl => ctX7_fundedShiftsByPaying l hl _ _ H) ⟨⟨kw_530, kw_58, kw_533⟩, rfl, ⟨by decide, by decide, by decide +kernel⟩, by decide, by decide⟩ kw_531 (g_selW kw_532) rfl (Nat.le_of_ble_eq_true rfl) ⟨by decide, by decide⟩ rfl dX7_isConsistent_62 (g_Kq_I (fun u92 h91 H => ?_) (fun E h91 H => s_prop rfl ⟨by decide, by decide⟩ H C))
                                    refine s_icmp_ne (pc := 65) (tgt := 72) C dX7_isConsistent_65 (by decide) (fun c => ?_) (fun c => ?_)
                                    · have H := H.1 c
                                      refine s_iconst (pc := 72) C dX7_isConsistent_72 (x := (0 : Int32)) (by decide) ?_
                                      exact s_wide (k' := 26) (n' := 156) (by decide) (by decide) <| s_sub (ls' := []) [] rfl (vX7_isConsistent_b73 C (0 : Int32) h91 H)
                                    · have H := H.2 c
                                      exact s_wide (k' := 26) (n' := 156) (by decide) (by decide) <| s_sub (ls' := []) [] rfl (vX7_isConsistent_b68 C  h91 H)
                                · have H := H.2 c
                                  refine s_iconst (pc := 45) C dX7_isConsistent_45 (x := (0 : Int32)) (by decide) ?_
                                  exact s_iret (pc := 46) rfl (by decide) ⟨by decide, by decide⟩ H C dX7_isConsistent_46
                              · have H := H.2 c
                                refine s_aload_n (pc := 13) C dX7_isConsistent_13 rfl 1 rfl ?_
                                refine s_iload_n (pc := 14) C dX7_isConsistent_14 rfl 0 rfl ?_
                                refine s_callv (pc := 15) (nA := 1) (as := [vI (7 : Int32)]) (st := []) (stk := [vI (7 : Int32), vR 0 0 0]) ckX7 (Or.inl rfl) C (fun l hl => ctX7_stepsToWind l hl (7 : Int32) _ _ H) ⟨⟨kw_403, kw_58, kw_406⟩, rfl, ⟨by decide, by decide, by decide +kernel⟩, by decide, by decide⟩ kw_404 (g_selW kw_405) rfl (Nat.le_of_ble_eq_true rfl) ⟨by decide, by decide⟩ rfl dX7_isConsistent_15 (g_Kq_I (fun u94 h93 H => ?_) (fun E h93 H => s_prop rfl ⟨by decide, by decide⟩ H C))
                                refine s_aload_n (pc := 18) C dX7_isConsistent_18 rfl 1 rfl ?_
                                refine s_iload_n (pc := 19) C dX7_isConsistent_19 rfl 0 rfl ?_
                                refine s_callv (pc := 20) (nA := 1) (as := [vI (7 : Int32)]) (st := [vI u94]) (stk := [vI (7 : Int32), vR 0 0 0, vI u94]) ckX7 (Or.inl rfl) C (fun l hl => ctX7_stepsToWindByTurning l hl (7 : Int32) _ _ H) ⟨⟨kw_493, kw_58, kw_496⟩, rfl, ⟨by decide, by decide, by decide +kernel⟩, by decide, by decide⟩ kw_494 (g_selW kw_495) rfl (Nat.le_of_ble_eq_true rfl) ⟨by decide, by decide⟩ rfl dX7_isConsistent_20 (g_Kq_I (fun u96 h95 H => ?_) (fun E h95 H => s_prop rfl ⟨by decide, by decide⟩ H C))
                                refine s_icmp_eq (pc := 23) (tgt := 28) C dX7_isConsistent_23 (by decide) (fun c => ?_) (fun c => ?_)
                                · have H := H.1 c
                                  refine s_iinc (pc := 28) (y := (8 : Int32)) (ls' := [(1, vI (8 : Int32)), (0, vR 0 0 0)]) C dX7_isConsistent_28 0 rfl (by decide) (by decide) rfl ?_
                                  refine s_goto (pc := 31) (tgt := 2) C dX7_isConsistent_31 (by decide) ?_
                                  refine s_iload_n (pc := 2) C dX7_isConsistent_2 rfl 0 rfl ?_
                                  refine s_aload_n (pc := 3) C dX7_isConsistent_3 rfl 1 rfl ?_
                                  refine s_getr (pc := 4) (s := 0) (a := 1) (b := 0) (c' := 0) ckX7 (by decide) kw_300 rfl C dX7_isConsistent_4 ?_
                                  refine s_geti (pc := 7) (s := 1) ckX1 (Or.inl rfl) (by decide) kw_169 (fun _ => rfl) C dX7_isConsistent_7 ?_
                                  refine s_icmp_ge (pc := 10) (tgt := 34) C dX7_isConsistent_10 (by decide) (fun c => ?_) (fun c => ?_)
                                  · have H := H.1 c
                                    refine s_aload_n (pc := 34) C dX7_isConsistent_34 rfl 1 rfl ?_
                                    refine s_callv (pc := 35) (nA := 0) (as := []) (st := []) (stk := [vR 0 0 0]) ckX7 (Or.inl rfl) C (fun l hl => ctX7_lostTotal l hl _ _ H) ⟨⟨kw_500, kw_58, kw_378⟩, rfl, ⟨by decide, by decide, by decide +kernel⟩, by decide, by decide⟩ kw_376 (g_selW kw_377) rfl (Nat.le_of_ble_eq_true rfl) ⟨by decide, by decide⟩ rfl dX7_isConsistent_35 (g_Kq_I (fun u98 h97 H => ?_) (fun E h97 H => s_prop rfl ⟨by decide, by decide⟩ H C))
                                    refine s_aload_n (pc := 38) C dX7_isConsistent_38 rfl 1 rfl ?_
                                    refine s_callv (pc := 39) (nA := 0) (as := []) (st := [vI u98]) (stk := [vR 0 0 0, vI u98]) ckX7 (Or.inl rfl) C (fun l hl => ctX7_lostTotalByRoofs l hl _ _ H) ⟨⟨kw_501, kw_58, kw_386⟩, rfl, ⟨by decide, by decide, by decide +kernel⟩, by decide, by decide⟩ kw_384 (g_selW kw_385) rfl (Nat.le_of_ble_eq_true rfl) ⟨by decide, by decide⟩ rfl dX7_isConsistent_39 (g_Kq_I (fun u100 h99 H => ?_) (fun E h99 H => s_prop rfl ⟨by decide, by decide⟩ H C))
                                    refine s_icmp_eq (pc := 42) (tgt := 47) C dX7_isConsistent_42 (by decide) (fun c => ?_) (fun c => ?_)
                                    · have H := H.1 c
                                      refine s_aload_n (pc := 47) C dX7_isConsistent_47 rfl 1 rfl ?_
                                      refine s_getr (pc := 48) (s := 0) (a := 1) (b := 0) (c' := 0) ckX7 (by decide) kw_300 rfl C dX7_isConsistent_48 ?_
                                      refine s_geti (pc := 51) (s := 1) ckX1 (Or.inl rfl) (by decide) kw_169 (fun _ => rfl) C dX7_isConsistent_51 ?_
                                      refine s_if_eq (pc := 54) (tgt := 68) C dX7_isConsistent_54 (by decide) (fun c => ?_) (fun c => ?_)
                                      · have H := H.1 c
                                        exact s_wide (k' := 26) (n' := 156) (by decide) (by decide) <| s_sub (ls' := []) [] rfl (vX7_isConsistent_b68 C  h99 H)
                                      · have H := H.2 c
                                        refine s_aload_n (pc := 57) C dX7_isConsistent_57 rfl 1 rfl ?_
                                        refine s_callv (pc := 58) (nA := 0) (as := []) (st := []) (stk := [vR 0 0 0]) ckX7 (Or.inl rfl) C (fun l hl => ctX7_fundedShifts l hl _ _ H) ⟨⟨kw_502, kw_58, kw_505⟩, rfl, ⟨by decide, by decide, by decide +kernel⟩, by decide, by decide⟩ kw_503 (g_selW kw_504) rfl (Nat.le_of_ble_eq_true rfl) ⟨by decide, by decide⟩ rfl dX7_isConsistent_58 (g_Kq_I (fun u102 h101 H => ?_) (fun E h101 H => s_prop rfl ⟨by decide, by decide⟩ H C))
                                        refine s_aload_n (pc := 61) C dX7_isConsistent_61 rfl 1 rfl ?_
                                        refine s_callv (pc := 62) (nA := 0) (as := []) (st := [vI u102]) (stk := [vR 0 0 0, vI u102]) ckX7 (Or.inl rfl) C (fun l hl => ctX7_fundedShiftsByPaying l hl _ _ H) ⟨⟨kw_530, kw_58, kw_533⟩, rfl, ⟨by decide, by decide, by decide +kernel⟩, by decide, by decide⟩ kw_531 (g_selW kw_532) rfl (Nat.le_of_ble_eq_true rfl) ⟨by decide, by decide⟩ rfl dX7_isConsistent_62 (g_Kq_I (fun u104 h103 H => ?_) (fun E h103 H => s_prop rfl ⟨by decide, by decide⟩ H C))
                                        refine s_icmp_ne (pc := 65) (tgt := 72) C dX7_isConsistent_65 (by decide) (fun c => ?_) (fun c => ?_)
                                        · have H := H.1 c
                                          refine s_iconst (pc := 72) C dX7_isConsistent_72 (x := (0 : Int32)) (by decide) ?_
                                          exact s_wide (k' := 26) (n' := 156) (by decide) (by decide) <| s_sub (ls' := []) [] rfl (vX7_isConsistent_b73 C (0 : Int32) h103 H)
                                        · have H := H.2 c
                                          exact s_wide (k' := 26) (n' := 156) (by decide) (by decide) <| s_sub (ls' := []) [] rfl (vX7_isConsistent_b68 C  h103 H)
                                    · have H := H.2 c
                                      refine s_iconst (pc := 45) C dX7_isConsistent_45 (x := (0 : Int32)) (by decide) ?_
                                      exact s_iret (pc := 46) rfl (by decide) ⟨by decide, by decide⟩ H C dX7_isConsistent_46
                                  · have H := H.2 c
                                    refine s_aload_n (pc := 13) C dX7_isConsistent_13 rfl 1 rfl ?_
                                    refine s_iload_n (pc := 14) C dX7_isConsistent_14 rfl 0 rfl ?_
                                    refine s_callv (pc := 15) (nA := 1) (as := [vI (8 : Int32)]) (st := []) (stk := [vI (8 : Int32), vR 0 0 0]) ckX7 (Or.inl rfl) C (fun l hl => ctX7_stepsToWind l hl (8 : Int32) _ _ H) ⟨⟨kw_403, kw_58, kw_406⟩, rfl, ⟨by decide, by decide, by decide +kernel⟩, by decide, by decide⟩ kw_404 (g_selW kw_405) rfl (Nat.le_of_ble_eq_true rfl) ⟨by decide, by decide⟩ rfl dX7_isConsistent_15 (g_Kq_I (fun u106 h105 H => ?_) (fun E h105 H => s_prop rfl ⟨by decide, by decide⟩ H C))
                                    refine s_aload_n (pc := 18) C dX7_isConsistent_18 rfl 1 rfl ?_
                                    refine s_iload_n (pc := 19) C dX7_isConsistent_19 rfl 0 rfl ?_
                                    refine s_callv (pc := 20) (nA := 1) (as := [vI (8 : Int32)]) (st := [vI u106]) (stk := [vI (8 : Int32), vR 0 0 0, vI u106]) ckX7 (Or.inl rfl) C (fun l hl => ctX7_stepsToWindByTurning l hl (8 : Int32) _ _ H) ⟨⟨kw_493, kw_58, kw_496⟩, rfl, ⟨by decide, by decide, by decide +kernel⟩, by decide, by decide⟩ kw_494 (g_selW kw_495) rfl (Nat.le_of_ble_eq_true rfl) ⟨by decide, by decide⟩ rfl dX7_isConsistent_20 (g_Kq_I (fun u108 h107 H => ?_) (fun E h107 H => s_prop rfl ⟨by decide, by decide⟩ H C))
                                    refine s_icmp_eq (pc := 23) (tgt := 28) C dX7_isConsistent_23 (by decide) (fun c => ?_) (fun c => ?_)
                                    · have H := H.1 c
                                      refine s_iinc (pc := 28) (y := (9 : Int32)) (ls' := [(1, vI (9 : Int32)), (0, vR 0 0 0)]) C dX7_isConsistent_28 0 rfl (by decide) (by decide) rfl ?_
                                      refine s_goto (pc := 31) (tgt := 2) C dX7_isConsistent_31 (by decide) ?_
                                      refine s_iload_n (pc := 2) C dX7_isConsistent_2 rfl 0 rfl ?_
                                      refine s_aload_n (pc := 3) C dX7_isConsistent_3 rfl 1 rfl ?_
                                      refine s_getr (pc := 4) (s := 0) (a := 1) (b := 0) (c' := 0) ckX7 (by decide) kw_300 rfl C dX7_isConsistent_4 ?_
                                      refine s_geti (pc := 7) (s := 1) ckX1 (Or.inl rfl) (by decide) kw_169 (fun _ => rfl) C dX7_isConsistent_7 ?_
                                      refine s_icmp_ge (pc := 10) (tgt := 34) C dX7_isConsistent_10 (by decide) (fun c => ?_) (fun c => ?_)
                                      · have H := H.1 c
                                        refine s_aload_n (pc := 34) C dX7_isConsistent_34 rfl 1 rfl ?_
                                        refine s_callv (pc := 35) (nA := 0) (as := []) (st := []) (stk := [vR 0 0 0]) ckX7 (Or.inl rfl) C (fun l hl => ctX7_lostTotal l hl _ _ H) ⟨⟨kw_500, kw_58, kw_378⟩, rfl, ⟨by decide, by decide, by decide +kernel⟩, by decide, by decide⟩ kw_376 (g_selW kw_377) rfl (Nat.le_of_ble_eq_true rfl) ⟨by decide, by decide⟩ rfl dX7_isConsistent_35 (g_Kq_I (fun u110 h109 H => ?_) (fun E h109 H => s_prop rfl ⟨by decide, by decide⟩ H C))
                                        refine s_aload_n (pc := 38) C dX7_isConsistent_38 rfl 1 rfl ?_
                                        refine s_callv (pc := 39) (nA := 0) (as := []) (st := [vI u110]) (stk := [vR 0 0 0, vI u110]) ckX7 (Or.inl rfl) C (fun l hl => ctX7_lostTotalByRoofs l hl _ _ H) ⟨⟨kw_501, kw_58, kw_386⟩, rfl, ⟨by decide, by decide, by decide +kernel⟩, by decide, by decide⟩ kw_384 (g_selW kw_385) rfl (Nat.le_of_ble_eq_true rfl) ⟨by decide, by decide⟩ rfl dX7_isConsistent_39 (g_Kq_I (fun u112 h111 H => ?_) (fun E h111 H => s_prop rfl ⟨by decide, by decide⟩ H C))
                                        refine s_icmp_eq (pc := 42) (tgt := 47) C dX7_isConsistent_42 (by decide) (fun c => ?_) (fun c => ?_)
                                        · have H := H.1 c
                                          refine s_aload_n (pc := 47) C dX7_isConsistent_47 rfl 1 rfl ?_
                                          refine s_getr (pc := 48) (s := 0) (a := 1) (b := 0) (c' := 0) ckX7 (by decide) kw_300 rfl C dX7_isConsistent_48 ?_
                                          refine s_geti (pc := 51) (s := 1) ckX1 (Or.inl rfl) (by decide) kw_169 (fun _ => rfl) C dX7_isConsistent_51 ?_
                                          refine s_if_eq (pc := 54) (tgt := 68) C dX7_isConsistent_54 (by decide) (fun c => ?_) (fun c => ?_)
                                          · have H := H.1 c
                                            exact s_wide (k' := 26) (n' := 156) (by decide) (by decide) <| s_sub (ls' := []) [] rfl (vX7_isConsistent_b68 C  h111 H)
                                          · have H := H.2 c
                                            refine s_aload_n (pc := 57) C dX7_isConsistent_57 rfl 1 rfl ?_
                                            refine s_callv (pc := 58) (nA := 0) (as := []) (st := []) (stk := [vR 0 0 0]) ckX7 (Or.inl rfl) C (fun l hl => ctX7_fundedShifts l hl _ _ H) ⟨⟨kw_502, kw_58, kw_505⟩, rfl, ⟨by decide, by decide, by decide +kernel⟩, by decide, by decide⟩ kw_503 (g_selW kw_504) rfl (Nat.le_of_ble_eq_true rfl) ⟨by decide, by decide⟩ rfl dX7_isConsistent_58 (g_Kq_I (fun u114 h113 H => ?_) (fun E h113 H => s_prop rfl ⟨by decide, by decide⟩ H C))
                                            refine s_aload_n (pc := 61) C dX7_isConsistent_61 rfl 1 rfl ?_
                                            refine s_callv (pc := 62) (nA := 0) (as := []) (st := [vI u114]) (stk := [vR 0 0 0, vI u114]) ckX7 (Or.inl rfl) C (fun l hl => ctX7_fundedShiftsByPaying l hl _ _ H) ⟨⟨kw_530, kw_58, kw_533⟩, rfl, ⟨by decide, by decide, by decide +kernel⟩, by decide, by decide⟩ kw_531 (g_selW kw_532) rfl (Nat.le_of_ble_eq_true rfl) ⟨by decide, by decide⟩ rfl dX7_isConsistent_62 (g_Kq_I (fun u116 h115 H => ?_) (fun E h115 H => s_prop rfl ⟨by decide, by decide⟩ H C))
                                            refine s_icmp_ne (pc := 65) (tgt := 72) C dX7_isConsistent_65 (by decide) (fun c => ?_) (fun c => ?_)
                                            · have H := H.1 c
                                              refine s_iconst (pc := 72) C dX7_isConsistent_72 (x := (0 : Int32)) (by decide) ?_
                                              exact s_wide (k' := 26) (n' := 156) (by decide) (by decide) <| s_sub (ls' := []) [] rfl (vX7_isConsistent_b73 C (0 : Int32) h115 H)
                                            · have H := H.2 c
                                              exact s_wide (k' := 26) (n' := 156) (by decide) (by decide) <| s_sub (ls' := []) [] rfl (vX7_isConsistent_b68 C  h115 H)
                                        · have H := H.2 c
                                          refine s_iconst (pc := 45) C dX7_isConsistent_45 (x := (0 : Int32)) (by decide) ?_
                                          exact s_iret (pc := 46) rfl (by decide) ⟨by decide, by decide⟩ H C dX7_isConsistent_46
                                      · have H := H.2 c
                                        refine s_aload_n (pc := 13) C dX7_isConsistent_13 rfl 1 rfl ?_
                                        refine s_iload_n (pc := 14) C dX7_isConsistent_14 rfl 0 rfl ?_
                                        refine s_callv (pc := 15) (nA := 1) (as := [vI (9 : Int32)]) (st := []) (stk := [vI (9 : Int32), vR 0 0 0]) ckX7 (Or.inl rfl) C (fun l hl => ctX7_stepsToWind l hl (9 : Int32) _ _ H) ⟨⟨kw_403, kw_58, kw_406⟩, rfl, ⟨by decide, by decide, by decide +kernel⟩, by decide, by decide⟩ kw_404 (g_selW kw_405) rfl (Nat.le_of_ble_eq_true rfl) ⟨by decide, by decide⟩ rfl dX7_isConsistent_15 (g_Kq_I (fun u118 h117 H => ?_) (fun E h117 H => s_prop rfl ⟨by decide, by decide⟩ H C))
                                        refine s_aload_n (pc := 18) C dX7_isConsistent_18 rfl 1 rfl ?_
                                        refine s_iload_n (pc := 19) C dX7_isConsistent_19 rfl 0 rfl ?_
                                        refine s_callv (pc := 20) (nA := 1) (as := [vI (9 : Int32)]) (st := [vI u118]) (stk := [vI (9 : Int32), vR 0 0 0, vI u118]) ckX7 (Or.inl rfl) C (fun l hl => ctX7_stepsToWindByTurning l hl (9 : Int32) _ _ H) ⟨⟨kw_493, kw_58, kw_496⟩, rfl, ⟨by decide, by decide, by decide +kernel⟩, by decide, by decide⟩ kw_494 (g_selW kw_495) rfl (Nat.le_of_ble_eq_true rfl) ⟨by decide, by decide⟩ rfl dX7_isConsistent_20 (g_Kq_I (fun u120 h119 H => ?_) (fun E h119 H => s_prop rfl ⟨by decide, by decide⟩ H C))
                                        refine s_icmp_eq (pc := 23) (tgt := 28) C dX7_isConsistent_23 (by decide) (fun c => ?_) (fun c => ?_)
                                        · have H := H.1 c
                                          refine s_iinc (pc := 28) (y := (10 : Int32)) (ls' := [(1, vI (10 : Int32)), (0, vR 0 0 0)]) C dX7_isConsistent_28 0 rfl (by decide) (by decide) rfl ?_
                                          refine s_goto (pc := 31) (tgt := 2) C dX7_isConsistent_31 (by decide) ?_
                                          refine s_iload_n (pc := 2) C dX7_isConsistent_2 rfl 0 rfl ?_
                                          refine s_aload_n (pc := 3) C dX7_isConsistent_3 rfl 1 rfl ?_
                                          refine s_getr (pc := 4) (s := 0) (a := 1) (b := 0) (c' := 0) ckX7 (by decide) kw_300 rfl C dX7_isConsistent_4 ?_
                                          refine s_geti (pc := 7) (s := 1) ckX1 (Or.inl rfl) (by decide) kw_169 (fun _ => rfl) C dX7_isConsistent_7 ?_
                                          refine s_icmp_ge (pc := 10) (tgt := 34) C dX7_isConsistent_10 (by decide) (fun c => ?_) (fun c => ?_)
                                          · have H := H.1 c
                                            refine s_aload_n (pc := 34) C dX7_isConsistent_34 rfl 1 rfl ?_
                                            refine s_callv (pc := 35) (nA := 0) (as := []) (st := []) (stk := [vR 0 0 0]) ckX7 (Or.inl rfl) C (fun l hl => ctX7_lostTotal l hl _ _ H) ⟨⟨kw_500, kw_58, kw_378⟩, rfl, ⟨by decide, by decide, by decide +kernel⟩, by decide, by decide⟩ kw_376 (g_selW kw_377) rfl (Nat.le_of_ble_eq_true rfl) ⟨by decide, by decide⟩ rfl dX7_isConsistent_35 (g_Kq_I (fun u122 h121 H => ?_) (fun E h121 H => s_prop rfl ⟨by decide, by decide⟩ H C))
                                            refine s_aload_n (pc := 38) C dX7_isConsistent_38 rfl 1 rfl ?_
                                            refine s_callv (pc := 39) (nA := 0) (as := []) (st := [vI u122]) (stk := [vR 0 0 0, vI u122]) ckX7 (Or.inl rfl) C (fun l hl => ctX7_lostTotalByRoofs l hl _ _ H) ⟨⟨kw_501, kw_58, kw_386⟩, rfl, ⟨by decide, by decide, by decide +kernel⟩, by decide, by decide⟩ kw_384 (g_selW kw_385) rfl (Nat.le_of_ble_eq_true rfl) ⟨by decide, by decide⟩ rfl dX7_isConsistent_39 (g_Kq_I (fun u124 h123 H => ?_) (fun E h123 H => s_prop rfl ⟨by decide, by decide⟩ H C))
                                            refine s_icmp_eq (pc := 42) (tgt := 47) C dX7_isConsistent_42 (by decide) (fun c => ?_) (fun c => ?_)
                                            · have H := H.1 c
                                              refine s_aload_n (pc := 47) C dX7_isConsistent_47 rfl 1 rfl ?_
                                              refine s_getr (pc := 48) (s := 0) (a := 1) (b := 0) (c' := 0) ckX7 (by decide) kw_300 rfl C dX7_isConsistent_48 ?_
                                              refine s_geti (pc := 51) (s := 1) ckX1 (Or.inl rfl) (by decide) kw_169 (fun _ => rfl) C dX7_isConsistent_51 ?_
                                              refine s_if_eq (pc := 54) (tgt := 68) C dX7_isConsistent_54 (by decide) (fun c => ?_) (fun c => ?_)
                                              · have H := H.1 c
                                                exact s_wide (k' := 26) (n' := 156) (by decide) (by decide) <| s_sub (ls' := []) [] rfl (vX7_isConsistent_b68 C  h123 H)
                                              · have H := H.2 c
                                                refine s_aload_n (pc := 57) C dX7_isConsistent_57 rfl 1 rfl ?_
                                                refine s_callv (pc := 58) (nA := 0) (as := []) (st := []) (stk := [vR 0 0 0]) ckX7 (Or.inl rfl) C (fun l hl => ctX7_fundedShifts l hl _ _ H) ⟨⟨kw_502, kw_58, kw_505⟩, rfl, ⟨by decide, by decide, by decide +kernel⟩, by decide, by decide⟩ kw_503 (g_selW kw_504) rfl (Nat.le_of_ble_eq_true rfl) ⟨by decide, by decide⟩ rfl dX7_isConsistent_58 (g_Kq_I (fun u126 h125 H => ?_) (fun E h125 H => s_prop rfl ⟨by decide, by decide⟩ H C))
                                                refine s_aload_n (pc := 61) C dX7_isConsistent_61 rfl 1 rfl ?_
                                                refine s_callv (pc := 62) (nA := 0) (as := []) (st := [vI u126]) (stk := [vR 0 0 0, vI u126]) ckX7 (Or.inl rfl) C (fun l hl => ctX7_fundedShiftsByPaying l hl _ _ H) ⟨⟨kw_530, kw_58, kw_533⟩, rfl, ⟨by decide, by decide, by decide +kernel⟩, by decide, by decide⟩ kw_531 (g_selW kw_532) rfl (Nat.le_of_ble_eq_true rfl) ⟨by decide, by decide⟩ rfl dX7_isConsistent_62 (g_Kq_I (fun u128 h127 H => ?_) (fun E h127 H => s_prop rfl ⟨by decide, by decide⟩ H C))
                                                refine s_icmp_ne (pc := 65) (tgt := 72) C dX7_isConsistent_65 (by decide) (fun c => ?_) (fun c => ?_)
                                                · have H := H.1 c
                                                  refine s_iconst (pc := 72) C dX7_isConsistent_72 (x := (0 : Int32)) (by decide) ?_
                                                  exact s_wide (k' := 26) (n' := 156) (by decide) (by decide) <| s_sub (ls' := []) [] rfl (vX7_isConsistent_b73 C (0 : Int32) h127 H)
                                                · have H := H.2 c
                                                  exact s_wide (k' := 26) (n' := 156) (by decide) (by decide) <| s_sub (ls' := []) [] rfl (vX7_isConsistent_b68 C  h127 H)
                                            · have H := H.2 c
                                              refine s_iconst (pc := 45) C dX7_isConsistent_45 (x := (0 : Int32)) (by decide) ?_
                                              exact s_iret (pc := 46) rfl (by decide) ⟨by decide, by decide⟩ H C dX7_isConsistent_46
                                          · have H := H.2 c
                                            refine s_aload_n (pc := 13) C dX7_isConsistent_13 rfl 1 rfl ?_
                                            refine s_iload_n (pc := 14) C dX7_isConsistent_14 rfl 0 rfl ?_
                                            refine s_callv (pc := 15) (nA := 1) (as := [vI (10 : Int32)]) (st := []) (stk := [vI (10 : Int32), vR 0 0 0]) ckX7 (Or.inl rfl) C (fun l hl => ctX7_stepsToWind l hl (10 : Int32) _ _ H) ⟨⟨kw_403, kw_58, kw_406⟩, rfl, ⟨by decide, by decide, by decide +kernel⟩, by decide, by decide⟩ kw_404 (g_selW kw_405) rfl (Nat.le_of_ble_eq_true rfl) ⟨by decide, by decide⟩ rfl dX7_isConsistent_15 (g_Kq_I (fun u130 h129 H => ?_) (fun E h129 H => s_prop rfl ⟨by decide, by decide⟩ H C))
                                            refine s_aload_n (pc := 18) C dX7_isConsistent_18 rfl 1 rfl ?_
                                            refine s_iload_n (pc := 19) C dX7_isConsistent_19 rfl 0 rfl ?_
                                            refine s_callv (pc := 20) (nA := 1) (as := [vI (10 : Int32)]) (st := [vI u130]) (stk := [vI (10 : Int32), vR 0 0 0, vI u130]) ckX7 (Or.inl rfl) C (fun l hl => ctX7_stepsToWindByTurning l hl (10 : Int32) _ _ H) ⟨⟨kw_493, kw_58, kw_496⟩, rfl, ⟨by decide, by decide, by decide +kernel⟩, by decide, by decide⟩ kw_494 (g_selW kw_495) rfl (Nat.le_of_ble_eq_true rfl) ⟨by decide, by decide⟩ rfl dX7_isConsistent_20 (g_Kq_I (fun u132 h131 H => ?_) (fun E h131 H => s_prop rfl ⟨by decide, by decide⟩ H C))
                                            refine s_icmp_eq (pc := 23) (tgt := 28) C dX7_isConsistent_23 (by decide) (fun c => ?_) (fun c => ?_)
                                            · have H := H.1 c
                                              refine s_iinc (pc := 28) (y := (11 : Int32)) (ls' := [(1, vI (11 : Int32)), (0, vR 0 0 0)]) C dX7_isConsistent_28 0 rfl (by decide) (by decide) rfl ?_
                                              refine s_goto (pc := 31) (tgt := 2) C dX7_isConsistent_31 (by decide) ?_
                                              refine s_iload_n (pc := 2) C dX7_isConsistent_2 rfl 0 rfl ?_
                                              refine s_aload_n (pc := 3) C dX7_isConsistent_3 rfl 1 rfl ?_
                                              refine s_getr (pc := 4) (s := 0) (a := 1) (b := 0) (c' := 0) ckX7 (by decide) kw_300 rfl C dX7_isConsistent_4 ?_
                                              refine s_geti (pc := 7) (s := 1) ckX1 (Or.inl rfl) (by decide) kw_169 (fun _ => rfl) C dX7_isConsistent_7 ?_
                                              refine s_icmp_ge (pc := 10) (tgt := 34) C dX7_isConsistent_10 (by decide) (fun c => ?_) (fun c => ?_)
                                              · have H := H.1 c
                                                refine s_aload_n (pc := 34) C dX7_isConsistent_34 rfl 1 rfl ?_
                                                refine s_callv (pc := 35) (nA := 0) (as := []) (st := []) (stk := [vR 0 0 0]) ckX7 (Or.inl rfl) C (fun l hl => ctX7_lostTotal l hl _ _ H) ⟨⟨kw_500, kw_58, kw_378⟩, rfl, ⟨by decide, by decide, by decide +kernel⟩, by decide, by decide⟩ kw_376 (g_selW kw_377) rfl (Nat.le_of_ble_eq_true rfl) ⟨by decide, by decide⟩ rfl dX7_isConsistent_35 (g_Kq_I (fun u134 h133 H => ?_) (fun E h133 H => s_prop rfl ⟨by decide, by decide⟩ H C))
                                                refine s_aload_n (pc := 38) C dX7_isConsistent_38 rfl 1 rfl ?_
                                                refine s_callv (pc := 39) (nA := 0) (as := []) (st := [vI u134]) (stk := [vR 0 0 0, vI u134]) ckX7 (Or.inl rfl) C (fun l hl => ctX7_lostTotalByRoofs l hl _ _ H) ⟨⟨kw_501, kw_58, kw_386⟩, rfl, ⟨by decide, by decide, by decide +kernel⟩, by decide, by decide⟩ kw_384 (g_selW kw_385) rfl (Nat.le_of_ble_eq_true rfl) ⟨by decide, by decide⟩ rfl dX7_isConsistent_39 (g_Kq_I (fun u136 h135 H => ?_) (fun E h135 H => s_prop rfl ⟨by decide, by decide⟩ H C))
                                                refine s_icmp_eq (pc := 42) (tgt := 47) C dX7_isConsistent_42 (by decide) (fun c => ?_) (fun c => ?_)
                                                · have H := H.1 c
                                                  refine s_aload_n (pc := 47) C dX7_isConsistent_47 rfl 1 rfl ?_
                                                  refine s_getr (pc := 48) (s := 0) (a := 1) (b := 0) (c' := 0) ckX7 (by decide) kw_300 rfl C dX7_isConsistent_48 ?_
                                                  refine s_geti (pc := 51) (s := 1) ckX1 (Or.inl rfl) (by decide) kw_169 (fun _ => rfl) C dX7_isConsistent_51 ?_
                                                  refine s_if_eq (pc := 54) (tgt := 68) C dX7_isConsistent_54 (by decide) (fun c => ?_) (fun c => ?_)
                                                  · have H := H.1 c
                                                    exact s_wide (k' := 26) (n' := 156) (by decide) (by decide) <| s_sub (ls' := []) [] rfl (vX7_isConsistent_b68 C  h135 H)
                                                  · have H := H.2 c
                                                    refine s_aload_n (pc := 57) C dX7_isConsistent_57 rfl 1 rfl ?_
                                                    refine s_callv (pc := 58) (nA := 0) (as := []) (st := []) (stk := [vR 0 0 0]) ckX7 (Or.inl rfl) C (fun l hl => ctX7_fundedShifts l hl _ _ H) ⟨⟨kw_502, kw_58, kw_505⟩, rfl, ⟨by decide, by decide, by decide +kernel⟩, by decide, by decide⟩ kw_503 (g_selW kw_504) rfl (Nat.le_of_ble_eq_true rfl) ⟨by decide, by decide⟩ rfl dX7_isConsistent_58 (g_Kq_I (fun u138 h137 H => ?_) (fun E h137 H => s_prop rfl ⟨by decide, by decide⟩ H C))
                                                    refine s_aload_n (pc := 61) C dX7_isConsistent_61 rfl 1 rfl ?_
                                                    refine s_callv (pc := 62) (nA := 0) (as := []) (st := [vI u138]) (stk := [vR 0 0 0, vI u138]) ckX7 (Or.inl rfl) C (fun l hl => ctX7_fundedShiftsByPaying l hl _ _ H) ⟨⟨kw_530, kw_58, kw_533⟩, rfl, ⟨by decide, by decide, by decide +kernel⟩, by decide, by decide⟩ kw_531 (g_selW kw_532) rfl (Nat.le_of_ble_eq_true rfl) ⟨by decide, by decide⟩ rfl dX7_isConsistent_62 (g_Kq_I (fun u140 h139 H => ?_) (fun E h139 H => s_prop rfl ⟨by decide, by decide⟩ H C))
                                                    refine s_icmp_ne (pc := 65) (tgt := 72) C dX7_isConsistent_65 (by decide) (fun c => ?_) (fun c => ?_)
                                                    · have H := H.1 c
                                                      refine s_iconst (pc := 72) C dX7_isConsistent_72 (x := (0 : Int32)) (by decide) ?_
                                                      exact s_wide (k' := 26) (n' := 156) (by decide) (by decide) <| s_sub (ls' := []) [] rfl (vX7_isConsistent_b73 C (0 : Int32) h139 H)
                                                    · have H := H.2 c
                                                      exact s_wide (k' := 26) (n' := 156) (by decide) (by decide) <| s_sub (ls' := []) [] rfl (vX7_isConsistent_b68 C  h139 H)
                                                · have H := H.2 c
                                                  refine s_iconst (pc := 45) C dX7_isConsistent_45 (x := (0 : Int32)) (by decide) ?_
                                                  exact s_iret (pc := 46) rfl (by decide) ⟨by decide, by decide⟩ H C dX7_isConsistent_46
                                              · have H := H.2 c
                                                refine s_aload_n (pc := 13) C dX7_isConsistent_13 rfl 1 rfl ?_
                                                refine s_iload_n (pc := 14) C dX7_isConsistent_14 rfl 0 rfl ?_
                                                refine s_callv (pc := 15) (nA := 1) (as := [vI (11 : Int32)]) (st := []) (stk := [vI (11 : Int32), vR 0 0 0]) ckX7 (Or.inl rfl) C (fun l hl => ctX7_stepsToWind l hl (11 : Int32) _ _ H) ⟨⟨kw_403, kw_58, kw_406⟩, rfl, ⟨by decide, by decide, by decide +kernel⟩, by decide, by decide⟩ kw_404 (g_selW kw_405) rfl (Nat.le_of_ble_eq_true rfl) ⟨by decide, by decide⟩ rfl dX7_isConsistent_15 (g_Kq_I (fun u142 h141 H => ?_) (fun E h141 H => s_prop rfl ⟨by decide, by decide⟩ H C))
                                                refine s_aload_n (pc := 18) C dX7_isConsistent_18 rfl 1 rfl ?_
                                                refine s_iload_n (pc := 19) C dX7_isConsistent_19 rfl 0 rfl ?_
                                                refine s_callv (pc := 20) (nA := 1) (as := [vI (11 : Int32)]) (st := [vI u142]) (stk := [vI (11 : Int32), vR 0 0 0, vI u142]) ckX7 (Or.inl rfl) C (fun l hl => ctX7_stepsToWindByTurning l hl (11 : Int32) _ _ H) ⟨⟨kw_493, kw_58, kw_496⟩, rfl, ⟨by decide, by decide, by decide +kernel⟩, by decide, by decide⟩ kw_494 (g_selW kw_495) rfl (Nat.le_of_ble_eq_true rfl) ⟨by decide, by decide⟩ rfl dX7_isConsistent_20 (g_Kq_I (fun u144 h143 H => ?_) (fun E h143 H => s_prop rfl ⟨by decide, by decide⟩ H C))
                                                refine s_icmp_eq (pc := 23) (tgt := 28) C dX7_isConsistent_23 (by decide) (fun c => ?_) (fun c => ?_)
                                                · have H := H.1 c
                                                  refine s_iinc (pc := 28) (y := (12 : Int32)) (ls' := [(1, vI (12 : Int32)), (0, vR 0 0 0)]) C dX7_isConsistent_28 0 rfl (by decide) (by decide) rfl ?_
                                                  refine s_goto (pc := 31) (tgt := 2) C dX7_isConsistent_31 (by decide) ?_
                                                  refine s_iload_n (pc := 2) C dX7_isConsistent_2 rfl 0 rfl ?_
                                                  refine s_aload_n (pc := 3) C dX7_isConsistent_3 rfl 1 rfl ?_
                                                  refine s_getr (pc := 4) (s := 0) (a := 1) (b := 0) (c' := 0) ckX7 (by decide) kw_300 rfl C dX7_isConsistent_4 ?_
                                                  refine s_geti (pc := 7) (s := 1) ckX1 (Or.inl rfl) (by decide) kw_169 (fun _ => rfl) C dX7_isConsistent_7 ?_
                                                  refine s_icmp_ge (pc := 10) (tgt := 34) C dX7_isConsistent_10 (by decide) (fun c => ?_) (fun c => ?_)
                                                  · have H := H.1 c
                                                    refine s_aload_n (pc := 34) C dX7_isConsistent_34 rfl 1 rfl ?_
                                                    refine s_callv (pc := 35) (nA := 0) (as := []) (st := []) (stk := [vR 0 0 0]) ckX7 (Or.inl rfl) C (fun l hl => ctX7_lostTotal l hl _ _ H) ⟨⟨kw_500, kw_58, kw_378⟩, rfl, ⟨by decide, by decide, by decide +kernel⟩, by decide, by decide⟩ kw_376 (g_selW kw_377) rfl (Nat.le_of_ble_eq_true rfl) ⟨by decide, by decide⟩ rfl dX7_isConsistent_35 (g_Kq_I (fun u146 h145 H => ?_) (fun E h145 H => s_prop rfl ⟨by decide, by decide⟩ H C))
                                                    refine s_aload_n (pc := 38) C dX7_isConsistent_38 rfl 1 rfl ?_
                                                    refine s_callv (pc := 39) (nA := 0) (as := []) (st := [vI u146]) (stk := [vR 0 0 0, vI u146]) ckX7 (Or.inl rfl) C (fun l hl => ctX7_lostTotalByRoofs l hl _ _ H) ⟨⟨kw_501, kw_58, kw_386⟩, rfl, ⟨by decide, by decide, by decide +kernel⟩, by decide, by decide⟩ kw_384 (g_selW kw_385) rfl (Nat.le_of_ble_eq_true rfl) ⟨by decide, by decide⟩ rfl dX7_isConsistent_39 (g_Kq_I (fun u148 h147 H => ?_) (fun E h147 H => s_prop rfl ⟨by decide, by decide⟩ H C))
                                                    refine s_icmp_eq (pc := 42) (tgt := 47) C dX7_isConsistent_42 (by decide) (fun c => ?_) (fun c => ?_)
                                                    · have H := H.1 c
                                                      refine s_aload_n (pc := 47) C dX7_isConsistent_47 rfl 1 rfl ?_
                                                      refine s_getr (pc := 48) (s := 0) (a := 1) (b := 0) (c' := 0) ckX7 (by decide) kw_300 rfl C dX7_isConsistent_48 ?_
                                                      refine s_geti (pc := 51) (s := 1) ckX1 (Or.inl rfl) (by decide) kw_169 (fun _ => rfl) C dX7_isConsistent_51 ?_
                                                      refine s_if_eq (pc := 54) (tgt := 68) C dX7_isConsistent_54 (by decide) (fun c => ?_) (fun c => ?_)
                                                      · have H := H.1 c
                                                        exact s_wide (k' := 26) (n' := 156) (by decide) (by decide) <| s_sub (ls' := []) [] rfl (vX7_isConsistent_b68 C  h147 H)
                                                      · have H := H.2 c
                                                        refine s_aload_n (pc := 57) C dX7_isConsistent_57 rfl 1 rfl ?_
                                                        refine s_callv (pc := 58) (nA := 0) (as := []) (st := []) (stk := [vR 0 0 0]) ckX7 (Or.inl rfl) C (fun l hl => ctX7_fundedShifts l hl _ _ H) ⟨⟨kw_502, kw_58, kw_505⟩, rfl, ⟨by decide, by decide, by decide +kernel⟩, by decide, by decide⟩ kw_503 (g_selW kw_504) rfl (Nat.le_of_ble_eq_true rfl) ⟨by decide, by decide⟩ rfl dX7_isConsistent_58 (g_Kq_I (fun u150 h149 H => ?_) (fun E h149 H => s_prop rfl ⟨by decide, by decide⟩ H C))
                                                        refine s_aload_n (pc := 61) C dX7_isConsistent_61 rfl 1 rfl ?_
                                                        refine s_callv (pc := 62) (nA := 0) (as := []) (st := [vI u150]) (stk := [vR 0 0 0, vI u150]) ckX7 (Or.inl rfl) C (fun l hl => ctX7_fundedShiftsByPaying l hl _ _ H) ⟨⟨kw_530, kw_58, kw_533⟩, rfl, ⟨by decide, by decide, by decide +kernel⟩, by decide, by decide⟩ kw_531 (g_selW kw_532) rfl (Nat.le_of_ble_eq_true rfl) ⟨by decide, by decide⟩ rfl dX7_isConsistent_62 (g_Kq_I (fun u152 h151 H => ?_) (fun E h151 H => s_prop rfl ⟨by decide, by decide⟩ H C))
                                                        refine s_icmp_ne (pc := 65) (tgt := 72) C dX7_isConsistent_65 (by decide) (fun c => ?_) (fun c => ?_)
                                                        · have H := H.1 c
                                                          refine s_iconst (pc := 72) C dX7_isConsistent_72 (x := (0 : Int32)) (by decide) ?_
                                                          exact s_sub (ls' := []) [] rfl (vX7_isConsistent_b73 C (0 : Int32) h151 H)
                                                        · have H := H.2 c
                                                          exact s_sub (ls' := []) [] rfl (vX7_isConsistent_b68 C  h151 H)
                                                    · have H := H.2 c
                                                      refine s_iconst (pc := 45) C dX7_isConsistent_45 (x := (0 : Int32)) (by decide) ?_
                                                      exact s_iret (pc := 46) rfl (by decide) ⟨by decide, by decide⟩ H C dX7_isConsistent_46
                                                  · have H := H.2 c
                                                    refine s_aload_n (pc := 13) C dX7_isConsistent_13 rfl 1 rfl ?_
                                                    refine s_iload_n (pc := 14) C dX7_isConsistent_14 rfl 0 rfl ?_
                                                    refine s_callv (pc := 15) (nA := 1) (as := [vI (12 : Int32)]) (st := []) (stk := [vI (12 : Int32), vR 0 0 0]) ckX7 (Or.inl rfl) C (fun l hl => ctX7_stepsToWind l hl (12 : Int32) _ _ H) ⟨⟨kw_403, kw_58, kw_406⟩, rfl, ⟨by decide, by decide, by decide +kernel⟩, by decide, by decide⟩ kw_404 (g_selW kw_405) rfl (Nat.le_of_ble_eq_true rfl) ⟨by decide, by decide⟩ rfl dX7_isConsistent_15 (g_Kq_I (fun u154 h153 H => ?_) (fun E h153 H => s_prop rfl ⟨by decide, by decide⟩ H C))
                                                    refine s_aload_n (pc := 18) C dX7_isConsistent_18 rfl 1 rfl ?_
                                                    refine s_iload_n (pc := 19) C dX7_isConsistent_19 rfl 0 rfl ?_
                                                    refine s_callv (pc := 20) (nA := 1) (as := [vI (12 : Int32)]) (st := [vI u154]) (stk := [vI (12 : Int32), vR 0 0 0, vI u154]) ckX7 (Or.inl rfl) C (fun l hl => ctX7_stepsToWindByTurning l hl (12 : Int32) _ _ H) ⟨⟨kw_493, kw_58, kw_496⟩, rfl, ⟨by decide, by decide, by decide +kernel⟩, by decide, by decide⟩ kw_494 (g_selW kw_495) rfl (Nat.le_of_ble_eq_true rfl) ⟨by decide, by decide⟩ rfl dX7_isConsistent_20 (g_Kq_I (fun u156 h155 H => ?_) (fun E h155 H => s_prop rfl ⟨by decide, by decide⟩ H C))
                                                    refine s_icmp_eq (pc := 23) (tgt := 28) C dX7_isConsistent_23 (by decide) (fun c => ?_) (fun c => ?_)
                                                    · have H := H.1 c
                                                      refine s_iinc (pc := 28) (y := (13 : Int32)) (ls' := [(1, vI (13 : Int32)), (0, vR 0 0 0)]) C dX7_isConsistent_28 0 rfl (by decide) (by decide) rfl ?_
                                                      refine s_goto (pc := 31) (tgt := 2) C dX7_isConsistent_31 (by decide) ?_
                                                      exact H.elim
                                                    · have H := H.2 c
                                                      refine s_iconst (pc := 26) C dX7_isConsistent_26 (x := (0 : Int32)) (by decide) ?_
                                                      exact s_iret (pc := 27) rfl (by decide) ⟨by decide, by decide⟩ H C dX7_isConsistent_27
                                                · have H := H.2 c
                                                  refine s_iconst (pc := 26) C dX7_isConsistent_26 (x := (0 : Int32)) (by decide) ?_
                                                  exact s_iret (pc := 27) rfl (by decide) ⟨by decide, by decide⟩ H C dX7_isConsistent_27
                                            · have H := H.2 c
                                              refine s_iconst (pc := 26) C dX7_isConsistent_26 (x := (0 : Int32)) (by decide) ?_
                                              exact s_iret (pc := 27) rfl (by decide) ⟨by decide, by decide⟩ H C dX7_isConsistent_27
                                        · have H := H.2 c
                                          refine s_iconst (pc := 26) C dX7_isConsistent_26 (x := (0 : Int32)) (by decide) ?_
                                          exact s_iret (pc := 27) rfl (by decide) ⟨by decide, by decide⟩ H C dX7_isConsistent_27
                                    · have H := H.2 c
                                      refine s_iconst (pc := 26) C dX7_isConsistent_26 (x := (0 : Int32)) (by decide) ?_
                                      exact s_iret (pc := 27) rfl (by decide) ⟨by decide, by decide⟩ H C dX7_isConsistent_27
                                · have H := H.2 c
                                  refine s_iconst (pc := 26) C dX7_isConsistent_26 (x := (0 : Int32)) (by decide) ?_
                                  exact s_iret (pc := 27) rfl (by decide) ⟨by decide, by decide⟩ H C dX7_isConsistent_27
                            · have H := H.2 c
                              refine s_iconst (pc := 26) C dX7_isConsistent_26 (x := (0 : Int32)) (by decide) ?_
                              exact s_iret (pc := 27) rfl (by decide) ⟨by decide, by decide⟩ H C dX7_isConsistent_27
                        · have H := H.2 c
                          refine s_iconst (pc := 26) C dX7_isConsistent_26 (x := (0 : Int32)) (by decide) ?_
                          exact s_iret (pc := 27) rfl (by decide) ⟨by decide, by decide⟩ H C dX7_isConsistent_27
                    · have H := H.2 c
                      refine s_iconst (pc := 26) C dX7_isConsistent_26 (x := (0 : Int32)) (by decide) ?_
                      exact s_iret (pc := 27) rfl (by decide) ⟨by decide, by decide⟩ H C dX7_isConsistent_27
                · have H := H.2 c
                  refine s_iconst (pc := 26) C dX7_isConsistent_26 (x := (0 : Int32)) (by decide) ?_
                  exact s_iret (pc := 27) rfl (by decide) ⟨by decide, by decide⟩ H C dX7_isConsistent_27
            · have H := H.2 c
              refine s_iconst (pc := 26) C dX7_isConsistent_26 (x := (0 : Int32)) (by decide) ?_
              exact s_iret (pc := 27) rfl (by decide) ⟨by decide, by decide⟩ H C dX7_isConsistent_27
        · have H := H.2 c
          refine s_iconst (pc := 26) C dX7_isConsistent_26 (x := (0 : Int32)) (by decide) ?_
          exact s_iret (pc := 27) rfl (by decide) ⟨by decide, by decide⟩ H C dX7_isConsistent_27
    · have H := H.2 c
      refine s_iconst (pc := 26) C dX7_isConsistent_26 (x := (0 : Int32)) (by decide) ?_
      exact s_iret (pc := 27) rfl (by decide) ⟨by decide, by decide⟩ H C dX7_isConsistent_27
theorem ctX7_isConsistent (l : Launch) (hl : l.stackTraces = false) {G : g_G} (h : g_Hp) (Q : g_R → g_Hp → Prop) (H : wX7_isConsistent h Q) : g_Met l y_ G iX7_isConsistent [vR 0 0 0] h Q :=
  g_Met_of hl (by decide +kernel) rfl rfl (Nat.le_of_ble_eq_true rfl) (fun X C => vX7_isConsistent C h H)
