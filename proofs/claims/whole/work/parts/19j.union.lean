/-! X7_requireMembers -/
def wX7_requireMembers (h : g_Hp) (Q : g_R → g_Hp → Prop) : Prop := ((¬ (h 1 0 0 2) = 0) → Q (.inl none) h) ∧ (((h 1 0 0 2) = 0) → Q (.inr "java/lang/ArithmeticException") h)
set_option maxRecDepth 100000 in
set_option maxHeartbeats 4000000 in
theorem vX7_requireMembers {G : g_G} {X : g_X} {Q : g_R → g_Hp → Prop} (C : g_Cx y_ G X iX7_requireMembers) (h : g_Hp) (H : wX7_requireMembers h Q) : g_V G X iX7_requireMembers 1 6 Q 0 0 0 [(0, vR 0 0 0)] [] h := by
  refine s_aload_n (pc := 0) C dX7_requireMembers_0 rfl 0 rfl ?_
  refine s_getr (pc := 1) (s := 0) (a := 1) (b := 0) (c' := 0) ckX7 (by decide) kw_300 rfl C dX7_requireMembers_1 ?_
  refine s_geti (pc := 4) (s := 1) ckX1 (Or.inl rfl) (by decide) kw_169 (fun _ => rfl) C dX7_requireMembers_4 ?_
  refine s_if_ne (pc := 7) (tgt := 21) C dX7_requireMembers_7 (by decide) (fun c => ?_) (fun c => ?_)
  · have H := H.1 c
    exact s_vret (pc := 21) rfl ⟨by decide, by decide⟩ H C dX7_requireMembers_21
  · have H := H.2 c
    exact s_throwW (pc := 10) (names := ["java/lang/RuntimeException", "java/lang/Exception"]) tw_RX7_ArithmeticException ss_RX7_360 rfl ⟨by decide, Nat.le_of_ble_eq_true rfl, by decide, by decide⟩ ⟨by decide, by decide⟩ H C dX7_requireMembers_10 dX7_requireMembers_13 dX7_requireMembers_14 dX7_requireMembers_17 dX7_requireMembers_20
theorem ctX7_requireMembers (l : Launch) (hl : l.stackTraces = false) {G : g_G} (h : g_Hp) (Q : g_R → g_Hp → Prop) (H : wX7_requireMembers h Q) : g_Met l y_ G iX7_requireMembers [vR 0 0 0] h Q :=
  g_Met_of hl (by decide +kernel) rfl rfl (Nat.le_of_ble_eq_true rfl) (fun X C => vX7_requireMembers C h H)
/-! X7_fundedShifts -/
def wX7_fundedShifts (h : g_Hp) (Q : g_R → g_Hp → Prop) : Prop := wX7_requireMembers h (g_kV (fun h1 => wX1_divideFund 0 h1 (g_kI (fun x3 h2 => Q (.inl (some (vI x3))) h2) (fun E h2 => Q (.inr E) h2))) (fun E h1 => Q (.inr E) h1))
set_option maxRecDepth 100000 in
set_option maxHeartbeats 4000000 in
theorem vX7_fundedShifts {G : g_G} {X : g_X} {Q : g_R → g_Hp → Prop} (C : g_Cx y_ G X iX7_fundedShifts) (h : g_Hp) (H : wX7_fundedShifts h Q) : g_V G X iX7_fundedShifts 1 6 Q 0 0 0 [(0, vR 0 0 0)] [] h := by
  refine s_aload_n (pc := 0) C dX7_fundedShifts_0 rfl 0 rfl ?_
  refine s_callv (pc := 1) (nA := 0) (as := []) (st := []) (stk := [vR 0 0 0]) ckX7 (Or.inl rfl) C (fun l hl => ctX7_requireMembers l hl _ _ H) ⟨⟨kw_506, kw_58, kw_509⟩, rfl, ⟨by decide, by decide, by decide +kernel⟩, by decide, by decide⟩ kw_508 (g_selW kw_2) rfl (Nat.le_of_ble_eq_true rfl) ⟨by decide, by decide⟩ rfl dX7_fundedShifts_1 (g_Kq_V (fun h1 H => ?_) (fun E h1 H => s_prop rfl ⟨by decide, by decide⟩ H C))
  refine s_aload_n (pc := 4) C dX7_fundedShifts_4 rfl 0 rfl ?_
  refine s_getr (pc := 5) (s := 0) (a := 1) (b := 0) (c' := 0) ckX7 (by decide) kw_300 rfl C dX7_fundedShifts_5 ?_
  refine s_callv (pc := 8) (nA := 0) (as := []) (st := []) (stk := [vR 1 0 0]) ckX1 (Or.inl rfl) C (fun l hl => ctX1_divideFund l hl 0 _ _ H) ⟨⟨kw_526, kw_59, kw_529⟩, rfl, ⟨by decide, by decide, by decide +kernel⟩, by decide, by decide⟩ kw_527 (g_selW kw_528) rfl (Nat.le_of_ble_eq_true rfl) ⟨by decide, by decide⟩ rfl dX7_fundedShifts_8 (g_Kq_I (fun x3 h2 H => ?_) (fun E h2 H => s_prop rfl ⟨by decide, by decide⟩ H C))
  exact s_iret (pc := 11) rfl rfl ⟨by decide, by decide⟩ H C dX7_fundedShifts_11
theorem ctX7_fundedShifts (l : Launch) (hl : l.stackTraces = false) {G : g_G} (h : g_Hp) (Q : g_R → g_Hp → Prop) (H : wX7_fundedShifts h Q) : g_Met l y_ G iX7_fundedShifts [vR 0 0 0] h Q :=
  g_Met_of hl (by decide +kernel) rfl rfl (Nat.le_of_ble_eq_true rfl) (fun X C => vX7_fundedShifts C h H)
/-! X7_fundedShiftsByPaying -/
def wX7_fundedShiftsByPaying (h : g_Hp) (Q : g_R → g_Hp → Prop) : Prop := wX7_requireMembers h (g_kV (fun h1 => wX1_payOutCopyOfFund 0 h1 (g_kI (fun x3 h2 => Q (.inl (some (vI x3))) h2) (fun E h2 => Q (.inr E) h2))) (fun E h1 => Q (.inr E) h1))
set_option maxRecDepth 100000 in
set_option maxHeartbeats 4000000 in
theorem vX7_fundedShiftsByPaying {G : g_G} {X : g_X} {Q : g_R → g_Hp → Prop} (C : g_Cx y_ G X iX7_fundedShiftsByPaying) (h : g_Hp) (H : wX7_fundedShiftsByPaying h Q) : g_V G X iX7_fundedShiftsByPaying 1 6 Q 0 0 0 [(0, vR 0 0 0)] [] h := by
  refine s_aload_n (pc := 0) C dX7_fundedShiftsByPaying_0 rfl 0 rfl ?_
  refine s_callv (pc := 1) (nA := 0) (as := []) (st := []) (stk := [vR 0 0 0]) ckX7 (Or.inl rfl) C (fun l hl => ctX7_requireMembers l hl _ _ H) ⟨⟨kw_506, kw_58, kw_509⟩, rfl, ⟨by decide, by decide, by decide +kernel⟩, by decide, by decide⟩ kw_508 (g_selW kw_2) rfl (Nat.le_of_ble_eq_true rfl) ⟨by decide, by decide⟩ rfl dX7_fundedShiftsByPaying_1 (g_Kq_V (fun h1 H => ?_) (fun E h1 H => s_prop rfl ⟨by decide, by decide⟩ H C))
  refine s_aload_n (pc := 4) C dX7_fundedShiftsByPaying_4 rfl 0 rfl ?_
  refine s_getr (pc := 5) (s := 0) (a := 1) (b := 0) (c' := 0) ckX7 (by decide) kw_300 rfl C dX7_fundedShiftsByPaying_5 ?_
  refine s_callv (pc := 8) (nA := 0) (as := []) (st := []) (stk := [vR 1 0 0]) ckX1 (Or.inl rfl) C (fun l hl => ctX1_payOutCopyOfFund l hl 0 _ _ H) ⟨⟨kw_534, kw_59, kw_537⟩, rfl, ⟨by decide, by decide, by decide +kernel⟩, by decide, by decide⟩ kw_535 (g_selW kw_536) rfl (Nat.le_of_ble_eq_true rfl) ⟨by decide, by decide⟩ rfl dX7_fundedShiftsByPaying_8 (g_Kq_I (fun x3 h2 H => ?_) (fun E h2 H => s_prop rfl ⟨by decide, by decide⟩ H C))
  exact s_iret (pc := 11) rfl rfl ⟨by decide, by decide⟩ H C dX7_fundedShiftsByPaying_11
theorem ctX7_fundedShiftsByPaying (l : Launch) (hl : l.stackTraces = false) {G : g_G} (h : g_Hp) (Q : g_R → g_Hp → Prop) (H : wX7_fundedShiftsByPaying h Q) : g_Met l y_ G iX7_fundedShiftsByPaying [vR 0 0 0] h Q :=
  g_Met_of hl (by decide +kernel) rfl rfl (Nat.le_of_ble_eq_true rfl) (fun X C => vX7_fundedShiftsByPaying C h H)
/-! X7_signUp -/
def wX7_signUp (p0 : Int32) (p1 : Int32) (h : g_Hp) (Q : g_R → g_Hp → Prop) : Prop := wX1_faultOfSigning 0 p0 p1 h (g_kR 20 (fun i2 j3 h1 => wX7_refuse i2 j3 h1 (g_kV (fun h4 => wX7_beginChange h4 (g_kV (fun h5 => wX1_putOnList 0 p0 p1 h5 (g_kI (fun x7 h6 => wX7_endChange h6 (g_kV (fun h8 => Q (.inl (some (vI x7))) h8) (fun E h8 => Q (.inr E) h8))) (fun E h6 => Q (.inr E) h6))) (fun E h5 => Q (.inr E) h5))) (fun E h4 => Q (.inr E) h4))) (fun E h1 => Q (.inr E) h1))
set_option maxRecDepth 100000 in
set_option maxHeartbeats 4000000 in
theorem vX7_signUp {G : g_G} {X : g_X} {Q : g_R → g_Hp → Prop} (C : g_Cx y_ G X iX7_signUp) (p0 : Int32) (p1 : Int32) (h : g_Hp) (H : wX7_signUp p0 p1 h Q) : g_V G X iX7_signUp 1 6 Q 0 0 0 [(0, vR 0 0 0), (1, vI p0), (2, vI p1)] [] h := by
  refine s_aload_n (pc := 0) C dX7_signUp_0 rfl 0 rfl ?_
  refine s_getr (pc := 1) (s := 0) (a := 1) (b := 0) (c' := 0) ckX7 (by decide) kw_300 rfl C dX7_signUp_1 ?_
  refine s_iload_n (pc := 4) C dX7_signUp_4 rfl 1 rfl ?_
  refine s_iload_n (pc := 5) C dX7_signUp_5 rfl 2 rfl ?_
  refine s_callv (pc := 6) (nA := 2) (as := [vI p0, vI p1]) (st := []) (stk := [vI p1, vI p0, vR 1 0 0]) ckX1 (Or.inl rfl) C (fun l hl => ctX1_faultOfSigning l hl 0 p0 p1 _ _ H) ⟨⟨kw_918, kw_59, kw_921⟩, rfl, ⟨by decide, by decide, by decide +kernel⟩, by decide, by decide⟩ kw_919 (g_selW kw_920) rfl (Nat.le_of_ble_eq_true rfl) ⟨by decide, by decide⟩ rfl dX7_signUp_6 (g_Kq_R (fun i2 j3 h1 H => ?_) (fun E h1 H => s_prop rfl ⟨by decide, by decide⟩ H C))
  refine s_calls (pc := 9) (nA := 1) (as := [vR 20 i2 j3]) (st := []) (stk := [vR 20 i2 j3]) C (fun l hl => ctX7_refuse l hl i2 j3 _ _ H) ⟨⟨kw_595, kw_58, kw_597⟩, rfl, ⟨by decide, by decide, by decide +kernel⟩, by decide, by decide⟩ kw_596 rfl (Nat.le_of_ble_eq_true rfl) ⟨by decide, by decide⟩ rfl dX7_signUp_9 (g_Kq_V (fun h4 H => ?_) (fun E h4 H => s_prop rfl ⟨by decide, by decide⟩ H C))
  refine s_aload_n (pc := 12) C dX7_signUp_12 rfl 0 rfl ?_
  refine s_callv (pc := 13) (nA := 0) (as := []) (st := []) (stk := [vR 0 0 0]) ckX7 (Or.inl rfl) C (fun l hl => ctX7_beginChange l hl _ _ H) ⟨⟨kw_671, kw_58, kw_674⟩, rfl, ⟨by decide, by decide, by decide +kernel⟩, by decide, by decide⟩ kw_673 (g_selW kw_3) rfl (Nat.le_of_ble_eq_true rfl) ⟨by decide, by decide⟩ rfl dX7_signUp_13 (g_Kq_V (fun h5 H => ?_) (fun E h5 H => s_prop rfl ⟨by decide, by decide⟩ H C))
  refine s_aload_n (pc := 16) C dX7_signUp_16 rfl 0 rfl ?_
  refine s_getr (pc := 17) (s := 0) (a := 1) (b := 0) (c' := 0) ckX7 (by decide) kw_300 rfl C dX7_signUp_17 ?_
  refine s_iload_n (pc := 20) C dX7_signUp_20 rfl 1 rfl ?_
  refine s_iload_n (pc := 21) C dX7_signUp_21 rfl 2 rfl ?_
  refine s_callv (pc := 22) (nA := 2) (as := [vI p0, vI p1]) (st := []) (stk := [vI p1, vI p0, vR 1 0 0]) ckX1 (Or.inl rfl) C (fun l hl => ctX1_putOnList l hl 0 p0 p1 _ _ H) ⟨⟨kw_922, kw_59, kw_925⟩, rfl, ⟨by decide, by decide, by decide +kernel⟩, by decide, by decide⟩ kw_923 (g_selW kw_924) rfl (Nat.le_of_ble_eq_true rfl) ⟨by decide, by decide⟩ rfl dX7_signUp_22 (g_Kq_I (fun x7 h6 H => ?_) (fun E h6 H => s_prop rfl ⟨by decide, by decide⟩ H C))
  refine s_istore_n (pc := 25) (ls' := [(3, vI x7), (0, vR 0 0 0), (1, vI p0), (2, vI p1)]) C dX7_signUp_25 rfl (by decide) rfl ?_
  refine s_aload_n (pc := 26) C dX7_signUp_26 rfl 1 rfl ?_
  refine s_callv (pc := 27) (nA := 0) (as := []) (st := []) (stk := [vR 0 0 0]) ckX7 (Or.inl rfl) C (fun l hl => ctX7_endChange l hl _ _ H) ⟨⟨kw_683, kw_58, kw_686⟩, rfl, ⟨by decide, by decide, by decide +kernel⟩, by decide, by decide⟩ kw_685 (g_selW kw_4) rfl (Nat.le_of_ble_eq_true rfl) ⟨by decide, by decide⟩ rfl dX7_signUp_27 (g_Kq_V (fun h8 H => ?_) (fun E h8 H => s_prop rfl ⟨by decide, by decide⟩ H C))
  refine s_iload_n (pc := 30) C dX7_signUp_30 rfl 0 rfl ?_
  exact s_iret (pc := 31) rfl rfl ⟨by decide, by decide⟩ H C dX7_signUp_31
theorem ctX7_signUp (l : Launch) (hl : l.stackTraces = false) {G : g_G} (p0 : Int32) (p1 : Int32) (h : g_Hp) (Q : g_R → g_Hp → Prop) (H : wX7_signUp p0 p1 h Q) : g_Met l y_ G iX7_signUp [vR 0 0 0, vI p0, vI p1] h Q :=
  g_Met_of hl (by decide +kernel) rfl rfl (Nat.le_of_ble_eq_true rfl) (fun X C => vX7_signUp C p0 p1 h H)
/-! X7_strikeOff -/
def wX7_strikeOff (p0 : Int32) (h : g_Hp) (Q : g_R → g_Hp → Prop) : Prop := wX1_faultOfStrikingOff 0 p0 h (g_kR 20 (fun i2 j3 h1 => wX7_refuse i2 j3 h1 (g_kV (fun h4 => wX7_beginChange h4 (g_kV (fun h5 => wX1_takeOffList 0 p0 h5 (g_kI (fun x7 h6 => wX7_endChange h6 (g_kV (fun h8 => Q (.inl (some (vI x7))) h8) (fun E h8 => Q (.inr E) h8))) (fun E h6 => Q (.inr E) h6))) (fun E h5 => Q (.inr E) h5))) (fun E h4 => Q (.inr E) h4))) (fun E h1 => Q (.inr E) h1))
set_option maxRecDepth 100000 in
set_option maxHeartbeats 4000000 in
theorem vX7_strikeOff {G : g_G} {X : g_X} {Q : g_R → g_Hp → Prop} (C : g_Cx y_ G X iX7_strikeOff) (p0 : Int32) (h : g_Hp) (H : wX7_strikeOff p0 h Q) : g_V G X iX7_strikeOff 1 6 Q 0 0 0 [(0, vR 0 0 0), (1, vI p0)] [] h := by
  refine s_aload_n (pc := 0) C dX7_strikeOff_0 rfl 0 rfl ?_
  refine s_getr (pc := 1) (s := 0) (a := 1) (b := 0) (c' := 0) ckX7 (by decide) kw_300 rfl C dX7_strikeOff_1 ?_
  refine s_iload_n (pc := 4) C dX7_strikeOff_4 rfl 1 rfl ?_
  refine s_callv (pc := 5) (nA := 1) (as := [vI p0]) (st := []) (stk := [vI p0, vR 1 0 0]) ckX1 (Or.inl rfl) C (fun l hl => ctX1_faultOfStrikingOff l hl 0 p0 _ _ H) ⟨⟨kw_933, kw_59, kw_936⟩, rfl, ⟨by decide, by decide, by decide +kernel⟩, by decide, by decide⟩ kw_934 (g_selW kw_935) rfl (Nat.le_of_ble_eq_true rfl) ⟨by decide, by decide⟩ rfl dX7_strikeOff_5 (g_Kq_R (fun i2 j3 h1 H => ?_) (fun E h1 H => s_prop rfl ⟨by decide, by decide⟩ H C))
  refine s_calls (pc := 8) (nA := 1) (as := [vR 20 i2 j3]) (st := []) (stk := [vR 20 i2 j3]) C (fun l hl => ctX7_refuse l hl i2 j3 _ _ H) ⟨⟨kw_595, kw_58, kw_597⟩, rfl, ⟨by decide, by decide, by decide +kernel⟩, by decide, by decide⟩ kw_596 rfl (Nat.le_of_ble_eq_true rfl) ⟨by decide, by decide⟩ rfl dX7_strikeOff_8 (g_Kq_V (fun h4 H => ?_) (fun E h4 H => s_prop rfl ⟨by decide, by decide⟩ H C))
  refine s_aload_n (pc := 11) C dX7_strikeOff_11 rfl 0 rfl ?_
  refine s_callv (pc := 12) (nA := 0) (as := []) (st := []) (stk := [vR 0 0 0]) ckX7 (Or.inl rfl) C (fun l hl => ctX7_beginChange l hl _ _ H) ⟨⟨kw_671, kw_58, kw_674⟩, rfl, ⟨by decide, by decide, by decide +kernel⟩, by decide, by decide⟩ kw_673 (g_selW kw_3) rfl (Nat.le_of_ble_eq_true rfl) ⟨by decide, by decide⟩ rfl dX7_strikeOff_12 (g_Kq_V (fun h5 H => ?_) (fun E h5 H => s_prop rfl ⟨by decide, by decide⟩ H C))
  refine s_aload_n (pc := 15) C dX7_strikeOff_15 rfl 0 rfl ?_
  refine s_getr (pc := 16) (s := 0) (a := 1) (b := 0) (c' := 0) ckX7 (by decide) kw_300 rfl C dX7_strikeOff_16 ?_
  refine s_iload_n (pc := 19) C dX7_strikeOff_19 rfl 1 rfl ?_
  refine s_callv (pc := 20) (nA := 1) (as := [vI p0]) (st := []) (stk := [vI p0, vR 1 0 0]) ckX1 (Or.inl rfl) C (fun l hl => ctX1_takeOffList l hl 0 p0 _ _ H) ⟨⟨kw_939, kw_59, kw_942⟩, rfl, ⟨by decide, by decide, by decide +kernel⟩, by decide, by decide⟩ kw_940 (g_selW kw_941) rfl (Nat.le_of_ble_eq_true rfl) ⟨by decide, by decide⟩ rfl dX7_strikeOff_20 (g_Kq_I (fun x7 h6 H => ?_) (fun E h6 H => s_prop rfl ⟨by decide, by decide⟩ H C))
  refine s_istore_n (pc := 23) (ls' := [(2, vI x7), (0, vR 0 0 0), (1, vI p0)]) C dX7_strikeOff_23 rfl (by decide) rfl ?_
  refine s_aload_n (pc := 24) C dX7_strikeOff_24 rfl 1 rfl ?_
  refine s_callv (pc := 25) (nA := 0) (as := []) (st := []) (stk := [vR 0 0 0]) ckX7 (Or.inl rfl) C (fun l hl => ctX7_endChange l hl _ _ H) ⟨⟨kw_683, kw_58, kw_686⟩, rfl, ⟨by decide, by decide, by decide +kernel⟩, by decide, by decide⟩ kw_685 (g_selW kw_4) rfl (Nat.le_of_ble_eq_true rfl) ⟨by decide, by decide⟩ rfl dX7_strikeOff_25 (g_Kq_V (fun h8 H => ?_) (fun E h8 H => s_prop rfl ⟨by decide, by decide⟩ H C))
  refine s_iload_n (pc := 28) C dX7_strikeOff_28 rfl 0 rfl ?_
  exact s_iret (pc := 29) rfl rfl ⟨by decide, by decide⟩ H C dX7_strikeOff_29
theorem ctX7_strikeOff (l : Launch) (hl : l.stackTraces = false) {G : g_G} (p0 : Int32) (h : g_Hp) (Q : g_R → g_Hp → Prop) (H : wX7_strikeOff p0 h Q) : g_Met l y_ G iX7_strikeOff [vR 0 0 0, vI p0] h Q :=
  g_Met_of hl (by decide +kernel) rfl rfl (Nat.le_of_ble_eq_true rfl) (fun X C => vX7_strikeOff C p0 h H)
/-! X7_listLength -/
def wX7_listLength (p0 : Int32) (h : g_Hp) (Q : g_R → g_Hp → Prop) : Prop := wX7_requireRoof p0 h (g_kV (fun h1 => wX1_countOnList 0 p0 h1 (g_kI (fun x3 h2 => Q (.inl (some (vI x3))) h2) (fun E h2 => Q (.inr E) h2))) (fun E h1 => Q (.inr E) h1))
set_option maxRecDepth 100000 in
set_option maxHeartbeats 4000000 in
theorem vX7_listLength {G : g_G} {X : g_X} {Q : g_R → g_Hp → Prop} (C : g_Cx y_ G X iX7_listLength) (p0 : Int32) (h : g_Hp) (H : wX7_listLength p0 h Q) : g_V G X iX7_listLength 1 6 Q 0 0 0 [(0, vR 0 0 0), (1, vI p0)] [] h := by
  refine s_iload_n (pc := 0) C dX7_listLength_0 rfl 1 rfl ?_
  refine s_calls (pc := 1) (nA := 1) (as := [vI p0]) (st := []) (stk := [vI p0]) C (fun l hl => ctX7_requireRoof l hl p0 _ _ H) ⟨⟨kw_701, kw_58, kw_703⟩, rfl, ⟨by decide, by decide, by decide +kernel⟩, by decide, by decide⟩ kw_702 rfl (Nat.le_of_ble_eq_true rfl) ⟨by decide, by decide⟩ rfl dX7_listLength_1 (g_Kq_V (fun h1 H => ?_) (fun E h1 H => s_prop rfl ⟨by decide, by decide⟩ H C))
  refine s_aload_n (pc := 4) C dX7_listLength_4 rfl 0 rfl ?_
  refine s_getr (pc := 5) (s := 0) (a := 1) (b := 0) (c' := 0) ckX7 (by decide) kw_300 rfl C dX7_listLength_5 ?_
  refine s_iload_n (pc := 8) C dX7_listLength_8 rfl 1 rfl ?_
  refine s_callv (pc := 9) (nA := 1) (as := [vI p0]) (st := []) (stk := [vI p0, vR 1 0 0]) ckX1 (Or.inl rfl) C (fun l hl => ctX1_countOnList l hl 0 p0 _ _ H) ⟨⟨kw_950, kw_59, kw_831⟩, rfl, ⟨by decide, by decide, by decide +kernel⟩, by decide, by decide⟩ kw_829 (g_selW kw_830) rfl (Nat.le_of_ble_eq_true rfl) ⟨by decide, by decide⟩ rfl dX7_listLength_9 (g_Kq_I (fun x3 h2 H => ?_) (fun E h2 H => s_prop rfl ⟨by decide, by decide⟩ H C))
  exact s_iret (pc := 12) rfl rfl ⟨by decide, by decide⟩ H C dX7_listLength_12
theorem ctX7_listLength (l : Launch) (hl : l.stackTraces = false) {G : g_G} (p0 : Int32) (h : g_Hp) (Q : g_R → g_Hp → Prop) (H : wX7_listLength p0 h Q) : g_Met l y_ G iX7_listLength [vR 0 0 0, vI p0] h Q :=
  g_Met_of hl (by decide +kernel) rfl rfl (Nat.le_of_ble_eq_true rfl) (fun X C => vX7_listLength C p0 h H)
/-! X7_listedAt -/
def wX7_listedAt (p0 : Int32) (p1 : Int32) (h : g_Hp) (Q : g_R → g_Hp → Prop) : Prop := wX7_requireRoof p0 h (g_kV (fun h1 => wX1_findOnList 0 p0 p1 h1 (g_kI (fun x3 h2 => ((¬ x3 = (-1 : Int32)) → Q (.inl (some (vI x3))) h2) ∧ ((x3 = (-1 : Int32)) → Q (.inr "java/util/NoSuchElementException") h2)) (fun E h2 => Q (.inr E) h2))) (fun E h1 => Q (.inr E) h1))
set_option maxRecDepth 100000 in
set_option maxHeartbeats 4000000 in
theorem vX7_listedAt {G : g_G} {X : g_X} {Q : g_R → g_Hp → Prop} (C : g_Cx y_ G X iX7_listedAt) (p0 : Int32) (p1 : Int32) (h : g_Hp) (H : wX7_listedAt p0 p1 h Q) : g_V G X iX7_listedAt 2 12 Q 0 0 0 [(0, vR 0 0 0), (1, vI p0), (2, vI p1)] [] h := by
  refine s_iload_n (pc := 0) C dX7_listedAt_0 rfl 1 rfl ?_
  refine s_calls (pc := 1) (nA := 1) (as := [vI p0]) (st := []) (stk := [vI p0]) C (fun l hl => ctX7_requireRoof l hl p0 _ _ H) ⟨⟨kw_701, kw_58, kw_703⟩, rfl, ⟨by decide, by decide, by decide +kernel⟩, by decide, by decide⟩ kw_702 rfl (Nat.le_of_ble_eq_true rfl) ⟨by decide, by decide⟩ rfl dX7_listedAt_1 (g_Kq_V (fun h1 H => ?_) (fun E h1 H => s_prop rfl ⟨by decide, by decide⟩ H C))
  refine s_aload_n (pc := 4) C dX7_listedAt_4 rfl 0 rfl ?_
  refine s_getr (pc := 5) (s := 0) (a := 1) (b := 0) (c' := 0) ckX7 (by decide) kw_300 rfl C dX7_listedAt_5 ?_
  refine s_iload_n (pc := 8) C dX7_listedAt_8 rfl 1 rfl ?_
  refine s_iload_n (pc := 9) C dX7_listedAt_9 rfl 2 rfl ?_
  refine s_callv (pc := 10) (nA := 2) (as := [vI p0, vI p1]) (st := []) (stk := [vI p1, vI p0, vR 1 0 0]) ckX1 (Or.inl rfl) C (fun l hl => ctX1_findOnList l hl 0 p0 p1 _ _ H) ⟨⟨kw_958, kw_59, kw_961⟩, rfl, ⟨by decide, by decide, by decide +kernel⟩, by decide, by decide⟩ kw_959 (g_selW kw_960) rfl (Nat.le_of_ble_eq_true rfl) ⟨by decide, by decide⟩ rfl dX7_listedAt_10 (g_Kq_I (fun x3 h2 H => ?_) (fun E h2 H => s_prop rfl ⟨by decide, by decide⟩ H C))
  refine s_istore_n (pc := 13) (ls' := [(3, vI x3), (0, vR 0 0 0), (1, vI p0), (2, vI p1)]) C dX7_listedAt_13 rfl (by decide) rfl ?_
  refine s_iload_n (pc := 14) C dX7_listedAt_14 rfl 0 rfl ?_
  refine s_iconst (pc := 15) C dX7_listedAt_15 (x := (-1 : Int32)) (by decide) ?_
  refine s_icmp_ne (pc := 16) (tgt := 29) C dX7_listedAt_16 (by decide) (fun c => ?_) (fun c => ?_)
  · have H := H.1 c
    refine s_iload_n (pc := 29) C dX7_listedAt_29 rfl 0 rfl ?_
    exact s_iret (pc := 30) rfl rfl ⟨by decide, by decide⟩ H C dX7_listedAt_30
  · have H := H.2 c
    exact s_throwS (pc := 19) (names := ["java/lang/RuntimeException", "java/lang/Exception"]) tw_RX7_NoSuchElementException ss_RX7_208 rfl ⟨by decide, Nat.le_of_ble_eq_true rfl, by decide, by decide⟩ ⟨by decide, by decide⟩ H C dX7_listedAt_19 dX7_listedAt_22 dX7_listedAt_23 dX7_listedAt_25 dX7_listedAt_28
theorem ctX7_listedAt (l : Launch) (hl : l.stackTraces = false) {G : g_G} (p0 : Int32) (p1 : Int32) (h : g_Hp) (Q : g_R → g_Hp → Prop) (H : wX7_listedAt p0 p1 h Q) : g_Met l y_ G iX7_listedAt [vR 0 0 0, vI p0, vI p1] h Q :=
  g_Met_of hl (by decide +kernel) rfl rfl (Nat.le_of_ble_eq_true rfl) (fun X C => vX7_listedAt C p0 p1 h H)
/-! X7_listOf -/
def wX7_listOf (p0 : Int32) (h : g_Hp) (Q : g_R → g_Hp → Prop) : Prop := wX7_existing p0 h (g_kR 2 (fun i2 j3 h1 => ∀ y4 : Int32, y4 = h1 2 i2 j3 10 → ((¬ y4 = (-1 : Int32)) → Q (.inl (some (vI y4))) h1) ∧ ((y4 = (-1 : Int32)) → Q (.inr "java/util/NoSuchElementException") h1)) (fun E h1 => Q (.inr E) h1))
set_option maxRecDepth 100000 in
set_option maxHeartbeats 4000000 in
theorem vX7_listOf {G : g_G} {X : g_X} {Q : g_R → g_Hp → Prop} (C : g_Cx y_ G X iX7_listOf) (p0 : Int32) (h : g_Hp) (H : wX7_listOf p0 h Q) : g_V G X iX7_listOf 2 12 Q 0 0 0 [(0, vR 0 0 0), (1, vI p0)] [] h := by
  refine s_aload_n (pc := 0) C dX7_listOf_0 rfl 0 rfl ?_
  refine s_iload_n (pc := 1) C dX7_listOf_1 rfl 1 rfl ?_
  refine s_callv (pc := 2) (nA := 1) (as := [vI p0]) (st := []) (stk := [vI p0, vR 0 0 0]) ckX7 (Or.inl rfl) C (fun l hl => ctX7_existing l hl p0 _ _ H) ⟨⟨kw_407, kw_58, kw_410⟩, rfl, ⟨by decide, by decide, by decide +kernel⟩, by decide, by decide⟩ kw_409 (g_selW kw_0) rfl (Nat.le_of_ble_eq_true rfl) ⟨by decide, by decide⟩ rfl dX7_listOf_2 (g_Kq_R (fun i2 j3 h1 H => ?_) (fun E h1 H => s_prop rfl ⟨by decide, by decide⟩ H C))
  refine s_geti (pc := 5) (s := 9) ckX6 (Or.inl rfl) (by decide) kw_140 (fun _ => rfl) C dX7_listOf_5 ?_
  refine s_namei (fun y4 ey4 => ?_)
  have H := H y4 ey4
  refine s_istore_n (pc := 8) (ls' := [(2, vI y4), (0, vR 0 0 0), (1, vI p0)]) C dX7_listOf_8 rfl (by decide) rfl ?_
  refine s_iload_n (pc := 9) C dX7_listOf_9 rfl 0 rfl ?_
  refine s_iconst (pc := 10) C dX7_listOf_10 (x := (-1 : Int32)) (by decide) ?_
  refine s_icmp_ne (pc := 11) (tgt := 24) C dX7_listOf_11 (by decide) (fun c => ?_) (fun c => ?_)
  · have H := H.1 c
    refine s_iload_n (pc := 24) C dX7_listOf_24 rfl 0 rfl ?_
    exact s_iret (pc := 25) rfl rfl ⟨by decide, by decide⟩ H C dX7_listOf_25
  · have H := H.2 c
    exact s_throwS (pc := 14) (names := ["java/lang/RuntimeException", "java/lang/Exception"]) tw_RX7_NoSuchElementException ss_RX7_213 rfl ⟨by decide, Nat.le_of_ble_eq_true rfl, by decide, by decide⟩ ⟨by decide, by decide⟩ H C dX7_listOf_14 dX7_listOf_17 dX7_listOf_18 dX7_listOf_20 dX7_listOf_23
theorem ctX7_listOf (l : Launch) (hl : l.stackTraces = false) {G : g_G} (p0 : Int32) (h : g_Hp) (Q : g_R → g_Hp → Prop) (H : wX7_listOf p0 h Q) : g_Met l y_ G iX7_listOf [vR 0 0 0, vI p0] h Q :=
  g_Met_of hl (by decide +kernel) rfl rfl (Nat.le_of_ble_eq_true rfl) (fun X C => vX7_listOf C p0 h H)
/-! X7_makeOffer -/
def wX7_makeOffer (p0 : Int32) (h : g_Hp) (Q : g_R → g_Hp → Prop) : Prop := wX1_faultOfOffering 0 p0 h (g_kR 20 (fun i2 j3 h1 => wX7_refuse i2 j3 h1 (g_kV (fun h4 => wX7_beginChange h4 (g_kV (fun h5 => wX1_offer 0 p0 h5 (g_kI (fun x7 h6 => wX7_endChange h6 (g_kV (fun h8 => Q (.inl (some (vI x7))) h8) (fun E h8 => Q (.inr E) h8))) (fun E h6 => Q (.inr E) h6))) (fun E h5 => Q (.inr E) h5))) (fun E h4 => Q (.inr E) h4))) (fun E h1 => Q (.inr E) h1))
set_option maxRecDepth 100000 in
set_option maxHeartbeats 4000000 in
theorem vX7_makeOffer {G : g_G} {X : g_X} {Q : g_R → g_Hp → Prop} (C : g_Cx y_ G X iX7_makeOffer) (p0 : Int32) (h : g_Hp) (H : wX7_makeOffer p0 h Q) : g_V G X iX7_makeOffer 1 6 Q 0 0 0 [(0, vR 0 0 0), (1, vI p0)] [] h := by
  refine s_aload_n (pc := 0) C dX7_makeOffer_0 rfl 0 rfl ?_
  refine s_getr (pc := 1) (s := 0) (a := 1) (b := 0) (c' := 0) ckX7 (by decide) kw_300 rfl C dX7_makeOffer_1 ?_
  refine s_iload_n (pc := 4) C dX7_makeOffer_4 rfl 1 rfl ?_
  refine s_callv (pc := 5) (nA := 1) (as := [vI p0]) (st := []) (stk := [vI p0, vR 1 0 0]) ckX1 (Or.inl rfl) C (fun l hl => ctX1_faultOfOffering l hl 0 p0 _ _ H) ⟨⟨kw_978, kw_59, kw_981⟩, rfl, ⟨by decide, by decide, by decide +kernel⟩, by decide, by decide⟩ kw_979 (g_selW kw_980) rfl (Nat.le_of_ble_eq_true rfl) ⟨by decide, by decide⟩ rfl dX7_makeOffer_5 (g_Kq_R (fun i2 j3 h1 H => ?_) (fun E h1 H => s_prop rfl ⟨by decide, by decide⟩ H C))
  refine s_calls (pc := 8) (nA := 1) (as := [vR 20 i2 j3]) (st := []) (stk := [vR 20 i2 j3]) C (fun l hl => ctX7_refuse l hl i2 j3 _ _ H) ⟨⟨kw_595, kw_58, kw_597⟩, rfl, ⟨by decide, by decide, by decide +kernel⟩, by decide, by decide⟩ kw_596 rfl (Nat.le_of_ble_eq_true rfl) ⟨by decide, by decide⟩ rfl dX7_makeOffer_8 (g_Kq_V (fun h4 H => ?_) (fun E h4 H => s_prop rfl ⟨by decide, by decide⟩ H C))
  refine s_aload_n (pc := 11) C dX7_makeOffer_11 rfl 0 rfl ?_
  refine s_callv (pc := 12) (nA := 0) (as := []) (st := []) (stk := [vR 0 0 0]) ckX7 (Or.inl rfl) C (fun l hl => ctX7_beginChange l hl _ _ H) ⟨⟨kw_671, kw_58, kw_674⟩, rfl, ⟨by decide, by decide, by decide +kernel⟩, by decide, by decide⟩ kw_673 (g_selW kw_3) rfl (Nat.le_of_ble_eq_true rfl) ⟨by decide, by decide⟩ rfl dX7_makeOffer_12 (g_Kq_V (fun h5 H => ?_) (fun E h5 H => s_prop rfl ⟨by decide, by decide⟩ H C))
  refine s_aload_n (pc := 15) C dX7_makeOffer_15 rfl 0 rfl ?_
  refine s_getr (pc := 16) (s := 0) (a := 1) (b := 0) (c' := 0) ckX7 (by decide) kw_300 rfl C dX7_makeOffer_16 ?_
  refine s_iload_n (pc := 19) C dX7_makeOffer_19 rfl 1 rfl ?_
  refine s_callv (pc := 20) (nA := 1) (as := [vI p0]) (st := []) (stk := [vI p0, vR 1 0 0]) ckX1 (Or.inl rfl) C (fun l hl => ctX1_offer l hl 0 p0 _ _ H) ⟨⟨kw_982, kw_59, kw_985⟩, rfl, ⟨by decide, by decide, by decide +kernel⟩, by decide, by decide⟩ kw_983 (g_selW kw_984) rfl (Nat.le_of_ble_eq_true rfl) ⟨by decide, by decide⟩ rfl dX7_makeOffer_20 (g_Kq_I (fun x7 h6 H => ?_) (fun E h6 H => s_prop rfl ⟨by decide, by decide⟩ H C))
  refine s_istore_n (pc := 23) (ls' := [(2, vI x7), (0, vR 0 0 0), (1, vI p0)]) C dX7_makeOffer_23 rfl (by decide) rfl ?_
  refine s_aload_n (pc := 24) C dX7_makeOffer_24 rfl 1 rfl ?_
  refine s_callv (pc := 25) (nA := 0) (as := []) (st := []) (stk := [vR 0 0 0]) ckX7 (Or.inl rfl) C (fun l hl => ctX7_endChange l hl _ _ H) ⟨⟨kw_683, kw_58, kw_686⟩, rfl, ⟨by decide, by decide, by decide +kernel⟩, by decide, by decide⟩ kw_685 (g_selW kw_4) rfl (Nat.le_of_ble_eq_true rfl) ⟨by decide, by decide⟩ rfl dX7_makeOffer_25 (g_Kq_V (fun h8 H => ?_) (fun E h8 H => s_prop rfl ⟨by decide, by decide⟩ H C))
  refine s_iload_n (pc := 28) C dX7_makeOffer_28 rfl 0 rfl ?_
  exact s_iret (pc := 29) rfl rfl ⟨by decide, by decide⟩ H C dX7_makeOffer_29
theorem ctX7_makeOffer (l : Launch) (hl : l.stackTraces = false) {G : g_G} (p0 : Int32) (h : g_Hp) (Q : g_R → g_Hp → Prop) (H : wX7_makeOffer p0 h Q) : g_Met l y_ G iX7_makeOffer [vR 0 0 0, vI p0] h Q :=
  g_Met_of hl (by decide +kernel) rfl rfl (Nat.le_of_ble_eq_true rfl) (fun X C => vX7_makeOffer C p0 h H)
/-! X7_accept -/
def wX7_accept (p0 : Int32) (h : g_Hp) (Q : g_R → g_Hp → Prop) : Prop := wX1_faultOfAccepting 0 p0 h (g_kR 20 (fun i2 j3 h1 => wX7_refuse i2 j3 h1 (g_kV (fun h4 => wX7_beginChange h4 (g_kV (fun h5 => wX1_takeAcceptance 0 p0 h5 (g_kI (fun x7 h6 => wX7_endChange h6 (g_kV (fun h8 => (x7 = 0 ∨ x7 = 1) ∧ Q (.inl (some (vI x7))) h8) (fun E h8 => Q (.inr E) h8))) (fun E h6 => Q (.inr E) h6))) (fun E h5 => Q (.inr E) h5))) (fun E h4 => Q (.inr E) h4))) (fun E h1 => Q (.inr E) h1))
set_option maxRecDepth 100000 in
set_option maxHeartbeats 4000000 in
theorem vX7_accept {G : g_G} {X : g_X} {Q : g_R → g_Hp → Prop} (C : g_Cx y_ G X iX7_accept) (p0 : Int32) (h : g_Hp) (H : wX7_accept p0 h Q) : g_V G X iX7_accept 1 6 Q 0 0 0 [(0, vR 0 0 0), (1, vI p0)] [] h := by
  refine s_aload_n (pc := 0) C dX7_accept_0 rfl 0 rfl ?_
  refine s_getr (pc := 1) (s := 0) (a := 1) (b := 0) (c' := 0) ckX7 (by decide) kw_300 rfl C dX7_accept_1 ?_
  refine s_iload_n (pc := 4) C dX7_accept_4 rfl 1 rfl ?_
  refine s_callv (pc := 5) (nA := 1) (as := [vI p0]) (st := []) (stk := [vI p0, vR 1 0 0]) ckX1 (Or.inl rfl) C (fun l hl => ctX1_faultOfAccepting l hl 0 p0 _ _ H) ⟨⟨kw_997, kw_59, kw_1000⟩, rfl, ⟨by decide, by decide, by decide +kernel⟩, by decide, by decide⟩ kw_998 (g_selW kw_999) rfl (Nat.le_of_ble_eq_true rfl) ⟨by decide, by decide⟩ rfl dX7_accept_5 (g_Kq_R (fun i2 j3 h1 H => ?_) (fun E h1 H => s_prop rfl ⟨by decide, by decide⟩ H C))
  refine s_calls (pc := 8) (nA := 1) (as := [vR 20 i2 j3]) (st := []) (stk := [vR 20 i2 j3]) C (fun l hl => ctX7_refuse l hl i2 j3 _ _ H) ⟨⟨kw_595, kw_58, kw_597⟩, rfl, ⟨by decide, by decide, by decide +kernel⟩, by decide, by decide⟩ kw_596 rfl (Nat.le_of_ble_eq_true rfl) ⟨by decide, by decide⟩ rfl dX7_accept_8 (g_Kq_V (fun h4 H => ?_) (fun E h4 H => s_prop rfl ⟨by decide, by decide⟩ H C))
  refine s_aload_n (pc := 11) C dX7_accept_11 rfl 0 rfl ?_
  refine s_callv (pc := 12) (nA := 0) (as := []) (st := []) (stk := [vR 0 0 0]) ckX7 (Or.inl rfl) C (fun l hl => ctX7_beginChange l hl _ _ H) ⟨⟨kw_671, kw_58, kw_674⟩, rfl, ⟨by decide, by decide, by decide +kernel⟩, by decide, by decide⟩ kw_673 (g_selW kw_3) rfl (Nat.le_of_ble_eq_true rfl) ⟨by decide, by decide⟩ rfl dX7_accept_12 (g_Kq_V (fun h5 H => ?_) (fun E h5 H => s_prop rfl ⟨by decide, by decide⟩ H C))
  refine s_aload_n (pc := 15) C dX7_accept_15 rfl 0 rfl ?_
  refine s_getr (pc := 16) (s := 0) (a := 1) (b := 0) (c' := 0) ckX7 (by decide) kw_300 rfl C dX7_accept_16 ?_
  refine s_iload_n (pc := 19) C dX7_accept_19 rfl 1 rfl ?_
  refine s_callv (pc := 20) (nA := 1) (as := [vI p0]) (st := []) (stk := [vI p0, vR 1 0 0]) ckX1 (Or.inl rfl) C (fun l hl => ctX1_takeAcceptance l hl 0 p0 _ _ H) ⟨⟨kw_1001, kw_59, kw_1004⟩, rfl, ⟨by decide, by decide, by decide +kernel⟩, by decide, by decide⟩ kw_1002 (g_selW kw_1003) rfl (Nat.le_of_ble_eq_true rfl) ⟨by decide, by decide⟩ rfl dX7_accept_20 (g_Kq_I (fun x7 h6 H => ?_) (fun E h6 H => s_prop rfl ⟨by decide, by decide⟩ H C))
  refine s_istore_n (pc := 23) (ls' := [(2, vI x7), (0, vR 0 0 0), (1, vI p0)]) C dX7_accept_23 rfl (by decide) rfl ?_
  refine s_aload_n (pc := 24) C dX7_accept_24 rfl 1 rfl ?_
  refine s_callv (pc := 25) (nA := 0) (as := []) (st := []) (stk := [vR 0 0 0]) ckX7 (Or.inl rfl) C (fun l hl => ctX7_endChange l hl _ _ H) ⟨⟨kw_683, kw_58, kw_686⟩, rfl, ⟨by decide, by decide, by decide +kernel⟩, by decide, by decide⟩ kw_685 (g_selW kw_4) rfl (Nat.le_of_ble_eq_true rfl) ⟨by decide, by decide⟩ rfl dX7_accept_25 (g_Kq_V (fun h8 H => ?_) (fun E h8 H => s_prop rfl ⟨by decide, by decide⟩ H C))
  refine s_iload_n (pc := 28) C dX7_accept_28 rfl 0 rfl ?_
  exact s_iret (pc := 29) rfl (g_nz H.1) ⟨by decide, by decide⟩ H.2 C dX7_accept_29
theorem ctX7_accept (l : Launch) (hl : l.stackTraces = false) {G : g_G} (p0 : Int32) (h : g_Hp) (Q : g_R → g_Hp → Prop) (H : wX7_accept p0 h Q) : g_Met l y_ G iX7_accept [vR 0 0 0, vI p0] h Q :=
  g_Met_of hl (by decide +kernel) rfl rfl (Nat.le_of_ble_eq_true rfl) (fun X C => vX7_accept C p0 h H)
/-! X7_requireOffer -/
def wX7_requireOffer (h : g_Hp) (Q : g_R → g_Hp → Prop) : Prop := ((¬ (h 1 0 0 11) = 0) → Q (.inl none) h) ∧ (((h 1 0 0 11) = 0) → Q (.inr "java/util/NoSuchElementException") h)
set_option maxRecDepth 100000 in
set_option maxHeartbeats 4000000 in
theorem vX7_requireOffer {G : g_G} {X : g_X} {Q : g_R → g_Hp → Prop} (C : g_Cx y_ G X iX7_requireOffer) (h : g_Hp) (H : wX7_requireOffer h Q) : g_V G X iX7_requireOffer 1 6 Q 0 0 0 [(0, vR 0 0 0)] [] h := by
  refine s_aload_n (pc := 0) C dX7_requireOffer_0 rfl 0 rfl ?_
  refine s_getr (pc := 1) (s := 0) (a := 1) (b := 0) (c' := 0) ckX7 (by decide) kw_300 rfl C dX7_requireOffer_1 ?_
  refine s_geti (pc := 4) (s := 10) ckX1 (Or.inl rfl) (by decide) kw_186 (fun _ => rfl) C dX7_requireOffer_4 ?_
  refine s_if_ne (pc := 7) (tgt := 21) C dX7_requireOffer_7 (by decide) (fun c => ?_) (fun c => ?_)
  · have H := H.1 c
    exact s_vret (pc := 21) rfl ⟨by decide, by decide⟩ H C dX7_requireOffer_21
  · have H := H.2 c
    exact s_throwW (pc := 10) (names := ["java/lang/RuntimeException", "java/lang/Exception"]) tw_RX7_NoSuchElementException ss_RX7_363 rfl ⟨by decide, Nat.le_of_ble_eq_true rfl, by decide, by decide⟩ ⟨by decide, by decide⟩ H C dX7_requireOffer_10 dX7_requireOffer_13 dX7_requireOffer_14 dX7_requireOffer_17 dX7_requireOffer_20
theorem ctX7_requireOffer (l : Launch) (hl : l.stackTraces = false) {G : g_G} (h : g_Hp) (Q : g_R → g_Hp → Prop) (H : wX7_requireOffer h Q) : g_Met l y_ G iX7_requireOffer [vR 0 0 0] h Q :=
  g_Met_of hl (by decide +kernel) rfl rfl (Nat.le_of_ble_eq_true rfl) (fun X C => vX7_requireOffer C h H)
/-! X7_offerPercent -/
def wX7_offerPercent (h : g_Hp) (Q : g_R → g_Hp → Prop) : Prop := wX7_requireOffer h (g_kV (fun h1 => Q (.inl (some (vI (h1 1 0 0 11)))) h1) (fun E h1 => Q (.inr E) h1))
set_option maxRecDepth 100000 in
set_option maxHeartbeats 4000000 in
theorem vX7_offerPercent {G : g_G} {X : g_X} {Q : g_R → g_Hp → Prop} (C : g_Cx y_ G X iX7_offerPercent) (h : g_Hp) (H : wX7_offerPercent h Q) : g_V G X iX7_offerPercent 1 6 Q 0 0 0 [(0, vR 0 0 0)] [] h := by
  refine s_aload_n (pc := 0) C dX7_offerPercent_0 rfl 0 rfl ?_
  refine s_callv (pc := 1) (nA := 0) (as := []) (st := []) (stk := [vR 0 0 0]) ckX7 (Or.inl rfl) C (fun l hl => ctX7_requireOffer l hl _ _ H) ⟨⟨kw_1019, kw_58, kw_1022⟩, rfl, ⟨by decide, by decide, by decide +kernel⟩, by decide, by decide⟩ kw_1021 (g_selW kw_10) rfl (Nat.le_of_ble_eq_true rfl) ⟨by decide, by decide⟩ rfl dX7_offerPercent_1 (g_Kq_V (fun h1 H => ?_) (fun E h1 H => s_prop rfl ⟨by decide, by decide⟩ H C))
  refine s_aload_n (pc := 4) C dX7_offerPercent_4 rfl 0 rfl ?_
  refine s_getr (pc := 5) (s := 0) (a := 1) (b := 0) (c' := 0) ckX7 (by decide) kw_300 rfl C dX7_offerPercent_5 ?_
  refine s_geti (pc := 8) (s := 10) ckX1 (Or.inl rfl) (by decide) kw_186 (fun _ => rfl) C dX7_offerPercent_8 ?_
  exact s_iret (pc := 11) rfl rfl ⟨by decide, by decide⟩ H C dX7_offerPercent_11
theorem ctX7_offerPercent (l : Launch) (hl : l.stackTraces = false) {G : g_G} (h : g_Hp) (Q : g_R → g_Hp → Prop) (H : wX7_offerPercent h Q) : g_Met l y_ G iX7_offerPercent [vR 0 0 0] h Q :=
  g_Met_of hl (by decide +kernel) rfl rfl (Nat.le_of_ble_eq_true rfl) (fun X C => vX7_offerPercent C h H)
/-! X7_acceptances -/
def wX7_acceptances (h : g_Hp) (Q : g_R → g_Hp → Prop) : Prop := wX7_requireOffer h (g_kV (fun h1 => wX1_countAcceptances 0 h1 (g_kI (fun x3 h2 => Q (.inl (some (vI x3))) h2) (fun E h2 => Q (.inr E) h2))) (fun E h1 => Q (.inr E) h1))
set_option maxRecDepth 100000 in
set_option maxHeartbeats 4000000 in
theorem vX7_acceptances {G : g_G} {X : g_X} {Q : g_R → g_Hp → Prop} (C : g_Cx y_ G X iX7_acceptances) (h : g_Hp) (H : wX7_acceptances h Q) : g_V G X iX7_acceptances 1 6 Q 0 0 0 [(0, vR 0 0 0)] [] h := by
  refine s_aload_n (pc := 0) C dX7_acceptances_0 rfl 0 rfl ?_
  refine s_callv (pc := 1) (nA := 0) (as := []) (st := []) (stk := [vR 0 0 0]) ckX7 (Or.inl rfl) C (fun l hl => ctX7_requireOffer l hl _ _ H) ⟨⟨kw_1019, kw_58, kw_1022⟩, rfl, ⟨by decide, by decide, by decide +kernel⟩, by decide, by decide⟩ kw_1021 (g_selW kw_10) rfl (Nat.le_of_ble_eq_true rfl) ⟨by decide, by decide⟩ rfl dX7_acceptances_1 (g_Kq_V (fun h1 H => ?_) (fun E h1 H => s_prop rfl ⟨by decide, by decide⟩ H C))
  refine s_aload_n (pc := 4) C dX7_acceptances_4 rfl 0 rfl ?_
  refine s_getr (pc := 5) (s := 0) (a := 1) (b := 0) (c' := 0) ckX7 (by decide) kw_300 rfl C dX7_acceptances_5 ?_
  refine s_callv (pc := 8) (nA := 0) (as := []) (st := []) (stk := [vR 1 0 0]) ckX1 (Or.inl rfl) C (fun l hl => ctX1_countAcceptances l hl 0 _ _ H) ⟨⟨kw_1031, kw_59, kw_989⟩, rfl, ⟨by decide, by decide, by decide +kernel⟩, by decide, by decide⟩ kw_987 (g_selW kw_988) rfl (Nat.le_of_ble_eq_true rfl) ⟨by decide, by decide⟩ rfl dX7_acceptances_8 (g_Kq_I (fun x3 h2 H => ?_) (fun E h2 H => s_prop rfl ⟨by decide, by decide⟩ H C))
  exact s_iret (pc := 11) rfl rfl ⟨by decide, by decide⟩ H C dX7_acceptances_11
theorem ctX7_acceptances (l : Launch) (hl : l.stackTraces = false) {G : g_G} (h : g_Hp) (Q : g_R → g_Hp → Prop) (H : wX7_acceptances h Q) : g_Met l y_ G iX7_acceptances [vR 0 0 0] h Q :=
  g_Met_of hl (by decide +kernel) rfl rfl (Nat.le_of_ble_eq_true rfl) (fun X C => vX7_acceptances C h H)
/-! X7_offeredRate -/
def wX7_offeredRate (p0 : Int32) (h : g_Hp) (Q : g_R → g_Hp → Prop) : Prop := wX7_existing p0 h (g_kR 2 (fun i2 j3 h1 => ∀ y4 : Int32, y4 = h1 2 i2 j3 2 → wX7_requireOffer h1 (g_kV (fun h5 => wX7_raisedRate y4 (h5 1 0 0 11) h5 (g_kI (fun x7 h6 => Q (.inl (some (vI x7))) h6) (fun E h6 => Q (.inr E) h6))) (fun E h5 => Q (.inr E) h5))) (fun E h1 => Q (.inr E) h1))
set_option maxRecDepth 100000 in
set_option maxHeartbeats 4000000 in
theorem vX7_offeredRate {G : g_G} {X : g_X} {Q : g_R → g_Hp → Prop} (C : g_Cx y_ G X iX7_offeredRate) (p0 : Int32) (h : g_Hp) (H : wX7_offeredRate p0 h Q) : g_V G X iX7_offeredRate 2 12 Q 0 0 0 [(0, vR 0 0 0), (1, vI p0)] [] h := by
  refine s_aload_n (pc := 0) C dX7_offeredRate_0 rfl 0 rfl ?_
  refine s_iload_n (pc := 1) C dX7_offeredRate_1 rfl 1 rfl ?_
  refine s_callv (pc := 2) (nA := 1) (as := [vI p0]) (st := []) (stk := [vI p0, vR 0 0 0]) ckX7 (Or.inl rfl) C (fun l hl => ctX7_existing l hl p0 _ _ H) ⟨⟨kw_407, kw_58, kw_410⟩, rfl, ⟨by decide, by decide, by decide +kernel⟩, by decide, by decide⟩ kw_409 (g_selW kw_0) rfl (Nat.le_of_ble_eq_true rfl) ⟨by decide, by decide⟩ rfl dX7_offeredRate_2 (g_Kq_R (fun i2 j3 h1 H => ?_) (fun E h1 H => s_prop rfl ⟨by decide, by decide⟩ H C))
  refine s_geti (pc := 5) (s := 1) ckX6 (Or.inl rfl) (by decide) kw_116 (fun _ => rfl) C dX7_offeredRate_5 ?_
  refine s_namei (fun y4 ey4 => ?_)
  have H := H y4 ey4
  refine s_istore_n (pc := 8) (ls' := [(2, vI y4), (0, vR 0 0 0), (1, vI p0)]) C dX7_offeredRate_8 rfl (by decide) rfl ?_
  refine s_aload_n (pc := 9) C dX7_offeredRate_9 rfl 1 rfl ?_
  refine s_callv (pc := 10) (nA := 0) (as := []) (st := []) (stk := [vR 0 0 0]) ckX7 (Or.inl rfl) C (fun l hl => ctX7_requireOffer l hl _ _ H) ⟨⟨kw_1019, kw_58, kw_1022⟩, rfl, ⟨by decide, by decide, by decide +kernel⟩, by decide, by decide⟩ kw_1021 (g_selW kw_10) rfl (Nat.le_of_ble_eq_true rfl) ⟨by decide, by decide⟩ rfl dX7_offeredRate_10 (g_Kq_V (fun h5 H => ?_) (fun E h5 H => s_prop rfl ⟨by decide, by decide⟩ H C))
  refine s_iload_n (pc := 13) C dX7_offeredRate_13 rfl 0 rfl ?_
  refine s_aload_n (pc := 14) C dX7_offeredRate_14 rfl 1 rfl ?_
  refine s_getr (pc := 15) (s := 0) (a := 1) (b := 0) (c' := 0) ckX7 (by decide) kw_300 rfl C dX7_offeredRate_15 ?_
  refine s_geti (pc := 18) (s := 10) ckX1 (Or.inl rfl) (by decide) kw_186 (fun _ => rfl) C dX7_offeredRate_18 ?_
  refine s_calls (pc := 21) (nA := 2) (as := [vI y4, vI (h5 1 0 0 11)]) (st := []) (stk := [vI (h5 1 0 0 11), vI y4]) C (fun l hl => ctX7_raisedRate l hl y4 (h5 1 0 0 11) _ _ H) ⟨⟨kw_1039, kw_58, kw_1011⟩, rfl, ⟨by decide, by decide, by decide +kernel⟩, by decide, by decide⟩ kw_1010 rfl (Nat.le_of_ble_eq_true rfl) ⟨by decide, by decide⟩ rfl dX7_offeredRate_21 (g_Kq_I (fun x7 h6 H => ?_) (fun E h6 H => s_prop rfl ⟨by decide, by decide⟩ H C))
  exact s_iret (pc := 24) rfl rfl ⟨by decide, by decide⟩ H C dX7_offeredRate_24
theorem ctX7_offeredRate (l : Launch) (hl : l.stackTraces = false) {G : g_G} (p0 : Int32) (h : g_Hp) (Q : g_R → g_Hp → Prop) (H : wX7_offeredRate p0 h Q) : g_Met l y_ G iX7_offeredRate [vR 0 0 0, vI p0] h Q :=
  g_Met_of hl (by decide +kernel) rfl rfl (Nat.le_of_ble_eq_true rfl) (fun X C => vX7_offeredRate C p0 h H)
/-! X7_wageTotal -/
def wX7_wageTotal (h : g_Hp) (Q : g_R → g_Hp → Prop) : Prop := wX1_sumWages 0 h (g_kL (fun x2 h1 => Q (.inl (some (vV (.long x2)))) h1) (fun E h1 => Q (.inr E) h1))
set_option maxRecDepth 100000 in
set_option maxHeartbeats 4000000 in
theorem vX7_wageTotal {G : g_G} {X : g_X} {Q : g_R → g_Hp → Prop} (C : g_Cx y_ G X iX7_wageTotal) (h : g_Hp) (H : wX7_wageTotal h Q) : g_V G X iX7_wageTotal 0 0 Q 0 0 0 [(0, vR 0 0 0)] [] h := by
  refine s_aload_n (pc := 0) C dX7_wageTotal_0 rfl 0 rfl ?_
  refine s_getr (pc := 1) (s := 0) (a := 1) (b := 0) (c' := 0) ckX7 (by decide) kw_300 rfl C dX7_wageTotal_1 ?_
  refine s_callv (pc := 4) (nA := 0) (as := []) (st := []) (stk := [vR 1 0 0]) ckX1 (Or.inl rfl) C (fun l hl => ctX1_sumWages l hl 0 _ _ H) ⟨⟨kw_371, kw_59, kw_374⟩, rfl, ⟨by decide, by decide, by decide +kernel⟩, by decide, by decide⟩ kw_372 (g_selW kw_373) rfl (Nat.le_of_ble_eq_true rfl) ⟨by decide, by decide⟩ rfl dX7_wageTotal_4 (g_Kq_L (fun x2 h1 H => ?_) (fun E h1 H => s_prop rfl ⟨by decide, by decide⟩ H C))
  exact s_lret (pc := 7) rfl ⟨by decide, by decide⟩ H C dX7_wageTotal_7
theorem ctX7_wageTotal (l : Launch) (hl : l.stackTraces = false) {G : g_G} (h : g_Hp) (Q : g_R → g_Hp → Prop) (H : wX7_wageTotal h Q) : g_Met l y_ G iX7_wageTotal [vR 0 0 0] h Q :=
  g_Met_of hl (by decide +kernel) rfl rfl (Nat.le_of_ble_eq_true rfl) (fun X C => vX7_wageTotal C h H)
/-! X7_lostTotal -/
def wX7_lostTotal (h : g_Hp) (Q : g_R → g_Hp → Prop) : Prop := wX1_sumLostByMembers 0 h (g_kI (fun x2 h1 => Q (.inl (some (vI x2))) h1) (fun E h1 => Q (.inr E) h1))
set_option maxRecDepth 100000 in
set_option maxHeartbeats 4000000 in
theorem vX7_lostTotal {G : g_G} {X : g_X} {Q : g_R → g_Hp → Prop} (C : g_Cx y_ G X iX7_lostTotal) (h : g_Hp) (H : wX7_lostTotal h Q) : g_V G X iX7_lostTotal 0 0 Q 0 0 0 [(0, vR 0 0 0)] [] h := by
  refine s_aload_n (pc := 0) C dX7_lostTotal_0 rfl 0 rfl ?_
  refine s_getr (pc := 1) (s := 0) (a := 1) (b := 0) (c' := 0) ckX7 (by decide) kw_300 rfl C dX7_lostTotal_1 ?_
  refine s_callv (pc := 4) (nA := 0) (as := []) (st := []) (stk := [vR 1 0 0]) ckX1 (Or.inl rfl) C (fun l hl => ctX1_sumLostByMembers l hl 0 _ _ H) ⟨⟨kw_379, kw_59, kw_382⟩, rfl, ⟨by decide, by decide, by decide +kernel⟩, by decide, by decide⟩ kw_380 (g_selW kw_381) rfl (Nat.le_of_ble_eq_true rfl) ⟨by decide, by decide⟩ rfl dX7_lostTotal_4 (g_Kq_I (fun x2 h1 H => ?_) (fun E h1 H => s_prop rfl ⟨by decide, by decide⟩ H C))
  exact s_iret (pc := 7) rfl rfl ⟨by decide, by decide⟩ H C dX7_lostTotal_7
theorem ctX7_lostTotal (l : Launch) (hl : l.stackTraces = false) {G : g_G} (h : g_Hp) (Q : g_R → g_Hp → Prop) (H : wX7_lostTotal h Q) : g_Met l y_ G iX7_lostTotal [vR 0 0 0] h Q :=
  g_Met_of hl (by decide +kernel) rfl rfl (Nat.le_of_ble_eq_true rfl) (fun X C => vX7_lostTotal C h H)
/-! X7_lostTotalByRoofs -/
def wX7_lostTotalByRoofs (h : g_Hp) (Q : g_R → g_Hp → Prop) : Prop := wX1_sumLostByRoofs 0 h (g_kI (fun x2 h1 => Q (.inl (some (vI x2))) h1) (fun E h1 => Q (.inr E) h1))
set_option maxRecDepth 100000 in
set_option maxHeartbeats 4000000 in
theorem vX7_lostTotalByRoofs {G : g_G} {X : g_X} {Q : g_R → g_Hp → Prop} (C : g_Cx y_ G X iX7_lostTotalByRoofs) (h : g_Hp) (H : wX7_lostTotalByRoofs h Q) : g_V G X iX7_lostTotalByRoofs 0 0 Q 0 0 0 [(0, vR 0 0 0)] [] h := by
  refine s_aload_n (pc := 0) C dX7_lostTotalByRoofs_0 rfl 0 rfl ?_
  refine s_getr (pc := 1) (s := 0) (a := 1) (b := 0) (c' := 0) ckX7 (by decide) kw_300 rfl C dX7_lostTotalByRoofs_1 ?_
  refine s_callv (pc := 4) (nA := 0) (as := []) (st := []) (stk := [vR 1 0 0]) ckX1 (Or.inl rfl) C (fun l hl => ctX1_sumLostByRoofs l hl 0 _ _ H) ⟨⟨kw_387, kw_59, kw_390⟩, rfl, ⟨by decide, by decide, by decide +kernel⟩, by decide, by decide⟩ kw_388 (g_selW kw_389) rfl (Nat.le_of_ble_eq_true rfl) ⟨by decide, by decide⟩ rfl dX7_lostTotalByRoofs_4 (g_Kq_I (fun x2 h1 H => ?_) (fun E h1 H => s_prop rfl ⟨by decide, by decide⟩ H C))
  exact s_iret (pc := 7) rfl rfl ⟨by decide, by decide⟩ H C dX7_lostTotalByRoofs_7
theorem ctX7_lostTotalByRoofs (l : Launch) (hl : l.stackTraces = false) {G : g_G} (h : g_Hp) (Q : g_R → g_Hp → Prop) (H : wX7_lostTotalByRoofs h Q) : g_Met l y_ G iX7_lostTotalByRoofs [vR 0 0 0] h Q :=
  g_Met_of hl (by decide +kernel) rfl rfl (Nat.le_of_ble_eq_true rfl) (fun X C => vX7_lostTotalByRoofs C h H)
/-! X7_stepTotal -/
def wX7_stepTotal (h : g_Hp) (Q : g_R → g_Hp → Prop) : Prop := Q (.inl (some (vI (h 1 0 0 6)))) h
set_option maxRecDepth 100000 in
set_option maxHeartbeats 4000000 in
theorem vX7_stepTotal {G : g_G} {X : g_X} {Q : g_R → g_Hp → Prop} (C : g_Cx y_ G X iX7_stepTotal) (h : g_Hp) (H : wX7_stepTotal h Q) : g_V G X iX7_stepTotal 0 0 Q 0 0 0 [(0, vR 0 0 0)] [] h := by
  refine s_aload_n (pc := 0) C dX7_stepTotal_0 rfl 0 rfl ?_
  refine s_getr (pc := 1) (s := 0) (a := 1) (b := 0) (c' := 0) ckX7 (by decide) kw_300 rfl C dX7_stepTotal_1 ?_
  refine s_geti (pc := 4) (s := 5) ckX1 (Or.inl rfl) (by decide) kw_177 (fun _ => rfl) C dX7_stepTotal_4 ?_
  exact s_iret (pc := 7) rfl rfl ⟨by decide, by decide⟩ H C dX7_stepTotal_7
theorem ctX7_stepTotal (l : Launch) (hl : l.stackTraces = false) {G : g_G} (h : g_Hp) (Q : g_R → g_Hp → Prop) (H : wX7_stepTotal h Q) : g_Met l y_ G iX7_stepTotal [vR 0 0 0] h Q :=
  g_Met_of hl (by decide +kernel) rfl rfl (Nat.le_of_ble_eq_true rfl) (fun X C => vX7_stepTotal C h H)
/-! X7_settlementCount -/
def wX7_settlementCount (h : g_Hp) (Q : g_R → g_Hp → Prop) : Prop := Q (.inl (some (vI (h 1 0 0 12)))) h
set_option maxRecDepth 100000 in
set_option maxHeartbeats 4000000 in
theorem vX7_settlementCount {G : g_G} {X : g_X} {Q : g_R → g_Hp → Prop} (C : g_Cx y_ G X iX7_settlementCount) (h : g_Hp) (H : wX7_settlementCount h Q) : g_V G X iX7_settlementCount 0 0 Q 0 0 0 [(0, vR 0 0 0)] [] h := by
  refine s_aload_n (pc := 0) C dX7_settlementCount_0 rfl 0 rfl ?_
  refine s_getr (pc := 1) (s := 0) (a := 1) (b := 0) (c' := 0) ckX7 (by decide) kw_300 rfl C dX7_settlementCount_1 ?_
  refine s_geti (pc := 4) (s := 11) ckX1 (Or.inl rfl) (by decide) kw_188 (fun _ => rfl) C dX7_settlementCount_4 ?_
  exact s_iret (pc := 7) rfl rfl ⟨by decide, by decide⟩ H C dX7_settlementCount_7
theorem ctX7_settlementCount (l : Launch) (hl : l.stackTraces = false) {G : g_G} (h : g_Hp) (Q : g_R → g_Hp → Prop) (H : wX7_settlementCount h Q) : g_Met l y_ G iX7_settlementCount [vR 0 0 0] h Q :=
  g_Met_of hl (by decide +kernel) rfl rfl (Nat.le_of_ble_eq_true rfl) (fun X C => vX7_settlementCount C h H)
/-! X7_append -/
def wX7_append_b12 (Q : g_R → g_Hp → Prop) (h : g_Hp) : Prop := Q (.inr "java/lang/IllegalArgumentException") h
def wX7_append (p0 : Int32) (h : g_Hp) (Q : g_R → g_Hp → Prop) : Prop := ((p0 < (32 : Int32)) → wX7_append_b12 Q  h) ∧ ((¬ p0 < (32 : Int32)) → ((p0 ≤ (126 : Int32)) → wJ4_length_8abf5 0 0 h (g_kI (fun x2 h1 => ((x2 < (60 : Int32)) → wJ4_append_cf468 0 0 p0 h1 (g_kR 6 (fun i4 j5 h3 => wJ4_length_8abf5 0 0 h3 (g_kI (fun x7 h6 => Q (.inl (some (vI x7))) h6) (fun E h6 => Q (.inr E) h6))) (fun E h3 => Q (.inr E) h3))) ∧ ((¬ x2 < (60 : Int32)) → Q (.inr "java/lang/IllegalStateException") h1)) (fun E h1 => Q (.inr E) h1))) ∧ ((¬ p0 ≤ (126 : Int32)) → wX7_append_b12 Q  h))
set_option maxRecDepth 100000 in
set_option maxHeartbeats 4000000 in
theorem vX7_append_b12 {G : g_G} {X : g_X} {Q : g_R → g_Hp → Prop} (C : g_Cx y_ G X iX7_append) (h : g_Hp) (H : wX7_append_b12 Q h) : g_V G X iX7_append 1 150 Q 12 0 0 [] [] h := by
  exact s_throwW (pc := 12) (names := ["java/lang/RuntimeException", "java/lang/Exception"]) tw_RX7_IllegalArgumentException ss_RX7_258 rfl ⟨by decide, Nat.le_of_ble_eq_true rfl, by decide, by decide⟩ ⟨by decide, by decide⟩ H C dX7_append_12 dX7_append_15 dX7_append_16 dX7_append_19 dX7_append_22
set_option maxRecDepth 100000 in
set_option maxHeartbeats 4000000 in
theorem vX7_append {G : g_G} {X : g_X} {Q : g_R → g_Hp → Prop} (C : g_Cx y_ G X iX7_append) (p0 : Int32) (h : g_Hp) (H : wX7_append p0 h Q) : g_V G X iX7_append 1 150 Q 0 0 0 [(0, vR 0 0 0), (1, vI p0)] [] h := by
  refine s_iload_n (pc := 0) C dX7_append_0 rfl 1 rfl ?_
  refine s_bipush (pc := 1) C dX7_append_1 (x := (32 : Int32)) (by decide) ?_
  refine s_icmp_lt (pc := 3) (tgt := 12) C dX7_append_3 (by decide) (fun c => ?_) (fun c => ?_)
  · have H := H.1 c
    exact s_sub (ls' := []) [] rfl (vX7_append_b12 C  h H)
  · have H := H.2 c
    refine s_iload_n (pc := 6) C dX7_append_6 rfl 1 rfl ?_
    refine s_bipush (pc := 7) C dX7_append_7 (x := (126 : Int32)) (by decide) ?_
    refine s_icmp_le (pc := 9) (tgt := 23) C dX7_append_9 (by decide) (fun c => ?_) (fun c => ?_)
    · have H := H.1 c
      refine s_aload_n (pc := 23) C dX7_append_23 rfl 0 rfl ?_
      refine s_getr (pc := 24) (s := 6) (a := 3) (b := 0) (c' := 0) ckX7 (by decide) kw_306 rfl C dX7_append_24 ?_
      refine s_getr (pc := 27) (s := 0) (a := 6) (b := 0) (c' := 0) ckX3 (by decide) kw_282 rfl C dX7_append_27 ?_
      refine s_callv (pc := 30) (nA := 0) (as := []) (st := []) (stk := [vR 6 0 0]) ckJ4 (Or.inl rfl) C (fun l hl => ctJ4_length_8abf5 l hl 0 0 _ _ H) ⟨⟨kw_1048, kw_63, kw_1051⟩, rfl, ⟨by decide, by decide, by decide +kernel⟩, by decide, by decide⟩ kw_1049 (g_selW kw_1050) rfl (Nat.le_of_ble_eq_true rfl) ⟨by decide, by decide⟩ rfl dX7_append_30 (g_Kq_I (fun x2 h1 H => ?_) (fun E h1 H => s_prop rfl ⟨by decide, by decide⟩ H C))
      refine s_bipush (pc := 33) C dX7_append_33 (x := (60 : Int32)) (by decide) ?_
      refine s_icmp_lt (pc := 35) (tgt := 49) C dX7_append_35 (by decide) (fun c => ?_) (fun c => ?_)
      · have H := H.1 c
        refine s_aload_n (pc := 49) C dX7_append_49 rfl 0 rfl ?_
        refine s_getr (pc := 50) (s := 6) (a := 3) (b := 0) (c' := 0) ckX7 (by decide) kw_306 rfl C dX7_append_50 ?_
        refine s_getr (pc := 53) (s := 0) (a := 6) (b := 0) (c' := 0) ckX3 (by decide) kw_282 rfl C dX7_append_53 ?_
        refine s_iload_n (pc := 56) C dX7_append_56 rfl 1 rfl ?_
        refine s_callv (pc := 57) (nA := 1) (as := [vI p0]) (st := []) (stk := [vI p0, vR 6 0 0]) ckJ4 (Or.inl rfl) C (fun l hl => ctJ4_append_cf468 l hl 0 0 p0 _ _ H) ⟨⟨kw_1056, kw_63, kw_1059⟩, rfl, ⟨by decide, by decide, by decide +kernel⟩, by decide, by decide⟩ kw_1057 (g_selW kw_1058) rfl (Nat.le_of_ble_eq_true rfl) ⟨by decide, by decide⟩ rfl dX7_append_57 (g_Kq_R (fun i4 j5 h3 H => ?_) (fun E h3 H => s_prop rfl ⟨by decide, by decide⟩ H C))
        refine s_pop (pc := 60) C dX7_append_60 rfl ?_
        refine s_aload_n (pc := 61) C dX7_append_61 rfl 0 rfl ?_
        refine s_getr (pc := 62) (s := 6) (a := 3) (b := 0) (c' := 0) ckX7 (by decide) kw_306 rfl C dX7_append_62 ?_
        refine s_getr (pc := 65) (s := 0) (a := 6) (b := 0) (c' := 0) ckX3 (by decide) kw_282 rfl C dX7_append_65 ?_
        refine s_callv (pc := 68) (nA := 0) (as := []) (st := []) (stk := [vR 6 0 0]) ckJ4 (Or.inl rfl) C (fun l hl => ctJ4_length_8abf5 l hl 0 0 _ _ H) ⟨⟨kw_1048, kw_63, kw_1051⟩, rfl, ⟨by decide, by decide, by decide +kernel⟩, by decide, by decide⟩ kw_1049 (g_selW kw_1050) rfl (Nat.le_of_ble_eq_true rfl) ⟨by decide, by decide⟩ rfl dX7_append_68 (g_Kq_I (fun x7 h6 H => ?_) (fun E h6 H => s_prop rfl ⟨by decide, by decide⟩ H C))
        exact s_iret (pc := 71) rfl rfl ⟨by decide, by decide⟩ H C dX7_append_71
      · have H := H.2 c
        exact s_throwW (pc := 38) (names := ["java/lang/RuntimeException", "java/lang/Exception"]) tw_RX7_IllegalStateException ss_RX7_267 rfl ⟨by decide, Nat.le_of_ble_eq_true rfl, by decide, by decide⟩ ⟨by decide, by decide⟩ H C dX7_append_38 dX7_append_41 dX7_append_42 dX7_append_45 dX7_append_48
    · have H := H.2 c
      exact s_sub (ls' := []) [] rfl (vX7_append_b12 C  h H)
theorem ctX7_append (l : Launch) (hl : l.stackTraces = false) {G : g_G} (p0 : Int32) (h : g_Hp) (Q : g_R → g_Hp → Prop) (H : wX7_append p0 h Q) : g_Met l y_ G iX7_append [vR 0 0 0, vI p0] h Q :=
  g_Met_of hl (by decide +kernel) rfl rfl (Nat.le_of_ble_eq_true rfl) (fun X C => vX7_append C p0 h H)
/-! X7_carryOutAll -/
def wX7_carryOutAll_b6_B (Q : g_R → g_Hp → Prop) (R6 : Int32 → g_Hp → Prop) (x1 : Int32) (h : g_Hp) : Prop := (((h 3 0 0 3) ≤ x1) → wX7_endChange h (g_kV (fun h1 => Q (.inl (some (vI (-1 : Int32)))) h1) (fun E h1 => Q (.inr E) h1))) ∧ ((¬ (h 3 0 0 3) ≤ x1) → vp_in x1 11 ∧ ∀ i2 : Nat, i2 = x1.toNatClampNeg → wX1_faultOf 0 i2 h (g_kR 20 (fun i4 j5 h3 => (i4 < 6 ∧ 0 < 6) ∧ ((i4 = 0) → wX1_carryOut 0 i2 h3 (g_kV (fun h6 => ∀ y7 : Int32, y7 = x1 + (1 : Int32) → R6 y7 h6) (fun E h6 => Q (.inr E) h6))) ∧ ((¬ i4 = 0) → vp_in (h3 0 0 0 3) 9 ∧ ∀ i8 : Nat, i8 = (h3 0 0 0 3).toNatClampNeg + 1 → wX1_copyFrom 0 i8 h3 (g_kV (fun h9 => Q (.inl (some (vI x1))) h9) (fun E h9 => Q (.inr E) h9)))) (fun E h3 => Q (.inr E) h3)))
def wX7_carryOutAll_b6_I (Q : g_R → g_Hp → Prop) : Nat → Int32 → g_Hp → Prop
  | 0 => fun _ _ => False
  | n + 1 => fun x1 h => wX7_carryOutAll_b6_B Q (wX7_carryOutAll_b6_I Q n) x1 h
def wX7_carryOutAll_b6 (Q : g_R → g_Hp → Prop) (x1 : Int32) (h : g_Hp) : Prop := ∃ n, wX7_carryOutAll_b6_I Q n x1 h
def wX7_carryOutAll (h : g_Hp) (Q : g_R → g_Hp → Prop) : Prop := wX7_beginChange h (g_kV (fun h1 => wX7_carryOutAll_b6 Q (0 : Int32) h1) (fun E h1 => Q (.inr E) h1))
set_option maxRecDepth 100000 in
set_option maxHeartbeats 4000000 in
theorem vX7_carryOutAll_b6_B {G : g_G} {X : g_X} {Q : g_R → g_Hp → Prop} (C : g_Cx y_ G X iX7_carryOutAll) (R6 : Int32 → g_Hp → Prop) (hR6 : ∀ (x1 : Int32) (h : g_Hp), R6 x1 h → g_V G X iX7_carryOutAll 0 0 Q 6 0 0 [(0, vR 0 0 0), (1, vI x1)] [] h) (x1 : Int32) (h : g_Hp) (H : wX7_carryOutAll_b6_B Q R6 x1 h) : g_V G X iX7_carryOutAll 0 0 Q 6 0 0 [(0, vR 0 0 0), (1, vI x1)] [] h := by
  refine s_iload_n (pc := 6) C dX7_carryOutAll_6 rfl 1 rfl ?_
  refine s_aload_n (pc := 7) C dX7_carryOutAll_7 rfl 0 rfl ?_
  refine s_getr (pc := 8) (s := 6) (a := 3) (b := 0) (c' := 0) ckX7 (by decide) kw_306 rfl C dX7_carryOutAll_8 ?_
  refine s_geti (pc := 11) (s := 2) ckX3 (Or.inl rfl) (by decide) kw_286 (fun _ => rfl) C dX7_carryOutAll_11 ?_
  refine s_icmp_ge (pc := 14) (tgt := 73) C dX7_carryOutAll_14 (by decide) (fun c => ?_) (fun c => ?_)
  · have H := H.1 c
    refine s_aload_n (pc := 73) C dX7_carryOutAll_73 rfl 0 rfl ?_
    refine s_callv (pc := 74) (nA := 0) (as := []) (st := []) (stk := [vR 0 0 0]) ckX7 (Or.inl rfl) C (fun l hl => ctX7_endChange l hl _ _ H) ⟨⟨kw_683, kw_58, kw_686⟩, rfl, ⟨by decide, by decide, by decide +kernel⟩, by decide, by decide⟩ kw_685 (g_selW kw_4) rfl (Nat.le_of_ble_eq_true rfl) ⟨by decide, by decide⟩ rfl dX7_carryOutAll_74 (g_Kq_V (fun h1 H => ?_) (fun E h1 H => s_prop rfl ⟨by decide, by decide⟩ H C))
    refine s_iconst (pc := 77) C dX7_carryOutAll_77 (x := (-1 : Int32)) (by decide) ?_
    exact s_iret (pc := 78) rfl rfl ⟨by decide, by decide⟩ H C dX7_carryOutAll_78
  · have H := H.2 c
    refine s_aload_n (pc := 17) C dX7_carryOutAll_17 rfl 0 rfl ?_
    refine s_getr (pc := 18) (s := 6) (a := 3) (b := 0) (c' := 0) ckX7 (by decide) kw_306 rfl C dX7_carryOutAll_18 ?_
    refine s_getr (pc := 21) (s := 1) (a := 12) (b := 0) (c' := 0) ckX3 (by decide) kw_284 rfl C dX7_carryOutAll_21 ?_
    refine s_iload_n (pc := 24) C dX7_carryOutAll_24 rfl 1 rfl ?_
    refine s_aald (pc := 25) (kk := 12) (by decide) (by decide) H.1 C dX7_carryOutAll_25 ?_
    have H := H.2
    show g_V _ _ _ _ _ _ _ _ _ _ (vR 4 (x1.toNatClampNeg) 0 :: _) _
    refine s_nmi (fun i2 ei2 => ?_)
    have H := H i2 ei2
    refine s_astore_n (pc := 26) (ls' := [(2, vR 4 i2 0), (0, vR 0 0 0), (1, vI x1)]) C dX7_carryOutAll_26 rfl (by decide) rfl ?_
    refine s_aload_n (pc := 27) C dX7_carryOutAll_27 rfl 1 rfl ?_
    refine s_getr (pc := 28) (s := 0) (a := 1) (b := 0) (c' := 0) ckX7 (by decide) kw_300 rfl C dX7_carryOutAll_28 ?_
    refine s_aload_n (pc := 31) C dX7_carryOutAll_31 rfl 0 rfl ?_
    refine s_callv (pc := 32) (nA := 1) (as := [vR 4 i2 0]) (st := []) (stk := [vR 4 i2 0, vR 1 0 0]) ckX1 (Or.inl rfl) C (fun l hl => ctX1_faultOf l hl 0 i2 _ _ H) ⟨⟨kw_1408, kw_59, kw_1411⟩, rfl, ⟨by decide, by decide, by decide +kernel⟩, by decide, by decide⟩ kw_1409 (g_selW kw_1410) rfl (Nat.le_of_ble_eq_true rfl) ⟨by decide, by decide⟩ rfl dX7_carryOutAll_32 (g_Kq_R (fun i4 j5 h3 H => ?_) (fun E h3 H => s_prop rfl ⟨by decide, by decide⟩ H C))
    refine s_gets (pc := 35) zs_NOTHING (by decide) kw_1427 C dX7_carryOutAll_35 ?_
    refine s_acmp_eq20 (pc := 38) (tgt := 59) H.1 C dX7_carryOutAll_38 (by decide) (fun c => ?_) (fun c => ?_)
    · have H := H.2.1 c
      refine s_aload_n (pc := 59) C dX7_carryOutAll_59 rfl 1 rfl ?_
      refine s_getr (pc := 60) (s := 0) (a := 1) (b := 0) (c' := 0) ckX7 (by decide) kw_300 rfl C dX7_carryOutAll_60 ?_
      refine s_aload_n (pc := 63) C dX7_carryOutAll_63 rfl 0 rfl ?_
      refine s_callv (pc := 64) (nA := 1) (as := [vR 4 i2 0]) (st := []) (stk := [vR 4 i2 0, vR 1 0 0]) ckX1 (Or.inl rfl) C (fun l hl => ctX1_carryOut l hl 0 i2 _ _ H) ⟨⟨kw_1428, kw_59, kw_1431⟩, rfl, ⟨by decide, by decide, by decide +kernel⟩, by decide, by decide⟩ kw_1429 (g_selW kw_1430) rfl (Nat.le_of_ble_eq_true rfl) ⟨by decide, by decide⟩ rfl dX7_carryOutAll_64 (g_Kq_V (fun h6 H => ?_) (fun E h6 H => s_prop rfl ⟨by decide, by decide⟩ H C))
      refine s_iincN (pc := 67) C dX7_carryOutAll_67 2 rfl (z' := (1 : Int32)) (by decide) (by decide) (fun y7 ey7 => ?_)
      have H := H y7 ey7
      show g_V _ _ _ _ _ _ _ _ _ [(1, vI y7), (2, vR 4 i2 0), (0, vR 0 0 0)] _ _
      refine s_goto (pc := 70) (tgt := 6) C dX7_carryOutAll_70 (by decide) ?_
      exact s_sub (ls' := [(0, vR 0 0 0), (1, vI y7)]) [2, 0] rfl (hR6 y7 h6 H)
    · have H := H.2.2 c
      refine s_aload_n (pc := 41) C dX7_carryOutAll_41 rfl 1 rfl ?_
      refine s_getr (pc := 42) (s := 0) (a := 1) (b := 0) (c' := 0) ckX7 (by decide) kw_300 rfl C dX7_carryOutAll_42 ?_
      refine s_aload_n (pc := 45) C dX7_carryOutAll_45 rfl 1 rfl ?_
      refine s_getr (pc := 46) (s := 1) (a := 10) (b := 0) (c' := 0) ckX7 (by decide) kw_301 rfl C dX7_carryOutAll_46 ?_
      refine s_aload_n (pc := 49) C dX7_carryOutAll_49 rfl 1 rfl ?_
      refine s_geti (pc := 50) (s := 2) ckX7 (Or.inl rfl) (by decide) kw_302 (fun _ => rfl) C dX7_carryOutAll_50 ?_
      refine s_aald (pc := 53) (kk := 10) (by decide) (by decide) H.1 C dX7_carryOutAll_53 ?_
      have H := H.2
      show g_V _ _ _ _ _ _ _ _ _ _ (vR 1 ((h3 0 0 0 3).toNatClampNeg + 1) 0 :: _) _
      refine s_nmi (fun i8 ei8 => ?_)
      have H := H i8 ei8
      refine s_callv (pc := 54) (nA := 1) (as := [vR 1 i8 0]) (st := []) (stk := [vR 1 i8 0, vR 1 0 0]) ckX1 (Or.inl rfl) C (fun l hl => ctX1_copyFrom l hl 0 i8 _ _ H) ⟨⟨kw_542, kw_59, kw_545⟩, rfl, ⟨by decide, by decide, by decide +kernel⟩, by decide, by decide⟩ kw_543 (g_selW kw_544) rfl (Nat.le_of_ble_eq_true rfl) ⟨by decide, by decide⟩ rfl dX7_carryOutAll_54 (g_Kq_V (fun h9 H => ?_) (fun E h9 H => s_prop rfl ⟨by decide, by decide⟩ H C))
      refine s_iload_n (pc := 57) C dX7_carryOutAll_57 rfl 2 rfl ?_
      exact s_iret (pc := 58) rfl rfl ⟨by decide, by decide⟩ H C dX7_carryOutAll_58
theorem vX7_carryOutAll_b6 {G : g_G} {X : g_X} {Q : g_R → g_Hp → Prop} (C : g_Cx y_ G X iX7_carryOutAll) (x1 : Int32) (h : g_Hp) (H : wX7_carryOutAll_b6 Q x1 h) : g_V G X iX7_carryOutAll 0 0 Q 6 0 0 [(0, vR 0 0 0), (1, vI x1)] [] h := by
  obtain ⟨n, H⟩ := H
  induction n generalizing x1 h with
  | zero => exact H.elim
  | succ n ih => exact vX7_carryOutAll_b6_B C _ (fun x1 h H => ih x1 h H) x1 h H
set_option maxRecDepth 100000 in
set_option maxHeartbeats 4000000 in
theorem vX7_carryOutAll {G : g_G} {X : g_X} {Q : g_R → g_Hp → Prop} (C : g_Cx y_ G X iX7_carryOutAll) (h : g_Hp) (H : wX7_carryOutAll h Q) : g_V G X iX7_carryOutAll 0 0 Q 0 0 0 [(0, vR 0 0 0)] [] h := by
  refine s_aload_n (pc := 0) C dX7_carryOutAll_0 rfl 0 rfl ?_
  refine s_callv (pc := 1) (nA := 0) (as := []) (st := []) (stk := [vR 0 0 0]) ckX7 (Or.inl rfl) C (fun l hl => ctX7_beginChange l hl _ _ H) ⟨⟨kw_671, kw_58, kw_674⟩, rfl, ⟨by decide, by decide, by decide +kernel⟩, by decide, by decide⟩ kw_673 (g_selW kw_3) rfl (Nat.le_of_ble_eq_true rfl) ⟨by decide, by decide⟩ rfl dX7_carryOutAll_1 (g_Kq_V (fun h1 H => ?_) (fun E h1 H => s_prop rfl ⟨by decide, by decide⟩ H C))
  refine s_iconst (pc := 4) C dX7_carryOutAll_4 (x := (0 : Int32)) (by decide) ?_
  refine s_istore_n (pc := 5) (ls' := [(1, vI (0 : Int32)), (0, vR 0 0 0)]) C dX7_carryOutAll_5 rfl (by decide) rfl ?_
  exact s_sub (ls' := [(0, vR 0 0 0), (1, vI (0 : Int32))]) [1, 0] rfl (vX7_carryOutAll_b6 C (0 : Int32) h1 H)
theorem ctX7_carryOutAll (l : Launch) (hl : l.stackTraces = false) {G : g_G} (h : g_Hp) (Q : g_R → g_Hp → Prop) (H : wX7_carryOutAll h Q) : g_Met l y_ G iX7_carryOutAll [vR 0 0 0] h Q :=
  g_Met_of hl (by decide +kernel) rfl rfl (Nat.le_of_ble_eq_true rfl) (fun X C => vX7_carryOutAll C h H)
