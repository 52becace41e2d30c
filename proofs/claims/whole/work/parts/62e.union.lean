/-! X1_carryOut -/
abbrev iX1_carryOut : g_I := (RX1, yX1_carryOut, cX1_carryOut, 2, none, [], { frames := 5, cells := 0, slots := 0, locals := 110 })
set_option maxRecDepth 100000 in
set_option maxHeartbeats 4000000 in
theorem vX1_carryOut_b189 {G : g_G} {X : g_X} {Q : g_R → g_Hp → Prop} (C : g_Cx y_ G X iX1_carryOut) (ti : Nat) (a0i : Nat) (h : g_Hp) (H : wX1_carryOut_b189 ti a0i Q h) : g_V G X iX1_carryOut 0 0 Q 189 0 0 [] [] h := by
  exact s_vret (pc := 189) rfl ⟨by decide, by decide⟩ H C dX1_carryOut_189
set_option maxRecDepth 100000 in
set_option maxHeartbeats 4000000 in
theorem vX1_carryOut {G : g_G} {X : g_X} {Q : g_R → g_Hp → Prop} (C : g_Cx y_ G X iX1_carryOut) (ti : Nat) (a0i : Nat) (h : g_Hp) (H : wX1_carryOut ti a0i h Q) : g_V G X iX1_carryOut 0 0 Q 0 0 0 [(0, vR 1 ti 0), (1, vR 4 a0i 0)] [] h := by
  refine s_gets (pc := 0) zs__SwitchMap_VaneUnion_Keyword (g_cst_R rfl) kw_1412 C dX1_carryOut_0 ?_
  refine s_aload_n (pc := 3) C dX1_carryOut_3 rfl 1 rfl ?_
  refine s_getr (pc := 4) (s := 0) (a := 21) (b := ((h 4 a0i 0 1).toNatClampNeg - 1)) (c' := 0) ckX2 (by decide) kw_265 rfl C dX1_carryOut_4 ?_
  refine s_nmi (fun i1 ei1 => ?_)
  have H := H i1 ei1
  refine s_callcU (pc := 7) (nA := 0) (as := []) (st := [vR 23 1 0]) (stk := [vR 21 i1 0, vR 23 1 0]) (x := ⟨"VaneUnion$Keyword", "ordinal", "()I"⟩) (os_kw H.1) (by decide) C (fun l hl => ctJx29ce0_ordinal_8abf5_21 l hl i1 0 _ _ H.2) (List.forall_mem_cons.mpr ⟨kw_1414, List.forall_mem_cons.mpr ⟨kw_1415, List.forall_mem_cons.mpr ⟨kw_1416, List.forall_mem_cons.mpr ⟨kw_604, List.forall_mem_cons.mpr ⟨kw_67, List.forall_mem_cons.mpr ⟨kw_605, fun _ h => nomatch h⟩⟩⟩⟩⟩⟩) rfl rfl ⟨by decide, by decide, by decide +kernel⟩ ⟨by decide, by decide⟩ rfl (Nat.le_of_ble_eq_true rfl) ⟨by decide, by decide⟩ rfl dX1_carryOut_7 (g_Kq_I (fun u3 h2 H => ?_) (fun E h2 H => s_prop rfl ⟨by decide, by decide⟩ H C))
  refine s_ialdsw (pc := 10) H.1 (by decide) C dX1_carryOut_10 ?_
  have H := H.2
  refine s_tsw (pc := 11) (tgtD := 180) C dX1_carryOut_11 (by decide) (fun c => ?_) (fun n9 c => ?_)
  · have H := H.1 c
    refine s_aload_n (pc := 180) C dX1_carryOut_180 rfl 0 rfl ?_
    refine s_aload_n (pc := 181) C dX1_carryOut_181 rfl 1 rfl ?_
    refine s_geti (pc := 182) (s := 2) ckX2 (Or.inl rfl) (by decide) kw_269 (fun _ => rfl) C dX1_carryOut_182 ?_
    refine s_callv (pc := 185) (nA := 1) (as := [vI (h2 4 a0i 0 3)]) (st := []) (stk := [vI (h2 4 a0i 0 3), vR 1 ti 0]) ckX1 (Or.inl rfl) C (fun l hl => ctX1_takeAcceptance l hl ti (h2 4 a0i 0 3) _ _ H) ⟨⟨kw_1441, kw_59, kw_1004⟩, rfl, ⟨by decide, by decide, by decide +kernel⟩, by decide, by decide⟩ kw_1002 (g_selW kw_1003) rfl (Nat.le_of_ble_eq_true rfl) ⟨by decide, by decide⟩ rfl dX1_carryOut_185 (g_Kq_I (fun u5 h4 H => ?_) (fun E h4 H => s_prop rfl ⟨by decide, by decide⟩ H C))
    refine s_pop (pc := 188) C dX1_carryOut_188 rfl ?_
    exact s_sub (ls' := []) [] rfl (vX1_carryOut_b189 C ti a0i  h4 H)
  · have H := H.2
    match n9, c with
    | 0, c =>
      refine ⟨49, 60, rfl, by decide, ?_⟩
      have H := H.1 c.1
      refine s_aload_n (pc := 60) C dX1_carryOut_60 rfl 0 rfl ?_
      refine s_aload_n (pc := 61) C dX1_carryOut_61 rfl 1 rfl ?_
      refine s_geti (pc := 62) (s := 1) ckX2 (Or.inl rfl) (by decide) kw_267 (fun _ => rfl) C dX1_carryOut_62 ?_
      refine s_aload_n (pc := 65) C dX1_carryOut_65 rfl 1 rfl ?_
      refine s_geti (pc := 66) (s := 2) ckX2 (Or.inl rfl) (by decide) kw_269 (fun _ => rfl) C dX1_carryOut_66 ?_
      refine s_callv (pc := 69) (nA := 2) (as := [vI (h2 4 a0i 0 2), vI (h2 4 a0i 0 3)]) (st := []) (stk := [vI (h2 4 a0i 0 3), vI (h2 4 a0i 0 2), vR 1 ti 0]) ckX1 (Or.inl rfl) C (fun l hl => ctX1_add l hl ti (h2 4 a0i 0 2) (h2 4 a0i 0 3) _ _ H) ⟨⟨kw_1432, kw_59, kw_678⟩, rfl, ⟨by decide, by decide, by decide +kernel⟩, by decide, by decide⟩ kw_676 (g_selW kw_677) rfl (Nat.le_of_ble_eq_true rfl) ⟨by decide, by decide⟩ rfl dX1_carryOut_69 (g_Kq_I (fun u7 h6 H => ?_) (fun E h6 H => s_prop rfl ⟨by decide, by decide⟩ H C))
      refine s_pop (pc := 72) C dX1_carryOut_72 rfl ?_
      refine s_goto (pc := 73) (tgt := 189) C dX1_carryOut_73 (by decide) ?_
      exact s_sub (ls' := []) [] rfl (vX1_carryOut_b189 C ti a0i  h6 H)
    | 1, c =>
      refine ⟨65, 76, rfl, by decide, ?_⟩
      have H := H.2.1 c.1
      refine s_aload_n (pc := 76) C dX1_carryOut_76 rfl 0 rfl ?_
      refine s_aload_n (pc := 77) C dX1_carryOut_77 rfl 1 rfl ?_
      refine s_geti (pc := 78) (s := 1) ckX2 (Or.inl rfl) (by decide) kw_267 (fun _ => rfl) C dX1_carryOut_78 ?_
      refine s_aload_n (pc := 81) C dX1_carryOut_81 rfl 1 rfl ?_
      refine s_geti (pc := 82) (s := 2) ckX2 (Or.inl rfl) (by decide) kw_269 (fun _ => rfl) C dX1_carryOut_82 ?_
      refine s_callv (pc := 85) (nA := 2) (as := [vI (h2 4 a0i 0 2), vI (h2 4 a0i 0 3)]) (st := []) (stk := [vI (h2 4 a0i 0 3), vI (h2 4 a0i 0 2), vR 1 ti 0]) ckX1 (Or.inl rfl) C (fun l hl => ctX1_turnWind l hl ti (h2 4 a0i 0 2) (h2 4 a0i 0 3) _ _ H) ⟨⟨kw_1433, kw_59, kw_795⟩, rfl, ⟨by decide, by decide, by decide +kernel⟩, by decide, by decide⟩ kw_793 (g_selW kw_794) rfl (Nat.le_of_ble_eq_true rfl) ⟨by decide, by decide⟩ rfl dX1_carryOut_85 (g_Kq_I (fun u9 h8 H => ?_) (fun E h8 H => s_prop rfl ⟨by decide, by decide⟩ H C))
      refine s_pop (pc := 88) C dX1_carryOut_88 rfl ?_
      refine s_goto (pc := 89) (tgt := 189) C dX1_carryOut_89 (by decide) ?_
      exact s_sub (ls' := []) [] rfl (vX1_carryOut_b189 C ti a0i  h8 H)
    | 2, c =>
      refine ⟨81, 92, rfl, by decide, ?_⟩
      have H := H.2.2.1 c.1
      refine s_aload_n (pc := 92) C dX1_carryOut_92 rfl 0 rfl ?_
      refine s_aload_n (pc := 93) C dX1_carryOut_93 rfl 1 rfl ?_
      refine s_geti (pc := 94) (s := 2) ckX2 (Or.inl rfl) (by decide) kw_269 (fun _ => rfl) C dX1_carryOut_94 ?_
      refine s_callv (pc := 97) (nA := 1) (as := [vI (h2 4 a0i 0 3)]) (st := []) (stk := [vI (h2 4 a0i 0 3), vR 1 ti 0]) ckX1 (Or.inl rfl) C (fun l hl => ctX1_pass l hl ti (h2 4 a0i 0 3) _ _ H) ⟨⟨kw_1434, kw_59, kw_819⟩, rfl, ⟨by decide, by decide, by decide +kernel⟩, by decide, by decide⟩ kw_817 (g_selW kw_818) rfl (Nat.le_of_ble_eq_true rfl) ⟨by decide, by decide⟩ rfl dX1_carryOut_97 (g_Kq_I (fun u11 h10 H => ?_) (fun E h10 H => s_prop rfl ⟨by decide, by decide⟩ H C))
      refine s_pop (pc := 100) C dX1_carryOut_100 rfl ?_
      refine s_goto (pc := 101) (tgt := 189) C dX1_carryOut_101 (by decide) ?_
      exact s_sub (ls' := []) [] rfl (vX1_carryOut_b189 C ti a0i  h10 H)
    | 3, c =>
      refine ⟨93, 104, rfl, by decide, ?_⟩
      have H := H.2.2.2.1 c.1
      refine s_aload_n (pc := 104) C dX1_carryOut_104 rfl 0 rfl ?_
      refine s_aload_n (pc := 105) C dX1_carryOut_105 rfl 1 rfl ?_
      refine s_geti (pc := 106) (s := 2) ckX2 (Or.inl rfl) (by decide) kw_269 (fun _ => rfl) C dX1_carryOut_106 ?_
      refine s_aload_n (pc := 109) C dX1_carryOut_109 rfl 1 rfl ?_
      refine s_geti (pc := 110) (s := 3) ckX2 (Or.inl rfl) (by decide) kw_271 (fun _ => rfl) C dX1_carryOut_110 ?_
      refine s_callv (pc := 113) (nA := 2) (as := [vI (h2 4 a0i 0 3), vI (h2 4 a0i 0 4)]) (st := []) (stk := [vI (h2 4 a0i 0 4), vI (h2 4 a0i 0 3), vR 1 ti 0]) ckX1 (Or.inl rfl) C (fun l hl => ctX1_castVote l hl ti (h2 4 a0i 0 3) (h2 4 a0i 0 4) _ _ H) ⟨⟨kw_1435, kw_59, kw_852⟩, rfl, ⟨by decide, by decide, by decide +kernel⟩, by decide, by decide⟩ kw_850 (g_selW kw_851) rfl (Nat.le_of_ble_eq_true rfl) ⟨by decide, by decide⟩ rfl dX1_carryOut_113 (g_Kq_I (fun u13 h12 H => ?_) (fun E h12 H => s_prop rfl ⟨by decide, by decide⟩ H C))
      refine s_pop (pc := 116) C dX1_carryOut_116 rfl ?_
      refine s_goto (pc := 117) (tgt := 189) C dX1_carryOut_117 (by decide) ?_
      exact s_sub (ls' := []) [] rfl (vX1_carryOut_b189 C ti a0i  h12 H)
    | 4, c =>
      refine ⟨109, 120, rfl, by decide, ?_⟩
      have H := H.2.2.2.2.1 c.1
      refine s_aload_n (pc := 120) C dX1_carryOut_120 rfl 0 rfl ?_
      refine s_callv (pc := 121) (nA := 0) (as := []) (st := []) (stk := [vR 1 ti 0]) ckX1 (Or.inl rfl) C (fun l hl => ctX1_beginStrike l hl ti _ _ H) ⟨⟨kw_1436, kw_59, kw_878⟩, rfl, ⟨by decide, by decide, by decide +kernel⟩, by decide, by decide⟩ kw_876 (g_selW kw_877) rfl (Nat.le_of_ble_eq_true rfl) ⟨by decide, by decide⟩ rfl dX1_carryOut_121 (g_Kq_I (fun u15 h14 H => ?_) (fun E h14 H => s_prop rfl ⟨by decide, by decide⟩ H C))
      refine s_pop (pc := 124) C dX1_carryOut_124 rfl ?_
      refine s_goto (pc := 125) (tgt := 189) C dX1_carryOut_125 (by decide) ?_
      exact s_sub (ls' := []) [] rfl (vX1_carryOut_b189 C ti a0i  h14 H)
    | 5, c =>
      refine ⟨117, 128, rfl, by decide, ?_⟩
      have H := H.2.2.2.2.2.1 c.1
      refine s_aload_n (pc := 128) C dX1_carryOut_128 rfl 0 rfl ?_
      refine s_aload_n (pc := 129) C dX1_carryOut_129 rfl 1 rfl ?_
      refine s_geti (pc := 130) (s := 2) ckX2 (Or.inl rfl) (by decide) kw_269 (fun _ => rfl) C dX1_carryOut_130 ?_
      refine s_callv (pc := 133) (nA := 1) (as := [vI (h2 4 a0i 0 3)]) (st := []) (stk := [vI (h2 4 a0i 0 3), vR 1 ti 0]) ckX1 (Or.inl rfl) C (fun l hl => ctX1_pay l hl ti (h2 4 a0i 0 3) _ _ H) ⟨⟨kw_1437, kw_59, kw_901⟩, rfl, ⟨by decide, by decide, by decide +kernel⟩, by decide, by decide⟩ kw_899 (g_selW kw_900) rfl (Nat.le_of_ble_eq_true rfl) ⟨by decide, by decide⟩ rfl dX1_carryOut_133 (g_Kq_I (fun u17 h16 H => ?_) (fun E h16 H => s_prop rfl ⟨by decide, by decide⟩ H C))
      refine s_pop (pc := 136) C dX1_carryOut_136 rfl ?_
      refine s_goto (pc := 137) (tgt := 189) C dX1_carryOut_137 (by decide) ?_
      exact s_sub (ls' := []) [] rfl (vX1_carryOut_b189 C ti a0i  h16 H)
    | 6, c =>
      refine ⟨129, 140, rfl, by decide, ?_⟩
      have H := H.2.2.2.2.2.2.1 c.1
      refine s_aload_n (pc := 140) C dX1_carryOut_140 rfl 0 rfl ?_
      refine s_aload_n (pc := 141) C dX1_carryOut_141 rfl 1 rfl ?_
      refine s_geti (pc := 142) (s := 1) ckX2 (Or.inl rfl) (by decide) kw_267 (fun _ => rfl) C dX1_carryOut_142 ?_
      refine s_aload_n (pc := 145) C dX1_carryOut_145 rfl 1 rfl ?_
      refine s_geti (pc := 146) (s := 2) ckX2 (Or.inl rfl) (by decide) kw_269 (fun _ => rfl) C dX1_carryOut_146 ?_
      refine s_callv (pc := 149) (nA := 2) (as := [vI (h2 4 a0i 0 2), vI (h2 4 a0i 0 3)]) (st := []) (stk := [vI (h2 4 a0i 0 3), vI (h2 4 a0i 0 2), vR 1 ti 0]) ckX1 (Or.inl rfl) C (fun l hl => ctX1_putOnList l hl ti (h2 4 a0i 0 2) (h2 4 a0i 0 3) _ _ H) ⟨⟨kw_1438, kw_59, kw_925⟩, rfl, ⟨by decide, by decide, by decide +kernel⟩, by decide, by decide⟩ kw_923 (g_selW kw_924) rfl (Nat.le_of_ble_eq_true rfl) ⟨by decide, by decide⟩ rfl dX1_carryOut_149 (g_Kq_I (fun u19 h18 H => ?_) (fun E h18 H => s_prop rfl ⟨by decide, by decide⟩ H C))
      refine s_pop (pc := 152) C dX1_carryOut_152 rfl ?_
      refine s_goto (pc := 153) (tgt := 189) C dX1_carryOut_153 (by decide) ?_
      exact s_sub (ls' := []) [] rfl (vX1_carryOut_b189 C ti a0i  h18 H)
    | 7, c =>
      refine ⟨145, 156, rfl, by decide, ?_⟩
      have H := H.2.2.2.2.2.2.2.1 c.1
      refine s_aload_n (pc := 156) C dX1_carryOut_156 rfl 0 rfl ?_
      refine s_aload_n (pc := 157) C dX1_carryOut_157 rfl 1 rfl ?_
      refine s_geti (pc := 158) (s := 2) ckX2 (Or.inl rfl) (by decide) kw_269 (fun _ => rfl) C dX1_carryOut_158 ?_
      refine s_callv (pc := 161) (nA := 1) (as := [vI (h2 4 a0i 0 3)]) (st := []) (stk := [vI (h2 4 a0i 0 3), vR 1 ti 0]) ckX1 (Or.inl rfl) C (fun l hl => ctX1_takeOffList l hl ti (h2 4 a0i 0 3) _ _ H) ⟨⟨kw_1439, kw_59, kw_942⟩, rfl, ⟨by decide, by decide, by decide +kernel⟩, by decide, by decide⟩ kw_940 (g_selW kw_941) rfl (Nat.le_of_ble_eq_true rfl) ⟨by decide, by decide⟩ rfl dX1_carryOut_161 (g_Kq_I (fun u21 h20 H => ?_) (fun E h20 H => s_prop rfl ⟨by decide, by decide⟩ H C))
      refine s_pop (pc := 164) C dX1_carryOut_164 rfl ?_
      refine s_goto (pc := 165) (tgt := 189) C dX1_carryOut_165 (by decide) ?_
      exact s_sub (ls' := []) [] rfl (vX1_carryOut_b189 C ti a0i  h20 H)
    | 8, c =>
      refine ⟨157, 168, rfl, by decide, ?_⟩
      have H := H.2.2.2.2.2.2.2.2 c.1
      refine s_aload_n (pc := 168) C dX1_carryOut_168 rfl 0 rfl ?_
      refine s_aload_n (pc := 169) C dX1_carryOut_169 rfl 1 rfl ?_
      refine s_geti (pc := 170) (s := 2) ckX2 (Or.inl rfl) (by decide) kw_269 (fun _ => rfl) C dX1_carryOut_170 ?_
      refine s_callv (pc := 173) (nA := 1) (as := [vI (h2 4 a0i 0 3)]) (st := []) (stk := [vI (h2 4 a0i 0 3), vR 1 ti 0]) ckX1 (Or.inl rfl) C (fun l hl => ctX1_offer l hl ti (h2 4 a0i 0 3) _ _ H) ⟨⟨kw_1440, kw_59, kw_985⟩, rfl, ⟨by decide, by decide, by decide +kernel⟩, by decide, by decide⟩ kw_983 (g_selW kw_984) rfl (Nat.le_of_ble_eq_true rfl) ⟨by decide, by decide⟩ rfl dX1_carryOut_173 (g_Kq_I (fun u23 h22 H => ?_) (fun E h22 H => s_prop rfl ⟨by decide, by decide⟩ H C))
      refine s_pop (pc := 176) C dX1_carryOut_176 rfl ?_
      refine s_goto (pc := 177) (tgt := 189) C dX1_carryOut_177 (by decide) ?_
      exact s_sub (ls' := []) [] rfl (vX1_carryOut_b189 C ti a0i  h22 H)
    | q9 + 9, c => exact absurd c.2 (by omega)
theorem ctX1_carryOut (l : Launch) (hl : l.stackTraces = false) {G : g_G} (ti : Nat) (a0i : Nat) (h : g_Hp) (Q : g_R → g_Hp → Prop) (H : wX1_carryOut ti a0i h Q) : g_Met l y_ G iX1_carryOut [vR 1 ti 0, vR 4 a0i 0] h Q :=
  g_Met_of hl (by decide +kernel) rfl rfl (Nat.le_of_ble_eq_true rfl) (fun X C => vX1_carryOut C ti a0i h H)
/-! X1_countOnRoof -/
abbrev iX1_countOnRoof : g_I := (RX1, yX1_countOnRoof, cX1_countOnRoof, 4, (some .int), [], { frames := 1, cells := 0, slots := 0, locals := 20 })
set_option maxRecDepth 100000 in
set_option maxHeartbeats 4000000 in
theorem vX1_countOnRoof_b28 {G : g_G} {X : g_X} {Q : g_R → g_Hp → Prop} (C : g_Cx y_ G X iX1_countOnRoof) (ti : Nat) (R4 : Int32 → Int32 → Int32 → g_Hp → Prop) (hR4 : ∀ (x1 : Int32) (x2 : Int32) (x3 : Int32) (h : g_Hp), R4 x1 x2 x3 h → g_V G X iX1_countOnRoof 0 0 Q 4 0 0 [(0, vR 1 ti 0), (1, vI x1), (2, vI x2), (3, vI x3)] [] h) (x1 : Int32) (x2 : Int32) (x3 : Int32) (h : g_Hp) (H : wX1_countOnRoof_b28 ti Q R4 x1 x2 x3 h) : g_V G X iX1_countOnRoof 0 0 Q 28 0 0 [(0, vR 1 ti 0), (1, vI x1), (2, vI x2), (3, vI x3)] [] h := by
  refine s_iincN (pc := 28) C dX1_countOnRoof_28 3 rfl (z' := (1 : Int32)) (by decide) (by decide) (fun y1 ey1 => ?_)
  have H := H y1 ey1
  show g_V _ _ _ _ _ _ _ _ _ [(3, vI y1), (0, vR 1 ti 0), (1, vI x1), (2, vI x2)] _ _
  refine s_goto (pc := 31) (tgt := 4) C dX1_countOnRoof_31 (by decide) ?_
  exact s_sub (ls' := [(0, vR 1 ti 0), (1, vI x1), (2, vI x2), (3, vI y1)]) [1, 2, 3, 0] rfl (hR4 x1 x2 y1 h H)
set_option maxRecDepth 100000 in
set_option maxHeartbeats 4000000 in
theorem vX1_countOnRoof_b4_B {G : g_G} {X : g_X} {Q : g_R → g_Hp → Prop} (C : g_Cx y_ G X iX1_countOnRoof) (ti : Nat) (R4 : Int32 → Int32 → Int32 → g_Hp → Prop) (hR4 : ∀ (x1 : Int32) (x2 : Int32) (x3 : Int32) (h : g_Hp), R4 x1 x2 x3 h → g_V G X iX1_countOnRoof 0 0 Q 4 0 0 [(0, vR 1 ti 0), (1, vI x1), (2, vI x2), (3, vI x3)] [] h) (x1 : Int32) (x2 : Int32) (x3 : Int32) (h : g_Hp) (H : wX1_countOnRoof_b4_B ti Q R4 x1 x2 x3 h) : g_V G X iX1_countOnRoof 0 0 Q 4 0 0 [(0, vR 1 ti 0), (1, vI x1), (2, vI x2), (3, vI x3)] [] h := by
  refine s_iload_n (pc := 4) C dX1_countOnRoof_4 rfl 3 rfl ?_
  refine s_aload_n (pc := 5) C dX1_countOnRoof_5 rfl 0 rfl ?_
  refine s_geti (pc := 6) (s := 1) ckX1 (Or.inl rfl) (by decide) kw_168 (fun _ => rfl) C dX1_countOnRoof_6 ?_
  refine s_icmp_ge (pc := 9) (tgt := 34) C dX1_countOnRoof_9 (by decide) (fun c => ?_) (fun c => ?_)
  · have H := H.1 c
    refine s_iload_n (pc := 34) C dX1_countOnRoof_34 rfl 2 rfl ?_
    exact s_iret (pc := 35) rfl rfl ⟨by decide, by decide⟩ H C dX1_countOnRoof_35
  · have H := H.2 c
    refine s_aload_n (pc := 12) C dX1_countOnRoof_12 rfl 0 rfl ?_
    refine s_getr (pc := 13) (s := 0) (a := 11) (b := ti) (c' := 0) ckX1 (by decide) kw_166 rfl C dX1_countOnRoof_13 ?_
    refine s_iload_n (pc := 16) C dX1_countOnRoof_16 rfl 3 rfl ?_
    refine s_aald (pc := 17) (kk := 11) (by decide) (by decide) H.1 C dX1_countOnRoof_17 ?_
    have H := H.2
    show g_V _ _ _ _ _ _ _ _ _ _ (vR 2 ti (x3.toNatClampNeg) :: _) _
    refine s_nmj (fun j1 ej1 => ?_)
    have H := H j1 ej1
    refine s_geti (pc := 18) (s := 0) ckX6 (Or.inl rfl) (by decide) kw_114 (fun _ => rfl) C dX1_countOnRoof_18 ?_
    refine s_iload_n (pc := 21) C dX1_countOnRoof_21 rfl 1 rfl ?_
    refine s_icmp_ne (pc := 22) (tgt := 28) C dX1_countOnRoof_22 (by decide) (fun c => ?_) (fun c => ?_)
    · have H := H.1 c
      exact s_sub (ls' := [(0, vR 1 ti 0), (1, vI x1), (2, vI x2), (3, vI x3)]) [0, 1, 2, 3] rfl (vX1_countOnRoof_b28 C ti R4 hR4 x1 x2 x3 h H)
    · have H := H.2 c
      refine s_iincN (pc := 25) C dX1_countOnRoof_25 2 rfl (z' := (1 : Int32)) (by decide) (by decide) (fun y2 ey2 => ?_)
      have H := H y2 ey2
      show g_V _ _ _ _ _ _ _ _ _ [(2, vI y2), (0, vR 1 ti 0), (1, vI x1), (3, vI x3)] _ _
      exact s_sub (ls' := [(0, vR 1 ti 0), (1, vI x1), (2, vI y2), (3, vI x3)]) [1, 2, 0, 3] rfl (vX1_countOnRoof_b28 C ti R4 hR4 x1 y2 x3 h H)
theorem vX1_countOnRoof_b4 {G : g_G} {X : g_X} {Q : g_R → g_Hp → Prop} (C : g_Cx y_ G X iX1_countOnRoof) (ti : Nat) (x1 : Int32) (x2 : Int32) (x3 : Int32) (h : g_Hp) (H : wX1_countOnRoof_b4 ti Q x1 x2 x3 h) : g_V G X iX1_countOnRoof 0 0 Q 4 0 0 [(0, vR 1 ti 0), (1, vI x1), (2, vI x2), (3, vI x3)] [] h := by
  obtain ⟨n, H⟩ := H
  induction n generalizing x1 x2 x3 h with
  | zero => exact H.elim
  | succ n ih => exact vX1_countOnRoof_b4_B C ti _ (fun x1 x2 x3 h H => ih x1 x2 x3 h H) x1 x2 x3 h H
set_option maxRecDepth 100000 in
set_option maxHeartbeats 4000000 in
theorem vX1_countOnRoof {G : g_G} {X : g_X} {Q : g_R → g_Hp → Prop} (C : g_Cx y_ G X iX1_countOnRoof) (ti : Nat) (p0 : Int32) (h : g_Hp) (H : wX1_countOnRoof ti p0 h Q) : g_V G X iX1_countOnRoof 0 0 Q 0 0 0 [(0, vR 1 ti 0), (1, vI p0)] [] h := by
  refine s_iconst (pc := 0) C dX1_countOnRoof_0 (x := (0 : Int32)) (by decide) ?_
  refine s_istore_n (pc := 1) (ls' := [(2, vI (0 : Int32)), (0, vR 1 ti 0), (1, vI p0)]) C dX1_countOnRoof_1 rfl (by decide) rfl ?_
  refine s_iconst (pc := 2) C dX1_countOnRoof_2 (x := (0 : Int32)) (by decide) ?_
  refine s_istore_n (pc := 3) (ls' := [(3, vI (0 : Int32)), (2, vI (0 : Int32)), (0, vR 1 ti 0), (1, vI p0)]) C dX1_countOnRoof_3 rfl (by decide) rfl ?_
  exact s_sub (ls' := [(0, vR 1 ti 0), (1, vI p0), (2, vI (0 : Int32)), (3, vI (0 : Int32))]) [2, 3, 1, 0] rfl (vX1_countOnRoof_b4 C ti p0 (0 : Int32) (0 : Int32) h H)
theorem ctX1_countOnRoof (l : Launch) (hl : l.stackTraces = false) {G : g_G} (ti : Nat) (p0 : Int32) (h : g_Hp) (Q : g_R → g_Hp → Prop) (H : wX1_countOnRoof ti p0 h Q) : g_Met l y_ G iX1_countOnRoof [vR 1 ti 0, vI p0] h Q :=
  g_Met_of hl (by decide +kernel) rfl rfl (Nat.le_of_ble_eq_true rfl) (fun X C => vX1_countOnRoof C ti p0 h H)
/-! X1_findOnList -/
abbrev iX1_findOnList : g_I := (RX1, yX1_findOnList, cX1_findOnList, 5, (some .int), [], { frames := 1, cells := 0, slots := 0, locals := 20 })
set_option maxRecDepth 100000 in
set_option maxHeartbeats 4000000 in
theorem vX1_findOnList_b38 {G : g_G} {X : g_X} {Q : g_R → g_Hp → Prop} (C : g_Cx y_ G X iX1_findOnList) (ti : Nat) (R2 : Int32 → Int32 → Int32 → g_Hp → Prop) (hR2 : ∀ (x1 : Int32) (x2 : Int32) (x3 : Int32) (h : g_Hp), R2 x1 x2 x3 h → g_V G X iX1_findOnList 0 0 Q 2 0 0 [(0, vR 1 ti 0), (1, vI x1), (2, vI x2), (3, vI x3)] [] h) (x1 : Int32) (x2 : Int32) (x3 : Int32) (h : g_Hp) (H : wX1_findOnList_b38 ti Q R2 x1 x2 x3 h) : g_V G X iX1_findOnList 0 0 Q 38 0 0 [(0, vR 1 ti 0), (1, vI x1), (2, vI x2), (3, vI x3)] [] h := by
  refine s_iincN (pc := 38) C dX1_findOnList_38 3 rfl (z' := (1 : Int32)) (by decide) (by decide) (fun y1 ey1 => ?_)
  have H := H y1 ey1
  show g_V _ _ _ _ _ _ _ _ _ [(3, vI y1), (0, vR 1 ti 0), (1, vI x1), (2, vI x2)] _ _
  refine s_goto (pc := 41) (tgt := 2) C dX1_findOnList_41 (by decide) ?_
  exact s_sub (ls' := [(0, vR 1 ti 0), (1, vI x1), (2, vI x2), (3, vI y1)]) [1, 2, 3, 0] rfl (hR2 x1 x2 y1 h H)
set_option maxRecDepth 100000 in
set_option maxHeartbeats 4000000 in
theorem vX1_findOnList_b2_B {G : g_G} {X : g_X} {Q : g_R → g_Hp → Prop} (C : g_Cx y_ G X iX1_findOnList) (ti : Nat) (R2 : Int32 → Int32 → Int32 → g_Hp → Prop) (hR2 : ∀ (x1 : Int32) (x2 : Int32) (x3 : Int32) (h : g_Hp), R2 x1 x2 x3 h → g_V G X iX1_findOnList 0 0 Q 2 0 0 [(0, vR 1 ti 0), (1, vI x1), (2, vI x2), (3, vI x3)] [] h) (x1 : Int32) (x2 : Int32) (x3 : Int32) (h : g_Hp) (H : wX1_findOnList_b2_B ti Q R2 x1 x2 x3 h) : g_V G X iX1_findOnList 0 0 Q 2 0 0 [(0, vR 1 ti 0), (1, vI x1), (2, vI x2), (3, vI x3)] [] h := by
  refine s_iload_n (pc := 2) C dX1_findOnList_2 rfl 3 rfl ?_
  refine s_aload_n (pc := 3) C dX1_findOnList_3 rfl 0 rfl ?_
  refine s_geti (pc := 4) (s := 1) ckX1 (Or.inl rfl) (by decide) kw_168 (fun _ => rfl) C dX1_findOnList_4 ?_
  refine s_icmp_ge (pc := 7) (tgt := 44) C dX1_findOnList_7 (by decide) (fun c => ?_) (fun c => ?_)
  · have H := H.1 c
    refine s_iconst (pc := 44) C dX1_findOnList_44 (x := (-1 : Int32)) (by decide) ?_
    exact s_iret (pc := 45) rfl rfl ⟨by decide, by decide⟩ H C dX1_findOnList_45
  · have H := H.2 c
    refine s_aload_n (pc := 10) C dX1_findOnList_10 rfl 0 rfl ?_
    refine s_getr (pc := 11) (s := 0) (a := 11) (b := ti) (c' := 0) ckX1 (by decide) kw_166 rfl C dX1_findOnList_11 ?_
    refine s_iload_n (pc := 14) C dX1_findOnList_14 rfl 3 rfl ?_
    refine s_aald (pc := 15) (kk := 11) (by decide) (by decide) H.1 C dX1_findOnList_15 ?_
    have H := H.2
    show g_V _ _ _ _ _ _ _ _ _ _ (vR 2 ti (x3.toNatClampNeg) :: _) _
    refine s_nmj (fun j1 ej1 => ?_)
    have H := H j1 ej1
    refine s_astore (pc := 16) (ls' := [(4, vR 2 ti j1), (0, vR 1 ti 0), (1, vI x1), (2, vI x2), (3, vI x3)]) C dX1_findOnList_16 (by decide) rfl ?_
    refine s_aload (pc := 18) C dX1_findOnList_18 0 rfl ?_
    refine s_geti (pc := 20) (s := 9) ckX6 (Or.inl rfl) (by decide) kw_139 (fun _ => rfl) C dX1_findOnList_20 ?_
    refine s_iload_n (pc := 23) C dX1_findOnList_23 rfl 2 rfl ?_
    refine s_icmp_ne (pc := 24) (tgt := 38) C dX1_findOnList_24 (by decide) (fun c => ?_) (fun c => ?_)
    · have H := H.1 c
      exact s_sub (ls' := [(0, vR 1 ti 0), (1, vI x1), (2, vI x2), (3, vI x3)]) [1, 2, 3, 4] rfl (vX1_findOnList_b38 C ti R2 hR2 x1 x2 x3 h H)
    · have H := H.2 c
      refine s_aload (pc := 27) C dX1_findOnList_27 0 rfl ?_
      refine s_geti (pc := 29) (s := 10) ckX6 (Or.inl rfl) (by decide) kw_142 (fun _ => rfl) C dX1_findOnList_29 ?_
      refine s_iload_n (pc := 32) C dX1_findOnList_32 rfl 3 rfl ?_
      refine s_icmp_ne (pc := 33) (tgt := 38) C dX1_findOnList_33 (by decide) (fun c => ?_) (fun c => ?_)
      · have H := H.1 c
        exact s_sub (ls' := [(0, vR 1 ti 0), (1, vI x1), (2, vI x2), (3, vI x3)]) [1, 2, 3, 4] rfl (vX1_findOnList_b38 C ti R2 hR2 x1 x2 x3 h H)
      · have H := H.2 c
        refine s_iload_n (pc := 36) C dX1_findOnList_36 rfl 4 rfl ?_
        exact s_iret (pc := 37) rfl rfl ⟨by decide, by decide⟩ H C dX1_findOnList_37
theorem vX1_findOnList_b2 {G : g_G} {X : g_X} {Q : g_R → g_Hp → Prop} (C : g_Cx y_ G X iX1_findOnList) (ti : Nat) (x1 : Int32) (x2 : Int32) (x3 : Int32) (h : g_Hp) (H : wX1_findOnList_b2 ti Q x1 x2 x3 h) : g_V G X iX1_findOnList 0 0 Q 2 0 0 [(0, vR 1 ti 0), (1, vI x1), (2, vI x2), (3, vI x3)] [] h := by
  obtain ⟨n, H⟩ := H
  induction n generalizing x1 x2 x3 h with
  | zero => exact H.elim
  | succ n ih => exact vX1_findOnList_b2_B C ti _ (fun x1 x2 x3 h H => ih x1 x2 x3 h H) x1 x2 x3 h H
set_option maxRecDepth 100000 in
set_option maxHeartbeats 4000000 in
theorem vX1_findOnList {G : g_G} {X : g_X} {Q : g_R → g_Hp → Prop} (C : g_Cx y_ G X iX1_findOnList) (ti : Nat) (p0 : Int32) (p1 : Int32) (h : g_Hp) (H : wX1_findOnList ti p0 p1 h Q) : g_V G X iX1_findOnList 0 0 Q 0 0 0 [(0, vR 1 ti 0), (1, vI p0), (2, vI p1)] [] h := by
  refine s_iconst (pc := 0) C dX1_findOnList_0 (x := (0 : Int32)) (by decide) ?_
  refine s_istore_n (pc := 1) (ls' := [(3, vI (0 : Int32)), (0, vR 1 ti 0), (1, vI p0), (2, vI p1)]) C dX1_findOnList_1 rfl (by decide) rfl ?_
  exact s_sub (ls' := [(0, vR 1 ti 0), (1, vI p0), (2, vI p1), (3, vI (0 : Int32))]) [1, 2, 3, 0] rfl (vX1_findOnList_b2 C ti p0 p1 (0 : Int32) h H)
theorem ctX1_findOnList (l : Launch) (hl : l.stackTraces = false) {G : g_G} (ti : Nat) (p0 : Int32) (p1 : Int32) (h : g_Hp) (Q : g_R → g_Hp → Prop) (H : wX1_findOnList ti p0 p1 h Q) : g_Met l y_ G iX1_findOnList [vR 1 ti 0, vI p0, vI p1] h Q :=
  g_Met_of hl (by decide +kernel) rfl rfl (Nat.le_of_ble_eq_true rfl) (fun X C => vX1_findOnList C ti p0 p1 h H)
/-! X6_isAheadOf -/
abbrev iX6_isAheadOf : g_I := (RX6, yX6_isAheadOf, cX6_isAheadOf, 2, (some .boolean), [], { frames := 1, cells := 0, slots := 0, locals := 20 })
set_option maxRecDepth 100000 in
set_option maxHeartbeats 4000000 in
theorem vX6_isAheadOf_b27 {G : g_G} {X : g_X} {Q : g_R → g_Hp → Prop} (C : g_Cx y_ G X iX6_isAheadOf) (ti : Nat) (tj : Nat) (a0i : Nat) (a0j : Nat) (z0 : Int32) (h : g_Hp) (H : wX6_isAheadOf_b27 ti tj a0i a0j Q z0 h) : g_V G X iX6_isAheadOf 0 0 Q 27 0 0 [] [vI z0] h := by
  exact s_iret (pc := 27) rfl (g_nz H.1) ⟨by decide, by decide⟩ H.2 C dX6_isAheadOf_27
set_option maxRecDepth 100000 in
set_option maxHeartbeats 4000000 in
theorem vX6_isAheadOf_b44 {G : g_G} {X : g_X} {Q : g_R → g_Hp → Prop} (C : g_Cx y_ G X iX6_isAheadOf) (ti : Nat) (tj : Nat) (a0i : Nat) (a0j : Nat) (z0 : Int32) (h : g_Hp) (H : wX6_isAheadOf_b44 ti tj a0i a0j Q z0 h) : g_V G X iX6_isAheadOf 0 0 Q 44 0 0 [] [vI z0] h := by
  exact s_iret (pc := 44) rfl (g_nz H.1) ⟨by decide, by decide⟩ H.2 C dX6_isAheadOf_44
set_option maxRecDepth 100000 in
set_option maxHeartbeats 4000000 in
theorem vX6_isAheadOf {G : g_G} {X : g_X} {Q : g_R → g_Hp → Prop} (C : g_Cx y_ G X iX6_isAheadOf) (ti : Nat) (tj : Nat) (a0i : Nat) (a0j : Nat) (h : g_Hp) (H : wX6_isAheadOf ti tj a0i a0j h Q) : g_V G X iX6_isAheadOf 0 0 Q 0 0 0 [(0, vR 2 ti tj), (1, vR 2 a0i a0j)] [] h := by
  refine s_aload_n (pc := 0) C dX6_isAheadOf_0 rfl 0 rfl ?_
  refine s_geti (pc := 1) (s := 3) ckX6 (Or.inl rfl) (by decide) kw_121 (fun _ => rfl) C dX6_isAheadOf_1 ?_
  refine s_aload_n (pc := 4) C dX6_isAheadOf_4 rfl 1 rfl ?_
  refine s_geti (pc := 5) (s := 3) ckX6 (Or.inl rfl) (by decide) kw_121 (fun _ => rfl) C dX6_isAheadOf_5 ?_
  refine s_icmp_eq (pc := 8) (tgt := 28) C dX6_isAheadOf_8 (by decide) (fun c => ?_) (fun c => ?_)
  · have H := H.1 c
    refine s_aload_n (pc := 28) C dX6_isAheadOf_28 rfl 0 rfl ?_
    refine s_geti (pc := 29) (s := 5) ckX6 (Or.inl rfl) (by decide) kw_127 (fun _ => rfl) C dX6_isAheadOf_29 ?_
    refine s_aload_n (pc := 32) C dX6_isAheadOf_32 rfl 1 rfl ?_
    refine s_geti (pc := 33) (s := 5) ckX6 (Or.inl rfl) (by decide) kw_127 (fun _ => rfl) C dX6_isAheadOf_33 ?_
    refine s_icmp_gt (pc := 36) (tgt := 43) C dX6_isAheadOf_36 (by decide) (fun c => ?_) (fun c => ?_)
    · have H := H.1 c
      refine s_iconst (pc := 43) C dX6_isAheadOf_43 (x := (0 : Int32)) (by decide) ?_
      exact s_sub (ls' := []) [] rfl (vX6_isAheadOf_b44 C ti tj a0i a0j (0 : Int32) h H)
    · have H := H.2 c
      refine s_iconst (pc := 39) C dX6_isAheadOf_39 (x := (1 : Int32)) (by decide) ?_
      refine s_goto (pc := 40) (tgt := 44) C dX6_isAheadOf_40 (by decide) ?_
      exact s_sub (ls' := []) [] rfl (vX6_isAheadOf_b44 C ti tj a0i a0j (1 : Int32) h H)
  · have H := H.2 c
    refine s_aload_n (pc := 11) C dX6_isAheadOf_11 rfl 0 rfl ?_
    refine s_geti (pc := 12) (s := 3) ckX6 (Or.inl rfl) (by decide) kw_121 (fun _ => rfl) C dX6_isAheadOf_12 ?_
    refine s_aload_n (pc := 15) C dX6_isAheadOf_15 rfl 1 rfl ?_
    refine s_geti (pc := 16) (s := 3) ckX6 (Or.inl rfl) (by decide) kw_121 (fun _ => rfl) C dX6_isAheadOf_16 ?_
    refine s_icmp_le (pc := 19) (tgt := 26) C dX6_isAheadOf_19 (by decide) (fun c => ?_) (fun c => ?_)
    · have H := H.1 c
      refine s_iconst (pc := 26) C dX6_isAheadOf_26 (x := (0 : Int32)) (by decide) ?_
      exact s_sub (ls' := []) [] rfl (vX6_isAheadOf_b27 C ti tj a0i a0j (0 : Int32) h H)
    · have H := H.2 c
      refine s_iconst (pc := 22) C dX6_isAheadOf_22 (x := (1 : Int32)) (by decide) ?_
      refine s_goto (pc := 23) (tgt := 27) C dX6_isAheadOf_23 (by decide) ?_
      exact s_sub (ls' := []) [] rfl (vX6_isAheadOf_b27 C ti tj a0i a0j (1 : Int32) h H)
theorem ctX6_isAheadOf (l : Launch) (hl : l.stackTraces = false) {G : g_G} (ti : Nat) (tj : Nat) (a0i : Nat) (a0j : Nat) (h : g_Hp) (Q : g_R → g_Hp → Prop) (H : wX6_isAheadOf ti tj a0i a0j h Q) : g_Met l y_ G iX6_isAheadOf [vR 2 ti tj, vR 2 a0i a0j] h Q :=
  g_Met_of hl (by decide +kernel) rfl rfl (Nat.le_of_ble_eq_true rfl) (fun X C => vX6_isAheadOf C ti tj a0i a0j h H)
/-! X1_rankOf -/
abbrev iX1_rankOf : g_I := (RX1, yX1_rankOf, cX1_rankOf, 4, (some .int), [], { frames := 2, cells := 0, slots := 0, locals := 41 })
set_option maxRecDepth 100000 in
set_option maxHeartbeats 4000000 in
theorem vX1_rankOf_b61 {G : g_G} {X : g_X} {Q : g_R → g_Hp → Prop} (C : g_Cx y_ G X iX1_rankOf) (ti : Nat) (R4 : Int32 → Int32 → Int32 → g_Hp → Prop) (hR4 : ∀ (x1 : Int32) (x2 : Int32) (x3 : Int32) (h : g_Hp), R4 x1 x2 x3 h → g_V G X iX1_rankOf 0 0 Q 4 0 0 [(0, vR 1 ti 0), (1, vI x1), (2, vI x2), (3, vI x3)] [] h) (x1 : Int32) (x2 : Int32) (x3 : Int32) (h : g_Hp) (H : wX1_rankOf_b61 ti Q R4 x1 x2 x3 h) : g_V G X iX1_rankOf 0 0 Q 61 0 0 [(0, vR 1 ti 0), (1, vI x1), (2, vI x2), (3, vI x3)] [] h := by
  refine s_iincN (pc := 61) C dX1_rankOf_61 3 rfl (z' := (1 : Int32)) (by decide) (by decide) (fun y1 ey1 => ?_)
  have H := H y1 ey1
  show g_V _ _ _ _ _ _ _ _ _ [(3, vI y1), (0, vR 1 ti 0), (1, vI x1), (2, vI x2)] _ _
  refine s_goto (pc := 64) (tgt := 4) C dX1_rankOf_64 (by decide) ?_
  exact s_sub (ls' := [(0, vR 1 ti 0), (1, vI x1), (2, vI x2), (3, vI y1)]) [1, 2, 3, 0] rfl (hR4 x1 x2 y1 h H)
set_option maxRecDepth 100000 in
set_option maxHeartbeats 4000000 in
theorem vX1_rankOf_b58 {G : g_G} {X : g_X} {Q : g_R → g_Hp → Prop} (C : g_Cx y_ G X iX1_rankOf) (ti : Nat) (R4 : Int32 → Int32 → Int32 → g_Hp → Prop) (hR4 : ∀ (x1 : Int32) (x2 : Int32) (x3 : Int32) (h : g_Hp), R4 x1 x2 x3 h → g_V G X iX1_rankOf 0 0 Q 4 0 0 [(0, vR 1 ti 0), (1, vI x1), (2, vI x2), (3, vI x3)] [] h) (x1 : Int32) (x2 : Int32) (x3 : Int32) (h : g_Hp) (H : wX1_rankOf_b58 ti Q R4 x1 x2 x3 h) : g_V G X iX1_rankOf 0 0 Q 58 0 0 [(0, vR 1 ti 0), (1, vI x1), (2, vI x2), (3, vI x3)] [] h := by
  refine s_iincN (pc := 58) C dX1_rankOf_58 2 rfl (z' := (1 : Int32)) (by decide) (by decide) (fun y1 ey1 => ?_)
  have H := H y1 ey1
  show g_V _ _ _ _ _ _ _ _ _ [(2, vI y1), (0, vR 1 ti 0), (1, vI x1), (3, vI x3)] _ _
  exact s_sub (ls' := [(0, vR 1 ti 0), (1, vI x1), (2, vI y1), (3, vI x3)]) [1, 2, 0, 3] rfl (vX1_rankOf_b61 C ti R4 hR4 x1 y1 x3 h H)
set_option maxRecDepth 100000 in
set_option maxHeartbeats 4000000 in
theorem vX1_rankOf_b35 {G : g_G} {X : g_X} {Q : g_R → g_Hp → Prop} (C : g_Cx y_ G X iX1_rankOf) (ti : Nat) (R4 : Int32 → Int32 → Int32 → g_Hp → Prop) (hR4 : ∀ (x1 : Int32) (x2 : Int32) (x3 : Int32) (h : g_Hp), R4 x1 x2 x3 h → g_V G X iX1_rankOf 0 0 Q 4 0 0 [(0, vR 1 ti 0), (1, vI x1), (2, vI x2), (3, vI x3)] [] h) (x1 : Int32) (x2 : Int32) (x3 : Int32) (h : g_Hp) (H : wX1_rankOf_b35 ti Q R4 x1 x2 x3 h) : g_V G X iX1_rankOf 0 0 Q 35 0 0 [(0, vR 1 ti 0), (1, vI x1), (2, vI x2), (3, vI x3)] [] h := by
  refine s_iload_n (pc := 35) C dX1_rankOf_35 rfl 3 rfl ?_
  refine s_iload_n (pc := 36) C dX1_rankOf_36 rfl 1 rfl ?_
  refine s_icmp_le (pc := 37) (tgt := 61) C dX1_rankOf_37 (by decide) (fun c => ?_) (fun c => ?_)
  · have H := H.1 c
    exact s_sub (ls' := [(0, vR 1 ti 0), (1, vI x1), (2, vI x2), (3, vI x3)]) [0, 1, 2, 3] rfl (vX1_rankOf_b61 C ti R4 hR4 x1 x2 x3 h H)
  · have H := H.2 c
    refine s_aload_n (pc := 40) C dX1_rankOf_40 rfl 0 rfl ?_
    refine s_getr (pc := 41) (s := 0) (a := 11) (b := ti) (c' := 0) ckX1 (by decide) kw_166 rfl C dX1_rankOf_41 ?_
    refine s_iload_n (pc := 44) C dX1_rankOf_44 rfl 1 rfl ?_
    refine s_aald (pc := 45) (kk := 11) (by decide) (by decide) H.1 C dX1_rankOf_45 ?_
    have H := H.2
    show g_V _ _ _ _ _ _ _ _ _ _ (vR 2 ti (x1.toNatClampNeg) :: _) _
    refine s_nmj (fun j1 ej1 => ?_)
    have H := H j1 ej1
    refine s_aload_n (pc := 46) C dX1_rankOf_46 rfl 0 rfl ?_
    refine s_getr (pc := 47) (s := 0) (a := 11) (b := ti) (c' := 0) ckX1 (by decide) kw_166 rfl C dX1_rankOf_47 ?_
    refine s_iload_n (pc := 50) C dX1_rankOf_50 rfl 3 rfl ?_
    refine s_aald (pc := 51) (kk := 11) (by decide) (by decide) H.1 C dX1_rankOf_51 ?_
    have H := H.2
    show g_V _ _ _ _ _ _ _ _ _ _ (vR 2 ti (x3.toNatClampNeg) :: _) _
    refine s_nmj (fun j2 ej2 => ?_)
    have H := H j2 ej2
    refine s_callv (pc := 52) (nA := 1) (as := [vR 2 ti j2]) (st := []) (stk := [vR 2 ti j2, vR 2 ti j1]) ckX6 (Or.inl rfl) C (fun l hl => ctX6_isAheadOf l hl ti j1 ti j2 _ _ H) ⟨⟨kw_776, kw_60, kw_779⟩, rfl, ⟨by decide, by decide, by decide +kernel⟩, by decide, by decide⟩ kw_777 (g_selW kw_778) rfl (Nat.le_of_ble_eq_true rfl) ⟨by decide, by decide⟩ rfl dX1_rankOf_52 (g_Kq_I (fun u4 h3 H => ?_) (fun E h3 H => s_prop rfl ⟨by decide, by decide⟩ H C))
    refine s_if_ne (pc := 55) (tgt := 61) C dX1_rankOf_55 (by decide) (fun c => ?_) (fun c => ?_)
    · have H := H.1 c
      exact s_sub (ls' := [(0, vR 1 ti 0), (1, vI x1), (2, vI x2), (3, vI x3)]) [0, 1, 2, 3] rfl (vX1_rankOf_b61 C ti R4 hR4 x1 x2 x3 h3 H)
    · have H := H.2 c
      exact s_sub (ls' := [(0, vR 1 ti 0), (1, vI x1), (2, vI x2), (3, vI x3)]) [0, 1, 2, 3] rfl (vX1_rankOf_b58 C ti R4 hR4 x1 x2 x3 h3 H)
set_option maxRecDepth 100000 in
set_option maxHeartbeats 4000000 in
theorem vX1_rankOf_b4_B {G : g_G} {X : g_X} {Q : g_R → g_Hp → Prop} (C : g_Cx y_ G X iX1_rankOf) (ti : Nat) (R4 : Int32 → Int32 → Int32 → g_Hp → Prop) (hR4 : ∀ (x1 : Int32) (x2 : Int32) (x3 : Int32) (h : g_Hp), R4 x1 x2 x3 h → g_V G X iX1_rankOf 0 0 Q 4 0 0 [(0, vR 1 ti 0), (1, vI x1), (2, vI x2), (3, vI x3)] [] h) (x1 : Int32) (x2 : Int32) (x3 : Int32) (h : g_Hp) (H : wX1_rankOf_b4_B ti Q R4 x1 x2 x3 h) : g_V G X iX1_rankOf 0 0 Q 4 0 0 [(0, vR 1 ti 0), (1, vI x1), (2, vI x2), (3, vI x3)] [] h := by
  refine s_iload_n (pc := 4) C dX1_rankOf_4 rfl 3 rfl ?_
  refine s_aload_n (pc := 5) C dX1_rankOf_5 rfl 0 rfl ?_
  refine s_geti (pc := 6) (s := 1) ckX1 (Or.inl rfl) (by decide) kw_168 (fun _ => rfl) C dX1_rankOf_6 ?_
  refine s_icmp_ge (pc := 9) (tgt := 67) C dX1_rankOf_9 (by decide) (fun c => ?_) (fun c => ?_)
  · have H := H.1 c
    refine s_iload_n (pc := 67) C dX1_rankOf_67 rfl 2 rfl ?_
    exact s_iret (pc := 68) rfl rfl ⟨by decide, by decide⟩ H C dX1_rankOf_68
  · have H := H.2 c
    refine s_iload_n (pc := 12) C dX1_rankOf_12 rfl 3 rfl ?_
    refine s_iload_n (pc := 13) C dX1_rankOf_13 rfl 1 rfl ?_
    refine s_icmp_ge (pc := 14) (tgt := 35) C dX1_rankOf_14 (by decide) (fun c => ?_) (fun c => ?_)
    · have H := H.1 c
      exact s_sub (ls' := [(0, vR 1 ti 0), (1, vI x1), (2, vI x2), (3, vI x3)]) [0, 1, 2, 3] rfl (vX1_rankOf_b35 C ti R4 hR4 x1 x2 x3 h H)
    · have H := H.2 c
      refine s_aload_n (pc := 17) C dX1_rankOf_17 rfl 0 rfl ?_
      refine s_getr (pc := 18) (s := 0) (a := 11) (b := ti) (c' := 0) ckX1 (by decide) kw_166 rfl C dX1_rankOf_18 ?_
      refine s_iload_n (pc := 21) C dX1_rankOf_21 rfl 3 rfl ?_
      refine s_aald (pc := 22) (kk := 11) (by decide) (by decide) H.1 C dX1_rankOf_22 ?_
      have H := H.2
      show g_V _ _ _ _ _ _ _ _ _ _ (vR 2 ti (x3.toNatClampNeg) :: _) _
      refine s_nmj (fun j1 ej1 => ?_)
      have H := H j1 ej1
      refine s_aload_n (pc := 23) C dX1_rankOf_23 rfl 0 rfl ?_
      refine s_getr (pc := 24) (s := 0) (a := 11) (b := ti) (c' := 0) ckX1 (by decide) kw_166 rfl C dX1_rankOf_24 ?_
      refine s_iload_n (pc := 27) C dX1_rankOf_27 rfl 1 rfl ?_
      refine s_aald (pc := 28) (kk := 11) (by decide) (by decide) H.1 C dX1_rankOf_28 ?_
      have H := H.2
      show g_V _ _ _ _ _ _ _ _ _ _ (vR 2 ti (x1.toNatClampNeg) :: _) _
      refine s_nmj (fun j2 ej2 => ?_)
      have H := H j2 ej2
      refine s_callv (pc := 29) (nA := 1) (as := [vR 2 ti j2]) (st := []) (stk := [vR 2 ti j2, vR 2 ti j1]) ckX6 (Or.inl rfl) C (fun l hl => ctX6_isAheadOf l hl ti j1 ti j2 _ _ H) ⟨⟨kw_776, kw_60, kw_779⟩, rfl, ⟨by decide, by decide, by decide +kernel⟩, by decide, by decide⟩ kw_777 (g_selW kw_778) rfl (Nat.le_of_ble_eq_true rfl) ⟨by decide, by decide⟩ rfl dX1_rankOf_29 (g_Kq_I (fun u4 h3 H => ?_) (fun E h3 H => s_prop rfl ⟨by decide, by decide⟩ H C))
      refine s_if_ne (pc := 32) (tgt := 58) C dX1_rankOf_32 (by decide) (fun c => ?_) (fun c => ?_)
      · have H := H.1 c
        exact s_sub (ls' := [(0, vR 1 ti 0), (1, vI x1), (2, vI x2), (3, vI x3)]) [0, 1, 2, 3] rfl (vX1_rankOf_b58 C ti R4 hR4 x1 x2 x3 h3 H)
      · have H := H.2 c
        exact s_sub (ls' := [(0, vR 1 ti 0), (1, vI x1), (2, vI x2), (3, vI x3)]) [0, 1, 2, 3] rfl (vX1_rankOf_b35 C ti R4 hR4 x1 x2 x3 h3 H)
theorem vX1_rankOf_b4 {G : g_G} {X : g_X} {Q : g_R → g_Hp → Prop} (C : g_Cx y_ G X iX1_rankOf) (ti : Nat) (x1 : Int32) (x2 : Int32) (x3 : Int32) (h : g_Hp) (H : wX1_rankOf_b4 ti Q x1 x2 x3 h) : g_V G X iX1_rankOf 0 0 Q 4 0 0 [(0, vR 1 ti 0), (1, vI x1), (2, vI x2), (3, vI x3)] [] h := by
  obtain ⟨n, H⟩ := H
  induction n generalizing x1 x2 x3 h with
  | zero => exact H.elim
  | succ n ih => exact vX1_rankOf_b4_B C ti _ (fun x1 x2 x3 h H => ih x1 x2 x3 h H) x1 x2 x3 h H
set_option maxRecDepth 100000 in
set_option maxHeartbeats 4000000 in
theorem vX1_rankOf {G : g_G} {X : g_X} {Q : g_R → g_Hp → Prop} (C : g_Cx y_ G X iX1_rankOf) (ti : Nat) (p0 : Int32) (h : g_Hp) (H : wX1_rankOf ti p0 h Q) : g_V G X iX1_rankOf 0 0 Q 0 0 0 [(0, vR 1 ti 0), (1, vI p0)] [] h := by
  refine s_iconst (pc := 0) C dX1_rankOf_0 (x := (0 : Int32)) (by decide) ?_
  refine s_istore_n (pc := 1) (ls' := [(2, vI (0 : Int32)), (0, vR 1 ti 0), (1, vI p0)]) C dX1_rankOf_1 rfl (by decide) rfl ?_
  refine s_iconst (pc := 2) C dX1_rankOf_2 (x := (0 : Int32)) (by decide) ?_
  refine s_istore_n (pc := 3) (ls' := [(3, vI (0 : Int32)), (2, vI (0 : Int32)), (0, vR 1 ti 0), (1, vI p0)]) C dX1_rankOf_3 rfl (by decide) rfl ?_
  exact s_sub (ls' := [(0, vR 1 ti 0), (1, vI p0), (2, vI (0 : Int32)), (3, vI (0 : Int32))]) [2, 3, 1, 0] rfl (vX1_rankOf_b4 C ti p0 (0 : Int32) (0 : Int32) h H)
theorem ctX1_rankOf (l : Launch) (hl : l.stackTraces = false) {G : g_G} (ti : Nat) (p0 : Int32) (h : g_Hp) (Q : g_R → g_Hp → Prop) (H : wX1_rankOf ti p0 h Q) : g_Met l y_ G iX1_rankOf [vR 1 ti 0, vI p0] h Q :=
  g_Met_of hl (by decide +kernel) rfl rfl (Nat.le_of_ble_eq_true rfl) (fun X C => vX1_rankOf C ti p0 h H)
/-! X1_findRank -/
abbrev iX1_findRank : g_I := (RX1, yX1_findRank, cX1_findRank, 3, (some .int), [], { frames := 3, cells := 0, slots := 0, locals := 64 })
set_option maxRecDepth 100000 in
set_option maxHeartbeats 4000000 in
theorem vX1_findRank_b2_B {G : g_G} {X : g_X} {Q : g_R → g_Hp → Prop} (C : g_Cx y_ G X iX1_findRank) (ti : Nat) (R2 : Int32 → Int32 → g_Hp → Prop) (hR2 : ∀ (x1 : Int32) (x2 : Int32) (h : g_Hp), R2 x1 x2 h → g_V G X iX1_findRank 0 0 Q 2 0 0 [(0, vR 1 ti 0), (1, vI x1), (2, vI x2)] [] h) (x1 : Int32) (x2 : Int32) (h : g_Hp) (H : wX1_findRank_b2_B ti Q R2 x1 x2 h) : g_V G X iX1_findRank 0 0 Q 2 0 0 [(0, vR 1 ti 0), (1, vI x1), (2, vI x2)] [] h := by
  refine s_iload_n (pc := 2) C dX1_findRank_2 rfl 2 rfl ?_
  refine s_aload_n (pc := 3) C dX1_findRank_3 rfl 0 rfl ?_
  refine s_geti (pc := 4) (s := 1) ckX1 (Or.inl rfl) (by decide) kw_168 (fun _ => rfl) C dX1_findRank_4 ?_
  refine s_icmp_ge (pc := 7) (tgt := 27) C dX1_findRank_7 (by decide) (fun c => ?_) (fun c => ?_)
  · have H := H.1 c
    refine s_iconst (pc := 27) C dX1_findRank_27 (x := (-1 : Int32)) (by decide) ?_
    exact s_iret (pc := 28) rfl rfl ⟨by decide, by decide⟩ H C dX1_findRank_28
  · have H := H.2 c
    refine s_aload_n (pc := 10) C dX1_findRank_10 rfl 0 rfl ?_
    refine s_iload_n (pc := 11) C dX1_findRank_11 rfl 2 rfl ?_
    refine s_callv (pc := 12) (nA := 1) (as := [vI x2]) (st := []) (stk := [vI x2, vR 1 ti 0]) ckX1 (Or.inl rfl) C (fun l hl => ctX1_rankOf l hl ti x2 _ _ H) ⟨⟨kw_772, kw_59, kw_775⟩, rfl, ⟨by decide, by decide, by decide +kernel⟩, by decide, by decide⟩ kw_774 (g_selW kw_5) rfl (Nat.le_of_ble_eq_true rfl) ⟨by decide, by decide⟩ rfl dX1_findRank_12 (g_Kq_I (fun u2 h1 H => ?_) (fun E h1 H => s_prop rfl ⟨by decide, by decide⟩ H C))
    refine s_iload_n (pc := 15) C dX1_findRank_15 rfl 1 rfl ?_
    refine s_icmp_ne (pc := 16) (tgt := 21) C dX1_findRank_16 (by decide) (fun c => ?_) (fun c => ?_)
    · have H := H.1 c
      refine s_iincN (pc := 21) C dX1_findRank_21 2 rfl (z' := (1 : Int32)) (by decide) (by decide) (fun y3 ey3 => ?_)
      have H := H y3 ey3
      show g_V _ _ _ _ _ _ _ _ _ [(2, vI y3), (0, vR 1 ti 0), (1, vI x1)] _ _
      refine s_goto (pc := 24) (tgt := 2) C dX1_findRank_24 (by decide) ?_
      exact s_sub (ls' := [(0, vR 1 ti 0), (1, vI x1), (2, vI y3)]) [1, 2, 0] rfl (hR2 x1 y3 h1 H)
    · have H := H.2 c
      refine s_iload_n (pc := 19) C dX1_findRank_19 rfl 2 rfl ?_
      exact s_iret (pc := 20) rfl rfl ⟨by decide, by decide⟩ H C dX1_findRank_20
theorem vX1_findRank_b2 {G : g_G} {X : g_X} {Q : g_R → g_Hp → Prop} (C : g_Cx y_ G X iX1_findRank) (ti : Nat) (x1 : Int32) (x2 : Int32) (h : g_Hp) (H : wX1_findRank_b2 ti Q x1 x2 h) : g_V G X iX1_findRank 0 0 Q 2 0 0 [(0, vR 1 ti 0), (1, vI x1), (2, vI x2)] [] h := by
  obtain ⟨n, H⟩ := H
  induction n generalizing x1 x2 h with
  | zero => exact H.elim
  | succ n ih => exact vX1_findRank_b2_B C ti _ (fun x1 x2 h H => ih x1 x2 h H) x1 x2 h H
set_option maxRecDepth 100000 in
set_option maxHeartbeats 4000000 in
theorem vX1_findRank {G : g_G} {X : g_X} {Q : g_R → g_Hp → Prop} (C : g_Cx y_ G X iX1_findRank) (ti : Nat) (p0 : Int32) (h : g_Hp) (H : wX1_findRank ti p0 h Q) : g_V G X iX1_findRank 0 0 Q 0 0 0 [(0, vR 1 ti 0), (1, vI p0)] [] h := by
  refine s_iconst (pc := 0) C dX1_findRank_0 (x := (0 : Int32)) (by decide) ?_
  refine s_istore_n (pc := 1) (ls' := [(2, vI (0 : Int32)), (0, vR 1 ti 0), (1, vI p0)]) C dX1_findRank_1 rfl (by decide) rfl ?_
  exact s_sub (ls' := [(0, vR 1 ti 0), (1, vI p0), (2, vI (0 : Int32))]) [1, 2, 0] rfl (vX1_findRank_b2 C ti p0 (0 : Int32) h H)
theorem ctX1_findRank (l : Launch) (hl : l.stackTraces = false) {G : g_G} (ti : Nat) (p0 : Int32) (h : g_Hp) (Q : g_R → g_Hp → Prop) (H : wX1_findRank ti p0 h Q) : g_Met l y_ G iX1_findRank [vR 1 ti 0, vI p0] h Q :=
  g_Met_of hl (by decide +kernel) rfl rfl (Nat.le_of_ble_eq_true rfl) (fun X C => vX1_findRank C ti p0 h H)
/-! X1_divideFund -/
abbrev iX1_divideFund : g_I := (RX1, yX1_divideFund, cX1_divideFund, 1, (some .int), [], { frames := 1, cells := 0, slots := 0, locals := 20 })
set_option maxRecDepth 100000 in
set_option maxHeartbeats 4000000 in
theorem vX1_divideFund_b22 {G : g_G} {X : g_X} {Q : g_R → g_Hp → Prop} (C : g_Cx y_ G X iX1_divideFund) (ti : Nat) (z0 : Int32) (h : g_Hp) (H : wX1_divideFund_b22 ti Q z0 h) : g_V G X iX1_divideFund 0 0 Q 22 0 0 [] [vI z0] h := by
  exact s_iret (pc := 22) rfl rfl ⟨by decide, by decide⟩ H C dX1_divideFund_22
set_option maxRecDepth 100000 in
set_option maxHeartbeats 4000000 in
theorem vX1_divideFund {G : g_G} {X : g_X} {Q : g_R → g_Hp → Prop} (C : g_Cx y_ G X iX1_divideFund) (ti : Nat) (h : g_Hp) (H : wX1_divideFund ti h Q) : g_V G X iX1_divideFund 0 0 Q 0 0 0 [(0, vR 1 ti 0)] [] h := by
  refine s_aload_n (pc := 0) C dX1_divideFund_0 rfl 0 rfl ?_
  refine s_geti (pc := 1) (s := 1) ckX1 (Or.inl rfl) (by decide) kw_168 (fun _ => rfl) C dX1_divideFund_1 ?_
  refine s_if_ne (pc := 4) (tgt := 11) C dX1_divideFund_4 (by decide) (fun c => ?_) (fun c => ?_)
  · have H := H.1 c
    refine s_aload_n (pc := 11) C dX1_divideFund_11 rfl 0 rfl ?_
    refine s_geti (pc := 12) (s := 9) ckX1 (Or.inl rfl) (by decide) kw_183 (fun _ => rfl) C dX1_divideFund_12 ?_
    refine s_iconst (pc := 15) C dX1_divideFund_15 (x := (2 : Int32)) (by decide) ?_
    refine s_aload_n (pc := 16) C dX1_divideFund_16 rfl 0 rfl ?_
    refine s_geti (pc := 17) (s := 1) ckX1 (Or.inl rfl) (by decide) kw_168 (fun _ => rfl) C dX1_divideFund_17 ?_
    refine s_imul (pc := 20) C dX1_divideFund_20 ?_
    refine s_idiv (pc := 21) C dX1_divideFund_21 H.1 ?_
    have H := H.2
    exact s_sub (ls' := []) [] rfl (vX1_divideFund_b22 C ti ((h 1 ti 0 10) / ((2 : Int32) * (h 1 ti 0 2))) h H)
  · have H := H.2 c
    refine s_iconst (pc := 7) C dX1_divideFund_7 (x := (0 : Int32)) (by decide) ?_
    refine s_goto (pc := 8) (tgt := 22) C dX1_divideFund_8 (by decide) ?_
    exact s_sub (ls' := []) [] rfl (vX1_divideFund_b22 C ti (0 : Int32) h H)
theorem ctX1_divideFund (l : Launch) (hl : l.stackTraces = false) {G : g_G} (ti : Nat) (h : g_Hp) (Q : g_R → g_Hp → Prop) (H : wX1_divideFund ti h Q) : g_Met l y_ G iX1_divideFund [vR 1 ti 0] h Q :=
  g_Met_of hl (by decide +kernel) rfl rfl (Nat.le_of_ble_eq_true rfl) (fun X C => vX1_divideFund C ti h H)
