/-! the law: cases -/
set_option maxRecDepth 100000 in
set_option maxHeartbeats 4000000 in
theorem vL_law_b1283 {G : g_G} {X : g_X} {Q : g_R → g_Hp → Prop} {a0 L : Nat} {xs : Nat → Int32} (C : g_Cx y_ G X iL_law) (hs : g_Scr G X a0 L xs) {k n : Nat} (hk : k + 26 ≤ 603072 ∧ n + 1956 ≤ 7202922) (R28 : Int32 → g_Hp → Prop) (hR28 : ∀ (x5 : Int32) (h : g_Hp), R28 x5 h → g_V G X iL_law 603072 7202922 Q 28 (k + 26) (n + 1956) [(0, vV (.ref a0)), (1, vR 0 0 0), (2, vR 5 0 0), (3, vR 15 0 0), (4, vR 16 0 0), (5, vI x5)] [] h) (x5 : Int32) (x6 : Int32) (z0 : Int32) (z1 : Int32) (h : g_Hp) (H : wL_law_b1283 a0 L xs Q R28 x5 x6 z0 z1 h) : g_V G X iL_law 603072 7202922 Q 1283 (k + 1) (n + 6) [(0, vV (.ref a0)), (1, vR 0 0 0), (2, vR 5 0 0), (3, vR 15 0 0), (4, vR 16 0 0), (5, vI x5), (6, vI x6)] [vI z0, vI z1, vR 5 0 0] h := by
  refine s_callv (pc := 1283) (nA := 2) (as := [vI z1, vI z0]) (st := []) (stk := [vI z0, vI z1, vR 5 0 0]) ckX8 (Or.inl rfl) C (fun l hl => ctX8_vote l hl z1 z0 _ _ H) ⟨⟨kw_1716, kw_69, kw_1719⟩, rfl, ⟨by decide, by decide, by decide +kernel⟩, by decide, by decide⟩ kw_1717 (g_selW kw_1718) rfl (Nat.le_of_ble_eq_true rfl) ⟨rm_le hk.1 (by decide), rm_le hk.2 (by decide)⟩ rfl dL_law_1283 (g_Kq_I (fun u2 h1 H => ?_) (fun E h1 H => H.elim))
  refine s_at (k' := k + 1) (n' := n + 6) (Nat.add_assoc k 1 0) (Nat.add_assoc n 6 0) ?_
  refine s_istore (pc := 1286) (ls' := [(7, vI u2), (0, vV (.ref a0)), (1, vR 0 0 0), (2, vR 5 0 0), (3, vR 15 0 0), (4, vR 16 0 0), (5, vI x5), (6, vI x6)]) C dL_law_1286 (by decide) rfl ?_
  refine s_aload_n (pc := 1288) C dL_law_1288 rfl 3 rfl ?_
  refine s_callv (pc := 1289) (nA := 0) (as := []) (st := []) (stk := [vR 5 0 0]) ckX8 (Or.inl rfl) C (fun l hl => ctX8_thrown l hl _ _ H) ⟨⟨kw_1567, kw_69, kw_1570⟩, rfl, ⟨by decide, by decide, by decide +kernel⟩, by decide, by decide⟩ kw_1568 (g_selW kw_1569) rfl (Nat.le_of_ble_eq_true rfl) ⟨rm_le hk.1 (by decide), rm_le hk.2 (by decide)⟩ rfl dL_law_1289 (g_Kq_I (fun u4 h3 H => ?_) (fun E h3 H => H.elim))
  refine s_at (k' := k + 1) (n' := n + 6) (Nat.add_assoc k 1 0) (Nat.add_assoc n 6 0) ?_
  refine s_iload (pc := 1292) C dL_law_1292 7 rfl ?_
  refine s_icmp_eq (pc := 1294) (tgt := 1299) C dL_law_1294 (by decide) (fun c => ?_) (fun c => ?_)
  · have H := H.1 c
    refine s_iload (pc := 1299) C dL_law_1299 7 rfl ?_
    refine s_if_ne (pc := 1301) (tgt := 1316) C dL_law_1301 (by decide) (fun c => ?_) (fun c => ?_)
    · have H := H.1 c
      exact s_sub (ls' := [(0, vV (.ref a0)), (1, vR 0 0 0), (2, vR 5 0 0), (3, vR 15 0 0), (4, vR 16 0 0), (5, vI x5)]) [1, 2, 3, 4, 5, 6] rfl (vL_law_b1316 C hs hk R28 hR28 x5 h3 H)
    · have H := H.2 c
      refine s_aload_n (pc := 1304) C dL_law_1304 rfl 4 rfl ?_
      refine s_iconst (pc := 1305) C dL_law_1305 (x := (0 : Int32)) (by decide) ?_
      refine s_lald0 (pc := 1306) C dL_law_1306 ?_
      refine s_iload (pc := 1307) C dL_law_1307 0 rfl ?_
      refine s_i2l (pc := 1309) C dL_law_1309 ?_
      refine s_lcmp (pc := 1310) C dL_law_1310 ?_
      refine s_if_eq (pc := 1311) (tgt := 1316) C dL_law_1311 (by decide) (fun c => ?_) (fun c => ?_)
      · have H := H.1 c
        exact s_sub (ls' := [(0, vV (.ref a0)), (1, vR 0 0 0), (2, vR 5 0 0), (3, vR 15 0 0), (4, vR 16 0 0), (5, vI x5)]) [1, 2, 3, 4, 5, 6] rfl (vL_law_b1316 C hs hk R28 hR28 x5 h3 H)
      · have H := H.2 c
        refine s_iconst (pc := 1314) C dL_law_1314 (x := (0 : Int32)) (by decide) ?_
        exact s_iret (pc := 1315) rfl (by decide) ⟨rm_l1 hk.1 (by decide), rm_l1 hk.2 (by decide)⟩ H C dL_law_1315
  · have H := H.2 c
    refine s_iconst (pc := 1297) C dL_law_1297 (x := (0 : Int32)) (by decide) ?_
    exact s_iret (pc := 1298) rfl (by decide) ⟨rm_l1 hk.1 (by decide), rm_l1 hk.2 (by decide)⟩ H C dL_law_1298
set_option maxRecDepth 100000 in
set_option maxHeartbeats 4000000 in
theorem vL_law_b1256 {G : g_G} {X : g_X} {Q : g_R → g_Hp → Prop} {a0 L : Nat} {xs : Nat → Int32} (C : g_Cx y_ G X iL_law) (hs : g_Scr G X a0 L xs) {k n : Nat} (hk : k + 26 ≤ 603072 ∧ n + 1956 ≤ 7202922) (R28 : Int32 → g_Hp → Prop) (hR28 : ∀ (x5 : Int32) (h : g_Hp), R28 x5 h → g_V G X iL_law 603072 7202922 Q 28 (k + 26) (n + 1956) [(0, vV (.ref a0)), (1, vR 0 0 0), (2, vR 5 0 0), (3, vR 15 0 0), (4, vR 16 0 0), (5, vI x5)] [] h) (x5 : Int32) (z0 : Int32) (z1 : Int32) (h : g_Hp) (H : wL_law_b1256 a0 L xs Q R28 x5 z0 z1 h) : g_V G X iL_law 603072 7202922 Q 1256 (k + 0) (n + 0) [(0, vV (.ref a0)), (1, vR 0 0 0), (2, vR 5 0 0), (3, vR 15 0 0), (4, vR 16 0 0), (5, vI x5)] [vI z0, vI z1, vR 0 0 0] h := by
  refine s_aload_n (pc := 1256) C dL_law_1256 rfl 3 rfl ?_
  refine s_callsH (pc := 1257) (nA := 4) (as := [vR 0 0 0, vI z1, vI z0, vR 15 0 0]) (st := []) (stk := [vR 15 0 0, vI z0, vI z1, vR 0 0 0]) C (fun l hl => ctL_vote l hl z1 z0 _ _ H) (fun _ _ z => z) rfl ⟨⟨kw_837, kw_57, kw_839⟩, ⟨by decide, by decide, by decide +kernel⟩, by decide, by decide⟩ kw_838 rfl (Nat.le_of_ble_eq_true rfl) ⟨rm_le hk.1 (by decide), rm_le hk.2 (by decide)⟩ rfl dL_law_1257 (g_Kq_I (fun u2 h1 H => ?_) (fun E h1 H => H.elim))
  refine s_at (k' := k + 1) (n' := n + 6) (Nat.add_assoc k 0 1) (Nat.add_assoc n 0 6) ?_
  refine s_istore (pc := 1260) (ls' := [(6, vI u2), (0, vV (.ref a0)), (1, vR 0 0 0), (2, vR 5 0 0), (3, vR 15 0 0), (4, vR 16 0 0), (5, vI x5)]) C dL_law_1260 (by decide) rfl ?_
  refine s_aload_n (pc := 1262) C dL_law_1262 rfl 3 rfl ?_
  refine s_aload_nQ (pc := 1263) C dL_law_1263 rfl 1 rfl ?_
  refine s_iload (pc := 1264) C dL_law_1264 6 rfl ?_
  refine s_iconst (pc := 1266) C dL_law_1266 (x := (1 : Int32)) (by decide) ?_
  refine s_iadd (pc := 1267) C dL_law_1267 ?_
  refine s_sld (pc := 1268) hs H.1 C dL_law_1268 ?_
  have H := H.2
  refine s_aload_nQ (pc := 1269) C dL_law_1269 rfl 1 rfl ?_
  refine s_iload (pc := 1270) C dL_law_1270 6 rfl ?_
  refine s_iconst (pc := 1272) C dL_law_1272 (x := (2 : Int32)) (by decide) ?_
  refine s_iadd (pc := 1273) C dL_law_1273 ?_
  refine s_sld (pc := 1274) hs H.1 C dL_law_1274 ?_
  have H := H.2
  refine s_if_eq (pc := 1275) (tgt := 1282) C dL_law_1275 (by decide) (fun c => ?_) (fun c => ?_)
  · have H := H.1 c
    refine s_iconst (pc := 1282) C dL_law_1282 (x := (0 : Int32)) (by decide) ?_
    exact s_sub (ls' := [(0, vV (.ref a0)), (1, vR 0 0 0), (2, vR 5 0 0), (3, vR 15 0 0), (4, vR 16 0 0), (5, vI x5), (6, vI u2)]) [1, 2, 3, 4, 5, 6, 0] rfl (vL_law_b1283 C hs hk R28 hR28 x5 u2 (0 : Int32) (xs (x5 + (1 : Int32)).toNatClampNeg) h1 H)
  · have H := H.2 c
    refine s_iconst (pc := 1278) C dL_law_1278 (x := (1 : Int32)) (by decide) ?_
    refine s_goto (pc := 1279) (tgt := 1283) C dL_law_1279 (by decide) ?_
    exact s_sub (ls' := [(0, vV (.ref a0)), (1, vR 0 0 0), (2, vR 5 0 0), (3, vR 15 0 0), (4, vR 16 0 0), (5, vI x5), (6, vI u2)]) [1, 2, 3, 4, 5, 6, 0] rfl (vL_law_b1283 C hs hk R28 hR28 x5 u2 (1 : Int32) (xs (x5 + (1 : Int32)).toNatClampNeg) h1 H)
set_option maxRecDepth 100000 in
set_option maxHeartbeats 4000000 in
theorem vL_law_b1206 {G : g_G} {X : g_X} {Q : g_R → g_Hp → Prop} {a0 L : Nat} {xs : Nat → Int32} (C : g_Cx y_ G X iL_law) (hs : g_Scr G X a0 L xs) {k n : Nat} (hk : k + 26 ≤ 603072 ∧ n + 1956 ≤ 7202922) (R28 : Int32 → g_Hp → Prop) (hR28 : ∀ (x5 : Int32) (h : g_Hp), R28 x5 h → g_V G X iL_law 603072 7202922 Q 28 (k + 26) (n + 1956) [(0, vV (.ref a0)), (1, vR 0 0 0), (2, vR 5 0 0), (3, vR 15 0 0), (4, vR 16 0 0), (5, vI x5)] [] h) (x5 : Int32) (h : g_Hp) (H : wL_law_b1206 a0 L xs Q R28 x5 h) : g_V G X iL_law 603072 7202922 Q 1206 (k + 1) (n + 6) [(0, vV (.ref a0)), (1, vR 0 0 0), (2, vR 5 0 0), (3, vR 15 0 0), (4, vR 16 0 0), (5, vI x5)] [] h := by
  refine s_goto (pc := 1206) (tgt := 2767) C dL_law_1206 (by decide) ?_
  exact s_wide (k' := k + 26) (n' := n + 1956) (Nat.add_le_add_left (by decide) k) (Nat.add_le_add_left (by decide) n) <| s_sub (ls' := [(0, vV (.ref a0)), (1, vR 0 0 0), (2, vR 5 0 0), (3, vR 15 0 0), (4, vR 16 0 0), (5, vI x5)]) [0, 1, 2, 3, 4, 5] rfl (vL_law_b2767 C hs hk R28 hR28 x5 h H)
set_option maxRecDepth 100000 in
set_option maxHeartbeats 4000000 in
theorem vL_law_b1150 {G : g_G} {X : g_X} {Q : g_R → g_Hp → Prop} {a0 L : Nat} {xs : Nat → Int32} (C : g_Cx y_ G X iL_law) (hs : g_Scr G X a0 L xs) {k n : Nat} (hk : k + 26 ≤ 603072 ∧ n + 1956 ≤ 7202922) (R28 : Int32 → g_Hp → Prop) (hR28 : ∀ (x5 : Int32) (h : g_Hp), R28 x5 h → g_V G X iL_law 603072 7202922 Q 28 (k + 26) (n + 1956) [(0, vV (.ref a0)), (1, vR 0 0 0), (2, vR 5 0 0), (3, vR 15 0 0), (4, vR 16 0 0), (5, vI x5)] [] h) (x5 : Int32) (h : g_Hp) (H : wL_law_b1150 a0 L xs Q R28 x5 h) : g_V G X iL_law 603072 7202922 Q 1150 (k + 1) (n + 6) [(0, vV (.ref a0)), (1, vR 0 0 0), (2, vR 5 0 0), (3, vR 15 0 0), (4, vR 16 0 0), (5, vI x5)] [] h := by
  refine s_goto (pc := 1150) (tgt := 2767) C dL_law_1150 (by decide) ?_
  exact s_wide (k' := k + 26) (n' := n + 1956) (Nat.add_le_add_left (by decide) k) (Nat.add_le_add_left (by decide) n) <| s_sub (ls' := [(0, vV (.ref a0)), (1, vR 0 0 0), (2, vR 5 0 0), (3, vR 15 0 0), (4, vR 16 0 0), (5, vI x5)]) [0, 1, 2, 3, 4, 5] rfl (vL_law_b2767 C hs hk R28 hR28 x5 h H)
set_option maxRecDepth 100000 in
set_option maxHeartbeats 4000000 in
theorem vL_law_b1094 {G : g_G} {X : g_X} {Q : g_R → g_Hp → Prop} {a0 L : Nat} {xs : Nat → Int32} (C : g_Cx y_ G X iL_law) (hs : g_Scr G X a0 L xs) {k n : Nat} (hk : k + 26 ≤ 603072 ∧ n + 1956 ≤ 7202922) (R28 : Int32 → g_Hp → Prop) (hR28 : ∀ (x5 : Int32) (h : g_Hp), R28 x5 h → g_V G X iL_law 603072 7202922 Q 28 (k + 26) (n + 1956) [(0, vV (.ref a0)), (1, vR 0 0 0), (2, vR 5 0 0), (3, vR 15 0 0), (4, vR 16 0 0), (5, vI x5)] [] h) (x5 : Int32) (h : g_Hp) (H : wL_law_b1094 a0 L xs Q R28 x5 h) : g_V G X iL_law 603072 7202922 Q 1094 (k + 1) (n + 6) [(0, vV (.ref a0)), (1, vR 0 0 0), (2, vR 5 0 0), (3, vR 15 0 0), (4, vR 16 0 0), (5, vI x5)] [] h := by
  refine s_goto (pc := 1094) (tgt := 2767) C dL_law_1094 (by decide) ?_
  exact s_wide (k' := k + 26) (n' := n + 1956) (Nat.add_le_add_left (by decide) k) (Nat.add_le_add_left (by decide) n) <| s_sub (ls' := [(0, vV (.ref a0)), (1, vR 0 0 0), (2, vR 5 0 0), (3, vR 15 0 0), (4, vR 16 0 0), (5, vI x5)]) [0, 1, 2, 3, 4, 5] rfl (vL_law_b2767 C hs hk R28 hR28 x5 h H)
set_option maxRecDepth 100000 in
set_option maxHeartbeats 4000000 in
theorem vL_law_b1012 {G : g_G} {X : g_X} {Q : g_R → g_Hp → Prop} {a0 L : Nat} {xs : Nat → Int32} (C : g_Cx y_ G X iL_law) (hs : g_Scr G X a0 L xs) {k n : Nat} (hk : k + 26 ≤ 603072 ∧ n + 1956 ≤ 7202922) (R28 : Int32 → g_Hp → Prop) (hR28 : ∀ (x5 : Int32) (h : g_Hp), R28 x5 h → g_V G X iL_law 603072 7202922 Q 28 (k + 26) (n + 1956) [(0, vV (.ref a0)), (1, vR 0 0 0), (2, vR 5 0 0), (3, vR 15 0 0), (4, vR 16 0 0), (5, vI x5)] [] h) (x5 : Int32) (h : g_Hp) (H : wL_law_b1012 a0 L xs Q R28 x5 h) : g_V G X iL_law 603072 7202922 Q 1012 (k + 1) (n + 6) [(0, vV (.ref a0)), (1, vR 0 0 0), (2, vR 5 0 0), (3, vR 15 0 0), (4, vR 16 0 0), (5, vI x5)] [] h := by
  refine s_goto (pc := 1012) (tgt := 2767) C dL_law_1012 (by decide) ?_
  exact s_wide (k' := k + 26) (n' := n + 1956) (Nat.add_le_add_left (by decide) k) (Nat.add_le_add_left (by decide) n) <| s_sub (ls' := [(0, vV (.ref a0)), (1, vR 0 0 0), (2, vR 5 0 0), (3, vR 15 0 0), (4, vR 16 0 0), (5, vI x5)]) [0, 1, 2, 3, 4, 5] rfl (vL_law_b2767 C hs hk R28 hR28 x5 h H)
