/-! the law: cases -/
set_option maxRecDepth 100000 in
set_option maxHeartbeats 4000000 in
theorem vL_law_b1209 {G : g_G} {X : g_X} {Q : g_R → g_Hp → Prop} {a0 L : Nat} {xs : Nat → Int32} (C : g_Cx y_ G X iL_law) (hs : g_Scr G X a0 L xs) {k n : Nat} (hk : k + 26 ≤ 603072 ∧ n + 1956 ≤ 7202922) (R28 : Int32 → g_Hp → Prop) (hR28 : ∀ (x5 : Int32) (h : g_Hp), R28 x5 h → g_V G X iL_law 603072 7202922 Q 28 (k + 26) (n + 1956) [(0, vV (.ref a0)), (1, vR 0 0 0), (2, vR 5 0 0), (3, vR 15 0 0), (4, vR 16 0 0), (5, vI x5)] [] h) (x5 : Int32) (h : g_Hp) (H : wL_law_b1209 a0 L xs Q R28 x5 h) : g_V G X iL_law 603072 7202922 Q 1209 (k + 0) (n + 0) [(0, vV (.ref a0)), (1, vR 0 0 0), (2, vR 5 0 0), (3, vR 15 0 0), (4, vR 16 0 0), (5, vI x5)] [] h := by
  refine s_aload_n (pc := 1209) C dL_law_1209 rfl 1 rfl ?_
  refine s_callv (pc := 1210) (nA := 0) (as := []) (st := []) (stk := [vR 0 0 0]) ckX7 (Or.inl rfl) C (fun l hl => ctX7_shiftCount l hl _ _ H) ⟨⟨kw_343, kw_58, kw_346⟩, rfl, ⟨by decide, by decide, by decide +kernel⟩, by decide, by decide⟩ kw_344 (g_selW kw_345) rfl (Nat.le_of_ble_eq_true rfl) ⟨rm_le hk.1 (by decide), rm_le hk.2 (by decide)⟩ rfl dL_law_1210 (g_Kq_I (fun u2 h1 H => ?_) (fun E h1 H => H.elim))
  refine s_at (k' := k + 0) (n' := n + 0) (Nat.add_assoc k 0 0) (Nat.add_assoc n 0 0) ?_
  refine s_aload_n (pc := 1213) C dL_law_1213 rfl 2 rfl ?_
  refine s_callv (pc := 1214) (nA := 0) (as := []) (st := [vI u2]) (stk := [vR 5 0 0, vI u2]) ckX8 (Or.inl rfl) C (fun l hl => ctX8_shiftCount l hl _ _ H) ⟨⟨kw_1708, kw_69, kw_1711⟩, rfl, ⟨by decide, by decide, by decide +kernel⟩, by decide, by decide⟩ kw_1709 (g_selW kw_1710) rfl (Nat.le_of_ble_eq_true rfl) ⟨rm_le hk.1 (by decide), rm_le hk.2 (by decide)⟩ rfl dL_law_1214 (g_Kq_I (fun u4 h3 H => ?_) (fun E h3 H => H.elim))
  refine s_at (k' := k + 0) (n' := n + 0) (Nat.add_assoc k 0 0) (Nat.add_assoc n 0 0) ?_
  refine s_icmp_eq (pc := 1217) (tgt := 2767) C dL_law_1217 (by decide) (fun c => ?_) (fun c => ?_)
  · have H := H.1 c
    exact s_wide (k' := k + 26) (n' := n + 1956) (Nat.add_le_add_left (by decide) k) (Nat.add_le_add_left (by decide) n) <| s_sub (ls' := [(0, vV (.ref a0)), (1, vR 0 0 0), (2, vR 5 0 0), (3, vR 15 0 0), (4, vR 16 0 0), (5, vI x5)]) [0, 1, 2, 3, 4, 5] rfl (vL_law_b2767 C hs hk R28 hR28 x5 h3 H)
  · have H := H.2 c
    refine s_iconst (pc := 1220) C dL_law_1220 (x := (0 : Int32)) (by decide) ?_
    exact s_iret (pc := 1221) rfl (by decide) ⟨rm_l1 hk.1 (by decide), rm_l1 hk.2 (by decide)⟩ H C dL_law_1221
set_option maxRecDepth 100000 in
set_option maxHeartbeats 4000000 in
theorem vL_law_b1222 {G : g_G} {X : g_X} {Q : g_R → g_Hp → Prop} {a0 L : Nat} {xs : Nat → Int32} (C : g_Cx y_ G X iL_law) (hs : g_Scr G X a0 L xs) {k n : Nat} (hk : k + 26 ≤ 603072 ∧ n + 1956 ≤ 7202922) (R28 : Int32 → g_Hp → Prop) (hR28 : ∀ (x5 : Int32) (h : g_Hp), R28 x5 h → g_V G X iL_law 603072 7202922 Q 28 (k + 26) (n + 1956) [(0, vV (.ref a0)), (1, vR 0 0 0), (2, vR 5 0 0), (3, vR 15 0 0), (4, vR 16 0 0), (5, vI x5)] [] h) (x5 : Int32) (h : g_Hp) (H : wL_law_b1222 a0 L xs Q R28 x5 h) : g_V G X iL_law 603072 7202922 Q 1222 (k + 0) (n + 0) [(0, vV (.ref a0)), (1, vR 0 0 0), (2, vR 5 0 0), (3, vR 15 0 0), (4, vR 16 0 0), (5, vI x5)] [] h := by
  refine s_aload_n (pc := 1222) C dL_law_1222 rfl 1 rfl ?_
  refine s_callv (pc := 1223) (nA := 0) (as := []) (st := []) (stk := [vR 0 0 0]) ckX7 (Or.inl rfl) C (fun l hl => ctX7_day l hl _ _ H) ⟨⟨kw_347, kw_58, kw_350⟩, rfl, ⟨by decide, by decide, by decide +kernel⟩, by decide, by decide⟩ kw_348 (g_selW kw_349) rfl (Nat.le_of_ble_eq_true rfl) ⟨rm_le hk.1 (by decide), rm_le hk.2 (by decide)⟩ rfl dL_law_1223 (g_Kq_I (fun u2 h1 H => ?_) (fun E h1 H => H.elim))
  refine s_at (k' := k + 0) (n' := n + 0) (Nat.add_assoc k 0 0) (Nat.add_assoc n 0 0) ?_
  refine s_aload_n (pc := 1226) C dL_law_1226 rfl 2 rfl ?_
  refine s_callv (pc := 1227) (nA := 0) (as := []) (st := [vI u2]) (stk := [vR 5 0 0, vI u2]) ckX8 (Or.inl rfl) C (fun l hl => ctX8_day l hl _ _ H) ⟨⟨kw_1712, kw_69, kw_1715⟩, rfl, ⟨by decide, by decide, by decide +kernel⟩, by decide, by decide⟩ kw_1713 (g_selW kw_1714) rfl (Nat.le_of_ble_eq_true rfl) ⟨rm_le hk.1 (by decide), rm_le hk.2 (by decide)⟩ rfl dL_law_1227 (g_Kq_I (fun u4 h3 H => ?_) (fun E h3 H => H.elim))
  refine s_at (k' := k + 0) (n' := n + 0) (Nat.add_assoc k 0 0) (Nat.add_assoc n 0 0) ?_
  refine s_icmp_eq (pc := 1230) (tgt := 2767) C dL_law_1230 (by decide) (fun c => ?_) (fun c => ?_)
  · have H := H.1 c
    exact s_wide (k' := k + 26) (n' := n + 1956) (Nat.add_le_add_left (by decide) k) (Nat.add_le_add_left (by decide) n) <| s_sub (ls' := [(0, vV (.ref a0)), (1, vR 0 0 0), (2, vR 5 0 0), (3, vR 15 0 0), (4, vR 16 0 0), (5, vI x5)]) [0, 1, 2, 3, 4, 5] rfl (vL_law_b2767 C hs hk R28 hR28 x5 h3 H)
  · have H := H.2 c
    refine s_iconst (pc := 1233) C dL_law_1233 (x := (0 : Int32)) (by decide) ?_
    exact s_iret (pc := 1234) rfl (by decide) ⟨rm_l1 hk.1 (by decide), rm_l1 hk.2 (by decide)⟩ H C dL_law_1234
set_option maxRecDepth 100000 in
set_option maxHeartbeats 4000000 in
theorem vL_law_b1235 {G : g_G} {X : g_X} {Q : g_R → g_Hp → Prop} {a0 L : Nat} {xs : Nat → Int32} (C : g_Cx y_ G X iL_law) (hs : g_Scr G X a0 L xs) {k n : Nat} (hk : k + 26 ≤ 603072 ∧ n + 1956 ≤ 7202922) (R28 : Int32 → g_Hp → Prop) (hR28 : ∀ (x5 : Int32) (h : g_Hp), R28 x5 h → g_V G X iL_law 603072 7202922 Q 28 (k + 26) (n + 1956) [(0, vV (.ref a0)), (1, vR 0 0 0), (2, vR 5 0 0), (3, vR 15 0 0), (4, vR 16 0 0), (5, vI x5)] [] h) (x5 : Int32) (h : g_Hp) (H : wL_law_b1235 a0 L xs Q R28 x5 h) : g_V G X iL_law 603072 7202922 Q 1235 (k + 0) (n + 0) [(0, vV (.ref a0)), (1, vR 0 0 0), (2, vR 5 0 0), (3, vR 15 0 0), (4, vR 16 0 0), (5, vI x5)] [] h := by
  refine s_aload_n (pc := 1235) C dL_law_1235 rfl 1 rfl ?_
  refine s_aload_nQ (pc := 1236) C dL_law_1236 rfl 0 rfl ?_
  refine s_iload (pc := 1237) C dL_law_1237 5 rfl ?_
  refine s_iconst (pc := 1239) C dL_law_1239 (x := (1 : Int32)) (by decide) ?_
  refine s_iadd (pc := 1240) C dL_law_1240 ?_
  refine s_sld (pc := 1241) hs H.1 C dL_law_1241 ?_
  have H := H.2
  refine s_aload_nQ (pc := 1242) C dL_law_1242 rfl 0 rfl ?_
  refine s_iload (pc := 1243) C dL_law_1243 5 rfl ?_
  refine s_iconst (pc := 1245) C dL_law_1245 (x := (2 : Int32)) (by decide) ?_
  refine s_iadd (pc := 1246) C dL_law_1246 ?_
  refine s_sld (pc := 1247) hs H.1 C dL_law_1247 ?_
  have H := H.2
  refine s_if_eq (pc := 1248) (tgt := 1255) C dL_law_1248 (by decide) (fun c => ?_) (fun c => ?_)
  · have H := H.1 c
    refine s_iconst (pc := 1255) C dL_law_1255 (x := (0 : Int32)) (by decide) ?_
    exact s_sub (ls' := [(0, vV (.ref a0)), (1, vR 0 0 0), (2, vR 5 0 0), (3, vR 15 0 0), (4, vR 16 0 0), (5, vI x5)]) [0, 1, 2, 3, 4, 5] rfl (vL_law_b1256 C hs hk R28 hR28 x5 (0 : Int32) (xs (x5 + (1 : Int32)).toNatClampNeg) h H)
  · have H := H.2 c
    refine s_iconst (pc := 1251) C dL_law_1251 (x := (1 : Int32)) (by decide) ?_
    refine s_goto (pc := 1252) (tgt := 1256) C dL_law_1252 (by decide) ?_
    exact s_sub (ls' := [(0, vV (.ref a0)), (1, vR 0 0 0), (2, vR 5 0 0), (3, vR 15 0 0), (4, vR 16 0 0), (5, vI x5)]) [0, 1, 2, 3, 4, 5] rfl (vL_law_b1256 C hs hk R28 hR28 x5 (1 : Int32) (xs (x5 + (1 : Int32)).toNatClampNeg) h H)
set_option maxRecDepth 100000 in
set_option maxHeartbeats 4000000 in
theorem vL_law_b1319 {G : g_G} {X : g_X} {Q : g_R → g_Hp → Prop} {a0 L : Nat} {xs : Nat → Int32} (C : g_Cx y_ G X iL_law) (hs : g_Scr G X a0 L xs) {k n : Nat} (hk : k + 26 ≤ 603072 ∧ n + 1956 ≤ 7202922) (R28 : Int32 → g_Hp → Prop) (hR28 : ∀ (x5 : Int32) (h : g_Hp), R28 x5 h → g_V G X iL_law 603072 7202922 Q 28 (k + 26) (n + 1956) [(0, vV (.ref a0)), (1, vR 0 0 0), (2, vR 5 0 0), (3, vR 15 0 0), (4, vR 16 0 0), (5, vI x5)] [] h) (x5 : Int32) (h : g_Hp) (H : wL_law_b1319 a0 L xs Q R28 x5 h) : g_V G X iL_law 603072 7202922 Q 1319 (k + 0) (n + 0) [(0, vV (.ref a0)), (1, vR 0 0 0), (2, vR 5 0 0), (3, vR 15 0 0), (4, vR 16 0 0), (5, vI x5)] [] h := by
  refine s_aload_n (pc := 1319) C dL_law_1319 rfl 1 rfl ?_
  refine s_callv (pc := 1320) (nA := 0) (as := []) (st := []) (stk := [vR 0 0 0]) ckX7 (Or.inl rfl) C (fun l hl => ctX7_votesFor l hl _ _ H) ⟨⟨kw_351, kw_58, kw_354⟩, rfl, ⟨by decide, by decide, by decide +kernel⟩, by decide, by decide⟩ kw_352 (g_selW kw_353) rfl (Nat.le_of_ble_eq_true rfl) ⟨rm_le hk.1 (by decide), rm_le hk.2 (by decide)⟩ rfl dL_law_1320 (g_Kq_I (fun u2 h1 H => ?_) (fun E h1 H => H.elim))
  refine s_at (k' := k + 0) (n' := n + 0) (Nat.add_assoc k 0 0) (Nat.add_assoc n 0 0) ?_
  refine s_aload_n (pc := 1323) C dL_law_1323 rfl 2 rfl ?_
  refine s_callv (pc := 1324) (nA := 0) (as := []) (st := [vI u2]) (stk := [vR 5 0 0, vI u2]) ckX8 (Or.inl rfl) C (fun l hl => ctX8_votesFor l hl _ _ H) ⟨⟨kw_1728, kw_69, kw_1731⟩, rfl, ⟨by decide, by decide, by decide +kernel⟩, by decide, by decide⟩ kw_1729 (g_selW kw_1730) rfl (Nat.le_of_ble_eq_true rfl) ⟨rm_le hk.1 (by decide), rm_le hk.2 (by decide)⟩ rfl dL_law_1324 (g_Kq_I (fun u4 h3 H => ?_) (fun E h3 H => H.elim))
  refine s_at (k' := k + 0) (n' := n + 0) (Nat.add_assoc k 0 0) (Nat.add_assoc n 0 0) ?_
  refine s_icmp_eq (pc := 1327) (tgt := 2767) C dL_law_1327 (by decide) (fun c => ?_) (fun c => ?_)
  · have H := H.1 c
    exact s_wide (k' := k + 26) (n' := n + 1956) (Nat.add_le_add_left (by decide) k) (Nat.add_le_add_left (by decide) n) <| s_sub (ls' := [(0, vV (.ref a0)), (1, vR 0 0 0), (2, vR 5 0 0), (3, vR 15 0 0), (4, vR 16 0 0), (5, vI x5)]) [0, 1, 2, 3, 4, 5] rfl (vL_law_b2767 C hs hk R28 hR28 x5 h3 H)
  · have H := H.2 c
    refine s_iconst (pc := 1330) C dL_law_1330 (x := (0 : Int32)) (by decide) ?_
    exact s_iret (pc := 1331) rfl (by decide) ⟨rm_l1 hk.1 (by decide), rm_l1 hk.2 (by decide)⟩ H C dL_law_1331
set_option maxRecDepth 100000 in
set_option maxHeartbeats 4000000 in
theorem vL_law_b1332 {G : g_G} {X : g_X} {Q : g_R → g_Hp → Prop} {a0 L : Nat} {xs : Nat → Int32} (C : g_Cx y_ G X iL_law) (hs : g_Scr G X a0 L xs) {k n : Nat} (hk : k + 26 ≤ 603072 ∧ n + 1956 ≤ 7202922) (R28 : Int32 → g_Hp → Prop) (hR28 : ∀ (x5 : Int32) (h : g_Hp), R28 x5 h → g_V G X iL_law 603072 7202922 Q 28 (k + 26) (n + 1956) [(0, vV (.ref a0)), (1, vR 0 0 0), (2, vR 5 0 0), (3, vR 15 0 0), (4, vR 16 0 0), (5, vI x5)] [] h) (x5 : Int32) (h : g_Hp) (H : wL_law_b1332 a0 L xs Q R28 x5 h) : g_V G X iL_law 603072 7202922 Q 1332 (k + 0) (n + 0) [(0, vV (.ref a0)), (1, vR 0 0 0), (2, vR 5 0 0), (3, vR 15 0 0), (4, vR 16 0 0), (5, vI x5)] [] h := by
  refine s_aload_n (pc := 1332) C dL_law_1332 rfl 1 rfl ?_
  refine s_aload_nQ (pc := 1333) C dL_law_1333 rfl 0 rfl ?_
  refine s_iload (pc := 1334) C dL_law_1334 5 rfl ?_
  refine s_iconst (pc := 1336) C dL_law_1336 (x := (1 : Int32)) (by decide) ?_
  refine s_iadd (pc := 1337) C dL_law_1337 ?_
  refine s_sld (pc := 1338) hs H.1 C dL_law_1338 ?_
  have H := H.2
  refine s_aload_n (pc := 1339) C dL_law_1339 rfl 3 rfl ?_
  refine s_callsH (pc := 1340) (nA := 3) (as := [vR 0 0 0, vI (xs (x5 + (1 : Int32)).toNatClampNeg), vR 15 0 0]) (st := []) (stk := [vR 15 0 0, vI (xs (x5 + (1 : Int32)).toNatClampNeg), vR 0 0 0]) C (fun l hl => ctL_hasVoted l hl (xs (x5 + (1 : Int32)).toNatClampNeg) _ _ H) (fun _ _ z => z) rfl ⟨⟨kw_854, kw_57, kw_856⟩, ⟨by decide, by decide, by decide +kernel⟩, by decide, by decide⟩ kw_855 rfl (Nat.le_of_ble_eq_true rfl) ⟨rm_le hk.1 (by decide), rm_le hk.2 (by decide)⟩ rfl dL_law_1340 (g_Kq_I (fun u2 h1 H => ?_) (fun E h1 H => H.elim))
  refine s_at (k' := k + 1) (n' := n + 6) (Nat.add_assoc k 0 1) (Nat.add_assoc n 0 6) ?_
  refine s_istore (pc := 1343) (ls' := [(6, vI u2), (0, vV (.ref a0)), (1, vR 0 0 0), (2, vR 5 0 0), (3, vR 15 0 0), (4, vR 16 0 0), (5, vI x5)]) C dL_law_1343 (by decide) rfl ?_
  refine s_aload_n (pc := 1345) C dL_law_1345 rfl 3 rfl ?_
  refine s_aload_nQ (pc := 1346) C dL_law_1346 rfl 1 rfl ?_
  refine s_iload (pc := 1347) C dL_law_1347 6 rfl ?_
  refine s_iconst (pc := 1349) C dL_law_1349 (x := (1 : Int32)) (by decide) ?_
  refine s_iadd (pc := 1350) C dL_law_1350 ?_
  refine s_sld (pc := 1351) hs H.1 C dL_law_1351 ?_
  have H := H.2
  refine s_callv (pc := 1352) (nA := 1) (as := [vI (xs (x5 + (1 : Int32)).toNatClampNeg)]) (st := []) (stk := [vI (xs (x5 + (1 : Int32)).toNatClampNeg), vR 5 0 0]) ckX8 (Or.inl rfl) C (fun l hl => ctX8_hasVoted l hl (xs (x5 + (1 : Int32)).toNatClampNeg) _ _ H) ⟨⟨kw_1732, kw_69, kw_1735⟩, rfl, ⟨by decide, by decide, by decide +kernel⟩, by decide, by decide⟩ kw_1733 (g_selW kw_1734) rfl (Nat.le_of_ble_eq_true rfl) ⟨rm_le hk.1 (by decide), rm_le hk.2 (by decide)⟩ rfl dL_law_1352 (g_Kq_I (fun u4 h3 H => ?_) (fun E h3 H => H.elim))
  refine s_at (k' := k + 1) (n' := n + 6) (Nat.add_assoc k 1 0) (Nat.add_assoc n 6 0) ?_
  refine s_istore (pc := 1355) (ls' := [(7, vI u4), (6, vI u2), (0, vV (.ref a0)), (1, vR 0 0 0), (2, vR 5 0 0), (3, vR 15 0 0), (4, vR 16 0 0), (5, vI x5)]) C dL_law_1355 (by decide) rfl ?_
  refine s_aload_n (pc := 1357) C dL_law_1357 rfl 4 rfl ?_
  refine s_callv (pc := 1358) (nA := 0) (as := []) (st := []) (stk := [vR 5 0 0]) ckX8 (Or.inl rfl) C (fun l hl => ctX8_thrown l hl _ _ H) ⟨⟨kw_1567, kw_69, kw_1570⟩, rfl, ⟨by decide, by decide, by decide +kernel⟩, by decide, by decide⟩ kw_1568 (g_selW kw_1569) rfl (Nat.le_of_ble_eq_true rfl) ⟨rm_le hk.1 (by decide), rm_le hk.2 (by decide)⟩ rfl dL_law_1358 (g_Kq_I (fun u6 h5 H => ?_) (fun E h5 H => H.elim))
  refine s_at (k' := k + 1) (n' := n + 6) (Nat.add_assoc k 1 0) (Nat.add_assoc n 6 0) ?_
  refine s_iload (pc := 1361) C dL_law_1361 1 rfl ?_
  refine s_icmp_eq (pc := 1363) (tgt := 1368) C dL_law_1363 (by decide) (fun c => ?_) (fun c => ?_)
  · have H := H.1 c
    refine s_iload (pc := 1368) C dL_law_1368 1 rfl ?_
    refine s_if_ne (pc := 1370) (tgt := 1392) C dL_law_1370 (by decide) (fun c => ?_) (fun c => ?_)
    · have H := H.1 c
      exact s_sub (ls' := [(0, vV (.ref a0)), (1, vR 0 0 0), (2, vR 5 0 0), (3, vR 15 0 0), (4, vR 16 0 0), (5, vI x5)]) [2, 3, 4, 5, 6, 7] rfl (vL_law_b1392 C hs hk R28 hR28 x5 h5 H)
    · have H := H.2 c
      refine s_aload_n (pc := 1373) C dL_law_1373 rfl 5 rfl ?_
      refine s_iconst (pc := 1374) C dL_law_1374 (x := (0 : Int32)) (by decide) ?_
      refine s_lald0 (pc := 1375) C dL_law_1375 ?_
      refine s_iload (pc := 1376) C dL_law_1376 0 rfl ?_
      refine s_if_eq (pc := 1378) (tgt := 1385) C dL_law_1378 (by decide) (fun c => ?_) (fun c => ?_)
      · have H := H.1 c
        refine s_lconst (pc := 1385) C dL_law_1385 (x := (0 : Int32).toInt64) (by decide) ?_
        exact s_sub (ls' := [(0, vV (.ref a0)), (1, vR 0 0 0), (2, vR 5 0 0), (3, vR 15 0 0), (4, vR 16 0 0), (5, vI x5)]) [2, 3, 4, 5, 6, 7] rfl (vL_law_b1386 C hs hk R28 hR28 x5 (0 : Int32) (h5 15 0 0 1) h5 H)
      · have H := H.2 c
        refine s_lconst (pc := 1381) C dL_law_1381 (x := (1 : Int32).toInt64) (by decide) ?_
        refine s_goto (pc := 1382) (tgt := 1386) C dL_law_1382 (by decide) ?_
        exact s_sub (ls' := [(0, vV (.ref a0)), (1, vR 0 0 0), (2, vR 5 0 0), (3, vR 15 0 0), (4, vR 16 0 0), (5, vI x5)]) [2, 3, 4, 5, 6, 7] rfl (vL_law_b1386 C hs hk R28 hR28 x5 (1 : Int32) (h5 15 0 0 1) h5 H)
  · have H := H.2 c
    refine s_iconst (pc := 1366) C dL_law_1366 (x := (0 : Int32)) (by decide) ?_
    exact s_iret (pc := 1367) rfl (by decide) ⟨rm_l1 hk.1 (by decide), rm_l1 hk.2 (by decide)⟩ H C dL_law_1367
set_option maxRecDepth 100000 in
set_option maxHeartbeats 4000000 in
theorem vL_law_b1395 {G : g_G} {X : g_X} {Q : g_R → g_Hp → Prop} {a0 L : Nat} {xs : Nat → Int32} (C : g_Cx y_ G X iL_law) (hs : g_Scr G X a0 L xs) {k n : Nat} (hk : k + 26 ≤ 603072 ∧ n + 1956 ≤ 7202922) (R28 : Int32 → g_Hp → Prop) (hR28 : ∀ (x5 : Int32) (h : g_Hp), R28 x5 h → g_V G X iL_law 603072 7202922 Q 28 (k + 26) (n + 1956) [(0, vV (.ref a0)), (1, vR 0 0 0), (2, vR 5 0 0), (3, vR 15 0 0), (4, vR 16 0 0), (5, vI x5)] [] h) (x5 : Int32) (h : g_Hp) (H : wL_law_b1395 a0 L xs Q R28 x5 h) : g_V G X iL_law 603072 7202922 Q 1395 (k + 0) (n + 0) [(0, vV (.ref a0)), (1, vR 0 0 0), (2, vR 5 0 0), (3, vR 15 0 0), (4, vR 16 0 0), (5, vI x5)] [] h := by
  refine s_aload_n (pc := 1395) C dL_law_1395 rfl 1 rfl ?_
  refine s_aload_n (pc := 1396) C dL_law_1396 rfl 3 rfl ?_
  refine s_callsH (pc := 1397) (nA := 2) (as := [vR 0 0 0, vR 15 0 0]) (st := []) (stk := [vR 15 0 0, vR 0 0 0]) C (fun l hl => ctL_callStrike l hl _ _ H) (fun _ _ z => z) rfl ⟨⟨kw_861, kw_57, kw_863⟩, ⟨by decide, by decide, by decide +kernel⟩, by decide, by decide⟩ kw_862 rfl (Nat.le_of_ble_eq_true rfl) ⟨rm_le hk.1 (by decide), rm_le hk.2 (by decide)⟩ rfl dL_law_1397 (g_Kq_I (fun u2 h1 H => ?_) (fun E h1 H => H.elim))
  refine s_at (k' := k + 1) (n' := n + 6) (Nat.add_assoc k 0 1) (Nat.add_assoc n 0 6) ?_
  refine s_istore (pc := 1400) (ls' := [(6, vI u2), (0, vV (.ref a0)), (1, vR 0 0 0), (2, vR 5 0 0), (3, vR 15 0 0), (4, vR 16 0 0), (5, vI x5)]) C dL_law_1400 (by decide) rfl ?_
  refine s_aload_n (pc := 1402) C dL_law_1402 rfl 3 rfl ?_
  refine s_callv (pc := 1403) (nA := 0) (as := []) (st := []) (stk := [vR 5 0 0]) ckX8 (Or.inl rfl) C (fun l hl => ctX8_callStrike l hl _ _ H) ⟨⟨kw_1736, kw_69, kw_1739⟩, rfl, ⟨by decide, by decide, by decide +kernel⟩, by decide, by decide⟩ kw_1737 (g_selW kw_1738) rfl (Nat.le_of_ble_eq_true rfl) ⟨rm_le hk.1 (by decide), rm_le hk.2 (by decide)⟩ rfl dL_law_1403 (g_Kq_I (fun u4 h3 H => ?_) (fun E h3 H => H.elim))
  refine s_at (k' := k + 1) (n' := n + 6) (Nat.add_assoc k 1 0) (Nat.add_assoc n 6 0) ?_
  refine s_istore (pc := 1406) (ls' := [(7, vI u4), (6, vI u2), (0, vV (.ref a0)), (1, vR 0 0 0), (2, vR 5 0 0), (3, vR 15 0 0), (4, vR 16 0 0), (5, vI x5)]) C dL_law_1406 (by decide) rfl ?_
  refine s_aload_n (pc := 1408) C dL_law_1408 rfl 4 rfl ?_
  refine s_callv (pc := 1409) (nA := 0) (as := []) (st := []) (stk := [vR 5 0 0]) ckX8 (Or.inl rfl) C (fun l hl => ctX8_thrown l hl _ _ H) ⟨⟨kw_1567, kw_69, kw_1570⟩, rfl, ⟨by decide, by decide, by decide +kernel⟩, by decide, by decide⟩ kw_1568 (g_selW kw_1569) rfl (Nat.le_of_ble_eq_true rfl) ⟨rm_le hk.1 (by decide), rm_le hk.2 (by decide)⟩ rfl dL_law_1409 (g_Kq_I (fun u6 h5 H => ?_) (fun E h5 H => H.elim))
  refine s_at (k' := k + 1) (n' := n + 6) (Nat.add_assoc k 1 0) (Nat.add_assoc n 6 0) ?_
  refine s_iload (pc := 1412) C dL_law_1412 1 rfl ?_
  refine s_icmp_eq (pc := 1414) (tgt := 1419) C dL_law_1414 (by decide) (fun c => ?_) (fun c => ?_)
  · have H := H.1 c
    refine s_iload (pc := 1419) C dL_law_1419 1 rfl ?_
    refine s_if_ne (pc := 1421) (tgt := 1436) C dL_law_1421 (by decide) (fun c => ?_) (fun c => ?_)
    · have H := H.1 c
      exact s_sub (ls' := [(0, vV (.ref a0)), (1, vR 0 0 0), (2, vR 5 0 0), (3, vR 15 0 0), (4, vR 16 0 0), (5, vI x5)]) [2, 3, 4, 5, 6, 7] rfl (vL_law_b1436 C hs hk R28 hR28 x5 h5 H)
    · have H := H.2 c
      refine s_aload_n (pc := 1424) C dL_law_1424 rfl 5 rfl ?_
      refine s_iconst (pc := 1425) C dL_law_1425 (x := (0 : Int32)) (by decide) ?_
      refine s_lald0 (pc := 1426) C dL_law_1426 ?_
      refine s_iload (pc := 1427) C dL_law_1427 0 rfl ?_
      refine s_i2l (pc := 1429) C dL_law_1429 ?_
      refine s_lcmp (pc := 1430) C dL_law_1430 ?_
      refine s_if_eq (pc := 1431) (tgt := 1436) C dL_law_1431 (by decide) (fun c => ?_) (fun c => ?_)
      · have H := H.1 c
        exact s_sub (ls' := [(0, vV (.ref a0)), (1, vR 0 0 0), (2, vR 5 0 0), (3, vR 15 0 0), (4, vR 16 0 0), (5, vI x5)]) [2, 3, 4, 5, 6, 7] rfl (vL_law_b1436 C hs hk R28 hR28 x5 h5 H)
      · have H := H.2 c
        refine s_iconst (pc := 1434) C dL_law_1434 (x := (0 : Int32)) (by decide) ?_
        exact s_iret (pc := 1435) rfl (by decide) ⟨rm_l1 hk.1 (by decide), rm_l1 hk.2 (by decide)⟩ H C dL_law_1435
  · have H := H.2 c
    refine s_iconst (pc := 1417) C dL_law_1417 (x := (0 : Int32)) (by decide) ?_
    exact s_iret (pc := 1418) rfl (by decide) ⟨rm_l1 hk.1 (by decide), rm_l1 hk.2 (by decide)⟩ H C dL_law_1418
