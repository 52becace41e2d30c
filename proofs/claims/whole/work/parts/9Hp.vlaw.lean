/-! the law: cases -/
set_option maxRecDepth 100000 in
set_option maxHeartbeats 4000000 in
theorem vL_law_b2247 {G : g_G} {X : g_X} {Q : g_R → g_Hp → Prop} {a0 L : Nat} {xs : Nat → Int32} (C : g_Cx y_ G X iL_law) (hs : g_Scr G X a0 L xs) {k n : Nat} (hk : k + 26 ≤ 603072 ∧ n + 1956 ≤ 7202922) (R28 : Int32 → g_Hp → Prop) (hR28 : ∀ (x5 : Int32) (h : g_Hp), R28 x5 h → g_V G X iL_law 603072 7202922 Q 28 (k + 26) (n + 1956) [(0, vV (.ref a0)), (1, vR 0 0 0), (2, vR 5 0 0), (3, vR 15 0 0), (4, vR 16 0 0), (5, vI x5)] [] h) (x5 : Int32) (h : g_Hp) (H : wL_law_b2247 a0 L xs Q R28 x5 h) : g_V G X iL_law 603072 7202922 Q 2247 (k + 0) (n + 0) [(0, vV (.ref a0)), (1, vR 0 0 0), (2, vR 5 0 0), (3, vR 15 0 0), (4, vR 16 0 0), (5, vI x5)] [] h := by
  refine s_aload_n (pc := 2247) C dL_law_2247 rfl 1 rfl ?_
  refine s_callv (pc := 2248) (nA := 0) (as := []) (st := []) (stk := [vR 0 0 0]) ckX7 (Or.inl rfl) C (fun l hl => ctX7_lostTotalByRoofs l hl _ _ H) ⟨⟨kw_383, kw_58, kw_386⟩, rfl, ⟨by decide, by decide, by decide +kernel⟩, by decide, by decide⟩ kw_384 (g_selW kw_385) rfl (Nat.le_of_ble_eq_true rfl) ⟨rm_le hk.1 (by decide), rm_le hk.2 (by decide)⟩ rfl dL_law_2248 (g_Kq_I (fun u2 h1 H => ?_) (fun E h1 H => H.elim))
  refine s_at (k' := k + 0) (n' := n + 0) (Nat.add_assoc k 0 0) (Nat.add_assoc n 0 0) ?_
  refine s_aload_n (pc := 2251) C dL_law_2251 rfl 2 rfl ?_
  refine s_callv (pc := 2252) (nA := 0) (as := []) (st := [vI u2]) (stk := [vR 5 0 0, vI u2]) ckX8 (Or.inl rfl) C (fun l hl => ctX8_lostTotalByRoofs l hl _ _ H) ⟨⟨kw_1853, kw_69, kw_1856⟩, rfl, ⟨by decide, by decide, by decide +kernel⟩, by decide, by decide⟩ kw_1854 (g_selW kw_1855) rfl (Nat.le_of_ble_eq_true rfl) ⟨rm_le hk.1 (by decide), rm_le hk.2 (by decide)⟩ rfl dL_law_2252 (g_Kq_I (fun u4 h3 H => ?_) (fun E h3 H => H.elim))
  refine s_at (k' := k + 0) (n' := n + 0) (Nat.add_assoc k 0 0) (Nat.add_assoc n 0 0) ?_
  refine s_icmp_eq (pc := 2255) (tgt := 2767) C dL_law_2255 (by decide) (fun c => ?_) (fun c => ?_)
  · have H := H.1 c
    exact s_wide (k' := k + 26) (n' := n + 1956) (Nat.add_le_add_left (by decide) k) (Nat.add_le_add_left (by decide) n) <| s_sub (ls' := [(0, vV (.ref a0)), (1, vR 0 0 0), (2, vR 5 0 0), (3, vR 15 0 0), (4, vR 16 0 0), (5, vI x5)]) [0, 1, 2, 3, 4, 5] rfl (vL_law_b2767 C hs hk R28 hR28 x5 h3 H)
  · have H := H.2 c
    refine s_iconst (pc := 2258) C dL_law_2258 (x := (0 : Int32)) (by decide) ?_
    exact s_iret (pc := 2259) rfl (by decide) ⟨rm_l1 hk.1 (by decide), rm_l1 hk.2 (by decide)⟩ H C dL_law_2259
set_option maxRecDepth 100000 in
set_option maxHeartbeats 4000000 in
theorem vL_law_b2260 {G : g_G} {X : g_X} {Q : g_R → g_Hp → Prop} {a0 L : Nat} {xs : Nat → Int32} (C : g_Cx y_ G X iL_law) (hs : g_Scr G X a0 L xs) {k n : Nat} (hk : k + 26 ≤ 603072 ∧ n + 1956 ≤ 7202922) (R28 : Int32 → g_Hp → Prop) (hR28 : ∀ (x5 : Int32) (h : g_Hp), R28 x5 h → g_V G X iL_law 603072 7202922 Q 28 (k + 26) (n + 1956) [(0, vV (.ref a0)), (1, vR 0 0 0), (2, vR 5 0 0), (3, vR 15 0 0), (4, vR 16 0 0), (5, vI x5)] [] h) (x5 : Int32) (h : g_Hp) (H : wL_law_b2260 a0 L xs Q R28 x5 h) : g_V G X iL_law 603072 7202922 Q 2260 (k + 0) (n + 0) [(0, vV (.ref a0)), (1, vR 0 0 0), (2, vR 5 0 0), (3, vR 15 0 0), (4, vR 16 0 0), (5, vI x5)] [] h := by
  refine s_aload_n (pc := 2260) C dL_law_2260 rfl 1 rfl ?_
  refine s_callv (pc := 2261) (nA := 0) (as := []) (st := []) (stk := [vR 0 0 0]) ckX7 (Or.inl rfl) C (fun l hl => ctX7_stepTotal l hl _ _ H) ⟨⟨kw_391, kw_58, kw_394⟩, rfl, ⟨by decide, by decide, by decide +kernel⟩, by decide, by decide⟩ kw_392 (g_selW kw_393) rfl (Nat.le_of_ble_eq_true rfl) ⟨rm_le hk.1 (by decide), rm_le hk.2 (by decide)⟩ rfl dL_law_2261 (g_Kq_I (fun u2 h1 H => ?_) (fun E h1 H => H.elim))
  refine s_at (k' := k + 0) (n' := n + 0) (Nat.add_assoc k 0 0) (Nat.add_assoc n 0 0) ?_
  refine s_aload_n (pc := 2264) C dL_law_2264 rfl 2 rfl ?_
  refine s_callv (pc := 2265) (nA := 0) (as := []) (st := [vI u2]) (stk := [vR 5 0 0, vI u2]) ckX8 (Or.inl rfl) C (fun l hl => ctX8_stepTotal l hl _ _ H) ⟨⟨kw_1857, kw_69, kw_1860⟩, rfl, ⟨by decide, by decide, by decide +kernel⟩, by decide, by decide⟩ kw_1858 (g_selW kw_1859) rfl (Nat.le_of_ble_eq_true rfl) ⟨rm_le hk.1 (by decide), rm_le hk.2 (by decide)⟩ rfl dL_law_2265 (g_Kq_I (fun u4 h3 H => ?_) (fun E h3 H => H.elim))
  refine s_at (k' := k + 0) (n' := n + 0) (Nat.add_assoc k 0 0) (Nat.add_assoc n 0 0) ?_
  refine s_icmp_eq (pc := 2268) (tgt := 2767) C dL_law_2268 (by decide) (fun c => ?_) (fun c => ?_)
  · have H := H.1 c
    exact s_wide (k' := k + 26) (n' := n + 1956) (Nat.add_le_add_left (by decide) k) (Nat.add_le_add_left (by decide) n) <| s_sub (ls' := [(0, vV (.ref a0)), (1, vR 0 0 0), (2, vR 5 0 0), (3, vR 15 0 0), (4, vR 16 0 0), (5, vI x5)]) [0, 1, 2, 3, 4, 5] rfl (vL_law_b2767 C hs hk R28 hR28 x5 h3 H)
  · have H := H.2 c
    refine s_iconst (pc := 2271) C dL_law_2271 (x := (0 : Int32)) (by decide) ?_
    exact s_iret (pc := 2272) rfl (by decide) ⟨rm_l1 hk.1 (by decide), rm_l1 hk.2 (by decide)⟩ H C dL_law_2272
set_option maxRecDepth 100000 in
set_option maxHeartbeats 4000000 in
theorem vL_law_b2273 {G : g_G} {X : g_X} {Q : g_R → g_Hp → Prop} {a0 L : Nat} {xs : Nat → Int32} (C : g_Cx y_ G X iL_law) (hs : g_Scr G X a0 L xs) {k n : Nat} (hk : k + 26 ≤ 603072 ∧ n + 1956 ≤ 7202922) (R28 : Int32 → g_Hp → Prop) (hR28 : ∀ (x5 : Int32) (h : g_Hp), R28 x5 h → g_V G X iL_law 603072 7202922 Q 28 (k + 26) (n + 1956) [(0, vV (.ref a0)), (1, vR 0 0 0), (2, vR 5 0 0), (3, vR 15 0 0), (4, vR 16 0 0), (5, vI x5)] [] h) (x5 : Int32) (h : g_Hp) (H : wL_law_b2273 a0 L xs Q R28 x5 h) : g_V G X iL_law 603072 7202922 Q 2273 (k + 0) (n + 0) [(0, vV (.ref a0)), (1, vR 0 0 0), (2, vR 5 0 0), (3, vR 15 0 0), (4, vR 16 0 0), (5, vI x5)] [] h := by
  refine s_aload_n (pc := 2273) C dL_law_2273 rfl 1 rfl ?_
  refine s_callv (pc := 2274) (nA := 0) (as := []) (st := []) (stk := [vR 0 0 0]) ckX7 (Or.inl rfl) C (fun l hl => ctX7_settlementCount l hl _ _ H) ⟨⟨kw_395, kw_58, kw_398⟩, rfl, ⟨by decide, by decide, by decide +kernel⟩, by decide, by decide⟩ kw_396 (g_selW kw_397) rfl (Nat.le_of_ble_eq_true rfl) ⟨rm_le hk.1 (by decide), rm_le hk.2 (by decide)⟩ rfl dL_law_2274 (g_Kq_I (fun u2 h1 H => ?_) (fun E h1 H => H.elim))
  refine s_at (k' := k + 0) (n' := n + 0) (Nat.add_assoc k 0 0) (Nat.add_assoc n 0 0) ?_
  refine s_aload_n (pc := 2277) C dL_law_2277 rfl 2 rfl ?_
  refine s_callv (pc := 2278) (nA := 0) (as := []) (st := [vI u2]) (stk := [vR 5 0 0, vI u2]) ckX8 (Or.inl rfl) C (fun l hl => ctX8_settlementCount l hl _ _ H) ⟨⟨kw_1861, kw_69, kw_1864⟩, rfl, ⟨by decide, by decide, by decide +kernel⟩, by decide, by decide⟩ kw_1862 (g_selW kw_1863) rfl (Nat.le_of_ble_eq_true rfl) ⟨rm_le hk.1 (by decide), rm_le hk.2 (by decide)⟩ rfl dL_law_2278 (g_Kq_I (fun u4 h3 H => ?_) (fun E h3 H => H.elim))
  refine s_at (k' := k + 0) (n' := n + 0) (Nat.add_assoc k 0 0) (Nat.add_assoc n 0 0) ?_
  refine s_icmp_eq (pc := 2281) (tgt := 2767) C dL_law_2281 (by decide) (fun c => ?_) (fun c => ?_)
  · have H := H.1 c
    exact s_wide (k' := k + 26) (n' := n + 1956) (Nat.add_le_add_left (by decide) k) (Nat.add_le_add_left (by decide) n) <| s_sub (ls' := [(0, vV (.ref a0)), (1, vR 0 0 0), (2, vR 5 0 0), (3, vR 15 0 0), (4, vR 16 0 0), (5, vI x5)]) [0, 1, 2, 3, 4, 5] rfl (vL_law_b2767 C hs hk R28 hR28 x5 h3 H)
  · have H := H.2 c
    refine s_iconst (pc := 2284) C dL_law_2284 (x := (0 : Int32)) (by decide) ?_
    exact s_iret (pc := 2285) rfl (by decide) ⟨rm_l1 hk.1 (by decide), rm_l1 hk.2 (by decide)⟩ H C dL_law_2285
set_option maxRecDepth 100000 in
set_option maxHeartbeats 4000000 in
theorem vL_law_b2286 {G : g_G} {X : g_X} {Q : g_R → g_Hp → Prop} {a0 L : Nat} {xs : Nat → Int32} (C : g_Cx y_ G X iL_law) (hs : g_Scr G X a0 L xs) {k n : Nat} (hk : k + 26 ≤ 603072 ∧ n + 1956 ≤ 7202922) (R28 : Int32 → g_Hp → Prop) (hR28 : ∀ (x5 : Int32) (h : g_Hp), R28 x5 h → g_V G X iL_law 603072 7202922 Q 28 (k + 26) (n + 1956) [(0, vV (.ref a0)), (1, vR 0 0 0), (2, vR 5 0 0), (3, vR 15 0 0), (4, vR 16 0 0), (5, vI x5)] [] h) (x5 : Int32) (h : g_Hp) (H : wL_law_b2286 a0 L xs Q R28 x5 h) : g_V G X iL_law 603072 7202922 Q 2286 (k + 0) (n + 0) [(0, vV (.ref a0)), (1, vR 0 0 0), (2, vR 5 0 0), (3, vR 15 0 0), (4, vR 16 0 0), (5, vI x5)] [] h := by
  refine s_aload_n (pc := 2286) C dL_law_2286 rfl 1 rfl ?_
  refine s_aload_nQ (pc := 2287) C dL_law_2287 rfl 0 rfl ?_
  refine s_iload (pc := 2288) C dL_law_2288 5 rfl ?_
  refine s_iconst (pc := 2290) C dL_law_2290 (x := (1 : Int32)) (by decide) ?_
  refine s_iadd (pc := 2291) C dL_law_2291 ?_
  refine s_sld (pc := 2292) hs H.1 C dL_law_2292 ?_
  have H := H.2
  refine s_i2c (pc := 2293) C dL_law_2293 ?_
  refine s_aload_n (pc := 2294) C dL_law_2294 rfl 3 rfl ?_
  refine s_callsH (pc := 2295) (nA := 3) (as := [vR 0 0 0, vI (((xs (x5 + (1 : Int32)).toNatClampNeg).toUInt32 % 65536).toInt32), vR 15 0 0]) (st := []) (stk := [vR 15 0 0, vI (((xs (x5 + (1 : Int32)).toNatClampNeg).toUInt32 % 65536).toInt32), vR 0 0 0]) C (fun l hl => ctL_append l hl (((xs (x5 + (1 : Int32)).toNatClampNeg).toUInt32 % 65536).toInt32) _ _ H) (fun _ _ z => z) rfl ⟨⟨kw_1040, kw_57, kw_1042⟩, ⟨by decide, by decide, by decide +kernel⟩, by decide, by decide⟩ kw_1041 rfl (Nat.le_of_ble_eq_true rfl) ⟨rm_le hk.1 (by decide), rm_le hk.2 (by decide)⟩ rfl dL_law_2295 (g_Kq_I (fun u2 h1 H => ?_) (fun E h1 H => H.elim))
  refine s_at (k' := k + 1) (n' := n + 150) (Nat.add_assoc k 0 1) (Nat.add_assoc n 0 150) ?_
  refine s_istore (pc := 2298) (ls' := [(6, vI u2), (0, vV (.ref a0)), (1, vR 0 0 0), (2, vR 5 0 0), (3, vR 15 0 0), (4, vR 16 0 0), (5, vI x5)]) C dL_law_2298 (by decide) rfl ?_
  refine s_aload_n (pc := 2300) C dL_law_2300 rfl 3 rfl ?_
  refine s_aload_nQ (pc := 2301) C dL_law_2301 rfl 1 rfl ?_
  refine s_iload (pc := 2302) C dL_law_2302 6 rfl ?_
  refine s_iconst (pc := 2304) C dL_law_2304 (x := (1 : Int32)) (by decide) ?_
  refine s_iadd (pc := 2305) C dL_law_2305 ?_
  refine s_sld (pc := 2306) hs H.1 C dL_law_2306 ?_
  have H := H.2
  refine s_i2c (pc := 2307) C dL_law_2307 ?_
  refine s_callv (pc := 2308) (nA := 1) (as := [vI (((xs (x5 + (1 : Int32)).toNatClampNeg).toUInt32 % 65536).toInt32)]) (st := []) (stk := [vI (((xs (x5 + (1 : Int32)).toNatClampNeg).toUInt32 % 65536).toInt32), vR 5 0 0]) ckX8 (Or.inl rfl) C (fun l hl => ctX8_append l hl (((xs (x5 + (1 : Int32)).toNatClampNeg).toUInt32 % 65536).toInt32) _ _ H) ⟨⟨kw_1865, kw_69, kw_1868⟩, rfl, ⟨by decide, by decide, by decide +kernel⟩, by decide, by decide⟩ kw_1866 (g_selW kw_1867) rfl (Nat.le_of_ble_eq_true rfl) ⟨rm_le hk.1 (by decide), rm_le hk.2 (by decide)⟩ rfl dL_law_2308 (g_Kq_I (fun u4 h3 H => ?_) (fun E h3 H => H.elim))
  refine s_at (k' := k + 1) (n' := n + 150) (Nat.add_assoc k 1 0) (Nat.add_assoc n 150 0) ?_
  refine s_istore (pc := 2311) (ls' := [(7, vI u4), (6, vI u2), (0, vV (.ref a0)), (1, vR 0 0 0), (2, vR 5 0 0), (3, vR 15 0 0), (4, vR 16 0 0), (5, vI x5)]) C dL_law_2311 (by decide) rfl ?_
  refine s_aload_n (pc := 2313) C dL_law_2313 rfl 4 rfl ?_
  refine s_callv (pc := 2314) (nA := 0) (as := []) (st := []) (stk := [vR 5 0 0]) ckX8 (Or.inl rfl) C (fun l hl => ctX8_thrown l hl _ _ H) ⟨⟨kw_1567, kw_69, kw_1570⟩, rfl, ⟨by decide, by decide, by decide +kernel⟩, by decide, by decide⟩ kw_1568 (g_selW kw_1569) rfl (Nat.le_of_ble_eq_true rfl) ⟨rm_le hk.1 (by decide), rm_le hk.2 (by decide)⟩ rfl dL_law_2314 (g_Kq_I (fun u6 h5 H => ?_) (fun E h5 H => H.elim))
  refine s_at (k' := k + 1) (n' := n + 150) (Nat.add_assoc k 1 0) (Nat.add_assoc n 150 0) ?_
  refine s_iload (pc := 2317) C dL_law_2317 1 rfl ?_
  refine s_icmp_eq (pc := 2319) (tgt := 2324) C dL_law_2319 (by decide) (fun c => ?_) (fun c => ?_)
  · have H := H.1 c
    refine s_iload (pc := 2324) C dL_law_2324 1 rfl ?_
    refine s_if_ne (pc := 2326) (tgt := 2341) C dL_law_2326 (by decide) (fun c => ?_) (fun c => ?_)
    · have H := H.1 c
      exact s_sub (ls' := [(0, vV (.ref a0)), (1, vR 0 0 0), (2, vR 5 0 0), (3, vR 15 0 0), (4, vR 16 0 0), (5, vI x5)]) [2, 3, 4, 5, 6, 7] rfl (vL_law_b2341 C hs hk R28 hR28 x5 h5 H)
    · have H := H.2 c
      refine s_aload_n (pc := 2329) C dL_law_2329 rfl 5 rfl ?_
      refine s_iconst (pc := 2330) C dL_law_2330 (x := (0 : Int32)) (by decide) ?_
      refine s_lald0 (pc := 2331) C dL_law_2331 ?_
      refine s_iload (pc := 2332) C dL_law_2332 0 rfl ?_
      refine s_i2l (pc := 2334) C dL_law_2334 ?_
      refine s_lcmp (pc := 2335) C dL_law_2335 ?_
      refine s_if_eq (pc := 2336) (tgt := 2341) C dL_law_2336 (by decide) (fun c => ?_) (fun c => ?_)
      · have H := H.1 c
        exact s_sub (ls' := [(0, vV (.ref a0)), (1, vR 0 0 0), (2, vR 5 0 0), (3, vR 15 0 0), (4, vR 16 0 0), (5, vI x5)]) [2, 3, 4, 5, 6, 7] rfl (vL_law_b2341 C hs hk R28 hR28 x5 h5 H)
      · have H := H.2 c
        refine s_iconst (pc := 2339) C dL_law_2339 (x := (0 : Int32)) (by decide) ?_
        exact s_iret (pc := 2340) rfl (by decide) ⟨rm_l1 hk.1 (by decide), rm_l1 hk.2 (by decide)⟩ H C dL_law_2340
  · have H := H.2 c
    refine s_iconst (pc := 2322) C dL_law_2322 (x := (0 : Int32)) (by decide) ?_
    exact s_iret (pc := 2323) rfl (by decide) ⟨rm_l1 hk.1 (by decide), rm_l1 hk.2 (by decide)⟩ H C dL_law_2323
set_option maxRecDepth 100000 in
set_option maxHeartbeats 4000000 in
theorem vL_law_b2344 {G : g_G} {X : g_X} {Q : g_R → g_Hp → Prop} {a0 L : Nat} {xs : Nat → Int32} (C : g_Cx y_ G X iL_law) (hs : g_Scr G X a0 L xs) {k n : Nat} (hk : k + 26 ≤ 603072 ∧ n + 1956 ≤ 7202922) (R28 : Int32 → g_Hp → Prop) (hR28 : ∀ (x5 : Int32) (h : g_Hp), R28 x5 h → g_V G X iL_law 603072 7202922 Q 28 (k + 26) (n + 1956) [(0, vV (.ref a0)), (1, vR 0 0 0), (2, vR 5 0 0), (3, vR 15 0 0), (4, vR 16 0 0), (5, vI x5)] [] h) (x5 : Int32) (h : g_Hp) (H : wL_law_b2344 a0 L xs Q R28 x5 h) : g_V G X iL_law 603072 7202922 Q 2344 (k + 0) (n + 0) [(0, vV (.ref a0)), (1, vR 0 0 0), (2, vR 5 0 0), (3, vR 15 0 0), (4, vR 16 0 0), (5, vI x5)] [] h := by
  refine s_aload_n (pc := 2344) C dL_law_2344 rfl 1 rfl ?_
  refine s_aload_n (pc := 2345) C dL_law_2345 rfl 3 rfl ?_
  refine s_callsH (pc := 2346) (nA := 2) (as := [vR 0 0 0, vR 15 0 0]) (st := []) (stk := [vR 15 0 0, vR 0 0 0]) C (fun l hl => ctL_run l hl _ _ H) (fun _ _ z => z) rfl ⟨⟨kw_1149, kw_57, kw_1151⟩, ⟨by decide, by decide, by decide +kernel⟩, by decide, by decide⟩ kw_1150 rfl (Nat.le_of_ble_eq_true rfl) ⟨rm_le hk.1 (by decide), rm_le hk.2 (by decide)⟩ rfl dL_law_2346 (g_Kq_I (fun u2 h1 H => ?_) (fun E h1 H => H.elim))
  refine s_at (k' := k + 2) (n' := n + 156) (Nat.add_assoc k 0 2) (Nat.add_assoc n 0 156) ?_
  refine s_istore (pc := 2349) (ls' := [(6, vI u2), (0, vV (.ref a0)), (1, vR 0 0 0), (2, vR 5 0 0), (3, vR 15 0 0), (4, vR 16 0 0), (5, vI x5)]) C dL_law_2349 (by decide) rfl ?_
  refine s_aload_n (pc := 2351) C dL_law_2351 rfl 3 rfl ?_
  refine s_callv (pc := 2352) (nA := 0) (as := []) (st := []) (stk := [vR 5 0 0]) ckX8 (Or.inl rfl) C (fun l hl => ctX8_run l hl _ _ H) ⟨⟨kw_1869, kw_69, kw_1872⟩, rfl, ⟨by decide, by decide, by decide +kernel⟩, by decide, by decide⟩ kw_1870 (g_selW kw_1871) rfl (Nat.le_of_ble_eq_true rfl) ⟨rm_le hk.1 (by decide), rm_le hk.2 (by decide)⟩ rfl dL_law_2352 (g_Kq_I (fun u4 h3 H => ?_) (fun E h3 H => H.elim))
  refine s_at (k' := k + 2) (n' := n + 156) (Nat.add_assoc k 2 0) (Nat.add_assoc n 156 0) ?_
  refine s_istore (pc := 2355) (ls' := [(7, vI u4), (6, vI u2), (0, vV (.ref a0)), (1, vR 0 0 0), (2, vR 5 0 0), (3, vR 15 0 0), (4, vR 16 0 0), (5, vI x5)]) C dL_law_2355 (by decide) rfl ?_
  refine s_aload_n (pc := 2357) C dL_law_2357 rfl 4 rfl ?_
  refine s_callv (pc := 2358) (nA := 0) (as := []) (st := []) (stk := [vR 5 0 0]) ckX8 (Or.inl rfl) C (fun l hl => ctX8_thrown l hl _ _ H) ⟨⟨kw_1567, kw_69, kw_1570⟩, rfl, ⟨by decide, by decide, by decide +kernel⟩, by decide, by decide⟩ kw_1568 (g_selW kw_1569) rfl (Nat.le_of_ble_eq_true rfl) ⟨rm_le hk.1 (by decide), rm_le hk.2 (by decide)⟩ rfl dL_law_2358 (g_Kq_I (fun u6 h5 H => ?_) (fun E h5 H => H.elim))
  refine s_at (k' := k + 2) (n' := n + 156) (Nat.add_assoc k 2 0) (Nat.add_assoc n 156 0) ?_
  refine s_iload (pc := 2361) C dL_law_2361 1 rfl ?_
  refine s_icmp_eq (pc := 2363) (tgt := 2368) C dL_law_2363 (by decide) (fun c => ?_) (fun c => ?_)
  · have H := H.1 c
    refine s_iload (pc := 2368) C dL_law_2368 1 rfl ?_
    refine s_if_ne (pc := 2370) (tgt := 2385) C dL_law_2370 (by decide) (fun c => ?_) (fun c => ?_)
    · have H := H.1 c
      exact s_sub (ls' := [(0, vV (.ref a0)), (1, vR 0 0 0), (2, vR 5 0 0), (3, vR 15 0 0), (4, vR 16 0 0), (5, vI x5)]) [2, 3, 4, 5, 6, 7] rfl (vL_law_b2385 C hs hk R28 hR28 x5 h5 H)
    · have H := H.2 c
      refine s_aload_n (pc := 2373) C dL_law_2373 rfl 5 rfl ?_
      refine s_iconst (pc := 2374) C dL_law_2374 (x := (0 : Int32)) (by decide) ?_
      refine s_lald0 (pc := 2375) C dL_law_2375 ?_
      refine s_iload (pc := 2376) C dL_law_2376 0 rfl ?_
      refine s_i2l (pc := 2378) C dL_law_2378 ?_
      refine s_lcmp (pc := 2379) C dL_law_2379 ?_
      refine s_if_eq (pc := 2380) (tgt := 2385) C dL_law_2380 (by decide) (fun c => ?_) (fun c => ?_)
      · have H := H.1 c
        exact s_sub (ls' := [(0, vV (.ref a0)), (1, vR 0 0 0), (2, vR 5 0 0), (3, vR 15 0 0), (4, vR 16 0 0), (5, vI x5)]) [2, 3, 4, 5, 6, 7] rfl (vL_law_b2385 C hs hk R28 hR28 x5 h5 H)
      · have H := H.2 c
        refine s_iconst (pc := 2383) C dL_law_2383 (x := (0 : Int32)) (by decide) ?_
        exact s_iret (pc := 2384) rfl (by decide) ⟨rm_l1 hk.1 (by decide), rm_l1 hk.2 (by decide)⟩ H C dL_law_2384
  · have H := H.2 c
    refine s_iconst (pc := 2366) C dL_law_2366 (x := (0 : Int32)) (by decide) ?_
    exact s_iret (pc := 2367) rfl (by decide) ⟨rm_l1 hk.1 (by decide), rm_l1 hk.2 (by decide)⟩ H C dL_law_2367
set_option maxRecDepth 100000 in
set_option maxHeartbeats 4000000 in
theorem vL_law_b2388 {G : g_G} {X : g_X} {Q : g_R → g_Hp → Prop} {a0 L : Nat} {xs : Nat → Int32} (C : g_Cx y_ G X iL_law) (hs : g_Scr G X a0 L xs) {k n : Nat} (hk : k + 26 ≤ 603072 ∧ n + 1956 ≤ 7202922) (R28 : Int32 → g_Hp → Prop) (hR28 : ∀ (x5 : Int32) (h : g_Hp), R28 x5 h → g_V G X iL_law 603072 7202922 Q 28 (k + 26) (n + 1956) [(0, vV (.ref a0)), (1, vR 0 0 0), (2, vR 5 0 0), (3, vR 15 0 0), (4, vR 16 0 0), (5, vI x5)] [] h) (x5 : Int32) (h : g_Hp) (H : wL_law_b2388 a0 L xs Q R28 x5 h) : g_V G X iL_law 603072 7202922 Q 2388 (k + 0) (n + 0) [(0, vV (.ref a0)), (1, vR 0 0 0), (2, vR 5 0 0), (3, vR 15 0 0), (4, vR 16 0 0), (5, vI x5)] [] h := by
  refine s_aload_n (pc := 2388) C dL_law_2388 rfl 1 rfl ?_
  refine s_aload_n (pc := 2389) C dL_law_2389 rfl 3 rfl ?_
  refine s_callsH (pc := 2390) (nA := 2) (as := [vR 0 0 0, vR 15 0 0]) (st := []) (stk := [vR 15 0 0, vR 0 0 0]) C (fun l hl => ctL_errorPosition l hl _ _ H) (fun _ _ z => z) rfl ⟨⟨kw_1443, kw_57, kw_1445⟩, ⟨by decide, by decide, by decide +kernel⟩, by decide, by decide⟩ kw_1444 rfl (Nat.le_of_ble_eq_true rfl) ⟨rm_le hk.1 (by decide), rm_le hk.2 (by decide)⟩ rfl dL_law_2390 (g_Kq_I (fun u2 h1 H => ?_) (fun E h1 H => H.elim))
  refine s_at (k' := k + 1) (n' := n + 6) (Nat.add_assoc k 0 1) (Nat.add_assoc n 0 6) ?_
  refine s_istore (pc := 2393) (ls' := [(6, vI u2), (0, vV (.ref a0)), (1, vR 0 0 0), (2, vR 5 0 0), (3, vR 15 0 0), (4, vR 16 0 0), (5, vI x5)]) C dL_law_2393 (by decide) rfl ?_
  refine s_aload_n (pc := 2395) C dL_law_2395 rfl 3 rfl ?_
  refine s_callv (pc := 2396) (nA := 0) (as := []) (st := []) (stk := [vR 5 0 0]) ckX8 (Or.inl rfl) C (fun l hl => ctX8_errorPosition l hl _ _ H) ⟨⟨kw_1909, kw_69, kw_1912⟩, rfl, ⟨by decide, by decide, by decide +kernel⟩, by decide, by decide⟩ kw_1910 (g_selW kw_1911) rfl (Nat.le_of_ble_eq_true rfl) ⟨rm_le hk.1 (by decide), rm_le hk.2 (by decide)⟩ rfl dL_law_2396 (g_Kq_I (fun u4 h3 H => ?_) (fun E h3 H => H.elim))
  refine s_at (k' := k + 1) (n' := n + 6) (Nat.add_assoc k 1 0) (Nat.add_assoc n 6 0) ?_
  refine s_istore (pc := 2399) (ls' := [(7, vI u4), (6, vI u2), (0, vV (.ref a0)), (1, vR 0 0 0), (2, vR 5 0 0), (3, vR 15 0 0), (4, vR 16 0 0), (5, vI x5)]) C dL_law_2399 (by decide) rfl ?_
  refine s_aload_n (pc := 2401) C dL_law_2401 rfl 4 rfl ?_
  refine s_callv (pc := 2402) (nA := 0) (as := []) (st := []) (stk := [vR 5 0 0]) ckX8 (Or.inl rfl) C (fun l hl => ctX8_thrown l hl _ _ H) ⟨⟨kw_1567, kw_69, kw_1570⟩, rfl, ⟨by decide, by decide, by decide +kernel⟩, by decide, by decide⟩ kw_1568 (g_selW kw_1569) rfl (Nat.le_of_ble_eq_true rfl) ⟨rm_le hk.1 (by decide), rm_le hk.2 (by decide)⟩ rfl dL_law_2402 (g_Kq_I (fun u6 h5 H => ?_) (fun E h5 H => H.elim))
  refine s_at (k' := k + 1) (n' := n + 6) (Nat.add_assoc k 1 0) (Nat.add_assoc n 6 0) ?_
  refine s_iload (pc := 2405) C dL_law_2405 1 rfl ?_
  refine s_icmp_eq (pc := 2407) (tgt := 2412) C dL_law_2407 (by decide) (fun c => ?_) (fun c => ?_)
  · have H := H.1 c
    refine s_iload (pc := 2412) C dL_law_2412 1 rfl ?_
    refine s_if_ne (pc := 2414) (tgt := 2429) C dL_law_2414 (by decide) (fun c => ?_) (fun c => ?_)
    · have H := H.1 c
      exact s_sub (ls' := [(0, vV (.ref a0)), (1, vR 0 0 0), (2, vR 5 0 0), (3, vR 15 0 0), (4, vR 16 0 0), (5, vI x5)]) [2, 3, 4, 5, 6, 7] rfl (vL_law_b2429 C hs hk R28 hR28 x5 h5 H)
    · have H := H.2 c
      refine s_aload_n (pc := 2417) C dL_law_2417 rfl 5 rfl ?_
      refine s_iconst (pc := 2418) C dL_law_2418 (x := (0 : Int32)) (by decide) ?_
      refine s_lald0 (pc := 2419) C dL_law_2419 ?_
      refine s_iload (pc := 2420) C dL_law_2420 0 rfl ?_
      refine s_i2l (pc := 2422) C dL_law_2422 ?_
      refine s_lcmp (pc := 2423) C dL_law_2423 ?_
      refine s_if_eq (pc := 2424) (tgt := 2429) C dL_law_2424 (by decide) (fun c => ?_) (fun c => ?_)
      · have H := H.1 c
        exact s_sub (ls' := [(0, vV (.ref a0)), (1, vR 0 0 0), (2, vR 5 0 0), (3, vR 15 0 0), (4, vR 16 0 0), (5, vI x5)]) [2, 3, 4, 5, 6, 7] rfl (vL_law_b2429 C hs hk R28 hR28 x5 h5 H)
      · have H := H.2 c
        refine s_iconst (pc := 2427) C dL_law_2427 (x := (0 : Int32)) (by decide) ?_
        exact s_iret (pc := 2428) rfl (by decide) ⟨rm_l1 hk.1 (by decide), rm_l1 hk.2 (by decide)⟩ H C dL_law_2428
  · have H := H.2 c
    refine s_iconst (pc := 2410) C dL_law_2410 (x := (0 : Int32)) (by decide) ?_
    exact s_iret (pc := 2411) rfl (by decide) ⟨rm_l1 hk.1 (by decide), rm_l1 hk.2 (by decide)⟩ H C dL_law_2411
