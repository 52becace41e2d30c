/-! the law: cases -/
set_option maxRecDepth 100000 in
set_option maxHeartbeats 4000000 in
theorem vL_law_b2432 {G : g_G} {X : g_X} {Q : g_R → g_Hp → Prop} {a0 L : Nat} {xs : Nat → Int32} (C : g_Cx y_ G X iL_law) (hs : g_Scr G X a0 L xs) {k n : Nat} (hk : k + 26 ≤ 603072 ∧ n + 1956 ≤ 7202922) (R28 : Int32 → g_Hp → Prop) (hR28 : ∀ (x5 : Int32) (h : g_Hp), R28 x5 h → g_V G X iL_law 603072 7202922 Q 28 (k + 26) (n + 1956) [(0, vV (.ref a0)), (1, vR 0 0 0), (2, vR 5 0 0), (3, vR 15 0 0), (4, vR 16 0 0), (5, vI x5)] [] h) (x5 : Int32) (h : g_Hp) (H : wL_law_b2432 a0 L xs Q R28 x5 h) : g_V G X iL_law 603072 7202922 Q 2432 (k + 0) (n + 0) [(0, vV (.ref a0)), (1, vR 0 0 0), (2, vR 5 0 0), (3, vR 15 0 0), (4, vR 16 0 0), (5, vI x5)] [] h := by
  refine s_aload_n (pc := 2432) C dL_law_2432 rfl 1 rfl ?_
  refine s_aload_n (pc := 2433) C dL_law_2433 rfl 3 rfl ?_
  refine s_callsH (pc := 2434) (nA := 2) (as := [vR 0 0 0, vR 15 0 0]) (st := []) (stk := [vR 15 0 0, vR 0 0 0]) C (fun l hl => ctL_failedCommand l hl _ _ H) (fun _ _ z => z) rfl ⟨⟨kw_1451, kw_57, kw_1453⟩, ⟨by decide, by decide, by decide +kernel⟩, by decide, by decide⟩ kw_1452 rfl (Nat.le_of_ble_eq_true rfl) ⟨rm_le hk.1 (by decide), rm_le hk.2 (by decide)⟩ rfl dL_law_2434 (g_Kq_I (fun u2 h1 H => ?_) (fun E h1 H => H.elim))
  refine s_at (k' := k + 1) (n' := n + 6) (Nat.add_assoc k 0 1) (Nat.add_assoc n 0 6) ?_
  refine s_istore (pc := 2437) (ls' := [(6, vI u2), (0, vV (.ref a0)), (1, vR 0 0 0), (2, vR 5 0 0), (3, vR 15 0 0), (4, vR 16 0 0), (5, vI x5)]) C dL_law_2437 (by decide) rfl ?_
  refine s_aload_n (pc := 2439) C dL_law_2439 rfl 3 rfl ?_
  refine s_callv (pc := 2440) (nA := 0) (as := []) (st := []) (stk := [vR 5 0 0]) ckX8 (Or.inl rfl) C (fun l hl => ctX8_failedCommand l hl _ _ H) ⟨⟨kw_1913, kw_69, kw_1916⟩, rfl, ⟨by decide, by decide, by decide +kernel⟩, by decide, by decide⟩ kw_1914 (g_selW kw_1915) rfl (Nat.le_of_ble_eq_true rfl) ⟨rm_le hk.1 (by decide), rm_le hk.2 (by decide)⟩ rfl dL_law_2440 (g_Kq_I (fun u4 h3 H => ?_) (fun E h3 H => H.elim))
  refine s_at (k' := k + 1) (n' := n + 6) (Nat.add_assoc k 1 0) (Nat.add_assoc n 6 0) ?_
  refine s_istore (pc := 2443) (ls' := [(7, vI u4), (6, vI u2), (0, vV (.ref a0)), (1, vR 0 0 0), (2, vR 5 0 0), (3, vR 15 0 0), (4, vR 16 0 0), (5, vI x5)]) C dL_law_2443 (by decide) rfl ?_
  refine s_aload_n (pc := 2445) C dL_law_2445 rfl 4 rfl ?_
  refine s_callv (pc := 2446) (nA := 0) (as := []) (st := []) (stk := [vR 5 0 0]) ckX8 (Or.inl rfl) C (fun l hl => ctX8_thrown l hl _ _ H) ⟨⟨kw_1567, kw_69, kw_1570⟩, rfl, ⟨by decide, by decide, by decide +kernel⟩, by decide, by decide⟩ kw_1568 (g_selW kw_1569) rfl (Nat.le_of_ble_eq_true rfl) ⟨rm_le hk.1 (by decide), rm_le hk.2 (by decide)⟩ rfl dL_law_2446 (g_Kq_I (fun u6 h5 H => ?_) (fun E h5 H => H.elim))
  refine s_at (k' := k + 1) (n' := n + 6) (Nat.add_assoc k 1 0) (Nat.add_assoc n 6 0) ?_
  refine s_iload (pc := 2449) C dL_law_2449 1 rfl ?_
  refine s_icmp_eq (pc := 2451) (tgt := 2456) C dL_law_2451 (by decide) (fun c => ?_) (fun c => ?_)
  · have H := H.1 c
    refine s_iload (pc := 2456) C dL_law_2456 1 rfl ?_
    refine s_if_ne (pc := 2458) (tgt := 2473) C dL_law_2458 (by decide) (fun c => ?_) (fun c => ?_)
    · have H := H.1 c
      exact s_sub (ls' := [(0, vV (.ref a0)), (1, vR 0 0 0), (2, vR 5 0 0), (3, vR 15 0 0), (4, vR 16 0 0), (5, vI x5)]) [2, 3, 4, 5, 6, 7] rfl (vL_law_b2473 C hs hk R28 hR28 x5 h5 H)
    · have H := H.2 c
      refine s_aload_n (pc := 2461) C dL_law_2461 rfl 5 rfl ?_
      refine s_iconst (pc := 2462) C dL_law_2462 (x := (0 : Int32)) (by decide) ?_
      refine s_lald0 (pc := 2463) C dL_law_2463 ?_
      refine s_iload (pc := 2464) C dL_law_2464 0 rfl ?_
      refine s_i2l (pc := 2466) C dL_law_2466 ?_
      refine s_lcmp (pc := 2467) C dL_law_2467 ?_
      refine s_if_eq (pc := 2468) (tgt := 2473) C dL_law_2468 (by decide) (fun c => ?_) (fun c => ?_)
      · have H := H.1 c
        exact s_sub (ls' := [(0, vV (.ref a0)), (1, vR 0 0 0), (2, vR 5 0 0), (3, vR 15 0 0), (4, vR 16 0 0), (5, vI x5)]) [2, 3, 4, 5, 6, 7] rfl (vL_law_b2473 C hs hk R28 hR28 x5 h5 H)
      · have H := H.2 c
        refine s_iconst (pc := 2471) C dL_law_2471 (x := (0 : Int32)) (by decide) ?_
        exact s_iret (pc := 2472) rfl (by decide) ⟨rm_l1 hk.1 (by decide), rm_l1 hk.2 (by decide)⟩ H C dL_law_2472
  · have H := H.2 c
    refine s_iconst (pc := 2454) C dL_law_2454 (x := (0 : Int32)) (by decide) ?_
    exact s_iret (pc := 2455) rfl (by decide) ⟨rm_l1 hk.1 (by decide), rm_l1 hk.2 (by decide)⟩ H C dL_law_2455
set_option maxRecDepth 100000 in
set_option maxHeartbeats 4000000 in
theorem vL_law_b2476 {G : g_G} {X : g_X} {Q : g_R → g_Hp → Prop} {a0 L : Nat} {xs : Nat → Int32} (C : g_Cx y_ G X iL_law) (hs : g_Scr G X a0 L xs) {k n : Nat} (hk : k + 26 ≤ 603072 ∧ n + 1956 ≤ 7202922) (R28 : Int32 → g_Hp → Prop) (hR28 : ∀ (x5 : Int32) (h : g_Hp), R28 x5 h → g_V G X iL_law 603072 7202922 Q 28 (k + 26) (n + 1956) [(0, vV (.ref a0)), (1, vR 0 0 0), (2, vR 5 0 0), (3, vR 15 0 0), (4, vR 16 0 0), (5, vI x5)] [] h) (x5 : Int32) (h : g_Hp) (H : wL_law_b2476 a0 L xs Q R28 x5 h) : g_V G X iL_law 603072 7202922 Q 2476 (k + 0) (n + 0) [(0, vV (.ref a0)), (1, vR 0 0 0), (2, vR 5 0 0), (3, vR 15 0 0), (4, vR 16 0 0), (5, vI x5)] [] h := by
  refine s_aload_n (pc := 2476) C dL_law_2476 rfl 1 rfl ?_
  refine s_aload_nQ (pc := 2477) C dL_law_2477 rfl 0 rfl ?_
  refine s_iload (pc := 2478) C dL_law_2478 5 rfl ?_
  refine s_iconst (pc := 2480) C dL_law_2480 (x := (1 : Int32)) (by decide) ?_
  refine s_iadd (pc := 2481) C dL_law_2481 ?_
  refine s_sld (pc := 2482) hs H.1 C dL_law_2482 ?_
  have H := H.2
  refine s_aload_n (pc := 2483) C dL_law_2483 rfl 3 rfl ?_
  refine s_callsH (pc := 2484) (nA := 3) (as := [vR 0 0 0, vI (xs (x5 + (1 : Int32)).toNatClampNeg), vR 15 0 0]) (st := []) (stk := [vR 15 0 0, vI (xs (x5 + (1 : Int32)).toNatClampNeg), vR 0 0 0]) C (fun l hl => ctL_describeMember l hl (xs (x5 + (1 : Int32)).toNatClampNeg) _ _ H) (fun _ _ z => z) rfl ⟨⟨kw_1459, kw_57, kw_1461⟩, ⟨by decide, by decide, by decide +kernel⟩, by decide, by decide⟩ kw_1460 rfl (Nat.le_of_ble_eq_true rfl) ⟨rm_le hk.1 (by decide), rm_le hk.2 (by decide)⟩ rfl dL_law_2484 (g_Kq_I (fun u2 h1 H => ?_) (fun E h1 H => H.elim))
  refine s_at (k' := k + 14) (n' := n + 1956) (Nat.add_assoc k 0 14) (Nat.add_assoc n 0 1956) ?_
  refine s_istore (pc := 2487) (ls' := [(6, vI u2), (0, vV (.ref a0)), (1, vR 0 0 0), (2, vR 5 0 0), (3, vR 15 0 0), (4, vR 16 0 0), (5, vI x5)]) C dL_law_2487 (by decide) rfl ?_
  refine s_aload_n (pc := 2489) C dL_law_2489 rfl 3 rfl ?_
  refine s_aload_nQ (pc := 2490) C dL_law_2490 rfl 1 rfl ?_
  refine s_iload (pc := 2491) C dL_law_2491 6 rfl ?_
  refine s_iconst (pc := 2493) C dL_law_2493 (x := (1 : Int32)) (by decide) ?_
  refine s_iadd (pc := 2494) C dL_law_2494 ?_
  refine s_sld (pc := 2495) hs H.1 C dL_law_2495 ?_
  have H := H.2
  refine s_callv (pc := 2496) (nA := 1) (as := [vI (xs (x5 + (1 : Int32)).toNatClampNeg)]) (st := []) (stk := [vI (xs (x5 + (1 : Int32)).toNatClampNeg), vR 5 0 0]) ckX8 (Or.inl rfl) C (fun l hl => ctX8_describeMember l hl (xs (x5 + (1 : Int32)).toNatClampNeg) _ _ H) ⟨⟨kw_1917, kw_69, kw_1920⟩, rfl, ⟨by decide, by decide, by decide +kernel⟩, by decide, by decide⟩ kw_1918 (g_selW kw_1919) rfl (Nat.le_of_ble_eq_true rfl) ⟨rm_le hk.1 (by decide), rm_le hk.2 (by decide)⟩ rfl dL_law_2496 (g_Kq_I (fun u4 h3 H => ?_) (fun E h3 H => H.elim))
  refine s_at (k' := k + 14) (n' := n + 1956) (Nat.add_assoc k 14 0) (Nat.add_assoc n 1956 0) ?_
  refine s_istore (pc := 2499) (ls' := [(7, vI u4), (6, vI u2), (0, vV (.ref a0)), (1, vR 0 0 0), (2, vR 5 0 0), (3, vR 15 0 0), (4, vR 16 0 0), (5, vI x5)]) C dL_law_2499 (by decide) rfl ?_
  refine s_aload_n (pc := 2501) C dL_law_2501 rfl 4 rfl ?_
  refine s_callv (pc := 2502) (nA := 0) (as := []) (st := []) (stk := [vR 5 0 0]) ckX8 (Or.inl rfl) C (fun l hl => ctX8_thrown l hl _ _ H) ⟨⟨kw_1567, kw_69, kw_1570⟩, rfl, ⟨by decide, by decide, by decide +kernel⟩, by decide, by decide⟩ kw_1568 (g_selW kw_1569) rfl (Nat.le_of_ble_eq_true rfl) ⟨rm_le hk.1 (by decide), rm_le hk.2 (by decide)⟩ rfl dL_law_2502 (g_Kq_I (fun u6 h5 H => ?_) (fun E h5 H => H.elim))
  refine s_at (k' := k + 14) (n' := n + 1956) (Nat.add_assoc k 14 0) (Nat.add_assoc n 1956 0) ?_
  refine s_iload (pc := 2505) C dL_law_2505 1 rfl ?_
  refine s_icmp_eq (pc := 2507) (tgt := 2512) C dL_law_2507 (by decide) (fun c => ?_) (fun c => ?_)
  · have H := H.1 c
    refine s_iload (pc := 2512) C dL_law_2512 1 rfl ?_
    refine s_if_ne (pc := 2514) (tgt := 2529) C dL_law_2514 (by decide) (fun c => ?_) (fun c => ?_)
    · have H := H.1 c
      exact s_sub (ls' := [(0, vV (.ref a0)), (1, vR 0 0 0), (2, vR 5 0 0), (3, vR 15 0 0), (4, vR 16 0 0), (5, vI x5)]) [2, 3, 4, 5, 6, 7] rfl (vL_law_b2529 C hs hk R28 hR28 x5 h5 H)
    · have H := H.2 c
      refine s_aload_n (pc := 2517) C dL_law_2517 rfl 5 rfl ?_
      refine s_iconst (pc := 2518) C dL_law_2518 (x := (0 : Int32)) (by decide) ?_
      refine s_lald0 (pc := 2519) C dL_law_2519 ?_
      refine s_iload (pc := 2520) C dL_law_2520 0 rfl ?_
      refine s_i2l (pc := 2522) C dL_law_2522 ?_
      refine s_lcmp (pc := 2523) C dL_law_2523 ?_
      refine s_if_eq (pc := 2524) (tgt := 2529) C dL_law_2524 (by decide) (fun c => ?_) (fun c => ?_)
      · have H := H.1 c
        exact s_sub (ls' := [(0, vV (.ref a0)), (1, vR 0 0 0), (2, vR 5 0 0), (3, vR 15 0 0), (4, vR 16 0 0), (5, vI x5)]) [2, 3, 4, 5, 6, 7] rfl (vL_law_b2529 C hs hk R28 hR28 x5 h5 H)
      · have H := H.2 c
        refine s_iconst (pc := 2527) C dL_law_2527 (x := (0 : Int32)) (by decide) ?_
        exact s_iret (pc := 2528) rfl (by decide) ⟨rm_l1 hk.1 (by decide), rm_l1 hk.2 (by decide)⟩ H C dL_law_2528
  · have H := H.2 c
    refine s_iconst (pc := 2510) C dL_law_2510 (x := (0 : Int32)) (by decide) ?_
    exact s_iret (pc := 2511) rfl (by decide) ⟨rm_l1 hk.1 (by decide), rm_l1 hk.2 (by decide)⟩ H C dL_law_2511
set_option maxRecDepth 100000 in
set_option maxHeartbeats 4000000 in
theorem vL_law_b2532 {G : g_G} {X : g_X} {Q : g_R → g_Hp → Prop} {a0 L : Nat} {xs : Nat → Int32} (C : g_Cx y_ G X iL_law) (hs : g_Scr G X a0 L xs) {k n : Nat} (hk : k + 26 ≤ 603072 ∧ n + 1956 ≤ 7202922) (R28 : Int32 → g_Hp → Prop) (hR28 : ∀ (x5 : Int32) (h : g_Hp), R28 x5 h → g_V G X iL_law 603072 7202922 Q 28 (k + 26) (n + 1956) [(0, vV (.ref a0)), (1, vR 0 0 0), (2, vR 5 0 0), (3, vR 15 0 0), (4, vR 16 0 0), (5, vI x5)] [] h) (x5 : Int32) (h : g_Hp) (H : wL_law_b2532 a0 L xs Q R28 x5 h) : g_V G X iL_law 603072 7202922 Q 2532 (k + 0) (n + 0) [(0, vV (.ref a0)), (1, vR 0 0 0), (2, vR 5 0 0), (3, vR 15 0 0), (4, vR 16 0 0), (5, vI x5)] [] h := by
  refine s_aload_n (pc := 2532) C dL_law_2532 rfl 1 rfl ?_
  refine s_aload_nQ (pc := 2533) C dL_law_2533 rfl 0 rfl ?_
  refine s_iload (pc := 2534) C dL_law_2534 5 rfl ?_
  refine s_iconst (pc := 2536) C dL_law_2536 (x := (1 : Int32)) (by decide) ?_
  refine s_iadd (pc := 2537) C dL_law_2537 ?_
  refine s_sld (pc := 2538) hs H.1 C dL_law_2538 ?_
  have H := H.2
  refine s_aload_n (pc := 2539) C dL_law_2539 rfl 3 rfl ?_
  refine s_callsH (pc := 2540) (nA := 3) (as := [vR 0 0 0, vI (xs (x5 + (1 : Int32)).toNatClampNeg), vR 15 0 0]) (st := []) (stk := [vR 15 0 0, vI (xs (x5 + (1 : Int32)).toNatClampNeg), vR 0 0 0]) C (fun l hl => ctL_lineAt l hl (xs (x5 + (1 : Int32)).toNatClampNeg) _ _ H) (fun _ _ z => z) rfl ⟨⟨kw_1467, kw_57, kw_1469⟩, ⟨by decide, by decide, by decide +kernel⟩, by decide, by decide⟩ kw_1468 rfl (Nat.le_of_ble_eq_true rfl) ⟨rm_le hk.1 (by decide), rm_le hk.2 (by decide)⟩ rfl dL_law_2540 (g_Kq_I (fun u2 h1 H => ?_) (fun E h1 H => H.elim))
  refine s_at (k' := k + 1) (n' := n + 6) (Nat.add_assoc k 0 1) (Nat.add_assoc n 0 6) ?_
  refine s_istore (pc := 2543) (ls' := [(6, vI u2), (0, vV (.ref a0)), (1, vR 0 0 0), (2, vR 5 0 0), (3, vR 15 0 0), (4, vR 16 0 0), (5, vI x5)]) C dL_law_2543 (by decide) rfl ?_
  refine s_aload_n (pc := 2545) C dL_law_2545 rfl 3 rfl ?_
  refine s_aload_nQ (pc := 2546) C dL_law_2546 rfl 1 rfl ?_
  refine s_iload (pc := 2547) C dL_law_2547 6 rfl ?_
  refine s_iconst (pc := 2549) C dL_law_2549 (x := (1 : Int32)) (by decide) ?_
  refine s_iadd (pc := 2550) C dL_law_2550 ?_
  refine s_sld (pc := 2551) hs H.1 C dL_law_2551 ?_
  have H := H.2
  refine s_callv (pc := 2552) (nA := 1) (as := [vI (xs (x5 + (1 : Int32)).toNatClampNeg)]) (st := []) (stk := [vI (xs (x5 + (1 : Int32)).toNatClampNeg), vR 5 0 0]) ckX8 (Or.inl rfl) C (fun l hl => ctX8_lineAt l hl (xs (x5 + (1 : Int32)).toNatClampNeg) _ _ H) ⟨⟨kw_1933, kw_69, kw_1936⟩, rfl, ⟨by decide, by decide, by decide +kernel⟩, by decide, by decide⟩ kw_1934 (g_selW kw_1935) rfl (Nat.le_of_ble_eq_true rfl) ⟨rm_le hk.1 (by decide), rm_le hk.2 (by decide)⟩ rfl dL_law_2552 (g_Kq_I (fun u4 h3 H => ?_) (fun E h3 H => H.elim))
  refine s_at (k' := k + 1) (n' := n + 6) (Nat.add_assoc k 1 0) (Nat.add_assoc n 6 0) ?_
  refine s_istore (pc := 2555) (ls' := [(7, vI u4), (6, vI u2), (0, vV (.ref a0)), (1, vR 0 0 0), (2, vR 5 0 0), (3, vR 15 0 0), (4, vR 16 0 0), (5, vI x5)]) C dL_law_2555 (by decide) rfl ?_
  refine s_aload_n (pc := 2557) C dL_law_2557 rfl 4 rfl ?_
  refine s_callv (pc := 2558) (nA := 0) (as := []) (st := []) (stk := [vR 5 0 0]) ckX8 (Or.inl rfl) C (fun l hl => ctX8_thrown l hl _ _ H) ⟨⟨kw_1567, kw_69, kw_1570⟩, rfl, ⟨by decide, by decide, by decide +kernel⟩, by decide, by decide⟩ kw_1568 (g_selW kw_1569) rfl (Nat.le_of_ble_eq_true rfl) ⟨rm_le hk.1 (by decide), rm_le hk.2 (by decide)⟩ rfl dL_law_2558 (g_Kq_I (fun u6 h5 H => ?_) (fun E h5 H => H.elim))
  refine s_at (k' := k + 1) (n' := n + 6) (Nat.add_assoc k 1 0) (Nat.add_assoc n 6 0) ?_
  refine s_iload (pc := 2561) C dL_law_2561 1 rfl ?_
  refine s_icmp_eq (pc := 2563) (tgt := 2568) C dL_law_2563 (by decide) (fun c => ?_) (fun c => ?_)
  · have H := H.1 c
    refine s_iload (pc := 2568) C dL_law_2568 1 rfl ?_
    refine s_if_ne (pc := 2570) (tgt := 2585) C dL_law_2570 (by decide) (fun c => ?_) (fun c => ?_)
    · have H := H.1 c
      exact s_sub (ls' := [(0, vV (.ref a0)), (1, vR 0 0 0), (2, vR 5 0 0), (3, vR 15 0 0), (4, vR 16 0 0), (5, vI x5)]) [2, 3, 4, 5, 6, 7] rfl (vL_law_b2585 C hs hk R28 hR28 x5 h5 H)
    · have H := H.2 c
      refine s_aload_n (pc := 2573) C dL_law_2573 rfl 5 rfl ?_
      refine s_iconst (pc := 2574) C dL_law_2574 (x := (0 : Int32)) (by decide) ?_
      refine s_lald0 (pc := 2575) C dL_law_2575 ?_
      refine s_iload (pc := 2576) C dL_law_2576 0 rfl ?_
      refine s_i2l (pc := 2578) C dL_law_2578 ?_
      refine s_lcmp (pc := 2579) C dL_law_2579 ?_
      refine s_if_eq (pc := 2580) (tgt := 2585) C dL_law_2580 (by decide) (fun c => ?_) (fun c => ?_)
      · have H := H.1 c
        exact s_sub (ls' := [(0, vV (.ref a0)), (1, vR 0 0 0), (2, vR 5 0 0), (3, vR 15 0 0), (4, vR 16 0 0), (5, vI x5)]) [2, 3, 4, 5, 6, 7] rfl (vL_law_b2585 C hs hk R28 hR28 x5 h5 H)
      · have H := H.2 c
        refine s_iconst (pc := 2583) C dL_law_2583 (x := (0 : Int32)) (by decide) ?_
        exact s_iret (pc := 2584) rfl (by decide) ⟨rm_l1 hk.1 (by decide), rm_l1 hk.2 (by decide)⟩ H C dL_law_2584
  · have H := H.2 c
    refine s_iconst (pc := 2566) C dL_law_2566 (x := (0 : Int32)) (by decide) ?_
    exact s_iret (pc := 2567) rfl (by decide) ⟨rm_l1 hk.1 (by decide), rm_l1 hk.2 (by decide)⟩ H C dL_law_2567
set_option maxRecDepth 100000 in
set_option maxHeartbeats 4000000 in
theorem vL_law_b2588 {G : g_G} {X : g_X} {Q : g_R → g_Hp → Prop} {a0 L : Nat} {xs : Nat → Int32} (C : g_Cx y_ G X iL_law) (hs : g_Scr G X a0 L xs) {k n : Nat} (hk : k + 26 ≤ 603072 ∧ n + 1956 ≤ 7202922) (R28 : Int32 → g_Hp → Prop) (hR28 : ∀ (x5 : Int32) (h : g_Hp), R28 x5 h → g_V G X iL_law 603072 7202922 Q 28 (k + 26) (n + 1956) [(0, vV (.ref a0)), (1, vR 0 0 0), (2, vR 5 0 0), (3, vR 15 0 0), (4, vR 16 0 0), (5, vI x5)] [] h) (x5 : Int32) (h : g_Hp) (H : wL_law_b2588 a0 L xs Q R28 x5 h) : g_V G X iL_law 603072 7202922 Q 2588 (k + 0) (n + 0) [(0, vV (.ref a0)), (1, vR 0 0 0), (2, vR 5 0 0), (3, vR 15 0 0), (4, vR 16 0 0), (5, vI x5)] [] h := by
  refine s_aload_n (pc := 2588) C dL_law_2588 rfl 1 rfl ?_
  refine s_aload (pc := 2589) C dL_law_2589 4 rfl ?_
  refine s_callsH (pc := 2591) (nA := 2) (as := [vR 0 0 0, vR 16 0 0]) (st := []) (stk := [vR 16 0 0, vR 0 0 0]) C (fun l hl => ctL_meanLostDays l hl _ _ H) (fun _ _ z => z) rfl ⟨⟨kw_1476, kw_57, kw_1478⟩, ⟨by decide, by decide, by decide +kernel⟩, by decide, by decide⟩ kw_1477 rfl (Nat.le_of_ble_eq_true rfl) ⟨rm_le hk.1 (by decide), rm_le hk.2 (by decide)⟩ rfl dL_law_2591 (g_Kq_I (fun u2 h1 H => ?_) (fun E h1 H => H.elim))
  refine s_at (k' := k + 1) (n' := n + 6) (Nat.add_assoc k 0 1) (Nat.add_assoc n 0 6) ?_
  refine s_istore (pc := 2594) (ls' := [(6, vI u2), (0, vV (.ref a0)), (1, vR 0 0 0), (2, vR 5 0 0), (3, vR 15 0 0), (4, vR 16 0 0), (5, vI x5)]) C dL_law_2594 (by decide) rfl ?_
  refine s_aload_n (pc := 2596) C dL_law_2596 rfl 3 rfl ?_
  refine s_callv (pc := 2597) (nA := 0) (as := []) (st := []) (stk := [vR 5 0 0]) ckX8 (Or.inl rfl) C (fun l hl => ctX8_meanLostDays l hl _ _ H) ⟨⟨kw_1937, kw_69, kw_1940⟩, rfl, ⟨by decide, by decide, by decide +kernel⟩, by decide, by decide⟩ kw_1938 (g_selW kw_1939) rfl (Nat.le_of_ble_eq_true rfl) ⟨rm_le hk.1 (by decide), rm_le hk.2 (by decide)⟩ rfl dL_law_2597 (g_Kq_D (fun u4 h3 H => ?_) (fun E h3 H => H.elim))
  refine s_at (k' := k + 1) (n' := n + 6) (Nat.add_assoc k 1 0) (Nat.add_assoc n 6 0) ?_
  refine s_dstore (pc := 2600) (ls' := [(7, vV (.double u4)), (6, vI u2), (0, vV (.ref a0)), (1, vR 0 0 0), (2, vR 5 0 0), (3, vR 15 0 0), (4, vR 16 0 0), (5, vI x5)]) C dL_law_2600 (by decide) rfl ?_
  refine s_aload_n (pc := 2602) C dL_law_2602 rfl 4 rfl ?_
  refine s_callv (pc := 2603) (nA := 0) (as := []) (st := []) (stk := [vR 5 0 0]) ckX8 (Or.inl rfl) C (fun l hl => ctX8_thrown l hl _ _ H) ⟨⟨kw_1567, kw_69, kw_1570⟩, rfl, ⟨by decide, by decide, by decide +kernel⟩, by decide, by decide⟩ kw_1568 (g_selW kw_1569) rfl (Nat.le_of_ble_eq_true rfl) ⟨rm_le hk.1 (by decide), rm_le hk.2 (by decide)⟩ rfl dL_law_2603 (g_Kq_I (fun u6 h5 H => ?_) (fun E h5 H => H.elim))
  refine s_at (k' := k + 1) (n' := n + 6) (Nat.add_assoc k 1 0) (Nat.add_assoc n 6 0) ?_
  refine s_iload (pc := 2606) C dL_law_2606 1 rfl ?_
  refine s_icmp_eq (pc := 2608) (tgt := 2613) C dL_law_2608 (by decide) (fun c => ?_) (fun c => ?_)
  · have H := H.1 c
    refine s_iload (pc := 2613) C dL_law_2613 1 rfl ?_
    refine s_if_ne (pc := 2615) (tgt := 2650) C dL_law_2615 (by decide) (fun c => ?_) (fun c => ?_)
    · have H := H.1 c
      exact s_sub (ls' := [(0, vV (.ref a0)), (1, vR 0 0 0), (2, vR 5 0 0), (3, vR 15 0 0), (4, vR 16 0 0), (5, vI x5)]) [2, 3, 4, 5, 6, 7] rfl (vL_law_b2650 C hs hk R28 hR28 x5 h5 H)
    · have H := H.2 c
      refine s_aload (pc := 2618) C dL_law_2618 6 rfl ?_
      refine s_iconst (pc := 2620) C dL_law_2620 (x := (0 : Int32)) (by decide) ?_
      refine s_dald0 (pc := 2621) C dL_law_2621 ?_
      refine s_dload (pc := 2622) C dL_law_2622 0 rfl ?_
      refine s_dcmp (pc := 2624) C dL_law_2624 ?_
      refine s_if_eq (pc := 2625) (tgt := 2650) C dL_law_2625 (by decide) (fun c => ?_) (fun c => ?_)
      · have H := H.1 c
        exact s_sub (ls' := [(0, vV (.ref a0)), (1, vR 0 0 0), (2, vR 5 0 0), (3, vR 15 0 0), (4, vR 16 0 0), (5, vI x5)]) [2, 3, 4, 5, 6, 7] rfl (vL_law_b2650 C hs hk R28 hR28 x5 h5 H)
      · have H := H.2 c
        refine s_aload (pc := 2628) C dL_law_2628 6 rfl ?_
        refine s_iconst (pc := 2630) C dL_law_2630 (x := (0 : Int32)) (by decide) ?_
        refine s_dald0 (pc := 2631) C dL_law_2631 ?_
        refine s_aload (pc := 2632) C dL_law_2632 6 rfl ?_
        refine s_iconst (pc := 2634) C dL_law_2634 (x := (0 : Int32)) (by decide) ?_
        refine s_dald0 (pc := 2635) C dL_law_2635 ?_
        refine s_dcmp (pc := 2636) C dL_law_2636 ?_
        refine s_if_eq (pc := 2637) (tgt := 2648) C dL_law_2637 (by decide) (fun c => ?_) (fun c => ?_)
        · have H := H.1 c
          exact s_sub (ls' := []) [] rfl (vL_law_b2648 C hs hk R28 hR28  h5 H)
        · have H := H.2 c
          refine s_dload (pc := 2640) C dL_law_2640 0 rfl ?_
          refine s_dload (pc := 2642) C dL_law_2642 0 rfl ?_
          refine s_dcmp (pc := 2644) C dL_law_2644 ?_
          refine s_if_ne (pc := 2645) (tgt := 2650) C dL_law_2645 (by decide) (fun c => ?_) (fun c => ?_)
          · have H := H.1 c
            exact s_sub (ls' := [(0, vV (.ref a0)), (1, vR 0 0 0), (2, vR 5 0 0), (3, vR 15 0 0), (4, vR 16 0 0), (5, vI x5)]) [2, 3, 4, 5, 6, 7] rfl (vL_law_b2650 C hs hk R28 hR28 x5 h5 H)
          · have H := H.2 c
            exact s_sub (ls' := []) [] rfl (vL_law_b2648 C hs hk R28 hR28  h5 H)
  · have H := H.2 c
    refine s_iconst (pc := 2611) C dL_law_2611 (x := (0 : Int32)) (by decide) ?_
    exact s_iret (pc := 2612) rfl (by decide) ⟨rm_l1 hk.1 (by decide), rm_l1 hk.2 (by decide)⟩ H C dL_law_2612
set_option maxRecDepth 100000 in
set_option maxHeartbeats 4000000 in
theorem vL_law_b2653 {G : g_G} {X : g_X} {Q : g_R → g_Hp → Prop} {a0 L : Nat} {xs : Nat → Int32} (C : g_Cx y_ G X iL_law) (hs : g_Scr G X a0 L xs) {k n : Nat} (hk : k + 26 ≤ 603072 ∧ n + 1956 ≤ 7202922) (R28 : Int32 → g_Hp → Prop) (hR28 : ∀ (x5 : Int32) (h : g_Hp), R28 x5 h → g_V G X iL_law 603072 7202922 Q 28 (k + 26) (n + 1956) [(0, vV (.ref a0)), (1, vR 0 0 0), (2, vR 5 0 0), (3, vR 15 0 0), (4, vR 16 0 0), (5, vI x5)] [] h) (x5 : Int32) (h : g_Hp) (H : wL_law_b2653 a0 L xs Q R28 x5 h) : g_V G X iL_law 603072 7202922 Q 2653 (k + 0) (n + 0) [(0, vV (.ref a0)), (1, vR 0 0 0), (2, vR 5 0 0), (3, vR 15 0 0), (4, vR 16 0 0), (5, vI x5)] [] h := by
  refine s_aload_n (pc := 2653) C dL_law_2653 rfl 1 rfl ?_
  refine s_callv (pc := 2654) (nA := 0) (as := []) (st := []) (stk := [vR 0 0 0]) ckX7 (Or.inl rfl) C (fun l hl => ctX7_isConsistent l hl _ _ H) ⟨⟨kw_399, kw_58, kw_402⟩, rfl, ⟨by decide, by decide, by decide +kernel⟩, by decide, by decide⟩ kw_400 (g_selW kw_401) rfl (Nat.le_of_ble_eq_true rfl) ⟨rm_le hk.1 (by decide), rm_le hk.2 (by decide)⟩ rfl dL_law_2654 (g_Kq_I (fun u2 h1 H => ?_) (fun E h1 H => H.elim))
  refine s_at (k' := k + 26) (n' := n + 156) (Nat.add_assoc k 0 26) (Nat.add_assoc n 0 156) ?_
  refine s_aload_n (pc := 2657) C dL_law_2657 rfl 2 rfl ?_
  refine s_callv (pc := 2658) (nA := 0) (as := []) (st := [vI u2]) (stk := [vR 5 0 0, vI u2]) ckX8 (Or.inl rfl) C (fun l hl => ctX8_isConsistent l hl _ _ H) ⟨⟨kw_1941, kw_69, kw_1944⟩, rfl, ⟨by decide, by decide, by decide +kernel⟩, by decide, by decide⟩ kw_1942 (g_selW kw_1943) rfl (Nat.le_of_ble_eq_true rfl) ⟨rm_le hk.1 (by decide), rm_le hk.2 (by decide)⟩ rfl dL_law_2658 (g_Kq_I (fun u4 h3 H => ?_) (fun E h3 H => H.elim))
  refine s_at (k' := k + 26) (n' := n + 156) (Nat.add_assoc k 26 0) (Nat.add_assoc n 156 0) ?_
  refine s_icmp_eq (pc := 2661) (tgt := 2767) C dL_law_2661 (by decide) (fun c => ?_) (fun c => ?_)
  · have H := H.1 c
    exact s_wide (k' := k + 26) (n' := n + 1956) (Nat.add_le_add_left (by decide) k) (Nat.add_le_add_left (by decide) n) <| s_sub (ls' := [(0, vV (.ref a0)), (1, vR 0 0 0), (2, vR 5 0 0), (3, vR 15 0 0), (4, vR 16 0 0), (5, vI x5)]) [0, 1, 2, 3, 4, 5] rfl (vL_law_b2767 C hs hk R28 hR28 x5 h3 H)
  · have H := H.2 c
    refine s_iconst (pc := 2664) C dL_law_2664 (x := (0 : Int32)) (by decide) ?_
    exact s_iret (pc := 2665) rfl (by decide) ⟨rm_l1 hk.1 (by decide), rm_l1 hk.2 (by decide)⟩ H C dL_law_2665
set_option maxRecDepth 100000 in
set_option maxHeartbeats 4000000 in
theorem vL_law_b2666 {G : g_G} {X : g_X} {Q : g_R → g_Hp → Prop} {a0 L : Nat} {xs : Nat → Int32} (C : g_Cx y_ G X iL_law) (hs : g_Scr G X a0 L xs) {k n : Nat} (hk : k + 26 ≤ 603072 ∧ n + 1956 ≤ 7202922) (R28 : Int32 → g_Hp → Prop) (hR28 : ∀ (x5 : Int32) (h : g_Hp), R28 x5 h → g_V G X iL_law 603072 7202922 Q 28 (k + 26) (n + 1956) [(0, vV (.ref a0)), (1, vR 0 0 0), (2, vR 5 0 0), (3, vR 15 0 0), (4, vR 16 0 0), (5, vI x5)] [] h) (x5 : Int32) (h : g_Hp) (H : wL_law_b2666 a0 L xs Q R28 x5 h) : g_V G X iL_law 603072 7202922 Q 2666 (k + 0) (n + 0) [(0, vV (.ref a0)), (1, vR 0 0 0), (2, vR 5 0 0), (3, vR 15 0 0), (4, vR 16 0 0), (5, vI x5)] [] h := by
  refine s_aload_n (pc := 2666) C dL_law_2666 rfl 1 rfl ?_
  refine s_aload_n (pc := 2667) C dL_law_2667 rfl 3 rfl ?_
  refine s_callsH (pc := 2668) (nA := 2) (as := [vR 0 0 0, vR 15 0 0]) (st := []) (stk := [vR 15 0 0, vR 0 0 0]) C (fun l hl => ctL_undo l hl _ _ H) (fun _ _ z => z) rfl ⟨⟨kw_1483, kw_57, kw_1485⟩, ⟨by decide, by decide, by decide +kernel⟩, by decide, by decide⟩ kw_1484 rfl (Nat.le_of_ble_eq_true rfl) ⟨rm_le hk.1 (by decide), rm_le hk.2 (by decide)⟩ rfl dL_law_2668 (g_Kq_I (fun u2 h1 H => ?_) (fun E h1 H => H.elim))
  refine s_at (k' := k + 1) (n' := n + 6) (Nat.add_assoc k 0 1) (Nat.add_assoc n 0 6) ?_
  refine s_istore (pc := 2671) (ls' := [(6, vI u2), (0, vV (.ref a0)), (1, vR 0 0 0), (2, vR 5 0 0), (3, vR 15 0 0), (4, vR 16 0 0), (5, vI x5)]) C dL_law_2671 (by decide) rfl ?_
  refine s_aload_n (pc := 2673) C dL_law_2673 rfl 3 rfl ?_
  refine s_callv (pc := 2674) (nA := 0) (as := []) (st := []) (stk := [vR 5 0 0]) ckX8 (Or.inl rfl) C (fun l hl => ctX8_undo l hl _ _ H) ⟨⟨kw_1945, kw_69, kw_1948⟩, rfl, ⟨by decide, by decide, by decide +kernel⟩, by decide, by decide⟩ kw_1946 (g_selW kw_1947) rfl (Nat.le_of_ble_eq_true rfl) ⟨rm_le hk.1 (by decide), rm_le hk.2 (by decide)⟩ rfl dL_law_2674 (g_Kq_I (fun u4 h3 H => ?_) (fun E h3 H => H.elim))
  refine s_at (k' := k + 1) (n' := n + 6) (Nat.add_assoc k 1 0) (Nat.add_assoc n 6 0) ?_
  refine s_istore (pc := 2677) (ls' := [(7, vI u4), (6, vI u2), (0, vV (.ref a0)), (1, vR 0 0 0), (2, vR 5 0 0), (3, vR 15 0 0), (4, vR 16 0 0), (5, vI x5)]) C dL_law_2677 (by decide) rfl ?_
  refine s_aload_n (pc := 2679) C dL_law_2679 rfl 4 rfl ?_
  refine s_callv (pc := 2680) (nA := 0) (as := []) (st := []) (stk := [vR 5 0 0]) ckX8 (Or.inl rfl) C (fun l hl => ctX8_thrown l hl _ _ H) ⟨⟨kw_1567, kw_69, kw_1570⟩, rfl, ⟨by decide, by decide, by decide +kernel⟩, by decide, by decide⟩ kw_1568 (g_selW kw_1569) rfl (Nat.le_of_ble_eq_true rfl) ⟨rm_le hk.1 (by decide), rm_le hk.2 (by decide)⟩ rfl dL_law_2680 (g_Kq_I (fun u6 h5 H => ?_) (fun E h5 H => H.elim))
  refine s_at (k' := k + 1) (n' := n + 6) (Nat.add_assoc k 1 0) (Nat.add_assoc n 6 0) ?_
  refine s_iload (pc := 2683) C dL_law_2683 1 rfl ?_
  refine s_icmp_eq (pc := 2685) (tgt := 2690) C dL_law_2685 (by decide) (fun c => ?_) (fun c => ?_)
  · have H := H.1 c
    refine s_iload (pc := 2690) C dL_law_2690 1 rfl ?_
    refine s_if_ne (pc := 2692) (tgt := 2707) C dL_law_2692 (by decide) (fun c => ?_) (fun c => ?_)
    · have H := H.1 c
      exact s_sub (ls' := [(0, vV (.ref a0)), (1, vR 0 0 0), (2, vR 5 0 0), (3, vR 15 0 0), (4, vR 16 0 0), (5, vI x5)]) [2, 3, 4, 5, 6, 7] rfl (vL_law_b2707 C hs hk R28 hR28 x5 h5 H)
    · have H := H.2 c
      refine s_aload_n (pc := 2695) C dL_law_2695 rfl 5 rfl ?_
      refine s_iconst (pc := 2696) C dL_law_2696 (x := (0 : Int32)) (by decide) ?_
      refine s_lald0 (pc := 2697) C dL_law_2697 ?_
      refine s_iload (pc := 2698) C dL_law_2698 0 rfl ?_
      refine s_i2l (pc := 2700) C dL_law_2700 ?_
      refine s_lcmp (pc := 2701) C dL_law_2701 ?_
      refine s_if_eq (pc := 2702) (tgt := 2707) C dL_law_2702 (by decide) (fun c => ?_) (fun c => ?_)
      · have H := H.1 c
        exact s_sub (ls' := [(0, vV (.ref a0)), (1, vR 0 0 0), (2, vR 5 0 0), (3, vR 15 0 0), (4, vR 16 0 0), (5, vI x5)]) [2, 3, 4, 5, 6, 7] rfl (vL_law_b2707 C hs hk R28 hR28 x5 h5 H)
      · have H := H.2 c
        refine s_iconst (pc := 2705) C dL_law_2705 (x := (0 : Int32)) (by decide) ?_
        exact s_iret (pc := 2706) rfl (by decide) ⟨rm_l1 hk.1 (by decide), rm_l1 hk.2 (by decide)⟩ H C dL_law_2706
  · have H := H.2 c
    refine s_iconst (pc := 2688) C dL_law_2688 (x := (0 : Int32)) (by decide) ?_
    exact s_iret (pc := 2689) rfl (by decide) ⟨rm_l1 hk.1 (by decide), rm_l1 hk.2 (by decide)⟩ H C dL_law_2689
