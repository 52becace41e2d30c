/-! the law: cases -/
set_option maxRecDepth 100000 in
set_option maxHeartbeats 4000000 in
theorem vL_law_b1439 {G : g_G} {X : g_X} {Q : g_R → g_Hp → Prop} {a0 L : Nat} {xs : Nat → Int32} (C : g_Cx y_ G X iL_law) (hs : g_Scr G X a0 L xs) {k n : Nat} (hk : k + 26 ≤ 603072 ∧ n + 1956 ≤ 7202922) (R28 : Int32 → g_Hp → Prop) (hR28 : ∀ (x5 : Int32) (h : g_Hp), R28 x5 h → g_V G X iL_law 603072 7202922 Q 28 (k + 26) (n + 1956) [(0, vV (.ref a0)), (1, vR 0 0 0), (2, vR 5 0 0), (3, vR 15 0 0), (4, vR 16 0 0), (5, vI x5)] [] h) (x5 : Int32) (h : g_Hp) (H : wL_law_b1439 a0 L xs Q R28 x5 h) : g_V G X iL_law 603072 7202922 Q 1439 (k + 0) (n + 0) [(0, vV (.ref a0)), (1, vR 0 0 0), (2, vR 5 0 0), (3, vR 15 0 0), (4, vR 16 0 0), (5, vI x5)] [] h := by
  refine s_aload_n (pc := 1439) C dL_law_1439 rfl 1 rfl ?_
  refine s_callv (pc := 1440) (nA := 0) (as := []) (st := []) (stk := [vR 0 0 0]) ckX7 (Or.inl rfl) C (fun l hl => ctX7_isOnStrike l hl _ _ H) ⟨⟨kw_359, kw_58, kw_362⟩, rfl, ⟨by decide, by decide, by decide +kernel⟩, by decide, by decide⟩ kw_360 (g_selW kw_361) rfl (Nat.le_of_ble_eq_true rfl) ⟨rm_le hk.1 (by decide), rm_le hk.2 (by decide)⟩ rfl dL_law_1440 (g_Kq_I (fun u2 h1 H => ?_) (fun E h1 H => H.elim))
  refine s_at (k' := k + 0) (n' := n + 0) (Nat.add_assoc k 0 0) (Nat.add_assoc n 0 0) ?_
  refine s_aload_n (pc := 1443) C dL_law_1443 rfl 2 rfl ?_
  refine s_callv (pc := 1444) (nA := 0) (as := []) (st := [vI u2]) (stk := [vR 5 0 0, vI u2]) ckX8 (Or.inl rfl) C (fun l hl => ctX8_isOnStrike l hl _ _ H) ⟨⟨kw_1744, kw_69, kw_1747⟩, rfl, ⟨by decide, by decide, by decide +kernel⟩, by decide, by decide⟩ kw_1745 (g_selW kw_1746) rfl (Nat.le_of_ble_eq_true rfl) ⟨rm_le hk.1 (by decide), rm_le hk.2 (by decide)⟩ rfl dL_law_1444 (g_Kq_I (fun u4 h3 H => ?_) (fun E h3 H => H.elim))
  refine s_at (k' := k + 0) (n' := n + 0) (Nat.add_assoc k 0 0) (Nat.add_assoc n 0 0) ?_
  refine s_icmp_eq (pc := 1447) (tgt := 2767) C dL_law_1447 (by decide) (fun c => ?_) (fun c => ?_)
  · have H := H.1 c
    exact s_wide (k' := k + 26) (n' := n + 1956) (Nat.add_le_add_left (by decide) k) (Nat.add_le_add_left (by decide) n) <| s_sub (ls' := [(0, vV (.ref a0)), (1, vR 0 0 0), (2, vR 5 0 0), (3, vR 15 0 0), (4, vR 16 0 0), (5, vI x5)]) [0, 1, 2, 3, 4, 5] rfl (vL_law_b2767 C hs hk R28 hR28 x5 h3 H)
  · have H := H.2 c
    refine s_iconst (pc := 1450) C dL_law_1450 (x := (0 : Int32)) (by decide) ?_
    exact s_iret (pc := 1451) rfl (by decide) ⟨rm_l1 hk.1 (by decide), rm_l1 hk.2 (by decide)⟩ H C dL_law_1451
set_option maxRecDepth 100000 in
set_option maxHeartbeats 4000000 in
theorem vL_law_b1452 {G : g_G} {X : g_X} {Q : g_R → g_Hp → Prop} {a0 L : Nat} {xs : Nat → Int32} (C : g_Cx y_ G X iL_law) (hs : g_Scr G X a0 L xs) {k n : Nat} (hk : k + 26 ≤ 603072 ∧ n + 1956 ≤ 7202922) (R28 : Int32 → g_Hp → Prop) (hR28 : ∀ (x5 : Int32) (h : g_Hp), R28 x5 h → g_V G X iL_law 603072 7202922 Q 28 (k + 26) (n + 1956) [(0, vV (.ref a0)), (1, vR 0 0 0), (2, vR 5 0 0), (3, vR 15 0 0), (4, vR 16 0 0), (5, vI x5)] [] h) (x5 : Int32) (h : g_Hp) (H : wL_law_b1452 a0 L xs Q R28 x5 h) : g_V G X iL_law 603072 7202922 Q 1452 (k + 0) (n + 0) [(0, vV (.ref a0)), (1, vR 0 0 0), (2, vR 5 0 0), (3, vR 15 0 0), (4, vR 16 0 0), (5, vI x5)] [] h := by
  refine s_aload_n (pc := 1452) C dL_law_1452 rfl 1 rfl ?_
  refine s_aload_n (pc := 1453) C dL_law_1453 rfl 3 rfl ?_
  refine s_callsH (pc := 1454) (nA := 2) (as := [vR 0 0 0, vR 15 0 0]) (st := []) (stk := [vR 15 0 0, vR 0 0 0]) C (fun l hl => ctL_strikeShifts l hl _ _ H) (fun _ _ z => z) rfl ⟨⟨kw_879, kw_57, kw_881⟩, ⟨by decide, by decide, by decide +kernel⟩, by decide, by decide⟩ kw_880 rfl (Nat.le_of_ble_eq_true rfl) ⟨rm_le hk.1 (by decide), rm_le hk.2 (by decide)⟩ rfl dL_law_1454 (g_Kq_I (fun u2 h1 H => ?_) (fun E h1 H => H.elim))
  refine s_at (k' := k + 1) (n' := n + 6) (Nat.add_assoc k 0 1) (Nat.add_assoc n 0 6) ?_
  refine s_istore (pc := 1457) (ls' := [(6, vI u2), (0, vV (.ref a0)), (1, vR 0 0 0), (2, vR 5 0 0), (3, vR 15 0 0), (4, vR 16 0 0), (5, vI x5)]) C dL_law_1457 (by decide) rfl ?_
  refine s_aload_n (pc := 1459) C dL_law_1459 rfl 3 rfl ?_
  refine s_callv (pc := 1460) (nA := 0) (as := []) (st := []) (stk := [vR 5 0 0]) ckX8 (Or.inl rfl) C (fun l hl => ctX8_strikeShifts l hl _ _ H) ⟨⟨kw_1748, kw_69, kw_1751⟩, rfl, ⟨by decide, by decide, by decide +kernel⟩, by decide, by decide⟩ kw_1749 (g_selW kw_1750) rfl (Nat.le_of_ble_eq_true rfl) ⟨rm_le hk.1 (by decide), rm_le hk.2 (by decide)⟩ rfl dL_law_1460 (g_Kq_I (fun u4 h3 H => ?_) (fun E h3 H => H.elim))
  refine s_at (k' := k + 1) (n' := n + 6) (Nat.add_assoc k 1 0) (Nat.add_assoc n 6 0) ?_
  refine s_istore (pc := 1463) (ls' := [(7, vI u4), (6, vI u2), (0, vV (.ref a0)), (1, vR 0 0 0), (2, vR 5 0 0), (3, vR 15 0 0), (4, vR 16 0 0), (5, vI x5)]) C dL_law_1463 (by decide) rfl ?_
  refine s_aload_n (pc := 1465) C dL_law_1465 rfl 4 rfl ?_
  refine s_callv (pc := 1466) (nA := 0) (as := []) (st := []) (stk := [vR 5 0 0]) ckX8 (Or.inl rfl) C (fun l hl => ctX8_thrown l hl _ _ H) ⟨⟨kw_1567, kw_69, kw_1570⟩, rfl, ⟨by decide, by decide, by decide +kernel⟩, by decide, by decide⟩ kw_1568 (g_selW kw_1569) rfl (Nat.le_of_ble_eq_true rfl) ⟨rm_le hk.1 (by decide), rm_le hk.2 (by decide)⟩ rfl dL_law_1466 (g_Kq_I (fun u6 h5 H => ?_) (fun E h5 H => H.elim))
  refine s_at (k' := k + 1) (n' := n + 6) (Nat.add_assoc k 1 0) (Nat.add_assoc n 6 0) ?_
  refine s_iload (pc := 1469) C dL_law_1469 1 rfl ?_
  refine s_icmp_eq (pc := 1471) (tgt := 1476) C dL_law_1471 (by decide) (fun c => ?_) (fun c => ?_)
  · have H := H.1 c
    refine s_iload (pc := 1476) C dL_law_1476 1 rfl ?_
    refine s_if_ne (pc := 1478) (tgt := 1493) C dL_law_1478 (by decide) (fun c => ?_) (fun c => ?_)
    · have H := H.1 c
      exact s_sub (ls' := [(0, vV (.ref a0)), (1, vR 0 0 0), (2, vR 5 0 0), (3, vR 15 0 0), (4, vR 16 0 0), (5, vI x5)]) [2, 3, 4, 5, 6, 7] rfl (vL_law_b1493 C hs hk R28 hR28 x5 h5 H)
    · have H := H.2 c
      refine s_aload_n (pc := 1481) C dL_law_1481 rfl 5 rfl ?_
      refine s_iconst (pc := 1482) C dL_law_1482 (x := (0 : Int32)) (by decide) ?_
      refine s_lald0 (pc := 1483) C dL_law_1483 ?_
      refine s_iload (pc := 1484) C dL_law_1484 0 rfl ?_
      refine s_i2l (pc := 1486) C dL_law_1486 ?_
      refine s_lcmp (pc := 1487) C dL_law_1487 ?_
      refine s_if_eq (pc := 1488) (tgt := 1493) C dL_law_1488 (by decide) (fun c => ?_) (fun c => ?_)
      · have H := H.1 c
        exact s_sub (ls' := [(0, vV (.ref a0)), (1, vR 0 0 0), (2, vR 5 0 0), (3, vR 15 0 0), (4, vR 16 0 0), (5, vI x5)]) [2, 3, 4, 5, 6, 7] rfl (vL_law_b1493 C hs hk R28 hR28 x5 h5 H)
      · have H := H.2 c
        refine s_iconst (pc := 1491) C dL_law_1491 (x := (0 : Int32)) (by decide) ?_
        exact s_iret (pc := 1492) rfl (by decide) ⟨rm_l1 hk.1 (by decide), rm_l1 hk.2 (by decide)⟩ H C dL_law_1492
  · have H := H.2 c
    refine s_iconst (pc := 1474) C dL_law_1474 (x := (0 : Int32)) (by decide) ?_
    exact s_iret (pc := 1475) rfl (by decide) ⟨rm_l1 hk.1 (by decide), rm_l1 hk.2 (by decide)⟩ H C dL_law_1475
set_option maxRecDepth 100000 in
set_option maxHeartbeats 4000000 in
theorem vL_law_b1496 {G : g_G} {X : g_X} {Q : g_R → g_Hp → Prop} {a0 L : Nat} {xs : Nat → Int32} (C : g_Cx y_ G X iL_law) (hs : g_Scr G X a0 L xs) {k n : Nat} (hk : k + 26 ≤ 603072 ∧ n + 1956 ≤ 7202922) (R28 : Int32 → g_Hp → Prop) (hR28 : ∀ (x5 : Int32) (h : g_Hp), R28 x5 h → g_V G X iL_law 603072 7202922 Q 28 (k + 26) (n + 1956) [(0, vV (.ref a0)), (1, vR 0 0 0), (2, vR 5 0 0), (3, vR 15 0 0), (4, vR 16 0 0), (5, vI x5)] [] h) (x5 : Int32) (h : g_Hp) (H : wL_law_b1496 a0 L xs Q R28 x5 h) : g_V G X iL_law 603072 7202922 Q 1496 (k + 0) (n + 0) [(0, vV (.ref a0)), (1, vR 0 0 0), (2, vR 5 0 0), (3, vR 15 0 0), (4, vR 16 0 0), (5, vI x5)] [] h := by
  refine s_aload_n (pc := 1496) C dL_law_1496 rfl 1 rfl ?_
  refine s_aload_nQ (pc := 1497) C dL_law_1497 rfl 0 rfl ?_
  refine s_iload (pc := 1498) C dL_law_1498 5 rfl ?_
  refine s_iconst (pc := 1500) C dL_law_1500 (x := (1 : Int32)) (by decide) ?_
  refine s_iadd (pc := 1501) C dL_law_1501 ?_
  refine s_sld (pc := 1502) hs H.1 C dL_law_1502 ?_
  have H := H.2
  refine s_aload_n (pc := 1503) C dL_law_1503 rfl 3 rfl ?_
  refine s_callsH (pc := 1504) (nA := 3) (as := [vR 0 0 0, vI (xs (x5 + (1 : Int32)).toNatClampNeg), vR 15 0 0]) (st := []) (stk := [vR 15 0 0, vI (xs (x5 + (1 : Int32)).toNatClampNeg), vR 0 0 0]) C (fun l hl => ctL_payIn l hl (xs (x5 + (1 : Int32)).toNatClampNeg) _ _ H) (fun _ _ z => z) rfl ⟨⟨kw_887, kw_57, kw_889⟩, ⟨by decide, by decide, by decide +kernel⟩, by decide, by decide⟩ kw_888 rfl (Nat.le_of_ble_eq_true rfl) ⟨rm_le hk.1 (by decide), rm_le hk.2 (by decide)⟩ rfl dL_law_1504 (g_Kq_I (fun u2 h1 H => ?_) (fun E h1 H => H.elim))
  refine s_at (k' := k + 1) (n' := n + 6) (Nat.add_assoc k 0 1) (Nat.add_assoc n 0 6) ?_
  refine s_istore (pc := 1507) (ls' := [(6, vI u2), (0, vV (.ref a0)), (1, vR 0 0 0), (2, vR 5 0 0), (3, vR 15 0 0), (4, vR 16 0 0), (5, vI x5)]) C dL_law_1507 (by decide) rfl ?_
  refine s_aload_n (pc := 1509) C dL_law_1509 rfl 3 rfl ?_
  refine s_aload_nQ (pc := 1510) C dL_law_1510 rfl 1 rfl ?_
  refine s_iload (pc := 1511) C dL_law_1511 6 rfl ?_
  refine s_iconst (pc := 1513) C dL_law_1513 (x := (1 : Int32)) (by decide) ?_
  refine s_iadd (pc := 1514) C dL_law_1514 ?_
  refine s_sld (pc := 1515) hs H.1 C dL_law_1515 ?_
  have H := H.2
  refine s_callv (pc := 1516) (nA := 1) (as := [vI (xs (x5 + (1 : Int32)).toNatClampNeg)]) (st := []) (stk := [vI (xs (x5 + (1 : Int32)).toNatClampNeg), vR 5 0 0]) ckX8 (Or.inl rfl) C (fun l hl => ctX8_payIn l hl (xs (x5 + (1 : Int32)).toNatClampNeg) _ _ H) ⟨⟨kw_1752, kw_69, kw_1755⟩, rfl, ⟨by decide, by decide, by decide +kernel⟩, by decide, by decide⟩ kw_1753 (g_selW kw_1754) rfl (Nat.le_of_ble_eq_true rfl) ⟨rm_le hk.1 (by decide), rm_le hk.2 (by decide)⟩ rfl dL_law_1516 (g_Kq_I (fun u4 h3 H => ?_) (fun E h3 H => H.elim))
  refine s_at (k' := k + 1) (n' := n + 6) (Nat.add_assoc k 1 0) (Nat.add_assoc n 6 0) ?_
  refine s_istore (pc := 1519) (ls' := [(7, vI u4), (6, vI u2), (0, vV (.ref a0)), (1, vR 0 0 0), (2, vR 5 0 0), (3, vR 15 0 0), (4, vR 16 0 0), (5, vI x5)]) C dL_law_1519 (by decide) rfl ?_
  refine s_aload_n (pc := 1521) C dL_law_1521 rfl 4 rfl ?_
  refine s_callv (pc := 1522) (nA := 0) (as := []) (st := []) (stk := [vR 5 0 0]) ckX8 (Or.inl rfl) C (fun l hl => ctX8_thrown l hl _ _ H) ⟨⟨kw_1567, kw_69, kw_1570⟩, rfl, ⟨by decide, by decide, by decide +kernel⟩, by decide, by decide⟩ kw_1568 (g_selW kw_1569) rfl (Nat.le_of_ble_eq_true rfl) ⟨rm_le hk.1 (by decide), rm_le hk.2 (by decide)⟩ rfl dL_law_1522 (g_Kq_I (fun u6 h5 H => ?_) (fun E h5 H => H.elim))
  refine s_at (k' := k + 1) (n' := n + 6) (Nat.add_assoc k 1 0) (Nat.add_assoc n 6 0) ?_
  refine s_iload (pc := 1525) C dL_law_1525 1 rfl ?_
  refine s_icmp_eq (pc := 1527) (tgt := 1532) C dL_law_1527 (by decide) (fun c => ?_) (fun c => ?_)
  · have H := H.1 c
    refine s_iload (pc := 1532) C dL_law_1532 1 rfl ?_
    refine s_if_ne (pc := 1534) (tgt := 1549) C dL_law_1534 (by decide) (fun c => ?_) (fun c => ?_)
    · have H := H.1 c
      exact s_sub (ls' := [(0, vV (.ref a0)), (1, vR 0 0 0), (2, vR 5 0 0), (3, vR 15 0 0), (4, vR 16 0 0), (5, vI x5)]) [2, 3, 4, 5, 6, 7] rfl (vL_law_b1549 C hs hk R28 hR28 x5 h5 H)
    · have H := H.2 c
      refine s_aload_n (pc := 1537) C dL_law_1537 rfl 5 rfl ?_
      refine s_iconst (pc := 1538) C dL_law_1538 (x := (0 : Int32)) (by decide) ?_
      refine s_lald0 (pc := 1539) C dL_law_1539 ?_
      refine s_iload (pc := 1540) C dL_law_1540 0 rfl ?_
      refine s_i2l (pc := 1542) C dL_law_1542 ?_
      refine s_lcmp (pc := 1543) C dL_law_1543 ?_
      refine s_if_eq (pc := 1544) (tgt := 1549) C dL_law_1544 (by decide) (fun c => ?_) (fun c => ?_)
      · have H := H.1 c
        exact s_sub (ls' := [(0, vV (.ref a0)), (1, vR 0 0 0), (2, vR 5 0 0), (3, vR 15 0 0), (4, vR 16 0 0), (5, vI x5)]) [2, 3, 4, 5, 6, 7] rfl (vL_law_b1549 C hs hk R28 hR28 x5 h5 H)
      · have H := H.2 c
        refine s_iconst (pc := 1547) C dL_law_1547 (x := (0 : Int32)) (by decide) ?_
        exact s_iret (pc := 1548) rfl (by decide) ⟨rm_l1 hk.1 (by decide), rm_l1 hk.2 (by decide)⟩ H C dL_law_1548
  · have H := H.2 c
    refine s_iconst (pc := 1530) C dL_law_1530 (x := (0 : Int32)) (by decide) ?_
    exact s_iret (pc := 1531) rfl (by decide) ⟨rm_l1 hk.1 (by decide), rm_l1 hk.2 (by decide)⟩ H C dL_law_1531
set_option maxRecDepth 100000 in
set_option maxHeartbeats 4000000 in
theorem vL_law_b1552 {G : g_G} {X : g_X} {Q : g_R → g_Hp → Prop} {a0 L : Nat} {xs : Nat → Int32} (C : g_Cx y_ G X iL_law) (hs : g_Scr G X a0 L xs) {k n : Nat} (hk : k + 26 ≤ 603072 ∧ n + 1956 ≤ 7202922) (R28 : Int32 → g_Hp → Prop) (hR28 : ∀ (x5 : Int32) (h : g_Hp), R28 x5 h → g_V G X iL_law 603072 7202922 Q 28 (k + 26) (n + 1956) [(0, vV (.ref a0)), (1, vR 0 0 0), (2, vR 5 0 0), (3, vR 15 0 0), (4, vR 16 0 0), (5, vI x5)] [] h) (x5 : Int32) (h : g_Hp) (H : wL_law_b1552 a0 L xs Q R28 x5 h) : g_V G X iL_law 603072 7202922 Q 1552 (k + 0) (n + 0) [(0, vV (.ref a0)), (1, vR 0 0 0), (2, vR 5 0 0), (3, vR 15 0 0), (4, vR 16 0 0), (5, vI x5)] [] h := by
  refine s_aload_n (pc := 1552) C dL_law_1552 rfl 1 rfl ?_
  refine s_callv (pc := 1553) (nA := 0) (as := []) (st := []) (stk := [vR 0 0 0]) ckX7 (Or.inl rfl) C (fun l hl => ctX7_fund l hl _ _ H) ⟨⟨kw_363, kw_58, kw_366⟩, rfl, ⟨by decide, by decide, by decide +kernel⟩, by decide, by decide⟩ kw_364 (g_selW kw_365) rfl (Nat.le_of_ble_eq_true rfl) ⟨rm_le hk.1 (by decide), rm_le hk.2 (by decide)⟩ rfl dL_law_1553 (g_Kq_I (fun u2 h1 H => ?_) (fun E h1 H => H.elim))
  refine s_at (k' := k + 0) (n' := n + 0) (Nat.add_assoc k 0 0) (Nat.add_assoc n 0 0) ?_
  refine s_aload_n (pc := 1556) C dL_law_1556 rfl 2 rfl ?_
  refine s_callv (pc := 1557) (nA := 0) (as := []) (st := [vI u2]) (stk := [vR 5 0 0, vI u2]) ckX8 (Or.inl rfl) C (fun l hl => ctX8_fund l hl _ _ H) ⟨⟨kw_1760, kw_69, kw_1763⟩, rfl, ⟨by decide, by decide, by decide +kernel⟩, by decide, by decide⟩ kw_1761 (g_selW kw_1762) rfl (Nat.le_of_ble_eq_true rfl) ⟨rm_le hk.1 (by decide), rm_le hk.2 (by decide)⟩ rfl dL_law_1557 (g_Kq_I (fun u4 h3 H => ?_) (fun E h3 H => H.elim))
  refine s_at (k' := k + 0) (n' := n + 0) (Nat.add_assoc k 0 0) (Nat.add_assoc n 0 0) ?_
  refine s_icmp_eq (pc := 1560) (tgt := 2767) C dL_law_1560 (by decide) (fun c => ?_) (fun c => ?_)
  · have H := H.1 c
    exact s_wide (k' := k + 26) (n' := n + 1956) (Nat.add_le_add_left (by decide) k) (Nat.add_le_add_left (by decide) n) <| s_sub (ls' := [(0, vV (.ref a0)), (1, vR 0 0 0), (2, vR 5 0 0), (3, vR 15 0 0), (4, vR 16 0 0), (5, vI x5)]) [0, 1, 2, 3, 4, 5] rfl (vL_law_b2767 C hs hk R28 hR28 x5 h3 H)
  · have H := H.2 c
    refine s_iconst (pc := 1563) C dL_law_1563 (x := (0 : Int32)) (by decide) ?_
    exact s_iret (pc := 1564) rfl (by decide) ⟨rm_l1 hk.1 (by decide), rm_l1 hk.2 (by decide)⟩ H C dL_law_1564
set_option maxRecDepth 100000 in
set_option maxHeartbeats 4000000 in
theorem vL_law_b1565 {G : g_G} {X : g_X} {Q : g_R → g_Hp → Prop} {a0 L : Nat} {xs : Nat → Int32} (C : g_Cx y_ G X iL_law) (hs : g_Scr G X a0 L xs) {k n : Nat} (hk : k + 26 ≤ 603072 ∧ n + 1956 ≤ 7202922) (R28 : Int32 → g_Hp → Prop) (hR28 : ∀ (x5 : Int32) (h : g_Hp), R28 x5 h → g_V G X iL_law 603072 7202922 Q 28 (k + 26) (n + 1956) [(0, vV (.ref a0)), (1, vR 0 0 0), (2, vR 5 0 0), (3, vR 15 0 0), (4, vR 16 0 0), (5, vI x5)] [] h) (x5 : Int32) (h : g_Hp) (H : wL_law_b1565 a0 L xs Q R28 x5 h) : g_V G X iL_law 603072 7202922 Q 1565 (k + 0) (n + 0) [(0, vV (.ref a0)), (1, vR 0 0 0), (2, vR 5 0 0), (3, vR 15 0 0), (4, vR 16 0 0), (5, vI x5)] [] h := by
  refine s_aload_n (pc := 1565) C dL_law_1565 rfl 1 rfl ?_
  refine s_aload_n (pc := 1566) C dL_law_1566 rfl 3 rfl ?_
  refine s_callsH (pc := 1567) (nA := 2) (as := [vR 0 0 0, vR 15 0 0]) (st := []) (stk := [vR 15 0 0, vR 0 0 0]) C (fun l hl => ctL_fundedShifts l hl _ _ H) (fun _ _ z => z) rfl ⟨⟨kw_902, kw_57, kw_904⟩, ⟨by decide, by decide, by decide +kernel⟩, by decide, by decide⟩ kw_903 rfl (Nat.le_of_ble_eq_true rfl) ⟨rm_le hk.1 (by decide), rm_le hk.2 (by decide)⟩ rfl dL_law_1567 (g_Kq_I (fun u2 h1 H => ?_) (fun E h1 H => H.elim))
  refine s_at (k' := k + 1) (n' := n + 6) (Nat.add_assoc k 0 1) (Nat.add_assoc n 0 6) ?_
  refine s_istore (pc := 1570) (ls' := [(6, vI u2), (0, vV (.ref a0)), (1, vR 0 0 0), (2, vR 5 0 0), (3, vR 15 0 0), (4, vR 16 0 0), (5, vI x5)]) C dL_law_1570 (by decide) rfl ?_
  refine s_aload_n (pc := 1572) C dL_law_1572 rfl 3 rfl ?_
  refine s_callv (pc := 1573) (nA := 0) (as := []) (st := []) (stk := [vR 5 0 0]) ckX8 (Or.inl rfl) C (fun l hl => ctX8_fundedShifts l hl _ _ H) ⟨⟨kw_1764, kw_69, kw_1767⟩, rfl, ⟨by decide, by decide, by decide +kernel⟩, by decide, by decide⟩ kw_1765 (g_selW kw_1766) rfl (Nat.le_of_ble_eq_true rfl) ⟨rm_le hk.1 (by decide), rm_le hk.2 (by decide)⟩ rfl dL_law_1573 (g_Kq_I (fun u4 h3 H => ?_) (fun E h3 H => H.elim))
  refine s_at (k' := k + 1) (n' := n + 6) (Nat.add_assoc k 1 0) (Nat.add_assoc n 6 0) ?_
  refine s_istore (pc := 1576) (ls' := [(7, vI u4), (6, vI u2), (0, vV (.ref a0)), (1, vR 0 0 0), (2, vR 5 0 0), (3, vR 15 0 0), (4, vR 16 0 0), (5, vI x5)]) C dL_law_1576 (by decide) rfl ?_
  refine s_aload_n (pc := 1578) C dL_law_1578 rfl 4 rfl ?_
  refine s_callv (pc := 1579) (nA := 0) (as := []) (st := []) (stk := [vR 5 0 0]) ckX8 (Or.inl rfl) C (fun l hl => ctX8_thrown l hl _ _ H) ⟨⟨kw_1567, kw_69, kw_1570⟩, rfl, ⟨by decide, by decide, by decide +kernel⟩, by decide, by decide⟩ kw_1568 (g_selW kw_1569) rfl (Nat.le_of_ble_eq_true rfl) ⟨rm_le hk.1 (by decide), rm_le hk.2 (by decide)⟩ rfl dL_law_1579 (g_Kq_I (fun u6 h5 H => ?_) (fun E h5 H => H.elim))
  refine s_at (k' := k + 1) (n' := n + 6) (Nat.add_assoc k 1 0) (Nat.add_assoc n 6 0) ?_
  refine s_iload (pc := 1582) C dL_law_1582 1 rfl ?_
  refine s_icmp_eq (pc := 1584) (tgt := 1589) C dL_law_1584 (by decide) (fun c => ?_) (fun c => ?_)
  · have H := H.1 c
    refine s_iload (pc := 1589) C dL_law_1589 1 rfl ?_
    refine s_if_ne (pc := 1591) (tgt := 1606) C dL_law_1591 (by decide) (fun c => ?_) (fun c => ?_)
    · have H := H.1 c
      exact s_sub (ls' := [(0, vV (.ref a0)), (1, vR 0 0 0), (2, vR 5 0 0), (3, vR 15 0 0), (4, vR 16 0 0), (5, vI x5)]) [2, 3, 4, 5, 6, 7] rfl (vL_law_b1606 C hs hk R28 hR28 x5 h5 H)
    · have H := H.2 c
      refine s_aload_n (pc := 1594) C dL_law_1594 rfl 5 rfl ?_
      refine s_iconst (pc := 1595) C dL_law_1595 (x := (0 : Int32)) (by decide) ?_
      refine s_lald0 (pc := 1596) C dL_law_1596 ?_
      refine s_iload (pc := 1597) C dL_law_1597 0 rfl ?_
      refine s_i2l (pc := 1599) C dL_law_1599 ?_
      refine s_lcmp (pc := 1600) C dL_law_1600 ?_
      refine s_if_eq (pc := 1601) (tgt := 1606) C dL_law_1601 (by decide) (fun c => ?_) (fun c => ?_)
      · have H := H.1 c
        exact s_sub (ls' := [(0, vV (.ref a0)), (1, vR 0 0 0), (2, vR 5 0 0), (3, vR 15 0 0), (4, vR 16 0 0), (5, vI x5)]) [2, 3, 4, 5, 6, 7] rfl (vL_law_b1606 C hs hk R28 hR28 x5 h5 H)
      · have H := H.2 c
        refine s_iconst (pc := 1604) C dL_law_1604 (x := (0 : Int32)) (by decide) ?_
        exact s_iret (pc := 1605) rfl (by decide) ⟨rm_l1 hk.1 (by decide), rm_l1 hk.2 (by decide)⟩ H C dL_law_1605
  · have H := H.2 c
    refine s_iconst (pc := 1587) C dL_law_1587 (x := (0 : Int32)) (by decide) ?_
    exact s_iret (pc := 1588) rfl (by decide) ⟨rm_l1 hk.1 (by decide), rm_l1 hk.2 (by decide)⟩ H C dL_law_1588
set_option maxRecDepth 100000 in
set_option maxHeartbeats 4000000 in
theorem vL_law_b1609 {G : g_G} {X : g_X} {Q : g_R → g_Hp → Prop} {a0 L : Nat} {xs : Nat → Int32} (C : g_Cx y_ G X iL_law) (hs : g_Scr G X a0 L xs) {k n : Nat} (hk : k + 26 ≤ 603072 ∧ n + 1956 ≤ 7202922) (R28 : Int32 → g_Hp → Prop) (hR28 : ∀ (x5 : Int32) (h : g_Hp), R28 x5 h → g_V G X iL_law 603072 7202922 Q 28 (k + 26) (n + 1956) [(0, vV (.ref a0)), (1, vR 0 0 0), (2, vR 5 0 0), (3, vR 15 0 0), (4, vR 16 0 0), (5, vI x5)] [] h) (x5 : Int32) (h : g_Hp) (H : wL_law_b1609 a0 L xs Q R28 x5 h) : g_V G X iL_law 603072 7202922 Q 1609 (k + 0) (n + 0) [(0, vV (.ref a0)), (1, vR 0 0 0), (2, vR 5 0 0), (3, vR 15 0 0), (4, vR 16 0 0), (5, vI x5)] [] h := by
  refine s_aload_n (pc := 1609) C dL_law_1609 rfl 1 rfl ?_
  refine s_aload_n (pc := 1610) C dL_law_1610 rfl 3 rfl ?_
  refine s_callsH (pc := 1611) (nA := 2) (as := [vR 0 0 0, vR 15 0 0]) (st := []) (stk := [vR 15 0 0, vR 0 0 0]) C (fun l hl => ctL_fundedShiftsByPaying l hl _ _ H) (fun _ _ z => z) rfl ⟨⟨kw_907, kw_57, kw_909⟩, ⟨by decide, by decide, by decide +kernel⟩, by decide, by decide⟩ kw_908 rfl (Nat.le_of_ble_eq_true rfl) ⟨rm_le hk.1 (by decide), rm_le hk.2 (by decide)⟩ rfl dL_law_1611 (g_Kq_I (fun u2 h1 H => ?_) (fun E h1 H => H.elim))
  refine s_at (k' := k + 1) (n' := n + 6) (Nat.add_assoc k 0 1) (Nat.add_assoc n 0 6) ?_
  refine s_istore (pc := 1614) (ls' := [(6, vI u2), (0, vV (.ref a0)), (1, vR 0 0 0), (2, vR 5 0 0), (3, vR 15 0 0), (4, vR 16 0 0), (5, vI x5)]) C dL_law_1614 (by decide) rfl ?_
  refine s_aload_n (pc := 1616) C dL_law_1616 rfl 3 rfl ?_
  refine s_callv (pc := 1617) (nA := 0) (as := []) (st := []) (stk := [vR 5 0 0]) ckX8 (Or.inl rfl) C (fun l hl => ctX8_fundedShiftsByPaying l hl _ _ H) ⟨⟨kw_1768, kw_69, kw_1771⟩, rfl, ⟨by decide, by decide, by decide +kernel⟩, by decide, by decide⟩ kw_1769 (g_selW kw_1770) rfl (Nat.le_of_ble_eq_true rfl) ⟨rm_le hk.1 (by decide), rm_le hk.2 (by decide)⟩ rfl dL_law_1617 (g_Kq_I (fun u4 h3 H => ?_) (fun E h3 H => H.elim))
  refine s_at (k' := k + 1) (n' := n + 6) (Nat.add_assoc k 1 0) (Nat.add_assoc n 6 0) ?_
  refine s_istore (pc := 1620) (ls' := [(7, vI u4), (6, vI u2), (0, vV (.ref a0)), (1, vR 0 0 0), (2, vR 5 0 0), (3, vR 15 0 0), (4, vR 16 0 0), (5, vI x5)]) C dL_law_1620 (by decide) rfl ?_
  refine s_aload_n (pc := 1622) C dL_law_1622 rfl 4 rfl ?_
  refine s_callv (pc := 1623) (nA := 0) (as := []) (st := []) (stk := [vR 5 0 0]) ckX8 (Or.inl rfl) C (fun l hl => ctX8_thrown l hl _ _ H) ⟨⟨kw_1567, kw_69, kw_1570⟩, rfl, ⟨by decide, by decide, by decide +kernel⟩, by decide, by decide⟩ kw_1568 (g_selW kw_1569) rfl (Nat.le_of_ble_eq_true rfl) ⟨rm_le hk.1 (by decide), rm_le hk.2 (by decide)⟩ rfl dL_law_1623 (g_Kq_I (fun u6 h5 H => ?_) (fun E h5 H => H.elim))
  refine s_at (k' := k + 1) (n' := n + 6) (Nat.add_assoc k 1 0) (Nat.add_assoc n 6 0) ?_
  refine s_iload (pc := 1626) C dL_law_1626 1 rfl ?_
  refine s_icmp_eq (pc := 1628) (tgt := 1633) C dL_law_1628 (by decide) (fun c => ?_) (fun c => ?_)
  · have H := H.1 c
    refine s_iload (pc := 1633) C dL_law_1633 1 rfl ?_
    refine s_if_ne (pc := 1635) (tgt := 1650) C dL_law_1635 (by decide) (fun c => ?_) (fun c => ?_)
    · have H := H.1 c
      exact s_sub (ls' := [(0, vV (.ref a0)), (1, vR 0 0 0), (2, vR 5 0 0), (3, vR 15 0 0), (4, vR 16 0 0), (5, vI x5)]) [2, 3, 4, 5, 6, 7] rfl (vL_law_b1650 C hs hk R28 hR28 x5 h5 H)
    · have H := H.2 c
      refine s_aload_n (pc := 1638) C dL_law_1638 rfl 5 rfl ?_
      refine s_iconst (pc := 1639) C dL_law_1639 (x := (0 : Int32)) (by decide) ?_
      refine s_lald0 (pc := 1640) C dL_law_1640 ?_
      refine s_iload (pc := 1641) C dL_law_1641 0 rfl ?_
      refine s_i2l (pc := 1643) C dL_law_1643 ?_
      refine s_lcmp (pc := 1644) C dL_law_1644 ?_
      refine s_if_eq (pc := 1645) (tgt := 1650) C dL_law_1645 (by decide) (fun c => ?_) (fun c => ?_)
      · have H := H.1 c
        exact s_sub (ls' := [(0, vV (.ref a0)), (1, vR 0 0 0), (2, vR 5 0 0), (3, vR 15 0 0), (4, vR 16 0 0), (5, vI x5)]) [2, 3, 4, 5, 6, 7] rfl (vL_law_b1650 C hs hk R28 hR28 x5 h5 H)
      · have H := H.2 c
        refine s_iconst (pc := 1648) C dL_law_1648 (x := (0 : Int32)) (by decide) ?_
        exact s_iret (pc := 1649) rfl (by decide) ⟨rm_l1 hk.1 (by decide), rm_l1 hk.2 (by decide)⟩ H C dL_law_1649
  · have H := H.2 c
    refine s_iconst (pc := 1631) C dL_law_1631 (x := (0 : Int32)) (by decide) ?_
    exact s_iret (pc := 1632) rfl (by decide) ⟨rm_l1 hk.1 (by decide), rm_l1 hk.2 (by decide)⟩ H C dL_law_1632
