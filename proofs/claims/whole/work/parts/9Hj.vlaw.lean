/-! the law: cases -/
set_option maxRecDepth 100000 in
set_option maxHeartbeats 4000000 in
theorem vL_law_b589 {G : g_G} {X : g_X} {Q : g_R → g_Hp → Prop} {a0 L : Nat} {xs : Nat → Int32} (C : g_Cx y_ G X iL_law) (hs : g_Scr G X a0 L xs) {k n : Nat} (hk : k + 26 ≤ 603072 ∧ n + 1956 ≤ 7202922) (R28 : Int32 → g_Hp → Prop) (hR28 : ∀ (x5 : Int32) (h : g_Hp), R28 x5 h → g_V G X iL_law 603072 7202922 Q 28 (k + 26) (n + 1956) [(0, vV (.ref a0)), (1, vR 0 0 0), (2, vR 5 0 0), (3, vR 15 0 0), (4, vR 16 0 0), (5, vI x5)] [] h) (x5 : Int32) (h : g_Hp) (H : wL_law_b589 a0 L xs Q R28 x5 h) : g_V G X iL_law 603072 7202922 Q 589 (k + 0) (n + 0) [(0, vV (.ref a0)), (1, vR 0 0 0), (2, vR 5 0 0), (3, vR 15 0 0), (4, vR 16 0 0), (5, vI x5)] [] h := by
  refine s_aload_n (pc := 589) C dL_law_589 rfl 1 rfl ?_
  refine s_aload_nQ (pc := 590) C dL_law_590 rfl 0 rfl ?_
  refine s_iload (pc := 591) C dL_law_591 5 rfl ?_
  refine s_iconst (pc := 593) C dL_law_593 (x := (1 : Int32)) (by decide) ?_
  refine s_iadd (pc := 594) C dL_law_594 ?_
  refine s_sld (pc := 595) hs H.1 C dL_law_595 ?_
  have H := H.2
  refine s_aload_n (pc := 596) C dL_law_596 rfl 3 rfl ?_
  refine s_callsH (pc := 597) (nA := 3) (as := [vR 0 0 0, vI (xs (x5 + (1 : Int32)).toNatClampNeg), vR 15 0 0]) (st := []) (stk := [vR 15 0 0, vI (xs (x5 + (1 : Int32)).toNatClampNeg), vR 0 0 0]) C (fun l hl => ctL_wagesOf l hl (xs (x5 + (1 : Int32)).toNatClampNeg) _ _ H) (fun _ _ z => z) rfl ⟨⟨kw_724, kw_57, kw_726⟩, ⟨by decide, by decide, by decide +kernel⟩, by decide, by decide⟩ kw_725 rfl (Nat.le_of_ble_eq_true rfl) ⟨rm_le hk.1 (by decide), rm_le hk.2 (by decide)⟩ rfl dL_law_597 (g_Kq_I (fun u2 h1 H => ?_) (fun E h1 H => H.elim))
  refine s_at (k' := k + 1) (n' := n + 6) (Nat.add_assoc k 0 1) (Nat.add_assoc n 0 6) ?_
  refine s_istore (pc := 600) (ls' := [(6, vI u2), (0, vV (.ref a0)), (1, vR 0 0 0), (2, vR 5 0 0), (3, vR 15 0 0), (4, vR 16 0 0), (5, vI x5)]) C dL_law_600 (by decide) rfl ?_
  refine s_aload_n (pc := 602) C dL_law_602 rfl 3 rfl ?_
  refine s_aload_nQ (pc := 603) C dL_law_603 rfl 1 rfl ?_
  refine s_iload (pc := 604) C dL_law_604 6 rfl ?_
  refine s_iconst (pc := 606) C dL_law_606 (x := (1 : Int32)) (by decide) ?_
  refine s_iadd (pc := 607) C dL_law_607 ?_
  refine s_sld (pc := 608) hs H.1 C dL_law_608 ?_
  have H := H.2
  refine s_callv (pc := 609) (nA := 1) (as := [vI (xs (x5 + (1 : Int32)).toNatClampNeg)]) (st := []) (stk := [vI (xs (x5 + (1 : Int32)).toNatClampNeg), vR 5 0 0]) ckX8 (Or.inl rfl) C (fun l hl => ctX8_wagesOf l hl (xs (x5 + (1 : Int32)).toNatClampNeg) _ _ H) ⟨⟨kw_1632, kw_69, kw_1635⟩, rfl, ⟨by decide, by decide, by decide +kernel⟩, by decide, by decide⟩ kw_1633 (g_selW kw_1634) rfl (Nat.le_of_ble_eq_true rfl) ⟨rm_le hk.1 (by decide), rm_le hk.2 (by decide)⟩ rfl dL_law_609 (g_Kq_I (fun u4 h3 H => ?_) (fun E h3 H => H.elim))
  refine s_at (k' := k + 1) (n' := n + 6) (Nat.add_assoc k 1 0) (Nat.add_assoc n 6 0) ?_
  refine s_istore (pc := 612) (ls' := [(7, vI u4), (6, vI u2), (0, vV (.ref a0)), (1, vR 0 0 0), (2, vR 5 0 0), (3, vR 15 0 0), (4, vR 16 0 0), (5, vI x5)]) C dL_law_612 (by decide) rfl ?_
  refine s_aload_n (pc := 614) C dL_law_614 rfl 4 rfl ?_
  refine s_callv (pc := 615) (nA := 0) (as := []) (st := []) (stk := [vR 5 0 0]) ckX8 (Or.inl rfl) C (fun l hl => ctX8_thrown l hl _ _ H) ⟨⟨kw_1567, kw_69, kw_1570⟩, rfl, ⟨by decide, by decide, by decide +kernel⟩, by decide, by decide⟩ kw_1568 (g_selW kw_1569) rfl (Nat.le_of_ble_eq_true rfl) ⟨rm_le hk.1 (by decide), rm_le hk.2 (by decide)⟩ rfl dL_law_615 (g_Kq_I (fun u6 h5 H => ?_) (fun E h5 H => H.elim))
  refine s_at (k' := k + 1) (n' := n + 6) (Nat.add_assoc k 1 0) (Nat.add_assoc n 6 0) ?_
  refine s_iload (pc := 618) C dL_law_618 1 rfl ?_
  refine s_icmp_eq (pc := 620) (tgt := 625) C dL_law_620 (by decide) (fun c => ?_) (fun c => ?_)
  · have H := H.1 c
    refine s_iload (pc := 625) C dL_law_625 1 rfl ?_
    refine s_if_ne (pc := 627) (tgt := 642) C dL_law_627 (by decide) (fun c => ?_) (fun c => ?_)
    · have H := H.1 c
      exact s_sub (ls' := [(0, vV (.ref a0)), (1, vR 0 0 0), (2, vR 5 0 0), (3, vR 15 0 0), (4, vR 16 0 0), (5, vI x5)]) [2, 3, 4, 5, 6, 7] rfl (vL_law_b642 C hs hk R28 hR28 x5 h5 H)
    · have H := H.2 c
      refine s_aload_n (pc := 630) C dL_law_630 rfl 5 rfl ?_
      refine s_iconst (pc := 631) C dL_law_631 (x := (0 : Int32)) (by decide) ?_
      refine s_lald0 (pc := 632) C dL_law_632 ?_
      refine s_iload (pc := 633) C dL_law_633 0 rfl ?_
      refine s_i2l (pc := 635) C dL_law_635 ?_
      refine s_lcmp (pc := 636) C dL_law_636 ?_
      refine s_if_eq (pc := 637) (tgt := 642) C dL_law_637 (by decide) (fun c => ?_) (fun c => ?_)
      · have H := H.1 c
        exact s_sub (ls' := [(0, vV (.ref a0)), (1, vR 0 0 0), (2, vR 5 0 0), (3, vR 15 0 0), (4, vR 16 0 0), (5, vI x5)]) [2, 3, 4, 5, 6, 7] rfl (vL_law_b642 C hs hk R28 hR28 x5 h5 H)
      · have H := H.2 c
        refine s_iconst (pc := 640) C dL_law_640 (x := (0 : Int32)) (by decide) ?_
        exact s_iret (pc := 641) rfl (by decide) ⟨rm_l1 hk.1 (by decide), rm_l1 hk.2 (by decide)⟩ H C dL_law_641
  · have H := H.2 c
    refine s_iconst (pc := 623) C dL_law_623 (x := (0 : Int32)) (by decide) ?_
    exact s_iret (pc := 624) rfl (by decide) ⟨rm_l1 hk.1 (by decide), rm_l1 hk.2 (by decide)⟩ H C dL_law_624
set_option maxRecDepth 100000 in
set_option maxHeartbeats 4000000 in
theorem vL_law_b645 {G : g_G} {X : g_X} {Q : g_R → g_Hp → Prop} {a0 L : Nat} {xs : Nat → Int32} (C : g_Cx y_ G X iL_law) (hs : g_Scr G X a0 L xs) {k n : Nat} (hk : k + 26 ≤ 603072 ∧ n + 1956 ≤ 7202922) (R28 : Int32 → g_Hp → Prop) (hR28 : ∀ (x5 : Int32) (h : g_Hp), R28 x5 h → g_V G X iL_law 603072 7202922 Q 28 (k + 26) (n + 1956) [(0, vV (.ref a0)), (1, vR 0 0 0), (2, vR 5 0 0), (3, vR 15 0 0), (4, vR 16 0 0), (5, vI x5)] [] h) (x5 : Int32) (h : g_Hp) (H : wL_law_b645 a0 L xs Q R28 x5 h) : g_V G X iL_law 603072 7202922 Q 645 (k + 0) (n + 0) [(0, vV (.ref a0)), (1, vR 0 0 0), (2, vR 5 0 0), (3, vR 15 0 0), (4, vR 16 0 0), (5, vI x5)] [] h := by
  refine s_aload_n (pc := 645) C dL_law_645 rfl 1 rfl ?_
  refine s_aload_nQ (pc := 646) C dL_law_646 rfl 0 rfl ?_
  refine s_iload (pc := 647) C dL_law_647 5 rfl ?_
  refine s_iconst (pc := 649) C dL_law_649 (x := (1 : Int32)) (by decide) ?_
  refine s_iadd (pc := 650) C dL_law_650 ?_
  refine s_sld (pc := 651) hs H.1 C dL_law_651 ?_
  have H := H.2
  refine s_aload_n (pc := 652) C dL_law_652 rfl 3 rfl ?_
  refine s_callsH (pc := 653) (nA := 3) (as := [vR 0 0 0, vI (xs (x5 + (1 : Int32)).toNatClampNeg), vR 15 0 0]) (st := []) (stk := [vR 15 0 0, vI (xs (x5 + (1 : Int32)).toNatClampNeg), vR 0 0 0]) C (fun l hl => ctL_supportOf l hl (xs (x5 + (1 : Int32)).toNatClampNeg) _ _ H) (fun _ _ z => z) rfl ⟨⟨kw_731, kw_57, kw_733⟩, ⟨by decide, by decide, by decide +kernel⟩, by decide, by decide⟩ kw_732 rfl (Nat.le_of_ble_eq_true rfl) ⟨rm_le hk.1 (by decide), rm_le hk.2 (by decide)⟩ rfl dL_law_653 (g_Kq_I (fun u2 h1 H => ?_) (fun E h1 H => H.elim))
  refine s_at (k' := k + 1) (n' := n + 6) (Nat.add_assoc k 0 1) (Nat.add_assoc n 0 6) ?_
  refine s_istore (pc := 656) (ls' := [(6, vI u2), (0, vV (.ref a0)), (1, vR 0 0 0), (2, vR 5 0 0), (3, vR 15 0 0), (4, vR 16 0 0), (5, vI x5)]) C dL_law_656 (by decide) rfl ?_
  refine s_aload_n (pc := 658) C dL_law_658 rfl 3 rfl ?_
  refine s_aload_nQ (pc := 659) C dL_law_659 rfl 1 rfl ?_
  refine s_iload (pc := 660) C dL_law_660 6 rfl ?_
  refine s_iconst (pc := 662) C dL_law_662 (x := (1 : Int32)) (by decide) ?_
  refine s_iadd (pc := 663) C dL_law_663 ?_
  refine s_sld (pc := 664) hs H.1 C dL_law_664 ?_
  have H := H.2
  refine s_callv (pc := 665) (nA := 1) (as := [vI (xs (x5 + (1 : Int32)).toNatClampNeg)]) (st := []) (stk := [vI (xs (x5 + (1 : Int32)).toNatClampNeg), vR 5 0 0]) ckX8 (Or.inl rfl) C (fun l hl => ctX8_supportOf l hl (xs (x5 + (1 : Int32)).toNatClampNeg) _ _ H) ⟨⟨kw_1636, kw_69, kw_1639⟩, rfl, ⟨by decide, by decide, by decide +kernel⟩, by decide, by decide⟩ kw_1637 (g_selW kw_1638) rfl (Nat.le_of_ble_eq_true rfl) ⟨rm_le hk.1 (by decide), rm_le hk.2 (by decide)⟩ rfl dL_law_665 (g_Kq_I (fun u4 h3 H => ?_) (fun E h3 H => H.elim))
  refine s_at (k' := k + 1) (n' := n + 6) (Nat.add_assoc k 1 0) (Nat.add_assoc n 6 0) ?_
  refine s_istore (pc := 668) (ls' := [(7, vI u4), (6, vI u2), (0, vV (.ref a0)), (1, vR 0 0 0), (2, vR 5 0 0), (3, vR 15 0 0), (4, vR 16 0 0), (5, vI x5)]) C dL_law_668 (by decide) rfl ?_
  refine s_aload_n (pc := 670) C dL_law_670 rfl 4 rfl ?_
  refine s_callv (pc := 671) (nA := 0) (as := []) (st := []) (stk := [vR 5 0 0]) ckX8 (Or.inl rfl) C (fun l hl => ctX8_thrown l hl _ _ H) ⟨⟨kw_1567, kw_69, kw_1570⟩, rfl, ⟨by decide, by decide, by decide +kernel⟩, by decide, by decide⟩ kw_1568 (g_selW kw_1569) rfl (Nat.le_of_ble_eq_true rfl) ⟨rm_le hk.1 (by decide), rm_le hk.2 (by decide)⟩ rfl dL_law_671 (g_Kq_I (fun u6 h5 H => ?_) (fun E h5 H => H.elim))
  refine s_at (k' := k + 1) (n' := n + 6) (Nat.add_assoc k 1 0) (Nat.add_assoc n 6 0) ?_
  refine s_iload (pc := 674) C dL_law_674 1 rfl ?_
  refine s_icmp_eq (pc := 676) (tgt := 681) C dL_law_676 (by decide) (fun c => ?_) (fun c => ?_)
  · have H := H.1 c
    refine s_iload (pc := 681) C dL_law_681 1 rfl ?_
    refine s_if_ne (pc := 683) (tgt := 698) C dL_law_683 (by decide) (fun c => ?_) (fun c => ?_)
    · have H := H.1 c
      exact s_sub (ls' := [(0, vV (.ref a0)), (1, vR 0 0 0), (2, vR 5 0 0), (3, vR 15 0 0), (4, vR 16 0 0), (5, vI x5)]) [2, 3, 4, 5, 6, 7] rfl (vL_law_b698 C hs hk R28 hR28 x5 h5 H)
    · have H := H.2 c
      refine s_aload_n (pc := 686) C dL_law_686 rfl 5 rfl ?_
      refine s_iconst (pc := 687) C dL_law_687 (x := (0 : Int32)) (by decide) ?_
      refine s_lald0 (pc := 688) C dL_law_688 ?_
      refine s_iload (pc := 689) C dL_law_689 0 rfl ?_
      refine s_i2l (pc := 691) C dL_law_691 ?_
      refine s_lcmp (pc := 692) C dL_law_692 ?_
      refine s_if_eq (pc := 693) (tgt := 698) C dL_law_693 (by decide) (fun c => ?_) (fun c => ?_)
      · have H := H.1 c
        exact s_sub (ls' := [(0, vV (.ref a0)), (1, vR 0 0 0), (2, vR 5 0 0), (3, vR 15 0 0), (4, vR 16 0 0), (5, vI x5)]) [2, 3, 4, 5, 6, 7] rfl (vL_law_b698 C hs hk R28 hR28 x5 h5 H)
      · have H := H.2 c
        refine s_iconst (pc := 696) C dL_law_696 (x := (0 : Int32)) (by decide) ?_
        exact s_iret (pc := 697) rfl (by decide) ⟨rm_l1 hk.1 (by decide), rm_l1 hk.2 (by decide)⟩ H C dL_law_697
  · have H := H.2 c
    refine s_iconst (pc := 679) C dL_law_679 (x := (0 : Int32)) (by decide) ?_
    exact s_iret (pc := 680) rfl (by decide) ⟨rm_l1 hk.1 (by decide), rm_l1 hk.2 (by decide)⟩ H C dL_law_680
set_option maxRecDepth 100000 in
set_option maxHeartbeats 4000000 in
theorem vL_law_b701 {G : g_G} {X : g_X} {Q : g_R → g_Hp → Prop} {a0 L : Nat} {xs : Nat → Int32} (C : g_Cx y_ G X iL_law) (hs : g_Scr G X a0 L xs) {k n : Nat} (hk : k + 26 ≤ 603072 ∧ n + 1956 ≤ 7202922) (R28 : Int32 → g_Hp → Prop) (hR28 : ∀ (x5 : Int32) (h : g_Hp), R28 x5 h → g_V G X iL_law 603072 7202922 Q 28 (k + 26) (n + 1956) [(0, vV (.ref a0)), (1, vR 0 0 0), (2, vR 5 0 0), (3, vR 15 0 0), (4, vR 16 0 0), (5, vI x5)] [] h) (x5 : Int32) (h : g_Hp) (H : wL_law_b701 a0 L xs Q R28 x5 h) : g_V G X iL_law 603072 7202922 Q 701 (k + 0) (n + 0) [(0, vV (.ref a0)), (1, vR 0 0 0), (2, vR 5 0 0), (3, vR 15 0 0), (4, vR 16 0 0), (5, vI x5)] [] h := by
  refine s_aload_n (pc := 701) C dL_law_701 rfl 1 rfl ?_
  refine s_aload_nQ (pc := 702) C dL_law_702 rfl 0 rfl ?_
  refine s_iload (pc := 703) C dL_law_703 5 rfl ?_
  refine s_iconst (pc := 705) C dL_law_705 (x := (1 : Int32)) (by decide) ?_
  refine s_iadd (pc := 706) C dL_law_706 ?_
  refine s_sld (pc := 707) hs H.1 C dL_law_707 ?_
  have H := H.2
  refine s_aload_n (pc := 708) C dL_law_708 rfl 3 rfl ?_
  refine s_callsH (pc := 709) (nA := 3) (as := [vR 0 0 0, vI (xs (x5 + (1 : Int32)).toNatClampNeg), vR 15 0 0]) (st := []) (stk := [vR 15 0 0, vI (xs (x5 + (1 : Int32)).toNatClampNeg), vR 0 0 0]) C (fun l hl => ctL_lostShifts l hl (xs (x5 + (1 : Int32)).toNatClampNeg) _ _ H) (fun _ _ z => z) rfl ⟨⟨kw_738, kw_57, kw_740⟩, ⟨by decide, by decide, by decide +kernel⟩, by decide, by decide⟩ kw_739 rfl (Nat.le_of_ble_eq_true rfl) ⟨rm_le hk.1 (by decide), rm_le hk.2 (by decide)⟩ rfl dL_law_709 (g_Kq_I (fun u2 h1 H => ?_) (fun E h1 H => H.elim))
  refine s_at (k' := k + 1) (n' := n + 6) (Nat.add_assoc k 0 1) (Nat.add_assoc n 0 6) ?_
  refine s_istore (pc := 712) (ls' := [(6, vI u2), (0, vV (.ref a0)), (1, vR 0 0 0), (2, vR 5 0 0), (3, vR 15 0 0), (4, vR 16 0 0), (5, vI x5)]) C dL_law_712 (by decide) rfl ?_
  refine s_aload_n (pc := 714) C dL_law_714 rfl 3 rfl ?_
  refine s_aload_nQ (pc := 715) C dL_law_715 rfl 1 rfl ?_
  refine s_iload (pc := 716) C dL_law_716 6 rfl ?_
  refine s_iconst (pc := 718) C dL_law_718 (x := (1 : Int32)) (by decide) ?_
  refine s_iadd (pc := 719) C dL_law_719 ?_
  refine s_sld (pc := 720) hs H.1 C dL_law_720 ?_
  have H := H.2
  refine s_callv (pc := 721) (nA := 1) (as := [vI (xs (x5 + (1 : Int32)).toNatClampNeg)]) (st := []) (stk := [vI (xs (x5 + (1 : Int32)).toNatClampNeg), vR 5 0 0]) ckX8 (Or.inl rfl) C (fun l hl => ctX8_lostShifts l hl (xs (x5 + (1 : Int32)).toNatClampNeg) _ _ H) ⟨⟨kw_1640, kw_69, kw_1643⟩, rfl, ⟨by decide, by decide, by decide +kernel⟩, by decide, by decide⟩ kw_1641 (g_selW kw_1642) rfl (Nat.le_of_ble_eq_true rfl) ⟨rm_le hk.1 (by decide), rm_le hk.2 (by decide)⟩ rfl dL_law_721 (g_Kq_I (fun u4 h3 H => ?_) (fun E h3 H => H.elim))
  refine s_at (k' := k + 1) (n' := n + 6) (Nat.add_assoc k 1 0) (Nat.add_assoc n 6 0) ?_
  refine s_istore (pc := 724) (ls' := [(7, vI u4), (6, vI u2), (0, vV (.ref a0)), (1, vR 0 0 0), (2, vR 5 0 0), (3, vR 15 0 0), (4, vR 16 0 0), (5, vI x5)]) C dL_law_724 (by decide) rfl ?_
  refine s_aload_n (pc := 726) C dL_law_726 rfl 4 rfl ?_
  refine s_callv (pc := 727) (nA := 0) (as := []) (st := []) (stk := [vR 5 0 0]) ckX8 (Or.inl rfl) C (fun l hl => ctX8_thrown l hl _ _ H) ⟨⟨kw_1567, kw_69, kw_1570⟩, rfl, ⟨by decide, by decide, by decide +kernel⟩, by decide, by decide⟩ kw_1568 (g_selW kw_1569) rfl (Nat.le_of_ble_eq_true rfl) ⟨rm_le hk.1 (by decide), rm_le hk.2 (by decide)⟩ rfl dL_law_727 (g_Kq_I (fun u6 h5 H => ?_) (fun E h5 H => H.elim))
  refine s_at (k' := k + 1) (n' := n + 6) (Nat.add_assoc k 1 0) (Nat.add_assoc n 6 0) ?_
  refine s_iload (pc := 730) C dL_law_730 1 rfl ?_
  refine s_icmp_eq (pc := 732) (tgt := 737) C dL_law_732 (by decide) (fun c => ?_) (fun c => ?_)
  · have H := H.1 c
    refine s_iload (pc := 737) C dL_law_737 1 rfl ?_
    refine s_if_ne (pc := 739) (tgt := 754) C dL_law_739 (by decide) (fun c => ?_) (fun c => ?_)
    · have H := H.1 c
      exact s_sub (ls' := [(0, vV (.ref a0)), (1, vR 0 0 0), (2, vR 5 0 0), (3, vR 15 0 0), (4, vR 16 0 0), (5, vI x5)]) [2, 3, 4, 5, 6, 7] rfl (vL_law_b754 C hs hk R28 hR28 x5 h5 H)
    · have H := H.2 c
      refine s_aload_n (pc := 742) C dL_law_742 rfl 5 rfl ?_
      refine s_iconst (pc := 743) C dL_law_743 (x := (0 : Int32)) (by decide) ?_
      refine s_lald0 (pc := 744) C dL_law_744 ?_
      refine s_iload (pc := 745) C dL_law_745 0 rfl ?_
      refine s_i2l (pc := 747) C dL_law_747 ?_
      refine s_lcmp (pc := 748) C dL_law_748 ?_
      refine s_if_eq (pc := 749) (tgt := 754) C dL_law_749 (by decide) (fun c => ?_) (fun c => ?_)
      · have H := H.1 c
        exact s_sub (ls' := [(0, vV (.ref a0)), (1, vR 0 0 0), (2, vR 5 0 0), (3, vR 15 0 0), (4, vR 16 0 0), (5, vI x5)]) [2, 3, 4, 5, 6, 7] rfl (vL_law_b754 C hs hk R28 hR28 x5 h5 H)
      · have H := H.2 c
        refine s_iconst (pc := 752) C dL_law_752 (x := (0 : Int32)) (by decide) ?_
        exact s_iret (pc := 753) rfl (by decide) ⟨rm_l1 hk.1 (by decide), rm_l1 hk.2 (by decide)⟩ H C dL_law_753
  · have H := H.2 c
    refine s_iconst (pc := 735) C dL_law_735 (x := (0 : Int32)) (by decide) ?_
    exact s_iret (pc := 736) rfl (by decide) ⟨rm_l1 hk.1 (by decide), rm_l1 hk.2 (by decide)⟩ H C dL_law_736
set_option maxRecDepth 100000 in
set_option maxHeartbeats 4000000 in
theorem vL_law_b757 {G : g_G} {X : g_X} {Q : g_R → g_Hp → Prop} {a0 L : Nat} {xs : Nat → Int32} (C : g_Cx y_ G X iL_law) (hs : g_Scr G X a0 L xs) {k n : Nat} (hk : k + 26 ≤ 603072 ∧ n + 1956 ≤ 7202922) (R28 : Int32 → g_Hp → Prop) (hR28 : ∀ (x5 : Int32) (h : g_Hp), R28 x5 h → g_V G X iL_law 603072 7202922 Q 28 (k + 26) (n + 1956) [(0, vV (.ref a0)), (1, vR 0 0 0), (2, vR 5 0 0), (3, vR 15 0 0), (4, vR 16 0 0), (5, vI x5)] [] h) (x5 : Int32) (h : g_Hp) (H : wL_law_b757 a0 L xs Q R28 x5 h) : g_V G X iL_law 603072 7202922 Q 757 (k + 0) (n + 0) [(0, vV (.ref a0)), (1, vR 0 0 0), (2, vR 5 0 0), (3, vR 15 0 0), (4, vR 16 0 0), (5, vI x5)] [] h := by
  refine s_aload_n (pc := 757) C dL_law_757 rfl 1 rfl ?_
  refine s_aload_nQ (pc := 758) C dL_law_758 rfl 0 rfl ?_
  refine s_iload (pc := 759) C dL_law_759 5 rfl ?_
  refine s_iconst (pc := 761) C dL_law_761 (x := (1 : Int32)) (by decide) ?_
  refine s_iadd (pc := 762) C dL_law_762 ?_
  refine s_sld (pc := 763) hs H.1 C dL_law_763 ?_
  have H := H.2
  refine s_aload (pc := 764) C dL_law_764 4 rfl ?_
  refine s_callsH (pc := 766) (nA := 3) (as := [vR 0 0 0, vI (xs (x5 + (1 : Int32)).toNatClampNeg), vR 16 0 0]) (st := []) (stk := [vR 16 0 0, vI (xs (x5 + (1 : Int32)).toNatClampNeg), vR 0 0 0]) C (fun l hl => ctL_lostDays l hl (xs (x5 + (1 : Int32)).toNatClampNeg) _ _ H) (fun _ _ z => z) rfl ⟨⟨kw_745, kw_57, kw_747⟩, ⟨by decide, by decide, by decide +kernel⟩, by decide, by decide⟩ kw_746 rfl (Nat.le_of_ble_eq_true rfl) ⟨rm_le hk.1 (by decide), rm_le hk.2 (by decide)⟩ rfl dL_law_766 (g_Kq_I (fun u2 h1 H => ?_) (fun E h1 H => H.elim))
  refine s_at (k' := k + 1) (n' := n + 6) (Nat.add_assoc k 0 1) (Nat.add_assoc n 0 6) ?_
  refine s_istore (pc := 769) (ls' := [(6, vI u2), (0, vV (.ref a0)), (1, vR 0 0 0), (2, vR 5 0 0), (3, vR 15 0 0), (4, vR 16 0 0), (5, vI x5)]) C dL_law_769 (by decide) rfl ?_
  refine s_aload_n (pc := 771) C dL_law_771 rfl 3 rfl ?_
  refine s_aload_nQ (pc := 772) C dL_law_772 rfl 1 rfl ?_
  refine s_iload (pc := 773) C dL_law_773 6 rfl ?_
  refine s_iconst (pc := 775) C dL_law_775 (x := (1 : Int32)) (by decide) ?_
  refine s_iadd (pc := 776) C dL_law_776 ?_
  refine s_sld (pc := 777) hs H.1 C dL_law_777 ?_
  have H := H.2
  refine s_callv (pc := 778) (nA := 1) (as := [vI (xs (x5 + (1 : Int32)).toNatClampNeg)]) (st := []) (stk := [vI (xs (x5 + (1 : Int32)).toNatClampNeg), vR 5 0 0]) ckX8 (Or.inl rfl) C (fun l hl => ctX8_lostDays l hl (xs (x5 + (1 : Int32)).toNatClampNeg) _ _ H) ⟨⟨kw_1644, kw_69, kw_1647⟩, rfl, ⟨by decide, by decide, by decide +kernel⟩, by decide, by decide⟩ kw_1645 (g_selW kw_1646) rfl (Nat.le_of_ble_eq_true rfl) ⟨rm_le hk.1 (by decide), rm_le hk.2 (by decide)⟩ rfl dL_law_778 (g_Kq_F (fun u4 h3 H => ?_) (fun E h3 H => H.elim))
  refine s_at (k' := k + 1) (n' := n + 6) (Nat.add_assoc k 1 0) (Nat.add_assoc n 6 0) ?_
  refine s_fstore (pc := 781) (ls' := [(7, vV (.float u4)), (6, vI u2), (0, vV (.ref a0)), (1, vR 0 0 0), (2, vR 5 0 0), (3, vR 15 0 0), (4, vR 16 0 0), (5, vI x5)]) C dL_law_781 (by decide) rfl ?_
  refine s_aload_n (pc := 783) C dL_law_783 rfl 4 rfl ?_
  refine s_callv (pc := 784) (nA := 0) (as := []) (st := []) (stk := [vR 5 0 0]) ckX8 (Or.inl rfl) C (fun l hl => ctX8_thrown l hl _ _ H) ⟨⟨kw_1567, kw_69, kw_1570⟩, rfl, ⟨by decide, by decide, by decide +kernel⟩, by decide, by decide⟩ kw_1568 (g_selW kw_1569) rfl (Nat.le_of_ble_eq_true rfl) ⟨rm_le hk.1 (by decide), rm_le hk.2 (by decide)⟩ rfl dL_law_784 (g_Kq_I (fun u6 h5 H => ?_) (fun E h5 H => H.elim))
  refine s_at (k' := k + 1) (n' := n + 6) (Nat.add_assoc k 1 0) (Nat.add_assoc n 6 0) ?_
  refine s_iload (pc := 787) C dL_law_787 1 rfl ?_
  refine s_icmp_eq (pc := 789) (tgt := 794) C dL_law_789 (by decide) (fun c => ?_) (fun c => ?_)
  · have H := H.1 c
    refine s_iload (pc := 794) C dL_law_794 1 rfl ?_
    refine s_if_ne (pc := 796) (tgt := 832) C dL_law_796 (by decide) (fun c => ?_) (fun c => ?_)
    · have H := H.1 c
      exact s_sub (ls' := [(0, vV (.ref a0)), (1, vR 0 0 0), (2, vR 5 0 0), (3, vR 15 0 0), (4, vR 16 0 0), (5, vI x5)]) [2, 3, 4, 5, 6, 7] rfl (vL_law_b832 C hs hk R28 hR28 x5 h5 H)
    · have H := H.2 c
      refine s_aload (pc := 799) C dL_law_799 6 rfl ?_
      refine s_iconst (pc := 801) C dL_law_801 (x := (0 : Int32)) (by decide) ?_
      refine s_dald0 (pc := 802) C dL_law_802 ?_
      refine s_fload (pc := 803) C dL_law_803 0 rfl ?_
      refine s_f2d (pc := 805) C dL_law_805 H.1 ?_
      have H := H.2
      refine s_dcmp (pc := 806) C dL_law_806 ?_
      refine s_if_eq (pc := 807) (tgt := 832) C dL_law_807 (by decide) (fun c => ?_) (fun c => ?_)
      · have H := H.1 c
        exact s_sub (ls' := [(0, vV (.ref a0)), (1, vR 0 0 0), (2, vR 5 0 0), (3, vR 15 0 0), (4, vR 16 0 0), (5, vI x5)]) [2, 3, 4, 5, 6, 7] rfl (vL_law_b832 C hs hk R28 hR28 x5 h5 H)
      · have H := H.2 c
        refine s_aload (pc := 810) C dL_law_810 6 rfl ?_
        refine s_iconst (pc := 812) C dL_law_812 (x := (0 : Int32)) (by decide) ?_
        refine s_dald0 (pc := 813) C dL_law_813 ?_
        refine s_aload (pc := 814) C dL_law_814 6 rfl ?_
        refine s_iconst (pc := 816) C dL_law_816 (x := (0 : Int32)) (by decide) ?_
        refine s_dald0 (pc := 817) C dL_law_817 ?_
        refine s_dcmp (pc := 818) C dL_law_818 ?_
        refine s_if_eq (pc := 819) (tgt := 830) C dL_law_819 (by decide) (fun c => ?_) (fun c => ?_)
        · have H := H.1 c
          exact s_sub (ls' := []) [] rfl (vL_law_b830 C hs hk R28 hR28  h5 H)
        · have H := H.2 c
          refine s_fload (pc := 822) C dL_law_822 0 rfl ?_
          refine s_fload (pc := 824) C dL_law_824 0 rfl ?_
          refine s_fcmp (pc := 826) C dL_law_826 ?_
          refine s_if_ne (pc := 827) (tgt := 832) C dL_law_827 (by decide) (fun c => ?_) (fun c => ?_)
          · have H := H.1 c
            exact s_sub (ls' := [(0, vV (.ref a0)), (1, vR 0 0 0), (2, vR 5 0 0), (3, vR 15 0 0), (4, vR 16 0 0), (5, vI x5)]) [2, 3, 4, 5, 6, 7] rfl (vL_law_b832 C hs hk R28 hR28 x5 h5 H)
          · have H := H.2 c
            exact s_sub (ls' := []) [] rfl (vL_law_b830 C hs hk R28 hR28  h5 H)
  · have H := H.2 c
    refine s_iconst (pc := 792) C dL_law_792 (x := (0 : Int32)) (by decide) ?_
    exact s_iret (pc := 793) rfl (by decide) ⟨rm_l1 hk.1 (by decide), rm_l1 hk.2 (by decide)⟩ H C dL_law_793
set_option maxRecDepth 100000 in
set_option maxHeartbeats 4000000 in
theorem vL_law_b835 {G : g_G} {X : g_X} {Q : g_R → g_Hp → Prop} {a0 L : Nat} {xs : Nat → Int32} (C : g_Cx y_ G X iL_law) (hs : g_Scr G X a0 L xs) {k n : Nat} (hk : k + 26 ≤ 603072 ∧ n + 1956 ≤ 7202922) (R28 : Int32 → g_Hp → Prop) (hR28 : ∀ (x5 : Int32) (h : g_Hp), R28 x5 h → g_V G X iL_law 603072 7202922 Q 28 (k + 26) (n + 1956) [(0, vV (.ref a0)), (1, vR 0 0 0), (2, vR 5 0 0), (3, vR 15 0 0), (4, vR 16 0 0), (5, vI x5)] [] h) (x5 : Int32) (h : g_Hp) (H : wL_law_b835 a0 L xs Q R28 x5 h) : g_V G X iL_law 603072 7202922 Q 835 (k + 0) (n + 0) [(0, vV (.ref a0)), (1, vR 0 0 0), (2, vR 5 0 0), (3, vR 15 0 0), (4, vR 16 0 0), (5, vI x5)] [] h := by
  refine s_aload_n (pc := 835) C dL_law_835 rfl 1 rfl ?_
  refine s_aload_nQ (pc := 836) C dL_law_836 rfl 0 rfl ?_
  refine s_iload (pc := 837) C dL_law_837 5 rfl ?_
  refine s_iconst (pc := 839) C dL_law_839 (x := (1 : Int32)) (by decide) ?_
  refine s_iadd (pc := 840) C dL_law_840 ?_
  refine s_sld (pc := 841) hs H.1 C dL_law_841 ?_
  have H := H.2
  refine s_aload_n (pc := 842) C dL_law_842 rfl 3 rfl ?_
  refine s_callsH (pc := 843) (nA := 3) (as := [vR 0 0 0, vI (xs (x5 + (1 : Int32)).toNatClampNeg), vR 15 0 0]) (st := []) (stk := [vR 15 0 0, vI (xs (x5 + (1 : Int32)).toNatClampNeg), vR 0 0 0]) C (fun l hl => ctL_dutiesOf l hl (xs (x5 + (1 : Int32)).toNatClampNeg) _ _ H) (fun _ _ z => z) rfl ⟨⟨kw_753, kw_57, kw_755⟩, ⟨by decide, by decide, by decide +kernel⟩, by decide, by decide⟩ kw_754 rfl (Nat.le_of_ble_eq_true rfl) ⟨rm_le hk.1 (by decide), rm_le hk.2 (by decide)⟩ rfl dL_law_843 (g_Kq_I (fun u2 h1 H => ?_) (fun E h1 H => H.elim))
  refine s_at (k' := k + 1) (n' := n + 6) (Nat.add_assoc k 0 1) (Nat.add_assoc n 0 6) ?_
  refine s_istore (pc := 846) (ls' := [(6, vI u2), (0, vV (.ref a0)), (1, vR 0 0 0), (2, vR 5 0 0), (3, vR 15 0 0), (4, vR 16 0 0), (5, vI x5)]) C dL_law_846 (by decide) rfl ?_
  refine s_aload_n (pc := 848) C dL_law_848 rfl 3 rfl ?_
  refine s_aload_nQ (pc := 849) C dL_law_849 rfl 1 rfl ?_
  refine s_iload (pc := 850) C dL_law_850 6 rfl ?_
  refine s_iconst (pc := 852) C dL_law_852 (x := (1 : Int32)) (by decide) ?_
  refine s_iadd (pc := 853) C dL_law_853 ?_
  refine s_sld (pc := 854) hs H.1 C dL_law_854 ?_
  have H := H.2
  refine s_callv (pc := 855) (nA := 1) (as := [vI (xs (x5 + (1 : Int32)).toNatClampNeg)]) (st := []) (stk := [vI (xs (x5 + (1 : Int32)).toNatClampNeg), vR 5 0 0]) ckX8 (Or.inl rfl) C (fun l hl => ctX8_dutiesOf l hl (xs (x5 + (1 : Int32)).toNatClampNeg) _ _ H) ⟨⟨kw_1649, kw_69, kw_1652⟩, rfl, ⟨by decide, by decide, by decide +kernel⟩, by decide, by decide⟩ kw_1650 (g_selW kw_1651) rfl (Nat.le_of_ble_eq_true rfl) ⟨rm_le hk.1 (by decide), rm_le hk.2 (by decide)⟩ rfl dL_law_855 (g_Kq_I (fun u4 h3 H => ?_) (fun E h3 H => H.elim))
  refine s_at (k' := k + 1) (n' := n + 6) (Nat.add_assoc k 1 0) (Nat.add_assoc n 6 0) ?_
  refine s_istore (pc := 858) (ls' := [(7, vI u4), (6, vI u2), (0, vV (.ref a0)), (1, vR 0 0 0), (2, vR 5 0 0), (3, vR 15 0 0), (4, vR 16 0 0), (5, vI x5)]) C dL_law_858 (by decide) rfl ?_
  refine s_aload_n (pc := 860) C dL_law_860 rfl 4 rfl ?_
  refine s_callv (pc := 861) (nA := 0) (as := []) (st := []) (stk := [vR 5 0 0]) ckX8 (Or.inl rfl) C (fun l hl => ctX8_thrown l hl _ _ H) ⟨⟨kw_1567, kw_69, kw_1570⟩, rfl, ⟨by decide, by decide, by decide +kernel⟩, by decide, by decide⟩ kw_1568 (g_selW kw_1569) rfl (Nat.le_of_ble_eq_true rfl) ⟨rm_le hk.1 (by decide), rm_le hk.2 (by decide)⟩ rfl dL_law_861 (g_Kq_I (fun u6 h5 H => ?_) (fun E h5 H => H.elim))
  refine s_at (k' := k + 1) (n' := n + 6) (Nat.add_assoc k 1 0) (Nat.add_assoc n 6 0) ?_
  refine s_iload (pc := 864) C dL_law_864 1 rfl ?_
  refine s_icmp_eq (pc := 866) (tgt := 871) C dL_law_866 (by decide) (fun c => ?_) (fun c => ?_)
  · have H := H.1 c
    refine s_iload (pc := 871) C dL_law_871 1 rfl ?_
    refine s_if_ne (pc := 873) (tgt := 888) C dL_law_873 (by decide) (fun c => ?_) (fun c => ?_)
    · have H := H.1 c
      exact s_sub (ls' := [(0, vV (.ref a0)), (1, vR 0 0 0), (2, vR 5 0 0), (3, vR 15 0 0), (4, vR 16 0 0), (5, vI x5)]) [2, 3, 4, 5, 6, 7] rfl (vL_law_b888 C hs hk R28 hR28 x5 h5 H)
    · have H := H.2 c
      refine s_aload_n (pc := 876) C dL_law_876 rfl 5 rfl ?_
      refine s_iconst (pc := 877) C dL_law_877 (x := (0 : Int32)) (by decide) ?_
      refine s_lald0 (pc := 878) C dL_law_878 ?_
      refine s_iload (pc := 879) C dL_law_879 0 rfl ?_
      refine s_i2l (pc := 881) C dL_law_881 ?_
      refine s_lcmp (pc := 882) C dL_law_882 ?_
      refine s_if_eq (pc := 883) (tgt := 888) C dL_law_883 (by decide) (fun c => ?_) (fun c => ?_)
      · have H := H.1 c
        exact s_sub (ls' := [(0, vV (.ref a0)), (1, vR 0 0 0), (2, vR 5 0 0), (3, vR 15 0 0), (4, vR 16 0 0), (5, vI x5)]) [2, 3, 4, 5, 6, 7] rfl (vL_law_b888 C hs hk R28 hR28 x5 h5 H)
      · have H := H.2 c
        refine s_iconst (pc := 886) C dL_law_886 (x := (0 : Int32)) (by decide) ?_
        exact s_iret (pc := 887) rfl (by decide) ⟨rm_l1 hk.1 (by decide), rm_l1 hk.2 (by decide)⟩ H C dL_law_887
  · have H := H.2 c
    refine s_iconst (pc := 869) C dL_law_869 (x := (0 : Int32)) (by decide) ?_
    exact s_iret (pc := 870) rfl (by decide) ⟨rm_l1 hk.1 (by decide), rm_l1 hk.2 (by decide)⟩ H C dL_law_870
set_option maxRecDepth 100000 in
set_option maxHeartbeats 4000000 in
theorem vL_law_b891 {G : g_G} {X : g_X} {Q : g_R → g_Hp → Prop} {a0 L : Nat} {xs : Nat → Int32} (C : g_Cx y_ G X iL_law) (hs : g_Scr G X a0 L xs) {k n : Nat} (hk : k + 26 ≤ 603072 ∧ n + 1956 ≤ 7202922) (R28 : Int32 → g_Hp → Prop) (hR28 : ∀ (x5 : Int32) (h : g_Hp), R28 x5 h → g_V G X iL_law 603072 7202922 Q 28 (k + 26) (n + 1956) [(0, vV (.ref a0)), (1, vR 0 0 0), (2, vR 5 0 0), (3, vR 15 0 0), (4, vR 16 0 0), (5, vI x5)] [] h) (x5 : Int32) (h : g_Hp) (H : wL_law_b891 a0 L xs Q R28 x5 h) : g_V G X iL_law 603072 7202922 Q 891 (k + 0) (n + 0) [(0, vV (.ref a0)), (1, vR 0 0 0), (2, vR 5 0 0), (3, vR 15 0 0), (4, vR 16 0 0), (5, vI x5)] [] h := by
  refine s_aload_n (pc := 891) C dL_law_891 rfl 1 rfl ?_
  refine s_aload_nQ (pc := 892) C dL_law_892 rfl 0 rfl ?_
  refine s_iload (pc := 893) C dL_law_893 5 rfl ?_
  refine s_iconst (pc := 895) C dL_law_895 (x := (1 : Int32)) (by decide) ?_
  refine s_iadd (pc := 896) C dL_law_896 ?_
  refine s_sld (pc := 897) hs H.1 C dL_law_897 ?_
  have H := H.2
  refine s_aload_n (pc := 898) C dL_law_898 rfl 3 rfl ?_
  refine s_callsH (pc := 899) (nA := 3) (as := [vR 0 0 0, vI (xs (x5 + (1 : Int32)).toNatClampNeg), vR 15 0 0]) (st := []) (stk := [vR 15 0 0, vI (xs (x5 + (1 : Int32)).toNatClampNeg), vR 0 0 0]) C (fun l hl => ctL_memberAtRank l hl (xs (x5 + (1 : Int32)).toNatClampNeg) _ _ H) (fun _ _ z => z) rfl ⟨⟨kw_760, kw_57, kw_762⟩, ⟨by decide, by decide, by decide +kernel⟩, by decide, by decide⟩ kw_761 rfl (Nat.le_of_ble_eq_true rfl) ⟨rm_le hk.1 (by decide), rm_le hk.2 (by decide)⟩ rfl dL_law_899 (g_Kq_I (fun u2 h1 H => ?_) (fun E h1 H => H.elim))
  refine s_at (k' := k + 1) (n' := n + 6) (Nat.add_assoc k 0 1) (Nat.add_assoc n 0 6) ?_
  refine s_istore (pc := 902) (ls' := [(6, vI u2), (0, vV (.ref a0)), (1, vR 0 0 0), (2, vR 5 0 0), (3, vR 15 0 0), (4, vR 16 0 0), (5, vI x5)]) C dL_law_902 (by decide) rfl ?_
  refine s_aload_n (pc := 904) C dL_law_904 rfl 3 rfl ?_
  refine s_aload_nQ (pc := 905) C dL_law_905 rfl 1 rfl ?_
  refine s_iload (pc := 906) C dL_law_906 6 rfl ?_
  refine s_iconst (pc := 908) C dL_law_908 (x := (1 : Int32)) (by decide) ?_
  refine s_iadd (pc := 909) C dL_law_909 ?_
  refine s_sld (pc := 910) hs H.1 C dL_law_910 ?_
  have H := H.2
  refine s_callv (pc := 911) (nA := 1) (as := [vI (xs (x5 + (1 : Int32)).toNatClampNeg)]) (st := []) (stk := [vI (xs (x5 + (1 : Int32)).toNatClampNeg), vR 5 0 0]) ckX8 (Or.inl rfl) C (fun l hl => ctX8_memberAtRank l hl (xs (x5 + (1 : Int32)).toNatClampNeg) _ _ H) ⟨⟨kw_1653, kw_69, kw_1656⟩, rfl, ⟨by decide, by decide, by decide +kernel⟩, by decide, by decide⟩ kw_1654 (g_selW kw_1655) rfl (Nat.le_of_ble_eq_true rfl) ⟨rm_le hk.1 (by decide), rm_le hk.2 (by decide)⟩ rfl dL_law_911 (g_Kq_I (fun u4 h3 H => ?_) (fun E h3 H => H.elim))
  refine s_at (k' := k + 1) (n' := n + 6) (Nat.add_assoc k 1 0) (Nat.add_assoc n 6 0) ?_
  refine s_istore (pc := 914) (ls' := [(7, vI u4), (6, vI u2), (0, vV (.ref a0)), (1, vR 0 0 0), (2, vR 5 0 0), (3, vR 15 0 0), (4, vR 16 0 0), (5, vI x5)]) C dL_law_914 (by decide) rfl ?_
  refine s_aload_n (pc := 916) C dL_law_916 rfl 4 rfl ?_
  refine s_callv (pc := 917) (nA := 0) (as := []) (st := []) (stk := [vR 5 0 0]) ckX8 (Or.inl rfl) C (fun l hl => ctX8_thrown l hl _ _ H) ⟨⟨kw_1567, kw_69, kw_1570⟩, rfl, ⟨by decide, by decide, by decide +kernel⟩, by decide, by decide⟩ kw_1568 (g_selW kw_1569) rfl (Nat.le_of_ble_eq_true rfl) ⟨rm_le hk.1 (by decide), rm_le hk.2 (by decide)⟩ rfl dL_law_917 (g_Kq_I (fun u6 h5 H => ?_) (fun E h5 H => H.elim))
  refine s_at (k' := k + 1) (n' := n + 6) (Nat.add_assoc k 1 0) (Nat.add_assoc n 6 0) ?_
  refine s_iload (pc := 920) C dL_law_920 1 rfl ?_
  refine s_icmp_eq (pc := 922) (tgt := 927) C dL_law_922 (by decide) (fun c => ?_) (fun c => ?_)
  · have H := H.1 c
    refine s_iload (pc := 927) C dL_law_927 1 rfl ?_
    refine s_if_ne (pc := 929) (tgt := 944) C dL_law_929 (by decide) (fun c => ?_) (fun c => ?_)
    · have H := H.1 c
      exact s_sub (ls' := [(0, vV (.ref a0)), (1, vR 0 0 0), (2, vR 5 0 0), (3, vR 15 0 0), (4, vR 16 0 0), (5, vI x5)]) [2, 3, 4, 5, 6, 7] rfl (vL_law_b944 C hs hk R28 hR28 x5 h5 H)
    · have H := H.2 c
      refine s_aload_n (pc := 932) C dL_law_932 rfl 5 rfl ?_
      refine s_iconst (pc := 933) C dL_law_933 (x := (0 : Int32)) (by decide) ?_
      refine s_lald0 (pc := 934) C dL_law_934 ?_
      refine s_iload (pc := 935) C dL_law_935 0 rfl ?_
      refine s_i2l (pc := 937) C dL_law_937 ?_
      refine s_lcmp (pc := 938) C dL_law_938 ?_
      refine s_if_eq (pc := 939) (tgt := 944) C dL_law_939 (by decide) (fun c => ?_) (fun c => ?_)
      · have H := H.1 c
        exact s_sub (ls' := [(0, vV (.ref a0)), (1, vR 0 0 0), (2, vR 5 0 0), (3, vR 15 0 0), (4, vR 16 0 0), (5, vI x5)]) [2, 3, 4, 5, 6, 7] rfl (vL_law_b944 C hs hk R28 hR28 x5 h5 H)
      · have H := H.2 c
        refine s_iconst (pc := 942) C dL_law_942 (x := (0 : Int32)) (by decide) ?_
        exact s_iret (pc := 943) rfl (by decide) ⟨rm_l1 hk.1 (by decide), rm_l1 hk.2 (by decide)⟩ H C dL_law_943
  · have H := H.2 c
    refine s_iconst (pc := 925) C dL_law_925 (x := (0 : Int32)) (by decide) ?_
    exact s_iret (pc := 926) rfl (by decide) ⟨rm_l1 hk.1 (by decide), rm_l1 hk.2 (by decide)⟩ H C dL_law_926
