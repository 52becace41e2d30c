/-! the law: cases -/
set_option maxRecDepth 100000 in
set_option maxHeartbeats 4000000 in
theorem vL_law_b1653 {G : g_G} {X : g_X} {Q : g_R → g_Hp → Prop} {a0 L : Nat} {xs : Nat → Int32} (C : g_Cx y_ G X iL_law) (hs : g_Scr G X a0 L xs) {k n : Nat} (hk : k + 26 ≤ 603072 ∧ n + 1956 ≤ 7202922) (R28 : Int32 → g_Hp → Prop) (hR28 : ∀ (x5 : Int32) (h : g_Hp), R28 x5 h → g_V G X iL_law 603072 7202922 Q 28 (k + 26) (n + 1956) [(0, vV (.ref a0)), (1, vR 0 0 0), (2, vR 5 0 0), (3, vR 15 0 0), (4, vR 16 0 0), (5, vI x5)] [] h) (x5 : Int32) (h : g_Hp) (H : wL_law_b1653 a0 L xs Q R28 x5 h) : g_V G X iL_law 603072 7202922 Q 1653 (k + 0) (n + 0) [(0, vV (.ref a0)), (1, vR 0 0 0), (2, vR 5 0 0), (3, vR 15 0 0), (4, vR 16 0 0), (5, vI x5)] [] h := by
  refine s_aload_n (pc := 1653) C dL_law_1653 rfl 1 rfl ?_
  refine s_aload_nQ (pc := 1654) C dL_law_1654 rfl 0 rfl ?_
  refine s_iload (pc := 1655) C dL_law_1655 5 rfl ?_
  refine s_iconst (pc := 1657) C dL_law_1657 (x := (1 : Int32)) (by decide) ?_
  refine s_iadd (pc := 1658) C dL_law_1658 ?_
  refine s_sld (pc := 1659) hs H.1 C dL_law_1659 ?_
  have H := H.2
  refine s_aload_nQ (pc := 1660) C dL_law_1660 rfl 0 rfl ?_
  refine s_iload (pc := 1661) C dL_law_1661 5 rfl ?_
  refine s_iconst (pc := 1663) C dL_law_1663 (x := (2 : Int32)) (by decide) ?_
  refine s_iadd (pc := 1664) C dL_law_1664 ?_
  refine s_sld (pc := 1665) hs H.1 C dL_law_1665 ?_
  have H := H.2
  refine s_aload_n (pc := 1666) C dL_law_1666 rfl 3 rfl ?_
  refine s_callsH (pc := 1667) (nA := 4) (as := [vR 0 0 0, vI (xs (x5 + (1 : Int32)).toNatClampNeg), vI (xs (x5 + (2 : Int32)).toNatClampNeg), vR 15 0 0]) (st := []) (stk := [vR 15 0 0, vI (xs (x5 + (2 : Int32)).toNatClampNeg), vI (xs (x5 + (1 : Int32)).toNatClampNeg), vR 0 0 0]) C (fun l hl => ctL_signUp l hl (xs (x5 + (1 : Int32)).toNatClampNeg) (xs (x5 + (2 : Int32)).toNatClampNeg) _ _ H) (fun _ _ z => z) rfl ⟨⟨kw_911, kw_57, kw_913⟩, ⟨by decide, by decide, by decide +kernel⟩, by decide, by decide⟩ kw_912 rfl (Nat.le_of_ble_eq_true rfl) ⟨rm_le hk.1 (by decide), rm_le hk.2 (by decide)⟩ rfl dL_law_1667 (g_Kq_I (fun u2 h1 H => ?_) (fun E h1 H => H.elim))
  refine s_at (k' := k + 1) (n' := n + 6) (Nat.add_assoc k 0 1) (Nat.add_assoc n 0 6) ?_
  refine s_istore (pc := 1670) (ls' := [(6, vI u2), (0, vV (.ref a0)), (1, vR 0 0 0), (2, vR 5 0 0), (3, vR 15 0 0), (4, vR 16 0 0), (5, vI x5)]) C dL_law_1670 (by decide) rfl ?_
  refine s_aload_n (pc := 1672) C dL_law_1672 rfl 3 rfl ?_
  refine s_aload_nQ (pc := 1673) C dL_law_1673 rfl 1 rfl ?_
  refine s_iload (pc := 1674) C dL_law_1674 6 rfl ?_
  refine s_iconst (pc := 1676) C dL_law_1676 (x := (1 : Int32)) (by decide) ?_
  refine s_iadd (pc := 1677) C dL_law_1677 ?_
  refine s_sld (pc := 1678) hs H.1 C dL_law_1678 ?_
  have H := H.2
  refine s_aload_nQ (pc := 1679) C dL_law_1679 rfl 1 rfl ?_
  refine s_iload (pc := 1680) C dL_law_1680 6 rfl ?_
  refine s_iconst (pc := 1682) C dL_law_1682 (x := (2 : Int32)) (by decide) ?_
  refine s_iadd (pc := 1683) C dL_law_1683 ?_
  refine s_sld (pc := 1684) hs H.1 C dL_law_1684 ?_
  have H := H.2
  refine s_callv (pc := 1685) (nA := 2) (as := [vI (xs (x5 + (1 : Int32)).toNatClampNeg), vI (xs (x5 + (2 : Int32)).toNatClampNeg)]) (st := []) (stk := [vI (xs (x5 + (2 : Int32)).toNatClampNeg), vI (xs (x5 + (1 : Int32)).toNatClampNeg), vR 5 0 0]) ckX8 (Or.inl rfl) C (fun l hl => ctX8_signUp l hl (xs (x5 + (1 : Int32)).toNatClampNeg) (xs (x5 + (2 : Int32)).toNatClampNeg) _ _ H) ⟨⟨kw_1773, kw_69, kw_1776⟩, rfl, ⟨by decide, by decide, by decide +kernel⟩, by decide, by decide⟩ kw_1774 (g_selW kw_1775) rfl (Nat.le_of_ble_eq_true rfl) ⟨rm_le hk.1 (by decide), rm_le hk.2 (by decide)⟩ rfl dL_law_1685 (g_Kq_I (fun u4 h3 H => ?_) (fun E h3 H => H.elim))
  refine s_at (k' := k + 1) (n' := n + 6) (Nat.add_assoc k 1 0) (Nat.add_assoc n 6 0) ?_
  refine s_istore (pc := 1688) (ls' := [(7, vI u4), (6, vI u2), (0, vV (.ref a0)), (1, vR 0 0 0), (2, vR 5 0 0), (3, vR 15 0 0), (4, vR 16 0 0), (5, vI x5)]) C dL_law_1688 (by decide) rfl ?_
  refine s_aload_n (pc := 1690) C dL_law_1690 rfl 4 rfl ?_
  refine s_callv (pc := 1691) (nA := 0) (as := []) (st := []) (stk := [vR 5 0 0]) ckX8 (Or.inl rfl) C (fun l hl => ctX8_thrown l hl _ _ H) ⟨⟨kw_1567, kw_69, kw_1570⟩, rfl, ⟨by decide, by decide, by decide +kernel⟩, by decide, by decide⟩ kw_1568 (g_selW kw_1569) rfl (Nat.le_of_ble_eq_true rfl) ⟨rm_le hk.1 (by decide), rm_le hk.2 (by decide)⟩ rfl dL_law_1691 (g_Kq_I (fun u6 h5 H => ?_) (fun E h5 H => H.elim))
  refine s_at (k' := k + 1) (n' := n + 6) (Nat.add_assoc k 1 0) (Nat.add_assoc n 6 0) ?_
  refine s_iload (pc := 1694) C dL_law_1694 1 rfl ?_
  refine s_icmp_eq (pc := 1696) (tgt := 1701) C dL_law_1696 (by decide) (fun c => ?_) (fun c => ?_)
  · have H := H.1 c
    refine s_iload (pc := 1701) C dL_law_1701 1 rfl ?_
    refine s_if_ne (pc := 1703) (tgt := 1718) C dL_law_1703 (by decide) (fun c => ?_) (fun c => ?_)
    · have H := H.1 c
      exact s_sub (ls' := [(0, vV (.ref a0)), (1, vR 0 0 0), (2, vR 5 0 0), (3, vR 15 0 0), (4, vR 16 0 0), (5, vI x5)]) [2, 3, 4, 5, 6, 7] rfl (vL_law_b1718 C hs hk R28 hR28 x5 h5 H)
    · have H := H.2 c
      refine s_aload_n (pc := 1706) C dL_law_1706 rfl 5 rfl ?_
      refine s_iconst (pc := 1707) C dL_law_1707 (x := (0 : Int32)) (by decide) ?_
      refine s_lald0 (pc := 1708) C dL_law_1708 ?_
      refine s_iload (pc := 1709) C dL_law_1709 0 rfl ?_
      refine s_i2l (pc := 1711) C dL_law_1711 ?_
      refine s_lcmp (pc := 1712) C dL_law_1712 ?_
      refine s_if_eq (pc := 1713) (tgt := 1718) C dL_law_1713 (by decide) (fun c => ?_) (fun c => ?_)
      · have H := H.1 c
        exact s_sub (ls' := [(0, vV (.ref a0)), (1, vR 0 0 0), (2, vR 5 0 0), (3, vR 15 0 0), (4, vR 16 0 0), (5, vI x5)]) [2, 3, 4, 5, 6, 7] rfl (vL_law_b1718 C hs hk R28 hR28 x5 h5 H)
      · have H := H.2 c
        refine s_iconst (pc := 1716) C dL_law_1716 (x := (0 : Int32)) (by decide) ?_
        exact s_iret (pc := 1717) rfl (by decide) ⟨rm_l1 hk.1 (by decide), rm_l1 hk.2 (by decide)⟩ H C dL_law_1717
  · have H := H.2 c
    refine s_iconst (pc := 1699) C dL_law_1699 (x := (0 : Int32)) (by decide) ?_
    exact s_iret (pc := 1700) rfl (by decide) ⟨rm_l1 hk.1 (by decide), rm_l1 hk.2 (by decide)⟩ H C dL_law_1700
set_option maxRecDepth 100000 in
set_option maxHeartbeats 4000000 in
theorem vL_law_b1721 {G : g_G} {X : g_X} {Q : g_R → g_Hp → Prop} {a0 L : Nat} {xs : Nat → Int32} (C : g_Cx y_ G X iL_law) (hs : g_Scr G X a0 L xs) {k n : Nat} (hk : k + 26 ≤ 603072 ∧ n + 1956 ≤ 7202922) (R28 : Int32 → g_Hp → Prop) (hR28 : ∀ (x5 : Int32) (h : g_Hp), R28 x5 h → g_V G X iL_law 603072 7202922 Q 28 (k + 26) (n + 1956) [(0, vV (.ref a0)), (1, vR 0 0 0), (2, vR 5 0 0), (3, vR 15 0 0), (4, vR 16 0 0), (5, vI x5)] [] h) (x5 : Int32) (h : g_Hp) (H : wL_law_b1721 a0 L xs Q R28 x5 h) : g_V G X iL_law 603072 7202922 Q 1721 (k + 0) (n + 0) [(0, vV (.ref a0)), (1, vR 0 0 0), (2, vR 5 0 0), (3, vR 15 0 0), (4, vR 16 0 0), (5, vI x5)] [] h := by
  refine s_aload_n (pc := 1721) C dL_law_1721 rfl 1 rfl ?_
  refine s_aload_nQ (pc := 1722) C dL_law_1722 rfl 0 rfl ?_
  refine s_iload (pc := 1723) C dL_law_1723 5 rfl ?_
  refine s_iconst (pc := 1725) C dL_law_1725 (x := (1 : Int32)) (by decide) ?_
  refine s_iadd (pc := 1726) C dL_law_1726 ?_
  refine s_sld (pc := 1727) hs H.1 C dL_law_1727 ?_
  have H := H.2
  refine s_aload_n (pc := 1728) C dL_law_1728 rfl 3 rfl ?_
  refine s_callsH (pc := 1729) (nA := 3) (as := [vR 0 0 0, vI (xs (x5 + (1 : Int32)).toNatClampNeg), vR 15 0 0]) (st := []) (stk := [vR 15 0 0, vI (xs (x5 + (1 : Int32)).toNatClampNeg), vR 0 0 0]) C (fun l hl => ctL_strikeOff l hl (xs (x5 + (1 : Int32)).toNatClampNeg) _ _ H) (fun _ _ z => z) rfl ⟨⟨kw_926, kw_57, kw_928⟩, ⟨by decide, by decide, by decide +kernel⟩, by decide, by decide⟩ kw_927 rfl (Nat.le_of_ble_eq_true rfl) ⟨rm_le hk.1 (by decide), rm_le hk.2 (by decide)⟩ rfl dL_law_1729 (g_Kq_I (fun u2 h1 H => ?_) (fun E h1 H => H.elim))
  refine s_at (k' := k + 1) (n' := n + 6) (Nat.add_assoc k 0 1) (Nat.add_assoc n 0 6) ?_
  refine s_istore (pc := 1732) (ls' := [(6, vI u2), (0, vV (.ref a0)), (1, vR 0 0 0), (2, vR 5 0 0), (3, vR 15 0 0), (4, vR 16 0 0), (5, vI x5)]) C dL_law_1732 (by decide) rfl ?_
  refine s_aload_n (pc := 1734) C dL_law_1734 rfl 3 rfl ?_
  refine s_aload_nQ (pc := 1735) C dL_law_1735 rfl 1 rfl ?_
  refine s_iload (pc := 1736) C dL_law_1736 6 rfl ?_
  refine s_iconst (pc := 1738) C dL_law_1738 (x := (1 : Int32)) (by decide) ?_
  refine s_iadd (pc := 1739) C dL_law_1739 ?_
  refine s_sld (pc := 1740) hs H.1 C dL_law_1740 ?_
  have H := H.2
  refine s_callv (pc := 1741) (nA := 1) (as := [vI (xs (x5 + (1 : Int32)).toNatClampNeg)]) (st := []) (stk := [vI (xs (x5 + (1 : Int32)).toNatClampNeg), vR 5 0 0]) ckX8 (Or.inl rfl) C (fun l hl => ctX8_strikeOff l hl (xs (x5 + (1 : Int32)).toNatClampNeg) _ _ H) ⟨⟨kw_1785, kw_69, kw_1788⟩, rfl, ⟨by decide, by decide, by decide +kernel⟩, by decide, by decide⟩ kw_1786 (g_selW kw_1787) rfl (Nat.le_of_ble_eq_true rfl) ⟨rm_le hk.1 (by decide), rm_le hk.2 (by decide)⟩ rfl dL_law_1741 (g_Kq_I (fun u4 h3 H => ?_) (fun E h3 H => H.elim))
  refine s_at (k' := k + 1) (n' := n + 6) (Nat.add_assoc k 1 0) (Nat.add_assoc n 6 0) ?_
  refine s_istore (pc := 1744) (ls' := [(7, vI u4), (6, vI u2), (0, vV (.ref a0)), (1, vR 0 0 0), (2, vR 5 0 0), (3, vR 15 0 0), (4, vR 16 0 0), (5, vI x5)]) C dL_law_1744 (by decide) rfl ?_
  refine s_aload_n (pc := 1746) C dL_law_1746 rfl 4 rfl ?_
  refine s_callv (pc := 1747) (nA := 0) (as := []) (st := []) (stk := [vR 5 0 0]) ckX8 (Or.inl rfl) C (fun l hl => ctX8_thrown l hl _ _ H) ⟨⟨kw_1567, kw_69, kw_1570⟩, rfl, ⟨by decide, by decide, by decide +kernel⟩, by decide, by decide⟩ kw_1568 (g_selW kw_1569) rfl (Nat.le_of_ble_eq_true rfl) ⟨rm_le hk.1 (by decide), rm_le hk.2 (by decide)⟩ rfl dL_law_1747 (g_Kq_I (fun u6 h5 H => ?_) (fun E h5 H => H.elim))
  refine s_at (k' := k + 1) (n' := n + 6) (Nat.add_assoc k 1 0) (Nat.add_assoc n 6 0) ?_
  refine s_iload (pc := 1750) C dL_law_1750 1 rfl ?_
  refine s_icmp_eq (pc := 1752) (tgt := 1757) C dL_law_1752 (by decide) (fun c => ?_) (fun c => ?_)
  · have H := H.1 c
    refine s_iload (pc := 1757) C dL_law_1757 1 rfl ?_
    refine s_if_ne (pc := 1759) (tgt := 1774) C dL_law_1759 (by decide) (fun c => ?_) (fun c => ?_)
    · have H := H.1 c
      exact s_sub (ls' := [(0, vV (.ref a0)), (1, vR 0 0 0), (2, vR 5 0 0), (3, vR 15 0 0), (4, vR 16 0 0), (5, vI x5)]) [2, 3, 4, 5, 6, 7] rfl (vL_law_b1774 C hs hk R28 hR28 x5 h5 H)
    · have H := H.2 c
      refine s_aload_n (pc := 1762) C dL_law_1762 rfl 5 rfl ?_
      refine s_iconst (pc := 1763) C dL_law_1763 (x := (0 : Int32)) (by decide) ?_
      refine s_lald0 (pc := 1764) C dL_law_1764 ?_
      refine s_iload (pc := 1765) C dL_law_1765 0 rfl ?_
      refine s_i2l (pc := 1767) C dL_law_1767 ?_
      refine s_lcmp (pc := 1768) C dL_law_1768 ?_
      refine s_if_eq (pc := 1769) (tgt := 1774) C dL_law_1769 (by decide) (fun c => ?_) (fun c => ?_)
      · have H := H.1 c
        exact s_sub (ls' := [(0, vV (.ref a0)), (1, vR 0 0 0), (2, vR 5 0 0), (3, vR 15 0 0), (4, vR 16 0 0), (5, vI x5)]) [2, 3, 4, 5, 6, 7] rfl (vL_law_b1774 C hs hk R28 hR28 x5 h5 H)
      · have H := H.2 c
        refine s_iconst (pc := 1772) C dL_law_1772 (x := (0 : Int32)) (by decide) ?_
        exact s_iret (pc := 1773) rfl (by decide) ⟨rm_l1 hk.1 (by decide), rm_l1 hk.2 (by decide)⟩ H C dL_law_1773
  · have H := H.2 c
    refine s_iconst (pc := 1755) C dL_law_1755 (x := (0 : Int32)) (by decide) ?_
    exact s_iret (pc := 1756) rfl (by decide) ⟨rm_l1 hk.1 (by decide), rm_l1 hk.2 (by decide)⟩ H C dL_law_1756
set_option maxRecDepth 100000 in
set_option maxHeartbeats 4000000 in
theorem vL_law_b1777 {G : g_G} {X : g_X} {Q : g_R → g_Hp → Prop} {a0 L : Nat} {xs : Nat → Int32} (C : g_Cx y_ G X iL_law) (hs : g_Scr G X a0 L xs) {k n : Nat} (hk : k + 26 ≤ 603072 ∧ n + 1956 ≤ 7202922) (R28 : Int32 → g_Hp → Prop) (hR28 : ∀ (x5 : Int32) (h : g_Hp), R28 x5 h → g_V G X iL_law 603072 7202922 Q 28 (k + 26) (n + 1956) [(0, vV (.ref a0)), (1, vR 0 0 0), (2, vR 5 0 0), (3, vR 15 0 0), (4, vR 16 0 0), (5, vI x5)] [] h) (x5 : Int32) (h : g_Hp) (H : wL_law_b1777 a0 L xs Q R28 x5 h) : g_V G X iL_law 603072 7202922 Q 1777 (k + 0) (n + 0) [(0, vV (.ref a0)), (1, vR 0 0 0), (2, vR 5 0 0), (3, vR 15 0 0), (4, vR 16 0 0), (5, vI x5)] [] h := by
  refine s_aload_n (pc := 1777) C dL_law_1777 rfl 1 rfl ?_
  refine s_aload_nQ (pc := 1778) C dL_law_1778 rfl 0 rfl ?_
  refine s_iload (pc := 1779) C dL_law_1779 5 rfl ?_
  refine s_iconst (pc := 1781) C dL_law_1781 (x := (1 : Int32)) (by decide) ?_
  refine s_iadd (pc := 1782) C dL_law_1782 ?_
  refine s_sld (pc := 1783) hs H.1 C dL_law_1783 ?_
  have H := H.2
  refine s_aload_n (pc := 1784) C dL_law_1784 rfl 3 rfl ?_
  refine s_callsH (pc := 1785) (nA := 3) (as := [vR 0 0 0, vI (xs (x5 + (1 : Int32)).toNatClampNeg), vR 15 0 0]) (st := []) (stk := [vR 15 0 0, vI (xs (x5 + (1 : Int32)).toNatClampNeg), vR 0 0 0]) C (fun l hl => ctL_listLength l hl (xs (x5 + (1 : Int32)).toNatClampNeg) _ _ H) (fun _ _ z => z) rfl ⟨⟨kw_943, kw_57, kw_945⟩, ⟨by decide, by decide, by decide +kernel⟩, by decide, by decide⟩ kw_944 rfl (Nat.le_of_ble_eq_true rfl) ⟨rm_le hk.1 (by decide), rm_le hk.2 (by decide)⟩ rfl dL_law_1785 (g_Kq_I (fun u2 h1 H => ?_) (fun E h1 H => H.elim))
  refine s_at (k' := k + 1) (n' := n + 6) (Nat.add_assoc k 0 1) (Nat.add_assoc n 0 6) ?_
  refine s_istore (pc := 1788) (ls' := [(6, vI u2), (0, vV (.ref a0)), (1, vR 0 0 0), (2, vR 5 0 0), (3, vR 15 0 0), (4, vR 16 0 0), (5, vI x5)]) C dL_law_1788 (by decide) rfl ?_
  refine s_aload_n (pc := 1790) C dL_law_1790 rfl 3 rfl ?_
  refine s_aload_nQ (pc := 1791) C dL_law_1791 rfl 1 rfl ?_
  refine s_iload (pc := 1792) C dL_law_1792 6 rfl ?_
  refine s_iconst (pc := 1794) C dL_law_1794 (x := (1 : Int32)) (by decide) ?_
  refine s_iadd (pc := 1795) C dL_law_1795 ?_
  refine s_sld (pc := 1796) hs H.1 C dL_law_1796 ?_
  have H := H.2
  refine s_callv (pc := 1797) (nA := 1) (as := [vI (xs (x5 + (1 : Int32)).toNatClampNeg)]) (st := []) (stk := [vI (xs (x5 + (1 : Int32)).toNatClampNeg), vR 5 0 0]) ckX8 (Or.inl rfl) C (fun l hl => ctX8_listLength l hl (xs (x5 + (1 : Int32)).toNatClampNeg) _ _ H) ⟨⟨kw_1793, kw_69, kw_1796⟩, rfl, ⟨by decide, by decide, by decide +kernel⟩, by decide, by decide⟩ kw_1794 (g_selW kw_1795) rfl (Nat.le_of_ble_eq_true rfl) ⟨rm_le hk.1 (by decide), rm_le hk.2 (by decide)⟩ rfl dL_law_1797 (g_Kq_I (fun u4 h3 H => ?_) (fun E h3 H => H.elim))
  refine s_at (k' := k + 1) (n' := n + 6) (Nat.add_assoc k 1 0) (Nat.add_assoc n 6 0) ?_
  refine s_istore (pc := 1800) (ls' := [(7, vI u4), (6, vI u2), (0, vV (.ref a0)), (1, vR 0 0 0), (2, vR 5 0 0), (3, vR 15 0 0), (4, vR 16 0 0), (5, vI x5)]) C dL_law_1800 (by decide) rfl ?_
  refine s_aload_n (pc := 1802) C dL_law_1802 rfl 4 rfl ?_
  refine s_callv (pc := 1803) (nA := 0) (as := []) (st := []) (stk := [vR 5 0 0]) ckX8 (Or.inl rfl) C (fun l hl => ctX8_thrown l hl _ _ H) ⟨⟨kw_1567, kw_69, kw_1570⟩, rfl, ⟨by decide, by decide, by decide +kernel⟩, by decide, by decide⟩ kw_1568 (g_selW kw_1569) rfl (Nat.le_of_ble_eq_true rfl) ⟨rm_le hk.1 (by decide), rm_le hk.2 (by decide)⟩ rfl dL_law_1803 (g_Kq_I (fun u6 h5 H => ?_) (fun E h5 H => H.elim))
  refine s_at (k' := k + 1) (n' := n + 6) (Nat.add_assoc k 1 0) (Nat.add_assoc n 6 0) ?_
  refine s_iload (pc := 1806) C dL_law_1806 1 rfl ?_
  refine s_icmp_eq (pc := 1808) (tgt := 1813) C dL_law_1808 (by decide) (fun c => ?_) (fun c => ?_)
  · have H := H.1 c
    refine s_iload (pc := 1813) C dL_law_1813 1 rfl ?_
    refine s_if_ne (pc := 1815) (tgt := 1830) C dL_law_1815 (by decide) (fun c => ?_) (fun c => ?_)
    · have H := H.1 c
      exact s_sub (ls' := [(0, vV (.ref a0)), (1, vR 0 0 0), (2, vR 5 0 0), (3, vR 15 0 0), (4, vR 16 0 0), (5, vI x5)]) [2, 3, 4, 5, 6, 7] rfl (vL_law_b1830 C hs hk R28 hR28 x5 h5 H)
    · have H := H.2 c
      refine s_aload_n (pc := 1818) C dL_law_1818 rfl 5 rfl ?_
      refine s_iconst (pc := 1819) C dL_law_1819 (x := (0 : Int32)) (by decide) ?_
      refine s_lald0 (pc := 1820) C dL_law_1820 ?_
      refine s_iload (pc := 1821) C dL_law_1821 0 rfl ?_
      refine s_i2l (pc := 1823) C dL_law_1823 ?_
      refine s_lcmp (pc := 1824) C dL_law_1824 ?_
      refine s_if_eq (pc := 1825) (tgt := 1830) C dL_law_1825 (by decide) (fun c => ?_) (fun c => ?_)
      · have H := H.1 c
        exact s_sub (ls' := [(0, vV (.ref a0)), (1, vR 0 0 0), (2, vR 5 0 0), (3, vR 15 0 0), (4, vR 16 0 0), (5, vI x5)]) [2, 3, 4, 5, 6, 7] rfl (vL_law_b1830 C hs hk R28 hR28 x5 h5 H)
      · have H := H.2 c
        refine s_iconst (pc := 1828) C dL_law_1828 (x := (0 : Int32)) (by decide) ?_
        exact s_iret (pc := 1829) rfl (by decide) ⟨rm_l1 hk.1 (by decide), rm_l1 hk.2 (by decide)⟩ H C dL_law_1829
  · have H := H.2 c
    refine s_iconst (pc := 1811) C dL_law_1811 (x := (0 : Int32)) (by decide) ?_
    exact s_iret (pc := 1812) rfl (by decide) ⟨rm_l1 hk.1 (by decide), rm_l1 hk.2 (by decide)⟩ H C dL_law_1812
set_option maxRecDepth 100000 in
set_option maxHeartbeats 4000000 in
theorem vL_law_b1833 {G : g_G} {X : g_X} {Q : g_R → g_Hp → Prop} {a0 L : Nat} {xs : Nat → Int32} (C : g_Cx y_ G X iL_law) (hs : g_Scr G X a0 L xs) {k n : Nat} (hk : k + 26 ≤ 603072 ∧ n + 1956 ≤ 7202922) (R28 : Int32 → g_Hp → Prop) (hR28 : ∀ (x5 : Int32) (h : g_Hp), R28 x5 h → g_V G X iL_law 603072 7202922 Q 28 (k + 26) (n + 1956) [(0, vV (.ref a0)), (1, vR 0 0 0), (2, vR 5 0 0), (3, vR 15 0 0), (4, vR 16 0 0), (5, vI x5)] [] h) (x5 : Int32) (h : g_Hp) (H : wL_law_b1833 a0 L xs Q R28 x5 h) : g_V G X iL_law 603072 7202922 Q 1833 (k + 0) (n + 0) [(0, vV (.ref a0)), (1, vR 0 0 0), (2, vR 5 0 0), (3, vR 15 0 0), (4, vR 16 0 0), (5, vI x5)] [] h := by
  refine s_aload_n (pc := 1833) C dL_law_1833 rfl 1 rfl ?_
  refine s_aload_nQ (pc := 1834) C dL_law_1834 rfl 0 rfl ?_
  refine s_iload (pc := 1835) C dL_law_1835 5 rfl ?_
  refine s_iconst (pc := 1837) C dL_law_1837 (x := (1 : Int32)) (by decide) ?_
  refine s_iadd (pc := 1838) C dL_law_1838 ?_
  refine s_sld (pc := 1839) hs H.1 C dL_law_1839 ?_
  have H := H.2
  refine s_aload_nQ (pc := 1840) C dL_law_1840 rfl 0 rfl ?_
  refine s_iload (pc := 1841) C dL_law_1841 5 rfl ?_
  refine s_iconst (pc := 1843) C dL_law_1843 (x := (2 : Int32)) (by decide) ?_
  refine s_iadd (pc := 1844) C dL_law_1844 ?_
  refine s_sld (pc := 1845) hs H.1 C dL_law_1845 ?_
  have H := H.2
  refine s_aload_n (pc := 1846) C dL_law_1846 rfl 3 rfl ?_
  refine s_callsH (pc := 1847) (nA := 4) (as := [vR 0 0 0, vI (xs (x5 + (1 : Int32)).toNatClampNeg), vI (xs (x5 + (2 : Int32)).toNatClampNeg), vR 15 0 0]) (st := []) (stk := [vR 15 0 0, vI (xs (x5 + (2 : Int32)).toNatClampNeg), vI (xs (x5 + (1 : Int32)).toNatClampNeg), vR 0 0 0]) C (fun l hl => ctL_listedAt l hl (xs (x5 + (1 : Int32)).toNatClampNeg) (xs (x5 + (2 : Int32)).toNatClampNeg) _ _ H) (fun _ _ z => z) rfl ⟨⟨kw_951, kw_57, kw_953⟩, ⟨by decide, by decide, by decide +kernel⟩, by decide, by decide⟩ kw_952 rfl (Nat.le_of_ble_eq_true rfl) ⟨rm_le hk.1 (by decide), rm_le hk.2 (by decide)⟩ rfl dL_law_1847 (g_Kq_I (fun u2 h1 H => ?_) (fun E h1 H => H.elim))
  refine s_at (k' := k + 2) (n' := n + 12) (Nat.add_assoc k 0 2) (Nat.add_assoc n 0 12) ?_
  refine s_istore (pc := 1850) (ls' := [(6, vI u2), (0, vV (.ref a0)), (1, vR 0 0 0), (2, vR 5 0 0), (3, vR 15 0 0), (4, vR 16 0 0), (5, vI x5)]) C dL_law_1850 (by decide) rfl ?_
  refine s_aload_n (pc := 1852) C dL_law_1852 rfl 3 rfl ?_
  refine s_aload_nQ (pc := 1853) C dL_law_1853 rfl 1 rfl ?_
  refine s_iload (pc := 1854) C dL_law_1854 6 rfl ?_
  refine s_iconst (pc := 1856) C dL_law_1856 (x := (1 : Int32)) (by decide) ?_
  refine s_iadd (pc := 1857) C dL_law_1857 ?_
  refine s_sld (pc := 1858) hs H.1 C dL_law_1858 ?_
  have H := H.2
  refine s_aload_nQ (pc := 1859) C dL_law_1859 rfl 1 rfl ?_
  refine s_iload (pc := 1860) C dL_law_1860 6 rfl ?_
  refine s_iconst (pc := 1862) C dL_law_1862 (x := (2 : Int32)) (by decide) ?_
  refine s_iadd (pc := 1863) C dL_law_1863 ?_
  refine s_sld (pc := 1864) hs H.1 C dL_law_1864 ?_
  have H := H.2
  refine s_callv (pc := 1865) (nA := 2) (as := [vI (xs (x5 + (1 : Int32)).toNatClampNeg), vI (xs (x5 + (2 : Int32)).toNatClampNeg)]) (st := []) (stk := [vI (xs (x5 + (2 : Int32)).toNatClampNeg), vI (xs (x5 + (1 : Int32)).toNatClampNeg), vR 5 0 0]) ckX8 (Or.inl rfl) C (fun l hl => ctX8_listedAt l hl (xs (x5 + (1 : Int32)).toNatClampNeg) (xs (x5 + (2 : Int32)).toNatClampNeg) _ _ H) ⟨⟨kw_1797, kw_69, kw_1800⟩, rfl, ⟨by decide, by decide, by decide +kernel⟩, by decide, by decide⟩ kw_1798 (g_selW kw_1799) rfl (Nat.le_of_ble_eq_true rfl) ⟨rm_le hk.1 (by decide), rm_le hk.2 (by decide)⟩ rfl dL_law_1865 (g_Kq_I (fun u4 h3 H => ?_) (fun E h3 H => H.elim))
  refine s_at (k' := k + 2) (n' := n + 12) (Nat.add_assoc k 2 0) (Nat.add_assoc n 12 0) ?_
  refine s_istore (pc := 1868) (ls' := [(7, vI u4), (6, vI u2), (0, vV (.ref a0)), (1, vR 0 0 0), (2, vR 5 0 0), (3, vR 15 0 0), (4, vR 16 0 0), (5, vI x5)]) C dL_law_1868 (by decide) rfl ?_
  refine s_aload_n (pc := 1870) C dL_law_1870 rfl 4 rfl ?_
  refine s_callv (pc := 1871) (nA := 0) (as := []) (st := []) (stk := [vR 5 0 0]) ckX8 (Or.inl rfl) C (fun l hl => ctX8_thrown l hl _ _ H) ⟨⟨kw_1567, kw_69, kw_1570⟩, rfl, ⟨by decide, by decide, by decide +kernel⟩, by decide, by decide⟩ kw_1568 (g_selW kw_1569) rfl (Nat.le_of_ble_eq_true rfl) ⟨rm_le hk.1 (by decide), rm_le hk.2 (by decide)⟩ rfl dL_law_1871 (g_Kq_I (fun u6 h5 H => ?_) (fun E h5 H => H.elim))
  refine s_at (k' := k + 2) (n' := n + 12) (Nat.add_assoc k 2 0) (Nat.add_assoc n 12 0) ?_
  refine s_iload (pc := 1874) C dL_law_1874 1 rfl ?_
  refine s_icmp_eq (pc := 1876) (tgt := 1881) C dL_law_1876 (by decide) (fun c => ?_) (fun c => ?_)
  · have H := H.1 c
    refine s_iload (pc := 1881) C dL_law_1881 1 rfl ?_
    refine s_if_ne (pc := 1883) (tgt := 1898) C dL_law_1883 (by decide) (fun c => ?_) (fun c => ?_)
    · have H := H.1 c
      exact s_sub (ls' := [(0, vV (.ref a0)), (1, vR 0 0 0), (2, vR 5 0 0), (3, vR 15 0 0), (4, vR 16 0 0), (5, vI x5)]) [2, 3, 4, 5, 6, 7] rfl (vL_law_b1898 C hs hk R28 hR28 x5 h5 H)
    · have H := H.2 c
      refine s_aload_n (pc := 1886) C dL_law_1886 rfl 5 rfl ?_
      refine s_iconst (pc := 1887) C dL_law_1887 (x := (0 : Int32)) (by decide) ?_
      refine s_lald0 (pc := 1888) C dL_law_1888 ?_
      refine s_iload (pc := 1889) C dL_law_1889 0 rfl ?_
      refine s_i2l (pc := 1891) C dL_law_1891 ?_
      refine s_lcmp (pc := 1892) C dL_law_1892 ?_
      refine s_if_eq (pc := 1893) (tgt := 1898) C dL_law_1893 (by decide) (fun c => ?_) (fun c => ?_)
      · have H := H.1 c
        exact s_sub (ls' := [(0, vV (.ref a0)), (1, vR 0 0 0), (2, vR 5 0 0), (3, vR 15 0 0), (4, vR 16 0 0), (5, vI x5)]) [2, 3, 4, 5, 6, 7] rfl (vL_law_b1898 C hs hk R28 hR28 x5 h5 H)
      · have H := H.2 c
        refine s_iconst (pc := 1896) C dL_law_1896 (x := (0 : Int32)) (by decide) ?_
        exact s_iret (pc := 1897) rfl (by decide) ⟨rm_l1 hk.1 (by decide), rm_l1 hk.2 (by decide)⟩ H C dL_law_1897
  · have H := H.2 c
    refine s_iconst (pc := 1879) C dL_law_1879 (x := (0 : Int32)) (by decide) ?_
    exact s_iret (pc := 1880) rfl (by decide) ⟨rm_l1 hk.1 (by decide), rm_l1 hk.2 (by decide)⟩ H C dL_law_1880
set_option maxRecDepth 100000 in
set_option maxHeartbeats 4000000 in
theorem vL_law_b1901 {G : g_G} {X : g_X} {Q : g_R → g_Hp → Prop} {a0 L : Nat} {xs : Nat → Int32} (C : g_Cx y_ G X iL_law) (hs : g_Scr G X a0 L xs) {k n : Nat} (hk : k + 26 ≤ 603072 ∧ n + 1956 ≤ 7202922) (R28 : Int32 → g_Hp → Prop) (hR28 : ∀ (x5 : Int32) (h : g_Hp), R28 x5 h → g_V G X iL_law 603072 7202922 Q 28 (k + 26) (n + 1956) [(0, vV (.ref a0)), (1, vR 0 0 0), (2, vR 5 0 0), (3, vR 15 0 0), (4, vR 16 0 0), (5, vI x5)] [] h) (x5 : Int32) (h : g_Hp) (H : wL_law_b1901 a0 L xs Q R28 x5 h) : g_V G X iL_law 603072 7202922 Q 1901 (k + 0) (n + 0) [(0, vV (.ref a0)), (1, vR 0 0 0), (2, vR 5 0 0), (3, vR 15 0 0), (4, vR 16 0 0), (5, vI x5)] [] h := by
  refine s_aload_n (pc := 1901) C dL_law_1901 rfl 1 rfl ?_
  refine s_aload_nQ (pc := 1902) C dL_law_1902 rfl 0 rfl ?_
  refine s_iload (pc := 1903) C dL_law_1903 5 rfl ?_
  refine s_iconst (pc := 1905) C dL_law_1905 (x := (1 : Int32)) (by decide) ?_
  refine s_iadd (pc := 1906) C dL_law_1906 ?_
  refine s_sld (pc := 1907) hs H.1 C dL_law_1907 ?_
  have H := H.2
  refine s_aload_n (pc := 1908) C dL_law_1908 rfl 3 rfl ?_
  refine s_callsH (pc := 1909) (nA := 3) (as := [vR 0 0 0, vI (xs (x5 + (1 : Int32)).toNatClampNeg), vR 15 0 0]) (st := []) (stk := [vR 15 0 0, vI (xs (x5 + (1 : Int32)).toNatClampNeg), vR 0 0 0]) C (fun l hl => ctL_listOf l hl (xs (x5 + (1 : Int32)).toNatClampNeg) _ _ H) (fun _ _ z => z) rfl ⟨⟨kw_963, kw_57, kw_965⟩, ⟨by decide, by decide, by decide +kernel⟩, by decide, by decide⟩ kw_964 rfl (Nat.le_of_ble_eq_true rfl) ⟨rm_le hk.1 (by decide), rm_le hk.2 (by decide)⟩ rfl dL_law_1909 (g_Kq_I (fun u2 h1 H => ?_) (fun E h1 H => H.elim))
  refine s_at (k' := k + 2) (n' := n + 12) (Nat.add_assoc k 0 2) (Nat.add_assoc n 0 12) ?_
  refine s_istore (pc := 1912) (ls' := [(6, vI u2), (0, vV (.ref a0)), (1, vR 0 0 0), (2, vR 5 0 0), (3, vR 15 0 0), (4, vR 16 0 0), (5, vI x5)]) C dL_law_1912 (by decide) rfl ?_
  refine s_aload_n (pc := 1914) C dL_law_1914 rfl 3 rfl ?_
  refine s_aload_nQ (pc := 1915) C dL_law_1915 rfl 1 rfl ?_
  refine s_iload (pc := 1916) C dL_law_1916 6 rfl ?_
  refine s_iconst (pc := 1918) C dL_law_1918 (x := (1 : Int32)) (by decide) ?_
  refine s_iadd (pc := 1919) C dL_law_1919 ?_
  refine s_sld (pc := 1920) hs H.1 C dL_law_1920 ?_
  have H := H.2
  refine s_callv (pc := 1921) (nA := 1) (as := [vI (xs (x5 + (1 : Int32)).toNatClampNeg)]) (st := []) (stk := [vI (xs (x5 + (1 : Int32)).toNatClampNeg), vR 5 0 0]) ckX8 (Or.inl rfl) C (fun l hl => ctX8_listOf l hl (xs (x5 + (1 : Int32)).toNatClampNeg) _ _ H) ⟨⟨kw_1801, kw_69, kw_1804⟩, rfl, ⟨by decide, by decide, by decide +kernel⟩, by decide, by decide⟩ kw_1802 (g_selW kw_1803) rfl (Nat.le_of_ble_eq_true rfl) ⟨rm_le hk.1 (by decide), rm_le hk.2 (by decide)⟩ rfl dL_law_1921 (g_Kq_I (fun u4 h3 H => ?_) (fun E h3 H => H.elim))
  refine s_at (k' := k + 2) (n' := n + 12) (Nat.add_assoc k 2 0) (Nat.add_assoc n 12 0) ?_
  refine s_istore (pc := 1924) (ls' := [(7, vI u4), (6, vI u2), (0, vV (.ref a0)), (1, vR 0 0 0), (2, vR 5 0 0), (3, vR 15 0 0), (4, vR 16 0 0), (5, vI x5)]) C dL_law_1924 (by decide) rfl ?_
  refine s_aload_n (pc := 1926) C dL_law_1926 rfl 4 rfl ?_
  refine s_callv (pc := 1927) (nA := 0) (as := []) (st := []) (stk := [vR 5 0 0]) ckX8 (Or.inl rfl) C (fun l hl => ctX8_thrown l hl _ _ H) ⟨⟨kw_1567, kw_69, kw_1570⟩, rfl, ⟨by decide, by decide, by decide +kernel⟩, by decide, by decide⟩ kw_1568 (g_selW kw_1569) rfl (Nat.le_of_ble_eq_true rfl) ⟨rm_le hk.1 (by decide), rm_le hk.2 (by decide)⟩ rfl dL_law_1927 (g_Kq_I (fun u6 h5 H => ?_) (fun E h5 H => H.elim))
  refine s_at (k' := k + 2) (n' := n + 12) (Nat.add_assoc k 2 0) (Nat.add_assoc n 12 0) ?_
  refine s_iload (pc := 1930) C dL_law_1930 1 rfl ?_
  refine s_icmp_eq (pc := 1932) (tgt := 1937) C dL_law_1932 (by decide) (fun c => ?_) (fun c => ?_)
  · have H := H.1 c
    refine s_iload (pc := 1937) C dL_law_1937 1 rfl ?_
    refine s_if_ne (pc := 1939) (tgt := 1954) C dL_law_1939 (by decide) (fun c => ?_) (fun c => ?_)
    · have H := H.1 c
      exact s_sub (ls' := [(0, vV (.ref a0)), (1, vR 0 0 0), (2, vR 5 0 0), (3, vR 15 0 0), (4, vR 16 0 0), (5, vI x5)]) [2, 3, 4, 5, 6, 7] rfl (vL_law_b1954 C hs hk R28 hR28 x5 h5 H)
    · have H := H.2 c
      refine s_aload_n (pc := 1942) C dL_law_1942 rfl 5 rfl ?_
      refine s_iconst (pc := 1943) C dL_law_1943 (x := (0 : Int32)) (by decide) ?_
      refine s_lald0 (pc := 1944) C dL_law_1944 ?_
      refine s_iload (pc := 1945) C dL_law_1945 0 rfl ?_
      refine s_i2l (pc := 1947) C dL_law_1947 ?_
      refine s_lcmp (pc := 1948) C dL_law_1948 ?_
      refine s_if_eq (pc := 1949) (tgt := 1954) C dL_law_1949 (by decide) (fun c => ?_) (fun c => ?_)
      · have H := H.1 c
        exact s_sub (ls' := [(0, vV (.ref a0)), (1, vR 0 0 0), (2, vR 5 0 0), (3, vR 15 0 0), (4, vR 16 0 0), (5, vI x5)]) [2, 3, 4, 5, 6, 7] rfl (vL_law_b1954 C hs hk R28 hR28 x5 h5 H)
      · have H := H.2 c
        refine s_iconst (pc := 1952) C dL_law_1952 (x := (0 : Int32)) (by decide) ?_
        exact s_iret (pc := 1953) rfl (by decide) ⟨rm_l1 hk.1 (by decide), rm_l1 hk.2 (by decide)⟩ H C dL_law_1953
  · have H := H.2 c
    refine s_iconst (pc := 1935) C dL_law_1935 (x := (0 : Int32)) (by decide) ?_
    exact s_iret (pc := 1936) rfl (by decide) ⟨rm_l1 hk.1 (by decide), rm_l1 hk.2 (by decide)⟩ H C dL_law_1936
set_option maxRecDepth 100000 in
set_option maxHeartbeats 4000000 in
theorem vL_law_b1957 {G : g_G} {X : g_X} {Q : g_R → g_Hp → Prop} {a0 L : Nat} {xs : Nat → Int32} (C : g_Cx y_ G X iL_law) (hs : g_Scr G X a0 L xs) {k n : Nat} (hk : k + 26 ≤ 603072 ∧ n + 1956 ≤ 7202922) (R28 : Int32 → g_Hp → Prop) (hR28 : ∀ (x5 : Int32) (h : g_Hp), R28 x5 h → g_V G X iL_law 603072 7202922 Q 28 (k + 26) (n + 1956) [(0, vV (.ref a0)), (1, vR 0 0 0), (2, vR 5 0 0), (3, vR 15 0 0), (4, vR 16 0 0), (5, vI x5)] [] h) (x5 : Int32) (h : g_Hp) (H : wL_law_b1957 a0 L xs Q R28 x5 h) : g_V G X iL_law 603072 7202922 Q 1957 (k + 0) (n + 0) [(0, vV (.ref a0)), (1, vR 0 0 0), (2, vR 5 0 0), (3, vR 15 0 0), (4, vR 16 0 0), (5, vI x5)] [] h := by
  refine s_aload_n (pc := 1957) C dL_law_1957 rfl 1 rfl ?_
  refine s_aload_nQ (pc := 1958) C dL_law_1958 rfl 0 rfl ?_
  refine s_iload (pc := 1959) C dL_law_1959 5 rfl ?_
  refine s_iconst (pc := 1961) C dL_law_1961 (x := (1 : Int32)) (by decide) ?_
  refine s_iadd (pc := 1962) C dL_law_1962 ?_
  refine s_sld (pc := 1963) hs H.1 C dL_law_1963 ?_
  have H := H.2
  refine s_aload_n (pc := 1964) C dL_law_1964 rfl 3 rfl ?_
  refine s_callsH (pc := 1965) (nA := 3) (as := [vR 0 0 0, vI (xs (x5 + (1 : Int32)).toNatClampNeg), vR 15 0 0]) (st := []) (stk := [vR 15 0 0, vI (xs (x5 + (1 : Int32)).toNatClampNeg), vR 0 0 0]) C (fun l hl => ctL_makeOffer l hl (xs (x5 + (1 : Int32)).toNatClampNeg) _ _ H) (fun _ _ z => z) rfl ⟨⟨kw_971, kw_57, kw_973⟩, ⟨by decide, by decide, by decide +kernel⟩, by decide, by decide⟩ kw_972 rfl (Nat.le_of_ble_eq_true rfl) ⟨rm_le hk.1 (by decide), rm_le hk.2 (by decide)⟩ rfl dL_law_1965 (g_Kq_I (fun u2 h1 H => ?_) (fun E h1 H => H.elim))
  refine s_at (k' := k + 1) (n' := n + 6) (Nat.add_assoc k 0 1) (Nat.add_assoc n 0 6) ?_
  refine s_istore (pc := 1968) (ls' := [(6, vI u2), (0, vV (.ref a0)), (1, vR 0 0 0), (2, vR 5 0 0), (3, vR 15 0 0), (4, vR 16 0 0), (5, vI x5)]) C dL_law_1968 (by decide) rfl ?_
  refine s_aload_n (pc := 1970) C dL_law_1970 rfl 3 rfl ?_
  refine s_aload_nQ (pc := 1971) C dL_law_1971 rfl 1 rfl ?_
  refine s_iload (pc := 1972) C dL_law_1972 6 rfl ?_
  refine s_iconst (pc := 1974) C dL_law_1974 (x := (1 : Int32)) (by decide) ?_
  refine s_iadd (pc := 1975) C dL_law_1975 ?_
  refine s_sld (pc := 1976) hs H.1 C dL_law_1976 ?_
  have H := H.2
  refine s_callv (pc := 1977) (nA := 1) (as := [vI (xs (x5 + (1 : Int32)).toNatClampNeg)]) (st := []) (stk := [vI (xs (x5 + (1 : Int32)).toNatClampNeg), vR 5 0 0]) ckX8 (Or.inl rfl) C (fun l hl => ctX8_makeOffer l hl (xs (x5 + (1 : Int32)).toNatClampNeg) _ _ H) ⟨⟨kw_1805, kw_69, kw_1808⟩, rfl, ⟨by decide, by decide, by decide +kernel⟩, by decide, by decide⟩ kw_1806 (g_selW kw_1807) rfl (Nat.le_of_ble_eq_true rfl) ⟨rm_le hk.1 (by decide), rm_le hk.2 (by decide)⟩ rfl dL_law_1977 (g_Kq_I (fun u4 h3 H => ?_) (fun E h3 H => H.elim))
  refine s_at (k' := k + 1) (n' := n + 6) (Nat.add_assoc k 1 0) (Nat.add_assoc n 6 0) ?_
  refine s_istore (pc := 1980) (ls' := [(7, vI u4), (6, vI u2), (0, vV (.ref a0)), (1, vR 0 0 0), (2, vR 5 0 0), (3, vR 15 0 0), (4, vR 16 0 0), (5, vI x5)]) C dL_law_1980 (by decide) rfl ?_
  refine s_aload_n (pc := 1982) C dL_law_1982 rfl 4 rfl ?_
  refine s_callv (pc := 1983) (nA := 0) (as := []) (st := []) (stk := [vR 5 0 0]) ckX8 (Or.inl rfl) C (fun l hl => ctX8_thrown l hl _ _ H) ⟨⟨kw_1567, kw_69, kw_1570⟩, rfl, ⟨by decide, by decide, by decide +kernel⟩, by decide, by decide⟩ kw_1568 (g_selW kw_1569) rfl (Nat.le_of_ble_eq_true rfl) ⟨rm_le hk.1 (by decide), rm_le hk.2 (by decide)⟩ rfl dL_law_1983 (g_Kq_I (fun u6 h5 H => ?_) (fun E h5 H => H.elim))
  refine s_at (k' := k + 1) (n' := n + 6) (Nat.add_assoc k 1 0) (Nat.add_assoc n 6 0) ?_
  refine s_iload (pc := 1986) C dL_law_1986 1 rfl ?_
  refine s_icmp_eq (pc := 1988) (tgt := 1993) C dL_law_1988 (by decide) (fun c => ?_) (fun c => ?_)
  · have H := H.1 c
    refine s_iload (pc := 1993) C dL_law_1993 1 rfl ?_
    refine s_if_ne (pc := 1995) (tgt := 2010) C dL_law_1995 (by decide) (fun c => ?_) (fun c => ?_)
    · have H := H.1 c
      exact s_sub (ls' := [(0, vV (.ref a0)), (1, vR 0 0 0), (2, vR 5 0 0), (3, vR 15 0 0), (4, vR 16 0 0), (5, vI x5)]) [2, 3, 4, 5, 6, 7] rfl (vL_law_b2010 C hs hk R28 hR28 x5 h5 H)
    · have H := H.2 c
      refine s_aload_n (pc := 1998) C dL_law_1998 rfl 5 rfl ?_
      refine s_iconst (pc := 1999) C dL_law_1999 (x := (0 : Int32)) (by decide) ?_
      refine s_lald0 (pc := 2000) C dL_law_2000 ?_
      refine s_iload (pc := 2001) C dL_law_2001 0 rfl ?_
      refine s_i2l (pc := 2003) C dL_law_2003 ?_
      refine s_lcmp (pc := 2004) C dL_law_2004 ?_
      refine s_if_eq (pc := 2005) (tgt := 2010) C dL_law_2005 (by decide) (fun c => ?_) (fun c => ?_)
      · have H := H.1 c
        exact s_sub (ls' := [(0, vV (.ref a0)), (1, vR 0 0 0), (2, vR 5 0 0), (3, vR 15 0 0), (4, vR 16 0 0), (5, vI x5)]) [2, 3, 4, 5, 6, 7] rfl (vL_law_b2010 C hs hk R28 hR28 x5 h5 H)
      · have H := H.2 c
        refine s_iconst (pc := 2008) C dL_law_2008 (x := (0 : Int32)) (by decide) ?_
        exact s_iret (pc := 2009) rfl (by decide) ⟨rm_l1 hk.1 (by decide), rm_l1 hk.2 (by decide)⟩ H C dL_law_2009
  · have H := H.2 c
    refine s_iconst (pc := 1991) C dL_law_1991 (x := (0 : Int32)) (by decide) ?_
    exact s_iret (pc := 1992) rfl (by decide) ⟨rm_l1 hk.1 (by decide), rm_l1 hk.2 (by decide)⟩ H C dL_law_1992
