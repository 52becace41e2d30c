/-! the law: cases -/
set_option maxRecDepth 100000 in
set_option maxHeartbeats 4000000 in
theorem vL_law_b2710 {G : g_G} {X : g_X} {Q : g_R → g_Hp → Prop} {a0 L : Nat} {xs : Nat → Int32} (C : g_Cx y_ G X iL_law) (hs : g_Scr G X a0 L xs) {k n : Nat} (hk : k + 26 ≤ 603072 ∧ n + 1956 ≤ 7202922) (R28 : Int32 → g_Hp → Prop) (hR28 : ∀ (x5 : Int32) (h : g_Hp), R28 x5 h → g_V G X iL_law 603072 7202922 Q 28 (k + 26) (n + 1956) [(0, vV (.ref a0)), (1, vR 0 0 0), (2, vR 5 0 0), (3, vR 15 0 0), (4, vR 16 0 0), (5, vI x5)] [] h) (x5 : Int32) (h : g_Hp) (H : wL_law_b2710 a0 L xs Q R28 x5 h) : g_V G X iL_law 603072 7202922 Q 2710 (k + 0) (n + 0) [(0, vV (.ref a0)), (1, vR 0 0 0), (2, vR 5 0 0), (3, vR 15 0 0), (4, vR 16 0 0), (5, vI x5)] [] h := by
  refine s_aload_n (pc := 2710) C dL_law_2710 rfl 1 rfl ?_
  refine s_callv (pc := 2711) (nA := 0) (as := []) (st := []) (stk := [vR 0 0 0]) ckX7 (Or.inl rfl) C (fun l hl => ctX7_save l hl _ _ H) ⟨⟨kw_538, kw_58, kw_541⟩, rfl, ⟨by decide, by decide, by decide +kernel⟩, by decide, by decide⟩ kw_539 (g_selW kw_540) rfl (Nat.le_of_ble_eq_true rfl) ⟨rm_le hk.1 (by decide), rm_le hk.2 (by decide)⟩ rfl dL_law_2711 (g_Kq_I (fun u2 h1 H => ?_) (fun E h1 H => H.elim))
  refine s_at (k' := k + 0) (n' := n + 0) (Nat.add_assoc k 0 0) (Nat.add_assoc n 0 0) ?_
  refine s_aload_n (pc := 2714) C dL_law_2714 rfl 2 rfl ?_
  refine s_callv (pc := 2715) (nA := 0) (as := []) (st := [vI u2]) (stk := [vR 5 0 0, vI u2]) ckX8 (Or.inl rfl) C (fun l hl => ctX8_save l hl _ _ H) ⟨⟨kw_1949, kw_69, kw_1952⟩, rfl, ⟨by decide, by decide, by decide +kernel⟩, by decide, by decide⟩ kw_1950 (g_selW kw_1951) rfl (Nat.le_of_ble_eq_true rfl) ⟨rm_le hk.1 (by decide), rm_le hk.2 (by decide)⟩ rfl dL_law_2715 (g_Kq_I (fun u4 h3 H => ?_) (fun E h3 H => H.elim))
  refine s_at (k' := k + 0) (n' := n + 0) (Nat.add_assoc k 0 0) (Nat.add_assoc n 0 0) ?_
  refine s_icmp_eq (pc := 2718) (tgt := 2767) C dL_law_2718 (by decide) (fun c => ?_) (fun c => ?_)
  · have H := H.1 c
    exact s_wide (k' := k + 26) (n' := n + 1956) (Nat.add_le_add_left (by decide) k) (Nat.add_le_add_left (by decide) n) <| s_sub (ls' := [(0, vV (.ref a0)), (1, vR 0 0 0), (2, vR 5 0 0), (3, vR 15 0 0), (4, vR 16 0 0), (5, vI x5)]) [0, 1, 2, 3, 4, 5] rfl (vL_law_b2767 C hs hk R28 hR28 x5 h3 H)
  · have H := H.2 c
    refine s_iconst (pc := 2721) C dL_law_2721 (x := (0 : Int32)) (by decide) ?_
    exact s_iret (pc := 2722) rfl (by decide) ⟨rm_l1 hk.1 (by decide), rm_l1 hk.2 (by decide)⟩ H C dL_law_2722
set_option maxRecDepth 100000 in
set_option maxHeartbeats 4000000 in
theorem vL_law_b2723 {G : g_G} {X : g_X} {Q : g_R → g_Hp → Prop} {a0 L : Nat} {xs : Nat → Int32} (C : g_Cx y_ G X iL_law) (hs : g_Scr G X a0 L xs) {k n : Nat} (hk : k + 26 ≤ 603072 ∧ n + 1956 ≤ 7202922) (R28 : Int32 → g_Hp → Prop) (hR28 : ∀ (x5 : Int32) (h : g_Hp), R28 x5 h → g_V G X iL_law 603072 7202922 Q 28 (k + 26) (n + 1956) [(0, vV (.ref a0)), (1, vR 0 0 0), (2, vR 5 0 0), (3, vR 15 0 0), (4, vR 16 0 0), (5, vI x5)] [] h) (x5 : Int32) (h : g_Hp) (H : wL_law_b2723 a0 L xs Q R28 x5 h) : g_V G X iL_law 603072 7202922 Q 2723 (k + 0) (n + 0) [(0, vV (.ref a0)), (1, vR 0 0 0), (2, vR 5 0 0), (3, vR 15 0 0), (4, vR 16 0 0), (5, vI x5)] [] h := by
  refine s_aload_n (pc := 2723) C dL_law_2723 rfl 1 rfl ?_
  refine s_aload_n (pc := 2724) C dL_law_2724 rfl 3 rfl ?_
  refine s_callsH (pc := 2725) (nA := 2) (as := [vR 0 0 0, vR 15 0 0]) (st := []) (stk := [vR 15 0 0, vR 0 0 0]) C (fun l hl => ctL_restore l hl _ _ H) (fun _ _ z => z) rfl ⟨⟨kw_1491, kw_57, kw_1493⟩, ⟨by decide, by decide, by decide +kernel⟩, by decide, by decide⟩ kw_1492 rfl (Nat.le_of_ble_eq_true rfl) ⟨rm_le hk.1 (by decide), rm_le hk.2 (by decide)⟩ rfl dL_law_2725 (g_Kq_I (fun u2 h1 H => ?_) (fun E h1 H => H.elim))
  refine s_at (k' := k + 1) (n' := n + 6) (Nat.add_assoc k 0 1) (Nat.add_assoc n 0 6) ?_
  refine s_istore (pc := 2728) (ls' := [(6, vI u2), (0, vV (.ref a0)), (1, vR 0 0 0), (2, vR 5 0 0), (3, vR 15 0 0), (4, vR 16 0 0), (5, vI x5)]) C dL_law_2728 (by decide) rfl ?_
  refine s_aload_n (pc := 2730) C dL_law_2730 rfl 3 rfl ?_
  refine s_callv (pc := 2731) (nA := 0) (as := []) (st := []) (stk := [vR 5 0 0]) ckX8 (Or.inl rfl) C (fun l hl => ctX8_restore l hl _ _ H) ⟨⟨kw_1953, kw_69, kw_1956⟩, rfl, ⟨by decide, by decide, by decide +kernel⟩, by decide, by decide⟩ kw_1954 (g_selW kw_1955) rfl (Nat.le_of_ble_eq_true rfl) ⟨rm_le hk.1 (by decide), rm_le hk.2 (by decide)⟩ rfl dL_law_2731 (g_Kq_I (fun u4 h3 H => ?_) (fun E h3 H => H.elim))
  refine s_at (k' := k + 1) (n' := n + 6) (Nat.add_assoc k 1 0) (Nat.add_assoc n 6 0) ?_
  refine s_istore (pc := 2734) (ls' := [(7, vI u4), (6, vI u2), (0, vV (.ref a0)), (1, vR 0 0 0), (2, vR 5 0 0), (3, vR 15 0 0), (4, vR 16 0 0), (5, vI x5)]) C dL_law_2734 (by decide) rfl ?_
  refine s_aload_n (pc := 2736) C dL_law_2736 rfl 4 rfl ?_
  refine s_callv (pc := 2737) (nA := 0) (as := []) (st := []) (stk := [vR 5 0 0]) ckX8 (Or.inl rfl) C (fun l hl => ctX8_thrown l hl _ _ H) ⟨⟨kw_1567, kw_69, kw_1570⟩, rfl, ⟨by decide, by decide, by decide +kernel⟩, by decide, by decide⟩ kw_1568 (g_selW kw_1569) rfl (Nat.le_of_ble_eq_true rfl) ⟨rm_le hk.1 (by decide), rm_le hk.2 (by decide)⟩ rfl dL_law_2737 (g_Kq_I (fun u6 h5 H => ?_) (fun E h5 H => H.elim))
  refine s_at (k' := k + 1) (n' := n + 6) (Nat.add_assoc k 1 0) (Nat.add_assoc n 6 0) ?_
  refine s_iload (pc := 2740) C dL_law_2740 1 rfl ?_
  refine s_icmp_eq (pc := 2742) (tgt := 2747) C dL_law_2742 (by decide) (fun c => ?_) (fun c => ?_)
  · have H := H.1 c
    refine s_iload (pc := 2747) C dL_law_2747 1 rfl ?_
    refine s_if_ne (pc := 2749) (tgt := 2764) C dL_law_2749 (by decide) (fun c => ?_) (fun c => ?_)
    · have H := H.1 c
      exact s_sub (ls' := [(0, vV (.ref a0)), (1, vR 0 0 0), (2, vR 5 0 0), (3, vR 15 0 0), (4, vR 16 0 0), (5, vI x5)]) [2, 3, 4, 5, 6, 7] rfl (vL_law_b2764 C hs hk R28 hR28 x5 h5 H)
    · have H := H.2 c
      refine s_aload_n (pc := 2752) C dL_law_2752 rfl 5 rfl ?_
      refine s_iconst (pc := 2753) C dL_law_2753 (x := (0 : Int32)) (by decide) ?_
      refine s_lald0 (pc := 2754) C dL_law_2754 ?_
      refine s_iload (pc := 2755) C dL_law_2755 0 rfl ?_
      refine s_i2l (pc := 2757) C dL_law_2757 ?_
      refine s_lcmp (pc := 2758) C dL_law_2758 ?_
      refine s_if_eq (pc := 2759) (tgt := 2764) C dL_law_2759 (by decide) (fun c => ?_) (fun c => ?_)
      · have H := H.1 c
        exact s_sub (ls' := [(0, vV (.ref a0)), (1, vR 0 0 0), (2, vR 5 0 0), (3, vR 15 0 0), (4, vR 16 0 0), (5, vI x5)]) [2, 3, 4, 5, 6, 7] rfl (vL_law_b2764 C hs hk R28 hR28 x5 h5 H)
      · have H := H.2 c
        refine s_iconst (pc := 2762) C dL_law_2762 (x := (0 : Int32)) (by decide) ?_
        exact s_iret (pc := 2763) rfl (by decide) ⟨rm_l1 hk.1 (by decide), rm_l1 hk.2 (by decide)⟩ H C dL_law_2763
  · have H := H.2 c
    refine s_iconst (pc := 2745) C dL_law_2745 (x := (0 : Int32)) (by decide) ?_
    exact s_iret (pc := 2746) rfl (by decide) ⟨rm_l1 hk.1 (by decide), rm_l1 hk.2 (by decide)⟩ H C dL_law_2746
