/-! the law: cases -/
set_option maxRecDepth 100000 in
set_option maxHeartbeats 4000000 in
theorem vL_law_b947 {G : g_G} {X : g_X} {Q : g_R → g_Hp → Prop} {a0 L : Nat} {xs : Nat → Int32} (C : g_Cx y_ G X iL_law) (hs : g_Scr G X a0 L xs) {k n : Nat} (hk : k + 26 ≤ 603072 ∧ n + 1956 ≤ 7202922) (R28 : Int32 → g_Hp → Prop) (hR28 : ∀ (x5 : Int32) (h : g_Hp), R28 x5 h → g_V G X iL_law 603072 7202922 Q 28 (k + 26) (n + 1956) [(0, vV (.ref a0)), (1, vR 0 0 0), (2, vR 5 0 0), (3, vR 15 0 0), (4, vR 16 0 0), (5, vI x5)] [] h) (x5 : Int32) (h : g_Hp) (H : wL_law_b947 a0 L xs Q R28 x5 h) : g_V G X iL_law 603072 7202922 Q 947 (k + 0) (n + 0) [(0, vV (.ref a0)), (1, vR 0 0 0), (2, vR 5 0 0), (3, vR 15 0 0), (4, vR 16 0 0), (5, vI x5)] [] h := by
  refine s_aload_n (pc := 947) C dL_law_947 rfl 1 rfl ?_
  refine s_aload_nQ (pc := 948) C dL_law_948 rfl 0 rfl ?_
  refine s_iload (pc := 949) C dL_law_949 5 rfl ?_
  refine s_iconst (pc := 951) C dL_law_951 (x := (1 : Int32)) (by decide) ?_
  refine s_iadd (pc := 952) C dL_law_952 ?_
  refine s_sld (pc := 953) hs H.1 C dL_law_953 ?_
  have H := H.2
  refine s_aload_nQ (pc := 954) C dL_law_954 rfl 0 rfl ?_
  refine s_iload (pc := 955) C dL_law_955 5 rfl ?_
  refine s_iconst (pc := 957) C dL_law_957 (x := (2 : Int32)) (by decide) ?_
  refine s_iadd (pc := 958) C dL_law_958 ?_
  refine s_sld (pc := 959) hs H.1 C dL_law_959 ?_
  have H := H.2
  refine s_aload_n (pc := 960) C dL_law_960 rfl 3 rfl ?_
  refine s_callsH (pc := 961) (nA := 4) (as := [vR 0 0 0, vI (xs (x5 + (1 : Int32)).toNatClampNeg), vI (xs (x5 + (2 : Int32)).toNatClampNeg), vR 15 0 0]) (st := []) (stk := [vR 15 0 0, vI (xs (x5 + (2 : Int32)).toNatClampNeg), vI (xs (x5 + (1 : Int32)).toNatClampNeg), vR 0 0 0]) C (fun l hl => ctL_setWind l hl (xs (x5 + (1 : Int32)).toNatClampNeg) (xs (x5 + (2 : Int32)).toNatClampNeg) _ _ H) (fun _ _ z => z) rfl ⟨⟨kw_781, kw_57, kw_783⟩, ⟨by decide, by decide, by decide +kernel⟩, by decide, by decide⟩ kw_782 rfl (Nat.le_of_ble_eq_true rfl) ⟨rm_le hk.1 (by decide), rm_le hk.2 (by decide)⟩ rfl dL_law_961 (g_Kq_I (fun u2 h1 H => ?_) (fun E h1 H => H.elim))
  refine s_at (k' := k + 1) (n' := n + 6) (Nat.add_assoc k 0 1) (Nat.add_assoc n 0 6) ?_
  refine s_istore (pc := 964) (ls' := [(6, vI u2), (0, vV (.ref a0)), (1, vR 0 0 0), (2, vR 5 0 0), (3, vR 15 0 0), (4, vR 16 0 0), (5, vI x5)]) C dL_law_964 (by decide) rfl ?_
  refine s_aload_n (pc := 966) C dL_law_966 rfl 3 rfl ?_
  refine s_aload_nQ (pc := 967) C dL_law_967 rfl 1 rfl ?_
  refine s_iload (pc := 968) C dL_law_968 6 rfl ?_
  refine s_iconst (pc := 970) C dL_law_970 (x := (1 : Int32)) (by decide) ?_
  refine s_iadd (pc := 971) C dL_law_971 ?_
  refine s_sld (pc := 972) hs H.1 C dL_law_972 ?_
  have H := H.2
  refine s_aload_nQ (pc := 973) C dL_law_973 rfl 1 rfl ?_
  refine s_iload (pc := 974) C dL_law_974 6 rfl ?_
  refine s_iconst (pc := 976) C dL_law_976 (x := (2 : Int32)) (by decide) ?_
  refine s_iadd (pc := 977) C dL_law_977 ?_
  refine s_sld (pc := 978) hs H.1 C dL_law_978 ?_
  have H := H.2
  refine s_callv (pc := 979) (nA := 2) (as := [vI (xs (x5 + (1 : Int32)).toNatClampNeg), vI (xs (x5 + (2 : Int32)).toNatClampNeg)]) (st := []) (stk := [vI (xs (x5 + (2 : Int32)).toNatClampNeg), vI (xs (x5 + (1 : Int32)).toNatClampNeg), vR 5 0 0]) ckX8 (Or.inl rfl) C (fun l hl => ctX8_setWind l hl (xs (x5 + (1 : Int32)).toNatClampNeg) (xs (x5 + (2 : Int32)).toNatClampNeg) _ _ H) ⟨⟨kw_1657, kw_69, kw_1660⟩, rfl, ⟨by decide, by decide, by decide +kernel⟩, by decide, by decide⟩ kw_1658 (g_selW kw_1659) rfl (Nat.le_of_ble_eq_true rfl) ⟨rm_le hk.1 (by decide), rm_le hk.2 (by decide)⟩ rfl dL_law_979 (g_Kq_I (fun u4 h3 H => ?_) (fun E h3 H => H.elim))
  refine s_at (k' := k + 1) (n' := n + 6) (Nat.add_assoc k 1 0) (Nat.add_assoc n 6 0) ?_
  refine s_istore (pc := 982) (ls' := [(7, vI u4), (6, vI u2), (0, vV (.ref a0)), (1, vR 0 0 0), (2, vR 5 0 0), (3, vR 15 0 0), (4, vR 16 0 0), (5, vI x5)]) C dL_law_982 (by decide) rfl ?_
  refine s_aload_n (pc := 984) C dL_law_984 rfl 4 rfl ?_
  refine s_callv (pc := 985) (nA := 0) (as := []) (st := []) (stk := [vR 5 0 0]) ckX8 (Or.inl rfl) C (fun l hl => ctX8_thrown l hl _ _ H) ⟨⟨kw_1567, kw_69, kw_1570⟩, rfl, ⟨by decide, by decide, by decide +kernel⟩, by decide, by decide⟩ kw_1568 (g_selW kw_1569) rfl (Nat.le_of_ble_eq_true rfl) ⟨rm_le hk.1 (by decide), rm_le hk.2 (by decide)⟩ rfl dL_law_985 (g_Kq_I (fun u6 h5 H => ?_) (fun E h5 H => H.elim))
  refine s_at (k' := k + 1) (n' := n + 6) (Nat.add_assoc k 1 0) (Nat.add_assoc n 6 0) ?_
  refine s_iload (pc := 988) C dL_law_988 1 rfl ?_
  refine s_icmp_eq (pc := 990) (tgt := 995) C dL_law_990 (by decide) (fun c => ?_) (fun c => ?_)
  · have H := H.1 c
    refine s_iload (pc := 995) C dL_law_995 1 rfl ?_
    refine s_if_ne (pc := 997) (tgt := 1012) C dL_law_997 (by decide) (fun c => ?_) (fun c => ?_)
    · have H := H.1 c
      exact s_sub (ls' := [(0, vV (.ref a0)), (1, vR 0 0 0), (2, vR 5 0 0), (3, vR 15 0 0), (4, vR 16 0 0), (5, vI x5)]) [2, 3, 4, 5, 6, 7] rfl (vL_law_b1012 C hs hk R28 hR28 x5 h5 H)
    · have H := H.2 c
      refine s_aload_n (pc := 1000) C dL_law_1000 rfl 5 rfl ?_
      refine s_iconst (pc := 1001) C dL_law_1001 (x := (0 : Int32)) (by decide) ?_
      refine s_lald0 (pc := 1002) C dL_law_1002 ?_
      refine s_iload (pc := 1003) C dL_law_1003 0 rfl ?_
      refine s_i2l (pc := 1005) C dL_law_1005 ?_
      refine s_lcmp (pc := 1006) C dL_law_1006 ?_
      refine s_if_eq (pc := 1007) (tgt := 1012) C dL_law_1007 (by decide) (fun c => ?_) (fun c => ?_)
      · have H := H.1 c
        exact s_sub (ls' := [(0, vV (.ref a0)), (1, vR 0 0 0), (2, vR 5 0 0), (3, vR 15 0 0), (4, vR 16 0 0), (5, vI x5)]) [2, 3, 4, 5, 6, 7] rfl (vL_law_b1012 C hs hk R28 hR28 x5 h5 H)
      · have H := H.2 c
        refine s_iconst (pc := 1010) C dL_law_1010 (x := (0 : Int32)) (by decide) ?_
        exact s_iret (pc := 1011) rfl (by decide) ⟨rm_l1 hk.1 (by decide), rm_l1 hk.2 (by decide)⟩ H C dL_law_1011
  · have H := H.2 c
    refine s_iconst (pc := 993) C dL_law_993 (x := (0 : Int32)) (by decide) ?_
    exact s_iret (pc := 994) rfl (by decide) ⟨rm_l1 hk.1 (by decide), rm_l1 hk.2 (by decide)⟩ H C dL_law_994
set_option maxRecDepth 100000 in
set_option maxHeartbeats 4000000 in
theorem vL_law_b1015 {G : g_G} {X : g_X} {Q : g_R → g_Hp → Prop} {a0 L : Nat} {xs : Nat → Int32} (C : g_Cx y_ G X iL_law) (hs : g_Scr G X a0 L xs) {k n : Nat} (hk : k + 26 ≤ 603072 ∧ n + 1956 ≤ 7202922) (R28 : Int32 → g_Hp → Prop) (hR28 : ∀ (x5 : Int32) (h : g_Hp), R28 x5 h → g_V G X iL_law 603072 7202922 Q 28 (k + 26) (n + 1956) [(0, vV (.ref a0)), (1, vR 0 0 0), (2, vR 5 0 0), (3, vR 15 0 0), (4, vR 16 0 0), (5, vI x5)] [] h) (x5 : Int32) (h : g_Hp) (H : wL_law_b1015 a0 L xs Q R28 x5 h) : g_V G X iL_law 603072 7202922 Q 1015 (k + 0) (n + 0) [(0, vV (.ref a0)), (1, vR 0 0 0), (2, vR 5 0 0), (3, vR 15 0 0), (4, vR 16 0 0), (5, vI x5)] [] h := by
  refine s_aload_n (pc := 1015) C dL_law_1015 rfl 1 rfl ?_
  refine s_callv (pc := 1016) (nA := 0) (as := []) (st := []) (stk := [vR 0 0 0]) ckX7 (Or.inl rfl) C (fun l hl => ctX7_windDirection l hl _ _ H) ⟨⟨kw_335, kw_58, kw_338⟩, rfl, ⟨by decide, by decide, by decide +kernel⟩, by decide, by decide⟩ kw_336 (g_selW kw_337) rfl (Nat.le_of_ble_eq_true rfl) ⟨rm_le hk.1 (by decide), rm_le hk.2 (by decide)⟩ rfl dL_law_1016 (g_Kq_I (fun u2 h1 H => ?_) (fun E h1 H => H.elim))
  refine s_at (k' := k + 0) (n' := n + 0) (Nat.add_assoc k 0 0) (Nat.add_assoc n 0 0) ?_
  refine s_aload_n (pc := 1019) C dL_law_1019 rfl 2 rfl ?_
  refine s_callv (pc := 1020) (nA := 0) (as := []) (st := [vI u2]) (stk := [vR 5 0 0, vI u2]) ckX8 (Or.inl rfl) C (fun l hl => ctX8_windDirection l hl _ _ H) ⟨⟨kw_1668, kw_69, kw_1671⟩, rfl, ⟨by decide, by decide, by decide +kernel⟩, by decide, by decide⟩ kw_1669 (g_selW kw_1670) rfl (Nat.le_of_ble_eq_true rfl) ⟨rm_le hk.1 (by decide), rm_le hk.2 (by decide)⟩ rfl dL_law_1020 (g_Kq_I (fun u4 h3 H => ?_) (fun E h3 H => H.elim))
  refine s_at (k' := k + 0) (n' := n + 0) (Nat.add_assoc k 0 0) (Nat.add_assoc n 0 0) ?_
  refine s_icmp_eq (pc := 1023) (tgt := 2767) C dL_law_1023 (by decide) (fun c => ?_) (fun c => ?_)
  · have H := H.1 c
    exact s_wide (k' := k + 26) (n' := n + 1956) (Nat.add_le_add_left (by decide) k) (Nat.add_le_add_left (by decide) n) <| s_sub (ls' := [(0, vV (.ref a0)), (1, vR 0 0 0), (2, vR 5 0 0), (3, vR 15 0 0), (4, vR 16 0 0), (5, vI x5)]) [0, 1, 2, 3, 4, 5] rfl (vL_law_b2767 C hs hk R28 hR28 x5 h3 H)
  · have H := H.2 c
    refine s_iconst (pc := 1026) C dL_law_1026 (x := (0 : Int32)) (by decide) ?_
    exact s_iret (pc := 1027) rfl (by decide) ⟨rm_l1 hk.1 (by decide), rm_l1 hk.2 (by decide)⟩ H C dL_law_1027
set_option maxRecDepth 100000 in
set_option maxHeartbeats 4000000 in
theorem vL_law_b1028 {G : g_G} {X : g_X} {Q : g_R → g_Hp → Prop} {a0 L : Nat} {xs : Nat → Int32} (C : g_Cx y_ G X iL_law) (hs : g_Scr G X a0 L xs) {k n : Nat} (hk : k + 26 ≤ 603072 ∧ n + 1956 ≤ 7202922) (R28 : Int32 → g_Hp → Prop) (hR28 : ∀ (x5 : Int32) (h : g_Hp), R28 x5 h → g_V G X iL_law 603072 7202922 Q 28 (k + 26) (n + 1956) [(0, vV (.ref a0)), (1, vR 0 0 0), (2, vR 5 0 0), (3, vR 15 0 0), (4, vR 16 0 0), (5, vI x5)] [] h) (x5 : Int32) (h : g_Hp) (H : wL_law_b1028 a0 L xs Q R28 x5 h) : g_V G X iL_law 603072 7202922 Q 1028 (k + 0) (n + 0) [(0, vV (.ref a0)), (1, vR 0 0 0), (2, vR 5 0 0), (3, vR 15 0 0), (4, vR 16 0 0), (5, vI x5)] [] h := by
  refine s_aload_n (pc := 1028) C dL_law_1028 rfl 1 rfl ?_
  refine s_callv (pc := 1029) (nA := 0) (as := []) (st := []) (stk := [vR 0 0 0]) ckX7 (Or.inl rfl) C (fun l hl => ctX7_windSpeed l hl _ _ H) ⟨⟨kw_339, kw_58, kw_342⟩, rfl, ⟨by decide, by decide, by decide +kernel⟩, by decide, by decide⟩ kw_340 (g_selW kw_341) rfl (Nat.le_of_ble_eq_true rfl) ⟨rm_le hk.1 (by decide), rm_le hk.2 (by decide)⟩ rfl dL_law_1029 (g_Kq_I (fun u2 h1 H => ?_) (fun E h1 H => H.elim))
  refine s_at (k' := k + 0) (n' := n + 0) (Nat.add_assoc k 0 0) (Nat.add_assoc n 0 0) ?_
  refine s_aload_n (pc := 1032) C dL_law_1032 rfl 2 rfl ?_
  refine s_callv (pc := 1033) (nA := 0) (as := []) (st := [vI u2]) (stk := [vR 5 0 0, vI u2]) ckX8 (Or.inl rfl) C (fun l hl => ctX8_windSpeed l hl _ _ H) ⟨⟨kw_1672, kw_69, kw_1675⟩, rfl, ⟨by decide, by decide, by decide +kernel⟩, by decide, by decide⟩ kw_1673 (g_selW kw_1674) rfl (Nat.le_of_ble_eq_true rfl) ⟨rm_le hk.1 (by decide), rm_le hk.2 (by decide)⟩ rfl dL_law_1033 (g_Kq_I (fun u4 h3 H => ?_) (fun E h3 H => H.elim))
  refine s_at (k' := k + 0) (n' := n + 0) (Nat.add_assoc k 0 0) (Nat.add_assoc n 0 0) ?_
  refine s_icmp_eq (pc := 1036) (tgt := 2767) C dL_law_1036 (by decide) (fun c => ?_) (fun c => ?_)
  · have H := H.1 c
    exact s_wide (k' := k + 26) (n' := n + 1956) (Nat.add_le_add_left (by decide) k) (Nat.add_le_add_left (by decide) n) <| s_sub (ls' := [(0, vV (.ref a0)), (1, vR 0 0 0), (2, vR 5 0 0), (3, vR 15 0 0), (4, vR 16 0 0), (5, vI x5)]) [0, 1, 2, 3, 4, 5] rfl (vL_law_b2767 C hs hk R28 hR28 x5 h3 H)
  · have H := H.2 c
    refine s_iconst (pc := 1039) C dL_law_1039 (x := (0 : Int32)) (by decide) ?_
    exact s_iret (pc := 1040) rfl (by decide) ⟨rm_l1 hk.1 (by decide), rm_l1 hk.2 (by decide)⟩ H C dL_law_1040
set_option maxRecDepth 100000 in
set_option maxHeartbeats 4000000 in
theorem vL_law_b1041 {G : g_G} {X : g_X} {Q : g_R → g_Hp → Prop} {a0 L : Nat} {xs : Nat → Int32} (C : g_Cx y_ G X iL_law) (hs : g_Scr G X a0 L xs) {k n : Nat} (hk : k + 26 ≤ 603072 ∧ n + 1956 ≤ 7202922) (R28 : Int32 → g_Hp → Prop) (hR28 : ∀ (x5 : Int32) (h : g_Hp), R28 x5 h → g_V G X iL_law 603072 7202922 Q 28 (k + 26) (n + 1956) [(0, vV (.ref a0)), (1, vR 0 0 0), (2, vR 5 0 0), (3, vR 15 0 0), (4, vR 16 0 0), (5, vI x5)] [] h) (x5 : Int32) (h : g_Hp) (H : wL_law_b1041 a0 L xs Q R28 x5 h) : g_V G X iL_law 603072 7202922 Q 1041 (k + 0) (n + 0) [(0, vV (.ref a0)), (1, vR 0 0 0), (2, vR 5 0 0), (3, vR 15 0 0), (4, vR 16 0 0), (5, vI x5)] [] h := by
  refine s_aload_n (pc := 1041) C dL_law_1041 rfl 1 rfl ?_
  refine s_aload_nQ (pc := 1042) C dL_law_1042 rfl 0 rfl ?_
  refine s_iload (pc := 1043) C dL_law_1043 5 rfl ?_
  refine s_iconst (pc := 1045) C dL_law_1045 (x := (1 : Int32)) (by decide) ?_
  refine s_iadd (pc := 1046) C dL_law_1046 ?_
  refine s_sld (pc := 1047) hs H.1 C dL_law_1047 ?_
  have H := H.2
  refine s_aload_n (pc := 1048) C dL_law_1048 rfl 3 rfl ?_
  refine s_callsH (pc := 1049) (nA := 3) (as := [vR 0 0 0, vI (xs (x5 + (1 : Int32)).toNatClampNeg), vR 15 0 0]) (st := []) (stk := [vR 15 0 0, vI (xs (x5 + (1 : Int32)).toNatClampNeg), vR 0 0 0]) C (fun l hl => ctL_stepsToWind l hl (xs (x5 + (1 : Int32)).toNatClampNeg) _ _ H) (fun _ _ z => z) rfl ⟨⟨kw_797, kw_57, kw_799⟩, ⟨by decide, by decide, by decide +kernel⟩, by decide, by decide⟩ kw_798 rfl (Nat.le_of_ble_eq_true rfl) ⟨rm_le hk.1 (by decide), rm_le hk.2 (by decide)⟩ rfl dL_law_1049 (g_Kq_I (fun u2 h1 H => ?_) (fun E h1 H => H.elim))
  refine s_at (k' := k + 1) (n' := n + 6) (Nat.add_assoc k 0 1) (Nat.add_assoc n 0 6) ?_
  refine s_istore (pc := 1052) (ls' := [(6, vI u2), (0, vV (.ref a0)), (1, vR 0 0 0), (2, vR 5 0 0), (3, vR 15 0 0), (4, vR 16 0 0), (5, vI x5)]) C dL_law_1052 (by decide) rfl ?_
  refine s_aload_n (pc := 1054) C dL_law_1054 rfl 3 rfl ?_
  refine s_aload_nQ (pc := 1055) C dL_law_1055 rfl 1 rfl ?_
  refine s_iload (pc := 1056) C dL_law_1056 6 rfl ?_
  refine s_iconst (pc := 1058) C dL_law_1058 (x := (1 : Int32)) (by decide) ?_
  refine s_iadd (pc := 1059) C dL_law_1059 ?_
  refine s_sld (pc := 1060) hs H.1 C dL_law_1060 ?_
  have H := H.2
  refine s_callv (pc := 1061) (nA := 1) (as := [vI (xs (x5 + (1 : Int32)).toNatClampNeg)]) (st := []) (stk := [vI (xs (x5 + (1 : Int32)).toNatClampNeg), vR 5 0 0]) ckX8 (Or.inl rfl) C (fun l hl => ctX8_stepsToWind l hl (xs (x5 + (1 : Int32)).toNatClampNeg) _ _ H) ⟨⟨kw_1676, kw_69, kw_1679⟩, rfl, ⟨by decide, by decide, by decide +kernel⟩, by decide, by decide⟩ kw_1677 (g_selW kw_1678) rfl (Nat.le_of_ble_eq_true rfl) ⟨rm_le hk.1 (by decide), rm_le hk.2 (by decide)⟩ rfl dL_law_1061 (g_Kq_I (fun u4 h3 H => ?_) (fun E h3 H => H.elim))
  refine s_at (k' := k + 1) (n' := n + 6) (Nat.add_assoc k 1 0) (Nat.add_assoc n 6 0) ?_
  refine s_istore (pc := 1064) (ls' := [(7, vI u4), (6, vI u2), (0, vV (.ref a0)), (1, vR 0 0 0), (2, vR 5 0 0), (3, vR 15 0 0), (4, vR 16 0 0), (5, vI x5)]) C dL_law_1064 (by decide) rfl ?_
  refine s_aload_n (pc := 1066) C dL_law_1066 rfl 4 rfl ?_
  refine s_callv (pc := 1067) (nA := 0) (as := []) (st := []) (stk := [vR 5 0 0]) ckX8 (Or.inl rfl) C (fun l hl => ctX8_thrown l hl _ _ H) ⟨⟨kw_1567, kw_69, kw_1570⟩, rfl, ⟨by decide, by decide, by decide +kernel⟩, by decide, by decide⟩ kw_1568 (g_selW kw_1569) rfl (Nat.le_of_ble_eq_true rfl) ⟨rm_le hk.1 (by decide), rm_le hk.2 (by decide)⟩ rfl dL_law_1067 (g_Kq_I (fun u6 h5 H => ?_) (fun E h5 H => H.elim))
  refine s_at (k' := k + 1) (n' := n + 6) (Nat.add_assoc k 1 0) (Nat.add_assoc n 6 0) ?_
  refine s_iload (pc := 1070) C dL_law_1070 1 rfl ?_
  refine s_icmp_eq (pc := 1072) (tgt := 1077) C dL_law_1072 (by decide) (fun c => ?_) (fun c => ?_)
  · have H := H.1 c
    refine s_iload (pc := 1077) C dL_law_1077 1 rfl ?_
    refine s_if_ne (pc := 1079) (tgt := 1094) C dL_law_1079 (by decide) (fun c => ?_) (fun c => ?_)
    · have H := H.1 c
      exact s_sub (ls' := [(0, vV (.ref a0)), (1, vR 0 0 0), (2, vR 5 0 0), (3, vR 15 0 0), (4, vR 16 0 0), (5, vI x5)]) [2, 3, 4, 5, 6, 7] rfl (vL_law_b1094 C hs hk R28 hR28 x5 h5 H)
    · have H := H.2 c
      refine s_aload_n (pc := 1082) C dL_law_1082 rfl 5 rfl ?_
      refine s_iconst (pc := 1083) C dL_law_1083 (x := (0 : Int32)) (by decide) ?_
      refine s_lald0 (pc := 1084) C dL_law_1084 ?_
      refine s_iload (pc := 1085) C dL_law_1085 0 rfl ?_
      refine s_i2l (pc := 1087) C dL_law_1087 ?_
      refine s_lcmp (pc := 1088) C dL_law_1088 ?_
      refine s_if_eq (pc := 1089) (tgt := 1094) C dL_law_1089 (by decide) (fun c => ?_) (fun c => ?_)
      · have H := H.1 c
        exact s_sub (ls' := [(0, vV (.ref a0)), (1, vR 0 0 0), (2, vR 5 0 0), (3, vR 15 0 0), (4, vR 16 0 0), (5, vI x5)]) [2, 3, 4, 5, 6, 7] rfl (vL_law_b1094 C hs hk R28 hR28 x5 h5 H)
      · have H := H.2 c
        refine s_iconst (pc := 1092) C dL_law_1092 (x := (0 : Int32)) (by decide) ?_
        exact s_iret (pc := 1093) rfl (by decide) ⟨rm_l1 hk.1 (by decide), rm_l1 hk.2 (by decide)⟩ H C dL_law_1093
  · have H := H.2 c
    refine s_iconst (pc := 1075) C dL_law_1075 (x := (0 : Int32)) (by decide) ?_
    exact s_iret (pc := 1076) rfl (by decide) ⟨rm_l1 hk.1 (by decide), rm_l1 hk.2 (by decide)⟩ H C dL_law_1076
set_option maxRecDepth 100000 in
set_option maxHeartbeats 4000000 in
theorem vL_law_b1097 {G : g_G} {X : g_X} {Q : g_R → g_Hp → Prop} {a0 L : Nat} {xs : Nat → Int32} (C : g_Cx y_ G X iL_law) (hs : g_Scr G X a0 L xs) {k n : Nat} (hk : k + 26 ≤ 603072 ∧ n + 1956 ≤ 7202922) (R28 : Int32 → g_Hp → Prop) (hR28 : ∀ (x5 : Int32) (h : g_Hp), R28 x5 h → g_V G X iL_law 603072 7202922 Q 28 (k + 26) (n + 1956) [(0, vV (.ref a0)), (1, vR 0 0 0), (2, vR 5 0 0), (3, vR 15 0 0), (4, vR 16 0 0), (5, vI x5)] [] h) (x5 : Int32) (h : g_Hp) (H : wL_law_b1097 a0 L xs Q R28 x5 h) : g_V G X iL_law 603072 7202922 Q 1097 (k + 0) (n + 0) [(0, vV (.ref a0)), (1, vR 0 0 0), (2, vR 5 0 0), (3, vR 15 0 0), (4, vR 16 0 0), (5, vI x5)] [] h := by
  refine s_aload_n (pc := 1097) C dL_law_1097 rfl 1 rfl ?_
  refine s_aload_nQ (pc := 1098) C dL_law_1098 rfl 0 rfl ?_
  refine s_iload (pc := 1099) C dL_law_1099 5 rfl ?_
  refine s_iconst (pc := 1101) C dL_law_1101 (x := (1 : Int32)) (by decide) ?_
  refine s_iadd (pc := 1102) C dL_law_1102 ?_
  refine s_sld (pc := 1103) hs H.1 C dL_law_1103 ?_
  have H := H.2
  refine s_aload_n (pc := 1104) C dL_law_1104 rfl 3 rfl ?_
  refine s_callsH (pc := 1105) (nA := 3) (as := [vR 0 0 0, vI (xs (x5 + (1 : Int32)).toNatClampNeg), vR 15 0 0]) (st := []) (stk := [vR 15 0 0, vI (xs (x5 + (1 : Int32)).toNatClampNeg), vR 0 0 0]) C (fun l hl => ctL_stepsToWindByTurning l hl (xs (x5 + (1 : Int32)).toNatClampNeg) _ _ H) (fun _ _ z => z) rfl ⟨⟨kw_801, kw_57, kw_803⟩, ⟨by decide, by decide, by decide +kernel⟩, by decide, by decide⟩ kw_802 rfl (Nat.le_of_ble_eq_true rfl) ⟨rm_le hk.1 (by decide), rm_le hk.2 (by decide)⟩ rfl dL_law_1105 (g_Kq_I (fun u2 h1 H => ?_) (fun E h1 H => H.elim))
  refine s_at (k' := k + 1) (n' := n + 6) (Nat.add_assoc k 0 1) (Nat.add_assoc n 0 6) ?_
  refine s_istore (pc := 1108) (ls' := [(6, vI u2), (0, vV (.ref a0)), (1, vR 0 0 0), (2, vR 5 0 0), (3, vR 15 0 0), (4, vR 16 0 0), (5, vI x5)]) C dL_law_1108 (by decide) rfl ?_
  refine s_aload_n (pc := 1110) C dL_law_1110 rfl 3 rfl ?_
  refine s_aload_nQ (pc := 1111) C dL_law_1111 rfl 1 rfl ?_
  refine s_iload (pc := 1112) C dL_law_1112 6 rfl ?_
  refine s_iconst (pc := 1114) C dL_law_1114 (x := (1 : Int32)) (by decide) ?_
  refine s_iadd (pc := 1115) C dL_law_1115 ?_
  refine s_sld (pc := 1116) hs H.1 C dL_law_1116 ?_
  have H := H.2
  refine s_callv (pc := 1117) (nA := 1) (as := [vI (xs (x5 + (1 : Int32)).toNatClampNeg)]) (st := []) (stk := [vI (xs (x5 + (1 : Int32)).toNatClampNeg), vR 5 0 0]) ckX8 (Or.inl rfl) C (fun l hl => ctX8_stepsToWindByTurning l hl (xs (x5 + (1 : Int32)).toNatClampNeg) _ _ H) ⟨⟨kw_1680, kw_69, kw_1683⟩, rfl, ⟨by decide, by decide, by decide +kernel⟩, by decide, by decide⟩ kw_1681 (g_selW kw_1682) rfl (Nat.le_of_ble_eq_true rfl) ⟨rm_le hk.1 (by decide), rm_le hk.2 (by decide)⟩ rfl dL_law_1117 (g_Kq_I (fun u4 h3 H => ?_) (fun E h3 H => H.elim))
  refine s_at (k' := k + 1) (n' := n + 6) (Nat.add_assoc k 1 0) (Nat.add_assoc n 6 0) ?_
  refine s_istore (pc := 1120) (ls' := [(7, vI u4), (6, vI u2), (0, vV (.ref a0)), (1, vR 0 0 0), (2, vR 5 0 0), (3, vR 15 0 0), (4, vR 16 0 0), (5, vI x5)]) C dL_law_1120 (by decide) rfl ?_
  refine s_aload_n (pc := 1122) C dL_law_1122 rfl 4 rfl ?_
  refine s_callv (pc := 1123) (nA := 0) (as := []) (st := []) (stk := [vR 5 0 0]) ckX8 (Or.inl rfl) C (fun l hl => ctX8_thrown l hl _ _ H) ⟨⟨kw_1567, kw_69, kw_1570⟩, rfl, ⟨by decide, by decide, by decide +kernel⟩, by decide, by decide⟩ kw_1568 (g_selW kw_1569) rfl (Nat.le_of_ble_eq_true rfl) ⟨rm_le hk.1 (by decide), rm_le hk.2 (by decide)⟩ rfl dL_law_1123 (g_Kq_I (fun u6 h5 H => ?_) (fun E h5 H => H.elim))
  refine s_at (k' := k + 1) (n' := n + 6) (Nat.add_assoc k 1 0) (Nat.add_assoc n 6 0) ?_
  refine s_iload (pc := 1126) C dL_law_1126 1 rfl ?_
  refine s_icmp_eq (pc := 1128) (tgt := 1133) C dL_law_1128 (by decide) (fun c => ?_) (fun c => ?_)
  · have H := H.1 c
    refine s_iload (pc := 1133) C dL_law_1133 1 rfl ?_
    refine s_if_ne (pc := 1135) (tgt := 1150) C dL_law_1135 (by decide) (fun c => ?_) (fun c => ?_)
    · have H := H.1 c
      exact s_sub (ls' := [(0, vV (.ref a0)), (1, vR 0 0 0), (2, vR 5 0 0), (3, vR 15 0 0), (4, vR 16 0 0), (5, vI x5)]) [2, 3, 4, 5, 6, 7] rfl (vL_law_b1150 C hs hk R28 hR28 x5 h5 H)
    · have H := H.2 c
      refine s_aload_n (pc := 1138) C dL_law_1138 rfl 5 rfl ?_
      refine s_iconst (pc := 1139) C dL_law_1139 (x := (0 : Int32)) (by decide) ?_
      refine s_lald0 (pc := 1140) C dL_law_1140 ?_
      refine s_iload (pc := 1141) C dL_law_1141 0 rfl ?_
      refine s_i2l (pc := 1143) C dL_law_1143 ?_
      refine s_lcmp (pc := 1144) C dL_law_1144 ?_
      refine s_if_eq (pc := 1145) (tgt := 1150) C dL_law_1145 (by decide) (fun c => ?_) (fun c => ?_)
      · have H := H.1 c
        exact s_sub (ls' := [(0, vV (.ref a0)), (1, vR 0 0 0), (2, vR 5 0 0), (3, vR 15 0 0), (4, vR 16 0 0), (5, vI x5)]) [2, 3, 4, 5, 6, 7] rfl (vL_law_b1150 C hs hk R28 hR28 x5 h5 H)
      · have H := H.2 c
        refine s_iconst (pc := 1148) C dL_law_1148 (x := (0 : Int32)) (by decide) ?_
        exact s_iret (pc := 1149) rfl (by decide) ⟨rm_l1 hk.1 (by decide), rm_l1 hk.2 (by decide)⟩ H C dL_law_1149
  · have H := H.2 c
    refine s_iconst (pc := 1131) C dL_law_1131 (x := (0 : Int32)) (by decide) ?_
    exact s_iret (pc := 1132) rfl (by decide) ⟨rm_l1 hk.1 (by decide), rm_l1 hk.2 (by decide)⟩ H C dL_law_1132
set_option maxRecDepth 100000 in
set_option maxHeartbeats 4000000 in
theorem vL_law_b1153 {G : g_G} {X : g_X} {Q : g_R → g_Hp → Prop} {a0 L : Nat} {xs : Nat → Int32} (C : g_Cx y_ G X iL_law) (hs : g_Scr G X a0 L xs) {k n : Nat} (hk : k + 26 ≤ 603072 ∧ n + 1956 ≤ 7202922) (R28 : Int32 → g_Hp → Prop) (hR28 : ∀ (x5 : Int32) (h : g_Hp), R28 x5 h → g_V G X iL_law 603072 7202922 Q 28 (k + 26) (n + 1956) [(0, vV (.ref a0)), (1, vR 0 0 0), (2, vR 5 0 0), (3, vR 15 0 0), (4, vR 16 0 0), (5, vI x5)] [] h) (x5 : Int32) (h : g_Hp) (H : wL_law_b1153 a0 L xs Q R28 x5 h) : g_V G X iL_law 603072 7202922 Q 1153 (k + 0) (n + 0) [(0, vV (.ref a0)), (1, vR 0 0 0), (2, vR 5 0 0), (3, vR 15 0 0), (4, vR 16 0 0), (5, vI x5)] [] h := by
  refine s_aload_n (pc := 1153) C dL_law_1153 rfl 1 rfl ?_
  refine s_aload_nQ (pc := 1154) C dL_law_1154 rfl 0 rfl ?_
  refine s_iload (pc := 1155) C dL_law_1155 5 rfl ?_
  refine s_iconst (pc := 1157) C dL_law_1157 (x := (1 : Int32)) (by decide) ?_
  refine s_iadd (pc := 1158) C dL_law_1158 ?_
  refine s_sld (pc := 1159) hs H.1 C dL_law_1159 ?_
  have H := H.2
  refine s_aload_n (pc := 1160) C dL_law_1160 rfl 3 rfl ?_
  refine s_callsH (pc := 1161) (nA := 3) (as := [vR 0 0 0, vI (xs (x5 + (1 : Int32)).toNatClampNeg), vR 15 0 0]) (st := []) (stk := [vR 15 0 0, vI (xs (x5 + (1 : Int32)).toNatClampNeg), vR 0 0 0]) C (fun l hl => ctL_passShifts l hl (xs (x5 + (1 : Int32)).toNatClampNeg) _ _ H) (fun _ _ z => z) rfl ⟨⟨kw_805, kw_57, kw_807⟩, ⟨by decide, by decide, by decide +kernel⟩, by decide, by decide⟩ kw_806 rfl (Nat.le_of_ble_eq_true rfl) ⟨rm_le hk.1 (by decide), rm_le hk.2 (by decide)⟩ rfl dL_law_1161 (g_Kq_I (fun u2 h1 H => ?_) (fun E h1 H => H.elim))
  refine s_at (k' := k + 1) (n' := n + 6) (Nat.add_assoc k 0 1) (Nat.add_assoc n 0 6) ?_
  refine s_istore (pc := 1164) (ls' := [(6, vI u2), (0, vV (.ref a0)), (1, vR 0 0 0), (2, vR 5 0 0), (3, vR 15 0 0), (4, vR 16 0 0), (5, vI x5)]) C dL_law_1164 (by decide) rfl ?_
  refine s_aload_n (pc := 1166) C dL_law_1166 rfl 3 rfl ?_
  refine s_aload_nQ (pc := 1167) C dL_law_1167 rfl 1 rfl ?_
  refine s_iload (pc := 1168) C dL_law_1168 6 rfl ?_
  refine s_iconst (pc := 1170) C dL_law_1170 (x := (1 : Int32)) (by decide) ?_
  refine s_iadd (pc := 1171) C dL_law_1171 ?_
  refine s_sld (pc := 1172) hs H.1 C dL_law_1172 ?_
  have H := H.2
  refine s_callv (pc := 1173) (nA := 1) (as := [vI (xs (x5 + (1 : Int32)).toNatClampNeg)]) (st := []) (stk := [vI (xs (x5 + (1 : Int32)).toNatClampNeg), vR 5 0 0]) ckX8 (Or.inl rfl) C (fun l hl => ctX8_passShifts l hl (xs (x5 + (1 : Int32)).toNatClampNeg) _ _ H) ⟨⟨kw_1685, kw_69, kw_1688⟩, rfl, ⟨by decide, by decide, by decide +kernel⟩, by decide, by decide⟩ kw_1686 (g_selW kw_1687) rfl (Nat.le_of_ble_eq_true rfl) ⟨rm_le hk.1 (by decide), rm_le hk.2 (by decide)⟩ rfl dL_law_1173 (g_Kq_I (fun u4 h3 H => ?_) (fun E h3 H => H.elim))
  refine s_at (k' := k + 1) (n' := n + 6) (Nat.add_assoc k 1 0) (Nat.add_assoc n 6 0) ?_
  refine s_istore (pc := 1176) (ls' := [(7, vI u4), (6, vI u2), (0, vV (.ref a0)), (1, vR 0 0 0), (2, vR 5 0 0), (3, vR 15 0 0), (4, vR 16 0 0), (5, vI x5)]) C dL_law_1176 (by decide) rfl ?_
  refine s_aload_n (pc := 1178) C dL_law_1178 rfl 4 rfl ?_
  refine s_callv (pc := 1179) (nA := 0) (as := []) (st := []) (stk := [vR 5 0 0]) ckX8 (Or.inl rfl) C (fun l hl => ctX8_thrown l hl _ _ H) ⟨⟨kw_1567, kw_69, kw_1570⟩, rfl, ⟨by decide, by decide, by decide +kernel⟩, by decide, by decide⟩ kw_1568 (g_selW kw_1569) rfl (Nat.le_of_ble_eq_true rfl) ⟨rm_le hk.1 (by decide), rm_le hk.2 (by decide)⟩ rfl dL_law_1179 (g_Kq_I (fun u6 h5 H => ?_) (fun E h5 H => H.elim))
  refine s_at (k' := k + 1) (n' := n + 6) (Nat.add_assoc k 1 0) (Nat.add_assoc n 6 0) ?_
  refine s_iload (pc := 1182) C dL_law_1182 1 rfl ?_
  refine s_icmp_eq (pc := 1184) (tgt := 1189) C dL_law_1184 (by decide) (fun c => ?_) (fun c => ?_)
  · have H := H.1 c
    refine s_iload (pc := 1189) C dL_law_1189 1 rfl ?_
    refine s_if_ne (pc := 1191) (tgt := 1206) C dL_law_1191 (by decide) (fun c => ?_) (fun c => ?_)
    · have H := H.1 c
      exact s_sub (ls' := [(0, vV (.ref a0)), (1, vR 0 0 0), (2, vR 5 0 0), (3, vR 15 0 0), (4, vR 16 0 0), (5, vI x5)]) [2, 3, 4, 5, 6, 7] rfl (vL_law_b1206 C hs hk R28 hR28 x5 h5 H)
    · have H := H.2 c
      refine s_aload_n (pc := 1194) C dL_law_1194 rfl 5 rfl ?_
      refine s_iconst (pc := 1195) C dL_law_1195 (x := (0 : Int32)) (by decide) ?_
      refine s_lald0 (pc := 1196) C dL_law_1196 ?_
      refine s_iload (pc := 1197) C dL_law_1197 0 rfl ?_
      refine s_i2l (pc := 1199) C dL_law_1199 ?_
      refine s_lcmp (pc := 1200) C dL_law_1200 ?_
      refine s_if_eq (pc := 1201) (tgt := 1206) C dL_law_1201 (by decide) (fun c => ?_) (fun c => ?_)
      · have H := H.1 c
        exact s_sub (ls' := [(0, vV (.ref a0)), (1, vR 0 0 0), (2, vR 5 0 0), (3, vR 15 0 0), (4, vR 16 0 0), (5, vI x5)]) [2, 3, 4, 5, 6, 7] rfl (vL_law_b1206 C hs hk R28 hR28 x5 h5 H)
      · have H := H.2 c
        refine s_iconst (pc := 1204) C dL_law_1204 (x := (0 : Int32)) (by decide) ?_
        exact s_iret (pc := 1205) rfl (by decide) ⟨rm_l1 hk.1 (by decide), rm_l1 hk.2 (by decide)⟩ H C dL_law_1205
  · have H := H.2 c
    refine s_iconst (pc := 1187) C dL_law_1187 (x := (0 : Int32)) (by decide) ?_
    exact s_iret (pc := 1188) rfl (by decide) ⟨rm_l1 hk.1 (by decide), rm_l1 hk.2 (by decide)⟩ H C dL_law_1188
