/-! the law: cases -/
set_option maxRecDepth 100000 in
set_option maxHeartbeats 4000000 in
theorem vL_law_b2013 {G : g_G} {X : g_X} {Q : g_R → g_Hp → Prop} {a0 L : Nat} {xs : Nat → Int32} (C : g_Cx y_ G X iL_law) (hs : g_Scr G X a0 L xs) {k n : Nat} (hk : k + 26 ≤ 603072 ∧ n + 1956 ≤ 7202922) (R28 : Int32 → g_Hp → Prop) (hR28 : ∀ (x5 : Int32) (h : g_Hp), R28 x5 h → g_V G X iL_law 603072 7202922 Q 28 (k + 26) (n + 1956) [(0, vV (.ref a0)), (1, vR 0 0 0), (2, vR 5 0 0), (3, vR 15 0 0), (4, vR 16 0 0), (5, vI x5)] [] h) (x5 : Int32) (h : g_Hp) (H : wL_law_b2013 a0 L xs Q R28 x5 h) : g_V G X iL_law 603072 7202922 Q 2013 (k + 0) (n + 0) [(0, vV (.ref a0)), (1, vR 0 0 0), (2, vR 5 0 0), (3, vR 15 0 0), (4, vR 16 0 0), (5, vI x5)] [] h := by
  refine s_aload_n (pc := 2013) C dL_law_2013 rfl 1 rfl ?_
  refine s_aload_nQ (pc := 2014) C dL_law_2014 rfl 0 rfl ?_
  refine s_iload (pc := 2015) C dL_law_2015 5 rfl ?_
  refine s_iconst (pc := 2017) C dL_law_2017 (x := (1 : Int32)) (by decide) ?_
  refine s_iadd (pc := 2018) C dL_law_2018 ?_
  refine s_sld (pc := 2019) hs H.1 C dL_law_2019 ?_
  have H := H.2
  refine s_aload_n (pc := 2020) C dL_law_2020 rfl 3 rfl ?_
  refine s_callsH (pc := 2021) (nA := 3) (as := [vR 0 0 0, vI (xs (x5 + (1 : Int32)).toNatClampNeg), vR 15 0 0]) (st := []) (stk := [vR 15 0 0, vI (xs (x5 + (1 : Int32)).toNatClampNeg), vR 0 0 0]) C (fun l hl => ctL_accept l hl (xs (x5 + (1 : Int32)).toNatClampNeg) _ _ H) (fun _ _ z => z) rfl ⟨⟨kw_990, kw_57, kw_992⟩, ⟨by decide, by decide, by decide +kernel⟩, by decide, by decide⟩ kw_991 rfl (Nat.le_of_ble_eq_true rfl) ⟨rm_le hk.1 (by decide), rm_le hk.2 (by decide)⟩ rfl dL_law_2021 (g_Kq_I (fun u2 h1 H => ?_) (fun E h1 H => H.elim))
  refine s_at (k' := k + 1) (n' := n + 6) (Nat.add_assoc k 0 1) (Nat.add_assoc n 0 6) ?_
  refine s_istore (pc := 2024) (ls' := [(6, vI u2), (0, vV (.ref a0)), (1, vR 0 0 0), (2, vR 5 0 0), (3, vR 15 0 0), (4, vR 16 0 0), (5, vI x5)]) C dL_law_2024 (by decide) rfl ?_
  refine s_aload_n (pc := 2026) C dL_law_2026 rfl 3 rfl ?_
  refine s_aload_nQ (pc := 2027) C dL_law_2027 rfl 1 rfl ?_
  refine s_iload (pc := 2028) C dL_law_2028 6 rfl ?_
  refine s_iconst (pc := 2030) C dL_law_2030 (x := (1 : Int32)) (by decide) ?_
  refine s_iadd (pc := 2031) C dL_law_2031 ?_
  refine s_sld (pc := 2032) hs H.1 C dL_law_2032 ?_
  have H := H.2
  refine s_callv (pc := 2033) (nA := 1) (as := [vI (xs (x5 + (1 : Int32)).toNatClampNeg)]) (st := []) (stk := [vI (xs (x5 + (1 : Int32)).toNatClampNeg), vR 5 0 0]) ckX8 (Or.inl rfl) C (fun l hl => ctX8_accept l hl (xs (x5 + (1 : Int32)).toNatClampNeg) _ _ H) ⟨⟨kw_1813, kw_69, kw_1816⟩, rfl, ⟨by decide, by decide, by decide +kernel⟩, by decide, by decide⟩ kw_1814 (g_selW kw_1815) rfl (Nat.le_of_ble_eq_true rfl) ⟨rm_le hk.1 (by decide), rm_le hk.2 (by decide)⟩ rfl dL_law_2033 (g_Kq_I (fun u4 h3 H => ?_) (fun E h3 H => H.elim))
  refine s_at (k' := k + 1) (n' := n + 6) (Nat.add_assoc k 1 0) (Nat.add_assoc n 6 0) ?_
  refine s_istore (pc := 2036) (ls' := [(7, vI u4), (6, vI u2), (0, vV (.ref a0)), (1, vR 0 0 0), (2, vR 5 0 0), (3, vR 15 0 0), (4, vR 16 0 0), (5, vI x5)]) C dL_law_2036 (by decide) rfl ?_
  refine s_aload_n (pc := 2038) C dL_law_2038 rfl 4 rfl ?_
  refine s_callv (pc := 2039) (nA := 0) (as := []) (st := []) (stk := [vR 5 0 0]) ckX8 (Or.inl rfl) C (fun l hl => ctX8_thrown l hl _ _ H) ⟨⟨kw_1567, kw_69, kw_1570⟩, rfl, ⟨by decide, by decide, by decide +kernel⟩, by decide, by decide⟩ kw_1568 (g_selW kw_1569) rfl (Nat.le_of_ble_eq_true rfl) ⟨rm_le hk.1 (by decide), rm_le hk.2 (by decide)⟩ rfl dL_law_2039 (g_Kq_I (fun u6 h5 H => ?_) (fun E h5 H => H.elim))
  refine s_at (k' := k + 1) (n' := n + 6) (Nat.add_assoc k 1 0) (Nat.add_assoc n 6 0) ?_
  refine s_iload (pc := 2042) C dL_law_2042 1 rfl ?_
  refine s_icmp_eq (pc := 2044) (tgt := 2049) C dL_law_2044 (by decide) (fun c => ?_) (fun c => ?_)
  · have H := H.1 c
    refine s_iload (pc := 2049) C dL_law_2049 1 rfl ?_
    refine s_if_ne (pc := 2051) (tgt := 2073) C dL_law_2051 (by decide) (fun c => ?_) (fun c => ?_)
    · have H := H.1 c
      exact s_sub (ls' := [(0, vV (.ref a0)), (1, vR 0 0 0), (2, vR 5 0 0), (3, vR 15 0 0), (4, vR 16 0 0), (5, vI x5)]) [2, 3, 4, 5, 6, 7] rfl (vL_law_b2073 C hs hk R28 hR28 x5 h5 H)
    · have H := H.2 c
      refine s_aload_n (pc := 2054) C dL_law_2054 rfl 5 rfl ?_
      refine s_iconst (pc := 2055) C dL_law_2055 (x := (0 : Int32)) (by decide) ?_
      refine s_lald0 (pc := 2056) C dL_law_2056 ?_
      refine s_iload (pc := 2057) C dL_law_2057 0 rfl ?_
      refine s_if_eq (pc := 2059) (tgt := 2066) C dL_law_2059 (by decide) (fun c => ?_) (fun c => ?_)
      · have H := H.1 c
        refine s_lconst (pc := 2066) C dL_law_2066 (x := (0 : Int32).toInt64) (by decide) ?_
        exact s_sub (ls' := [(0, vV (.ref a0)), (1, vR 0 0 0), (2, vR 5 0 0), (3, vR 15 0 0), (4, vR 16 0 0), (5, vI x5)]) [2, 3, 4, 5, 6, 7] rfl (vL_law_b2067 C hs hk R28 hR28 x5 (0 : Int32) (h5 15 0 0 1) h5 H)
      · have H := H.2 c
        refine s_lconst (pc := 2062) C dL_law_2062 (x := (1 : Int32).toInt64) (by decide) ?_
        refine s_goto (pc := 2063) (tgt := 2067) C dL_law_2063 (by decide) ?_
        exact s_sub (ls' := [(0, vV (.ref a0)), (1, vR 0 0 0), (2, vR 5 0 0), (3, vR 15 0 0), (4, vR 16 0 0), (5, vI x5)]) [2, 3, 4, 5, 6, 7] rfl (vL_law_b2067 C hs hk R28 hR28 x5 (1 : Int32) (h5 15 0 0 1) h5 H)
  · have H := H.2 c
    refine s_iconst (pc := 2047) C dL_law_2047 (x := (0 : Int32)) (by decide) ?_
    exact s_iret (pc := 2048) rfl (by decide) ⟨rm_l1 hk.1 (by decide), rm_l1 hk.2 (by decide)⟩ H C dL_law_2048
set_option maxRecDepth 100000 in
set_option maxHeartbeats 4000000 in
theorem vL_law_b2076 {G : g_G} {X : g_X} {Q : g_R → g_Hp → Prop} {a0 L : Nat} {xs : Nat → Int32} (C : g_Cx y_ G X iL_law) (hs : g_Scr G X a0 L xs) {k n : Nat} (hk : k + 26 ≤ 603072 ∧ n + 1956 ≤ 7202922) (R28 : Int32 → g_Hp → Prop) (hR28 : ∀ (x5 : Int32) (h : g_Hp), R28 x5 h → g_V G X iL_law 603072 7202922 Q 28 (k + 26) (n + 1956) [(0, vV (.ref a0)), (1, vR 0 0 0), (2, vR 5 0 0), (3, vR 15 0 0), (4, vR 16 0 0), (5, vI x5)] [] h) (x5 : Int32) (h : g_Hp) (H : wL_law_b2076 a0 L xs Q R28 x5 h) : g_V G X iL_law 603072 7202922 Q 2076 (k + 0) (n + 0) [(0, vV (.ref a0)), (1, vR 0 0 0), (2, vR 5 0 0), (3, vR 15 0 0), (4, vR 16 0 0), (5, vI x5)] [] h := by
  refine s_aload_n (pc := 2076) C dL_law_2076 rfl 1 rfl ?_
  refine s_aload_n (pc := 2077) C dL_law_2077 rfl 3 rfl ?_
  refine s_callsH (pc := 2078) (nA := 2) (as := [vR 0 0 0, vR 15 0 0]) (st := []) (stk := [vR 15 0 0, vR 0 0 0]) C (fun l hl => ctL_offerPercent l hl _ _ H) (fun _ _ z => z) rfl ⟨⟨kw_1012, kw_57, kw_1014⟩, ⟨by decide, by decide, by decide +kernel⟩, by decide, by decide⟩ kw_1013 rfl (Nat.le_of_ble_eq_true rfl) ⟨rm_le hk.1 (by decide), rm_le hk.2 (by decide)⟩ rfl dL_law_2078 (g_Kq_I (fun u2 h1 H => ?_) (fun E h1 H => H.elim))
  refine s_at (k' := k + 1) (n' := n + 6) (Nat.add_assoc k 0 1) (Nat.add_assoc n 0 6) ?_
  refine s_istore (pc := 2081) (ls' := [(6, vI u2), (0, vV (.ref a0)), (1, vR 0 0 0), (2, vR 5 0 0), (3, vR 15 0 0), (4, vR 16 0 0), (5, vI x5)]) C dL_law_2081 (by decide) rfl ?_
  refine s_aload_n (pc := 2083) C dL_law_2083 rfl 3 rfl ?_
  refine s_callv (pc := 2084) (nA := 0) (as := []) (st := []) (stk := [vR 5 0 0]) ckX8 (Or.inl rfl) C (fun l hl => ctX8_offerPercent l hl _ _ H) ⟨⟨kw_1829, kw_69, kw_1832⟩, rfl, ⟨by decide, by decide, by decide +kernel⟩, by decide, by decide⟩ kw_1830 (g_selW kw_1831) rfl (Nat.le_of_ble_eq_true rfl) ⟨rm_le hk.1 (by decide), rm_le hk.2 (by decide)⟩ rfl dL_law_2084 (g_Kq_I (fun u4 h3 H => ?_) (fun E h3 H => H.elim))
  refine s_at (k' := k + 1) (n' := n + 6) (Nat.add_assoc k 1 0) (Nat.add_assoc n 6 0) ?_
  refine s_istore (pc := 2087) (ls' := [(7, vI u4), (6, vI u2), (0, vV (.ref a0)), (1, vR 0 0 0), (2, vR 5 0 0), (3, vR 15 0 0), (4, vR 16 0 0), (5, vI x5)]) C dL_law_2087 (by decide) rfl ?_
  refine s_aload_n (pc := 2089) C dL_law_2089 rfl 4 rfl ?_
  refine s_callv (pc := 2090) (nA := 0) (as := []) (st := []) (stk := [vR 5 0 0]) ckX8 (Or.inl rfl) C (fun l hl => ctX8_thrown l hl _ _ H) ⟨⟨kw_1567, kw_69, kw_1570⟩, rfl, ⟨by decide, by decide, by decide +kernel⟩, by decide, by decide⟩ kw_1568 (g_selW kw_1569) rfl (Nat.le_of_ble_eq_true rfl) ⟨rm_le hk.1 (by decide), rm_le hk.2 (by decide)⟩ rfl dL_law_2090 (g_Kq_I (fun u6 h5 H => ?_) (fun E h5 H => H.elim))
  refine s_at (k' := k + 1) (n' := n + 6) (Nat.add_assoc k 1 0) (Nat.add_assoc n 6 0) ?_
  refine s_iload (pc := 2093) C dL_law_2093 1 rfl ?_
  refine s_icmp_eq (pc := 2095) (tgt := 2100) C dL_law_2095 (by decide) (fun c => ?_) (fun c => ?_)
  · have H := H.1 c
    refine s_iload (pc := 2100) C dL_law_2100 1 rfl ?_
    refine s_if_ne (pc := 2102) (tgt := 2117) C dL_law_2102 (by decide) (fun c => ?_) (fun c => ?_)
    · have H := H.1 c
      exact s_sub (ls' := [(0, vV (.ref a0)), (1, vR 0 0 0), (2, vR 5 0 0), (3, vR 15 0 0), (4, vR 16 0 0), (5, vI x5)]) [2, 3, 4, 5, 6, 7] rfl (vL_law_b2117 C hs hk R28 hR28 x5 h5 H)
    · have H := H.2 c
      refine s_aload_n (pc := 2105) C dL_law_2105 rfl 5 rfl ?_
      refine s_iconst (pc := 2106) C dL_law_2106 (x := (0 : Int32)) (by decide) ?_
      refine s_lald0 (pc := 2107) C dL_law_2107 ?_
      refine s_iload (pc := 2108) C dL_law_2108 0 rfl ?_
      refine s_i2l (pc := 2110) C dL_law_2110 ?_
      refine s_lcmp (pc := 2111) C dL_law_2111 ?_
      refine s_if_eq (pc := 2112) (tgt := 2117) C dL_law_2112 (by decide) (fun c => ?_) (fun c => ?_)
      · have H := H.1 c
        exact s_sub (ls' := [(0, vV (.ref a0)), (1, vR 0 0 0), (2, vR 5 0 0), (3, vR 15 0 0), (4, vR 16 0 0), (5, vI x5)]) [2, 3, 4, 5, 6, 7] rfl (vL_law_b2117 C hs hk R28 hR28 x5 h5 H)
      · have H := H.2 c
        refine s_iconst (pc := 2115) C dL_law_2115 (x := (0 : Int32)) (by decide) ?_
        exact s_iret (pc := 2116) rfl (by decide) ⟨rm_l1 hk.1 (by decide), rm_l1 hk.2 (by decide)⟩ H C dL_law_2116
  · have H := H.2 c
    refine s_iconst (pc := 2098) C dL_law_2098 (x := (0 : Int32)) (by decide) ?_
    exact s_iret (pc := 2099) rfl (by decide) ⟨rm_l1 hk.1 (by decide), rm_l1 hk.2 (by decide)⟩ H C dL_law_2099
set_option maxRecDepth 100000 in
set_option maxHeartbeats 4000000 in
theorem vL_law_b2120 {G : g_G} {X : g_X} {Q : g_R → g_Hp → Prop} {a0 L : Nat} {xs : Nat → Int32} (C : g_Cx y_ G X iL_law) (hs : g_Scr G X a0 L xs) {k n : Nat} (hk : k + 26 ≤ 603072 ∧ n + 1956 ≤ 7202922) (R28 : Int32 → g_Hp → Prop) (hR28 : ∀ (x5 : Int32) (h : g_Hp), R28 x5 h → g_V G X iL_law 603072 7202922 Q 28 (k + 26) (n + 1956) [(0, vV (.ref a0)), (1, vR 0 0 0), (2, vR 5 0 0), (3, vR 15 0 0), (4, vR 16 0 0), (5, vI x5)] [] h) (x5 : Int32) (h : g_Hp) (H : wL_law_b2120 a0 L xs Q R28 x5 h) : g_V G X iL_law 603072 7202922 Q 2120 (k + 0) (n + 0) [(0, vV (.ref a0)), (1, vR 0 0 0), (2, vR 5 0 0), (3, vR 15 0 0), (4, vR 16 0 0), (5, vI x5)] [] h := by
  refine s_aload_n (pc := 2120) C dL_law_2120 rfl 1 rfl ?_
  refine s_aload_n (pc := 2121) C dL_law_2121 rfl 3 rfl ?_
  refine s_callsH (pc := 2122) (nA := 2) (as := [vR 0 0 0, vR 15 0 0]) (st := []) (stk := [vR 15 0 0, vR 0 0 0]) C (fun l hl => ctL_acceptances l hl _ _ H) (fun _ _ z => z) rfl ⟨⟨kw_1024, kw_57, kw_1026⟩, ⟨by decide, by decide, by decide +kernel⟩, by decide, by decide⟩ kw_1025 rfl (Nat.le_of_ble_eq_true rfl) ⟨rm_le hk.1 (by decide), rm_le hk.2 (by decide)⟩ rfl dL_law_2122 (g_Kq_I (fun u2 h1 H => ?_) (fun E h1 H => H.elim))
  refine s_at (k' := k + 1) (n' := n + 6) (Nat.add_assoc k 0 1) (Nat.add_assoc n 0 6) ?_
  refine s_istore (pc := 2125) (ls' := [(6, vI u2), (0, vV (.ref a0)), (1, vR 0 0 0), (2, vR 5 0 0), (3, vR 15 0 0), (4, vR 16 0 0), (5, vI x5)]) C dL_law_2125 (by decide) rfl ?_
  refine s_aload_n (pc := 2127) C dL_law_2127 rfl 3 rfl ?_
  refine s_callv (pc := 2128) (nA := 0) (as := []) (st := []) (stk := [vR 5 0 0]) ckX8 (Or.inl rfl) C (fun l hl => ctX8_acceptances l hl _ _ H) ⟨⟨kw_1833, kw_69, kw_1836⟩, rfl, ⟨by decide, by decide, by decide +kernel⟩, by decide, by decide⟩ kw_1834 (g_selW kw_1835) rfl (Nat.le_of_ble_eq_true rfl) ⟨rm_le hk.1 (by decide), rm_le hk.2 (by decide)⟩ rfl dL_law_2128 (g_Kq_I (fun u4 h3 H => ?_) (fun E h3 H => H.elim))
  refine s_at (k' := k + 1) (n' := n + 6) (Nat.add_assoc k 1 0) (Nat.add_assoc n 6 0) ?_
  refine s_istore (pc := 2131) (ls' := [(7, vI u4), (6, vI u2), (0, vV (.ref a0)), (1, vR 0 0 0), (2, vR 5 0 0), (3, vR 15 0 0), (4, vR 16 0 0), (5, vI x5)]) C dL_law_2131 (by decide) rfl ?_
  refine s_aload_n (pc := 2133) C dL_law_2133 rfl 4 rfl ?_
  refine s_callv (pc := 2134) (nA := 0) (as := []) (st := []) (stk := [vR 5 0 0]) ckX8 (Or.inl rfl) C (fun l hl => ctX8_thrown l hl _ _ H) ⟨⟨kw_1567, kw_69, kw_1570⟩, rfl, ⟨by decide, by decide, by decide +kernel⟩, by decide, by decide⟩ kw_1568 (g_selW kw_1569) rfl (Nat.le_of_ble_eq_true rfl) ⟨rm_le hk.1 (by decide), rm_le hk.2 (by decide)⟩ rfl dL_law_2134 (g_Kq_I (fun u6 h5 H => ?_) (fun E h5 H => H.elim))
  refine s_at (k' := k + 1) (n' := n + 6) (Nat.add_assoc k 1 0) (Nat.add_assoc n 6 0) ?_
  refine s_iload (pc := 2137) C dL_law_2137 1 rfl ?_
  refine s_icmp_eq (pc := 2139) (tgt := 2144) C dL_law_2139 (by decide) (fun c => ?_) (fun c => ?_)
  · have H := H.1 c
    refine s_iload (pc := 2144) C dL_law_2144 1 rfl ?_
    refine s_if_ne (pc := 2146) (tgt := 2161) C dL_law_2146 (by decide) (fun c => ?_) (fun c => ?_)
    · have H := H.1 c
      exact s_sub (ls' := [(0, vV (.ref a0)), (1, vR 0 0 0), (2, vR 5 0 0), (3, vR 15 0 0), (4, vR 16 0 0), (5, vI x5)]) [2, 3, 4, 5, 6, 7] rfl (vL_law_b2161 C hs hk R28 hR28 x5 h5 H)
    · have H := H.2 c
      refine s_aload_n (pc := 2149) C dL_law_2149 rfl 5 rfl ?_
      refine s_iconst (pc := 2150) C dL_law_2150 (x := (0 : Int32)) (by decide) ?_
      refine s_lald0 (pc := 2151) C dL_law_2151 ?_
      refine s_iload (pc := 2152) C dL_law_2152 0 rfl ?_
      refine s_i2l (pc := 2154) C dL_law_2154 ?_
      refine s_lcmp (pc := 2155) C dL_law_2155 ?_
      refine s_if_eq (pc := 2156) (tgt := 2161) C dL_law_2156 (by decide) (fun c => ?_) (fun c => ?_)
      · have H := H.1 c
        exact s_sub (ls' := [(0, vV (.ref a0)), (1, vR 0 0 0), (2, vR 5 0 0), (3, vR 15 0 0), (4, vR 16 0 0), (5, vI x5)]) [2, 3, 4, 5, 6, 7] rfl (vL_law_b2161 C hs hk R28 hR28 x5 h5 H)
      · have H := H.2 c
        refine s_iconst (pc := 2159) C dL_law_2159 (x := (0 : Int32)) (by decide) ?_
        exact s_iret (pc := 2160) rfl (by decide) ⟨rm_l1 hk.1 (by decide), rm_l1 hk.2 (by decide)⟩ H C dL_law_2160
  · have H := H.2 c
    refine s_iconst (pc := 2142) C dL_law_2142 (x := (0 : Int32)) (by decide) ?_
    exact s_iret (pc := 2143) rfl (by decide) ⟨rm_l1 hk.1 (by decide), rm_l1 hk.2 (by decide)⟩ H C dL_law_2143
set_option maxRecDepth 100000 in
set_option maxHeartbeats 4000000 in
theorem vL_law_b2164 {G : g_G} {X : g_X} {Q : g_R → g_Hp → Prop} {a0 L : Nat} {xs : Nat → Int32} (C : g_Cx y_ G X iL_law) (hs : g_Scr G X a0 L xs) {k n : Nat} (hk : k + 26 ≤ 603072 ∧ n + 1956 ≤ 7202922) (R28 : Int32 → g_Hp → Prop) (hR28 : ∀ (x5 : Int32) (h : g_Hp), R28 x5 h → g_V G X iL_law 603072 7202922 Q 28 (k + 26) (n + 1956) [(0, vV (.ref a0)), (1, vR 0 0 0), (2, vR 5 0 0), (3, vR 15 0 0), (4, vR 16 0 0), (5, vI x5)] [] h) (x5 : Int32) (h : g_Hp) (H : wL_law_b2164 a0 L xs Q R28 x5 h) : g_V G X iL_law 603072 7202922 Q 2164 (k + 0) (n + 0) [(0, vV (.ref a0)), (1, vR 0 0 0), (2, vR 5 0 0), (3, vR 15 0 0), (4, vR 16 0 0), (5, vI x5)] [] h := by
  refine s_aload_n (pc := 2164) C dL_law_2164 rfl 1 rfl ?_
  refine s_aload_nQ (pc := 2165) C dL_law_2165 rfl 0 rfl ?_
  refine s_iload (pc := 2166) C dL_law_2166 5 rfl ?_
  refine s_iconst (pc := 2168) C dL_law_2168 (x := (1 : Int32)) (by decide) ?_
  refine s_iadd (pc := 2169) C dL_law_2169 ?_
  refine s_sld (pc := 2170) hs H.1 C dL_law_2170 ?_
  have H := H.2
  refine s_aload_n (pc := 2171) C dL_law_2171 rfl 3 rfl ?_
  refine s_callsH (pc := 2172) (nA := 3) (as := [vR 0 0 0, vI (xs (x5 + (1 : Int32)).toNatClampNeg), vR 15 0 0]) (st := []) (stk := [vR 15 0 0, vI (xs (x5 + (1 : Int32)).toNatClampNeg), vR 0 0 0]) C (fun l hl => ctL_offeredRate l hl (xs (x5 + (1 : Int32)).toNatClampNeg) _ _ H) (fun _ _ z => z) rfl ⟨⟨kw_1032, kw_57, kw_1034⟩, ⟨by decide, by decide, by decide +kernel⟩, by decide, by decide⟩ kw_1033 rfl (Nat.le_of_ble_eq_true rfl) ⟨rm_le hk.1 (by decide), rm_le hk.2 (by decide)⟩ rfl dL_law_2172 (g_Kq_I (fun u2 h1 H => ?_) (fun E h1 H => H.elim))
  refine s_at (k' := k + 2) (n' := n + 12) (Nat.add_assoc k 0 2) (Nat.add_assoc n 0 12) ?_
  refine s_istore (pc := 2175) (ls' := [(6, vI u2), (0, vV (.ref a0)), (1, vR 0 0 0), (2, vR 5 0 0), (3, vR 15 0 0), (4, vR 16 0 0), (5, vI x5)]) C dL_law_2175 (by decide) rfl ?_
  refine s_aload_n (pc := 2177) C dL_law_2177 rfl 3 rfl ?_
  refine s_aload_nQ (pc := 2178) C dL_law_2178 rfl 1 rfl ?_
  refine s_iload (pc := 2179) C dL_law_2179 6 rfl ?_
  refine s_iconst (pc := 2181) C dL_law_2181 (x := (1 : Int32)) (by decide) ?_
  refine s_iadd (pc := 2182) C dL_law_2182 ?_
  refine s_sld (pc := 2183) hs H.1 C dL_law_2183 ?_
  have H := H.2
  refine s_callv (pc := 2184) (nA := 1) (as := [vI (xs (x5 + (1 : Int32)).toNatClampNeg)]) (st := []) (stk := [vI (xs (x5 + (1 : Int32)).toNatClampNeg), vR 5 0 0]) ckX8 (Or.inl rfl) C (fun l hl => ctX8_offeredRate l hl (xs (x5 + (1 : Int32)).toNatClampNeg) _ _ H) ⟨⟨kw_1837, kw_69, kw_1840⟩, rfl, ⟨by decide, by decide, by decide +kernel⟩, by decide, by decide⟩ kw_1838 (g_selW kw_1839) rfl (Nat.le_of_ble_eq_true rfl) ⟨rm_le hk.1 (by decide), rm_le hk.2 (by decide)⟩ rfl dL_law_2184 (g_Kq_I (fun u4 h3 H => ?_) (fun E h3 H => H.elim))
  refine s_at (k' := k + 2) (n' := n + 12) (Nat.add_assoc k 2 0) (Nat.add_assoc n 12 0) ?_
  refine s_istore (pc := 2187) (ls' := [(7, vI u4), (6, vI u2), (0, vV (.ref a0)), (1, vR 0 0 0), (2, vR 5 0 0), (3, vR 15 0 0), (4, vR 16 0 0), (5, vI x5)]) C dL_law_2187 (by decide) rfl ?_
  refine s_aload_n (pc := 2189) C dL_law_2189 rfl 4 rfl ?_
  refine s_callv (pc := 2190) (nA := 0) (as := []) (st := []) (stk := [vR 5 0 0]) ckX8 (Or.inl rfl) C (fun l hl => ctX8_thrown l hl _ _ H) ⟨⟨kw_1567, kw_69, kw_1570⟩, rfl, ⟨by decide, by decide, by decide +kernel⟩, by decide, by decide⟩ kw_1568 (g_selW kw_1569) rfl (Nat.le_of_ble_eq_true rfl) ⟨rm_le hk.1 (by decide), rm_le hk.2 (by decide)⟩ rfl dL_law_2190 (g_Kq_I (fun u6 h5 H => ?_) (fun E h5 H => H.elim))
  refine s_at (k' := k + 2) (n' := n + 12) (Nat.add_assoc k 2 0) (Nat.add_assoc n 12 0) ?_
  refine s_iload (pc := 2193) C dL_law_2193 1 rfl ?_
  refine s_icmp_eq (pc := 2195) (tgt := 2200) C dL_law_2195 (by decide) (fun c => ?_) (fun c => ?_)
  · have H := H.1 c
    refine s_iload (pc := 2200) C dL_law_2200 1 rfl ?_
    refine s_if_ne (pc := 2202) (tgt := 2217) C dL_law_2202 (by decide) (fun c => ?_) (fun c => ?_)
    · have H := H.1 c
      exact s_sub (ls' := [(0, vV (.ref a0)), (1, vR 0 0 0), (2, vR 5 0 0), (3, vR 15 0 0), (4, vR 16 0 0), (5, vI x5)]) [2, 3, 4, 5, 6, 7] rfl (vL_law_b2217 C hs hk R28 hR28 x5 h5 H)
    · have H := H.2 c
      refine s_aload_n (pc := 2205) C dL_law_2205 rfl 5 rfl ?_
      refine s_iconst (pc := 2206) C dL_law_2206 (x := (0 : Int32)) (by decide) ?_
      refine s_lald0 (pc := 2207) C dL_law_2207 ?_
      refine s_iload (pc := 2208) C dL_law_2208 0 rfl ?_
      refine s_i2l (pc := 2210) C dL_law_2210 ?_
      refine s_lcmp (pc := 2211) C dL_law_2211 ?_
      refine s_if_eq (pc := 2212) (tgt := 2217) C dL_law_2212 (by decide) (fun c => ?_) (fun c => ?_)
      · have H := H.1 c
        exact s_sub (ls' := [(0, vV (.ref a0)), (1, vR 0 0 0), (2, vR 5 0 0), (3, vR 15 0 0), (4, vR 16 0 0), (5, vI x5)]) [2, 3, 4, 5, 6, 7] rfl (vL_law_b2217 C hs hk R28 hR28 x5 h5 H)
      · have H := H.2 c
        refine s_iconst (pc := 2215) C dL_law_2215 (x := (0 : Int32)) (by decide) ?_
        exact s_iret (pc := 2216) rfl (by decide) ⟨rm_l1 hk.1 (by decide), rm_l1 hk.2 (by decide)⟩ H C dL_law_2216
  · have H := H.2 c
    refine s_iconst (pc := 2198) C dL_law_2198 (x := (0 : Int32)) (by decide) ?_
    exact s_iret (pc := 2199) rfl (by decide) ⟨rm_l1 hk.1 (by decide), rm_l1 hk.2 (by decide)⟩ H C dL_law_2199
set_option maxRecDepth 100000 in
set_option maxHeartbeats 4000000 in
theorem vL_law_b2220 {G : g_G} {X : g_X} {Q : g_R → g_Hp → Prop} {a0 L : Nat} {xs : Nat → Int32} (C : g_Cx y_ G X iL_law) (hs : g_Scr G X a0 L xs) {k n : Nat} (hk : k + 26 ≤ 603072 ∧ n + 1956 ≤ 7202922) (R28 : Int32 → g_Hp → Prop) (hR28 : ∀ (x5 : Int32) (h : g_Hp), R28 x5 h → g_V G X iL_law 603072 7202922 Q 28 (k + 26) (n + 1956) [(0, vV (.ref a0)), (1, vR 0 0 0), (2, vR 5 0 0), (3, vR 15 0 0), (4, vR 16 0 0), (5, vI x5)] [] h) (x5 : Int32) (h : g_Hp) (H : wL_law_b2220 a0 L xs Q R28 x5 h) : g_V G X iL_law 603072 7202922 Q 2220 (k + 0) (n + 0) [(0, vV (.ref a0)), (1, vR 0 0 0), (2, vR 5 0 0), (3, vR 15 0 0), (4, vR 16 0 0), (5, vI x5)] [] h := by
  refine s_aload_n (pc := 2220) C dL_law_2220 rfl 1 rfl ?_
  refine s_callv (pc := 2221) (nA := 0) (as := []) (st := []) (stk := [vR 0 0 0]) ckX7 (Or.inl rfl) C (fun l hl => ctX7_wageTotal l hl _ _ H) ⟨⟨kw_367, kw_58, kw_370⟩, rfl, ⟨by decide, by decide, by decide +kernel⟩, by decide, by decide⟩ kw_368 (g_selW kw_369) rfl (Nat.le_of_ble_eq_true rfl) ⟨rm_le hk.1 (by decide), rm_le hk.2 (by decide)⟩ rfl dL_law_2221 (g_Kq_L (fun u2 h1 H => ?_) (fun E h1 H => H.elim))
  refine s_at (k' := k + 0) (n' := n + 0) (Nat.add_assoc k 0 0) (Nat.add_assoc n 0 0) ?_
  refine s_aload_n (pc := 2224) C dL_law_2224 rfl 2 rfl ?_
  refine s_callv (pc := 2225) (nA := 0) (as := []) (st := [vV (.long u2)]) (stk := [vR 5 0 0, vV (.long u2)]) ckX8 (Or.inl rfl) C (fun l hl => ctX8_wageTotal l hl _ _ H) ⟨⟨kw_1841, kw_69, kw_1844⟩, rfl, ⟨by decide, by decide, by decide +kernel⟩, by decide, by decide⟩ kw_1842 (g_selW kw_1843) rfl (Nat.le_of_ble_eq_true rfl) ⟨rm_le hk.1 (by decide), rm_le hk.2 (by decide)⟩ rfl dL_law_2225 (g_Kq_L (fun u4 h3 H => ?_) (fun E h3 H => H.elim))
  refine s_at (k' := k + 0) (n' := n + 0) (Nat.add_assoc k 0 0) (Nat.add_assoc n 0 0) ?_
  refine s_lcmp (pc := 2228) C dL_law_2228 ?_
  refine s_if_eq (pc := 2229) (tgt := 2767) C dL_law_2229 (by decide) (fun c => ?_) (fun c => ?_)
  · have H := H.1 c
    exact s_wide (k' := k + 26) (n' := n + 1956) (Nat.add_le_add_left (by decide) k) (Nat.add_le_add_left (by decide) n) <| s_sub (ls' := [(0, vV (.ref a0)), (1, vR 0 0 0), (2, vR 5 0 0), (3, vR 15 0 0), (4, vR 16 0 0), (5, vI x5)]) [0, 1, 2, 3, 4, 5] rfl (vL_law_b2767 C hs hk R28 hR28 x5 h3 H)
  · have H := H.2 c
    refine s_iconst (pc := 2232) C dL_law_2232 (x := (0 : Int32)) (by decide) ?_
    exact s_iret (pc := 2233) rfl (by decide) ⟨rm_l1 hk.1 (by decide), rm_l1 hk.2 (by decide)⟩ H C dL_law_2233
set_option maxRecDepth 100000 in
set_option maxHeartbeats 4000000 in
theorem vL_law_b2234 {G : g_G} {X : g_X} {Q : g_R → g_Hp → Prop} {a0 L : Nat} {xs : Nat → Int32} (C : g_Cx y_ G X iL_law) (hs : g_Scr G X a0 L xs) {k n : Nat} (hk : k + 26 ≤ 603072 ∧ n + 1956 ≤ 7202922) (R28 : Int32 → g_Hp → Prop) (hR28 : ∀ (x5 : Int32) (h : g_Hp), R28 x5 h → g_V G X iL_law 603072 7202922 Q 28 (k + 26) (n + 1956) [(0, vV (.ref a0)), (1, vR 0 0 0), (2, vR 5 0 0), (3, vR 15 0 0), (4, vR 16 0 0), (5, vI x5)] [] h) (x5 : Int32) (h : g_Hp) (H : wL_law_b2234 a0 L xs Q R28 x5 h) : g_V G X iL_law 603072 7202922 Q 2234 (k + 0) (n + 0) [(0, vV (.ref a0)), (1, vR 0 0 0), (2, vR 5 0 0), (3, vR 15 0 0), (4, vR 16 0 0), (5, vI x5)] [] h := by
  refine s_aload_n (pc := 2234) C dL_law_2234 rfl 1 rfl ?_
  refine s_callv (pc := 2235) (nA := 0) (as := []) (st := []) (stk := [vR 0 0 0]) ckX7 (Or.inl rfl) C (fun l hl => ctX7_lostTotal l hl _ _ H) ⟨⟨kw_375, kw_58, kw_378⟩, rfl, ⟨by decide, by decide, by decide +kernel⟩, by decide, by decide⟩ kw_376 (g_selW kw_377) rfl (Nat.le_of_ble_eq_true rfl) ⟨rm_le hk.1 (by decide), rm_le hk.2 (by decide)⟩ rfl dL_law_2235 (g_Kq_I (fun u2 h1 H => ?_) (fun E h1 H => H.elim))
  refine s_at (k' := k + 0) (n' := n + 0) (Nat.add_assoc k 0 0) (Nat.add_assoc n 0 0) ?_
  refine s_aload_n (pc := 2238) C dL_law_2238 rfl 2 rfl ?_
  refine s_callv (pc := 2239) (nA := 0) (as := []) (st := [vI u2]) (stk := [vR 5 0 0, vI u2]) ckX8 (Or.inl rfl) C (fun l hl => ctX8_lostTotal l hl _ _ H) ⟨⟨kw_1845, kw_69, kw_1848⟩, rfl, ⟨by decide, by decide, by decide +kernel⟩, by decide, by decide⟩ kw_1846 (g_selW kw_1847) rfl (Nat.le_of_ble_eq_true rfl) ⟨rm_le hk.1 (by decide), rm_le hk.2 (by decide)⟩ rfl dL_law_2239 (g_Kq_I (fun u4 h3 H => ?_) (fun E h3 H => H.elim))
  refine s_at (k' := k + 0) (n' := n + 0) (Nat.add_assoc k 0 0) (Nat.add_assoc n 0 0) ?_
  refine s_icmp_eq (pc := 2242) (tgt := 2767) C dL_law_2242 (by decide) (fun c => ?_) (fun c => ?_)
  · have H := H.1 c
    exact s_wide (k' := k + 26) (n' := n + 1956) (Nat.add_le_add_left (by decide) k) (Nat.add_le_add_left (by decide) n) <| s_sub (ls' := [(0, vV (.ref a0)), (1, vR 0 0 0), (2, vR 5 0 0), (3, vR 15 0 0), (4, vR 16 0 0), (5, vI x5)]) [0, 1, 2, 3, 4, 5] rfl (vL_law_b2767 C hs hk R28 hR28 x5 h3 H)
  · have H := H.2 c
    refine s_iconst (pc := 2245) C dL_law_2245 (x := (0 : Int32)) (by decide) ?_
    exact s_iret (pc := 2246) rfl (by decide) ⟨rm_l1 hk.1 (by decide), rm_l1 hk.2 (by decide)⟩ H C dL_law_2246
