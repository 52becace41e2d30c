/-! the law: the loop, the whole body -/
set_option maxRecDepth 100000 in
set_option maxHeartbeats 4000000 in
theorem vL_law_b28_B {G : g_G} {X : g_X} {Q : g_R → g_Hp → Prop} {a0 L : Nat} {xs : Nat → Int32} (C : g_Cx y_ G X iL_law) (hs : g_Scr G X a0 L xs) {k n : Nat} (hk : k + 26 ≤ 603072 ∧ n + 1956 ≤ 7202922) (R28 : Int32 → g_Hp → Prop) (hR28 : ∀ (x5 : Int32) (h : g_Hp), R28 x5 h → g_V G X iL_law 603072 7202922 Q 28 (k + 26) (n + 1956) [(0, vV (.ref a0)), (1, vR 0 0 0), (2, vR 5 0 0), (3, vR 15 0 0), (4, vR 16 0 0), (5, vI x5)] [] h) (x5 : Int32) (h : g_Hp) (H : wL_law_b28_B a0 L xs Q R28 x5 h) : g_V G X iL_law 603072 7202922 Q 28 (k + 0) (n + 0) [(0, vV (.ref a0)), (1, vR 0 0 0), (2, vR 5 0 0), (3, vR 15 0 0), (4, vR 16 0 0), (5, vI x5)] [] h := by
  refine s_iload (pc := 28) C dL_law_28 5 rfl ?_
  refine s_aload_nQ (pc := 30) C dL_law_30 rfl 0 rfl ?_
  refine s_sln (pc := 31) hs C dL_law_31 ?_
  refine s_iconst (pc := 32) C dL_law_32 (x := (3 : Int32)) (by decide) ?_
  refine s_isub (pc := 33) C dL_law_33 ?_
  refine s_icmp_gt (pc := 34) (tgt := 2773) C dL_law_34 (by decide) (fun c => ?_) (fun c => ?_)
  · have H := H.1 c
    refine s_iconst (pc := 2773) C dL_law_2773 (x := (1 : Int32)) (by decide) ?_
    exact s_iret (pc := 2774) rfl (by decide) ⟨rm_l1 hk.1 (by decide), rm_l1 hk.2 (by decide)⟩ H C dL_law_2774
  · have H := H.2 c
    refine s_aload_nQ (pc := 37) C dL_law_37 rfl 0 rfl ?_
    refine s_iload (pc := 38) C dL_law_38 5 rfl ?_
    refine s_sld (pc := 40) hs H.1 C dL_law_40 ?_
    have H := H.2
    refine s_bipush (pc := 41) C dL_law_41 (x := (63 : Int32)) (by decide) ?_
    refine s_iand (pc := 43) C dL_law_43 ?_
    refine s_tsw (pc := 44) (tgtD := 2767) C dL_law_44 (by decide) (fun c => ?_) (fun n9 c => ?_)
    · have H := H.1 c
      exact s_wide (k' := k + 26) (n' := n + 1956) (Nat.add_le_add_left (by decide) k) (Nat.add_le_add_left (by decide) n) <| s_sub (ls' := [(0, vV (.ref a0)), (1, vR 0 0 0), (2, vR 5 0 0), (3, vR 15 0 0), (4, vR 16 0 0), (5, vI x5)]) [0, 1, 2, 3, 4, 5] rfl (vL_law_b2767 C hs hk R28 hR28 x5 h H)
    · have H := H.2
      match n9, c with
      | 0, c =>
        refine ⟨240, 284, rfl, by decide, ?_⟩
        have H := H.1 c.1
        exact s_sub (ls' := [(0, vV (.ref a0)), (1, vR 0 0 0), (2, vR 5 0 0), (3, vR 15 0 0), (4, vR 16 0 0), (5, vI x5)]) [0, 1, 2, 3, 4, 5] rfl (vL_law_b284 C hs hk R28 hR28 x5 h H)
      | 1, c =>
        refine ⟨308, 352, rfl, by decide, ?_⟩
        have H := H.2.1 c.1
        exact s_sub (ls' := [(0, vV (.ref a0)), (1, vR 0 0 0), (2, vR 5 0 0), (3, vR 15 0 0), (4, vR 16 0 0), (5, vI x5)]) [0, 1, 2, 3, 4, 5] rfl (vL_law_b352 C hs hk R28 hR28 x5 h H)
      | 2, c =>
        refine ⟨321, 365, rfl, by decide, ?_⟩
        have H := H.2.2.1 c.1
        exact s_sub (ls' := [(0, vV (.ref a0)), (1, vR 0 0 0), (2, vR 5 0 0), (3, vR 15 0 0), (4, vR 16 0 0), (5, vI x5)]) [0, 1, 2, 3, 4, 5] rfl (vL_law_b365 C hs hk R28 hR28 x5 h H)
      | 3, c =>
        refine ⟨377, 421, rfl, by decide, ?_⟩
        have H := H.2.2.2.1 c.1
        exact s_sub (ls' := [(0, vV (.ref a0)), (1, vR 0 0 0), (2, vR 5 0 0), (3, vR 15 0 0), (4, vR 16 0 0), (5, vI x5)]) [0, 1, 2, 3, 4, 5] rfl (vL_law_b421 C hs hk R28 hR28 x5 h H)
      | 4, c =>
        refine ⟨433, 477, rfl, by decide, ?_⟩
        have H := H.2.2.2.2.1 c.1
        exact s_sub (ls' := [(0, vV (.ref a0)), (1, vR 0 0 0), (2, vR 5 0 0), (3, vR 15 0 0), (4, vR 16 0 0), (5, vI x5)]) [0, 1, 2, 3, 4, 5] rfl (vL_law_b477 C hs hk R28 hR28 x5 h H)
      | 5, c =>
        refine ⟨489, 533, rfl, by decide, ?_⟩
        have H := H.2.2.2.2.2.1 c.1
        exact s_sub (ls' := [(0, vV (.ref a0)), (1, vR 0 0 0), (2, vR 5 0 0), (3, vR 15 0 0), (4, vR 16 0 0), (5, vI x5)]) [0, 1, 2, 3, 4, 5] rfl (vL_law_b533 C hs hk R28 hR28 x5 h H)
      | 6, c =>
        refine ⟨545, 589, rfl, by decide, ?_⟩
        have H := H.2.2.2.2.2.2.1 c.1
        exact s_sub (ls' := [(0, vV (.ref a0)), (1, vR 0 0 0), (2, vR 5 0 0), (3, vR 15 0 0), (4, vR 16 0 0), (5, vI x5)]) [0, 1, 2, 3, 4, 5] rfl (vL_law_b589 C hs hk R28 hR28 x5 h H)
      | 7, c =>
        refine ⟨601, 645, rfl, by decide, ?_⟩
        have H := H.2.2.2.2.2.2.2.1 c.1
        exact s_sub (ls' := [(0, vV (.ref a0)), (1, vR 0 0 0), (2, vR 5 0 0), (3, vR 15 0 0), (4, vR 16 0 0), (5, vI x5)]) [0, 1, 2, 3, 4, 5] rfl (vL_law_b645 C hs hk R28 hR28 x5 h H)
      | 8, c =>
        refine ⟨657, 701, rfl, by decide, ?_⟩
        have H := H.2.2.2.2.2.2.2.2.1 c.1
        exact s_sub (ls' := [(0, vV (.ref a0)), (1, vR 0 0 0), (2, vR 5 0 0), (3, vR 15 0 0), (4, vR 16 0 0), (5, vI x5)]) [0, 1, 2, 3, 4, 5] rfl (vL_law_b701 C hs hk R28 hR28 x5 h H)
      | 9, c =>
        refine ⟨713, 757, rfl, by decide, ?_⟩
        have H := H.2.2.2.2.2.2.2.2.2.1 c.1
        exact s_sub (ls' := [(0, vV (.ref a0)), (1, vR 0 0 0), (2, vR 5 0 0), (3, vR 15 0 0), (4, vR 16 0 0), (5, vI x5)]) [0, 1, 2, 3, 4, 5] rfl (vL_law_b757 C hs hk R28 hR28 x5 h H)
      | 10, c =>
        refine ⟨791, 835, rfl, by decide, ?_⟩
        have H := H.2.2.2.2.2.2.2.2.2.2.1 c.1
        exact s_sub (ls' := [(0, vV (.ref a0)), (1, vR 0 0 0), (2, vR 5 0 0), (3, vR 15 0 0), (4, vR 16 0 0), (5, vI x5)]) [0, 1, 2, 3, 4, 5] rfl (vL_law_b835 C hs hk R28 hR28 x5 h H)
      | 11, c =>
        refine ⟨847, 891, rfl, by decide, ?_⟩
        have H := H.2.2.2.2.2.2.2.2.2.2.2.1 c.1
        exact s_sub (ls' := [(0, vV (.ref a0)), (1, vR 0 0 0), (2, vR 5 0 0), (3, vR 15 0 0), (4, vR 16 0 0), (5, vI x5)]) [0, 1, 2, 3, 4, 5] rfl (vL_law_b891 C hs hk R28 hR28 x5 h H)
      | 12, c =>
        refine ⟨903, 947, rfl, by decide, ?_⟩
        have H := H.2.2.2.2.2.2.2.2.2.2.2.2.1 c.1
        exact s_sub (ls' := [(0, vV (.ref a0)), (1, vR 0 0 0), (2, vR 5 0 0), (3, vR 15 0 0), (4, vR 16 0 0), (5, vI x5)]) [0, 1, 2, 3, 4, 5] rfl (vL_law_b947 C hs hk R28 hR28 x5 h H)
      | 13, c =>
        refine ⟨971, 1015, rfl, by decide, ?_⟩
        have H := H.2.2.2.2.2.2.2.2.2.2.2.2.2.1 c.1
        exact s_sub (ls' := [(0, vV (.ref a0)), (1, vR 0 0 0), (2, vR 5 0 0), (3, vR 15 0 0), (4, vR 16 0 0), (5, vI x5)]) [0, 1, 2, 3, 4, 5] rfl (vL_law_b1015 C hs hk R28 hR28 x5 h H)
      | 14, c =>
        refine ⟨984, 1028, rfl, by decide, ?_⟩
        have H := H.2.2.2.2.2.2.2.2.2.2.2.2.2.2.1 c.1
        exact s_sub (ls' := [(0, vV (.ref a0)), (1, vR 0 0 0), (2, vR 5 0 0), (3, vR 15 0 0), (4, vR 16 0 0), (5, vI x5)]) [0, 1, 2, 3, 4, 5] rfl (vL_law_b1028 C hs hk R28 hR28 x5 h H)
      | 15, c =>
        refine ⟨997, 1041, rfl, by decide, ?_⟩
        have H := H.2.2.2.2.2.2.2.2.2.2.2.2.2.2.2.1 c.1
        exact s_sub (ls' := [(0, vV (.ref a0)), (1, vR 0 0 0), (2, vR 5 0 0), (3, vR 15 0 0), (4, vR 16 0 0), (5, vI x5)]) [0, 1, 2, 3, 4, 5] rfl (vL_law_b1041 C hs hk R28 hR28 x5 h H)
      | 16, c =>
        refine ⟨1053, 1097, rfl, by decide, ?_⟩
        have H := H.2.2.2.2.2.2.2.2.2.2.2.2.2.2.2.2.1 c.1
        exact s_sub (ls' := [(0, vV (.ref a0)), (1, vR 0 0 0), (2, vR 5 0 0), (3, vR 15 0 0), (4, vR 16 0 0), (5, vI x5)]) [0, 1, 2, 3, 4, 5] rfl (vL_law_b1097 C hs hk R28 hR28 x5 h H)
      | 17, c =>
        refine ⟨1109, 1153, rfl, by decide, ?_⟩
        have H := H.2.2.2.2.2.2.2.2.2.2.2.2.2.2.2.2.2.1 c.1
        exact s_sub (ls' := [(0, vV (.ref a0)), (1, vR 0 0 0), (2, vR 5 0 0), (3, vR 15 0 0), (4, vR 16 0 0), (5, vI x5)]) [0, 1, 2, 3, 4, 5] rfl (vL_law_b1153 C hs hk R28 hR28 x5 h H)
      | 18, c =>
        refine ⟨1165, 1209, rfl, by decide, ?_⟩
        have H := H.2.2.2.2.2.2.2.2.2.2.2.2.2.2.2.2.2.2.1 c.1
        exact s_sub (ls' := [(0, vV (.ref a0)), (1, vR 0 0 0), (2, vR 5 0 0), (3, vR 15 0 0), (4, vR 16 0 0), (5, vI x5)]) [0, 1, 2, 3, 4, 5] rfl (vL_law_b1209 C hs hk R28 hR28 x5 h H)
      | 19, c =>
        refine ⟨1178, 1222, rfl, by decide, ?_⟩
        have H := H.2.2.2.2.2.2.2.2.2.2.2.2.2.2.2.2.2.2.2.1 c.1
        exact s_sub (ls' := [(0, vV (.ref a0)), (1, vR 0 0 0), (2, vR 5 0 0), (3, vR 15 0 0), (4, vR 16 0 0), (5, vI x5)]) [0, 1, 2, 3, 4, 5] rfl (vL_law_b1222 C hs hk R28 hR28 x5 h H)
      | 20, c =>
        refine ⟨1191, 1235, rfl, by decide, ?_⟩
        have H := H.2.2.2.2.2.2.2.2.2.2.2.2.2.2.2.2.2.2.2.2.1 c.1
        exact s_sub (ls' := [(0, vV (.ref a0)), (1, vR 0 0 0), (2, vR 5 0 0), (3, vR 15 0 0), (4, vR 16 0 0), (5, vI x5)]) [0, 1, 2, 3, 4, 5] rfl (vL_law_b1235 C hs hk R28 hR28 x5 h H)
      | 21, c =>
        refine ⟨1275, 1319, rfl, by decide, ?_⟩
        have H := H.2.2.2.2.2.2.2.2.2.2.2.2.2.2.2.2.2.2.2.2.2.1 c.1
        exact s_sub (ls' := [(0, vV (.ref a0)), (1, vR 0 0 0), (2, vR 5 0 0), (3, vR 15 0 0), (4, vR 16 0 0), (5, vI x5)]) [0, 1, 2, 3, 4, 5] rfl (vL_law_b1319 C hs hk R28 hR28 x5 h H)
      | 22, c =>
        refine ⟨1288, 1332, rfl, by decide, ?_⟩
        have H := H.2.2.2.2.2.2.2.2.2.2.2.2.2.2.2.2.2.2.2.2.2.2.1 c.1
        exact s_sub (ls' := [(0, vV (.ref a0)), (1, vR 0 0 0), (2, vR 5 0 0), (3, vR 15 0 0), (4, vR 16 0 0), (5, vI x5)]) [0, 1, 2, 3, 4, 5] rfl (vL_law_b1332 C hs hk R28 hR28 x5 h H)
      | 23, c =>
        refine ⟨1351, 1395, rfl, by decide, ?_⟩
        have H := H.2.2.2.2.2.2.2.2.2.2.2.2.2.2.2.2.2.2.2.2.2.2.2.1 c.1
        exact s_sub (ls' := [(0, vV (.ref a0)), (1, vR 0 0 0), (2, vR 5 0 0), (3, vR 15 0 0), (4, vR 16 0 0), (5, vI x5)]) [0, 1, 2, 3, 4, 5] rfl (vL_law_b1395 C hs hk R28 hR28 x5 h H)
      | 24, c =>
        refine ⟨1395, 1439, rfl, by decide, ?_⟩
        have H := H.2.2.2.2.2.2.2.2.2.2.2.2.2.2.2.2.2.2.2.2.2.2.2.2.1 c.1
        exact s_sub (ls' := [(0, vV (.ref a0)), (1, vR 0 0 0), (2, vR 5 0 0), (3, vR 15 0 0), (4, vR 16 0 0), (5, vI x5)]) [0, 1, 2, 3, 4, 5] rfl (vL_law_b1439 C hs hk R28 hR28 x5 h H)
      | 25, c =>
        refine ⟨1408, 1452, rfl, by decide, ?_⟩
        have H := H.2.2.2.2.2.2.2.2.2.2.2.2.2.2.2.2.2.2.2.2.2.2.2.2.2.1 c.1
        exact s_sub (ls' := [(0, vV (.ref a0)), (1, vR 0 0 0), (2, vR 5 0 0), (3, vR 15 0 0), (4, vR 16 0 0), (5, vI x5)]) [0, 1, 2, 3, 4, 5] rfl (vL_law_b1452 C hs hk R28 hR28 x5 h H)
      | 26, c =>
        refine ⟨1452, 1496, rfl, by decide, ?_⟩
        have H := H.2.2.2.2.2.2.2.2.2.2.2.2.2.2.2.2.2.2.2.2.2.2.2.2.2.2.1 c.1
        exact s_sub (ls' := [(0, vV (.ref a0)), (1, vR 0 0 0), (2, vR 5 0 0), (3, vR 15 0 0), (4, vR 16 0 0), (5, vI x5)]) [0, 1, 2, 3, 4, 5] rfl (vL_law_b1496 C hs hk R28 hR28 x5 h H)
      | 27, c =>
        refine ⟨1508, 1552, rfl, by decide, ?_⟩
        have H := H.2.2.2.2.2.2.2.2.2.2.2.2.2.2.2.2.2.2.2.2.2.2.2.2.2.2.2.1 c.1
        exact s_sub (ls' := [(0, vV (.ref a0)), (1, vR 0 0 0), (2, vR 5 0 0), (3, vR 15 0 0), (4, vR 16 0 0), (5, vI x5)]) [0, 1, 2, 3, 4, 5] rfl (vL_law_b1552 C hs hk R28 hR28 x5 h H)
      | 28, c =>
        refine ⟨1521, 1565, rfl, by decide, ?_⟩
        have H := H.2.2.2.2.2.2.2.2.2.2.2.2.2.2.2.2.2.2.2.2.2.2.2.2.2.2.2.2.1 c.1
        exact s_sub (ls' := [(0, vV (.ref a0)), (1, vR 0 0 0), (2, vR 5 0 0), (3, vR 15 0 0), (4, vR 16 0 0), (5, vI x5)]) [0, 1, 2, 3, 4, 5] rfl (vL_law_b1565 C hs hk R28 hR28 x5 h H)
      | 29, c =>
        refine ⟨1565, 1609, rfl, by decide, ?_⟩
        have H := H.2.2.2.2.2.2.2.2.2.2.2.2.2.2.2.2.2.2.2.2.2.2.2.2.2.2.2.2.2.1 c.1
        exact s_sub (ls' := [(0, vV (.ref a0)), (1, vR 0 0 0), (2, vR 5 0 0), (3, vR 15 0 0), (4, vR 16 0 0), (5, vI x5)]) [0, 1, 2, 3, 4, 5] rfl (vL_law_b1609 C hs hk R28 hR28 x5 h H)
      | 30, c =>
        refine ⟨1609, 1653, rfl, by decide, ?_⟩
        have H := H.2.2.2.2.2.2.2.2.2.2.2.2.2.2.2.2.2.2.2.2.2.2.2.2.2.2.2.2.2.2.1 c.1
        exact s_sub (ls' := [(0, vV (.ref a0)), (1, vR 0 0 0), (2, vR 5 0 0), (3, vR 15 0 0), (4, vR 16 0 0), (5, vI x5)]) [0, 1, 2, 3, 4, 5] rfl (vL_law_b1653 C hs hk R28 hR28 x5 h H)
      | 31, c =>
        refine ⟨1677, 1721, rfl, by decide, ?_⟩
        have H := H.2.2.2.2.2.2.2.2.2.2.2.2.2.2.2.2.2.2.2.2.2.2.2.2.2.2.2.2.2.2.2.1 c.1
        exact s_sub (ls' := [(0, vV (.ref a0)), (1, vR 0 0 0), (2, vR 5 0 0), (3, vR 15 0 0), (4, vR 16 0 0), (5, vI x5)]) [0, 1, 2, 3, 4, 5] rfl (vL_law_b1721 C hs hk R28 hR28 x5 h H)
      | 32, c =>
        refine ⟨1733, 1777, rfl, by decide, ?_⟩
        have H := H.2.2.2.2.2.2.2.2.2.2.2.2.2.2.2.2.2.2.2.2.2.2.2.2.2.2.2.2.2.2.2.2.1 c.1
        exact s_sub (ls' := [(0, vV (.ref a0)), (1, vR 0 0 0), (2, vR 5 0 0), (3, vR 15 0 0), (4, vR 16 0 0), (5, vI x5)]) [0, 1, 2, 3, 4, 5] rfl (vL_law_b1777 C hs hk R28 hR28 x5 h H)
      | 33, c =>
        refine ⟨1789, 1833, rfl, by decide, ?_⟩
        have H := H.2.2.2.2.2.2.2.2.2.2.2.2.2.2.2.2.2.2.2.2.2.2.2.2.2.2.2.2.2.2.2.2.2.1 c.1
        exact s_sub (ls' := [(0, vV (.ref a0)), (1, vR 0 0 0), (2, vR 5 0 0), (3, vR 15 0 0), (4, vR 16 0 0), (5, vI x5)]) [0, 1, 2, 3, 4, 5] rfl (vL_law_b1833 C hs hk R28 hR28 x5 h H)
      | 34, c =>
        refine ⟨1857, 1901, rfl, by decide, ?_⟩
        have H := H.2.2.2.2.2.2.2.2.2.2.2.2.2.2.2.2.2.2.2.2.2.2.2.2.2.2.2.2.2.2.2.2.2.2.1 c.1
        exact s_sub (ls' := [(0, vV (.ref a0)), (1, vR 0 0 0), (2, vR 5 0 0), (3, vR 15 0 0), (4, vR 16 0 0), (5, vI x5)]) [0, 1, 2, 3, 4, 5] rfl (vL_law_b1901 C hs hk R28 hR28 x5 h H)
      | 35, c =>
        refine ⟨1913, 1957, rfl, by decide, ?_⟩
        have H := H.2.2.2.2.2.2.2.2.2.2.2.2.2.2.2.2.2.2.2.2.2.2.2.2.2.2.2.2.2.2.2.2.2.2.2.1 c.1
        exact s_sub (ls' := [(0, vV (.ref a0)), (1, vR 0 0 0), (2, vR 5 0 0), (3, vR 15 0 0), (4, vR 16 0 0), (5, vI x5)]) [0, 1, 2, 3, 4, 5] rfl (vL_law_b1957 C hs hk R28 hR28 x5 h H)
      | 36, c =>
        refine ⟨1969, 2013, rfl, by decide, ?_⟩
        have H := H.2.2.2.2.2.2.2.2.2.2.2.2.2.2.2.2.2.2.2.2.2.2.2.2.2.2.2.2.2.2.2.2.2.2.2.2.1 c.1
        exact s_sub (ls' := [(0, vV (.ref a0)), (1, vR 0 0 0), (2, vR 5 0 0), (3, vR 15 0 0), (4, vR 16 0 0), (5, vI x5)]) [0, 1, 2, 3, 4, 5] rfl (vL_law_b2013 C hs hk R28 hR28 x5 h H)
      | 37, c =>
        refine ⟨2032, 2076, rfl, by decide, ?_⟩
        have H := H.2.2.2.2.2.2.2.2.2.2.2.2.2.2.2.2.2.2.2.2.2.2.2.2.2.2.2.2.2.2.2.2.2.2.2.2.2.1 c.1
        exact s_sub (ls' := [(0, vV (.ref a0)), (1, vR 0 0 0), (2, vR 5 0 0), (3, vR 15 0 0), (4, vR 16 0 0), (5, vI x5)]) [0, 1, 2, 3, 4, 5] rfl (vL_law_b2076 C hs hk R28 hR28 x5 h H)
      | 38, c =>
        refine ⟨2076, 2120, rfl, by decide, ?_⟩
        have H := H.2.2.2.2.2.2.2.2.2.2.2.2.2.2.2.2.2.2.2.2.2.2.2.2.2.2.2.2.2.2.2.2.2.2.2.2.2.2.1 c.1
        exact s_sub (ls' := [(0, vV (.ref a0)), (1, vR 0 0 0), (2, vR 5 0 0), (3, vR 15 0 0), (4, vR 16 0 0), (5, vI x5)]) [0, 1, 2, 3, 4, 5] rfl (vL_law_b2120 C hs hk R28 hR28 x5 h H)
      | 39, c =>
        refine ⟨2120, 2164, rfl, by decide, ?_⟩
        have H := H.2.2.2.2.2.2.2.2.2.2.2.2.2.2.2.2.2.2.2.2.2.2.2.2.2.2.2.2.2.2.2.2.2.2.2.2.2.2.2.1 c.1
        exact s_sub (ls' := [(0, vV (.ref a0)), (1, vR 0 0 0), (2, vR 5 0 0), (3, vR 15 0 0), (4, vR 16 0 0), (5, vI x5)]) [0, 1, 2, 3, 4, 5] rfl (vL_law_b2164 C hs hk R28 hR28 x5 h H)
      | 40, c =>
        refine ⟨2176, 2220, rfl, by decide, ?_⟩
        have H := H.2.2.2.2.2.2.2.2.2.2.2.2.2.2.2.2.2.2.2.2.2.2.2.2.2.2.2.2.2.2.2.2.2.2.2.2.2.2.2.2.1 c.1
        exact s_sub (ls' := [(0, vV (.ref a0)), (1, vR 0 0 0), (2, vR 5 0 0), (3, vR 15 0 0), (4, vR 16 0 0), (5, vI x5)]) [0, 1, 2, 3, 4, 5] rfl (vL_law_b2220 C hs hk R28 hR28 x5 h H)
      | 41, c =>
        refine ⟨2190, 2234, rfl, by decide, ?_⟩
        have H := H.2.2.2.2.2.2.2.2.2.2.2.2.2.2.2.2.2.2.2.2.2.2.2.2.2.2.2.2.2.2.2.2.2.2.2.2.2.2.2.2.2.1 c.1
        exact s_sub (ls' := [(0, vV (.ref a0)), (1, vR 0 0 0), (2, vR 5 0 0), (3, vR 15 0 0), (4, vR 16 0 0), (5, vI x5)]) [0, 1, 2, 3, 4, 5] rfl (vL_law_b2234 C hs hk R28 hR28 x5 h H)
      | 42, c =>
        refine ⟨2203, 2247, rfl, by decide, ?_⟩
        have H := H.2.2.2.2.2.2.2.2.2.2.2.2.2.2.2.2.2.2.2.2.2.2.2.2.2.2.2.2.2.2.2.2.2.2.2.2.2.2.2.2.2.2.1 c.1
        exact s_sub (ls' := [(0, vV (.ref a0)), (1, vR 0 0 0), (2, vR 5 0 0), (3, vR 15 0 0), (4, vR 16 0 0), (5, vI x5)]) [0, 1, 2, 3, 4, 5] rfl (vL_law_b2247 C hs hk R28 hR28 x5 h H)
      | 43, c =>
        refine ⟨2216, 2260, rfl, by decide, ?_⟩
        have H := H.2.2.2.2.2.2.2.2.2.2.2.2.2.2.2.2.2.2.2.2.2.2.2.2.2.2.2.2.2.2.2.2.2.2.2.2.2.2.2.2.2.2.2.1 c.1
        exact s_sub (ls' := [(0, vV (.ref a0)), (1, vR 0 0 0), (2, vR 5 0 0), (3, vR 15 0 0), (4, vR 16 0 0), (5, vI x5)]) [0, 1, 2, 3, 4, 5] rfl (vL_law_b2260 C hs hk R28 hR28 x5 h H)
      | 44, c =>
        refine ⟨2229, 2273, rfl, by decide, ?_⟩
        have H := H.2.2.2.2.2.2.2.2.2.2.2.2.2.2.2.2.2.2.2.2.2.2.2.2.2.2.2.2.2.2.2.2.2.2.2.2.2.2.2.2.2.2.2.2.1 c.1
        exact s_sub (ls' := [(0, vV (.ref a0)), (1, vR 0 0 0), (2, vR 5 0 0), (3, vR 15 0 0), (4, vR 16 0 0), (5, vI x5)]) [0, 1, 2, 3, 4, 5] rfl (vL_law_b2273 C hs hk R28 hR28 x5 h H)
      | 45, c =>
        refine ⟨2242, 2286, rfl, by decide, ?_⟩
        have H := H.2.2.2.2.2.2.2.2.2.2.2.2.2.2.2.2.2.2.2.2.2.2.2.2.2.2.2.2.2.2.2.2.2.2.2.2.2.2.2.2.2.2.2.2.2.1 c.1
        exact s_sub (ls' := [(0, vV (.ref a0)), (1, vR 0 0 0), (2, vR 5 0 0), (3, vR 15 0 0), (4, vR 16 0 0), (5, vI x5)]) [0, 1, 2, 3, 4, 5] rfl (vL_law_b2286 C hs hk R28 hR28 x5 h H)
      | 46, c =>
        refine ⟨2300, 2344, rfl, by decide, ?_⟩
        have H := H.2.2.2.2.2.2.2.2.2.2.2.2.2.2.2.2.2.2.2.2.2.2.2.2.2.2.2.2.2.2.2.2.2.2.2.2.2.2.2.2.2.2.2.2.2.2.1 c.1
        exact s_sub (ls' := [(0, vV (.ref a0)), (1, vR 0 0 0), (2, vR 5 0 0), (3, vR 15 0 0), (4, vR 16 0 0), (5, vI x5)]) [0, 1, 2, 3, 4, 5] rfl (vL_law_b2344 C hs hk R28 hR28 x5 h H)
      | 47, c =>
        refine ⟨2344, 2388, rfl, by decide, ?_⟩
        have H := H.2.2.2.2.2.2.2.2.2.2.2.2.2.2.2.2.2.2.2.2.2.2.2.2.2.2.2.2.2.2.2.2.2.2.2.2.2.2.2.2.2.2.2.2.2.2.2.1 c.1
        exact s_sub (ls' := [(0, vV (.ref a0)), (1, vR 0 0 0), (2, vR 5 0 0), (3, vR 15 0 0), (4, vR 16 0 0), (5, vI x5)]) [0, 1, 2, 3, 4, 5] rfl (vL_law_b2388 C hs hk R28 hR28 x5 h H)
      | 48, c =>
        refine ⟨2388, 2432, rfl, by decide, ?_⟩
        have H := H.2.2.2.2.2.2.2.2.2.2.2.2.2.2.2.2.2.2.2.2.2.2.2.2.2.2.2.2.2.2.2.2.2.2.2.2.2.2.2.2.2.2.2.2.2.2.2.2.1 c.1
        exact s_sub (ls' := [(0, vV (.ref a0)), (1, vR 0 0 0), (2, vR 5 0 0), (3, vR 15 0 0), (4, vR 16 0 0), (5, vI x5)]) [0, 1, 2, 3, 4, 5] rfl (vL_law_b2432 C hs hk R28 hR28 x5 h H)
      | 49, c =>
        refine ⟨2432, 2476, rfl, by decide, ?_⟩
        have H := H.2.2.2.2.2.2.2.2.2.2.2.2.2.2.2.2.2.2.2.2.2.2.2.2.2.2.2.2.2.2.2.2.2.2.2.2.2.2.2.2.2.2.2.2.2.2.2.2.2.1 c.1
        exact s_sub (ls' := [(0, vV (.ref a0)), (1, vR 0 0 0), (2, vR 5 0 0), (3, vR 15 0 0), (4, vR 16 0 0), (5, vI x5)]) [0, 1, 2, 3, 4, 5] rfl (vL_law_b2476 C hs hk R28 hR28 x5 h H)
      | 50, c =>
        refine ⟨2488, 2532, rfl, by decide, ?_⟩
        have H := H.2.2.2.2.2.2.2.2.2.2.2.2.2.2.2.2.2.2.2.2.2.2.2.2.2.2.2.2.2.2.2.2.2.2.2.2.2.2.2.2.2.2.2.2.2.2.2.2.2.2.1 c.1
        exact s_sub (ls' := [(0, vV (.ref a0)), (1, vR 0 0 0), (2, vR 5 0 0), (3, vR 15 0 0), (4, vR 16 0 0), (5, vI x5)]) [0, 1, 2, 3, 4, 5] rfl (vL_law_b2532 C hs hk R28 hR28 x5 h H)
      | 51, c =>
        refine ⟨2544, 2588, rfl, by decide, ?_⟩
        have H := H.2.2.2.2.2.2.2.2.2.2.2.2.2.2.2.2.2.2.2.2.2.2.2.2.2.2.2.2.2.2.2.2.2.2.2.2.2.2.2.2.2.2.2.2.2.2.2.2.2.2.2.1 c.1
        exact s_sub (ls' := [(0, vV (.ref a0)), (1, vR 0 0 0), (2, vR 5 0 0), (3, vR 15 0 0), (4, vR 16 0 0), (5, vI x5)]) [0, 1, 2, 3, 4, 5] rfl (vL_law_b2588 C hs hk R28 hR28 x5 h H)
      | 52, c =>
        refine ⟨2609, 2653, rfl, by decide, ?_⟩
        have H := H.2.2.2.2.2.2.2.2.2.2.2.2.2.2.2.2.2.2.2.2.2.2.2.2.2.2.2.2.2.2.2.2.2.2.2.2.2.2.2.2.2.2.2.2.2.2.2.2.2.2.2.2.1 c.1
        exact s_sub (ls' := [(0, vV (.ref a0)), (1, vR 0 0 0), (2, vR 5 0 0), (3, vR 15 0 0), (4, vR 16 0 0), (5, vI x5)]) [0, 1, 2, 3, 4, 5] rfl (vL_law_b2653 C hs hk R28 hR28 x5 h H)
      | 53, c =>
        refine ⟨2622, 2666, rfl, by decide, ?_⟩
        have H := H.2.2.2.2.2.2.2.2.2.2.2.2.2.2.2.2.2.2.2.2.2.2.2.2.2.2.2.2.2.2.2.2.2.2.2.2.2.2.2.2.2.2.2.2.2.2.2.2.2.2.2.2.2.1 c.1
        exact s_sub (ls' := [(0, vV (.ref a0)), (1, vR 0 0 0), (2, vR 5 0 0), (3, vR 15 0 0), (4, vR 16 0 0), (5, vI x5)]) [0, 1, 2, 3, 4, 5] rfl (vL_law_b2666 C hs hk R28 hR28 x5 h H)
      | 54, c =>
        refine ⟨2666, 2710, rfl, by decide, ?_⟩
        have H := H.2.2.2.2.2.2.2.2.2.2.2.2.2.2.2.2.2.2.2.2.2.2.2.2.2.2.2.2.2.2.2.2.2.2.2.2.2.2.2.2.2.2.2.2.2.2.2.2.2.2.2.2.2.2.1 c.1
        exact s_sub (ls' := [(0, vV (.ref a0)), (1, vR 0 0 0), (2, vR 5 0 0), (3, vR 15 0 0), (4, vR 16 0 0), (5, vI x5)]) [0, 1, 2, 3, 4, 5] rfl (vL_law_b2710 C hs hk R28 hR28 x5 h H)
      | 55, c =>
        refine ⟨2679, 2723, rfl, by decide, ?_⟩
        have H := H.2.2.2.2.2.2.2.2.2.2.2.2.2.2.2.2.2.2.2.2.2.2.2.2.2.2.2.2.2.2.2.2.2.2.2.2.2.2.2.2.2.2.2.2.2.2.2.2.2.2.2.2.2.2.2 c.1
        exact s_sub (ls' := [(0, vV (.ref a0)), (1, vR 0 0 0), (2, vR 5 0 0), (3, vR 15 0 0), (4, vR 16 0 0), (5, vI x5)]) [0, 1, 2, 3, 4, 5] rfl (vL_law_b2723 C hs hk R28 hR28 x5 h H)
      | q9 + 56, c => exact absurd c.2 (by omega)
theorem vL_law_b28_I {G : g_G} {X : g_X} {Q : g_R → g_Hp → Prop} {a0 L : Nat} {xs : Nat → Int32} (C : g_Cx y_ G X iL_law) (hs : g_Scr G X a0 L xs) : ∀ (f k n : Nat), k + f * 26 ≤ 603072 → n + f * 1956 ≤ 7202922 → ∀ (x5 : Int32) (h : g_Hp), wL_law_b28_I a0 L xs Q f x5 h → g_V G X iL_law 603072 7202922 Q 28 k n [(0, vV (.ref a0)), (1, vR 0 0 0), (2, vR 5 0 0), (3, vR 15 0 0), (4, vR 16 0 0), (5, vI x5)] [] h
  | 0, _, _, _, _, _, _, H => H.elim
  | f + 1, k, n, h1, h2, x5, h, H => vL_law_b28_B C hs (k := k) (n := n) ⟨by omega, by omega⟩ _ (fun x5 h H => vL_law_b28_I C hs f (k + 26) (n + 1956) (by omega) (by omega) x5 h H) x5 h H
theorem vL_law_b28 {G : g_G} {X : g_X} {Q : g_R → g_Hp → Prop} {a0 L : Nat} {xs : Nat → Int32} (C : g_Cx y_ G X iL_law) (hs : g_Scr G X a0 L xs) (m k n : Nat) (h1 : k + m * 26 ≤ 603072) (h2 : n + m * 1956 ≤ 7202922) (x5 : Int32) (h : g_Hp) (H : ∃ f, f ≤ m ∧ wL_law_b28_I a0 L xs Q f x5 h) : g_V G X iL_law 603072 7202922 Q 28 k n [(0, vV (.ref a0)), (1, vR 0 0 0), (2, vR 5 0 0), (3, vR 15 0 0), (4, vR 16 0 0), (5, vI x5)] [] h := by
  obtain ⟨f, hf, H⟩ := H
  refine vL_law_b28_I C hs f k n (Nat.le_trans (Nat.add_le_add_left (Nat.mul_le_mul_right _ hf) _) h1) (Nat.le_trans (Nat.add_le_add_left (Nat.mul_le_mul_right _ hf) _) h2) x5 h H
set_option maxRecDepth 100000 in
set_option maxHeartbeats 4000000 in
theorem vL_law {G : g_G} {X : g_X} {Q : g_R → g_Hp → Prop} {a0 L : Nat} {xs : Nat → Int32} (C : g_Cx y_ G X iL_law) (hs : g_Scr G X a0 L xs) (h : g_Hp) (H : wL_law a0 L xs h Q) : g_V G X iL_law 603072 7202922 Q 0 0 0 [(0, vV (.ref a0))] [] h := by
  obtain ⟨hf, H⟩ := H
  refine s_new (pc := 0) (i := 0) (j := 0) ckX7 dkX7 ⟨kw_91, kw_92, kw_58⟩ hf ⟨by decide, by decide⟩ C dL_law_0 ?_
  refine s_name (fun h1 eh1 => ?_)
  have H := H h1 eh1
  refine s_dup (pc := 3) C dL_law_3 rfl ?_
  refine s_calli (pc := 4) (nA := 0) (as := []) (st := [vR 40 0 0]) (stk := [vR 40 0 0, vR 40 0 0]) C (fun l hl => ctX7_init l hl _ _ H) ⟨⟨kw_93, kw_58, kw_95⟩, rfl, ⟨by decide, by decide, by decide +kernel⟩, by decide, by decide⟩ kw_94 rfl rfl rfl (Nat.le_of_ble_eq_true rfl) ⟨by decide, by decide⟩ rfl dL_law_4 (g_Kq_V (fun h2 H => ?_) (fun E h2 H => H.elim))
  refine s_unraw (by decide) H.1 ?_
  have H := H.2
  refine s_astore_n (pc := 7) (ls' := [(1, vR 0 0 0), (0, vV (.ref a0))]) C dL_law_7 rfl (by decide) rfl ?_
  obtain ⟨hf, H⟩ := H
  refine s_new (pc := 8) (i := 0) (j := 0) ckX8 dkX8 ⟨kw_1499, kw_1500, kw_69⟩ hf ⟨by decide, by decide⟩ C dL_law_8 ?_
  refine s_name (fun h3 eh3 => ?_)
  have H := H h3 eh3
  refine s_dup (pc := 11) C dL_law_11 rfl ?_
  refine s_calli (pc := 12) (nA := 0) (as := []) (st := [vR 45 0 0]) (stk := [vR 45 0 0, vR 45 0 0]) C (fun l hl => ctX8_init l hl _ _ H) ⟨⟨kw_1501, kw_69, kw_1503⟩, rfl, ⟨by decide, by decide, by decide +kernel⟩, by decide, by decide⟩ kw_1502 rfl rfl rfl (Nat.le_of_ble_eq_true rfl) ⟨by decide, by decide⟩ rfl dL_law_12 (g_Kq_V (fun h4 H => ?_) (fun E h4 H => H.elim))
  refine s_unraw (by decide) H.1 ?_
  have H := H.2
  refine s_astore_n (pc := 15) (ls' := [(2, vR 5 0 0), (1, vR 0 0 0), (0, vV (.ref a0))]) C dL_law_15 rfl (by decide) rfl ?_
  refine s_iconst (pc := 16) C dL_law_16 (x := (1 : Int32)) (by decide) ?_
  refine s_newL (pc := 17) kw_1957 H.1 ⟨by decide, by decide⟩ C dL_law_17 ?_
  have H := H.2
  refine s_name (fun h5 eh5 => ?_)
  have H := H h5 eh5
  refine s_astore_n (pc := 19) (ls' := [(3, vR 15 0 0), (2, vR 5 0 0), (1, vR 0 0 0), (0, vV (.ref a0))]) C dL_law_19 rfl (by decide) rfl ?_
  refine s_iconst (pc := 20) C dL_law_20 (x := (1 : Int32)) (by decide) ?_
  refine s_newD (pc := 21) kw_1958 H.1 ⟨by decide, by decide⟩ C dL_law_21 ?_
  have H := H.2
  refine s_name (fun h6 eh6 => ?_)
  have H := H h6 eh6
  refine s_astore (pc := 23) (ls' := [(4, vR 16 0 0), (3, vR 15 0 0), (2, vR 5 0 0), (1, vR 0 0 0), (0, vV (.ref a0))]) C dL_law_23 (by decide) rfl ?_
  refine s_iconst (pc := 25) C dL_law_25 (x := (0 : Int32)) (by decide) ?_
  refine s_istore (pc := 26) (ls' := [(5, vI (0 : Int32)), (4, vR 16 0 0), (3, vR 15 0 0), (2, vR 5 0 0), (1, vR 0 0 0), (0, vV (.ref a0))]) C dL_law_26 (by decide) rfl ?_
  exact s_sub (ls' := [(0, vV (.ref a0)), (1, vR 0 0 0), (2, vR 5 0 0), (3, vR 15 0 0), (4, vR 16 0 0), (5, vI (0 : Int32))]) [5, 4, 3, 2, 1, 0] rfl (vL_law_b28 C hs 513 185 3903 (by decide) (by decide) (0 : Int32) h6 H)
