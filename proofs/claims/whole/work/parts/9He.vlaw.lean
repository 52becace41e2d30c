/-! the law: cases -/
set_option maxRecDepth 100000 in
set_option maxHeartbeats 4000000 in
theorem vL_law_b1549 {G : g_G} {X : g_X} {Q : g_R → g_Hp → Prop} {a0 L : Nat} {xs : Nat → Int32} (C : g_Cx y_ G X iL_law) (hs : g_Scr G X a0 L xs) {k n : Nat} (hk : k + 26 ≤ 603072 ∧ n + 1956 ≤ 7202922) (R28 : Int32 → g_Hp → Prop) (hR28 : ∀ (x5 : Int32) (h : g_Hp), R28 x5 h → g_V G X iL_law 603072 7202922 Q 28 (k + 26) (n + 1956) [(0, vV (.ref a0)), (1, vR 0 0 0), (2, vR 5 0 0), (3, vR 15 0 0), (4, vR 16 0 0), (5, vI x5)] [] h) (x5 : Int32) (h : g_Hp) (H : wL_law_b1549 a0 L xs Q R28 x5 h) : g_V G X iL_law 603072 7202922 Q 1549 (k + 1) (n + 6) [(0, vV (.ref a0)), (1, vR 0 0 0), (2, vR 5 0 0), (3, vR 15 0 0), (4, vR 16 0 0), (5, vI x5)] [] h := by
  refine s_goto (pc := 1549) (tgt := 2767) C dL_law_1549 (by decide) ?_
  exact s_wide (k' := k + 26) (n' := n + 1956) (Nat.add_le_add_left (by decide) k) (Nat.add_le_add_left (by decide) n) <| s_sub (ls' := [(0, vV (.ref a0)), (1, vR 0 0 0), (2, vR 5 0 0), (3, vR 15 0 0), (4, vR 16 0 0), (5, vI x5)]) [0, 1, 2, 3, 4, 5] rfl (vL_law_b2767 C hs hk R28 hR28 x5 h H)
set_option maxRecDepth 100000 in
set_option maxHeartbeats 4000000 in
theorem vL_law_b1493 {G : g_G} {X : g_X} {Q : g_R → g_Hp → Prop} {a0 L : Nat} {xs : Nat → Int32} (C : g_Cx y_ G X iL_law) (hs : g_Scr G X a0 L xs) {k n : Nat} (hk : k + 26 ≤ 603072 ∧ n + 1956 ≤ 7202922) (R28 : Int32 → g_Hp → Prop) (hR28 : ∀ (x5 : Int32) (h : g_Hp), R28 x5 h → g_V G X iL_law 603072 7202922 Q 28 (k + 26) (n + 1956) [(0, vV (.ref a0)), (1, vR 0 0 0), (2, vR 5 0 0), (3, vR 15 0 0), (4, vR 16 0 0), (5, vI x5)] [] h) (x5 : Int32) (h : g_Hp) (H : wL_law_b1493 a0 L xs Q R28 x5 h) : g_V G X iL_law 603072 7202922 Q 1493 (k + 1) (n + 6) [(0, vV (.ref a0)), (1, vR 0 0 0), (2, vR 5 0 0), (3, vR 15 0 0), (4, vR 16 0 0), (5, vI x5)] [] h := by
  refine s_goto (pc := 1493) (tgt := 2767) C dL_law_1493 (by decide) ?_
  exact s_wide (k' := k + 26) (n' := n + 1956) (Nat.add_le_add_left (by decide) k) (Nat.add_le_add_left (by decide) n) <| s_sub (ls' := [(0, vV (.ref a0)), (1, vR 0 0 0), (2, vR 5 0 0), (3, vR 15 0 0), (4, vR 16 0 0), (5, vI x5)]) [0, 1, 2, 3, 4, 5] rfl (vL_law_b2767 C hs hk R28 hR28 x5 h H)
set_option maxRecDepth 100000 in
set_option maxHeartbeats 4000000 in
theorem vL_law_b1436 {G : g_G} {X : g_X} {Q : g_R → g_Hp → Prop} {a0 L : Nat} {xs : Nat → Int32} (C : g_Cx y_ G X iL_law) (hs : g_Scr G X a0 L xs) {k n : Nat} (hk : k + 26 ≤ 603072 ∧ n + 1956 ≤ 7202922) (R28 : Int32 → g_Hp → Prop) (hR28 : ∀ (x5 : Int32) (h : g_Hp), R28 x5 h → g_V G X iL_law 603072 7202922 Q 28 (k + 26) (n + 1956) [(0, vV (.ref a0)), (1, vR 0 0 0), (2, vR 5 0 0), (3, vR 15 0 0), (4, vR 16 0 0), (5, vI x5)] [] h) (x5 : Int32) (h : g_Hp) (H : wL_law_b1436 a0 L xs Q R28 x5 h) : g_V G X iL_law 603072 7202922 Q 1436 (k + 1) (n + 6) [(0, vV (.ref a0)), (1, vR 0 0 0), (2, vR 5 0 0), (3, vR 15 0 0), (4, vR 16 0 0), (5, vI x5)] [] h := by
  refine s_goto (pc := 1436) (tgt := 2767) C dL_law_1436 (by decide) ?_
  exact s_wide (k' := k + 26) (n' := n + 1956) (Nat.add_le_add_left (by decide) k) (Nat.add_le_add_left (by decide) n) <| s_sub (ls' := [(0, vV (.ref a0)), (1, vR 0 0 0), (2, vR 5 0 0), (3, vR 15 0 0), (4, vR 16 0 0), (5, vI x5)]) [0, 1, 2, 3, 4, 5] rfl (vL_law_b2767 C hs hk R28 hR28 x5 h H)
set_option maxRecDepth 100000 in
set_option maxHeartbeats 4000000 in
theorem vL_law_b1392 {G : g_G} {X : g_X} {Q : g_R → g_Hp → Prop} {a0 L : Nat} {xs : Nat → Int32} (C : g_Cx y_ G X iL_law) (hs : g_Scr G X a0 L xs) {k n : Nat} (hk : k + 26 ≤ 603072 ∧ n + 1956 ≤ 7202922) (R28 : Int32 → g_Hp → Prop) (hR28 : ∀ (x5 : Int32) (h : g_Hp), R28 x5 h → g_V G X iL_law 603072 7202922 Q 28 (k + 26) (n + 1956) [(0, vV (.ref a0)), (1, vR 0 0 0), (2, vR 5 0 0), (3, vR 15 0 0), (4, vR 16 0 0), (5, vI x5)] [] h) (x5 : Int32) (h : g_Hp) (H : wL_law_b1392 a0 L xs Q R28 x5 h) : g_V G X iL_law 603072 7202922 Q 1392 (k + 1) (n + 6) [(0, vV (.ref a0)), (1, vR 0 0 0), (2, vR 5 0 0), (3, vR 15 0 0), (4, vR 16 0 0), (5, vI x5)] [] h := by
  refine s_goto (pc := 1392) (tgt := 2767) C dL_law_1392 (by decide) ?_
  exact s_wide (k' := k + 26) (n' := n + 1956) (Nat.add_le_add_left (by decide) k) (Nat.add_le_add_left (by decide) n) <| s_sub (ls' := [(0, vV (.ref a0)), (1, vR 0 0 0), (2, vR 5 0 0), (3, vR 15 0 0), (4, vR 16 0 0), (5, vI x5)]) [0, 1, 2, 3, 4, 5] rfl (vL_law_b2767 C hs hk R28 hR28 x5 h H)
set_option maxRecDepth 100000 in
set_option maxHeartbeats 4000000 in
theorem vL_law_b1386 {G : g_G} {X : g_X} {Q : g_R → g_Hp → Prop} {a0 L : Nat} {xs : Nat → Int32} (C : g_Cx y_ G X iL_law) (hs : g_Scr G X a0 L xs) {k n : Nat} (hk : k + 26 ≤ 603072 ∧ n + 1956 ≤ 7202922) (R28 : Int32 → g_Hp → Prop) (hR28 : ∀ (x5 : Int32) (h : g_Hp), R28 x5 h → g_V G X iL_law 603072 7202922 Q 28 (k + 26) (n + 1956) [(0, vV (.ref a0)), (1, vR 0 0 0), (2, vR 5 0 0), (3, vR 15 0 0), (4, vR 16 0 0), (5, vI x5)] [] h) (x5 : Int32) (z0 : Int32) (z1 : Int32) (h : g_Hp) (H : wL_law_b1386 a0 L xs Q R28 x5 z0 z1 h) : g_V G X iL_law 603072 7202922 Q 1386 (k + 1) (n + 6) [(0, vV (.ref a0)), (1, vR 0 0 0), (2, vR 5 0 0), (3, vR 15 0 0), (4, vR 16 0 0), (5, vI x5)] [vV (.long (z0).toInt64), vV (.long (z1).toInt64)] h := by
  refine s_lcmp (pc := 1386) C dL_law_1386 ?_
  refine s_if_eq (pc := 1387) (tgt := 1392) C dL_law_1387 (by decide) (fun c => ?_) (fun c => ?_)
  · have H := H.1 c
    exact s_sub (ls' := [(0, vV (.ref a0)), (1, vR 0 0 0), (2, vR 5 0 0), (3, vR 15 0 0), (4, vR 16 0 0), (5, vI x5)]) [0, 1, 2, 3, 4, 5] rfl (vL_law_b1392 C hs hk R28 hR28 x5 h H)
  · have H := H.2 c
    refine s_iconst (pc := 1390) C dL_law_1390 (x := (0 : Int32)) (by decide) ?_
    exact s_iret (pc := 1391) rfl (by decide) ⟨rm_l1 hk.1 (by decide), rm_l1 hk.2 (by decide)⟩ H C dL_law_1391
set_option maxRecDepth 100000 in
set_option maxHeartbeats 4000000 in
theorem vL_law_b1316 {G : g_G} {X : g_X} {Q : g_R → g_Hp → Prop} {a0 L : Nat} {xs : Nat → Int32} (C : g_Cx y_ G X iL_law) (hs : g_Scr G X a0 L xs) {k n : Nat} (hk : k + 26 ≤ 603072 ∧ n + 1956 ≤ 7202922) (R28 : Int32 → g_Hp → Prop) (hR28 : ∀ (x5 : Int32) (h : g_Hp), R28 x5 h → g_V G X iL_law 603072 7202922 Q 28 (k + 26) (n + 1956) [(0, vV (.ref a0)), (1, vR 0 0 0), (2, vR 5 0 0), (3, vR 15 0 0), (4, vR 16 0 0), (5, vI x5)] [] h) (x5 : Int32) (h : g_Hp) (H : wL_law_b1316 a0 L xs Q R28 x5 h) : g_V G X iL_law 603072 7202922 Q 1316 (k + 1) (n + 6) [(0, vV (.ref a0)), (1, vR 0 0 0), (2, vR 5 0 0), (3, vR 15 0 0), (4, vR 16 0 0), (5, vI x5)] [] h := by
  refine s_goto (pc := 1316) (tgt := 2767) C dL_law_1316 (by decide) ?_
  exact s_wide (k' := k + 26) (n' := n + 1956) (Nat.add_le_add_left (by decide) k) (Nat.add_le_add_left (by decide) n) <| s_sub (ls' := [(0, vV (.ref a0)), (1, vR 0 0 0), (2, vR 5 0 0), (3, vR 15 0 0), (4, vR 16 0 0), (5, vI x5)]) [0, 1, 2, 3, 4, 5] rfl (vL_law_b2767 C hs hk R28 hR28 x5 h H)
