/-! the law: cases -/
set_option maxRecDepth 100000 in
set_option maxHeartbeats 4000000 in
theorem vL_law_b284 {G : g_G} {X : g_X} {Q : g_R → g_Hp → Prop} {a0 L : Nat} {xs : Nat → Int32} (C : g_Cx y_ G X iL_law) (hs : g_Scr G X a0 L xs) {k n : Nat} (hk : k + 26 ≤ 603072 ∧ n + 1956 ≤ 7202922) (R28 : Int32 → g_Hp → Prop) (hR28 : ∀ (x5 : Int32) (h : g_Hp), R28 x5 h → g_V G X iL_law 603072 7202922 Q 28 (k + 26) (n + 1956) [(0, vV (.ref a0)), (1, vR 0 0 0), (2, vR 5 0 0), (3, vR 15 0 0), (4, vR 16 0 0), (5, vI x5)] [] h) (x5 : Int32) (h : g_Hp) (H : wL_law_b284 a0 L xs Q R28 x5 h) : g_V G X iL_law 603072 7202922 Q 284 (k + 0) (n + 0) [(0, vV (.ref a0)), (1, vR 0 0 0), (2, vR 5 0 0), (3, vR 15 0 0), (4, vR 16 0 0), (5, vI x5)] [] h := by
  refine s_aload_n (pc := 284) C dL_law_284 rfl 1 rfl ?_
  refine s_aload_nQ (pc := 285) C dL_law_285 rfl 0 rfl ?_
  refine s_iload (pc := 286) C dL_law_286 5 rfl ?_
  refine s_iconst (pc := 288) C dL_law_288 (x := (1 : Int32)) (by decide) ?_
  refine s_iadd (pc := 289) C dL_law_289 ?_
  refine s_sld (pc := 290) hs H.1 C dL_law_290 ?_
  have H := H.2
  refine s_aload_nQ (pc := 291) C dL_law_291 rfl 0 rfl ?_
  refine s_iload (pc := 292) C dL_law_292 5 rfl ?_
  refine s_iconst (pc := 294) C dL_law_294 (x := (2 : Int32)) (by decide) ?_
  refine s_iadd (pc := 295) C dL_law_295 ?_
  refine s_sld (pc := 296) hs H.1 C dL_law_296 ?_
  have H := H.2
  refine s_aload_n (pc := 297) C dL_law_297 rfl 3 rfl ?_
  refine s_callsH (pc := 298) (nA := 4) (as := [vR 0 0 0, vI (xs (x5 + (1 : Int32)).toNatClampNeg), vI (xs (x5 + (2 : Int32)).toNatClampNeg), vR 15 0 0]) (st := []) (stk := [vR 15 0 0, vI (xs (x5 + (2 : Int32)).toNatClampNeg), vI (xs (x5 + (1 : Int32)).toNatClampNeg), vR 0 0 0]) C (fun l hl => ctL_addMember l hl (xs (x5 + (1 : Int32)).toNatClampNeg) (xs (x5 + (2 : Int32)).toNatClampNeg) _ _ H) (fun _ _ z => z) rfl ⟨⟨kw_550, kw_57, kw_552⟩, ⟨by decide, by decide, by decide +kernel⟩, by decide, by decide⟩ kw_551 rfl (Nat.le_of_ble_eq_true rfl) ⟨rm_le hk.1 (by decide), rm_le hk.2 (by decide)⟩ rfl dL_law_298 (g_Kq_I (fun u2 h1 H => ?_) (fun E h1 H => H.elim))
  refine s_at (k' := k + 1) (n' := n + 6) (Nat.add_assoc k 0 1) (Nat.add_assoc n 0 6) ?_
  refine s_istore (pc := 301) (ls' := [(6, vI u2), (0, vV (.ref a0)), (1, vR 0 0 0), (2, vR 5 0 0), (3, vR 15 0 0), (4, vR 16 0 0), (5, vI x5)]) C dL_law_301 (by decide) rfl ?_
  refine s_aload_n (pc := 303) C dL_law_303 rfl 3 rfl ?_
  refine s_aload_nQ (pc := 304) C dL_law_304 rfl 1 rfl ?_
  refine s_iload (pc := 305) C dL_law_305 6 rfl ?_
  refine s_iconst (pc := 307) C dL_law_307 (x := (1 : Int32)) (by decide) ?_
  refine s_iadd (pc := 308) C dL_law_308 ?_
  refine s_sld (pc := 309) hs H.1 C dL_law_309 ?_
  have H := H.2
  refine s_aload_nQ (pc := 310) C dL_law_310 rfl 1 rfl ?_
  refine s_iload (pc := 311) C dL_law_311 6 rfl ?_
  refine s_iconst (pc := 313) C dL_law_313 (x := (2 : Int32)) (by decide) ?_
  refine s_iadd (pc := 314) C dL_law_314 ?_
  refine s_sld (pc := 315) hs H.1 C dL_law_315 ?_
  have H := H.2
  refine s_callv (pc := 316) (nA := 2) (as := [vI (xs (x5 + (1 : Int32)).toNatClampNeg), vI (xs (x5 + (2 : Int32)).toNatClampNeg)]) (st := []) (stk := [vI (xs (x5 + (2 : Int32)).toNatClampNeg), vI (xs (x5 + (1 : Int32)).toNatClampNeg), vR 5 0 0]) ckX8 (Or.inl rfl) C (fun l hl => ctX8_addMember l hl (xs (x5 + (1 : Int32)).toNatClampNeg) (xs (x5 + (2 : Int32)).toNatClampNeg) _ _ H) ⟨⟨kw_1571, kw_69, kw_1574⟩, rfl, ⟨by decide, by decide, by decide +kernel⟩, by decide, by decide⟩ kw_1572 (g_selW kw_1573) rfl (Nat.le_of_ble_eq_true rfl) ⟨rm_le hk.1 (by decide), rm_le hk.2 (by decide)⟩ rfl dL_law_316 (g_Kq_I (fun u4 h3 H => ?_) (fun E h3 H => H.elim))
  refine s_at (k' := k + 1) (n' := n + 6) (Nat.add_assoc k 1 0) (Nat.add_assoc n 6 0) ?_
  refine s_istore (pc := 319) (ls' := [(7, vI u4), (6, vI u2), (0, vV (.ref a0)), (1, vR 0 0 0), (2, vR 5 0 0), (3, vR 15 0 0), (4, vR 16 0 0), (5, vI x5)]) C dL_law_319 (by decide) rfl ?_
  refine s_aload_n (pc := 321) C dL_law_321 rfl 4 rfl ?_
  refine s_callv (pc := 322) (nA := 0) (as := []) (st := []) (stk := [vR 5 0 0]) ckX8 (Or.inl rfl) C (fun l hl => ctX8_thrown l hl _ _ H) ⟨⟨kw_1567, kw_69, kw_1570⟩, rfl, ⟨by decide, by decide, by decide +kernel⟩, by decide, by decide⟩ kw_1568 (g_selW kw_1569) rfl (Nat.le_of_ble_eq_true rfl) ⟨rm_le hk.1 (by decide), rm_le hk.2 (by decide)⟩ rfl dL_law_322 (g_Kq_I (fun u6 h5 H => ?_) (fun E h5 H => H.elim))
  refine s_at (k' := k + 1) (n' := n + 6) (Nat.add_assoc k 1 0) (Nat.add_assoc n 6 0) ?_
  refine s_iload (pc := 325) C dL_law_325 1 rfl ?_
  refine s_icmp_eq (pc := 327) (tgt := 332) C dL_law_327 (by decide) (fun c => ?_) (fun c => ?_)
  · have H := H.1 c
    refine s_iload (pc := 332) C dL_law_332 1 rfl ?_
    refine s_if_ne (pc := 334) (tgt := 349) C dL_law_334 (by decide) (fun c => ?_) (fun c => ?_)
    · have H := H.1 c
      exact s_sub (ls' := [(0, vV (.ref a0)), (1, vR 0 0 0), (2, vR 5 0 0), (3, vR 15 0 0), (4, vR 16 0 0), (5, vI x5)]) [2, 3, 4, 5, 6, 7] rfl (vL_law_b349 C hs hk R28 hR28 x5 h5 H)
    · have H := H.2 c
      refine s_aload_n (pc := 337) C dL_law_337 rfl 5 rfl ?_
      refine s_iconst (pc := 338) C dL_law_338 (x := (0 : Int32)) (by decide) ?_
      refine s_lald0 (pc := 339) C dL_law_339 ?_
      refine s_iload (pc := 340) C dL_law_340 0 rfl ?_
      refine s_i2l (pc := 342) C dL_law_342 ?_
      refine s_lcmp (pc := 343) C dL_law_343 ?_
      refine s_if_eq (pc := 344) (tgt := 349) C dL_law_344 (by decide) (fun c => ?_) (fun c => ?_)
      · have H := H.1 c
        exact s_sub (ls' := [(0, vV (.ref a0)), (1, vR 0 0 0), (2, vR 5 0 0), (3, vR 15 0 0), (4, vR 16 0 0), (5, vI x5)]) [2, 3, 4, 5, 6, 7] rfl (vL_law_b349 C hs hk R28 hR28 x5 h5 H)
      · have H := H.2 c
        refine s_iconst (pc := 347) C dL_law_347 (x := (0 : Int32)) (by decide) ?_
        exact s_iret (pc := 348) rfl (by decide) ⟨rm_l1 hk.1 (by decide), rm_l1 hk.2 (by decide)⟩ H C dL_law_348
  · have H := H.2 c
    refine s_iconst (pc := 330) C dL_law_330 (x := (0 : Int32)) (by decide) ?_
    exact s_iret (pc := 331) rfl (by decide) ⟨rm_l1 hk.1 (by decide), rm_l1 hk.2 (by decide)⟩ H C dL_law_331
set_option maxRecDepth 100000 in
set_option maxHeartbeats 4000000 in
theorem vL_law_b352 {G : g_G} {X : g_X} {Q : g_R → g_Hp → Prop} {a0 L : Nat} {xs : Nat → Int32} (C : g_Cx y_ G X iL_law) (hs : g_Scr G X a0 L xs) {k n : Nat} (hk : k + 26 ≤ 603072 ∧ n + 1956 ≤ 7202922) (R28 : Int32 → g_Hp → Prop) (hR28 : ∀ (x5 : Int32) (h : g_Hp), R28 x5 h → g_V G X iL_law 603072 7202922 Q 28 (k + 26) (n + 1956) [(0, vV (.ref a0)), (1, vR 0 0 0), (2, vR 5 0 0), (3, vR 15 0 0), (4, vR 16 0 0), (5, vI x5)] [] h) (x5 : Int32) (h : g_Hp) (H : wL_law_b352 a0 L xs Q R28 x5 h) : g_V G X iL_law 603072 7202922 Q 352 (k + 0) (n + 0) [(0, vV (.ref a0)), (1, vR 0 0 0), (2, vR 5 0 0), (3, vR 15 0 0), (4, vR 16 0 0), (5, vI x5)] [] h := by
  refine s_aload_n (pc := 352) C dL_law_352 rfl 1 rfl ?_
  refine s_callv (pc := 353) (nA := 0) (as := []) (st := []) (stk := [vR 0 0 0]) ckX7 (Or.inl rfl) C (fun l hl => ctX7_memberCount l hl _ _ H) ⟨⟨kw_331, kw_58, kw_334⟩, rfl, ⟨by decide, by decide, by decide +kernel⟩, by decide, by decide⟩ kw_332 (g_selW kw_333) rfl (Nat.le_of_ble_eq_true rfl) ⟨rm_le hk.1 (by decide), rm_le hk.2 (by decide)⟩ rfl dL_law_353 (g_Kq_I (fun u2 h1 H => ?_) (fun E h1 H => H.elim))
  refine s_at (k' := k + 0) (n' := n + 0) (Nat.add_assoc k 0 0) (Nat.add_assoc n 0 0) ?_
  refine s_aload_n (pc := 356) C dL_law_356 rfl 2 rfl ?_
  refine s_callv (pc := 357) (nA := 0) (as := []) (st := [vI u2]) (stk := [vR 5 0 0, vI u2]) ckX8 (Or.inl rfl) C (fun l hl => ctX8_memberCount l hl _ _ H) ⟨⟨kw_1600, kw_69, kw_1603⟩, rfl, ⟨by decide, by decide, by decide +kernel⟩, by decide, by decide⟩ kw_1601 (g_selW kw_1602) rfl (Nat.le_of_ble_eq_true rfl) ⟨rm_le hk.1 (by decide), rm_le hk.2 (by decide)⟩ rfl dL_law_357 (g_Kq_I (fun u4 h3 H => ?_) (fun E h3 H => H.elim))
  refine s_at (k' := k + 0) (n' := n + 0) (Nat.add_assoc k 0 0) (Nat.add_assoc n 0 0) ?_
  refine s_icmp_eq (pc := 360) (tgt := 2767) C dL_law_360 (by decide) (fun c => ?_) (fun c => ?_)
  · have H := H.1 c
    exact s_wide (k' := k + 26) (n' := n + 1956) (Nat.add_le_add_left (by decide) k) (Nat.add_le_add_left (by decide) n) <| s_sub (ls' := [(0, vV (.ref a0)), (1, vR 0 0 0), (2, vR 5 0 0), (3, vR 15 0 0), (4, vR 16 0 0), (5, vI x5)]) [0, 1, 2, 3, 4, 5] rfl (vL_law_b2767 C hs hk R28 hR28 x5 h3 H)
  · have H := H.2 c
    refine s_iconst (pc := 363) C dL_law_363 (x := (0 : Int32)) (by decide) ?_
    exact s_iret (pc := 364) rfl (by decide) ⟨rm_l1 hk.1 (by decide), rm_l1 hk.2 (by decide)⟩ H C dL_law_364
set_option maxRecDepth 100000 in
set_option maxHeartbeats 4000000 in
theorem vL_law_b365 {G : g_G} {X : g_X} {Q : g_R → g_Hp → Prop} {a0 L : Nat} {xs : Nat → Int32} (C : g_Cx y_ G X iL_law) (hs : g_Scr G X a0 L xs) {k n : Nat} (hk : k + 26 ≤ 603072 ∧ n + 1956 ≤ 7202922) (R28 : Int32 → g_Hp → Prop) (hR28 : ∀ (x5 : Int32) (h : g_Hp), R28 x5 h → g_V G X iL_law 603072 7202922 Q 28 (k + 26) (n + 1956) [(0, vV (.ref a0)), (1, vR 0 0 0), (2, vR 5 0 0), (3, vR 15 0 0), (4, vR 16 0 0), (5, vI x5)] [] h) (x5 : Int32) (h : g_Hp) (H : wL_law_b365 a0 L xs Q R28 x5 h) : g_V G X iL_law 603072 7202922 Q 365 (k + 0) (n + 0) [(0, vV (.ref a0)), (1, vR 0 0 0), (2, vR 5 0 0), (3, vR 15 0 0), (4, vR 16 0 0), (5, vI x5)] [] h := by
  refine s_aload_n (pc := 365) C dL_law_365 rfl 1 rfl ?_
  refine s_aload_nQ (pc := 366) C dL_law_366 rfl 0 rfl ?_
  refine s_iload (pc := 367) C dL_law_367 5 rfl ?_
  refine s_iconst (pc := 369) C dL_law_369 (x := (1 : Int32)) (by decide) ?_
  refine s_iadd (pc := 370) C dL_law_370 ?_
  refine s_sld (pc := 371) hs H.1 C dL_law_371 ?_
  have H := H.2
  refine s_aload_n (pc := 372) C dL_law_372 rfl 3 rfl ?_
  refine s_callsH (pc := 373) (nA := 3) (as := [vR 0 0 0, vI (xs (x5 + (1 : Int32)).toNatClampNeg), vR 15 0 0]) (st := []) (stk := [vR 15 0 0, vI (xs (x5 + (1 : Int32)).toNatClampNeg), vR 0 0 0]) C (fun l hl => ctL_roofOf l hl (xs (x5 + (1 : Int32)).toNatClampNeg) _ _ H) (fun _ _ z => z) rfl ⟨⟨kw_687, kw_57, kw_689⟩, ⟨by decide, by decide, by decide +kernel⟩, by decide, by decide⟩ kw_688 rfl (Nat.le_of_ble_eq_true rfl) ⟨rm_le hk.1 (by decide), rm_le hk.2 (by decide)⟩ rfl dL_law_373 (g_Kq_I (fun u2 h1 H => ?_) (fun E h1 H => H.elim))
  refine s_at (k' := k + 1) (n' := n + 6) (Nat.add_assoc k 0 1) (Nat.add_assoc n 0 6) ?_
  refine s_istore (pc := 376) (ls' := [(6, vI u2), (0, vV (.ref a0)), (1, vR 0 0 0), (2, vR 5 0 0), (3, vR 15 0 0), (4, vR 16 0 0), (5, vI x5)]) C dL_law_376 (by decide) rfl ?_
  refine s_aload_n (pc := 378) C dL_law_378 rfl 3 rfl ?_
  refine s_aload_nQ (pc := 379) C dL_law_379 rfl 1 rfl ?_
  refine s_iload (pc := 380) C dL_law_380 6 rfl ?_
  refine s_iconst (pc := 382) C dL_law_382 (x := (1 : Int32)) (by decide) ?_
  refine s_iadd (pc := 383) C dL_law_383 ?_
  refine s_sld (pc := 384) hs H.1 C dL_law_384 ?_
  have H := H.2
  refine s_callv (pc := 385) (nA := 1) (as := [vI (xs (x5 + (1 : Int32)).toNatClampNeg)]) (st := []) (stk := [vI (xs (x5 + (1 : Int32)).toNatClampNeg), vR 5 0 0]) ckX8 (Or.inl rfl) C (fun l hl => ctX8_roofOf l hl (xs (x5 + (1 : Int32)).toNatClampNeg) _ _ H) ⟨⟨kw_1608, kw_69, kw_1611⟩, rfl, ⟨by decide, by decide, by decide +kernel⟩, by decide, by decide⟩ kw_1609 (g_selW kw_1610) rfl (Nat.le_of_ble_eq_true rfl) ⟨rm_le hk.1 (by decide), rm_le hk.2 (by decide)⟩ rfl dL_law_385 (g_Kq_I (fun u4 h3 H => ?_) (fun E h3 H => H.elim))
  refine s_at (k' := k + 1) (n' := n + 6) (Nat.add_assoc k 1 0) (Nat.add_assoc n 6 0) ?_
  refine s_istore (pc := 388) (ls' := [(7, vI u4), (6, vI u2), (0, vV (.ref a0)), (1, vR 0 0 0), (2, vR 5 0 0), (3, vR 15 0 0), (4, vR 16 0 0), (5, vI x5)]) C dL_law_388 (by decide) rfl ?_
  refine s_aload_n (pc := 390) C dL_law_390 rfl 4 rfl ?_
  refine s_callv (pc := 391) (nA := 0) (as := []) (st := []) (stk := [vR 5 0 0]) ckX8 (Or.inl rfl) C (fun l hl => ctX8_thrown l hl _ _ H) ⟨⟨kw_1567, kw_69, kw_1570⟩, rfl, ⟨by decide, by decide, by decide +kernel⟩, by decide, by decide⟩ kw_1568 (g_selW kw_1569) rfl (Nat.le_of_ble_eq_true rfl) ⟨rm_le hk.1 (by decide), rm_le hk.2 (by decide)⟩ rfl dL_law_391 (g_Kq_I (fun u6 h5 H => ?_) (fun E h5 H => H.elim))
  refine s_at (k' := k + 1) (n' := n + 6) (Nat.add_assoc k 1 0) (Nat.add_assoc n 6 0) ?_
  refine s_iload (pc := 394) C dL_law_394 1 rfl ?_
  refine s_icmp_eq (pc := 396) (tgt := 401) C dL_law_396 (by decide) (fun c => ?_) (fun c => ?_)
  · have H := H.1 c
    refine s_iload (pc := 401) C dL_law_401 1 rfl ?_
    refine s_if_ne (pc := 403) (tgt := 418) C dL_law_403 (by decide) (fun c => ?_) (fun c => ?_)
    · have H := H.1 c
      exact s_sub (ls' := [(0, vV (.ref a0)), (1, vR 0 0 0), (2, vR 5 0 0), (3, vR 15 0 0), (4, vR 16 0 0), (5, vI x5)]) [2, 3, 4, 5, 6, 7] rfl (vL_law_b418 C hs hk R28 hR28 x5 h5 H)
    · have H := H.2 c
      refine s_aload_n (pc := 406) C dL_law_406 rfl 5 rfl ?_
      refine s_iconst (pc := 407) C dL_law_407 (x := (0 : Int32)) (by decide) ?_
      refine s_lald0 (pc := 408) C dL_law_408 ?_
      refine s_iload (pc := 409) C dL_law_409 0 rfl ?_
      refine s_i2l (pc := 411) C dL_law_411 ?_
      refine s_lcmp (pc := 412) C dL_law_412 ?_
      refine s_if_eq (pc := 413) (tgt := 418) C dL_law_413 (by decide) (fun c => ?_) (fun c => ?_)
      · have H := H.1 c
        exact s_sub (ls' := [(0, vV (.ref a0)), (1, vR 0 0 0), (2, vR 5 0 0), (3, vR 15 0 0), (4, vR 16 0 0), (5, vI x5)]) [2, 3, 4, 5, 6, 7] rfl (vL_law_b418 C hs hk R28 hR28 x5 h5 H)
      · have H := H.2 c
        refine s_iconst (pc := 416) C dL_law_416 (x := (0 : Int32)) (by decide) ?_
        exact s_iret (pc := 417) rfl (by decide) ⟨rm_l1 hk.1 (by decide), rm_l1 hk.2 (by decide)⟩ H C dL_law_417
  · have H := H.2 c
    refine s_iconst (pc := 399) C dL_law_399 (x := (0 : Int32)) (by decide) ?_
    exact s_iret (pc := 400) rfl (by decide) ⟨rm_l1 hk.1 (by decide), rm_l1 hk.2 (by decide)⟩ H C dL_law_400
set_option maxRecDepth 100000 in
set_option maxHeartbeats 4000000 in
theorem vL_law_b421 {G : g_G} {X : g_X} {Q : g_R → g_Hp → Prop} {a0 L : Nat} {xs : Nat → Int32} (C : g_Cx y_ G X iL_law) (hs : g_Scr G X a0 L xs) {k n : Nat} (hk : k + 26 ≤ 603072 ∧ n + 1956 ≤ 7202922) (R28 : Int32 → g_Hp → Prop) (hR28 : ∀ (x5 : Int32) (h : g_Hp), R28 x5 h → g_V G X iL_law 603072 7202922 Q 28 (k + 26) (n + 1956) [(0, vV (.ref a0)), (1, vR 0 0 0), (2, vR 5 0 0), (3, vR 15 0 0), (4, vR 16 0 0), (5, vI x5)] [] h) (x5 : Int32) (h : g_Hp) (H : wL_law_b421 a0 L xs Q R28 x5 h) : g_V G X iL_law 603072 7202922 Q 421 (k + 0) (n + 0) [(0, vV (.ref a0)), (1, vR 0 0 0), (2, vR 5 0 0), (3, vR 15 0 0), (4, vR 16 0 0), (5, vI x5)] [] h := by
  refine s_aload_n (pc := 421) C dL_law_421 rfl 1 rfl ?_
  refine s_aload_nQ (pc := 422) C dL_law_422 rfl 0 rfl ?_
  refine s_iload (pc := 423) C dL_law_423 5 rfl ?_
  refine s_iconst (pc := 425) C dL_law_425 (x := (1 : Int32)) (by decide) ?_
  refine s_iadd (pc := 426) C dL_law_426 ?_
  refine s_sld (pc := 427) hs H.1 C dL_law_427 ?_
  have H := H.2
  refine s_aload_n (pc := 428) C dL_law_428 rfl 3 rfl ?_
  refine s_callsH (pc := 429) (nA := 3) (as := [vR 0 0 0, vI (xs (x5 + (1 : Int32)).toNatClampNeg), vR 15 0 0]) (st := []) (stk := [vR 15 0 0, vI (xs (x5 + (1 : Int32)).toNatClampNeg), vR 0 0 0]) C (fun l hl => ctL_membersOn l hl (xs (x5 + (1 : Int32)).toNatClampNeg) _ _ H) (fun _ _ z => z) rfl ⟨⟨kw_694, kw_57, kw_696⟩, ⟨by decide, by decide, by decide +kernel⟩, by decide, by decide⟩ kw_695 rfl (Nat.le_of_ble_eq_true rfl) ⟨rm_le hk.1 (by decide), rm_le hk.2 (by decide)⟩ rfl dL_law_429 (g_Kq_I (fun u2 h1 H => ?_) (fun E h1 H => H.elim))
  refine s_at (k' := k + 1) (n' := n + 6) (Nat.add_assoc k 0 1) (Nat.add_assoc n 0 6) ?_
  refine s_istore (pc := 432) (ls' := [(6, vI u2), (0, vV (.ref a0)), (1, vR 0 0 0), (2, vR 5 0 0), (3, vR 15 0 0), (4, vR 16 0 0), (5, vI x5)]) C dL_law_432 (by decide) rfl ?_
  refine s_aload_n (pc := 434) C dL_law_434 rfl 3 rfl ?_
  refine s_aload_nQ (pc := 435) C dL_law_435 rfl 1 rfl ?_
  refine s_iload (pc := 436) C dL_law_436 6 rfl ?_
  refine s_iconst (pc := 438) C dL_law_438 (x := (1 : Int32)) (by decide) ?_
  refine s_iadd (pc := 439) C dL_law_439 ?_
  refine s_sld (pc := 440) hs H.1 C dL_law_440 ?_
  have H := H.2
  refine s_callv (pc := 441) (nA := 1) (as := [vI (xs (x5 + (1 : Int32)).toNatClampNeg)]) (st := []) (stk := [vI (xs (x5 + (1 : Int32)).toNatClampNeg), vR 5 0 0]) ckX8 (Or.inl rfl) C (fun l hl => ctX8_membersOn l hl (xs (x5 + (1 : Int32)).toNatClampNeg) _ _ H) ⟨⟨kw_1620, kw_69, kw_1623⟩, rfl, ⟨by decide, by decide, by decide +kernel⟩, by decide, by decide⟩ kw_1621 (g_selW kw_1622) rfl (Nat.le_of_ble_eq_true rfl) ⟨rm_le hk.1 (by decide), rm_le hk.2 (by decide)⟩ rfl dL_law_441 (g_Kq_I (fun u4 h3 H => ?_) (fun E h3 H => H.elim))
  refine s_at (k' := k + 1) (n' := n + 6) (Nat.add_assoc k 1 0) (Nat.add_assoc n 6 0) ?_
  refine s_istore (pc := 444) (ls' := [(7, vI u4), (6, vI u2), (0, vV (.ref a0)), (1, vR 0 0 0), (2, vR 5 0 0), (3, vR 15 0 0), (4, vR 16 0 0), (5, vI x5)]) C dL_law_444 (by decide) rfl ?_
  refine s_aload_n (pc := 446) C dL_law_446 rfl 4 rfl ?_
  refine s_callv (pc := 447) (nA := 0) (as := []) (st := []) (stk := [vR 5 0 0]) ckX8 (Or.inl rfl) C (fun l hl => ctX8_thrown l hl _ _ H) ⟨⟨kw_1567, kw_69, kw_1570⟩, rfl, ⟨by decide, by decide, by decide +kernel⟩, by decide, by decide⟩ kw_1568 (g_selW kw_1569) rfl (Nat.le_of_ble_eq_true rfl) ⟨rm_le hk.1 (by decide), rm_le hk.2 (by decide)⟩ rfl dL_law_447 (g_Kq_I (fun u6 h5 H => ?_) (fun E h5 H => H.elim))
  refine s_at (k' := k + 1) (n' := n + 6) (Nat.add_assoc k 1 0) (Nat.add_assoc n 6 0) ?_
  refine s_iload (pc := 450) C dL_law_450 1 rfl ?_
  refine s_icmp_eq (pc := 452) (tgt := 457) C dL_law_452 (by decide) (fun c => ?_) (fun c => ?_)
  · have H := H.1 c
    refine s_iload (pc := 457) C dL_law_457 1 rfl ?_
    refine s_if_ne (pc := 459) (tgt := 474) C dL_law_459 (by decide) (fun c => ?_) (fun c => ?_)
    · have H := H.1 c
      exact s_sub (ls' := [(0, vV (.ref a0)), (1, vR 0 0 0), (2, vR 5 0 0), (3, vR 15 0 0), (4, vR 16 0 0), (5, vI x5)]) [2, 3, 4, 5, 6, 7] rfl (vL_law_b474 C hs hk R28 hR28 x5 h5 H)
    · have H := H.2 c
      refine s_aload_n (pc := 462) C dL_law_462 rfl 5 rfl ?_
      refine s_iconst (pc := 463) C dL_law_463 (x := (0 : Int32)) (by decide) ?_
      refine s_lald0 (pc := 464) C dL_law_464 ?_
      refine s_iload (pc := 465) C dL_law_465 0 rfl ?_
      refine s_i2l (pc := 467) C dL_law_467 ?_
      refine s_lcmp (pc := 468) C dL_law_468 ?_
      refine s_if_eq (pc := 469) (tgt := 474) C dL_law_469 (by decide) (fun c => ?_) (fun c => ?_)
      · have H := H.1 c
        exact s_sub (ls' := [(0, vV (.ref a0)), (1, vR 0 0 0), (2, vR 5 0 0), (3, vR 15 0 0), (4, vR 16 0 0), (5, vI x5)]) [2, 3, 4, 5, 6, 7] rfl (vL_law_b474 C hs hk R28 hR28 x5 h5 H)
      · have H := H.2 c
        refine s_iconst (pc := 472) C dL_law_472 (x := (0 : Int32)) (by decide) ?_
        exact s_iret (pc := 473) rfl (by decide) ⟨rm_l1 hk.1 (by decide), rm_l1 hk.2 (by decide)⟩ H C dL_law_473
  · have H := H.2 c
    refine s_iconst (pc := 455) C dL_law_455 (x := (0 : Int32)) (by decide) ?_
    exact s_iret (pc := 456) rfl (by decide) ⟨rm_l1 hk.1 (by decide), rm_l1 hk.2 (by decide)⟩ H C dL_law_456
set_option maxRecDepth 100000 in
set_option maxHeartbeats 4000000 in
theorem vL_law_b477 {G : g_G} {X : g_X} {Q : g_R → g_Hp → Prop} {a0 L : Nat} {xs : Nat → Int32} (C : g_Cx y_ G X iL_law) (hs : g_Scr G X a0 L xs) {k n : Nat} (hk : k + 26 ≤ 603072 ∧ n + 1956 ≤ 7202922) (R28 : Int32 → g_Hp → Prop) (hR28 : ∀ (x5 : Int32) (h : g_Hp), R28 x5 h → g_V G X iL_law 603072 7202922 Q 28 (k + 26) (n + 1956) [(0, vV (.ref a0)), (1, vR 0 0 0), (2, vR 5 0 0), (3, vR 15 0 0), (4, vR 16 0 0), (5, vI x5)] [] h) (x5 : Int32) (h : g_Hp) (H : wL_law_b477 a0 L xs Q R28 x5 h) : g_V G X iL_law 603072 7202922 Q 477 (k + 0) (n + 0) [(0, vV (.ref a0)), (1, vR 0 0 0), (2, vR 5 0 0), (3, vR 15 0 0), (4, vR 16 0 0), (5, vI x5)] [] h := by
  refine s_aload_n (pc := 477) C dL_law_477 rfl 1 rfl ?_
  refine s_aload_nQ (pc := 478) C dL_law_478 rfl 0 rfl ?_
  refine s_iload (pc := 479) C dL_law_479 5 rfl ?_
  refine s_iconst (pc := 481) C dL_law_481 (x := (1 : Int32)) (by decide) ?_
  refine s_iadd (pc := 482) C dL_law_482 ?_
  refine s_sld (pc := 483) hs H.1 C dL_law_483 ?_
  have H := H.2
  refine s_aload_n (pc := 484) C dL_law_484 rfl 3 rfl ?_
  refine s_callsH (pc := 485) (nA := 3) (as := [vR 0 0 0, vI (xs (x5 + (1 : Int32)).toNatClampNeg), vR 15 0 0]) (st := []) (stk := [vR 15 0 0, vI (xs (x5 + (1 : Int32)).toNatClampNeg), vR 0 0 0]) C (fun l hl => ctL_rateOf l hl (xs (x5 + (1 : Int32)).toNatClampNeg) _ _ H) (fun _ _ z => z) rfl ⟨⟨kw_710, kw_57, kw_712⟩, ⟨by decide, by decide, by decide +kernel⟩, by decide, by decide⟩ kw_711 rfl (Nat.le_of_ble_eq_true rfl) ⟨rm_le hk.1 (by decide), rm_le hk.2 (by decide)⟩ rfl dL_law_485 (g_Kq_I (fun u2 h1 H => ?_) (fun E h1 H => H.elim))
  refine s_at (k' := k + 1) (n' := n + 6) (Nat.add_assoc k 0 1) (Nat.add_assoc n 0 6) ?_
  refine s_istore (pc := 488) (ls' := [(6, vI u2), (0, vV (.ref a0)), (1, vR 0 0 0), (2, vR 5 0 0), (3, vR 15 0 0), (4, vR 16 0 0), (5, vI x5)]) C dL_law_488 (by decide) rfl ?_
  refine s_aload_n (pc := 490) C dL_law_490 rfl 3 rfl ?_
  refine s_aload_nQ (pc := 491) C dL_law_491 rfl 1 rfl ?_
  refine s_iload (pc := 492) C dL_law_492 6 rfl ?_
  refine s_iconst (pc := 494) C dL_law_494 (x := (1 : Int32)) (by decide) ?_
  refine s_iadd (pc := 495) C dL_law_495 ?_
  refine s_sld (pc := 496) hs H.1 C dL_law_496 ?_
  have H := H.2
  refine s_callv (pc := 497) (nA := 1) (as := [vI (xs (x5 + (1 : Int32)).toNatClampNeg)]) (st := []) (stk := [vI (xs (x5 + (1 : Int32)).toNatClampNeg), vR 5 0 0]) ckX8 (Or.inl rfl) C (fun l hl => ctX8_rateOf l hl (xs (x5 + (1 : Int32)).toNatClampNeg) _ _ H) ⟨⟨kw_1624, kw_69, kw_1627⟩, rfl, ⟨by decide, by decide, by decide +kernel⟩, by decide, by decide⟩ kw_1625 (g_selW kw_1626) rfl (Nat.le_of_ble_eq_true rfl) ⟨rm_le hk.1 (by decide), rm_le hk.2 (by decide)⟩ rfl dL_law_497 (g_Kq_I (fun u4 h3 H => ?_) (fun E h3 H => H.elim))
  refine s_at (k' := k + 1) (n' := n + 6) (Nat.add_assoc k 1 0) (Nat.add_assoc n 6 0) ?_
  refine s_istore (pc := 500) (ls' := [(7, vI u4), (6, vI u2), (0, vV (.ref a0)), (1, vR 0 0 0), (2, vR 5 0 0), (3, vR 15 0 0), (4, vR 16 0 0), (5, vI x5)]) C dL_law_500 (by decide) rfl ?_
  refine s_aload_n (pc := 502) C dL_law_502 rfl 4 rfl ?_
  refine s_callv (pc := 503) (nA := 0) (as := []) (st := []) (stk := [vR 5 0 0]) ckX8 (Or.inl rfl) C (fun l hl => ctX8_thrown l hl _ _ H) ⟨⟨kw_1567, kw_69, kw_1570⟩, rfl, ⟨by decide, by decide, by decide +kernel⟩, by decide, by decide⟩ kw_1568 (g_selW kw_1569) rfl (Nat.le_of_ble_eq_true rfl) ⟨rm_le hk.1 (by decide), rm_le hk.2 (by decide)⟩ rfl dL_law_503 (g_Kq_I (fun u6 h5 H => ?_) (fun E h5 H => H.elim))
  refine s_at (k' := k + 1) (n' := n + 6) (Nat.add_assoc k 1 0) (Nat.add_assoc n 6 0) ?_
  refine s_iload (pc := 506) C dL_law_506 1 rfl ?_
  refine s_icmp_eq (pc := 508) (tgt := 513) C dL_law_508 (by decide) (fun c => ?_) (fun c => ?_)
  · have H := H.1 c
    refine s_iload (pc := 513) C dL_law_513 1 rfl ?_
    refine s_if_ne (pc := 515) (tgt := 530) C dL_law_515 (by decide) (fun c => ?_) (fun c => ?_)
    · have H := H.1 c
      exact s_sub (ls' := [(0, vV (.ref a0)), (1, vR 0 0 0), (2, vR 5 0 0), (3, vR 15 0 0), (4, vR 16 0 0), (5, vI x5)]) [2, 3, 4, 5, 6, 7] rfl (vL_law_b530 C hs hk R28 hR28 x5 h5 H)
    · have H := H.2 c
      refine s_aload_n (pc := 518) C dL_law_518 rfl 5 rfl ?_
      refine s_iconst (pc := 519) C dL_law_519 (x := (0 : Int32)) (by decide) ?_
      refine s_lald0 (pc := 520) C dL_law_520 ?_
      refine s_iload (pc := 521) C dL_law_521 0 rfl ?_
      refine s_i2l (pc := 523) C dL_law_523 ?_
      refine s_lcmp (pc := 524) C dL_law_524 ?_
      refine s_if_eq (pc := 525) (tgt := 530) C dL_law_525 (by decide) (fun c => ?_) (fun c => ?_)
      · have H := H.1 c
        exact s_sub (ls' := [(0, vV (.ref a0)), (1, vR 0 0 0), (2, vR 5 0 0), (3, vR 15 0 0), (4, vR 16 0 0), (5, vI x5)]) [2, 3, 4, 5, 6, 7] rfl (vL_law_b530 C hs hk R28 hR28 x5 h5 H)
      · have H := H.2 c
        refine s_iconst (pc := 528) C dL_law_528 (x := (0 : Int32)) (by decide) ?_
        exact s_iret (pc := 529) rfl (by decide) ⟨rm_l1 hk.1 (by decide), rm_l1 hk.2 (by decide)⟩ H C dL_law_529
  · have H := H.2 c
    refine s_iconst (pc := 511) C dL_law_511 (x := (0 : Int32)) (by decide) ?_
    exact s_iret (pc := 512) rfl (by decide) ⟨rm_l1 hk.1 (by decide), rm_l1 hk.2 (by decide)⟩ H C dL_law_512
set_option maxRecDepth 100000 in
set_option maxHeartbeats 4000000 in
theorem vL_law_b533 {G : g_G} {X : g_X} {Q : g_R → g_Hp → Prop} {a0 L : Nat} {xs : Nat → Int32} (C : g_Cx y_ G X iL_law) (hs : g_Scr G X a0 L xs) {k n : Nat} (hk : k + 26 ≤ 603072 ∧ n + 1956 ≤ 7202922) (R28 : Int32 → g_Hp → Prop) (hR28 : ∀ (x5 : Int32) (h : g_Hp), R28 x5 h → g_V G X iL_law 603072 7202922 Q 28 (k + 26) (n + 1956) [(0, vV (.ref a0)), (1, vR 0 0 0), (2, vR 5 0 0), (3, vR 15 0 0), (4, vR 16 0 0), (5, vI x5)] [] h) (x5 : Int32) (h : g_Hp) (H : wL_law_b533 a0 L xs Q R28 x5 h) : g_V G X iL_law 603072 7202922 Q 533 (k + 0) (n + 0) [(0, vV (.ref a0)), (1, vR 0 0 0), (2, vR 5 0 0), (3, vR 15 0 0), (4, vR 16 0 0), (5, vI x5)] [] h := by
  refine s_aload_n (pc := 533) C dL_law_533 rfl 1 rfl ?_
  refine s_aload_nQ (pc := 534) C dL_law_534 rfl 0 rfl ?_
  refine s_iload (pc := 535) C dL_law_535 5 rfl ?_
  refine s_iconst (pc := 537) C dL_law_537 (x := (1 : Int32)) (by decide) ?_
  refine s_iadd (pc := 538) C dL_law_538 ?_
  refine s_sld (pc := 539) hs H.1 C dL_law_539 ?_
  have H := H.2
  refine s_aload_n (pc := 540) C dL_law_540 rfl 3 rfl ?_
  refine s_callsH (pc := 541) (nA := 3) (as := [vR 0 0 0, vI (xs (x5 + (1 : Int32)).toNatClampNeg), vR 15 0 0]) (st := []) (stk := [vR 15 0 0, vI (xs (x5 + (1 : Int32)).toNatClampNeg), vR 0 0 0]) C (fun l hl => ctL_bearingOf l hl (xs (x5 + (1 : Int32)).toNatClampNeg) _ _ H) (fun _ _ z => z) rfl ⟨⟨kw_717, kw_57, kw_719⟩, ⟨by decide, by decide, by decide +kernel⟩, by decide, by decide⟩ kw_718 rfl (Nat.le_of_ble_eq_true rfl) ⟨rm_le hk.1 (by decide), rm_le hk.2 (by decide)⟩ rfl dL_law_541 (g_Kq_I (fun u2 h1 H => ?_) (fun E h1 H => H.elim))
  refine s_at (k' := k + 1) (n' := n + 6) (Nat.add_assoc k 0 1) (Nat.add_assoc n 0 6) ?_
  refine s_istore (pc := 544) (ls' := [(6, vI u2), (0, vV (.ref a0)), (1, vR 0 0 0), (2, vR 5 0 0), (3, vR 15 0 0), (4, vR 16 0 0), (5, vI x5)]) C dL_law_544 (by decide) rfl ?_
  refine s_aload_n (pc := 546) C dL_law_546 rfl 3 rfl ?_
  refine s_aload_nQ (pc := 547) C dL_law_547 rfl 1 rfl ?_
  refine s_iload (pc := 548) C dL_law_548 6 rfl ?_
  refine s_iconst (pc := 550) C dL_law_550 (x := (1 : Int32)) (by decide) ?_
  refine s_iadd (pc := 551) C dL_law_551 ?_
  refine s_sld (pc := 552) hs H.1 C dL_law_552 ?_
  have H := H.2
  refine s_callv (pc := 553) (nA := 1) (as := [vI (xs (x5 + (1 : Int32)).toNatClampNeg)]) (st := []) (stk := [vI (xs (x5 + (1 : Int32)).toNatClampNeg), vR 5 0 0]) ckX8 (Or.inl rfl) C (fun l hl => ctX8_bearingOf l hl (xs (x5 + (1 : Int32)).toNatClampNeg) _ _ H) ⟨⟨kw_1628, kw_69, kw_1631⟩, rfl, ⟨by decide, by decide, by decide +kernel⟩, by decide, by decide⟩ kw_1629 (g_selW kw_1630) rfl (Nat.le_of_ble_eq_true rfl) ⟨rm_le hk.1 (by decide), rm_le hk.2 (by decide)⟩ rfl dL_law_553 (g_Kq_I (fun u4 h3 H => ?_) (fun E h3 H => H.elim))
  refine s_at (k' := k + 1) (n' := n + 6) (Nat.add_assoc k 1 0) (Nat.add_assoc n 6 0) ?_
  refine s_istore (pc := 556) (ls' := [(7, vI u4), (6, vI u2), (0, vV (.ref a0)), (1, vR 0 0 0), (2, vR 5 0 0), (3, vR 15 0 0), (4, vR 16 0 0), (5, vI x5)]) C dL_law_556 (by decide) rfl ?_
  refine s_aload_n (pc := 558) C dL_law_558 rfl 4 rfl ?_
  refine s_callv (pc := 559) (nA := 0) (as := []) (st := []) (stk := [vR 5 0 0]) ckX8 (Or.inl rfl) C (fun l hl => ctX8_thrown l hl _ _ H) ⟨⟨kw_1567, kw_69, kw_1570⟩, rfl, ⟨by decide, by decide, by decide +kernel⟩, by decide, by decide⟩ kw_1568 (g_selW kw_1569) rfl (Nat.le_of_ble_eq_true rfl) ⟨rm_le hk.1 (by decide), rm_le hk.2 (by decide)⟩ rfl dL_law_559 (g_Kq_I (fun u6 h5 H => ?_) (fun E h5 H => H.elim))
  refine s_at (k' := k + 1) (n' := n + 6) (Nat.add_assoc k 1 0) (Nat.add_assoc n 6 0) ?_
  refine s_iload (pc := 562) C dL_law_562 1 rfl ?_
  refine s_icmp_eq (pc := 564) (tgt := 569) C dL_law_564 (by decide) (fun c => ?_) (fun c => ?_)
  · have H := H.1 c
    refine s_iload (pc := 569) C dL_law_569 1 rfl ?_
    refine s_if_ne (pc := 571) (tgt := 586) C dL_law_571 (by decide) (fun c => ?_) (fun c => ?_)
    · have H := H.1 c
      exact s_sub (ls' := [(0, vV (.ref a0)), (1, vR 0 0 0), (2, vR 5 0 0), (3, vR 15 0 0), (4, vR 16 0 0), (5, vI x5)]) [2, 3, 4, 5, 6, 7] rfl (vL_law_b586 C hs hk R28 hR28 x5 h5 H)
    · have H := H.2 c
      refine s_aload_n (pc := 574) C dL_law_574 rfl 5 rfl ?_
      refine s_iconst (pc := 575) C dL_law_575 (x := (0 : Int32)) (by decide) ?_
      refine s_lald0 (pc := 576) C dL_law_576 ?_
      refine s_iload (pc := 577) C dL_law_577 0 rfl ?_
      refine s_i2l (pc := 579) C dL_law_579 ?_
      refine s_lcmp (pc := 580) C dL_law_580 ?_
      refine s_if_eq (pc := 581) (tgt := 586) C dL_law_581 (by decide) (fun c => ?_) (fun c => ?_)
      · have H := H.1 c
        exact s_sub (ls' := [(0, vV (.ref a0)), (1, vR 0 0 0), (2, vR 5 0 0), (3, vR 15 0 0), (4, vR 16 0 0), (5, vI x5)]) [2, 3, 4, 5, 6, 7] rfl (vL_law_b586 C hs hk R28 hR28 x5 h5 H)
      · have H := H.2 c
        refine s_iconst (pc := 584) C dL_law_584 (x := (0 : Int32)) (by decide) ?_
        exact s_iret (pc := 585) rfl (by decide) ⟨rm_l1 hk.1 (by decide), rm_l1 hk.2 (by decide)⟩ H C dL_law_585
  · have H := H.2 c
    refine s_iconst (pc := 567) C dL_law_567 (x := (0 : Int32)) (by decide) ?_
    exact s_iret (pc := 568) rfl (by decide) ⟨rm_l1 hk.1 (by decide), rm_l1 hk.2 (by decide)⟩ H C dL_law_568
