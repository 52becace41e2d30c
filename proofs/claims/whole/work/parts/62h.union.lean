/-! X3_readText -/
abbrev iX3_readText : g_I := (RX3, yX3_readText, cX3_readText, 1, (some .boolean), [], { frames := 9, cells := 0, slots := 0, locals := 200 })
set_option maxRecDepth 100000 in
set_option maxHeartbeats 4000000 in
theorem vX3_readText_b10_B {G : g_G} {X : g_X} {Q : g_R → g_Hp → Prop} (C : g_Cx y_ G X iX3_readText) (R10 : g_Hp → Prop) (hR10 : ∀ (h : g_Hp), R10 h → g_V G X iX3_readText 0 0 Q 10 0 0 [(0, vR 3 0 0)] [] h) (h : g_Hp) (H : wX3_readText_b10_B Q R10 h) : g_V G X iX3_readText 0 0 Q 10 0 0 [(0, vR 3 0 0)] [] h := by
  refine s_aload_n (pc := 10) C dX3_readText_10 rfl 0 rfl ?_
  refine s_geti (pc := 11) (s := 2) ckX3 (Or.inl rfl) (by decide) kw_285 (fun _ => rfl) C dX3_readText_11 ?_
  refine s_bipush (pc := 14) C dX3_readText_14 (x := (11 : Int32)) (by decide) ?_
  refine s_icmp_ge (pc := 16) (tgt := 74) C dX3_readText_16 (by decide) (fun c => ?_) (fun c => ?_)
  · have H := H.1 c
    refine s_iconst (pc := 74) C dX3_readText_74 (x := (0 : Int32)) (by decide) ?_
    exact s_iret (pc := 75) rfl (by decide) ⟨by decide, by decide⟩ H C dX3_readText_75
  · have H := H.2 c
    refine s_aload_n (pc := 19) C dX3_readText_19 rfl 0 rfl ?_
    refine s_aload_n (pc := 20) C dX3_readText_20 rfl 0 rfl ?_
    refine s_getr (pc := 21) (s := 1) (a := 12) (b := 0) (c' := 0) ckX3 (by decide) kw_283 rfl C dX3_readText_21 ?_
    refine s_aload_n (pc := 24) C dX3_readText_24 rfl 0 rfl ?_
    refine s_geti (pc := 25) (s := 2) ckX3 (Or.inl rfl) (by decide) kw_285 (fun _ => rfl) C dX3_readText_25 ?_
    refine s_aald (pc := 28) (kk := 12) (by decide) (by decide) H.1 C dX3_readText_28 ?_
    have H := H.2
    show g_V _ _ _ _ _ _ _ _ _ _ (vR 4 ((h 3 0 0 3).toNatClampNeg) 0 :: _) _
    refine s_nmi (fun i1 ei1 => ?_)
    have H := H i1 ei1
    refine s_callv (pc := 29) (nA := 1) (as := [vR 4 i1 0]) (st := []) (stk := [vR 4 i1 0, vR 3 0 0]) ckX3 (Or.inl rfl) C (fun l hl => ctX3_readCommand l hl i1 _ _ H) ⟨⟨kw_1160, kw_61, kw_1163⟩, rfl, ⟨by decide, by decide, by decide +kernel⟩, by decide, by decide⟩ kw_1162 (g_selW kw_11) rfl (Nat.le_of_ble_eq_true rfl) ⟨by decide, by decide⟩ rfl dX3_readText_29 (g_Kq_I (fun u3 h2 H => ?_) (fun E h2 H => s_prop rfl ⟨by decide, by decide⟩ H C))
    refine s_if_ne (pc := 32) (tgt := 37) C dX3_readText_32 (by decide) (fun c => ?_) (fun c => ?_)
    · have H := H.1 c
      refine s_aload_n (pc := 37) C dX3_readText_37 rfl 0 rfl ?_
      refine s_dup (pc := 38) C dX3_readText_38 rfl ?_
      refine s_geti (pc := 39) (s := 2) ckX3 (Or.inl rfl) (by decide) kw_285 (fun _ => rfl) C dX3_readText_39 ?_
      refine s_iconst (pc := 42) C dX3_readText_42 (x := (1 : Int32)) (by decide) ?_
      refine s_iadd (pc := 43) C dX3_readText_43 ?_
      refine s_puti (pc := 44) (s := 2) ckX3 (Or.inl rfl) (by decide) kw_285 (fun _ => rfl) rfl rfl rfl C dX3_readText_44 ?_
      refine s_name (fun h4 eh4 => ?_)
      have H := H h4 eh4
      refine s_aload_n (pc := 47) C dX3_readText_47 rfl 0 rfl ?_
      refine s_geti (pc := 48) (s := 3) ckX3 (Or.inl rfl) (by decide) kw_287 (fun _ => rfl) C dX3_readText_48 ?_
      refine s_aload_n (pc := 51) C dX3_readText_51 rfl 0 rfl ?_
      refine s_getr (pc := 52) (s := 0) (a := 6) (b := 0) (c' := 0) ckX3 (by decide) kw_281 rfl C dX3_readText_52 ?_
      refine s_callv (pc := 55) (nA := 0) (as := []) (st := [vI (h4 3 0 0 4)]) (stk := [vR 6 0 0, vI (h4 3 0 0 4)]) ckJ4 (Or.inl rfl) C (fun l hl => ctJ4_length_8abf5 l hl 0 0 _ _ H) ⟨⟨kw_1205, kw_63, kw_1051⟩, rfl, ⟨by decide, by decide, by decide +kernel⟩, by decide, by decide⟩ kw_1049 (g_selW kw_1050) rfl (Nat.le_of_ble_eq_true rfl) ⟨by decide, by decide⟩ rfl dX3_readText_55 (g_Kq_I (fun u6 h5 H => ?_) (fun E h5 H => s_prop rfl ⟨by decide, by decide⟩ H C))
      refine s_icmp_lt (pc := 58) (tgt := 63) C dX3_readText_58 (by decide) (fun c => ?_) (fun c => ?_)
      · have H := H.1 c
        refine s_aload_n (pc := 63) C dX3_readText_63 rfl 0 rfl ?_
        refine s_bipush (pc := 64) C dX3_readText_64 (x := (59 : Int32)) (by decide) ?_
        refine s_callv (pc := 66) (nA := 1) (as := [vI (59 : Int32)]) (st := []) (stk := [vI (59 : Int32), vR 3 0 0]) ckX3 (Or.inl rfl) C (fun l hl => ctX3_readSign l hl (59 : Int32) _ _ H) ⟨⟨kw_1225, kw_61, kw_1228⟩, rfl, ⟨by decide, by decide, by decide +kernel⟩, by decide, by decide⟩ kw_1227 (g_selW kw_17) rfl (Nat.le_of_ble_eq_true rfl) ⟨by decide, by decide⟩ rfl dX3_readText_66 (g_Kq_I (fun u8 h7 H => ?_) (fun E h7 H => s_prop rfl ⟨by decide, by decide⟩ H C))
        refine s_if_ne (pc := 69) (tgt := 10) C dX3_readText_69 (by decide) (fun c => ?_) (fun c => ?_)
        · have H := H.1 c
          exact s_sub (ls' := [(0, vR 3 0 0)]) [0] rfl (hR10  h7 H)
        · have H := H.2 c
          refine s_iconst (pc := 72) C dX3_readText_72 (x := (0 : Int32)) (by decide) ?_
          exact s_iret (pc := 73) rfl (by decide) ⟨by decide, by decide⟩ H C dX3_readText_73
      · have H := H.2 c
        refine s_iconst (pc := 61) C dX3_readText_61 (x := (1 : Int32)) (by decide) ?_
        exact s_iret (pc := 62) rfl (by decide) ⟨by decide, by decide⟩ H C dX3_readText_62
    · have H := H.2 c
      refine s_iconst (pc := 35) C dX3_readText_35 (x := (0 : Int32)) (by decide) ?_
      exact s_iret (pc := 36) rfl (by decide) ⟨by decide, by decide⟩ H C dX3_readText_36
theorem vX3_readText_b10 {G : g_G} {X : g_X} {Q : g_R → g_Hp → Prop} (C : g_Cx y_ G X iX3_readText) (h : g_Hp) (H : wX3_readText_b10 Q h) : g_V G X iX3_readText 0 0 Q 10 0 0 [(0, vR 3 0 0)] [] h := by
  obtain ⟨n, H⟩ := H
  induction n generalizing h with
  | zero => exact H.elim
  | succ n ih => exact vX3_readText_b10_B C _ (fun h H => ih h H) h H
set_option maxRecDepth 100000 in
set_option maxHeartbeats 4000000 in
theorem vX3_readText {G : g_G} {X : g_X} {Q : g_R → g_Hp → Prop} (C : g_Cx y_ G X iX3_readText) (h : g_Hp) (H : wX3_readText h Q) : g_V G X iX3_readText 0 0 Q 0 0 0 [(0, vR 3 0 0)] [] h := by
  refine s_aload_n (pc := 0) C dX3_readText_0 rfl 0 rfl ?_
  refine s_iconst (pc := 1) C dX3_readText_1 (x := (0 : Int32)) (by decide) ?_
  refine s_puti (pc := 2) (s := 3) ckX3 (Or.inl rfl) (by decide) kw_287 (fun _ => rfl) rfl rfl rfl C dX3_readText_2 ?_
  refine s_name (fun h1 eh1 => ?_)
  have H := H h1 eh1
  refine s_aload_n (pc := 5) C dX3_readText_5 rfl 0 rfl ?_
  refine s_iconst (pc := 6) C dX3_readText_6 (x := (0 : Int32)) (by decide) ?_
  refine s_puti (pc := 7) (s := 2) ckX3 (Or.inl rfl) (by decide) kw_285 (fun _ => rfl) rfl rfl rfl C dX3_readText_7 ?_
  refine s_name (fun h2 eh2 => ?_)
  have H := H h2 eh2
  exact s_sub (ls' := [(0, vR 3 0 0)]) [0] rfl (vX3_readText_b10 C  h2 H)
theorem ctX3_readText (l : Launch) (hl : l.stackTraces = false) {G : g_G} (h : g_Hp) (Q : g_R → g_Hp → Prop) (H : wX3_readText h Q) : g_Met l y_ G iX3_readText [vR 3 0 0] h Q :=
  g_Met_of hl (by decide +kernel) rfl rfl (Nat.le_of_ble_eq_true rfl) (fun X C => vX3_readText C h H)
/-! X7_init -/
abbrev iX7_init : g_I := (RX7, yX7_init, cX7_init, 2, none, [], { frames := 4, cells := 172, slots := 1824, locals := 82 })
set_option maxRecDepth 100000 in
set_option maxHeartbeats 4000000 in
theorem vX7_init {G : g_G} {X : g_X} {Q : g_R → g_Hp → Prop} (C : g_Cx y_ G X iX7_init) (h : g_Hp) (H : wX7_init h Q) : g_V G X iX7_init 172 1824 Q 0 0 0 [(0, vR 40 0 0)] [] h := by
  refine s_aload_n (pc := 0) C dX7_init_0 rfl 0 rfl ?_
  refine s_obj (pc := 1) C kw_96 kw_97 kw_98 (Nat.le_of_ble_eq_true rfl) ⟨by decide, by decide⟩ dX7_init_1 ?_
  refine s_aload_n (pc := 4) C dX7_init_4 rfl 0 rfl ?_
  obtain ⟨hf, H⟩ := H
  refine s_new (pc := 5) (i := 0) (j := 0) ckX1 dkX1 ⟨kw_99, kw_100, kw_59⟩ hf ⟨by decide, by decide⟩ C dX7_init_5 ?_
  refine s_name (fun h1 eh1 => ?_)
  have H := H h1 eh1
  refine s_dup (pc := 8) C dX7_init_8 rfl ?_
  refine s_calli (pc := 9) (nA := 0) (as := []) (st := [vR 41 0 0, vR 40 0 0]) (stk := [vR 41 0 0, vR 41 0 0, vR 40 0 0]) C (fun l hl => ctX1_init l hl 0 _ _ H) ⟨⟨kw_101, kw_59, kw_103⟩, rfl, ⟨by decide, by decide, by decide +kernel⟩, by decide, by decide⟩ kw_102 rfl rfl rfl (Nat.le_of_ble_eq_true rfl) ⟨by decide, by decide⟩ rfl dX7_init_9 (g_Kq_V (fun h2 H => ?_) (fun E h2 H => s_prop rfl ⟨by decide, by decide⟩ H C))
  refine s_unraw (by decide) H.1 ?_
  have H := H.2
  refine s_putr (pc := 12) (s := 0) (x := (1 : Int32)) (a := 1) (b := 0) (c' := 0) ckX7 (Or.inr rfl) (by decide) kw_300 rfl (by decide) (Or.inl rfl) (by decide) (Or.inr ⟨rfl, rfl, rfl⟩) (fun _ => rfl) (fun _ => rfl) C dX7_init_12 ?_
  refine s_name (fun h3 eh3 => ?_)
  have H := H h3 eh3
  refine s_aload_n (pc := 15) C dX7_init_15 rfl 0 rfl ?_
  refine s_bipush (pc := 16) C dX7_init_16 (x := (9 : Int32)) (by decide) ?_
  refine s_newQ (pc := 18) (kk := 10) (i := 0) (j := 0) (N := 9) (Cq := "VaneUnion$Books") (by decide) (by decide) rfl kw_99 (by decide) H.1 (by decide) (by decide) (fun _ => rfl) (by decide) ⟨by decide, by decide⟩ C dX7_init_18 ?_
  have H := H.2
  refine s_name (fun h4 eh4 => ?_)
  have H := H h4 eh4
  refine s_putr (pc := 21) (s := 1) (x := (1 : Int32)) (a := 10) (b := 0) (c' := 0) ckX7 (Or.inr rfl) (by decide) kw_301 rfl (by decide) (Or.inr ⟨rfl, H.1⟩) (by decide) (Or.inr ⟨rfl, rfl, rfl⟩) (fun _ => rfl) (fun _ => rfl) C dX7_init_21 ?_
  have H := H.2
  refine s_name (fun h5 eh5 => ?_)
  have H := H h5 eh5
  refine s_iconst (pc := 24) C dX7_init_24 (x := (0 : Int32)) (by decide) ?_
  refine s_istore_n (pc := 25) (ls' := [(1, vI (0 : Int32)), (0, vR 40 0 0)]) C dX7_init_25 rfl (by decide) rfl ?_
  refine s_iload_n (pc := 26) C dX7_init_26 rfl 0 rfl ?_
  refine s_bipush (pc := 27) C dX7_init_27 (x := (9 : Int32)) (by decide) ?_
  refine s_icmp_ge (pc := 29) (tgt := 51) C dX7_init_29 (by decide) (fun c => absurd c (by decide)) (fun c => ?_)
  refine s_aload_n (pc := 32) C dX7_init_32 rfl 1 rfl ?_
  refine s_getr' (pc := 33) (s := 1) (a := 10) (b := 0) (c' := 0) (ar := 50) ckX7 (by decide) kw_301 rfl (by decide) H.1 H.2.1 C dX7_init_33 ?_
  have H := H.2.2
  refine s_iload_n (pc := 36) C dX7_init_36 rfl 0 rfl ?_
  obtain ⟨hf, H⟩ := H
  refine s_new (pc := 37) (i := 1) (j := 0) ckX1 dkX1 ⟨kw_99, kw_100, kw_59⟩ hf ⟨by decide, by decide⟩ C dX7_init_37 ?_
  refine s_name (fun h6 eh6 => ?_)
  have H := H h6 eh6
  refine s_dup (pc := 40) C dX7_init_40 rfl ?_
  refine s_calli (pc := 41) (nA := 0) (as := []) (st := [vR 41 1 0, vI (0 : Int32), vR 50 0 0]) (stk := [vR 41 1 0, vR 41 1 0, vI (0 : Int32), vR 50 0 0]) C (fun l hl => ctX1_init l hl 1 _ _ H) ⟨⟨kw_101, kw_59, kw_103⟩, rfl, ⟨by decide, by decide, by decide +kernel⟩, by decide, by decide⟩ kw_102 rfl rfl rfl (Nat.le_of_ble_eq_true rfl) ⟨by decide, by decide⟩ rfl dX7_init_41 (g_Kq_V (fun h7 H => ?_) (fun E h7 H => s_prop rfl ⟨by decide, by decide⟩ H C))
  refine s_unraw (by decide) H.1 ?_
  have H := H.2
  refine s_aast (pc := 44) (kk := 10) (by decide) (by decide) H.1.1 H.1.2 C dX7_init_44 ?_
  have H := H.2
  refine s_name (fun h8 eh8 => ?_)
  have H := H h8 eh8
  refine s_iinc (pc := 45) (y := (1 : Int32)) (ls' := [(1, vI (1 : Int32)), (0, vR 40 0 0)]) C dX7_init_45 0 rfl (by decide) (by decide) rfl ?_
  refine s_goto (pc := 48) (tgt := 26) C dX7_init_48 (by decide) ?_
  refine s_iload_n (pc := 26) C dX7_init_26 rfl 0 rfl ?_
  refine s_bipush (pc := 27) C dX7_init_27 (x := (9 : Int32)) (by decide) ?_
  refine s_icmp_ge (pc := 29) (tgt := 51) C dX7_init_29 (by decide) (fun c => absurd c (by decide)) (fun c => ?_)
  refine s_aload_n (pc := 32) C dX7_init_32 rfl 1 rfl ?_
  refine s_getr' (pc := 33) (s := 1) (a := 10) (b := 0) (c' := 0) (ar := 50) ckX7 (by decide) kw_301 rfl (by decide) H.1 H.2.1 C dX7_init_33 ?_
  have H := H.2.2
  refine s_iload_n (pc := 36) C dX7_init_36 rfl 0 rfl ?_
  obtain ⟨hf, H⟩ := H
  refine s_new (pc := 37) (i := 2) (j := 0) ckX1 dkX1 ⟨kw_99, kw_100, kw_59⟩ hf ⟨by decide, by decide⟩ C dX7_init_37 ?_
  refine s_name (fun h9 eh9 => ?_)
  have H := H h9 eh9
  refine s_dup (pc := 40) C dX7_init_40 rfl ?_
  refine s_calli (pc := 41) (nA := 0) (as := []) (st := [vR 41 2 0, vI (1 : Int32), vR 50 0 0]) (stk := [vR 41 2 0, vR 41 2 0, vI (1 : Int32), vR 50 0 0]) C (fun l hl => ctX1_init l hl 2 _ _ H) ⟨⟨kw_101, kw_59, kw_103⟩, rfl, ⟨by decide, by decide, by decide +kernel⟩, by decide, by decide⟩ kw_102 rfl rfl rfl (Nat.le_of_ble_eq_true rfl) ⟨by decide, by decide⟩ rfl dX7_init_41 (g_Kq_V (fun h10 H => ?_) (fun E h10 H => s_prop rfl ⟨by decide, by decide⟩ H C))
  refine s_unraw (by decide) H.1 ?_
  have H := H.2
  refine s_aast (pc := 44) (kk := 10) (by decide) (by decide) H.1.1 H.1.2 C dX7_init_44 ?_
  have H := H.2
  refine s_name (fun h11 eh11 => ?_)
  have H := H h11 eh11
  refine s_iinc (pc := 45) (y := (2 : Int32)) (ls' := [(1, vI (2 : Int32)), (0, vR 40 0 0)]) C dX7_init_45 0 rfl (by decide) (by decide) rfl ?_
  refine s_goto (pc := 48) (tgt := 26) C dX7_init_48 (by decide) ?_
  refine s_iload_n (pc := 26) C dX7_init_26 rfl 0 rfl ?_
  refine s_bipush (pc := 27) C dX7_init_27 (x := (9 : Int32)) (by decide) ?_
  refine s_icmp_ge (pc := 29) (tgt := 51) C dX7_init_29 (by decide) (fun c => absurd c (by decide)) (fun c => ?_)
  refine s_aload_n (pc := 32) C dX7_init_32 rfl 1 rfl ?_
  refine s_getr' (pc := 33) (s := 1) (a := 10) (b := 0) (c' := 0) (ar := 50) ckX7 (by decide) kw_301 rfl (by decide) H.1 H.2.1 C dX7_init_33 ?_
  have H := H.2.2
  refine s_iload_n (pc := 36) C dX7_init_36 rfl 0 rfl ?_
  obtain ⟨hf, H⟩ := H
  refine s_new (pc := 37) (i := 3) (j := 0) ckX1 dkX1 ⟨kw_99, kw_100, kw_59⟩ hf ⟨by decide, by decide⟩ C dX7_init_37 ?_
  refine s_name (fun h12 eh12 => ?_)
  have H := H h12 eh12
  refine s_dup (pc := 40) C dX7_init_40 rfl ?_
  refine s_calli (pc := 41) (nA := 0) (as := []) (st := [vR 41 3 0, vI (2 : Int32), vR 50 0 0]) (stk := [vR 41 3 0, vR 41 3 0, vI (2 : Int32), vR 50 0 0]) C (fun l hl => ctX1_init l hl 3 _ _ H) ⟨⟨kw_101, kw_59, kw_103⟩, rfl, ⟨by decide, by decide, by decide +kernel⟩, by decide, by decide⟩ kw_102 rfl rfl rfl (Nat.le_of_ble_eq_true rfl) ⟨by decide, by decide⟩ rfl dX7_init_41 (g_Kq_V (fun h13 H => ?_) (fun E h13 H => s_prop rfl ⟨by decide, by decide⟩ H C))
  refine s_unraw (by decide) H.1 ?_
  have H := H.2
  refine s_aast (pc := 44) (kk := 10) (by decide) (by decide) H.1.1 H.1.2 C dX7_init_44 ?_
  have H := H.2
  refine s_name (fun h14 eh14 => ?_)
  have H := H h14 eh14
  refine s_iinc (pc := 45) (y := (3 : Int32)) (ls' := [(1, vI (3 : Int32)), (0, vR 40 0 0)]) C dX7_init_45 0 rfl (by decide) (by decide) rfl ?_
  refine s_goto (pc := 48) (tgt := 26) C dX7_init_48 (by decide) ?_
  refine s_iload_n (pc := 26) C dX7_init_26 rfl 0 rfl ?_
  refine s_bipush (pc := 27) C dX7_init_27 (x := (9 : Int32)) (by decide) ?_
  refine s_icmp_ge (pc := 29) (tgt := 51) C dX7_init_29 (by decide) (fun c => absurd c (by decide)) (fun c => ?_)
  refine s_aload_n (pc := 32) C dX7_init_32 rfl 1 rfl ?_
  refine s_getr' (pc := 33) (s := 1) (a := 10) (b := 0) (c' := 0) (ar := 50) ckX7 (by decide) kw_301 rfl (by decide) H.1 H.2.1 C dX7_init_33 ?_
  have H := H.2.2
  refine s_iload_n (pc := 36) C dX7_init_36 rfl 0 rfl ?_
  obtain ⟨hf, H⟩ := H
  refine s_new (pc := 37) (i := 4) (j := 0) ckX1 dkX1 ⟨kw_99, kw_100, kw_59⟩ hf ⟨by decide, by decide⟩ C dX7_init_37 ?_
  refine s_name (fun h15 eh15 => ?_)
  have H := H h15 eh15
  refine s_dup (pc := 40) C dX7_init_40 rfl ?_
  refine s_calli (pc := 41) (nA := 0) (as := []) (st := [vR 41 4 0, vI (3 : Int32), vR 50 0 0]) (stk := [vR 41 4 0, vR 41 4 0, vI (3 : Int32), vR 50 0 0]) C (fun l hl => ctX1_init l hl 4 _ _ H) ⟨⟨kw_101, kw_59, kw_103⟩, rfl, ⟨by decide, by decide, by decide +kernel⟩, by decide, by decide⟩ kw_102 rfl rfl rfl (Nat.le_of_ble_eq_true rfl) ⟨by decide, by decide⟩ rfl dX7_init_41 (g_Kq_V (fun h16 H => ?_) (fun E h16 H => s_prop rfl ⟨by decide, by decide⟩ H C))
  refine s_unraw (by decide) H.1 ?_
  have H := H.2
  refine s_aast (pc := 44) (kk := 10) (by decide) (by decide) H.1.1 H.1.2 C dX7_init_44 ?_
  have H := H.2
  refine s_name (fun h17 eh17 => ?_)
  have H := H h17 eh17
  refine s_iinc (pc := 45) (y := (4 : Int32)) (ls' := [(1, vI (4 : Int32)), (0, vR 40 0 0)]) C dX7_init_45 0 rfl (by decide) (by decide) rfl ?_
  refine s_goto (pc := 48) (tgt := 26) C dX7_init_48 (by decide) ?_
  refine s_iload_n (pc := 26) C dX7_init_26 rfl 0 rfl ?_
  refine s_bipush (pc := 27) C dX7_init_27 (x := (9 : Int32)) (by decide) ?_
  refine s_icmp_ge (pc := 29) (tgt := 51) C dX7_init_29 (by decide) (fun c => absurd c (by decide)) (fun c => ?_)
  refine s_aload_n (pc := 32) C dX7_init_32 rfl 1 rfl ?_
  refine s_getr' (pc := 33) (s := 1) (a := 10) (b := 0) (c' := 0) (ar := 50) ckX7 (by decide) kw_301 rfl (by decide) H.1 H.2.1 C dX7_init_33 ?_
  have H := H.2.2
  refine s_iload_n (pc := 36) C dX7_init_36 rfl 0 rfl ?_
  obtain ⟨hf, H⟩ := H
  refine s_new (pc := 37) (i := 5) (j := 0) ckX1 dkX1 ⟨kw_99, kw_100, kw_59⟩ hf ⟨by decide, by decide⟩ C dX7_init_37 ?_
  refine s_name (fun h18 eh18 => ?_)
  have H := H h18 eh18
  refine s_dup (pc := 40) C dX7_init_40 rfl ?_
  refine s_calli (pc := 41) (nA := 0) (as := []) (st := [vR 41 5 0, vI (4 : Int32), vR 50 0 0]) (stk := [vR 41 5 0, vR 41 5 0, vI (4 : Int32), vR 50 0 0]) C (fun l hl => ctX1_init l hl 5 _ _ H) ⟨⟨kw_101, kw_59, kw_103⟩, rfl, ⟨by decide, by decide, by decide +kernel⟩, by decide, by decide⟩ kw_102 rfl rfl rfl (Nat.le_of_ble_eq_true rfl) ⟨by decide, by decide⟩ rfl dX7_init_41 (g_Kq_V (fun h19 H => ?_) (fun E h19 H => s_prop rfl ⟨by decide, by decide⟩ H C))
  refine s_unraw (by decide) H.1 ?_
  have H := H.2
  refine s_aast (pc := 44) (kk := 10) (by decide) (by decide) H.1.1 H.1.2 C dX7_init_44 ?_
  have H := H.2
  refine s_name (fun h20 eh20 => ?_)
  have H := H h20 eh20
  refine s_iinc (pc := 45) (y := (5 : Int32)) (ls' := [(1, vI (5 : Int32)), (0, vR 40 0 0)]) C dX7_init_45 0 rfl (by decide) (by decide) rfl ?_
  refine s_goto (pc := 48) (tgt := 26) C dX7_init_48 (by decide) ?_
  refine s_iload_n (pc := 26) C dX7_init_26 rfl 0 rfl ?_
  refine s_bipush (pc := 27) C dX7_init_27 (x := (9 : Int32)) (by decide) ?_
  refine s_icmp_ge (pc := 29) (tgt := 51) C dX7_init_29 (by decide) (fun c => absurd c (by decide)) (fun c => ?_)
  refine s_aload_n (pc := 32) C dX7_init_32 rfl 1 rfl ?_
  refine s_getr' (pc := 33) (s := 1) (a := 10) (b := 0) (c' := 0) (ar := 50) ckX7 (by decide) kw_301 rfl (by decide) H.1 H.2.1 C dX7_init_33 ?_
  have H := H.2.2
  refine s_iload_n (pc := 36) C dX7_init_36 rfl 0 rfl ?_
  obtain ⟨hf, H⟩ := H
  refine s_new (pc := 37) (i := 6) (j := 0) ckX1 dkX1 ⟨kw_99, kw_100, kw_59⟩ hf ⟨by decide, by decide⟩ C dX7_init_37 ?_
  refine s_name (fun h21 eh21 => ?_)
  have H := H h21 eh21
  refine s_dup (pc := 40) C dX7_init_40 rfl ?_
  refine s_calli (pc := 41) (nA := 0) (as := []) (st := [vR 41 6 0, vI (5 : Int32), vR 50 0 0]) (stk := [vR 41 6 0, vR 41 6 0, vI (5 : Int32), vR 50 0 0]) C (fun l hl => ctX1_init l hl 6 _ _ H) ⟨⟨kw_101, kw_59, kw_103⟩, rfl, ⟨by decide, by decide, by decide +kernel⟩, by decide, by decide⟩ kw_102 rfl rfl rfl (Nat.le_of_ble_eq_true rfl) ⟨by decide, by decide⟩ rfl dX7_init_41 (g_Kq_V (fun h22 H => ?_) (fun E h22 H => s_prop rfl ⟨by decide, by decide⟩ H C))
  refine s_unraw (by decide) H.1 ?_
  have H := H.2
  refine s_aast (pc := 44) (kk := 10) (by decide) (by decide) H.1.1 H.1.2 C dX7_init_44 ?_
  have H := H.2
  refine s_name (fun h23 eh23 => ?_)
  have H := H h23 eh23
  refine s_iinc (pc := 45) (y := (6 : Int32)) (ls' := [(1, vI (6 : Int32)), (0, vR 40 0 0)]) C dX7_init_45 0 rfl (by decide) (by decide) rfl ?_
  refine s_goto (pc := 48) (tgt := 26) C dX7_init_48 (by decide) ?_
  refine s_iload_n (pc := 26) C dX7_init_26 rfl 0 rfl ?_
  refine s_bipush (pc := 27) C dX7_init_27 (x := (9 : Int32)) (by decide) ?_
  refine s_icmp_ge (pc := 29) (tgt := 51) C dX7_init_29 (by decide) (fun c => absurd c (by decide)) (fun c => ?_)
  refine s_aload_n (pc := 32) C dX7_init_32 rfl 1 rfl ?_
  refine s_getr' (pc := 33) (s := 1) (a := 10) (b := 0) (c' := 0) (ar := 50) ckX7 (by decide) kw_301 rfl (by decide) H.1 H.2.1 C dX7_init_33 ?_
  have H := H.2.2
  refine s_iload_n (pc := 36) C dX7_init_36 rfl 0 rfl ?_
  obtain ⟨hf, H⟩ := H
  refine s_new (pc := 37) (i := 7) (j := 0) ckX1 dkX1 ⟨kw_99, kw_100, kw_59⟩ hf ⟨by decide, by decide⟩ C dX7_init_37 ?_
  refine s_name (fun h24 eh24 => ?_)
  have H := H h24 eh24
  refine s_dup (pc := 40) C dX7_init_40 rfl ?_
  refine s_calli (pc := 41) (nA := 0) (as := []) (st := [vR 41 7 0, vI (6 : Int32), vR 50 0 0]) (stk := [vR 41 7 0, vR 41 7 0, vI (6 : Int32), vR 50 0 0]) C (fun l hl => ctX1_init l hl 7 _ _ H) ⟨⟨kw_101, kw_59, kw_103⟩, rfl, ⟨by decide, by decide, by decide +kernel⟩, by decide, by decide⟩ kw_102 rfl rfl rfl (Nat.le_of_ble_eq_true rfl) ⟨by decide, by decide⟩ rfl dX7_init_41 (g_Kq_V (fun h25 H => ?_) (fun E h25 H => s_prop rfl ⟨by decide, by decide⟩ H C))
  refine s_unraw (by decide) H.1 ?_
  have H := H.2
  refine s_aast (pc := 44) (kk := 10) (by decide) (by decide) H.1.1 H.1.2 C dX7_init_44 ?_
  have H := H.2
  refine s_name (fun h26 eh26 => ?_)
  have H := H h26 eh26
  refine s_iinc (pc := 45) (y := (7 : Int32)) (ls' := [(1, vI (7 : Int32)), (0, vR 40 0 0)]) C dX7_init_45 0 rfl (by decide) (by decide) rfl ?_
  refine s_goto (pc := 48) (tgt := 26) C dX7_init_48 (by decide) ?_
  refine s_iload_n (pc := 26) C dX7_init_26 rfl 0 rfl ?_
  refine s_bipush (pc := 27) C dX7_init_27 (x := (9 : Int32)) (by decide) ?_
  refine s_icmp_ge (pc := 29) (tgt := 51) C dX7_init_29 (by decide) (fun c => absurd c (by decide)) (fun c => ?_)
  refine s_aload_n (pc := 32) C dX7_init_32 rfl 1 rfl ?_
  refine s_getr' (pc := 33) (s := 1) (a := 10) (b := 0) (c' := 0) (ar := 50) ckX7 (by decide) kw_301 rfl (by decide) H.1 H.2.1 C dX7_init_33 ?_
  have H := H.2.2
  refine s_iload_n (pc := 36) C dX7_init_36 rfl 0 rfl ?_
  obtain ⟨hf, H⟩ := H
  refine s_new (pc := 37) (i := 8) (j := 0) ckX1 dkX1 ⟨kw_99, kw_100, kw_59⟩ hf ⟨by decide, by decide⟩ C dX7_init_37 ?_
  refine s_name (fun h27 eh27 => ?_)
  have H := H h27 eh27
  refine s_dup (pc := 40) C dX7_init_40 rfl ?_
  refine s_calli (pc := 41) (nA := 0) (as := []) (st := [vR 41 8 0, vI (7 : Int32), vR 50 0 0]) (stk := [vR 41 8 0, vR 41 8 0, vI (7 : Int32), vR 50 0 0]) C (fun l hl => ctX1_init l hl 8 _ _ H) ⟨⟨kw_101, kw_59, kw_103⟩, rfl, ⟨by decide, by decide, by decide +kernel⟩, by decide, by decide⟩ kw_102 rfl rfl rfl (Nat.le_of_ble_eq_true rfl) ⟨by decide, by decide⟩ rfl dX7_init_41 (g_Kq_V (fun h28 H => ?_) (fun E h28 H => s_prop rfl ⟨by decide, by decide⟩ H C))
  refine s_unraw (by decide) H.1 ?_
  have H := H.2
  refine s_aast (pc := 44) (kk := 10) (by decide) (by decide) H.1.1 H.1.2 C dX7_init_44 ?_
  have H := H.2
  refine s_name (fun h29 eh29 => ?_)
  have H := H h29 eh29
  refine s_iinc (pc := 45) (y := (8 : Int32)) (ls' := [(1, vI (8 : Int32)), (0, vR 40 0 0)]) C dX7_init_45 0 rfl (by decide) (by decide) rfl ?_
  refine s_goto (pc := 48) (tgt := 26) C dX7_init_48 (by decide) ?_
  refine s_iload_n (pc := 26) C dX7_init_26 rfl 0 rfl ?_
  refine s_bipush (pc := 27) C dX7_init_27 (x := (9 : Int32)) (by decide) ?_
  refine s_icmp_ge (pc := 29) (tgt := 51) C dX7_init_29 (by decide) (fun c => absurd c (by decide)) (fun c => ?_)
  refine s_aload_n (pc := 32) C dX7_init_32 rfl 1 rfl ?_
  refine s_getr' (pc := 33) (s := 1) (a := 10) (b := 0) (c' := 0) (ar := 50) ckX7 (by decide) kw_301 rfl (by decide) H.1 H.2.1 C dX7_init_33 ?_
  have H := H.2.2
  refine s_iload_n (pc := 36) C dX7_init_36 rfl 0 rfl ?_
  obtain ⟨hf, H⟩ := H
  refine s_new (pc := 37) (i := 9) (j := 0) ckX1 dkX1 ⟨kw_99, kw_100, kw_59⟩ hf ⟨by decide, by decide⟩ C dX7_init_37 ?_
  refine s_name (fun h30 eh30 => ?_)
  have H := H h30 eh30
  refine s_dup (pc := 40) C dX7_init_40 rfl ?_
  refine s_calli (pc := 41) (nA := 0) (as := []) (st := [vR 41 9 0, vI (8 : Int32), vR 50 0 0]) (stk := [vR 41 9 0, vR 41 9 0, vI (8 : Int32), vR 50 0 0]) C (fun l hl => ctX1_init l hl 9 _ _ H) ⟨⟨kw_101, kw_59, kw_103⟩, rfl, ⟨by decide, by decide, by decide +kernel⟩, by decide, by decide⟩ kw_102 rfl rfl rfl (Nat.le_of_ble_eq_true rfl) ⟨by decide, by decide⟩ rfl dX7_init_41 (g_Kq_V (fun h31 H => ?_) (fun E h31 H => s_prop rfl ⟨by decide, by decide⟩ H C))
  refine s_unraw (by decide) H.1 ?_
  have H := H.2
  refine s_aast (pc := 44) (kk := 10) (by decide) (by decide) H.1.1 H.1.2 C dX7_init_44 ?_
  have H := H.2
  refine s_name (fun h32 eh32 => ?_)
  have H := H h32 eh32
  refine s_iinc (pc := 45) (y := (9 : Int32)) (ls' := [(1, vI (9 : Int32)), (0, vR 40 0 0)]) C dX7_init_45 0 rfl (by decide) (by decide) rfl ?_
  refine s_goto (pc := 48) (tgt := 26) C dX7_init_48 (by decide) ?_
  refine s_iload_n (pc := 26) C dX7_init_26 rfl 0 rfl ?_
  refine s_bipush (pc := 27) C dX7_init_27 (x := (9 : Int32)) (by decide) ?_
  refine s_icmp_ge (pc := 29) (tgt := 51) C dX7_init_29 (by decide) (fun c => ?_) (fun c => absurd c (by decide))
  refine s_aload_n (pc := 51) C dX7_init_51 rfl 1 rfl ?_
  obtain ⟨hf, H⟩ := H
  refine s_new (pc := 52) (i := 10) (j := 0) ckX1 dkX1 ⟨kw_99, kw_100, kw_59⟩ hf ⟨by decide, by decide⟩ C dX7_init_52 ?_
  refine s_name (fun h33 eh33 => ?_)
  have H := H h33 eh33
  refine s_dup (pc := 55) C dX7_init_55 rfl ?_
  refine s_calli (pc := 56) (nA := 0) (as := []) (st := [vR 41 10 0, vR 40 0 0]) (stk := [vR 41 10 0, vR 41 10 0, vR 40 0 0]) C (fun l hl => ctX1_init l hl 10 _ _ H) ⟨⟨kw_101, kw_59, kw_103⟩, rfl, ⟨by decide, by decide, by decide +kernel⟩, by decide, by decide⟩ kw_102 rfl rfl rfl (Nat.le_of_ble_eq_true rfl) ⟨by decide, by decide⟩ rfl dX7_init_56 (g_Kq_V (fun h34 H => ?_) (fun E h34 H => s_prop rfl ⟨by decide, by decide⟩ H C))
  refine s_unraw (by decide) H.1 ?_
  have H := H.2
  refine s_putr (pc := 59) (s := 4) (x := (1 : Int32)) (a := 1) (b := 10) (c' := 0) ckX7 (Or.inr rfl) (by decide) kw_304 rfl (by decide) (Or.inl rfl) (by decide) (Or.inr ⟨rfl, rfl, rfl⟩) (fun _ => rfl) (fun _ => rfl) C dX7_init_59 ?_
  refine s_name (fun h35 eh35 => ?_)
  have H := H h35 eh35
  refine s_aload_n (pc := 62) C dX7_init_62 rfl 1 rfl ?_
  obtain ⟨hf, H⟩ := H
  refine s_new (pc := 63) (i := 0) (j := 0) ckX3 dkX3 ⟨kw_215, kw_216, kw_61⟩ hf ⟨by decide, by decide⟩ C dX7_init_63 ?_
  refine s_name (fun h36 eh36 => ?_)
  have H := H h36 eh36
  refine s_dup (pc := 66) C dX7_init_66 rfl ?_
  refine s_calli (pc := 67) (nA := 0) (as := []) (st := [vR 43 0 0, vR 40 0 0]) (stk := [vR 43 0 0, vR 43 0 0, vR 40 0 0]) C (fun l hl => ctX3_init l hl _ _ H) ⟨⟨kw_217, kw_61, kw_219⟩, rfl, ⟨by decide, by decide, by decide +kernel⟩, by decide, by decide⟩ kw_218 rfl rfl rfl (Nat.le_of_ble_eq_true rfl) ⟨by decide, by decide⟩ rfl dX7_init_67 (g_Kq_V (fun h37 H => ?_) (fun E h37 H => s_prop rfl ⟨by decide, by decide⟩ H C))
  refine s_unraw (by decide) H.1 ?_
  have H := H.2
  refine s_putr (pc := 70) (s := 6) (x := (1 : Int32)) (a := 3) (b := 0) (c' := 0) ckX7 (Or.inr rfl) (by decide) kw_306 rfl (by decide) (Or.inl rfl) (by decide) (Or.inr ⟨rfl, rfl, rfl⟩) (fun _ => rfl) (fun _ => rfl) C dX7_init_70 ?_
  refine s_name (fun h38 eh38 => ?_)
  have H := H h38 eh38
  refine s_aload_n (pc := 73) C dX7_init_73 rfl 1 rfl ?_
  refine s_iconst (pc := 74) C dX7_init_74 (x := (-1 : Int32)) (by decide) ?_
  refine s_puti (pc := 75) (s := 7) ckX7 (Or.inr rfl) (by decide) kw_307 (fun _ => rfl) rfl rfl rfl C dX7_init_75 ?_
  refine s_name (fun h39 eh39 => ?_)
  have H := H h39 eh39
  refine s_aload_n (pc := 78) C dX7_init_78 rfl 1 rfl ?_
  refine s_iconst (pc := 79) C dX7_init_79 (x := (-1 : Int32)) (by decide) ?_
  refine s_puti (pc := 80) (s := 8) ckX7 (Or.inr rfl) (by decide) kw_308 (fun _ => rfl) rfl rfl rfl C dX7_init_80 ?_
  refine s_name (fun h40 eh40 => ?_)
  have H := H h40 eh40
  refine s_aload_n (pc := 83) C dX7_init_83 rfl 1 rfl ?_
  obtain ⟨hf, H⟩ := H
  refine s_new (pc := 84) (i := 1) (j := 0) ckJ4 dkJ4 ⟨kw_298, kw_222, kw_63⟩ hf ⟨by decide, by decide⟩ C dX7_init_84 ?_
  refine s_name (fun h41 eh41 => ?_)
  have H := H h41 eh41
  refine s_dup (pc := 87) C dX7_init_87 rfl ?_
  refine s_calli (pc := 88) (nA := 0) (as := []) (st := [vR 46 1 0, vR 40 0 0]) (stk := [vR 46 1 0, vR 46 1 0, vR 40 0 0]) C (fun l hl => ctJ4_init_da8c8 l hl 1 0 _ _ H) ⟨⟨kw_299, kw_63, kw_225⟩, rfl, ⟨by decide, by decide, by decide +kernel⟩, by decide, by decide⟩ kw_224 rfl rfl rfl (Nat.le_of_ble_eq_true rfl) ⟨by decide, by decide⟩ rfl dX7_init_88 (g_Kq_V (fun h42 H => ?_) (fun E h42 H => s_prop rfl ⟨by decide, by decide⟩ H C))
  refine s_unraw (by decide) H.1 ?_
  have H := H.2
  refine s_putr (pc := 91) (s := 9) (x := (1 : Int32)) (a := 6) (b := 1) (c' := 0) ckX7 (Or.inr rfl) (by decide) kw_309 rfl (by decide) (Or.inl rfl) (by decide) (Or.inr ⟨rfl, rfl, rfl⟩) (fun _ => rfl) (fun _ => rfl) C dX7_init_91 ?_
  refine s_name (fun h43 eh43 => ?_)
  have H := H h43 eh43
  refine s_sealS (Y := y_) (kk := 10) (i := 0) (j := 0) (by decide) H.1 ?_
  have H := H.2
  refine s_name (fun h44 eh44 => ?_)
  have H := H h44 eh44
  refine s_sealS (Y := y_) (kk := 0) (i := 0) (j := 0) (by decide) H.1 ?_
  have H := H.2
  refine s_name (fun h45 eh45 => ?_)
  have H := H h45 eh45
  exact s_vret (pc := 94) rfl ⟨by decide, by decide⟩ H C dX7_init_94
theorem ctX7_init (l : Launch) (hl : l.stackTraces = false) {G : g_G} (h : g_Hp) (Q : g_R → g_Hp → Prop) (H : wX7_init h Q) : g_Met l y_ G iX7_init [vR 40 0 0] h Q :=
  g_Met_of hl (by decide +kernel) rfl rfl (Nat.le_of_ble_eq_true rfl) (fun X C => vX7_init C h H)
/-! X7_refuse -/
abbrev iX7_refuse : g_I := (RX7, yX7_refuse, cX7_refuse, 1, none, [], { frames := 6, cells := 1, slots := 6, locals := 95 })
set_option maxRecDepth 100000 in
set_option maxHeartbeats 4000000 in
theorem vX7_refuse {G : g_G} {X : g_X} {Q : g_R → g_Hp → Prop} (C : g_Cx y_ G X iX7_refuse) (a0i : Nat) (a0j : Nat) (h : g_Hp) (H : wX7_refuse a0i a0j h Q) : g_V G X iX7_refuse 1 6 Q 0 0 0 [(0, vR 20 a0i a0j)] [] h := by
  refine s_gets (pc := 0) zs__SwitchMap_VaneUnion_Fault (g_cst_R rfl) kw_598 C dX7_refuse_0 ?_
  refine s_aload_n (pc := 3) C dX7_refuse_3 rfl 0 rfl ?_
  refine s_callcU (pc := 4) (nA := 0) (as := []) (st := [vR 23 0 0]) (stk := [vR 20 a0i a0j, vR 23 0 0]) (x := ⟨"VaneUnion$Fault", "ordinal", "()I"⟩) (os_fault H.1) (by decide) C (fun l hl => ctJx29ce0_ordinal_8abf5_20 l hl a0i a0j _ _ H.2) (List.forall_mem_cons.mpr ⟨kw_600, List.forall_mem_cons.mpr ⟨kw_601, List.forall_mem_cons.mpr ⟨kw_603, List.forall_mem_cons.mpr ⟨kw_604, List.forall_mem_cons.mpr ⟨kw_67, List.forall_mem_cons.mpr ⟨kw_605, fun _ h => nomatch h⟩⟩⟩⟩⟩⟩) rfl rfl ⟨by decide, by decide, by decide +kernel⟩ ⟨by decide, by decide⟩ rfl (Nat.le_of_ble_eq_true rfl) ⟨by decide, by decide⟩ rfl dX7_refuse_4 (g_Kq_I (fun u2 h1 H => ?_) (fun E h1 H => s_prop rfl ⟨by decide, by decide⟩ H C))
  refine s_ialdsw (pc := 7) H.1 (by decide) C dX7_refuse_7 ?_
  have H := H.2
  refine s_tsw (pc := 8) (tgtD := 99) C dX7_refuse_8 (by decide) (fun c => ?_) (fun n9 c => ?_)
  · have H := H.1 c
    exact s_vret (pc := 99) rfl ⟨by decide, by decide⟩ H C dX7_refuse_99
  · have H := H.2
    match n9, c with
    | 0, c =>
      refine ⟨36, 44, rfl, by decide, ?_⟩
      have H := H.1 c.1
      exact s_throwW (pc := 44) (names := ["java/lang/RuntimeException", "java/lang/Exception"]) tw_RX7_IndexOutOfBoundsException ss_RX7_376 rfl ⟨by decide, Nat.le_of_ble_eq_true rfl, by decide, by decide⟩ ⟨by decide, by decide⟩ H C dX7_refuse_44 dX7_refuse_47 dX7_refuse_48 dX7_refuse_51 dX7_refuse_54
    | 1, c =>
      refine ⟨47, 55, rfl, by decide, ?_⟩
      have H := H.2.1 c.1
      exact s_throwW (pc := 55) (names := ["java/lang/RuntimeException", "java/lang/Exception"]) tw_RX7_IllegalArgumentException ss_RX7_378 rfl ⟨by decide, Nat.le_of_ble_eq_true rfl, by decide, by decide⟩ ⟨by decide, by decide⟩ H C dX7_refuse_55 dX7_refuse_58 dX7_refuse_59 dX7_refuse_62 dX7_refuse_65
    | 2, c =>
      refine ⟨58, 66, rfl, by decide, ?_⟩
      have H := H.2.2.1 c.1
      exact s_throwW (pc := 66) (names := ["java/lang/RuntimeException", "java/lang/Exception"]) tw_RX7_IllegalStateException ss_RX7_380 rfl ⟨by decide, Nat.le_of_ble_eq_true rfl, by decide, by decide⟩ ⟨by decide, by decide⟩ H C dX7_refuse_66 dX7_refuse_69 dX7_refuse_70 dX7_refuse_73 dX7_refuse_76
    | 3, c =>
      refine ⟨69, 77, rfl, by decide, ?_⟩
      have H := H.2.2.2.1 c.1
      exact s_throwW (pc := 77) (names := ["java/lang/RuntimeException", "java/lang/Exception"]) tw_RX7_UnsupportedOperationException ss_RX7_384 rfl ⟨by decide, Nat.le_of_ble_eq_true rfl, by decide, by decide⟩ ⟨by decide, by decide⟩ H C dX7_refuse_77 dX7_refuse_80 dX7_refuse_81 dX7_refuse_84 dX7_refuse_87
    | 4, c =>
      refine ⟨80, 88, rfl, by decide, ?_⟩
      have H := H.2.2.2.2 c.1
      exact s_throwWN (pc := 88) tn_nse ss_RX7_387 rfl rfl ⟨by decide, Nat.le_of_ble_eq_true rfl, by decide, by decide⟩ ⟨by decide, by decide⟩ H C dX7_refuse_88 dX7_refuse_91 dX7_refuse_92 dX7_refuse_95 dX7_refuse_98
    | q9 + 5, c => exact absurd c.2 (by omega)
theorem ctX7_refuse (l : Launch) (hl : l.stackTraces = false) {G : g_G} (a0i : Nat) (a0j : Nat) (h : g_Hp) (Q : g_R → g_Hp → Prop) (H : wX7_refuse a0i a0j h Q) : g_Met l y_ G iX7_refuse [vR 20 a0i a0j] h Q :=
  g_Met_of hl (by decide +kernel) rfl rfl (Nat.le_of_ble_eq_true rfl) (fun X C => vX7_refuse C a0i a0j h H)
/-! X7_beginChange -/
abbrev iX7_beginChange : g_I := (RX7, yX7_beginChange, cX7_beginChange, 1, none, [], { frames := 3, cells := 0, slots := 0, locals := 63 })
set_option maxRecDepth 100000 in
set_option maxHeartbeats 4000000 in
theorem vX7_beginChange {G : g_G} {X : g_X} {Q : g_R → g_Hp → Prop} (C : g_Cx y_ G X iX7_beginChange) (h : g_Hp) (H : wX7_beginChange h Q) : g_V G X iX7_beginChange 0 0 Q 0 0 0 [(0, vR 0 0 0)] [] h := by
  refine s_aload_n (pc := 0) C dX7_beginChange_0 rfl 0 rfl ?_
  refine s_getr (pc := 1) (s := 1) (a := 10) (b := 0) (c' := 0) ckX7 (by decide) kw_301 rfl C dX7_beginChange_1 ?_
  refine s_aload_n (pc := 4) C dX7_beginChange_4 rfl 0 rfl ?_
  refine s_geti (pc := 5) (s := 2) ckX7 (Or.inl rfl) (by decide) kw_302 (fun _ => rfl) C dX7_beginChange_5 ?_
  refine s_aald (pc := 8) (kk := 10) (by decide) (by decide) H.1 C dX7_beginChange_8 ?_
  have H := H.2
  show g_V _ _ _ _ _ _ _ _ _ _ (vR 1 ((h 0 0 0 3).toNatClampNeg + 1) 0 :: _) _
  refine s_nmi (fun i1 ei1 => ?_)
  have H := H i1 ei1
  refine s_aload_n (pc := 9) C dX7_beginChange_9 rfl 0 rfl ?_
  refine s_getr (pc := 10) (s := 0) (a := 1) (b := 0) (c' := 0) ckX7 (by decide) kw_300 rfl C dX7_beginChange_10 ?_
  refine s_callv (pc := 13) (nA := 1) (as := [vR 1 0 0]) (st := []) (stk := [vR 1 0 0, vR 1 i1 0]) ckX1 (Or.inl rfl) C (fun l hl => ctX1_copyFrom l hl i1 0 _ _ H) ⟨⟨kw_542, kw_59, kw_545⟩, rfl, ⟨by decide, by decide, by decide +kernel⟩, by decide, by decide⟩ kw_543 (g_selW kw_544) rfl (Nat.le_of_ble_eq_true rfl) ⟨by decide, by decide⟩ rfl dX7_beginChange_13 (g_Kq_V (fun h2 H => ?_) (fun E h2 H => s_prop rfl ⟨by decide, by decide⟩ H C))
  exact s_vret (pc := 16) rfl ⟨by decide, by decide⟩ H C dX7_beginChange_16
theorem ctX7_beginChange (l : Launch) (hl : l.stackTraces = false) {G : g_G} (h : g_Hp) (Q : g_R → g_Hp → Prop) (H : wX7_beginChange h Q) : g_Met l y_ G iX7_beginChange [vR 0 0 0] h Q :=
  g_Met_of hl (by decide +kernel) rfl rfl (Nat.le_of_ble_eq_true rfl) (fun X C => vX7_beginChange C h H)
/-! X7_endChange -/
abbrev iX7_endChange : g_I := (RX7, yX7_endChange, cX7_endChange, 1, none, [], { frames := 1, cells := 0, slots := 0, locals := 20 })
set_option maxRecDepth 100000 in
set_option maxHeartbeats 4000000 in
theorem vX7_endChange_b32 {G : g_G} {X : g_X} {Q : g_R → g_Hp → Prop} (C : g_Cx y_ G X iX7_endChange) (h : g_Hp) (H : wX7_endChange_b32 Q h) : g_V G X iX7_endChange 0 0 Q 32 0 0 [] [] h := by
  exact s_vret (pc := 32) rfl ⟨by decide, by decide⟩ H C dX7_endChange_32
set_option maxRecDepth 100000 in
set_option maxHeartbeats 4000000 in
theorem vX7_endChange {G : g_G} {X : g_X} {Q : g_R → g_Hp → Prop} (C : g_Cx y_ G X iX7_endChange) (h : g_Hp) (H : wX7_endChange h Q) : g_V G X iX7_endChange 0 0 Q 0 0 0 [(0, vR 0 0 0)] [] h := by
  refine s_aload_n (pc := 0) C dX7_endChange_0 rfl 0 rfl ?_
  refine s_aload_n (pc := 1) C dX7_endChange_1 rfl 0 rfl ?_
  refine s_geti (pc := 2) (s := 2) ckX7 (Or.inl rfl) (by decide) kw_302 (fun _ => rfl) C dX7_endChange_2 ?_
  refine s_iconst (pc := 5) C dX7_endChange_5 (x := (1 : Int32)) (by decide) ?_
  refine s_iadd (pc := 6) C dX7_endChange_6 ?_
  refine s_bipush (pc := 7) C dX7_endChange_7 (x := (9 : Int32)) (by decide) ?_
  refine s_irem (pc := 9) C dX7_endChange_9 H.1 ?_
  have H := H.2
  refine s_puti (pc := 10) (s := 2) ckX7 (Or.inl rfl) (by decide) kw_302 (fun _ => rfl) rfl rfl rfl C dX7_endChange_10 ?_
  refine s_name (fun h1 eh1 => ?_)
  have H := H h1 eh1
  refine s_aload_n (pc := 13) C dX7_endChange_13 rfl 0 rfl ?_
  refine s_geti (pc := 14) (s := 3) ckX7 (Or.inl rfl) (by decide) kw_303 (fun _ => rfl) C dX7_endChange_14 ?_
  refine s_bipush (pc := 17) C dX7_endChange_17 (x := (8 : Int32)) (by decide) ?_
  refine s_icmp_ge (pc := 19) (tgt := 32) C dX7_endChange_19 (by decide) (fun c => ?_) (fun c => ?_)
  · have H := H.1 c
    exact s_sub (ls' := []) [] rfl (vX7_endChange_b32 C  h1 H)
  · have H := H.2 c
    refine s_aload_n (pc := 22) C dX7_endChange_22 rfl 0 rfl ?_
    refine s_dup (pc := 23) C dX7_endChange_23 rfl ?_
    refine s_geti (pc := 24) (s := 3) ckX7 (Or.inl rfl) (by decide) kw_303 (fun _ => rfl) C dX7_endChange_24 ?_
    refine s_iconst (pc := 27) C dX7_endChange_27 (x := (1 : Int32)) (by decide) ?_
    refine s_iadd (pc := 28) C dX7_endChange_28 ?_
    refine s_puti (pc := 29) (s := 3) ckX7 (Or.inl rfl) (by decide) kw_303 (fun _ => rfl) rfl rfl rfl C dX7_endChange_29 ?_
    refine s_name (fun h2 eh2 => ?_)
    have H := H h2 eh2
    exact s_sub (ls' := []) [] rfl (vX7_endChange_b32 C  h2 H)
theorem ctX7_endChange (l : Launch) (hl : l.stackTraces = false) {G : g_G} (h : g_Hp) (Q : g_R → g_Hp → Prop) (H : wX7_endChange h Q) : g_Met l y_ G iX7_endChange [vR 0 0 0] h Q :=
  g_Met_of hl (by decide +kernel) rfl rfl (Nat.le_of_ble_eq_true rfl) (fun X C => vX7_endChange C h H)
/-! X7_addMember -/
abbrev iX7_addMember : g_I := (RX7, yX7_addMember, cX7_addMember, 4, (some .int), [], { frames := 7, cells := 1, slots := 6, locals := 115 })
set_option maxRecDepth 100000 in
set_option maxHeartbeats 4000000 in
theorem vX7_addMember {G : g_G} {X : g_X} {Q : g_R → g_Hp → Prop} (C : g_Cx y_ G X iX7_addMember) (p0 : Int32) (p1 : Int32) (h : g_Hp) (H : wX7_addMember p0 p1 h Q) : g_V G X iX7_addMember 1 6 Q 0 0 0 [(0, vR 0 0 0), (1, vI p0), (2, vI p1)] [] h := by
  refine s_aload_n (pc := 0) C dX7_addMember_0 rfl 0 rfl ?_
  refine s_getr (pc := 1) (s := 0) (a := 1) (b := 0) (c' := 0) ckX7 (by decide) kw_300 rfl C dX7_addMember_1 ?_
  refine s_iload_n (pc := 4) C dX7_addMember_4 rfl 1 rfl ?_
  refine s_iload_n (pc := 5) C dX7_addMember_5 rfl 2 rfl ?_
  refine s_callv (pc := 6) (nA := 2) (as := [vI p0, vI p1]) (st := []) (stk := [vI p1, vI p0, vR 1 0 0]) ckX1 (Or.inl rfl) C (fun l hl => ctX1_faultOfAdding l hl 0 p0 p1 _ _ H) ⟨⟨kw_580, kw_59, kw_583⟩, rfl, ⟨by decide, by decide, by decide +kernel⟩, by decide, by decide⟩ kw_581 (g_selW kw_582) rfl (Nat.le_of_ble_eq_true rfl) ⟨by decide, by decide⟩ rfl dX7_addMember_6 (g_Kq_R (fun i2 j3 h1 H => ?_) (fun E h1 H => s_prop rfl ⟨by decide, by decide⟩ H C))
  refine s_calls (pc := 9) (nA := 1) (as := [vR 20 i2 j3]) (st := []) (stk := [vR 20 i2 j3]) C (fun l hl => ctX7_refuse l hl i2 j3 _ _ H) ⟨⟨kw_595, kw_58, kw_597⟩, rfl, ⟨by decide, by decide, by decide +kernel⟩, by decide, by decide⟩ kw_596 rfl (Nat.le_of_ble_eq_true rfl) ⟨by decide, by decide⟩ rfl dX7_addMember_9 (g_Kq_V (fun h4 H => ?_) (fun E h4 H => s_prop rfl ⟨by decide, by decide⟩ H C))
  refine s_aload_n (pc := 12) C dX7_addMember_12 rfl 0 rfl ?_
  refine s_callv (pc := 13) (nA := 0) (as := []) (st := []) (stk := [vR 0 0 0]) ckX7 (Or.inl rfl) C (fun l hl => ctX7_beginChange l hl _ _ H) ⟨⟨kw_671, kw_58, kw_674⟩, rfl, ⟨by decide, by decide, by decide +kernel⟩, by decide, by decide⟩ kw_673 (g_selW kw_3) rfl (Nat.le_of_ble_eq_true rfl) ⟨by decide, by decide⟩ rfl dX7_addMember_13 (g_Kq_V (fun h5 H => ?_) (fun E h5 H => s_prop rfl ⟨by decide, by decide⟩ H C))
  refine s_aload_n (pc := 16) C dX7_addMember_16 rfl 0 rfl ?_
  refine s_getr (pc := 17) (s := 0) (a := 1) (b := 0) (c' := 0) ckX7 (by decide) kw_300 rfl C dX7_addMember_17 ?_
  refine s_iload_n (pc := 20) C dX7_addMember_20 rfl 1 rfl ?_
  refine s_iload_n (pc := 21) C dX7_addMember_21 rfl 2 rfl ?_
  refine s_callv (pc := 22) (nA := 2) (as := [vI p0, vI p1]) (st := []) (stk := [vI p1, vI p0, vR 1 0 0]) ckX1 (Or.inl rfl) C (fun l hl => ctX1_add l hl 0 p0 p1 _ _ H) ⟨⟨kw_675, kw_59, kw_678⟩, rfl, ⟨by decide, by decide, by decide +kernel⟩, by decide, by decide⟩ kw_676 (g_selW kw_677) rfl (Nat.le_of_ble_eq_true rfl) ⟨by decide, by decide⟩ rfl dX7_addMember_22 (g_Kq_I (fun u7 h6 H => ?_) (fun E h6 H => s_prop rfl ⟨by decide, by decide⟩ H C))
  refine s_istore_n (pc := 25) (ls' := [(3, vI u7), (0, vR 0 0 0), (1, vI p0), (2, vI p1)]) C dX7_addMember_25 rfl (by decide) rfl ?_
  refine s_aload_n (pc := 26) C dX7_addMember_26 rfl 1 rfl ?_
  refine s_callv (pc := 27) (nA := 0) (as := []) (st := []) (stk := [vR 0 0 0]) ckX7 (Or.inl rfl) C (fun l hl => ctX7_endChange l hl _ _ H) ⟨⟨kw_683, kw_58, kw_686⟩, rfl, ⟨by decide, by decide, by decide +kernel⟩, by decide, by decide⟩ kw_685 (g_selW kw_4) rfl (Nat.le_of_ble_eq_true rfl) ⟨by decide, by decide⟩ rfl dX7_addMember_27 (g_Kq_V (fun h8 H => ?_) (fun E h8 H => s_prop rfl ⟨by decide, by decide⟩ H C))
  refine s_iload_n (pc := 30) C dX7_addMember_30 rfl 0 rfl ?_
  exact s_iret (pc := 31) rfl rfl ⟨by decide, by decide⟩ H C dX7_addMember_31
theorem ctX7_addMember (l : Launch) (hl : l.stackTraces = false) {G : g_G} (p0 : Int32) (p1 : Int32) (h : g_Hp) (Q : g_R → g_Hp → Prop) (H : wX7_addMember p0 p1 h Q) : g_Met l y_ G iX7_addMember [vR 0 0 0, vI p0, vI p1] h Q :=
  g_Met_of hl (by decide +kernel) rfl rfl (Nat.le_of_ble_eq_true rfl) (fun X C => vX7_addMember C p0 p1 h H)
/-! X7_memberCount -/
abbrev iX7_memberCount : g_I := (RX7, yX7_memberCount, cX7_memberCount, 1, (some .int), [], { frames := 1, cells := 0, slots := 0, locals := 20 })
set_option maxRecDepth 100000 in
set_option maxHeartbeats 4000000 in
theorem vX7_memberCount {G : g_G} {X : g_X} {Q : g_R → g_Hp → Prop} (C : g_Cx y_ G X iX7_memberCount) (h : g_Hp) (H : wX7_memberCount h Q) : g_V G X iX7_memberCount 0 0 Q 0 0 0 [(0, vR 0 0 0)] [] h := by
  refine s_aload_n (pc := 0) C dX7_memberCount_0 rfl 0 rfl ?_
  refine s_getr (pc := 1) (s := 0) (a := 1) (b := 0) (c' := 0) ckX7 (by decide) kw_300 rfl C dX7_memberCount_1 ?_
  refine s_geti (pc := 4) (s := 1) ckX1 (Or.inl rfl) (by decide) kw_169 (fun _ => rfl) C dX7_memberCount_4 ?_
  exact s_iret (pc := 7) rfl rfl ⟨by decide, by decide⟩ H C dX7_memberCount_7
theorem ctX7_memberCount (l : Launch) (hl : l.stackTraces = false) {G : g_G} (h : g_Hp) (Q : g_R → g_Hp → Prop) (H : wX7_memberCount h Q) : g_Met l y_ G iX7_memberCount [vR 0 0 0] h Q :=
  g_Met_of hl (by decide +kernel) rfl rfl (Nat.le_of_ble_eq_true rfl) (fun X C => vX7_memberCount C h H)
/-! X7_existing -/
abbrev iX7_existing : g_I := (RX7, yX7_existing, cX7_existing, 2, (some (.object "VaneUnion$Member")), [], { frames := 6, cells := 1, slots := 6, locals := 95 })
set_option maxRecDepth 100000 in
set_option maxHeartbeats 4000000 in
theorem vX7_existing {G : g_G} {X : g_X} {Q : g_R → g_Hp → Prop} (C : g_Cx y_ G X iX7_existing) (p0 : Int32) (h : g_Hp) (H : wX7_existing p0 h Q) : g_V G X iX7_existing 1 6 Q 0 0 0 [(0, vR 0 0 0), (1, vI p0)] [] h := by
  refine s_aload_n (pc := 0) C dX7_existing_0 rfl 0 rfl ?_
  refine s_getr (pc := 1) (s := 0) (a := 1) (b := 0) (c' := 0) ckX7 (by decide) kw_300 rfl C dX7_existing_1 ?_
  refine s_iload_n (pc := 4) C dX7_existing_4 rfl 1 rfl ?_
  refine s_callv (pc := 5) (nA := 1) (as := [vI p0]) (st := []) (stk := [vI p0, vR 1 0 0]) ckX1 (Or.inl rfl) C (fun l hl => ctX1_isMember l hl 0 p0 _ _ H) ⟨⟨kw_411, kw_59, kw_414⟩, rfl, ⟨by decide, by decide, by decide +kernel⟩, by decide, by decide⟩ kw_412 (g_selW kw_413) rfl (Nat.le_of_ble_eq_true rfl) ⟨by decide, by decide⟩ rfl dX7_existing_5 (g_Kq_I (fun u2 h1 H => ?_) (fun E h1 H => s_prop rfl ⟨by decide, by decide⟩ H C))
  refine s_if_ne (pc := 8) (tgt := 22) C dX7_existing_8 (by decide) (fun c => ?_) (fun c => ?_)
  · have H := H.1 c
    refine s_aload_n (pc := 22) C dX7_existing_22 rfl 0 rfl ?_
    refine s_getr (pc := 23) (s := 0) (a := 1) (b := 0) (c' := 0) ckX7 (by decide) kw_300 rfl C dX7_existing_23 ?_
    refine s_getr (pc := 26) (s := 0) (a := 11) (b := 0) (c' := 0) ckX1 (by decide) kw_167 rfl C dX7_existing_26 ?_
    refine s_iload_n (pc := 29) C dX7_existing_29 rfl 1 rfl ?_
    refine s_aald (pc := 30) (kk := 11) (by decide) (by decide) H.1 C dX7_existing_30 ?_
    have H := H.2
    show g_V _ _ _ _ _ _ _ _ _ _ (vR 2 0 (p0.toNatClampNeg) :: _) _
    refine s_nmj (fun j3 ej3 => ?_)
    have H := H j3 ej3
    exact s_aret (pc := 31) rfl (Or.inl ⟨_, rfl⟩) ⟨by decide, by decide⟩ H C dX7_existing_31
  · have H := H.2 c
    exact s_throwW (pc := 11) (names := ["java/lang/RuntimeException", "java/lang/Exception"]) tw_RX7_IndexOutOfBoundsException ss_RX7_347 rfl ⟨by decide, Nat.le_of_ble_eq_true rfl, by decide, by decide⟩ ⟨by decide, by decide⟩ H C dX7_existing_11 dX7_existing_14 dX7_existing_15 dX7_existing_18 dX7_existing_21
theorem ctX7_existing (l : Launch) (hl : l.stackTraces = false) {G : g_G} (p0 : Int32) (h : g_Hp) (Q : g_R → g_Hp → Prop) (H : wX7_existing p0 h Q) : g_Met l y_ G iX7_existing [vR 0 0 0, vI p0] h Q :=
  g_Met_of hl (by decide +kernel) rfl rfl (Nat.le_of_ble_eq_true rfl) (fun X C => vX7_existing C p0 h H)
/-! X7_roofOf -/
abbrev iX7_roofOf : g_I := (RX7, yX7_roofOf, cX7_roofOf, 2, (some .int), [], { frames := 7, cells := 1, slots := 6, locals := 116 })
set_option maxRecDepth 100000 in
set_option maxHeartbeats 4000000 in
theorem vX7_roofOf {G : g_G} {X : g_X} {Q : g_R → g_Hp → Prop} (C : g_Cx y_ G X iX7_roofOf) (p0 : Int32) (h : g_Hp) (H : wX7_roofOf p0 h Q) : g_V G X iX7_roofOf 1 6 Q 0 0 0 [(0, vR 0 0 0), (1, vI p0)] [] h := by
  refine s_aload_n (pc := 0) C dX7_roofOf_0 rfl 0 rfl ?_
  refine s_iload_n (pc := 1) C dX7_roofOf_1 rfl 1 rfl ?_
  refine s_callv (pc := 2) (nA := 1) (as := [vI p0]) (st := []) (stk := [vI p0, vR 0 0 0]) ckX7 (Or.inl rfl) C (fun l hl => ctX7_existing l hl p0 _ _ H) ⟨⟨kw_407, kw_58, kw_410⟩, rfl, ⟨by decide, by decide, by decide +kernel⟩, by decide, by decide⟩ kw_409 (g_selW kw_0) rfl (Nat.le_of_ble_eq_true rfl) ⟨by decide, by decide⟩ rfl dX7_roofOf_2 (g_Kq_R (fun i2 j3 h1 H => ?_) (fun E h1 H => s_prop rfl ⟨by decide, by decide⟩ H C))
  refine s_geti (pc := 5) (s := 0) ckX6 (Or.inl rfl) (by decide) kw_113 (fun _ => rfl) C dX7_roofOf_5 ?_
  exact s_iret (pc := 8) rfl rfl ⟨by decide, by decide⟩ H C dX7_roofOf_8
theorem ctX7_roofOf (l : Launch) (hl : l.stackTraces = false) {G : g_G} (p0 : Int32) (h : g_Hp) (Q : g_R → g_Hp → Prop) (H : wX7_roofOf p0 h Q) : g_Met l y_ G iX7_roofOf [vR 0 0 0, vI p0] h Q :=
  g_Met_of hl (by decide +kernel) rfl rfl (Nat.le_of_ble_eq_true rfl) (fun X C => vX7_roofOf C p0 h H)
/-! X7_requireRoof -/
abbrev iX7_requireRoof : g_I := (RX7, yX7_requireRoof, cX7_requireRoof, 1, none, [], { frames := 6, cells := 1, slots := 6, locals := 95 })
set_option maxRecDepth 100000 in
set_option maxHeartbeats 4000000 in
theorem vX7_requireRoof {G : g_G} {X : g_X} {Q : g_R → g_Hp → Prop} (C : g_Cx y_ G X iX7_requireRoof) (p0 : Int32) (h : g_Hp) (H : wX7_requireRoof p0 h Q) : g_V G X iX7_requireRoof 1 6 Q 0 0 0 [(0, vI p0)] [] h := by
  refine s_iload_n (pc := 0) C dX7_requireRoof_0 rfl 0 rfl ?_
  refine s_calls (pc := 1) (nA := 1) (as := [vI p0]) (st := []) (stk := [vI p0]) C (fun l hl => ctX7_isRoof l hl p0 _ _ H) ⟨⟨kw_704, kw_58, kw_586⟩, rfl, ⟨by decide, by decide, by decide +kernel⟩, by decide, by decide⟩ kw_585 rfl (Nat.le_of_ble_eq_true rfl) ⟨by decide, by decide⟩ rfl dX7_requireRoof_1 (g_Kq_I (fun u2 h1 H => ?_) (fun E h1 H => s_prop rfl ⟨by decide, by decide⟩ H C))
  refine s_if_ne (pc := 4) (tgt := 18) C dX7_requireRoof_4 (by decide) (fun c => ?_) (fun c => ?_)
  · have H := H.1 c
    exact s_vret (pc := 18) rfl ⟨by decide, by decide⟩ H C dX7_requireRoof_18
  · have H := H.2 c
    exact s_throwW (pc := 7) (names := ["java/lang/RuntimeException", "java/lang/Exception"]) tw_RX7_IndexOutOfBoundsException ss_RX7_356 rfl ⟨by decide, Nat.le_of_ble_eq_true rfl, by decide, by decide⟩ ⟨by decide, by decide⟩ H C dX7_requireRoof_7 dX7_requireRoof_10 dX7_requireRoof_11 dX7_requireRoof_14 dX7_requireRoof_17
theorem ctX7_requireRoof (l : Launch) (hl : l.stackTraces = false) {G : g_G} (p0 : Int32) (h : g_Hp) (Q : g_R → g_Hp → Prop) (H : wX7_requireRoof p0 h Q) : g_Met l y_ G iX7_requireRoof [vI p0] h Q :=
  g_Met_of hl (by decide +kernel) rfl rfl (Nat.le_of_ble_eq_true rfl) (fun X C => vX7_requireRoof C p0 h H)
/-! X7_membersOn -/
abbrev iX7_membersOn : g_I := (RX7, yX7_membersOn, cX7_membersOn, 2, (some .int), [], { frames := 7, cells := 1, slots := 6, locals := 115 })
set_option maxRecDepth 100000 in
set_option maxHeartbeats 4000000 in
theorem vX7_membersOn {G : g_G} {X : g_X} {Q : g_R → g_Hp → Prop} (C : g_Cx y_ G X iX7_membersOn) (p0 : Int32) (h : g_Hp) (H : wX7_membersOn p0 h Q) : g_V G X iX7_membersOn 1 6 Q 0 0 0 [(0, vR 0 0 0), (1, vI p0)] [] h := by
  refine s_iload_n (pc := 0) C dX7_membersOn_0 rfl 1 rfl ?_
  refine s_calls (pc := 1) (nA := 1) (as := [vI p0]) (st := []) (stk := [vI p0]) C (fun l hl => ctX7_requireRoof l hl p0 _ _ H) ⟨⟨kw_701, kw_58, kw_703⟩, rfl, ⟨by decide, by decide, by decide +kernel⟩, by decide, by decide⟩ kw_702 rfl (Nat.le_of_ble_eq_true rfl) ⟨by decide, by decide⟩ rfl dX7_membersOn_1 (g_Kq_V (fun h1 H => ?_) (fun E h1 H => s_prop rfl ⟨by decide, by decide⟩ H C))
  refine s_aload_n (pc := 4) C dX7_membersOn_4 rfl 0 rfl ?_
  refine s_getr (pc := 5) (s := 0) (a := 1) (b := 0) (c' := 0) ckX7 (by decide) kw_300 rfl C dX7_membersOn_5 ?_
  refine s_iload_n (pc := 8) C dX7_membersOn_8 rfl 1 rfl ?_
  refine s_callv (pc := 9) (nA := 1) (as := [vI p0]) (st := []) (stk := [vI p0, vR 1 0 0]) ckX1 (Or.inl rfl) C (fun l hl => ctX1_countOnRoof l hl 0 p0 _ _ H) ⟨⟨kw_706, kw_59, kw_709⟩, rfl, ⟨by decide, by decide, by decide +kernel⟩, by decide, by decide⟩ kw_707 (g_selW kw_708) rfl (Nat.le_of_ble_eq_true rfl) ⟨by decide, by decide⟩ rfl dX7_membersOn_9 (g_Kq_I (fun u3 h2 H => ?_) (fun E h2 H => s_prop rfl ⟨by decide, by decide⟩ H C))
  exact s_iret (pc := 12) rfl rfl ⟨by decide, by decide⟩ H C dX7_membersOn_12
theorem ctX7_membersOn (l : Launch) (hl : l.stackTraces = false) {G : g_G} (p0 : Int32) (h : g_Hp) (Q : g_R → g_Hp → Prop) (H : wX7_membersOn p0 h Q) : g_Met l y_ G iX7_membersOn [vR 0 0 0, vI p0] h Q :=
  g_Met_of hl (by decide +kernel) rfl rfl (Nat.le_of_ble_eq_true rfl) (fun X C => vX7_membersOn C p0 h H)
/-! X7_rateOf -/
abbrev iX7_rateOf : g_I := (RX7, yX7_rateOf, cX7_rateOf, 2, (some .int), [], { frames := 7, cells := 1, slots := 6, locals := 116 })
set_option maxRecDepth 100000 in
set_option maxHeartbeats 4000000 in
theorem vX7_rateOf {G : g_G} {X : g_X} {Q : g_R → g_Hp → Prop} (C : g_Cx y_ G X iX7_rateOf) (p0 : Int32) (h : g_Hp) (H : wX7_rateOf p0 h Q) : g_V G X iX7_rateOf 1 6 Q 0 0 0 [(0, vR 0 0 0), (1, vI p0)] [] h := by
  refine s_aload_n (pc := 0) C dX7_rateOf_0 rfl 0 rfl ?_
  refine s_iload_n (pc := 1) C dX7_rateOf_1 rfl 1 rfl ?_
  refine s_callv (pc := 2) (nA := 1) (as := [vI p0]) (st := []) (stk := [vI p0, vR 0 0 0]) ckX7 (Or.inl rfl) C (fun l hl => ctX7_existing l hl p0 _ _ H) ⟨⟨kw_407, kw_58, kw_410⟩, rfl, ⟨by decide, by decide, by decide +kernel⟩, by decide, by decide⟩ kw_409 (g_selW kw_0) rfl (Nat.le_of_ble_eq_true rfl) ⟨by decide, by decide⟩ rfl dX7_rateOf_2 (g_Kq_R (fun i2 j3 h1 H => ?_) (fun E h1 H => s_prop rfl ⟨by decide, by decide⟩ H C))
  refine s_geti (pc := 5) (s := 1) ckX6 (Or.inl rfl) (by decide) kw_116 (fun _ => rfl) C dX7_rateOf_5 ?_
  exact s_iret (pc := 8) rfl rfl ⟨by decide, by decide⟩ H C dX7_rateOf_8
theorem ctX7_rateOf (l : Launch) (hl : l.stackTraces = false) {G : g_G} (p0 : Int32) (h : g_Hp) (Q : g_R → g_Hp → Prop) (H : wX7_rateOf p0 h Q) : g_Met l y_ G iX7_rateOf [vR 0 0 0, vI p0] h Q :=
  g_Met_of hl (by decide +kernel) rfl rfl (Nat.le_of_ble_eq_true rfl) (fun X C => vX7_rateOf C p0 h H)
