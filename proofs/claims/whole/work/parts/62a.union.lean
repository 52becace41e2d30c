/-! X6_init -/
abbrev iX6_init : g_I := (RX6, yX6_init, cX6_init, 1, none, [], { frames := 1, cells := 0, slots := 0, locals := 20 })
set_option maxRecDepth 100000 in
set_option maxHeartbeats 4000000 in
theorem vX6_init {G : g_G} {X : g_X} {Q : g_R → g_Hp → Prop} (C : g_Cx y_ G X iX6_init) (ti : Nat) (tj : Nat) (h : g_Hp) (H : wX6_init ti tj h Q) : g_V G X iX6_init 0 0 Q 0 0 0 [(0, vR 42 ti tj)] [] h := by
  refine s_aload_n (pc := 0) C dX6_init_0 rfl 0 rfl ?_
  refine s_obj (pc := 1) C kw_111 kw_97 kw_98 (Nat.le_of_ble_eq_true rfl) ⟨by decide, by decide⟩ dX6_init_1 ?_
  refine s_aload_n (pc := 4) C dX6_init_4 rfl 0 rfl ?_
  refine s_iconst (pc := 5) C dX6_init_5 (x := (-1 : Int32)) (by decide) ?_
  refine s_puti (pc := 6) (s := 9) ckX6 (Or.inr rfl) (by decide) kw_138 (fun _ => rfl) rfl rfl rfl C dX6_init_6 ?_
  refine s_name (fun h1 eh1 => ?_)
  have H := H h1 eh1
  refine s_sealS (Y := y_) (kk := 2) (i := ti) (j := tj) (by decide) H.1 ?_
  have H := H.2
  refine s_name (fun h2 eh2 => ?_)
  have H := H h2 eh2
  exact s_vret (pc := 9) rfl ⟨by decide, by decide⟩ H C dX6_init_9
theorem ctX6_init (l : Launch) (hl : l.stackTraces = false) {G : g_G} (ti : Nat) (tj : Nat) (h : g_Hp) (Q : g_R → g_Hp → Prop) (H : wX6_init ti tj h Q) : g_Met l y_ G iX6_init [vR 42 ti tj] h Q :=
  g_Met_of hl (by decide +kernel) rfl rfl (Nat.le_of_ble_eq_true rfl) (fun X C => vX6_init C ti tj h H)
/-! X1_init -/
abbrev iX1_init : g_I := (RX1, yX1_init, cX1_init, 2, none, [], { frames := 2, cells := 13, slots := 144, locals := 40 })
set_option maxRecDepth 100000 in
set_option maxHeartbeats 4000000 in
theorem vX1_init {G : g_G} {X : g_X} {Q : g_R → g_Hp → Prop} (C : g_Cx y_ G X iX1_init) (ti : Nat) (h : g_Hp) (H : wX1_init ti h Q) : g_V G X iX1_init 13 144 Q 0 0 0 [(0, vR 41 ti 0)] [] h := by
  refine s_aload_n (pc := 0) C dX1_init_0 rfl 0 rfl ?_
  refine s_obj (pc := 1) C kw_104 kw_97 kw_98 (Nat.le_of_ble_eq_true rfl) ⟨by decide, by decide⟩ dX1_init_1 ?_
  refine s_aload_n (pc := 4) C dX1_init_4 rfl 0 rfl ?_
  refine s_bipush (pc := 5) C dX1_init_5 (x := (12 : Int32)) (by decide) ?_
  refine s_newQ (pc := 7) (kk := 11) (i := ti) (j := 0) (N := 12) (Cq := "VaneUnion$Member") (by decide) (by decide) rfl kw_105 (by decide) H.1 (by decide) (by decide) (fun _ => rfl) (by decide) ⟨by decide, by decide⟩ C dX1_init_7 ?_
  have H := H.2
  refine s_name (fun h1 eh1 => ?_)
  have H := H h1 eh1
  refine s_putr (pc := 10) (s := 0) (x := (1 : Int32)) (a := 11) (b := ti) (c' := 0) ckX1 (Or.inr rfl) (by decide) kw_166 rfl (by decide) (Or.inr ⟨rfl, H.1⟩) (by decide) (Or.inr ⟨rfl, rfl, rfl⟩) (fun _ => rfl) (fun _ => rfl) C dX1_init_10 ?_
  have H := H.2
  refine s_name (fun h2 eh2 => ?_)
  have H := H h2 eh2
  refine s_iconst (pc := 13) C dX1_init_13 (x := (0 : Int32)) (by decide) ?_
  refine s_istore_n (pc := 14) (ls' := [(1, vI (0 : Int32)), (0, vR 41 ti 0)]) C dX1_init_14 rfl (by decide) rfl ?_
  refine s_iload_n (pc := 15) C dX1_init_15 rfl 0 rfl ?_
  refine s_bipush (pc := 16) C dX1_init_16 (x := (12 : Int32)) (by decide) ?_
  refine s_icmp_ge (pc := 18) (tgt := 40) C dX1_init_18 (by decide) (fun c => absurd c (by decide)) (fun c => ?_)
  refine s_aload_n (pc := 21) C dX1_init_21 rfl 1 rfl ?_
  refine s_getr' (pc := 22) (s := 0) (a := 11) (b := ti) (c' := 0) (ar := 51) ckX1 (by decide) kw_166 rfl (by decide) H.1 H.2.1 C dX1_init_22 ?_
  have H := H.2.2
  refine s_iload_n (pc := 25) C dX1_init_25 rfl 0 rfl ?_
  obtain ⟨hf, H⟩ := H
  refine s_new (pc := 26) (i := ti) (j := 0) ckX6 dkX6 ⟨kw_105, kw_107, kw_60⟩ hf ⟨by decide, by decide⟩ C dX1_init_26 ?_
  refine s_name (fun h3 eh3 => ?_)
  have H := H h3 eh3
  refine s_dup (pc := 29) C dX1_init_29 rfl ?_
  refine s_calli (pc := 30) (nA := 0) (as := []) (st := [vR 42 ti 0, vI (0 : Int32), vR 51 ti 0]) (stk := [vR 42 ti 0, vR 42 ti 0, vI (0 : Int32), vR 51 ti 0]) C (fun l hl => ctX6_init l hl ti 0 _ _ H) ⟨⟨kw_108, kw_60, kw_110⟩, rfl, ⟨by decide, by decide, by decide +kernel⟩, by decide, by decide⟩ kw_109 rfl rfl rfl (Nat.le_of_ble_eq_true rfl) ⟨by decide, by decide⟩ rfl dX1_init_30 (g_Kq_V (fun h4 H => ?_) (fun E h4 H => s_prop rfl ⟨by decide, by decide⟩ H C))
  refine s_unraw (by decide) H.1 ?_
  have H := H.2
  refine s_aast (pc := 33) (kk := 11) (by decide) (by decide) H.1.1 H.1.2 C dX1_init_33 ?_
  have H := H.2
  refine s_name (fun h5 eh5 => ?_)
  have H := H h5 eh5
  refine s_iinc (pc := 34) (y := (1 : Int32)) (ls' := [(1, vI (1 : Int32)), (0, vR 41 ti 0)]) C dX1_init_34 0 rfl (by decide) (by decide) rfl ?_
  refine s_goto (pc := 37) (tgt := 15) C dX1_init_37 (by decide) ?_
  refine s_iload_n (pc := 15) C dX1_init_15 rfl 0 rfl ?_
  refine s_bipush (pc := 16) C dX1_init_16 (x := (12 : Int32)) (by decide) ?_
  refine s_icmp_ge (pc := 18) (tgt := 40) C dX1_init_18 (by decide) (fun c => absurd c (by decide)) (fun c => ?_)
  refine s_aload_n (pc := 21) C dX1_init_21 rfl 1 rfl ?_
  refine s_getr' (pc := 22) (s := 0) (a := 11) (b := ti) (c' := 0) (ar := 51) ckX1 (by decide) kw_166 rfl (by decide) H.1 H.2.1 C dX1_init_22 ?_
  have H := H.2.2
  refine s_iload_n (pc := 25) C dX1_init_25 rfl 0 rfl ?_
  obtain ⟨hf, H⟩ := H
  refine s_new (pc := 26) (i := ti) (j := 1) ckX6 dkX6 ⟨kw_105, kw_107, kw_60⟩ hf ⟨by decide, by decide⟩ C dX1_init_26 ?_
  refine s_name (fun h6 eh6 => ?_)
  have H := H h6 eh6
  refine s_dup (pc := 29) C dX1_init_29 rfl ?_
  refine s_calli (pc := 30) (nA := 0) (as := []) (st := [vR 42 ti 1, vI (1 : Int32), vR 51 ti 0]) (stk := [vR 42 ti 1, vR 42 ti 1, vI (1 : Int32), vR 51 ti 0]) C (fun l hl => ctX6_init l hl ti 1 _ _ H) ⟨⟨kw_108, kw_60, kw_110⟩, rfl, ⟨by decide, by decide, by decide +kernel⟩, by decide, by decide⟩ kw_109 rfl rfl rfl (Nat.le_of_ble_eq_true rfl) ⟨by decide, by decide⟩ rfl dX1_init_30 (g_Kq_V (fun h7 H => ?_) (fun E h7 H => s_prop rfl ⟨by decide, by decide⟩ H C))
  refine s_unraw (by decide) H.1 ?_
  have H := H.2
  refine s_aast (pc := 33) (kk := 11) (by decide) (by decide) H.1.1 H.1.2 C dX1_init_33 ?_
  have H := H.2
  refine s_name (fun h8 eh8 => ?_)
  have H := H h8 eh8
  refine s_iinc (pc := 34) (y := (2 : Int32)) (ls' := [(1, vI (2 : Int32)), (0, vR 41 ti 0)]) C dX1_init_34 0 rfl (by decide) (by decide) rfl ?_
  refine s_goto (pc := 37) (tgt := 15) C dX1_init_37 (by decide) ?_
  refine s_iload_n (pc := 15) C dX1_init_15 rfl 0 rfl ?_
  refine s_bipush (pc := 16) C dX1_init_16 (x := (12 : Int32)) (by decide) ?_
  refine s_icmp_ge (pc := 18) (tgt := 40) C dX1_init_18 (by decide) (fun c => absurd c (by decide)) (fun c => ?_)
  refine s_aload_n (pc := 21) C dX1_init_21 rfl 1 rfl ?_
  refine s_getr' (pc := 22) (s := 0) (a := 11) (b := ti) (c' := 0) (ar := 51) ckX1 (by decide) kw_166 rfl (by decide) H.1 H.2.1 C dX1_init_22 ?_
  have H := H.2.2
  refine s_iload_n (pc := 25) C dX1_init_25 rfl 0 rfl ?_
  obtain ⟨hf, H⟩ := H
  refine s_new (pc := 26) (i := ti) (j := 2) ckX6 dkX6 ⟨kw_105, kw_107, kw_60⟩ hf ⟨by decide, by decide⟩ C dX1_init_26 ?_
  refine s_name (fun h9 eh9 => ?_)
  have H := H h9 eh9
  refine s_dup (pc := 29) C dX1_init_29 rfl ?_
  refine s_calli (pc := 30) (nA := 0) (as := []) (st := [vR 42 ti 2, vI (2 : Int32), vR 51 ti 0]) (stk := [vR 42 ti 2, vR 42 ti 2, vI (2 : Int32), vR 51 ti 0]) C (fun l hl => ctX6_init l hl ti 2 _ _ H) ⟨⟨kw_108, kw_60, kw_110⟩, rfl, ⟨by decide, by decide, by decide +kernel⟩, by decide, by decide⟩ kw_109 rfl rfl rfl (Nat.le_of_ble_eq_true rfl) ⟨by decide, by decide⟩ rfl dX1_init_30 (g_Kq_V (fun h10 H => ?_) (fun E h10 H => s_prop rfl ⟨by decide, by decide⟩ H C))
  refine s_unraw (by decide) H.1 ?_
  have H := H.2
  refine s_aast (pc := 33) (kk := 11) (by decide) (by decide) H.1.1 H.1.2 C dX1_init_33 ?_
  have H := H.2
  refine s_name (fun h11 eh11 => ?_)
  have H := H h11 eh11
  refine s_iinc (pc := 34) (y := (3 : Int32)) (ls' := [(1, vI (3 : Int32)), (0, vR 41 ti 0)]) C dX1_init_34 0 rfl (by decide) (by decide) rfl ?_
  refine s_goto (pc := 37) (tgt := 15) C dX1_init_37 (by decide) ?_
  refine s_iload_n (pc := 15) C dX1_init_15 rfl 0 rfl ?_
  refine s_bipush (pc := 16) C dX1_init_16 (x := (12 : Int32)) (by decide) ?_
  refine s_icmp_ge (pc := 18) (tgt := 40) C dX1_init_18 (by decide) (fun c => absurd c (by decide)) (fun c => ?_)
  refine s_aload_n (pc := 21) C dX1_init_21 rfl 1 rfl ?_
  refine s_getr' (pc := 22) (s := 0) (a := 11) (b := ti) (c' := 0) (ar := 51) ckX1 (by decide) kw_166 rfl (by decide) H.1 H.2.1 C dX1_init_22 ?_
  have H := H.2.2
  refine s_iload_n (pc := 25) C dX1_init_25 rfl 0 rfl ?_
  obtain ⟨hf, H⟩ := H
  refine s_new (pc := 26) (i := ti) (j := 3) ckX6 dkX6 ⟨kw_105, kw_107, kw_60⟩ hf ⟨by decide, by decide⟩ C dX1_init_26 ?_
  refine s_name (fun h12 eh12 => ?_)
  have H := H h12 eh12
  refine s_dup (pc := 29) C dX1_init_29 rfl ?_
  refine s_calli (pc := 30) (nA := 0) (as := []) (st := [vR 42 ti 3, vI (3 : Int32), vR 51 ti 0]) (stk := [vR 42 ti 3, vR 42 ti 3, vI (3 : Int32), vR 51 ti 0]) C (fun l hl => ctX6_init l hl ti 3 _ _ H) ⟨⟨kw_108, kw_60, kw_110⟩, rfl, ⟨by decide, by decide, by decide +kernel⟩, by decide, by decide⟩ kw_109 rfl rfl rfl (Nat.le_of_ble_eq_true rfl) ⟨by decide, by decide⟩ rfl dX1_init_30 (g_Kq_V (fun h13 H => ?_) (fun E h13 H => s_prop rfl ⟨by decide, by decide⟩ H C))
  refine s_unraw (by decide) H.1 ?_
  have H := H.2
  refine s_aast (pc := 33) (kk := 11) (by decide) (by decide) H.1.1 H.1.2 C dX1_init_33 ?_
  have H := H.2
  refine s_name (fun h14 eh14 => ?_)
  have H := H h14 eh14
  refine s_iinc (pc := 34) (y := (4 : Int32)) (ls' := [(1, vI (4 : Int32)), (0, vR 41 ti 0)]) C dX1_init_34 0 rfl (by decide) (by decide) rfl ?_
  refine s_goto (pc := 37) (tgt := 15) C dX1_init_37 (by decide) ?_
  refine s_iload_n (pc := 15) C dX1_init_15 rfl 0 rfl ?_
  refine s_bipush (pc := 16) C dX1_init_16 (x := (12 : Int32)) (by decide) ?_
  refine s_icmp_ge (pc := 18) (tgt := 40) C dX1_init_18 (by decide) (fun c => absurd c (by decide)) (fun c => ?_)
  refine s_aload_n (pc := 21) C dX1_init_21 rfl 1 rfl ?_
  refine s_getr' (pc := 22) (s := 0) (a := 11) (b := ti) (c' := 0) (ar := 51) ckX1 (by decide) kw_166 rfl (by decide) H.1 H.2.1 C dX1_init_22 ?_
  have H := H.2.2
  refine s_iload_n (pc := 25) C dX1_init_25 rfl 0 rfl ?_
  obtain ⟨hf, H⟩ := H
  refine s_new (pc := 26) (i := ti) (j := 4) ckX6 dkX6 ⟨kw_105, kw_107, kw_60⟩ hf ⟨by decide, by decide⟩ C dX1_init_26 ?_
  refine s_name (fun h15 eh15 => ?_)
  have H := H h15 eh15
  refine s_dup (pc := 29) C dX1_init_29 rfl ?_
  refine s_calli (pc := 30) (nA := 0) (as := []) (st := [vR 42 ti 4, vI (4 : Int32), vR 51 ti 0]) (stk := [vR 42 ti 4, vR 42 ti 4, vI (4 : Int32), vR 51 ti 0]) C (fun l hl => ctX6_init l hl ti 4 _ _ H) ⟨⟨kw_108, kw_60, kw_110⟩, rfl, ⟨by decide, by decide, by decide +kernel⟩, by decide, by decide⟩ kw_109 rfl rfl rfl (Nat.le_of_ble_eq_true rfl) ⟨by decide, by decide⟩ rfl dX1_init_30 (g_Kq_V (fun h16 H => ?_) (fun E h16 H => s_prop rfl ⟨by decide, by decide⟩ H C))
  refine s_unraw (by decide) H.1 ?_
  have H := H.2
  refine s_aast (pc := 33) (kk := 11) (by decide) (by decide) H.1.1 H.1.2 C dX1_init_33 ?_
  have H := H.2
  refine s_name (fun h17 eh17 => ?_)
  have H := H h17 eh17
  refine s_iinc (pc := 34) (y := (5 : Int32)) (ls' := [(1, vI (5 : Int32)), (0, vR 41 ti 0)]) C dX1_init_34 0 rfl (by decide) (by decide) rfl ?_
  refine s_goto (pc := 37) (tgt := 15) C dX1_init_37 (by decide) ?_
  refine s_iload_n (pc := 15) C dX1_init_15 rfl 0 rfl ?_
  refine s_bipush (pc := 16) C dX1_init_16 (x := (12 : Int32)) (by decide) ?_
  refine s_icmp_ge (pc := 18) (tgt := 40) C dX1_init_18 (by decide) (fun c => absurd c (by decide)) (fun c => ?_)
  refine s_aload_n (pc := 21) C dX1_init_21 rfl 1 rfl ?_
  refine s_getr' (pc := 22) (s := 0) (a := 11) (b := ti) (c' := 0) (ar := 51) ckX1 (by decide) kw_166 rfl (by decide) H.1 H.2.1 C dX1_init_22 ?_
  have H := H.2.2
  refine s_iload_n (pc := 25) C dX1_init_25 rfl 0 rfl ?_
  obtain ⟨hf, H⟩ := H
  refine s_new (pc := 26) (i := ti) (j := 5) ckX6 dkX6 ⟨kw_105, kw_107, kw_60⟩ hf ⟨by decide, by decide⟩ C dX1_init_26 ?_
  refine s_name (fun h18 eh18 => ?_)
  have H := H h18 eh18
  refine s_dup (pc := 29) C dX1_init_29 rfl ?_
  refine s_calli (pc := 30) (nA := 0) (as := []) (st := [vR 42 ti 5, vI (5 : Int32), vR 51 ti 0]) (stk := [vR 42 ti 5, vR 42 ti 5, vI (5 : Int32), vR 51 ti 0]) C (fun l hl => ctX6_init l hl ti 5 _ _ H) ⟨⟨kw_108, kw_60, kw_110⟩, rfl, ⟨by decide, by decide, by decide +kernel⟩, by decide, by decide⟩ kw_109 rfl rfl rfl (Nat.le_of_ble_eq_true rfl) ⟨by decide, by decide⟩ rfl dX1_init_30 (g_Kq_V (fun h19 H => ?_) (fun E h19 H => s_prop rfl ⟨by decide, by decide⟩ H C))
  refine s_unraw (by decide) H.1 ?_
  have H := H.2
  refine s_aast (pc := 33) (kk := 11) (by decide) (by decide) H.1.1 H.1.2 C dX1_init_33 ?_
  have H := H.2
  refine s_name (fun h20 eh20 => ?_)
  have H := H h20 eh20
  refine s_iinc (pc := 34) (y := (6 : Int32)) (ls' := [(1, vI (6 : Int32)), (0, vR 41 ti 0)]) C dX1_init_34 0 rfl (by decide) (by decide) rfl ?_
  refine s_goto (pc := 37) (tgt := 15) C dX1_init_37 (by decide) ?_
  refine s_iload_n (pc := 15) C dX1_init_15 rfl 0 rfl ?_
  refine s_bipush (pc := 16) C dX1_init_16 (x := (12 : Int32)) (by decide) ?_
  refine s_icmp_ge (pc := 18) (tgt := 40) C dX1_init_18 (by decide) (fun c => absurd c (by decide)) (fun c => ?_)
  refine s_aload_n (pc := 21) C dX1_init_21 rfl 1 rfl ?_
  refine s_getr' (pc := 22) (s := 0) (a := 11) (b := ti) (c' := 0) (ar := 51) ckX1 (by decide) kw_166 rfl (by decide) H.1 H.2.1 C dX1_init_22 ?_
  have H := H.2.2
  refine s_iload_n (pc := 25) C dX1_init_25 rfl 0 rfl ?_
  obtain ⟨hf, H⟩ := H
  refine s_new (pc := 26) (i := ti) (j := 6) ckX6 dkX6 ⟨kw_105, kw_107, kw_60⟩ hf ⟨by decide, by decide⟩ C dX1_init_26 ?_
  refine s_name (fun h21 eh21 => ?_)
  have H := H h21 eh21
  refine s_dup (pc := 29) C dX1_init_29 rfl ?_
  refine s_calli (pc := 30) (nA := 0) (as := []) (st := [vR 42 ti 6, vI (6 : Int32), vR 51 ti 0]) (stk := [vR 42 ti 6, vR 42 ti 6, vI (6 : Int32), vR 51 ti 0]) C (fun l hl => ctX6_init l hl ti 6 _ _ H) ⟨⟨kw_108, kw_60, kw_110⟩, rfl, ⟨by decide, by decide, by decide +kernel⟩, by decide, by decide⟩ kw_109 rfl rfl rfl (Nat.le_of_ble_eq_true rfl) ⟨by decide, by decide⟩ rfl dX1_init_30 (g_Kq_V (fun h22 H => ?_) (fun E h22 H => s_prop rfl ⟨by decide, by decide⟩ H C))
  refine s_unraw (by decide) H.1 ?_
  have H := H.2
  refine s_aast (pc := 33) (kk := 11) (by decide) (by decide) H.1.1 H.1.2 C dX1_init_33 ?_
  have H := H.2
  refine s_name (fun h23 eh23 => ?_)
  have H := H h23 eh23
  refine s_iinc (pc := 34) (y := (7 : Int32)) (ls' := [(1, vI (7 : Int32)), (0, vR 41 ti 0)]) C dX1_init_34 0 rfl (by decide) (by decide) rfl ?_
  refine s_goto (pc := 37) (tgt := 15) C dX1_init_37 (by decide) ?_
  refine s_iload_n (pc := 15) C dX1_init_15 rfl 0 rfl ?_
  refine s_bipush (pc := 16) C dX1_init_16 (x := (12 : Int32)) (by decide) ?_
  refine s_icmp_ge (pc := 18) (tgt := 40) C dX1_init_18 (by decide) (fun c => absurd c (by decide)) (fun c => ?_)
  refine s_aload_n (pc := 21) C dX1_init_21 rfl 1 rfl ?_
  refine s_getr' (pc := 22) (s := 0) (a := 11) (b := ti) (c' := 0) (ar := 51) ckX1 (by decide) kw_166 rfl (by decide) H.1 H.2.1 C dX1_init_22 ?_
  have H := H.2.2
  refine s_iload_n (pc := 25) C dX1_init_25 rfl 0 rfl ?_
  obtain ⟨hf, H⟩ := H
  refine s_new (pc := 26) (i := ti) (j := 7) ckX6 dkX6 ⟨kw_105, kw_107, kw_60⟩ hf ⟨by decide, by decide⟩ C dX1_init_26 ?_
  refine s_name (fun h24 eh24 => ?_)
  have H := H h24 eh24
  refine s_dup (pc := 29) C dX1_init_29 rfl ?_
  refine s_calli (pc := 30) (nA := 0) (as := []) (st := [vR 42 ti 7, vI (7 : Int32), vR 51 ti 0]) (stk := [vR 42 ti 7, vR 42 ti 7, vI (7 : Int32), vR 51 ti 0]) C (fun l hl => ctX6_init l hl ti 7 _ _ H) ⟨⟨kw_108, kw_60, kw_110⟩, rfl, ⟨by decide, by decide, by decide +kernel⟩, by decide, by decide⟩ kw_109 rfl rfl rfl (Nat.le_of_ble_eq_true rfl) ⟨by decide, by decide⟩ rfl dX1_init_30 (g_Kq_V (fun h25 H => ?_) (fun E h25 H => s_prop rfl ⟨by decide, by decide⟩ H C))
  refine s_unraw (by decide) H.1 ?_
  have H := H.2
  refine s_aast (pc := 33) (kk := 11) (by decide) (by decide) H.1.1 H.1.2 C dX1_init_33 ?_
  have H := H.2
  refine s_name (fun h26 eh26 => ?_)
  have H := H h26 eh26
  refine s_iinc (pc := 34) (y := (8 : Int32)) (ls' := [(1, vI (8 : Int32)), (0, vR 41 ti 0)]) C dX1_init_34 0 rfl (by decide) (by decide) rfl ?_
  refine s_goto (pc := 37) (tgt := 15) C dX1_init_37 (by decide) ?_
  refine s_iload_n (pc := 15) C dX1_init_15 rfl 0 rfl ?_
  refine s_bipush (pc := 16) C dX1_init_16 (x := (12 : Int32)) (by decide) ?_
  refine s_icmp_ge (pc := 18) (tgt := 40) C dX1_init_18 (by decide) (fun c => absurd c (by decide)) (fun c => ?_)
  refine s_aload_n (pc := 21) C dX1_init_21 rfl 1 rfl ?_
  refine s_getr' (pc := 22) (s := 0) (a := 11) (b := ti) (c' := 0) (ar := 51) ckX1 (by decide) kw_166 rfl (by decide) H.1 H.2.1 C dX1_init_22 ?_
  have H := H.2.2
  refine s_iload_n (pc := 25) C dX1_init_25 rfl 0 rfl ?_
  obtain ⟨hf, H⟩ := H
  refine s_new (pc := 26) (i := ti) (j := 8) ckX6 dkX6 ⟨kw_105, kw_107, kw_60⟩ hf ⟨by decide, by decide⟩ C dX1_init_26 ?_
  refine s_name (fun h27 eh27 => ?_)
  have H := H h27 eh27
  refine s_dup (pc := 29) C dX1_init_29 rfl ?_
  refine s_calli (pc := 30) (nA := 0) (as := []) (st := [vR 42 ti 8, vI (8 : Int32), vR 51 ti 0]) (stk := [vR 42 ti 8, vR 42 ti 8, vI (8 : Int32), vR 51 ti 0]) C (fun l hl => ctX6_init l hl ti 8 _ _ H) ⟨⟨kw_108, kw_60, kw_110⟩, rfl, ⟨by decide, by decide, by decide +kernel⟩, by decide, by decide⟩ kw_109 rfl rfl rfl (Nat.le_of_ble_eq_true rfl) ⟨by decide, by decide⟩ rfl dX1_init_30 (g_Kq_V (fun h28 H => ?_) (fun E h28 H => s_prop rfl ⟨by decide, by decide⟩ H C))
  refine s_unraw (by decide) H.1 ?_
  have H := H.2
  refine s_aast (pc := 33) (kk := 11) (by decide) (by decide) H.1.1 H.1.2 C dX1_init_33 ?_
  have H := H.2
  refine s_name (fun h29 eh29 => ?_)
  have H := H h29 eh29
  refine s_iinc (pc := 34) (y := (9 : Int32)) (ls' := [(1, vI (9 : Int32)), (0, vR 41 ti 0)]) C dX1_init_34 0 rfl (by decide) (by decide) rfl ?_
  refine s_goto (pc := 37) (tgt := 15) C dX1_init_37 (by decide) ?_
  refine s_iload_n (pc := 15) C dX1_init_15 rfl 0 rfl ?_
  refine s_bipush (pc := 16) C dX1_init_16 (x := (12 : Int32)) (by decide) ?_
  refine s_icmp_ge (pc := 18) (tgt := 40) C dX1_init_18 (by decide) (fun c => absurd c (by decide)) (fun c => ?_)
  refine s_aload_n (pc := 21) C dX1_init_21 rfl 1 rfl ?_
  refine s_getr' (pc := 22) (s := 0) (a := 11) (b := ti) (c' := 0) (ar := 51) ckX1 (by decide) kw_166 rfl (by decide) H.1 H.2.1 C dX1_init_22 ?_
  have H := H.2.2
  refine s_iload_n (pc := 25) C dX1_init_25 rfl 0 rfl ?_
  obtain ⟨hf, H⟩ := H
  refine s_new (pc := 26) (i := ti) (j := 9) ckX6 dkX6 ⟨kw_105, kw_107, kw_60⟩ hf ⟨by decide, by decide⟩ C dX1_init_26 ?_
  refine s_name (fun h30 eh30 => ?_)
  have H := H h30 eh30
  refine s_dup (pc := 29) C dX1_init_29 rfl ?_
  refine s_calli (pc := 30) (nA := 0) (as := []) (st := [vR 42 ti 9, vI (9 : Int32), vR 51 ti 0]) (stk := [vR 42 ti 9, vR 42 ti 9, vI (9 : Int32), vR 51 ti 0]) C (fun l hl => ctX6_init l hl ti 9 _ _ H) ⟨⟨kw_108, kw_60, kw_110⟩, rfl, ⟨by decide, by decide, by decide +kernel⟩, by decide, by decide⟩ kw_109 rfl rfl rfl (Nat.le_of_ble_eq_true rfl) ⟨by decide, by decide⟩ rfl dX1_init_30 (g_Kq_V (fun h31 H => ?_) (fun E h31 H => s_prop rfl ⟨by decide, by decide⟩ H C))
  refine s_unraw (by decide) H.1 ?_
  have H := H.2
  refine s_aast (pc := 33) (kk := 11) (by decide) (by decide) H.1.1 H.1.2 C dX1_init_33 ?_
  have H := H.2
  refine s_name (fun h32 eh32 => ?_)
  have H := H h32 eh32
  refine s_iinc (pc := 34) (y := (10 : Int32)) (ls' := [(1, vI (10 : Int32)), (0, vR 41 ti 0)]) C dX1_init_34 0 rfl (by decide) (by decide) rfl ?_
  refine s_goto (pc := 37) (tgt := 15) C dX1_init_37 (by decide) ?_
  refine s_iload_n (pc := 15) C dX1_init_15 rfl 0 rfl ?_
  refine s_bipush (pc := 16) C dX1_init_16 (x := (12 : Int32)) (by decide) ?_
  refine s_icmp_ge (pc := 18) (tgt := 40) C dX1_init_18 (by decide) (fun c => absurd c (by decide)) (fun c => ?_)
  refine s_aload_n (pc := 21) C dX1_init_21 rfl 1 rfl ?_
  refine s_getr' (pc := 22) (s := 0) (a := 11) (b := ti) (c' := 0) (ar := 51) ckX1 (by decide) kw_166 rfl (by decide) H.1 H.2.1 C dX1_init_22 ?_
  have H := H.2.2
  refine s_iload_n (pc := 25) C dX1_init_25 rfl 0 rfl ?_
  obtain ⟨hf, H⟩ := H
  refine s_new (pc := 26) (i := ti) (j := 10) ckX6 dkX6 ⟨kw_105, kw_107, kw_60⟩ hf ⟨by decide, by decide⟩ C dX1_init_26 ?_
  refine s_name (fun h33 eh33 => ?_)
  have H := H h33 eh33
  refine s_dup (pc := 29) C dX1_init_29 rfl ?_
  refine s_calli (pc := 30) (nA := 0) (as := []) (st := [vR 42 ti 10, vI (10 : Int32), vR 51 ti 0]) (stk := [vR 42 ti 10, vR 42 ti 10, vI (10 : Int32), vR 51 ti 0]) C (fun l hl => ctX6_init l hl ti 10 _ _ H) ⟨⟨kw_108, kw_60, kw_110⟩, rfl, ⟨by decide, by decide, by decide +kernel⟩, by decide, by decide⟩ kw_109 rfl rfl rfl (Nat.le_of_ble_eq_true rfl) ⟨by decide, by decide⟩ rfl dX1_init_30 (g_Kq_V (fun h34 H => ?_) (fun E h34 H => s_prop rfl ⟨by decide, by decide⟩ H C))
  refine s_unraw (by decide) H.1 ?_
  have H := H.2
  refine s_aast (pc := 33) (kk := 11) (by decide) (by decide) H.1.1 H.1.2 C dX1_init_33 ?_
  have H := H.2
  refine s_name (fun h35 eh35 => ?_)
  have H := H h35 eh35
  refine s_iinc (pc := 34) (y := (11 : Int32)) (ls' := [(1, vI (11 : Int32)), (0, vR 41 ti 0)]) C dX1_init_34 0 rfl (by decide) (by decide) rfl ?_
  refine s_goto (pc := 37) (tgt := 15) C dX1_init_37 (by decide) ?_
  refine s_iload_n (pc := 15) C dX1_init_15 rfl 0 rfl ?_
  refine s_bipush (pc := 16) C dX1_init_16 (x := (12 : Int32)) (by decide) ?_
  refine s_icmp_ge (pc := 18) (tgt := 40) C dX1_init_18 (by decide) (fun c => absurd c (by decide)) (fun c => ?_)
  refine s_aload_n (pc := 21) C dX1_init_21 rfl 1 rfl ?_
  refine s_getr' (pc := 22) (s := 0) (a := 11) (b := ti) (c' := 0) (ar := 51) ckX1 (by decide) kw_166 rfl (by decide) H.1 H.2.1 C dX1_init_22 ?_
  have H := H.2.2
  refine s_iload_n (pc := 25) C dX1_init_25 rfl 0 rfl ?_
  obtain ⟨hf, H⟩ := H
  refine s_new (pc := 26) (i := ti) (j := 11) ckX6 dkX6 ⟨kw_105, kw_107, kw_60⟩ hf ⟨by decide, by decide⟩ C dX1_init_26 ?_
  refine s_name (fun h36 eh36 => ?_)
  have H := H h36 eh36
  refine s_dup (pc := 29) C dX1_init_29 rfl ?_
  refine s_calli (pc := 30) (nA := 0) (as := []) (st := [vR 42 ti 11, vI (11 : Int32), vR 51 ti 0]) (stk := [vR 42 ti 11, vR 42 ti 11, vI (11 : Int32), vR 51 ti 0]) C (fun l hl => ctX6_init l hl ti 11 _ _ H) ⟨⟨kw_108, kw_60, kw_110⟩, rfl, ⟨by decide, by decide, by decide +kernel⟩, by decide, by decide⟩ kw_109 rfl rfl rfl (Nat.le_of_ble_eq_true rfl) ⟨by decide, by decide⟩ rfl dX1_init_30 (g_Kq_V (fun h37 H => ?_) (fun E h37 H => s_prop rfl ⟨by decide, by decide⟩ H C))
  refine s_unraw (by decide) H.1 ?_
  have H := H.2
  refine s_aast (pc := 33) (kk := 11) (by decide) (by decide) H.1.1 H.1.2 C dX1_init_33 ?_
  have H := H.2
  refine s_name (fun h38 eh38 => ?_)
  have H := H h38 eh38
  refine s_iinc (pc := 34) (y := (12 : Int32)) (ls' := [(1, vI (12 : Int32)), (0, vR 41 ti 0)]) C dX1_init_34 0 rfl (by decide) (by decide) rfl ?_
  refine s_goto (pc := 37) (tgt := 15) C dX1_init_37 (by decide) ?_
  refine s_iload_n (pc := 15) C dX1_init_15 rfl 0 rfl ?_
  refine s_bipush (pc := 16) C dX1_init_16 (x := (12 : Int32)) (by decide) ?_
  refine s_icmp_ge (pc := 18) (tgt := 40) C dX1_init_18 (by decide) (fun c => ?_) (fun c => absurd c (by decide))
  refine s_sealS (Y := y_) (kk := 11) (i := ti) (j := 0) (by decide) H.1 ?_
  have H := H.2
  refine s_name (fun h39 eh39 => ?_)
  have H := H h39 eh39
  refine s_sealS (Y := y_) (kk := 1) (i := ti) (j := 0) (by decide) H.1 ?_
  have H := H.2
  refine s_name (fun h40 eh40 => ?_)
  have H := H h40 eh40
  exact s_vret (pc := 40) rfl ⟨by decide, by decide⟩ H C dX1_init_40
theorem ctX1_init (l : Launch) (hl : l.stackTraces = false) {G : g_G} (ti : Nat) (h : g_Hp) (Q : g_R → g_Hp → Prop) (H : wX1_init ti h Q) : g_Met l y_ G iX1_init [vR 41 ti 0] h Q :=
  g_Met_of hl (by decide +kernel) rfl rfl (Nat.le_of_ble_eq_true rfl) (fun X C => vX1_init C ti h H)
/-! X6_copyFrom -/
abbrev iX6_copyFrom : g_I := (RX6, yX6_copyFrom, cX6_copyFrom, 2, none, [], { frames := 1, cells := 0, slots := 0, locals := 20 })
set_option maxRecDepth 100000 in
set_option maxHeartbeats 4000000 in
theorem vX6_copyFrom {G : g_G} {X : g_X} {Q : g_R → g_Hp → Prop} (C : g_Cx y_ G X iX6_copyFrom) (ti : Nat) (tj : Nat) (a0i : Nat) (a0j : Nat) (h : g_Hp) (H : wX6_copyFrom ti tj a0i a0j h Q) : g_V G X iX6_copyFrom 0 0 Q 0 0 0 [(0, vR 2 ti tj), (1, vR 2 a0i a0j)] [] h := by
  refine s_aload_n (pc := 0) C dX6_copyFrom_0 rfl 0 rfl ?_
  refine s_aload_n (pc := 1) C dX6_copyFrom_1 rfl 1 rfl ?_
  refine s_geti (pc := 2) (s := 0) ckX6 (Or.inl rfl) (by decide) kw_112 (fun _ => rfl) C dX6_copyFrom_2 ?_
  refine s_puti (pc := 5) (s := 0) ckX6 (Or.inl rfl) (by decide) kw_112 (fun _ => rfl) rfl rfl rfl C dX6_copyFrom_5 ?_
  refine s_name (fun h1 eh1 => ?_)
  have H := H h1 eh1
  refine s_aload_n (pc := 8) C dX6_copyFrom_8 rfl 0 rfl ?_
  refine s_aload_n (pc := 9) C dX6_copyFrom_9 rfl 1 rfl ?_
  refine s_geti (pc := 10) (s := 1) ckX6 (Or.inl rfl) (by decide) kw_115 (fun _ => rfl) C dX6_copyFrom_10 ?_
  refine s_puti (pc := 13) (s := 1) ckX6 (Or.inl rfl) (by decide) kw_115 (fun _ => rfl) rfl rfl rfl C dX6_copyFrom_13 ?_
  refine s_name (fun h2 eh2 => ?_)
  have H := H h2 eh2
  refine s_aload_n (pc := 16) C dX6_copyFrom_16 rfl 0 rfl ?_
  refine s_aload_n (pc := 17) C dX6_copyFrom_17 rfl 1 rfl ?_
  refine s_geti (pc := 18) (s := 2) ckX6 (Or.inl rfl) (by decide) kw_118 (fun _ => rfl) C dX6_copyFrom_18 ?_
  refine s_puti (pc := 21) (s := 2) ckX6 (Or.inl rfl) (by decide) kw_118 (fun _ => rfl) rfl rfl rfl C dX6_copyFrom_21 ?_
  refine s_name (fun h3 eh3 => ?_)
  have H := H h3 eh3
  refine s_aload_n (pc := 24) C dX6_copyFrom_24 rfl 0 rfl ?_
  refine s_aload_n (pc := 25) C dX6_copyFrom_25 rfl 1 rfl ?_
  refine s_geti (pc := 26) (s := 3) ckX6 (Or.inl rfl) (by decide) kw_121 (fun _ => rfl) C dX6_copyFrom_26 ?_
  refine s_puti (pc := 29) (s := 3) ckX6 (Or.inl rfl) (by decide) kw_121 (fun _ => rfl) rfl rfl rfl C dX6_copyFrom_29 ?_
  refine s_name (fun h4 eh4 => ?_)
  have H := H h4 eh4
  refine s_aload_n (pc := 32) C dX6_copyFrom_32 rfl 0 rfl ?_
  refine s_aload_n (pc := 33) C dX6_copyFrom_33 rfl 1 rfl ?_
  refine s_geti (pc := 34) (s := 4) ckX6 (Or.inl rfl) (by decide) kw_124 (fun _ => rfl) C dX6_copyFrom_34 ?_
  refine s_puti (pc := 37) (s := 4) ckX6 (Or.inl rfl) (by decide) kw_124 (fun _ => rfl) rfl rfl rfl C dX6_copyFrom_37 ?_
  refine s_name (fun h5 eh5 => ?_)
  have H := H h5 eh5
  refine s_aload_n (pc := 40) C dX6_copyFrom_40 rfl 0 rfl ?_
  refine s_aload_n (pc := 41) C dX6_copyFrom_41 rfl 1 rfl ?_
  refine s_geti (pc := 42) (s := 5) ckX6 (Or.inl rfl) (by decide) kw_127 (fun _ => rfl) C dX6_copyFrom_42 ?_
  refine s_puti (pc := 45) (s := 5) ckX6 (Or.inl rfl) (by decide) kw_127 (fun _ => rfl) rfl rfl rfl C dX6_copyFrom_45 ?_
  refine s_name (fun h6 eh6 => ?_)
  have H := H h6 eh6
  refine s_aload_n (pc := 48) C dX6_copyFrom_48 rfl 0 rfl ?_
  refine s_aload_n (pc := 49) C dX6_copyFrom_49 rfl 1 rfl ?_
  refine s_geti (pc := 50) (s := 6) ckX6 (Or.inl rfl) (by decide) kw_130 (fun _ => rfl) C dX6_copyFrom_50 ?_
  refine s_puti (pc := 53) (s := 6) ckX6 (Or.inl rfl) (by decide) kw_130 (fun _ => rfl) rfl rfl rfl C dX6_copyFrom_53 ?_
  refine s_name (fun h7 eh7 => ?_)
  have H := H h7 eh7
  refine s_aload_n (pc := 56) C dX6_copyFrom_56 rfl 0 rfl ?_
  refine s_aload_n (pc := 57) C dX6_copyFrom_57 rfl 1 rfl ?_
  refine s_geti (pc := 58) (s := 7) ckX6 (Or.inl rfl) (by decide) kw_133 (fun _ => rfl) C dX6_copyFrom_58 ?_
  refine s_puti (pc := 61) (s := 7) ckX6 (Or.inl rfl) (by decide) kw_133 (fun _ => rfl) rfl rfl rfl C dX6_copyFrom_61 ?_
  refine s_name (fun h8 eh8 => ?_)
  have H := H h8 eh8
  refine s_aload_n (pc := 64) C dX6_copyFrom_64 rfl 0 rfl ?_
  refine s_aload_n (pc := 65) C dX6_copyFrom_65 rfl 1 rfl ?_
  refine s_geti (pc := 66) (s := 8) ckX6 (Or.inl rfl) (by decide) kw_136 (fun _ => rfl) C dX6_copyFrom_66 ?_
  refine s_puti (pc := 69) (s := 8) ckX6 (Or.inl rfl) (by decide) kw_136 (fun _ => rfl) rfl (g_nz H.1) (g_fz H.1) C dX6_copyFrom_69 ?_
  have H := H.2
  refine s_name (fun h9 eh9 => ?_)
  have H := H h9 eh9
  refine s_aload_n (pc := 72) C dX6_copyFrom_72 rfl 0 rfl ?_
  refine s_aload_n (pc := 73) C dX6_copyFrom_73 rfl 1 rfl ?_
  refine s_geti (pc := 74) (s := 9) ckX6 (Or.inl rfl) (by decide) kw_138 (fun _ => rfl) C dX6_copyFrom_74 ?_
  refine s_puti (pc := 77) (s := 9) ckX6 (Or.inl rfl) (by decide) kw_138 (fun _ => rfl) rfl rfl rfl C dX6_copyFrom_77 ?_
  refine s_name (fun h10 eh10 => ?_)
  have H := H h10 eh10
  refine s_aload_n (pc := 80) C dX6_copyFrom_80 rfl 0 rfl ?_
  refine s_aload_n (pc := 81) C dX6_copyFrom_81 rfl 1 rfl ?_
  refine s_geti (pc := 82) (s := 10) ckX6 (Or.inl rfl) (by decide) kw_141 (fun _ => rfl) C dX6_copyFrom_82 ?_
  refine s_puti (pc := 85) (s := 10) ckX6 (Or.inl rfl) (by decide) kw_141 (fun _ => rfl) rfl rfl rfl C dX6_copyFrom_85 ?_
  refine s_name (fun h11 eh11 => ?_)
  have H := H h11 eh11
  exact s_vret (pc := 88) rfl ⟨by decide, by decide⟩ H C dX6_copyFrom_88
theorem ctX6_copyFrom (l : Launch) (hl : l.stackTraces = false) {G : g_G} (ti : Nat) (tj : Nat) (a0i : Nat) (a0j : Nat) (h : g_Hp) (Q : g_R → g_Hp → Prop) (H : wX6_copyFrom ti tj a0i a0j h Q) : g_Met l y_ G iX6_copyFrom [vR 2 ti tj, vR 2 a0i a0j] h Q :=
  g_Met_of hl (by decide +kernel) rfl rfl (Nat.le_of_ble_eq_true rfl) (fun X C => vX6_copyFrom C ti tj a0i a0j h H)
/-! X1_copyFrom -/
abbrev iX1_copyFrom : g_I := (RX1, yX1_copyFrom, cX1_copyFrom, 3, none, [], { frames := 2, cells := 0, slots := 0, locals := 41 })
set_option maxRecDepth 100000 in
set_option maxHeartbeats 4000000 in
theorem vX1_copyFrom_b2_B {G : g_G} {X : g_X} {Q : g_R → g_Hp → Prop} (C : g_Cx y_ G X iX1_copyFrom) (ti : Nat) (a0i : Nat) (R2 : Int32 → g_Hp → Prop) (hR2 : ∀ (x2 : Int32) (h : g_Hp), R2 x2 h → g_V G X iX1_copyFrom 0 0 Q 2 0 0 [(0, vR 1 ti 0), (1, vR 1 a0i 0), (2, vI x2)] [] h) (x2 : Int32) (h : g_Hp) (H : wX1_copyFrom_b2_B ti a0i Q R2 x2 h) : g_V G X iX1_copyFrom 0 0 Q 2 0 0 [(0, vR 1 ti 0), (1, vR 1 a0i 0), (2, vI x2)] [] h := by
  refine s_iload_n (pc := 2) C dX1_copyFrom_2 rfl 2 rfl ?_
  refine s_aload_n (pc := 3) C dX1_copyFrom_3 rfl 1 rfl ?_
  refine s_geti (pc := 4) (s := 1) ckX1 (Or.inl rfl) (by decide) kw_168 (fun _ => rfl) C dX1_copyFrom_4 ?_
  refine s_icmp_ge (pc := 7) (tgt := 31) C dX1_copyFrom_7 (by decide) (fun c => ?_) (fun c => ?_)
  · have H := H.1 c
    refine s_aload_n (pc := 31) C dX1_copyFrom_31 rfl 0 rfl ?_
    refine s_aload_n (pc := 32) C dX1_copyFrom_32 rfl 1 rfl ?_
    refine s_geti (pc := 33) (s := 1) ckX1 (Or.inl rfl) (by decide) kw_168 (fun _ => rfl) C dX1_copyFrom_33 ?_
    refine s_puti (pc := 36) (s := 1) ckX1 (Or.inl rfl) (by decide) kw_168 (fun _ => rfl) rfl rfl rfl C dX1_copyFrom_36 ?_
    refine s_name (fun h1 eh1 => ?_)
    have H := H h1 eh1
    refine s_aload_n (pc := 39) C dX1_copyFrom_39 rfl 0 rfl ?_
    refine s_aload_n (pc := 40) C dX1_copyFrom_40 rfl 1 rfl ?_
    refine s_geti (pc := 41) (s := 2) ckX1 (Or.inl rfl) (by decide) kw_170 (fun _ => rfl) C dX1_copyFrom_41 ?_
    refine s_puti (pc := 44) (s := 2) ckX1 (Or.inl rfl) (by decide) kw_170 (fun _ => rfl) rfl rfl rfl C dX1_copyFrom_44 ?_
    refine s_name (fun h2 eh2 => ?_)
    have H := H h2 eh2
    refine s_aload_n (pc := 47) C dX1_copyFrom_47 rfl 0 rfl ?_
    refine s_aload_n (pc := 48) C dX1_copyFrom_48 rfl 1 rfl ?_
    refine s_geti (pc := 49) (s := 3) ckX1 (Or.inl rfl) (by decide) kw_172 (fun _ => rfl) C dX1_copyFrom_49 ?_
    refine s_puti (pc := 52) (s := 3) ckX1 (Or.inl rfl) (by decide) kw_172 (fun _ => rfl) rfl rfl rfl C dX1_copyFrom_52 ?_
    refine s_name (fun h3 eh3 => ?_)
    have H := H h3 eh3
    refine s_aload_n (pc := 55) C dX1_copyFrom_55 rfl 0 rfl ?_
    refine s_aload_n (pc := 56) C dX1_copyFrom_56 rfl 1 rfl ?_
    refine s_geti (pc := 57) (s := 4) ckX1 (Or.inl rfl) (by decide) kw_174 (fun _ => rfl) C dX1_copyFrom_57 ?_
    refine s_puti (pc := 60) (s := 4) ckX1 (Or.inl rfl) (by decide) kw_174 (fun _ => rfl) rfl rfl rfl C dX1_copyFrom_60 ?_
    refine s_name (fun h4 eh4 => ?_)
    have H := H h4 eh4
    refine s_aload_n (pc := 63) C dX1_copyFrom_63 rfl 0 rfl ?_
    refine s_aload_n (pc := 64) C dX1_copyFrom_64 rfl 1 rfl ?_
    refine s_geti (pc := 65) (s := 5) ckX1 (Or.inl rfl) (by decide) kw_176 (fun _ => rfl) C dX1_copyFrom_65 ?_
    refine s_puti (pc := 68) (s := 5) ckX1 (Or.inl rfl) (by decide) kw_176 (fun _ => rfl) rfl rfl rfl C dX1_copyFrom_68 ?_
    refine s_name (fun h5 eh5 => ?_)
    have H := H h5 eh5
    refine s_aload_n (pc := 71) C dX1_copyFrom_71 rfl 0 rfl ?_
    refine s_aload_n (pc := 72) C dX1_copyFrom_72 rfl 1 rfl ?_
    refine s_geti (pc := 73) (s := 6) ckX1 (Or.inl rfl) (by decide) kw_178 (fun _ => rfl) C dX1_copyFrom_73 ?_
    refine s_puti (pc := 76) (s := 6) ckX1 (Or.inl rfl) (by decide) kw_178 (fun _ => rfl) rfl (g_nz H.1) (g_fz H.1) C dX1_copyFrom_76 ?_
    have H := H.2
    refine s_name (fun h6 eh6 => ?_)
    have H := H h6 eh6
    refine s_aload_n (pc := 79) C dX1_copyFrom_79 rfl 0 rfl ?_
    refine s_aload_n (pc := 80) C dX1_copyFrom_80 rfl 1 rfl ?_
    refine s_geti (pc := 81) (s := 7) ckX1 (Or.inl rfl) (by decide) kw_180 (fun _ => rfl) C dX1_copyFrom_81 ?_
    refine s_puti (pc := 84) (s := 7) ckX1 (Or.inl rfl) (by decide) kw_180 (fun _ => rfl) rfl rfl rfl C dX1_copyFrom_84 ?_
    refine s_name (fun h7 eh7 => ?_)
    have H := H h7 eh7
    refine s_aload_n (pc := 87) C dX1_copyFrom_87 rfl 0 rfl ?_
    refine s_aload_n (pc := 88) C dX1_copyFrom_88 rfl 1 rfl ?_
    refine s_geti (pc := 89) (s := 8) ckX1 (Or.inl rfl) (by decide) kw_182 (fun _ => rfl) C dX1_copyFrom_89 ?_
    refine s_puti (pc := 92) (s := 8) ckX1 (Or.inl rfl) (by decide) kw_182 (fun _ => rfl) rfl rfl rfl C dX1_copyFrom_92 ?_
    refine s_name (fun h8 eh8 => ?_)
    have H := H h8 eh8
    refine s_aload_n (pc := 95) C dX1_copyFrom_95 rfl 0 rfl ?_
    refine s_aload_n (pc := 96) C dX1_copyFrom_96 rfl 1 rfl ?_
    refine s_geti (pc := 97) (s := 9) ckX1 (Or.inl rfl) (by decide) kw_183 (fun _ => rfl) C dX1_copyFrom_97 ?_
    refine s_puti (pc := 100) (s := 9) ckX1 (Or.inl rfl) (by decide) kw_183 (fun _ => rfl) rfl rfl rfl C dX1_copyFrom_100 ?_
    refine s_name (fun h9 eh9 => ?_)
    have H := H h9 eh9
    refine s_aload_n (pc := 103) C dX1_copyFrom_103 rfl 0 rfl ?_
    refine s_aload_n (pc := 104) C dX1_copyFrom_104 rfl 1 rfl ?_
    refine s_geti (pc := 105) (s := 10) ckX1 (Or.inl rfl) (by decide) kw_185 (fun _ => rfl) C dX1_copyFrom_105 ?_
    refine s_puti (pc := 108) (s := 10) ckX1 (Or.inl rfl) (by decide) kw_185 (fun _ => rfl) rfl rfl rfl C dX1_copyFrom_108 ?_
    refine s_name (fun h10 eh10 => ?_)
    have H := H h10 eh10
    refine s_aload_n (pc := 111) C dX1_copyFrom_111 rfl 0 rfl ?_
    refine s_aload_n (pc := 112) C dX1_copyFrom_112 rfl 1 rfl ?_
    refine s_geti (pc := 113) (s := 11) ckX1 (Or.inl rfl) (by decide) kw_187 (fun _ => rfl) C dX1_copyFrom_113 ?_
    refine s_puti (pc := 116) (s := 11) ckX1 (Or.inl rfl) (by decide) kw_187 (fun _ => rfl) rfl rfl rfl C dX1_copyFrom_116 ?_
    refine s_name (fun h11 eh11 => ?_)
    have H := H h11 eh11
    exact s_vret (pc := 119) rfl ⟨by decide, by decide⟩ H C dX1_copyFrom_119
  · have H := H.2 c
    refine s_aload_n (pc := 10) C dX1_copyFrom_10 rfl 0 rfl ?_
    refine s_getr (pc := 11) (s := 0) (a := 11) (b := ti) (c' := 0) ckX1 (by decide) kw_166 rfl C dX1_copyFrom_11 ?_
    refine s_iload_n (pc := 14) C dX1_copyFrom_14 rfl 2 rfl ?_
    refine s_aald (pc := 15) (kk := 11) (by decide) (by decide) H.1 C dX1_copyFrom_15 ?_
    have H := H.2
    show g_V _ _ _ _ _ _ _ _ _ _ (vR 2 ti (x2.toNatClampNeg) :: _) _
    refine s_nmj (fun j12 ej12 => ?_)
    have H := H j12 ej12
    refine s_aload_n (pc := 16) C dX1_copyFrom_16 rfl 1 rfl ?_
    refine s_getr (pc := 17) (s := 0) (a := 11) (b := a0i) (c' := 0) ckX1 (by decide) kw_166 rfl C dX1_copyFrom_17 ?_
    refine s_iload_n (pc := 20) C dX1_copyFrom_20 rfl 2 rfl ?_
    refine s_aald (pc := 21) (kk := 11) (by decide) (by decide) H.1 C dX1_copyFrom_21 ?_
    have H := H.2
    show g_V _ _ _ _ _ _ _ _ _ _ (vR 2 a0i (x2.toNatClampNeg) :: _) _
    refine s_nmj (fun j13 ej13 => ?_)
    have H := H j13 ej13
    refine s_callv (pc := 22) (nA := 1) (as := [vR 2 a0i j13]) (st := []) (stk := [vR 2 a0i j13, vR 2 ti j12]) ckX6 (Or.inl rfl) C (fun l hl => ctX6_copyFrom l hl ti j12 a0i j13 _ _ H) ⟨⟨kw_546, kw_60, kw_549⟩, rfl, ⟨by decide, by decide, by decide +kernel⟩, by decide, by decide⟩ kw_547 (g_selW kw_548) rfl (Nat.le_of_ble_eq_true rfl) ⟨by decide, by decide⟩ rfl dX1_copyFrom_22 (g_Kq_V (fun h14 H => ?_) (fun E h14 H => s_prop rfl ⟨by decide, by decide⟩ H C))
    refine s_iincN (pc := 25) C dX1_copyFrom_25 2 rfl (z' := (1 : Int32)) (by decide) (by decide) (fun y15 ey15 => ?_)
    have H := H y15 ey15
    show g_V _ _ _ _ _ _ _ _ _ [(2, vI y15), (0, vR 1 ti 0), (1, vR 1 a0i 0)] _ _
    refine s_goto (pc := 28) (tgt := 2) C dX1_copyFrom_28 (by decide) ?_
    exact s_sub (ls' := [(0, vR 1 ti 0), (1, vR 1 a0i 0), (2, vI y15)]) [1, 2, 0] rfl (hR2 y15 h14 H)
theorem vX1_copyFrom_b2 {G : g_G} {X : g_X} {Q : g_R → g_Hp → Prop} (C : g_Cx y_ G X iX1_copyFrom) (ti : Nat) (a0i : Nat) (x2 : Int32) (h : g_Hp) (H : wX1_copyFrom_b2 ti a0i Q x2 h) : g_V G X iX1_copyFrom 0 0 Q 2 0 0 [(0, vR 1 ti 0), (1, vR 1 a0i 0), (2, vI x2)] [] h := by
  obtain ⟨n, H⟩ := H
  induction n generalizing x2 h with
  | zero => exact H.elim
  | succ n ih => exact vX1_copyFrom_b2_B C ti a0i _ (fun x2 h H => ih x2 h H) x2 h H
set_option maxRecDepth 100000 in
set_option maxHeartbeats 4000000 in
theorem vX1_copyFrom {G : g_G} {X : g_X} {Q : g_R → g_Hp → Prop} (C : g_Cx y_ G X iX1_copyFrom) (ti : Nat) (a0i : Nat) (h : g_Hp) (H : wX1_copyFrom ti a0i h Q) : g_V G X iX1_copyFrom 0 0 Q 0 0 0 [(0, vR 1 ti 0), (1, vR 1 a0i 0)] [] h := by
  refine s_iconst (pc := 0) C dX1_copyFrom_0 (x := (0 : Int32)) (by decide) ?_
  refine s_istore_n (pc := 1) (ls' := [(2, vI (0 : Int32)), (0, vR 1 ti 0), (1, vR 1 a0i 0)]) C dX1_copyFrom_1 rfl (by decide) rfl ?_
  exact s_sub (ls' := [(0, vR 1 ti 0), (1, vR 1 a0i 0), (2, vI (0 : Int32))]) [1, 2, 0] rfl (vX1_copyFrom_b2 C ti a0i (0 : Int32) h H)
theorem ctX1_copyFrom (l : Launch) (hl : l.stackTraces = false) {G : g_G} (ti : Nat) (a0i : Nat) (h : g_Hp) (Q : g_R → g_Hp → Prop) (H : wX1_copyFrom ti a0i h Q) : g_Met l y_ G iX1_copyFrom [vR 1 ti 0, vR 1 a0i 0] h Q :=
  g_Met_of hl (by decide +kernel) rfl rfl (Nat.le_of_ble_eq_true rfl) (fun X C => vX1_copyFrom C ti a0i h H)
/-! X1_isMember -/
abbrev iX1_isMember : g_I := (RX1, yX1_isMember, cX1_isMember, 2, (some .boolean), [], { frames := 1, cells := 0, slots := 0, locals := 20 })
set_option maxRecDepth 100000 in
set_option maxHeartbeats 4000000 in
theorem vX1_isMember_b17 {G : g_G} {X : g_X} {Q : g_R → g_Hp → Prop} (C : g_Cx y_ G X iX1_isMember) (ti : Nat) (z0 : Int32) (h : g_Hp) (H : wX1_isMember_b17 ti Q z0 h) : g_V G X iX1_isMember 0 0 Q 17 0 0 [] [vI z0] h := by
  exact s_iret (pc := 17) rfl (g_nz H.1) ⟨by decide, by decide⟩ H.2 C dX1_isMember_17
set_option maxRecDepth 100000 in
set_option maxHeartbeats 4000000 in
theorem vX1_isMember_b16 {G : g_G} {X : g_X} {Q : g_R → g_Hp → Prop} (C : g_Cx y_ G X iX1_isMember) (ti : Nat) (h : g_Hp) (H : wX1_isMember_b16 ti Q h) : g_V G X iX1_isMember 0 0 Q 16 0 0 [] [] h := by
  refine s_iconst (pc := 16) C dX1_isMember_16 (x := (0 : Int32)) (by decide) ?_
  exact s_sub (ls' := []) [] rfl (vX1_isMember_b17 C ti (0 : Int32) h H)
set_option maxRecDepth 100000 in
set_option maxHeartbeats 4000000 in
theorem vX1_isMember {G : g_G} {X : g_X} {Q : g_R → g_Hp → Prop} (C : g_Cx y_ G X iX1_isMember) (ti : Nat) (p0 : Int32) (h : g_Hp) (H : wX1_isMember ti p0 h Q) : g_V G X iX1_isMember 0 0 Q 0 0 0 [(0, vR 1 ti 0), (1, vI p0)] [] h := by
  refine s_iload_n (pc := 0) C dX1_isMember_0 rfl 1 rfl ?_
  refine s_if_lt (pc := 1) (tgt := 16) C dX1_isMember_1 (by decide) (fun c => ?_) (fun c => ?_)
  · have H := H.1 c
    exact s_sub (ls' := []) [] rfl (vX1_isMember_b16 C ti  h H)
  · have H := H.2 c
    refine s_iload_n (pc := 4) C dX1_isMember_4 rfl 1 rfl ?_
    refine s_aload_n (pc := 5) C dX1_isMember_5 rfl 0 rfl ?_
    refine s_geti (pc := 6) (s := 1) ckX1 (Or.inl rfl) (by decide) kw_168 (fun _ => rfl) C dX1_isMember_6 ?_
    refine s_icmp_ge (pc := 9) (tgt := 16) C dX1_isMember_9 (by decide) (fun c => ?_) (fun c => ?_)
    · have H := H.1 c
      exact s_sub (ls' := []) [] rfl (vX1_isMember_b16 C ti  h H)
    · have H := H.2 c
      refine s_iconst (pc := 12) C dX1_isMember_12 (x := (1 : Int32)) (by decide) ?_
      refine s_goto (pc := 13) (tgt := 17) C dX1_isMember_13 (by decide) ?_
      exact s_sub (ls' := []) [] rfl (vX1_isMember_b17 C ti (1 : Int32) h H)
theorem ctX1_isMember (l : Launch) (hl : l.stackTraces = false) {G : g_G} (ti : Nat) (p0 : Int32) (h : g_Hp) (Q : g_R → g_Hp → Prop) (H : wX1_isMember ti p0 h Q) : g_Met l y_ G iX1_isMember [vR 1 ti 0, vI p0] h Q :=
  g_Met_of hl (by decide +kernel) rfl rfl (Nat.le_of_ble_eq_true rfl) (fun X C => vX1_isMember C ti p0 h H)
/-! X7_isRoof -/
abbrev iX7_isRoof : g_I := (RX7, yX7_isRoof, cX7_isRoof, 1, (some .boolean), [], { frames := 1, cells := 0, slots := 0, locals := 20 })
set_option maxRecDepth 100000 in
set_option maxHeartbeats 4000000 in
theorem vX7_isRoof_b15 {G : g_G} {X : g_X} {Q : g_R → g_Hp → Prop} (C : g_Cx y_ G X iX7_isRoof) (z0 : Int32) (h : g_Hp) (H : wX7_isRoof_b15 Q z0 h) : g_V G X iX7_isRoof 0 0 Q 15 0 0 [] [vI z0] h := by
  exact s_iret (pc := 15) rfl (g_nz H.1) ⟨by decide, by decide⟩ H.2 C dX7_isRoof_15
set_option maxRecDepth 100000 in
set_option maxHeartbeats 4000000 in
theorem vX7_isRoof_b14 {G : g_G} {X : g_X} {Q : g_R → g_Hp → Prop} (C : g_Cx y_ G X iX7_isRoof) (h : g_Hp) (H : wX7_isRoof_b14 Q h) : g_V G X iX7_isRoof 0 0 Q 14 0 0 [] [] h := by
  refine s_iconst (pc := 14) C dX7_isRoof_14 (x := (0 : Int32)) (by decide) ?_
  exact s_sub (ls' := []) [] rfl (vX7_isRoof_b15 C (0 : Int32) h H)
set_option maxRecDepth 100000 in
set_option maxHeartbeats 4000000 in
theorem vX7_isRoof {G : g_G} {X : g_X} {Q : g_R → g_Hp → Prop} (C : g_Cx y_ G X iX7_isRoof) (p0 : Int32) (h : g_Hp) (H : wX7_isRoof p0 h Q) : g_V G X iX7_isRoof 0 0 Q 0 0 0 [(0, vI p0)] [] h := by
  refine s_iload_n (pc := 0) C dX7_isRoof_0 rfl 0 rfl ?_
  refine s_if_lt (pc := 1) (tgt := 14) C dX7_isRoof_1 (by decide) (fun c => ?_) (fun c => ?_)
  · have H := H.1 c
    exact s_sub (ls' := []) [] rfl (vX7_isRoof_b14 C  h H)
  · have H := H.2 c
    refine s_iload_n (pc := 4) C dX7_isRoof_4 rfl 0 rfl ?_
    refine s_bipush (pc := 5) C dX7_isRoof_5 (x := (10 : Int32)) (by decide) ?_
    refine s_icmp_ge (pc := 7) (tgt := 14) C dX7_isRoof_7 (by decide) (fun c => ?_) (fun c => ?_)
    · have H := H.1 c
      exact s_sub (ls' := []) [] rfl (vX7_isRoof_b14 C  h H)
    · have H := H.2 c
      refine s_iconst (pc := 10) C dX7_isRoof_10 (x := (1 : Int32)) (by decide) ?_
      refine s_goto (pc := 11) (tgt := 15) C dX7_isRoof_11 (by decide) ?_
      exact s_sub (ls' := []) [] rfl (vX7_isRoof_b15 C (1 : Int32) h H)
theorem ctX7_isRoof (l : Launch) (hl : l.stackTraces = false) {G : g_G} (p0 : Int32) (h : g_Hp) (Q : g_R → g_Hp → Prop) (H : wX7_isRoof p0 h Q) : g_Met l y_ G iX7_isRoof [vI p0] h Q :=
  g_Met_of hl (by decide +kernel) rfl rfl (Nat.le_of_ble_eq_true rfl) (fun X C => vX7_isRoof C p0 h H)
/-! X1_faultOfAdding -/
abbrev iX1_faultOfAdding : g_I := (RX1, yX1_faultOfAdding, cX1_faultOfAdding, 3, (some (.object "VaneUnion$Fault")), [], { frames := 2, cells := 0, slots := 0, locals := 40 })
set_option maxRecDepth 100000 in
set_option maxHeartbeats 4000000 in
theorem vX1_faultOfAdding_b22 {G : g_G} {X : g_X} {Q : g_R → g_Hp → Prop} (C : g_Cx y_ G X iX1_faultOfAdding) (ti : Nat) (h : g_Hp) (H : wX1_faultOfAdding_b22 ti Q h) : g_V G X iX1_faultOfAdding 0 0 Q 22 0 0 [] [] h := by
  refine s_gets (pc := 22) zs_BAD_ARGUMENT (g_cst_R rfl) kw_589 C dX1_faultOfAdding_22 ?_
  exact s_aret (pc := 25) rfl (Or.inl ⟨_, rfl⟩) ⟨by decide, by decide⟩ H C dX1_faultOfAdding_25
set_option maxRecDepth 100000 in
set_option maxHeartbeats 4000000 in
theorem vX1_faultOfAdding_b44 {G : g_G} {X : g_X} {Q : g_R → g_Hp → Prop} (C : g_Cx y_ G X iX1_faultOfAdding) (ti : Nat) (z0i : Nat) (h : g_Hp) (H : wX1_faultOfAdding_b44 ti Q z0i h) : g_V G X iX1_faultOfAdding 0 0 Q 44 0 0 [] [vR 20 z0i 0] h := by
  exact s_aret (pc := 44) rfl (Or.inl ⟨_, rfl⟩) ⟨by decide, by decide⟩ H C dX1_faultOfAdding_44
set_option maxRecDepth 100000 in
set_option maxHeartbeats 4000000 in
theorem vX1_faultOfAdding {G : g_G} {X : g_X} {Q : g_R → g_Hp → Prop} (C : g_Cx y_ G X iX1_faultOfAdding) (ti : Nat) (p0 : Int32) (p1 : Int32) (h : g_Hp) (H : wX1_faultOfAdding ti p0 p1 h Q) : g_V G X iX1_faultOfAdding 0 0 Q 0 0 0 [(0, vR 1 ti 0), (1, vI p0), (2, vI p1)] [] h := by
  refine s_iload_n (pc := 0) C dX1_faultOfAdding_0 rfl 1 rfl ?_
  refine s_calln (pc := 1) (nA := 1) (as := [vI p0]) (st := []) (stk := [vI p0]) ns_RX1_57 C (fun l hl => ctX7_isRoof l hl p0 _ _ H) ⟨kw_58, kw_586, kw_585⟩ rfl ⟨by decide, by decide, by decide +kernel⟩ ⟨by decide, by decide⟩ rfl (Nat.le_of_ble_eq_true rfl) ⟨by decide, by decide⟩ rfl dX1_faultOfAdding_1 (g_Kq_I (fun u2 h1 H => ?_) (fun E h1 H => s_prop rfl ⟨by decide, by decide⟩ H C))
  refine s_if_ne (pc := 4) (tgt := 11) C dX1_faultOfAdding_4 (by decide) (fun c => ?_) (fun c => ?_)
  · have H := H.1 c
    refine s_iload_n (pc := 11) C dX1_faultOfAdding_11 rfl 2 rfl ?_
    refine s_iconst (pc := 12) C dX1_faultOfAdding_12 (x := (1 : Int32)) (by decide) ?_
    refine s_icmp_lt (pc := 13) (tgt := 22) C dX1_faultOfAdding_13 (by decide) (fun c => ?_) (fun c => ?_)
    · have H := H.1 c
      exact s_sub (ls' := []) [] rfl (vX1_faultOfAdding_b22 C ti  h1 H)
    · have H := H.2 c
      refine s_iload_n (pc := 16) C dX1_faultOfAdding_16 rfl 2 rfl ?_
      refine s_bipush (pc := 17) C dX1_faultOfAdding_17 (x := (20 : Int32)) (by decide) ?_
      refine s_icmp_le (pc := 19) (tgt := 26) C dX1_faultOfAdding_19 (by decide) (fun c => ?_) (fun c => ?_)
      · have H := H.1 c
        refine s_aload_n (pc := 26) C dX1_faultOfAdding_26 rfl 0 rfl ?_
        refine s_geti (pc := 27) (s := 1) ckX1 (Or.inl rfl) (by decide) kw_168 (fun _ => rfl) C dX1_faultOfAdding_27 ?_
        refine s_bipush (pc := 30) C dX1_faultOfAdding_30 (x := (12 : Int32)) (by decide) ?_
        refine s_icmp_lt (pc := 32) (tgt := 41) C dX1_faultOfAdding_32 (by decide) (fun c => ?_) (fun c => ?_)
        · have H := H.1 c
          refine s_gets (pc := 41) zs_NOTHING (g_cst_R rfl) kw_593 C dX1_faultOfAdding_41 ?_
          exact s_sub (ls' := []) [] rfl (vX1_faultOfAdding_b44 C ti 0 h1 H)
        · have H := H.2 c
          refine s_gets (pc := 35) zs_BAD_STATE (g_cst_R rfl) kw_591 C dX1_faultOfAdding_35 ?_
          refine s_goto (pc := 38) (tgt := 44) C dX1_faultOfAdding_38 (by decide) ?_
          exact s_sub (ls' := []) [] rfl (vX1_faultOfAdding_b44 C ti 3 h1 H)
      · have H := H.2 c
        exact s_sub (ls' := []) [] rfl (vX1_faultOfAdding_b22 C ti  h1 H)
  · have H := H.2 c
    refine s_gets (pc := 7) zs_NO_INDEX (g_cst_R rfl) kw_587 C dX1_faultOfAdding_7 ?_
    exact s_aret (pc := 10) rfl (Or.inl ⟨_, rfl⟩) ⟨by decide, by decide⟩ H C dX1_faultOfAdding_10
theorem ctX1_faultOfAdding (l : Launch) (hl : l.stackTraces = false) {G : g_G} (ti : Nat) (p0 : Int32) (p1 : Int32) (h : g_Hp) (Q : g_R → g_Hp → Prop) (H : wX1_faultOfAdding ti p0 p1 h Q) : g_Met l y_ G iX1_faultOfAdding [vR 1 ti 0, vI p0, vI p1] h Q :=
  g_Met_of hl (by decide +kernel) rfl rfl (Nat.le_of_ble_eq_true rfl) (fun X C => vX1_faultOfAdding C ti p0 p1 h H)
/-! X6_start -/
abbrev iX6_start : g_I := (RX6, yX6_start, cX6_start, 3, none, [], { frames := 1, cells := 0, slots := 0, locals := 20 })
set_option maxRecDepth 100000 in
set_option maxHeartbeats 4000000 in
theorem vX6_start {G : g_G} {X : g_X} {Q : g_R → g_Hp → Prop} (C : g_Cx y_ G X iX6_start) (ti : Nat) (tj : Nat) (p0 : Int32) (p1 : Int32) (h : g_Hp) (H : wX6_start ti tj p0 p1 h Q) : g_V G X iX6_start 0 0 Q 0 0 0 [(0, vR 2 ti tj), (1, vI p0), (2, vI p1)] [] h := by
  refine s_aload_n (pc := 0) C dX6_start_0 rfl 0 rfl ?_
  refine s_iload_n (pc := 1) C dX6_start_1 rfl 1 rfl ?_
  refine s_puti (pc := 2) (s := 0) ckX6 (Or.inl rfl) (by decide) kw_112 (fun _ => rfl) rfl rfl rfl C dX6_start_2 ?_
  refine s_name (fun h1 eh1 => ?_)
  have H := H h1 eh1
  refine s_aload_n (pc := 5) C dX6_start_5 rfl 0 rfl ?_
  refine s_iload_n (pc := 6) C dX6_start_6 rfl 2 rfl ?_
  refine s_puti (pc := 7) (s := 1) ckX6 (Or.inl rfl) (by decide) kw_115 (fun _ => rfl) rfl rfl rfl C dX6_start_7 ?_
  refine s_name (fun h2 eh2 => ?_)
  have H := H h2 eh2
  refine s_aload_n (pc := 10) C dX6_start_10 rfl 0 rfl ?_
  refine s_iconst (pc := 11) C dX6_start_11 (x := (0 : Int32)) (by decide) ?_
  refine s_puti (pc := 12) (s := 2) ckX6 (Or.inl rfl) (by decide) kw_118 (fun _ => rfl) rfl rfl rfl C dX6_start_12 ?_
  refine s_name (fun h3 eh3 => ?_)
  have H := H h3 eh3
  refine s_aload_n (pc := 15) C dX6_start_15 rfl 0 rfl ?_
  refine s_iconst (pc := 16) C dX6_start_16 (x := (0 : Int32)) (by decide) ?_
  refine s_puti (pc := 17) (s := 3) ckX6 (Or.inl rfl) (by decide) kw_121 (fun _ => rfl) rfl rfl rfl C dX6_start_17 ?_
  refine s_name (fun h4 eh4 => ?_)
  have H := H h4 eh4
  refine s_aload_n (pc := 20) C dX6_start_20 rfl 0 rfl ?_
  refine s_iconst (pc := 21) C dX6_start_21 (x := (0 : Int32)) (by decide) ?_
  refine s_puti (pc := 22) (s := 4) ckX6 (Or.inl rfl) (by decide) kw_124 (fun _ => rfl) rfl rfl rfl C dX6_start_22 ?_
  refine s_name (fun h5 eh5 => ?_)
  have H := H h5 eh5
  refine s_aload_n (pc := 25) C dX6_start_25 rfl 0 rfl ?_
  refine s_iconst (pc := 26) C dX6_start_26 (x := (0 : Int32)) (by decide) ?_
  refine s_puti (pc := 27) (s := 5) ckX6 (Or.inl rfl) (by decide) kw_127 (fun _ => rfl) rfl rfl rfl C dX6_start_27 ?_
  refine s_name (fun h6 eh6 => ?_)
  have H := H h6 eh6
  refine s_aload_n (pc := 30) C dX6_start_30 rfl 0 rfl ?_
  refine s_iconst (pc := 31) C dX6_start_31 (x := (0 : Int32)) (by decide) ?_
  refine s_puti (pc := 32) (s := 6) ckX6 (Or.inl rfl) (by decide) kw_130 (fun _ => rfl) rfl rfl rfl C dX6_start_32 ?_
  refine s_name (fun h7 eh7 => ?_)
  have H := H h7 eh7
  refine s_aload_n (pc := 35) C dX6_start_35 rfl 0 rfl ?_
  refine s_iconst (pc := 36) C dX6_start_36 (x := (0 : Int32)) (by decide) ?_
  refine s_puti (pc := 37) (s := 7) ckX6 (Or.inl rfl) (by decide) kw_133 (fun _ => rfl) rfl rfl rfl C dX6_start_37 ?_
  refine s_name (fun h8 eh8 => ?_)
  have H := H h8 eh8
  refine s_aload_n (pc := 40) C dX6_start_40 rfl 0 rfl ?_
  refine s_iconst (pc := 41) C dX6_start_41 (x := (0 : Int32)) (by decide) ?_
  refine s_puti (pc := 42) (s := 8) ckX6 (Or.inl rfl) (by decide) kw_136 (fun _ => rfl) rfl (by decide) (by decide) C dX6_start_42 ?_
  refine s_name (fun h9 eh9 => ?_)
  have H := H h9 eh9
  refine s_aload_n (pc := 45) C dX6_start_45 rfl 0 rfl ?_
  refine s_iconst (pc := 46) C dX6_start_46 (x := (-1 : Int32)) (by decide) ?_
  refine s_puti (pc := 47) (s := 9) ckX6 (Or.inl rfl) (by decide) kw_138 (fun _ => rfl) rfl rfl rfl C dX6_start_47 ?_
  refine s_name (fun h10 eh10 => ?_)
  have H := H h10 eh10
  refine s_aload_n (pc := 50) C dX6_start_50 rfl 0 rfl ?_
  refine s_iconst (pc := 51) C dX6_start_51 (x := (0 : Int32)) (by decide) ?_
  refine s_puti (pc := 52) (s := 10) ckX6 (Or.inl rfl) (by decide) kw_141 (fun _ => rfl) rfl rfl rfl C dX6_start_52 ?_
  refine s_name (fun h11 eh11 => ?_)
  have H := H h11 eh11
  exact s_vret (pc := 55) rfl ⟨by decide, by decide⟩ H C dX6_start_55
theorem ctX6_start (l : Launch) (hl : l.stackTraces = false) {G : g_G} (ti : Nat) (tj : Nat) (p0 : Int32) (p1 : Int32) (h : g_Hp) (Q : g_R → g_Hp → Prop) (H : wX6_start ti tj p0 p1 h Q) : g_Met l y_ G iX6_start [vR 2 ti tj, vI p0, vI p1] h Q :=
  g_Met_of hl (by decide +kernel) rfl rfl (Nat.le_of_ble_eq_true rfl) (fun X C => vX6_start C ti tj p0 p1 h H)
