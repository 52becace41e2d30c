/-! X6_start -/
def wX6_start (ti : Nat) (tj : Nat) (p0 : Int32) (p1 : Int32) (h : g_Hp) (Q : g_R → g_Hp → Prop) : Prop := ∀ h1 : g_Hp, h1 = g_up h 2 ti tj 1 p0 → ∀ h2 : g_Hp, h2 = g_up h1 2 ti tj 2 p1 → ∀ h3 : g_Hp, h3 = g_up h2 2 ti tj 3 (0 : Int32) → ∀ h4 : g_Hp, h4 = g_up h3 2 ti tj 4 (0 : Int32) → ∀ h5 : g_Hp, h5 = g_up h4 2 ti tj 5 (0 : Int32) → ∀ h6 : g_Hp, h6 = g_up h5 2 ti tj 6 (0 : Int32) → ∀ h7 : g_Hp, h7 = g_up h6 2 ti tj 7 (0 : Int32) → ∀ h8 : g_Hp, h8 = g_up h7 2 ti tj 8 (0 : Int32) → ∀ h9 : g_Hp, h9 = g_up h8 2 ti tj 9 (0 : Int32) → ∀ h10 : g_Hp, h10 = g_up h9 2 ti tj 10 (-1 : Int32) → ∀ h11 : g_Hp, h11 = g_up h10 2 ti tj 11 (0 : Int32) → Q (.inl none) h11
set_option maxRecDepth 100000 in
set_option maxHeartbeats 4000000 in
theorem vX6_start {G : g_G} {X : g_X} {Q : g_R → g_Hp → Prop} (C : g_Cx y_ G X iX6_start) (ti : Nat) (tj : Nat) (p0 : Int32) (p1 : Int32) (h : g_Hp) (H : wX6_start ti tj p0 p1 h Q) : g_V G X iX6_start 0 0 Q 0 0 0 [(0, vR 2 ti tj), (1, vI p0), (2, vI p1)] [] h := by
  refine s_aload_n (pc := 0) C dX6_start_0 rfl 0 rfl ?_
  refine s_iload_n (pc := 1) C dX6_start_1 rfl 1 rfl ?_
  refine s_puti (pc := 2) (s := 0) ckX6 (Or.inl rfl) (by decide) kw_112 (fun _ => rfl) rfl rfl rfl C dX6_start_2 ?_
  refine s_name (fun h1 eh1 => ?_)
  have H := H h1 eh1
  refine s_aload_n (pc := 5) C dX6_start_5 rfl 0 rfl ?_
  refine s_iload_n (pc := 6) C dX6_start_6 rfl 2 rfl ?_
  refine s_puti (pc := 7) (s := 1) ckX6 (Or.inl rfl) (by decide) kw_115 (fun _ => rfl) rfl rfl rfl C dX6_start_7 ?_
  refine s_name (fun h2 eh2 => ?_)
  have H := H h2 eh2
  refine s_aload_n (pc := 10) C dX6_start_10 rfl 0 rfl ?_
  refine s_iconst (pc := 11) C dX6_start_11 (x := (0 : Int32)) (by decide) ?_
  refine s_puti (pc := 12) (s := 2) ckX6 (Or.inl rfl) (by decide) kw_118 (fun _ => rfl) rfl rfl rfl C dX6_start_12 ?_
  refine s_name (fun h3 eh3 => ?_)
  have H := H h3 eh3
  refine s_aload_n (pc := 15) C dX6_start_15 rfl 0 rfl ?_
  refine s_iconst (pc := 16) C dX6_start_16 (x := (0 : Int32)) (by decide) ?_
  refine s_puti (pc := 17) (s := 3) ckX6 (Or.inl rfl) (by decide) kw_121 (fun _ => rfl) rfl rfl rfl C dX6_start_17 ?_
  refine s_name (fun h4 eh4 => ?_)
  have H := H h4 eh4
  refine s_aload_n (pc := 20) C dX6_start_20 rfl 0 rfl ?_
  refine s_iconst (pc := 21) C dX6_start_21 (x := (0 : Int32)) (by decide) ?_
  refine s_puti (pc := 22) (s := 4) ckX6 (Or.inl rfl) (by decide) kw_124 (fun _ => rfl) rfl rfl rfl C dX6_start_22 ?_
  refine s_name (fun h5 eh5 => ?_)
  have H := H h5 eh5
  refine s_aload_n (pc := 25) C dX6_start_25 rfl 0 rfl ?_
  refine s_iconst (pc := 26) C dX6_start_26 (x := (0 : Int32)) (by decide) ?_
  refine s_puti (pc := 27) (s := 5) ckX6 (Or.inl rfl) (by decide) kw_127 (fun _ => rfl) rfl rfl rfl C dX6_start_27 ?_
  refine s_name (fun h6 eh6 => ?_)
  have H := H h6 eh6
  refine s_aload_n (pc := 30) C dX6_start_30 rfl 0 rfl ?_
  refine s_iconst (pc := 31) C dX6_start_31 (x := (0 : Int32)) (by decide) ?_
  refine s_puti (pc := 32) (s := 6) ckX6 (Or.inl rfl) (by decide) kw_130 (fun _ => rfl) rfl rfl rfl C dX6_start_32 ?_
  refine s_name (fun h7 eh7 => ?_)
  have H := H h7 eh7
  refine s_aload_n (pc := 35) C dX6_start_35 rfl 0 rfl ?_
  refine s_iconst (pc := 36) C dX6_start_36 (x := (0 : Int32)) (by decide) ?_
  refine s_puti (pc := 37) (s := 7) ckX6 (Or.inl rfl) (by decide) kw_133 (fun _ => rfl) rfl rfl rfl C dX6_start_37 ?_
  refine s_name (fun h8 eh8 => ?_)
  have H := H h8 eh8
  refine s_aload_n (pc := 40) C dX6_start_40 rfl 0 rfl ?_
  refine s_iconst (pc := 41) C dX6_start_41 (x := (0 : Int32)) (by decide) ?_
  refine s_puti (pc := 42) (s := 8) ckX6 (Or.inl rfl) (by decide) kw_136 (fun _ => rfl) rfl (by decide) (by decide) C dX6_start_42 ?_
  refine s_name (fun h9 eh9 => ?_)
  have H := H h9 eh9
  refine s_aload_n (pc := 45) C dX6_start_45 rfl 0 rfl ?_
  refine s_iconst (pc := 46) C dX6_start_46 (x := (-1 : Int32)) (by decide) ?_
  refine s_puti (pc := 47) (s := 9) ckX6 (Or.inl rfl) (by decide) kw_138 (fun _ => rfl) rfl rfl rfl C dX6_start_47 ?_
  refine s_name (fun h10 eh10 => ?_)
  have H := H h10 eh10
  refine s_aload_n (pc := 50) C dX6_start_50 rfl 0 rfl ?_
  refine s_iconst (pc := 51) C dX6_start_51 (x := (0 : Int32)) (by decide) ?_
  refine s_puti (pc := 52) (s := 10) ckX6 (Or.inl rfl) (by decide) kw_141 (fun _ => rfl) rfl rfl rfl C dX6_start_52 ?_
  refine s_name (fun h11 eh11 => ?_)
  have H := H h11 eh11
  exact s_vret (pc := 55) rfl ⟨by decide, by decide⟩ H C dX6_start_55
theorem ctX6_start (l : Launch) (hl : l.stackTraces = false) {G : g_G} (ti : Nat) (tj : Nat) (p0 : Int32) (p1 : Int32) (h : g_Hp) (Q : g_R → g_Hp → Prop) (H : wX6_start ti tj p0 p1 h Q) : g_Met l y_ G iX6_start [vR 2 ti tj, vI p0, vI p1] h Q :=
  g_Met_of hl (by decide +kernel) rfl rfl (Nat.le_of_ble_eq_true rfl) (fun X C => vX6_start C ti tj p0 p1 h H)
/-! X7_isRoof -/
def wX7_isRoof_b15 (Q : g_R → g_Hp → Prop) (z0 : Int32) (h : g_Hp) : Prop := (z0 = 0 ∨ z0 = 1) ∧ Q (.inl (some (vI z0))) h
def wX7_isRoof_b14 (Q : g_R → g_Hp → Prop) (h : g_Hp) : Prop := wX7_isRoof_b15 Q (0 : Int32) h
def wX7_isRoof (p0 : Int32) (h : g_Hp) (Q : g_R → g_Hp → Prop) : Prop := ((p0 < 0) → wX7_isRoof_b14 Q  h) ∧ ((¬ p0 < 0) → (((10 : Int32) ≤ p0) → wX7_isRoof_b14 Q  h) ∧ ((¬ (10 : Int32) ≤ p0) → wX7_isRoof_b15 Q (1 : Int32) h))
set_option maxRecDepth 100000 in
set_option maxHeartbeats 4000000 in
theorem vX7_isRoof_b15 {G : g_G} {X : g_X} {Q : g_R → g_Hp → Prop} (C : g_Cx y_ G X iX7_isRoof) (z0 : Int32) (h : g_Hp) (H : wX7_isRoof_b15 Q z0 h) : g_V G X iX7_isRoof 0 0 Q 15 0 0 [] [vI z0] h := by
  exact s_iret (pc := 15) rfl (g_nz H.1) ⟨by decide, by decide⟩ H.2 C dX7_isRoof_15
set_option maxRecDepth 100000 in
set_option maxHeartbeats 4000000 in
theorem vX7_isRoof_b14 {G : g_G} {X : g_X} {Q : g_R → g_Hp → Prop} (C : g_Cx y_ G X iX7_isRoof) (h : g_Hp) (H : wX7_isRoof_b14 Q h) : g_V G X iX7_isRoof 0 0 Q 14 0 0 [] [] h := by
  refine s_iconst (pc := 14) C dX7_isRoof_14 (x := (0 : Int32)) (by decide) ?_
  exact s_sub (ls' := []) [] rfl (vX7_isRoof_b15 C (0 : Int32) h H)
set_option maxRecDepth 100000 in
set_option maxHeartbeats 4000000 in
theorem vX7_isRoof {G : g_G} {X : g_X} {Q : g_R → g_Hp → Prop} (C : g_Cx y_ G X iX7_isRoof) (p0 : Int32) (h : g_Hp) (H : wX7_isRoof p0 h Q) : g_V G X iX7_isRoof 0 0 Q 0 0 0 [(0, vI p0)] [] h := by
  refine s_iload_n (pc := 0) C dX7_isRoof_0 rfl 0 rfl ?_
  refine s_if_lt (pc := 1) (tgt := 14) C dX7_isRoof_1 (by decide) (fun c => ?_) (fun c => ?_)
  · have H := H.1 c
    exact s_sub (ls' := []) [] rfl (vX7_isRoof_b14 C  h H)
  · have H := H.2 c
    refine s_iload_n (pc := 4) C dX7_isRoof_4 rfl 0 rfl ?_
    refine s_bipush (pc := 5) C dX7_isRoof_5 (x := (10 : Int32)) (by decide) ?_
    refine s_icmp_ge (pc := 7) (tgt := 14) C dX7_isRoof_7 (by decide) (fun c => ?_) (fun c => ?_)
    · have H := H.1 c
      exact s_sub (ls' := []) [] rfl (vX7_isRoof_b14 C  h H)
    · have H := H.2 c
      refine s_iconst (pc := 10) C dX7_isRoof_10 (x := (1 : Int32)) (by decide) ?_
      refine s_goto (pc := 11) (tgt := 15) C dX7_isRoof_11 (by decide) ?_
      exact s_sub (ls' := []) [] rfl (vX7_isRoof_b15 C (1 : Int32) h H)
theorem ctX7_isRoof (l : Launch) (hl : l.stackTraces = false) {G : g_G} (p0 : Int32) (h : g_Hp) (Q : g_R → g_Hp → Prop) (H : wX7_isRoof p0 h Q) : g_Met l y_ G iX7_isRoof [vI p0] h Q :=
  g_Met_of hl (by decide +kernel) rfl rfl (Nat.le_of_ble_eq_true rfl) (fun X C => vX7_isRoof C p0 h H)
/-! X1_isMember -/
def wX1_isMember_b17 (ti : Nat) (Q : g_R → g_Hp → Prop) (z0 : Int32) (h : g_Hp) : Prop := (z0 = 0 ∨ z0 = 1) ∧ Q (.inl (some (vI z0))) h
def wX1_isMember_b16 (ti : Nat) (Q : g_R → g_Hp → Prop) (h : g_Hp) : Prop := wX1_isMember_b17 ti Q (0 : Int32) h
def wX1_isMember (ti : Nat) (p0 : Int32) (h : g_Hp) (Q : g_R → g_Hp → Prop) : Prop := ((p0 < 0) → wX1_isMember_b16 ti Q  h) ∧ ((¬ p0 < 0) → (((h 1 ti 0 2) ≤ p0) → wX1_isMember_b16 ti Q  h) ∧ ((¬ (h 1 ti 0 2) ≤ p0) → wX1_isMember_b17 ti Q (1 : Int32) h))
set_option maxRecDepth 100000 in
set_option maxHeartbeats 4000000 in
theorem vX1_isMember_b17 {G : g_G} {X : g_X} {Q : g_R → g_Hp → Prop} (C : g_Cx y_ G X iX1_isMember) (ti : Nat) (z0 : Int32) (h : g_Hp) (H : wX1_isMember_b17 ti Q z0 h) : g_V G X iX1_isMember 0 0 Q 17 0 0 [] [vI z0] h := by
  exact s_iret (pc := 17) rfl (g_nz H.1) ⟨by decide, by decide⟩ H.2 C dX1_isMember_17
set_option maxRecDepth 100000 in
set_option maxHeartbeats 4000000 in
theorem vX1_isMember_b16 {G : g_G} {X : g_X} {Q : g_R → g_Hp → Prop} (C : g_Cx y_ G X iX1_isMember) (ti : Nat) (h : g_Hp) (H : wX1_isMember_b16 ti Q h) : g_V G X iX1_isMember 0 0 Q 16 0 0 [] [] h := by
  refine s_iconst (pc := 16) C dX1_isMember_16 (x := (0 : Int32)) (by decide) ?_
  exact s_sub (ls' := []) [] rfl (vX1_isMember_b17 C ti (0 : Int32) h H)
set_option maxRecDepth 100000 in
set_option maxHeartbeats 4000000 in
theorem vX1_isMember {G : g_G} {X : g_X} {Q : g_R → g_Hp → Prop} (C : g_Cx y_ G X iX1_isMember) (ti : Nat) (p0 : Int32) (h : g_Hp) (H : wX1_isMember ti p0 h Q) : g_V G X iX1_isMember 0 0 Q 0 0 0 [(0, vR 1 ti 0), (1, vI p0)] [] h := by
  refine s_iload_n (pc := 0) C dX1_isMember_0 rfl 1 rfl ?_
  refine s_if_lt (pc := 1) (tgt := 16) C dX1_isMember_1 (by decide) (fun c => ?_) (fun c => ?_)
  · have H := H.1 c
    exact s_sub (ls' := []) [] rfl (vX1_isMember_b16 C ti  h H)
  · have H := H.2 c
    refine s_iload_n (pc := 4) C dX1_isMember_4 rfl 1 rfl ?_
    refine s_aload_n (pc := 5) C dX1_isMember_5 rfl 0 rfl ?_
    refine s_geti (pc := 6) (s := 1) ckX1 (Or.inl rfl) (by decide) kw_168 (fun _ => rfl) C dX1_isMember_6 ?_
    refine s_icmp_ge (pc := 9) (tgt := 16) C dX1_isMember_9 (by decide) (fun c => ?_) (fun c => ?_)
    · have H := H.1 c
      exact s_sub (ls' := []) [] rfl (vX1_isMember_b16 C ti  h H)
    · have H := H.2 c
      refine s_iconst (pc := 12) C dX1_isMember_12 (x := (1 : Int32)) (by decide) ?_
      refine s_goto (pc := 13) (tgt := 17) C dX1_isMember_13 (by decide) ?_
      exact s_sub (ls' := []) [] rfl (vX1_isMember_b17 C ti (1 : Int32) h H)
theorem ctX1_isMember (l : Launch) (hl : l.stackTraces = false) {G : g_G} (ti : Nat) (p0 : Int32) (h : g_Hp) (Q : g_R → g_Hp → Prop) (H : wX1_isMember ti p0 h Q) : g_Met l y_ G iX1_isMember [vR 1 ti 0, vI p0] h Q :=
  g_Met_of hl (by decide +kernel) rfl rfl (Nat.le_of_ble_eq_true rfl) (fun X C => vX1_isMember C ti p0 h H)
/-! X1_add -/
def wX1_add (ti : Nat) (p0 : Int32) (p1 : Int32) (h : g_Hp) (Q : g_R → g_Hp → Prop) : Prop := ∀ y1 : Int32, y1 = h 1 ti 0 2 → vp_in y1 12 ∧ ∀ j2 : Nat, j2 = y1.toNatClampNeg → wX6_start ti j2 p0 p1 h (g_kV (fun h3 => ∀ h4 : g_Hp, h4 = g_up h3 1 ti 0 2 ((h3 1 ti 0 2) + (1 : Int32)) → Q (.inl (some (vI y1))) h4) (fun E h3 => Q (.inr E) h3))
set_option maxRecDepth 100000 in
set_option maxHeartbeats 4000000 in
theorem vX1_add {G : g_G} {X : g_X} {Q : g_R → g_Hp → Prop} (C : g_Cx y_ G X iX1_add) (ti : Nat) (p0 : Int32) (p1 : Int32) (h : g_Hp) (H : wX1_add ti p0 p1 h Q) : g_V G X iX1_add 0 0 Q 0 0 0 [(0, vR 1 ti 0), (1, vI p0), (2, vI p1)] [] h := by
  refine s_aload_n (pc := 0) C dX1_add_0 rfl 0 rfl ?_
  refine s_geti (pc := 1) (s := 1) ckX1 (Or.inl rfl) (by decide) kw_168 (fun _ => rfl) C dX1_add_1 ?_
  refine s_namei (fun y1 ey1 => ?_)
  have H := H y1 ey1
  refine s_istore_n (pc := 4) (ls' := [(3, vI y1), (0, vR 1 ti 0), (1, vI p0), (2, vI p1)]) C dX1_add_4 rfl (by decide) rfl ?_
  refine s_aload_n (pc := 5) C dX1_add_5 rfl 1 rfl ?_
  refine s_getr (pc := 6) (s := 0) (a := 11) (b := ti) (c' := 0) ckX1 (by decide) kw_166 rfl C dX1_add_6 ?_
  refine s_iload_n (pc := 9) C dX1_add_9 rfl 0 rfl ?_
  refine s_aald (pc := 10) (kk := 11) (by decide) (by decide) H.1 C dX1_add_10 ?_
  have H := H.2
  show g_V _ _ _ _ _ _ _ _ _ _ (vR 2 ti (y1.toNatClampNeg) :: _) _
  refine s_nmj (fun j2 ej2 => ?_)
  have H := H j2 ej2
  refine s_iload_n (pc := 11) C dX1_add_11 rfl 2 rfl ?_
  refine s_iload_n (pc := 12) C dX1_add_12 rfl 3 rfl ?_
  refine s_callv (pc := 13) (nA := 2) (as := [vI p0, vI p1]) (st := []) (stk := [vI p1, vI p0, vR 2 ti j2]) ckX6 (Or.inl rfl) C (fun l hl => ctX6_start l hl ti j2 p0 p1 _ _ H) ⟨⟨kw_679, kw_60, kw_682⟩, rfl, ⟨by decide, by decide, by decide +kernel⟩, by decide, by decide⟩ kw_680 kw_681 rfl (Nat.le_of_ble_eq_true rfl) ⟨by decide, by decide⟩ rfl dX1_add_13 (g_Kq_V (fun h3 H => ?_) (fun E h3 H => s_prop rfl ⟨by decide, by decide⟩ H C))
  refine s_aload_n (pc := 16) C dX1_add_16 rfl 1 rfl ?_
  refine s_dup (pc := 17) C dX1_add_17 rfl ?_
  refine s_geti (pc := 18) (s := 1) ckX1 (Or.inl rfl) (by decide) kw_168 (fun _ => rfl) C dX1_add_18 ?_
  refine s_iconst (pc := 21) C dX1_add_21 (x := (1 : Int32)) (by decide) ?_
  refine s_iadd (pc := 22) C dX1_add_22 ?_
  refine s_puti (pc := 23) (s := 1) ckX1 (Or.inl rfl) (by decide) kw_168 (fun _ => rfl) rfl rfl rfl C dX1_add_23 ?_
  refine s_name (fun h4 eh4 => ?_)
  have H := H h4 eh4
  refine s_iload_n (pc := 26) C dX1_add_26 rfl 0 rfl ?_
  exact s_iret (pc := 27) rfl rfl ⟨by decide, by decide⟩ H C dX1_add_27
theorem ctX1_add (l : Launch) (hl : l.stackTraces = false) {G : g_G} (ti : Nat) (p0 : Int32) (p1 : Int32) (h : g_Hp) (Q : g_R → g_Hp → Prop) (H : wX1_add ti p0 p1 h Q) : g_Met l y_ G iX1_add [vR 1 ti 0, vI p0, vI p1] h Q :=
  g_Met_of hl (by decide +kernel) rfl rfl (Nat.le_of_ble_eq_true rfl) (fun X C => vX1_add C ti p0 p1 h H)
/-! X1_countOnList -/
def wX1_countOnList_b28 (ti : Nat) (Q : g_R → g_Hp → Prop) (R4 : Int32 → Int32 → Int32 → g_Hp → Prop) (x1 : Int32) (x2 : Int32) (x3 : Int32) (h : g_Hp) : Prop := ∀ y1 : Int32, y1 = x3 + (1 : Int32) → R4 x1 x2 y1 h
def wX1_countOnList_b4_B (ti : Nat) (Q : g_R → g_Hp → Prop) (R4 : Int32 → Int32 → Int32 → g_Hp → Prop) (x1 : Int32) (x2 : Int32) (x3 : Int32) (h : g_Hp) : Prop := (((h 1 ti 0 2) ≤ x3) → Q (.inl (some (vI x2))) h) ∧ ((¬ (h 1 ti 0 2) ≤ x3) → vp_in x3 12 ∧ ∀ j1 : Nat, j1 = x3.toNatClampNeg → ((¬ (h 2 ti j1 10) = x1) → wX1_countOnList_b28 ti Q R4 x1 x2 x3 h) ∧ (((h 2 ti j1 10) = x1) → ∀ y2 : Int32, y2 = x2 + (1 : Int32) → wX1_countOnList_b28 ti Q R4 x1 y2 x3 h))
def wX1_countOnList_b4_I (ti : Nat) (Q : g_R → g_Hp → Prop) : Nat → Int32 → Int32 → Int32 → g_Hp → Prop
  | 0 => fun _ _ _ _ => False
  | n + 1 => fun x1 x2 x3 h => wX1_countOnList_b4_B ti Q (wX1_countOnList_b4_I ti Q n) x1 x2 x3 h
def wX1_countOnList_b4 (ti : Nat) (Q : g_R → g_Hp → Prop) (x1 : Int32) (x2 : Int32) (x3 : Int32) (h : g_Hp) : Prop := ∃ n, wX1_countOnList_b4_I ti Q n x1 x2 x3 h
def wX1_countOnList (ti : Nat) (p0 : Int32) (h : g_Hp) (Q : g_R → g_Hp → Prop) : Prop := wX1_countOnList_b4 ti Q p0 (0 : Int32) (0 : Int32) h
set_option maxRecDepth 100000 in
set_option maxHeartbeats 4000000 in
theorem vX1_countOnList_b28 {G : g_G} {X : g_X} {Q : g_R → g_Hp → Prop} (C : g_Cx y_ G X iX1_countOnList) (ti : Nat) (R4 : Int32 → Int32 → Int32 → g_Hp → Prop) (hR4 : ∀ (x1 : Int32) (x2 : Int32) (x3 : Int32) (h : g_Hp), R4 x1 x2 x3 h → g_V G X iX1_countOnList 0 0 Q 4 0 0 [(0, vR 1 ti 0), (1, vI x1), (2, vI x2), (3, vI x3)] [] h) (x1 : Int32) (x2 : Int32) (x3 : Int32) (h : g_Hp) (H : wX1_countOnList_b28 ti Q R4 x1 x2 x3 h) : g_V G X iX1_countOnList 0 0 Q 28 0 0 [(0, vR 1 ti 0), (1, vI x1), (2, vI x2), (3, vI x3)] [] h := by
  refine s_iincN (pc := 28) C dX1_countOnList_28 3 rfl (z' := (1 : Int32)) (by decide) (by decide) (fun y1 ey1 => ?_)
  have H := H y1 ey1
  show g_V _ _ _ _ _ _ _ _ _ [(3, vI y1), (0, vR 1 ti 0), (1, vI x1), (2, vI x2)] _ _
  refine s_goto (pc := 31) (tgt := 4) C dX1_countOnList_31 (by decide) ?_
  exact s_sub (ls' := [(0, vR 1 ti 0), (1, vI x1), (2, vI x2), (3, vI y1)]) [1, 2, 3, 0] rfl (hR4 x1 x2 y1 h H)
set_option maxRecDepth 100000 in
set_option maxHeartbeats 4000000 in
theorem vX1_countOnList_b4_B {G : g_G} {X : g_X} {Q : g_R → g_Hp → Prop} (C : g_Cx y_ G X iX1_countOnList) (ti : Nat) (R4 : Int32 → Int32 → Int32 → g_Hp → Prop) (hR4 : ∀ (x1 : Int32) (x2 : Int32) (x3 : Int32) (h : g_Hp), R4 x1 x2 x3 h → g_V G X iX1_countOnList 0 0 Q 4 0 0 [(0, vR 1 ti 0), (1, vI x1), (2, vI x2), (3, vI x3)] [] h) (x1 : Int32) (x2 : Int32) (x3 : Int32) (h : g_Hp) (H : wX1_countOnList_b4_B ti Q R4 x1 x2 x3 h) : g_V G X iX1_countOnList 0 0 Q 4 0 0 [(0, vR 1 ti 0), (1, vI x1), (2, vI x2), (3, vI x3)] [] h := by
  refine s_iload_n (pc := 4) C dX1_countOnList_4 rfl 3 rfl ?_
  refine s_aload_n (pc := 5) C dX1_countOnList_5 rfl 0 rfl ?_
  refine s_geti (pc := 6) (s := 1) ckX1 (Or.inl rfl) (by decide) kw_168 (fun _ => rfl) C dX1_countOnList_6 ?_
  refine s_icmp_ge (pc := 9) (tgt := 34) C dX1_countOnList_9 (by decide) (fun c => ?_) (fun c => ?_)
  · have H := H.1 c
    refine s_iload_n (pc := 34) C dX1_countOnList_34 rfl 2 rfl ?_
    exact s_iret (pc := 35) rfl rfl ⟨by decide, by decide⟩ H C dX1_countOnList_35
  · have H := H.2 c
    refine s_aload_n (pc := 12) C dX1_countOnList_12 rfl 0 rfl ?_
    refine s_getr (pc := 13) (s := 0) (a := 11) (b := ti) (c' := 0) ckX1 (by decide) kw_166 rfl C dX1_countOnList_13 ?_
    refine s_iload_n (pc := 16) C dX1_countOnList_16 rfl 3 rfl ?_
    refine s_aald (pc := 17) (kk := 11) (by decide) (by decide) H.1 C dX1_countOnList_17 ?_
    have H := H.2
    show g_V _ _ _ _ _ _ _ _ _ _ (vR 2 ti (x3.toNatClampNeg) :: _) _
    refine s_nmj (fun j1 ej1 => ?_)
    have H := H j1 ej1
    refine s_geti (pc := 18) (s := 9) ckX6 (Or.inl rfl) (by decide) kw_139 (fun _ => rfl) C dX1_countOnList_18 ?_
    refine s_iload_n (pc := 21) C dX1_countOnList_21 rfl 1 rfl ?_
    refine s_icmp_ne (pc := 22) (tgt := 28) C dX1_countOnList_22 (by decide) (fun c => ?_) (fun c => ?_)
    · have H := H.1 c
      exact s_sub (ls' := [(0, vR 1 ti 0), (1, vI x1), (2, vI x2), (3, vI x3)]) [0, 1, 2, 3] rfl (vX1_countOnList_b28 C ti R4 hR4 x1 x2 x3 h H)
    · have H := H.2 c
      refine s_iincN (pc := 25) C dX1_countOnList_25 2 rfl (z' := (1 : Int32)) (by decide) (by decide) (fun y2 ey2 => ?_)
      have H := H y2 ey2
      show g_V _ _ _ _ _ _ _ _ _ [(2, vI y2), (0, vR 1 ti 0), (1, vI x1), (3, vI x3)] _ _
      exact s_sub (ls' := [(0, vR 1 ti 0), (1, vI x1), (2, vI y2), (3, vI x3)]) [1, 2, 0, 3] rfl (vX1_countOnList_b28 C ti R4 hR4 x1 y2 x3 h H)
theorem vX1_countOnList_b4 {G : g_G} {X : g_X} {Q : g_R → g_Hp → Prop} (C : g_Cx y_ G X iX1_countOnList) (ti : Nat) (x1 : Int32) (x2 : Int32) (x3 : Int32) (h : g_Hp) (H : wX1_countOnList_b4 ti Q x1 x2 x3 h) : g_V G X iX1_countOnList 0 0 Q 4 0 0 [(0, vR 1 ti 0), (1, vI x1), (2, vI x2), (3, vI x3)] [] h := by
  obtain ⟨n, H⟩ := H
  induction n generalizing x1 x2 x3 h with
  | zero => exact H.elim
  | succ n ih => exact vX1_countOnList_b4_B C ti _ (fun x1 x2 x3 h H => ih x1 x2 x3 h H) x1 x2 x3 h H
set_option maxRecDepth 100000 in
set_option maxHeartbeats 4000000 in
theorem vX1_countOnList {G : g_G} {X : g_X} {Q : g_R → g_Hp → Prop} (C : g_Cx y_ G X iX1_countOnList) (ti : Nat) (p0 : Int32) (h : g_Hp) (H : wX1_countOnList ti p0 h Q) : g_V G X iX1_countOnList 0 0 Q 0 0 0 [(0, vR 1 ti 0), (1, vI p0)] [] h := by
  refine s_iconst (pc := 0) C dX1_countOnList_0 (x := (0 : Int32)) (by decide) ?_
  refine s_istore_n (pc := 1) (ls' := [(2, vI (0 : Int32)), (0, vR 1 ti 0), (1, vI p0)]) C dX1_countOnList_1 rfl (by decide) rfl ?_
  refine s_iconst (pc := 2) C dX1_countOnList_2 (x := (0 : Int32)) (by decide) ?_
  refine s_istore_n (pc := 3) (ls' := [(3, vI (0 : Int32)), (2, vI (0 : Int32)), (0, vR 1 ti 0), (1, vI p0)]) C dX1_countOnList_3 rfl (by decide) rfl ?_
  exact s_sub (ls' := [(0, vR 1 ti 0), (1, vI p0), (2, vI (0 : Int32)), (3, vI (0 : Int32))]) [2, 3, 1, 0] rfl (vX1_countOnList_b4 C ti p0 (0 : Int32) (0 : Int32) h H)
theorem ctX1_countOnList (l : Launch) (hl : l.stackTraces = false) {G : g_G} (ti : Nat) (p0 : Int32) (h : g_Hp) (Q : g_R → g_Hp → Prop) (H : wX1_countOnList ti p0 h Q) : g_Met l y_ G iX1_countOnList [vR 1 ti 0, vI p0] h Q :=
  g_Met_of hl (by decide +kernel) rfl rfl (Nat.le_of_ble_eq_true rfl) (fun X C => vX1_countOnList C ti p0 h H)
