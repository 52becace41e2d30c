/-! ===== arrays and new objects, over ghost states ===== -/
section GArr
variable {Y : g_Y} {G : g_G} {X : g_X} {I : g_I} {mc ms : Nat} {Q : g_R → g_Hp → Prop} {pc k n : Nat} {ls ls' : List (Nat × g_AV)} {st : List g_AV} {h : g_Hp} {v w u : g_AV} {ρ : g_Rh} {H : Heap} {locs : List Loc} {la : Array Slot}
variable {kk kr s i j idx N : Nat}
theorem g_ar_i {ρ : g_Rh} {h : g_Hp} {kk i j : Nat} (hk : kk = 13 ∨ kk = 14) : g_ar ρ h kk i j = .inl (fun e => h kk i j (e + 1)) := by
  unfold g_ar
  rcases hk with rfl | rfl <;> rfl
theorem g_ar_q {ρ : g_Rh} {h : g_Hp} {kk i j : Nat} (hk : kk < 13) : g_ar ρ h kk i j = .inr (.inr (.inr (.inr (fun e => if h kk i j (e + 1) = 0 ∨ g_len h kk i j ≤ e then none else some (ρ (g_et kk i e).1 (g_et kk i e).2.1 (g_et kk i e).2.2))))) := by
  unfold g_ar
  rw [if_pos hk]
theorem g_ar_up {ρ : g_Rh} {h : g_Hp} {kk i j s : Nat} {x : Int32} : (fun e => g_up h kk i j (s + 1) x kk i j (e + 1)) = upd (fun e => h kk i j (e + 1)) s x := by
  funext e
  unfold upd
  by_cases he : e = s
  · subst he
    rw [if_pos rfl, g_up_s]
  · rw [if_neg he, g_up_o _ _ _ _ _ _ (fun n => he (by have := n.2.2.2; omega))]
theorem s_iald {x : Int32} (hin : vp_in x (g_len h 13 i j)) (C0 : g_Cx Y G X I) (d : decode I.2.2.1 pc = .ok (.iaload, 1)) (K : g_V G X I mc ms Q (pc + 1) k n ls (vI (h 13 i j (x.toNatClampNeg + 1)) :: st) h) : g_V G X I mc ms Q pc k n ls (vI x :: vR 13 i j :: st) h := by
  obtain ⟨p, l, e, R, s0, m, args, below, meth, c, h0, ρ0⟩ := X
  intro ρ H locs la w
  obtain ⟨hl, er⟩ := g_live (kk := 13) (Or.inl rfl) (by omega) w.1 (g_P_top (g_P_pop w))
  obtain ⟨L, q0, p1, p2, p3, p4, p5, p6, p7, e1, e2⟩ := g_HR_arr (by omega) (by omega) w.1 hl
  rw [g_ar_i (Or.inl rfl)] at e2
  exact va_iald (D := G.1) (cl := vwCl) (tys := g_tys G) C0.1 C0.2.1 (g_Cx_K C0) p3 q0 3 e2 rfl hin d (K ρ H locs la (g_P_push trivial (g_P_pop (g_P_pop w))))
theorem s_bald {x : Int32} (hin : vp_in x (g_len h 14 i j)) (C0 : g_Cx Y G X I) (d : decode I.2.2.1 pc = .ok (.baload, 1)) (K : g_V G X I mc ms Q (pc + 1) k n ls (vI (h 14 i j (x.toNatClampNeg + 1)) :: st) h) : g_V G X I mc ms Q pc k n ls (vI x :: vR 14 i j :: st) h := by
  obtain ⟨p, l, e, R, s0, m, args, below, meth, c, h0, ρ0⟩ := X
  intro ρ H locs la w
  obtain ⟨hl, er⟩ := g_live (kk := 14) (Or.inl rfl) (by omega) w.1 (g_P_top (g_P_pop w))
  obtain ⟨L, q0, p1, p2, p3, p4, p5, p6, p7, e1, e2⟩ := g_HR_arr (by omega) (by omega) w.1 hl
  rw [g_ar_i (Or.inr rfl)] at e2
  exact va_bald (D := G.1) (cl := vwCl) (tys := g_tys G) C0.1 C0.2.1 (g_Cx_K C0) p3 q0 4 e2 rfl hin d (K ρ H locs la (g_P_push trivial (g_P_pop (g_P_pop w))))
theorem s_iast {x y : Int32} (hin : vp_in x (g_len h 13 i j)) (C0 : g_Cx Y G X I) (d : decode I.2.2.1 pc = .ok (.iastore, 1)) (K : g_V G X I mc ms Q (pc + 1) k n ls st (g_up h 13 i j (x.toNatClampNeg + 1) y)) : g_V G X I mc ms Q pc k n ls (vI y :: vI x :: vR 13 i j :: st) h := by
  obtain ⟨p, l, e, R, s0, m, args, below, meth, c, h0, ρ0⟩ := X
  intro ρ H locs la w
  obtain ⟨hl, er⟩ := g_live (kk := 13) (Or.inl rfl) (by omega) w.1 (g_P_top (g_P_pop (g_P_pop w)))
  obtain ⟨L, q0, p1, p2, p3, p4, p5, p6, p7, e1, e2⟩ := g_HR_arr (by omega) (by omega) w.1 hl
  rw [g_ar_i (Or.inl rfl)] at e2
  refine va_iast (D := G.1) (cl := vwCl) (tys := g_tys G) C0.1 C0.2.1 (g_Cx_K C0) p3 p4 w.2.1 q0 3 e2 rfl hin d (fun H1 locs1 hP hD hS => ?_)
  have hR : g_HR G ρ (g_up h 13 i j (x.toNatClampNeg + 1) y) H1 := by
    refine g_HR_set p1 p2 e1 ?_ hP hD (g_seal_up p5 (fun z => by omega) (fun _ z => by omega)) p6 p7
    rw [← g_ar_up (ρ := ρ)]
    rfl
  exact K ρ H1 locs1 la (g_P_wr (g_P_pop (g_P_pop (g_P_pop w))) hR hS)
theorem s_bast {x y : Int32} (hin : vp_in x (g_len h 14 i j)) (C0 : g_Cx Y G X I) (d : decode I.2.2.1 pc = .ok (.bastore, 1)) (K : g_V G X I mc ms Q (pc + 1) k n ls st (g_up h 14 i j (x.toNatClampNeg + 1) (vp_nar .byte y))) : g_V G X I mc ms Q pc k n ls (vI y :: vI x :: vR 14 i j :: st) h := by
  obtain ⟨p, l, e, R, s0, m, args, below, meth, c, h0, ρ0⟩ := X
  intro ρ H locs la w
  obtain ⟨hl, er⟩ := g_live (kk := 14) (Or.inl rfl) (by omega) w.1 (g_P_top (g_P_pop (g_P_pop w)))
  obtain ⟨L, q0, p1, p2, p3, p4, p5, p6, p7, e1, e2⟩ := g_HR_arr (by omega) (by omega) w.1 hl
  rw [g_ar_i (Or.inr rfl)] at e2
  refine va_bast (D := G.1) (cl := vwCl) (tys := g_tys G) C0.1 C0.2.1 (g_Cx_K C0) p3 p4 w.2.1 q0 4 e2 rfl hin d (fun H1 locs1 hP hD hS => ?_)
  have hR : g_HR G ρ (g_up h 14 i j (x.toNatClampNeg + 1) (vp_nar .byte y)) H1 := by
    refine g_HR_set p1 p2 e1 ?_ hP hD (g_seal_up p5 (fun z => by omega) (fun _ z => by omega)) p6 p7
    rw [← g_ar_up (ρ := ρ)]
    unfold g_en
    rw [if_neg (show ¬ (14 : Nat) < 10 by decide), g_ar_i (Or.inr rfl), g_len_up]
  exact K ρ H1 locs1 la (g_P_wr (g_P_pop (g_P_pop (g_P_pop w))) hR hS)
/-- which type of g_tys an array of references has -/
theorem g_ty_q {G : g_G} {kk : Nat} (h1 : 10 ≤ kk) (h2 : kk < 13) : ∃ r : vw_C, vwCl[g_cls (if kk = 10 then 1 else if kk = 11 then 2 else 4)]? = some r ∧ (g_tys G)[kk - 10]? = some (G.2.1 kk, .object r.1) := by
  rcases (show kk = 10 ∨ kk = 11 ∨ kk = 12 by omega) with rfl | rfl | rfl
  · exact ⟨_, rfl, rfl⟩
  · exact ⟨_, rfl, rfl⟩
  · exact ⟨_, rfl, rfl⟩
/-- a sealed array of references -/
theorem s_aald {x : Int32} (h1 : 10 ≤ kk) (h2 : kk < 13) (hin : vp_in x (g_len h kk i j)) (C0 : g_Cx Y G X I) (d : decode I.2.2.1 pc = .ok (.aaload, 1)) (K : g_V G X I mc ms Q (pc + 1) k n ls (.inr (.inl (g_et kk i x.toNatClampNeg)) :: st) h) : g_V G X I mc ms Q pc k n ls (vI x :: vR kk i j :: st) h := by
  obtain ⟨p, l, e, R, s0, m, args, below, meth, c, h0, ρ0⟩ := X
  intro ρ H locs la w
  obtain ⟨hl, er⟩ := g_live (kk := kk) (Or.inl rfl) (by omega) w.1 (g_P_top (g_P_pop w))
  obtain ⟨L, q0, p1, p2, p3, p4, p5, p6, p7, e1, e2⟩ := g_HR_arr h1 (by omega) w.1 hl
  rw [g_ar_q h2] at e2
  have hsd : h (kk + 40) i j 0 ≠ 0 := by
    rcases g_P_top (g_P_pop w) with ⟨-, -, z⟩ | ⟨z, -⟩ | ⟨z, -, -⟩
    · exact z
    · have : 20 ≤ kk := z
      omega
    · have : 40 ≤ kk := z
      omega
  have hlt : x.toNatClampNeg < g_len h kk i j := Nat.not_le.mp fun q => hin (Or.inr q)
  obtain ⟨hx, hok⟩ := ((p5 kk i j (by omega)).2.2 h1 h2 _ hlt).2 hsd
  obtain ⟨r, -, ht⟩ := g_ty_q (G := G) h1 h2
  refine va_aldq (D := G.1) (cl := vwCl) (tys := g_tys G) C0.1 C0.2.1 (g_Cx_K C0) p3 q0 (kk - 10) e2 ht hin d ?_
  have K' := K ρ H locs la (g_P_push hok (g_P_pop (g_P_pop w)))
  rw [if_neg (fun z => z.elim hx (fun z => Nat.not_le.mpr hlt z))]
  exact K'
/-- into an array of references that isn't sealed yet -/
theorem s_aast {x : Int32} {a b c' : Nat} (h1 : 10 ≤ kk) (h2 : kk < 13) (hin : vp_in x (g_len h kk i j)) (he : g_et kk i x.toNatClampNeg = (a, b, c')) (C0 : g_Cx Y G X I) (d : decode I.2.2.1 pc = .ok (.aastore, 1)) (K : g_V G X I mc ms Q (pc + 1) k n ls st (g_up h kk i j (x.toNatClampNeg + 1) 1)) : g_V G X I mc ms Q pc k n ls (vR a b c' :: vI x :: vR (kk + 40) i j :: st) h := by
  obtain ⟨p, l, e, R, s0, m, args, below, meth, c, h0, ρ0⟩ := X
  intro ρ H locs la w
  obtain ⟨hl, er⟩ := g_live (kk := kk) (Or.inr rfl) (by omega) w.1 (g_P_top (g_P_pop (g_P_pop w)))
  have hok : g_okA h a b c' := g_P_top w
  have hlt : x.toNatClampNeg < g_len h kk i j := Nat.not_le.mp fun q => hin (Or.inr q)
  have ha : a = (if kk = 10 then 1 else if kk = 11 then 2 else 4) := by
    have e9 : (g_et kk i x.toNatClampNeg).1 = a := congrArg Prod.fst he
    rw [← e9]
    rcases (show kk = 10 ∨ kk = 11 ∨ kk = 12 by omega) with rfl | rfl | rfl <;> rfl
  have ha10 : a < 10 := by rw [ha]; split <;> (try split) <;> decide
  have hla : h a b c' 0 ≠ 0 := (g_live (kk := a) (Or.inl rfl) (by omega) w.1 hok).1
  obtain ⟨L, q0, p1, p2, p3, p4, p5, p6, p7, e1, e2⟩ := g_HR_arr h1 (by omega) w.1 hl
  rw [g_ar_q h2] at e2
  obtain ⟨qv, f1, f2⟩ := g_get_of_mem (g_en G.2.1 ρ h) ((p2 (a, b, c')).mpr ⟨by show a < 20; omega, hla⟩)
  have f3 : (L.map (g_en G.2.1 ρ h))[qv]? = some (ρ a b c', .inr (g_cls a, g_fs ρ h (a, b, c'))) := f2.trans (by unfold g_en; rw [if_pos ha10])
  obtain ⟨r, hr, ht⟩ := g_ty_q (G := G) h1 h2
  rw [← ha] at hr
  show W p l e R s0 m args below meth c H locs k n _ (F0 m pc la (.ref (ρ a b c') :: .int x :: .ref (ρ (kk + 40) i j) :: st.map (g_cv ρ)))
  rw [er]
  refine va_astq (D := G.1) (cl := vwCl) (tys := g_tys G) C0.1 C0.2.1 (g_Cx_K C0) p3 p4 w.2.1 q0 (kk - 10) qv (g_cls a) e2 ht f3 hr hin d (fun H1 locs1 hP hD hS => ?_)
  have hR : g_HR G ρ (g_up h kk i j (x.toNatClampNeg + 1) 1) H1 := by
    refine g_HR_set p1 p2 e1 ?_ hP hD (g_seal_up p5 (fun z => by omega) (fun _ _ _ => ?_)) p6 p7
    · unfold g_en
      rw [if_neg (show ¬ kk < 10 by omega), g_ar_q h2]
      simp only [g_len_up]
      have ef : va_up (fun e => if h kk i j (e + 1) = 0 ∨ g_len h kk i j ≤ e then none else some (ρ (g_et kk i e).1 (g_et kk i e).2.1 (g_et kk i e).2.2)) x.toNatClampNeg (some (ρ a b c')) = (fun e => if g_up h kk i j (x.toNatClampNeg + 1) 1 kk i j (e + 1) = 0 ∨ g_len h kk i j ≤ e then none else some (ρ (g_et kk i e).1 (g_et kk i e).2.1 (g_et kk i e).2.2)) := by
        funext e
        unfold va_up
        by_cases hz : e = x.toNatClampNeg
        · subst hz
          rw [if_pos rfl, g_up_s, if_neg (fun z => z.elim (by decide) (fun z => by have := hlt; omega)), he]
        · rw [if_neg hz, g_up_o _ _ _ _ _ _ (fun n => hz (by have := n.2.2.2; omega))]
      rw [ef]
    · rw [he]
      exact ⟨fun _ => g_okA_L (by omega) hok, fun _ => ⟨by decide, hok⟩⟩
  exact K ρ H1 locs1 la (g_P_wr (g_P_pop (g_P_pop (g_P_pop w))) hR hS)
theorem g_ty_a {G : g_G} {kk : Nat} (h1 : 10 ≤ kk) (h2 : kk < 17) : ∃ ty, (g_tys G)[kk - 10]? = some (G.2.1 kk, ty) := by
  rcases (show kk = 10 ∨ kk = 11 ∨ kk = 12 ∨ kk = 13 ∨ kk = 14 ∨ kk = 15 ∨ kk = 16 by omega) with rfl | rfl | rfl | rfl | rfl | rfl | rfl <;> exact ⟨_, rfl⟩
theorem s_alen (h1 : 10 ≤ kk) (h2 : kk < 17) (C0 : g_Cx Y G X I) (d : decode I.2.2.1 pc = .ok (.arraylength, 1)) (K : g_V G X I mc ms Q (pc + 1) k n ls (vI (Int32.ofNat (g_len h kk i j)) :: st) h) : g_V G X I mc ms Q pc k n ls (vR kk i j :: st) h := by
  obtain ⟨p, l, e, R, s0, m, args, below, meth, c, h0, ρ0⟩ := X
  intro ρ H locs la w
  obtain ⟨hl, er⟩ := g_live (kk := kk) (Or.inl rfl) (by omega) w.1 (g_P_top w)
  obtain ⟨L, q0, p1, p2, p3, p4, p5, p6, p7, e1, e2⟩ := g_HR_arr h1 (by omega) w.1 hl
  obtain ⟨ty, ht⟩ := g_ty_a (G := G) h1 h2
  exact va_alen (D := G.1) (cl := vwCl) (tys := g_tys G) C0.1 C0.2.1 (g_Cx_K C0) p3 q0 (kk - 10) e2 ht rfl d (K ρ H locs la (g_P_push trivial (g_P_pop w)))
/-- the law's row of one long: it holds ints alone -/
theorem s_last0 {y : Int32} (C0 : g_Cx Y G X I) (d : decode I.2.2.1 pc = .ok (.lastore, 1)) (K : g_V G X I mc ms Q (pc + 1) k n ls st (g_up h 15 0 0 1 y)) : g_V G X I mc ms Q pc k n ls (vV (.long y.toInt64) :: vI 0 :: vR 15 0 0 :: st) h := by
  obtain ⟨p, l, e, R, s0, m, args, below, meth, c, h0, ρ0⟩ := X
  intro ρ H locs la w
  obtain ⟨hl, er⟩ := g_live (kk := 15) (Or.inl rfl) (by omega) w.1 (g_P_top (g_P_pop (g_P_pop w)))
  obtain ⟨L, q0, p1, p2, p3, p4, p5, p6, p7, e1, e2⟩ := g_HR_arr (by omega) (by omega) w.1 hl
  refine va_last (D := G.1) (cl := vwCl) (tys := g_tys G) C0.1 C0.2.1 (g_Cx_K C0) p3 p4 w.2.1 q0 5 (n := 1) (f := fun e => (h 15 0 0 (e + 1)).toInt64) e2 rfl (show ¬ ((0 : Int32) < 0 ∨ 1 ≤ (0 : Int32).toNatClampNeg) by decide) d (fun H1 locs1 hP hD hS => ?_)
  have hR : g_HR G ρ (g_up h 15 0 0 (0 + 1) y) H1 := by
    refine g_HR_set p1 p2 e1 ?_ hP hD (g_seal_up p5 (fun z => by omega) (fun _ z => by omega)) p6 p7
    have ef : vp_updL (fun e => (h 15 0 0 (e + 1)).toInt64) (0 : Int32).toNatClampNeg y.toInt64 = (fun e => (g_up h 15 0 0 (0 + 1) y 15 0 0 (e + 1)).toInt64) := by
      funext e
      unfold vp_updL
      by_cases he : e = 0
      · subst he
        rw [g_up_s]
        rfl
      · rw [g_up_o _ _ _ _ _ _ (fun n => he (by have := n.2.2.2; omega))]
        exact if_neg he
    rw [ef]
    rfl
  exact K ρ H1 locs1 la (g_P_wr (g_P_pop (g_P_pop (g_P_pop w))) hR hS)
theorem s_lald0 (C0 : g_Cx Y G X I) (d : decode I.2.2.1 pc = .ok (.laload, 1)) (K : g_V G X I mc ms Q (pc + 1) k n ls (vV (.long (h 15 0 0 1).toInt64) :: st) h) : g_V G X I mc ms Q pc k n ls (vI 0 :: vR 15 0 0 :: st) h := by
  obtain ⟨p, l, e, R, s0, m, args, below, meth, c, h0, ρ0⟩ := X
  intro ρ H locs la w
  obtain ⟨hl, er⟩ := g_live (kk := 15) (Or.inl rfl) (by omega) w.1 (g_P_top (g_P_pop w))
  obtain ⟨L, q0, p1, p2, p3, p4, p5, p6, p7, e1, e2⟩ := g_HR_arr (by omega) (by omega) w.1 hl
  exact va_lald (D := G.1) (cl := vwCl) (tys := g_tys G) C0.1 C0.2.1 (g_Cx_K C0) p3 q0 5 (n := 1) (f := fun e => (h 15 0 0 (e + 1)).toInt64) e2 rfl (show ¬ ((0 : Int32) < 0 ∨ 1 ≤ (0 : Int32).toNatClampNeg) by decide) d (K ρ H locs la (g_P_push trivial (g_P_pop (g_P_pop w))))
end GArr
