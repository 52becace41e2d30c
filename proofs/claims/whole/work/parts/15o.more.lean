/-! ===== new arrays, copies, calls of what is inherited ===== -/
section GMore
variable {Y : g_Y} {G : g_G} {X : g_X} {I J : g_I} {mc ms : Nat} {Q Q' : g_R → g_Hp → Prop} {pc k n : Nat} {ls ls' : List (Nat × g_AV)} {st as : List g_AV} {h : g_Hp} {v w u : g_AV} {ρ : g_Rh} {H : Heap} {locs : List Loc} {la : Array Slot}
variable {kk kr s i j idx N : Nat} {C : String} {T : u_T} {ty : Nat → FieldType}
theorem g_len_nw (h : g_Hp) (i j : Nat) (hd sl : Int32) (kk : Nat) : g_len (g_nw h kk i j hd sl) kk i j = match kk with
    | 14 => hd.toNatClampNeg - 1
    | _ => g_len h kk i j := by
  by_cases h14 : kk = 14
  · subst h14
    show (g_nw h 14 i j hd sl 14 i j 0).toNatClampNeg - 1 = hd.toNatClampNeg - 1
    rw [g_nw_s0]
  · unfold g_len
    split <;> first | rfl | exact absurd rfl h14 | skip
    split
    · exact absurd rfl h14
    · rfl
/-- a new array of numbers: sealed at once -/
theorem g_newA {atype : ArrayType} {ty : FieldType} {hd : Int32} {x : Int32} {L0 t0 : Nat} (h1 : 13 ≤ kk) (h2 : kk < 17) (hty : newarray.typeOf atype = ty) (ht0 : (g_tys G)[t0]? = some (G.2.1 kk, ty)) (hty2 : ∀ z, ty ≠ .object z) (hw : Cond.arrayClass ty ∈ g_WL) (hf : h kk i j 0 = 0) (hd0 : hd ≠ 0) (hn : ¬ x < 0) (hL : x.toNatClampNeg = L0) (hL2 : g_len (g_nw h kk i j hd 1) kk i j = L0) (hb : L0 * componentBytes ty ≤ 536870912) (ha : ∀ (cA : ClassId) (ρ' : g_Rh), vp_cell cA (L0, g_ar ρ' (g_nw h kk i j hd 1) kk i j) = arrV cA L0 (fun _ => defaultValue ty)) (hro : k + 1 ≤ (g_rm I).cells ∧ n + L0 ≤ (g_rm I).slots) (C0 : g_Cx Y G X I) (d : decode I.2.2.1 pc = .ok (.newarray atype, 2)) (K : g_V G X I mc ms Q (pc + 2) (k + 1) (n + L0) ls (vR kk i j :: st) (g_nw h kk i j hd 1)) : g_V G X I mc ms Q pc k n ls (vI x :: st) h := by
  obtain ⟨p, l, e, R, s0, m, args, below, meth, c, h0, ρ0⟩ := X
  intro ρ H locs la w
  have w0 := g_P_pop w
  have hR0 : R = g_rm I := C0.2.2.2.2.2.2.2.2.2.2.2.2
  obtain ⟨L, p1, p2, p3, p4, p5, p6, p7⟩ := id w.1
  have hse : g_seal (g_nw h kk i j hd 1) := g_seal_nw p5 (by omega) hf hd0 (Or.inr h1)
  have har : ∀ ρ' : g_Rh, g_ar ρ' (g_nw h kk i j hd 1) kk i j = g_ar ρ (g_nw h kk i j hd 1) kk i j := fun ρ' => by
    unfold g_ar
    rw [if_neg (show ¬ kk < 13 by omega), if_neg (show ¬ kk < 13 by omega)]
  refine va_newa (D := G.1) (cl := vwCl) (tys := g_tys G) C0.1 C0.2.1 (by rw [hty]; exact g_Cx_ts C0 _ hw) hty (g_Cx_K C0) p3 p4 w.2.1 C0.2.2.2.2.2.2.2.2.2.2.2.1 (a0 := (L0, g_ar ρ (g_nw h kk i j hd 1) kk i j)) (fun cA => ha cA ρ) hn hL hb (by rw [hR0]; exact hro.1) (by rw [hR0]; exact hro.2) d (fun q cA H1 hK hP hD hS => ?_)
  have hcA : cA = G.2.1 kk := by
    have a1 := (hK.2 (g_tys G).length (cA, ty) (by rw [List.getElem?_append_right (Nat.le_refl _), Nat.sub_self]; rfl)).2
    have a2 := ((g_Cx_K C0).2 t0 _ ht0).2
    have b1 : s0.vm.findClass ("[" ++ ty.toString) = some cA := by
      cases ty <;> first | exact a1 | exact absurd rfl (hty2 _)
    have b2 : s0.vm.findClass ("[" ++ ty.toString) = some (G.2.1 kk) := by
      cases ty <;> first | exact a2 | exact absurd rfl (hty2 _)
    exact Option.some.inj (b1.symm.trans b2)
  subst hcA
  have hR : g_HR G (g_rn ρ kk i j q) (g_nw h kk i j hd 1) H1 := by
    refine g_HR_nw (by omega) hf hd0 p1 p2 p5 p6 p7 ?_ hse hP hD
    unfold g_en
    rw [if_neg (show ¬ kk < 10 by omega)]
    dsimp only
    rw [g_rn_s, hL2, har (g_rn ρ kk i j q)]
  obtain ⟨w', em⟩ := g_P_nw (v := vR kk i j) w0 (by omega) hf hR (Or.inl ⟨by show kk < 20; omega, by
    show g_nw h kk i j hd 1 kk i j 0 ≠ 0
    rw [g_nw_s0]; exact hd0, by
    show g_nw h kk i j hd 1 (kk + 40) i j 0 ≠ 0
    rw [g_nw_l]; decide⟩) hS
  have K' := K (g_rn ρ kk i j q) H1 locs la w'
  rw [List.map_cons, em] at K'
  rw [show g_cv (g_rn ρ kk i j q) (vR kk i j) = .ref q from congrArg Value.ref (g_rn_s ρ kk i j q)] at K'
  exact K'
/-- new byte[x] -/
theorem s_newB {x : Int32} (hw : Cond.arrayClass .byte ∈ g_WL) (hf : h 14 i j 0 = 0) (hn : ¬ x < 0) (hL : x.toNatClampNeg ≤ N) (hN : N < 2 ^ 20) (hro : k + 1 ≤ (g_rm I).cells ∧ n + N ≤ (g_rm I).slots) (C0 : g_Cx Y G X I) (d : decode I.2.2.1 pc = .ok (.newarray .byte, 2)) (K : g_V G X I mc ms Q (pc + 2) (k + 1) (n + N) ls (vR 14 i j :: st) (g_nw h 14 i j (Int32.ofNat (x.toNatClampNeg + 1)) 1)) : g_V G X I mc ms Q pc k n ls (vI x :: st) h := by
  have hz : (Int32.ofNat (x.toNatClampNeg + 1)).toNatClampNeg = x.toNatClampNeg + 1 := nI_clamp (by omega)
  refine g_newA (hd := Int32.ofNat (x.toNatClampNeg + 1)) (atype := .byte) (ty := .byte) (L0 := x.toNatClampNeg) (t0 := 4) (by omega) (by omega) rfl rfl (fun z => by intro e; cases e) hw hf (fun e => ?_) hn rfl ?_ ?_ (fun cA ρ' => ?_) ⟨hro.1, by omega⟩ C0 d ?_
  · rw [e] at hz
    have : (0 : Int32).toNatClampNeg = 0 := by decide
    omega
  · rw [g_len_nw]
    show (Int32.ofNat (x.toNatClampNeg + 1)).toNatClampNeg - 1 = _
    omega
  · show x.toNatClampNeg * 1 ≤ _
    omega
  · rw [g_ar_i (Or.inr rfl), vp_cell_i]
    simp only [g_nw_s]
    rfl
  · exact s_wide (Nat.le_refl _) (Nat.add_le_add_left hL n) K
/-- new int[x], of the length that its place has -/
theorem s_newI {x : Int32} (hw : Cond.arrayClass .int ∈ g_WL) (hf : h 13 i j 0 = 0) (hn : ¬ x < 0) (hL : x.toNatClampNeg = N) (hL2 : ∀ h', g_len h' 13 i j = N) (hN : N < 2 ^ 20) (hro : k + 1 ≤ (g_rm I).cells ∧ n + N ≤ (g_rm I).slots) (C0 : g_Cx Y G X I) (d : decode I.2.2.1 pc = .ok (.newarray .int, 2)) (K : g_V G X I mc ms Q (pc + 2) (k + 1) (n + N) ls (vR 13 i j :: st) (g_nw h 13 i j 1 1)) : g_V G X I mc ms Q pc k n ls (vI x :: st) h := by
  refine g_newA (atype := .int) (ty := .int) (L0 := N) (t0 := 3) (by omega) (by omega) rfl rfl (fun z => by intro e; cases e) hw hf (by decide) hn hL (hL2 _) ?_ (fun cA ρ' => ?_) hro C0 d K
  · show N * 4 ≤ _
    omega
  · rw [g_ar_i (Or.inl rfl), vp_cell_i]
    simp only [g_nw_s]
    rfl
/-- the law's row of one long -/
theorem s_newL (hw : Cond.arrayClass .long ∈ g_WL) (hf : h 15 0 0 0 = 0) (hro : k + 1 ≤ (g_rm I).cells ∧ n + 1 ≤ (g_rm I).slots) (C0 : g_Cx Y G X I) (d : decode I.2.2.1 pc = .ok (.newarray .long, 2)) (K : g_V G X I mc ms Q (pc + 2) (k + 1) (n + 1) ls (vR 15 0 0 :: st) (g_nw h 15 0 0 1 1)) : g_V G X I mc ms Q pc k n ls (vI 1 :: st) h := by
  refine g_newA (atype := .long) (ty := .long) (L0 := 1) (t0 := 5) (by omega) (by omega) rfl rfl (fun z => by intro e; cases e) hw hf (by decide) (by decide) (by decide) rfl (by decide) (fun cA ρ' => ?_) hro C0 d K
  show vp_cell cA (1, .inr (.inl (fun e => (g_nw h 15 0 0 1 1 15 0 0 (e + 1)).toInt64))) = _
  rw [vp_cell_l]
  simp only [g_nw_s]
  rfl
theorem s_newD (hw : Cond.arrayClass .double ∈ g_WL) (hf : h 16 0 0 0 = 0) (hro : k + 1 ≤ (g_rm I).cells ∧ n + 1 ≤ (g_rm I).slots) (C0 : g_Cx Y G X I) (d : decode I.2.2.1 pc = .ok (.newarray .double, 2)) (K : g_V G X I mc ms Q (pc + 2) (k + 1) (n + 1) ls (vR 16 0 0 :: st) (g_nw h 16 0 0 1 1)) : g_V G X I mc ms Q pc k n ls (vI 1 :: st) h := by
  refine g_newA (atype := .double) (ty := .double) (L0 := 1) (t0 := 6) (by omega) (by omega) rfl rfl (fun z => by intro e; cases e) hw hf (by decide) (by decide) (by decide) rfl (by decide) (fun cA ρ' => ?_) hro C0 d K
  show vp_cell cA (1, .inr (.inr (.inr (.inl (fun e => g_d64 (g_nw h 16 0 0 1 1 16 0 0 (2 * e + 1)) (g_nw h 16 0 0 1 1 16 0 0 (2 * e + 2)))))) ) = _
  rw [vp_cell_d]
  have ez : ∀ s, g_nw h 16 0 0 1 1 16 0 0 (s + 1) = 0 := g_nw_s h 16 0 0 1 1
  have e2 : ∀ e, g_nw h 16 0 0 1 1 16 0 0 (2 * e + 2) = 0 := fun e => ez (2 * e + 1)
  simp only [ez, e2]
  rfl
/-- a new array of references: not sealed -/
theorem s_newQ {x : Int32} {Cq : String} (h1 : 10 ≤ kk) (h2 : kk < 13) (hty : (g_tys G)[kk - 10]? = some (G.2.1 kk, .object Cq)) (hcl : Cond.classLink I.1 idx Cq ∈ g_WL) (hov : Cq ∈ ["VaneUnion$Books", "VaneUnion$Member", "VaneUnion$Command"]) (hf : h kk i j 0 = 0) (hn : ¬ x < 0) (hL : x.toNatClampNeg = N) (hL2 : ∀ h', g_len h' kk i j = N) (hN : N < 2 ^ 20) (hro : k + 1 ≤ (g_rm I).cells ∧ n + N ≤ (g_rm I).slots) (C0 : g_Cx Y G X I) (d : decode I.2.2.1 pc = .ok (.anewarray idx, 3)) (K : g_V G X I mc ms Q (pc + 3) (k + 1) (n + N) ls (vR (kk + 40) i j :: st) (g_nw h kk i j 1 0)) : g_V G X I mc ms Q pc k n ls (vI x :: st) h := by
  obtain ⟨p, l, e, R, s0, m, args, below, meth, c, h0, ρ0⟩ := X
  intro ρ H locs la w
  have w0 := g_P_pop w
  have hR0 : R = g_rm I := C0.2.2.2.2.2.2.2.2.2.2.2.2
  obtain ⟨L, p1, p2, p3, p4, p5, p6, p7⟩ := id w.1
  have hse : g_seal (g_nw h kk i j 1 0) := g_seal_nw p5 (by omega) hf (by decide) (Or.inl rfl)
  have hao : va_AO Cq s0 := (g_Cx_KS C0).2.2.2.2.2.2.2.2.2.2.2.2.2.1 Cq hov
  refine va_newq (D := G.1) (cl := vwCl) (tys := g_tys G) C0.1 C0.2.1 (g_Cx_own C0) (g_Cx_ts C0 _ hcl) hao (g_Cx_K C0) p3 p4 w.2.1 C0.2.2.2.2.2.2.2.2.2.2.2.1 hn hL (by omega) (by rw [hR0]; exact hro.1) (by rw [hR0]; exact hro.2) d (fun q cA H1 hK hP hD hS => ?_)
  have hcA : cA = G.2.1 kk := by
    obtain ⟨_, _, _, _, _, a1⟩ := (hK.2 (g_tys G).length (cA, .object Cq) (by rw [List.getElem?_append_right (Nat.le_refl _), Nat.sub_self]; rfl)).2
    obtain ⟨_, _, _, _, _, a2⟩ := ((g_Cx_K C0).2 (kk - 10) _ hty).2
    exact Option.some.inj (a1.symm.trans a2)
  subst hcA
  have hR : g_HR G (g_rn ρ kk i j q) (g_nw h kk i j 1 0) H1 := by
    refine g_HR_nw (by omega) hf (by decide) p1 p2 p5 p6 p7 ?_ hse hP hD
    unfold g_en
    rw [if_neg (show ¬ kk < 10 by omega)]
    dsimp only
    rw [g_rn_s, hL2, g_ar_q h2]
    have ef : (fun e => if g_nw h kk i j 1 0 kk i j (e + 1) = 0 ∨ g_len (g_nw h kk i j 1 0) kk i j ≤ e then none else some (g_rn ρ kk i j q (g_et kk i e).1 (g_et kk i e).2.1 (g_et kk i e).2.2)) = (fun _ => none) := by
      funext e
      rw [if_pos (Or.inl (g_nw_s h kk i j 1 0 e))]
    rw [ef]
  obtain ⟨w', em⟩ := g_P_nw (v := vR (kk + 40) i j) w0 (by omega) hf hR (Or.inr (Or.inr ⟨by show 40 ≤ kk + 40; omega, by show kk + 40 < 60; omega, by
    show g_nw h kk i j 1 0 (kk + 40 - 40) i j 0 ≠ 0
    rw [Nat.add_sub_cancel, g_nw_s0]; decide⟩)) hS
  have K' := K (g_rn ρ kk i j q) H1 locs la w'
  rw [List.map_cons, em] at K'
  rw [show g_cv (g_rn ρ kk i j q) (vR (kk + 40) i j) = .ref q from congrArg Value.ref (g_rn_l ρ kk i j q)] at K'
  exact K'
/-- a copy of bytes into another row -/
def g_cpB (h : g_Hp) (i j i' j' sp dp m : Nat) : g_Hp := fun k x y s => if k = 14 ∧ x = i' ∧ y = j' ∧ 1 ≤ s then va_cpy (fun e => h 14 i j (e + 1)) (fun e => h 14 i' j' (e + 1)) sp dp m (s - 1) else h k x y s
theorem s_copyB {i' j' : Nat} {sp dp x : Int32} (hw : Cond.methodLink I.1 idx arraycopyName ∈ g_WL ∧ Cond.native arraycopyName ∈ g_WL ∧ Cond.static arraycopyName ∈ g_WL ∧ Cond.initialized "java/lang/System" ∈ g_WL) (h1 : ¬ sp < 0) (h2 : ¬ dp < 0) (h3 : ¬ x < 0) (h4 : sp.toNatClampNeg + x.toNatClampNeg ≤ g_len h 14 i j) (h5 : dp.toNatClampNeg + x.toNatClampNeg ≤ g_len h 14 i' j') (hfit : ∀ e, e < x.toNatClampNeg → fits .byte (.int (h 14 i j (sp.toNatClampNeg + e + 1))) = true) (hro : 1 ≤ (g_rm I).frames ∧ g_sz st + (nativeFrameWords "java/lang/System" "arraycopy" 5 + 11) ≤ (g_rm I).locals) (C0 : g_Cx Y G X I) (d : decode I.2.2.1 pc = .ok (.invokestatic idx, 3))
    (K : g_V G X I mc ms Q (pc + 3) k n ls st (g_cpB h i j i' j' sp.toNatClampNeg dp.toNatClampNeg x.toNatClampNeg)) : g_V G X I mc ms Q pc k n ls (vI x :: vI dp :: vR 14 i' j' :: vI sp :: vR 14 i j :: st) h := by
  obtain ⟨p, l, e, R, s0, m, args, below, meth, c, h0, ρ0⟩ := X
  intro ρ H locs la w
  have hR0 : R = g_rm I := C0.2.2.2.2.2.2.2.2.2.2.2.2
  have w3 := g_P_pop (g_P_pop (g_P_pop (g_P_pop (g_P_pop w))))
  obtain ⟨hla, -⟩ := g_live (kk := 14) (Or.inl rfl) (by omega) w.1 (g_P_top (g_P_pop (g_P_pop (g_P_pop (g_P_pop w)))))
  obtain ⟨hlb, -⟩ := g_live (kk := 14) (Or.inl rfl) (by omega) w.1 (g_P_top (g_P_pop (g_P_pop w)))
  dsimp only at hla hlb
  obtain ⟨L, q1, p1, p2, p3, p4, p5, p6, p7, e1, e2⟩ := g_HR_arr (kk := 14) (by omega) (by omega) w.1 hlb
  obtain ⟨q0, f1, f2⟩ := g_get_of_mem (g_en G.2.1 ρ h) ((p2 (14, i, j)).mpr ⟨by show 14 < 20; omega, hla⟩)
  have f3 : (L.map (g_en G.2.1 ρ h))[q0]? = some (ρ 14 i j, .inl (G.2.1 14, g_len h 14 i j, .inl (fun e => h 14 i j (e + 1)))) := f2.trans (by
    unfold g_en
    rw [if_neg (show ¬ (14 : Nat) < 10 by decide), g_ar_i (Or.inr rfl)])
  rw [g_ar_i (Or.inr rfl)] at e2
  refine va_copyi (D := G.1) (cl := vwCl) (tys := g_tys G) C0.1 C0.2.1 (C0.2.2.1.trans w.2.2.1.1.symm) (g_Cx_own C0) (g_Cx_ts C0 _ hw.1) (g_Cx_ts C0 _ hw.2.1) (g_Cx_ts C0 _ hw.2.2.1) (g_Cx_ts C0 _ hw.2.2.2) (g_Cx_K C0) p3 p4 w.2.1 q0 q1 4 4 f3 e2 rfl rfl rfl h1 h2 h3 h4 h5 hfit (by rw [hR0]; exact hro.1) (by rw [g_sum_le, hR0]; exact hro.2) d (fun H1 locs1 hP hD hS => ?_)
  have eo : ∀ (k' x' y' s' : Nat), (s' = 0 ∨ ¬ (k' = 14 ∧ x' = i' ∧ y' = j')) → g_cpB h i j i' j' sp.toNatClampNeg dp.toNatClampNeg x.toNatClampNeg k' x' y' s' = h k' x' y' s' := fun k' x' y' s' hz => by
    unfold g_cpB
    rw [if_neg (fun z => by rcases hz with hz | hz
                            · omega
                            · exact hz ⟨z.1, z.2.1, z.2.2.1⟩)]
  have hx : g_ext h ρ (g_cpB h i j i' j' sp.toNatClampNeg dp.toNatClampNeg x.toNatClampNeg) ρ := fun k' x' y' _ z => by
    rw [eo _ _ _ 0 (Or.inl rfl), eo _ _ _ 0 (Or.inl rfl)]
    exact ⟨z, rfl, fun z => z⟩
  have el : ∀ k' x' y', g_len (g_cpB h i j i' j' sp.toNatClampNeg dp.toNatClampNeg x.toNatClampNeg) k' x' y' = g_len h k' x' y' := fun k' x' y' => by
    unfold g_len
    rw [eo _ _ _ 0 (Or.inl rfl)]
  have hse : g_seal (g_cpB h i j i' j' sp.toNatClampNeg dp.toNatClampNeg x.toNatClampNeg) := by
    intro k' x' y' hk'
    obtain ⟨b1, b2, b3⟩ := p5 k' x' y' hk'
    rw [eo _ _ _ 0 (Or.inl rfl), eo _ _ _ 0 (Or.inl rfl), el]
    have mo : ∀ a : g_Ad, g_okL h a → g_okL (g_cpB h i j i' j' sp.toNatClampNeg dp.toNatClampNeg x.toNatClampNeg) a := fun a => g_okL_mono (fun k i j z1 z2 => by rw [eo _ _ _ 0 (Or.inl rfl)]; exact z2)
    refine ⟨b1, fun h10 s a z1 z2 => ?_, fun h10 h13 e z1 => ?_⟩
    · rw [eo _ _ _ _ (Or.inr (fun z => by omega))] at z2 ⊢
      exact ⟨fun y x => mo a ((b2 h10 s a z1 z2).1 y x), fun y => ⟨((b2 h10 s a z1 z2).2 y).1, g_okA_mono hx ((b2 h10 s a z1 z2).2 y).2⟩⟩
    · rw [eo _ _ _ _ (Or.inr (fun z => by omega))]
      exact ⟨fun y x => mo _ ((b3 h10 h13 e z1).1 y x), fun y => ⟨((b3 h10 h13 e z1).2 y).1, g_okA_mono hx ((b3 h10 h13 e z1).2 y).2⟩⟩
  have een : ∀ b, b ≠ (14, i', j') → g_en G.2.1 ρ (g_cpB h i j i' j' sp.toNatClampNeg dp.toNatClampNeg x.toNatClampNeg) b = g_en G.2.1 ρ h b := fun b hb => by
    obtain ⟨k', x', y'⟩ := b
    have e0 : ∀ s', g_cpB h i j i' j' sp.toNatClampNeg dp.toNatClampNeg x.toNatClampNeg k' x' y' s' = h k' x' y' s' := fun s' => eo _ _ _ _ (Or.inr (fun z => hb (by rw [z.1, z.2.1, z.2.2])))
    unfold g_en g_fs g_ar
    simp only [el, e0]
  have hR : g_HR G ρ (g_cpB h i j i' j' sp.toNatClampNeg dp.toNatClampNeg x.toNatClampNeg) H1 := by
    have em := g_map_set p1 e1 (g_en G.2.1 ρ h) (g_en G.2.1 ρ (g_cpB h i j i' j' sp.toNatClampNeg dp.toNatClampNeg x.toNatClampNeg)) een
    have he : ((ρ 14 i' j', Sum.inl (G.2.1 14, g_len h 14 i' j', Sum.inl (va_cpy (fun e => h 14 i j (e + 1)) (fun e => h 14 i' j' (e + 1)) sp.toNatClampNeg dp.toNatClampNeg x.toNatClampNeg))) : Nat × va_E) = g_en G.2.1 ρ (g_cpB h i j i' j' sp.toNatClampNeg dp.toNatClampNeg x.toNatClampNeg) (14, i', j') := by
      unfold g_en
      rw [if_neg (show ¬ (14 : Nat) < 10 by decide), g_ar_i (Or.inr rfl), el]
      have ef : (fun e => g_cpB h i j i' j' sp.toNatClampNeg dp.toNatClampNeg x.toNatClampNeg 14 i' j' (e + 1)) = va_cpy (fun e => h 14 i j (e + 1)) (fun e => h 14 i' j' (e + 1)) sp.toNatClampNeg dp.toNatClampNeg x.toNatClampNeg := by
        funext e
        show g_cpB h i j i' j' sp.toNatClampNeg dp.toNatClampNeg x.toNatClampNeg 14 i' j' (e + 1) = _
        unfold g_cpB
        rw [if_pos ⟨rfl, rfl, rfl, by omega⟩, Nat.add_sub_cancel]
      rw [ef]
    rw [he] at hP hD
    rw [em] at hP hD
    have hlv : ∀ a : g_Ad, g_lv h a ↔ g_lv (g_cpB h i j i' j' sp.toNatClampNeg dp.toNatClampNeg x.toNatClampNeg) a := fun a => by
      unfold g_lv
      rw [eo _ _ _ 0 (Or.inl rfl)]
    exact ⟨L, p1, fun a => (p2 a).trans (hlv a), hP, hD, hse, p6, p7⟩
  obtain ⟨w1, w2, w3, w4, w5, w6⟩ := w3
  exact K ρ H1 locs1 la ⟨hR, hS, w3, fun q hq => g_ok_mono hx (w4 q hq), fun q hq => g_ok_mono hx (w5 q hq), g_ext_tr w6 hx⟩
/-- super.m(..) on an object of kind kk, from a method of its class -/
theorem s_callsu (CK : g_CK kk C T N ty) (C0 : g_Cx Y G X I) {nA : Nat} (M : ∀ l, l.stackTraces = false → g_Met l Y G J (vR kk i j :: as) h Q') (cw : Cond.methodLink I.1 idx J.2.1 ∈ g_WL ∧ Cond.sameMethod J.2.1.cls J.2.1.cls J.2.1.name J.2.1.desc ∈ g_WL ∧ Cond.superclass I.1 J.2.1.cls ∈ g_WL ∧ Cond.instanceMethod J.2.1 ∈ g_WL ∧ Cond.initialized J.2.1.cls ∈ g_WL ∧ g_hd J ∈ g_WL) (hh : J.2.2.2.2.2.1 = []) (hd : J.2.1.name ≠ "<init>" ∧ (parseMethodDescriptor J.2.1.desc).map (fun d => d.parameters.length) = some nA) (hro : (g_rm J).frames + 1 ≤ (g_rm I).frames ∧ 8 + (J.2.2.2.1 + 11) + (g_rm J).locals ≤ (g_rm I).locals) (hn : as.length = nA) (hst : g_sz st ≤ 8) (hf : k + (g_rm J).cells ≤ (g_rm I).cells ∧ n + (g_rm J).slots ≤ (g_rm I).slots) {stk : List g_AV} (he : as.reverse ++ vR kk i j :: st = stk) (d : decode I.2.2.1 pc = .ok (.invokespecial idx, 3))
    (K : g_Kq G X I mc ms Q (pc + 3) (k + (g_rm J).cells) (n + (g_rm J).slots) ls st Q') : g_V G X I mc ms Q pc k n ls stk h := by
  obtain ⟨p, l, e, R, s, m, args, below, meth, c, h0, ρ0⟩ := X
  subst he
  intro ρ H locs la w
  obtain ⟨hok, w1⟩ := g_ok_rev w
  have hokr := g_P_top w1
  have w2 := g_P_pop w1
  have hR : R = g_rm I := C0.2.2.2.2.2.2.2.2.2.2.2.2
  obtain ⟨hl, er⟩ := g_live (Or.inl rfl) (by have := CK.1; omega) w1.1 hokr
  obtain ⟨L, q0, p1, p2, p3, p4, p5, p6, p7, e1, e2⟩ := g_HR_obj CK.1 w1.1 hl
  have hat : ClassAt s C (G.1.1 (g_cls kk)) := ((g_Cx_K C0).1 _ _ CK.2.1).2
  have e0 : g_hd J = .code J.2.1 J.2.2.1 J.2.2.2.1 J.2.2.2.2.1 := by unfold g_hd; rw [hh]
  have hcode : Cond.code J.2.1 J.2.2.1 J.2.2.2.1 J.2.2.2.2.1 ∈ g_WL := e0 ▸ cw.2.2.2.2.2
  refine g_of_run w2 C0.2.2.2.2.2.2.2.2.2.2.2.1 (a := ((vR kk i j :: as).map (g_cv ρ)).toArray) ?_ K
  refine vx_runSU (b := ρ kk i j) (As := as.map (g_cv ρ)) (Ts := g_WL) (C := C) hat ⟨C0.1, C0.2.1, C0.2.2.1, g_Cx_own C0, g_Cx_ts C0⟩ (M l C0.2.2.2.2.2.2.2.2.1 ρ) (bytes := J.2.2.1) (maxL := J.2.2.2.1) (ret := J.2.2.2.2.1) ⟨⟨rfl, rfl, by rw [hR]; exact hro.1, by rw [hR]; exact hro.2, pay_in (g_Cx_ts C0) (g_goodIn_ws cw.2.2.2.2.2), by unfold g_ws; rw [e0]; exact List.mem_cons_self⟩, g_Cx_ts C0 _ cw.1, g_Cx_ts C0 _ cw.2.1, g_Cx_ts C0 _ cw.2.2.1, g_Cx_ts C0 _ cw.2.2.2.1, g_Cx_ts C0 _ cw.2.2.2.2.1, g_Cx_ts C0 _ hcode, hd.1, fun sig hs => by
    have h2 := hd.2
    rw [hs] at h2
    exact (Option.some.inj h2).symm⟩ ⟨g_blind, va_recv (g_Cx_K C0) p3 CK.2.1 e2, g_preS C0 w2 (fun v hv => (List.mem_cons.mp hv).elim (fun e => e ▸ hokr) (hok v))⟩ rfl (by rw [List.length_map]; exact hn) w2.2.2.1.1 ?_ ?_ d (by rw [hR]; exact hf)
  · rw [List.map_append, List.map_reverse]
    rfl
  · exact lv_room (pc := pc) (rest := ((as.reverse ++ vR kk i j :: st).map (g_cv ρ))) (by rw [g_sum_le]; exact hst)
/-- a method of a class above a constant object's -/
theorem s_callcU {x : MethodName} (hq : (C, kk, i) ∈ Y.2.1) (hk : 20 ≤ kk ∧ kk < 40) (C0 : g_Cx Y G X I) {nA : Nat} (M : ∀ l, l.stackTraces = false → g_Met l Y G J (vR kk i j :: as) h Q') (cw : ∀ w ∈ [Cond.methodLink I.1 idx x, Cond.sameMethod x.cls J.2.1.cls x.name x.desc, Cond.selects C x J.2.1, Cond.instanceMethod J.2.1, Cond.initialized J.2.1.cls, g_hd J], w ∈ g_WL) (hyx : J.2.1 = ⟨J.2.1.cls, x.name, x.desc⟩) (hh : J.2.2.2.2.2.1 = []) (hd : J.2.1.cls ≠ "java/lang/invoke/MethodHandle" ∧ J.2.1.cls ≠ "java/lang/invoke/VarHandle" ∧ (parseMethodDescriptor x.desc).map (fun d => d.parameters.length) = some nA) (hro : (g_rm J).frames + 1 ≤ (g_rm I).frames ∧ 8 + (J.2.2.2.1 + 11) + (g_rm J).locals ≤ (g_rm I).locals) (hn : as.length = nA) (hst : g_sz st ≤ 8) (hf : k + (g_rm J).cells ≤ (g_rm I).cells ∧ n + (g_rm J).slots ≤ (g_rm I).slots) {stk : List g_AV} (he : as.reverse ++ vR kk i j :: st = stk) (d : decode I.2.2.1 pc = .ok (.invokevirtual idx, 3))
    (K : g_Kq G X I mc ms Q (pc + 3) (k + (g_rm J).cells) (n + (g_rm J).slots) ls st Q') : g_V G X I mc ms Q pc k n ls stk h := by
  obtain ⟨p, l, e, R, s, m, args, below, meth, c, h0, ρ0⟩ := X
  subst he
  intro ρ H locs la w
  obtain ⟨hok, w1⟩ := g_ok_rev w
  have hokr := g_P_top w1
  have w2 := g_P_pop w1
  have hR : R = g_rm I := C0.2.2.2.2.2.2.2.2.2.2.2.2
  have hO : va_O C (G.2.2.1 kk i) G.2.2.2 s s.heap := (g_Cx_KS C0).2.2.1 _ hq
  rw [g_roc_cv w1.1 (c' := j) hk] at hO
  have e0 : g_hd J = .code J.2.1 J.2.2.1 J.2.2.2.1 J.2.2.2.2.1 := by unfold g_hd; rw [hh]
  refine g_of_run w2 C0.2.2.2.2.2.2.2.2.2.2.2.1 (a := ((vR kk i j :: as).map (g_cv ρ)).toArray) ?_ K
  refine vx_runU (b := ρ kk i j) (As := as.map (g_cv ρ)) (Ts := g_WL) (C := C) (owner := J.2.1.cls) (x := x) ⟨C0.1, C0.2.1, C0.2.2.1, g_Cx_own C0, g_Cx_ts C0⟩ (M l C0.2.2.2.2.2.2.2.2.1 ρ) (va_cwU (ws' := g_WL) (bytes := J.2.2.1) (maxL := J.2.2.2.1) (ret := J.2.2.2.2.1) nA (g_Cx_ts C0) ?_ (by unfold g_ws; rw [e0]) rfl rfl hyx hd (by rw [hR]; exact hro)) ⟨g_blind, ?_, g_preS C0 w2 (fun v hv => (List.mem_cons.mp hv).elim (fun e => e ▸ hokr) (hok v))⟩ rfl (by rw [List.length_map]; exact hn) w2.2.2.1.1 ?_ ?_ d (by rw [hR]; exact hf)
  · refine g_goodIn (fun w hw => ?_)
    unfold va_wsU at hw
    rcases List.mem_append.mp hw with hw | hw
    · exact cw w (List.mem_append_left [g_hd J] hw)
    · rcases List.mem_cons.mp hw with rfl | hw
      · exact cw _ (List.mem_of_getElem? (i := 5) rfl)
      · exact hw
  · obtain ⟨cell, z1, z2, z3, -⟩ := hO.kept w2.2.1.2.1
    exact ⟨cell, z1, z2, z3⟩
  · rw [List.map_append, List.map_reverse]
    rfl
  · exact lv_room (pc := pc) (rest := ((as.reverse ++ vR kk i j :: st).map (g_cv ρ))) (by rw [g_sum_le]; exact hst)
/-- the formatter of an error that doesn't come: null or some reference -/
theorem s_getsU (hl : Cond.fieldLink I.1 idx "jdk/internal/util/Preconditions" "SIOOBE_FORMATTER" "Ljava/util/function/BiFunction;" ∈ g_WL) (C0 : g_Cx Y G X I) (d : decode I.2.2.1 pc = .ok (.getstatic idx, 3)) (K0 : g_V G X I mc ms Q (pc + 3) k n ls (vV .null :: st) h) (K1 : ∀ b, g_V G X I mc ms Q (pc + 3) k n ls (vV (.ref b) :: st) h) : g_V G X I mc ms Q pc k n ls st h := by
  obtain ⟨p, l, e, R, s, m, args, below, meth, c, h0, ρ0⟩ := X
  intro ρ H locs la w
  have hZ := (g_Cx_KS C0).2.2.2.2.2.2.2.2.2.2.2.2.1
  rcases hZ with hZ | ⟨t, hZ⟩
  · exact va_gets C0.1 C0.2.1 hZ w.2.1 (g_Cx_own C0) (g_Cx_ts C0 _ hl) (fun _ h => h) d (K0 ρ H locs la (g_P_push trivial w))
  · exact va_gets C0.1 C0.2.1 hZ w.2.1 (g_Cx_own C0) (g_Cx_ts C0 _ hl) (fun _ h => h) d (K1 t ρ H locs la (g_P_push trivial w))
/-- the keywords, a private row of the outer class -/
theorem s_getsN {C n' d' : String} (hq : (C, n', d', v) ∈ Y.1) (hC : C = "VaneUnion" ∧ n' = "KEYWORDS" ∧ d' = "[LVaneUnion$Keyword;" ∧ I.1 = "VaneUnion$CommandText" ∧ idx = 73) (hv : g_cst v) (C0 : g_Cx Y G X I) (d : decode I.2.2.1 pc = .ok (.getstatic idx, 3)) (K : g_V G X I mc ms Q (pc + 3) k n ls (v :: st) h) : g_V G X I mc ms Q pc k n ls st h := by
  obtain ⟨p, l, e, R, s, m, args, below, meth, c, h0, ρ0⟩ := X
  obtain ⟨rfl, rfl, rfl, hI, rfl⟩ := hC
  intro ρ H locs la w
  have hZ : va_Z "VaneUnion" "KEYWORDS" "[LVaneUnion$Keyword;" (g_roc G v) G.2.2.2 s s.heap := (g_Cx_KS C0).2.1 _ hq
  rw [g_roc_eq w.1 hv] at hZ
  have hN := (g_Cx_KS C0).2.2.2.2.2.2.2.2.2.2.2.2.2.2.1
  exact va_getsN C0.1 C0.2.1 hZ w.2.1 (g_Cx_own C0) (va_Nw.use rfl (hI ▸ hN)) (fun _ h => h) d (K ρ H locs la (g_P_push (g_cst_ok hv) w))
end GMore
