/-! ===== throws, handlers, constants, new cells ===== -/
section GCst
variable {Y : g_Y} {G : g_G} {X : g_X} {I J : g_I} {mc ms : Nat} {Q Q' : g_R → g_Hp → Prop} {pc k n : Nat} {ls ls' : List (Nat × g_AV)} {st as : List g_AV} {h : g_Hp} {v w u : g_AV} {ρ : g_Rh} {H : Heap} {locs : List Loc} {la : Array Slot}
variable {kk kr s i j idx N : Nat} {C : String} {T : u_T} {ty : Nat → FieldType}
/-- not caught in a method without handlers -/
theorem s_prop {E : String} (hh : I.2.2.2.2.2.1 = []) (hw : k ≤ mc ∧ n ≤ ms) (hq : Q (.inr E) h) (C0 : g_Cx Y G X I) : g_VX G X I mc ms Q pc k n ls h E := by
  obtain ⟨p, l, e, R, s, m, args, below, meth, c, h0, ρ0⟩ := X
  intro ρ H locs la rest ce q w hce hcv hcl
  refine vx_out (E := E) ?_ C0.2.2.2.2.2.1 hce hcv hcl (fun t ht _ => ⟨⟨h, ρ, by rw [ht]; exact w.1, w.2.2.2.2.2, hq⟩, va_S.F w.2.1 ht⟩) w.2.1.2.2 hw.1 hw.2
  rw [C0.2.2.2.2.2.2.2.2.2.1, hh]
  intro x hx
  cases hx
/-- heap cells that are new leave the relation as it is -/
theorem g_HR_kept {H1 : Heap} (R : g_HR G ρ h H) (hk : ∀ q, q < H.size → H1[q]? = H[q]?) : g_HR G ρ h H1 := by
  obtain ⟨L, p1, p2, p3, p4, p5⟩ := R
  exact ⟨L, p1, p2, p3.kept (fun k q hq => hk q.1 ((p3 k q hq).lt)), p4, p5⟩
/-- what a throw of cls wants of the tables -/
def g_TW (Y : g_Y) (own : String) (ik ic : Nat) (cls : String) (names : List String) : Prop := Bundle.fit cls = true ∧ (∀ n ∈ names, Bundle.fit n = true) ∧ Cond.classLink own ik cls ∈ g_WL ∧ Cond.initialized cls ∈ g_WL ∧ (∀ w ∈ (vx_atS own ic cls names).filter goodWord, w ∈ lw_tbl) ∧ (∀ w ∈ (vx_atS own ic cls names).filter (fun w => !goodWord w), w ∈ Y.2.2.2.2.2.2.1.map (fun q => Cond.castable q.1 q.2) ++ g_dcl.map Cond.declares) ∧ (∀ w ∈ Cond.classLink own ik cls :: Cond.initialized cls :: vx_atS own ic cls names, vx_ot w = true)
theorem g_throw_x {p : Program} {l : Launch} {e : Env} {R : Room} {s : State} {m : MethodId} {args : Array Value} {below : List Frame} {meth : Method} {c : Code} {h0 : g_Hp} {ρ0 : g_Rh} {E : String} (w : g_P G (p, l, e, R, s, m, args, below, meth, c, h0, ρ0) I ls st h ρ H locs la) (hq : Q (.inr E) h) : ∀ t : State, s.vm.Alike t.vm → H.size ≤ t.heap.size → (∀ q : Nat, q < H.size → t.heap[q]? = H[q]?) → g_Xc G ρ0 h0 Q E s t := fun t _ h1 h2 =>
  ⟨⟨h, ρ, g_HR_kept w.1 h2, w.2.2.2.2.2, hq⟩, Nat.le_trans w.2.1.1 h1, fun q z1 z2 => (h2 q (Nat.lt_of_lt_of_le z1 w.2.1.1)).trans (w.2.1.2.1 q z1 z2)⟩
theorem g_throw_at {p : Program} {l : Launch} {e : Env} {R : Room} {s : State} {m : MethodId} {args : Array Value} {below : List Frame} {meth : Method} {c : Code} {h0 : g_Hp} {ρ0 : g_Rh} {own cls : String} {ik ic : Nat} {names : List String} (C0 : g_Cx Y G (p, l, e, R, s, m, args, below, meth, c, h0, ρ0) I) (tw : g_TW Y own ik ic cls names) : ∀ w ∈ vx_atS own ic cls names, w.before args s = true := by
  refine vx_hat (B := Y.2.2.2.2.2.2.1.map (fun q => Cond.castable q.1 q.2) ++ g_dcl.map Cond.declares) (fun w hw => g_Cx_ts C0 w (List.mem_filter.mpr ⟨List.mem_append_left _ (tw.2.2.2.2.1 w hw), (List.mem_filter.mp hw).2⟩)) tw.2.2.2.2.2.1 (fun w hw => ?_)
  rcases List.mem_append.mp hw with hw | hw
  · obtain ⟨q, hq, rfl⟩ := List.mem_map.mp hw
    exact va_Nw.use rfl ((g_Cx_KS C0).2.2.2.2.2.2.2.1 q hq)
  · obtain ⟨q, hq, rfl⟩ := List.mem_map.mp hw
    exact va_Nw.use rfl ((g_Cx_KS C0).2.2.2.2.2.2.2.2.2.2.2.2.2.2.2 q hq)
theorem s_throwW {cls tx : String} {names : List String} {ik is ic sp : Nat} (tw : g_TW Y I.1 ik ic cls names) (hq : (I.1, is, tx, sp) ∈ Y.2.2.2.2.1) (hh : I.2.2.2.2.2.1 = []) (hro : names.length + 3 < (g_rm I).frames ∧ g_sz st + (13 * (names.length + 1) + 43) ≤ (g_rm I).locals ∧ k + 1 ≤ (g_rm I).cells ∧ n + 6 ≤ (g_rm I).slots) (hmc : k + 1 ≤ mc ∧ n + 6 ≤ ms) (hQ : Q (.inr cls) h) (C0 : g_Cx Y G X I)
    (d0 : decode I.2.2.1 pc = .ok (.new ik, 3)) (d3 : decode I.2.2.1 (pc + 3) = .ok (.dup, 1)) (d4 : decode I.2.2.1 (pc + 4) = .ok (.ldc_w is, 3)) (d7 : decode I.2.2.1 (pc + 7) = .ok (.invokespecial ic, 3)) (d10 : decode I.2.2.1 (pc + 10) = .ok (.athrow, 1)) : g_V G X I mc ms Q pc k n ls st h := by
  obtain ⟨p, l, e, R, s, m, args, below, meth, c, h0, ρ0⟩ := X
  intro ρ H locs la w
  have hR : R = g_rm I := C0.2.2.2.2.2.2.2.2.2.2.2.2
  have KS := g_Cx_KS C0
  refine vx_throwSW (own := I.1) (cls := cls) (text := tx) (names := names) (sa := G.2.2.1 24 sp) (A := G.2.2.2) C0.1 C0.2.1 C0.2.2.2.2.2.2.2.2.1 (g_Cx_own C0) tw.1 tw.2.1 (g_Cx_ts C0 _ tw.2.2.1) (g_Cx_ts C0 _ tw.2.2.2.1) (KS.2.2.2.2.2.1 _ hq) (g_throw_at C0 tw) tw.2.2.2.2.2.2 KS.2.2.2.2.2.2.2.2.2.1 KS.2.2.2.2.2.2.2.2.2.2.1 w.2.1 (w.2.2.1.1.trans C0.2.2.1.symm) d0 d3 d4 d7 d10 ?_ (by rw [hR]; exact hro.1) (by rw [g_sum_le, hR]; exact hro.2.1) (by rw [hR]; exact hro.2.2.1) (by rw [hR]; exact hro.2.2.2) C0.2.2.2.2.2.1 (g_throw_x w hQ) w.2.1.2.2 hmc.1 hmc.2
  rw [C0.2.2.2.2.2.2.2.2.2.1, hh]
  intro x hx
  cases hx
theorem s_throwS {cls tx : String} {names : List String} {ik is ic sp : Nat} (tw : g_TW Y I.1 ik ic cls names) (hq : (I.1, is, tx, sp) ∈ Y.2.2.2.2.1) (hh : I.2.2.2.2.2.1 = []) (hro : names.length + 3 < (g_rm I).frames ∧ g_sz st + (13 * (names.length + 1) + 43) ≤ (g_rm I).locals ∧ k + 1 ≤ (g_rm I).cells ∧ n + 6 ≤ (g_rm I).slots) (hmc : k + 1 ≤ mc ∧ n + 6 ≤ ms) (hQ : Q (.inr cls) h) (C0 : g_Cx Y G X I)
    (d0 : decode I.2.2.1 pc = .ok (.new ik, 3)) (d3 : decode I.2.2.1 (pc + 3) = .ok (.dup, 1)) (d4 : decode I.2.2.1 (pc + 4) = .ok (.ldc is, 2)) (d6 : decode I.2.2.1 (pc + 6) = .ok (.invokespecial ic, 3)) (d9 : decode I.2.2.1 (pc + 9) = .ok (.athrow, 1)) : g_V G X I mc ms Q pc k n ls st h := by
  obtain ⟨p, l, e, R, s, m, args, below, meth, c, h0, ρ0⟩ := X
  intro ρ H locs la w
  have hR : R = g_rm I := C0.2.2.2.2.2.2.2.2.2.2.2.2
  have KS := g_Cx_KS C0
  refine vx_throwS (own := I.1) (cls := cls) (text := tx) (names := names) (sa := G.2.2.1 24 sp) (A := G.2.2.2) C0.1 C0.2.1 C0.2.2.2.2.2.2.2.2.1 (g_Cx_own C0) tw.1 tw.2.1 (g_Cx_ts C0 _ tw.2.2.1) (g_Cx_ts C0 _ tw.2.2.2.1) (KS.2.2.2.2.2.1 _ hq) (g_throw_at C0 tw) tw.2.2.2.2.2.2 KS.2.2.2.2.2.2.2.2.2.1 KS.2.2.2.2.2.2.2.2.2.2.1 w.2.1 (w.2.2.1.1.trans C0.2.2.1.symm) d0 d3 d4 d6 d9 ?_ (by rw [hR]; exact hro.1) (by rw [g_sum_le, hR]; exact hro.2.1) (by rw [hR]; exact hro.2.2.1) (by rw [hR]; exact hro.2.2.2) C0.2.2.2.2.2.1 (g_throw_x w hQ) w.2.1.2.2 hmc.1 hmc.2
  rw [C0.2.2.2.2.2.2.2.2.2.1, hh]
  intro x hx
  cases hx
/-- caught by a row of the method's table, past rows of classes that it can't be cast to -/
theorem s_catch {E name : String} (pre : List (Nat × Nat × Nat × Nat)) (x : Nat × Nat × Nat × Nat) (suf : List (Nat × Nat × Nat × Nat)) (hsp : I.2.2.2.2.2.1 = pre ++ x :: suf) (hcov : ∀ y ∈ pre ++ [x], covers ⟨y.1, y.2.1, y.2.2.1, y.2.2.2⟩ pc = true) (hpre : ∀ y ∈ pre, y.2.2.2 ≠ 0 ∧ ∃ nm : String, Cond.classLink I.1 y.2.2.2 nm ∈ g_WL ∧ (E, nm) ∈ Y.2.2.2.2.2.2.2) (h0 : x.2.2.2 ≠ 0) (hl : Cond.classLink I.1 x.2.2.2 name ∈ g_WL) (hca : (E, name) ∈ Y.2.2.2.2.2.2.1) (C0 : g_Cx Y G X I)
    (K : ∀ q, g_V G X I mc ms Q x.2.2.1 k n ls [vV (.ref q)] h) : g_VX G X I mc ms Q pc k n ls h E := by
  obtain ⟨p, l, e, R, s, m, args, below, meth, c, h00, ρ0⟩ := X
  intro ρ H locs la rest ce q w hce hcv hcl
  have KS := g_Cx_KS C0
  have K' := K q ρ H locs la (g_P_push (v := vV (.ref q)) trivial w)
  refine vx_catch (own := I.1) (name := name) (E := E) (g_Cx_own C0) (tableOf pre) ⟨x.1, x.2.1, x.2.2.1, x.2.2.2⟩ (tableOf suf) ?_ ?_ (hcov x (List.mem_append_right _ List.mem_cons_self)) h0 (g_Cx_ts C0 _ hl) (va_Nw.use rfl (KS.2.2.2.2.2.2.2.1 _ hca)) hce hcv hcl K'
  · rw [C0.2.2.2.2.2.2.2.2.2.1, hsp]
    unfold tableOf
    rw [List.map_append]
    rfl
  · intro z hz
    obtain ⟨y, hy, rfl⟩ := List.mem_map.mp hz
    obtain ⟨q1, nm, q2, q3⟩ := hpre y hy
    exact Or.inr ⟨q1, nm, g_Cx_ts C0 _ q2, KS.2.2.2.2.2.2.2.2.1 _ q3⟩
theorem s_astoreQ_n {q : Fin 4} {i b : Nat} (C0 : g_Cx Y G X I) (d : decode I.2.2.1 pc = .ok (.astore_n q, 1)) (hi : (q : Nat) = i) (hn : i < I.2.2.2.1) (he : g_put1 i (vV (.ref b)) ls = ls') (K : g_V G X I mc ms Q (pc + 1) k n ls' st h) : g_V G X I mc ms Q pc k n ls (vV (.ref b) :: st) h := by
  obtain ⟨p, l, e, R, s, m, args, below, meth, c, h0, ρ0⟩ := X
  exact fun ρ H locs la w => lv_astore_n C0.1 C0.2.1 d hi (g_P_lh w) hn (g_put1_lc ρ i (vV (.ref b)) ls) (fun la' hl => K ρ H locs la' (he ▸ g_P_put1 w hl))
theorem s_astoreQ {i b : Nat} (C0 : g_Cx Y G X I) (d : decode I.2.2.1 pc = .ok (.astore i, 2)) (hn : i < I.2.2.2.1) (he : g_put1 i (vV (.ref b)) ls = ls') (K : g_V G X I mc ms Q (pc + 2) k n ls' st h) : g_V G X I mc ms Q pc k n ls (vV (.ref b) :: st) h := by
  obtain ⟨p, l, e, R, s, m, args, below, meth, c, h0, ρ0⟩ := X
  exact fun ρ H locs la w => lv_astore C0.1 C0.2.1 d (g_P_lh w) hn (g_put1_lc ρ i (vV (.ref b)) ls) (fun la' hl => K ρ H locs la' (he ▸ g_P_put1 w hl))
/-! constants -/
def g_cst (v : g_AV) : Prop := match v with
  | .inr (.inl a) => 20 ≤ a.1 ∧ a.1 < 40
  | _ => True
theorem g_cst_ok (hv : g_cst v) : g_ok h v := by
  match v, hv with
  | .inl _, _ => exact trivial
  | .inr (.inl a), hv => exact Or.inr (Or.inl hv)
  | .inr (.inr _), _ => exact trivial
theorem g_roc_eq (R : g_HR G ρ h H) {v : g_AV} (hv : g_cst v) : g_roc G v = g_cv ρ v := by
  match v, hv with
  | .inl _, _ => rfl
  | .inr (.inl a), hv => exact congrArg Value.ref (g_roc_cv R hv)
  | .inr (.inr _), _ => rfl
theorem s_gets {nm d' : String} (hq : (C, nm, d', v) ∈ Y.1) (hv : g_cst v) (hl : Cond.fieldLink I.1 idx C nm d' ∈ g_WL) (C0 : g_Cx Y G X I) (d : decode I.2.2.1 pc = .ok (.getstatic idx, 3)) (K : g_V G X I mc ms Q (pc + 3) k n ls (v :: st) h) : g_V G X I mc ms Q pc k n ls st h := by
  obtain ⟨p, l, e, R, s, m, args, below, meth, c, h0, ρ0⟩ := X
  intro ρ H locs la w
  have hZ : va_Z C nm d' (g_roc G v) G.2.2.2 s s.heap := (g_Cx_KS C0).2.1 _ hq
  rw [g_roc_eq w.1 hv] at hZ
  exact va_gets C0.1 C0.2.1 hZ w.2.1 (g_Cx_own C0) (g_Cx_ts C0 _ hl) (fun _ h => h) d (K ρ H locs la (g_P_push (g_cst_ok hv) w))
theorem s_getc {o nm d' : String} (hk : 20 ≤ kk ∧ kk < 40) (hq : (o, nm, d', v, kk, i) ∈ Y.2.2.1) (hv : g_cst v) (hl : Cond.fieldLink I.1 idx o nm d' ∈ g_WL) (C0 : g_Cx Y G X I) (d : decode I.2.2.1 pc = .ok (.getfield idx, 3)) (K : g_V G X I mc ms Q (pc + 3) k n ls (v :: st) h) : g_V G X I mc ms Q pc k n ls (vR kk i j :: st) h := by
  obtain ⟨p, l, e, R, s, m, args, below, meth, c, h0, ρ0⟩ := X
  intro ρ H locs la w
  have hZ : va_OF o nm d' (g_roc G v) (G.2.2.1 kk i) G.2.2.2 s s.heap := (g_Cx_KS C0).2.2.2.1 _ hq
  rw [g_roc_eq w.1 hv, g_roc_cv w.1 (c' := j) hk] at hZ
  exact vk_getf C0.1 C0.2.1 hZ w.2.1 (g_Cx_own C0) (g_Cx_ts C0 _ hl) (fun _ h => h) d (K ρ H locs la (g_P_push (g_cst_ok hv) (g_P_pop w)))
theorem g_T_at (R : g_HR G ρ h H) {s : State} (KS : g_KS Y G s s.heap) (hk : 20 ≤ kk ∧ kk < 40) {ty : FieldType} {l : List g_AV} (hq : (ty, kk, i, l) ∈ Y.2.2.2.1) : va_T ty (ρ kk i j) l.length (fun z => g_roc G (l.getD z (vI 0))) G.2.2.2 s s.heap := by
  have hZ : va_T ty (G.2.2.1 kk i) l.length (fun z => g_roc G (l.getD z (vI 0))) G.2.2.2 s s.heap := KS.2.2.2.2.1 _ hq
  rw [g_roc_cv R (c' := j) hk] at hZ
  exact hZ
theorem s_ialdc {l : List g_AV} {x y : Int32} (hk : 20 ≤ kk ∧ kk < 40) (hq : (.int, kk, i, l) ∈ Y.2.2.2.1) (hin : vp_in x l.length) (hy : l.getD x.toNatClampNeg (vI 0) = vI y) (C0 : g_Cx Y G X I) (d : decode I.2.2.1 pc = .ok (.iaload, 1)) (K : g_V G X I mc ms Q (pc + 1) k n ls (vI y :: st) h) : g_V G X I mc ms Q pc k n ls (vI x :: vR kk i j :: st) h := by
  obtain ⟨p, l, e, R, s, m, args, below, meth, c, h0, ρ0⟩ := X
  intro ρ H locs la w
  exact va_ti C0.1 C0.2.1 (g_T_at (j := j) w.1 (g_Cx_KS C0) hk hq) w.2.1 hin (v := .int y) (by rw [hy]; rfl) d (K ρ H locs la (g_P_push trivial (g_P_pop (g_P_pop w))))
theorem s_baldc {l : List g_AV} {x y : Int32} (hk : 20 ≤ kk ∧ kk < 40) (hq : (.byte, kk, i, l) ∈ Y.2.2.2.1) (hin : vp_in x l.length) (hy : l.getD x.toNatClampNeg (vI 0) = vI y) (C0 : g_Cx Y G X I) (d : decode I.2.2.1 pc = .ok (.baload, 1)) (K : g_V G X I mc ms Q (pc + 1) k n ls (vI y :: st) h) : g_V G X I mc ms Q pc k n ls (vI x :: vR kk i j :: st) h := by
  obtain ⟨p, l, e, R, s, m, args, below, meth, c, h0, ρ0⟩ := X
  intro ρ H locs la w
  exact va_tb C0.1 C0.2.1 (g_T_at (j := j) w.1 (g_Cx_KS C0) hk hq) w.2.1 hin (v := .int y) (by rw [hy]; rfl) d (K ρ H locs la (g_P_push trivial (g_P_pop (g_P_pop w))))
theorem s_aaldc {l : List g_AV} {x : Int32} {a b : Nat} (hk : 20 ≤ kk ∧ kk < 40) (hq : (.object C, kk, i, l) ∈ Y.2.2.2.1) (hin : vp_in x l.length) (ha : 20 ≤ a ∧ a < 40) (hy : l.getD x.toNatClampNeg (vI 0) = vR a b 0) (C0 : g_Cx Y G X I) (d : decode I.2.2.1 pc = .ok (.aaload, 1)) (K : g_V G X I mc ms Q (pc + 1) k n ls (vR a b 0 :: st) h) : g_V G X I mc ms Q pc k n ls (vI x :: vR kk i j :: st) h := by
  obtain ⟨p, l, e, R, s, m, args, below, meth, c, h0, ρ0⟩ := X
  intro ρ H locs la w
  exact vb_tq C0.1 C0.2.1 (g_T_at (j := j) w.1 (g_Cx_KS C0) hk hq) w.2.1 hin (v := .ref (ρ a b 0)) (by rw [hy]; exact congrArg Value.ref (g_roc_cv w.1 ha)) d (K ρ H locs la (g_P_push (Or.inr (Or.inl ha)) (g_P_pop (g_P_pop w))))
theorem s_alenc {l : List g_AV} {ty : FieldType} (hk : 20 ≤ kk ∧ kk < 40) (hq : (ty, kk, i, l) ∈ Y.2.2.2.1) (C0 : g_Cx Y G X I) (d : decode I.2.2.1 pc = .ok (.arraylength, 1)) (K : g_V G X I mc ms Q (pc + 1) k n ls (vI (Int32.ofNat l.length) :: st) h) : g_V G X I mc ms Q pc k n ls (vR kk i j :: st) h := by
  obtain ⟨p, l, e, R, s, m, args, below, meth, c, h0, ρ0⟩ := X
  intro ρ H locs la w
  exact va_tlen C0.1 C0.2.1 (g_T_at (j := j) w.1 (g_Cx_KS C0) hk hq) w.2.1 rfl d (K ρ H locs la (g_P_push trivial (g_P_pop w)))
/-- the faults are told apart by their places -/
theorem s_acmp_eq20 {a b c' d' : Nat} {off : Int} {tgt : Nat} (hab : a < 6 ∧ b < 6) (C0 : g_Cx Y G X I) (d : decode I.2.2.1 pc = .ok (.if_acmp .eq off, 3)) (ht : (pc : Int) + off = (tgt : Int)) (K1 : a = b → g_V G X I mc ms Q tgt k n ls st h) (K2 : ¬ a = b → g_V G X I mc ms Q (pc + 3) k n ls st h) : g_V G X I mc ms Q pc k n ls (vR 20 b d' :: vR 20 a c' :: st) h := by
  obtain ⟨p, l, e, R, s, m, args, below, meth, c, h0, ρ0⟩ := X
  intro ρ H locs la w
  have ea := g_roc_cv w.1 (a := 20) (b := a) (c' := c') ⟨by omega, by omega⟩
  have eb := g_roc_cv w.1 (a := 20) (b := b) (c' := d') ⟨by omega, by omega⟩
  have inj := (g_Cx_KS C0).2.2.2.2.2.2.2.2.2.2.2.1
  refine lv_acmp_eq (rx := some (ρ 20 a c')) (ry := some (ρ 20 b d')) C0.1 C0.2.1 d ht (fun z => K1 ?_ ρ H locs la (g_P_pop (g_P_pop w))) (fun z => K2 (fun q => z ?_) ρ H locs la (g_P_pop (g_P_pop w)))
  · exact inj a b hab.1 hab.2 (by rw [ea, eb]; exact Option.some.inj z)
  · rw [← ea, ← eb, q]
end GCst
