/-! ===== fields and arrays, over ghost states ===== -/
/-- what is known of kind kk's class -/
def g_CK (kk : Nat) (C : String) (T : u_T) (N : Nat) (ty : Nat → FieldType) : Prop := kk < 10 ∧ vwCl[g_cls kk]? = some (C, T, N) ∧ N = g_nf kk ∧ (∀ w ∈ u_ws C T N, w ∈ g_WL) ∧ (∀ k, k < N → parseFieldDescriptor (T k).2.2.1 = some (ty k)) ∧ (∀ a, a < N → ∀ b, b < N → a ≠ b → (T a).2.1 ≠ (T b).2.1)
theorem g_Cx_ts {Y : g_Y} {G : g_G} {I : g_I} {p : Program} {l : Launch} {e : Env} {R : Room} {s : State} {m : MethodId} {args : Array Value} {below : List Frame} {meth : Method} {c : Code} {h0 : g_Hp} {ρ0 : g_Rh} (C : g_Cx Y G (p, l, e, R, s, m, args, below, meth, c, h0, ρ0) I) : ∀ w ∈ g_WL, w.before args s = true := C.2.2.2.2.1
theorem g_Cx_own {Y : g_Y} {G : g_G} {I : g_I} {p : Program} {l : Launch} {e : Env} {R : Room} {s : State} {m : MethodId} {args : Array Value} {below : List Frame} {meth : Method} {c : Code} {h0 : g_Hp} {ρ0 : g_Rh} (C : g_Cx Y G (p, l, e, R, s, m, args, below, meth, c, h0, ρ0) I) : s.vm.findClass I.1 = some m.cls := C.2.2.2.1
theorem g_Cx_K {Y : g_Y} {G : g_G} {I : g_I} {p : Program} {l : Launch} {e : Env} {R : Room} {s : State} {m : MethodId} {args : Array Value} {below : List Frame} {meth : Method} {c : Code} {h0 : g_Hp} {ρ0 : g_Rh} (C : g_Cx Y G (p, l, e, R, s, m, args, below, meth, c, h0, ρ0) I) : va_K G.1 vwCl (g_tys G) s := C.2.2.2.2.2.2.2.2.2.2.1.1
theorem g_Cx_KS {Y : g_Y} {G : g_G} {I : g_I} {p : Program} {l : Launch} {e : Env} {R : Room} {s : State} {m : MethodId} {args : Array Value} {below : List Frame} {meth : Method} {c : Code} {h0 : g_Hp} {ρ0 : g_Rh} (C : g_Cx Y G (p, l, e, R, s, m, args, below, meth, c, h0, ρ0) I) : g_KS Y G s s.heap := C.2.2.2.2.2.2.2.2.2.2.1
section GHeap
variable {Y : g_Y} {G : g_G} {X : g_X} {I : g_I} {mc ms : Nat} {Q : g_R → g_Hp → Prop} {pc k n : Nat} {ls ls' : List (Nat × g_AV)} {st : List g_AV} {h : g_Hp} {v w u : g_AV} {ρ : g_Rh} {H : Heap} {locs : List Loc} {la : Array Slot}
variable {kk kr s i j idx N : Nat} {C : String} {T : u_T} {ty : Nat → FieldType}
theorem s_name (K : ∀ h', h' = h → g_V G X I mc ms Q pc k n ls st h') : g_V G X I mc ms Q pc k n ls st h := K h rfl
theorem s_namei {x : Int32} (K : ∀ y, y = x → g_V G X I mc ms Q pc k n ls (vI y :: st) h) : g_V G X I mc ms Q pc k n ls (vI x :: st) h := K x rfl
theorem s_namel {x : Int64} (K : ∀ y, y = x → g_V G X I mc ms Q pc k n ls (vV (.long y) :: st) h) : g_V G X I mc ms Q pc k n ls (vV (.long x) :: st) h := K x rfl
theorem s_namef {x : UInt32} (K : ∀ y, y = x → g_V G X I mc ms Q pc k n ls (vV (.float y) :: st) h) : g_V G X I mc ms Q pc k n ls (vV (.float x) :: st) h := K x rfl
theorem s_named {x : UInt64} (K : ∀ y, y = x → g_V G X I mc ms Q pc k n ls (vV (.double y) :: st) h) : g_V G X I mc ms Q pc k n ls (vV (.double x) :: st) h := K x rfl
/-- an int's field -/
theorem s_geti (CK : g_CK kk C T N ty) (hkr : kr = kk ∨ kr = kk + 40) (hs : s < g_nf kk) (hw : Cond.fieldLink I.1 idx (T s).1 (T s).2.1 (T s).2.2.1 ∈ g_WL) (hr : ∀ x, g_rt kk s i x = none) (C0 : g_Cx Y G X I) (d : decode I.2.2.1 pc = .ok (.getfield idx, 3)) (K : g_V G X I mc ms Q (pc + 3) k n ls (vI (h kk i j (s + 1)) :: st) h) : g_V G X I mc ms Q pc k n ls (vR kr i j :: st) h := by
  obtain ⟨p, l, e, R, s0, m, args, below, meth, c, h0, ρ0⟩ := X
  obtain ⟨k1, k2, k3, k4, k5, k6⟩ := CK
  intro ρ H locs la w
  obtain ⟨hl, er⟩ := g_live hkr (by omega) w.1 (g_P_top w)
  obtain ⟨L, q0, p1, p2, p3, p4, p5, p6, p7, e1, e2⟩ := g_HR_obj k1 w.1 hl
  have K' := K ρ H locs la (g_P_push trivial (g_P_pop w))
  show W p l e R s0 m args below meth c H locs k n _ (F0 m pc la (.ref (ρ kr i j) :: st.map (g_cv ρ)))
  rw [er]
  refine va_get (D := G.1) (cl := vwCl) (tys := g_tys G) (Ts := g_WL) C0.1 C0.2.1 (g_Cx_ts C0) k4 (g_Cx_own C0) (g_Cx_K C0) p3 q0 e2 k2 s (by omega) (g_Cx_ts C0 _ hw) (fun _ h => h) (v := .int (h kk i j (s + 1))) ?_ d K'
  rw [g_fs_get ρ h (kk, i, j) hs]
  show some (g_cv ρ (g_fv kk s i (h kk i j (s + 1)))) = _
  unfold g_fv
  rw [hr]
  rfl
/-- a reference's field of a sealed object -/
theorem s_getr {a b c' : Nat} (CK : g_CK kk C T N ty) (hs : s < g_nf kk) (hw : Cond.fieldLink I.1 idx (T s).1 (T s).2.1 (T s).2.2.1 ∈ g_WL) (hr : g_rt kk s i (h kk i j (s + 1)) = some (a, b, c')) (C0 : g_Cx Y G X I) (d : decode I.2.2.1 pc = .ok (.getfield idx, 3)) (K : g_V G X I mc ms Q (pc + 3) k n ls (vR a b c' :: st) h) : g_V G X I mc ms Q pc k n ls (vR kk i j :: st) h := by
  obtain ⟨p, l, e, R, s0, m, args, below, meth, c, h0, ρ0⟩ := X
  obtain ⟨k1, k2, k3, k4, k5, k6⟩ := CK
  intro ρ H locs la w
  obtain ⟨hl, er⟩ := g_live (Or.inl rfl) (by omega) w.1 (g_P_top w)
  obtain ⟨L, q0, p1, p2, p3, p4, p5, p6, p7, e1, e2⟩ := g_HR_obj k1 w.1 hl
  have hsd : h (kk + 40) i j 0 ≠ 0 := by
    rcases g_P_top w with ⟨-, -, z⟩ | ⟨z, -⟩ | ⟨z, -, -⟩
    · exact z
    · have : 20 ≤ kk := z
      omega
    · have : 40 ≤ kk := z
      omega
  obtain ⟨hx, hok⟩ := ((p5 kk i j (by omega)).2.1 k1 s _ hs hr).2 hsd
  refine va_get (D := G.1) (cl := vwCl) (tys := g_tys G) (Ts := g_WL) C0.1 C0.2.1 (g_Cx_ts C0) k4 (g_Cx_own C0) (g_Cx_K C0) p3 q0 e2 k2 s (by omega) (g_Cx_ts C0 _ hw) (fun _ h => h) (v := g_cv ρ (vR a b c')) ?_ d (K ρ H locs la (g_P_push hok (g_P_pop w)))
  rw [g_fs_get ρ h (kk, i, j) hs]
  show some (g_cv ρ (g_fv kk s i (h kk i j (s + 1)))) = _
  unfold g_fv
  rw [hr]
  show some (g_cv ρ (if h kk i j (s + 1) = 0 then vV .null else .inr (.inl (a, b, c')))) = _
  rw [if_neg hx]
/-- a reference's field of an object that isn't sealed yet: it leads to what isn't, or is -/
theorem s_getr' {a b c' ar : Nat} (CK : g_CK kk C T N ty) (hs : s < g_nf kk) (hw : Cond.fieldLink I.1 idx (T s).1 (T s).2.1 (T s).2.2.1 ∈ g_WL) (hr : g_rt kk s i (h kk i j (s + 1)) = some (a, b, c')) (har : (ar = a ∨ ar = a + 40) ∧ a < 20) (hx : h kk i j (s + 1) ≠ 0) (hok : g_okA h ar b c') (C0 : g_Cx Y G X I) (d : decode I.2.2.1 pc = .ok (.getfield idx, 3)) (K : g_V G X I mc ms Q (pc + 3) k n ls (vR ar b c' :: st) h) : g_V G X I mc ms Q pc k n ls (vR (kk + 40) i j :: st) h := by
  obtain ⟨p, l, e, R, s0, m, args, below, meth, c, h0, ρ0⟩ := X
  obtain ⟨k1, k2, k3, k4, k5, k6⟩ := CK
  intro ρ H locs la w
  obtain ⟨hl, er⟩ := g_live (Or.inr rfl) (by omega) w.1 (g_P_top w)
  obtain ⟨L, q0, p1, p2, p3, p4, p5, p6, p7, e1, e2⟩ := g_HR_obj k1 w.1 hl
  obtain ⟨-, er2⟩ := g_live har.1 har.2 w.1 hok
  have K' := K ρ H locs la (g_P_push hok (g_P_pop w))
  have K2 : W p l e R s0 m args below meth c H locs k n (vx_MQ below (g_Qc G ρ0 h0 Q) (g_Xc G ρ0 h0 Q) args s0 mc ms G.2.2.2) (F0 m (pc + 3) la (.ref (ρ ar b c') :: st.map (g_cv ρ))) := K'
  rw [er2] at K2
  show W p l e R s0 m args below meth c H locs k n _ (F0 m pc la (.ref (ρ (kk + 40) i j) :: st.map (g_cv ρ)))
  rw [er]
  refine va_get (D := G.1) (cl := vwCl) (tys := g_tys G) (Ts := g_WL) C0.1 C0.2.1 (g_Cx_ts C0) k4 (g_Cx_own C0) (g_Cx_K C0) p3 q0 e2 k2 s (by omega) (g_Cx_ts C0 _ hw) (fun _ h => h) (v := g_cv ρ (vR a b c')) ?_ d K2
  rw [g_fs_get ρ h (kk, i, j) hs]
  show some (g_cv ρ (g_fv kk s i (h kk i j (s + 1)))) = _
  unfold g_fv
  rw [hr]
  show some (g_cv ρ (if h kk i j (s + 1) = 0 then vV .null else .inr (.inl (a, b, c')))) = _
  rw [if_neg hx]
/-- behind a write -/
theorem g_P_wr {x : Int32} {H1 : Heap} {locs1 : List Loc} (w : g_P G X I ls st h ρ H locs la) (hR : g_HR G ρ (g_up h kk i j (s + 1) x) H1) (hS : match X with | (_, _, _, _, s0, _, _, _, _, _, _, _) => va_S G.2.2.2 s0.heap H1 locs1) : g_P G X I ls st (g_up h kk i j (s + 1) x) ρ H1 locs1 la := by
  obtain ⟨p, l, e, R, s0, m, args, below, meth, c, h0, ρ0⟩ := X
  obtain ⟨w1, w2, w3, w4, w5, w6⟩ := w
  exact ⟨hR, hS, w3, fun q hq => g_ok_mono (g_ext_up h ρ kk i j s x) (w4 q hq), fun q hq => g_ok_mono (g_ext_up h ρ kk i j s x) (w5 q hq), g_ext_tr w6 (g_ext_up h ρ kk i j s x)⟩
/-- an int into a field -/
theorem s_puti {x : Int32} (CK : g_CK kk C T N ty) (hkr : kr = kk ∨ kr = kk + 40) (hs : s < g_nf kk) (hw : Cond.fieldLink I.1 idx (T s).1 (T s).2.1 (T s).2.2.1 ∈ g_WL) (hr : ∀ x, g_rt kk s i x = none) (hfin : (T s).2.2.2 = false) (hna : narrow (ty s) (.int x) = .int x) (hft : fits (ty s) (.int x) = true) (C0 : g_Cx Y G X I) (d : decode I.2.2.1 pc = .ok (.putfield idx, 3)) (K : g_V G X I mc ms Q (pc + 3) k n ls st (g_up h kk i j (s + 1) x)) : g_V G X I mc ms Q pc k n ls (vI x :: vR kr i j :: st) h := by
  obtain ⟨p, l, e, R, s0, m, args, below, meth, c, h0, ρ0⟩ := X
  obtain ⟨k1, k2, k3, k4, k5, k6⟩ := CK
  intro ρ H locs la w
  obtain ⟨hl, er⟩ := g_live hkr (by omega) w.1 (g_P_top (g_P_pop w))
  obtain ⟨L, q0, p1, p2, p3, p4, p5, p6, p7, e1, e2⟩ := g_HR_obj k1 w.1 hl
  show W p l e R s0 m args below meth c H locs k n _ (F0 m pc la (.int x :: .ref (ρ kr i j) :: st.map (g_cv ρ)))
  rw [er]
  refine va_put (D := G.1) (cl := vwCl) (tys := g_tys G) (Ts := g_WL) C0.1 C0.2.1 (g_Cx_ts C0) k4 ty k5 k6 (g_Cx_own C0) (g_Cx_K C0) p3 p4 w.2.1 q0 e2 k2 s (by omega) (g_Cx_ts C0 _ hw) (fun _ h => h) hfin (k5 s (by omega)) hna hft (by rw [g_fs_len]; exact hs) d (fun H1 locs1 hP hD hS => ?_)
  have ev : (Value.int x) = g_cv ρ (g_fv kk s i x) := by
    unfold g_fv
    rw [hr]
    rfl
  have hse : g_seal (g_up h kk i j (s + 1) x) := g_seal_up p5 (fun _ a _ z => by rw [hr] at z; cases z) (fun z => by omega)
  have hR : g_HR G ρ (g_up h kk i j (s + 1) x) H1 := by
    refine g_HR_set p1 p2 e1 ?_ hP hD hse p6 p7
    unfold g_en
    rw [if_pos k1, ← g_fs_up ρ h kk i j hs x, ← ev]
  exact K ρ H1 locs1 la (g_P_wr (g_P_pop (g_P_pop w)) hR hS)
/-- a reference into a field -/
theorem s_putr {x : Int32} {a b c' ar : Nat} (CK : g_CK kk C T N ty) (hkr : kr = kk ∨ kr = kk + 40) (hs : s < g_nf kk) (hw : Cond.fieldLink I.1 idx (T s).1 (T s).2.1 (T s).2.2.1 ∈ g_WL) (hr : g_rt kk s i x = some (a, b, c')) (hx : x ≠ 0) (har : ar = a ∨ (ar = a + 40 ∧ h (kk + 40) i j 0 = 0)) (ha : a < 40 ∧ (ar = a + 40 → a < 20)) (hfin : (T s).2.2.2 = false ∨ ((T s).2.2.2 = true ∧ I.2.1.name = "<init>" ∧ (T s).1 = I.1)) (hna : ∀ q, narrow (ty s) (.ref q) = .ref q) (hft : ∀ q, fits (ty s) (.ref q) = true) (C0 : g_Cx Y G X I) (d : decode I.2.2.1 pc = .ok (.putfield idx, 3)) (K : g_V G X I mc ms Q (pc + 3) k n ls st (g_up h kk i j (s + 1) x)) : g_V G X I mc ms Q pc k n ls (vR ar b c' :: vR kr i j :: st) h := by
  obtain ⟨p, l, e, R, s0, m, args, below, meth, c, h0, ρ0⟩ := X
  obtain ⟨k1, k2, k3, k4, k5, k6⟩ := CK
  intro ρ H locs la w
  obtain ⟨hl, er⟩ := g_live hkr (by omega) w.1 (g_P_top (g_P_pop w))
  obtain ⟨L, q0, p1, p2, p3, p4, p5, p6, p7, e1, e2⟩ := g_HR_obj k1 w.1 hl
  have hokr : g_okA h ar b c' := g_P_top w
  have er2 : ρ ar b c' = ρ a b c' := by
    rcases har with rfl | ⟨rfl, -⟩
    · rfl
    · exact (g_live (Or.inr rfl) (ha.2 rfl) w.1 hokr).2
  have hokL : g_okL h (a, b, c') := by
    rcases har with rfl | ⟨rfl, -⟩
    · exact g_okA_L ha.1 hokr
    · exact Or.inl ⟨ha.2 rfl, (g_live (Or.inr rfl) (ha.2 rfl) w.1 hokr).1⟩
  have hokA : h (kk + 40) i j 0 ≠ 0 → g_okA h a b c' := fun z => by
    rcases har with rfl | ⟨-, q⟩
    · exact hokr
    · exact absurd q z
  have ev : (Value.ref (ρ a b c')) = g_cv ρ (g_fv kk s i x) := by
    unfold g_fv
    rw [hr]
    show _ = g_cv ρ (if x = 0 then vV .null else .inr (.inl (a, b, c')))
    rw [if_neg hx]
    rfl
  have hse : g_seal (g_up h kk i j (s + 1) x) := g_seal_up p5 (fun _ a' _ z => by
    rw [hr] at z
    cases z
    exact ⟨fun _ => hokL, fun z => ⟨hx, hokA z⟩⟩) (fun z => by omega)
  have key : ∀ (H1 : Heap) (locs1 : List Loc), va_P G.1 vwCl ((L.map (g_en G.2.1 ρ h)).set q0 (ρ kk i j, .inr (g_cls kk, (g_fs ρ h (kk, i, j)).set s (.ref (ρ a b c'))))) H1 → va_D G.2.2.2 ((L.map (g_en G.2.1 ρ h)).set q0 (ρ kk i j, .inr (g_cls kk, (g_fs ρ h (kk, i, j)).set s (.ref (ρ a b c'))))) → va_S G.2.2.2 s0.heap H1 locs1 →
      W p l e R s0 m args below meth c H1 locs1 k n (vx_MQ below (g_Qc G ρ0 h0 Q) (g_Xc G ρ0 h0 Q) args s0 mc ms G.2.2.2) (F0 m (pc + 3) la (st.map (g_cv ρ))) := fun H1 locs1 hP hD hS => by
    have hR : g_HR G ρ (g_up h kk i j (s + 1) x) H1 := by
      refine g_HR_set p1 p2 e1 ?_ hP hD hse p6 p7
      unfold g_en
      rw [if_pos k1, ← g_fs_up ρ h kk i j hs x, ← ev]
    exact K ρ H1 locs1 la (g_P_wr (g_P_pop (g_P_pop w)) hR hS)
  show W p l e R s0 m args below meth c H locs k n _ (F0 m pc la (.ref (ρ ar b c') :: .ref (ρ kr i j) :: st.map (g_cv ρ)))
  rw [er, er2]
  rcases hfin with hfin | ⟨hfin, hini, hown⟩
  · exact va_put (D := G.1) (cl := vwCl) (tys := g_tys G) (Ts := g_WL) C0.1 C0.2.1 (g_Cx_ts C0) k4 ty k5 k6 (g_Cx_own C0) (g_Cx_K C0) p3 p4 w.2.1 q0 e2 k2 s (by omega) (g_Cx_ts C0 _ hw) (fun _ h => h) hfin (k5 s (by omega)) (hna _) (hft _) (by rw [g_fs_len]; exact hs) d key
  · exact va_putF (D := G.1) (cl := vwCl) (tys := g_tys G) (Ts := g_WL) C0.1 C0.2.1 (g_Cx_ts C0) k4 ty k5 k6 (g_Cx_own C0) (g_Cx_K C0) p3 p4 w.2.1 q0 e2 k2 s (by omega) (g_Cx_ts C0 _ hw) (fun _ h => h) hfin (C0.2.2.2.2.2.2.2.1.trans hini) hown (k5 s (by omega)) (hna _) (hft _) (by rw [g_fs_len]; exact hs) d key
end GHeap
