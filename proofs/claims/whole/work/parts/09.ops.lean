/-! ===== an instruction, a row: over ghost states ===== -/
section GOps
variable {Y : g_Y} {G : g_G} {X : g_X} {I : g_I} {mc ms : Nat} {Q : g_R → g_Hp → Prop} {pc k n : Nat} {ls ls' : List (Nat × g_AV)} {st : List g_AV} {h : g_Hp} {v w u : g_AV} {ρ : g_Rh} {H : Heap} {locs : List Loc} {la : Array Slot}
theorem g_ok_nil : ∀ v ∈ ([] : List g_AV), g_ok h v := fun _ h => nomatch h
theorem g_P_pop (w : g_P G X I ls (v :: st) h ρ H locs la) : g_P G X I ls st h ρ H locs la := by
  obtain ⟨p, l, e, R, s, m, args, below, meth, c, h0, ρ0⟩ := X
  exact ⟨w.1, w.2.1, w.2.2.1, w.2.2.2.1, fun v hv => w.2.2.2.2.1 v (List.mem_cons_of_mem _ hv), w.2.2.2.2.2⟩
theorem g_P_push (hv : g_ok h v) (w : g_P G X I ls st h ρ H locs la) : g_P G X I ls (v :: st) h ρ H locs la := by
  obtain ⟨p, l, e, R, s, m, args, below, meth, c, h0, ρ0⟩ := X
  exact ⟨w.1, w.2.1, w.2.2.1, w.2.2.2.1, fun u hu => (List.mem_cons.mp hu).elim (fun e => e ▸ hv) (w.2.2.2.2.1 u), w.2.2.2.2.2⟩
theorem g_P_top (w : g_P G X I ls (v :: st) h ρ H locs la) : g_ok h v := by
  obtain ⟨p, l, e, R, s, m, args, below, meth, c, h0, ρ0⟩ := X
  exact w.2.2.2.2.1 v List.mem_cons_self
theorem g_P_loc {i : Nat} (q : Nat) (hq : ls[q]? = some (i, v)) (w : g_P G X I ls st h ρ H locs la) : g_ok h v ∧ la[i]? = some (.val (g_cv ρ v)) := by
  obtain ⟨p, l, e, R, s, m, args, below, meth, c, h0, ρ0⟩ := X
  refine ⟨w.2.2.2.1 _ (List.mem_of_getElem? hq), w.2.2.1.2.2 (i, g_cv ρ v) ?_⟩
  exact List.mem_map.mpr ⟨(i, v), List.mem_of_getElem? hq, rfl⟩
/-- other lists of locals: fewer, in another order -/
theorem g_P_locs (hs : ∀ q ∈ ls', q ∈ ls) (w : g_P G X I ls st h ρ H locs la) : g_P G X I ls' st h ρ H locs la := by
  obtain ⟨p, l, e, R, s, m, args, below, meth, c, h0, ρ0⟩ := X
  refine ⟨w.1, w.2.1, ⟨w.2.2.1.1, w.2.2.1.2.1, fun q hq => ?_⟩, fun q hq => w.2.2.2.1 q (hs q hq), w.2.2.2.2.1, w.2.2.2.2.2⟩
  obtain ⟨a, ha, he⟩ := List.mem_map.mp hq
  exact w.2.2.1.2.2 q (List.mem_map.mpr ⟨a, hs a ha, he⟩)
def g_pick (l : List (Nat × g_AV)) (ks : List Nat) : List (Nat × g_AV) := ks.filterMap (fun k => l[k]?)
theorem g_pick_in {l : List (Nat × g_AV)} {ks : List Nat} : ∀ q ∈ g_pick l ks, q ∈ l := fun q hq => by
  obtain ⟨k, -, hk⟩ := List.mem_filterMap.mp hq
  exact List.mem_of_getElem? hk
theorem s_sub (ks : List Nat) (he : g_pick ls ks = ls') (K : g_V G X I mc ms Q pc k n ls' st h) : g_V G X I mc ms Q pc k n ls st h := by
  obtain ⟨p, l, e, R, s, m, args, below, meth, c, h0, ρ0⟩ := X
  subst he
  exact fun ρ H locs la w => K ρ H locs la (g_P_locs g_pick_in w)
theorem s_wide {k' n' : Nat} (h1 : k ≤ k') (h2 : n ≤ n') (K : g_V G X I mc ms Q pc k' n' ls st h) : g_V G X I mc ms Q pc k n ls st h := by
  obtain ⟨p, l, e, R, s, m, args, below, meth, c, h0, ρ0⟩ := X
  exact fun ρ H locs la w => W.widen h1 h2 (K ρ H locs la w)
theorem s_iconst {z : Int} {x : Int32} (C : g_Cx Y G X I) (d : decode I.2.2.1 pc = .ok (.iconst z, 1)) (hv : Int32.ofInt z = x) (K : g_V G X I mc ms Q (pc + 1) k n ls (vI x :: st) h) : g_V G X I mc ms Q pc k n ls st h := by
  obtain ⟨p, l, e, R, s, m, args, below, meth, c, h0, ρ0⟩ := X
  exact fun ρ H locs la w => lv_iconst C.1 C.2.1 d hv (K ρ H locs la (g_P_push trivial w))
theorem s_bipush {z : Int} {x : Int32} (C : g_Cx Y G X I) (d : decode I.2.2.1 pc = .ok (.bipush z, 2)) (hv : (Int8.ofInt z).toInt32 = x) (K : g_V G X I mc ms Q (pc + 2) k n ls (vI x :: st) h) : g_V G X I mc ms Q pc k n ls st h := by
  obtain ⟨p, l, e, R, s, m, args, below, meth, c, h0, ρ0⟩ := X
  exact fun ρ H locs la w => lv_bipush C.1 C.2.1 d hv (K ρ H locs la (g_P_push trivial w))
theorem s_sipush {z : Int} {x : Int32} (C : g_Cx Y G X I) (d : decode I.2.2.1 pc = .ok (.sipush z, 3)) (hv : (Int16.ofInt z).toInt32 = x) (K : g_V G X I mc ms Q (pc + 3) k n ls (vI x :: st) h) : g_V G X I mc ms Q pc k n ls st h := by
  obtain ⟨p, l, e, R, s, m, args, below, meth, c, h0, ρ0⟩ := X
  exact fun ρ H locs la w => lv_sipush C.1 C.2.1 d hv (K ρ H locs la (g_P_push trivial w))
theorem s_lconst {z : Fin 2} {x : Int64} (C : g_Cx Y G X I) (d : decode I.2.2.1 pc = .ok (.lconst z, 1)) (hv : Int64.ofNat (z : Nat) = x) (K : g_V G X I mc ms Q (pc + 1) k n ls (vV (.long x) :: st) h) : g_V G X I mc ms Q pc k n ls st h := by
  obtain ⟨p, l, e, R, s, m, args, below, meth, c, h0, ρ0⟩ := X
  exact fun ρ H locs la w => lv_lconst C.1 C.2.1 d hv (K ρ H locs la (g_P_push trivial w))
theorem s_dconst0 (C : g_Cx Y G X I) (d : decode I.2.2.1 pc = .ok (.dconst 0, 1)) (K : g_V G X I mc ms Q (pc + 1) k n ls (vV (.double FP.dconst0) :: st) h) : g_V G X I mc ms Q pc k n ls st h := by
  obtain ⟨p, l, e, R, s, m, args, below, meth, c, h0, ρ0⟩ := X
  exact fun ρ H locs la w => lv_dconst0 C.1 C.2.1 d (K ρ H locs la (g_P_push trivial w))
theorem s_null (C : g_Cx Y G X I) (d : decode I.2.2.1 pc = .ok (.aconst_null, 1)) (K : g_V G X I mc ms Q (pc + 1) k n ls (vV .null :: st) h) : g_V G X I mc ms Q pc k n ls st h := by
  obtain ⟨p, l, e, R, s, m, args, below, meth, c, h0, ρ0⟩ := X
  exact fun ρ H locs la w => lv_null C.1 C.2.1 d (K ρ H locs la (g_P_push trivial w))
theorem s_iload_n {q : Fin 4} {i : Nat} {x : Int32} (C : g_Cx Y G X I) (d : decode I.2.2.1 pc = .ok (.iload_n q, 1)) (hi : (q : Nat) = i) (r : Nat) (hr : ls[r]? = some (i, vI x)) (K : g_V G X I mc ms Q (pc + 1) k n ls (vI x :: st) h) : g_V G X I mc ms Q pc k n ls st h := by
  obtain ⟨p, l, e, R, s, m, args, below, meth, c, h0, ρ0⟩ := X
  exact fun ρ H locs la w => lv_iload_n C.1 C.2.1 d hi (g_P_loc r hr w).2 (K ρ H locs la (g_P_push trivial w))
theorem s_iload {i : Nat} {x : Int32} (C : g_Cx Y G X I) (d : decode I.2.2.1 pc = .ok (.iload i, 2)) (r : Nat) (hr : ls[r]? = some (i, vI x)) (K : g_V G X I mc ms Q (pc + 2) k n ls (vI x :: st) h) : g_V G X I mc ms Q pc k n ls st h := by
  obtain ⟨p, l, e, R, s, m, args, below, meth, c, h0, ρ0⟩ := X
  exact fun ρ H locs la w => lv_iload C.1 C.2.1 d (g_P_loc r hr w).2 (K ρ H locs la (g_P_push trivial w))
theorem s_lload_n {q : Fin 4} {i : Nat} {x : Int64} (C : g_Cx Y G X I) (d : decode I.2.2.1 pc = .ok (.lload_n q, 1)) (hi : (q : Nat) = i) (r : Nat) (hr : ls[r]? = some (i, vV (.long x))) (K : g_V G X I mc ms Q (pc + 1) k n ls (vV (.long x) :: st) h) : g_V G X I mc ms Q pc k n ls st h := by
  obtain ⟨p, l, e, R, s, m, args, below, meth, c, h0, ρ0⟩ := X
  exact fun ρ H locs la w => lv_lload_n C.1 C.2.1 d hi (g_P_loc r hr w).2 (K ρ H locs la (g_P_push trivial w))
theorem s_lload {i : Nat} {x : Int64} (C : g_Cx Y G X I) (d : decode I.2.2.1 pc = .ok (.lload i, 2)) (r : Nat) (hr : ls[r]? = some (i, vV (.long x))) (K : g_V G X I mc ms Q (pc + 2) k n ls (vV (.long x) :: st) h) : g_V G X I mc ms Q pc k n ls st h := by
  obtain ⟨p, l, e, R, s, m, args, below, meth, c, h0, ρ0⟩ := X
  exact fun ρ H locs la w => lv_lload C.1 C.2.1 d (g_P_loc r hr w).2 (K ρ H locs la (g_P_push trivial w))
theorem s_fload_n {q : Fin 4} {i : Nat} {x : UInt32} (C : g_Cx Y G X I) (d : decode I.2.2.1 pc = .ok (.fload_n q, 1)) (hi : (q : Nat) = i) (r : Nat) (hr : ls[r]? = some (i, vV (.float x))) (K : g_V G X I mc ms Q (pc + 1) k n ls (vV (.float x) :: st) h) : g_V G X I mc ms Q pc k n ls st h := by
  obtain ⟨p, l, e, R, s, m, args, below, meth, c, h0, ρ0⟩ := X
  exact fun ρ H locs la w => lv_fload_n C.1 C.2.1 d hi (g_P_loc r hr w).2 (K ρ H locs la (g_P_push trivial w))
theorem s_fload {i : Nat} {x : UInt32} (C : g_Cx Y G X I) (d : decode I.2.2.1 pc = .ok (.fload i, 2)) (r : Nat) (hr : ls[r]? = some (i, vV (.float x))) (K : g_V G X I mc ms Q (pc + 2) k n ls (vV (.float x) :: st) h) : g_V G X I mc ms Q pc k n ls st h := by
  obtain ⟨p, l, e, R, s, m, args, below, meth, c, h0, ρ0⟩ := X
  exact fun ρ H locs la w => lv_fload C.1 C.2.1 d (g_P_loc r hr w).2 (K ρ H locs la (g_P_push trivial w))
theorem s_dload_n {q : Fin 4} {i : Nat} {x : UInt64} (C : g_Cx Y G X I) (d : decode I.2.2.1 pc = .ok (.dload_n q, 1)) (hi : (q : Nat) = i) (r : Nat) (hr : ls[r]? = some (i, vV (.double x))) (K : g_V G X I mc ms Q (pc + 1) k n ls (vV (.double x) :: st) h) : g_V G X I mc ms Q pc k n ls st h := by
  obtain ⟨p, l, e, R, s, m, args, below, meth, c, h0, ρ0⟩ := X
  exact fun ρ H locs la w => lv_dload_n C.1 C.2.1 d hi (g_P_loc r hr w).2 (K ρ H locs la (g_P_push trivial w))
theorem s_dload {i : Nat} {x : UInt64} (C : g_Cx Y G X I) (d : decode I.2.2.1 pc = .ok (.dload i, 2)) (r : Nat) (hr : ls[r]? = some (i, vV (.double x))) (K : g_V G X I mc ms Q (pc + 2) k n ls (vV (.double x) :: st) h) : g_V G X I mc ms Q pc k n ls st h := by
  obtain ⟨p, l, e, R, s, m, args, below, meth, c, h0, ρ0⟩ := X
  exact fun ρ H locs la w => lv_dload C.1 C.2.1 d (g_P_loc r hr w).2 (K ρ H locs la (g_P_push trivial w))
theorem s_aload_n {q : Fin 4} {i : Nat} {a b c' : Nat} (C : g_Cx Y G X I) (d : decode I.2.2.1 pc = .ok (.aload_n q, 1)) (hi : (q : Nat) = i) (r : Nat) (hr : ls[r]? = some (i, vR a b c')) (K : g_V G X I mc ms Q (pc + 1) k n ls (vR a b c' :: st) h) : g_V G X I mc ms Q pc k n ls st h := by
  obtain ⟨p, l, e, R, s, m, args, below, meth, c, h0, ρ0⟩ := X
  exact fun ρ H locs la w => lv_aload_n C.1 C.2.1 d hi (g_P_loc r hr w).2 (K ρ H locs la (g_P_push (g_P_loc r hr w).1 w))
theorem s_aload {i : Nat} {a b c' : Nat} (C : g_Cx Y G X I) (d : decode I.2.2.1 pc = .ok (.aload i, 2)) (r : Nat) (hr : ls[r]? = some (i, vR a b c')) (K : g_V G X I mc ms Q (pc + 2) k n ls (vR a b c' :: st) h) : g_V G X I mc ms Q pc k n ls st h := by
  obtain ⟨p, l, e, R, s, m, args, below, meth, c, h0, ρ0⟩ := X
  exact fun ρ H locs la w => lv_aload C.1 C.2.1 d (g_P_loc r hr w).2 (K ρ H locs la (g_P_push (g_P_loc r hr w).1 w))
theorem s_aload_nN {q : Fin 4} {i : Nat} (C : g_Cx Y G X I) (d : decode I.2.2.1 pc = .ok (.aload_n q, 1)) (hi : (q : Nat) = i) (r : Nat) (hr : ls[r]? = some (i, vV .null)) (K : g_V G X I mc ms Q (pc + 1) k n ls (vV .null :: st) h) : g_V G X I mc ms Q pc k n ls st h := by
  obtain ⟨p, l, e, R, s, m, args, below, meth, c, h0, ρ0⟩ := X
  exact fun ρ H locs la w => lv_aload_nN C.1 C.2.1 d hi (g_P_loc r hr w).2 (K ρ H locs la (g_P_push trivial w))
theorem s_aload_nQ {q : Fin 4} {i b : Nat} (C : g_Cx Y G X I) (d : decode I.2.2.1 pc = .ok (.aload_n q, 1)) (hi : (q : Nat) = i) (r : Nat) (hr : ls[r]? = some (i, vV (.ref b))) (K : g_V G X I mc ms Q (pc + 1) k n ls (vV (.ref b) :: st) h) : g_V G X I mc ms Q pc k n ls st h := by
  obtain ⟨p, l, e, R, s, m, args, below, meth, c, h0, ρ0⟩ := X
  exact fun ρ H locs la w => lv_aload_n C.1 C.2.1 d hi (g_P_loc r hr w).2 (K ρ H locs la (g_P_push trivial w))
def g_c2 : g_AV → Bool
  | .inr (.inr (.long _)) => true
  | .inr (.inr (.double _)) => true
  | _ => false
def g_put1 (i : Nat) (v : g_AV) (ls : List (Nat × g_AV)) : List (Nat × g_AV) := (i, v) :: ls.filter (fun q => !(q.1 == i) && !(q.1 + 1 == i && g_c2 q.2))
def g_put2 (i : Nat) (v : g_AV) (ls : List (Nat × g_AV)) : List (Nat × g_AV) := (i, v) :: ls.filter (fun q => !(q.1 == i) && (!(q.1 == i + 1) && !(q.1 + 1 == i && g_c2 q.2)))
theorem g_c2_cv (ρ : g_Rh) (v : g_AV) : ((g_cv ρ v).category == 2) = g_c2 v := by
  match v with
  | .inl _ => rfl
  | .inr (.inl _) => rfl
  | .inr (.inr z) => cases z <;> rfl
theorem g_put1_lc (ρ : g_Rh) (i : Nat) (v : g_AV) (ls : List (Nat × g_AV)) : (i, g_cv ρ v) :: (ls.map (g_lc ρ)).filter (fun q => !(q.1 == i) && !(q.1 + 1 == i && q.2.category == 2)) = (g_put1 i v ls).map (g_lc ρ) := by
  have e : ((fun q : Nat × Value => !(q.1 == i) && !(q.1 + 1 == i && q.2.category == 2)) ∘ g_lc ρ) = (fun q : Nat × g_AV => !(q.1 == i) && !(q.1 + 1 == i && g_c2 q.2)) := by
    funext q
    show (!(q.1 == i) && !(q.1 + 1 == i && (g_cv ρ q.2).category == 2)) = _
    rw [g_c2_cv]
  rw [List.filter_map, e]
  rfl
theorem g_put2_lc (ρ : g_Rh) (i : Nat) (v : g_AV) (ls : List (Nat × g_AV)) : (i, g_cv ρ v) :: (ls.map (g_lc ρ)).filter (fun q => !(q.1 == i) && (!(q.1 == i + 1) && !(q.1 + 1 == i && q.2.category == 2))) = (g_put2 i v ls).map (g_lc ρ) := by
  have e : ((fun q : Nat × Value => !(q.1 == i) && (!(q.1 == i + 1) && !(q.1 + 1 == i && q.2.category == 2))) ∘ g_lc ρ) = (fun q : Nat × g_AV => !(q.1 == i) && (!(q.1 == i + 1) && !(q.1 + 1 == i && g_c2 q.2))) := by
    funext q
    show (!(q.1 == i) && (!(q.1 == i + 1) && !(q.1 + 1 == i && (g_cv ρ q.2).category == 2))) = _
    rw [g_c2_cv]
  rw [List.filter_map, e]
  rfl
theorem g_P_put1 {i : Nat} {la' : Array Slot} (w : g_P G X I ls (v :: st) h ρ H locs la) (hl : lv_has la' I.2.2.2.1 ((g_put1 i v ls).map (g_lc ρ))) : g_P G X I (g_put1 i v ls) st h ρ H locs la' := by
  obtain ⟨p, l, e, R, s, m, args, below, meth, c, h0, ρ0⟩ := X
  refine ⟨w.1, w.2.1, hl, fun q hq => ?_, fun u hu => w.2.2.2.2.1 u (List.mem_cons_of_mem _ hu), w.2.2.2.2.2⟩
  rcases List.mem_cons.mp hq with hq | hq
  · rw [hq]; exact w.2.2.2.2.1 v List.mem_cons_self
  · exact w.2.2.2.1 q (List.mem_filter.mp hq).1
theorem g_P_put2 {i : Nat} {la' : Array Slot} (w : g_P G X I ls (v :: st) h ρ H locs la) (hl : lv_has la' I.2.2.2.1 ((g_put2 i v ls).map (g_lc ρ))) : g_P G X I (g_put2 i v ls) st h ρ H locs la' := by
  obtain ⟨p, l, e, R, s, m, args, below, meth, c, h0, ρ0⟩ := X
  refine ⟨w.1, w.2.1, hl, fun q hq => ?_, fun u hu => w.2.2.2.2.1 u (List.mem_cons_of_mem _ hu), w.2.2.2.2.2⟩
  rcases List.mem_cons.mp hq with hq | hq
  · rw [hq]; exact w.2.2.2.2.1 v List.mem_cons_self
  · exact w.2.2.2.1 q (List.mem_filter.mp hq).1
theorem g_P_lh (w : g_P G X I ls st h ρ H locs la) : lv_has la I.2.2.2.1 (ls.map (g_lc ρ)) := by
  obtain ⟨p, l, e, R, s, m, args, below, meth, c, h0, ρ0⟩ := X
  exact w.2.2.1
theorem s_istore_n {q : Fin 4} {i : Nat} {x : Int32} (C : g_Cx Y G X I) (d : decode I.2.2.1 pc = .ok (.istore_n q, 1)) (hi : (q : Nat) = i) (hn : i < I.2.2.2.1) (he : g_put1 i (vI x) ls = ls') (K : g_V G X I mc ms Q (pc + 1) k n ls' st h) : g_V G X I mc ms Q pc k n ls (vI x :: st) h := by
  obtain ⟨p, l, e, R, s, m, args, below, meth, c, h0, ρ0⟩ := X
  exact fun ρ H locs la w => lv_istore_n C.1 C.2.1 d hi (g_P_lh w) hn (g_put1_lc ρ i (vI x) ls) (fun la' hl => K ρ H locs la' (he ▸ g_P_put1 w hl))
theorem s_istore {i : Nat} {x : Int32} (C : g_Cx Y G X I) (d : decode I.2.2.1 pc = .ok (.istore i, 2)) (hn : i < I.2.2.2.1) (he : g_put1 i (vI x) ls = ls') (K : g_V G X I mc ms Q (pc + 2) k n ls' st h) : g_V G X I mc ms Q pc k n ls (vI x :: st) h := by
  obtain ⟨p, l, e, R, s, m, args, below, meth, c, h0, ρ0⟩ := X
  exact fun ρ H locs la w => lv_istore C.1 C.2.1 d (g_P_lh w) hn (g_put1_lc ρ i (vI x) ls) (fun la' hl => K ρ H locs la' (he ▸ g_P_put1 w hl))
theorem s_lstore_n {q : Fin 4} {i : Nat} {x : Int64} (C : g_Cx Y G X I) (d : decode I.2.2.1 pc = .ok (.lstore_n q, 1)) (hi : (q : Nat) = i) (hn : i + 1 < I.2.2.2.1) (he : g_put2 i (vV (.long x)) ls = ls') (K : g_V G X I mc ms Q (pc + 1) k n ls' st h) : g_V G X I mc ms Q pc k n ls (vV (.long x) :: st) h := by
  obtain ⟨p, l, e, R, s, m, args, below, meth, c, h0, ρ0⟩ := X
  exact fun ρ H locs la w => lv_lstore_n C.1 C.2.1 d hi (g_P_lh w) hn (g_put2_lc ρ i (vV (.long x)) ls) (fun la' hl => K ρ H locs la' (he ▸ g_P_put2 w hl))
theorem s_lstore {i : Nat} {x : Int64} (C : g_Cx Y G X I) (d : decode I.2.2.1 pc = .ok (.lstore i, 2)) (hn : i + 1 < I.2.2.2.1) (he : g_put2 i (vV (.long x)) ls = ls') (K : g_V G X I mc ms Q (pc + 2) k n ls' st h) : g_V G X I mc ms Q pc k n ls (vV (.long x) :: st) h := by
  obtain ⟨p, l, e, R, s, m, args, below, meth, c, h0, ρ0⟩ := X
  exact fun ρ H locs la w => lv_lstore C.1 C.2.1 d (g_P_lh w) hn (g_put2_lc ρ i (vV (.long x)) ls) (fun la' hl => K ρ H locs la' (he ▸ g_P_put2 w hl))
theorem s_fstore_n {q : Fin 4} {i : Nat} {x : UInt32} (C : g_Cx Y G X I) (d : decode I.2.2.1 pc = .ok (.fstore_n q, 1)) (hi : (q : Nat) = i) (hn : i < I.2.2.2.1) (he : g_put1 i (vV (.float x)) ls = ls') (K : g_V G X I mc ms Q (pc + 1) k n ls' st h) : g_V G X I mc ms Q pc k n ls (vV (.float x) :: st) h := by
  obtain ⟨p, l, e, R, s, m, args, below, meth, c, h0, ρ0⟩ := X
  exact fun ρ H locs la w => lv_fstore_n C.1 C.2.1 d hi (g_P_lh w) hn (g_put1_lc ρ i (vV (.float x)) ls) (fun la' hl => K ρ H locs la' (he ▸ g_P_put1 w hl))
theorem s_fstore {i : Nat} {x : UInt32} (C : g_Cx Y G X I) (d : decode I.2.2.1 pc = .ok (.fstore i, 2)) (hn : i < I.2.2.2.1) (he : g_put1 i (vV (.float x)) ls = ls') (K : g_V G X I mc ms Q (pc + 2) k n ls' st h) : g_V G X I mc ms Q pc k n ls (vV (.float x) :: st) h := by
  obtain ⟨p, l, e, R, s, m, args, below, meth, c, h0, ρ0⟩ := X
  exact fun ρ H locs la w => lv_fstore C.1 C.2.1 d (g_P_lh w) hn (g_put1_lc ρ i (vV (.float x)) ls) (fun la' hl => K ρ H locs la' (he ▸ g_P_put1 w hl))
theorem s_dstore_n {q : Fin 4} {i : Nat} {x : UInt64} (C : g_Cx Y G X I) (d : decode I.2.2.1 pc = .ok (.dstore_n q, 1)) (hi : (q : Nat) = i) (hn : i + 1 < I.2.2.2.1) (he : g_put2 i (vV (.double x)) ls = ls') (K : g_V G X I mc ms Q (pc + 1) k n ls' st h) : g_V G X I mc ms Q pc k n ls (vV (.double x) :: st) h := by
  obtain ⟨p, l, e, R, s, m, args, below, meth, c, h0, ρ0⟩ := X
  exact fun ρ H locs la w => lv_dstore_n C.1 C.2.1 d hi (g_P_lh w) hn (g_put2_lc ρ i (vV (.double x)) ls) (fun la' hl => K ρ H locs la' (he ▸ g_P_put2 w hl))
theorem s_dstore {i : Nat} {x : UInt64} (C : g_Cx Y G X I) (d : decode I.2.2.1 pc = .ok (.dstore i, 2)) (hn : i + 1 < I.2.2.2.1) (he : g_put2 i (vV (.double x)) ls = ls') (K : g_V G X I mc ms Q (pc + 2) k n ls' st h) : g_V G X I mc ms Q pc k n ls (vV (.double x) :: st) h := by
  obtain ⟨p, l, e, R, s, m, args, below, meth, c, h0, ρ0⟩ := X
  exact fun ρ H locs la w => lv_dstore C.1 C.2.1 d (g_P_lh w) hn (g_put2_lc ρ i (vV (.double x)) ls) (fun la' hl => K ρ H locs la' (he ▸ g_P_put2 w hl))
theorem s_astore_n {q : Fin 4} {i : Nat} {a b c' : Nat} (C : g_Cx Y G X I) (d : decode I.2.2.1 pc = .ok (.astore_n q, 1)) (hi : (q : Nat) = i) (hn : i < I.2.2.2.1) (he : g_put1 i (vR a b c') ls = ls') (K : g_V G X I mc ms Q (pc + 1) k n ls' st h) : g_V G X I mc ms Q pc k n ls (vR a b c' :: st) h := by
  obtain ⟨p, l, e, R, s, m, args, below, meth, c, h0, ρ0⟩ := X
  exact fun ρ H locs la w => lv_astore_n C.1 C.2.1 d hi (g_P_lh w) hn (g_put1_lc ρ i (vR a b c') ls) (fun la' hl => K ρ H locs la' (he ▸ g_P_put1 w hl))
theorem s_astore {i : Nat} {a b c' : Nat} (C : g_Cx Y G X I) (d : decode I.2.2.1 pc = .ok (.astore i, 2)) (hn : i < I.2.2.2.1) (he : g_put1 i (vR a b c') ls = ls') (K : g_V G X I mc ms Q (pc + 2) k n ls' st h) : g_V G X I mc ms Q pc k n ls (vR a b c' :: st) h := by
  obtain ⟨p, l, e, R, s, m, args, below, meth, c, h0, ρ0⟩ := X
  exact fun ρ H locs la w => lv_astore C.1 C.2.1 d (g_P_lh w) hn (g_put1_lc ρ i (vR a b c') ls) (fun la' hl => K ρ H locs la' (he ▸ g_P_put1 w hl))
theorem s_astore_nN {q : Fin 4} {i : Nat} (C : g_Cx Y G X I) (d : decode I.2.2.1 pc = .ok (.astore_n q, 1)) (hi : (q : Nat) = i) (hn : i < I.2.2.2.1) (he : g_put1 i (vV .null) ls = ls') (K : g_V G X I mc ms Q (pc + 1) k n ls' st h) : g_V G X I mc ms Q pc k n ls (vV .null :: st) h := by
  obtain ⟨p, l, e, R, s, m, args, below, meth, c, h0, ρ0⟩ := X
  exact fun ρ H locs la w => lv_astore_nN C.1 C.2.1 d hi (g_P_lh w) hn (g_put1_lc ρ i (vV .null) ls) (fun la' hl => K ρ H locs la' (he ▸ g_P_put1 w hl))
theorem s_iinc {i : Nat} {z : Int} {x y : Int32} (C : g_Cx Y G X I) (d : decode I.2.2.1 pc = .ok (.iinc i z, 3)) (r : Nat) (hr : ls[r]? = some (i, vI x)) (hv : x + Int32.ofInt z = y) (hn : i < I.2.2.2.1) (he : g_put1 i (vI y) ls = ls') (K : g_V G X I mc ms Q (pc + 3) k n ls' st h) : g_V G X I mc ms Q pc k n ls st h := by
  obtain ⟨p, l, e, R, s, m, args, below, meth, c, h0, ρ0⟩ := X
  exact fun ρ H locs la w => lv_iinc C.1 C.2.1 d (g_P_lh w) (k := r) (x := x) (by rw [List.getElem?_map, hr]; rfl) hv hn (g_put1_lc ρ i (vI y) ls) (fun la' hl => K ρ H locs la' (he ▸ g_P_put1 (v := vI y) (g_P_push trivial w) hl))
theorem s_iadd {x y : Int32} (C : g_Cx Y G X I) (d : decode I.2.2.1 pc = .ok (.iadd, 1)) (K : g_V G X I mc ms Q (pc + 1) k n ls (vI (x + y) :: st) h) : g_V G X I mc ms Q pc k n ls (vI y :: vI x :: st) h := by
  obtain ⟨p, l, e, R, s, m, args, below, meth, c, h0, ρ0⟩ := X
  exact fun ρ H locs la w => lv_iadd C.1 C.2.1 d (K ρ H locs la (g_P_push trivial (g_P_pop (g_P_pop w))))
theorem s_isub {x y : Int32} (C : g_Cx Y G X I) (d : decode I.2.2.1 pc = .ok (.isub, 1)) (K : g_V G X I mc ms Q (pc + 1) k n ls (vI (x - y) :: st) h) : g_V G X I mc ms Q pc k n ls (vI y :: vI x :: st) h := by
  obtain ⟨p, l, e, R, s, m, args, below, meth, c, h0, ρ0⟩ := X
  exact fun ρ H locs la w => lv_isub C.1 C.2.1 d (K ρ H locs la (g_P_push trivial (g_P_pop (g_P_pop w))))
theorem s_imul {x y : Int32} (C : g_Cx Y G X I) (d : decode I.2.2.1 pc = .ok (.imul, 1)) (K : g_V G X I mc ms Q (pc + 1) k n ls (vI (x * y) :: st) h) : g_V G X I mc ms Q pc k n ls (vI y :: vI x :: st) h := by
  obtain ⟨p, l, e, R, s, m, args, below, meth, c, h0, ρ0⟩ := X
  exact fun ρ H locs la w => lv_imul C.1 C.2.1 d (K ρ H locs la (g_P_push trivial (g_P_pop (g_P_pop w))))
theorem s_iand {x y : Int32} (C : g_Cx Y G X I) (d : decode I.2.2.1 pc = .ok (.iand, 1)) (K : g_V G X I mc ms Q (pc + 1) k n ls (vI (x &&& y) :: st) h) : g_V G X I mc ms Q pc k n ls (vI y :: vI x :: st) h := by
  obtain ⟨p, l, e, R, s, m, args, below, meth, c, h0, ρ0⟩ := X
  exact fun ρ H locs la w => lv_iand C.1 C.2.1 d (K ρ H locs la (g_P_push trivial (g_P_pop (g_P_pop w))))
theorem s_ior {x y : Int32} (C : g_Cx Y G X I) (d : decode I.2.2.1 pc = .ok (.ior, 1)) (K : g_V G X I mc ms Q (pc + 1) k n ls (vI (x ||| y) :: st) h) : g_V G X I mc ms Q pc k n ls (vI y :: vI x :: st) h := by
  obtain ⟨p, l, e, R, s, m, args, below, meth, c, h0, ρ0⟩ := X
  exact fun ρ H locs la w => lv_ior C.1 C.2.1 d (K ρ H locs la (g_P_push trivial (g_P_pop (g_P_pop w))))
theorem s_ishl {x y : Int32} (C : g_Cx Y G X I) (d : decode I.2.2.1 pc = .ok (.ishl, 1)) (K : g_V G X I mc ms Q (pc + 1) k n ls (vI (x <<< (y &&& 31)) :: st) h) : g_V G X I mc ms Q pc k n ls (vI y :: vI x :: st) h := by
  obtain ⟨p, l, e, R, s, m, args, below, meth, c, h0, ρ0⟩ := X
  exact fun ρ H locs la w => lv_ishl C.1 C.2.1 d (K ρ H locs la (g_P_push trivial (g_P_pop (g_P_pop w))))
theorem s_ishr {x y : Int32} (C : g_Cx Y G X I) (d : decode I.2.2.1 pc = .ok (.ishr, 1)) (K : g_V G X I mc ms Q (pc + 1) k n ls (vI (x >>> (y &&& 31)) :: st) h) : g_V G X I mc ms Q pc k n ls (vI y :: vI x :: st) h := by
  obtain ⟨p, l, e, R, s, m, args, below, meth, c, h0, ρ0⟩ := X
  exact fun ρ H locs la w => lv_ishr C.1 C.2.1 d (K ρ H locs la (g_P_push trivial (g_P_pop (g_P_pop w))))
theorem s_idiv {x y : Int32} (C : g_Cx Y G X I) (d : decode I.2.2.1 pc = .ok (.idiv, 1)) (hy : ¬ y = 0) (K : g_V G X I mc ms Q (pc + 1) k n ls (vI (x / y) :: st) h) : g_V G X I mc ms Q pc k n ls (vI y :: vI x :: st) h := by
  obtain ⟨p, l, e, R, s, m, args, below, meth, c, h0, ρ0⟩ := X
  exact fun ρ H locs la w => lv_idiv C.1 C.2.1 d hy (K ρ H locs la (g_P_push trivial (g_P_pop (g_P_pop w))))
theorem s_irem {x y : Int32} (C : g_Cx Y G X I) (d : decode I.2.2.1 pc = .ok (.irem, 1)) (hy : ¬ y = 0) (K : g_V G X I mc ms Q (pc + 1) k n ls (vI (x - x / y * y) :: st) h) : g_V G X I mc ms Q pc k n ls (vI y :: vI x :: st) h := by
  obtain ⟨p, l, e, R, s, m, args, below, meth, c, h0, ρ0⟩ := X
  exact fun ρ H locs la w => lv_irem C.1 C.2.1 d hy (K ρ H locs la (g_P_push trivial (g_P_pop (g_P_pop w))))
theorem s_ineg {x : Int32} (C : g_Cx Y G X I) (d : decode I.2.2.1 pc = .ok (.ineg, 1)) (K : g_V G X I mc ms Q (pc + 1) k n ls (vI (-x) :: st) h) : g_V G X I mc ms Q pc k n ls (vI x :: st) h := by
  obtain ⟨p, l, e, R, s, m, args, below, meth, c, h0, ρ0⟩ := X
  exact fun ρ H locs la w => lv_ineg C.1 C.2.1 d (K ρ H locs la (g_P_push trivial (g_P_pop w)))
theorem s_iushr {x y : Int32} (C : g_Cx Y G X I) (d : decode I.2.2.1 pc = .ok (.iushr, 1)) (K : g_V G X I mc ms Q (pc + 1) k n ls (vI (x.toUInt32 >>> (y.toUInt32 &&& Int32.toUInt32 31)).toInt32 :: st) h) : g_V G X I mc ms Q pc k n ls (vI y :: vI x :: st) h := by
  obtain ⟨p, l, e, R, s, m, args, below, meth, c, h0, ρ0⟩ := X
  exact fun ρ H locs la w => lv_iushr C.1 C.2.1 d rfl (K ρ H locs la (g_P_push trivial (g_P_pop (g_P_pop w))))
theorem s_ladd {x y : Int64} (C : g_Cx Y G X I) (d : decode I.2.2.1 pc = .ok (.ladd, 1)) (K : g_V G X I mc ms Q (pc + 1) k n ls (vV (.long (x + y)) :: st) h) : g_V G X I mc ms Q pc k n ls (vV (.long y) :: vV (.long x) :: st) h := by
  obtain ⟨p, l, e, R, s, m, args, below, meth, c, h0, ρ0⟩ := X
  exact fun ρ H locs la w => lv_ladd C.1 C.2.1 d (K ρ H locs la (g_P_push trivial (g_P_pop (g_P_pop w))))
theorem s_lcmp {x y : Int64} (C : g_Cx Y G X I) (d : decode I.2.2.1 pc = .ok (.lcmp, 1)) (K : g_V G X I mc ms Q (pc + 1) k n ls (vI (lg_cmp x y) :: st) h) : g_V G X I mc ms Q pc k n ls (vV (.long y) :: vV (.long x) :: st) h := by
  obtain ⟨p, l, e, R, s, m, args, below, meth, c, h0, ρ0⟩ := X
  exact fun ρ H locs la w => W.lcmp C.1 C.2.1 d (K ρ H locs la (g_P_push trivial (g_P_pop (g_P_pop w))))
theorem s_dcmp {x y : UInt64} {op : CmpOp} (C : g_Cx Y G X I) (d : decode I.2.2.1 pc = .ok (.dcmp op, 1)) (K : g_V G X I mc ms Q (pc + 1) k n ls (vI (Op.cmpValue (FP.dcmp x y) op) :: st) h) : g_V G X I mc ms Q pc k n ls (vV (.double y) :: vV (.double x) :: st) h := by
  obtain ⟨p, l, e, R, s, m, args, below, meth, c, h0, ρ0⟩ := X
  exact fun ρ H locs la w => lv_dcmp C.1 C.2.1 d (K ρ H locs la (g_P_push trivial (g_P_pop (g_P_pop w))))
theorem s_fcmp {x y : UInt32} {op : CmpOp} (C : g_Cx Y G X I) (d : decode I.2.2.1 pc = .ok (.fcmp op, 1)) (K : g_V G X I mc ms Q (pc + 1) k n ls (vI (Op.cmpValue (FP.fcmp x y) op) :: st) h) : g_V G X I mc ms Q pc k n ls (vV (.float y) :: vV (.float x) :: st) h := by
  obtain ⟨p, l, e, R, s, m, args, below, meth, c, h0, ρ0⟩ := X
  exact fun ρ H locs la w => lv_fcmp C.1 C.2.1 d (K ρ H locs la (g_P_push trivial (g_P_pop (g_P_pop w))))
theorem s_i2c {x : Int32} (C : g_Cx Y G X I) (d : decode I.2.2.1 pc = .ok (.i2c, 1)) (K : g_V G X I mc ms Q (pc + 1) k n ls (vI (x.toUInt32 % 65536).toInt32 :: st) h) : g_V G X I mc ms Q pc k n ls (vI x :: st) h := by
  obtain ⟨p, l, e, R, s, m, args, below, meth, c, h0, ρ0⟩ := X
  exact fun ρ H locs la w => lv_i2c C.1 C.2.1 d rfl (K ρ H locs la (g_P_push trivial (g_P_pop w)))
theorem s_i2b {x : Int32} (C : g_Cx Y G X I) (d : decode I.2.2.1 pc = .ok (.i2b, 1)) (K : g_V G X I mc ms Q (pc + 1) k n ls (vI x.toInt8.toInt32 :: st) h) : g_V G X I mc ms Q pc k n ls (vI x :: st) h := by
  obtain ⟨p, l, e, R, s, m, args, below, meth, c, h0, ρ0⟩ := X
  exact fun ρ H locs la w => lv_i2b C.1 C.2.1 d rfl (K ρ H locs la (g_P_push trivial (g_P_pop w)))
theorem s_i2l {x : Int32} (C : g_Cx Y G X I) (d : decode I.2.2.1 pc = .ok (.i2l, 1)) (K : g_V G X I mc ms Q (pc + 1) k n ls (vV (.long x.toInt64) :: st) h) : g_V G X I mc ms Q pc k n ls (vI x :: st) h := by
  obtain ⟨p, l, e, R, s, m, args, below, meth, c, h0, ρ0⟩ := X
  exact fun ρ H locs la w => lv_i2l C.1 C.2.1 d rfl (K ρ H locs la (g_P_push trivial (g_P_pop w)))
theorem s_i2f {x : Int32} (C : g_Cx Y G X I) (d : decode I.2.2.1 pc = .ok (.i2f, 1)) (K : g_V G X I mc ms Q (pc + 1) k n ls (vV (.float (FP.i2f x)) :: st) h) : g_V G X I mc ms Q pc k n ls (vI x :: st) h := by
  obtain ⟨p, l, e, R, s, m, args, below, meth, c, h0, ρ0⟩ := X
  exact fun ρ H locs la w => lv_i2f C.1 C.2.1 d (K ρ H locs la (g_P_push trivial (g_P_pop w)))
theorem s_i2d {x : Int32} (C : g_Cx Y G X I) (d : decode I.2.2.1 pc = .ok (.i2d, 1)) (K : g_V G X I mc ms Q (pc + 1) k n ls (vV (.double (FP.i2d x)) :: st) h) : g_V G X I mc ms Q pc k n ls (vI x :: st) h := by
  obtain ⟨p, l, e, R, s, m, args, below, meth, c, h0, ρ0⟩ := X
  exact fun ρ H locs la w => lv_i2d C.1 C.2.1 d (K ρ H locs la (g_P_push trivial (g_P_pop w)))
theorem s_f2d {x : UInt32} (C : g_Cx Y G X I) (d : decode I.2.2.1 pc = .ok (.f2d, 1)) (hy : vf_n64 (FP.f2d x)) (K : g_V G X I mc ms Q (pc + 1) k n ls (vV (.double (FP.f2d x)) :: st) h) : g_V G X I mc ms Q pc k n ls (vV (.float x) :: st) h := by
  obtain ⟨p, l, e, R, s, m, args, below, meth, c, h0, ρ0⟩ := X
  exact fun ρ H locs la w => lv_f2d C.1 C.2.1 d hy (K ρ H locs la (g_P_push trivial (g_P_pop w)))
theorem s_fdiv {x y : UInt32} (C : g_Cx Y G X I) (d : decode I.2.2.1 pc = .ok (.fdiv, 1)) (hy : vf_n32 (FP.fdiv x y)) (K : g_V G X I mc ms Q (pc + 1) k n ls (vV (.float (FP.fdiv x y)) :: st) h) : g_V G X I mc ms Q pc k n ls (vV (.float y) :: vV (.float x) :: st) h := by
  obtain ⟨p, l, e, R, s, m, args, below, meth, c, h0, ρ0⟩ := X
  exact fun ρ H locs la w => lv_fdiv C.1 C.2.1 d hy (K ρ H locs la (g_P_push trivial (g_P_pop (g_P_pop w))))
theorem s_ddiv {x y : UInt64} (C : g_Cx Y G X I) (d : decode I.2.2.1 pc = .ok (.ddiv, 1)) (hy : vf_n64 (FP.ddiv x y)) (K : g_V G X I mc ms Q (pc + 1) k n ls (vV (.double (FP.ddiv x y)) :: st) h) : g_V G X I mc ms Q pc k n ls (vV (.double y) :: vV (.double x) :: st) h := by
  obtain ⟨p, l, e, R, s, m, args, below, meth, c, h0, ρ0⟩ := X
  exact fun ρ H locs la w => lv_ddiv C.1 C.2.1 d hy (K ρ H locs la (g_P_push trivial (g_P_pop (g_P_pop w))))
theorem g_cat (ρ : g_Rh) {v : g_AV} (hc : g_c2 v = false) : (g_cv ρ v).category = 1 := by
  match v, hc with
  | .inl _, _ => rfl
  | .inr (.inl _), _ => rfl
  | .inr (.inr z), hc => cases z <;> first | rfl | (cases hc)
theorem s_dup (C : g_Cx Y G X I) (d : decode I.2.2.1 pc = .ok (.dup, 1)) (hc : g_c2 v = false) (K : g_V G X I mc ms Q (pc + 1) k n ls (v :: v :: st) h) : g_V G X I mc ms Q pc k n ls (v :: st) h := by
  obtain ⟨p, l, e, R, s, m, args, below, meth, c, h0, ρ0⟩ := X
  exact fun ρ H locs la w => lv_dup C.1 C.2.1 d (g_cat ρ hc) (K ρ H locs la (g_P_push (g_P_top w) w))
theorem s_pop (C : g_Cx Y G X I) (d : decode I.2.2.1 pc = .ok (.pop, 1)) (hc : g_c2 v = false) (K : g_V G X I mc ms Q (pc + 1) k n ls st h) : g_V G X I mc ms Q pc k n ls (v :: st) h := by
  obtain ⟨p, l, e, R, s, m, args, below, meth, c, h0, ρ0⟩ := X
  exact fun ρ H locs la w => lv_pop C.1 C.2.1 d (g_cat ρ hc) (K ρ H locs la (g_P_pop w))
theorem s_dup_x1 (C : g_Cx Y G X I) (d : decode I.2.2.1 pc = .ok (.dup_x1, 1)) (hc : g_c2 v = false) (hc2 : g_c2 u = false) (K : g_V G X I mc ms Q (pc + 1) k n ls (v :: u :: v :: st) h) : g_V G X I mc ms Q pc k n ls (v :: u :: st) h := by
  obtain ⟨p, l, e, R, s, m, args, below, meth, c, h0, ρ0⟩ := X
  exact fun ρ H locs la w => lv_dup_x1 C.1 C.2.1 d (g_cat ρ hc) (g_cat ρ hc2) (K ρ H locs la (g_P_push (g_P_top w) (g_P_push (g_P_top (g_P_pop w)) (g_P_push (g_P_top w) (g_P_pop (g_P_pop w))))))
theorem s_dup2 (C : g_Cx Y G X I) (d : decode I.2.2.1 pc = .ok (.dup2, 1)) (hc : g_c2 v = false) (hc2 : g_c2 u = false) (K : g_V G X I mc ms Q (pc + 1) k n ls (v :: u :: v :: u :: st) h) : g_V G X I mc ms Q pc k n ls (v :: u :: st) h := by
  obtain ⟨p, l, e, R, s, m, args, below, meth, c, h0, ρ0⟩ := X
  exact fun ρ H locs la w => lv_dup2_11 C.1 C.2.1 d (g_cat ρ hc) (g_cat ρ hc2) (K ρ H locs la (g_P_push (g_P_top w) (g_P_push (g_P_top (g_P_pop w)) w)))
theorem s_if_eq {x : Int32} {off : Int} {tgt : Nat} (C : g_Cx Y G X I) (d : decode I.2.2.1 pc = .ok (.ifCond .eq off, 3)) (ht : (pc : Int) + off = (tgt : Int)) (K1 : x = 0 → g_V G X I mc ms Q tgt k n ls st h) (K2 : ¬ x = 0 → g_V G X I mc ms Q (pc + 3) k n ls st h) : g_V G X I mc ms Q pc k n ls (vI x :: st) h := by
  obtain ⟨p, l, e, R, s, m, args, below, meth, c, h0, ρ0⟩ := X
  exact fun ρ H locs la w => lv_if_eq C.1 C.2.1 d ht (fun z => K1 z ρ H locs la (g_P_pop w)) (fun z => K2 z ρ H locs la (g_P_pop w))
theorem s_if_ne {x : Int32} {off : Int} {tgt : Nat} (C : g_Cx Y G X I) (d : decode I.2.2.1 pc = .ok (.ifCond .ne off, 3)) (ht : (pc : Int) + off = (tgt : Int)) (K1 : ¬ x = 0 → g_V G X I mc ms Q tgt k n ls st h) (K2 : x = 0 → g_V G X I mc ms Q (pc + 3) k n ls st h) : g_V G X I mc ms Q pc k n ls (vI x :: st) h := by
  obtain ⟨p, l, e, R, s, m, args, below, meth, c, h0, ρ0⟩ := X
  exact fun ρ H locs la w => lv_if_ne C.1 C.2.1 d ht (fun z => K1 z ρ H locs la (g_P_pop w)) (fun z => K2 z ρ H locs la (g_P_pop w))
theorem s_if_lt {x : Int32} {off : Int} {tgt : Nat} (C : g_Cx Y G X I) (d : decode I.2.2.1 pc = .ok (.ifCond .lt off, 3)) (ht : (pc : Int) + off = (tgt : Int)) (K1 : x < 0 → g_V G X I mc ms Q tgt k n ls st h) (K2 : ¬ x < 0 → g_V G X I mc ms Q (pc + 3) k n ls st h) : g_V G X I mc ms Q pc k n ls (vI x :: st) h := by
  obtain ⟨p, l, e, R, s, m, args, below, meth, c, h0, ρ0⟩ := X
  exact fun ρ H locs la w => lv_if_lt C.1 C.2.1 d ht (fun z => K1 z ρ H locs la (g_P_pop w)) (fun z => K2 z ρ H locs la (g_P_pop w))
theorem s_if_ge {x : Int32} {off : Int} {tgt : Nat} (C : g_Cx Y G X I) (d : decode I.2.2.1 pc = .ok (.ifCond .ge off, 3)) (ht : (pc : Int) + off = (tgt : Int)) (K1 : 0 ≤ x → g_V G X I mc ms Q tgt k n ls st h) (K2 : ¬ 0 ≤ x → g_V G X I mc ms Q (pc + 3) k n ls st h) : g_V G X I mc ms Q pc k n ls (vI x :: st) h := by
  obtain ⟨p, l, e, R, s, m, args, below, meth, c, h0, ρ0⟩ := X
  exact fun ρ H locs la w => lv_if_ge C.1 C.2.1 d ht (fun z => K1 z ρ H locs la (g_P_pop w)) (fun z => K2 z ρ H locs la (g_P_pop w))
theorem s_if_gt {x : Int32} {off : Int} {tgt : Nat} (C : g_Cx Y G X I) (d : decode I.2.2.1 pc = .ok (.ifCond .gt off, 3)) (ht : (pc : Int) + off = (tgt : Int)) (K1 : 0 < x → g_V G X I mc ms Q tgt k n ls st h) (K2 : ¬ 0 < x → g_V G X I mc ms Q (pc + 3) k n ls st h) : g_V G X I mc ms Q pc k n ls (vI x :: st) h := by
  obtain ⟨p, l, e, R, s, m, args, below, meth, c, h0, ρ0⟩ := X
  exact fun ρ H locs la w => lv_if_gt C.1 C.2.1 d ht (fun z => K1 z ρ H locs la (g_P_pop w)) (fun z => K2 z ρ H locs la (g_P_pop w))
theorem s_if_le {x : Int32} {off : Int} {tgt : Nat} (C : g_Cx Y G X I) (d : decode I.2.2.1 pc = .ok (.ifCond .le off, 3)) (ht : (pc : Int) + off = (tgt : Int)) (K1 : x ≤ 0 → g_V G X I mc ms Q tgt k n ls st h) (K2 : ¬ x ≤ 0 → g_V G X I mc ms Q (pc + 3) k n ls st h) : g_V G X I mc ms Q pc k n ls (vI x :: st) h := by
  obtain ⟨p, l, e, R, s, m, args, below, meth, c, h0, ρ0⟩ := X
  exact fun ρ H locs la w => lv_if_le C.1 C.2.1 d ht (fun z => K1 z ρ H locs la (g_P_pop w)) (fun z => K2 z ρ H locs la (g_P_pop w))
theorem s_icmp_eq {x y : Int32} {off : Int} {tgt : Nat} (C : g_Cx Y G X I) (d : decode I.2.2.1 pc = .ok (.if_icmp .eq off, 3)) (ht : (pc : Int) + off = (tgt : Int)) (K1 : x = y → g_V G X I mc ms Q tgt k n ls st h) (K2 : ¬ x = y → g_V G X I mc ms Q (pc + 3) k n ls st h) : g_V G X I mc ms Q pc k n ls (vI y :: vI x :: st) h := by
  obtain ⟨p, l, e, R, s, m, args, below, meth, c, h0, ρ0⟩ := X
  exact fun ρ H locs la w => lv_icmp_eq C.1 C.2.1 d ht (fun z => K1 z ρ H locs la (g_P_pop (g_P_pop w))) (fun z => K2 z ρ H locs la (g_P_pop (g_P_pop w)))
theorem s_icmp_ne {x y : Int32} {off : Int} {tgt : Nat} (C : g_Cx Y G X I) (d : decode I.2.2.1 pc = .ok (.if_icmp .ne off, 3)) (ht : (pc : Int) + off = (tgt : Int)) (K1 : ¬ x = y → g_V G X I mc ms Q tgt k n ls st h) (K2 : x = y → g_V G X I mc ms Q (pc + 3) k n ls st h) : g_V G X I mc ms Q pc k n ls (vI y :: vI x :: st) h := by
  obtain ⟨p, l, e, R, s, m, args, below, meth, c, h0, ρ0⟩ := X
  exact fun ρ H locs la w => lv_icmp_ne C.1 C.2.1 d ht (fun z => K1 z ρ H locs la (g_P_pop (g_P_pop w))) (fun z => K2 z ρ H locs la (g_P_pop (g_P_pop w)))
theorem s_icmp_lt {x y : Int32} {off : Int} {tgt : Nat} (C : g_Cx Y G X I) (d : decode I.2.2.1 pc = .ok (.if_icmp .lt off, 3)) (ht : (pc : Int) + off = (tgt : Int)) (K1 : x < y → g_V G X I mc ms Q tgt k n ls st h) (K2 : ¬ x < y → g_V G X I mc ms Q (pc + 3) k n ls st h) : g_V G X I mc ms Q pc k n ls (vI y :: vI x :: st) h := by
  obtain ⟨p, l, e, R, s, m, args, below, meth, c, h0, ρ0⟩ := X
  exact fun ρ H locs la w => lv_icmp_lt C.1 C.2.1 d ht (fun z => K1 z ρ H locs la (g_P_pop (g_P_pop w))) (fun z => K2 z ρ H locs la (g_P_pop (g_P_pop w)))
theorem s_icmp_ge {x y : Int32} {off : Int} {tgt : Nat} (C : g_Cx Y G X I) (d : decode I.2.2.1 pc = .ok (.if_icmp .ge off, 3)) (ht : (pc : Int) + off = (tgt : Int)) (K1 : y ≤ x → g_V G X I mc ms Q tgt k n ls st h) (K2 : ¬ y ≤ x → g_V G X I mc ms Q (pc + 3) k n ls st h) : g_V G X I mc ms Q pc k n ls (vI y :: vI x :: st) h := by
  obtain ⟨p, l, e, R, s, m, args, below, meth, c, h0, ρ0⟩ := X
  exact fun ρ H locs la w => lv_icmp_ge C.1 C.2.1 d ht (fun z => K1 z ρ H locs la (g_P_pop (g_P_pop w))) (fun z => K2 z ρ H locs la (g_P_pop (g_P_pop w)))
theorem s_icmp_gt {x y : Int32} {off : Int} {tgt : Nat} (C : g_Cx Y G X I) (d : decode I.2.2.1 pc = .ok (.if_icmp .gt off, 3)) (ht : (pc : Int) + off = (tgt : Int)) (K1 : y < x → g_V G X I mc ms Q tgt k n ls st h) (K2 : ¬ y < x → g_V G X I mc ms Q (pc + 3) k n ls st h) : g_V G X I mc ms Q pc k n ls (vI y :: vI x :: st) h := by
  obtain ⟨p, l, e, R, s, m, args, below, meth, c, h0, ρ0⟩ := X
  exact fun ρ H locs la w => lv_icmp_gt C.1 C.2.1 d ht (fun z => K1 z ρ H locs la (g_P_pop (g_P_pop w))) (fun z => K2 z ρ H locs la (g_P_pop (g_P_pop w)))
theorem s_icmp_le {x y : Int32} {off : Int} {tgt : Nat} (C : g_Cx Y G X I) (d : decode I.2.2.1 pc = .ok (.if_icmp .le off, 3)) (ht : (pc : Int) + off = (tgt : Int)) (K1 : x ≤ y → g_V G X I mc ms Q tgt k n ls st h) (K2 : ¬ x ≤ y → g_V G X I mc ms Q (pc + 3) k n ls st h) : g_V G X I mc ms Q pc k n ls (vI y :: vI x :: st) h := by
  obtain ⟨p, l, e, R, s, m, args, below, meth, c, h0, ρ0⟩ := X
  exact fun ρ H locs la w => lv_icmp_le C.1 C.2.1 d ht (fun z => K1 z ρ H locs la (g_P_pop (g_P_pop w))) (fun z => K2 z ρ H locs la (g_P_pop (g_P_pop w)))
theorem s_goto {off : Int} {tgt : Nat} (C : g_Cx Y G X I) (d : decode I.2.2.1 pc = .ok (.goto off, 3)) (ht : (pc : Int) + off = (tgt : Int)) (K : g_V G X I mc ms Q tgt k n ls st h) : g_V G X I mc ms Q pc k n ls st h := by
  obtain ⟨p, l, e, R, s, m, args, below, meth, c, h0, ρ0⟩ := X
  exact fun ρ H locs la w => lv_goto C.1 C.2.1 d ht (K ρ H locs la w)
theorem s_ifnull {a b c' : Nat} {off : Int} (C : g_Cx Y G X I) (d : decode I.2.2.1 pc = .ok (.ifnull off, 3)) (K : g_V G X I mc ms Q (pc + 3) k n ls st h) : g_V G X I mc ms Q pc k n ls (vR a b c' :: st) h := by
  obtain ⟨p, l, e, R, s, m, args, below, meth, c, h0, ρ0⟩ := X
  exact fun ρ H locs la w => lv_ifnull C.1 C.2.1 d (K ρ H locs la (g_P_pop w))
theorem s_ifnullN {off : Int} {tgt : Nat} (C : g_Cx Y G X I) (d : decode I.2.2.1 pc = .ok (.ifnull off, 3)) (ht : (pc : Int) + off = (tgt : Int)) (K : g_V G X I mc ms Q tgt k n ls st h) : g_V G X I mc ms Q pc k n ls (vV .null :: st) h := by
  obtain ⟨p, l, e, R, s, m, args, below, meth, c, h0, ρ0⟩ := X
  exact fun ρ H locs la w => lv_ifnullN C.1 C.2.1 d ht (K ρ H locs la (g_P_pop w))
theorem s_ifnonnull {a b c' : Nat} {off : Int} {tgt : Nat} (C : g_Cx Y G X I) (d : decode I.2.2.1 pc = .ok (.ifnonnull off, 3)) (ht : (pc : Int) + off = (tgt : Int)) (K : g_V G X I mc ms Q tgt k n ls st h) : g_V G X I mc ms Q pc k n ls (vR a b c' :: st) h := by
  obtain ⟨p, l, e, R, s, m, args, below, meth, c, h0, ρ0⟩ := X
  exact fun ρ H locs la w => lv_ifnonnull C.1 C.2.1 d ht (K ρ H locs la (g_P_pop w))
theorem s_ifnonnullN {off : Int} (C : g_Cx Y G X I) (d : decode I.2.2.1 pc = .ok (.ifnonnull off, 3)) (K : g_V G X I mc ms Q (pc + 3) k n ls st h) : g_V G X I mc ms Q pc k n ls (vV .null :: st) h := by
  obtain ⟨p, l, e, R, s, m, args, below, meth, c, h0, ρ0⟩ := X
  exact fun ρ H locs la w => lv_ifnonnullN C.1 C.2.1 d (K ρ H locs la (g_P_pop w))
theorem s_tableIn {dflt lo hi off : Int} {offs : Array Int} {len : Nat} {x : Int32} {tgt : Nat} (C : g_Cx Y G X I) (d : decode I.2.2.1 pc = .ok (.tableswitch dflt lo hi offs, len)) (h1 : ¬ x.toInt < lo) (h2 : ¬ hi < x.toInt) (ho : offs[(x.toInt - lo).toNat]? = some off) (ht : (pc : Int) + off = (tgt : Int)) (K : g_V G X I mc ms Q tgt k n ls st h) : g_V G X I mc ms Q pc k n ls (vI x :: st) h := by
  obtain ⟨p, l, e, R, s, m, args, below, meth, c, h0, ρ0⟩ := X
  exact fun ρ H locs la w => lv_tableIn C.1 C.2.1 d h1 h2 ho ht (K ρ H locs la (g_P_pop w))
theorem s_tableOut {dflt lo hi : Int} {offs : Array Int} {len : Nat} {x : Int32} {tgt : Nat} (C : g_Cx Y G X I) (d : decode I.2.2.1 pc = .ok (.tableswitch dflt lo hi offs, len)) (h1 : x.toInt < lo ∨ hi < x.toInt) (ht : (pc : Int) + dflt = (tgt : Int)) (K : g_V G X I mc ms Q tgt k n ls st h) : g_V G X I mc ms Q pc k n ls (vI x :: st) h := by
  obtain ⟨p, l, e, R, s, m, args, below, meth, c, h0, ρ0⟩ := X
  exact fun ρ H locs la w => lv_tableOut C.1 C.2.1 d h1 ht (K ρ H locs la (g_P_pop w))
end GOps
