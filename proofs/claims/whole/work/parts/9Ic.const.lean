/-! ===== the start: the constants stand where they are read ===== -/
theorem n_selP {x y : MethodName} {C : String} {s : State} {args : Array Value} (hy : y.cls ≠ "java/lang/invoke/MethodHandle" ∧ y.cls ≠ "java/lang/invoke/VarHandle") (hx : x.cls = y.cls) (h1 : (Cond.selects C x x).before args s = true) (h2 : (Cond.privateMethod y).before args s = true) (h3 : (Cond.instanceMethod y).before args s = true) : (Cond.selects C y y).before args s = true := by
  obtain ⟨c, r, m2, q1, q2, q3, q4, kP, hkP, hkPi⟩ := Cond.selects_spec h1
  obtain ⟨mk, methM, hnamed, hmethM, -, -⟩ := Cond.instanceMethod_spec h3
  have hfound : s.methodFound? y.cls y.name y.desc = some mk := State.methodFound?_of_named hnamed hy
  have e1 := findClass_of_methodNamed q3
  rw [hx] at e1
  have hcls : mk.cls = m2.cls := Option.some.inj ((findClass_of_methodNamed hnamed).symm.trans e1)
  have hsel : selectMethod {} s.vm c mk = .method mk := selectMethod_private hmethM (Cond.privateMethod_at h2 mk methM hnamed hmethM)
  simp only [Cond.before, Cond.holds, Cond.value, q1, hfound, hnamed, hsel, hcls, hkP]
  simp; exact hkPi
theorem n_ex {args : Array Value} {s : State} {t : Term} {nm : String} (h : (Cond.exactly t nm).before args s = true) : ∃ a, t.eval args s none [] s = some (.ref a) := by
  obtain ⟨a, c, cell, k, q1, -⟩ := Cond.exactly_spec (args := args) (first := s) (o := none) (s := s) (idx := []) (t := t) (cls := nm) h
  exact ⟨a, q1⟩
theorem n_str {args : Array Value} {s : State} {own tx : String} {k : Nat} (h : (Cond.stringRef own k tx).before args s = true) : ∃ a, (Term.string own k).eval args s none [] s = some (.ref a) := by
  have hcur : ∃ cur, s.vm.findClass own = some cur := by
    have h1 := h
    simp only [Cond.before, Cond.holds, Cond.value] at h1
    cases hc : s.vm.findClass own with
    | none => simp [hc] at h1
    | some cur => exact ⟨cur, rfl⟩
  obtain ⟨cur, hcur⟩ := hcur
  obtain ⟨_, _, _, a, -, -, -, -, -, e⟩ := Cond.stringRef_spec hcur h
  exact ⟨a, e⟩
def n_G (args : Array Value) (s : State) (D : va_G) (aC : Nat → ClassId) : g_G := (D, aC, n_ad args s, fun q => s.heap.size ≤ q)
theorem n_hA {s : State} : ∀ a : Nat, a < s.heap.size → ¬ (fun q : Nat => s.heap.size ≤ q) a := fun _ h => Nat.not_le.mpr h
section nsec
variable {args : Array Value} {s : State} {D : va_G} {aC : Nat → ClassId}
theorem n_e20 (hn : ∀ w ∈ n_FL, w.before args s = true) {i : Nat} (hi : i < 6) : (n_tm 20 i).eval args s none [] s = some (.ref (n_ad args s 20 i)) := by
  obtain ⟨a, e⟩ := n_ex (hn _ (n_wF_in _ (List.mem_append_left _ (List.mem_map.mpr ⟨i, List.mem_range.mpr hi, rfl⟩))))
  exact n_ev e
theorem n_e21 (hn : ∀ w ∈ n_FL, w.before args s = true) {i : Nat} (hi : i < 10) : (n_tm 21 i).eval args s none [] s = some (.ref (n_ad args s 21 i)) := by
  obtain ⟨a, e⟩ := n_ex (hn _ (n_wK_in _ (List.mem_append_left _ (List.mem_map.mpr ⟨i, List.mem_range.mpr hi, rfl⟩))))
  exact n_ev e
theorem n_e24 (hn : ∀ w ∈ n_FL, w.before args s = true) {i : Nat} (hi : i < 10) : (n_tm 24 i).eval args s none [] s = some (.ref (n_ad args s 24 i)) := by
  obtain ⟨a, e⟩ := n_ex (hn _ (n_wW_in _ (List.mem_append_left _ (List.mem_map.mpr ⟨i, List.mem_range.mpr hi, rfl⟩))))
  exact n_ev e
theorem n_T {k i : Nat} {ty : FieldType} {N : Nat} {f : Nat → Value} (hN : N < 2 ^ 31) (harr : (Cond.arrayOf (n_tm k i) ty).before args s = true) (hlen : (Cond.eq (.length (n_tm k i)) (.int (Int32.ofNat N))).before args s = true) (hel : ∀ j : Nat, j < N → (Term.elem (n_tm k i) (.int (Int32.ofNat j))).eval args s none [] s = some (f j)) : (n_tm k i).eval args s none [] s = some (.ref (n_ad args s k i)) ∧ va_T ty (n_ad args s k i) N f (fun q => s.heap.size ≤ q) s s.heap := by
  obtain ⟨t, ht, hT⟩ := va_Tof hN harr (va_eqt hlen) hel n_hA
  have e := n_ev ht
  have e2 : t = n_ad args s k i := by
    have e3 := ht.symm.trans e
    injection e3 with e4
    injection e4
  subst e2
  exact ⟨e, hT⟩
theorem n_gd (xs : List Int32) (j : Nat) : (xs.map vI).getD j (vI 0) = vI (xs.getD j 0) := by
  rw [List.getD_eq_getElem?_getD, List.getD_eq_getElem?_getD, List.getElem?_map]
  cases xs[j]? <;> rfl
theorem n_Ti {k i : Nat} {ty : FieldType} {xs : List Int32} {N : Nat} (hl : xs.length = N) (hN : N < 2 ^ 31) (W : ∀ w ∈ ([.arrayOf (n_tm k i) ty, .eq (.length (n_tm k i)) (.int (Int32.ofNat N))] ++ (List.range N).map (fun j => .eq (.elem (n_tm k i) (.int (Int32.ofNat j))) (.int (xs.getD j 0))) : List Cond), w.before args s = true) : (n_tm k i).eval args s none [] s = some (.ref (n_ad args s k i)) ∧ va_T ty (n_ad args s k i) (xs.map vI).length (fun j => g_roc (n_G args s D aC) ((xs.map vI).getD j (vI 0))) (fun q => s.heap.size ≤ q) s s.heap := by
  have hl2 : (xs.map vI).length = N := by rw [List.length_map, hl]
  rw [hl2]
  refine n_T hN (W _ (List.mem_append_left _ List.mem_cons_self)) (W _ (List.mem_append_left _ (List.mem_cons_of_mem _ List.mem_cons_self))) (fun j hj => ?_)
  have e := va_eqt (W _ (List.mem_append_right _ (List.mem_map.mpr ⟨j, List.mem_range.mpr hj, rfl⟩)))
  rw [e, n_gd]
  rfl
theorem n_t0 (hn : ∀ w ∈ n_FL, w.before args s = true) : (n_tm 23 0).eval args s none [] s = some (.ref (n_ad args s 23 0)) ∧ va_T .int (n_ad args s 23 0) ((g_sw 0).map vI).length (fun j => g_roc (n_G args s D aC) (((g_sw 0).map vI).getD j (vI 0))) (fun q => s.heap.size ≤ q) s s.heap := n_Ti (N := 6) rfl (by decide) (fun w hw => hn _ (n_wS0_in w hw))
theorem n_t1 (hn : ∀ w ∈ n_FL, w.before args s = true) : (n_tm 23 1).eval args s none [] s = some (.ref (n_ad args s 23 1)) ∧ va_T .int (n_ad args s 23 1) ((g_sw 1).map vI).length (fun j => g_roc (n_G args s D aC) (((g_sw 1).map vI).getD j (vI 0))) (fun q => s.heap.size ≤ q) s s.heap := n_Ti (N := 10) rfl (by decide) (fun w hw => hn _ (n_wS1_in w hw))
set_option maxRecDepth 100000 in
theorem n_t2 (hn : ∀ w ∈ n_FL, w.before args s = true) : (n_tm 26 0).eval args s none [] s = some (.ref (n_ad args s 26 0)) ∧ va_T .byte (n_ad args s 26 0) ((g_dg 0).map vI).length (fun j => g_roc (n_G args s D aC) (((g_dg 0).map vI).getD j (vI 0))) (fun q => s.heap.size ≤ q) s s.heap := n_Ti (N := 100) rfl (by decide) (fun w hw => hn _ (n_wD0_in w hw))
set_option maxRecDepth 100000 in
theorem n_t3 (hn : ∀ w ∈ n_FL, w.before args s = true) : (n_tm 26 1).eval args s none [] s = some (.ref (n_ad args s 26 1)) ∧ va_T .byte (n_ad args s 26 1) ((g_dg 1).map vI).length (fun j => g_roc (n_G args s D aC) (((g_dg 1).map vI).getD j (vI 0))) (fun q => s.heap.size ≤ q) s s.heap := n_Ti (N := 100) rfl (by decide) (fun w hw => hn _ (n_wD1_in w hw))
theorem n_t4 (hn : ∀ w ∈ n_FL, w.before args s = true) : (n_tm 22 0).eval args s none [] s = some (.ref (n_ad args s 22 0)) ∧ va_T (.object "VaneUnion$Keyword") (n_ad args s 22 0) ((List.range 10).map (fun i => vR 21 i 0)).length (fun j => g_roc (n_G args s D aC) (((List.range 10).map (fun i => vR 21 i 0)).getD j (vI 0))) (fun q => s.heap.size ≤ q) s s.heap := by
  rw [show ((List.range 10).map (fun i => vR 21 i 0)).length = 10 from rfl]
  refine n_T (by decide) (hn _ (n_wL_in _ (List.mem_append_left _ List.mem_cons_self))) (hn _ (n_wL_in _ (List.mem_append_left _ (List.mem_cons_of_mem _ List.mem_cons_self)))) (fun j hj => ?_)
  rw [va_eqv (hn _ (n_wL_in _ (List.mem_append_right _ (List.mem_map.mpr ⟨j, List.mem_range.mpr hj, rfl⟩)))) (n_e21 hn hj), List.getD_eq_getElem?_getD, List.getElem?_map, List.getElem?_range hj]
  rfl
theorem n_t5 (hn : ∀ w ∈ n_FL, w.before args s = true) {i : Nat} (hi : i < 10) : (n_tm 25 i).eval args s none [] s = some (.ref (n_ad args s 25 i)) ∧ va_T .byte (n_ad args s 25 i) ((g_by i).map vI).length (fun j => g_roc (n_G args s D aC) (((g_by i).map vI).getD j (vI 0))) (fun q => s.heap.size ≤ q) s s.heap := by
  match i, hi with
  | 0, _ => exact n_Ti (N := 7) rfl (by decide) (fun w hw => hn _ (n_wB0_in w hw))
  | 1, _ => exact n_Ti (N := 5) rfl (by decide) (fun w hw => hn _ (n_wB1_in w hw))
  | 2, _ => exact n_Ti (N := 6) rfl (by decide) (fun w hw => hn _ (n_wB2_in w hw))
  | 3, _ => exact n_Ti (N := 5) rfl (by decide) (fun w hw => hn _ (n_wB3_in w hw))
  | 4, _ => exact n_Ti (N := 6) rfl (by decide) (fun w hw => hn _ (n_wB4_in w hw))
  | 5, _ => exact n_Ti (N := 4) rfl (by decide) (fun w hw => hn _ (n_wB5_in w hw))
  | 6, _ => exact n_Ti (N := 7) rfl (by decide) (fun w hw => hn _ (n_wB6_in w hw))
  | 7, _ => exact n_Ti (N := 4) rfl (by decide) (fun w hw => hn _ (n_wB7_in w hw))
  | 8, _ => exact n_Ti (N := 6) rfl (by decide) (fun w hw => hn _ (n_wB8_in w hw))
  | 9, _ => exact n_Ti (N := 7) rfl (by decide) (fun w hw => hn _ (n_wB9_in w hw))
  | i + 10, h => exact absurd h (Nat.not_lt.mpr (Nat.le_add_left _ _))
/-! the lists of y_ -/
theorem n_Zev (hn : ∀ w ∈ n_FL, w.before args s = true) : ∀ q ∈ y_zs, (Term.static q.1 q.2.1 q.2.2.1).eval args s none [] s = some (g_roc (n_G args s D aC) q.2.2.2) := by
  refine List.forall_mem_cons.mpr ⟨va_eqi (hn _ (n_w0_in _ List.mem_cons_self)), ?_⟩
  refine List.forall_mem_cons.mpr ⟨(n_t2 (D := D) (aC := aC) hn).1, ?_⟩
  refine List.forall_mem_cons.mpr ⟨(n_t3 (D := D) (aC := aC) hn).1, ?_⟩
  refine List.forall_mem_cons.mpr ⟨n_e20 hn (i := 0) (by decide), ?_⟩
  refine List.forall_mem_cons.mpr ⟨n_e20 hn (i := 3) (by decide), ?_⟩
  refine List.forall_mem_cons.mpr ⟨n_e20 hn (i := 1) (by decide), ?_⟩
  refine List.forall_mem_cons.mpr ⟨n_e20 hn (i := 2) (by decide), ?_⟩
  refine List.forall_mem_cons.mpr ⟨n_e20 hn (i := 4) (by decide), ?_⟩
  refine List.forall_mem_cons.mpr ⟨n_e20 hn (i := 5) (by decide), ?_⟩
  refine List.forall_mem_cons.mpr ⟨(n_t1 (D := D) (aC := aC) hn).1, ?_⟩
  refine List.forall_mem_cons.mpr ⟨n_e21 hn (i := 4) (by decide), ?_⟩
  refine List.forall_mem_cons.mpr ⟨(n_t4 (D := D) (aC := aC) hn).1, ?_⟩
  refine List.forall_mem_cons.mpr ⟨(n_t0 (D := D) (aC := aC) hn).1, ?_⟩
  exact fun _ h => absurd h List.not_mem_nil
theorem n_Zs (hn : ∀ w ∈ n_FL, w.before args s = true) (ht : ∀ w ∈ lw_tbl, w.before args s = true) : g_Zs y_zs (n_G args s D aC) s s.heap := fun q hq =>
  va_Zof (ht _ (n_tZ_in _ (List.mem_append_left _ (List.mem_map.mpr ⟨q, hq, rfl⟩)))) (ht _ (n_tZ_in _ (List.mem_append_right _ (List.mem_map.mpr ⟨q, hq, rfl⟩)))) (n_Zev hn q hq) n_hA
theorem n_Os (hn : ∀ w ∈ n_FL, w.before args s = true) : g_Os y_os (n_G args s D aC) s s.heap := by
  refine List.forall_mem_append.mpr ⟨fun q hq => ?_, List.forall_mem_append.mpr ⟨fun q hq => ?_, fun q hq => ?_⟩⟩
  · obtain ⟨i, hi, rfl⟩ := List.mem_map.mp hq
    exact va_Oof (hn _ (n_wF_in _ (List.mem_append_left _ (List.mem_map.mpr ⟨i, hi, rfl⟩)))) (n_e20 hn (List.mem_range.mp hi)) n_hA
  · obtain ⟨i, hi, rfl⟩ := List.mem_map.mp hq
    exact va_Oof (hn _ (n_wK_in _ (List.mem_append_left _ (List.mem_map.mpr ⟨i, hi, rfl⟩)))) (n_e21 hn (List.mem_range.mp hi)) n_hA
  · obtain ⟨i, hi, rfl⟩ := List.mem_map.mp hq
    exact va_Oof (hn _ (n_wW_in _ (List.mem_append_left _ (List.mem_map.mpr ⟨i, hi, rfl⟩)))) (n_e24 hn (List.mem_range.mp hi)) n_hA
theorem n_Fs (hn : ∀ w ∈ n_FL, w.before args s = true) : g_Fs y_fs (n_G args s D aC) s s.heap := by
  refine List.forall_mem_append.mpr ⟨fun q hq => ?_, List.forall_mem_append.mpr ⟨fun q hq => ?_, List.forall_mem_append.mpr ⟨fun q hq => ?_, List.forall_mem_append.mpr ⟨fun q hq => ?_, List.forall_mem_append.mpr ⟨fun q hq => ?_, List.forall_mem_append.mpr ⟨fun q hq => ?_, List.forall_mem_append.mpr ⟨fun q hq => ?_, fun q hq => ?_⟩⟩⟩⟩⟩⟩⟩
  · obtain ⟨i, hi, rfl⟩ := List.mem_map.mp hq
    exact vk_OFof (n_e20 hn (List.mem_range.mp hi)) (va_eqt (hn _ (n_wF_in _ (List.mem_append_right _ (List.mem_map.mpr ⟨i, hi, rfl⟩))))) n_hA
  · obtain ⟨i, hi, rfl⟩ := List.mem_map.mp hq
    exact vk_OFof (n_e21 hn (List.mem_range.mp hi)) (va_eqt (hn _ (n_wK_in _ (List.mem_append_right _ (List.mem_map.mpr ⟨i, hi, rfl⟩))))) n_hA
  · obtain ⟨i, hi, rfl⟩ := List.mem_map.mp hq
    exact vk_OFof (n_e21 hn (List.mem_range.mp hi)) (va_eqv (hn _ (n_wK2_in _ (List.mem_map.mpr ⟨i, hi, rfl⟩))) (n_e24 hn (List.mem_range.mp hi))) n_hA
  · obtain ⟨i, hi, rfl⟩ := List.mem_map.mp hq
    exact vk_OFof (n_e21 hn (List.mem_range.mp hi)) (va_eqt (hn _ (n_wKd_in _ (List.mem_map.mpr ⟨i, hi, rfl⟩)))) n_hA
  · obtain ⟨i, hi, rfl⟩ := List.mem_map.mp hq
    exact vk_OFof (n_e21 hn (List.mem_range.mp hi)) (va_eqt (hn _ (n_wKn_in _ (List.mem_map.mpr ⟨i, hi, rfl⟩)))) n_hA
  · obtain ⟨i, hi, rfl⟩ := List.mem_map.mp hq
    exact vk_OFof (n_e21 hn (List.mem_range.mp hi)) (va_eqt (hn _ (n_wKs_in _ (List.mem_map.mpr ⟨i, hi, rfl⟩)))) n_hA
  · obtain ⟨i, hi, rfl⟩ := List.mem_map.mp hq
    have hi' := List.mem_range.mp hi
    have e := (n_t5 (D := D) (aC := aC) hn hi').1
    refine vk_OFof (n_e24 hn hi') ?_ n_hA
    rw [show n_tm 24 i = .string "VaneUnion$Keyword" (n_ki.getD i 0) from if_pos hi']
    exact e
  · obtain ⟨i, hi, rfl⟩ := List.mem_map.mp hq
    exact vk_OFof (n_e24 hn (List.mem_range.mp hi)) (va_eqt (hn _ (n_wW_in _ (List.mem_append_right _ (List.mem_map.mpr ⟨i, hi, rfl⟩))))) n_hA
theorem n_Ts (hn : ∀ w ∈ n_FL, w.before args s = true) : g_Ts y_ts (n_G args s D aC) s s.heap := by
  refine List.forall_mem_append.mpr ⟨?_, fun q hq => ?_⟩
  · refine List.forall_mem_cons.mpr ⟨(n_t0 (D := D) (aC := aC) hn).2, ?_⟩
    refine List.forall_mem_cons.mpr ⟨(n_t1 (D := D) (aC := aC) hn).2, ?_⟩
    refine List.forall_mem_cons.mpr ⟨(n_t4 (D := D) (aC := aC) hn).2, ?_⟩
    refine List.forall_mem_cons.mpr ⟨(n_t2 (D := D) (aC := aC) hn).2, ?_⟩
    refine List.forall_mem_cons.mpr ⟨(n_t3 (D := D) (aC := aC) hn).2, ?_⟩
    exact fun _ h => absurd h List.not_mem_nil
  · obtain ⟨i, hi, rfl⟩ := List.mem_map.mp hq
    exact (n_t5 (D := D) (aC := aC) hn (List.mem_range.mp hi)).2
theorem n_Stm : ∀ q ∈ y_ss, n_tm 24 q.2.2.2 = .string q.1 q.2.1 := by decide +kernel
theorem n_Ss (ht : ∀ w ∈ lw_tbl, w.before args s = true) : g_Ss y_ss (n_G args s D aC) s := fun q hq => by
  have h1 := ht _ (n_tS_in _ (List.mem_map.mpr ⟨q, hq, rfl⟩))
  obtain ⟨a, e⟩ := n_str h1
  rw [← n_Stm q hq] at e
  have e2 := n_ev e
  rw [n_Stm q hq] at e2
  exact vk_R.of h1 e2
theorem n_Ns (ht : ∀ w ∈ lw_tbl, w.before args s = true) : g_Ns y_ns s := fun q hq => va_Nw.of rfl (ht _ (n_tN_in _ (List.mem_append_left _ (List.mem_append_left _ (List.mem_map.mpr ⟨q, hq, rfl⟩)))))
theorem n_Nf (ht : ∀ w ∈ lw_tbl, w.before args s = true) : va_Nw (.fieldLinkNest "VaneUnion$CommandText" 73 "VaneUnion" "KEYWORDS" "[LVaneUnion$Keyword;" "VaneUnion") s := va_Nw.of rfl (ht _ (n_tN_in _ (List.mem_append_left _ (List.mem_append_right _ List.mem_cons_self))))
theorem n_Nd (ht : ∀ w ∈ lw_tbl, w.before args s = true) : ∀ x ∈ g_dcl, va_Nw (.declares x) s := fun x hx => va_Nw.of rfl (ht _ (n_tN_in _ (List.mem_append_right _ (List.mem_map.mpr ⟨x, hx, rfl⟩))))
theorem n_Cs (ht : ∀ w ∈ lw_tbl, w.before args s = true) : g_Cs y_cs s := fun q hq => va_Nw.of rfl (ht _ (n_tC_in _ (List.mem_map.mpr ⟨q, hq, rfl⟩)))
theorem n_Ms (hn : ∀ w ∈ n_FL, w.before args s = true) : g_Ms y_ms s := fun q hq => va_Nc.of (hn _ (n_wM_in _ (List.mem_map.mpr ⟨q, hq, rfl⟩)))
theorem n_prs : ∀ i, i < 6 → ∀ j, j < 6 → i = j ∨ (i, j) ∈ n_pr ∨ (j, i) ∈ n_pr := by decide
theorem n_ds (hn : ∀ w ∈ n_FL, w.before args s = true) : ∀ i j, i < 6 → j < 6 → n_ad args s 20 i = n_ad args s 20 j → i = j := by
  intro i j hi hj e
  rcases n_prs i hi j hj with h | h | h
  · exact h
  · exact absurd e (va_neR (hn _ (n_wN_in _ (List.mem_map.mpr ⟨(i, j), h, rfl⟩))) (n_e20 hn hi) (n_e20 hn hj))
  · exact absurd e.symm (va_neR (hn _ (n_wN_in _ (List.mem_map.mpr ⟨(j, i), h, rfl⟩))) (n_e20 hn hj) (n_e20 hn hi))
theorem n_q1 (hn : ∀ w ∈ n_FL, w.before args s = true) (ht : ∀ w ∈ lw_tbl, w.before args s = true) : vx_Zq "java/lang/Throwable" "UNASSIGNED_STACK" "[Ljava/lang/StackTraceElement;" (fun q => s.heap.size ≤ q) s s.heap := vx_Zqof (ht _ (n_tQ_in _ (List.mem_of_getElem? (i := 0) rfl))) (ht _ (n_tQ_in _ (List.mem_of_getElem? (i := 3) rfl))) (hn _ (n_w0_in _ (List.mem_of_getElem? (i := 1) rfl))) n_hA
theorem n_q2 (hn : ∀ w ∈ n_FL, w.before args s = true) (ht : ∀ w ∈ lw_tbl, w.before args s = true) : vx_Zq "java/lang/Throwable" "SUPPRESSED_SENTINEL" "Ljava/util/List;" (fun q => s.heap.size ≤ q) s s.heap := vx_Zqof (ht _ (n_tQ_in _ (List.mem_of_getElem? (i := 1) rfl))) (ht _ (n_tQ_in _ (List.mem_of_getElem? (i := 3) rfl))) (hn _ (n_w0_in _ (List.mem_of_getElem? (i := 2) rfl))) n_hA
theorem n_q3 (hn : ∀ w ∈ n_FL, w.before args s = true) (ht : ∀ w ∈ lw_tbl, w.before args s = true) : vx_Zq "jdk/internal/util/Preconditions" "SIOOBE_FORMATTER" "Ljava/util/function/BiFunction;" (fun q => s.heap.size ≤ q) s s.heap := vx_Zqof (ht _ (n_tQ_in _ (List.mem_of_getElem? (i := 2) rfl))) (ht _ (n_tQ_in _ (List.mem_of_getElem? (i := 4) rfl))) (hn _ (n_w0_in _ (List.mem_of_getElem? (i := 3) rfl))) n_hA
theorem n_AO (ht : ∀ w ∈ lw_tbl, w.before args s = true) : ∀ C ∈ ["VaneUnion$Books", "VaneUnion$Member", "VaneUnion$Command"], va_AO C s := List.forall_mem_cons.mpr ⟨va_AO.of (ht _ (n_tA_in _ (List.mem_of_getElem? (i := 4) rfl))), List.forall_mem_cons.mpr ⟨va_AO.of (ht _ (n_tA_in _ (List.mem_of_getElem? (i := 5) rfl))), List.forall_mem_cons.mpr ⟨va_AO.of (ht _ (n_tA_in _ (List.mem_of_getElem? (i := 6) rfl))), fun _ h => absurd h List.not_mem_nil⟩⟩⟩
/-! the classes -/
theorem n_D (ht : ∀ w ∈ lw_tbl, w.before args s = true) : ∃ D : va_G, ∀ (c : Nat) (q : vw_C), vwCl[c]? = some q → u_Kn s q.1 q.2.1 q.2.2 (D.1 c) (D.2 c) := by
  have h0 : ∀ c : Nat, ∃ x : ClassId × (Nat → Nat), ∀ q : vw_C, vwCl[c]? = some q → u_Kn s q.1 q.2.1 q.2.2 x.1 x.2 := by
    intro c
    match c with
    | 0 => obtain ⟨a, b, h⟩ := u_known ht n_uRJ0 (ht _ (n_tI_in _ (List.mem_of_getElem? (i := 0) rfl))); exact ⟨(a, b), fun q hq => by cases hq; exact h⟩
    | 1 => obtain ⟨a, b, h⟩ := u_known ht n_uRJ4 (ht _ (n_tI_in _ (List.mem_of_getElem? (i := 1) rfl))); exact ⟨(a, b), fun q hq => by cases hq; exact h⟩
    | 2 => obtain ⟨a, b, h⟩ := u_known ht n_uRJx00060 (ht _ (n_tI_in _ (List.mem_of_getElem? (i := 2) rfl))); exact ⟨(a, b), fun q hq => by cases hq; exact h⟩
    | 3 => obtain ⟨a, b, h⟩ := u_known ht n_uRJx7c733 (ht _ (n_tI_in _ (List.mem_of_getElem? (i := 3) rfl))); exact ⟨(a, b), fun q hq => by cases hq; exact h⟩
    | 4 => obtain ⟨a, b, h⟩ := u_known ht n_uRX1 (ht _ (n_tI_in _ (List.mem_of_getElem? (i := 4) rfl))); exact ⟨(a, b), fun q hq => by cases hq; exact h⟩
    | 5 => obtain ⟨a, b, h⟩ := u_known ht n_uRX2 (ht _ (n_tI_in _ (List.mem_of_getElem? (i := 5) rfl))); exact ⟨(a, b), fun q hq => by cases hq; exact h⟩
    | 6 => obtain ⟨a, b, h⟩ := u_known ht n_uRX3 (ht _ (n_tI_in _ (List.mem_of_getElem? (i := 6) rfl))); exact ⟨(a, b), fun q hq => by cases hq; exact h⟩
    | 7 => obtain ⟨a, b, h⟩ := u_known ht n_uRX6 (ht _ (n_tI_in _ (List.mem_of_getElem? (i := 7) rfl))); exact ⟨(a, b), fun q hq => by cases hq; exact h⟩
    | 8 => obtain ⟨a, b, h⟩ := u_known ht n_uRX7 (ht _ (n_tI_in _ (List.mem_of_getElem? (i := 8) rfl))); exact ⟨(a, b), fun q hq => by cases hq; exact h⟩
    | 9 => obtain ⟨a, b, h⟩ := u_known ht n_uRX8 (ht _ (n_tI_in _ (List.mem_of_getElem? (i := 9) rfl))); exact ⟨(a, b), fun q hq => by cases hq; exact h⟩
    | c + 10 => exact ⟨(0, fun _ => 0), fun q hq => by simp [vwCl] at hq⟩
  obtain ⟨f, hf⟩ := Classical.axiomOfChoice h0
  exact ⟨(fun c => (f c).1, fun c => (f c).2), fun c q hq => hf c q hq⟩
theorem n_aO {C : String} (h : (Cond.arrayOver (.object C)).before args s = true) : ∃ cA : ClassId, ArrOfT s cA (.object C) ∧ va_RA s cA (.object C) := by
  obtain ⟨comp, c, k, h1, -, h3, h4, h5⟩ := Cond.arrayOver_spec h
  exact ⟨c, fun N z => ⟨(fun k h => by cases h), k, h3, comp, h4⟩, k, comp, h3, h4, h1, h5⟩
theorem n_aP {ty : FieldType} (h : (Cond.arrayClass ty).before args s = true) : ∃ cA : ClassId, ArrOfT s cA ty ∧ s.vm.findClass ("[" ++ ty.toString) = some cA := by
  obtain ⟨c, k, comp, h1, h3, h4⟩ := Cond.arrayClass_spec h
  exact ⟨c, fun N z => ⟨(fun k h => by cases h), k, h3, comp, h4⟩, h1⟩
theorem n_aC (ht : ∀ w ∈ lw_tbl, w.before args s = true) : ∃ aC : Nat → ClassId, ∀ (D : va_G) (k : Nat) (q : ClassId × FieldType), (g_tys (n_G args s D aC))[k]? = some q → ArrOfT s q.1 q.2 ∧ va_RA s q.1 q.2 := by
  obtain ⟨c0, a0, b0⟩ := n_aO (ht _ (n_tA_in _ (List.mem_of_getElem? (i := 4) rfl)))
  obtain ⟨c1, a1, b1⟩ := n_aO (ht _ (n_tA_in _ (List.mem_of_getElem? (i := 5) rfl)))
  obtain ⟨c2, a2, b2⟩ := n_aO (ht _ (n_tA_in _ (List.mem_of_getElem? (i := 6) rfl)))
  obtain ⟨c3, a3, b3⟩ := n_aP (ht _ (n_tA_in _ (List.mem_of_getElem? (i := 0) rfl)))
  obtain ⟨c4, a4, b4⟩ := n_aP (ht _ (n_tA_in _ (List.mem_of_getElem? (i := 1) rfl)))
  obtain ⟨c5, a5, b5⟩ := n_aP (ht _ (n_tA_in _ (List.mem_of_getElem? (i := 2) rfl)))
  obtain ⟨c6, a6, b6⟩ := n_aP (ht _ (n_tA_in _ (List.mem_of_getElem? (i := 3) rfl)))
  refine ⟨fun k => [c0, c1, c2, c3, c4, c5, c6].getD (k - 10) 0, fun D k q hq => ?_⟩
  match k, hq with
  | 0, hq => cases hq; exact ⟨a0, b0⟩
  | 1, hq => cases hq; exact ⟨a1, b1⟩
  | 2, hq => cases hq; exact ⟨a2, b2⟩
  | 3, hq => cases hq; exact ⟨a3, b3⟩
  | 4, hq => cases hq; exact ⟨a4, b4⟩
  | 5, hq => cases hq; exact ⟨a5, b5⟩
  | 6, hq => cases hq; exact ⟨a6, b6⟩
  | k + 7, hq => simp [g_tys] at hq
theorem n_KS (hn : ∀ w ∈ n_FL, w.before args s = true) (ht : ∀ w ∈ lw_tbl, w.before args s = true) : ∃ (D : va_G) (aC : Nat → ClassId), g_KS y_ (n_G args s D aC) s s.heap := by
  obtain ⟨D, hD⟩ := n_D ht
  obtain ⟨aC, hC⟩ := n_aC ht
  exact ⟨D, aC, ⟨hD, hC D⟩, n_Zs hn ht, n_Os hn, n_Fs hn, n_Ts hn, n_Ss ht, n_Ns ht, n_Cs ht, n_Ms hn, n_q1 hn ht, n_q2 hn ht, n_ds hn, (n_q3 hn ht).1, n_AO ht, n_Nf ht, n_Nd ht⟩
end nsec
