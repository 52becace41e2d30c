/-! ===== the books copied; the model's rows laid ===== -/
/-- places lo to hi of another row -/
def q_mr (lo hi : Nat) (R0 R : Nat → Int32) : Nat → Int32 := fun s => if lo ≤ s ∧ s ≤ hi then R s else R0 s
theorem q_mr_0 {lo hi : Nat} {R0 R : Nat → Int32} (h : hi < lo) : q_mr lo hi R0 R = R0 := by
  funext s
  exact if_neg (fun q => by omega)
theorem q_mr_s {lo hi : Nat} {R0 R : Nat → Int32} (h : lo ≤ hi + 1) : upd (q_mr lo hi R0 R) (hi + 1) (R (hi + 1)) = q_mr lo (hi + 1) R0 R := by
  funext s
  unfold upd q_mr
  by_cases e : s = hi + 1
  · subst e
    rw [if_pos rfl, if_pos ⟨h, Nat.le_refl _⟩]
  · rw [if_neg e]
    by_cases z : lo ≤ s ∧ s ≤ hi
    · rw [if_pos z, if_pos (by omega)]
    · rw [if_neg z, if_neg (by omega)]
theorem q_cus' {h : g_Hp} {b : Nat} {f : Nat → Int32} {g : Nat → Nat → Int32} {j lo hi : Nat} {R0 R : Nat → Int32} {x : Int32} (h1 : lo ≤ hi + 1) (hx : x = R (hi + 1)) : g_up (q_cH h b (f, q_setr g j (q_mr lo hi R0 R))) 2 b j (hi + 1) x = q_cH h b (f, q_setr g j (q_mr lo (hi + 1) R0 R)) := by
  rw [hx, q_cus, q_mr_s h1]
theorem q_cu1' {h : g_Hp} {b : Nat} {f0 f : Nat → Int32} {g : Nat → Nat → Int32} {lo hi : Nat} {x : Int32} (h1 : lo ≤ hi + 1) (hx : x = f (hi + 1)) : g_up (q_cH h b (q_mr lo hi f0 f, g)) 1 b 0 (hi + 1) x = q_cH h b (q_mr lo (hi + 1) f0 f, g) := by
  rw [hx, q_cu1, q_mr_s h1]
theorem q_cp6 {h : g_Hp} {ti a j : Nat} {f : Nat → Int32} {g : Nat → Nat → Int32} {R0 : Nat → Int32} {Q : g_R → g_Hp → Prop} (hne : a ≠ ti) (h9 : h 2 a j 9 = 0 ∨ h 2 a j 9 = 1) (K : Q (.inl none) (q_cH h ti (f, q_setr g j (q_mr 1 11 R0 (h 2 a j))))) : wX6_copyFrom ti j a j (q_cH h ti (f, q_setr g j R0)) Q := by
  have e0 : R0 = q_mr 1 0 R0 (h 2 a j) := (q_mr_0 (by decide)).symm
  unfold wX6_copyFrom
  rw [e0]
  refine nm_r (q_cus' (lo := 1) (hi := 0) (R := h 2 a j) (by decide) (q_cb _ _ _ hne)) ?_
  refine nm_r (q_cus' (lo := 1) (hi := 1) (R := h 2 a j) (by decide) (q_cb _ _ _ hne)) ?_
  refine nm_r (q_cus' (lo := 1) (hi := 2) (R := h 2 a j) (by decide) (q_cb _ _ _ hne)) ?_
  refine nm_r (q_cus' (lo := 1) (hi := 3) (R := h 2 a j) (by decide) (q_cb _ _ _ hne)) ?_
  refine nm_r (q_cus' (lo := 1) (hi := 4) (R := h 2 a j) (by decide) (q_cb _ _ _ hne)) ?_
  refine nm_r (q_cus' (lo := 1) (hi := 5) (R := h 2 a j) (by decide) (q_cb _ _ _ hne)) ?_
  refine nm_r (q_cus' (lo := 1) (hi := 6) (R := h 2 a j) (by decide) (q_cb _ _ _ hne)) ?_
  refine nm_r (q_cus' (lo := 1) (hi := 7) (R := h 2 a j) (by decide) (q_cb _ _ _ hne)) ?_
  refine And.intro (by rw [q_cb _ _ _ hne]; exact h9) ?_
  refine nm_r (q_cus' (lo := 1) (hi := 8) (R := h 2 a j) (by decide) (q_cb _ _ _ hne)) ?_
  refine nm_r (q_cus' (lo := 1) (hi := 9) (R := h 2 a j) (by decide) (q_cb _ _ _ hne)) ?_
  refine nm_r (q_cus' (lo := 1) (hi := 10) (R := h 2 a j) (by decide) (q_cb _ _ _ hne)) ?_
  exact K
def q_cpf (c0 c : q_C) (n : Nat) : q_C := (q_mr 2 12 c0.1 c.1, q_rows c0.2 n (fun j => q_mr 1 11 (c0.2 j) (c.2 j)))
theorem q_cpF {h : g_Hp} {ti a n : Nat} {Q : g_R → g_Hp → Prop} (hne : a ≠ ti) (hN : h 1 a 0 2 = nI n) (hn : n ≤ 12) (h9 : ∀ m, m < n → h 2 a m 9 = 0 ∨ h 2 a m 9 = 1) (h7 : h 1 a 0 7 = 0 ∨ h 1 a 0 7 = 1) (K : Q (.inl none) (q_cH h ti (q_cpf (q_cv h ti) (q_cv h a) n))) : wX1_copyFrom ti a h Q := by
  have z := q_loop (fun k i => wX1_copyFrom_b2_I ti a Q k (nI i) (q_cH h ti ((q_cv h ti).1, q_rows (q_cv h ti).2 i (fun j => q_mr 1 11 ((q_cv h ti).2 j) ((q_cv h a).2 j))))) n 0 (Nat.zero_le _) (fun k => ?_) (fun k i _ hi hk => ?_)
  · rw [q_rows_0] at z
    have e : q_cH h ti ((q_cv h ti).1, (q_cv h ti).2) = h := q_cE h ti
    rw [e] at z
    exact z
  · show wX1_copyFrom_b2_B ti a Q _ _ _
    unfold wX1_copyFrom_b2_B
    rw [q_cb _ _ _ hne, hN]
    refine br_t (nI_le (Nat.le_refl _) (by omega)) ?_
    rw [← hN, show (q_cv h ti).1 = q_mr 2 1 (q_cv h ti).1 (h 1 a 0) from (q_mr_0 (by decide)).symm]
    refine nm_r (q_cu1' (lo := 2) (hi := 1) (f := h 1 a 0) (by decide) rfl) ?_
    refine nm_r (q_cu1' (lo := 2) (hi := 2) (f := h 1 a 0) (by decide) (q_cb _ _ _ hne)) ?_
    refine nm_r (q_cu1' (lo := 2) (hi := 3) (f := h 1 a 0) (by decide) (q_cb _ _ _ hne)) ?_
    refine nm_r (q_cu1' (lo := 2) (hi := 4) (f := h 1 a 0) (by decide) (q_cb _ _ _ hne)) ?_
    refine nm_r (q_cu1' (lo := 2) (hi := 5) (f := h 1 a 0) (by decide) (q_cb _ _ _ hne)) ?_
    refine And.intro (by rw [q_cb _ _ _ hne]; exact h7) ?_
    refine nm_r (q_cu1' (lo := 2) (hi := 6) (f := h 1 a 0) (by decide) (q_cb _ _ _ hne)) ?_
    refine nm_r (q_cu1' (lo := 2) (hi := 7) (f := h 1 a 0) (by decide) (q_cb _ _ _ hne)) ?_
    refine nm_r (q_cu1' (lo := 2) (hi := 8) (f := h 1 a 0) (by decide) (q_cb _ _ _ hne)) ?_
    refine nm_r (q_cu1' (lo := 2) (hi := 9) (f := h 1 a 0) (by decide) (q_cb _ _ _ hne)) ?_
    refine nm_r (q_cu1' (lo := 2) (hi := 10) (f := h 1 a 0) (by decide) (q_cb _ _ _ hne)) ?_
    refine nm_r (q_cu1' (lo := 2) (hi := 11) (f := h 1 a 0) (by decide) (q_cb _ _ _ hne)) ?_
    exact K
  · show wX1_copyFrom_b2_B ti a Q _ _ _
    unfold wX1_copyFrom_b2_B
    rw [q_cb _ _ _ hne, hN]
    refine br_f (nI_ge hi (by omega)) (And.intro (q_vI (by omega) (by decide)) (nm_r (nI_clamp (by omega)) (And.intro (q_vI (by omega) (by decide)) (nm_r (nI_clamp (by omega)) ?_))))
    rw [q_rows_e]
    refine q_cp6 hne (h9 i hi) (nm_r (nI_1 i) ?_)
    have e := q_rows_s (g := (q_cv h ti).2) (R := fun j => q_mr 1 11 ((q_cv h ti).2 j) ((q_cv h a).2 j)) (i := i)
    show wX1_copyFrom_b2_I ti a Q k (nI (i + 1)) (q_cH h ti ((q_cv h ti).1, q_setr (q_rows (q_cv h ti).2 i (fun j => q_mr 1 11 ((q_cv h ti).2 j) ((q_cv h a).2 j))) i (q_mr 1 11 ((q_cv h ti).2 i) ((q_cv h a).2 i))))
    rw [e]
    exact hk
/-- books that are alike in what counts -/
theorem q_RB_eq {T n : Nat} {st sh : Int32} {ll : Nat → Nat} {it : Nat → Nat → Nat} {c c' : q_C} {w w' : Nat → Int32} (h1 : ∀ s, 2 ≤ s → s ≤ 12 → c'.1 s = c.1 s) (h2 : ∀ m s, m < n → 1 ≤ s → s ≤ 11 → c'.2 m s = c.2 m s) (h3 : ∀ k, k < 169 → w' k = w k) (hB : q_RB T st sh n ll it c w) : q_RB T st sh n ll it c' w' := by
  obtain ⟨hS, hM, hL⟩ := hB
  have s1 : n ≤ 12 := hS.1
  refine ⟨?_, ?_, ?_⟩
  · unfold q_RS at hS ⊢
    rw [h1 2 (by decide) (by decide), h1 3 (by decide) (by decide), h1 4 (by decide) (by decide), h1 5 (by decide) (by decide), h1 6 (by decide) (by decide), h1 7 (by decide) (by decide), h1 8 (by decide) (by decide), h1 9 (by decide) (by decide), h1 10 (by decide) (by decide), h1 11 (by decide) (by decide), h1 12 (by decide) (by decide), h3 0 (by decide), h3 1 (by decide), h3 2 (by decide), h3 3 (by decide), h3 4 (by decide), h3 5 (by decide), h3 6 (by decide), h3 7 (by decide), h3 8 (by decide), h3 9 (by decide), h3 10 (by decide)]
    exact hS
  · exact q_RM_c s1 (fun k _ hk => h3 k (by omega)) (fun m s a b d => h2 m s a b (by omega)) hM
  · refine q_RL_g (g := c.2) (fun m hm => ⟨h2 m 10 hm (by decide) (by decide), h2 m 11 hm (by decide) (by decide)⟩) ?_
    obtain ⟨l1, l2, l3⟩ := hL
    exact ⟨fun r hr => ⟨(l1 r hr).1, (h3 _ (by omega)).trans (l1 r hr).2.1, (l1 r hr).2.2⟩, fun r k hr hk => ⟨(l2 r k hr hk).1, (h3 _ (by have := (l1 r hr).1; omega)).trans (l2 r k hr hk).2.1, (l2 r k hr hk).2.2⟩, l3⟩
theorem q_R_eq {T : Nat} {c c' : q_C} {w w' : Nat → Int32} (h1 : ∀ s, 2 ≤ s → s ≤ 12 → c'.1 s = c.1 s) (h2 : ∀ m s, 1 ≤ s → s ≤ 11 → c'.2 m s = c.2 m s) (h3 : ∀ k, k < 169 → w' k = w k) (hB : q_R T c w) : q_R T c' w' := by
  obtain ⟨n, ll, it, hB⟩ := hB
  exact ⟨n, ll, it, q_RB_eq h1 (fun m s _ a b => h2 m s a b) h3 hB⟩
/-- copyFrom, from books that are the model's row w -/
theorem q_cpR {T : Nat} {h : g_Hp} {ti a : Nat} {w : Nat → Int32} {Q : g_R → g_Hp → Prop} (hne : a ≠ ti) (hR : q_R T (q_cv h a) w) (K : ∀ c', q_R T c' w → c'.1 2 = h 1 a 0 2 → Q (.inl none) (q_cH h ti c')) : wX1_copyFrom ti a h Q := by
  obtain ⟨n, ll, it, hB⟩ := hR
  have ⟨⟨s1, s2, s3, s4, s5, s6, s7, s8, s9, _⟩, ⟨m1, m2, m3⟩, _⟩ := hB
  refine q_cpF hne s2 s1 (fun m hm => (m3 m hm).2.2.2.2.2.2.2) ?_ (K _ ⟨n, ll, it, q_RB_eq (fun s x y => ?_) (fun m s x y z => ?_) (fun _ _ => rfl) hB⟩ ?_)
  · have e7 : h 1 a 0 7 = w 4 := s8
    rw [e7]
    exact s9
  · exact if_pos ⟨x, y⟩
  · show q_rows (q_cv h ti).2 n (fun j => q_mr 1 11 ((q_cv h ti).2 j) ((q_cv h a).2 j)) m s = _
    rw [q_rows_lt x]
    exact if_pos ⟨y, z⟩
  · show q_mr 2 12 (q_cv h ti).1 (q_cv h a).1 2 = _
    exact if_pos ⟨by decide, by decide⟩
/-! lays -/
theorem q_gl (h : g_Hp) (i : Nat) : (match i with | 0 => 169 | 1 => 169 | 2 => 169 | 3 => 1352 | 4 => 60 | 5 => 50 | 6 => 10 | 7 => 57 | _ => 11) = g_len h 13 i 0 := rfl
theorem q_lay {h : g_Hp} {to fr : Nat} {Q : g_R → g_Hp → Prop} (hto : to < 3) (hfr : fr < 3) (hne : fr ≠ to) (K : Q (.inl none) (q_mH h to (q_seg (q_mv h to) 0 169 (q_mv h fr)))) : wX8_lays to fr h Q := by
  have lt : ∀ H : g_Hp, g_len H 13 to 0 = 169 := fun H => by
    obtain rfl | rfl | rfl : to = 0 ∨ to = 1 ∨ to = 2 := by omega
    all_goals rfl
  have lf : ∀ H : g_Hp, g_len H 13 fr 0 = 169 := fun H => by
    obtain rfl | rfl | rfl : fr = 0 ∨ fr = 1 ∨ fr = 2 := by omega
    all_goals rfl
  have z := q_loop (fun k i => wX8_lays_b2_I to fr Q k (nI i) (q_mH h to (q_seg (q_mv h to) 0 i (q_mv h fr)))) 169 0 (Nat.zero_le _) (fun k => ?_) (fun k i _ hi hk => ?_)
  · rw [q_seg_0, q_mE] at z
    exact z
  · show wX8_lays_b2_B to fr Q _ _ _
    unfold wX8_lays_b2_B
    exact br_t (nI_le (a := 169) (Nat.le_refl _) (by decide)) K
  · show wX8_lays_b2_B to fr Q _ _ _
    unfold wX8_lays_b2_B
    rw [lt, lf]
    refine br_f (nI_ge (b := 169) hi (by decide)) (And.intro (q_vI hi (by decide)) (And.intro (q_vI hi (by decide)) (nm_r ?_ (nm_r (nI_1 i) hk))))
    rw [nI_clamp (by omega), q_mi _ _ _ hne, q_mu]
    refine congrArg (fun x => q_mH h to x) ?_
    have := q_seg_s (q_mv h to) 0 i (q_mv h fr)
    rw [Nat.zero_add] at this
    exact this
theorem q_seg_lt {w : Nat → Int32} {n k : Nat} {F : Nat → Int32} (h : k < n) : q_seg w 0 n F k = F k := by
  unfold q_seg
  rw [if_pos (by omega), Nat.sub_zero]
