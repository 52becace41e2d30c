/-! a shift in a strike: the class -/
theorem q_upd2 {f : Nat → Int32} {k : Nat} {x y : Int32} : upd (upd f k x) k y = upd f k y := by
  funext e
  unfold upd
  by_cases h : e = k
  · rw [if_pos h, if_pos h]
  · rw [if_neg h, if_neg h, if_neg h]
theorem q_col_same {g : Nat → Nat → Int32} {i s0 : Nat} {F : Nat → Int32} (h : F i = g i s0) : q_col g (i + 1) s0 F = q_col g i s0 F := by
  rw [← q_col_s]
  funext m s
  unfold q_u2
  by_cases e : m = i ∧ s = s0
  · obtain ⟨rfl, rfl⟩ := e
    rw [if_pos ⟨rfl, rfl⟩, h, q_col_ge (Nat.le_refl m)]
  · rw [if_neg e]
def q_pkr (L : Nat) (R : Nat → Int32) : Nat → Int32 := if nI (min L 2) ≤ R 11 then upd R 11 (R 11 - nI (min L 2)) else upd (upd R 7 (R 7 + 1)) 11 (R 11 + (nI L - nI (min L 2)))
theorem q_pkr_o {L : Nat} {R : Nat → Int32} {s : Nat} (h7 : s ≠ 7) (h11 : s ≠ 11) : q_pkr L R s = R s := by
  unfold q_pkr
  split
  · rw [pk_un h11]
  · rw [pk_un h11, pk_un h7]
def q_Lj (n : Nat) (g : Nat → Nat → Int32) (x : Int32) : Nat := q_ct (fun m => decide (g m 10 = x)) n
def q_pk (n : Nat) (g : Nat → Nat → Int32) (j : Nat) : Nat → Int32 := if g j 10 = -1 then g j else q_pkr (q_Lj n g (g j 10)) (g j)
theorem q_pk_o {n : Nat} {g : Nat → Nat → Int32} {j s : Nat} (h7 : s ≠ 7) (h11 : s ≠ 11) : q_pk n g j s = g j s := by
  unfold q_pk
  split
  · rfl
  · exact q_pkr_o h7 h11
theorem q_a3 {n : Nat} {h : g_Hp} {c : q_C} {Q : g_R → g_Hp → Prop} (hN : c.1 2 = nI n) (hn : n ≤ 12) (K : Q (.inl none) (q_cH h 0 (c.1, q_rows c.2 n (q_pk n c.2)))) : wX1_passStrikeShift_b92 0 Q (0 : Int32) (q_cH h 0 c) := by
  have z := q_loop (fun k i => wX1_passStrikeShift_b92_I 0 Q k (nI i) (q_cH h 0 (c.1, q_rows c.2 i (q_pk n c.2)))) n 0 (Nat.zero_le _) (fun k => ?_) (fun k i _ hi hk => ?_)
  · rw [q_rows_0] at z
    exact z
  · show wX1_passStrikeShift_b92_B 0 Q _ _ _
    unfold wX1_passStrikeShift_b92_B
    rw [q_c1]
    show ((c.1 2 ≤ _) → _) ∧ _
    rw [hN]
    exact br_t (nI_le (Nat.le_refl _) (by omega)) K
  · have h10 : ∀ m, q_rows c.2 i (q_pk n c.2) m 10 = c.2 m 10 := fun m => by
      by_cases e : m < i
      · rw [q_rows_lt e, q_pk_o (by decide) (by decide)]
      · rw [q_rows_ge (by omega)]
    show wX1_passStrikeShift_b92_B 0 Q _ _ _
    unfold wX1_passStrikeShift_b92_B
    rw [q_c1]
    show ((c.1 2 ≤ _) → _) ∧ _
    rw [hN]
    refine br_f (nI_ge hi (by omega)) (And.intro (q_vI (by omega) (by decide)) (nm_r (nI_clamp (by omega)) ?_))
    rw [q_c2]
    show ((q_rows c.2 i (q_pk n c.2) i 10 = _) → _) ∧ _
    rw [h10]
    refine ⟨fun a => nm_r (nI_1 i) ?_, fun a => And.intro (q_vI (by omega) (by decide)) (nm_r (nI_clamp (by omega)) ?_)⟩
    · have e : q_rows c.2 (i + 1) (q_pk n c.2) = q_rows c.2 i (q_pk n c.2) := by
        rw [← q_rows_s]
        have e1 : q_pk n c.2 i = c.2 i := if_pos a
        rw [e1, ← q_rows_e]
      rw [e] at hk
      exact hk
    · unfold wX1_standOnPicket
      refine q_cOL (n := n) _ ((q_c1 _ _ _ _).trans hN) hn ?_
      have eL : q_ct (fun m => decide (q_cH h 0 (c.1, q_rows c.2 i (q_pk n c.2)) 2 0 m 10 = q_cH h 0 (c.1, q_rows c.2 i (q_pk n c.2)) 2 0 i 10)) n = q_Lj n c.2 (c.2 i 10) := q_ct_congr (fun m hm => by
        simp only [q_c2]
        show decide (q_rows c.2 i (q_pk n c.2) m 10 = q_rows c.2 i (q_pk n c.2) i 10) = decide (c.2 m 10 = c.2 i 10)
        rw [h10, h10])
      rw [eL]
      have hle : q_Lj n c.2 (c.2 i 10) ≤ n := q_ct_le _ _
      refine q_min (b := 2) rfl rfl (by omega) (by decide) ?_
      have e1 : q_pk n c.2 i = q_pkr (q_Lj n c.2 (c.2 i 10)) (c.2 i) := if_neg (fun q => a ((h10 i).trans q))
      show ((nI (min (q_Lj n c.2 (c.2 i 10)) 2) ≤ q_cH h 0 (c.1, q_rows c.2 i (q_pk n c.2)) 2 0 i 11) → _) ∧ _
      rw [q_c2]
      dsimp only
      rw [q_rows_ge (Nat.le_refl i), q_rows_e]
      rw [← q_rows_s, e1] at hk
      unfold q_pkr at hk
      refine ⟨fun b => ?_, fun b => ?_⟩
      · rw [if_pos b] at hk
        refine nm_r ?_ (nm_r (nI_1 i) hk)
        rw [q_cus]
      · rw [if_neg b] at hk
        refine nm_r (e' := q_cH h 0 (c.1, q_setr (q_rows c.2 i (q_pk n c.2)) i (upd (c.2 i) 7 (c.2 i 7 + 1)))) ?_ (nm_r ?_ (nm_r (nI_1 i) hk))
        · rw [q_c2]
          dsimp only
          rw [q_setr_s, q_cus]
        · rw [q_c2]
          dsimp only
          rw [q_setr_s, pk_un (by decide), q_cus]
def q_sup (g : Nat → Nat → Int32) (F j : Nat) : Int32 := if j < F / 2 then g j 5 + 2 else g j 5
theorem q_a2 {n F : Nat} {h : g_Hp} {c : q_C} {Q : g_R → g_Hp → Prop} (hN : c.1 2 = nI n) (hn : n ≤ 12) (hF : c.1 10 = nI F) (hF2 : F ≤ 9999) (K : wX1_passStrikeShift_b92 0 Q (0 : Int32) (q_cH h 0 (upd c.1 10 (nI (F - 2 * min n (F / 2))), q_col c.2 n 5 (q_sup c.2 F)))) : wX1_passStrikeShift_b43 0 Q (0 : Int32) (q_cH h 0 c) := by
  have z := q_loop (fun k i => wX1_passStrikeShift_b43_I 0 Q k (nI i) (q_cH h 0 (upd c.1 10 (nI (F - 2 * min i (F / 2))), q_col c.2 i 5 (q_sup c.2 F)))) n 0 (Nat.zero_le _) (fun k => ?_) (fun k i _ hi hk => ?_)
  · rw [q_col_0, q_upd_same (by rw [Nat.zero_min]; exact hF)] at z
    exact z
  · show wX1_passStrikeShift_b43_B 0 Q _ _ _
    unfold wX1_passStrikeShift_b43_B
    rw [q_c1]
    dsimp only
    rw [pk_un (by decide), hN]
    exact br_t (nI_le (Nat.le_refl _) (by omega)) K
  · show wX1_passStrikeShift_b43_B 0 Q _ _ _
    unfold wX1_passStrikeShift_b43_B
    rw [q_c1, q_c1]
    dsimp only
    rw [pk_un (by decide), hN, pk_us]
    refine br_f (nI_ge hi (by omega)) (pk_lt (F - 2 * min i (F / 2)) 2 (fun a => ?_) (fun a => ?_))
    · have b : F / 2 ≤ i := by
        by_cases y : i ≤ F / 2
        · rw [Nat.min_eq_left y] at a
          omega
        · omega
      rw [Nat.min_eq_right (by omega), q_col_same (by unfold q_sup; rw [if_neg (by omega)])] at hk
      rw [Nat.min_eq_right b]
      exact nm_r (nI_1 i) hk
    · have b : i < F / 2 := by
        by_cases y : i < F / 2
        · exact y
        · rw [Nat.min_eq_right (by omega)] at a
          omega
      rw [Nat.min_eq_left (by omega)] at hk ⊢
      refine nm_r (e' := q_cH h 0 (upd c.1 10 (nI (F - 2 * (i + 1))), q_col c.2 i 5 (q_sup c.2 F))) ?_ (And.intro (q_vI (by omega) (by decide)) (nm_r (nI_clamp (by omega)) (nm_r ?_ (nm_r (nI_1 i) hk))))
      · rw [q_cu1]
        dsimp only
        rw [q_upd2, q_lit 2, pk_sub (by omega), show F - 2 * i - 2 = F - 2 * (i + 1) by omega]
      · rw [q_c2, q_cu2]
        show q_cH h 0 (_, q_u2 (q_col c.2 i 5 (q_sup c.2 F)) i 5 (q_col c.2 i 5 (q_sup c.2 F) i 5 + 2)) = _
        have e : q_col c.2 i 5 (q_sup c.2 F) i 5 + 2 = q_sup c.2 F i := by
          rw [q_col_ge (Nat.le_refl i)]
          unfold q_sup
          rw [if_pos b]
        rw [e, q_col_s]
def q_gA (g : Nat → Nat → Int32) (n : Nat) : Nat → Nat → Int32 := q_col g n 6 (fun j => g j 6 + 1)
def q_gB (g : Nat → Nat → Int32) (n F : Nat) : Nat → Nat → Int32 := q_col (q_gA g n) n 5 (q_sup (q_gA g n) F)
def q_fB (f : Nat → Int32) (n F : Nat) : Nat → Int32 := upd (upd f 8 (f 8 + 1)) 10 (nI (F - 2 * min n (F / 2)))
theorem q_aL {n F : Nat} {h : g_Hp} {c : q_C} {Q : g_R → g_Hp → Prop} (hN : c.1 2 = nI n) (hn : n ≤ 12) (hF : c.1 10 = nI F) (hF2 : F ≤ 9999) (K : Q (.inl none) (q_cH h 0 (q_fB c.1 n F, q_rows (q_gB c.2 n F) n (q_pk n (q_gB c.2 n F))))) : wX1_passStrikeShift 0 (q_cH h 0 c) Q := by
  unfold wX1_passStrikeShift
  rw [q_c1]
  refine nm_r (q_cu1 _ _ _ _ _) ?_
  have z := q_loop (fun k i => wX1_passStrikeShift_b12_I 0 Q k (nI i) (q_cH h 0 (upd c.1 8 (c.1 8 + 1), q_col c.2 i 6 (fun j => c.2 j 6 + 1)))) n 0 (Nat.zero_le _) (fun k => ?_) (fun k i _ hi hk => ?_)
  · rw [q_col_0] at z
    exact z
  · show wX1_passStrikeShift_b12_B 0 Q _ _ _
    unfold wX1_passStrikeShift_b12_B
    rw [q_c1]
    dsimp only
    rw [pk_un (by decide), hN]
    refine br_t (nI_le (Nat.le_refl _) (by omega)) (q_a2 (n := n) (F := F) ((pk_un (f := c.1) (k := 8) (j := 2) (x := c.1 8 + 1) (by decide)).trans hN) hn ((pk_un (f := c.1) (k := 8) (j := 10) (x := c.1 8 + 1) (by decide)).trans hF) hF2 (q_a3 (n := n) ?_ hn K))
    show upd (upd c.1 8 (c.1 8 + 1)) 10 (nI (F - 2 * min n (F / 2))) 2 = _
    rw [pk_un (by decide), pk_un (by decide), hN]
  · show wX1_passStrikeShift_b12_B 0 Q _ _ _
    unfold wX1_passStrikeShift_b12_B
    rw [q_c1]
    dsimp only
    rw [pk_un (by decide), hN]
    refine br_f (nI_ge hi (by omega)) (And.intro (q_vI (by omega) (by decide)) (nm_r (nI_clamp (by omega)) (nm_r ?_ (nm_r (nI_1 i) hk))))
    rw [q_c2, q_cu2]
    dsimp only
    rw [q_col_ge (Nat.le_refl i)]
    exact congrArg (fun x => q_cH h 0 (upd c.1 8 (c.1 8 + 1), x)) (q_col_s c.2 i 6 (fun j => c.2 j 6 + 1))
