/-! a shift without a strike -/
def q_sm (f : Nat → Nat) : Nat → Nat
  | 0 => 0
  | i + 1 => q_sm f i + f i
theorem q_sm_le {f : Nat → Nat} : ∀ {n : Nat}, (∀ i, i < n → f i ≤ 4) → q_sm f n ≤ 4 * n
  | 0, _ => Nat.le_refl 0
  | n + 1, h => by
    have := q_sm_le (n := n) (fun i hi => h i (by omega))
    have := h n (by omega)
    show q_sm f n + f n ≤ _
    omega
/-- rows of the first i members new -/
def q_rows (g : Nat → Nat → Int32) (i : Nat) (R : Nat → Nat → Int32) : Nat → Nat → Int32 := fun j => if j < i then R j else g j
theorem q_rows_0 (g R : Nat → Nat → Int32) : q_rows g 0 R = g := funext fun j => if_neg (Nat.not_lt_zero j)
theorem q_rows_lt {g R : Nat → Nat → Int32} {i j : Nat} (h : j < i) : q_rows g i R j = R j := if_pos h
theorem q_rows_ge {g R : Nat → Nat → Int32} {i j : Nat} (h : i ≤ j) : q_rows g i R j = g j := if_neg (by omega)
theorem q_rows_s {g R : Nat → Nat → Int32} {i : Nat} : q_setr (q_rows g i R) i (R i) = q_rows g (i + 1) R := by
  funext j s
  unfold q_setr q_rows
  by_cases e : j = i
  · subst e
    rw [if_pos rfl, if_pos (by omega)]
  · rw [if_neg e]
    by_cases z : j < i
    · rw [if_pos z, if_pos (by omega)]
    · rw [if_neg z, if_neg (by omega)]
theorem q_rows_e {g R : Nat → Nat → Int32} {i : Nat} : q_rows g i R = q_setr (q_rows g i R) i (g i) := by
  have := q_setr_0 (q_rows g i R) i
  rw [q_rows_ge (Nat.le_refl i)] at this
  exact this.symm
def q_wr (d sp : Int32) (R : Nat → Int32) : Nat → Int32 := if sp < 1 then upd R 3 d else upd (upd R 3 d) 4 (R 4 + R 2)
theorem q_aK {n d : Nat} {b : Nat → Nat} {h : g_Hp} {c : q_C} {Q : g_R → g_Hp → Prop} (hN : c.1 2 = nI n) (hn : n ≤ 12) (hd : d < 8) (h3 : c.1 3 = nI d) (hb : ∀ j, j < n → b j < 8 ∧ c.2 j 3 = nI (b j)) (K : Q (.inl (some (vI (nI (q_sm (fun j => q_far (b j) d) n))))) (q_cH h 0 (c.1, q_rows c.2 n (fun j => q_wr (nI d) (c.1 4) (c.2 j))))) : wX1_passWorkShift 0 (q_cH h 0 c) Q := by
  have hsm : ∀ i, i ≤ n → q_sm (fun j => q_far (b j) d) i ≤ 4 * i := fun i hi => q_sm_le (fun j hj => q_far_le (hb j (by omega)).1 hd)
  have z := q_loop (fun k i => wX1_passWorkShift_b4_I 0 Q k (nI (q_sm (fun j => q_far (b j) d) i)) (nI i) (q_cH h 0 (c.1, q_rows c.2 i (fun j => q_wr (nI d) (c.1 4) (c.2 j))))) n 0 (Nat.zero_le _) (fun k => ?_) (fun k i _ hi hk => ?_)
  · rw [q_rows_0] at z
    exact z
  · show wX1_passWorkShift_b4_B 0 Q _ _ _ _
    unfold wX1_passWorkShift_b4_B
    rw [q_c1]
    show ((c.1 2 ≤ _) → _) ∧ _
    rw [hN]
    exact br_t (nI_le (Nat.le_refl _) (by omega)) K
  · show wX1_passWorkShift_b4_B 0 Q _ _ _ _
    unfold wX1_passWorkShift_b4_B
    rw [q_c1]
    show ((c.1 2 ≤ _) → _) ∧ _
    rw [hN]
    refine br_f (nI_ge hi (by omega)) (And.intro (q_vI (by omega) (by decide)) (nm_r (nI_clamp (by omega)) ?_))
    rw [q_c1, q_c2]
    dsimp only
    rw [q_rows_ge (Nat.le_refl i), (hb i hi).2, h3]
    refine q_stB (hb i hi).1 hd (nm_r (nI_add _ _) ?_)
    rw [q_rows_e]
    refine nm_r (e' := q_cH h 0 (c.1, q_setr (q_rows c.2 i (fun j => q_wr (nI d) (c.1 4) (c.2 j))) i (upd (c.2 i) 3 (nI d)))) (by rw [q_c1]; show g_up _ 2 0 i 3 (c.1 3) = _; rw [h3, q_cus]) ?_
    rw [q_c1]
    show ((c.1 4 < _) → _) ∧ _
    refine ⟨fun a => nm_r (nI_1 i) ?_, fun a => ?_⟩
    · have e : upd (c.2 i) 3 (nI d) = q_wr (nI d) (c.1 4) (c.2 i) := (if_pos a).symm
      rw [e, q_rows_s]
      exact hk
    · refine nm_r (e' := q_cH h 0 (c.1, q_setr (q_rows c.2 i (fun j => q_wr (nI d) (c.1 4) (c.2 j))) i (upd (upd (c.2 i) 3 (nI d)) 4 (c.2 i 4 + c.2 i 2)))) ?_ (nm_r (nI_1 i) ?_)
      · rw [q_c2, q_c2]
        dsimp only
        rw [q_setr_s, q_setr_s, pk_un (by decide), pk_un (by decide), q_cus]
      · have e : upd (upd (c.2 i) 3 (nI d)) 4 (c.2 i 4 + c.2 i 2) = q_wr (nI d) (c.1 4) (c.2 i) := (if_neg a).symm
        rw [e, q_rows_s]
        exact hk
/-- the model's row behind the first i members' shift -/
def q_wv (w : Nat → Int32) (j : Nat) : Int32 := if w 2 ≤ 0 then 0 else w (23 + j)
def q_ww (w : Nat → Int32) (i : Nat) (S : Int32) : Nat → Int32 := fun k => if k = 9 then w 9 + S else if 35 ≤ k ∧ k < 35 + i then w 1 else if 47 ≤ k ∧ k < 47 + i then w k + q_wv w (k - 47) else w k
theorem q_ww_0 (w : Nat → Int32) : q_ww w 0 0 = w := by
  funext k
  unfold q_ww
  by_cases h : k = 9
  · subst h
    rw [if_pos rfl, Int32.add_zero]
  · rw [if_neg h, if_neg (by omega), if_neg (by omega)]
theorem q_ww_s {w : Nat → Int32} {i : Nat} {S s : Int32} (hi : i < 12) : upd (upd (upd (q_ww w i S) 9 (w 9 + S + s)) (35 + i) (w 1)) (47 + i) (w (47 + i) + q_wv w i) = q_ww w (i + 1) (S + s) := by
  funext k
  unfold upd q_ww
  by_cases a : k = 47 + i
  · subst a
    rw [if_pos rfl, if_neg (show ¬ 47 + i = 9 by omega), if_neg (show ¬ (35 ≤ 47 + i ∧ 47 + i < 35 + (i + 1)) by omega), if_pos (show 47 ≤ 47 + i ∧ 47 + i < 47 + (i + 1) by omega), show 47 + i - 47 = i by omega]
  · rw [if_neg a]
    by_cases b : k = 35 + i
    · subst b
      rw [if_pos rfl, if_neg (show ¬ 35 + i = 9 by omega), if_pos (show 35 ≤ 35 + i ∧ 35 + i < 35 + (i + 1) by omega)]
    · rw [if_neg b]
      by_cases d : k = 9
      · subst d
        rw [if_pos rfl, if_pos rfl, Int32.add_assoc]
      · rw [if_neg d, if_neg d, if_neg d]
        by_cases e : 35 ≤ k ∧ k < 35 + i
        · rw [if_pos e, if_pos (show 35 ≤ k ∧ k < 35 + (i + 1) by omega)]
        · rw [if_neg e, if_neg (show ¬ (35 ≤ k ∧ k < 35 + (i + 1)) by omega)]
          by_cases f : 47 ≤ k ∧ k < 47 + i
          · rw [if_pos f, if_pos (show 47 ≤ k ∧ k < 47 + (i + 1) by omega)]
          · rw [if_neg f, if_neg (show ¬ (47 ≤ k ∧ k < 47 + (i + 1)) by omega)]
theorem q_ww_o {w : Nat → Int32} {i : Nat} {S : Int32} {k : Nat} (h9 : k ≠ 9) (h1 : k < 35 ∨ 35 + i ≤ k) (h2 : k < 47 ∨ 47 + i ≤ k) : q_ww w i S k = w k := by
  unfold q_ww
  rw [if_neg h9, if_neg (by omega), if_neg (by omega)]
theorem q_mK {n d : Nat} {b : Nat → Nat} {h : g_Hp} {w : Nat → Int32} {Q : g_R → g_Hp → Prop} (hN : w 0 = nI n) (hn : n ≤ 12) (hd : d < 8) (h1 : w 1 = nI d) (hb : ∀ j, j < n → b j < 8 ∧ w (35 + j) = nI (b j)) (K : Q (.inl none) (q_mH h 0 (q_ww w n (nI (q_sm (fun j => q_far (b j) d) n))))) : wX8_works (q_mH h 0 w) Q := by
  have z := q_loop (fun k i => wX8_works_b2_I Q k (nI i) (q_mH h 0 (q_ww w i (nI (q_sm (fun j => q_far (b j) d) i))))) n 0 (Nat.zero_le _) (fun k => ?_) (fun k i _ hi hk => ?_)
  · have e : q_ww w 0 (nI (q_sm (fun j => q_far (b j) d) 0)) = w := q_ww_0 w
    rw [e] at z
    exact z
  · show wX8_works_b2_B Q _ _ _
    unfold wX8_works_b2_B
    rw [q_k0, q_m1, q_ww_o (by decide) (by omega) (by omega), hN]
    exact br_t (nI_le (Nat.le_refl _) (by omega)) K
  · have hW : ∀ S, ∀ k, k ≠ 9 → (k < 35 ∨ 35 + i ≤ k) → (k < 47 ∨ 47 + i ≤ k) → q_ww w i S k = w k := fun S k a b d => q_ww_o a b d
    have h9 : ∀ S, q_ww w i S 9 = w 9 + S := fun S => if_pos rfl
    show wX8_works_b2_B Q _ _ _
    unfold wX8_works_b2_B
    rw [q_k0, q_m1, hW _ 0 (by decide) (by omega) (by omega), hN]
    refine br_f (nI_ge hi (by omega)) (And.intro (q_v35 (by omega)) ?_)
    rw [q_i35 (by omega), q_k1, q_m1, q_m1, hW _ (35 + i) (by omega) (by omega) (by omega), hW _ 1 (by decide) (by omega) (by omega), (hb i hi).2, h1]
    refine q_mfar (hb i hi).1 hd ?_
    rw [q_k9, q_m1, h9]
    refine nm_r (q_mu _ _ _ _ _) (And.intro (q_v35 (by omega)) (nm_r (e' := q_mH h 0 (upd (upd (q_ww w i (nI (q_sm (fun j => q_far (b j) d) i))) 9 (w 9 + nI (q_sm (fun j => q_far (b j) d) i) + nI (q_far (b i) d))) (35 + i) (w 1))) ?_ (And.intro (q_v47 (by omega)) ?_)))
    · rw [q_m1, q_mu, pk_un (by decide), hW _ 1 (by decide) (by omega) (by omega)]
    · rw [q_k2, q_m1, pk_un (by omega), pk_un (by omega), hW _ 2 (by decide) (by omega) (by omega), q_i47 (by omega), q_m1, pk_un (by omega), pk_un (by omega), hW _ (47 + i) (by omega) (by omega) (by omega)]
      have key : ∀ x : Int32, x = q_wv w i → wX8_works_b87 Q (wX8_works_b2_I Q k) (nI i) x (w (47 + i)) ((47 : Int32) + nI i) (q_mH h 0 (upd (upd (q_ww w i (nI (q_sm (fun j => q_far (b j) d) i))) 9 (w 9 + nI (q_sm (fun j => q_far (b j) d) i) + nI (q_far (b i) d))) (35 + i) (w 1))) := fun x hx => by
        unfold wX8_works_b87
        refine And.intro (q_v47 (by omega)) (nm_r ?_ (nm_r (nI_1 i) hk))
        rw [q_i47 (by omega), q_mu, hx, q_ww_s (by omega), nI_add]
        rfl
      refine ⟨fun a => key 0 (if_pos a).symm, fun a => And.intro (q_v23 (by omega)) ?_⟩
      rw [q_i23 (by omega), q_m1, pk_un (by omega), pk_un (by omega), hW _ (23 + i) (by omega) (by omega) (by omega)]
      exact key _ (if_neg a).symm
theorem q_rK {T n d : Nat} {st sh : Int32} {ll : Nat → Nat} {it : Nat → Nat → Nat} {b : Nat → Nat} {c : q_C} {w : Nat → Int32} (hT : 99 * (T + 1) < 2 ^ 31) (hd : d < 8) (h1 : w 1 = nI d) (hb : ∀ j, j < n → b j < 8 ∧ c.2 j 3 = nI (b j)) (hB : q_RB T st sh n ll it c w) : q_RB (T + 1) (st + nI (q_sm (fun j => q_far (b j) d) n)) (sh + 1) n ll it (c.1, q_rows c.2 n (fun j => q_wr (nI d) (c.1 4) (c.2 j))) (q_ww (upd w 3 (w 3 + 1)) n (nI (q_sm (fun j => q_far (b j) d) n))) := by
  obtain ⟨⟨s1, s2, s3, s4, s5, s6, s7, s8, s9, s10, s11, s12, s13, s14, s15, s16, s17⟩, ⟨m1, m2, m3⟩, hL⟩ := hB
  have hW : ∀ k, k ≠ 3 → k ≠ 9 → (k < 35 ∨ 35 + n ≤ k) → (k < 47 ∨ 47 + n ≤ k) → q_ww (upd w 3 (w 3 + 1)) n (nI (q_sm (fun j => q_far (b j) d) n)) k = w k := fun k a0 a b d => by rw [q_ww_o a b d, pk_un a0]
  have hwr : ∀ R : Nat → Int32, ∀ s, s ≠ 3 → s ≠ 4 → q_wr (nI d) (c.1 4) R s = R s := fun R s a b => by
    unfold q_wr
    split
    · rw [pk_un a]
    · rw [pk_un b, pk_un a]
  have hwr3 : ∀ R : Nat → Int32, q_wr (nI d) (c.1 4) R 3 = nI d := fun R => by
    unfold q_wr
    split
    · exact pk_us
    · rw [pk_un (by decide), pk_us]
  have hwr4 : ∀ R : Nat → Int32, q_wr (nI d) (c.1 4) R 4 = R 4 + (if w 2 ≤ 0 then 0 else R 2) := fun R => by
    unfold q_wr
    rw [s5]
    by_cases z : w 2 ≤ 0
    · rw [if_pos z, if_pos (by rw [Int32.lt_iff_toInt_lt]; rw [Int32.le_iff_toInt_le] at z; have : (0 : Int32).toInt = 0 := by decide
                               have : (1 : Int32).toInt = 1 := by decide
                               omega), pk_un (by decide), Int32.add_zero]
    · rw [if_neg z, if_neg (by rw [Int32.lt_iff_toInt_lt]; rw [Int32.le_iff_toInt_le] at z; have : (0 : Int32).toInt = 0 := by decide
                               have : (1 : Int32).toInt = 1 := by decide
                               omega), pk_us]
  refine ⟨?_, ⟨fun m s a b' d' => ?_, fun m s a b' d' e => ?_, fun m hm => ?_⟩, q_RL_w (fun k hk => hW k (by omega) (by omega) (by omega) (by omega)) (q_RL_g (g' := q_rows c.2 n (fun j => q_wr (nI d) (c.1 4) (c.2 j))) (fun m hm => ?_) hL)⟩
  · show q_RS _ _ n c.1 _
    unfold q_RS
    have e3 : q_ww (upd w 3 (w 3 + 1)) n (nI (q_sm (fun j => q_far (b j) d) n)) 3 = w 3 + 1 := by rw [q_ww_o (by decide) (by omega) (by omega), pk_us]
    have e9 : q_ww (upd w 3 (w 3 + 1)) n (nI (q_sm (fun j => q_far (b j) d) n)) 9 = w 9 + nI (q_sm (fun j => q_far (b j) d) n) := by
      unfold q_ww
      rw [if_pos rfl, pk_un (by decide)]
    rw [e3, e9, hW 0 (by omega) (by omega) (by omega) (by omega), hW 1 (by omega) (by omega) (by omega) (by omega), hW 2 (by omega) (by omega) (by omega) (by omega), hW 4 (by omega) (by omega) (by omega) (by omega), hW 5 (by omega) (by omega) (by omega) (by omega), hW 6 (by omega) (by omega) (by omega) (by omega), hW 7 (by omega) (by omega) (by omega) (by omega), hW 8 (by omega) (by omega) (by omega) (by omega), hW 10 (by omega) (by omega) (by omega) (by omega)]
    exact ⟨s1, s2, s3, s4, s5, by rw [s6, Int32.add_assoc], by rw [s7, Int32.add_assoc], s8, s9, s10, s11, s12, s13, s14, s15, s16, s17⟩
  · show q_rows c.2 n (fun j => q_wr (nI d) (c.1 4) (c.2 j)) m s = _
    rw [q_rows_lt a]
    by_cases y3 : s = 3
    · subst y3
      rw [hwr3]
      unfold q_ww
      rw [if_neg (by omega), if_pos (by omega), pk_un (by decide), h1]
    · by_cases y4 : s = 4
      · subst y4
        rw [hwr4]
        unfold q_ww
        rw [if_neg (show ¬ 12 * 4 - 1 + m = 9 by omega), if_neg (show ¬ (35 ≤ 12 * 4 - 1 + m ∧ 12 * 4 - 1 + m < 35 + n) by omega), if_pos (show 47 ≤ 12 * 4 - 1 + m ∧ 12 * 4 - 1 + m < 47 + n by omega), pk_un (by omega), show 12 * 4 - 1 + m - 47 = m by omega, m1 m 4 a (by decide) (by decide), m1 m 2 a (by decide) (by decide)]
        unfold q_wv
        rw [pk_un (by decide), pk_un (by omega)]
      · rw [hwr _ s y3 y4, hW _ (by omega) (by omega) (by omega) (by omega)]
        exact m1 m s a b' d'
  · rw [hW _ (by omega) (by omega) (by omega) (by omega)]
    exact m2 m s a b' d' e
  · show q_RG (T + 1) (q_rows c.2 n (fun j => q_wr (nI d) (c.1 4) (c.2 j)) m)
    rw [q_rows_lt hm]
    obtain ⟨g1, ⟨x2, hx2, g2⟩, g3, ⟨x4, hx4, g4⟩, ⟨x5, hx5, g5⟩, ⟨x6, hx6, g6⟩, g7, g8⟩ := m3 m hm
    unfold q_RG
    rw [hwr _ 1 (by decide) (by decide), hwr _ 2 (by decide) (by decide), hwr3, hwr4, hwr _ 5 (by decide) (by decide), hwr _ 6 (by decide) (by decide), hwr _ 8 (by decide) (by decide), hwr _ 9 (by decide) (by decide)]
    refine ⟨g1, ⟨x2, hx2, g2⟩, ⟨d, hd, rfl⟩, ?_, ⟨x5, by omega, g5⟩, ⟨x6, by omega, g6⟩, g7, g8⟩
    split
    · exact ⟨x4, by omega, by rw [Int32.add_zero]; exact g4⟩
    · exact ⟨x4 + x2, by omega, by rw [g4, g2, nI_add]⟩
  · show q_rows c.2 n (fun j => q_wr (nI d) (c.1 4) (c.2 j)) m 10 = _ ∧ q_rows c.2 n (fun j => q_wr (nI d) (c.1 4) (c.2 j)) m 11 = _
    rw [q_rows_lt hm]
    exact ⟨hwr _ 10 (by decide) (by decide), hwr _ 11 (by decide) (by decide)⟩
