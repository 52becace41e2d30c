/-! ===== vote, callStrike, makeOffer ===== -/
/-- a column of the first i members written anew -/
def q_col (g : Nat → Nat → Int32) (i s0 : Nat) (F : Nat → Int32) : Nat → Nat → Int32 := fun m s => if m < i ∧ s = s0 then F m else g m s
theorem q_col_0 (g : Nat → Nat → Int32) (s0 : Nat) (F : Nat → Int32) : q_col g 0 s0 F = g := by
  funext m s
  exact if_neg (fun q => by omega)
theorem q_col_s (g : Nat → Nat → Int32) (i s0 : Nat) (F : Nat → Int32) : q_u2 (q_col g i s0 F) i s0 (F i) = q_col g (i + 1) s0 F := by
  funext m s
  unfold q_u2 q_col
  by_cases h : m = i ∧ s = s0
  · obtain ⟨rfl, rfl⟩ := h
    rw [if_pos ⟨rfl, rfl⟩, if_pos ⟨by omega, rfl⟩]
  · rw [if_neg h]
    by_cases h2 : m < i ∧ s = s0
    · rw [if_pos h2, if_pos ⟨by omega, h2.2⟩]
    · rw [if_neg h2, if_neg (fun q => by omega)]
theorem q_col_in {g : Nat → Nat → Int32} {i s0 : Nat} {F : Nat → Int32} {m : Nat} (h : m < i) : q_col g i s0 F m s0 = F m := if_pos ⟨h, rfl⟩
theorem q_col_o {g : Nat → Nat → Int32} {i s0 : Nat} {F : Nat → Int32} {m s : Nat} (h : s ≠ s0) : q_col g i s0 F m s = g m s := if_neg (fun q => h q.2)
theorem q_col_ge {g : Nat → Nat → Int32} {i s0 : Nat} {F : Nat → Int32} {m s : Nat} (h : i ≤ m) : q_col g i s0 F m s = g m s := if_neg (fun q => by omega)
/-- a stretch of a row written anew -/
def q_seg (w : Nat → Int32) (a i : Nat) (F : Nat → Int32) : Nat → Int32 := fun k => if a ≤ k ∧ k < a + i then F (k - a) else w k
theorem q_seg_0 (w : Nat → Int32) (a : Nat) (F : Nat → Int32) : q_seg w a 0 F = w := by
  funext k
  exact if_neg (fun q => by omega)
theorem q_seg_s (w : Nat → Int32) (a i : Nat) (F : Nat → Int32) : upd (q_seg w a i F) (a + i) (F i) = q_seg w a (i + 1) F := by
  funext k
  unfold upd q_seg
  by_cases h : k = a + i
  · subst h
    rw [if_pos rfl, if_pos (by omega), Nat.add_sub_cancel_left]
  · rw [if_neg h]
    by_cases h2 : a ≤ k ∧ k < a + i
    · rw [if_pos h2, if_pos (by omega)]
    · rw [if_neg h2, if_neg (by omega)]
theorem q_seg_in {w : Nat → Int32} {a i m : Nat} {F : Nat → Int32} (h : m < i) : q_seg w a i F (a + m) = F m := by
  unfold q_seg
  rw [if_pos (by omega), Nat.add_sub_cancel_left]
theorem q_seg_o {w : Nat → Int32} {a i k : Nat} {F : Nat → Int32} (h : k < a ∨ a + i ≤ k) : q_seg w a i F k = w k := if_neg (fun q => by omega)
theorem q_u2_row {g : Nat → Nat → Int32} {j s : Nat} {x : Int32} : q_u2 g j s x j = upd (g j) s x := by
  funext s'
  unfold q_u2 upd
  by_cases h : s' = s
  · rw [if_pos ⟨rfl, h⟩, if_pos h]
  · rw [if_neg (fun q => h q.2), if_neg h]
theorem q_u2_ro {g : Nat → Nat → Int32} {j s : Nat} {x : Int32} {j' : Nat} (h : j' ≠ j) : q_u2 g j s x j' = g j' := funext fun _ => q_u2_o (fun q => h q.1)
theorem q_col_row {g : Nat → Nat → Int32} {i s0 : Nat} {F : Nat → Int32} {m : Nat} (h : m < i) : q_col g i s0 F m = upd (g m) s0 (F m) := by
  funext s
  unfold q_col upd
  by_cases h2 : s = s0
  · rw [if_pos ⟨h, h2⟩, if_pos h2]
  · rw [if_neg (fun q => h2 q.2), if_neg h2]
/-! vote -/
theorem q_fV1 {m : Int32} {n : Nat} {H : g_Hp} {Q : g_R → g_Hp → Prop} (hN : H 1 0 0 2 = nI n) (hm : m < 0 ∨ nI n ≤ m) (K : Q (.inl (some (vR 20 1 0))) H) : wX1_faultOfVoting 0 m H Q := by
  unfold wX1_faultOfVoting
  exact q_isM0 hN hm (q_n0 rfl K)
theorem q_fV0 {m n : Nat} {H : g_Hp} {Q : g_R → g_Hp → Prop} (hN : H 1 0 0 2 = nI n) (hn : n ≤ 12) (hm : m < n) (K0 : H 1 0 0 7 = 0 → Q (.inl (some (vR 20 0 0))) H) (K3 : ¬ H 1 0 0 7 = 0 → Q (.inl (some (vR 20 3 0))) H) : wX1_faultOfVoting 0 (nI m) H Q := by
  unfold wX1_faultOfVoting
  exact q_isM1 hN hn hm (q_n1 (by decide) ⟨fun c => K0 c, fun c => K3 c⟩)
theorem q_aV {m n : Nat} {p1 is : Int32} {h : g_Hp} {c : q_C} {Q : g_R → g_Hp → Prop} (hN : c.1 2 = nI n) (hn : n ≤ 12) (hm : m < n) (his : is = if p1 = 0 then 2 else 1) (K : Q (.inl (some (vI (nI (q_ct (fun k => decide (q_u2 c.2 m 8 is k 8 = 1)) n))))) (q_cH h 0 (c.1, q_u2 c.2 m 8 is))) : wX1_castVote 0 (nI m) p1 (q_cH h 0 c) Q := by
  have K2 : wX1_castVote_b15 0 Q is m (q_cH h 0 c) := by
    refine nm_r (q_cu2 _ _ _ _ _ _) (q_cVF ((q_c1 _ _ _ _).trans hN) hn ?_)
    simp only [q_c2]
    exact K
  unfold wX1_castVote
  refine And.intro (q_vI (by omega) (by decide)) (nm_r (nI_clamp (by omega)) ⟨fun z => ?_, fun z => ?_⟩)
  · rw [if_pos z] at his
    rw [his] at K2
    exact K2
  · rw [if_neg z] at his
    rw [his] at K2
    exact K2
theorem q_mV1 {m is : Int32} {n : Nat} {h : g_Hp} {w : Nat → Int32} {Q : g_R → g_Hp → Prop} (hN : w 0 = nI n) (hn : n ≤ 12) (hm : m < 0 ∨ nI n ≤ m) (K : Q (.inl (some (vI 0))) (q_mH (g_up h 5 0 0 1 1) 0 w)) : wX8_votes m is (q_mH h 0 w) Q := by
  unfold wX8_votes
  exact q_mM0 ((q_m1 _ _ _ _).trans hN) hn hm (q_n0 rfl (q_fail K))
theorem q_mV0 {m n : Nat} {is : Int32} {h : g_Hp} {w : Nat → Int32} {Q : g_R → g_Hp → Prop} (hN : w 0 = nI n) (hn : n ≤ 12) (hm : m < n) (K0 : ¬ w 4 = 1 → Q (.inl (some (vI (nI (q_ct (fun k => decide (upd w (95 + m) is (95 + k) = 1)) n))))) (q_mH h 0 (upd w (95 + m) is))) (K2 : w 4 = 1 → Q (.inl (some (vI 0))) (q_mH (g_up h 5 0 0 1 2) 0 w)) : wX8_votes (nI m) is (q_mH h 0 w) Q := by
  unfold wX8_votes
  refine q_mM1 ((q_m1 _ _ _ _).trans hN) hn hm (q_n1 (by decide) ?_)
  refine ⟨fun z => ?_, fun z => ?_⟩
  · rw [q_k4, q_m1] at z
    refine And.intro (q_v95 (by omega)) (nm_r (e' := q_mH h 0 (upd w (95 + m) is)) (by rw [q_i95 (by omega), q_mu]) ?_)
    refine q_mCT (n := n) 95 1 ?_ hn (by decide) ?_
    · rw [q_m1, pk_un (by omega), hN]
    · simp only [q_m1]
      exact K0 z
  · rw [q_k4, q_m1] at z
    exact q_fail (K2 z)
theorem q_opV {T : Nat} {c : q_C} {w : Nat → Int32} (hR : q_R T c w) (m p1 is : Int32) (his : is = if p1 = 0 then 2 else 1) : q_OP T c w (wX1_faultOfVoting 0 m) (wX1_castVote 0 m p1) (wX8_votes m is) (q_ka 1 0 2 0 0) := by
  obtain ⟨n, ll, it, ⟨⟨s1, s2, s3, s4, s5, s6, s7, s8, s9, s10, s11, s12, s13, s14, s15, s16, s17⟩, ⟨m1, m2, m3⟩, hL⟩⟩ := hR
  rcases pk_ix m (n := n) (by omega) with e | e | ⟨m, hm, rfl⟩
  · exact Or.inl ⟨1, by decide, by decide, by decide, by decide, fun h Q K => q_fV1 ((q_c1 _ _ _ _).trans s2) (Or.inl e) K, fun h Q K => q_mV1 s3 s1 (Or.inl e) K⟩
  · exact Or.inl ⟨1, by decide, by decide, by decide, by decide, fun h Q K => q_fV1 ((q_c1 _ _ _ _).trans s2) (Or.inr e) K, fun h Q K => q_mV1 s3 s1 (Or.inr e) K⟩
  · rcases s9 with e | e
    · have hw : ∀ k, k ≠ 95 + m → upd w (95 + m) is k = w k := fun k q => pk_un q
      have hcol : ∀ m' s, m' < n → 1 ≤ s → s ≤ 9 → q_u2 c.2 m 8 is m' s = upd w (95 + m) is (12 * s - 1 + m') := fun m' s a b d => by
        by_cases z : m' = m ∧ s = 8
        · obtain ⟨rfl, rfl⟩ := z
          rw [q_u2_s, pk_us]
        · rw [q_u2_o z, hw _ (by omega)]
          exact m1 m' s a b d
      have hct : q_ct (fun k => decide (upd w (95 + m) is (95 + k) = 1)) n = q_ct (fun k => decide (q_u2 c.2 m 8 is k 8 = 1)) n := q_ct_congr (fun k hk => by rw [hcol k 8 hk (by decide) (by decide)])
      refine Or.inr ⟨(c.1, q_u2 c.2 m 8 is), upd w (95 + m) is, _, ⟨n, ll, it, ?_, ⟨hcol, fun m' s a b d f => ?_, fun m' hm' => ?_⟩, q_RL_w (fun k hk => hw k (by omega)) (q_RL_g (fun m' hm' => ⟨q_u2_o (by omega), q_u2_o (by omega)⟩) hL)⟩, fun h Q K => q_fV0 ((q_c1 _ _ _ _).trans s2) s1 hm (fun _ => K) (fun z => absurd ((q_c1 _ _ _ _).trans (s8.trans e)) z), fun h Q K => q_aV s2 s1 hm his K, fun h Q K => q_mV0 s3 s1 hm (fun _ => by rw [hct]; exact K) (fun z => by rw [e] at z; cases z)⟩
      · show q_RS 0 0 n c.1 _
        unfold q_RS
        rw [hw 0 (by omega), hw 1 (by omega), hw 2 (by omega), hw 3 (by omega), hw 4 (by omega), hw 5 (by omega), hw 6 (by omega), hw 7 (by omega), hw 8 (by omega), hw 9 (by omega), hw 10 (by omega)]
        exact ⟨s1, s2, s3, s4, s5, s6, s7, s8, Or.inl e, s10, s11, s12, s13, s14, s15, s16, s17⟩
      · rw [hw _ (by omega)]
        exact m2 m' s a b d f
      · have g := m3 m' hm'
        by_cases z : m' = m
        · subst z
          obtain ⟨g1, g2, g3, g4, g5, g6, g7, g8⟩ := g
          show q_RG T (q_u2 c.2 m' 8 is m')
          rw [q_u2_row]
          refine ⟨g1, g2, g3, g4, g5, g6, ?_, g8⟩
          show is = 0 ∨ is = 1 ∨ is = 2
          rw [his]
          split
          · exact Or.inr (Or.inr rfl)
          · exact Or.inr (Or.inl rfl)
        · show q_RG T (q_u2 c.2 m 8 is m')
          rw [show q_u2 c.2 m 8 is m' = c.2 m' from funext fun s => q_u2_o (fun q => z q.1)]
          exact g
    · refine Or.inl ⟨3, by decide, by decide, by decide, by decide, fun h Q K => q_fV0 ((q_c1 _ _ _ _).trans s2) s1 hm (fun z => ?_) (fun _ => K), fun h Q K => q_mV0 s3 s1 hm (fun z => absurd e z) (fun _ => K)⟩
      rw [q_c1, s8, e] at z
      cases z
