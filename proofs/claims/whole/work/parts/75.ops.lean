/-! callStrike -/
theorem q_fS3 {H : g_Hp} {Q : g_R → g_Hp → Prop} (h7 : ¬ H 1 0 0 7 = 0) (K : Q (.inl (some (vR 20 3 0))) H) : wX1_faultOfStriking 0 H Q := by
  unfold wX1_faultOfStriking
  exact br_f h7 K
theorem q_fS0 {n : Nat} {H : g_Hp} {Q : g_R → g_Hp → Prop} (hN : H 1 0 0 2 = nI n) (hn : n ≤ 12) (h7 : H 1 0 0 7 = 0) (K0 : n < 2 * q_ct (fun m => decide (H 2 0 m 8 = 1)) n → Q (.inl (some (vR 20 0 0))) H) (K4 : 2 * q_ct (fun m => decide (H 2 0 m 8 = 1)) n ≤ n → Q (.inl (some (vR 20 4 0))) H) : wX1_faultOfStriking 0 H Q := by
  have hle := q_ct_le (fun m => decide (H 2 0 m 8 = 1)) n
  unfold wX1_faultOfStriking
  refine br_t h7 (q_cVF hN hn ?_)
  show (((2 : Int32) * nI _ ≤ H 1 0 0 2) → _) ∧ _
  rw [hN, q_lit 2, pk_mul]
  exact pk_le _ _ (fun c => K4 c) (fun c => K0 c)
theorem q_aS {n : Nat} {h : g_Hp} {c : q_C} {Q : g_R → g_Hp → Prop} (hN : c.1 2 = nI n) (hn : n ≤ 12) (K : Q (.inl (some (vI (c.1 9 + 1)))) (q_cH h 0 (upd (upd (upd c.1 7 1) 8 0) 9 (c.1 9 + 1), q_col c.2 n 8 (fun _ => 0)))) : wX1_beginStrike 0 (q_cH h 0 c) Q := by
  have z := q_loop (fun k i => wX1_beginStrike_b2_I 0 Q k (nI i) (q_cH h 0 (c.1, q_col c.2 i 8 (fun _ => 0)))) n 0 (Nat.zero_le _) (fun k => ?_) (fun k i _ hi hk => ?_)
  · rw [q_col_0] at z
    exact z
  · show wX1_beginStrike_b2_B 0 Q _ _ _
    unfold wX1_beginStrike_b2_B
    rw [q_c1]
    show ((c.1 2 ≤ _) → _) ∧ _
    rw [hN]
    refine br_t (nI_le (Nat.le_refl _) (by omega)) (nm_r (q_cu1 _ _ _ _ _) (nm_r (q_cu1 _ _ _ _ _) (nm_r (q_cu1 _ _ _ _ _) ?_)))
    rw [q_c1]
    exact K
  · show wX1_beginStrike_b2_B 0 Q _ _ _
    unfold wX1_beginStrike_b2_B
    rw [q_c1]
    show ((c.1 2 ≤ _) → _) ∧ _
    rw [hN]
    refine br_f (nI_ge hi (by omega)) (And.intro (q_vI (by omega) (by decide)) (nm_r (nI_clamp (by omega)) (nm_r ?_ (nm_r (nI_1 i) hk))))
    rw [q_cu2]
    exact congrArg (fun x => q_cH h 0 (c.1, x)) (q_col_s c.2 i 8 (fun _ => 0))
theorem q_mS1 {h : g_Hp} {w : Nat → Int32} {Q : g_R → g_Hp → Prop} (h4 : w 4 = 1) (K : Q (.inl (some (vI 0))) (q_mH (g_up h 5 0 0 1 1) 0 w)) : wX8_starts (q_mH h 0 w) Q := by
  unfold wX8_starts
  exact q_n0 (by rw [q_k4, q_m1]; exact h4) (q_fail K)
theorem q_mS0 {n : Nat} {h : g_Hp} {w : Nat → Int32} {Q : g_R → g_Hp → Prop} (hN : w 0 = nI n) (hn : n ≤ 12) (h4 : ¬ w 4 = 1) (K0 : n < 2 * q_ct (fun m => decide (w (95 + m) = 1)) n → Q (.inl (some (vI (w 5 + 1)))) (q_mH h 0 (upd (upd (upd (q_seg w 95 12 (fun _ => 0)) 4 1) 6 0) 5 (w 5 + 1)))) (K2 : 2 * q_ct (fun m => decide (w (95 + m) = 1)) n ≤ n → Q (.inl (some (vI 0))) (q_mH (g_up h 5 0 0 1 2) 0 w)) : wX8_starts (q_mH h 0 w) Q := by
  have hle := q_ct_le (fun m => decide (w (95 + m) = 1)) n
  unfold wX8_starts
  refine q_n1 (by rw [q_k4, q_m1]; exact h4) ?_
  refine q_mCT (n := n) 95 1 ((q_m1 _ _ _ _).trans hN) hn (by decide) ?_
  simp only [q_m1]
  show ((q_mH h 0 w 13 0 0 ((0 : Int32).toNatClampNeg + 1) < (2 : Int32) * nI _) → _) ∧ _
  rw [q_k0, q_m1, hN, q_lit 2, pk_mul]
  refine pk_lt _ _ (fun cc => ?_) (fun cc => q_fail (K2 cc))
  have z := q_loop (fun k i => wX8_starts_b42_I Q k (nI i) (q_mH h 0 (q_seg w 95 i (fun _ => 0)))) 12 0 (Nat.zero_le _) (fun k => ?_) (fun k i _ hi hk => ?_)
  · rw [q_seg_0] at z
    exact z
  · show wX8_starts_b42_B Q _ _ _
    unfold wX8_starts_b42_B
    refine br_t (nI_le (a := 12) (Nat.le_refl _) (by omega)) (nm_r (q_mu _ _ _ _ _) (nm_r (q_mu _ _ _ _ _) (nm_r (e' := q_mH h 0 (upd (upd (upd (q_seg w 95 12 (fun _ => 0)) 4 1) 6 0) 5 (w 5 + 1))) ?_ ?_)))
    · rw [q_k4, q_k5, q_k6, q_m1, q_mu, pk_un (by decide), pk_un (by decide), q_seg_o (by omega)]
    · rw [q_k5, q_m1, pk_us]
      exact K0 cc
  · show wX8_starts_b42_B Q _ _ _
    unfold wX8_starts_b42_B
    refine br_f (nI_ge (b := 12) hi (by decide)) (And.intro (q_v95 (by omega)) (nm_r ?_ (nm_r (nI_1 i) hk)))
    rw [q_i95 (by omega), q_mu]
    exact congrArg (fun x => q_mH h 0 x) (q_seg_s w 95 i (fun _ => 0))
theorem q_opS {T : Nat} {c : q_C} {w : Nat → Int32} (hR : q_R T c w) : q_OP T c w (wX1_faultOfStriking 0) (wX1_beginStrike 0) wX8_starts (q_ka 0 0 1 2 0) := by
  obtain ⟨n, ll, it, ⟨⟨s1, s2, s3, s4, s5, s6, s7, s8, s9, s10, s11, s12, s13, s14, s15, s16, s17⟩, ⟨m1, m2, m3⟩, hL⟩⟩ := hR
  have hct : q_ct (fun m => decide (w (95 + m) = 1)) n = q_ct (fun m => decide (c.2 m 8 = 1)) n := q_ct_congr (fun k hk => by rw [m1 k 8 hk (by decide) (by decide)])
  rcases s9 with e | e
  · have e7 : ∀ h, q_cH h 0 c 1 0 0 7 = 0 := fun h => (q_c1 _ _ _ _).trans (s8.trans e)
    have e4 : ¬ w 4 = 1 := by rw [e]; decide
    by_cases z : n < 2 * q_ct (fun m => decide (c.2 m 8 = 1)) n
    · have hw : ∀ k, k ≠ 4 → k ≠ 5 → k ≠ 6 → (k < 95 ∨ 107 ≤ k) → upd (upd (upd (q_seg w 95 12 (fun _ => 0)) 4 1) 6 0) 5 (w 5 + 1) k = w k := fun k a b d f => by
        rw [pk_un b, pk_un d, pk_un a, q_seg_o (by omega)]
      have hv : ∀ m, m < 12 → upd (upd (upd (q_seg w 95 12 (fun _ => 0)) 4 1) 6 0) 5 (w 5 + 1) (95 + m) = 0 := fun m hm => by
        rw [pk_un (by omega), pk_un (by omega), pk_un (by omega), q_seg_in hm]
      refine Or.inr ⟨(upd (upd (upd c.1 7 1) 8 0) 9 (c.1 9 + 1), q_col c.2 n 8 (fun _ => 0)), upd (upd (upd (q_seg w 95 12 (fun _ => 0)) 4 1) 6 0) 5 (w 5 + 1), c.1 9 + 1, ⟨n, ll, it, ?_, ⟨fun m s a b d => ?_, fun m s a b d f => ?_, fun m hm => ?_⟩, q_RL_w (fun k hk => hw k (by omega) (by omega) (by omega) (by omega)) (q_RL_g (g' := q_col c.2 n 8 (fun _ => 0)) (fun m hm => ⟨q_col_o (s := 10) (s0 := 8) (by decide), q_col_o (s := 11) (s0 := 8) (by decide)⟩) hL)⟩, fun h Q K => q_fS0 ((q_c1 _ _ _ _).trans s2) s1 (e7 h) (fun _ => K) (fun y => ?_), fun h Q K => q_aS s2 s1 K, fun h Q K => q_mS0 s3 s1 e4 (fun _ => by rw [s11] at K; exact K) (fun y => by rw [hct] at y; omega)⟩
      · show q_RS 0 0 n _ _
        unfold q_RS
        rw [hw 0 (by omega) (by omega) (by omega) (by omega), hw 1 (by omega) (by omega) (by omega) (by omega), hw 2 (by omega) (by omega) (by omega) (by omega), hw 3 (by omega) (by omega) (by omega) (by omega), hw 7 (by omega) (by omega) (by omega) (by omega), hw 8 (by omega) (by omega) (by omega) (by omega), hw 9 (by omega) (by omega) (by omega) (by omega), hw 10 (by omega) (by omega) (by omega) (by omega)]
        exact ⟨s1, s2, s3, s4, s5, s6, s7, rfl, Or.inr rfl, fun _ => rfl, congrArg (· + 1) s11, s12, s13, s14, s15, s16, s17⟩
      · show q_col c.2 n 8 (fun _ => 0) m s = _
        by_cases y : s = 8
        · subst y
          rw [q_col_in a, hv m (by omega)]
        · rw [q_col_o y, hw _ (by omega) (by omega) (by omega) (by omega)]
          exact m1 m s a b d
      · by_cases y : s = 8
        · subst y
          exact hv m b
        · rw [hw _ (by omega) (by omega) (by omega) (by omega)]
          exact m2 m s a b d f
      · show q_RG T (q_col c.2 n 8 (fun _ => 0) m)
        rw [q_col_row hm]
        obtain ⟨g1, g2, g3, g4, g5, g6, g7, g8⟩ := m3 m hm
        exact ⟨g1, g2, g3, g4, g5, g6, Or.inl rfl, g8⟩
      · simp only [q_c2] at y
        omega
    · refine Or.inl ⟨4, by decide, by decide, by decide, by decide, fun h Q K => q_fS0 ((q_c1 _ _ _ _).trans s2) s1 (e7 h) (fun y => ?_) (fun _ => K), fun h Q K => q_mS0 s3 s1 e4 (fun y => by rw [hct] at y; omega) (fun _ => K)⟩
      simp only [q_c2] at y
      omega
  · exact Or.inl ⟨3, by decide, by decide, by decide, by decide, fun h Q K => q_fS3 (by rw [q_c1, s8, e]; decide) K, fun h Q K => q_mS1 e K⟩
/-! makeOffer -/
theorem q_fO1 {p : Int32} {H : g_Hp} {Q : g_R → g_Hp → Prop} (hp : p < nI 1 ∨ nI 50 < p) (K : Q (.inl (some (vR 20 2 0))) H) : wX1_faultOfOffering 0 p H Q := by
  unfold wX1_faultOfOffering
  rcases hp with c | c
  · exact br_t c K
  · exact ⟨fun _ => K, fun _ => br_f (q_nle c) K⟩
theorem q_fO0 {p : Nat} {H : g_Hp} {Q : g_R → g_Hp → Prop} (h1 : 1 ≤ p) (h2 : p ≤ 50) (K0 : ¬ H 1 0 0 7 = 0 → Q (.inl (some (vR 20 0 0))) H) (K3 : H 1 0 0 7 = 0 → Q (.inl (some (vR 20 3 0))) H) : wX1_faultOfOffering 0 (nI p) H Q := by
  unfold wX1_faultOfOffering
  exact br_f (nI_nlt (b := 1) h1 (by omega)) (br_t (nI_le (b := 50) h2 (by decide)) ⟨fun c => K3 c, fun c => K0 c⟩)
theorem q_aO {n : Nat} {p : Int32} {h : g_Hp} {c : q_C} {Q : g_R → g_Hp → Prop} (hN : c.1 2 = nI n) (hn : n ≤ 12) (K : Q (.inl (some (vI (nI (q_ct (fun m => decide (¬ c.2 m 9 = 0)) n))))) (q_cH h 0 (upd c.1 11 p, q_col c.2 n 9 (fun _ => 0)))) : wX1_offer 0 p (q_cH h 0 c) Q := by
  unfold wX1_offer
  refine q_cAC ((q_c1 _ _ _ _).trans hN) hn ?_
  simp only [q_c2]
  have z := q_loop (fun k i => wX1_offer_b7_I 0 Q k p (nI (q_ct (fun m => decide (¬ c.2 m 9 = 0)) n)) (nI i) (q_cH h 0 (c.1, q_col c.2 i 9 (fun _ => 0)))) n 0 (Nat.zero_le _) (fun k => ?_) (fun k i _ hi hk => ?_)
  · rw [q_col_0] at z
    exact z
  · show wX1_offer_b7_B 0 Q _ _ _ _ _
    unfold wX1_offer_b7_B
    rw [q_c1]
    show ((c.1 2 ≤ _) → _) ∧ _
    rw [hN]
    exact br_t (nI_le (Nat.le_refl _) (by omega)) (nm_r (q_cu1 _ _ _ _ _) K)
  · show wX1_offer_b7_B 0 Q _ _ _ _ _
    unfold wX1_offer_b7_B
    rw [q_c1]
    show ((c.1 2 ≤ _) → _) ∧ _
    rw [hN]
    refine br_f (nI_ge hi (by omega)) (And.intro (q_vI (by omega) (by decide)) (nm_r (nI_clamp (by omega)) (nm_r ?_ (nm_r (nI_1 i) hk))))
    rw [q_cu2]
    exact congrArg (fun x => q_cH h 0 (c.1, x)) (q_col_s c.2 i 9 (fun _ => 0))
theorem q_mO1 {p : Int32} {h : g_Hp} {w : Nat → Int32} {Q : g_R → g_Hp → Prop} (hp : p < nI 1 ∨ nI 50 < p) (K : Q (.inl (some (vI 0))) (q_mH (g_up h 5 0 0 1 1) 0 w)) : wX8_offers p (q_mH h 0 w) Q := by
  unfold wX8_offers
  exact q_isI0 hp (q_n0 rfl (q_fail K))
theorem q_mO0 {n p : Nat} {h : g_Hp} {w : Nat → Int32} {Q : g_R → g_Hp → Prop} (hN : w 0 = nI n) (hn : n ≤ 12) (h1 : 1 ≤ p) (h2 : p ≤ 50) (K0 : ¬ w 4 = 0 → Q (.inl (some (vI (nI (q_ct (fun m => decide (w (107 + m) = 1)) n))))) (q_mH h 0 (upd (q_seg w 107 12 (fun _ => 0)) 8 (nI p)))) (K2 : w 4 = 0 → Q (.inl (some (vI 0))) (q_mH (g_up h 5 0 0 1 2) 0 w)) : wX8_offers (nI p) (q_mH h 0 w) Q := by
  unfold wX8_offers
  refine q_isIn (lo := 1) (hi := 50) rfl rfl h1 h2 (by decide) (q_n1 (by decide) ?_)
  rw [q_k4, q_m1]
  refine ⟨fun cc => ?_, fun cc => q_fail (K2 cc)⟩
  refine q_mCT (n := n) 107 1 ((q_m1 _ _ _ _).trans hN) hn (by decide) ?_
  simp only [q_m1]
  have z := q_loop (fun k i => wX8_offers_b41_I Q k (nI p) (nI (q_ct (fun m => decide (w (107 + m) = 1)) n)) (nI i) (q_mH h 0 (q_seg w 107 i (fun _ => 0)))) 12 0 (Nat.zero_le _) (fun k => ?_) (fun k i _ hi hk => ?_)
  · rw [q_seg_0] at z
    exact z
  · show wX8_offers_b41_B Q _ _ _ _ _
    unfold wX8_offers_b41_B
    exact br_t (nI_le (a := 12) (Nat.le_refl _) (by omega)) (nm_r (q_mu _ _ _ _ _) (K0 cc))
  · show wX8_offers_b41_B Q _ _ _ _ _
    unfold wX8_offers_b41_B
    refine br_f (nI_ge (b := 12) hi (by decide)) (And.intro (q_v107 (by omega)) (nm_r ?_ (nm_r (nI_1 i) hk)))
    rw [q_i107 (by omega), q_mu]
    exact congrArg (fun x => q_mH h 0 x) (q_seg_s w 107 i (fun _ => 0))
theorem q_opO {T : Nat} {c : q_C} {w : Nat → Int32} (hR : q_R T c w) (p : Int32) : q_OP T c w (wX1_faultOfOffering 0 p) (wX1_offer 0 p) (wX8_offers p) (q_ka 0 1 2 0 0) := by
  obtain ⟨n, ll, it, ⟨⟨s1, s2, s3, s4, s5, s6, s7, s8, s9, s10, s11, s12, s13, s14, s15, s16, s17⟩, ⟨m1, m2, m3⟩, hL⟩⟩ := hR
  have hct : q_ct (fun m => decide (w (107 + m) = 1)) n = q_ct (fun m => decide (¬ c.2 m 9 = 0)) n := q_ct_congr (fun k hk => by
    rw [show 107 + k = 12 * 9 - 1 + k by omega, ← m1 k 9 hk (by decide) (by decide)]
    rcases (m3 k hk).2.2.2.2.2.2.2 with y | y <;> rw [y] <;> rfl)
  rcases q_rg p 1 50 (by decide) (by decide) with e | e | ⟨p, h1, h2, rfl⟩
  · exact Or.inl ⟨2, by decide, by decide, by decide, by decide, fun h Q K => q_fO1 (Or.inl e) K, fun h Q K => q_mO1 (Or.inl e) K⟩
  · exact Or.inl ⟨2, by decide, by decide, by decide, by decide, fun h Q K => q_fO1 (Or.inr e) K, fun h Q K => q_mO1 (Or.inr e) K⟩
  · by_cases e : w 4 = 0
    · exact Or.inl ⟨3, by decide, by decide, by decide, by decide, fun h Q K => q_fO0 h1 h2 (fun y => absurd ((q_c1 _ _ _ _).trans (s8.trans e)) y) (fun _ => K), fun h Q K => q_mO0 s3 s1 h1 h2 (fun y => absurd e y) (fun _ => K)⟩
    · have hw : ∀ k, k ≠ 8 → (k < 107 ∨ 119 ≤ k) → upd (q_seg w 107 12 (fun _ => 0)) 8 (nI p) k = w k := fun k a b => by
        rw [pk_un a, q_seg_o (by omega)]
      have hv : ∀ m, m < 12 → upd (q_seg w 107 12 (fun _ => 0)) 8 (nI p) (107 + m) = 0 := fun m hm => by
        rw [pk_un (by omega), q_seg_in hm]
      refine Or.inr ⟨(upd c.1 11 (nI p), q_col c.2 n 9 (fun _ => 0)), upd (q_seg w 107 12 (fun _ => 0)) 8 (nI p), nI (q_ct (fun m => decide (¬ c.2 m 9 = 0)) n), ⟨n, ll, it, ?_, ⟨fun m s a b d => ?_, fun m s a b d f => ?_, fun m hm => ?_⟩, q_RL_w (fun k hk => hw k (by omega) (by omega)) (q_RL_g (g' := q_col c.2 n 9 (fun _ => 0)) (fun m hm => ⟨q_col_o (s := 10) (s0 := 9) (by decide), q_col_o (s := 11) (s0 := 9) (by decide)⟩) hL)⟩, fun h Q K => q_fO0 h1 h2 (fun _ => K) (fun y => absurd ((s8.symm.trans (q_c1 h 0 c 7).symm).trans y) e), fun h Q K => q_aO s2 s1 K, fun h Q K => q_mO0 s3 s1 h1 h2 (fun _ => by rw [hct]; exact K) (fun y => absurd y e)⟩
      · show q_RS 0 0 n _ _
        unfold q_RS
        rw [hw 0 (by omega) (by omega), hw 1 (by omega) (by omega), hw 2 (by omega) (by omega), hw 3 (by omega) (by omega), hw 4 (by omega) (by omega), hw 5 (by omega) (by omega), hw 6 (by omega) (by omega), hw 7 (by omega) (by omega), hw 9 (by omega) (by omega), hw 10 (by omega) (by omega)]
        exact ⟨s1, s2, s3, s4, s5, s6, s7, s8, s9, s10, s11, s12, s13, rfl, s15, s16, ⟨p, h2, rfl⟩⟩
      · show q_col c.2 n 9 (fun _ => 0) m s = _
        by_cases y : s = 9
        · subst y
          rw [q_col_in a, hv m (by omega)]
        · rw [q_col_o y, hw _ (by omega) (by omega)]
          exact m1 m s a b d
      · by_cases y : s = 9
        · subst y
          exact hv m b
        · rw [hw _ (by omega) (by omega)]
          exact m2 m s a b d f
      · show q_RG T (q_col c.2 n 9 (fun _ => 0) m)
        rw [q_col_row hm]
        obtain ⟨g1, g2, g3, g4, g5, g6, g7, g8⟩ := m3 m hm
        exact ⟨g1, g2, g3, g4, g5, g6, g7, Or.inl rfl⟩
