/-! accept -/
theorem q_fC1 {m : Int32} {n : Nat} {H : g_Hp} {Q : g_R → g_Hp → Prop} (hN : H 1 0 0 2 = nI n) (hm : m < 0 ∨ nI n ≤ m) (K : Q (.inl (some (vR 20 1 0))) H) : wX1_faultOfAccepting 0 m H Q := by
  unfold wX1_faultOfAccepting
  exact q_isM0 hN hm (q_n0 rfl K)
theorem q_fC0 {n m : Nat} {H : g_Hp} {Q : g_R → g_Hp → Prop} (hN : H 1 0 0 2 = nI n) (hn : n ≤ 12) (hm : m < n) (K5 : H 1 0 0 11 = 0 → Q (.inl (some (vR 20 5 0))) H) (K3 : ¬ H 1 0 0 11 = 0 → ¬ H 2 0 m 9 = 0 → Q (.inl (some (vR 20 3 0))) H) (K0 : ¬ H 1 0 0 11 = 0 → H 2 0 m 9 = 0 → Q (.inl (some (vR 20 0 0))) H) : wX1_faultOfAccepting 0 (nI m) H Q := by
  unfold wX1_faultOfAccepting
  exact q_isM1 hN hn hm (q_n1 (by decide) ⟨fun a => And.intro (q_vI (by omega) (by decide)) (nm_r (nI_clamp (by omega)) ⟨fun b => K0 a b, fun b => K3 a b⟩), fun a => K5 a⟩)
/-- a settled strike's first i members -/
def q_stl (g : Nat → Nat → Int32) (i : Nat) (p : Int32) : Nat → Nat → Int32 := fun j => if j < i then upd (upd (upd (g j) 2 (q_ra (g j 2) p)) 9 0) 10 (-1) else g j
theorem q_stl_s (g : Nat → Nat → Int32) (i : Nat) (p : Int32) : q_u2 (q_u2 (q_u2 (q_stl g i p) i 2 (q_ra (g i 2) p)) i 9 0) i 10 (-1) = q_stl g (i + 1) p := by
  funext j
  by_cases e : j = i
  · subst e
    rw [q_u2_row, q_u2_row, q_u2_row]
    unfold q_stl
    rw [if_neg (by omega), if_pos (by omega)]
  · rw [q_u2_ro e, q_u2_ro e, q_u2_ro e]
    unfold q_stl
    by_cases z : j < i
    · rw [if_pos z, if_pos (by omega)]
    · rw [if_neg z, if_neg (by omega)]
theorem q_stl_ge {g : Nat → Nat → Int32} {i : Nat} {p : Int32} {j : Nat} (h : i ≤ j) : q_stl g i p j = g j := if_neg (by omega)
theorem q_stl_lt {g : Nat → Nat → Int32} {i : Nat} {p : Int32} {j : Nat} (h : j < i) : q_stl g i p j = upd (upd (upd (g j) 2 (q_ra (g j 2) p)) 9 0) 10 (-1) := if_pos h
theorem q_aT {n : Nat} {h : g_Hp} {c : q_C} {Q : g_R → g_Hp → Prop} (hN : c.1 2 = nI n) (hn : n ≤ 12) (K : Q (.inl none) (q_cH h 0 (upd (upd (upd c.1 11 0) 7 0) 12 (c.1 12 + 1), q_stl c.2 n (c.1 11)))) : wX1_settle 0 (q_cH h 0 c) Q := by
  have z := q_loop (fun k i => wX1_settle_b2_I 0 Q k (nI i) (q_cH h 0 (c.1, q_stl c.2 i (c.1 11)))) n 0 (Nat.zero_le _) (fun k => ?_) (fun k i _ hi hk => ?_)
  · have e : q_stl c.2 0 (c.1 11) = c.2 := funext fun j => q_stl_ge (Nat.zero_le _)
    rw [e] at z
    exact z
  · show wX1_settle_b2_B 0 Q _ _ _
    unfold wX1_settle_b2_B
    rw [q_c1]
    show ((c.1 2 ≤ _) → _) ∧ _
    rw [hN]
    refine br_t (nI_le (Nat.le_refl _) (by omega)) (nm_r (q_cu1 _ _ _ _ _) (nm_r (q_cu1 _ _ _ _ _) (nm_r (q_cu1 _ _ _ _ _) ?_)))
    rw [q_c1]
    exact K
  · show wX1_settle_b2_B 0 Q _ _ _
    unfold wX1_settle_b2_B
    rw [q_c1]
    show ((c.1 2 ≤ _) → _) ∧ _
    rw [hN]
    refine br_f (nI_ge hi (by omega)) (And.intro (q_vI (by omega) (by decide)) (nm_r (nI_clamp (by omega)) ?_))
    rw [q_c1, q_c2]
    refine q_rate ?_
    show ∀ h7 : g_Hp, h7 = g_up _ 2 0 i 2 (q_ra (q_stl c.2 i (c.1 11) i 2) (c.1 11)) → _
    rw [q_stl_ge (Nat.le_refl i)]
    refine nm_r (q_cu2 _ _ _ _ _ _) (nm_r (q_cu2 _ _ _ _ _ _) (nm_r ?_ (nm_r (nI_1 i) hk)))
    rw [q_cu2]
    exact congrArg (fun x => q_cH h 0 (c.1, x)) (q_stl_s c.2 i (c.1 11))
theorem q_aC {n m : Nat} {h : g_Hp} {c : q_C} {Q : g_R → g_Hp → Prop} (hN : c.1 2 = nI n) (hn : n ≤ 12) (hm : m < n)
    (K0 : 2 * q_ct (fun j => decide (¬ q_u2 c.2 m 9 1 j 9 = 0)) n ≤ n → Q (.inl (some (vI 0))) (q_cH h 0 (c.1, q_u2 c.2 m 9 1)))
    (K1 : n < 2 * q_ct (fun j => decide (¬ q_u2 c.2 m 9 1 j 9 = 0)) n → Q (.inl (some (vI 1))) (q_cH h 0 (upd (upd (upd c.1 11 0) 7 0) 12 (c.1 12 + 1), q_stl (q_u2 c.2 m 9 1) n (c.1 11)))) : wX1_takeAcceptance 0 (nI m) (q_cH h 0 c) Q := by
  have hle := q_ct_le (fun j => decide (¬ q_u2 c.2 m 9 1 j 9 = 0)) n
  unfold wX1_takeAcceptance
  refine And.intro (q_vI (by omega) (by decide)) (nm_r (nI_clamp (by omega)) (nm_r (q_cu2 _ _ _ _ _ _) (q_cAC ((q_c1 _ _ _ _).trans hN) hn ?_)))
  simp only [q_c2]
  show (((2 : Int32) * nI _ ≤ q_cH h 0 (c.1, q_u2 c.2 m 9 1) 1 0 0 2) → _) ∧ _
  rw [q_c1]
  show (((2 : Int32) * nI _ ≤ c.1 2) → _) ∧ _
  rw [hN, q_lit 2, pk_mul]
  refine pk_le _ _ (fun a => br_t rfl (And.intro (Or.inl rfl) (K0 a))) (fun a => br_f (by decide) (q_aT hN hn (And.intro (Or.inr rfl) (K1 a))))
theorem q_mC1 {m : Int32} {n : Nat} {h : g_Hp} {w : Nat → Int32} {Q : g_R → g_Hp → Prop} (hN : w 0 = nI n) (hn : n ≤ 12) (hm : m < 0 ∨ nI n ≤ m) (K : Q (.inl (some (vI 0))) (q_mH (g_up h 5 0 0 1 1) 0 w)) : wX8_accepts m (q_mH h 0 w) Q := by
  unfold wX8_accepts
  exact q_mM0 ((q_m1 _ _ _ _).trans hN) hn hm (q_n0 rfl (q_fail K))
/-- the model's row with the first i rates raised -/
def q_rs (w : Nat → Int32) (i : Nat) : Nat → Int32 := q_seg w 23 i (fun j => q_ra (w (23 + j)) (w 8))
def q_stw (w : Nat → Int32) (n : Nat) : Nat → Int32 := q_seg (q_seg (upd (upd (upd (upd (q_rs w n) 4 0) 6 0) 8 0) 10 (w 10 + 1)) 107 12 (fun _ => 0)) 119 50 (fun _ => 0)
theorem q_mT {n : Nat} {h : g_Hp} {w : Nat → Int32} {Q : g_R → g_Hp → Prop} (hN : w 0 = nI n) (hn : n ≤ 12) (K : Q (.inl none) (q_mH h 0 (q_stw w n))) : wX8_settles (q_mH h 0 w) Q := by
  have o : ∀ i k, i ≤ 12 → (k < 23 ∨ 23 + i ≤ k) → q_rs w i k = w k := fun i k _ a => q_seg_o (by omega)
  have p3 : ∀ w' : Nat → Int32, Q (.inl none) (q_mH h 0 (q_seg w' 119 50 (fun _ => 0))) → wX8_settles_b93 Q (119 : Int32) (q_mH h 0 w') := fun w' K => by
    have z := q_loop (fun k i => wX8_settles_b93_I Q k (nI i) (q_mH h 0 (q_seg w' 119 (i - 119) (fun _ => 0)))) 169 119 (by decide) (fun k => ?_) (fun k i h0 hi hk => ?_)
    · rw [Nat.sub_self, q_seg_0] at z
      exact z
    · show wX8_settles_b93_B Q _ _ _
      unfold wX8_settles_b93_B
      exact br_t (nI_le (a := 169) (Nat.le_refl _) (by decide)) K
    · show wX8_settles_b93_B Q _ _ _
      unfold wX8_settles_b93_B
      refine br_f (nI_ge (b := 169) hi (by decide)) (And.intro (q_vI hi (by decide)) (nm_r ?_ (nm_r (nI_1 i) hk)))
      rw [nI_clamp (by omega), q_mu]
      refine congrArg (fun x => q_mH h 0 x) ?_
      have := q_seg_s w' 119 (i - 119) (fun _ => 0)
      rw [show 119 + (i - 119) = i by omega, show i - 119 + 1 = i + 1 - 119 by omega] at this
      exact this
  have p2 : ∀ w' : Nat → Int32, Q (.inl none) (q_mH h 0 (q_seg (q_seg w' 107 12 (fun _ => 0)) 119 50 (fun _ => 0))) → wX8_settles_b68 Q (0 : Int32) (q_mH h 0 w') := fun w' K => by
    have z := q_loop (fun k i => wX8_settles_b68_I Q k (nI i) (q_mH h 0 (q_seg w' 107 i (fun _ => 0)))) 12 0 (Nat.zero_le _) (fun k => ?_) (fun k i _ hi hk => ?_)
    · rw [q_seg_0] at z
      exact z
    · show wX8_settles_b68_B Q _ _ _
      unfold wX8_settles_b68_B
      exact br_t (nI_le (a := 12) (Nat.le_refl _) (by decide)) (p3 _ K)
    · show wX8_settles_b68_B Q _ _ _
      unfold wX8_settles_b68_B
      refine br_f (nI_ge (b := 12) hi (by decide)) (And.intro (q_v107 (by omega)) (nm_r ?_ (nm_r (nI_1 i) hk)))
      rw [q_i107 (by omega), q_mu]
      exact congrArg (fun x => q_mH h 0 x) (q_seg_s w' 107 i (fun _ => 0))
  have z := q_loop (fun k i => wX8_settles_b2_I Q k (nI i) (q_mH h 0 (q_rs w i))) n 0 (Nat.zero_le _) (fun k => ?_) (fun k i _ hi hk => ?_)
  · have e : q_rs w 0 = w := q_seg_0 _ _ _
    rw [e] at z
    exact z
  · show wX8_settles_b2_B Q _ _ _
    unfold wX8_settles_b2_B
    rw [q_k0, q_m1, o n 0 hn (by omega), hN]
    refine br_t (nI_le (Nat.le_refl _) (by omega)) (nm_r (q_mu _ _ _ _ _) (nm_r (q_mu _ _ _ _ _) (nm_r (q_mu _ _ _ _ _) (nm_r (e' := q_mH h 0 (upd (upd (upd (upd (q_rs w n) 4 0) 6 0) 8 0) 10 (w 10 + 1))) ?_ (p2 _ K)))))
    rw [q_k4, q_k6, q_k8, q_k10, q_m1, q_mu, pk_un (by decide), pk_un (by decide), pk_un (by decide), o n 10 hn (by omega)]
  · show wX8_settles_b2_B Q _ _ _
    unfold wX8_settles_b2_B
    rw [q_k0, q_m1, o i 0 (by omega) (by omega), hN]
    refine br_f (nI_ge hi (by omega)) (q_mgr (by omega) ?_)
    rw [q_m1, q_m1, o i (23 + i) (by omega) (by omega), o i 8 (by omega) (by omega)]
    refine And.intro (q_v23 (by omega)) (nm_r ?_ (nm_r (nI_1 i) hk))
    rw [q_i23 (by omega), q_mu]
    exact congrArg (fun x => q_mH h 0 x) (q_seg_s w 23 i (fun j => q_ra (w (23 + j)) (w 8)))
theorem q_mC0 {n m : Nat} {h : g_Hp} {w : Nat → Int32} {Q : g_R → g_Hp → Prop} (hN : w 0 = nI n) (hn : n ≤ 12) (hm : m < n)
    (K2 : w 8 = 0 → Q (.inl (some (vI 0))) (q_mH (g_up h 5 0 0 1 2) 0 w)) (K3 : ¬ w 8 = 0 → w (107 + m) = 1 → Q (.inl (some (vI 0))) (q_mH (g_up h 5 0 0 1 3) 0 w))
    (K0 : ¬ w 8 = 0 → ¬ w (107 + m) = 1 → 2 * q_ct (fun j => decide (upd w (107 + m) 1 (107 + j) = 1)) n ≤ n → Q (.inl (some (vI 0))) (q_mH h 0 (upd w (107 + m) 1)))
    (K1 : ¬ w 8 = 0 → ¬ w (107 + m) = 1 → n < 2 * q_ct (fun j => decide (upd w (107 + m) 1 (107 + j) = 1)) n → Q (.inl (some (vI 1))) (q_mH h 0 (q_stw (upd w (107 + m) 1) n))) : wX8_accepts (nI m) (q_mH h 0 w) Q := by
  have hle := q_ct_le (fun j => decide (upd w (107 + m) 1 (107 + j) = 1)) n
  have hv : vp_in ((107 : Int32) + nI m) 169 := q_v107 (by omega)
  have hN' : upd w (107 + m) 1 0 = nI n := by rw [pk_un (by omega), hN]
  unfold wX8_accepts
  refine q_mM1 ((q_m1 _ _ _ _).trans hN) hn hm (q_n1 (by decide) ?_)
  rw [q_k8, q_m1]
  refine ⟨fun a => And.intro hv ?_, fun a => q_fail (K2 a)⟩
  rw [q_i107 (by omega), q_m1]
  refine ⟨fun b => And.intro hv (nm_r (q_mu _ _ _ _ _) (q_mCT (n := n) 107 1 ((q_m1 _ _ _ _).trans hN') hn (by decide) ?_)), fun b => q_fail (K3 a b)⟩
  simp only [q_m1]
  show ((q_mH h 0 (upd w (107 + m) 1) 13 0 0 ((0 : Int32).toNatClampNeg + 1) < (2 : Int32) * nI _) → _) ∧ _
  rw [q_k0, q_m1, hN', q_lit 2, pk_mul]
  exact pk_lt _ _ (fun d => q_mT hN' hn (K1 a b d)) (fun d => K0 a b d)
/-- .. whose answer is a boolean -/
def q_OPb (T : Nat) (c : q_C) (w : Nat → Int32) (FW AW MW : g_Hp → (g_R → g_Hp → Prop) → Prop) (κ : Nat → Nat) : Prop :=
  (∃ φ, 1 ≤ φ ∧ φ < 6 ∧ 1 ≤ κ φ ∧ κ φ ≤ 3 ∧ (∀ h (Q : g_R → g_Hp → Prop), Q (.inl (some (vR 20 φ 0))) (q_cH h 0 c) → FW (q_cH h 0 c) Q) ∧ (∀ h (Q : g_R → g_Hp → Prop), Q (.inl (some (vI 0))) (q_mH (g_up h 5 0 0 1 (nI (κ φ))) 0 w) → MW (q_mH h 0 w) Q)) ∨
  (∃ c' w' x, (x = 0 ∨ x = 1) ∧ q_R T c' w' ∧ (∀ h (Q : g_R → g_Hp → Prop), Q (.inl (some (vR 20 0 0))) (q_cH h 0 c) → FW (q_cH h 0 c) Q) ∧ (∀ h (Q : g_R → g_Hp → Prop), Q (.inl (some (vI x))) (q_cH h 0 c') → AW (q_cH h 0 c) Q) ∧ (∀ h (Q : g_R → g_Hp → Prop), Q (.inl (some (vI x))) (q_mH h 0 w') → MW (q_mH h 0 w) Q))
theorem q_OP_b {T : Nat} {c : q_C} {w : Nat → Int32} {FW AW MW : g_Hp → (g_R → g_Hp → Prop) → Prop} {κ : Nat → Nat} (h : q_OPb T c w FW AW MW κ) : q_OP T c w FW AW MW κ := by
  rcases h with h | ⟨c', w', x, _, h⟩
  · exact Or.inl h
  · exact Or.inr ⟨c', w', x, h⟩
theorem q_opC {T : Nat} {c : q_C} {w : Nat → Int32} (hR : q_R T c w) (m : Int32) : q_OPb T c w (wX1_faultOfAccepting 0 m) (wX1_takeAcceptance 0 m) (wX8_accepts m) (q_ka 1 0 3 0 2) := by
  obtain ⟨n, ll, it, ⟨hS, hM, hL⟩⟩ := hR
  have ⟨s1, s2, s3, s4, s5, s6, s7, s8, s9, s10, s11, s12, s13, s14, s15, s16, ⟨p, hp, s17⟩⟩ := hS
  have ⟨m1, m2, m3⟩ := hM
  have ⟨l1, l2, l3⟩ := hL
  have hN : ∀ h, q_cH h 0 c 1 0 0 2 = nI n := fun h => (q_c1 _ _ _ _).trans s2
  rcases pk_ix m (n := n) (by omega) with e | e | ⟨m, hm, rfl⟩
  · exact Or.inl ⟨1, by decide, by decide, by decide, by decide, fun h Q K => q_fC1 (hN h) (Or.inl e) K, fun h Q K => q_mC1 s3 s1 (Or.inl e) K⟩
  · exact Or.inl ⟨1, by decide, by decide, by decide, by decide, fun h Q K => q_fC1 (hN h) (Or.inr e) K, fun h Q K => q_mC1 s3 s1 (Or.inr e) K⟩
  · have h11 : ∀ h, q_cH h 0 c 1 0 0 11 = w 8 := fun h => (q_c1 _ _ _ _).trans s14
    have h9 : ∀ h, q_cH h 0 c 2 0 m 9 = w (107 + m) := fun h => (q_c2 _ _ _ _ _).trans (m1 m 9 hm (by decide) (by decide))
    by_cases a : w 8 = 0
    · exact Or.inl ⟨5, by decide, by decide, by decide, by decide, fun h Q K => q_fC0 (hN h) s1 hm (fun _ => K) (fun q => absurd ((h11 h).trans a) q) (fun q => absurd ((h11 h).trans a) q), fun h Q K => q_mC0 s3 s1 hm (fun _ => K) (fun q => absurd a q) (fun q => absurd a q) (fun q => absurd a q)⟩
    · have na : ∀ h, ¬ q_cH h 0 c 1 0 0 11 = 0 := fun h q => a ((h11 h).symm.trans q)
      have hb := (m3 m hm).2.2.2.2.2.2.2
      rw [m1 m 9 hm (by decide) (by decide), show 12 * 9 - 1 + m = 107 + m by omega] at hb
      rcases hb with b | b
      · have b1 : ¬ w (107 + m) = 1 := by rw [b]; decide
        have hcol : ∀ j s, j < n → 1 ≤ s → s ≤ 9 → q_u2 c.2 m 9 1 j s = upd w (107 + m) 1 (12 * s - 1 + j) := fun j s q1 q2 q3 => by
          by_cases z : j = m ∧ s = 9
          · obtain ⟨rfl, rfl⟩ := z
            rw [q_u2_s, pk_us]
          · rw [q_u2_o z, pk_un (by omega)]
            exact m1 j s q1 q2 q3
        have hg1 : ∀ j, j < n → q_RG T (q_u2 c.2 m 9 1 j) := fun j hj => by
          by_cases z : j = m
          · subst z
            rw [q_u2_row]
            obtain ⟨g1, g2, g3, g4, g5, g6, g7, g8⟩ := m3 j hj
            exact ⟨g1, g2, g3, g4, g5, g6, g7, Or.inr rfl⟩
          · rw [q_u2_ro z]
            exact m3 j hj
        have hct : q_ct (fun j => decide (upd w (107 + m) 1 (107 + j) = 1)) n = q_ct (fun j => decide (¬ q_u2 c.2 m 9 1 j 9 = 0)) n := q_ct_congr (fun j hj => by
          rw [show 107 + j = 12 * 9 - 1 + j by omega, ← hcol j 9 hj (by decide) (by decide)]
          rcases (hg1 j hj).2.2.2.2.2.2.2 with y | y <;> rw [y] <;> rfl)
        have hw : ∀ k, k ≠ 107 + m → upd w (107 + m) 1 k = w k := fun k q => pk_un q
        by_cases d : 2 * q_ct (fun j => decide (¬ q_u2 c.2 m 9 1 j 9 = 0)) n ≤ n
        · refine Or.inr ⟨(c.1, q_u2 c.2 m 9 1), upd w (107 + m) 1, 0, Or.inl rfl, ⟨n, ll, it, q_RS_w (fun k hk => hw k (by omega)) hS, ⟨hcol, fun j s q1 q2 q3 q4 => ?_, hg1⟩, q_RL_w (fun k hk => hw k (by omega)) (q_RL_g (g' := q_u2 c.2 m 9 1) (fun j hj => ⟨q_u2_o (by omega), q_u2_o (by omega)⟩) hL)⟩, fun h Q K => q_fC0 (hN h) s1 hm (fun q => absurd q (na h)) (fun _ q => absurd ((h9 h).trans b) q) (fun _ _ => K), fun h Q K => q_aC s2 s1 hm (fun _ => K) (fun q => by omega), fun h Q K => q_mC0 s3 s1 hm (fun q => absurd q a) (fun _ q => absurd q b1) (fun _ _ _ => K) (fun _ _ q => by omega)⟩
          rw [hw _ (by omega)]
          exact m2 j s q1 q2 q3 q4
        · have hx : ∀ k, k < 169 → q_stw (upd w (107 + m) 1) n k = if 107 ≤ k then 0 else if 23 ≤ k ∧ k < 23 + n then q_ra (w k) (w 8) else if k = 10 then w 10 + 1 else if k = 8 then 0 else if k = 6 then 0 else if k = 4 then 0 else w k := fun k hk => by
            unfold q_stw
            by_cases y1 : 119 ≤ k
            · rw [if_pos (by omega)]
              unfold q_seg
              rw [if_pos (by omega)]
            · rw [q_seg_o (by omega)]
              by_cases y2 : 107 ≤ k
              · rw [if_pos y2]
                unfold q_seg
                rw [if_pos (by omega)]
              · rw [q_seg_o (by omega), if_neg y2]
                unfold q_rs
                rw [hw 8 (by omega), hw 10 (by omega)]
                by_cases y3 : 23 ≤ k ∧ k < 23 + n
                · rw [if_pos y3, pk_un (by omega), pk_un (by omega), pk_un (by omega), pk_un (by omega)]
                  unfold q_seg
                  rw [if_pos y3]
                  dsimp only
                  rw [show 23 + (k - 23) = k by omega, hw k (by omega)]
                · rw [if_neg y3]
                  by_cases z1 : k = 10
                  · subst z1; rw [if_pos rfl, pk_us]
                  · rw [if_neg z1, pk_un z1]
                    by_cases z2 : k = 8
                    · subst z2; rw [if_pos rfl, pk_us]
                    · rw [if_neg z2, pk_un z2]
                      by_cases z3 : k = 6
                      · subst z3; rw [if_pos rfl, pk_us]
                      · rw [if_neg z3, pk_un z3]
                        by_cases z4 : k = 4
                        · subst z4; rw [if_pos rfl, pk_us]
                        · rw [if_neg z4, pk_un z4, q_seg_o (by omega), hw k (by omega)]
          have hx' : ∀ k, k < 23 → k ≠ 10 → k ≠ 8 → k ≠ 6 → k ≠ 4 → q_stw (upd w (107 + m) 1) n k = w k := fun k q1 q2 q3 q4 q5 => by
            rw [hx k (by omega), if_neg (by omega), if_neg (by omega), if_neg q2, if_neg q3, if_neg q4, if_neg q5]
          have hl0 : ∀ j x, j < n → x < 10 → decide (q_stl (q_u2 c.2 m 9 1) n (c.1 11) j 10 = nI x) = false := fun j x hj hx2 => by
            rw [q_stl_lt hj]
            exact decide_eq_false (fun q => q_ne1 (r := x) (by omega) q.symm)
          refine Or.inr ⟨(upd (upd (upd c.1 11 0) 7 0) 12 (c.1 12 + 1), q_stl (q_u2 c.2 m 9 1) n (c.1 11)), q_stw (upd w (107 + m) 1) n, 1, Or.inr rfl, ⟨n, fun _ => 0, it, ?_, ⟨fun j s q1 q2 q3 => ?_, fun j s q1 q2 q3 q4 => ?_, fun j hj => ?_⟩, ⟨fun x hx2 => ⟨Nat.zero_le 4, ?_, q_ct_zero (fun j hj => hl0 j x hj hx2)⟩, fun x k _ hk => absurd hk (Nat.not_lt_zero k), fun j hj => Or.inl ?_⟩⟩, fun h Q K => q_fC0 (hN h) s1 hm (fun q => absurd q (na h)) (fun _ q => absurd ((h9 h).trans b) q) (fun _ _ => K), fun h Q K => q_aC s2 s1 hm (fun q => absurd q d) (fun _ => K), fun h Q K => q_mC0 s3 s1 hm (fun q => absurd q a) (fun _ q => absurd q b1) (fun _ _ q => by omega) (fun _ _ _ => K)⟩
          · show q_RS 0 0 n _ _
            unfold q_RS
            rw [hx' 0 (by omega) (by omega) (by omega) (by omega) (by omega), hx' 1 (by omega) (by omega) (by omega) (by omega) (by omega), hx' 2 (by omega) (by omega) (by omega) (by omega) (by omega), hx' 3 (by omega) (by omega) (by omega) (by omega) (by omega), hx' 5 (by omega) (by omega) (by omega) (by omega) (by omega), hx' 7 (by omega) (by omega) (by omega) (by omega) (by omega), hx' 9 (by omega) (by omega) (by omega) (by omega) (by omega)]
            have e4 : q_stw (upd w (107 + m) 1) n 4 = 0 := hx 4 (by decide)
            have e6 : q_stw (upd w (107 + m) 1) n 6 = 0 := hx 6 (by decide)
            have e8 : q_stw (upd w (107 + m) 1) n 8 = 0 := hx 8 (by decide)
            have e10 : q_stw (upd w (107 + m) 1) n 10 = w 10 + 1 := hx 10 (by decide)
            rw [e4, e8, e10]
            exact ⟨s1, s2, s3, s4, s5, s6, s7, rfl, Or.inl rfl, fun q => absurd q (by decide), s11, s12, s13, rfl, congrArg (· + 1) s15, s16, ⟨0, by decide, rfl⟩⟩
          · show q_stl (q_u2 c.2 m 9 1) n (c.1 11) j s = _
            rw [q_stl_lt q1, hx _ (by omega)]
            by_cases y9 : s = 9
            · subst y9
              rw [if_pos (by omega)]
              rfl
            · rw [if_neg (by omega), pk_un (by omega), pk_un y9]
              by_cases y2 : s = 2
              · subst y2
                rw [if_pos (by omega), pk_us, hcol j 2 q1 (by decide) (by decide), hw _ (by omega), s14]
              · rw [if_neg (by omega), pk_un y2, hcol j s q1 q2 q3, hw _ (by omega), if_neg (by omega), if_neg (by omega), if_neg (by omega), if_neg (by omega)]
          · rw [hx _ (by omega)]
            by_cases y9 : s = 9
            · subst y9
              rw [if_pos (by omega)]
            · rw [if_neg (by omega), if_neg (by omega), if_neg (by omega), if_neg (by omega), if_neg (by omega), if_neg (by omega)]
              exact m2 j s q1 q2 q3 q4
          · show q_RG T (q_stl (q_u2 c.2 m 9 1) n (c.1 11) j)
            rw [q_stl_lt hj]
            obtain ⟨g1, ⟨x, hx2, g2⟩, g3, g4, g5, g6, g7, g8⟩ := hg1 j hj
            refine ⟨g1, ⟨min ((x * (100 + p) + 99) / 100) 99, by omega, ?_⟩, g3, g4, g5, g6, g7, Or.inl rfl⟩
            show q_ra (q_u2 c.2 m 9 1 j 2) (c.1 11) = _
            rw [g2, s14, s17, q_raN x hx2 p hp]
          · rw [hx _ (by omega), if_pos (by omega)]
            rfl
          · show q_stl (q_u2 c.2 m 9 1) n (c.1 11) j 10 = -1
            rw [q_stl_lt hj]
            rfl
      · have nb : ∀ h, ¬ q_cH h 0 c 2 0 m 9 = 0 := fun h q => by rw [h9, b] at q; cases q
        exact Or.inl ⟨3, by decide, by decide, by decide, by decide, fun h Q K => q_fC0 (hN h) s1 hm (fun q => absurd q (na h)) (fun _ _ => K) (fun _ q => absurd q (nb h)), fun h Q K => q_mC0 s3 s1 hm (fun q => absurd q a) (fun _ _ => K) (fun _ q => absurd b q) (fun _ q => absurd b q)⟩
