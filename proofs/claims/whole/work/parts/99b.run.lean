/-! ===== the model runs ===== -/
theorem q_enX {x : Int32} {h : g_Hp} {Q : g_R → g_Hp → Prop} (h1 : ¬ h 5 0 0 1 = 0) (K : Q (.inl (some (vI 0))) (q_mH h 0 (q_seg (q_mv h 0) 0 169 (q_mv h 1)))) : wX8_ends x h Q := by
  unfold wX8_ends
  exact br_f h1 (q_lay (by decide) (by decide) (by decide) K)
/-- a text that isn't read: the model's run -/
theorem q_mRx {n p' : Nat} {cs : Nat → Nat} {h : g_Hp} {Q : g_R → g_Hp → Prop} (hn : n ≤ 60) (e15 : h 5 0 0 15 = nI n) (ht : ∀ e, e < n → h 13 4 0 (e + 1) = nI (cs e)) (hW : q_WRD h) (TF : q_TF (q_A n cs) n p')
    (K : ∀ h', (∀ k a b s, ¬ (k = 5 ∧ (s = 1 ∨ s = 3 ∨ (15 ≤ s ∧ s ≠ 18))) → ¬ (k = 13 ∧ (a = 1 ∨ a = 6)) → h' k a b s = h k a b s) → h' 5 0 0 1 = 1 → h' 5 0 0 3 = nI p' → h' 5 0 0 15 = 0 → Q (.inl (some (vI 0))) h') : wX8_run h Q := by
  unfold wX8_run
  refine q_bg (fun h1 f1 e1 _ => nm_e (nm_e (nm_e ?_)))
  rw [f1 5 0 0 15 (by omega) (by omega), e15]
  refine q_mCx TF (fun s => (∀ k a b t, ¬ (k = 5 ∧ (t = 15 ∨ t = 16 ∨ t = 17 ∨ t = 19 ∨ t = 20)) → ¬ (k = 13 ∧ a = 6) → s k a b t = h1 k a b t) ∧ s 5 0 0 15 = 0 ∧ s 5 0 0 17 = nI n ∧ s 5 0 0 20 = 0) (fun s s' I f => ⟨fun k a b t n1 n2 => (f k a b t (by omega) n2).trans (I.1 k a b t n1 n2), (f _ _ _ _ (by omega) (by omega)).trans I.2.1, (f _ _ _ _ (by omega) (by omega)).trans I.2.2.1, (f _ _ _ _ (by omega) (by omega)).trans I.2.2.2⟩) (fun s I => ⟨⟨hn, I.2.2.1, fun e he => ?_, ?_⟩, ?_⟩) (fun R s kw x2 x3 I e9 hR => ?_) (fun x s I e9 e16 => ?_) ⟨fun k a b t n1 n2 => ?_, ?_, ?_, ?_⟩
  · rw [I.1 _ _ _ _ (by omega) (by omega), f1 _ _ _ _ (by omega) (by omega), ht e he]
  · exact q_WRD_c (fun k a b t hp => by rw [I.1 _ _ _ _ (by omega) (by omega), f1 _ _ _ _ (by omega) (by omega)]) hW
  · rw [I.1 _ _ _ _ (by omega) (by omega), e1]
  · unfold wX8_command_b87 wX8_command_b101
    exact q_n0 e9 (q_n0 I.2.2.2 hR)
  · refine br_f (by rw [e9]; decide) (nm_e ?_)
    rw [e16]
    unfold wX8_fail
    refine nm_e (K _ (fun k a b t n1 n2 => ?_) (g_up_s _ _ _ _ _ _) ?_ ?_)
    · rw [g_up_o _ _ _ _ _ _ (by omega), g_up_o _ _ _ _ _ _ (by omega), I.1 _ _ _ _ (by omega) (by omega), f1 _ _ _ _ (by omega) (by omega)]
    · rw [g_up_o _ _ _ _ _ _ (by omega), g_up_s]
    · rw [g_up_o _ _ _ _ _ _ (by omega), g_up_o _ _ _ _ _ _ (by omega), I.2.1]
  · rw [g_up_o _ _ _ _ _ _ (by omega), g_up_o _ _ _ _ _ _ (by omega), g_up_o _ _ _ _ _ _ (by omega)]
  · rw [g_up_o _ _ _ _ _ _ (by omega), g_up_s]
  · rw [g_up_o _ _ _ _ _ _ (by omega), g_up_o _ _ _ _ _ _ (by omega), g_up_s]
  · rw [g_up_s]
/-- a text that is read: the model's run -/
theorem q_mRk2 {n N J T ch : Nat} {cs : Nat → Nat} {C : Nat → q_rc} {S : Nat → q_S} {h : g_Hp} {Q : g_R → g_Hp → Prop} (hn : n ≤ 60) (e15 : h 5 0 0 15 = nI n) (ht : ∀ e, e < n → h 13 4 0 (e + 1) = nI (cs e)) (hW : q_WRD h) (TK : q_TK (q_A n cs) n N C) (hN : N < 10) (hk : ∀ j, j < N + 1 → (C j).2.2.1 < 10) (hch : ch ≤ 8) (e2 : h 5 0 0 2 = nI ch) (s0 : (S 0).2 = q_mv h 0) (hS : q_SQ C T (N + 1) J S)
    (K1 : J = N + 1 → ∀ h', (∀ k a b s, ¬ (k = 5 ∧ (s = 1 ∨ s = 2 ∨ (15 ≤ s ∧ s ≠ 18))) → ¬ (k = 13 ∧ (a = 0 ∨ a = 1 ∨ a = 3 ∨ a = 6)) → h' k a b s = h k a b s) → h' 5 0 0 1 = 0 → h' 5 0 0 2 = nI (min (ch + 1) 8) → h' 5 0 0 15 = 0 → q_mv h' 0 = (S J).2 → (∀ e, e < 169 → h' 13 1 0 (e + 1) = h 13 0 0 (e + 1)) → (∀ e, h' 13 3 0 (e + 1) = q_pst (q_mv h 3) (q_mv h' 1) ch e) → Q (.inl (some (vI (nI (N + 1))))) h')
    (K0 : J < N + 1 → ∀ h', (∀ k a b s, ¬ (k = 5 ∧ (s = 1 ∨ s = 4 ∨ (15 ≤ s ∧ s ≠ 18))) → ¬ (k = 13 ∧ (a = 0 ∨ a = 1 ∨ a = 6)) → h' k a b s = h k a b s) → h' 5 0 0 1 = 2 → h' 5 0 0 4 = nI J → h' 5 0 0 15 = 0 → (∀ e, e < 169 → h' 13 0 0 (e + 1) = h 13 0 0 (e + 1)) → Q (.inl (some (vI 0))) h') : wX8_run h Q := by
  obtain ⟨j1, j2, j3, j4⟩ := hS
  unfold wX8_run
  refine q_bg (fun h1 f1 e1 e1b => nm_e (nm_e (nm_e ?_)))
  rw [f1 5 0 0 15 (by omega) (by omega), e15]
  -- what both passes keep
  have MT : ∀ s : g_Hp, (∀ k a b t, ¬ (k = 5 ∧ (t = 1 ∨ t = 15 ∨ t = 16 ∨ t = 17 ∨ t = 19 ∨ t = 20)) → ¬ (k = 13 ∧ (a = 0 ∨ a = 6)) → s k a b t = h1 k a b t) → s 5 0 0 17 = nI n → q_MT n cs s := fun s I i17 => ⟨hn, i17, fun e he => by rw [I _ _ _ _ (by omega) (by omega), f1 _ _ _ _ (by omega) (by omega), ht e he], q_WRD_c (fun k a b t hp => by rw [I _ _ _ _ (by omega) (by omega), f1 _ _ _ _ (by omega) (by omega)]) hW⟩
  refine q_mCs TK (fun _ s => (∀ k a b t, ¬ (k = 5 ∧ (t = 15 ∨ t = 16 ∨ t = 17 ∨ t = 19 ∨ t = 20)) → ¬ (k = 13 ∧ a = 6) → s k a b t = h1 k a b t) ∧ s 5 0 0 15 = 0 ∧ s 5 0 0 17 = nI n ∧ s 5 0 0 20 = 0) (fun _ _ => False) (fun j s s' I f => ⟨fun k a b t n1 n2 => (f k a b t (by omega) n2).trans (I.1 k a b t n1 n2), (f _ _ _ _ (by omega) (by omega)).trans I.2.1, (f _ _ _ _ (by omega) (by omega)).trans I.2.2.1, (f _ _ _ _ (by omega) (by omega)).trans I.2.2.2⟩) (fun j s I => ⟨MT s (fun k a b t n1 n2 => I.1 k a b t (by omega) (by omega)) I.2.2.1, (I.1 _ _ _ _ (by omega) (by omega)).trans e1⟩) (fun R j s x2 x3 hj I e9 ar good bad => ?_) (fun s I e9 => ?_) (fun j s hj B => B.elim) ⟨fun k a b t n1 n2 => ?_, ?_, ?_, ?_⟩
  · unfold wX8_command_b87 wX8_command_b101
    exact q_n0 e9 (q_n0 I.2.2.2 (good s I rfl e9))
  · refine br_t e9 (nm_e ?_)
    -- the second pass
    have o2 : ∀ k a b t, ¬ (k = 5 ∧ t = 20) → g_up s 5 0 0 20 1 k a b t = s k a b t := fun k a b t n1 => g_up_o _ _ _ _ _ _ (by omega)
    refine q_mCs TK (fun j t => (∀ k a b x, ¬ (k = 5 ∧ (x = 1 ∨ x = 15 ∨ x = 16 ∨ x = 17 ∨ x = 19 ∨ x = 20)) → ¬ (k = 13 ∧ (a = 0 ∨ a = 6)) → t k a b x = h1 k a b x) ∧ t 5 0 0 15 = 0 ∧ t 5 0 0 17 = nI n ∧ t 5 0 0 20 = 1 ∧ t 5 0 0 1 = 0 ∧ j ≤ J ∧ q_mv t 0 = (S j).2) (fun j t => j = J ∧ J < N + 1 ∧ (∀ k a b x, ¬ (k = 5 ∧ (x = 1 ∨ x = 15 ∨ x = 16 ∨ x = 17 ∨ x = 19 ∨ x = 20)) → ¬ (k = 13 ∧ (a = 0 ∨ a = 6)) → t k a b x = h1 k a b x) ∧ t 5 0 0 15 = 0) (fun j t t' I f => ⟨fun k a b x n1 n2 => (f k a b x (by omega) (by omega)).trans (I.1 k a b x n1 n2), (f _ _ _ _ (by omega) (by omega)).trans I.2.1, (f _ _ _ _ (by omega) (by omega)).trans I.2.2.1, (f _ _ _ _ (by omega) (by omega)).trans I.2.2.2.1, (f _ _ _ _ (by omega) (by omega)).trans I.2.2.2.2.1, I.2.2.2.2.2.1, (q_mvo (fun x => f _ _ _ _ (by omega) (by omega))).trans I.2.2.2.2.2.2⟩) (fun j t I => ⟨MT t I.1 I.2.2.1, I.2.2.2.2.1⟩) (fun R j t x2 x3 hj I e9 ar good bad => ?_) (fun t I e9 => ?_) (fun j t hj B b1 e9 => ?_) ⟨fun k a b x n1 n2 => ?_, ?_, ?_, ?_, ?_, Nat.zero_le _, ?_⟩
    · obtain ⟨i1, i15, i17, i20, i5, iJ, iw⟩ := I
      unfold wX8_command_b87 wX8_command_b101
      refine q_n0 e9 (q_n1 (by rw [i20]; decide) ?_)
      refine q_mwK (hk j (by omega)) ?_
      rw [q_mwc (hk j (by omega)) ar]
      have et : t = q_mH t 0 (S j).2 := by rw [← iw, q_mE]
      rcases Nat.lt_or_ge j J with z | z
      · obtain ⟨_, x, _, _, kM⟩ := j2 j z
        rw [et]
        refine kM t _ (good _ ⟨fun k a b y n1 n2 => ?_, ?_, ?_, ?_, ?_, z, ?_⟩ ?_ ?_)
        · rw [q_mH, if_neg (by omega)]
          exact i1 k a b y n1 n2
        · rw [q_mo _ _ _ (by decide), i15]
        · rw [q_mo _ _ _ (by decide), i17]
        · rw [q_mo _ _ _ (by decide), i20]
        · rw [q_mo _ _ _ (by decide), i5]
        · exact funext fun e => q_m1 _ _ _ _
        · rw [q_mo _ _ _ (by decide)]
        · rw [q_mo _ _ _ (by decide), e9]
      · have ej : j = J := by omega
        subst ej
        obtain ⟨φ, kk, a1, a2, a3, a4, kF, kM⟩ := j3 (by omega)
        rw [et]
        refine kM t _ (bad _ ⟨rfl, by omega, fun k a b y n1 n2 => ?_, ?_⟩ ?_ ?_)
        · rw [q_mH, if_neg (by omega), g_up_o _ _ _ _ _ _ (by omega)]
          exact i1 k a b y n1 n2
        · rw [q_mo _ _ _ (by decide), g_up_o _ _ _ _ _ _ (by omega), i15]
        · rw [q_mo _ _ _ (by decide), g_up_s]
          exact nI_ne0 (by omega) (by omega)
        · rw [q_mo _ _ _ (by decide), g_up_o _ _ _ _ _ _ (by omega), e9]
    · obtain ⟨i1, i15, i17, i20, i5, iJ, iw⟩ := I
      have eJ : J = N + 1 := by omega
      refine br_t i5 ?_
      unfold wX8_run_b77
      refine q_en0 hch i5 ((i1 _ _ _ _ (by omega) (by omega)).trans ((f1 _ _ _ _ (by omega) (by omega)).trans e2)) (fun h' d1 d2 d3 => K1 eJ h' (fun k a b x n1 n2 => ?_) ?_ d2 ?_ ?_ (fun e he => ?_) (fun e => ?_))
      · rw [d1 _ _ _ _ (by omega) (by omega), i1 _ _ _ _ (by omega) (by omega), f1 _ _ _ _ (by omega) (by omega)]
      · rw [d1 _ _ _ _ (by omega) (by omega), i5]
      · rw [d1 _ _ _ _ (by omega) (by omega), i15]
      · rw [eJ, ← iw]
        exact q_mvo (fun x => d1 _ _ _ _ (by omega) (by omega))
      · rw [d1 _ _ _ _ (by omega) (by omega), i1 _ _ _ _ (by omega) (by omega), e1b e he]
      · have ea : q_mv t 3 = q_mv h 3 := funext fun x => (i1 _ _ _ _ (by omega) (by omega)).trans (f1 _ _ _ _ (by omega) (by omega))
        have eb : q_mv t 1 = q_mv h' 1 := funext fun x => (d1 _ _ _ _ (by omega) (by omega)).symm
        rw [d3 e, ea, eb]
    · obtain ⟨rfl, bJ, i1, i15⟩ := B
      refine br_f b1 (nm_e (nm_e ?_))
      have ej : nI (j + 1) - 1 = nI j := by rw [q_lit 1, pk_sub (by omega), Nat.add_sub_cancel]
      rw [ej]
      unfold wX8_run_b77
      refine q_enX (by rw [g_up_s]; decide) (K0 bJ _ (fun k a b x n1 n2 => ?_) ?_ ?_ ?_ (fun e he => ?_))
      · rw [q_mH, if_neg (by omega), g_up_o _ _ _ _ _ _ (by omega), g_up_o _ _ _ _ _ _ (by omega), i1 _ _ _ _ (by omega) (by omega), f1 _ _ _ _ (by omega) (by omega)]
      · rw [q_mo _ _ _ (by decide), g_up_s]
      · rw [q_mo _ _ _ (by decide), g_up_o _ _ _ _ _ _ (by omega), g_up_s]
      · rw [q_mo _ _ _ (by decide), g_up_o _ _ _ _ _ _ (by omega), g_up_o _ _ _ _ _ _ (by omega), i15]
      · rw [q_m1, q_seg_lt he]
        show g_up (g_up t 5 0 0 4 (nI j)) 5 0 0 1 2 13 1 0 (e + 1) = _
        rw [g_up_o _ _ _ _ _ _ (by omega), g_up_o _ _ _ _ _ _ (by omega), i1 _ _ _ _ (by omega) (by omega), e1b e he]
    · rw [o2 _ _ _ _ (by omega), I.1 _ _ _ _ (by omega) (by omega)]
    · rw [o2 _ _ _ _ (by omega), I.2.1]
    · rw [o2 _ _ _ _ (by omega), I.2.2.1]
    · rw [g_up_s]
    · rw [o2 _ _ _ _ (by omega), I.1 _ _ _ _ (by omega) (by omega), e1]
    · rw [s0]
      exact q_mvo (fun x => (o2 _ _ _ _ (by omega)).trans ((I.1 _ _ _ _ (by omega) (by omega)).trans (f1 _ _ _ _ (by omega) (by omega))))
  · rw [g_up_o _ _ _ _ _ _ (by omega), g_up_o _ _ _ _ _ _ (by omega), g_up_o _ _ _ _ _ _ (by omega)]
  · rw [g_up_o _ _ _ _ _ _ (by omega), g_up_s]
  · rw [g_up_o _ _ _ _ _ _ (by omega), g_up_o _ _ _ _ _ _ (by omega), g_up_s]
  · rw [g_up_s]
