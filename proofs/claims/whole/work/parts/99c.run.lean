/-! ===== run, as the law calls it ===== -/
theorem q_L46 {T : Nat} {h : g_Hp} {Z : Int32 → Int32 → g_Hp → Prop} {EX0 EX1 : String → g_Hp → Prop} (hT : 99 * (T + 330) < 2 ^ 31) (hI : q_I T h) (hZ : q_AN (T + 330) Z) : wL_run h (g_kI (fun k h1 => wX8_run h1 (g_kI (fun b h2 => Z k b h2) EX1)) EX0) := by
  have ⟨hB, hH, hS, hE, ⟨cap, n, cs, x1, x2, x3, x4⟩, hL, hW⟩ := hI
  have ⟨ch, fr, h1, h2, h3, h4, h5, h6⟩ := hH
  unfold wL_run wX7_run
  refine q_rTx x1 x2 (fun N C hR hN TK f34 eN hC => ?_) (fun p' hR hp' TF f34 e4 => ?_)
  -- the text is read
  · refine q_sl0 (q_SBo (fun k a b s hk => f34 k a b s (by omega) (by omega)) x1) (fun hA cap' SA X => q_n1 (by decide) ?_)
    have fA : ∀ k a b s, k ≠ 3 → k ≠ 4 → k ≠ 54 → ¬ (k = 6 ∧ a = 0) → ¬ (k = 14 ∧ a = 0) → hA k a b s = h k a b s := fun k a b s n1 n2 n3 n4 n5 => by
      by_cases y : k = 14
      · subst y
        rw [X.2 _ _ _ (by omega), f34 _ _ _ _ (by omega) (by omega)]
      · rw [X.1 _ _ _ _ y n3 n4, f34 _ _ _ _ n1 n2]
    have fA4 : ∀ j s, hA 4 j 0 s = hR 4 j 0 s := fun j s => X.1 _ _ _ _ (by omega) (by omega) (by omega)
    have ecv : q_cv hA 0 = q_cv h 0 := q_cv_e (fun s => fA _ _ _ _ (by omega) (by omega) (by omega) (by omega) (by omega)) (fun j s => fA _ _ _ _ (by omega) (by omega) (by omega) (by omega) (by omega))
    have hk : ∀ j, j < N + 1 → (C j).2.2.1 < 10 := fun j hj => by
      rcases Nat.lt_or_ge j N with z | z
      · exact q_CKk (TK.1 j z).1
      · have e : j = N := by omega
        subst e
        exact q_CKk TK.2.1
    obtain ⟨J, S, s0, sq⟩ := q_SQx (C := C) (T := T) (a := (q_cv hA 0, q_mv h 0)) (by rw [ecv]; exact hB) (N + 1) (by omega) hk
    have eNA : hA 3 0 0 3 = nI (N + 1) := (X.1 _ _ _ _ (by omega) (by omega) (by omega)).trans eN
    refine q_cAll (H := hA) (w0 := q_mv h 0) hN h1 h2 ((fA _ _ _ _ (by omega) (by omega) (by omega) (by omega) (by omega)).trans h3) ((fA _ _ _ _ (by omega) (by omega) (by omega) (by omega) (by omega)).trans h4) eNA (fun j hj => q_CHo (fA4 j) (hC j hj)) hk (by rw [ecv]; exact hB) s0 sq (fun eJ hC1 c1 g1 g2 g3 g4 g5 g6 => ?_) (fun hJ hC1 g1 g2 => ?_)
    · -- all commands
      refine br_t rfl ?_
      rw [g1 _ _ _ _ (by omega) (by omega), eNA]
      refine nm_e ?_
      show wX8_run (g_up hC1 15 0 0 1 (nI (N + 1))) (g_kI (fun b h2 => Z 0 b h2) EX1)
      have fM : ∀ k a b s, k ≠ 3 → k ≠ 4 → k ≠ 54 → ¬ (k = 6 ∧ a = 0) → ¬ (k = 14 ∧ a = 0) → ¬ (k = 0 ∧ (s = 3 ∨ s = 4)) → ¬ ((k = 1 ∨ k = 2) ∧ (a = 0 ∨ a = fr + 1)) → k ≠ 15 → g_up hC1 15 0 0 1 (nI (N + 1)) k a b s = h k a b s := fun k a b s n1 n2 n3 n4 n5 n6 n7 n8 => by
        rw [q_oth n8, g1 _ _ _ _ n6 n7, fA _ _ _ _ n1 n2 n3 n4 n5]
      have eM : q_mv (g_up hC1 15 0 0 1 (nI (N + 1))) 0 = q_mv h 0 := q_mvo (fun s => fM _ _ _ _ (by omega) (by omega) (by omega) (by omega) (by omega) (by omega) (by omega) (by omega))
      refine q_mRk2 (ch := ch) x2 ((fM _ _ _ _ (by omega) (by omega) (by omega) (by omega) (by omega) (by omega) (by omega) (by omega)).trans x3) (fun e he => (fM _ _ _ _ (by omega) (by omega) (by omega) (by omega) (by omega) (by omega) (by omega) (by omega)).trans (x4 e he).2) (q_WRD_c (fun k a b s hp => fM _ _ _ _ (by omega) (by omega) (by omega) (by omega) (by omega) (by omega) (by omega) (by omega)) hW) TK hN hk h1 ((fM _ _ _ _ (by omega) (by omega) (by omega) (by omega) (by omega) (by omega) (by omega) (by omega)).trans h5) (by rw [s0, eM]) sq (fun _ h' d1 d2 d3 d4 d5 d6 d7 => ?_) (fun hJ => absurd eJ (by omega))
      have fF : ∀ k a b s, k ≠ 3 → k ≠ 4 → k ≠ 54 → ¬ (k = 6 ∧ a = 0) → ¬ (k = 14 ∧ a = 0) → ¬ (k = 0 ∧ (s = 3 ∨ s = 4)) → ¬ ((k = 1 ∨ k = 2) ∧ (a = 0 ∨ a = fr + 1)) → k ≠ 15 → ¬ (k = 5 ∧ (s = 1 ∨ s = 2 ∨ (15 ≤ s ∧ s ≠ 18))) → ¬ (k = 13 ∧ (a = 0 ∨ a = 1 ∨ a = 3 ∨ a = 6)) → h' k a b s = h k a b s := fun k a b s n1 n2 n3 n4 n5 n6 n7 n8 n9 n10 => (d1 _ _ _ _ n9 n10).trans (fM _ _ _ _ n1 n2 n3 n4 n5 n6 n7 n8)
      have fC : ∀ k a b s, k ≠ 5 → k ≠ 13 → k ≠ 15 → h' k a b s = hC1 k a b s := fun k a b s n1 n2 n3 => by rw [d1 _ _ _ _ (by omega) (by omega), q_oth n3]
      refine hZ 0 (nI (N + 1)) h' d2 (fun _ => ?_) ⟨?_, ?_, ?_, ?_, ?_, ?_, ?_⟩
      · rw [d1 _ _ _ _ (by omega) (by omega), g_up_s]
      · have ev : q_cv h' 0 = (S J).1 := (q_cv_e (fun s => fC _ _ _ _ (by omega) (by omega) (by omega)) (fun j s => fC _ _ _ _ (by omega) (by omega) (by omega))).trans g2
        rw [ev, d5]
        exact q_R_mono (by omega) sq.2.2.2
      · have ep : q_mv (g_up hC1 15 0 0 1 (nI (N + 1))) 3 = q_mv h 3 := funext fun e => fM _ _ _ _ (by omega) (by omega) (by omega) (by omega) (by omega) (by omega) (by omega) (by omega)
        refine q_HIS_s (h := h) (T' := T + 330) (Nat.le_add_right _ _) h1 h2 ?_ ?_ d3 h6 (fun i i1 i2 i3 => ?_) ((q_cv_e (fun s => fC _ _ _ _ (by omega) (by omega) (by omega)) (fun j s => fC _ _ _ _ (by omega) (by omega) (by omega))).trans g3) g4 (fun e => ?_) (fun e he => ?_)
        · rw [fC _ _ _ _ (by omega) (by omega) (by omega), g5]
        · rw [fC _ _ _ _ (by omega) (by omega) (by omega), g6]
        · exact q_cv_e (fun s => fF _ _ _ _ (by omega) (by omega) (by omega) (by omega) (by omega) (by omega) (by omega) (by omega) (by omega) (by omega)) (fun j s => fF _ _ _ _ (by omega) (by omega) (by omega) (by omega) (by omega) (by omega) (by omega) (by omega) (by omega) (by omega))
        · rw [d7 e, ep]
        · rw [d6 e he]
          exact fM _ _ _ _ (by omega) (by omega) (by omega) (by omega) (by omega) (by omega) (by omega) (by omega)
      · exact q_SAV_m (Nat.le_add_right _ _) (q_SAV_c (fun k a b s hp => fF _ _ _ _ (by omega) (by omega) (by omega) (by omega) (by omega) (by omega) (by omega) (by omega) (by omega) (by omega)) hS)
      · exact q_ERR_c (fun k a b s hp => fF _ _ _ _ (by omega) (by omega) (by omega) (by omega) (by omega) (by omega) (by omega) (by omega) (by omega) (by omega)) hE
      · refine ⟨cap', 0, fun _ => 0, q_SBo (fun k a b s hp => ?_) (SA _), by decide, d4, fun e he => absurd he (by omega)⟩
        rw [fC _ _ _ _ (by omega) (by omega) (by omega), g1 _ _ _ _ (by omega) (by omega)]
      · exact q_LIN_c (fun k a b s hp => fF _ _ _ _ (by omega) (by omega) (by omega) (by omega) (by omega) (by omega) (by omega) (by omega) (by omega) (by omega)) hL
      · exact q_WRD_c (fun k a b s hp => fF _ _ _ _ (by omega) (by omega) (by omega) (by omega) (by omega) (by omega) (by omega) (by omega) (by omega) (by omega)) hW
    · -- one fails
      refine br_f (q_nm1 (by omega)) (nm_e (Or.inr (And.intro rfl ?_)))
      show wX8_run (g_up hC1 0 0 0 9 (nI J)) (g_kI (fun b h2 => Z 2 b h2) EX1)
      have fM : ∀ k a b s, k ≠ 3 → k ≠ 4 → k ≠ 54 → ¬ (k = 6 ∧ a = 0) → ¬ (k = 14 ∧ a = 0) → ¬ (k = 0 ∧ s = 9) → ¬ ((k = 1 ∨ k = 2) ∧ (a = 0 ∨ a = fr + 1)) → g_up hC1 0 0 0 9 (nI J) k a b s = h k a b s := fun k a b s n1 n2 n3 n4 n5 n6 n7 => by
        rw [g_up_o _ _ _ _ _ _ (by omega), g1 _ _ _ _ n7, fA _ _ _ _ n1 n2 n3 n4 n5]
      have eM : q_mv (g_up hC1 0 0 0 9 (nI J)) 0 = q_mv h 0 := q_mvo (fun s => fM _ _ _ _ (by omega) (by omega) (by omega) (by omega) (by omega) (by omega) (by omega))
      refine q_mRk2 (ch := ch) x2 ((fM _ _ _ _ (by omega) (by omega) (by omega) (by omega) (by omega) (by omega) (by omega)).trans x3) (fun e he => (fM _ _ _ _ (by omega) (by omega) (by omega) (by omega) (by omega) (by omega) (by omega)).trans (x4 e he).2) (q_WRD_c (fun k a b s hp => fM _ _ _ _ (by omega) (by omega) (by omega) (by omega) (by omega) (by omega) (by omega)) hW) TK hN hk h1 ((fM _ _ _ _ (by omega) (by omega) (by omega) (by omega) (by omega) (by omega) (by omega)).trans h5) (by rw [s0, eM]) sq (fun eJ => absurd eJ (by omega)) (fun _ h' d1 d2 d3 d4 d5 => ?_)
      have fF : ∀ k a b s, k ≠ 3 → k ≠ 4 → k ≠ 54 → ¬ (k = 6 ∧ a = 0) → ¬ (k = 14 ∧ a = 0) → ¬ (k = 0 ∧ s = 9) → ¬ ((k = 1 ∨ k = 2) ∧ (a = 0 ∨ a = fr + 1)) → ¬ (k = 5 ∧ (s = 1 ∨ s = 4 ∨ (15 ≤ s ∧ s ≠ 18))) → ¬ (k = 13 ∧ (a = 0 ∨ a = 1 ∨ a = 6)) → h' k a b s = h k a b s := fun k a b s n1 n2 n3 n4 n5 n6 n7 n8 n9 => (d1 _ _ _ _ n8 n9).trans (fM _ _ _ _ n1 n2 n3 n4 n5 n6 n7)
      have fC : ∀ k a b s, k ≠ 5 → k ≠ 13 → ¬ (k = 0 ∧ s = 9) → h' k a b s = hC1 k a b s := fun k a b s n1 n2 n3 => by rw [d1 _ _ _ _ (by omega) (by omega), g_up_o _ _ _ _ _ _ (by omega)]
      have ⟨er1, er2, er3, er4⟩ := hE
      refine hZ 2 0 h' d2 (fun q => absurd q (by decide)) (q_I_m (Nat.le_add_right T 330) ⟨?_, ⟨ch, fr, h1, h2, ?_, ?_, ?_, fun j hj => ?_⟩, q_SAV_c (fun k a b s hp => fF _ _ _ _ (by omega) (by omega) (by omega) (by omega) (by omega) (by omega) (by omega) (by omega) (by omega)) hS, ⟨?_, ?_, ?_, ?_⟩, ⟨cap', 0, fun _ => 0, q_SBo (fun k a b s hp => ?_) (SA _), by decide, d4, fun e he => absurd he (by omega)⟩, q_LIN_c (fun k a b s hp => fF _ _ _ _ (by omega) (by omega) (by omega) (by omega) (by omega) (by omega) (by omega) (by omega) (by omega)) hL, q_WRD_c (fun k a b s hp => fF _ _ _ _ (by omega) (by omega) (by omega) (by omega) (by omega) (by omega) (by omega) (by omega) (by omega)) hW⟩)
      · have ev : q_cv h' 0 = q_cv hC1 0 := q_cv_e (fun s => fC _ _ _ _ (by omega) (by omega) (by omega)) (fun j s => fC _ _ _ _ (by omega) (by omega) (by omega))
        rw [ev]
        refine q_R_eq (fun _ _ _ => rfl) (fun _ _ _ _ => rfl) (fun e he => ?_) g2
        show h' 13 0 0 (e + 1) = h 13 0 0 (e + 1)
        rw [d5 e he]
        exact fM _ _ _ _ (by omega) (by omega) (by omega) (by omega) (by omega) (by omega) (by omega)
      · exact (fF _ _ _ _ (by omega) (by omega) (by omega) (by omega) (by omega) (by omega) (by omega) (by omega) (by omega)).trans h3
      · exact (fF _ _ _ _ (by omega) (by omega) (by omega) (by omega) (by omega) (by omega) (by omega) (by omega) (by omega)).trans h4
      · exact (fF _ _ _ _ (by omega) (by omega) (by omega) (by omega) (by omega) (by omega) (by omega) (by omega) (by omega)).trans h5
      · have k3 : q_cv h' ((fr + 9 - ch + j) % 9 + 1) = q_cv h ((fr + 9 - ch + j) % 9 + 1) := q_cv_e (fun s => fF _ _ _ _ (by omega) (by omega) (by omega) (by omega) (by omega) (by omega) (by omega) (by omega) (by omega)) (fun j' s => fF _ _ _ _ (by omega) (by omega) (by omega) (by omega) (by omega) (by omega) (by omega) (by omega) (by omega))
        rw [k3]
        have k4 : (fun e => h' 13 3 0 (169 * j + e + 1)) = (fun e => h 13 3 0 (169 * j + e + 1)) := funext fun e => fF _ _ _ _ (by omega) (by omega) (by omega) (by omega) (by omega) (by omega) (by omega) (by omega) (by omega)
        rw [k4]
        exact h6 j hj
      · rw [fF _ _ _ _ (by omega) (by omega) (by omega) (by omega) (by omega) (by omega) (by omega) (by omega) (by omega), fF 5 0 0 3 (by omega) (by omega) (by omega) (by omega) (by omega) (by omega) (by omega) (by omega) (by omega)]
        exact er1
      · rw [d1 _ _ _ _ (by omega) (by omega), g_up_s, d3]
      · rw [fF 5 0 0 3 (by omega) (by omega) (by omega) (by omega) (by omega) (by omega) (by omega) (by omega) (by omega)]
        exact er3
      · exact Or.inr ⟨J, by omega, d3⟩
      · rw [fC _ _ _ _ (by omega) (by omega) (by omega), g1 _ _ _ _ (by omega)]
  -- it isn't read
  · refine q_sl0 (q_SBo (fun k a b s hk => f34 k a b s (by omega) (by omega)) x1) (fun hA cap' SA X => q_n0 rfl (nm_e (Or.inl (And.intro rfl ?_))))
    have eP : hA 3 0 0 4 = nI p' := (X.1 _ _ _ _ (by omega) (by omega) (by omega)).trans e4
    rw [eP]
    show wX8_run (g_up hA 0 0 0 8 (nI p')) (g_kI (fun b h2 => Z 1 b h2) EX1)
    have fM : ∀ k a b s, k ≠ 3 → k ≠ 4 → k ≠ 54 → ¬ (k = 6 ∧ a = 0) → ¬ (k = 14 ∧ a = 0) → ¬ (k = 0 ∧ s = 8) → g_up hA 0 0 0 8 (nI p') k a b s = h k a b s := fun k a b s n1 n2 n3 n4 n5 n6 => by
      rw [g_up_o _ _ _ _ _ _ (by omega)]
      by_cases y : k = 14
      · subst y
        rw [X.2 _ _ _ (by omega), f34 _ _ _ _ (by omega) (by omega)]
      · rw [X.1 _ _ _ _ y n3 n4, f34 _ _ _ _ n1 n2]
    refine q_mRx x2 ((fM _ _ _ _ (by omega) (by omega) (by omega) (by omega) (by omega) (by omega)).trans x3) (fun e he => (fM _ _ _ _ (by omega) (by omega) (by omega) (by omega) (by omega) (by omega)).trans (x4 e he).2) (q_WRD_c (fun k a b s hp => fM _ _ _ _ (by omega) (by omega) (by omega) (by omega) (by omega) (by omega)) hW) TF (fun h' d1 d2 d3 d4 => ?_)
    have fF : ∀ k a b s, k ≠ 3 → k ≠ 4 → k ≠ 54 → ¬ (k = 6 ∧ a = 0) → ¬ (k = 14 ∧ a = 0) → ¬ (k = 0 ∧ s = 8) → ¬ (k = 5 ∧ (s = 1 ∨ s = 3 ∨ (15 ≤ s ∧ s ≠ 18))) → ¬ (k = 13 ∧ (a = 1 ∨ a = 6)) → h' k a b s = h k a b s := fun k a b s n1 n2 n3 n4 n5 n6 n7 n8 => (d1 _ _ _ _ n7 n8).trans (fM _ _ _ _ n1 n2 n3 n4 n5 n6)
    have ⟨er1, er2, er3, er4⟩ := hE
    refine hZ 1 0 h' d2 (fun q => absurd q (by decide)) (q_I_m (Nat.le_add_right T 330) ⟨q_BK_c (fun k a b s hp => fF _ _ _ _ (by omega) (by omega) (by omega) (by omega) (by omega) (by omega) (by omega) (by omega)) hB, q_HIS_c (fun k a b s hp => fF _ _ _ _ (by omega) (by omega) (by omega) (by omega) (by omega) (by omega) (by omega) (by omega)) hH, q_SAV_c (fun k a b s hp => fF _ _ _ _ (by omega) (by omega) (by omega) (by omega) (by omega) (by omega) (by omega) (by omega)) hS, ⟨?_, ?_, ?_, ?_⟩, ⟨cap', 0, fun _ => 0, q_SBo (fun k a b s hp => ?_) (SA _), by decide, d4, fun e he => absurd he (by omega)⟩, q_LIN_c (fun k a b s hp => fF _ _ _ _ (by omega) (by omega) (by omega) (by omega) (by omega) (by omega) (by omega) (by omega)) hL, q_WRD_c (fun k a b s hp => fF _ _ _ _ (by omega) (by omega) (by omega) (by omega) (by omega) (by omega) (by omega) (by omega)) hW⟩)
    · rw [d1 _ _ _ _ (by omega) (by omega), g_up_s, d3]
    · rw [fF _ _ _ _ (by omega) (by omega) (by omega) (by omega) (by omega) (by omega) (by omega) (by omega), fF 5 0 0 4 (by omega) (by omega) (by omega) (by omega) (by omega) (by omega) (by omega) (by omega)]
      exact er2
    · exact Or.inr ⟨p', hp', d3⟩
    · rw [fF 5 0 0 4 (by omega) (by omega) (by omega) (by omega) (by omega) (by omega) (by omega) (by omega)]
      exact er4
    · rw [d1 _ _ _ _ (by omega) (by omega), g_up_o _ _ _ _ _ _ (by omega)]
