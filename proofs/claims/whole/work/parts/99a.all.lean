/-! ===== the class carries out ===== -/
theorem q_CKk {A : Nat → Int32} {r : q_rc} (h : q_CR A r) : r.2.2.1 < 10 := by
  obtain ⟨p3, p4, c3, _, _⟩ := h
  exact c3.1.1
theorem q_cAll {T N J ch fr : Nat} {C : Nat → q_rc} {S : Nat → q_S} {H : g_Hp} {w0 : Nat → Int32} {Q : g_R → g_Hp → Prop} (hN : N < 10) (hch : ch ≤ 8) (hfr : fr < 9) (e3 : H 0 0 0 3 = nI fr) (e4 : H 0 0 0 4 = nI ch) (eN : H 3 0 0 3 = nI (N + 1)) (hC : ∀ j, j < N + 1 → q_CH H j (C j)) (hk : ∀ j, j < N + 1 → (C j).2.2.1 < 10) (hR : q_R T (q_cv H 0) w0) (s0 : S 0 = (q_cv H 0, w0)) (hS : q_SQ C T (N + 1) J S)
    (K1 : J = N + 1 → ∀ h' c1, (∀ k a b s, ¬ (k = 0 ∧ (s = 3 ∨ s = 4)) → ¬ ((k = 1 ∨ k = 2) ∧ (a = 0 ∨ a = fr + 1)) → h' k a b s = H k a b s) → q_cv h' 0 = (S J).1 → q_cv h' (fr + 1) = c1 → q_R T c1 w0 → h' 0 0 0 3 = nI ((fr + 1) % 9) → h' 0 0 0 4 = nI (min (ch + 1) 8) → Q (.inl (some (vI (-1)))) h')
    (K0 : J < N + 1 → ∀ h', (∀ k a b s, ¬ ((k = 1 ∨ k = 2) ∧ (a = 0 ∨ a = fr + 1)) → h' k a b s = H k a b s) → q_R T (q_cv h' 0) w0 → Q (.inl (some (vI (nI J)))) h') : wX7_carryOutAll H Q := by
  obtain ⟨j1, j2, j3, j4⟩ := hS
  unfold wX7_carryOutAll
  refine q_bC hfr e3 hR (fun c1 hc1 => ?_)
  have ec : q_cv (q_cH H (fr + 1) c1) 0 = q_cv H 0 := q_cv_e (fun s => q_cb _ _ _ (by omega)) (fun m s => q_cb _ _ _ (by omega))
  have eS : q_cH (q_cH H (fr + 1) c1) 0 (S 0).1 = q_cH H (fr + 1) c1 := by
    rw [s0]
    show q_cH (q_cH H (fr + 1) c1) 0 (q_cv H 0) = _
    rw [← ec, q_cE]
  have f0 : ∀ c k a b s, k ≠ 1 → k ≠ 2 → q_cH (q_cH H (fr + 1) c1) 0 c k a b s = H k a b s := fun c k a b s n1 n2 => by
    rw [q_co _ _ _ ⟨n1, n2⟩, q_co _ _ _ ⟨n1, n2⟩]
  have fwK : ∀ j (Q' : g_R → g_Hp → Prop) φ, j < N + 1 → (∀ h (Q : g_R → g_Hp → Prop), Q (.inl (some (vR 20 φ 0))) (q_cH h 0 (S j).1) → q_fw (C j).2.2.1 (C j).2.2.2.1 (C j).2.2.2.2.1 (q_cH h 0 (S j).1) Q) → Q' (.inl (some (vR 20 φ 0))) (q_cH (q_cH H (fr + 1) c1) 0 (S j).1) → wX1_faultOf 0 j (q_cH (q_cH H (fr + 1) c1) 0 (S j).1) Q' := fun j Q' φ hj kF K => by
    have hc := hC j hj
    refine q_fwK (hk j hj) ((f0 _ _ _ _ _ (by decide) (by decide)).trans hc.1) ?_
    rw [q_fwc (hk j hj) (fun z => (f0 _ _ _ _ _ (by decide) (by decide)).trans (hc.2.1 z)) (fun z => (f0 _ _ _ _ _ (by decide) (by decide)).trans (hc.2.2.1 z))]
    exact kF _ _ (And.intro rfl K)
  have z := q_loop (fun k j => wX7_carryOutAll_b6_I Q k (nI j) (q_cH (q_cH H (fr + 1) c1) 0 (S j).1)) J 0 (Nat.zero_le _) ?_ ?_
  · rw [eS] at z
    exact z
  · intro k
    show wX7_carryOutAll_b6_B Q _ _ _
    unfold wX7_carryOutAll_b6_B
    rw [f0 _ _ _ _ _ (by decide) (by decide), eN]
    by_cases zz : J = N + 1
    · refine br_t (nI_le (by omega) (by omega)) (q_eC hfr hch ((f0 _ _ _ _ _ (by decide) (by decide)).trans e3) ((f0 _ _ _ _ _ (by decide) (by decide)).trans e4) (fun h8 g1 g2 g3 => K1 zz h8 c1 (fun k a b s n1 n2 => ?_) ?_ ?_ hc1 g2 g3))
      · rw [g1 _ _ _ _ n1]
        by_cases y : k ≠ 1 ∧ k ≠ 2
        · exact f0 _ _ _ _ _ y.1 y.2
        · rw [q_cb _ _ _ (by omega), q_cb _ _ _ (by omega)]
      · exact q_cv_c (fun s => by rw [g1 _ _ _ _ (by omega), q_c1]) (fun m s => by rw [g1 _ _ _ _ (by omega), q_c2])
      · exact q_cv_c (fun s => by rw [g1 _ _ _ _ (by omega), q_cb _ _ _ (by omega), q_c1]) (fun m s => by rw [g1 _ _ _ _ (by omega), q_cb _ _ _ (by omega), q_c2])
    · have hJ : J < N + 1 := by omega
      obtain ⟨φ, kk, a1, a2, a3, a4, kF, kM⟩ := j3 hJ
      refine br_f (nI_ge (by omega) (by omega)) (And.intro (q_vI (by omega) (by decide)) (nm_r (nI_clamp (by omega)) (fwK J _ φ hJ kF (And.intro rfl (And.intro (And.intro a2 (by decide)) (br_f (show ¬ φ = 0 by omega) ?_))))))
      show vp_in (q_cH (q_cH H (fr + 1) c1) 0 (S J).1 0 0 0 3) 9 ∧ ∀ i8 : Nat, i8 = (q_cH (q_cH H (fr + 1) c1) 0 (S J).1 0 0 0 3).toNatClampNeg + 1 → wX1_copyFrom 0 i8 (q_cH (q_cH H (fr + 1) c1) 0 (S J).1) _
      rw [f0 _ _ _ _ _ (by decide) (by decide), e3, nI_clamp (by omega)]
      have ef : q_cv (q_cH (q_cH H (fr + 1) c1) 0 (S J).1) (fr + 1) = c1 := q_cv_c (fun s => by rw [q_cb _ _ _ (by omega), q_c1]) (fun m s => by rw [q_cb _ _ _ (by omega), q_c2])
      refine And.intro (q_vI hfr (by decide)) (nm_e (q_cpR (T := T) (w := w0) (by omega) (by rw [ef]; exact hc1) (fun c' hc' _ => K0 hJ _ (fun k a b s n1 => ?_) ?_)))
      · by_cases y : k ≠ 1 ∧ k ≠ 2
        · rw [q_co _ _ _ y, f0 _ _ _ _ _ y.1 y.2]
        · rw [q_cb _ _ _ (by omega), q_cb _ _ _ (by omega), q_cb _ _ _ (by omega)]
      · have e0 : ∀ h, q_cv (q_cH h 0 c') 0 = c' := fun h => q_cv_c (fun s => q_c1 _ _ _ _) (fun m s => q_c2 _ _ _ _ _)
        rw [e0]
        exact hc'
  · intro k j _ hj hkk
    show wX7_carryOutAll_b6_B Q _ _ _
    unfold wX7_carryOutAll_b6_B
    rw [f0 _ _ _ _ _ (by decide) (by decide), eN]
    obtain ⟨_, x, kF, kA, _⟩ := j2 j hj
    have hc := hC j (by omega)
    refine br_f (nI_ge (by omega) (by omega)) (And.intro (q_vI (by omega) (by decide)) (nm_r (nI_clamp (by omega)) (fwK j _ 0 (by omega) kF (And.intro rfl (And.intro (And.intro (by decide) (by decide)) (br_t rfl ?_))))))
    refine q_awK (hk j (by omega)) ((f0 _ _ _ _ _ (by decide) (by decide)).trans hc.1) ?_
    rw [q_awc (hk j (by omega)) (fun z => (f0 _ _ _ _ _ (by decide) (by decide)).trans (hc.2.1 z)) (fun z => (f0 _ _ _ _ _ (by decide) (by decide)).trans (hc.2.2.1 z)) (fun z => (f0 _ _ _ _ _ (by decide) (by decide)).trans (hc.2.2.2 z))]
    exact kA _ _ (nm_r (nI_1 j) hkk)
