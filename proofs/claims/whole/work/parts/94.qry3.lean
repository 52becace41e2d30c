/-! ===== queries: floating, lists ===== -/
theorem q_mvo {h h' : g_Hp} (e : ∀ s, h' 13 0 0 s = h 13 0 0 s) : q_mv h' 0 = q_mv h 0 := funext fun k => e (k + 1)
theorem q_mLs {n m : Nat} {ll : Nat → Nat} {it : Nat → Nat → Nat} {g : Nat → Nat → Int32} {H : g_Hp} {Q : g_R → g_Hp → Prop} (hn : n ≤ 12) (hm : m < n) (hL : q_RL n ll it g (q_mv H 0)) : (g m 10 = -1 → Q (.inl (some (vI (-1)))) H → wX8_list (nI m) H Q) ∧ (∀ r, g m 10 = nI r → r < 10 → Q (.inl (some (vI (nI r)))) H → wX8_list (nI m) H Q) := by
  have y := q_mLR (h := H) (w := q_mv H 0) (Q := Q) hn hm hL
  rw [q_mE] at y
  exact y
theorem q_fOL0 {n : Nat} {r k : Int32} {H : g_Hp} {Q : g_R → g_Hp → Prop} (hN : H 1 0 0 2 = nI n) (hn : n ≤ 12) (hno : ∀ m, m < n → ¬ (H 2 0 m 10 = r ∧ H 2 0 m 11 = k)) (K : Q (.inl (some (vI (-1)))) H) : wX1_findOnList 0 r k H Q := by
  refine q_loop (fun f i => wX1_findOnList_b2_I 0 Q f r k (nI i) H) n 0 (Nat.zero_le _) ?_ ?_
  · intro f
    show wX1_findOnList_b2_B 0 Q _ _ _ _ H
    unfold wX1_findOnList_b2_B
    rw [hN]
    exact br_t (nI_le (Nat.le_refl _) (by omega)) K
  · intro f i _ hi hk
    show wX1_findOnList_b2_B 0 Q _ _ _ _ H
    unfold wX1_findOnList_b2_B wX1_findOnList_b38
    rw [hN]
    refine br_f (nI_ge hi (by omega)) (And.intro (q_vI (by omega) (by decide)) (nm_r (nI_clamp (by omega)) ?_))
    exact And.intro (fun _ => nm_r (nI_1 i) hk) (fun c => And.intro (fun _ => nm_r (nI_1 i) hk) (fun c2 => absurd ⟨c, c2⟩ (hno i hi)))
theorem q_fOL1 {n m : Nat} {r k : Int32} {H : g_Hp} {Q : g_R → g_Hp → Prop} (hN : H 1 0 0 2 = nI n) (hn : n ≤ 12) (hm : m < n) (h1 : H 2 0 m 10 = r) (h2 : H 2 0 m 11 = k) (hno : ∀ m', m' < m → ¬ (H 2 0 m' 10 = r ∧ H 2 0 m' 11 = k)) (K : Q (.inl (some (vI (nI m)))) H) : wX1_findOnList 0 r k H Q := by
  refine q_loop (fun f i => wX1_findOnList_b2_I 0 Q f r k (nI i) H) m 0 (Nat.zero_le _) ?_ ?_
  · intro f
    show wX1_findOnList_b2_B 0 Q _ _ _ _ H
    unfold wX1_findOnList_b2_B
    rw [hN]
    exact br_f (nI_ge hm (by omega)) (And.intro (q_vI (by omega) (by decide)) (nm_r (nI_clamp (by omega)) (q_n0 h1 (q_n0 h2 K))))
  · intro f i _ hi hk
    show wX1_findOnList_b2_B 0 Q _ _ _ _ H
    unfold wX1_findOnList_b2_B wX1_findOnList_b38
    rw [hN]
    refine br_f (nI_ge (by omega) (by omega)) (And.intro (q_vI (by omega) (by decide)) (nm_r (nI_clamp (by omega)) ?_))
    exact And.intro (fun _ => nm_r (nI_1 i) hk) (fun c => And.intro (fun _ => nm_r (nI_1 i) hk) (fun c2 => absurd ⟨c, c2⟩ (hno i hi)))
section QN
variable {T : Nat} {h : g_Hp} {p p1 : Int32} {Z : Int32 → Int32 → g_Hp → Prop} {EX0 EX1 : String → g_Hp → Prop}
theorem q_L9 {Z : Int32 → UInt32 → g_Hp → Prop} (hI : q_I T h) (hZ : ∀ k b h2, h2 5 0 0 1 = k → (k = 0 → vf_n32 b ∧ vf_n64 (FP.f2d b) ∧ h2 16 0 0 1 = ((FP.f2d b).toNat / 2 ^ 32).toInt32 ∧ h2 16 0 0 2 = ((FP.f2d b).toNat % 2 ^ 32).toInt32) → q_I T h2 → Z k b h2) : wL_lostDays p h (g_kI (fun k h1 => wX8_lostDays p h1 (g_kF (fun b h2 => Z k b h2) EX1)) EX0) := by
  obtain ⟨n, ll, it, ⟨⟨s1, s2, s3, _⟩, ⟨m1, _, m3⟩, _⟩⟩ := hI.1
  have e2 : h 1 0 0 2 = nI n := s2
  have e0 : h 13 0 0 1 = nI n := s3
  unfold wL_lostDays wX7_lostDays
  rcases q_px p s1 with e | ⟨m, hm, rfl⟩
  · refine q_ex0 e2 e (And.intro rfl ?_)
    refine q_to0 (fr := 71) e0 s1 e (And.intro (q_oV32 (q_fd3 0)) (hZ 1 _ _ (g_up_s _ _ _ _ _ _) (fun q => absurd q (by decide)) (q_Iq _ hI)))
  · have mb : h 13 0 0 (71 + m + 1) = h 2 0 m 6 := (m1 m 6 hm (by decide) (by decide)).symm
    refine q_ex1 e2 s1 hm (And.intro rfl (And.intro (q_oV32 (q_fd3 _)) (And.intro (q_oV64 (q_f2d (q_fd3 _))) (nm_e ?_))))
    refine q_to1 (fr := 71) (h := g_upd h _) ((q_odh (by decide)).trans e0) s1 hm (by decide) ?_
    rw [q_odh (by decide), mb]
    refine And.intro (q_oV32 (q_fd3 _)) (hZ 0 _ _ (g_up_s _ _ _ _ _ _) (fun _ => And.intro (q_oV32 (q_fd3 _)) (And.intro (q_oV64 (q_f2d (q_fd3 _))) (And.intro ?_ ?_))) (q_Iq 0 (q_Id _ hI)))
    · rw [q_tho (by decide)]
      unfold g_upd
      rw [g_up_o _ _ _ _ _ _ (by omega), g_up_s]
    · rw [q_tho (by decide)]
      unfold g_upd
      rw [g_up_s]
theorem q_L51 {Z : Int32 → UInt64 → g_Hp → Prop} (hI : q_I T h) (hZ : ∀ k b h2, h2 5 0 0 1 = k → (k = 0 → vf_n64 b ∧ h2 16 0 0 1 = (b.toNat / 2 ^ 32).toInt32 ∧ h2 16 0 0 2 = (b.toNat % 2 ^ 32).toInt32) → q_I T h2 → Z k b h2) : wL_meanLostDays h (g_kI (fun k h1 => wX8_meanLostDays h1 (g_kD (fun b h2 => Z k b h2) EX1)) EX0) := by
  obtain ⟨n, ll, it, ⟨⟨s1, s2, s3, _⟩, ⟨m1, _, m3⟩, _⟩⟩ := hI.1
  have e2 : h 1 0 0 2 = nI n := s2
  have e0 : h 13 0 0 1 = nI n := s3
  unfold wL_meanLostDays wX7_meanLostDays
  by_cases z : n = 0
  · subst z
    refine q_rm0 e2 (And.intro rfl ?_)
    show wX8_meanLostDays h (g_kD (fun b h2 => Z 1 b h2) EX1)
    unfold wX8_meanLostDays
    rw [q_k0]
    refine q_n0 e0 ?_
    unfold wX8_meanLostDays_b15
    exact nm_e (q_n1 (by rw [g_up_s]; decide) (hZ 1 _ _ (g_up_s _ _ _ _ _ _) (fun q => absurd q (by decide)) (q_Iq _ hI)))
  · have hd : ∀ x : Int32, vf_n64 (FP.ddiv (FP.i2d x) (FP.i2d ((3 : Int32) * nI n))) := fun x => q_oV64 (q_dd3 x (by omega) s1)
    refine q_rm1 e2 s1 (by omega) (q_sLM e2 s1 ?_)
    show vf_n64 (FP.ddiv (FP.i2d (q_sw (fun m => h 2 0 m 6) n)) (FP.i2d ((3 : Int32) * h 1 0 0 2))) ∧ ∀ h3 : g_Hp, h3 = g_upd h (FP.ddiv (FP.i2d (q_sw (fun m => h 2 0 m 6) n)) (FP.i2d ((3 : Int32) * h 1 0 0 2))) → wX8_meanLostDays h3 (g_kD (fun b h2 => Z 0 b h2) EX1)
    rw [e2]
    refine And.intro (hd _) (nm_e ?_)
    unfold wX8_meanLostDays
    rw [q_k0, q_odh (by decide), e0]
    refine q_n1 (nI_ne0 (by omega) (by omega)) ?_
    unfold wX8_meanLostDays_b15
    refine nm_e (q_n0 (g_up_s _ _ _ _ _ _) (q_mLS (n := n) ((q_tho (by decide)).trans ((q_odh (by decide)).trans e0)) s1 ?_))
    have e : ∀ x, q_sw (fun m => g_up (g_upd h x) 5 0 0 1 0 13 0 0 (71 + m + 1)) n = q_sw (fun m => h 2 0 m 6) n := fun x => q_sw_congr (fun k hk => (q_tho (by decide)).trans ((q_odh (by decide)).trans (m1 k 6 hk (by decide) (by decide)).symm))
    rw [e]
    have ez : ∀ x, g_up (g_upd h x) 5 0 0 1 0 13 0 0 ((0 : Int32).toNatClampNeg + 1) = nI n := fun x => by
      rw [q_k0]
      exact (q_tho (by decide)).trans ((q_odh (by decide)).trans e0)
    show vf_n64 (FP.ddiv (FP.i2d (q_sw (fun m => h 2 0 m 6) n)) (FP.i2d ((3 : Int32) * g_up (g_upd h _) 5 0 0 1 0 13 0 0 ((0 : Int32).toNatClampNeg + 1)))) ∧ Z 0 (FP.ddiv (FP.i2d (q_sw (fun m => h 2 0 m 6) n)) (FP.i2d ((3 : Int32) * g_up (g_upd h _) 5 0 0 1 0 13 0 0 ((0 : Int32).toNatClampNeg + 1)))) _
    rw [ez]
    refine And.intro (hd _) (hZ 0 _ _ (g_up_s _ _ _ _ _ _) (fun _ => And.intro (hd _) (And.intro ?_ ?_)) (q_Iq 0 (q_Id _ hI)))
    · rw [q_tho (by decide)]
      unfold g_upd
      rw [g_up_o _ _ _ _ _ _ (by omega), g_up_s]
    · rw [q_tho (by decide)]
      unfold g_upd
      rw [g_up_s]
theorem q_L32 (hI : q_I T h) (hZ : q_AN T Z) : wL_listLength p h (g_kI (fun k h1 => wX8_listLength p h1 (g_kI (fun b h2 => Z k b h2) EX1)) EX0) := by
  obtain ⟨n, ll, it, ⟨⟨s1, s2, s3, _⟩, ⟨m1, _, m3⟩, ⟨l1, l2, l3⟩⟩⟩ := hI.1
  have e2 : h 1 0 0 2 = nI n := s2
  unfold wL_listLength wX7_listLength
  have bad : ∀ Q : g_R → g_Hp → Prop, (p < 0 ∨ nI 10 ≤ p) → Q (.inl (some (vI 0))) (g_up h 5 0 0 1 1) → wX8_listLength p h Q := fun Q e K => by
    unfold wX8_listLength
    refine q_mR0 e (br_t rfl ?_)
    unfold wX8_listLength_b13
    exact nm_e (q_n1 (by rw [g_up_s]; decide) K)
  rcases pk_ix p (n := 10) (by decide) with e | e | ⟨r, hr, rfl⟩
  · exact q_rr0 (Or.inl e) (And.intro rfl (bad _ (Or.inl e) (q_anE hZ hI (k := 1) (by decide) (by decide) 0)))
  · exact q_rr0 (Or.inr e) (And.intro rfl (bad _ (Or.inr e) (q_anE hZ hI (k := 1) (by decide) (by decide) 0)))
  · have ⟨a1, a2, a3⟩ := l1 r hr
    have a2' : h 13 0 0 (119 + r + 1) = nI (ll r) := a2
    refine q_rr1 hr (q_cOL (nI r) e2 s1 (nm_e ?_))
    have a3' : q_ct (fun m => decide (h 2 0 m 10 = nI r)) n = ll r := a3
    rw [a3']
    show wX8_listLength (nI r) (g_up h 15 0 0 1 (nI (ll r))) (g_kI (fun b h2 => Z 0 b h2) EX1)
    unfold wX8_listLength
    refine q_mR1 hr (br_f (by decide) ?_)
    unfold wX8_listLength_b13
    refine nm_e (q_n0 (g_up_s _ _ _ _ _ _) (And.intro (q_v119 (by omega)) ?_))
    rw [q_i119 (by omega), q_H2o (by decide) (by decide), a2']
    exact q_an0 hZ hI _
theorem q_L33 (hI : q_I T h) (hZ : q_AN T Z) : wL_listedAt p p1 h (g_kI (fun k h1 => wX8_listedAt p p1 h1 (g_kI (fun b h2 => Z k b h2) EX1)) EX0) := by
  obtain ⟨n, ll, it, ⟨⟨s1, s2, s3, _⟩, ⟨m1, _, m3⟩, ⟨l1, l2, l3⟩⟩⟩ := hI.1
  have e2 : h 1 0 0 2 = nI n := s2
  unfold wL_listedAt wX7_listedAt
  have bad : ∀ Q : g_R → g_Hp → Prop, (p < 0 ∨ nI 10 ≤ p) → Q (.inl (some (vI 0))) (g_up h 5 0 0 1 1) → wX8_listedAt p p1 h Q := fun Q e K => by
    unfold wX8_listedAt
    refine q_mR0 e (q_n0 rfl ?_)
    unfold wX8_listedAt_b36
    exact nm_e (q_n1 (by rw [g_up_s]; decide) K)
  rcases pk_ix p (n := 10) (by decide) with e | e | ⟨r, hr, rfl⟩
  · exact q_rr0 (Or.inl e) (Or.inl (And.intro rfl (bad _ (Or.inl e) (q_anE hZ hI (k := 1) (by decide) (by decide) 0))))
  · exact q_rr0 (Or.inr e) (Or.inl (And.intro rfl (bad _ (Or.inr e) (q_anE hZ hI (k := 1) (by decide) (by decide) 0))))
  · have ⟨a1, a2, a3⟩ := l1 r hr
    have a2' : h 13 0 0 (119 + r + 1) = nI (ll r) := a2
    have l2' : ∀ k, k < ll r → it r k < n ∧ h 13 0 0 (129 + 4 * r + k + 1) = nI (it r k) ∧ h 2 0 (it r k) 10 = nI r ∧ h 2 0 (it r k) 11 = nI k := fun k hk => l2 r k hr hk
    have uq : ∀ m, m < n → h 2 0 m 10 = nI r → ∃ k, k < ll r ∧ it r k = m := fun m hm q => by
      have q' : (q_cv h 0).2 m 10 = nI r := q
      rcases l3 m hm with y | ⟨r', k, hr', hk, y⟩
      · rw [y] at q'
        have := congrArg Int32.toInt q'
        rw [nI_toInt (by omega)] at this
        have y3 : (-1 : Int32).toInt = -1 := by decide
        omega
      · have y2 := (l2 r' k hr' hk).2.2.1
        rw [y, q'] at y2
        have y3 : r = r' := (nI_eq (by omega) (by omega)).mp y2
        subst y3
        exact ⟨k, hk, y⟩
    refine q_rr1 hr ?_
    show wX1_findOnList 0 (nI r) p1 h _
    rcases pk_ix p1 (n := ll r) (by omega) with e | e | ⟨k, hk, rfl⟩
    all_goals try (
      refine q_fOL0 e2 s1 (fun m hm q => ?_) (q_n0 rfl (Or.inr (And.intro rfl ?_)))
      · obtain ⟨k, hk, y⟩ := uq m hm q.1
        have y2 := (l2' k hk).2.2.2
        rw [y, q.2] at y2
        rw [y2] at e
        first
          | exact q_nlt0 (by omega) e
          | exact nI_ge hk (by omega) e
      · show wX8_listedAt (nI r) p1 h (g_kI (fun b h2 => Z 2 b h2) EX1)
        unfold wX8_listedAt
        refine q_mR1 hr (q_n1 (by decide) (And.intro (q_v119 (by omega)) ?_))
        rw [q_i119 (by omega), a2']
        refine q_isI0 ?_ (br_t rfl ?_)
        · first
            | exact Or.inl e
            | (refine Or.inr ?_
               rw [Int32.le_iff_toInt_le, nI_toInt (by omega)] at e
               rw [Int32.lt_iff_toInt_lt, q_lit 1, pk_sub_toInt (by omega) (by decide)]
               omega)
        · unfold wX8_listedAt_b36
          exact nm_e (q_n1 (by rw [g_up_s]; decide) (q_anE hZ hI (k := 2) (by decide) (by decide) 0)))
    have ⟨b1, b2, b3, b4⟩ := l2' k hk
    refine q_fOL1 e2 s1 b1 b3 b4 (fun m' hm' q => ?_) (q_n1 (fun q => ?_) (nm_e ?_))
    · obtain ⟨k', hk', y⟩ := uq m' (by omega) q.1
      have y2 := (l2' k' hk').2.2.2
      rw [y, q.2] at y2
      have y3 : k = k' := (nI_eq (by omega) (by omega)).mp y2
      subst y3
      omega
    · have := congrArg Int32.toInt q
      rw [nI_toInt (by omega)] at this
      have y3 : (-1 : Int32).toInt = -1 := by decide
      omega
    · show wX8_listedAt (nI r) (nI k) (g_up h 15 0 0 1 (nI (it r k))) (g_kI (fun b h2 => Z 0 b h2) EX1)
      unfold wX8_listedAt
      refine q_mR1 hr (q_n1 (by decide) (And.intro (q_v119 (by omega)) ?_))
      rw [q_i119 (by omega), q_oth (by decide), a2']
      refine q_isI1 (q_nlt0 (by omega)) ?_ (br_f (by decide) ?_)
      · rw [q_lit 1, pk_sub (by omega)]
        exact nI_nlt (by omega) (by omega)
      · unfold wX8_listedAt_b36 wX8_listed
        refine nm_e (q_n0 (g_up_s _ _ _ _ _ _) ?_)
        rw [q_li]
        refine And.intro (q_vI (by omega) (by decide)) ?_
        rw [nI_clamp (by omega), q_H2o (by decide) (by decide), b2]
        exact q_an0 hZ hI _
theorem q_L34 (hI : q_I T h) (hZ : q_AN T Z) : wL_listOf p h (g_kI (fun k h1 => wX8_listOf p h1 (g_kI (fun b h2 => Z k b h2) EX1)) EX0) := by
  obtain ⟨n, ll, it, ⟨⟨s1, s2, s3, _⟩, ⟨m1, _, m3⟩, hL⟩⟩ := hI.1
  have ⟨l1, l2, l3⟩ := hL
  have e2 : h 1 0 0 2 = nI n := s2
  have e0 : h 13 0 0 1 = nI n := s3
  unfold wL_listOf wX7_listOf
  rcases q_px p s1 with e | ⟨m, hm, rfl⟩
  · refine q_ex0 e2 e (Or.inl (And.intro rfl ?_))
    show wX8_listOf p h (g_kI (fun b h2 => Z 1 b h2) EX1)
    unfold wX8_listOf
    refine q_mM0 e0 s1 e (q_n0 rfl ?_)
    unfold wX8_listOf_b26
    exact nm_e (q_n1 (by rw [g_up_s]; decide) (q_anE hZ hI (k := 1) (by decide) (by decide) 0))
  · refine q_ex1 e2 s1 hm (And.intro rfl (nm_e ?_))
    show ((¬ h 2 0 m 10 = -1) → _) ∧ _
    rcases l3 m hm with y | ⟨r, k, hr, hk, y⟩
    · have y' : h 2 0 m 10 = -1 := y
      refine q_n0 y' (Or.inr (And.intro rfl ?_))
      show wX8_listOf (nI m) h (g_kI (fun b h2 => Z 2 b h2) EX1)
      unfold wX8_listOf
      refine q_mM1 e0 s1 hm (q_n1 (by decide) ((q_mLs (H := h) s1 hm hL).1 y (br_f (by decide) ?_)))
      unfold wX8_listOf_b26
      exact nm_e (q_n1 (by rw [g_up_s]; decide) (q_anE hZ hI (k := 2) (by decide) (by decide) 0))
    · have y2 := (l2 r k hr hk).2.2.1
      rw [y] at y2
      have y' : h 2 0 m 10 = nI r := y2
      rw [y']
      refine q_n1 (fun q => ?_) (nm_e ?_)
      · have := congrArg Int32.toInt q
        rw [nI_toInt (by omega)] at this
        have y3 : (-1 : Int32).toInt = -1 := by decide
        omega
      · show wX8_listOf (nI m) (g_up h 15 0 0 1 (nI r)) (g_kI (fun b h2 => Z 0 b h2) EX1)
        have E1 : q_mv (g_up h 15 0 0 1 (nI r)) 0 = q_mv h 0 := q_mvo (fun s => q_oth (by decide))
        have E2 : q_mv (g_up (g_up h 15 0 0 1 (nI r)) 5 0 0 1 0) 0 = q_mv h 0 := q_mvo (fun s => q_H2o (by decide) (by decide))
        unfold wX8_listOf
        refine q_mM1 ((q_oth (by decide)).trans e0) s1 hm (q_n1 (by decide) ((q_mLs s1 hm (by rw [E1]; exact hL)).2 r y2 hr (br_t (nI_le (a := 0) (Nat.zero_le _) (by omega)) ?_)))
        unfold wX8_listOf_b26
        exact nm_e (q_n0 (g_up_s _ _ _ _ _ _) ((q_mLs s1 hm (by rw [E2]; exact hL)).2 r y2 hr (q_an0 hZ hI _)))
end QN
