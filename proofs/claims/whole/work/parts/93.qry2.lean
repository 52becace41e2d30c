/-! ===== queries, as the law calls them ===== -/
theorem q_px (p : Int32) {n : Nat} (hn : n ≤ 12) : (p < 0 ∨ nI n ≤ p) ∨ ∃ m, m < n ∧ p = nI m := by
  rcases pk_ix p (n := n) (by omega) with e | e | e
  · exact Or.inl (Or.inl e)
  · exact Or.inl (Or.inr e)
  · exact Or.inr e
/-! the model's sides -/
theorem q_mSW1 {n m b d : Nat} {H : g_Hp} {Q : g_R → g_Hp → Prop} (e0 : H 13 0 0 1 = nI n) (hn : n ≤ 12) (hm : m < n) (mb : H 13 0 0 (35 + m + 1) = nI b) (ed : H 13 0 0 2 = nI d) (hb : b < 8) (hd : d < 8) (K : Q (.inl (some (vI (nI (q_far b d))))) (g_up H 5 0 0 1 0)) : wX8_stepsToWind (nI m) H Q := by
  unfold wX8_stepsToWind
  refine q_mM1 e0 hn hm (br_f (by decide) ?_)
  unfold wX8_stepsToWind_b14
  refine nm_e (q_n0 (g_up_s _ _ _ _ _ _) (And.intro (q_v35 (by omega)) ?_))
  rw [q_i35 (by omega), q_k1, q_tho (by decide), q_tho (by decide), mb, ed]
  exact q_mfar hb hd K
theorem q_mSW0 {n : Nat} {p : Int32} {H : g_Hp} {Q : g_R → g_Hp → Prop} (e0 : H 13 0 0 1 = nI n) (hn : n ≤ 12) (e : p < 0 ∨ nI n ≤ p) (K : Q (.inl (some (vI 0))) (g_up H 5 0 0 1 1)) : wX8_stepsToWind p H Q := by
  unfold wX8_stepsToWind
  refine q_mM0 e0 hn e (br_t rfl ?_)
  unfold wX8_stepsToWind_b14
  exact nm_e (q_n1 (by rw [g_up_s]; decide) K)
theorem q_mFS1 {n : Nat} {H : g_Hp} {Q : g_R → g_Hp → Prop} (e0 : H 13 0 0 1 = nI n) (hn : n ≤ 12) (h1 : 1 ≤ n) (K : Q (.inl (some (vI (H 13 0 0 8 / ((2 : Int32) * nI n))))) (g_up H 5 0 0 1 0)) : wX8_fundedShifts H Q := by
  unfold wX8_fundedShifts
  rw [q_k0, e0]
  refine q_n1 (nI_ne0 h1 (by omega)) ?_
  unfold wX8_fundedShifts_b15
  rw [q_k0, q_k7]
  refine nm_e (q_n0 (g_up_s _ _ _ _ _ _) ?_)
  rw [q_tho (by decide), q_tho (by decide), e0]
  refine And.intro ?_ K
  rw [q_lit 2, pk_mul]
  exact nI_ne0 (by omega) (by omega)
theorem q_mFS0 {H : g_Hp} {Q : g_R → g_Hp → Prop} (e0 : H 13 0 0 1 = 0) (K : Q (.inl (some (vI 0))) (g_up H 5 0 0 1 1)) : wX8_fundedShifts H Q := by
  unfold wX8_fundedShifts
  rw [q_k0, e0]
  refine q_n0 rfl ?_
  unfold wX8_fundedShifts_b15
  exact nm_e (q_n1 (by rw [g_up_s]; decide) K)
theorem q_cDF1 {n : Nat} {H : g_Hp} {Q : g_R → g_Hp → Prop} (hN : H 1 0 0 2 = nI n) (hn : n ≤ 12) (h1 : 1 ≤ n) (K : Q (.inl (some (vI (H 1 0 0 10 / ((2 : Int32) * nI n))))) H) : wX1_divideFund 0 H Q := by
  unfold wX1_divideFund
  rw [hN]
  refine q_n1 (nI_ne0 h1 (by omega)) (And.intro ?_ K)
  rw [q_lit 2, pk_mul]
  exact nI_ne0 (by omega) (by omega)
theorem q_mMO {n : Nat} {x : Int32} {H : g_Hp} {Q : g_R → g_Hp → Prop} (hN : H 13 0 0 1 = nI n) (hn : n ≤ 12) (K : ((¬ H 5 0 0 1 = 0) → Q (.inl (some (vI 0))) H) ∧ ((H 5 0 0 1 = 0) → Q (.inl (some (vI (nI (q_ct (fun m => decide (H 13 0 0 (11 + m + 1) = x)) n))))) H)) : wX8_membersOn_b20 Q x 0 0 H := by
  refine q_loop (fun k i => wX8_membersOn_b20_I Q k x (nI (q_ct (fun m => decide (H 13 0 0 (11 + m + 1) = x)) i)) (nI i) H) n 0 (Nat.zero_le _) ?_ ?_
  · intro k
    show wX8_membersOn_b20_B Q _ _ _ _ H
    unfold wX8_membersOn_b20_B
    rw [q_k0, hN]
    exact br_t (nI_le (Nat.le_refl _) (by omega)) K
  · intro k i _ hi hk
    show wX8_membersOn_b20_B Q _ _ _ _ H
    unfold wX8_membersOn_b20_B
    rw [q_k0, hN]
    refine br_f (nI_ge hi (by omega)) ?_
    rw [q_i11 (by omega)]
    refine And.intro (q_v11 (by omega)) ?_
    rw [q_ct_add] at hk
    refine And.intro (fun c => ?_) (fun c => ?_)
    · rw [if_neg (by simpa using c)] at hk
      exact nm_r (nI_add _ 0) (nm_r (nI_1 i) hk)
    · rw [if_pos (by simpa using c)] at hk
      exact nm_r (nI_add _ 1) (nm_r (nI_1 i) hk)
section QM
variable {T : Nat} {h : g_Hp} {p p1 : Int32} {Z : Int32 → Int32 → g_Hp → Prop} {EX0 EX1 : String → g_Hp → Prop}
theorem q_L3 (hI : q_I T h) (hZ : q_AN T Z) : wL_membersOn p h (g_kI (fun k h1 => wX8_membersOn p h1 (g_kI (fun b h2 => Z k b h2) EX1)) EX0) := by
  obtain ⟨n, ll, it, ⟨⟨s1, s2, s3, _⟩, ⟨m1, _, m3⟩, _⟩⟩ := hI.1
  have e2 : h 1 0 0 2 = nI n := s2
  have e0 : h 13 0 0 1 = nI n := s3
  unfold wL_membersOn wX7_membersOn
  have bad : ∀ Q : g_R → g_Hp → Prop, (p < 0 ∨ nI 10 ≤ p) → Q (.inl (some (vI 0))) (g_up h 5 0 0 1 1) → wX8_membersOn p h Q := fun Q e K => by
    unfold wX8_membersOn
    refine q_mR0 e (br_t rfl ?_)
    unfold wX8_membersOn_b13
    exact nm_e (q_mMO ((q_tho (by decide)).trans e0) s1 (q_n1 (by rw [g_up_s]; decide) K))
  rcases pk_ix p (n := 10) (by decide) with e | e | ⟨r, hr, rfl⟩
  · exact q_rr0 (Or.inl e) (And.intro rfl (bad _ (Or.inl e) (q_anE hZ hI (k := 1) (by decide) (by decide) 0)))
  · exact q_rr0 (Or.inr e) (And.intro rfl (bad _ (Or.inr e) (q_anE hZ hI (k := 1) (by decide) (by decide) 0)))
  · refine q_rr1 hr (q_cOR (nI r) e2 s1 (nm_e ?_))
    unfold wX8_membersOn
    refine q_mR1 hr (br_f (by decide) ?_)
    unfold wX8_membersOn_b13
    refine nm_e (q_mMO ((q_H2o (by decide) (by decide)).trans e0) s1 (q_n0 (g_up_s _ _ _ _ _ _) ?_))
    have e : q_ct (fun m => decide (g_up (g_up h 15 0 0 1 (nI (q_ct (fun m => decide (h 2 0 m 1 = nI r)) n))) 5 0 0 1 0 13 0 0 (11 + m + 1) = nI r)) n = q_ct (fun m => decide (h 2 0 m 1 = nI r)) n := q_ct_congr (fun k hk => by
      rw [q_H2o (by decide) (by decide)]
      have y : h 2 0 k 1 = h 13 0 0 (11 + k + 1) := m1 k 1 hk (by decide) (by decide)
      rw [y])
    rw [e]
    exact q_an0 hZ hI _
theorem q_L15 (hI : q_I T h) (hZ : q_AN T Z) : wL_stepsToWind p h (g_kI (fun k h1 => wX8_stepsToWind p h1 (g_kI (fun b h2 => Z k b h2) EX1)) EX0) := by
  obtain ⟨n, ll, it, ⟨⟨s1, s2, s3, s4, _, _, _, _, _, _, _, _, _, _, _, ⟨d, hd, s16⟩, _⟩, ⟨m1, _, m3⟩, _⟩⟩ := hI.1
  have e2 : h 1 0 0 2 = nI n := s2
  have e0 : h 13 0 0 1 = nI n := s3
  have ew : h 1 0 0 3 = nI d := s4.trans s16
  have ed : h 13 0 0 2 = nI d := s16
  unfold wL_stepsToWind wX7_stepsToWind
  rcases q_px p s1 with e | ⟨m, hm, rfl⟩
  · exact q_ex0 e2 e (And.intro rfl (q_mSW0 e0 s1 e (q_anE hZ hI (k := 1) (by decide) (by decide) 0)))
  · obtain ⟨b, hb, rb⟩ := (m3 m hm).2.2.1
    have rb' : h 2 0 m 3 = nI b := rb
    have mb : h 13 0 0 (35 + m + 1) = nI b := (m1 m 3 hm (by decide) (by decide)).symm.trans rb
    refine q_ex1 e2 s1 hm (And.intro rfl ?_)
    show wX7_stepsBetween (h 2 0 m 3) (h 1 0 0 3) h _
    rw [rb', ew]
    exact q_stB hb hd (nm_e (q_mSW1 ((q_oth (by decide)).trans e0) s1 hm ((q_oth (by decide)).trans mb) ((q_oth (by decide)).trans ed) hb hd (q_an0 hZ hI _)))
theorem q_L16 (hI : q_I T h) (hZ : q_AN T Z) : wL_stepsToWindByTurning p h (g_kI (fun k h1 => wX8_stepsToWindByTurning p h1 (g_kI (fun b h2 => Z k b h2) EX1)) EX0) := by
  obtain ⟨n, ll, it, ⟨⟨s1, s2, s3, s4, _, _, _, _, _, _, _, _, _, _, _, ⟨d, hd, s16⟩, _⟩, ⟨m1, _, m3⟩, _⟩⟩ := hI.1
  have e2 : h 1 0 0 2 = nI n := s2
  have e0 : h 13 0 0 1 = nI n := s3
  have ew : h 1 0 0 3 = nI d := s4.trans s16
  have ed : h 13 0 0 2 = nI d := s16
  unfold wL_stepsToWindByTurning wX7_stepsToWindByTurning
  rcases q_px p s1 with e | ⟨m, hm, rfl⟩
  · exact q_ex0 e2 e (And.intro rfl (q_mSW0 e0 s1 e (q_anE hZ hI (k := 1) (by decide) (by decide) 0)))
  · obtain ⟨b, hb, rb⟩ := (m3 m hm).2.2.1
    have rb' : h 2 0 m 3 = nI b := rb
    have mb : h 13 0 0 (35 + m + 1) = nI b := (m1 m 3 hm (by decide) (by decide)).symm.trans rb
    refine q_ex1 e2 s1 hm (And.intro rfl ?_)
    show wX7_stepsByTurning (h 2 0 m 3) (h 1 0 0 3) h _
    rw [rb', ew]
    exact q_stT hb hd (nm_e (q_mSW1 ((q_oth (by decide)).trans e0) s1 hm ((q_oth (by decide)).trans mb) ((q_oth (by decide)).trans ed) hb hd (q_an0 hZ hI _)))
theorem q_L21 (hI : q_I T h) (hZ : q_AV T Z) : wX7_votesFor h (g_kI (fun a h1 => wX8_votesFor h1 (g_kI (fun b h2 => Z a b h2) EX1)) EX0) := by
  obtain ⟨n, ll, it, ⟨⟨s1, s2, s3, _⟩, ⟨m1, _, m3⟩, _⟩⟩ := hI.1
  have e2 : h 1 0 0 2 = nI n := s2
  have e0 : h 13 0 0 1 = nI n := s3
  unfold wX7_votesFor
  refine q_cVF e2 s1 ?_
  show wX8_votesFor h _
  unfold wX8_votesFor
  refine nm_e (q_mCT 95 1 ((q_tho (by decide)).trans e0) s1 (by decide) ?_)
  have e : q_ct (fun m => decide (g_up h 5 0 0 1 0 13 0 0 (95 + m + 1) = 1)) n = q_ct (fun m => decide (h 2 0 m 8 = 1)) n := q_ct_congr (fun k hk => by
    rw [q_tho (by decide)]
    have y : h 2 0 k 8 = h 13 0 0 (95 + k + 1) := m1 k 8 hk (by decide) (by decide)
    rw [y])
  rw [e]
  exact hZ _ _ (q_Iq 0 hI)
theorem q_L22 (hI : q_I T h) (hZ : q_AB T Z) : wL_hasVoted p h (g_kI (fun k h1 => wX8_hasVoted p h1 (g_kI (fun b h2 => Z k b h2) EX1)) EX0) := by
  obtain ⟨n, ll, it, ⟨⟨s1, s2, s3, _⟩, ⟨m1, _, m3⟩, _⟩⟩ := hI.1
  have e2 : h 1 0 0 2 = nI n := s2
  have e0 : h 13 0 0 1 = nI n := s3
  have hZ' : q_AN T (fun k b h2 => (k = 0 → b = 0 ∨ b = 1) → Z k b h2) := fun k b h2 a1 a2 a3 a4 => hZ k b h2 a1 (fun z => And.intro (a4 z) (a2 z)) a3
  unfold wL_hasVoted wX7_hasVoted
  rcases q_px p s1 with e | ⟨m, hm, rfl⟩
  · refine q_ex0 e2 e (And.intro rfl ?_)
    unfold wX8_hasVoted
    exact q_to0 e0 s1 e (br_t (by decide) (And.intro (Or.inl rfl) (q_anE hZ' hI (k := 1) (by decide) (by decide) 0 (fun q => Or.inl rfl))))
  · have mb : h 13 0 0 (95 + m + 1) = h 2 0 m 8 := (m1 m 8 hm (by decide) (by decide)).symm
    have r8 : h 2 0 m 8 = 0 ∨ h 2 0 m 8 = 1 ∨ h 2 0 m 8 = 2 := (m3 m hm).2.2.2.2.2.2.1
    refine q_ex1 e2 s1 hm (And.intro rfl ?_)
    rcases r8 with z | z
    · refine br_t z (And.intro (Or.inl rfl) (br_t rfl (nm_e ?_)))
      unfold wX8_hasVoted
      refine q_to1 (fr := 95) ((q_oth (by decide)).trans e0) s1 hm (by decide) ?_
      rw [q_oth (by decide), mb, z]
      exact br_t (by decide) (And.intro (Or.inl rfl) (q_an0 hZ' hI 0 (fun _ => Or.inl rfl)))
    · have z1 : ¬ h 2 0 m 8 = 0 := by rcases z with z | z <;> rw [z] <;> decide
      have z2 : ¬ h 2 0 m 8 ≤ 0 := by rcases z with z | z <;> rw [z] <;> decide
      refine br_f z1 (And.intro (Or.inr rfl) (br_f (by decide) (nm_e ?_)))
      unfold wX8_hasVoted
      refine q_to1 (fr := 95) ((q_oth (by decide)).trans e0) s1 hm (by decide) ?_
      rw [q_oth (by decide), mb]
      exact br_f z2 (And.intro (Or.inr rfl) (q_an0 hZ' hI 1 (fun _ => Or.inr rfl)))
theorem q_L25 (hI : q_I T h) (hZ : q_AN T Z) : wL_strikeShifts h (g_kI (fun k h1 => wX8_strikeShifts h1 (g_kI (fun b h2 => Z k b h2) EX1)) EX0) := by
  obtain ⟨n, ll, it, ⟨⟨s1, s2, s3, s4, s5, s6, s7, s8, s9, s10, _⟩, _, _⟩⟩ := hI.1
  have e7 : h 1 0 0 7 = h 13 0 0 5 := s8
  have e9 : h 13 0 0 5 = 0 ∨ h 13 0 0 5 = 1 := s9
  unfold wL_strikeShifts wX7_strikeShifts
  rcases e9 with z | z
  · refine q_n0 (e7.trans z) (And.intro rfl ?_)
    unfold wX8_strikeShifts
    rw [q_k4]
    refine q_n1 (by rw [z]; decide) ?_
    unfold wX8_strikeShifts_b16
    exact nm_e (q_n1 (by rw [g_up_s]; decide) (q_anE hZ hI (k := 1) (by decide) (by decide) 0))
  · have e8 : h 1 0 0 8 = h 13 0 0 7 := s10 z
    refine q_n1 (by rw [e7, z]; decide) (nm_e ?_)
    unfold wX8_strikeShifts
    rw [q_k4]
    refine q_n0 ((q_oth (by decide)).trans z) ?_
    unfold wX8_strikeShifts_b16
    refine nm_e (q_n0 (g_up_s _ _ _ _ _ _) ?_)
    rw [q_k6, q_H2o (by decide) (by decide), ← e8]
    exact q_an0 hZ hI _
theorem q_L28 (hI : q_I T h) (hZ : q_AN T Z) : wL_fundedShifts h (g_kI (fun k h1 => wX8_fundedShifts h1 (g_kI (fun b h2 => Z k b h2) EX1)) EX0) := by
  obtain ⟨n, ll, it, ⟨⟨s1, s2, s3, s4, s5, s6, s7, s8, s9, s10, s11, s12, _⟩, _, _⟩⟩ := hI.1
  have e2 : h 1 0 0 2 = nI n := s2
  have e0 : h 13 0 0 1 = nI n := s3
  have e10 : h 1 0 0 10 = h 13 0 0 8 := s12
  unfold wL_fundedShifts wX7_fundedShifts
  by_cases z : n = 0
  · subst z
    exact q_rm0 e2 (And.intro rfl (q_mFS0 e0 (q_anE hZ hI (k := 1) (by decide) (by decide) 0)))
  · refine q_rm1 e2 s1 (by omega) (q_cDF1 e2 s1 (by omega) (nm_e (q_mFS1 ((q_oth (by decide)).trans e0) s1 (by omega) ?_)))
    rw [q_oth (by decide), ← e10]
    exact q_an0 hZ hI _
theorem q_L29 (hI : q_I T h) (hZ : q_AN T Z) : wL_fundedShiftsByPaying h (g_kI (fun k h1 => wX8_fundedShiftsByPaying h1 (g_kI (fun b h2 => Z k b h2) EX1)) EX0) := by
  obtain ⟨n, ll, it, ⟨⟨s1, s2, s3, s4, s5, s6, s7, s8, s9, s10, s11, s12, ⟨F, hF, s13⟩, _⟩, _, _⟩⟩ := hI.1
  have e2 : h 1 0 0 2 = nI n := s2
  have e0 : h 13 0 0 1 = nI n := s3
  have e10 : h 1 0 0 10 = h 13 0 0 8 := s12
  have eF : h 13 0 0 8 = nI F := s13
  unfold wL_fundedShiftsByPaying wX7_fundedShiftsByPaying
  by_cases z : n = 0
  · subst z
    exact q_rm0 e2 (And.intro rfl (q_mFS0 e0 (q_anE hZ hI (k := 1) (by decide) (by decide) 0)))
  · refine q_rm1 e2 s1 (by omega) (q_pyO e2 s1 (by omega) hF (e10.trans eF) (nm_e (q_mFS1 ((q_oth (by decide)).trans e0) s1 (by omega) ?_)))
    rw [q_oth (by decide), eF, q_pyE s1 (by omega) hF]
    exact q_an0 hZ hI _
theorem q_L41 (hI : q_I T h) (hZ : q_AV T Z) : wX7_lostTotal h (g_kI (fun a h1 => wX8_lostTotal h1 (g_kI (fun b h2 => Z a b h2) EX1)) EX0) := by
  obtain ⟨n, ll, it, ⟨⟨s1, s2, s3, _⟩, ⟨m1, _, m3⟩, _⟩⟩ := hI.1
  have e2 : h 1 0 0 2 = nI n := s2
  have e0 : h 13 0 0 1 = nI n := s3
  unfold wX7_lostTotal
  refine q_sLM e2 s1 ?_
  show wX8_lostTotal h _
  unfold wX8_lostTotal
  refine nm_e (q_mLS ((q_tho (by decide)).trans e0) s1 ?_)
  have e : q_sw (fun m => g_up h 5 0 0 1 0 13 0 0 (71 + m + 1)) n = q_sw (fun m => h 2 0 m 6) n := q_sw_congr (fun k hk => (q_tho (by decide)).trans (m1 k 6 hk (by decide) (by decide)).symm)
  rw [e]
  exact hZ _ _ (q_Iq 0 hI)
theorem q_rrE {T n : Nat} {g : Nat → Nat → Int32} (m3 : ∀ m, m < n → q_RG T (g m)) : ∀ m, m < n → (g m 1).toNatClampNeg < 10 ∧ g m 1 = nI (g m 1).toNatClampNeg := fun m hm => by
  obtain ⟨x, hx, e⟩ := (m3 m hm).1
  rw [e, nI_clamp (by omega)]
  exact ⟨hx, rfl⟩
theorem q_L42 (hI : q_I T h) (hZ : q_AV T Z) : wX7_lostTotalByRoofs h (g_kI (fun a h1 => wX8_lostTotalByRoofs h1 (g_kI (fun b h2 => Z a b h2) EX1)) EX0) := by
  obtain ⟨n, ll, it, ⟨⟨s1, s2, s3, _⟩, ⟨m1, _, m3⟩, _⟩⟩ := hI.1
  have e2 : h 1 0 0 2 = nI n := s2
  have e0 : h 13 0 0 1 = nI n := s3
  unfold wX7_lostTotalByRoofs
  refine q_sLR (rr := fun m => (h 2 0 m 1).toNatClampNeg) e2 s1 (q_rrE m3) ?_
  show wX8_lostTotalByRoofs h _
  unfold wX8_lostTotalByRoofs
  refine nm_e (q_mLS ((q_tho (by decide)).trans e0) s1 ?_)
  have e : q_sw (fun m => g_up h 5 0 0 1 0 13 0 0 (71 + m + 1)) n = q_sw (fun m => h 2 0 m 6) n := q_sw_congr (fun k hk => (q_tho (by decide)).trans (m1 k 6 hk (by decide) (by decide)).symm)
  rw [e]
  exact hZ _ _ (q_Iq 0 hI)
theorem q_L40 {Z : Int64 → Int64 → g_Hp → Prop} (hI : q_I T h) (hZ : ∀ a h2, q_I T h2 → Z a a h2) : wX7_wageTotal h (g_kL (fun a h1 => wX8_wageTotal h1 (g_kL (fun b h2 => Z a b h2) EX1)) EX0) := by
  obtain ⟨n, ll, it, ⟨⟨s1, s2, s3, _⟩, ⟨m1, _, m3⟩, _⟩⟩ := hI.1
  have e2 : h 1 0 0 2 = nI n := s2
  have e0 : h 13 0 0 1 = nI n := s3
  unfold wX7_wageTotal
  refine q_cWT e2 s1 ?_
  show wX8_wageTotal h _
  refine q_mWT e0 s1 ?_
  have e : q_sl (fun m => h 13 0 0 (47 + m + 1)) n = q_sl (fun m => h 2 0 m 4) n := q_sl_congr (fun k hk => (m1 k 4 hk (by decide) (by decide)).symm)
  rw [e]
  exact hZ _ _ (q_Iq 0 hI)
theorem q_L37 (hI : q_I T h) (hZ : q_AN T Z) : wL_offerPercent h (g_kI (fun k h1 => wX8_offerPercent h1 (g_kI (fun b h2 => Z k b h2) EX1)) EX0) := by
  obtain ⟨n, ll, it, ⟨⟨s1, s2, s3, s4, s5, s6, s7, s8, s9, s10, s11, s12, s13, s14, _⟩, _, _⟩⟩ := hI.1
  have e11 : h 1 0 0 11 = h 13 0 0 9 := s14
  unfold wL_offerPercent wX7_offerPercent
  by_cases z : h 1 0 0 11 = 0
  · refine q_ro0 z (And.intro rfl ?_)
    unfold wX8_offerPercent
    rw [q_k8]
    refine q_n0 (e11.symm.trans z) ?_
    unfold wX8_offerPercent_b16
    exact nm_e (q_anE hZ hI (k := 1) (by decide) (by decide) _)
  · refine q_ro1 z (nm_e ?_)
    unfold wX8_offerPercent
    rw [q_k8]
    refine q_n1 (fun q => z (e11.trans ((q_oth (by decide)).symm.trans q))) ?_
    unfold wX8_offerPercent_b16
    refine nm_e ?_
    rw [q_k8, q_H2o (by decide) (by decide), ← e11]
    exact q_an0 hZ hI _
theorem q_L38 (hI : q_I T h) (hZ : q_AN T Z) : wL_acceptances h (g_kI (fun k h1 => wX8_acceptances h1 (g_kI (fun b h2 => Z k b h2) EX1)) EX0) := by
  obtain ⟨n, ll, it, ⟨⟨s1, s2, s3, s4, s5, s6, s7, s8, s9, s10, s11, s12, s13, s14, _⟩, ⟨m1, _, m3⟩, _⟩⟩ := hI.1
  have e2 : h 1 0 0 2 = nI n := s2
  have e0 : h 13 0 0 1 = nI n := s3
  have e11 : h 1 0 0 11 = h 13 0 0 9 := s14
  unfold wL_acceptances wX7_acceptances
  by_cases z : h 1 0 0 11 = 0
  · refine q_ro0 z (And.intro rfl ?_)
    unfold wX8_acceptances
    rw [q_k8]
    refine q_n0 (e11.symm.trans z) ?_
    unfold wX8_acceptances_b16
    exact nm_e (q_n1 (by rw [g_up_s]; decide) (q_anE hZ hI (k := 1) (by decide) (by decide) _))
  · refine q_ro1 z (q_cAC e2 s1 (nm_e ?_))
    unfold wX8_acceptances
    rw [q_k8]
    refine q_n1 (fun q => z (e11.trans ((q_oth (by decide)).symm.trans q))) ?_
    unfold wX8_acceptances_b16
    refine nm_e (q_n0 (g_up_s _ _ _ _ _ _) (q_mCT 107 1 ((q_H2o (by decide) (by decide)).trans e0) s1 (by decide) ?_))
    have e : q_ct (fun m => decide (g_up (g_up h 15 0 0 1 (nI (q_ct (fun m => decide (¬ h 2 0 m 9 = 0)) n))) 5 0 0 1 0 13 0 0 (107 + m + 1) = 1)) n = q_ct (fun m => decide (¬ h 2 0 m 9 = 0)) n := q_ct_congr (fun k hk => by
      rw [q_H2o (by decide) (by decide)]
      have y : h 2 0 k 9 = h 13 0 0 (107 + k + 1) := m1 k 9 hk (by decide) (by decide)
      have y2 : h 2 0 k 9 = 0 ∨ h 2 0 k 9 = 1 := (m3 k hk).2.2.2.2.2.2.2
      rw [← y]
      rcases y2 with y2 | y2 <;> rw [y2] <;> rfl)
    rw [e]
    exact q_an0 hZ hI _
theorem q_L39 (hI : q_I T h) (hZ : q_AN T Z) : wL_offeredRate p h (g_kI (fun k h1 => wX8_offeredRate p h1 (g_kI (fun b h2 => Z k b h2) EX1)) EX0) := by
  obtain ⟨n, ll, it, ⟨⟨s1, s2, s3, s4, s5, s6, s7, s8, s9, s10, s11, s12, s13, s14, _⟩, ⟨m1, _, m3⟩, _⟩⟩ := hI.1
  have e2 : h 1 0 0 2 = nI n := s2
  have e0 : h 13 0 0 1 = nI n := s3
  have e11 : h 1 0 0 11 = h 13 0 0 9 := s14
  unfold wL_offeredRate wX7_offeredRate
  rcases q_px p s1 with e | ⟨m, hm, rfl⟩
  · refine q_ex0 e2 e (Or.inl (And.intro rfl ?_))
    unfold wX8_offeredRate
    refine q_mM0 e0 s1 e (q_n0 rfl ?_)
    unfold wX8_offeredRate_b28
    exact nm_e (q_n1 (by rw [g_up_s]; decide) (q_anE hZ hI (k := 1) (by decide) (by decide) _))
  · have mb : h 2 0 m 2 = h 13 0 0 (23 + m + 1) := m1 m 2 hm (by decide) (by decide)
    refine q_ex1 e2 s1 hm (And.intro rfl (nm_e ?_))
    by_cases z : h 1 0 0 11 = 0
    · refine q_ro0 z (Or.inr (And.intro rfl ?_))
      unfold wX8_offeredRate
      refine q_mM1 e0 s1 hm (q_n1 (by decide) ?_)
      rw [q_k8]
      refine q_n0 (e11.symm.trans z) ?_
      unfold wX8_offeredRate_b28
      exact nm_e (q_n1 (by rw [g_up_s]; decide) (q_anE hZ hI (k := 2) (by decide) (by decide) _))
    · refine q_ro1 z (q_rate (nm_e ?_))
      unfold wX8_offeredRate
      refine q_mM1 ((q_oth (by decide)).trans e0) s1 hm (q_n1 (by decide) ?_)
      rw [q_k8]
      refine q_n1 (fun q => z (e11.trans ((q_oth (by decide)).symm.trans q))) ?_
      unfold wX8_offeredRate_b28
      refine nm_e (q_n0 (g_up_s _ _ _ _ _ _) (q_mgr (by omega) ?_))
      rw [q_H2o (by decide) (by decide), q_H2o (by decide) (by decide), ← mb, show h 13 0 0 (8 + 1) = h 1 0 0 11 from e11.symm]
      exact q_an0 hZ hI _
theorem q_L47 (hI : q_I T h) (hZ : q_AN T Z) : wL_errorPosition h (g_kI (fun k h1 => wX8_errorPosition h1 (g_kI (fun b h2 => Z k b h2) EX1)) EX0) := by
  obtain ⟨a1, a2, a3, a4⟩ := hI.2.2.2.1
  unfold wL_errorPosition wX7_errorPosition
  rcases a3 with z | ⟨k, hk, z⟩
  · refine q_n0 (a1.trans z) (And.intro rfl ?_)
    show wX8_errorPosition h (g_kI (fun b h2 => Z 1 b h2) EX1)
    unfold wX8_errorPosition
    rw [z]
    refine br_f (by decide) ?_
    unfold wX8_errorPosition_b13
    exact nm_e (q_n1 (by rw [g_up_s]; decide) (q_anE hZ hI (k := 1) (by decide) (by decide) _))
  · refine q_n1 (fun q => ?_) (nm_e ?_)
    · have y : nI k = -1 := (a1.trans z).symm.trans q
      have y2 := congrArg Int32.toInt y
      rw [nI_toInt (by omega)] at y2
      have y3 : (-1 : Int32).toInt = -1 := by decide
      omega
    · show wX8_errorPosition (g_up h 15 0 0 1 (h 0 0 0 8)) (g_kI (fun b h2 => Z 0 b h2) EX1)
      unfold wX8_errorPosition
      have e3 : g_up h 15 0 0 1 (h 0 0 0 8) 5 0 0 3 = nI k := (q_oth (by decide)).trans z
      rw [e3]
      refine br_t (nI_le (a := 0) (Nat.zero_le _) (by omega)) ?_
      unfold wX8_errorPosition_b13
      refine nm_e (q_n0 (g_up_s _ _ _ _ _ _) ?_)
      rw [g_up_o _ _ _ _ _ _ (by omega), q_oth (by decide), ← a1]
      exact q_an0 hZ hI _
theorem q_L48 (hI : q_I T h) (hZ : q_AN T Z) : wL_failedCommand h (g_kI (fun k h1 => wX8_failedCommand h1 (g_kI (fun b h2 => Z k b h2) EX1)) EX0) := by
  obtain ⟨a1, a2, a3, a4⟩ := hI.2.2.2.1
  unfold wL_failedCommand wX7_failedCommand
  rcases a4 with z | ⟨k, hk, z⟩
  · refine q_n0 (a2.trans z) (And.intro rfl ?_)
    show wX8_failedCommand h (g_kI (fun b h2 => Z 1 b h2) EX1)
    unfold wX8_failedCommand
    rw [z]
    refine br_f (by decide) ?_
    unfold wX8_failedCommand_b13
    exact nm_e (q_n1 (by rw [g_up_s]; decide) (q_anE hZ hI (k := 1) (by decide) (by decide) _))
  · refine q_n1 (fun q => ?_) (nm_e ?_)
    · have y : nI k = -1 := (a2.trans z).symm.trans q
      have y2 := congrArg Int32.toInt y
      rw [nI_toInt (by omega)] at y2
      have y3 : (-1 : Int32).toInt = -1 := by decide
      omega
    · show wX8_failedCommand (g_up h 15 0 0 1 (h 0 0 0 9)) (g_kI (fun b h2 => Z 0 b h2) EX1)
      unfold wX8_failedCommand
      have e3 : g_up h 15 0 0 1 (h 0 0 0 9) 5 0 0 4 = nI k := (q_oth (by decide)).trans z
      rw [e3]
      refine br_t (nI_le (a := 0) (Nat.zero_le _) (by omega)) ?_
      unfold wX8_failedCommand_b13
      refine nm_e (q_n0 (g_up_s _ _ _ _ _ _) ?_)
      rw [g_up_o _ _ _ _ _ _ (by omega), q_oth (by decide), ← a2]
      exact q_an0 hZ hI _
end QM
