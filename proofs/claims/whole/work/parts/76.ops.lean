/-! signUp -/
theorem q_RG_c {T : Nat} {R R' : Nat → Int32} (h : ∀ s, 1 ≤ s → s ≤ 9 → R' s = R s) (hR : q_RG T R) : q_RG T R' := by
  unfold q_RG
  rw [h 1 (by decide) (by decide), h 2 (by decide) (by decide), h 3 (by decide) (by decide), h 4 (by decide) (by decide), h 5 (by decide) (by decide), h 6 (by decide) (by decide), h 8 (by decide) (by decide), h 9 (by decide) (by decide)]
  exact hR
theorem q_RM_c {T n : Nat} {g g' : Nat → Nat → Int32} {w w' : Nat → Int32} (hn : n ≤ 12) (h : ∀ k, 11 ≤ k → k < 119 → w' k = w k) (hg : ∀ m s, m < n → 1 ≤ s → s ≤ 9 → g' m s = g m s) (hM : q_RM T n g w) : q_RM T n g' w' := by
  obtain ⟨m1, m2, m3⟩ := hM
  exact ⟨fun m s a b d => (hg m s a b d).trans ((m1 m s a b d).trans (h _ (by omega) (by omega)).symm), fun m s a b d e => (h _ (by omega) (by omega)).trans (m2 m s a b d e), fun m hm => q_RG_c (fun s a b => hg m s hm a b) (m3 m hm)⟩
theorem q_RS_w {st sh : Int32} {n : Nat} {f w w' : Nat → Int32} (h : ∀ k, k ≤ 10 → w' k = w k) (hS : q_RS st sh n f w) : q_RS st sh n f w' := by
  unfold q_RS
  rw [h 0 (by decide), h 1 (by decide), h 2 (by decide), h 3 (by decide), h 4 (by decide), h 5 (by decide), h 6 (by decide), h 7 (by decide), h 8 (by decide), h 9 (by decide), h 10 (by decide)]
  exact hS
/-- the model looks through its lists -/
theorem q_mLin {m r : Nat} {ll : Nat → Nat} {it : Nat → Nat → Nat} {H : g_Hp} {Q : g_R → g_Hp → Prop} {R2 : Int32 → Int32 → g_Hp → Prop} (hm : m < 12) (hr : r < 10) (h1 : ll r ≤ 4 ∧ H 13 0 0 (119 + r + 1) = nI (ll r)) (h2 : ∀ k, k < ll r → it r k < 12 ∧ H 13 0 0 (129 + 4 * r + k + 1) = nI (it r k)) :
    ((∀ k, k < ll r → it r k ≠ m) → R2 (nI m) (nI (r + 1)) H → wX8_list_b10 Q R2 (nI m) (nI r) 0 H) ∧ (∀ k0, k0 < ll r → it r k0 = m → (∀ k, k < k0 → it r k ≠ m) → Q (.inl (some (vI (nI r)))) H → wX8_list_b10 Q R2 (nI m) (nI r) 0 H) := by
  have step : ∀ (k i : Nat), i < ll r → it r i ≠ m → wX8_list_b10_I Q R2 k (nI m) (nI r) (nI (i + 1)) H → wX8_list_b10_I Q R2 (k + 1) (nI m) (nI r) (nI i) H := fun k i hi hne hk => by
    show wX8_list_b10_B Q R2 _ _ _ _ H
    unfold wX8_list_b10_B
    rw [q_i119 (by omega), h1.2]
    refine And.intro (q_v119 (by omega)) (br_f (nI_ge hi (by omega)) ?_)
    show vp_in (((129 : Int32) + ((4 : Int32) * nI r)) + nI i) 169 ∧ _
    rw [q_li, nI_clamp (by omega)]
    refine And.intro (q_vI (by omega) (by decide)) (q_n1 ?_ (nm_r (nI_1 i) hk))
    rw [(h2 i hi).2]
    exact fun q => hne ((nI_eq (by have := (h2 i hi).1; omega) (by omega)).mp q)
  refine ⟨fun hno K => ?_, fun k0 hk0 e0 hno K => ?_⟩
  · refine q_loop (fun k i => wX8_list_b10_I Q R2 k (nI m) (nI r) (nI i) H) (ll r) 0 (Nat.zero_le _) (fun k => ?_) (fun k i _ hi hk => step k i hi (hno i hi) hk)
    show wX8_list_b10_B Q R2 _ _ _ _ H
    unfold wX8_list_b10_B
    rw [q_i119 (by omega), h1.2]
    exact And.intro (q_v119 (by omega)) (br_t (nI_le (Nat.le_refl _) (by omega)) (nm_r (nI_1 r) K))
  · refine q_loop (fun k i => wX8_list_b10_I Q R2 k (nI m) (nI r) (nI i) H) k0 0 (Nat.zero_le _) (fun k => ?_) (fun k i _ hi hk => step k i (by omega) (hno i hi) hk)
    show wX8_list_b10_B Q R2 _ _ _ _ H
    unfold wX8_list_b10_B
    rw [q_i119 (by omega), h1.2]
    refine And.intro (q_v119 (by omega)) (br_f (nI_ge hk0 (by omega)) ?_)
    show vp_in (((129 : Int32) + ((4 : Int32) * nI r)) + nI k0) 169 ∧ _
    rw [q_li, nI_clamp (by omega)]
    refine And.intro (q_vI (by omega) (by decide)) (q_n0 ?_ K)
    rw [(h2 k0 hk0).2, e0]
theorem q_mL {m : Nat} {ll : Nat → Nat} {it : Nat → Nat → Nat} {H : g_Hp} {Q : g_R → g_Hp → Prop} (hm : m < 12) (h1 : ∀ r, r < 10 → ll r ≤ 4 ∧ H 13 0 0 (119 + r + 1) = nI (ll r)) (h2 : ∀ r k, r < 10 → k < ll r → it r k < 12 ∧ H 13 0 0 (129 + 4 * r + k + 1) = nI (it r k)) :
    ((∀ r k, r < 10 → k < ll r → it r k ≠ m) → Q (.inl (some (vI (-1)))) H → wX8_list (nI m) H Q) ∧ (∀ r0 k0, r0 < 10 → k0 < ll r0 → it r0 k0 = m → (∀ r k, r < 10 → k < ll r → it r k = m → r = r0 ∧ k = k0) → Q (.inl (some (vI (nI r0)))) H → wX8_list (nI m) H Q) := by
  refine ⟨fun hno K => ?_, fun r0 k0 hr0 hk0 e0 hun K => ?_⟩
  · refine q_loop (fun k i => wX8_list_b2_I Q k (nI m) (nI i) H) 10 0 (Nat.zero_le _) (fun k => ?_) (fun k i _ hi hk => ?_)
    · show wX8_list_b2_B Q _ _ _ H
      unfold wX8_list_b2_B
      exact br_t (nI_le (a := 10) (Nat.le_refl _) (by decide)) K
    · show wX8_list_b2_B Q _ _ _ H
      unfold wX8_list_b2_B
      exact br_f (nI_ge (b := 10) hi (by decide)) ((q_mLin hm hi (h1 i hi) (fun k hk => h2 i k hi hk)).1 (fun k hk => hno i k hi hk) hk)
  · refine q_loop (fun k i => wX8_list_b2_I Q k (nI m) (nI i) H) r0 0 (Nat.zero_le _) (fun k => ?_) (fun k i _ hi hk => ?_)
    · show wX8_list_b2_B Q _ _ _ H
      unfold wX8_list_b2_B
      exact br_f (nI_ge (b := 10) hr0 (by decide)) ((q_mLin hm hr0 (h1 r0 hr0) (fun k hk => h2 r0 k hr0 hk)).2 k0 hk0 e0 (fun k hk z => by have := (hun r0 k hr0 (by omega) z).2; omega) K)
    · show wX8_list_b2_B Q _ _ _ H
      unfold wX8_list_b2_B
      exact br_f (nI_ge (b := 10) (by omega) (by decide)) ((q_mLin hm (by omega) (h1 i (by omega)) (fun k hk => h2 i k (by omega) hk)).1 (fun k hk z => by have := (hun i k (by omega) hk z).1; omega) hk)
/-- .. of a member that is on no list, or on one -/
theorem q_mLR {n m : Nat} {ll : Nat → Nat} {it : Nat → Nat → Nat} {g : Nat → Nat → Int32} {w : Nat → Int32} {h : g_Hp} {Q : g_R → g_Hp → Prop} (hn : n ≤ 12) (hm : m < n) (hL : q_RL n ll it g w) :
    (g m 10 = -1 → Q (.inl (some (vI (-1)))) (q_mH h 0 w) → wX8_list (nI m) (q_mH h 0 w) Q) ∧ (∀ r, g m 10 = nI r → r < 10 → Q (.inl (some (vI (nI r)))) (q_mH h 0 w) → wX8_list (nI m) (q_mH h 0 w) Q) := by
  obtain ⟨l1, l2, l3⟩ := hL
  have h1 : ∀ r, r < 10 → ll r ≤ 4 ∧ q_mH h 0 w 13 0 0 (119 + r + 1) = nI (ll r) := fun r hr => ⟨(l1 r hr).1, (q_m1 _ _ _ _).trans (l1 r hr).2.1⟩
  have h2 : ∀ r k, r < 10 → k < ll r → it r k < 12 ∧ q_mH h 0 w 13 0 0 (129 + 4 * r + k + 1) = nI (it r k) := fun r k hr hk => ⟨by have := (l2 r k hr hk).1; omega, (q_m1 _ _ _ _).trans (l2 r k hr hk).2.1⟩
  have z := q_mL (Q := Q) (show m < 12 by omega) h1 h2
  refine ⟨fun e K => z.1 (fun r k hr hk q => ?_) K, fun r e hr K => ?_⟩
  · have := (l2 r k hr hk).2.2.1
    rw [q, e] at this
    exact q_ne1 (r := r) (by omega) this.symm
  · rcases l3 m hm with q | ⟨r', k', hr', hk', q⟩
    · rw [e] at q
      exact absurd q (q_ne1 (by omega))
    · obtain ⟨-, -, b3, b4⟩ := l2 r' k' hr' hk'
      rw [q] at b3 b4
      have er : r' = r := (nI_eq (by omega) (by omega)).mp (b3.symm.trans e)
      subst er
      refine z.2 r' k' hr hk' q (fun r2 k2 hr2 hk2 q2 => ?_) K
      obtain ⟨-, -, d3, d4⟩ := l2 r2 k2 hr2 hk2
      rw [q2] at d3 d4
      have hl2 := (l1 r2 hr2).1
      have hl' := (l1 r' hr).1
      exact ⟨(nI_eq (by omega) (by omega)).mp (d3.symm.trans b3), (nI_eq (by omega) (by omega)).mp (d4.symm.trans b4)⟩
theorem q_fG1 {r m : Int32} {n : Nat} {H : g_Hp} {Q : g_R → g_Hp → Prop} (hN : H 1 0 0 2 = nI n) (hb : (r < 0 ∨ nI 10 ≤ r) ∨ (∃ r', r' < 10 ∧ r = nI r') ∧ (m < 0 ∨ nI n ≤ m)) (K : Q (.inl (some (vR 20 1 0))) H) : wX1_faultOfSigning 0 r m H Q := by
  unfold wX1_faultOfSigning
  rcases hb with e | ⟨⟨r, hr, rfl⟩, e⟩
  · exact q_isR0 e (br_t rfl K)
  · exact q_isR1 hr (br_f (by decide) (q_isM0 hN e (q_n0 rfl K)))
theorem q_fG0 {n r m L : Nat} {H : g_Hp} {Q : g_R → g_Hp → Prop} (hN : H 1 0 0 2 = nI n) (hn : n ≤ 12) (hr : r < 10) (hm : m < n) (hL : q_ct (fun m => decide (H 2 0 m 10 = nI r)) n = L) (K3 : H 1 0 0 7 = 0 ∨ 4 ≤ L → Q (.inl (some (vR 20 3 0))) H) (K4 : ¬ H 1 0 0 7 = 0 → L < 4 → ¬ H 2 0 m 10 = -1 → Q (.inl (some (vR 20 4 0))) H) (K0 : ¬ H 1 0 0 7 = 0 → L < 4 → H 2 0 m 10 = -1 → Q (.inl (some (vR 20 0 0))) H) : wX1_faultOfSigning 0 (nI r) (nI m) H Q := by
  have hle := q_ct_le (fun m => decide (H 2 0 m 10 = nI r)) n
  unfold wX1_faultOfSigning
  refine q_isR1 hr (br_f (by decide) (q_isM1 hN hn hm (q_n1 (by decide) ⟨fun c => K3 (Or.inl c), fun c => ?_⟩)))
  refine q_cOL _ hN hn ?_
  rw [hL] at hle ⊢
  refine pk_lt L 4 (fun d => And.intro (q_vI (by omega) (by decide)) (nm_r (nI_clamp (by omega)) ⟨fun f => K0 c d f, fun f => K4 c d f⟩)) (fun d => K3 (Or.inr d))
theorem q_aG {n r m L : Nat} {h : g_Hp} {c : q_C} {Q : g_R → g_Hp → Prop} (hN : c.1 2 = nI n) (hn : n ≤ 12) (hm : m < n) (hL : q_ct (fun m => decide (c.2 m 10 = nI r)) n = L) (K : Q (.inl (some (vI (nI (L + 1))))) (q_cH h 0 (c.1, q_u2 (q_u2 c.2 m 10 (nI r)) m 11 (nI L)))) : wX1_putOnList 0 (nI r) (nI m) (q_cH h 0 c) Q := by
  unfold wX1_putOnList
  refine q_cOL _ ((q_c1 _ _ _ _).trans hN) hn ?_
  simp only [q_c2]
  rw [hL]
  refine And.intro (q_vI (by omega) (by decide)) (nm_r (nI_clamp (by omega)) (nm_r (q_cu2 _ _ _ _ _ _) ?_))
  refine And.intro (q_vI (by omega) (by decide)) (nm_r (nI_clamp (by omega)) (nm_r (q_cu2 _ _ _ _ _ _) ?_))
  rw [nI_1]
  exact K
theorem q_mG1 {r m : Int32} {n : Nat} {h : g_Hp} {w : Nat → Int32} {Q : g_R → g_Hp → Prop} (hN : w 0 = nI n) (hn : n ≤ 12) (hb : (r < 0 ∨ nI 10 ≤ r) ∨ (∃ r', r' < 10 ∧ r = nI r') ∧ (m < 0 ∨ nI n ≤ m)) (K : Q (.inl (some (vI 0))) (q_mH (g_up h 5 0 0 1 1) 0 w)) : wX8_signs r m (q_mH h 0 w) Q := by
  unfold wX8_signs
  rcases hb with e | ⟨⟨r, hr, rfl⟩, e⟩
  · exact q_mR0 e (br_t rfl (q_fail K))
  · exact q_mR1 hr (br_f (by decide) (q_mM0 ((q_m1 _ _ _ _).trans hN) hn e (q_n0 rfl (q_fail K))))
theorem q_mG2 {n r m L : Nat} {h : g_Hp} {w : Nat → Int32} {Q : g_R → g_Hp → Prop} (hN : w 0 = nI n) (hn : n ≤ 12) (hr : r < 10) (hm : m < n) (hw : w (119 + r) = nI L) (hL : L ≤ 4) (hb : w 4 = 0 ∨ L = 4) (K : Q (.inl (some (vI 0))) (q_mH (g_up h 5 0 0 1 2) 0 w)) : wX8_signs (nI r) (nI m) (q_mH h 0 w) Q := by
  unfold wX8_signs
  refine q_mR1 hr (br_f (by decide) (q_mM1 ((q_m1 _ _ _ _).trans hN) hn hm (q_n1 (by decide) ?_)))
  rw [q_k4, q_m1]
  refine ⟨fun _ => q_fail K, fun c => And.intro (q_v119 (by omega)) ?_⟩
  rw [q_i119 (by omega), q_m1, hw]
  rcases hb with e | e
  · exact absurd e c
  · subst e
    exact q_n0 rfl (q_fail K)
theorem q_mG3 {n r m L : Nat} {h : g_Hp} {w : Nat → Int32} {Q : g_R → g_Hp → Prop} (hN : w 0 = nI n) (hn : n ≤ 12) (hr : r < 10) (hm : m < n) (hw : w (119 + r) = nI L) (hL : L < 4) (h4 : ¬ w 4 = 0) (K : wX8_list (nI m) (q_mH h 0 w) (g_kI (fun u6 h5 => ((u6 < 0) → vp_in ((119 : Int32) + nI r) (169) ∧ wX8_listed (nI r) (h5 13 0 0 (((119 : Int32) + nI r).toNatClampNeg + 1)) h5 (g_kI (fun u8 h7 => vp_in u8 (169) ∧ ∀ h9 : g_Hp, h9 = g_up h7 13 0 0 (u8.toNatClampNeg + 1) (nI m) → vp_in ((119 : Int32) + nI r) (169) ∧ vp_in ((119 : Int32) + nI r) (169) ∧ ∀ h10 : g_Hp, h10 = g_up h9 13 0 0 (((119 : Int32) + nI r).toNatClampNeg + 1) ((h9 13 0 0 (((119 : Int32) + nI r).toNatClampNeg + 1)) + (1 : Int32)) → vp_in ((119 : Int32) + nI r) (169) ∧ Q (.inl (some (vI (h10 13 0 0 (((119 : Int32) + nI r).toNatClampNeg + 1))))) h10) (fun E h7 => Q (.inr E) h7))) ∧ ((¬ u6 < 0) → wX8_fail (3 : Int32) h5 (g_kI (fun u12 h11 => Q (.inl (some (vI u12))) h11) (fun E h11 => Q (.inr E) h11)))) (fun E h5 => Q (.inr E) h5))) : wX8_signs (nI r) (nI m) (q_mH h 0 w) Q := by
  unfold wX8_signs
  refine q_mR1 hr (br_f (by decide) (q_mM1 ((q_m1 _ _ _ _).trans hN) hn hm (q_n1 (by decide) ?_)))
  refine br_f (by rw [q_k4, q_m1]; exact h4) (And.intro (q_v119 (by omega)) (q_n1 ?_ K))
  rw [q_i119 (by omega), q_m1, hw]
  exact fun q => by have := (nI_eq (b := 4) (by omega) (by decide)).mp q; omega
theorem q_mG0 {r m L : Nat} {h : g_Hp} {w : Nat → Int32} {Q : g_R → g_Hp → Prop} (hr : r < 10) (hw : w (119 + r) = nI L) (hL : L < 4) (K : Q (.inl (some (vI (nI (L + 1))))) (q_mH h 0 (upd (upd w (129 + 4 * r + L) (nI m)) (119 + r) (nI (L + 1))))) : (vp_in ((119 : Int32) + nI r) (169) ∧ wX8_listed (nI r) ((q_mH h 0 w) 13 0 0 (((119 : Int32) + nI r).toNatClampNeg + 1)) (q_mH h 0 w) (g_kI (fun u8 h7 => vp_in u8 (169) ∧ ∀ h9 : g_Hp, h9 = g_up h7 13 0 0 (u8.toNatClampNeg + 1) (nI m) → vp_in ((119 : Int32) + nI r) (169) ∧ vp_in ((119 : Int32) + nI r) (169) ∧ ∀ h10 : g_Hp, h10 = g_up h9 13 0 0 (((119 : Int32) + nI r).toNatClampNeg + 1) ((h9 13 0 0 (((119 : Int32) + nI r).toNatClampNeg + 1)) + (1 : Int32)) → vp_in ((119 : Int32) + nI r) (169) ∧ Q (.inl (some (vI (h10 13 0 0 (((119 : Int32) + nI r).toNatClampNeg + 1))))) h10) (fun E h7 => Q (.inr E) h7))) := by
  have hv : vp_in ((119 : Int32) + nI r) (169) := q_v119 (by omega)
  refine And.intro hv ?_
  rw [q_i119 (by omega), q_m1, hw]
  show vp_in (((129 : Int32) + ((4 : Int32) * nI r)) + nI L) 169 ∧ _
  rw [q_li, nI_clamp (by omega)]
  refine And.intro (q_vI (by omega) (by decide)) (nm_r (q_mu _ _ _ _ _) (And.intro hv (And.intro hv (nm_r (e' := q_mH h 0 (upd (upd w (129 + 4 * r + L) (nI m)) (119 + r) (nI (L + 1)))) ?_ (And.intro hv ?_)))))
  · rw [q_m1, q_mu, pk_un (by omega), hw, nI_1]
  · rw [q_m1, pk_us]
    exact K
theorem q_opG {T : Nat} {c : q_C} {w : Nat → Int32} (hR : q_R T c w) (r m : Int32) : q_OP T c w (wX1_faultOfSigning 0 r m) (wX1_putOnList 0 r m) (wX8_signs r m) (q_ka 1 0 2 3 0) := by
  obtain ⟨n, ll, it, ⟨hS, hM, hL⟩⟩ := hR
  have ⟨s1, s2, s3, s4, s5, s6, s7, s8, s9, s10, s11, s12, s13, s14, s15, s16, s17⟩ := hS
  have ⟨l1, l2, l3⟩ := hL
  have hN : ∀ h, q_cH h 0 c 1 0 0 2 = nI n := fun h => (q_c1 _ _ _ _).trans s2
  have bad : ((r < 0 ∨ nI 10 ≤ r) ∨ (∃ r', r' < 10 ∧ r = nI r') ∧ (m < 0 ∨ nI n ≤ m)) → q_OP T c w (wX1_faultOfSigning 0 r m) (wX1_putOnList 0 r m) (wX8_signs r m) (q_ka 1 0 2 3 0) := fun e =>
    Or.inl ⟨1, by decide, by decide, by decide, by decide, fun h Q K => q_fG1 (hN h) e K, fun h Q K => q_mG1 s3 s1 e K⟩
  rcases pk_ix r (n := 10) (by decide) with d | d | ⟨r, hr, rfl⟩
  · exact bad (Or.inl (Or.inl d))
  · exact bad (Or.inl (Or.inr d))
  · rcases pk_ix m (n := n) (by omega) with e | e | ⟨m, hm, rfl⟩
    · exact bad (Or.inr ⟨⟨r, hr, rfl⟩, Or.inl e⟩)
    · exact bad (Or.inr ⟨⟨r, hr, rfl⟩, Or.inr e⟩)
    · obtain ⟨a1, a2, a3⟩ := l1 r hr
      have hc : ∀ h, q_ct (fun m => decide (q_cH h 0 c 2 0 m 10 = nI r)) n = ll r := fun h => by simp only [q_c2]; exact a3
      have h7 : ∀ h, q_cH h 0 c 1 0 0 7 = w 4 := fun h => (q_c1 _ _ _ _).trans s8
      have hg : ∀ h, q_cH h 0 c 2 0 m 10 = c.2 m 10 := fun h => q_c2 _ _ _ _ _
      by_cases b : w 4 = 0 ∨ ll r = 4
      · refine Or.inl ⟨3, by decide, by decide, by decide, by decide, fun h Q K => q_fG0 (hN h) s1 hr hm (hc h) (fun _ => K) (fun y z => ?_) (fun y z => ?_), fun h Q K => q_mG2 s3 s1 hr hm a2 a1 b K⟩
        · rw [h7] at y
          rcases b with q | q
          · exact absurd q y
          · omega
        · rw [h7] at y
          rcases b with q | q
          · exact absurd q y
          · omega
      · have b4 : ¬ w 4 = 0 := fun q => b (Or.inl q)
        have bl : ll r < 4 := by omega
        have nb : ∀ h, ¬ (q_cH h 0 c 1 0 0 7 = 0 ∨ 4 ≤ ll r) := fun h q => by
          rw [h7] at q
          rcases q with q | q
          · exact b4 q
          · omega
        by_cases e : c.2 m 10 = -1
        · have hne : ∀ r' k, r' < 10 → k < ll r' → it r' k ≠ m := fun r' k hr' hk q => by
            have := (l2 r' k hr' hk).2.2.1
            rw [q, e] at this
            exact q_ne1 (r := r') (by omega) this.symm
          have hww : ∀ k, k < 119 → upd (upd w (129 + 4 * r + ll r) (nI m)) (119 + r) (nI (ll r + 1)) k = w k := fun k hk => by rw [pk_un (by omega), pk_un (by omega)]
          have hgo : ∀ j s, j ≠ m → q_u2 (q_u2 c.2 m 10 (nI r)) m 11 (nI (ll r)) j s = c.2 j s := fun j s hj => by rw [q_u2_o (fun q => hj q.1), q_u2_o (fun q => hj q.1)]
          have hg10 : q_u2 (q_u2 c.2 m 10 (nI r)) m 11 (nI (ll r)) m 10 = nI r := by rw [q_u2_o (by omega), q_u2_s]
          have hg11 : q_u2 (q_u2 c.2 m 10 (nI r)) m 11 (nI (ll r)) m 11 = nI (ll r) := q_u2_s
          refine Or.inr ⟨(c.1, q_u2 (q_u2 c.2 m 10 (nI r)) m 11 (nI (ll r))), upd (upd w (129 + 4 * r + ll r) (nI m)) (119 + r) (nI (ll r + 1)), nI (ll r + 1), ⟨n, fun x => if x = r then ll r + 1 else ll x, fun x k => if x = r ∧ k = ll r then m else it x k, q_RS_w (fun k hk => hww k (by omega)) hS, q_RM_c s1 (fun k _ hk => hww k hk) (fun j s _ _ hs => (q_u2_o (g := q_u2 c.2 m 10 (nI r)) (by omega)).trans (q_u2_o (by omega))) hM, ⟨fun x hx => ?_, fun x k hx hk => ?_, fun j hj => ?_⟩⟩, fun h Q K => q_fG0 (hN h) s1 hr hm (hc h) (fun q => absurd q (nb h)) (fun _ _ q => absurd ((hg h).trans e) q) (fun _ _ _ => K), fun h Q K => q_aG s2 s1 hm a3 K, fun h Q K => q_mG3 s3 s1 hr hm a2 bl b4 ((q_mLR s1 hm hL).1 e (br_t (by decide) (q_mG0 hr a2 bl K)))⟩
          · dsimp only
            by_cases y : x = r
            · subst y
              rw [if_pos rfl]
              refine ⟨by omega, pk_us, ?_⟩
              refine (q_ct_one (j := m) ?_ ?_ (fun j hj => ?_) hm).trans (congrArg (· + 1) a3)
              · rw [e]
                exact decide_eq_false (fun q => q_ne1 (r := x) (by omega) q.symm)
              · exact decide_eq_true hg10
              · show _ = decide (q_u2 (q_u2 c.2 m 10 (nI x)) m 11 (nI (ll x)) j 10 = nI x)
                rw [hgo j 10 hj]
            · rw [if_neg y]
              refine ⟨(l1 x hx).1, ?_, ?_⟩
              · rw [pk_un (by omega), pk_un (by omega)]
                exact (l1 x hx).2.1
              · rw [← (l1 x hx).2.2]
                refine q_ct_congr (fun j hj => ?_)
                show decide (q_u2 (q_u2 c.2 m 10 (nI r)) m 11 (nI (ll r)) j 10 = nI x) = _
                by_cases z : j = m
                · subst z
                  rw [hg10, e, decide_eq_false (fun q => y ((nI_eq (by omega) (by omega)).mp q).symm), decide_eq_false (fun q => q_ne1 (r := x) (by omega) q.symm)]
                · rw [hgo j 10 z]
          · dsimp only at hk ⊢
            by_cases y : x = r ∧ k = ll r
            · obtain ⟨rfl, rfl⟩ := y
              rw [if_pos ⟨rfl, rfl⟩]
              refine ⟨hm, ?_, hg10, hg11⟩
              rw [pk_un (by omega), pk_us]
            · have hk' : k < ll x := by
                by_cases z : x = r
                · subst z
                  rw [if_pos rfl] at hk
                  omega
                · rw [if_neg z] at hk
                  exact hk
              have hl4 := (l1 x hx).1
              rw [if_neg y]
              obtain ⟨d1, d2, d3, d4⟩ := l2 x k hx hk'
              refine ⟨d1, ?_, (hgo _ _ (hne x k hx hk')).trans d3, (hgo _ _ (hne x k hx hk')).trans d4⟩
              rw [pk_un (by omega), pk_un (by omega)]
              exact d2
          · dsimp only
            by_cases y : j = m
            · subst y
              exact Or.inr ⟨r, ll r, hr, by rw [if_pos rfl]; omega, if_pos ⟨rfl, rfl⟩⟩
            · rcases l3 j hj with z | ⟨x, k, hx, hk, z⟩
              · exact Or.inl ((hgo j 10 y).trans z)
              · refine Or.inr ⟨x, k, hx, ?_, ?_⟩
                · by_cases q : x = r
                  · subst q
                    rw [if_pos rfl]
                    omega
                  · rw [if_neg q]
                    exact hk
                · rw [if_neg (fun q => by obtain ⟨rfl, rfl⟩ := q; omega)]
                  exact z
        · obtain ⟨r', hr', e'⟩ : ∃ r', r' < 10 ∧ c.2 m 10 = nI r' := by
            rcases l3 m hm with z | ⟨x, k, hx, hk, z⟩
            · exact absurd z e
            · exact ⟨x, hx, by rw [← z]; exact (l2 x k hx hk).2.2.1⟩
          exact Or.inl ⟨4, by decide, by decide, by decide, by decide, fun h Q K => q_fG0 (hN h) s1 hr hm (hc h) (fun q => absurd q (nb h)) (fun _ _ _ => K) (fun _ _ q => absurd ((hg h).symm.trans q) e), fun h Q K => q_mG3 s3 s1 hr hm a2 bl b4 ((q_mLR s1 hm hL).2 r' e' hr' (br_f (q_nlt0 (by omega)) (q_fail K)))⟩
