/-! ===== changes that both make alike: setWind, payIn, vote, callStrike, makeOffer ===== -/
theorem q_RM_w {T n : Nat} {g : Nat → Nat → Int32} {w w' : Nat → Int32} (h : ∀ k, 11 ≤ k → w' k = w k) (hM : q_RM T n g w) : q_RM T n g w' := by
  obtain ⟨m1, m2, m3⟩ := hM
  exact ⟨fun m s a b d => (m1 m s a b d).trans (h _ (by omega)).symm, fun m s a b d e => (h _ (by omega)).trans (m2 m s a b d e), m3⟩
theorem q_RL_w {n : Nat} {ll : Nat → Nat} {it : Nat → Nat → Nat} {g : Nat → Nat → Int32} {w w' : Nat → Int32} (h : ∀ k, 119 ≤ k → w' k = w k) (hL : q_RL n ll it g w) : q_RL n ll it g w' := by
  obtain ⟨l1, l2, l3⟩ := hL
  exact ⟨fun r hr => ⟨(l1 r hr).1, (h _ (by omega)).trans (l1 r hr).2.1, (l1 r hr).2.2⟩, fun r k hr hk => ⟨(l2 r k hr hk).1, (h _ (by omega)).trans (l2 r k hr hk).2.1, (l2 r k hr hk).2.2⟩, l3⟩
theorem q_RL_g {n : Nat} {ll : Nat → Nat} {it : Nat → Nat → Nat} {g g' : Nat → Nat → Int32} {w : Nat → Int32} (h : ∀ m, m < n → g' m 10 = g m 10 ∧ g' m 11 = g m 11) (hL : q_RL n ll it g w) : q_RL n ll it g' w := by
  obtain ⟨l1, l2, l3⟩ := hL
  refine ⟨fun r hr => ⟨(l1 r hr).1, (l1 r hr).2.1, ?_⟩, fun r k hr hk => ?_, fun m hm => ?_⟩
  · rw [← (l1 r hr).2.2]
    exact q_ct_congr (fun m hm => by rw [(h m hm).1])
  · obtain ⟨a, b, d, e⟩ := l2 r k hr hk
    exact ⟨a, b, (h _ a).1.trans d, (h _ a).2.trans e⟩
  · rcases l3 m hm with a | a
    · exact Or.inl ((h m hm).1.trans a)
    · exact Or.inr a
/-! setWind -/
theorem q_w31 {z : Int32} {H : g_Hp} {Q : g_R → g_Hp → Prop} (K : Q (.inl (some (vR 20 2 0))) H) : wX1_faultOfWind_b31 0 Q 0 z H := br_t rfl K
theorem q_fW1 {d s : Int32} {H : g_Hp} {Q : g_R → g_Hp → Prop} (hd : d < nI 0 ∨ nI 7 < d) (K : Q (.inl (some (vR 20 2 0))) H) : wX1_faultOfWind 0 d s H Q := by
  have K' : wX1_faultOfWind_b14 0 Q s H := ⟨fun _ => q_w31 K, fun _ => ⟨fun _ => q_w31 K, fun _ => q_w31 K⟩⟩
  unfold wX1_faultOfWind
  refine ⟨fun _ => K', fun c => ?_⟩
  rcases hd with e | e
  · exact absurd e c
  · refine br_t ?_ K'
    rw [Int32.lt_iff_toInt_lt, nI_toInt (by omega)] at e
    rw [Int32.le_iff_toInt_le, q_lit 8, nI_toInt (by omega)]
    omega
theorem q_fW2 {d : Nat} {s : Int32} {H : g_Hp} {Q : g_R → g_Hp → Prop} (hd : d ≤ 7) (hs : s < nI 0 ∨ nI 12 < s) (K : Q (.inl (some (vR 20 2 0))) H) : wX1_faultOfWind 0 (nI d) s H Q := by
  have K' : wX1_faultOfWind_b30 0 Q 1 H := br_f (by decide) (br_t rfl K)
  unfold wX1_faultOfWind
  refine br_f (q_nlt0 (by omega)) (br_f (nI_ge (b := 8) (by omega) (by decide)) ⟨fun _ => K', fun c => ?_⟩)
  rcases hs with e | e
  · exact absurd e c
  · exact br_t e K'
theorem q_fW0 {d s : Nat} {H : g_Hp} {Q : g_R → g_Hp → Prop} (hd : d ≤ 7) (hs : s ≤ 12) (K : Q (.inl (some (vR 20 0 0))) H) : wX1_faultOfWind 0 (nI d) (nI s) H Q := by
  unfold wX1_faultOfWind
  refine br_f (q_nlt0 (by omega)) (br_f (nI_ge (b := 8) (by omega) (by decide)) (br_f (q_nlt0 (by omega)) (br_f (nI_nlt (a := 12) hs (by decide)) ?_)))
  exact br_f (by decide) (br_f (by decide) K)
theorem q_aW {d s d0 : Nat} {h : g_Hp} {c : q_C} {Q : g_R → g_Hp → Prop} (hd : d ≤ 7) (h0 : c.1 3 = nI d0) (hd0 : d0 < 8) (K : Q (.inl (some (vI (nI (q_far d0 d))))) (q_cH h 0 (upd (upd c.1 3 (nI d)) 4 (nI s), c.2))) : wX1_turnWind 0 (nI d) (nI s) (q_cH h 0 c) Q := by
  unfold wX1_turnWind
  rw [q_c1, h0]
  exact q_stB hd0 (by omega) (nm_r (q_cu1 _ _ _ _ _) (nm_r (q_cu1 _ _ _ _ _) K))
theorem q_mW1 {d s : Int32} {h : g_Hp} {w : Nat → Int32} {Q : g_R → g_Hp → Prop} (hd : (d < nI 0 ∨ nI 7 < d) ∨ (∃ d', d' ≤ 7 ∧ d = nI d') ∧ (s < nI 0 ∨ nI 12 < s)) (K : Q (.inl (some (vI 0))) (q_mH (g_up h 5 0 0 1 1) 0 w)) : wX8_blows d s (q_mH h 0 w) Q := by
  unfold wX8_blows
  rcases hd with e | ⟨⟨d, hd, rfl⟩, e⟩
  · exact q_isI0 e (br_t rfl (q_fail K))
  · exact q_isIn (lo := 0) (hi := 7) rfl rfl (Nat.zero_le _) hd (by decide) (br_f (by decide) (q_isI0 e (q_n0 rfl (q_fail K))))
theorem q_mW0 {d s d0 : Nat} {h : g_Hp} {w : Nat → Int32} {Q : g_R → g_Hp → Prop} (hd : d ≤ 7) (hs : s ≤ 12) (h0 : w 1 = nI d0) (hd0 : d0 < 8) (K : Q (.inl (some (vI (nI (q_far d0 d))))) (q_mH h 0 (upd (upd w 1 (nI d)) 2 (nI s)))) : wX8_blows (nI d) (nI s) (q_mH h 0 w) Q := by
  unfold wX8_blows
  refine q_isIn (lo := 0) (hi := 7) rfl rfl (Nat.zero_le _) hd (by decide) (br_f (by decide) (q_isIn (lo := 0) (hi := 12) rfl rfl (Nat.zero_le _) hs (by decide) (q_n1 (by decide) ?_)))
  exact nm_r ((q_m1 h 0 w 1).trans h0) (nm_r (q_mu _ _ _ _ _) (nm_r (q_mu _ _ _ _ _) (q_mfar hd0 (by omega) K)))
theorem q_opW {T : Nat} {c : q_C} {w : Nat → Int32} (hR : q_R T c w) (d s : Int32) : q_OP T c w (wX1_faultOfWind 0 d s) (wX1_turnWind 0 d s) (wX8_blows d s) (q_ka 0 1 0 0 0) := by
  obtain ⟨n, ll, it, ⟨⟨s1, s2, s3, s4, s5, s6, s7, s8, s9, s10, s11, s12, s13, s14, s15, ⟨d0, hd0, s16⟩, s17⟩, hM, hL⟩⟩ := hR
  rcases q_rg d 0 7 (by decide) (by decide) with e | e | ⟨d, h1, h2, rfl⟩
  · exact Or.inl ⟨2, by decide, by decide, by decide, by decide, fun h Q K => q_fW1 (Or.inl e) K, fun h Q K => q_mW1 (Or.inl (Or.inl e)) K⟩
  · exact Or.inl ⟨2, by decide, by decide, by decide, by decide, fun h Q K => q_fW1 (Or.inr e) K, fun h Q K => q_mW1 (Or.inl (Or.inr e)) K⟩
  · rcases q_rg s 0 12 (by decide) (by decide) with e | e | ⟨s, h3, h4, rfl⟩
    · exact Or.inl ⟨2, by decide, by decide, by decide, by decide, fun h Q K => q_fW2 h2 (Or.inl e) K, fun h Q K => q_mW1 (Or.inr ⟨⟨d, h2, rfl⟩, Or.inl e⟩) K⟩
    · exact Or.inl ⟨2, by decide, by decide, by decide, by decide, fun h Q K => q_fW2 h2 (Or.inr e) K, fun h Q K => q_mW1 (Or.inr ⟨⟨d, h2, rfl⟩, Or.inr e⟩) K⟩
    · refine Or.inr ⟨(upd (upd c.1 3 (nI d)) 4 (nI s), c.2), upd (upd w 1 (nI d)) 2 (nI s), nI (q_far d0 d), ⟨n, ll, it, ?_, q_RM_w (fun k hk => ?_) hM, q_RL_w (fun k hk => ?_) hL⟩, fun h Q K => q_fW0 h2 h4 K, fun h Q K => q_aW h2 (s4.trans s16) hd0 K, fun h Q K => q_mW0 h2 h4 s16 hd0 K⟩
      · exact ⟨s1, s2, s3, rfl, rfl, s6, s7, s8, s9, s10, s11, s12, s13, s14, s15, ⟨d, by omega, rfl⟩, s17⟩
      · rw [pk_un (by omega), pk_un (by omega)]
      · rw [pk_un (by omega), pk_un (by omega)]
/-! payIn -/
theorem q_fP1 {p : Int32} {H : g_Hp} {Q : g_R → g_Hp → Prop} (hp : p < nI 1 ∨ nI 999 < p) (K : Q (.inl (some (vR 20 2 0))) H) : wX1_faultOfPaying 0 p H Q := by
  unfold wX1_faultOfPaying
  rcases hp with c | c
  · exact br_t c K
  · exact ⟨fun _ => K, fun _ => br_f (q_nle c) K⟩
theorem q_fP0 {p F : Nat} {H : g_Hp} {Q : g_R → g_Hp → Prop} (h1 : 1 ≤ p) (h2 : p ≤ 999) (hF : F ≤ 9999) (hH : H 1 0 0 10 = nI F) (K0 : F + p ≤ 9999 → Q (.inl (some (vR 20 0 0))) H) (K3 : 9999 < F + p → Q (.inl (some (vR 20 3 0))) H) : wX1_faultOfPaying 0 (nI p) H Q := by
  unfold wX1_faultOfPaying
  refine br_f (nI_nlt (b := 1) h1 (by omega)) (br_t (nI_le (b := 999) h2 (by decide)) ?_)
  rw [hH, nI_add]
  exact pk_le (F + p) 9999 (fun c => K0 c) (fun c => K3 c)
theorem q_mP1 {p : Int32} {h : g_Hp} {w : Nat → Int32} {Q : g_R → g_Hp → Prop} (hp : p < nI 1 ∨ nI 999 < p) (K : Q (.inl (some (vI 0))) (q_mH (g_up h 5 0 0 1 1) 0 w)) : wX8_pays p (q_mH h 0 w) Q := by
  unfold wX8_pays
  exact q_isI0 hp (q_n0 rfl (q_fail K))
theorem q_mP0 {p F : Nat} {h : g_Hp} {w : Nat → Int32} {Q : g_R → g_Hp → Prop} (h1 : 1 ≤ p) (h2 : p ≤ 999) (hF : F ≤ 9999) (hH : w 7 = nI F) (K0 : F + p ≤ 9999 → Q (.inl (some (vI (nI (F + p))))) (q_mH h 0 (upd w 7 (nI (F + p))))) (K3 : 9999 < F + p → Q (.inl (some (vI 0))) (q_mH (g_up h 5 0 0 1 2) 0 w)) : wX8_pays (nI p) (q_mH h 0 w) Q := by
  unfold wX8_pays
  refine q_isIn (lo := 1) (hi := 999) rfl rfl h1 h2 (by decide) (q_n1 (by decide) ?_)
  rw [q_k7, q_m1, hH, nI_add]
  refine pk_le (F + p) 9999 (fun c => nm_r (q_mu _ _ _ _ _) ?_) (fun c => q_fail (K3 c))
  rw [q_m1, pk_us]
  exact K0 c
theorem q_opP {T : Nat} {c : q_C} {w : Nat → Int32} (hR : q_R T c w) (p : Int32) : q_OP T c w (wX1_faultOfPaying 0 p) (wX1_pay 0 p) (wX8_pays p) (q_ka 0 1 2 0 0) := by
  obtain ⟨n, ll, it, ⟨⟨s1, s2, s3, s4, s5, s6, s7, s8, s9, s10, s11, s12, ⟨F, hF, s13⟩, s14, s15, s16, s17⟩, hM, hL⟩⟩ := hR
  rcases q_rg p 1 999 (by decide) (by decide) with e | e | ⟨p, h1, h2, rfl⟩
  · exact Or.inl ⟨2, by decide, by decide, by decide, by decide, fun h Q K => q_fP1 (Or.inl e) K, fun h Q K => q_mP1 (Or.inl e) K⟩
  · exact Or.inl ⟨2, by decide, by decide, by decide, by decide, fun h Q K => q_fP1 (Or.inr e) K, fun h Q K => q_mP1 (Or.inr e) K⟩
  · have e10 : c.1 10 = nI F := s12.trans s13
    by_cases z : F + p ≤ 9999
    · refine Or.inr ⟨(upd c.1 10 (nI (F + p)), c.2), upd w 7 (nI (F + p)), nI (F + p), ⟨n, ll, it, ?_, q_RM_w (fun k hk => ?_) hM, q_RL_w (fun k hk => ?_) hL⟩, fun h Q K => q_fP0 h1 h2 hF ((q_c1 _ _ _ _).trans e10) (fun _ => K) (fun q => by omega), fun h Q K => ?_, fun h Q K => q_mP0 h1 h2 hF s13 (fun _ => K) (fun q => by omega)⟩
      · exact ⟨s1, s2, s3, s4, s5, s6, s7, s8, s9, s10, s11, rfl, ⟨F + p, z, rfl⟩, s14, s15, s16, s17⟩
      · rw [pk_un (by omega)]
      · rw [pk_un (by omega)]
      · unfold wX1_pay
        rw [q_c1, e10, nI_add]
        refine nm_r (q_cu1 _ _ _ _ _) ?_
        rw [q_c1]
        exact K
    · exact Or.inl ⟨3, by decide, by decide, by decide, by decide, fun h Q K => q_fP0 h1 h2 hF ((q_c1 _ _ _ _).trans e10) (fun q => by omega) (fun _ => K), fun h Q K => q_mP0 h1 h2 hF s13 (fun q => by omega) (fun _ => K)⟩
