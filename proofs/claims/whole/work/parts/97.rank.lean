/-! ===== isConsistent, memberAtRank ===== -/
section QW
variable {T : Nat} {h : g_Hp} {p p1 : Int32} {Z : Int32 → Int32 → g_Hp → Prop} {EX0 EX1 : String → g_Hp → Prop}
theorem q_cS (hI : q_I T h) : ∃ n, n ≤ 12 ∧ h 1 0 0 2 = nI n ∧ (∀ i, i < n → ∃ v : Int32, (∀ Q : g_R → g_Hp → Prop, Q (.inl (some (vI v))) h → wX7_stepsToWind (nI i) h Q) ∧ (∀ Q : g_R → g_Hp → Prop, Q (.inl (some (vI v))) h → wX7_stepsToWindByTurning (nI i) h Q)) ∧ (∃ v : Int32, (∀ Q : g_R → g_Hp → Prop, Q (.inl (some (vI v))) h → wX7_lostTotal h Q) ∧ (∀ Q : g_R → g_Hp → Prop, Q (.inl (some (vI v))) h → wX7_lostTotalByRoofs h Q)) ∧ (∃ v : Int32, (∀ Q : g_R → g_Hp → Prop, ¬ h 1 0 0 2 = 0 → Q (.inl (some (vI v))) h → wX7_fundedShifts h Q) ∧ (∀ Q : g_R → g_Hp → Prop, ¬ h 1 0 0 2 = 0 → Q (.inl (some (vI v))) h → wX7_fundedShiftsByPaying h Q)) := by
  obtain ⟨n, ll, it, ⟨⟨s1, s2, s3, s4, s5, s6, s7, s8, s9, s10, s11, s12, ⟨F, hF, s13⟩, s14, s15, ⟨d, hd, s16⟩, _⟩, ⟨m1, _, m3⟩, _⟩⟩ := hI.1
  have e2 : h 1 0 0 2 = nI n := s2
  have e10 : h 1 0 0 10 = nI F := s12.trans s13
  have ew : h 1 0 0 3 = nI d := s4.trans s16
  have nz : ¬ h 1 0 0 2 = 0 → 1 ≤ n := fun q => by
    rcases Nat.eq_zero_or_pos n with z | z
    · subst z
      exact absurd e2 q
    · exact z
  refine ⟨n, s1, e2, fun i hi => ?_, ⟨q_sw (fun m => h 2 0 m 6) n, fun Q K => ?_, fun Q K => ?_⟩, ⟨nI (F / (2 * n)), fun Q z K => ?_, fun Q z K => ?_⟩⟩
  · obtain ⟨b, hb, rb⟩ := (m3 i hi).2.2.1
    have rb' : h 2 0 i 3 = nI b := rb
    refine ⟨nI (q_far b d), fun Q K => ?_, fun Q K => ?_⟩
    · unfold wX7_stepsToWind
      refine q_ex1 e2 s1 hi (And.intro rfl ?_)
      show wX7_stepsBetween (h 2 0 i 3) (h 1 0 0 3) h _
      rw [rb', ew]
      exact q_stB hb hd K
    · unfold wX7_stepsToWindByTurning
      refine q_ex1 e2 s1 hi (And.intro rfl ?_)
      show wX7_stepsByTurning (h 2 0 i 3) (h 1 0 0 3) h _
      rw [rb', ew]
      exact q_stT hb hd K
  · exact q_sLM e2 s1 K
  · exact q_sLR (rr := fun m => (h 2 0 m 1).toNatClampNeg) e2 s1 (q_rrE m3) K
  · refine q_rm1 e2 s1 (nz z) (q_cDF1 e2 s1 (nz z) ?_)
    rw [e10, q_pyE s1 (nz z) hF]
    exact K
  · exact q_rm1 e2 s1 (nz z) (q_pyO e2 s1 (nz z) hF e10 K)
theorem q_L52 (hI : q_I T h) (hZ : q_AV T Z) : wX7_isConsistent h (g_kI (fun a h1 => wX8_isConsistent h1 (g_kI (fun b h2 => Z a b h2) EX1)) EX0) := by
  obtain ⟨n, hn, e2, st, ⟨v1, lT, lR⟩, ⟨v2, fS, fP⟩⟩ := q_cS hI
  have B : wX7_isConsistent_b68 (g_kI (fun a h1 => wX8_isConsistent h1 (g_kI (fun b h2 => Z a b h2) EX1)) EX0) h := by
    obtain ⟨n, ll, it, ⟨⟨s1, s2, s3, s4, s5, s6, s7, s8, s9, s10, s11, s12, ⟨F, hF, s13⟩, _⟩, _, _⟩⟩ := hI.1
    have e7 : h 13 0 0 8 = nI F := s13
    refine And.intro (Or.inr rfl) ?_
    show wX8_isConsistent h (g_kI (fun b h2 => Z 1 b h2) EX1)
    unfold wX8_isConsistent
    refine nm_e ?_
    rw [q_k7, q_tho (by decide), e7]
    exact br_f (q_nlt0 (by omega)) (br_f (nI_nlt (a := 9999) (b := F) hF (by decide)) (And.intro (Or.inr rfl) (hZ 1 _ (q_Iq 0 hI))))
  unfold wX7_isConsistent
  have lt : ∀ i, ¬ h 1 0 0 2 ≤ nI i → i < 2 ^ 31 → i < n := fun i c hi => Nat.lt_of_not_le (fun q => c (by rw [e2]; exact nI_le q hi))
  refine And.intro (fun _ => lT _ (lR _ (br_t rfl (And.intro (fun _ => B) (fun z => fS _ z (fP _ z (q_n0 rfl B))))))) (fun c0 => ?_)
  have i0 := lt 0 c0 (by decide)
  obtain ⟨v, a, b⟩ := st 0 i0
  refine a _ (b _ (br_t rfl ?_))
  refine And.intro (fun _ => lT _ (lR _ (br_t rfl (And.intro (fun _ => B) (fun z => fS _ z (fP _ z (q_n0 rfl B))))))) (fun c1 => ?_)
  have i1 := lt 1 c1 (by decide)
  obtain ⟨v, a, b⟩ := st 1 i1
  refine a _ (b _ (br_t rfl ?_))
  refine And.intro (fun _ => lT _ (lR _ (br_t rfl (And.intro (fun _ => B) (fun z => fS _ z (fP _ z (q_n0 rfl B))))))) (fun c2 => ?_)
  have i2 := lt 2 c2 (by decide)
  obtain ⟨v, a, b⟩ := st 2 i2
  refine a _ (b _ (br_t rfl ?_))
  refine And.intro (fun _ => lT _ (lR _ (br_t rfl (And.intro (fun _ => B) (fun z => fS _ z (fP _ z (q_n0 rfl B))))))) (fun c3 => ?_)
  have i3 := lt 3 c3 (by decide)
  obtain ⟨v, a, b⟩ := st 3 i3
  refine a _ (b _ (br_t rfl ?_))
  refine And.intro (fun _ => lT _ (lR _ (br_t rfl (And.intro (fun _ => B) (fun z => fS _ z (fP _ z (q_n0 rfl B))))))) (fun c4 => ?_)
  have i4 := lt 4 c4 (by decide)
  obtain ⟨v, a, b⟩ := st 4 i4
  refine a _ (b _ (br_t rfl ?_))
  refine And.intro (fun _ => lT _ (lR _ (br_t rfl (And.intro (fun _ => B) (fun z => fS _ z (fP _ z (q_n0 rfl B))))))) (fun c5 => ?_)
  have i5 := lt 5 c5 (by decide)
  obtain ⟨v, a, b⟩ := st 5 i5
  refine a _ (b _ (br_t rfl ?_))
  refine And.intro (fun _ => lT _ (lR _ (br_t rfl (And.intro (fun _ => B) (fun z => fS _ z (fP _ z (q_n0 rfl B))))))) (fun c6 => ?_)
  have i6 := lt 6 c6 (by decide)
  obtain ⟨v, a, b⟩ := st 6 i6
  refine a _ (b _ (br_t rfl ?_))
  refine And.intro (fun _ => lT _ (lR _ (br_t rfl (And.intro (fun _ => B) (fun z => fS _ z (fP _ z (q_n0 rfl B))))))) (fun c7 => ?_)
  have i7 := lt 7 c7 (by decide)
  obtain ⟨v, a, b⟩ := st 7 i7
  refine a _ (b _ (br_t rfl ?_))
  refine And.intro (fun _ => lT _ (lR _ (br_t rfl (And.intro (fun _ => B) (fun z => fS _ z (fP _ z (q_n0 rfl B))))))) (fun c8 => ?_)
  have i8 := lt 8 c8 (by decide)
  obtain ⟨v, a, b⟩ := st 8 i8
  refine a _ (b _ (br_t rfl ?_))
  refine And.intro (fun _ => lT _ (lR _ (br_t rfl (And.intro (fun _ => B) (fun z => fS _ z (fP _ z (q_n0 rfl B))))))) (fun c9 => ?_)
  have i9 := lt 9 c9 (by decide)
  obtain ⟨v, a, b⟩ := st 9 i9
  refine a _ (b _ (br_t rfl ?_))
  refine And.intro (fun _ => lT _ (lR _ (br_t rfl (And.intro (fun _ => B) (fun z => fS _ z (fP _ z (q_n0 rfl B))))))) (fun c10 => ?_)
  have i10 := lt 10 c10 (by decide)
  obtain ⟨v, a, b⟩ := st 10 i10
  refine a _ (b _ (br_t rfl ?_))
  refine And.intro (fun _ => lT _ (lR _ (br_t rfl (And.intro (fun _ => B) (fun z => fS _ z (fP _ z (q_n0 rfl B))))))) (fun c11 => ?_)
  have i11 := lt 11 c11 (by decide)
  obtain ⟨v, a, b⟩ := st 11 i11
  refine a _ (b _ (br_t rfl ?_))
  refine And.intro (fun _ => lT _ (lR _ (br_t rfl (And.intro (fun _ => B) (fun z => fS _ z (fP _ z (q_n0 rfl B))))))) (fun c12 => ?_)
  have i12 := lt 12 c12 (by decide)
  omega
/-! ranks -/
def q_ah (wg lo : Nat → Int32) (i j : Nat) : Bool := decide (wg j < wg i ∨ (wg i = wg j ∧ (lo i < lo j ∨ (lo i = lo j ∧ i < j))))
def q_rk (wg lo : Nat → Int32) (n j : Nat) : Int32 := nI (q_ct (fun i => q_ah wg lo i j) n)
theorem q_fnd (P : Nat → Prop) [DecidablePred P] : ∀ n, (∃ m, m < n ∧ P m ∧ ∀ m', m' < m → ¬ P m') ∨ (∀ m, m < n → ¬ P m)
  | 0 => Or.inr (fun m hm => absurd hm (by omega))
  | n + 1 => by
    rcases q_fnd P n with ⟨m, h1, h2, h3⟩ | h1
    · exact Or.inl ⟨m, by omega, h2, h3⟩
    · by_cases c : P n
      · exact Or.inl ⟨n, by omega, c, h1⟩
      · refine Or.inr (fun m hm => ?_)
        by_cases e : m = n
        · rw [e]
          exact c
        · exact h1 m (by omega)
theorem q_iA {t a : Nat} {H : g_Hp} {Q : g_R → g_Hp → Prop} (K1 : (H 2 0 a 4 < H 2 0 t 4 ∨ (H 2 0 t 4 = H 2 0 a 4 ∧ ¬ H 2 0 a 6 < H 2 0 t 6)) → Q (.inl (some (vI 1))) H) (K0 : ¬ (H 2 0 a 4 < H 2 0 t 4 ∨ (H 2 0 t 4 = H 2 0 a 4 ∧ ¬ H 2 0 a 6 < H 2 0 t 6)) → Q (.inl (some (vI 0))) H) : wX6_isAheadOf 0 t 0 a H Q := by
  unfold wX6_isAheadOf
  refine And.intro (fun e => And.intro (fun l => And.intro (Or.inl rfl) (K0 (fun q => ?_))) (fun l => And.intro (Or.inr rfl) (K1 (Or.inr ⟨e, l⟩)))) (fun e => And.intro (fun l => And.intro (Or.inl rfl) (K0 (fun q => ?_))) (fun l => And.intro (Or.inr rfl) (K1 (Or.inl ?_))))
  · rcases q with q | q
    · rw [e, Int32.lt_iff_toInt_lt] at q
      omega
    · exact q.2 l
  · rcases q with q | q
    · exact q_nlt l q
    · exact e q.1
  · rw [Int32.le_iff_toInt_le] at l
    rw [Int32.lt_iff_toInt_lt]
    omega
theorem q_ahT {wg lo : Nat → Int32} {i j : Nat} (hij : i < j) : q_ah wg lo i j = decide (wg j < wg i ∨ (wg i = wg j ∧ ¬ lo j < lo i)) := by
  unfold q_ah
  refine decide_eq_decide.mpr ⟨fun q => ?_, fun q => ?_⟩
  · rcases q with q | ⟨q, r | r⟩
    · exact Or.inl q
    · refine Or.inr ⟨q, ?_⟩
      rw [Int32.lt_iff_toInt_lt] at r ⊢
      omega
    · refine Or.inr ⟨q, ?_⟩
      rw [Int32.lt_iff_toInt_lt, r.1]
      omega
  · rcases q with q | ⟨q, r⟩
    · exact Or.inl q
    · refine Or.inr ⟨q, ?_⟩
      by_cases c : lo i = lo j
      · exact Or.inr ⟨c, hij⟩
      · refine Or.inl ?_
        rw [← Int32.toInt_inj] at c
        rw [Int32.lt_iff_toInt_lt] at r ⊢
        omega
theorem q_ahF {wg lo : Nat → Int32} {i j : Nat} (hij : j < i) : q_ah wg lo i j = decide (¬ (wg i < wg j ∨ (wg j = wg i ∧ ¬ lo i < lo j))) := by
  unfold q_ah
  refine decide_eq_decide.mpr ⟨fun q => ?_, fun q => ?_⟩
  · intro r
    rcases q with q | ⟨q, s | s⟩
    · rcases r with r | r
      · rw [Int32.lt_iff_toInt_lt] at q r
        omega
      · rw [r.1, Int32.lt_iff_toInt_lt] at q
        omega
    · rcases r with r | r
      · rw [q, Int32.lt_iff_toInt_lt] at r
        omega
      · exact r.2 s
    · omega
  · by_cases c : wg i = wg j
    · refine Or.inr ⟨c, Or.inl ?_⟩
      by_cases d : lo i < lo j
      · exact d
      · exact absurd (Or.inr ⟨c.symm, d⟩) q
    · refine Or.inl ?_
      rw [← Int32.toInt_inj] at c
      by_cases d : wg i < wg j
      · exact absurd (Or.inl d) q
      · rw [Int32.lt_iff_toInt_lt] at d ⊢
        omega
theorem q_ahE {wg lo : Nat → Int32} (j : Nat) : q_ah wg lo j j = false := by
  unfold q_ah
  refine decide_eq_false (fun q => ?_)
  rcases q with q | ⟨_, q | q⟩
  · rw [Int32.lt_iff_toInt_lt] at q
    omega
  · rw [Int32.lt_iff_toInt_lt] at q
    omega
  · omega
theorem q_cRk {n j : Nat} {H : g_Hp} {Q : g_R → g_Hp → Prop} (hN : H 1 0 0 2 = nI n) (hn : n ≤ 12) (hj : j < n) (K : Q (.inl (some (vI (q_rk (fun m => H 2 0 m 4) (fun m => H 2 0 m 6) n j)))) H) : wX1_rankOf 0 (nI j) H Q := by
  refine q_loop (fun k i => wX1_rankOf_b4_I 0 Q k (nI j) (q_rk (fun m => H 2 0 m 4) (fun m => H 2 0 m 6) i j) (nI i) H) n 0 (Nat.zero_le _) ?_ ?_
  · intro k
    show wX1_rankOf_b4_B 0 Q _ _ _ _ H
    unfold wX1_rankOf_b4_B
    rw [hN]
    exact br_t (nI_le (Nat.le_refl _) (by omega)) K
  · intro k i _ hi hk
    show wX1_rankOf_b4_B 0 Q _ _ _ _ H
    unfold wX1_rankOf_b4_B
    rw [hN]
    refine br_f (nI_ge hi (by omega)) ?_
    unfold q_rk at hk ⊢
    rw [q_ct_add] at hk
    have no : q_ah (fun m => H 2 0 m 4) (fun m => H 2 0 m 6) i j = false → wX1_rankOf_b61 0 Q (wX1_rankOf_b4_I 0 Q k) (nI j) (nI (q_ct (fun i => q_ah (fun m => H 2 0 m 4) (fun m => H 2 0 m 6) i j) i)) (nI i) H := fun q => by
      rw [q, if_neg (by decide), Nat.add_zero] at hk
      exact nm_r (nI_1 i) hk
    have yes : q_ah (fun m => H 2 0 m 4) (fun m => H 2 0 m 6) i j = true → wX1_rankOf_b58 0 Q (wX1_rankOf_b4_I 0 Q k) (nI j) (nI (q_ct (fun i => q_ah (fun m => H 2 0 m 4) (fun m => H 2 0 m 6) i j) i)) (nI i) H := fun q => by
      rw [q, if_pos rfl] at hk
      exact nm_r (nI_1 _) (nm_r (nI_1 i) hk)
    rcases Nat.lt_trichotomy i j with c | c | c
    · have b35 : q_ah (fun m => H 2 0 m 4) (fun m => H 2 0 m 6) i j = false → wX1_rankOf_b35 0 Q (wX1_rankOf_b4_I 0 Q k) (nI j) (nI (q_ct (fun i => q_ah (fun m => H 2 0 m 4) (fun m => H 2 0 m 6) i j) i)) (nI i) H := fun q => br_t (nI_le (by omega) (by omega)) (no q)
      refine br_f (nI_ge c (by omega)) (And.intro (q_vI (by omega) (by decide)) (nm_r (nI_clamp (by omega)) (And.intro (q_vI (by omega) (by decide)) (nm_r (nI_clamp (by omega)) (q_iA (fun q => q_n1 (by decide) (yes ?_)) (fun q => q_n0 rfl (b35 ?_)))))))
      · rw [q_ahT c]
        exact decide_eq_true q
      · rw [q_ahT c]
        exact decide_eq_false q
    · subst c
      exact br_t (nI_le (Nat.le_refl _) (by omega)) (br_t (nI_le (Nat.le_refl _) (by omega)) (no (q_ahE i)))
    · refine br_t (nI_le (by omega) (by omega)) (br_f (nI_ge c (by omega)) (And.intro (q_vI (by omega) (by decide)) (nm_r (nI_clamp (by omega)) (And.intro (q_vI (by omega) (by decide)) (nm_r (nI_clamp (by omega)) (q_iA (fun q => q_n1 (by decide) (no ?_)) (fun q => q_n0 rfl (yes ?_))))))))
      · rw [q_ahF c]
        exact decide_eq_false (fun r => r q)
      · rw [q_ahF c]
        exact decide_eq_true q
theorem q_mRk {n j : Nat} {x : Int32} {H : g_Hp} {Q : g_R → g_Hp → Prop} {R : Int32 → Int32 → g_Hp → Prop} (hN : H 13 0 0 1 = nI n) (hn : n ≤ 12) (hj : j < n) (K : ((¬ q_rk (fun m => H 13 0 0 (47 + m + 1)) (fun m => H 13 0 0 (71 + m + 1)) n j = x) → R x (nI (j + 1)) H) ∧ ((q_rk (fun m => H 13 0 0 (47 + m + 1)) (fun m => H 13 0 0 (71 + m + 1)) n j = x) → Q (.inl (some (vI (nI j)))) H)) : wX8_memberAtRank_b22 Q R x (nI j) 0 0 H := by
  refine q_loop (fun k i => wX8_memberAtRank_b22_I Q R k x (nI j) (q_rk (fun m => H 13 0 0 (47 + m + 1)) (fun m => H 13 0 0 (71 + m + 1)) i j) (nI i) H) n 0 (Nat.zero_le _) ?_ ?_
  · intro k
    show wX8_memberAtRank_b22_B Q R _ _ _ _ _ H
    unfold wX8_memberAtRank_b22_B
    rw [q_k0, hN]
    exact br_t (nI_le (Nat.le_refl _) (by omega)) (And.intro (fun c => nm_r (nI_1 j) (K.1 c)) (fun c => K.2 c))
  · intro k i _ hi hk
    show wX8_memberAtRank_b22_B Q R _ _ _ _ _ H
    unfold wX8_memberAtRank_b22_B
    rw [q_k0, hN, q_i47 (by omega), q_i47 (by omega), q_i71 (by omega), q_i71 (by omega)]
    refine br_f (nI_ge hi (by omega)) ?_
    unfold q_rk at hk ⊢
    rw [q_ct_add] at hk
    generalize hwg : (fun m => H 13 0 0 (47 + m + 1)) = wg at *
    generalize hlo : (fun m => H 13 0 0 (71 + m + 1)) = lo at *
    have g1 : ∀ m, H 13 0 0 (47 + m + 1) = wg m := fun m => congrFun hwg m
    have g2 : ∀ m, H 13 0 0 (71 + m + 1) = lo m := fun m => congrFun hlo m
    have no : q_ah wg lo i j = false → wX8_memberAtRank_b148 Q R (wX8_memberAtRank_b22_I Q R k) x (nI j) (nI (q_ct (fun i => q_ah wg lo i j) i)) (nI i) 0 H := fun q => by
      rw [q, if_neg (by decide), Nat.add_zero] at hk
      exact br_t rfl (nm_r (nI_add _ 0) (nm_r (nI_1 i) hk))
    have yes : q_ah wg lo i j = true → wX8_memberAtRank_b148 Q R (wX8_memberAtRank_b22_I Q R k) x (nI j) (nI (q_ct (fun i => q_ah wg lo i j) i)) (nI i) 1 H := fun q => by
      rw [q, if_pos rfl] at hk
      exact br_f (by decide) (nm_r (nI_add _ 1) (nm_r (nI_1 i) hk))
    rw [g1, g1, g2, g2]
    refine And.intro (q_v47 (by omega)) (And.intro (q_v47 (by omega)) (And.intro (fun c => ?_) (fun c => ?_)))
    · refine And.intro (q_v71 (by omega)) (And.intro (q_v71 (by omega)) (And.intro (fun d => ?_) (fun d => ?_)))
      · refine And.intro (fun e => no (decide_eq_false ?_)) (fun e => yes (decide_eq_true ?_))
        · rw [nI_leI (by omega) (by omega)] at e
          rw [c, d]
          rintro (q | ⟨_, q | q⟩)
          · rw [Int32.lt_iff_toInt_lt] at q
            omega
          · rw [Int32.lt_iff_toInt_lt] at q
            omega
          · omega
        · rw [nI_leI (by omega) (by omega)] at e
          exact Or.inr ⟨c, Or.inr ⟨d, by omega⟩⟩
      · refine And.intro (q_v71 (by omega)) (And.intro (q_v71 (by omega)) (And.intro (fun e => no (decide_eq_false ?_)) (fun e => yes (decide_eq_true ?_))))
        · rw [c]
          rintro (q | ⟨_, q | q⟩)
          · rw [Int32.lt_iff_toInt_lt] at q
            omega
          · exact q_nlt e q
          · exact d q.1
        · refine Or.inr ⟨c, Or.inl ?_⟩
          rw [Int32.le_iff_toInt_le] at e
          rw [Int32.lt_iff_toInt_lt]
          omega
    · refine And.intro (q_v47 (by omega)) (And.intro (q_v47 (by omega)) (And.intro (fun e => no (decide_eq_false ?_)) (fun e => yes (decide_eq_true ?_))))
      · rintro (q | q)
        · exact q_nlt e q
        · exact c q.1
      · refine Or.inl ?_
        rw [Int32.le_iff_toInt_le] at e
        rw [Int32.lt_iff_toInt_lt]
        omega
theorem q_mAR1 {n m : Nat} {H : g_Hp} {x : Int32} {Q : g_R → g_Hp → Prop} (hN : H 13 0 0 1 = nI n) (hn : n ≤ 12) (hm : m < n) (hx : q_rk (fun m => H 13 0 0 (47 + m + 1)) (fun m => H 13 0 0 (71 + m + 1)) n m = x) (hno : ∀ m', m' < m → ¬ q_rk (fun m => H 13 0 0 (47 + m + 1)) (fun m => H 13 0 0 (71 + m + 1)) n m' = x) (K : Q (.inl (some (vI (nI m)))) H) : wX8_memberAtRank_b7 Q x 0 H := by
  refine q_loop (fun k i => wX8_memberAtRank_b7_I Q k x (nI i) H) m 0 (Nat.zero_le _) ?_ ?_
  · intro k
    show wX8_memberAtRank_b7_B Q _ _ _ H
    unfold wX8_memberAtRank_b7_B
    rw [q_k0, hN]
    exact br_f (nI_ge hm (by omega)) (q_mRk hN hn hm (q_n0 hx K))
  · intro k i _ hi hk
    show wX8_memberAtRank_b7_B Q _ _ _ H
    unfold wX8_memberAtRank_b7_B
    rw [q_k0, hN]
    exact br_f (nI_ge (by omega) (by omega)) (q_mRk hN hn (by omega) (q_n1 (hno i hi) hk))
theorem q_mAR0 {n : Nat} {H : g_Hp} {x : Int32} {Q : g_R → g_Hp → Prop} (hN : H 13 0 0 1 = nI n) (hn : n ≤ 12) (hno : ∀ m', m' < n → ¬ q_rk (fun m => H 13 0 0 (47 + m + 1)) (fun m => H 13 0 0 (71 + m + 1)) n m' = x) (K : Q (.inl (some (vI 0))) (g_up H 5 0 0 1 1)) : wX8_memberAtRank_b7 Q x 0 H := by
  refine q_loop (fun k i => wX8_memberAtRank_b7_I Q k x (nI i) H) n 0 (Nat.zero_le _) ?_ ?_
  · intro k
    show wX8_memberAtRank_b7_B Q _ _ _ H
    unfold wX8_memberAtRank_b7_B
    rw [q_k0, hN]
    refine br_t (nI_le (Nat.le_refl _) (by omega)) ?_
    unfold wX8_fail
    exact nm_e K
  · intro k i _ hi hk
    show wX8_memberAtRank_b7_B Q _ _ _ H
    unfold wX8_memberAtRank_b7_B
    rw [q_k0, hN]
    exact br_f (nI_ge (by omega) (by omega)) (q_mRk hN hn (by omega) (q_n1 (hno i hi) hk))
theorem q_cAR1 {n m : Nat} {H : g_Hp} {x : Int32} {Q : g_R → g_Hp → Prop} (hN : H 1 0 0 2 = nI n) (hn : n ≤ 12) (hm : m < n) (hx : q_rk (fun m => H 2 0 m 4) (fun m => H 2 0 m 6) n m = x) (hno : ∀ m', m' < m → ¬ q_rk (fun m => H 2 0 m 4) (fun m => H 2 0 m 6) n m' = x) (K : Q (.inl (some (vI (nI m)))) H) : wX1_findRank 0 x H Q := by
  refine q_loop (fun k i => wX1_findRank_b2_I 0 Q k x (nI i) H) m 0 (Nat.zero_le _) ?_ ?_
  · intro k
    show wX1_findRank_b2_B 0 Q _ _ _ H
    unfold wX1_findRank_b2_B
    rw [hN]
    exact br_f (nI_ge hm (by omega)) (q_cRk hN hn hm (q_n0 hx K))
  · intro k i _ hi hk
    show wX1_findRank_b2_B 0 Q _ _ _ H
    unfold wX1_findRank_b2_B
    rw [hN]
    exact br_f (nI_ge (by omega) (by omega)) (q_cRk hN hn (by omega) (q_n1 (hno i hi) (nm_r (nI_1 i) hk)))
theorem q_cAR0 {n : Nat} {H : g_Hp} {x : Int32} {Q : g_R → g_Hp → Prop} (hN : H 1 0 0 2 = nI n) (hn : n ≤ 12) (hno : ∀ m', m' < n → ¬ q_rk (fun m => H 2 0 m 4) (fun m => H 2 0 m 6) n m' = x) (K : Q (.inl (some (vI (-1)))) H) : wX1_findRank 0 x H Q := by
  refine q_loop (fun k i => wX1_findRank_b2_I 0 Q k x (nI i) H) n 0 (Nat.zero_le _) ?_ ?_
  · intro k
    show wX1_findRank_b2_B 0 Q _ _ _ H
    unfold wX1_findRank_b2_B
    rw [hN]
    exact br_t (nI_le (Nat.le_refl _) (by omega)) K
  · intro k i _ hi hk
    show wX1_findRank_b2_B 0 Q _ _ _ H
    unfold wX1_findRank_b2_B
    rw [hN]
    exact br_f (nI_ge (by omega) (by omega)) (q_cRk hN hn (by omega) (q_n1 (hno i hi) (nm_r (nI_1 i) hk)))
theorem q_rk_c {wg lo wg' lo' : Nat → Int32} {n j : Nat} (hj : j < n) (h1 : ∀ m, m < n → wg m = wg' m) (h2 : ∀ m, m < n → lo m = lo' m) : q_rk wg lo n j = q_rk wg' lo' n j := by
  unfold q_rk
  refine congrArg nI (q_ct_congr (fun m hm => ?_))
  unfold q_ah
  rw [h1 m hm, h1 j hj, h2 m hm, h2 j hj]
theorem q_L11 (hI : q_I T h) (hZ : q_AN T Z) : wL_memberAtRank p h (g_kI (fun k h1 => wX8_memberAtRank p h1 (g_kI (fun b h2 => Z k b h2) EX1)) EX0) := by
  obtain ⟨n, ll, it, ⟨⟨s1, s2, s3, _⟩, ⟨m1, _, m3⟩, _⟩⟩ := hI.1
  have e2 : h 1 0 0 2 = nI n := s2
  have e0 : h 13 0 0 1 = nI n := s3
  have w4 : ∀ m, m < n → h 13 0 0 (47 + m + 1) = h 2 0 m 4 := fun m hm => (m1 m 4 hm (by decide) (by decide)).symm
  have w6 : ∀ m, m < n → h 13 0 0 (71 + m + 1) = h 2 0 m 6 := fun m hm => (m1 m 6 hm (by decide) (by decide)).symm
  unfold wL_memberAtRank wX7_memberAtRank
  rcases q_fnd (fun m => q_rk (fun m => h 2 0 m 4) (fun m => h 2 0 m 6) n m = p) n with ⟨m, hm, f1, f2⟩ | f1
  · refine q_cAR1 e2 s1 hm f1 f2 (q_n1 (fun q => ?_) (nm_e ?_))
    · have := congrArg Int32.toInt q
      rw [nI_toInt (by omega)] at this
      have y3 : (-1 : Int32).toInt = -1 := by decide
      omega
    · show wX8_memberAtRank p (g_up h 15 0 0 1 (nI m)) (g_kI (fun b h2 => Z 0 b h2) EX1)
      unfold wX8_memberAtRank
      have ek : ∀ j, j < n → q_rk (fun m' => g_up (g_up h 15 0 0 1 (nI m)) 5 0 0 1 0 13 0 0 (47 + m' + 1)) (fun m' => g_up (g_up h 15 0 0 1 (nI m)) 5 0 0 1 0 13 0 0 (71 + m' + 1)) n j = q_rk (fun m => h 2 0 m 4) (fun m => h 2 0 m 6) n j := fun j hj => q_rk_c hj (fun m' hm' => (q_H2o (by decide) (by decide)).trans (w4 m' hm')) (fun m' hm' => (q_H2o (by decide) (by decide)).trans (w6 m' hm'))
      exact nm_e (q_mAR1 ((q_H2o (by decide) (by decide)).trans e0) s1 hm ((ek m hm).trans f1) (fun m' hm' q => f2 m' hm' ((ek m' (by omega)).symm.trans q)) (q_an0 hZ hI _))
  · refine q_cAR0 e2 s1 f1 (q_n0 rfl (And.intro rfl ?_))
    show wX8_memberAtRank p h (g_kI (fun b h2 => Z 1 b h2) EX1)
    unfold wX8_memberAtRank
    have ek : ∀ j, j < n → q_rk (fun m' => g_up h 5 0 0 1 0 13 0 0 (47 + m' + 1)) (fun m' => g_up h 5 0 0 1 0 13 0 0 (71 + m' + 1)) n j = q_rk (fun m => h 2 0 m 4) (fun m => h 2 0 m 6) n j := fun j hj => q_rk_c hj (fun m' hm' => (q_tho (by decide)).trans (w4 m' hm')) (fun m' hm' => (q_tho (by decide)).trans (w6 m' hm'))
    exact nm_e (q_mAR0 ((q_tho (by decide)).trans e0) s1 (fun m' hm' q => f1 m' hm' ((ek m' hm').symm.trans q)) (hZ 1 0 _ (g_up_s _ _ _ _ _ _) (fun q => absurd q (by decide)) (q_Iq 1 (q_Iq 0 hI))))
end QW
