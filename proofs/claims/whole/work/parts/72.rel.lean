/-! ===== the books of the class and the model's row: when they are alike ===== -/
theorem q_n0 {c A B : Prop} (h : c) (b : B) : (¬ c → A) ∧ (c → B) := ⟨fun z => absurd h z, fun _ => b⟩
theorem q_n1 {c A B : Prop} (h : ¬ c) (a : A) : (¬ c → A) ∧ (c → B) := ⟨fun _ => a, fun z => absurd z h⟩
theorem q_nle {a b : Int32} (h : a < b) : ¬ b ≤ a := by
  rw [Int32.lt_iff_toInt_lt] at h
  rw [Int32.le_iff_toInt_le]
  omega
theorem q_nlt {a b : Int32} (h : a ≤ b) : ¬ b < a := by
  rw [Int32.le_iff_toInt_le] at h
  rw [Int32.lt_iff_toInt_lt]
  omega
def q_setr (g : Nat → Nat → Int32) (j : Nat) (R : Nat → Int32) : Nat → Nat → Int32 := fun j' s => if j' = j then R s else g j' s
theorem q_setr_0 (g : Nat → Nat → Int32) (j : Nat) : q_setr g j (g j) = g := by
  funext j' s
  unfold q_setr
  by_cases h : j' = j
  · rw [if_pos h, h]
  · rw [if_neg h]
theorem q_setr_u (g : Nat → Nat → Int32) (j : Nat) (R : Nat → Int32) (s : Nat) (x : Int32) : q_u2 (q_setr g j R) j s x = q_setr g j (upd R s x) := by
  funext j' s'
  unfold q_u2 q_setr upd
  by_cases h : j' = j
  · by_cases h2 : s' = s
    · rw [if_pos ⟨h, h2⟩, if_pos h, if_pos h2]
    · rw [if_neg (fun q => h2 q.2), if_pos h, if_pos h, if_neg h2]
  · rw [if_neg (fun q => h q.1), if_neg h, if_neg h]
theorem q_setr_s (g : Nat → Nat → Int32) (j : Nat) (R : Nat → Int32) (s : Nat) : q_setr g j R j s = R s := if_pos rfl
theorem q_setr_o (g : Nat → Nat → Int32) (j : Nat) (R : Nat → Int32) {j' : Nat} (s : Nat) (h : j' ≠ j) : q_setr g j R j' s = g j' s := if_neg h
theorem q_cus (h : g_Hp) (b : Nat) (f : Nat → Int32) (g : Nat → Nat → Int32) (j : Nat) (R : Nat → Int32) (s : Nat) (x : Int32) : g_up (q_cH h b (f, q_setr g j R)) 2 b j s x = q_cH h b (f, q_setr g j (upd R s x)) := by
  rw [q_cu2, q_setr_u]
theorem q_u2_s {g : Nat → Nat → Int32} {j s : Nat} {x : Int32} : q_u2 g j s x j s = x := if_pos ⟨rfl, rfl⟩
theorem q_u2_o {g : Nat → Nat → Int32} {j s : Nat} {x : Int32} {j' s' : Nat} (h : ¬ (j' = j ∧ s' = s)) : q_u2 g j s x j' s' = g j' s' := if_neg h
/-- numbers: as many members, the wind .. ; sh, st: what the model counts ahead -/
def q_RS (st sh : Int32) (n : Nat) (f w : Nat → Int32) : Prop :=
  n ≤ 12 ∧ f 2 = nI n ∧ w 0 = nI n ∧ f 3 = w 1 ∧ f 4 = w 2 ∧ w 3 = f 5 + sh ∧ w 9 = f 6 + st ∧ f 7 = w 4 ∧ (w 4 = 0 ∨ w 4 = 1) ∧ (w 4 = 1 → f 8 = w 6) ∧ f 9 = w 5 ∧ f 10 = w 7 ∧ (∃ F, F ≤ 9999 ∧ w 7 = nI F) ∧ f 11 = w 8 ∧ f 12 = w 10 ∧ (∃ d, d < 8 ∧ w 1 = nI d) ∧ (∃ p, p ≤ 50 ∧ w 8 = nI p)
/-- a member's numbers are in bounds -/
def q_RG (T : Nat) (R : Nat → Int32) : Prop :=
  (∃ x, x < 10 ∧ R 1 = nI x) ∧ (∃ x, x ≤ 99 ∧ R 2 = nI x) ∧ (∃ x, x < 8 ∧ R 3 = nI x) ∧ (∃ x, x ≤ 99 * T ∧ R 4 = nI x) ∧ (∃ x, x ≤ 2 * T ∧ R 5 = nI x) ∧ (∃ x, x ≤ T ∧ R 6 = nI x) ∧ (R 8 = 0 ∨ R 8 = 1 ∨ R 8 = 2) ∧ (R 9 = 0 ∨ R 9 = 1)
def q_RM (T n : Nat) (g : Nat → Nat → Int32) (w : Nat → Int32) : Prop :=
  (∀ m s, m < n → 1 ≤ s → s ≤ 9 → g m s = w (12 * s - 1 + m)) ∧ (∀ m s, n ≤ m → m < 12 → 3 ≤ s → s ≤ 9 → w (12 * s - 1 + m) = 0) ∧ (∀ m, m < n → q_RG T (g m))
/-- the picket lists: how long (ll), who (it) -/
def q_RL (n : Nat) (ll : Nat → Nat) (it : Nat → Nat → Nat) (g : Nat → Nat → Int32) (w : Nat → Int32) : Prop :=
  (∀ r, r < 10 → ll r ≤ 4 ∧ w (119 + r) = nI (ll r) ∧ q_ct (fun m => decide (g m 10 = nI r)) n = ll r) ∧
  (∀ r k, r < 10 → k < ll r → it r k < n ∧ w (129 + 4 * r + k) = nI (it r k) ∧ g (it r k) 10 = nI r ∧ g (it r k) 11 = nI k) ∧
  (∀ m, m < n → g m 10 = -1 ∨ ∃ r k, r < 10 ∧ k < ll r ∧ it r k = m)
def q_RB (T : Nat) (st sh : Int32) (n : Nat) (ll : Nat → Nat) (it : Nat → Nat → Nat) (c : q_C) (w : Nat → Int32) : Prop := q_RS st sh n c.1 w ∧ q_RM T n c.2 w ∧ q_RL n ll it c.2 w
def q_R (T : Nat) (c : q_C) (w : Nat → Int32) : Prop := ∃ n ll it, q_RB T 0 0 n ll it c w
theorem q_RG_mono {T T' : Nat} (h : T ≤ T') {R : Nat → Int32} (hR : q_RG T R) : q_RG T' R := by
  obtain ⟨a, b, c, ⟨x, x1, x2⟩, ⟨y, y1, y2⟩, ⟨z, z1, z2⟩, d⟩ := hR
  exact ⟨a, b, c, ⟨x, by omega, x2⟩, ⟨y, by omega, y2⟩, ⟨z, by omega, z2⟩, d⟩
theorem q_R_mono {T T' : Nat} (h : T ≤ T') {c : q_C} {w : Nat → Int32} (hR : q_R T c w) : q_R T' c w := by
  obtain ⟨n, ll, it, a, ⟨b1, b2, b3⟩, d⟩ := hR
  exact ⟨n, ll, it, a, ⟨b1, b2, fun m hm => q_RG_mono h (b3 m hm)⟩, d⟩
/-- how an exception's number in the class is told by the model -/
def q_ka (a b c d e : Nat) : Nat → Nat := fun φ => match φ with
  | 1 => a
  | 2 => b
  | 3 => c
  | 4 => d
  | 5 => e
  | _ => 0
/-- a change: both refuse it, or both make it, alike -/
def q_OP (T : Nat) (c : q_C) (w : Nat → Int32) (FW AW MW : g_Hp → (g_R → g_Hp → Prop) → Prop) (κ : Nat → Nat) : Prop :=
  (∃ φ, 1 ≤ φ ∧ φ < 6 ∧ 1 ≤ κ φ ∧ κ φ ≤ 3 ∧ (∀ h (Q : g_R → g_Hp → Prop), Q (.inl (some (vR 20 φ 0))) (q_cH h 0 c) → FW (q_cH h 0 c) Q) ∧ (∀ h (Q : g_R → g_Hp → Prop), Q (.inl (some (vI 0))) (q_mH (g_up h 5 0 0 1 (nI (κ φ))) 0 w) → MW (q_mH h 0 w) Q)) ∨
  (∃ c' w' x, q_R T c' w' ∧ (∀ h (Q : g_R → g_Hp → Prop), Q (.inl (some (vR 20 0 0))) (q_cH h 0 c) → FW (q_cH h 0 c) Q) ∧ (∀ h (Q : g_R → g_Hp → Prop), Q (.inl (some (vI x))) (q_cH h 0 c') → AW (q_cH h 0 c) Q) ∧ (∀ h (Q : g_R → g_Hp → Prop), Q (.inl (some (vI x))) (q_mH h 0 w') → MW (q_mH h 0 w) Q))
theorem q_fail {p : Int32} {h : g_Hp} {w : Nat → Int32} {Q : g_R → g_Hp → Prop} {B : String → g_Hp → Prop} (K : Q (.inl (some (vI 0))) (q_mH (g_up h 5 0 0 1 p) 0 w)) : wX8_fail p (q_mH h 0 w) (g_kI (fun u h1 => Q (.inl (some (vI u))) h1) B) := nm_r (q_mU (by decide)) K
/-! addMember -/
theorem q_fA1 {r t : Int32} {H : g_Hp} {Q : g_R → g_Hp → Prop} (hr : r < 0 ∨ nI 10 ≤ r) (K : Q (.inl (some (vR 20 1 0))) H) : wX1_faultOfAdding 0 r t H Q := by
  unfold wX1_faultOfAdding
  exact q_isR0 hr (q_n0 rfl K)
theorem q_fA2 {r : Nat} {t : Int32} {H : g_Hp} {Q : g_R → g_Hp → Prop} (hr : r < 10) (ht : t < nI 1 ∨ nI 20 < t) (K : Q (.inl (some (vR 20 2 0))) H) : wX1_faultOfAdding 0 (nI r) t H Q := by
  unfold wX1_faultOfAdding
  refine q_isR1 hr (q_n1 (by decide) ?_)
  rcases ht with c | c
  · exact br_t c K
  · exact ⟨fun _ => K, fun _ => br_f (q_nle c) K⟩
theorem q_fA3 {r t n : Nat} {H : g_Hp} {Q : g_R → g_Hp → Prop} (hN : H 1 0 0 2 = nI n) (hn : n ≤ 12) (hr : r < 10) (h1 : 1 ≤ t) (h2 : t ≤ 20) (K0 : n < 12 → Q (.inl (some (vR 20 0 0))) H) (K3 : n = 12 → Q (.inl (some (vR 20 3 0))) H) : wX1_faultOfAdding 0 (nI r) (nI t) H Q := by
  unfold wX1_faultOfAdding
  refine q_isR1 hr (q_n1 (by decide) (br_f (nI_nlt (b := 1) h1 (by omega)) (br_t (nI_le (b := 20) h2 (by decide)) ?_)))
  rw [hN]
  exact pk_lt n 12 (fun c => K0 c) (fun c => K3 (by omega))
theorem q_mA1 {r t : Int32} {h : g_Hp} {w : Nat → Int32} {Q : g_R → g_Hp → Prop} (hr : r < 0 ∨ nI 10 ≤ r) (K : Q (.inl (some (vI 0))) (q_mH (g_up h 5 0 0 1 1) 0 w)) : wX8_adds r t (q_mH h 0 w) Q := by
  unfold wX8_adds
  exact q_mR0 hr (q_n0 rfl (q_fail K))
theorem q_mA2 {r : Nat} {t : Int32} {h : g_Hp} {w : Nat → Int32} {Q : g_R → g_Hp → Prop} (hr : r < 10) (ht : t < nI 1 ∨ nI 20 < t) (K : Q (.inl (some (vI 0))) (q_mH (g_up h 5 0 0 1 2) 0 w)) : wX8_adds (nI r) t (q_mH h 0 w) Q := by
  unfold wX8_adds
  exact q_mR1 hr (q_n1 (by decide) (q_isI0 ht (q_n0 rfl (q_fail K))))
theorem q_mA3 {r t : Nat} {h : g_Hp} {w : Nat → Int32} {Q : g_R → g_Hp → Prop} (hN : w 0 = nI 12) (hr : r < 10) (h1 : 1 ≤ t) (h2 : t ≤ 20) (K : Q (.inl (some (vI 0))) (q_mH (g_up h 5 0 0 1 3) 0 w)) : wX8_adds (nI r) (nI t) (q_mH h 0 w) Q := by
  unfold wX8_adds
  refine q_mR1 hr (q_n1 (by decide) (q_isIn (lo := 1) (hi := 20) rfl rfl h1 h2 (by decide) (q_n1 (by decide) ?_)))
  refine nm_r ((q_m1 h 0 w 0).trans hN) (q_n0 rfl (q_fail K))
theorem q_mA0 {r t n : Nat} {h : g_Hp} {w : Nat → Int32} {Q : g_R → g_Hp → Prop} (hN : w 0 = nI n) (hn : n < 12) (hr : r < 10) (h1 : 1 ≤ t) (h2 : t ≤ 20) (K : Q (.inl (some (vI (nI n)))) (q_mH h 0 (upd (upd (upd w (11 + n) (nI r)) (23 + n) (nI t)) 0 (nI (n + 1))))) : wX8_adds (nI r) (nI t) (q_mH h 0 w) Q := by
  unfold wX8_adds
  refine q_mR1 hr (q_n1 (by decide) (q_isIn (lo := 1) (hi := 20) rfl rfl h1 h2 (by decide) (q_n1 (by decide) ?_)))
  refine nm_r ((q_m1 h 0 w 0).trans hN) (q_n1 (fun q => by have := (nI_eq (a := n) (b := 12) (by omega) (by decide)).mp q; omega) ?_)
  refine And.intro (q_v11 (by omega)) (nm_r (e' := q_mH h 0 (upd w (11 + n) (nI r))) (by rw [q_i11 (by omega), q_mu]) ?_)
  refine And.intro (q_v23 (by omega)) (nm_r (e' := q_mH h 0 (upd (upd w (11 + n) (nI r)) (23 + n) (nI t))) (by rw [q_i23 (by omega), q_mu]) ?_)
  refine nm_r (e' := q_mH h 0 (upd (upd (upd w (11 + n) (nI r)) (23 + n) (nI t)) 0 (nI (n + 1)))) ?_ K
  rw [q_k0, q_m1, q_mu, pk_un (by omega), pk_un (by omega), hN, nI_1]
def q_new (r t : Int32) (R : Nat → Int32) : Nat → Int32 := upd (upd (upd (upd (upd (upd (upd (upd (upd (upd (upd R 1 r) 2 t) 3 0) 4 0) 5 0) 6 0) 7 0) 8 0) 9 0) 10 (-1)) 11 0
theorem q_aA {r t : Int32} {n : Nat} {h : g_Hp} {c : q_C} {Q : g_R → g_Hp → Prop} (hN : c.1 2 = nI n) (hn : n < 12) (K : Q (.inl (some (vI (nI n)))) (q_cH h 0 (upd c.1 2 (nI (n + 1)), q_setr c.2 n (q_new r t (c.2 n))))) : wX1_add 0 r t (q_cH h 0 c) Q := by
  unfold wX1_add
  refine nm_r ((q_c1 h 0 c 2).trans hN) (And.intro (q_vI (by omega) (by decide)) (nm_r (nI_clamp (by omega)) ?_))
  have e : q_cH h 0 c = q_cH h 0 (c.1, q_setr c.2 n (c.2 n)) := by rw [q_setr_0]
  rw [e]
  unfold wX6_start
  refine nm_r (q_cus _ _ _ _ _ _ _ _) (nm_r (q_cus _ _ _ _ _ _ _ _) (nm_r (q_cus _ _ _ _ _ _ _ _) (nm_r (q_cus _ _ _ _ _ _ _ _) (nm_r (q_cus _ _ _ _ _ _ _ _) (nm_r (q_cus _ _ _ _ _ _ _ _) ?_)))))
  refine nm_r (q_cus _ _ _ _ _ _ _ _) (nm_r (q_cus _ _ _ _ _ _ _ _) (nm_r (q_cus _ _ _ _ _ _ _ _) (nm_r (q_cus _ _ _ _ _ _ _ _) (nm_r (q_cus _ _ _ _ _ _ _ _) ?_))))
  refine nm_r ?_ K
  rw [q_c1, q_cu1]
  show q_cH h 0 (upd c.1 2 (c.1 2 + 1), _) = _
  rw [hN, nI_1]
  rfl
theorem q_rA {T n : Nat} {ll : Nat → Nat} {it : Nat → Nat → Nat} {c : q_C} {w : Nat → Int32} {r t : Nat} (hB : q_RB T 0 0 n ll it c w) (hn : n < 12) (hr : r < 10) (ht : t ≤ 20) : q_RB T 0 0 (n + 1) ll it (upd c.1 2 (nI (n + 1)), q_setr c.2 n (q_new (nI r) (nI t) (c.2 n))) (upd (upd (upd w (11 + n) (nI r)) (23 + n) (nI t)) 0 (nI (n + 1))) := by
  obtain ⟨⟨s1, s2, s3, s4, s5, s6, s7, s8, s9, s10, s11, s12, s13, s14, s15, s16, s17⟩, ⟨m1, m2, m3⟩, ⟨l1, l2, l3⟩⟩ := hB
  have hw : ∀ k, k ≠ 0 → k ≠ 11 + n → k ≠ 23 + n → upd (upd (upd w (11 + n) (nI r)) (23 + n) (nI t)) 0 (nI (n + 1)) k = w k := fun k a b c => by rw [pk_un a, pk_un c, pk_un b]
  have hf : ∀ k, k ≠ 2 → upd c.1 2 (nI (n + 1)) k = c.1 k := fun k a => pk_un a
  have hs : ∀ k, 1 ≤ k → k ≤ 10 → upd (upd (upd w (11 + n) (nI r)) (23 + n) (nI t)) 0 (nI (n + 1)) k = w k := fun k a b => hw k (by omega) (by omega) (by omega)
  have hg : ∀ m s, m < n → q_setr c.2 n (q_new (nI r) (nI t) (c.2 n)) m s = c.2 m s := fun m s hm => q_setr_o _ _ _ _ (by omega)
  have hgn : q_setr c.2 n (q_new (nI r) (nI t) (c.2 n)) n = q_new (nI r) (nI t) (c.2 n) := funext fun s => q_setr_s _ _ _ _
  refine ⟨⟨by omega, pk_us (f := c.1) (k := 2), pk_us, ?_⟩, ⟨fun m s hm h1 h2 => ?_, fun m s hm hm2 h1 h2 => ?_, fun m hm => ?_⟩, ⟨fun r' hr' => ?_, fun r' k hr' hk => ?_, fun m hm => ?_⟩⟩
  · show (upd c.1 2 (nI (n + 1)) 3 = _) ∧ (upd c.1 2 (nI (n + 1)) 4 = _) ∧ (_ = upd c.1 2 (nI (n + 1)) 5 + 0) ∧ (_ = upd c.1 2 (nI (n + 1)) 6 + 0) ∧ (upd c.1 2 (nI (n + 1)) 7 = _) ∧ _ ∧ (_ → upd c.1 2 (nI (n + 1)) 8 = _) ∧ (upd c.1 2 (nI (n + 1)) 9 = _) ∧ (upd c.1 2 (nI (n + 1)) 10 = _) ∧ _ ∧ (upd c.1 2 (nI (n + 1)) 11 = _) ∧ (upd c.1 2 (nI (n + 1)) 12 = _) ∧ _
    rw [hf 3 (by decide), hf 4 (by decide), hf 5 (by decide), hf 6 (by decide), hf 7 (by decide), hf 8 (by decide), hf 9 (by decide), hf 10 (by decide), hf 11 (by decide), hf 12 (by decide), hs 1 (by decide) (by decide), hs 2 (by decide) (by decide), hs 3 (by decide) (by decide), hs 4 (by decide) (by decide), hs 5 (by decide) (by decide), hs 6 (by decide) (by decide), hs 7 (by decide) (by decide), hs 8 (by decide) (by decide), hs 9 (by decide) (by decide), hs 10 (by decide) (by decide)]
    exact ⟨s4, s5, s6, s7, s8, s9, s10, s11, s12, s13, s14, s15, s16, s17⟩
  · show q_setr c.2 n (q_new (nI r) (nI t) (c.2 n)) m s = _
    by_cases e : m = n
    · subst e
      rw [hgn]
      by_cases e1 : s = 1
      · subst e1
        rw [show 12 * 1 - 1 + m = 11 + m by omega, pk_un (by omega), pk_un (by omega), pk_us]
        rfl
      · by_cases e2 : s = 2
        · subst e2
          rw [show 12 * 2 - 1 + m = 23 + m by omega, pk_un (by omega), pk_us]
          rfl
        · rw [hw _ (by omega) (by omega) (by omega), m2 m s (Nat.le_refl _) hn (by omega) h2]
          obtain rfl | rfl | rfl | rfl | rfl | rfl | rfl : s = 3 ∨ s = 4 ∨ s = 5 ∨ s = 6 ∨ s = 7 ∨ s = 8 ∨ s = 9 := by omega
          all_goals rfl
    · rw [hg m s (by omega), hw _ (by omega) (by omega) (by omega)]
      exact m1 m s (by omega) h1 h2
  · rw [hw _ (by omega) (by omega) (by omega)]
    exact m2 m s (by omega) hm2 h1 h2
  · by_cases e : m = n
    · subst e
      show q_RG T (q_setr c.2 m (q_new (nI r) (nI t) (c.2 m)) m)
      rw [hgn]
      exact ⟨⟨r, hr, rfl⟩, ⟨t, by omega, rfl⟩, ⟨0, by decide, rfl⟩, ⟨0, by omega, rfl⟩, ⟨0, by omega, rfl⟩, ⟨0, by omega, rfl⟩, Or.inl rfl, Or.inl rfl⟩
    · show q_RG T (q_setr c.2 n (q_new (nI r) (nI t) (c.2 n)) m)
      rw [show q_setr c.2 n (q_new (nI r) (nI t) (c.2 n)) m = c.2 m from funext fun s => hg m s (by omega)]
      exact m3 m (by omega)
  · obtain ⟨a, b, d⟩ := l1 r' hr'
    refine ⟨a, by rw [hw _ (by omega) (by omega) (by omega)]; exact b, ?_⟩
    rw [q_ct_add, ← d, q_ct_congr (p' := fun m => decide (c.2 m 10 = nI r')) (fun m hm => by show decide (q_setr _ _ _ m 10 = _) = _; rw [hg m 10 hm])]
    have hz : ¬ decide (q_setr c.2 n (q_new (nI r) (nI t) (c.2 n)) n 10 = nI r') = true := by
      rw [hgn]
      have := q_ne1 (r := r') (by omega)
      simp only [decide_eq_true_eq]
      exact fun q => this q.symm
    rw [if_neg hz]
    rfl
  · obtain ⟨a, b, d, e⟩ := l2 r' k hr' hk
    have hl := (l1 r' hr').1
    exact ⟨by omega, by rw [hw _ (by omega) (by omega) (by omega)]; exact b, (hg _ 10 a).trans d, (hg _ 11 a).trans e⟩
  · by_cases e : m = n
    · subst e
      exact Or.inl (congrFun hgn 10)
    · rcases l3 m (by omega) with a | a
      · exact Or.inl ((hg m 10 (by omega)).trans a)
      · exact Or.inr a
theorem q_opA {T : Nat} {c : q_C} {w : Nat → Int32} (hR : q_R T c w) (r t : Int32) : q_OP T c w (wX1_faultOfAdding 0 r t) (wX1_add 0 r t) (wX8_adds r t) (q_ka 1 2 3 0 0) := by
  obtain ⟨n, ll, it, hB⟩ := hR
  have hS := hB.1
  have f2 := hS.2.1
  have w0 := hS.2.2.1
  rcases pk_ix r (n := 10) (by decide) with d | d | ⟨r, hr, rfl⟩
  · exact Or.inl ⟨1, by decide, by decide, by decide, by decide, fun h Q K => q_fA1 (Or.inl d) K, fun h Q K => q_mA1 (Or.inl d) K⟩
  · exact Or.inl ⟨1, by decide, by decide, by decide, by decide, fun h Q K => q_fA1 (Or.inr d) K, fun h Q K => q_mA1 (Or.inr d) K⟩
  · rcases q_rg t 1 20 (by decide) (by decide) with d | d | ⟨t, h1, h2, rfl⟩
    · exact Or.inl ⟨2, by decide, by decide, by decide, by decide, fun h Q K => q_fA2 hr (Or.inl d) K, fun h Q K => q_mA2 hr (Or.inl d) K⟩
    · exact Or.inl ⟨2, by decide, by decide, by decide, by decide, fun h Q K => q_fA2 hr (Or.inr d) K, fun h Q K => q_mA2 hr (Or.inr d) K⟩
    · by_cases e : n = 12
      · subst e
        exact Or.inl ⟨3, by decide, by decide, by decide, by decide, fun h Q K => q_fA3 ((q_c1 h 0 c 2).trans f2) (by decide) hr h1 h2 (fun z => by omega) (fun _ => K), fun h Q K => q_mA3 w0 hr h1 h2 K⟩
      · have hn : n < 12 := by have := hS.1; omega
        exact Or.inr ⟨_, _, _, ⟨_, _, _, q_rA hB hn hr h2⟩, fun h Q K => q_fA3 ((q_c1 h 0 c 2).trans f2) (by omega) hr h1 h2 (fun _ => K) (fun z => absurd z e), fun h Q K => q_aA f2 hn K, fun h Q K => q_mA0 w0 hn hr h1 h2 K⟩
