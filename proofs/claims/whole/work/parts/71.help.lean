/-! ===== helpers: members, ranges, counts ===== -/
theorem q_rg (x : Int32) (lo hi : Nat) (h1 : lo ≤ hi + 1) (h2 : hi < 2 ^ 31 - 1) : x < nI lo ∨ nI hi < x ∨ ∃ j : Nat, lo ≤ j ∧ j ≤ hi ∧ x = nI j := by
  by_cases c : x < nI lo
  · exact Or.inl c
  · by_cases c2 : nI hi < x
    · exact Or.inr (Or.inl c2)
    · rw [Int32.lt_iff_toInt_lt, nI_toInt (by omega)] at c c2
      refine Or.inr (Or.inr ⟨x.toInt.toNat, by omega, by omega, Int32.toInt_inj.mp ?_⟩)
      rw [nI_toInt (by omega)]
      omega
theorem q_isM0 {b n : Nat} {p : Int32} {h : g_Hp} {Q : g_R → g_Hp → Prop} (hN : h 1 b 0 2 = nI n) (hp : p < 0 ∨ nI n ≤ p) (K : Q (.inl (some (vI 0))) h) : wX1_isMember b p h Q := by
  have K' : wX1_isMember_b16 b Q h := And.intro (Or.inl rfl) K
  unfold wX1_isMember
  rw [hN]
  rcases hp with c | c
  · exact br_t c K'
  · exact ⟨fun _ => K', fun _ => br_t c K'⟩
theorem q_isM1 {b n m : Nat} {h : g_Hp} {Q : g_R → g_Hp → Prop} (hN : h 1 b 0 2 = nI n) (hn : n ≤ 12) (hm : m < n) (K : Q (.inl (some (vI 1))) h) : wX1_isMember b (nI m) h Q := by
  unfold wX1_isMember
  rw [hN]
  exact br_f (q_nlt0 (by omega)) (br_f (nI_ge hm (by omega)) (And.intro (Or.inr rfl) K))
theorem q_isI0 {a lo hi : Int32} {h : g_Hp} {Q : g_R → g_Hp → Prop} (hp : a < lo ∨ hi < a) (K : Q (.inl (some (vI 0))) h) : wX8_isIn a lo hi h Q := by
  have K' : wX8_isIn_b14 Q h := And.intro (Or.inl rfl) K
  unfold wX8_isIn
  rcases hp with c | c
  · exact br_t c K'
  · exact ⟨fun _ => K', fun _ => br_t c K'⟩
theorem q_isI1 {a lo hi : Int32} {h : g_Hp} {Q : g_R → g_Hp → Prop} (h1 : ¬ a < lo) (h2 : ¬ hi < a) (K : Q (.inl (some (vI 1))) h) : wX8_isIn a lo hi h Q :=
  br_f h1 (br_f h2 (And.intro (Or.inr rfl) K))
theorem q_isIn {j lo hi : Nat} {l r : Int32} {h : g_Hp} {Q : g_R → g_Hp → Prop} (hl : l = nI lo) (hr : r = nI hi) (h1 : lo ≤ j) (h2 : j ≤ hi) (h3 : hi < 2 ^ 31) (K : Q (.inl (some (vI 1))) h) : wX8_isIn (nI j) l r h Q := by
  subst hl hr
  exact q_isI1 (nI_nlt h1 (by omega)) (nI_nlt h2 (by omega)) K
theorem q_mM0 {n : Nat} {p : Int32} {h : g_Hp} {Q : g_R → g_Hp → Prop} (hN : h 13 0 0 1 = nI n) (hn : n ≤ 12) (hp : p < 0 ∨ nI n ≤ p) (K : Q (.inl (some (vI 0))) h) : wX8_isMember p h Q := by
  refine q_isI0 ?_ (And.intro (Or.inl rfl) K)
  show p < 0 ∨ h 13 0 0 1 - 1 < p
  rw [hN]
  rcases hp with c | c
  · exact Or.inl c
  · rw [Int32.le_iff_toInt_le, nI_toInt (by omega)] at c
    refine Or.inr ?_
    rw [Int32.lt_iff_toInt_lt, q_lit 1, pk_sub_toInt (by omega) (by decide)]
    omega
theorem q_mM1 {n m : Nat} {h : g_Hp} {Q : g_R → g_Hp → Prop} (hN : h 13 0 0 1 = nI n) (hn : n ≤ 12) (hm : m < n) (K : Q (.inl (some (vI 1))) h) : wX8_isMember (nI m) h Q := by
  refine q_isI1 (q_nlt0 (by omega)) ?_ (And.intro (Or.inr rfl) K)
  show ¬ h 13 0 0 1 - 1 < nI m
  rw [hN, q_lit 1, pk_sub (by omega)]
  exact nI_nlt (by omega) (by omega)
theorem q_isR0 {p : Int32} {h : g_Hp} {Q : g_R → g_Hp → Prop} (hp : p < 0 ∨ nI 10 ≤ p) (K : Q (.inl (some (vI 0))) h) : wX7_isRoof p h Q := by
  have K' : wX7_isRoof_b14 Q h := And.intro (Or.inl rfl) K
  unfold wX7_isRoof
  rcases hp with c | c
  · exact br_t c K'
  · exact ⟨fun _ => K', fun _ => br_t c K'⟩
theorem q_isR1 {r : Nat} {h : g_Hp} {Q : g_R → g_Hp → Prop} (hr : r < 10) (K : Q (.inl (some (vI 1))) h) : wX7_isRoof (nI r) h Q := by
  unfold wX7_isRoof
  exact br_f (q_nlt0 (by omega)) (br_f (nI_ge hr (by decide)) (And.intro (Or.inr rfl) K))
theorem q_mR0 {p : Int32} {h : g_Hp} {Q : g_R → g_Hp → Prop} (hp : p < 0 ∨ nI 10 ≤ p) (K : Q (.inl (some (vI 0))) h) : wX8_isRoof p h Q := by
  refine q_isI0 ?_ (And.intro (Or.inl rfl) K)
  rcases hp with c | c
  · exact Or.inl c
  · rw [Int32.le_iff_toInt_le, nI_toInt (by omega)] at c
    refine Or.inr ?_
    rw [Int32.lt_iff_toInt_lt, q_lit 9, nI_toInt (by omega)]
    omega
theorem q_mR1 {r : Nat} {h : g_Hp} {Q : g_R → g_Hp → Prop} (hr : r < 10) (K : Q (.inl (some (vI 1))) h) : wX8_isRoof (nI r) h Q :=
  q_isI1 (q_nlt0 (by omega)) (nI_nlt (b := r) (a := 9) (by omega) (by decide)) (And.intro (Or.inr rfl) K)
theorem q_cVF {b n : Nat} {H : g_Hp} {Q : g_R → g_Hp → Prop} (hN : H 1 b 0 2 = nI n) (hn : n ≤ 12) (K : Q (.inl (some (vI (nI (q_ct (fun m => decide (H 2 b m 8 = 1)) n))))) H) : wX1_countVotesFor b H Q := by
  refine q_loop (fun k i => wX1_countVotesFor_b4_I b Q k (nI (q_ct (fun m => decide (H 2 b m 8 = 1)) i)) (nI i) H) n 0 (Nat.zero_le _) ?_ ?_
  · intro k
    show wX1_countVotesFor_b4_B b Q _ _ _ H
    unfold wX1_countVotesFor_b4_B
    rw [hN]
    exact br_t (nI_le (Nat.le_refl _) (by omega)) K
  · intro k i _ hi hk
    show wX1_countVotesFor_b4_B b Q _ _ _ H
    unfold wX1_countVotesFor_b4_B
    rw [hN]
    refine br_f (nI_ge hi (by omega)) (And.intro (q_vI (by omega) (by decide)) (nm_r (nI_clamp (by omega)) ?_))
    rw [q_ct_add] at hk
    refine And.intro (fun c => ?_) (fun c => ?_)
    · rw [if_neg (by simpa using c)] at hk
      exact nm_r (nI_1 i) hk
    · rw [if_pos (by simpa using c)] at hk
      exact nm_r (nI_1 _) (nm_r (nI_1 i) hk)
theorem q_cAC {b n : Nat} {H : g_Hp} {Q : g_R → g_Hp → Prop} (hN : H 1 b 0 2 = nI n) (hn : n ≤ 12) (K : Q (.inl (some (vI (nI (q_ct (fun m => decide (¬ H 2 b m 9 = 0)) n))))) H) : wX1_countAcceptances b H Q := by
  refine q_loop (fun k i => wX1_countAcceptances_b4_I b Q k (nI (q_ct (fun m => decide (¬ H 2 b m 9 = 0)) i)) (nI i) H) n 0 (Nat.zero_le _) ?_ ?_
  · intro k
    show wX1_countAcceptances_b4_B b Q _ _ _ H
    unfold wX1_countAcceptances_b4_B
    rw [hN]
    exact br_t (nI_le (Nat.le_refl _) (by omega)) K
  · intro k i _ hi hk
    show wX1_countAcceptances_b4_B b Q _ _ _ H
    unfold wX1_countAcceptances_b4_B
    rw [hN]
    refine br_f (nI_ge hi (by omega)) (And.intro (q_vI (by omega) (by decide)) (nm_r (nI_clamp (by omega)) ?_))
    rw [q_ct_add] at hk
    refine And.intro (fun c => ?_) (fun c => ?_)
    · rw [if_neg (by simpa using c)] at hk
      exact nm_r (nI_1 i) hk
    · rw [if_pos (by simpa using c)] at hk
      exact nm_r (nI_1 _) (nm_r (nI_1 i) hk)
theorem q_cOR {b n : Nat} (x : Int32) {H : g_Hp} {Q : g_R → g_Hp → Prop} (hN : H 1 b 0 2 = nI n) (hn : n ≤ 12) (K : Q (.inl (some (vI (nI (q_ct (fun m => decide (H 2 b m 1 = x)) n))))) H) : wX1_countOnRoof b x H Q := by
  refine q_loop (fun k i => wX1_countOnRoof_b4_I b Q k x (nI (q_ct (fun m => decide (H 2 b m 1 = x)) i)) (nI i) H) n 0 (Nat.zero_le _) ?_ ?_
  · intro k
    show wX1_countOnRoof_b4_B b Q _ _ _ _ H
    unfold wX1_countOnRoof_b4_B
    rw [hN]
    exact br_t (nI_le (Nat.le_refl _) (by omega)) K
  · intro k i _ hi hk
    show wX1_countOnRoof_b4_B b Q _ _ _ _ H
    unfold wX1_countOnRoof_b4_B
    rw [hN]
    refine br_f (nI_ge hi (by omega)) (And.intro (q_vI (by omega) (by decide)) (nm_r (nI_clamp (by omega)) ?_))
    rw [q_ct_add] at hk
    refine And.intro (fun c => ?_) (fun c => ?_)
    · rw [if_neg (by simpa using c)] at hk
      exact nm_r (nI_1 i) hk
    · rw [if_pos (by simpa using c)] at hk
      exact nm_r (nI_1 _) (nm_r (nI_1 i) hk)
theorem q_cOL {b n : Nat} (x : Int32) {H : g_Hp} {Q : g_R → g_Hp → Prop} (hN : H 1 b 0 2 = nI n) (hn : n ≤ 12) (K : Q (.inl (some (vI (nI (q_ct (fun m => decide (H 2 b m 10 = x)) n))))) H) : wX1_countOnList b x H Q := by
  refine q_loop (fun k i => wX1_countOnList_b4_I b Q k x (nI (q_ct (fun m => decide (H 2 b m 10 = x)) i)) (nI i) H) n 0 (Nat.zero_le _) ?_ ?_
  · intro k
    show wX1_countOnList_b4_B b Q _ _ _ _ H
    unfold wX1_countOnList_b4_B
    rw [hN]
    exact br_t (nI_le (Nat.le_refl _) (by omega)) K
  · intro k i _ hi hk
    show wX1_countOnList_b4_B b Q _ _ _ _ H
    unfold wX1_countOnList_b4_B
    rw [hN]
    refine br_f (nI_ge hi (by omega)) (And.intro (q_vI (by omega) (by decide)) (nm_r (nI_clamp (by omega)) ?_))
    rw [q_ct_add] at hk
    refine And.intro (fun c => ?_) (fun c => ?_)
    · rw [if_neg (by simpa using c)] at hk
      exact nm_r (nI_1 i) hk
    · rw [if_pos (by simpa using c)] at hk
      exact nm_r (nI_1 _) (nm_r (nI_1 i) hk)
theorem q_mCT {n : Nat} (fr : Nat) (is : Int32) {H : g_Hp} {Q : g_R → g_Hp → Prop} (hN : H 13 0 0 1 = nI n) (hn : n ≤ 12) (hf : fr + 12 ≤ 169) (K : Q (.inl (some (vI (nI (q_ct (fun m => decide (H 13 0 0 (fr + m + 1) = is)) n))))) H) : wX8_count (nI fr) is H Q := by
  refine q_loop (fun k i => wX8_count_b5_I Q k (nI fr) is (nI (q_ct (fun m => decide (H 13 0 0 (fr + m + 1) = is)) i)) (nI i) H) n 0 (Nat.zero_le _) ?_ ?_
  · intro k
    show wX8_count_b5_B Q _ _ _ _ _ H
    unfold wX8_count_b5_B
    rw [q_k0, hN]
    exact br_t (nI_le (Nat.le_refl _) (by omega)) K
  · intro k i _ hi hk
    show wX8_count_b5_B Q _ _ _ _ _ H
    unfold wX8_count_b5_B
    rw [q_k0, hN]
    refine br_f (nI_ge hi (by omega)) ?_
    rw [nI_add, nI_clamp (by omega)]
    refine And.intro (q_vI (by omega) (by decide)) ?_
    rw [q_ct_add] at hk
    refine And.intro (fun c => ?_) (fun c => ?_)
    · rw [if_neg (by simpa using c)] at hk
      exact nm_r (nI_add _ 0) (nm_r (nI_1 i) hk)
    · rw [if_pos (by simpa using c)] at hk
      exact nm_r (nI_add _ 1) (nm_r (nI_1 i) hk)
theorem q_min {a b : Nat} {x y : Int32} {h : g_Hp} {Q : g_R → g_Hp → Prop} (hx : x = nI a) (hy : y = nI b) (ha : a < 2 ^ 31) (hb : b < 2 ^ 31) (K : Q (.inl (some (vI (nI (min a b))))) h) : wJ9_min_7cf53 x y h Q := by
  subst hx hy
  refine And.intro (fun c => ?_) (fun c => ?_)
  · rw [nI_ltI hb ha] at c
    rw [Nat.min_eq_right (by omega)] at K
    exact K
  · rw [nI_ltI hb ha] at c
    rw [Nat.min_eq_left (by omega)] at K
    exact K
theorem q_max {a b : Nat} {x y : Int32} {h : g_Hp} {Q : g_R → g_Hp → Prop} (hx : x = nI a) (hy : y = nI b) (ha : a < 2 ^ 31) (hb : b < 2 ^ 31) (K : Q (.inl (some (vI (nI (max a b))))) h) : wJ9_max_7cf53 x y h Q := by
  subst hx hy
  refine And.intro (fun c => ?_) (fun c => ?_)
  · rw [nI_ltI ha hb] at c
    rw [Nat.max_eq_right (by omega)] at K
    exact K
  · rw [nI_ltI ha hb] at c
    rw [Nat.max_eq_left (by omega)] at K
    exact K
/-! the circle -/
def q_far (a b : Nat) : Nat := min (if b ≤ a then a - b else b - a) (8 - (if b ≤ a then a - b else b - a))
theorem q_far_le {a b : Nat} (ha : a < 8) (hb : b < 8) : q_far a b ≤ 4 := by
  unfold q_far
  split <;> omega
theorem q_stB {a b : Nat} {h : g_Hp} {Q : g_R → g_Hp → Prop} (ha : a < 8) (hb : b < 8) (K : Q (.inl (some (vI (nI (q_far a b))))) h) : wX7_stepsBetween (nI a) (nI b) h Q := by
  unfold q_far at K
  refine pk_le b a (fun c => ?_) (fun c => ?_)
  · rw [if_pos c] at K
    exact q_min (a := a - b) (b := 8 - (a - b)) (pk_sub c) (by rw [pk_sub c, q_lit 8, pk_sub (by omega)]) (by omega) (by omega) K
  · rw [if_neg (by omega)] at K
    exact q_min (a := b - a) (b := 8 - (b - a)) (pk_sub (by omega)) (by rw [pk_sub (by omega), q_lit 8, pk_sub (by omega)]) (by omega) (by omega) K
theorem q_farD : ∀ a, a < 8 → ∀ b, b < 8 → (if ((nI b - nI a) + 8) - ((nI b - nI a) + 8) / 8 * 8 ≤ 4 then ((nI b - nI a) + 8) - ((nI b - nI a) + 8) / 8 * 8 else 8 - (((nI b - nI a) + 8) - ((nI b - nI a) + 8) / 8 * 8)) = nI (q_far a b) := by decide +kernel
theorem q_mfar {a b : Nat} {h : g_Hp} {Q : g_R → g_Hp → Prop} (ha : a < 8) (hb : b < 8) (K : Q (.inl (some (vI (nI (q_far a b))))) h) : wX8_far (nI a) (nI b) h Q := by
  have e := q_farD a ha b hb
  rw [← e] at K
  refine And.intro (by decide) (fun y hy => And.intro (fun c => ?_) (fun c => ?_))
  · subst hy
    rw [if_pos c] at K
    exact K
  · subst hy
    rw [if_neg c] at K
    exact K
/-! rates -/
theorem q_rate {x y : Int32} {h : g_Hp} {Q : g_R → g_Hp → Prop} (K : Q (.inl (some (vI (if ((x * ((100 : Int32) + y)) + (99 : Int32)) / (100 : Int32) ≤ 99 then ((x * ((100 : Int32) + y)) + (99 : Int32)) / (100 : Int32) else 99)))) h) : wX7_raisedRate x y h Q := by
  refine And.intro (by decide) (fun z hz => ?_)
  subst hz
  refine And.intro (fun c => ?_) (fun c => ?_)
  · rw [if_neg (by rw [Int32.lt_iff_toInt_lt] at c; rw [Int32.le_iff_toInt_le]; omega)] at K
    exact K
  · rw [if_pos (by rw [Int32.lt_iff_toInt_lt] at c; rw [Int32.le_iff_toInt_le]; omega)] at K
    exact K
def q_ra (x y : Int32) : Int32 := if ((x * ((100 : Int32) + y)) + (99 : Int32)) / (100 : Int32) ≤ 99 then ((x * ((100 : Int32) + y)) + (99 : Int32)) / (100 : Int32) else 99
theorem q_raN : ∀ x, x ≤ 99 → ∀ y, y ≤ 50 → q_ra (nI x) (nI y) = nI (min ((x * (100 + y) + 99) / 100) 99) := by
  intro x hx y hy
  have hb : x * (100 + y) ≤ 99 * 150 := Nat.mul_le_mul hx (by omega)
  have e : (nI x * ((100 : Int32) + nI y) + 99) / 100 = nI ((x * (100 + y) + 99) / 100) := by
    rw [q_lit 100, nI_add, pk_mul, q_lit 99, nI_add, pk_div (by omega) (by decide) (by decide)]
  unfold q_ra
  rw [e]
  show (if nI ((x * (100 + y) + 99) / 100) ≤ nI 99 then nI ((x * (100 + y) + 99) / 100) else nI 99) = _
  by_cases c : (x * (100 + y) + 99) / 100 ≤ 99
  · rw [if_pos (nI_le (b := 99) c (by decide)), Nat.min_eq_left c]
  · rw [if_neg (nI_ge (a := 99) (b := (x * (100 + y) + 99) / 100) (by omega) (by omega)), Nat.min_eq_right (by omega)]
theorem q_mgr {m : Nat} {H : g_Hp} {Q : g_R → g_Hp → Prop} (hm : m < 12) (K : Q (.inl (some (vI (q_ra (H 13 0 0 (23 + m + 1)) (H 13 0 0 (8 + 1)))))) H) : wX8_grown (nI m) H Q := by
  unfold q_ra at K
  refine And.intro (q_v23 (by omega)) (And.intro (by decide) (fun z hz => ?_))
  rw [q_i23 (by omega), q_k8] at hz
  subst hz
  refine And.intro (fun c => ?_) (fun c => ?_)
  · by_cases c2 : (H 13 0 0 (23 + m + 1) * ((100 : Int32) + H 13 0 0 (8 + 1)) + 99) / 100 ≤ 99
    · rw [if_pos c2] at K
      have : (99 : Int32) = (H 13 0 0 (23 + m + 1) * ((100 : Int32) + H 13 0 0 (8 + 1)) + 99) / 100 := by
        rw [← Int32.toInt_inj]
        rw [Int32.le_iff_toInt_le] at c c2
        omega
      show Q (.inl (some (vI 99))) H
      rw [← this] at K
      exact K
    · rw [if_neg c2] at K
      exact K
  · rw [if_pos (by rw [Int32.le_iff_toInt_le] at c ⊢; omega)] at K
    exact K
