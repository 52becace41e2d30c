/-! ===== numbers written by a builder ===== -/
def q_dgf : Nat → Nat → Nat
  | 0, _ => 1
  | f + 1, v => if v < 10 then 1 else q_dgf f (v / 10) + 1
theorem q_dg : ∀ (f v : Nat), v < 10 ^ (f + 1) → 1 ≤ q_dgf f v ∧ q_dgf f v ≤ f + 1 ∧ v < 10 ^ (q_dgf f v) ∧ ∀ i, 0 < i → i < q_dgf f v → 10 ^ i ≤ v
  | 0, v, h => ⟨Nat.le_refl 1, Nat.le_refl 1, h, fun i h1 h2 => absurd h2 (by show ¬ i < 1; omega)⟩
  | f + 1, v, h => by
    unfold q_dgf
    by_cases z : v < 10
    · rw [if_pos z]
      exact ⟨Nat.le_refl 1, by omega, z, fun i h1 h2 => by omega⟩
    · rw [if_neg z]
      have h' : v / 10 < 10 ^ (f + 1) := by
        rw [Nat.pow_succ] at h
        omega
      obtain ⟨a, b, c, d⟩ := q_dg f (v / 10) h'
      refine ⟨by omega, by omega, ?_, fun i h1 h2 => ?_⟩
      · rw [Nat.pow_succ]
        omega
      · obtain ⟨j, rfl⟩ : ∃ j, i = j + 1 := ⟨i - 1, by omega⟩
        rw [Nat.pow_succ]
        by_cases j0 : j = 0
        · subst j0
          show 1 * 10 ≤ v
          omega
        · have := d j (by omega) (by omega)
          omega
def q_D (v : Nat) : Nat := q_dgf 9 v
theorem q_D_s {v : Nat} (h : v < 2 ^ 31) : 1 ≤ q_D v ∧ q_D v ≤ 10 ∧ v < 10 ^ (q_D v) ∧ ∀ i, 0 < i → i < q_D v → 10 ^ i ≤ v := q_dg 9 v (Nat.lt_of_lt_of_le h (by decide))
def q_P (i : Nat) : Int32 := q_lp (fun _ x => (10 : Int32) * x) (i - 1) (-10)
theorem q_P9 : ∀ i, i < 10 → 1 ≤ i → q_P i = -nI (10 ^ i) := by decide +kernel
theorem q_ss {v : Nat} {h : g_Hp} {Q : g_R → g_Hp → Prop} (hv : v < 2 ^ 31) (K : Q (.inl (some (vI (nI (q_D v))))) h) : wJ6_stringSize_0f7a4 (nI v) h Q := by
  obtain ⟨d1, d2, d3, d4⟩ := q_D_s hv
  unfold wJ6_stringSize_0f7a4
  refine br_f (q_nlt0 hv) (nm_e ?_)
  refine q_loop (fun k i => wJ6_stringSize_0f7a4_b16_I Q k (-nI v) 0 (q_P i) (nI i) h) (q_D v) 1 d1 (fun k => ?_) (fun k i h1 hi hk => ?_)
  · show wJ6_stringSize_0f7a4_b16_B Q _ _ _ _ _ h
    unfold wJ6_stringSize_0f7a4_b16_B
    by_cases z : q_D v = 10
    · rw [z] at K ⊢
      exact br_t (by decide) K
    · refine br_f (nI_ge (b := 10) (by omega) (by decide)) (br_f ?_ ?_)
      · have : 10 ^ (q_D v) ≤ 10 ^ 9 := Nat.pow_le_pow_right (by decide) (by omega)
        rw [q_P9 _ (by omega) d1, sb_nle hv (by omega)]
        omega
      · rw [Int32.add_zero]
        exact K
  · show wJ6_stringSize_0f7a4_b16_B Q _ _ _ _ _ h
    unfold wJ6_stringSize_0f7a4_b16_B
    have : 10 ^ i ≤ 10 ^ 9 := Nat.pow_le_pow_right (by decide) (by omega)
    refine br_f (nI_ge (b := 10) (by omega) (by decide)) (br_t ?_ (nm_r (e' := q_P (i + 1)) ?_ (nm_r (nI_1 i) hk)))
    · rw [q_P9 _ (by omega) h1, sb_nle hv (by omega)]
      exact d4 i h1 hi
    · obtain ⟨j, rfl⟩ : ∃ j, i = j + 1 := ⟨i - 1, by omega⟩
      rfl
theorem q_dg0 : ∀ r, r < 100 → vp_nar .byte ((g_dg 0).getD (nI r).toNatClampNeg 0) = nI (48 + r % 10) := by decide +kernel
theorem q_dg1 : ∀ r, r < 100 → vp_nar .byte ((g_dg 1).getD (nI r).toNatClampNeg 0) = nI (48 + r / 10) := by decide +kernel
theorem q_pow2 (t : Nat) : 10 ^ (t + 2) = 100 * 10 ^ t := by
  rw [Nat.pow_add, Nat.mul_comm]
theorem q_dd {u t : Nat} : u / 10 ^ (t + 2) % 10 = u / 100 / 10 ^ t % 10 := by rw [q_pow2, Nat.div_div_eq_div_mul]
theorem q_gc {i g len : Nat} (hlen : len ≤ 150) : ∀ (f u q : Nat) (h : g_Hp) (Q : g_R → g_Hp → Prop), u < 10 ^ (2 * f + 2) → u < 2 ^ 31 → q_dgf (2 * f + 1) u ≤ q → q ≤ len → g_len h 14 i g = len →
    (∀ h', (∀ e, q - q_dgf (2 * f + 1) u ≤ e → e < q → h' 14 i g (e + 1) = nI (48 + u / 10 ^ (q - 1 - e) % 10)) → (∀ k a b s, ¬ (k = 14 ∧ a = i ∧ b = g ∧ q - q_dgf (2 * f + 1) u < s ∧ s ≤ q) → h' k a b s = h k a b s) → Q (.inl (some (vI (nI (q - q_dgf (2 * f + 1) u))))) h') →
    wJ6_getChars_ba4f3_b22_I i g Q (f + 1) (-nI u) (nI q) 0 h := by
  have small : ∀ (D u q : Nat) (h : g_Hp) (Q : g_R → g_Hp → Prop) (R : Int32 → Int32 → Int32 → g_Hp → Prop), u < 100 → D = (if u < 10 then 1 else 2) → D ≤ q → q ≤ len → g_len h 14 i g = len →
      (∀ h', (∀ e, q - D ≤ e → e < q → h' 14 i g (e + 1) = nI (48 + u / 10 ^ (q - 1 - e) % 10)) → (∀ k a b s, ¬ (k = 14 ∧ a = i ∧ b = g ∧ q - D < s ∧ s ≤ q) → h' k a b s = h k a b s) → Q (.inl (some (vI (nI (q - D))))) h') →
      wJ6_getChars_ba4f3_b22_B i g Q R (-nI u) (nI q) 0 h := fun D u q h Q R hu hD hq hql hl K => by
    have hD1 : 1 ≤ D := by rw [hD]; split <;> omega
    unfold wJ6_getChars_ba4f3_b22_B
    refine br_t ?_ (nm_r (e' := nI (q - 1)) (sb_m1 (by omega)) ?_)
    · show -nI 100 < -nI u
      rw [sb_nlt (by decide) (by omega)]
      exact hu
    rw [Int32.neg_neg, hl, nI_clamp (n := q - 1) (by omega), q_dg0 u hu]
    refine And.intro (q_vI hu (by decide)) (And.intro (q_vI (by omega) (by omega)) (nm_e ?_))
    have hl2 : g_len (g_up h 14 i g (q - 1 + 1) (nI (48 + u % 10))) 14 i g = len := (g_len_up _ _ _ _ _ _ _ _ _).trans hl
    refine ⟨fun a => ?_, fun a => ?_⟩
    · have hu9 : u < 10 := by
        have a' : -nI 9 ≤ -nI u := a
        rw [sb_nle (by decide) (by omega)] at a'
        omega
      rw [if_pos hu9] at hD
      subst hD
      refine br_t rfl (K _ (fun e h1 h2 => ?_) (fun k a b s n => ?_))
      · rw [show e = q - 1 by omega, g_up_s, show q - 1 - (q - 1) = 0 by omega, Nat.pow_zero, Nat.div_one]
      · exact g_up_o _ _ _ _ _ _ (by omega)
    · have hu9 : ¬ u < 10 := by
        intro z
        refine a ?_
        show -nI 9 ≤ -nI u
        rw [sb_nle (by decide) (by omega)]
        omega
      rw [if_neg hu9] at hD
      subst hD
      refine nm_r (e' := nI (q - 1 - 1)) (sb_m1 (by omega)) ?_
      rw [hl2, nI_clamp (n := q - 1 - 1) (by omega), q_dg1 u hu]
      refine And.intro (q_vI hu (by decide)) (And.intro (q_vI (by omega) (by omega)) (nm_e (br_t rfl ?_)))
      refine K _ (fun e h1 h2 => ?_) (fun k a b s n => ?_)
      · by_cases z : e = q - 1
        · subst z
          rw [g_up_o _ _ _ _ _ _ (by omega), g_up_s, Nat.sub_self, Nat.pow_zero, Nat.div_one]
        · rw [show e = q - 1 - 1 by omega, g_up_s, show q - 1 - (q - 1 - 1) = 1 by omega, Nat.pow_one]
          exact congrArg nI (by omega)
      · rw [g_up_o _ _ _ _ _ _ (by omega), g_up_o _ _ _ _ _ _ (by omega)]
  intro f
  induction f with
  | zero =>
    intro u q h Q hu hu2 hq hql hl K
    show wJ6_getChars_ba4f3_b22_B i g Q _ _ _ _ h
    exact small _ u q h Q _ (by omega) rfl hq hql hl K
  | succ f ih =>
    intro u q h Q hu hu2 hq hql hl K
    show wJ6_getChars_ba4f3_b22_B i g Q _ _ _ _ h
    by_cases z : u < 100
    · refine small _ u q h Q _ z ?_ hq hql hl K
      show (if u < 10 then 1 else (if u / 10 < 10 then 1 else q_dgf (2 * f + 1) (u / 10 / 10) + 1) + 1) = _
      rw [if_pos (show u / 10 < 10 by omega)]
    · have eD : q_dgf (2 * (f + 1) + 1) u = q_dgf (2 * f + 1) (u / 100) + 2 := by
        show (if u < 10 then 1 else (if u / 10 < 10 then 1 else q_dgf (2 * f + 1) (u / 10 / 10) + 1) + 1) = _
        rw [if_neg (by omega), if_neg (by omega), Nat.div_div_eq_div_mul]
      rw [eD] at hq K
      have d1 := (q_dg (2 * f + 1) (u / 100) (by
        have e2 : 10 ^ (2 * (f + 1) + 2) = 100 * 10 ^ (2 * f + 2) := q_pow2 (2 * f + 2)
        rw [e2] at hu
        show u / 100 < 10 ^ (2 * f + 2)
        omega)).1
      unfold wJ6_getChars_ba4f3_b22_B
      refine br_f ?_ (And.intro (by decide) ?_)
      · show ¬ -nI 100 < -nI u
        rw [sb_nlt (by decide) hu2]
        exact z
      refine nm_r (sb_ndiv hu2) (nm_r (sb_nrem hu2) (nm_r (e' := nI (q - 1)) (sb_m1 (by omega)) ?_))
      rw [hl, nI_clamp (n := q - 1) (by omega), q_dg0 _ (Nat.mod_lt u (by decide))]
      refine And.intro (q_vI (Nat.mod_lt u (by decide)) (by decide)) (And.intro (q_vI (by omega) (by omega)) (nm_e (nm_r (e' := nI (q - 1 - 1)) (sb_m1 (by omega)) ?_)))
      have hl2 : g_len (g_up h 14 i g (q - 1 + 1) (nI (48 + u % 100 % 10))) 14 i g = len := (g_len_up _ _ _ _ _ _ _ _ _).trans hl
      rw [hl2, nI_clamp (n := q - 1 - 1) (by omega), q_dg1 _ (Nat.mod_lt u (by decide))]
      refine And.intro (q_vI (Nat.mod_lt u (by decide)) (by decide)) (And.intro (q_vI (by omega) (by omega)) (nm_e ?_))
      have hl3 : g_len (g_up (g_up h 14 i g (q - 1 + 1) (nI (48 + u % 100 % 10))) 14 i g (q - 1 - 1 + 1) (nI (48 + u % 100 / 10))) 14 i g = len := (g_len_up _ _ _ _ _ _ _ _ _).trans hl2
      refine ih (u / 100) (q - 1 - 1) _ Q ?_ (by omega) (by omega) (by omega) hl3 (fun h' k1 k2 => ?_)
      · have e2 : 10 ^ (2 * (f + 1) + 2) = 100 * 10 ^ (2 * f + 2) := q_pow2 (2 * f + 2)
        rw [e2] at hu
        omega
      · rw [show q - 1 - 1 - q_dgf (2 * f + 1) (u / 100) = q - (q_dgf (2 * f + 1) (u / 100) + 2) by omega] at k1 k2 ⊢
        refine K h' (fun e h1 h2 => ?_) (fun k a b s n => ?_)
        · by_cases z1 : e = q - 1
          · rw [k2 _ _ _ _ (by omega), g_up_o _ _ _ _ _ _ (by omega), z1, g_up_s, Nat.sub_self, Nat.pow_zero, Nat.div_one]
            exact congrArg nI (by omega)
          · by_cases z2 : e = q - 1 - 1
            · rw [k2 _ _ _ _ (by omega), z2, g_up_s, show q - 1 - (q - 1 - 1) = 1 by omega, Nat.pow_one]
              exact congrArg nI (by omega)
            · rw [k1 e h1 (by omega), show q - 1 - e = (q - 1 - 1 - 1 - e) + 2 by omega, q_dd]
        · rw [k2 _ _ _ _ (by omega), g_up_o _ _ _ _ _ _ (by omega), g_up_o _ _ _ _ _ _ (by omega)]
def q_csn (cs : Nat → Nat) (cnt v : Nat) : Nat → Nat := fun e => if e < cnt then cs e else 48 + v / 10 ^ (cnt + q_D v - 1 - e) % 10
theorem q_api {h : g_Hp} {i cap cnt v : Nat} {cs : Nat → Nat} {Q : g_R → g_Hp → Prop} (hS : q_SB h i cap cnt cs) (hv : v < 2 ^ 31) (hcnt : cnt + 10 ≤ 70) (K : ∀ h' cap', q_SB h' i cap' (cnt + q_D v) (q_csn cs cnt v) → q_X i h h' → Q (.inl (some (vR 6 i 0))) h') : wJ4_append_bf812 i 0 (nI v) h Q := by
  obtain ⟨d1, d2, d3, d4⟩ := q_D_s hv
  have e4 : h 6 i 0 4 = nI cnt := hS.choose_spec.1
  unfold wJ4_append_bf812 wJ5_append_c97b9
  refine nm_r e4 (q_ss hv (nm_r (nI_add _ _) ?_))
  refine q_ens hS (by omega) (by omega) (fun h1 cap1 hS1 hcap hX => ?_)
  obtain ⟨g, e4, e2, e1, hg, hc, hcc, h16, e0, hun, hby, hcs⟩ := hS1
  refine q_lat e2 (br_f (by decide) ?_)
  refine nm_r (e' := g) (by rw [e1, nI_clamp (by omega), Nat.add_sub_cancel]) ?_
  unfold wJ6_getChars_ba4f3
  refine br_t (nI_pos' hv) (q_n0 rfl (nm_e ⟨4 + 1, ?_⟩))
  have hu : v < 10 ^ (2 * 4 + 2) := Nat.lt_of_lt_of_le hv (by decide)
  refine q_gc hc 4 v (cnt + q_D v) h1 _ hu hv (Nat.le_add_left _ _) hcap (q_len hc e0) (fun h2 k1 k2 => ?_)
  have eq : cnt + q_D v - q_dgf (2 * 4 + 1) v = cnt := Nat.add_sub_cancel _ _
  rw [eq] at k1 k2
  refine nm_e (And.intro rfl (K _ cap1 ⟨g, g_up_s _ _ _ _ _ _, ?_, ?_, hg, hc, hcap, h16, ?_, fun g' hg' => ?_, fun e he => ?_, fun e he => ?_⟩ (q_X_tr hX ⟨fun k a b s x1 x2 x3 => ?_, fun a b s x => ?_⟩)))
  · rw [g_up_o _ _ _ _ _ _ (by omega), k2 _ _ _ _ (by omega)]
    exact e2
  · rw [g_up_o _ _ _ _ _ _ (by omega), k2 _ _ _ _ (by omega)]
    exact e1
  · rw [g_up_o _ _ _ _ _ _ (by omega), k2 _ _ _ _ (by omega)]
    exact e0
  · rw [g_up_o _ _ _ _ _ _ (by omega), k2 _ _ _ _ (by omega)]
    exact hun g' hg'
  · rw [g_up_o _ _ _ _ _ _ (by omega)]
    by_cases z : cnt ≤ e ∧ e < cnt + q_D v
    · rw [k1 e z.1 z.2]
      exact ⟨_, by omega, rfl⟩
    · rw [k2 _ _ _ _ (by omega)]
      exact hby e he
  · rw [g_up_o _ _ _ _ _ _ (by omega)]
    unfold q_csn
    by_cases z : e < cnt
    · rw [if_pos z, k2 _ _ _ _ (by omega)]
      exact hcs e z
    · rw [if_neg z, k1 e (by omega) he]
  · rw [g_up_o _ _ _ _ _ _ (fun q => x3 ⟨q.1, q.2.1⟩), k2 _ _ _ _ (fun q => x1 q.1)]
  · rw [g_up_o _ _ _ _ _ _ (by omega), k2 _ _ _ _ (fun q => x q.2.1)]
