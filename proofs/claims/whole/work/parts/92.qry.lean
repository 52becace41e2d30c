/-! ===== more queries ===== -/
theorem q_H2o {h : g_Hp} {x : Int32} {k a b s : Nat} (n1 : k ≠ 15) (n2 : k ≠ 5) : g_up (g_up h 15 0 0 1 x) 5 0 0 1 0 k a b s = h k a b s := (q_tho n2).trans (q_oth n1)
theorem q_rr0 {p : Int32} {h : g_Hp} {Q : g_R → g_Hp → Prop} (hp : p < 0 ∨ nI 10 ≤ p) (K : Q (.inr "java/lang/IndexOutOfBoundsException") h) : wX7_requireRoof p h Q := by
  unfold wX7_requireRoof
  exact q_isR0 hp (q_n0 rfl K)
theorem q_rr1 {r : Nat} {h : g_Hp} {Q : g_R → g_Hp → Prop} (hr : r < 10) (K : Q (.inl none) h) : wX7_requireRoof (nI r) h Q := by
  unfold wX7_requireRoof
  exact q_isR1 hr (q_n1 (by decide) K)
theorem q_rm1 {n : Nat} {h : g_Hp} {Q : g_R → g_Hp → Prop} (hN : h 1 0 0 2 = nI n) (hn : n ≤ 12) (h1 : 1 ≤ n) (K : Q (.inl none) h) : wX7_requireMembers h Q := by
  unfold wX7_requireMembers
  rw [hN]
  exact q_n1 (nI_ne0 h1 (by omega)) K
theorem q_rm0 {h : g_Hp} {Q : g_R → g_Hp → Prop} (hN : h 1 0 0 2 = 0) (K : Q (.inr "java/lang/ArithmeticException") h) : wX7_requireMembers h Q := by
  unfold wX7_requireMembers
  exact q_n0 hN K
theorem q_ro1 {h : g_Hp} {Q : g_R → g_Hp → Prop} (hN : ¬ h 1 0 0 11 = 0) (K : Q (.inl none) h) : wX7_requireOffer h Q := q_n1 hN K
theorem q_ro0 {h : g_Hp} {Q : g_R → g_Hp → Prop} (hN : h 1 0 0 11 = 0) (K : Q (.inr "java/util/NoSuchElementException") h) : wX7_requireOffer h Q := q_n0 hN K
/-! sums -/
def q_sw (f : Nat → Int32) : Nat → Int32
  | 0 => 0
  | n + 1 => q_sw f n + f n
theorem q_sw_congr {f f' : Nat → Int32} : ∀ {n : Nat}, (∀ m, m < n → f m = f' m) → q_sw f n = q_sw f' n
  | 0, _ => rfl
  | n + 1, h => by
    show q_sw f n + f n = q_sw f' n + f' n
    rw [q_sw_congr (n := n) (fun m hm => h m (by omega)), h n (by omega)]
theorem q_sw_one {f f' : Nat → Int32} {j : Nat} {d : Int32} (hj : f' j = f j + d) (ho : ∀ m, m ≠ j → f' m = f m) : ∀ {n : Nat}, j < n → q_sw f' n = q_sw f n + d
  | 0, h => by omega
  | n + 1, h => by
    show q_sw f' n + f' n = q_sw f n + f n + d
    by_cases e : j = n
    · subst e
      rw [q_sw_congr (f := f') (f' := f) (fun m hm => ho m (by omega)), hj, Int32.add_assoc]
    · rw [q_sw_one hj ho (n := n) (by omega), ho n (fun z => e z.symm), Int32.add_assoc, Int32.add_comm d, ← Int32.add_assoc]
theorem q_sw_0 {f : Nat → Int32} : ∀ {n : Nat}, (∀ m, m < n → f m = 0) → q_sw f n = 0
  | 0, _ => rfl
  | n + 1, h => by
    show q_sw f n + f n = 0
    rw [q_sw_0 (n := n) (fun m hm => h m (by omega)), h n (by omega)]
    rfl
theorem q_sLM {b n : Nat} {H : g_Hp} {Q : g_R → g_Hp → Prop} (hN : H 1 b 0 2 = nI n) (hn : n ≤ 12) (K : Q (.inl (some (vI (q_sw (fun m => H 2 b m 6) n)))) H) : wX1_sumLostByMembers b H Q := by
  refine q_loop (fun k i => wX1_sumLostByMembers_b4_I b Q k (q_sw (fun m => H 2 b m 6) i) (nI i) H) n 0 (Nat.zero_le _) ?_ ?_
  · intro k
    show wX1_sumLostByMembers_b4_B b Q _ _ _ H
    unfold wX1_sumLostByMembers_b4_B
    rw [hN]
    exact br_t (nI_le (Nat.le_refl _) (by omega)) K
  · intro k i _ hi hk
    show wX1_sumLostByMembers_b4_B b Q _ _ _ H
    unfold wX1_sumLostByMembers_b4_B
    rw [hN]
    exact br_f (nI_ge hi (by omega)) (And.intro (q_vI (by omega) (by decide)) (nm_r (nI_clamp (by omega)) (nm_r (e' := q_sw (fun m => H 2 b m 6) (i + 1)) rfl (nm_r (nI_1 i) hk))))
theorem q_mLS {n : Nat} {H : g_Hp} {Q : g_R → g_Hp → Prop} (hN : H 13 0 0 1 = nI n) (hn : n ≤ 12) (K : Q (.inl (some (vI (q_sw (fun m => H 13 0 0 (71 + m + 1)) n)))) H) : wX8_lost H Q := by
  refine q_loop (fun k i => wX8_lost_b4_I Q k (q_sw (fun m => H 13 0 0 (71 + m + 1)) i) (nI i) H) n 0 (Nat.zero_le _) ?_ ?_
  · intro k
    show wX8_lost_b4_B Q _ _ _ H
    unfold wX8_lost_b4_B
    rw [q_k0, hN]
    exact br_t (nI_le (Nat.le_refl _) (by omega)) K
  · intro k i _ hi hk
    show wX8_lost_b4_B Q _ _ _ H
    unfold wX8_lost_b4_B
    rw [q_k0, hN, q_i71 (by omega)]
    exact br_f (nI_ge hi (by omega)) (And.intro (q_v71 (by omega)) (nm_r (e' := q_sw (fun m => H 13 0 0 (71 + m + 1)) (i + 1)) rfl (nm_r (nI_1 i) hk)))
def q_sr (f : Nat → Int32) (rr : Nat → Nat) (r i : Nat) : Nat → Int32 := fun m => if rr m < r ∨ (rr m = r ∧ m < i) then f m else 0
theorem q_sLR {b n : Nat} {rr : Nat → Nat} {H : g_Hp} {Q : g_R → g_Hp → Prop} (hN : H 1 b 0 2 = nI n) (hn : n ≤ 12) (hr : ∀ m, m < n → rr m < 10 ∧ H 2 b m 1 = nI (rr m)) (K : Q (.inl (some (vI (q_sw (fun m => H 2 b m 6) n)))) H) : wX1_sumLostByRoofs b H Q := by
  have z := q_loop (fun k r => wX1_sumLostByRoofs_b4_I b Q k (q_sw (q_sr (fun m => H 2 b m 6) rr r 0) n) (nI r) H) 10 0 (Nat.zero_le _) ?_ ?_
  · have e0 : q_sw (q_sr (fun m => H 2 b m 6) rr 0 0) n = 0 := q_sw_0 (fun m _ => if_neg (by omega))
    rw [e0] at z
    exact z
  · intro k
    show wX1_sumLostByRoofs_b4_B b Q _ _ _ H
    unfold wX1_sumLostByRoofs_b4_B
    have e1 : q_sw (q_sr (fun m => H 2 b m 6) rr 10 0) n = q_sw (fun m => H 2 b m 6) n := q_sw_congr (fun m hm => if_pos (Or.inl (hr m hm).1))
    rw [e1]
    exact br_t (nI_le (a := 10) (Nat.le_refl _) (by decide)) K
  · intro k r _ hr10 hk
    show wX1_sumLostByRoofs_b4_B b Q _ _ _ H
    unfold wX1_sumLostByRoofs_b4_B
    refine br_f (nI_ge (b := 10) hr10 (by decide)) ?_
    refine q_loop (fun k' i => wX1_sumLostByRoofs_b12_I b Q (wX1_sumLostByRoofs_b4_I b Q k) k' (q_sw (q_sr (fun m => H 2 b m 6) rr r i) n) (nI r) (nI i) H) n 0 (Nat.zero_le _) ?_ ?_
    · intro k'
      show wX1_sumLostByRoofs_b12_B b Q _ _ _ _ _ H
      unfold wX1_sumLostByRoofs_b12_B
      rw [hN]
      have e1 : q_sw (q_sr (fun m => H 2 b m 6) rr r n) n = q_sw (q_sr (fun m => H 2 b m 6) rr (r + 1) 0) n := q_sw_congr (fun m hm => by
        unfold q_sr
        by_cases c : rr m < r + 1
        · rw [if_pos (by omega), if_pos (by omega)]
        · rw [if_neg (by omega), if_neg (by omega)])
      rw [e1]
      exact br_t (nI_le (Nat.le_refl _) (by omega)) (nm_r (nI_1 r) hk)
    · intro k' i _ hi hk'
      show wX1_sumLostByRoofs_b12_B b Q _ _ _ _ _ H
      unfold wX1_sumLostByRoofs_b12_B
      rw [hN]
      refine br_f (nI_ge hi (by omega)) (And.intro (q_vI (by omega) (by decide)) (nm_r (nI_clamp (by omega)) ?_))
      rw [(hr i hi).2]
      by_cases c : rr i = r
      · refine q_n0 (by rw [c]) (And.intro (q_vI (by omega) (by decide)) (nm_r (nI_clamp (by omega)) (nm_r ?_ (nm_r (nI_1 i) hk'))))
        refine (q_sw_one (j := i) ?_ (fun m hm => ?_) hi).symm
        · unfold q_sr
          rw [if_pos (by omega), if_neg (by omega), Int32.zero_add]
        · unfold q_sr
          by_cases c2 : rr m < r ∨ (rr m = r ∧ m < i)
          · rw [if_pos (by omega), if_pos c2]
          · rw [if_neg (by omega), if_neg c2]
      · have e1 : q_sw (q_sr (fun m => H 2 b m 6) rr r i) n = q_sw (q_sr (fun m => H 2 b m 6) rr r (i + 1)) n := q_sw_congr (fun m hm => by
          unfold q_sr
          by_cases c2 : rr m < r ∨ (rr m = r ∧ m < i)
          · rw [if_pos c2, if_pos (by omega)]
          · refine (if_neg c2).trans (if_neg (fun q => ?_)).symm
            rcases Nat.lt_or_ge m i with y | y
            · omega
            · have e : m = i := by omega
              subst e
              omega)
        rw [e1]
        refine q_n1 (fun q => c ?_) (nm_r (nI_1 i) hk')
        exact (nI_eq (by have := (hr i hi).1; omega) (by omega)).mp q
def q_sl (f : Nat → Int32) : Nat → Int64
  | 0 => (0 : Int32).toInt64
  | n + 1 => q_sl f n + (f n).toInt64
theorem q_sl_congr {f f' : Nat → Int32} : ∀ {n : Nat}, (∀ m, m < n → f m = f' m) → q_sl f n = q_sl f' n
  | 0, _ => rfl
  | n + 1, h => by
    show q_sl f n + (f n).toInt64 = q_sl f' n + (f' n).toInt64
    rw [q_sl_congr (n := n) (fun m hm => h m (by omega)), h n (by omega)]
theorem q_cWT {b n : Nat} {H : g_Hp} {Q : g_R → g_Hp → Prop} (hN : H 1 b 0 2 = nI n) (hn : n ≤ 12) (K : Q (.inl (some (vV (.long (q_sl (fun m => H 2 b m 4) n))))) H) : wX1_sumWages b H Q := by
  unfold wX1_sumWages
  refine nm_e (q_loop (fun k i => wX1_sumWages_b4_I b Q k (q_sl (fun m => H 2 b m 4) i) (nI i) H) n 0 (Nat.zero_le _) ?_ ?_)
  · intro k
    show wX1_sumWages_b4_B b Q _ _ _ H
    unfold wX1_sumWages_b4_B
    rw [hN]
    exact br_t (nI_le (Nat.le_refl _) (by omega)) K
  · intro k i _ hi hk
    show wX1_sumWages_b4_B b Q _ _ _ H
    unfold wX1_sumWages_b4_B
    rw [hN]
    exact br_f (nI_ge hi (by omega)) (And.intro (q_vI (by omega) (by decide)) (nm_r (nI_clamp (by omega)) (nm_r (e' := q_sl (fun m => H 2 b m 4) (i + 1)) rfl (nm_r (nI_1 i) hk))))
theorem q_mWT {n : Nat} {h : g_Hp} {Q : g_R → g_Hp → Prop} (hN : h 13 0 0 1 = nI n) (hn : n ≤ 12) (K : Q (.inl (some (vV (.long (q_sl (fun m => h 13 0 0 (47 + m + 1)) n))))) (g_up h 5 0 0 1 0)) : wX8_wageTotal h Q := by
  unfold wX8_wageTotal
  refine nm_e (nm_e (q_loop (fun k i => wX8_wageTotal_b9_I Q k (q_sl (fun m => h 13 0 0 (47 + m + 1)) i) (nI i) (g_up h 5 0 0 1 0)) n 0 (Nat.zero_le _) ?_ ?_))
  · intro k
    show wX8_wageTotal_b9_B Q _ _ _ _
    unfold wX8_wageTotal_b9_B
    rw [q_k0, q_tho (by decide), hN]
    exact br_t (nI_le (Nat.le_refl _) (by omega)) K
  · intro k i _ hi hk
    show wX8_wageTotal_b9_B Q _ _ _ _
    unfold wX8_wageTotal_b9_B
    rw [q_k0, q_tho (by decide), hN, q_i47 (by omega), q_tho (by decide)]
    exact br_f (nI_ge hi (by omega)) (And.intro (q_v47 (by omega)) (nm_r (e' := q_sl (fun m => h 13 0 0 (47 + m + 1)) (i + 1)) rfl (nm_r (nI_1 i) hk)))
/-! the circle, by turning -/
theorem q_tD1 : ∀ a, a < 8 → ∀ b, b < 8 → ((a + q_far a b) % 8 = b ∨ (a + 8 - q_far a b) % 8 = b) ∧ ∀ k, k < q_far a b → ¬ (a + k) % 8 = b ∧ ¬ (a + 8 - k) % 8 = b := by decide +kernel
theorem q_stT {a b : Nat} {h : g_Hp} {Q : g_R → g_Hp → Prop} (ha : a < 8) (hb : b < 8) (K : Q (.inl (some (vI (nI (q_far a b))))) h) : wX7_stepsByTurning (nI a) (nI b) h Q := by
  have d := q_tD1 a ha b hb
  have hle := q_far_le ha hb
  have z := q_loop (fun k i => wX7_stepsByTurning_b7_I Q k (nI b) (nI ((a + i) % 8)) (nI ((a + 8 - i) % 8)) (nI i) h) (q_far a b) 0 (Nat.zero_le _) ?_ ?_
  · rw [show (a + 0) % 8 = a by omega, show (a + 8 - 0) % 8 = a by omega] at z
    exact z
  · intro k
    show wX7_stepsByTurning_b7_B Q _ _ _ _ _ h
    unfold wX7_stepsByTurning_b7_B
    refine br_f (nI_ge (b := 8) (by omega) (by decide)) ?_
    by_cases c : (a + q_far a b) % 8 = b
    · exact br_t (by rw [c]) K
    · refine br_f (fun q => c ((nI_eq (by omega) (by omega)).mp q)) (br_t ?_ K)
      rcases d.1 with y | y
      · exact absurd y c
      · rw [y]
  · intro k i _ hi hk
    show wX7_stepsByTurning_b7_B Q _ _ _ _ _ h
    unfold wX7_stepsByTurning_b7_B
    have d2 := d.2 i hi
    refine br_f (nI_ge (b := 8) (by omega) (by decide)) (br_f (fun q => d2.1 ((nI_eq (by omega) (by omega)).mp q)) (br_f (fun q => d2.2 ((nI_eq (by omega) (by omega)).mp q)) ?_))
    have down : ∀ y, y = (a + (i + 1)) % 8 → wX7_stepsByTurning_b37 Q (wX7_stepsByTurning_b7_I Q k) (nI b) (nI ((a + 8 - i) % 8)) (nI i) (nI y) h := fun y hy => by
      subst hy
      unfold wX7_stepsByTurning_b37 wX7_stepsByTurning_b50
      by_cases c : (a + 8 - i) % 8 = 0
      · refine q_n0 (by rw [c]; rfl) (nm_r (nI_1 i) ?_)
        rw [show (a + 8 - (i + 1)) % 8 = 7 by omega] at hk
        exact hk
      · refine q_n1 (nI_ne0 (by omega) (by omega)) (nm_r (nI_1 i) ?_)
        rw [q_lit 1, pk_sub (by omega), show (a + 8 - i) % 8 - 1 = (a + 8 - (i + 1)) % 8 by omega]
        exact hk
    by_cases c : (a + i) % 8 = 7
    · refine q_n0 (by rw [c]; rfl) ?_
      exact down 0 (by omega)
    · refine q_n1 (fun q => c ((nI_eq (b := 7) (by omega) (by decide)).mp q)) ?_
      rw [nI_1]
      exact down _ (by omega)
/-! the fund, by paying out -/
theorem q_pyE {n F : Nat} (hn : n ≤ 12) (h1 : 1 ≤ n) (hF : F ≤ 9999) : nI F / ((2 : Int32) * nI n) = nI (F / (2 * n)) := by
  rw [q_lit 2, pk_mul, pk_div (by omega) (by omega) (by omega)]
theorem q_pyO {n F : Nat} {H : g_Hp} {Q : g_R → g_Hp → Prop} (hN : H 1 0 0 2 = nI n) (hn : n ≤ 12) (h1 : 1 ≤ n) (hF : F ≤ 9999) (hf : H 1 0 0 10 = nI F) (K : Q (.inl (some (vI (nI (F / (2 * n)))))) H) : wX1_payOutCopyOfFund 0 H Q := by
  have hE : F / (2 * n) * (2 * n) ≤ F := Nat.div_mul_le_self _ _
  have hE2 : F < F / (2 * n) * (2 * n) + 2 * n := by
    have e1 := Nat.div_add_mod F (2 * n)
    have e2 := Nat.mod_lt F (show 2 * n > 0 by omega)
    rw [Nat.mul_comm] at e1
    omega
  have hE3 : F / (2 * n) ≤ F / 2 := Nat.div_le_div_left (by omega) (by decide)
  unfold wX1_payOutCopyOfFund
  rw [hf]
  refine nm_e ?_
  have z := q_loop (fun k q => wX1_payOutCopyOfFund_b7_I 0 Q k (nI (F - q * (2 * n))) (nI q) H) (F / (2 * n)) 0 (Nat.zero_le _) ?_ ?_
  · rw [Nat.zero_mul, Nat.sub_zero] at z
    exact z
  · intro k
    show wX1_payOutCopyOfFund_b7_B 0 Q _ _ _ H
    unfold wX1_payOutCopyOfFund_b7_B
    refine br_f (nI_ge (b := 9999) (by omega) (by decide)) ?_
    generalize F / (2 * n) * (2 * n) = a at *
    have y := q_loop (fun k' i => wX1_payOutCopyOfFund_b16_I 0 Q (wX1_payOutCopyOfFund_b7_I 0 Q k) k' (nI (F - a - 2 * i)) (nI (F / (2 * n))) (nI i) H) ((F - a) / 2) 0 (Nat.zero_le _) ?_ ?_
    · rw [Nat.mul_zero, Nat.sub_zero] at y
      exact y
    · intro k'
      show wX1_payOutCopyOfFund_b16_B 0 Q _ _ _ _ _ H
      unfold wX1_payOutCopyOfFund_b16_B
      rw [hN]
      exact br_f (nI_ge (by omega) (by omega)) (br_f (nI_ge (b := 2) (by omega) (by decide)) K)
    · intro k' i _ hi hk
      show wX1_payOutCopyOfFund_b16_B 0 Q _ _ _ _ _ H
      unfold wX1_payOutCopyOfFund_b16_B
      rw [hN]
      refine br_f (nI_ge (by omega) (by omega)) (br_t (nI_le (a := 2) (by omega) (by omega)) (nm_r ?_ (nm_r (nI_1 i) hk)))
      rw [← Int32.sub_eq_add_neg, q_lit 2, pk_sub (by omega)]
      exact congrArg nI (by omega)
  · intro k q _ hq hk
    show wX1_payOutCopyOfFund_b7_B 0 Q _ _ _ H
    unfold wX1_payOutCopyOfFund_b7_B
    refine br_f (nI_ge (b := 9999) (by omega) (by decide)) ?_
    have hm : (q + 1) * (2 * n) ≤ F / (2 * n) * (2 * n) := Nat.mul_le_mul_right _ hq
    rw [Nat.succ_mul] at hm hk
    generalize q * (2 * n) = a at *
    have y := q_loop (fun k' i => wX1_payOutCopyOfFund_b16_I 0 Q (wX1_payOutCopyOfFund_b7_I 0 Q k) k' (nI (F - a - 2 * i)) (nI q) (nI i) H) n 0 (Nat.zero_le _) ?_ ?_
    · rw [Nat.mul_zero, Nat.sub_zero] at y
      exact y
    · intro k'
      show wX1_payOutCopyOfFund_b16_B 0 Q _ _ _ _ _ H
      unfold wX1_payOutCopyOfFund_b16_B
      rw [hN, show F - a - 2 * n = F - (a + 2 * n) by omega]
      exact br_t (nI_le (Nat.le_refl _) (by omega)) (nm_r (nI_1 q) hk)
    · intro k' i _ hi hk'
      show wX1_payOutCopyOfFund_b16_B 0 Q _ _ _ _ _ H
      unfold wX1_payOutCopyOfFund_b16_B
      rw [hN]
      refine br_f (nI_ge (by omega) (by omega)) (br_t (nI_le (a := 2) (by omega) (by omega)) (nm_r ?_ (nm_r (nI_1 i) hk')))
      rw [← Int32.sub_eq_add_neg, q_lit 2, pk_sub (by omega)]
      exact congrArg nI (by omega)
