/-! ===== the line, written by both ===== -/
def q_LN (h : g_Hp) (p : Nat × (Nat → Nat)) : Prop := h 5 0 0 18 = nI p.1 ∧ p.1 ≤ 50 ∧ ∀ e, e < p.1 → h 13 5 0 (e + 1) = nI (p.2 e)
/-- only the model's line has changed -/
def q_Y (h h' : g_Hp) : Prop := ∀ k a b s, ¬ (k = 5 ∧ s = 18) → ¬ (k = 13 ∧ a = 5) → h' k a b s = h k a b s
theorem q_Y_rf (h : g_Hp) : q_Y h h := fun _ _ _ _ _ _ => rfl
theorem q_Y_tr {h h1 h2 : g_Hp} (a : q_Y h h1) (b : q_Y h1 h2) : q_Y h h2 := fun k x y s e1 e2 => (b k x y s e1 e2).trans (a k x y s e1 e2)
def q_lc (p : Nat × (Nat → Nat)) (ch : Nat) : Nat × (Nat → Nat) := (p.1 + 1, fun e => if e = p.1 then ch else p.2 e)
def q_ln (p : Nat × (Nat → Nat)) (v : Nat) : Nat × (Nat → Nat) := (p.1 + q_D v, q_csn p.2 p.1 v)
def q_lq (p : Nat × (Nat → Nat)) (ch v : Nat) : Nat × (Nat → Nat) := if v = 0 then p else q_ln (q_lc p ch) v
theorem q_wr1 {h : g_Hp} {p : Nat × (Nat → Nat)} {ch : Nat} {Q : g_R → g_Hp → Prop} (hL : q_LN h p) (hp : p.1 < 50) (K : ∀ h', q_LN h' (q_lc p ch) → q_Y h h' → Q (.inl none) h') : wX8_writes (nI ch) h Q := by
  obtain ⟨e1, e2, e3⟩ := hL
  unfold wX8_writes
  rw [e1, nI_clamp (by omega)]
  refine And.intro (q_vI hp (by decide)) (nm_e ?_)
  rw [g_up_o _ _ _ _ _ _ (fun q => by cases q.1), e1, nI_1]
  refine nm_e (K _ ⟨g_up_s _ _ _ _ _ _, by show p.1 + 1 ≤ 50; omega, fun e he => ?_⟩ (fun k a b s x1 x2 => ?_))
  · have he' : e < p.1 + 1 := he
    rw [g_up_o _ _ _ _ _ _ (fun q => by cases q.1)]
    show _ = nI (if e = p.1 then ch else p.2 e)
    by_cases z : e = p.1
    · rw [if_pos z, z, g_up_s]
    · rw [if_neg z, g_up_o _ _ _ _ _ _ (fun q => z (by have := q.2.2.2; omega))]
      exact e3 e (by omega)
  · rw [g_up_o _ _ _ _ _ _ (fun q => x1 ⟨q.1, q.2.2.2⟩), g_up_o _ _ _ _ _ _ (fun q => x2 ⟨q.1, q.2.1⟩)]
theorem q_wrN {h : g_Hp} {p : Nat × (Nat → Nat)} {v : Nat} {Q : g_R → g_Hp → Prop} (hL : q_LN h p) (hv : v < 2 ^ 31) (hp : p.1 + q_D v ≤ 50) (K : ∀ h', q_LN h' (q_ln p v) → q_Y h h' → Q (.inl none) h') : wX8_writesNumber (nI v) h Q := by
  obtain ⟨d1, d2, d3, d4⟩ := q_D_s hv
  have hpw : ∀ i, i < 10 → 10 ^ i ≤ 10 ^ 9 := fun i hi => Nat.pow_le_pow_right (by decide) (by omega)
  have hpp : ∀ i, 0 < 10 ^ i := fun i => Nat.pow_pos (by decide)
  unfold wX8_writesNumber
  refine q_loop (fun k i => wX8_writesNumber_b2_I Q k (nI v) (nI (10 ^ i)) h) (q_D v - 1) 0 (Nat.zero_le _) (fun k => ?_) (fun k i _ hi hk => ?_)
  · show wX8_writesNumber_b2_B Q _ _ _ h
    unfold wX8_writesNumber_b2_B
    have hw9 := hpw (q_D v - 1) (by omega)
    refine And.intro (nI_ne0 (hpp _) (by omega)) (br_t ?_ ?_)
    · rw [pk_div hv (hpp _) (by omega)]
      refine nI_lt (b := 10) ?_ (by decide)
      rw [Nat.div_lt_iff_lt_mul (hpp _), Nat.mul_comm, ← Nat.pow_succ, show (q_D v - 1).succ = q_D v by omega]
      exact d3
    · refine pk_loop (σ := g_Hp) (fun k j s => wX8_writesNumber_b18_I Q k (nI v) (if j < q_D v then nI (10 ^ (q_D v - 1 - j)) else 0) s) (fun j s => q_LN s (p.1 + j, q_csn p.2 p.1 v) ∧ q_Y h s) (q_D v) 0 h (Nat.zero_le _) ⟨⟨hL.1, hL.2.1, fun e he => ?_⟩, q_Y_rf h⟩ (fun k s hs => ?_) (fun k j s hj hs hk => ?_) |> fun ⟨k, hk⟩ => ⟨k, by rw [if_pos (by omega)] at hk; exact hk⟩
      · show _ = nI (if e < p.1 then p.2 e else _)
        rw [if_pos (show e < p.1 from he)]
        exact hL.2.2 e he
      · rw [if_neg (Nat.lt_irrefl _)]
        show wX8_writesNumber_b18_B Q _ _ _ s
        unfold wX8_writesNumber_b18_B
        exact br_t (by decide) (K s hs.1 hs.2)
      · rw [if_pos hj]
        have hw8 := hpw (q_D v - 1 - j) (by omega)
        show wX8_writesNumber_b18_B Q _ _ _ s
        unfold wX8_writesNumber_b18_B
        refine br_f (nI_nle (hpp _) (by omega)) (And.intro (nI_ne0 (hpp _) (by omega)) (And.intro (by decide) ?_))
        have hdl : v / 10 ^ (q_D v - 1 - j) < 2 ^ 31 := Nat.lt_of_le_of_lt (Nat.div_le_self _ _) hv
        rw [pk_div hv (hpp _) (by omega), show (10 : Int32) = nI 10 from rfl, pk_rem hdl (by decide) (by decide), show (48 : Int32) = nI 48 from rfl, nI_add]
        refine q_wr1 hs.1 (by show p.1 + j < 50; omega) (fun s2 k1 k2 => And.intro (by decide) (nm_r (e' := if j + 1 < q_D v then nI (10 ^ (q_D v - 1 - (j + 1))) else 0) ?_ (hk s2 ⟨⟨k1.1, k1.2.1, fun e he => ?_⟩, q_Y_tr hs.2 k2⟩)))
        · by_cases z : j + 1 < q_D v
          · rw [if_pos z, pk_div (by omega) (by decide) (by decide)]
            refine congrArg nI ?_
            rw [show q_D v - 1 - j = (q_D v - 1 - (j + 1)) + 1 by omega, Nat.pow_succ, Nat.mul_div_cancel _ (by decide)]
          · rw [if_neg z, show q_D v - 1 - j = 0 by omega]
            decide
        · have he' : e < p.1 + j + 1 := by
            have : e < p.1 + (j + 1) := he
            omega
          rw [k1.2.2 e he']
          refine congrArg nI ?_
          show (if e = p.1 + j then _ else q_csn p.2 p.1 v e) = q_csn p.2 p.1 v e
          by_cases z : e = p.1 + j
          · rw [if_pos z]
            unfold q_csn
            rw [if_neg (by omega), z, show p.1 + q_D v - 1 - (p.1 + j) = q_D v - 1 - j by omega]
          · rw [if_neg z]
  · show wX8_writesNumber_b2_B Q _ _ _ h
    unfold wX8_writesNumber_b2_B
    have hw9 := hpw i (by omega)
    refine And.intro (nI_ne0 (hpp _) (by omega)) (br_f ?_ (nm_r ?_ hk))
    · rw [pk_div hv (hpp _) (by omega)]
      refine nI_nlt (b := 10) ?_ (Nat.lt_of_le_of_lt (Nat.div_le_self _ _) hv)
      rw [Nat.le_div_iff_mul_le (hpp _), Nat.mul_comm, ← Nat.pow_succ]
      exact d4 (i + 1) (by omega) (by omega)
    · rw [show (10 : Int32) = nI 10 from rfl, pk_mul, ← Nat.pow_succ]
theorem q_wrP {h : g_Hp} {p : Nat × (Nat → Nat)} {ch v : Nat} {Q : g_R → g_Hp → Prop} (hL : q_LN h p) (hv : v < 2 ^ 31) (hp : p.1 + 1 + q_D v ≤ 50) (K : ∀ h', q_LN h' (q_lq p ch v) → q_Y h h' → Q (.inl none) h') : wX8_writesPart (nI ch) (nI v) h Q := by
  have d1 := (q_D_s hv).1
  unfold wX8_writesPart
  by_cases z : v = 0
  · subst z
    refine q_n0 rfl (K h ?_ (q_Y_rf h))
    unfold q_lq
    rw [if_pos rfl]
    exact hL
  · refine q_n1 (nI_ne0 (by omega) hv) (q_wr1 hL (by omega) (fun h1 k1 k2 => q_wrN k1 hv (by show p.1 + 1 + q_D v ≤ 50; omega) (fun h2 j1 j2 => K h2 ?_ (q_Y_tr k2 j2))))
    unfold q_lq
    rw [if_neg z]
    exact j1
/-- the class's side: a builder's contents as a pair -/
theorem q_sb1 {h : g_Hp} {i cap ch : Nat} {p : Nat × (Nat → Nat)} {Q : g_R → g_Hp → Prop} (hS : q_SB h i cap p.1 p.2) (hch : ch < 128) (hp : p.1 + 1 ≤ 70) (K : ∀ h' cap', q_SB h' i cap' (q_lc p ch).1 (q_lc p ch).2 → q_X i h h' → Q (.inl (some (vR 6 i 0))) h') : wJ4_append_cf468 i 0 (nI ch) h Q := q_apc hS hch hp K
theorem q_sbN {h : g_Hp} {i cap v : Nat} {p : Nat × (Nat → Nat)} {Q : g_R → g_Hp → Prop} (hS : q_SB h i cap p.1 p.2) (hv : v < 2 ^ 31) (hp : p.1 + 10 ≤ 70) (K : ∀ h' cap', q_SB h' i cap' (q_ln p v).1 (q_ln p v).2 → q_X i h h' → Q (.inl (some (vR 6 i 0))) h') : wJ4_append_bf812 i 0 (nI v) h Q := q_api hS hv hp K
theorem q_sb1' {h : g_Hp} {i cap ch : Nat} {x : Int32} {p : Nat × (Nat → Nat)} {Q : g_R → g_Hp → Prop} (hx : x = nI ch) (hS : q_SB h i cap p.1 p.2) (hch : ch < 128) (hp : p.1 + 1 ≤ 70) (K : ∀ h' cap', q_SB h' i cap' (q_lc p ch).1 (q_lc p ch).2 → q_X i h h' → Q (.inl (some (vR 6 i 0))) h') : wJ4_append_cf468 i 0 x h Q := by
  subst hx
  exact q_apc hS hch hp K
theorem q_sbN' {h : g_Hp} {i cap v : Nat} {x : Int32} {p : Nat × (Nat → Nat)} {Q : g_R → g_Hp → Prop} (hx : x = nI v) (hS : q_SB h i cap p.1 p.2) (hv : v < 2 ^ 31) (hp : p.1 + 10 ≤ 70) (K : ∀ h' cap', q_SB h' i cap' (q_ln p v).1 (q_ln p v).2 → q_X i h h' → Q (.inl (some (vR 6 i 0))) h') : wJ4_append_bf812 i 0 x h Q := by
  subst hx
  exact q_api hS hv hp K
theorem q_D1 {v : Nat} (h : v < 10) : q_D v = 1 := by
  unfold q_D q_dgf
  rw [if_pos h]
theorem q_D2 {v : Nat} (h : v < 100) : q_D v ≤ 2 := by
  by_cases z : v < 10
  · rw [q_D1 z]
    decide
  · show (if v < 10 then 1 else (if v / 10 < 10 then 1 else q_dgf 7 (v / 10 / 10) + 1) + 1) ≤ 2
    rw [if_neg z, if_pos (by omega)]
    decide
/-- the line of a member -/
def q_ds0 (m ro be wa : Nat) : Nat × (Nat → Nat) := q_ln (q_lc (q_lc (q_ln (q_lc (q_ln (q_lc (0, fun _ => 0) 109) m) 64) ro) (97 + be)) 32) wa
def q_ds (m ro be wa su lo : Nat) (li : Bool) : Nat × (Nat → Nat) := if li = true then q_lc (q_lq (q_lq (q_ds0 m ro be wa) 43 su) 45 lo) 33 else q_lq (q_lq (q_ds0 m ro be wa) 43 su) 45 lo
theorem q_lq_le (p : Nat × (Nat → Nat)) (ch v : Nat) (hv : v < 2 ^ 31) : (q_lq p ch v).1 ≤ p.1 + 11 ∧ p.1 ≤ (q_lq p ch v).1 := by
  have := (q_D_s hv).2.1
  unfold q_lq
  split
  · omega
  · show p.1 + 1 + q_D v ≤ p.1 + 11 ∧ p.1 ≤ p.1 + 1 + q_D v
    omega
theorem q_ds0_le {m ro be wa : Nat} (hm : m < 100) (hr : ro < 10) (hw : wa < 2 ^ 31) : (q_ds0 m ro be wa).1 ≤ 17 := by
  have h1 := q_D2 hm
  have h2 := q_D1 hr
  have h3 := (q_D_s hw).2.1
  show 0 + 1 + q_D m + 1 + q_D ro + 1 + 1 + q_D wa ≤ 17
  omega
theorem q_ex1 {n m : Nat} {h : g_Hp} {Q : g_R → g_Hp → Prop} (hN : h 1 0 0 2 = nI n) (hn : n ≤ 12) (hm : m < n) (K : Q (.inl (some (vR 2 0 m))) h) : wX7_existing (nI m) h Q := by
  unfold wX7_existing
  exact q_isM1 hN hn hm (q_n1 (by decide) (And.intro (q_vI (by omega) (by decide)) (nm_r (nI_clamp (by omega)) K)))
theorem q_ex0 {n : Nat} {p : Int32} {h : g_Hp} {Q : g_R → g_Hp → Prop} (hN : h 1 0 0 2 = nI n) (hp : p < 0 ∨ nI n ≤ p) (K : Q (.inr "java/lang/IndexOutOfBoundsException") h) : wX7_existing p h Q := by
  unfold wX7_existing
  exact q_isM0 hN hp (q_n0 rfl K)
theorem q_mDs {T n m ro be wa su lo : Nat} {li : Bool} {ll : Nat → Nat} {it : Nat → Nat → Nat} {c : q_C} {h : g_Hp} {Q : g_R → g_Hp → Prop} (hB : q_RB T 0 0 n ll it c (q_mv h 0)) (hm : m < n) (er : c.2 m 1 = nI ro) (hr : ro < 10) (eb : c.2 m 3 = nI be) (hb : be < 8) (ew : c.2 m 4 = nI wa) (hw : wa < 2 ^ 31) (es : c.2 m 5 = nI su) (hs : su < 2 ^ 31) (el : c.2 m 6 = nI lo) (hl : lo < 2 ^ 31) (eli : li = !decide (c.2 m 10 = -1))
    (K : ∀ h', q_LN h' (q_ds m ro be wa su lo li) → q_Y (g_up h 5 0 0 1 0) h' → Q (.inl (some (vI (nI (q_ds m ro be wa su lo li).1)))) h') : wX8_describeMember (nI m) h Q := by
  have ⟨⟨s1, s2, s3, _⟩, ⟨m1, _, _⟩, hLL⟩ := hB
  have h0 := q_ds0_le (m := m) (be := be) (by omega) hr hw
  have hq1 := q_lq_le (q_ds0 m ro be wa) 43 su hs
  have hq2 := q_lq_le (q_lq (q_ds0 m ro be wa) 43 su) 45 lo hl
  have hD1 := q_D2 (v := m) (by omega)
  have hD2 := q_D1 hr
  have hD3 := (q_D_s hw).2.1
  have hD4 := (q_D_s hs).2.1
  have hD5 := (q_D_s hl).2.1
  have rd : ∀ s, 1 ≤ s → s ≤ 9 → h 13 0 0 (12 * s - 1 + m + 1) = c.2 m s := fun s a b => (m1 m s hm a b).symm
  unfold wX8_describeMember
  refine q_mM1 (n := n) s3 s1 hm (br_f (by decide) ?_)
  unfold wX8_describeMember_b14
  refine nm_e (br_t (g_up_s _ _ _ _ _ _) (nm_e ?_))
  -- what stays along the way
  have st : ∀ h', q_Y (g_up h 5 0 0 1 0) h' → ∀ s, h' 13 0 0 s = h 13 0 0 s := fun h' y s => (y 13 0 0 s (by omega) (by omega)).trans (g_up_o _ _ _ _ _ _ (fun q => by cases q.1))
  have y0 : q_Y (g_up h 5 0 0 1 0) (g_up (g_up h 5 0 0 1 0) 5 0 0 18 0) := fun k a b s x1 x2 => g_up_o _ _ _ _ _ _ (fun q => x1 ⟨q.1, q.2.2.2⟩)
  have l0 : q_LN (g_up (g_up h 5 0 0 1 0) 5 0 0 18 0) (0, fun _ => 0) := ⟨g_up_s _ _ _ _ _ _, by decide, fun e he => absurd he (Nat.not_lt_zero e)⟩
  refine q_wr1 (ch := 109) l0 (by decide) (fun h3 l3 y3 => ?_)
  have y3 := q_Y_tr y0 y3
  refine q_wrN l3 (by omega) (by show 0 + 1 + q_D m ≤ 50; omega) (fun h4 l4 y4 => ?_)
  have y4 := q_Y_tr y3 y4
  refine q_wr1 (ch := 64) l4 (by show 0 + 1 + q_D m < 50; omega) (fun h5 l5 y5 => ?_)
  have y5 := q_Y_tr y4 y5
  refine And.intro (q_v11 (by omega)) ?_
  rw [q_i11 (by omega), st h5 y5, show 11 + m + 1 = 12 * 1 - 1 + m + 1 by omega, rd 1 (by decide) (by decide), er]
  refine q_wrN l5 (by omega) (by show 0 + 1 + q_D m + 1 + q_D ro ≤ 50; omega) (fun h6 l6 y6 => ?_)
  have y6 := q_Y_tr y5 y6
  refine And.intro (q_v35 (by omega)) ?_
  rw [q_i35 (by omega), st h6 y6, show 35 + m + 1 = 12 * 3 - 1 + m + 1 by omega, rd 3 (by decide) (by decide), eb, q_lit 97, nI_add]
  refine q_wr1 l6 (by show 0 + 1 + q_D m + 1 + q_D ro < 50; omega) (fun h7 l7 y7 => ?_)
  have y7 := q_Y_tr y6 y7
  refine q_wr1 (ch := 32) l7 (by show 0 + 1 + q_D m + 1 + q_D ro + 1 < 50; omega) (fun h8 l8 y8 => ?_)
  have y8 := q_Y_tr y7 y8
  refine And.intro (q_v47 (by omega)) ?_
  rw [q_i47 (by omega), st h8 y8, show 47 + m + 1 = 12 * 4 - 1 + m + 1 by omega, rd 4 (by decide) (by decide), ew]
  refine q_wrN l8 hw (by show 0 + 1 + q_D m + 1 + q_D ro + 1 + 1 + q_D wa ≤ 50; omega) (fun h9 l9 y9 => ?_)
  have y9 := q_Y_tr y8 y9
  refine And.intro (q_v59 (by omega)) ?_
  rw [q_i59 (by omega), st h9 y9, show 59 + m + 1 = 12 * 5 - 1 + m + 1 by omega, rd 5 (by decide) (by decide), es]
  refine q_wrP (p := q_ds0 m ro be wa) (ch := 43) l9 hs (by omega) (fun h10 l10 y10 => ?_)
  have y10 := q_Y_tr y9 y10
  refine And.intro (q_v71 (by omega)) ?_
  rw [q_i71 (by omega), st h10 y10, show 71 + m + 1 = 12 * 6 - 1 + m + 1 by omega, rd 6 (by decide) (by decide), el]
  refine q_wrP (ch := 45) l10 hl (by omega) (fun h11 l11 y11 => ?_)
  have y11 := q_Y_tr y10 y11
  have ev : q_mv h11 0 = q_mv h 0 := funext fun e => st h11 y11 (e + 1)
  have eh : q_mH h11 0 (q_mv h 0) = h11 := by rw [← ev, q_mE]
  have zz : ∀ Q' : g_R → g_Hp → Prop, (c.2 m 10 = -1 → Q' (.inl (some (vI (-1)))) h11 → wX8_list (nI m) h11 Q') ∧ (∀ r, c.2 m 10 = nI r → r < 10 → Q' (.inl (some (vI (nI r)))) h11 → wX8_list (nI m) h11 Q') := fun Q' => by
    have z := q_mLR (h := h11) (Q := Q') s1 hm hLL
    rw [eh] at z
    exact z
  by_cases z : c.2 m 10 = -1
  · have e0 : li = false := by rw [eli, decide_eq_true z]; rfl
    have ed : q_ds m ro be wa su lo li = q_lq (q_lq (q_ds0 m ro be wa) 43 su) 45 lo := by
      unfold q_ds
      rw [e0]
      rfl
    rw [ed] at K
    refine (zz _).1 z (br_t (by decide) ?_)
    show Q (.inl (some (vI (h11 5 0 0 18)))) h11
    rw [l11.1]
    exact K h11 l11 y11
  · have e1 : li = true := by rw [eli, decide_eq_false z]; rfl
    have ed : q_ds m ro be wa su lo li = q_lc (q_lq (q_lq (q_ds0 m ro be wa) 43 su) 45 lo) 33 := by
      unfold q_ds
      rw [e1]
      rfl
    rw [ed] at K
    obtain ⟨r, hr10, hrr⟩ : ∃ r, r < 10 ∧ c.2 m 10 = nI r := by
      rcases hLL.2.2 m hm with y | ⟨x, k, hx, hk, y⟩
      · exact absurd y z
      · exact ⟨x, hx, by rw [← y]; exact (hLL.2.1 x k hx hk).2.2.1⟩
    refine (zz _).2 r hrr hr10 (br_f (q_nlt0 (by omega)) (q_wr1 (ch := 33) l11 (by omega) (fun h12 l12 y12 => ?_)))
    show Q (.inl (some (vI (h12 5 0 0 18)))) h12
    rw [l12.1]
    exact K h12 l12 (q_Y_tr y11 y12)
theorem q_let : ∀ b, b < 8 → ((((97 : Int32) + nI b).toUInt32 % 65536).toInt32) = nI (97 + b) := by decide +kernel
theorem q_cDs {n m ro be wa su lo cap cnt : Nat} {cs : Nat → Nat} {li : Bool} {h : g_Hp} {Q : g_R → g_Hp → Prop} (hN : h 1 0 0 2 = nI n) (hn : n ≤ 12) (hm : m < n) (er : h 2 0 m 1 = nI ro) (hr : ro < 10) (eb : h 2 0 m 3 = nI be) (hb : be < 8) (ew : h 2 0 m 4 = nI wa) (hw : wa < 2 ^ 31) (es : h 2 0 m 5 = nI su) (hs : su < 2 ^ 31) (el : h 2 0 m 6 = nI lo) (hl : lo < 2 ^ 31) (eli : li = !decide (h 2 0 m 10 = -1)) (hS : q_SB h 1 cap cnt cs)
    (K : ∀ h' cap', q_SB h' 1 cap' (q_ds m ro be wa su lo li).1 (q_ds m ro be wa su lo li).2 → q_X 1 h h' → Q (.inl (some (vI (nI (q_ds m ro be wa su lo li).1)))) h') : wX7_describeMember (nI m) h Q := by
  have h0 := q_ds0_le (m := m) (be := be) (by omega) hr hw
  have hq1 := q_lq_le (q_ds0 m ro be wa) 43 su hs
  have hq2 := q_lq_le (q_lq (q_ds0 m ro be wa) 43 su) 45 lo hl
  have hD1 := q_D2 (v := m) (by omega)
  have hD2 := q_D1 hr
  have hD3 := (q_D_s hw).2.1
  have hD4 := (q_D_s hs).2.1
  have hD5 := (q_D_s hl).2.1
  have st : ∀ h', q_X 1 h h' → ∀ s, h' 2 0 m s = h 2 0 m s := fun h' y s => y.1 2 0 m s (by decide) (by decide) (fun q => by cases q.1)
  unfold wX7_describeMember
  refine q_ex1 hN hn hm (And.intro rfl (q_sl0 hS (fun h4 c4 S4 x4 => ?_)))
  have S4 := S4 (fun _ => 0)
  refine q_sb1 (p := (0, fun _ => 0)) (ch := 109) S4 (by decide) (by decide) (fun h5 c5 S5 x5 => And.intro rfl ?_)
  have x5 := q_X_tr x4 x5
  refine q_sbN S5 (by omega) (by show 0 + 1 + 10 ≤ 70; omega) (fun h8 c8 S8 x8 => And.intro rfl ?_)
  have x8 := q_X_tr x5 x8
  refine q_sb1 (ch := 64) S8 (by decide) (by show 0 + 1 + q_D m + 1 ≤ 70; omega) (fun h11 c11 S11 x11 => And.intro rfl ?_)
  have x11 := q_X_tr x8 x11
  refine q_sbN' ((st h11 x11 1).trans er) S11 (by omega) (by show 0 + 1 + q_D m + 1 + 10 ≤ 70; omega) (fun h14 c14 S14 x14 => And.intro rfl ?_)
  have x14 := q_X_tr x11 x14
  refine q_sb1' (ch := 97 + be) ((congrArg (fun y => (((97 : Int32) + y).toUInt32 % 65536).toInt32) ((st h14 x14 3).trans eb)).trans (q_let be hb)) S14 (by omega) (by show 0 + 1 + q_D m + 1 + q_D ro + 1 ≤ 70; omega) (fun h17 c17 S17 x17 => And.intro rfl ?_)
  have x17 := q_X_tr x14 x17
  refine q_sb1 (ch := 32) S17 (by decide) (by show 0 + 1 + q_D m + 1 + q_D ro + 1 + 1 ≤ 70; omega) (fun h20 c20 S20 x20 => And.intro rfl ?_)
  have x20 := q_X_tr x17 x20
  refine q_sbN' ((st h20 x20 4).trans ew) S20 hw (by show 0 + 1 + q_D m + 1 + q_D ro + 1 + 1 + 10 ≤ 70; omega) (fun h23 c23 S23 x23 => And.intro rfl ?_)
  have x23 := q_X_tr x20 x23
  have S23' : q_SB h23 1 c23 (q_ds0 m ro be wa).1 (q_ds0 m ro be wa).2 := S23
  have k3 : ∀ h' cap', q_SB h' 1 cap' (q_lq (q_lq (q_ds0 m ro be wa) 43 su) 45 lo).1 (q_lq (q_lq (q_ds0 m ro be wa) 43 su) 45 lo).2 → q_X 1 h h' → wX7_describeMember_b126 Q 0 m h' := fun h' cap' S x => by
    unfold wX7_describeMember_b126
    rw [st h' x]
    by_cases z : h 2 0 m 10 = -1
    · have e0 : li = false := by rw [eli, decide_eq_true z]; rfl
      have ed : q_ds m ro be wa su lo li = q_lq (q_lq (q_ds0 m ro be wa) 43 su) 45 lo := by
        unfold q_ds
        rw [e0]
        rfl
      rw [ed] at K
      exact br_t z (q_sle S (K h' cap' S x))
    · have e1 : li = true := by rw [eli, decide_eq_false z]; rfl
      have ed : q_ds m ro be wa su lo li = q_lc (q_lq (q_lq (q_ds0 m ro be wa) 43 su) 45 lo) 33 := by
        unfold q_ds
        rw [e1]
        rfl
      rw [ed] at K
      exact br_f z (q_sb1 (ch := 33) S (by decide) (by omega) (fun h2 c2 S2 x2 => And.intro rfl (q_sle S2 (K h2 c2 S2 (q_X_tr x x2)))))
  have k2 : ∀ h' cap', q_SB h' 1 cap' (q_lq (q_ds0 m ro be wa) 43 su).1 (q_lq (q_ds0 m ro be wa) 43 su).2 → q_X 1 h h' → wX7_describeMember_b102 Q 0 m h' := fun h' cap' S x => by
    unfold wX7_describeMember_b102
    rw [st h' x, el]
    by_cases z : lo = 0
    · have e : q_lq (q_lq (q_ds0 m ro be wa) 43 su) 45 lo = q_lq (q_ds0 m ro be wa) 43 su := by
        show (if lo = 0 then _ else _) = _
        rw [if_pos z]
      rw [e] at k3
      subst z
      exact br_t rfl (k3 h' cap' S x)
    · have e : q_lq (q_lq (q_ds0 m ro be wa) 43 su) 45 lo = q_ln (q_lc (q_lq (q_ds0 m ro be wa) 43 su) 45) lo := by
        show (if lo = 0 then _ else _) = _
        rw [if_neg z]
      rw [e] at k3
      refine br_f (nI_ne0 (by omega) hl) (q_sb1 (ch := 45) S (by decide) (by omega) (fun h2 c2 S2 x2 => And.intro rfl ?_))
      exact q_sbN' ((st h2 (q_X_tr x x2) 6).trans el) S2 hl (by show (q_lq (q_ds0 m ro be wa) 43 su).1 + 1 + 10 ≤ 70; omega) (fun h3 c3 S3 x3 => And.intro rfl (k3 h3 c3 S3 (q_X_tr x (q_X_tr x2 x3))))
  show ((h23 2 0 m 5 = 0) → _) ∧ _
  rw [st h23 x23, es]
  by_cases z : su = 0
  · have e : q_lq (q_ds0 m ro be wa) 43 su = q_ds0 m ro be wa := by
      show (if su = 0 then _ else _) = _
      rw [if_pos z]
    rw [e] at k2
    subst z
    exact br_t rfl (k2 h23 c23 S23' x23)
  · have e : q_lq (q_ds0 m ro be wa) 43 su = q_ln (q_lc (q_ds0 m ro be wa) 43) su := by
      show (if su = 0 then _ else _) = _
      rw [if_neg z]
    rw [e] at k2
    refine br_f (nI_ne0 (by omega) hs) (q_sb1 (ch := 43) S23' (by decide) (by omega) (fun h2 c2 S2 x2 => And.intro rfl ?_))
    exact q_sbN' ((st h2 (q_X_tr x23 x2) 5).trans es) S2 hs (by show (q_ds0 m ro be wa).1 + 1 + 10 ≤ 70; omega) (fun h3 c3 S3 x3 => And.intro rfl (k2 h3 c3 S3 (q_X_tr x23 (q_X_tr x2 x3))))
