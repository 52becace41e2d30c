/-! strikeOff -/
theorem q_upd_same {f : Nat → Int32} {i : Nat} {x : Int32} (h : f i = x) : upd f i x = f := by
  funext k
  by_cases e : k = i
  · subst e
    rw [pk_us, h]
  · rw [pk_un e]
theorem q_fX1 {m : Int32} {n : Nat} {H : g_Hp} {Q : g_R → g_Hp → Prop} (hN : H 1 0 0 2 = nI n) (hm : m < 0 ∨ nI n ≤ m) (K : Q (.inl (some (vR 20 1 0))) H) : wX1_faultOfStrikingOff 0 m H Q := by
  unfold wX1_faultOfStrikingOff
  exact q_isM0 hN hm (q_n0 rfl K)
theorem q_fX0 {n m : Nat} {H : g_Hp} {Q : g_R → g_Hp → Prop} (hN : H 1 0 0 2 = nI n) (hn : n ≤ 12) (hm : m < n) (K5 : H 2 0 m 10 = -1 → Q (.inl (some (vR 20 5 0))) H) (K0 : ¬ H 2 0 m 10 = -1 → Q (.inl (some (vR 20 0 0))) H) : wX1_faultOfStrikingOff 0 (nI m) H Q := by
  unfold wX1_faultOfStrikingOff
  exact q_isM1 hN hn hm (q_n1 (by decide) (And.intro (q_vI (by omega) (by decide)) (nm_r (nI_clamp (by omega)) ⟨fun f => K0 f, fun f => K5 f⟩)))
/-- the places behind one that goes, of the first i members -/
def q_off (g : Nat → Nat → Int32) (i : Nat) (rv kv : Int32) : Nat → Nat → Int32 := fun j s => if j < i ∧ s = 11 ∧ g j 10 = rv ∧ ¬ g j 11 ≤ kv then g j 11 - 1 else g j s
theorem q_off_0 (g : Nat → Nat → Int32) (rv kv : Int32) : q_off g 0 rv kv = g := by
  funext j s
  exact if_neg (fun q => by omega)
theorem q_off_no {g : Nat → Nat → Int32} {i : Nat} {rv kv : Int32} (h : ¬ (g i 10 = rv ∧ ¬ g i 11 ≤ kv)) : q_off g (i + 1) rv kv = q_off g i rv kv := by
  funext j s
  unfold q_off
  by_cases z : j < i ∧ s = 11 ∧ g j 10 = rv ∧ ¬ g j 11 ≤ kv
  · rw [if_pos z, if_pos ⟨by omega, z.2⟩]
  · rw [if_neg z, if_neg]
    intro y
    by_cases e : j = i
    · subst e
      exact h y.2.2
    · exact z ⟨by omega, y.2⟩
theorem q_off_yes {g : Nat → Nat → Int32} {i : Nat} {rv kv : Int32} (h : g i 10 = rv) (h2 : ¬ g i 11 ≤ kv) : q_u2 (q_off g i rv kv) i 11 (g i 11 - 1) = q_off g (i + 1) rv kv := by
  funext j s
  unfold q_u2 q_off
  by_cases e : j = i ∧ s = 11
  · obtain ⟨rfl, rfl⟩ := e
    rw [if_pos ⟨rfl, rfl⟩, if_pos ⟨by omega, rfl, h, h2⟩]
  · rw [if_neg e]
    by_cases z : j < i ∧ s = 11 ∧ g j 10 = rv ∧ ¬ g j 11 ≤ kv
    · rw [if_pos z, if_pos ⟨by omega, z.2⟩]
    · rw [if_neg z, if_neg]
      intro y
      by_cases e2 : j = i
      · exact e ⟨e2, y.2.1⟩
      · exact z ⟨by omega, y.2⟩
theorem q_off_o {g : Nat → Nat → Int32} {i : Nat} {rv kv : Int32} {j s : Nat} (h : i ≤ j ∨ s ≠ 11) : q_off g i rv kv j s = g j s := if_neg (fun q => by omega)
theorem q_aX {n m : Nat} {rv kv : Int32} {h : g_Hp} {c : q_C} {Q : g_R → g_Hp → Prop} (hN : c.1 2 = nI n) (hn : n ≤ 12) (hm : m < n) (h10 : c.2 m 10 = rv) (h11 : c.2 m 11 = kv) (K : Q (.inl (some (vI rv))) (q_cH h 0 (c.1, q_off (q_u2 c.2 m 10 (-1)) n rv kv))) : wX1_takeOffList 0 (nI m) (q_cH h 0 c) Q := by
  have hv : vp_in (nI m) 12 := q_vI (by omega) (by decide)
  have hc : (nI m).toNatClampNeg = m := nI_clamp (by omega)
  unfold wX1_takeOffList
  refine And.intro hv (nm_r hc (nm_r ((q_c2 _ _ _ _ _).trans h10) (And.intro hv (nm_r hc (nm_r ((q_c2 _ _ _ _ _).trans h11) (And.intro hv (nm_r hc (nm_r (q_cu2 _ _ _ _ _ _) ?_))))))))
  have z := q_loop (fun k i => wX1_takeOffList_b33_I 0 Q k rv kv (nI i) (q_cH h 0 (c.1, q_off (q_u2 c.2 m 10 (-1)) i rv kv))) n 0 (Nat.zero_le _) (fun k => ?_) (fun k i _ hi hk => ?_)
  · rw [q_off_0] at z
    exact z
  · show wX1_takeOffList_b33_B 0 Q _ _ _ _ _
    unfold wX1_takeOffList_b33_B
    rw [q_c1]
    show ((c.1 2 ≤ _) → _) ∧ _
    rw [hN]
    exact br_t (nI_le (Nat.le_refl _) (by omega)) K
  · show wX1_takeOffList_b33_B 0 Q _ _ _ _ _
    unfold wX1_takeOffList_b33_B
    rw [q_c1]
    show ((c.1 2 ≤ _) → _) ∧ _
    rw [hN]
    refine br_f (nI_ge hi (by omega)) (And.intro (q_vI (by omega) (by decide)) (nm_r (nI_clamp (by omega)) ?_))
    rw [q_c2, q_c2]
    dsimp only
    rw [q_off_o (Or.inl (Nat.le_refl i)), q_off_o (Or.inl (Nat.le_refl i))]
    refine ⟨fun a => ?_, fun a => ⟨fun b => ?_, fun b => ?_⟩⟩
    · rw [q_off_no (fun q => a q.1)] at hk
      exact nm_r (nI_1 i) hk
    · rw [q_off_no (fun q => q.2 b)] at hk
      exact nm_r (nI_1 i) hk
    · refine nm_r (e' := q_cH h 0 (c.1, q_off (q_u2 c.2 m 10 (-1)) (i + 1) rv kv)) ?_ (nm_r (nI_1 i) hk)
      rw [q_cu2]
      exact congrArg (fun x => q_cH h 0 (c.1, x)) (q_off_yes a b)
theorem q_mX1 {m : Int32} {n : Nat} {h : g_Hp} {w : Nat → Int32} {Q : g_R → g_Hp → Prop} (hN : w 0 = nI n) (hn : n ≤ 12) (hm : m < 0 ∨ nI n ≤ m) (K : Q (.inl (some (vI 0))) (q_mH (g_up h 5 0 0 1 1) 0 w)) : wX8_leaves m (q_mH h 0 w) Q := by
  unfold wX8_leaves
  exact q_mM0 ((q_m1 _ _ _ _).trans hN) hn hm (q_n0 rfl (q_fail K))
/-- a list without its place k0, as far as i -/
def q_lv (w : Nat → Int32) (a k0 i : Nat) : Nat → Int32 := fun e => if a + k0 ≤ e ∧ e + 1 < a + i then w (e + 1) else w e
theorem q_lv_lo {w : Nat → Int32} {a k0 i : Nat} (h : i ≤ k0 + 1) : q_lv w a k0 i = w := by
  funext e
  exact if_neg (fun q => by omega)
theorem q_lv_s {w : Nat → Int32} {a k0 i : Nat} (h : k0 < i) : upd (q_lv w a k0 i) (a + i - 1) (w (a + i)) = q_lv w a k0 (i + 1) := by
  funext e
  unfold upd q_lv
  by_cases z : e = a + i - 1
  · subst z
    rw [if_pos rfl, if_pos (by omega), show a + i - 1 + 1 = a + i by omega]
  · rw [if_neg z]
    by_cases y : a + k0 ≤ e ∧ e + 1 < a + i
    · rw [if_pos y, if_pos (by omega)]
    · rw [if_neg y, if_neg (by omega)]
theorem q_mX0 {m r k0 L : Nat} {it : Nat → Nat} {h : g_Hp} {w : Nat → Int32} {Q : g_R → g_Hp → Prop} (hm : m < 12) (hr : r < 10) (hL : L ≤ 4) (hk0 : k0 < L) (hw : w (119 + r) = nI L) (hit : ∀ k, k < L → it k < 12 ∧ w (129 + 4 * r + k) = nI (it k)) (e0 : it k0 = m) (hne : ∀ k, k < L → it k = m → k = k0)
    (K : Q (.inl (some (vI (nI r)))) (q_mH h 0 (upd (upd (q_lv w (129 + 4 * r) k0 L) (129 + 4 * r + (L - 1)) 0) (119 + r) (nI (L - 1))))) : wX8_leaves_b35 Q (nI m) (nI r) 0 0 (q_mH h 0 w) := by
  have z := q_loop (fun k i => wX8_leaves_b35_I Q k (nI m) (nI r) (nI (if i ≤ k0 then i else i - 1)) (nI i) (q_mH h 0 (q_lv w (129 + 4 * r) k0 i))) L 0 (Nat.zero_le _) (fun k => ?_) (fun k i _ hi hk => ?_)
  · rw [q_lv_lo (by omega)] at z
    exact z
  · show wX8_leaves_b35_B Q _ _ _ _ _ _
    unfold wX8_leaves_b35_B
    rw [q_i119 (by omega), q_m1]
    have e1 : q_lv w (129 + 4 * r) k0 L (119 + r) = nI L := by
      unfold q_lv
      rw [if_neg (by omega), hw]
    rw [e1, if_neg (by omega)]
    refine And.intro (q_v119 (by omega)) (br_t (nI_le (Nat.le_refl _) (by omega)) ?_)
    show vp_in (((129 : Int32) + ((4 : Int32) * nI r)) + nI (L - 1)) 169 ∧ _
    rw [q_li, nI_clamp (by omega)]
    exact And.intro (q_vI (by omega) (by decide)) (nm_r (q_mu _ _ _ _ _) (And.intro (q_v119 (by omega)) (nm_r (q_mu _ _ _ _ _) K)))
  · show wX8_leaves_b35_B Q _ _ _ _ _ _
    unfold wX8_leaves_b35_B
    rw [q_i119 (by omega), q_m1]
    have e1 : q_lv w (129 + 4 * r) k0 i (119 + r) = nI L := by
      unfold q_lv
      rw [if_neg (by omega), hw]
    have e2 : q_lv w (129 + 4 * r) k0 i (129 + 4 * r + i) = nI (it i) := by
      unfold q_lv
      rw [if_neg (by omega), (hit i hi).2]
    rw [e1]
    refine And.intro (q_v119 (by omega)) (br_f (nI_ge hi (by omega)) ?_)
    show vp_in (((129 : Int32) + ((4 : Int32) * nI r)) + nI i) 169 ∧ _
    rw [q_li, nI_clamp (by omega)]
    refine And.intro (q_vI (by omega) (by decide)) (nm_r (e' := nI (it i)) (by rw [q_m1, e2]) ⟨fun a => ?_, fun a => ?_⟩)
    · have hik : i ≠ k0 := fun q => a (by rw [q, e0])
      show vp_in (((129 : Int32) + ((4 : Int32) * nI r)) + nI _) 169 ∧ _
      rw [q_li, nI_clamp (by split <;> omega)]
      refine And.intro (q_vI (by split <;> omega) (by decide)) ?_
      by_cases y : i ≤ k0
      · rw [if_pos y]
        rw [if_pos (by omega), q_lv_lo (by omega)] at hk
        refine nm_r (e' := q_mH h 0 w) ?_ (nm_r (nI_1 i) (nm_r (nI_1 i) hk))
        rw [q_mu, q_lv_lo (by omega), q_upd_same (hit i hi).2]
      · rw [if_neg y]
        rw [if_neg (by omega), show i + 1 - 1 = i - 1 + 1 by omega] at hk
        refine nm_r (e' := q_mH h 0 (q_lv w (129 + 4 * r) k0 (i + 1))) ?_ (nm_r (nI_1 (i - 1)) (nm_r (nI_1 i) hk))
        rw [q_mu, ← q_lv_s (w := w) (a := 129 + 4 * r) (show k0 < i by omega), (hit i hi).2, show 129 + 4 * r + (i - 1) = 129 + 4 * r + i - 1 by omega]
    · have hik : i = k0 := hne i hi ((nI_eq (by have := (hit i hi).1; omega) (by omega)).mp a)
      subst hik
      rw [if_pos (Nat.le_refl _)]
      rw [if_neg (by omega), q_lv_lo (by omega), Nat.add_sub_cancel] at hk
      rw [q_lv_lo (by omega)]
      exact nm_r (nI_1 i) hk
theorem q_opX {T : Nat} {c : q_C} {w : Nat → Int32} (hR : q_R T c w) (m : Int32) : q_OP T c w (wX1_faultOfStrikingOff 0 m) (wX1_takeOffList 0 m) (wX8_leaves m) (q_ka 1 0 0 0 2) := by
  obtain ⟨n, ll, it, ⟨hS, hM, hL⟩⟩ := hR
  have ⟨s1, s2, s3, s4, s5, s6, s7, s8, s9, s10, s11, s12, s13, s14, s15, s16, s17⟩ := hS
  have ⟨l1, l2, l3⟩ := hL
  have hN : ∀ h, q_cH h 0 c 1 0 0 2 = nI n := fun h => (q_c1 _ _ _ _).trans s2
  have hg : ∀ h (m : Nat), q_cH h 0 c 2 0 m 10 = c.2 m 10 := fun h m => q_c2 _ _ _ _ _
  rcases pk_ix m (n := n) (by omega) with e | e | ⟨m, hm, rfl⟩
  · exact Or.inl ⟨1, by decide, by decide, by decide, by decide, fun h Q K => q_fX1 (hN h) (Or.inl e) K, fun h Q K => q_mX1 s3 s1 (Or.inl e) K⟩
  · exact Or.inl ⟨1, by decide, by decide, by decide, by decide, fun h Q K => q_fX1 (hN h) (Or.inr e) K, fun h Q K => q_mX1 s3 s1 (Or.inr e) K⟩
  · by_cases e : c.2 m 10 = -1
    · refine Or.inl ⟨5, by decide, by decide, by decide, by decide, fun h Q K => q_fX0 (hN h) s1 hm (fun _ => K) (fun q => absurd ((hg h m).trans e) q), fun h Q K => ?_⟩
      unfold wX8_leaves
      refine q_mM1 ((q_m1 _ _ _ _).trans s3) s1 hm (q_n1 (by decide) ((q_mLR s1 hm hL).1 e ?_))
      exact And.intro (fun q => absurd q (by decide)) (fun _ => q_fail K)
    · obtain ⟨r, k0, hr, hk0, e0⟩ := (l3 m hm).resolve_left e
      obtain ⟨a1, a2, a3⟩ := l1 r hr
      obtain ⟨-, b2, b3, b4⟩ := l2 r k0 hr hk0
      rw [e0] at b3 b4
      have hun : ∀ r' k, r' < 10 → k < ll r' → it r' k = m → r' = r ∧ k = k0 := fun r' k hr' hk q => by
        obtain ⟨-, -, d3, d4⟩ := l2 r' k hr' hk
        rw [q] at d3 d4
        have := (l1 r' hr').1
        exact ⟨(nI_eq (by omega) (by omega)).mp (d3.symm.trans b3), (nI_eq (by omega) (by omega)).mp (d4.symm.trans b4)⟩
      have hww : ∀ k, (k < 129 + 4 * r ∨ 129 + 4 * r + ll r ≤ k) → k ≠ 119 + r → upd (upd (q_lv w (129 + 4 * r) k0 (ll r)) (129 + 4 * r + (ll r - 1)) 0) (119 + r) (nI (ll r - 1)) k = w k := fun k q q2 => by
        rw [pk_un q2, pk_un (by omega)]
        exact if_neg (fun z => by omega)
      have hgo : ∀ j s, s ≠ 11 → s ≠ 10 → q_off (q_u2 c.2 m 10 (-1)) n (nI r) (nI k0) j s = c.2 j s := fun j s q q2 => by
        rw [q_off_o (Or.inr q), q_u2_o (fun z => q2 z.2)]
      have hg10 : ∀ j, j ≠ m → q_off (q_u2 c.2 m 10 (-1)) n (nI r) (nI k0) j 10 = c.2 j 10 := fun j q => by
        rw [q_off_o (Or.inr (by decide)), q_u2_o (fun z => q z.1)]
      have hg10m : q_off (q_u2 c.2 m 10 (-1)) n (nI r) (nI k0) m 10 = -1 := by
        rw [q_off_o (Or.inr (by decide)), q_u2_s]
      refine Or.inr ⟨(c.1, q_off (q_u2 c.2 m 10 (-1)) n (nI r) (nI k0)), upd (upd (q_lv w (129 + 4 * r) k0 (ll r)) (129 + 4 * r + (ll r - 1)) 0) (119 + r) (nI (ll r - 1)), nI r, ⟨n, fun x => if x = r then ll r - 1 else ll x, fun x k => if x = r ∧ k0 ≤ k then it r (k + 1) else it x k, q_RS_w (fun k hk => hww k (by omega) (by omega)) hS, q_RM_c s1 (fun k _ hk => hww k (by omega) (by omega)) (fun j s _ q1 q2 => hgo j s (by omega) (by omega)) hM, ⟨fun x hx => ?_, fun x k hx hk => ?_, fun j hj => ?_⟩⟩, fun h Q K => q_fX0 (hN h) s1 hm (fun q => absurd ((hg h m).symm.trans q) e) (fun _ => K), fun h Q K => q_aX s2 s1 hm b3 b4 K, fun h Q K => ?_⟩
      · dsimp only
        by_cases y : x = r
        · subst y
          rw [if_pos rfl]
          refine ⟨by omega, pk_us, ?_⟩
          have q := q_ct_one (p := fun j => decide (q_off (q_u2 c.2 m 10 (-1)) n (nI x) (nI k0) j 10 = nI x)) (p' := fun j => decide (c.2 j 10 = nI x)) (j := m) (by
            show decide _ = false
            rw [hg10m]
            exact decide_eq_false (fun q => q_ne1 (r := x) (by omega) q.symm)) (decide_eq_true b3) (fun j hj => by rw [hg10 j hj]) hm
          omega
        · rw [if_neg y]
          refine ⟨(l1 x hx).1, ?_, ?_⟩
          · rw [hww _ (by omega) (by omega)]
            exact (l1 x hx).2.1
          · rw [← (l1 x hx).2.2]
            refine q_ct_congr (fun j hj => ?_)
            show decide (q_off (q_u2 c.2 m 10 (-1)) n (nI r) (nI k0) j 10 = nI x) = decide (c.2 j 10 = nI x)
            by_cases z : j = m
            · subst z
              rw [hg10m, b3, decide_eq_false (fun q => q_ne1 (r := x) (by omega) q.symm), decide_eq_false (fun q => y ((nI_eq (by omega) (by omega)).mp q).symm)]
            · rw [hg10 j z]
      · dsimp only at hk ⊢
        by_cases y : x = r
        · subst y
          rw [if_pos rfl] at hk
          by_cases z : k0 ≤ k
          · rw [if_pos ⟨rfl, z⟩]
            obtain ⟨d1, d2, d3, d4⟩ := l2 x (k + 1) hx (by omega)
            have hne : it x (k + 1) ≠ m := fun q => by have := (hun x (k + 1) hx (by omega) q).2; omega
            refine ⟨d1, ?_, (hg10 _ hne).trans d3, ?_⟩
            · by_cases v : k = ll x - 1
              · omega
              · rw [pk_un (by omega), pk_un (by omega)]
                unfold q_lv
                rw [if_pos (by omega)]
                exact d2
            · unfold q_off
              have u10 : q_u2 c.2 m 10 (-1) (it x (k + 1)) 10 = nI x := (q_u2_o (fun q => hne q.1)).trans d3
              have u11 : q_u2 c.2 m 10 (-1) (it x (k + 1)) 11 = nI (k + 1) := (q_u2_o (fun q => hne q.1)).trans d4
              rw [if_pos ⟨d1, rfl, u10, by rw [u11]; exact nI_ge (by omega) (by omega)⟩, u11, nI_pred]
          · rw [if_neg (fun q => z q.2)]
            obtain ⟨d1, d2, d3, d4⟩ := l2 x k hx (by omega)
            have hne : it x k ≠ m := fun q => by have := (hun x k hx (by omega) q).2; omega
            refine ⟨d1, ?_, (hg10 _ hne).trans d3, ?_⟩
            · rw [pk_un (by omega), pk_un (by omega)]
              unfold q_lv
              rw [if_neg (by omega)]
              exact d2
            · unfold q_off
              have u11 : q_u2 c.2 m 10 (-1) (it x k) 11 = nI k := (q_u2_o (fun q => hne q.1)).trans d4
              rw [if_neg (fun q => q.2.2.2 (by rw [u11]; exact nI_le (by omega) (by omega))), u11]
        · rw [if_neg y] at hk
          rw [if_neg (fun q => y q.1)]
          have hl4 := (l1 x hx).1
          obtain ⟨d1, d2, d3, d4⟩ := l2 x k hx hk
          have hne : it x k ≠ m := fun q => y (hun x k hx hk q).1
          refine ⟨d1, ?_, (hg10 _ hne).trans d3, ?_⟩
          · rw [hww _ (by omega) (by omega)]
            exact d2
          · unfold q_off
            have u10 : q_u2 c.2 m 10 (-1) (it x k) 10 = nI x := (q_u2_o (fun q => hne q.1)).trans d3
            rw [if_neg (fun q => y ((nI_eq (by omega) (by omega)).mp (u10.symm.trans q.2.2.1))), q_u2_o (fun q => hne q.1)]
            exact d4
      · dsimp only
        by_cases y : j = m
        · subst y
          exact Or.inl hg10m
        · rcases l3 j hj with z | ⟨x, k, hx, hk, z⟩
          · exact Or.inl ((hg10 j y).trans z)
          · right
            by_cases v : x = r
            · subst v
              have hkk : k ≠ k0 := fun q => y (by rw [← z, q, e0])
              by_cases u : k < k0
              · exact ⟨x, k, hx, by rw [if_pos rfl]; omega, by rw [if_neg (fun q => by omega)]; exact z⟩
              · exact ⟨x, k - 1, hx, by rw [if_pos rfl]; omega, by rw [if_pos ⟨rfl, by omega⟩, show k - 1 + 1 = k by omega]; exact z⟩
            · exact ⟨x, k, hx, by rw [if_neg v]; exact hk, by rw [if_neg (fun q => v q.1)]; exact z⟩
      · unfold wX8_leaves
        refine q_mM1 ((q_m1 _ _ _ _).trans s3) s1 hm (q_n1 (by decide) ((q_mLR s1 hm hL).2 r b3 hr ?_))
        refine And.intro (fun _ => ?_) (fun q => absurd (nI_pos' (by omega)) q)
        exact q_mX0 (it := it r) (by omega) hr a1 hk0 a2 (fun k hk => ⟨by have := (l2 r k hr hk).1; omega, (l2 r k hr hk).2.1⟩) e0 (fun k hk q => (hun r k hr hk q).2) K
