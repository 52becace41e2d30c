/-! passShifts -/
def q_GS (n : Nat) (ll : Nat → Nat) (r : Nat) (s : (Nat → Nat → Nat) × (Nat → Nat → Int32) × (Nat → Int32)) : (Nat → Nat → Nat) × (Nat → Nat → Int32) × (Nat → Int32) := (q_rta r (ll r) s.1, q_pg n r (ll r) s.2.1, q_gw s.2.2 r (ll r) (s.1 r))
theorem q_rG {T n : Nat} {st sh : Int32} {ll : Nat → Nat} {it : Nat → Nat → Nat} {f : Nat → Int32} {g : Nat → Nat → Int32} {W : Nat → Int32} (hB : q_RB T st sh n ll it (f, g) W) : ∀ i, i ≤ 10 → q_RB T st sh n ll (q_lp (q_GS n ll) i (it, g, W)).1 (f, (q_lp (q_GS n ll) i (it, g, W)).2.1) (q_lp (q_GS n ll) i (it, g, W)).2.2 := by
  intro i
  induction i with
  | zero => exact fun _ => hB
  | succ i ih => exact fun hi => q_rG1 (by omega) (ih (by omega))
theorem q_rGi {n : Nat} {ll : Nat → Nat} {it : Nat → Nat → Nat} {g : Nat → Nat → Int32} {W : Nat → Int32} : ∀ i, i ≤ 10 → (∀ x, i ≤ x → (q_lp (q_GS n ll) i (it, g, W)).1 x = it x) ∧ (∀ j, (q_lp (q_GS n ll) i (it, g, W)).2.1 j 10 = g j 10) ∧ (∀ j, n ≤ j → (q_lp (q_GS n ll) i (it, g, W)).2.1 j = g j) ∧ (∀ j, g j 10 = -1 → (q_lp (q_GS n ll) i (it, g, W)).2.1 j = g j) ∧
    (∀ j x, j < n → x < 10 → g j 10 = nI x → (q_lp (q_GS n ll) i (it, g, W)).2.1 j = if x < i then q_pkr (ll x) (g j) else g j) := by
  intro i
  induction i with
  | zero => exact fun _ => ⟨fun _ _ => rfl, fun _ => rfl, fun _ _ => rfl, fun _ _ => rfl, fun j x _ _ _ => (if_neg (Nat.not_lt_zero x)).symm⟩
  | succ i ih =>
    intro hi
    obtain ⟨h1, h2, h3, h4, h5⟩ := ih (by omega)
    rw [q_lp_s]
    generalize q_lp (q_GS n ll) i (it, g, W) = s at h1 h2 h3 h4 h5
    refine ⟨fun x hx => ?_, fun j => ?_, fun j hj => ?_, fun j e => ?_, fun j x hj hx e => ?_⟩
    · show q_rta i (ll i) s.1 x = it x
      unfold q_rta
      rw [if_neg (by omega)]
      exact h1 x (by omega)
    · show q_pg n i (ll i) s.2.1 j 10 = g j 10
      unfold q_pg
      split
      · rw [q_pkr_o (by decide) (by decide), h2]
      · exact h2 j
    · show q_pg n i (ll i) s.2.1 j = g j
      unfold q_pg
      rw [if_neg (by omega)]
      exact h3 j hj
    · show q_pg n i (ll i) s.2.1 j = g j
      unfold q_pg
      rw [h2, e, if_neg (fun q => q_ne1 (r := i) (by omega) q.2.symm)]
      exact h4 j e
    · show q_pg n i (ll i) s.2.1 j = _
      unfold q_pg
      rw [h2, e]
      by_cases y : x = i
      · subst y
        rw [if_pos ⟨hj, rfl⟩, if_pos (by omega), h5 j x hj hx e, if_neg (Nat.lt_irrefl x)]
      · rw [if_neg (fun q => y ((nI_eq (by omega) (by omega)).mp q.2)), h5 j x hj hx e]
        by_cases z : x < i
        · rw [if_pos z, if_pos (by omega)]
        · rw [if_neg z, if_neg (by omega)]
theorem q_rGc {T n : Nat} {st sh : Int32} {ll : Nat → Nat} {it : Nat → Nat → Nat} {f : Nat → Int32} {g : Nat → Nat → Int32} {W : Nat → Int32} (hB : q_RB T st sh n ll it (f, g) W) : (q_lp (q_GS n ll) 10 (it, g, W)).2.1 = q_rows g n (q_pk n g) := by
  obtain ⟨-, h2, h3, h4, h5⟩ := q_rGi (n := n) (ll := ll) (it := it) (g := g) (W := W) 10 (Nat.le_refl 10)
  obtain ⟨-, -, ⟨l1, l2, l3⟩⟩ := hB
  funext j
  by_cases hj : j < n
  · rw [q_rows_lt hj]
    rcases l3 j hj with z | ⟨x, k, hx, hk, z⟩
    · rw [h4 j z]
      exact (if_pos z).symm
    · have e : g j 10 = nI x := by rw [← z]; exact (l2 x k hx hk).2.2.1
      rw [h5 j x hj hx e, if_pos hx]
      unfold q_pk
      rw [if_neg (by rw [e]; exact q_ne1 (by omega)), e]
      exact congrArg (fun L => q_pkr L (g j)) (l1 x hx).2.2.symm
  · rw [h3 j (by omega), q_rows_ge (by omega)]
theorem q_mSG {T n : Nat} {st sh : Int32} {ll : Nat → Nat} {it : Nat → Nat → Nat} {f : Nat → Int32} {g : Nat → Nat → Int32} {W : Nat → Int32} {h : g_Hp} {Q : g_R → g_Hp → Prop} (hit : ∀ x y, it x y < 12) (hB : q_RB T st sh n ll it (f, g) W) (K : Q (.inl none) (q_mH h 0 (q_lp (q_GS n ll) 10 (it, g, W)).2.2)) : wX8_strikes_b82 Q (0 : Int32) (q_mH h 0 W) := by
  have hit' : ∀ i, i ≤ 10 → ∀ x y, (q_lp (q_GS n ll) i (it, g, W)).1 x y < 12 := by
    intro i
    induction i with
    | zero => exact fun _ => hit
    | succ i ih =>
      intro hi x y
      have := ih (by omega)
      show q_rta i (ll i) (q_lp (q_GS n ll) i (it, g, W)).1 x y < 12
      unfold q_rta q_rot
      split
      · dsimp only
        split <;> exact this _ _
      · exact this _ _
  refine q_loop (fun k i => wX8_strikes_b82_I Q k (nI i) (q_mH h 0 (q_lp (q_GS n ll) i (it, g, W)).2.2)) 10 0 (Nat.zero_le _) (fun k => ?_) (fun k i _ hi hk => ?_)
  · show wX8_strikes_b82_B Q _ _ _
    unfold wX8_strikes_b82_B
    exact br_t (nI_le (a := 10) (Nat.le_refl _) (by decide)) K
  · show wX8_strikes_b82_B Q _ _ _
    unfold wX8_strikes_b82_B
    refine br_f (nI_ge (b := 10) hi (by decide)) ?_
    have hBi := q_rG hB i (by omega)
    obtain ⟨hS, -, ⟨l1, l2, l3⟩⟩ := hBi
    have s1 : n ≤ 12 := hS.1
    obtain ⟨a1, a2, a3⟩ := l1 i hi
    refine q_mGd hi a1 a2 (fun p hp => ⟨hit' i (by omega) i p, (l2 i p hi hp).2.1⟩) (fun hL q => ?_) (fun _ => hit' i (by omega) i 1) (fun _ => hit' i (by omega) i 0) (nm_r (nI_1 i) hk)
    have c4 := (l2 i 0 hi (by omega)).2.2.2
    have d4 := (l2 i 1 hi (by omega)).2.2.2
    rw [q] at c4
    have := (nI_eq (by decide) (by decide)).mp (c4.symm.trans d4)
    omega
/-- lists whose places behind the end are small too -/
theorem q_RB_it {T n : Nat} {st sh : Int32} {ll : Nat → Nat} {it : Nat → Nat → Nat} {c : q_C} {w : Nat → Int32} (hB : q_RB T st sh n ll it c w) : ∃ it', (∀ x y, it' x y < 12) ∧ q_RB T st sh n ll it' c w := by
  obtain ⟨hS, hM, ⟨l1, l2, l3⟩⟩ := hB
  have s1 : n ≤ 12 := hS.1
  refine ⟨fun x y => if it x y < 12 then it x y else 0, fun x y => by dsimp only; split <;> omega, hS, hM, l1, fun r k hr hk => ?_, fun m hm => ?_⟩
  · have := l2 r k hr hk
    dsimp only
    rw [if_pos (by omega)]
    exact this
  · rcases l3 m hm with z | ⟨x, k, hx, hk, z⟩
    · exact Or.inl z
    · exact Or.inr ⟨x, k, hx, hk, by dsimp only; rw [if_pos (by omega)]; exact z⟩
/-- one shift -/
theorem q_ps1 {T n : Nat} {st sh : Int32} {ll : Nat → Nat} {it : Nat → Nat → Nat} {c : q_C} {w : Nat → Int32} (hT : 99 * (T + 1) < 2 ^ 31) (hB : q_RB T st sh n ll it c w) : ∃ (c' : q_C) (w' : Nat → Int32) (st' : Int32) (it' : Nat → Nat → Nat), q_RB (T + 1) st' (sh + 1) n ll it' c' w' ∧ c'.1 6 = c.1 6 ∧
    (∀ h (Q : g_R → g_Hp → Prop) (R : Int32 → Int32 → Int32 → g_Hp → Prop) x1 x3, ¬ x1 ≤ x3 → R x1 st' (x3 + 1) (q_cH h 0 c') → wX1_pass_b4_B 0 Q R x1 st x3 (q_cH h 0 c)) ∧
    (∀ h (Q : g_R → g_Hp → Prop) (R : Int32 → Int32 → Int32 → g_Hp → Prop) x1 x2 x3, ¬ x1 ≤ x3 → R x1 x2 (x3 + 1) (q_mH h 0 w') → wX8_passes_b26_B Q R x1 x2 x3 (q_mH h 0 w)) := by
  obtain ⟨it, hit, hB⟩ := q_RB_it hB
  have ⟨⟨s1, s2, s3, s4, s5, s6, s7, s8, s9, s10, s11, s12, ⟨F, hF, s13⟩, s14, s15, ⟨d, hd, s16⟩, s17⟩, ⟨m1, m2, m3⟩, hL⟩ := hB
  rcases s9 with e | e
  · have hb : ∀ j, j < n → (c.2 j 3).toNatClampNeg < 8 ∧ c.2 j 3 = nI (c.2 j 3).toNatClampNeg := fun j hj => by
      obtain ⟨x, hx, g3⟩ := (m3 j hj).2.2.1
      rw [g3, nI_clamp (by omega)]
      exact ⟨hx, rfl⟩
    refine ⟨_, _, _, it, q_rK hT hd s16 hb hB, rfl, fun h Q R x1 x3 hx K => ?_, fun h Q R x1 x2 x3 hx K => ?_⟩
    · unfold wX1_pass_b4_B
      refine br_f hx (br_t ((q_c1 _ _ _ _).trans (s8.trans e)) ?_)
      exact q_aK s2 s1 hd (s4.trans s16) hb (nm_e (nm_e K))
    · unfold wX8_passes_b26_B
      refine br_f hx ?_
      rw [q_k3, q_m1]
      refine nm_r (q_mu _ _ _ _ _) ?_
      have e4 : q_mH h 0 (upd w 3 (w 3 + 1)) 13 0 0 ((4 : Int32).toNatClampNeg + 1) = w 4 := by rw [q_k4, q_m1, pk_un (by decide)]
      rw [e4]
      refine q_n1 (by rw [e]; decide) ?_
      refine q_mK (n := n) (d := d) (b := fun j => (c.2 j 3).toNatClampNeg) ((pk_un (by decide)).trans s3) s1 hd ((pk_un (by decide)).trans s16) (fun j hj => ⟨(hb j hj).1, ?_⟩) (nm_e K)
      have := (hb j hj).2
      rw [pk_un (by omega), ← this, m1 j 3 hj (by decide) (by decide)]
  · have hB2 := q_rSB hT s13 hF hB
    have hB3 := q_rG hB2 10 (Nat.le_refl 10)
    rw [q_rGc hB2] at hB3
    refine ⟨_, _, _, _, hB3, by show q_fB c.1 n F 6 = _; unfold q_fB; rw [pk_un (by decide), pk_un (by decide)], fun h Q R x1 x3 hx K => ?_, fun h Q R x1 x2 x3 hx K => ?_⟩
    · unfold wX1_pass_b4_B
      refine br_f hx (br_f (by rw [q_c1, s8, e]; decide) ?_)
      exact q_aL s2 s1 (s12.trans s13) hF (nm_e K)
    · unfold wX8_passes_b26_B
      refine br_f hx ?_
      rw [q_k3, q_m1]
      refine nm_r (q_mu _ _ _ _ _) ?_
      have e4 : q_mH h 0 (upd w 3 (w 3 + 1)) 13 0 0 ((4 : Int32).toNatClampNeg + 1) = w 4 := by rw [q_k4, q_m1, pk_un (by decide)]
      rw [e4]
      refine q_n0 e ?_
      unfold wX8_strikes
      rw [q_k6, q_m1, pk_un (by decide)]
      refine nm_r (q_mu _ _ _ _ _) ?_
      refine q_mS3 (n := n) (F := F) ?_ s1 ?_ hF (q_mSG hit hB2 (nm_e K))
      · rw [pk_un (by decide), pk_un (by decide), s3]
      · rw [pk_un (by decide), pk_un (by decide), s13]
theorem q_psL {n k : Nat} {ll : Nat → Nat} (hk : k < 2 ^ 31) : ∀ (d T i : Nat) (st : Int32) (it : Nat → Nat → Nat) (c : q_C) (w : Nat → Int32), i + d = k → 99 * (T + d) < 2 ^ 31 → q_RB T st (nI i) n ll it c w → ∃ (c' : q_C) (w' : Nat → Int32) (st' : Int32) (it' : Nat → Nat → Nat), q_RB (T + d) st' (nI k) n ll it' c' w' ∧ c'.1 6 = c.1 6 ∧
    (∀ h (Q : g_R → g_Hp → Prop), Q (.inl (some (vI st'))) (q_cH h 0 (upd (upd c'.1 5 (c'.1 5 + nI k)) 6 (c'.1 6 + st'), c'.2)) → wX1_pass_b4_I 0 Q (d + 1) (nI k) st (nI i) (q_cH h 0 c)) ∧
    (∀ h (Q : g_R → g_Hp → Prop) had, Q (.inl (some (vI (w' 9 - had)))) (q_mH h 0 w') → wX8_passes_b26_I Q (d + 1) (nI k) had (nI i) (q_mH h 0 w)) := by
  intro d
  induction d with
  | zero =>
    intro T i st it c w hi _ hB
    have : i = k := by omega
    subst this
    refine ⟨c, w, st, it, hB, rfl, fun h Q K => ?_, fun h Q had K => ?_⟩
    · show wX1_pass_b4_B 0 Q _ _ _ _ _
      unfold wX1_pass_b4_B
      rw [q_c1]
      refine br_t (nI_le (Nat.le_refl _) hk) (nm_r (q_cu1 _ _ _ _ _) (nm_r ?_ K))
      rw [q_c1, q_cu1]
      rfl
    · show wX8_passes_b26_B Q _ _ _ _ _
      unfold wX8_passes_b26_B
      refine br_t (nI_le (Nat.le_refl _) hk) ?_
      rw [q_k9, q_m1]
      exact K
  | succ d ih =>
    intro T i st it c w hi hT hB
    obtain ⟨c1, w1, st1, it1, hB1, e1, k1, k2⟩ := q_ps1 (by omega) hB
    rw [nI_1] at hB1
    obtain ⟨c2, w2, st2, it2, hB2, e2, j1, j2⟩ := ih (T + 1) (i + 1) st1 it1 c1 w1 (by omega) (by omega) hB1
    rw [show T + 1 + d = T + (d + 1) by omega] at hB2
    refine ⟨c2, w2, st2, it2, hB2, e2.trans e1, fun h Q K => ?_, fun h Q had K => ?_⟩
    · show wX1_pass_b4_B 0 Q _ _ _ _ _
      refine k1 h Q _ _ _ (nI_ge (by omega) (by omega)) ?_
      rw [nI_1]
      exact j1 h Q K
    · show wX8_passes_b26_B Q _ _ _ _ _
      refine k2 h Q _ _ _ _ (nI_ge (by omega) (by omega)) ?_
      rw [nI_1]
      exact j2 h Q had K
theorem q_fH1 {p : Int32} {H : g_Hp} {Q : g_R → g_Hp → Prop} (hp : p < nI 1 ∨ nI 30 < p) (K : Q (.inl (some (vR 20 2 0))) H) : wX1_faultOfPassing 0 p H Q := by
  unfold wX1_faultOfPassing
  rcases hp with c | c
  · exact br_t c K
  · exact ⟨fun _ => K, fun _ => br_f (q_nle c) K⟩
theorem q_opH {T : Nat} {c : q_C} {w : Nat → Int32} (hT : 99 * (T + 30) < 2 ^ 31) (hR : q_R T c w) (p : Int32) : q_OP (T + 30) c w (wX1_faultOfPassing 0 p) (wX1_pass 0 p) (wX8_passes p) (q_ka 0 1 0 0 0) := by
  rcases q_rg p 1 30 (by decide) (by decide) with e | e | ⟨k, h1, h2, rfl⟩
  · refine Or.inl ⟨2, by decide, by decide, by decide, by decide, fun h Q K => q_fH1 (Or.inl e) K, fun h Q K => ?_⟩
    unfold wX8_passes
    exact q_isI0 (Or.inl e) (q_n0 rfl (q_fail K))
  · refine Or.inl ⟨2, by decide, by decide, by decide, by decide, fun h Q K => q_fH1 (Or.inr e) K, fun h Q K => ?_⟩
    unfold wX8_passes
    exact q_isI0 (Or.inr e) (q_n0 rfl (q_fail K))
  · obtain ⟨n, ll, it, hB⟩ := hR
    obtain ⟨c', w', st, it', hB', e6, k1, k2⟩ := q_psL (k := k) (by omega) k T 0 0 it c w (by omega) (by omega) hB
    have h9 : w 9 = c.1 6 := by
      have := hB.1.2.2.2.2.2.2.1
      rw [Int32.add_zero] at this
      exact this
    obtain ⟨⟨s1, s2, s3, s4, s5, s6, s7, s8, s9, s10, s11, s12, s13, s14, s15, s16, s17⟩, hM, hL⟩ := hB'
    refine Or.inr ⟨(upd (upd c'.1 5 (c'.1 5 + nI k)) 6 (c'.1 6 + st), c'.2), w', st, q_R_mono (show T + k ≤ T + 30 by omega) ⟨n, ll, it', ?_, hM, hL⟩, fun h Q K => ?_, fun h Q K => ⟨k + 1, k1 h Q K⟩, fun h Q K => ?_⟩
    · exact ⟨s1, s2, s3, s4, s5, s6.trans (Int32.add_zero _).symm, s7.trans (Int32.add_zero _).symm, s8, s9, s10, s11, s12, s13, s14, s15, s16, s17⟩
    · unfold wX1_faultOfPassing
      exact br_f (nI_nlt (b := 1) h1 (by omega)) (br_t (nI_le (b := 30) h2 (by decide)) K)
    · unfold wX8_passes
      refine q_isIn (lo := 1) (hi := 30) rfl rfl h1 h2 (by decide) (q_n1 (by decide) (nm_r (q_m1 _ _ _ _) ⟨k + 1, k2 h Q _ ?_⟩))
      rw [show (9 : Int32).toNatClampNeg = 9 from q_k9, s7, e6, h9, Int32.add_comm, Int32.add_sub_cancel]
      exact K
