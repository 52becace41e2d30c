/-! a shift in a strike: alike -/
theorem q_rSB {T n F : Nat} {st sh : Int32} {ll : Nat → Nat} {it : Nat → Nat → Nat} {c : q_C} {w : Nat → Int32} (hT : 99 * (T + 1) < 2 ^ 31) (hF : w 7 = nI F) (hF2 : F ≤ 9999) (hB : q_RB T st sh n ll it c w) : q_RB (T + 1) st (sh + 1) n ll it (q_fB c.1 n F, q_gB c.2 n F) (q_wl (upd (upd w 3 (w 3 + 1)) 6 (w 6 + 1)) n F) := by
  obtain ⟨⟨s1, s2, s3, s4, s5, s6, s7, s8, s9, s10, s11, s12, s13, s14, s15, s16, s17⟩, ⟨m1, m2, m3⟩, hL⟩ := hB
  have hu : ∀ k, k ≠ 3 → k ≠ 6 → upd (upd w 3 (w 3 + 1)) 6 (w 6 + 1) k = w k := fun k a b => by rw [pk_un b, pk_un a]
  have hW : ∀ k, k ≠ 3 → k ≠ 6 → k ≠ 7 → (k < 71 ∨ 71 + n ≤ k) → (k < 59 ∨ 59 + n ≤ k) → q_wl (upd (upd w 3 (w 3 + 1)) 6 (w 6 + 1)) n F k = w k := fun k a b d e f => by rw [q_wl_o d e f, hu k a b]
  have hf : ∀ k, k ≠ 8 → k ≠ 10 → q_fB c.1 n F k = c.1 k := fun k a b => by
    unfold q_fB
    rw [pk_un b, pk_un a]
  have hg : ∀ m s, s ≠ 5 → s ≠ 6 → q_gB c.2 n F m s = c.2 m s := fun m s a b => by
    unfold q_gB q_gA
    rw [q_col_o a, q_col_o b]
  have hg6 : ∀ m, m < n → q_gB c.2 n F m 6 = c.2 m 6 + 1 := fun m hm => by
    unfold q_gB q_gA
    rw [q_col_o (by decide), q_col_in hm]
  have hg5 : ∀ m, m < n → q_gB c.2 n F m 5 = if m < F / 2 then c.2 m 5 + 2 else c.2 m 5 := fun m hm => by
    unfold q_gB
    rw [q_col_in hm]
    unfold q_sup q_gA
    rw [q_col_o (by decide)]
  refine ⟨?_, ⟨fun m s a b d => ?_, fun m s a b d e => ?_, fun m hm => ?_⟩, q_RL_w (fun k hk => hW k (by omega) (by omega) (by omega) (by omega) (by omega)) (q_RL_g (g' := q_gB c.2 n F) (fun m hm => ⟨hg m 10 (by decide) (by decide), hg m 11 (by decide) (by decide)⟩) hL)⟩
  · show q_RS _ _ n (q_fB c.1 n F) _
    unfold q_RS
    have e3 : q_wl (upd (upd w 3 (w 3 + 1)) 6 (w 6 + 1)) n F 3 = w 3 + 1 := by rw [q_wl_o (by decide) (by omega) (by omega), pk_un (by decide), pk_us]
    have e6 : q_wl (upd (upd w 3 (w 3 + 1)) 6 (w 6 + 1)) n F 6 = w 6 + 1 := by rw [q_wl_o (by decide) (by omega) (by omega), pk_us]
    have e7 : q_wl (upd (upd w 3 (w 3 + 1)) 6 (w 6 + 1)) n F 7 = nI (F - 2 * min n (F / 2)) := if_pos rfl
    have f8 : q_fB c.1 n F 8 = c.1 8 + 1 := by
      unfold q_fB
      rw [pk_un (by decide), pk_us]
    have f10 : q_fB c.1 n F 10 = nI (F - 2 * min n (F / 2)) := pk_us
    rw [e3, e6, e7, f8, f10, hf 2 (by decide) (by decide), hf 3 (by decide) (by decide), hf 4 (by decide) (by decide), hf 5 (by decide) (by decide), hf 6 (by decide) (by decide), hf 7 (by decide) (by decide), hf 9 (by decide) (by decide), hf 11 (by decide) (by decide), hf 12 (by decide) (by decide), hW 0 (by omega) (by omega) (by omega) (by omega) (by omega), hW 1 (by omega) (by omega) (by omega) (by omega) (by omega), hW 2 (by omega) (by omega) (by omega) (by omega) (by omega), hW 4 (by omega) (by omega) (by omega) (by omega) (by omega), hW 5 (by omega) (by omega) (by omega) (by omega) (by omega), hW 8 (by omega) (by omega) (by omega) (by omega) (by omega), hW 9 (by omega) (by omega) (by omega) (by omega) (by omega), hW 10 (by omega) (by omega) (by omega) (by omega) (by omega)]
    exact ⟨s1, s2, s3, s4, s5, by rw [s6, Int32.add_assoc], s7, s8, s9, fun z => congrArg (· + 1) (s10 z), s11, rfl, ⟨F - 2 * min n (F / 2), by omega, rfl⟩, s14, s15, s16, s17⟩
  · show q_gB c.2 n F m s = _
    by_cases y5 : s = 5
    · subst y5
      rw [hg5 m a]
      unfold q_wl
      rw [if_neg (show ¬ 12 * 5 - 1 + m = 7 by omega), if_neg (show ¬ (71 ≤ 12 * 5 - 1 + m ∧ 12 * 5 - 1 + m < 71 + n) by omega), hu _ (by omega) (by omega)]
      by_cases z : m < F / 2
      · rw [if_pos z, if_pos (show 59 ≤ 12 * 5 - 1 + m ∧ 12 * 5 - 1 + m < 59 + n ∧ 12 * 5 - 1 + m - 59 < F / 2 by omega), m1 m 5 a (by decide) (by decide)]
      · rw [if_neg z, if_neg (show ¬ (59 ≤ 12 * 5 - 1 + m ∧ 12 * 5 - 1 + m < 59 + n ∧ 12 * 5 - 1 + m - 59 < F / 2) by omega), m1 m 5 a (by decide) (by decide)]
    · by_cases y6 : s = 6
      · subst y6
        rw [hg6 m a]
        unfold q_wl
        rw [if_neg (show ¬ 12 * 6 - 1 + m = 7 by omega), if_pos (show 71 ≤ 12 * 6 - 1 + m ∧ 12 * 6 - 1 + m < 71 + n by omega), hu _ (by omega) (by omega), m1 m 6 a (by decide) (by decide)]
      · rw [hg m s y5 y6, hW _ (by omega) (by omega) (by omega) (by omega) (by omega)]
        exact m1 m s a b d
  · rw [hW _ (by omega) (by omega) (by omega) (by omega) (by omega)]
    exact m2 m s a b d e
  · show q_RG (T + 1) (q_gB c.2 n F m)
    obtain ⟨g1, g2, g3, ⟨x4, hx4, g4⟩, ⟨x5, hx5, g5⟩, ⟨x6, hx6, g6⟩, g7, g8⟩ := m3 m hm
    unfold q_RG
    rw [hg m 1 (by decide) (by decide), hg m 2 (by decide) (by decide), hg m 3 (by decide) (by decide), hg m 4 (by decide) (by decide), hg5 m hm, hg6 m hm, hg m 8 (by decide) (by decide), hg m 9 (by decide) (by decide)]
    refine ⟨g1, g2, g3, ⟨x4, by omega, g4⟩, ?_, ⟨x6 + 1, by omega, by rw [g6, nI_1]⟩, g7, g8⟩
    split
    · exact ⟨x5 + 2, by omega, by rw [g5]; exact nI_add x5 2⟩
    · exact ⟨x5, by omega, g5⟩
/-- a roof's list turned -/
def q_rot (L : Nat) (t : Nat → Nat) : Nat → Nat := fun p => if p + min L 2 < L then t (p + min L 2) else t (p + min L 2 - L)
def q_rta (r L : Nat) (it : Nat → Nat → Nat) : Nat → Nat → Nat := fun x => if x = r then q_rot L (it r) else it x
def q_pg (n r L : Nat) (g : Nat → Nat → Int32) : Nat → Nat → Int32 := fun j => if j < n ∧ g j 10 = nI r then q_pkr L (g j) else g j
theorem q_rG1 {T n r : Nat} {st sh : Int32} {ll : Nat → Nat} {it : Nat → Nat → Nat} {f : Nat → Int32} {g : Nat → Nat → Int32} {W : Nat → Int32} (hr : r < 10) (hB : q_RB T st sh n ll it (f, g) W) : q_RB T st sh n ll (q_rta r (ll r) it) (f, q_pg n r (ll r) g) (q_gw W r (ll r) (it r)) := by
  obtain ⟨hS, ⟨m1, m2, m3⟩, ⟨l1, l2, l3⟩⟩ := hB
  have s1 : n ≤ 12 := hS.1
  obtain ⟨a1, a2, a3⟩ := l1 r hr
  have hL4 := a1
  have i0 : ∀ p, p < ll r → it r p < n := fun p hp => (l2 r p hr hp).1
  have inj : ∀ x p y q, x < 10 → y < 10 → p < ll x → q < ll y → it x p = it y q → x = y ∧ p = q := fun x p y q hx hy hp hq e => by
    obtain ⟨-, -, c3, c4⟩ := l2 x p hx hp
    obtain ⟨-, -, d3, d4⟩ := l2 y q hy hq
    rw [e] at c3 c4
    have := (l1 x hx).1
    have := (l1 y hy).1
    exact ⟨(nI_eq (by omega) (by omega)).mp (c3.symm.trans d3), (nI_eq (by omega) (by omega)).mp (c4.symm.trans d4)⟩
  have own : ∀ j, j < n → g j 10 = nI r → ∃ k, k < ll r ∧ it r k = j ∧ g j 11 = nI k := fun j hj e => by
    rcases l3 j hj with z | ⟨x, k, hx, hk, z⟩
    · exact absurd (e.symm.trans z) (q_ne1 (by omega))
    · obtain ⟨-, -, c3, c4⟩ := l2 x k hx hk
      rw [z] at c3 c4
      have : x = r := (nI_eq (by omega) (by omega)).mp (c3.symm.trans e)
      subst this
      exact ⟨k, hk, z, c4⟩
  have g10 : ∀ j, q_pg n r (ll r) g j 10 = g j 10 := fun j => by
    unfold q_pg
    split
    · exact q_pkr_o (by decide) (by decide)
    · rfl
  have go : ∀ j s, s ≠ 7 → s ≠ 11 → q_pg n r (ll r) g j s = g j s := fun j s a b => by
    unfold q_pg
    split
    · exact q_pkr_o a b
    · rfl
  -- the model's row, outside the list and the duties
  have wo : ∀ e, e < 83 ∨ (95 ≤ e ∧ (e < 129 + 4 * r ∨ 129 + 4 * r + ll r ≤ e)) → q_gw W r (ll r) (it r) e = W e := fun e he => by
    unfold q_gw q_gk
    rw [if_neg (by omega)]
    have : ¬ ((e = 83 + it r 0 ∧ 1 ≤ min (ll r) 2) ∨ (e = 83 + it r 1 ∧ 2 ≤ min (ll r) 2)) := by
      rintro (⟨q1, q2⟩ | ⟨q1, q2⟩)
      · have := i0 0 (by omega)
        omega
      · have := i0 1 (by omega)
        omega
    rw [if_neg this]
  have wd : ∀ m, m < 12 → q_gw W r (ll r) (it r) (83 + m) = if (m = it r 0 ∧ 1 ≤ min (ll r) 2) ∨ (m = it r 1 ∧ 2 ≤ min (ll r) 2) then W (83 + m) + 1 else W (83 + m) := fun m hm => by
    unfold q_gw q_gk
    rw [if_neg (by omega)]
    by_cases y : (m = it r 0 ∧ 1 ≤ min (ll r) 2) ∨ (m = it r 1 ∧ 2 ≤ min (ll r) 2)
    · rw [if_pos y, if_pos (by omega)]
    · rw [if_neg y, if_neg (by omega)]
  have hq7 : ∀ m, m < n → q_pg n r (ll r) g m 7 = if (m = it r 0 ∧ 1 ≤ min (ll r) 2) ∨ (m = it r 1 ∧ 2 ≤ min (ll r) 2) then g m 7 + 1 else g m 7 := fun m hm => by
    unfold q_pg
    by_cases e : g m 10 = nI r
    · obtain ⟨k, hk, ek, e11⟩ := own m hm e
      rw [if_pos ⟨hm, e⟩]
      unfold q_pkr
      rw [e11]
      by_cases z : min (ll r) 2 ≤ k
      · rw [if_pos (nI_le z (by omega)), pk_un (by decide), if_neg]
        rintro (⟨q1, q2⟩ | ⟨q1, q2⟩)
        · have := (inj r k r 0 hr hr hk (by omega) (ek.trans q1)).2
          omega
        · have := (inj r k r 1 hr hr hk (by omega) (ek.trans q1)).2
          omega
      · rw [if_neg (nI_ge (by omega) (by omega)), pk_un (by decide), pk_us, if_pos]
        by_cases k0 : k = 0
        · subst k0
          exact Or.inl ⟨ek.symm, by omega⟩
        · have k1 : k = 1 := by omega
          subst k1
          exact Or.inr ⟨ek.symm, by omega⟩
    · rw [if_neg (fun q => e q.2), if_neg]
      rintro (⟨q1, q2⟩ | ⟨q1, q2⟩)
      · exact e (by rw [q1]; exact (l2 r 0 hr (by omega)).2.2.1)
      · exact e (by rw [q1]; exact (l2 r 1 hr (by omega)).2.2.1)
  -- a member's new place
  have np : ∀ k, k < ll r → q_pg n r (ll r) g (it r k) 11 = nI (if min (ll r) 2 ≤ k then k - min (ll r) 2 else k + (ll r - min (ll r) 2)) := fun k hk => by
    obtain ⟨c1, -, c3, c4⟩ := l2 r k hr hk
    unfold q_pg
    rw [if_pos ⟨c1, c3⟩]
    unfold q_pkr
    dsimp only at c4
    rw [c4]
    by_cases z : min (ll r) 2 ≤ k
    · rw [if_pos (nI_le z (by omega)), pk_us, if_pos z, pk_sub z]
    · rw [if_neg (nI_ge (by omega) (by omega)), pk_us, if_neg z, pk_sub (by omega), nI_add]
  refine ⟨q_RS_w (fun k hk => wo k (by omega)) hS, ⟨fun m s a b d => ?_, fun m s a b d e => ?_, fun m hm => ?_⟩, ⟨fun x hx => ?_, fun x p hx hp => ?_, fun j hj => ?_⟩⟩
  · show q_pg n r (ll r) g m s = _
    by_cases y : s = 7
    · subst y
      rw [hq7 m a, show 12 * 7 - 1 + m = 83 + m by omega, wd m (by omega)]
      have := m1 m 7 a (by decide) (by decide)
      rw [show 12 * 7 - 1 + m = 83 + m by omega] at this
      rw [← this]
    · rw [go m s y (by omega), wo _ (by omega)]
      exact m1 m s a b d
  · by_cases y : s = 7
    · subst y
      rw [show 12 * 7 - 1 + m = 83 + m by omega, wd m b, if_neg]
      · have := m2 m 7 a b d e
        rw [show 12 * 7 - 1 + m = 83 + m by omega] at this
        exact this
      · rintro (⟨q1, q2⟩ | ⟨q1, q2⟩)
        · have := i0 0 (by omega)
          omega
        · have := i0 1 (by omega)
          omega
    · rw [wo _ (by omega)]
      exact m2 m s a b d e
  · show q_RG T (q_pg n r (ll r) g m)
    have hm' := m3 m hm
    unfold q_RG at hm' ⊢
    rw [go m 1 (by decide) (by decide), go m 2 (by decide) (by decide), go m 3 (by decide) (by decide), go m 4 (by decide) (by decide), go m 5 (by decide) (by decide), go m 6 (by decide) (by decide), go m 8 (by decide) (by decide), go m 9 (by decide) (by decide)]
    exact hm'
  · obtain ⟨b1, b2, b3⟩ := l1 x hx
    refine ⟨b1, by rw [wo _ (by omega)]; exact b2, ?_⟩
    rw [← b3]
    exact q_ct_congr (fun m hm => by
      show decide (q_pg n r (ll r) g m 10 = nI x) = decide (g m 10 = nI x)
      rw [g10])
  · by_cases y : x = r
    · subst y
      show q_rta x (ll x) it x p < n ∧ _ = nI (q_rta x (ll x) it x p) ∧ q_pg n x (ll x) g (q_rta x (ll x) it x p) 10 = _ ∧ q_pg n x (ll x) g (q_rta x (ll x) it x p) 11 = _
      have er : q_rta x (ll x) it x p = it x (if p + min (ll x) 2 < ll x then p + min (ll x) 2 else p + min (ll x) 2 - ll x) := by
        unfold q_rta q_rot
        rw [if_pos rfl]
        split <;> rfl
      have hk : (if p + min (ll x) 2 < ll x then p + min (ll x) 2 else p + min (ll x) 2 - ll x) < ll x := by split <;> omega
      rw [er]
      obtain ⟨c1, c2, c3, c4⟩ := l2 x _ hx hk
      refine ⟨c1, ?_, (g10 _).trans c3, ?_⟩
      · rw [← c2]
        unfold q_gw q_gk
        rw [if_pos (by omega)]
        by_cases z : p + min (ll x) 2 < ll x
        · rw [if_pos (by omega), if_pos z, Nat.add_assoc]
        · rw [if_neg (by omega), if_neg z]
          exact congrArg W (by omega)
      · rw [np _ hk]
        refine congrArg nI ?_
        by_cases z : p + min (ll x) 2 < ll x
        · rw [if_pos z, if_pos (by omega)]
          omega
        · rw [if_neg z, if_neg (by omega)]
          omega
    · have er : q_rta r (ll r) it x = it x := if_neg y
      have hx4 := (l1 x hx).1
      show q_rta r (ll r) it x p < n ∧ _ = nI (q_rta r (ll r) it x p) ∧ q_pg n r (ll r) g (q_rta r (ll r) it x p) 10 = _ ∧ q_pg n r (ll r) g (q_rta r (ll r) it x p) 11 = _
      rw [er]
      obtain ⟨c1, c2, c3, c4⟩ := l2 x p hx hp
      have hne : ¬ (it x p < n ∧ g (it x p) 10 = nI r) := fun q => y ((nI_eq (by omega) (by omega)).mp (c3.symm.trans q.2))
      have e1 : q_pg n r (ll r) g (it x p) = g (it x p) := if_neg hne
      rw [e1]
      exact ⟨c1, by rw [wo _ (by omega)]; exact c2, c3, c4⟩
  · show q_pg n r (ll r) g j 10 = -1 ∨ _
    rcases l3 j hj with z | ⟨x, k, hx, hk, z⟩
    · exact Or.inl ((g10 j).trans z)
    · right
      by_cases y : x = r
      · subst y
        refine ⟨x, if min (ll x) 2 ≤ k then k - min (ll x) 2 else k + (ll x - min (ll x) 2), hx, by split <;> omega, ?_⟩
        unfold q_rta q_rot
        rw [if_pos rfl, ← z]
        by_cases v : min (ll x) 2 ≤ k
        · rw [if_pos v, if_pos (by omega)]
          exact congrArg (it x) (by omega)
        · rw [if_neg v, if_neg (by omega)]
          exact congrArg (it x) (by omega)
      · exact ⟨x, k, hx, hk, by unfold q_rta; rw [if_neg y]; exact z⟩
