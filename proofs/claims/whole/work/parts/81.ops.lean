/-! a shift in a strike: the model -/
def q_wl (w : Nat → Int32) (i F : Nat) : Nat → Int32 := fun k => if k = 7 then nI (F - 2 * min i (F / 2)) else if 71 ≤ k ∧ k < 71 + i then w k + 1 else if 59 ≤ k ∧ k < 59 + i ∧ k - 59 < F / 2 then w k + 2 else w k
theorem q_wl_o {w : Nat → Int32} {i F k : Nat} (h7 : k ≠ 7) (h1 : k < 71 ∨ 71 + i ≤ k) (h2 : k < 59 ∨ 59 + i ≤ k) : q_wl w i F k = w k := by
  unfold q_wl
  rw [if_neg h7, if_neg (by omega), if_neg (by omega)]
theorem q_mS3 {n F : Nat} {h : g_Hp} {w : Nat → Int32} {Q : g_R → g_Hp → Prop} (hN : w 0 = nI n) (hn : n ≤ 12) (hF : w 7 = nI F) (hF2 : F ≤ 9999) (K : wX8_strikes_b82 Q (0 : Int32) (q_mH h 0 (q_wl w n F))) : wX8_strikes_b13 Q (0 : Int32) (q_mH h 0 w) := by
  have z := q_loop (fun k i => wX8_strikes_b13_I Q k (nI i) (q_mH h 0 (q_wl w i F))) n 0 (Nat.zero_le _) (fun k => ?_) (fun k i _ hi hk => ?_)
  · have e : q_wl w 0 F = w := by
      funext k
      unfold q_wl
      by_cases a : k = 7
      · subst a
        rw [if_pos rfl, Nat.zero_min, hF]
        rfl
      · rw [if_neg a, if_neg (by omega), if_neg (by omega)]
    rw [e] at z
    exact z
  · show wX8_strikes_b13_B Q _ _ _
    unfold wX8_strikes_b13_B
    rw [q_k0, q_m1, q_wl_o (by decide) (by omega) (by omega), hN]
    exact br_t (nI_le (Nat.le_refl _) (by omega)) K
  · show wX8_strikes_b13_B Q _ _ _
    unfold wX8_strikes_b13_B
    rw [q_k0, q_m1, q_wl_o (by decide) (by omega) (by omega), hN]
    refine br_f (nI_ge hi (by omega)) (And.intro (q_v71 (by omega)) (And.intro (q_v71 (by omega)) ?_))
    rw [q_i71 (by omega), q_m1, q_wl_o (by omega) (by omega) (by omega)]
    refine nm_r (q_mu _ _ _ _ _) ?_
    have e7 : upd (q_wl w i F) (71 + i) (w (71 + i) + 1) 7 = nI (F - 2 * min i (F / 2)) := by
      rw [pk_un (by omega)]
      exact if_pos rfl
    rw [q_k7, q_m1, e7]
    refine pk_le 2 (F - 2 * min i (F / 2)) (fun a => ?_) (fun a => nm_r (nI_1 i) ?_)
    · have b : i < F / 2 := by
        by_cases y : i < F / 2
        · exact y
        · rw [Nat.min_eq_right (by omega)] at a
          omega
      refine nm_r (q_mu _ _ _ _ _) (And.intro (q_v59 (by omega)) (And.intro (q_v59 (by omega)) ?_))
      rw [q_i59 (by omega), q_m1, pk_un (by omega), pk_un (by omega), q_wl_o (by omega) (by omega) (by omega)]
      refine nm_r (e' := q_mH h 0 (q_wl w (i + 1) F)) ?_ (nm_r (nI_1 i) hk)
      rw [q_mu, q_lit 2, pk_sub (by omega)]
      refine congrArg (fun x => q_mH h 0 x) ?_
      rw [Nat.min_eq_left (by omega)] at a ⊢
      funext e
      unfold upd q_wl
      rw [Nat.min_eq_left (show i + 1 ≤ F / 2 by omega)]
      by_cases c1 : e = 59 + i
      · subst c1
        rw [if_pos rfl, if_neg (show ¬ 59 + i = 7 by omega), if_neg (show ¬ (71 ≤ 59 + i ∧ 59 + i < 71 + (i + 1)) by omega), if_pos (show 59 ≤ 59 + i ∧ 59 + i < 59 + (i + 1) ∧ 59 + i - 59 < F / 2 by omega)]
        rfl
      · rw [if_neg c1]
        by_cases c2 : e = 7
        · subst c2
          rw [if_pos rfl, if_pos rfl, show F - 2 * i - 2 = F - 2 * (i + 1) by omega]
        · rw [if_neg c2, if_neg c2]
          by_cases c3 : e = 71 + i
          · subst c3
            rw [if_pos rfl, if_neg c2, if_pos (show 71 ≤ 71 + i ∧ 71 + i < 71 + (i + 1) by omega)]
          · rw [if_neg c3, if_neg c2]
            by_cases c4 : 71 ≤ e ∧ e < 71 + i
            · rw [if_pos c4, if_pos (show 71 ≤ e ∧ e < 71 + (i + 1) by omega)]
            · rw [if_neg c4, if_neg (show ¬ (71 ≤ e ∧ e < 71 + (i + 1)) by omega)]
              by_cases c5 : 59 ≤ e ∧ e < 59 + i ∧ e - 59 < F / 2
              · rw [if_pos c5, if_pos (show 59 ≤ e ∧ e < 59 + (i + 1) ∧ e - 59 < F / 2 by omega)]
              · rw [if_neg c5, if_neg (show ¬ (59 ≤ e ∧ e < 59 + (i + 1) ∧ e - 59 < F / 2) by omega)]
    · have b : F / 2 ≤ i := by
        by_cases y : i ≤ F / 2
        · rw [Nat.min_eq_left y] at a
          omega
        · omega
      have e : upd (q_wl w i F) (71 + i) (w (71 + i) + 1) = q_wl w (i + 1) F := by
        funext e
        unfold upd q_wl
        rw [Nat.min_eq_right (show F / 2 ≤ i + 1 by omega), Nat.min_eq_right b]
        by_cases c3 : e = 71 + i
        · subst c3
          rw [if_pos rfl, if_neg (show ¬ 71 + i = 7 by omega), if_pos (show 71 ≤ 71 + i ∧ 71 + i < 71 + (i + 1) by omega)]
        · rw [if_neg c3]
          by_cases c2 : e = 7
          · rw [if_pos c2, if_pos c2]
          · rw [if_neg c2, if_neg c2]
            by_cases c4 : 71 ≤ e ∧ e < 71 + i
            · rw [if_pos c4, if_pos (show 71 ≤ e ∧ e < 71 + (i + 1) by omega)]
            · rw [if_neg c4, if_neg (show ¬ (71 ≤ e ∧ e < 71 + (i + 1)) by omega)]
              by_cases c5 : 59 ≤ e ∧ e < 59 + i ∧ e - 59 < F / 2
              · rw [if_pos c5, if_pos (show 59 ≤ e ∧ e < 59 + (i + 1) ∧ e - 59 < F / 2 by omega)]
              · rw [if_neg c5, if_neg (show ¬ (59 ≤ e ∧ e < 59 + (i + 1) ∧ e - 59 < F / 2) by omega)]
      rw [e]
      exact hk
/-- a list turned k times -/
def q_gk (W : Nat → Int32) (a L d0 d1 k : Nat) : Nat → Int32 := fun e => if a ≤ e ∧ e < a + L then (if e + k < a + L then W (e + k) else W (e + k - L)) else if (e = d0 ∧ 1 ≤ k) ∨ (e = d1 ∧ 2 ≤ k) then W e + 1 else W e
theorem q_gk_0 (W : Nat → Int32) (a L d0 d1 : Nat) : q_gk W a L d0 d1 0 = W := by
  funext e
  unfold q_gk
  by_cases c : a ≤ e ∧ e < a + L
  · rw [if_pos c, if_pos (by omega)]
    rfl
  · rw [if_neg c, if_neg (by omega)]
theorem q_gk_o {W : Nat → Int32} {a L d0 d1 k e : Nat} (h : e < a ∨ a + L ≤ e) (h2 : e ≠ d0) (h3 : e ≠ d1) : q_gk W a L d0 d1 k e = W e := by
  unfold q_gk
  rw [if_neg (by omega), if_neg (by omega)]
theorem q_gk_s {W : Nat → Int32} {a L d0 d1 k : Nat} (hk : k < min L 2) (hd : d0 < a ∧ d1 < a) (hne : 2 ≤ L → d0 ≠ d1) : upd (q_lv (upd (q_gk W a L d0 d1 k) (if k = 0 then d0 else d1) (q_gk W a L d0 d1 k (if k = 0 then d0 else d1) + 1)) a 0 L) (a + L - 1) (W (a + k)) = q_gk W a L d0 d1 (k + 1) := by
  funext e
  have hin : ∀ e, a ≤ e → e < a + L → q_gk W a L d0 d1 k e = if e + k < a + L then W (e + k) else W (e + k - L) := fun e h1 h2 => if_pos ⟨h1, h2⟩
  have hdd : (if k = 0 then d0 else d1) < a := by split <;> omega
  unfold upd q_lv
  dsimp only
  by_cases c1 : e = a + L - 1
  · subst c1
    rw [if_pos rfl]
    unfold q_gk
    rw [if_pos (show a ≤ a + L - 1 ∧ a + L - 1 < a + L by omega), if_neg (show ¬ a + L - 1 + (k + 1) < a + L by omega), show a + L - 1 + (k + 1) - L = a + k by omega]
  · rw [if_neg c1]
    by_cases c2 : a + 0 ≤ e ∧ e + 1 < a + L
    · rw [if_pos c2, if_neg (show ¬ e + 1 = (if k = 0 then d0 else d1) by omega), hin (e + 1) (by omega) (by omega)]
      unfold q_gk
      rw [if_pos (show a ≤ e ∧ e < a + L by omega), show e + (k + 1) = e + 1 + k by omega]
    · rw [if_neg c2]
      have c3 : ¬ (a ≤ e ∧ e < a + L) := by omega
      unfold q_gk
      rw [if_neg c3, if_neg c3, if_neg (show ¬ (a ≤ (if k = 0 then d0 else d1) ∧ (if k = 0 then d0 else d1) < a + L) by omega)]
      by_cases k0 : k = 0
      · subst k0
        by_cases c4 : e = d0
        · subst c4
          rw [if_pos rfl, if_pos rfl, if_neg (by omega), if_pos (by omega)]
        · rw [if_pos rfl, if_neg c4, if_neg (by omega), if_neg (by omega)]
      · have k1 : k = 1 := by omega
        subst k1
        have hd01 := hne (by omega)
        rw [show (if 1 = 0 then d0 else d1) = d1 from if_neg (by decide)]
        by_cases c4 : e = d1
        · subst c4
          rw [if_pos rfl, if_neg (by omega), if_pos (by omega)]
        · rw [if_neg c4]
          by_cases c5 : e = d0
          · subst c5
            rw [if_pos (by omega), if_pos (by omega)]
          · rw [if_neg (by omega), if_neg (by omega)]
def q_gw (W : Nat → Int32) (r L : Nat) (it : Nat → Nat) : Nat → Int32 := q_gk W (129 + 4 * r) L (83 + it 0) (83 + it 1) (min L 2)
theorem q_mGd {r L : Nat} {it : Nat → Nat} {h : g_Hp} {W : Nat → Int32} {Q : g_R → g_Hp → Prop} (hr : r < 10) (hL : L ≤ 4) (hw : W (119 + r) = nI L) (hit : ∀ p, p < L → it p < 12 ∧ W (129 + 4 * r + p) = nI (it p)) (hne : 2 ≤ L → it 0 ≠ it 1) (h0 : L ≤ 1 → it 1 < 12) (h00 : L = 0 → it 0 < 12) (K : Q (.inl none) (q_mH h 0 (q_gw W r L it))) : wX8_guards (nI r) (q_mH h 0 W) Q := by
  have i0 : it 0 < 12 := by
    by_cases y : L = 0
    · exact h00 y
    · exact (hit 0 (by omega)).1
  have i1 : it 1 < 12 := by
    by_cases y : L ≤ 1
    · exact h0 y
    · exact (hit 1 (by omega)).1
  unfold wX8_guards
  refine And.intro (q_v119 (by omega)) (nm_r (e' := nI L) (by rw [q_i119 (by omega), q_m1, hw]) ?_)
  have z := q_loop (fun k i => wX8_guards_b12_I Q k (nI r) (nI L) (nI i) (q_mH h 0 (q_gk W (129 + 4 * r) L (83 + it 0) (83 + it 1) i))) (min L 2) 0 (Nat.zero_le _) (fun k => ?_) (fun k i _ hi hk => ?_)
  · rw [q_gk_0] at z
    exact z
  · show wX8_guards_b12_B Q _ _ _ _ _
    unfold wX8_guards_b12_B
    refine pk_le 2 (min L 2) (fun _ => K) (fun y => ?_)
    exact br_t (nI_le (by omega) (by omega)) K
  · show wX8_guards_b12_B Q _ _ _ _ _
    unfold wX8_guards_b12_B
    refine br_f (nI_ge (b := 2) (by omega) (by decide)) (br_f (nI_ge (by omega) (by omega)) ?_)
    show vp_in (((129 : Int32) + ((4 : Int32) * nI r)) + 0) 169 ∧ _
    rw [show ((129 : Int32) + ((4 : Int32) * nI r)) + 0 = nI (129 + 4 * r + 0) from q_li (k := 0), nI_clamp (by omega)]
    have e0 : q_gk W (129 + 4 * r) L (83 + it 0) (83 + it 1) i (129 + 4 * r + 0) = nI (it i) := by
      unfold q_gk
      rw [if_pos (by omega), if_pos (by omega)]
      exact (hit i (by omega)).2
    have ii : it i < 12 := (hit i (by omega)).1
    refine And.intro (q_vI (by omega) (by decide)) (nm_r (e' := nI (it i)) (by rw [q_m1]; exact e0) (And.intro (q_v83 (by omega)) (And.intro (q_v83 (by omega)) ?_)))
    rw [q_i83 (by omega), q_m1]
    refine nm_r (q_mu _ _ _ _ _) ?_
    have ed : 83 + it i = if i = 0 then 83 + it 0 else 83 + it 1 := by
      by_cases y : i = 0
      · rw [if_pos y, y]
      · rw [if_neg y, show i = 1 by omega]
    have est := q_gk_s (W := W) (a := 129 + 4 * r) (L := L) (d0 := 83 + it 0) (d1 := 83 + it 1) (k := i) hi ⟨by omega, by omega⟩ (fun y => by have := hne y; omega)
    rw [← ed] at est
    -- the turn of the list
    have z := q_loop (fun k2 j => wX8_guards_b51_I Q (wX8_guards_b12_I Q k) k2 (nI r) (nI L) (nI i) (nI (it i)) (nI j) (q_mH h 0 (q_lv (upd (q_gk W (129 + 4 * r) L (83 + it 0) (83 + it 1) i) (83 + it i) (q_gk W (129 + 4 * r) L (83 + it 0) (83 + it 1) i (83 + it i) + 1)) (129 + 4 * r) 0 j))) L 1 (by omega) (fun k2 => ?_) (fun k2 j h1 hj hk2 => ?_)
    · rw [q_lv_lo (by omega)] at z
      exact z
    · show wX8_guards_b51_B Q _ _ _ _ _ _ _ _
      unfold wX8_guards_b51_B
      refine br_t (nI_le (Nat.le_refl _) (by omega)) ?_
      show vp_in (((129 : Int32) + ((4 : Int32) * nI r)) + (nI L - 1)) 169 ∧ _
      rw [show nI L - 1 = nI (L - 1) from pk_sub (b := 1) (by omega), q_li, nI_clamp (by omega)]
      refine And.intro (q_vI (by omega) (by decide)) (nm_r ?_ (nm_r (nI_1 i) hk))
      rw [q_mu, ← est, (hit i (by omega)).2, show 129 + 4 * r + (L - 1) = 129 + 4 * r + L - 1 by omega]
    · show wX8_guards_b51_B Q _ _ _ _ _ _ _ _
      unfold wX8_guards_b51_B
      refine br_f (nI_ge hj (by omega)) ?_
      show vp_in (((129 : Int32) + ((4 : Int32) * nI r)) + nI j) 169 ∧ vp_in (((129 : Int32) + ((4 : Int32) * nI r)) + (nI j - 1)) 169 ∧ _
      rw [show nI j - 1 = nI (j - 1) from pk_sub (b := 1) h1, q_li, q_li, nI_clamp (by omega), nI_clamp (by omega)]
      refine And.intro (q_vI (by omega) (by decide)) (And.intro (q_vI (by omega) (by decide)) (nm_r ?_ (nm_r (nI_1 j) hk2)))
      rw [q_m1, q_mu]
      refine congrArg (fun x => q_mH h 0 x) ?_
      rw [← q_lv_s (a := 129 + 4 * r) (show 0 < j by omega), show 129 + 4 * r + (j - 1) = 129 + 4 * r + j - 1 by omega]
      congr 1
      unfold q_lv
      rw [if_neg (by omega)]
