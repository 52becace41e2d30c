/-! ===== how it starts: the class, all ===== -/
/-- what the class leaves -/
def q_P7 (h : g_Hp) : Prop := (∀ k x y t, k = 5 ∨ k = 13 ∨ k = 15 ∨ k = 16 ∨ k = 45 ∨ k = 53 ∨ k = 55 ∨ k = 56 → h k x y t = 0) ∧ (∀ cs, q_SB h 0 16 0 cs) ∧ (∀ cs, q_SB h 1 16 0 cs) ∧ (∀ b, b ≤ 10 → ∀ t, 2 ≤ t → h 1 b 0 t = 0) ∧ h 0 0 0 3 = 0 ∧ h 0 0 0 4 = 0 ∧ h 0 0 0 6 = 0 ∧ h 0 0 0 8 = -1 ∧ h 0 0 0 9 = -1
theorem q_iUn {h : g_Hp} {Q : g_R → g_Hp → Prop} (h0 : h 0 0 0 0 ≠ 0) (hz : ∀ t, h 0 0 0 (t + 1) = 0) (hk : ∀ k x y t, k ≠ 0 → h k x y t = 0) (K : ∀ h', q_P7 h' → Q (.inl none) h') : wX7_init h Q := by
  unfold wX7_init
  refine q_in1 (hk _ _ _ _ (by decide)) (hk _ _ _ _ (by decide)) (hk _ _ _ _ (by decide)) (fun m => hk _ _ _ _ (by decide)) (fun s f1 f2 f3 f4 => And.intro f3 (nm_e (And.intro ?_ (nm_e (And.intro ?_ (nm_e ?_))))))
  · rw [g_up_o _ _ _ _ _ _ (by omega), f1 _ _ _ _ (by omega)]
    exact hk _ _ _ _ (by decide)
  · rw [q_nw_o (by omega) (by omega), g_up_o _ _ _ _ _ _ (by omega), f1 _ _ _ _ (by omega)]
    exact hk _ _ _ _ (by decide)
  have F0 : q_F8 0 (g_up (g_nw (g_up s 0 0 0 1 1) 10 0 0 1 0) 0 0 0 2 1) := by
    have fo : ∀ k y z t, k ≠ 10 → k ≠ 50 → ¬ (k = 0 ∧ (t = 1 ∨ t = 2)) → g_up (g_nw (g_up s 0 0 0 1 1) 10 0 0 1 0) 0 0 0 2 1 k y z t = s k y z t := fun k y z t n1 n2 n3 => by
      rw [g_up_o _ _ _ _ _ _ (by omega), q_nw_o (by omega) (by omega), g_up_o _ _ _ _ _ _ (by omega)]
    refine ⟨fun k x y t n1 n2 n3 n4 n5 n6 n7 n8 n9 n10 => ?_, ?_, ?_, g_up_s _ _ _ _ _ _, fun t ht => ?_, ?_, fun b hb => ?_, fun b hb => ?_, fun b h1 h2 _ => absurd h1 (by omega)⟩
    · rw [fo _ _ _ _ (by omega) (by omega) (by omega), f1 _ _ _ _ (by omega)]
      exact hk _ _ _ _ n1
    · rw [fo _ _ _ _ (by omega) (by omega) (by omega), f1 _ _ _ _ (by omega)]
      exact h0
    · rw [g_up_o _ _ _ _ _ _ (by omega), q_nw_o (by omega) (by omega), g_up_s]
    · rw [fo _ _ _ _ (by omega) (by omega) (by omega), f1 _ _ _ _ (by omega), show t = (t - 1) + 1 by omega]
      exact hz _
    · rw [g_up_o _ _ _ _ _ _ (by omega), g_nw_s0]
      decide
    · have e : b = 0 := by omega
      subst e
      refine ⟨?_, ?_, fun t ht => ?_⟩
      · rw [fo _ _ _ _ (by omega) (by omega) (by omega)]
        exact f2
      · rw [fo _ _ _ _ (by omega) (by omega) (by omega)]
        exact f3
      · rw [fo _ _ _ _ (by omega) (by omega) (by omega)]
        exact f4 t ht
    · have v : ∀ k y z t, (k = 1 ∨ k = 2 ∨ k = 11 ∨ k = 41) → y = b → g_up (g_nw (g_up s 0 0 0 1 1) 10 0 0 1 0) 0 0 0 2 1 k y z t = 0 := fun k y z t n1 n2 => by
        rw [fo _ _ _ _ (by omega) (by omega) (by omega), f1 _ _ _ _ (by omega)]
        exact hk _ _ _ _ (by omega)
      exact ⟨v _ _ _ _ (by omega) rfl, v _ _ _ _ (by omega) rfl, v _ _ _ _ (by omega) rfl, fun m => v _ _ _ _ (by omega) rfl⟩
  refine q_in8 (j := 0) rfl (by decide) F0 (fun s1 F1 => ?_)
  refine q_in8 (j := 1) rfl (by decide) F1 (fun s2 F2 => ?_)
  refine q_in8 (j := 2) rfl (by decide) F2 (fun s3 F3 => ?_)
  refine q_in8 (j := 3) rfl (by decide) F3 (fun s4 F4 => ?_)
  refine q_in8 (j := 4) rfl (by decide) F4 (fun s5 F5 => ?_)
  refine q_in8 (j := 5) rfl (by decide) F5 (fun s6 F6 => ?_)
  refine q_in8 (j := 6) rfl (by decide) F6 (fun s7 F7 => ?_)
  refine q_in8 (j := 7) rfl (by decide) F7 (fun s8 F8 => ?_)
  refine q_in8 (j := 8) rfl (by decide) F8 (fun s9 F9 => ?_)
  obtain ⟨a1, a0, a01, a02, a03, a10, a2, a3, a4⟩ := F9
  have u := a3 10 (by decide)
  refine q_in1 u.1 u.2.1 u.2.2.1 u.2.2.2 (fun r g1 g2 g3 g4 => And.intro g3 (nm_e (And.intro ?_ (nm_e ?_))))
  · rw [g_up_o _ _ _ _ _ _ (by omega), g1 _ _ _ _ (by omega)]
    exact a1 _ _ _ _ (by decide) (by decide) (by decide) (by decide) (by decide) (by decide) (by decide) (by decide) (by decide) (by decide)
  have z0 : ∀ k x y t, k ≠ 0 → k ≠ 1 → k ≠ 2 → k ≠ 10 → k ≠ 11 → k ≠ 40 → k ≠ 41 → k ≠ 42 → k ≠ 50 → k ≠ 51 → k ≠ 3 → k ≠ 43 → g_nw (g_up r 0 0 0 5 1) 3 0 0 1 0 k x y t = 0 := fun k x y t n1 n2 n3 n4 n5 n6 n7 n8 n9 n10 n11 n12 => by
    rw [q_nw_o (by omega) (by omega), g_up_o _ _ _ _ _ _ (by omega), g1 _ _ _ _ (by omega)]
    exact a1 _ _ _ _ n1 n2 n3 n4 n5 n6 n7 n8 n9 n10
  have zz : ∀ k x y t, k = 4 ∨ k = 6 ∨ k = 12 ∨ k = 14 → g_nw (g_up r 0 0 0 5 1) 3 0 0 1 0 k x y t = 0 := fun k x y t n => z0 k x y t (by omega) (by omega) (by omega) (by omega) (by omega) (by omega) (by omega) (by omega) (by omega) (by omega) (by omega) (by omega)
  refine q_iTx (by rw [g_nw_s0]; decide) (g_nw_l _ 3 _ _ _ _) (zz _ _ _ _ (by omega)) (zz _ _ _ _ (by omega)) (fun j => zz _ _ _ _ (by omega)) (fun g => zz _ _ _ _ (by omega)) (fun p p1 p3 p43 pSB => ?_)
  have p0 : ∀ k x y t, k ≠ 3 → k ≠ 4 → k ≠ 12 → k ≠ 43 → k ≠ 44 → k ≠ 52 → ¬ ((k = 6 ∨ k = 46 ∨ k = 14 ∨ k = 54) ∧ x = 0) → p k x y t = g_up r 0 0 0 5 1 k x y t := fun k x y t n1 n2 n3 n4 n5 n6 n7 => by
    rw [p1 k x y t n1 n2 n3 n4 n5 n6 n7, q_nw_o (by omega) (by omega)]
  refine And.intro (by rw [p43]; decide) (nm_e (nm_e (nm_e (And.intro ?_ (nm_e ?_)))))
  · rw [g_up_o _ _ _ _ _ _ (by omega), g_up_o _ _ _ _ _ _ (by omega), g_up_o _ _ _ _ _ _ (by omega), p1 _ _ _ _ (by omega) (by omega) (by omega) (by omega) (by omega) (by omega) (by omega)]
    exact zz _ _ _ _ (by omega)
  refine q_iSB (by rw [g_nw_s0]; decide) (fun s => g_nw_s _ _ _ _ _ _ _) (fun g => ?_) (fun o o1 o6 o46 oSB => And.intro (by rw [o46]; decide) (nm_e ?_))
  · rw [q_nw_o (by omega) (by omega), g_up_o _ _ _ _ _ _ (by omega), g_up_o _ _ _ _ _ _ (by omega), g_up_o _ _ _ _ _ _ (by omega), p1 _ _ _ _ (by omega) (by omega) (by omega) (by omega) (by omega) (by omega) (by omega)]
    exact zz _ _ _ _ (by omega)
  generalize hw : g_up o 0 0 0 10 1 = w
  -- the heap's last but two
  have w0 : ∀ k x y t, ¬ ((k = 6 ∨ k = 46 ∨ k = 14 ∨ k = 54) ∧ x = 1) → ¬ (k = 0 ∧ (t = 7 ∨ t = 8 ∨ t = 9 ∨ t = 10)) → w k x y t = p k x y t := fun k x y t n1 n2 => by
    rw [← hw, g_up_o _ _ _ _ _ _ (by omega), o1 k x y t n1]
    unfold g_nw
    rw [if_neg (by omega), if_neg (by omega), g_up_o _ _ _ _ _ _ (by omega), g_up_o _ _ _ _ _ _ (by omega), g_up_o _ _ _ _ _ _ (by omega)]
  have wp : ∀ k x y t, k ≠ 3 → k ≠ 4 → k ≠ 12 → k ≠ 43 → k ≠ 44 → k ≠ 52 → k ≠ 6 → k ≠ 46 → k ≠ 14 → k ≠ 54 → ¬ (k = 0 ∧ (t = 7 ∨ t = 8 ∨ t = 9 ∨ t = 10)) → w k x y t = g_up r 0 0 0 5 1 k x y t := fun k x y t n1 n2 n3 n4 n5 n6 n7 n8 n9 n10 n11 => by
    rw [w0 k x y t (by omega) n11, p0 k x y t n1 n2 n3 n4 n5 n6 (by omega)]
  have ws : ∀ k x y t, k ≠ 3 → k ≠ 4 → k ≠ 12 → k ≠ 43 → k ≠ 44 → k ≠ 52 → k ≠ 6 → k ≠ 46 → k ≠ 14 → k ≠ 54 → ¬ (k = 0 ∧ (t = 5 ∨ t = 7 ∨ t = 8 ∨ t = 9 ∨ t = 10)) → ¬ ((k = 1 ∨ k = 2 ∨ k = 11 ∨ k = 41 ∨ k = 42 ∨ k = 51) ∧ x = 10) → w k x y t = s9 k x y t := fun k x y t n1 n2 n3 n4 n5 n6 n7 n8 n9 n10 n11 n12 => by
    rw [wp k x y t n1 n2 n3 n4 n5 n6 n7 n8 n9 n10 (by omega), g_up_o _ _ _ _ _ _ (by omega), g1 _ _ _ _ n12]
  have bk : ∀ b, b ≤ 10 → w 1 b 0 0 ≠ 0 ∧ w 41 b 0 0 ≠ 0 ∧ ∀ t, 2 ≤ t → w 1 b 0 t = 0 := fun b hb => by
    by_cases z : b = 10
    · subst z
      have e : ∀ k t, k = 1 ∨ k = 41 → w k 10 0 t = r k 10 0 t := fun k t hk => by
        rw [wp _ _ _ _ (by omega) (by omega) (by omega) (by omega) (by omega) (by omega) (by omega) (by omega) (by omega) (by omega) (by omega), g_up_o _ _ _ _ _ _ (by omega)]
      rw [e 1 0 (by omega), e 41 0 (by omega)]
      exact ⟨g2, g3, fun t ht => (e 1 t (by omega)).trans (g4 t ht)⟩
    · have v := a2 b (by omega)
      have e : ∀ k t, k = 1 ∨ k = 41 → w k b 0 t = s9 k b 0 t := fun k t hk => ws _ _ _ _ (by omega) (by omega) (by omega) (by omega) (by omega) (by omega) (by omega) (by omega) (by omega) (by omega) (by omega) (by omega)
      rw [e 1 0 (by omega), e 41 0 (by omega)]
      exact ⟨v.1, v.2.1, fun t ht => (e 1 t (by omega)).trans (v.2.2 t ht)⟩
  have w10 : ∀ t, w 10 0 0 t = s9 10 0 0 t := fun t => ws _ _ _ _ (by omega) (by omega) (by omega) (by omega) (by omega) (by omega) (by omega) (by omega) (by omega) (by omega) (by omega) (by omega)
  have q0 : ∀ t, t ≠ 5 → t ≠ 7 → t ≠ 8 → t ≠ 9 → t ≠ 10 → w 0 0 0 t = s9 0 0 0 t := fun t n1 n2 n3 n4 n5 => ws _ _ _ _ (by omega) (by omega) (by omega) (by omega) (by omega) (by omega) (by omega) (by omega) (by omega) (by omega) (by omega) (by omega)
  have q5 : w 0 0 0 5 = 1 := by rw [wp _ _ _ _ (by omega) (by omega) (by omega) (by omega) (by omega) (by omega) (by omega) (by omega) (by omega) (by omega) (by omega), g_up_s]
  have qx : ∀ t, t ≠ 10 → w 0 0 0 t = g_up (g_up (g_up p 0 0 0 7 1) 0 0 0 8 (-1)) 0 0 0 9 (-1) 0 0 0 t := fun t n => by
    rw [← hw, g_up_o _ _ _ _ _ _ (by omega), o1 _ _ _ _ (by omega), q_nw_o (by omega) (by omega)]
  have q7 : w 0 0 0 7 = 1 := by rw [qx _ (by decide), g_up_o _ _ _ _ _ _ (by omega), g_up_o _ _ _ _ _ _ (by omega), g_up_s]
  have q8 : w 0 0 0 8 = -1 := by rw [qx _ (by decide), g_up_o _ _ _ _ _ _ (by omega), g_up_s]
  have q9 : w 0 0 0 9 = -1 := by rw [qx _ (by decide), g_up_s]
  have q10 : w 0 0 0 10 = 1 := by rw [← hw, g_up_s]
  have w61 : w 6 1 0 0 ≠ 0 := by
    rw [← hw, g_up_o _ _ _ _ _ _ (by omega), o6, g_nw_s0]
    decide
  have w461 : w 46 1 0 0 ≠ 0 := by
    rw [← hw, g_up_o _ _ _ _ _ _ (by omega), o46]
    decide
  have w3 : w 3 0 0 0 ≠ 0 := by
    rw [w0 _ _ _ _ (by omega) (by omega)]
    exact p3
  have w43 : w 43 0 0 0 ≠ 0 := by
    rw [w0 _ _ _ _ (by omega) (by omega), p43]
    decide
  refine And.intro ⟨?_, fun q => absurd q (by decide), fun _ _ e he => ?_⟩ (nm_e (And.intro ⟨?_, fun _ t a ht hq => ?_, fun q => absurd q (by decide)⟩ (nm_e (K _ ⟨fun k x y t hk' => ?_, fun cs => ?_, fun cs => ?_, fun b hb t ht => ?_, ?_, ?_, ?_, ?_, ?_⟩))))
  · rw [w10]
    exact a10
  · have he' : e < 9 := he
    have v := bk (e + 1) (by omega)
    refine ⟨?_, Or.inl ⟨by show 1 < 20; decide, v.1, v.2.1⟩⟩
    rw [w10, a4 (e + 1) (by omega) (by omega) (by omega)]
    decide
  · rw [g_up_o _ _ _ _ _ _ (by omega), q0 _ (by decide) (by decide) (by decide) (by decide) (by decide)]
    exact a0
  · have ht10 : t < 10 := ht
    have ev : ∀ t, g_up w 50 0 0 0 1 0 0 0 t = w 0 0 0 t := fun t => g_up_o _ _ _ _ _ _ (by omega)
    have ok : ∀ k x, k ≠ 10 → w k x 0 0 ≠ 0 → w (k + 40) x 0 0 ≠ 0 → k < 20 → g_okA (g_up w 50 0 0 0 1) k x 0 := fun k x n a b c => Or.inl ⟨c, by rw [g_up_o _ _ _ _ _ _ (by omega)]; exact a, by rw [g_up_o _ _ _ _ _ _ (by omega)]; exact b⟩
    obtain rfl | rfl | rfl | rfl | rfl | rfl | rfl | rfl | rfl | rfl : t = 0 ∨ t = 1 ∨ t = 2 ∨ t = 3 ∨ t = 4 ∨ t = 5 ∨ t = 6 ∨ t = 7 ∨ t = 8 ∨ t = 9 := by omega
    · have ea : (1, 0, 0) = a := Option.some.inj hq
      subst ea
      have v := bk 0 (by decide)
      exact ⟨by rw [ev, q0 _ (by decide) (by decide) (by decide) (by decide) (by decide), a01]; decide, ok 1 0 (by decide) v.1 v.2.1 (by decide)⟩
    · have ea : (10, 0, 0) = a := Option.some.inj hq
      subst ea
      refine ⟨by rw [ev, q0 _ (by decide) (by decide) (by decide) (by decide) (by decide), a02]; decide, Or.inl ⟨by decide, ?_, ?_⟩⟩
      · show g_up w 50 0 0 0 1 10 0 0 0 ≠ 0
        rw [g_up_o _ _ _ _ _ _ (by omega), w10]
        exact a10
      · show g_up w 50 0 0 0 1 50 0 0 0 ≠ 0
        rw [g_up_s]
        decide
    · exact absurd hq (by intro z; cases z)
    · exact absurd hq (by intro z; cases z)
    · have ea : (1, 10, 0) = a := Option.some.inj hq
      subst ea
      have v := bk 10 (by decide)
      exact ⟨by rw [ev, q5]; decide, ok 1 10 (by decide) v.1 v.2.1 (by decide)⟩
    · exact absurd hq (by intro z; cases z)
    · have ea : (3, 0, 0) = a := Option.some.inj hq
      subst ea
      exact ⟨by rw [ev, q7]; decide, ok 3 0 (by decide) w3 w43 (by decide)⟩
    · exact absurd hq (by intro z; cases z)
    · exact absurd hq (by intro z; cases z)
    · have ea : (6, 1, 0) = a := Option.some.inj hq
      subst ea
      exact ⟨by rw [ev, q10]; decide, ok 6 1 (by decide) w61 w461 (by decide)⟩
  · rw [g_up_o _ _ _ _ _ _ (by omega), g_up_o _ _ _ _ _ _ (by omega), ws _ _ _ _ (by omega) (by omega) (by omega) (by omega) (by omega) (by omega) (by omega) (by omega) (by omega) (by omega) (by omega) (by omega)]
    exact a1 _ _ _ _ (by omega) (by omega) (by omega) (by omega) (by omega) (by omega) (by omega) (by omega) (by omega) (by omega)
  · refine q_SB_c (fun s => ?_) (fun b s => ?_) (pSB cs)
    · rw [g_up_o _ _ _ _ _ _ (by omega), g_up_o _ _ _ _ _ _ (by omega), w0 _ _ _ _ (by omega) (by omega)]
    · rw [g_up_o _ _ _ _ _ _ (by omega), g_up_o _ _ _ _ _ _ (by omega), w0 _ _ _ _ (by omega) (by omega)]
  · refine q_SB_c (fun s => ?_) (fun b s => ?_) (oSB cs)
    · rw [g_up_o _ _ _ _ _ _ (by omega), g_up_o _ _ _ _ _ _ (by omega), ← hw, g_up_o _ _ _ _ _ _ (by omega)]
    · rw [g_up_o _ _ _ _ _ _ (by omega), g_up_o _ _ _ _ _ _ (by omega), ← hw, g_up_o _ _ _ _ _ _ (by omega)]
  · rw [g_up_o _ _ _ _ _ _ (by omega), g_up_o _ _ _ _ _ _ (by omega), (bk b hb).2.2 t ht]
  · rw [g_up_o _ _ _ _ _ _ (by omega), g_up_o _ _ _ _ _ _ (by omega), q0 _ (by decide) (by decide) (by decide) (by decide) (by decide), a03 _ (by decide)]
  · rw [g_up_o _ _ _ _ _ _ (by omega), g_up_o _ _ _ _ _ _ (by omega), q0 _ (by decide) (by decide) (by decide) (by decide) (by decide), a03 _ (by decide)]
  · rw [g_up_o _ _ _ _ _ _ (by omega), g_up_o _ _ _ _ _ _ (by omega), q0 _ (by decide) (by decide) (by decide) (by decide) (by decide), a03 _ (by decide)]
  · rw [g_up_o _ _ _ _ _ _ (by omega), g_up_o _ _ _ _ _ _ (by omega), q8]
  · rw [g_up_o _ _ _ _ _ _ (by omega), g_up_o _ _ _ _ _ _ (by omega), q9]
/-- both stand alike at the start -/
theorem q_I0 {h h' : g_Hp} (P : q_P7 h) (f : ∀ k x y t, k < 15 → k ≠ 5 → k ≠ 13 → h' k x y t = h k x y t) (e3 : h' 5 0 0 3 = -1) (e4 : h' 5 0 0 4 = -1) (e5 : ∀ t, 1 ≤ t → t ≠ 3 → t ≠ 4 → ¬ (6 ≤ t ∧ t ≤ 14) → h' 5 0 0 t = 0) (e13 : ∀ j, j < 9 → ∀ e, h' 13 j 0 (e + 1) = q_RW j e) : q_I 0 h' := by
  obtain ⟨_, sb0, sb1, bk, p3, p4, p6, p8, p9⟩ := P
  have w0 : ∀ k, q_mv h' 0 k = 0 := fun k => e13 0 (by decide) k
  have fz : ∀ t, 2 ≤ t → (q_cv h' 0).1 t = 0 := fun t ht => (f _ _ _ _ (by decide) (by decide) (by decide)).trans (bk 0 (by decide) t ht)
  refine ⟨⟨0, fun _ => 0, fun _ _ => 0, ⟨by decide, fz 2 (by decide), w0 0, ?_, ?_, ?_, ?_, ?_, Or.inl (w0 4), fun q => ?_, ?_, ?_, ⟨0, by decide, w0 7⟩, ?_, ?_, ⟨0, by decide, w0 1⟩, ⟨0, by decide, w0 8⟩⟩, ⟨fun m s hm => absurd hm (by omega), fun m s _ _ _ _ => w0 _, fun m hm => absurd hm (by omega)⟩, ⟨fun r hr => ⟨Nat.zero_le 4, w0 _, rfl⟩, fun r k _ hk => absurd hk (Nat.not_lt_zero _), fun m hm => absurd hm (by omega)⟩⟩, ⟨0, 0, by decide, by decide, ?_, ?_, ?_, fun j hj => absurd hj (by omega)⟩, ⟨?_, Or.inl (e5 5 (by decide) (by decide) (by decide) (by decide)), fun q => ?_⟩, ⟨?_, ?_, Or.inl e3, Or.inl e4⟩, ⟨16, 0, fun _ => 0, q_SB_c (fun s => f _ _ _ _ (by decide) (by decide) (by decide)) (fun b s => f _ _ _ _ (by decide) (by decide) (by decide)) (sb0 _), by decide, ?_, fun e he => absurd he (by omega)⟩, ⟨16, (0, fun _ => 0), q_SB_c (fun s => f _ _ _ _ (by decide) (by decide) (by decide)) (fun b s => f _ _ _ _ (by decide) (by decide) (by decide)) (sb1 _), ?_, by decide, fun e he => absurd he (by show ¬ e < 0; omega)⟩, ⟨fun k hk => (e13 7 (by decide) k).trans (q_w7D k hk), fun k hk => (e13 8 (by decide) k).trans (q_w8D k hk)⟩⟩
  · rw [fz 3 (by decide), w0]
  · rw [fz 4 (by decide), w0]
  · rw [fz 5 (by decide), w0]
    rfl
  · rw [fz 6 (by decide), w0]
    rfl
  · rw [fz 7 (by decide), w0]
  · rw [fz 8 (by decide), w0]
  · rw [fz 9 (by decide), w0]
  · rw [fz 10 (by decide), w0]
  · rw [fz 11 (by decide), w0]
  · rw [fz 12 (by decide), w0]
  · exact (f _ _ _ _ (by decide) (by decide) (by decide)).trans p3
  · exact (f _ _ _ _ (by decide) (by decide) (by decide)).trans p4
  · exact e5 2 (by decide) (by decide) (by decide) (by decide)
  · rw [f _ _ _ _ (by decide) (by decide) (by decide), p6, e5 5 (by decide) (by decide) (by decide) (by decide)]
  · rw [e5 5 (by decide) (by decide) (by decide) (by decide)] at q
    exact absurd q (by decide)
  · rw [f _ _ _ _ (by decide) (by decide) (by decide), p8, e3]
  · rw [f _ _ _ _ (by decide) (by decide) (by decide), p9, e4]
  · exact e5 15 (by decide) (by decide) (by decide) (by decide)
  · exact e5 18 (by decide) (by decide) (by decide) (by decide)
