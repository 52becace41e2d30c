/-! ===== how the law starts ===== -/
theorem q_iUm {h : g_Hp} {Q : g_R → g_Hp → Prop} (h0 : h 0 0 0 0 ≠ 0) (hz : ∀ t, h 0 0 0 (t + 1) = 0) (hk : ∀ k x y t, k ≠ 0 → h k x y t = 0) (K : ∀ h', q_P7 h' → h' 40 0 0 0 = 1 → Q (.inl none) h') : wX7_init h Q := by
  unfold wX7_init
  refine q_in1 (hk _ _ _ _ (by decide)) (hk _ _ _ _ (by decide)) (hk _ _ _ _ (by decide)) (fun m => hk _ _ _ _ (by decide)) (fun s f1 f2 f3 f4 => And.intro f3 (nm_e (And.intro ?_ (nm_e (And.intro ?_ (nm_e ?_))))))
  · rw [g_up_o _ _ _ _ _ _ (by omega), f1 _ _ _ _ (by omega)]
    exact hk _ _ _ _ (by decide)
  · rw [q_nw_o (by omega) (by omega), g_up_o _ _ _ _ _ _ (by omega), f1 _ _ _ _ (by omega)]
    exact hk _ _ _ _ (by decide)
  have F0 : q_F8 0 (g_up (g_nw (g_up s 0 0 0 1 1) 10 0 0 1 0) 0 0 0 2 1) := by
    have fo : ∀ k y z t, k ≠ 10 → k ≠ 50 → ¬ (k = 0 ∧ (t = 1 ∨ t = 2)) → g_up (g_nw (g_up s 0 0 0 1 1) 10 0 0 1 0) 0 0 0 2 1 k y z t = s k y z t := fun k y z t n1 n2 n3 => by
      rw [g_up_o _ _ _ _ _ _ (by omega), q_nw_o (by omega) (by omega), g_up_o _ _ _ _ _ _ (by omega)]
    refine ⟨fun k x y t n1 n2 n3 n4 n5 n6 n7 n8 n9 n10 => ?_, ?_, ?_, g_up_s _ _ _ _ _ _, fun t ht => ?_, ?_, fun b hb => ?_, fun b hb => ?_, fun b h1 h2 _ => absurd h1 (by omega)⟩
    · rw [fo _ _ _ _ (by omega) (by omega) (by omega), f1 _ _ _ _ (by omega)]
      exact hk _ _ _ _ n1
    · rw [fo _ _ _ _ (by omega) (by omega) (by omega), f1 _ _ _ _ (by omega)]
      exact h0
    · rw [g_up_o _ _ _ _ _ _ (by omega), q_nw_o (by omega) (by omega), g_up_s]
    · rw [fo _ _ _ _ (by omega) (by omega) (by omega), f1 _ _ _ _ (by omega), show t = (t - 1) + 1 by omega]
      exact hz _
    · rw [g_up_o _ _ _ _ _ _ (by omega), g_nw_s0]
      decide
    · have e : b = 0 := by omega
      subst e
      refine ⟨?_, ?_, fun t ht => ?_⟩
      · rw [fo _ _ _ _ (by omega) (by omega) (by omega)]
        exact f2
      · rw [fo _ _ _ _ (by omega) (by omega) (by omega)]
        exact f3
      · rw [fo _ _ _ _ (by omega) (by omega) (by omega)]
        exact f4 t ht
    · have v : ∀ k y z t, (k = 1 ∨ k = 2 ∨ k = 11 ∨ k = 41) → y = b → g_up (g_nw (g_up s 0 0 0 1 1) 10 0 0 1 0) 0 0 0 2 1 k y z t = 0 := fun k y z t n1 n2 => by
        rw [fo _ _ _ _ (by omega) (by omega) (by omega), f1 _ _ _ _ (by omega)]
        exact hk _ _ _ _ (by omega)
      exact ⟨v _ _ _ _ (by omega) rfl, v _ _ _ _ (by omega) rfl, v _ _ _ _ (by omega) rfl, fun m => v _ _ _ _ (by omega) rfl⟩
  refine q_in8 (j := 0) rfl (by decide) F0 (fun s1 F1 => ?_)
  refine q_in8 (j := 1) rfl (by decide) F1 (fun s2 F2 => ?_)
  refine q_in8 (j := 2) rfl (by decide) F2 (fun s3 F3 => ?_)
  refine q_in8 (j := 3) rfl (by decide) F3 (fun s4 F4 => ?_)
  refine q_in8 (j := 4) rfl (by decide) F4 (fun s5 F5 => ?_)
  refine q_in8 (j := 5) rfl (by decide) F5 (fun s6 F6 => ?_)
  refine q_in8 (j := 6) rfl (by decide) F6 (fun s7 F7 => ?_)
  refine q_in8 (j := 7) rfl (by decide) F7 (fun s8 F8 => ?_)
  refine q_in8 (j := 8) rfl (by decide) F8 (fun s9 F9 => ?_)
  obtain ⟨a1, a0, a01, a02, a03, a10, a2, a3, a4⟩ := F9
  have u := a3 10 (by decide)
  refine q_in1 u.1 u.2.1 u.2.2.1 u.2.2.2 (fun r g1 g2 g3 g4 => And.intro g3 (nm_e (And.intro ?_ (nm_e ?_))))
  · rw [g_up_o _ _ _ _ _ _ (by omega), g1 _ _ _ _ (by omega)]
    exact a1 _ _ _ _ (by decide) (by decide) (by decide) (by decide) (by decide) (by decide) (by decide) (by decide) (by decide) (by decide)
  have z0 : ∀ k x y t, k ≠ 0 → k ≠ 1 → k ≠ 2 → k ≠ 10 → k ≠ 11 → k ≠ 40 → k ≠ 41 → k ≠ 42 → k ≠ 50 → k ≠ 51 → k ≠ 3 → k ≠ 43 → g_nw (g_up r 0 0 0 5 1) 3 0 0 1 0 k x y t = 0 := fun k x y t n1 n2 n3 n4 n5 n6 n7 n8 n9 n10 n11 n12 => by
    rw [q_nw_o (by omega) (by omega), g_up_o _ _ _ _ _ _ (by omega), g1 _ _ _ _ (by omega)]
    exact a1 _ _ _ _ n1 n2 n3 n4 n5 n6 n7 n8 n9 n10
  have zz : ∀ k x y t, k = 4 ∨ k = 6 ∨ k = 12 ∨ k = 14 → g_nw (g_up r 0 0 0 5 1) 3 0 0 1 0 k x y t = 0 := fun k x y t n => z0 k x y t (by omega) (by omega) (by omega) (by omega) (by omega) (by omega) (by omega) (by omega) (by omega) (by omega) (by omega) (by omega)
  refine q_iTx (by rw [g_nw_s0]; decide) (g_nw_l _ 3 _ _ _ _) (zz _ _ _ _ (by omega)) (zz _ _ _ _ (by omega)) (fun j => zz _ _ _ _ (by omega)) (fun g => zz _ _ _ _ (by omega)) (fun p p1 p3 p43 pSB => ?_)
  have p0 : ∀ k x y t, k ≠ 3 → k ≠ 4 → k ≠ 12 → k ≠ 43 → k ≠ 44 → k ≠ 52 → ¬ ((k = 6 ∨ k = 46 ∨ k = 14 ∨ k = 54) ∧ x = 0) → p k x y t = g_up r 0 0 0 5 1 k x y t := fun k x y t n1 n2 n3 n4 n5 n6 n7 => by
    rw [p1 k x y t n1 n2 n3 n4 n5 n6 n7, q_nw_o (by omega) (by omega)]
  refine And.intro (by rw [p43]; decide) (nm_e (nm_e (nm_e (And.intro ?_ (nm_e ?_)))))
  · rw [g_up_o _ _ _ _ _ _ (by omega), g_up_o _ _ _ _ _ _ (by omega), g_up_o _ _ _ _ _ _ (by omega), p1 _ _ _ _ (by omega) (by omega) (by omega) (by omega) (by omega) (by omega) (by omega)]
    exact zz _ _ _ _ (by omega)
  refine q_iSB (by rw [g_nw_s0]; decide) (fun s => g_nw_s _ _ _ _ _ _ _) (fun g => ?_) (fun o o1 o6 o46 oSB => And.intro (by rw [o46]; decide) (nm_e ?_))
  · rw [q_nw_o (by omega) (by omega), g_up_o _ _ _ _ _ _ (by omega), g_up_o _ _ _ _ _ _ (by omega), g_up_o _ _ _ _ _ _ (by omega), p1 _ _ _ _ (by omega) (by omega) (by omega) (by omega) (by omega) (by omega) (by omega)]
    exact zz _ _ _ _ (by omega)
  generalize hw : g_up o 0 0 0 10 1 = w
  -- the heap's last but two
  have w0 : ∀ k x y t, ¬ ((k = 6 ∨ k = 46 ∨ k = 14 ∨ k = 54) ∧ x = 1) → ¬ (k = 0 ∧ (t = 7 ∨ t = 8 ∨ t = 9 ∨ t = 10)) → w k x y t = p k x y t := fun k x y t n1 n2 => by
    rw [← hw, g_up_o _ _ _ _ _ _ (by omega), o1 k x y t n1]
    unfold g_nw
    rw [if_neg (by omega), if_neg (by omega), g_up_o _ _ _ _ _ _ (by omega), g_up_o _ _ _ _ _ _ (by omega), g_up_o _ _ _ _ _ _ (by omega)]
  have wp : ∀ k x y t, k ≠ 3 → k ≠ 4 → k ≠ 12 → k ≠ 43 → k ≠ 44 → k ≠ 52 → k ≠ 6 → k ≠ 46 → k ≠ 14 → k ≠ 54 → ¬ (k = 0 ∧ (t = 7 ∨ t = 8 ∨ t = 9 ∨ t = 10)) → w k x y t = g_up r 0 0 0 5 1 k x y t := fun k x y t n1 n2 n3 n4 n5 n6 n7 n8 n9 n10 n11 => by
    rw [w0 k x y t (by omega) n11, p0 k x y t n1 n2 n3 n4 n5 n6 (by omega)]
  have ws : ∀ k x y t, k ≠ 3 → k ≠ 4 → k ≠ 12 → k ≠ 43 → k ≠ 44 → k ≠ 52 → k ≠ 6 → k ≠ 46 → k ≠ 14 → k ≠ 54 → ¬ (k = 0 ∧ (t = 5 ∨ t = 7 ∨ t = 8 ∨ t = 9 ∨ t = 10)) → ¬ ((k = 1 ∨ k = 2 ∨ k = 11 ∨ k = 41 ∨ k = 42 ∨ k = 51) ∧ x = 10) → w k x y t = s9 k x y t := fun k x y t n1 n2 n3 n4 n5 n6 n7 n8 n9 n10 n11 n12 => by
    rw [wp k x y t n1 n2 n3 n4 n5 n6 n7 n8 n9 n10 (by omega), g_up_o _ _ _ _ _ _ (by omega), g1 _ _ _ _ n12]
  have bk : ∀ b, b ≤ 10 → w 1 b 0 0 ≠ 0 ∧ w 41 b 0 0 ≠ 0 ∧ ∀ t, 2 ≤ t → w 1 b 0 t = 0 := fun b hb => by
    by_cases z : b = 10
    · subst z
      have e : ∀ k t, k = 1 ∨ k = 41 → w k 10 0 t = r k 10 0 t := fun k t hk => by
        rw [wp _ _ _ _ (by omega) (by omega) (by omega) (by omega) (by omega) (by omega) (by omega) (by omega) (by omega) (by omega) (by omega), g_up_o _ _ _ _ _ _ (by omega)]
      rw [e 1 0 (by omega), e 41 0 (by omega)]
      exact ⟨g2, g3, fun t ht => (e 1 t (by omega)).trans (g4 t ht)⟩
    · have v := a2 b (by omega)
      have e : ∀ k t, k = 1 ∨ k = 41 → w k b 0 t = s9 k b 0 t := fun k t hk => ws _ _ _ _ (by omega) (by omega) (by omega) (by omega) (by omega) (by omega) (by omega) (by omega) (by omega) (by omega) (by omega) (by omega)
      rw [e 1 0 (by omega), e 41 0 (by omega)]
      exact ⟨v.1, v.2.1, fun t ht => (e 1 t (by omega)).trans (v.2.2 t ht)⟩
  have w10 : ∀ t, w 10 0 0 t = s9 10 0 0 t := fun t => ws _ _ _ _ (by omega) (by omega) (by omega) (by omega) (by omega) (by omega) (by omega) (by omega) (by omega) (by omega) (by omega) (by omega)
  have q0 : ∀ t, t ≠ 5 → t ≠ 7 → t ≠ 8 → t ≠ 9 → t ≠ 10 → w 0 0 0 t = s9 0 0 0 t := fun t n1 n2 n3 n4 n5 => ws _ _ _ _ (by omega) (by omega) (by omega) (by omega) (by omega) (by omega) (by omega) (by omega) (by omega) (by omega) (by omega) (by omega)
  have q5 : w 0 0 0 5 = 1 := by rw [wp _ _ _ _ (by omega) (by omega) (by omega) (by omega) (by omega) (by omega) (by omega) (by omega) (by omega) (by omega) (by omega), g_up_s]
  have qx : ∀ t, t ≠ 10 → w 0 0 0 t = g_up (g_up (g_up p 0 0 0 7 1) 0 0 0 8 (-1)) 0 0 0 9 (-1) 0 0 0 t := fun t n => by
    rw [← hw, g_up_o _ _ _ _ _ _ (by omega), o1 _ _ _ _ (by omega), q_nw_o (by omega) (by omega)]
  have q7 : w 0 0 0 7 = 1 := by rw [qx _ (by decide), g_up_o _ _ _ _ _ _ (by omega), g_up_o _ _ _ _ _ _ (by omega), g_up_s]
  have q8 : w 0 0 0 8 = -1 := by rw [qx _ (by decide), g_up_o _ _ _ _ _ _ (by omega), g_up_s]
  have q9 : w 0 0 0 9 = -1 := by rw [qx _ (by decide), g_up_s]
  have q10 : w 0 0 0 10 = 1 := by rw [← hw, g_up_s]
  have w61 : w 6 1 0 0 ≠ 0 := by
    rw [← hw, g_up_o _ _ _ _ _ _ (by omega), o6, g_nw_s0]
    decide
  have w461 : w 46 1 0 0 ≠ 0 := by
    rw [← hw, g_up_o _ _ _ _ _ _ (by omega), o46]
    decide
  have w3 : w 3 0 0 0 ≠ 0 := by
    rw [w0 _ _ _ _ (by omega) (by omega)]
    exact p3
  have w43 : w 43 0 0 0 ≠ 0 := by
    rw [w0 _ _ _ _ (by omega) (by omega), p43]
    decide
  refine And.intro ⟨?_, fun q => absurd q (by decide), fun _ _ e he => ?_⟩ (nm_e (And.intro ⟨?_, fun _ t a ht hq => ?_, fun q => absurd q (by decide)⟩ (nm_e (K _ ⟨fun k x y t hk' => ?_, fun cs => ?_, fun cs => ?_, fun b hb t ht => ?_, ?_, ?_, ?_, ?_, ?_⟩ (g_up_s _ _ _ _ _ _)))))
  · rw [w10]
    exact a10
  · have he' : e < 9 := he
    have v := bk (e + 1) (by omega)
    refine ⟨?_, Or.inl ⟨by show 1 < 20; decide, v.1, v.2.1⟩⟩
    rw [w10, a4 (e + 1) (by omega) (by omega) (by omega)]
    decide
  · rw [g_up_o _ _ _ _ _ _ (by omega), q0 _ (by decide) (by decide) (by decide) (by decide) (by decide)]
    exact a0
  · have ht10 : t < 10 := ht
    have ev : ∀ t, g_up w 50 0 0 0 1 0 0 0 t = w 0 0 0 t := fun t => g_up_o _ _ _ _ _ _ (by omega)
    have ok : ∀ k x, k ≠ 10 → w k x 0 0 ≠ 0 → w (k + 40) x 0 0 ≠ 0 → k < 20 → g_okA (g_up w 50 0 0 0 1) k x 0 := fun k x n a b c => Or.inl ⟨c, by rw [g_up_o _ _ _ _ _ _ (by omega)]; exact a, by rw [g_up_o _ _ _ _ _ _ (by omega)]; exact b⟩
    obtain rfl | rfl | rfl | rfl | rfl | rfl | rfl | rfl | rfl | rfl : t = 0 ∨ t = 1 ∨ t = 2 ∨ t = 3 ∨ t = 4 ∨ t = 5 ∨ t = 6 ∨ t = 7 ∨ t = 8 ∨ t = 9 := by omega
    · have ea : (1, 0, 0) = a := Option.some.inj hq
      subst ea
      have v := bk 0 (by decide)
      exact ⟨by rw [ev, q0 _ (by decide) (by decide) (by decide) (by decide) (by decide), a01]; decide, ok 1 0 (by decide) v.1 v.2.1 (by decide)⟩
    · have ea : (10, 0, 0) = a := Option.some.inj hq
      subst ea
      refine ⟨by rw [ev, q0 _ (by decide) (by decide) (by decide) (by decide) (by decide), a02]; decide, Or.inl ⟨by decide, ?_, ?_⟩⟩
      · show g_up w 50 0 0 0 1 10 0 0 0 ≠ 0
        rw [g_up_o _ _ _ _ _ _ (by omega), w10]
        exact a10
      · show g_up w 50 0 0 0 1 50 0 0 0 ≠ 0
        rw [g_up_s]
        decide
    · exact absurd hq (by intro z; cases z)
    · exact absurd hq (by intro z; cases z)
    · have ea : (1, 10, 0) = a := Option.some.inj hq
      subst ea
      have v := bk 10 (by decide)
      exact ⟨by rw [ev, q5]; decide, ok 1 10 (by decide) v.1 v.2.1 (by decide)⟩
    · exact absurd hq (by intro z; cases z)
    · have ea : (3, 0, 0) = a := Option.some.inj hq
      subst ea
      exact ⟨by rw [ev, q7]; decide, ok 3 0 (by decide) w3 w43 (by decide)⟩
    · exact absurd hq (by intro z; cases z)
    · exact absurd hq (by intro z; cases z)
    · have ea : (6, 1, 0) = a := Option.some.inj hq
      subst ea
      exact ⟨by rw [ev, q10]; decide, ok 6 1 (by decide) w61 w461 (by decide)⟩
  · rw [g_up_o _ _ _ _ _ _ (by omega), g_up_o _ _ _ _ _ _ (by omega), ws _ _ _ _ (by omega) (by omega) (by omega) (by omega) (by omega) (by omega) (by omega) (by omega) (by omega) (by omega) (by omega) (by omega)]
    exact a1 _ _ _ _ (by omega) (by omega) (by omega) (by omega) (by omega) (by omega) (by omega) (by omega) (by omega) (by omega)
  · refine q_SB_c (fun s => ?_) (fun b s => ?_) (pSB cs)
    · rw [g_up_o _ _ _ _ _ _ (by omega), g_up_o _ _ _ _ _ _ (by omega), w0 _ _ _ _ (by omega) (by omega)]
    · rw [g_up_o _ _ _ _ _ _ (by omega), g_up_o _ _ _ _ _ _ (by omega), w0 _ _ _ _ (by omega) (by omega)]
  · refine q_SB_c (fun s => ?_) (fun b s => ?_) (oSB cs)
    · rw [g_up_o _ _ _ _ _ _ (by omega), g_up_o _ _ _ _ _ _ (by omega), ← hw, g_up_o _ _ _ _ _ _ (by omega)]
    · rw [g_up_o _ _ _ _ _ _ (by omega), g_up_o _ _ _ _ _ _ (by omega), ← hw, g_up_o _ _ _ _ _ _ (by omega)]
  · rw [g_up_o _ _ _ _ _ _ (by omega), g_up_o _ _ _ _ _ _ (by omega), (bk b hb).2.2 t ht]
  · rw [g_up_o _ _ _ _ _ _ (by omega), g_up_o _ _ _ _ _ _ (by omega), q0 _ (by decide) (by decide) (by decide) (by decide) (by decide), a03 _ (by decide)]
  · rw [g_up_o _ _ _ _ _ _ (by omega), g_up_o _ _ _ _ _ _ (by omega), q0 _ (by decide) (by decide) (by decide) (by decide) (by decide), a03 _ (by decide)]
  · rw [g_up_o _ _ _ _ _ _ (by omega), g_up_o _ _ _ _ _ _ (by omega), q0 _ (by decide) (by decide) (by decide) (by decide) (by decide), a03 _ (by decide)]
  · rw [g_up_o _ _ _ _ _ _ (by omega), g_up_o _ _ _ _ _ _ (by omega), q8]
  · rw [g_up_o _ _ _ _ _ _ (by omega), g_up_o _ _ _ _ _ _ (by omega), q9]
theorem q_iMe {h : g_Hp} {Q : g_R → g_Hp → Prop} (h5 : h 5 0 0 0 ≠ 0) (hz : ∀ t, h 5 0 0 (t + 1) = 0) (h13 : ∀ i, h 13 i 0 0 = 0)
    (K : ∀ h', (∀ k x y t, k ≠ 5 → k ≠ 13 → k ≠ 45 → k ≠ 53 → h' k x y t = h k x y t) → h' 5 0 0 3 = -1 → h' 5 0 0 4 = -1 → (∀ t, 1 ≤ t → t ≠ 3 → t ≠ 4 → ¬ (6 ≤ t ∧ t ≤ 14) → h' 5 0 0 t = 0) → (∀ j, j < 9 → ∀ e, h' 13 j 0 (e + 1) = q_RW j e) → h' 45 0 0 0 = 1 → Q (.inl none) h') : wX8_init h Q := by
  unfold wX8_init
  have F0 : q_F9 h 0 (g_up (g_up h 5 0 0 3 (-1)) 5 0 0 4 (-1)) := by
    refine ⟨fun k x y t n1 n2 n3 => ?_, ?_, ?_, g_up_s _ _ _ _ _ _, fun t t1 t2 t3 t4 => ?_, fun j hj => absurd hj (by omega), fun j _ => ?_⟩
    · rw [g_up_o _ _ _ _ _ _ (by omega), g_up_o _ _ _ _ _ _ (by omega)]
    · rw [g_up_o _ _ _ _ _ _ (by omega), g_up_o _ _ _ _ _ _ (by omega)]
      exact h5
    · rw [g_up_o _ _ _ _ _ _ (by omega), g_up_s]
    · rw [g_up_o _ _ _ _ _ _ (by omega), g_up_o _ _ _ _ _ _ (by omega), show t = (t - 1) + 1 by omega]
      exact hz _
    · rw [g_up_o _ _ _ _ _ _ (by omega), g_up_o _ _ _ _ _ _ (by omega)]
      exact h13 j
  refine nm_e (nm_e ?_)
  generalize g_up (g_up h 5 0 0 3 (-1)) 5 0 0 4 (-1) = s0 at *
  refine And.intro (F0.2.2.2.2.2.2 0 (by decide)) (nm_e (nm_e ?_))
  have F1 := q_st9z (i := 0) (by decide) F0
  generalize hs1 : g_up (g_nw s0 13 0 0 1 1) 5 0 0 (6 + 0) 1 = s1 at *
  refine And.intro (F1.2.2.2.2.2.2 1 (by decide)) (nm_e (nm_e ?_))
  have F2 := q_st9z (i := 1) (by decide) F1
  generalize hs2 : g_up (g_nw s1 13 1 0 1 1) 5 0 0 (6 + 1) 1 = s2 at *
  refine And.intro (F2.2.2.2.2.2.2 2 (by decide)) (nm_e (nm_e ?_))
  have F3 := q_st9z (i := 2) (by decide) F2
  generalize hs3 : g_up (g_nw s2 13 2 0 1 1) 5 0 0 (6 + 2) 1 = s3 at *
  refine And.intro (F3.2.2.2.2.2.2 3 (by decide)) (nm_e (nm_e ?_))
  have F4 := q_st9z (i := 3) (by decide) F3
  generalize hs4 : g_up (g_nw s3 13 3 0 1 1) 5 0 0 (6 + 3) 1 = s4 at *
  refine And.intro (F4.2.2.2.2.2.2 4 (by decide)) (nm_e (nm_e ?_))
  have F5 := q_st9z (i := 4) (by decide) F4
  generalize hs5 : g_up (g_nw s4 13 4 0 1 1) 5 0 0 (6 + 4) 1 = s5 at *
  refine And.intro (F5.2.2.2.2.2.2 5 (by decide)) (nm_e (nm_e ?_))
  have F6 := q_st9z (i := 5) (by decide) F5
  generalize hs6 : g_up (g_nw s5 13 5 0 1 1) 5 0 0 (6 + 5) 1 = s6 at *
  refine And.intro (F6.2.2.2.2.2.2 6 (by decide)) (nm_e (nm_e ?_))
  have F7 := q_st9z (i := 6) (by decide) F6
  generalize hs7 : g_up (g_nw s6 13 6 0 1 1) 5 0 0 (6 + 6) 1 = s7 at *
  refine And.intro (F7.2.2.2.2.2.2 7 (by decide)) (nm_e (q_rw7 (fun e => g_nw_s _ _ _ _ _ _ _) (nm_e ?_)))
  have F8 := q_st9 (i := 7) (by decide) F7
  generalize hs8 : g_up (q_mH (g_nw s7 13 7 0 1 1) 7 (q_RW 7)) 5 0 0 (6 + 7) 1 = s8 at *
  rw [show g_up (q_mH (g_nw s7 13 7 0 1 1) 7 q_w7) 5 0 0 13 1 = s8 from hs8]
  refine And.intro (F8.2.2.2.2.2.2 8 (by decide)) (nm_e (q_rw8 (fun e => g_nw_s _ _ _ _ _ _ _) (nm_e ?_)))
  have F9 := q_st9 (i := 8) (by decide) F8
  generalize hs9 : g_up (q_mH (g_nw s8 13 8 0 1 1) 8 (q_RW 8)) 5 0 0 (6 + 8) 1 = s9 at *
  rw [show g_up (q_mH (g_nw s8 13 8 0 1 1) 8 q_w8) 5 0 0 14 1 = s9 from hs9]
  obtain ⟨f1, f2, f3, f4, f5, f6, f7⟩ := F9
  refine And.intro ⟨f2, fun _ t a ht hq => ?_, fun q => absurd q (by decide)⟩ (nm_e (K _ (fun k x y t n1 n2 n3 n4 => ?_) ?_ ?_ (fun t t1 t2 t3 t4 => ?_) (fun j hj e => ?_) (g_up_s _ _ _ _ _ _)))
  · have ht20 : t < 20 := ht
    have hit : ∀ j, j < 9 → t = 5 + j → g_rt 5 t 0 (s9 5 0 0 (t + 1)) = some (13, j, 0) → s9 5 0 0 (t + 1) ≠ 0 ∧ g_okA s9 a.1 a.2.1 a.2.2 := fun j hj et e => by
      have ea : (13, j, 0) = a := Option.some.inj (e.symm.trans hq)
      subst ea
      have v := f6 j hj
      refine ⟨?_, Or.inl ⟨by show 13 < 20; decide, v.2.1, v.2.2.1⟩⟩
      rw [show t + 1 = 6 + j by omega, v.1]
      decide
    obtain rfl | rfl | rfl | rfl | rfl | rfl | rfl | rfl | rfl | rfl | rfl | rfl | rfl | rfl | rfl | rfl | rfl | rfl | rfl | rfl : t = 0 ∨ t = 1 ∨ t = 2 ∨ t = 3 ∨ t = 4 ∨ t = 5 ∨ t = 6 ∨ t = 7 ∨ t = 8 ∨ t = 9 ∨ t = 10 ∨ t = 11 ∨ t = 12 ∨ t = 13 ∨ t = 14 ∨ t = 15 ∨ t = 16 ∨ t = 17 ∨ t = 18 ∨ t = 19 := by omega
    · exact absurd hq (by intro z; cases z)
    · exact absurd hq (by intro z; cases z)
    · exact absurd hq (by intro z; cases z)
    · exact absurd hq (by intro z; cases z)
    · exact absurd hq (by intro z; cases z)
    · exact hit 0 (by decide) rfl rfl
    · exact hit 1 (by decide) rfl rfl
    · exact hit 2 (by decide) rfl rfl
    · exact hit 3 (by decide) rfl rfl
    · exact hit 4 (by decide) rfl rfl
    · exact hit 5 (by decide) rfl rfl
    · exact hit 6 (by decide) rfl rfl
    · exact hit 7 (by decide) rfl rfl
    · exact hit 8 (by decide) rfl rfl
    · exact absurd hq (by intro z; cases z)
    · exact absurd hq (by intro z; cases z)
    · exact absurd hq (by intro z; cases z)
    · exact absurd hq (by intro z; cases z)
    · exact absurd hq (by intro z; cases z)
    · exact absurd hq (by intro z; cases z)
  · rw [g_up_o _ _ _ _ _ _ (by omega), f1 k x y t n1 n2 n4]
  · rw [g_up_o _ _ _ _ _ _ (by omega), f3]
  · rw [g_up_o _ _ _ _ _ _ (by omega), f4]
  · rw [g_up_o _ _ _ _ _ _ (by omega), f5 t t1 t2 t3 t4]
  · rw [g_up_o _ _ _ _ _ _ (by omega), (f6 j hj).2.2.2 e]
theorem q_W0 {a0 L : Nat} {xs : Nat → Int32} {Q : g_R → g_Hp → Prop} (hL : L ≤ 1536) (hQ : ∀ h, Q (.inl (some (vI 1))) h) {h : g_Hp} (hz : ∀ k x y t, h k x y t = 0) : wL_law a0 L xs h Q := by
  unfold wL_law
  refine And.intro (hz _ _ _ _) (nm_e (q_iUm (by rw [g_nw_s0]; decide) (fun t => g_nw_s _ _ _ _ _ _ _) (fun k x y t n => ?_) (fun h2 P e40 => And.intro (by rw [e40]; decide) (And.intro (P.1 _ _ _ _ (by omega)) (nm_e ?_)))))
  · by_cases z : k = 40
    · subst z
      unfold g_nw
      rw [if_neg (by omega)]
      split
      · rfl
      · exact hz _ _ _ _
    · rw [q_nw_o (by omega) (by omega)]
      exact hz _ _ _ _
  refine q_iMe (by rw [g_nw_s0]; decide) (fun t => g_nw_s _ _ _ _ _ _ _) (fun i => (q_nw_o (by omega) (by omega)).trans (P.1 _ _ _ _ (by omega))) (fun h4 d1 d3 d4 d5 d13 d45 => And.intro (by rw [d45]; decide) (And.intro ?_ (nm_e (And.intro ?_ (nm_e ?_)))))
  · rw [d1 _ _ _ _ (by omega) (by omega) (by omega) (by omega), q_nw_o (by omega) (by omega)]
    exact P.1 _ _ _ _ (by omega)
  · rw [q_nw_o (by omega) (by omega), d1 _ _ _ _ (by omega) (by omega) (by omega) (by omega), q_nw_o (by omega) (by omega)]
    exact P.1 _ _ _ _ (by omega)
  have e : ∀ k x y t, k < 15 → g_nw (g_nw h4 15 0 0 1 1) 16 0 0 1 1 k x y t = h4 k x y t := fun k x y t n => by
    rw [q_nw_o (by omega) (by omega), q_nw_o (by omega) (by omega)]
  refine q_JW hL hQ (q_I0 P (fun k x y t n1 n2 n3 => ?_) ((e _ _ _ _ (by omega)).trans d3) ((e _ _ _ _ (by omega)).trans d4) (fun t t1 t2 t3 t4 => (e _ _ _ _ (by omega)).trans (d5 t t1 t2 t3 t4)) (fun j hj x => (e _ _ _ _ (by omega)).trans (d13 j hj x)))
  rw [e _ _ _ _ n1, d1 _ _ _ _ n2 n3 (by omega) (by omega), q_nw_o (by omega) (by omega)]
