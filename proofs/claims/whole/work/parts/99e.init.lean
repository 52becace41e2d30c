/-! ===== how it starts: the reader, the class ===== -/
def q_F7 (h0 : g_Hp) (j : Nat) (s : g_Hp) : Prop := (∀ k x y t, k ≠ 3 → k ≠ 4 → k ≠ 12 → k ≠ 43 → k ≠ 44 → k ≠ 52 → s k x y t = h0 k x y t) ∧ s 3 0 0 2 = 1 ∧ s 3 0 0 1 = 1 ∧ s 3 0 0 0 ≠ 0 ∧ s 12 0 0 0 ≠ 0 ∧ (∀ j', j ≤ j' → s 4 j' 0 0 = 0) ∧ (∀ e, e < j → s 12 0 0 (e + 1) = 1 ∧ s 4 e 0 0 ≠ 0 ∧ s 44 e 0 0 ≠ 0)
theorem q_in7 {j : Nat} {x : Int32} {h0 s : g_Hp} {R : g_Hp → Prop} {EX : String → g_Hp → Prop} (hx : x = nI j) (hj : j < 11) (F : q_F7 h0 j s) (K : ∀ s', q_F7 h0 (j + 1) s' → R s') : s 3 0 0 2 ≠ 0 ∧ g_okA s 52 0 0 ∧ s 4 j 0 0 = 0 ∧ ∀ h3 : g_Hp, h3 = g_nw s 4 j 0 1 0 → wX2_init j h3 (g_kV (fun h4 => h4 44 j 0 0 ≠ 0 ∧ (vp_in x 11 ∧ ((4, x.toNatClampNeg, 0) : Nat × Nat × Nat) = (4, j, 0)) ∧ ∀ h5 : g_Hp, h5 = g_up h4 12 0 0 (x.toNatClampNeg + 1) 1 → R h5) EX) := by
  obtain ⟨f1, f2, f2b, f2c, f3, f4, f5⟩ := F
  subst hx
  rw [nI_clamp (by omega)]
  refine And.intro (by rw [f2]; decide) (And.intro (Or.inr (Or.inr ⟨by decide, by decide, f3⟩)) (And.intro (f4 j (Nat.le_refl _)) (nm_e ?_)))
  unfold wX2_init
  refine And.intro ⟨by decide, by decide⟩ (nm_e (And.intro ⟨?_, fun _ t a ht hq => ?_, fun q => absurd q (by decide)⟩ (nm_e ?_)))
  · rw [g_up_o _ _ _ _ _ _ (by omega), g_nw_s0]
    decide
  · have ht4 : t < 4 := ht
    obtain rfl | rfl | rfl | rfl : t = 0 ∨ t = 1 ∨ t = 2 ∨ t = 3 := by omega
    · rw [g_up_s] at hq ⊢
      have ea : (21, (Int32.ofNat (4 + 1)).toNatClampNeg - 1, 0) = a := Option.some.inj hq
      subst ea
      exact ⟨by decide, Or.inr (Or.inl ⟨by decide, by decide⟩)⟩
    · exact absurd hq (by intro z; cases z)
    · exact absurd hq (by intro z; cases z)
    · exact absurd hq (by intro z; cases z)
  refine And.intro (by rw [g_up_s]; decide) (And.intro (And.intro (q_vI hj (by decide)) rfl) (nm_e (K _ ?_)))
  have fo : ∀ k y z t, ¬ (k = 4 ∧ y = j ∧ z = 0) → ¬ (k = 44 ∧ y = j ∧ z = 0) → ¬ (k = 12 ∧ y = 0 ∧ z = 0 ∧ t = j + 1) → g_up (g_up (g_up (g_nw s 4 j 0 1 0) 4 j 0 1 (Int32.ofNat (4 + 1))) 44 j 0 0 1) 12 0 0 (j + 1) 1 k y z t = s k y z t := fun k y z t n1 n2 n3 => by
    rw [g_up_o _ _ _ _ _ _ (by omega), g_up_o _ _ _ _ _ _ (by omega), g_up_o _ _ _ _ _ _ (by omega)]
    unfold g_nw
    rw [if_neg n1, if_neg (by omega)]
  refine ⟨fun k y z t n1 n2 n3 n4 n5 n6 => (fo k y z t (by omega) (by omega) (by omega)).trans (f1 k y z t n1 n2 n3 n4 n5 n6), (fo _ _ _ _ (by omega) (by omega) (by omega)).trans f2, (fo _ _ _ _ (by omega) (by omega) (by omega)).trans f2b, ?_, ?_, fun j' hj' => (fo _ _ _ _ (by omega) (by omega) (by omega)).trans (f4 j' (by omega)), fun e he => ?_⟩
  · rw [fo _ _ _ _ (by omega) (by omega) (by omega)]
    exact f2c
  · rw [fo _ _ _ _ (by omega) (by omega) (by omega)]
    exact f3
  · by_cases z : e = j
    · subst z
      refine ⟨g_up_s _ _ _ _ _ _, ?_, ?_⟩
      · rw [g_up_o _ _ _ _ _ _ (by omega), g_up_o _ _ _ _ _ _ (by omega), g_up_o _ _ _ _ _ _ (by omega), g_nw_s0]
        decide
      · rw [g_up_o _ _ _ _ _ _ (by omega), g_up_s]
        decide
    · rw [fo _ _ _ _ (by omega) (by omega) (by omega), fo _ _ _ _ (by omega) (by omega) (by omega), fo _ _ _ _ (by omega) (by omega) (by omega)]
      exact f5 e (by omega)
theorem q_iTx {h : g_Hp} {Q : g_R → g_Hp → Prop} (h3 : h 3 0 0 0 ≠ 0) (h43 : h 43 0 0 0 = 0) (h6 : h 6 0 0 0 = 0) (h12 : h 12 0 0 0 = 0) (h4 : ∀ j, h 4 j 0 0 = 0) (h14 : ∀ g, h 14 0 g 0 = 0)
    (K : ∀ h', (∀ k x y t, k ≠ 3 → k ≠ 4 → k ≠ 12 → k ≠ 43 → k ≠ 44 → k ≠ 52 → ¬ ((k = 6 ∨ k = 46 ∨ k = 14 ∨ k = 54) ∧ x = 0) → h' k x y t = h k x y t) → h' 3 0 0 0 ≠ 0 → h' 43 0 0 0 = 1 → (∀ cs, q_SB h' 0 16 0 cs) → Q (.inl none) h') : wX3_init h Q := by
  unfold wX3_init
  refine And.intro h6 (nm_e (q_iSB (by rw [g_nw_s0]; decide) (fun s => g_nw_s _ _ _ _ _ _ _) (fun g => (q_nw_o (by omega) (by omega)).trans (h14 g)) (fun s fs e6 e46 hSB => ?_)))
  have e60 : s 6 0 0 0 ≠ 0 := by
    rw [e6, g_nw_s0]
    decide
  have fs2 : ∀ k x y t, ¬ ((k = 6 ∨ k = 46 ∨ k = 14 ∨ k = 54) ∧ x = 0) → s k x y t = h k x y t := fun k x y t n => by
    rw [fs k x y t n]
    unfold g_nw
    rw [if_neg (by omega), if_neg (by omega)]
  have F0 : q_F7 s 0 (g_up (g_nw (g_up s 3 0 0 1 1) 12 0 0 1 0) 3 0 0 2 1) := by
    have fo : ∀ k y z t, k ≠ 12 → k ≠ 52 → ¬ (k = 3 ∧ y = 0 ∧ z = 0 ∧ (t = 1 ∨ t = 2)) → g_up (g_nw (g_up s 3 0 0 1 1) 12 0 0 1 0) 3 0 0 2 1 k y z t = s k y z t := fun k y z t n1 n2 n3 => by
      rw [g_up_o _ _ _ _ _ _ (by omega), q_nw_o (by omega) (by omega), g_up_o _ _ _ _ _ _ (by omega)]
    refine ⟨fun k x y t n1 n2 n3 n4 n5 n6 => fo k x y t (by omega) (by omega) (by omega), g_up_s _ _ _ _ _ _, ?_, ?_, ?_, fun j' _ => ?_, fun e he => absurd he (by omega)⟩
    · rw [g_up_o _ _ _ _ _ _ (by omega), q_nw_o (by omega) (by omega), g_up_s]
    · rw [fo _ _ _ _ (by omega) (by omega) (by omega), fs2 _ _ _ _ (by omega)]
      exact h3
    · rw [g_up_o _ _ _ _ _ _ (by omega), g_nw_s0]
      decide
    · rw [fo _ _ _ _ (by omega) (by omega) (by omega), fs2 _ _ _ _ (by omega)]
      exact h4 j'
  refine And.intro (by rw [e46]; decide) (nm_e (And.intro ?_ (nm_e (And.intro ?_ (nm_e ?_)))))
  · rw [g_up_o _ _ _ _ _ _ (by omega), fs2 _ _ _ _ (by omega)]
    exact h12
  · rw [q_nw_o (by omega) (by omega), g_up_o _ _ _ _ _ _ (by omega), fs2 _ _ _ _ (by omega)]
    exact h43
  refine q_in7 (h0 := s) (j := 0) rfl (by decide) F0 (fun s1 F1 => ?_)
  refine q_in7 (h0 := s) (j := 1) rfl (by decide) F1 (fun s2 F2 => ?_)
  refine q_in7 (h0 := s) (j := 2) rfl (by decide) F2 (fun s3 F3 => ?_)
  refine q_in7 (h0 := s) (j := 3) rfl (by decide) F3 (fun s4 F4 => ?_)
  refine q_in7 (h0 := s) (j := 4) rfl (by decide) F4 (fun s5 F5 => ?_)
  refine q_in7 (h0 := s) (j := 5) rfl (by decide) F5 (fun s6 F6 => ?_)
  refine q_in7 (h0 := s) (j := 6) rfl (by decide) F6 (fun s7 F7 => ?_)
  refine q_in7 (h0 := s) (j := 7) rfl (by decide) F7 (fun s8 F8 => ?_)
  refine q_in7 (h0 := s) (j := 8) rfl (by decide) F8 (fun s9 F9 => ?_)
  refine q_in7 (h0 := s) (j := 9) rfl (by decide) F9 (fun s10 F10 => ?_)
  refine q_in7 (h0 := s) (j := 10) rfl (by decide) F10 (fun s11 F11 => ?_)
  obtain ⟨f1, f2, f2b, f2c, f3, f4, f5⟩ := F11
  have w60 : s11 6 0 0 0 ≠ 0 := by
    rw [f1 _ _ _ _ (by decide) (by decide) (by decide) (by decide) (by decide) (by decide)]
    exact e60
  have w46 : s11 46 0 0 0 ≠ 0 := by
    rw [f1 _ _ _ _ (by decide) (by decide) (by decide) (by decide) (by decide) (by decide), e46]
    decide
  refine And.intro ⟨f3, fun q => absurd q (by decide), fun _ _ e he => ?_⟩ (nm_e (And.intro ⟨?_, fun _ t a ht hq => ?_, fun q => absurd q (by decide)⟩ (nm_e (K _ (fun k x y t n1 n2 n3 n4 n5 n6 n7 => ?_) ?_ (g_up_s _ _ _ _ _ _) (fun cs => ?_)))))
  · have he' : e < 11 := he
    obtain ⟨g1, g2, g3⟩ := f5 e he'
    exact ⟨by rw [g1]; decide, Or.inl ⟨by show 4 < 20; decide, g2, g3⟩⟩
  · rw [g_up_o _ _ _ _ _ _ (by omega)]
    exact f2c
  · have ht4 : t < 4 := ht
    have e1 : g_up s11 52 0 0 0 1 3 0 0 1 = 1 := (g_up_o _ _ _ _ _ _ (by omega)).trans f2b
    have e2 : g_up s11 52 0 0 0 1 3 0 0 2 = 1 := (g_up_o _ _ _ _ _ _ (by omega)).trans f2
    obtain rfl | rfl | rfl | rfl : t = 0 ∨ t = 1 ∨ t = 2 ∨ t = 3 := by omega
    · have ea : (6, 0, 0) = a := Option.some.inj hq
      subst ea
      refine ⟨by rw [e1]; decide, Or.inl ⟨by decide, ?_, ?_⟩⟩
      · show g_up s11 52 0 0 0 1 6 0 0 0 ≠ 0
        rw [g_up_o _ _ _ _ _ _ (by omega)]
        exact w60
      · show g_up s11 52 0 0 0 1 46 0 0 0 ≠ 0
        rw [g_up_o _ _ _ _ _ _ (by omega)]
        exact w46
    · have ea : (12, 0, 0) = a := Option.some.inj hq
      subst ea
      refine ⟨by rw [e2]; decide, Or.inl ⟨by decide, ?_, ?_⟩⟩
      · show g_up s11 52 0 0 0 1 12 0 0 0 ≠ 0
        rw [g_up_o _ _ _ _ _ _ (by omega)]
        exact f3
      · show g_up s11 52 0 0 0 1 52 0 0 0 ≠ 0
        rw [g_up_s]
        decide
    · exact absurd hq (by intro z; cases z)
    · exact absurd hq (by intro z; cases z)
  · rw [g_up_o _ _ _ _ _ _ (by omega), g_up_o _ _ _ _ _ _ (by omega), f1 k x y t n1 n2 n3 n4 n5 n6, fs2 k x y t n7]
  · rw [g_up_o _ _ _ _ _ _ (by omega), g_up_o _ _ _ _ _ _ (by omega)]
    exact f2c
  · refine q_SBo (fun k a b t hk => ?_) (hSB cs)
    rw [g_up_o _ _ _ _ _ _ (by omega), g_up_o _ _ _ _ _ _ (by omega), f1 k a b t (by omega) (by omega) (by omega) (by omega) (by omega) (by omega)]
/-! the class -/
def q_F8 (j : Nat) (s : g_Hp) : Prop := (∀ k x y t, k ≠ 0 → k ≠ 1 → k ≠ 2 → k ≠ 10 → k ≠ 11 → k ≠ 40 → k ≠ 41 → k ≠ 42 → k ≠ 50 → k ≠ 51 → s k x y t = 0) ∧ s 0 0 0 0 ≠ 0 ∧ s 0 0 0 1 = 1 ∧ s 0 0 0 2 = 1 ∧ (∀ t, 3 ≤ t → s 0 0 0 t = 0) ∧ s 10 0 0 0 ≠ 0 ∧ (∀ b, b ≤ j → s 1 b 0 0 ≠ 0 ∧ s 41 b 0 0 ≠ 0 ∧ (∀ t, 2 ≤ t → s 1 b 0 t = 0)) ∧ (∀ b, j < b → s 1 b 0 0 = 0 ∧ s 41 b 0 0 = 0 ∧ s 11 b 0 0 = 0 ∧ ∀ m, s 2 b m 0 = 0) ∧ (∀ b, 1 ≤ b → b ≤ j → b ≤ 9 → s 10 0 0 b = 1)
/-- book b, made new -/
theorem q_in1 {b : Nat} {s : g_Hp} {Q : g_R → g_Hp → Prop} (hb : s 1 b 0 0 = 0) (h41 : s 41 b 0 0 = 0) (h11 : s 11 b 0 0 = 0) (h2 : ∀ m, s 2 b m 0 = 0)
    (K : ∀ h', (∀ k x y t, ¬ ((k = 1 ∨ k = 2 ∨ k = 11 ∨ k = 41 ∨ k = 42 ∨ k = 51) ∧ x = b) → h' k x y t = s k x y t) → h' 1 b 0 0 ≠ 0 → h' 41 b 0 0 ≠ 0 → (∀ t, 2 ≤ t → h' 1 b 0 t = 0) → Q (.inl none) h') : s 1 b 0 0 = 0 ∧ ∀ h1 : g_Hp, h1 = g_nw s 1 b 0 1 0 → wX1_init b h1 Q := by
  refine And.intro hb (nm_e (q_iBk (by rw [g_nw_s0]; decide) ((q_nw_o (by omega) (by omega)).trans h11) (g_nw_l s 1 b 0 1 0) (fun j => (q_nw_o (by omega) (by omega)).trans (h2 j)) (fun h' f1 f2 f3 => K h' (fun k x y t n => ?_) ?_ (by rw [f3]; decide) (fun t ht => ?_))))
  · rw [f1 k x y t n]
    unfold g_nw
    rw [if_neg (by omega), if_neg (by omega)]
  · rw [f2 0 (by decide), g_nw_s0]
    decide
  · rw [f2 t (by omega), show t = (t - 1) + 1 by omega]
    exact g_nw_s _ _ _ _ _ _ _
theorem q_in8 {j : Nat} {x : Int32} {s : g_Hp} {R : g_Hp → Prop} {EX : String → g_Hp → Prop} (hx : x = nI j) (hj : j < 9) (F : q_F8 j s) (K : ∀ s', q_F8 (j + 1) s' → R s') : s 0 0 0 2 ≠ 0 ∧ g_okA s 50 0 0 ∧ s 1 (j + 1) 0 0 = 0 ∧ ∀ h1 : g_Hp, h1 = g_nw s 1 (j + 1) 0 1 0 → wX1_init (j + 1) h1 (g_kV (fun h4 => h4 41 (j + 1) 0 0 ≠ 0 ∧ (vp_in x 9 ∧ ((1, x.toNatClampNeg + 1, 0) : Nat × Nat × Nat) = (1, j + 1, 0)) ∧ ∀ h5 : g_Hp, h5 = g_up h4 10 0 0 (x.toNatClampNeg + 1) 1 → R h5) EX) := by
  obtain ⟨f1, f0, f01, f02, f03, f10, f2, f3, f4⟩ := F
  subst hx
  rw [nI_clamp (by omega)]
  have u := f3 (j + 1) (by omega)
  refine And.intro (by rw [f02]; decide) (And.intro (Or.inr (Or.inr ⟨by decide, by decide, f10⟩)) (q_in1 u.1 u.2.1 u.2.2.1 u.2.2.2 (fun h' g1 g2 g3 g4 => And.intro g3 (And.intro (And.intro (q_vI hj (by decide)) rfl) (nm_e (K _ ?_))))))
  have fo : ∀ k y z t, ¬ ((k = 1 ∨ k = 2 ∨ k = 11 ∨ k = 41 ∨ k = 42 ∨ k = 51) ∧ y = j + 1) → ¬ (k = 10 ∧ y = 0 ∧ z = 0 ∧ t = j + 1) → g_up h' 10 0 0 (j + 1) 1 k y z t = s k y z t := fun k y z t n1 n2 => by
    rw [g_up_o _ _ _ _ _ _ (by omega), g1 k y z t n1]
  refine ⟨fun k x y t n1 n2 n3 n4 n5 n6 n7 n8 n9 n10 => (fo k x y t (by omega) (by omega)).trans (f1 k x y t n1 n2 n3 n4 n5 n6 n7 n8 n9 n10), ?_, (fo _ _ _ _ (by omega) (by omega)).trans f01, (fo _ _ _ _ (by omega) (by omega)).trans f02, fun t ht => (fo _ _ _ _ (by omega) (by omega)).trans (f03 t ht), ?_, fun b hb => ?_, fun b hb => ?_, fun b h1 h2 h9 => ?_⟩
  · rw [fo _ _ _ _ (by omega) (by omega)]
    exact f0
  · rw [fo _ _ _ _ (by omega) (by omega)]
    exact f10
  · by_cases z : b = j + 1
    · subst z
      refine ⟨?_, ?_, fun t ht => ?_⟩
      · rw [g_up_o _ _ _ _ _ _ (by omega)]
        exact g2
      · rw [g_up_o _ _ _ _ _ _ (by omega)]
        exact g3
      · rw [g_up_o _ _ _ _ _ _ (by omega)]
        exact g4 t ht
    · have v := f2 b (by omega)
      refine ⟨?_, ?_, fun t ht => ?_⟩
      · rw [fo _ _ _ _ (by omega) (by omega)]
        exact v.1
      · rw [fo _ _ _ _ (by omega) (by omega)]
        exact v.2.1
      · rw [fo _ _ _ _ (by omega) (by omega)]
        exact v.2.2 t ht
  · have v := f3 b (by omega)
    rw [fo _ _ _ _ (by omega) (by omega), fo _ _ _ _ (by omega) (by omega), fo _ _ _ _ (by omega) (by omega)]
    exact ⟨v.1, v.2.1, v.2.2.1, fun m => (fo _ _ _ _ (by omega) (by omega)).trans (v.2.2.2 m)⟩
  · by_cases z : b = j + 1
    · subst z
      exact g_up_s _ _ _ _ _ _
    · rw [fo _ _ _ _ (by omega) (by omega)]
      exact f4 b h1 (by omega) h9
