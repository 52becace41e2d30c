/-! ===== how it starts ===== -/
theorem q_rt2 (s i : Nat) (x : Int32) : g_rt 2 s i x = none := rfl
theorem q_iSB {i : Nat} {h : g_Hp} {Q : g_R → g_Hp → Prop} (h6 : h 6 i 0 0 ≠ 0) (hz : ∀ s, h 6 i 0 (s + 1) = 0) (h14 : ∀ g, h 14 i g 0 = 0)
    (K : ∀ h', (∀ k a b s, ¬ ((k = 6 ∨ k = 46 ∨ k = 14 ∨ k = 54) ∧ a = i) → h' k a b s = h k a b s) → h' 6 i 0 0 = h 6 i 0 0 → h' 46 i 0 0 = 1 → (∀ cs, q_SB h' i 16 0 cs) → Q (.inl none) h') : wJ4_init_da8c8 i 0 h Q := by
  unfold wJ4_init_da8c8 wJ5_init_d00df
  refine br_f (by decide) ⟨0, h14 0, ⟨by decide, by decide⟩, ?_⟩
  refine nm_e (And.intro ⟨by decide, by decide⟩ (nm_e (nm_e ?_)))
  generalize hh : g_up (g_up (g_nw h 14 i 0 (Int32.ofNat ((16 : Int32).toNatClampNeg + 1)) 1) 6 i 0 1 (Int32.ofNat (0 + 1))) 6 i 0 2 0 = hB
  have fo : ∀ k a b s, ¬ (k = 14 ∧ a = i ∧ b = 0) → k ≠ 54 → ¬ (k = 6 ∧ a = i ∧ b = 0 ∧ (s = 1 ∨ s = 2)) → hB k a b s = h k a b s := fun k a b s n1 n2 n3 => by
    rw [← hh, g_up_o _ _ _ _ _ _ (by omega), g_up_o _ _ _ _ _ _ (by omega), q_nw_o n1 n2]
  have b1 : hB 6 i 0 1 = nI 1 := by rw [← hh, g_up_o _ _ _ _ _ _ (by omega), g_up_s]; rfl
  have b2 : hB 6 i 0 2 = 0 := by rw [← hh, g_up_s]
  have b4 : hB 6 i 0 4 = 0 := (fo _ _ _ _ (by omega) (by omega) (by omega)).trans (hz 3)
  have c0 : hB 14 i 0 0 = nI 17 := by rw [← hh, g_up_o _ _ _ _ _ _ (by omega), g_up_o _ _ _ _ _ _ (by omega), g_nw_s0]; decide
  have c1 : ∀ e, hB 14 i 0 (e + 1) = 0 := fun e => by rw [← hh, g_up_o _ _ _ _ _ _ (by omega), g_up_o _ _ _ _ _ _ (by omega), g_nw_s]
  have d0 : hB 54 i 0 0 = 1 := by
    rw [← hh, g_up_o _ _ _ _ _ _ (by omega), g_up_o _ _ _ _ _ _ (by omega)]
    exact g_nw_l _ 14 _ _ _ _
  have cg : ∀ g, 0 < g → hB 14 i g 0 = 0 := fun g z => (fo _ _ _ _ (by omega) (by omega) (by omega)).trans (h14 g)
  have dg : ∀ g s, ¬ (g = 0 ∧ s = 0) → hB 54 i g s = h 54 i g s := fun g s z => by
    rw [← hh, g_up_o _ _ _ _ _ _ (by omega), g_up_o _ _ _ _ _ _ (by omega)]
    unfold g_nw
    rw [if_neg (by omega), if_neg (by omega)]
  have do' : ∀ a b s, a ≠ i → hB 54 a b s = h 54 a b s := fun a b s z => by
    rw [← hh, g_up_o _ _ _ _ _ _ (by omega), g_up_o _ _ _ _ _ _ (by omega)]
    unfold g_nw
    rw [if_neg (by omega), if_neg (by omega)]
  have e0 : hB 6 i 0 0 = h 6 i 0 0 := fo _ _ _ _ (by omega) (by omega) (by omega)
  show g_sb hB 6 i 0 ∧ ∀ h2 : g_Hp, h2 = g_up hB 46 i 0 0 1 → Q (.inl none) h2
  refine And.intro ⟨by rw [e0]; exact h6, fun _ s a hs hq => ?_, fun q => absurd q (by decide)⟩ (nm_e (K _ (fun k a b s n => ?_) ?_ (g_up_s _ _ _ _ _ _) (fun cs => ?_)))
  · have hs4 : s < 4 := hs
    obtain rfl | rfl | rfl | rfl : s = 0 ∨ s = 1 ∨ s = 2 ∨ s = 3 := by omega
    · rw [b1] at hq ⊢
      have ea : (14, i, 0) = a := Option.some.inj hq
      subst ea
      exact ⟨by decide, Or.inl ⟨by show 14 < 20; decide, by show hB 14 i 0 0 ≠ 0; rw [c0]; decide, by show hB 54 i 0 0 ≠ 0; rw [d0]; decide⟩⟩
    · exact absurd hq (by intro z; cases z)
    · exact absurd hq (by intro z; cases z)
    · exact absurd hq (by intro z; cases z)
  · rw [g_up_o _ _ _ _ _ _ (by omega)]
    by_cases y : k = 54
    · subst y
      exact do' a b s (by omega)
    · exact fo _ _ _ _ (by omega) y (by omega)
  · rw [g_up_o _ _ _ _ _ _ (by omega), e0]
  · refine q_SBo (fun k a b s hk => g_up_o _ _ _ _ _ _ (by omega)) (h := hB) ⟨0, b4, b2, b1, by decide, by decide, by decide, by decide, c0, cg, fun e _ => ⟨0, by decide, c1 e⟩, fun e he => absurd he (by omega)⟩
/-! books -/
def q_F6 (h0 : g_Hp) (b j : Nat) (s : g_Hp) : Prop := (∀ k x y t, ¬ ((k = 1 ∨ k = 2 ∨ k = 11 ∨ k = 41 ∨ k = 42 ∨ k = 51) ∧ x = b) → s k x y t = h0 k x y t) ∧ s 1 b 0 1 = 1 ∧ s 11 b 0 0 ≠ 0 ∧ (∀ j', j ≤ j' → s 2 b j' 0 = 0) ∧ (∀ e, e < j → s 11 b 0 (e + 1) = 1 ∧ s 2 b e 0 ≠ 0 ∧ s 42 b e 0 ≠ 0) ∧ (∀ t, t ≠ 1 → s 1 b 0 t = h0 1 b 0 t)
theorem q_in6 {b j : Nat} {x : Int32} {h0 s : g_Hp} {R : g_Hp → Prop} {EX : String → g_Hp → Prop} (hx : x = nI j) (hj : j < 12) (F : q_F6 h0 b j s) (K : ∀ s', q_F6 h0 b (j + 1) s' → R s') : s 1 b 0 1 ≠ 0 ∧ g_okA s 51 b 0 ∧ s 2 b j 0 = 0 ∧ ∀ h3 : g_Hp, h3 = g_nw s 2 b j 1 0 → wX6_init b j h3 (g_kV (fun h4 => h4 42 b j 0 ≠ 0 ∧ (vp_in x 12 ∧ ((2, b, x.toNatClampNeg) : Nat × Nat × Nat) = (2, b, j)) ∧ ∀ h5 : g_Hp, h5 = g_up h4 11 b 0 (x.toNatClampNeg + 1) 1 → R h5) EX) := by
  obtain ⟨f1, f2, f3, f4, f5, f6⟩ := F
  subst hx
  rw [nI_clamp (by omega)]
  refine And.intro (by rw [f2]; decide) (And.intro (Or.inr (Or.inr ⟨by decide, by decide, f3⟩)) (And.intro (f4 j (Nat.le_refl _)) (nm_e ?_)))
  unfold wX6_init
  refine nm_e (And.intro ⟨?_, fun _ t a _ hq => ?_, fun q => absurd q (by decide)⟩ (nm_e ?_))
  · rw [g_up_o _ _ _ _ _ _ (by omega), g_nw_s0]
    decide
  · rw [q_rt2] at hq
    cases hq
  refine And.intro (by rw [g_up_s]; decide) (And.intro (And.intro (q_vI hj (by decide)) rfl) (nm_e (K _ ?_)))
  have fo : ∀ k y z t, ¬ (k = 2 ∧ y = b ∧ z = j) → ¬ (k = 42 ∧ y = b ∧ z = j) → ¬ (k = 11 ∧ y = b ∧ z = 0 ∧ t = j + 1) → g_up (g_up (g_up (g_nw s 2 b j 1 0) 2 b j 10 (-1)) 42 b j 0 1) 11 b 0 (j + 1) 1 k y z t = s k y z t := fun k y z t n1 n2 n3 => by
    rw [g_up_o _ _ _ _ _ _ (by omega), g_up_o _ _ _ _ _ _ (by omega), g_up_o _ _ _ _ _ _ (by omega)]
    unfold g_nw
    rw [if_neg n1, if_neg (by omega)]
  refine ⟨fun k y z t n => (fo k y z t (by omega) (by omega) (by omega)).trans (f1 k y z t n), (fo _ _ _ _ (by omega) (by omega) (by omega)).trans f2, ?_, fun j' hj' => (fo _ _ _ _ (by omega) (by omega) (by omega)).trans (f4 j' (by omega)), fun e he => ?_, fun t ht => (fo _ _ _ _ (by omega) (by omega) (by omega)).trans (f6 t ht)⟩
  · rw [fo _ _ _ _ (by omega) (by omega) (by omega)]
    exact f3
  · by_cases z : e = j
    · subst z
      refine ⟨g_up_s _ _ _ _ _ _, ?_, ?_⟩
      · rw [g_up_o _ _ _ _ _ _ (by omega), g_up_o _ _ _ _ _ _ (by omega), g_up_o _ _ _ _ _ _ (by omega), g_nw_s0]
        decide
      · rw [g_up_o _ _ _ _ _ _ (by omega), g_up_s]
        decide
    · rw [fo _ _ _ _ (by omega) (by omega) (by omega), fo _ _ _ _ (by omega) (by omega) (by omega), fo _ _ _ _ (by omega) (by omega) (by omega)]
      exact f5 e (by omega)
theorem q_iBk {b : Nat} {h : g_Hp} {Q : g_R → g_Hp → Prop} (h1 : h 1 b 0 0 ≠ 0) (h11 : h 11 b 0 0 = 0) (h41 : h 41 b 0 0 = 0) (h2 : ∀ j, h 2 b j 0 = 0)
    (K : ∀ h', (∀ k x y t, ¬ ((k = 1 ∨ k = 2 ∨ k = 11 ∨ k = 41 ∨ k = 42 ∨ k = 51) ∧ x = b) → h' k x y t = h k x y t) → (∀ t, t ≠ 1 → h' 1 b 0 t = h 1 b 0 t) → h' 41 b 0 0 = 1 → Q (.inl none) h') : wX1_init b h Q := by
  have F0 : q_F6 h b 0 (g_up (g_nw h 11 b 0 1 0) 1 b 0 1 1) := by
    have fo : ∀ k y z t, ¬ (k = 11 ∧ y = b ∧ z = 0) → ¬ (k = 51 ∧ y = b ∧ z = 0) → ¬ (k = 1 ∧ y = b ∧ z = 0 ∧ t = 1) → g_up (g_nw h 11 b 0 1 0) 1 b 0 1 1 k y z t = h k y z t := fun k y z t n1 n2 n3 => by
      rw [g_up_o _ _ _ _ _ _ (by omega)]
      unfold g_nw
      rw [if_neg n1, if_neg (by omega)]
    refine ⟨fun k x y t n => fo k x y t (by omega) (by omega) (by omega), g_up_s _ _ _ _ _ _, ?_, fun j' _ => (fo _ _ _ _ (by omega) (by omega) (by omega)).trans (h2 j'), fun e he => absurd he (by omega), fun t ht => fo _ _ _ _ (by omega) (by omega) (by omega)⟩
    rw [g_up_o _ _ _ _ _ _ (by omega), g_nw_s0]
    decide
  unfold wX1_init
  refine And.intro h11 (nm_e (And.intro ?_ (nm_e ?_)))
  · unfold g_nw
    rw [if_neg (by omega), if_neg (by omega)]
    exact h41
  refine q_in6 (h0 := h) (j := 0) rfl (by decide) F0 (fun s1 F1 => ?_)
  refine q_in6 (h0 := h) (j := 1) rfl (by decide) F1 (fun s2 F2 => ?_)
  refine q_in6 (h0 := h) (j := 2) rfl (by decide) F2 (fun s3 F3 => ?_)
  refine q_in6 (h0 := h) (j := 3) rfl (by decide) F3 (fun s4 F4 => ?_)
  refine q_in6 (h0 := h) (j := 4) rfl (by decide) F4 (fun s5 F5 => ?_)
  refine q_in6 (h0 := h) (j := 5) rfl (by decide) F5 (fun s6 F6 => ?_)
  refine q_in6 (h0 := h) (j := 6) rfl (by decide) F6 (fun s7 F7 => ?_)
  refine q_in6 (h0 := h) (j := 7) rfl (by decide) F7 (fun s8 F8 => ?_)
  refine q_in6 (h0 := h) (j := 8) rfl (by decide) F8 (fun s9 F9 => ?_)
  refine q_in6 (h0 := h) (j := 9) rfl (by decide) F9 (fun s10 F10 => ?_)
  refine q_in6 (h0 := h) (j := 10) rfl (by decide) F10 (fun s11 F11 => ?_)
  refine q_in6 (h0 := h) (j := 11) rfl (by decide) F11 (fun s12 F12 => ?_)
  obtain ⟨f1, f2, f3, f4, f5, f6⟩ := F12
  refine And.intro ⟨f3, fun q => absurd q (by decide), fun _ _ e he => ?_⟩ (nm_e (And.intro ⟨?_, fun _ t a ht hq => ?_, fun q => absurd q (by decide)⟩ (nm_e (K _ (fun k x y t n => ?_) (fun t ht => ?_) (g_up_s _ _ _ _ _ _)))))
  · have he' : e < 12 := he
    obtain ⟨g1, g2, g3⟩ := f5 e he'
    exact ⟨by rw [g1]; decide, Or.inl ⟨by show 2 < 20; decide, g2, g3⟩⟩
  · rw [g_up_o _ _ _ _ _ _ (by omega), f6 0 (by decide)]
    exact h1
  · have e1 : g_up s12 51 b 0 0 1 1 b 0 1 = 1 := (g_up_o _ _ _ _ _ _ (by omega)).trans f2
    have et : ∀ t, t < 12 → t ≠ 0 → ∀ x, g_rt 1 t b x = none := fun t ht hn x => by
      obtain rfl | rfl | rfl | rfl | rfl | rfl | rfl | rfl | rfl | rfl | rfl : t = 1 ∨ t = 2 ∨ t = 3 ∨ t = 4 ∨ t = 5 ∨ t = 6 ∨ t = 7 ∨ t = 8 ∨ t = 9 ∨ t = 10 ∨ t = 11 := by omega
      all_goals rfl
    by_cases z : t = 0
    · subst z
      have ea : (11, b, 0) = a := Option.some.inj hq
      subst ea
      refine ⟨by rw [e1]; decide, Or.inl ⟨by show 11 < 20; decide, ?_, ?_⟩⟩
      · show g_up s12 51 b 0 0 1 11 b 0 0 ≠ 0
        rw [g_up_o _ _ _ _ _ _ (by omega)]
        exact f3
      · show g_up s12 51 b 0 0 1 51 b 0 0 ≠ 0
        rw [g_up_s]
        decide
    · rw [et t ht z] at hq
      cases hq
  · rw [g_up_o _ _ _ _ _ _ (by omega), g_up_o _ _ _ _ _ _ (by omega), f1 k x y t n]
  · rw [g_up_o _ _ _ _ _ _ (by omega), g_up_o _ _ _ _ _ _ (by omega), f6 t ht]
