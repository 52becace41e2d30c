/-! ===== the model reads: the word, the command ===== -/
/-- which word is whole after k signs -/
theorem q_mFd {k : Nat} {x : Int32} {cl : Nat → Nat} {h : g_Hp} {Q : g_R → g_Hp → Prop} {R : Int32 → Int32 → g_Hp → Prop} (hW : q_WRD h) (hk8 : k < 20) (hb : ∀ i, i < 10 → h 13 6 0 (i + 1) = q_bt k (cl i)) (hx : (x = -1 ∧ ∀ i, i < 10 → ¬ (k ≤ cl i ∧ q_len0 i = k)) ∨ (∃ i, i < 10 ∧ k ≤ cl i ∧ q_len0 i = k ∧ (∀ j, j < 10 → k ≤ cl j → q_len0 j = k → j = i) ∧ x = nI i)) (K : R (nI k) x h) : wX8_word_b167 Q R (nI k) (-1) 0 h := by
  have step : ∀ f i y z, i < 10 → ((k ≤ cl i ∧ q_len0 i = k) → z = nI i) → (¬ (k ≤ cl i ∧ q_len0 i = k) → z = y) → wX8_word_b167_I Q R f (nI k) z (nI (i + 1)) h → wX8_word_b167_I Q R (f + 1) (nI k) y (nI i) h := fun f i y z hi hz1 hz2 hk => by
    show wX8_word_b167_B Q R _ _ _ _ _
    unfold wX8_word_b167_B wX8_word_b211 wX8_word_b212
    have h8 := q_len8 i hi
    have ho := (q_ofD i hi).2.2
    rw [nI_1, nI_clamp (by omega), nI_clamp (by omega), hb i hi, (q_wr8 hW hi).1, (q_wr8 hW hi).2, nI_add]
    refine br_f (nI_ge (b := 10) hi (by decide)) (And.intro (q_vI hi (by decide)) (And.intro (fun c => ?_) (fun c => ?_)))
    · have e := hz2 (fun q => c (if_pos q.1))
      subst e
      exact nm_e hk
    · have c' : k ≤ cl i := by
        rcases Nat.lt_or_ge (cl i) k with q | q
        · unfold q_bt at c
          rw [if_neg (by omega)] at c
          exact absurd c (by decide)
        · exact q
      refine And.intro (q_vI (by omega) (by decide)) (And.intro (q_vI (by omega) (by decide)) (And.intro (fun d => ?_) (fun d => ?_)))
      · have e := hz2 (fun q => d (by rw [q.2]))
        subst e
        exact nm_e hk
      · have e := hz1 ⟨c', by have := (nI_eq (by omega) (by omega)).mp d; omega⟩
        subst e
        exact nm_e hk
  rcases hx with ⟨rfl, h1⟩ | ⟨i, h1, h2, h3, h4, rfl⟩
  · refine q_loop (fun f i => wX8_word_b167_I Q R f (nI k) (-1) (nI i) h) 10 0 (Nat.zero_le _) (fun f => ?_) (fun f i _ hi hk => step f i _ _ hi (fun q => absurd q (h1 i hi)) (fun _ => rfl) hk)
    show wX8_word_b167_B Q R _ _ _ _ _
    unfold wX8_word_b167_B
    exact br_t (nI_le (a := 10) (Nat.le_refl _) (by decide)) K
  · have z := q_loop (fun f j => wX8_word_b167_I Q R f (nI k) (if j ≤ i then -1 else nI i) (nI j) h) 10 0 (Nat.zero_le _) (fun f => ?_) (fun f j _ hj hk => step f j _ (if j + 1 ≤ i then -1 else nI i) hj (fun q => ?_) (fun q => ?_) hk)
    · rw [if_pos (Nat.zero_le _)] at z
      exact z
    · show wX8_word_b167_B Q R _ _ _ _ _
      unfold wX8_word_b167_B
      rw [if_neg (by omega)]
      exact br_t (nI_le (a := 10) (Nat.le_refl _) (by decide)) K
    · have := h4 j hj q.1 q.2
      rw [if_neg (by omega), this]
    · by_cases c : j + 1 ≤ i
      · rw [if_pos c, if_pos (by omega)]
      · rw [if_neg c, if_neg (fun d => q ?_)]
        have e : j = i := by omega
        rw [e]
        exact ⟨h2, h3⟩
theorem q_mWd {n p : Nat} {cs : Nat → Nat} {h : g_Hp} {Q : g_R → g_Hp → Prop} (hT : q_MT n cs h) (e : h 5 0 0 16 = nI p) (e9 : h 5 0 0 19 = 0) (hp : p < 900)
    (K1 : ∀ i h', q_KW (q_A n cs) p i → q_FM h h' → h' 5 0 0 16 = nI (p + q_len0 i) → h' 5 0 0 19 = 0 → Q (.inl (some (vI (nI i)))) h')
    (K0 : ∀ M h', q_KN (q_A n cs) p M → q_FM h h' → h' 5 0 0 16 = nI (p + M) → h' 5 0 0 19 = 1 → Q (.inl (some (vI (-1)))) h') : wX8_word h Q := by
  have ⟨cl, hcl⟩ : ∃ cl : Nat → Nat, ∀ i, q_CL (q_A n cs) p i (cl i) := ⟨fun i => Classical.choose (q_CLx _ p i), fun i => Classical.choose_spec (q_CLx _ p i)⟩
  -- one round
  have round : ∀ (R : Int32 → Int32 → g_Hp → Prop) k s, k < 8 → q_FM h s → s 5 0 0 16 = nI (p + k) → s 5 0 0 19 = 0 → (∀ i, i < 10 → s 13 6 0 (i + 1) = q_bt k (cl i)) →
      (k + 1 ≤ q_mx cl 10 → ∀ s' x, q_FM h s' → s' 5 0 0 16 = nI (p + (k + 1)) → s' 5 0 0 19 = 0 → (∀ i, i < 10 → s' 13 6 0 (i + 1) = q_bt (k + 1) (cl i)) → ((x = -1 ∧ ∀ i, i < 10 → ¬ (k + 1 ≤ cl i ∧ q_len0 i = k + 1)) ∨ (∃ i, i < 10 ∧ k + 1 ≤ cl i ∧ q_len0 i = k + 1 ∧ x = nI i)) → R (nI (k + 1)) x s') →
      (¬ k + 1 ≤ q_mx cl 10 → ∀ s', q_FM h s' → s' 5 0 0 16 = nI (p + k) → s' 5 0 0 19 = 1 → R (nI (k + 1)) (-1) s') → ((¬ 0 ≤ (-1 : Int32)) → ((¬ s 5 0 0 19 = 0) → wX8_word_b222 Q (-1) s) ∧ ((s 5 0 0 19 = 0) → wX8_word_b41 Q R (nI k) (-1) 0 0 s)) := fun R k s hk fs es es9 hb A1 A0 _ => by
    refine q_n0 es9 (q_mIn (q_MTc fs hT) es hp hk hcl hb (fun s1 f1 b1 => ?_))
    have F1 : q_FM h s1 := fun a x b t n1 n2 => (f1 a x b t n2).trans (fs a x b t n1 n2)
    have e1 : s1 5 0 0 16 = nI (p + k) := (f1 _ _ _ _ (by omega)).trans es
    have end' : ∀ (z y : Int32) (w : Nat), (z = 0 ∨ z = 1) → y = nI w → (∀ s', q_FM h s' → s' 5 0 0 16 = nI (p + k + w) → s' 5 0 0 19 = z → (∀ i, i < 10 → s' 13 6 0 (i + 1) = q_bt (k + 1) (cl i)) → wX8_word_b167 Q R (nI (k + 1)) (-1) 0 s') → ∀ h1 : g_Hp, h1 = g_up s1 5 0 0 19 z → wX8_word_b157 Q R (nI k) (-1) y (h1 5 0 0 16) h1 := fun z y w _ hy L h1 eh => by
      subst eh hy
      unfold wX8_word_b157
      rw [g_up_o _ _ _ _ _ _ (by omega), e1, nI_add, nI_1]
      refine nm_e (nm_e (L _ (fun a x b t n1 n2 => ?_) (g_up_s _ _ _ _ _ _) ?_ (fun i hi => ?_)))
      · rw [g_up_o _ _ _ _ _ _ (by omega), g_up_o _ _ _ _ _ _ (by omega), F1 a x b t n1 n2]
      · rw [g_up_o _ _ _ _ _ _ (by omega), g_up_s]
      · rw [g_up_o _ _ _ _ _ _ (by omega), g_up_o _ _ _ _ _ _ (by omega), b1 i hi]
    by_cases c : k + 1 ≤ q_mx cl 10
    · have eb : q_bt (k + 1) (q_mx cl 10) = 1 := if_pos c
      rw [eb]
      refine q_n1 (by decide) ?_
      unfold wX8_word_b140
      refine And.intro (Or.inl rfl) (fun h1 eh => br_f (by decide) (end' 0 1 1 (Or.inl rfl) rfl (fun s' f' e' e9' b' => ?_) h1 eh))
      have hW := (q_MTc f' hT).2.2.2
      rcases Classical.em (∃ i, i < 10 ∧ k + 1 ≤ cl i ∧ q_len0 i = k + 1) with ⟨i, i1, i2, i3⟩ | no
      · refine q_mFd hW (by omega) b' (Or.inr ⟨i, i1, i2, i3, fun j j1 j2 j3 => ?_, rfl⟩) (A1 c s' _ f' e' e9' b' (Or.inr ⟨i, i1, i2, i3, rfl⟩))
        exact q_KWu (A := q_A n cs) (p := p) ⟨j1, fun k' hk' => (hcl j).2.1 k' (by omega)⟩ ⟨i1, fun k' hk' => (hcl i).2.1 k' (by omega)⟩
      · exact q_mFd hW (by omega) b' (Or.inl ⟨rfl, fun i hi q => no ⟨i, hi, q⟩⟩) (A1 c s' _ f' e' e9' b' (Or.inl ⟨rfl, fun i hi q => no ⟨i, hi, q⟩⟩))
    · have eb : q_bt (k + 1) (q_mx cl 10) = 0 := if_neg c
      rw [eb]
      refine q_n0 rfl ?_
      unfold wX8_word_b140
      refine And.intro (Or.inr rfl) (fun h1 eh => br_t rfl (end' 1 0 0 (Or.inr rfl) rfl (fun s' f' e' e9' b' => ?_) h1 eh))
      refine q_mFd (q_MTc f' hT).2.2.2 (by omega) b' (Or.inl ⟨rfl, fun i hi q => c ?_⟩) (A0 c s' f' e' e9')
      have := q_mx_le (cl := cl) hi
      omega
  have hM : q_mx cl 10 ≤ 7 := q_mx_b (fun j hj => by have := (hcl j).1; have := (q_len8 j hj).1; omega)
  -- the outer loop, from its start
  have outer : ∀ s, q_FM h s → s 5 0 0 16 = nI (p + 0) → s 5 0 0 19 = 0 → (∀ i, i < 10 → s 13 6 0 (i + 1) = q_bt 0 (cl i)) → wX8_word_b25 Q 0 (-1) s := fun s fs es es9 hb => by
    have exit0 : ∀ f x s', ¬ 0 ≤ (-1 : Int32) → q_KN (q_A n cs) p (q_mx cl 10) → q_FM h s' → s' 5 0 0 16 = nI (p + q_mx cl 10) → s' 5 0 0 19 = 1 → wX8_word_b25_I Q (f + 1) x (-1) s' := fun f x s' z kn f' e' e9' => by
      show wX8_word_b25_B Q _ _ _ _
      unfold wX8_word_b25_B wX8_word_b222
      exact br_f z (q_n1 (by rw [e9']; decide) (K0 _ s' kn f' e' e9'))
    have exit1 : ∀ f x i s', i < 10 → q_KW (q_A n cs) p i → q_FM h s' → s' 5 0 0 16 = nI (p + q_len0 i) → s' 5 0 0 19 = 0 → wX8_word_b25_I Q (f + 1) x (nI i) s' := fun f x i s' hi kw f' e' e9' => by
      show wX8_word_b25_B Q _ _ _ _
      unfold wX8_word_b25_B wX8_word_b222
      exact br_t (nI_le (a := 0) (Nat.zero_le _) (by omega)) (K1 i s' kw f' e' e9')
    rcases Classical.em (∃ i, q_KW (q_A n cs) p i) with ⟨i, hi⟩ | hno
    · have ei := q_KWt (hcl i) hi
      have h8 := q_len8 i hi.1
      have i10 := hi.1
      refine q_lpI (fun f (s : Nat × g_Hp) => wX8_word_b25_I Q (f + 1) (nI s.1) (-1) s.2) (fun k s => s.1 = k ∧ q_FM h s.2 ∧ s.2 5 0 0 16 = nI (p + k) ∧ s.2 5 0 0 19 = 0 ∧ ∀ i, i < 10 → s.2 13 6 0 (i + 1) = q_bt k (cl i)) (q_len0 i - 1) 0 (Nat.zero_le _) ?_ ?_ (0, s) ⟨rfl, fs, es, es9, hb⟩ |> fun ⟨f, z⟩ => ⟨f + 1, z⟩
      · rintro f ⟨k, s⟩ ⟨rfl, fs, es, es9, hb⟩
        show wX8_word_b25_B Q _ _ _ _
        unfold wX8_word_b25_B
        refine ⟨fun q => absurd q (by decide), round _ _ s (by omega) fs es es9 hb (fun c s' x f' e' e9' b' hx => ?_) (fun c s' f' e' e9' => ?_)⟩
        · rcases hx with ⟨_, h2⟩ | ⟨j, j1, j2, j3, rfl⟩
          · exact absurd ⟨by omega, by omega⟩ (h2 i i10)
          · have kwj : q_KW (q_A n cs) p j := ⟨j1, fun k' hk' => (hcl j).2.1 k' (by omega)⟩
            have := q_KWu kwj hi
            subst this
            exact exit1 f _ _ s' j1 kwj f' (e'.trans (congrArg (fun y => nI (p + y)) j3.symm)) e9'
        · have := q_mx_le (cl := cl) i10
          omega
      · rintro f k ⟨k', s⟩ _ hk ⟨rfl, fs, es, es9, hb⟩ hc
        show wX8_word_b25_B Q _ _ _ _
        unfold wX8_word_b25_B
        refine ⟨fun q => absurd q (by decide), round _ _ s (by omega) fs es es9 hb (fun c s' x f' e' e9' b' hx => ?_) (fun c s' f' e' e9' => ?_)⟩
        · rcases hx with ⟨rfl, h2⟩ | ⟨j, j1, j2, j3, rfl⟩
          · exact hc (k' + 1, s') ⟨rfl, f', e', e9', b'⟩
          · have kwj : q_KW (q_A n cs) p j := ⟨j1, fun k' hk' => (hcl j).2.1 k' (by omega)⟩
            have := q_KWu kwj hi
            subst this
            have hk2 : k' < q_len0 j - 1 := hk
            omega
        · have := q_mx_le (cl := cl) i10
          have hk2 : k' < q_len0 i - 1 := hk
          omega
    · have kn : q_KN (q_A n cs) p (q_mx cl 10) := ⟨cl, fun i hi => ⟨hcl i, q_KWf hi (hcl i) (fun q => hno ⟨i, q⟩)⟩, rfl⟩
      have nof : ∀ k i, i < 10 → ¬ (k + 1 ≤ cl i ∧ q_len0 i = k + 1) := fun k i hi q => by
        have := q_KWf hi (hcl i) (fun q => hno ⟨i, q⟩)
        omega
      refine q_lpI (fun f (s : Nat × g_Hp) => wX8_word_b25_I Q (f + 1) (nI s.1) (-1) s.2) (fun k s => s.1 = k ∧ q_FM h s.2 ∧ s.2 5 0 0 16 = nI (p + k) ∧ s.2 5 0 0 19 = 0 ∧ ∀ i, i < 10 → s.2 13 6 0 (i + 1) = q_bt k (cl i)) (q_mx cl 10) 0 (Nat.zero_le _) ?_ ?_ (0, s) ⟨rfl, fs, es, es9, hb⟩ |> fun ⟨f, z⟩ => ⟨f + 1, z⟩
      · rintro f ⟨k, s⟩ ⟨rfl, fs, es, es9, hb⟩
        show wX8_word_b25_B Q _ _ _ _
        unfold wX8_word_b25_B
        exact ⟨fun q => absurd q (by decide), round _ _ s (by omega) fs es es9 hb (fun c => absurd c (by omega)) (fun c s' f' e' e9' => exit0 f _ s' (by decide) kn f' e' e9')⟩
      · rintro f k ⟨k', s⟩ _ hk ⟨rfl, fs, es, es9, hb⟩ hc
        show wX8_word_b25_B Q _ _ _ _
        unfold wX8_word_b25_B
        have hk2 : k' < q_mx cl 10 := hk
        refine ⟨fun q => absurd q (by decide), round _ _ s (by omega) fs es es9 hb (fun c s' x f' e' e9' b' hx => ?_) (fun c => absurd (show k' + 1 ≤ q_mx cl 10 by omega) c)⟩
        rcases hx with ⟨rfl, h2⟩ | ⟨j, j1, j2, j3, rfl⟩
        · exact hc (k' + 1, s') ⟨rfl, f', e', e9', b'⟩
        · exact absurd ⟨j2, j3⟩ (nof k' j j1)
  -- all words are open
  unfold wX8_word
  refine q_lpI (fun f (s : Nat × g_Hp) => wX8_word_b2_I Q f (nI s.1) s.2) (fun i s => s.1 = i ∧ (∀ a x b t, ¬ (a = 13 ∧ x = 6) → s.2 a x b t = h a x b t) ∧ ∀ j, j < i → s.2 13 6 0 (j + 1) = 1) 10 0 (Nat.zero_le _) ?_ ?_ (0, h) ⟨rfl, fun _ _ _ _ _ => rfl, fun j hj => absurd hj (by omega)⟩
  · rintro f ⟨i, s⟩ ⟨rfl, fr, b1⟩
    show wX8_word_b2_B Q _ _ _
    unfold wX8_word_b2_B
    exact br_t (nI_le (a := 10) (b := 10) (Nat.le_refl _) (by decide)) (outer s (fun a x b t n1 n2 => fr a x b t n2) ((fr _ _ _ _ (by omega)).trans e) ((fr _ _ _ _ (by omega)).trans e9) (fun i hi => (b1 i hi).trans (if_pos (Nat.zero_le _)).symm))
  · rintro f i ⟨j, s⟩ _ hi ⟨rfl, fr, b1⟩ hk
    show wX8_word_b2_B Q _ _ _
    unfold wX8_word_b2_B
    have hi' : j < 10 := hi
    dsimp only at fr b1 ⊢
    rw [nI_1, nI_clamp (by omega)]
    refine br_f (nI_ge (b := 10) hi' (by decide)) (And.intro (q_vI hi' (by decide)) (nm_e (nm_e (hk (j + 1, g_up s 13 6 0 (j + 1) 1) ⟨rfl, fun a x b t n1 => ?_, fun i hi2 => ?_⟩))))
    · exact (g_up_o _ _ _ _ _ _ (by omega)).trans (fr a x b t n1)
    · show g_up s 13 6 0 (j + 1) 1 13 6 0 (i + 1) = 1
      have hi3 : i < j + 1 := hi2
      by_cases z : i = j
      · rw [z, g_up_s]
      · rw [g_up_o _ _ _ _ _ _ (by omega)]
        exact b1 i (by omega)
