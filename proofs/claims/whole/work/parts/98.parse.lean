/-! ===== reading the text: what both read ===== -/
def q_A (n : Nat) (cs : Nat → Nat) (p : Nat) : Int32 := if p < n then nI (cs p) else -1
def q_di (x : Int32) : Prop := ¬ x < 48 ∧ ¬ 57 < x
def q_len0 (i : Nat) : Nat := (g_by i).length
def q_chw (i k : Nat) : Int32 := (g_by i).getD k 0
def q_KW (A : Nat → Int32) (p i : Nat) : Prop := i < 10 ∧ ∀ k, k < q_len0 i → A (p + k) = q_chw i k
def q_CL (A : Nat → Int32) (p i c : Nat) : Prop := c ≤ q_len0 i ∧ (∀ k, k < c → A (p + k) = q_chw i k) ∧ (c < q_len0 i → ¬ A (p + c) = q_chw i c)
theorem q_CLx (A : Nat → Int32) (p i : Nat) : ∃ c, q_CL A p i c := by
  rcases q_fnd (fun k => ¬ A (p + k) = q_chw i k) (q_len0 i) with ⟨m, h1, h2, h3⟩ | h1
  · exact ⟨m, by omega, fun k hk => Decidable.not_not.mp (h3 k hk), fun _ => h2⟩
  · exact ⟨q_len0 i, Nat.le_refl _, fun k hk => Decidable.not_not.mp (h1 k hk), fun q => absurd q (by omega)⟩
def q_mx (cl : Nat → Nat) : Nat → Nat
  | 0 => 0
  | n + 1 => max (q_mx cl n) (cl n)
theorem q_mx_le {cl : Nat → Nat} : ∀ {n i : Nat}, i < n → cl i ≤ q_mx cl n
  | 0, _, h => absurd h (by omega)
  | n + 1, i, h => by
    show cl i ≤ max (q_mx cl n) (cl n)
    by_cases e : i = n
    · rw [e]
      exact Nat.le_max_right _ _
    · exact Nat.le_trans (q_mx_le (n := n) (by omega)) (Nat.le_max_left _ _)
theorem q_mx_b {cl : Nat → Nat} {b : Nat} : ∀ {n : Nat}, (∀ i, i < n → cl i ≤ b) → q_mx cl n ≤ b
  | 0, _ => Nat.zero_le _
  | n + 1, h => Nat.max_le.mpr ⟨q_mx_b (n := n) (fun i hi => h i (by omega)), h n (by omega)⟩
/-- no word stands at p; as far as one agrees -/
def q_KN (A : Nat → Int32) (p M : Nat) : Prop := ∃ cl : Nat → Nat, (∀ i, i < 10 → q_CL A p i (cl i) ∧ cl i < q_len0 i) ∧ M = q_mx cl 10
theorem q_len8 : ∀ i, i < 10 → q_len0 i < 8 ∧ 4 ≤ q_len0 i := by decide
theorem q_KWf {A : Nat → Int32} {p i c : Nat} (hi : i < 10) (hc : q_CL A p i c) (h : ¬ q_KW A p i) : c < q_len0 i := by
  rcases Nat.lt_or_ge c (q_len0 i) with q | q
  · exact q
  · exact absurd ⟨hi, fun k hk => hc.2.1 k (by omega)⟩ h
theorem q_KWt {A : Nat → Int32} {p i c : Nat} (hc : q_CL A p i c) (h : q_KW A p i) : c = q_len0 i := by
  rcases Nat.lt_or_ge c (q_len0 i) with q | q
  · exact absurd (h.2 c q) (hc.2.2 q)
  · have := hc.1
    omega
theorem q_KWD (A : Nat → Int32) (p : Nat) : (∃ i, q_KW A p i) ∨ (∃ M, q_KN A p M) := by
  rcases Classical.em (∃ i, q_KW A p i) with h | h
  · exact Or.inl h
  · refine Or.inr ⟨_, fun i => Classical.choose (q_CLx A p i), fun i hi => ⟨Classical.choose_spec (q_CLx A p i), q_KWf hi (Classical.choose_spec (q_CLx A p i)) (fun q => h ⟨i, q⟩)⟩, rfl⟩
theorem q_wne : ∀ i, i < 10 → ∀ j, j < 10 → i ≠ j → ∃ k, k < 8 ∧ k < q_len0 i ∧ k < q_len0 j ∧ ¬ q_chw i k = q_chw j k := by decide +kernel
theorem q_KWu {A : Nat → Int32} {p i j : Nat} (h1 : q_KW A p i) (h2 : q_KW A p j) : i = j := by
  rcases Nat.decEq i j with q | q
  · obtain ⟨k, _, k1, k2, k3⟩ := q_wne i h1.1 j h2.1 q
    exact absurd ((h1.2 k k1).symm.trans (h2.2 k k2)) k3
  · exact q
def q_nv (A : Nat → Int32) (p : Nat) : Nat → Int32
  | 0 => 0
  | c + 1 => q_nv A p c * 10 + (A (p + c) - 48)
def q_NC (A : Nat → Int32) (p m c : Nat) : Prop := c ≤ m ∧ (∀ k, k < c → q_di (A (p + k))) ∧ (c < m → ¬ q_di (A (p + c)))
theorem q_NCx (A : Nat → Int32) (p m : Nat) : ∃ c, q_NC A p m c := by
  have : DecidablePred (fun k => ¬ q_di (A (p + k))) := fun k => Classical.propDecidable _
  rcases q_fnd (fun k => ¬ q_di (A (p + k))) m with ⟨c, h1, h2, h3⟩ | h1
  · exact ⟨c, by omega, fun k hk => Classical.not_not.mp (h3 k hk), fun _ => h2⟩
  · exact ⟨m, Nat.le_refl _, fun k hk => Classical.not_not.mp (h1 k hk), fun q => absurd q (by omega)⟩
def q_hd (kw : Nat) : Prop := kw = 0 ∨ kw = 1 ∨ kw = 6
/-- the word, its digit and a space -/
def q_C3 (A : Nat → Int32) (p kw p3 : Nat) (d : Int32) : Prop := q_KW A p kw ∧ ((q_hd kw ∧ q_di (A (p + q_len0 kw)) ∧ d = A (p + q_len0 kw) - 48 ∧ A (p + q_len0 kw + 1) = 32 ∧ p3 = p + q_len0 kw + 2) ∨ (¬ q_hd kw ∧ p3 = p + q_len0 kw))
/-- its number -/
def q_C4 (A : Nat → Int32) (p3 kw p4 : Nat) (v : Int32) : Prop := (kw = 4 ∧ p4 = p3) ∨ (kw ≠ 4 ∧ ∃ c, 1 ≤ c ∧ q_NC A p3 3 c ∧ v = q_nv A p3 c ∧ p4 = p3 + c)
/-- its sign -/
def q_C5 (A : Nat → Int32) (p4 kw p' : Nat) (s : Int32) : Prop := (kw ≠ 3 ∧ p' = p4) ∨ (kw = 3 ∧ p' = p4 + 1 ∧ ((A p4 = 43 ∧ s = 1) ∨ (A p4 = 45 ∧ s = 0)))
def q_CK (A : Nat → Int32) (p p' kw : Nat) (d v s : Int32) : Prop := ∃ p3 p4, q_C3 A p kw p3 d ∧ q_C4 A p3 kw p4 v ∧ q_C5 A p4 kw p' s
/-- where a command goes wrong -/
def q_CF (A : Nat → Int32) (p p' : Nat) : Prop :=
  (∃ M, q_KN A p M ∧ p' = p + M) ∨
  (∃ kw, q_KW A p kw ∧ q_hd kw ∧ ¬ q_di (A (p + q_len0 kw)) ∧ p' = p + q_len0 kw) ∨
  (∃ kw, q_KW A p kw ∧ q_hd kw ∧ q_di (A (p + q_len0 kw)) ∧ ¬ A (p + q_len0 kw + 1) = 32 ∧ p' = p + q_len0 kw + 1) ∨
  (∃ kw d, q_C3 A p kw p' d ∧ kw ≠ 4 ∧ ¬ q_di (A p')) ∨
  (∃ p3 d v, q_C3 A p 3 p3 d ∧ q_C4 A p3 3 p' v ∧ ¬ A p' = 43 ∧ ¬ A p' = 45)
theorem q_CD (A : Nat → Int32) (p : Nat) : (∃ p' kw d v s, q_CK A p p' kw d v s) ∨ (∃ p', q_CF A p p') := by
  rcases q_KWD A p with ⟨kw, hk⟩ | ⟨M, hM⟩
  · have h3 : (∃ p3 d, q_C3 A p kw p3 d) ∨ ∃ p', q_CF A p p' := by
      rcases Classical.em (q_hd kw) with a | a
      · rcases Classical.em (q_di (A (p + q_len0 kw))) with b | b
        · rcases Classical.em (A (p + q_len0 kw + 1) = 32) with c | c
          · exact Or.inl ⟨_, _, hk, Or.inl ⟨a, b, rfl, c, rfl⟩⟩
          · exact Or.inr ⟨_, Or.inr (Or.inr (Or.inl ⟨kw, hk, a, b, c, rfl⟩))⟩
        · exact Or.inr ⟨_, Or.inr (Or.inl ⟨kw, hk, a, b, rfl⟩)⟩
      · exact Or.inl ⟨_, 0, hk, Or.inr ⟨a, rfl⟩⟩
    rcases h3 with ⟨p3, d, h3⟩ | h3
    · have h4 : (∃ p4 v, q_C4 A p3 kw p4 v) ∨ ∃ p', q_CF A p p' := by
        rcases Nat.decEq kw 4 with a | a
        · obtain ⟨c, hc⟩ := q_NCx A p3 3
          rcases Nat.eq_zero_or_pos c with b | b
          · subst b
            exact Or.inr ⟨p3, Or.inr (Or.inr (Or.inr (Or.inl ⟨kw, d, h3, a, hc.2.2 (by decide)⟩)))⟩
          · exact Or.inl ⟨_, _, Or.inr ⟨a, c, b, hc, rfl, rfl⟩⟩
        · exact Or.inl ⟨p3, 0, Or.inl ⟨a, rfl⟩⟩
      rcases h4 with ⟨p4, v, h4⟩ | h4
      · rcases Nat.decEq kw 3 with a | a
        · exact Or.inl ⟨p4, kw, d, v, 0, p3, p4, h3, h4, Or.inl ⟨a, rfl⟩⟩
        · rcases Classical.em (A p4 = 43) with b | b
          · exact Or.inl ⟨p4 + 1, kw, d, v, 1, p3, p4, h3, h4, Or.inr ⟨a, rfl, Or.inl ⟨b, rfl⟩⟩⟩
          · rcases Classical.em (A p4 = 45) with c | c
            · exact Or.inl ⟨p4 + 1, kw, d, v, 0, p3, p4, h3, h4, Or.inr ⟨a, rfl, Or.inr ⟨c, rfl⟩⟩⟩
            · subst a
              exact Or.inr ⟨p4, Or.inr (Or.inr (Or.inr (Or.inr ⟨p3, d, v, h3, h4, b, c⟩)))⟩
      · exact Or.inr h4
    · exact Or.inr h3
  · exact Or.inr ⟨_, Or.inl ⟨M, hM, rfl⟩⟩
/-! ===== the class reads ===== -/
theorem q_isAt {n cap p : Nat} {cs : Nat → Nat} {ch : Int32} {h : g_Hp} {Q : g_R → g_Hp → Prop} (hS : q_SB h 0 cap n cs) (hn : n ≤ 60) (hp : p < 2 ^ 31) (hch : ¬ (-1 : Int32) = ch) (K1 : q_A n cs p = ch → Q (.inl (some (vI 1))) h) (K0 : ¬ q_A n cs p = ch → Q (.inl (some (vI 0))) h) : wX3_isAt (nI p) ch h Q := by
  unfold wX3_isAt
  refine br_f (q_nlt0 hp) (q_sle hS (And.intro (fun c => ?_) (fun c => ?_)))
  · rw [nI_leI (by omega) hp] at c
    have e : q_A n cs p = -1 := if_neg (by omega)
    exact And.intro (Or.inl rfl) (K0 (fun q => hch (e.symm.trans q)))
  · rw [nI_leI (by omega) hp] at c
    have e : q_A n cs p = nI (cs p) := if_pos (by omega)
    exact q_cAt hS (by omega) (And.intro (fun d => And.intro (Or.inl rfl) (K0 (by rw [e]; exact d))) (fun d => And.intro (Or.inr rfl) (K1 (by rw [e]; exact d))))
theorem q_dAt {n cap p : Nat} {cs : Nat → Nat} {h : g_Hp} {Q : g_R → g_Hp → Prop} (hS : q_SB h 0 cap n cs) (hn : n ≤ 60) (hp : p < 2 ^ 31) (K1 : q_di (q_A n cs p) → Q (.inl (some (vI (q_A n cs p - 48)))) h) (K0 : ¬ q_di (q_A n cs p) → Q (.inl (some (vI (-1)))) h) : wX3_digitAt (nI p) h Q := by
  unfold wX3_digitAt
  refine br_f (q_nlt0 hp) (q_sle hS (And.intro (fun c => ?_) (fun c => ?_)))
  · rw [nI_ltI hp (by omega)] at c
    have e : q_A n cs p = nI (cs p) := if_pos c
    rw [e] at K1 K0
    exact q_cAt hS c (And.intro (fun d => K0 (fun q => q.1 d)) (fun d => And.intro (fun f => K0 (fun q => q.2 f)) (fun f => K1 ⟨d, f⟩)))
  · rw [nI_ltI hp (by omega)] at c
    have e : q_A n cs p = -1 := if_neg c
    rw [e] at K0
    exact K0 (fun q => q.1 (by decide))
theorem q_diN {x : Int32} (h : q_di x) : ∃ j, j < 10 ∧ x - 48 = nI j := by
  rcases q_rg x 48 57 (by decide) (by decide) with c | c | ⟨j, h1, h2, rfl⟩
  · exact absurd c h.1
  · exact absurd c h.2
  · exact ⟨j - 48, by omega, by rw [q_lit 48, pk_sub (by omega)]⟩
theorem q_nm1 {n : Nat} (hn : n < 2 ^ 31) : ¬ nI n = -1 := fun q => by
  have := congrArg Int32.toInt q
  rw [nI_toInt hn] at this
  have y3 : (-1 : Int32).toInt = -1 := by decide
  omega
theorem q_rSg {n cap p : Nat} {cs : Nat → Nat} {ch : Int32} {h : g_Hp} {Q : g_R → g_Hp → Prop} (hS : q_SB h 0 cap n cs) (hn : n ≤ 60) (e : h 3 0 0 4 = nI p) (hp : p < 2 ^ 31) (hch : ¬ (-1 : Int32) = ch) (K1 : q_A n cs p = ch → Q (.inl (some (vI 1))) (g_up h 3 0 0 4 (nI (p + 1)))) (K0 : ¬ q_A n cs p = ch → Q (.inl (some (vI 0))) h) : wX3_readSign ch h Q := by
  unfold wX3_readSign
  rw [e]
  refine q_isAt hS hn hp hch (fun c => q_n1 (by decide) ?_) (fun c => q_n0 rfl (K0 c))
  rw [e, nI_1]
  exact nm_e (K1 c)
theorem q_rDg {n cap p a : Nat} {cs : Nat → Nat} {h : g_Hp} {Q : g_R → g_Hp → Prop} (hS : q_SB h 0 cap n cs) (hn : n ≤ 60) (e : h 3 0 0 4 = nI p) (hp : p < 2 ^ 31) (K1 : q_di (q_A n cs p) → Q (.inl (some (vI 1))) (g_up (g_up h 4 a 0 2 (q_A n cs p - 48)) 3 0 0 4 (nI (p + 1)))) (K0 : ¬ q_di (q_A n cs p) → Q (.inl (some (vI 0))) h) : wX3_readDigit a h Q := by
  unfold wX3_readDigit
  rw [e]
  refine q_dAt hS hn hp (fun c => ?_) (fun c => q_n0 rfl (K0 c))
  obtain ⟨j, j1, j2⟩ := q_diN c
  refine q_n1 (by rw [j2]; exact q_nm1 (by omega)) (nm_e ?_)
  rw [g_up_o _ _ _ _ _ _ (by omega), e, nI_1]
  exact nm_e (K1 c)
theorem q_SBo {h h' : g_Hp} {i cap cnt : Nat} {cs : Nat → Nat} (e : ∀ k a b s, k = 6 ∨ k = 14 → h' k a b s = h k a b s) (hS : q_SB h i cap cnt cs) : q_SB h' i cap cnt cs := q_SB_c (fun s => e _ _ _ _ (Or.inl rfl)) (fun b s => e _ _ _ _ (Or.inr rfl)) hS
/-- a loop with an invariant of its state -/
theorem q_lpI {σ : Type} (W : Nat → σ → Prop) (I : Nat → σ → Prop) (e i0 : Nat) (hi : i0 ≤ e) (hx : ∀ k s, I e s → W (k + 1) s) (hs : ∀ k i s, i0 ≤ i → i < e → I i s → (∀ s', I (i + 1) s' → W k s') → W (k + 1) s) : ∀ s, I i0 s → ∃ k, W k s := by
  have key : ∀ d i, i0 ≤ i → i + d = e → ∀ s, I i s → W (d + 1) s := by
    intro d
    induction d with
    | zero =>
      intro i h1 h2 s hI
      have : i = e := by omega
      subst this
      exact hx 0 s hI
    | succ d ih =>
      intro i h1 h2 s hI
      exact hs (d + 1) i s h1 (by omega) hI (fun s' hI' => ih (i + 1) (by omega) (by omega) s' hI')
  exact fun s hI => ⟨e - i0 + 1, key (e - i0) i0 (Nat.le_refl _) (by omega) s hI⟩
theorem q_rNm {n cap p a c : Nat} {cs : Nat → Nat} {h : g_Hp} {Q : g_R → g_Hp → Prop} (hS : q_SB h 0 cap n cs) (hn : n ≤ 60) (e : h 3 0 0 4 = nI p) (hp : p < 1000) (hc : q_NC (q_A n cs) p 3 c)
    (K : ∀ h', (∀ k x b s, ¬ (k = 3 ∧ s = 4) → ¬ (k = 4 ∧ x = a ∧ s = 3) → h' k x b s = h k x b s) → h' 3 0 0 4 = nI (p + c) → h' 4 a 0 3 = q_nv (q_A n cs) p c → Q (.inl (some (vI (if c = 0 then 0 else 1)))) h') : wX3_readNumber a h Q := by
  have ⟨c1, c2, c3⟩ := hc
  have fin : ∀ h', (∀ k x b s, ¬ (k = 3 ∧ s = 4) → h' k x b s = h k x b s) → h' 3 0 0 4 = nI (p + c) → wX3_readNumber_b51 a Q (q_nv (q_A n cs) p c) (nI c) h' := fun h' f e' => by
    unfold wX3_readNumber_b51
    have K' := K (g_up h' 4 a 0 3 (q_nv (q_A n cs) p c)) (fun k x b s n1 n2 => by rw [g_up_o _ _ _ _ _ _ (by omega), f k x b s n1]) ((g_up_o _ _ _ _ _ _ (by omega)).trans e') (g_up_s _ _ _ _ _ _)
    refine nm_e ?_
    by_cases z : c = 0
    · rw [if_pos z] at K'
      exact br_t (nI_le (b := 0) (by omega) (by decide)) (And.intro (Or.inl rfl) K')
    · rw [if_neg z] at K'
      exact br_f (nI_ge (b := c) (a := 0) (by omega) (by omega)) (And.intro (Or.inr rfl) K')
  refine q_lpI (fun k (s : Nat × g_Hp) => wX3_readNumber_b4_I a Q k (q_nv (q_A n cs) p s.1) (nI s.1) s.2) (fun i s => s.1 = i ∧ (∀ k x b t, ¬ (k = 3 ∧ t = 4) → s.2 k x b t = h k x b t) ∧ s.2 3 0 0 4 = nI (p + i)) c 0 (Nat.zero_le _) ?_ ?_ (0, h) ⟨rfl, fun _ _ _ _ _ => rfl, e⟩
  · rintro k ⟨i, h'⟩ ⟨rfl, f, e'⟩
    show wX3_readNumber_b4_B a Q _ _ _ _
    unfold wX3_readNumber_b4_B
    dsimp only at f e' ⊢
    by_cases z : i = 3
    · exact br_t (nI_le (a := 3) (by omega) (by omega)) (fin h' f e')
    · refine br_f (nI_ge (b := 3) (by omega) (by decide)) ?_
      rw [e']
      refine q_dAt (q_SBo (fun k a b s hk => f k a b s (by omega)) hS) hn (by omega) (fun q => absurd q (c3 (by omega))) (fun _ => br_t rfl (fin h' f e'))
  · rintro k i ⟨j, h'⟩ _ hi ⟨rfl, f, e'⟩ hk
    show wX3_readNumber_b4_B a Q _ _ _ _
    unfold wX3_readNumber_b4_B
    dsimp only at f e' ⊢
    have S' := q_SBo (fun k a b s hk => f k a b s (by omega)) hS
    refine br_f (nI_ge (b := 3) (by omega) (by decide)) ?_
    rw [e']
    refine q_dAt S' hn (by omega) (fun q => ?_) (fun q => absurd (c2 j hi) q)
    obtain ⟨d, d1, d2⟩ := q_diN q
    refine br_f (by rw [d2]; exact q_nm1 (by omega)) ?_
    show wX3_digitAt (h' 3 0 0 4) h' _
    rw [e']
    refine q_dAt S' hn (by omega) (fun _ => ?_) (fun q' => absurd q q')
    show ∀ y5 : Int32, y5 = q_nv (q_A n cs) p j * 10 + (q_A n cs (p + j) - 48) → ∀ h6 : g_Hp, h6 = g_up h' 3 0 0 4 (h' 3 0 0 4 + 1) → ∀ y7 : Int32, y7 = nI j + 1 → wX3_readNumber_b4_I a Q k y5 y7 h6
    rw [e', nI_1, nI_1]
    refine nm_e (nm_e (nm_e (hk (j + 1, g_up h' 3 0 0 4 (nI (p + j + 1))) ⟨rfl, fun k x b t n1 => ?_, ?_⟩)))
    · exact (g_up_o _ _ _ _ _ _ (by omega)).trans (f k x b t n1)
    · show g_up h' 3 0 0 4 (nI (p + j + 1)) 3 0 0 4 = nI (p + j + 1)
      exact g_up_s _ _ _ _ _ _
