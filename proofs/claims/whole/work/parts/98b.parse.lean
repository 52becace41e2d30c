/-! ===== the class reads: words, commands ===== -/
theorem q_wch : ∀ i, i < 10 → ∀ k, k < 8 → k < q_len0 i → ((q_chw i k &&& (255 : Int32)).toUInt32 % 65536).toInt32 = q_chw i k ∧ narrow .char (.int (q_chw i k)) = .int (q_chw i k) ∧ ¬ (-1 : Int32) = q_chw i k := by decide +kernel
theorem q_sLn {i : Nat} {h : g_Hp} {Q : g_R → g_Hp → Prop} (hi : i < 10) (K : Q (.inl (some (vI (nI (q_len0 i))))) h) : wJ0_length_8abf5 i 0 h Q := by
  unfold wJ0_length_8abf5 wJ0_coder_7d493
  refine And.intro hi (And.intro hi (And.intro hi (br_f (by decide) (And.intro hi (And.intro (by decide) ?_)))))
  show Q (.inl (some (vI ((Int32.ofNat (g_by i).length) >>> ((0 : Int32) &&& 31))))) h
  rw [sb_shr0]
  exact K
theorem q_sCh {i k : Nat} {h : g_Hp} {Q : g_R → g_Hp → Prop} (hi : i < 10) (hk : k < q_len0 i) (K : Q (.inl (some (vI (q_chw i k)))) h) : wJ0_charAt_5068e i 0 (nI k) h Q := by
  have h8 := (q_len8 i hi).1
  have hw := q_wch i hi k (by omega) hk
  have hl : (g_by i).length = q_len0 i := rfl
  unfold wJ0_charAt_5068e wJ0_isLatin1_aae02 wJ1_charAt_3b067
  refine And.intro hi (br_f (by decide) (And.intro hi (q_n0 rfl (And.intro (Or.inr rfl) (br_f (by decide) (And.intro hi (And.intro hi (q_cix (n := q_len0 i) hk (by omega) ?_))))))))
  refine And.intro (And.intro hi (q_vI hk (by omega))) ?_
  rw [nI_clamp (by omega), show (g_by i).getD k 0 = q_chw i k from rfl, hw.1]
  exact And.intro hw.2.1 (And.intro hw.2.1 K)
theorem q_cLn {n cap p i c : Nat} {cs : Nat → Nat} {h : g_Hp} {Q : g_R → g_Hp → Prop} (hS : q_SB h 0 cap n cs) (hn : n ≤ 60) (e : h 3 0 0 4 = nI p) (hp : p < 1000) (hi : i < 10) (hc : q_CL (q_A n cs) p i c) (K : Q (.inl (some (vI (nI c)))) h) : wX3_commonLength i 0 h Q := by
  have h8 := (q_len8 i hi).1
  have ⟨c1, c2, c3⟩ := hc
  refine q_loop (fun k x => wX3_commonLength_b2_I i 0 Q k (nI x) h) c 0 (Nat.zero_le _) ?_ ?_
  · intro k
    show wX3_commonLength_b2_B i 0 Q _ _ _
    unfold wX3_commonLength_b2_B
    refine And.intro hi (q_sLn hi ?_)
    by_cases z : c = q_len0 i
    · exact br_t (nI_le (by omega) (by omega)) K
    · refine br_f (nI_ge (by omega) (by omega)) (And.intro hi (q_sCh hi (by omega) ?_))
      show wX3_isAt (h 3 0 0 4 + nI c) (q_chw i c) h _
      rw [e, nI_add]
      exact q_isAt hS hn (by omega) (q_wch i hi c (by omega) (by omega)).2.2 (fun q => absurd q (c3 (by omega))) (fun _ => br_t rfl K)
  · intro k x _ hx hk
    show wX3_commonLength_b2_B i 0 Q _ _ _
    unfold wX3_commonLength_b2_B
    refine And.intro hi (q_sLn hi (br_f (nI_ge (by omega) (by omega)) (And.intro hi (q_sCh hi (by omega) ?_))))
    show wX3_isAt (h 3 0 0 4 + nI x) (q_chw i x) h _
    rw [e, nI_add]
    exact q_isAt hS hn (by omega) (q_wch i hi x (by omega) (by omega)).2.2 (fun _ => br_f (by decide) (nm_r (nI_1 x) hk)) (fun q => absurd (c2 x hx) q)
theorem q_rKw {n cap p : Nat} {cs : Nat → Nat} {h : g_Hp} {Q : g_R → g_Hp → Prop} (hS : q_SB h 0 cap n cs) (hn : n ≤ 60) (e : h 3 0 0 4 = nI p) (hp : p < 1000)
    (K1 : ∀ i, q_KW (q_A n cs) p i → Q (.inl (some (vR 21 i 0))) (g_up h 3 0 0 4 (nI (p + q_len0 i)))) (K0 : ∀ M, q_KN (q_A n cs) p M → Q (.inl (some (vV .null))) (g_up h 3 0 0 4 (nI (p + M)))) : wX3_readKeyword h Q := by
  have ⟨cl, hcl⟩ : ∃ cl : Nat → Nat, ∀ i, q_CL (q_A n cs) p i (cl i) := ⟨fun i => Classical.choose (q_CLx _ p i), fun i => Classical.choose_spec (q_CLx _ p i)⟩
  have step : ∀ k i, i < 10 → ¬ q_KW (q_A n cs) p i → wX3_readKeyword_b12_I Q k (nI (q_mx cl (i + 1))) (nI (i + 1)) h → wX3_readKeyword_b12_I Q (k + 1) (nI (q_mx cl i)) (nI i) h := fun k i hi hno hk => by
    show wX3_readKeyword_b12_B Q _ _ _ _
    unfold wX3_readKeyword_b12_B
    have h8 := (q_len8 i hi).1
    have hlt := q_KWf hi (hcl i) hno
    have hm : q_mx cl i ≤ 7 := q_mx_b (fun j hj => by have := (hcl j).1; have := (q_len8 j (by omega)).1; omega)
    refine br_f (nI_ge (b := 10) hi (by decide)) (And.intro (q_vI hi (by decide)) (nm_r (nI_clamp (by omega)) (And.intro hi (q_cLn hS hn e hp hi (hcl i) (And.intro hi (And.intro hi (q_sLn hi (q_n1 (fun q => ?_) (q_max rfl rfl (by omega) (by omega) (nm_r (nI_1 i) hk))))))))))
    have := (nI_eq (by omega) (by omega)).mp q
    omega
  rcases Classical.em (∃ i, q_KW (q_A n cs) p i) with ⟨i, hi⟩ | hno
  · refine q_loop (fun k x => wX3_readKeyword_b12_I Q k (nI (q_mx cl x)) (nI x) h) i 0 (Nat.zero_le _) ?_ ?_
    · intro k
      show wX3_readKeyword_b12_B Q _ _ _ _
      unfold wX3_readKeyword_b12_B
      have h8 := (q_len8 i hi.1).1
      have h10 := hi.1
      have ec := q_KWt (hcl i) hi
      refine br_f (nI_ge (b := 10) hi.1 (by decide)) (And.intro (q_vI hi.1 (by decide)) (nm_r (nI_clamp (by omega)) (And.intro hi.1 (q_cLn hS hn e hp hi.1 (hcl i) (And.intro hi.1 (And.intro hi.1 (q_sLn hi.1 (q_n0 (by rw [ec]) ?_))))))))
      rw [e, ec, nI_add]
      exact nm_e (K1 i hi)
    · intro k x _ hx hk
      exact step k x (by have := hi.1; omega) (fun q => absurd (q_KWu q hi) (by omega)) hk
  · refine q_loop (fun k x => wX3_readKeyword_b12_I Q k (nI (q_mx cl x)) (nI x) h) 10 0 (Nat.zero_le _) ?_ ?_
    · intro k
      show wX3_readKeyword_b12_B Q _ _ _ _
      unfold wX3_readKeyword_b12_B
      rw [e, nI_add]
      exact br_t (nI_le (a := 10) (Nat.le_refl _) (by decide)) (nm_e (K0 _ ⟨cl, fun i hi => ⟨hcl i, q_KWf hi (hcl i) (fun q => hno ⟨i, q⟩)⟩, rfl⟩))
    · intro k x _ hx hk
      exact step k x hx (fun q => hno ⟨x, q⟩) hk
theorem q_rPM {n cap p a : Nat} {cs : Nat → Nat} {h : g_Hp} {Q : g_R → g_Hp → Prop} (hS : q_SB h 0 cap n cs) (hn : n ≤ 60) (e : h 3 0 0 4 = nI p) (hp : p < 1000)
    (K1 : ∀ s h', ((q_A n cs p = 43 ∧ s = 1) ∨ (q_A n cs p = 45 ∧ s = 0)) → (∀ k x b t, ¬ (k = 3 ∧ t = 4) → ¬ (k = 4 ∧ x = a ∧ t = 4) → h' k x b t = h k x b t) → h' 3 0 0 4 = nI (p + 1) → h' 4 a 0 4 = s → Q (.inl (some (vI 1))) h')
    (K0 : ∀ h', ¬ q_A n cs p = 43 → ¬ q_A n cs p = 45 → (∀ k x b t, ¬ (k = 4 ∧ x = a ∧ t = 4) → h' k x b t = h k x b t) → Q (.inl (some (vI 0))) h') : wX3_readPlusOrMinus a h Q := by
  unfold wX3_readPlusOrMinus
  refine q_rSg hS hn e (by omega) (by decide) (fun c => And.intro (Or.inr rfl) (nm_e (q_n1 (by rw [g_up_s]; decide) ?_))) (fun c => And.intro (Or.inl rfl) (nm_e (q_n0 (g_up_s _ _ _ _ _ _) ?_)))
  · refine And.intro (Or.inr rfl) (K1 1 _ (Or.inl ⟨c, rfl⟩) (fun k x b t n1 n2 => ?_) ?_ (g_up_s _ _ _ _ _ _))
    · rw [g_up_o _ _ _ _ _ _ (by omega), g_up_o _ _ _ _ _ _ (by omega)]
    · rw [g_up_o _ _ _ _ _ _ (by omega), g_up_s]
  · have e' : g_up h 4 a 0 4 0 3 0 0 4 = nI p := (g_up_o _ _ _ _ _ _ (by omega)).trans e
    refine q_rSg (q_SBo (fun k a b s hk => g_up_o _ _ _ _ _ _ (by omega)) hS) hn e' (by omega) (by decide) (fun d => br_f (by decide) (And.intro (Or.inr rfl) (K1 0 _ (Or.inr ⟨d, rfl⟩) (fun k x b t n1 n2 => ?_) (g_up_s _ _ _ _ _ _) ?_))) (fun d => br_t rfl (And.intro (Or.inl rfl) (K0 _ c d (fun k x b t n1 => ?_))))
    · rw [g_up_o _ _ _ _ _ _ (by omega), g_up_o _ _ _ _ _ _ (by omega)]
    · rw [g_up_o _ _ _ _ _ _ (by omega), g_up_s]
    · rw [g_up_o _ _ _ _ _ _ (by omega)]
theorem q_hasD : ∀ i, i < 10 → ((g_hasDigit.getD i 0 = 0) ↔ ¬ (i = 0 ∨ i = 1 ∨ i = 6)) ∧ ((g_hasNumber.getD i 0 = 0) ↔ i = 4) ∧ ((g_hasSign.getD i 0 = 0) ↔ i ≠ 3) := by decide
theorem q_kwI : ∀ i, i < 10 → Int32.ofNat (i + 1) ≠ 0 ∧ (Int32.ofNat (i + 1)).toNatClampNeg - 1 = i := by decide
/-- what a command leaves in the class -/
def q_FR (a : Nat) (h h' : g_Hp) : Prop := ∀ k x b t, ¬ (k = 3 ∧ t = 4) → ¬ (k = 4 ∧ x = a) → h' k x b t = h k x b t
theorem q_rC5 {n cap a p4 kw : Nat} {cs : Nat → Nat} {h : g_Hp} {Q : g_R → g_Hp → Prop} (hS : q_SB h 0 cap n cs) (hn : n ≤ 60) (e : h 3 0 0 4 = nI p4) (hp : p4 < 1000) (hkw : kw < 10)
    (K1 : ∀ p' s h', q_C5 (q_A n cs) p4 kw p' s → (∀ k x b t, ¬ (k = 3 ∧ t = 4) → ¬ (k = 4 ∧ x = a ∧ t = 4) → h' k x b t = h k x b t) → h' 3 0 0 4 = nI p' → (kw = 3 → h' 4 a 0 4 = s) → Q (.inl (some (vI 1))) h')
    (K0 : ∀ h', kw = 3 → ¬ q_A n cs p4 = 43 → ¬ q_A n cs p4 = 45 → (∀ k x b t, ¬ (k = 4 ∧ x = a ∧ t = 4) → h' k x b t = h k x b t) → Q (.inl (some (vI 0))) h') : wX3_readCommand_b59 a Q kw 0 h := by
  unfold wX3_readCommand_b59
  have hs := (q_hasD kw hkw).2.2
  refine And.intro hkw ?_
  rcases Nat.decEq kw 3 with z | z
  · exact br_t (hs.mpr z) (And.intro (Or.inr rfl) (K1 p4 0 h (Or.inl ⟨z, rfl⟩) (fun _ _ _ _ _ _ => rfl) e (fun q => absurd q z)))
  · exact br_f (fun q => absurd z (hs.mp q)) (q_rPM hS hn e hp (fun s h' c f e1 e2 => br_f (by decide) (And.intro (Or.inr rfl) (K1 _ s h' (Or.inr ⟨z, rfl, c⟩) f e1 (fun _ => e2)))) (fun h' c d f => br_t rfl (And.intro (Or.inl rfl) (K0 h' z c d f))))
theorem q_rC4 {n cap a p3 kw : Nat} {cs : Nat → Nat} {h : g_Hp} {Q : g_R → g_Hp → Prop} (hS : q_SB h 0 cap n cs) (hn : n ≤ 60) (e : h 3 0 0 4 = nI p3) (hp : p3 < 900) (hkw : kw < 10)
    (K1 : ∀ p4 v h', q_C4 (q_A n cs) p3 kw p4 v → p4 ≤ p3 + 3 → (∀ k x b t, ¬ (k = 3 ∧ t = 4) → ¬ (k = 4 ∧ x = a ∧ t = 3) → h' k x b t = h k x b t) → h' 3 0 0 4 = nI p4 → (kw ≠ 4 → h' 4 a 0 3 = v) → wX3_readCommand_b59 a Q kw 0 h')
    (K0 : ∀ h', kw ≠ 4 → ¬ q_di (q_A n cs p3) → (∀ k x b t, ¬ (k = 3 ∧ t = 4) → ¬ (k = 4 ∧ x = a ∧ t = 3) → h' k x b t = h k x b t) → h' 3 0 0 4 = nI p3 → Q (.inl (some (vI 0))) h') : wX3_readCommand_b42 a Q kw 0 h := by
  unfold wX3_readCommand_b42
  have hs := (q_hasD kw hkw).2.1
  refine And.intro hkw ?_
  rcases Nat.decEq kw 4 with z | z
  · refine br_f (fun q => absurd (hs.mp q) z) ?_
    obtain ⟨c, hc⟩ := q_NCx (q_A n cs) p3 3
    refine q_rNm hS hn e (by omega) hc (fun h' f e1 e2 => ?_)
    rcases Nat.eq_zero_or_pos c with y | y
    · subst y
      rw [if_pos rfl]
      exact q_n0 rfl (K0 h' z (hc.2.2 (by decide)) f e1)
    · rw [if_neg (by omega)]
      exact q_n1 (by decide) (K1 (p3 + c) _ h' (Or.inr ⟨z, c, y, hc, rfl, rfl⟩) (by have := hc.1; omega) f e1 (fun _ => e2))
  · exact br_t (hs.mpr z) (K1 p3 0 h (Or.inl ⟨z, rfl⟩) (by omega) (fun _ _ _ _ _ _ => rfl) e (fun q => absurd z q))
theorem q_rCm {n cap a p : Nat} {cs : Nat → Nat} {h : g_Hp} {Q : g_R → g_Hp → Prop} (hS : q_SB h 0 cap n cs) (hn : n ≤ 60) (e : h 3 0 0 4 = nI p) (hp : p < 100)
    (K1 : ∀ p' kw d v s h', q_CK (q_A n cs) p p' kw d v s → q_FR a h h' → h' 3 0 0 4 = nI p' → h' 4 a 0 1 = nI (kw + 1) → (q_hd kw → h' 4 a 0 2 = d) → (kw ≠ 4 → h' 4 a 0 3 = v) → (kw = 3 → h' 4 a 0 4 = s) → Q (.inl (some (vI 1))) h')
    (K0 : ∀ p' h', q_CF (q_A n cs) p p' → q_FR a h h' → h' 3 0 0 4 = nI p' → Q (.inl (some (vI 0))) h') : wX3_readCommand a h Q := by
  unfold wX3_readCommand
  refine q_rKw hS hn e (by omega) (fun kw hkw => And.intro rfl (And.intro (And.intro (q_kwI kw hkw.1).1 (And.intro (q_kwI kw hkw.1).2 rfl)) (nm_e (And.intro hkw.1 ?_)))) (fun M hM => K0 _ _ (Or.inl ⟨M, hM, rfl⟩) (fun k x b t n1 n2 => g_up_o _ _ _ _ _ _ (by omega)) (g_up_s _ _ _ _ _ _))
  generalize hh : g_up (g_up h 3 0 0 4 (nI (p + q_len0 kw))) 4 a 0 1 (Int32.ofNat (kw + 1)) = h1
  have f1 : q_FR a h h1 := fun k x b t n1 n2 => by rw [← hh, g_up_o _ _ _ _ _ _ (by omega), g_up_o _ _ _ _ _ _ (by omega)]
  have e1 : h1 3 0 0 4 = nI (p + q_len0 kw) := by rw [← hh, g_up_o _ _ _ _ _ _ (by omega), g_up_s]
  have w1 : h1 4 a 0 1 = nI (kw + 1) := by rw [← hh, g_up_s]; rfl
  have h8 := (q_len8 kw hkw.1).1
  have S1 : q_SB h1 0 cap n cs := q_SBo (fun k x b t hk => f1 k x b t (by omega) (by omega)) hS
  have main : ∀ p3 d h3, q_C3 (q_A n cs) p kw p3 d → p3 < 900 → q_FR a h h3 → h3 3 0 0 4 = nI p3 → h3 4 a 0 1 = nI (kw + 1) → (q_hd kw → h3 4 a 0 2 = d) → wX3_readCommand_b42 a Q kw 0 h3 := fun p3 d h3 c3 b3 f3 e3 w3 d3 => by
    have S3 : q_SB h3 0 cap n cs := q_SBo (fun k x b t hk => f3 k x b t (by omega) (by omega)) hS
    refine q_rC4 S3 hn e3 b3 hkw.1 (fun p4 v h4 c4 b4 f4 e4 v4 => ?_) (fun h4 z nd f4 e4 => K0 p3 h4 (Or.inr (Or.inr (Or.inr (Or.inl ⟨kw, d, c3, z, nd⟩)))) (fun k x b t n1 n2 => (f4 k x b t n1 (by omega)).trans (f3 k x b t n1 n2)) e4)
    have S4 : q_SB h4 0 cap n cs := q_SBo (fun k x b t hk => f4 k x b t (by omega) (by omega)) S3
    refine q_rC5 S4 hn e4 (by omega) hkw.1 (fun p' s h5 c5 f5 e5 s5 => K1 p' kw d v s h5 ⟨p3, p4, c3, c4, c5⟩ (fun k x b t n1 n2 => (f5 k x b t n1 (by omega)).trans ((f4 k x b t n1 (by omega)).trans (f3 k x b t n1 n2))) e5 ?_ (fun q => ?_) (fun q => ?_) s5) (fun h5 z na nb f5 => ?_)
    · rw [f5 _ _ _ _ (by omega) (by omega), f4 _ _ _ _ (by omega) (by omega), w3]
    · rw [f5 _ _ _ _ (by omega) (by omega), f4 _ _ _ _ (by omega) (by omega), d3 q]
    · rw [f5 _ _ _ _ (by omega) (by omega), v4 q]
    · subst z
      refine K0 p4 h5 (Or.inr (Or.inr (Or.inr (Or.inr ⟨p3, d, v, c3, c4, na, nb⟩)))) (fun k x b t n1 n2 => (f5 k x b t (by omega)).trans ((f4 k x b t n1 (by omega)).trans (f3 k x b t n1 n2))) ?_
      rw [f5 _ _ _ _ (by omega), e4]
  have hd := (q_hasD kw hkw.1).1
  by_cases z : q_hd kw
  · refine br_f (fun q => (hd.mp q) z) (q_rDg S1 hn e1 (by omega) (fun c => br_f (by decide) ?_) (fun c => br_t rfl (K0 _ h1 (Or.inr (Or.inl ⟨kw, hkw, z, c, rfl⟩)) f1 e1)))
    generalize hh2 : g_up (g_up h1 4 a 0 2 (q_A n cs (p + q_len0 kw) - 48)) 3 0 0 4 (nI (p + q_len0 kw + 1)) = h2
    have f2 : ∀ k x b t, ¬ (k = 3 ∧ t = 4) → ¬ (k = 4 ∧ x = a ∧ t = 2) → h2 k x b t = h1 k x b t := fun k x b t n1 n2 => by rw [← hh2, g_up_o _ _ _ _ _ _ (by omega), g_up_o _ _ _ _ _ _ (by omega)]
    have e2 : h2 3 0 0 4 = nI (p + q_len0 kw + 1) := by rw [← hh2, g_up_s]
    have d2 : h2 4 a 0 2 = q_A n cs (p + q_len0 kw) - 48 := by rw [← hh2, g_up_o _ _ _ _ _ _ (by omega), g_up_s]
    have S2 : q_SB h2 0 cap n cs := q_SBo (fun k x b t hk => f2 k x b t (by omega) (by omega)) S1
    refine q_rSg S2 hn e2 (by omega) (by decide) (fun c2 => q_n1 (by decide) ?_) (fun c2 => q_n0 rfl (K0 _ h2 (Or.inr (Or.inr (Or.inl ⟨kw, hkw, z, c, c2, rfl⟩))) (fun k x b t n1 n2 => (f2 k x b t n1 (by omega)).trans (f1 k x b t n1 n2)) e2))
    refine main _ _ _ ⟨hkw, Or.inl ⟨z, c, rfl, c2, rfl⟩⟩ (by omega) (fun k x b t n1 n2 => ?_) (g_up_s _ _ _ _ _ _) ?_ (fun _ => ?_)
    · rw [g_up_o _ _ _ _ _ _ (by omega), f2 k x b t n1 (by omega), f1 k x b t n1 n2]
    · rw [g_up_o _ _ _ _ _ _ (by omega), f2 _ _ _ _ (by omega) (by omega), w1]
    · rw [g_up_o _ _ _ _ _ _ (by omega), d2]
  · exact br_t (hd.mpr z) (main _ 0 h1 ⟨hkw, Or.inr ⟨z, rfl⟩⟩ (by omega) f1 e1 w1 (fun q => absurd q z))
