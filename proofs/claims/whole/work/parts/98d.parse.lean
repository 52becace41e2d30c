/-! ===== the model reads ===== -/
def q_FM (h h' : g_Hp) : Prop := ∀ k x b t, ¬ (k = 5 ∧ (t = 16 ∨ t = 19)) → ¬ (k = 13 ∧ x = 6) → h' k x b t = h k x b t
theorem q_FMt {h h1 h2 : g_Hp} (a : q_FM h h1) (b : q_FM h1 h2) : q_FM h h2 := fun k x y t n1 n2 => (b k x y t n1 n2).trans (a k x y t n1 n2)
def q_MT (n : Nat) (cs : Nat → Nat) (h : g_Hp) : Prop := n ≤ 60 ∧ h 5 0 0 17 = nI n ∧ (∀ e, e < n → h 13 4 0 (e + 1) = nI (cs e)) ∧ q_WRD h
theorem q_MTc {n : Nat} {cs : Nat → Nat} {h h' : g_Hp} (f : q_FM h h') (hT : q_MT n cs h) : q_MT n cs h' := ⟨hT.1, (f _ _ _ _ (by omega) (by omega)).trans hT.2.1, fun e he => (f _ _ _ _ (by omega) (by omega)).trans (hT.2.2.1 e he), q_WRD_c (fun k a b s hp => f _ _ _ _ (by omega) (by omega)) hT.2.2.2⟩
theorem q_mSg {n p : Nat} {cs : Nat → Nat} {h : g_Hp} {Q : g_R → g_Hp → Prop} (hT : q_MT n cs h) (e : h 5 0 0 16 = nI p) (hp : p < 2 ^ 31) (K : Q (.inl (some (vI (q_A n cs p)))) h) : wX8_sign h Q := by
  have ⟨t1, t2, t3, _⟩ := hT
  unfold wX8_sign wX8_sign_b24
  rw [e, t2]
  refine And.intro (fun c => ?_) (fun c => ?_)
  · rw [nI_leI (by omega) hp] at c
    have a : q_A n cs p = -1 := if_neg (by omega)
    rw [a] at K
    exact K
  · rw [nI_leI (by omega) hp] at c
    have a : q_A n cs p = nI (cs p) := if_pos (by omega)
    rw [a] at K
    rw [nI_clamp (by omega), t3 p (by omega)]
    exact And.intro (q_vI (by omega) (by decide)) K
theorem q_mMk {n p : Nat} {cs : Nat → Nat} {ch : Int32} {h : g_Hp} {Q : g_R → g_Hp → Prop} (hT : q_MT n cs h) (e : h 5 0 0 16 = nI p) (e9 : h 5 0 0 19 = 0) (hp : p < 1000)
    (K1 : ∀ h', q_A n cs p = ch → q_FM h h' → h' 5 0 0 16 = nI (p + 1) → h' 5 0 0 19 = 0 → Q (.inl none) h')
    (K0 : ∀ h', ¬ q_A n cs p = ch → q_FM h h' → h' 5 0 0 16 = nI p → h' 5 0 0 19 = 1 → Q (.inl none) h') : wX8_mark ch h Q := by
  have go : ∀ (y z : Int32) (i : Nat), (y = 0 ∨ y = 1) → z = nI i → (∀ h', q_FM h h' → h' 5 0 0 16 = nI (p + i) → h' 5 0 0 19 = y → Q (.inl none) h') → ∀ h1 : g_Hp, h1 = g_up h 5 0 0 19 y → wX8_mark_b42 Q z (h1 5 0 0 16) h1 := fun y z i _ hz K h1 eh => by
    subst eh hz
    unfold wX8_mark_b42
    rw [g_up_o _ _ _ _ _ _ (by omega), e, nI_add]
    refine nm_e (K _ (fun k x b t n1 n2 => ?_) (g_up_s _ _ _ _ _ _) ?_)
    · rw [g_up_o _ _ _ _ _ _ (by omega), g_up_o _ _ _ _ _ _ (by omega)]
    · rw [g_up_o _ _ _ _ _ _ (by omega), g_up_s]
  unfold wX8_mark
  refine br_t e9 (q_mSg hT e (by omega) (And.intro (fun c => And.intro (Or.inl rfl) (fun h1 eh => ?_)) (fun c => And.intro (Or.inr rfl) (fun h1 eh => ?_))))
  · refine br_t (by rw [eh, g_up_s]) (go 0 1 1 (Or.inl rfl) rfl (fun h' a b d => K1 h' c a b d) h1 eh)
  · refine br_f (by rw [eh, g_up_s]; decide) (go 1 0 0 (Or.inr rfl) rfl (fun h' a b d => K0 h' c a b d) h1 eh)
theorem q_mIs {x : Int32} {h : g_Hp} {Q : g_R → g_Hp → Prop} (K1 : q_di x → Q (.inl (some (vI 1))) h) (K0 : ¬ q_di x → Q (.inl (some (vI 0))) h) : wX8_isIn x 48 57 h Q := by
  by_cases a : x < 48
  · exact q_isI0 (Or.inl a) (K0 (fun q => q.1 a))
  · by_cases b : 57 < x
    · exact q_isI0 (Or.inr b) (K0 (fun q => q.2 b))
    · exact q_isI1 a b (K1 ⟨a, b⟩)
theorem q_rng (x u : Int32) : (10 * x + u) - 48 = x * 10 + (u - 48) := by rw [Int32.mul_comm, Int32.sub_eq_add_neg, Int32.sub_eq_add_neg, Int32.add_assoc]
theorem q_mDg {n p m c : Nat} {cs : Nat → Nat} {h : g_Hp} {Q : g_R → g_Hp → Prop} (hT : q_MT n cs h) (e : h 5 0 0 16 = nI p) (e9 : h 5 0 0 19 = 0) (hp : p < 1000) (hm : m ≤ 3) (hc : q_NC (q_A n cs) p m c)
    (K : ∀ h', q_FM h h' → h' 5 0 0 16 = nI (p + c) → h' 5 0 0 19 = (if c = 0 then 1 else 0) → Q (.inl (some (vI (q_nv (q_A n cs) p c)))) h') : wX8_digits (nI m) h Q := by
  have ⟨c1, c2, c3⟩ := hc
  have fin : ∀ h', q_FM h h' → h' 5 0 0 16 = nI (p + c) → h' 5 0 0 19 = 0 → wX8_digits_b59 Q (q_nv (q_A n cs) p c) (nI c) h' := fun h' f e' e9' => by
    unfold wX8_digits_b59 wX8_digits_b73
    rw [e9']
    by_cases z : c = 0
    · have K' := K (g_up h' 5 0 0 19 1) (fun k x b t n1 n2 => by rw [g_up_o _ _ _ _ _ _ (by omega), f k x b t n1 n2]) ((g_up_o _ _ _ _ _ _ (by omega)).trans e') (by rw [g_up_s, if_pos z])
      refine q_n0 (by rw [z]; rfl) (And.intro (Or.inr (by decide)) ?_)
      exact nm_e K'
    · have K' := K (g_up h' 5 0 0 19 0) (fun k x b t n1 n2 => by rw [g_up_o _ _ _ _ _ _ (by omega), f k x b t n1 n2]) ((g_up_o _ _ _ _ _ _ (by omega)).trans e') (by rw [g_up_s, if_neg z])
      refine q_n1 (nI_ne0 (by omega) (by omega)) (And.intro (Or.inl (by decide)) ?_)
      exact nm_e K'
  refine q_lpI (fun k (s : Nat × g_Hp) => wX8_digits_b4_I Q k (nI m) (q_nv (q_A n cs) p s.1) (nI s.1) s.2) (fun i s => s.1 = i ∧ q_FM h s.2 ∧ s.2 5 0 0 16 = nI (p + i) ∧ s.2 5 0 0 19 = 0) c 0 (Nat.zero_le _) ?_ ?_ (0, h) ⟨rfl, fun _ _ _ _ _ _ => rfl, e, e9⟩
  · rintro k ⟨i, h'⟩ ⟨rfl, f, e', e9'⟩
    show wX8_digits_b4_B Q _ _ _ _ _
    unfold wX8_digits_b4_B
    dsimp only at f e' e9' ⊢
    refine q_n0 e9' ?_
    by_cases z : i = m
    · exact br_t (nI_le (by omega) (by omega)) (fin h' f e' e9')
    · refine br_f (nI_ge (by omega) (by omega)) (q_mSg (q_MTc f hT) e' (by omega) (q_mIs (fun q => absurd q (c3 (by omega))) (fun _ => br_t rfl (fin h' f e' e9'))))
  · rintro k i ⟨j, h'⟩ _ hi ⟨rfl, f, e', e9'⟩ hk
    show wX8_digits_b4_B Q _ _ _ _ _
    unfold wX8_digits_b4_B
    dsimp only at f e' e9' ⊢
    refine q_n0 e9' (br_f (nI_ge (by omega) (by omega)) (q_mSg (q_MTc f hT) e' (by omega) (q_mIs (fun _ => br_f (by decide) (q_mSg (q_MTc f hT) e' (by omega) ?_)) (fun q => absurd (c2 j hi) q))))
    show ∀ y7 : Int32, y7 = (((10 : Int32) * q_nv (q_A n cs) p j) + q_A n cs (p + j)) - (48 : Int32) → ∀ h8 : g_Hp, h8 = g_up h' 5 0 0 16 ((h' 5 0 0 16) + (1 : Int32)) → ∀ y9 : Int32, y9 = nI j + (1 : Int32) → wX8_digits_b4_I Q k (nI m) y7 y9 h8
    rw [e', nI_1, nI_1, q_rng]
    refine nm_e (nm_e (nm_e (hk (j + 1, g_up h' 5 0 0 16 (nI (p + j + 1))) ⟨rfl, fun k x b t n1 n2 => ?_, ?_, ?_⟩)))
    · exact (g_up_o _ _ _ _ _ _ (by omega)).trans (f k x b t n1 n2)
    · show g_up h' 5 0 0 16 (nI (p + j + 1)) 5 0 0 16 = nI (p + j + 1)
      exact g_up_s _ _ _ _ _ _
    · show g_up h' 5 0 0 16 (nI (p + j + 1)) 5 0 0 19 = 0
      exact (g_up_o _ _ _ _ _ _ (by omega)).trans e9'
theorem q_mPl {n p : Nat} {cs : Nat → Nat} {h : g_Hp} {Q : g_R → g_Hp → Prop} (hT : q_MT n cs h) (e : h 5 0 0 16 = nI p) (e9 : h 5 0 0 19 = 0) (hp : p < 1000)
    (K1 : ∀ h', q_A n cs p = 43 → q_FM h h' → h' 5 0 0 16 = nI (p + 1) → h' 5 0 0 19 = 0 → Q (.inl (some (vI 1))) h')
    (K2 : ∀ h', q_A n cs p = 45 → q_FM h h' → h' 5 0 0 16 = nI (p + 1) → h' 5 0 0 19 = 0 → Q (.inl (some (vI 2))) h')
    (K0 : ∀ h', ¬ q_A n cs p = 43 → ¬ q_A n cs p = 45 → q_FM h h' → h' 5 0 0 16 = nI p → h' 5 0 0 19 = 1 → Q (.inl (some (vI 2))) h') : wX8_plus h Q := by
  have go : ∀ (x y z : Int32) (i : Nat), z = nI i → (∀ h', q_FM h h' → h' 5 0 0 16 = nI (p + i) → h' 5 0 0 19 = y → ((¬ x = 43) → Q (.inl (some (vI 2))) h') ∧ ((x = 43) → Q (.inl (some (vI 1))) h')) → ∀ h1 : g_Hp, h1 = g_up h 5 0 0 19 y → wX8_plus_b52 Q x z (h1 5 0 0 16) h1 := fun x y z i hz K h1 eh => by
    subst eh hz
    unfold wX8_plus_b52 wX8_plus_b67
    rw [g_up_o _ _ _ _ _ _ (by omega), e, nI_add]
    refine nm_e (K _ (fun k x b t n1 n2 => ?_) (g_up_s _ _ _ _ _ _) ?_)
    · rw [g_up_o _ _ _ _ _ _ (by omega), g_up_o _ _ _ _ _ _ (by omega)]
    · rw [g_up_o _ _ _ _ _ _ (by omega), g_up_s]
  have ok : (q_A n cs p = 43 ∨ q_A n cs p = 45) → wX8_plus_b31 Q (q_A n cs p) h := fun c => by
    unfold wX8_plus_b31 wX8_plus_b32
    refine And.intro (Or.inl rfl) (fun h1 eh => br_t (by rw [eh, g_up_s]) (go _ 0 1 1 rfl (fun h' a b d => And.intro (fun q => ?_) (fun q => K1 h' q a b d)) h1 eh))
    rcases c with c | c
    · exact absurd c q
    · exact K2 h' c a b d
  unfold wX8_plus
  refine br_t e9 (q_mSg hT e (by omega) ?_)
  by_cases a : q_A n cs p = 43
  · exact br_t a (ok (Or.inl a))
  · refine br_f a ?_
    by_cases b : q_A n cs p = 45
    · exact br_t b (ok (Or.inr b))
    · refine br_f b (And.intro (Or.inr rfl) (fun h1 eh => br_f (by rw [eh, g_up_s]; decide) (go _ 1 0 0 rfl (fun h' x y z => And.intro (fun q => K0 h' a b x y z) (fun q => absurd q a)) h1 eh)))
/-! the model's words -/
def q_of (i : Nat) : Nat := [0, 7, 12, 18, 23, 29, 33, 40, 44, 50, 57].getD i 0
theorem q_ofD : ∀ i, i < 10 → (([0, 7, 12, 18, 23, 29, 33, 40, 44, 50, 57] : List Int32).getD i 0 = nI (q_of i)) ∧ (([0, 7, 12, 18, 23, 29, 33, 40, 44, 50, 57] : List Int32).getD (i + 1) 0 = nI (q_of i + q_len0 i)) ∧ q_of i + q_len0 i ≤ 57 := by decide
theorem q_wdD : ∀ i, i < 10 → ∀ k, k < 8 → k < q_len0 i → ((g_by 0 ++ g_by 1 ++ g_by 2 ++ g_by 3 ++ g_by 4 ++ g_by 5 ++ g_by 6 ++ g_by 7 ++ g_by 8 ++ g_by 9).getD (q_of i + k) 0) = q_chw i k := by decide +kernel
theorem q_wr8 {h : g_Hp} (hW : q_WRD h) {i : Nat} (hi : i < 10) : h 13 8 0 (i + 1) = nI (q_of i) ∧ h 13 8 0 (i + 1 + 1) = nI (q_of i + q_len0 i) := ⟨(hW.2 i (by omega)).trans (q_ofD i hi).1, (hW.2 (i + 1) (by omega)).trans (q_ofD i hi).2.1⟩
theorem q_wr7 {h : g_Hp} (hW : q_WRD h) {i k : Nat} (hi : i < 10) (hk : k < q_len0 i) : h 13 7 0 (q_of i + k + 1) = q_chw i k := (hW.1 _ (by have := (q_ofD i hi).2.2; omega)).trans (q_wdD i hi k (by have := (q_len8 i hi).1; omega) hk)
def q_bt (k c : Nat) : Int32 := if k ≤ c then 1 else 0
theorem q_bt01 (k c : Nat) : (q_bt k c &&& 1 = q_bt k c) ∧ (q_bt k c &&& 0 = 0) := by
  unfold q_bt
  split <;> decide
/-- one sign of every word -/
theorem q_mIn {n p k : Nat} {cs : Nat → Nat} {cl : Nat → Nat} {h : g_Hp} {Q : g_R → g_Hp → Prop} {R : Int32 → Int32 → g_Hp → Prop} (hT : q_MT n cs h) (e : h 5 0 0 16 = nI (p + k)) (hp : p < 900) (hk8 : k < 8) (hcl : ∀ i, q_CL (q_A n cs) p i (cl i)) (hb : ∀ i, i < 10 → h 13 6 0 (i + 1) = q_bt k (cl i))
    (K : ∀ h', (∀ a x b t, ¬ (a = 13 ∧ x = 6) → h' a x b t = h a x b t) → (∀ i, i < 10 → h' 13 6 0 (i + 1) = q_bt (k + 1) (cl i)) → ((¬ q_bt (k + 1) (q_mx cl 10) = 0) → wX8_word_b140 Q R (nI k) (-1) (q_bt (k + 1) (q_mx cl 10)) 0 h') ∧ ((q_bt (k + 1) (q_mx cl 10) = 0) → wX8_word_b140 Q R (nI k) (-1) (q_bt (k + 1) (q_mx cl 10)) 1 h')) : wX8_word_b41 Q R (nI k) (-1) 0 0 h := by
  refine q_lpI (fun f (s : Nat × g_Hp) => wX8_word_b41_I Q R f (nI k) (-1) (q_bt (k + 1) (q_mx cl s.1)) (nI s.1) s.2) (fun i s => s.1 = i ∧ (∀ a x b t, ¬ (a = 13 ∧ x = 6) → s.2 a x b t = h a x b t) ∧ (∀ j, j < i → s.2 13 6 0 (j + 1) = q_bt (k + 1) (cl j)) ∧ (∀ j, i ≤ j → j < 10 → s.2 13 6 0 (j + 1) = q_bt k (cl j))) 10 0 (Nat.zero_le _) ?_ ?_ (0, h) ⟨rfl, fun _ _ _ _ _ => rfl, fun j hj => absurd hj (by omega), fun j _ hj => hb j hj⟩
  · rintro f ⟨i, s⟩ ⟨rfl, fr, b1, b2⟩
    show wX8_word_b41_B Q R _ _ _ _ _ _
    unfold wX8_word_b41_B
    exact br_t (nI_le (a := 10) (b := 10) (Nat.le_refl _) (by decide)) (K s fr b1)
  · rintro f i ⟨j, s⟩ _ hi ⟨rfl, fr, b1, b2⟩ hk
    show wX8_word_b41_B Q R _ _ _ _ _ _
    unfold wX8_word_b41_B
    dsimp only at fr b1 b2 hi ⊢
    have hW := hT.2.2.2
    have r8 : s 13 8 0 (j + 1) = nI (q_of j) := (fr _ _ _ _ (by omega)).trans (q_wr8 hW hi).1
    have r9 : s 13 8 0 (j + 1 + 1) = nI (q_of j + q_len0 j) := (fr _ _ _ _ (by omega)).trans (q_wr8 hW hi).2
    have h8 := q_len8 j hi
    have ho := (q_ofD j hi).2.2
    have bj := b2 j (Nat.le_refl _) hi
    have hc := hcl j
    have go : ∀ z : Int32, q_bt k (cl j) &&& z = q_bt (k + 1) (cl j) → wX8_word_b103 Q R (wX8_word_b41_I Q R f) (nI k) (-1) (q_bt (k + 1) (q_mx cl j)) (nI j) z (s 13 6 0 (j + 1)) (nI j) s := fun z hz => by
      unfold wX8_word_b103 wX8_word_b122
      rw [nI_clamp (by omega), bj, hz]
      refine And.intro (q_vI hi (by decide)) (nm_e (And.intro (q_vI hi (by decide)) ?_))
      rw [g_up_s, nI_1]
      have nxt : ∀ y : Int32, y = q_bt (k + 1) (q_mx cl (j + 1)) → ∀ y1 : Int32, y1 = y → ∀ y2 : Int32, y2 = nI (j + 1) → wX8_word_b41_I Q R f (nI k) (-1) y1 y2 (g_up s 13 6 0 (j + 1) (q_bt (k + 1) (cl j))) := fun y hy => by
        subst hy
        refine nm_e (nm_e (hk (j + 1, g_up s 13 6 0 (j + 1) (q_bt (k + 1) (cl j))) ⟨rfl, fun a x b t n1 => ?_, fun i hi' => ?_, fun i h1 h2 => ?_⟩))
        · exact (g_up_o _ _ _ _ _ _ (by omega)).trans (fr a x b t n1)
        · show g_up s 13 6 0 (j + 1) (q_bt (k + 1) (cl j)) 13 6 0 (i + 1) = _
          by_cases z : i = j
          · rw [z, g_up_s]
          · rw [g_up_o _ _ _ _ _ _ (by omega)]
            exact b1 i (by have : i < j + 1 := hi'; omega)
        · have h1' : j + 1 ≤ i := h1
          exact (g_up_o _ _ _ _ _ _ (by omega)).trans (b2 i (by omega) h2)
      have em : q_mx cl (j + 1) = max (q_mx cl j) (cl j) := rfl
      refine And.intro (fun q => nxt _ ?_) (fun q => nxt _ ?_)
      · unfold q_bt at q ⊢
        rw [em]
        by_cases c1 : k + 1 ≤ cl j
        · rw [if_pos c1] at q
          exact absurd rfl q
        · by_cases c2 : k + 1 ≤ q_mx cl j
          · rw [if_pos c2, if_pos (by omega)]
            rfl
          · rw [if_neg c2, if_neg (by omega)]
            rfl
      · unfold q_bt at q ⊢
        rw [em]
        by_cases c1 : k + 1 ≤ cl j
        · by_cases c2 : k + 1 ≤ q_mx cl j
          · rw [if_pos c2, if_pos (by omega)]
            rfl
          · rw [if_neg c2, if_pos (by omega)]
            rfl
        · rw [if_neg c1] at q
          exact absurd q (by decide)
    refine br_f (nI_ge (b := 10) hi (by decide)) ?_
    rw [nI_1, nI_clamp (by omega), nI_clamp (by omega), r8, r9, nI_add]
    refine And.intro (q_vI hi (by decide)) (And.intro (q_vI (by omega) (by decide)) (And.intro (q_vI (by omega) (by decide)) (And.intro (fun c => ?_) (fun c => ?_))))
    · rw [nI_leI (by omega) (by omega)] at c
      unfold wX8_word_b102
      refine go 0 ?_
      rw [(q_bt01 _ _).2]
      exact (if_neg (by have := hc.1; omega)).symm
    · rw [nI_leI (by omega) (by omega)] at c
      have kl : k < q_len0 j := by omega
      refine And.intro (q_vI (by omega) (by decide)) (And.intro (q_vI (by omega) (by decide)) ?_)
      have T' : q_MT n cs s := ⟨hT.1, (fr _ _ _ _ (by omega)).trans hT.2.1, fun e he => (fr _ _ _ _ (by omega)).trans (hT.2.2.1 e he), q_WRD_c (fun k a b s hp => fr _ _ _ _ (by omega)) hW⟩
      refine q_mSg T' ((fr _ _ _ _ (by omega)).trans e) (by omega) ?_
      have r7 : s 13 7 0 (q_of j + k + 1) = q_chw j k := (fr _ _ _ _ (by omega)).trans (q_wr7 hW hi kl)
      show ((¬ s 13 7 0 ((nI (q_of j + k)).toNatClampNeg + 1) = q_A n cs (p + k)) → _) ∧ _
      rw [nI_clamp (by omega), r7]
      refine And.intro (fun d => ?_) (fun d => ?_)
      · unfold wX8_word_b102
        refine go 0 ?_
        rw [(q_bt01 _ _).2]
        refine (if_neg (fun q => d ?_)).symm
        exact (hc.2.1 k (by omega)).symm
      · refine go 1 ?_
        rw [(q_bt01 _ _).1]
        unfold q_bt
        by_cases c1 : k ≤ cl j
        · rw [if_pos c1, if_pos]
          rcases Nat.lt_or_ge k (cl j) with c2 | c2
          · exact c2
          · have ek : cl j = k := by omega
            have := hc.2.2 (by omega)
            rw [ek] at this
            exact absurd d.symm this
        · rw [if_neg c1, if_neg (by omega)]
