/-! ===== the class reads the text ===== -/
theorem q_A1 {n p : Nat} {cs : Nat → Nat} (h : ¬ q_A n cs p = -1) : p < n := by
  rcases Nat.lt_or_ge p n with q | q
  · exact q
  · exact absurd (if_neg (by omega)) h
theorem q_Ad {n p : Nat} {cs : Nat → Nat} (h : q_di (q_A n cs p)) : p < n := q_A1 (fun q => h.1 (by rw [q]; decide))
theorem q_KWn {n p i : Nat} {cs : Nat → Nat} (h : q_KW (q_A n cs) p i) : p + q_len0 i ≤ n := by
  have h8 := q_len8 i h.1
  have e := h.2 (q_len0 i - 1) (by omega)
  have := q_A1 (n := n) (cs := cs) (p := p + (q_len0 i - 1)) (fun q => (q_wch i h.1 (q_len0 i - 1) (by omega) (by omega)).2.2 (q.symm.trans e))
  omega
theorem q_C3n {n p kw p3 : Nat} {cs : Nat → Nat} {d : Int32} (h : q_C3 (q_A n cs) p kw p3 d) : p3 ≤ n ∧ p + q_len0 kw ≤ p3 ∧ p3 ≤ p + 9 := by
  have h1 := q_KWn h.1
  have h8 := q_len8 kw h.1.1
  rcases h.2 with ⟨_, _, _, c, e⟩ | ⟨_, e⟩
  · have := q_A1 (n := n) (cs := cs) (p := p + q_len0 kw + 1) (fun q => by rw [q] at c; exact absurd c (by decide))
    omega
  · omega
theorem q_C4n {n p3 kw p4 : Nat} {cs : Nat → Nat} {v : Int32} (hp : p3 ≤ n) (h : q_C4 (q_A n cs) p3 kw p4 v) : p4 ≤ n ∧ p3 ≤ p4 ∧ p4 ≤ p3 + 3 ∧ (kw ≠ 4 → p3 + 1 ≤ p4) := by
  rcases h with ⟨a, e⟩ | ⟨a, c, c1, c2, _, e⟩
  · exact ⟨by omega, by omega, by omega, fun q => absurd a q⟩
  · have := q_Ad (c2.2.1 (c - 1) (by omega))
    have := c2.1
    exact ⟨by omega, by omega, by omega, fun _ => by omega⟩
theorem q_C5n {n p4 kw p' : Nat} {cs : Nat → Nat} {s : Int32} (hp : p4 ≤ n) (h : q_C5 (q_A n cs) p4 kw p' s) : p' ≤ n ∧ p4 ≤ p' := by
  rcases h with ⟨_, e⟩ | ⟨_, e, c⟩
  · omega
  · have := q_A1 (n := n) (cs := cs) (p := p4) (fun q => by rcases c with c | c <;> rw [q] at c <;> exact absurd c.1 (by decide))
    omega
theorem q_CKn {n p p' kw : Nat} {cs : Nat → Nat} {d v s : Int32} (h : q_CK (q_A n cs) p p' kw d v s) : p' ≤ n ∧ p + 5 ≤ p' := by
  obtain ⟨p3, p4, c3, c4, c5⟩ := h
  have h3 := q_C3n c3
  have h4 := q_C4n h3.1 c4
  have h5 := q_C5n h4.1 c5
  have h8 := q_len8 kw c3.1.1
  refine ⟨h5.1, ?_⟩
  by_cases z : kw = 4
  · subst z
    have : q_len0 4 = 6 := by decide
    omega
  · have := h4.2.2.2 z
    omega
theorem q_CFn {n p p' : Nat} {cs : Nat → Nat} (h : q_CF (q_A n cs) p p') : p' ≤ p + 20 := by
  rcases h with ⟨M, ⟨cl, h1, h2⟩, e⟩ | ⟨kw, a, _, _, e⟩ | ⟨kw, a, _, _, _, e⟩ | ⟨kw, d, a, _⟩ | ⟨p3, d, v, a, b, _⟩
  · have : q_mx cl 10 ≤ 7 := q_mx_b (fun i hi => by have := (h1 i hi).2; have := (q_len8 i hi).1; omega)
    omega
  · have := q_len8 kw a.1
    omega
  · have := q_len8 kw a.1
    omega
  · have := q_C3n a
    omega
  · have := q_C3n a
    have := q_C4n this.1 b
    omega
/-- a command as read: from, to, its word, digit, number, sign -/
abbrev q_rc : Type := Nat × Nat × Nat × Int32 × Int32 × Int32
def q_CR (A : Nat → Int32) (r : q_rc) : Prop := q_CK A r.1 r.2.1 r.2.2.1 r.2.2.2.1 r.2.2.2.2.1 r.2.2.2.2.2
def q_ns (C : Nat → q_rc) : Nat → Nat
  | 0 => 0
  | j + 1 => (C j).2.1 + 1
/-- i commands, each followed by its mark -/
def q_TP (A : Nat → Int32) (n i : Nat) (C : Nat → q_rc) : Prop := ∀ j, j < i → q_CR A (C j) ∧ (C j).1 = q_ns C j ∧ (C j).2.1 < n ∧ A (C j).2.1 = 59
def q_TK (A : Nat → Int32) (n N : Nat) (C : Nat → q_rc) : Prop := q_TP A n N C ∧ q_CR A (C N) ∧ (C N).1 = q_ns C N ∧ ¬ (C N).2.1 < n
def q_TF (A : Nat → Int32) (n p' : Nat) : Prop := ∃ N C, q_TP A n N C ∧ (q_CF A (q_ns C N) p' ∨ ∃ r : q_rc, q_CR A r ∧ r.1 = q_ns C N ∧ r.2.1 < n ∧ ¬ A r.2.1 = 59 ∧ p' = r.2.1)
theorem q_TPn {n i : Nat} {cs : Nat → Nat} {C : Nat → q_rc} (h : q_TP (q_A n cs) n i C) : 6 * i ≤ q_ns C i ∧ q_ns C i ≤ n := by
  induction i with
  | zero => exact ⟨Nat.le_refl _, Nat.zero_le _⟩
  | succ i ih =>
    have h1 := ih (fun j hj => h j (by omega))
    have h2 := h i (by omega)
    have h3 := q_CKn h2.1
    have h4 := h2.2.1
    have h5 := h2.2.2.1
    show 6 * (i + 1) ≤ (C i).2.1 + 1 ∧ (C i).2.1 + 1 ≤ n
    omega
def q_pt {α : Type} (f : Nat → α) (i : Nat) (x : α) : Nat → α := fun j => if j = i then x else f j
theorem q_pts {α : Type} (f : Nat → α) (i : Nat) (x : α) : q_pt f i x i = x := if_pos rfl
theorem q_pto {α : Type} (f : Nat → α) {i j : Nat} (x : α) (h : j ≠ i) : q_pt f i x j = f j := if_neg h
theorem q_ns_c {C C' : Nat → q_rc} : ∀ {i : Nat}, (∀ j, j < i → C' j = C j) → q_ns C' i = q_ns C i
  | 0, _ => rfl
  | i + 1, h => by
    show (C' i).2.1 + 1 = (C i).2.1 + 1
    rw [h i (by omega)]
theorem q_TPc {A : Nat → Int32} {n i : Nat} {C C' : Nat → q_rc} (h : ∀ j, j < i → C' j = C j) (hT : q_TP A n i C) : q_TP A n i C' := fun j hj => by
  rw [h j hj, q_ns_c (fun k hk => h k (by omega))]
  exact hT j hj
/-- the command in the class -/
def q_CH (h : g_Hp) (j : Nat) (r : q_rc) : Prop := h 4 j 0 1 = nI (r.2.2.1 + 1) ∧ (q_hd r.2.2.1 → h 4 j 0 2 = r.2.2.2.1) ∧ (r.2.2.1 ≠ 4 → h 4 j 0 3 = r.2.2.2.2.1) ∧ (r.2.2.1 = 3 → h 4 j 0 4 = r.2.2.2.2.2)
theorem q_CHo {h h' : g_Hp} {j : Nat} {r : q_rc} (e : ∀ s, h' 4 j 0 s = h 4 j 0 s) (hc : q_CH h j r) : q_CH h' j r := by
  unfold q_CH
  rw [e, e, e, e]
  exact hc
/-- only the reader has changed -/
def q_F34 (h h' : g_Hp) : Prop := ∀ k x b t, k ≠ 3 → k ≠ 4 → h' k x b t = h k x b t
theorem q_rTx {n cap : Nat} {cs : Nat → Nat} {h : g_Hp} {Q : g_R → g_Hp → Prop} (hS : q_SB h 0 cap n cs) (hn : n ≤ 60)
    (K1 : ∀ N C h', N < 10 → q_TK (q_A n cs) n N C → q_F34 h h' → h' 3 0 0 3 = nI (N + 1) → (∀ j, j < N + 1 → q_CH h' j (C j)) → Q (.inl (some (vI 1))) h')
    (K0 : ∀ p' h', p' ≤ 100 → q_TF (q_A n cs) n p' → q_F34 h h' → h' 3 0 0 4 = nI p' → Q (.inl (some (vI 0))) h') : wX3_readText h Q := by
  unfold wX3_readText
  refine nm_e (nm_e ?_)
  refine q_lpI (fun k (s : g_Hp) => wX3_readText_b10_I Q k s) (fun i s => ∃ C : Nat → q_rc, q_TP (q_A n cs) n i C ∧ q_F34 h s ∧ s 3 0 0 3 = nI i ∧ s 3 0 0 4 = nI (q_ns C i) ∧ ∀ j, j < i → q_CH s j (C j)) 11 0 (Nat.zero_le _) ?_ ?_ (g_up (g_up h 3 0 0 4 0) 3 0 0 3 0) ⟨fun _ => (0, 0, 0, 0, 0, 0), fun j hj => absurd hj (by omega), fun k x b t n1 n2 => ?_, g_up_s _ _ _ _ _ _, ?_, fun j hj => absurd hj (by omega)⟩
  · rintro k s ⟨C, hT, _⟩
    have := q_TPn hT
    omega
  · rintro k i s _ hi ⟨C, hT, f, e3, e4, hC⟩ hk
    have hT2 := q_TPn hT
    show wX3_readText_b10_B Q _ _
    unfold wX3_readText_b10_B
    rw [e3]
    refine br_f (nI_ge (b := 11) hi (by decide)) (And.intro (q_vI hi (by decide)) (nm_r (nI_clamp (by omega)) ?_))
    have S' : q_SB s 0 cap n cs := q_SBo (fun k a b t hk => f k a b t (by omega) (by omega)) hS
    refine q_rCm S' hn e4 (by omega) (fun p' kw d v sg h1 ck fr e5 w1 w2 w3 w4 => q_n1 (by decide) ?_) (fun p' h1 cf fr e5 => q_n0 rfl (K0 p' h1 (by have := q_CFn cf; omega) ⟨i, C, hT, Or.inl cf⟩ (fun k x b t n1 n2 => (fr k x b t (by omega) (by omega)).trans (f k x b t n1 n2)) e5))
    have hck := q_CKn ck
    have e6 : h1 3 0 0 3 = nI i := (fr _ _ _ _ (by omega) (by omega)).trans e3
    rw [e6, nI_1]
    refine nm_e ?_
    generalize hh : g_up h1 3 0 0 3 (nI (i + 1)) = h2
    have f2 : ∀ k x b t, ¬ (k = 3 ∧ t = 3) → h2 k x b t = h1 k x b t := fun k x b t n1 => by rw [← hh, g_up_o _ _ _ _ _ _ (by omega)]
    have F2 : q_F34 h h2 := fun k x b t n1 n2 => (f2 k x b t (by omega)).trans ((fr k x b t (by omega) (by omega)).trans (f k x b t n1 n2))
    have e7 : h2 3 0 0 3 = nI (i + 1) := by rw [← hh, g_up_s]
    have e8 : h2 3 0 0 4 = nI p' := (f2 _ _ _ _ (by omega)).trans e5
    have S2 : q_SB h2 0 cap n cs := q_SBo (fun k a b t hk => F2 k a b t (by omega) (by omega)) hS
    have hC2 : ∀ j, j < i + 1 → q_CH h2 j (q_pt C i (q_ns C i, p', kw, d, v, sg) j) := fun j hj => by
      by_cases z : j = i
      · subst z
        rw [q_pts]
        exact ⟨(f2 _ _ _ _ (by omega)).trans w1, fun q => (f2 _ _ _ _ (by omega)).trans (w2 q), fun q => (f2 _ _ _ _ (by omega)).trans (w3 q), fun q => (f2 _ _ _ _ (by omega)).trans (w4 q)⟩
      · rw [q_pto _ _ z]
        exact q_CHo (fun t => (f2 _ _ _ _ (by omega)).trans (fr _ _ _ _ (by omega) (by omega))) (hC j (by omega))
    have hT3 : q_TP (q_A n cs) n i (q_pt C i (q_ns C i, p', kw, d, v, sg)) := q_TPc (fun j hj => q_pto _ _ (by omega)) hT
    have ens : q_ns (q_pt C i (q_ns C i, p', kw, d, v, sg)) i = q_ns C i := q_ns_c (fun j hj => q_pto _ _ (by omega))
    refine q_sle S2 ?_
    rw [e8]
    refine And.intro (fun c => ?_) (fun c => ?_)
    · rw [nI_ltI (by omega) (by omega)] at c
      refine q_rSg S2 hn e8 (by omega) (by decide) (fun c2 => q_n1 (by decide) (hk _ ⟨q_pt C i (q_ns C i, p', kw, d, v, sg), fun j hj => ?_, fun k x b t n1 n2 => ?_, ?_, ?_, fun j hj => ?_⟩)) (fun c2 => q_n0 rfl (K0 p' h2 (by omega) ⟨i, C, hT, Or.inr ⟨(q_ns C i, p', kw, d, v, sg), ck, rfl, c, c2, rfl⟩⟩ F2 e8))
      · by_cases z : j = i
        · subst z
          rw [q_pts, ens]
          exact ⟨ck, rfl, c, c2⟩
        · exact hT3 j (by omega)
      · rw [g_up_o _ _ _ _ _ _ (by omega), F2 k x b t n1 n2]
      · rw [g_up_o _ _ _ _ _ _ (by omega), e7]
      · show g_up h2 3 0 0 4 (nI (p' + 1)) 3 0 0 4 = nI ((q_pt C i (q_ns C i, p', kw, d, v, sg) i).2.1 + 1)
        rw [q_pts, g_up_s]
      · exact q_CHo (fun t => g_up_o _ _ _ _ _ _ (by omega)) (hC2 j hj)
    · rw [nI_ltI (by omega) (by omega)] at c
      refine K1 i (q_pt C i (q_ns C i, p', kw, d, v, sg)) h2 (by omega) ⟨hT3, ?_, ?_, ?_⟩ F2 e7 hC2
      · rw [q_pts]
        exact ck
      · rw [q_pts, ens]
      · rw [q_pts]
        exact c
  · rw [g_up_o _ _ _ _ _ _ (by omega), g_up_o _ _ _ _ _ _ (by omega)]
  · rw [g_up_o _ _ _ _ _ _ (by omega), g_up_s]
    rfl
