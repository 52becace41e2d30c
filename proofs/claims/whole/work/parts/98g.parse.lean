/-! ===== the model's commands ===== -/
theorem q_CRs {A : Nat → Int32} {r : q_rc} {p : Nat} (h : q_CR A r) (e : r.1 = p) : q_CK A p r.2.1 r.2.2.1 r.2.2.2.1 r.2.2.2.2.1 r.2.2.2.2.2 := by
  subst e
  exact h
theorem q_mK1 {n p : Nat} {cs : Nat → Nat} {r : q_rc} {s : g_Hp} {R : g_R → g_Hp → Prop} (hT : q_MT n cs s) (e : s 5 0 0 16 = nI p) (e9 : s 5 0 0 19 = 0) (hp : p < 100) (hr : q_CR (q_A n cs) r) (hr1 : r.1 = p)
    (K : ∀ x2 x3 s', q_ar r x2 x3 → q_FM s s' → s' 5 0 0 16 = nI r.2.1 → s' 5 0 0 19 = 0 → wX8_command_b87 R (nI r.2.2.1) x2 x3 s') : wX8_command s R := by
  have ck := q_CRs hr hr1
  refine q_mCm hT e e9 hp (fun p' kw d v sg x2 x3 s' ck' ar f e' e9' => ?_) (fun p' s' cf _ _ _ => (q_CKF ck cf).elim)
  have ⟨a1, a2, a3, a4, a5⟩ := q_CKu ck ck'
  subst a1 a2
  refine K x2 x3 s' ⟨fun z => ?_, fun z1 z2 => ?_, fun z => ?_⟩ f e' e9'
  · have k4 : r.2.2.1 ≠ 4 := by
      unfold q_hd at z
      omega
    exact ⟨(ar.1 z).1.trans (a3 z).symm, (ar.1 z).2.trans (a4 k4).symm⟩
  · exact (ar.2.1 z1 z2).trans (a4 z2).symm
  · rw [a5 z]
    exact ar.2.2 z
theorem q_mK0 {n p p' : Nat} {cs : Nat → Nat} {s : g_Hp} {R : g_R → g_Hp → Prop} (hT : q_MT n cs s) (e : s 5 0 0 16 = nI p) (e9 : s 5 0 0 19 = 0) (hp : p < 100) (hr : q_CF (q_A n cs) p p')
    (K : ∀ s', q_FM s s' → s' 5 0 0 16 = nI p' → s' 5 0 0 19 = 1 → R (.inl none) s') : wX8_command s R := by
  refine q_mCm hT e e9 hp (fun p' kw d v sg x2 x3 s' ck' ar f e' e9' => (q_CKF ck' hr).elim) (fun p'' s' cf f e' e9' => ?_)
  have := q_CFu cf hr
  subst this
  exact K s' f e' e9'
/-- a text that is read, command by command -/
theorem q_mCs {n N : Nat} {cs : Nat → Nat} {C : Nat → q_rc} {h : g_Hp} {Q : g_R → g_Hp → Prop} (TK : q_TK (q_A n cs) n N C) (Inv Bad : Nat → g_Hp → Prop) (hf : ∀ j s s', Inv j s → q_FM s s' → Inv j s') (hm : ∀ j s, Inv j s → q_MT n cs s ∧ s 5 0 0 1 = 0)
    (step : ∀ (R : g_R → g_Hp → Prop) j s x2 x3, j ≤ N → Inv j s → s 5 0 0 19 = 0 → q_ar (C j) x2 x3 → (∀ s', Inv (j + 1) s' → s' 5 0 0 16 = s 5 0 0 16 → s' 5 0 0 19 = 0 → R (.inl none) s') → (∀ s', Bad j s' → ¬ s' 5 0 0 1 = 0 → s' 5 0 0 19 = 0 → R (.inl none) s') → wX8_command_b87 R (nI (C j).2.2.1) x2 x3 s)
    (K : ∀ s, Inv (N + 1) s → s 5 0 0 19 = 0 → Q (.inl (some (vI (nI (N + 1))))) s)
    (KF : ∀ j s, j ≤ N → Bad j s → ¬ s 5 0 0 1 = 0 → s 5 0 0 19 = 0 → Q (.inl (some (vI (nI (j + 1))))) s)
    (h0 : Inv 0 h) : wX8_commands h Q := by
  have ⟨TP, cN, sN, eN⟩ := TK
  have hn : n ≤ 60 := (hm 0 h h0).1.1
  have one : ∀ j, j ≤ N → q_CR (q_A n cs) (C j) ∧ (C j).1 = q_ns C j ∧ q_ns C j < 100 ∧ (C j).2.1 ≤ n := fun j hj => by
    have b := (q_TPn (i := j) (fun k hk => TP k (by omega))).2
    rcases Nat.lt_or_ge j N with z | z
    · exact ⟨(TP j z).1, (TP j z).2.1, by omega, by have := (TP j z).2.2.1; omega⟩
    · have ej : j = N := by omega
      subst ej
      exact ⟨cN, sN, by omega, (q_CKn cN).1⟩
  have claim : ∀ d j, j + d = N → ∀ s, Inv j s → s 5 0 0 16 = nI (q_ns C j) → s 5 0 0 19 = 0 → ∀ R : g_R → g_Hp → Prop, (∀ s', wX8_commands_b16_I Q (d + 3) (nI (j + 1)) s' → R (.inl none) s') → wX8_command s R := by
    intro d
    induction d with
    | zero =>
      intro j hj s hI e e9 R hR
      have hj' : j = N := by omega
      subst hj'
      have o := one j (Nat.le_refl _)
      refine q_mK1 (hm j s hI).1 e e9 o.2.2.1 o.1 o.2.1 (fun x2 x3 s' ar f e' e9' => step R j s' x2 x3 (Nat.le_refl _) (hf _ _ _ hI f) e9' ar (fun s2 I2 e2 e92 => hR s2 ?_) (fun s2 B2 e1 e92 => hR s2 ?_))
      · show wX8_commands_b16_B Q _ _ _
        unfold wX8_commands_b16_B wX8_commands_b64
        refine q_n0 e92 (q_n0 (hm _ s2 I2).2 ?_)
        rw [e2, e', (hm _ s2 I2).1.2.1]
        exact br_t (nI_le (by omega) (by omega)) (K s2 I2 e92)
      · show wX8_commands_b16_B Q _ _ _
        unfold wX8_commands_b16_B wX8_commands_b64
        exact q_n0 e92 (q_n1 e1 (KF j s2 (Nat.le_refl _) B2 e1 e92))
    | succ d ih =>
      intro j hj s hI e e9 R hR
      have o := one j (by omega)
      have t := TP j (by omega)
      refine q_mK1 (hm j s hI).1 e e9 o.2.2.1 o.1 o.2.1 (fun x2 x3 s' ar f e' e9' => step R j s' x2 x3 (by omega) (hf _ _ _ hI f) e9' ar (fun s2 I2 e2 e92 => hR s2 ?_) (fun s2 B2 e1 e92 => hR s2 ?_))
      · show wX8_commands_b16_B Q _ _ _
        unfold wX8_commands_b16_B
        refine q_n0 e92 (q_n0 (hm _ s2 I2).2 ?_)
        have e3 : s2 5 0 0 16 = nI (C j).2.1 := e2.trans e'
        have T2 := (hm _ s2 I2).1
        rw [e3, T2.2.1]
        refine br_f (nI_ge t.2.2.1 (by omega)) (q_mMk T2 e3 e92 (by omega) (fun s3 c f3 e4 e94 => q_n0 e94 ?_) (fun s3 c _ _ _ => absurd t.2.2.2 c))
        refine ih (j + 1) (by omega) s3 (hf _ _ _ I2 f3) e4 e94 _ (fun s4 z => ?_)
        show wX8_commands_b58 Q (wX8_commands_b16_I Q (d + 3)) (nI (j + 1)) s4
        unfold wX8_commands_b58
        exact nm_r (nI_1 (j + 1)) z
      · show wX8_commands_b16_B Q _ _ _
        unfold wX8_commands_b16_B wX8_commands_b64
        exact q_n0 e92 (q_n1 e1 (KF j s2 (by omega) B2 e1 e92))
  unfold wX8_commands
  refine nm_e (nm_e (claim N 0 (by omega) _ (hf _ _ _ h0 (fun k x b t n1 n2 => ?_)) ?_ (g_up_s _ _ _ _ _ _) _ (fun s' z => ⟨N + 3, z⟩)))
  · rw [g_up_o _ _ _ _ _ _ (by omega), g_up_o _ _ _ _ _ _ (by omega)]
  · rw [g_up_o _ _ _ _ _ _ (by omega), g_up_s]
    rfl
/-- a text that isn't read -/
theorem q_mCx {n p' : Nat} {cs : Nat → Nat} {h : g_Hp} {Q : g_R → g_Hp → Prop} (TF : q_TF (q_A n cs) n p') (Inv : g_Hp → Prop) (hf : ∀ s s', Inv s → q_FM s s' → Inv s') (hm : ∀ s, Inv s → q_MT n cs s ∧ s 5 0 0 1 = 0)
    (step : ∀ (R : g_R → g_Hp → Prop) s kw x2 x3, Inv s → s 5 0 0 19 = 0 → R (.inl none) s → wX8_command_b87 R kw x2 x3 s)
    (K : ∀ x s, Inv s → s 5 0 0 19 = 1 → s 5 0 0 16 = nI p' → Q (.inl (some (vI x))) s)
    (h0 : Inv h) : wX8_commands h Q := by
  obtain ⟨N, C, TP, last⟩ := TF
  have hn : n ≤ 60 := (hm h h0).1.1
  have nsb : ∀ j, j ≤ N → q_ns C j < 100 := fun j hj => by
    have b := (q_TPn (i := j) (fun k hk => TP k (by omega))).2
    omega
  have ret : ∀ k x s, Inv s → s 5 0 0 19 = 1 → s 5 0 0 16 = nI p' → wX8_commands_b16_I Q (k + 1) x s := fun k x s I e9 e => by
    show wX8_commands_b16_B Q _ _ _
    unfold wX8_commands_b16_B wX8_commands_b64
    exact q_n1 (by rw [e9]; decide) (K x s I e9 e)
  have claim : ∀ d j, j + d = N → ∀ s x, Inv s → s 5 0 0 16 = nI (q_ns C j) → s 5 0 0 19 = 0 → ∀ R : g_R → g_Hp → Prop, (∀ s', wX8_commands_b16_I Q (d + 3) x s' → R (.inl none) s') → wX8_command s R := by
    intro d
    induction d with
    | zero =>
      intro j hj s x hI e e9 R hR
      have hj' : j = N := by omega
      subst hj'
      rcases last with cf | ⟨r, r1, r2, r3, r4, rfl⟩
      · exact q_mK0 (hm s hI).1 e e9 (nsb j (Nat.le_refl _)) cf (fun s' f e' e9' => hR s' (ret 2 x s' (hf _ _ hI f) e9' e'))
      · refine q_mK1 (hm s hI).1 e e9 (nsb j (Nat.le_refl _)) r1 r2 (fun x2 x3 s' ar f e' e9' => step R s' _ x2 x3 (hf _ _ hI f) e9' (hR s' ?_))
        have I2 := hf _ _ hI f
        have T2 := (hm s' I2).1
        show wX8_commands_b16_B Q _ _ _
        unfold wX8_commands_b16_B
        refine q_n0 e9' (q_n0 (hm s' I2).2 ?_)
        rw [e', T2.2.1]
        refine br_f (nI_ge r3 (by omega)) (q_mMk T2 e' e9' (by omega) (fun s3 c _ _ _ => absurd c r4) (fun s3 c f3 e4 e94 => q_n1 (by rw [e94]; decide) ?_))
        unfold wX8_commands_b58
        exact nm_e (ret 1 _ s3 (hf _ _ I2 f3) e94 e4)
    | succ d ih =>
      intro j hj s x hI e e9 R hR
      have t := TP j (by omega)
      refine q_mK1 (hm s hI).1 e e9 (nsb j (by omega)) t.1 t.2.1 (fun x2 x3 s' ar f e' e9' => step R s' _ x2 x3 (hf _ _ hI f) e9' (hR s' ?_))
      have I2 := hf _ _ hI f
      have T2 := (hm s' I2).1
      show wX8_commands_b16_B Q _ _ _
      unfold wX8_commands_b16_B
      refine q_n0 e9' (q_n0 (hm s' I2).2 ?_)
      rw [e', T2.2.1]
      refine br_f (nI_ge t.2.2.1 (by omega)) (q_mMk T2 e' e9' (by have := t.2.2.1; omega) (fun s3 c f3 e4 e94 => q_n0 e94 ?_) (fun s3 c _ _ _ => absurd t.2.2.2 c))
      refine ih (j + 1) (by omega) s3 (x + 1) (hf _ _ I2 f3) e4 e94 _ (fun s4 z => ?_)
      show wX8_commands_b58 Q (wX8_commands_b16_I Q (d + 3)) x s4
      unfold wX8_commands_b58
      exact nm_e z
  unfold wX8_commands
  refine nm_e (nm_e (claim N 0 (by omega) _ 1 (hf _ _ h0 (fun k x b t n1 n2 => ?_)) ?_ (g_up_s _ _ _ _ _ _) _ (fun s' z => ⟨N + 3, z⟩)))
  · rw [g_up_o _ _ _ _ _ _ (by omega), g_up_o _ _ _ _ _ _ (by omega)]
  · rw [g_up_o _ _ _ _ _ _ (by omega), g_up_s]
    rfl
