/-! ===== a text is read in one way only ===== -/
theorem q_KNW {A : Nat → Int32} {p M i : Nat} (h : q_KN A p M) (k : q_KW A p i) : False := by
  obtain ⟨cl, h1, _⟩ := h
  have h2 := h1 i k.1
  have := q_KWt h2.1 k
  omega
theorem q_CLu {A : Nat → Int32} {p i c c' : Nat} (h : q_CL A p i c) (h' : q_CL A p i c') : c = c' := by
  rcases Nat.lt_trichotomy c c' with q | q | q
  · exact absurd (h'.2.1 c q) (h.2.2 (by have := h'.1; omega))
  · exact q
  · exact absurd (h.2.1 c' q) (h'.2.2 (by have := h.1; omega))
theorem q_mxc {f g : Nat → Nat} : ∀ {n : Nat}, (∀ i, i < n → f i = g i) → q_mx f n = q_mx g n
  | 0, _ => rfl
  | n + 1, h => by
    show max (q_mx f n) (f n) = max (q_mx g n) (g n)
    rw [q_mxc (n := n) (fun i hi => h i (by omega)), h n (by omega)]
theorem q_KNu {A : Nat → Int32} {p M M' : Nat} (h : q_KN A p M) (h' : q_KN A p M') : M = M' := by
  obtain ⟨f, h1, rfl⟩ := h
  obtain ⟨g, h2, rfl⟩ := h'
  exact q_mxc (fun i hi => q_CLu (h1 i hi).1 (h2 i hi).1)
theorem q_NCu {A : Nat → Int32} {p m c c' : Nat} (h : q_NC A p m c) (h' : q_NC A p m c') : c = c' := by
  rcases Nat.lt_trichotomy c c' with q | q | q
  · exact absurd (h'.2.1 c q) (h.2.2 (by have := h'.1; omega))
  · exact q
  · exact absurd (h.2.1 c' q) (h'.2.2 (by have := h.1; omega))
theorem q_C3u {A : Nat → Int32} {p kw kw' p3 p3' : Nat} {d d' : Int32} (h : q_C3 A p kw p3 d) (h' : q_C3 A p kw' p3' d') : kw = kw' ∧ p3 = p3' ∧ (q_hd kw → d = d') := by
  have e := q_KWu h.1 h'.1
  subst e
  refine ⟨rfl, ?_⟩
  rcases h.2 with ⟨a, _, b, _, c⟩ | ⟨a, c⟩
  · rcases h'.2 with ⟨_, _, b', _, c'⟩ | ⟨a', _⟩
    · exact ⟨by omega, fun _ => b.trans b'.symm⟩
    · exact absurd a a'
  · rcases h'.2 with ⟨a', _⟩ | ⟨_, c'⟩
    · exact absurd a' a
    · exact ⟨by omega, fun q => absurd q a⟩
theorem q_C4u {A : Nat → Int32} {p3 kw p4 p4' : Nat} {v v' : Int32} (h : q_C4 A p3 kw p4 v) (h' : q_C4 A p3 kw p4' v') : p4 = p4' ∧ (kw ≠ 4 → v = v') := by
  rcases h with ⟨a, c⟩ | ⟨a, c, c1, c2, c3, c4⟩
  · rcases h' with ⟨_, c'⟩ | ⟨a', _⟩
    · exact ⟨by omega, fun q => absurd a q⟩
    · exact absurd a a'
  · rcases h' with ⟨a', _⟩ | ⟨_, d, d1, d2, d3, d4⟩
    · exact absurd a' a
    · have := q_NCu c2 d2
      subst this
      exact ⟨by omega, fun _ => c3.trans d3.symm⟩
theorem q_C4d {A : Nat → Int32} {p3 kw p4 : Nat} {v : Int32} (h : q_C4 A p3 kw p4 v) (hk : kw ≠ 4) : q_di (A p3) := by
  rcases h with ⟨a, _⟩ | ⟨a, c, c1, c2, _⟩
  · exact absurd a hk
  · exact c2.2.1 0 c1
theorem q_C5u {A : Nat → Int32} {p4 kw p' p'' : Nat} {s s' : Int32} (h : q_C5 A p4 kw p' s) (h' : q_C5 A p4 kw p'' s') : p' = p'' ∧ (kw = 3 → s = s') := by
  rcases h with ⟨a, c⟩ | ⟨a, c, b⟩
  · rcases h' with ⟨_, c'⟩ | ⟨a', _⟩
    · exact ⟨by omega, fun q => absurd q a⟩
    · exact absurd a' a
  · rcases h' with ⟨a', _⟩ | ⟨_, c', b'⟩
    · exact absurd a a'
    · refine ⟨by omega, fun _ => ?_⟩
      rcases b with b | b
      · rcases b' with b' | b'
        · exact b.2.trans b'.2.symm
        · exact absurd (b.1.symm.trans b'.1) (by decide)
      · rcases b' with b' | b'
        · exact absurd (b.1.symm.trans b'.1) (by decide)
        · exact b.2.trans b'.2.symm
theorem q_CKu {A : Nat → Int32} {p p1 p2 kw kw' : Nat} {d d' v v' s s' : Int32} (h : q_CK A p p1 kw d v s) (h' : q_CK A p p2 kw' d' v' s') : p1 = p2 ∧ kw = kw' ∧ (q_hd kw → d = d') ∧ (kw ≠ 4 → v = v') ∧ (kw = 3 → s = s') := by
  obtain ⟨p3, p4, c3, c4, c5⟩ := h
  obtain ⟨p3', p4', c3', c4', c5'⟩ := h'
  have ⟨e1, e2, e3⟩ := q_C3u c3 c3'
  subst e1 e2
  have ⟨e4, e5⟩ := q_C4u c4 c4'
  subst e4
  have ⟨e6, e7⟩ := q_C5u c5 c5'
  exact ⟨e6, rfl, e3, e5, e7⟩
theorem q_hd3 : ¬ q_hd 3 := by
  unfold q_hd
  omega
theorem q_CKF {A : Nat → Int32} {p p1 p2 kw : Nat} {d v s : Int32} (h : q_CK A p p1 kw d v s) (h' : q_CF A p p2) : False := by
  obtain ⟨p3, p4, c3, c4, c5⟩ := h
  rcases h' with ⟨M, a, _⟩ | ⟨kw', a, b, c, _⟩ | ⟨kw', a, b, _, c, _⟩ | ⟨kw', d', a, b, c⟩ | ⟨p3', d', v', a, b, c, e⟩
  · exact q_KNW a c3.1
  · have := q_KWu c3.1 a
    subst this
    rcases c3.2 with y | y
    · exact c y.2.1
    · exact y.1 b
  · have := q_KWu c3.1 a
    subst this
    rcases c3.2 with y | y
    · exact c y.2.2.2.1
    · exact y.1 b
  · have ⟨e1, e2, _⟩ := q_C3u c3 a
    subst e1 e2
    exact c (q_C4d c4 b)
  · have ⟨e1, e2, _⟩ := q_C3u c3 a
    subst e1 e2
    have ⟨e4, _⟩ := q_C4u c4 b
    subst e4
    rcases c5 with ⟨y, _⟩ | ⟨_, _, y | y⟩
    · exact y rfl
    · exact c y.1
    · exact e y.1
theorem q_CFu {A : Nat → Int32} {p p1 p2 : Nat} (h : q_CF A p p1) (h' : q_CF A p p2) : p1 = p2 := by
  rcases h with ⟨M, a, e⟩ | ⟨kw, a, b, c, e⟩ | ⟨kw, a, b, b2, c, e⟩ | ⟨kw, d, a, b, c⟩ | ⟨p3, d, v, a, b, c, e⟩
  · rcases h' with ⟨M', a', e'⟩ | ⟨kw', a', _⟩ | ⟨kw', a', _⟩ | ⟨kw', d', a', _⟩ | ⟨p3', d', v', a', _⟩
    · have := q_KNu a a'
      omega
    · exact (q_KNW a a').elim
    · exact (q_KNW a a').elim
    · exact (q_KNW a a'.1).elim
    · exact (q_KNW a a'.1).elim
  · rcases h' with ⟨M', a', e'⟩ | ⟨kw', a', b', c', e'⟩ | ⟨kw', a', b', b2', c', e'⟩ | ⟨kw', d', a', b', c'⟩ | ⟨p3', d', v', a', b', c', e'⟩
    · exact (q_KNW a' a).elim
    · have := q_KWu a a'
      subst this
      omega
    · have := q_KWu a a'
      subst this
      exact absurd b2' c
    · have := q_KWu a a'.1
      subst this
      rcases a'.2 with y | y
      · exact absurd y.2.1 c
      · exact absurd b y.1
    · have := q_KWu a a'.1
      subst this
      exact absurd b q_hd3
  · rcases h' with ⟨M', a', e'⟩ | ⟨kw', a', b', c', e'⟩ | ⟨kw', a', b', b2', c', e'⟩ | ⟨kw', d', a', b', c'⟩ | ⟨p3', d', v', a', b', c', e'⟩
    · exact (q_KNW a' a).elim
    · have := q_KWu a a'
      subst this
      exact absurd b2 c'
    · have := q_KWu a a'
      subst this
      omega
    · have := q_KWu a a'.1
      subst this
      rcases a'.2 with y | y
      · exact absurd y.2.2.2.1 c
      · exact absurd b y.1
    · have := q_KWu a a'.1
      subst this
      exact absurd b q_hd3
  · rcases h' with ⟨M', a', e'⟩ | ⟨kw', a', b', c', e'⟩ | ⟨kw', a', b', b2', c', e'⟩ | ⟨kw', d', a', b', c'⟩ | ⟨p3', d', v', a', b', c', e'⟩
    · exact (q_KNW a' a.1).elim
    · have := q_KWu a' a.1
      subst this
      rcases a.2 with y | y
      · exact absurd y.2.1 c'
      · exact absurd b' y.1
    · have := q_KWu a' a.1
      subst this
      rcases a.2 with y | y
      · exact absurd y.2.2.2.1 c'
      · exact absurd b' y.1
    · exact (q_C3u a a').2.1
    · have ⟨e1, e2, _⟩ := q_C3u a a'
      subst e1 e2
      exact absurd (q_C4d b' (by decide)) c
  · rcases h' with ⟨M', a', e'⟩ | ⟨kw', a', b', c', e'⟩ | ⟨kw', a', b', b2', c', e'⟩ | ⟨kw', d', a', b', c'⟩ | ⟨p3', d', v', a', b', c', e'⟩
    · exact (q_KNW a' a.1).elim
    · have := q_KWu a' a.1
      subst this
      exact absurd b' q_hd3
    · have := q_KWu a' a.1
      subst this
      exact absurd b' q_hd3
    · have ⟨e1, e2, _⟩ := q_C3u a a'
      subst e1 e2
      exact absurd (q_C4d b (by decide)) c'
    · have ⟨_, e2, _⟩ := q_C3u a a'
      subst e2
      exact (q_C4u b b').1
/-! ===== the model reads a command ===== -/
theorem q_b77f {kw x2 x3 : Int32} {h : g_Hp} {Q : g_R → g_Hp → Prop} (e9 : h 5 0 0 19 = 1) (K : Q (.inl none) h) : wX8_command_b77 Q kw x2 x3 h := by
  have b : ∀ y, wX8_command_b87 Q kw x2 y h := fun y => by
    unfold wX8_command_b87 wX8_command_b101
    exact q_n1 (by rw [e9]; decide) K
  unfold wX8_command_b77
  refine And.intro (fun _ => b x3) (fun _ => ?_)
  unfold wX8_plus
  exact br_f (by rw [e9]; decide) (b 0)
/-- what the model does with a command -/
def q_ar (r : q_rc) (x2 x3 : Int32) : Prop := (q_hd r.2.2.1 → x2 = r.2.2.2.1 ∧ x3 = r.2.2.2.2.1) ∧ (¬ q_hd r.2.2.1 → r.2.2.1 ≠ 4 → x2 = r.2.2.2.2.1) ∧ (r.2.2.1 = 3 → x3 = if r.2.2.2.2.2 = 0 then 2 else 1)
theorem q_mCm {n p : Nat} {cs : Nat → Nat} {h : g_Hp} {Q : g_R → g_Hp → Prop} (hT : q_MT n cs h) (e : h 5 0 0 16 = nI p) (e9 : h 5 0 0 19 = 0) (hp : p < 100)
    (K1 : ∀ p' kw d v s x2 x3 h', q_CK (q_A n cs) p p' kw d v s → q_ar (p, p', kw, d, v, s) x2 x3 → q_FM h h' → h' 5 0 0 16 = nI p' → h' 5 0 0 19 = 0 → wX8_command_b87 Q (nI kw) x2 x3 h')
    (K0 : ∀ p' h', q_CF (q_A n cs) p p' → q_FM h h' → h' 5 0 0 16 = nI p' → h' 5 0 0 19 = 1 → Q (.inl none) h') : wX8_command h Q := by
  unfold wX8_command
  refine q_mWd hT e e9 (by omega) (fun kw h1 hkw f1 e1 e91 => br_t e91 ?_) (fun M h1 kn f1 e1 e91 => br_f (by rw [e91]; decide) (K0 _ h1 (Or.inl ⟨M, kn, rfl⟩) f1 e1 e91))
  have h8 := q_len8 kw hkw.1
  have kb := hkw.1
  -- behind the number
  have tail : ∀ p3 p4 d v x2 x3 h4, q_C3 (q_A n cs) p kw p3 d → q_C4 (q_A n cs) p3 kw p4 v → p4 < 500 → (q_hd kw → x2 = d ∧ x3 = v) → (¬ q_hd kw → kw ≠ 4 → x2 = v) → q_FM h h4 → h4 5 0 0 16 = nI p4 → h4 5 0 0 19 = 0 → wX8_command_b77 Q (nI kw) x2 x3 h4 := fun p3 p4 d v x2 x3 h4 c3 c4 hp4 a1 a2 f4 e4 e94 => by
    unfold wX8_command_b77
    rcases Nat.decEq kw 3 with z | z
    · exact q_n1 (fun q => z ((nI_eq (b := 3) (by omega) (by decide)).mp q)) (K1 p4 kw d v 0 x2 x3 h4 ⟨p3, p4, c3, c4, Or.inl ⟨z, rfl⟩⟩ ⟨a1, a2, fun q => absurd q z⟩ f4 e4 e94)
    · subst z
      refine q_n0 rfl (q_mPl (q_MTc f4 hT) e4 e94 (by omega) (fun h5 c f5 e5 e95 => ?_) (fun h5 c f5 e5 e95 => ?_) (fun h5 c1 c2 f5 e5 e95 => ?_))
      · exact K1 (p4 + 1) 3 d v 1 x2 1 h5 ⟨p3, p4, c3, c4, Or.inr ⟨rfl, rfl, Or.inl ⟨c, rfl⟩⟩⟩ ⟨fun q => absurd q q_hd3, a2, fun _ => rfl⟩ (q_FMt f4 f5) e5 e95
      · exact K1 (p4 + 1) 3 d v 0 x2 2 h5 ⟨p3, p4, c3, c4, Or.inr ⟨rfl, rfl, Or.inr ⟨c, rfl⟩⟩⟩ ⟨fun q => absurd q q_hd3, a2, fun _ => rfl⟩ (q_FMt f4 f5) e5 e95
      · unfold wX8_command_b87 wX8_command_b101
        exact q_n1 (by rw [e95]; decide) (K0 p4 h5 (Or.inr (Or.inr (Or.inr (Or.inr ⟨p3, d, v, c3, c4, c1, c2⟩)))) (q_FMt f4 f5) e5 e95)
  -- the number
  have numb : ∀ p3 d h3 (B : Int32 → g_Hp → Prop), q_C3 (q_A n cs) p kw p3 d → p3 < 400 → kw ≠ 4 → q_FM h h3 → h3 5 0 0 16 = nI p3 → h3 5 0 0 19 = 0 → (∀ v p4 h4, q_C4 (q_A n cs) p3 kw p4 v → p4 < 500 → q_FM h h4 → h4 5 0 0 16 = nI p4 → h4 5 0 0 19 = 0 → B v h4) → (∀ v h4, q_FM h h4 → h4 5 0 0 19 = 1 → Q (.inl none) h4 → B v h4) → ∀ EX, wX8_digits 3 h3 (g_kI B EX) := fun p3 d h3 B c3 hp3 k4 f3 e3 e93 B1 B0 EX => by
    obtain ⟨c, hc⟩ := q_NCx (q_A n cs) p3 3
    refine q_mDg (m := 3) (q_MTc f3 hT) e3 e93 (by omega) (by decide) hc (fun h4 f4 e4 e94 => ?_)
    rcases Nat.eq_zero_or_pos c with y | y
    · subst y
      rw [if_pos rfl] at e94
      exact B0 _ h4 (q_FMt f3 f4) e94 (K0 p3 h4 (Or.inr (Or.inr (Or.inr (Or.inl ⟨kw, d, c3, k4, hc.2.2 (by decide)⟩)))) (q_FMt f3 f4) e4 e94)
    · rw [if_neg (by omega)] at e94
      have := hc.1
      exact B1 _ (p3 + c) h4 (Or.inr ⟨k4, c, y, hc, rfl, rfl⟩) (by omega) (q_FMt f3 f4) e4 e94
  have H1 : q_hd kw → wX8_command_b37 Q (nI kw) 1 h1 := fun z => by
    have k4 : kw ≠ 4 := by
      unfold q_hd at z
      omega
    unfold wX8_command_b37 wX8_command_b55
    refine br_f (fun q => k4 ((nI_eq (b := 4) (by omega) (by decide)).mp q)) (br_f (by decide) ?_)
    obtain ⟨c, hc⟩ := q_NCx (q_A n cs) (p + q_len0 kw) 1
    refine q_mDg (m := 1) (q_MTc f1 hT) e1 e91 (by omega) (by decide) hc (fun h2 f2 e2 e92 => ?_)
    have F2 := q_FMt f1 f2
    show wX8_command_b59 Q (nI kw) _ 1 h2
    unfold wX8_command_b59
    refine br_f (by decide) ?_
    rcases Nat.eq_zero_or_pos c with y | y
    · subst y
      rw [if_pos rfl] at e92
      exact q_n1 (by rw [e92]; decide) (q_b77f e92 (K0 _ h2 (Or.inr (Or.inl ⟨kw, hkw, z, hc.2.2 (by decide), rfl⟩)) F2 e2 e92))
    · have c1 : c = 1 := by have := hc.1; omega
      subst c1
      have hd : q_di (q_A n cs (p + q_len0 kw)) := hc.2.1 0 (by decide)
      rw [if_neg (by decide)] at e92
      have ev : q_nv (q_A n cs) (p + q_len0 kw) 1 = q_A n cs (p + q_len0 kw) - 48 := by
        show (0 : Int32) * 10 + (q_A n cs (p + q_len0 kw + 0) - 48) = _
        rw [Int32.zero_mul, Int32.zero_add]
        rfl
      rw [ev]
      refine q_n0 e92 ?_
      unfold wX8_behind
      refine q_mMk (q_MTc F2 hT) e2 e92 (by omega) (fun h3 c f3 e3 e93 => br_t e93 ?_) (fun h3 c f3 e3 e93 => br_f (by rw [e93]; decide) ?_)
      · have c3 : q_C3 (q_A n cs) p kw (p + q_len0 kw + 1 + 1) (q_A n cs (p + q_len0 kw) - 48) := ⟨hkw, Or.inl ⟨z, hd, rfl, c, rfl⟩⟩
        exact numb _ _ h3 _ c3 (by omega) k4 (q_FMt F2 f3) e3 e93 (fun v p4 h4 c4 hp4 f4 e4 e94 => tail _ p4 _ v _ v h4 c3 c4 hp4 (fun _ => ⟨rfl, rfl⟩) (fun q => absurd z q) f4 e4 e94) (fun v h4 f4 e94 k => q_b77f e94 k) _
      · exact q_b77f e93 (K0 _ h3 (Or.inr (Or.inr (Or.inl ⟨kw, hkw, z, hd, c, rfl⟩))) (q_FMt F2 f3) e3 e93)
  have H0 : ¬ q_hd kw → wX8_command_b37 Q (nI kw) 0 h1 := fun z => by
    have c3 : q_C3 (q_A n cs) p kw (p + q_len0 kw) 0 := ⟨hkw, Or.inr ⟨z, rfl⟩⟩
    unfold wX8_command_b37 wX8_command_b55
    rcases Nat.decEq kw 4 with k4 | k4
    · refine br_f (fun q => k4 ((nI_eq (b := 4) (by omega) (by decide)).mp q)) (br_t rfl ?_)
      refine numb _ _ h1 _ c3 (by omega) k4 f1 e1 e91 (fun v p4 h4 c4 hp4 f4 e4 e94 => ?_) (fun v h4 f4 e94 k => ?_) _
      · show wX8_command_b59 Q (nI kw) v 0 h4
        unfold wX8_command_b59
        exact br_t rfl (tail _ p4 _ v _ 0 h4 c3 c4 hp4 (fun q => absurd q z) (fun _ _ => rfl) f4 e4 e94)
      · show wX8_command_b59 Q (nI kw) v 0 h4
        unfold wX8_command_b59
        exact br_t rfl (q_b77f e94 k)
    · refine br_t (by rw [k4]; rfl) ?_
      unfold wX8_command_b59
      exact br_t rfl (tail _ _ _ 0 _ 0 h1 c3 (Or.inl ⟨k4, rfl⟩) (by omega) (fun q => absurd q z) (fun _ q => absurd k4 q) f1 e1 e91)
  unfold wX8_command_b32
  refine And.intro (fun q => H1 ?_) (fun q0 => And.intro (fun q => H1 ?_) (fun q1 => And.intro (fun q6 => H0 ?_) (fun q => H1 ?_)))
  · exact Or.inl ((nI_eq (b := 0) (by omega) (by decide)).mp q)
  · exact Or.inr (Or.inl ((nI_eq (b := 1) (by omega) (by decide)).mp q))
  · rintro (z | z | z)
    · exact q0 (by rw [z]; rfl)
    · exact q1 (by rw [z]; rfl)
    · exact q6 (by rw [z]; rfl)
  · exact Or.inr (Or.inr ((nI_eq (b := 6) (by omega) (by decide)).mp q))
