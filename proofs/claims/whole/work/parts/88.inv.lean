/-! ===== what holds between the law's calls ===== -/
def q_HIS (T : Nat) (h : g_Hp) : Prop := ∃ ch fr : Nat, ch ≤ 8 ∧ fr < 9 ∧ h 0 0 0 3 = nI fr ∧ h 0 0 0 4 = nI ch ∧ h 5 0 0 2 = nI ch ∧ ∀ j, j < ch → q_R T (q_cv h ((fr + 9 - ch + j) % 9 + 1)) (fun e => h 13 3 0 (169 * j + e + 1))
def q_SAV (T : Nat) (h : g_Hp) : Prop := h 0 0 0 6 = h 5 0 0 5 ∧ (h 5 0 0 5 = 0 ∨ h 5 0 0 5 = 1) ∧ (h 5 0 0 5 = 1 → q_R T (q_cv h 10) (q_mv h 2))
def q_ERR (h : g_Hp) : Prop := h 0 0 0 8 = h 5 0 0 3 ∧ h 0 0 0 9 = h 5 0 0 4 ∧ (h 5 0 0 3 = -1 ∨ ∃ k, k ≤ 100 ∧ h 5 0 0 3 = nI k) ∧ (h 5 0 0 4 = -1 ∨ ∃ k, k ≤ 100 ∧ h 5 0 0 4 = nI k)
def q_TXT (h : g_Hp) : Prop := ∃ cap cnt cs, q_SB h 0 cap cnt cs ∧ cnt ≤ 60 ∧ h 5 0 0 15 = nI cnt ∧ (∀ e, e < cnt → cs e < 128 ∧ h 13 4 0 (e + 1) = nI (cs e))
def q_LIN (h : g_Hp) : Prop := ∃ (cap : Nat) (p : Nat × (Nat → Nat)), q_SB h 1 cap p.1 p.2 ∧ q_LN h p
def q_WRD (h : g_Hp) : Prop := (∀ k, k < 57 → h 13 7 0 (k + 1) = ((g_by 0 ++ g_by 1 ++ g_by 2 ++ g_by 3 ++ g_by 4 ++ g_by 5 ++ g_by 6 ++ g_by 7 ++ g_by 8 ++ g_by 9).getD k 0)) ∧ (∀ k, k < 11 → h 13 8 0 (k + 1) = ([0, 7, 12, 18, 23, 29, 33, 40, 44, 50, 57] : List Int32).getD k 0)
def q_I (T : Nat) (h : g_Hp) : Prop := q_R T (q_cv h 0) (q_mv h 0) ∧ q_HIS T h ∧ q_SAV T h ∧ q_ERR h ∧ q_TXT h ∧ q_LIN h ∧ q_WRD h
theorem q_SB_c {h h' : g_Hp} {i cap cnt : Nat} {cs : Nat → Nat} (e6 : ∀ s, h' 6 i 0 s = h 6 i 0 s) (e14 : ∀ b s, h' 14 i b s = h 14 i b s) (hS : q_SB h i cap cnt cs) : q_SB h' i cap cnt cs := by
  obtain ⟨g, a4, a2, a1, hg, hc, hcc, h16, a0, hun, hby, hcs⟩ := hS
  exact ⟨g, (e6 4).trans a4, (e6 2).trans a2, (e6 1).trans a1, hg, hc, hcc, h16, (e14 g 0).trans a0, fun g' z => (e14 g' 0).trans (hun g' z), fun e z => by rw [e14]; exact hby e z, fun e z => by rw [e14]; exact hcs e z⟩
theorem q_HIS_c {T : Nat} {h h' : g_Hp} (e : ∀ k a b s, (k = 0 ∧ (s = 3 ∨ s = 4)) ∨ (k = 5 ∧ s = 2) ∨ (k = 1 ∧ 1 ≤ a ∧ a ≤ 9) ∨ (k = 2 ∧ 1 ≤ a ∧ a ≤ 9) ∨ (k = 13 ∧ a = 3) → h' k a b s = h k a b s) (hH : q_HIS T h) : q_HIS T h' := by
  obtain ⟨ch, fr, h1, h2, h3, h4, h5, h6⟩ := hH
  refine ⟨ch, fr, h1, h2, (e _ _ _ _ (by omega)).trans h3, (e _ _ _ _ (by omega)).trans h4, (e _ _ _ _ (by omega)).trans h5, fun j hj => ?_⟩
  have e1 : q_cv h' ((fr + 9 - ch + j) % 9 + 1) = q_cv h ((fr + 9 - ch + j) % 9 + 1) := by
    unfold q_cv
    refine Prod.ext (funext fun s => e _ _ _ _ (by omega)) (funext fun m => funext fun s => e _ _ _ _ (by omega))
  have e2 : (fun x => h' 13 3 0 (169 * j + x + 1)) = (fun x => h 13 3 0 (169 * j + x + 1)) := funext fun x => e _ _ _ _ (by omega)
  rw [e1, e2]
  exact h6 j hj
theorem q_SAV_c {T : Nat} {h h' : g_Hp} (e : ∀ k a b s, (k = 0 ∧ s = 6) ∨ (k = 5 ∧ s = 5) ∨ (k = 1 ∧ a = 10) ∨ (k = 2 ∧ a = 10) ∨ (k = 13 ∧ a = 2) → h' k a b s = h k a b s) (hH : q_SAV T h) : q_SAV T h' := by
  obtain ⟨h1, h2, h3⟩ := hH
  have e1 : q_cv h' 10 = q_cv h 10 := by
    unfold q_cv
    refine Prod.ext (funext fun s => e _ _ _ _ (by omega)) (funext fun m => funext fun s => e _ _ _ _ (by omega))
  have e2 : q_mv h' 2 = q_mv h 2 := funext fun x => e _ _ _ _ (by omega)
  unfold q_SAV
  rw [e1, e2, e 0 0 0 6 (by omega), e 5 0 0 5 (by omega)]
  exact ⟨h1, h2, h3⟩
theorem q_ERR_c {h h' : g_Hp} (e : ∀ k a b s, (k = 0 ∧ (s = 8 ∨ s = 9)) ∨ (k = 5 ∧ (s = 3 ∨ s = 4)) → h' k a b s = h k a b s) (hH : q_ERR h) : q_ERR h' := by
  unfold q_ERR
  rw [e 0 0 0 8 (by omega), e 0 0 0 9 (by omega), e 5 0 0 3 (by omega), e 5 0 0 4 (by omega)]
  exact hH
theorem q_TXT_c {h h' : g_Hp} (e : ∀ k a b s, (k = 6 ∧ a = 0) ∨ (k = 14 ∧ a = 0) ∨ (k = 5 ∧ s = 15) ∨ (k = 13 ∧ a = 4) → h' k a b s = h k a b s) (hH : q_TXT h) : q_TXT h' := by
  obtain ⟨cap, cnt, cs, h1, h2, h3, h4⟩ := hH
  exact ⟨cap, cnt, cs, q_SB_c (fun s => e _ _ _ _ (by omega)) (fun b s => e _ _ _ _ (by omega)) h1, h2, (e _ _ _ _ (by omega)).trans h3, fun k hk => ⟨(h4 k hk).1, (e _ _ _ _ (by omega)).trans (h4 k hk).2⟩⟩
theorem q_LIN_c {h h' : g_Hp} (e : ∀ k a b s, (k = 6 ∧ a = 1) ∨ (k = 14 ∧ a = 1) ∨ (k = 5 ∧ s = 18) ∨ (k = 13 ∧ a = 5) → h' k a b s = h k a b s) (hH : q_LIN h) : q_LIN h' := by
  obtain ⟨cap, p, h1, h2, h3, h4⟩ := hH
  exact ⟨cap, p, q_SB_c (fun s => e _ _ _ _ (by omega)) (fun b s => e _ _ _ _ (by omega)) h1, (e _ _ _ _ (by omega)).trans h2, h3, fun k hk => (e _ _ _ _ (by omega)).trans (h4 k hk)⟩
theorem q_WRD_c {h h' : g_Hp} (e : ∀ k a b s, k = 13 ∧ (a = 7 ∨ a = 8) → h' k a b s = h k a b s) (hH : q_WRD h) : q_WRD h' :=
  ⟨fun k hk => (e _ _ _ _ (by omega)).trans (hH.1 k hk), fun k hk => (e _ _ _ _ (by omega)).trans (hH.2 k hk)⟩
theorem q_BK_c {T : Nat} {h h' : g_Hp} (e : ∀ k a b s, ((k = 1 ∨ k = 2) ∧ a = 0) ∨ (k = 13 ∧ a = 0) → h' k a b s = h k a b s) (hH : q_R T (q_cv h 0) (q_mv h 0)) : q_R T (q_cv h' 0) (q_mv h' 0) := by
  have e1 : q_cv h' 0 = q_cv h 0 := by
    unfold q_cv
    refine Prod.ext (funext fun s => e _ _ _ _ (by omega)) (funext fun m => funext fun s => e _ _ _ _ (by omega))
  have e2 : q_mv h' 0 = q_mv h 0 := funext fun x => e _ _ _ _ (by omega)
  rw [e1, e2]
  exact hH
theorem q_HIS_m {T T' : Nat} (hT : T ≤ T') {h : g_Hp} (hH : q_HIS T h) : q_HIS T' h := by
  obtain ⟨ch, fr, h1, h2, h3, h4, h5, h6⟩ := hH
  exact ⟨ch, fr, h1, h2, h3, h4, h5, fun j hj => q_R_mono hT (h6 j hj)⟩
theorem q_SAV_m {T T' : Nat} (hT : T ≤ T') {h : g_Hp} (hH : q_SAV T h) : q_SAV T' h := ⟨hH.1, hH.2.1, fun z => q_R_mono hT (hH.2.2 z)⟩
theorem q_I_m {T T' : Nat} (hT : T ≤ T') {h : g_Hp} (hI : q_I T h) : q_I T' h := ⟨q_R_mono hT hI.1, q_HIS_m hT hI.2.1, q_SAV_m hT hI.2.2.1, hI.2.2.2⟩
/-- a heap that differs in what nothing of this speaks of -/
theorem q_I_c {T : Nat} {h h' : g_Hp} (e : ∀ k a b s, ¬ (k = 5 ∧ s = 1) → k < 15 → k ≠ 3 → k ≠ 4 → ¬ (k = 5 ∧ (s = 16 ∨ s = 17 ∨ s = 19 ∨ s = 20)) → ¬ (k = 13 ∧ (a = 1 ∨ a = 6)) → h' k a b s = h k a b s) (hI : q_I T h) : q_I T h' :=
  ⟨q_BK_c (fun k a b s _ => e k a b s (by omega) (by omega) (by omega) (by omega) (by omega) (by omega)) hI.1, q_HIS_c (fun k a b s _ => e k a b s (by omega) (by omega) (by omega) (by omega) (by omega) (by omega)) hI.2.1, q_SAV_c (fun k a b s _ => e k a b s (by omega) (by omega) (by omega) (by omega) (by omega) (by omega)) hI.2.2.1, q_ERR_c (fun k a b s _ => e k a b s (by omega) (by omega) (by omega) (by omega) (by omega) (by omega)) hI.2.2.2.1,
    q_TXT_c (fun k a b s _ => e k a b s (by omega) (by omega) (by omega) (by omega) (by omega) (by omega)) hI.2.2.2.2.1, q_LIN_c (fun k a b s _ => e k a b s (by omega) (by omega) (by omega) (by omega) (by omega) (by omega)) hI.2.2.2.2.2.1, q_WRD_c (fun k a b s _ => e k a b s (by omega) (by omega) (by omega) (by omega) (by omega) (by omega)) hI.2.2.2.2.2.2⟩
/-! the class: refuse, beginChange, endChange -/
def q_ex (φ : Nat) : String := match φ with
  | 1 => "java/lang/IndexOutOfBoundsException"
  | 2 => "java/lang/IllegalArgumentException"
  | 3 => "java/lang/IllegalStateException"
  | 4 => "java/lang/UnsupportedOperationException"
  | _ => "java/util/NoSuchElementException"
theorem q_rf0 {j : Nat} {h : g_Hp} {Q : g_R → g_Hp → Prop} (K : Q (.inl none) h) : wX7_refuse 0 j h Q := by
  unfold wX7_refuse
  refine And.intro (by decide) (And.intro (by decide) (And.intro (q_vI (m := 0) (by decide) (by decide)) (And.intro (fun _ => K) ⟨fun q => ?_, fun q => ?_, fun q => ?_, fun q => ?_, fun q => ?_⟩)))
  all_goals exact absurd q (by decide)
theorem q_rfE {φ j : Nat} {h : g_Hp} {Q : g_R → g_Hp → Prop} (h1 : 1 ≤ φ) (h2 : φ < 6) (K : Q (.inr (q_ex φ)) h) : wX7_refuse φ j h Q := by
  have hv : vp_in (Int32.ofNat φ) (g_sw 0).length := q_vI (m := φ) h2 (by decide)
  have key : wJx29ce0_ordinal_8abf5_20 φ j h = fun Q => φ < 6 ∧ Q (.inl (some (vI (Int32.ofNat φ)))) h := rfl
  obtain rfl | rfl | rfl | rfl | rfl : φ = 1 ∨ φ = 2 ∨ φ = 3 ∨ φ = 4 ∨ φ = 5 := by omega
  all_goals
    unfold wX7_refuse
    refine And.intro (by decide) (And.intro (by decide) (And.intro hv (And.intro (fun q => ?_) ⟨fun q => ?_, fun q => ?_, fun q => ?_, fun q => ?_, fun q => ?_⟩)))
    all_goals first | exact K | exact absurd q (by decide)
theorem q_bC {T fr : Nat} {h : g_Hp} {w : Nat → Int32} {Q : g_R → g_Hp → Prop} (hfr : fr < 9) (e3 : h 0 0 0 3 = nI fr) (hR : q_R T (q_cv h 0) w) (K : ∀ c', q_R T c' w → Q (.inl none) (q_cH h (fr + 1) c')) : wX7_beginChange h Q := by
  unfold wX7_beginChange
  rw [e3, nI_clamp (by omega)]
  exact And.intro (q_vI hfr (by decide)) (nm_e (q_cpR (by omega) hR (fun c' a _ => K c' a)))
theorem q_eC {fr ch : Nat} {h : g_Hp} {Q : g_R → g_Hp → Prop} (hfr : fr < 9) (hch : ch ≤ 8) (e3 : h 0 0 0 3 = nI fr) (e4 : h 0 0 0 4 = nI ch) (K : ∀ h', (∀ k a b s, ¬ (k = 0 ∧ (s = 3 ∨ s = 4)) → h' k a b s = h k a b s) → h' 0 0 0 3 = nI ((fr + 1) % 9) → h' 0 0 0 4 = nI (min (ch + 1) 8) → Q (.inl none) h') : wX7_endChange h Q := by
  unfold wX7_endChange
  rw [e3, nI_1, show (9 : Int32) = nI 9 from rfl, pk_rem (by omega) (by decide) (by decide)]
  refine And.intro (by decide) (nm_e ?_)
  have f4 : g_up h 0 0 0 3 (nI ((fr + 1) % 9)) 0 0 0 4 = nI ch := (g_up_o _ _ _ _ _ _ (by omega)).trans e4
  rw [f4]
  refine pk_le 8 ch (fun a => ?_) (fun a => ?_)
  · refine K _ (fun k a b s n => g_up_o _ _ _ _ _ _ (by omega)) (g_up_s _ _ _ _ _ _) ?_
    rw [f4, Nat.min_eq_right (by omega), show ch = 8 by omega]
  · rw [nI_1]
    refine nm_e (K _ (fun k a b s n => ?_) ?_ ?_)
    · rw [g_up_o _ _ _ _ _ _ (by omega), g_up_o _ _ _ _ _ _ (by omega)]
    · rw [g_up_o _ _ _ _ _ _ (by omega), g_up_s]
    · rw [g_up_s, Nat.min_eq_left (by omega)]
/-! the model: begins, ends -/
theorem q_bg {h : g_Hp} {Q : g_R → g_Hp → Prop} (K : ∀ h', (∀ k a b s, ¬ (k = 5 ∧ s = 1) → ¬ (k = 13 ∧ a = 1) → h' k a b s = h k a b s) → h' 5 0 0 1 = 0 → (∀ e, e < 169 → h' 13 1 0 (e + 1) = h 13 0 0 (e + 1)) → Q (.inl none) h') : wX8_begins h Q := by
  unfold wX8_begins
  refine nm_e (q_lay (by decide) (by decide) (by decide) (K _ (fun k a b s n1 n2 => ?_) ?_ (fun e he => ?_)))
  · rw [q_mH, if_neg (by omega), g_up_o _ _ _ _ _ _ (by omega)]
  · rw [q_mo _ _ _ (by decide), g_up_s]
  · rw [q_m1, q_seg_lt he]
    exact g_up_o _ _ _ _ _ _ (by omega)
theorem q_en1 {h : g_Hp} {x : Int32} {Q : g_R → g_Hp → Prop} (h1 : ¬ h 5 0 0 1 = 0) (hb : ∀ e, e < 169 → h 13 1 0 (e + 1) = h 13 0 0 (e + 1)) (K : Q (.inl (some (vI 0))) h) : wX8_ends x h Q := by
  unfold wX8_ends
  refine br_f h1 (q_lay (by decide) (by decide) (by decide) ?_)
  have e : q_seg (q_mv h 0) 0 169 (q_mv h 1) = q_mv h 0 := funext fun e => by
    by_cases z : e < 169
    · rw [q_seg_lt z]
      exact hb e z
    · exact q_seg_o (by omega)
  rw [e, q_mE]
  exact K
def q_pst (past before : Nat → Int32) (ch : Nat) : Nat → Int32 := if ch < 8 then q_seg past (ch * 169) 169 before else q_seg (q_seg past 0 1183 (fun e => past (e + 169))) 1183 169 before
theorem q_en72 {ch : Nat} {h : g_Hp} {x : Int32} {Q : g_R → g_Hp → Prop} (hch : ch < 8) (e2 : h 5 0 0 2 = nI ch) (K : Q (.inl (some (vI x))) (g_up (q_mH h 3 (q_seg (q_mv h 3) (ch * 169) 169 (q_mv h 1))) 5 0 0 2 (nI (ch + 1)))) : wX8_ends_b70 Q x h := by
  have z := q_loop (fun k i => wX8_ends_b72_I Q k x (nI i) (q_mH h 3 (q_seg (q_mv h 3) (ch * 169) i (q_mv h 1)))) 169 0 (Nat.zero_le _) (fun k => ?_) (fun k i _ hi hk => ?_)
  · rw [q_seg_0, q_mE] at z
    exact z
  · show wX8_ends_b72_B Q _ _ _ _
    unfold wX8_ends_b72_B
    rw [q_mo _ _ _ (by decide), e2, nI_1]
    exact br_t (nI_le (a := 169) (Nat.le_refl _) (by decide)) (nm_e K)
  · show wX8_ends_b72_B Q _ _ _ _
    unfold wX8_ends_b72_B
    rw [q_mo _ _ _ (by decide), e2, show (169 : Int32) = nI 169 from rfl, pk_mul, nI_add, nI_clamp (by omega), nI_clamp (by omega)]
    refine br_f (nI_ge (b := 169) hi (by decide)) (And.intro (q_vI hi (by decide)) (And.intro (q_vI (by omega) (by decide)) (nm_r ?_ (nm_r (nI_1 i) hk))))
    rw [q_mi _ _ _ (by decide), q_mu]
    exact congrArg (fun x => q_mH h 3 x) (q_seg_s (q_mv h 3) (ch * 169) i (q_mv h 1))
theorem q_en0 {ch : Nat} {h : g_Hp} {x : Int32} {Q : g_R → g_Hp → Prop} (hch : ch ≤ 8) (h1 : h 5 0 0 1 = 0) (e2 : h 5 0 0 2 = nI ch) (K : ∀ h', (∀ k a b s, ¬ (k = 5 ∧ s = 2) → ¬ (k = 13 ∧ a = 3) → h' k a b s = h k a b s) → h' 5 0 0 2 = nI (min (ch + 1) 8) → (∀ e, h' 13 3 0 (e + 1) = q_pst (q_mv h 3) (q_mv h 1) ch e) → Q (.inl (some (vI x))) h') : wX8_ends x h Q := by
  unfold wX8_ends
  refine br_t h1 ?_
  rw [e2]
  by_cases z : ch < 8
  · refine q_n1 (fun q => by have := (nI_eq (b := 8) (by omega) (by decide)).mp q; omega) (q_en72 z e2 (K _ (fun k a b s n1 n2 => ?_) ?_ (fun e => ?_)))
    · rw [g_up_o _ _ _ _ _ _ (by omega), q_mH, if_neg (by omega)]
    · rw [g_up_s, Nat.min_eq_left (by omega)]
    · rw [g_up_o _ _ _ _ _ _ (by omega), q_m1]
      unfold q_pst
      rw [if_pos z]
  · have z8 : ch = 8 := by omega
    subst z8
    refine q_n0 rfl ?_
    have z := q_loop (fun k i => wX8_ends_b31_I Q k x (nI i) (q_mH h 3 (q_seg (q_mv h 3) 0 i (fun e => q_mv h 3 (e + 169))))) 1183 0 (Nat.zero_le _) (fun k => ?_) (fun k i _ hi hk => ?_)
    · rw [q_seg_0, q_mE] at z
      exact z
    · show wX8_ends_b31_B Q _ _ _ _
      unfold wX8_ends_b31_B
      rw [q_mo _ _ _ (by decide), e2]
      refine br_t (nI_le (a := 1183) (Nat.le_refl _) (by decide)) (nm_r (e' := g_up (q_mH h 3 (q_seg (q_mv h 3) 0 1183 (fun e => q_mv h 3 (e + 169)))) 5 0 0 2 (nI 7)) rfl (q_en72 (ch := 7) (by decide) (g_up_s _ _ _ _ _ _) (K _ (fun k a b s n1 n2 => ?_) ?_ (fun e => ?_))))
      · rw [g_up_o _ _ _ _ _ _ (by omega), q_mH, if_neg (by omega), g_up_o _ _ _ _ _ _ (by omega), q_mH, if_neg (by omega)]
      · rw [g_up_s]
        rfl
      · rw [g_up_o _ _ _ _ _ _ (by omega), q_m1]
        unfold q_pst
        rw [if_neg z]
        have m3 : q_mv (g_up (q_mH h 3 (q_seg (q_mv h 3) 0 1183 (fun e => q_mv h 3 (e + 169)))) 5 0 0 2 (nI 7)) 3 = q_seg (q_mv h 3) 0 1183 (fun e => q_mv h 3 (e + 169)) := funext fun e => by
          show g_up _ 5 0 0 2 _ 13 3 0 (e + 1) = _
          rw [g_up_o _ _ _ _ _ _ (by omega), q_m1]
        have m1 : q_mv (g_up (q_mH h 3 (q_seg (q_mv h 3) 0 1183 (fun e => q_mv h 3 (e + 169)))) 5 0 0 2 (nI 7)) 1 = q_mv h 1 := funext fun e => by
          show g_up _ 5 0 0 2 _ 13 1 0 (e + 1) = _
          rw [g_up_o _ _ _ _ _ _ (by omega), q_mi _ _ _ (by decide)]
          rfl
        rw [m3, m1]
    · show wX8_ends_b31_B Q _ _ _ _
      unfold wX8_ends_b31_B
      rw [show (169 : Int32) = nI 169 from rfl, nI_add, nI_clamp (by omega), nI_clamp (by omega)]
      refine br_f (nI_ge (b := 1183) hi (by decide)) (And.intro (q_vI (by omega) (by decide)) (And.intro (q_vI (by omega) (by decide)) (nm_r ?_ (nm_r (nI_1 i) hk))))
      rw [q_m1, q_mu, q_seg_o (by omega)]
      refine congrArg (fun x => q_mH h 3 x) ?_
      have := q_seg_s (q_mv h 3) 0 i (fun e => q_mv h 3 (e + 169))
      rw [Nat.zero_add] at this
      exact this
