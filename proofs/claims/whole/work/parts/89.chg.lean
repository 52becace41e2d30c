/-! ===== a change, as the law calls it ===== -/
def q_PUB (FW AW : g_Hp → (g_R → g_Hp → Prop) → Prop) (h : g_Hp) (Q : g_R → g_Hp → Prop) : Prop := FW h (g_kR 20 (fun i2 j3 h1 => wX7_refuse i2 j3 h1 (g_kV (fun h4 => wX7_beginChange h4 (g_kV (fun h5 => AW h5 (g_kI (fun u7 h6 => wX7_endChange h6 (g_kV (fun h8 => Q (.inl (some (vI u7))) h8) (fun E h8 => Q (.inr E) h8))) (fun E h6 => Q (.inr E) h6))) (fun E h5 => Q (.inr E) h5))) (fun E h4 => Q (.inr E) h4))) (fun E h1 => Q (.inr E) h1))
def q_MOD (MW : g_Hp → (g_R → g_Hp → Prop) → Prop) (h : g_Hp) (Q : g_R → g_Hp → Prop) : Prop := wX8_begins h (g_kV (fun h1 => MW h1 (g_kI (fun u3 h2 => wX8_ends u3 h2 (g_kI (fun u5 h4 => Q (.inl (some (vI u5))) h4) (fun E h4 => Q (.inr E) h4))) (fun E h2 => Q (.inr E) h2))) (fun E h1 => Q (.inr E) h1))
theorem q_cv_c {h : g_Hp} {i : Nat} {c : q_C} (h1 : ∀ s, h 1 i 0 s = c.1 s) (h2 : ∀ j s, h 2 i j s = c.2 j s) : q_cv h i = c := Prod.ext (funext h1) (funext fun j => funext fun s => h2 j s)
theorem q_cv_e {h h' : g_Hp} {i : Nat} (h1 : ∀ s, h' 1 i 0 s = h 1 i 0 s) (h2 : ∀ j s, h' 2 i j s = h 2 i j s) : q_cv h' i = q_cv h i := q_cv_c h1 h2
/-- the past, one change later -/
theorem q_HIS_s {T T' ch fr : Nat} {h h' : g_Hp} {c1 : q_C} (hT : T ≤ T') (hch : ch ≤ 8) (hfr : fr < 9) (e3 : h' 0 0 0 3 = nI ((fr + 1) % 9)) (e4 : h' 0 0 0 4 = nI (min (ch + 1) 8)) (e2 : h' 5 0 0 2 = nI (min (ch + 1) 8)) (hH : ∀ j, j < ch → q_R T (q_cv h ((fr + 9 - ch + j) % 9 + 1)) (fun e => h 13 3 0 (169 * j + e + 1)))
    (er : ∀ i, 1 ≤ i → i ≤ 9 → i ≠ fr + 1 → q_cv h' i = q_cv h i) (ef : q_cv h' (fr + 1) = c1) (hc : q_R T c1 (q_mv h 0)) (ep : ∀ e, h' 13 3 0 (e + 1) = q_pst (q_mv h 3) (q_mv h' 1) ch e) (eb : ∀ e, e < 169 → h' 13 1 0 (e + 1) = h 13 0 0 (e + 1)) : q_HIS T' h' := by
  refine ⟨min (ch + 1) 8, (fr + 1) % 9, by omega, by omega, e3, e4, e2, fun j hj => ?_⟩
  have e8 : ∀ s, 2 ≤ s → s ≤ 12 → c1.1 s = c1.1 s := fun _ _ _ => rfl
  by_cases z : ch < 8
  · rw [Nat.min_eq_left (by omega)] at hj ⊢
    by_cases y : j = ch
    · subst y
      rw [show ((fr + 1) % 9 + 9 - (j + 1) + j) % 9 + 1 = fr + 1 by omega, ef]
      refine q_R_mono hT (q_R_eq (fun _ _ _ => rfl) (fun _ _ _ _ => rfl) (fun k hk => ?_) hc)
      show h' 13 3 0 (169 * j + k + 1) = _
      rw [ep]
      unfold q_pst
      rw [if_pos z, show 169 * j + k = j * 169 + k by omega, q_seg_in hk]
      exact eb k hk
    · have hi : ((fr + 1) % 9 + 9 - (ch + 1) + j) % 9 + 1 = (fr + 9 - ch + j) % 9 + 1 := by omega
      rw [hi, er _ (by omega) (by omega) (by omega)]
      refine q_R_mono hT (q_R_eq (fun _ _ _ => rfl) (fun _ _ _ _ => rfl) (fun k hk => ?_) (hH j (by omega)))
      show h' 13 3 0 (169 * j + k + 1) = h 13 3 0 (169 * j + k + 1)
      rw [ep]
      unfold q_pst
      rw [if_pos z, q_seg_o (by omega)]
      rfl
  · have z8 : ch = 8 := by omega
    subst z8
    rw [Nat.min_eq_right (by omega)] at hj ⊢
    by_cases y : j = 7
    · subst y
      rw [show ((fr + 1) % 9 + 9 - 8 + 7) % 9 + 1 = fr + 1 by omega, ef]
      refine q_R_mono hT (q_R_eq (fun _ _ _ => rfl) (fun _ _ _ _ => rfl) (fun k hk => ?_) hc)
      show h' 13 3 0 (169 * 7 + k + 1) = _
      rw [ep]
      unfold q_pst
      rw [if_neg z, show 169 * 7 + k = 1183 + k by omega, q_seg_in hk]
      exact eb k hk
    · have hi : ((fr + 1) % 9 + 9 - 8 + j) % 9 + 1 = (fr + 9 - 8 + (j + 1)) % 9 + 1 := by omega
      rw [hi, er _ (by omega) (by omega) (by omega)]
      refine q_R_mono hT (q_R_eq (fun _ _ _ => rfl) (fun _ _ _ _ => rfl) (fun k hk => ?_) (hH (j + 1) (by omega)))
      show h' 13 3 0 (169 * j + k + 1) = h 13 3 0 (169 * (j + 1) + k + 1)
      rw [ep]
      unfold q_pst
      rw [if_neg z, q_seg_o (by omega), q_seg_lt (by omega)]
      show h 13 3 0 (169 * j + k + 169 + 1) = _
      exact congrArg (h 13 3 0) (by omega)
def q_OPP (P : Int32 → Prop) (T : Nat) (c : q_C) (w : Nat → Int32) (FW AW MW : g_Hp → (g_R → g_Hp → Prop) → Prop) (κ : Nat → Nat) : Prop :=
  (∃ φ, 1 ≤ φ ∧ φ < 6 ∧ 1 ≤ κ φ ∧ κ φ ≤ 3 ∧ (∀ h (Q : g_R → g_Hp → Prop), Q (.inl (some (vR 20 φ 0))) (q_cH h 0 c) → FW (q_cH h 0 c) Q) ∧ (∀ h (Q : g_R → g_Hp → Prop), Q (.inl (some (vI 0))) (q_mH (g_up h 5 0 0 1 (nI (κ φ))) 0 w) → MW (q_mH h 0 w) Q)) ∨
  (∃ c' w' x, P x ∧ q_R T c' w' ∧ (∀ h (Q : g_R → g_Hp → Prop), Q (.inl (some (vR 20 0 0))) (q_cH h 0 c) → FW (q_cH h 0 c) Q) ∧ (∀ h (Q : g_R → g_Hp → Prop), Q (.inl (some (vI x))) (q_cH h 0 c') → AW (q_cH h 0 c) Q) ∧ (∀ h (Q : g_R → g_Hp → Prop), Q (.inl (some (vI x))) (q_mH h 0 w') → MW (q_mH h 0 w) Q))
theorem q_OPP_m {P P' : Int32 → Prop} {T : Nat} {c : q_C} {w : Nat → Int32} {FW AW MW MW' : g_Hp → (g_R → g_Hp → Prop) → Prop} {κ : Nat → Nat} (hp : ∀ x, P x → P' x) (hm : ∀ h Q, MW h Q → MW' h Q) (h : q_OPP P T c w FW AW MW κ) : q_OPP P' T c w FW AW MW' κ := by
  rcases h with ⟨φ, a1, a2, a3, a4, kF, kM⟩ | ⟨c', w', x, hP, hR', kF, kA, kM⟩
  · exact Or.inl ⟨φ, a1, a2, a3, a4, kF, fun h Q K => hm _ _ (kM h Q K)⟩
  · exact Or.inr ⟨c', w', x, hp x hP, hR', kF, kA, fun h Q K => hm _ _ (kM h Q K)⟩
theorem q_OP_t {T : Nat} {c : q_C} {w : Nat → Int32} {FW AW MW : g_Hp → (g_R → g_Hp → Prop) → Prop} {κ : Nat → Nat} (h : q_OP T c w FW AW MW κ) : q_OPP (fun _ => True) T c w FW AW MW κ := by
  rcases h with h | ⟨c', w', x, h⟩
  · exact Or.inl h
  · exact Or.inr ⟨c', w', x, trivial, h⟩
theorem q_chgP {P : Int32 → Prop} {C : Int32 → g_Hp → Prop} {T T' : Nat} {h : g_Hp} {FW AW MW : g_Hp → (g_R → g_Hp → Prop) → Prop} {κ : Nat → Nat} {Z : Int32 → Int32 → g_Hp → Prop} {EX EX1 : String → g_Hp → Prop} (hT : T ≤ T') (hI : q_I T h) (hop : q_OPP P T' (q_cv h 0) (q_mv h 0) FW AW MW κ)
    (hZ : ∀ k b h2, h2 5 0 0 1 = k → (k = 0 → P b ∧ h2 15 0 0 1 = b) → q_I T' h2 → Z k b h2)
    (hC : ∀ u h1, P u → q_MOD MW (g_up h1 15 0 0 1 u) (g_kI (fun b h2 => Z 0 b h2) EX1) → C u h1)
    (hex : ∀ φ, 1 ≤ φ → φ < 6 → 1 ≤ κ φ → κ φ ≤ 3 → q_MOD MW h (g_kI (fun b h2 => Z (nI (κ φ)) b h2) EX1) → EX (q_ex φ) h) :
    q_PUB FW AW h (g_kI C EX) := by
  have ⟨hB, hH, hS, hE, hX, hL, hW⟩ := hI
  rcases hop with ⟨φ, a1, a2, a3, a4, kF, kM⟩ | ⟨c', w', x, hP, hR', kF, kA, kM⟩
  · unfold q_PUB
    have k1 := kF h
    rw [q_cE] at k1
    refine k1 _ (And.intro rfl (q_rfE a1 a2 (hex φ a1 a2 a3 a4 ?_)))
    unfold q_MOD
    refine q_bg (fun h' g1 g2 g3 => ?_)
    have em : q_mv h' 0 = q_mv h 0 := funext fun e => g1 _ _ _ _ (by omega) (by omega)
    have k2 := kM h'
    rw [← em, q_mE] at k2
    refine k2 _ ?_
    have eq : q_mH (g_up h' 5 0 0 1 (nI (κ φ))) 0 (q_mv h' 0) = g_up h' 5 0 0 1 (nI (κ φ)) := by
      rw [← q_mU (by decide), q_mE]
    rw [eq]
    refine q_en1 ?_ (fun e he => ?_) (hZ _ _ _ (g_up_s _ _ _ _ _ _) (fun q => absurd q (nI_ne0 (by omega) (by omega))) (q_I_m hT (q_I_c (fun k a b s n1 n2 n3 n4 n5 n6 => ?_) hI)))
    · rw [g_up_s]
      exact nI_ne0 (by omega) (by omega)
    · rw [g_up_o _ _ _ _ _ _ (by omega), g_up_o _ _ _ _ _ _ (by omega), g3 e he, g1 _ _ _ _ (by omega) (by omega)]
    · rw [g_up_o _ _ _ _ _ _ (by omega), g1 _ _ _ _ (by omega) (by omega)]
  · obtain ⟨ch, fr, hch, hfr, e3, e4, e2, hj⟩ := hH
    unfold q_PUB
    have k1 := kF h
    rw [q_cE] at k1
    refine k1 _ (And.intro rfl (q_rf0 (q_bC hfr e3 hB (fun c1 hc1 => ?_))))
    have ec : q_cv (q_cH h (fr + 1) c1) 0 = q_cv h 0 := q_cv_e (fun s => q_cb _ _ _ (by omega)) (fun m s => q_cb _ _ _ (by omega))
    have k2 := kA (q_cH h (fr + 1) c1)
    rw [← ec, q_cE] at k2
    refine k2 _ (q_eC hfr hch ?_ ?_ (fun h8 g1 g2 g3 => hC _ _ hP ?_))
    · rw [q_co _ _ _ (by decide), q_co _ _ _ (by decide)]
      exact e3
    · rw [q_co _ _ _ (by decide), q_co _ _ _ (by decide)]
      exact e4
    -- the class's heap, place by place
    have c8 : ∀ k a b s, k ≠ 0 → k ≠ 1 → k ≠ 2 → h8 k a b s = h k a b s := fun k a b s n0 n1 n2 => by
      rw [g1 _ _ _ _ (by omega), q_co _ _ _ ⟨n1, n2⟩, q_co _ _ _ ⟨n1, n2⟩]
    have c80 : ∀ a b s, s ≠ 3 → s ≠ 4 → h8 0 a b s = h 0 a b s := fun a b s n1 n2 => by
      rw [g1 _ _ _ _ (by omega), q_co _ _ _ (by decide), q_co _ _ _ (by decide)]
    unfold q_MOD
    refine q_bg (fun h9 f1 f2 f3 => ?_)
    have em : q_mv h9 0 = q_mv h 0 := funext fun e => by
      show h9 13 0 0 (e + 1) = h 13 0 0 (e + 1)
      rw [f1 _ _ _ _ (by omega) (by omega), g_up_o _ _ _ _ _ _ (by omega), c8 _ _ _ _ (by omega) (by omega) (by omega)]
    have k3 := kM h9
    rw [← em, q_mE] at k3
    refine k3 _ (q_en0 (ch := ch) hch ?_ ?_ (fun h10 d1 d2 d3 => ?_))
    · rw [q_mo _ _ _ (by decide)]
      exact f2
    · rw [q_mo _ _ _ (by decide), f1 _ _ _ _ (by omega) (by omega), g_up_o _ _ _ _ _ _ (by omega), c8 _ _ _ _ (by omega) (by omega) (by omega)]
      exact e2
    have h10o : ∀ k a b s, ¬ (k = 5 ∧ (s = 1 ∨ s = 2)) → ¬ (k = 13 ∧ (a = 0 ∨ a = 1 ∨ a = 3)) → ¬ (k = 15 ∧ s = 1) → h10 k a b s = h8 k a b s := fun k a b s n1 n2 n3 => by
      rw [d1 _ _ _ _ (by omega) (by omega), q_mH, if_neg (by omega), f1 _ _ _ _ (by omega) (by omega), g_up_o _ _ _ _ _ _ (by omega)]
    have h10h : ∀ k a b s, k ≠ 0 → k ≠ 1 → k ≠ 2 → ¬ (k = 5 ∧ (s = 1 ∨ s = 2)) → ¬ (k = 13 ∧ (a = 0 ∨ a = 1 ∨ a = 3)) → ¬ (k = 15 ∧ s = 1) → h10 k a b s = h k a b s := fun k a b s m0 m1 m2 n1 n2 n3 => (h10o k a b s n1 n2 n3).trans (c8 k a b s m0 m1 m2)
    have h10v : q_mv h10 0 = w' := funext fun e => by
      show h10 13 0 0 (e + 1) = _
      rw [d1 _ _ _ _ (by omega) (by omega), q_m1]
    have h10c0 : q_cv h10 0 = c' := by
      refine q_cv_c (fun s => ?_) (fun m s => ?_)
      · rw [h10o _ _ _ _ (by omega) (by omega) (by omega), g1 _ _ _ _ (by omega), q_c1]
      · rw [h10o _ _ _ _ (by omega) (by omega) (by omega), g1 _ _ _ _ (by omega), q_c2]
    have h10cf : q_cv h10 (fr + 1) = c1 := by
      refine q_cv_c (fun s => ?_) (fun m s => ?_)
      · rw [h10o _ _ _ _ (by omega) (by omega) (by omega), g1 _ _ _ _ (by omega), q_cb _ _ _ (by omega), q_c1]
      · rw [h10o _ _ _ _ (by omega) (by omega) (by omega), g1 _ _ _ _ (by omega), q_cb _ _ _ (by omega), q_c2]
    have h10ci : ∀ i, i ≠ 0 → i ≠ fr + 1 → ∀ k a b s, (k = 1 ∨ k = 2) → a = i → h10 k a b s = h k a b s := fun i n0 nf k a b s hk ha => by
      rw [h10o _ _ _ _ (by omega) (by omega) (by omega), g1 _ _ _ _ (by omega), q_cb _ _ _ (by omega), q_cb _ _ _ (by omega)]
    refine hZ 0 x h10 ?_ (fun _ => And.intro hP ?_) ⟨?_, ?_, ?_, ?_, ?_, ?_, ?_⟩
    · rw [d1 _ _ _ _ (by omega) (by omega), q_mo _ _ _ (by decide)]
      exact f2
    · rw [d1 _ _ _ _ (by omega) (by omega), q_mo _ _ _ (by decide), f1 _ _ _ _ (by omega) (by omega), g_up_s]
    · rw [h10c0, h10v]
      exact hR'
    · refine q_HIS_s (h := h) hT hch hfr ?_ ?_ d2 hj (fun i i1 i2 i3 => ?_) h10cf hc1 (fun e => ?_) (fun e he => ?_)
      · rw [h10o _ _ _ _ (by omega) (by omega) (by omega)]
        exact g2
      · rw [h10o _ _ _ _ (by omega) (by omega) (by omega)]
        exact g3
      · exact q_cv_e (fun s => h10ci i (by omega) i3 _ _ _ _ (by omega) rfl) (fun m s => h10ci i (by omega) i3 _ _ _ _ (by omega) rfl)
      · rw [d3 e]
        have ea : q_mv (q_mH h9 0 w') 3 = q_mv h 3 := funext fun e => by
          show q_mH h9 0 w' 13 3 0 (e + 1) = h 13 3 0 (e + 1)
          rw [q_mi _ _ _ (by decide), f1 _ _ _ _ (by omega) (by omega), g_up_o _ _ _ _ _ _ (by omega), c8 _ _ _ _ (by omega) (by omega) (by omega)]
        have eb : q_mv (q_mH h9 0 w') 1 = q_mv h10 1 := funext fun e => (d1 _ _ _ _ (by omega) (by omega)).symm
        rw [ea, eb]
      · rw [d1 _ _ _ _ (by omega) (by omega), q_mi _ _ _ (by decide), f3 e he, g_up_o _ _ _ _ _ _ (by omega), c8 _ _ _ _ (by omega) (by omega) (by omega)]
    · refine q_SAV_m hT (q_SAV_c (fun k a b s hp => ?_) hS)
      rcases hp with ⟨rfl, hp⟩ | ⟨rfl, hp⟩ | ⟨rfl, hp⟩ | ⟨rfl, hp⟩ | ⟨rfl, hp⟩
      · rw [h10o _ _ _ _ (by omega) (by omega) (by omega), c80 _ _ _ (by omega) (by omega)]
      · exact h10h _ _ _ _ (by omega) (by omega) (by omega) (by omega) (by omega) (by omega)
      · exact h10ci 10 (by omega) (by omega) _ _ _ _ (by omega) hp
      · exact h10ci 10 (by omega) (by omega) _ _ _ _ (by omega) hp
      · exact h10h _ _ _ _ (by omega) (by omega) (by omega) (by omega) (by omega) (by omega)
    · refine q_ERR_c (fun k a b s hp => ?_) hE
      rcases hp with ⟨rfl, hp⟩ | ⟨rfl, hp⟩
      · rw [h10o _ _ _ _ (by omega) (by omega) (by omega), c80 _ _ _ (by omega) (by omega)]
      · exact h10h _ _ _ _ (by omega) (by omega) (by omega) (by omega) (by omega) (by omega)
    · exact q_TXT_c (fun k a b s hp => h10h _ _ _ _ (by omega) (by omega) (by omega) (by omega) (by omega) (by omega)) hX
    · exact q_LIN_c (fun k a b s hp => h10h _ _ _ _ (by omega) (by omega) (by omega) (by omega) (by omega) (by omega)) hL
    · exact q_WRD_c (fun k a b s hp => h10h _ _ _ _ (by omega) (by omega) (by omega) (by omega) (by omega) (by omega)) hW
theorem q_chg {T T' : Nat} {h : g_Hp} {FW AW MW : g_Hp → (g_R → g_Hp → Prop) → Prop} {κ : Nat → Nat} {Z : Int32 → Int32 → g_Hp → Prop} {EX EX1 : String → g_Hp → Prop} (hT : T ≤ T') (hI : q_I T h) (hop : q_OP T' (q_cv h 0) (q_mv h 0) FW AW MW κ)
    (hZ : ∀ k b h2, h2 5 0 0 1 = k → (k = 0 → h2 15 0 0 1 = b) → q_I T' h2 → Z k b h2)
    (hex : ∀ φ, 1 ≤ φ → φ < 6 → 1 ≤ κ φ → κ φ ≤ 3 → q_MOD MW h (g_kI (fun b h2 => Z (nI (κ φ)) b h2) EX1) → EX (q_ex φ) h) :
    q_PUB FW AW h (g_kI (fun u2 h1 => ∀ h3 : g_Hp, h3 = g_up h1 15 0 0 1 u2 → q_MOD MW h3 (g_kI (fun b h2 => Z 0 b h2) EX1)) EX) :=
  q_chgP hT hI (q_OP_t hop) (fun k b h2 e1 e2 => hZ k b h2 e1 (fun z => (e2 z).2)) (fun u h1 _ K h3 e => e ▸ K) hex
