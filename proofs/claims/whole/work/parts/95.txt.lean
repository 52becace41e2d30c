/-! ===== the text and the line ===== -/
section QT
variable {T : Nat} {h : g_Hp} {p p1 : Int32} {Z : Int32 → Int32 → g_Hp → Prop} {EX0 EX1 : String → g_Hp → Prop}
theorem q_L45 (hI : q_I T h) (hZ : q_AN T Z) : wL_append p h (g_kI (fun k h1 => wX8_append p h1 (g_kI (fun b h2 => Z k b h2) EX1)) EX0) := by
  have ⟨hB, hH, hS, hE, ⟨cap, cnt, cs, x1, x2, x3, x4⟩, hL, hW⟩ := hI
  have badM : ∀ Q : g_R → g_Hp → Prop, (p < 32 ∨ (126 : Int32) < p) → Q (.inl (some (vI 0))) (g_up h 5 0 0 1 1) → wX8_append p h Q := fun Q e K => by
    unfold wX8_append
    refine q_isI0 e (q_n0 rfl ?_)
    unfold wX8_append_b30
    exact nm_e (br_f (by rw [g_up_s]; decide) K)
  unfold wL_append wX7_append
  rcases q_rg p 32 126 (by decide) (by decide) with e | e | ⟨j, h1, h2, rfl⟩
  · exact br_t e (Or.inl (And.intro rfl (badM _ (Or.inl e) (q_anE hZ hI (k := 1) (by decide) (by decide) 0))))
  · refine br_f (q_nlt ?_) (br_f (q_nle e) (Or.inl (And.intro rfl (badM _ (Or.inr e) (q_anE hZ hI (k := 1) (by decide) (by decide) 0)))))
    have e' : (126 : Int32) < p := e
    rw [Int32.lt_iff_toInt_lt] at e'
    rw [Int32.le_iff_toInt_le]
    have y1 : (126 : Int32).toInt = 126 := by decide
    have y2 : (32 : Int32).toInt = 32 := by decide
    omega
  · refine br_f (nI_nlt (b := 32) h1 (by omega)) (br_t (nI_le (b := 126) h2 (by decide)) (q_sle x1 ?_))
    by_cases z : cnt < 60
    · refine br_t ((nI_ltI (b := 60) (by omega) (by decide)).mpr z) (q_apc x1 (by omega) (by omega) (fun h' cap' S X => And.intro rfl (q_sle S (nm_e ?_))))
      have ho : ∀ k a b s, k ≠ 14 → k ≠ 54 → k ≠ 6 → h' k a b s = h k a b s := fun k a b s n1 n2 n3 => X.1 k a b s n1 n2 (fun q => n3 q.1)
      show wX8_append (nI j) (g_up h' 15 0 0 1 (nI (cnt + 1))) (g_kI (fun b h2 => Z 0 b h2) EX1)
      unfold wX8_append
      have e15 : g_up h' 15 0 0 1 (nI (cnt + 1)) 5 0 0 15 = nI cnt := (q_oth (by decide)).trans ((ho _ _ _ _ (by decide) (by decide) (by decide)).trans x3)
      refine q_isIn (lo := 32) (hi := 126) rfl rfl h1 h2 (by decide) (q_n1 (by decide) ?_)
      rw [e15]
      refine q_n1 (fun q => ?_) ?_
      · have := (nI_eq (b := 60) (by omega) (by decide)).mp q
        omega
      · unfold wX8_append_b30
        refine nm_e (br_t (g_up_s _ _ _ _ _ _) ?_)
        have e15' : g_up (g_up h' 15 0 0 1 (nI (cnt + 1))) 5 0 0 1 0 5 0 0 15 = nI cnt := (g_up_o _ _ _ _ _ _ (by omega)).trans e15
        rw [e15', nI_clamp (by omega)]
        refine And.intro (q_vI z (by decide)) (nm_e ?_)
        rw [g_up_o (x := nI j) _ _ _ _ _ (by omega), e15', nI_1]
        refine nm_e ?_
        rw [g_up_s]
        have ho2 : ∀ k a b s, k ≠ 14 → k ≠ 54 → k ≠ 6 → k ≠ 15 → ¬ (k = 5 ∧ (s = 1 ∨ s = 15)) → ¬ (k = 13 ∧ a = 4) → g_up (g_up (g_up (g_up h' 15 0 0 1 (nI (cnt + 1))) 5 0 0 1 0) 13 4 0 (cnt + 1) (nI j)) 5 0 0 15 (nI (cnt + 1)) k a b s = h k a b s := fun k a b s n1 n2 n3 n4 n5 n6 => by
          rw [g_up_o _ _ _ _ _ _ (by omega), g_up_o _ _ _ _ _ _ (by omega), g_up_o _ _ _ _ _ _ (by omega), g_up_o _ _ _ _ _ _ (by omega), ho k a b s n1 n2 n3]
        refine hZ 0 _ _ ?_ (fun _ => ?_) ⟨q_BK_c (fun k a b s hp => ho2 k a b s (by omega) (by omega) (by omega) (by omega) (by omega) (by omega)) hB, q_HIS_c (fun k a b s hp => ho2 k a b s (by omega) (by omega) (by omega) (by omega) (by omega) (by omega)) hH, q_SAV_c (fun k a b s hp => ho2 k a b s (by omega) (by omega) (by omega) (by omega) (by omega) (by omega)) hS, q_ERR_c (fun k a b s hp => ho2 k a b s (by omega) (by omega) (by omega) (by omega) (by omega) (by omega)) hE, ?_, ?_, q_WRD_c (fun k a b s hp => ho2 k a b s (by omega) (by omega) (by omega) (by omega) (by omega) (by omega)) hW⟩
        · rw [g_up_o _ _ _ _ _ _ (by omega), g_up_o _ _ _ _ _ _ (by omega), g_up_s]
        · rw [g_up_o _ _ _ _ _ _ (by omega), g_up_o _ _ _ _ _ _ (by omega), g_up_o _ _ _ _ _ _ (by omega), g_up_s]
        · refine ⟨cap', cnt + 1, _, q_SB_c (fun s => ?_) (fun b s => ?_) S, by omega, g_up_s _ _ _ _ _ _, fun e he => ?_⟩
          · rw [g_up_o _ _ _ _ _ _ (by omega), g_up_o _ _ _ _ _ _ (by omega), g_up_o _ _ _ _ _ _ (by omega), g_up_o _ _ _ _ _ _ (by omega)]
          · rw [g_up_o _ _ _ _ _ _ (by omega), g_up_o _ _ _ _ _ _ (by omega), g_up_o _ _ _ _ _ _ (by omega), g_up_o _ _ _ _ _ _ (by omega)]
          · rw [g_up_o _ _ _ _ _ _ (by omega)]
            by_cases y : e = cnt
            · subst y
              rw [g_up_s]
              rw [if_pos rfl]
              exact ⟨by omega, rfl⟩
            · rw [g_up_o _ _ _ _ _ _ (by omega), g_up_o _ _ _ _ _ _ (by omega), g_up_o _ _ _ _ _ _ (by omega), ho _ _ _ _ (by decide) (by decide) (by decide)]
              rw [if_neg y]
              exact x4 e (by omega)
        · refine q_LIN_c (fun k a b s hp => ?_) hL
          rw [g_up_o _ _ _ _ _ _ (by omega), g_up_o _ _ _ _ _ _ (by omega), g_up_o _ _ _ _ _ _ (by omega), g_up_o _ _ _ _ _ _ (by omega)]
          rcases hp with ⟨rfl, ha⟩ | ⟨rfl, ha⟩ | ⟨rfl, ha⟩ | ⟨rfl, ha⟩
          · exact X.1 _ _ _ _ (by omega) (by omega) (by omega)
          · exact X.2 _ _ _ (by omega)
          · exact X.1 _ _ _ _ (by omega) (by omega) (by omega)
          · exact X.1 _ _ _ _ (by omega) (by omega) (by omega)
    · have z60 : cnt = 60 := by omega
      subst z60
      refine br_f (nI_nlt (a := 60) (b := 60) (Nat.le_refl _) (by decide)) (Or.inr (And.intro rfl ?_))
      show wX8_append (nI j) h (g_kI (fun b h2 => Z 2 b h2) EX1)
      unfold wX8_append
      refine q_isIn (lo := 32) (hi := 126) rfl rfl h1 h2 (by decide) (q_n1 (by decide) ?_)
      rw [x3]
      refine q_n0 rfl ?_
      unfold wX8_append_b30
      exact nm_e (br_f (by rw [g_up_s]; decide) (q_anE hZ hI (k := 2) (by decide) (by decide) 0))
theorem q_L50 (hI : q_I T h) (hZ : q_AN T Z) : wL_lineAt p h (g_kI (fun k h1 => wX8_lineAt p h1 (g_kI (fun b h2 => Z k b h2) EX1)) EX0) := by
  have ⟨cap, q, hS, l1, l2, l3⟩ := hI.2.2.2.2.2.1
  unfold wL_lineAt wX7_lineAt
  have badM : ∀ Q : g_R → g_Hp → Prop, (p < 0 ∨ nI q.1 ≤ p) → Q (.inl (some (vI 97))) (g_up h 5 0 0 1 1) → wX8_lineAt p h Q := fun Q e K => by
    unfold wX8_lineAt
    rw [l1]
    refine q_isI0 ?_ (br_t rfl ?_)
    · rcases e with c | c
      · exact Or.inl c
      · rw [Int32.le_iff_toInt_le, nI_toInt (by omega)] at c
        refine Or.inr ?_
        rw [Int32.lt_iff_toInt_lt, q_lit 1, pk_sub_toInt (by omega) (by decide)]
        omega
    · unfold wX8_lineAt_b20
      exact nm_e (q_n1 (by rw [g_up_s]; decide) (And.intro (by decide) K))
  rcases pk_ix p (n := q.1) (by omega) with e | e | ⟨k, hk, rfl⟩
  · exact br_t e (And.intro rfl (badM _ (Or.inl e) (q_anE hZ hI (k := 1) (by decide) (by decide) 97)))
  · by_cases z : p < 0
    · exact br_t z (And.intro rfl (badM _ (Or.inl z) (q_anE hZ hI (k := 1) (by decide) (by decide) 97)))
    · exact br_f z (q_sle hS (br_f (q_nlt e) (And.intro rfl (badM _ (Or.inr e) (q_anE hZ hI (k := 1) (by decide) (by decide) 97)))))
  · have ⟨g, _, _, _, _, _, c1, _, _, _, c2, c3⟩ := hS
    obtain ⟨b, hb, eb⟩ := c2 k (by omega)
    have ek : nI (q.2 k) = nI b := (c3 k hk).symm.trans eb
    have hn : ∀ b, b < 128 → narrow .char (.int (nI b)) = .int (nI b) := by decide +kernel
    have hc : ∀ b, b < 128 → ((nI b).toUInt32 % 65536).toInt32 = nI b := by decide +kernel
    refine br_f (q_nlt0 (by omega)) (q_sle hS (br_t ((nI_ltI (by omega) (by omega)).mpr hk) (q_cAt hS hk ?_)))
    rw [ek]
    refine And.intro (hn b hb) (nm_e ?_)
    show wX8_lineAt (nI k) (g_up h 15 0 0 1 (nI b)) (g_kI (fun b h2 => Z 0 b h2) EX1)
    unfold wX8_lineAt
    rw [q_oth (by decide), l1]
    refine q_isI1 (q_nlt0 (by omega)) ?_ (br_f (by decide) ?_)
    · rw [q_lit 1, pk_sub (by omega)]
      exact nI_nlt (by omega) (by omega)
    · unfold wX8_lineAt_b20 wX8_lineAt_b42
      refine nm_e (q_n0 (g_up_s _ _ _ _ _ _) (And.intro (q_vI (by omega) (by decide)) ?_))
      rw [nI_clamp (by omega), q_H2o (by decide) (by decide), l3 k hk, ek, hc b hb]
      exact And.intro (hn b hb) (q_an0 hZ hI _)
theorem q_L49 (hT : 99 * (T + 30) < 2 ^ 31) (hI : q_I T h) (hZ : q_AN T Z) : wL_describeMember p h (g_kI (fun k h1 => wX8_describeMember p h1 (g_kI (fun b h2 => Z k b h2) EX1)) EX0) := by
  have ⟨hB, hH, hS, hE, hX, ⟨cap, q, hSB, hLN⟩, hW⟩ := hI
  obtain ⟨n, ll, it, hRB⟩ := hB
  have ⟨⟨s1, s2, s3, _⟩, ⟨m1, _, m3⟩, ⟨l1, l2, l3⟩⟩ := hRB
  have e2 : h 1 0 0 2 = nI n := s2
  have e0 : h 13 0 0 1 = nI n := s3
  unfold wL_describeMember
  rcases q_px p s1 with e | ⟨m, hm, rfl⟩
  · unfold wX7_describeMember
    refine q_ex0 e2 e (And.intro rfl ?_)
    show wX8_describeMember p h (g_kI (fun b h2 => Z 1 b h2) EX1)
    unfold wX8_describeMember
    refine q_mM0 e0 s1 e (br_t rfl ?_)
    unfold wX8_describeMember_b14
    exact nm_e (br_f (by rw [g_up_s]; decide) (q_anE hZ hI (k := 1) (by decide) (by decide) 0))
  · obtain ⟨⟨ro, r1, r2⟩, _, ⟨be, b1, b2⟩, ⟨wa, w1, w2⟩, ⟨su, u1, u2⟩, ⟨lo, o1, o2⟩, _⟩ := m3 m hm
    have bd : 99 * T < 2 ^ 31 := by omega
    refine q_cDs (ro := ro) (be := be) (wa := wa) (su := su) (lo := lo) (li := !decide (h 2 0 m 10 = -1)) e2 s1 hm r2 r1 b2 b1 w2 (by omega) u2 (by omega) o2 (by omega) rfl hSB (fun h' cap' S X => nm_e ?_)
    show wX8_describeMember (nI m) (g_up h' 15 0 0 1 _) (g_kI (fun b h2 => Z 0 b h2) EX1)
    have ho : ∀ k a b s, k ≠ 14 → k ≠ 54 → k ≠ 6 → h' k a b s = h k a b s := fun k a b s n1 n2 n3 => X.1 k a b s n1 n2 (fun q => n3 q.1)
    have E1 : ∀ x, q_mv (g_up h' 15 0 0 1 x) 0 = q_mv h 0 := fun x => q_mvo (fun s => (q_oth (by decide)).trans (ho _ _ _ _ (by decide) (by decide) (by decide)))
    refine q_mDs (T := T) (n := n) (c := q_cv h 0) (ll := ll) (it := it) (ro := ro) (be := be) (wa := wa) (su := su) (lo := lo) (li := !decide (h 2 0 m 10 = -1)) (by rw [E1]; exact hRB) hm r2 r1 b2 b1 w2 (by omega) u2 (by omega) o2 (by omega) rfl (fun h2 L Y => ?_)
    have ho2 : ∀ k a b s, k ≠ 14 → k ≠ 54 → k ≠ 6 → k ≠ 15 → ¬ (k = 5 ∧ (s = 1 ∨ s = 18)) → ¬ (k = 13 ∧ a = 5) → h2 k a b s = h k a b s := fun k a b s n1 n2 n3 n4 n5 n6 => by
      rw [Y k a b s (by omega) n6, g_up_o _ _ _ _ _ _ (by omega), q_oth n4, ho k a b s n1 n2 n3]
    refine hZ 0 _ h2 ?_ (fun _ => ?_) ⟨q_BK_c (fun k a b s hp => ho2 k a b s (by omega) (by omega) (by omega) (by omega) (by omega) (by omega)) hI.1, q_HIS_c (fun k a b s hp => ho2 k a b s (by omega) (by omega) (by omega) (by omega) (by omega) (by omega)) hH, q_SAV_c (fun k a b s hp => ho2 k a b s (by omega) (by omega) (by omega) (by omega) (by omega) (by omega)) hS, q_ERR_c (fun k a b s hp => ho2 k a b s (by omega) (by omega) (by omega) (by omega) (by omega) (by omega)) hE, ?_, ?_, q_WRD_c (fun k a b s hp => ho2 k a b s (by omega) (by omega) (by omega) (by omega) (by omega) (by omega)) hW⟩
    · rw [Y _ _ _ _ (by omega) (by omega), g_up_s]
    · rw [Y _ _ _ _ (by omega) (by omega), g_up_o _ _ _ _ _ _ (by omega), g_up_s]
    · refine q_TXT_c (fun k a b s hp => ?_) hX
      rcases hp with ⟨rfl, ha⟩ | ⟨rfl, ha⟩ | ⟨rfl, ha⟩ | ⟨rfl, ha⟩
      · rw [Y _ _ _ _ (by omega) (by omega), g_up_o _ _ _ _ _ _ (by omega), q_oth (by omega), X.1 _ _ _ _ (by omega) (by omega) (by omega)]
      · rw [Y _ _ _ _ (by omega) (by omega), g_up_o _ _ _ _ _ _ (by omega), q_oth (by omega), X.2 _ _ _ (by omega)]
      · exact ho2 _ _ _ _ (by omega) (by omega) (by omega) (by omega) (by omega) (by omega)
      · exact ho2 _ _ _ _ (by omega) (by omega) (by omega) (by omega) (by omega) (by omega)
    · refine ⟨cap', _, q_SB_c (fun s => ?_) (fun b s => ?_) S, L⟩
      · rw [Y _ _ _ _ (by omega) (by omega), g_up_o _ _ _ _ _ _ (by omega), q_oth (by omega)]
      · rw [Y _ _ _ _ (by omega) (by omega), g_up_o _ _ _ _ _ _ (by omega), q_oth (by omega)]
end QT
