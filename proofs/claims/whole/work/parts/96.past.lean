/-! ===== undo, save, restore, isConsistent ===== -/
section QU
variable {T : Nat} {h : g_Hp} {p p1 : Int32} {Z : Int32 → Int32 → g_Hp → Prop} {EX0 EX1 : String → g_Hp → Prop}
/-- the model's row 0 out of the past -/
theorem q_mUn {ch : Nat} {H : g_Hp} {Q : g_R → g_Hp → Prop} (hch : ch < 8) (e2 : H 5 0 0 2 = nI ch) (K : Q (.inl (some (vI (nI ch)))) (q_mH H 0 (q_seg (q_mv H 0) 0 169 (fun e => H 13 3 0 (ch * 169 + e + 1))))) : wX8_undo_b37 Q 0 H := by
  have z := q_loop (fun k i => wX8_undo_b37_I Q k (nI i) (q_mH H 0 (q_seg (q_mv H 0) 0 i (fun e => H 13 3 0 (ch * 169 + e + 1))))) 169 0 (Nat.zero_le _) (fun k => ?_) (fun k i _ hi hk => ?_)
  · rw [q_seg_0, q_mE] at z
    exact z
  · show wX8_undo_b37_B Q _ _ _
    unfold wX8_undo_b37_B
    refine br_t (nI_le (a := 169) (Nat.le_refl _) (by decide)) ?_
    rw [q_mo _ _ _ (by decide), e2]
    exact K
  · show wX8_undo_b37_B Q _ _ _
    unfold wX8_undo_b37_B
    rw [q_mo _ _ _ (by decide), e2, show (169 : Int32) = nI 169 from rfl, pk_mul, nI_add, nI_clamp (by omega), nI_clamp (by omega)]
    refine br_f (nI_ge (b := 169) hi (by decide)) (And.intro (q_vI (by omega) (by decide)) (And.intro (q_vI hi (by decide)) (nm_r ?_ (nm_r (nI_1 i) hk))))
    rw [q_mi _ _ _ (by decide), q_mu]
    refine congrArg (fun x => q_mH H 0 x) ?_
    have := q_seg_s (q_mv H 0) 0 i (fun e => H 13 3 0 (ch * 169 + e + 1))
    rw [Nat.zero_add] at this
    exact this
theorem q_L53 (hI : q_I T h) (hZ : q_AN T Z) : wL_undo h (g_kI (fun k h1 => wX8_undo h1 (g_kI (fun b h2 => Z k b h2) EX1)) EX0) := by
  have ⟨hB, ⟨ch, fr, h1, h2, h3, h4, h5, h6⟩, hS, hE, hX, hL, hW⟩ := hI
  unfold wL_undo wX7_undo
  by_cases z : ch = 0
  · subst z
    refine q_n0 h4 (And.intro rfl ?_)
    show wX8_undo h (g_kI (fun b h2 => Z 1 b h2) EX1)
    unfold wX8_undo
    refine q_n0 h5 ?_
    unfold wX8_undo_b13
    exact nm_e (br_f (by rw [g_up_s]; decide) (q_anE hZ hI (k := 1) (by decide) (by decide) 0))
  · have e1 : nI ch - 1 = nI (ch - 1) := by rw [q_lit 1, pk_sub (by omega)]
    have hc0 : ¬ h 0 0 0 4 = 0 := by
      rw [h4]
      exact nI_ne0 (by omega) (by omega)
    refine q_n1 hc0 ?_
    rw [h4, e1]
    refine nm_e (And.intro (by decide) ?_)
    rw [g_up_o (s' := 3) _ _ _ _ _ _ (by omega), h3]
    have e2 : (nI fr + (9 : Int32) - (1 : Int32)) - (nI fr + (9 : Int32) - (1 : Int32)) / (9 : Int32) * (9 : Int32) = nI ((fr + 8) % 9) := by
      rw [q_lit 9, q_lit 1, nI_add, pk_sub (by omega), show fr + 9 - 1 = fr + 8 by omega, pk_rem (by omega) (by decide) (by decide)]
    rw [e2]
    refine nm_e ?_
    rw [g_up_s, nI_clamp (by omega)]
    refine And.intro (q_vI (by omega) (by decide)) (nm_e ?_)
    have hj := h6 (ch - 1) (by omega)
    have ei : (fr + 9 - ch + (ch - 1)) % 9 + 1 = (fr + 8) % 9 + 1 := by omega
    rw [ei] at hj
    have ec : ∀ a x, q_cv (g_up (g_up h 0 0 0 4 (nI (ch - 1))) 0 0 0 3 x) a = q_cv h a := fun a x => q_cv_e (fun s => by rw [g_up_o _ _ _ _ _ _ (by omega), g_up_o _ _ _ _ _ _ (by omega)]) (fun j s => by rw [g_up_o _ _ _ _ _ _ (by omega), g_up_o _ _ _ _ _ _ (by omega)])
    refine q_cpR (T := T) (w := fun e => h 13 3 0 (169 * (ch - 1) + e + 1)) (by omega) (by rw [ec]; exact hj) (fun c' hc' _ => ?_)
    show ∀ h3 : g_Hp, h3 = g_up (q_cH (g_up (g_up h 0 0 0 4 (nI (ch - 1))) 0 0 0 3 (nI ((fr + 8) % 9))) 0 c') 15 0 0 1 (q_cH (g_up (g_up h 0 0 0 4 (nI (ch - 1))) 0 0 0 3 (nI ((fr + 8) % 9))) 0 c' 0 0 0 4) → wX8_undo h3 (g_kI (fun b h2 => Z 0 b h2) EX1)
    rw [q_co _ _ _ (by decide), g_up_o (s' := 4) _ _ _ _ _ _ (by omega), g_up_s]
    refine nm_e ?_
    generalize hh : q_cH (g_up (g_up h 0 0 0 4 (nI (ch - 1))) 0 0 0 3 (nI ((fr + 8) % 9))) 0 c' = hA
    have fA : ∀ k a b s, ¬ (k = 0 ∧ (s = 3 ∨ s = 4)) → ¬ ((k = 1 ∨ k = 2) ∧ a = 0) → hA k a b s = h k a b s := fun k a b s n1 n2 => by
      rw [← hh]
      by_cases y : k ≠ 1 ∧ k ≠ 2
      · rw [q_co _ _ _ y, g_up_o _ _ _ _ _ _ (by omega), g_up_o _ _ _ _ _ _ (by omega)]
      · rw [q_cb _ _ _ (by omega), g_up_o _ _ _ _ _ _ (by omega), g_up_o _ _ _ _ _ _ (by omega)]
    have fc : q_cv hA 0 = c' := q_cv_c (fun s => by rw [← hh, q_c1]) (fun j s => by rw [← hh, q_c2])
    have f3 : hA 0 0 0 3 = nI ((fr + 8) % 9) := by rw [← hh, q_co _ _ _ (by decide), g_up_s]
    have f4 : hA 0 0 0 4 = nI (ch - 1) := by rw [← hh, q_co _ _ _ (by decide), g_up_o _ _ _ _ _ _ (by omega), g_up_s]
    unfold wX8_undo
    have g5 : g_up hA 15 0 0 1 (nI (ch - 1)) 5 0 0 2 = nI ch := (q_oth (by decide)).trans ((fA _ _ _ _ (by omega) (by omega)).trans h5)
    rw [g5]
    refine q_n1 (nI_ne0 (by omega) (by omega)) ?_
    unfold wX8_undo_b13
    refine nm_e (br_t (g_up_s _ _ _ _ _ _) ?_)
    rw [g_up_o (s' := 2) _ _ _ _ _ _ (by omega), g5, e1]
    refine nm_e (q_mUn (ch := ch - 1) (by omega) (g_up_s _ _ _ _ _ _) ?_)
    generalize hb : g_up (g_up (g_up hA 15 0 0 1 (nI (ch - 1))) 5 0 0 1 0) 5 0 0 2 (nI (ch - 1)) = hB2
    have fB : ∀ k a b s, ¬ (k = 0 ∧ (s = 3 ∨ s = 4)) → ¬ ((k = 1 ∨ k = 2) ∧ a = 0) → k ≠ 15 → ¬ (k = 5 ∧ (s = 1 ∨ s = 2)) → hB2 k a b s = h k a b s := fun k a b s n1 n2 n3 n4 => by
      rw [← hb, g_up_o _ _ _ _ _ _ (by omega), g_up_o _ _ _ _ _ _ (by omega), g_up_o _ _ _ _ _ _ (by omega), fA k a b s n1 n2]
    have fBA : ∀ k a b s, k ≠ 15 → k ≠ 5 → hB2 k a b s = hA k a b s := fun k a b s n1 n2 => by
      rw [← hb, g_up_o _ _ _ _ _ _ (by omega), g_up_o _ _ _ _ _ _ (by omega), g_up_o _ _ _ _ _ _ (by omega)]
    have fC : ∀ w k a b s, ¬ (k = 0 ∧ (s = 3 ∨ s = 4)) → ¬ ((k = 1 ∨ k = 2) ∧ a = 0) → k ≠ 15 → ¬ (k = 5 ∧ (s = 1 ∨ s = 2)) → ¬ (k = 13 ∧ a = 0) → q_mH hB2 0 w k a b s = h k a b s := fun w k a b s n1 n2 n3 n4 n5 => by
      rw [q_mH, if_neg (by omega), fB k a b s n1 n2 n3 n4]
    refine hZ 0 _ _ ?_ (fun _ => ?_) ⟨?_, ⟨ch - 1, (fr + 8) % 9, by omega, by omega, ?_, ?_, ?_, fun j hj2 => ?_⟩, ?_, ?_, ?_, ?_, ?_⟩
    · rw [q_mo _ _ _ (by decide), ← hb, g_up_o _ _ _ _ _ _ (by omega), g_up_s]
    · rw [q_mo _ _ _ (by decide), ← hb, g_up_o _ _ _ _ _ _ (by omega), g_up_o _ _ _ _ _ _ (by omega), g_up_s]
    · have k1 : ∀ w, q_cv (q_mH hB2 0 w) 0 = c' := fun w => (q_cv_e (fun s => by rw [q_mo _ _ _ (by decide), fBA _ _ _ _ (by decide) (by decide)]) (fun j s => by rw [q_mo _ _ _ (by decide), fBA _ _ _ _ (by decide) (by decide)])).trans fc
      rw [k1]
      refine q_R_eq (fun _ _ _ => rfl) (fun _ _ _ _ => rfl) (fun k hk => ?_) hc'
      show q_mH hB2 0 _ 13 0 0 (k + 1) = _
      rw [q_m1, q_seg_lt hk]
      show hB2 13 3 0 ((ch - 1) * 169 + k + 1) = h 13 3 0 (169 * (ch - 1) + k + 1)
      rw [Nat.mul_comm, fB _ _ _ _ (by omega) (by omega) (by omega) (by omega)]
    · rw [q_mo _ _ _ (by decide), fBA _ _ _ _ (by decide) (by decide), f3]
    · rw [q_mo _ _ _ (by decide), fBA _ _ _ _ (by decide) (by decide), f4]
    · rw [q_mo _ _ _ (by decide), ← hb, g_up_s]
    · have k2 : ((fr + 8) % 9 + 9 - (ch - 1) + j) % 9 + 1 = (fr + 9 - ch + j) % 9 + 1 := by omega
      rw [k2]
      have k3 : ∀ w, q_cv (q_mH hB2 0 w) ((fr + 9 - ch + j) % 9 + 1) = q_cv h ((fr + 9 - ch + j) % 9 + 1) := fun w => q_cv_e (fun s => fC w _ _ _ _ (by omega) (by omega) (by omega) (by omega) (by omega)) (fun j s => fC w _ _ _ _ (by omega) (by omega) (by omega) (by omega) (by omega))
      rw [k3]
      have k4 : ∀ w, (fun e => q_mH hB2 0 w 13 3 0 (169 * j + e + 1)) = (fun e => h 13 3 0 (169 * j + e + 1)) := fun w => funext fun e => fC w _ _ _ _ (by omega) (by omega) (by omega) (by omega) (by omega)
      rw [k4]
      exact h6 j (by omega)
    · exact q_SAV_c (fun k a b s hp => fC _ _ _ _ _ (by omega) (by omega) (by omega) (by omega) (by omega)) hS
    · exact q_ERR_c (fun k a b s hp => fC _ _ _ _ _ (by omega) (by omega) (by omega) (by omega) (by omega)) hE
    · exact q_TXT_c (fun k a b s hp => fC _ _ _ _ _ (by omega) (by omega) (by omega) (by omega) (by omega)) hX
    · exact q_LIN_c (fun k a b s hp => fC _ _ _ _ _ (by omega) (by omega) (by omega) (by omega) (by omega)) hL
    · exact q_WRD_c (fun k a b s hp => fC _ _ _ _ _ (by omega) (by omega) (by omega) (by omega) (by omega)) hW
theorem q_L54 (hI : q_I T h) (hZ : q_AV T Z) : wX7_save h (g_kI (fun a h1 => wX8_save h1 (g_kI (fun b h2 => Z a b h2) EX1)) EX0) := by
  have ⟨hB, hH, ⟨sv1, sv2, sv3⟩, hE, hX, hL, hW⟩ := hI
  have ew : h 1 0 0 2 = h 13 0 0 1 := by
    obtain ⟨n, ll, it, ⟨⟨s1, s2, s3, _⟩, _, _⟩⟩ := hB
    exact s2.trans s3.symm
  unfold wX7_save
  refine q_cpR (T := T) (w := q_mv h 0) (by decide) hB (fun c' hc' _ => nm_e ?_)
  show wX8_save (g_up (q_cH h 10 c') 0 0 0 6 1) (g_kI (fun b h2 => Z (g_up (q_cH h 10 c') 0 0 0 6 1 1 0 0 2) b h2) EX1)
  rw [g_up_o (k' := 1) _ _ _ _ _ _ (by omega), q_cb _ _ _ (by omega), ew]
  generalize hh : g_up (q_cH h 10 c') 0 0 0 6 1 = hA
  have fA : ∀ k a b s, ¬ (k = 0 ∧ s = 6) → ¬ ((k = 1 ∨ k = 2) ∧ a = 10) → hA k a b s = h k a b s := fun k a b s n1 n2 => by
    rw [← hh, g_up_o _ _ _ _ _ _ (by omega)]
    by_cases y : k ≠ 1 ∧ k ≠ 2
    · rw [q_co _ _ _ y]
    · rw [q_cb _ _ _ (by omega)]
  have fc : q_cv hA 10 = c' := q_cv_c (fun s => by rw [← hh, g_up_o _ _ _ _ _ _ (by omega), q_c1]) (fun j s => by rw [← hh, g_up_o _ _ _ _ _ _ (by omega), q_c2])
  have f6 : hA 0 0 0 6 = 1 := by rw [← hh, g_up_s]
  unfold wX8_save
  refine nm_e (q_lay (by decide) (by decide) (by decide) (nm_e ?_))
  rw [q_k0, g_up_o (k' := 13) _ _ _ _ _ _ (by omega), q_mi _ _ _ (by decide), g_up_o (k' := 13) _ _ _ _ _ _ (by omega), fA _ _ _ _ (by omega) (by omega)]
  generalize hw : q_seg (q_mv (g_up hA 5 0 0 1 0) 2) 0 169 (q_mv (g_up hA 5 0 0 1 0) 0) = w
  have fC : ∀ k a b s, ¬ (k = 0 ∧ s = 6) → ¬ ((k = 1 ∨ k = 2) ∧ a = 10) → ¬ (k = 5 ∧ (s = 1 ∨ s = 5)) → ¬ (k = 13 ∧ a = 2) → g_up (q_mH (g_up hA 5 0 0 1 0) 2 w) 5 0 0 5 1 k a b s = h k a b s := fun k a b s n1 n2 n3 n4 => by
    rw [g_up_o _ _ _ _ _ _ (by omega), q_mH, if_neg (by omega), g_up_o _ _ _ _ _ _ (by omega), fA k a b s n1 n2]
  have fK : ∀ k a b s, k ≠ 5 → k ≠ 13 → g_up (q_mH (g_up hA 5 0 0 1 0) 2 w) 5 0 0 5 1 k a b s = hA k a b s := fun k a b s n1 n2 => by
    rw [g_up_o _ _ _ _ _ _ (by omega), q_mH, if_neg (by omega), g_up_o _ _ _ _ _ _ (by omega)]
  refine hZ _ _ ⟨q_BK_c (fun k a b s hp => fC _ _ _ _ (by omega) (by omega) (by omega) (by omega)) hB, q_HIS_c (fun k a b s hp => fC _ _ _ _ (by omega) (by omega) (by omega) (by omega)) hH, ⟨?_, Or.inr (g_up_s _ _ _ _ _ _), fun _ => ?_⟩, q_ERR_c (fun k a b s hp => fC _ _ _ _ (by omega) (by omega) (by omega) (by omega)) hE, q_TXT_c (fun k a b s hp => fC _ _ _ _ (by omega) (by omega) (by omega) (by omega)) hX, q_LIN_c (fun k a b s hp => fC _ _ _ _ (by omega) (by omega) (by omega) (by omega)) hL, q_WRD_c (fun k a b s hp => fC _ _ _ _ (by omega) (by omega) (by omega) (by omega)) hW⟩
  · rw [g_up_s, fK _ _ _ _ (by decide) (by decide), f6]
  · have k1 : q_cv (g_up (q_mH (g_up hA 5 0 0 1 0) 2 w) 5 0 0 5 1) 10 = c' := (q_cv_e (fun s => fK _ _ _ _ (by decide) (by decide)) (fun j s => fK _ _ _ _ (by decide) (by decide))).trans fc
    rw [k1]
    refine q_R_eq (fun _ _ _ => rfl) (fun _ _ _ _ => rfl) (fun k hk => ?_) hc'
    show g_up (q_mH (g_up hA 5 0 0 1 0) 2 w) 5 0 0 5 1 13 2 0 (k + 1) = h 13 0 0 (k + 1)
    rw [g_up_o _ _ _ _ _ _ (by omega), q_m1, ← hw, q_seg_lt hk]
    show g_up hA 5 0 0 1 0 13 0 0 (k + 1) = _
    rw [g_up_o _ _ _ _ _ _ (by omega), fA _ _ _ _ (by omega) (by omega)]
theorem q_L55 (hI : q_I T h) (hZ : q_AN T Z) : wL_restore h (g_kI (fun k h1 => wX8_restore h1 (g_kI (fun b h2 => Z k b h2) EX1)) EX0) := by
  have ⟨hB, ⟨ch, fr, h1, h2, h3, h4, h5, h6⟩, ⟨sv1, sv2, sv3⟩, hE, hX, hL, hW⟩ := hI
  unfold wL_restore wX7_restore
  rcases sv2 with z | z
  · refine q_n0 (sv1.trans z) (And.intro rfl ?_)
    show wX8_restore h (g_kI (fun b h2 => Z 1 b h2) EX1)
    unfold wX8_restore
    refine br_t z ?_
    unfold wX8_restore_b13
    exact nm_e (br_f (by rw [g_up_s]; decide) (q_anE hZ hI (k := 1) (by decide) (by decide) 0))
  · refine q_n1 (by rw [sv1, z]; decide) (q_cpR (T := T) (w := q_mv h 2) (by decide) (sv3 z) (fun c' hc' _ => nm_e (nm_e ?_)))
    rw [g_up_o (k' := 1) _ _ _ _ _ _ (by omega), q_c1]
    show wX8_restore (g_up (g_up (q_cH h 0 c') 0 0 0 4 0) 15 0 0 1 (c'.1 2)) (g_kI (fun b h2 => Z 0 b h2) EX1)
    have ew : c'.1 2 = h 13 2 0 1 := by
      obtain ⟨n, ll, it, ⟨⟨s1, s2, s3, _⟩, _, _⟩⟩ := hc'
      exact s2.trans s3.symm
    rw [ew]
    generalize hh : g_up (q_cH h 0 c') 0 0 0 4 0 = hA
    have fA : ∀ k a b s, ¬ (k = 0 ∧ s = 4) → ¬ ((k = 1 ∨ k = 2) ∧ a = 0) → hA k a b s = h k a b s := fun k a b s n1 n2 => by
      rw [← hh, g_up_o _ _ _ _ _ _ (by omega)]
      by_cases y : k ≠ 1 ∧ k ≠ 2
      · rw [q_co _ _ _ y]
      · rw [q_cb _ _ _ (by omega)]
    have fc : q_cv hA 0 = c' := q_cv_c (fun s => by rw [← hh, g_up_o _ _ _ _ _ _ (by omega), q_c1]) (fun j s => by rw [← hh, g_up_o _ _ _ _ _ _ (by omega), q_c2])
    have f4 : hA 0 0 0 4 = nI 0 := by rw [← hh, g_up_s]; rfl
    unfold wX8_restore
    rw [q_oth (by decide), fA _ _ _ _ (by omega) (by omega), z]
    refine br_f (by decide) ?_
    unfold wX8_restore_b13
    refine nm_e (br_t (g_up_s _ _ _ _ _ _) (q_lay (by decide) (by decide) (by decide) (nm_e ?_)))
    have eR : ∀ s, g_up (g_up hA 15 0 0 1 (h 13 2 0 1)) 5 0 0 1 0 13 2 0 s = h 13 2 0 s := fun s => (q_H2o (by decide) (by decide)).trans (fA _ _ _ _ (by omega) (by omega))
    rw [q_k0, g_up_o (k' := 13) _ _ _ _ _ _ (by omega), q_m1, q_seg_lt (by decide)]
    show Z 0 (g_up (g_up hA 15 0 0 1 (h 13 2 0 1)) 5 0 0 1 0 13 2 0 (0 + 1)) _
    rw [eR]
    generalize hw : q_seg (q_mv (g_up (g_up hA 15 0 0 1 (h 13 2 0 1)) 5 0 0 1 0) 0) 0 169 (q_mv (g_up (g_up hA 15 0 0 1 (h 13 2 0 1)) 5 0 0 1 0) 2) = w
    have fC : ∀ k a b s, ¬ (k = 0 ∧ s = 4) → ¬ ((k = 1 ∨ k = 2) ∧ a = 0) → ¬ (k = 5 ∧ (s = 1 ∨ s = 2)) → ¬ (k = 13 ∧ a = 0) → k ≠ 15 → g_up (q_mH (g_up (g_up hA 15 0 0 1 (h 13 2 0 1)) 5 0 0 1 0) 0 w) 5 0 0 2 0 k a b s = h k a b s := fun k a b s n1 n2 n3 n4 n5 => by
      rw [g_up_o _ _ _ _ _ _ (by omega), q_mH, if_neg (by omega), g_up_o _ _ _ _ _ _ (by omega), g_up_o _ _ _ _ _ _ (by omega), fA k a b s n1 n2]
    have fK : ∀ k a b s, k ≠ 5 → k ≠ 13 → k ≠ 15 → g_up (q_mH (g_up (g_up hA 15 0 0 1 (h 13 2 0 1)) 5 0 0 1 0) 0 w) 5 0 0 2 0 k a b s = hA k a b s := fun k a b s n1 n2 n3 => by
      rw [g_up_o _ _ _ _ _ _ (by omega), q_mH, if_neg (by omega), g_up_o _ _ _ _ _ _ (by omega), g_up_o _ _ _ _ _ _ (by omega)]
    refine hZ 0 _ _ ?_ (fun _ => ?_) ⟨?_, ⟨0, fr, by decide, h2, ?_, ?_, g_up_s _ _ _ _ _ _, fun j hj => absurd hj (by omega)⟩, q_SAV_c (fun k a b s hp => fC _ _ _ _ (by omega) (by omega) (by omega) (by omega) (by omega)) ⟨sv1, Or.inr z, sv3⟩, q_ERR_c (fun k a b s hp => fC _ _ _ _ (by omega) (by omega) (by omega) (by omega) (by omega)) hE, q_TXT_c (fun k a b s hp => fC _ _ _ _ (by omega) (by omega) (by omega) (by omega) (by omega)) hX, q_LIN_c (fun k a b s hp => fC _ _ _ _ (by omega) (by omega) (by omega) (by omega) (by omega)) hL, q_WRD_c (fun k a b s hp => fC _ _ _ _ (by omega) (by omega) (by omega) (by omega) (by omega)) hW⟩
    · rw [g_up_o _ _ _ _ _ _ (by omega), q_mo _ _ _ (by decide), g_up_s]
    · rw [g_up_o _ _ _ _ _ _ (by omega), q_mo _ _ _ (by decide), g_up_o _ _ _ _ _ _ (by omega), g_up_s]
    · have k1 : q_cv (g_up (q_mH (g_up (g_up hA 15 0 0 1 (h 13 2 0 1)) 5 0 0 1 0) 0 w) 5 0 0 2 0) 0 = c' := (q_cv_e (fun s => fK _ _ _ _ (by decide) (by decide) (by decide)) (fun j s => fK _ _ _ _ (by decide) (by decide) (by decide))).trans fc
      rw [k1]
      refine q_R_eq (fun _ _ _ => rfl) (fun _ _ _ _ => rfl) (fun k hk => ?_) hc'
      show g_up (q_mH (g_up (g_up hA 15 0 0 1 (h 13 2 0 1)) 5 0 0 1 0) 0 w) 5 0 0 2 0 13 0 0 (k + 1) = h 13 2 0 (k + 1)
      rw [g_up_o _ _ _ _ _ _ (by omega), q_m1, ← hw, q_seg_lt hk]
      exact eR _
    · rw [fK _ _ _ _ (by decide) (by decide) (by decide), fA _ _ _ _ (by omega) (by omega), h3]
    · rw [fK _ _ _ _ (by decide) (by decide) (by decide), f4]
end QU
