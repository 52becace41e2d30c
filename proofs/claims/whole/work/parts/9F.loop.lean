/-! ===== the law's loop ===== -/
section QL9
variable {a0 L : Nat} {xs : Nat → Int32} {Q : g_R → g_Hp → Prop}
theorem q_JB {i : Nat} {R : Int32 → g_Hp → Prop} {h : g_Hp} (hL : L ≤ 1536) (hQ : ∀ h, Q (.inl (some (vI 1))) h) (next : 3 * i + 3 ≤ L → ∀ h2, q_I (330 * (i + 1)) h2 → R (nI (3 * (i + 1))) h2) (hI : q_I (330 * i) h) (hi : 3 * i < 2000) : wL_law_b28_B a0 L xs Q R (nI (3 * i)) h := by
  unfold wL_law_b28_B
  refine And.intro (fun _ => hQ h) (fun c => ?_)
  have hin : 3 * i + 3 ≤ L := by
    rw [Int32.lt_iff_toInt_lt, nI_toInt (by omega), q_lit 3, show Int32.ofNat L = nI L from rfl, pk_sub_toInt (by omega) (by decide)] at c
    omega
  have hv0 : vp_in (nI (3 * i)) L := q_vI (by omega) (by omega)
  have hv1 : vp_in (nI (3 * i) + (1 : Int32)) L := by
    rw [q_lit 1, nI_add]
    exact q_vI (by omega) (by omega)
  have hv2 : vp_in (nI (3 * i) + (2 : Int32)) L := by
    rw [q_lit 2, nI_add]
    exact q_vI (by omega) (by omega)
  have nx : ∀ h2, q_I (330 * (i + 1)) h2 → wL_law_b2767 a0 L xs Q R (nI (3 * i)) h2 := fun h2 hI2 => by
    unfold wL_law_b2767
    refine nm_r (e' := nI (3 * (i + 1))) ?_ (next hin h2 hI2)
    rw [q_lit 3, nI_add]
    exact congrArg nI (by omega)
  have hR : ∀ h2, q_I (330 * i) h2 → wL_law_b2767 a0 L xs Q R (nI (3 * i)) h2 := fun h2 hI2 => nx h2 (q_I_m (by omega) hI2)
  have hR3 : ∀ h2, q_I (330 * i + 30) h2 → wL_law_b2767 a0 L xs Q R (nI (3 * i)) h2 := fun h2 hI2 => nx h2 (q_I_m (by omega) hI2)
  have hR4 : ∀ h2, q_I (330 * i + 330) h2 → wL_law_b2767 a0 L xs Q R (nI (3 * i)) h2 := fun h2 hI2 => nx h2 (q_I_m (by omega) hI2)
  refine And.intro hv0 (And.intro (fun _ => hR h hI) ?_)
  refine And.intro (fun _ => q_J0 hv1 hv2 hI hR) ?_
  refine And.intro (fun _ => q_J1 hI hR) ?_
  refine And.intro (fun _ => q_J2 hv1 hI hR) ?_
  refine And.intro (fun _ => q_J3 hv1 hI hR) ?_
  refine And.intro (fun _ => q_J4 hv1 hI hR) ?_
  refine And.intro (fun _ => q_J5 hv1 hI hR) ?_
  refine And.intro (fun _ => q_J6 hv1 hI hR) ?_
  refine And.intro (fun _ => q_J7 hv1 hI hR) ?_
  refine And.intro (fun _ => q_J8 hv1 hI hR) ?_
  refine And.intro (fun _ => q_J9 hv1 hI hR) ?_
  refine And.intro (fun _ => q_J10 hv1 hI hR) ?_
  refine And.intro (fun _ => q_J11 hv1 hI hR) ?_
  refine And.intro (fun _ => q_J12 hv1 hv2 hI hR) ?_
  refine And.intro (fun _ => q_J13 hI hR) ?_
  refine And.intro (fun _ => q_J14 hI hR) ?_
  refine And.intro (fun _ => q_J15 hv1 hI hR) ?_
  refine And.intro (fun _ => q_J16 hv1 hI hR) ?_
  refine And.intro (fun _ => q_J17 (by omega) hv1 hI hR3) ?_
  refine And.intro (fun _ => q_J18 hI hR) ?_
  refine And.intro (fun _ => q_J19 hI hR) ?_
  refine And.intro (fun _ => q_J20 hv1 hv2 hI hR) ?_
  refine And.intro (fun _ => q_J21 hI hR) ?_
  refine And.intro (fun _ => q_J22 hv1 hI hR) ?_
  refine And.intro (fun _ => q_J23 hI hR) ?_
  refine And.intro (fun _ => q_J24 hI hR) ?_
  refine And.intro (fun _ => q_J25 hI hR) ?_
  refine And.intro (fun _ => q_J26 hv1 hI hR) ?_
  refine And.intro (fun _ => q_J27 hI hR) ?_
  refine And.intro (fun _ => q_J28 hI hR) ?_
  refine And.intro (fun _ => q_J29 hI hR) ?_
  refine And.intro (fun _ => q_J30 hv1 hv2 hI hR) ?_
  refine And.intro (fun _ => q_J31 hv1 hI hR) ?_
  refine And.intro (fun _ => q_J32 hv1 hI hR) ?_
  refine And.intro (fun _ => q_J33 hv1 hv2 hI hR) ?_
  refine And.intro (fun _ => q_J34 hv1 hI hR) ?_
  refine And.intro (fun _ => q_J35 hv1 hI hR) ?_
  refine And.intro (fun _ => q_J36 hv1 hI hR) ?_
  refine And.intro (fun _ => q_J37 hI hR) ?_
  refine And.intro (fun _ => q_J38 hI hR) ?_
  refine And.intro (fun _ => q_J39 hv1 hI hR) ?_
  refine And.intro (fun _ => q_J40 hI hR) ?_
  refine And.intro (fun _ => q_J41 hI hR) ?_
  refine And.intro (fun _ => q_J42 hI hR) ?_
  refine And.intro (fun _ => q_J43 hI hR) ?_
  refine And.intro (fun _ => q_J44 hI hR) ?_
  refine And.intro (fun _ => q_J45 hv1 hI hR) ?_
  refine And.intro (fun _ => q_J46 (by omega) hI hR4) ?_
  refine And.intro (fun _ => q_J47 hI hR) ?_
  refine And.intro (fun _ => q_J48 hI hR) ?_
  refine And.intro (fun _ => q_J49 (by omega) hv1 hI hR) ?_
  refine And.intro (fun _ => q_J50 hv1 hI hR) ?_
  refine And.intro (fun _ => q_J51 hI hR) ?_
  refine And.intro (fun _ => q_J52 hI hR) ?_
  refine And.intro (fun _ => q_J53 hI hR) ?_
  refine And.intro (fun _ => q_J54 hI hR) ?_
  exact fun _ => q_J55 hI hR
theorem q_JL (hL : L ≤ 1536) (hQ : ∀ h, Q (.inl (some (vI 1))) h) : ∀ d i (h : g_Hp), L < 3 * i + 3 * (d + 1) → 3 * i < 2000 → q_I (330 * i) h → wL_law_b28_I a0 L xs Q (d + 1) (nI (3 * i)) h
  | 0, i, h, h1, h2, hI => q_JB hL hQ (fun q => absurd q (by omega)) hI h2
  | d + 1, i, h, h1, h2, hI => q_JB hL hQ (fun q h2' hI2 => q_JL hL hQ d (i + 1) h2' (by omega) (by omega) hI2) hI h2
theorem q_JW (hL : L ≤ 1536) (hQ : ∀ h, Q (.inl (some (vI 1))) h) {h : g_Hp} (hI : q_I 0 h) : wL_law_b28 a0 L xs Q 0 h := by
  unfold wL_law_b28
  exact ⟨513, Nat.le_refl _, q_JL hL hQ 512 0 h (by omega) (by omega) hI⟩
end QL9
