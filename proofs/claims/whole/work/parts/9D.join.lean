/-! ===== the law's calls, joined ===== -/
theorem q_lgc (x : Int64) : lg_cmp x x = 0 := by
  unfold lg_cmp
  rw [if_neg (by simp [Int64.lt_iff_toInt_lt]), if_pos rfl]
section QJ
variable {T a0 L : Nat} {xs : Nat → Int32} {Q : g_R → g_Hp → Prop} {R : Int32 → g_Hp → Prop} {x5 : Int32} {h : g_Hp}
theorem q_Zn {Q : g_R → g_Hp → Prop} {EX : String → g_Hp → Prop} (R' : g_Hp → Prop) (hR : ∀ h2, q_I T h2 → R' h2) : q_AN T (fun k b h2 => wX8_thrown h2 (g_kI (fun u6 h5 => ((u6 = k) → ((¬ k = 0) → R' h5) ∧ ((k = 0) → (((lg_cmp ((h5 15 0 0 1).toInt64) (b.toInt64)) = 0) → R' h5) ∧ ((¬ (lg_cmp ((h5 15 0 0 1).toInt64) (b.toInt64)) = 0) → Q (.inl (some (vI (0 : Int32)))) h5))) ∧ ((¬ u6 = k) → Q (.inl (some (vI (0 : Int32)))) h5)) EX)) := fun k b h2 e1 e2 hI => by
  unfold wX8_thrown
  exact br_t e1 ⟨fun _ => hR h2 hI, fun z => br_t (by rw [e2 z, q_lgc]) (hR h2 hI)⟩
theorem q_Zv {Q : g_R → g_Hp → Prop} (R' : g_Hp → Prop) (hR : ∀ h2, q_I T h2 → R' h2) : q_AV T (fun a b h2 => ((a = b) → R' h2) ∧ ((¬ a = b) → Q (.inl (some (vI (0 : Int32)))) h2)) := fun a h2 hI => br_t rfl (hR h2 hI)
theorem q_J0 (hv1 : vp_in (x5 + (1 : Int32)) L) (hv2 : vp_in (x5 + (2 : Int32)) L) (hI : q_I T h) (hR : ∀ h2, q_I T h2 → wL_law_b2767 a0 L xs Q R x5 h2) : wL_law_b284 a0 L xs Q R x5 h := by
  unfold wL_law_b284
  simp only [hv1, hv2, true_and]
  exact q_L0 hI (q_Zn (wL_law_b2767 a0 L xs Q R x5) hR)
theorem q_J1 (hI : q_I T h) (hR : ∀ h2, q_I T h2 → wL_law_b2767 a0 L xs Q R x5 h2) : wL_law_b352 a0 L xs Q R x5 h := by
  unfold wL_law_b352
  exact q_L1 hI (q_Zv (wL_law_b2767 a0 L xs Q R x5) hR)
theorem q_J2 (hv1 : vp_in (x5 + (1 : Int32)) L) (hI : q_I T h) (hR : ∀ h2, q_I T h2 → wL_law_b2767 a0 L xs Q R x5 h2) : wL_law_b365 a0 L xs Q R x5 h := by
  unfold wL_law_b365
  simp only [hv1, true_and]
  exact q_L2 hI (q_Zn (wL_law_b2767 a0 L xs Q R x5) hR)
theorem q_J3 (hv1 : vp_in (x5 + (1 : Int32)) L) (hI : q_I T h) (hR : ∀ h2, q_I T h2 → wL_law_b2767 a0 L xs Q R x5 h2) : wL_law_b421 a0 L xs Q R x5 h := by
  unfold wL_law_b421
  simp only [hv1, true_and]
  exact q_L3 hI (q_Zn (wL_law_b2767 a0 L xs Q R x5) hR)
theorem q_J4 (hv1 : vp_in (x5 + (1 : Int32)) L) (hI : q_I T h) (hR : ∀ h2, q_I T h2 → wL_law_b2767 a0 L xs Q R x5 h2) : wL_law_b477 a0 L xs Q R x5 h := by
  unfold wL_law_b477
  simp only [hv1, true_and]
  exact q_L4 hI (q_Zn (wL_law_b2767 a0 L xs Q R x5) hR)
theorem q_J5 (hv1 : vp_in (x5 + (1 : Int32)) L) (hI : q_I T h) (hR : ∀ h2, q_I T h2 → wL_law_b2767 a0 L xs Q R x5 h2) : wL_law_b533 a0 L xs Q R x5 h := by
  unfold wL_law_b533
  simp only [hv1, true_and]
  exact q_L5 hI (q_Zn (wL_law_b2767 a0 L xs Q R x5) hR)
theorem q_J6 (hv1 : vp_in (x5 + (1 : Int32)) L) (hI : q_I T h) (hR : ∀ h2, q_I T h2 → wL_law_b2767 a0 L xs Q R x5 h2) : wL_law_b589 a0 L xs Q R x5 h := by
  unfold wL_law_b589
  simp only [hv1, true_and]
  exact q_L6 hI (q_Zn (wL_law_b2767 a0 L xs Q R x5) hR)
theorem q_J7 (hv1 : vp_in (x5 + (1 : Int32)) L) (hI : q_I T h) (hR : ∀ h2, q_I T h2 → wL_law_b2767 a0 L xs Q R x5 h2) : wL_law_b645 a0 L xs Q R x5 h := by
  unfold wL_law_b645
  simp only [hv1, true_and]
  exact q_L7 hI (q_Zn (wL_law_b2767 a0 L xs Q R x5) hR)
theorem q_J8 (hv1 : vp_in (x5 + (1 : Int32)) L) (hI : q_I T h) (hR : ∀ h2, q_I T h2 → wL_law_b2767 a0 L xs Q R x5 h2) : wL_law_b701 a0 L xs Q R x5 h := by
  unfold wL_law_b701
  simp only [hv1, true_and]
  exact q_L8 hI (q_Zn (wL_law_b2767 a0 L xs Q R x5) hR)
theorem q_J10 (hv1 : vp_in (x5 + (1 : Int32)) L) (hI : q_I T h) (hR : ∀ h2, q_I T h2 → wL_law_b2767 a0 L xs Q R x5 h2) : wL_law_b835 a0 L xs Q R x5 h := by
  unfold wL_law_b835
  simp only [hv1, true_and]
  exact q_L10 hI (q_Zn (wL_law_b2767 a0 L xs Q R x5) hR)
theorem q_J11 (hv1 : vp_in (x5 + (1 : Int32)) L) (hI : q_I T h) (hR : ∀ h2, q_I T h2 → wL_law_b2767 a0 L xs Q R x5 h2) : wL_law_b891 a0 L xs Q R x5 h := by
  unfold wL_law_b891
  simp only [hv1, true_and]
  exact q_L11 hI (q_Zn (wL_law_b2767 a0 L xs Q R x5) hR)
theorem q_J12 (hv1 : vp_in (x5 + (1 : Int32)) L) (hv2 : vp_in (x5 + (2 : Int32)) L) (hI : q_I T h) (hR : ∀ h2, q_I T h2 → wL_law_b2767 a0 L xs Q R x5 h2) : wL_law_b947 a0 L xs Q R x5 h := by
  unfold wL_law_b947
  simp only [hv1, hv2, true_and]
  exact q_L12 hI (q_Zn (wL_law_b2767 a0 L xs Q R x5) hR)
theorem q_J13 (hI : q_I T h) (hR : ∀ h2, q_I T h2 → wL_law_b2767 a0 L xs Q R x5 h2) : wL_law_b1015 a0 L xs Q R x5 h := by
  unfold wL_law_b1015
  exact q_L13 hI (q_Zv (wL_law_b2767 a0 L xs Q R x5) hR)
theorem q_J14 (hI : q_I T h) (hR : ∀ h2, q_I T h2 → wL_law_b2767 a0 L xs Q R x5 h2) : wL_law_b1028 a0 L xs Q R x5 h := by
  unfold wL_law_b1028
  exact q_L14 hI (q_Zv (wL_law_b2767 a0 L xs Q R x5) hR)
theorem q_J15 (hv1 : vp_in (x5 + (1 : Int32)) L) (hI : q_I T h) (hR : ∀ h2, q_I T h2 → wL_law_b2767 a0 L xs Q R x5 h2) : wL_law_b1041 a0 L xs Q R x5 h := by
  unfold wL_law_b1041
  simp only [hv1, true_and]
  exact q_L15 hI (q_Zn (wL_law_b2767 a0 L xs Q R x5) hR)
theorem q_J16 (hv1 : vp_in (x5 + (1 : Int32)) L) (hI : q_I T h) (hR : ∀ h2, q_I T h2 → wL_law_b2767 a0 L xs Q R x5 h2) : wL_law_b1097 a0 L xs Q R x5 h := by
  unfold wL_law_b1097
  simp only [hv1, true_and]
  exact q_L16 hI (q_Zn (wL_law_b2767 a0 L xs Q R x5) hR)
theorem q_J17 (hT : 99 * (T + 30) < 2 ^ 31) (hv1 : vp_in (x5 + (1 : Int32)) L) (hI : q_I T h) (hR : ∀ h2, q_I (T + 30) h2 → wL_law_b2767 a0 L xs Q R x5 h2) : wL_law_b1153 a0 L xs Q R x5 h := by
  unfold wL_law_b1153
  simp only [hv1, true_and]
  exact q_L17 hT hI (q_Zn (wL_law_b2767 a0 L xs Q R x5) hR)
theorem q_J18 (hI : q_I T h) (hR : ∀ h2, q_I T h2 → wL_law_b2767 a0 L xs Q R x5 h2) : wL_law_b1209 a0 L xs Q R x5 h := by
  unfold wL_law_b1209
  exact q_L18 hI (q_Zv (wL_law_b2767 a0 L xs Q R x5) hR)
theorem q_J19 (hI : q_I T h) (hR : ∀ h2, q_I T h2 → wL_law_b2767 a0 L xs Q R x5 h2) : wL_law_b1222 a0 L xs Q R x5 h := by
  unfold wL_law_b1222
  exact q_L19 hI (q_Zv (wL_law_b2767 a0 L xs Q R x5) hR)
theorem q_J21 (hI : q_I T h) (hR : ∀ h2, q_I T h2 → wL_law_b2767 a0 L xs Q R x5 h2) : wL_law_b1319 a0 L xs Q R x5 h := by
  unfold wL_law_b1319
  exact q_L21 hI (q_Zv (wL_law_b2767 a0 L xs Q R x5) hR)
theorem q_J23 (hI : q_I T h) (hR : ∀ h2, q_I T h2 → wL_law_b2767 a0 L xs Q R x5 h2) : wL_law_b1395 a0 L xs Q R x5 h := by
  unfold wL_law_b1395
  exact q_L23 hI (q_Zn (wL_law_b2767 a0 L xs Q R x5) hR)
theorem q_J24 (hI : q_I T h) (hR : ∀ h2, q_I T h2 → wL_law_b2767 a0 L xs Q R x5 h2) : wL_law_b1439 a0 L xs Q R x5 h := by
  unfold wL_law_b1439
  exact q_L24 hI (q_Zv (wL_law_b2767 a0 L xs Q R x5) hR)
theorem q_J25 (hI : q_I T h) (hR : ∀ h2, q_I T h2 → wL_law_b2767 a0 L xs Q R x5 h2) : wL_law_b1452 a0 L xs Q R x5 h := by
  unfold wL_law_b1452
  exact q_L25 hI (q_Zn (wL_law_b2767 a0 L xs Q R x5) hR)
theorem q_J26 (hv1 : vp_in (x5 + (1 : Int32)) L) (hI : q_I T h) (hR : ∀ h2, q_I T h2 → wL_law_b2767 a0 L xs Q R x5 h2) : wL_law_b1496 a0 L xs Q R x5 h := by
  unfold wL_law_b1496
  simp only [hv1, true_and]
  exact q_L26 hI (q_Zn (wL_law_b2767 a0 L xs Q R x5) hR)
theorem q_J27 (hI : q_I T h) (hR : ∀ h2, q_I T h2 → wL_law_b2767 a0 L xs Q R x5 h2) : wL_law_b1552 a0 L xs Q R x5 h := by
  unfold wL_law_b1552
  exact q_L27 hI (q_Zv (wL_law_b2767 a0 L xs Q R x5) hR)
theorem q_J28 (hI : q_I T h) (hR : ∀ h2, q_I T h2 → wL_law_b2767 a0 L xs Q R x5 h2) : wL_law_b1565 a0 L xs Q R x5 h := by
  unfold wL_law_b1565
  exact q_L28 hI (q_Zn (wL_law_b2767 a0 L xs Q R x5) hR)
theorem q_J29 (hI : q_I T h) (hR : ∀ h2, q_I T h2 → wL_law_b2767 a0 L xs Q R x5 h2) : wL_law_b1609 a0 L xs Q R x5 h := by
  unfold wL_law_b1609
  exact q_L29 hI (q_Zn (wL_law_b2767 a0 L xs Q R x5) hR)
theorem q_J30 (hv1 : vp_in (x5 + (1 : Int32)) L) (hv2 : vp_in (x5 + (2 : Int32)) L) (hI : q_I T h) (hR : ∀ h2, q_I T h2 → wL_law_b2767 a0 L xs Q R x5 h2) : wL_law_b1653 a0 L xs Q R x5 h := by
  unfold wL_law_b1653
  simp only [hv1, hv2, true_and]
  exact q_L30 hI (q_Zn (wL_law_b2767 a0 L xs Q R x5) hR)
theorem q_J31 (hv1 : vp_in (x5 + (1 : Int32)) L) (hI : q_I T h) (hR : ∀ h2, q_I T h2 → wL_law_b2767 a0 L xs Q R x5 h2) : wL_law_b1721 a0 L xs Q R x5 h := by
  unfold wL_law_b1721
  simp only [hv1, true_and]
  exact q_L31 hI (q_Zn (wL_law_b2767 a0 L xs Q R x5) hR)
theorem q_J32 (hv1 : vp_in (x5 + (1 : Int32)) L) (hI : q_I T h) (hR : ∀ h2, q_I T h2 → wL_law_b2767 a0 L xs Q R x5 h2) : wL_law_b1777 a0 L xs Q R x5 h := by
  unfold wL_law_b1777
  simp only [hv1, true_and]
  exact q_L32 hI (q_Zn (wL_law_b2767 a0 L xs Q R x5) hR)
theorem q_J33 (hv1 : vp_in (x5 + (1 : Int32)) L) (hv2 : vp_in (x5 + (2 : Int32)) L) (hI : q_I T h) (hR : ∀ h2, q_I T h2 → wL_law_b2767 a0 L xs Q R x5 h2) : wL_law_b1833 a0 L xs Q R x5 h := by
  unfold wL_law_b1833
  simp only [hv1, hv2, true_and]
  exact q_L33 hI (q_Zn (wL_law_b2767 a0 L xs Q R x5) hR)
theorem q_J34 (hv1 : vp_in (x5 + (1 : Int32)) L) (hI : q_I T h) (hR : ∀ h2, q_I T h2 → wL_law_b2767 a0 L xs Q R x5 h2) : wL_law_b1901 a0 L xs Q R x5 h := by
  unfold wL_law_b1901
  simp only [hv1, true_and]
  exact q_L34 hI (q_Zn (wL_law_b2767 a0 L xs Q R x5) hR)
theorem q_J35 (hv1 : vp_in (x5 + (1 : Int32)) L) (hI : q_I T h) (hR : ∀ h2, q_I T h2 → wL_law_b2767 a0 L xs Q R x5 h2) : wL_law_b1957 a0 L xs Q R x5 h := by
  unfold wL_law_b1957
  simp only [hv1, true_and]
  exact q_L35 hI (q_Zn (wL_law_b2767 a0 L xs Q R x5) hR)
theorem q_J37 (hI : q_I T h) (hR : ∀ h2, q_I T h2 → wL_law_b2767 a0 L xs Q R x5 h2) : wL_law_b2076 a0 L xs Q R x5 h := by
  unfold wL_law_b2076
  exact q_L37 hI (q_Zn (wL_law_b2767 a0 L xs Q R x5) hR)
theorem q_J38 (hI : q_I T h) (hR : ∀ h2, q_I T h2 → wL_law_b2767 a0 L xs Q R x5 h2) : wL_law_b2120 a0 L xs Q R x5 h := by
  unfold wL_law_b2120
  exact q_L38 hI (q_Zn (wL_law_b2767 a0 L xs Q R x5) hR)
theorem q_J39 (hv1 : vp_in (x5 + (1 : Int32)) L) (hI : q_I T h) (hR : ∀ h2, q_I T h2 → wL_law_b2767 a0 L xs Q R x5 h2) : wL_law_b2164 a0 L xs Q R x5 h := by
  unfold wL_law_b2164
  simp only [hv1, true_and]
  exact q_L39 hI (q_Zn (wL_law_b2767 a0 L xs Q R x5) hR)
theorem q_J41 (hI : q_I T h) (hR : ∀ h2, q_I T h2 → wL_law_b2767 a0 L xs Q R x5 h2) : wL_law_b2234 a0 L xs Q R x5 h := by
  unfold wL_law_b2234
  exact q_L41 hI (q_Zv (wL_law_b2767 a0 L xs Q R x5) hR)
theorem q_J42 (hI : q_I T h) (hR : ∀ h2, q_I T h2 → wL_law_b2767 a0 L xs Q R x5 h2) : wL_law_b2247 a0 L xs Q R x5 h := by
  unfold wL_law_b2247
  exact q_L42 hI (q_Zv (wL_law_b2767 a0 L xs Q R x5) hR)
theorem q_J43 (hI : q_I T h) (hR : ∀ h2, q_I T h2 → wL_law_b2767 a0 L xs Q R x5 h2) : wL_law_b2260 a0 L xs Q R x5 h := by
  unfold wL_law_b2260
  exact q_L43 hI (q_Zv (wL_law_b2767 a0 L xs Q R x5) hR)
theorem q_J44 (hI : q_I T h) (hR : ∀ h2, q_I T h2 → wL_law_b2767 a0 L xs Q R x5 h2) : wL_law_b2273 a0 L xs Q R x5 h := by
  unfold wL_law_b2273
  exact q_L44 hI (q_Zv (wL_law_b2767 a0 L xs Q R x5) hR)
theorem q_J45 (hv1 : vp_in (x5 + (1 : Int32)) L) (hI : q_I T h) (hR : ∀ h2, q_I T h2 → wL_law_b2767 a0 L xs Q R x5 h2) : wL_law_b2286 a0 L xs Q R x5 h := by
  unfold wL_law_b2286
  simp only [hv1, true_and]
  exact q_L45 hI (q_Zn (wL_law_b2767 a0 L xs Q R x5) hR)
theorem q_J46 (hT : 99 * (T + 330) < 2 ^ 31) (hI : q_I T h) (hR : ∀ h2, q_I (T + 330) h2 → wL_law_b2767 a0 L xs Q R x5 h2) : wL_law_b2344 a0 L xs Q R x5 h := by
  unfold wL_law_b2344
  exact q_L46 hT hI (q_Zn (wL_law_b2767 a0 L xs Q R x5) hR)
theorem q_J47 (hI : q_I T h) (hR : ∀ h2, q_I T h2 → wL_law_b2767 a0 L xs Q R x5 h2) : wL_law_b2388 a0 L xs Q R x5 h := by
  unfold wL_law_b2388
  exact q_L47 hI (q_Zn (wL_law_b2767 a0 L xs Q R x5) hR)
theorem q_J48 (hI : q_I T h) (hR : ∀ h2, q_I T h2 → wL_law_b2767 a0 L xs Q R x5 h2) : wL_law_b2432 a0 L xs Q R x5 h := by
  unfold wL_law_b2432
  exact q_L48 hI (q_Zn (wL_law_b2767 a0 L xs Q R x5) hR)
theorem q_J49 (hT : 99 * (T + 30) < 2 ^ 31) (hv1 : vp_in (x5 + (1 : Int32)) L) (hI : q_I T h) (hR : ∀ h2, q_I T h2 → wL_law_b2767 a0 L xs Q R x5 h2) : wL_law_b2476 a0 L xs Q R x5 h := by
  unfold wL_law_b2476
  simp only [hv1, true_and]
  exact q_L49 hT hI (q_Zn (wL_law_b2767 a0 L xs Q R x5) hR)
theorem q_J50 (hv1 : vp_in (x5 + (1 : Int32)) L) (hI : q_I T h) (hR : ∀ h2, q_I T h2 → wL_law_b2767 a0 L xs Q R x5 h2) : wL_law_b2532 a0 L xs Q R x5 h := by
  unfold wL_law_b2532
  simp only [hv1, true_and]
  exact q_L50 hI (q_Zn (wL_law_b2767 a0 L xs Q R x5) hR)
theorem q_J52 (hI : q_I T h) (hR : ∀ h2, q_I T h2 → wL_law_b2767 a0 L xs Q R x5 h2) : wL_law_b2653 a0 L xs Q R x5 h := by
  unfold wL_law_b2653
  exact q_L52 hI (q_Zv (wL_law_b2767 a0 L xs Q R x5) hR)
theorem q_J53 (hI : q_I T h) (hR : ∀ h2, q_I T h2 → wL_law_b2767 a0 L xs Q R x5 h2) : wL_law_b2666 a0 L xs Q R x5 h := by
  unfold wL_law_b2666
  exact q_L53 hI (q_Zn (wL_law_b2767 a0 L xs Q R x5) hR)
theorem q_J54 (hI : q_I T h) (hR : ∀ h2, q_I T h2 → wL_law_b2767 a0 L xs Q R x5 h2) : wL_law_b2710 a0 L xs Q R x5 h := by
  unfold wL_law_b2710
  exact q_L54 hI (q_Zv (wL_law_b2767 a0 L xs Q R x5) hR)
theorem q_J55 (hI : q_I T h) (hR : ∀ h2, q_I T h2 → wL_law_b2767 a0 L xs Q R x5 h2) : wL_law_b2723 a0 L xs Q R x5 h := by
  unfold wL_law_b2723
  exact q_L55 hI (q_Zn (wL_law_b2767 a0 L xs Q R x5) hR)
end QJ
