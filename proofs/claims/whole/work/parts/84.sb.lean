/-! ===== the two builders ===== -/
def q_SB (h : g_Hp) (i cap cnt : Nat) (cs : Nat → Nat) : Prop :=
  ∃ g, h 6 i 0 4 = nI cnt ∧ h 6 i 0 2 = 0 ∧ h 6 i 0 1 = nI (g + 1) ∧ g ≤ cap ∧ cap ≤ 150 ∧ cnt ≤ cap ∧ 16 ≤ cap ∧ h 14 i g 0 = nI (cap + 1) ∧ (∀ g', g < g' → h 14 i g' 0 = 0) ∧ (∀ e, e < cap → ∃ b, b < 128 ∧ h 14 i g (e + 1) = nI b) ∧ (∀ e, e < cnt → h 14 i g (e + 1) = nI (cs e))
/-- only builder i has changed -/
def q_X (i : Nat) (h h' : g_Hp) : Prop := (∀ k a b s, k ≠ 14 → k ≠ 54 → ¬ (k = 6 ∧ a = i) → h' k a b s = h k a b s) ∧ (∀ a b s, a ≠ i → h' 14 a b s = h 14 a b s)
theorem q_X_rf (i : Nat) (h : g_Hp) : q_X i h h := ⟨fun _ _ _ _ _ _ _ => rfl, fun _ _ _ _ => rfl⟩
theorem q_X_tr {i : Nat} {h h1 h2 : g_Hp} (a : q_X i h h1) (b : q_X i h1 h2) : q_X i h h2 := ⟨fun k x y s e1 e2 e3 => (b.1 k x y s e1 e2 e3).trans (a.1 k x y s e1 e2 e3), fun x y s e => (b.2 x y s e).trans (a.2 x y s e)⟩
theorem q_X_6 (i : Nat) (h : g_Hp) (s : Nat) (x : Int32) : q_X i h (g_up h 6 i 0 s x) := ⟨fun k a b s' _ _ e => g_up_o _ _ _ _ _ _ (fun q => e ⟨q.1, q.2.1⟩), fun a b s' e => g_up_o _ _ _ _ _ _ (fun q => by cases q.1)⟩
theorem q_X_14 (i g : Nat) (h : g_Hp) (s : Nat) (x : Int32) : q_X i h (g_up h 14 i g s x) := ⟨fun k a b s' e _ _ => g_up_o _ _ _ _ _ _ (fun q => e q.1), fun a b s' e => g_up_o _ _ _ _ _ _ (fun q => e q.2.1)⟩
theorem q_fit {b : Nat} (h : b < 128) : fits .byte (.int (nI b)) = true := by
  have a1 : (-128 : Int32) ≤ nI b := by rw [Int32.le_iff_toInt_le, nI_toInt (by omega)]; have : (-128 : Int32).toInt = -128 := by decide
                                        omega
  have a2 : nI b ≤ 127 := nI_le (b := 127) (by omega) (by decide)
  show (decide (_ ≤ _) && decide (_ ≤ _)) = true
  rw [decide_eq_true a1, decide_eq_true a2]
  rfl
theorem q_len {h : g_Hp} {i g cap : Nat} (hc : cap ≤ 150) (e : h 14 i g 0 = nI (cap + 1)) : g_len h 14 i g = cap := by
  show (h 14 i g 0).toNatClampNeg - 1 = cap
  rw [e, nI_clamp (by omega), Nat.add_sub_cancel]
theorem q_cp_o {h : g_Hp} {i j i' j' m k x y s : Nat} (n : ¬ (k = 14 ∧ x = i' ∧ y = j' ∧ 1 ≤ s)) : g_cpB h i j i' j' 0 0 m k x y s = h k x y s := if_neg n
theorem q_cp_i {h : g_Hp} {i j i' j' m e : Nat} : g_cpB h i j i' j' 0 0 m 14 i' j' (e + 1) = va_cpy (fun e => h 14 i j (e + 1)) (fun e => h 14 i' j' (e + 1)) 0 0 m e := if_pos ⟨rfl, rfl, rfl, by omega⟩
theorem q_nw_o {h : g_Hp} {kk i j : Nat} {hd sl : Int32} {k x y s : Nat} (n1 : ¬ (k = kk ∧ x = i ∧ y = j)) (n2 : k ≠ kk + 40) : g_nw h kk i j hd sl k x y s = h k x y s := by
  unfold g_nw
  rw [if_neg n1, if_neg (fun q => n2 q.1)]
theorem q_ens {h : g_Hp} {i cap cnt m : Nat} {cs : Nat → Nat} {Q : g_R → g_Hp → Prop} (hS : q_SB h i cap cnt cs) (hm : m ≤ cnt + 10) (hm2 : m ≤ 70) (K : ∀ h' cap', q_SB h' i cap' cnt cs → m ≤ cap' → q_X i h h' → Q (.inl none) h') : wJ5_ensureCapacityInternal_d00df i 0 (nI m) h Q := by
  have ⟨g, e4, e2, e1, hg, hc, hcc, h16, e0, hun, hby, hcs⟩ := hS
  have hl : g_len h 14 i g = cap := q_len hc e0
  have jg : (h 6 i 0 1).toNatClampNeg - 1 = g := by rw [e1, nI_clamp (by omega), Nat.add_sub_cancel]
  unfold wJ5_ensureCapacityInternal_d00df
  refine nm_r jg (nm_r (e' := nI cap) (by rw [e2, hl]; exact sb_shr0 _) ⟨fun a => ?_, fun a => ?_⟩)
  · refine K h cap hS ?_ (q_X_rf i h)
    rw [Int32.le_iff_toInt_le, pk_sub_toInt (by omega) (by omega)] at a
    have : (0 : Int32).toInt = 0 := by decide
    omega
  · have hlt : cap < m := by
      rw [Int32.le_iff_toInt_le, pk_sub_toInt (by omega) (by omega)] at a
      have : (0 : Int32).toInt = 0 := by decide
      omega
    refine nm_r jg ?_
    unfold wJ5_newCapacity_0f7a4
    refine nm_r jg (nm_r (e' := nI cap) (by rw [hl]; rfl) (nm_r (e' := nI m) (by rw [e2]; exact sb_shl0 _) (nm_r (e' := nI (m - cap)) (pk_sub (by omega)) ?_)))
    unfold wJ8_newLength_cabcc
    refine q_max (a := m - cap) (b := cap + 2) rfl (by rw [e2, sb_shl0, q_lit 2, nI_add]) (by omega) (by omega) ?_
    rw [Nat.max_eq_right (by omega)]
    refine nm_r (e' := nI (2 * cap + 2)) (by rw [nI_add]; exact congrArg nI (by omega)) (br_f (nI_nle (by omega) (by omega)) (br_f (nI_nlt (a := 2147483639) (by omega) (by decide)) (q_n1 (fun q => by have := (nI_eq (b := 2147483647) (by omega) (by decide)).mp q; omega) ?_)))
    rw [e2, sb_shr0]
    show wJ7_copyOf_9075b i g (nI (2 * cap + 2) <<< (h 6 i 0 2 &&& 31)) h _
    rw [e2, sb_shl0]
    unfold wJ7_copyOf_9075b
    rw [hl, nI_clamp (by omega)]
    refine q_n1 (fun q => by have := (nI_eq (b := cap) (by omega) (by omega)).mp q; omega) ⟨g + 1, hun (g + 1) (by omega), ⟨q_nlt0 (by omega), by omega⟩, ?_⟩
    refine nm_e ?_
    have f0 : ∀ s, g_nw h 14 i (g + 1) (Int32.ofNat (2 * cap + 2 + 1)) 1 14 i g s = h 14 i g s := fun s => by
      unfold g_nw
      rw [if_neg (fun q => by have := q.2.2; omega), if_neg (fun q => by have := q.1; omega)]
    have f1 : g_len (g_nw h 14 i (g + 1) (Int32.ofNat (2 * cap + 2 + 1)) 1) 14 i g = cap := q_len hc ((f0 0).trans e0)
    have f2 : g_len (g_nw h 14 i (g + 1) (Int32.ofNat (2 * cap + 2 + 1)) 1) 14 i (g + 1) = 2 * cap + 2 := q_len (by omega) (g_nw_s0 _ _ _ _ _ _)
    rw [f1]
    refine q_min (a := cap) (b := 2 * cap + 2) rfl rfl (by omega) (by omega) ?_
    rw [Nat.min_eq_left (by omega)]
    show ((¬ (0 : Int32) < 0 ∧ ¬ (0 : Int32) < 0 ∧ ¬ nI cap < 0) ∧ ((0 : Int32).toNatClampNeg + (nI cap).toNatClampNeg ≤ _ ∧ (0 : Int32).toNatClampNeg + (nI cap).toNatClampNeg ≤ _) ∧ _) ∧ _
    rw [f1, f2, nI_clamp (by omega), q_k0]
    refine And.intro ⟨⟨by decide, by decide, q_nlt0 (by omega)⟩, ⟨by omega, by omega⟩, fun e he => ?_⟩ (nm_e ?_)
    · rw [f0]
      obtain ⟨b, hb, eb⟩ := hby e he
      rw [show 0 + e + 1 = e + 1 by omega, eb]
      exact q_fit hb
    · have jn : (Int32.ofNat (g + 1 + 1)).toNatClampNeg = g + 1 + 1 := nI_clamp (n := g + 1 + 1) (by omega)
      refine And.intro rfl (And.intro ⟨?_, rfl, by rw [jn]; rfl⟩ (nm_e ?_))
      · exact nI_ne0 (n := g + 1 + 1) (by omega) (by omega)
      · refine K _ (2 * cap + 2) ⟨g + 1, ?_, ?_, ?_, by omega, by omega, by omega, by omega, ?_, fun g' hg' => ?_, fun e he => ?_, fun e he => ?_⟩ (by omega) ⟨fun k a b s x1 x2 x3 => ?_, fun a b s x => ?_⟩
        · rw [g_up_o _ _ _ _ _ _ (by omega), q_cp_o (by omega), q_nw_o (by omega) (by omega)]
          exact e4
        · rw [g_up_o _ _ _ _ _ _ (by omega), q_cp_o (by omega), q_nw_o (by omega) (by omega)]
          exact e2
        · exact g_up_s _ _ _ _ _ _
        · rw [g_up_o _ _ _ _ _ _ (by omega), q_cp_o (by omega)]
          exact g_nw_s0 _ _ _ _ _ _
        · rw [g_up_o _ _ _ _ _ _ (by omega), q_cp_o (by omega), q_nw_o (by omega) (by omega)]
          exact hun g' (by omega)
        · rw [g_up_o _ _ _ _ _ _ (by omega), q_cp_i]
          by_cases z : e < cap
          · obtain ⟨b, hb, eb⟩ := hby e z
            refine ⟨b, hb, ?_⟩
            rw [sb_cpy0 z, f0, eb]
          · refine ⟨0, by decide, ?_⟩
            unfold va_cpy
            rw [if_neg (by omega)]
            dsimp only
            rw [g_nw_s]
            rfl
        · rw [g_up_o _ _ _ _ _ _ (by omega), q_cp_i, sb_cpy0 (by omega), f0]
          exact hcs e he
        · rw [g_up_o _ _ _ _ _ _ (fun q => x3 ⟨q.1, q.2.1⟩), q_cp_o (fun q => x1 q.1), q_nw_o (fun q => x1 q.1) x2]
        · rw [g_up_o _ _ _ _ _ _ (by omega), q_cp_o (fun q => x q.2.1), q_nw_o (fun q => x q.2.1) (by omega)]
theorem q_lat {h : g_Hp} {i : Nat} {Q : g_R → g_Hp → Prop} (e2 : h 6 i 0 2 = 0) (K : Q (.inl (some (vI 1))) h) : wJ5_isLatin1_aae02 i 0 h Q :=
  br_f (by decide) (q_n0 e2 (And.intro (Or.inr rfl) K))
theorem q_nar {b : Nat} (h : b < 128) : vp_nar .byte (nI b).toInt8.toInt32 = nI b := by
  rw [vp_nar_byte]
  revert b
  decide +kernel
theorem q_nar' {b : Nat} (h : b < 128) : vp_nar .byte (nI b) = nI b := by
  rw [vp_nar_byte]
  revert b
  decide +kernel
theorem q_apc {h : g_Hp} {i cap cnt ch : Nat} {cs : Nat → Nat} {Q : g_R → g_Hp → Prop} (hS : q_SB h i cap cnt cs) (hch : ch < 128) (hcnt : cnt + 1 ≤ 70) (K : ∀ h' cap', q_SB h' i cap' (cnt + 1) (fun e => if e = cnt then ch else cs e) → q_X i h h' → Q (.inl (some (vR 6 i 0))) h') : wJ4_append_cf468 i 0 (nI ch) h Q := by
  have e4 : h 6 i 0 4 = nI cnt := hS.choose_spec.1
  unfold wJ4_append_cf468 wJ5_append_3fe6f
  rw [e4, nI_1]
  refine q_ens hS (by omega) hcnt (fun h1 cap1 hS1 hcap hX => ?_)
  obtain ⟨g, e4, e2, e1, hg, hc, hcc, h16, e0, hun, hby, hcs⟩ := hS1
  refine q_lat e2 (br_f (by decide) ?_)
  refine And.intro (fun q => absurd q (nI_nlt (a := 255) (by omega) (by decide))) (fun _ => And.intro (Or.inr rfl) (br_f (by decide) ?_))
  refine nm_r (e' := g) (by rw [e1, nI_clamp (by omega), Nat.add_sub_cancel]) ?_
  rw [e4, nI_1]
  have ec : ∀ s, g_up h1 6 i 0 4 (nI (cnt + 1)) 14 i g s = h1 14 i g s := fun s => g_up_o _ _ _ _ _ _ (fun q => by cases q.1)
  refine nm_e (And.intro ?_ (nm_e ?_))
  · rw [q_len hc ((ec 0).trans e0)]
    exact q_vI (by omega) (by omega)
  · rw [nI_clamp (by omega), q_nar hch]
    refine And.intro rfl (K _ cap1 ⟨g, ?_, ?_, ?_, hg, hc, hcap, h16, ?_, fun g' hg' => ?_, fun e he => ?_, fun e he => ?_⟩ (q_X_tr hX (q_X_tr (q_X_6 i h1 4 _) (q_X_14 i g _ _ _))))
    · rw [g_up_o _ _ _ _ _ _ (by omega)]
      exact g_up_s _ _ _ _ _ _
    · rw [g_up_o _ _ _ _ _ _ (by omega), g_up_o _ _ _ _ _ _ (by omega)]
      exact e2
    · rw [g_up_o _ _ _ _ _ _ (by omega), g_up_o _ _ _ _ _ _ (by omega)]
      exact e1
    · rw [g_up_o _ _ _ _ _ _ (by omega), ec]
      exact e0
    · rw [g_up_o _ _ _ _ _ _ (by omega), g_up_o _ _ _ _ _ _ (by omega)]
      exact hun g' hg'
    · by_cases z : e = cnt
      · subst z
        rw [g_up_s]
        exact ⟨ch, hch, rfl⟩
      · rw [g_up_o _ _ _ _ _ _ (by omega), ec]
        exact hby e he
    · dsimp only
      by_cases z : e = cnt
      · subst z
        rw [g_up_s, if_pos rfl]
      · rw [g_up_o _ _ _ _ _ _ (by omega), ec, if_neg z]
        exact hcs e (by omega)
theorem q_SB_cs {h : g_Hp} {i cap cnt : Nat} {cs cs' : Nat → Nat} (e : ∀ k, k < cnt → cs' k = cs k) (hS : q_SB h i cap cnt cs) : q_SB h i cap cnt cs' := by
  obtain ⟨g, e4, e2, e1, hg, hc, hcc, h16, e0, hun, hby, hcs⟩ := hS
  exact ⟨g, e4, e2, e1, hg, hc, hcc, h16, e0, hun, hby, fun k hk => by rw [e k hk]; exact hcs k hk⟩
theorem q_sl0 {h : g_Hp} {i cap cnt : Nat} {cs : Nat → Nat} {Q : g_R → g_Hp → Prop} (hS : q_SB h i cap cnt cs) (K : ∀ h' cap', (∀ cs', q_SB h' i cap' 0 cs') → q_X i h h' → Q (.inl none) h') : wJ4_setLength_d00df i 0 (0 : Int32) h Q := by
  unfold wJ4_setLength_d00df wJ5_setLength_d00df
  refine br_t (by decide) (q_ens (m := 0) hS (by omega) (by omega) (fun h1 cap1 hS1 _ hX => ?_))
  have ⟨g, e4, e2, e1, hg, hc, hcc, h16, e0, hun, hby, hcs⟩ := hS1
  have fin : ∀ h2 : g_Hp, q_X i h h2 → h2 6 i 0 2 = 0 → h2 6 i 0 1 = nI (g + 1) → (∀ g' s, h2 14 i g' s = h1 14 i g' s) → Q (.inl none) (g_up h2 6 i 0 4 0) := fun h2 x y2 y1 y14 => by
    refine K _ cap1 (fun cs' => ⟨g, g_up_s _ _ _ _ _ _, by rw [g_up_o _ _ _ _ _ _ (by omega)]; exact y2, by rw [g_up_o _ _ _ _ _ _ (by omega)]; exact y1, hg, hc, by omega, h16, ?_, fun g' hg' => ?_, fun e he => ?_, fun e he => absurd he (Nat.not_lt_zero e)⟩) (q_X_tr x (q_X_6 i h2 4 0))
    · rw [g_up_o _ _ _ _ _ _ (by omega), y14]
      exact e0
    · rw [g_up_o _ _ _ _ _ _ (by omega), y14]
      exact hun g' hg'
    · rw [g_up_o _ _ _ _ _ _ (by omega), y14]
      exact hby e he
  show ((0 ≤ h1 6 i 0 4) → _) ∧ _
  rw [e4]
  refine br_t (nI_pos' (by omega)) ⟨fun _ => nm_e (fin h1 hX e2 e1 (fun _ _ => rfl)), fun _ => nm_e (nm_e (fin _ (q_X_tr hX (q_X_6 i h1 3 1)) ?_ ?_ (fun g' s => ?_)))⟩
  · rw [g_up_o _ _ _ _ _ _ (by omega)]
    exact e2
  · rw [g_up_o _ _ _ _ _ _ (by omega)]
    exact e1
  · rw [g_up_o _ _ _ _ _ _ (by omega)]
theorem q_sle {h : g_Hp} {i cap cnt : Nat} {cs : Nat → Nat} {Q : g_R → g_Hp → Prop} (hS : q_SB h i cap cnt cs) (K : Q (.inl (some (vI (nI cnt)))) h) : wJ4_length_8abf5 i 0 h Q := by
  have e4 : h 6 i 0 4 = nI cnt := hS.choose_spec.1
  unfold wJ4_length_8abf5 wJ5_length_8abf5
  rw [e4]
  exact K
theorem q_chr : ∀ b, b < 128 → ((nI b &&& 255).toUInt32 % 65536).toInt32 = nI b := by decide +kernel
theorem q_cix {k n : Nat} {h : g_Hp} {Q : g_R → g_Hp → Prop} (hk : k < n) (hn : n < 2 ^ 31) (K : Q (.inl none) h) : wJ0_checkIndex_df160 (nI k) (nI n) h Q :=
  And.intro (br_f (q_nlt0 (by omega)) (br_t (nI_lt hk hn) K)) (fun _ => br_f (q_nlt0 (by omega)) (br_t (nI_lt hk hn) K))
theorem q_cAt {h : g_Hp} {i cap cnt k : Nat} {cs : Nat → Nat} {Q : g_R → g_Hp → Prop} (hS : q_SB h i cap cnt cs) (hk : k < cnt) (K : Q (.inl (some (vI (nI (cs k))))) h) : wJ4_charAt_5068e i 0 (nI k) h Q := by
  have ⟨g, e4, e2, e1, hg, hc, hcc, h16, e0, hun, hby, hcs⟩ := hS
  have hl : g_len h 14 i g = cap := q_len hc e0
  unfold wJ4_charAt_5068e wJ5_charAt_5068e
  refine nm_r e2 (nm_r (e' := g) (by rw [e1, nI_clamp (by omega), Nat.add_sub_cancel]) ?_)
  rw [e4, hl, sb_shr0]
  refine q_min (a := cnt) (b := cap) rfl rfl (by omega) (by omega) ?_
  rw [Nat.min_eq_left hcc]
  refine q_cix hk (by omega) (q_n0 rfl (And.intro (by rw [hl]; exact q_vI (by omega) (by omega)) ?_))
  obtain ⟨b, hb, eb⟩ := hby k (by omega)
  have ecs := hcs k hk
  rw [nI_clamp (by omega), eb, q_chr b hb]
  refine And.intro (pk_charN (by omega)).1 (And.intro (pk_charN (by omega)).1 ?_)
  rw [← eb, ecs]
  exact K
