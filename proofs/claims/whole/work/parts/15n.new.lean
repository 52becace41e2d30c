/-! ===== new cells; seals; copies; calls of what is inherited ===== -/
section GNew
variable {Y : g_Y} {G : g_G} {X : g_X} {I J : g_I} {mc ms : Nat} {Q Q' : g_R → g_Hp → Prop} {pc k n : Nat} {ls ls' : List (Nat × g_AV)} {st as : List g_AV} {h : g_Hp} {v w u : g_AV} {ρ : g_Rh} {H : Heap} {locs : List Loc} {la : Array Slot}
variable {kk kr s i j idx N : Nat} {C : String} {T : u_T} {ty : Nat → FieldType}
def g_nw (h : g_Hp) (kk i j : Nat) (hd sl : Int32) : g_Hp := fun k' i' j' s' => if k' = kk ∧ i' = i ∧ j' = j then (if s' = 0 then hd else 0) else if k' = kk + 40 ∧ i' = i ∧ j' = j ∧ s' = 0 then sl else h k' i' j' s'
def g_rn (ρ : g_Rh) (kk i j q : Nat) : g_Rh := fun k' i' j' => if (k' = kk ∨ k' = kk + 40) ∧ i' = i ∧ j' = j then q else ρ k' i' j'
theorem g_nw_s0 (h : g_Hp) (kk i j : Nat) (hd sl : Int32) : g_nw h kk i j hd sl kk i j 0 = hd := by unfold g_nw; rw [if_pos ⟨rfl, rfl, rfl⟩, if_pos rfl]
theorem g_nw_s (h : g_Hp) (kk i j : Nat) (hd sl : Int32) (s : Nat) : g_nw h kk i j hd sl kk i j (s + 1) = 0 := by unfold g_nw; rw [if_pos ⟨rfl, rfl, rfl⟩, if_neg (by omega)]
theorem g_nw_l (h : g_Hp) (kk i j : Nat) (hd sl : Int32) : g_nw h kk i j hd sl (kk + 40) i j 0 = sl := by unfold g_nw; rw [if_neg (fun z => by have := z.1; omega), if_pos ⟨rfl, rfl, rfl, rfl⟩]
theorem g_nw_o {h : g_Hp} {kk i j : Nat} {hd sl : Int32} {k' i' j' : Nat} (hk : k' < 20) (n : ¬ (k' = kk ∧ i' = i ∧ j' = j)) (s : Nat) : g_nw h kk i j hd sl k' i' j' s = h k' i' j' s := by
  unfold g_nw
  rw [if_neg n, if_neg (fun z => by have := z.1; omega)]
theorem g_nw_ol {h : g_Hp} {kk i j : Nat} {hd sl : Int32} {k' i' j' : Nat} (hkk : kk < 20) (n : ¬ (k' = kk ∧ i' = i ∧ j' = j)) : g_nw h kk i j hd sl (k' + 40) i' j' 0 = h (k' + 40) i' j' 0 := by
  unfold g_nw
  rw [if_neg (fun z => by have := z.1; omega), if_neg (fun z => n ⟨by have := z.1; omega, z.2.1, z.2.2.1⟩)]
theorem g_ne_of_live {kk i j k' i' j' : Nat} (hf : h kk i j 0 = 0) (hl : h k' i' j' 0 ≠ 0) : ¬ (k' = kk ∧ i' = i ∧ j' = j) := by
  rintro ⟨rfl, rfl, rfl⟩
  exact hl hf
theorem g_ext_nw (hkk : kk < 20) (hf : h kk i j 0 = 0) (hd sl : Int32) (q : Nat) : g_ext h ρ (g_nw h kk i j hd sl) (g_rn ρ kk i j q) := fun k' i' j' hk hl => by
  have n := g_ne_of_live hf hl
  rw [g_nw_o hk n, g_nw_ol hkk n]
  refine ⟨hl, ?_, fun z => z⟩
  unfold g_rn
  rw [if_neg (fun z => n ⟨by rcases z.1 with e | e <;> omega, z.2⟩)]
theorem g_rn_L {q : Nat} (hkk : kk < 20) (hf : h kk i j 0 = 0) {a : g_Ad} (ha : g_okL h a) : g_rn ρ kk i j q a.1 a.2.1 a.2.2 = ρ a.1 a.2.1 a.2.2 := by
  unfold g_rn
  rcases ha with ⟨z1, z2⟩ | z
  · have n := g_ne_of_live hf z2
    rw [if_neg (fun z => n ⟨by rcases z.1 with e | e <;> omega, z.2⟩)]
  · rw [if_neg (fun z => by rcases z.1 with e | e <;> omega)]
/-- the cells that were there stay what they were -/
theorem g_en_nw {aC : Nat → ClassId} {q : Nat} {hd sl : Int32} (hs : g_seal h) (hkk : kk < 20) (hf : h kk i j 0 = 0) {b : g_Ad} (hb : g_lv h b) : g_en aC (g_rn ρ kk i j q) (g_nw h kk i j hd sl) b = g_en aC ρ h b := by
  obtain ⟨k', i', j'⟩ := b
  obtain ⟨hk, hl⟩ := hb
  have n := g_ne_of_live hf hl
  have eh : ∀ s, g_nw h kk i j hd sl k' i' j' s = h k' i' j' s := g_nw_o hk n
  have el : g_len (g_nw h kk i j hd sl) k' i' j' = g_len h k' i' j' := by
    unfold g_len
    split <;> first | rfl | (rw [eh])
  obtain ⟨-, b2, b3⟩ := hs k' i' j' hk
  have er : g_rn ρ kk i j q k' i' j' = ρ k' i' j' := g_rn_L (a := (k', i', j')) hkk hf (Or.inl ⟨hk, hl⟩)
  unfold g_en
  dsimp only
  rw [er, el]
  by_cases h10 : k' < 10
  · rw [if_pos h10, if_pos h10]
    have ef : g_fs (g_rn ρ kk i j q) (g_nw h kk i j hd sl) (k', i', j') = g_fs ρ h (k', i', j') := by
      unfold g_fs
      refine List.map_congr_left fun s hs' => ?_
      dsimp only
      rw [eh]
      unfold g_fv
      cases hr : g_rt k' s i' (h k' i' j' (s + 1)) with
      | none => rfl
      | some a =>
        dsimp only
        by_cases hx : h k' i' j' (s + 1) = 0
        · rw [if_pos hx]; rfl
        · rw [if_neg hx]
          exact congrArg Value.ref (g_rn_L hkk hf ((b2 h10 s a (List.mem_range.mp hs') hr).1 hl hx))
    rw [ef]
  · rw [if_neg h10, if_neg h10]
    by_cases h13 : k' < 13
    · have h3 := b3 (by omega) h13
      have eg : g_ar (g_rn ρ kk i j q) (g_nw h kk i j hd sl) k' i' j' = g_ar ρ h k' i' j' := by
        rw [g_ar_q h13, g_ar_q h13]
        have ef : (fun e => if g_nw h kk i j hd sl k' i' j' (e + 1) = 0 ∨ g_len (g_nw h kk i j hd sl) k' i' j' ≤ e then none else some (g_rn ρ kk i j q (g_et k' i' e).1 (g_et k' i' e).2.1 (g_et k' i' e).2.2)) = (fun e => if h k' i' j' (e + 1) = 0 ∨ g_len h k' i' j' ≤ e then none else some (ρ (g_et k' i' e).1 (g_et k' i' e).2.1 (g_et k' i' e).2.2)) := by
          funext e
          rw [eh, el]
          by_cases hx : h k' i' j' (e + 1) = 0 ∨ g_len h k' i' j' ≤ e
          · rw [if_pos hx, if_pos hx]
          · rw [if_neg hx, if_neg hx, g_rn_L hkk hf ((h3 e (Nat.not_le.mp fun z => hx (Or.inr z))).1 hl (fun z => hx (Or.inl z)))]
        rw [ef]
      rw [eg]
    · have eg : g_ar (g_rn ρ kk i j q) (g_nw h kk i j hd sl) k' i' j' = g_ar ρ h k' i' j' := by
        unfold g_ar
        rw [if_neg h13, if_neg h13]
        simp only [eh]
      rw [eg]
/-- a new cell beside what was there -/
theorem g_HR_nw {q : Nat} {hd sl : Int32} {H1 : Heap} {e : va_E} (hkk : kk < 20) (hf : h kk i j 0 = 0) (hd0 : hd ≠ 0) {L : List g_Ad} (p1 : L.Nodup) (p2 : ∀ a, a ∈ L ↔ g_lv h a) (p5 : g_seal h) (p6 : ∀ k i j, 20 ≤ k → k < 40 → ρ k i j = G.2.2.1 k i) (p7 : ∀ k i j, k < 20 → ρ (k + 40) i j = ρ k i j)
    (he : (q, e) = g_en G.2.1 (g_rn ρ kk i j q) (g_nw h kk i j hd sl) (kk, i, j)) (hse : g_seal (g_nw h kk i j hd sl)) (hP : va_P G.1 vwCl (L.map (g_en G.2.1 ρ h) ++ [(q, e)]) H1) (hD : va_D G.2.2.2 (L.map (g_en G.2.1 ρ h) ++ [(q, e)])) : g_HR G (g_rn ρ kk i j q) (g_nw h kk i j hd sl) H1 := by
  have em : L.map (g_en G.2.1 ρ h) ++ [(q, e)] = (L ++ [(kk, i, j)]).map (g_en G.2.1 (g_rn ρ kk i j q) (g_nw h kk i j hd sl)) := by
    rw [List.map_append, he]
    congr 1
    exact List.map_congr_left fun b hb => (g_en_nw p5 hkk hf ((p2 b).mp hb)).symm
  rw [em] at hP hD
  refine ⟨L ++ [(kk, i, j)], ?_, fun a => ?_, hP, hD, hse, fun k' i' j' h1 h2 => ?_, fun k' i' j' h1 => ?_⟩
  · refine List.nodup_append.mpr ⟨p1, List.nodup_cons.mpr ⟨List.not_mem_nil, List.nodup_nil⟩, fun a ha b hb => ?_⟩
    rw [List.mem_singleton] at hb
    subst hb
    rintro rfl
    exact ((p2 _).mp ha).2 hf
  · rw [List.mem_append, List.mem_singleton, p2]
    constructor
    · rintro (z | rfl)
      · exact ⟨z.1, (g_ext_nw (ρ := ρ) hkk hf hd sl q _ _ _ z.1 z.2).1⟩
      · exact ⟨hkk, by show g_nw h kk i j hd sl kk i j 0 ≠ 0; rw [g_nw_s0]; exact hd0⟩
    · rintro ⟨z1, z2⟩
      by_cases ha : a = (kk, i, j)
      · exact Or.inr ha
      · have n : ¬ (a.1 = kk ∧ a.2.1 = i ∧ a.2.2 = j) := fun z => ha (by obtain ⟨a1, a2, a3⟩ := a; obtain ⟨rfl, rfl, rfl⟩ := z; rfl)
        rw [g_nw_o z1 n] at z2
        exact Or.inl ⟨z1, z2⟩
  · unfold g_rn
    rw [if_neg (fun z => by rcases z.1 with e | e <;> omega)]
    exact p6 _ _ _ h1 h2
  · unfold g_rn
    by_cases z : k' = kk ∧ i' = i ∧ j' = j
    · obtain ⟨rfl, rfl, rfl⟩ := z
      rw [if_pos ⟨Or.inr rfl, rfl, rfl⟩, if_pos ⟨Or.inl rfl, rfl, rfl⟩]
    · rw [if_neg (fun y => z ⟨by rcases y.1 with e | e <;> omega, y.2⟩), if_neg (fun y => z ⟨by rcases y.1 with e | e <;> omega, y.2⟩)]
      exact p7 _ _ _ h1
/-- what is new is not sealed, or holds no references -/
theorem g_seal_nw {hd sl : Int32} (hs : g_seal h) (hkk : kk < 20) (hf : h kk i j 0 = 0) (hd0 : hd ≠ 0) (hsl : sl = 0 ∨ 13 ≤ kk) : g_seal (g_nw h kk i j hd sl) := by
  have mo : ∀ k i2 j2, k < 20 → h k i2 j2 0 ≠ 0 → g_nw h kk i j hd sl k i2 j2 0 ≠ 0 := fun k i2 j2 h1 h2 => (g_ext_nw (ρ := fun _ _ _ => 0) hkk hf hd sl 0 k i2 j2 h1 h2).1
  intro k' i' j' hk'
  by_cases z : k' = kk ∧ i' = i ∧ j' = j
  · obtain ⟨rfl, rfl, rfl⟩ := z
    rw [g_nw_l, g_nw_s0]
    refine ⟨fun _ => hd0, fun h10 s a h1 h2 => ?_, fun h10 h13 e he => ?_⟩
    · rw [g_nw_s]
      exact ⟨fun _ z => absurd rfl z, fun z => (hsl.elim (fun y => absurd y z) (fun y => by omega))⟩
    · rw [g_nw_s]
      exact ⟨fun _ z => absurd rfl z, fun z => (hsl.elim (fun y => absurd y z) (fun y => by omega))⟩
  · obtain ⟨b1, b2, b3⟩ := hs k' i' j' hk'
    rw [g_nw_ol hkk z]
    have eh : ∀ s, g_nw h kk i j hd sl k' i' j' s = h k' i' j' s := g_nw_o hk' z
    have el : g_len (g_nw h kk i j hd sl) k' i' j' = g_len h k' i' j' := by
      unfold g_len
      split <;> first | rfl | (rw [eh])
    rw [eh, el]
    refine ⟨b1, fun h10 s a h1 h2 => ?_, fun h10 h13 e he => ?_⟩
    · rw [eh] at h2 ⊢
      obtain ⟨c1, c2⟩ := b2 h10 s a h1 h2
      exact ⟨fun y x => g_okL_mono mo (c1 y x), fun y => ⟨(c2 y).1, g_okA_mono (g_ext_nw (ρ := fun _ _ _ => 0) hkk hf hd sl 0) (c2 y).2⟩⟩
    · rw [eh]
      obtain ⟨c1, c2⟩ := b3 h10 h13 e he
      exact ⟨fun y x => g_okL_mono mo (c1 y x), fun y => ⟨(c2 y).1, g_okA_mono (g_ext_nw (ρ := fun _ _ _ => 0) hkk hf hd sl 0) (c2 y).2⟩⟩
theorem g_P_nw {q : Nat} {hd sl : Int32} {H1 : Heap} {v : g_AV} (w : g_P G X I ls st h ρ H locs la) (hkk : kk < 20) (hf : h kk i j 0 = 0) (hR : g_HR G (g_rn ρ kk i j q) (g_nw h kk i j hd sl) H1) (hv : g_ok (g_nw h kk i j hd sl) v) (hS : match X with | (_, _, _, _, s0, _, _, _, _, _, _, _) => va_S G.2.2.2 s0.heap H1 locs) : g_P G X I ls (v :: st) (g_nw h kk i j hd sl) (g_rn ρ kk i j q) H1 locs la ∧ st.map (g_cv (g_rn ρ kk i j q)) = st.map (g_cv ρ) := by
  obtain ⟨p, l, e, R, s0, m, args, below, meth, c, h0, ρ0⟩ := X
  obtain ⟨w1, w2, w3, w4, w5, w6⟩ := w
  have hx := g_ext_nw (ρ := ρ) (q := q) hkk hf hd sl
  refine ⟨⟨hR, hS, ?_, fun q hq => g_ok_mono hx (w4 q hq), fun u hu => (List.mem_cons.mp hu).elim (fun e => e ▸ hv) (fun z => g_ok_mono hx (w5 u z)), g_ext_tr w6 hx⟩, List.map_congr_left fun q hq => g_cv_eq hx w1 hR (w5 q hq)⟩
  have e9 : ls.map (g_lc (g_rn ρ kk i j q)) = ls.map (g_lc ρ) := List.map_congr_left fun z hz => by
    show (z.1, g_cv (g_rn ρ kk i j q) z.2) = (z.1, g_cv ρ z.2)
    rw [g_cv_eq hx w1 hR (w4 z hz)]
  rw [e9]; exact w3
theorem g_rn_s (ρ : g_Rh) (kk i j q : Nat) : g_rn ρ kk i j q kk i j = q := by unfold g_rn; rw [if_pos ⟨Or.inl rfl, rfl, rfl⟩]
theorem g_rn_l (ρ : g_Rh) (kk i j q : Nat) : g_rn ρ kk i j q (kk + 40) i j = q := by unfold g_rn; rw [if_pos ⟨Or.inr rfl, rfl, rfl⟩]
/-- a new object, not sealed -/
theorem s_new (CK : g_CK kk C T N ty) (DK : ∀ s, s < g_nf kk → ∀ ρ : g_Rh, defaultValue (ty s) = g_cv ρ (g_fv kk s i 0)) (hw : Cond.classLink I.1 idx C ∈ g_WL ∧ Cond.instantiable C N ∈ g_WL ∧ Cond.initialized C ∈ g_WL) (hf : h kk i j 0 = 0) (hro : k + 1 ≤ (g_rm I).cells ∧ n + N ≤ (g_rm I).slots) (C0 : g_Cx Y G X I) (d : decode I.2.2.1 pc = .ok (.new idx, 3)) (K : g_V G X I mc ms Q (pc + 3) (k + 1) (n + N) ls (vR (kk + 40) i j :: st) (g_nw h kk i j 1 0)) : g_V G X I mc ms Q pc k n ls st h := by
  obtain ⟨p, l, e, R, s0, m, args, below, meth, c, h0, ρ0⟩ := X
  obtain ⟨k1, k2, k3, k4, k5, k6⟩ := CK
  intro ρ H locs la w
  have hR0 : R = g_rm I := C0.2.2.2.2.2.2.2.2.2.2.2.2
  obtain ⟨L, p1, p2, p3, p4, p5, p6, p7⟩ := id w.1
  have hse : g_seal (g_nw h kk i j 1 0) := g_seal_nw p5 (by omega) hf (by decide) (Or.inl rfl)
  refine va_new (D := G.1) (cl := vwCl) (tys := g_tys G) (Ts := g_WL) (fs := g_fs ρ (g_nw h kk i j 1 0) (kk, i, j)) C0.1 C0.2.1 (g_Cx_ts C0) k4 ty k5 (g_Cx_own C0) (g_Cx_ts C0 _ hw.1) (g_Cx_ts C0 _ hw.2.1) (g_Cx_ts C0 _ hw.2.2) (g_Cx_K C0) p3 p4 w.2.1 C0.2.2.2.2.2.2.2.2.2.2.2.1 k2 (fun s hs => ?_) (by rw [hR0]; exact hro.1) (by rw [hR0]; exact hro.2) d (fun q H1 hP hD hS => ?_)
  · unfold vp_V
    rw [List.getD_eq_getElem?_getD, g_fs_get _ _ (kk, i, j) (by show s < g_nf kk; omega)]
    dsimp only
    rw [g_nw_s]
    exact DK s (by omega) ρ
  · have hR : g_HR G (g_rn ρ kk i j q) (g_nw h kk i j 1 0) H1 := by
      refine g_HR_nw (by omega) hf (by decide) p1 p2 p5 p6 p7 ?_ hse hP hD
      unfold g_en
      rw [if_pos k1]
      dsimp only
      rw [g_rn_s]
      have ef : g_fs ρ (g_nw h kk i j 1 0) (kk, i, j) = g_fs (g_rn ρ kk i j q) (g_nw h kk i j 1 0) (kk, i, j) := by
        unfold g_fs
        refine List.map_congr_left fun s hs => ?_
        dsimp only
        rw [g_nw_s, ← DK s (List.mem_range.mp hs) ρ, ← DK s (List.mem_range.mp hs) (g_rn ρ kk i j q)]
      rw [ef]
    obtain ⟨w', em⟩ := g_P_nw (v := vR (kk + 40) i j) w (by omega) hf hR (Or.inr (Or.inr ⟨by show 40 ≤ kk + 40; omega, by show kk + 40 < 60; omega, by
      show g_nw h kk i j 1 0 (kk + 40 - 40) i j 0 ≠ 0
      rw [Nat.add_sub_cancel, g_nw_s0]; decide⟩)) hS
    have K' := K (g_rn ρ kk i j q) H1 locs la w'
    rw [List.map_cons, em] at K'
    rw [show g_cv (g_rn ρ kk i j q) (vR (kk + 40) i j) = .ref q from congrArg Value.ref (g_rn_l ρ kk i j q)] at K'
    exact K'
/-- it is sealed: all its references are set -/
theorem s_seal (hkk : kk < 20) (hl : h kk i j 0 ≠ 0) (h1 : kk < 10 → ∀ (s : Nat) (a : g_Ad), s < g_nf kk → g_rt kk s i (h kk i j (s + 1)) = some a → h kk i j (s + 1) ≠ 0 ∧ g_okA h a.1 a.2.1 a.2.2) (h2 : 10 ≤ kk → kk < 13 → ∀ e : Nat, e < g_len h kk i j → h kk i j (e + 1) ≠ 0 ∧ g_okA h (g_et kk i e).1 (g_et kk i e).2.1 (g_et kk i e).2.2) (K : g_V G X I mc ms Q pc k n ls st (g_up h (kk + 40) i j 0 1)) : g_V G X I mc ms Q pc k n ls st h := by
  obtain ⟨p, l, e, R, s0, m, args, below, meth, c, h0, ρ0⟩ := X
  intro ρ H locs la w
  have eo : ∀ k' i' j' s', k' < 20 → g_up h (kk + 40) i j 0 1 k' i' j' s' = h k' i' j' s' := fun k' i' j' s' hk => g_up_o h (kk + 40) i j 0 1 (fun z => by have := z.1; omega)
  have hx : g_ext h ρ (g_up h (kk + 40) i j 0 1) ρ := fun k' i' j' hk hl' => by
    rw [eo k' i' j' 0 hk]
    refine ⟨hl', rfl, fun z => ?_⟩
    unfold g_up
    split
    · decide
    · exact z
  have el : ∀ k' i' j', g_len (g_up h (kk + 40) i j 0 1) k' i' j' = g_len h k' i' j' := fun k' i' j' => by
    unfold g_len
    split <;> first | rfl | (rw [eo _ _ _ _ (by decide)])
  obtain ⟨L, p1, p2, p3, p4, p5, p6, p7⟩ := id w.1
  have een : ∀ b, g_lv h b → g_en G.2.1 ρ (g_up h (kk + 40) i j 0 1) b = g_en G.2.1 ρ h b := fun b hb => by
    unfold g_en g_fs g_ar
    simp only [el, eo _ _ _ _ hb.1]
  have em : L.map (g_en G.2.1 ρ (g_up h (kk + 40) i j 0 1)) = L.map (g_en G.2.1 ρ h) := List.map_congr_left fun b hb => een b ((p2 b).mp hb)
  have hse : g_seal (g_up h (kk + 40) i j 0 1) := by
    intro k' i' j' hk'
    obtain ⟨b1, b2, b3⟩ := p5 k' i' j' hk'
    rw [el, eo k' i' j' 0 hk']
    have mo : ∀ a : g_Ad, g_okL h a → g_okL (g_up h (kk + 40) i j 0 1) a := fun a => g_okL_mono (fun k i j z1 z2 => by rw [eo k i j 0 z1]; exact z2)
    by_cases hz : k' = kk ∧ i' = i ∧ j' = j
    · obtain ⟨rfl, rfl, rfl⟩ := hz
      refine ⟨fun _ => hl, fun h10 s a z1 z2 => ?_, fun h10 h13 e z1 => ?_⟩
      · rw [eo k' i' j' _ hk'] at z2 ⊢
        exact ⟨fun y x => mo a ((b2 h10 s a z1 z2).1 y x), fun _ => ⟨(h1 h10 s a z1 z2).1, g_okA_mono hx (h1 h10 s a z1 z2).2⟩⟩
      · rw [eo k' i' j' _ hk']
        exact ⟨fun y x => mo _ ((b3 h10 h13 e z1).1 y x), fun _ => ⟨(h2 h10 h13 e z1).1, g_okA_mono hx (h2 h10 h13 e z1).2⟩⟩
    · have es : g_up h (kk + 40) i j 0 1 (k' + 40) i' j' 0 = h (k' + 40) i' j' 0 := g_up_o _ _ _ _ _ _ (fun z => hz ⟨by have := z.1; omega, z.2.1, z.2.2.1⟩)
      rw [es]
      refine ⟨b1, fun h10 s a z1 z2 => ?_, fun h10 h13 e z1 => ?_⟩
      · rw [eo k' i' j' _ hk'] at z2 ⊢
        exact ⟨fun y x => mo a ((b2 h10 s a z1 z2).1 y x), fun y => ⟨((b2 h10 s a z1 z2).2 y).1, g_okA_mono hx ((b2 h10 s a z1 z2).2 y).2⟩⟩
      · rw [eo k' i' j' _ hk']
        exact ⟨fun y x => mo _ ((b3 h10 h13 e z1).1 y x), fun y => ⟨((b3 h10 h13 e z1).2 y).1, g_okA_mono hx ((b3 h10 h13 e z1).2 y).2⟩⟩
  have hlv : ∀ a : g_Ad, g_lv h a ↔ g_lv (g_up h (kk + 40) i j 0 1) a := fun a => by
    unfold g_lv
    constructor
    · intro z
      rw [eo _ _ _ 0 z.1]; exact z
    · intro z
      have z2 := z.2
      rw [eo _ _ _ 0 z.1] at z2
      exact ⟨z.1, z2⟩
  have hR : g_HR G ρ (g_up h (kk + 40) i j 0 1) H := by
    refine ⟨L, p1, fun a => (p2 a).trans (hlv a), ?_, ?_, hse, p6, p7⟩
    · rw [em]; exact p3
    · rw [em]; exact p4
  obtain ⟨w1, w2, w3, w4, w5, w6⟩ := w
  exact K ρ H locs la ⟨hR, w2, w3, fun q hq => g_ok_mono hx (w4 q hq), fun q hq => g_ok_mono hx (w5 q hq), g_ext_tr w6 hx⟩
/-- what is sealed may be spoken of as such: on the stack -/
theorem s_unraw (hkk : kk < 20) (hs : h (kk + 40) i j 0 ≠ 0) (K : g_V G X I mc ms Q pc k n ls (vR kk i j :: st) h) : g_V G X I mc ms Q pc k n ls (vR (kk + 40) i j :: st) h := by
  obtain ⟨p, l, e, R, s0, m, args, below, meth, c, h0, ρ0⟩ := X
  intro ρ H locs la w
  obtain ⟨hl, er⟩ := g_live (Or.inr rfl) hkk w.1 (g_P_top w)
  have K' := K ρ H locs la (g_P_push (v := vR kk i j) (Or.inl ⟨hkk, hl, hs⟩) (g_P_pop w))
  rw [List.map_cons, show g_cv ρ (vR (kk + 40) i j) = g_cv ρ (vR kk i j) from congrArg Value.ref er]
  exact K'
end GNew
