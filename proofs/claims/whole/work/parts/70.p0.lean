/-! ===== the pure part: what is behind the predicates. views of the heap ===== -/
abbrev q_C : Type := (Nat → Int32) × (Nat → Nat → Int32)
/-- a member's slot written -/
def q_u2 (g : Nat → Nat → Int32) (j s : Nat) (x : Int32) : Nat → Nat → Int32 := fun j' s' => if j' = j ∧ s' = s then x else g j' s'
/-- the books of row b in place -/
def q_cH (h : g_Hp) (b : Nat) (c : q_C) : g_Hp := fun k i j s => if k = 1 ∧ i = b ∧ j = 0 then c.1 s else if k = 2 ∧ i = b then c.2 j s else h k i j s
/-- the model's row i0 in place -/
def q_mH (h : g_Hp) (i0 : Nat) (w : Nat → Int32) : g_Hp := fun k i j s => if k = 13 ∧ i = i0 ∧ j = 0 ∧ s ≠ 0 then w (s - 1) else h k i j s
def q_cv (h : g_Hp) (b : Nat) : q_C := (fun s => h 1 b 0 s, fun j s => h 2 b j s)
def q_mv (h : g_Hp) (i : Nat) : Nat → Int32 := fun e => h 13 i 0 (e + 1)
theorem q_up_ext {h : g_Hp} {k i j s : Nat} {x : Int32} (k' i' j' s' : Nat) : g_up h k i j s x k' i' j' s' = if k' = k ∧ i' = i ∧ j' = j ∧ s' = s then x else h k' i' j' s' := rfl
theorem q_c1 (h : g_Hp) (b : Nat) (c : q_C) (s : Nat) : q_cH h b c 1 b 0 s = c.1 s := if_pos ⟨rfl, rfl, rfl⟩
theorem q_c2 (h : g_Hp) (b : Nat) (c : q_C) (j s : Nat) : q_cH h b c 2 b j s = c.2 j s := by
  unfold q_cH
  rw [if_neg (fun q => by cases q.1), if_pos ⟨rfl, rfl⟩]
theorem q_co (h : g_Hp) (b : Nat) (c : q_C) {k i j s : Nat} (hk : k ≠ 1 ∧ k ≠ 2) : q_cH h b c k i j s = h k i j s := by
  unfold q_cH
  rw [if_neg (fun q => hk.1 q.1), if_neg (fun q => hk.2 q.1)]
theorem q_cb (h : g_Hp) (b : Nat) (c : q_C) {k i j s : Nat} (hi : i ≠ b) : q_cH h b c k i j s = h k i j s := by
  unfold q_cH
  rw [if_neg (fun q => hi q.2.1), if_neg (fun q => hi q.2)]
theorem q_cu1 (h : g_Hp) (b : Nat) (c : q_C) (s : Nat) (x : Int32) : g_up (q_cH h b c) 1 b 0 s x = q_cH h b (upd c.1 s x, c.2) := by
  funext k i j s'
  unfold g_up q_cH upd
  by_cases h1 : k = 1 ∧ i = b ∧ j = 0
  · obtain ⟨rfl, rfl, rfl⟩ := h1
    by_cases h2 : s' = s
    · subst h2
      rw [if_pos ⟨rfl, rfl, rfl, rfl⟩, if_pos ⟨rfl, rfl, rfl⟩]
      exact (if_pos rfl).symm
    · rw [if_neg (fun q => h2 q.2.2.2), if_pos ⟨rfl, rfl, rfl⟩, if_pos ⟨rfl, rfl, rfl⟩]
      exact (if_neg h2).symm
  · rw [if_neg (fun q => h1 ⟨q.1, q.2.1, q.2.2.1⟩), if_neg h1, if_neg h1]
theorem q_cu2 (h : g_Hp) (b : Nat) (c : q_C) (j0 s : Nat) (x : Int32) : g_up (q_cH h b c) 2 b j0 s x = q_cH h b (c.1, q_u2 c.2 j0 s x) := by
  funext k i j s'
  unfold g_up q_cH q_u2
  dsimp only
  by_cases h0 : k = 1 ∧ i = b ∧ j = 0
  · rw [if_neg (fun q => by have := q.1; have := h0.1; omega), if_pos h0, if_pos h0]
  · rw [if_neg h0, if_neg h0]
    by_cases h1 : k = 2 ∧ i = b
    · rw [if_pos h1, if_pos h1]
      by_cases h2 : j = j0 ∧ s' = s
      · rw [if_pos ⟨h1.1, h1.2, h2.1, h2.2⟩, if_pos h2]
      · rw [if_neg (fun q => h2 ⟨q.2.2.1, q.2.2.2⟩), if_neg h2]
    · rw [if_neg (fun q => h1 ⟨q.1, q.2.1⟩), if_neg h1, if_neg h1]
theorem q_cE (h : g_Hp) (b : Nat) : q_cH h b (q_cv h b) = h := by
  funext k i j s
  unfold q_cH q_cv
  split
  · next q => obtain ⟨rfl, rfl, rfl⟩ := q; rfl
  · split
    · next q => obtain ⟨rfl, rfl⟩ := q; rfl
    · rfl
theorem q_cC (h : g_Hp) (b : Nat) (c c' : q_C) : q_cH (q_cH h b c) b c' = q_cH h b c' := by
  funext k i j s
  unfold q_cH
  split
  · rfl
  · split <;> rfl
theorem q_m1 (h : g_Hp) (i : Nat) (w : Nat → Int32) (e : Nat) : q_mH h i w 13 i 0 (e + 1) = w e := by
  unfold q_mH
  rw [if_pos ⟨rfl, rfl, rfl, Nat.succ_ne_zero e⟩]
  rfl
theorem q_mo (h : g_Hp) (i0 : Nat) (w : Nat → Int32) {k i j s : Nat} (hk : k ≠ 13) : q_mH h i0 w k i j s = h k i j s := by
  unfold q_mH
  rw [if_neg (fun q => hk q.1)]
theorem q_mi (h : g_Hp) (i0 : Nat) (w : Nat → Int32) {k i j s : Nat} (hi : i ≠ i0) : q_mH h i0 w k i j s = h k i j s := by
  unfold q_mH
  rw [if_neg (fun q => hi q.2.1)]
theorem q_mu (h : g_Hp) (i : Nat) (w : Nat → Int32) (e : Nat) (x : Int32) : g_up (q_mH h i w) 13 i 0 (e + 1) x = q_mH h i (upd w e x) := by
  funext k i' j s
  unfold g_up q_mH upd
  by_cases h1 : k = 13 ∧ i' = i ∧ j = 0 ∧ s ≠ 0
  · rw [if_pos h1, if_pos h1]
    by_cases h2 : s = e + 1
    · subst h2
      rw [if_pos ⟨h1.1, h1.2.1, h1.2.2.1, rfl⟩]
      exact (if_pos (Nat.add_sub_cancel e 1)).symm
    · rw [if_neg (fun q => h2 q.2.2.2)]
      exact (if_neg (fun q => h2 (by have := h1.2.2.2; omega))).symm
  · rw [if_neg (fun q => h1 ⟨q.1, q.2.1, q.2.2.1, by have := q.2.2.2; omega⟩), if_neg h1, if_neg h1]
theorem q_mE (h : g_Hp) (i : Nat) : q_mH h i (q_mv h i) = h := by
  funext k i' j s
  unfold q_mH q_mv
  split
  · next q =>
    obtain ⟨rfl, rfl, rfl, q4⟩ := q
    show h 13 i' 0 (s - 1 + 1) = _
    rw [show s - 1 + 1 = s by omega]
  · rfl
theorem q_mM (h : g_Hp) (i : Nat) (w w' : Nat → Int32) : q_mH (q_mH h i w) i w' = q_mH h i w' := by
  funext k i' j s
  unfold q_mH
  split <;> rfl
/-- what is written elsewhere goes by -/
theorem q_mU {h : g_Hp} {i0 : Nat} {w : Nat → Int32} {k i j s : Nat} {x : Int32} (hk : k ≠ 13) : g_up (q_mH h i0 w) k i j s x = q_mH (g_up h k i j s x) i0 w := by
  funext k' i' j' s'
  unfold g_up q_mH
  dsimp only
  by_cases h1 : k' = k ∧ i' = i ∧ j' = j ∧ s' = s
  · rw [if_pos h1, if_neg (fun q => hk (h1.1.symm.trans q.1)), if_pos h1]
  · rw [if_neg h1, if_neg h1]
theorem q_cU {h : g_Hp} {b : Nat} {c : q_C} {k i j s : Nat} {x : Int32} (hk : k ≠ 1 ∧ k ≠ 2) : g_up (q_cH h b c) k i j s x = q_cH (g_up h k i j s x) b c := by
  funext k' i' j' s'
  unfold g_up q_cH
  dsimp only
  by_cases h1 : k' = k ∧ i' = i ∧ j' = j ∧ s' = s
  · rw [if_pos h1, if_neg (fun q => hk.1 (h1.1.symm.trans q.1)), if_neg (fun q => hk.2 (h1.1.symm.trans q.1)), if_pos h1]
  · rw [if_neg h1, if_neg h1]
theorem q_mcU {h : g_Hp} {i0 : Nat} {w : Nat → Int32} {b : Nat} {c : q_C} : q_cH (q_mH h i0 w) b c = q_mH (q_cH h b c) i0 w := by
  funext k i j s
  unfold q_cH q_mH
  dsimp only
  by_cases h1 : k = 1 ∧ i = b ∧ j = 0
  · rw [if_pos h1, if_neg (fun q => by have := q.1; have := h1.1; omega), if_pos h1]
  · rw [if_neg h1]
    by_cases h2 : k = 2 ∧ i = b
    · rw [if_pos h2, if_neg (fun q => by have := q.1; have := h2.1; omega), if_neg h1, if_pos h2]
    · rw [if_neg h2, if_neg h1, if_neg h2]
/-! numbers -/
theorem q_lit (n : Nat) : (OfNat.ofNat n : Int32) = nI n := rfl
theorem q_k0 : (0 : Int32).toNatClampNeg = 0 := by decide
theorem q_k1 : (1 : Int32).toNatClampNeg = 1 := by decide
theorem q_k2 : (2 : Int32).toNatClampNeg = 2 := by decide
theorem q_k3 : (3 : Int32).toNatClampNeg = 3 := by decide
theorem q_k4 : (4 : Int32).toNatClampNeg = 4 := by decide
theorem q_k5 : (5 : Int32).toNatClampNeg = 5 := by decide
theorem q_k6 : (6 : Int32).toNatClampNeg = 6 := by decide
theorem q_k7 : (7 : Int32).toNatClampNeg = 7 := by decide
theorem q_k8 : (8 : Int32).toNatClampNeg = 8 := by decide
theorem q_k9 : (9 : Int32).toNatClampNeg = 9 := by decide
theorem q_k10 : (10 : Int32).toNatClampNeg = 10 := by decide
theorem q_k11 : (11 : Int32).toNatClampNeg = 11 := by decide
theorem q_k12 : (12 : Int32).toNatClampNeg = 12 := by decide
theorem q_i11 {m : Nat} (hm : m < 100) : ((11 : Int32) + nI m).toNatClampNeg = 11 + m := by rw [q_lit 11, nI_add, nI_clamp (by omega)]
theorem q_v11 {m : Nat} (hm : m < 158) : vp_in ((11 : Int32) + nI m) 169 := by rw [q_lit 11, nI_add]; exact vp_in_nI (by omega) (by decide)
theorem q_i23 {m : Nat} (hm : m < 100) : ((23 : Int32) + nI m).toNatClampNeg = 23 + m := by rw [q_lit 23, nI_add, nI_clamp (by omega)]
theorem q_v23 {m : Nat} (hm : m < 146) : vp_in ((23 : Int32) + nI m) 169 := by rw [q_lit 23, nI_add]; exact vp_in_nI (by omega) (by decide)
theorem q_i35 {m : Nat} (hm : m < 100) : ((35 : Int32) + nI m).toNatClampNeg = 35 + m := by rw [q_lit 35, nI_add, nI_clamp (by omega)]
theorem q_v35 {m : Nat} (hm : m < 134) : vp_in ((35 : Int32) + nI m) 169 := by rw [q_lit 35, nI_add]; exact vp_in_nI (by omega) (by decide)
theorem q_i47 {m : Nat} (hm : m < 100) : ((47 : Int32) + nI m).toNatClampNeg = 47 + m := by rw [q_lit 47, nI_add, nI_clamp (by omega)]
theorem q_v47 {m : Nat} (hm : m < 122) : vp_in ((47 : Int32) + nI m) 169 := by rw [q_lit 47, nI_add]; exact vp_in_nI (by omega) (by decide)
theorem q_i59 {m : Nat} (hm : m < 100) : ((59 : Int32) + nI m).toNatClampNeg = 59 + m := by rw [q_lit 59, nI_add, nI_clamp (by omega)]
theorem q_v59 {m : Nat} (hm : m < 110) : vp_in ((59 : Int32) + nI m) 169 := by rw [q_lit 59, nI_add]; exact vp_in_nI (by omega) (by decide)
theorem q_i71 {m : Nat} (hm : m < 100) : ((71 : Int32) + nI m).toNatClampNeg = 71 + m := by rw [q_lit 71, nI_add, nI_clamp (by omega)]
theorem q_v71 {m : Nat} (hm : m < 98) : vp_in ((71 : Int32) + nI m) 169 := by rw [q_lit 71, nI_add]; exact vp_in_nI (by omega) (by decide)
theorem q_i83 {m : Nat} (hm : m < 100) : ((83 : Int32) + nI m).toNatClampNeg = 83 + m := by rw [q_lit 83, nI_add, nI_clamp (by omega)]
theorem q_v83 {m : Nat} (hm : m < 86) : vp_in ((83 : Int32) + nI m) 169 := by rw [q_lit 83, nI_add]; exact vp_in_nI (by omega) (by decide)
theorem q_i95 {m : Nat} (hm : m < 100) : ((95 : Int32) + nI m).toNatClampNeg = 95 + m := by rw [q_lit 95, nI_add, nI_clamp (by omega)]
theorem q_v95 {m : Nat} (hm : m < 74) : vp_in ((95 : Int32) + nI m) 169 := by rw [q_lit 95, nI_add]; exact vp_in_nI (by omega) (by decide)
theorem q_i107 {m : Nat} (hm : m < 100) : ((107 : Int32) + nI m).toNatClampNeg = 107 + m := by rw [q_lit 107, nI_add, nI_clamp (by omega)]
theorem q_v107 {m : Nat} (hm : m < 62) : vp_in ((107 : Int32) + nI m) 169 := by rw [q_lit 107, nI_add]; exact vp_in_nI (by omega) (by decide)
theorem q_i119 {m : Nat} (hm : m < 100) : ((119 : Int32) + nI m).toNatClampNeg = 119 + m := by rw [q_lit 119, nI_add, nI_clamp (by omega)]
theorem q_v119 {m : Nat} (hm : m < 50) : vp_in ((119 : Int32) + nI m) 169 := by rw [q_lit 119, nI_add]; exact vp_in_nI (by omega) (by decide)
theorem q_li {r k : Nat} : ((129 : Int32) + ((4 : Int32) * nI r)) + nI k = nI (129 + 4 * r + k) := by rw [q_lit 129, q_lit 4, pk_mul, nI_add, nI_add]
theorem q_vI {m N : Nat} (h : m < N) (hN : N < 2 ^ 31) : vp_in (nI m) N := vp_in_nI h hN
theorem q_m1lit : (-1 : Int32) = -nI 1 := by decide
theorem q_ne1 {r : Nat} (h : r < 2 ^ 31) : ¬ nI r = -1 := by
  rw [← Int32.toInt_inj, nI_toInt h, show (-1 : Int32).toInt = -1 by decide]
  omega
theorem q_nlt0 {r : Nat} (h : r < 2 ^ 31) : ¬ nI r < 0 := nI_pos h
/-- a loop whose state the counter tells -/
theorem q_loop (W : Nat → Nat → Prop) (e i0 : Nat) (hi : i0 ≤ e) (hx : ∀ k, W (k + 1) e) (hs : ∀ k i, i0 ≤ i → i < e → W k (i + 1) → W (k + 1) i) : ∃ k, W k i0 := by
  have key : ∀ d i, i0 ≤ i → i + d = e → W (d + 1) i := by
    intro d
    induction d with
    | zero => intro i _ h; rw [show i = e by omega]; exact hx 0
    | succ d ih => intro i h1 h; exact hs (d + 1) i h1 (by omega) (ih (i + 1) (by omega) (by omega))
  exact ⟨_, key (e - i0) i0 (Nat.le_refl _) (by omega)⟩
/-- a fold that counts up from 0 -/
def q_lp {α : Type} (F : Nat → α → α) : Nat → α → α
  | 0, a => a
  | i + 1, a => F i (q_lp F i a)
theorem q_lp_s {α : Type} (F : Nat → α → α) (i : Nat) (a : α) : q_lp F (i + 1) a = F i (q_lp F i a) := rfl
theorem q_lp_rel {α β : Type} (R : Nat → α → β → Prop) (F : Nat → α → α) (F' : Nat → β → β) (n : Nat) (hs : ∀ i a b, i < n → R i a b → R (i + 1) (F i a) (F' i b)) {a : α} {b : β} (h : R 0 a b) : ∀ i, i ≤ n → R i (q_lp F i a) (q_lp F' i b) := by
  intro i
  induction i with
  | zero => exact fun _ => h
  | succ i ih => exact fun hi => hs i _ _ (by omega) (ih (by omega))
theorem q_lp_inv {α : Type} (R : Nat → α → Prop) (F : Nat → α → α) (n : Nat) (hs : ∀ i a, i < n → R i a → R (i + 1) (F i a)) {a : α} (h : R 0 a) : ∀ i, i ≤ n → R i (q_lp F i a) := by
  intro i
  induction i with
  | zero => exact fun _ => h
  | succ i ih => exact fun hi => hs i _ (by omega) (ih (by omega))
theorem q_lp_congr {α : Type} (F F' : Nat → α → α) (n : Nat) (a : α) (hs : ∀ i a, i < n → F i a = F' i a) : q_lp F n a = q_lp F' n a := by
  induction n with
  | zero => rfl
  | succ n ih => rw [q_lp_s, q_lp_s, ih (fun i a h => hs i a (by omega)), hs n _ (by omega)]
/-- how many -/
def q_ct (p : Nat → Bool) : Nat → Nat
  | 0 => 0
  | n + 1 => q_ct p n + (if p n = true then 1 else 0)
theorem q_ct_le (p : Nat → Bool) : ∀ n, q_ct p n ≤ n
  | 0 => Nat.le_refl 0
  | n + 1 => by
    have := q_ct_le p n
    unfold q_ct
    split <;> omega
theorem q_ct_congr {p p' : Nat → Bool} : ∀ {n : Nat}, (∀ m, m < n → p m = p' m) → q_ct p n = q_ct p' n
  | 0, _ => rfl
  | n + 1, h => by
    unfold q_ct
    rw [q_ct_congr (fun m hm => h m (by omega)), h n (by omega)]
/-- one more -/
theorem q_ct_one {p p' : Nat → Bool} {j : Nat} (hj : p j = false) (hj' : p' j = true) (ho : ∀ m, m ≠ j → p m = p' m) : ∀ {n : Nat}, j < n → q_ct p' n = q_ct p n + 1
  | 0, h => by omega
  | n + 1, h => by
    unfold q_ct
    by_cases e : j = n
    · subst e
      rw [hj, hj', q_ct_congr (fun m hm => ho m (by omega))]
      simp
    · rw [q_ct_one hj hj' ho (by omega), ho n (fun q => e q.symm)]
      omega
theorem q_ct_zero {p : Nat → Bool} : ∀ {n : Nat}, (∀ m, m < n → p m = false) → q_ct p n = 0
  | 0, _ => rfl
  | n + 1, h => by
    unfold q_ct
    rw [q_ct_zero (fun m hm => h m (by omega)), h n (by omega)]
    simp
theorem q_ct_add (p : Nat → Bool) (n : Nat) : q_ct p (n + 1) = q_ct p n + (if p n = true then 1 else 0) := rfl

