/-! ===== the layer of ghost addresses: kinds, contents, the heap relation ===== -/
abbrev g_Ad : Type := Nat × Nat × Nat
abbrev g_AV : Type := Int32 ⊕ (g_Ad ⊕ Value)
abbrev g_Hp : Type := Nat → Nat → Nat → Nat → Int32
abbrev g_Rh : Type := Nat → Nat → Nat → Nat
abbrev g_G : Type := va_G × (Nat → ClassId) × (Nat → Nat → Nat) × (Nat → Prop)
abbrev vI (x : Int32) : g_AV := .inl x
abbrev vR (k i j : Nat) : g_AV := .inr (.inl (k, i, j))
abbrev vV (v : Value) : g_AV := .inr (.inr v)
def g_cv (ρ : g_Rh) : g_AV → Value
  | .inl x => .int x
  | .inr (.inl a) => .ref (ρ a.1 a.2.1 a.2.2)
  | .inr (.inr v) => v
/-- which class of vwCl an object of kind k is; how many fields -/
def g_cls (k : Nat) : Nat := match k with
  | 0 => 8
  | 1 => 4
  | 2 => 7
  | 3 => 6
  | 4 => 5
  | 5 => 9
  | _ => 1
def g_nf (k : Nat) : Nat := match k with
  | 0 => 10
  | 1 => 12
  | 2 => 11
  | 3 => 4
  | 4 => 4
  | 5 => 20
  | 6 => 4
  | _ => 0
/-- what a reference field holds where it is set (none: an int's field) -/
def g_rt (k s i : Nat) (x : Int32) : Option g_Ad := match k, s with
  | 0, 0 => some (1, 0, 0)
  | 0, 1 => some (10, 0, 0)
  | 0, 4 => some (1, 10, 0)
  | 0, 6 => some (3, 0, 0)
  | 0, 9 => some (6, 1, 0)
  | 1, 0 => some (11, i, 0)
  | 3, 0 => some (6, 0, 0)
  | 3, 1 => some (12, 0, 0)
  | 4, 0 => some (21, x.toNatClampNeg - 1, 0)
  | 5, 5 => some (13, 0, 0)
  | 5, 6 => some (13, 1, 0)
  | 5, 7 => some (13, 2, 0)
  | 5, 8 => some (13, 3, 0)
  | 5, 9 => some (13, 4, 0)
  | 5, 10 => some (13, 5, 0)
  | 5, 11 => some (13, 6, 0)
  | 5, 12 => some (13, 7, 0)
  | 5, 13 => some (13, 8, 0)
  | 6, 0 => some (14, i, x.toNatClampNeg - 1)
  | _, _ => none
def g_fv (k s i : Nat) (x : Int32) : g_AV := match g_rt k s i x with
  | none => vI x
  | some a => if x = 0 then vV .null else .inr (.inl a)
def g_len (h : g_Hp) (k i j : Nat) : Nat := match k with
  | 10 => 9
  | 11 => 12
  | 12 => 11
  | 13 => (match i with
    | 0 => 169
    | 1 => 169
    | 2 => 169
    | 3 => 1352
    | 4 => 60
    | 5 => 50
    | 6 => 10
    | 7 => 57
    | _ => 11)
  | 14 => (h 14 i j 0).toNatClampNeg - 1
  | _ => 1
/-- what place e of an array of references holds where it is set -/
def g_et (k i e : Nat) : g_Ad := match k with
  | 10 => (1, e + 1, 0)
  | 11 => (2, i, e)
  | _ => (4, e, 0)
def g_d64 (hi lo : Int32) : UInt64 := UInt64.ofNat (hi.toUInt32.toNat * 2 ^ 32 + lo.toUInt32.toNat)
def g_ar (ρ : g_Rh) (h : g_Hp) (k i j : Nat) : (Nat → Int32) ⊕ (Nat → Int64) ⊕ (Nat → UInt32) ⊕ (Nat → UInt64) ⊕ (Nat → Option Nat) :=
  if k < 13 then .inr (.inr (.inr (.inr (fun e => if h k i j (e + 1) = 0 ∨ g_len h k i j ≤ e then none else some (ρ (g_et k i e).1 (g_et k i e).2.1 (g_et k i e).2.2)))))
  else if k = 15 then .inr (.inl (fun e => (h k i j (e + 1)).toInt64))
  else if k = 16 then .inr (.inr (.inr (.inl (fun e => g_d64 (h k i j (2 * e + 1)) (h k i j (2 * e + 2))))))
  else .inl (fun e => h k i j (e + 1))
def g_fs (ρ : g_Rh) (h : g_Hp) (a : g_Ad) : List Value := (List.range (g_nf a.1)).map fun s => g_cv ρ (g_fv a.1 s a.2.1 (h a.1 a.2.1 a.2.2 (s + 1)))
def g_en (aC : Nat → ClassId) (ρ : g_Rh) (h : g_Hp) (a : g_Ad) : Nat × va_E :=
  (ρ a.1 a.2.1 a.2.2, if a.1 < 10 then .inr (g_cls a.1, g_fs ρ h a) else .inl (aC a.1, g_len h a.1 a.2.1 a.2.2, g_ar ρ h a.1 a.2.1 a.2.2))
def g_lv (h : g_Hp) (a : g_Ad) : Prop := a.1 < 20 ∧ h a.1 a.2.1 a.2.2 0 ≠ 0
def g_okA (h : g_Hp) (k i j : Nat) : Prop := (k < 20 ∧ h k i j 0 ≠ 0 ∧ h (k + 40) i j 0 ≠ 0) ∨ (20 ≤ k ∧ k < 40) ∨ (40 ≤ k ∧ k < 60 ∧ h (k - 40) i j 0 ≠ 0)
def g_ok (h : g_Hp) : g_AV → Prop
  | .inl _ => True
  | .inr (.inl a) => g_okA h a.1 a.2.1 a.2.2
  | .inr (.inr _) => True
def g_okL (h : g_Hp) (a : g_Ad) : Prop := (a.1 < 20 ∧ h a.1 a.2.1 a.2.2 0 ≠ 0) ∨ (20 ≤ a.1 ∧ a.1 < 40)
/-- a reference that is set leads to what is made; what is sealed is made, and its references are set, to what is sealed -/
def g_seal (h : g_Hp) : Prop := ∀ k i j : Nat, k < 20 → (h (k + 40) i j 0 ≠ 0 → h k i j 0 ≠ 0) ∧
  (k < 10 → ∀ (s : Nat) (a : g_Ad), s < g_nf k → g_rt k s i (h k i j (s + 1)) = some a → (h k i j 0 ≠ 0 → h k i j (s + 1) ≠ 0 → g_okL h a) ∧ (h (k + 40) i j 0 ≠ 0 → h k i j (s + 1) ≠ 0 ∧ g_okA h a.1 a.2.1 a.2.2)) ∧
  (10 ≤ k → k < 13 → ∀ e : Nat, e < g_len h k i j → (h k i j 0 ≠ 0 → h k i j (e + 1) ≠ 0 → g_okL h (g_et k i e)) ∧ (h (k + 40) i j 0 ≠ 0 → h k i j (e + 1) ≠ 0 ∧ g_okA h (g_et k i e).1 (g_et k i e).2.1 (g_et k i e).2.2))
def g_HR (G : g_G) (ρ : g_Rh) (h : g_Hp) (H : Heap) : Prop := ∃ L : List g_Ad, L.Nodup ∧ (∀ a, a ∈ L ↔ g_lv h a) ∧
  va_P G.1 vwCl (L.map (g_en G.2.1 ρ h)) H ∧ va_D G.2.2.2 (L.map (g_en G.2.1 ρ h)) ∧ g_seal h ∧
  (∀ k i j, 20 ≤ k → k < 40 → ρ k i j = G.2.2.1 k i) ∧ (∀ k i j, k < 20 → ρ (k + 40) i j = ρ k i j)
/-- what was made stays, where it is; what was sealed stays so -/
def g_ext (h : g_Hp) (ρ : g_Rh) (h' : g_Hp) (ρ' : g_Rh) : Prop := ∀ k i j, k < 20 → h k i j 0 ≠ 0 → h' k i j 0 ≠ 0 ∧ ρ' k i j = ρ k i j ∧ (h (k + 40) i j 0 ≠ 0 → h' (k + 40) i j 0 ≠ 0)
theorem g_ext_rf (h : g_Hp) (ρ : g_Rh) : g_ext h ρ h ρ := fun _ _ _ _ h0 => ⟨h0, rfl, fun h => h⟩
theorem g_ext_tr {h h1 h2 : g_Hp} {ρ ρ1 ρ2 : g_Rh} (a : g_ext h ρ h1 ρ1) (b : g_ext h1 ρ1 h2 ρ2) : g_ext h ρ h2 ρ2 := fun k i j hk h0 => by
  obtain ⟨p1, p2, p3⟩ := a k i j hk h0
  obtain ⟨q1, q2, q3⟩ := b k i j hk p1
  exact ⟨q1, q2.trans p2, fun z => q3 (p3 z)⟩
theorem g_okA_mono {h h' : g_Hp} {ρ ρ' : g_Rh} (e : g_ext h ρ h' ρ') {k i j : Nat} (h0 : g_okA h k i j) : g_okA h' k i j := by
  rcases h0 with ⟨a, b, c⟩ | a | ⟨a, b, c⟩
  · obtain ⟨p1, -, p3⟩ := e k i j a b
    exact Or.inl ⟨a, p1, p3 c⟩
  · exact Or.inr (Or.inl a)
  · exact Or.inr (Or.inr ⟨a, b, (e (k - 40) i j (by omega) c).1⟩)
theorem g_ok_mono {h h' : g_Hp} {ρ ρ' : g_Rh} (e : g_ext h ρ h' ρ') {v : g_AV} (h0 : g_ok h v) : g_ok h' v := by
  match v, h0 with
  | .inl _, _ => exact trivial
  | .inr (.inl a), h0 => exact g_okA_mono e h0
  | .inr (.inr _), _ => exact trivial
/-- a reference that is good is the same cell afterwards -/
theorem g_okA_cv {G : g_G} {h h' : g_Hp} {ρ ρ' : g_Rh} (e : g_ext h ρ h' ρ') (r1 : ∀ k i j, 20 ≤ k → k < 40 → ρ k i j = G.2.2.1 k i) (r2 : ∀ k i j, k < 20 → ρ (k + 40) i j = ρ k i j) (r1' : ∀ k i j, 20 ≤ k → k < 40 → ρ' k i j = G.2.2.1 k i) (r2' : ∀ k i j, k < 20 → ρ' (k + 40) i j = ρ' k i j) {k i j : Nat} (h0 : g_okA h k i j) : ρ' k i j = ρ k i j := by
  rcases h0 with ⟨a, b, c⟩ | ⟨a, b⟩ | ⟨a, b, c⟩
  · exact (e k i j a b).2.1
  · rw [r1 _ _ _ a b, r1' _ _ _ a b]
  · have h1 := (e (k - 40) i j (by omega) c).2.1
    have h2 := r2 (k - 40) i j (by omega)
    have h3 := r2' (k - 40) i j (by omega)
    rw [show k - 40 + 40 = k by omega] at h2 h3
    rw [h2, h3, h1]
theorem g_cv_eq {G : g_G} {h h' : g_Hp} {ρ ρ' : g_Rh} {H H' : Heap} (e : g_ext h ρ h' ρ') (R : g_HR G ρ h H) (R' : g_HR G ρ' h' H') {v : g_AV} (h0 : g_ok h v) : g_cv ρ' v = g_cv ρ v := by
  obtain ⟨_, -, -, -, -, -, r1, r2⟩ := R
  obtain ⟨_, -, -, -, -, -, r1', r2'⟩ := R'
  match v, h0 with
  | .inl _, _ => rfl
  | .inr (.inl a), h0 => exact congrArg Value.ref (g_okA_cv (G := G) e r1 r2 r1' r2' h0)
  | .inr (.inr _), _ => rfl
/-! lists -/
theorem g_get_of_mem {α β : Type} {L : List α} {a : α} (f : α → β) (h : a ∈ L) : ∃ q : Nat, L[q]? = some a ∧ (L.map f)[q]? = some (f a) := by
  obtain ⟨q, hq⟩ := List.getElem?_of_mem h
  exact ⟨q, hq, by rw [List.getElem?_map, hq]; rfl⟩
theorem g_map_set {α β : Type} {L : List α} (hn : L.Nodup) {q : Nat} {a : α} (hq : L[q]? = some a) (f f' : α → β) (hf : ∀ b, b ≠ a → f' b = f b) : (L.map f).set q (f' a) = L.map f' := by
  have hl := (List.getElem?_eq_some_iff.mp hq).1
  refine List.ext_getElem? fun n => ?_
  by_cases h : n = q
  · subst h
    rw [List.getElem?_set_self (by rw [List.length_map]; exact hl), List.getElem?_map, hq]
    rfl
  · rw [List.getElem?_set_ne (Ne.symm h), List.getElem?_map, List.getElem?_map]
    cases hb : L[n]? with
    | none => rfl
    | some b =>
      have hb0 : b ≠ a := by
        intro e
        subst e
        obtain ⟨l1, e1⟩ := List.getElem?_eq_some_iff.mp hb
        obtain ⟨l2, e2⟩ := List.getElem?_eq_some_iff.mp hq
        exact h ((List.getElem_inj (h₀ := l1) (h₁ := l2) hn).mp (e1.trans e2.symm))
      show some (f b) = some (f' b)
      rw [hf b hb0]
/-! what is written -/
def g_up (h : g_Hp) (k i j s : Nat) (x : Int32) : g_Hp := fun k' i' j' s' => if k' = k ∧ i' = i ∧ j' = j ∧ s' = s then x else h k' i' j' s'
theorem g_up_s (h : g_Hp) (k i j s : Nat) (x : Int32) : g_up h k i j s x k i j s = x := if_pos ⟨rfl, rfl, rfl, rfl⟩
theorem g_up_o (h : g_Hp) (k i j s : Nat) (x : Int32) {k' i' j' s' : Nat} (n : ¬ (k' = k ∧ i' = i ∧ j' = j ∧ s' = s)) : g_up h k i j s x k' i' j' s' = h k' i' j' s' := if_neg n
theorem g_up_hd (h : g_Hp) (k i j s : Nat) (x : Int32) (k' i' j' : Nat) : g_up h k i j (s + 1) x k' i' j' 0 = h k' i' j' 0 := if_neg (fun n => by cases n.2.2.2)
theorem g_ext_up (h : g_Hp) (ρ : g_Rh) (k i j s : Nat) (x : Int32) : g_ext h ρ (g_up h k i j (s + 1) x) ρ := fun k' i' j' _ h0 => by
  rw [g_up_hd, g_up_hd]
  exact ⟨h0, rfl, fun z => z⟩
theorem g_okA_up {h : g_Hp} {k i j s : Nat} {x : Int32} {k' i' j' : Nat} (h0 : g_okA h k' i' j') : g_okA (g_up h k i j (s + 1) x) k' i' j' := g_okA_mono (g_ext_up h (fun _ _ _ => 0) k i j s x) h0
theorem g_len_up (h : g_Hp) (k i j s : Nat) (x : Int32) (k' i' j' : Nat) : g_len (g_up h k i j (s + 1) x) k' i' j' = g_len h k' i' j' := by
  unfold g_len
  rw [g_up_hd]
/-- a cell that isn't written stays -/
theorem g_en_up {aC : Nat → ClassId} {ρ : g_Rh} {h : g_Hp} {k i j s : Nat} {x : Int32} {b : g_Ad} (hb : b ≠ (k, i, j)) : g_en aC ρ (g_up h k i j (s + 1) x) b = g_en aC ρ h b := by
  obtain ⟨k', i', j'⟩ := b
  have e : ∀ s', g_up h k i j (s + 1) x k' i' j' s' = h k' i' j' s' := fun s' => g_up_o h k i j (s + 1) x (fun n => hb (by rw [n.1, n.2.1, n.2.2.1]))
  unfold g_en g_fs g_ar
  rw [g_len_up]
  simp only [e]
theorem g_okL_mono {h h' : g_Hp} (e : ∀ k i j, k < 20 → h k i j 0 ≠ 0 → h' k i j 0 ≠ 0) {a : g_Ad} (h0 : g_okL h a) : g_okL h' a := by
  rcases h0 with ⟨q1, q2⟩ | q
  · exact Or.inl ⟨q1, e _ _ _ q1 q2⟩
  · exact Or.inr q
theorem g_okL_up {h : g_Hp} {k i j s : Nat} {x : Int32} {a : g_Ad} (h0 : g_okL h a) : g_okL (g_up h k i j (s + 1) x) a := g_okL_mono (fun k' i' j' _ z => by rw [g_up_hd]; exact z) h0
theorem g_okA_L {h : g_Hp} {k i j : Nat} (hk : k < 40) (h0 : g_okA h k i j) : g_okL h (k, i, j) := by
  rcases h0 with ⟨a, b, -⟩ | a | ⟨a, b, -⟩
  · exact Or.inl ⟨a, b⟩
  · exact Or.inr a
  · omega
/-- a write of a good value keeps what is known of references -/
theorem g_seal_up {h : g_Hp} (hs : g_seal h) {k i j s : Nat} {x : Int32}
    (c1 : k < 10 → ∀ a : g_Ad, s < g_nf k → g_rt k s i x = some a → (x ≠ 0 → g_okL h a) ∧ (h (k + 40) i j 0 ≠ 0 → x ≠ 0 ∧ g_okA h a.1 a.2.1 a.2.2))
    (c2 : 10 ≤ k → k < 13 → s < g_len h k i j → (x ≠ 0 → g_okL h (g_et k i s)) ∧ (h (k + 40) i j 0 ≠ 0 → x ≠ 0 ∧ g_okA h (g_et k i s).1 (g_et k i s).2.1 (g_et k i s).2.2)) : g_seal (g_up h k i j (s + 1) x) := by
  intro k' i' j' hk'
  obtain ⟨b1, b2, b3⟩ := hs k' i' j' hk'
  rw [g_up_hd, g_up_hd, g_len_up]
  refine ⟨b1, fun hk s' a hs' hr => ?_, fun h1 h2 e he => ?_⟩
  · by_cases hz : k' = k ∧ i' = i ∧ j' = j ∧ s' + 1 = s + 1
    · obtain ⟨rfl, rfl, rfl, e⟩ := hz
      have e' : s' = s := by omega
      subst e'
      rw [g_up_s] at hr ⊢
      obtain ⟨q1, q2⟩ := c1 hk a hs' hr
      exact ⟨fun _ z => g_okL_up (q1 z), fun z => ⟨(q2 z).1, g_okA_up (q2 z).2⟩⟩
    · rw [g_up_o _ _ _ _ _ _ hz] at hr ⊢
      obtain ⟨q1, q2⟩ := b2 hk s' a hs' hr
      exact ⟨fun y z => g_okL_up (q1 y z), fun z => ⟨(q2 z).1, g_okA_up (q2 z).2⟩⟩
  · by_cases hz : k' = k ∧ i' = i ∧ j' = j ∧ e + 1 = s + 1
    · obtain ⟨rfl, rfl, rfl, e2⟩ := hz
      have e' : e = s := by omega
      subst e'
      rw [g_up_s]
      obtain ⟨q1, q2⟩ := c2 h1 h2 he
      exact ⟨fun _ z => g_okL_up (q1 z), fun z => ⟨(q2 z).1, g_okA_up (q2 z).2⟩⟩
    · rw [g_up_o _ _ _ _ _ _ hz]
      obtain ⟨q1, q2⟩ := b3 h1 h2 e he
      exact ⟨fun y z => g_okL_up (q1 y z), fun z => ⟨(q2 z).1, g_okA_up (q2 z).2⟩⟩
theorem g_fs_len (ρ : g_Rh) (h : g_Hp) (a : g_Ad) : (g_fs ρ h a).length = g_nf a.1 := by unfold g_fs; rw [List.length_map, List.length_range]
theorem g_fs_get (ρ : g_Rh) (h : g_Hp) (a : g_Ad) {s : Nat} (hs : s < g_nf a.1) : (g_fs ρ h a)[s]? = some (g_cv ρ (g_fv a.1 s a.2.1 (h a.1 a.2.1 a.2.2 (s + 1)))) := by
  unfold g_fs
  rw [List.getElem?_map, List.getElem?_range hs]
  rfl
theorem g_fs_up (ρ : g_Rh) (h : g_Hp) (k i j : Nat) {s : Nat} (hs : s < g_nf k) (x : Int32) : (g_fs ρ h (k, i, j)).set s (g_cv ρ (g_fv k s i x)) = g_fs ρ (g_up h k i j (s + 1) x) (k, i, j) := by
  have e := g_map_set (L := List.range (g_nf k)) List.nodup_range (q := s) (a := s) (List.getElem?_range hs) (fun s => g_cv ρ (g_fv k s i (h k i j (s + 1)))) (fun s' => g_cv ρ (g_fv k s' i (g_up h k i j (s + 1) x k i j (s' + 1)))) (fun b hb => by
    show g_cv ρ (g_fv k b i (g_up h k i j (s + 1) x k i j (b + 1))) = _
    rw [g_up_o _ _ _ _ _ _ (fun n => hb (by have := n.2.2.2; omega))])
  rw [g_up_s] at e
  exact e
theorem g_lv_up {h : g_Hp} {k i j s : Nat} {x : Int32} {a : g_Ad} : g_lv (g_up h k i j (s + 1) x) a ↔ g_lv h a := by
  unfold g_lv
  rw [g_up_hd]
theorem g_live {G : g_G} {ρ : g_Rh} {h : g_Hp} {H : Heap} {kr kk i j : Nat} (hkr : kr = kk ∨ kr = kk + 40) (hk : kk < 20) (R : g_HR G ρ h H) (o : g_okA h kr i j) : h kk i j 0 ≠ 0 ∧ ρ kr i j = ρ kk i j := by
  obtain ⟨_, -, -, -, -, -, -, r2⟩ := R
  rcases hkr with rfl | rfl
  · rcases o with ⟨-, b, -⟩ | ⟨a, -⟩ | ⟨a, -, -⟩
    · exact ⟨b, rfl⟩
    · omega
    · omega
  · rcases o with ⟨a, -, -⟩ | ⟨-, b⟩ | ⟨-, -, c⟩
    · omega
    · omega
    · rw [Nat.add_sub_cancel] at c
      exact ⟨c, r2 _ _ _ hk⟩
/-- an object's cell in the world's list -/
theorem g_HR_obj {G : g_G} {ρ : g_Rh} {h : g_Hp} {H : Heap} {kk i j : Nat} (hk : kk < 10) (R : g_HR G ρ h H) (hl : h kk i j 0 ≠ 0) : ∃ (L : List g_Ad) (q0 : Nat), L.Nodup ∧ (∀ a, a ∈ L ↔ g_lv h a) ∧ va_P G.1 vwCl (L.map (g_en G.2.1 ρ h)) H ∧ va_D G.2.2.2 (L.map (g_en G.2.1 ρ h)) ∧ g_seal h ∧ (∀ k i j, 20 ≤ k → k < 40 → ρ k i j = G.2.2.1 k i) ∧ (∀ k i j, k < 20 → ρ (k + 40) i j = ρ k i j) ∧
    L[q0]? = some (kk, i, j) ∧ (L.map (g_en G.2.1 ρ h))[q0]? = some (ρ kk i j, .inr (g_cls kk, g_fs ρ h (kk, i, j))) := by
  obtain ⟨L, p1, p2, p3, p4, p5, p6, p7⟩ := R
  obtain ⟨q0, e1, e2⟩ := g_get_of_mem (g_en G.2.1 ρ h) ((p2 (kk, i, j)).mpr ⟨by show kk < 20; omega, hl⟩)
  refine ⟨L, q0, p1, p2, p3, p4, p5, p6, p7, e1, e2.trans ?_⟩
  unfold g_en
  rw [if_pos hk]
theorem g_HR_arr {G : g_G} {ρ : g_Rh} {h : g_Hp} {H : Heap} {kk i j : Nat} (hk : 10 ≤ kk) (hk2 : kk < 20) (R : g_HR G ρ h H) (hl : h kk i j 0 ≠ 0) : ∃ (L : List g_Ad) (q0 : Nat), L.Nodup ∧ (∀ a, a ∈ L ↔ g_lv h a) ∧ va_P G.1 vwCl (L.map (g_en G.2.1 ρ h)) H ∧ va_D G.2.2.2 (L.map (g_en G.2.1 ρ h)) ∧ g_seal h ∧ (∀ k i j, 20 ≤ k → k < 40 → ρ k i j = G.2.2.1 k i) ∧ (∀ k i j, k < 20 → ρ (k + 40) i j = ρ k i j) ∧
    L[q0]? = some (kk, i, j) ∧ (L.map (g_en G.2.1 ρ h))[q0]? = some (ρ kk i j, .inl (G.2.1 kk, g_len h kk i j, g_ar ρ h kk i j)) := by
  obtain ⟨L, p1, p2, p3, p4, p5, p6, p7⟩ := R
  obtain ⟨q0, e1, e2⟩ := g_get_of_mem (g_en G.2.1 ρ h) ((p2 (kk, i, j)).mpr ⟨hk2, hl⟩)
  refine ⟨L, q0, p1, p2, p3, p4, p5, p6, p7, e1, e2.trans ?_⟩
  unfold g_en
  rw [if_neg (show ¬ kk < 10 by omega)]
/-- the heap relation behind a write -/
theorem g_HR_set {G : g_G} {ρ : g_Rh} {h : g_Hp} {H1 : Heap} {kk i j s : Nat} {x : Int32} {L : List g_Ad} {q0 : Nat} {e : va_E} (p1 : L.Nodup) (p2 : ∀ a, a ∈ L ↔ g_lv h a) (hq : L[q0]? = some (kk, i, j)) (he : (ρ kk i j, e) = g_en G.2.1 ρ (g_up h kk i j (s + 1) x) (kk, i, j))
    (hP : va_P G.1 vwCl ((L.map (g_en G.2.1 ρ h)).set q0 (ρ kk i j, e)) H1) (hD : va_D G.2.2.2 ((L.map (g_en G.2.1 ρ h)).set q0 (ρ kk i j, e))) (p5 : g_seal (g_up h kk i j (s + 1) x)) (p6 : ∀ k i j, 20 ≤ k → k < 40 → ρ k i j = G.2.2.1 k i) (p7 : ∀ k i j, k < 20 → ρ (k + 40) i j = ρ k i j) : g_HR G ρ (g_up h kk i j (s + 1) x) H1 := by
  have em := g_map_set p1 hq (g_en G.2.1 ρ h) (g_en G.2.1 ρ (g_up h kk i j (s + 1) x)) (fun b hb => g_en_up hb)
  rw [he] at hP hD
  rw [em] at hP hD
  exact ⟨L, p1, fun a => (p2 a).trans g_lv_up.symm, hP, hD, p5, p6, p7⟩
