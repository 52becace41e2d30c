/-! ===== queries: what both answer ===== -/
/-! what stays -/
theorem q_Iq {T : Nat} {h : g_Hp} (t : Int32) (hI : q_I T h) : q_I T (g_up h 5 0 0 1 t) := q_I_c (fun k a b s n1 _ _ _ _ _ => g_up_o _ _ _ _ _ _ (by omega)) hI
theorem q_Io {T : Nat} {h : g_Hp} (x : Int32) (hI : q_I T h) : q_I T (g_up h 15 0 0 1 x) := q_I_c (fun k a b s _ n2 _ _ _ _ => g_up_o _ _ _ _ _ _ (by omega)) hI
theorem q_Id {T : Nat} {h : g_Hp} (x : UInt64) (hI : q_I T h) : q_I T (g_upd h x) := q_I_c (fun k a b s _ n2 _ _ _ _ => (g_up_o _ _ _ _ _ _ (by omega)).trans (g_up_o _ _ _ _ _ _ (by omega))) hI
theorem q_oth {h : g_Hp} {x : Int32} {k a b s : Nat} (hk : k ≠ 15) : g_up h 15 0 0 1 x k a b s = h k a b s := g_up_o _ _ _ _ _ _ (by omega)
theorem q_tho {h : g_Hp} {x : Int32} {k a b s : Nat} (hk : k ≠ 5) : g_up h 5 0 0 1 x k a b s = h k a b s := g_up_o _ _ _ _ _ _ (by omega)
theorem q_odh {h : g_Hp} {x : UInt64} {k a b s : Nat} (hk : k ≠ 16) : g_upd h x k a b s = h k a b s := (g_up_o _ _ _ _ _ _ (by omega)).trans (g_up_o _ _ _ _ _ _ (by omega))
/-- an answer of an int, or an exception -/
def q_AN (T : Nat) (Z : Int32 → Int32 → g_Hp → Prop) : Prop := ∀ k b h2, h2 5 0 0 1 = k → (k = 0 → h2 15 0 0 1 = b) → q_I T h2 → Z k b h2
/-- an answer alone -/
def q_AV (T : Nat) (Z : Int32 → Int32 → g_Hp → Prop) : Prop := ∀ a h2, q_I T h2 → Z a a h2
theorem q_an0 {T : Nat} {h : g_Hp} {Z : Int32 → Int32 → g_Hp → Prop} (hZ : q_AN T Z) (hI : q_I T h) (x : Int32) : Z 0 x (g_up (g_up h 15 0 0 1 x) 5 0 0 1 0) := hZ 0 x _ (g_up_s _ _ _ _ _ _) (fun _ => (q_tho (by decide)).trans (g_up_s _ _ _ _ _ _)) (q_Iq 0 (q_Io x hI))
theorem q_anE {T : Nat} {h : g_Hp} {Z : Int32 → Int32 → g_Hp → Prop} (hZ : q_AN T Z) (hI : q_I T h) {k : Nat} (h1 : 1 ≤ k) (h2 : k ≤ 3) (b : Int32) : Z (nI k) b (g_up h 5 0 0 1 (nI k)) := hZ _ b _ (g_up_s _ _ _ _ _ _) (fun q => absurd q (nI_ne0 (by omega) (by omega))) (q_Iq _ hI)
theorem q_tl {k : Nat} {h : g_Hp} {Q : g_R → g_Hp → Prop} (hk : k < 169) (K : Q (.inl (some (vI (h 13 0 0 (k + 1))))) (g_up h 5 0 0 1 0)) : wX8_tells (nI k) h Q := by
  unfold wX8_tells
  refine nm_e (And.intro (q_vI hk (by decide)) ?_)
  rw [nI_clamp (by omega), q_tho (by decide)]
  exact K
theorem q_to1 {n m fr : Nat} {h : g_Hp} {Q : g_R → g_Hp → Prop} (hN : h 13 0 0 1 = nI n) (hn : n ≤ 12) (hm : m < n) (hf : fr + 12 ≤ 169) (K : Q (.inl (some (vI (h 13 0 0 (fr + m + 1))))) (g_up h 5 0 0 1 0)) : wX8_tellsOf (nI m) (nI fr) h Q := by
  unfold wX8_tellsOf
  refine q_mM1 hN hn hm (br_f (by decide) ?_)
  unfold wX8_tellsOf_b14
  rw [nI_add]
  refine nm_e (q_n0 (g_up_s _ _ _ _ _ _) (And.intro (q_vI (by omega) (by decide)) ?_))
  rw [nI_clamp (by omega), q_tho (by decide)]
  exact K
theorem q_to0 {n : Nat} {p fr : Int32} {h : g_Hp} {Q : g_R → g_Hp → Prop} (hN : h 13 0 0 1 = nI n) (hn : n ≤ 12) (hp : p < 0 ∨ nI n ≤ p) (K : Q (.inl (some (vI 0))) (g_up h 5 0 0 1 1)) : wX8_tellsOf p fr h Q := by
  unfold wX8_tellsOf
  refine q_mM0 hN hn hp (br_t rfl ?_)
  unfold wX8_tellsOf_b14
  refine nm_e (q_n1 (by rw [g_up_s]; decide) K)
/-- a member's number -/
theorem q_mg {T : Nat} {h : g_Hp} {p : Int32} {Z : Int32 → Int32 → g_Hp → Prop} {EX1 : String → g_Hp → Prop} (s : Nat) (h1 : 1 ≤ s) (h2 : s ≤ 9) (hI : q_I T h) (hZ : q_AN T Z) :
    wX7_existing p h (g_kR 2 (fun i2 j3 h1 => ∀ h3 : g_Hp, h3 = g_up h1 15 0 0 1 (h1 2 i2 j3 s) → wX8_tellsOf p (nI (12 * s - 1)) h3 (g_kI (fun b h2 => Z 0 b h2) EX1)) (fun E h1 => E = "java/lang/IndexOutOfBoundsException" ∧ wX8_tellsOf p (nI (12 * s - 1)) h1 (g_kI (fun b h2 => Z 1 b h2) EX1))) := by
  obtain ⟨n, ll, it, ⟨⟨s1, s2, s3, _⟩, ⟨m1, _, _⟩, _⟩⟩ := hI.1
  have e2 : h 1 0 0 2 = nI n := s2
  have e0 : h 13 0 0 1 = nI n := s3
  have bad : (p < 0 ∨ nI n ≤ p) → wX7_existing p h (g_kR 2 (fun i2 j3 h1 => ∀ h3 : g_Hp, h3 = g_up h1 15 0 0 1 (h1 2 i2 j3 s) → wX8_tellsOf p (nI (12 * s - 1)) h3 (g_kI (fun b h2 => Z 0 b h2) EX1)) (fun E h1 => E = "java/lang/IndexOutOfBoundsException" ∧ wX8_tellsOf p (nI (12 * s - 1)) h1 (g_kI (fun b h2 => Z 1 b h2) EX1))) := fun d =>
    q_ex0 e2 d (And.intro rfl (q_to0 e0 s1 d (q_anE hZ hI (k := 1) (by decide) (by decide) 0)))
  rcases pk_ix p (n := n) (by omega) with d | d | ⟨m, hm, rfl⟩
  · exact bad (Or.inl d)
  · exact bad (Or.inr d)
  · refine q_ex1 e2 s1 hm (And.intro rfl (nm_e (q_to1 ((q_oth (by decide)).trans e0) s1 hm (by omega) ?_)))
    have e : h 13 0 0 (12 * s - 1 + m + 1) = h 2 0 m s := (m1 m s hm h1 h2).symm
    show Z 0 (g_up h 15 0 0 1 (h 2 0 m s) 13 0 0 (12 * s - 1 + m + 1)) _
    rw [q_oth (by decide), e]
    exact q_an0 hZ hI _
section QL
variable {T : Nat} {h : g_Hp} {p p1 : Int32} {Z : Int32 → Int32 → g_Hp → Prop} {EX0 EX1 : String → g_Hp → Prop}
theorem q_L2 (hI : q_I T h) (hZ : q_AN T Z) : wL_roofOf p h (g_kI (fun k h1 => wX8_roofOf p h1 (g_kI (fun b h2 => Z k b h2) EX1)) EX0) := q_mg 1 (by decide) (by decide) hI hZ
theorem q_L4 (hI : q_I T h) (hZ : q_AN T Z) : wL_rateOf p h (g_kI (fun k h1 => wX8_rateOf p h1 (g_kI (fun b h2 => Z k b h2) EX1)) EX0) := q_mg 2 (by decide) (by decide) hI hZ
theorem q_L5 (hI : q_I T h) (hZ : q_AN T Z) : wL_bearingOf p h (g_kI (fun k h1 => wX8_bearingOf p h1 (g_kI (fun b h2 => Z k b h2) EX1)) EX0) := q_mg 3 (by decide) (by decide) hI hZ
theorem q_L6 (hI : q_I T h) (hZ : q_AN T Z) : wL_wagesOf p h (g_kI (fun k h1 => wX8_wagesOf p h1 (g_kI (fun b h2 => Z k b h2) EX1)) EX0) := q_mg 4 (by decide) (by decide) hI hZ
theorem q_L7 (hI : q_I T h) (hZ : q_AN T Z) : wL_supportOf p h (g_kI (fun k h1 => wX8_supportOf p h1 (g_kI (fun b h2 => Z k b h2) EX1)) EX0) := q_mg 5 (by decide) (by decide) hI hZ
theorem q_L8 (hI : q_I T h) (hZ : q_AN T Z) : wL_lostShifts p h (g_kI (fun k h1 => wX8_lostShifts p h1 (g_kI (fun b h2 => Z k b h2) EX1)) EX0) := q_mg 6 (by decide) (by decide) hI hZ
theorem q_L10 (hI : q_I T h) (hZ : q_AN T Z) : wL_dutiesOf p h (g_kI (fun k h1 => wX8_dutiesOf p h1 (g_kI (fun b h2 => Z k b h2) EX1)) EX0) := q_mg 7 (by decide) (by decide) hI hZ
/-- numbers of the books -/
theorem q_L1 (hI : q_I T h) (hZ : q_AV T Z) : wX7_memberCount h (g_kI (fun a h1 => wX8_memberCount h1 (g_kI (fun b h2 => Z a b h2) EX1)) EX0) := by
  obtain ⟨n, ll, it, ⟨⟨s1, s2, s3, s4, s5, s6, s7, s8, s9, s10, s11, s12, s13, s14, s15, _⟩, _, _⟩⟩ := hI.1
  have e : h 1 0 0 2 = h 13 0 0 (0 + 1) := s2.trans s3.symm
  show wX8_tells (nI 0) h (g_kI (fun b h2 => Z (h 1 0 0 2) b h2) EX1)
  exact q_tl (by decide) (e ▸ hZ _ _ (q_Iq 0 hI))
theorem q_L13 (hI : q_I T h) (hZ : q_AV T Z) : wX7_windDirection h (g_kI (fun a h1 => wX8_windDirection h1 (g_kI (fun b h2 => Z a b h2) EX1)) EX0) := by
  obtain ⟨n, ll, it, ⟨⟨s1, s2, s3, s4, s5, s6, s7, s8, s9, s10, s11, s12, s13, s14, s15, _⟩, _, _⟩⟩ := hI.1
  have e : h 1 0 0 3 = h 13 0 0 (1 + 1) := s4
  show wX8_tells (nI 1) h (g_kI (fun b h2 => Z (h 1 0 0 3) b h2) EX1)
  exact q_tl (by decide) (e ▸ hZ _ _ (q_Iq 0 hI))
theorem q_L14 (hI : q_I T h) (hZ : q_AV T Z) : wX7_windSpeed h (g_kI (fun a h1 => wX8_windSpeed h1 (g_kI (fun b h2 => Z a b h2) EX1)) EX0) := by
  obtain ⟨n, ll, it, ⟨⟨s1, s2, s3, s4, s5, s6, s7, s8, s9, s10, s11, s12, s13, s14, s15, _⟩, _, _⟩⟩ := hI.1
  have e : h 1 0 0 4 = h 13 0 0 (2 + 1) := s5
  show wX8_tells (nI 2) h (g_kI (fun b h2 => Z (h 1 0 0 4) b h2) EX1)
  exact q_tl (by decide) (e ▸ hZ _ _ (q_Iq 0 hI))
theorem q_L18 (hI : q_I T h) (hZ : q_AV T Z) : wX7_shiftCount h (g_kI (fun a h1 => wX8_shiftCount h1 (g_kI (fun b h2 => Z a b h2) EX1)) EX0) := by
  obtain ⟨n, ll, it, ⟨⟨s1, s2, s3, s4, s5, s6, s7, s8, s9, s10, s11, s12, s13, s14, s15, _⟩, _, _⟩⟩ := hI.1
  have e : h 13 0 0 (3 + 1) = h 1 0 0 5 := s6.trans (Int32.add_zero _)
  show wX8_tells (nI 3) h (g_kI (fun b h2 => Z (h 1 0 0 5) b h2) EX1)
  exact q_tl (by decide) (e ▸ hZ _ _ (q_Iq 0 hI))
theorem q_L19 (hI : q_I T h) (hZ : q_AV T Z) : wX7_day h (g_kI (fun a h1 => wX8_day h1 (g_kI (fun b h2 => Z a b h2) EX1)) EX0) := by
  obtain ⟨n, ll, it, ⟨⟨s1, s2, s3, s4, s5, s6, s7, s8, s9, s10, s11, s12, s13, s14, s15, _⟩, _, _⟩⟩ := hI.1
  have e : h 13 0 0 (3 + 1) = h 1 0 0 5 := s6.trans (Int32.add_zero _)
  refine And.intro (by decide) ?_
  show wX8_tells (nI 3) h (g_kI (fun u h2 => ¬ (3 : Int32) = 0 ∧ Z (h 1 0 0 5 / 3) (u / 3) h2) _)
  exact q_tl (by decide) (And.intro (by decide) (e ▸ hZ _ _ (q_Iq 0 hI)))
theorem q_L24 (hI : q_I T h) (hZ : q_AV T Z) : wX7_isOnStrike h (g_kI (fun a h1 => wX8_isOnStrike h1 (g_kI (fun b h2 => Z a b h2) EX1)) EX0) := by
  obtain ⟨n, ll, it, ⟨⟨s1, s2, s3, s4, s5, s6, s7, s8, s9, s10, s11, s12, s13, s14, s15, _⟩, _, _⟩⟩ := hI.1
  have e : h 1 0 0 7 = h 13 0 0 (4 + 1) := s8
  have e9 : h 13 0 0 (4 + 1) = 0 ∨ h 13 0 0 (4 + 1) = 1 := s9
  refine And.intro (by rw [e]; exact e9) ?_
  show wX8_isOnStrike h (g_kI (fun b h2 => Z (h 1 0 0 7) b h2) EX1)
  unfold wX8_isOnStrike
  show wX8_tells (nI 4) h _
  refine q_tl (by decide) ?_
  rw [e]
  rcases e9 with z | z
  · rw [z]
    exact q_n1 (by decide) (And.intro (Or.inl rfl) (hZ _ _ (q_Iq 0 hI)))
  · rw [z]
    exact q_n0 rfl (And.intro (Or.inr rfl) (hZ _ _ (q_Iq 0 hI)))
theorem q_L27 (hI : q_I T h) (hZ : q_AV T Z) : wX7_fund h (g_kI (fun a h1 => wX8_fund h1 (g_kI (fun b h2 => Z a b h2) EX1)) EX0) := by
  obtain ⟨n, ll, it, ⟨⟨s1, s2, s3, s4, s5, s6, s7, s8, s9, s10, s11, s12, s13, s14, s15, _⟩, _, _⟩⟩ := hI.1
  have e : h 1 0 0 10 = h 13 0 0 (7 + 1) := s12
  show wX8_tells (nI 7) h (g_kI (fun b h2 => Z (h 1 0 0 10) b h2) EX1)
  exact q_tl (by decide) (e ▸ hZ _ _ (q_Iq 0 hI))
theorem q_L43 (hI : q_I T h) (hZ : q_AV T Z) : wX7_stepTotal h (g_kI (fun a h1 => wX8_stepTotal h1 (g_kI (fun b h2 => Z a b h2) EX1)) EX0) := by
  obtain ⟨n, ll, it, ⟨⟨s1, s2, s3, s4, s5, s6, s7, s8, s9, s10, s11, s12, s13, s14, s15, _⟩, _, _⟩⟩ := hI.1
  have e : h 13 0 0 (9 + 1) = h 1 0 0 6 := s7.trans (Int32.add_zero _)
  show wX8_tells (nI 9) h (g_kI (fun b h2 => Z (h 1 0 0 6) b h2) EX1)
  exact q_tl (by decide) (e ▸ hZ _ _ (q_Iq 0 hI))
theorem q_L44 (hI : q_I T h) (hZ : q_AV T Z) : wX7_settlementCount h (g_kI (fun a h1 => wX8_settlementCount h1 (g_kI (fun b h2 => Z a b h2) EX1)) EX0) := by
  obtain ⟨n, ll, it, ⟨⟨s1, s2, s3, s4, s5, s6, s7, s8, s9, s10, s11, s12, s13, s14, s15, _⟩, _, _⟩⟩ := hI.1
  have e : h 1 0 0 12 = h 13 0 0 (10 + 1) := s15
  show wX8_tells (nI 10) h (g_kI (fun b h2 => Z (h 1 0 0 12) b h2) EX1)
  exact q_tl (by decide) (e ▸ hZ _ _ (q_Iq 0 hI))
end QL
