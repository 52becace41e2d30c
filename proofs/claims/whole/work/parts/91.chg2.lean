/-! ===== the changes, as the law calls them ===== -/
/-- an answer of a boolean, or an exception -/
def q_AB (T : Nat) (Z : Int32 → Int32 → g_Hp → Prop) : Prop := ∀ k b h2, h2 5 0 0 1 = k → (k = 0 → (b = 0 ∨ b = 1) ∧ h2 15 0 0 1 = b) → q_I T h2 → Z k b h2
theorem q_f5 {φ : Nat} (h1 : 1 ≤ φ) (h2 : φ < 6) : φ = 1 ∨ φ = 2 ∨ φ = 3 ∨ φ = 4 ∨ φ = 5 := by omega
section QC
variable {T : Nat} {h : g_Hp} {p p1 : Int32} {Z : Int32 → Int32 → g_Hp → Prop} {EX0 EX1 : String → g_Hp → Prop}
theorem q_L0 (hI : q_I T h) (hZ : q_AN T Z) : wL_addMember p p1 h (g_kI (fun k h1 => wX8_addMember p p1 h1 (g_kI (fun b h2 => Z k b h2) EX1)) EX0) := by
  refine q_chg (T := T) (T' := T) (h := h) (FW := wX1_faultOfAdding 0 p p1) (AW := wX1_add 0 p p1) (MW := wX8_adds p p1) (κ := q_ka 1 2 3 0 0) (Z := Z) (EX1 := EX1) (Nat.le_refl _) hI (q_opA hI.1 p p1) hZ ?_
  intro φ a1 a2 a3 a4 K
  rcases q_f5 a1 a2 with rfl | rfl | rfl | rfl | rfl
  · exact Or.inl (And.intro rfl K)
  · exact Or.inr (Or.inl (And.intro rfl K))
  · exact Or.inr (Or.inr (And.intro rfl K))
  · exact absurd a3 (by decide)
  · exact absurd a3 (by decide)
theorem q_L12 (hI : q_I T h) (hZ : q_AN T Z) : wL_setWind p p1 h (g_kI (fun k h1 => wX8_setWind p p1 h1 (g_kI (fun b h2 => Z k b h2) EX1)) EX0) := by
  refine q_chg (T := T) (T' := T) (h := h) (FW := wX1_faultOfWind 0 p p1) (AW := wX1_turnWind 0 p p1) (MW := wX8_blows p p1) (κ := q_ka 0 1 0 0 0) (Z := Z) (EX1 := EX1) (Nat.le_refl _) hI (q_opW hI.1 p p1) hZ ?_
  intro φ a1 a2 a3 a4 K
  rcases q_f5 a1 a2 with rfl | rfl | rfl | rfl | rfl
  · exact absurd a3 (by decide)
  · exact And.intro rfl K
  · exact absurd a3 (by decide)
  · exact absurd a3 (by decide)
  · exact absurd a3 (by decide)
theorem q_L17 (hT : 99 * (T + 30) < 2 ^ 31) (hI : q_I T h) (hZ : q_AN (T + 30) Z) : wL_passShifts p h (g_kI (fun k h1 => wX8_passShifts p h1 (g_kI (fun b h2 => Z k b h2) EX1)) EX0) := by
  refine q_chg (T := T) (T' := (T + 30)) (h := h) (FW := wX1_faultOfPassing 0 p) (AW := wX1_pass 0 p) (MW := wX8_passes p) (κ := q_ka 0 1 0 0 0) (Z := Z) (EX1 := EX1) (Nat.le_add_right _ _) hI (q_opH hT hI.1 p) hZ ?_
  intro φ a1 a2 a3 a4 K
  rcases q_f5 a1 a2 with rfl | rfl | rfl | rfl | rfl
  · exact absurd a3 (by decide)
  · exact And.intro rfl K
  · exact absurd a3 (by decide)
  · exact absurd a3 (by decide)
  · exact absurd a3 (by decide)
theorem q_L23 (hI : q_I T h) (hZ : q_AN T Z) : wL_callStrike h (g_kI (fun k h1 => wX8_callStrike h1 (g_kI (fun b h2 => Z k b h2) EX1)) EX0) := by
  refine q_chg (T := T) (T' := T) (h := h) (FW := wX1_faultOfStriking 0) (AW := wX1_beginStrike 0) (MW := wX8_starts) (κ := q_ka 0 0 1 2 0) (Z := Z) (EX1 := EX1) (Nat.le_refl _) hI (q_opS hI.1) hZ ?_
  intro φ a1 a2 a3 a4 K
  rcases q_f5 a1 a2 with rfl | rfl | rfl | rfl | rfl
  · exact absurd a3 (by decide)
  · exact absurd a3 (by decide)
  · exact Or.inl (And.intro rfl K)
  · exact Or.inr (And.intro rfl K)
  · exact absurd a3 (by decide)
theorem q_L26 (hI : q_I T h) (hZ : q_AN T Z) : wL_payIn p h (g_kI (fun k h1 => wX8_payIn p h1 (g_kI (fun b h2 => Z k b h2) EX1)) EX0) := by
  refine q_chg (T := T) (T' := T) (h := h) (FW := wX1_faultOfPaying 0 p) (AW := wX1_pay 0 p) (MW := wX8_pays p) (κ := q_ka 0 1 2 0 0) (Z := Z) (EX1 := EX1) (Nat.le_refl _) hI (q_opP hI.1 p) hZ ?_
  intro φ a1 a2 a3 a4 K
  rcases q_f5 a1 a2 with rfl | rfl | rfl | rfl | rfl
  · exact absurd a3 (by decide)
  · exact Or.inl (And.intro rfl K)
  · exact Or.inr (And.intro rfl K)
  · exact absurd a3 (by decide)
  · exact absurd a3 (by decide)
theorem q_L30 (hI : q_I T h) (hZ : q_AN T Z) : wL_signUp p p1 h (g_kI (fun k h1 => wX8_signUp p p1 h1 (g_kI (fun b h2 => Z k b h2) EX1)) EX0) := by
  refine q_chg (T := T) (T' := T) (h := h) (FW := wX1_faultOfSigning 0 p p1) (AW := wX1_putOnList 0 p p1) (MW := wX8_signs p p1) (κ := q_ka 1 0 2 3 0) (Z := Z) (EX1 := EX1) (Nat.le_refl _) hI (q_opG hI.1 p p1) hZ ?_
  intro φ a1 a2 a3 a4 K
  rcases q_f5 a1 a2 with rfl | rfl | rfl | rfl | rfl
  · exact Or.inl (And.intro rfl K)
  · exact absurd a3 (by decide)
  · exact Or.inr (Or.inl (And.intro rfl K))
  · exact Or.inr (Or.inr (And.intro rfl K))
  · exact absurd a3 (by decide)
theorem q_L31 (hI : q_I T h) (hZ : q_AN T Z) : wL_strikeOff p h (g_kI (fun k h1 => wX8_strikeOff p h1 (g_kI (fun b h2 => Z k b h2) EX1)) EX0) := by
  refine q_chg (T := T) (T' := T) (h := h) (FW := wX1_faultOfStrikingOff 0 p) (AW := wX1_takeOffList 0 p) (MW := wX8_leaves p) (κ := q_ka 1 0 0 0 2) (Z := Z) (EX1 := EX1) (Nat.le_refl _) hI (q_opX hI.1 p) hZ ?_
  intro φ a1 a2 a3 a4 K
  rcases q_f5 a1 a2 with rfl | rfl | rfl | rfl | rfl
  · exact Or.inl (And.intro rfl K)
  · exact absurd a3 (by decide)
  · exact absurd a3 (by decide)
  · exact absurd a3 (by decide)
  · exact Or.inr (And.intro rfl K)
theorem q_L35 (hI : q_I T h) (hZ : q_AN T Z) : wL_makeOffer p h (g_kI (fun k h1 => wX8_makeOffer p h1 (g_kI (fun b h2 => Z k b h2) EX1)) EX0) := by
  refine q_chg (T := T) (T' := T) (h := h) (FW := wX1_faultOfOffering 0 p) (AW := wX1_offer 0 p) (MW := wX8_offers p) (κ := q_ka 0 1 2 0 0) (Z := Z) (EX1 := EX1) (Nat.le_refl _) hI (q_opO hI.1 p) hZ ?_
  intro φ a1 a2 a3 a4 K
  rcases q_f5 a1 a2 with rfl | rfl | rfl | rfl | rfl
  · exact absurd a3 (by decide)
  · exact Or.inl (And.intro rfl K)
  · exact Or.inr (And.intro rfl K)
  · exact absurd a3 (by decide)
  · exact absurd a3 (by decide)
theorem q_L20 (hI : q_I T h) (hZ : q_AN T Z) : wL_vote p p1 h (g_kI (fun k h1 => wX8_vote p p1 h1 (g_kI (fun b h2 => Z k b h2) EX1)) EX0) := by
  have hop : q_OPP (fun _ => True) T (q_cv h 0) (q_mv h 0) (wX1_faultOfVoting 0 p) (wX1_castVote 0 p p1) (fun h Q => ((p1 = 0) → wX8_votes p 2 h Q) ∧ ((¬ p1 = 0) → wX8_votes p 1 h Q)) (q_ka 1 0 2 0 0) := by
    by_cases z : p1 = 0
    · exact q_OPP_m (fun _ q => q) (fun h Q K => br_t z K) (q_OP_t (q_opV hI.1 p p1 2 (if_pos z).symm))
    · exact q_OPP_m (fun _ q => q) (fun h Q K => br_f z K) (q_OP_t (q_opV hI.1 p p1 1 (if_neg z).symm))
  refine q_chgP (P := fun _ => True) (T := T) (T' := T) (h := h) (Z := Z) (EX1 := EX1) (Nat.le_refl _) hI hop (fun k b h2 e1 e2 => hZ k b h2 e1 (fun z => (e2 z).2)) (fun u h1 _ K h3 e => e ▸ K) ?_
  intro φ a1 a2 a3 a4 K
  rcases q_f5 a1 a2 with rfl | rfl | rfl | rfl | rfl
  · exact Or.inl (And.intro rfl K)
  · exact absurd a3 (by decide)
  · exact Or.inr (And.intro rfl K)
  · exact absurd a3 (by decide)
  · exact absurd a3 (by decide)
theorem q_L36 (hI : q_I T h) (hZ : q_AB T Z) : wL_accept p h (g_kI (fun k h1 => wX8_accept p h1 (g_kI (fun b h2 => Z k b h2) EX1)) EX0) := by
  refine q_chgP (P := fun x => x = 0 ∨ x = 1) (T := T) (T' := T) (h := h) (FW := wX1_faultOfAccepting 0 p) (AW := wX1_takeAcceptance 0 p) (MW := wX8_accepts p) (κ := q_ka 1 0 3 0 2) (Z := fun k u h4 => ((¬ u = (1 : Int32)) → ((0 : Int32) = 0 ∨ (0 : Int32) = 1) ∧ Z k 0 h4) ∧ ((u = (1 : Int32)) → ((1 : Int32) = 0 ∨ (1 : Int32) = 1) ∧ Z k 1 h4)) (EX1 := EX1) (Nat.le_refl _) hI (q_opC hI.1 p) (fun k b h2 e1 e2 e3 => ?_) (fun u h1 hu K => And.intro hu ?_) ?_
  · refine And.intro (fun q => And.intro (Or.inl rfl) (hZ k 0 h2 e1 (fun z => And.intro (Or.inl rfl) ?_) e3)) (fun q => And.intro (Or.inr rfl) (hZ k 1 h2 e1 (fun z => And.intro (Or.inr rfl) ?_) e3))
    · rcases (e2 z).1 with y | y
      · exact (e2 z).2.trans y
      · exact absurd y q
    · exact (e2 z).2.trans q
  · rcases hu with rfl | rfl
    · exact br_t rfl (fun h3 e => e ▸ K)
    · exact br_f (by decide) (fun h3 e => e ▸ K)
  intro φ a1 a2 a3 a4 K
  rcases q_f5 a1 a2 with rfl | rfl | rfl | rfl | rfl
  · exact Or.inl (And.intro rfl K)
  · exact absurd a3 (by decide)
  · exact Or.inr (Or.inr (And.intro rfl K))
  · exact absurd a3 (by decide)
  · exact Or.inr (Or.inl (And.intro rfl K))
end QC
