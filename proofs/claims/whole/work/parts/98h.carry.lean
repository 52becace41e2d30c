/-! ===== a command carried out ===== -/
def q_fw (kw : Nat) (d v : Int32) : g_Hp → (g_R → g_Hp → Prop) → Prop := match kw with
  | 0 => wX1_faultOfAdding 0 d v
  | 1 => wX1_faultOfWind 0 d v
  | 2 => wX1_faultOfPassing 0 v
  | 3 => wX1_faultOfVoting 0 v
  | 4 => wX1_faultOfStriking 0
  | 5 => wX1_faultOfPaying 0 v
  | 6 => wX1_faultOfSigning 0 d v
  | 7 => wX1_faultOfStrikingOff 0 v
  | 8 => wX1_faultOfOffering 0 v
  | _ => wX1_faultOfAccepting 0 v
def q_aw (kw : Nat) (d v s : Int32) : g_Hp → (g_R → g_Hp → Prop) → Prop := match kw with
  | 0 => wX1_add 0 d v
  | 1 => wX1_turnWind 0 d v
  | 2 => wX1_pass 0 v
  | 3 => wX1_castVote 0 v s
  | 4 => wX1_beginStrike 0
  | 5 => wX1_pay 0 v
  | 6 => wX1_putOnList 0 d v
  | 7 => wX1_takeOffList 0 v
  | 8 => wX1_offer 0 v
  | _ => wX1_takeAcceptance 0 v
def q_mw (kw : Nat) (x y : Int32) : g_Hp → (g_R → g_Hp → Prop) → Prop := match kw with
  | 0 => wX8_adds x y
  | 1 => wX8_blows x y
  | 2 => wX8_passes x
  | 3 => wX8_votes x y
  | 4 => wX8_starts
  | 5 => wX8_pays x
  | 6 => wX8_signs x y
  | 7 => wX8_leaves x
  | 8 => wX8_offers x
  | _ => wX8_accepts x
theorem q_kwc {kw : Nat} (h : kw < 10) : kw = 0 ∨ kw = 1 ∨ kw = 2 ∨ kw = 3 ∨ kw = 4 ∨ kw = 5 ∨ kw = 6 ∨ kw = 7 ∨ kw = 8 ∨ kw = 9 := by omega
theorem q_OP_up {T : Nat} {c : q_C} {w : Nat → Int32} {FW AW MW : g_Hp → (g_R → g_Hp → Prop) → Prop} {κ : Nat → Nat} (h : q_OP T c w FW AW MW κ) : ∃ κ, q_OP (T + 30) c w FW AW MW κ := by
  rcases h with h | ⟨c', w', x, hR, h⟩
  · exact ⟨κ, Or.inl h⟩
  · exact ⟨κ, Or.inr ⟨c', w', x, q_R_mono (Nat.le_add_right _ _) hR, h⟩⟩
/-- the model's two numbers -/
def q_x2 (r : q_rc) : Int32 := if r.2.2.1 = 0 ∨ r.2.2.1 = 1 ∨ r.2.2.1 = 6 then r.2.2.2.1 else r.2.2.2.2.1
def q_x3 (r : q_rc) : Int32 := if r.2.2.1 = 3 then (if r.2.2.2.2.2 = 0 then 2 else 1) else r.2.2.2.2.1
theorem q_fw_0 (d v : Int32) : q_fw 0 d v = wX1_faultOfAdding 0 d v := rfl
theorem q_aw_0 (d v s : Int32) : q_aw 0 d v s = wX1_add 0 d v := rfl
theorem q_mw_0 (x y : Int32) : q_mw 0 x y = wX8_adds x y := rfl
theorem q_fw_1 (d v : Int32) : q_fw 1 d v = wX1_faultOfWind 0 d v := rfl
theorem q_aw_1 (d v s : Int32) : q_aw 1 d v s = wX1_turnWind 0 d v := rfl
theorem q_mw_1 (x y : Int32) : q_mw 1 x y = wX8_blows x y := rfl
theorem q_fw_2 (d v : Int32) : q_fw 2 d v = wX1_faultOfPassing 0 v := rfl
theorem q_aw_2 (d v s : Int32) : q_aw 2 d v s = wX1_pass 0 v := rfl
theorem q_mw_2 (x y : Int32) : q_mw 2 x y = wX8_passes x := rfl
theorem q_fw_3 (d v : Int32) : q_fw 3 d v = wX1_faultOfVoting 0 v := rfl
theorem q_aw_3 (d v s : Int32) : q_aw 3 d v s = wX1_castVote 0 v s := rfl
theorem q_mw_3 (x y : Int32) : q_mw 3 x y = wX8_votes x y := rfl
theorem q_fw_4 (d v : Int32) : q_fw 4 d v = wX1_faultOfStriking 0 := rfl
theorem q_aw_4 (d v s : Int32) : q_aw 4 d v s = wX1_beginStrike 0 := rfl
theorem q_mw_4 (x y : Int32) : q_mw 4 x y = wX8_starts := rfl
theorem q_fw_5 (d v : Int32) : q_fw 5 d v = wX1_faultOfPaying 0 v := rfl
theorem q_aw_5 (d v s : Int32) : q_aw 5 d v s = wX1_pay 0 v := rfl
theorem q_mw_5 (x y : Int32) : q_mw 5 x y = wX8_pays x := rfl
theorem q_fw_6 (d v : Int32) : q_fw 6 d v = wX1_faultOfSigning 0 d v := rfl
theorem q_aw_6 (d v s : Int32) : q_aw 6 d v s = wX1_putOnList 0 d v := rfl
theorem q_mw_6 (x y : Int32) : q_mw 6 x y = wX8_signs x y := rfl
theorem q_fw_7 (d v : Int32) : q_fw 7 d v = wX1_faultOfStrikingOff 0 v := rfl
theorem q_aw_7 (d v s : Int32) : q_aw 7 d v s = wX1_takeOffList 0 v := rfl
theorem q_mw_7 (x y : Int32) : q_mw 7 x y = wX8_leaves x := rfl
theorem q_fw_8 (d v : Int32) : q_fw 8 d v = wX1_faultOfOffering 0 v := rfl
theorem q_aw_8 (d v s : Int32) : q_aw 8 d v s = wX1_offer 0 v := rfl
theorem q_mw_8 (x y : Int32) : q_mw 8 x y = wX8_offers x := rfl
theorem q_fw_9 (d v : Int32) : q_fw 9 d v = wX1_faultOfAccepting 0 v := rfl
theorem q_aw_9 (d v s : Int32) : q_aw 9 d v s = wX1_takeAcceptance 0 v := rfl
theorem q_mw_9 (x y : Int32) : q_mw 9 x y = wX8_accepts x := rfl
theorem q_mwc {r : q_rc} {x y : Int32} (hk : r.2.2.1 < 10) (h : q_ar r x y) : q_mw r.2.2.1 x y = q_mw r.2.2.1 (q_x2 r) (q_x3 r) := by
  obtain ⟨p, p', kw, d, v, s⟩ := r
  obtain ⟨h1, h2, h3⟩ := h
  dsimp only at h1 h2 h3 hk ⊢
  rcases q_kwc hk with rfl | rfl | rfl | rfl | rfl | rfl | rfl | rfl | rfl | rfl
  · have ⟨a, b⟩ := h1 (Or.inl rfl)
    have e2 : q_x2 (p, p', 0, d, v, s) = d := if_pos (Or.inl rfl)
    have e3 : q_x3 (p, p', 0, d, v, s) = v := if_neg (by show ¬ 0 = 3; decide)
    rw [q_mw_0, q_mw_0, e2, e3, a, b]
  · have ⟨a, b⟩ := h1 (Or.inr (Or.inl rfl))
    have e2 : q_x2 (p, p', 1, d, v, s) = d := if_pos (Or.inr (Or.inl rfl))
    have e3 : q_x3 (p, p', 1, d, v, s) = v := if_neg (by show ¬ 1 = 3; decide)
    rw [q_mw_1, q_mw_1, e2, e3, a, b]
  · have a := h2 (by unfold q_hd; decide) (by decide)
    have e2 : q_x2 (p, p', 2, d, v, s) = v := if_neg (by show ¬ (2 = 0 ∨ 2 = 1 ∨ 2 = 6); decide)
    rw [q_mw_2, q_mw_2, e2, a]
  · have a := h2 (by unfold q_hd; decide) (by decide)
    have e2 : q_x2 (p, p', 3, d, v, s) = v := if_neg (by show ¬ (3 = 0 ∨ 3 = 1 ∨ 3 = 6); decide)
    have b := h3 rfl
    have e3 : q_x3 (p, p', 3, d, v, s) = (if s = 0 then 2 else 1) := if_pos rfl
    rw [q_mw_3, q_mw_3, e2, e3, a, b]
  · rw [q_mw_4, q_mw_4]
  · have a := h2 (by unfold q_hd; decide) (by decide)
    have e2 : q_x2 (p, p', 5, d, v, s) = v := if_neg (by show ¬ (5 = 0 ∨ 5 = 1 ∨ 5 = 6); decide)
    rw [q_mw_5, q_mw_5, e2, a]
  · have ⟨a, b⟩ := h1 (Or.inr (Or.inr rfl))
    have e2 : q_x2 (p, p', 6, d, v, s) = d := if_pos (Or.inr (Or.inr rfl))
    have e3 : q_x3 (p, p', 6, d, v, s) = v := if_neg (by show ¬ 6 = 3; decide)
    rw [q_mw_6, q_mw_6, e2, e3, a, b]
  · have a := h2 (by unfold q_hd; decide) (by decide)
    have e2 : q_x2 (p, p', 7, d, v, s) = v := if_neg (by show ¬ (7 = 0 ∨ 7 = 1 ∨ 7 = 6); decide)
    rw [q_mw_7, q_mw_7, e2, a]
  · have a := h2 (by unfold q_hd; decide) (by decide)
    have e2 : q_x2 (p, p', 8, d, v, s) = v := if_neg (by show ¬ (8 = 0 ∨ 8 = 1 ∨ 8 = 6); decide)
    rw [q_mw_8, q_mw_8, e2, a]
  · have a := h2 (by unfold q_hd; decide) (by decide)
    have e2 : q_x2 (p, p', 9, d, v, s) = v := if_neg (by show ¬ (9 = 0 ∨ 9 = 1 ∨ 9 = 6); decide)
    rw [q_mw_9, q_mw_9, e2, a]
theorem q_opK {T : Nat} {c : q_C} {w : Nat → Int32} (hT : 99 * (T + 30) < 2 ^ 31) (hR : q_R T c w) (r : q_rc) (hk : r.2.2.1 < 10) : ∃ κ, q_OP (T + 30) c w (q_fw r.2.2.1 r.2.2.2.1 r.2.2.2.2.1) (q_aw r.2.2.1 r.2.2.2.1 r.2.2.2.2.1 r.2.2.2.2.2) (q_mw r.2.2.1 (q_x2 r) (q_x3 r)) κ := by
  obtain ⟨p, p', kw, d, v, s⟩ := r
  dsimp only at hk ⊢
  rcases q_kwc hk with rfl | rfl | rfl | rfl | rfl | rfl | rfl | rfl | rfl | rfl
  · exact q_OP_up (q_opA hR d v)
  · exact q_OP_up (q_opW hR d v)
  · exact ⟨_, q_opH hT hR v⟩
  · exact q_OP_up (q_opV hR v s (if s = 0 then 2 else 1) rfl)
  · exact q_OP_up (q_opS hR)
  · exact q_OP_up (q_opP hR v)
  · exact q_OP_up (q_opG hR d v)
  · exact q_OP_up (q_opX hR v)
  · exact q_OP_up (q_opO hR v)
  · exact q_OP_up (q_OP_b (q_opC hR v))
/-! the class's switches -/
theorem q_fwK {kw j : Nat} {H : g_Hp} {Q : g_R → g_Hp → Prop} (hk : kw < 10) (e1 : H 4 j 0 1 = nI (kw + 1)) (K : q_fw kw (H 4 j 0 2) (H 4 j 0 3) H (g_kR 20 (fun a b h' => Q (.inl (some (vR 20 a b))) h') (fun E h' => Q (.inr E) h'))) : wX1_faultOf 0 j H Q := by
  unfold wX1_faultOf
  refine nm_r (e' := kw) (by rw [e1, nI_clamp (by omega), Nat.add_sub_cancel]) ?_
  unfold wJx29ce0_ordinal_8abf5_21
  rcases q_kwc hk with rfl | rfl | rfl | rfl | rfl | rfl | rfl | rfl | rfl | rfl
  all_goals
    refine And.intro (by decide) (And.intro (by decide) (And.intro ?_ ⟨fun q => ?_, fun q => ?_, fun q => ?_, fun q => ?_, fun q => ?_, fun q => ?_, fun q => ?_, fun q => ?_, fun q => ?_, fun q => ?_⟩))
    all_goals first | exact K | exact absurd q (by decide) | exact q_vI (m := _) (by decide) (by decide)
theorem q_awK {kw j : Nat} {H : g_Hp} {Q : g_R → g_Hp → Prop} (hk : kw < 10) (e1 : H 4 j 0 1 = nI (kw + 1)) (K : q_aw kw (H 4 j 0 2) (H 4 j 0 3) (H 4 j 0 4) H (g_kI (fun _ h' => Q (.inl none) h') (fun E h' => Q (.inr E) h'))) : wX1_carryOut 0 j H Q := by
  unfold wX1_carryOut
  refine nm_r (e' := kw) (by rw [e1, nI_clamp (by omega), Nat.add_sub_cancel]) ?_
  unfold wJx29ce0_ordinal_8abf5_21
  rcases q_kwc hk with rfl | rfl | rfl | rfl | rfl | rfl | rfl | rfl | rfl | rfl
  all_goals
    refine And.intro (by decide) (And.intro (by decide) (And.intro ?_ ⟨fun q => ?_, fun q => ?_, fun q => ?_, fun q => ?_, fun q => ?_, fun q => ?_, fun q => ?_, fun q => ?_, fun q => ?_, fun q => ?_⟩))
    all_goals first | exact K | exact absurd q (by decide) | exact q_vI (m := _) (by decide) (by decide)
theorem q_mwK {kw : Nat} {x y : Int32} {H : g_Hp} {Q : g_R → g_Hp → Prop} (hk : kw < 10) (K : q_mw kw x y H (g_kI (fun u h' => Q (.inl (some (vI u))) h') (fun E h' => Q (.inr E) h'))) : wX8_does (nI kw) x y H Q := by
  unfold wX8_does
  rcases q_kwc hk with rfl | rfl | rfl | rfl | rfl | rfl | rfl | rfl | rfl | rfl
  all_goals
    refine ⟨fun q => ?_, fun q => ?_, fun q => ?_, fun q => ?_, fun q => ?_, fun q => ?_, fun q => ?_, fun q => ?_, fun q => ?_, fun q => ?_⟩
    all_goals first | exact K | exact absurd q (by decide)
theorem q_fwc {kw : Nat} {d d' v v' : Int32} (hk : kw < 10) (h1 : q_hd kw → d = d') (h2 : kw ≠ 4 → v = v') : q_fw kw d v = q_fw kw d' v' := by
  rcases q_kwc hk with rfl | rfl | rfl | rfl | rfl | rfl | rfl | rfl | rfl | rfl
  · rw [q_fw_0, q_fw_0, h1 (Or.inl rfl), h2 (by decide)]
  · rw [q_fw_1, q_fw_1, h1 (Or.inr (Or.inl rfl)), h2 (by decide)]
  · rw [q_fw_2, q_fw_2, h2 (by decide)]
  · rw [q_fw_3, q_fw_3, h2 (by decide)]
  · rw [q_fw_4, q_fw_4]
  · rw [q_fw_5, q_fw_5, h2 (by decide)]
  · rw [q_fw_6, q_fw_6, h1 (Or.inr (Or.inr rfl)), h2 (by decide)]
  · rw [q_fw_7, q_fw_7, h2 (by decide)]
  · rw [q_fw_8, q_fw_8, h2 (by decide)]
  · rw [q_fw_9, q_fw_9, h2 (by decide)]
theorem q_awc {kw : Nat} {d d' v v' s s' : Int32} (hk : kw < 10) (h1 : q_hd kw → d = d') (h2 : kw ≠ 4 → v = v') (h3 : kw = 3 → s = s') : q_aw kw d v s = q_aw kw d' v' s' := by
  rcases q_kwc hk with rfl | rfl | rfl | rfl | rfl | rfl | rfl | rfl | rfl | rfl
  · rw [q_aw_0, q_aw_0, h1 (Or.inl rfl), h2 (by decide)]
  · rw [q_aw_1, q_aw_1, h1 (Or.inr (Or.inl rfl)), h2 (by decide)]
  · rw [q_aw_2, q_aw_2, h2 (by decide)]
  · rw [q_aw_3, q_aw_3, h2 (by decide), h3 rfl]
  · rw [q_aw_4, q_aw_4]
  · rw [q_aw_5, q_aw_5, h2 (by decide)]
  · rw [q_aw_6, q_aw_6, h1 (Or.inr (Or.inr rfl)), h2 (by decide)]
  · rw [q_aw_7, q_aw_7, h2 (by decide)]
  · rw [q_aw_8, q_aw_8, h2 (by decide)]
  · rw [q_aw_9, q_aw_9, h2 (by decide)]
/-! the whole course of a text -/
abbrev q_S : Type := q_C × (Nat → Int32)
def q_SG (r : q_rc) (T : Nat) (a b : q_S) : Prop := q_R T b.1 b.2 ∧ ∃ x, (∀ h (Q : g_R → g_Hp → Prop), Q (.inl (some (vR 20 0 0))) (q_cH h 0 a.1) → q_fw r.2.2.1 r.2.2.2.1 r.2.2.2.2.1 (q_cH h 0 a.1) Q) ∧ (∀ h (Q : g_R → g_Hp → Prop), Q (.inl (some (vI x))) (q_cH h 0 b.1) → q_aw r.2.2.1 r.2.2.2.1 r.2.2.2.2.1 r.2.2.2.2.2 (q_cH h 0 a.1) Q) ∧ (∀ h (Q : g_R → g_Hp → Prop), Q (.inl (some (vI x))) (q_mH h 0 b.2) → q_mw r.2.2.1 (q_x2 r) (q_x3 r) (q_mH h 0 a.2) Q)
def q_SF (r : q_rc) (a : q_S) : Prop := ∃ φ k, 1 ≤ φ ∧ φ < 6 ∧ 1 ≤ k ∧ k ≤ 3 ∧ (∀ h (Q : g_R → g_Hp → Prop), Q (.inl (some (vR 20 φ 0))) (q_cH h 0 a.1) → q_fw r.2.2.1 r.2.2.2.1 r.2.2.2.2.1 (q_cH h 0 a.1) Q) ∧ (∀ h (Q : g_R → g_Hp → Prop), Q (.inl (some (vI 0))) (q_mH (g_up h 5 0 0 1 (nI k)) 0 a.2) → q_mw r.2.2.1 (q_x2 r) (q_x3 r) (q_mH h 0 a.2) Q)
theorem q_opD {T : Nat} {a : q_S} (hT : 99 * (T + 30) < 2 ^ 31) (hR : q_R T a.1 a.2) (r : q_rc) (hk : r.2.2.1 < 10) : (∃ b, q_SG r (T + 30) a b) ∨ q_SF r a := by
  obtain ⟨κ, h⟩ := q_opK hT hR r hk
  rcases h with ⟨φ, a1, a2, a3, a4, kF, kM⟩ | ⟨c', w', x, hR', kF, kA, kM⟩
  · exact Or.inr ⟨φ, κ φ, a1, a2, a3, a4, kF, kM⟩
  · exact Or.inl ⟨(c', w'), hR', x, kF, kA, kM⟩
/-- as far as the commands go -/
def q_SQ (C : Nat → q_rc) (T M J : Nat) (S : Nat → q_S) : Prop := J ≤ M ∧ (∀ j, j < J → q_SG (C j) (T + 30 * (j + 1)) (S j) (S (j + 1))) ∧ (J < M → q_SF (C J) (S J)) ∧ q_R (T + 30 * J) (S J).1 (S J).2
theorem q_SQx {C : Nat → q_rc} {T : Nat} {a : q_S} (hR : q_R T a.1 a.2) : ∀ M, 99 * (T + 30 * M) < 2 ^ 31 → (∀ j, j < M → (C j).2.2.1 < 10) → ∃ J S, S 0 = a ∧ q_SQ C T M J S
  | 0, _, _ => ⟨0, fun _ => a, rfl, Nat.le_refl _, fun j hj => absurd hj (by omega), fun hj => absurd hj (by omega), hR⟩
  | M + 1, hT, hk => by
    obtain ⟨J, S, s0, j1, j2, j3, j4⟩ := q_SQx hR M (by omega) (fun j hj => hk j (by omega))
    rcases Nat.lt_or_ge J M with z | z
    · exact ⟨J, S, s0, by omega, j2, fun _ => j3 z, j4⟩
    · have e : J = M := by omega
      subst e
      rcases q_opD (T := T + 30 * J) (by omega) j4 (C J) (hk J (by omega)) with ⟨b, hb⟩ | hf
      · have hb' : q_SG (C J) (T + 30 * (J + 1)) (S J) b := by
          rw [show T + 30 * (J + 1) = T + 30 * J + 30 by omega]
          exact hb
        refine ⟨J + 1, q_pt S (J + 1) b, (q_pto _ _ (by omega)).trans s0, Nat.le_refl _, fun j hj => ?_, fun hj => absurd hj (by omega), ?_⟩
        · by_cases y : j = J
          · subst y
            rw [q_pts, q_pto _ _ (by omega)]
            exact hb'
          · rw [q_pto _ _ (by omega), q_pto _ _ (by omega)]
            exact j2 j (by omega)
        · rw [q_pts]
          exact hb'.1
      · exact ⟨J, S, s0, by omega, j2, fun _ => hf, j4⟩
