/-! ===== the law's calls, joined: the others ===== -/
theorem q_cmI (i : Int) : compare i i = .eq := by
  show compareOfLessAndEq i i = .eq
  unfold compareOfLessAndEq
  rw [if_neg (Int.lt_irrefl i), if_pos rfl]
theorem q_ord {d : Jvm.FP.Core.Datum} (h : d ≠ .nan) : Jvm.FP.Core.order d d = some .eq := by
  match d, h with
  | .inf s, _ => exact congrArg some (q_cmI _)
  | .fin s c q, _ => exact congrArg some (q_cmI _)
theorem q_dcm {a : UInt64} (h : vf_n64 a) : Op.cmpValue (FP.dcmp a a) CmpOp.l = 0 := by
  have hk : q_ok64 a.toNat := by
    unfold q_ok64
    have h2 : a &&& 0x7fffffffffffffff ≤ 0x7ff0000000000000 := h
    rw [UInt64.le_iff_toNat_le, UInt64.toNat_and] at h2
    have h3 : a.toNat &&& (2 ^ 63 - 1) ≤ 9218868437227405312 := h2
    rw [Nat.and_two_pow_sub_one_eq_mod] at h3
    exact h3
  have e : FP.dcmp a a = some .eq := q_ord (q_od64 hk)
  rw [e]
  rfl
section QK
variable {T a0 L : Nat} {xs : Nat → Int32} {Q : g_R → g_Hp → Prop} {R : Int32 → g_Hp → Prop} {x5 : Int32} {h : g_Hp}
theorem q_J40 (hI : q_I T h) (hR : ∀ h2, q_I T h2 → wL_law_b2767 a0 L xs Q R x5 h2) : wL_law_b2220 a0 L xs Q R x5 h := by
  unfold wL_law_b2220
  exact q_L40 hI (fun a h2 hI2 => br_t (q_lgc a) (hR h2 hI2))
theorem q_J22 (hv1 : vp_in (x5 + (1 : Int32)) L) (hI : q_I T h) (hR : ∀ h2, q_I T h2 → wL_law_b2767 a0 L xs Q R x5 h2) : wL_law_b1332 a0 L xs Q R x5 h := by
  unfold wL_law_b1332
  simp only [hv1, true_and]
  refine q_L22 hI (fun k b h2 e1 e2 hI2 => ?_)
  unfold wX8_thrown
  refine br_t e1 ⟨fun _ => hR h2 hI2, fun z => ⟨fun c => br_t ?_ (hR h2 hI2), fun c => br_t ?_ (hR h2 hI2)⟩⟩
  · rw [(e2 z).2, c, q_lgc]
  · rcases (e2 z).1 with y | y
    · exact absurd y c
    · rw [(e2 z).2, y, q_lgc]
theorem q_J36 (hv1 : vp_in (x5 + (1 : Int32)) L) (hI : q_I T h) (hR : ∀ h2, q_I T h2 → wL_law_b2767 a0 L xs Q R x5 h2) : wL_law_b2013 a0 L xs Q R x5 h := by
  unfold wL_law_b2013
  simp only [hv1, true_and]
  refine q_L36 hI (fun k b h2 e1 e2 hI2 => ?_)
  unfold wX8_thrown
  refine br_t e1 ⟨fun _ => hR h2 hI2, fun z => ⟨fun c => br_t ?_ (hR h2 hI2), fun c => br_t ?_ (hR h2 hI2)⟩⟩
  · rw [(e2 z).2, c, q_lgc]
  · rcases (e2 z).1 with y | y
    · exact absurd y c
    · rw [(e2 z).2, y, q_lgc]
theorem q_J9 (hv1 : vp_in (x5 + (1 : Int32)) L) (hI : q_I T h) (hR : ∀ h2, q_I T h2 → wL_law_b2767 a0 L xs Q R x5 h2) : wL_law_b757 a0 L xs Q R x5 h := by
  unfold wL_law_b757
  simp only [hv1, true_and]
  refine q_L9 hI (fun k b h2 e1 e2 hI2 => ?_)
  unfold wX8_thrown
  refine br_t e1 ⟨fun _ => hR h2 hI2, fun z => And.intro (e2 z).2.1 (br_t ?_ (hR h2 hI2))⟩
  rw [(e2 z).2.2.1, (e2 z).2.2.2, g_d64_of]
  exact q_dcm (e2 z).2.1
theorem q_J51 (hI : q_I T h) (hR : ∀ h2, q_I T h2 → wL_law_b2767 a0 L xs Q R x5 h2) : wL_law_b2588 a0 L xs Q R x5 h := by
  unfold wL_law_b2588
  refine q_L51 hI (fun k b h2 e1 e2 hI2 => ?_)
  unfold wX8_thrown
  refine br_t e1 ⟨fun _ => hR h2 hI2, fun z => br_t ?_ (hR h2 hI2)⟩
  rw [(e2 z).2.1, (e2 z).2.2, g_d64_of]
  exact q_dcm (e2 z).1
theorem q_J20 (hv1 : vp_in (x5 + (1 : Int32)) L) (hv2 : vp_in (x5 + (2 : Int32)) L) (hI : q_I T h) (hR : ∀ h2, q_I T h2 → wL_law_b2767 a0 L xs Q R x5 h2) : wL_law_b1235 a0 L xs Q R x5 h := by
  unfold wL_law_b1235 wL_law_b1256
  refine And.intro hv1 (And.intro hv2 ?_)
  by_cases c : xs (x5 + (2 : Int32)).toNatClampNeg = 0
  · refine br_t c ?_
    have e : (fun (u2 : Int32) (h1 : g_Hp) => vp_in (x5 + (1 : Int32)) L ∧ vp_in (x5 + (2 : Int32)) L ∧ ((xs (x5 + (2 : Int32)).toNatClampNeg = 0) → wL_law_b1283 a0 L xs Q R x5 u2 (0 : Int32) (xs (x5 + (1 : Int32)).toNatClampNeg) h1) ∧ ((¬ xs (x5 + (2 : Int32)).toNatClampNeg = 0) → wL_law_b1283 a0 L xs Q R x5 u2 (1 : Int32) (xs (x5 + (1 : Int32)).toNatClampNeg) h1)) = (fun u2 h1 => wL_law_b1283 a0 L xs Q R x5 u2 (0 : Int32) (xs (x5 + (1 : Int32)).toNatClampNeg) h1) := funext fun u => funext fun h1 => propext ⟨fun q => q.2.2.1 c, fun q => ⟨hv1, hv2, br_t c q⟩⟩
    rw [e]
    exact q_L20 hI (q_Zn (wL_law_b2767 a0 L xs Q R x5) hR)
  · refine br_f c ?_
    have e : (fun (u2 : Int32) (h1 : g_Hp) => vp_in (x5 + (1 : Int32)) L ∧ vp_in (x5 + (2 : Int32)) L ∧ ((xs (x5 + (2 : Int32)).toNatClampNeg = 0) → wL_law_b1283 a0 L xs Q R x5 u2 (0 : Int32) (xs (x5 + (1 : Int32)).toNatClampNeg) h1) ∧ ((¬ xs (x5 + (2 : Int32)).toNatClampNeg = 0) → wL_law_b1283 a0 L xs Q R x5 u2 (1 : Int32) (xs (x5 + (1 : Int32)).toNatClampNeg) h1)) = (fun u2 h1 => wL_law_b1283 a0 L xs Q R x5 u2 (1 : Int32) (xs (x5 + (1 : Int32)).toNatClampNeg) h1) := funext fun u => funext fun h1 => propext ⟨fun q => q.2.2.2 c, fun q => ⟨hv1, hv2, br_f c q⟩⟩
    rw [e]
    exact q_L20 hI (q_Zn (wL_law_b2767 a0 L xs Q R x5) hR)
end QK
