/-! ===== rows for the program that lays the methods ===== -/
section GMisc
variable {Y : g_Y} {G : g_G} {X : g_X} {I J : g_I} {mc ms : Nat} {Q Q' : g_R → g_Hp → Prop} {pc k n : Nat} {ls ls' : List (Nat × g_AV)} {st as : List g_AV} {h : g_Hp} {v w u : g_AV} {ρ : g_Rh} {H : Heap} {locs : List Loc} {la : Array Slot}
variable {kk kr s i j idx N : Nat} {C : String}
theorem s_nmi {a e c' : Nat} (K : ∀ z, z = e → g_V G X I mc ms Q pc k n ls (vR a z c' :: st) h) : g_V G X I mc ms Q pc k n ls (vR a e c' :: st) h := K e rfl
theorem s_nmj {a e b : Nat} (K : ∀ z, z = e → g_V G X I mc ms Q pc k n ls (vR a b z :: st) h) : g_V G X I mc ms Q pc k n ls (vR a b e :: st) h := K e rfl
theorem s_iincN {i : Nat} {z : Int} {x z' : Int32} (C : g_Cx Y G X I) (d : decode I.2.2.1 pc = .ok (.iinc i z, 3)) (r : Nat) (hr : ls[r]? = some (i, vI x)) (hv : Int32.ofInt z = z') (hn : i < I.2.2.2.1) (K : ∀ y, y = x + z' → g_V G X I mc ms Q (pc + 3) k n (g_put1 i (vI y) ls) st h) : g_V G X I mc ms Q pc k n ls st h :=
  s_iinc C d r hr rfl hn rfl (K _ (by rw [hv]))
theorem s_ldcf {x : UInt32} (C : g_Cx Y G X I) (hw : Cond.constantFloat I.1 idx x ∈ g_WL) (d : decode I.2.2.1 pc = .ok (.ldc idx, 2)) (K : g_V G X I mc ms Q (pc + 2) k n ls (vV (.float x) :: st) h) : g_V G X I mc ms Q pc k n ls st h := by
  obtain ⟨p, l, e, R, s, m, args, below, meth, c, h0, ρ0⟩ := X
  exact fun ρ H locs la w => lv_ldcf C.1 C.2.1 (g_Cx_own C) (g_Cx_ts C _ hw) d (K ρ H locs la (g_P_push trivial w))
theorem s_ldci {x : Int32} (C : g_Cx Y G X I) (hw : Cond.constant I.1 idx x ∈ g_WL) (d : decode I.2.2.1 pc = .ok (.ldc idx, 2)) (K : g_V G X I mc ms Q (pc + 2) k n ls (vI x :: st) h) : g_V G X I mc ms Q pc k n ls st h := by
  obtain ⟨p, l, e, R, s, m, args, below, meth, c, h0, ρ0⟩ := X
  exact fun ρ H locs la w => lv_ldc C.1 C.2.1 (g_Cx_own C) (g_Cx_ts C _ hw) d (K ρ H locs la (g_P_push trivial w))
/-- a table switch: outside, or at the n-th row -/
theorem s_tsw {dflt lo hi : Int} {offs : Array Int} {len : Nat} {x : Int32} {tgtD : Nat} (C : g_Cx Y G X I) (d : decode I.2.2.1 pc = .ok (.tableswitch dflt lo hi offs, len)) (ht : (pc : Int) + dflt = (tgtD : Int)) (KD : x.toInt < lo ∨ hi < x.toInt → g_V G X I mc ms Q tgtD k n ls st h) (K : ∀ q : Nat, x.toInt = lo + (q : Int) ∧ lo + (q : Int) ≤ hi → ∃ (off : Int) (tgt : Nat), offs[q]? = some off ∧ (pc : Int) + off = (tgt : Int) ∧ g_V G X I mc ms Q tgt k n ls st h) : g_V G X I mc ms Q pc k n ls (vI x :: st) h := by
  by_cases h1 : x.toInt < lo
  · exact s_tableOut C d (Or.inl h1) ht (KD (Or.inl h1))
  · by_cases h2 : hi < x.toInt
    · exact s_tableOut C d (Or.inr h2) ht (KD (Or.inr h2))
    · obtain ⟨off, tgt, e1, e2, e3⟩ := K (x.toInt - lo).toNat ⟨by omega, by omega⟩
      exact s_tableIn C d h1 h2 e1 e2 e3
theorem g_nz {x : Int32} (h : x = 0 ∨ x = 1) : narrow .boolean (.int x) = .int x := by rcases h with rfl | rfl <;> decide
theorem g_fz {x : Int32} (h : x = 0 ∨ x = 1) : fits .boolean (.int x) = true := by rcases h with rfl | rfl <;> decide
theorem g_rtq_40 {i a : Nat} {x : Int32} (e : x.toNatClampNeg - 1 = a) : g_rt 4 0 i x = some (21, a, 0) := by rw [← e]; rfl
theorem g_rtq_60 {i a : Nat} {x : Int32} (e : x.toNatClampNeg - 1 = a) : g_rt 6 0 i x = some (14, i, a) := by rw [← e]; rfl
theorem g_pre_nil {Y : g_Y} {I : g_I} {E : String} : ∀ y ∈ ([] : List (Nat × Nat × Nat × Nat)), y.2.2.2 ≠ 0 ∧ ∃ nm : String, Cond.classLink I.1 y.2.2.2 nm ∈ g_WL ∧ (E, nm) ∈ Y.2.2.2.2.2.2.2 := fun _ h => nomatch h
theorem g_pre_cons {Y : g_Y} {I : g_I} {E nm : String} {x : Nat × Nat × Nat × Nat} {l : List (Nat × Nat × Nat × Nat)} (h0 : x.2.2.2 ≠ 0) (h1 : Cond.classLink I.1 x.2.2.2 nm ∈ g_WL) (h2 : (E, nm) ∈ Y.2.2.2.2.2.2.2) (h : ∀ y ∈ l, y.2.2.2 ≠ 0 ∧ ∃ nm : String, Cond.classLink I.1 y.2.2.2 nm ∈ g_WL ∧ (E, nm) ∈ Y.2.2.2.2.2.2.2) : ∀ y ∈ x :: l, y.2.2.2 ≠ 0 ∧ ∃ nm : String, Cond.classLink I.1 y.2.2.2 nm ∈ g_WL ∧ (E, nm) ∈ Y.2.2.2.2.2.2.2 := fun y hy => (List.mem_cons.mp hy).elim (fun e => e ▸ ⟨h0, nm, h1, h2⟩) (h y)
/-- the law's row of one double, as two halves -/
def g_upd (h : g_Hp) (x : UInt64) : g_Hp := g_up (g_up h 16 0 0 1 (x.toNat / 2 ^ 32).toInt32) 16 0 0 2 (x.toNat % 2 ^ 32).toInt32
theorem g_d64_of (x : UInt64) : g_d64 (x.toNat / 2 ^ 32).toInt32 (x.toNat % 2 ^ 32).toInt32 = x := by
  have hx := x.toNat_lt
  have e1 : ∀ q : Nat, q < 2 ^ 32 → (q.toInt32).toUInt32.toNat = q := fun q hq => by
    show (Int32.ofNat q).toUInt32.toNat = q
    have : (Int32.ofNat q).toUInt32 = UInt32.ofNat q := by rfl
    rw [this, UInt32.toNat_ofNat']
    exact Nat.mod_eq_of_lt hq
  unfold g_d64
  rw [e1 _ (by omega), e1 _ (by omega), Nat.div_add_mod']
  exact UInt64.ofNat_toNat
theorem s_dast0 {y : UInt64} (C0 : g_Cx Y G X I) (d : decode I.2.2.1 pc = .ok (.dastore, 1)) (K : g_V G X I mc ms Q (pc + 1) k n ls st (g_upd h y)) : g_V G X I mc ms Q pc k n ls (vV (.double y) :: vI 0 :: vR 16 0 0 :: st) h := by
  obtain ⟨p, l, e, R, s0, m, args, below, meth, c, h0, ρ0⟩ := X
  intro ρ H locs la w
  obtain ⟨hl, er⟩ := g_live (kk := 16) (Or.inl rfl) (by omega) w.1 (g_P_top (g_P_pop (g_P_pop w)))
  obtain ⟨L, q0, p1, p2, p3, p4, p5, p6, p7, e1, e2⟩ := g_HR_arr (by omega) (by omega) w.1 hl
  refine va_dast (D := G.1) (cl := vwCl) (tys := g_tys G) C0.1 C0.2.1 (g_Cx_K C0) p3 p4 w.2.1 q0 6 (n := 1) (f := fun e => g_d64 (h 16 0 0 (2 * e + 1)) (h 16 0 0 (2 * e + 2))) e2 rfl (show ¬ ((0 : Int32) < 0 ∨ 1 ≤ (0 : Int32).toNatClampNeg) by decide) d (fun H1 locs1 hP hD hS => ?_)
  have hse : g_seal (g_upd h y) := g_seal_up (g_seal_up p5 (fun z => by omega) (fun _ z => by omega)) (fun z => by omega) (fun _ z => by omega)
  have hx1 : g_ext h ρ (g_upd h y) ρ := g_ext_tr (g_ext_up h ρ 16 0 0 0 _) (g_ext_up _ ρ 16 0 0 1 _)
  have ef : vf_upd (fun e => g_d64 (h 16 0 0 (2 * e + 1)) (h 16 0 0 (2 * e + 2))) (0 : Int32).toNatClampNeg y = (fun e => g_d64 (g_upd h y 16 0 0 (2 * e + 1)) (g_upd h y 16 0 0 (2 * e + 2))) := by
    funext e
    unfold vf_upd
    by_cases he : e = 0
    · subst he
      have a1 : g_upd h y 16 0 0 (2 * 0 + 1) = (y.toNat / 2 ^ 32).toInt32 := by
        unfold g_upd
        rw [g_up_o _ _ _ _ _ _ (fun n => by have := n.2.2.2; omega)]
        exact g_up_s h 16 0 0 1 _
      have a2 : g_upd h y 16 0 0 (2 * 0 + 2) = (y.toNat % 2 ^ 32).toInt32 := by
        unfold g_upd
        exact g_up_s _ 16 0 0 2 _
      rw [a1, a2, g_d64_of]
      rfl
    · have a1 : ∀ q, 3 ≤ q → g_upd h y 16 0 0 q = h 16 0 0 q := fun q hq => by
        unfold g_upd
        rw [g_up_o _ _ _ _ _ _ (fun n => by have := n.2.2.2; omega), g_up_o _ _ _ _ _ _ (fun n => by have := n.2.2.2; omega)]
      rw [a1 _ (by omega), a1 _ (by omega)]
      exact if_neg he
  have hR : g_HR G ρ (g_upd h y) H1 := by
    have em := g_map_set p1 e1 (g_en G.2.1 ρ h) (g_en G.2.1 ρ (g_upd h y)) (fun b hb => (g_en_up hb).trans (g_en_up hb))
    have he : ((ρ 16 0 0, Sum.inl (G.2.1 16, 1, Sum.inr (Sum.inr (Sum.inr (Sum.inl (vf_upd (fun e => g_d64 (h 16 0 0 (2 * e + 1)) (h 16 0 0 (2 * e + 2))) (0 : Int32).toNatClampNeg y)))))) : Nat × va_E) = g_en G.2.1 ρ (g_upd h y) (16, 0, 0) := by rw [ef]; rfl
    rw [he] at hP hD
    rw [em] at hP hD
    exact ⟨L, p1, fun a => (p2 a).trans (g_lv_up.symm.trans g_lv_up.symm), hP, hD, hse, p6, p7⟩
  obtain ⟨w1, w2, w3, w4, w5, w6⟩ := g_P_pop (g_P_pop (g_P_pop w))
  exact K ρ H1 locs1 la ⟨hR, hS, w3, fun q hq => g_ok_mono hx1 (w4 q hq), fun q hq => g_ok_mono hx1 (w5 q hq), g_ext_tr w6 hx1⟩
theorem s_dald0 (C0 : g_Cx Y G X I) (d : decode I.2.2.1 pc = .ok (.daload, 1)) (K : g_V G X I mc ms Q (pc + 1) k n ls (vV (.double (g_d64 (h 16 0 0 1) (h 16 0 0 2))) :: st) h) : g_V G X I mc ms Q pc k n ls (vI 0 :: vR 16 0 0 :: st) h := by
  obtain ⟨p, l, e, R, s0, m, args, below, meth, c, h0, ρ0⟩ := X
  intro ρ H locs la w
  obtain ⟨hl, er⟩ := g_live (kk := 16) (Or.inl rfl) (by omega) w.1 (g_P_top (g_P_pop w))
  obtain ⟨L, q0, p1, p2, p3, p4, p5, p6, p7, e1, e2⟩ := g_HR_arr (by omega) (by omega) w.1 hl
  exact va_dald (D := G.1) (cl := vwCl) (tys := g_tys G) C0.1 C0.2.1 (g_Cx_K C0) p3 q0 6 (n := 1) (f := fun e => g_d64 (h 16 0 0 (2 * e + 1)) (h 16 0 0 (2 * e + 2))) e2 rfl (show ¬ ((0 : Int32) < 0 ∨ 1 ≤ (0 : Int32).toNatClampNeg) by decide) d (K ρ H locs la (g_P_push trivial (g_P_pop (g_P_pop w))))
end GMisc
