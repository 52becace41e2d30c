/-! ===== how it starts: the model, all ===== -/
def q_w7 : Nat → Int32 := (upd (upd (upd (upd (upd (upd (upd (upd (upd (upd (upd (upd (upd (upd (upd (upd (upd (upd (upd (upd (upd (upd (upd (upd (upd (upd (upd (upd (upd (upd (upd (upd (upd (upd (upd (upd (upd (upd (upd (upd (upd (upd (upd (upd (upd (upd (upd (upd (upd (upd (upd (upd (upd (upd (upd (upd (upd (fun _ => (0 : Int32)) ((0 : Int32).toNatClampNeg) (109 : Int32)) ((1 : Int32).toNatClampNeg) (101 : Int32)) ((2 : Int32).toNatClampNeg) (109 : Int32)) ((3 : Int32).toNatClampNeg) (98 : Int32)) ((4 : Int32).toNatClampNeg) (101 : Int32)) ((5 : Int32).toNatClampNeg) (114 : Int32)) ((6 : Int32).toNatClampNeg) (32 : Int32)) ((7 : Int32).toNatClampNeg) (119 : Int32)) ((8 : Int32).toNatClampNeg) (105 : Int32)) ((9 : Int32).toNatClampNeg) (110 : Int32)) ((10 : Int32).toNatClampNeg) (100 : Int32)) ((11 : Int32).toNatClampNeg) (32 : Int32)) ((12 : Int32).toNatClampNeg) (115 : Int32)) ((13 : Int32).toNatClampNeg) (104 : Int32)) ((14 : Int32).toNatClampNeg) (105 : Int32)) ((15 : Int32).toNatClampNeg) (102 : Int32)) ((16 : Int32).toNatClampNeg) (116 : Int32)) ((17 : Int32).toNatClampNeg) (32 : Int32)) ((18 : Int32).toNatClampNeg) (118 : Int32)) ((19 : Int32).toNatClampNeg) (111 : Int32)) ((20 : Int32).toNatClampNeg) (116 : Int32)) ((21 : Int32).toNatClampNeg) (101 : Int32)) ((22 : Int32).toNatClampNeg) (32 : Int32)) ((23 : Int32).toNatClampNeg) (115 : Int32)) ((24 : Int32).toNatClampNeg) (116 : Int32)) ((25 : Int32).toNatClampNeg) (114 : Int32)) ((26 : Int32).toNatClampNeg) (105 : Int32)) ((27 : Int32).toNatClampNeg) (107 : Int32)) ((28 : Int32).toNatClampNeg) (101 : Int32)) ((29 : Int32).toNatClampNeg) (112 : Int32)) ((30 : Int32).toNatClampNeg) (97 : Int32)) ((31 : Int32).toNatClampNeg) (121 : Int32)) ((32 : Int32).toNatClampNeg) (32 : Int32)) ((33 : Int32).toNatClampNeg) (112 : Int32)) ((34 : Int32).toNatClampNeg) (105 : Int32)) ((35 : Int32).toNatClampNeg) (99 : Int32)) ((36 : Int32).toNatClampNeg) (107 : Int32)) ((37 : Int32).toNatClampNeg) (101 : Int32)) ((38 : Int32).toNatClampNeg) (116 : Int32)) ((39 : Int32).toNatClampNeg) (32 : Int32)) ((40 : Int32).toNatClampNeg) (111 : Int32)) ((41 : Int32).toNatClampNeg) (102 : Int32)) ((42 : Int32).toNatClampNeg) (102 : Int32)) ((43 : Int32).toNatClampNeg) (32 : Int32)) ((44 : Int32).toNatClampNeg) (111 : Int32)) ((45 : Int32).toNatClampNeg) (102 : Int32)) ((46 : Int32).toNatClampNeg) (102 : Int32)) ((47 : Int32).toNatClampNeg) (101 : Int32)) ((48 : Int32).toNatClampNeg) (114 : Int32)) ((49 : Int32).toNatClampNeg) (32 : Int32)) ((50 : Int32).toNatClampNeg) (97 : Int32)) ((51 : Int32).toNatClampNeg) (99 : Int32)) ((52 : Int32).toNatClampNeg) (99 : Int32)) ((53 : Int32).toNatClampNeg) (101 : Int32)) ((54 : Int32).toNatClampNeg) (112 : Int32)) ((55 : Int32).toNatClampNeg) (116 : Int32)) ((56 : Int32).toNatClampNeg) (32 : Int32))
def q_w8 : Nat → Int32 := (upd (upd (upd (upd (upd (upd (upd (upd (upd (upd (upd (fun _ => (0 : Int32)) ((0 : Int32).toNatClampNeg) (0 : Int32)) ((1 : Int32).toNatClampNeg) (7 : Int32)) ((2 : Int32).toNatClampNeg) (12 : Int32)) ((3 : Int32).toNatClampNeg) (18 : Int32)) ((4 : Int32).toNatClampNeg) (23 : Int32)) ((5 : Int32).toNatClampNeg) (29 : Int32)) ((6 : Int32).toNatClampNeg) (33 : Int32)) ((7 : Int32).toNatClampNeg) (40 : Int32)) ((8 : Int32).toNatClampNeg) (44 : Int32)) ((9 : Int32).toNatClampNeg) (50 : Int32)) ((10 : Int32).toNatClampNeg) (57 : Int32))
theorem q_w7D : ∀ k, k < 57 → q_w7 k = ((g_by 0 ++ g_by 1 ++ g_by 2 ++ g_by 3 ++ g_by 4 ++ g_by 5 ++ g_by 6 ++ g_by 7 ++ g_by 8 ++ g_by 9).getD k 0) := by decide +kernel
theorem q_w8D : ∀ k, k < 11 → q_w8 k = ([0, 7, 12, 18, 23, 29, 33, 40, 44, 50, 57] : List Int32).getD k 0 := by decide +kernel
theorem q_rw7 {H : g_Hp} {R : g_Hp → Prop} (hz : ∀ e, H 13 7 0 (e + 1) = 0) (K : R (q_mH H 7 q_w7)) : ∀ h18 : g_Hp, h18 = g_up H 13 7 0 ((0 : Int32).toNatClampNeg + 1) (109 : Int32) → ∀ h19 : g_Hp, h19 = g_up h18 13 7 0 ((1 : Int32).toNatClampNeg + 1) (101 : Int32) → ∀ h20 : g_Hp, h20 = g_up h19 13 7 0 ((2 : Int32).toNatClampNeg + 1) (109 : Int32) → ∀ h21 : g_Hp, h21 = g_up h20 13 7 0 ((3 : Int32).toNatClampNeg + 1) (98 : Int32) → ∀ h22 : g_Hp, h22 = g_up h21 13 7 0 ((4 : Int32).toNatClampNeg + 1) (101 : Int32) → ∀ h23 : g_Hp, h23 = g_up h22 13 7 0 ((5 : Int32).toNatClampNeg + 1) (114 : Int32) → ∀ h24 : g_Hp, h24 = g_up h23 13 7 0 ((6 : Int32).toNatClampNeg + 1) (32 : Int32) → ∀ h25 : g_Hp, h25 = g_up h24 13 7 0 ((7 : Int32).toNatClampNeg + 1) (119 : Int32) → ∀ h26 : g_Hp, h26 = g_up h25 13 7 0 ((8 : Int32).toNatClampNeg + 1) (105 : Int32) → ∀ h27 : g_Hp, h27 = g_up h26 13 7 0 ((9 : Int32).toNatClampNeg + 1) (110 : Int32) → ∀ h28 : g_Hp, h28 = g_up h27 13 7 0 ((10 : Int32).toNatClampNeg + 1) (100 : Int32) → ∀ h29 : g_Hp, h29 = g_up h28 13 7 0 ((11 : Int32).toNatClampNeg + 1) (32 : Int32) → ∀ h30 : g_Hp, h30 = g_up h29 13 7 0 ((12 : Int32).toNatClampNeg + 1) (115 : Int32) → ∀ h31 : g_Hp, h31 = g_up h30 13 7 0 ((13 : Int32).toNatClampNeg + 1) (104 : Int32) → ∀ h32 : g_Hp, h32 = g_up h31 13 7 0 ((14 : Int32).toNatClampNeg + 1) (105 : Int32) → ∀ h33 : g_Hp, h33 = g_up h32 13 7 0 ((15 : Int32).toNatClampNeg + 1) (102 : Int32) → ∀ h34 : g_Hp, h34 = g_up h33 13 7 0 ((16 : Int32).toNatClampNeg + 1) (116 : Int32) → ∀ h35 : g_Hp, h35 = g_up h34 13 7 0 ((17 : Int32).toNatClampNeg + 1) (32 : Int32) → ∀ h36 : g_Hp, h36 = g_up h35 13 7 0 ((18 : Int32).toNatClampNeg + 1) (118 : Int32) → ∀ h37 : g_Hp, h37 = g_up h36 13 7 0 ((19 : Int32).toNatClampNeg + 1) (111 : Int32) → ∀ h38 : g_Hp, h38 = g_up h37 13 7 0 ((20 : Int32).toNatClampNeg + 1) (116 : Int32) → ∀ h39 : g_Hp, h39 = g_up h38 13 7 0 ((21 : Int32).toNatClampNeg + 1) (101 : Int32) → ∀ h40 : g_Hp, h40 = g_up h39 13 7 0 ((22 : Int32).toNatClampNeg + 1) (32 : Int32) → ∀ h41 : g_Hp, h41 = g_up h40 13 7 0 ((23 : Int32).toNatClampNeg + 1) (115 : Int32) → ∀ h42 : g_Hp, h42 = g_up h41 13 7 0 ((24 : Int32).toNatClampNeg + 1) (116 : Int32) → ∀ h43 : g_Hp, h43 = g_up h42 13 7 0 ((25 : Int32).toNatClampNeg + 1) (114 : Int32) → ∀ h44 : g_Hp, h44 = g_up h43 13 7 0 ((26 : Int32).toNatClampNeg + 1) (105 : Int32) → ∀ h45 : g_Hp, h45 = g_up h44 13 7 0 ((27 : Int32).toNatClampNeg + 1) (107 : Int32) → ∀ h46 : g_Hp, h46 = g_up h45 13 7 0 ((28 : Int32).toNatClampNeg + 1) (101 : Int32) → ∀ h47 : g_Hp, h47 = g_up h46 13 7 0 ((29 : Int32).toNatClampNeg + 1) (112 : Int32) → ∀ h48 : g_Hp, h48 = g_up h47 13 7 0 ((30 : Int32).toNatClampNeg + 1) (97 : Int32) → ∀ h49 : g_Hp, h49 = g_up h48 13 7 0 ((31 : Int32).toNatClampNeg + 1) (121 : Int32) → ∀ h50 : g_Hp, h50 = g_up h49 13 7 0 ((32 : Int32).toNatClampNeg + 1) (32 : Int32) → ∀ h51 : g_Hp, h51 = g_up h50 13 7 0 ((33 : Int32).toNatClampNeg + 1) (112 : Int32) → ∀ h52 : g_Hp, h52 = g_up h51 13 7 0 ((34 : Int32).toNatClampNeg + 1) (105 : Int32) → ∀ h53 : g_Hp, h53 = g_up h52 13 7 0 ((35 : Int32).toNatClampNeg + 1) (99 : Int32) → ∀ h54 : g_Hp, h54 = g_up h53 13 7 0 ((36 : Int32).toNatClampNeg + 1) (107 : Int32) → ∀ h55 : g_Hp, h55 = g_up h54 13 7 0 ((37 : Int32).toNatClampNeg + 1) (101 : Int32) → ∀ h56 : g_Hp, h56 = g_up h55 13 7 0 ((38 : Int32).toNatClampNeg + 1) (116 : Int32) → ∀ h57 : g_Hp, h57 = g_up h56 13 7 0 ((39 : Int32).toNatClampNeg + 1) (32 : Int32) → ∀ h58 : g_Hp, h58 = g_up h57 13 7 0 ((40 : Int32).toNatClampNeg + 1) (111 : Int32) → ∀ h59 : g_Hp, h59 = g_up h58 13 7 0 ((41 : Int32).toNatClampNeg + 1) (102 : Int32) → ∀ h60 : g_Hp, h60 = g_up h59 13 7 0 ((42 : Int32).toNatClampNeg + 1) (102 : Int32) → ∀ h61 : g_Hp, h61 = g_up h60 13 7 0 ((43 : Int32).toNatClampNeg + 1) (32 : Int32) → ∀ h62 : g_Hp, h62 = g_up h61 13 7 0 ((44 : Int32).toNatClampNeg + 1) (111 : Int32) → ∀ h63 : g_Hp, h63 = g_up h62 13 7 0 ((45 : Int32).toNatClampNeg + 1) (102 : Int32) → ∀ h64 : g_Hp, h64 = g_up h63 13 7 0 ((46 : Int32).toNatClampNeg + 1) (102 : Int32) → ∀ h65 : g_Hp, h65 = g_up h64 13 7 0 ((47 : Int32).toNatClampNeg + 1) (101 : Int32) → ∀ h66 : g_Hp, h66 = g_up h65 13 7 0 ((48 : Int32).toNatClampNeg + 1) (114 : Int32) → ∀ h67 : g_Hp, h67 = g_up h66 13 7 0 ((49 : Int32).toNatClampNeg + 1) (32 : Int32) → ∀ h68 : g_Hp, h68 = g_up h67 13 7 0 ((50 : Int32).toNatClampNeg + 1) (97 : Int32) → ∀ h69 : g_Hp, h69 = g_up h68 13 7 0 ((51 : Int32).toNatClampNeg + 1) (99 : Int32) → ∀ h70 : g_Hp, h70 = g_up h69 13 7 0 ((52 : Int32).toNatClampNeg + 1) (99 : Int32) → ∀ h71 : g_Hp, h71 = g_up h70 13 7 0 ((53 : Int32).toNatClampNeg + 1) (101 : Int32) → ∀ h72 : g_Hp, h72 = g_up h71 13 7 0 ((54 : Int32).toNatClampNeg + 1) (112 : Int32) → ∀ h73 : g_Hp, h73 = g_up h72 13 7 0 ((55 : Int32).toNatClampNeg + 1) (116 : Int32) → ∀ h74 : g_Hp, h74 = g_up h73 13 7 0 ((56 : Int32).toNatClampNeg + 1) (32 : Int32) → R h74 := by
  have e : H = q_mH H 7 (fun _ => 0) := by
    have e2 : q_mv H 7 = fun _ => 0 := funext hz
    rw [← e2, q_mE]
  rw [e]
  exact nm_r (q_mu _ _ _ _ _) (nm_r (q_mu _ _ _ _ _) (nm_r (q_mu _ _ _ _ _) (nm_r (q_mu _ _ _ _ _) (nm_r (q_mu _ _ _ _ _) (nm_r (q_mu _ _ _ _ _) (nm_r (q_mu _ _ _ _ _) (nm_r (q_mu _ _ _ _ _) (nm_r (q_mu _ _ _ _ _) (nm_r (q_mu _ _ _ _ _) (nm_r (q_mu _ _ _ _ _) (nm_r (q_mu _ _ _ _ _) (nm_r (q_mu _ _ _ _ _) (nm_r (q_mu _ _ _ _ _) (nm_r (q_mu _ _ _ _ _) (nm_r (q_mu _ _ _ _ _) (nm_r (q_mu _ _ _ _ _) (nm_r (q_mu _ _ _ _ _) (nm_r (q_mu _ _ _ _ _) (nm_r (q_mu _ _ _ _ _) (nm_r (q_mu _ _ _ _ _) (nm_r (q_mu _ _ _ _ _) (nm_r (q_mu _ _ _ _ _) (nm_r (q_mu _ _ _ _ _) (nm_r (q_mu _ _ _ _ _) (nm_r (q_mu _ _ _ _ _) (nm_r (q_mu _ _ _ _ _) (nm_r (q_mu _ _ _ _ _) (nm_r (q_mu _ _ _ _ _) (nm_r (q_mu _ _ _ _ _) (nm_r (q_mu _ _ _ _ _) (nm_r (q_mu _ _ _ _ _) (nm_r (q_mu _ _ _ _ _) (nm_r (q_mu _ _ _ _ _) (nm_r (q_mu _ _ _ _ _) (nm_r (q_mu _ _ _ _ _) (nm_r (q_mu _ _ _ _ _) (nm_r (q_mu _ _ _ _ _) (nm_r (q_mu _ _ _ _ _) (nm_r (q_mu _ _ _ _ _) (nm_r (q_mu _ _ _ _ _) (nm_r (q_mu _ _ _ _ _) (nm_r (q_mu _ _ _ _ _) (nm_r (q_mu _ _ _ _ _) (nm_r (q_mu _ _ _ _ _) (nm_r (q_mu _ _ _ _ _) (nm_r (q_mu _ _ _ _ _) (nm_r (q_mu _ _ _ _ _) (nm_r (q_mu _ _ _ _ _) (nm_r (q_mu _ _ _ _ _) (nm_r (q_mu _ _ _ _ _) (nm_r (q_mu _ _ _ _ _) (nm_r (q_mu _ _ _ _ _) (nm_r (q_mu _ _ _ _ _) (nm_r (q_mu _ _ _ _ _) (nm_r (q_mu _ _ _ _ _) (nm_r (q_mu _ _ _ _ _) (K)))))))))))))))))))))))))))))))))))))))))))))))))))))))))
theorem q_rw8 {H : g_Hp} {R : g_Hp → Prop} (hz : ∀ e, H 13 8 0 (e + 1) = 0) (K : R (q_mH H 8 q_w8)) : ∀ h77 : g_Hp, h77 = g_up H 13 8 0 ((0 : Int32).toNatClampNeg + 1) (0 : Int32) → ∀ h78 : g_Hp, h78 = g_up h77 13 8 0 ((1 : Int32).toNatClampNeg + 1) (7 : Int32) → ∀ h79 : g_Hp, h79 = g_up h78 13 8 0 ((2 : Int32).toNatClampNeg + 1) (12 : Int32) → ∀ h80 : g_Hp, h80 = g_up h79 13 8 0 ((3 : Int32).toNatClampNeg + 1) (18 : Int32) → ∀ h81 : g_Hp, h81 = g_up h80 13 8 0 ((4 : Int32).toNatClampNeg + 1) (23 : Int32) → ∀ h82 : g_Hp, h82 = g_up h81 13 8 0 ((5 : Int32).toNatClampNeg + 1) (29 : Int32) → ∀ h83 : g_Hp, h83 = g_up h82 13 8 0 ((6 : Int32).toNatClampNeg + 1) (33 : Int32) → ∀ h84 : g_Hp, h84 = g_up h83 13 8 0 ((7 : Int32).toNatClampNeg + 1) (40 : Int32) → ∀ h85 : g_Hp, h85 = g_up h84 13 8 0 ((8 : Int32).toNatClampNeg + 1) (44 : Int32) → ∀ h86 : g_Hp, h86 = g_up h85 13 8 0 ((9 : Int32).toNatClampNeg + 1) (50 : Int32) → ∀ h87 : g_Hp, h87 = g_up h86 13 8 0 ((10 : Int32).toNatClampNeg + 1) (57 : Int32) → R h87 := by
  have e : H = q_mH H 8 (fun _ => 0) := by
    have e2 : q_mv H 8 = fun _ => 0 := funext hz
    rw [← e2, q_mE]
  rw [e]
  exact nm_r (q_mu _ _ _ _ _) (nm_r (q_mu _ _ _ _ _) (nm_r (q_mu _ _ _ _ _) (nm_r (q_mu _ _ _ _ _) (nm_r (q_mu _ _ _ _ _) (nm_r (q_mu _ _ _ _ _) (nm_r (q_mu _ _ _ _ _) (nm_r (q_mu _ _ _ _ _) (nm_r (q_mu _ _ _ _ _) (nm_r (q_mu _ _ _ _ _) (nm_r (q_mu _ _ _ _ _) (K)))))))))))
def q_RW (i : Nat) : Nat → Int32 := match i with
  | 7 => q_w7
  | 8 => q_w8
  | _ => fun _ => 0
def q_F9 (h0 : g_Hp) (i : Nat) (s : g_Hp) : Prop := (∀ k x y t, k ≠ 5 → k ≠ 13 → k ≠ 53 → s k x y t = h0 k x y t) ∧ s 5 0 0 0 ≠ 0 ∧ s 5 0 0 3 = -1 ∧ s 5 0 0 4 = -1 ∧ (∀ t, 1 ≤ t → t ≠ 3 → t ≠ 4 → ¬ (6 ≤ t ∧ t ≤ 14) → s 5 0 0 t = 0) ∧ (∀ j, j < i → s 5 0 0 (6 + j) = 1 ∧ s 13 j 0 0 ≠ 0 ∧ s 53 j 0 0 ≠ 0 ∧ ∀ e, s 13 j 0 (e + 1) = q_RW j e) ∧ (∀ j, i ≤ j → s 13 j 0 0 = 0)
theorem q_st9 {h0 s : g_Hp} {i : Nat} (hi : i < 9) (F : q_F9 h0 i s) : q_F9 h0 (i + 1) (g_up (q_mH (g_nw s 13 i 0 1 1) i (q_RW i)) 5 0 0 (6 + i) 1) := by
  obtain ⟨f1, f2, f3, f4, f5, f6, f7⟩ := F
  have fo : ∀ k x y t, ¬ (k = 13 ∧ x = i) → ¬ (k = 53 ∧ x = i) → ¬ (k = 5 ∧ t = 6 + i) → g_up (q_mH (g_nw s 13 i 0 1 1) i (q_RW i)) 5 0 0 (6 + i) 1 k x y t = s k x y t := fun k x y t n1 n2 n3 => by
    rw [g_up_o _ _ _ _ _ _ (by omega), q_mH, if_neg (by omega)]
    unfold g_nw
    rw [if_neg (by omega), if_neg (by omega)]
  refine ⟨fun k x y t n1 n2 n3 => (fo k x y t (by omega) (by omega) (by omega)).trans (f1 k x y t n1 n2 n3), ?_, (fo _ _ _ _ (by omega) (by omega) (by omega)).trans f3, (fo _ _ _ _ (by omega) (by omega) (by omega)).trans f4, fun t t1 t2 t3 t4 => (fo _ _ _ _ (by omega) (by omega) (by omega)).trans (f5 t t1 t2 t3 t4), fun j hj => ?_, fun j hj => (fo _ _ _ _ (by omega) (by omega) (by omega)).trans (f7 j (by omega))⟩
  · rw [fo _ _ _ _ (by omega) (by omega) (by omega)]
    exact f2
  · by_cases z : j = i
    · subst z
      refine ⟨g_up_s _ _ _ _ _ _, ?_, ?_, fun e => ?_⟩
      · rw [g_up_o _ _ _ _ _ _ (by omega), q_mH, if_neg (by omega), g_nw_s0]
        decide
      · rw [g_up_o _ _ _ _ _ _ (by omega), q_mH, if_neg (by omega)]
        have e1 : g_nw s 13 j 0 1 1 53 j 0 0 = 1 := g_nw_l s 13 j 0 1 1
        rw [e1]
        decide
      · rw [g_up_o _ _ _ _ _ _ (by omega), q_m1]
    · have v := f6 j (by omega)
      refine ⟨(fo _ _ _ _ (by omega) (by omega) (by omega)).trans v.1, ?_, ?_, fun e => (fo _ _ _ _ (by omega) (by omega) (by omega)).trans (v.2.2.2 e)⟩
      · rw [fo _ _ _ _ (by omega) (by omega) (by omega)]
        exact v.2.1
      · rw [fo _ _ _ _ (by omega) (by omega) (by omega)]
        exact v.2.2.1
theorem q_st9z {h0 s : g_Hp} {i : Nat} (hi : i < 7) (F : q_F9 h0 i s) : q_F9 h0 (i + 1) (g_up (g_nw s 13 i 0 1 1) 5 0 0 (6 + i) 1) := by
  have e : g_nw s 13 i 0 1 1 = q_mH (g_nw s 13 i 0 1 1) i (q_RW i) := by
    have e2 : q_mv (g_nw s 13 i 0 1 1) i = q_RW i := by
      have e3 : q_RW i = fun _ => 0 := by
        obtain rfl | rfl | rfl | rfl | rfl | rfl | rfl : i = 0 ∨ i = 1 ∨ i = 2 ∨ i = 3 ∨ i = 4 ∨ i = 5 ∨ i = 6 := by omega
        all_goals rfl
      rw [e3]
      exact funext fun e => g_nw_s _ _ _ _ _ _ _
    rw [← e2, q_mE]
  rw [e]
  exact q_st9 (by omega) F
theorem q_iMd {h : g_Hp} {Q : g_R → g_Hp → Prop} (h5 : h 5 0 0 0 ≠ 0) (hz : ∀ t, h 5 0 0 (t + 1) = 0) (h13 : ∀ i, h 13 i 0 0 = 0)
    (K : ∀ h', (∀ k x y t, k ≠ 5 → k ≠ 13 → k ≠ 45 → k ≠ 53 → h' k x y t = h k x y t) → h' 5 0 0 3 = -1 → h' 5 0 0 4 = -1 → (∀ t, 1 ≤ t → t ≠ 3 → t ≠ 4 → ¬ (6 ≤ t ∧ t ≤ 14) → h' 5 0 0 t = 0) → (∀ j, j < 9 → ∀ e, h' 13 j 0 (e + 1) = q_RW j e) → Q (.inl none) h') : wX8_init h Q := by
  unfold wX8_init
  have F0 : q_F9 h 0 (g_up (g_up h 5 0 0 3 (-1)) 5 0 0 4 (-1)) := by
    refine ⟨fun k x y t n1 n2 n3 => ?_, ?_, ?_, g_up_s _ _ _ _ _ _, fun t t1 t2 t3 t4 => ?_, fun j hj => absurd hj (by omega), fun j _ => ?_⟩
    · rw [g_up_o _ _ _ _ _ _ (by omega), g_up_o _ _ _ _ _ _ (by omega)]
    · rw [g_up_o _ _ _ _ _ _ (by omega), g_up_o _ _ _ _ _ _ (by omega)]
      exact h5
    · rw [g_up_o _ _ _ _ _ _ (by omega), g_up_s]
    · rw [g_up_o _ _ _ _ _ _ (by omega), g_up_o _ _ _ _ _ _ (by omega), show t = (t - 1) + 1 by omega]
      exact hz _
    · rw [g_up_o _ _ _ _ _ _ (by omega), g_up_o _ _ _ _ _ _ (by omega)]
      exact h13 j
  refine nm_e (nm_e ?_)
  generalize g_up (g_up h 5 0 0 3 (-1)) 5 0 0 4 (-1) = s0 at *
  refine And.intro (F0.2.2.2.2.2.2 0 (by decide)) (nm_e (nm_e ?_))
  have F1 := q_st9z (i := 0) (by decide) F0
  generalize hs1 : g_up (g_nw s0 13 0 0 1 1) 5 0 0 (6 + 0) 1 = s1 at *
  refine And.intro (F1.2.2.2.2.2.2 1 (by decide)) (nm_e (nm_e ?_))
  have F2 := q_st9z (i := 1) (by decide) F1
  generalize hs2 : g_up (g_nw s1 13 1 0 1 1) 5 0 0 (6 + 1) 1 = s2 at *
  refine And.intro (F2.2.2.2.2.2.2 2 (by decide)) (nm_e (nm_e ?_))
  have F3 := q_st9z (i := 2) (by decide) F2
  generalize hs3 : g_up (g_nw s2 13 2 0 1 1) 5 0 0 (6 + 2) 1 = s3 at *
  refine And.intro (F3.2.2.2.2.2.2 3 (by decide)) (nm_e (nm_e ?_))
  have F4 := q_st9z (i := 3) (by decide) F3
  generalize hs4 : g_up (g_nw s3 13 3 0 1 1) 5 0 0 (6 + 3) 1 = s4 at *
  refine And.intro (F4.2.2.2.2.2.2 4 (by decide)) (nm_e (nm_e ?_))
  have F5 := q_st9z (i := 4) (by decide) F4
  generalize hs5 : g_up (g_nw s4 13 4 0 1 1) 5 0 0 (6 + 4) 1 = s5 at *
  refine And.intro (F5.2.2.2.2.2.2 5 (by decide)) (nm_e (nm_e ?_))
  have F6 := q_st9z (i := 5) (by decide) F5
  generalize hs6 : g_up (g_nw s5 13 5 0 1 1) 5 0 0 (6 + 5) 1 = s6 at *
  refine And.intro (F6.2.2.2.2.2.2 6 (by decide)) (nm_e (nm_e ?_))
  have F7 := q_st9z (i := 6) (by decide) F6
  generalize hs7 : g_up (g_nw s6 13 6 0 1 1) 5 0 0 (6 + 6) 1 = s7 at *
  refine And.intro (F7.2.2.2.2.2.2 7 (by decide)) (nm_e (q_rw7 (fun e => g_nw_s _ _ _ _ _ _ _) (nm_e ?_)))
  have F8 := q_st9 (i := 7) (by decide) F7
  generalize hs8 : g_up (q_mH (g_nw s7 13 7 0 1 1) 7 (q_RW 7)) 5 0 0 (6 + 7) 1 = s8 at *
  rw [show g_up (q_mH (g_nw s7 13 7 0 1 1) 7 q_w7) 5 0 0 13 1 = s8 from hs8]
  refine And.intro (F8.2.2.2.2.2.2 8 (by decide)) (nm_e (q_rw8 (fun e => g_nw_s _ _ _ _ _ _ _) (nm_e ?_)))
  have F9 := q_st9 (i := 8) (by decide) F8
  generalize hs9 : g_up (q_mH (g_nw s8 13 8 0 1 1) 8 (q_RW 8)) 5 0 0 (6 + 8) 1 = s9 at *
  rw [show g_up (q_mH (g_nw s8 13 8 0 1 1) 8 q_w8) 5 0 0 14 1 = s9 from hs9]
  obtain ⟨f1, f2, f3, f4, f5, f6, f7⟩ := F9
  refine And.intro ⟨f2, fun _ t a ht hq => ?_, fun q => absurd q (by decide)⟩ (nm_e (K _ (fun k x y t n1 n2 n3 n4 => ?_) ?_ ?_ (fun t t1 t2 t3 t4 => ?_) (fun j hj e => ?_)))
  · have ht20 : t < 20 := ht
    have hit : ∀ j, j < 9 → t = 5 + j → g_rt 5 t 0 (s9 5 0 0 (t + 1)) = some (13, j, 0) → s9 5 0 0 (t + 1) ≠ 0 ∧ g_okA s9 a.1 a.2.1 a.2.2 := fun j hj et e => by
      have ea : (13, j, 0) = a := Option.some.inj (e.symm.trans hq)
      subst ea
      have v := f6 j hj
      refine ⟨?_, Or.inl ⟨by show 13 < 20; decide, v.2.1, v.2.2.1⟩⟩
      rw [show t + 1 = 6 + j by omega, v.1]
      decide
    obtain rfl | rfl | rfl | rfl | rfl | rfl | rfl | rfl | rfl | rfl | rfl | rfl | rfl | rfl | rfl | rfl | rfl | rfl | rfl | rfl : t = 0 ∨ t = 1 ∨ t = 2 ∨ t = 3 ∨ t = 4 ∨ t = 5 ∨ t = 6 ∨ t = 7 ∨ t = 8 ∨ t = 9 ∨ t = 10 ∨ t = 11 ∨ t = 12 ∨ t = 13 ∨ t = 14 ∨ t = 15 ∨ t = 16 ∨ t = 17 ∨ t = 18 ∨ t = 19 := by omega
    · exact absurd hq (by intro z; cases z)
    · exact absurd hq (by intro z; cases z)
    · exact absurd hq (by intro z; cases z)
    · exact absurd hq (by intro z; cases z)
    · exact absurd hq (by intro z; cases z)
    · exact hit 0 (by decide) rfl rfl
    · exact hit 1 (by decide) rfl rfl
    · exact hit 2 (by decide) rfl rfl
    · exact hit 3 (by decide) rfl rfl
    · exact hit 4 (by decide) rfl rfl
    · exact hit 5 (by decide) rfl rfl
    · exact hit 6 (by decide) rfl rfl
    · exact hit 7 (by decide) rfl rfl
    · exact hit 8 (by decide) rfl rfl
    · exact absurd hq (by intro z; cases z)
    · exact absurd hq (by intro z; cases z)
    · exact absurd hq (by intro z; cases z)
    · exact absurd hq (by intro z; cases z)
    · exact absurd hq (by intro z; cases z)
    · exact absurd hq (by intro z; cases z)
  · rw [g_up_o _ _ _ _ _ _ (by omega), f1 k x y t n1 n2 n4]
  · rw [g_up_o _ _ _ _ _ _ (by omega), f3]
  · rw [g_up_o _ _ _ _ _ _ (by omega), f4]
  · rw [g_up_o _ _ _ _ _ _ (by omega), f5 t t1 t2 t3 t4]
  · rw [g_up_o _ _ _ _ _ _ (by omega), (f6 j hj).2.2.2 e]
