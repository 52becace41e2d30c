/-! X7_isConsistent -/
def wX7_isConsistent_b73 (Q : g_R → g_Hp → Prop) (z0 : Int32) (h : g_Hp) : Prop := (z0 = 0 ∨ z0 = 1) ∧ Q (.inl (some (vI z0))) h
def wX7_isConsistent_b68 (Q : g_R → g_Hp → Prop) (h : g_Hp) : Prop := wX7_isConsistent_b73 Q (1 : Int32) h
def wX7_isConsistent (h : g_Hp) (Q : g_R → g_Hp → Prop) : Prop := (((h 1 0 0 2) ≤ (0 : Int32)) → wX7_lostTotal h (g_kI (fun x2 h1 => wX7_lostTotalByRoofs h1 (g_kI (fun x4 h3 => ((x2 = x4) → (((h3 1 0 0 2) = 0) → wX7_isConsistent_b68 Q  h3) ∧ ((¬ (h3 1 0 0 2) = 0) → wX7_fundedShifts h3 (g_kI (fun x6 h5 => wX7_fundedShiftsByPaying h5 (g_kI (fun x8 h7 => ((¬ x6 = x8) → wX7_isConsistent_b73 Q (0 : Int32) h7) ∧ ((x6 = x8) → wX7_isConsistent_b68 Q  h7)) (fun E h7 => Q (.inr E) h7))) (fun E h5 => Q (.inr E) h5)))) ∧ ((¬ x2 = x4) → Q (.inl (some (vI (0 : Int32)))) h3)) (fun E h3 => Q (.inr E) h3))) (fun E h1 => Q (.inr E) h1))) ∧ ((¬ (h 1 0 0 2) ≤ (0 : Int32)) → wX7_stepsToWind (0 : Int32) h (g_kI (fun x10 h9 => wX7_stepsToWindByTurning (0 : Int32) h9 (g_kI (fun x12 h11 => ((x10 = x12) → (((h11 1 0 0 2) ≤ (1 : Int32)) → wX7_lostTotal h11 (g_kI (fun x14 h13 => wX7_lostTotalByRoofs h13 (g_kI (fun x16 h15 => ((x14 = x16) → (((h15 1 0 0 2) = 0) → wX7_isConsistent_b68 Q  h15) ∧ ((¬ (h15 1 0 0 2) = 0) → wX7_fundedShifts h15 (g_kI (fun x18 h17 => wX7_fundedShiftsByPaying h17 (g_kI (fun x20 h19 => ((¬ x18 = x20) → wX7_isConsistent_b73 Q (0 : Int32) h19) ∧ ((x18 = x20) → wX7_isConsistent_b68 Q  h19)) (fun E h19 => Q (.inr E) h19))) (fun E h17 => Q (.inr E) h17)))) ∧ ((¬ x14 = x16) → Q (.inl (some (vI (0 : Int32)))) h15)) (fun E h15 => Q (.inr E) h15))) (fun E h13 => Q (.inr E) h13))) ∧ ((¬ (h11 1 0 0 2) ≤ (1 : Int32)) → wX7_stepsToWind (1 : Int32) h11 (g_kI (fun x22 h21 => wX7_stepsToWindByTurning (1 : Int32) h21 (g_kI (fun x24 h23 => ((x22 = x24) → (((h23 1 0 0 2) ≤ (2 : Int32)) → wX7_lostTotal h23 (g_kI (fun x26 h25 => wX7_lostTotalByRoofs h25 (g_kI (fun x28 h27 => ((x26 = x28) → (((h27 1 0 0 2) = 0) → wX7_isConsistent_b68 Q  h27) ∧ ((¬ (h27 1 0 0 2) = 0) → wX7_fundedShifts h27 (g_kI (fun x30 h29 => wX7_fundedShiftsByPaying h29 (g_kI (fun x32 h31 => ((¬ x30 = x32) → wX7_isConsistent_b73 Q (0 : Int32) h31) ∧ ((x30 = x32) → wX7_isConsistent_b68 Q  h31)) (fun E h31 => Q (.inr E) h31))) (fun E h29 => Q (.inr E) h29)))) ∧ ((¬ x26 = x28) → Q (.inl (some (vI (0 : Int32)))) h27)) (fun E h27 => Q (.inr E) h27))) (fun E h25 => Q (.inr E) h25))) ∧ ((¬ (h23 1 0 0 2) ≤ (2 : Int32)) → wX7_stepsToWind (2 : Int32) h23 (g_kI (fun x34 h33 => wX7_stepsToWindByTurning (2 : Int32) h33 (g_kI (fun x36 h35 => ((x34 = x36) → (((h35 1 0 0 2) ≤ (3 : Int32)) → wX7_lostTotal h35 (g_kI (fun x38 h37 => wX7_lostTotalByRoofs h37 (g_kI (fun x40 h39 => ((x38 = x40) → (((h39 1 0 0 2) = 0) → wX7_isConsistent_b68 Q  h39) ∧ ((¬ (h39 1 0 0 2) = 0) → wX7_fundedShifts h39 (g_kI (fun x42 h41 => wX7_fundedShiftsByPaying h41 (g_kI (fun x44 h43 => ((¬ x42 = x44) → wX7_isConsistent_b73 Q (0 : Int32) h43) ∧ ((x42 = x44) → wX7_isConsistent_b68 Q  h43)) (fun E h43 => Q (.inr E) h43))) (fun E h41 => Q (.inr E) h41)))) ∧ ((¬ x38 = x40) → Q (.inl (some (vI (0 : Int32)))) h39)) (fun E h39 => Q (.inr E) h39))) (fun E h37 => Q (.inr E) h37))) ∧ ((¬ (h35 1 0 0 2) ≤ (3 : Int32)) → wX7_stepsToWind (3 : Int32) h35 (g_kI (fun x46 h45 => wX7_stepsToWindByTurning (3 : Int32) h45 (g_kI (fun x48 h47 => ((x46 = x48) → (((h47 1 0 0 2) ≤ (4 : Int32)) → wX7_lostTotal h47 (g_kI (fun x50 h49 => wX7_lostTotalByRoofs h49 (g_kI (fun x52 h51 => ((x50 = x52) → (((h51 1 0 0 2) = 0) → wX7_isConsistent_b68 Q  h51) ∧ ((¬ (h51 1 0 0 2) = 0) → wX7_fundedShifts h51 (g_kI (fun x54 h53 => wX7_fundedShiftsByPaying h53 (g_kI (fun x56 h55 => ((¬ x54 = x56) → wX7_isConsistent_b73 Q (0 : Int32) h55) ∧ ((x54 = x56) → wX7_isConsistent_b68 Q  h55)) (fun E h55 => Q (.inr E) h55))) (fun E h53 => Q (.inr E) h53)))) ∧ ((¬ x50 = x52) → Q (.inl (some (vI (0 : Int32)))) h51)) (fun E h51 => Q (.inr E) h51))) (fun E h49 => Q (.inr E) h49))) ∧ ((¬ (h47 1 0 0 2) ≤ (4 : Int32)) → wX7_stepsToWind (4 : Int32) h47 (g_kI (fun x58 h57 => wX7_stepsToWindByTurning (4 : Int32) h57 (g_kI (fun x60 h59 => ((x58 = x60) → (((h59 1 0 0 2) ≤ (5 : Int32)) → wX7_lostTotal h59 (g_kI (fun x62 h61 => wX7_lostTotalByRoofs h61 (g_kI (fun x64 h63 => ((x62 = x64) → (((h63 1 0 0 2) = 0) → wX7_isConsistent_b68 Q  h63) ∧ ((¬ (h63 1 0 0 2) = 0) → wX7_fundedShifts h63 (g_kI (fun x66 h65 => wX7_fundedShiftsByPaying h65 (g_kI (fun x68 h67 => ((¬ x66 = x68) → wX7_isConsistent_b73 Q (0 : Int32) h67) ∧ ((x66 = x68) → wX7_isConsistent_b68 Q  h67)) (fun E h67 => Q (.inr E) h67))) (fun E h65 => Q (.inr E) h65)))) ∧ ((¬ x62 = x64) → Q (.inl (some (vI (0 : Int32)))) h63)) (fun E h63 => Q (.inr E) h63))) (fun E h61 => Q (.inr E) h61))) ∧ ((¬ (h59 1 0 0 2) ≤ (5 : Int32)) → wX7_stepsToWind (5 : Int32) h59 (g_kI (fun x70 h69 => wX7_stepsToWindByTurning (5 : Int32) h69 (g_kI (fun x72 h71 => ((x70 = x72) → (((h71 1 0 0 2) ≤ (6 : Int32)) → wX7_lostTotal h71 (g_kI (fun x74 h73 => wX7_lostTotalByRoofs h73 (g_kI (fun x76 h75 => ((x74 = x76) → (((h75 1 0 0 2) = 0) → wX7_isConsistent_b68 Q  h75) ∧ ((¬ (h75 1 0 0 2) = 0) → wX7_fundedShifts h75 (g_kI (fun x78 h77 => wX7_fundedShiftsByPaying h77 (g_kI (fun x80 h79 => ((¬ x78 = x80) → wX7_isConsistent_b73 Q (0 : Int32) h79) ∧ ((x78 = x80) → wX7_isConsistent_b68 Q  h79)) (fun E h79 => Q (.inr E) h79))) (fun E h77 => Q (.inr E) h77)))) ∧ ((¬ x74 = x76) → Q (.inl (some (vI (0 : Int32)))) h75)) (fun E h75 => Q (.inr E) h75))) (fun E h73 => Q (.inr E) h73))) ∧ ((¬ (h71 1 0 0 2) ≤ (6 : Int32)) → wX7_stepsToWind (6 : Int32) h71 (g_kI (fun x82 h81 => wX7_stepsToWindByTurning (6 : Int32) h81 (g_kI (fun x84 h83 => ((x82 = x84) → (((h83 1 0 0 2) ≤ (7 : Int32)) → wX7_lostTotal h83 (g_kI (fun x86 h85 => wX7_lostTotalByRoofs h85 (g_kI (fun x88 h87 => ((x86 = x88) → (((h87 1 0 0 2) = 0) → wX7_isConsistent_b68 Q  h87) ∧ ((¬ (h87 1 0 0 2) = 0) → wX7_fundedShifts h87 (g_kI (fun x90 h89 => wX7_fundedShiftsByPaying h89 (g_kI (fun x92 h91 => ((¬ x90 = x92) → wX7_isConsistent_b73 Q (0 : Int32) h91) ∧ ((x90 = x92) → wX7_isConsistent_b68 Q  h91)) (fun E h91 => Q (.inr E) h91))) (fun E h89 => Q (.inr E) h89)))) ∧ ((¬ x86 = x88) → Q (.inl (some (vI (0 : Int32)))) h87)) (fun E h87 => Q (.inr E) h87))) (fun E h85 => Q (.inr E) h85))) ∧ ((¬ (h83 1 0 0 2) ≤ (7 : Int32)) → wX7_stepsToWind (7 : Int32) h83 (g_kI (fun x94 h93 => wX7_stepsToWindByTurning (7 : Int32) h93 (g_kI (fun x96 h95 => ((x94 = x96) → (((h95 1 0 0 2) ≤ (8 : Int32)) → wX7_lostTotal h95 (g_kI (fun x98 h97 => wX7_lostTotalByRoofs h97 (g_kI (fun x100 h99 => ((x98 = x100) → (((h99 1 0 0 2) = 0) → wX7_isConsistent_b68 Q  h99) ∧ ((¬ (h99 1 0 0 2) = 0) → wX7_fundedShifts h99 (g_kI (fun x102 h101 => wX7_fundedShiftsByPaying h101 (g_kI (fun x104 h103 => ((¬ x102 = x104) → wX7_isConsistent_b73 Q (0 : Int32) h103) ∧ ((x102 = x104) → wX7_isConsistent_b68 Q  h103)) (fun E h103 => Q (.inr E) h103))) (fun E h101 => Q (.inr E) h101)))) ∧ ((¬ x98 = x100) → Q (.inl (some (vI (0 : Int32)))) h99)) (fun E h99 => Q (.inr E) h99))) (fun E h97 => Q (.inr E) h97))) ∧ ((¬ (h95 1 0 0 2) ≤ (8 : Int32)) → wX7_stepsToWind (8 : Int32) h95 (g_kI (fun x106 h105 => wX7_stepsToWindByTurning (8 : Int32) h105 (g_kI (fun x108 h107 => ((x106 = x108) → (((h107 1 0 0 2) ≤ (9 : Int32)) → wX7_lostTotal h107 (g_kI (fun x110 h109 => wX7_lostTotalByRoofs h109 (g_kI (fun x112 h111 => ((x110 = x112) → (((h111 1 0 0 2) = 0) → wX7_isConsistent_b68 Q  h111) ∧ ((¬ (h111 1 0 0 2) = 0) → wX7_fundedShifts h111 (g_kI (fun x114 h113 => wX7_fundedShiftsByPaying h113 (g_kI (fun x116 h115 => ((¬ x114 = x116) → wX7_isConsistent_b73 Q (0 : Int32) h115) ∧ ((x114 = x116) → wX7_isConsistent_b68 Q  h115)) (fun E h115 => Q (.inr E) h115))) (fun E h113 => Q (.inr E) h113)))) ∧ ((¬ x110 = x112) → Q (.inl (some (vI (0 : Int32)))) h111)) (fun E h111 => Q (.inr E) h111))) (fun E h109 => Q (.inr E) h109))) ∧ ((¬ (h107 1 0 0 2) ≤ (9 : Int32)) → wX7_stepsToWind (9 : Int32) h107 (g_kI (fun x118 h117 => wX7_stepsToWindByTurning (9 : Int32) h117 (g_kI (fun x120 h119 => ((x118 = x120) → (((h119 1 0 0 2) ≤ (10 : Int32)) → wX7_lostTotal h119 (g_kI (fun x122 h121 => wX7_lostTotalByRoofs h121 (g_kI (fun x124 h123 => ((x122 = x124) → (((h123 1 0 0 2) = 0) → wX7_isConsistent_b68 Q  h123) ∧ ((¬ (h123 1 0 0 2) = 0) → wX7_fundedShifts h123 (g_kI (fun x126 h125 => wX7_fundedShiftsByPaying h125 (g_kI (fun x128 h127 => ((¬ x126 = x128) → wX7_isConsistent_b73 Q (0 : Int32) h127) ∧ ((x126 = x128) → wX7_isConsistent_b68 Q  h127)) (fun E h127 => Q (.inr E) h127))) (fun E h125 => Q (.inr E) h125)))) ∧ ((¬ x122 = x124) → Q (.inl (some (vI (0 : Int32)))) h123)) (fun E h123 => Q (.inr E) h123))) (fun E h121 => Q (.inr E) h121))) ∧ ((¬ (h119 1 0 0 2) ≤ (10 : Int32)) → wX7_stepsToWind (10 : Int32) h119 (g_kI (fun x130 h129 => wX7_stepsToWindByTurning (10 : Int32) h129 (g_kI (fun x132 h131 => ((x130 = x132) → (((h131 1 0 0 2) ≤ (11 : Int32)) → wX7_lostTotal h131 (g_kI (fun x134 h133 => wX7_lostTotalByRoofs h133 (g_kI (fun x136 h135 => ((x134 = x136) → (((h135 1 0 0 2) = 0) → wX7_isConsistent_b68 Q  h135) ∧ ((¬ (h135 1 0 0 2) = 0) → wX7_fundedShifts h135 (g_kI (fun x138 h137 => wX7_fundedShiftsByPaying h137 (g_kI (fun x140 h139 => ((¬ x138 = x140) → wX7_isConsistent_b73 Q (0 : Int32) h139) ∧ ((x138 = x140) → wX7_isConsistent_b68 Q  h139)) (fun E h139 => Q (.inr E) h139))) (fun E h137 => Q (.inr E) h137)))) ∧ ((¬ x134 = x136) → Q (.inl (some (vI (0 : Int32)))) h135)) (fun E h135 => Q (.inr E) h135))) (fun E h133 => Q (.inr E) h133))) ∧ ((¬ (h131 1 0 0 2) ≤ (11 : Int32)) → wX7_stepsToWind (11 : Int32) h131 (g_kI (fun x142 h141 => wX7_stepsToWindByTurning (11 : Int32) h141 (g_kI (fun x144 h143 => ((x142 = x144) → (((h143 1 0 0 2) ≤ (12 : Int32)) → wX7_lostTotal h143 (g_kI (fun x146 h145 => wX7_lostTotalByRoofs h145 (g_kI (fun x148 h147 => ((x146 = x148) → (((h147 1 0 0 2) = 0) → wX7_isConsistent_b68 Q  h147) ∧ ((¬ (h147 1 0 0 2) = 0) → wX7_fundedShifts h147 (g_kI (fun x150 h149 => wX7_fundedShiftsByPaying h149 (g_kI (fun x152 h151 => ((¬ x150 = x152) → wX7_isConsistent_b73 Q (0 : Int32) h151) ∧ ((x150 = x152) → wX7_isConsistent_b68 Q  h151)) (fun E h151 => Q (.inr E) h151))) (fun E h149 => Q (.inr E) h149)))) ∧ ((¬ x146 = x148) → Q (.inl (some (vI (0 : Int32)))) h147)) (fun E h147 => Q (.inr E) h147))) (fun E h145 => Q (.inr E) h145))) ∧ ((¬ (h143 1 0 0 2) ≤ (12 : Int32)) → wX7_stepsToWind (12 : Int32) h143 (g_kI (fun x154 h153 => wX7_stepsToWindByTurning (12 : Int32) h153 (g_kI (fun x156 h155 => ((x154 = x156) → False) ∧ ((¬ x154 = x156) → Q (.inl (some (vI (0 : Int32)))) h155)) (fun E h155 => Q (.inr E) h155))) (fun E h153 => Q (.inr E) h153)))) ∧ ((¬ x142 = x144) → Q (.inl (some (vI (0 : Int32)))) h143)) (fun E h143 => Q (.inr E) h143))) (fun E h141 => Q (.inr E) h141)))) ∧ ((¬ x130 = x132) → Q (.inl (some (vI (0 : Int32)))) h131)) (fun E h131 => Q (.inr E) h131))) (fun E h129 => Q (.inr E) h129)))) ∧ ((¬ x118 = x120) → Q (.inl (some (vI (0 : Int32)))) h119)) (fun E h119 => Q (.inr E) h119))) (fun E h117 => Q (.inr E) h117)))) ∧ ((¬ x106 = x108) → Q (.inl (some (vI (0 : Int32)))) h107)) (fun E h107 => Q (.inr E) h107))) (fun E h105 => Q (.inr E) h105)))) ∧ ((¬ x94 = x96) → Q (.inl (some (vI (0 : Int32)))) h95)) (fun E h95 => Q (.inr E) h95))) (fun E h93 => Q (.inr E) h93)))) ∧ ((¬ x82 = x84) → Q (.inl (some (vI (0 : Int32)))) h83)) (fun E h83 => Q (.inr E) h83))) (fun E h81 => Q (.inr E) h81)))) ∧ ((¬ x70 = x72) → Q (.inl (some (vI (0 : Int32)))) h71)) (fun E h71 => Q (.inr E) h71))) (fun E h69 => Q (.inr E) h69)))) ∧ ((¬ x58 = x60) → Q (.inl (some (vI (0 : Int32)))) h59)) (fun E h59 => Q (.inr E) h59))) (fun E h57 => Q (.inr E) h57)))) ∧ ((¬ x46 = x48) → Q (.inl (some (vI (0 : Int32)))) h47)) (fun E h47 => Q (.inr E) h47))) (fun E h45 => Q (.inr E) h45)))) ∧ ((¬ x34 = x36) → Q (.inl (some (vI (0 : Int32)))) h35)) (fun E h35 => Q (.inr E) h35))) (fun E h33 => Q (.inr E) h33)))) ∧ ((¬ x22 = x24) → Q (.inl (some (vI (0 : Int32)))) h23)) (fun E h23 => Q (.inr E) h23))) (fun E h21 => Q (.inr E) h21)))) ∧ ((¬ x10 = x12) → Q (.inl (some (vI (0 : Int32)))) h11)) (fun E h11 => Q (.inr E) h11))) (fun E h9 => Q (.inr E) h9)))
set_option maxRecDepth 100000 in
set_option maxHeartbeats 4000000 in
theorem vX7_isConsistent_b73 {G : g_G} {X : g_X} {Q : g_R → g_Hp → Prop} (C : g_Cx y_ G X iX7_isConsistent) (z0 : Int32) (h : g_Hp) (H : wX7_isConsistent_b73 Q z0 h) : g_V G X iX7_isConsistent 26 156 Q 73 26 156 [] [vI z0] h := by
  exact s_iret (pc := 73) rfl (g_nz H.1) ⟨by decide, by decide⟩ H.2 C dX7_isConsistent_73
set_option maxRecDepth 100000 in
set_option maxHeartbeats 4000000 in
theorem vX7_isConsistent_b68 {G : g_G} {X : g_X} {Q : g_R → g_Hp → Prop} (C : g_Cx y_ G X iX7_isConsistent) (h : g_Hp) (H : wX7_isConsistent_b68 Q h) : g_V G X iX7_isConsistent 26 156 Q 68 26 156 [] [] h := by
  refine s_iconst (pc := 68) C dX7_isConsistent_68 (x := (1 : Int32)) (by decide) ?_
  refine s_goto (pc := 69) (tgt := 73) C dX7_isConsistent_69 (by decide) ?_
  exact s_sub (ls' := []) [] rfl (vX7_isConsistent_b73 C (1 : Int32) h H)
set_option maxRecDepth 100000 in
set_option maxHeartbeats 4000000 in
theorem vX7_isConsistent {G : g_G} {X : g_X} {Q : g_R → g_Hp → Prop} (C : g_Cx y_ G X iX7_isConsistent) (h : g_Hp) (H : wX7_isConsistent h Q) : g_V G X iX7_isConsistent 26 156 Q 0 0 0 [(0, vR 0 0 0)] [] h := by
  refine s_iconst (pc := 0) C dX7_isConsistent_0 (x := (0 : Int32)) (by decide) ?_
  refine s_istore_n (pc := 1) (ls' := [(1, vI (0 : Int32)), (0, vR 0 0 0)]) C dX7_isConsistent_1 rfl (by decide) rfl ?_
  refine s_iload_n (pc := 2) C dX7_isConsistent_2 rfl 0 rfl ?_
  refine s_aload_n (pc := 3) C dX7_isConsistent_3 rfl 1 rfl ?_
  refine s_getr (pc := 4) (s := 0) (a := 1) (b := 0) (c' := 0) ckX7 (by decide) kw_300 rfl C dX7_isConsistent_4 ?_
  refine s_geti (pc := 7) (s := 1) ckX1 (Or.inl rfl) (by decide) kw_169 (fun _ => rfl) C dX7_isConsistent_7 ?_
  refine s_icmp_ge (pc := 10) (tgt := 34) C dX7_isConsistent_10 (by decide) (fun c => ?_) (fun c => ?_)
  · have H := H.1 c
    refine s_aload_n (pc := 34) C dX7_isConsistent_34 rfl 1 rfl ?_
    refine s_callv (pc := 35) (nA := 0) (as := []) (st := []) (stk := [vR 0 0 0]) ckX7 (Or.inl rfl) C (fun l hl => ctX7_lostTotal l hl _ _ H) ⟨⟨kw_500, kw_58, kw_378⟩, rfl, ⟨by decide, by decide, by decide +kernel⟩, by decide, by decide⟩ kw_376 (g_selW kw_377) rfl (Nat.le_of_ble_eq_true rfl) ⟨by decide, by decide⟩ rfl dX7_isConsistent_35 (g_Kq_I (fun x2 h1 H => ?_) (fun E h1 H => s_prop rfl ⟨by decide, by decide⟩ H C))
    refine s_aload_n (pc := 38) C dX7_isConsistent_38 rfl 1 rfl ?_
    refine s_callv (pc := 39) (nA := 0) (as := []) (st := [vI x2]) (stk := [vR 0 0 0, vI x2]) ckX7 (Or.inl rfl) C (fun l hl => ctX7_lostTotalByRoofs l hl _ _ H) ⟨⟨kw_501, kw_58, kw_386⟩, rfl, ⟨by decide, by decide, by decide +kernel⟩, by decide, by decide⟩ kw_384 (g_selW kw_385) rfl (Nat.le_of_ble_eq_true rfl) ⟨by decide, by decide⟩ rfl dX7_isConsistent_39 (g_Kq_I (fun x4 h3 H => ?_) (fun E h3 H => s_prop rfl ⟨by decide, by decide⟩ H C))
    refine s_icmp_eq (pc := 42) (tgt := 47) C dX7_isConsistent_42 (by decide) (fun c => ?_) (fun c => ?_)
    · have H := H.1 c
      refine s_aload_n (pc := 47) C dX7_isConsistent_47 rfl 1 rfl ?_
      refine s_getr (pc := 48) (s := 0) (a := 1) (b := 0) (c' := 0) ckX7 (by decide) kw_300 rfl C dX7_isConsistent_48 ?_
      refine s_geti (pc := 51) (s := 1) ckX1 (Or.inl rfl) (by decide) kw_169 (fun _ => rfl) C dX7_isConsistent_51 ?_
      refine s_if_eq (pc := 54) (tgt := 68) C dX7_isConsistent_54 (by decide) (fun c => ?_) (fun c => ?_)
      · have H := H.1 c
        exact s_wide (k' := 26) (n' := 156) (by decide) (by decide) <| s_sub (ls' := []) [] rfl (vX7_isConsistent_b68 C  h3 H)
      · have H := H.2 c
        refine s_aload_n (pc := 57) C dX7_isConsistent_57 rfl 1 rfl ?_
        refine s_callv (pc := 58) (nA := 0) (as := []) (st := []) (stk := [vR 0 0 0]) ckX7 (Or.inl rfl) C (fun l hl => ctX7_fundedShifts l hl _ _ H) ⟨⟨kw_502, kw_58, kw_505⟩, rfl, ⟨by decide, by decide, by decide +kernel⟩, by decide, by decide⟩ kw_503 (g_selW kw_504) rfl (Nat.le_of_ble_eq_true rfl) ⟨by decide, by decide⟩ rfl dX7_isConsistent_58 (g_Kq_I (fun x6 h5 H => ?_) (fun E h5 H => s_prop rfl ⟨by decide, by decide⟩ H C))
        refine s_aload_n (pc := 61) C dX7_isConsistent_61 rfl 1 rfl ?_
        refine s_callv (pc := 62) (nA := 0) (as := []) (st := [vI x6]) (stk := [vR 0 0 0, vI x6]) ckX7 (Or.inl rfl) C (fun l hl => ctX7_fundedShiftsByPaying l hl _ _ H) ⟨⟨kw_530, kw_58, kw_533⟩, rfl, ⟨by decide, by decide, by decide +kernel⟩, by decide, by decide⟩ kw_531 (g_selW kw_532) rfl (Nat.le_of_ble_eq_true rfl) ⟨by decide, by decide⟩ rfl dX7_isConsistent_62 (g_Kq_I (fun x8 h7 H => ?_) (fun E h7 H => s_prop rfl ⟨by decide, by decide⟩ H C))
        refine s_icmp_ne (pc := 65) (tgt := 72) C dX7_isConsistent_65 (by decide) (fun c => ?_) (fun c => ?_)
        · have H := H.1 c
          refine s_iconst (pc := 72) C dX7_isConsistent_72 (x := (0 : Int32)) (by decide) ?_
          exact s_wide (k' := 26) (n' := 156) (by decide) (by decide) <| s_sub (ls' := []) [] rfl (vX7_isConsistent_b73 C (0 : Int32) h7 H)
        · have H := H.2 c
          exact s_wide (k' := 26) (n' := 156) (by decide) (by decide) <| s_sub (ls' := []) [] rfl (vX7_isConsistent_b68 C  h7 H)
    · have H := H.2 c
      refine s_iconst (pc := 45) C dX7_isConsistent_45 (x := (0 : Int32)) (by decide) ?_
      exact s_iret (pc := 46) rfl (by decide) ⟨by decide, by decide⟩ H C dX7_isConsistent_46
  · have H := H.2 c
    refine s_aload_n (pc := 13) C dX7_isConsistent_13 rfl 1 rfl ?_
    refine s_iload_n (pc := 14) C dX7_isConsistent_14 rfl 0 rfl ?_
    refine s_callv (pc := 15) (nA := 1) (as := [vI (0 : Int32)]) (st := []) (stk := [vI (0 : Int32), vR 0 0 0]) ckX7 (Or.inl rfl) C (fun l hl => ctX7_stepsToWind l hl (0 : Int32) _ _ H) ⟨⟨kw_403, kw_58, kw_406⟩, rfl, ⟨by decide, by decide, by decide +kernel⟩, by decide, by decide⟩ kw_404 (g_selW kw_405) rfl (Nat.le_of_ble_eq_true rfl) ⟨by decide, by decide⟩ rfl dX7_isConsistent_15 (g_Kq_I (fun x10 h9 H => ?_) (fun E h9 H => s_prop rfl ⟨by decide, by decide⟩ H C))
    refine s_aload_n (pc := 18) C dX7_isConsistent_18 rfl 1 rfl ?_
    refine s_iload_n (pc := 19) C dX7_isConsistent_19 rfl 0 rfl ?_
    refine s_callv (pc := 20) (nA := 1) (as := [vI (0 : Int32)]) (st := [vI x10]) (stk := [vI (0 : Int32), vR 0 0 0, vI x10]) ckX7 (Or.inl rfl) C (fun l hl => ctX7_stepsToWindByTurning l hl (0 : Int32) _ _ H) ⟨⟨kw_493, kw_58, kw_496⟩, rfl, ⟨by decide, by decide, by decide +kernel⟩, by decide, by decide⟩ kw_494 (g_selW kw_495) rfl (Nat.le_of_ble_eq_true rfl) ⟨by decide, by decide⟩ rfl dX7_isConsistent_20 (g_Kq_I (fun x12 h11 H => ?_) (fun E h11 H => s_prop rfl ⟨by decide, by decide⟩ H C))
    refine s_icmp_eq (pc := 23) (tgt := 28) C dX7_isConsistent_23 (by decide) (fun c => ?_) (fun c => ?_)
    · have H := H.1 c
      refine s_iinc (pc := 28) (y := (1 : Int32)) (ls' := [(1, vI (1 : Int32)), (0, vR 0 0 0)]) C dX7_isConsistent_28 0 rfl (by decide) (by decide) rfl ?_
      refine s_goto (pc := 31) (tgt := 2) C dX7_isConsistent_31 (by decide) ?_
      refine s_iload_n (pc := 2) C dX7_isConsistent_2 rfl 0 rfl ?_
      refine s_aload_n (pc := 3) C dX7_isConsistent_3 rfl 1 rfl ?_
      refine s_getr (pc := 4) (s := 0) (a := 1) (b := 0) (c' := 0) ckX7 (by decide) kw_300 rfl C dX7_isConsistent_4 ?_
      refine s_geti (pc := 7) (s := 1) ckX1 (Or.inl rfl) (by decide) kw_169 (fun _ => rfl) C dX7_isConsistent_7 ?_
      refine s_icmp_ge (pc := 10) (tgt := 34) C dX7_isConsistent_10 (by decide) (fun c => ?_) (fun c => ?_)
      · have H := H.1 c
        refine s_aload_n (pc := 34) C dX7_isConsistent_34 rfl 1 rfl ?_
        refine s_callv (pc := 35) (nA := 0) (as := []) (st := []) (stk := [vR 0 0 0]) ckX7 (Or.inl rfl) C (fun l hl => ctX7_lostTotal l hl _ _ H) ⟨⟨kw_500, kw_58, kw_378⟩, rfl, ⟨by decide, by decide, by decide +kernel⟩, by decide, by decide⟩ kw_376 (g_selW kw_377) rfl (Nat.le_of_ble_eq_true rfl) ⟨by decide, by decide⟩ rfl dX7_isConsistent_35 (g_Kq_I (fun x14 h13 H => ?_) (fun E h13 H => s_prop rfl ⟨by decide, by decide⟩ H C))
        refine s_aload_n (pc := 38) C dX7_isConsistent_38 rfl 1 rfl ?_
        refine s_callv (pc := 39) (nA := 0) (as := []) (st := [vI x14]) (stk := [vR 0 0 0, vI x14]) ckX7 (Or.inl rfl) C (fun l hl => ctX7_lostTotalByRoofs l hl _ _ H) ⟨⟨kw_501, kw_58, kw_386⟩, rfl, ⟨by decide, by decide, by decide +kernel⟩, by decide, by decide⟩ kw_384 (g_selW kw_385) rfl (Nat.le_of_ble_eq_true rfl) ⟨by decide, by decide⟩ rfl dX7_isConsistent_39 (g_Kq_I (fun x16 h15 H => ?_) (fun E h15 H => s_prop rfl ⟨by decide, by decide⟩ H C))
        refine s_icmp_eq (pc := 42) (tgt := 47) C dX7_isConsistent_42 (by decide) (fun c => ?_) (fun c => ?_)
        · have H := H.1 c
          refine s_aload_n (pc := 47) C dX7_isConsistent_47 rfl 1 rfl ?_
          refine s_getr (pc := 48) (s := 0) (a := 1) (b := 0) (c' := 0) ckX7 (by decide) kw_300 rfl C dX7_isConsistent_48 ?_
          refine s_geti (pc := 51) (s := 1) ckX1 (Or.inl rfl) (by decide) kw_169 (fun _ => rfl) C dX7_isConsistent_51 ?_
          refine s_if_eq (pc := 54) (tgt := 68) C dX7_isConsistent_54 (by decide) (fun c => ?_) (fun c => ?_)
          · have H := H.1 c
            exact s_wide (k' := 26) (n' := 156) (by decide) (by decide) <| s_sub (ls' := []) [] rfl (vX7_isConsistent_b68 C  h15 H)
          · have H := H.2 c
            refine s_aload_n (pc := 57) C dX7_isConsistent_57 rfl 1 rfl ?_
            refine s_callv (pc := 58) (nA := 0) (as := []) (st := []) (stk := [vR 0 0 0]) ckX7 (Or.inl rfl) C (fun l hl => ctX7_fundedShifts l hl _ _ H) ⟨⟨kw_502, kw_58, kw_505⟩, rfl, ⟨by decide, by decide, by decide +kernel⟩, by decide, by decide⟩ kw_503 (g_selW kw_504) rfl (Nat.le_of_ble_eq_true rfl) ⟨by decide, by decide⟩ rfl dX7_isConsistent_58 (g_Kq_I (fun x18 h17 H => ?_) (fun E h17 H => s_prop rfl ⟨by decide, by decide⟩ H C))
            refine s_aload_n (pc := 61) C dX7_isConsistent_61 rfl 1 rfl ?_
            refine s_callv (pc := 62) (nA := 0) (as := []) (st := [vI x18]) (stk := [vR 0 0 0, vI x18]) ckX7 (Or.inl rfl) C (fun l hl => ctX7_fundedShiftsByPaying l hl _ _ H) ⟨⟨kw_530, kw_58, kw_533⟩, rfl, ⟨by decide, by decide, by decide +kernel⟩, by decide, by decide⟩ kw_531 (g_selW kw_532) rfl (Nat.le_of_ble_eq_true rfl) ⟨by decide, by decide⟩ rfl dX7_isConsistent_62 (g_Kq_I (fun x20 h19 H => ?_) (fun E h19 H => s_prop rfl ⟨by decide, by decide⟩ H C))
            refine s_icmp_ne (pc := 65) (tgt := 72) C dX7_isConsistent_65 (by decide) (fun c => ?_) (fun c => ?_)
            · have H := H.1 c
              refine s_iconst (pc := 72) C dX7_isConsistent_72 (x := (0 : Int32)) (by decide) ?_
              exact s_wide (k' := 26) (n' := 156) (by decide) (by decide) <| s_sub (ls' := []) [] rfl (vX7_isConsistent_b73 C (0 : Int32) h19 H)
            · have H := H.2 c
              exact s_wide (k' := 26) (n' := 156) (by decide) (by decide) <| s_sub (ls' := []) [] rfl (vX7_isConsistent_b68 C  h19 H)
        · have H := H.2 c
          refine s_iconst (pc := 45) C dX7_isConsistent_45 (x := (0 : Int32)) (by decide) ?_
          exact s_iret (pc := 46) rfl (by decide) ⟨by decide, by decide⟩ H C dX7_isConsistent_46
      · have H := H.2 c
        refine s_aload_n (pc := 13) C dX7_isConsistent_13 rfl 1 rfl ?_
        refine s_iload_n (pc := 14) C dX7_isConsistent_14 rfl 0 rfl ?_
        refine s_callv (pc := 15) (nA := 1) (as := [vI (1 : Int32)]) (st := []) (stk := [vI (1 : Int32), vR 0 0 0]) ckX7 (Or.inl rfl) C (fun l hl => ctX7_stepsToWind l hl (1 : Int32) _ _ H) ⟨⟨kw_403, kw_58, kw_406⟩, rfl, ⟨by decide, by decide, by decide +kernel⟩, by decide, by decide⟩ kw_404 (g_selW kw_405) rfl (Nat.le_of_ble_eq_true rfl) ⟨by decide, by decide⟩ rfl dX7_isConsistent_15 (g_Kq_I (fun x22 h21 H => ?_) (fun E h21 H => s_prop rfl ⟨by decide, by decide⟩ H C))
        refine s_aload_n (pc := 18) C dX7_isConsistent_18 rfl 1 rfl ?_
        refine s_iload_n (pc := 19) C dX7_isConsistent_19 rfl 0 rfl ?_
        refine s_callv (pc := 20) (nA := 1) (as := [vI (1 : Int32)]) (st := [vI x22]) (stk := [vI (1 : Int32), vR 0 0 0, vI x22]) ckX7 (Or.inl rfl) C (fun l hl => ctX7_stepsToWindByTurning l hl (1 : Int32) _ _ H) ⟨⟨kw_493, kw_58, kw_496⟩, rfl, ⟨by decide, by decide, by decide +kernel⟩, by decide, by decide⟩ kw_494 (g_selW kw_495) rfl (Nat.le_of_ble_eq_true rfl) ⟨by decide, by decide⟩ rfl dX7_isConsistent_20 (g_Kq_I (fun x24 h23 H => ?_) (fun E h23 H => s_prop rfl ⟨by decide, by decide⟩ H C))
        refine s_icmp_eq (pc := 23) (tgt := 28) C dX7_isConsistent_23 (by decide) (fun c => ?_) (fun c => ?_)
        · have H := H.1 c
          refine s_iinc (pc := 28) (y := (2 : Int32)) (ls' := [(1, vI (2 : Int32)), (0, vR 0 0 0)]) C dX7_isConsistent_28 0 rfl (by decide) (by decide) rfl ?_
          refine s_goto (pc := 31) (tgt := 2) C dX7_isConsistent_31 (by decide) ?_
          refine s_iload_n (pc := 2) C dX7_isConsistent_2 rfl 0 rfl ?_
          refine s_aload_n (pc := 3) C dX7_isConsistent_3 rfl 1 rfl ?_
          refine s_getr (pc := 4) (s := 0) (a := 1) (b := 0) (c' := 0) ckX7 (by decide) kw_300 rfl C dX7_isConsistent_4 ?_
          refine s_geti (pc := 7) (s := 1) ckX1 (Or.inl rfl) (by decide) kw_169 (fun _ => rfl) C dX7_isConsistent_7 ?_
          refine s_icmp_ge (pc := 10) (tgt := 34) C dX7_isConsistent_10 (by decide) (fun c => ?_) (fun c => ?_)
          · have H := H.1 c
            refine s_aload_n (pc := 34) C dX7_isConsistent_34 rfl 1 rfl ?_
            refine s_callv (pc := 35) (nA := 0) (as := []) (st := []) (stk := [vR 0 0 0]) ckX7 (Or.inl rfl) C (fun l hl => ctX7_lostTotal l hl _ _ H) ⟨⟨kw_500, kw_58, kw_378⟩, rfl, ⟨by decide, by decide, by decide +kernel⟩, by decide, by decide⟩ kw_376 (g_selW kw_377) rfl (Nat.le_of_ble_eq_true rfl) ⟨by decide, by decide⟩ rfl dX7_isConsistent_35 (g_Kq_I (fun x26 h25 H => ?_) (fun E h25 H => s_prop rfl ⟨by decide, by decide⟩ H C))
            refine s_aload_n (pc := 38) C dX7_isConsistent_38 rfl 1 rfl ?_
            refine s_callv (pc := 39) (nA := 0) (as := []) (st := [vI x26]) (stk := [vR 0 0 0, vI x26]) ckX7 (Or.inl rfl) C (fun l hl => ctX7_lostTotalByRoofs l hl _ _ H) ⟨⟨kw_501, kw_58, kw_386⟩, rfl, ⟨by decide, by decide, by decide +kernel⟩, by decide, by decide⟩ kw_384 (g_selW kw_385) rfl (Nat.le_of_ble_eq_true rfl) ⟨by decide, by decide⟩ rfl dX7_isConsistent_39 (g_Kq_I (fun x28 h27 H => ?_) (fun E h27 H => s_prop rfl ⟨by decide, by decide⟩ H C))
            refine s_icmp_eq (pc := 42) (tgt := 47) C dX7_isConsistent_42 (by decide) (fun c => ?_) (fun c => ?_)
            · have H := H.1 c
              refine s_aload_n (pc := 47) C dX7_isConsistent_47 rfl 1 rfl ?_
              refine s_getr (pc := 48) (s := 0) (a := 1) (b := 0) (c' := 0) ckX7 (by decide) kw_300 rfl C dX7_isConsistent_48 ?_
              refine s_geti (pc := 51) (s := 1) ckX1 (Or.inl rfl) (by decide) kw_169 (fun _ => rfl) C dX7_isConsistent_51 ?_
              refine s_if_eq (pc := 54) (tgt := 68) C dX7_isConsistent_54 (by decide) (fun c => ?_) (fun c => ?_)
              · have H := H.1 c
                exact s_wide (k' := 26) (n' := 156) (by decide) (by decide) <| s_sub (ls' := []) [] rfl (vX7_isConsistent_b68 C  h27 H)
              · have H := H.2 c
                refine s_aload_n (pc := 57) C dX7_isConsistent_57 rfl 1 rfl ?_
                refine s_callv (pc := 58) (nA := 0) (as := []) (st := []) (stk := [vR 0 0 0]) ckX7 (Or.inl rfl) C (fun l hl => ctX7_fundedShifts l hl _ _ H) ⟨⟨kw_502, kw_58, kw_505⟩, rfl, ⟨by decide, by decide, by decide +kernel⟩, by decide, by decide⟩ kw_503 (g_selW kw_504) rfl (Nat.le_of_ble_eq_true rfl) ⟨by decide, by decide⟩ rfl dX7_isConsistent_58 (g_Kq_I (fun x30 h29 H => ?_) (fun E h29 H => s_prop rfl ⟨by decide, by decide⟩ H C))
                refine s_aload_n (pc := 61) C dX7_isConsistent_61 rfl 1 rfl ?_
                refine s_callv (pc := 62) (nA := 0) (as := []) (st := [vI x30]) (stk := [vR 0 0 0, vI x30]) ckX7 (Or.inl rfl) C (fun l hl => ctX7_fundedShiftsByPaying l hl _ _ H) ⟨⟨kw_530, kw_58, kw_533⟩, rfl, ⟨by decide, by decide, by decide +kernel⟩, by decide, by decide⟩ kw_531 (g_selW kw_532) rfl (Nat.le_of_ble_eq_true rfl) ⟨by decide, by decide⟩ rfl dX7_isConsistent_62 (g_Kq_I (fun x32 h31 H => ?_) (fun E h31 H => s_prop rfl ⟨by decide, by decide⟩ H C))
                refine s_icmp_ne (pc := 65) (tgt := 72) C dX7_isConsistent_65 (by decide) (fun c => ?_) (fun c => ?_)
                · have H := H.1 c
                  refine s_iconst (pc := 72) C dX7_isConsistent_72 (x := (0 : Int32)) (by decide) ?_
                  exact s_wide (k' := 26) (n' := 156) (by decide) (by decide) <| s_sub (ls' := []) [] rfl (vX7_isConsistent_b73 C (0 : Int32) h31 H)
                · have H := H.2 c
                  exact s_wide (k' := 26) (n' := 156) (by decide) (by decide) <| s_sub (ls' := []) [] rfl (vX7_isConsistent_b68 C  h31 H)
            · have H := H.2 c
              refine s_iconst (pc := 45) C dX7_isConsistent_45 (x := (0 : Int32)) (by decide) ?_
              exact s_iret (pc := 46) rfl (by decide) ⟨by decide, by decide⟩ H C dX7_isConsistent_46
          · have H := H.2 c
            refine s_aload_n (pc := 13) C dX7_isConsistent_13 rfl 1 rfl ?_
            refine s_iload_n (pc := 14) C dX7_isConsistent_14 rfl 0 rfl ?_
            refine s_callv (pc := 15) (nA := 1) (as := [vI (2 : Int32)]) (st := []) (stk := [vI (2 : Int32), vR 0 0 0]) ckX7 (Or.inl rfl) C (fun l hl => ctX7_stepsToWind l hl (2 : Int32) _ _ H) ⟨⟨kw_403, kw_58, kw_406⟩, rfl, ⟨by decide, by decide, by decide +kernel⟩, by decide, by decide⟩ kw_404 (g_selW kw_405) rfl (Nat.le_of_ble_eq_true rfl) ⟨by decide, by decide⟩ rfl dX7_isConsistent_15 (g_Kq_I (fun x34 h33 H => ?_) (fun E h33 H => s_prop rfl ⟨by decide, by decide⟩ H C))
            refine s_aload_n (pc := 18) C dX7_isConsistent_18 rfl 1 rfl ?_
            refine s_iload_n (pc := 19) C dX7_isConsistent_19 rfl 0 rfl ?_
            refine s_callv (pc := 20) (nA := 1) (as := [vI (2 : Int32)]) (st := [vI x34]) (stk := [vI (2 : Int32), vR 0 0 0, vI x34]) ckX7 (Or.inl rfl) C (fun l hl => ctX7_stepsToWindByTurning l hl (2 : Int32) _ _ H) ⟨⟨kw_493, kw_58, kw_496⟩, rfl, ⟨by decide, by decide, by decide +kernel⟩, by decide, by decide⟩ kw_494 (g_selW kw_495) rfl (Nat.le_of_ble_eq_true rfl) ⟨by decide, by decide⟩ rfl dX7_isConsistent_20 (g_Kq_I (fun x36 h35 H => ?_) (fun E h35 H => s_prop rfl ⟨by decide, by decide⟩ H C))
            refine s_icmp_eq (pc := 23) (tgt := 28) C dX7_isConsistent_23 (by decide) (fun c => ?_) (fun c => ?_)
            · have H := H.1 c
              refine s_iinc (pc := 28) (y := (3 : Int32)) (ls' := [(1, vI (3 : Int32)), (0, vR 0 0 0)]) C dX7_isConsistent_28 0 rfl (by decide) (by decide) rfl ?_
              refine s_goto (pc := 31) (tgt := 2) C dX7_isConsistent_31 (by decide) ?_
              refine s_iload_n (pc := 2) C dX7_isConsistent_2 rfl 0 rfl ?_
              refine s_aload_n (pc := 3) C dX7_isConsistent_3 rfl 1 rfl ?_
              refine s_getr (pc := 4) (s := 0) (a := 1) (b := 0) (c' := 0) ckX7 (by decide) kw_300 rfl C dX7_isConsistent_4 ?_
              refine s_geti (pc := 7) (s := 1) ckX1 (Or.inl rfl) (by decide) kw_169 (fun _ => rfl) C dX7_isConsistent_7 ?_
              refine s_icmp_ge (pc := 10) (tgt := 34) C dX7_isConsistent_10 (by decide) (fun c => ?_) (fun c => ?_)
              · have H := H.1 c
                refine s_aload_n (pc := 34) C dX7_isConsistent_34 rfl 1 rfl ?_
                refine s_callv (pc := 35) (nA := 0) (as := []) (st := []) (stk := [vR 0 0 0]) ckX7 (Or.inl rfl) C (fun l hl => ctX7_lostTotal l hl _ _ H) ⟨⟨kw_500, kw_58, kw_378⟩, rfl, ⟨by decide, by decide, by decide +kernel⟩, by decide, by decide⟩ kw_376 (g_selW kw_377) rfl (Nat.le_of_ble_eq_true rfl) ⟨by decide, by decide⟩ rfl dX7_isConsistent_35 (g_Kq_I (fun x38 h37 H => ?_) (fun E h37 H => s_prop rfl ⟨by decide, by decide⟩ H C))
                refine s_aload_n (pc := 38) C dX7_isConsistent_38 rfl 1 rfl ?_
                refine s_callv (pc := 39) (nA := 0) (as := []) (st := [vI x38]) (stk := [vR 0 0 0, vI x38]) ckX7 (Or.inl rfl) C (fun l hl => ctX7_lostTotalByRoofs l hl _ _ H) ⟨⟨kw_501, kw_58, kw_386⟩, rfl, ⟨by decide, by decide, by decide +kernel⟩, by decide, by decide⟩ kw_384 (g_selW kw_385) rfl (Nat.le_of_ble_eq_true rfl) ⟨by decide, by decide⟩ rfl dX7_isConsistent_39 (g_Kq_I (fun x40 h39 H => ?_) (fun E h39 H => s_prop rfl ⟨by decide, by decide⟩ H C))
                refine s_icmp_eq (pc := 42) (tgt := 47) C dX7_isConsistent_42 (by decide) (fun c => ?_) (fun c => ?_)
                · have H := H.1 c
                  refine s_aload_n (pc := 47) C dX7_isConsistent_47 rfl 1 rfl ?_
                  refine s_getr (pc := 48) (s := 0) (a := 1) (b := 0) (c' := 0) ckX7 (by decide) kw_300 rfl C dX7_isConsistent_48 ?_
                  refine s_geti (pc := 51) (s := 1) ckX1 (Or.inl rfl) (by decide) kw_169 (fun _ => rfl) C dX7_isConsistent_51 ?_
                  refine s_if_eq (pc := 54) (tgt := 68) C dX7_isConsistent_54 (by decide) (fun c => ?_) (fun c => ?_)
                  · have H := H.1 c
                    exact s_wide (k' := 26) (n' := 156) (by decide) (by decide) <| s_sub (ls' := []) [] rfl (vX7_isConsistent_b68 C  h39 H)
                  · have H := H.2 c
                    refine s_aload_n (pc := 57) C dX7_isConsistent_57 rfl 1 rfl ?_
                    refine s_callv (pc := 58) (nA := 0) (as := []) (st := []) (stk := [vR 0 0 0]) ckX7 (Or.inl rfl) C (fun l hl => ctX7_fundedShifts l hl _ _ H) ⟨⟨kw_502, kw_58, kw_505⟩, rfl, ⟨by decide, by decide, by decide +kernel⟩, by decide, by decide⟩ kw_503 (g_selW kw_504) rfl (Nat.le_of_ble_eq_true rfl) ⟨by decide, by decide⟩ rfl dX7_isConsistent_58 (g_Kq_I (fun x42 h41 H => ?_) (fun E h41 H => s_prop rfl ⟨by decide, by decide⟩ H C))
                    refine s_aload_n (pc := 61) C dX7_isConsistent_61 rfl 1 rfl ?_
                    refine s_callv (pc := 62) (nA := 0) (as := []) (st := [vI x42]) (stk := [vR 0 0 0, vI x42]) ckX7 (Or.inl rfl) C (fun l hl => ctX7_fundedShiftsByPaying l hl _ _ H) ⟨⟨kw_530, kw_58, kw_533⟩, rfl, ⟨by decide, by decide, by decide +kernel⟩, by decide, by decide⟩ kw_531 (g_selW kw_532) rfl (Nat.le_of_ble_eq_true rfl) ⟨by decide, by decide⟩ rfl dX7_isConsistent_62 (g_Kq_I (fun x44 h43 H => ?_) (fun E h43 H => s_prop rfl ⟨by decide, by decide⟩ H C))
                    refine s_icmp_ne (pc := 65) (tgt := 72) C dX7_isConsistent_65 (by decide) (fun c => ?_) (fun c => ?_)
                    · have H := H.1 c
                      refine s_iconst (pc := 72) C dX7_isConsistent_72 (x := (0 : Int32)) (by decide) ?_
                      exact s_wide (k' := 26) (n' := 156) (by decide) (by decide) <| s_sub (ls' := []) [] rfl (vX7_isConsistent_b73 C (0 : Int32) h43 H)
                    · have H := H.2 c
                      exact s_wide (k' := 26) (n' := 156) (by decide) (by decide) <| s_sub (ls' := []) [] rfl (vX7_isConsistent_b68 C  h43 H)
                · have H := H.2 c
                  refine s_iconst (pc := 45) C dX7_isConsistent_45 (x := (0 : Int32)) (by decide) ?_
                  exact s_iret (pc := 46) rfl (by decide) ⟨by decide, by decide⟩ H C dX7_isConsistent_46
              · have H := H.2 c
                refine s_aload_n (pc := 13) C dX7_isConsistent_13 rfl 1 rfl ?_
                refine s_iload_n (pc := 14) C dX7_isConsistent_14 rfl 0 rfl ?_
                refine s_callv (pc := 15) (nA := 1) (as := [vI (3 : Int32)]) (st := []) (stk := [vI (3 : Int32), vR 0 0 0]) ckX7 (Or.inl rfl) C (fun l hl => ctX7_stepsToWind l hl (3 : Int32) _ _ H) ⟨⟨kw_403, kw_58, kw_406⟩, rfl, ⟨by decide, by decide, by decide +kernel⟩, by decide, by decide⟩ kw_404 (g_selW kw_405) rfl (Nat.le_of_ble_eq_true rfl) ⟨by decide, by decide⟩ rfl dX7_isConsistent_15 (g_Kq_I (fun x46 h45 H => ?_) (fun E h45 H => s_prop rfl ⟨by decide, by decide⟩ H C))
                refine s_aload_n (pc := 18) C dX7_isConsistent_18 rfl 1 rfl ?_
                refine s_iload_n (pc := 19) C dX7_isConsistent_19 rfl 0 rfl ?_
                refine s_callv (pc := 20) (nA := 1) (as := [vI (3 : Int32)]) (st := [vI x46]) (stk := [vI (3 : Int32), vR 0 0 0, vI x46]) ckX7 (Or.inl rfl) C (fun l hl => ctX7_stepsToWindByTurning l hl (3 : Int32) _ _ H) ⟨⟨kw_493, kw_58, kw_496⟩, rfl, ⟨by decide, by decide, by decide +kernel⟩, by decide, by decide⟩ kw_494 (g_selW kw_495) rfl (Nat.le_of_ble_eq_true rfl) ⟨by decide, by decide⟩ rfl dX7_isConsistent_20 (g_Kq_I (fun x48 h47 H => ?_) (fun E h47 H => s_prop rfl ⟨by decide, by decide⟩ H C))
                refine s_icmp_eq (pc := 23) (tgt := 28) C dX7_isConsistent_23 (by decide) (fun c => ?_) (fun c => ?_)
                · have H := H.1 c
                  refine s_iinc (pc := 28) (y := (4 : Int32)) (ls' := [(1, vI (4 : Int32)), (0, vR 0 0 0)]) C dX7_isConsistent_28 0 rfl (by decide) (by decide) rfl ?_
                  refine s_goto (pc := 31) (tgt := 2) C dX7_isConsistent_31 (by decide) ?_
                  refine s_iload_n (pc := 2) C dX7_isConsistent_2 rfl 0 rfl ?_
                  refine s_aload_n (pc := 3) C dX7_isConsistent_3 rfl 1 rfl ?_
                  refine s_getr (pc := 4) (s := 0) (a := 1) (b := 0) (c' := 0) ckX7 (by decide) kw_300 rfl C dX7_isConsistent_4 ?_
                  refine s_geti (pc := 7) (s := 1) ckX1 (Or.inl rfl) (by decide) kw_169 (fun _ => rfl) C dX7_isConsistent_7 ?_
                  refine s_icmp_ge (pc := 10) (tgt := 34) C dX7_isConsistent_10 (by decide) (fun c => ?_) (fun c => ?_)
                  · have H := H.1 c
                    refine s_aload_n (pc := 34) C dX7_isConsistent_34 rfl 1 rfl ?_
                    refine s_callv (pc := 35) (nA := 0) (as := []) (st := []) (stk := [vR 0 0 0]) ckX7 (Or.inl rfl) C (fun l hl => ctX7_lostTotal l hl _ _ H) ⟨⟨kw_500, kw_58, kw_378⟩, rfl, ⟨by decide, by decide, by decide +kernel⟩, by decide, by decide⟩ kw_376 (g_selW kw_377) rfl (Nat.le_of_ble_eq_true rfl) ⟨by decide, by decide⟩ rfl dX7_isConsistent_35 (g_Kq_I (fun x50 h49 H => ?_) (fun E h49 H => s_prop rfl ⟨by decide, by decide⟩ H C))
                    refine s_aload_n (pc := 38) C dX7_isConsistent_38 rfl 1 rfl ?_
                    refine s_callv (pc := 39) (nA := 0) (as := []) (st := [vI x50]) (stk := [vR 0 0 0, vI x50]) ckX7 (Or.inl rfl) C (fun l hl => ctX7_lostTotalByRoofs l hl _ _ H) ⟨⟨kw_501, kw_58, kw_386⟩, rfl, ⟨by decide, by decide, by decide +kernel⟩, by decide, by decide⟩ kw_384 (g_selW kw_385) rfl (Nat.le_of_ble_eq_true rfl) ⟨by decide, by decide⟩ rfl dX7_isConsistent_39 (g_Kq_I (fun x52 h51 H => ?_) (fun E h51 H => s_prop rfl ⟨by decide, by decide⟩ H C))
                    refine s_icmp_eq (pc := 42) (tgt := 47) C dX7_isConsistent_42 (by decide) (fun c => ?_) (fun c => ?_)
                    · have H := H.1 c
                      refine s_aload_n (pc := 47) C dX7_isConsistent_47 rfl 1 rfl ?_
                      refine s_getr (pc := 48) (s := 0) (a := 1) (b := 0) (c' := 0) ckX7 (by decide) kw_300 rfl C dX7_isConsistent_48 ?_
                      refine s_geti (pc := 51) (s := 1) ckX1 (Or.inl rfl) (by decide) kw_169 (fun _ => rfl) C dX7_isConsistent_51 ?_
                      refine s_if_eq (pc := 54) (tgt := 68) C dX7_isConsistent_54 (by decide) (fun c => ?_) (fun c => ?_)
                      · have H := H.1 c
                        exact s_wide (k' := 26) (n' := 156) (by decide) (by decide) <| s_sub (ls' := []) [] rfl (vX7_isConsistent_b68 C  h51 H)
                      · have H := H.2 c
                        refine s_aload_n (pc := 57) C dX7_isConsistent_57 rfl 1 rfl ?_
                        refine s_callv (pc := 58) (nA := 0) (as := []) (st := []) (stk := [vR 0 0 0]) ckX7 (Or.inl rfl) C (fun l hl => ctX7_fundedShifts l hl _ _ H) ⟨⟨kw_502, kw_58, kw_505⟩, rfl, ⟨by decide, by decide, by decide +kernel⟩, by decide, by decide⟩ kw_503 (g_selW kw_504) rfl (Nat.le_of_ble_eq_true rfl) ⟨by decide, by decide⟩ rfl dX7_isConsistent_58 (g_Kq_I (fun x54 h53 H => ?_) (fun E h53 H => s_prop rfl ⟨by decide, by decide⟩ H C))
                        refine s_aload_n (pc := 61) C dX7_isConsistent_61 rfl 1 rfl ?_
                        refine s_callv (pc := 62) (nA := 0) (as := []) (st := [vI x54]) (stk := [vR 0 0 0, vI x54]) ckX7 (Or.inl rfl) C (fun l hl => ctX7_fundedShiftsByPaying l hl _ _ H) ⟨⟨kw_530, kw_58, kw_533⟩, rfl, ⟨by decide, by decide, by decide +kernel⟩, by decide, by decide⟩ kw_531 (g_selW kw_532) rfl (Nat.le_of_ble_eq_true rfl) ⟨by decide, by decide⟩ rfl dX7_isConsistent_62 (g_Kq_I (fun x56 h55 H => ?_) (fun E h55 H => s_prop rfl ⟨by decide, by decide⟩ H C))
                        refine s_icmp_ne (pc := 65) (tgt := 72) C dX7_isConsistent_65 (by decide) (fun c => ?_) (fun c => ?_)
                        · have H := H.1 c
                          refine s_iconst (pc := 72) C dX7_isConsistent_72 (x := (0 : Int32)) (by decide) ?_
                          exact s_wide (k' := 26) (n' := 156) (by decide) (by decide) <| s_sub (ls' := []) [] rfl (vX7_isConsistent_b73 C (0 : Int32) h55 H)
                        · have H := H.2 c
                          exact s_wide (k' := 26) (n' := 156) (by decide) (by decide) <| s_sub (ls' := []) [] rfl (vX7_isConsistent_b68 C  h55 H)
                    · have H := H.2 c
                      refine s_iconst (pc := 45) C dX7_isConsistent_45 (x := (0 : Int32)) (by decide) ?_
                      exact s_iret (pc := 46) rfl (by decide) ⟨by decide, by decide⟩ H C dX7_isConsistent_46
                  · have H := H.2 c
                    refine s_aload_n (pc := 13) C dX7_isConsistent_13 rfl 1 rfl ?_
                    refine s_iload_n (pc := 14) C dX7_isConsistent_14 rfl 0 rfl ?_
                    refine s_callv (pc := 15) (nA := 1) (as := [vI (4 : Int32)]) (st := []) (stk := [vI (4 : Int32), vR 0 0 0]) ckX7 (Or.inl rfl) C (fun l hl => ctX7_stepsToWind l hl (4 : Int32) _ _ H) ⟨⟨kw_403, kw_58, kw_406⟩, rfl, ⟨by decide, by decide, by decide +kernel⟩, by decide, by decide⟩ kw_404 (g_selW kw_405) rfl (Nat.le_of_ble_eq_true rfl) ⟨by decide, by decide⟩ rfl dX7_isConsistent_15 (g_Kq_I (fun x58 h57 H => ?_) (fun E h57 H => s_prop rfl ⟨by decide, by decide⟩ H C))
                    refine s_aload_n (pc := 18) C dX7_isConsistent_18 rfl 1 rfl ?_
                    refine s_iload_n (pc := 19) C dX7_isConsistent_19 rfl 0 rfl ?_
                    refine s_callv (pc := 20) (nA := 1) (as := [vI (4 : Int32)]) (st := [vI x58]) (stk := [vI (4 : Int32), vR 0 0 0, vI x58]) ckX7 (Or.inl rfl) C (fun l hl => ctX7_stepsToWindByTurning l hl (4 : Int32) _ _ H) ⟨⟨kw_493, kw_58, kw_496⟩, rfl, ⟨by decide, by decide, by decide +kernel⟩, by decide, by decide⟩ kw_494 (g_selW kw_495) rfl (Nat.le_of_ble_eq_true rfl) ⟨by decide, by decide⟩ rfl dX7_isConsistent_20 (g_Kq_I (fun x60 h59 H => ?_) (fun E h59 H => s_prop rfl ⟨by decide, by decide⟩ H C))
                    refine s_icmp_eq (pc := 23) (tgt := 28) C dX7_isConsistent_23 (by decide) (fun c => ?_) (fun c => ?_)
                    · have H := H.1 c
                      refine s_iinc (pc := 28) (y := (5 : Int32)) (ls' := [(1, vI (5 : Int32)), (0, vR 0 0 0)]) C dX7_isConsistent_28 0 rfl (by decide) (by decide) rfl ?_
                      refine s_goto (pc := 31) (tgt := 2) C dX7_isConsistent_31 (by decide) ?_
                      refine s_iload_n (pc := 2) C dX7_isConsistent_2 rfl 0 rfl ?_
                      refine s_aload_n (pc := 3) C dX7_isConsistent_3 rfl 1 rfl ?_
                      refine s_getr (pc := 4) (s := 0) (a := 1) (b := 0) (c' := 0) ckX7 (by decide) kw_300 rfl C dX7_isConsistent_4 ?_
                      refine s_geti (pc := 7) (s := 1) ckX1 (Or.inl rfl) (by decide) kw_169 (fun _ => rfl) C dX7_isConsistent_7 ?_
                      refine s_icmp_ge (pc := 10) (tgt := 34) C dX7_isConsistent_10 (by decide) (fun c => ?_) (fun c => ?_)
                      · have H := H.1 c
                        refine s_aload_n (pc := 34) C dX7_isConsistent_34 rfl 1 rfl ?_
                        refine s_callv (pc := 35) (nA := 0) (as := []) (st := []) (stk := [vR 0 0 0]) ckX7 (Or.inl rfl) C (fun l hl => ctX7_lostTotal l hl _ _ H) ⟨⟨kw_500, kw_58, kw_378⟩, rfl, ⟨by decide, by decide, by decide +kernel⟩, by decide, by decide⟩ kw_376 (g_selW kw_377) rfl (Nat.le_of_ble_eq_true rfl) ⟨by decide, by decide⟩ rfl dX7_isConsistent_35 (g_Kq_I (fun x62 h61 H => ?_) (fun E h61 H => s_prop rfl ⟨by decide, by decide⟩ H C))
                        refine s_aload_n (pc := 38) C dX7_isConsistent_38 rfl 1 rfl ?_
                        refine s_callv (pc := 39) (nA := 0) (as := []) (st := [vI x62]) (stk := [vR 0 0 0, vI x62]) ckX7 (Or.inl rfl) C (fun l hl => ctX7_lostTotalByRoofs l hl _ _ H) ⟨⟨kw_501, kw_58, kw_386⟩, rfl, ⟨by decide, by decide, by decide +kernel⟩, by decide, by decide⟩ kw_384 (g_selW kw_385) rfl (Nat.le_of_ble_eq_true rfl) ⟨by decide, by decide⟩ rfl dX7_isConsistent_39 (g_Kq_I (fun x64 h63 H => ?_) (fun E h63 H => s_prop rfl ⟨by decide, by decide⟩ H C))
                        refine s_icmp_eq (pc := 42) (tgt := 47) C dX7_isConsistent_42 (by decide) (fun c => ?_) (fun c => ?_)
                        · have H := H.1 c
                          refine s_aload_n (pc := 47) C dX7_isConsistent_47 rfl 1 rfl ?_
                          refine s_getr (pc := 48) (s := 0) (a := 1) (b := 0) (c' := 0) ckX7 (by decide) kw_300 rfl C dX7_isConsistent_48 ?_
                          refine s_geti (pc := 51) (s := 1) ckX1 (Or.inl rfl) (by decide) kw_169 (fun _ => rfl) C dX7_isConsistent_51 ?_
                          refine s_if_eq (pc := 54) (tgt := 68) C dX7_isConsistent_54 (by decide) (fun c => ?_) (fun c => ?_)
                          · have H := H.1 c
                            exact s_wide (k' := 26) (n' := 156) (by decide) (by decide) <| s_sub (ls' := []) [] rfl (vX7_isConsistent_b68 C  h63 H)
                          · have H := H.2 c
                            refine s_aload_n (pc := 57) C dX7_isConsistent_57 rfl 1 rfl ?_
                            refine s_callv (pc := 58) (nA := 0) (as := []) (st := []) (stk := [vR 0 0 0]) ckX7 (Or.inl rfl) C (fun l hl => ctX7_fundedShifts l hl _ _ H) ⟨⟨kw_502, kw_58, kw_505⟩, rfl, ⟨by decide, by decide, by decide +kernel⟩, by decide, by decide⟩ kw_503 (g_selW kw_504) rfl (Nat.le_of_ble_eq_true rfl) ⟨by decide, by decide⟩ rfl dX7_isConsistent_58 (g_Kq_I (fun x66 h65 H => ?_) (fun E h65 H => s_prop rfl ⟨by decide, by decide⟩ H C))
                            refine s_aload_n (pc := 61) C dX7_isConsistent_61 rfl 1 rfl ?_
                            refine s_callv (pc := 62) (nA := 0) (as := []) (st := [vI x66]) (stk := [vR 0 0 0, vI x66]) ckX7 (Or.inl rfl) C (fun l hl => ctX7_fundedShiftsByPaying l hl _ _ H) ⟨⟨kw_530, kw_58, kw_533⟩, rfl, ⟨by decide, by decide, by decide +kernel⟩, by decide, by decide⟩ kw_531 (g_selW kw_532) rfl (Nat.le_of_ble_eq_true rfl) ⟨by decide, by decide⟩ rfl dX7_isConsistent_62 (g_Kq_I (fun x68 h67 H => ?_) (fun E h67 H => s_prop rfl ⟨by decide, by decide⟩ H C))
                            refine s_icmp_ne (pc := 65) (tgt := 72) C dX7_isConsistent_65 (by decide) (fun c => ?_) (fun c => ?_)
                            · have H := H.1 c
                              refine s_iconst (pc := 72) C dX7_isConsistent_72 (x := (0 : Int32)) (by decide) ?_
                              exact s_wide (k' := 26) (n' := 156) (by decide) (by decide) <| s_sub (ls' := []) [] rfl (vX7_isConsistent_b73 C (0 : Int32) h67 H)
                            · have H := H.2 c
                              exact s_wide (k' := 26) (n' := 156) (by decide) (by decide) <| s_sub (ls' := []) [] rfl (vX7_isConsistent_b68 C  h67 H)
                        · have H := H.2 c
                          refine s_iconst (pc := 45) C dX7_isConsistent_45 (x := (0 : Int32)) (by decide) ?_
                          exact s_iret (pc := 46) rfl (by decide) ⟨by decide, by decide⟩ H C dX7_isConsistent_46
                      · have H := H.2 c
                        refine s_aload_n (pc := 13) C dX7_isConsistent_13 rfl 1 rfl ?_
                        refine s_iload_n (pc := 14) C dX7_isConsistent_14 rfl 0 rfl ?_
                        refine s_callv (pc := 15) (nA := 1) (as := [vI (5 : Int32)]) (st := []) (stk := [vI (5 : Int32), vR 0 0 0]) ckX7 (Or.inl rfl) C (fun l hl => ctX7_stepsToWind l hl (5 : Int32) _ _ H) ⟨⟨kw_403, kw_58, kw_406⟩, rfl, ⟨by decide, by decide, by decide +kernel⟩, by decide, by decide⟩ kw_404 (g_selW kw_405) rfl (Nat.le_of_ble_eq_true rfl) ⟨by decide, by decide⟩ rfl dX7_isConsistent_15 (g_Kq_I (fun x70 h69 H => ?_) (fun E h69 H => s_prop rfl ⟨by decide, by decide⟩ H C))
                        refine s_aload_n (pc := 18) C dX7_isConsistent_18 rfl 1 rfl ?_
                        refine s_iload_n (pc := 19) C dX7_isConsistent_19 rfl 0 rfl ?_
                        refine s_callv (pc := 20) (nA := 1) (as := [vI (5 : Int32)]) (st := [vI x70]) (stk := [vI (5 : Int32), vR 0 0 0, vI x70]) ckX7 (Or.inl rfl) C (fun l hl => ctX7_stepsToWindByTurning l hl (5 : Int32) _ _ H) ⟨⟨kw_493, kw_58, kw_496⟩, rfl, ⟨by decide, by decide, by decide +kernel⟩, by decide, by decide⟩ kw_494 (g_selW kw_495) rfl (Nat.le_of_ble_eq_true rfl) ⟨by decide, by decide⟩ rfl dX7_isConsistent_20 (g_Kq_I (fun x72 h71 H => ?_) (fun E h71 H => s_prop rfl ⟨by decide, by decide⟩ H C))
                        refine s_icmp_eq (pc := 23) (tgt := 28) C dX7_isConsistent_23 (by decide) (fun c => ?_) (fun c => ?_)
                        · have H := H.1 c
                          refine s_iinc (pc := 28) (y := (6 : Int32)) (ls' := [(1, vI (6 : Int32)), (0, vR 0 0 0)]) C dX7_isConsistent_28 0 rfl (by decide) (by decide) rfl ?_
                          refine s_goto (pc := 31) (tgt := 2) C dX7_isConsistent_31 (by decide) ?_
                          refine s_iload_n (pc := 2) C dX7_isConsistent_2 rfl 0 rfl ?_
                          refine s_aload_n (pc := 3) C dX7_isConsistent_3 rfl 1 rfl ?_
                          refine s_getr (pc := 4) (s := 0) (a := 1) (b := 0) (c' := 0) ckX7 (by decide) kw_300 rfl C dX7_isConsistent_4 ?_
                          refine s_geti (pc := 7) (s := 1) ckX1 (Or.inl rfl) (by decide) kw_169 (fun _ => rfl) C dX7_isConsistent_7 ?_
                          refine s_icmp_ge (pc := 10) (tgt := 34) C dX7_isConsistent_10 (by decide) (fun c => ?_) (fun c => ?_)
                          · have H := H.1 c
                            refine s_aload_n (pc := 34) C dX7_isConsistent_34 rfl 1 rfl ?_
                            refine s_callv (pc := 35) (nA := 0) (as := []) (st := []) (stk := [vR 0 0 0]) ckX7 (Or.inl rfl) C (fun l hl => ctX7_lostTotal l hl _ _ H) ⟨⟨kw_500, kw_58, kw_378⟩, rfl, ⟨by decide, by decide, by decide +kernel⟩, by decide, by decide⟩ kw_376 (g_selW kw_377) rfl (Nat.le_of_ble_eq_true rfl) ⟨by decide, by decide⟩ rfl dX7_isConsistent_35 (g_Kq_I (fun x74 h73 H => ?_) (fun E h73 H => s_prop rfl ⟨by decide, by decide⟩ H C))
                            refine s_aload_n (pc := 38) C dX7_isConsistent_38 rfl 1 rfl ?_
                            refine s_callv (pc := 39) (nA := 0) (as := []) (st := [vI x74]) (stk := [vR 0 0 0, vI x74]) ckX7 (Or.inl rfl) C (fun l hl => ctX7_lostTotalByRoofs l hl _ _ H) ⟨⟨kw_501, kw_58, kw_386⟩, rfl, ⟨by decide, by decide, by decide +kernel⟩, by decide, by decide⟩ kw_384 (g_selW kw_385) rfl (Nat.le_of_ble_eq_true rfl) ⟨by decide, by decide⟩ rfl dX7_isConsistent_39 (g_Kq_I (fun x76 h75 H => ?_) (fun E h75 H => s_prop rfl ⟨by decide, by decide⟩ H C))
                            refine s_icmp_eq (pc := 42) (tgt := 47) C dX7_isConsistent_42 (by decide) (fun c => ?_) (fun c => ?_)
                            · have H := H.1 c
                              refine s_aload_n (pc := 47) C dX7_isConsistent_47 rfl 1 rfl ?_
                              refine s_getr (pc := 48) (s := 0) (a := 1) (b := 0) (c' := 0) ckX7 (by decide) kw_300 rfl C dX7_isConsistent_48 ?_
                              refine s_geti (pc := 51) (s := 1) ckX1 (Or.inl rfl) (by decide) kw_169 (fun _ => rfl) C dX7_isConsistent_51 ?_
                              refine s_if_eq (pc := 54) (tgt := 68) C dX7_isConsistent_54 (by decide) (fun c => ?_) (fun c => ?_)
                              · have H := H.1 c
                                exact s_wide (k' := 26) (n' := 156) (by decide) (by decide) <| s_sub (ls' := []) [] rfl (vX7_isConsistent_b68 C  h75 H)
                              · have H := H.2 c
                                refine s_aload_n (pc := 57) C dX7_isConsistent_57 rfl 1 rfl ?_
                                refine s_callv (pc := 58) (nA := 0) (as := []) (st := []) (stk := [vR 0 0 0]) ckX7 (Or.inl rfl) C (fun l hl => ctX7_fundedShifts l hl _ _ H) ⟨⟨kw_502, kw_58, kw_505⟩, rfl, ⟨by decide, by decide, by decide +kernel⟩, by decide, by decide⟩ kw_503 (g_selW kw_504) rfl (Nat.le_of_ble_eq_true rfl) ⟨by decide, by decide⟩ rfl dX7_isConsistent_58 (g_Kq_I (fun x78 h77 H => ?_) (fun E h77 H => s_prop rfl ⟨by decide, by decide⟩ H C))
                                refine s_aload_n (pc := 61) C dX7_isConsistent_61 rfl 1 rfl ?_
                                refine s_callv (pc := 62) (nA := 0) (as := []) (st := [vI x78]) (stk := [vR 0 0 0, vI x78]) ckX7 (Or.inl rfl) C (fun l hl => ctX7_fundedShiftsByPaying l hl _ _ H) ⟨⟨kw_530, kw_58, kw_533⟩, rfl, ⟨by decide, by decide, by decide +kernel⟩, by decide, by decide⟩ kw_531 (g_selW kw_532) rfl (Nat.le_of_ble_eq_true rfl) ⟨by decide, by decide⟩ rfl dX7_isConsistent_62 (g_Kq_I (fun x80 h79 H => ?_) (fun E h79 H => s_prop rfl ⟨by decide, by decide⟩ H C))
                                refine s_icmp_ne (pc := 65) (tgt := 72) C dX7_isConsistent_65 (by decide) (fun c => ?_) (fun c => ?_)
                                · have H := H.1 c
                                  refine s_iconst (pc := 72) C dX7_isConsistent_72 (x := (0 : Int32)) (by decide) ?_
                                  exact s_wide (k' := 26) (n' := 156) (by decide) (by decide) <| s_sub (ls' := []) [] rfl (vX7_isConsistent_b73 C (0 : Int32) h79 H)
                                · have H := H.2 c
                                  exact s_wide (k' := 26) (n' := 156) (by decide) (by decide) <| s_sub (ls' := []) [] rfl (vX7_isConsistent_b68 C  h79 H)
                            · have H := H.2 c
                              refine s_iconst (pc := 45) C dX7_isConsistent_45 (x := (0 : Int32)) (by decide) ?_
                              exact s_iret (pc := 46) rfl (by decide) ⟨by decide, by decide⟩ H C dX7_isConsistent_46
                          · have H := H.2 c
                            refine s_aload_n (pc := 13) C dX7_isConsistent_13 rfl 1 rfl ?_
                            refine s_iload_n (pc := 14) C dX7_isConsistent_14 rfl 0 rfl ?_
                            refine s_callv (pc := 15) (nA := 1) (as := [vI (6 : Int32)]) (st := []) (stk := [vI (6 : Int32), vR 0 0 0]) ckX7 (Or.inl rfl) C (fun l hl => ctX7_stepsToWind l hl (6 : Int32) _ _ H) ⟨⟨kw_403, kw_58, kw_406⟩, rfl, ⟨by decide, by decide, by decide +kernel⟩, by decide, by decide⟩ kw_404 (g_selW kw_405) rfl (Nat.le_of_ble_eq_true rfl) ⟨by decide, by decide⟩ rfl dX7_isConsistent_15 (g_Kq_I (fun x82 h81 H => ?_) (fun E h81 H => s_prop rfl ⟨by decide, by decide⟩ H C))
                            refine s_aload_n (pc := 18) C dX7_isConsistent_18 rfl 1 rfl ?_
                            refine s_iload_n (pc := 19) C dX7_isConsistent_19 rfl 0 rfl ?_
                            refine s_callv (pc := 20) (nA := 1) (as := [vI (6 : Int32)]) (st := [vI x82]) (stk := [vI (6 : Int32), vR 0 0 0, vI x82]) ckX7 (Or.inl rfl) C (fun l hl => ctX7_stepsToWindByTurning l hl (6 : Int32) _ _ H) ⟨⟨kw_493, kw_58, kw_496⟩, rfl, ⟨by decide, by decide, by decide +kernel⟩, by decide, by decide⟩ kw_494 (g_selW kw_495) rfl (Nat.le_of_ble_eq_true rfl) ⟨by decide, by decide⟩ rfl dX7_isConsistent_20 (g_Kq_I (fun x84 h83 H => ?_) (fun E h83 H => s_prop rfl ⟨by decide, by decide⟩ H C))
                            refine s_icmp_eq (pc := 23) (tgt := 28) C dX7_isConsistent_23 (by decide) (fun c => ?_) (fun c => ?_)
                            · have H := H.1 c
                              refine s_iinc (pc := 28) (y := (7 : Int32)) (ls' := [(1, vI (7 : Int32)), (0, vR 0 0 0)]) C dX7_isConsistent_28 0 rfl (by decide) (by decide) rfl ?_
                              refine s_goto (pc := 31) (tgt := 2) C dX7_isConsistent_31 (by decide) ?_
                              refine s_iload_n (pc := 2) C dX7_isConsistent_2 rfl 0 rfl ?_
                              refine s_aload_n (pc := 3) C dX7_isConsistent_3 rfl 1 rfl ?_
                              refine s_getr (pc := 4) (s := 0) (a := 1) (b := 0) (c' := 0) ckX7 (by decide) kw_300 rfl C dX7_isConsistent_4 ?_
                              refine s_geti (pc := 7) (s := 1) ckX1 (Or.inl rfl) (by decide) kw_169 (fun _ => rfl) C dX7_isConsistent_7 ?_
                              refine s_icmp_ge (pc := 10) (tgt := 34) C dX7_isConsistent_10 (by decide) (fun c => ?_) (fun c => ?_)
                              · have H := H.1 c
                                refine s_aload_n (pc := 34) C dX7_isConsistent_34 rfl 1 rfl ?_
                                refine s_callv (pc := 35) (nA := 0) (as := []) (st := []) (stk := [vR 0 0 0]) ckX7 (Or.inl rfl) C (fun l hl => ctX7_lostTotal l hl _ _ H) ⟨⟨kw_500, kw_58, kw_378⟩, rfl, ⟨by decide, by decide, by decide +kernel⟩, by decide, by decide⟩ kw_376 (g_selW kw_377) rfl (Nat.le_of_ble_eq_true rfl) ⟨by decide, by decide⟩ rfl dX7_isConsistent_35 (g_Kq_I (fun x86 h85 H => ?_) (fun E h85 H => s_prop rfl ⟨by decide, by decide⟩ H C))
                                refine s_aload_n (pc := 38) C dX7_isConsistent_38 rfl 1 rfl ?_
                                refine s_callv (pc := 39) (nA := 0) (as := []) (st := [vI x86]) (stk := [vR 0 0 0, vI x86]) ckX7 (Or.inl rfl) C (fun l hl => ctX7_lostTotalByRoofs l hl _ _ H) ⟨⟨kw_501, kw_58, kw_386⟩, rfl, ⟨by decide, by decide, by decide +kernel⟩, by decide, by decide⟩ kw_384 (g_selW kw_385) rfl (Nat.le_of_ble_eq_true rfl) ⟨by decide, by decide⟩ rfl dX7_isConsistent_39 (g_Kq_I (fun x88 h87 H => ?_) (fun E h87 H => s_prop rfl ⟨by decide, by decide⟩ H C))
                                refine s_icmp_eq (pc := 42) (tgt := 47) C dX7_isConsistent_42 (by decide) (fun c => ?_) (fun c => ?_)
                                · have H := H.1 c
                                  refine s_aload_n (pc := 47) C dX7_isConsistent_47 rfl 1 rfl ?_
                                  refine s_getr (pc := 48) (s := 0) (a := 1) (b := 0) (c' := 0) ckX7 (by decide) kw_300 rfl C dX7_isConsistent_48 ?_
                                  refine s_geti (pc := 51) (s := 1) ckX1 (Or.inl rfl) (by decide) kw_169 (fun _ => rfl) C dX7_isConsistent_51 ?_
                                  refine s_if_eq (pc := 54) (tgt := 68) C dX7_isConsistent_54 (by decide) (fun c => ?_) (fun c => ?_)
                                  · have H := H.1 c
                                    exact s_wide (k' := 26) (n' := 156) (by decide) (by decide) <| s_sub (ls' := []) [] rfl (vX7_isConsistent_b68 C  h87 H)
                                  · have H := H.2 c
                                    refine s_aload_n (pc := 57) C dX7_isConsistent_57 rfl 1 rfl ?_
                                    refine s_callv (pc := 58) (nA := 0) (as := []) (st := []) (stk := [vR 0 0 0]) ckX7 (Or.inl rfl) C (fun l hl => ctX7_fundedShifts l hl _ _ H) ⟨⟨kw_502, kw_58, kw_505⟩, rfl, ⟨by decide, by decide, by decide +kernel⟩, by decide, by decide⟩ kw_503 (g_selW kw_504) rfl (Nat.le_of_ble_eq_true rfl) ⟨by decide, by decide⟩ rfl dX7_isConsistent_58 (g_Kq_I (fun x90 h89 H => ?_) (fun E h89 H => s_prop rfl ⟨by decide, by decide⟩ H C))
                                    refine s_aload_n (pc := 61) C dX7_isConsistent_61 rfl 1 rfl ?_
                                    refine s_callv (pc := 62) (nA := 0) (as := []) (st := [vI x90]) (stk := [vR 0 0 0, vI x90]) ckX7 (Or.inl rfl) C (fun l hl => ctX7_fundedShiftsByPaying l hl _ _ H) ⟨⟨kw_530, kw_58, kw_533⟩, rfl, ⟨by decide, by decide, by decide +kernel⟩, by decide, by decide⟩ kw_531 (g_selW kw_532) rfl (Nat.le_of_ble_eq_true rfl) ⟨by decide, by decide⟩ rfl dX7_isConsistent_62 (g_Kq_I (fun x92 h91 H => ?_) (fun E h91 H => s_prop rfl ⟨by decide, by decide⟩ H C))
                                    refine s_icmp_ne (pc := 65) (tgt := 72) C dX7_isConsistent_65 (by decide) (fun c => ?_) (fun c => ?_)
                                    · have H := H.1 c
                                      refine s_iconst (pc := 72) C dX7_isConsistent_72 (x := (0 : Int32)) (by decide) ?_
                                      exact s_wide (k' := 26) (n' := 156) (by decide) (by decide) <| s_sub (ls' := []) [] rfl (vX7_isConsistent_b73 C (0 : Int32) h91 H)
                                    · have H := H.2 c
                                      exact s_wide (k' := 26) (n' := 156) (by decide) (by decide) <| s_sub (ls' := []) [] rfl (vX7_isConsistent_b68 C  h91 H)
                                · have H := H.2 c
                                  refine s_iconst (pc := 45) C dX7_isConsistent_45 (x := (0 : Int32)) (by decide) ?_
                                  exact s_iret (pc := 46) rfl (by decide) ⟨by decide, by decide⟩ H C dX7_isConsistent_46
                              · have H := H.2 c
                                refine s_aload_n (pc := 13) C dX7_isConsistent_13 rfl 1 rfl ?_
                                refine s_iload_n (pc := 14) C dX7_isConsistent_14 rfl 0 rfl ?_
                                refine s_callv (pc := 15) (nA := 1) (as := [vI (7 : Int32)]) (st := []) (stk := [vI (7 : Int32), vR 0 0 0]) ckX7 (Or.inl rfl) C (fun l hl => ctX7_stepsToWind l hl (7 : Int32) _ _ H) ⟨⟨kw_403, kw_58, kw_406⟩, rfl, ⟨by decide, by decide, by decide +kernel⟩, by decide, by decide⟩ kw_404 (g_selW kw_405) rfl (Nat.le_of_ble_eq_true rfl) ⟨by decide, by decide⟩ rfl dX7_isConsistent_15 (g_Kq_I (fun x94 h93 H => ?_) (fun E h93 H => s_prop rfl ⟨by decide, by decide⟩ H C))
                                refine s_aload_n (pc := 18) C dX7_isConsistent_18 rfl 1 rfl ?_
                                refine s_iload_n (pc := 19) C dX7_isConsistent_19 rfl 0 rfl ?_
                                refine s_callv (pc := 20) (nA := 1) (as := [vI (7 : Int32)]) (st := [vI x94]) (stk := [vI (7 : Int32), vR 0 0 0, vI x94]) ckX7 (Or.inl rfl) C (fun l hl => ctX7_stepsToWindByTurning l hl (7 : Int32) _ _ H) ⟨⟨kw_493, kw_58, kw_496⟩, rfl, ⟨by decide, by decide, by decide +kernel⟩, by decide, by decide⟩ kw_494 (g_selW kw_495) rfl (Nat.le_of_ble_eq_true rfl) ⟨by decide, by decide⟩ rfl dX7_isConsistent_20 (g_Kq_I (fun x96 h95 H => ?_) (fun E h95 H => s_prop rfl ⟨by decide, by decide⟩ H C))
                                refine s_icmp_eq (pc := 23) (tgt := 28) C dX7_isConsistent_23 (by decide) (fun c => ?_) (fun c => ?_)
                                · have H := H.1 c
                                  refine s_iinc (pc := 28) (y := (8 : Int32)) (ls' := [(1, vI (8 : Int32)), (0, vR 0 0 0)]) C dX7_isConsistent_28 0 rfl (by decide) (by decide) rfl ?_
                                  refine s_goto (pc := 31) (tgt := 2) C dX7_isConsistent_31 (by decide) ?_
                                  refine s_iload_n (pc := 2) C dX7_isConsistent_2 rfl 0 rfl ?_
                                  refine s_aload_n (pc := 3) C dX7_isConsistent_3 rfl 1 rfl ?_
                                  refine s_getr (pc := 4) (s := 0) (a := 1) (b := 0) (c' := 0) ckX7 (by decide) kw_300 rfl C dX7_isConsistent_4 ?_
                                  refine s_geti (pc := 7) (s := 1) ckX1 (Or.inl rfl) (by decide) kw_169 (fun _ => rfl) C dX7_isConsistent_7 ?_
                                  refine s_icmp_ge (pc := 10) (tgt := 34) C dX7_isConsistent_10 (by decide) (fun c => ?_) (fun c => ?_)
                                  · have H := H.1 c
                                    refine s_aload_n (pc := 34) C dX7_isConsistent_34 rfl 1 rfl ?_
                                    refine s_callv (pc := 35) (nA := 0) (as := []) (st := []) (stk := [vR 0 0 0]) ckX7 (Or.inl rfl) C (fun l hl => ctX7_lostTotal l hl _ _ H) ⟨⟨kw_500, kw_58, kw_378⟩, rfl, ⟨by decide, by decide, by decide +kernel⟩, by decide, by decide⟩ kw_376 (g_selW kw_377) rfl (Nat.le_of_ble_eq_true rfl) ⟨by decide, by decide⟩ rfl dX7_isConsistent_35 (g_Kq_I (fun x98 h97 H => ?_) (fun E h97 H => s_prop rfl ⟨by decide, by decide⟩ H C))
                                    refine s_aload_n (pc := 38) C dX7_isConsistent_38 rfl 1 rfl ?_
                                    refine s_callv (pc := 39) (nA := 0) (as := []) (st := [vI x98]) (stk := [vR 0 0 0, vI x98]) ckX7 (Or.inl rfl) C (fun l hl => ctX7_lostTotalByRoofs l hl _ _ H) ⟨⟨kw_501, kw_58, kw_386⟩, rfl, ⟨by decide, by decide, by decide +kernel⟩, by decide, by decide⟩ kw_384 (g_selW kw_385) rfl (Nat.le_of_ble_eq_true rfl) ⟨by decide, by decide⟩ rfl dX7_isConsistent_39 (g_Kq_I (fun x100 h99 H => ?_) (fun E h99 H => s_prop rfl ⟨by decide, by decide⟩ H C))
                                    refine s_icmp_eq (pc := 42) (tgt := 47) C dX7_isConsistent_42 (by decide) (fun c => ?_) (fun c => ?_)
                                    · have H := H.1 c
                                      refine s_aload_n (pc := 47) C dX7_isConsistent_47 rfl 1 rfl ?_
                                      refine s_getr (pc := 48) (s := 0) (a := 1) (b := 0) (c' := 0) ckX7 (by decide) kw_300 rfl C dX7_isConsistent_48 ?_
                                      refine s_geti (pc := 51) (s := 1) ckX1 (Or.inl rfl) (by decide) kw_169 (fun _ => rfl) C dX7_isConsistent_51 ?_
                                      refine s_if_eq (pc := 54) (tgt := 68) C dX7_isConsistent_54 (by decide) (fun c => ?_) (fun c => ?_)
                                      · have H := H.1 c
                                        exact s_wide (k' := 26) (n' := 156) (by decide) (by decide) <| s_sub (ls' := []) [] rfl (vX7_isConsistent_b68 C  h99 H)
                                      · have H := H.2 c
                                        refine s_aload_n (pc := 57) C dX7_isConsistent_57 rfl 1 rfl ?_
                                        refine s_callv (pc := 58) (nA := 0) (as := []) (st := []) (stk := [vR 0 0 0]) ckX7 (Or.inl rfl) C (fun l hl => ctX7_fundedShifts l hl _ _ H) ⟨⟨kw_502, kw_58, kw_505⟩, rfl, ⟨by decide, by decide, by decide +kernel⟩, by decide, by decide⟩ kw_503 (g_selW kw_504) rfl (Nat.le_of_ble_eq_true rfl) ⟨by decide, by decide⟩ rfl dX7_isConsistent_58 (g_Kq_I (fun x102 h101 H => ?_) (fun E h101 H => s_prop rfl ⟨by decide, by decide⟩ H C))
                                        refine s_aload_n (pc := 61) C dX7_isConsistent_61 rfl 1 rfl ?_
                                        refine s_callv (pc := 62) (nA := 0) (as := []) (st := [vI x102]) (stk := [vR 0 0 0, vI x102]) ckX7 (Or.inl rfl) C (fun l hl => ctX7_fundedShiftsByPaying l hl _ _ H) ⟨⟨kw_530, kw_58, kw_533⟩, rfl, ⟨by decide, by decide, by decide +kernel⟩, by decide, by decide⟩ kw_531 (g_selW kw_532) rfl (Nat.le_of_ble_eq_true rfl) ⟨by decide, by decide⟩ rfl dX7_isConsistent_62 (g_Kq_I (fun x104 h103 H => ?_) (fun E h103 H => s_prop rfl ⟨by decide, by decide⟩ H C))
                                        refine s_icmp_ne (pc := 65) (tgt := 72) C dX7_isConsistent_65 (by decide) (fun c => ?_) (fun c => ?_)
                                        · have H := H.1 c
                                          refine s_iconst (pc := 72) C dX7_isConsistent_72 (x := (0 : Int32)) (by decide) ?_
                                          exact s_wide (k' := 26) (n' := 156) (by decide) (by decide) <| s_sub (ls' := []) [] rfl (vX7_isConsistent_b73 C (0 : Int32) h103 H)
                                        · have H := H.2 c
                                          exact s_wide (k' := 26) (n' := 156) (by decide) (by decide) <| s_sub (ls' := []) [] rfl (vX7_isConsistent_b68 C  h103 H)
                                    · have H := H.2 c
                                      refine s_iconst (pc := 45) C dX7_isConsistent_45 (x := (0 : Int32)) (by decide) ?_
                                      exact s_iret (pc := 46) rfl (by decide) ⟨by decide, by decide⟩ H C dX7_isConsistent_46
                                  · have H := H.2 c
                                    refine s_aload_n (pc := 13) C dX7_isConsistent_13 rfl 1 rfl ?_
                                    refine s_iload_n (pc := 14) C dX7_isConsistent_14 rfl 0 rfl ?_
                                    refine s_callv (pc := 15) (nA := 1) (as := [vI (8 : Int32)]) (st := []) (stk := [vI (8 : Int32), vR 0 0 0]) ckX7 (Or.inl rfl) C (fun l hl => ctX7_stepsToWind l hl (8 : Int32) _ _ H) ⟨⟨kw_403, kw_58, kw_406⟩, rfl, ⟨by decide, by decide, by decide +kernel⟩, by decide, by decide⟩ kw_404 (g_selW kw_405) rfl (Nat.le_of_ble_eq_true rfl) ⟨by decide, by decide⟩ rfl dX7_isConsistent_15 (g_Kq_I (fun x106 h105 H => ?_) (fun E h105 H => s_prop rfl ⟨by decide, by decide⟩ H C))
                                    refine s_aload_n (pc := 18) C dX7_isConsistent_18 rfl 1 rfl ?_
                                    refine s_iload_n (pc := 19) C dX7_isConsistent_19 rfl 0 rfl ?_
                                    refine s_callv (pc := 20) (nA := 1) (as := [vI (8 : Int32)]) (st := [vI x106]) (stk := [vI (8 : Int32), vR 0 0 0, vI x106]) ckX7 (Or.inl rfl) C (fun l hl => ctX7_stepsToWindByTurning l hl (8 : Int32) _ _ H) ⟨⟨kw_493, kw_58, kw_496⟩, rfl, ⟨by decide, by decide, by decide +kernel⟩, by decide, by decide⟩ kw_494 (g_selW kw_495) rfl (Nat.le_of_ble_eq_true rfl) ⟨by decide, by decide⟩ rfl dX7_isConsistent_20 (g_Kq_I (fun x108 h107 H => ?_) (fun E h107 H => s_prop rfl ⟨by decide, by decide⟩ H C))
                                    refine s_icmp_eq (pc := 23) (tgt := 28) C dX7_isConsistent_23 (by decide) (fun c => ?_) (fun c => ?_)
                                    · have H := H.1 c
                                      refine s_iinc (pc := 28) (y := (9 : Int32)) (ls' := [(1, vI (9 : Int32)), (0, vR 0 0 0)]) C dX7_isConsistent_28 0 rfl (by decide) (by decide) rfl ?_
                                      refine s_goto (pc := 31) (tgt := 2) C dX7_isConsistent_31 (by decide) ?_
                                      refine s_iload_n (pc := 2) C dX7_isConsistent_2 rfl 0 rfl ?_
                                      refine s_aload_n (pc := 3) C dX7_isConsistent_3 rfl 1 rfl ?_
                                      refine s_getr (pc := 4) (s := 0) (a := 1) (b := 0) (c' := 0) ckX7 (by decide) kw_300 rfl C dX7_isConsistent_4 ?_
                                      refine s_geti (pc := 7) (s := 1) ckX1 (Or.inl rfl) (by decide) kw_169 (fun _ => rfl) C dX7_isConsistent_7 ?_
                                      refine s_icmp_ge (pc := 10) (tgt := 34) C dX7_isConsistent_10 (by decide) (fun c => ?_) (fun c => ?_)
                                      · have H := H.1 c
                                        refine s_aload_n (pc := 34) C dX7_isConsistent_34 rfl 1 rfl ?_
                                        refine s_callv (pc := 35) (nA := 0) (as := []) (st := []) (stk := [vR 0 0 0]) ckX7 (Or.inl rfl) C (fun l hl => ctX7_lostTotal l hl _ _ H) ⟨⟨kw_500, kw_58, kw_378⟩, rfl, ⟨by decide, by decide, by decide +kernel⟩, by decide, by decide⟩ kw_376 (g_selW kw_377) rfl (Nat.le_of_ble_eq_true rfl) ⟨by decide, by decide⟩ rfl dX7_isConsistent_35 (g_Kq_I (fun x110 h109 H => ?_) (fun E h109 H => s_prop rfl ⟨by decide, by decide⟩ H C))
                                        refine s_aload_n (pc := 38) C dX7_isConsistent_38 rfl 1 rfl ?_
                                        refine s_callv (pc := 39) (nA := 0) (as := []) (st := [vI x110]) (stk := [vR 0 0 0, vI x110]) ckX7 (Or.inl rfl) C (fun l hl => ctX7_lostTotalByRoofs l hl _ _ H) ⟨⟨kw_501, kw_58, kw_386⟩, rfl, ⟨by decide, by decide, by decide +kernel⟩, by decide, by decide⟩ kw_384 (g_selW kw_385) rfl (Nat.le_of_ble_eq_true rfl) ⟨by decide, by decide⟩ rfl dX7_isConsistent_39 (g_Kq_I (fun x112 h111 H => ?_) (fun E h111 H => s_prop rfl ⟨by decide, by decide⟩ H C))
                                        refine s_icmp_eq (pc := 42) (tgt := 47) C dX7_isConsistent_42 (by decide) (fun c => ?_) (fun c => ?_)
                                        · have H := H.1 c
                                          refine s_aload_n (pc := 47) C dX7_isConsistent_47 rfl 1 rfl ?_
                                          refine s_getr (pc := 48) (s := 0) (a := 1) (b := 0) (c' := 0) ckX7 (by decide) kw_300 rfl C dX7_isConsistent_48 ?_
                                          refine s_geti (pc := 51) (s := 1) ckX1 (Or.inl rfl) (by decide) kw_169 (fun _ => rfl) C dX7_isConsistent_51 ?_
                                          refine s_if_eq (pc := 54) (tgt := 68) C dX7_isConsistent_54 (by decide) (fun c => ?_) (fun c => ?_)
                                          · have H := H.1 c
                                            exact s_wide (k' := 26) (n' := 156) (by decide) (by decide) <| s_sub (ls' := []) [] rfl (vX7_isConsistent_b68 C  h111 H)
                                          · have H := H.2 c
                                            refine s_aload_n (pc := 57) C dX7_isConsistent_57 rfl 1 rfl ?_
                                            refine s_callv (pc := 58) (nA := 0) (as := []) (st := []) (stk := [vR 0 0 0]) ckX7 (Or.inl rfl) C (fun l hl => ctX7_fundedShifts l hl _ _ H) ⟨⟨kw_502, kw_58, kw_505⟩, rfl, ⟨by decide, by decide, by decide +kernel⟩, by decide, by decide⟩ kw_503 (g_selW kw_504) rfl (Nat.le_of_ble_eq_true rfl) ⟨by decide, by decide⟩ rfl dX7_isConsistent_58 (g_Kq_I (fun x114 h113 H => ?_) (fun E h113 H => s_prop rfl ⟨by decide, by decide⟩ H C))
                                            refine s_aload_n (pc := 61) C dX7_isConsistent_61 rfl 1 rfl ?_
                                            refine s_callv (pc := 62) (nA := 0) (as := []) (st := [vI x114]) (stk := [vR 0 0 0, vI x114]) ckX7 (Or.inl rfl) C (fun l hl => ctX7_fundedShiftsByPaying l hl _ _ H) ⟨⟨kw_530, kw_58, kw_533⟩, rfl, ⟨by decide, by decide, by decide +kernel⟩, by decide, by decide⟩ kw_531 (g_selW kw_532) rfl (Nat.le_of_ble_eq_true rfl) ⟨by decide, by decide⟩ rfl dX7_isConsistent_62 (g_Kq_I (fun x116 h115 H => ?_) (fun E h115 H => s_prop rfl ⟨by decide, by decide⟩ H C))
                                            refine s_icmp_ne (pc := 65) (tgt := 72) C dX7_isConsistent_65 (by decide) (fun c => ?_) (fun c => ?_)
                                            · have H := H.1 c
                                              refine s_iconst (pc := 72) C dX7_isConsistent_72 (x := (0 : Int32)) (by decide) ?_
                                              exact s_wide (k' := 26) (n' := 156) (by decide) (by decide) <| s_sub (ls' := []) [] rfl (vX7_isConsistent_b73 C (0 : Int32) h115 H)
                                            · have H := H.2 c
                                              exact s_wide (k' := 26) (n' := 156) (by decide) (by decide) <| s_sub (ls' := []) [] rfl (vX7_isConsistent_b68 C  h115 H)
                                        · have H := H.2 c
                                          refine s_iconst (pc := 45) C dX7_isConsistent_45 (x := (0 : Int32)) (by decide) ?_
                                          exact s_iret (pc := 46) rfl (by decide) ⟨by decide, by decide⟩ H C dX7_isConsistent_46
                                      · have H := H.2 c
                                        refine s_aload_n (pc := 13) C dX7_isConsistent_13 rfl 1 rfl ?_
                                        refine s_iload_n (pc := 14) C dX7_isConsistent_14 rfl 0 rfl ?_
                                        refine s_callv (pc := 15) (nA := 1) (as := [vI (9 : Int32)]) (st := []) (stk := [vI (9 : Int32), vR 0 0 0]) ckX7 (Or.inl rfl) C (fun l hl => ctX7_stepsToWind l hl (9 : Int32) _ _ H) ⟨⟨kw_403, kw_58, kw_406⟩, rfl, ⟨by decide, by decide, by decide +kernel⟩, by decide, by decide⟩ kw_404 (g_selW kw_405) rfl (Nat.le_of_ble_eq_true rfl) ⟨by decide, by decide⟩ rfl dX7_isConsistent_15 (g_Kq_I (fun x118 h117 H => ?_) (fun E h117 H => s_prop rfl ⟨by decide, by decide⟩ H C))
                                        refine s_aload_n (pc := 18) C dX7_isConsistent_18 rfl 1 rfl ?_
                                        refine s_iload_n (pc := 19) C dX7_isConsistent_19 rfl 0 rfl ?_
                                        refine s_callv (pc := 20) (nA := 1) (as := [vI (9 : Int32)]) (st := [vI x118]) (stk := [vI (9 : Int32), vR 0 0 0, vI x118]) ckX7 (Or.inl rfl) C (fun l hl => ctX7_stepsToWindByTurning l hl (9 : Int32) _ _ H) ⟨⟨kw_493, kw_58, kw_496⟩, rfl, ⟨by decide, by decide, by decide +kernel⟩, by decide, by decide⟩ kw_494 (g_selW kw_495) rfl (Nat.le_of_ble_eq_true rfl) ⟨by decide, by decide⟩ rfl dX7_isConsistent_20 (g_Kq_I (fun x120 h119 H => ?_) (fun E h119 H => s_prop rfl ⟨by decide, by decide⟩ H C))
                                        refine s_icmp_eq (pc := 23) (tgt := 28) C dX7_isConsistent_23 (by decide) (fun c => ?_) (fun c => ?_)
                                        · have H := H.1 c
                                          refine s_iinc (pc := 28) (y := (10 : Int32)) (ls' := [(1, vI (10 : Int32)), (0, vR 0 0 0)]) C dX7_isConsistent_28 0 rfl (by decide) (by decide) rfl ?_
                                          refine s_goto (pc := 31) (tgt := 2) C dX7_isConsistent_31 (by decide) ?_
                                          refine s_iload_n (pc := 2) C dX7_isConsistent_2 rfl 0 rfl ?_
                                          refine s_aload_n (pc := 3) C dX7_isConsistent_3 rfl 1 rfl ?_
                                          refine s_getr (pc := 4) (s := 0) (a := 1) (b := 0) (c' := 0) ckX7 (by decide) kw_300 rfl C dX7_isConsistent_4 ?_
                                          refine s_geti (pc := 7) (s := 1) ckX1 (Or.inl rfl) (by decide) kw_169 (fun _ => rfl) C dX7_isConsistent_7 ?_
                                          refine s_icmp_ge (pc := 10) (tgt := 34) C dX7_isConsistent_10 (by decide) (fun c => ?_) (fun c => ?_)
                                          · have H := H.1 c
                                            refine s_aload_n (pc := 34) C dX7_isConsistent_34 rfl 1 rfl ?_
                                            refine s_callv (pc := 35) (nA := 0) (as := []) (st := []) (stk := [vR 0 0 0]) ckX7 (Or.inl rfl) C (fun l hl => ctX7_lostTotal l hl _ _ H) ⟨⟨kw_500, kw_58, kw_378⟩, rfl, ⟨by decide, by decide, by decide +kernel⟩, by decide, by decide⟩ kw_376 (g_selW kw_377) rfl (Nat.le_of_ble_eq_true rfl) ⟨by decide, by decide⟩ rfl dX7_isConsistent_35 (g_Kq_I (fun x122 h121 H => ?_) (fun E h121 H => s_prop rfl ⟨by decide, by decide⟩ H C))
                                            refine s_aload_n (pc := 38) C dX7_isConsistent_38 rfl 1 rfl ?_
                                            refine s_callv (pc := 39) (nA := 0) (as := []) (st := [vI x122]) (stk := [vR 0 0 0, vI x122]) ckX7 (Or.inl rfl) C (fun l hl => ctX7_lostTotalByRoofs l hl _ _ H) ⟨⟨kw_501, kw_58, kw_386⟩, rfl, ⟨by decide, by decide, by decide +kernel⟩, by decide, by decide⟩ kw_384 (g_selW kw_385) rfl (Nat.le_of_ble_eq_true rfl) ⟨by decide, by decide⟩ rfl dX7_isConsistent_39 (g_Kq_I (fun x124 h123 H => ?_) (fun E h123 H => s_prop rfl ⟨by decide, by decide⟩ H C))
                                            refine s_icmp_eq (pc := 42) (tgt := 47) C dX7_isConsistent_42 (by decide) (fun c => ?_) (fun c => ?_)
                                            · have H := H.1 c
                                              refine s_aload_n (pc := 47) C dX7_isConsistent_47 rfl 1 rfl ?_
                                              refine s_getr (pc := 48) (s := 0) (a := 1) (b := 0) (c' := 0) ckX7 (by decide) kw_300 rfl C dX7_isConsistent_48 ?_
                                              refine s_geti (pc := 51) (s := 1) ckX1 (Or.inl rfl) (by decide) kw_169 (fun _ => rfl) C dX7_isConsistent_51 ?_
                                              refine s_if_eq (pc := 54) (tgt := 68) C dX7_isConsistent_54 (by decide) (fun c => ?_) (fun c => ?_)
                                              · have H := H.1 c
                                                exact s_wide (k' := 26) (n' := 156) (by decide) (by decide) <| s_sub (ls' := []) [] rfl (vX7_isConsistent_b68 C  h123 H)
                                              · have H := H.2 c
                                                refine s_aload_n (pc := 57) C dX7_isConsistent_57 rfl 1 rfl ?_
                                                refine s_callv (pc := 58) (nA := 0) (as := []) (st := []) (stk := [vR 0 0 0]) ckX7 (Or.inl rfl) C (fun l hl => ctX7_fundedShifts l hl _ _ H) ⟨⟨kw_502, kw_58, kw_505⟩, rfl, ⟨by decide, by decide, by decide +kernel⟩, by decide, by decide⟩ kw_503 (g_selW kw_504) rfl (Nat.le_of_ble_eq_true rfl) ⟨by decide, by decide⟩ rfl dX7_isConsistent_58 (g_Kq_I (fun x126 h125 H => ?_) (fun E h125 H => s_prop rfl ⟨by decide, by decide⟩ H C))
                                                refine s_aload_n (pc := 61) C dX7_isConsistent_61 rfl 1 rfl ?_
                                                refine s_callv (pc := 62) (nA := 0) (as := []) (st := [vI x126]) (stk := [vR 0 0 0, vI x126]) ckX7 (Or.inl rfl) C (fun l hl => ctX7_fundedShiftsByPaying l hl _ _ H) ⟨⟨kw_530, kw_58, kw_533⟩, rfl, ⟨by decide, by decide, by decide +kernel⟩, by decide, by decide⟩ kw_531 (g_selW kw_532) rfl (Nat.le_of_ble_eq_true rfl) ⟨by decide, by decide⟩ rfl dX7_isConsistent_62 (g_Kq_I (fun x128 h127 H => ?_) (fun E h127 H => s_prop rfl ⟨by decide, by decide⟩ H C))
                                                refine s_icmp_ne (pc := 65) (tgt := 72) C dX7_isConsistent_65 (by decide) (fun c => ?_) (fun c => ?_)
                                                · have H := H.1 c
                                                  refine s_iconst (pc := 72) C dX7_isConsistent_72 (x := (0 : Int32)) (by decide) ?_
                                                  exact s_wide (k' := 26) (n' := 156) (by decide) (by decide) <| s_sub (ls' := []) [] rfl (vX7_isConsistent_b73 C (0 : Int32) h127 H)
                                                · have H := H.2 c
                                                  exact s_wide (k' := 26) (n' := 156) (by decide) (by decide) <| s_sub (ls' := []) [] rfl (vX7_isConsistent_b68 C  h127 H)
                                            · have H := H.2 c
                                              refine s_iconst (pc := 45) C dX7_isConsistent_45 (x := (0 : Int32)) (by decide) ?_
                                              exact s_iret (pc := 46) rfl (by decide) ⟨by decide, by decide⟩ H C dX7_isConsistent_46
                                          · have H := H.2 c
                                            refine s_aload_n (pc := 13) C dX7_isConsistent_13 rfl 1 rfl ?_
                                            refine s_iload_n (pc := 14) C dX7_isConsistent_14 rfl 0 rfl ?_
                                            refine s_callv (pc := 15) (nA := 1) (as := [vI (10 : Int32)]) (st := []) (stk := [vI (10 : Int32), vR 0 0 0]) ckX7 (Or.inl rfl) C (fun l hl => ctX7_stepsToWind l hl (10 : Int32) _ _ H) ⟨⟨kw_403, kw_58, kw_406⟩, rfl, ⟨by decide, by decide, by decide +kernel⟩, by decide, by decide⟩ kw_404 (g_selW kw_405) rfl (Nat.le_of_ble_eq_true rfl) ⟨by decide, by decide⟩ rfl dX7_isConsistent_15 (g_Kq_I (fun x130 h129 H => ?_) (fun E h129 H => s_prop rfl ⟨by decide, by decide⟩ H C))
                                            refine s_aload_n (pc := 18) C dX7_isConsistent_18 rfl 1 rfl ?_
                                            refine s_iload_n (pc := 19) C dX7_isConsistent_19 rfl 0 rfl ?_
                                            refine s_callv (pc := 20) (nA := 1) (as := [vI (10 : Int32)]) (st := [vI x130]) (stk := [vI (10 : Int32), vR 0 0 0, vI x130]) ckX7 (Or.inl rfl) C (fun l hl => ctX7_stepsToWindByTurning l hl (10 : Int32) _ _ H) ⟨⟨kw_493, kw_58, kw_496⟩, rfl, ⟨by decide, by decide, by decide +kernel⟩, by decide, by decide⟩ kw_494 (g_selW kw_495) rfl (Nat.le_of_ble_eq_true rfl) ⟨by decide, by decide⟩ rfl dX7_isConsistent_20 (g_Kq_I (fun x132 h131 H => ?_) (fun E h131 H => s_prop rfl ⟨by decide, by decide⟩ H C))
                                            refine s_icmp_eq (pc := 23) (tgt := 28) C dX7_isConsistent_23 (by decide) (fun c => ?_) (fun c => ?_)
                                            · have H := H.1 c
                                              refine s_iinc (pc := 28) (y := (11 : Int32)) (ls' := [(1, vI (11 : Int32)), (0, vR 0 0 0)]) C dX7_isConsistent_28 0 rfl (by decide) (by decide) rfl ?_
                                              refine s_goto (pc := 31) (tgt := 2) C dX7_isConsistent_31 (by decide) ?_
                                              refine s_iload_n (pc := 2) C dX7_isConsistent_2 rfl 0 rfl ?_
                                              refine s_aload_n (pc := 3) C dX7_isConsistent_3 rfl 1 rfl ?_
                                              refine s_getr (pc := 4) (s := 0) (a := 1) (b := 0) (c' := 0) ckX7 (by decide) kw_300 rfl C dX7_isConsistent_4 ?_
                                              refine s_geti (pc := 7) (s := 1) ckX1 (Or.inl rfl) (by decide) kw_169 (fun _ => rfl) C dX7_isConsistent_7 ?_
                                              refine s_icmp_ge (pc := 10) (tgt := 34) C dX7_isConsistent_10 (by decide) (fun c => ?_) (fun c => ?_)
                                              · have H := H.1 c
                                                refine s_aload_n (pc := 34) C dX7_isConsistent_34 rfl 1 rfl ?_
                                                refine s_callv (pc := 35) (nA := 0) (as := []) (st := []) (stk := [vR 0 0 0]) ckX7 (Or.inl rfl) C (fun l hl => ctX7_lostTotal l hl _ _ H) ⟨⟨kw_500, kw_58, kw_378⟩, rfl, ⟨by decide, by decide, by decide +kernel⟩, by decide, by decide⟩ kw_376 (g_selW kw_377) rfl (Nat.le_of_ble_eq_true rfl) ⟨by decide, by decide⟩ rfl dX7_isConsistent_35 (g_Kq_I (fun x134 h133 H => ?_) (fun E h133 H => s_prop rfl ⟨by decide, by decide⟩ H C))
                                                refine s_aload_n (pc := 38) C dX7_isConsistent_38 rfl 1 rfl ?_
                                                refine s_callv (pc := 39) (nA := 0) (as := []) (st := [vI x134]) (stk := [vR 0 0 0, vI x134]) ckX7 (Or.inl rfl) C (fun l hl => ctX7_lostTotalByRoofs l hl _ _ H) ⟨⟨kw_501, kw_58, kw_386⟩, rfl, ⟨by decide, by decide, by decide +kernel⟩, by decide, by decide⟩ kw_384 (g_selW kw_385) rfl (Nat.le_of_ble_eq_true rfl) ⟨by decide, by decide⟩ rfl dX7_isConsistent_39 (g_Kq_I (fun x136 h135 H => ?_) (fun E h135 H => s_prop rfl ⟨by decide, by decide⟩ H C))
                                                refine s_icmp_eq (pc := 42) (tgt := 47) C dX7_isConsistent_42 (by decide) (fun c => ?_) (fun c => ?_)
                                                · have H := H.1 c
                                                  refine s_aload_n (pc := 47) C dX7_isConsistent_47 rfl 1 rfl ?_
                                                  refine s_getr (pc := 48) (s := 0) (a := 1) (b := 0) (c' := 0) ckX7 (by decide) kw_300 rfl C dX7_isConsistent_48 ?_
                                                  refine s_geti (pc := 51) (s := 1) ckX1 (Or.inl rfl) (by decide) kw_169 (fun _ => rfl) C dX7_isConsistent_51 ?_
                                                  refine s_if_eq (pc := 54) (tgt := 68) C dX7_isConsistent_54 (by decide) (fun c => ?_) (fun c => ?_)
                                                  · have H := H.1 c
                                                    exact s_wide (k' := 26) (n' := 156) (by decide) (by decide) <| s_sub (ls' := []) [] rfl (vX7_isConsistent_b68 C  h135 H)
                                                  · have H := H.2 c
                                                    refine s_aload_n (pc := 57) C dX7_isConsistent_57 rfl 1 rfl ?_
                                                    refine s_callv (pc := 58) (nA := 0) (as := []) (st := []) (stk := [vR 0 0 0]) ckX7 (Or.inl rfl) C (fun l hl => ctX7_fundedShifts l hl _ _ H) ⟨⟨kw_502, kw_58, kw_505⟩, rfl, ⟨by decide, by decide, by decide +kernel⟩, by decide, by decide⟩ kw_503 (g_selW kw_504) rfl (Nat.le_of_ble_eq_true rfl) ⟨by decide, by decide⟩ rfl dX7_isConsistent_58 (g_Kq_I (fun x138 h137 H => ?_) (fun E h137 H => s_prop rfl ⟨by decide, by decide⟩ H C))
                                                    refine s_aload_n (pc := 61) C dX7_isConsistent_61 rfl 1 rfl ?_
                                                    refine s_callv (pc := 62) (nA := 0) (as := []) (st := [vI x138]) (stk := [vR 0 0 0, vI x138]) ckX7 (Or.inl rfl) C (fun l hl => ctX7_fundedShiftsByPaying l hl _ _ H) ⟨⟨kw_530, kw_58, kw_533⟩, rfl, ⟨by decide, by decide, by decide +kernel⟩, by decide, by decide⟩ kw_531 (g_selW kw_532) rfl (Nat.le_of_ble_eq_true rfl) ⟨by decide, by decide⟩ rfl dX7_isConsistent_62 (g_Kq_I (fun x140 h139 H => ?_) (fun E h139 H => s_prop rfl ⟨by decide, by decide⟩ H C))
                                                    refine s_icmp_ne (pc := 65) (tgt := 72) C dX7_isConsistent_65 (by decide) (fun c => ?_) (fun c => ?_)
                                                    · have H := H.1 c
                                                      refine s_iconst (pc := 72) C dX7_isConsistent_72 (x := (0 : Int32)) (by decide) ?_
                                                      exact s_wide (k' := 26) (n' := 156) (by decide) (by decide) <| s_sub (ls' := []) [] rfl (vX7_isConsistent_b73 C (0 : Int32) h139 H)
                                                    · have H := H.2 c
                                                      exact s_wide (k' := 26) (n' := 156) (by decide) (by decide) <| s_sub (ls' := []) [] rfl (vX7_isConsistent_b68 C  h139 H)
                                                · have H := H.2 c
                                                  refine s_iconst (pc := 45) C dX7_isConsistent_45 (x := (0 : Int32)) (by decide) ?_
                                                  exact s_iret (pc := 46) rfl (by decide) ⟨by decide, by decide⟩ H C dX7_isConsistent_46
                                              · have H := H.2 c
                                                refine s_aload_n (pc := 13) C dX7_isConsistent_13 rfl 1 rfl ?_
                                                refine s_iload_n (pc := 14) C dX7_isConsistent_14 rfl 0 rfl ?_
                                                refine s_callv (pc := 15) (nA := 1) (as := [vI (11 : Int32)]) (st := []) (stk := [vI (11 : Int32), vR 0 0 0]) ckX7 (Or.inl rfl) C (fun l hl => ctX7_stepsToWind l hl (11 : Int32) _ _ H) ⟨⟨kw_403, kw_58, kw_406⟩, rfl, ⟨by decide, by decide, by decide +kernel⟩, by decide, by decide⟩ kw_404 (g_selW kw_405) rfl (Nat.le_of_ble_eq_true rfl) ⟨by decide, by decide⟩ rfl dX7_isConsistent_15 (g_Kq_I (fun x142 h141 H => ?_) (fun E h141 H => s_prop rfl ⟨by decide, by decide⟩ H C))
                                                refine s_aload_n (pc := 18) C dX7_isConsistent_18 rfl 1 rfl ?_
                                                refine s_iload_n (pc := 19) C dX7_isConsistent_19 rfl 0 rfl ?_
                                                refine s_callv (pc := 20) (nA := 1) (as := [vI (11 : Int32)]) (st := [vI x142]) (stk := [vI (11 : Int32), vR 0 0 0, vI x142]) ckX7 (Or.inl rfl) C (fun l hl => ctX7_stepsToWindByTurning l hl (11 : Int32) _ _ H) ⟨⟨kw_493, kw_58, kw_496⟩, rfl, ⟨by decide, by decide, by decide +kernel⟩, by decide, by decide⟩ kw_494 (g_selW kw_495) rfl (Nat.le_of_ble_eq_true rfl) ⟨by decide, by decide⟩ rfl dX7_isConsistent_20 (g_Kq_I (fun x144 h143 H => ?_) (fun E h143 H => s_prop rfl ⟨by decide, by decide⟩ H C))
                                                refine s_icmp_eq (pc := 23) (tgt := 28) C dX7_isConsistent_23 (by decide) (fun c => ?_) (fun c => ?_)
                                                · have H := H.1 c
                                                  refine s_iinc (pc := 28) (y := (12 : Int32)) (ls' := [(1, vI (12 : Int32)), (0, vR 0 0 0)]) C dX7_isConsistent_28 0 rfl (by decide) (by decide) rfl ?_
                                                  refine s_goto (pc := 31) (tgt := 2) C dX7_isConsistent_31 (by decide) ?_
                                                  refine s_iload_n (pc := 2) C dX7_isConsistent_2 rfl 0 rfl ?_
                                                  refine s_aload_n (pc := 3) C dX7_isConsistent_3 rfl 1 rfl ?_
                                                  refine s_getr (pc := 4) (s := 0) (a := 1) (b := 0) (c' := 0) ckX7 (by decide) kw_300 rfl C dX7_isConsistent_4 ?_
                                                  refine s_geti (pc := 7) (s := 1) ckX1 (Or.inl rfl) (by decide) kw_169 (fun _ => rfl) C dX7_isConsistent_7 ?_
                                                  refine s_icmp_ge (pc := 10) (tgt := 34) C dX7_isConsistent_10 (by decide) (fun c => ?_) (fun c => ?_)
                                                  · have H := H.1 c
                                                    refine s_aload_n (pc := 34) C dX7_isConsistent_34 rfl 1 rfl ?_
                                                    refine s_callv (pc := 35) (nA := 0) (as := []) (st := []) (stk := [vR 0 0 0]) ckX7 (Or.inl rfl) C (fun l hl => ctX7_lostTotal l hl _ _ H) ⟨⟨kw_500, kw_58, kw_378⟩, rfl, ⟨by decide, by decide, by decide +kernel⟩, by decide, by decide⟩ kw_376 (g_selW kw_377) rfl (Nat.le_of_ble_eq_true rfl) ⟨by decide, by decide⟩ rfl dX7_isConsistent_35 (g_Kq_I (fun x146 h145 H => ?_) (fun E h145 H => s_prop rfl ⟨by decide, by decide⟩ H C))
                                                    refine s_aload_n (pc := 38) C dX7_isConsistent_38 rfl 1 rfl ?_
                                                    refine s_callv (pc := 39) (nA := 0) (as := []) (st := [vI x146]) (stk := [vR 0 0 0, vI x146]) ckX7 (Or.inl rfl) C (fun l hl => ctX7_lostTotalByRoofs l hl _ _ H) ⟨⟨kw_501, kw_58, kw_386⟩, rfl, ⟨by decide, by decide, by decide +kernel⟩, by decide, by decide⟩ kw_384 (g_selW kw_385) rfl (Nat.le_of_ble_eq_true rfl) ⟨by decide, by decide⟩ rfl dX7_isConsistent_39 (g_Kq_I (fun x148 h147 H => ?_) (fun E h147 H => s_prop rfl ⟨by decide, by decide⟩ H C))
                                                    refine s_icmp_eq (pc := 42) (tgt := 47) C dX7_isConsistent_42 (by decide) (fun c => ?_) (fun c => ?_)
                                                    · have H := H.1 c
                                                      refine s_aload_n (pc := 47) C dX7_isConsistent_47 rfl 1 rfl ?_
                                                      refine s_getr (pc := 48) (s := 0) (a := 1) (b := 0) (c' := 0) ckX7 (by decide) kw_300 rfl C dX7_isConsistent_48 ?_
                                                      refine s_geti (pc := 51) (s := 1) ckX1 (Or.inl rfl) (by decide) kw_169 (fun _ => rfl) C dX7_isConsistent_51 ?_
                                                      refine s_if_eq (pc := 54) (tgt := 68) C dX7_isConsistent_54 (by decide) (fun c => ?_) (fun c => ?_)
                                                      · have H := H.1 c
                                                        exact s_wide (k' := 26) (n' := 156) (by decide) (by decide) <| s_sub (ls' := []) [] rfl (vX7_isConsistent_b68 C  h147 H)
                                                      · have H := H.2 c
                                                        refine s_aload_n (pc := 57) C dX7_isConsistent_57 rfl 1 rfl ?_
                                                        refine s_callv (pc := 58) (nA := 0) (as := []) (st := []) (stk := [vR 0 0 0]) ckX7 (Or.inl rfl) C (fun l hl => ctX7_fundedShifts l hl _ _ H) ⟨⟨kw_502, kw_58, kw_505⟩, rfl, ⟨by decide, by decide, by decide +kernel⟩, by decide, by decide⟩ kw_503 (g_selW kw_504) rfl (Nat.le_of_ble_eq_true rfl) ⟨by decide, by decide⟩ rfl dX7_isConsistent_58 (g_Kq_I (fun x150 h149 H => ?_) (fun E h149 H => s_prop rfl ⟨by decide, by decide⟩ H C))
                                                        refine s_aload_n (pc := 61) C dX7_isConsistent_61 rfl 1 rfl ?_
                                                        refine s_callv (pc := 62) (nA := 0) (as := []) (st := [vI x150]) (stk := [vR 0 0 0, vI x150]) ckX7 (Or.inl rfl) C (fun l hl => ctX7_fundedShiftsByPaying l hl _ _ H) ⟨⟨kw_530, kw_58, kw_533⟩, rfl, ⟨by decide, by decide, by decide +kernel⟩, by decide, by decide⟩ kw_531 (g_selW kw_532) rfl (Nat.le_of_ble_eq_true rfl) ⟨by decide, by decide⟩ rfl dX7_isConsistent_62 (g_Kq_I (fun x152 h151 H => ?_) (fun E h151 H => s_prop rfl ⟨by decide, by decide⟩ H C))
                                                        refine s_icmp_ne (pc := 65) (tgt := 72) C dX7_isConsistent_65 (by decide) (fun c => ?_) (fun c => ?_)
                                                        · have H := H.1 c
                                                          refine s_iconst (pc := 72) C dX7_isConsistent_72 (x := (0 : Int32)) (by decide) ?_
                                                          exact s_sub (ls' := []) [] rfl (vX7_isConsistent_b73 C (0 : Int32) h151 H)
                                                        · have H := H.2 c
                                                          exact s_sub (ls' := []) [] rfl (vX7_isConsistent_b68 C  h151 H)
                                                    · have H := H.2 c
                                                      refine s_iconst (pc := 45) C dX7_isConsistent_45 (x := (0 : Int32)) (by decide) ?_
                                                      exact s_iret (pc := 46) rfl (by decide) ⟨by decide, by decide⟩ H C dX7_isConsistent_46
                                                  · have H := H.2 c
                                                    refine s_aload_n (pc := 13) C dX7_isConsistent_13 rfl 1 rfl ?_
                                                    refine s_iload_n (pc := 14) C dX7_isConsistent_14 rfl 0 rfl ?_
                                                    refine s_callv (pc := 15) (nA := 1) (as := [vI (12 : Int32)]) (st := []) (stk := [vI (12 : Int32), vR 0 0 0]) ckX7 (Or.inl rfl) C (fun l hl => ctX7_stepsToWind l hl (12 : Int32) _ _ H) ⟨⟨kw_403, kw_58, kw_406⟩, rfl, ⟨by decide, by decide, by decide +kernel⟩, by decide, by decide⟩ kw_404 (g_selW kw_405) rfl (Nat.le_of_ble_eq_true rfl) ⟨by decide, by decide⟩ rfl dX7_isConsistent_15 (g_Kq_I (fun x154 h153 H => ?_) (fun E h153 H => s_prop rfl ⟨by decide, by decide⟩ H C))
                                                    refine s_aload_n (pc := 18) C dX7_isConsistent_18 rfl 1 rfl ?_
                                                    refine s_iload_n (pc := 19) C dX7_isConsistent_19 rfl 0 rfl ?_
                                                    refine s_callv (pc := 20) (nA := 1) (as := [vI (12 : Int32)]) (st := [vI x154]) (stk := [vI (12 : Int32), vR 0 0 0, vI x154]) ckX7 (Or.inl rfl) C (fun l hl => ctX7_stepsToWindByTurning l hl (12 : Int32) _ _ H) ⟨⟨kw_493, kw_58, kw_496⟩, rfl, ⟨by decide, by decide, by decide +kernel⟩, by decide, by decide⟩ kw_494 (g_selW kw_495) rfl (Nat.le_of_ble_eq_true rfl) ⟨by decide, by decide⟩ rfl dX7_isConsistent_20 (g_Kq_I (fun x156 h155 H => ?_) (fun E h155 H => s_prop rfl ⟨by decide, by decide⟩ H C))
                                                    refine s_icmp_eq (pc := 23) (tgt := 28) C dX7_isConsistent_23 (by decide) (fun c => ?_) (fun c => ?_)
                                                    · have H := H.1 c
                                                      refine s_iinc (pc := 28) (y := (13 : Int32)) (ls' := [(1, vI (13 : Int32)), (0, vR 0 0 0)]) C dX7_isConsistent_28 0 rfl (by decide) (by decide) rfl ?_
                                                      refine s_goto (pc := 31) (tgt := 2) C dX7_isConsistent_31 (by decide) ?_
                                                      exact H.elim
                                                    · have H := H.2 c
                                                      refine s_iconst (pc := 26) C dX7_isConsistent_26 (x := (0 : Int32)) (by decide) ?_
                                                      exact s_iret (pc := 27) rfl (by decide) ⟨by decide, by decide⟩ H C dX7_isConsistent_27
                                                · have H := H.2 c
                                                  refine s_iconst (pc := 26) C dX7_isConsistent_26 (x := (0 : Int32)) (by decide) ?_
                                                  exact s_iret (pc := 27) rfl (by decide) ⟨by decide, by decide⟩ H C dX7_isConsistent_27
                                            · have H := H.2 c
                                              refine s_iconst (pc := 26) C dX7_isConsistent_26 (x := (0 : Int32)) (by decide) ?_
                                              exact s_iret (pc := 27) rfl (by decide) ⟨by decide, by decide⟩ H C dX7_isConsistent_27
                                        · have H := H.2 c
                                          refine s_iconst (pc := 26) C dX7_isConsistent_26 (x := (0 : Int32)) (by decide) ?_
                                          exact s_iret (pc := 27) rfl (by decide) ⟨by decide, by decide⟩ H C dX7_isConsistent_27
                                    · have H := H.2 c
                                      refine s_iconst (pc := 26) C dX7_isConsistent_26 (x := (0 : Int32)) (by decide) ?_
                                      exact s_iret (pc := 27) rfl (by decide) ⟨by decide, by decide⟩ H C dX7_isConsistent_27
                                · have H := H.2 c
                                  refine s_iconst (pc := 26) C dX7_isConsistent_26 (x := (0 : Int32)) (by decide) ?_
                                  exact s_iret (pc := 27) rfl (by decide) ⟨by decide, by decide⟩ H C dX7_isConsistent_27
                            · have H := H.2 c
                              refine s_iconst (pc := 26) C dX7_isConsistent_26 (x := (0 : Int32)) (by decide) ?_
                              exact s_iret (pc := 27) rfl (by decide) ⟨by decide, by decide⟩ H C dX7_isConsistent_27
                        · have H := H.2 c
                          refine s_iconst (pc := 26) C dX7_isConsistent_26 (x := (0 : Int32)) (by decide) ?_
                          exact s_iret (pc := 27) rfl (by decide) ⟨by decide, by decide⟩ H C dX7_isConsistent_27
                    · have H := H.2 c
                      refine s_iconst (pc := 26) C dX7_isConsistent_26 (x := (0 : Int32)) (by decide) ?_
                      exact s_iret (pc := 27) rfl (by decide) ⟨by decide, by decide⟩ H C dX7_isConsistent_27
                · have H := H.2 c
                  refine s_iconst (pc := 26) C dX7_isConsistent_26 (x := (0 : Int32)) (by decide) ?_
                  exact s_iret (pc := 27) rfl (by decide) ⟨by decide, by decide⟩ H C dX7_isConsistent_27
            · have H := H.2 c
              refine s_iconst (pc := 26) C dX7_isConsistent_26 (x := (0 : Int32)) (by decide) ?_
              exact s_iret (pc := 27) rfl (by decide) ⟨by decide, by decide⟩ H C dX7_isConsistent_27
        · have H := H.2 c
          refine s_iconst (pc := 26) C dX7_isConsistent_26 (x := (0 : Int32)) (by decide) ?_
          exact s_iret (pc := 27) rfl (by decide) ⟨by decide, by decide⟩ H C dX7_isConsistent_27
    · have H := H.2 c
      refine s_iconst (pc := 26) C dX7_isConsistent_26 (x := (0 : Int32)) (by decide) ?_
      exact s_iret (pc := 27) rfl (by decide) ⟨by decide, by decide⟩ H C dX7_isConsistent_27
theorem ctX7_isConsistent (l : Launch) (hl : l.stackTraces = false) {G : g_G} (h : g_Hp) (Q : g_R → g_Hp → Prop) (H : wX7_isConsistent h Q) : g_Met l y_ G iX7_isConsistent [vR 0 0 0] h Q :=
  g_Met_of hl (by decide +kernel) rfl rfl (Nat.le_of_ble_eq_true rfl) (fun X C => vX7_isConsistent C h H)
