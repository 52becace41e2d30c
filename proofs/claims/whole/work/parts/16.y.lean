/-! ===== what is constant in this claim: lists; the tables' words by their places ===== -/
abbrev iX6_start : g_I := (RX6, yX6_start, cX6_start, 3, none, [], { frames := 1, cells := 0, slots := 0, locals := 20 })
abbrev iX7_isRoof : g_I := (RX7, yX7_isRoof, cX7_isRoof, 1, (some .boolean), [], { frames := 1, cells := 0, slots := 0, locals := 20 })
abbrev iX1_isMember : g_I := (RX1, yX1_isMember, cX1_isMember, 2, (some .boolean), [], { frames := 1, cells := 0, slots := 0, locals := 20 })
abbrev iX1_add : g_I := (RX1, yX1_add, cX1_add, 4, (some .int), [], { frames := 2, cells := 0, slots := 0, locals := 42 })
abbrev iX1_countOnList : g_I := (RX1, yX1_countOnList, cX1_countOnList, 4, (some .int), [], { frames := 1, cells := 0, slots := 0, locals := 20 })
def kwl0 : List Cond := [.fieldLink "VaneUnion$Member" 15 "VaneUnion$Member" "roof" "I", .fieldLink "VaneUnion$Member" 18 "VaneUnion$Member" "rate" "I", .fieldLink "VaneUnion$Member" 21 "VaneUnion$Member" "bearing" "I", .fieldLink "VaneUnion$Member" 24 "VaneUnion$Member" "wages" "I", .fieldLink "VaneUnion$Member" 27 "VaneUnion$Member" "support" "I", .fieldLink "VaneUnion$Member" 30 "VaneUnion$Member" "lost" "I", .fieldLink "VaneUnion$Member" 33 "VaneUnion$Member" "duties" "I", .fieldLink "VaneUnion$Member" 36 "VaneUnion$Member" "vote" "I", .fieldLink "VaneUnion$Member" 39 "VaneUnion$Member" "hasAccepted" "Z", .fieldLink "VaneUnion$Member" 9 "VaneUnion$Member" "list" "I", .fieldLink "VaneUnion$Member" 43 "VaneUnion$Member" "place" "I", .fieldLink "VaneUnion$Books" 18 "VaneUnion$Books" "memberCount" "I", .fieldLink "VaneUnion$Books" 11 "VaneUnion$Books" "members" "[LVaneUnion$Member;", .methodLink "VaneUnion$Books" 76 yX6_start, .initialized "VaneUnion$Member", g_hd iX6_start, .instanceMethod yX6_start, .selects "VaneUnion$Member" yX6_start yX6_start, .fieldLink "VaneUnion$Books" 106 "VaneUnion$Member" "list" "I"]
theorem kwl0_in : ∀ w ∈ kwl0, w ∈ g_WL := g_inL _ [112, 115, 118, 121, 124, 127, 130, 133, 136, 138, 141, 168, 166, 679, 60, 682, 680, 681, 139] (by decide +kernel) (by decide +kernel)
theorem kw_112 : (Cond.fieldLink "VaneUnion$Member" 15 "VaneUnion$Member" "roof" "I" : Cond) ∈ g_WL := kwl0_in _ (List.mem_of_getElem? (i := 0) rfl)
theorem kw_115 : (Cond.fieldLink "VaneUnion$Member" 18 "VaneUnion$Member" "rate" "I" : Cond) ∈ g_WL := kwl0_in _ (List.mem_of_getElem? (i := 1) rfl)
theorem kw_118 : (Cond.fieldLink "VaneUnion$Member" 21 "VaneUnion$Member" "bearing" "I" : Cond) ∈ g_WL := kwl0_in _ (List.mem_of_getElem? (i := 2) rfl)
theorem kw_121 : (Cond.fieldLink "VaneUnion$Member" 24 "VaneUnion$Member" "wages" "I" : Cond) ∈ g_WL := kwl0_in _ (List.mem_of_getElem? (i := 3) rfl)
theorem kw_124 : (Cond.fieldLink "VaneUnion$Member" 27 "VaneUnion$Member" "support" "I" : Cond) ∈ g_WL := kwl0_in _ (List.mem_of_getElem? (i := 4) rfl)
theorem kw_127 : (Cond.fieldLink "VaneUnion$Member" 30 "VaneUnion$Member" "lost" "I" : Cond) ∈ g_WL := kwl0_in _ (List.mem_of_getElem? (i := 5) rfl)
theorem kw_130 : (Cond.fieldLink "VaneUnion$Member" 33 "VaneUnion$Member" "duties" "I" : Cond) ∈ g_WL := kwl0_in _ (List.mem_of_getElem? (i := 6) rfl)
theorem kw_133 : (Cond.fieldLink "VaneUnion$Member" 36 "VaneUnion$Member" "vote" "I" : Cond) ∈ g_WL := kwl0_in _ (List.mem_of_getElem? (i := 7) rfl)
theorem kw_136 : (Cond.fieldLink "VaneUnion$Member" 39 "VaneUnion$Member" "hasAccepted" "Z" : Cond) ∈ g_WL := kwl0_in _ (List.mem_of_getElem? (i := 8) rfl)
theorem kw_138 : (Cond.fieldLink "VaneUnion$Member" 9 "VaneUnion$Member" "list" "I" : Cond) ∈ g_WL := kwl0_in _ (List.mem_of_getElem? (i := 9) rfl)
theorem kw_141 : (Cond.fieldLink "VaneUnion$Member" 43 "VaneUnion$Member" "place" "I" : Cond) ∈ g_WL := kwl0_in _ (List.mem_of_getElem? (i := 10) rfl)
theorem kw_168 : (Cond.fieldLink "VaneUnion$Books" 18 "VaneUnion$Books" "memberCount" "I" : Cond) ∈ g_WL := kwl0_in _ (List.mem_of_getElem? (i := 11) rfl)
theorem kw_166 : (Cond.fieldLink "VaneUnion$Books" 11 "VaneUnion$Books" "members" "[LVaneUnion$Member;" : Cond) ∈ g_WL := kwl0_in _ (List.mem_of_getElem? (i := 12) rfl)
theorem kw_679 : (Cond.methodLink "VaneUnion$Books" 76 yX6_start : Cond) ∈ g_WL := kwl0_in _ (List.mem_of_getElem? (i := 13) rfl)
theorem kw_60 : (Cond.initialized "VaneUnion$Member" : Cond) ∈ g_WL := kwl0_in _ (List.mem_of_getElem? (i := 14) rfl)
theorem kw_682 : (g_hd iX6_start : Cond) ∈ g_WL := kwl0_in _ (List.mem_of_getElem? (i := 15) rfl)
theorem kw_680 : (Cond.instanceMethod yX6_start : Cond) ∈ g_WL := kwl0_in _ (List.mem_of_getElem? (i := 16) rfl)
theorem kw_681 : (Cond.selects "VaneUnion$Member" yX6_start yX6_start : Cond) ∈ g_WL := kwl0_in _ (List.mem_of_getElem? (i := 17) rfl)
theorem kw_139 : (Cond.fieldLink "VaneUnion$Books" 106 "VaneUnion$Member" "list" "I" : Cond) ∈ g_WL := kwl0_in _ (List.mem_of_getElem? (i := 18) rfl)
theorem ckX7 : g_CK 0 RX7 TX7 10 tyX7 := ⟨by decide, rfl, rfl, g_inL _ [310, 312, 314, 316, 318, 320, 322, 324, 326, 328] (by decide +kernel) (by decide +kernel), tyX7_ok, nmX7⟩
theorem ckX1 : g_CK 1 RX1 TX1 12 tyX1 := ⟨by decide, rfl, rfl, g_inL _ [189, 191, 193, 195, 197, 199, 201, 203, 205, 207, 209, 211] (by decide +kernel) (by decide +kernel), tyX1_ok, nmX1⟩
theorem ckX6 : g_CK 2 RX6 TX6 11 tyX6 := ⟨by decide, rfl, rfl, g_inL _ [143, 145, 147, 149, 151, 153, 155, 157, 159, 161, 163] (by decide +kernel) (by decide +kernel), tyX6_ok, nmX6⟩
theorem ckX3 : g_CK 3 RX3 TX3 4 tyX3 := ⟨by decide, rfl, rfl, g_inL _ [289, 291, 293, 295] (by decide +kernel) (by decide +kernel), tyX3_ok, nmX3⟩
theorem ckX2 : g_CK 4 RX2 TX2 4 tyX2 := ⟨by decide, rfl, rfl, g_inL _ [272, 274, 276, 278] (by decide +kernel) (by decide +kernel), tyX2_ok, nmX2⟩
theorem ckX8 : g_CK 5 RX8 TX8 20 tyX8 := ⟨by decide, rfl, rfl, g_inL _ [1525, 1527, 1529, 1531, 1533, 1535, 1537, 1539, 1541, 1543, 1545, 1547, 1549, 1551, 1553, 1555, 1557, 1559, 1561, 1563] (by decide +kernel) (by decide +kernel), tyX8_ok, nmX8⟩
theorem ckJ4 : g_CK 6 RJ4 TJ4 4 tyJ4 := ⟨by decide, rfl, rfl, g_inL _ [244, 246, 248, 250] (by decide +kernel) (by decide +kernel), tyJ4_ok, nmJ4⟩
def g_by (i : Nat) : List Int32 := match i with
  | 0 => [109, 101, 109, 98, 101, 114, 32]
  | 1 => [119, 105, 110, 100, 32]
  | 2 => [115, 104, 105, 102, 116, 32]
  | 3 => [118, 111, 116, 101, 32]
  | 4 => [115, 116, 114, 105, 107, 101]
  | 5 => [112, 97, 121, 32]
  | 6 => [112, 105, 99, 107, 101, 116, 32]
  | 7 => [111, 102, 102, 32]
  | 8 => [111, 102, 102, 101, 114, 32]
  | _ => [97, 99, 99, 101, 112, 116, 32]
def g_sw (i : Nat) : List Int32 := match i with
  | 0 => [0, 1, 2, 3, 4, 5]
  | _ => [1, 2, 3, 4, 5, 6, 7, 8, 9, 0]
def g_dg (i : Nat) : List Int32 := match i with
  | 0 => [48, 49, 50, 51, 52, 53, 54, 55, 56, 57, 48, 49, 50, 51, 52, 53, 54, 55, 56, 57, 48, 49, 50, 51, 52, 53, 54, 55, 56, 57, 48, 49, 50, 51, 52, 53, 54, 55, 56, 57, 48, 49, 50, 51, 52, 53, 54, 55, 56, 57, 48, 49, 50, 51, 52, 53, 54, 55, 56, 57, 48, 49, 50, 51, 52, 53, 54, 55, 56, 57, 48, 49, 50, 51, 52, 53, 54, 55, 56, 57, 48, 49, 50, 51, 52, 53, 54, 55, 56, 57, 48, 49, 50, 51, 52, 53, 54, 55, 56, 57]
  | _ => [48, 48, 48, 48, 48, 48, 48, 48, 48, 48, 49, 49, 49, 49, 49, 49, 49, 49, 49, 49, 50, 50, 50, 50, 50, 50, 50, 50, 50, 50, 51, 51, 51, 51, 51, 51, 51, 51, 51, 51, 52, 52, 52, 52, 52, 52, 52, 52, 52, 52, 53, 53, 53, 53, 53, 53, 53, 53, 53, 53, 54, 54, 54, 54, 54, 54, 54, 54, 54, 54, 55, 55, 55, 55, 55, 55, 55, 55, 55, 55, 56, 56, 56, 56, 56, 56, 56, 56, 56, 56, 57, 57, 57, 57, 57, 57, 57, 57, 57, 57]
def g_hasDigit : List Int32 := [1, 1, 0, 0, 0, 0, 1, 0, 0, 0]
def g_hasNumber : List Int32 := [1, 1, 1, 1, 0, 1, 1, 1, 1, 1]
def g_hasSign : List Int32 := [0, 0, 0, 1, 0, 0, 0, 0, 0, 0]
def y_zs : List (String × String × String × g_AV) := []
def y_os : List (String × Nat × Nat) := (List.range 6).map (fun i => ("VaneUnion$Fault", 20, i)) ++ ((List.range 10).map (fun i => ("VaneUnion$Keyword", 21, i)) ++ (List.range 10).map (fun i => ("java/lang/String", 24, i)))
def y_fs : List (String × String × String × g_AV × Nat × Nat) := (List.range 6).map (fun i => ("java/lang/Enum", "ordinal", "I", vI (Int32.ofNat i), 20, i)) ++ ((List.range 10).map (fun i => ("java/lang/Enum", "ordinal", "I", vI (Int32.ofNat i), 21, i)) ++ ((List.range 10).map (fun i => ("VaneUnion$Keyword", "word", "Ljava/lang/String;", vR 24 i 0, 21, i)) ++ ((List.range 10).map (fun i => ("VaneUnion$Keyword", "hasDigit", "Z", vI (g_hasDigit.getD i 0), 21, i)) ++ ((List.range 10).map (fun i => ("VaneUnion$Keyword", "hasNumber", "Z", vI (g_hasNumber.getD i 0), 21, i)) ++ ((List.range 10).map (fun i => ("VaneUnion$Keyword", "hasSign", "Z", vI (g_hasSign.getD i 0), 21, i)) ++ ((List.range 10).map (fun i => ("java/lang/String", "value", "[B", vR 25 i 0, 24, i)) ++ ((List.range 10).map (fun i => ("java/lang/String", "coder", "B", vI 0, 24, i)))))))))
def y_ts : List (FieldType × Nat × Nat × List g_AV) := [(.int, 23, 0, (g_sw 0).map vI), (.int, 23, 1, (g_sw 1).map vI), (.object "VaneUnion$Keyword", 22, 0, (List.range 10).map (fun i => vR 21 i 0)), (.byte, 26, 0, (g_dg 0).map vI), (.byte, 26, 1, (g_dg 1).map vI)] ++ (List.range 10).map (fun i => (.byte, 25, i, (g_by i).map vI))
def y_ss : List (String × Nat × String × Nat) := []
def y_ns : List (String × Nat × MethodName × String) := []
def y_cs : List (String × String) := []
def y_ms : List (String × String) := []
def y_ : g_Y := (y_zs, y_os, y_fs, y_ts, y_ss, y_ns, y_cs, y_ms)
theorem cs_mem (q : String × String) (h : q ∈ y_cs) : q ∈ y_.2.2.2.2.2.2.1 := h
theorem ms_mem (q : String × String) (h : q ∈ y_ms) : q ∈ y_.2.2.2.2.2.2.2 := h
theorem os_fault {i : Nat} (h : i < 6) : ("VaneUnion$Fault", 20, i) ∈ y_.2.1 := List.mem_append_left _ (List.mem_map.mpr ⟨_, List.mem_range.mpr h, rfl⟩)
theorem os_kw {i : Nat} (h : i < 10) : ("VaneUnion$Keyword", 21, i) ∈ y_.2.1 := List.mem_append_right _ (List.mem_append_left _ (List.mem_map.mpr ⟨_, List.mem_range.mpr h, rfl⟩))
theorem os_str {i : Nat} (h : i < 10) : ("java/lang/String", 24, i) ∈ y_.2.1 := List.mem_append_right _ (List.mem_append_right _ (List.mem_map.mpr ⟨_, List.mem_range.mpr h, rfl⟩))
theorem fs_ord20 {i : Nat} (h : i < 6) : ("java/lang/Enum", "ordinal", "I", vI (Int32.ofNat i), 20, i) ∈ y_.2.2.1 := List.mem_append_left _ (List.mem_map.mpr ⟨_, List.mem_range.mpr h, rfl⟩)
theorem fs_ord21 {i : Nat} (h : i < 10) : ("java/lang/Enum", "ordinal", "I", vI (Int32.ofNat i), 21, i) ∈ y_.2.2.1 := List.mem_append_right _ (List.mem_append_left _ (List.mem_map.mpr ⟨_, List.mem_range.mpr h, rfl⟩))
theorem fs_word {i : Nat} (h : i < 10) : ("VaneUnion$Keyword", "word", "Ljava/lang/String;", vR 24 i 0, 21, i) ∈ y_.2.2.1 := List.mem_append_right _ (List.mem_append_right _ (List.mem_append_left _ (List.mem_map.mpr ⟨_, List.mem_range.mpr h, rfl⟩)))
theorem fs_hasDigit {i : Nat} (h : i < 10) : ("VaneUnion$Keyword", "hasDigit", "Z", vI (g_hasDigit.getD i 0), 21, i) ∈ y_.2.2.1 := List.mem_append_right _ (List.mem_append_right _ (List.mem_append_right _ (List.mem_append_left _ (List.mem_map.mpr ⟨_, List.mem_range.mpr h, rfl⟩))))
theorem fs_hasNumber {i : Nat} (h : i < 10) : ("VaneUnion$Keyword", "hasNumber", "Z", vI (g_hasNumber.getD i 0), 21, i) ∈ y_.2.2.1 := List.mem_append_right _ (List.mem_append_right _ (List.mem_append_right _ (List.mem_append_right _ (List.mem_append_left _ (List.mem_map.mpr ⟨_, List.mem_range.mpr h, rfl⟩)))))
theorem fs_hasSign {i : Nat} (h : i < 10) : ("VaneUnion$Keyword", "hasSign", "Z", vI (g_hasSign.getD i 0), 21, i) ∈ y_.2.2.1 := List.mem_append_right _ (List.mem_append_right _ (List.mem_append_right _ (List.mem_append_right _ (List.mem_append_right _ (List.mem_append_left _ (List.mem_map.mpr ⟨_, List.mem_range.mpr h, rfl⟩))))))
theorem fs_value {i : Nat} (h : i < 10) : ("java/lang/String", "value", "[B", vR 25 i 0, 24, i) ∈ y_.2.2.1 := List.mem_append_right _ (List.mem_append_right _ (List.mem_append_right _ (List.mem_append_right _ (List.mem_append_right _ (List.mem_append_right _ (List.mem_append_left _ (List.mem_map.mpr ⟨_, List.mem_range.mpr h, rfl⟩)))))))
theorem fs_coder {i : Nat} (h : i < 10) : ("java/lang/String", "coder", "B", vI 0, 24, i) ∈ y_.2.2.1 := List.mem_append_right _ (List.mem_append_right _ (List.mem_append_right _ (List.mem_append_right _ (List.mem_append_right _ (List.mem_append_right _ (List.mem_append_right _ (List.mem_map.mpr ⟨_, List.mem_range.mpr h, rfl⟩)))))))
theorem ts_sw {i : Nat} (h : i < 2) : ((.int : FieldType), 23, i, (g_sw i).map vI) ∈ y_.2.2.2.1 := List.mem_append_left _ (by rcases (show i = 0 ∨ i = 1 by omega) with rfl | rfl <;> simp)
theorem ts_kw : ((.object "VaneUnion$Keyword" : FieldType), 22, 0, (List.range 10).map (fun i => vR 21 i 0)) ∈ y_.2.2.2.1 := List.mem_append_left _ (List.mem_of_getElem? (i := 2) rfl)
theorem ts_dg {i : Nat} (h : i < 2) : ((.byte : FieldType), 26, i, (g_dg i).map vI) ∈ y_.2.2.2.1 := List.mem_append_left _ (by rcases (show i = 0 ∨ i = 1 by omega) with rfl | rfl <;> simp)
theorem ts_by {i : Nat} (h : i < 10) : ((.byte : FieldType), 25, i, (g_by i).map vI) ∈ y_.2.2.2.1 := List.mem_append_right _ (List.mem_map.mpr ⟨_, List.mem_range.mpr h, rfl⟩)
section GY
variable {G : g_G} {X : g_X} {I J : g_I} {mc ms : Nat} {Q Q' : g_R → g_Hp → Prop} {pc k n : Nat} {ls ls' : List (Nat × g_AV)} {st as : List g_AV} {h : g_Hp} {i j idx N : Nat}
theorem g_getD_vI (l : List Int32) (n : Nat) : (l.map vI).getD n (vI 0) = vI (l.getD n 0) := by
  rw [List.getD_eq_getElem?_getD, List.getD_eq_getElem?_getD, List.getElem?_map]
  cases l[n]? <;> rfl
theorem s_ialdsw {x : Int32} (hin : vp_in x (g_sw i).length) (hi : i < 2) (C0 : g_Cx y_ G X I) (d : decode I.2.2.1 pc = .ok (.iaload, 1)) (K : g_V G X I mc ms Q (pc + 1) k n ls (vI ((g_sw i).getD x.toNatClampNeg 0) :: st) h) : g_V G X I mc ms Q pc k n ls (vI x :: vR 23 i j :: st) h :=
  s_ialdc (by decide) (ts_sw hi) (by rw [List.length_map]; exact hin) (g_getD_vI _ _) C0 d K
theorem s_baldby {x : Int32} (hi : i < 10) (hin : vp_in x (g_by i).length) (C0 : g_Cx y_ G X I) (d : decode I.2.2.1 pc = .ok (.baload, 1)) (K : g_V G X I mc ms Q (pc + 1) k n ls (vI ((g_by i).getD x.toNatClampNeg 0) :: st) h) : g_V G X I mc ms Q pc k n ls (vI x :: vR 25 i j :: st) h :=
  s_baldc (by decide) (ts_by hi) (by rw [List.length_map]; exact hin) (g_getD_vI _ _) C0 d K
theorem s_balddg {x : Int32} (hin : vp_in x 100) (hi : i < 2) (C0 : g_Cx y_ G X I) (d : decode I.2.2.1 pc = .ok (.baload, 1)) (K : g_V G X I mc ms Q (pc + 1) k n ls (vI ((g_dg i).getD x.toNatClampNeg 0) :: st) h) : g_V G X I mc ms Q pc k n ls (vI x :: vR 26 i j :: st) h :=
  s_baldc (by decide) (ts_dg hi) (by rw [List.length_map, show (g_dg i).length = 100 by rcases (show i = 0 ∨ i = 1 by omega) with rfl | rfl <;> rfl]; exact hin) (g_getD_vI _ _) C0 d K
theorem s_alenby (hi : i < 10) (C0 : g_Cx y_ G X I) (d : decode I.2.2.1 pc = .ok (.arraylength, 1)) (K : g_V G X I mc ms Q (pc + 1) k n ls (vI (Int32.ofNat (g_by i).length) :: st) h) : g_V G X I mc ms Q pc k n ls (vR 25 i j :: st) h :=
  s_alenc (by decide) (ts_by hi) C0 d (by rw [List.length_map]; exact K)
theorem s_alenkw (C0 : g_Cx y_ G X I) (d : decode I.2.2.1 pc = .ok (.arraylength, 1)) (K : g_V G X I mc ms Q (pc + 1) k n ls (vI 10 :: st) h) : g_V G X I mc ms Q pc k n ls (vR 22 0 j :: st) h :=
  s_alenc (by decide) ts_kw C0 d K
theorem s_aaldkw {x : Int32} (hin : vp_in x 10) (C0 : g_Cx y_ G X I) (d : decode I.2.2.1 pc = .ok (.aaload, 1)) (K : g_V G X I mc ms Q (pc + 1) k n ls (vR 21 x.toNatClampNeg 0 :: st) h) : g_V G X I mc ms Q pc k n ls (vI x :: vR 22 0 j :: st) h := by
  have hlt : x.toNatClampNeg < 10 := Nat.not_le.mp fun q => hin (Or.inr q)
  refine s_aaldc (by decide) ts_kw hin (by decide) ?_ C0 d K
  rw [List.getD_eq_getElem?_getD, List.getElem?_map, List.getElem?_range hlt]
  rfl
end GY
