/-! ===== the start: what the Statement gives, by its places ===== -/
def n_FL : List Cond := flatC (Jvm.Cond.and given_1 narrow_1)
theorem n_inL (ws : List Cond) (ps : List Nat) (hp : ws.map some = ps.map (fun i => n_FL[i]?)) : ∀ w ∈ ws, w ∈ n_FL := by
  intro w hw
  obtain ⟨q, hq⟩ := List.getElem?_of_mem hw
  have h1 : (ws.map some)[q]? = some (some w) := by rw [List.getElem?_map, hq]; rfl
  rw [hp, List.getElem?_map] at h1
  cases hi : ps[q]? with
  | none => rw [hi] at h1; cases h1
  | some i =>
    rw [hi] at h1
    exact List.mem_of_getElem? (Option.some.inj h1)
def n_fl : List String := ["NOTHING", "NO_INDEX", "BAD_ARGUMENT", "BAD_STATE", "UNSUPPORTED", "NO_ELEMENT"]
def n_kn : List String := ["MEMBER", "WIND", "SHIFT", "VOTE", "STRIKE", "PAY", "PICKET", "OFF", "OFFER", "ACCEPT"]
def n_ki : List Nat := [68, 74, 77, 80, 83, 86, 89, 92, 95, 98]
def n_si : List Nat := [376, 378, 380, 384, 387, 347, 356, 106, 166, 360, 208, 213, 363, 267, 258, 288, 283, 293, 295, 302, 330, 342]
/-- the term that says where a constant's place is -/
def n_tm (k i : Nat) : Term := match k with
  | 20 => .static "VaneUnion$Fault" (n_fl.getD i "") "LVaneUnion$Fault;"
  | 21 => .static "VaneUnion$Keyword" (n_kn.getD i "") "LVaneUnion$Keyword;"
  | 22 => .static "VaneUnion" "KEYWORDS" "[LVaneUnion$Keyword;"
  | 23 => .static "VaneUnion$1" (if i = 0 then "$SwitchMap$VaneUnion$Fault" else "$SwitchMap$VaneUnion$Keyword") "[I"
  | 24 => if i < 10 then .string "VaneUnion$Keyword" (n_ki.getD i 0) else .string "VaneUnion" (n_si.getD (i - 10) 0)
  | 25 => .field (.string "VaneUnion$Keyword" (n_ki.getD i 0)) "java/lang/String" "value" "[B"
  | _ => .static "java/lang/Integer" (if i = 0 then "DigitOnes" else "DigitTens") "[B"
def n_ad (args : Array Value) (s : State) (k i : Nat) : Nat := match (n_tm k i).eval args s none [] s with
  | some (.ref a) => a
  | _ => 0
theorem n_ev {args : Array Value} {s : State} {k i a : Nat} (h : (n_tm k i).eval args s none [] s = some (.ref a)) : (n_tm k i).eval args s none [] s = some (.ref (n_ad args s k i)) := by
  unfold n_ad
  rw [h]
def n_w0 : List Cond := [.eq (.static "java/lang/String" "COMPACT_STRINGS" "Z") (.int 1), .isRef (.static "java/lang/Throwable" "UNASSIGNED_STACK" "[Ljava/lang/StackTraceElement;"), .isRef (.static "java/lang/Throwable" "SUPPRESSED_SENTINEL" "Ljava/util/List;"), .isRef (.static "jdk/internal/util/Preconditions" "SIOOBE_FORMATTER" "Ljava/util/function/BiFunction;")]
set_option maxRecDepth 100000 in
theorem n_w0_in : ∀ w ∈ n_w0, w ∈ n_FL := n_inL _ [4, 11, 12, 55] (by decide +kernel)
def n_wF : List Cond := (List.range 6).map (fun i => .exactly (n_tm 20 i) "VaneUnion$Fault") ++ (List.range 6).map (fun i => .eq (.field (n_tm 20 i) "java/lang/Enum" "ordinal" "I") (.int (Int32.ofNat i)))
set_option maxRecDepth 100000 in
theorem n_wF_in : ∀ w ∈ n_wF, w ∈ n_FL := n_inL _ [25, 13, 16, 20, 40, 47, 26, 14, 17, 21, 41, 48] (by decide +kernel)
def n_pr : List (Nat × Nat) := [(0, 4), (0, 5), (1, 0), (1, 2), (1, 3), (1, 4), (1, 5), (2, 0), (2, 3), (2, 4), (2, 5), (3, 0), (3, 4), (3, 5), (4, 5)]
def n_wN : List Cond := n_pr.map (fun q => .not (.eq (n_tm 20 q.1) (n_tm 20 q.2)))
set_option maxRecDepth 100000 in
theorem n_wN_in : ∀ w ∈ n_wN, w ∈ n_FL := n_inL _ [46, 53, 28, 19, 23, 43, 50, 29, 24, 44, 51, 30, 45, 52, 54] (by decide +kernel)
def n_wK : List Cond := (List.range 10).map (fun i => .exactly (n_tm 21 i) "VaneUnion$Keyword") ++ (List.range 10).map (fun i => .eq (.field (n_tm 21 i) "java/lang/Enum" "ordinal" "I") (.int (Int32.ofNat i)))
set_option maxRecDepth 100000 in
theorem n_wK_in : ∀ w ∈ n_wK, w ∈ n_FL := n_inL _ [293, 306, 320, 335, 5, 351, 368, 386, 405, 425, 294, 307, 321, 336, 6, 352, 369, 387, 406, 426] (by decide +kernel)
def n_wK2 : List Cond := (List.range 10).map (fun i => .eq (.field (n_tm 21 i) "VaneUnion$Keyword" "word" "Ljava/lang/String;") (n_tm 24 i))
set_option maxRecDepth 100000 in
theorem n_wK2_in : ∀ w ∈ n_wK2, w ∈ n_FL := n_inL _ [295, 308, 322, 337, 7, 353, 370, 388, 407, 427] (by decide +kernel)
def n_wKd : List Cond := (List.range 10).map (fun i => .eq (.field (n_tm 21 i) "VaneUnion$Keyword" "hasDigit" "Z") (.int (g_hasDigit.getD i 0)))
set_option maxRecDepth 100000 in
theorem n_wKd_in : ∀ w ∈ n_wKd, w ∈ n_FL := n_inL _ [296, 309, 323, 338, 8, 354, 371, 389, 408, 428] (by decide +kernel)
def n_wKn : List Cond := (List.range 10).map (fun i => .eq (.field (n_tm 21 i) "VaneUnion$Keyword" "hasNumber" "Z") (.int (g_hasNumber.getD i 0)))
set_option maxRecDepth 100000 in
theorem n_wKn_in : ∀ w ∈ n_wKn, w ∈ n_FL := n_inL _ [297, 310, 324, 339, 9, 355, 372, 390, 409, 429] (by decide +kernel)
def n_wKs : List Cond := (List.range 10).map (fun i => .eq (.field (n_tm 21 i) "VaneUnion$Keyword" "hasSign" "Z") (.int (g_hasSign.getD i 0)))
set_option maxRecDepth 100000 in
theorem n_wKs_in : ∀ w ∈ n_wKs, w ∈ n_FL := n_inL _ [298, 311, 325, 340, 10, 356, 373, 391, 410, 430] (by decide +kernel)
def n_wW : List Cond := (List.range 10).map (fun i => .exactly (n_tm 24 i) "java/lang/String") ++ (List.range 10).map (fun i => .eq (.field (n_tm 24 i) "java/lang/String" "coder" "B") (.int 0))
set_option maxRecDepth 100000 in
theorem n_wW_in : ∀ w ∈ n_wW, w ∈ n_FL := n_inL _ [1326, 1337, 1346, 1356, 1316, 1365, 1373, 1384, 1392, 1402, 1327, 1338, 1347, 1357, 1317, 1366, 1374, 1385, 1393, 1403] (by decide +kernel)
def n_wL : List Cond := [.arrayOf (n_tm 22 0) (.object "VaneUnion$Keyword"), .eq (.length (n_tm 22 0)) (.int 10)] ++ (List.range 10).map (fun j => .eq (.elem (n_tm 22 0) (.int (Int32.ofNat j))) (n_tm 21 j))
set_option maxRecDepth 100000 in
theorem n_wL_in : ∀ w ∈ n_wL, w ∈ n_FL := n_inL _ [61, 62, 64, 65, 66, 67, 68, 69, 70, 71, 72, 73] (by decide +kernel)
def n_wS0 : List Cond := [.arrayOf (n_tm 23 0) .int, .eq (.length (n_tm 23 0)) (.int (Int32.ofNat 6))] ++ (List.range 6).map (fun j => .eq (.elem (n_tm 23 0) (.int (Int32.ofNat j))) (.int ((g_sw 0).getD j 0)))
set_option maxRecDepth 100000 in
theorem n_wS0_in : ∀ w ∈ n_wS0, w ∈ n_FL := n_inL _ [32, 33, 34, 35, 36, 37, 38, 39] (by decide +kernel)
def n_wS1 : List Cond := [.arrayOf (n_tm 23 1) .int, .eq (.length (n_tm 23 1)) (.int (Int32.ofNat 10))] ++ (List.range 10).map (fun j => .eq (.elem (n_tm 23 1) (.int (Int32.ofNat j))) (.int ((g_sw 1).getD j 0)))
set_option maxRecDepth 100000 in
theorem n_wS1_in : ∀ w ∈ n_wS1, w ∈ n_FL := n_inL _ [281, 282, 283, 284, 285, 286, 287, 288, 289, 290, 291, 292] (by decide +kernel)
def n_wD0 : List Cond := [.arrayOf (n_tm 26 0) .byte, .eq (.length (n_tm 26 0)) (.int (Int32.ofNat 100))] ++ (List.range 100).map (fun j => .eq (.elem (n_tm 26 0) (.int (Int32.ofNat j))) (.int ((g_dg 0).getD j 0)))
set_option maxRecDepth 100000 in
theorem n_wD0_in : ∀ w ∈ n_wD0, w ∈ n_FL := n_inL _ [75, 76, 77, 78, 79, 80, 81, 82, 83, 84, 85, 86, 87, 88, 89, 90, 91, 92, 93, 94, 95, 96, 97, 98, 99, 100, 101, 102, 103, 104, 105, 106, 107, 108, 109, 110, 111, 112, 113, 114, 115, 116, 117, 118, 119, 120, 121, 122, 123, 124, 125, 126, 127, 128, 129, 130, 131, 132, 133, 134, 135, 136, 137, 138, 139, 140, 141, 142, 143, 144, 145, 146, 147, 148, 149, 150, 151, 152, 153, 154, 155, 156, 157, 158, 159, 160, 161, 162, 163, 164, 165, 166, 167, 168, 169, 170, 171, 172, 173, 174, 175, 176] (by decide +kernel)
def n_wD1 : List Cond := [.arrayOf (n_tm 26 1) .byte, .eq (.length (n_tm 26 1)) (.int (Int32.ofNat 100))] ++ (List.range 100).map (fun j => .eq (.elem (n_tm 26 1) (.int (Int32.ofNat j))) (.int ((g_dg 1).getD j 0)))
set_option maxRecDepth 100000 in
theorem n_wD1_in : ∀ w ∈ n_wD1, w ∈ n_FL := n_inL _ [178, 179, 180, 181, 182, 183, 184, 185, 186, 187, 188, 189, 190, 191, 192, 193, 194, 195, 196, 197, 198, 199, 200, 201, 202, 203, 204, 205, 206, 207, 208, 209, 210, 211, 212, 213, 214, 215, 216, 217, 218, 219, 220, 221, 222, 223, 224, 225, 226, 227, 228, 229, 230, 231, 232, 233, 234, 235, 236, 237, 238, 239, 240, 241, 242, 243, 244, 245, 246, 247, 248, 249, 250, 251, 252, 253, 254, 255, 256, 257, 258, 259, 260, 261, 262, 263, 264, 265, 266, 267, 268, 269, 270, 271, 272, 273, 274, 275, 276, 277, 278, 279] (by decide +kernel)
def n_wB0 : List Cond := [.arrayOf (n_tm 25 0) .byte, .eq (.length (n_tm 25 0)) (.int (Int32.ofNat 7))] ++ (List.range 7).map (fun j => .eq (.elem (n_tm 25 0) (.int (Int32.ofNat j))) (.int ((g_by 0).getD j 0)))
set_option maxRecDepth 100000 in
theorem n_wB0_in : ∀ w ∈ n_wB0, w ∈ n_FL := n_inL _ [1328, 1329, 1330, 1331, 1332, 1333, 1334, 1335, 1336] (by decide +kernel)
def n_wB1 : List Cond := [.arrayOf (n_tm 25 1) .byte, .eq (.length (n_tm 25 1)) (.int (Int32.ofNat 5))] ++ (List.range 5).map (fun j => .eq (.elem (n_tm 25 1) (.int (Int32.ofNat j))) (.int ((g_by 1).getD j 0)))
set_option maxRecDepth 100000 in
theorem n_wB1_in : ∀ w ∈ n_wB1, w ∈ n_FL := n_inL _ [1339, 1340, 1341, 1342, 1343, 1344, 1345] (by decide +kernel)
def n_wB2 : List Cond := [.arrayOf (n_tm 25 2) .byte, .eq (.length (n_tm 25 2)) (.int (Int32.ofNat 6))] ++ (List.range 6).map (fun j => .eq (.elem (n_tm 25 2) (.int (Int32.ofNat j))) (.int ((g_by 2).getD j 0)))
set_option maxRecDepth 100000 in
theorem n_wB2_in : ∀ w ∈ n_wB2, w ∈ n_FL := n_inL _ [1348, 1349, 1350, 1351, 1352, 1353, 1354, 1355] (by decide +kernel)
def n_wB3 : List Cond := [.arrayOf (n_tm 25 3) .byte, .eq (.length (n_tm 25 3)) (.int (Int32.ofNat 5))] ++ (List.range 5).map (fun j => .eq (.elem (n_tm 25 3) (.int (Int32.ofNat j))) (.int ((g_by 3).getD j 0)))
set_option maxRecDepth 100000 in
theorem n_wB3_in : ∀ w ∈ n_wB3, w ∈ n_FL := n_inL _ [1358, 1359, 1360, 1361, 1362, 1363, 1364] (by decide +kernel)
def n_wB4 : List Cond := [.arrayOf (n_tm 25 4) .byte, .eq (.length (n_tm 25 4)) (.int (Int32.ofNat 6))] ++ (List.range 6).map (fun j => .eq (.elem (n_tm 25 4) (.int (Int32.ofNat j))) (.int ((g_by 4).getD j 0)))
set_option maxRecDepth 100000 in
theorem n_wB4_in : ∀ w ∈ n_wB4, w ∈ n_FL := n_inL _ [1318, 1319, 1320, 1321, 1322, 1323, 1324, 1325] (by decide +kernel)
def n_wB5 : List Cond := [.arrayOf (n_tm 25 5) .byte, .eq (.length (n_tm 25 5)) (.int (Int32.ofNat 4))] ++ (List.range 4).map (fun j => .eq (.elem (n_tm 25 5) (.int (Int32.ofNat j))) (.int ((g_by 5).getD j 0)))
set_option maxRecDepth 100000 in
theorem n_wB5_in : ∀ w ∈ n_wB5, w ∈ n_FL := n_inL _ [1367, 1368, 1369, 1370, 1371, 1372] (by decide +kernel)
def n_wB6 : List Cond := [.arrayOf (n_tm 25 6) .byte, .eq (.length (n_tm 25 6)) (.int (Int32.ofNat 7))] ++ (List.range 7).map (fun j => .eq (.elem (n_tm 25 6) (.int (Int32.ofNat j))) (.int ((g_by 6).getD j 0)))
set_option maxRecDepth 100000 in
theorem n_wB6_in : ∀ w ∈ n_wB6, w ∈ n_FL := n_inL _ [1375, 1376, 1377, 1378, 1379, 1380, 1381, 1382, 1383] (by decide +kernel)
def n_wB7 : List Cond := [.arrayOf (n_tm 25 7) .byte, .eq (.length (n_tm 25 7)) (.int (Int32.ofNat 4))] ++ (List.range 4).map (fun j => .eq (.elem (n_tm 25 7) (.int (Int32.ofNat j))) (.int ((g_by 7).getD j 0)))
set_option maxRecDepth 100000 in
theorem n_wB7_in : ∀ w ∈ n_wB7, w ∈ n_FL := n_inL _ [1386, 1387, 1388, 1389, 1390, 1391] (by decide +kernel)
def n_wB8 : List Cond := [.arrayOf (n_tm 25 8) .byte, .eq (.length (n_tm 25 8)) (.int (Int32.ofNat 6))] ++ (List.range 6).map (fun j => .eq (.elem (n_tm 25 8) (.int (Int32.ofNat j))) (.int ((g_by 8).getD j 0)))
set_option maxRecDepth 100000 in
theorem n_wB8_in : ∀ w ∈ n_wB8, w ∈ n_FL := n_inL _ [1394, 1395, 1396, 1397, 1398, 1399, 1400, 1401] (by decide +kernel)
def n_wB9 : List Cond := [.arrayOf (n_tm 25 9) .byte, .eq (.length (n_tm 25 9)) (.int (Int32.ofNat 7))] ++ (List.range 7).map (fun j => .eq (.elem (n_tm 25 9) (.int (Int32.ofNat j))) (.int ((g_by 9).getD j 0)))
set_option maxRecDepth 100000 in
theorem n_wB9_in : ∀ w ∈ n_wB9, w ∈ n_FL := n_inL _ [1404, 1405, 1406, 1407, 1408, 1409, 1410, 1411, 1412] (by decide +kernel)
def n_wM : List Cond := y_ms.map (fun q => .not (.castable q.1 q.2))
set_option maxRecDepth 100000 in
theorem n_wM_in : ∀ w ∈ n_wM, w ∈ n_FL := n_inL _ [455, 456, 472, 490, 457, 458, 507] (by decide +kernel)
