/-! ===== the start: words of the tables ===== -/
theorem n_inT (ws : List Cond) (ps : List Nat) (hp : ws.map some = ps.map (fun i => lw_tbl[i]?)) : ∀ w ∈ ws, w ∈ lw_tbl := by
  intro w hw
  obtain ⟨q, hq⟩ := List.getElem?_of_mem hw
  have h1 : (ws.map some)[q]? = some (some w) := by rw [List.getElem?_map, hq]; rfl
  rw [hp, List.getElem?_map] at h1
  cases hi : ps[q]? with
  | none => rw [hi] at h1; cases h1
  | some i =>
    rw [hi] at h1
    exact List.mem_of_getElem? (Option.some.inj h1)
def n_tZ : List Cond := y_zs.map (fun q => .laysStatic q.1 q.2.1 q.2.2.1) ++ y_zs.map (fun q => .initialized q.1)
set_option maxRecDepth 100000 in
theorem n_tZ_in : ∀ w ∈ n_tZ, w ∈ lw_tbl := n_inT _ [231, 1305, 1307, 594, 592, 588, 590, 874, 938, 1413, 262, 1169, 599, 64, 90, 90, 75, 75, 75, 75, 75, 75, 76, 68, 58, 76] (by decide +kernel)
def n_tQ : List Cond := [.laysStatic "java/lang/Throwable" "UNASSIGNED_STACK" "[Ljava/lang/StackTraceElement;", .laysStatic "java/lang/Throwable" "SUPPRESSED_SENTINEL" "Ljava/util/List;", .laysStatic "jdk/internal/util/Preconditions" "SIOOBE_FORMATTER" "Ljava/util/function/BiFunction;", .initialized "java/lang/Throwable", .initialized "jdk/internal/util/Preconditions"]
set_option maxRecDepth 100000 in
theorem n_tQ_in : ∀ w ∈ n_tQ, w ∈ lw_tbl := n_inT _ [442, 444, 1124, 70, 87] (by decide +kernel)
def n_tS : List Cond := y_ss.map (fun q => .stringRef q.1 q.2.1 q.2.2.1)
set_option maxRecDepth 100000 in
theorem n_tS_in : ∀ w ∈ n_tS, w ∈ lw_tbl := n_inT _ [606, 616, 632, 648, 664, 461, 705, 780, 886, 519, 962, 970, 1023, 1055, 1047, 1442, 1403, 1450, 1458, 1474, 1490, 1498] (by decide +kernel)
def n_kt : List String := ["member ", "wind ", "shift ", "vote ", "strike", "pay ", "picket ", "off ", "offer ", "accept "]
def n_tW : List Cond := (List.range 10).map (fun i => .stringRef "VaneUnion$Keyword" (n_ki.getD i 0) (n_kt.getD i ""))
set_option maxRecDepth 100000 in
theorem n_tW_in : ∀ w ∈ n_tW, w ∈ lw_tbl := n_inT _ [2009, 2010, 2011, 2012, 1999, 2013, 2014, 2015, 2016, 2017] (by decide +kernel)
def n_tN : List Cond := y_ns.map (fun q => .methodLinkNest q.1 q.2.1 q.2.2.1 q.2.2.2) ++ [.fieldLinkNest "VaneUnion$CommandText" 73 "VaneUnion" "KEYWORDS" "[LVaneUnion$Keyword;" "VaneUnion"] ++ g_dcl.map (fun x => .declares x)
set_option maxRecDepth 100000 in
theorem n_tN_in : ∀ w ∈ n_tN, w ∈ lw_tbl := n_inT _ [584, 796, 1009, 1168, 419, 421, 423] (by decide +kernel)
def n_tC : List Cond := y_cs.map (fun q => .castable q.1 q.2)
set_option maxRecDepth 100000 in
theorem n_tC_in : ∀ w ∈ n_tC, w ∈ lw_tbl := n_inT _ [417, 609, 625, 641, 657, 512] (by decide +kernel)
def n_tA : List Cond := [.arrayClass .int, .arrayClass .byte, .arrayClass .long, .arrayClass .double, .arrayOver (.object "VaneUnion$Books"), .arrayOver (.object "VaneUnion$Member"), .arrayOver (.object "VaneUnion$Command")]
set_option maxRecDepth 100000 in
theorem n_tA_in : ∀ w ∈ n_tA, w ∈ lw_tbl := n_inT _ [1566, 253, 1957, 1958, 214, 106, 255] (by decide +kernel)
set_option maxRecDepth 100000 in
theorem n_uRJ0 : ∀ w ∈ u_ws RJ0 TJ0 4, w ∈ lw_tbl := n_inT _ [570, 572, 1364, 1366] (by decide +kernel)
set_option maxRecDepth 100000 in
theorem n_uRJ4 : ∀ w ∈ u_ws RJ4 TJ4 4, w ∈ lw_tbl := n_inT _ [244, 246, 248, 250] (by decide +kernel)
set_option maxRecDepth 100000 in
theorem n_uRJx00060 : ∀ w ∈ u_ws RJx00060 TJx00060 6, w ∈ lw_tbl := n_inT _ [558, 559, 560, 561, 562, 563] (by decide +kernel)
set_option maxRecDepth 100000 in
theorem n_uRJx7c733 : ∀ w ∈ u_ws RJx7c733 TJx7c733 6, w ∈ lw_tbl := n_inT _ [1370, 1371, 1372, 1373, 1374, 1375] (by decide +kernel)
set_option maxRecDepth 100000 in
theorem n_uRX1 : ∀ w ∈ u_ws RX1 TX1 12, w ∈ lw_tbl := n_inT _ [189, 191, 193, 195, 197, 199, 201, 203, 205, 207, 209, 211] (by decide +kernel)
set_option maxRecDepth 100000 in
theorem n_uRX2 : ∀ w ∈ u_ws RX2 TX2 4, w ∈ lw_tbl := n_inT _ [272, 274, 276, 278] (by decide +kernel)
set_option maxRecDepth 100000 in
theorem n_uRX3 : ∀ w ∈ u_ws RX3 TX3 4, w ∈ lw_tbl := n_inT _ [289, 291, 293, 295] (by decide +kernel)
set_option maxRecDepth 100000 in
theorem n_uRX6 : ∀ w ∈ u_ws RX6 TX6 11, w ∈ lw_tbl := n_inT _ [143, 145, 147, 149, 151, 153, 155, 157, 159, 161, 163] (by decide +kernel)
set_option maxRecDepth 100000 in
theorem n_uRX7 : ∀ w ∈ u_ws RX7 TX7 10, w ∈ lw_tbl := n_inT _ [310, 312, 314, 316, 318, 320, 322, 324, 326, 328] (by decide +kernel)
set_option maxRecDepth 100000 in
theorem n_uRX8 : ∀ w ∈ u_ws RX8 TX8 20, w ∈ lw_tbl := n_inT _ [1525, 1527, 1529, 1531, 1533, 1535, 1537, 1539, 1541, 1543, 1545, 1547, 1549, 1551, 1553, 1555, 1557, 1559, 1561, 1563] (by decide +kernel)
def n_tI : List Cond := [.instantiable RJ0 4, .instantiable RJ4 4, .instantiable RJx00060 6, .instantiable RJx7c733 6, .instantiable RX1 12, .instantiable RX2 4, .instantiable RX3 4, .instantiable RX6 11, .instantiable RX7 10, .instantiable RX8 20]
set_option maxRecDepth 100000 in
theorem n_tI_in : ∀ w ∈ n_tI, w ∈ lw_tbl := n_inT _ [569, 222, 554, 1245, 100, 256, 216, 107, 92, 1500] (by decide +kernel)
def n_tP : List Cond := [.selects "java/lang/StringBuilder" ⟨"java/lang/AbstractStringBuilder", "isLatin1", "()Z"⟩ ⟨"java/lang/AbstractStringBuilder", "isLatin1", "()Z"⟩, .privateMethod ⟨"java/lang/AbstractStringBuilder", "newCapacity", "(I)I"⟩, .instanceMethod ⟨"java/lang/AbstractStringBuilder", "newCapacity", "(I)I"⟩, .privateMethod ⟨"java/lang/AbstractStringBuilder", "ensureCapacityInternal", "(I)V"⟩, .instanceMethod ⟨"java/lang/AbstractStringBuilder", "ensureCapacityInternal", "(I)V"⟩]
set_option maxRecDepth 100000 in
theorem n_tP_in : ∀ w ∈ n_tP, w ∈ lw_tbl := n_inT _ [1099, 1068, 1069, 1064, 1065] (by decide +kernel)
