/-! THE CONSTANTS AT THE LAW'S START -/
def kc_nm : List String := ["SIGNATURE", "DEPRECATED", "CONSTANT_VALUE", "EXCEPTIONS", "INNER_CLASSES", "NEST_MEMBERS", "PERMITTED_SUBCLASSES", "NEST_HOST", "RECORD"]
def kc_own : List String := ["ClassFileReader$Grammar", "ClassFileReader$Grammar", "ClassFileReader$Grammar", "ClassFileReader$Pool", "ClassFileReader$Reading", "ClassFileReader$Pool", "ClassFileReader$Known", "ClassFileReader$Known", "ClassFileReader$Known", "ClassFileReader$Known", "ClassFileReader$Known", "ClassFileReader$Known", "ClassFileReader$Known", "ClassFileReader$Known", "ClassFileReader$Known"]
def kc_k : List Nat := [29, 38, 36, 97, 124, 125, 94, 85, 88, 106, 97, 100, 77, 103, 91]
def kc_L : List Cond := flatC (Jvm.Cond.and given_1 narrow_1)
abbrev kc_st (i : Nat) : Term := .static "ClassFileReader$Known" (kc_nm.getD i "") "LClassFileReader$Known;"
abbrev kc_al : Term := .static "ClassFileReader$Known" "ALL" "[LClassFileReader$Known;"
abbrev kc_s (i : Nat) : Term := .string (kc_own.getD i "") (kc_k.getD i 0)
abbrev kc_v (i : Nat) : Term := .field (kc_s i) "java/lang/String" "value" "[B"
def kc_F : List (String × String × String × List Int32) := [("ClassFileReader$Known", "slot", "I", [0, 1, 2, 3, 4, 5, 6, 7, 8]), ("ClassFileReader$Known", "tables", "I", qx_etb), ("ClassFileReader$Known", "tag", "I", qx_etg), ("ClassFileReader$Known", "elementSize", "I", qx_esz)]
def kc_pf : List (List Nat) := [[83, 33, 41, 110, 26, 60, 71, 96, 50], [84, 34, 42, 111, 27, 61, 72, 97, 51], [85, 35, 43, 112, 28, 62, 73, 98, 52], [86, 36, 44, 113, 29, 63, 74, 99, 53]]
def kc_pn : List (List Nat) := [[0, 88, 89, 120, 87, 91, 92, 106, 90], [88, 0, 46, 115, 37, 65, 76, 101, 55], [89, 46, 0, 116, 45, 66, 77, 102, 56], [120, 115, 116, 0, 114, 118, 119, 121, 117], [87, 37, 45, 114, 0, 64, 75, 100, 54], [91, 65, 66, 118, 64, 0, 79, 104, 67], [92, 76, 77, 119, 75, 79, 0, 105, 78], [106, 101, 102, 121, 100, 104, 105, 0, 103], [90, 55, 56, 117, 54, 67, 78, 103, 0]]
def kc_ps : List (List Nat) := [[0, 141, 152, 164, 193, 220, 242, 263, 288, 307, 332, 366, 391, 416, 444], [141, 0, 153, 165, 194, 221, 243, 264, 289, 308, 333, 367, 392, 417, 445], [152, 153, 0, 166, 195, 222, 244, 265, 290, 309, 334, 368, 393, 418, 446], [164, 165, 166, 0, 196, 223, 245, 266, 291, 310, 335, 369, 394, 419, 447], [193, 194, 195, 196, 0, 225, 247, 268, 293, 312, 337, 371, 396, 421, 449], [220, 221, 222, 223, 225, 0, 248, 269, 294, 313, 338, 372, 397, 422, 450], [242, 243, 244, 245, 247, 248, 0, 270, 295, 314, 339, 373, 398, 423, 451], [263, 264, 265, 266, 268, 269, 270, 0, 296, 315, 340, 374, 399, 424, 452], [288, 289, 290, 291, 293, 294, 295, 296, 0, 316, 341, 375, 400, 425, 453], [307, 308, 309, 310, 312, 313, 314, 315, 316, 0, 342, 376, 401, 426, 454], [332, 333, 334, 335, 337, 338, 339, 340, 341, 342, 0, 377, 402, 427, 455], [366, 367, 368, 369, 371, 372, 373, 374, 375, 376, 377, 0, 403, 428, 456], [391, 392, 393, 394, 396, 397, 398, 399, 400, 401, 402, 403, 0, 429, 457], [416, 417, 418, 419, 421, 422, 423, 424, 425, 426, 427, 428, 429, 0, 458], [444, 445, 446, 447, 449, 450, 451, 452, 453, 454, 455, 456, 457, 458, 0]]
def kc_len : List Nat := qx_txs.map List.length
set_option maxRecDepth 1000000 in
theorem kc_ex : ∀ i, i < 9 → kc_L[([80, 30, 38, 107, 23, 57, 68, 93, 47] : List Nat).getD i 0]? = some (.exactly (kc_st i) "ClassFileReader$Known") := by decide +kernel
set_option maxRecDepth 1000000 in
theorem kc_f : ∀ q, q < 4 → ∀ i, i < 9 → kc_L[(kc_pf.getD q []).getD i 0]? = some (.eq (.field (kc_st i) (kc_F.getD q ("", "", "", [])).1 (kc_F.getD q ("", "", "", [])).2.1 (kc_F.getD q ("", "", "", [])).2.2.1) (.int ((kc_F.getD q ("", "", "", [])).2.2.2.getD i 0))) := by decide +kernel
set_option maxRecDepth 1000000 in
theorem kc_ti : ∀ i, i < 9 → kc_L[([82, 32, 40, 109, 25, 59, 70, 95, 49] : List Nat).getD i 0]? = some (.eq (.field (kc_st i) "ClassFileReader$Known" "title" "Ljava/lang/String;") (kc_s (qx_ttl.getD i 0 - 11))) := by decide +kernel
set_option maxRecDepth 1000000 in
theorem kc_ne : ∀ i, i < 9 → ∀ j, j < 9 → i ≠ j → kc_L[(kc_pn.getD i []).getD j 0]? = some (.not (.eq (kc_st i) (kc_st j))) ∨ kc_L[(kc_pn.getD i []).getD j 0]? = some (.not (.eq (kc_st j) (kc_st i))) := by decide +kernel
set_option maxRecDepth 1000000 in
theorem kc_el : ∀ i, i < 9 → kc_L[([14, 15, 16, 17, 18, 19, 20, 21, 22] : List Nat).getD i 0]? = some (.eq (.elem kc_al (.int (Int32.ofNat i))) (kc_st i)) := by decide +kernel
set_option maxRecDepth 1000000 in
theorem kc_aa : kc_L[11]? = some (.arrayOf kc_al (.object "ClassFileReader$Known")) ∧ kc_L[12]? = some (.eq (.length kc_al) (.int 9)) ∧ kc_L[4]? = some (.eq (.static "java/lang/String" "COMPACT_STRINGS" "Z") (.int 1)) ∧ kc_L[5]? = some (.isRef (.static "jdk/internal/util/Preconditions" "SIOOBE_FORMATTER" "Ljava/util/function/BiFunction;")) ∧ kc_L[180]? = some (.eq (.string "ClassFileReader$Pool" 97) (.string "ClassFileReader$Reading" 119)) ∧ kc_L[167]? = some (.exactly (.string "ClassFileReader$Reading" 119) "java/lang/String") := by decide +kernel
set_option maxRecDepth 1000000 in
theorem kc_sx : ∀ i, i < 15 → kc_L[([122, 129, 142, 154, 181, 198, 226, 249, 271, 297, 317, 343, 378, 404, 430] : List Nat).getD i 0]? = some (.exactly (kc_s i) "java/lang/String") := by decide +kernel
set_option maxRecDepth 1000000 in
theorem kc_sc : ∀ i, i < 15 → kc_L[([123, 130, 143, 155, 182, 199, 227, 250, 272, 298, 318, 344, 379, 405, 431] : List Nat).getD i 0]? = some (.eq (.field (kc_s i) "java/lang/String" "coder" "B") (.int 0)) := by decide +kernel
set_option maxRecDepth 1000000 in
theorem kc_sa : ∀ i, i < 15 → kc_L[([124, 131, 144, 156, 183, 200, 228, 251, 273, 299, 319, 345, 380, 406, 432] : List Nat).getD i 0]? = some (.arrayOf (kc_v i) .byte) := by decide +kernel
set_option maxRecDepth 1000000 in
theorem kc_sl : ∀ i, i < 15 → kc_L[([125, 132, 145, 157, 184, 201, 229, 252, 274, 300, 320, 346, 381, 407, 433] : List Nat).getD i 0]? = some (.eq (.length (kc_v i)) (.int (Int32.ofNat (kc_len.getD i 0)))) := by decide +kernel
set_option maxRecDepth 1000000 in
theorem kc_se : ∀ i, i < 15 → ∀ j, j < kc_len.getD i 0 → kc_L[([126, 133, 146, 158, 185, 202, 230, 253, 275, 301, 321, 347, 382, 408, 434] : List Nat).getD i 0 + j]? = some (.eq (.elem (kc_v i) (.int (Int32.ofNat j))) (.int ((qx_txs.getD i []).getD j 0))) := by decide +kernel
set_option maxRecDepth 1000000 in
theorem kc_sn : ∀ i, i < 15 → ∀ j, j < 15 → i ≠ j → kc_L[(kc_ps.getD i []).getD j 0]? = some (.not (.eq (kc_s i) (kc_s j))) ∨ kc_L[(kc_ps.getD i []).getD j 0]? = some (.not (.eq (kc_s j) (kc_s i))) := by decide +kernel
set_option maxRecDepth 1000000 in
theorem kc_ls : ∀ i, i < 9 → tables_1[([625, 537, 543, 639, 531, 596, 598, 631, 558] : List Nat).getD i 0]? = some (.laysStatic "ClassFileReader$Known" (kc_nm.getD i "") "LClassFileReader$Known;") := by decide +kernel
set_option maxRecDepth 1000000 in
theorem kc_l3 : tables_1[506]? = some (.laysStatic "ClassFileReader$Known" "ALL" "[LClassFileReader$Known;") ∧ tables_1[259]? = some (.laysStatic "java/lang/String" "COMPACT_STRINGS" "Z") ∧ tables_1[302]? = some (.laysStatic "jdk/internal/util/Preconditions" "SIOOBE_FORMATTER" "Ljava/util/function/BiFunction;") ∧ tables_1[19]? = some (.initialized "ClassFileReader$Known") ∧ tables_1[10]? = some (.initialized "java/lang/String") ∧ tables_1[14]? = some (.initialized "jdk/internal/util/Preconditions") ∧ tables_1[67]? = some (.arrayClass .byte) ∧ tables_1[85]? = some (.arrayClass .int) := by decide +kernel
set_option maxRecDepth 1000000 in
theorem kc_nf : ∀ i, i < 15 → tables_1[([48, 50, 51, 53, 55, 69, 86, 88, 89, 91, 93, 995, 997, 998, 999] : List Nat).getD i 0]? = (qx_kNF[i]?).map (fun q => .fieldLinkNest q.1 q.2.1 q.2.2.1 q.2.2.2.1 q.2.2.2.2 qx_host) := by decide +kernel
set_option maxRecDepth 1000000 in
theorem kc_nmm : ∀ i, i < 3 → tables_1[([30, 36, 42] : List Nat).getD i 0]? = (qx_kNM[i]?).map (fun q => .methodLinkNest q.1 q.2.1 q.2.2 qx_host) := by decide +kernel
set_option maxRecDepth 1000000 in
theorem kc_sr : ∀ i, i < 16 → tables_1[(qx_sr.getD i (0, 0, "", 0, 0)).2.2.2.2]? = (qx_kR[i]?).map (fun q => .stringRef q.1 q.2.1 q.2.2.1) := by decide +kernel
set_option maxRecDepth 1000000 in
theorem kc_si : ∀ i, i < 16 → i ≠ 4 → (qx_kR[i]?).map (fun q => (Term.string q.1 q.2.1, q.2.2.2)) = some (kc_s (if i < 4 then i else i - 1), 11 + (if i < 4 then i else i - 1)) := by decide +kernel
